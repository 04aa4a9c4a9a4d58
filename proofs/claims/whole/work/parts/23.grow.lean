/-! the class's world grows -/
def nA (ad : Adr) (τ : Tau) (z : Nat) : Nat → Prop := fun q => CA ad τ q ∨ z ≤ q
def nP (D : va_G) (cT : Nat → ClassId) (ad : Adr) (τ τ2 ρ : Tau) (z : Nat) (H : Heap) : Prop := ∃ ad2 : Adr, (∀ k i, cLive τ k i → ad2 k i = ad k i) ∧ (∀ k i, cLive τ2 k i → ¬ cLive τ k i → z ≤ ad2 k i) ∧ CW D cT ad2 τ2 ρ H
/-- what isn't there yet is zero -/
def Zer (τ : Tau) : Prop := (∀ h : Nat, τ 0 0 ≤ h → τ 1 h = 0 ∧ τ 4 h = 0 ∧ τ 27 h = 0 ∧ ∀ k, k < 20 → τ 2 (20 * h + k) = 0 ∧ τ 3 (20 * h + k) = 0 ∧ τ 5 (20 * h + k) = 0) ∧ (∀ g : Nat, 2 * τ 0 0 ≤ g → τ 8 g = 0 ∧ ∀ k, k < 20 → τ 9 (20 * g + k) = 0 ∧ τ 10 (20 * g + k) = 0) ∧ (∀ b : Nat, τ 18 0 ≤ b → τ 19 b = 0) ∧ ∀ b q : Nat, q < 16 → τ 19 b ≤ q → τ 23 (16 * b + q) = 0 ∧ τ 24 (16 * b + q) = 0
section GR
variable {D : va_G} {cT : Nat → ClassId} {ad ad2 : Adr} {τ τ2 ρ : Tau} {H H1 : Heap} {i : Nat}
theorem CW.kept (hW : CW D cT ad τ ρ H) (hq : ∀ q, CA ad τ q → H1[q]? = H[q]?) : CW D cT ad τ ρ H1 := ⟨fun k i hl => (hW.1 k i hl).kept (hq _ ⟨k, i, hl, rfl⟩), hW.2⟩
theorem CW.lt {k : Nat} (hW : CW D cT ad τ ρ H) (hl : cLive τ k i) : ad k i < H.size := cCell.lt hl (hW.1 k i hl)
theorem CW.grow {z : Nat} (hW : CW D cT ad τ ρ H) (hL : ∀ k i, cLive τ k i → ad2 k i = ad k i) (hz : ∀ k i, cLive τ k i → ad k i < z) (hN : ∀ k i, cLive τ2 k i → ¬ cLive τ k i → z ≤ ad2 k i) (hI : ∀ k i k2 i2, cLive τ2 k i → ¬ cLive τ k i → cLive τ2 k2 i2 → ¬ cLive τ k2 i2 → ad2 k i = ad2 k2 i2 → k = k2 ∧ i = i2) (hC : ∀ k i, cLive τ2 k i → cCell D cT ad2 τ2 ρ k i H1) : CW D cT ad2 τ2 ρ H1 := by
  refine ⟨hC, fun k i k2 i2 h1 h2 e => ?_⟩
  by_cases g1 : cLive τ k i <;> by_cases g2 : cLive τ k2 i2
  · exact hW.2 k i k2 i2 g1 g2 (by rw [← hL _ _ g1, ← hL _ _ g2]; exact e)
  · have a1 := hz _ _ g1
    have a2 := hN _ _ h2 g2
    rw [hL _ _ g1] at e
    omega
  · have a1 := hz _ _ g2
    have a2 := hN _ _ h1 g1
    rw [hL _ _ g2] at e
    omega
  · exact hI k i k2 i2 h1 g1 h2 g2 e
theorem cell_ad {k : Nat} (hl : cLive τ k i) (hL : ∀ k i, cLive τ k i → ad2 k i = ad k i) (hc : cCell D cT ad τ ρ k i H) : cCell D cT ad2 τ ρ k i H := by
  match k, hl, hc with
  | 0, hl, hc => (show OBJ D (ad2 0 i) 7 [.ref (ad2 1 0), .ref (ad2 2 0), .ref (ad2 3 0), .ref (ad2 4 0), .ref (ad2 5 0), .ref (ad2 8 0), .int (iI (τ 0 0)), .int (iI (τ 12 0)), .int (iI (τ 18 0)), .int (iI (τ 25 0)), .int (iI (τ 25 1))] H); rw [hL 0 i hl, hL 1 0 rfl, hL 2 0 rfl, hL 3 0 rfl, hL 4 0 rfl, hL 5 0 rfl, hL 8 0 rfl]; exact hc
  | 1, hl, hc => refine RAR_cong (by rw [hL 1 i hl]; exact hc : RAR D (ad2 1 i) (cT 2) 4 (fun h => if (h : Int) < τ 0 0 then some (ad 11 h) else none) H) (fun h hh => ?_); show (if (h : Int) < τ 0 0 then some (ad 11 h) else none) = (if (h : Int) < τ 0 0 then some (ad2 11 h) else none); exact if q : (h : Int) < τ 0 0 then (by rw [if_pos q, if_pos q, hL 11 h q]) else (by rw [if_neg q, if_neg q])
  | 2, hl, hc => refine RAR_cong (by rw [hL 2 i hl]; exact hc : RAR D (ad2 2 i) (cT 3) 30 (fun h => if (h : Int) < τ 12 0 then some (ad 18 h) else none) H) (fun h hh => ?_); show (if (h : Int) < τ 12 0 then some (ad 18 h) else none) = (if (h : Int) < τ 12 0 then some (ad2 18 h) else none); exact if q : (h : Int) < τ 12 0 then (by rw [if_pos q, if_pos q, hL 18 h q]) else (by rw [if_neg q, if_neg q])
  | 3, hl, hc => refine RAR_cong (by rw [hL 3 i hl]; exact hc : RAR D (ad2 3 i) (cT 4) 6 (fun h => if (h : Int) < τ 18 0 then some (ad 19 h) else none) H) (fun h hh => ?_); show (if (h : Int) < τ 18 0 then some (ad 19 h) else none) = (if (h : Int) < τ 18 0 then some (ad2 19 h) else none); exact if q : (h : Int) < τ 18 0 then (by rw [if_pos q, if_pos q, hL 19 h q]) else (by rw [if_neg q, if_neg q])
  | 4, hl, hc => (show IAR D (ad2 4 i) (cT 0) 10 (τ 11) H); rw [hL 4 i hl]; exact hc
  | 5, hl, hc => (show OBJ D (ad2 5 i) 4 [.ref (ad2 6 0), .ref (ad2 7 0)] H); rw [hL 5 i hl, hL 6 0 rfl, hL 7 0 rfl]; exact hc
  | 6, hl, hc => (show IAR D (ad2 6 i) (cT 0) 20 (ρ 0) H); rw [hL 6 i hl]; exact hc
  | 7, hl, hc => (show IAR D (ad2 7 i) (cT 1) 20 (ρ 1) H); rw [hL 7 i hl]; exact hc
  | 8, hl, hc => (show OBJ D (ad2 8 i) 3 [.ref (ad2 9 0)] H); rw [hL 8 i hl, hL 9 0 rfl]; exact hc
  | 9, hl, hc => refine RAR_cong (by rw [hL 9 i hl]; exact hc : RAR D (ad2 9 i) (cT 6) 21 (fun r => some (ad 10 r)) H) (fun h hh => ?_); show some (ad 10 h) = some (ad2 10 h); rw [hL 10 h hh]
  | 10, hl, hc => (show IAR D (ad2 10 i) (cT 0) 21 (ρ (2 + i)) H); rw [hL 10 i hl]; exact hc
  | 11, hl, hc => (show OBJ D (ad2 11 i) 1 [.ref (ad2 12 i), .ref (ad2 13 i), .ref (ad2 14 i), .ref (ad2 15 (2 * i)), .ref (ad2 15 (2 * i + 1)), .int (iI (τ 1 i)), .int (iI (τ 4 i)), .int (iI (τ 27 i))] H); rw [hL 11 i hl, hL 12 i hl, hL 13 i hl, hL 14 i hl, hL 15 (2 * i) (show ((2 * i : Nat) : Int) < 2 * τ 0 0 by have q : (i : Int) < τ 0 0 := hl; omega), hL 15 (2 * i + 1) (show ((2 * i + 1 : Nat) : Int) < 2 * τ 0 0 by have q : (i : Int) < τ 0 0 := hl; omega)]; exact hc
  | 12, hl, hc => (show IAR D (ad2 12 i) (cT 0) 20 (fun k => τ 2 (20 * i + k)) H); rw [hL 12 i hl]; exact hc
  | 13, hl, hc => (show IAR D (ad2 13 i) (cT 0) 20 (fun k => τ 3 (20 * i + k)) H); rw [hL 13 i hl]; exact hc
  | 14, hl, hc => (show IAR D (ad2 14 i) (cT 0) 20 (fun k => τ 5 (20 * i + k)) H); rw [hL 14 i hl]; exact hc
  | 15, hl, hc => (show OBJ D (ad2 15 i) 2 [.ref (ad2 16 i), .ref (ad2 17 i), .int (iI (τ 8 i))] H); rw [hL 15 i hl, hL 16 i hl, hL 17 i hl]; exact hc
  | 16, hl, hc => (show IAR D (ad2 16 i) (cT 0) 20 (fun k => τ 9 (20 * i + k)) H); rw [hL 16 i hl]; exact hc
  | 17, hl, hc => (show IAR D (ad2 17 i) (cT 0) 20 (fun k => τ 10 (20 * i + k)) H); rw [hL 17 i hl]; exact hc
  | 18, hl, hc => (show OBJ D (ad2 18 i) 6 [.int (iI (τ 13 i)), .int (iI (τ 14 i)), .int (iI (τ 15 i)), .int (iI (τ 16 i))] H); rw [hL 18 i hl]; exact hc
  | 19, hl, hc => (show OBJ D (ad2 19 i) 0 [.ref (ad2 20 i), .int (iI (τ 19 i))] H); rw [hL 19 i hl, hL 20 i hl]; exact hc
  | 20, hl, hc => refine RAR_cong (by rw [hL 20 i hl]; exact hc : RAR D (ad2 20 i) (cT 5) 16 (fun q => if (q : Int) < τ 19 i then some (ad 21 (16 * i + q)) else none) H) (fun h hh => ?_); show (if (h : Int) < τ 19 i then some (ad 21 (16 * i + h)) else none) = (if (h : Int) < τ 19 i then some (ad2 21 (16 * i + h)) else none); exact if q : (h : Int) < τ 19 i then (by rw [if_pos q, if_pos q, hL 21 (16 * i + h) ⟨by rw [show (16 * i + h) / 16 = i by omega]; exact hl, by rw [show (16 * i + h) / 16 = i by omega, show (16 * i + h) % 16 = h by omega]; exact q⟩]) else (by rw [if_neg q, if_neg q])
  | 21, hl, hc => (show OBJ D (ad2 21 i) 5 [.int (iI (τ 20 i)), .int (iI (τ 21 i)), .int (iI (τ 22 i)), .int (iI (τ 23 i)), .int (iI (τ 24 i))] H); rw [hL 21 i hl]; exact hc
  | k + 22, hl, hc => exact trivial
theorem cOld {k ka ia kb ib : Nat} (hW : CW D cT ad τ ρ H) (oq : ∀ q : Nat, q ≠ ad ka ia → q ≠ ad kb ib → H1[q]? = H[q]?) (hL : ∀ k i, cLive τ k i → ad2 k i = ad k i) (la : cLive τ ka ia) (lb : cLive τ kb ib) (hl : cLive τ k i) (n1 : ¬ (k = ka ∧ i = ia)) (n2 : ¬ (k = kb ∧ i = ib)) : cCell D cT ad2 τ ρ k i H1 :=
  cell_ad hl hL ((hW.1 k i hl).kept (oq _ (fun e => n1 (hW.2 _ _ _ _ hl la e)) (fun e => n2 (hW.2 _ _ _ _ hl lb e))))
def hAd (ad : Adr) (n z : Nat) : Adr := fun k i => match k with
  | 11 => if i = n then z else ad 11 i
  | 12 => if i = n then z + 1 else ad 12 i
  | 13 => if i = n then z + 2 else ad 13 i
  | 14 => if i = n then z + 3 else ad 14 i
  | 15 => if i = 2 * n then z + 4 else if i = 2 * n + 1 then z + 7 else ad 15 i
  | 16 => if i = 2 * n then z + 5 else if i = 2 * n + 1 then z + 8 else ad 16 i
  | 17 => if i = 2 * n then z + 6 else if i = 2 * n + 1 then z + 9 else ad 17 i
  | k => ad k i
theorem CW.hole {n z : Nat} (hW : CW D cT ad τ ρ H) (hn : τ 0 0 = n) (hz : ∀ k i, cLive τ k i → ad k i < z) (hZ : Zer τ) (oq : ∀ q : Nat, q ≠ ad 0 0 → q ≠ ad 1 0 → H1[q]? = H[q]?) (h0 : OBJ D (ad 0 0) 7 [.ref (ad 1 0), .ref (ad 2 0), .ref (ad 3 0), .ref (ad 4 0), .ref (ad 5 0), .ref (ad 8 0), .int (iI (τ 0 0 + 1)), .int (iI (τ 12 0)), .int (iI (τ 18 0)), .int (iI (τ 25 0)), .int (iI (τ 25 1))] H1) (h1 : RAR D (ad 1 0) (cT 2) 4 (fun i => if i = n then some z else if (i : Int) < τ 0 0 then some (ad 11 i) else none) H1)
    (c0 : OBJ D z 1 [.ref (z + 1), .ref (z + 2), .ref (z + 3), .ref (z + 4), .ref (z + 7), .int (iI 0), .int (iI 0), .int (iI 0)] H1) (c1 : IAR D (z + 1) (cT 0) 20 (fun _ => 0) H1) (c2 : IAR D (z + 2) (cT 0) 20 (fun _ => 0) H1) (c3 : IAR D (z + 3) (cT 0) 20 (fun _ => 0) H1) (c4 : OBJ D (z + 4) 2 [.ref (z + 5), .ref (z + 6), .int (iI 0)] H1) (c5 : IAR D (z + 5) (cT 0) 20 (fun _ => 0) H1) (c6 : IAR D (z + 6) (cT 0) 20 (fun _ => 0) H1) (c7 : OBJ D (z + 7) 2 [.ref (z + 8), .ref (z + 9), .int (iI 0)] H1) (c8 : IAR D (z + 8) (cT 0) 20 (fun _ => 0) H1) (c9 : IAR D (z + 9) (cT 0) 20 (fun _ => 0) H1) : nP D cT ad τ (tu τ 0 0 (τ 0 0 + 1)) ρ z H1 := by
  have z1 := hZ.1 n (by omega)
  have z2 := hZ.2.1 (2 * n) (by omega)
  have z3 := hZ.2.1 (2 * n + 1) (by omega)
  have hL : ∀ k i, cLive τ k i → hAd ad n z k i = ad k i := by
    intro k i hl
    match k, hl with
    | 0, hl => rfl
    | 1, hl => rfl
    | 2, hl => rfl
    | 3, hl => rfl
    | 4, hl => rfl
    | 5, hl => rfl
    | 6, hl => rfl
    | 7, hl => rfl
    | 8, hl => rfl
    | 9, hl => rfl
    | 10, hl => rfl
    | 11, hl => exact if_neg (by have q : (i : Int) < τ 0 0 := hl; omega)
    | 12, hl => exact if_neg (by have q : (i : Int) < τ 0 0 := hl; omega)
    | 13, hl => exact if_neg (by have q : (i : Int) < τ 0 0 := hl; omega)
    | 14, hl => exact if_neg (by have q : (i : Int) < τ 0 0 := hl; omega)
    | 15, hl => exact (if_neg (by have q : (i : Int) < 2 * τ 0 0 := hl; omega)).trans (if_neg (by have q : (i : Int) < 2 * τ 0 0 := hl; omega))
    | 16, hl => exact (if_neg (by have q : (i : Int) < 2 * τ 0 0 := hl; omega)).trans (if_neg (by have q : (i : Int) < 2 * τ 0 0 := hl; omega))
    | 17, hl => exact (if_neg (by have q : (i : Int) < 2 * τ 0 0 := hl; omega)).trans (if_neg (by have q : (i : Int) < 2 * τ 0 0 := hl; omega))
    | 18, hl => rfl
    | 19, hl => rfl
    | 20, hl => rfl
    | 21, hl => rfl
    | k + 22, hl => exact hl.elim
  have key : ∀ k i, cLive (tu τ 0 0 (τ 0 0 + 1)) k i → ¬ cLive τ k i → ∃ j, hAd ad n z k i = z + j ∧ ([(11, n), (12, n), (13, n), (14, n), (15, 2 * n), (16, 2 * n), (17, 2 * n), (15, 2 * n + 1), (16, 2 * n + 1), (17, 2 * n + 1)] : List (Nat × Nat))[j]? = some (k, i) := by
    intro k i hl hx
    match k, hl, hx with
    | 0, hl, hx => exact absurd hl hx
    | 1, hl, hx => exact absurd hl hx
    | 2, hl, hx => exact absurd hl hx
    | 3, hl, hx => exact absurd hl hx
    | 4, hl, hx => exact absurd hl hx
    | 5, hl, hx => exact absurd hl hx
    | 6, hl, hx => exact absurd hl hx
    | 7, hl, hx => exact absurd hl hx
    | 8, hl, hx => exact absurd hl hx
    | 9, hl, hx => exact absurd hl hx
    | 10, hl, hx => exact absurd hl hx
    | 11, hl, hx =>
      have q : (i : Int) < (tu τ 0 0 (τ 0 0 + 1)) 0 0 := hl
      have q2 : ¬ (i : Int) < τ 0 0 := hx
      rw [tu_s] at q
      have e : n = i := by omega
      subst e
      exact ⟨0, if_pos rfl, rfl⟩
    | 12, hl, hx =>
      have q : (i : Int) < (tu τ 0 0 (τ 0 0 + 1)) 0 0 := hl
      have q2 : ¬ (i : Int) < τ 0 0 := hx
      rw [tu_s] at q
      have e : n = i := by omega
      subst e
      exact ⟨1, if_pos rfl, rfl⟩
    | 13, hl, hx =>
      have q : (i : Int) < (tu τ 0 0 (τ 0 0 + 1)) 0 0 := hl
      have q2 : ¬ (i : Int) < τ 0 0 := hx
      rw [tu_s] at q
      have e : n = i := by omega
      subst e
      exact ⟨2, if_pos rfl, rfl⟩
    | 14, hl, hx =>
      have q : (i : Int) < (tu τ 0 0 (τ 0 0 + 1)) 0 0 := hl
      have q2 : ¬ (i : Int) < τ 0 0 := hx
      rw [tu_s] at q
      have e : n = i := by omega
      subst e
      exact ⟨3, if_pos rfl, rfl⟩
    | 15, hl, hx =>
      have q : (i : Int) < 2 * (tu τ 0 0 (τ 0 0 + 1)) 0 0 := hl
      have q2 : ¬ (i : Int) < 2 * τ 0 0 := hx
      rw [tu_s] at q
      rcases (show i = 2 * n ∨ i = 2 * n + 1 by omega) with e | e <;> subst e
      · exact ⟨4, if_pos rfl, rfl⟩
      · exact ⟨7, (if_neg (by omega)).trans (if_pos rfl), rfl⟩
    | 16, hl, hx =>
      have q : (i : Int) < 2 * (tu τ 0 0 (τ 0 0 + 1)) 0 0 := hl
      have q2 : ¬ (i : Int) < 2 * τ 0 0 := hx
      rw [tu_s] at q
      rcases (show i = 2 * n ∨ i = 2 * n + 1 by omega) with e | e <;> subst e
      · exact ⟨5, if_pos rfl, rfl⟩
      · exact ⟨8, (if_neg (by omega)).trans (if_pos rfl), rfl⟩
    | 17, hl, hx =>
      have q : (i : Int) < 2 * (tu τ 0 0 (τ 0 0 + 1)) 0 0 := hl
      have q2 : ¬ (i : Int) < 2 * τ 0 0 := hx
      rw [tu_s] at q
      rcases (show i = 2 * n ∨ i = 2 * n + 1 by omega) with e | e <;> subst e
      · exact ⟨6, if_pos rfl, rfl⟩
      · exact ⟨9, (if_neg (by omega)).trans (if_pos rfl), rfl⟩
    | 18, hl, hx => exact absurd hl hx
    | 19, hl, hx => exact absurd hl hx
    | 20, hl, hx => exact absurd hl hx
    | 21, hl, hx => exact absurd hl hx
    | k + 22, hl, hx => exact hl.elim
  have la : cLive τ 0 0 := rfl
  have lb : cLive τ 1 0 := rfl
  refine ⟨hAd ad n z, hL, fun k i h1 h2 => ?_, hW.grow hL hz (fun k i h1 h2 => ?_) (fun k i k2 i2 h1 h2 h3 h4 e => ?_) (fun k i hl => ?_)⟩
  · obtain ⟨j, e1, -⟩ := key k i h1 h2
    omega
  · obtain ⟨j, e1, -⟩ := key k i h1 h2
    omega
  · obtain ⟨j, e1, e2⟩ := key k i h1 h2
    obtain ⟨j2, f1, f2⟩ := key k2 i2 h3 h4
    have : j = j2 := by omega
    subst this
    have := Option.some.inj (e2.symm.trans f2)
    exact ⟨congrArg Prod.fst this, congrArg Prod.snd this⟩
  · match k, hl with
    | 0, hl =>
      have e : i = 0 := hl
      subst e
      show OBJ D ((hAd ad n z) 0 0) 7 [.ref ((hAd ad n z) 1 0), .ref ((hAd ad n z) 2 0), .ref ((hAd ad n z) 3 0), .ref ((hAd ad n z) 4 0), .ref ((hAd ad n z) 5 0), .ref ((hAd ad n z) 8 0), .int (iI ((tu τ 0 0 (τ 0 0 + 1)) 0 0)), .int (iI ((tu τ 0 0 (τ 0 0 + 1)) 12 0)), .int (iI ((tu τ 0 0 (τ 0 0 + 1)) 18 0)), .int (iI ((tu τ 0 0 (τ 0 0 + 1)) 25 0)), .int (iI ((tu τ 0 0 (τ 0 0 + 1)) 25 1))] H1
      rw [tu_s, tu_n (show 12 ≠ 0 by decide), tu_n (show 18 ≠ 0 by decide), tu_n (show 25 ≠ 0 by decide)]
      exact h0
    | 1, hl =>
      have e : i = 0 := hl
      subst e
      refine RAR_cong h1 (fun h hh => ?_)
      show (if h = n then some z else if (h : Int) < τ 0 0 then some (ad 11 h) else none) = (if (h : Int) < (tu τ 0 0 (τ 0 0 + 1)) 0 0 then some (if h = n then z else ad 11 h) else none)
      rw [tu_s]
      by_cases q1 : h = n
      · rw [if_pos q1, if_pos (by omega), if_pos q1]
      · rw [if_neg q1]
        by_cases q2 : (h : Int) < τ 0 0
        · rw [if_pos q2, if_pos (by omega), if_neg q1]
        · rw [if_neg q2, if_neg (by omega)]
    | 2, hl => exact cell_tu (by decide) (cOld hW oq hL la lb (show cLive τ 2 i from hl) (fun h => by cases h.1) (fun h => by cases h.1))
    | 3, hl => exact cell_tu (by decide) (cOld hW oq hL la lb (show cLive τ 3 i from hl) (fun h => by cases h.1) (fun h => by cases h.1))
    | 4, hl => exact cell_tu (by decide) (cOld hW oq hL la lb (show cLive τ 4 i from hl) (fun h => by cases h.1) (fun h => by cases h.1))
    | 5, hl => exact cell_tu (by decide) (cOld hW oq hL la lb (show cLive τ 5 i from hl) (fun h => by cases h.1) (fun h => by cases h.1))
    | 6, hl => exact cell_tu (by decide) (cOld hW oq hL la lb (show cLive τ 6 i from hl) (fun h => by cases h.1) (fun h => by cases h.1))
    | 7, hl => exact cell_tu (by decide) (cOld hW oq hL la lb (show cLive τ 7 i from hl) (fun h => by cases h.1) (fun h => by cases h.1))
    | 8, hl => exact cell_tu (by decide) (cOld hW oq hL la lb (show cLive τ 8 i from hl) (fun h => by cases h.1) (fun h => by cases h.1))
    | 9, hl => exact cell_tu (by decide) (cOld hW oq hL la lb (show cLive τ 9 i from hl) (fun h => by cases h.1) (fun h => by cases h.1))
    | 10, hl => exact cell_tu (by decide) (cOld hW oq hL la lb (show cLive τ 10 i from hl) (fun h => by cases h.1) (fun h => by cases h.1))
    | 11, hl =>
      have q : (i : Int) < (tu τ 0 0 (τ 0 0 + 1)) 0 0 := hl
      rw [tu_s] at q
      by_cases q2 : (i : Int) < τ 0 0
      · exact cell_tu (by decide) (cOld hW oq hL la lb (show cLive τ 11 i from q2) (fun h => by cases h.1) (fun h => by cases h.1))
      · have e : n = i := by omega
        subst e
        show OBJ D ((hAd ad n z) 11 n) 1 [.ref ((hAd ad n z) 12 n), .ref ((hAd ad n z) 13 n), .ref ((hAd ad n z) 14 n), .ref ((hAd ad n z) 15 (2 * n)), .ref ((hAd ad n z) 15 (2 * n + 1)), .int (iI ((tu τ 0 0 (τ 0 0 + 1)) 1 n)), .int (iI ((tu τ 0 0 (τ 0 0 + 1)) 4 n)), .int (iI ((tu τ 0 0 (τ 0 0 + 1)) 27 n))] H1
        rw [(show (hAd ad n z) 11 n = z + 0 from if_pos rfl), (show (hAd ad n z) 12 n = z + 1 from if_pos rfl), (show (hAd ad n z) 13 n = z + 2 from if_pos rfl), (show (hAd ad n z) 14 n = z + 3 from if_pos rfl), (show (hAd ad n z) 15 (2 * n) = z + 4 from if_pos rfl), (show (hAd ad n z) 15 (2 * n + 1) = z + 7 from (if_neg (by omega)).trans (if_pos rfl)), tu_n (show 1 ≠ 0 by decide), tu_n (show 4 ≠ 0 by decide), tu_n (show 27 ≠ 0 by decide), z1.1, z1.2.1, z1.2.2.1]
        exact c0
    | 12, hl =>
      have q : (i : Int) < (tu τ 0 0 (τ 0 0 + 1)) 0 0 := hl
      rw [tu_s] at q
      by_cases q2 : (i : Int) < τ 0 0
      · exact cell_tu (by decide) (cOld hW oq hL la lb (show cLive τ 12 i from q2) (fun h => by cases h.1) (fun h => by cases h.1))
      · have e : n = i := by omega
        subst e
        show IAR D ((hAd ad n z) 12 n) (cT 0) 20 (fun k => (tu τ 0 0 (τ 0 0 + 1)) 2 (20 * n + k)) H1
        rw [(show (hAd ad n z) 12 n = z + 1 from if_pos rfl)]
        exact IAR_cong c1 (fun x hx => by show (0 : Int) = (tu τ 0 0 (τ 0 0 + 1)) 2 (20 * n + x); rw [tu_n (by decide)]; exact (z1.2.2.2 x hx).1.symm)
    | 13, hl =>
      have q : (i : Int) < (tu τ 0 0 (τ 0 0 + 1)) 0 0 := hl
      rw [tu_s] at q
      by_cases q2 : (i : Int) < τ 0 0
      · exact cell_tu (by decide) (cOld hW oq hL la lb (show cLive τ 13 i from q2) (fun h => by cases h.1) (fun h => by cases h.1))
      · have e : n = i := by omega
        subst e
        show IAR D ((hAd ad n z) 13 n) (cT 0) 20 (fun k => (tu τ 0 0 (τ 0 0 + 1)) 3 (20 * n + k)) H1
        rw [(show (hAd ad n z) 13 n = z + 2 from if_pos rfl)]
        exact IAR_cong c2 (fun x hx => by show (0 : Int) = (tu τ 0 0 (τ 0 0 + 1)) 3 (20 * n + x); rw [tu_n (by decide)]; exact (z1.2.2.2 x hx).2.1.symm)
    | 14, hl =>
      have q : (i : Int) < (tu τ 0 0 (τ 0 0 + 1)) 0 0 := hl
      rw [tu_s] at q
      by_cases q2 : (i : Int) < τ 0 0
      · exact cell_tu (by decide) (cOld hW oq hL la lb (show cLive τ 14 i from q2) (fun h => by cases h.1) (fun h => by cases h.1))
      · have e : n = i := by omega
        subst e
        show IAR D ((hAd ad n z) 14 n) (cT 0) 20 (fun k => (tu τ 0 0 (τ 0 0 + 1)) 5 (20 * n + k)) H1
        rw [(show (hAd ad n z) 14 n = z + 3 from if_pos rfl)]
        exact IAR_cong c3 (fun x hx => by show (0 : Int) = (tu τ 0 0 (τ 0 0 + 1)) 5 (20 * n + x); rw [tu_n (by decide)]; exact (z1.2.2.2 x hx).2.2.symm)
    | 15, hl =>
      have q : (i : Int) < 2 * (tu τ 0 0 (τ 0 0 + 1)) 0 0 := hl
      rw [tu_s] at q
      by_cases q2 : (i : Int) < 2 * τ 0 0
      · exact cell_tu (by decide) (cOld hW oq hL la lb (show cLive τ 15 i from q2) (fun h => by cases h.1) (fun h => by cases h.1))
      · rcases (show i = 2 * n ∨ i = 2 * n + 1 by omega) with e | e <;> subst e
        · show OBJ D ((hAd ad n z) 15 (2 * n)) 2 [.ref ((hAd ad n z) 16 (2 * n)), .ref ((hAd ad n z) 17 (2 * n)), .int (iI ((tu τ 0 0 (τ 0 0 + 1)) 8 (2 * n)))] H1
          rw [(show (hAd ad n z) 15 (2 * n) = z + 4 from if_pos rfl), (show (hAd ad n z) 16 (2 * n) = z + 5 from if_pos rfl), (show (hAd ad n z) 17 (2 * n) = z + 6 from if_pos rfl), tu_n (show 8 ≠ 0 by decide), z2.1]
          exact c4
        · show OBJ D ((hAd ad n z) 15 (2 * n + 1)) 2 [.ref ((hAd ad n z) 16 (2 * n + 1)), .ref ((hAd ad n z) 17 (2 * n + 1)), .int (iI ((tu τ 0 0 (τ 0 0 + 1)) 8 (2 * n + 1)))] H1
          rw [(show (hAd ad n z) 15 (2 * n + 1) = z + 7 from (if_neg (by omega)).trans (if_pos rfl)), (show (hAd ad n z) 16 (2 * n + 1) = z + 8 from (if_neg (by omega)).trans (if_pos rfl)), (show (hAd ad n z) 17 (2 * n + 1) = z + 9 from (if_neg (by omega)).trans (if_pos rfl)), tu_n (show 8 ≠ 0 by decide), z3.1]
          exact c7
    | 16, hl =>
      have q : (i : Int) < 2 * (tu τ 0 0 (τ 0 0 + 1)) 0 0 := hl
      rw [tu_s] at q
      by_cases q2 : (i : Int) < 2 * τ 0 0
      · exact cell_tu (by decide) (cOld hW oq hL la lb (show cLive τ 16 i from q2) (fun h => by cases h.1) (fun h => by cases h.1))
      · rcases (show i = 2 * n ∨ i = 2 * n + 1 by omega) with e | e <;> subst e
        · show IAR D ((hAd ad n z) 16 (2 * n)) (cT 0) 20 (fun k => (tu τ 0 0 (τ 0 0 + 1)) 9 (20 * (2 * n) + k)) H1
          rw [(show (hAd ad n z) 16 (2 * n) = z + 5 from if_pos rfl)]
          exact IAR_cong c5 (fun x hx => by show (0 : Int) = (tu τ 0 0 (τ 0 0 + 1)) 9 (20 * (2 * n) + x); rw [tu_n (by decide)]; exact (z2.2 x hx).1.symm)
        · show IAR D ((hAd ad n z) 16 (2 * n + 1)) (cT 0) 20 (fun k => (tu τ 0 0 (τ 0 0 + 1)) 9 (20 * (2 * n + 1) + k)) H1
          rw [(show (hAd ad n z) 16 (2 * n + 1) = z + 8 from (if_neg (by omega)).trans (if_pos rfl))]
          exact IAR_cong c8 (fun x hx => by show (0 : Int) = (tu τ 0 0 (τ 0 0 + 1)) 9 (20 * (2 * n + 1) + x); rw [tu_n (by decide)]; exact (z3.2 x hx).1.symm)
    | 17, hl =>
      have q : (i : Int) < 2 * (tu τ 0 0 (τ 0 0 + 1)) 0 0 := hl
      rw [tu_s] at q
      by_cases q2 : (i : Int) < 2 * τ 0 0
      · exact cell_tu (by decide) (cOld hW oq hL la lb (show cLive τ 17 i from q2) (fun h => by cases h.1) (fun h => by cases h.1))
      · rcases (show i = 2 * n ∨ i = 2 * n + 1 by omega) with e | e <;> subst e
        · show IAR D ((hAd ad n z) 17 (2 * n)) (cT 0) 20 (fun k => (tu τ 0 0 (τ 0 0 + 1)) 10 (20 * (2 * n) + k)) H1
          rw [(show (hAd ad n z) 17 (2 * n) = z + 6 from if_pos rfl)]
          exact IAR_cong c6 (fun x hx => by show (0 : Int) = (tu τ 0 0 (τ 0 0 + 1)) 10 (20 * (2 * n) + x); rw [tu_n (by decide)]; exact (z2.2 x hx).2.symm)
        · show IAR D ((hAd ad n z) 17 (2 * n + 1)) (cT 0) 20 (fun k => (tu τ 0 0 (τ 0 0 + 1)) 10 (20 * (2 * n + 1) + k)) H1
          rw [(show (hAd ad n z) 17 (2 * n + 1) = z + 9 from (if_neg (by omega)).trans (if_pos rfl))]
          exact IAR_cong c9 (fun x hx => by show (0 : Int) = (tu τ 0 0 (τ 0 0 + 1)) 10 (20 * (2 * n + 1) + x); rw [tu_n (by decide)]; exact (z3.2 x hx).2.symm)
    | 18, hl => exact cell_tu (by decide) (cOld hW oq hL la lb (show cLive τ 18 i from hl) (fun h => by cases h.1) (fun h => by cases h.1))
    | 19, hl => exact cell_tu (by decide) (cOld hW oq hL la lb (show cLive τ 19 i from hl) (fun h => by cases h.1) (fun h => by cases h.1))
    | 20, hl => exact cell_tu (by decide) (cOld hW oq hL la lb (show cLive τ 20 i from hl) (fun h => by cases h.1) (fun h => by cases h.1))
    | 21, hl => exact cell_tu (by decide) (cOld hW oq hL la lb (show cLive τ 21 i from hl) (fun h => by cases h.1) (fun h => by cases h.1))
    | k + 22, hl => exact hl.elim
def bAd (ad : Adr) (n z : Nat) : Adr := fun k i => match k with
  | 19 => if i = n then z else ad 19 i
  | 20 => if i = n then z + 1 else ad 20 i
  | k => ad k i
theorem CW.batch {n z : Nat} (hW : CW D cT ad τ ρ H) (hz : ∀ k i, cLive τ k i → ad k i < z) (hn : τ 18 0 = n) (hZ : Zer τ) (oq : ∀ q : Nat, q ≠ ad 0 0 → q ≠ ad 3 0 → H1[q]? = H[q]?) (h0 : OBJ D (ad 0 0) 7 [.ref (ad 1 0), .ref (ad 2 0), .ref (ad 3 0), .ref (ad 4 0), .ref (ad 5 0), .ref (ad 8 0), .int (iI (τ 0 0)), .int (iI (τ 12 0)), .int (iI (τ 18 0 + 1)), .int (iI (τ 25 0)), .int (iI (τ 25 1))] H1) (h1 : RAR D (ad 3 0) (cT 4) 6 (fun i => if i = n then some z else if (i : Int) < τ 18 0 then some (ad 19 i) else none) H1) (c0 : OBJ D z 0 [.ref (z + 1), .int (iI 0)] H1) (c1 : RAR D (z + 1) (cT 5) 16 (fun _ => none) H1) : nP D cT ad τ (tu τ 18 0 (τ 18 0 + 1)) ρ z H1 := by
  have zb := hZ.2.2.1 n (by omega)
  have hL : ∀ k i, cLive τ k i → (bAd ad n z) k i = ad k i := by
    intro k i hl
    match k, hl with
    | 0, hl => rfl
    | 1, hl => rfl
    | 2, hl => rfl
    | 3, hl => rfl
    | 4, hl => rfl
    | 5, hl => rfl
    | 6, hl => rfl
    | 7, hl => rfl
    | 8, hl => rfl
    | 9, hl => rfl
    | 10, hl => rfl
    | 11, hl => rfl
    | 12, hl => rfl
    | 13, hl => rfl
    | 14, hl => rfl
    | 15, hl => rfl
    | 16, hl => rfl
    | 17, hl => rfl
    | 18, hl => rfl
    | 19, hl => exact if_neg (by have q : (i : Int) < τ 18 0 := hl; omega)
    | 20, hl => exact if_neg (by have q : (i : Int) < τ 18 0 := hl; omega)
    | 21, hl => rfl
    | k + 22, hl => exact hl.elim
  have key : ∀ k i, cLive (tu τ 18 0 (τ 18 0 + 1)) k i → ¬ cLive τ k i → ∃ j, (bAd ad n z) k i = z + j ∧ ([(19, n), (20, n)] : List (Nat × Nat))[j]? = some (k, i) := by
    intro k i hl hx
    match k, hl, hx with
    | 0, hl, hx => exact absurd hl hx
    | 1, hl, hx => exact absurd hl hx
    | 2, hl, hx => exact absurd hl hx
    | 3, hl, hx => exact absurd hl hx
    | 4, hl, hx => exact absurd hl hx
    | 5, hl, hx => exact absurd hl hx
    | 6, hl, hx => exact absurd hl hx
    | 7, hl, hx => exact absurd hl hx
    | 8, hl, hx => exact absurd hl hx
    | 9, hl, hx => exact absurd hl hx
    | 10, hl, hx => exact absurd hl hx
    | 11, hl, hx => exact absurd hl hx
    | 12, hl, hx => exact absurd hl hx
    | 13, hl, hx => exact absurd hl hx
    | 14, hl, hx => exact absurd hl hx
    | 15, hl, hx => exact absurd hl hx
    | 16, hl, hx => exact absurd hl hx
    | 17, hl, hx => exact absurd hl hx
    | 18, hl, hx => exact absurd hl hx
    | 19, hl, hx => 
      have q : (i : Int) < (tu τ 18 0 (τ 18 0 + 1)) 18 0 := hl
      have q2 : ¬ (i : Int) < τ 18 0 := hx
      rw [tu_s] at q
      have e : n = i := by omega
      subst e
      exact ⟨0, if_pos rfl, rfl⟩
    | 20, hl, hx => 
      have q : (i : Int) < (tu τ 18 0 (τ 18 0 + 1)) 18 0 := hl
      have q2 : ¬ (i : Int) < τ 18 0 := hx
      rw [tu_s] at q
      have e : n = i := by omega
      subst e
      exact ⟨1, if_pos rfl, rfl⟩
    | 21, hl, hx => 
      have q1 : ((i / 16 : Nat) : Int) < (tu τ 18 0 (τ 18 0 + 1)) 18 0 := hl.1
      have q2 : ((i % 16 : Nat) : Int) < (tu τ 18 0 (τ 18 0 + 1)) 19 (i / 16) := hl.2
      rw [tu_s] at q1
      rw [tu_n (show 19 ≠ 18 by decide)] at q2
      by_cases q3 : ((i / 16 : Nat) : Int) < τ 18 0
      · exact absurd ⟨q3, q2⟩ hx
      · rw [show i / 16 = n by omega, zb] at q2
        omega
    | k + 22, hl, hx => exact hl.elim
  have la : cLive τ 0 0 := rfl
  have lb : cLive τ 3 0 := rfl
  refine ⟨(bAd ad n z), hL, fun k i h1 h2 => ?_, hW.grow hL hz (fun k i h1 h2 => ?_) (fun k i k2 i2 h1 h2 h3 h4 e => ?_) (fun k i hl => ?_)⟩
  · obtain ⟨j, e1, -⟩ := key k i h1 h2
    omega
  · obtain ⟨j, e1, -⟩ := key k i h1 h2
    omega
  · obtain ⟨j, e1, e2⟩ := key k i h1 h2
    obtain ⟨j2, f1, f2⟩ := key k2 i2 h3 h4
    have : j = j2 := by omega
    subst this
    have := Option.some.inj (e2.symm.trans f2)
    exact ⟨congrArg Prod.fst this, congrArg Prod.snd this⟩
  · match k, hl with
    | 0, hl => 
      have e : i = 0 := hl
      subst e
      show OBJ D ((bAd ad n z) 0 0) 7 [.ref ((bAd ad n z) 1 0), .ref ((bAd ad n z) 2 0), .ref ((bAd ad n z) 3 0), .ref ((bAd ad n z) 4 0), .ref ((bAd ad n z) 5 0), .ref ((bAd ad n z) 8 0), .int (iI ((tu τ 18 0 (τ 18 0 + 1)) 0 0)), .int (iI ((tu τ 18 0 (τ 18 0 + 1)) 12 0)), .int (iI ((tu τ 18 0 (τ 18 0 + 1)) 18 0)), .int (iI ((tu τ 18 0 (τ 18 0 + 1)) 25 0)), .int (iI ((tu τ 18 0 (τ 18 0 + 1)) 25 1))] H1
      rw [tu_n (show 0 ≠ 18 by decide), tu_n (show 12 ≠ 18 by decide), tu_s, tu_n (show 25 ≠ 18 by decide)]
      exact h0
    | 1, hl => exact cell_tu (by decide) (cOld hW oq hL la lb (show cLive τ 1 i from hl) (fun h => by cases h.1) (fun h => by cases h.1))
    | 2, hl => exact cell_tu (by decide) (cOld hW oq hL la lb (show cLive τ 2 i from hl) (fun h => by cases h.1) (fun h => by cases h.1))
    | 3, hl => 
      have e : i = 0 := hl
      subst e
      refine RAR_cong h1 (fun h hh => ?_)
      show (if h = n then some z else if (h : Int) < τ 18 0 then some (ad 19 h) else none) = (if (h : Int) < (tu τ 18 0 (τ 18 0 + 1)) 18 0 then some (if h = n then z else ad 19 h) else none)
      rw [tu_s]
      by_cases q1 : h = n
      · rw [if_pos q1, if_pos (by omega), if_pos q1]
      · rw [if_neg q1]
        by_cases q2 : (h : Int) < τ 18 0
        · rw [if_pos q2, if_pos (by omega), if_neg q1]
        · rw [if_neg q2, if_neg (by omega)]
    | 4, hl => exact cell_tu (by decide) (cOld hW oq hL la lb (show cLive τ 4 i from hl) (fun h => by cases h.1) (fun h => by cases h.1))
    | 5, hl => exact cell_tu (by decide) (cOld hW oq hL la lb (show cLive τ 5 i from hl) (fun h => by cases h.1) (fun h => by cases h.1))
    | 6, hl => exact cell_tu (by decide) (cOld hW oq hL la lb (show cLive τ 6 i from hl) (fun h => by cases h.1) (fun h => by cases h.1))
    | 7, hl => exact cell_tu (by decide) (cOld hW oq hL la lb (show cLive τ 7 i from hl) (fun h => by cases h.1) (fun h => by cases h.1))
    | 8, hl => exact cell_tu (by decide) (cOld hW oq hL la lb (show cLive τ 8 i from hl) (fun h => by cases h.1) (fun h => by cases h.1))
    | 9, hl => exact cell_tu (by decide) (cOld hW oq hL la lb (show cLive τ 9 i from hl) (fun h => by cases h.1) (fun h => by cases h.1))
    | 10, hl => exact cell_tu (by decide) (cOld hW oq hL la lb (show cLive τ 10 i from hl) (fun h => by cases h.1) (fun h => by cases h.1))
    | 11, hl => exact cell_tu (by decide) (cOld hW oq hL la lb (show cLive τ 11 i from hl) (fun h => by cases h.1) (fun h => by cases h.1))
    | 12, hl => exact cell_tu (by decide) (cOld hW oq hL la lb (show cLive τ 12 i from hl) (fun h => by cases h.1) (fun h => by cases h.1))
    | 13, hl => exact cell_tu (by decide) (cOld hW oq hL la lb (show cLive τ 13 i from hl) (fun h => by cases h.1) (fun h => by cases h.1))
    | 14, hl => exact cell_tu (by decide) (cOld hW oq hL la lb (show cLive τ 14 i from hl) (fun h => by cases h.1) (fun h => by cases h.1))
    | 15, hl => exact cell_tu (by decide) (cOld hW oq hL la lb (show cLive τ 15 i from hl) (fun h => by cases h.1) (fun h => by cases h.1))
    | 16, hl => exact cell_tu (by decide) (cOld hW oq hL la lb (show cLive τ 16 i from hl) (fun h => by cases h.1) (fun h => by cases h.1))
    | 17, hl => exact cell_tu (by decide) (cOld hW oq hL la lb (show cLive τ 17 i from hl) (fun h => by cases h.1) (fun h => by cases h.1))
    | 18, hl => exact cell_tu (by decide) (cOld hW oq hL la lb (show cLive τ 18 i from hl) (fun h => by cases h.1) (fun h => by cases h.1))
    | 19, hl => 
      have q : (i : Int) < (tu τ 18 0 (τ 18 0 + 1)) 18 0 := hl
      rw [tu_s] at q
      by_cases q2 : (i : Int) < τ 18 0
      · exact cell_tu (by decide) (cOld hW oq hL la lb (show cLive τ 19 i from q2) (fun h => by cases h.1) (fun h => by cases h.1))
      · have e : n = i := by omega
        subst e
        show OBJ D ((bAd ad n z) 19 n) 0 [.ref ((bAd ad n z) 20 n), .int (iI ((tu τ 18 0 (τ 18 0 + 1)) 19 n))] H1
        rw [(show (bAd ad n z) 19 n = z from if_pos rfl), (show (bAd ad n z) 20 n = z + 1 from if_pos rfl), tu_n (show 19 ≠ 18 by decide), zb]
        exact c0
    | 20, hl => 
      have q : (i : Int) < (tu τ 18 0 (τ 18 0 + 1)) 18 0 := hl
      rw [tu_s] at q
      by_cases q2 : (i : Int) < τ 18 0
      · exact cell_tu (by decide) (cOld hW oq hL la lb (show cLive τ 20 i from q2) (fun h => by cases h.1) (fun h => by cases h.1))
      · have e : n = i := by omega
        subst e
        show RAR D ((bAd ad n z) 20 n) (cT 5) 16 (fun q => if (q : Int) < (tu τ 18 0 (τ 18 0 + 1)) 19 n then some ((bAd ad n z) 21 (16 * n + q)) else none) H1
        rw [(show (bAd ad n z) 20 n = z + 1 from if_pos rfl)]
        exact RAR_cong c1 (fun x hx => by show none = (if (x : Int) < (tu τ 18 0 (τ 18 0 + 1)) 19 n then some ((bAd ad n z) 21 (16 * n + x)) else none); rw [tu_n (by decide), zb, if_neg (by omega)])
    | 21, hl => 
      have q1 : ((i / 16 : Nat) : Int) < (tu τ 18 0 (τ 18 0 + 1)) 18 0 := hl.1
      have q2 : ((i % 16 : Nat) : Int) < (tu τ 18 0 (τ 18 0 + 1)) 19 (i / 16) := hl.2
      rw [tu_s] at q1
      rw [tu_n (show 19 ≠ 18 by decide)] at q2
      by_cases q3 : ((i / 16 : Nat) : Int) < τ 18 0
      · exact cell_tu (by decide) (cOld hW oq hL la lb (show cLive τ 21 i from ⟨q3, q2⟩) (fun h => by cases h.1) (fun h => by cases h.1))
      · rw [show i / 16 = n by omega, zb] at q2
        omega
    | k + 22, hl => exact hl.elim
def sAd (ad : Adr) (n z : Nat) : Adr := fun k i => match k with
  | 18 => if i = n then z else ad 18 i
  | k => ad k i
theorem CW.sample {n z : Nat} (hW : CW D cT ad τ ρ H) (hz : ∀ k i, cLive τ k i → ad k i < z) {x u v : Int} (hn : τ 12 0 = n) (oq : ∀ q : Nat, q ≠ ad 0 0 → q ≠ ad 2 0 → H1[q]? = H[q]?) (h0 : OBJ D (ad 0 0) 7 [.ref (ad 1 0), .ref (ad 2 0), .ref (ad 3 0), .ref (ad 4 0), .ref (ad 5 0), .ref (ad 8 0), .int (iI (τ 0 0)), .int (iI (τ 12 0 + 1)), .int (iI (τ 18 0)), .int (iI (τ 25 0)), .int (iI (τ 25 1))] H1) (h1 : RAR D (ad 2 0) (cT 3) 30 (fun i => if i = n then some z else if (i : Int) < τ 12 0 then some (ad 18 i) else none) H1) (c0 : OBJ D z 6 [.int (iI x), .int (iI u), .int (iI v), .int (iI 4)] H1) : nP D cT ad τ (tu (tu (tu (tu (tu τ 13 n x) 14 n u) 15 n v) 16 n 4) 12 0 (τ 12 0 + 1)) ρ z H1 := by
  have hL : ∀ k i, cLive τ k i → (sAd ad n z) k i = ad k i := by
    intro k i hl
    match k, hl with
    | 0, hl => rfl
    | 1, hl => rfl
    | 2, hl => rfl
    | 3, hl => rfl
    | 4, hl => rfl
    | 5, hl => rfl
    | 6, hl => rfl
    | 7, hl => rfl
    | 8, hl => rfl
    | 9, hl => rfl
    | 10, hl => rfl
    | 11, hl => rfl
    | 12, hl => rfl
    | 13, hl => rfl
    | 14, hl => rfl
    | 15, hl => rfl
    | 16, hl => rfl
    | 17, hl => rfl
    | 18, hl => exact if_neg (by have q : (i : Int) < τ 12 0 := hl; omega)
    | 19, hl => rfl
    | 20, hl => rfl
    | 21, hl => rfl
    | k + 22, hl => exact hl.elim
  have key : ∀ k i, cLive (tu (tu (tu (tu (tu τ 13 n x) 14 n u) 15 n v) 16 n 4) 12 0 (τ 12 0 + 1)) k i → ¬ cLive τ k i → ∃ j, (sAd ad n z) k i = z + j ∧ ([(18, n)] : List (Nat × Nat))[j]? = some (k, i) := by
    intro k i hl hx
    match k, hl, hx with
    | 0, hl, hx => exact absurd hl hx
    | 1, hl, hx => exact absurd hl hx
    | 2, hl, hx => exact absurd hl hx
    | 3, hl, hx => exact absurd hl hx
    | 4, hl, hx => exact absurd hl hx
    | 5, hl, hx => exact absurd hl hx
    | 6, hl, hx => exact absurd hl hx
    | 7, hl, hx => exact absurd hl hx
    | 8, hl, hx => exact absurd hl hx
    | 9, hl, hx => exact absurd hl hx
    | 10, hl, hx => exact absurd hl hx
    | 11, hl, hx => exact absurd hl hx
    | 12, hl, hx => exact absurd hl hx
    | 13, hl, hx => exact absurd hl hx
    | 14, hl, hx => exact absurd hl hx
    | 15, hl, hx => exact absurd hl hx
    | 16, hl, hx => exact absurd hl hx
    | 17, hl, hx => exact absurd hl hx
    | 18, hl, hx => 
      have q : (i : Int) < (tu (tu (tu (tu (tu τ 13 n x) 14 n u) 15 n v) 16 n 4) 12 0 (τ 12 0 + 1)) 12 0 := hl
      have q2 : ¬ (i : Int) < τ 12 0 := hx
      rw [tu_s] at q
      have e : n = i := by omega
      subst e
      exact ⟨0, if_pos rfl, rfl⟩
    | 19, hl, hx => exact absurd hl hx
    | 20, hl, hx => exact absurd hl hx
    | 21, hl, hx => exact absurd hl hx
    | k + 22, hl, hx => exact hl.elim
  have la : cLive τ 0 0 := rfl
  have lb : cLive τ 2 0 := rfl
  refine ⟨(sAd ad n z), hL, fun k i h1 h2 => ?_, hW.grow hL hz (fun k i h1 h2 => ?_) (fun k i k2 i2 h1 h2 h3 h4 e => ?_) (fun k i hl => ?_)⟩
  · obtain ⟨j, e1, -⟩ := key k i h1 h2
    omega
  · obtain ⟨j, e1, -⟩ := key k i h1 h2
    omega
  · obtain ⟨j, e1, e2⟩ := key k i h1 h2
    obtain ⟨j2, f1, f2⟩ := key k2 i2 h3 h4
    have : j = j2 := by omega
    subst this
    have := Option.some.inj (e2.symm.trans f2)
    exact ⟨congrArg Prod.fst this, congrArg Prod.snd this⟩
  · match k, hl with
    | 0, hl => 
      have e : i = 0 := hl
      subst e
      show OBJ D ((sAd ad n z) 0 0) 7 [.ref ((sAd ad n z) 1 0), .ref ((sAd ad n z) 2 0), .ref ((sAd ad n z) 3 0), .ref ((sAd ad n z) 4 0), .ref ((sAd ad n z) 5 0), .ref ((sAd ad n z) 8 0), .int (iI ((tu (tu (tu (tu (tu τ 13 n x) 14 n u) 15 n v) 16 n 4) 12 0 (τ 12 0 + 1)) 0 0)), .int (iI ((tu (tu (tu (tu (tu τ 13 n x) 14 n u) 15 n v) 16 n 4) 12 0 (τ 12 0 + 1)) 12 0)), .int (iI ((tu (tu (tu (tu (tu τ 13 n x) 14 n u) 15 n v) 16 n 4) 12 0 (τ 12 0 + 1)) 18 0)), .int (iI ((tu (tu (tu (tu (tu τ 13 n x) 14 n u) 15 n v) 16 n 4) 12 0 (τ 12 0 + 1)) 25 0)), .int (iI ((tu (tu (tu (tu (tu τ 13 n x) 14 n u) 15 n v) 16 n 4) 12 0 (τ 12 0 + 1)) 25 1))] H1
      rw [tu_s, tu_n (show 0 ≠ 12 by decide), tu_n (show 0 ≠ 16 by decide), tu_n (show 0 ≠ 15 by decide), tu_n (show 0 ≠ 14 by decide), tu_n (show 0 ≠ 13 by decide), tu_n (show 18 ≠ 12 by decide), tu_n (show 18 ≠ 16 by decide), tu_n (show 18 ≠ 15 by decide), tu_n (show 18 ≠ 14 by decide), tu_n (show 18 ≠ 13 by decide), tu_n (show 25 ≠ 12 by decide), tu_n (show 25 ≠ 16 by decide), tu_n (show 25 ≠ 15 by decide), tu_n (show 25 ≠ 14 by decide), tu_n (show 25 ≠ 13 by decide)]
      exact h0
    | 1, hl => exact cell_tu (by decide) (cell_tu (by decide) (cell_tu (by decide) (cell_tu (by decide) (cell_tu (by decide) (cOld hW oq hL la lb (show cLive τ 1 i from hl) (fun h => by cases h.1) (fun h => by cases h.1))))))
    | 2, hl => 
      have e : i = 0 := hl
      subst e
      refine RAR_cong h1 (fun h hh => ?_)
      show (if h = n then some z else if (h : Int) < τ 12 0 then some (ad 18 h) else none) = (if (h : Int) < (tu (tu (tu (tu (tu τ 13 n x) 14 n u) 15 n v) 16 n 4) 12 0 (τ 12 0 + 1)) 12 0 then some (if h = n then z else ad 18 h) else none)
      rw [tu_s]
      by_cases q1 : h = n
      · rw [if_pos q1, if_pos (by omega), if_pos q1]
      · rw [if_neg q1]
        by_cases q2 : (h : Int) < τ 12 0
        · rw [if_pos q2, if_pos (by omega), if_neg q1]
        · rw [if_neg q2, if_neg (by omega)]
    | 3, hl => exact cell_tu (by decide) (cell_tu (by decide) (cell_tu (by decide) (cell_tu (by decide) (cell_tu (by decide) (cOld hW oq hL la lb (show cLive τ 3 i from hl) (fun h => by cases h.1) (fun h => by cases h.1))))))
    | 4, hl => exact cell_tu (by decide) (cell_tu (by decide) (cell_tu (by decide) (cell_tu (by decide) (cell_tu (by decide) (cOld hW oq hL la lb (show cLive τ 4 i from hl) (fun h => by cases h.1) (fun h => by cases h.1))))))
    | 5, hl => exact cell_tu (by decide) (cell_tu (by decide) (cell_tu (by decide) (cell_tu (by decide) (cell_tu (by decide) (cOld hW oq hL la lb (show cLive τ 5 i from hl) (fun h => by cases h.1) (fun h => by cases h.1))))))
    | 6, hl => exact cell_tu (by decide) (cell_tu (by decide) (cell_tu (by decide) (cell_tu (by decide) (cell_tu (by decide) (cOld hW oq hL la lb (show cLive τ 6 i from hl) (fun h => by cases h.1) (fun h => by cases h.1))))))
    | 7, hl => exact cell_tu (by decide) (cell_tu (by decide) (cell_tu (by decide) (cell_tu (by decide) (cell_tu (by decide) (cOld hW oq hL la lb (show cLive τ 7 i from hl) (fun h => by cases h.1) (fun h => by cases h.1))))))
    | 8, hl => exact cell_tu (by decide) (cell_tu (by decide) (cell_tu (by decide) (cell_tu (by decide) (cell_tu (by decide) (cOld hW oq hL la lb (show cLive τ 8 i from hl) (fun h => by cases h.1) (fun h => by cases h.1))))))
    | 9, hl => exact cell_tu (by decide) (cell_tu (by decide) (cell_tu (by decide) (cell_tu (by decide) (cell_tu (by decide) (cOld hW oq hL la lb (show cLive τ 9 i from hl) (fun h => by cases h.1) (fun h => by cases h.1))))))
    | 10, hl => exact cell_tu (by decide) (cell_tu (by decide) (cell_tu (by decide) (cell_tu (by decide) (cell_tu (by decide) (cOld hW oq hL la lb (show cLive τ 10 i from hl) (fun h => by cases h.1) (fun h => by cases h.1))))))
    | 11, hl => exact cell_tu (by decide) (cell_tu (by decide) (cell_tu (by decide) (cell_tu (by decide) (cell_tu (by decide) (cOld hW oq hL la lb (show cLive τ 11 i from hl) (fun h => by cases h.1) (fun h => by cases h.1))))))
    | 12, hl => exact cell_tu (by decide) (cell_tu (by decide) (cell_tu (by decide) (cell_tu (by decide) (cell_tu (by decide) (cOld hW oq hL la lb (show cLive τ 12 i from hl) (fun h => by cases h.1) (fun h => by cases h.1))))))
    | 13, hl => exact cell_tu (by decide) (cell_tu (by decide) (cell_tu (by decide) (cell_tu (by decide) (cell_tu (by decide) (cOld hW oq hL la lb (show cLive τ 13 i from hl) (fun h => by cases h.1) (fun h => by cases h.1))))))
    | 14, hl => exact cell_tu (by decide) (cell_tu (by decide) (cell_tu (by decide) (cell_tu (by decide) (cell_tu (by decide) (cOld hW oq hL la lb (show cLive τ 14 i from hl) (fun h => by cases h.1) (fun h => by cases h.1))))))
    | 15, hl => exact cell_tu (by decide) (cell_tu (by decide) (cell_tu (by decide) (cell_tu (by decide) (cell_tu (by decide) (cOld hW oq hL la lb (show cLive τ 15 i from hl) (fun h => by cases h.1) (fun h => by cases h.1))))))
    | 16, hl => exact cell_tu (by decide) (cell_tu (by decide) (cell_tu (by decide) (cell_tu (by decide) (cell_tu (by decide) (cOld hW oq hL la lb (show cLive τ 16 i from hl) (fun h => by cases h.1) (fun h => by cases h.1))))))
    | 17, hl => exact cell_tu (by decide) (cell_tu (by decide) (cell_tu (by decide) (cell_tu (by decide) (cell_tu (by decide) (cOld hW oq hL la lb (show cLive τ 17 i from hl) (fun h => by cases h.1) (fun h => by cases h.1))))))
    | 18, hl => 
      have q : (i : Int) < (tu (tu (tu (tu (tu τ 13 n x) 14 n u) 15 n v) 16 n 4) 12 0 (τ 12 0 + 1)) 12 0 := hl
      rw [tu_s] at q
      by_cases q2 : (i : Int) < τ 12 0
      · have q3 : i ≠ n := by omega
        have hc := (cOld hW oq hL la lb (show cLive τ 18 i from q2) (fun h => by cases h.1) (fun h => by cases h.1))
        have e13 : (tu (tu (tu (tu (tu τ 13 n x) 14 n u) 15 n v) 16 n 4) 12 0 (τ 12 0 + 1)) 13 i = τ 13 i := by rw [tu_n (show 13 ≠ 12 by decide), tu_n (show 13 ≠ 16 by decide), tu_n (show 13 ≠ 15 by decide), tu_n (show 13 ≠ 14 by decide), tu_c, fu_n q3]
        have e14 : (tu (tu (tu (tu (tu τ 13 n x) 14 n u) 15 n v) 16 n 4) 12 0 (τ 12 0 + 1)) 14 i = τ 14 i := by rw [tu_n (show 14 ≠ 12 by decide), tu_n (show 14 ≠ 16 by decide), tu_n (show 14 ≠ 15 by decide), tu_c, fu_n q3, tu_n (show 14 ≠ 13 by decide)]
        have e15 : (tu (tu (tu (tu (tu τ 13 n x) 14 n u) 15 n v) 16 n 4) 12 0 (τ 12 0 + 1)) 15 i = τ 15 i := by rw [tu_n (show 15 ≠ 12 by decide), tu_n (show 15 ≠ 16 by decide), tu_c, fu_n q3, tu_n (show 15 ≠ 14 by decide), tu_n (show 15 ≠ 13 by decide)]
        have e16 : (tu (tu (tu (tu (tu τ 13 n x) 14 n u) 15 n v) 16 n 4) 12 0 (τ 12 0 + 1)) 16 i = τ 16 i := by rw [tu_n (show 16 ≠ 12 by decide), tu_c, fu_n q3, tu_n (show 16 ≠ 15 by decide), tu_n (show 16 ≠ 14 by decide), tu_n (show 16 ≠ 13 by decide)]
        show OBJ D ((sAd ad n z) 18 i) 6 [.int (iI ((tu (tu (tu (tu (tu τ 13 n x) 14 n u) 15 n v) 16 n 4) 12 0 (τ 12 0 + 1)) 13 i)), .int (iI ((tu (tu (tu (tu (tu τ 13 n x) 14 n u) 15 n v) 16 n 4) 12 0 (τ 12 0 + 1)) 14 i)), .int (iI ((tu (tu (tu (tu (tu τ 13 n x) 14 n u) 15 n v) 16 n 4) 12 0 (τ 12 0 + 1)) 15 i)), .int (iI ((tu (tu (tu (tu (tu τ 13 n x) 14 n u) 15 n v) 16 n 4) 12 0 (τ 12 0 + 1)) 16 i))] H1
        rw [e13, e14, e15, e16]
        exact hc
      · have e : n = i := by omega
        subst e
        have e13 : (tu (tu (tu (tu (tu τ 13 n x) 14 n u) 15 n v) 16 n 4) 12 0 (τ 12 0 + 1)) 13 n = x := by rw [tu_n (show 13 ≠ 12 by decide), tu_n (show 13 ≠ 16 by decide), tu_n (show 13 ≠ 15 by decide), tu_n (show 13 ≠ 14 by decide), tu_s]
        have e14 : (tu (tu (tu (tu (tu τ 13 n x) 14 n u) 15 n v) 16 n 4) 12 0 (τ 12 0 + 1)) 14 n = u := by rw [tu_n (show 14 ≠ 12 by decide), tu_n (show 14 ≠ 16 by decide), tu_n (show 14 ≠ 15 by decide), tu_s]
        have e15 : (tu (tu (tu (tu (tu τ 13 n x) 14 n u) 15 n v) 16 n 4) 12 0 (τ 12 0 + 1)) 15 n = v := by rw [tu_n (show 15 ≠ 12 by decide), tu_n (show 15 ≠ 16 by decide), tu_s]
        have e16 : (tu (tu (tu (tu (tu τ 13 n x) 14 n u) 15 n v) 16 n 4) 12 0 (τ 12 0 + 1)) 16 n = 4 := by rw [tu_n (show 16 ≠ 12 by decide), tu_s]
        show OBJ D ((sAd ad n z) 18 n) 6 [.int (iI ((tu (tu (tu (tu (tu τ 13 n x) 14 n u) 15 n v) 16 n 4) 12 0 (τ 12 0 + 1)) 13 n)), .int (iI ((tu (tu (tu (tu (tu τ 13 n x) 14 n u) 15 n v) 16 n 4) 12 0 (τ 12 0 + 1)) 14 n)), .int (iI ((tu (tu (tu (tu (tu τ 13 n x) 14 n u) 15 n v) 16 n 4) 12 0 (τ 12 0 + 1)) 15 n)), .int (iI ((tu (tu (tu (tu (tu τ 13 n x) 14 n u) 15 n v) 16 n 4) 12 0 (τ 12 0 + 1)) 16 n))] H1
        rw [e13, e14, e15, e16, show (sAd ad n z) 18 n = z from if_pos rfl]
        exact c0
    | 19, hl => exact cell_tu (by decide) (cell_tu (by decide) (cell_tu (by decide) (cell_tu (by decide) (cell_tu (by decide) (cOld hW oq hL la lb (show cLive τ 19 i from hl) (fun h => by cases h.1) (fun h => by cases h.1))))))
    | 20, hl => exact cell_tu (by decide) (cell_tu (by decide) (cell_tu (by decide) (cell_tu (by decide) (cell_tu (by decide) (cOld hW oq hL la lb (show cLive τ 20 i from hl) (fun h => by cases h.1) (fun h => by cases h.1))))))
    | 21, hl => exact cell_tu (by decide) (cell_tu (by decide) (cell_tu (by decide) (cell_tu (by decide) (cell_tu (by decide) (cOld hW oq hL la lb (show cLive τ 21 i from hl) (fun h => by cases h.1) (fun h => by cases h.1))))))
    | k + 22, hl => exact hl.elim
def pAd (ad : Adr) (j z : Nat) : Adr := fun k i => match k with
  | 21 => if i = j then z else ad 21 i
  | k => ad k i
theorem CW.place {n z : Nat} (hW : CW D cT ad τ ρ H) (hz : ∀ k i, cLive τ k i → ad k i < z) {b : Nat} {x u v : Int} (hb : (b : Int) < τ 18 0) (hn : τ 19 b = n) (hn2 : n < 16) (hZ : Zer τ) (oq : ∀ q : Nat, q ≠ ad 19 b → q ≠ ad 20 b → H1[q]? = H[q]?) (h0 : OBJ D (ad 19 b) 0 [.ref (ad 20 b), .int (iI (τ 19 b + 1))] H1) (h1 : RAR D (ad 20 b) (cT 5) 16 (fun i => if i = n then some z else if (i : Int) < τ 19 b then some (ad 21 (16 * b + i)) else none) H1) (c0 : OBJ D z 5 [.int (iI x), .int (iI u), .int (iI v), .int (iI 0), .int (iI 0)] H1) : nP D cT ad τ (tu (tu (tu (tu τ 20 (16 * b + n) x) 21 (16 * b + n) u) 22 (16 * b + n) v) 19 b (τ 19 b + 1)) ρ z H1 := by
  have zb := hZ.2.2.2 b n hn2 (by omega)
  have hL : ∀ k i, cLive τ k i → (pAd ad (16 * b + n) z) k i = ad k i := by
    intro k i hl
    match k, hl with
    | 0, hl => rfl
    | 1, hl => rfl
    | 2, hl => rfl
    | 3, hl => rfl
    | 4, hl => rfl
    | 5, hl => rfl
    | 6, hl => rfl
    | 7, hl => rfl
    | 8, hl => rfl
    | 9, hl => rfl
    | 10, hl => rfl
    | 11, hl => rfl
    | 12, hl => rfl
    | 13, hl => rfl
    | 14, hl => rfl
    | 15, hl => rfl
    | 16, hl => rfl
    | 17, hl => rfl
    | 18, hl => rfl
    | 19, hl => rfl
    | 20, hl => rfl
    | 21, hl => exact if_neg (fun e => by have q1 := hl.2; rw [e, show (16 * b + n) / 16 = b by omega, show (16 * b + n) % 16 = n by omega] at q1; omega)
    | k + 22, hl => exact hl.elim
  have key : ∀ k i, cLive (tu (tu (tu (tu τ 20 (16 * b + n) x) 21 (16 * b + n) u) 22 (16 * b + n) v) 19 b (τ 19 b + 1)) k i → ¬ cLive τ k i → ∃ j, (pAd ad (16 * b + n) z) k i = z + j ∧ ([(21, 16 * b + n)] : List (Nat × Nat))[j]? = some (k, i) := by
    intro k i hl hx
    match k, hl, hx with
    | 0, hl, hx => exact absurd hl hx
    | 1, hl, hx => exact absurd hl hx
    | 2, hl, hx => exact absurd hl hx
    | 3, hl, hx => exact absurd hl hx
    | 4, hl, hx => exact absurd hl hx
    | 5, hl, hx => exact absurd hl hx
    | 6, hl, hx => exact absurd hl hx
    | 7, hl, hx => exact absurd hl hx
    | 8, hl, hx => exact absurd hl hx
    | 9, hl, hx => exact absurd hl hx
    | 10, hl, hx => exact absurd hl hx
    | 11, hl, hx => exact absurd hl hx
    | 12, hl, hx => exact absurd hl hx
    | 13, hl, hx => exact absurd hl hx
    | 14, hl, hx => exact absurd hl hx
    | 15, hl, hx => exact absurd hl hx
    | 16, hl, hx => exact absurd hl hx
    | 17, hl, hx => exact absurd hl hx
    | 18, hl, hx => exact absurd hl hx
    | 19, hl, hx => exact absurd hl hx
    | 20, hl, hx => exact absurd hl hx
    | 21, hl, hx => 
      have q1 : ((i / 16 : Nat) : Int) < τ 18 0 := hl.1
      have q2 : ((i % 16 : Nat) : Int) < (tu (tu (tu (tu τ 20 (16 * b + n) x) 21 (16 * b + n) u) 22 (16 * b + n) v) 19 b (τ 19 b + 1)) 19 (i / 16) := hl.2
      by_cases q5 : i / 16 = b
      · rw [q5, tu_s] at q2
        by_cases q6 : i % 16 = n
        · have e : i = 16 * b + n := by omega
          subst e
          exact ⟨0, if_pos rfl, rfl⟩
        · exact absurd ⟨q1, by rw [q5]; omega⟩ hx
      · rw [tu_c, fu_n q5, tu_n (show 19 ≠ 22 by decide), tu_n (show 19 ≠ 21 by decide), tu_n (show 19 ≠ 20 by decide)] at q2
        exact absurd ⟨q1, q2⟩ hx
    | k + 22, hl, hx => exact hl.elim
  have la : cLive τ 19 b := hb
  have lb : cLive τ 20 b := hb
  refine ⟨(pAd ad (16 * b + n) z), hL, fun k i h1 h2 => ?_, hW.grow hL hz (fun k i h1 h2 => ?_) (fun k i k2 i2 h1 h2 h3 h4 e => ?_) (fun k i hl => ?_)⟩
  · obtain ⟨j, e1, -⟩ := key k i h1 h2
    omega
  · obtain ⟨j, e1, -⟩ := key k i h1 h2
    omega
  · obtain ⟨j, e1, e2⟩ := key k i h1 h2
    obtain ⟨j2, f1, f2⟩ := key k2 i2 h3 h4
    have : j = j2 := by omega
    subst this
    have := Option.some.inj (e2.symm.trans f2)
    exact ⟨congrArg Prod.fst this, congrArg Prod.snd this⟩
  · match k, hl with
    | 0, hl => exact cell_tu (by decide) (cell_tu (by decide) (cell_tu (by decide) (cell_tu (by decide) (cOld hW oq hL la lb (show cLive τ 0 i from hl) (fun h => by cases h.1) (fun h => by cases h.1)))))
    | 1, hl => exact cell_tu (by decide) (cell_tu (by decide) (cell_tu (by decide) (cell_tu (by decide) (cOld hW oq hL la lb (show cLive τ 1 i from hl) (fun h => by cases h.1) (fun h => by cases h.1)))))
    | 2, hl => exact cell_tu (by decide) (cell_tu (by decide) (cell_tu (by decide) (cell_tu (by decide) (cOld hW oq hL la lb (show cLive τ 2 i from hl) (fun h => by cases h.1) (fun h => by cases h.1)))))
    | 3, hl => exact cell_tu (by decide) (cell_tu (by decide) (cell_tu (by decide) (cell_tu (by decide) (cOld hW oq hL la lb (show cLive τ 3 i from hl) (fun h => by cases h.1) (fun h => by cases h.1)))))
    | 4, hl => exact cell_tu (by decide) (cell_tu (by decide) (cell_tu (by decide) (cell_tu (by decide) (cOld hW oq hL la lb (show cLive τ 4 i from hl) (fun h => by cases h.1) (fun h => by cases h.1)))))
    | 5, hl => exact cell_tu (by decide) (cell_tu (by decide) (cell_tu (by decide) (cell_tu (by decide) (cOld hW oq hL la lb (show cLive τ 5 i from hl) (fun h => by cases h.1) (fun h => by cases h.1)))))
    | 6, hl => exact cell_tu (by decide) (cell_tu (by decide) (cell_tu (by decide) (cell_tu (by decide) (cOld hW oq hL la lb (show cLive τ 6 i from hl) (fun h => by cases h.1) (fun h => by cases h.1)))))
    | 7, hl => exact cell_tu (by decide) (cell_tu (by decide) (cell_tu (by decide) (cell_tu (by decide) (cOld hW oq hL la lb (show cLive τ 7 i from hl) (fun h => by cases h.1) (fun h => by cases h.1)))))
    | 8, hl => exact cell_tu (by decide) (cell_tu (by decide) (cell_tu (by decide) (cell_tu (by decide) (cOld hW oq hL la lb (show cLive τ 8 i from hl) (fun h => by cases h.1) (fun h => by cases h.1)))))
    | 9, hl => exact cell_tu (by decide) (cell_tu (by decide) (cell_tu (by decide) (cell_tu (by decide) (cOld hW oq hL la lb (show cLive τ 9 i from hl) (fun h => by cases h.1) (fun h => by cases h.1)))))
    | 10, hl => exact cell_tu (by decide) (cell_tu (by decide) (cell_tu (by decide) (cell_tu (by decide) (cOld hW oq hL la lb (show cLive τ 10 i from hl) (fun h => by cases h.1) (fun h => by cases h.1)))))
    | 11, hl => exact cell_tu (by decide) (cell_tu (by decide) (cell_tu (by decide) (cell_tu (by decide) (cOld hW oq hL la lb (show cLive τ 11 i from hl) (fun h => by cases h.1) (fun h => by cases h.1)))))
    | 12, hl => exact cell_tu (by decide) (cell_tu (by decide) (cell_tu (by decide) (cell_tu (by decide) (cOld hW oq hL la lb (show cLive τ 12 i from hl) (fun h => by cases h.1) (fun h => by cases h.1)))))
    | 13, hl => exact cell_tu (by decide) (cell_tu (by decide) (cell_tu (by decide) (cell_tu (by decide) (cOld hW oq hL la lb (show cLive τ 13 i from hl) (fun h => by cases h.1) (fun h => by cases h.1)))))
    | 14, hl => exact cell_tu (by decide) (cell_tu (by decide) (cell_tu (by decide) (cell_tu (by decide) (cOld hW oq hL la lb (show cLive τ 14 i from hl) (fun h => by cases h.1) (fun h => by cases h.1)))))
    | 15, hl => exact cell_tu (by decide) (cell_tu (by decide) (cell_tu (by decide) (cell_tu (by decide) (cOld hW oq hL la lb (show cLive τ 15 i from hl) (fun h => by cases h.1) (fun h => by cases h.1)))))
    | 16, hl => exact cell_tu (by decide) (cell_tu (by decide) (cell_tu (by decide) (cell_tu (by decide) (cOld hW oq hL la lb (show cLive τ 16 i from hl) (fun h => by cases h.1) (fun h => by cases h.1)))))
    | 17, hl => exact cell_tu (by decide) (cell_tu (by decide) (cell_tu (by decide) (cell_tu (by decide) (cOld hW oq hL la lb (show cLive τ 17 i from hl) (fun h => by cases h.1) (fun h => by cases h.1)))))
    | 18, hl => exact cell_tu (by decide) (cell_tu (by decide) (cell_tu (by decide) (cell_tu (by decide) (cOld hW oq hL la lb (show cLive τ 18 i from hl) (fun h => by cases h.1) (fun h => by cases h.1)))))
    | 19, hl => 
      have q : (i : Int) < τ 18 0 := hl
      by_cases q3 : i = b
      · subst q3
        show OBJ D ((pAd ad (16 * i + n) z) 19 i) 0 [.ref ((pAd ad (16 * i + n) z) 20 i), .int (iI ((tu (tu (tu (tu τ 20 (16 * i + n) x) 21 (16 * i + n) u) 22 (16 * i + n) v) 19 i (τ 19 i + 1)) 19 i))] H1
        rw [tu_s]
        exact h0
      · have hc := (cOld hW oq hL la lb (show cLive τ 19 i from q) (fun h => q3 h.2) (fun h => by cases h.1))
        show OBJ D ((pAd ad (16 * b + n) z) 19 i) 0 [.ref ((pAd ad (16 * b + n) z) 20 i), .int (iI ((tu (tu (tu (tu τ 20 (16 * b + n) x) 21 (16 * b + n) u) 22 (16 * b + n) v) 19 b (τ 19 b + 1)) 19 i))] H1
        rw [tu_c, fu_n q3, tu_n (show 19 ≠ 22 by decide), tu_n (show 19 ≠ 21 by decide), tu_n (show 19 ≠ 20 by decide)]
        exact hc
    | 20, hl => 
      have q : (i : Int) < τ 18 0 := hl
      by_cases q3 : i = b
      · subst q3
        refine RAR_cong h1 (fun h hh => ?_)
        show (if h = n then some z else if (h : Int) < τ 19 i then some (ad 21 (16 * i + h)) else none) = (if (h : Int) < (tu (tu (tu (tu τ 20 (16 * i + n) x) 21 (16 * i + n) u) 22 (16 * i + n) v) 19 i (τ 19 i + 1)) 19 i then some (if 16 * i + h = 16 * i + n then z else ad 21 (16 * i + h)) else none)
        rw [tu_s]
        by_cases q1 : h = n
        · rw [if_pos q1, if_pos (by omega), if_pos (by omega)]
        · rw [if_neg q1]
          by_cases q2 : (h : Int) < τ 19 i
          · rw [if_pos q2, if_pos (by omega), if_neg (by omega)]
          · rw [if_neg q2, if_neg (by omega)]
      · have hc := (cOld hW oq hL la lb (show cLive τ 20 i from q) (fun h => by cases h.1) (fun h => q3 h.2))
        refine RAR_cong hc (fun h hh => ?_)
        show (if (h : Int) < τ 19 i then some ((pAd ad (16 * b + n) z) 21 (16 * i + h)) else none) = (if (h : Int) < (tu (tu (tu (tu τ 20 (16 * b + n) x) 21 (16 * b + n) u) 22 (16 * b + n) v) 19 b (τ 19 b + 1)) 19 i then some ((pAd ad (16 * b + n) z) 21 (16 * i + h)) else none)
        rw [tu_c, fu_n q3, tu_n (show 19 ≠ 22 by decide), tu_n (show 19 ≠ 21 by decide), tu_n (show 19 ≠ 20 by decide)]
    | 21, hl => 
      by_cases q3 : i = 16 * b + n
      · subst q3
        have e20 : (tu (tu (tu (tu τ 20 (16 * b + n) x) 21 (16 * b + n) u) 22 (16 * b + n) v) 19 b (τ 19 b + 1)) 20 (16 * b + n) = x := by rw [tu_n (show 20 ≠ 19 by decide), tu_n (show 20 ≠ 22 by decide), tu_n (show 20 ≠ 21 by decide), tu_s]
        have e21 : (tu (tu (tu (tu τ 20 (16 * b + n) x) 21 (16 * b + n) u) 22 (16 * b + n) v) 19 b (τ 19 b + 1)) 21 (16 * b + n) = u := by rw [tu_n (show 21 ≠ 19 by decide), tu_n (show 21 ≠ 22 by decide), tu_s]
        have e22 : (tu (tu (tu (tu τ 20 (16 * b + n) x) 21 (16 * b + n) u) 22 (16 * b + n) v) 19 b (τ 19 b + 1)) 22 (16 * b + n) = v := by rw [tu_n (show 22 ≠ 19 by decide), tu_s]
        have e23 : (tu (tu (tu (tu τ 20 (16 * b + n) x) 21 (16 * b + n) u) 22 (16 * b + n) v) 19 b (τ 19 b + 1)) 23 (16 * b + n) = 0 := by rw [tu_n (show 23 ≠ 19 by decide), tu_n (show 23 ≠ 22 by decide), tu_n (show 23 ≠ 21 by decide), tu_n (show 23 ≠ 20 by decide)]; exact zb.1
        have e24 : (tu (tu (tu (tu τ 20 (16 * b + n) x) 21 (16 * b + n) u) 22 (16 * b + n) v) 19 b (τ 19 b + 1)) 24 (16 * b + n) = 0 := by rw [tu_n (show 24 ≠ 19 by decide), tu_n (show 24 ≠ 22 by decide), tu_n (show 24 ≠ 21 by decide), tu_n (show 24 ≠ 20 by decide)]; exact zb.2
        show OBJ D ((pAd ad (16 * b + n) z) 21 (16 * b + n)) 5 [.int (iI ((tu (tu (tu (tu τ 20 (16 * b + n) x) 21 (16 * b + n) u) 22 (16 * b + n) v) 19 b (τ 19 b + 1)) 20 (16 * b + n))), .int (iI ((tu (tu (tu (tu τ 20 (16 * b + n) x) 21 (16 * b + n) u) 22 (16 * b + n) v) 19 b (τ 19 b + 1)) 21 (16 * b + n))), .int (iI ((tu (tu (tu (tu τ 20 (16 * b + n) x) 21 (16 * b + n) u) 22 (16 * b + n) v) 19 b (τ 19 b + 1)) 22 (16 * b + n))), .int (iI ((tu (tu (tu (tu τ 20 (16 * b + n) x) 21 (16 * b + n) u) 22 (16 * b + n) v) 19 b (τ 19 b + 1)) 23 (16 * b + n))), .int (iI ((tu (tu (tu (tu τ 20 (16 * b + n) x) 21 (16 * b + n) u) 22 (16 * b + n) v) 19 b (τ 19 b + 1)) 24 (16 * b + n)))] H1
        rw [e20, e21, e22, e23, e24, show (pAd ad (16 * b + n) z) 21 (16 * b + n) = z from if_pos rfl]
        exact c0
      · have q1 : ((i / 16 : Nat) : Int) < τ 18 0 := hl.1
        have q2 : ((i % 16 : Nat) : Int) < (tu (tu (tu (tu τ 20 (16 * b + n) x) 21 (16 * b + n) u) 22 (16 * b + n) v) 19 b (τ 19 b + 1)) 19 (i / 16) := hl.2
        have q4 : ((i % 16 : Nat) : Int) < τ 19 (i / 16) := by
          by_cases q5 : i / 16 = b
          · rw [q5, tu_s] at q2
            rw [q5]
            omega
          · rw [tu_c, fu_n q5, tu_n (show 19 ≠ 22 by decide), tu_n (show 19 ≠ 21 by decide), tu_n (show 19 ≠ 20 by decide)] at q2
            exact q2
        have hc := (cOld hW oq hL la lb (show cLive τ 21 i from ⟨q1, q4⟩) (fun h => by cases h.1) (fun h => by cases h.1))
        have e20 : (tu (tu (tu (tu τ 20 (16 * b + n) x) 21 (16 * b + n) u) 22 (16 * b + n) v) 19 b (τ 19 b + 1)) 20 i = τ 20 i := by rw [tu_n (show 20 ≠ 19 by decide), tu_n (show 20 ≠ 22 by decide), tu_n (show 20 ≠ 21 by decide), tu_c, fu_n q3]
        have e21 : (tu (tu (tu (tu τ 20 (16 * b + n) x) 21 (16 * b + n) u) 22 (16 * b + n) v) 19 b (τ 19 b + 1)) 21 i = τ 21 i := by rw [tu_n (show 21 ≠ 19 by decide), tu_n (show 21 ≠ 22 by decide), tu_c, fu_n q3, tu_n (show 21 ≠ 20 by decide)]
        have e22 : (tu (tu (tu (tu τ 20 (16 * b + n) x) 21 (16 * b + n) u) 22 (16 * b + n) v) 19 b (τ 19 b + 1)) 22 i = τ 22 i := by rw [tu_n (show 22 ≠ 19 by decide), tu_c, fu_n q3, tu_n (show 22 ≠ 21 by decide), tu_n (show 22 ≠ 20 by decide)]
        have e23 : (tu (tu (tu (tu τ 20 (16 * b + n) x) 21 (16 * b + n) u) 22 (16 * b + n) v) 19 b (τ 19 b + 1)) 23 i = τ 23 i := by rw [tu_n (show 23 ≠ 19 by decide), tu_n (show 23 ≠ 22 by decide), tu_n (show 23 ≠ 21 by decide), tu_n (show 23 ≠ 20 by decide)]
        have e24 : (tu (tu (tu (tu τ 20 (16 * b + n) x) 21 (16 * b + n) u) 22 (16 * b + n) v) 19 b (τ 19 b + 1)) 24 i = τ 24 i := by rw [tu_n (show 24 ≠ 19 by decide), tu_n (show 24 ≠ 22 by decide), tu_n (show 24 ≠ 21 by decide), tu_n (show 24 ≠ 20 by decide)]
        show OBJ D ((pAd ad (16 * b + n) z) 21 i) 5 [.int (iI ((tu (tu (tu (tu τ 20 (16 * b + n) x) 21 (16 * b + n) u) 22 (16 * b + n) v) 19 b (τ 19 b + 1)) 20 i)), .int (iI ((tu (tu (tu (tu τ 20 (16 * b + n) x) 21 (16 * b + n) u) 22 (16 * b + n) v) 19 b (τ 19 b + 1)) 21 i)), .int (iI ((tu (tu (tu (tu τ 20 (16 * b + n) x) 21 (16 * b + n) u) 22 (16 * b + n) v) 19 b (τ 19 b + 1)) 22 i)), .int (iI ((tu (tu (tu (tu τ 20 (16 * b + n) x) 21 (16 * b + n) u) 22 (16 * b + n) v) 19 b (τ 19 b + 1)) 23 i)), .int (iI ((tu (tu (tu (tu τ 20 (16 * b + n) x) 21 (16 * b + n) u) 22 (16 * b + n) v) 19 b (τ 19 b + 1)) 24 i))] H1
        rw [e20, e21, e22, e23, e24]
        exact hc
    | k + 22, hl => exact hl.elim
end GR
