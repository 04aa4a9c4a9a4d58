/-! the class's world: a cell has a kind and a number -/
abbrev Adr : Type := Nat → Nat → Nat
abbrev cTy (cT : Nat → ClassId) : List (ClassId × FieldType) := [(cT 0, .int), (cT 1, .boolean), (cT 2, .object "CoreShed$Hole"), (cT 3, .object "CoreShed$Sample"), (cT 4, .object "CoreShed$Batch"), (cT 5, .object "CoreShed$Place"), (cT 6, .array .int)]
def cLive (τ : Tau) (k i : Nat) : Prop := match k with
  | 0 => i = 0
  | 1 => i = 0
  | 2 => i = 0
  | 3 => i = 0
  | 4 => i = 0
  | 5 => i = 0
  | 6 => i = 0
  | 7 => i = 0
  | 8 => i = 0
  | 9 => i = 0
  | 10 => i < 21
  | 11 => (i : Int) < τ 0 0
  | 12 => (i : Int) < τ 0 0
  | 13 => (i : Int) < τ 0 0
  | 14 => (i : Int) < τ 0 0
  | 15 => (i : Int) < 2 * τ 0 0
  | 16 => (i : Int) < 2 * τ 0 0
  | 17 => (i : Int) < 2 * τ 0 0
  | 18 => (i : Int) < τ 12 0
  | 19 => (i : Int) < τ 18 0
  | 20 => (i : Int) < τ 18 0
  | 21 => ((i / 16 : Nat) : Int) < τ 18 0 ∧ ((i % 16 : Nat) : Int) < τ 19 (i / 16)
  | _ => False
def cCell (D : va_G) (cT : Nat → ClassId) (ad : Adr) (τ ρ : Tau) (k i : Nat) (H : Heap) : Prop := match k with
  | 0 => OBJ D (ad 0 i) 7 [.ref (ad 1 0), .ref (ad 2 0), .ref (ad 3 0), .ref (ad 4 0), .ref (ad 5 0), .ref (ad 8 0), .int (iI (τ 0 0)), .int (iI (τ 12 0)), .int (iI (τ 18 0)), .int (iI (τ 25 0)), .int (iI (τ 25 1))] H
  | 1 => RAR D (ad 1 i) (cT 2) 4 (fun h => if (h : Int) < τ 0 0 then some (ad 11 h) else none) H
  | 2 => RAR D (ad 2 i) (cT 3) 30 (fun h => if (h : Int) < τ 12 0 then some (ad 18 h) else none) H
  | 3 => RAR D (ad 3 i) (cT 4) 6 (fun h => if (h : Int) < τ 18 0 then some (ad 19 h) else none) H
  | 4 => IAR D (ad 4 i) (cT 0) 10 (τ 11) H
  | 5 => OBJ D (ad 5 i) 4 [.ref (ad 6 0), .ref (ad 7 0)] H
  | 6 => IAR D (ad 6 i) (cT 0) 20 (ρ 0) H
  | 7 => IAR D (ad 7 i) (cT 1) 20 (ρ 1) H
  | 8 => OBJ D (ad 8 i) 3 [.ref (ad 9 0)] H
  | 9 => RAR D (ad 9 i) (cT 6) 21 (fun r => some (ad 10 r)) H
  | 10 => IAR D (ad 10 i) (cT 0) 21 (ρ (2 + i)) H
  | 11 => OBJ D (ad 11 i) 1 [.ref (ad 12 i), .ref (ad 13 i), .ref (ad 14 i), .ref (ad 15 (2 * i)), .ref (ad 15 (2 * i + 1)), .int (iI (τ 1 i)), .int (iI (τ 4 i)), .int (iI (τ 27 i))] H
  | 12 => IAR D (ad 12 i) (cT 0) 20 (fun k => τ 2 (20 * i + k)) H
  | 13 => IAR D (ad 13 i) (cT 0) 20 (fun k => τ 3 (20 * i + k)) H
  | 14 => IAR D (ad 14 i) (cT 0) 20 (fun k => τ 5 (20 * i + k)) H
  | 15 => OBJ D (ad 15 i) 2 [.ref (ad 16 i), .ref (ad 17 i), .int (iI (τ 8 i))] H
  | 16 => IAR D (ad 16 i) (cT 0) 20 (fun k => τ 9 (20 * i + k)) H
  | 17 => IAR D (ad 17 i) (cT 0) 20 (fun k => τ 10 (20 * i + k)) H
  | 18 => OBJ D (ad 18 i) 6 [.int (iI (τ 13 i)), .int (iI (τ 14 i)), .int (iI (τ 15 i)), .int (iI (τ 16 i))] H
  | 19 => OBJ D (ad 19 i) 0 [.ref (ad 20 i), .int (iI (τ 19 i))] H
  | 20 => RAR D (ad 20 i) (cT 5) 16 (fun q => if (q : Int) < τ 19 i then some (ad 21 (16 * i + q)) else none) H
  | 21 => OBJ D (ad 21 i) 5 [.int (iI (τ 20 i)), .int (iI (τ 21 i)), .int (iI (τ 22 i)), .int (iI (τ 23 i)), .int (iI (τ 24 i))] H
  | _ => True
def CW (D : va_G) (cT : Nat → ClassId) (ad : Adr) (τ ρ : Tau) (H : Heap) : Prop := (∀ k i, cLive τ k i → cCell D cT ad τ ρ k i H) ∧ ∀ k i k2 i2, cLive τ k i → cLive τ k2 i2 → ad k i = ad k2 i2 → k = k2 ∧ i = i2
def CA (ad : Adr) (τ : Tau) : Nat → Prop := fun q => ∃ k i, cLive τ k i ∧ q = ad k i
section CWS
variable {D : va_G} {cT : Nat → ClassId} {ad : Adr} {τ τ2 ρ ρ2 : Tau} {H H1 : Heap} {i : Nat}
theorem cw0 (h : CW D cT ad τ ρ H) : OBJ D (ad 0 0) 7 [.ref (ad 1 0), .ref (ad 2 0), .ref (ad 3 0), .ref (ad 4 0), .ref (ad 5 0), .ref (ad 8 0), .int (iI (τ 0 0)), .int (iI (τ 12 0)), .int (iI (τ 18 0)), .int (iI (τ 25 0)), .int (iI (τ 25 1))] H := h.1 0 0 rfl
theorem cw1 (h : CW D cT ad τ ρ H) : RAR D (ad 1 0) (cT 2) 4 (fun h => if (h : Int) < τ 0 0 then some (ad 11 h) else none) H := h.1 1 0 rfl
theorem cw2 (h : CW D cT ad τ ρ H) : RAR D (ad 2 0) (cT 3) 30 (fun h => if (h : Int) < τ 12 0 then some (ad 18 h) else none) H := h.1 2 0 rfl
theorem cw3 (h : CW D cT ad τ ρ H) : RAR D (ad 3 0) (cT 4) 6 (fun h => if (h : Int) < τ 18 0 then some (ad 19 h) else none) H := h.1 3 0 rfl
theorem cw4 (h : CW D cT ad τ ρ H) : IAR D (ad 4 0) (cT 0) 10 (τ 11) H := h.1 4 0 rfl
theorem cw5 (h : CW D cT ad τ ρ H) : OBJ D (ad 5 0) 4 [.ref (ad 6 0), .ref (ad 7 0)] H := h.1 5 0 rfl
theorem cw6 (h : CW D cT ad τ ρ H) : IAR D (ad 6 0) (cT 0) 20 (ρ 0) H := h.1 6 0 rfl
theorem cw7 (h : CW D cT ad τ ρ H) : IAR D (ad 7 0) (cT 1) 20 (ρ 1) H := h.1 7 0 rfl
theorem cw8 (h : CW D cT ad τ ρ H) : OBJ D (ad 8 0) 3 [.ref (ad 9 0)] H := h.1 8 0 rfl
theorem cw9 (h : CW D cT ad τ ρ H) : RAR D (ad 9 0) (cT 6) 21 (fun r => some (ad 10 r)) H := h.1 9 0 rfl
theorem cw10 (h : CW D cT ad τ ρ H) (hi : i < 21) : IAR D (ad 10 i) (cT 0) 21 (ρ (2 + i)) H := h.1 10 i hi
theorem cw11 (h : CW D cT ad τ ρ H) (hi : (i : Int) < τ 0 0) : OBJ D (ad 11 i) 1 [.ref (ad 12 i), .ref (ad 13 i), .ref (ad 14 i), .ref (ad 15 (2 * i)), .ref (ad 15 (2 * i + 1)), .int (iI (τ 1 i)), .int (iI (τ 4 i)), .int (iI (τ 27 i))] H := h.1 11 i hi
theorem cw12 (h : CW D cT ad τ ρ H) (hi : (i : Int) < τ 0 0) : IAR D (ad 12 i) (cT 0) 20 (fun k => τ 2 (20 * i + k)) H := h.1 12 i hi
theorem cw13 (h : CW D cT ad τ ρ H) (hi : (i : Int) < τ 0 0) : IAR D (ad 13 i) (cT 0) 20 (fun k => τ 3 (20 * i + k)) H := h.1 13 i hi
theorem cw14 (h : CW D cT ad τ ρ H) (hi : (i : Int) < τ 0 0) : IAR D (ad 14 i) (cT 0) 20 (fun k => τ 5 (20 * i + k)) H := h.1 14 i hi
theorem cw15 (h : CW D cT ad τ ρ H) (hi : (i : Int) < 2 * τ 0 0) : OBJ D (ad 15 i) 2 [.ref (ad 16 i), .ref (ad 17 i), .int (iI (τ 8 i))] H := h.1 15 i hi
theorem cw16 (h : CW D cT ad τ ρ H) (hi : (i : Int) < 2 * τ 0 0) : IAR D (ad 16 i) (cT 0) 20 (fun k => τ 9 (20 * i + k)) H := h.1 16 i hi
theorem cw17 (h : CW D cT ad τ ρ H) (hi : (i : Int) < 2 * τ 0 0) : IAR D (ad 17 i) (cT 0) 20 (fun k => τ 10 (20 * i + k)) H := h.1 17 i hi
theorem cw18 (h : CW D cT ad τ ρ H) (hi : (i : Int) < τ 12 0) : OBJ D (ad 18 i) 6 [.int (iI (τ 13 i)), .int (iI (τ 14 i)), .int (iI (τ 15 i)), .int (iI (τ 16 i))] H := h.1 18 i hi
theorem cw19 (h : CW D cT ad τ ρ H) (hi : (i : Int) < τ 18 0) : OBJ D (ad 19 i) 0 [.ref (ad 20 i), .int (iI (τ 19 i))] H := h.1 19 i hi
theorem cw20 (h : CW D cT ad τ ρ H) (hi : (i : Int) < τ 18 0) : RAR D (ad 20 i) (cT 5) 16 (fun q => if (q : Int) < τ 19 i then some (ad 21 (16 * i + q)) else none) H := h.1 20 i hi
theorem cw21 {b q : Nat} (h : CW D cT ad τ ρ H) (hb : (b : Int) < τ 18 0) (hq : (q : Int) < τ 19 b) (hq2 : q < 16) : OBJ D (ad 21 (16 * b + q)) 5 [.int (iI (τ 20 (16 * b + q))), .int (iI (τ 21 (16 * b + q))), .int (iI (τ 22 (16 * b + q))), .int (iI (τ 23 (16 * b + q))), .int (iI (τ 24 (16 * b + q)))] H := h.1 21 (16 * b + q) ⟨by rw [show (16 * b + q) / 16 = b by omega]; exact hb, by rw [show (16 * b + q) / 16 = b by omega, show (16 * b + q) % 16 = q by omega]; exact hq⟩
theorem cCell.kept {k : Nat} (h : cCell D cT ad τ ρ k i H) (hq : H1[ad k i]? = H[ad k i]?) : cCell D cT ad τ ρ k i H1 := by
  match k, h, hq with
  | 0, h, hq => exact one_kept (show va_P D vwCl [_] H from h) hq
  | 1, h, hq => exact one_kept (show va_P D vwCl [_] H from h) hq
  | 2, h, hq => exact one_kept (show va_P D vwCl [_] H from h) hq
  | 3, h, hq => exact one_kept (show va_P D vwCl [_] H from h) hq
  | 4, h, hq => exact one_kept (show va_P D vwCl [_] H from h) hq
  | 5, h, hq => exact one_kept (show va_P D vwCl [_] H from h) hq
  | 6, h, hq => exact one_kept (show va_P D vwCl [_] H from h) hq
  | 7, h, hq => exact one_kept (show va_P D vwCl [_] H from h) hq
  | 8, h, hq => exact one_kept (show va_P D vwCl [_] H from h) hq
  | 9, h, hq => exact one_kept (show va_P D vwCl [_] H from h) hq
  | 10, h, hq => exact one_kept (show va_P D vwCl [_] H from h) hq
  | 11, h, hq => exact one_kept (show va_P D vwCl [_] H from h) hq
  | 12, h, hq => exact one_kept (show va_P D vwCl [_] H from h) hq
  | 13, h, hq => exact one_kept (show va_P D vwCl [_] H from h) hq
  | 14, h, hq => exact one_kept (show va_P D vwCl [_] H from h) hq
  | 15, h, hq => exact one_kept (show va_P D vwCl [_] H from h) hq
  | 16, h, hq => exact one_kept (show va_P D vwCl [_] H from h) hq
  | 17, h, hq => exact one_kept (show va_P D vwCl [_] H from h) hq
  | 18, h, hq => exact one_kept (show va_P D vwCl [_] H from h) hq
  | 19, h, hq => exact one_kept (show va_P D vwCl [_] H from h) hq
  | 20, h, hq => exact one_kept (show va_P D vwCl [_] H from h) hq
  | 21, h, hq => exact one_kept (show va_P D vwCl [_] H from h) hq
  | k + 22, h, hq => exact trivial
theorem cCell.lt {k : Nat} (hl : cLive τ k i) (h : cCell D cT ad τ ρ k i H) : ad k i < H.size := by
  match k, h, hl with
  | 0, h, _ => exact one_lt (show va_P D vwCl [_] H from h)
  | 1, h, _ => exact one_lt (show va_P D vwCl [_] H from h)
  | 2, h, _ => exact one_lt (show va_P D vwCl [_] H from h)
  | 3, h, _ => exact one_lt (show va_P D vwCl [_] H from h)
  | 4, h, _ => exact one_lt (show va_P D vwCl [_] H from h)
  | 5, h, _ => exact one_lt (show va_P D vwCl [_] H from h)
  | 6, h, _ => exact one_lt (show va_P D vwCl [_] H from h)
  | 7, h, _ => exact one_lt (show va_P D vwCl [_] H from h)
  | 8, h, _ => exact one_lt (show va_P D vwCl [_] H from h)
  | 9, h, _ => exact one_lt (show va_P D vwCl [_] H from h)
  | 10, h, _ => exact one_lt (show va_P D vwCl [_] H from h)
  | 11, h, _ => exact one_lt (show va_P D vwCl [_] H from h)
  | 12, h, _ => exact one_lt (show va_P D vwCl [_] H from h)
  | 13, h, _ => exact one_lt (show va_P D vwCl [_] H from h)
  | 14, h, _ => exact one_lt (show va_P D vwCl [_] H from h)
  | 15, h, _ => exact one_lt (show va_P D vwCl [_] H from h)
  | 16, h, _ => exact one_lt (show va_P D vwCl [_] H from h)
  | 17, h, _ => exact one_lt (show va_P D vwCl [_] H from h)
  | 18, h, _ => exact one_lt (show va_P D vwCl [_] H from h)
  | 19, h, _ => exact one_lt (show va_P D vwCl [_] H from h)
  | 20, h, _ => exact one_lt (show va_P D vwCl [_] H from h)
  | 21, h, _ => exact one_lt (show va_P D vwCl [_] H from h)
  | k + 22, h, hl => exact hl.elim
theorem CW.put {k : Nat} (hW : CW D cT ad τ ρ H) (hl : cLive τ k i) (hn : cCell D cT ad τ2 ρ2 k i H1) (oq : ∀ q : Nat, q ≠ ad k i → H1[q]? = H[q]?) (hlv : ∀ k2 i2, cLive τ2 k2 i2 → cLive τ k2 i2) (hr : ∀ k2 i2, ¬ (k2 = k ∧ i2 = i) → cLive τ k2 i2 → cCell D cT ad τ ρ k2 i2 H1 → cCell D cT ad τ2 ρ2 k2 i2 H1) : CW D cT ad τ2 ρ2 H1 := by
  refine ⟨fun k2 i2 h2 => ?_, fun k2 i2 k3 i3 h2 h3 => hW.2 k2 i2 k3 i3 (hlv _ _ h2) (hlv _ _ h3)⟩
  by_cases hs : k2 = k ∧ i2 = i
  · obtain ⟨rfl, rfl⟩ := hs
    exact hn
  · exact hr k2 i2 hs (hlv _ _ h2) ((hW.1 k2 i2 (hlv _ _ h2)).kept (oq _ fun e => hs (hW.2 k2 i2 k i (hlv _ _ h2) hl e)))
theorem live_tu {c j k : Nat} {v : Int} (h0 : 0 ≠ c) (h1 : 12 ≠ c) (h2 : 18 ≠ c) (h3 : 19 ≠ c) : cLive (tu τ c j v) k i ↔ cLive τ k i := by
  unfold cLive
  split <;> (try rw [tu_n h0]) <;> (try rw [tu_n h1]) <;> (try rw [tu_n h2]) <;> (try rw [tu_n h3]) <;> exact Iff.rfl
def cDeps (k : Nat) : List Nat := match k with
  | 0 => [0, 12, 18, 25]
  | 1 => [0]
  | 2 => [12]
  | 3 => [18]
  | 4 => [11]
  | 11 => [1, 4, 27]
  | 12 => [2]
  | 13 => [3]
  | 14 => [5]
  | 15 => [8]
  | 16 => [9]
  | 17 => [10]
  | 18 => [13, 14, 15, 16]
  | 19 => [19]
  | 20 => [19]
  | 21 => [20, 21, 22, 23, 24]
  | _ => []
theorem cell_tu {c j k : Nat} {v : Int} (h : ∀ d ∈ cDeps k, d ≠ c) (hc : cCell D cT ad τ ρ k i H) : cCell D cT ad (tu τ c j v) ρ k i H := by
  match k, h, hc with
  | 0, h, hc => (show OBJ D (ad 0 i) 7 [.ref (ad 1 0), .ref (ad 2 0), .ref (ad 3 0), .ref (ad 4 0), .ref (ad 5 0), .ref (ad 8 0), .int (iI ((tu τ c j v) 0 0)), .int (iI ((tu τ c j v) 12 0)), .int (iI ((tu τ c j v) 18 0)), .int (iI ((tu τ c j v) 25 0)), .int (iI ((tu τ c j v) 25 1))] H); rw [tu_n (h 0 (by decide)), tu_n (h 12 (by decide)), tu_n (h 18 (by decide)), tu_n (h 25 (by decide))]; exact hc
  | 1, h, hc => (show RAR D (ad 1 i) (cT 2) 4 (fun h => if (h : Int) < (tu τ c j v) 0 0 then some (ad 11 h) else none) H); rw [tu_n (h 0 (by decide))]; exact hc
  | 2, h, hc => (show RAR D (ad 2 i) (cT 3) 30 (fun h => if (h : Int) < (tu τ c j v) 12 0 then some (ad 18 h) else none) H); rw [tu_n (h 12 (by decide))]; exact hc
  | 3, h, hc => (show RAR D (ad 3 i) (cT 4) 6 (fun h => if (h : Int) < (tu τ c j v) 18 0 then some (ad 19 h) else none) H); rw [tu_n (h 18 (by decide))]; exact hc
  | 4, h, hc => (show IAR D (ad 4 i) (cT 0) 10 ((tu τ c j v) 11) H); rw [tu_n (h 11 (by decide))]; exact hc
  | 5, _, hc => exact hc
  | 6, _, hc => exact hc
  | 7, _, hc => exact hc
  | 8, _, hc => exact hc
  | 9, _, hc => exact hc
  | 10, _, hc => exact hc
  | 11, h, hc => (show OBJ D (ad 11 i) 1 [.ref (ad 12 i), .ref (ad 13 i), .ref (ad 14 i), .ref (ad 15 (2 * i)), .ref (ad 15 (2 * i + 1)), .int (iI ((tu τ c j v) 1 i)), .int (iI ((tu τ c j v) 4 i)), .int (iI ((tu τ c j v) 27 i))] H); rw [tu_n (h 1 (by decide)), tu_n (h 4 (by decide)), tu_n (h 27 (by decide))]; exact hc
  | 12, h, hc => (show IAR D (ad 12 i) (cT 0) 20 (fun k => (tu τ c j v) 2 (20 * i + k)) H); rw [tu_n (h 2 (by decide))]; exact hc
  | 13, h, hc => (show IAR D (ad 13 i) (cT 0) 20 (fun k => (tu τ c j v) 3 (20 * i + k)) H); rw [tu_n (h 3 (by decide))]; exact hc
  | 14, h, hc => (show IAR D (ad 14 i) (cT 0) 20 (fun k => (tu τ c j v) 5 (20 * i + k)) H); rw [tu_n (h 5 (by decide))]; exact hc
  | 15, h, hc => (show OBJ D (ad 15 i) 2 [.ref (ad 16 i), .ref (ad 17 i), .int (iI ((tu τ c j v) 8 i))] H); rw [tu_n (h 8 (by decide))]; exact hc
  | 16, h, hc => (show IAR D (ad 16 i) (cT 0) 20 (fun k => (tu τ c j v) 9 (20 * i + k)) H); rw [tu_n (h 9 (by decide))]; exact hc
  | 17, h, hc => (show IAR D (ad 17 i) (cT 0) 20 (fun k => (tu τ c j v) 10 (20 * i + k)) H); rw [tu_n (h 10 (by decide))]; exact hc
  | 18, h, hc => (show OBJ D (ad 18 i) 6 [.int (iI ((tu τ c j v) 13 i)), .int (iI ((tu τ c j v) 14 i)), .int (iI ((tu τ c j v) 15 i)), .int (iI ((tu τ c j v) 16 i))] H); rw [tu_n (h 13 (by decide)), tu_n (h 14 (by decide)), tu_n (h 15 (by decide)), tu_n (h 16 (by decide))]; exact hc
  | 19, h, hc => (show OBJ D (ad 19 i) 0 [.ref (ad 20 i), .int (iI ((tu τ c j v) 19 i))] H); rw [tu_n (h 19 (by decide))]; exact hc
  | 20, h, hc => (show RAR D (ad 20 i) (cT 5) 16 (fun q => if (q : Int) < (tu τ c j v) 19 i then some (ad 21 (16 * i + q)) else none) H); rw [tu_n (h 19 (by decide))]; exact hc
  | 21, h, hc => (show OBJ D (ad 21 i) 5 [.int (iI ((tu τ c j v) 20 i)), .int (iI ((tu τ c j v) 21 i)), .int (iI ((tu τ c j v) 22 i)), .int (iI ((tu τ c j v) 23 i)), .int (iI ((tu τ c j v) 24 i))] H); rw [tu_n (h 20 (by decide)), tu_n (h 21 (by decide)), tu_n (h 22 (by decide)), tu_n (h 23 (by decide)), tu_n (h 24 (by decide))]; exact hc
  | k + 22, _, hc => exact trivial
theorem cell_ru {c j k : Nat} {v : Int} (h : ∀ d, (k = 6 ∧ d = 0) ∨ (k = 7 ∧ d = 1) ∨ (k = 10 ∧ d = 2 + i) → d ≠ c) (hc : cCell D cT ad τ ρ k i H) : cCell D cT ad τ (tu ρ c j v) k i H := by
  match k, h, hc with
  | 0, _, hc => exact hc
  | 1, _, hc => exact hc
  | 2, _, hc => exact hc
  | 3, _, hc => exact hc
  | 4, _, hc => exact hc
  | 5, _, hc => exact hc
  | 6, h, hc => (show IAR D (ad 6 i) (cT 0) 20 ((tu ρ c j v) 0) H); rw [tu_n (h 0 (Or.inl ⟨rfl, rfl⟩))]; exact hc
  | 7, h, hc => (show IAR D (ad 7 i) (cT 1) 20 ((tu ρ c j v) 1) H); rw [tu_n (h 1 (Or.inr (Or.inl ⟨rfl, rfl⟩)))]; exact hc
  | 8, _, hc => exact hc
  | 9, _, hc => exact hc
  | 10, h, hc => (show IAR D (ad 10 i) (cT 0) 21 ((tu ρ c j v) (2 + i)) H); rw [tu_n (h (2 + i) (Or.inr (Or.inr ⟨rfl, rfl⟩)))]; exact hc
  | 11, _, hc => exact hc
  | 12, _, hc => exact hc
  | 13, _, hc => exact hc
  | 14, _, hc => exact hc
  | 15, _, hc => exact hc
  | 16, _, hc => exact hc
  | 17, _, hc => exact hc
  | 18, _, hc => exact hc
  | 19, _, hc => exact hc
  | 20, _, hc => exact hc
  | 21, _, hc => exact hc
  | k + 22, _, hc => exact trivial
theorem dep_ne {c k : Nat} (kc : Nat) (hk : k ≠ kc) (h : ∀ k2, c ∈ cDeps k2 → k2 = kc) : ∀ d ∈ cDeps k, d ≠ c := fun d hd e => hk (h k (by rw [← e]; exact hd))
theorem deps_lt {k c : Nat} (h : c ∈ cDeps k) : k < 22 := by
  rcases Nat.lt_or_ge k 22 with q | q
  · exact q
  · exfalso
    unfold cDeps at h
    split at h <;> first | omega | (simp at h)
theorem dep_11 : ∀ k2, 11 ∈ cDeps k2 → k2 = 4 := fun k2 h => by
  have hl := deps_lt h
  have : ∀ k : Fin 22, 11 ∈ cDeps k.val → k.val = 4 := by decide
  exact this ⟨k2, hl⟩ h
theorem dep_1 : ∀ k2, 1 ∈ cDeps k2 → k2 = 11 := fun k2 h => by
  have hl := deps_lt h
  have : ∀ k : Fin 22, 1 ∈ cDeps k.val → k.val = 11 := by decide
  exact this ⟨k2, hl⟩ h
theorem dep_4 : ∀ k2, 4 ∈ cDeps k2 → k2 = 11 := fun k2 h => by
  have hl := deps_lt h
  have : ∀ k : Fin 22, 4 ∈ cDeps k.val → k.val = 11 := by decide
  exact this ⟨k2, hl⟩ h
theorem dep_27 : ∀ k2, 27 ∈ cDeps k2 → k2 = 11 := fun k2 h => by
  have hl := deps_lt h
  have : ∀ k : Fin 22, 27 ∈ cDeps k.val → k.val = 11 := by decide
  exact this ⟨k2, hl⟩ h
theorem dep_2 : ∀ k2, 2 ∈ cDeps k2 → k2 = 12 := fun k2 h => by
  have hl := deps_lt h
  have : ∀ k : Fin 22, 2 ∈ cDeps k.val → k.val = 12 := by decide
  exact this ⟨k2, hl⟩ h
theorem dep_3 : ∀ k2, 3 ∈ cDeps k2 → k2 = 13 := fun k2 h => by
  have hl := deps_lt h
  have : ∀ k : Fin 22, 3 ∈ cDeps k.val → k.val = 13 := by decide
  exact this ⟨k2, hl⟩ h
theorem dep_5 : ∀ k2, 5 ∈ cDeps k2 → k2 = 14 := fun k2 h => by
  have hl := deps_lt h
  have : ∀ k : Fin 22, 5 ∈ cDeps k.val → k.val = 14 := by decide
  exact this ⟨k2, hl⟩ h
theorem dep_8 : ∀ k2, 8 ∈ cDeps k2 → k2 = 15 := fun k2 h => by
  have hl := deps_lt h
  have : ∀ k : Fin 22, 8 ∈ cDeps k.val → k.val = 15 := by decide
  exact this ⟨k2, hl⟩ h
theorem dep_9 : ∀ k2, 9 ∈ cDeps k2 → k2 = 16 := fun k2 h => by
  have hl := deps_lt h
  have : ∀ k : Fin 22, 9 ∈ cDeps k.val → k.val = 16 := by decide
  exact this ⟨k2, hl⟩ h
theorem dep_10 : ∀ k2, 10 ∈ cDeps k2 → k2 = 17 := fun k2 h => by
  have hl := deps_lt h
  have : ∀ k : Fin 22, 10 ∈ cDeps k.val → k.val = 17 := by decide
  exact this ⟨k2, hl⟩ h
theorem dep_16 : ∀ k2, 16 ∈ cDeps k2 → k2 = 18 := fun k2 h => by
  have hl := deps_lt h
  have : ∀ k : Fin 22, 16 ∈ cDeps k.val → k.val = 18 := by decide
  exact this ⟨k2, hl⟩ h
theorem dep_23 : ∀ k2, 23 ∈ cDeps k2 → k2 = 21 := fun k2 h => by
  have hl := deps_lt h
  have : ∀ k : Fin 22, 23 ∈ cDeps k.val → k.val = 21 := by decide
  exact this ⟨k2, hl⟩ h
theorem dep_24 : ∀ k2, 24 ∈ cDeps k2 → k2 = 21 := fun k2 h => by
  have hl := deps_lt h
  have : ∀ k : Fin 22, 24 ∈ cDeps k.val → k.val = 21 := by decide
  exact this ⟨k2, hl⟩ h
theorem dep_25 : ∀ k2, 25 ∈ cDeps k2 → k2 = 0 := fun k2 h => by
  have hl := deps_lt h
  have : ∀ k : Fin 22, 25 ∈ cDeps k.val → k.val = 0 := by decide
  exact this ⟨k2, hl⟩ h
theorem CW.put11 {j : Nat} {v : Int} (hW : CW D cT ad τ ρ H) (hn : IAR D (ad 4 0) (cT 0) 10 (fu (τ 11) j v) H1) (oq : ∀ q : Nat, q ≠ ad 4 0 → H1[q]? = H[q]?) : CW D cT ad (tu τ 11 j v) ρ H1 := by
  refine hW.put (k := 4) (i := 0) rfl ?_ oq (fun k2 i2 h => (live_tu (by decide) (by decide) (by decide) (by decide)).mp h) (fun k2 i2 hs hl hc => ?_)
  · show IAR D (ad 4 0) (cT 0) 10 (tu τ 11 j v 11) H1
    rw [tu_c]
    exact hn
  · by_cases hk : k2 = 4
    · subst hk; exact absurd ⟨rfl, hl⟩ hs
    · exact cell_tu (dep_ne 4 hk dep_11) hc
theorem CW.put1 {v : Int} (hW : CW D cT ad τ ρ H) (hl0 : cLive τ 11 i) (hn : OBJ D (ad 11 i) 1 ([.ref (ad 12 i), .ref (ad 13 i), .ref (ad 14 i), .ref (ad 15 (2 * i)), .ref (ad 15 (2 * i + 1)), .int (iI (τ 1 i)), .int (iI (τ 4 i)), .int (iI (τ 27 i))].set 5 (.int (iI v))) H1) (oq : ∀ q : Nat, q ≠ ad 11 i → H1[q]? = H[q]?) : CW D cT ad (tu τ 1 i v) ρ H1 := by
  refine hW.put (k := 11) (i := i) hl0 ?_ oq (fun k2 i2 h => (live_tu (by decide) (by decide) (by decide) (by decide)).mp h) (fun k2 i2 hs hl hc => ?_)
  · show OBJ D (ad 11 i) 1 [.ref (ad 12 i), .ref (ad 13 i), .ref (ad 14 i), .ref (ad 15 (2 * i)), .ref (ad 15 (2 * i + 1)), .int (iI ((tu τ 1 i v) 1 i)), .int (iI ((tu τ 1 i v) 4 i)), .int (iI ((tu τ 1 i v) 27 i))] H1
    rw [tu_n (show 4 ≠ 1 by decide), tu_n (show 27 ≠ 1 by decide), tu_s]
    exact hn
  · by_cases hk : k2 = 11
    · subst hk
      have hi : i2 ≠ i := fun e => hs ⟨rfl, e⟩
      show OBJ D (ad 11 i2) 1 [.ref (ad 12 i2), .ref (ad 13 i2), .ref (ad 14 i2), .ref (ad 15 (2 * i2)), .ref (ad 15 (2 * i2 + 1)), .int (iI ((tu τ 1 i v) 1 i2)), .int (iI ((tu τ 1 i v) 4 i2)), .int (iI ((tu τ 1 i v) 27 i2))] H1
      rw [tu_n (show 4 ≠ 1 by decide), tu_n (show 27 ≠ 1 by decide), tu_c, fu_n hi]
      exact hc
    · exact cell_tu (dep_ne 11 hk dep_1) hc
theorem CW.put4 {v : Int} (hW : CW D cT ad τ ρ H) (hl0 : cLive τ 11 i) (hn : OBJ D (ad 11 i) 1 ([.ref (ad 12 i), .ref (ad 13 i), .ref (ad 14 i), .ref (ad 15 (2 * i)), .ref (ad 15 (2 * i + 1)), .int (iI (τ 1 i)), .int (iI (τ 4 i)), .int (iI (τ 27 i))].set 6 (.int (iI v))) H1) (oq : ∀ q : Nat, q ≠ ad 11 i → H1[q]? = H[q]?) : CW D cT ad (tu τ 4 i v) ρ H1 := by
  refine hW.put (k := 11) (i := i) hl0 ?_ oq (fun k2 i2 h => (live_tu (by decide) (by decide) (by decide) (by decide)).mp h) (fun k2 i2 hs hl hc => ?_)
  · show OBJ D (ad 11 i) 1 [.ref (ad 12 i), .ref (ad 13 i), .ref (ad 14 i), .ref (ad 15 (2 * i)), .ref (ad 15 (2 * i + 1)), .int (iI ((tu τ 4 i v) 1 i)), .int (iI ((tu τ 4 i v) 4 i)), .int (iI ((tu τ 4 i v) 27 i))] H1
    rw [tu_n (show 1 ≠ 4 by decide), tu_n (show 27 ≠ 4 by decide), tu_s]
    exact hn
  · by_cases hk : k2 = 11
    · subst hk
      have hi : i2 ≠ i := fun e => hs ⟨rfl, e⟩
      show OBJ D (ad 11 i2) 1 [.ref (ad 12 i2), .ref (ad 13 i2), .ref (ad 14 i2), .ref (ad 15 (2 * i2)), .ref (ad 15 (2 * i2 + 1)), .int (iI ((tu τ 4 i v) 1 i2)), .int (iI ((tu τ 4 i v) 4 i2)), .int (iI ((tu τ 4 i v) 27 i2))] H1
      rw [tu_n (show 1 ≠ 4 by decide), tu_n (show 27 ≠ 4 by decide), tu_c, fu_n hi]
      exact hc
    · exact cell_tu (dep_ne 11 hk dep_4) hc
theorem CW.put27 {v : Int} (hW : CW D cT ad τ ρ H) (hl0 : cLive τ 11 i) (hn : OBJ D (ad 11 i) 1 ([.ref (ad 12 i), .ref (ad 13 i), .ref (ad 14 i), .ref (ad 15 (2 * i)), .ref (ad 15 (2 * i + 1)), .int (iI (τ 1 i)), .int (iI (τ 4 i)), .int (iI (τ 27 i))].set 7 (.int (iI v))) H1) (oq : ∀ q : Nat, q ≠ ad 11 i → H1[q]? = H[q]?) : CW D cT ad (tu τ 27 i v) ρ H1 := by
  refine hW.put (k := 11) (i := i) hl0 ?_ oq (fun k2 i2 h => (live_tu (by decide) (by decide) (by decide) (by decide)).mp h) (fun k2 i2 hs hl hc => ?_)
  · show OBJ D (ad 11 i) 1 [.ref (ad 12 i), .ref (ad 13 i), .ref (ad 14 i), .ref (ad 15 (2 * i)), .ref (ad 15 (2 * i + 1)), .int (iI ((tu τ 27 i v) 1 i)), .int (iI ((tu τ 27 i v) 4 i)), .int (iI ((tu τ 27 i v) 27 i))] H1
    rw [tu_n (show 1 ≠ 27 by decide), tu_n (show 4 ≠ 27 by decide), tu_s]
    exact hn
  · by_cases hk : k2 = 11
    · subst hk
      have hi : i2 ≠ i := fun e => hs ⟨rfl, e⟩
      show OBJ D (ad 11 i2) 1 [.ref (ad 12 i2), .ref (ad 13 i2), .ref (ad 14 i2), .ref (ad 15 (2 * i2)), .ref (ad 15 (2 * i2 + 1)), .int (iI ((tu τ 27 i v) 1 i2)), .int (iI ((tu τ 27 i v) 4 i2)), .int (iI ((tu τ 27 i v) 27 i2))] H1
      rw [tu_n (show 1 ≠ 27 by decide), tu_n (show 4 ≠ 27 by decide), tu_c, fu_n hi]
      exact hc
    · exact cell_tu (dep_ne 11 hk dep_27) hc
theorem CW.put2 {j : Nat} {v : Int} (hW : CW D cT ad τ ρ H) (hl0 : cLive τ 12 i) (hj : j < 20) (hn : IAR D (ad 12 i) (cT 0) 20 (fu (fun k => τ 2 (20 * i + k)) j v) H1) (oq : ∀ q : Nat, q ≠ ad 12 i → H1[q]? = H[q]?) : CW D cT ad (tu τ 2 (20 * i + j) v) ρ H1 := by
  refine hW.put (k := 12) (i := i) hl0 ?_ oq (fun k2 i2 h => (live_tu (by decide) (by decide) (by decide) (by decide)).mp h) (fun k2 i2 hs hl hc => ?_)
  · refine IAR_cong hn (fun k hk => ?_)
    show fu (fun k => τ 2 (20 * i + k)) j v k = tu τ 2 (20 * i + j) v 2 (20 * i + k)
    rw [tu_c]
    by_cases e : k = j
    · subst e; rw [fu_s, fu_s]
    · rw [fu_n e, fu_n (by omega)]
  · by_cases hk : k2 = 12
    · subst hk
      have hi : i2 ≠ i := fun e => hs ⟨rfl, e⟩
      refine IAR_cong (show IAR D (ad 12 i2) (cT 0) 20 (fun k => τ 2 (20 * i2 + k)) H1 from hc) (fun k hk => ?_)
      show τ 2 (20 * i2 + k) = tu τ 2 (20 * i + j) v 2 (20 * i2 + k)
      rw [tu_c, fu_n (by omega)]
    · exact cell_tu (dep_ne 12 hk dep_2) hc
theorem CW.put3 {j : Nat} {v : Int} (hW : CW D cT ad τ ρ H) (hl0 : cLive τ 13 i) (hj : j < 20) (hn : IAR D (ad 13 i) (cT 0) 20 (fu (fun k => τ 3 (20 * i + k)) j v) H1) (oq : ∀ q : Nat, q ≠ ad 13 i → H1[q]? = H[q]?) : CW D cT ad (tu τ 3 (20 * i + j) v) ρ H1 := by
  refine hW.put (k := 13) (i := i) hl0 ?_ oq (fun k2 i2 h => (live_tu (by decide) (by decide) (by decide) (by decide)).mp h) (fun k2 i2 hs hl hc => ?_)
  · refine IAR_cong hn (fun k hk => ?_)
    show fu (fun k => τ 3 (20 * i + k)) j v k = tu τ 3 (20 * i + j) v 3 (20 * i + k)
    rw [tu_c]
    by_cases e : k = j
    · subst e; rw [fu_s, fu_s]
    · rw [fu_n e, fu_n (by omega)]
  · by_cases hk : k2 = 13
    · subst hk
      have hi : i2 ≠ i := fun e => hs ⟨rfl, e⟩
      refine IAR_cong (show IAR D (ad 13 i2) (cT 0) 20 (fun k => τ 3 (20 * i2 + k)) H1 from hc) (fun k hk => ?_)
      show τ 3 (20 * i2 + k) = tu τ 3 (20 * i + j) v 3 (20 * i2 + k)
      rw [tu_c, fu_n (by omega)]
    · exact cell_tu (dep_ne 13 hk dep_3) hc
theorem CW.put5 {j : Nat} {v : Int} (hW : CW D cT ad τ ρ H) (hl0 : cLive τ 14 i) (hj : j < 20) (hn : IAR D (ad 14 i) (cT 0) 20 (fu (fun k => τ 5 (20 * i + k)) j v) H1) (oq : ∀ q : Nat, q ≠ ad 14 i → H1[q]? = H[q]?) : CW D cT ad (tu τ 5 (20 * i + j) v) ρ H1 := by
  refine hW.put (k := 14) (i := i) hl0 ?_ oq (fun k2 i2 h => (live_tu (by decide) (by decide) (by decide) (by decide)).mp h) (fun k2 i2 hs hl hc => ?_)
  · refine IAR_cong hn (fun k hk => ?_)
    show fu (fun k => τ 5 (20 * i + k)) j v k = tu τ 5 (20 * i + j) v 5 (20 * i + k)
    rw [tu_c]
    by_cases e : k = j
    · subst e; rw [fu_s, fu_s]
    · rw [fu_n e, fu_n (by omega)]
  · by_cases hk : k2 = 14
    · subst hk
      have hi : i2 ≠ i := fun e => hs ⟨rfl, e⟩
      refine IAR_cong (show IAR D (ad 14 i2) (cT 0) 20 (fun k => τ 5 (20 * i2 + k)) H1 from hc) (fun k hk => ?_)
      show τ 5 (20 * i2 + k) = tu τ 5 (20 * i + j) v 5 (20 * i2 + k)
      rw [tu_c, fu_n (by omega)]
    · exact cell_tu (dep_ne 14 hk dep_5) hc
theorem CW.put8 {v : Int} (hW : CW D cT ad τ ρ H) (hl0 : cLive τ 15 i) (hn : OBJ D (ad 15 i) 2 ([.ref (ad 16 i), .ref (ad 17 i), .int (iI (τ 8 i))].set 2 (.int (iI v))) H1) (oq : ∀ q : Nat, q ≠ ad 15 i → H1[q]? = H[q]?) : CW D cT ad (tu τ 8 i v) ρ H1 := by
  refine hW.put (k := 15) (i := i) hl0 ?_ oq (fun k2 i2 h => (live_tu (by decide) (by decide) (by decide) (by decide)).mp h) (fun k2 i2 hs hl hc => ?_)
  · show OBJ D (ad 15 i) 2 [.ref (ad 16 i), .ref (ad 17 i), .int (iI ((tu τ 8 i v) 8 i))] H1
    rw [tu_s]
    exact hn
  · by_cases hk : k2 = 15
    · subst hk
      have hi : i2 ≠ i := fun e => hs ⟨rfl, e⟩
      show OBJ D (ad 15 i2) 2 [.ref (ad 16 i2), .ref (ad 17 i2), .int (iI ((tu τ 8 i v) 8 i2))] H1
      rw [tu_c, fu_n hi]
      exact hc
    · exact cell_tu (dep_ne 15 hk dep_8) hc
theorem CW.put9 {j : Nat} {v : Int} (hW : CW D cT ad τ ρ H) (hl0 : cLive τ 16 i) (hj : j < 20) (hn : IAR D (ad 16 i) (cT 0) 20 (fu (fun k => τ 9 (20 * i + k)) j v) H1) (oq : ∀ q : Nat, q ≠ ad 16 i → H1[q]? = H[q]?) : CW D cT ad (tu τ 9 (20 * i + j) v) ρ H1 := by
  refine hW.put (k := 16) (i := i) hl0 ?_ oq (fun k2 i2 h => (live_tu (by decide) (by decide) (by decide) (by decide)).mp h) (fun k2 i2 hs hl hc => ?_)
  · refine IAR_cong hn (fun k hk => ?_)
    show fu (fun k => τ 9 (20 * i + k)) j v k = tu τ 9 (20 * i + j) v 9 (20 * i + k)
    rw [tu_c]
    by_cases e : k = j
    · subst e; rw [fu_s, fu_s]
    · rw [fu_n e, fu_n (by omega)]
  · by_cases hk : k2 = 16
    · subst hk
      have hi : i2 ≠ i := fun e => hs ⟨rfl, e⟩
      refine IAR_cong (show IAR D (ad 16 i2) (cT 0) 20 (fun k => τ 9 (20 * i2 + k)) H1 from hc) (fun k hk => ?_)
      show τ 9 (20 * i2 + k) = tu τ 9 (20 * i + j) v 9 (20 * i2 + k)
      rw [tu_c, fu_n (by omega)]
    · exact cell_tu (dep_ne 16 hk dep_9) hc
theorem CW.put10 {j : Nat} {v : Int} (hW : CW D cT ad τ ρ H) (hl0 : cLive τ 17 i) (hj : j < 20) (hn : IAR D (ad 17 i) (cT 0) 20 (fu (fun k => τ 10 (20 * i + k)) j v) H1) (oq : ∀ q : Nat, q ≠ ad 17 i → H1[q]? = H[q]?) : CW D cT ad (tu τ 10 (20 * i + j) v) ρ H1 := by
  refine hW.put (k := 17) (i := i) hl0 ?_ oq (fun k2 i2 h => (live_tu (by decide) (by decide) (by decide) (by decide)).mp h) (fun k2 i2 hs hl hc => ?_)
  · refine IAR_cong hn (fun k hk => ?_)
    show fu (fun k => τ 10 (20 * i + k)) j v k = tu τ 10 (20 * i + j) v 10 (20 * i + k)
    rw [tu_c]
    by_cases e : k = j
    · subst e; rw [fu_s, fu_s]
    · rw [fu_n e, fu_n (by omega)]
  · by_cases hk : k2 = 17
    · subst hk
      have hi : i2 ≠ i := fun e => hs ⟨rfl, e⟩
      refine IAR_cong (show IAR D (ad 17 i2) (cT 0) 20 (fun k => τ 10 (20 * i2 + k)) H1 from hc) (fun k hk => ?_)
      show τ 10 (20 * i2 + k) = tu τ 10 (20 * i + j) v 10 (20 * i2 + k)
      rw [tu_c, fu_n (by omega)]
    · exact cell_tu (dep_ne 17 hk dep_10) hc
theorem CW.put16 {v : Int} (hW : CW D cT ad τ ρ H) (hl0 : cLive τ 18 i) (hn : OBJ D (ad 18 i) 6 ([.int (iI (τ 13 i)), .int (iI (τ 14 i)), .int (iI (τ 15 i)), .int (iI (τ 16 i))].set 3 (.int (iI v))) H1) (oq : ∀ q : Nat, q ≠ ad 18 i → H1[q]? = H[q]?) : CW D cT ad (tu τ 16 i v) ρ H1 := by
  refine hW.put (k := 18) (i := i) hl0 ?_ oq (fun k2 i2 h => (live_tu (by decide) (by decide) (by decide) (by decide)).mp h) (fun k2 i2 hs hl hc => ?_)
  · show OBJ D (ad 18 i) 6 [.int (iI ((tu τ 16 i v) 13 i)), .int (iI ((tu τ 16 i v) 14 i)), .int (iI ((tu τ 16 i v) 15 i)), .int (iI ((tu τ 16 i v) 16 i))] H1
    rw [tu_n (show 13 ≠ 16 by decide), tu_n (show 14 ≠ 16 by decide), tu_n (show 15 ≠ 16 by decide), tu_s]
    exact hn
  · by_cases hk : k2 = 18
    · subst hk
      have hi : i2 ≠ i := fun e => hs ⟨rfl, e⟩
      show OBJ D (ad 18 i2) 6 [.int (iI ((tu τ 16 i v) 13 i2)), .int (iI ((tu τ 16 i v) 14 i2)), .int (iI ((tu τ 16 i v) 15 i2)), .int (iI ((tu τ 16 i v) 16 i2))] H1
      rw [tu_n (show 13 ≠ 16 by decide), tu_n (show 14 ≠ 16 by decide), tu_n (show 15 ≠ 16 by decide), tu_c, fu_n hi]
      exact hc
    · exact cell_tu (dep_ne 18 hk dep_16) hc
theorem CW.put23 {v : Int} (hW : CW D cT ad τ ρ H) (hl0 : cLive τ 21 i) (hn : OBJ D (ad 21 i) 5 ([.int (iI (τ 20 i)), .int (iI (τ 21 i)), .int (iI (τ 22 i)), .int (iI (τ 23 i)), .int (iI (τ 24 i))].set 3 (.int (iI v))) H1) (oq : ∀ q : Nat, q ≠ ad 21 i → H1[q]? = H[q]?) : CW D cT ad (tu τ 23 i v) ρ H1 := by
  refine hW.put (k := 21) (i := i) hl0 ?_ oq (fun k2 i2 h => (live_tu (by decide) (by decide) (by decide) (by decide)).mp h) (fun k2 i2 hs hl hc => ?_)
  · show OBJ D (ad 21 i) 5 [.int (iI ((tu τ 23 i v) 20 i)), .int (iI ((tu τ 23 i v) 21 i)), .int (iI ((tu τ 23 i v) 22 i)), .int (iI ((tu τ 23 i v) 23 i)), .int (iI ((tu τ 23 i v) 24 i))] H1
    rw [tu_n (show 20 ≠ 23 by decide), tu_n (show 21 ≠ 23 by decide), tu_n (show 22 ≠ 23 by decide), tu_n (show 24 ≠ 23 by decide), tu_s]
    exact hn
  · by_cases hk : k2 = 21
    · subst hk
      have hi : i2 ≠ i := fun e => hs ⟨rfl, e⟩
      show OBJ D (ad 21 i2) 5 [.int (iI ((tu τ 23 i v) 20 i2)), .int (iI ((tu τ 23 i v) 21 i2)), .int (iI ((tu τ 23 i v) 22 i2)), .int (iI ((tu τ 23 i v) 23 i2)), .int (iI ((tu τ 23 i v) 24 i2))] H1
      rw [tu_n (show 20 ≠ 23 by decide), tu_n (show 21 ≠ 23 by decide), tu_n (show 22 ≠ 23 by decide), tu_n (show 24 ≠ 23 by decide), tu_c, fu_n hi]
      exact hc
    · exact cell_tu (dep_ne 21 hk dep_23) hc
theorem CW.put24 {v : Int} (hW : CW D cT ad τ ρ H) (hl0 : cLive τ 21 i) (hn : OBJ D (ad 21 i) 5 ([.int (iI (τ 20 i)), .int (iI (τ 21 i)), .int (iI (τ 22 i)), .int (iI (τ 23 i)), .int (iI (τ 24 i))].set 4 (.int (iI v))) H1) (oq : ∀ q : Nat, q ≠ ad 21 i → H1[q]? = H[q]?) : CW D cT ad (tu τ 24 i v) ρ H1 := by
  refine hW.put (k := 21) (i := i) hl0 ?_ oq (fun k2 i2 h => (live_tu (by decide) (by decide) (by decide) (by decide)).mp h) (fun k2 i2 hs hl hc => ?_)
  · show OBJ D (ad 21 i) 5 [.int (iI ((tu τ 24 i v) 20 i)), .int (iI ((tu τ 24 i v) 21 i)), .int (iI ((tu τ 24 i v) 22 i)), .int (iI ((tu τ 24 i v) 23 i)), .int (iI ((tu τ 24 i v) 24 i))] H1
    rw [tu_n (show 20 ≠ 24 by decide), tu_n (show 21 ≠ 24 by decide), tu_n (show 22 ≠ 24 by decide), tu_n (show 23 ≠ 24 by decide), tu_s]
    exact hn
  · by_cases hk : k2 = 21
    · subst hk
      have hi : i2 ≠ i := fun e => hs ⟨rfl, e⟩
      show OBJ D (ad 21 i2) 5 [.int (iI ((tu τ 24 i v) 20 i2)), .int (iI ((tu τ 24 i v) 21 i2)), .int (iI ((tu τ 24 i v) 22 i2)), .int (iI ((tu τ 24 i v) 23 i2)), .int (iI ((tu τ 24 i v) 24 i2))] H1
      rw [tu_n (show 20 ≠ 24 by decide), tu_n (show 21 ≠ 24 by decide), tu_n (show 22 ≠ 24 by decide), tu_n (show 23 ≠ 24 by decide), tu_c, fu_n hi]
      exact hc
    · exact cell_tu (dep_ne 21 hk dep_24) hc
theorem CW.put25_0 {v : Int} (hW : CW D cT ad τ ρ H) (hn : OBJ D (ad 0 0) 7 ([.ref (ad 1 0), .ref (ad 2 0), .ref (ad 3 0), .ref (ad 4 0), .ref (ad 5 0), .ref (ad 8 0), .int (iI (τ 0 0)), .int (iI (τ 12 0)), .int (iI (τ 18 0)), .int (iI (τ 25 0)), .int (iI (τ 25 1))].set 9 (.int (iI v))) H1) (oq : ∀ q : Nat, q ≠ ad 0 0 → H1[q]? = H[q]?) : CW D cT ad (tu τ 25 0 v) ρ H1 := by
  refine hW.put (k := 0) (i := 0) rfl ?_ oq (fun k2 i2 h => (live_tu (by decide) (by decide) (by decide) (by decide)).mp h) (fun k2 i2 hs hl hc => ?_)
  · show OBJ D (ad 0 0) 7 [.ref (ad 1 0), .ref (ad 2 0), .ref (ad 3 0), .ref (ad 4 0), .ref (ad 5 0), .ref (ad 8 0), .int (iI ((tu τ 25 0 v) 0 0)), .int (iI ((tu τ 25 0 v) 12 0)), .int (iI ((tu τ 25 0 v) 18 0)), .int (iI ((tu τ 25 0 v) 25 0)), .int (iI ((tu τ 25 0 v) 25 1))] H1
    rw [tu_n (show 0 ≠ 25 by decide), tu_n (show 12 ≠ 25 by decide), tu_n (show 18 ≠ 25 by decide), tu_s, tu_c, fu_n (show 1 ≠ 0 by decide)]
    exact hn
  · by_cases hk : k2 = 0
    · subst hk; exact absurd ⟨rfl, hl⟩ hs
    · exact cell_tu (dep_ne 0 hk dep_25) hc
theorem CW.put25_1 {v : Int} (hW : CW D cT ad τ ρ H) (hn : OBJ D (ad 0 0) 7 ([.ref (ad 1 0), .ref (ad 2 0), .ref (ad 3 0), .ref (ad 4 0), .ref (ad 5 0), .ref (ad 8 0), .int (iI (τ 0 0)), .int (iI (τ 12 0)), .int (iI (τ 18 0)), .int (iI (τ 25 0)), .int (iI (τ 25 1))].set 10 (.int (iI v))) H1) (oq : ∀ q : Nat, q ≠ ad 0 0 → H1[q]? = H[q]?) : CW D cT ad (tu τ 25 1 v) ρ H1 := by
  refine hW.put (k := 0) (i := 0) rfl ?_ oq (fun k2 i2 h => (live_tu (by decide) (by decide) (by decide) (by decide)).mp h) (fun k2 i2 hs hl hc => ?_)
  · show OBJ D (ad 0 0) 7 [.ref (ad 1 0), .ref (ad 2 0), .ref (ad 3 0), .ref (ad 4 0), .ref (ad 5 0), .ref (ad 8 0), .int (iI ((tu τ 25 1 v) 0 0)), .int (iI ((tu τ 25 1 v) 12 0)), .int (iI ((tu τ 25 1 v) 18 0)), .int (iI ((tu τ 25 1 v) 25 0)), .int (iI ((tu τ 25 1 v) 25 1))] H1
    rw [tu_n (show 0 ≠ 25 by decide), tu_n (show 12 ≠ 25 by decide), tu_n (show 18 ≠ 25 by decide), tu_s, tu_c, fu_n (show 0 ≠ 1 by decide)]
    exact hn
  · by_cases hk : k2 = 0
    · subst hk; exact absurd ⟨rfl, hl⟩ hs
    · exact cell_tu (dep_ne 0 hk dep_25) hc
theorem CW.putr0 {j : Nat} {v : Int} (hW : CW D cT ad τ ρ H) (hn : IAR D (ad 6 0) (cT 0) 20 (fu (ρ 0) j v) H1) (oq : ∀ q : Nat, q ≠ ad 6 0 → H1[q]? = H[q]?) : CW D cT ad τ (tu ρ 0 j v) H1 := by
  refine hW.put (k := 6) (i := 0) rfl ?_ oq (fun k2 i2 h => h) (fun k2 i2 hs hl hc => ?_)
  · show IAR D (ad 6 0) (cT 0) 20 (tu ρ 0 j v 0) H1
    rw [tu_c]
    exact hn
  · refine cell_ru (fun d hd => ?_) hc
    rcases hd with ⟨h1, h2⟩ | ⟨h1, h2⟩ | ⟨h1, h2⟩
    all_goals (subst h1; subst h2)
    all_goals first | omega | exact absurd ⟨rfl, hl⟩ hs
theorem CW.putr1 {j : Nat} {v : Int} (hW : CW D cT ad τ ρ H) (hn : IAR D (ad 7 0) (cT 1) 20 (fu (ρ 1) j v) H1) (oq : ∀ q : Nat, q ≠ ad 7 0 → H1[q]? = H[q]?) : CW D cT ad τ (tu ρ 1 j v) H1 := by
  refine hW.put (k := 7) (i := 0) rfl ?_ oq (fun k2 i2 h => h) (fun k2 i2 hs hl hc => ?_)
  · show IAR D (ad 7 0) (cT 1) 20 (tu ρ 1 j v 1) H1
    rw [tu_c]
    exact hn
  · refine cell_ru (fun d hd => ?_) hc
    rcases hd with ⟨h1, h2⟩ | ⟨h1, h2⟩ | ⟨h1, h2⟩
    all_goals (subst h1; subst h2)
    all_goals first | omega | exact absurd ⟨rfl, hl⟩ hs
theorem CW.putrow {j : Nat} {v : Int} (hW : CW D cT ad τ ρ H) (hi0 : i < 21) (hn : IAR D (ad 10 i) (cT 0) 21 (fu (ρ (2 + i)) j v) H1) (oq : ∀ q : Nat, q ≠ ad 10 i → H1[q]? = H[q]?) : CW D cT ad τ (tu ρ (2 + i) j v) H1 := by
  refine hW.put (k := 10) (i := i) hi0 ?_ oq (fun k2 i2 h => h) (fun k2 i2 hs hl hc => ?_)
  · show IAR D (ad 10 i) (cT 0) 21 (tu ρ (2 + i) j v (2 + i)) H1
    rw [tu_c]
    exact hn
  · refine cell_ru (fun d hd => ?_) hc
    rcases hd with ⟨h1, h2⟩ | ⟨h1, h2⟩ | ⟨h1, h2⟩
    all_goals (subst h1; subst h2)
    all_goals first | omega | exact fun e => hs ⟨rfl, by omega⟩
end CWS
