/-! numbers: every int of the walk is iI of an Int, every long lL of one -/
def iI (z : Int) : Int32 := Int32.ofInt z
def lL (z : Int) : Int64 := Int64.ofInt z
abbrev I32 (z : Int) : Prop := -2147483648 ≤ z ∧ z ≤ 2147483647
abbrev I64 (z : Int) : Prop := -9223372036854775808 ≤ z ∧ z ≤ 9223372036854775807
theorem iI_toInt {z : Int} (h : I32 z) : (iI z).toInt = z := by
  show (Int32.ofInt z).toInt = z
  have fb : z.bmod (2 ^ 32) = z := by rw [Int.bmod_eq_of_le (by omega) (by omega)]
  rw [Int32.toInt_ofInt]
  exact fb
theorem lL_toInt {z : Int} (h : I64 z) : (lL z).toInt = z := by
  show (Int64.ofInt z).toInt = z
  have fb : z.bmod (2 ^ 64) = z := by rw [Int.bmod_eq_of_le (by omega) (by omega)]
  rw [Int64.toInt_ofInt]
  exact fb
theorem iI_add (a b : Int) : iI a + iI b = iI (a + b) := (Int32.ofInt_add a b).symm
theorem iI_sub (a b : Int) : iI a - iI b = iI (a - b) := (Int32.ofInt_sub a b).symm
theorem iI_mul (a b : Int) : iI a * iI b = iI (a * b) := (Int32.ofInt_mul a b).symm
theorem iI_neg (a : Int) : -iI a = iI (-a) := (Int32.ofInt_neg a).symm
theorem lL_add (a b : Int) : lL a + lL b = lL (a + b) := (Int64.ofInt_add a b).symm
theorem lL_mul (a b : Int) : lL a * lL b = lL (a * b) := (Int64.ofInt_mul a b).symm
theorem iI_long {z : Int} (h : I32 z) : (iI z).toInt64 = lL z := by
  apply Int64.toInt_inj.mp
  rw [Int32.toInt_toInt64, iI_toInt h, lL_toInt (by omega)]
theorem iI_lt {a b : Int} (ha : I32 a) (hb : I32 b) : iI a < iI b ↔ a < b := by rw [Int32.lt_iff_toInt_lt, iI_toInt ha, iI_toInt hb]
theorem iI_le {a b : Int} (ha : I32 a) (hb : I32 b) : iI a ≤ iI b ↔ a ≤ b := by rw [Int32.le_iff_toInt_le, iI_toInt ha, iI_toInt hb]
theorem iI_eq {a b : Int} (ha : I32 a) (hb : I32 b) : iI a = iI b ↔ a = b := by rw [← Int32.toInt_inj, iI_toInt ha, iI_toInt hb]
theorem lL_lt {a b : Int} (ha : I64 a) (hb : I64 b) : lL a < lL b ↔ a < b := by rw [Int64.lt_iff_toInt_lt, lL_toInt ha, lL_toInt hb]
theorem lL_le {a b : Int} (ha : I64 a) (hb : I64 b) : lL a ≤ lL b ↔ a ≤ b := by rw [Int64.le_iff_toInt_le, lL_toInt ha, lL_toInt hb]
theorem lL_eq {a b : Int} (ha : I64 a) (hb : I64 b) : lL a = lL b ↔ a = b := by rw [← Int64.toInt_inj, lL_toInt ha, lL_toInt hb]
theorem iI_of (x : Int32) : ∃ z : Int, I32 z ∧ x = iI z := ⟨x.toInt, by
  have h1 := Int32.le_toInt x
  have h2 := Int32.toInt_lt x
  omega, (Int32.ofInt_toInt x).symm⟩
theorem iI_0 : (0 : Int32) = iI 0 := by decide
theorem iI_nat (n : Nat) : iI (n : Int) = nI n := by
  show Int32.ofInt (n : Int) = Int32.ofNat n
  first | rfl | exact Int32.ofInt_eq_ofNat | simp
theorem iI_clamp {n : Nat} (h : n < 2 ^ 31) : (iI (n : Int)).toNatClampNeg = n := by rw [iI_nat, nI_clamp h]
theorem iI_in {n N : Nat} (h : n < N) (hN : N < 2 ^ 31) : vp_in (iI (n : Int)) N := by rw [iI_nat]; exact nI_in h hN
def bI (P : Prop) [Decidable P] : Int := if P then 1 else 0
theorem bI_t {P : Prop} [Decidable P] (h : P) : bI P = 1 := if_pos h
theorem bI_f {P : Prop} [Decidable P] (h : ¬ P) : bI P = 0 := if_neg h
theorem bI_01 (P : Prop) [Decidable P] : bI P = 0 ∨ bI P = 1 := by
  unfold bI
  split
  · exact Or.inr rfl
  · exact Or.inl rfl
theorem bI_r (P : Prop) [Decidable P] : 0 ≤ bI P ∧ bI P ≤ 1 := by
  have := bI_01 P
  omega
theorem bI_c {P Q : Prop} [Decidable P] [Decidable Q] (h : P ↔ Q) : bI P = bI Q := by
  unfold bI
  by_cases hp : P
  · rw [if_pos hp, if_pos (h.mp hp)]
  · rw [if_neg hp, if_neg (fun q => hp (h.mpr q))]
theorem bI_nar {v : Int} (h : v = 0 ∨ v = 1) : narrow .boolean (.int (iI v)) = .int (iI v) := by
  rcases h with rfl | rfl <;> decide
def cmpI (a b : Int) : Int := if b < a then 1 else if a = b then 0 else -1
theorem cmpI_r (a b : Int) : -1 ≤ cmpI a b ∧ cmpI a b ≤ 1 := by unfold cmpI; split; omega; split <;> omega
theorem cmpI_lt {a b : Int} : cmpI a b < 0 ↔ a < b := by unfold cmpI; split; omega; split <;> omega
theorem cmpI_gt {a b : Int} : 0 < cmpI a b ↔ b < a := by unfold cmpI; split; omega; split <;> omega
theorem cmpI_ge {a b : Int} : 0 ≤ cmpI a b ↔ b ≤ a := by unfold cmpI; split; omega; split <;> omega
theorem cmpI_le {a b : Int} : cmpI a b ≤ 0 ↔ a ≤ b := by unfold cmpI; split; omega; split <;> omega
theorem cmpI_eq {a b : Int} : cmpI a b = 0 ↔ a = b := by unfold cmpI; split; omega; split <;> omega
theorem lg_cmpI {a b : Int} (ha : I64 a) (hb : I64 b) : lg_cmp (lL a) (lL b) = iI (cmpI a b) := by
  unfold lg_cmp cmpI
  by_cases h1 : b < a
  · rw [if_pos ((lL_lt hb ha).mpr h1), if_pos h1]; decide
  · rw [if_neg (fun q => h1 ((lL_lt hb ha).mp q)), if_neg h1]
    by_cases h2 : a = b
    · rw [if_pos ((lL_eq ha hb).mpr h2), if_pos h2]; decide
    · rw [if_neg (fun q => h2 ((lL_eq ha hb).mp q)), if_neg h2]; decide

section ZR
variable {p : Program} {l : Launch} {e : Env} {R : Room} {s : State} {m : MethodId} {args : Array Value} {below : List Frame} {meth : Method} {c : Code} {H : Heap} {locs : List Loc} {cells slots : Nat} {Q : State → Prop}
variable {cc : ByteArray} {pc : Nat} {ls : Array Slot} {rest : List Value}

theorem z_iconst (hexec : p.tables.exec = Jvm.exec) (hb : c.code = cc) {n : Int} (hdg : decode cc pc = .ok (.iconst n, 1))
    (k : W p l e R s m args below meth c H locs cells slots Q (F0 m (pc + 1) ls (.int (iI n) :: rest))) : W p l e R s m args below meth c H locs cells slots Q (F0 m pc ls (rest)) := lv_iconst hexec hb hdg rfl k
theorem z_bipush (hexec : p.tables.exec = Jvm.exec) (hb : c.code = cc) {n : Int} (hdg : decode cc pc = .ok (.bipush n, 2)) (hv : (Int8.ofInt n).toInt32 = iI n)
    (k : W p l e R s m args below meth c H locs cells slots Q (F0 m (pc + 2) ls (.int (iI n) :: rest))) : W p l e R s m args below meth c H locs cells slots Q (F0 m pc ls rest) := lv_bipush hexec hb hdg hv k
theorem z_sipush (hexec : p.tables.exec = Jvm.exec) (hb : c.code = cc) {n : Int} (hdg : decode cc pc = .ok (.sipush n, 3)) (hv : (Int16.ofInt n).toInt32 = iI n)
    (k : W p l e R s m args below meth c H locs cells slots Q (F0 m (pc + 3) ls (.int (iI n) :: rest))) : W p l e R s m args below meth c H locs cells slots Q (F0 m pc ls rest) := lv_sipush hexec hb hdg hv k
theorem z_ldc (hexec : p.tables.exec = Jvm.exec) (hb : c.code = cc) {own : String} {index : Nat} {v : Int32} {n : Int} (hown : s.vm.findClass own = some m.cls) (hconst : (Jvm.Cond.constant own index v).before args s = true) (hv : v = iI n) (hdg : decode cc pc = .ok (.ldc index, 2))
    (k : W p l e R s m args below meth c H locs cells slots Q (F0 m (pc + 2) ls (.int (iI n) :: rest))) : W p l e R s m args below meth c H locs cells slots Q (F0 m pc ls rest) := lv_ldc hexec hb hown hconst hdg (by rw [hv]; exact k)
theorem z_ldc2 (hexec : p.tables.exec = Jvm.exec) (hb : c.code = cc) {own : String} {index : Nat} {v : Int64} {n : Int} (hown : s.vm.findClass own = some m.cls) (hconst : (Jvm.Cond.constantLong own index v).before args s = true) (hv : v = lL n) (hdg : decode cc pc = .ok (.ldc2_w index, 3))
    (k : W p l e R s m args below meth c H locs cells slots Q (F0 m (pc + 3) ls (.long (lL n) :: rest))) : W p l e R s m args below meth c H locs cells slots Q (F0 m pc ls rest) := lv_ldc2 hexec hb hown hconst hdg (by rw [hv]; exact k)
theorem z_lconst (hexec : p.tables.exec = Jvm.exec) (hb : c.code = cc) {q : Fin 2} {n : Int} (hv : Int64.ofNat (q : Nat) = lL n) (hdg : decode cc pc = .ok (.lconst q, 1))
    (k : W p l e R s m args below meth c H locs cells slots Q (F0 m (pc + 1) ls (.long (lL n) :: rest))) : W p l e R s m args below meth c H locs cells slots Q (F0 m pc ls rest) := lv_lconst hexec hb hdg hv k
theorem z_iadd (hexec : p.tables.exec = Jvm.exec) (hb : c.code = cc) {a b : Int} (hdg : decode cc pc = .ok (.iadd, 1))
    (k : W p l e R s m args below meth c H locs cells slots Q (F0 m (pc + 1) ls (.int (iI (a + b)) :: rest))) : W p l e R s m args below meth c H locs cells slots Q (F0 m pc ls (.int (iI b) :: .int (iI a) :: rest)) := lv_iadd hexec hb hdg (by rw [iI_add]; exact k)
theorem z_isub (hexec : p.tables.exec = Jvm.exec) (hb : c.code = cc) {a b : Int} (hdg : decode cc pc = .ok (.isub, 1))
    (k : W p l e R s m args below meth c H locs cells slots Q (F0 m (pc + 1) ls (.int (iI (a - b)) :: rest))) : W p l e R s m args below meth c H locs cells slots Q (F0 m pc ls (.int (iI b) :: .int (iI a) :: rest)) := lv_isub hexec hb hdg (by rw [iI_sub]; exact k)
theorem z_imul (hexec : p.tables.exec = Jvm.exec) (hb : c.code = cc) {a b : Int} (hdg : decode cc pc = .ok (.imul, 1))
    (k : W p l e R s m args below meth c H locs cells slots Q (F0 m (pc + 1) ls (.int (iI (a * b)) :: rest))) : W p l e R s m args below meth c H locs cells slots Q (F0 m pc ls (.int (iI b) :: .int (iI a) :: rest)) := lv_imul hexec hb hdg (by rw [iI_mul]; exact k)
theorem z_ladd (hexec : p.tables.exec = Jvm.exec) (hb : c.code = cc) {a b : Int} (hdg : decode cc pc = .ok (.ladd, 1))
    (k : W p l e R s m args below meth c H locs cells slots Q (F0 m (pc + 1) ls (.long (lL (a + b)) :: rest))) : W p l e R s m args below meth c H locs cells slots Q (F0 m pc ls (.long (lL b) :: .long (lL a) :: rest)) := lv_ladd hexec hb hdg (by rw [lL_add]; exact k)
theorem z_lmul (hexec : p.tables.exec = Jvm.exec) (hb : c.code = cc) {a b : Int} (hdg : decode cc pc = .ok (.lmul, 1))
    (k : W p l e R s m args below meth c H locs cells slots Q (F0 m (pc + 1) ls (.long (lL (a * b)) :: rest))) : W p l e R s m args below meth c H locs cells slots Q (F0 m pc ls (.long (lL b) :: .long (lL a) :: rest)) := lv_lmul hexec hb hdg (by rw [lL_mul]; exact k)
theorem z_ineg (hexec : p.tables.exec = Jvm.exec) (hb : c.code = cc) {a : Int} (hdg : decode cc pc = .ok (.ineg, 1))
    (k : W p l e R s m args below meth c H locs cells slots Q (F0 m (pc + 1) ls (.int (iI (-a)) :: rest))) : W p l e R s m args below meth c H locs cells slots Q (F0 m pc ls (.int (iI a) :: rest)) := lv_ineg hexec hb hdg (by rw [iI_neg]; exact k)
theorem z_i2l (hexec : p.tables.exec = Jvm.exec) (hb : c.code = cc) {a : Int} (ha : I32 a) (hdg : decode cc pc = .ok (.i2l, 1))
    (k : W p l e R s m args below meth c H locs cells slots Q (F0 m (pc + 1) ls (.long (lL a) :: rest))) : W p l e R s m args below meth c H locs cells slots Q (F0 m pc ls (.int (iI a) :: rest)) := lv_i2l hexec hb hdg (iI_long ha) k
theorem z_lcmp (hexec : p.tables.exec = Jvm.exec) (hb : c.code = cc) {a b : Int} (ha : I64 a) (hb2 : I64 b) (hdg : decode cc pc = .ok (.lcmp, 1))
    (k : W p l e R s m args below meth c H locs cells slots Q (F0 m (pc + 1) ls (.int (iI (cmpI a b)) :: rest))) : W p l e R s m args below meth c H locs cells slots Q (F0 m pc ls (.long (lL b) :: .long (lL a) :: rest)) := W.lcmp hexec hb hdg (by rw [lg_cmpI ha hb2]; exact k)
theorem z_iinc (hexec : p.tables.exec = Jvm.exec) (hb : c.code = cc) {i nL k : Nat} {n a : Int} {lv lv' : List (Nat × Value)} (hdg : decode cc pc = .ok (.iinc i n, 3)) (h : lv_has ls nL lv) (hk : lv[k]? = some (i, .int (iI a))) (hn : i < nL) (hl : (i, Value.int (iI (a + n))) :: lv.filter (fun q => !(q.1 == i) && !(q.1 + 1 == i && q.2.category == 2)) = lv')
    (kk : ∀ ls' : Array Slot, lv_has ls' nL lv' → W p l e R s m args below meth c H locs cells slots Q (F0 m (pc + 3) ls' rest)) : W p l e R s m args below meth c H locs cells slots Q (F0 m pc ls rest) := lv_iinc hexec hb hdg h hk (iI_add a n) hn hl kk
theorem z_icmp_eq (hexec : p.tables.exec = Jvm.exec) (hb : c.code = cc) {a b : Int} (ha : I32 a) (hb2 : I32 b) {off : Int} {tgt : Nat} (hdg : decode cc pc = .ok (.if_icmp .eq off, 3)) (ht : (pc : Int) + off = (tgt : Int))
    (kt : a = b → W p l e R s m args below meth c H locs cells slots Q (F0 m tgt ls rest)) (kf : ¬ a = b → W p l e R s m args below meth c H locs cells slots Q (F0 m (pc + 3) ls rest)) : W p l e R s m args below meth c H locs cells slots Q (F0 m pc ls (.int (iI b) :: .int (iI a) :: rest)) := lv_icmp_eq hexec hb hdg ht (fun h => kt ((iI_eq ha hb2).mp h)) (fun h => kf (fun q => h ((iI_eq ha hb2).mpr q)))
theorem z_if_eq (hexec : p.tables.exec = Jvm.exec) (hb : c.code = cc) {a : Int} (ha : I32 a) {off : Int} {tgt : Nat} (hdg : decode cc pc = .ok (.ifCond .eq off, 3)) (ht : (pc : Int) + off = (tgt : Int))
    (kt : a = 0 → W p l e R s m args below meth c H locs cells slots Q (F0 m tgt ls rest)) (kf : ¬ a = 0 → W p l e R s m args below meth c H locs cells slots Q (F0 m (pc + 3) ls rest)) : W p l e R s m args below meth c H locs cells slots Q (F0 m pc ls (.int (iI a) :: rest)) := lv_if_eq hexec hb hdg ht (fun h => kt ((iI_eq ha (b := 0) (by omega)).mp h)) (fun h => kf (fun q => h ((iI_eq ha (b := 0) (by omega)).mpr q)))
theorem z_icmp_ne (hexec : p.tables.exec = Jvm.exec) (hb : c.code = cc) {a b : Int} (ha : I32 a) (hb2 : I32 b) {off : Int} {tgt : Nat} (hdg : decode cc pc = .ok (.if_icmp .ne off, 3)) (ht : (pc : Int) + off = (tgt : Int))
    (kt : ¬ a = b → W p l e R s m args below meth c H locs cells slots Q (F0 m tgt ls rest)) (kf : a = b → W p l e R s m args below meth c H locs cells slots Q (F0 m (pc + 3) ls rest)) : W p l e R s m args below meth c H locs cells slots Q (F0 m pc ls (.int (iI b) :: .int (iI a) :: rest)) := lv_icmp_ne hexec hb hdg ht (fun h => kt (fun q => h ((iI_eq ha hb2).mpr q))) (fun h => kf ((iI_eq ha hb2).mp h))
theorem z_if_ne (hexec : p.tables.exec = Jvm.exec) (hb : c.code = cc) {a : Int} (ha : I32 a) {off : Int} {tgt : Nat} (hdg : decode cc pc = .ok (.ifCond .ne off, 3)) (ht : (pc : Int) + off = (tgt : Int))
    (kt : ¬ a = 0 → W p l e R s m args below meth c H locs cells slots Q (F0 m tgt ls rest)) (kf : a = 0 → W p l e R s m args below meth c H locs cells slots Q (F0 m (pc + 3) ls rest)) : W p l e R s m args below meth c H locs cells slots Q (F0 m pc ls (.int (iI a) :: rest)) := lv_if_ne hexec hb hdg ht (fun h => kt (fun q => h ((iI_eq ha (b := 0) (by omega)).mpr q))) (fun h => kf ((iI_eq ha (b := 0) (by omega)).mp h))
theorem z_icmp_lt (hexec : p.tables.exec = Jvm.exec) (hb : c.code = cc) {a b : Int} (ha : I32 a) (hb2 : I32 b) {off : Int} {tgt : Nat} (hdg : decode cc pc = .ok (.if_icmp .lt off, 3)) (ht : (pc : Int) + off = (tgt : Int))
    (kt : a < b → W p l e R s m args below meth c H locs cells slots Q (F0 m tgt ls rest)) (kf : ¬ a < b → W p l e R s m args below meth c H locs cells slots Q (F0 m (pc + 3) ls rest)) : W p l e R s m args below meth c H locs cells slots Q (F0 m pc ls (.int (iI b) :: .int (iI a) :: rest)) := lv_icmp_lt hexec hb hdg ht (fun h => kt ((iI_lt ha hb2).mp h)) (fun h => kf (fun q => h ((iI_lt ha hb2).mpr q)))
theorem z_if_lt (hexec : p.tables.exec = Jvm.exec) (hb : c.code = cc) {a : Int} (ha : I32 a) {off : Int} {tgt : Nat} (hdg : decode cc pc = .ok (.ifCond .lt off, 3)) (ht : (pc : Int) + off = (tgt : Int))
    (kt : a < 0 → W p l e R s m args below meth c H locs cells slots Q (F0 m tgt ls rest)) (kf : ¬ a < 0 → W p l e R s m args below meth c H locs cells slots Q (F0 m (pc + 3) ls rest)) : W p l e R s m args below meth c H locs cells slots Q (F0 m pc ls (.int (iI a) :: rest)) := lv_if_lt hexec hb hdg ht (fun h => kt ((iI_lt ha (b := 0) (by omega)).mp h)) (fun h => kf (fun q => h ((iI_lt ha (b := 0) (by omega)).mpr q)))
theorem z_icmp_ge (hexec : p.tables.exec = Jvm.exec) (hb : c.code = cc) {a b : Int} (ha : I32 a) (hb2 : I32 b) {off : Int} {tgt : Nat} (hdg : decode cc pc = .ok (.if_icmp .ge off, 3)) (ht : (pc : Int) + off = (tgt : Int))
    (kt : b ≤ a → W p l e R s m args below meth c H locs cells slots Q (F0 m tgt ls rest)) (kf : ¬ b ≤ a → W p l e R s m args below meth c H locs cells slots Q (F0 m (pc + 3) ls rest)) : W p l e R s m args below meth c H locs cells slots Q (F0 m pc ls (.int (iI b) :: .int (iI a) :: rest)) := lv_icmp_ge hexec hb hdg ht (fun h => kt ((iI_le hb2 ha).mp h)) (fun h => kf (fun q => h ((iI_le hb2 ha).mpr q)))
theorem z_if_ge (hexec : p.tables.exec = Jvm.exec) (hb : c.code = cc) {a : Int} (ha : I32 a) {off : Int} {tgt : Nat} (hdg : decode cc pc = .ok (.ifCond .ge off, 3)) (ht : (pc : Int) + off = (tgt : Int))
    (kt : 0 ≤ a → W p l e R s m args below meth c H locs cells slots Q (F0 m tgt ls rest)) (kf : ¬ 0 ≤ a → W p l e R s m args below meth c H locs cells slots Q (F0 m (pc + 3) ls rest)) : W p l e R s m args below meth c H locs cells slots Q (F0 m pc ls (.int (iI a) :: rest)) := lv_if_ge hexec hb hdg ht (fun h => kt ((iI_le (a := 0) (by omega) ha).mp h)) (fun h => kf (fun q => h ((iI_le (a := 0) (by omega) ha).mpr q)))
theorem z_icmp_gt (hexec : p.tables.exec = Jvm.exec) (hb : c.code = cc) {a b : Int} (ha : I32 a) (hb2 : I32 b) {off : Int} {tgt : Nat} (hdg : decode cc pc = .ok (.if_icmp .gt off, 3)) (ht : (pc : Int) + off = (tgt : Int))
    (kt : b < a → W p l e R s m args below meth c H locs cells slots Q (F0 m tgt ls rest)) (kf : ¬ b < a → W p l e R s m args below meth c H locs cells slots Q (F0 m (pc + 3) ls rest)) : W p l e R s m args below meth c H locs cells slots Q (F0 m pc ls (.int (iI b) :: .int (iI a) :: rest)) := lv_icmp_gt hexec hb hdg ht (fun h => kt ((iI_lt hb2 ha).mp h)) (fun h => kf (fun q => h ((iI_lt hb2 ha).mpr q)))
theorem z_if_gt (hexec : p.tables.exec = Jvm.exec) (hb : c.code = cc) {a : Int} (ha : I32 a) {off : Int} {tgt : Nat} (hdg : decode cc pc = .ok (.ifCond .gt off, 3)) (ht : (pc : Int) + off = (tgt : Int))
    (kt : 0 < a → W p l e R s m args below meth c H locs cells slots Q (F0 m tgt ls rest)) (kf : ¬ 0 < a → W p l e R s m args below meth c H locs cells slots Q (F0 m (pc + 3) ls rest)) : W p l e R s m args below meth c H locs cells slots Q (F0 m pc ls (.int (iI a) :: rest)) := lv_if_gt hexec hb hdg ht (fun h => kt ((iI_lt (a := 0) (by omega) ha).mp h)) (fun h => kf (fun q => h ((iI_lt (a := 0) (by omega) ha).mpr q)))
theorem z_icmp_le (hexec : p.tables.exec = Jvm.exec) (hb : c.code = cc) {a b : Int} (ha : I32 a) (hb2 : I32 b) {off : Int} {tgt : Nat} (hdg : decode cc pc = .ok (.if_icmp .le off, 3)) (ht : (pc : Int) + off = (tgt : Int))
    (kt : a ≤ b → W p l e R s m args below meth c H locs cells slots Q (F0 m tgt ls rest)) (kf : ¬ a ≤ b → W p l e R s m args below meth c H locs cells slots Q (F0 m (pc + 3) ls rest)) : W p l e R s m args below meth c H locs cells slots Q (F0 m pc ls (.int (iI b) :: .int (iI a) :: rest)) := lv_icmp_le hexec hb hdg ht (fun h => kt ((iI_le ha hb2).mp h)) (fun h => kf (fun q => h ((iI_le ha hb2).mpr q)))
theorem z_if_le (hexec : p.tables.exec = Jvm.exec) (hb : c.code = cc) {a : Int} (ha : I32 a) {off : Int} {tgt : Nat} (hdg : decode cc pc = .ok (.ifCond .le off, 3)) (ht : (pc : Int) + off = (tgt : Int))
    (kt : a ≤ 0 → W p l e R s m args below meth c H locs cells slots Q (F0 m tgt ls rest)) (kf : ¬ a ≤ 0 → W p l e R s m args below meth c H locs cells slots Q (F0 m (pc + 3) ls rest)) : W p l e R s m args below meth c H locs cells slots Q (F0 m pc ls (.int (iI a) :: rest)) := lv_if_le hexec hb hdg ht (fun h => kt ((iI_le ha (b := 0) (by omega)).mp h)) (fun h => kf (fun q => h ((iI_le ha (b := 0) (by omega)).mpr q)))
theorem z_if_eqB (hexec : p.tables.exec = Jvm.exec) (hb : c.code = cc) {P : Prop} [Decidable P] {off : Int} {tgt : Nat} (hdg : decode cc pc = .ok (.ifCond .eq off, 3)) (ht : (pc : Int) + off = (tgt : Int))
    (kt : ¬ P → W p l e R s m args below meth c H locs cells slots Q (F0 m tgt ls rest)) (kf : P → W p l e R s m args below meth c H locs cells slots Q (F0 m (pc + 3) ls rest)) : W p l e R s m args below meth c H locs cells slots Q (F0 m pc ls (.int (iI (bI P)) :: rest)) := z_if_eq hexec hb (by have := bI_r P; omega) hdg ht (fun h => kt (fun q => by rw [bI_t q] at h; omega)) (fun h => kf (Classical.byContradiction fun q => h (bI_f q)))
theorem z_if_neB (hexec : p.tables.exec = Jvm.exec) (hb : c.code = cc) {P : Prop} [Decidable P] {off : Int} {tgt : Nat} (hdg : decode cc pc = .ok (.ifCond .ne off, 3)) (ht : (pc : Int) + off = (tgt : Int))
    (kt : P → W p l e R s m args below meth c H locs cells slots Q (F0 m tgt ls rest)) (kf : ¬ P → W p l e R s m args below meth c H locs cells slots Q (F0 m (pc + 3) ls rest)) : W p l e R s m args below meth c H locs cells slots Q (F0 m pc ls (.int (iI (bI P)) :: rest)) := z_if_ne hexec hb (by have := bI_r P; omega) hdg ht (fun h => kt (Classical.byContradiction fun q => h (bI_f q))) (fun h => kf (fun q => by rw [bI_t q] at h; omega))
theorem z_top {a b : Int} (h : a = b) (k : W p l e R s m args below meth c H locs cells slots Q (F0 m pc ls (.int (iI b) :: rest))) : W p l e R s m args below meth c H locs cells slots Q (F0 m pc ls (.int (iI a) :: rest)) := by rw [h]; exact k
theorem z_topl {a b : Int} (h : a = b) (k : W p l e R s m args below meth c H locs cells slots Q (F0 m pc ls (.long (lL b) :: rest))) : W p l e R s m args below meth c H locs cells slots Q (F0 m pc ls (.long (lL a) :: rest)) := by rw [h]; exact k
end ZR

