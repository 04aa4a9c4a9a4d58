/-! making: rows -/
def va_AOA (ty : FieldType) (U : State) : Prop := (Cond.arrayOver (.array ty)).before #[] U = true
theorem va_AOA.of {ty : FieldType} {A : Array Value} {U : State} (h : (Cond.arrayOver (.array ty)).before A U = true) : va_AOA ty U := h
theorem va_AOA.use {ty : FieldType} {A : Array Value} {U : State} (h : va_AOA ty U) : (Cond.arrayOver (.array ty)).before A U = true := h
theorem aoIdx {vm vm' : Vm} (h : vm.Alike vm') (f : Class → Bool) (hf : ∀ k : Class, f k.bare = f k) : vm'.classes.findIdx? f = vm.classes.findIdx? f := by
  have e : ∀ v : Vm, v.bare.classes.findIdx? f = v.classes.findIdx? f := fun v => by
    simp only [Vm.bare, Array.findIdx?_map]
    congr 1; funext k; exact hf k
  rw [← e vm', ← e vm, h.bare_eq]
theorem aoMv {s : State} {vm' : Vm} (h : s.vm.Alike vm') (ty : FieldType) : (Cond.arrayOver ty).before #[] (s.setVm vm') = (Cond.arrayOver ty).before #[] s := by
  simp only [Cond.before, Cond.holds, Cond.value, State.vm_setVm, h.findClass]
  congr 1
  congr 1
  funext comp
  rw [aoIdx h _ (fun k => rfl)]
  congr 1
  funext c
  exact h.class_map _ (fun k r _ _ => rfl) c
theorem va_AOA.moved {ty : FieldType} {u U : State} (hvm : u.vm.Alike U.vm) (h : va_AOA ty u) : va_AOA ty U := by
  have e := aoMv hvm (.array ty)
  have h2 : (Cond.arrayOver (.array ty)).before #[] (u.setVm U.vm) = true := e.trans h
  exact h2
def AW (U : State) : Prop := va_AO "CoreShed$Hole" U ∧ va_AO "CoreShed$Sample" U ∧ va_AO "CoreShed$Batch" U ∧ va_AO "CoreShed$Place" U ∧ va_AOA .int U
theorem AW.moved {u U : State} (hvm : u.vm.Alike U.vm) (h : AW u) : AW U := ⟨h.1.moved hvm, h.2.1.moved hvm, h.2.2.1.moved hvm, h.2.2.2.1.moved hvm, h.2.2.2.2.moved hvm⟩
def EW (U : State) : Prop := NW U ∧ AW U
def EMv (E : State → Prop) : Prop := (∀ s U : State, s.vm = U.vm → E s → E U) ∧ ∀ s U : State, s.WarmedH U.vm → E s → E U
theorem EW_mv : EMv EW := ⟨fun s U h q => ⟨q.1.same h, q.2.moved (by rw [h]; exact Vm.Alike.refl _)⟩, fun s U h q => ⟨q.1.warm h, q.2.moved h.alike⟩⟩
def TW (_ : State) : Prop := True
theorem TW_mv : EMv TW := ⟨fun _ _ _ _ => trivial, fun _ _ _ _ => trivial⟩
def nPc (D : va_G) (tys : List (ClassId × FieldType)) (E : State → Prop) (Pre : Heap → Prop) (av : List Value) : Array Value → State → Prop := va_Pc av (fun U => Pre U.heap ∧ va_K D vwCl tys U ∧ E U)
def nQ (v : Option Value) (A : Nat → Prop) (Post : Heap → Prop) : Array Value → State → Outcome → State → Prop := fun _ st oc t => oc = .returned v ∧ va_F A st t ∧ Post t.heap
theorem n_start {l : Launch} {y : MethodName} {ws ws' : List Cond} {rm : Room} {Qc : Array Value → State → Outcome → State → Prop} {mc ms : Nat} {free : Addr → Prop} {cc : ByteArray} {maxL : Nat} {ret : Option FieldType} {D : va_G} {tys : List (ClassId × FieldType)} {E : State → Prop} {Pre : Heap → Prop} {av : List Value} (hy : plainName y.cls = true) (hw : ws = Cond.code y cc maxL ret :: ws') (hlen : (lg_sl av).length ≤ maxL)
    (body : ∀ (p : Program) (e : Env) (s : State) (m : MethodId) (below : List Frame) (meth : Method) (c : Code), p.tables.exec = Jvm.exec → c.code = cc → meth.sig.returnType = ret → meth.locks = false → c.maxLocals = maxL → (∀ w ∈ ws, w.before av.toArray s = true) → s.vm.findClass y.cls = some m.cls → meth.name = y.name → Pre s.heap → va_K D vwCl tys s → E s → ∀ ls : Array Slot, lv_has ls maxL (lv_args 0 av) → W p l e rm s m av.toArray below meth c s.heap [] 0 0 (MQ below Qc av.toArray s mc ms free) (F0 m 0 ls [])) : Met l y ws rm (nPc D tys E Pre av) Qc mc ms free := by
  refine Met.ofW (cc := cc) (maxL := maxL) (ret := ret) hy hw ?_
  intro p e s m args below meth c s₁ B hml hv
  obtain ⟨rfl, hW, hK, hN⟩ := hv
  have hl := lv_entry av (n := maxL) hlen
  rw [lg_entry_eq]
  exact body p e s m below meth c B.exec B.bytes B.returns B.notSynchronized hml (atoms_spec (ws := ws) B.pre) (findClass_of_methodNamed B.named) (name_of_methodNamed B.named B.method).1 hW hK hN _ hl
section NR
variable {p : Program} {l : Launch} {e : Env} {R : Room} {s : State} {m : MethodId} {args : Array Value} {below : List Frame} {meth : Method} {c : Code} {H : Heap} {locs : List Loc} {cells slots : Nat} {Q : State → Prop}
variable {cc : ByteArray} {pc : Nat} {ls : Array Slot} {rest : List Value} {D : va_G} {A : Nat → Prop} {a : Nat} {tys : List (ClassId × FieldType)} {H0 : Heap} {cT : Nat → ClassId} {ad : Adr} {τ ρ : Tau} {Ts : List Cond}

theorem y_newa (hexec : p.tables.exec = Jvm.exec) (hb : c.code = cc) {atype : ArrayType} {ty : FieldType} (hty : newarray.typeOf atype = ty) (h2 : ty = .int ∨ ty = .boolean) (harr : (Cond.arrayClass ty).before args s = true) (hK : va_K D vwCl tys s) (t0 : Nat) {cA : ClassId} (ht : tys[t0]? = some (cA, ty)) (hS : va_S A H0 H locs) {n : Int} {N : Nat} (hn : n = N) (hN : N < 1000) (hcells : cells + 1 ≤ R.cells) (hslots : slots + N ≤ R.slots) (ha : H.size = a) (hdg : decode cc pc = .ok (.newarray atype, 2))
    (kk : ∀ H1 : Heap, IAR D a cA N (fun _ => 0) H1 → H1.size = a + 1 → (∀ q : Nat, q < a → H1[q]? = H[q]?) → va_S A H0 H1 locs → W p l e R s m args below meth c H1 locs (cells + 1) (slots + N) Q (F0 m (pc + 2) ls (.ref a :: rest))) : W p l e R s m args below meth c H locs cells slots Q (F0 m pc ls (.int (iI n) :: rest)) := by
  subst hty
  subst hn
  have hN2 : N < 2 ^ 31 := Nat.lt_trans hN (by decide)
  have hcl : (iI (N : Int)).toNatClampNeg = N := iI_clamp hN2
  refine va_newaK hexec hb harr rfl hdg rfl (by rw [iI_nat]; exact nI_pos hN2) hcl (by rcases h2 with q | q <;> rw [q] <;> (show N * _ ≤ _) <;> (first | (show N * 4 ≤ _; omega) | (show N * 1 ≤ _; omega))) hcells hslots ha fun H1 cA2 e1 z1 o1 hAr hNm => ?_
  have ec : cA2 = cA := by
    have h3 := (hK.2 t0 _ ht).2
    rcases h2 with q | q <;> rw [q] at h3 hNm <;> exact Option.some.inj (hNm.symm.trans h3)
  subst ec
  refine kk H1 (one_P ?_) z1 o1 ⟨Nat.le_trans hS.1 (by omega), fun x h1 h2 => (o1 x (by have := hS.1; omega)).trans (hS.2.1 x h1 h2), hS.2.2⟩
  show H1[a]? = some (vp_cell cA2 (N, .inl (fun _ => iI 0)))
  rw [vp_cell_i, e1]
  rcases h2 with q | q <;> rw [q] <;> rfl
theorem y_new (hexec : p.tables.exec = Jvm.exec) (hb : c.code = cc) {own C : String} {T : u_T} {N ci index : Nat} (hts : ∀ w ∈ Ts, w.before args s = true) (hin : ∀ w ∈ u_ws C T N, w ∈ Ts) (ty : Nat → FieldType) (hty : ∀ k, k < N → parseFieldDescriptor (T k).2.2.1 = some (ty k)) (hown : s.vm.findClass own = some m.cls) (hcl : (Cond.classLink own index C).before args s = true) (hinst : (Cond.instantiable C N).before args s = true) (hini : (Cond.initialized C).before args s = true)
    (hK : va_K D vwCl tys s) (hS : va_S A H0 H locs) (hc : vwCl[ci]? = some (C, T, N)) {fs : List Value} (hfs : ∀ j, j < N → defaultValue (ty j) = vp_V fs j) (hcells : cells + 1 ≤ R.cells) (hslots : slots + N ≤ R.slots) (ha : H.size = a) (hdg : decode cc pc = .ok (.new index, 3))
    (kk : ∀ H1 : Heap, OBJ D a ci fs H1 → H1.size = a + 1 → (∀ q : Nat, q < a → H1[q]? = H[q]?) → va_S A H0 H1 locs → W p l e R s m args below meth c H1 locs (cells + 1) (slots + N) Q (F0 m (pc + 3) ls (.ref a :: rest))) : W p l e R s m args below meth c H locs cells slots Q (F0 m pc ls rest) := by
  have hKn := hK.1 ci _ hc
  refine W.newcK hexec hb hown hcl hinst hini rfl hdg hcells hslots hKn.2.1 ha fun H1 kC hkC e1 z1 o1 => ?_
  exact kk H1 (one_P ⟨_, hc, (u_born ty hts hin hKn hkC e1 hty).to hfs⟩) z1 o1 ⟨Nat.le_trans hS.1 (by omega), fun x h1 h2 => (o1 x (by have := hS.1; omega)).trans (hS.2.1 x h1 h2), hS.2.2⟩
theorem y_anew (hexec : p.tables.exec = Jvm.exec) (hb : c.code = cc) {own C : String} {index : Nat} (hown : s.vm.findClass own = some m.cls) (hclink : (Cond.classLink own index C).before args s = true) (hover : va_AO C s) (hK : va_K D vwCl tys s) (t0 : Nat) {cA : ClassId} (ht : tys[t0]? = some (cA, .object C)) (hS : va_S A H0 H locs) {n : Int} {N : Nat} (hn : n = N) (hN : N < 1000) (hcells : cells + 1 ≤ R.cells) (hslots : slots + N ≤ R.slots) (ha : H.size = a) (hdg : decode cc pc = .ok (.anewarray index, 3))
    (kk : ∀ H1 : Heap, RAR D a cA N (fun _ => none) H1 → H1.size = a + 1 → (∀ q : Nat, q < a → H1[q]? = H[q]?) → va_S A H0 H1 locs → W p l e R s m args below meth c H1 locs (cells + 1) (slots + N) Q (F0 m (pc + 3) ls (.ref a :: rest))) : W p l e R s m args below meth c H locs cells slots Q (F0 m pc ls (.int (iI n) :: rest)) := by
  subst hn
  subst ha
  have hN2 : N < 2 ^ 31 := Nat.lt_trans hN (by decide)
  have hcl : (iI (N : Int)).toNatClampNeg = N := iI_clamp hN2
  refine W.anew hexec hb hown hclink (va_AO.use hover) rfl hdg rfl (by rw [iI_nat]; exact nI_pos hN2) (by rw [hcl]; omega) hcells (by rw [hcl]; exact hslots) fun cA2 kA comp f1 f2 f3 f4 => ?_
  rw [hcl]
  obtain ⟨kA9, comp9, g1, g2, g3, g4⟩ := (hK.2 t0 _ ht).2
  have ec : cA2 = cA := Option.some.inj (f1.symm.trans g4)
  subst ec
  generalize hH1 : H.push ({ cls := cA2, slots := Array.replicate N .null, vm := .none } : Cell) = H1
  have z1 : H1.size = H.size + 1 := by rw [← hH1, Array.size_push]
  have e1 : H1[H.size]? = some (arrV cA2 N (fun _ => .null)) := by rw [← hH1, Array.getElem?_push_size, ← arrV_new]
  have o1 : ∀ q : Nat, q < H.size → H1[q]? = H[q]? := fun q hq => by rw [← hH1, Array.getElem?_push, if_neg (Nat.ne_of_lt hq)]
  refine kk H1 (one_P ?_) z1 o1 ⟨Nat.le_trans hS.1 (by omega), fun x h1 h2 => (o1 x (by have := hS.1; omega)).trans (hS.2.1 x h1 h2), hS.2.2⟩
  show H1[H.size]? = some (vp_cell cA2 (N, .inr (.inr (.inr (.inr (fun _ => none))))))
  rw [vp_cell_q, e1]
  rfl
theorem mn_outer (c : ClassId) (N h0 : Nat) : ∀ i : Nat, Jvm.Free.Multi.outerC c N h0 i = arrV c N (fun j => va_rf (if j < i then some (h0 + 1 + j) else none))
  | 0 => by
    show ({ cls := c, slots := Array.replicate N .null, vm := .none } : Cell) = _
    rw [arrV_new]
    refine congrArg (arrV c N) (funext fun j => ?_)
    simp [va_rf]
  | i + 1 => by
    show (Jvm.Free.Multi.outerC c N h0 i).setSlot i (.ref (h0 + 1 + i)) = _
    rw [mn_outer c N h0 i, arrV_store]
    refine congrArg (arrV c N) (funext fun j => ?_)
    by_cases e : j = i
    · subst e
      simp [updV, va_rf]
    · by_cases h : j < i
      · simp [updV, e, h, Nat.lt_succ_of_lt h]
      · simp [updV, e, h, show ¬ j < i + 1 by omega]
theorem y_mna (hexec : p.tables.exec = Jvm.exec) (hb : c.code = cc) {own : String} {index : Nat} (hown : s.vm.findClass own = some m.cls) (hclink : (Cond.classLink own index ("[" ++ (FieldType.array .int).toString)).before args s = true) (hover : va_AOA .int s) (harr : (Cond.arrayClass .int).before args s = true) (hK : va_K D vwCl tys s) (t0 t6 : Nat) {cy cA : ClassId} (ht : tys[t0]? = some (cy, .int)) (ht6 : tys[t6]? = some (cA, .array .int)) (hS : va_S A H0 H locs)
    (hcells : cells + (1 + 21) ≤ R.cells) (hslots : slots + (21 + 21 * 21) ≤ R.slots) (ha : H.size = a) (hdg : decode cc pc = .ok (.multianewarray index 2, 4))
    (kk : ∀ H1 : Heap, RAR D a cA 21 (fun i => some (a + 1 + i)) H1 → (∀ i : Nat, i < 21 → IAR D (a + 1 + i) cy 21 (fun _ => 0) H1) → H1.size = a + 22 → (∀ q : Nat, q < a → H1[q]? = H[q]?) → va_S A H0 H1 locs → W p l e R s m args below meth c H1 locs (cells + 1 + 21) (slots + 21 + 21 * 21) Q (F0 m (pc + 4) ls (.ref a :: rest))) : W p l e R s m args below meth c H locs cells slots Q (F0 m pc ls (.int (iI 21) :: .int (iI 21) :: rest)) := by
  subst ha
  have hcl : (iI 21).toNatClampNeg = 21 := by decide
  intro T hT Xs
  obtain ⟨vm₁, cA2, comp, -, fA, fC, hO, -, X', step⟩ := Xs.multianewarray2F hexec hown hclink (va_AOA.use hover) harr (g := F0 m pc ls (.int (iI 21) :: .int (iI 21) :: rest)) rfl (by rw [hb]; exact hdg) rfl (by decide) (by decide) (by rw [hcl]; decide) (by rw [hcl]; decide) (by rw [hcl]; decide) (by decide) (by decide) (by rw [hcl]; exact hcells) (by rw [hcl]; exact hslots)
  rw [hcl] at X' step
  have ec : some cy = some comp := ((hK.2 t0 _ ht).2).symm.trans fC
  have eA : some cA = some cA2 := ((hK.2 t6 _ ht6).2).symm.trans fA
  cases ec
  cases eA
  generalize hF : Jvm.Free.Multi.fill (T.setVm vm₁) cA cy 21 21 (defaultValue .int) 21 = F at X' step
  have hTh : (T.setVm vm₁).heap = H := hT
  obtain ⟨f1, f2, -, -⟩ := Jvm.Free.Multi.fill_facts (T.setVm vm₁) cA cy 21 21 (defaultValue .int) 21
  rw [hF, hTh] at f1 f2
  have hold : ∀ x : Nat, x < H.size → F.heap[x]? = H[x]? := fun x hx => by
    have := Jvm.Free.Multi.fill_old (T.setVm vm₁) cA cy 21 21 (defaultValue .int) (a := x) (by rw [hTh]; exact hx) 21
    rw [hF, hTh] at this
    exact this
  have hrow : ∀ j : Nat, j < 21 → F.heap[H.size + 1 + j]? = some (vp_cell cy (21, .inl (fun _ => iI 0))) := fun j hj => by
    have := Jvm.Free.Multi.fill_inner (T.setVm vm₁) cA cy 21 21 (defaultValue .int) 21 j hj
    rw [hF, hTh] at this
    rw [this, vp_cell_i]
    congr 1
  obtain ⟨t, a1, b1⟩ := kk F.heap (one_P (by
      show F.heap[H.size]? = some (vp_cell cA (21, .inr (.inr (.inr (.inr (fun i => some (H.size + 1 + i)))))))
      rw [f2, mn_outer, vp_cell_q]
      congr 1)) (fun i hi => one_P (hrow i hi)) (by rw [f1]) hold ⟨by rw [f1]; have := hS.1; omega, fun x h1 h2 => (hold x (Nat.lt_of_lt_of_le h1 hS.1)).trans (hS.2.1 x h1 h2), hS.2.2⟩ F rfl X'
  refine ⟨t, step t ?_, b1⟩
  have e : T.heap.size = H.size := by rw [hT]
  rw [e]
  exact a1
theorem y_putF (hexec : p.tables.exec = Jvm.exec) (hb : c.code = cc) {own ref C : String} {T : u_T} {N ci index : Nat} (hts : ∀ w ∈ Ts, w.before args s = true) (hin : ∀ w ∈ u_ws C T N, w ∈ Ts) (ty0 : Nat → FieldType) (hty : ∀ k, k < N → parseFieldDescriptor (T k).2.2.1 = some (ty0 k)) (hnm : ∀ a, a < N → ∀ b, b < N → a ≠ b → (T a).2.1 ≠ (T b).2.1) (hown : s.vm.findClass own = some m.cls) (hK : va_K D vwCl tys s) (hS0 : va_S A H0 H locs) {fs : List Value} (hP : OBJ D a ci fs H) (hA : A a) (hc : vwCl[ci]? = some (C, T, N)) (k : Nat) (hk : k < N) (hlink : (Cond.fieldLink own index ref (T k).2.1 (T k).2.2.1).before args s = true) (href : ref = (T k).1) (hfin : (T k).2.2.2 = true) (hin2 : meth.name = "<init>") (hdecl : (T k).1 = own) {ty : FieldType} {v : Value} (hd : parseFieldDescriptor (T k).2.2.1 = some ty) (hn : narrow ty v = v) (hfit : fits ty v = true) (hl : k < fs.length)
    (hdg : decode cc pc = .ok (.putfield index, 3)) (kk : ∀ (H1 : Heap) (locs1 : List Loc), OBJ D a ci (fs.set k v) H1 → H1.size = H.size → (∀ q : Nat, q ≠ a → H1[q]? = H[q]?) → va_S A H0 H1 locs1 → W p l e R s m args below meth c H1 locs1 cells slots Q (F0 m (pc + 3) ls rest)) : W p l e R s m args below meth c H locs cells slots Q (F0 m pc ls (v :: .ref a :: rest)) := by
  have hsame : ∀ x, s.fieldFound? (T k).1 (T k).2.1 (T k).2.2.1 = some x → s.fieldFound? ref (T k).2.1 (T k).2.2.1 = some x := fun x h => by rw [href]; exact h
  have hap := va_apart (own := own) hts hin ty0 hty hnm hK hc
  obtain ⟨r, h1, cell, q1, q2, q3, q4⟩ := hP 0 _ rfl
  have hr : r = (C, T, N) := Option.some.inj (h1.symm.trans hc)
  subst hr
  obtain ⟨hS, hfc, kC, hkC, hkind⟩ := hK.1 ci _ hc
  obtain ⟨cf, kf, fi, f, hi, hsl⟩ := hS k hk
  have hlay := hts _ (hin _ (u_in_lay hk))
  unfold u_lay at hlay
  rw [if_pos hfin] at hlay
  have hst := (u_facts hfc hkC (u_lays hts hin hk) hi).1
  have hcf : m.cls = cf := by
    obtain ⟨_, _, c', _, _, _, -, -, hf', -, -, -, hown2, -⟩ := Cond.laysFinal_spec hlay
    have e1 : c' = cf := by have := hi.symm.trans hf'; simp at this; exact this.1.symm
    rw [hdecl] at hown2
    rw [← e1]; exact Option.some.inj (hown.symm.trans hown2)
  have h6 := u_fits hfc hkC hkind (Or.inr hlay) hi hd hn hfit
  refine W.putFinK hexec hb hown hlink (hsame _ hi) hst hcf hin2 (by rw [q2]; exact h6) q1 q3 (by rw [hsl]; exact k2_hasslot (q4 k hk)) rfl rfl hdg fun H' e1 e2 e3 => ?_
  rw [hsl] at e1 ⊢
  exact kk H' _ (one_P ⟨_, hc, t_OB.to (V := updV (vp_V fs) k v) ⟨_, e1, q2, q3, t_set q4 hap hk v⟩ (fun j _ => vp_updV_set hl v j)⟩) e2 e3 (hS0.put e2 e3 hA)
theorem y_aast (hexec : p.tables.exec = Jvm.exec) (hb : c.code = cc) (hK : va_K D vwCl tys s) (hS : va_S A H0 H locs) (t0 ci : Nat) {cA : ClassId} {r : vw_C} {n v : Nat} {vs : List Value} {f : Nat → Option Nat} (hP : RAR D a cA n f H) (hA : A a) (ht : tys[t0]? = some (cA, .object r.1)) (hV : OBJ D v ci vs H) (hc : vwCl[ci]? = some r) {j : Nat} {z : Int} (hz : z = j) (hj : j < n) (hn : n < 2 ^ 31) (hdg : decode cc pc = .ok (.aastore, 1))
    (kk : ∀ (H1 : Heap) (locs1 : List Loc), RAR D a cA n (fun i => if i = j then some v else f i) H1 → H1.size = H.size → (∀ q : Nat, q ≠ a → H1[q]? = H[q]?) → va_S A H0 H1 locs1 → W p l e R s m args below meth c H1 locs1 cells slots Q (F0 m (pc + 1) ls rest)) : W p l e R s m args below meth c H locs cells slots Q (F0 m pc ls (.ref v :: .int (iI z) :: .ref a :: rest)) := by
  subst hz
  have hN2 : j < 2 ^ 31 := Nat.lt_trans hj hn
  have hcl : (iI (j : Int)).toNatClampNeg = j := iI_clamp hN2
  obtain ⟨r', hr', cellV, g1, g2, g3, -⟩ := hV 0 _ rfl
  have hcls := (hK.1 ci r hc).2
  obtain ⟨kA, comp, k1, k2, k3, -⟩ := (hK.2 t0 _ ht).2
  have hcomp : comp = D.1 ci := Option.some.inj (k3.symm.trans hcls.1)
  subst hcomp
  obtain ⟨kC, hkC, -⟩ := hcls.2
  refine W.aast hexec hb (hP 0 _ rfl) (fun q h => by cases h) (fun h => by cases h) k1 k2 rfl hkC ⟨by rw [iI_nat]; exact nI_pos hN2, by show _ < (arrV _ _ _).slots.size; rw [arrV_size, hcl]; exact hj⟩ g1 (fun q h => by rw [g3] at h; cases h) (by rw [g2]; exact hkC) (by rw [g2]; exact va_assign hcls) rfl rfl hdg fun H1 e z oq => ?_
  refine kk H1 _ (one_P ?_) z oq (hS.put z oq hA)
  show H1[a]? = some (vp_cell _ _)
  rw [e, hcl]
  rw [vp_cell_q, vp_cell_q, arrV_store]
  congr 2
  funext q
  by_cases hq : q = j
  · subst hq
    simp [updV, va_rf]
  · simp [updV, hq]
theorem n_vret {A : Nat → Prop} {Post : Heap → Prop} {mc ms : Nat} (hexec : p.tables.exec = Jvm.exec) (hb : c.code = cc) (hr : meth.sig.returnType = none) (hlocks : meth.locks = false) (hp : Post H) (hS : va_S A s.heap H locs) (h1 : cells ≤ mc) (h2 : slots ≤ ms) (hdg : decode cc pc = .ok (.return_, 1)) : W p l e R s m args below meth c H locs cells slots (MQ below (nQ none A Post) args s mc ms A) (F0 m pc ls []) :=
  W.widen h1 h2 (W.vret hexec hb hr (fun t ht _ => ⟨rfl, hS.F ht, by rw [ht]; exact hp⟩) hS.2.2 hdg hlocks)
theorem n_iret {A : Nat → Prop} {Post : Heap → Prop} {mc ms : Nat} {v w : Int} (hexec : p.tables.exec = Jvm.exec) (hb : c.code = cc) (hr : meth.sig.returnType = some .int) (hlocks : meth.locks = false) (hp : Post H) (hS : va_S A s.heap H locs) (h1 : cells ≤ mc) (h2 : slots ≤ ms) (h : v = w) (hdg : decode cc pc = .ok (.ireturn, 1)) : W p l e R s m args below meth c H locs cells slots (MQ below (nQ (some (.int (iI w))) A Post) args s mc ms A) (F0 m pc ls [.int (iI v)]) := by
  subst h
  exact W.widen h1 h2 (W.iret hexec hb hr (fun t ht _ => ⟨rfl, hS.F ht, by rw [ht]; exact hp⟩) hS.2.2 hdg hlocks)
variable {y : MethodName} {ws ws' : List Cond} {rm : Room} {bytes : ByteArray} {maxL nL n index mc ms : Nat} {ret : Option FieldType} {As st0 : List Value} {own C : String} {b : Nat} {E : State → Prop} {Pre Post : Heap → Prop} {A1 : Nat → Prop} {v : Option Value}
theorem n_preS (hmv : EMv E) (hK : va_K D vwCl tys s) (hE : E s) (hp : Pre H) : PreS s H (nPc D tys E Pre As) As :=
  ⟨fun a U g mk q => ⟨q.1, q.2.1, va_K.moved (u := U) (U := U.calling g mk a) (Vm.Alike.refl U.vm) q.2.2.1, hmv.1 U _ rfl q.2.2.2⟩, fun U hU hW9 => ⟨rfl, by rw [hU]; exact hp, va_K.moved hW9.alike hK, hmv.2 _ _ hW9 hE⟩⟩
theorem n_preV (hmv : EMv E) (hK : va_K D vwCl tys s) (hE : E s) (hp : Pre H) (hrec : ∃ cell : Cell, H[b]? = some cell ∧ cell.vm.isStatics = false ∧ s.vm.findClass C = some cell.cls) : PreV s H C b (nPc D tys E Pre (.ref b :: As)) As :=
  ⟨fun a U g mk q => ⟨q.1, q.2.1, va_K.moved (u := U) (U := U.calling g mk a) (Vm.Alike.refl U.vm) q.2.2.1, hmv.1 U _ rfl q.2.2.2⟩, hrec, fun U hU hW9 => ⟨rfl, by rw [hU]; exact hp, va_K.moved hW9.alike hK, hmv.2 _ _ hW9 hE⟩⟩
theorem n_go {a0 : Array Value} (hr : va_Run p l e R s m args below meth c H locs cells slots mc ms (F0 m pc ls st0) rest (nQ v A1 Post a0) A1) (hS : va_S A H0 H locs) (hA : ∀ q, A1 q → A q)
    (kk : ∀ (H1 : Heap) (locs1 : List Loc), Post H1 → H.size ≤ H1.size → (∀ q : Nat, q < H.size → ¬ A1 q → H1[q]? = H[q]?) → va_S A H0 H1 locs1 → W p l e R s m args below meth c H1 locs1 (cells + mc) (slots + ms) Q (F0 m (pc + 3) ls (v.toList ++ rest))) : W p l e R s m args below meth c H locs cells slots Q (F0 m pc ls st0) := by
  intro T hT X
  obtain ⟨v2, st₀, t, T', L, h0, X', hL, e1, e2, ⟨hv, ⟨hz, hk⟩, hp⟩, st⟩ := hr T hT X
  cases hv
  rw [h0] at hz hk
  obtain ⟨t2, a1, b1⟩ := kk T'.heap (locs ++ L) (by rw [e1]; exact hp) (by rw [e1]; exact hz) (fun q h1 h2 => by rw [e1]; exact hk q h1 h2)
    ⟨Nat.le_trans hS.1 (by rw [e1]; exact hz), fun q h1 h2 => by rw [e1, hk q (Nat.lt_of_lt_of_le h1 hS.1) (fun z => h2 (hA q z))]; exact hS.2.1 q h1 h2, fun q hq => by
      rcases List.mem_append.mp hq with h | h
      · exact hS.2.2 q h
      · exact hA _ (hL q h)⟩ T' rfl X'
  exact ⟨t2, st t2 a1, b1⟩
theorem n_callI (hexec : p.tables.exec = Jvm.exec) (hb : c.code = cc) (hml : c.maxLocals = nL) (hts : ∀ w ∈ Ts, w.before args s = true) (hown : s.vm.findClass own = some m.cls) (hmv : EMv E) (hK : va_K D vwCl tys s) (hE : E s) (hp : Pre H) (hS : va_S A H0 H locs) (hA : ∀ q, A1 q → A q) (hM : Met l y ws rm (nPc D tys E Pre (.ref b :: As)) (nQ v A1 Post) mc ms A1) (hG : GoodIn Ts ws) (hw : ws = Cond.code y bytes maxL none :: ws') (hrc : rm.cells = mc) (hrs : rm.slots = ms) (hini : (Cond.initialized y.cls).before args s = true) (hlk : (Cond.methodLink own index y).before args s = true) (hins : (Cond.instanceMethod y).before args s = true) (hy1 : y.name = "<init>")
    (hd : y.cls ≠ "java/lang/invoke/MethodHandle" ∧ y.cls ≠ "java/lang/invoke/VarHandle" ∧ (parseMethodDescriptor y.desc).map (fun d => d.parameters.length) = some n) (hR : rm.frames + 1 ≤ R.frames ∧ 8 + (maxL + 11) + rm.locals ≤ R.locals) (hn : As.length = n) (hsize : ls.size = nL) (hst : st0 = As.reverse ++ .ref b :: rest) (hroom : (rest.map fun v => v.category).sum ≤ 8) (hc : cells + mc ≤ R.cells ∧ slots + ms ≤ R.slots) (hdg : decode cc pc = .ok (.invokespecial index, 3))
    (kk : ∀ (H1 : Heap) (locs1 : List Loc), Post H1 → H.size ≤ H1.size → (∀ q : Nat, q < H.size → ¬ A1 q → H1[q]? = H[q]?) → va_S A H0 H1 locs1 → W p l e R s m args below meth c H1 locs1 (cells + mc) (slots + ms) Q (F0 m (pc + 3) ls (v.toList ++ rest))) : W p l e R s m args below meth c H locs cells slots Q (F0 m pc ls st0) :=
  n_go (va_runI ⟨hexec, hb, hml, hown, hts⟩ hM (cwI n hts hG hw hrc hrs hini hlk hins hy1 hd hR) (n_preS hmv hK hE hp) rfl hn hsize hst (lv_room hroom) hdg hc) hS hA kk
theorem n_callIN (hexec : p.tables.exec = Jvm.exec) (hb : c.code = cc) (hml : c.maxLocals = nL) (hts : ∀ w ∈ Ts, w.before args s = true) (hown : s.vm.findClass own = some m.cls) (hmv : EMv E) (hK : va_K D vwCl tys s) (hE : E s) (hp : Pre H) (hS : va_S A H0 H locs) (hA : ∀ q, A1 q → A q) (hM : Met l y ws rm (nPc D tys E Pre (.ref b :: As)) (nQ v A1 Post) mc ms A1) (hG : GoodIn Ts ws) (hw : ws = Cond.code y bytes maxL none :: ws') (hrc : rm.cells = mc) (hrs : rm.slots = ms) (hini : (Cond.initialized y.cls).before args s = true) {host : String} (hlk : va_Nw (.methodLinkNest own index y host) s) (hins : (Cond.instanceMethod y).before args s = true) (hy1 : y.name = "<init>")
    (hd : y.cls ≠ "java/lang/invoke/MethodHandle" ∧ y.cls ≠ "java/lang/invoke/VarHandle" ∧ (parseMethodDescriptor y.desc).map (fun d => d.parameters.length) = some n) (hR : rm.frames + 1 ≤ R.frames ∧ 8 + (maxL + 11) + rm.locals ≤ R.locals) (hn : As.length = n) (hsize : ls.size = nL) (hst : st0 = As.reverse ++ .ref b :: rest) (hroom : (rest.map fun v => v.category).sum ≤ 8) (hc : cells + mc ≤ R.cells ∧ slots + ms ≤ R.slots) (hdg : decode cc pc = .ok (.invokespecial index, 3))
    (kk : ∀ (H1 : Heap) (locs1 : List Loc), Post H1 → H.size ≤ H1.size → (∀ q : Nat, q < H.size → ¬ A1 q → H1[q]? = H[q]?) → va_S A H0 H1 locs1 → W p l e R s m args below meth c H1 locs1 (cells + mc) (slots + ms) Q (F0 m (pc + 3) ls (v.toList ++ rest))) : W p l e R s m args below meth c H locs cells slots Q (F0 m pc ls st0) :=
  n_go (va_runIN ⟨hexec, hb, hml, hown, hts⟩ hM ⟨va_cnB n hts hG hw hrc hrs hlk hini hd hR, hy1, hins⟩ (n_preS hmv hK hE hp) rfl hn hsize hst (lv_room hroom) hdg hc) hS hA kk
theorem n_scall (hexec : p.tables.exec = Jvm.exec) (hb : c.code = cc) (hml : c.maxLocals = nL) (hts : ∀ w ∈ Ts, w.before args s = true) (hown : s.vm.findClass own = some m.cls) (hmv : EMv E) (hK : va_K D vwCl tys s) (hE : E s) (hp : Pre H) (hS : va_S A H0 H locs) (hA : ∀ q, A1 q → A q) (hM : Met l y ws rm (nPc D tys E Pre As) (nQ v A1 Post) mc ms A1) (hG : GoodIn Ts (va_wsS own index y ws)) (hw : ws = Cond.code y bytes maxL ret :: ws') (hrc : rm.cells = mc) (hrs : rm.slots = ms)
    (hd : y.cls ≠ "java/lang/invoke/MethodHandle" ∧ y.cls ≠ "java/lang/invoke/VarHandle" ∧ (parseMethodDescriptor y.desc).map (fun d => d.parameters.length) = some n) (hR : rm.frames + 1 ≤ R.frames ∧ 8 + (maxL + 11) + rm.locals ≤ R.locals) (hn : As.length = n) (hsize : ls.size = nL) (hst : st0 = As.reverse ++ rest) (hroom : (rest.map fun v => v.category).sum ≤ 8) (hc : cells + mc ≤ R.cells ∧ slots + ms ≤ R.slots) (hdg : decode cc pc = .ok (.invokestatic index, 3))
    (kk : ∀ (H1 : Heap) (locs1 : List Loc), Post H1 → H.size ≤ H1.size → (∀ q : Nat, q < H.size → ¬ A1 q → H1[q]? = H[q]?) → va_S A H0 H1 locs1 → W p l e R s m args below meth c H1 locs1 (cells + mc) (slots + ms) Q (F0 m (pc + 3) ls (v.toList ++ rest))) : W p l e R s m args below meth c H locs cells slots Q (F0 m pc ls st0) :=
  n_go (va_runS ⟨hexec, hb, hml, hown, hts⟩ hM (va_cwS n hts hG hw hrc hrs hd hR) (n_preS hmv hK hE hp) rfl hn hsize hst (lv_room hroom) hdg hc) hS hA kk
theorem n_vcall (hexec : p.tables.exec = Jvm.exec) (hb : c.code = cc) (hml : c.maxLocals = nL) (hts : ∀ w ∈ Ts, w.before args s = true) (hown : s.vm.findClass own = some m.cls) (hmv : EMv E) (hK : va_K D vwCl tys s) (hE : E s) (hp : Pre H) (hrec : ∃ cell : Cell, H[b]? = some cell ∧ cell.vm.isStatics = false ∧ s.vm.findClass C = some cell.cls) (hS : va_S A H0 H locs) (hA : ∀ q, A1 q → A q) (hM : Met l y ws rm (nPc D tys E Pre (.ref b :: As)) (nQ v A1 Post) mc ms A1) (hG : GoodIn Ts (wsV own index C y ws)) (hw : ws = Cond.code y bytes maxL ret :: ws') (hrc : rm.cells = mc) (hrs : rm.slots = ms)
    (hd : y.cls = C ∧ y.cls ≠ "java/lang/invoke/MethodHandle" ∧ y.cls ≠ "java/lang/invoke/VarHandle" ∧ (parseMethodDescriptor y.desc).map (fun d => d.parameters.length) = some n) (hR : rm.frames + 1 ≤ R.frames ∧ 8 + (maxL + 11) + rm.locals ≤ R.locals) (hn : As.length = n) (hsize : ls.size = nL) (hst : st0 = As.reverse ++ .ref b :: rest) (hroom : (rest.map fun v => v.category).sum ≤ 8) (hc : cells + mc ≤ R.cells ∧ slots + ms ≤ R.slots) (hdg : decode cc pc = .ok (.invokevirtual index, 3))
    (kk : ∀ (H1 : Heap) (locs1 : List Loc), Post H1 → H.size ≤ H1.size → (∀ q : Nat, q < H.size → ¬ A1 q → H1[q]? = H[q]?) → va_S A H0 H1 locs1 → W p l e R s m args below meth c H1 locs1 (cells + mc) (slots + ms) Q (F0 m (pc + 3) ls (v.toList ++ rest))) : W p l e R s m args below meth c H locs cells slots Q (F0 m pc ls st0) :=
  n_go (va_runV ⟨hexec, hb, hml, hown, hts⟩ hM (cwV n hts hG hw hrc hrs hd hR) (n_preV hmv hK hE hp hrec) rfl hn hsize hst (lv_room hroom) hdg hc) hS hA kk
end NR
