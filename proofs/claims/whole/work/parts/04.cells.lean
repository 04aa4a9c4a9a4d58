/-! single cells, and rows over them -/
abbrev OBJ (D : va_G) (a ci : Nat) (fs : List Value) (H : Heap) : Prop := va_P D vwCl [(a, .inr (ci, fs))] H
abbrev IAR (D : va_G) (a : Nat) (cA : ClassId) (n : Nat) (f : Nat → Int) (H : Heap) : Prop := va_P D vwCl [(a, .inl (cA, n, .inl (fun i => iI (f i))))] H
abbrev RAR (D : va_G) (a : Nat) (cA : ClassId) (n : Nat) (f : Nat → Option Nat) (H : Heap) : Prop := va_P D vwCl [(a, .inl (cA, n, .inr (.inr (.inr (.inr f)))))] H
def fu (f : Nat → Int) (j : Nat) (v : Int) : Nat → Int := fun i => if i = j then v else f i
theorem one_P {D : va_G} {q : Nat × va_E} {H : Heap} (h : va_at D vwCl q H) : va_P D vwCl [q] H := fun k x hx => by
  have hz : k < 1 := (List.getElem?_eq_some_iff.mp hx).1
  rw [show k = 0 by omega] at hx
  cases hx
  exact h
theorem one_kept {D : va_G} {q : Nat × va_E} {H H1 : Heap} (h : va_P D vwCl [q] H) (hq : H1[q.1]? = H[q.1]?) : va_P D vwCl [q] H1 := one_P ((h 0 q rfl).kept hq)
theorem one_lt {D : va_G} {q : Nat × va_E} {H : Heap} (h : va_P D vwCl [q] H) : q.1 < H.size := (h 0 q rfl).lt
theorem arrV_cong {cA : ClassId} {n : Nat} {f g : Nat → Value} (h : ∀ i, i < n → f i = g i) : arrV cA n f = arrV cA n g := by
  unfold arrV
  congr 2
  funext j
  exact h j.val j.isLt
theorem IAR_cong {D : va_G} {a : Nat} {cA : ClassId} {n : Nat} {f g : Nat → Int} {H : Heap} (h : IAR D a cA n f H) (hfg : ∀ i, i < n → f i = g i) : IAR D a cA n g H := one_P (by
  have h1 : H[a]? = some (vp_cell cA (n, .inl (fun i => iI (f i)))) := h 0 _ rfl
  show H[a]? = some (vp_cell cA (n, .inl (fun i => iI (g i))))
  rw [h1, vp_cell_i, vp_cell_i]
  congr 1
  exact arrV_cong (fun i hi => by rw [hfg i hi]))
theorem RAR_cong {D : va_G} {a : Nat} {cA : ClassId} {n : Nat} {f g : Nat → Option Nat} {H : Heap} (h : RAR D a cA n f H) (hfg : ∀ i, i < n → f i = g i) : RAR D a cA n g H := one_P (by
  have h1 : H[a]? = some (vp_cell cA (n, .inr (.inr (.inr (.inr f))))) := h 0 _ rfl
  show H[a]? = some (vp_cell cA (n, .inr (.inr (.inr (.inr g)))))
  rw [h1, vp_cell_q, vp_cell_q]
  congr 1
  exact arrV_cong (fun i hi => by rw [hfg i hi]))
section YR
variable {p : Program} {l : Launch} {e : Env} {R : Room} {s : State} {m : MethodId} {args : Array Value} {below : List Frame} {meth : Method} {c : Code} {H : Heap} {locs : List Loc} {cells slots : Nat} {Q : State → Prop}
variable {cc : ByteArray} {pc : Nat} {ls : Array Slot} {rest : List Value} {D : va_G} {A : Nat → Prop} {a : Nat} {tys : List (ClassId × FieldType)} {H0 : Heap}

theorem y_get (hexec : p.tables.exec = Jvm.exec) (hb : c.code = cc) {own ref C : String} {T : u_T} {N ci index : Nat} {Ts : List Cond} (hts : ∀ w ∈ Ts, w.before args s = true) (hin : ∀ w ∈ u_ws C T N, w ∈ Ts) (hown : s.vm.findClass own = some m.cls) (hK : va_K D vwCl tys s) {fs : List Value} (hP : OBJ D a ci fs H) (hc : vwCl[ci]? = some (C, T, N)) (k : Nat) (hk : k < N) (hlink : (Cond.fieldLink own index ref (T k).2.1 (T k).2.2.1).before args s = true) (href : ref = (T k).1) {v : Value} (hv : fs[k]? = some v) (hdg : decode cc pc = .ok (.getfield index, 3))
    (kk : W p l e R s m args below meth c H locs cells slots Q (F0 m (pc + 3) ls (v :: rest))) : W p l e R s m args below meth c H locs cells slots Q (F0 m pc ls (.ref a :: rest)) :=
  va_get hexec hb hts hin hown hK hP 0 rfl hc k hk hlink (fun x h => by rw [href]; exact h) hv hdg kk
theorem y_iald (hexec : p.tables.exec = Jvm.exec) (hb : c.code = cc) (hK : va_K D vwCl tys s) (t0 : Nat) {cA : ClassId} {n : Nat} {f : Nat → Int} (hP : IAR D a cA n f H) (ht : tys[t0]? = some (cA, .int)) {j : Nat} {z : Int} (hz : z = j) (hj : j < n) (hn : n < 2 ^ 31) (hdg : decode cc pc = .ok (.iaload, 1))
    (kk : W p l e R s m args below meth c H locs cells slots Q (F0 m (pc + 1) ls (.int (iI (f j)) :: rest))) : W p l e R s m args below meth c H locs cells slots Q (F0 m pc ls (.int (iI z) :: .ref a :: rest)) := by
  subst hz
  refine va_iald hexec hb hK hP 0 t0 rfl ht (iI_in hj hn) hdg ?_
  rw [iI_clamp (Nat.lt_trans hj hn)]
  exact kk
theorem y_zald (hexec : p.tables.exec = Jvm.exec) (hb : c.code = cc) (hK : va_K D vwCl tys s) (t0 : Nat) {cA : ClassId} {n : Nat} {f : Nat → Int} (hP : IAR D a cA n f H) (ht : tys[t0]? = some (cA, .boolean)) {j : Nat} {z : Int} (hz : z = j) (hj : j < n) (hn : n < 2 ^ 31) (hdg : decode cc pc = .ok (.baload, 1))
    (kk : W p l e R s m args below meth c H locs cells slots Q (F0 m (pc + 1) ls (.int (iI (f j)) :: rest))) : W p l e R s m args below meth c H locs cells slots Q (F0 m pc ls (.int (iI z) :: .ref a :: rest)) := by
  subst hz
  refine va_zald hexec hb hK hP 0 t0 rfl ht (iI_in hj hn) hdg ?_
  rw [iI_clamp (Nat.lt_trans hj hn)]
  exact kk
theorem y_aald (hexec : p.tables.exec = Jvm.exec) (hb : c.code = cc) (hK : va_K D vwCl tys s) (t0 : Nat) {cA : ClassId} {n : Nat} {f : Nat → Option Nat} {ty : FieldType} (hty : ty.isReference = true) (hP : RAR D a cA n f H) (ht : tys[t0]? = some (cA, ty)) {j : Nat} {z : Int} (hz : z = j) (hj : j < n) (hn : n < 2 ^ 31) (hdg : decode cc pc = .ok (.aaload, 1))
    (kk : W p l e R s m args below meth c H locs cells slots Q (F0 m (pc + 1) ls (va_rf (f j) :: rest))) : W p l e R s m args below meth c H locs cells slots Q (F0 m pc ls (.int (iI z) :: .ref a :: rest)) := by
  subst hz
  have hin := iI_in hj hn
  have hcl : (iI (j : Int)).toNatClampNeg = j := iI_clamp (Nat.lt_trans hj hn)
  refine W.aald (v := va_rf (f j)) (ty := ty) hexec hb (hP 0 _ rfl) ((hK.2 t0 _ ht).1 n (fun j => va_rf (f j))) hty (fun q => by cases q) (by show ¬ (_ ∨ (arrV _ _ _).slots.size ≤ _); rw [arrV_size]; exact hin) (by show (arrV _ _ _).slots[_]? = _; rw [hcl, arrV_read _ _ hj]) rfl rfl hdg kk

theorem y_iast (hexec : p.tables.exec = Jvm.exec) (hb : c.code = cc) (hK : va_K D vwCl tys s) (hS : va_S A H0 H locs) (t0 : Nat) {cA : ClassId} {n : Nat} {f : Nat → Int} (hP : IAR D a cA n f H) (hA : A a) (ht : tys[t0]? = some (cA, .int)) {j : Nat} {z v : Int} (hz : z = j) (hj : j < n) (hn : n < 2 ^ 31) (hdg : decode cc pc = .ok (.iastore, 1))
    (kk : ∀ (H1 : Heap) (locs1 : List Loc), IAR D a cA n (fu f j v) H1 → H1.size = H.size → (∀ q : Nat, q ≠ a → H1[q]? = H[q]?) → va_S A H0 H1 locs1 → W p l e R s m args below meth c H1 locs1 cells slots Q (F0 m (pc + 1) ls rest)) : W p l e R s m args below meth c H locs cells slots Q (F0 m pc ls (.int (iI v) :: .int (iI z) :: .ref a :: rest)) := by
  subst hz
  have hin := iI_in hj hn
  have hcl : (iI (j : Int)).toNatClampNeg = j := iI_clamp (Nat.lt_trans hj hn)
  refine W.iast hexec hb (hP 0 _ rfl) ((hK.2 t0 _ ht).1 n (fun j => .int (iI (f j)))) (fun q => by cases q) (by show ¬ (_ ∨ (arrV _ _ _).slots.size ≤ _); rw [arrV_size]; exact hin) rfl rfl hdg fun H1 e z oq => ?_
  refine kk H1 _ (one_P ?_) z oq (hS.put z oq hA)
  show H1[a]? = some (vp_cell _ _)
  rw [e, hcl, vp_cell_i, vp_cell_i, arrV_store]
  congr 2
  funext q
  by_cases hq : q = j
  · subst hq
    simp [updV, fu]
  · simp [updV, fu, hq]
theorem y_zast (hexec : p.tables.exec = Jvm.exec) (hb : c.code = cc) (hK : va_K D vwCl tys s) (hS : va_S A H0 H locs) (t0 : Nat) {cA : ClassId} {n : Nat} {f : Nat → Int} (hP : IAR D a cA n f H) (hA : A a) (ht : tys[t0]? = some (cA, .boolean)) {j : Nat} {z v : Int} (hz : z = j) (hj : j < n) (hn : n < 2 ^ 31) (hv : v = 0 ∨ v = 1) (hdg : decode cc pc = .ok (.bastore, 1))
    (kk : ∀ (H1 : Heap) (locs1 : List Loc), IAR D a cA n (fu f j v) H1 → H1.size = H.size → (∀ q : Nat, q ≠ a → H1[q]? = H[q]?) → va_S A H0 H1 locs1 → W p l e R s m args below meth c H1 locs1 cells slots Q (F0 m (pc + 1) ls rest)) : W p l e R s m args below meth c H locs cells slots Q (F0 m pc ls (.int (iI v) :: .int (iI z) :: .ref a :: rest)) := by
  subst hz
  have hin := iI_in hj hn
  have hcl : (iI (j : Int)).toNatClampNeg = j := iI_clamp (Nat.lt_trans hj hn)
  refine W.zast hexec hb (hP 0 _ rfl) ((hK.2 t0 _ ht).1 n (fun j => .int (iI (f j)))) (fun q => by cases q) (by show ¬ (_ ∨ (arrV _ _ _).slots.size ≤ _); rw [arrV_size]; exact hin) rfl rfl hdg fun H1 e z oq => ?_
  refine kk H1 _ (one_P ?_) z oq (hS.put z oq hA)
  show H1[a]? = some (vp_cell _ _)
  rw [e, bI_nar hv, hcl, vp_cell_i, vp_cell_i, arrV_store]
  congr 2
  funext q
  by_cases hq : q = j
  · subst hq
    simp [updV, fu]
  · simp [updV, fu, hq]
theorem y_put (hexec : p.tables.exec = Jvm.exec) (hb : c.code = cc) {own ref C : String} {T : u_T} {N ci index : Nat} {Ts : List Cond} (hts : ∀ w ∈ Ts, w.before args s = true) (hin : ∀ w ∈ u_ws C T N, w ∈ Ts) (ty0 : Nat → FieldType) (hty : ∀ k, k < N → parseFieldDescriptor (T k).2.2.1 = some (ty0 k)) (hnm : ∀ a, a < N → ∀ b, b < N → a ≠ b → (T a).2.1 ≠ (T b).2.1) (hown : s.vm.findClass own = some m.cls) (hK : va_K D vwCl tys s) (hS0 : va_S A H0 H locs) {fs : List Value} (hP : OBJ D a ci fs H) (hA : A a) (hc : vwCl[ci]? = some (C, T, N)) (k : Nat) (hk : k < N) (hlink : (Cond.fieldLink own index ref (T k).2.1 (T k).2.2.1).before args s = true) (href : ref = (T k).1) (hfin : (T k).2.2.2 = false) {ty : FieldType} {v : Value} (hd : parseFieldDescriptor (T k).2.2.1 = some ty) (hn : narrow ty v = v) (hfit : fits ty v = true) (hl : k < fs.length)
    (hdg : decode cc pc = .ok (.putfield index, 3)) (kk : ∀ (H1 : Heap) (locs1 : List Loc), OBJ D a ci (fs.set k v) H1 → H1.size = H.size → (∀ q : Nat, q ≠ a → H1[q]? = H[q]?) → va_S A H0 H1 locs1 → W p l e R s m args below meth c H1 locs1 cells slots Q (F0 m (pc + 3) ls rest)) : W p l e R s m args below meth c H locs cells slots Q (F0 m pc ls (v :: .ref a :: rest)) := by
  have hsame : ∀ x, s.fieldFound? (T k).1 (T k).2.1 (T k).2.2.1 = some x → s.fieldFound? ref (T k).2.1 (T k).2.2.1 = some x := fun x h => by rw [href]; exact h
  have hap := va_apart (own := own) hts hin ty0 hty hnm hK hc
  obtain ⟨r, h1, cell, q1, q2, q3, q4⟩ := hP 0 _ rfl
  have hr : r = (C, T, N) := Option.some.inj (h1.symm.trans hc)
  subst hr
  obtain ⟨hS, hfc, kC, hkC, hkind⟩ := hK.1 ci _ hc
  obtain ⟨cf, kf, fi, f, hi, hsl⟩ := hS k hk
  have hlay := hts _ (hin _ (u_in_lay hk))
  unfold u_lay at hlay
  rw [if_neg (by rw [hfin]; decide)] at hlay
  have hst := (u_facts hfc hkC (u_lays hts hin hk) hi).1
  have h6 := u_store hfc hkC hkind hlay hi hd hn hfit
  refine W.putK hexec hb (f := f) ⟨hown, hlink, ⟨_, _, _, hsame _ hi⟩, hst⟩ (by rw [q2]; exact h6) q1 q3 (by rw [hsl]; exact k2_hasslot (q4 k hk)) rfl rfl hdg fun H' e1 e2 e3 => ?_
  rw [hsl] at e1 ⊢
  exact kk H' _ (one_P ⟨_, hc, t_OB.to (V := updV (vp_V fs) k v) ⟨_, e1, q2, q3, t_set q4 hap hk v⟩ (fun j _ => vp_updV_set hl v j)⟩) e2 e3 (hS0.put e2 e3 hA)
end YR

/-! the state: component c, place i -/
abbrev Tau : Type := Nat → Nat → Int
def tu (τ : Tau) (c i : Nat) (v : Int) : Tau := fun c2 => if c2 = c then fu (τ c2) i v else τ c2
theorem tu_c {τ : Tau} {c i : Nat} {v : Int} : tu τ c i v c = fu (τ c) i v := if_pos rfl
theorem tu_n {τ : Tau} {c i : Nat} {v : Int} {d : Nat} (h : d ≠ c) : tu τ c i v d = τ d := if_neg h
theorem fu_s {f : Nat → Int} {j : Nat} {v : Int} : fu f j v j = v := if_pos rfl
theorem fu_n {f : Nat → Int} {j i : Nat} {v : Int} (h : i ≠ j) : fu f j v i = f i := if_neg h
theorem tu_s {τ : Tau} {c i : Nat} {v : Int} : tu τ c i v c i = v := by rw [tu_c, fu_s]
def mLen : Nat → Nat := fun c => match c with
  | 1 => 4
  | 2 => 80
  | 3 => 80
  | 4 => 4
  | 5 => 80
  | 6 => 20
  | 7 => 20
  | 8 => 8
  | 9 => 160
  | 10 => 160
  | 11 => 10
  | 13 => 30
  | 14 => 30
  | 15 => 30
  | 16 => 30
  | 19 => 6
  | 20 => 96
  | 21 => 96
  | 22 => 96
  | 23 => 96
  | 24 => 96
  | 25 => 2
  | 26 => 441
  | _ => 0
theorem mLen_le (c : Nat) : mLen c < 2 ^ 31 := by
  unfold mLen
  split <;> decide
def mFs (ad : Nat → Nat) (τ : Tau) : List Value := [.int (iI (τ 0 0)), .ref (ad 1), .ref (ad 2), .ref (ad 3), .ref (ad 4), .ref (ad 5), .ref (ad 6), .ref (ad 7), .ref (ad 8), .ref (ad 9), .ref (ad 10), .ref (ad 11), .int (iI (τ 12 0)), .ref (ad 13), .ref (ad 14), .ref (ad 15), .ref (ad 16), .int (iI (τ 17 0)), .int (iI (τ 18 0)), .ref (ad 19), .ref (ad 20), .ref (ad 21), .ref (ad 22), .ref (ad 23), .ref (ad 24), .ref (ad 25), .ref (ad 26)]
def mC (cI cZ : ClassId) (c : Nat) : ClassId := if c = 7 ∨ c = 23 then cZ else cI
def mR (c : Nat) : Prop := c = 0 ∨ 0 < mLen c
abbrev mT (cI cZ : ClassId) : List (ClassId × FieldType) := [(cI, .int), (cZ, .boolean)]
def MW (D : va_G) (cI cZ : ClassId) (ad : Nat → Nat) (τ : Tau) (H : Heap) : Prop := OBJ D (ad 0) 8 (mFs ad τ) H ∧ (∀ c, 0 < mLen c → IAR D (ad c) (mC cI cZ c) (mLen c) (τ c) H) ∧ ∀ c c2, mR c → mR c2 → ad c = ad c2 → c = c2
def MA (ad : Nat → Nat) : Nat → Prop := fun q => ∃ c, mR c ∧ q = ad c
theorem MW.kept {D : va_G} {cI cZ : ClassId} {ad : Nat → Nat} {τ : Tau} {H H1 : Heap} (h : MW D cI cZ ad τ H) (hq : ∀ q, MA ad q → H1[q]? = H[q]?) : MW D cI cZ ad τ H1 :=
  ⟨one_kept h.1 (hq _ ⟨0, Or.inl rfl, rfl⟩), fun c hc => one_kept (h.2.1 c hc) (hq _ ⟨c, Or.inr hc, rfl⟩), h.2.2⟩
theorem mFs_tu {ad : Nat → Nat} {τ : Tau} {c i : Nat} {v : Int} (hc : 0 < mLen c) : mFs ad (tu τ c i v) = mFs ad τ := by
  have h0 : (0 : Nat) ≠ c := fun q => by rw [← q] at hc; exact absurd hc (by decide)
  have h1 : (12 : Nat) ≠ c := fun q => by rw [← q] at hc; exact absurd hc (by decide)
  have h2 : (17 : Nat) ≠ c := fun q => by rw [← q] at hc; exact absurd hc (by decide)
  have h3 : (18 : Nat) ≠ c := fun q => by rw [← q] at hc; exact absurd hc (by decide)
  unfold mFs
  rw [tu_n h0, tu_n h1, tu_n h2, tu_n h3]
theorem MW.put {D : va_G} {cI cZ : ClassId} {ad : Nat → Nat} {τ : Tau} {H H1 : Heap} {c j : Nat} {v : Int} (h : MW D cI cZ ad τ H) (hc : 0 < mLen c) (hn : IAR D (ad c) (mC cI cZ c) (mLen c) (fu (τ c) j v) H1) (oq : ∀ q : Nat, q ≠ ad c → H1[q]? = H[q]?) : MW D cI cZ ad (tu τ c j v) H1 := by
  refine ⟨?_, fun d hd => ?_, h.2.2⟩
  · rw [mFs_tu hc]
    refine one_kept h.1 (oq _ fun q => ?_)
    have := h.2.2 0 c (Or.inl rfl) (Or.inr hc) q
    rw [← this] at hc
    exact absurd hc (by decide)
  · by_cases hdc : d = c
    · subst hdc
      rw [tu_c]
      exact hn
    · rw [tu_n hdc]
      exact one_kept (h.2.1 d hd) (oq _ fun q => hdc (h.2.2 d c (Or.inr hd) (Or.inr hc) q))
theorem MW.putS {D : va_G} {cI cZ : ClassId} {ad : Nat → Nat} {τ : Tau} {H H1 : Heap} {c : Nat} {v : Int} (h : MW D cI cZ ad τ H) (hc : ¬ 0 < mLen c) (hn : OBJ D (ad 0) 8 (mFs ad (tu τ c 0 v)) H1) (oq : ∀ q : Nat, q ≠ ad 0 → H1[q]? = H[q]?) : MW D cI cZ ad (tu τ c 0 v) H1 := by
  refine ⟨hn, fun d hd => ?_, h.2.2⟩
  have hdc : d ≠ c := fun q => hc (by rw [← q]; exact hd)
  rw [tu_n hdc]
  refine one_kept (h.2.1 d hd) (oq _ fun q => ?_)
  have := h.2.2 d 0 (Or.inr hd) (Or.inl rfl) q
  rw [this] at hd
  exact absurd hd (by decide)
theorem MW.ext {D : va_G} {cI cZ : ClassId} {ad : Nat → Nat} {τ τ2 : Tau} {H : Heap} (h : MW D cI cZ ad τ H) (he : ∀ c, c < 27 → τ c = τ2 c) : MW D cI cZ ad τ2 H := by
  refine ⟨?_, fun c hc => ?_, h.2.2⟩
  · have e : mFs ad τ2 = mFs ad τ := by
      unfold mFs
      rw [he 0 (by decide), he 12 (by decide), he 17 (by decide), he 18 (by decide)]
    rw [e]
    exact h.1
  · have hl : c < 27 := by
      rcases Nat.lt_or_ge c 27 with q | q
      · exact q
      · exfalso
        have : mLen c = 0 := by
          unfold mLen
          split <;> first | rfl | omega
        omega
    rw [← he c hl]
    exact h.2.1 c hc
def mPc (D : va_G) (cI cZ : ClassId) (ad : Nat → Nat) (τ : Tau) (av : List Value) : Array Value → State → Prop := va_Pc av (fun U => MW D cI cZ ad τ U.heap ∧ va_K D vwCl (mT cI cZ) U)
def sPc (av : List Value) : Array Value → State → Prop := va_Pc av (fun _ => True)
abbrev NoA : Nat → Prop := fun _ => False
abbrev rS (w : Int) : Array Value → State → Outcome → State → Prop := vp_Si (fun r => r = iI w)
abbrev rL (w : Int) : Array Value → State → Outcome → State → Prop := vp_Sl (fun r => r = lL w)
/-- a writer's end, of the model -/
def mQ (D : va_G) (cI cZ : ClassId) (ad : Nat → Nat) (v : Option Value) (τ : Tau) : Array Value → State → Outcome → State → Prop := fun _ st oc t => oc = .returned v ∧ MW D cI cZ ad τ t.heap ∧ t.heap.size = st.heap.size ∧ ∀ q : Nat, ¬ MA ad q → t.heap[q]? = st.heap[q]?
/-- a writer's end, of the model, where the state behind it is one of several -/
def mX (D : va_G) (cI cZ : ClassId) (ad : Nat → Nat) (v : Option Value) (P : Tau → Prop) : Array Value → State → Outcome → State → Prop := fun _ st oc t => oc = .returned v ∧ (∃ τ : Tau, P τ ∧ MW D cI cZ ad τ t.heap) ∧ t.heap.size = st.heap.size ∧ ∀ q : Nat, ¬ MA ad q → t.heap[q]? = st.heap[q]?
theorem m_start {l : Launch} {y : MethodName} {ws ws' : List Cond} {rm : Room} {Qc : Array Value → State → Outcome → State → Prop} {mc ms : Nat} {free : Addr → Prop} {cc : ByteArray} {maxL : Nat} {ret : Option FieldType} {D : va_G} {cI cZ : ClassId} {ad : Nat → Nat} {τ : Tau} {av : List Value} (hy : plainName y.cls = true) (hw : ws = Cond.code y cc maxL ret :: ws') (hlen : (lg_sl av).length ≤ maxL)
    (body : ∀ (p : Program) (e : Env) (s : State) (m : MethodId) (below : List Frame) (meth : Method) (c : Code), p.tables.exec = Jvm.exec → c.code = cc → meth.sig.returnType = ret → meth.locks = false → c.maxLocals = maxL → (∀ w ∈ ws, w.before av.toArray s = true) → s.vm.findClass y.cls = some m.cls → MW D cI cZ ad τ s.heap → va_K D vwCl (mT cI cZ) s → ∀ ls : Array Slot, lv_has ls maxL (lv_args 0 av) → W p l e rm s m av.toArray below meth c s.heap [] 0 0 (MQ below Qc av.toArray s mc ms free) (F0 m 0 ls [])) : Met l y ws rm (mPc D cI cZ ad τ av) Qc mc ms free := by
  refine Met.ofW (cc := cc) (maxL := maxL) (ret := ret) hy hw ?_
  intro p e s m args below meth c s₁ B hml hv
  obtain ⟨rfl, hW, hK⟩ := hv
  have hl := lv_entry av (n := maxL) hlen
  rw [lg_entry_eq]
  exact body p e s m below meth c B.exec B.bytes B.returns B.notSynchronized hml (atoms_spec (ws := ws) B.pre) (findClass_of_methodNamed B.named) hW hK _ hl
theorem s_start {l : Launch} {y : MethodName} {ws ws' : List Cond} {rm : Room} {Qc : Array Value → State → Outcome → State → Prop} {mc ms : Nat} {free : Addr → Prop} {cc : ByteArray} {maxL : Nat} {ret : Option FieldType} {av : List Value} (hy : plainName y.cls = true) (hw : ws = Cond.code y cc maxL ret :: ws') (hlen : (lg_sl av).length ≤ maxL)
    (body : ∀ (p : Program) (e : Env) (s : State) (m : MethodId) (below : List Frame) (meth : Method) (c : Code), p.tables.exec = Jvm.exec → c.code = cc → meth.sig.returnType = ret → meth.locks = false → c.maxLocals = maxL → (∀ w ∈ ws, w.before av.toArray s = true) → s.vm.findClass y.cls = some m.cls → ∀ ls : Array Slot, lv_has ls maxL (lv_args 0 av) → W p l e rm s m av.toArray below meth c s.heap [] 0 0 (MQ below Qc av.toArray s mc ms free) (F0 m 0 ls [])) : Met l y ws rm (sPc av) Qc mc ms free := by
  refine Met.ofW (cc := cc) (maxL := maxL) (ret := ret) hy hw ?_
  intro p e s m args below meth c s₁ B hml hv
  obtain ⟨rfl, -⟩ := hv
  have hl := lv_entry av (n := maxL) hlen
  rw [lg_entry_eq]
  exact body p e s m below meth c B.exec B.bytes B.returns B.notSynchronized hml (atoms_spec (ws := ws) B.pre) (findClass_of_methodNamed B.named) _ hl
section MR
variable {p : Program} {l : Launch} {e : Env} {R : Room} {s : State} {m : MethodId} {args : Array Value} {below : List Frame} {meth : Method} {c : Code} {H : Heap} {locs : List Loc} {cells slots : Nat} {Q : State → Prop}
variable {cc : ByteArray} {pc : Nat} {ls : Array Slot} {rest : List Value} {D : va_G} {A : Nat → Prop} {cI cZ : ClassId} {ad : Nat → Nat} {τ : Tau} {H0 : Heap} {Ts : List Cond}
theorem m_get (hexec : p.tables.exec = Jvm.exec) (hb : c.code = cc) {index : Nat} (hts : ∀ w ∈ Ts, w.before args s = true) (hin : ∀ w ∈ wsX80, w ∈ Ts) (hown : s.vm.findClass RX8 = some m.cls) (hK : va_K D vwCl (mT cI cZ) s) (hW : MW D cI cZ ad τ H) (k : Nat) (hk : k < 27) (hlink : (Cond.fieldLink RX8 index "CoreShedModel" (TX8 k).2.1 (TX8 k).2.2.1).before args s = true) {v : Value} (hv : (mFs ad τ)[k]? = some v) (hdg : decode cc pc = .ok (.getfield index, 3))
    (kk : W p l e R s m args below meth c H locs cells slots Q (F0 m (pc + 3) ls (v :: rest))) : W p l e R s m args below meth c H locs cells slots Q (F0 m pc ls (.ref (ad 0) :: rest)) :=
  y_get (C := RX8) (T := TX8) (N := 27) (ref := "CoreShedModel") hexec hb hts hin hown hK hW.1 rfl k hk hlink (by unfold TX8; split <;> rfl) hv hdg kk
theorem m_ald (hexec : p.tables.exec = Jvm.exec) (hb : c.code = cc) (hK : va_K D vwCl (mT cI cZ) s) (hW : MW D cI cZ ad τ H) {d : Nat} (hd : mC cI cZ d = cI) {j : Nat} {z : Int} (hz : z = j) (hj : j < mLen d) (hdg : decode cc pc = .ok (.iaload, 1))
    (kk : W p l e R s m args below meth c H locs cells slots Q (F0 m (pc + 1) ls (.int (iI (τ d j)) :: rest))) : W p l e R s m args below meth c H locs cells slots Q (F0 m pc ls (.int (iI z) :: .ref (ad d) :: rest)) :=
  y_iald hexec hb hK 0 (hW.2.1 d (by omega)) (by rw [hd]; rfl) hz hj (mLen_le d) hdg kk
theorem m_zld (hexec : p.tables.exec = Jvm.exec) (hb : c.code = cc) (hK : va_K D vwCl (mT cI cZ) s) (hW : MW D cI cZ ad τ H) {d : Nat} (hd : mC cI cZ d = cZ) {j : Nat} {z : Int} (hz : z = j) (hj : j < mLen d) (hdg : decode cc pc = .ok (.baload, 1))
    (kk : W p l e R s m args below meth c H locs cells slots Q (F0 m (pc + 1) ls (.int (iI (τ d j)) :: rest))) : W p l e R s m args below meth c H locs cells slots Q (F0 m pc ls (.int (iI z) :: .ref (ad d) :: rest)) :=
  y_zald hexec hb hK 1 (hW.2.1 d (by omega)) (by rw [hd]; rfl) hz hj (mLen_le d) hdg kk
theorem m_ast (hexec : p.tables.exec = Jvm.exec) (hb : c.code = cc) (hK : va_K D vwCl (mT cI cZ) s) (hW : MW D cI cZ ad τ H) (hS : va_S (MA ad) H0 H locs) (hz0 : H.size = H0.size) {d : Nat} (hd : mC cI cZ d = cI) {j : Nat} {z v : Int} (hz : z = j) (hj : j < mLen d) (hdg : decode cc pc = .ok (.iastore, 1))
    (kk : ∀ (H1 : Heap) (locs1 : List Loc), MW D cI cZ ad (tu τ d j v) H1 → va_S (MA ad) H0 H1 locs1 → H1.size = H0.size → W p l e R s m args below meth c H1 locs1 cells slots Q (F0 m (pc + 1) ls rest)) : W p l e R s m args below meth c H locs cells slots Q (F0 m pc ls (.int (iI v) :: .int (iI z) :: .ref (ad d) :: rest)) :=
  y_iast hexec hb hK hS 0 (hW.2.1 d (by omega)) ⟨d, Or.inr (by omega), rfl⟩ (by rw [hd]; rfl) hz hj (mLen_le d) hdg (fun H1 locs1 h1 h2 h3 h4 => kk H1 locs1 (hW.put (by omega) h1 h3) h4 (h2.trans hz0))
theorem m_zst (hexec : p.tables.exec = Jvm.exec) (hb : c.code = cc) (hK : va_K D vwCl (mT cI cZ) s) (hW : MW D cI cZ ad τ H) (hS : va_S (MA ad) H0 H locs) (hz0 : H.size = H0.size) {d : Nat} (hd : mC cI cZ d = cZ) {j : Nat} {z v : Int} (hz : z = j) (hj : j < mLen d) (hv : v = 0 ∨ v = 1) (hdg : decode cc pc = .ok (.bastore, 1))
    (kk : ∀ (H1 : Heap) (locs1 : List Loc), MW D cI cZ ad (tu τ d j v) H1 → va_S (MA ad) H0 H1 locs1 → H1.size = H0.size → W p l e R s m args below meth c H1 locs1 cells slots Q (F0 m (pc + 1) ls rest)) : W p l e R s m args below meth c H locs cells slots Q (F0 m pc ls (.int (iI v) :: .int (iI z) :: .ref (ad d) :: rest)) :=
  y_zast hexec hb hK hS 1 (hW.2.1 d (by omega)) ⟨d, Or.inr (by omega), rfl⟩ (by rw [hd]; rfl) hz hj (mLen_le d) hv hdg (fun H1 locs1 h1 h2 h3 h4 => kk H1 locs1 (hW.put (by omega) h1 h3) h4 (h2.trans hz0))
theorem m_put (hexec : p.tables.exec = Jvm.exec) (hb : c.code = cc) {index : Nat} (hts : ∀ w ∈ Ts, w.before args s = true) (hin : ∀ w ∈ wsX80, w ∈ Ts) (hown : s.vm.findClass RX8 = some m.cls) (hK : va_K D vwCl (mT cI cZ) s) (hW : MW D cI cZ ad τ H) (hS : va_S (MA ad) H0 H locs) (hz0 : H.size = H0.size) (k : Nat) (hk : k < 27) (h0 : ¬ 0 < mLen k) (hlink : (Cond.fieldLink RX8 index "CoreShedModel" (TX8 k).2.1 (TX8 k).2.2.1).before args s = true) (hfin : (TX8 k).2.2.2 = false) (hd : parseFieldDescriptor (TX8 k).2.2.1 = some .int) {v : Int} (hs : (mFs ad τ).set k (.int (iI v)) = mFs ad (tu τ k 0 v)) (hdg : decode cc pc = .ok (.putfield index, 3))
    (kk : ∀ (H1 : Heap) (locs1 : List Loc), MW D cI cZ ad (tu τ k 0 v) H1 → va_S (MA ad) H0 H1 locs1 → H1.size = H0.size → W p l e R s m args below meth c H1 locs1 cells slots Q (F0 m (pc + 3) ls rest)) : W p l e R s m args below meth c H locs cells slots Q (F0 m pc ls (.int (iI v) :: .ref (ad 0) :: rest)) :=
  y_put (C := RX8) (T := TX8) (N := 27) (ref := "CoreShedModel") hexec hb hts hin tyX8 tyX8_ok nmX8 hown hK hS hW.1 ⟨0, Or.inl rfl, rfl⟩ rfl k hk hlink (by unfold TX8; split <;> rfl) hfin hd rfl rfl hk hdg (fun H1 locs1 h1 h2 h3 h4 => kk H1 locs1 (hW.putS h0 (by rw [← hs]; exact h1) h3) h4 (h2.trans hz0))
theorem s_iret {v w : Int} (hexec : p.tables.exec = Jvm.exec) (hb : c.code = cc) (hr : meth.sig.returnType = some .int) (hlocks : meth.locks = false) (h : v = w) (hdg : decode cc pc = .ok (.ireturn, 1)) : W p l e R s m args below meth c s.heap [] 0 0 (MQ below (rS w) args s 0 0 NoA) (F0 m pc ls [.int (iI v)]) :=
  W.iret hexec hb hr (fun t ht _ => ⟨iI v, rfl, by rw [h], ht⟩) (fun _ h => by cases h) hdg hlocks
theorem s_zret {v : Int} {P : Prop} [Decidable P] (hexec : p.tables.exec = Jvm.exec) (hb : c.code = cc) (hr : meth.sig.returnType = some .boolean) (hlocks : meth.locks = false) (h : v = bI P) (hdg : decode cc pc = .ok (.ireturn, 1)) : W p l e R s m args below meth c s.heap [] 0 0 (MQ below (rS (bI P)) args s 0 0 NoA) (F0 m pc ls [.int (iI v)]) :=
  W.zret hexec hb hr (bI_nar (by rw [h]; exact bI_01 P)) (fun t ht _ => ⟨iI v, rfl, by rw [h], ht⟩) (fun _ h => by cases h) hdg hlocks
theorem s_lret {v w : Int} (hexec : p.tables.exec = Jvm.exec) (hb : c.code = cc) (hr : meth.sig.returnType = some .long) (hlocks : meth.locks = false) (h : v = w) (hdg : decode cc pc = .ok (.lreturn, 1)) : W p l e R s m args below meth c s.heap [] 0 0 (MQ below (rL w) args s 0 0 NoA) (F0 m pc ls [.long (lL v)]) :=
  W.lret hexec hb hr (fun t ht _ => ⟨lL v, rfl, by rw [h], ht⟩) (fun _ h => by cases h) hdg hlocks
theorem m_iret {v w : Int} {τ2 : Tau} (hexec : p.tables.exec = Jvm.exec) (hb : c.code = cc) (hr : meth.sig.returnType = some .int) (hlocks : meth.locks = false) (hW : MW D cI cZ ad τ2 H) (hS : va_S (MA ad) s.heap H locs) (hz : H.size = s.heap.size) (h : v = w) (hdg : decode cc pc = .ok (.ireturn, 1)) : W p l e R s m args below meth c H locs cells slots (MQ below (mQ D cI cZ ad (some (.int (iI w))) τ2) args s cells slots (MA ad)) (F0 m pc ls [.int (iI v)]) :=
  W.iret hexec hb hr (fun t ht2 _ => ⟨by rw [h], by rw [ht2]; exact hW, by rw [ht2]; exact hz, fun q hq => by
    rw [ht2]
    by_cases hl : q < s.heap.size
    · exact hS.2.1 q hl hq
    · rw [Array.getElem?_eq_none (by omega), Array.getElem?_eq_none (by omega)]⟩) hS.2.2 hdg hlocks
theorem m_vret {τ2 : Tau} (hexec : p.tables.exec = Jvm.exec) (hb : c.code = cc) (hr : meth.sig.returnType = none) (hlocks : meth.locks = false) (hW : MW D cI cZ ad τ2 H) (hS : va_S (MA ad) s.heap H locs) (hz : H.size = s.heap.size) (hdg : decode cc pc = .ok (.return_, 1)) : W p l e R s m args below meth c H locs cells slots (MQ below (mQ D cI cZ ad none τ2) args s cells slots (MA ad)) (F0 m pc ls []) :=
  W.vret hexec hb hr (fun t ht2 _ => ⟨rfl, by rw [ht2]; exact hW, by rw [ht2]; exact hz, fun q hq => by
    rw [ht2]
    by_cases hl : q < s.heap.size
    · exact hS.2.1 q hl hq
    · rw [Array.getElem?_eq_none (by omega), Array.getElem?_eq_none (by omega)]⟩) hS.2.2 hdg hlocks
/-! calls -/
variable {y : MethodName} {ws ws' : List Cond} {rm : Room} {bytes : ByteArray} {maxL nL n index : Nat} {ret : Option FieldType} {As st0 : List Value} {own : String}
theorem m_pre (hK : va_K D vwCl (mT cI cZ) s) (hW : MW D cI cZ ad τ H) : PreV s H RX8 (ad 0) (mPc D cI cZ ad τ (.ref (ad 0) :: As)) As :=
  ⟨fun a U g mk q => ⟨q.1, q.2.1, va_K.moved (u := U) (U := U.calling g mk a) (Vm.Alike.refl U.vm) q.2.2⟩, va_recv hK hW.1 (ci := 8) (q0 := 0) rfl rfl, fun U hU hW9 => ⟨rfl, by rw [hU]; exact hW, va_K.moved hW9.alike hK⟩⟩
theorem s_pre : PreS s H (sPc As) As := ⟨fun a U g mk q => ⟨q.1, trivial⟩, fun U hU hW9 => ⟨rfl, trivial⟩⟩
theorem m_call {w : Int} (hexec : p.tables.exec = Jvm.exec) (hb : c.code = cc) (hml : c.maxLocals = nL) (hts : ∀ w ∈ Ts, w.before args s = true) (hown : s.vm.findClass own = some m.cls) (hK : va_K D vwCl (mT cI cZ) s) (hW : MW D cI cZ ad τ H) (hM : Met l y ws rm (mPc D cI cZ ad τ (.ref (ad 0) :: As)) (rS w) 0 0 NoA) (hG : GoodIn Ts (wsV own index RX8 y ws)) (hw : ws = Cond.code y bytes maxL ret :: ws') (hrc : rm.cells = 0) (hrs : rm.slots = 0)
    (hd : y.cls = RX8 ∧ y.cls ≠ "java/lang/invoke/MethodHandle" ∧ y.cls ≠ "java/lang/invoke/VarHandle" ∧ (parseMethodDescriptor y.desc).map (fun d => d.parameters.length) = some n) (hR : rm.frames + 1 ≤ R.frames ∧ 8 + (maxL + 11) + rm.locals ≤ R.locals) (hn : As.length = n) (hsize : ls.size = nL) (hst : st0 = As.reverse ++ .ref (ad 0) :: rest) (hroom : (rest.map fun v => v.category).sum ≤ 8) (hc : cells ≤ R.cells ∧ slots ≤ R.slots) (hdg : decode cc pc = .ok (.invokevirtual index, 3))
    (kk : W p l e R s m args below meth c H locs cells slots Q (F0 m (pc + 3) ls (.int (iI w) :: rest))) : W p l e R s m args below meth c H locs cells slots Q (F0 m pc ls st0) :=
  vp_callSi (W.runV ⟨hexec, hb, hml, hown, hts⟩ hM (cwV n hts hG hw hrc hrs hd hR) (m_pre hK hW) rfl hn hsize hst (lv_room hroom) hdg hc) (fun r hr => by rw [hr]; exact kk)
theorem s_call {w : Int} (hexec : p.tables.exec = Jvm.exec) (hb : c.code = cc) (hml : c.maxLocals = nL) (hts : ∀ w ∈ Ts, w.before args s = true) (hown : s.vm.findClass own = some m.cls) (hM : Met l y ws rm (sPc As) (rS w) 0 0 NoA) (hG : GoodIn Ts (va_wsS own index y ws)) (hw : ws = Cond.code y bytes maxL ret :: ws') (hrc : rm.cells = 0) (hrs : rm.slots = 0)
    (hd : y.cls ≠ "java/lang/invoke/MethodHandle" ∧ y.cls ≠ "java/lang/invoke/VarHandle" ∧ (parseMethodDescriptor y.desc).map (fun d => d.parameters.length) = some n) (hR : rm.frames + 1 ≤ R.frames ∧ 8 + (maxL + 11) + rm.locals ≤ R.locals) (hn : As.length = n) (hsize : ls.size = nL) (hst : st0 = As.reverse ++ rest) (hroom : (rest.map fun v => v.category).sum ≤ 8) (hc : cells ≤ R.cells ∧ slots ≤ R.slots) (hdg : decode cc pc = .ok (.invokestatic index, 3))
    (kk : W p l e R s m args below meth c H locs cells slots Q (F0 m (pc + 3) ls (.int (iI w) :: rest))) : W p l e R s m args below meth c H locs cells slots Q (F0 m pc ls st0) :=
  vp_callSi (W.runS ⟨hexec, hb, hml, hown, hts⟩ hM (va_cwS n hts hG hw hrc hrs hd hR) s_pre rfl hn hsize hst (lv_room hroom) hdg hc) (fun r hr => by rw [hr]; exact kk)
theorem m_xret {v w : Int} {τ2 : Tau} {P : Tau → Prop} (hexec : p.tables.exec = Jvm.exec) (hb : c.code = cc) (hr : meth.sig.returnType = some .int) (hlocks : meth.locks = false) (hW : P τ2 ∧ MW D cI cZ ad τ2 H) (hS : va_S (MA ad) s.heap H locs) (hz : H.size = s.heap.size) (h : v = w) (hdg : decode cc pc = .ok (.ireturn, 1)) : W p l e R s m args below meth c H locs cells slots (MQ below (mX D cI cZ ad (some (.int (iI w))) P) args s cells slots (MA ad)) (F0 m pc ls [.int (iI v)]) :=
  W.iret hexec hb hr (fun t ht2 _ => ⟨by rw [h], ⟨τ2, hW.1, by rw [ht2]; exact hW.2⟩, by rw [ht2]; exact hz, fun q hq => by
    rw [ht2]
    by_cases hl : q < s.heap.size
    · exact hS.2.1 q hl hq
    · rw [Array.getElem?_eq_none (by omega), Array.getElem?_eq_none (by omega)]⟩) hS.2.2 hdg hlocks
theorem m_xvret {τ2 : Tau} {P : Tau → Prop} (hexec : p.tables.exec = Jvm.exec) (hb : c.code = cc) (hr : meth.sig.returnType = none) (hlocks : meth.locks = false) (hW : P τ2 ∧ MW D cI cZ ad τ2 H) (hS : va_S (MA ad) s.heap H locs) (hz : H.size = s.heap.size) (hdg : decode cc pc = .ok (.return_, 1)) : W p l e R s m args below meth c H locs cells slots (MQ below (mX D cI cZ ad none P) args s cells slots (MA ad)) (F0 m pc ls []) :=
  W.vret hexec hb hr (fun t ht2 _ => ⟨rfl, ⟨τ2, hW.1, by rw [ht2]; exact hW.2⟩, by rw [ht2]; exact hz, fun q hq => by
    rw [ht2]
    by_cases hl : q < s.heap.size
    · exact hS.2.1 q hl hq
    · rw [Array.getElem?_eq_none (by omega), Array.getElem?_eq_none (by omega)]⟩) hS.2.2 hdg hlocks
/-- a call of a writer of the model, from a writer -/
theorem m_callW {v : Option Value} {τ' : Tau} (hexec : p.tables.exec = Jvm.exec) (hb : c.code = cc) (hml : c.maxLocals = nL) (hts : ∀ w ∈ Ts, w.before args s = true) (hown : s.vm.findClass own = some m.cls) (hK : va_K D vwCl (mT cI cZ) s) (hW : MW D cI cZ ad τ H) (hS : va_S (MA ad) H0 H locs) (hz0 : H.size = H0.size) (hM : Met l y ws rm (mPc D cI cZ ad τ (.ref (ad 0) :: As)) (mQ D cI cZ ad v τ') 0 0 (MA ad)) (hG : GoodIn Ts (wsV own index RX8 y ws)) (hw : ws = Cond.code y bytes maxL ret :: ws') (hrc : rm.cells = 0) (hrs : rm.slots = 0)
    (hd : y.cls = RX8 ∧ y.cls ≠ "java/lang/invoke/MethodHandle" ∧ y.cls ≠ "java/lang/invoke/VarHandle" ∧ (parseMethodDescriptor y.desc).map (fun d => d.parameters.length) = some n) (hR : rm.frames + 1 ≤ R.frames ∧ 8 + (maxL + 11) + rm.locals ≤ R.locals) (hn : As.length = n) (hsize : ls.size = nL) (hst : st0 = As.reverse ++ .ref (ad 0) :: rest) (hroom : (rest.map fun v => v.category).sum ≤ 8) (hc : cells ≤ R.cells ∧ slots ≤ R.slots) (hdg : decode cc pc = .ok (.invokevirtual index, 3))
    (kk : ∀ (H1 : Heap) (locs1 : List Loc), MW D cI cZ ad τ' H1 → va_S (MA ad) H0 H1 locs1 → H1.size = H0.size → W p l e R s m args below meth c H1 locs1 cells slots Q (F0 m (pc + 3) ls (v.toList ++ rest))) : W p l e R s m args below meth c H locs cells slots Q (F0 m pc ls st0) := by
  intro T hT X
  obtain ⟨v2, st₀, t, T', L, h0, X', hL, e1, ⟨hv, hw2, hz, hk⟩, st⟩ := W.runV ⟨hexec, hb, hml, hown, hts⟩ hM (cwV n hts hG hw hrc hrs hd hR) (m_pre hK hW) rfl hn hsize hst (lv_room hroom) hdg hc T hT X
  cases hv
  rw [h0] at hz hk
  obtain ⟨t2, a1, b1⟩ := kk T'.heap (locs ++ L) (by rw [e1]; exact hw2) ⟨by rw [e1, hz]; exact hS.1, fun q h1 h2 => by rw [e1, hk q h2]; exact hS.2.1 q h1 h2, fun q hq => by
      rcases List.mem_append.mp hq with h | h
      · exact hS.2.2 q h
      · exact hL q h⟩ (by rw [e1, hz]; exact hz0) T' rfl X'
  exact ⟨t2, st t2 a1, b1⟩

theorem m_callX {v : Option Value} {P : Tau → Prop} (hexec : p.tables.exec = Jvm.exec) (hb : c.code = cc) (hml : c.maxLocals = nL) (hts : ∀ w ∈ Ts, w.before args s = true) (hown : s.vm.findClass own = some m.cls) (hK : va_K D vwCl (mT cI cZ) s) (hW : MW D cI cZ ad τ H) (hS : va_S (MA ad) H0 H locs) (hz0 : H.size = H0.size) (hM : Met l y ws rm (mPc D cI cZ ad τ (.ref (ad 0) :: As)) (mX D cI cZ ad v P) 0 0 (MA ad)) (hG : GoodIn Ts (wsV own index RX8 y ws)) (hw : ws = Cond.code y bytes maxL ret :: ws') (hrc : rm.cells = 0) (hrs : rm.slots = 0)
    (hd : y.cls = RX8 ∧ y.cls ≠ "java/lang/invoke/MethodHandle" ∧ y.cls ≠ "java/lang/invoke/VarHandle" ∧ (parseMethodDescriptor y.desc).map (fun d => d.parameters.length) = some n) (hR : rm.frames + 1 ≤ R.frames ∧ 8 + (maxL + 11) + rm.locals ≤ R.locals) (hn : As.length = n) (hsize : ls.size = nL) (hst : st0 = As.reverse ++ .ref (ad 0) :: rest) (hroom : (rest.map fun v => v.category).sum ≤ 8) (hc : cells ≤ R.cells ∧ slots ≤ R.slots) (hdg : decode cc pc = .ok (.invokevirtual index, 3))
    (kk : ∀ τ' : Tau, P τ' → ∀ (H1 : Heap) (locs1 : List Loc), MW D cI cZ ad τ' H1 → va_S (MA ad) H0 H1 locs1 → H1.size = H0.size → W p l e R s m args below meth c H1 locs1 cells slots Q (F0 m (pc + 3) ls (v.toList ++ rest))) : W p l e R s m args below meth c H locs cells slots Q (F0 m pc ls st0) := by
  intro T hT X
  obtain ⟨v2, st₀, t, T', L, h0, X', hL, e1, ⟨hv, ⟨τ', hp', hw2⟩, hz, hk⟩, st⟩ := W.runV ⟨hexec, hb, hml, hown, hts⟩ hM (cwV n hts hG hw hrc hrs hd hR) (m_pre hK hW) rfl hn hsize hst (lv_room hroom) hdg hc T hT X
  cases hv
  rw [h0] at hz hk
  obtain ⟨t2, a1, b1⟩ := kk τ' hp' T'.heap (locs ++ L) (by rw [e1]; exact hw2) ⟨by rw [e1, hz]; exact hS.1, fun q h1 h2 => by rw [e1, hk q h2]; exact hS.2.1 q h1 h2, fun q hq => by
      rcases List.mem_append.mp hq with h | h
      · exact hS.2.2 q h
      · exact hL q h⟩ (by rw [e1, hz]; exact hz0) T' rfl X'
  exact ⟨t2, st t2 a1, b1⟩
end MR
