/-! rows of the class's walks -/
/-- the links to a nest mate's private members -/
def NW (U : State) : Prop := va_Nw (.methodLinkNest RX7 166 yX0_init "CoreShed") U ∧ va_Nw (.methodLinkNest RX7 33 yX4_init "CoreShed") U ∧ va_Nw (.methodLinkNest RX7 40 yX3_init "CoreShed") U ∧ va_Nw (.methodLinkNest RX7 55 yX1_init "CoreShed") U ∧ va_Nw (.methodLinkNest RX0 77 yX7_mixed "CoreShed") U ∧ va_Nw (.methodLinkNest RX1 23 yX2_init "CoreShed") U ∧ va_Nw (.methodLinkNest RX1 41 yX7_unitsInCommon "CoreShed") U ∧ va_Nw (.methodLinkNest RX1 45 yX7_mixed "CoreShed") U ∧ va_Nw (.methodLinkNest RX2 26 yX7_mixed "CoreShed") U ∧ va_Nw (.methodLinkNest RX6 24 yX7_unitsInCommon "CoreShed") U ∧ va_Nw (.methodLinkNest RX6 28 yX7_mixed "CoreShed") U
theorem NW.warm {s U : State} (hW : s.WarmedH U.vm) (h : NW s) : NW U := ⟨va_Nw.warmM hW h.1, va_Nw.warmM hW h.2.1, va_Nw.warmM hW h.2.2.1, va_Nw.warmM hW h.2.2.2.1, va_Nw.warmM hW h.2.2.2.2.1, va_Nw.warmM hW h.2.2.2.2.2.1, va_Nw.warmM hW h.2.2.2.2.2.2.1, va_Nw.warmM hW h.2.2.2.2.2.2.2.1, va_Nw.warmM hW h.2.2.2.2.2.2.2.2.1, va_Nw.warmM hW h.2.2.2.2.2.2.2.2.2.1, va_Nw.warmM hW h.2.2.2.2.2.2.2.2.2.2⟩
theorem NW.same {s U : State} (e : s.vm = U.vm) (h : NW s) : NW U := ⟨va_Nw.same rfl e h.1, va_Nw.same rfl e h.2.1, va_Nw.same rfl e h.2.2.1, va_Nw.same rfl e h.2.2.2.1, va_Nw.same rfl e h.2.2.2.2.1, va_Nw.same rfl e h.2.2.2.2.2.1, va_Nw.same rfl e h.2.2.2.2.2.2.1, va_Nw.same rfl e h.2.2.2.2.2.2.2.1, va_Nw.same rfl e h.2.2.2.2.2.2.2.2.1, va_Nw.same rfl e h.2.2.2.2.2.2.2.2.2.1, va_Nw.same rfl e h.2.2.2.2.2.2.2.2.2.2⟩
def cPc (D : va_G) (cT : Nat → ClassId) (ad : Adr) (τ ρ : Tau) (av : List Value) : Array Value → State → Prop := va_Pc av (fun U => CW D cT ad τ ρ U.heap ∧ va_K D vwCl (cTy cT) U ∧ NW U)
def rV (v : Value) : Array Value → State → Outcome → State → Prop := fun _ st oc t => oc = .returned (some v) ∧ t.heap = st.heap
/-- a writer's end that makes nothing -/
def cQ (D : va_G) (cT : Nat → ClassId) (ad : Adr) (v : Option Value) (τ0 τ : Tau) (P : Tau → Prop) : Array Value → State → Outcome → State → Prop := fun _ st oc t => oc = .returned v ∧ (∃ ρ : Tau, P ρ ∧ CW D cT ad τ ρ t.heap) ∧ t.heap.size = st.heap.size ∧ ∀ q : Nat, ¬ CA ad τ0 q → t.heap[q]? = st.heap[q]?
theorem c_start {l : Launch} {y : MethodName} {ws ws' : List Cond} {rm : Room} {Qc : Array Value → State → Outcome → State → Prop} {mc ms : Nat} {free : Addr → Prop} {cc : ByteArray} {maxL : Nat} {ret : Option FieldType} {D : va_G} {cT : Nat → ClassId} {ad : Adr} {τ ρ : Tau} {av : List Value} (hy : plainName y.cls = true) (hw : ws = Cond.code y cc maxL ret :: ws') (hlen : (lg_sl av).length ≤ maxL)
    (body : ∀ (p : Program) (e : Env) (s : State) (m : MethodId) (below : List Frame) (meth : Method) (c : Code), p.tables.exec = Jvm.exec → c.code = cc → meth.sig.returnType = ret → meth.locks = false → c.maxLocals = maxL → (∀ w ∈ ws, w.before av.toArray s = true) → s.vm.findClass y.cls = some m.cls → CW D cT ad τ ρ s.heap → va_K D vwCl (cTy cT) s → NW s → ∀ ls : Array Slot, lv_has ls maxL (lv_args 0 av) → W p l e rm s m av.toArray below meth c s.heap [] 0 0 (MQ below Qc av.toArray s mc ms free) (F0 m 0 ls [])) : Met l y ws rm (cPc D cT ad τ ρ av) Qc mc ms free := by
  refine Met.ofW (cc := cc) (maxL := maxL) (ret := ret) hy hw ?_
  intro p e s m args below meth c s₁ B hml hv
  obtain ⟨rfl, hW, hK, hN⟩ := hv
  have hl := lv_entry av (n := maxL) hlen
  rw [lg_entry_eq]
  exact body p e s m below meth c B.exec B.bytes B.returns B.notSynchronized hml (atoms_spec (ws := ws) B.pre) (findClass_of_methodNamed B.named) hW hK hN _ hl
section CR
variable {p : Program} {l : Launch} {e : Env} {R : Room} {s : State} {m : MethodId} {args : Array Value} {below : List Frame} {meth : Method} {c : Code} {H : Heap} {locs : List Loc} {cells slots : Nat} {Q : State → Prop}
variable {cc : ByteArray} {pc : Nat} {ls : Array Slot} {rest : List Value} {D : va_G} {A : Nat → Prop} {a : Nat} {tys : List (ClassId × FieldType)} {H0 : Heap} {cT : Nat → ClassId} {ad : Adr} {τ ρ : Tau} {Ts : List Cond}

theorem y_aaldS (hexec : p.tables.exec = Jvm.exec) (hb : c.code = cc) (hK : va_K D vwCl tys s) (t0 : Nat) {cA : ClassId} {n q : Nat} {f : Nat → Option Nat} {ty : FieldType} (hty : ty.isReference = true) (hP : RAR D a cA n f H) (ht : tys[t0]? = some (cA, ty)) {j : Nat} {z : Int} (hz : z = j) (hj : j < n) (hn : n < 2 ^ 31) (hf : f j = some q) (hdg : decode cc pc = .ok (.aaload, 1))
    (kk : W p l e R s m args below meth c H locs cells slots Q (F0 m (pc + 1) ls (.ref q :: rest))) : W p l e R s m args below meth c H locs cells slots Q (F0 m pc ls (.int (iI z) :: .ref a :: rest)) :=
  y_aald hexec hb hK t0 hty hP ht hz hj hn hdg (by rw [hf]; exact kk)
theorem s_aret {v : Value} {nm : String} (hexec : p.tables.exec = Jvm.exec) (hb : c.code = cc) (hr : meth.sig.returnType = some (.object nm)) (hlocks : meth.locks = false) (hv : v = .null ∨ ∃ a, v = .ref a) (hdg : decode cc pc = .ok (.areturn, 1)) : W p l e R s m args below meth c s.heap [] 0 0 (MQ below (rV v) args s 0 0 NoA) (F0 m pc ls [v]) :=
  W.aret hexec hb hr (Or.inl ⟨nm, rfl⟩) hv (fun t ht _ => ⟨rfl, ht⟩) (fun _ h => by cases h) hdg hlocks
theorem s_aretE {v w : Value} {nm : String} (hexec : p.tables.exec = Jvm.exec) (hb : c.code = cc) (hr : meth.sig.returnType = some (.object nm)) (hlocks : meth.locks = false) (hv : v = .null ∨ ∃ a, v = .ref a) (h : v = w) (hdg : decode cc pc = .ok (.areturn, 1)) : W p l e R s m args below meth c s.heap [] 0 0 (MQ below (rV w) args s 0 0 NoA) (F0 m pc ls [v]) := by
  subst h
  exact s_aret hexec hb hr hlocks hv hdg
theorem c_iret {v w : Int} {τ2 ρ2 : Tau} {P : Tau → Prop} (hexec : p.tables.exec = Jvm.exec) (hb : c.code = cc) (hr : meth.sig.returnType = some .int) (hlocks : meth.locks = false) (hW : P ρ2 ∧ CW D cT ad τ2 ρ2 H) (hS : va_S (CA ad τ) s.heap H locs) (hz : H.size = s.heap.size) (h : v = w) (hdg : decode cc pc = .ok (.ireturn, 1)) : W p l e R s m args below meth c H locs cells slots (MQ below (cQ D cT ad (some (.int (iI w))) τ τ2 P) args s cells slots (CA ad τ)) (F0 m pc ls [.int (iI v)]) :=
  W.iret hexec hb hr (fun t ht2 _ => ⟨by rw [h], ⟨ρ2, hW.1, by rw [ht2]; exact hW.2⟩, by rw [ht2]; exact hz, fun q hq => by
    rw [ht2]
    by_cases hl : q < s.heap.size
    · exact hS.2.1 q hl hq
    · rw [Array.getElem?_eq_none (by omega), Array.getElem?_eq_none (by omega)]⟩) hS.2.2 hdg hlocks
theorem c_vret {τ2 ρ2 : Tau} {P : Tau → Prop} (hexec : p.tables.exec = Jvm.exec) (hb : c.code = cc) (hr : meth.sig.returnType = none) (hlocks : meth.locks = false) (hW : P ρ2 ∧ CW D cT ad τ2 ρ2 H) (hS : va_S (CA ad τ) s.heap H locs) (hz : H.size = s.heap.size) (hdg : decode cc pc = .ok (.return_, 1)) : W p l e R s m args below meth c H locs cells slots (MQ below (cQ D cT ad none τ τ2 P) args s cells slots (CA ad τ)) (F0 m pc ls []) :=
  W.vret hexec hb hr (fun t ht2 _ => ⟨rfl, ⟨ρ2, hW.1, by rw [ht2]; exact hW.2⟩, by rw [ht2]; exact hz, fun q hq => by
    rw [ht2]
    by_cases hl : q < s.heap.size
    · exact hS.2.1 q hl hq
    · rw [Array.getElem?_eq_none (by omega), Array.getElem?_eq_none (by omega)]⟩) hS.2.2 hdg hlocks
variable {y : MethodName} {ws ws' : List Cond} {rm : Room} {bytes : ByteArray} {maxL nL n index : Nat} {ret : Option FieldType} {As st0 : List Value} {own C : String} {b : Nat}
theorem c_pre (hK : va_K D vwCl (cTy cT) s) (hN : NW s) (hW : CW D cT ad τ ρ H) (hrec : ∃ cell : Cell, H[b]? = some cell ∧ cell.vm.isStatics = false ∧ s.vm.findClass C = some cell.cls) : PreV s H C b (cPc D cT ad τ ρ (.ref b :: As)) As :=
  ⟨fun a U g mk q => ⟨q.1, q.2.1, va_K.moved (u := U) (U := U.calling g mk a) (Vm.Alike.refl U.vm) q.2.2.1, NW.same rfl q.2.2.2⟩, hrec, fun U hU hW9 => ⟨rfl, by rw [hU]; exact hW, va_K.moved hW9.alike hK, hN.warm hW9⟩⟩
theorem c_preS (hK : va_K D vwCl (cTy cT) s) (hN : NW s) (hW : CW D cT ad τ ρ H) : PreS s H (cPc D cT ad τ ρ As) As :=
  ⟨fun a U g mk q => ⟨q.1, q.2.1, va_K.moved (u := U) (U := U.calling g mk a) (Vm.Alike.refl U.vm) q.2.2.1, NW.same rfl q.2.2.2⟩, fun U hU hW9 => ⟨rfl, by rw [hU]; exact hW, va_K.moved hW9.alike hK, hN.warm hW9⟩⟩
theorem c_call {w : Int} (hexec : p.tables.exec = Jvm.exec) (hb : c.code = cc) (hml : c.maxLocals = nL) (hts : ∀ w ∈ Ts, w.before args s = true) (hown : s.vm.findClass own = some m.cls) (hK : va_K D vwCl (cTy cT) s) (hN : NW s) (hW : CW D cT ad τ ρ H) (hrec : ∃ cell : Cell, H[b]? = some cell ∧ cell.vm.isStatics = false ∧ s.vm.findClass C = some cell.cls) (hM : Met l y ws rm (cPc D cT ad τ ρ (.ref b :: As)) (rS w) 0 0 NoA) (hG : GoodIn Ts (wsV own index C y ws)) (hw : ws = Cond.code y bytes maxL ret :: ws') (hrc : rm.cells = 0) (hrs : rm.slots = 0)
    (hd : y.cls = C ∧ y.cls ≠ "java/lang/invoke/MethodHandle" ∧ y.cls ≠ "java/lang/invoke/VarHandle" ∧ (parseMethodDescriptor y.desc).map (fun d => d.parameters.length) = some n) (hR : rm.frames + 1 ≤ R.frames ∧ 8 + (maxL + 11) + rm.locals ≤ R.locals) (hn : As.length = n) (hsize : ls.size = nL) (hst : st0 = As.reverse ++ .ref b :: rest) (hroom : (rest.map fun v => v.category).sum ≤ 8) (hc : cells ≤ R.cells ∧ slots ≤ R.slots) (hdg : decode cc pc = .ok (.invokevirtual index, 3))
    (kk : W p l e R s m args below meth c H locs cells slots Q (F0 m (pc + 3) ls (.int (iI w) :: rest))) : W p l e R s m args below meth c H locs cells slots Q (F0 m pc ls st0) :=
  vp_callSi (W.runV ⟨hexec, hb, hml, hown, hts⟩ hM (cwV n hts hG hw hrc hrs hd hR) (c_pre hK hN hW hrec) rfl hn hsize hst (lv_room hroom) hdg hc) (fun r hr => by rw [hr]; exact kk)
theorem c_callR {v : Value} (hexec : p.tables.exec = Jvm.exec) (hb : c.code = cc) (hml : c.maxLocals = nL) (hts : ∀ w ∈ Ts, w.before args s = true) (hown : s.vm.findClass own = some m.cls) (hK : va_K D vwCl (cTy cT) s) (hN : NW s) (hW : CW D cT ad τ ρ H) (hrec : ∃ cell : Cell, H[b]? = some cell ∧ cell.vm.isStatics = false ∧ s.vm.findClass C = some cell.cls) (hM : Met l y ws rm (cPc D cT ad τ ρ (.ref b :: As)) (rV v) 0 0 NoA) (hG : GoodIn Ts (wsV own index C y ws)) (hw : ws = Cond.code y bytes maxL ret :: ws') (hrc : rm.cells = 0) (hrs : rm.slots = 0)
    (hd : y.cls = C ∧ y.cls ≠ "java/lang/invoke/MethodHandle" ∧ y.cls ≠ "java/lang/invoke/VarHandle" ∧ (parseMethodDescriptor y.desc).map (fun d => d.parameters.length) = some n) (hR : rm.frames + 1 ≤ R.frames ∧ 8 + (maxL + 11) + rm.locals ≤ R.locals) (hn : As.length = n) (hsize : ls.size = nL) (hst : st0 = As.reverse ++ .ref b :: rest) (hroom : (rest.map fun v => v.category).sum ≤ 8) (hc : cells ≤ R.cells ∧ slots ≤ R.slots) (hdg : decode cc pc = .ok (.invokevirtual index, 3))
    (kk : W p l e R s m args below meth c H locs cells slots Q (F0 m (pc + 3) ls (v :: rest))) : W p l e R s m args below meth c H locs cells slots Q (F0 m pc ls st0) := by
  intro T hT X
  obtain ⟨v2, st₀, t, T', L, h0, X', hL, e1, ⟨hv, hh⟩, st⟩ := W.runV ⟨hexec, hb, hml, hown, hts⟩ hM (cwV n hts hG hw hrc hrs hd hR) (c_pre hK hN hW hrec) rfl hn hsize hst (lv_room hroom) hdg hc T hT X
  cases hv
  obtain ⟨t2, a1, b1⟩ := kk T' (by rw [e1, hh, h0]) (Stand.forget X' (fun q h => (hL q h).elim))
  exact ⟨t2, st t2 a1, b1⟩
theorem c_callL {w : Int} (hexec : p.tables.exec = Jvm.exec) (hb : c.code = cc) (hml : c.maxLocals = nL) (hts : ∀ w ∈ Ts, w.before args s = true) (hown : s.vm.findClass own = some m.cls) (hK : va_K D vwCl (cTy cT) s) (hN : NW s) (hW : CW D cT ad τ ρ H) (hrec : ∃ cell : Cell, H[b]? = some cell ∧ cell.vm.isStatics = false ∧ s.vm.findClass C = some cell.cls) (hM : Met l y ws rm (cPc D cT ad τ ρ (.ref b :: As)) (rL w) 0 0 NoA) (hG : GoodIn Ts (wsV own index C y ws)) (hw : ws = Cond.code y bytes maxL ret :: ws') (hrc : rm.cells = 0) (hrs : rm.slots = 0)
    (hd : y.cls = C ∧ y.cls ≠ "java/lang/invoke/MethodHandle" ∧ y.cls ≠ "java/lang/invoke/VarHandle" ∧ (parseMethodDescriptor y.desc).map (fun d => d.parameters.length) = some n) (hR : rm.frames + 1 ≤ R.frames ∧ 8 + (maxL + 11) + rm.locals ≤ R.locals) (hn : As.length = n) (hsize : ls.size = nL) (hst : st0 = As.reverse ++ .ref b :: rest) (hroom : (rest.map fun v => v.category).sum ≤ 8) (hc : cells ≤ R.cells ∧ slots ≤ R.slots) (hdg : decode cc pc = .ok (.invokevirtual index, 3))
    (kk : W p l e R s m args below meth c H locs cells slots Q (F0 m (pc + 3) ls (.long (lL w) :: rest))) : W p l e R s m args below meth c H locs cells slots Q (F0 m pc ls st0) := by
  intro T hT X
  obtain ⟨v2, st₀, t, T', L, h0, X', hL, e1, ⟨r, hv, hp, hh⟩, st⟩ := W.runV ⟨hexec, hb, hml, hown, hts⟩ hM (cwV n hts hG hw hrc hrs hd hR) (c_pre hK hN hW hrec) rfl hn hsize hst (lv_room hroom) hdg hc T hT X
  cases hv
  obtain ⟨t2, a1, b1⟩ := (by rw [hp]; exact kk : W p l e R s m args below meth c H locs cells slots Q (F0 m (pc + 3) ls (.long r :: rest))) T' (by rw [e1, hh, h0]) (Stand.forget X' (fun q h => (hL q h).elim))
  exact ⟨t2, st t2 a1, b1⟩
theorem c_scall {w : Int} (hexec : p.tables.exec = Jvm.exec) (hb : c.code = cc) (hml : c.maxLocals = nL) (hts : ∀ w ∈ Ts, w.before args s = true) (hown : s.vm.findClass own = some m.cls) (hK : va_K D vwCl (cTy cT) s) (hN : NW s) (hW : CW D cT ad τ ρ H)  (hM : Met l y ws rm (cPc D cT ad τ ρ As) (rS w) 0 0 NoA) (hG : GoodIn Ts (va_wsS own index y ws)) (hw : ws = Cond.code y bytes maxL ret :: ws') (hrc : rm.cells = 0) (hrs : rm.slots = 0)
    (hd : y.cls ≠ "java/lang/invoke/MethodHandle" ∧ y.cls ≠ "java/lang/invoke/VarHandle" ∧ (parseMethodDescriptor y.desc).map (fun d => d.parameters.length) = some n) (hR : rm.frames + 1 ≤ R.frames ∧ 8 + (maxL + 11) + rm.locals ≤ R.locals) (hn : As.length = n) (hsize : ls.size = nL) (hst : st0 = As.reverse ++ rest) (hroom : (rest.map fun v => v.category).sum ≤ 8) (hc : cells ≤ R.cells ∧ slots ≤ R.slots) (hdg : decode cc pc = .ok (.invokestatic index, 3))
    (kk : W p l e R s m args below meth c H locs cells slots Q (F0 m (pc + 3) ls (.int (iI w) :: rest))) : W p l e R s m args below meth c H locs cells slots Q (F0 m pc ls st0) :=
  vp_callSi (W.runS ⟨hexec, hb, hml, hown, hts⟩ hM (va_cwS n hts hG hw hrc hrs hd hR) (c_preS hK hN hW) rfl hn hsize hst (lv_room hroom) hdg hc) (fun r hr => by rw [hr]; exact kk)
theorem c_scallR {v : Value} (hexec : p.tables.exec = Jvm.exec) (hb : c.code = cc) (hml : c.maxLocals = nL) (hts : ∀ w ∈ Ts, w.before args s = true) (hown : s.vm.findClass own = some m.cls) (hK : va_K D vwCl (cTy cT) s) (hN : NW s) (hW : CW D cT ad τ ρ H)  (hM : Met l y ws rm (cPc D cT ad τ ρ As) (rV v) 0 0 NoA) (hG : GoodIn Ts (va_wsS own index y ws)) (hw : ws = Cond.code y bytes maxL ret :: ws') (hrc : rm.cells = 0) (hrs : rm.slots = 0)
    (hd : y.cls ≠ "java/lang/invoke/MethodHandle" ∧ y.cls ≠ "java/lang/invoke/VarHandle" ∧ (parseMethodDescriptor y.desc).map (fun d => d.parameters.length) = some n) (hR : rm.frames + 1 ≤ R.frames ∧ 8 + (maxL + 11) + rm.locals ≤ R.locals) (hn : As.length = n) (hsize : ls.size = nL) (hst : st0 = As.reverse ++ rest) (hroom : (rest.map fun v => v.category).sum ≤ 8) (hc : cells ≤ R.cells ∧ slots ≤ R.slots) (hdg : decode cc pc = .ok (.invokestatic index, 3))
    (kk : W p l e R s m args below meth c H locs cells slots Q (F0 m (pc + 3) ls (v :: rest))) : W p l e R s m args below meth c H locs cells slots Q (F0 m pc ls st0) := by
  intro T hT X
  obtain ⟨v2, st₀, t, T', L, h0, X', hL, e1, ⟨hv, hh⟩, st⟩ := W.runS ⟨hexec, hb, hml, hown, hts⟩ hM (va_cwS n hts hG hw hrc hrs hd hR) (c_preS hK hN hW) rfl hn hsize hst (lv_room hroom) hdg hc T hT X
  cases hv
  obtain ⟨t2, a1, b1⟩ := kk T' (by rw [e1, hh, h0]) (Stand.forget X' (fun q h => (hL q h).elim))
  exact ⟨t2, st t2 a1, b1⟩
theorem c_scallL {w : Int} (hexec : p.tables.exec = Jvm.exec) (hb : c.code = cc) (hml : c.maxLocals = nL) (hts : ∀ w ∈ Ts, w.before args s = true) (hown : s.vm.findClass own = some m.cls) (hK : va_K D vwCl (cTy cT) s) (hN : NW s) (hW : CW D cT ad τ ρ H)  (hM : Met l y ws rm (cPc D cT ad τ ρ As) (rL w) 0 0 NoA) (hG : GoodIn Ts (va_wsS own index y ws)) (hw : ws = Cond.code y bytes maxL ret :: ws') (hrc : rm.cells = 0) (hrs : rm.slots = 0)
    (hd : y.cls ≠ "java/lang/invoke/MethodHandle" ∧ y.cls ≠ "java/lang/invoke/VarHandle" ∧ (parseMethodDescriptor y.desc).map (fun d => d.parameters.length) = some n) (hR : rm.frames + 1 ≤ R.frames ∧ 8 + (maxL + 11) + rm.locals ≤ R.locals) (hn : As.length = n) (hsize : ls.size = nL) (hst : st0 = As.reverse ++ rest) (hroom : (rest.map fun v => v.category).sum ≤ 8) (hc : cells ≤ R.cells ∧ slots ≤ R.slots) (hdg : decode cc pc = .ok (.invokestatic index, 3))
    (kk : W p l e R s m args below meth c H locs cells slots Q (F0 m (pc + 3) ls (.long (lL w) :: rest))) : W p l e R s m args below meth c H locs cells slots Q (F0 m pc ls st0) := by
  intro T hT X
  obtain ⟨v2, st₀, t, T', L, h0, X', hL, e1, ⟨r, hv, hp, hh⟩, st⟩ := W.runS ⟨hexec, hb, hml, hown, hts⟩ hM (va_cwS n hts hG hw hrc hrs hd hR) (c_preS hK hN hW) rfl hn hsize hst (lv_room hroom) hdg hc T hT X
  cases hv
  obtain ⟨t2, a1, b1⟩ := (by rw [hp]; exact kk : W p l e R s m args below meth c H locs cells slots Q (F0 m (pc + 3) ls (.long r :: rest))) T' (by rw [e1, hh, h0]) (Stand.forget X' (fun q h => (hL q h).elim))
  exact ⟨t2, st t2 a1, b1⟩
theorem s_callN {w : Int} (hexec : p.tables.exec = Jvm.exec) (hb : c.code = cc) (hml : c.maxLocals = nL) (hts : ∀ w ∈ Ts, w.before args s = true) (hown : s.vm.findClass own = some m.cls) (hM : Met l y ws rm (sPc As) (rS w) 0 0 NoA) (hG : GoodIn Ts ws) (hw : ws = Cond.code y bytes maxL ret :: ws') (hrc : rm.cells = 0) (hrs : rm.slots = 0) {host : String} (hlk : va_Nw (.methodLinkNest own index y host) s) (hini : (Cond.initialized y.cls).before args s = true) (hstat : (Cond.static y).before args s = true)
    (hd : y.cls ≠ "java/lang/invoke/MethodHandle" ∧ y.cls ≠ "java/lang/invoke/VarHandle" ∧ (parseMethodDescriptor y.desc).map (fun d => d.parameters.length) = some n) (hR : rm.frames + 1 ≤ R.frames ∧ 8 + (maxL + 11) + rm.locals ≤ R.locals) (hn : As.length = n) (hsize : ls.size = nL) (hst : st0 = As.reverse ++ rest) (hroom : (rest.map fun v => v.category).sum ≤ 8) (hc : cells ≤ R.cells ∧ slots ≤ R.slots) (hdg : decode cc pc = .ok (.invokestatic index, 3))
    (kk : W p l e R s m args below meth c H locs cells slots Q (F0 m (pc + 3) ls (.int (iI w) :: rest))) : W p l e R s m args below meth c H locs cells slots Q (F0 m pc ls st0) := by
  intro T hT X
  obtain ⟨v2, st₀, t, T', L, h0, X', hL, e1, -, ⟨r, hv, hp, hh⟩, st⟩ := va_runSN ⟨hexec, hb, hml, hown, hts⟩ hM ⟨va_cnB n hts hG hw hrc hrs hlk hini hd hR, hstat, trivial⟩ s_pre rfl hn hsize hst (lv_room hroom) hdg hc T hT X
  cases hv
  obtain ⟨t2, a1, b1⟩ := (by rw [hp]; exact kk : W p l e R s m args below meth c H locs cells slots Q (F0 m (pc + 3) ls (.int r :: rest))) T' (by rw [e1, hh, h0]) (Stand.forget X' (fun q h => (hL q h).elim))
  exact ⟨t2, st t2 a1, b1⟩
theorem s_callLN {w : Int} (hexec : p.tables.exec = Jvm.exec) (hb : c.code = cc) (hml : c.maxLocals = nL) (hts : ∀ w ∈ Ts, w.before args s = true) (hown : s.vm.findClass own = some m.cls) (hM : Met l y ws rm (sPc As) (rL w) 0 0 NoA) (hG : GoodIn Ts ws) (hw : ws = Cond.code y bytes maxL ret :: ws') (hrc : rm.cells = 0) (hrs : rm.slots = 0) {host : String} (hlk : va_Nw (.methodLinkNest own index y host) s) (hini : (Cond.initialized y.cls).before args s = true) (hstat : (Cond.static y).before args s = true)
    (hd : y.cls ≠ "java/lang/invoke/MethodHandle" ∧ y.cls ≠ "java/lang/invoke/VarHandle" ∧ (parseMethodDescriptor y.desc).map (fun d => d.parameters.length) = some n) (hR : rm.frames + 1 ≤ R.frames ∧ 8 + (maxL + 11) + rm.locals ≤ R.locals) (hn : As.length = n) (hsize : ls.size = nL) (hst : st0 = As.reverse ++ rest) (hroom : (rest.map fun v => v.category).sum ≤ 8) (hc : cells ≤ R.cells ∧ slots ≤ R.slots) (hdg : decode cc pc = .ok (.invokestatic index, 3))
    (kk : W p l e R s m args below meth c H locs cells slots Q (F0 m (pc + 3) ls (.long (lL w) :: rest))) : W p l e R s m args below meth c H locs cells slots Q (F0 m pc ls st0) := by
  intro T hT X
  obtain ⟨v2, st₀, t, T', L, h0, X', hL, e1, -, ⟨r, hv, hp, hh⟩, st⟩ := va_runSN ⟨hexec, hb, hml, hown, hts⟩ hM ⟨va_cnB n hts hG hw hrc hrs hlk hini hd hR, hstat, trivial⟩ s_pre rfl hn hsize hst (lv_room hroom) hdg hc T hT X
  cases hv
  obtain ⟨t2, a1, b1⟩ := (by rw [hp]; exact kk : W p l e R s m args below meth c H locs cells slots Q (F0 m (pc + 3) ls (.long r :: rest))) T' (by rw [e1, hh, h0]) (Stand.forget X' (fun q h => (hL q h).elim))
  exact ⟨t2, st t2 a1, b1⟩
theorem s_callL {w : Int} (hexec : p.tables.exec = Jvm.exec) (hb : c.code = cc) (hml : c.maxLocals = nL) (hts : ∀ w ∈ Ts, w.before args s = true) (hown : s.vm.findClass own = some m.cls) (hM : Met l y ws rm (sPc As) (rL w) 0 0 NoA) (hG : GoodIn Ts (va_wsS own index y ws)) (hw : ws = Cond.code y bytes maxL ret :: ws') (hrc : rm.cells = 0) (hrs : rm.slots = 0)
    (hd : y.cls ≠ "java/lang/invoke/MethodHandle" ∧ y.cls ≠ "java/lang/invoke/VarHandle" ∧ (parseMethodDescriptor y.desc).map (fun d => d.parameters.length) = some n) (hR : rm.frames + 1 ≤ R.frames ∧ 8 + (maxL + 11) + rm.locals ≤ R.locals) (hn : As.length = n) (hsize : ls.size = nL) (hst : st0 = As.reverse ++ rest) (hroom : (rest.map fun v => v.category).sum ≤ 8) (hc : cells ≤ R.cells ∧ slots ≤ R.slots) (hdg : decode cc pc = .ok (.invokestatic index, 3))
    (kk : W p l e R s m args below meth c H locs cells slots Q (F0 m (pc + 3) ls (.long (lL w) :: rest))) : W p l e R s m args below meth c H locs cells slots Q (F0 m pc ls st0) := by
  intro T hT X
  obtain ⟨v2, st₀, t, T', L, h0, X', hL, e1, ⟨r, hv, hp, hh⟩, st⟩ := W.runS ⟨hexec, hb, hml, hown, hts⟩ hM (va_cwS n hts hG hw hrc hrs hd hR) s_pre rfl hn hsize hst (lv_room hroom) hdg hc T hT X
  cases hv
  obtain ⟨t2, a1, b1⟩ := (by rw [hp]; exact kk : W p l e R s m args below meth c H locs cells slots Q (F0 m (pc + 3) ls (.long r :: rest))) T' (by rw [e1, hh, h0]) (Stand.forget X' (fun q h => (hL q h).elim))
  exact ⟨t2, st t2 a1, b1⟩
theorem c_callW {v : Option Value} {τ2 : Tau} {P : Tau → Prop} (hexec : p.tables.exec = Jvm.exec) (hb : c.code = cc) (hml : c.maxLocals = nL) (hts : ∀ w ∈ Ts, w.before args s = true) (hown : s.vm.findClass own = some m.cls) (hK : va_K D vwCl (cTy cT) s) (hN : NW s) (hW : CW D cT ad τ ρ H) (hrec : ∃ cell : Cell, H[b]? = some cell ∧ cell.vm.isStatics = false ∧ s.vm.findClass C = some cell.cls) (hS : va_S A H0 H locs) (hz0 : H.size = H0.size) (hA : ∀ q, CA ad τ q → A q) (hM : Met l y ws rm (cPc D cT ad τ ρ (.ref b :: As)) (cQ D cT ad v τ τ2 P) 0 0 (CA ad τ)) (hG : GoodIn Ts (wsV own index C y ws)) (hw : ws = Cond.code y bytes maxL ret :: ws') (hrc : rm.cells = 0) (hrs : rm.slots = 0)
    (hd : y.cls = C ∧ y.cls ≠ "java/lang/invoke/MethodHandle" ∧ y.cls ≠ "java/lang/invoke/VarHandle" ∧ (parseMethodDescriptor y.desc).map (fun d => d.parameters.length) = some n) (hR : rm.frames + 1 ≤ R.frames ∧ 8 + (maxL + 11) + rm.locals ≤ R.locals) (hn : As.length = n) (hsize : ls.size = nL) (hst : st0 = As.reverse ++ .ref b :: rest) (hroom : (rest.map fun v => v.category).sum ≤ 8) (hc : cells ≤ R.cells ∧ slots ≤ R.slots) (hdg : decode cc pc = .ok (.invokevirtual index, 3))
    (kk : ∀ (ρ2 : Tau), P ρ2 → ∀ (H1 : Heap) (locs1 : List Loc), CW D cT ad τ2 ρ2 H1 → va_S A H0 H1 locs1 → H1.size = H0.size → W p l e R s m args below meth c H1 locs1 cells slots Q (F0 m (pc + 3) ls (v.toList ++ rest))) : W p l e R s m args below meth c H locs cells slots Q (F0 m pc ls st0) := by
  intro T hT X
  obtain ⟨v2, st₀, t, T', L, h0, X', hL, e1, ⟨hv, ⟨ρ2, hp, hw2⟩, hz, hk⟩, st⟩ := W.runV ⟨hexec, hb, hml, hown, hts⟩ hM (cwV n hts hG hw hrc hrs hd hR) (c_pre hK hN hW hrec) rfl hn hsize hst (lv_room hroom) hdg hc T hT X
  cases hv
  rw [h0] at hz hk
  obtain ⟨t2, a1, b1⟩ := kk ρ2 hp T'.heap (locs ++ L) (by rw [e1]; exact hw2) ⟨by rw [e1, hz]; exact hS.1, fun q h1 h2 => by rw [e1, hk q (fun h => h2 (hA q h))]; exact hS.2.1 q h1 h2, fun q hq => by
      rcases List.mem_append.mp hq with h | h
      · exact hS.2.2 q h
      · exact hA _ (hL q h)⟩ (by rw [e1, hz]; exact hz0) T' rfl X'
  exact ⟨t2, st t2 a1, b1⟩
theorem z_mmax (hexec : p.tables.exec = Jvm.exec) (hb : c.code = cc) (hml : c.maxLocals = ls.size) {index : Nat} (hown : s.vm.findClass own = some m.cls) (hlink : (Cond.methodLink own index Lib.Math.max.name).before args s = true) (hstat : (Cond.static Lib.Math.max.name).before args s = true) (hini : (Cond.initialized "java/lang/Math").before args s = true) (hcode : (Cond.code Lib.Math.max.name Lib.Math.max.code 2 (some .int)).before args s = true)
    (hframes : 1 ≤ R.frames) (hlocals : (rest.map fun v => v.category).sum + 13 ≤ R.locals) (hc : cells ≤ R.cells) (hs : slots ≤ R.slots) {x y : Int} (hx1 : I32 x) (hy1 : I32 y) (hdg : decode cc pc = .ok (.invokestatic index, 3))
    (kk : W p l e R s m args below meth c H locs cells slots Q (F0 m (pc + 3) ls (.int (iI (max x y)) :: rest))) : W p l e R s m args below meth c H locs cells slots Q (F0 m pc ls (.int (iI y) :: .int (iI x) :: rest)) :=
  va_mmax hexec hb hml hown hlink hstat hini hcode hframes hlocals hc hs hdg (by
    have e : (if iI x < iI y then iI y else iI x) = iI (max x y) := by
      by_cases h : x < y
      · rw [if_pos ((iI_lt hx1 hy1).mpr h), show max x y = y by omega]
      · rw [if_neg (fun q => h ((iI_lt hx1 hy1).mp q)), show max x y = x by omega]
    rw [e]; exact kk)
theorem z_mmin (hexec : p.tables.exec = Jvm.exec) (hb : c.code = cc) (hml : c.maxLocals = ls.size) {index : Nat} (hown : s.vm.findClass own = some m.cls) (hlink : (Cond.methodLink own index Lib.Math.min.name).before args s = true) (hstat : (Cond.static Lib.Math.min.name).before args s = true) (hini : (Cond.initialized "java/lang/Math").before args s = true) (hcode : (Cond.code Lib.Math.min.name Lib.Math.min.code 2 (some .int)).before args s = true)
    (hframes : 1 ≤ R.frames) (hlocals : (rest.map fun v => v.category).sum + 13 ≤ R.locals) (hc : cells ≤ R.cells) (hs : slots ≤ R.slots) {x y : Int} (hx1 : I32 x) (hy1 : I32 y) (hdg : decode cc pc = .ok (.invokestatic index, 3))
    (kk : W p l e R s m args below meth c H locs cells slots Q (F0 m (pc + 3) ls (.int (iI (min x y)) :: rest))) : W p l e R s m args below meth c H locs cells slots Q (F0 m pc ls (.int (iI y) :: .int (iI x) :: rest)) :=
  va_mmin hexec hb hml hown hlink hstat hini hcode hframes hlocals hc hs hdg (by
    have e : (if iI y < iI x then iI y else iI x) = iI (min x y) := by
      by_cases h : y < x
      · rw [if_pos ((iI_lt hy1 hx1).mpr h), show min x y = y by omega]
      · rw [if_neg (fun q => h ((iI_lt hy1 hx1).mp q)), show min x y = x by omega]
    rw [e]; exact kk)
def abI (x : Int) : Int := if x < 0 then -x else x
theorem z_mabs (hexec : p.tables.exec = Jvm.exec) (hb : c.code = cc) (hml : c.maxLocals = ls.size) {index : Nat} (hown : s.vm.findClass own = some m.cls) (hlink : (Cond.methodLink own index Lib.Math.abs.name).before args s = true) (hstat : (Cond.static Lib.Math.abs.name).before args s = true) (hini : (Cond.initialized "java/lang/Math").before args s = true) (hcode : (Cond.code Lib.Math.abs.name Lib.Math.abs.code 1 (some .int)).before args s = true)
    (hframes : 1 ≤ R.frames) (hlocals : (rest.map fun v => v.category).sum + 13 ≤ R.locals) (hc : cells ≤ R.cells) (hs : slots ≤ R.slots) {x : Int} (hx1 : I32 x) (hdg : decode cc pc = .ok (.invokestatic index, 3))
    (kk : W p l e R s m args below meth c H locs cells slots Q (F0 m (pc + 3) ls (.int (iI (abI x)) :: rest))) : W p l e R s m args below meth c H locs cells slots Q (F0 m pc ls (.int (iI x) :: rest)) :=
  va_mabs hexec hb hml hown hlink hstat hini hcode hframes hlocals hc hs hdg (by
    have e : (if 0 ≤ iI x then iI x else 0 - iI x) = iI (abI x) := by
      unfold abI
      rw [iI_0]
      by_cases h : x < 0
      · rw [if_neg (fun q => absurd ((iI_le (a := 0) (by omega) hx1).mp q) (by omega)), if_pos h, iI_sub, Int.zero_sub]
      · rw [if_pos ((iI_le (a := 0) (by omega) hx1).mpr (by omega)), if_neg h]
    rw [e]; exact kk)
end CR
