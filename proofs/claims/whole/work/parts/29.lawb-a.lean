/-! the law's branches -/
def LC (p : Program) (s : State) (m : MethodId) (c : Code) (D : va_G) (cT : Nat → ClassId) (b L : Nat) (xs : Nat → Int32) : Prop := p.tables.exec = Jvm.exec ∧ c.code = cL_law ∧ c.maxLocals = 4 ∧ (∀ w ∈ wsL_law, w.before #[Value.ref b] s = true) ∧ s.vm.findClass RL = some m.cls ∧ va_X b L xs s s.heap ∧ b < s.heap.size ∧ va_K D vwCl (cTy cT) s ∧ EW s ∧ L ≤ 3072
abbrev LV (ls : Array Slot) (b : Nat) (ad : Adr) (am : Nat → Nat) (n : Nat) : Prop := lv_has ls 4 [(0, .ref b), (1, .ref (ad 0 0)), (2, .ref (am 0)), (3, .int (iI (n : Int)))]
set_option maxHeartbeats 4000000 in
set_option maxRecDepth 100000 in
theorem lb_hole {p : Program} {l : Launch} {e : Env} {s : State} {m : MethodId} {below : List Frame} {meth : Method} {c : Code} {D : va_G} {cT : Nat → ClassId} {ad : Adr} {am : Nat → Nat} {τ ρ : Tau} {b L n : Nat} {xs : Nat → Int32} {H : Heap} {locs : List Loc} {cells slots : Nat} {ls : Array Slot} {Q : State → Prop} (C0 : LC p s m c D cT b L xs) (hn : n + 6 ≤ L) (hcl : cells ≤ 500000) (hsl : slots ≤ 7000000) (hl : LV ls b ad am n) (hI : IZ τ) (hW : LW D cT ad am τ τ ρ s.heap.size H) (hS : va_S (fun q : Nat => s.heap.size ≤ q) s.heap H locs) (kk : ∀ (ad2 : Adr) (τ2 ρ2 : Tau) (H2 : Heap) (locs2 : List Loc), ad2 0 0 = ad 0 0 → IZ τ2 → LW D cT ad2 am τ2 τ2 ρ2 s.heap.size H2 → va_S (fun q : Nat => s.heap.size ≤ q) s.heap H2 locs2 → W p l e room_1 s m #[Value.ref b] below meth c H2 locs2 (cells + 10) (slots + 154) Q (F0 m 1177 ls [])) : W p l e room_1 s m #[Value.ref b] below meth c H locs cells slots Q (F0 m 172 ls []) := by
  obtain ⟨hx, hb, hml, hts, hown, hX, hbl, hK, hE, hL⟩ := C0
  have hKm : va_K D vwCl (mT (cT 0) (cT 1)) s := hK.sub [0, 1] rfl
  refine lv_aload_n hx hb dL_law_172 rfl (lv_at hl 1 rfl) ?_
  refine l_cN (n := 0) (As := []) (rest := []) hx hb hml hts hown hK hE hW (va_recv hK (cw0 hW.1) (ci := 7) (q0 := 0) rfl rfl) hS (c7_hole l D cT ad τ ρ H.size hI.inv hI.zer ) gL_law_X7_hole rfl rfl rfl (by decide +kernel) ⟨by decide, by decide⟩ rfl hl.1 rfl (Nat.le_of_ble_eq_true rfl) ⟨(show cells + 10 ≤ 600000 by omega), (show slots + 154 ≤ 7302250 by omega)⟩ dL_law_173 (fun ad2 H locs e0 hW hS => ?_)
  refine lv_aload_n hx hb dL_law_176 rfl (lv_at hl 2 rfl) ?_
  refine l_mW (n := 0) (As := []) (rest := [.int (iI (spHole τ))]) hx hb hml hts hown hKm hW hS (c8_hole l D (cT 0) (cT 1) am τ hI.1 ) gL_law_X8_hole rfl rfl rfl (by decide +kernel) ⟨by decide, by decide⟩ rfl hl.1 rfl (Nat.le_of_ble_eq_true rfl) ⟨(show cells + 10 ≤ 600000 by omega), (show slots + 154 ≤ 7302250 by omega)⟩ dL_law_177 (fun H locs hW hS => ?_)
  refine l_eq (tgt := 1177) hx hb dL_law_180 (by decide) ?_
  refine W.widen (k := cells + 10) (n := slots + 154) (by omega) (by omega) ?_
  exact kk ad2 _ ρ H locs e0 hI.hole hW hS
set_option maxHeartbeats 4000000 in
set_option maxRecDepth 100000 in
theorem lb_run {p : Program} {l : Launch} {e : Env} {s : State} {m : MethodId} {below : List Frame} {meth : Method} {c : Code} {D : va_G} {cT : Nat → ClassId} {ad : Adr} {am : Nat → Nat} {τ ρ : Tau} {b L n : Nat} {xs : Nat → Int32} {H : Heap} {locs : List Loc} {cells slots : Nat} {ls : Array Slot} {Q : State → Prop} (C0 : LC p s m c D cT b L xs) (hn : n + 6 ≤ L) (hcl : cells ≤ 500000) (hsl : slots ≤ 7000000) (hl : LV ls b ad am n) (hI : IZ τ) (hW : LW D cT ad am τ τ ρ s.heap.size H) (hS : va_S (fun q : Nat => s.heap.size ≤ q) s.heap H locs) (kk : ∀ (ad2 : Adr) (τ2 ρ2 : Tau) (H2 : Heap) (locs2 : List Loc), ad2 0 0 = ad 0 0 → IZ τ2 → LW D cT ad2 am τ2 τ2 ρ2 s.heap.size H2 → va_S (fun q : Nat => s.heap.size ≤ q) s.heap H2 locs2 → W p l e room_1 s m #[Value.ref b] below meth c H2 locs2 (cells + 10) (slots + 154) Q (F0 m 1177 ls [])) : W p l e room_1 s m #[Value.ref b] below meth c H locs cells slots Q (F0 m 185 ls []) := by
  obtain ⟨hx, hb, hml, hts, hown, hX, hbl, hK, hE, hL⟩ := C0
  have hKm : va_K D vwCl (mT (cT 0) (cT 1)) s := hK.sub [0, 1] rfl
  refine lv_aload_n hx hb dL_law_185 rfl (lv_at hl 1 rfl) ?_
  refine lv_aload_n hx hb dL_law_186 rfl (lv_at hl 0 rfl) ?_
  refine lv_iload_n hx hb dL_law_187 rfl (lv_at hl 3 rfl) ?_
  refine z_iconst hx hb dL_law_188 ?_
  refine z_iadd hx hb dL_law_189 ?_
  refine l_sld hx hb hX hbl hS (n + 1) (by omega) (by omega) hL dL_law_190 ?_
  refine lv_aload_n hx hb dL_law_191 rfl (lv_at hl 0 rfl) ?_
  refine lv_iload_n hx hb dL_law_192 rfl (lv_at hl 3 rfl) ?_
  refine z_iconst hx hb dL_law_193 ?_
  refine z_iadd hx hb dL_law_194 ?_
  refine l_sld hx hb hX hbl hS (n + 2) (by omega) (by omega) hL dL_law_195 ?_
  refine lv_aload_n hx hb dL_law_196 rfl (lv_at hl 0 rfl) ?_
  refine lv_iload_n hx hb dL_law_197 rfl (lv_at hl 3 rfl) ?_
  refine z_iconst hx hb dL_law_198 ?_
  refine z_iadd hx hb dL_law_199 ?_
  refine l_sld hx hb hX hbl hS (n + 3) (by omega) (by omega) hL dL_law_200 ?_
  refine l_cW (n := 3) (As := [.int (iI (xs (n + 1)).toInt), .int (iI (xs (n + 2)).toInt), .int (iI (xs (n + 3)).toInt)]) (rest := []) hx hb hml hts hown hK hE.1 hW (fun q h => CA_stRun h) (va_recv hK (cw0 hW.1) (ci := 7) (q0 := 0) rfl rfl) hS (c7_run l D cT ad τ ρ hI.inv _ (i_r _) _ (i_r _) _ (i_r _)) gL_law_X7_run rfl rfl rfl (by decide +kernel) ⟨by decide, by decide⟩ rfl hl.1 rfl (Nat.le_of_ble_eq_true rfl) ⟨(show cells ≤ 600000 by omega), (show slots ≤ 7302250 by omega)⟩ dL_law_201 (fun ρ H locs hW hS => ?_)
  refine lv_aload_n hx hb dL_law_204 rfl (lv_at hl 2 rfl) ?_
  refine lv_aload_n hx hb dL_law_205 rfl (lv_at hl 0 rfl) ?_
  refine lv_iload_n hx hb dL_law_206 rfl (lv_at hl 3 rfl) ?_
  refine z_iconst hx hb dL_law_207 ?_
  refine z_iadd hx hb dL_law_208 ?_
  refine l_sld hx hb hX hbl hS (n + 1) (by omega) (by omega) hL dL_law_209 ?_
  refine lv_aload_n hx hb dL_law_210 rfl (lv_at hl 0 rfl) ?_
  refine lv_iload_n hx hb dL_law_211 rfl (lv_at hl 3 rfl) ?_
  refine z_iconst hx hb dL_law_212 ?_
  refine z_iadd hx hb dL_law_213 ?_
  refine l_sld hx hb hX hbl hS (n + 2) (by omega) (by omega) hL dL_law_214 ?_
  refine lv_aload_n hx hb dL_law_215 rfl (lv_at hl 0 rfl) ?_
  refine lv_iload_n hx hb dL_law_216 rfl (lv_at hl 3 rfl) ?_
  refine z_iconst hx hb dL_law_217 ?_
  refine z_iadd hx hb dL_law_218 ?_
  refine l_sld hx hb hX hbl hS (n + 3) (by omega) (by omega) hL dL_law_219 ?_
  refine l_mW (n := 3) (As := [.int (iI (xs (n + 1)).toInt), .int (iI (xs (n + 2)).toInt), .int (iI (xs (n + 3)).toInt)]) (rest := [.int (iI (spRun τ (xs (n + 1)).toInt (xs (n + 2)).toInt (xs (n + 3)).toInt))]) hx hb hml hts hown hKm hW hS (c8_run l D (cT 0) (cT 1) am τ hI.1 _ (i_r _) _ (i_r _) _ (i_r _)) gL_law_X8_run rfl rfl rfl (by decide +kernel) ⟨by decide, by decide⟩ rfl hl.1 rfl (Nat.le_of_ble_eq_true rfl) ⟨(show cells ≤ 600000 by omega), (show slots ≤ 7302250 by omega)⟩ dL_law_220 (fun H locs hW hS => ?_)
  refine l_eq (tgt := 1177) hx hb dL_law_223 (by decide) ?_
  refine W.widen (k := cells + 10) (n := slots + 154) (by omega) (by omega) ?_
  exact kk ad _ ρ H locs rfl hI.run hW hS
set_option maxHeartbeats 4000000 in
set_option maxRecDepth 100000 in
theorem lb_end {p : Program} {l : Launch} {e : Env} {s : State} {m : MethodId} {below : List Frame} {meth : Method} {c : Code} {D : va_G} {cT : Nat → ClassId} {ad : Adr} {am : Nat → Nat} {τ ρ : Tau} {b L n : Nat} {xs : Nat → Int32} {H : Heap} {locs : List Loc} {cells slots : Nat} {ls : Array Slot} {Q : State → Prop} (C0 : LC p s m c D cT b L xs) (hn : n + 6 ≤ L) (hcl : cells ≤ 500000) (hsl : slots ≤ 7000000) (hl : LV ls b ad am n) (hI : IZ τ) (hW : LW D cT ad am τ τ ρ s.heap.size H) (hS : va_S (fun q : Nat => s.heap.size ≤ q) s.heap H locs) (kk : ∀ (ad2 : Adr) (τ2 ρ2 : Tau) (H2 : Heap) (locs2 : List Loc), ad2 0 0 = ad 0 0 → IZ τ2 → LW D cT ad2 am τ2 τ2 ρ2 s.heap.size H2 → va_S (fun q : Nat => s.heap.size ≤ q) s.heap H2 locs2 → W p l e room_1 s m #[Value.ref b] below meth c H2 locs2 (cells + 10) (slots + 154) Q (F0 m 1177 ls [])) : W p l e room_1 s m #[Value.ref b] below meth c H locs cells slots Q (F0 m 228 ls []) := by
  obtain ⟨hx, hb, hml, hts, hown, hX, hbl, hK, hE, hL⟩ := C0
  have hKm : va_K D vwCl (mT (cT 0) (cT 1)) s := hK.sub [0, 1] rfl
  refine lv_aload_n hx hb dL_law_228 rfl (lv_at hl 1 rfl) ?_
  refine lv_aload_n hx hb dL_law_229 rfl (lv_at hl 0 rfl) ?_
  refine lv_iload_n hx hb dL_law_230 rfl (lv_at hl 3 rfl) ?_
  refine z_iconst hx hb dL_law_231 ?_
  refine z_iadd hx hb dL_law_232 ?_
  refine l_sld hx hb hX hbl hS (n + 1) (by omega) (by omega) hL dL_law_233 ?_
  refine c_call (n := 1) (As := [.int (iI (xs (n + 1)).toInt)]) (rest := []) hx hb hml hts hown hK hE.1 hW.1 (va_recv hK (cw0 hW.1) (ci := 7) (q0 := 0) rfl rfl) (c7_end l D cT ad τ ρ hI.inv _ (i_r _)) gL_law_X7_end rfl rfl rfl (by decide +kernel) ⟨by decide, by decide⟩ rfl hl.1 rfl (Nat.le_of_ble_eq_true rfl) ⟨(show cells ≤ 600000 by omega), (show slots ≤ 7302250 by omega)⟩ dL_law_234 ?_
  refine lv_aload_n hx hb dL_law_237 rfl (lv_at hl 2 rfl) ?_
  refine lv_aload_n hx hb dL_law_238 rfl (lv_at hl 0 rfl) ?_
  refine lv_iload_n hx hb dL_law_239 rfl (lv_at hl 3 rfl) ?_
  refine z_iconst hx hb dL_law_240 ?_
  refine z_iadd hx hb dL_law_241 ?_
  refine l_sld hx hb hX hbl hS (n + 1) (by omega) (by omega) hL dL_law_242 ?_
  refine m_call (n := 1) (As := [.int (iI (xs (n + 1)).toInt)]) (rest := [.int (iI (spEnd τ (xs (n + 1)).toInt))]) hx hb hml hts hown hKm hW.2.1 (c8_end l D (cT 0) (cT 1) am τ hI.1 _ (i_r _)) gL_law_X8_end rfl rfl rfl (by decide +kernel) ⟨by decide, by decide⟩ rfl hl.1 rfl (Nat.le_of_ble_eq_true rfl) ⟨(show cells ≤ 600000 by omega), (show slots ≤ 7302250 by omega)⟩ dL_law_243 ?_
  refine l_eq (tgt := 1177) hx hb dL_law_246 (by decide) ?_
  refine W.widen (k := cells + 10) (n := slots + 154) (by omega) (by omega) ?_
  exact kk ad _ ρ H locs rfl hI hW hS
set_option maxHeartbeats 4000000 in
set_option maxRecDepth 100000 in
theorem lb_recovered {p : Program} {l : Launch} {e : Env} {s : State} {m : MethodId} {below : List Frame} {meth : Method} {c : Code} {D : va_G} {cT : Nat → ClassId} {ad : Adr} {am : Nat → Nat} {τ ρ : Tau} {b L n : Nat} {xs : Nat → Int32} {H : Heap} {locs : List Loc} {cells slots : Nat} {ls : Array Slot} {Q : State → Prop} (C0 : LC p s m c D cT b L xs) (hn : n + 6 ≤ L) (hcl : cells ≤ 500000) (hsl : slots ≤ 7000000) (hl : LV ls b ad am n) (hI : IZ τ) (hW : LW D cT ad am τ τ ρ s.heap.size H) (hS : va_S (fun q : Nat => s.heap.size ≤ q) s.heap H locs) (kk : ∀ (ad2 : Adr) (τ2 ρ2 : Tau) (H2 : Heap) (locs2 : List Loc), ad2 0 0 = ad 0 0 → IZ τ2 → LW D cT ad2 am τ2 τ2 ρ2 s.heap.size H2 → va_S (fun q : Nat => s.heap.size ≤ q) s.heap H2 locs2 → W p l e room_1 s m #[Value.ref b] below meth c H2 locs2 (cells + 10) (slots + 154) Q (F0 m 1177 ls [])) : W p l e room_1 s m #[Value.ref b] below meth c H locs cells slots Q (F0 m 251 ls []) := by
  obtain ⟨hx, hb, hml, hts, hown, hX, hbl, hK, hE, hL⟩ := C0
  have hKm : va_K D vwCl (mT (cT 0) (cT 1)) s := hK.sub [0, 1] rfl
  refine lv_aload_n hx hb dL_law_251 rfl (lv_at hl 1 rfl) ?_
  refine lv_aload_n hx hb dL_law_252 rfl (lv_at hl 0 rfl) ?_
  refine lv_iload_n hx hb dL_law_253 rfl (lv_at hl 3 rfl) ?_
  refine z_iconst hx hb dL_law_254 ?_
  refine z_iadd hx hb dL_law_255 ?_
  refine l_sld hx hb hX hbl hS (n + 1) (by omega) (by omega) hL dL_law_256 ?_
  refine lv_aload_n hx hb dL_law_257 rfl (lv_at hl 0 rfl) ?_
  refine lv_iload_n hx hb dL_law_258 rfl (lv_at hl 3 rfl) ?_
  refine z_iconst hx hb dL_law_259 ?_
  refine z_iadd hx hb dL_law_260 ?_
  refine l_sld hx hb hX hbl hS (n + 2) (by omega) (by omega) hL dL_law_261 ?_
  refine lv_aload_n hx hb dL_law_262 rfl (lv_at hl 0 rfl) ?_
  refine lv_iload_n hx hb dL_law_263 rfl (lv_at hl 3 rfl) ?_
  refine z_iconst hx hb dL_law_264 ?_
  refine z_iadd hx hb dL_law_265 ?_
  refine l_sld hx hb hX hbl hS (n + 3) (by omega) (by omega) hL dL_law_266 ?_
  refine c_call (n := 3) (As := [.int (iI (xs (n + 1)).toInt), .int (iI (xs (n + 2)).toInt), .int (iI (xs (n + 3)).toInt)]) (rest := []) hx hb hml hts hown hK hE.1 hW.1 (va_recv hK (cw0 hW.1) (ci := 7) (q0 := 0) rfl rfl) (c7_recovered l D cT ad τ ρ hI.inv _ (i_r _) _ (i_r _) _ (i_r _)) gL_law_X7_recovered rfl rfl rfl (by decide +kernel) ⟨by decide, by decide⟩ rfl hl.1 rfl (Nat.le_of_ble_eq_true rfl) ⟨(show cells ≤ 600000 by omega), (show slots ≤ 7302250 by omega)⟩ dL_law_267 ?_
  refine lv_aload_n hx hb dL_law_270 rfl (lv_at hl 2 rfl) ?_
  refine lv_aload_n hx hb dL_law_271 rfl (lv_at hl 0 rfl) ?_
  refine lv_iload_n hx hb dL_law_272 rfl (lv_at hl 3 rfl) ?_
  refine z_iconst hx hb dL_law_273 ?_
  refine z_iadd hx hb dL_law_274 ?_
  refine l_sld hx hb hX hbl hS (n + 1) (by omega) (by omega) hL dL_law_275 ?_
  refine lv_aload_n hx hb dL_law_276 rfl (lv_at hl 0 rfl) ?_
  refine lv_iload_n hx hb dL_law_277 rfl (lv_at hl 3 rfl) ?_
  refine z_iconst hx hb dL_law_278 ?_
  refine z_iadd hx hb dL_law_279 ?_
  refine l_sld hx hb hX hbl hS (n + 2) (by omega) (by omega) hL dL_law_280 ?_
  refine lv_aload_n hx hb dL_law_281 rfl (lv_at hl 0 rfl) ?_
  refine lv_iload_n hx hb dL_law_282 rfl (lv_at hl 3 rfl) ?_
  refine z_iconst hx hb dL_law_283 ?_
  refine z_iadd hx hb dL_law_284 ?_
  refine l_sld hx hb hX hbl hS (n + 3) (by omega) (by omega) hL dL_law_285 ?_
  refine m_call (n := 3) (As := [.int (iI (xs (n + 1)).toInt), .int (iI (xs (n + 2)).toInt), .int (iI (xs (n + 3)).toInt)]) (rest := [.int (iI (spRec τ (xs (n + 1)).toInt (xs (n + 2)).toInt (xs (n + 3)).toInt))]) hx hb hml hts hown hKm hW.2.1 (c8_recovered l D (cT 0) (cT 1) am τ hI.1 _ (i_r _) _ (i_r _) _ (i_r _)) gL_law_X8_recovered rfl rfl rfl (by decide +kernel) ⟨by decide, by decide⟩ rfl hl.1 rfl (Nat.le_of_ble_eq_true rfl) ⟨(show cells ≤ 600000 by omega), (show slots ≤ 7302250 by omega)⟩ dL_law_286 ?_
  refine l_eq (tgt := 1177) hx hb dL_law_289 (by decide) ?_
  refine W.widen (k := cells + 10) (n := slots + 154) (by omega) (by omega) ?_
  exact kk ad _ ρ H locs rfl hI hW hS
set_option maxHeartbeats 4000000 in
set_option maxRecDepth 100000 in
theorem lb_mark {p : Program} {l : Launch} {e : Env} {s : State} {m : MethodId} {below : List Frame} {meth : Method} {c : Code} {D : va_G} {cT : Nat → ClassId} {ad : Adr} {am : Nat → Nat} {τ ρ : Tau} {b L n : Nat} {xs : Nat → Int32} {H : Heap} {locs : List Loc} {cells slots : Nat} {ls : Array Slot} {Q : State → Prop} (C0 : LC p s m c D cT b L xs) (hn : n + 6 ≤ L) (hcl : cells ≤ 500000) (hsl : slots ≤ 7000000) (hl : LV ls b ad am n) (hI : IZ τ) (hW : LW D cT ad am τ τ ρ s.heap.size H) (hS : va_S (fun q : Nat => s.heap.size ≤ q) s.heap H locs) (kk : ∀ (ad2 : Adr) (τ2 ρ2 : Tau) (H2 : Heap) (locs2 : List Loc), ad2 0 0 = ad 0 0 → IZ τ2 → LW D cT ad2 am τ2 τ2 ρ2 s.heap.size H2 → va_S (fun q : Nat => s.heap.size ≤ q) s.heap H2 locs2 → W p l e room_1 s m #[Value.ref b] below meth c H2 locs2 (cells + 10) (slots + 154) Q (F0 m 1177 ls [])) : W p l e room_1 s m #[Value.ref b] below meth c H locs cells slots Q (F0 m 294 ls []) := by
  obtain ⟨hx, hb, hml, hts, hown, hX, hbl, hK, hE, hL⟩ := C0
  have hKm : va_K D vwCl (mT (cT 0) (cT 1)) s := hK.sub [0, 1] rfl
  refine lv_aload_n hx hb dL_law_294 rfl (lv_at hl 1 rfl) ?_
  refine lv_aload_n hx hb dL_law_295 rfl (lv_at hl 0 rfl) ?_
  refine lv_iload_n hx hb dL_law_296 rfl (lv_at hl 3 rfl) ?_
  refine z_iconst hx hb dL_law_297 ?_
  refine z_iadd hx hb dL_law_298 ?_
  refine l_sld hx hb hX hbl hS (n + 1) (by omega) (by omega) hL dL_law_299 ?_
  refine lv_aload_n hx hb dL_law_300 rfl (lv_at hl 0 rfl) ?_
  refine lv_iload_n hx hb dL_law_301 rfl (lv_at hl 3 rfl) ?_
  refine z_iconst hx hb dL_law_302 ?_
  refine z_iadd hx hb dL_law_303 ?_
  refine l_sld hx hb hX hbl hS (n + 2) (by omega) (by omega) hL dL_law_304 ?_
  refine l_cW (n := 2) (As := [.int (iI (xs (n + 1)).toInt), .int (iI (xs (n + 2)).toInt)]) (rest := []) hx hb hml hts hown hK hE.1 hW (fun q h => CA_stMark h) (va_recv hK (cw0 hW.1) (ci := 7) (q0 := 0) rfl rfl) hS (c7_mark l D cT ad τ ρ hI.inv _ (i_r _) _ (i_r _)) gL_law_X7_mark rfl rfl rfl (by decide +kernel) ⟨by decide, by decide⟩ rfl hl.1 rfl (Nat.le_of_ble_eq_true rfl) ⟨(show cells ≤ 600000 by omega), (show slots ≤ 7302250 by omega)⟩ dL_law_305 (fun ρ H locs hW hS => ?_)
  refine lv_aload_n hx hb dL_law_308 rfl (lv_at hl 2 rfl) ?_
  refine lv_aload_n hx hb dL_law_309 rfl (lv_at hl 0 rfl) ?_
  refine lv_iload_n hx hb dL_law_310 rfl (lv_at hl 3 rfl) ?_
  refine z_iconst hx hb dL_law_311 ?_
  refine z_iadd hx hb dL_law_312 ?_
  refine l_sld hx hb hX hbl hS (n + 1) (by omega) (by omega) hL dL_law_313 ?_
  refine lv_aload_n hx hb dL_law_314 rfl (lv_at hl 0 rfl) ?_
  refine lv_iload_n hx hb dL_law_315 rfl (lv_at hl 3 rfl) ?_
  refine z_iconst hx hb dL_law_316 ?_
  refine z_iadd hx hb dL_law_317 ?_
  refine l_sld hx hb hX hbl hS (n + 2) (by omega) (by omega) hL dL_law_318 ?_
  refine l_mW (n := 2) (As := [.int (iI (xs (n + 1)).toInt), .int (iI (xs (n + 2)).toInt)]) (rest := [.int (iI (spMark τ (xs (n + 1)).toInt (xs (n + 2)).toInt))]) hx hb hml hts hown hKm hW hS (c8_mark l D (cT 0) (cT 1) am τ hI.1 _ (i_r _) _ (i_r _)) gL_law_X8_mark rfl rfl rfl (by decide +kernel) ⟨by decide, by decide⟩ rfl hl.1 rfl (Nat.le_of_ble_eq_true rfl) ⟨(show cells ≤ 600000 by omega), (show slots ≤ 7302250 by omega)⟩ dL_law_319 (fun H locs hW hS => ?_)
  refine l_eq (tgt := 1177) hx hb dL_law_322 (by decide) ?_
  refine W.widen (k := cells + 10) (n := slots + 154) (by omega) (by omega) ?_
  exact kk ad _ ρ H locs rfl hI.mark hW hS
set_option maxHeartbeats 4000000 in
set_option maxRecDepth 100000 in
theorem lb_wrong {p : Program} {l : Launch} {e : Env} {s : State} {m : MethodId} {below : List Frame} {meth : Method} {c : Code} {D : va_G} {cT : Nat → ClassId} {ad : Adr} {am : Nat → Nat} {τ ρ : Tau} {b L n : Nat} {xs : Nat → Int32} {H : Heap} {locs : List Loc} {cells slots : Nat} {ls : Array Slot} {Q : State → Prop} (C0 : LC p s m c D cT b L xs) (hn : n + 6 ≤ L) (hcl : cells ≤ 500000) (hsl : slots ≤ 7000000) (hl : LV ls b ad am n) (hI : IZ τ) (hW : LW D cT ad am τ τ ρ s.heap.size H) (hS : va_S (fun q : Nat => s.heap.size ≤ q) s.heap H locs) (kk : ∀ (ad2 : Adr) (τ2 ρ2 : Tau) (H2 : Heap) (locs2 : List Loc), ad2 0 0 = ad 0 0 → IZ τ2 → LW D cT ad2 am τ2 τ2 ρ2 s.heap.size H2 → va_S (fun q : Nat => s.heap.size ≤ q) s.heap H2 locs2 → W p l e room_1 s m #[Value.ref b] below meth c H2 locs2 (cells + 10) (slots + 154) Q (F0 m 1177 ls [])) : W p l e room_1 s m #[Value.ref b] below meth c H locs cells slots Q (F0 m 327 ls []) := by
  obtain ⟨hx, hb, hml, hts, hown, hX, hbl, hK, hE, hL⟩ := C0
  have hKm : va_K D vwCl (mT (cT 0) (cT 1)) s := hK.sub [0, 1] rfl
  refine lv_aload_n hx hb dL_law_327 rfl (lv_at hl 1 rfl) ?_
  refine lv_aload_n hx hb dL_law_328 rfl (lv_at hl 0 rfl) ?_
  refine lv_iload_n hx hb dL_law_329 rfl (lv_at hl 3 rfl) ?_
  refine z_iconst hx hb dL_law_330 ?_
  refine z_iadd hx hb dL_law_331 ?_
  refine l_sld hx hb hX hbl hS (n + 1) (by omega) (by omega) hL dL_law_332 ?_
  refine l_cW (n := 1) (As := [.int (iI (xs (n + 1)).toInt)]) (rest := []) hx hb hml hts hown hK hE.1 hW (fun q h => h) (va_recv hK (cw0 hW.1) (ci := 7) (q0 := 0) rfl rfl) hS (c7_wrong l D cT ad τ ρ hI.inv _ (i_r _)) gL_law_X7_wrong rfl rfl rfl (by decide +kernel) ⟨by decide, by decide⟩ rfl hl.1 rfl (Nat.le_of_ble_eq_true rfl) ⟨(show cells ≤ 600000 by omega), (show slots ≤ 7302250 by omega)⟩ dL_law_333 (fun ρ H locs hW hS => ?_)
  refine lv_aload_n hx hb dL_law_336 rfl (lv_at hl 2 rfl) ?_
  refine lv_aload_n hx hb dL_law_337 rfl (lv_at hl 0 rfl) ?_
  refine lv_iload_n hx hb dL_law_338 rfl (lv_at hl 3 rfl) ?_
  refine z_iconst hx hb dL_law_339 ?_
  refine z_iadd hx hb dL_law_340 ?_
  refine l_sld hx hb hX hbl hS (n + 1) (by omega) (by omega) hL dL_law_341 ?_
  refine l_mX (n := 1) (As := [.int (iI (xs (n + 1)).toInt)]) (rest := [.int (iI (spWrong τ (xs (n + 1)).toInt))]) hx hb hml hts hown hKm hW hS (c8_wrong l D (cT 0) (cT 1) am τ hI.1 _ (i_r _)) gL_law_X8_wrong rfl rfl rfl (by decide +kernel) ⟨by decide, by decide⟩ rfl hl.1 rfl (Nat.le_of_ble_eq_true rfl) ⟨(show cells ≤ 600000 by omega), (show slots ≤ 7302250 by omega)⟩ dL_law_342 (fun τn hsc H locs hW hS => ?_)
  refine l_eq (tgt := 1177) hx hb dL_law_345 (by decide) ?_
  refine W.widen (k := cells + 10) (n := slots + 154) (by omega) (by omega) ?_
  exact kk ad τn ρ H locs rfl (hI.sc hsc) (hW.sc hsc) hS
set_option maxHeartbeats 4000000 in
set_option maxRecDepth 100000 in
theorem lb_isWrong {p : Program} {l : Launch} {e : Env} {s : State} {m : MethodId} {below : List Frame} {meth : Method} {c : Code} {D : va_G} {cT : Nat → ClassId} {ad : Adr} {am : Nat → Nat} {τ ρ : Tau} {b L n : Nat} {xs : Nat → Int32} {H : Heap} {locs : List Loc} {cells slots : Nat} {ls : Array Slot} {Q : State → Prop} (C0 : LC p s m c D cT b L xs) (hn : n + 6 ≤ L) (hcl : cells ≤ 500000) (hsl : slots ≤ 7000000) (hl : LV ls b ad am n) (hI : IZ τ) (hW : LW D cT ad am τ τ ρ s.heap.size H) (hS : va_S (fun q : Nat => s.heap.size ≤ q) s.heap H locs) (kk : ∀ (ad2 : Adr) (τ2 ρ2 : Tau) (H2 : Heap) (locs2 : List Loc), ad2 0 0 = ad 0 0 → IZ τ2 → LW D cT ad2 am τ2 τ2 ρ2 s.heap.size H2 → va_S (fun q : Nat => s.heap.size ≤ q) s.heap H2 locs2 → W p l e room_1 s m #[Value.ref b] below meth c H2 locs2 (cells + 10) (slots + 154) Q (F0 m 1177 ls [])) : W p l e room_1 s m #[Value.ref b] below meth c H locs cells slots Q (F0 m 350 ls []) := by
  obtain ⟨hx, hb, hml, hts, hown, hX, hbl, hK, hE, hL⟩ := C0
  have hKm : va_K D vwCl (mT (cT 0) (cT 1)) s := hK.sub [0, 1] rfl
  refine lv_aload_n hx hb dL_law_350 rfl (lv_at hl 1 rfl) ?_
  refine lv_aload_n hx hb dL_law_351 rfl (lv_at hl 0 rfl) ?_
  refine lv_iload_n hx hb dL_law_352 rfl (lv_at hl 3 rfl) ?_
  refine z_iconst hx hb dL_law_353 ?_
  refine z_iadd hx hb dL_law_354 ?_
  refine l_sld hx hb hX hbl hS (n + 1) (by omega) (by omega) hL dL_law_355 ?_
  refine lv_aload_n hx hb dL_law_356 rfl (lv_at hl 0 rfl) ?_
  refine lv_iload_n hx hb dL_law_357 rfl (lv_at hl 3 rfl) ?_
  refine z_iconst hx hb dL_law_358 ?_
  refine z_iadd hx hb dL_law_359 ?_
  refine l_sld hx hb hX hbl hS (n + 2) (by omega) (by omega) hL dL_law_360 ?_
  refine l_cW (n := 2) (As := [.int (iI (xs (n + 1)).toInt), .int (iI (xs (n + 2)).toInt)]) (rest := []) hx hb hml hts hown hK hE.1 hW (fun q h => h) (va_recv hK (cw0 hW.1) (ci := 7) (q0 := 0) rfl rfl) hS (c7_isWrong l D cT ad τ ρ hI.inv _ (i_r _) _ (i_r _)) gL_law_X7_isWrong rfl rfl rfl (by decide +kernel) ⟨by decide, by decide⟩ rfl hl.1 rfl (Nat.le_of_ble_eq_true rfl) ⟨(show cells ≤ 600000 by omega), (show slots ≤ 7302250 by omega)⟩ dL_law_361 (fun ρ H locs hW hS => ?_)
  refine lv_aload_n hx hb dL_law_364 rfl (lv_at hl 2 rfl) ?_
  refine lv_aload_n hx hb dL_law_365 rfl (lv_at hl 0 rfl) ?_
  refine lv_iload_n hx hb dL_law_366 rfl (lv_at hl 3 rfl) ?_
  refine z_iconst hx hb dL_law_367 ?_
  refine z_iadd hx hb dL_law_368 ?_
  refine l_sld hx hb hX hbl hS (n + 1) (by omega) (by omega) hL dL_law_369 ?_
  refine lv_aload_n hx hb dL_law_370 rfl (lv_at hl 0 rfl) ?_
  refine lv_iload_n hx hb dL_law_371 rfl (lv_at hl 3 rfl) ?_
  refine z_iconst hx hb dL_law_372 ?_
  refine z_iadd hx hb dL_law_373 ?_
  refine l_sld hx hb hX hbl hS (n + 2) (by omega) (by omega) hL dL_law_374 ?_
  refine l_mX (n := 2) (As := [.int (iI (xs (n + 1)).toInt), .int (iI (xs (n + 2)).toInt)]) (rest := [.int (iI (spIsW τ (xs (n + 1)).toInt (xs (n + 2)).toInt))]) hx hb hml hts hown hKm hW hS (c8_isWrong l D (cT 0) (cT 1) am τ hI.1 _ (i_r _) _ (i_r _)) gL_law_X8_isWrong rfl rfl rfl (by decide +kernel) ⟨by decide, by decide⟩ rfl hl.1 rfl (Nat.le_of_ble_eq_true rfl) ⟨(show cells ≤ 600000 by omega), (show slots ≤ 7302250 by omega)⟩ dL_law_375 (fun τn hsc H locs hW hS => ?_)
  refine l_eq (tgt := 1177) hx hb dL_law_378 (by decide) ?_
  refine W.widen (k := cells + 10) (n := slots + 154) (by omega) (by omega) ?_
  exact kk ad τn ρ H locs rfl (hI.sc hsc) (hW.sc hsc) hS
set_option maxHeartbeats 4000000 in
set_option maxRecDepth 100000 in
theorem lb_layer {p : Program} {l : Launch} {e : Env} {s : State} {m : MethodId} {below : List Frame} {meth : Method} {c : Code} {D : va_G} {cT : Nat → ClassId} {ad : Adr} {am : Nat → Nat} {τ ρ : Tau} {b L n : Nat} {xs : Nat → Int32} {H : Heap} {locs : List Loc} {cells slots : Nat} {ls : Array Slot} {Q : State → Prop} (C0 : LC p s m c D cT b L xs) (hn : n + 6 ≤ L) (hcl : cells ≤ 500000) (hsl : slots ≤ 7000000) (hl : LV ls b ad am n) (hI : IZ τ) (hW : LW D cT ad am τ τ ρ s.heap.size H) (hS : va_S (fun q : Nat => s.heap.size ≤ q) s.heap H locs) (kk : ∀ (ad2 : Adr) (τ2 ρ2 : Tau) (H2 : Heap) (locs2 : List Loc), ad2 0 0 = ad 0 0 → IZ τ2 → LW D cT ad2 am τ2 τ2 ρ2 s.heap.size H2 → va_S (fun q : Nat => s.heap.size ≤ q) s.heap H2 locs2 → W p l e room_1 s m #[Value.ref b] below meth c H2 locs2 (cells + 10) (slots + 154) Q (F0 m 1177 ls [])) : W p l e room_1 s m #[Value.ref b] below meth c H locs cells slots Q (F0 m 383 ls []) := by
  obtain ⟨hx, hb, hml, hts, hown, hX, hbl, hK, hE, hL⟩ := C0
  have hKm : va_K D vwCl (mT (cT 0) (cT 1)) s := hK.sub [0, 1] rfl
  refine lv_aload_n hx hb dL_law_383 rfl (lv_at hl 1 rfl) ?_
  refine lv_aload_n hx hb dL_law_384 rfl (lv_at hl 0 rfl) ?_
  refine lv_iload_n hx hb dL_law_385 rfl (lv_at hl 3 rfl) ?_
  refine z_iconst hx hb dL_law_386 ?_
  refine z_iadd hx hb dL_law_387 ?_
  refine l_sld hx hb hX hbl hS (n + 1) (by omega) (by omega) hL dL_law_388 ?_
  refine lv_aload_n hx hb dL_law_389 rfl (lv_at hl 0 rfl) ?_
  refine lv_iload_n hx hb dL_law_390 rfl (lv_at hl 3 rfl) ?_
  refine z_iconst hx hb dL_law_391 ?_
  refine z_iadd hx hb dL_law_392 ?_
  refine l_sld hx hb hX hbl hS (n + 2) (by omega) (by omega) hL dL_law_393 ?_
  refine lv_aload_n hx hb dL_law_394 rfl (lv_at hl 0 rfl) ?_
  refine lv_iload_n hx hb dL_law_395 rfl (lv_at hl 3 rfl) ?_
  refine z_iconst hx hb dL_law_396 ?_
  refine z_iadd hx hb dL_law_397 ?_
  refine l_sld hx hb hX hbl hS (n + 3) (by omega) (by omega) hL dL_law_398 ?_
  refine lv_aload_n hx hb dL_law_399 rfl (lv_at hl 0 rfl) ?_
  refine lv_iload_n hx hb dL_law_400 rfl (lv_at hl 3 rfl) ?_
  refine z_iconst hx hb dL_law_401 ?_
  refine z_iadd hx hb dL_law_402 ?_
  refine l_sld hx hb hX hbl hS (n + 4) (by omega) (by omega) hL dL_law_403 ?_
  refine l_cW (n := 4) (As := [.int (iI (xs (n + 1)).toInt), .int (iI (xs (n + 2)).toInt), .int (iI (xs (n + 3)).toInt), .int (iI (xs (n + 4)).toInt)]) (rest := []) hx hb hml hts hown hK hE.1 hW (fun q h => CA_stLayer h) (va_recv hK (cw0 hW.1) (ci := 7) (q0 := 0) rfl rfl) hS (c7_layer l D cT ad τ ρ hI.inv _ (i_r _) _ (i_r _) _ (i_r _) _ (i_r _)) gL_law_X7_layer rfl rfl rfl (by decide +kernel) ⟨by decide, by decide⟩ rfl hl.1 rfl (Nat.le_of_ble_eq_true rfl) ⟨(show cells ≤ 600000 by omega), (show slots ≤ 7302250 by omega)⟩ dL_law_404 (fun ρ H locs hW hS => ?_)
  refine lv_aload_n hx hb dL_law_407 rfl (lv_at hl 2 rfl) ?_
  refine lv_aload_n hx hb dL_law_408 rfl (lv_at hl 0 rfl) ?_
  refine lv_iload_n hx hb dL_law_409 rfl (lv_at hl 3 rfl) ?_
  refine z_iconst hx hb dL_law_410 ?_
  refine z_iadd hx hb dL_law_411 ?_
  refine l_sld hx hb hX hbl hS (n + 1) (by omega) (by omega) hL dL_law_412 ?_
  refine lv_aload_n hx hb dL_law_413 rfl (lv_at hl 0 rfl) ?_
  refine lv_iload_n hx hb dL_law_414 rfl (lv_at hl 3 rfl) ?_
  refine z_iconst hx hb dL_law_415 ?_
  refine z_iadd hx hb dL_law_416 ?_
  refine l_sld hx hb hX hbl hS (n + 2) (by omega) (by omega) hL dL_law_417 ?_
  refine lv_aload_n hx hb dL_law_418 rfl (lv_at hl 0 rfl) ?_
  refine lv_iload_n hx hb dL_law_419 rfl (lv_at hl 3 rfl) ?_
  refine z_iconst hx hb dL_law_420 ?_
  refine z_iadd hx hb dL_law_421 ?_
  refine l_sld hx hb hX hbl hS (n + 3) (by omega) (by omega) hL dL_law_422 ?_
  refine lv_aload_n hx hb dL_law_423 rfl (lv_at hl 0 rfl) ?_
  refine lv_iload_n hx hb dL_law_424 rfl (lv_at hl 3 rfl) ?_
  refine z_iconst hx hb dL_law_425 ?_
  refine z_iadd hx hb dL_law_426 ?_
  refine l_sld hx hb hX hbl hS (n + 4) (by omega) (by omega) hL dL_law_427 ?_
  refine l_mW (n := 4) (As := [.int (iI (xs (n + 1)).toInt), .int (iI (xs (n + 2)).toInt), .int (iI (xs (n + 3)).toInt), .int (iI (xs (n + 4)).toInt)]) (rest := [.int (iI (spLayer τ (xs (n + 1)).toInt (xs (n + 2)).toInt (xs (n + 3)).toInt (xs (n + 4)).toInt))]) hx hb hml hts hown hKm hW hS (c8_layer l D (cT 0) (cT 1) am τ hI.1 _ (i_r _) _ (i_r _) _ (i_r _) _ (i_r _)) gL_law_X8_layer rfl rfl rfl (by decide +kernel) ⟨by decide, by decide⟩ rfl hl.1 rfl (Nat.le_of_ble_eq_true rfl) ⟨(show cells ≤ 600000 by omega), (show slots ≤ 7302250 by omega)⟩ dL_law_428 (fun H locs hW hS => ?_)
  refine l_eq (tgt := 1177) hx hb dL_law_431 (by decide) ?_
  refine W.widen (k := cells + 10) (n := slots + 154) (by omega) (by omega) ?_
  exact kk ad _ ρ H locs rfl hI.layer hW hS
