set_option maxHeartbeats 4000000 in
set_option maxRecDepth 100000 in
theorem lb_code {p : Program} {l : Launch} {e : Env} {s : State} {m : MethodId} {below : List Frame} {meth : Method} {c : Code} {D : va_G} {cT : Nat → ClassId} {ad : Adr} {am : Nat → Nat} {τ ρ : Tau} {b L n : Nat} {xs : Nat → Int32} {H : Heap} {locs : List Loc} {cells slots : Nat} {ls : Array Slot} {Q : State → Prop} (C0 : LC p s m c D cT b L xs) (hn : n + 6 ≤ L) (hcl : cells ≤ 500000) (hsl : slots ≤ 7000000) (hl : LV ls b ad am n) (hI : IZ τ) (hW : LW D cT ad am τ τ ρ s.heap.size H) (hS : va_S (fun q : Nat => s.heap.size ≤ q) s.heap H locs) (kk : ∀ (ad2 : Adr) (τ2 ρ2 : Tau) (H2 : Heap) (locs2 : List Loc), ad2 0 0 = ad 0 0 → IZ τ2 → LW D cT ad2 am τ2 τ2 ρ2 s.heap.size H2 → va_S (fun q : Nat => s.heap.size ≤ q) s.heap H2 locs2 → W p l e room_1 s m #[Value.ref b] below meth c H2 locs2 (cells + 10) (slots + 154) Q (F0 m 1177 ls [])) : W p l e room_1 s m #[Value.ref b] below meth c H locs cells slots Q (F0 m 436 ls []) := by
  obtain ⟨hx, hb, hml, hts, hown, hX, hbl, hK, hE, hL⟩ := C0
  have hKm : va_K D vwCl (mT (cT 0) (cT 1)) s := hK.sub [0, 1] rfl
  refine lv_aload_n hx hb dL_law_436 rfl (lv_at hl 1 rfl) ?_
  refine lv_aload_n hx hb dL_law_437 rfl (lv_at hl 0 rfl) ?_
  refine lv_iload_n hx hb dL_law_438 rfl (lv_at hl 3 rfl) ?_
  refine z_iconst hx hb dL_law_439 ?_
  refine z_iadd hx hb dL_law_440 ?_
  refine l_sld hx hb hX hbl hS (n + 1) (by omega) (by omega) hL dL_law_441 ?_
  refine lv_aload_n hx hb dL_law_442 rfl (lv_at hl 0 rfl) ?_
  refine lv_iload_n hx hb dL_law_443 rfl (lv_at hl 3 rfl) ?_
  refine z_iconst hx hb dL_law_444 ?_
  refine z_iadd hx hb dL_law_445 ?_
  refine l_sld hx hb hX hbl hS (n + 2) (by omega) (by omega) hL dL_law_446 ?_
  refine l_cW (n := 2) (As := [.int (iI (xs (n + 1)).toInt), .int (iI (xs (n + 2)).toInt)]) (rest := []) hx hb hml hts hown hK hE.1 hW (fun q h => CA_stCode h) (va_recv hK (cw0 hW.1) (ci := 7) (q0 := 0) rfl rfl) hS (c7_code l D cT ad τ ρ hI.inv _ (i_r _) _ (i_r _)) gL_law_X7_code rfl rfl rfl (by decide +kernel) ⟨by decide, by decide⟩ rfl hl.1 rfl (Nat.le_of_ble_eq_true rfl) ⟨(show cells ≤ 600000 by omega), (show slots ≤ 7302250 by omega)⟩ dL_law_447 (fun ρ H locs hW hS => ?_)
  refine lv_aload_n hx hb dL_law_450 rfl (lv_at hl 2 rfl) ?_
  refine lv_aload_n hx hb dL_law_451 rfl (lv_at hl 0 rfl) ?_
  refine lv_iload_n hx hb dL_law_452 rfl (lv_at hl 3 rfl) ?_
  refine z_iconst hx hb dL_law_453 ?_
  refine z_iadd hx hb dL_law_454 ?_
  refine l_sld hx hb hX hbl hS (n + 1) (by omega) (by omega) hL dL_law_455 ?_
  refine lv_aload_n hx hb dL_law_456 rfl (lv_at hl 0 rfl) ?_
  refine lv_iload_n hx hb dL_law_457 rfl (lv_at hl 3 rfl) ?_
  refine z_iconst hx hb dL_law_458 ?_
  refine z_iadd hx hb dL_law_459 ?_
  refine l_sld hx hb hX hbl hS (n + 2) (by omega) (by omega) hL dL_law_460 ?_
  refine l_mW (n := 2) (As := [.int (iI (xs (n + 1)).toInt), .int (iI (xs (n + 2)).toInt)]) (rest := [.int (iI (spCode τ (xs (n + 1)).toInt (xs (n + 2)).toInt))]) hx hb hml hts hown hKm hW hS (c8_code l D (cT 0) (cT 1) am τ hI.1 _ (i_r _) _ (i_r _)) gL_law_X8_code rfl rfl rfl (by decide +kernel) ⟨by decide, by decide⟩ rfl hl.1 rfl (Nat.le_of_ble_eq_true rfl) ⟨(show cells ≤ 600000 by omega), (show slots ≤ 7302250 by omega)⟩ dL_law_461 (fun H locs hW hS => ?_)
  refine l_eq (tgt := 1177) hx hb dL_law_464 (by decide) ?_
  refine W.widen (k := cells + 10) (n := slots + 154) (by omega) (by omega) ?_
  exact kk ad _ ρ H locs rfl hI.code hW hS
set_option maxHeartbeats 4000000 in
set_option maxRecDepth 100000 in
theorem lb_rock {p : Program} {l : Launch} {e : Env} {s : State} {m : MethodId} {below : List Frame} {meth : Method} {c : Code} {D : va_G} {cT : Nat → ClassId} {ad : Adr} {am : Nat → Nat} {τ ρ : Tau} {b L n : Nat} {xs : Nat → Int32} {H : Heap} {locs : List Loc} {cells slots : Nat} {ls : Array Slot} {Q : State → Prop} (C0 : LC p s m c D cT b L xs) (hn : n + 6 ≤ L) (hcl : cells ≤ 500000) (hsl : slots ≤ 7000000) (hl : LV ls b ad am n) (hI : IZ τ) (hW : LW D cT ad am τ τ ρ s.heap.size H) (hS : va_S (fun q : Nat => s.heap.size ≤ q) s.heap H locs) (kk : ∀ (ad2 : Adr) (τ2 ρ2 : Tau) (H2 : Heap) (locs2 : List Loc), ad2 0 0 = ad 0 0 → IZ τ2 → LW D cT ad2 am τ2 τ2 ρ2 s.heap.size H2 → va_S (fun q : Nat => s.heap.size ≤ q) s.heap H2 locs2 → W p l e room_1 s m #[Value.ref b] below meth c H2 locs2 (cells + 10) (slots + 154) Q (F0 m 1177 ls [])) : W p l e room_1 s m #[Value.ref b] below meth c H locs cells slots Q (F0 m 469 ls []) := by
  obtain ⟨hx, hb, hml, hts, hown, hX, hbl, hK, hE, hL⟩ := C0
  have hKm : va_K D vwCl (mT (cT 0) (cT 1)) s := hK.sub [0, 1] rfl
  refine lv_aload_n hx hb dL_law_469 rfl (lv_at hl 1 rfl) ?_
  refine lv_aload_n hx hb dL_law_470 rfl (lv_at hl 0 rfl) ?_
  refine lv_iload_n hx hb dL_law_471 rfl (lv_at hl 3 rfl) ?_
  refine z_iconst hx hb dL_law_472 ?_
  refine z_iadd hx hb dL_law_473 ?_
  refine l_sld hx hb hX hbl hS (n + 1) (by omega) (by omega) hL dL_law_474 ?_
  refine lv_aload_n hx hb dL_law_475 rfl (lv_at hl 0 rfl) ?_
  refine lv_iload_n hx hb dL_law_476 rfl (lv_at hl 3 rfl) ?_
  refine z_iconst hx hb dL_law_477 ?_
  refine z_iadd hx hb dL_law_478 ?_
  refine l_sld hx hb hX hbl hS (n + 2) (by omega) (by omega) hL dL_law_479 ?_
  refine lv_aload_n hx hb dL_law_480 rfl (lv_at hl 0 rfl) ?_
  refine lv_iload_n hx hb dL_law_481 rfl (lv_at hl 3 rfl) ?_
  refine z_iconst hx hb dL_law_482 ?_
  refine z_iadd hx hb dL_law_483 ?_
  refine l_sld hx hb hX hbl hS (n + 3) (by omega) (by omega) hL dL_law_484 ?_
  refine c_call (n := 3) (As := [.int (iI (xs (n + 1)).toInt), .int (iI (xs (n + 2)).toInt), .int (iI (xs (n + 3)).toInt)]) (rest := []) hx hb hml hts hown hK hE.1 hW.1 (va_recv hK (cw0 hW.1) (ci := 7) (q0 := 0) rfl rfl) (c7_rock l D cT ad τ ρ hI.inv _ (i_r _) _ (i_r _) _ (i_r _)) gL_law_X7_rock rfl rfl rfl (by decide +kernel) ⟨by decide, by decide⟩ rfl hl.1 rfl (Nat.le_of_ble_eq_true rfl) ⟨(show cells ≤ 600000 by omega), (show slots ≤ 7302250 by omega)⟩ dL_law_485 ?_
  refine lv_aload_n hx hb dL_law_488 rfl (lv_at hl 2 rfl) ?_
  refine lv_aload_n hx hb dL_law_489 rfl (lv_at hl 0 rfl) ?_
  refine lv_iload_n hx hb dL_law_490 rfl (lv_at hl 3 rfl) ?_
  refine z_iconst hx hb dL_law_491 ?_
  refine z_iadd hx hb dL_law_492 ?_
  refine l_sld hx hb hX hbl hS (n + 1) (by omega) (by omega) hL dL_law_493 ?_
  refine lv_aload_n hx hb dL_law_494 rfl (lv_at hl 0 rfl) ?_
  refine lv_iload_n hx hb dL_law_495 rfl (lv_at hl 3 rfl) ?_
  refine z_iconst hx hb dL_law_496 ?_
  refine z_iadd hx hb dL_law_497 ?_
  refine l_sld hx hb hX hbl hS (n + 2) (by omega) (by omega) hL dL_law_498 ?_
  refine lv_aload_n hx hb dL_law_499 rfl (lv_at hl 0 rfl) ?_
  refine lv_iload_n hx hb dL_law_500 rfl (lv_at hl 3 rfl) ?_
  refine z_iconst hx hb dL_law_501 ?_
  refine z_iadd hx hb dL_law_502 ?_
  refine l_sld hx hb hX hbl hS (n + 3) (by omega) (by omega) hL dL_law_503 ?_
  refine m_call (n := 3) (As := [.int (iI (xs (n + 1)).toInt), .int (iI (xs (n + 2)).toInt), .int (iI (xs (n + 3)).toInt)]) (rest := [.int (iI (spRock τ (xs (n + 1)).toInt (xs (n + 2)).toInt (xs (n + 3)).toInt))]) hx hb hml hts hown hKm hW.2.1 (c8_rock l D (cT 0) (cT 1) am τ hI.1 _ (i_r _) _ (i_r _) _ (i_r _)) gL_law_X8_rock rfl rfl rfl (by decide +kernel) ⟨by decide, by decide⟩ rfl hl.1 rfl (Nat.le_of_ble_eq_true rfl) ⟨(show cells ≤ 600000 by omega), (show slots ≤ 7302250 by omega)⟩ dL_law_504 ?_
  refine l_eq (tgt := 1177) hx hb dL_law_507 (by decide) ?_
  refine W.widen (k := cells + 10) (n := slots + 154) (by omega) (by omega) ?_
  exact kk ad _ ρ H locs rfl hI hW hS
set_option maxHeartbeats 4000000 in
set_option maxRecDepth 100000 in
theorem lb_agree {p : Program} {l : Launch} {e : Env} {s : State} {m : MethodId} {below : List Frame} {meth : Method} {c : Code} {D : va_G} {cT : Nat → ClassId} {ad : Adr} {am : Nat → Nat} {τ ρ : Tau} {b L n : Nat} {xs : Nat → Int32} {H : Heap} {locs : List Loc} {cells slots : Nat} {ls : Array Slot} {Q : State → Prop} (C0 : LC p s m c D cT b L xs) (hn : n + 6 ≤ L) (hcl : cells ≤ 500000) (hsl : slots ≤ 7000000) (hl : LV ls b ad am n) (hI : IZ τ) (hW : LW D cT ad am τ τ ρ s.heap.size H) (hS : va_S (fun q : Nat => s.heap.size ≤ q) s.heap H locs) (kk : ∀ (ad2 : Adr) (τ2 ρ2 : Tau) (H2 : Heap) (locs2 : List Loc), ad2 0 0 = ad 0 0 → IZ τ2 → LW D cT ad2 am τ2 τ2 ρ2 s.heap.size H2 → va_S (fun q : Nat => s.heap.size ≤ q) s.heap H2 locs2 → W p l e room_1 s m #[Value.ref b] below meth c H2 locs2 (cells + 10) (slots + 154) Q (F0 m 1177 ls [])) : W p l e room_1 s m #[Value.ref b] below meth c H locs cells slots Q (F0 m 512 ls []) := by
  obtain ⟨hx, hb, hml, hts, hown, hX, hbl, hK, hE, hL⟩ := C0
  have hKm : va_K D vwCl (mT (cT 0) (cT 1)) s := hK.sub [0, 1] rfl
  refine lv_aload_n hx hb dL_law_512 rfl (lv_at hl 1 rfl) ?_
  refine lv_aload_n hx hb dL_law_513 rfl (lv_at hl 0 rfl) ?_
  refine lv_iload_n hx hb dL_law_514 rfl (lv_at hl 3 rfl) ?_
  refine z_iconst hx hb dL_law_515 ?_
  refine z_iadd hx hb dL_law_516 ?_
  refine l_sld hx hb hX hbl hS (n + 1) (by omega) (by omega) hL dL_law_517 ?_
  refine c_call (n := 1) (As := [.int (iI (xs (n + 1)).toInt)]) (rest := []) hx hb hml hts hown hK hE.1 hW.1 (va_recv hK (cw0 hW.1) (ci := 7) (q0 := 0) rfl rfl) (c7_agree l D cT ad τ ρ hI.inv _ (i_r _)) gL_law_X7_agree rfl rfl rfl (by decide +kernel) ⟨by decide, by decide⟩ rfl hl.1 rfl (Nat.le_of_ble_eq_true rfl) ⟨(show cells ≤ 600000 by omega), (show slots ≤ 7302250 by omega)⟩ dL_law_518 ?_
  refine lv_aload_n hx hb dL_law_521 rfl (lv_at hl 2 rfl) ?_
  refine lv_aload_n hx hb dL_law_522 rfl (lv_at hl 0 rfl) ?_
  refine lv_iload_n hx hb dL_law_523 rfl (lv_at hl 3 rfl) ?_
  refine z_iconst hx hb dL_law_524 ?_
  refine z_iadd hx hb dL_law_525 ?_
  refine l_sld hx hb hX hbl hS (n + 1) (by omega) (by omega) hL dL_law_526 ?_
  refine m_call (n := 1) (As := [.int (iI (xs (n + 1)).toInt)]) (rest := [.int (iI (spAgree τ (xs (n + 1)).toInt))]) hx hb hml hts hown hKm hW.2.1 (c8_agree l D (cT 0) (cT 1) am τ hI.1 _ (i_r _)) gL_law_X8_agree rfl rfl rfl (by decide +kernel) ⟨by decide, by decide⟩ rfl hl.1 rfl (Nat.le_of_ble_eq_true rfl) ⟨(show cells ≤ 600000 by omega), (show slots ≤ 7302250 by omega)⟩ dL_law_527 ?_
  refine l_eq (tgt := 1177) hx hb dL_law_530 (by decide) ?_
  refine W.widen (k := cells + 10) (n := slots + 154) (by omega) (by omega) ?_
  exact kk ad _ ρ H locs rfl hI hW hS
set_option maxHeartbeats 4000000 in
set_option maxRecDepth 100000 in
theorem lb_sample {p : Program} {l : Launch} {e : Env} {s : State} {m : MethodId} {below : List Frame} {meth : Method} {c : Code} {D : va_G} {cT : Nat → ClassId} {ad : Adr} {am : Nat → Nat} {τ ρ : Tau} {b L n : Nat} {xs : Nat → Int32} {H : Heap} {locs : List Loc} {cells slots : Nat} {ls : Array Slot} {Q : State → Prop} (C0 : LC p s m c D cT b L xs) (hn : n + 6 ≤ L) (hcl : cells ≤ 500000) (hsl : slots ≤ 7000000) (hl : LV ls b ad am n) (hI : IZ τ) (hW : LW D cT ad am τ τ ρ s.heap.size H) (hS : va_S (fun q : Nat => s.heap.size ≤ q) s.heap H locs) (kk : ∀ (ad2 : Adr) (τ2 ρ2 : Tau) (H2 : Heap) (locs2 : List Loc), ad2 0 0 = ad 0 0 → IZ τ2 → LW D cT ad2 am τ2 τ2 ρ2 s.heap.size H2 → va_S (fun q : Nat => s.heap.size ≤ q) s.heap H2 locs2 → W p l e room_1 s m #[Value.ref b] below meth c H2 locs2 (cells + 10) (slots + 154) Q (F0 m 1177 ls [])) : W p l e room_1 s m #[Value.ref b] below meth c H locs cells slots Q (F0 m 535 ls []) := by
  obtain ⟨hx, hb, hml, hts, hown, hX, hbl, hK, hE, hL⟩ := C0
  have hKm : va_K D vwCl (mT (cT 0) (cT 1)) s := hK.sub [0, 1] rfl
  refine lv_aload_n hx hb dL_law_535 rfl (lv_at hl 1 rfl) ?_
  refine lv_aload_n hx hb dL_law_536 rfl (lv_at hl 0 rfl) ?_
  refine lv_iload_n hx hb dL_law_537 rfl (lv_at hl 3 rfl) ?_
  refine z_iconst hx hb dL_law_538 ?_
  refine z_iadd hx hb dL_law_539 ?_
  refine l_sld hx hb hX hbl hS (n + 1) (by omega) (by omega) hL dL_law_540 ?_
  refine lv_aload_n hx hb dL_law_541 rfl (lv_at hl 0 rfl) ?_
  refine lv_iload_n hx hb dL_law_542 rfl (lv_at hl 3 rfl) ?_
  refine z_iconst hx hb dL_law_543 ?_
  refine z_iadd hx hb dL_law_544 ?_
  refine l_sld hx hb hX hbl hS (n + 2) (by omega) (by omega) hL dL_law_545 ?_
  refine lv_aload_n hx hb dL_law_546 rfl (lv_at hl 0 rfl) ?_
  refine lv_iload_n hx hb dL_law_547 rfl (lv_at hl 3 rfl) ?_
  refine z_iconst hx hb dL_law_548 ?_
  refine z_iadd hx hb dL_law_549 ?_
  refine l_sld hx hb hX hbl hS (n + 3) (by omega) (by omega) hL dL_law_550 ?_
  refine l_cN (n := 3) (As := [.int (iI (xs (n + 1)).toInt), .int (iI (xs (n + 2)).toInt), .int (iI (xs (n + 3)).toInt)]) (rest := []) hx hb hml hts hown hK hE hW (va_recv hK (cw0 hW.1) (ci := 7) (q0 := 0) rfl rfl) hS (c7_sample l D cT ad τ ρ H.size hI.inv hI.zer _ (i_r _) _ (i_r _) _ (i_r _)) gL_law_X7_sample rfl rfl rfl (by decide +kernel) ⟨by decide, by decide⟩ rfl hl.1 rfl (Nat.le_of_ble_eq_true rfl) ⟨(show cells + 1 ≤ 600000 by omega), (show slots + 4 ≤ 7302250 by omega)⟩ dL_law_551 (fun ad2 H locs e0 hW hS => ?_)
  refine lv_aload_n hx hb dL_law_554 rfl (lv_at hl 2 rfl) ?_
  refine lv_aload_n hx hb dL_law_555 rfl (lv_at hl 0 rfl) ?_
  refine lv_iload_n hx hb dL_law_556 rfl (lv_at hl 3 rfl) ?_
  refine z_iconst hx hb dL_law_557 ?_
  refine z_iadd hx hb dL_law_558 ?_
  refine l_sld hx hb hX hbl hS (n + 1) (by omega) (by omega) hL dL_law_559 ?_
  refine lv_aload_n hx hb dL_law_560 rfl (lv_at hl 0 rfl) ?_
  refine lv_iload_n hx hb dL_law_561 rfl (lv_at hl 3 rfl) ?_
  refine z_iconst hx hb dL_law_562 ?_
  refine z_iadd hx hb dL_law_563 ?_
  refine l_sld hx hb hX hbl hS (n + 2) (by omega) (by omega) hL dL_law_564 ?_
  refine lv_aload_n hx hb dL_law_565 rfl (lv_at hl 0 rfl) ?_
  refine lv_iload_n hx hb dL_law_566 rfl (lv_at hl 3 rfl) ?_
  refine z_iconst hx hb dL_law_567 ?_
  refine z_iadd hx hb dL_law_568 ?_
  refine l_sld hx hb hX hbl hS (n + 3) (by omega) (by omega) hL dL_law_569 ?_
  refine l_mW (n := 3) (As := [.int (iI (xs (n + 1)).toInt), .int (iI (xs (n + 2)).toInt), .int (iI (xs (n + 3)).toInt)]) (rest := [.int (iI (spSam τ (xs (n + 1)).toInt (xs (n + 2)).toInt (xs (n + 3)).toInt))]) hx hb hml hts hown hKm hW hS (c8_sample l D (cT 0) (cT 1) am τ hI.1 _ (i_r _) _ (i_r _) _ (i_r _)) gL_law_X8_sample rfl rfl rfl (by decide +kernel) ⟨by decide, by decide⟩ rfl hl.1 rfl (Nat.le_of_ble_eq_true rfl) ⟨(show cells + 1 ≤ 600000 by omega), (show slots + 4 ≤ 7302250 by omega)⟩ dL_law_570 (fun H locs hW hS => ?_)
  refine l_eq (tgt := 1177) hx hb dL_law_573 (by decide) ?_
  refine W.widen (k := cells + 10) (n := slots + 154) (by omega) (by omega) ?_
  exact kk ad2 _ ρ H locs e0 hI.sample hW hS
set_option maxHeartbeats 4000000 in
set_option maxRecDepth 100000 in
theorem lb_left {p : Program} {l : Launch} {e : Env} {s : State} {m : MethodId} {below : List Frame} {meth : Method} {c : Code} {D : va_G} {cT : Nat → ClassId} {ad : Adr} {am : Nat → Nat} {τ ρ : Tau} {b L n : Nat} {xs : Nat → Int32} {H : Heap} {locs : List Loc} {cells slots : Nat} {ls : Array Slot} {Q : State → Prop} (C0 : LC p s m c D cT b L xs) (hn : n + 6 ≤ L) (hcl : cells ≤ 500000) (hsl : slots ≤ 7000000) (hl : LV ls b ad am n) (hI : IZ τ) (hW : LW D cT ad am τ τ ρ s.heap.size H) (hS : va_S (fun q : Nat => s.heap.size ≤ q) s.heap H locs) (kk : ∀ (ad2 : Adr) (τ2 ρ2 : Tau) (H2 : Heap) (locs2 : List Loc), ad2 0 0 = ad 0 0 → IZ τ2 → LW D cT ad2 am τ2 τ2 ρ2 s.heap.size H2 → va_S (fun q : Nat => s.heap.size ≤ q) s.heap H2 locs2 → W p l e room_1 s m #[Value.ref b] below meth c H2 locs2 (cells + 10) (slots + 154) Q (F0 m 1177 ls [])) : W p l e room_1 s m #[Value.ref b] below meth c H locs cells slots Q (F0 m 578 ls []) := by
  obtain ⟨hx, hb, hml, hts, hown, hX, hbl, hK, hE, hL⟩ := C0
  have hKm : va_K D vwCl (mT (cT 0) (cT 1)) s := hK.sub [0, 1] rfl
  refine lv_aload_n hx hb dL_law_578 rfl (lv_at hl 1 rfl) ?_
  refine lv_aload_n hx hb dL_law_579 rfl (lv_at hl 0 rfl) ?_
  refine lv_iload_n hx hb dL_law_580 rfl (lv_at hl 3 rfl) ?_
  refine z_iconst hx hb dL_law_581 ?_
  refine z_iadd hx hb dL_law_582 ?_
  refine l_sld hx hb hX hbl hS (n + 1) (by omega) (by omega) hL dL_law_583 ?_
  refine c_call (n := 1) (As := [.int (iI (xs (n + 1)).toInt)]) (rest := []) hx hb hml hts hown hK hE.1 hW.1 (va_recv hK (cw0 hW.1) (ci := 7) (q0 := 0) rfl rfl) (c7_left l D cT ad τ ρ hI.inv _ (i_r _)) gL_law_X7_left rfl rfl rfl (by decide +kernel) ⟨by decide, by decide⟩ rfl hl.1 rfl (Nat.le_of_ble_eq_true rfl) ⟨(show cells ≤ 600000 by omega), (show slots ≤ 7302250 by omega)⟩ dL_law_584 ?_
  refine lv_aload_n hx hb dL_law_587 rfl (lv_at hl 2 rfl) ?_
  refine lv_aload_n hx hb dL_law_588 rfl (lv_at hl 0 rfl) ?_
  refine lv_iload_n hx hb dL_law_589 rfl (lv_at hl 3 rfl) ?_
  refine z_iconst hx hb dL_law_590 ?_
  refine z_iadd hx hb dL_law_591 ?_
  refine l_sld hx hb hX hbl hS (n + 1) (by omega) (by omega) hL dL_law_592 ?_
  refine m_call (n := 1) (As := [.int (iI (xs (n + 1)).toInt)]) (rest := [.int (iI (spLeft τ (xs (n + 1)).toInt))]) hx hb hml hts hown hKm hW.2.1 (c8_left l D (cT 0) (cT 1) am τ hI.1 _ (i_r _)) gL_law_X8_left rfl rfl rfl (by decide +kernel) ⟨by decide, by decide⟩ rfl hl.1 rfl (Nat.le_of_ble_eq_true rfl) ⟨(show cells ≤ 600000 by omega), (show slots ≤ 7302250 by omega)⟩ dL_law_593 ?_
  refine l_eq (tgt := 1177) hx hb dL_law_596 (by decide) ?_
  refine W.widen (k := cells + 10) (n := slots + 154) (by omega) (by omega) ?_
  exact kk ad _ ρ H locs rfl hI hW hS
set_option maxHeartbeats 4000000 in
set_option maxRecDepth 100000 in
theorem lb_batch {p : Program} {l : Launch} {e : Env} {s : State} {m : MethodId} {below : List Frame} {meth : Method} {c : Code} {D : va_G} {cT : Nat → ClassId} {ad : Adr} {am : Nat → Nat} {τ ρ : Tau} {b L n : Nat} {xs : Nat → Int32} {H : Heap} {locs : List Loc} {cells slots : Nat} {ls : Array Slot} {Q : State → Prop} (C0 : LC p s m c D cT b L xs) (hn : n + 6 ≤ L) (hcl : cells ≤ 500000) (hsl : slots ≤ 7000000) (hl : LV ls b ad am n) (hI : IZ τ) (hW : LW D cT ad am τ τ ρ s.heap.size H) (hS : va_S (fun q : Nat => s.heap.size ≤ q) s.heap H locs) (kk : ∀ (ad2 : Adr) (τ2 ρ2 : Tau) (H2 : Heap) (locs2 : List Loc), ad2 0 0 = ad 0 0 → IZ τ2 → LW D cT ad2 am τ2 τ2 ρ2 s.heap.size H2 → va_S (fun q : Nat => s.heap.size ≤ q) s.heap H2 locs2 → W p l e room_1 s m #[Value.ref b] below meth c H2 locs2 (cells + 10) (slots + 154) Q (F0 m 1177 ls [])) : W p l e room_1 s m #[Value.ref b] below meth c H locs cells slots Q (F0 m 601 ls []) := by
  obtain ⟨hx, hb, hml, hts, hown, hX, hbl, hK, hE, hL⟩ := C0
  have hKm : va_K D vwCl (mT (cT 0) (cT 1)) s := hK.sub [0, 1] rfl
  refine lv_aload_n hx hb dL_law_601 rfl (lv_at hl 1 rfl) ?_
  refine l_cN (n := 0) (As := []) (rest := []) hx hb hml hts hown hK hE hW (va_recv hK (cw0 hW.1) (ci := 7) (q0 := 0) rfl rfl) hS (c7_batch l D cT ad τ ρ H.size hI.inv hI.zer ) gL_law_X7_batch rfl rfl rfl (by decide +kernel) ⟨by decide, by decide⟩ rfl hl.1 rfl (Nat.le_of_ble_eq_true rfl) ⟨(show cells + 2 ≤ 600000 by omega), (show slots + 18 ≤ 7302250 by omega)⟩ dL_law_602 (fun ad2 H locs e0 hW hS => ?_)
  refine lv_aload_n hx hb dL_law_605 rfl (lv_at hl 2 rfl) ?_
  refine l_mW (n := 0) (As := []) (rest := [.int (iI (spBatch τ))]) hx hb hml hts hown hKm hW hS (c8_batch l D (cT 0) (cT 1) am τ hI.1 ) gL_law_X8_batch rfl rfl rfl (by decide +kernel) ⟨by decide, by decide⟩ rfl hl.1 rfl (Nat.le_of_ble_eq_true rfl) ⟨(show cells + 2 ≤ 600000 by omega), (show slots + 18 ≤ 7302250 by omega)⟩ dL_law_606 (fun H locs hW hS => ?_)
  refine l_eq (tgt := 1177) hx hb dL_law_609 (by decide) ?_
  refine W.widen (k := cells + 10) (n := slots + 154) (by omega) (by omega) ?_
  exact kk ad2 _ ρ H locs e0 hI.batch hW hS
set_option maxHeartbeats 4000000 in
set_option maxRecDepth 100000 in
theorem lb_put {p : Program} {l : Launch} {e : Env} {s : State} {m : MethodId} {below : List Frame} {meth : Method} {c : Code} {D : va_G} {cT : Nat → ClassId} {ad : Adr} {am : Nat → Nat} {τ ρ : Tau} {b L n : Nat} {xs : Nat → Int32} {H : Heap} {locs : List Loc} {cells slots : Nat} {ls : Array Slot} {Q : State → Prop} (C0 : LC p s m c D cT b L xs) (hn : n + 6 ≤ L) (hcl : cells ≤ 500000) (hsl : slots ≤ 7000000) (hl : LV ls b ad am n) (hI : IZ τ) (hW : LW D cT ad am τ τ ρ s.heap.size H) (hS : va_S (fun q : Nat => s.heap.size ≤ q) s.heap H locs) (kk : ∀ (ad2 : Adr) (τ2 ρ2 : Tau) (H2 : Heap) (locs2 : List Loc), ad2 0 0 = ad 0 0 → IZ τ2 → LW D cT ad2 am τ2 τ2 ρ2 s.heap.size H2 → va_S (fun q : Nat => s.heap.size ≤ q) s.heap H2 locs2 → W p l e room_1 s m #[Value.ref b] below meth c H2 locs2 (cells + 10) (slots + 154) Q (F0 m 1177 ls [])) : W p l e room_1 s m #[Value.ref b] below meth c H locs cells slots Q (F0 m 614 ls []) := by
  obtain ⟨hx, hb, hml, hts, hown, hX, hbl, hK, hE, hL⟩ := C0
  have hKm : va_K D vwCl (mT (cT 0) (cT 1)) s := hK.sub [0, 1] rfl
  refine lv_aload_n hx hb dL_law_614 rfl (lv_at hl 1 rfl) ?_
  refine lv_aload_n hx hb dL_law_615 rfl (lv_at hl 0 rfl) ?_
  refine lv_iload_n hx hb dL_law_616 rfl (lv_at hl 3 rfl) ?_
  refine z_iconst hx hb dL_law_617 ?_
  refine z_iadd hx hb dL_law_618 ?_
  refine l_sld hx hb hX hbl hS (n + 1) (by omega) (by omega) hL dL_law_619 ?_
  refine lv_aload_n hx hb dL_law_620 rfl (lv_at hl 0 rfl) ?_
  refine lv_iload_n hx hb dL_law_621 rfl (lv_at hl 3 rfl) ?_
  refine z_iconst hx hb dL_law_622 ?_
  refine z_iadd hx hb dL_law_623 ?_
  refine l_sld hx hb hX hbl hS (n + 2) (by omega) (by omega) hL dL_law_624 ?_
  refine l_cN (n := 2) (As := [.int (iI (xs (n + 1)).toInt), .int (iI (xs (n + 2)).toInt)]) (rest := []) hx hb hml hts hown hK hE hW (va_recv hK (cw0 hW.1) (ci := 7) (q0 := 0) rfl rfl) hS (c7_put l D cT ad τ ρ H.size hI.inv hI.zer _ (i_r _) _ (i_r _)) gL_law_X7_put rfl rfl rfl (by decide +kernel) ⟨by decide, by decide⟩ rfl hl.1 rfl (Nat.le_of_ble_eq_true rfl) ⟨(show cells + 1 ≤ 600000 by omega), (show slots + 5 ≤ 7302250 by omega)⟩ dL_law_625 (fun ad2 H locs e0 hW hS => ?_)
  refine lv_aload_n hx hb dL_law_628 rfl (lv_at hl 2 rfl) ?_
  refine lv_aload_n hx hb dL_law_629 rfl (lv_at hl 0 rfl) ?_
  refine lv_iload_n hx hb dL_law_630 rfl (lv_at hl 3 rfl) ?_
  refine z_iconst hx hb dL_law_631 ?_
  refine z_iadd hx hb dL_law_632 ?_
  refine l_sld hx hb hX hbl hS (n + 1) (by omega) (by omega) hL dL_law_633 ?_
  refine lv_aload_n hx hb dL_law_634 rfl (lv_at hl 0 rfl) ?_
  refine lv_iload_n hx hb dL_law_635 rfl (lv_at hl 3 rfl) ?_
  refine z_iconst hx hb dL_law_636 ?_
  refine z_iadd hx hb dL_law_637 ?_
  refine l_sld hx hb hX hbl hS (n + 2) (by omega) (by omega) hL dL_law_638 ?_
  refine l_mW (n := 2) (As := [.int (iI (xs (n + 1)).toInt), .int (iI (xs (n + 2)).toInt)]) (rest := [.int (iI (spPut τ (xs (n + 1)).toInt (xs (n + 2)).toInt))]) hx hb hml hts hown hKm hW hS (c8_put l D (cT 0) (cT 1) am τ hI.inv _ (i_r _) _ (i_r _)) gL_law_X8_put rfl rfl rfl (by decide +kernel) ⟨by decide, by decide⟩ rfl hl.1 rfl (Nat.le_of_ble_eq_true rfl) ⟨(show cells + 1 ≤ 600000 by omega), (show slots + 5 ≤ 7302250 by omega)⟩ dL_law_639 (fun H locs hW hS => ?_)
  refine l_eq (tgt := 1177) hx hb dL_law_642 (by decide) ?_
  refine W.widen (k := cells + 10) (n := slots + 154) (by omega) (by omega) ?_
  exact kk ad2 _ ρ H locs e0 hI.put hW hS
set_option maxHeartbeats 4000000 in
set_option maxRecDepth 100000 in
theorem lb_standard {p : Program} {l : Launch} {e : Env} {s : State} {m : MethodId} {below : List Frame} {meth : Method} {c : Code} {D : va_G} {cT : Nat → ClassId} {ad : Adr} {am : Nat → Nat} {τ ρ : Tau} {b L n : Nat} {xs : Nat → Int32} {H : Heap} {locs : List Loc} {cells slots : Nat} {ls : Array Slot} {Q : State → Prop} (C0 : LC p s m c D cT b L xs) (hn : n + 6 ≤ L) (hcl : cells ≤ 500000) (hsl : slots ≤ 7000000) (hl : LV ls b ad am n) (hI : IZ τ) (hW : LW D cT ad am τ τ ρ s.heap.size H) (hS : va_S (fun q : Nat => s.heap.size ≤ q) s.heap H locs) (kk : ∀ (ad2 : Adr) (τ2 ρ2 : Tau) (H2 : Heap) (locs2 : List Loc), ad2 0 0 = ad 0 0 → IZ τ2 → LW D cT ad2 am τ2 τ2 ρ2 s.heap.size H2 → va_S (fun q : Nat => s.heap.size ≤ q) s.heap H2 locs2 → W p l e room_1 s m #[Value.ref b] below meth c H2 locs2 (cells + 10) (slots + 154) Q (F0 m 1177 ls [])) : W p l e room_1 s m #[Value.ref b] below meth c H locs cells slots Q (F0 m 647 ls []) := by
  obtain ⟨hx, hb, hml, hts, hown, hX, hbl, hK, hE, hL⟩ := C0
  have hKm : va_K D vwCl (mT (cT 0) (cT 1)) s := hK.sub [0, 1] rfl
  refine lv_aload_n hx hb dL_law_647 rfl (lv_at hl 1 rfl) ?_
  refine lv_aload_n hx hb dL_law_648 rfl (lv_at hl 0 rfl) ?_
  refine lv_iload_n hx hb dL_law_649 rfl (lv_at hl 3 rfl) ?_
  refine z_iconst hx hb dL_law_650 ?_
  refine z_iadd hx hb dL_law_651 ?_
  refine l_sld hx hb hX hbl hS (n + 1) (by omega) (by omega) hL dL_law_652 ?_
  refine lv_aload_n hx hb dL_law_653 rfl (lv_at hl 0 rfl) ?_
  refine lv_iload_n hx hb dL_law_654 rfl (lv_at hl 3 rfl) ?_
  refine z_iconst hx hb dL_law_655 ?_
  refine z_iadd hx hb dL_law_656 ?_
  refine l_sld hx hb hX hbl hS (n + 2) (by omega) (by omega) hL dL_law_657 ?_
  refine lv_aload_n hx hb dL_law_658 rfl (lv_at hl 0 rfl) ?_
  refine lv_iload_n hx hb dL_law_659 rfl (lv_at hl 3 rfl) ?_
  refine z_iconst hx hb dL_law_660 ?_
  refine z_iadd hx hb dL_law_661 ?_
  refine l_sld hx hb hX hbl hS (n + 3) (by omega) (by omega) hL dL_law_662 ?_
  refine l_cN (n := 3) (As := [.int (iI (xs (n + 1)).toInt), .int (iI (xs (n + 2)).toInt), .int (iI (xs (n + 3)).toInt)]) (rest := []) hx hb hml hts hown hK hE hW (va_recv hK (cw0 hW.1) (ci := 7) (q0 := 0) rfl rfl) hS (c7_standard l D cT ad τ ρ H.size hI.inv hI.zer _ (i_r _) _ (i_r _) _ (i_r _)) gL_law_X7_standard rfl rfl rfl (by decide +kernel) ⟨by decide, by decide⟩ rfl hl.1 rfl (Nat.le_of_ble_eq_true rfl) ⟨(show cells + 1 ≤ 600000 by omega), (show slots + 5 ≤ 7302250 by omega)⟩ dL_law_663 (fun ad2 H locs e0 hW hS => ?_)
  refine lv_aload_n hx hb dL_law_666 rfl (lv_at hl 2 rfl) ?_
  refine lv_aload_n hx hb dL_law_667 rfl (lv_at hl 0 rfl) ?_
  refine lv_iload_n hx hb dL_law_668 rfl (lv_at hl 3 rfl) ?_
  refine z_iconst hx hb dL_law_669 ?_
  refine z_iadd hx hb dL_law_670 ?_
  refine l_sld hx hb hX hbl hS (n + 1) (by omega) (by omega) hL dL_law_671 ?_
  refine lv_aload_n hx hb dL_law_672 rfl (lv_at hl 0 rfl) ?_
  refine lv_iload_n hx hb dL_law_673 rfl (lv_at hl 3 rfl) ?_
  refine z_iconst hx hb dL_law_674 ?_
  refine z_iadd hx hb dL_law_675 ?_
  refine l_sld hx hb hX hbl hS (n + 2) (by omega) (by omega) hL dL_law_676 ?_
  refine lv_aload_n hx hb dL_law_677 rfl (lv_at hl 0 rfl) ?_
  refine lv_iload_n hx hb dL_law_678 rfl (lv_at hl 3 rfl) ?_
  refine z_iconst hx hb dL_law_679 ?_
  refine z_iadd hx hb dL_law_680 ?_
  refine l_sld hx hb hX hbl hS (n + 3) (by omega) (by omega) hL dL_law_681 ?_
  refine l_mW (n := 3) (As := [.int (iI (xs (n + 1)).toInt), .int (iI (xs (n + 2)).toInt), .int (iI (xs (n + 3)).toInt)]) (rest := [.int (iI (spStd τ (xs (n + 1)).toInt (xs (n + 2)).toInt (xs (n + 3)).toInt))]) hx hb hml hts hown hKm hW hS (c8_standard l D (cT 0) (cT 1) am τ hI.1 _ (i_r _) _ (i_r _) _ (i_r _)) gL_law_X8_standard rfl rfl rfl (by decide +kernel) ⟨by decide, by decide⟩ rfl hl.1 rfl (Nat.le_of_ble_eq_true rfl) ⟨(show cells + 1 ≤ 600000 by omega), (show slots + 5 ≤ 7302250 by omega)⟩ dL_law_682 (fun H locs hW hS => ?_)
  refine l_eq (tgt := 1177) hx hb dL_law_685 (by decide) ?_
  refine W.widen (k := cells + 10) (n := slots + 154) (by omega) (by omega) ?_
  exact kk ad2 _ ρ H locs e0 hI.standard hW hS
