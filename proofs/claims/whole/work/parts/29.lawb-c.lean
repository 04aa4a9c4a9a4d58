set_option maxHeartbeats 4000000 in
set_option maxRecDepth 100000 in
theorem lb_blank {p : Program} {l : Launch} {e : Env} {s : State} {m : MethodId} {below : List Frame} {meth : Method} {c : Code} {D : va_G} {cT : Nat → ClassId} {ad : Adr} {am : Nat → Nat} {τ ρ : Tau} {b L n : Nat} {xs : Nat → Int32} {H : Heap} {locs : List Loc} {cells slots : Nat} {ls : Array Slot} {Q : State → Prop} (C0 : LC p s m c D cT b L xs) (hn : n + 6 ≤ L) (hcl : cells ≤ 500000) (hsl : slots ≤ 7000000) (hl : LV ls b ad am n) (hI : IZ τ) (hW : LW D cT ad am τ τ ρ s.heap.size H) (hS : va_S (fun q : Nat => s.heap.size ≤ q) s.heap H locs) (kk : ∀ (ad2 : Adr) (τ2 ρ2 : Tau) (H2 : Heap) (locs2 : List Loc), ad2 0 0 = ad 0 0 → IZ τ2 → LW D cT ad2 am τ2 τ2 ρ2 s.heap.size H2 → va_S (fun q : Nat => s.heap.size ≤ q) s.heap H2 locs2 → W p l e room_1 s m #[Value.ref b] below meth c H2 locs2 (cells + 10) (slots + 154) Q (F0 m 1177 ls [])) : W p l e room_1 s m #[Value.ref b] below meth c H locs cells slots Q (F0 m 690 ls []) := by
  obtain ⟨hx, hb, hml, hts, hown, hX, hbl, hK, hE, hL⟩ := C0
  have hKm : va_K D vwCl (mT (cT 0) (cT 1)) s := hK.sub [0, 1] rfl
  refine lv_aload_n hx hb dL_law_690 rfl (lv_at hl 1 rfl) ?_
  refine lv_aload_n hx hb dL_law_691 rfl (lv_at hl 0 rfl) ?_
  refine lv_iload_n hx hb dL_law_692 rfl (lv_at hl 3 rfl) ?_
  refine z_iconst hx hb dL_law_693 ?_
  refine z_iadd hx hb dL_law_694 ?_
  refine l_sld hx hb hX hbl hS (n + 1) (by omega) (by omega) hL dL_law_695 ?_
  refine l_cN (n := 1) (As := [.int (iI (xs (n + 1)).toInt)]) (rest := []) hx hb hml hts hown hK hE hW (va_recv hK (cw0 hW.1) (ci := 7) (q0 := 0) rfl rfl) hS (c7_blank l D cT ad τ ρ H.size hI.inv hI.zer _ (i_r _)) gL_law_X7_blank rfl rfl rfl (by decide +kernel) ⟨by decide, by decide⟩ rfl hl.1 rfl (Nat.le_of_ble_eq_true rfl) ⟨(show cells + 1 ≤ 600000 by omega), (show slots + 5 ≤ 7302250 by omega)⟩ dL_law_696 (fun ad2 H locs e0 hW hS => ?_)
  refine lv_aload_n hx hb dL_law_699 rfl (lv_at hl 2 rfl) ?_
  refine lv_aload_n hx hb dL_law_700 rfl (lv_at hl 0 rfl) ?_
  refine lv_iload_n hx hb dL_law_701 rfl (lv_at hl 3 rfl) ?_
  refine z_iconst hx hb dL_law_702 ?_
  refine z_iadd hx hb dL_law_703 ?_
  refine l_sld hx hb hX hbl hS (n + 1) (by omega) (by omega) hL dL_law_704 ?_
  refine l_mW (n := 1) (As := [.int (iI (xs (n + 1)).toInt)]) (rest := [.int (iI (spBlank τ (xs (n + 1)).toInt))]) hx hb hml hts hown hKm hW hS (c8_blank l D (cT 0) (cT 1) am τ hI.1 _ (i_r _)) gL_law_X8_blank rfl rfl rfl (by decide +kernel) ⟨by decide, by decide⟩ rfl hl.1 rfl (Nat.le_of_ble_eq_true rfl) ⟨(show cells + 1 ≤ 600000 by omega), (show slots + 5 ≤ 7302250 by omega)⟩ dL_law_705 (fun H locs hW hS => ?_)
  refine l_eq (tgt := 1177) hx hb dL_law_708 (by decide) ?_
  refine W.widen (k := cells + 10) (n := slots + 154) (by omega) (by omega) ?_
  exact kk ad2 _ ρ H locs e0 hI.blank hW hS
set_option maxHeartbeats 4000000 in
set_option maxRecDepth 100000 in
theorem lb_twice {p : Program} {l : Launch} {e : Env} {s : State} {m : MethodId} {below : List Frame} {meth : Method} {c : Code} {D : va_G} {cT : Nat → ClassId} {ad : Adr} {am : Nat → Nat} {τ ρ : Tau} {b L n : Nat} {xs : Nat → Int32} {H : Heap} {locs : List Loc} {cells slots : Nat} {ls : Array Slot} {Q : State → Prop} (C0 : LC p s m c D cT b L xs) (hn : n + 6 ≤ L) (hcl : cells ≤ 500000) (hsl : slots ≤ 7000000) (hl : LV ls b ad am n) (hI : IZ τ) (hW : LW D cT ad am τ τ ρ s.heap.size H) (hS : va_S (fun q : Nat => s.heap.size ≤ q) s.heap H locs) (kk : ∀ (ad2 : Adr) (τ2 ρ2 : Tau) (H2 : Heap) (locs2 : List Loc), ad2 0 0 = ad 0 0 → IZ τ2 → LW D cT ad2 am τ2 τ2 ρ2 s.heap.size H2 → va_S (fun q : Nat => s.heap.size ≤ q) s.heap H2 locs2 → W p l e room_1 s m #[Value.ref b] below meth c H2 locs2 (cells + 10) (slots + 154) Q (F0 m 1177 ls [])) : W p l e room_1 s m #[Value.ref b] below meth c H locs cells slots Q (F0 m 713 ls []) := by
  obtain ⟨hx, hb, hml, hts, hown, hX, hbl, hK, hE, hL⟩ := C0
  have hKm : va_K D vwCl (mT (cT 0) (cT 1)) s := hK.sub [0, 1] rfl
  refine lv_aload_n hx hb dL_law_713 rfl (lv_at hl 1 rfl) ?_
  refine lv_aload_n hx hb dL_law_714 rfl (lv_at hl 0 rfl) ?_
  refine lv_iload_n hx hb dL_law_715 rfl (lv_at hl 3 rfl) ?_
  refine z_iconst hx hb dL_law_716 ?_
  refine z_iadd hx hb dL_law_717 ?_
  refine l_sld hx hb hX hbl hS (n + 1) (by omega) (by omega) hL dL_law_718 ?_
  refine lv_aload_n hx hb dL_law_719 rfl (lv_at hl 0 rfl) ?_
  refine lv_iload_n hx hb dL_law_720 rfl (lv_at hl 3 rfl) ?_
  refine z_iconst hx hb dL_law_721 ?_
  refine z_iadd hx hb dL_law_722 ?_
  refine l_sld hx hb hX hbl hS (n + 2) (by omega) (by omega) hL dL_law_723 ?_
  refine l_cN (n := 2) (As := [.int (iI (xs (n + 1)).toInt), .int (iI (xs (n + 2)).toInt)]) (rest := []) hx hb hml hts hown hK hE hW (va_recv hK (cw0 hW.1) (ci := 7) (q0 := 0) rfl rfl) hS (c7_twice l D cT ad τ ρ H.size hI.inv hI.zer _ (i_r _) _ (i_r _)) gL_law_X7_twice rfl rfl rfl (by decide +kernel) ⟨by decide, by decide⟩ rfl hl.1 rfl (Nat.le_of_ble_eq_true rfl) ⟨(show cells + 1 ≤ 600000 by omega), (show slots + 5 ≤ 7302250 by omega)⟩ dL_law_724 (fun ad2 H locs e0 hW hS => ?_)
  refine lv_aload_n hx hb dL_law_727 rfl (lv_at hl 2 rfl) ?_
  refine lv_aload_n hx hb dL_law_728 rfl (lv_at hl 0 rfl) ?_
  refine lv_iload_n hx hb dL_law_729 rfl (lv_at hl 3 rfl) ?_
  refine z_iconst hx hb dL_law_730 ?_
  refine z_iadd hx hb dL_law_731 ?_
  refine l_sld hx hb hX hbl hS (n + 1) (by omega) (by omega) hL dL_law_732 ?_
  refine lv_aload_n hx hb dL_law_733 rfl (lv_at hl 0 rfl) ?_
  refine lv_iload_n hx hb dL_law_734 rfl (lv_at hl 3 rfl) ?_
  refine z_iconst hx hb dL_law_735 ?_
  refine z_iadd hx hb dL_law_736 ?_
  refine l_sld hx hb hX hbl hS (n + 2) (by omega) (by omega) hL dL_law_737 ?_
  refine l_mW (n := 2) (As := [.int (iI (xs (n + 1)).toInt), .int (iI (xs (n + 2)).toInt)]) (rest := [.int (iI (spTwice τ (xs (n + 1)).toInt (xs (n + 2)).toInt))]) hx hb hml hts hown hKm hW hS (c8_twice l D (cT 0) (cT 1) am τ hI.inv _ (i_r _) _ (i_r _)) gL_law_X8_twice rfl rfl rfl (by decide +kernel) ⟨by decide, by decide⟩ rfl hl.1 rfl (Nat.le_of_ble_eq_true rfl) ⟨(show cells + 1 ≤ 600000 by omega), (show slots + 5 ≤ 7302250 by omega)⟩ dL_law_738 (fun H locs hW hS => ?_)
  refine l_eq (tgt := 1177) hx hb dL_law_741 (by decide) ?_
  refine W.widen (k := cells + 10) (n := slots + 154) (by omega) (by omega) ?_
  exact kk ad2 _ ρ H locs e0 hI.twice hW hS
set_option maxHeartbeats 4000000 in
set_option maxRecDepth 100000 in
theorem lb_law {p : Program} {l : Launch} {e : Env} {s : State} {m : MethodId} {below : List Frame} {meth : Method} {c : Code} {D : va_G} {cT : Nat → ClassId} {ad : Adr} {am : Nat → Nat} {τ ρ : Tau} {b L n : Nat} {xs : Nat → Int32} {H : Heap} {locs : List Loc} {cells slots : Nat} {ls : Array Slot} {Q : State → Prop} (C0 : LC p s m c D cT b L xs) (hn : n + 6 ≤ L) (hcl : cells ≤ 500000) (hsl : slots ≤ 7000000) (hl : LV ls b ad am n) (hI : IZ τ) (hW : LW D cT ad am τ τ ρ s.heap.size H) (hS : va_S (fun q : Nat => s.heap.size ≤ q) s.heap H locs) (kk : ∀ (ad2 : Adr) (τ2 ρ2 : Tau) (H2 : Heap) (locs2 : List Loc), ad2 0 0 = ad 0 0 → IZ τ2 → LW D cT ad2 am τ2 τ2 ρ2 s.heap.size H2 → va_S (fun q : Nat => s.heap.size ≤ q) s.heap H2 locs2 → W p l e room_1 s m #[Value.ref b] below meth c H2 locs2 (cells + 10) (slots + 154) Q (F0 m 1177 ls [])) : W p l e room_1 s m #[Value.ref b] below meth c H locs cells slots Q (F0 m 746 ls []) := by
  obtain ⟨hx, hb, hml, hts, hown, hX, hbl, hK, hE, hL⟩ := C0
  have hKm : va_K D vwCl (mT (cT 0) (cT 1)) s := hK.sub [0, 1] rfl
  refine lv_aload_n hx hb dL_law_746 rfl (lv_at hl 1 rfl) ?_
  refine lv_aload_n hx hb dL_law_747 rfl (lv_at hl 0 rfl) ?_
  refine lv_iload_n hx hb dL_law_748 rfl (lv_at hl 3 rfl) ?_
  refine z_iconst hx hb dL_law_749 ?_
  refine z_iadd hx hb dL_law_750 ?_
  refine l_sld hx hb hX hbl hS (n + 1) (by omega) (by omega) hL dL_law_751 ?_
  refine lv_aload_n hx hb dL_law_752 rfl (lv_at hl 0 rfl) ?_
  refine lv_iload_n hx hb dL_law_753 rfl (lv_at hl 3 rfl) ?_
  refine z_iconst hx hb dL_law_754 ?_
  refine z_iadd hx hb dL_law_755 ?_
  refine l_sld hx hb hX hbl hS (n + 2) (by omega) (by omega) hL dL_law_756 ?_
  refine l_cW (n := 2) (As := [.int (iI (xs (n + 1)).toInt), .int (iI (xs (n + 2)).toInt)]) (rest := []) hx hb hml hts hown hK hE.1 hW (fun q h => CA_stLaw h) (va_recv hK (cw0 hW.1) (ci := 7) (q0 := 0) rfl rfl) hS (c7_law l D cT ad τ ρ hI.inv _ (i_r _) _ (i_r _)) gL_law_X7_law rfl rfl rfl (by decide +kernel) ⟨by decide, by decide⟩ rfl hl.1 rfl (Nat.le_of_ble_eq_true rfl) ⟨(show cells ≤ 600000 by omega), (show slots ≤ 7302250 by omega)⟩ dL_law_757 (fun ρ H locs hW hS => ?_)
  refine lv_aload_n hx hb dL_law_760 rfl (lv_at hl 2 rfl) ?_
  refine lv_aload_n hx hb dL_law_761 rfl (lv_at hl 0 rfl) ?_
  refine lv_iload_n hx hb dL_law_762 rfl (lv_at hl 3 rfl) ?_
  refine z_iconst hx hb dL_law_763 ?_
  refine z_iadd hx hb dL_law_764 ?_
  refine l_sld hx hb hX hbl hS (n + 1) (by omega) (by omega) hL dL_law_765 ?_
  refine lv_aload_n hx hb dL_law_766 rfl (lv_at hl 0 rfl) ?_
  refine lv_iload_n hx hb dL_law_767 rfl (lv_at hl 3 rfl) ?_
  refine z_iconst hx hb dL_law_768 ?_
  refine z_iadd hx hb dL_law_769 ?_
  refine l_sld hx hb hX hbl hS (n + 2) (by omega) (by omega) hL dL_law_770 ?_
  refine l_mW (n := 2) (As := [.int (iI (xs (n + 1)).toInt), .int (iI (xs (n + 2)).toInt)]) (rest := [.int (iI (spLaw τ (xs (n + 1)).toInt (xs (n + 2)).toInt))]) hx hb hml hts hown hKm hW hS (c8_law l D (cT 0) (cT 1) am τ hI.1 _ (i_r _) _ (i_r _)) gL_law_X8_law rfl rfl rfl (by decide +kernel) ⟨by decide, by decide⟩ rfl hl.1 rfl (Nat.le_of_ble_eq_true rfl) ⟨(show cells ≤ 600000 by omega), (show slots ≤ 7302250 by omega)⟩ dL_law_771 (fun H locs hW hS => ?_)
  refine l_eq (tgt := 1177) hx hb dL_law_774 (by decide) ?_
  refine W.widen (k := cells + 10) (n := slots + 154) (by omega) (by omega) ?_
  exact kk ad _ ρ H locs rfl hI.law hW hS
set_option maxHeartbeats 4000000 in
set_option maxRecDepth 100000 in
theorem lb_result {p : Program} {l : Launch} {e : Env} {s : State} {m : MethodId} {below : List Frame} {meth : Method} {c : Code} {D : va_G} {cT : Nat → ClassId} {ad : Adr} {am : Nat → Nat} {τ ρ : Tau} {b L n : Nat} {xs : Nat → Int32} {H : Heap} {locs : List Loc} {cells slots : Nat} {ls : Array Slot} {Q : State → Prop} (C0 : LC p s m c D cT b L xs) (hn : n + 6 ≤ L) (hcl : cells ≤ 500000) (hsl : slots ≤ 7000000) (hl : LV ls b ad am n) (hI : IZ τ) (hW : LW D cT ad am τ τ ρ s.heap.size H) (hS : va_S (fun q : Nat => s.heap.size ≤ q) s.heap H locs) (kk : ∀ (ad2 : Adr) (τ2 ρ2 : Tau) (H2 : Heap) (locs2 : List Loc), ad2 0 0 = ad 0 0 → IZ τ2 → LW D cT ad2 am τ2 τ2 ρ2 s.heap.size H2 → va_S (fun q : Nat => s.heap.size ≤ q) s.heap H2 locs2 → W p l e room_1 s m #[Value.ref b] below meth c H2 locs2 (cells + 10) (slots + 154) Q (F0 m 1177 ls [])) : W p l e room_1 s m #[Value.ref b] below meth c H locs cells slots Q (F0 m 779 ls []) := by
  obtain ⟨hx, hb, hml, hts, hown, hX, hbl, hK, hE, hL⟩ := C0
  have hKm : va_K D vwCl (mT (cT 0) (cT 1)) s := hK.sub [0, 1] rfl
  refine lv_aload_n hx hb dL_law_779 rfl (lv_at hl 1 rfl) ?_
  refine lv_aload_n hx hb dL_law_780 rfl (lv_at hl 0 rfl) ?_
  refine lv_iload_n hx hb dL_law_781 rfl (lv_at hl 3 rfl) ?_
  refine z_iconst hx hb dL_law_782 ?_
  refine z_iadd hx hb dL_law_783 ?_
  refine l_sld hx hb hX hbl hS (n + 1) (by omega) (by omega) hL dL_law_784 ?_
  refine lv_aload_n hx hb dL_law_785 rfl (lv_at hl 0 rfl) ?_
  refine lv_iload_n hx hb dL_law_786 rfl (lv_at hl 3 rfl) ?_
  refine z_iconst hx hb dL_law_787 ?_
  refine z_iadd hx hb dL_law_788 ?_
  refine l_sld hx hb hX hbl hS (n + 2) (by omega) (by omega) hL dL_law_789 ?_
  refine lv_aload_n hx hb dL_law_790 rfl (lv_at hl 0 rfl) ?_
  refine lv_iload_n hx hb dL_law_791 rfl (lv_at hl 3 rfl) ?_
  refine z_iconst hx hb dL_law_792 ?_
  refine z_iadd hx hb dL_law_793 ?_
  refine l_sld hx hb hX hbl hS (n + 3) (by omega) (by omega) hL dL_law_794 ?_
  refine l_cW (n := 3) (As := [.int (iI (xs (n + 1)).toInt), .int (iI (xs (n + 2)).toInt), .int (iI (xs (n + 3)).toInt)]) (rest := []) hx hb hml hts hown hK hE.1 hW (fun q h => CA_stRes h) (va_recv hK (cw0 hW.1) (ci := 7) (q0 := 0) rfl rfl) hS (c7_result l D cT ad τ ρ hI.inv _ (i_r _) _ (i_r _) _ (i_r _)) gL_law_X7_result rfl rfl rfl (by decide +kernel) ⟨by decide, by decide⟩ rfl hl.1 rfl (Nat.le_of_ble_eq_true rfl) ⟨(show cells ≤ 600000 by omega), (show slots ≤ 7302250 by omega)⟩ dL_law_795 (fun ρ H locs hW hS => ?_)
  refine lv_aload_n hx hb dL_law_798 rfl (lv_at hl 2 rfl) ?_
  refine lv_aload_n hx hb dL_law_799 rfl (lv_at hl 0 rfl) ?_
  refine lv_iload_n hx hb dL_law_800 rfl (lv_at hl 3 rfl) ?_
  refine z_iconst hx hb dL_law_801 ?_
  refine z_iadd hx hb dL_law_802 ?_
  refine l_sld hx hb hX hbl hS (n + 1) (by omega) (by omega) hL dL_law_803 ?_
  refine lv_aload_n hx hb dL_law_804 rfl (lv_at hl 0 rfl) ?_
  refine lv_iload_n hx hb dL_law_805 rfl (lv_at hl 3 rfl) ?_
  refine z_iconst hx hb dL_law_806 ?_
  refine z_iadd hx hb dL_law_807 ?_
  refine l_sld hx hb hX hbl hS (n + 2) (by omega) (by omega) hL dL_law_808 ?_
  refine lv_aload_n hx hb dL_law_809 rfl (lv_at hl 0 rfl) ?_
  refine lv_iload_n hx hb dL_law_810 rfl (lv_at hl 3 rfl) ?_
  refine z_iconst hx hb dL_law_811 ?_
  refine z_iadd hx hb dL_law_812 ?_
  refine l_sld hx hb hX hbl hS (n + 3) (by omega) (by omega) hL dL_law_813 ?_
  refine l_mW (n := 3) (As := [.int (iI (xs (n + 1)).toInt), .int (iI (xs (n + 2)).toInt), .int (iI (xs (n + 3)).toInt)]) (rest := [.int (iI (spRes τ (xs (n + 1)).toInt (xs (n + 2)).toInt (xs (n + 3)).toInt))]) hx hb hml hts hown hKm hW hS (c8_result l D (cT 0) (cT 1) am τ hI.1 _ (i_r _) _ (i_r _) _ (i_r _)) gL_law_X8_result rfl rfl rfl (by decide +kernel) ⟨by decide, by decide⟩ rfl hl.1 rfl (Nat.le_of_ble_eq_true rfl) ⟨(show cells ≤ 600000 by omega), (show slots ≤ 7302250 by omega)⟩ dL_law_814 (fun H locs hW hS => ?_)
  refine l_eq (tgt := 1177) hx hb dL_law_817 (by decide) ?_
  refine W.widen (k := cells + 10) (n := slots + 154) (by omega) (by omega) ?_
  exact kk ad _ ρ H locs rfl hI.result hW hS
set_option maxHeartbeats 4000000 in
set_option maxRecDepth 100000 in
theorem lb_sound {p : Program} {l : Launch} {e : Env} {s : State} {m : MethodId} {below : List Frame} {meth : Method} {c : Code} {D : va_G} {cT : Nat → ClassId} {ad : Adr} {am : Nat → Nat} {τ ρ : Tau} {b L n : Nat} {xs : Nat → Int32} {H : Heap} {locs : List Loc} {cells slots : Nat} {ls : Array Slot} {Q : State → Prop} (C0 : LC p s m c D cT b L xs) (hn : n + 6 ≤ L) (hcl : cells ≤ 500000) (hsl : slots ≤ 7000000) (hl : LV ls b ad am n) (hI : IZ τ) (hW : LW D cT ad am τ τ ρ s.heap.size H) (hS : va_S (fun q : Nat => s.heap.size ≤ q) s.heap H locs) (kk : ∀ (ad2 : Adr) (τ2 ρ2 : Tau) (H2 : Heap) (locs2 : List Loc), ad2 0 0 = ad 0 0 → IZ τ2 → LW D cT ad2 am τ2 τ2 ρ2 s.heap.size H2 → va_S (fun q : Nat => s.heap.size ≤ q) s.heap H2 locs2 → W p l e room_1 s m #[Value.ref b] below meth c H2 locs2 (cells + 10) (slots + 154) Q (F0 m 1177 ls [])) : W p l e room_1 s m #[Value.ref b] below meth c H locs cells slots Q (F0 m 822 ls []) := by
  obtain ⟨hx, hb, hml, hts, hown, hX, hbl, hK, hE, hL⟩ := C0
  have hKm : va_K D vwCl (mT (cT 0) (cT 1)) s := hK.sub [0, 1] rfl
  refine lv_aload_n hx hb dL_law_822 rfl (lv_at hl 1 rfl) ?_
  refine lv_aload_n hx hb dL_law_823 rfl (lv_at hl 0 rfl) ?_
  refine lv_iload_n hx hb dL_law_824 rfl (lv_at hl 3 rfl) ?_
  refine z_iconst hx hb dL_law_825 ?_
  refine z_iadd hx hb dL_law_826 ?_
  refine l_sld hx hb hX hbl hS (n + 1) (by omega) (by omega) hL dL_law_827 ?_
  refine c_call (n := 1) (As := [.int (iI (xs (n + 1)).toInt)]) (rest := []) hx hb hml hts hown hK hE.1 hW.1 (va_recv hK (cw0 hW.1) (ci := 7) (q0 := 0) rfl rfl) (c7_sound l D cT ad τ ρ hI.inv _ (i_r _)) gL_law_X7_sound rfl rfl rfl (by decide +kernel) ⟨by decide, by decide⟩ rfl hl.1 rfl (Nat.le_of_ble_eq_true rfl) ⟨(show cells ≤ 600000 by omega), (show slots ≤ 7302250 by omega)⟩ dL_law_828 ?_
  refine lv_aload_n hx hb dL_law_831 rfl (lv_at hl 2 rfl) ?_
  refine lv_aload_n hx hb dL_law_832 rfl (lv_at hl 0 rfl) ?_
  refine lv_iload_n hx hb dL_law_833 rfl (lv_at hl 3 rfl) ?_
  refine z_iconst hx hb dL_law_834 ?_
  refine z_iadd hx hb dL_law_835 ?_
  refine l_sld hx hb hX hbl hS (n + 1) (by omega) (by omega) hL dL_law_836 ?_
  refine m_call (n := 1) (As := [.int (iI (xs (n + 1)).toInt)]) (rest := [.int (iI (spSound τ (xs (n + 1)).toInt))]) hx hb hml hts hown hKm hW.2.1 (c8_sound l D (cT 0) (cT 1) am τ hI.inv _ (i_r _)) gL_law_X8_sound rfl rfl rfl (by decide +kernel) ⟨by decide, by decide⟩ rfl hl.1 rfl (Nat.le_of_ble_eq_true rfl) ⟨(show cells ≤ 600000 by omega), (show slots ≤ 7302250 by omega)⟩ dL_law_837 ?_
  refine l_eq (tgt := 1177) hx hb dL_law_840 (by decide) ?_
  refine W.widen (k := cells + 10) (n := slots + 154) (by omega) (by omega) ?_
  exact kk ad _ ρ H locs rfl hI hW hS
set_option maxHeartbeats 4000000 in
set_option maxRecDepth 100000 in
theorem lb_fault {p : Program} {l : Launch} {e : Env} {s : State} {m : MethodId} {below : List Frame} {meth : Method} {c : Code} {D : va_G} {cT : Nat → ClassId} {ad : Adr} {am : Nat → Nat} {τ ρ : Tau} {b L n : Nat} {xs : Nat → Int32} {H : Heap} {locs : List Loc} {cells slots : Nat} {ls : Array Slot} {Q : State → Prop} (C0 : LC p s m c D cT b L xs) (hn : n + 6 ≤ L) (hcl : cells ≤ 500000) (hsl : slots ≤ 7000000) (hl : LV ls b ad am n) (hI : IZ τ) (hW : LW D cT ad am τ τ ρ s.heap.size H) (hS : va_S (fun q : Nat => s.heap.size ≤ q) s.heap H locs) (kk : ∀ (ad2 : Adr) (τ2 ρ2 : Tau) (H2 : Heap) (locs2 : List Loc), ad2 0 0 = ad 0 0 → IZ τ2 → LW D cT ad2 am τ2 τ2 ρ2 s.heap.size H2 → va_S (fun q : Nat => s.heap.size ≤ q) s.heap H2 locs2 → W p l e room_1 s m #[Value.ref b] below meth c H2 locs2 (cells + 10) (slots + 154) Q (F0 m 1177 ls [])) : W p l e room_1 s m #[Value.ref b] below meth c H locs cells slots Q (F0 m 845 ls []) := by
  obtain ⟨hx, hb, hml, hts, hown, hX, hbl, hK, hE, hL⟩ := C0
  have hKm : va_K D vwCl (mT (cT 0) (cT 1)) s := hK.sub [0, 1] rfl
  refine lv_aload_n hx hb dL_law_845 rfl (lv_at hl 1 rfl) ?_
  refine lv_aload_n hx hb dL_law_846 rfl (lv_at hl 0 rfl) ?_
  refine lv_iload_n hx hb dL_law_847 rfl (lv_at hl 3 rfl) ?_
  refine z_iconst hx hb dL_law_848 ?_
  refine z_iadd hx hb dL_law_849 ?_
  refine l_sld hx hb hX hbl hS (n + 1) (by omega) (by omega) hL dL_law_850 ?_
  refine c_call (n := 1) (As := [.int (iI (xs (n + 1)).toInt)]) (rest := []) hx hb hml hts hown hK hE.1 hW.1 (va_recv hK (cw0 hW.1) (ci := 7) (q0 := 0) rfl rfl) (c7_fault l D cT ad τ ρ hI.inv _ (i_r _)) gL_law_X7_fault rfl rfl rfl (by decide +kernel) ⟨by decide, by decide⟩ rfl hl.1 rfl (Nat.le_of_ble_eq_true rfl) ⟨(show cells ≤ 600000 by omega), (show slots ≤ 7302250 by omega)⟩ dL_law_851 ?_
  refine lv_aload_n hx hb dL_law_854 rfl (lv_at hl 2 rfl) ?_
  refine lv_aload_n hx hb dL_law_855 rfl (lv_at hl 0 rfl) ?_
  refine lv_iload_n hx hb dL_law_856 rfl (lv_at hl 3 rfl) ?_
  refine z_iconst hx hb dL_law_857 ?_
  refine z_iadd hx hb dL_law_858 ?_
  refine l_sld hx hb hX hbl hS (n + 1) (by omega) (by omega) hL dL_law_859 ?_
  refine m_call (n := 1) (As := [.int (iI (xs (n + 1)).toInt)]) (rest := [.int (iI (spFault τ (xs (n + 1)).toInt))]) hx hb hml hts hown hKm hW.2.1 (c8_fault l D (cT 0) (cT 1) am τ hI.inv _ (i_r _)) gL_law_X8_fault rfl rfl rfl (by decide +kernel) ⟨by decide, by decide⟩ rfl hl.1 rfl (Nat.le_of_ble_eq_true rfl) ⟨(show cells ≤ 600000 by omega), (show slots ≤ 7302250 by omega)⟩ dL_law_860 ?_
  refine l_eq (tgt := 1177) hx hb dL_law_863 (by decide) ?_
  refine W.widen (k := cells + 10) (n := slots + 154) (by omega) (by omega) ?_
  exact kk ad _ ρ H locs rfl hI hW hS
set_option maxHeartbeats 4000000 in
set_option maxRecDepth 100000 in
theorem lb_swap {p : Program} {l : Launch} {e : Env} {s : State} {m : MethodId} {below : List Frame} {meth : Method} {c : Code} {D : va_G} {cT : Nat → ClassId} {ad : Adr} {am : Nat → Nat} {τ ρ : Tau} {b L n : Nat} {xs : Nat → Int32} {H : Heap} {locs : List Loc} {cells slots : Nat} {ls : Array Slot} {Q : State → Prop} (C0 : LC p s m c D cT b L xs) (hn : n + 6 ≤ L) (hcl : cells ≤ 500000) (hsl : slots ≤ 7000000) (hl : LV ls b ad am n) (hI : IZ τ) (hW : LW D cT ad am τ τ ρ s.heap.size H) (hS : va_S (fun q : Nat => s.heap.size ≤ q) s.heap H locs) (kk : ∀ (ad2 : Adr) (τ2 ρ2 : Tau) (H2 : Heap) (locs2 : List Loc), ad2 0 0 = ad 0 0 → IZ τ2 → LW D cT ad2 am τ2 τ2 ρ2 s.heap.size H2 → va_S (fun q : Nat => s.heap.size ≤ q) s.heap H2 locs2 → W p l e room_1 s m #[Value.ref b] below meth c H2 locs2 (cells + 10) (slots + 154) Q (F0 m 1177 ls [])) : W p l e room_1 s m #[Value.ref b] below meth c H locs cells slots Q (F0 m 868 ls []) := by
  obtain ⟨hx, hb, hml, hts, hown, hX, hbl, hK, hE, hL⟩ := C0
  have hKm : va_K D vwCl (mT (cT 0) (cT 1)) s := hK.sub [0, 1] rfl
  refine lv_aload_n hx hb dL_law_868 rfl (lv_at hl 1 rfl) ?_
  refine lv_aload_n hx hb dL_law_869 rfl (lv_at hl 0 rfl) ?_
  refine lv_iload_n hx hb dL_law_870 rfl (lv_at hl 3 rfl) ?_
  refine z_iconst hx hb dL_law_871 ?_
  refine z_iadd hx hb dL_law_872 ?_
  refine l_sld hx hb hX hbl hS (n + 1) (by omega) (by omega) hL dL_law_873 ?_
  refine l_cW (n := 1) (As := [.int (iI (xs (n + 1)).toInt)]) (rest := []) hx hb hml hts hown hK hE.1 hW (fun q h => h) (va_recv hK (cw0 hW.1) (ci := 7) (q0 := 0) rfl rfl) hS (c7_swap l D cT ad τ ρ hI.inv _ (i_r _)) gL_law_X7_swap rfl rfl rfl (by decide +kernel) ⟨by decide, by decide⟩ rfl hl.1 rfl (Nat.le_of_ble_eq_true rfl) ⟨(show cells ≤ 600000 by omega), (show slots ≤ 7302250 by omega)⟩ dL_law_874 (fun ρ H locs hW hS => ?_)
  refine lv_aload_n hx hb dL_law_877 rfl (lv_at hl 2 rfl) ?_
  refine lv_aload_n hx hb dL_law_878 rfl (lv_at hl 0 rfl) ?_
  refine lv_iload_n hx hb dL_law_879 rfl (lv_at hl 3 rfl) ?_
  refine z_iconst hx hb dL_law_880 ?_
  refine z_iadd hx hb dL_law_881 ?_
  refine l_sld hx hb hX hbl hS (n + 1) (by omega) (by omega) hL dL_law_882 ?_
  refine l_mW (n := 1) (As := [.int (iI (xs (n + 1)).toInt)]) (rest := [.int (iI (spSwap τ (xs (n + 1)).toInt))]) hx hb hml hts hown hKm hW hS (c8_swap l D (cT 0) (cT 1) am τ hI.inv _ (i_r _)) gL_law_X8_swap rfl rfl rfl (by decide +kernel) ⟨by decide, by decide⟩ rfl hl.1 rfl (Nat.le_of_ble_eq_true rfl) ⟨(show cells ≤ 600000 by omega), (show slots ≤ 7302250 by omega)⟩ dL_law_883 (fun H locs hW hS => ?_)
  refine l_eq (tgt := 1177) hx hb dL_law_886 (by decide) ?_
  refine W.widen (k := cells + 10) (n := slots + 154) (by omega) (by omega) ?_
  exact kk ad _ ρ H locs rfl hI hW hS
set_option maxHeartbeats 4000000 in
set_option maxRecDepth 100000 in
theorem lb_exchange {p : Program} {l : Launch} {e : Env} {s : State} {m : MethodId} {below : List Frame} {meth : Method} {c : Code} {D : va_G} {cT : Nat → ClassId} {ad : Adr} {am : Nat → Nat} {τ ρ : Tau} {b L n : Nat} {xs : Nat → Int32} {H : Heap} {locs : List Loc} {cells slots : Nat} {ls : Array Slot} {Q : State → Prop} (C0 : LC p s m c D cT b L xs) (hn : n + 6 ≤ L) (hcl : cells ≤ 500000) (hsl : slots ≤ 7000000) (hl : LV ls b ad am n) (hI : IZ τ) (hW : LW D cT ad am τ τ ρ s.heap.size H) (hS : va_S (fun q : Nat => s.heap.size ≤ q) s.heap H locs) (kk : ∀ (ad2 : Adr) (τ2 ρ2 : Tau) (H2 : Heap) (locs2 : List Loc), ad2 0 0 = ad 0 0 → IZ τ2 → LW D cT ad2 am τ2 τ2 ρ2 s.heap.size H2 → va_S (fun q : Nat => s.heap.size ≤ q) s.heap H2 locs2 → W p l e room_1 s m #[Value.ref b] below meth c H2 locs2 (cells + 10) (slots + 154) Q (F0 m 1177 ls [])) : W p l e room_1 s m #[Value.ref b] below meth c H locs cells slots Q (F0 m 891 ls []) := by
  obtain ⟨hx, hb, hml, hts, hown, hX, hbl, hK, hE, hL⟩ := C0
  have hKm : va_K D vwCl (mT (cT 0) (cT 1)) s := hK.sub [0, 1] rfl
  refine lv_aload_n hx hb dL_law_891 rfl (lv_at hl 1 rfl) ?_
  refine lv_aload_n hx hb dL_law_892 rfl (lv_at hl 0 rfl) ?_
  refine lv_iload_n hx hb dL_law_893 rfl (lv_at hl 3 rfl) ?_
  refine z_iconst hx hb dL_law_894 ?_
  refine z_iadd hx hb dL_law_895 ?_
  refine l_sld hx hb hX hbl hS (n + 1) (by omega) (by omega) hL dL_law_896 ?_
  refine lv_aload_n hx hb dL_law_897 rfl (lv_at hl 0 rfl) ?_
  refine lv_iload_n hx hb dL_law_898 rfl (lv_at hl 3 rfl) ?_
  refine z_iconst hx hb dL_law_899 ?_
  refine z_iadd hx hb dL_law_900 ?_
  refine l_sld hx hb hX hbl hS (n + 2) (by omega) (by omega) hL dL_law_901 ?_
  refine l_cW (n := 2) (As := [.int (iI (xs (n + 1)).toInt), .int (iI (xs (n + 2)).toInt)]) (rest := []) hx hb hml hts hown hK hE.1 hW (fun q h => CA_stExch h) (va_recv hK (cw0 hW.1) (ci := 7) (q0 := 0) rfl rfl) hS (c7_exchange l D cT ad τ ρ hI.inv _ (i_r _) _ (i_r _)) gL_law_X7_exchange rfl rfl rfl (by decide +kernel) ⟨by decide, by decide⟩ rfl hl.1 rfl (Nat.le_of_ble_eq_true rfl) ⟨(show cells ≤ 600000 by omega), (show slots ≤ 7302250 by omega)⟩ dL_law_902 (fun ρ H locs hW hS => ?_)
  refine lv_aload_n hx hb dL_law_905 rfl (lv_at hl 2 rfl) ?_
  refine lv_aload_n hx hb dL_law_906 rfl (lv_at hl 0 rfl) ?_
  refine lv_iload_n hx hb dL_law_907 rfl (lv_at hl 3 rfl) ?_
  refine z_iconst hx hb dL_law_908 ?_
  refine z_iadd hx hb dL_law_909 ?_
  refine l_sld hx hb hX hbl hS (n + 1) (by omega) (by omega) hL dL_law_910 ?_
  refine lv_aload_n hx hb dL_law_911 rfl (lv_at hl 0 rfl) ?_
  refine lv_iload_n hx hb dL_law_912 rfl (lv_at hl 3 rfl) ?_
  refine z_iconst hx hb dL_law_913 ?_
  refine z_iadd hx hb dL_law_914 ?_
  refine l_sld hx hb hX hbl hS (n + 2) (by omega) (by omega) hL dL_law_915 ?_
  refine l_mW (n := 2) (As := [.int (iI (xs (n + 1)).toInt), .int (iI (xs (n + 2)).toInt)]) (rest := [.int (iI (spExch τ (xs (n + 1)).toInt (xs (n + 2)).toInt))]) hx hb hml hts hown hKm hW hS (c8_exchange l D (cT 0) (cT 1) am τ hI.1 _ (i_r _) _ (i_r _)) gL_law_X8_exchange rfl rfl rfl (by decide +kernel) ⟨by decide, by decide⟩ rfl hl.1 rfl (Nat.le_of_ble_eq_true rfl) ⟨(show cells ≤ 600000 by omega), (show slots ≤ 7302250 by omega)⟩ dL_law_916 (fun H locs hW hS => ?_)
  refine l_eq (tgt := 1177) hx hb dL_law_919 (by decide) ?_
  refine W.widen (k := cells + 10) (n := slots + 154) (by omega) (by omega) ?_
  exact kk ad _ ρ H locs rfl hI.exchange hW hS
