set_option maxHeartbeats 4000000 in
set_option maxRecDepth 100000 in
theorem lb_about {p : Program} {l : Launch} {e : Env} {s : State} {m : MethodId} {below : List Frame} {meth : Method} {c : Code} {D : va_G} {cT : Nat → ClassId} {ad : Adr} {am : Nat → Nat} {τ ρ : Tau} {b L n : Nat} {xs : Nat → Int32} {H : Heap} {locs : List Loc} {cells slots : Nat} {ls : Array Slot} {Q : State → Prop} (C0 : LC p s m c D cT b L xs) (hn : n + 6 ≤ L) (hcl : cells ≤ 500000) (hsl : slots ≤ 7000000) (hl : LV ls b ad am n) (hI : IZ τ) (hW : LW D cT ad am τ τ ρ s.heap.size H) (hS : va_S (fun q : Nat => s.heap.size ≤ q) s.heap H locs) (kk : ∀ (ad2 : Adr) (τ2 ρ2 : Tau) (H2 : Heap) (locs2 : List Loc), ad2 0 0 = ad 0 0 → IZ τ2 → LW D cT ad2 am τ2 τ2 ρ2 s.heap.size H2 → va_S (fun q : Nat => s.heap.size ≤ q) s.heap H2 locs2 → W p l e room_1 s m #[Value.ref b] below meth c H2 locs2 (cells + 10) (slots + 154) Q (F0 m 1177 ls [])) : W p l e room_1 s m #[Value.ref b] below meth c H locs cells slots Q (F0 m 924 ls []) := by
  obtain ⟨hx, hb, hml, hts, hown, hX, hbl, hK, hE, hL⟩ := C0
  have hKm : va_K D vwCl (mT (cT 0) (cT 1)) s := hK.sub [0, 1] rfl
  refine lv_aload_n hx hb dL_law_924 rfl (lv_at hl 1 rfl) ?_
  refine lv_aload_n hx hb dL_law_925 rfl (lv_at hl 0 rfl) ?_
  refine lv_iload_n hx hb dL_law_926 rfl (lv_at hl 3 rfl) ?_
  refine z_iconst hx hb dL_law_927 ?_
  refine z_iadd hx hb dL_law_928 ?_
  refine l_sld hx hb hX hbl hS (n + 1) (by omega) (by omega) hL dL_law_929 ?_
  refine lv_aload_n hx hb dL_law_930 rfl (lv_at hl 0 rfl) ?_
  refine lv_iload_n hx hb dL_law_931 rfl (lv_at hl 3 rfl) ?_
  refine z_iconst hx hb dL_law_932 ?_
  refine z_iadd hx hb dL_law_933 ?_
  refine l_sld hx hb hX hbl hS (n + 2) (by omega) (by omega) hL dL_law_934 ?_
  refine lv_aload_n hx hb dL_law_935 rfl (lv_at hl 0 rfl) ?_
  refine lv_iload_n hx hb dL_law_936 rfl (lv_at hl 3 rfl) ?_
  refine z_iconst hx hb dL_law_937 ?_
  refine z_iadd hx hb dL_law_938 ?_
  refine l_sld hx hb hX hbl hS (n + 3) (by omega) (by omega) hL dL_law_939 ?_
  refine c_call (n := 3) (As := [.int (iI (xs (n + 1)).toInt), .int (iI (xs (n + 2)).toInt), .int (iI (xs (n + 3)).toInt)]) (rest := []) hx hb hml hts hown hK hE.1 hW.1 (va_recv hK (cw0 hW.1) (ci := 7) (q0 := 0) rfl rfl) (c7_about l D cT ad τ ρ hI.inv _ (i_r _) _ (i_r _) _ (i_r _)) gL_law_X7_about rfl rfl rfl (by decide +kernel) ⟨by decide, by decide⟩ rfl hl.1 rfl (Nat.le_of_ble_eq_true rfl) ⟨(show cells ≤ 600000 by omega), (show slots ≤ 7302250 by omega)⟩ dL_law_940 ?_
  refine lv_aload_n hx hb dL_law_943 rfl (lv_at hl 2 rfl) ?_
  refine lv_aload_n hx hb dL_law_944 rfl (lv_at hl 0 rfl) ?_
  refine lv_iload_n hx hb dL_law_945 rfl (lv_at hl 3 rfl) ?_
  refine z_iconst hx hb dL_law_946 ?_
  refine z_iadd hx hb dL_law_947 ?_
  refine l_sld hx hb hX hbl hS (n + 1) (by omega) (by omega) hL dL_law_948 ?_
  refine lv_aload_n hx hb dL_law_949 rfl (lv_at hl 0 rfl) ?_
  refine lv_iload_n hx hb dL_law_950 rfl (lv_at hl 3 rfl) ?_
  refine z_iconst hx hb dL_law_951 ?_
  refine z_iadd hx hb dL_law_952 ?_
  refine l_sld hx hb hX hbl hS (n + 2) (by omega) (by omega) hL dL_law_953 ?_
  refine lv_aload_n hx hb dL_law_954 rfl (lv_at hl 0 rfl) ?_
  refine lv_iload_n hx hb dL_law_955 rfl (lv_at hl 3 rfl) ?_
  refine z_iconst hx hb dL_law_956 ?_
  refine z_iadd hx hb dL_law_957 ?_
  refine l_sld hx hb hX hbl hS (n + 3) (by omega) (by omega) hL dL_law_958 ?_
  refine m_call (n := 3) (As := [.int (iI (xs (n + 1)).toInt), .int (iI (xs (n + 2)).toInt), .int (iI (xs (n + 3)).toInt)]) (rest := [.int (iI (spAbout τ (xs (n + 1)).toInt (xs (n + 2)).toInt (xs (n + 3)).toInt))]) hx hb hml hts hown hKm hW.2.1 (c8_about l D (cT 0) (cT 1) am τ hI.1 _ (i_r _) _ (i_r _) _ (i_r _)) gL_law_X8_about rfl rfl rfl (by decide +kernel) ⟨by decide, by decide⟩ rfl hl.1 rfl (Nat.le_of_ble_eq_true rfl) ⟨(show cells ≤ 600000 by omega), (show slots ≤ 7302250 by omega)⟩ dL_law_959 ?_
  refine l_eq (tgt := 1177) hx hb dL_law_962 (by decide) ?_
  refine W.widen (k := cells + 10) (n := slots + 154) (by omega) (by omega) ?_
  exact kk ad _ ρ H locs rfl hI hW hS
set_option maxHeartbeats 4000000 in
set_option maxRecDepth 100000 in
theorem lb_grade {p : Program} {l : Launch} {e : Env} {s : State} {m : MethodId} {below : List Frame} {meth : Method} {c : Code} {D : va_G} {cT : Nat → ClassId} {ad : Adr} {am : Nat → Nat} {τ ρ : Tau} {b L n : Nat} {xs : Nat → Int32} {H : Heap} {locs : List Loc} {cells slots : Nat} {ls : Array Slot} {Q : State → Prop} (C0 : LC p s m c D cT b L xs) (hn : n + 6 ≤ L) (hcl : cells ≤ 500000) (hsl : slots ≤ 7000000) (hl : LV ls b ad am n) (hI : IZ τ) (hW : LW D cT ad am τ τ ρ s.heap.size H) (hS : va_S (fun q : Nat => s.heap.size ≤ q) s.heap H locs) (kk : ∀ (ad2 : Adr) (τ2 ρ2 : Tau) (H2 : Heap) (locs2 : List Loc), ad2 0 0 = ad 0 0 → IZ τ2 → LW D cT ad2 am τ2 τ2 ρ2 s.heap.size H2 → va_S (fun q : Nat => s.heap.size ≤ q) s.heap H2 locs2 → W p l e room_1 s m #[Value.ref b] below meth c H2 locs2 (cells + 10) (slots + 154) Q (F0 m 1177 ls [])) : W p l e room_1 s m #[Value.ref b] below meth c H locs cells slots Q (F0 m 967 ls []) := by
  obtain ⟨hx, hb, hml, hts, hown, hX, hbl, hK, hE, hL⟩ := C0
  have hKm : va_K D vwCl (mT (cT 0) (cT 1)) s := hK.sub [0, 1] rfl
  refine lv_aload_n hx hb dL_law_967 rfl (lv_at hl 1 rfl) ?_
  refine lv_aload_n hx hb dL_law_968 rfl (lv_at hl 0 rfl) ?_
  refine lv_iload_n hx hb dL_law_969 rfl (lv_at hl 3 rfl) ?_
  refine z_iconst hx hb dL_law_970 ?_
  refine z_iadd hx hb dL_law_971 ?_
  refine l_sld hx hb hX hbl hS (n + 1) (by omega) (by omega) hL dL_law_972 ?_
  refine lv_aload_n hx hb dL_law_973 rfl (lv_at hl 0 rfl) ?_
  refine lv_iload_n hx hb dL_law_974 rfl (lv_at hl 3 rfl) ?_
  refine z_iconst hx hb dL_law_975 ?_
  refine z_iadd hx hb dL_law_976 ?_
  refine l_sld hx hb hX hbl hS (n + 2) (by omega) (by omega) hL dL_law_977 ?_
  refine c_call (n := 2) (As := [.int (iI (xs (n + 1)).toInt), .int (iI (xs (n + 2)).toInt)]) (rest := []) hx hb hml hts hown hK hE.1 hW.1 (va_recv hK (cw0 hW.1) (ci := 7) (q0 := 0) rfl rfl) (c7_grade l D cT ad τ ρ hI.inv _ (i_r _) _ (i_r _)) gL_law_X7_grade rfl rfl rfl (by decide +kernel) ⟨by decide, by decide⟩ rfl hl.1 rfl (Nat.le_of_ble_eq_true rfl) ⟨(show cells ≤ 600000 by omega), (show slots ≤ 7302250 by omega)⟩ dL_law_978 ?_
  refine lv_aload_n hx hb dL_law_981 rfl (lv_at hl 2 rfl) ?_
  refine lv_aload_n hx hb dL_law_982 rfl (lv_at hl 0 rfl) ?_
  refine lv_iload_n hx hb dL_law_983 rfl (lv_at hl 3 rfl) ?_
  refine z_iconst hx hb dL_law_984 ?_
  refine z_iadd hx hb dL_law_985 ?_
  refine l_sld hx hb hX hbl hS (n + 1) (by omega) (by omega) hL dL_law_986 ?_
  refine lv_aload_n hx hb dL_law_987 rfl (lv_at hl 0 rfl) ?_
  refine lv_iload_n hx hb dL_law_988 rfl (lv_at hl 3 rfl) ?_
  refine z_iconst hx hb dL_law_989 ?_
  refine z_iadd hx hb dL_law_990 ?_
  refine l_sld hx hb hX hbl hS (n + 2) (by omega) (by omega) hL dL_law_991 ?_
  refine m_call (n := 2) (As := [.int (iI (xs (n + 1)).toInt), .int (iI (xs (n + 2)).toInt)]) (rest := [.int (iI (spGrade τ (xs (n + 1)).toInt (xs (n + 2)).toInt))]) hx hb hml hts hown hKm hW.2.1 (c8_grade l D (cT 0) (cT 1) am τ hI.inv _ (i_r _) _ (i_r _)) gL_law_X8_grade rfl rfl rfl (by decide +kernel) ⟨by decide, by decide⟩ rfl hl.1 rfl (Nat.le_of_ble_eq_true rfl) ⟨(show cells ≤ 600000 by omega), (show slots ≤ 7302250 by omega)⟩ dL_law_992 ?_
  refine l_eq (tgt := 1177) hx hb dL_law_995 (by decide) ?_
  refine W.widen (k := cells + 10) (n := slots + 154) (by omega) (by omega) ?_
  exact kk ad _ ρ H locs rfl hI hW hS
set_option maxHeartbeats 4000000 in
set_option maxRecDepth 100000 in
theorem lb_composite {p : Program} {l : Launch} {e : Env} {s : State} {m : MethodId} {below : List Frame} {meth : Method} {c : Code} {D : va_G} {cT : Nat → ClassId} {ad : Adr} {am : Nat → Nat} {τ ρ : Tau} {b L n : Nat} {xs : Nat → Int32} {H : Heap} {locs : List Loc} {cells slots : Nat} {ls : Array Slot} {Q : State → Prop} (C0 : LC p s m c D cT b L xs) (hn : n + 6 ≤ L) (hcl : cells ≤ 500000) (hsl : slots ≤ 7000000) (hl : LV ls b ad am n) (hI : IZ τ) (hW : LW D cT ad am τ τ ρ s.heap.size H) (hS : va_S (fun q : Nat => s.heap.size ≤ q) s.heap H locs) (kk : ∀ (ad2 : Adr) (τ2 ρ2 : Tau) (H2 : Heap) (locs2 : List Loc), ad2 0 0 = ad 0 0 → IZ τ2 → LW D cT ad2 am τ2 τ2 ρ2 s.heap.size H2 → va_S (fun q : Nat => s.heap.size ≤ q) s.heap H2 locs2 → W p l e room_1 s m #[Value.ref b] below meth c H2 locs2 (cells + 10) (slots + 154) Q (F0 m 1177 ls [])) : W p l e room_1 s m #[Value.ref b] below meth c H locs cells slots Q (F0 m 1000 ls []) := by
  obtain ⟨hx, hb, hml, hts, hown, hX, hbl, hK, hE, hL⟩ := C0
  have hKm : va_K D vwCl (mT (cT 0) (cT 1)) s := hK.sub [0, 1] rfl
  refine lv_aload_n hx hb dL_law_1000 rfl (lv_at hl 1 rfl) ?_
  refine lv_aload_n hx hb dL_law_1001 rfl (lv_at hl 0 rfl) ?_
  refine lv_iload_n hx hb dL_law_1002 rfl (lv_at hl 3 rfl) ?_
  refine z_iconst hx hb dL_law_1003 ?_
  refine z_iadd hx hb dL_law_1004 ?_
  refine l_sld hx hb hX hbl hS (n + 1) (by omega) (by omega) hL dL_law_1005 ?_
  refine lv_aload_n hx hb dL_law_1006 rfl (lv_at hl 0 rfl) ?_
  refine lv_iload_n hx hb dL_law_1007 rfl (lv_at hl 3 rfl) ?_
  refine z_iconst hx hb dL_law_1008 ?_
  refine z_iadd hx hb dL_law_1009 ?_
  refine l_sld hx hb hX hbl hS (n + 2) (by omega) (by omega) hL dL_law_1010 ?_
  refine lv_aload_n hx hb dL_law_1011 rfl (lv_at hl 0 rfl) ?_
  refine lv_iload_n hx hb dL_law_1012 rfl (lv_at hl 3 rfl) ?_
  refine z_iconst hx hb dL_law_1013 ?_
  refine z_iadd hx hb dL_law_1014 ?_
  refine l_sld hx hb hX hbl hS (n + 3) (by omega) (by omega) hL dL_law_1015 ?_
  refine lv_aload_n hx hb dL_law_1016 rfl (lv_at hl 0 rfl) ?_
  refine lv_iload_n hx hb dL_law_1017 rfl (lv_at hl 3 rfl) ?_
  refine z_iconst hx hb dL_law_1018 ?_
  refine z_iadd hx hb dL_law_1019 ?_
  refine l_sld hx hb hX hbl hS (n + 4) (by omega) (by omega) hL dL_law_1020 ?_
  refine lv_aload_n hx hb dL_law_1021 rfl (lv_at hl 0 rfl) ?_
  refine lv_iload_n hx hb dL_law_1022 rfl (lv_at hl 3 rfl) ?_
  refine z_iconst hx hb dL_law_1023 ?_
  refine z_iadd hx hb dL_law_1024 ?_
  refine l_sld hx hb hX hbl hS (n + 5) (by omega) (by omega) hL dL_law_1025 ?_
  refine c_callL (n := 5) (As := [.int (iI (xs (n + 1)).toInt), .int (iI (xs (n + 2)).toInt), .int (iI (xs (n + 3)).toInt), .int (iI (xs (n + 4)).toInt), .int (iI (xs (n + 5)).toInt)]) (rest := []) hx hb hml hts hown hK hE.1 hW.1 (va_recv hK (cw0 hW.1) (ci := 7) (q0 := 0) rfl rfl) (c7_composite l D cT ad τ ρ hI.inv _ (i_r _) _ (i_r _) _ (i_r _) _ (i_r _) _ (i_r _)) gL_law_X7_composite rfl rfl rfl (by decide +kernel) ⟨by decide, by decide⟩ rfl hl.1 rfl (Nat.le_of_ble_eq_true rfl) ⟨(show cells ≤ 600000 by omega), (show slots ≤ 7302250 by omega)⟩ dL_law_1026 ?_
  refine lv_aload_n hx hb dL_law_1029 rfl (lv_at hl 2 rfl) ?_
  refine lv_aload_n hx hb dL_law_1030 rfl (lv_at hl 0 rfl) ?_
  refine lv_iload_n hx hb dL_law_1031 rfl (lv_at hl 3 rfl) ?_
  refine z_iconst hx hb dL_law_1032 ?_
  refine z_iadd hx hb dL_law_1033 ?_
  refine l_sld hx hb hX hbl hS (n + 1) (by omega) (by omega) hL dL_law_1034 ?_
  refine lv_aload_n hx hb dL_law_1035 rfl (lv_at hl 0 rfl) ?_
  refine lv_iload_n hx hb dL_law_1036 rfl (lv_at hl 3 rfl) ?_
  refine z_iconst hx hb dL_law_1037 ?_
  refine z_iadd hx hb dL_law_1038 ?_
  refine l_sld hx hb hX hbl hS (n + 2) (by omega) (by omega) hL dL_law_1039 ?_
  refine lv_aload_n hx hb dL_law_1040 rfl (lv_at hl 0 rfl) ?_
  refine lv_iload_n hx hb dL_law_1041 rfl (lv_at hl 3 rfl) ?_
  refine z_iconst hx hb dL_law_1042 ?_
  refine z_iadd hx hb dL_law_1043 ?_
  refine l_sld hx hb hX hbl hS (n + 3) (by omega) (by omega) hL dL_law_1044 ?_
  refine lv_aload_n hx hb dL_law_1045 rfl (lv_at hl 0 rfl) ?_
  refine lv_iload_n hx hb dL_law_1046 rfl (lv_at hl 3 rfl) ?_
  refine z_iconst hx hb dL_law_1047 ?_
  refine z_iadd hx hb dL_law_1048 ?_
  refine l_sld hx hb hX hbl hS (n + 4) (by omega) (by omega) hL dL_law_1049 ?_
  refine lv_aload_n hx hb dL_law_1050 rfl (lv_at hl 0 rfl) ?_
  refine lv_iload_n hx hb dL_law_1051 rfl (lv_at hl 3 rfl) ?_
  refine z_iconst hx hb dL_law_1052 ?_
  refine z_iadd hx hb dL_law_1053 ?_
  refine l_sld hx hb hX hbl hS (n + 5) (by omega) (by omega) hL dL_law_1054 ?_
  refine l_mL (n := 5) (As := [.int (iI (xs (n + 1)).toInt), .int (iI (xs (n + 2)).toInt), .int (iI (xs (n + 3)).toInt), .int (iI (xs (n + 4)).toInt), .int (iI (xs (n + 5)).toInt)]) (rest := [.long (lL (spComp τ (xs (n + 1)).toInt (xs (n + 2)).toInt (xs (n + 3)).toInt (xs (n + 4)).toInt (xs (n + 5)).toInt))]) hx hb hml hts hown hKm hW.2.1 (c8_composite l D (cT 0) (cT 1) am τ hI.inv _ (i_r _) _ (i_r _) _ (i_r _) _ (i_r _) _ (i_r _)) gL_law_X8_composite rfl rfl rfl (by decide +kernel) ⟨by decide, by decide⟩ rfl hl.1 rfl (Nat.le_of_ble_eq_true rfl) ⟨(show cells ≤ 600000 by omega), (show slots ≤ 7302250 by omega)⟩ dL_law_1055 ?_
  refine l_leq (tgt := 1177) hx hb dL_law_1058 dL_law_1059 (by decide) ?_
  refine W.widen (k := cells + 10) (n := slots + 154) (by omega) (by omega) ?_
  exact kk ad _ ρ H locs rfl hI hW hS
set_option maxHeartbeats 4000000 in
set_option maxRecDepth 100000 in
theorem lb_cost {p : Program} {l : Launch} {e : Env} {s : State} {m : MethodId} {below : List Frame} {meth : Method} {c : Code} {D : va_G} {cT : Nat → ClassId} {ad : Adr} {am : Nat → Nat} {τ ρ : Tau} {b L n : Nat} {xs : Nat → Int32} {H : Heap} {locs : List Loc} {cells slots : Nat} {ls : Array Slot} {Q : State → Prop} (C0 : LC p s m c D cT b L xs) (hn : n + 6 ≤ L) (hcl : cells ≤ 500000) (hsl : slots ≤ 7000000) (hl : LV ls b ad am n) (hI : IZ τ) (hW : LW D cT ad am τ τ ρ s.heap.size H) (hS : va_S (fun q : Nat => s.heap.size ≤ q) s.heap H locs) (kk : ∀ (ad2 : Adr) (τ2 ρ2 : Tau) (H2 : Heap) (locs2 : List Loc), ad2 0 0 = ad 0 0 → IZ τ2 → LW D cT ad2 am τ2 τ2 ρ2 s.heap.size H2 → va_S (fun q : Nat => s.heap.size ≤ q) s.heap H2 locs2 → W p l e room_1 s m #[Value.ref b] below meth c H2 locs2 (cells + 10) (slots + 154) Q (F0 m 1177 ls [])) : W p l e room_1 s m #[Value.ref b] below meth c H locs cells slots Q (F0 m 1064 ls []) := by
  obtain ⟨hx, hb, hml, hts, hown, hX, hbl, hK, hE, hL⟩ := C0
  have hKm : va_K D vwCl (mT (cT 0) (cT 1)) s := hK.sub [0, 1] rfl
  refine lv_aload_n hx hb dL_law_1064 rfl (lv_at hl 1 rfl) ?_
  refine lv_aload_n hx hb dL_law_1065 rfl (lv_at hl 0 rfl) ?_
  refine lv_iload_n hx hb dL_law_1066 rfl (lv_at hl 3 rfl) ?_
  refine z_iconst hx hb dL_law_1067 ?_
  refine z_iadd hx hb dL_law_1068 ?_
  refine l_sld hx hb hX hbl hS (n + 1) (by omega) (by omega) hL dL_law_1069 ?_
  refine lv_aload_n hx hb dL_law_1070 rfl (lv_at hl 0 rfl) ?_
  refine lv_iload_n hx hb dL_law_1071 rfl (lv_at hl 3 rfl) ?_
  refine z_iconst hx hb dL_law_1072 ?_
  refine z_iadd hx hb dL_law_1073 ?_
  refine l_sld hx hb hX hbl hS (n + 2) (by omega) (by omega) hL dL_law_1074 ?_
  refine l_cW (n := 2) (As := [.int (iI (xs (n + 1)).toInt), .int (iI (xs (n + 2)).toInt)]) (rest := []) hx hb hml hts hown hK hE.1 hW (fun q h => h) (va_recv hK (cw0 hW.1) (ci := 7) (q0 := 0) rfl rfl) hS (c7_cost l D cT ad τ ρ hI.1 _ (i_r _) _ (i_r _)) gL_law_X7_cost rfl rfl rfl (by decide +kernel) ⟨by decide, by decide⟩ rfl hl.1 rfl (Nat.le_of_ble_eq_true rfl) ⟨(show cells ≤ 600000 by omega), (show slots ≤ 7302250 by omega)⟩ dL_law_1075 (fun ρ H locs hW hS => ?_)
  refine lv_aload_n hx hb dL_law_1078 rfl (lv_at hl 2 rfl) ?_
  refine lv_aload_n hx hb dL_law_1079 rfl (lv_at hl 0 rfl) ?_
  refine lv_iload_n hx hb dL_law_1080 rfl (lv_at hl 3 rfl) ?_
  refine z_iconst hx hb dL_law_1081 ?_
  refine z_iadd hx hb dL_law_1082 ?_
  refine l_sld hx hb hX hbl hS (n + 1) (by omega) (by omega) hL dL_law_1083 ?_
  refine lv_aload_n hx hb dL_law_1084 rfl (lv_at hl 0 rfl) ?_
  refine lv_iload_n hx hb dL_law_1085 rfl (lv_at hl 3 rfl) ?_
  refine z_iconst hx hb dL_law_1086 ?_
  refine z_iadd hx hb dL_law_1087 ?_
  refine l_sld hx hb hX hbl hS (n + 2) (by omega) (by omega) hL dL_law_1088 ?_
  refine l_mX (n := 2) (As := [.int (iI (xs (n + 1)).toInt), .int (iI (xs (n + 2)).toInt)]) (rest := [.int (iI (spCost τ (xs (n + 1)).toInt (xs (n + 2)).toInt))]) hx hb hml hts hown hKm hW hS (c8_cost l D (cT 0) (cT 1) am τ hI.1 _ (i_r _) _ (i_r _)) gL_law_X8_cost rfl rfl rfl (by decide +kernel) ⟨by decide, by decide⟩ rfl hl.1 rfl (Nat.le_of_ble_eq_true rfl) ⟨(show cells ≤ 600000 by omega), (show slots ≤ 7302250 by omega)⟩ dL_law_1089 (fun τn hsc H locs hW hS => ?_)
  refine l_eq (tgt := 1177) hx hb dL_law_1092 (by decide) ?_
  refine W.widen (k := cells + 10) (n := slots + 154) (by omega) (by omega) ?_
  exact kk ad τn ρ H locs rfl (hI.sc hsc) (hW.sc hsc) hS
set_option maxHeartbeats 4000000 in
set_option maxRecDepth 100000 in
theorem lb_matched {p : Program} {l : Launch} {e : Env} {s : State} {m : MethodId} {below : List Frame} {meth : Method} {c : Code} {D : va_G} {cT : Nat → ClassId} {ad : Adr} {am : Nat → Nat} {τ ρ : Tau} {b L n : Nat} {xs : Nat → Int32} {H : Heap} {locs : List Loc} {cells slots : Nat} {ls : Array Slot} {Q : State → Prop} (C0 : LC p s m c D cT b L xs) (hn : n + 6 ≤ L) (hcl : cells ≤ 500000) (hsl : slots ≤ 7000000) (hl : LV ls b ad am n) (hI : IZ τ) (hW : LW D cT ad am τ τ ρ s.heap.size H) (hS : va_S (fun q : Nat => s.heap.size ≤ q) s.heap H locs) (kk : ∀ (ad2 : Adr) (τ2 ρ2 : Tau) (H2 : Heap) (locs2 : List Loc), ad2 0 0 = ad 0 0 → IZ τ2 → LW D cT ad2 am τ2 τ2 ρ2 s.heap.size H2 → va_S (fun q : Nat => s.heap.size ≤ q) s.heap H2 locs2 → W p l e room_1 s m #[Value.ref b] below meth c H2 locs2 (cells + 10) (slots + 154) Q (F0 m 1177 ls [])) : W p l e room_1 s m #[Value.ref b] below meth c H locs cells slots Q (F0 m 1097 ls []) := by
  obtain ⟨hx, hb, hml, hts, hown, hX, hbl, hK, hE, hL⟩ := C0
  have hKm : va_K D vwCl (mT (cT 0) (cT 1)) s := hK.sub [0, 1] rfl
  refine lv_aload_n hx hb dL_law_1097 rfl (lv_at hl 1 rfl) ?_
  refine lv_aload_n hx hb dL_law_1098 rfl (lv_at hl 0 rfl) ?_
  refine lv_iload_n hx hb dL_law_1099 rfl (lv_at hl 3 rfl) ?_
  refine z_iconst hx hb dL_law_1100 ?_
  refine z_iadd hx hb dL_law_1101 ?_
  refine l_sld hx hb hX hbl hS (n + 1) (by omega) (by omega) hL dL_law_1102 ?_
  refine lv_aload_n hx hb dL_law_1103 rfl (lv_at hl 0 rfl) ?_
  refine lv_iload_n hx hb dL_law_1104 rfl (lv_at hl 3 rfl) ?_
  refine z_iconst hx hb dL_law_1105 ?_
  refine z_iadd hx hb dL_law_1106 ?_
  refine l_sld hx hb hX hbl hS (n + 2) (by omega) (by omega) hL dL_law_1107 ?_
  refine lv_aload_n hx hb dL_law_1108 rfl (lv_at hl 0 rfl) ?_
  refine lv_iload_n hx hb dL_law_1109 rfl (lv_at hl 3 rfl) ?_
  refine z_iconst hx hb dL_law_1110 ?_
  refine z_iadd hx hb dL_law_1111 ?_
  refine l_sld hx hb hX hbl hS (n + 3) (by omega) (by omega) hL dL_law_1112 ?_
  refine l_cW (n := 3) (As := [.int (iI (xs (n + 1)).toInt), .int (iI (xs (n + 2)).toInt), .int (iI (xs (n + 3)).toInt)]) (rest := []) hx hb hml hts hown hK hE.1 hW (fun q h => h) (va_recv hK (cw0 hW.1) (ci := 7) (q0 := 0) rfl rfl) hS (c7_matched l D cT ad τ ρ hI.1 _ (i_r _) _ (i_r _) _ (i_r _)) gL_law_X7_matched rfl rfl rfl (by decide +kernel) ⟨by decide, by decide⟩ rfl hl.1 rfl (Nat.le_of_ble_eq_true rfl) ⟨(show cells ≤ 600000 by omega), (show slots ≤ 7302250 by omega)⟩ dL_law_1113 (fun ρ H locs hW hS => ?_)
  refine lv_aload_n hx hb dL_law_1116 rfl (lv_at hl 2 rfl) ?_
  refine lv_aload_n hx hb dL_law_1117 rfl (lv_at hl 0 rfl) ?_
  refine lv_iload_n hx hb dL_law_1118 rfl (lv_at hl 3 rfl) ?_
  refine z_iconst hx hb dL_law_1119 ?_
  refine z_iadd hx hb dL_law_1120 ?_
  refine l_sld hx hb hX hbl hS (n + 1) (by omega) (by omega) hL dL_law_1121 ?_
  refine lv_aload_n hx hb dL_law_1122 rfl (lv_at hl 0 rfl) ?_
  refine lv_iload_n hx hb dL_law_1123 rfl (lv_at hl 3 rfl) ?_
  refine z_iconst hx hb dL_law_1124 ?_
  refine z_iadd hx hb dL_law_1125 ?_
  refine l_sld hx hb hX hbl hS (n + 2) (by omega) (by omega) hL dL_law_1126 ?_
  refine lv_aload_n hx hb dL_law_1127 rfl (lv_at hl 0 rfl) ?_
  refine lv_iload_n hx hb dL_law_1128 rfl (lv_at hl 3 rfl) ?_
  refine z_iconst hx hb dL_law_1129 ?_
  refine z_iadd hx hb dL_law_1130 ?_
  refine l_sld hx hb hX hbl hS (n + 3) (by omega) (by omega) hL dL_law_1131 ?_
  refine l_mX (n := 3) (As := [.int (iI (xs (n + 1)).toInt), .int (iI (xs (n + 2)).toInt), .int (iI (xs (n + 3)).toInt)]) (rest := [.int (iI (spMat τ (xs (n + 1)).toInt (xs (n + 2)).toInt (xs (n + 3)).toInt))]) hx hb hml hts hown hKm hW hS (c8_matched l D (cT 0) (cT 1) am τ hI.1 _ (i_r _) _ (i_r _) _ (i_r _)) gL_law_X8_matched rfl rfl rfl (by decide +kernel) ⟨by decide, by decide⟩ rfl hl.1 rfl (Nat.le_of_ble_eq_true rfl) ⟨(show cells ≤ 600000 by omega), (show slots ≤ 7302250 by omega)⟩ dL_law_1132 (fun τn hsc H locs hW hS => ?_)
  refine l_eq (tgt := 1177) hx hb dL_law_1135 (by decide) ?_
  refine W.widen (k := cells + 10) (n := slots + 154) (by omega) (by omega) ?_
  exact kk ad τn ρ H locs rfl (hI.sc hsc) (hW.sc hsc) hS
set_option maxHeartbeats 4000000 in
set_option maxRecDepth 100000 in
theorem lb_count {p : Program} {l : Launch} {e : Env} {s : State} {m : MethodId} {below : List Frame} {meth : Method} {c : Code} {D : va_G} {cT : Nat → ClassId} {ad : Adr} {am : Nat → Nat} {τ ρ : Tau} {b L n : Nat} {xs : Nat → Int32} {H : Heap} {locs : List Loc} {cells slots : Nat} {ls : Array Slot} {Q : State → Prop} (C0 : LC p s m c D cT b L xs) (hn : n + 6 ≤ L) (hcl : cells ≤ 500000) (hsl : slots ≤ 7000000) (hl : LV ls b ad am n) (hI : IZ τ) (hW : LW D cT ad am τ τ ρ s.heap.size H) (hS : va_S (fun q : Nat => s.heap.size ≤ q) s.heap H locs) (kk : ∀ (ad2 : Adr) (τ2 ρ2 : Tau) (H2 : Heap) (locs2 : List Loc), ad2 0 0 = ad 0 0 → IZ τ2 → LW D cT ad2 am τ2 τ2 ρ2 s.heap.size H2 → va_S (fun q : Nat => s.heap.size ≤ q) s.heap H2 locs2 → W p l e room_1 s m #[Value.ref b] below meth c H2 locs2 (cells + 10) (slots + 154) Q (F0 m 1177 ls [])) : W p l e room_1 s m #[Value.ref b] below meth c H locs cells slots Q (F0 m 1140 ls []) := by
  obtain ⟨hx, hb, hml, hts, hown, hX, hbl, hK, hE, hL⟩ := C0
  have hKm : va_K D vwCl (mT (cT 0) (cT 1)) s := hK.sub [0, 1] rfl
  refine lv_aload_n hx hb dL_law_1140 rfl (lv_at hl 1 rfl) ?_
  refine lv_aload_n hx hb dL_law_1141 rfl (lv_at hl 0 rfl) ?_
  refine lv_iload_n hx hb dL_law_1142 rfl (lv_at hl 3 rfl) ?_
  refine z_iconst hx hb dL_law_1143 ?_
  refine z_iadd hx hb dL_law_1144 ?_
  refine l_sld hx hb hX hbl hS (n + 1) (by omega) (by omega) hL dL_law_1145 ?_
  refine c_call (n := 1) (As := [.int (iI (xs (n + 1)).toInt)]) (rest := []) hx hb hml hts hown hK hE.1 hW.1 (va_recv hK (cw0 hW.1) (ci := 7) (q0 := 0) rfl rfl) (c7_count l D cT ad τ ρ hI.inv _ (i_r _)) gL_law_X7_count rfl rfl rfl (by decide +kernel) ⟨by decide, by decide⟩ rfl hl.1 rfl (Nat.le_of_ble_eq_true rfl) ⟨(show cells ≤ 600000 by omega), (show slots ≤ 7302250 by omega)⟩ dL_law_1146 ?_
  refine lv_aload_n hx hb dL_law_1149 rfl (lv_at hl 2 rfl) ?_
  refine lv_aload_n hx hb dL_law_1150 rfl (lv_at hl 0 rfl) ?_
  refine lv_iload_n hx hb dL_law_1151 rfl (lv_at hl 3 rfl) ?_
  refine z_iconst hx hb dL_law_1152 ?_
  refine z_iadd hx hb dL_law_1153 ?_
  refine l_sld hx hb hX hbl hS (n + 1) (by omega) (by omega) hL dL_law_1154 ?_
  refine m_call (n := 1) (As := [.int (iI (xs (n + 1)).toInt)]) (rest := [.int (iI (spCount τ (xs (n + 1)).toInt))]) hx hb hml hts hown hKm hW.2.1 (c8_count l D (cT 0) (cT 1) am τ hI.inv _ (i_r _)) gL_law_X8_count rfl rfl rfl (by decide +kernel) ⟨by decide, by decide⟩ rfl hl.1 rfl (Nat.le_of_ble_eq_true rfl) ⟨(show cells ≤ 600000 by omega), (show slots ≤ 7302250 by omega)⟩ dL_law_1155 ?_
  refine l_eq (tgt := 1177) hx hb dL_law_1158 (by decide) ?_
  refine W.widen (k := cells + 10) (n := slots + 154) (by omega) (by omega) ?_
  exact kk ad _ ρ H locs rfl hI hW hS
set_option maxHeartbeats 4000000 in
set_option maxRecDepth 100000 in
theorem lb_digest {p : Program} {l : Launch} {e : Env} {s : State} {m : MethodId} {below : List Frame} {meth : Method} {c : Code} {D : va_G} {cT : Nat → ClassId} {ad : Adr} {am : Nat → Nat} {τ ρ : Tau} {b L n : Nat} {xs : Nat → Int32} {H : Heap} {locs : List Loc} {cells slots : Nat} {ls : Array Slot} {Q : State → Prop} (C0 : LC p s m c D cT b L xs) (hn : n + 6 ≤ L) (hcl : cells ≤ 500000) (hsl : slots ≤ 7000000) (hl : LV ls b ad am n) (hI : IZ τ) (hW : LW D cT ad am τ τ ρ s.heap.size H) (hS : va_S (fun q : Nat => s.heap.size ≤ q) s.heap H locs) (kk : ∀ (ad2 : Adr) (τ2 ρ2 : Tau) (H2 : Heap) (locs2 : List Loc), ad2 0 0 = ad 0 0 → IZ τ2 → LW D cT ad2 am τ2 τ2 ρ2 s.heap.size H2 → va_S (fun q : Nat => s.heap.size ≤ q) s.heap H2 locs2 → W p l e room_1 s m #[Value.ref b] below meth c H2 locs2 (cells + 10) (slots + 154) Q (F0 m 1177 ls [])) : W p l e room_1 s m #[Value.ref b] below meth c H locs cells slots Q (F0 m 1163 ls []) := by
  obtain ⟨hx, hb, hml, hts, hown, hX, hbl, hK, hE, hL⟩ := C0
  have hKm : va_K D vwCl (mT (cT 0) (cT 1)) s := hK.sub [0, 1] rfl
  refine lv_aload_n hx hb dL_law_1163 rfl (lv_at hl 1 rfl) ?_
  refine c_callL (n := 0) (As := []) (rest := []) hx hb hml hts hown hK hE.1 hW.1 (va_recv hK (cw0 hW.1) (ci := 7) (q0 := 0) rfl rfl) (c7_digest l D cT ad τ ρ hI.inv ) gL_law_X7_digest rfl rfl rfl (by decide +kernel) ⟨by decide, by decide⟩ rfl hl.1 rfl (Nat.le_of_ble_eq_true rfl) ⟨(show cells ≤ 600000 by omega), (show slots ≤ 7302250 by omega)⟩ dL_law_1164 ?_
  refine lv_aload_n hx hb dL_law_1167 rfl (lv_at hl 2 rfl) ?_
  refine l_mL (n := 0) (As := []) (rest := [.long (lL (spDig τ))]) hx hb hml hts hown hKm hW.2.1 (c8_digest l D (cT 0) (cT 1) am τ hI.1 ) gL_law_X8_digest rfl rfl rfl (by decide +kernel) ⟨by decide, by decide⟩ rfl hl.1 rfl (Nat.le_of_ble_eq_true rfl) ⟨(show cells ≤ 600000 by omega), (show slots ≤ 7302250 by omega)⟩ dL_law_1168 ?_
  refine l_leq (tgt := 1177) hx hb dL_law_1171 dL_law_1172 (by decide) ?_
  refine W.widen (k := cells + 10) (n := slots + 154) (by omega) (by omega) ?_
  exact kk ad _ ρ H locs rfl hI hW hS
