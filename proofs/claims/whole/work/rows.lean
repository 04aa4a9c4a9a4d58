section
-- ===== PART A: goes FIRST, ahead of the names: the tables' words, and 'selects' of the private methods out of them =====
/-- a private method of a class that the tables say can be made, by its rows of tables_1 -/
def lw_okq (q : MethodName × Nat) : Prop := (q.1.cls ≠ "java/lang/invoke/MethodHandle" ∧ q.1.cls ≠ "java/lang/invoke/VarHandle") ∧ Cond.instantiable q.1.cls q.2 ∈ tables_1 ∧ Cond.privateMethod q.1 ∈ tables_1 ∧ Cond.instanceMethod q.1 ∈ tables_1
theorem lw_p0 : lw_okq (⟨"CoreShed", "holeNamed", "(I)LCoreShed$Hole;"⟩, 11) := ⟨⟨by decide +kernel, by decide +kernel⟩, List.mem_of_getElem? (i := 12) (by decide +kernel), List.mem_of_getElem? (i := 158) (by decide +kernel), List.mem_of_getElem? (i := 159) (by decide +kernel)⟩
theorem lw_p1 : lw_okq (⟨"CoreShed", "isSampled", "(I)Z"⟩, 11) := ⟨⟨by decide +kernel, by decide +kernel⟩, List.mem_of_getElem? (i := 12) (by decide +kernel), List.mem_of_getElem? (i := 169) (by decide +kernel), List.mem_of_getElem? (i := 170) (by decide +kernel)⟩
theorem lw_p2 : lw_okq (⟨"CoreShed$Mend", "measure", "(LCoreShed$Hole;)I"⟩, 2) := ⟨⟨by decide +kernel, by decide +kernel⟩, List.mem_of_getElem? (i := 26) (by decide +kernel), List.mem_of_getElem? (i := 215) (by decide +kernel), List.mem_of_getElem? (i := 216) (by decide +kernel)⟩
theorem lw_p3 : lw_okq (⟨"CoreShed$Mend", "mostAbove", "(LCoreShed$Hole;I)I"⟩, 2) := ⟨⟨by decide +kernel, by decide +kernel⟩, List.mem_of_getElem? (i := 26) (by decide +kernel), List.mem_of_getElem? (i := 219) (by decide +kernel), List.mem_of_getElem? (i := 220) (by decide +kernel)⟩
theorem lw_p4 : lw_okq (⟨"CoreShed", "logNamed", "(II)LCoreShed$Log;"⟩, 11) := ⟨⟨by decide +kernel, by decide +kernel⟩, List.mem_of_getElem? (i := 12) (by decide +kernel), List.mem_of_getElem? (i := 232) (by decide +kernel), List.mem_of_getElem? (i := 233) (by decide +kernel)⟩
theorem lw_p5 : lw_okq (⟨"CoreShed", "isTaken", "(III)Z"⟩, 11) := ⟨⟨by decide +kernel, by decide +kernel⟩, List.mem_of_getElem? (i := 12) (by decide +kernel), List.mem_of_getElem? (i := 273) (by decide +kernel), List.mem_of_getElem? (i := 274) (by decide +kernel)⟩
theorem lw_p6 : lw_okq (⟨"CoreShed", "sampleNamed", "(I)LCoreShed$Sample;"⟩, 11) := ⟨⟨by decide +kernel, by decide +kernel⟩, List.mem_of_getElem? (i := 12) (by decide +kernel), List.mem_of_getElem? (i := 306) (by decide +kernel), List.mem_of_getElem? (i := 307) (by decide +kernel)⟩
theorem lw_p7 : lw_okq (⟨"CoreShed", "batchNamed", "(I)LCoreShed$Batch;"⟩, 11) := ⟨⟨by decide +kernel, by decide +kernel⟩, List.mem_of_getElem? (i := 12) (by decide +kernel), List.mem_of_getElem? (i := 334) (by decide +kernel), List.mem_of_getElem? (i := 335) (by decide +kernel)⟩
theorem lw_p8 : lw_okq (⟨"CoreShed", "placeNamed", "(II)LCoreShed$Place;"⟩, 11) := ⟨⟨by decide +kernel, by decide +kernel⟩, List.mem_of_getElem? (i := 12) (by decide +kernel), List.mem_of_getElem? (i := 394) (by decide +kernel), List.mem_of_getElem? (i := 395) (by decide +kernel)⟩
theorem lw_p9 : lw_okq (⟨"CoreShed$Batch", "isRight", "(LCoreShed$Place;II)Z"⟩, 2) := ⟨⟨by decide +kernel, by decide +kernel⟩, List.mem_of_getElem? (i := 313) (by decide +kernel), List.mem_of_getElem? (i := 423) (by decide +kernel), List.mem_of_getElem? (i := 424) (by decide +kernel)⟩
theorem lw_p10 : lw_okq (⟨"CoreShed", "gradingPlace", "(I)LCoreShed$Place;"⟩, 11) := ⟨⟨by decide +kernel, by decide +kernel⟩, List.mem_of_getElem? (i := 12) (by decide +kernel), List.mem_of_getElem? (i := 478) (by decide +kernel), List.mem_of_getElem? (i := 479) (by decide +kernel)⟩
theorem lw_p11 : lw_okq (⟨"CoreShed$Matching", "leastFrom", "(IILCoreShed$Log;LCoreShed$Log;[I)I"⟩, 1) := ⟨⟨by decide +kernel, by decide +kernel⟩, List.mem_of_getElem? (i := 42) (by decide +kernel), List.mem_of_getElem? (i := 502) (by decide +kernel), List.mem_of_getElem? (i := 503) (by decide +kernel)⟩
theorem lw_p12 : lw_okq (⟨"CoreShed$Matching", "pairedSum", "(IILCoreShed$Log;LCoreShed$Log;)I"⟩, 1) := ⟨⟨by decide +kernel, by decide +kernel⟩, List.mem_of_getElem? (i := 42) (by decide +kernel), List.mem_of_getElem? (i := 516) (by decide +kernel), List.mem_of_getElem? (i := 517) (by decide +kernel)⟩
theorem lw_p13 : lw_okq (⟨"CoreShed$Matching", "leastPartner", "(IILCoreShed$Log;LCoreShed$Log;[I)I"⟩, 1) := ⟨⟨by decide +kernel, by decide +kernel⟩, List.mem_of_getElem? (i := 42) (by decide +kernel), List.mem_of_getElem? (i := 529) (by decide +kernel), List.mem_of_getElem? (i := 530) (by decide +kernel)⟩
theorem lw_p14 : lw_okq (⟨"CoreShed", "quartersTaken", "()I"⟩, 11) := ⟨⟨by decide +kernel, by decide +kernel⟩, List.mem_of_getElem? (i := 12) (by decide +kernel), List.mem_of_getElem? (i := 537) (by decide +kernel), List.mem_of_getElem? (i := 538) (by decide +kernel)⟩
theorem lw_p15 : lw_okq (⟨"CoreShed", "soundBatches", "()I"⟩, 11) := ⟨⟨by decide +kernel, by decide +kernel⟩, List.mem_of_getElem? (i := 12) (by decide +kernel), List.mem_of_getElem? (i := 541) (by decide +kernel), List.mem_of_getElem? (i := 542) (by decide +kernel)⟩
def lw_privs_1 : List (MethodName × Nat) := [(⟨"CoreShed", "holeNamed", "(I)LCoreShed$Hole;"⟩, 11), (⟨"CoreShed", "isSampled", "(I)Z"⟩, 11), (⟨"CoreShed$Mend", "measure", "(LCoreShed$Hole;)I"⟩, 2), (⟨"CoreShed$Mend", "mostAbove", "(LCoreShed$Hole;I)I"⟩, 2), (⟨"CoreShed", "logNamed", "(II)LCoreShed$Log;"⟩, 11), (⟨"CoreShed", "isTaken", "(III)Z"⟩, 11), (⟨"CoreShed", "sampleNamed", "(I)LCoreShed$Sample;"⟩, 11), (⟨"CoreShed", "batchNamed", "(I)LCoreShed$Batch;"⟩, 11), (⟨"CoreShed", "placeNamed", "(II)LCoreShed$Place;"⟩, 11), (⟨"CoreShed$Batch", "isRight", "(LCoreShed$Place;II)Z"⟩, 2), (⟨"CoreShed", "gradingPlace", "(I)LCoreShed$Place;"⟩, 11), (⟨"CoreShed$Matching", "leastFrom", "(IILCoreShed$Log;LCoreShed$Log;[I)I"⟩, 1), (⟨"CoreShed$Matching", "pairedSum", "(IILCoreShed$Log;LCoreShed$Log;)I"⟩, 1), (⟨"CoreShed$Matching", "leastPartner", "(IILCoreShed$Log;LCoreShed$Log;[I)I"⟩, 1), (⟨"CoreShed", "quartersTaken", "()I"⟩, 11), (⟨"CoreShed", "soundBatches", "()I"⟩, 11)]
theorem lw_r1 : ∀ q ∈ lw_privs_1, lw_okq q := List.forall_mem_cons.mpr ⟨lw_p0, List.forall_mem_cons.mpr ⟨lw_p1, List.forall_mem_cons.mpr ⟨lw_p2, List.forall_mem_cons.mpr ⟨lw_p3, List.forall_mem_cons.mpr ⟨lw_p4, List.forall_mem_cons.mpr ⟨lw_p5, List.forall_mem_cons.mpr ⟨lw_p6, List.forall_mem_cons.mpr ⟨lw_p7, List.forall_mem_cons.mpr ⟨lw_p8, List.forall_mem_cons.mpr ⟨lw_p9, List.forall_mem_cons.mpr ⟨lw_p10, List.forall_mem_cons.mpr ⟨lw_p11, List.forall_mem_cons.mpr ⟨lw_p12, List.forall_mem_cons.mpr ⟨lw_p13, List.forall_mem_cons.mpr ⟨lw_p14, List.forall_mem_cons.mpr ⟨lw_p15, fun _ h => absurd h List.not_mem_nil⟩⟩⟩⟩⟩⟩⟩⟩⟩⟩⟩⟩⟩⟩⟩⟩
theorem lw_p16 : lw_okq (⟨"CoreShedModel", "isHole", "(I)Z"⟩, 27) := ⟨⟨by decide +kernel, by decide +kernel⟩, List.mem_of_getElem? (i := 575) (by decide +kernel), List.mem_of_getElem? (i := 671) (by decide +kernel), List.mem_of_getElem? (i := 672) (by decide +kernel)⟩
theorem lw_p17 : lw_okq (⟨"CoreShedModel", "isUsed", "(I)Z"⟩, 27) := ⟨⟨by decide +kernel, by decide +kernel⟩, List.mem_of_getElem? (i := 575) (by decide +kernel), List.mem_of_getElem? (i := 679) (by decide +kernel), List.mem_of_getElem? (i := 680) (by decide +kernel)⟩
theorem lw_p18 : lw_okq (⟨"CoreShedModel", "endOf", "(I)I"⟩, 27) := ⟨⟨by decide +kernel, by decide +kernel⟩, List.mem_of_getElem? (i := 575) (by decide +kernel), List.mem_of_getElem? (i := 683) (by decide +kernel), List.mem_of_getElem? (i := 684) (by decide +kernel)⟩
theorem lw_p19 : lw_okq (⟨"CoreShedModel", "isStretch", "(III)Z"⟩, 27) := ⟨⟨by decide +kernel, by decide +kernel⟩, List.mem_of_getElem? (i := 575) (by decide +kernel), List.mem_of_getElem? (i := 695) (by decide +kernel), List.mem_of_getElem? (i := 696) (by decide +kernel)⟩
theorem lw_p20 : lw_okq (⟨"CoreShedModel", "recoveredOf", "(III)I"⟩, 27) := ⟨⟨by decide +kernel, by decide +kernel⟩, List.mem_of_getElem? (i := 575) (by decide +kernel), List.mem_of_getElem? (i := 699) (by decide +kernel), List.mem_of_getElem? (i := 700) (by decide +kernel)⟩
theorem lw_p21 : lw_okq (⟨"CoreShedModel", "mend", "(I)I"⟩, 27) := ⟨⟨by decide +kernel, by decide +kernel⟩, List.mem_of_getElem? (i := 575) (by decide +kernel), List.mem_of_getElem? (i := 715) (by decide +kernel), List.mem_of_getElem? (i := 716) (by decide +kernel)⟩
theorem lw_p22 : lw_okq (⟨"CoreShedModel", "fromOf", "(II)I"⟩, 27) := ⟨⟨by decide +kernel, by decide +kernel⟩, List.mem_of_getElem? (i := 575) (by decide +kernel), List.mem_of_getElem? (i := 739) (by decide +kernel), List.mem_of_getElem? (i := 740) (by decide +kernel)⟩
theorem lw_p23 : lw_okq (⟨"CoreShedModel", "codeOf", "(II)I"⟩, 27) := ⟨⟨by decide +kernel, by decide +kernel⟩, List.mem_of_getElem? (i := 575) (by decide +kernel), List.mem_of_getElem? (i := 743) (by decide +kernel), List.mem_of_getElem? (i := 744) (by decide +kernel)⟩
theorem lw_p24 : lw_okq (⟨"CoreShedModel", "isSample", "(I)Z"⟩, 27) := ⟨⟨by decide +kernel, by decide +kernel⟩, List.mem_of_getElem? (i := 575) (by decide +kernel), List.mem_of_getElem? (i := 759) (by decide +kernel), List.mem_of_getElem? (i := 760) (by decide +kernel)⟩
theorem lw_p25 : lw_okq (⟨"CoreShedModel", "isBatch", "(I)Z"⟩, 27) := ⟨⟨by decide +kernel, by decide +kernel⟩, List.mem_of_getElem? (i := 575) (by decide +kernel), List.mem_of_getElem? (i := 771) (by decide +kernel), List.mem_of_getElem? (i := 772) (by decide +kernel)⟩
theorem lw_p26 : lw_okq (⟨"CoreShedModel", "hasResults", "(I)Z"⟩, 27) := ⟨⟨by decide +kernel, by decide +kernel⟩, List.mem_of_getElem? (i := 575) (by decide +kernel), List.mem_of_getElem? (i := 775) (by decide +kernel), List.mem_of_getElem? (i := 776) (by decide +kernel)⟩
theorem lw_p27 : lw_okq (⟨"CoreShedModel", "placeOf", "(II)I"⟩, 27) := ⟨⟨by decide +kernel, by decide +kernel⟩, List.mem_of_getElem? (i := 575) (by decide +kernel), List.mem_of_getElem? (i := 779) (by decide +kernel), List.mem_of_getElem? (i := 780) (by decide +kernel)⟩
theorem lw_p28 : lw_okq (⟨"CoreShedModel", "add", "(IIII)I"⟩, 27) := ⟨⟨by decide +kernel, by decide +kernel⟩, List.mem_of_getElem? (i := 575) (by decide +kernel), List.mem_of_getElem? (i := 783) (by decide +kernel), List.mem_of_getElem? (i := 784) (by decide +kernel)⟩
theorem lw_p29 : lw_okq (⟨"CoreShedModel", "quarter", "(II)I"⟩, 27) := ⟨⟨by decide +kernel, by decide +kernel⟩, List.mem_of_getElem? (i := 575) (by decide +kernel), List.mem_of_getElem? (i := 787) (by decide +kernel), List.mem_of_getElem? (i := 788) (by decide +kernel)⟩
theorem lw_p30 : lw_okq (⟨"CoreShedModel", "isPlace", "(II)Z"⟩, 27) := ⟨⟨by decide +kernel, by decide +kernel⟩, List.mem_of_getElem? (i := 575) (by decide +kernel), List.mem_of_getElem? (i := 804) (by decide +kernel), List.mem_of_getElem? (i := 805) (by decide +kernel)⟩
theorem lw_p31 : lw_okq (⟨"CoreShedModel", "isTold", "(I)Z"⟩, 27) := ⟨⟨by decide +kernel, by decide +kernel⟩, List.mem_of_getElem? (i := 575) (by decide +kernel), List.mem_of_getElem? (i := 821) (by decide +kernel), List.mem_of_getElem? (i := 822) (by decide +kernel)⟩
def lw_privs_2 : List (MethodName × Nat) := [(⟨"CoreShedModel", "isHole", "(I)Z"⟩, 27), (⟨"CoreShedModel", "isUsed", "(I)Z"⟩, 27), (⟨"CoreShedModel", "endOf", "(I)I"⟩, 27), (⟨"CoreShedModel", "isStretch", "(III)Z"⟩, 27), (⟨"CoreShedModel", "recoveredOf", "(III)I"⟩, 27), (⟨"CoreShedModel", "mend", "(I)I"⟩, 27), (⟨"CoreShedModel", "fromOf", "(II)I"⟩, 27), (⟨"CoreShedModel", "codeOf", "(II)I"⟩, 27), (⟨"CoreShedModel", "isSample", "(I)Z"⟩, 27), (⟨"CoreShedModel", "isBatch", "(I)Z"⟩, 27), (⟨"CoreShedModel", "hasResults", "(I)Z"⟩, 27), (⟨"CoreShedModel", "placeOf", "(II)I"⟩, 27), (⟨"CoreShedModel", "add", "(IIII)I"⟩, 27), (⟨"CoreShedModel", "quarter", "(II)I"⟩, 27), (⟨"CoreShedModel", "isPlace", "(II)Z"⟩, 27), (⟨"CoreShedModel", "isTold", "(I)Z"⟩, 27)]
theorem lw_r2 : ∀ q ∈ lw_privs_2, lw_okq q := List.forall_mem_cons.mpr ⟨lw_p16, List.forall_mem_cons.mpr ⟨lw_p17, List.forall_mem_cons.mpr ⟨lw_p18, List.forall_mem_cons.mpr ⟨lw_p19, List.forall_mem_cons.mpr ⟨lw_p20, List.forall_mem_cons.mpr ⟨lw_p21, List.forall_mem_cons.mpr ⟨lw_p22, List.forall_mem_cons.mpr ⟨lw_p23, List.forall_mem_cons.mpr ⟨lw_p24, List.forall_mem_cons.mpr ⟨lw_p25, List.forall_mem_cons.mpr ⟨lw_p26, List.forall_mem_cons.mpr ⟨lw_p27, List.forall_mem_cons.mpr ⟨lw_p28, List.forall_mem_cons.mpr ⟨lw_p29, List.forall_mem_cons.mpr ⟨lw_p30, List.forall_mem_cons.mpr ⟨lw_p31, fun _ h => absurd h List.not_mem_nil⟩⟩⟩⟩⟩⟩⟩⟩⟩⟩⟩⟩⟩⟩⟩⟩
theorem lw_p32 : lw_okq (⟨"CoreShedModel", "isSound", "(I)Z"⟩, 27) := ⟨⟨by decide +kernel, by decide +kernel⟩, List.mem_of_getElem? (i := 575) (by decide +kernel), List.mem_of_getElem? (i := 825) (by decide +kernel), List.mem_of_getElem? (i := 826) (by decide +kernel)⟩
theorem lw_p33 : lw_okq (⟨"CoreShedModel", "faultOf", "(I)I"⟩, 27) := ⟨⟨by decide +kernel, by decide +kernel⟩, List.mem_of_getElem? (i := 575) (by decide +kernel), List.mem_of_getElem? (i := 829) (by decide +kernel), List.mem_of_getElem? (i := 830) (by decide +kernel)⟩
theorem lw_p34 : lw_okq (⟨"CoreShedModel", "isGood", "(II)Z"⟩, 27) := ⟨⟨by decide +kernel, by decide +kernel⟩, List.mem_of_getElem? (i := 575) (by decide +kernel), List.mem_of_getElem? (i := 833) (by decide +kernel), List.mem_of_getElem? (i := 834) (by decide +kernel)⟩
theorem lw_p35 : lw_okq (⟨"CoreShedModel", "lower", "(I)I"⟩, 27) := ⟨⟨by decide +kernel, by decide +kernel⟩, List.mem_of_getElem? (i := 575) (by decide +kernel), List.mem_of_getElem? (i := 837) (by decide +kernel), List.mem_of_getElem? (i := 838) (by decide +kernel)⟩
theorem lw_p36 : lw_okq (⟨"CoreShedModel", "upper", "(I)I"⟩, 27) := ⟨⟨by decide +kernel, by decide +kernel⟩, List.mem_of_getElem? (i := 575) (by decide +kernel), List.mem_of_getElem? (i := 844) (by decide +kernel), List.mem_of_getElem? (i := 845) (by decide +kernel)⟩
theorem lw_p37 : lw_okq (⟨"CoreShedModel", "turn", "(II)V"⟩, 27) := ⟨⟨by decide +kernel, by decide +kernel⟩, List.mem_of_getElem? (i := 575) (by decide +kernel), List.mem_of_getElem? (i := 856) (by decide +kernel), List.mem_of_getElem? (i := 857) (by decide +kernel)⟩
theorem lw_p38 : lw_okq (⟨"CoreShedModel", "aboutOf", "(II)I"⟩, 27) := ⟨⟨by decide +kernel, by decide +kernel⟩, List.mem_of_getElem? (i := 575) (by decide +kernel), List.mem_of_getElem? (i := 868) (by decide +kernel), List.mem_of_getElem? (i := 869) (by decide +kernel)⟩
theorem lw_p39 : lw_okq (⟨"CoreShedModel", "gradeAt", "(I)I"⟩, 27) := ⟨⟨by decide +kernel, by decide +kernel⟩, List.mem_of_getElem? (i := 575) (by decide +kernel), List.mem_of_getElem? (i := 876) (by decide +kernel), List.mem_of_getElem? (i := 877) (by decide +kernel)⟩
theorem lw_p40 : lw_okq (⟨"CoreShedModel", "match", "(II)V"⟩, 27) := ⟨⟨by decide +kernel, by decide +kernel⟩, List.mem_of_getElem? (i := 575) (by decide +kernel), List.mem_of_getElem? (i := 891) (by decide +kernel), List.mem_of_getElem? (i := 892) (by decide +kernel)⟩
theorem lw_p41 : lw_okq (⟨"CoreShedModel", "thick", "(II)I"⟩, 27) := ⟨⟨by decide +kernel, by decide +kernel⟩, List.mem_of_getElem? (i := 575) (by decide +kernel), List.mem_of_getElem? (i := 896) (by decide +kernel), List.mem_of_getElem? (i := 897) (by decide +kernel)⟩
theorem lw_p42 : lw_okq (⟨"CoreShedModel", "mayGo", "(IIII)Z"⟩, 27) := ⟨⟨by decide +kernel, by decide +kernel⟩, List.mem_of_getElem? (i := 575) (by decide +kernel), List.mem_of_getElem? (i := 900) (by decide +kernel), List.mem_of_getElem? (i := 901) (by decide +kernel)⟩
theorem lw_p43 : lw_okq (⟨"CoreShedModel", "pairCost", "(IIII)I"⟩, 27) := ⟨⟨by decide +kernel, by decide +kernel⟩, List.mem_of_getElem? (i := 575) (by decide +kernel), List.mem_of_getElem? (i := 904) (by decide +kernel), List.mem_of_getElem? (i := 905) (by decide +kernel)⟩
def lw_privs_3 : List (MethodName × Nat) := [(⟨"CoreShedModel", "isSound", "(I)Z"⟩, 27), (⟨"CoreShedModel", "faultOf", "(I)I"⟩, 27), (⟨"CoreShedModel", "isGood", "(II)Z"⟩, 27), (⟨"CoreShedModel", "lower", "(I)I"⟩, 27), (⟨"CoreShedModel", "upper", "(I)I"⟩, 27), (⟨"CoreShedModel", "turn", "(II)V"⟩, 27), (⟨"CoreShedModel", "aboutOf", "(II)I"⟩, 27), (⟨"CoreShedModel", "gradeAt", "(I)I"⟩, 27), (⟨"CoreShedModel", "match", "(II)V"⟩, 27), (⟨"CoreShedModel", "thick", "(II)I"⟩, 27), (⟨"CoreShedModel", "mayGo", "(IIII)Z"⟩, 27), (⟨"CoreShedModel", "pairCost", "(IIII)I"⟩, 27)]
theorem lw_r3 : ∀ q ∈ lw_privs_3, lw_okq q := List.forall_mem_cons.mpr ⟨lw_p32, List.forall_mem_cons.mpr ⟨lw_p33, List.forall_mem_cons.mpr ⟨lw_p34, List.forall_mem_cons.mpr ⟨lw_p35, List.forall_mem_cons.mpr ⟨lw_p36, List.forall_mem_cons.mpr ⟨lw_p37, List.forall_mem_cons.mpr ⟨lw_p38, List.forall_mem_cons.mpr ⟨lw_p39, List.forall_mem_cons.mpr ⟨lw_p40, List.forall_mem_cons.mpr ⟨lw_p41, List.forall_mem_cons.mpr ⟨lw_p42, List.forall_mem_cons.mpr ⟨lw_p43, fun _ h => absurd h List.not_mem_nil⟩⟩⟩⟩⟩⟩⟩⟩⟩⟩⟩⟩
def lw_privs : List (MethodName × Nat) := lw_privs_1 ++ (lw_privs_2 ++ (lw_privs_3))
def lw_tbl : List Cond := k2_sels lw_privs ++ tables_1
theorem lw_privs_ok : ∀ q ∈ lw_privs, lw_okq q := by
  show ∀ q ∈ lw_privs_1 ++ (lw_privs_2 ++ (lw_privs_3)), lw_okq q
  exact List.forall_mem_append.mpr ⟨lw_r1, List.forall_mem_append.mpr ⟨lw_r2, lw_r3⟩⟩
end
section
/-! ===== BEGIN words of one list among another's, by their places ===== -/
theorem goodIn_r {big : List Cond} (ws : List Cond) (ps : List Nat) (hp : ws = ps.filterMap (fun i => big[i]?)) (h : ws.all goodWord = true) : GoodIn big ws := by
  intro w hw
  have h1 := List.all_eq_true.mp h w hw
  rw [hp] at hw
  obtain ⟨i, -, hi⟩ := List.mem_filterMap.mp hw
  have hm : w ∈ big := by first | exact List.mem_of_getElem? hi | exact List.getElem?_mem hi
  exact ⟨hm, good_of_word h1⟩
theorem goodIn_app {big a b : List Cond} (ha : GoodIn big a) (hb : GoodIn big b) : GoodIn big (a ++ b) := fun w h => (List.mem_append.mp h).elim (ha w) (hb w)
theorem goodIn_ca {big a b : List Cond} {c : Cond} (ha : GoodIn big (c :: a)) (hb : GoodIn big b) : GoodIn big (c :: (a ++ b)) := fun w h => (List.mem_cons.mp h).elim (fun e => ha w (List.mem_cons.mpr (Or.inl e))) (fun h => (List.mem_append.mp h).elim (fun h => ha w (List.mem_cons.mpr (Or.inr h))) (hb w))
theorem goodIn_sub {big ws : List Cond} (hm : ∀ w ∈ ws, w ∈ big) (h : ws.all goodWord = true) : GoodIn big ws := fun w hw => ⟨hm w hw, good_of_word (List.all_eq_true.mp h w hw)⟩
/-! ===== END ===== -/



/-! ===== BEGIN printed: names, fields, word lists, decode rows ===== -/
def RX0 : String := "CoreShed$Batch"
def TX0 : u_T := fun k => match k with
  | 0 => ("CoreShed$Batch", "places", "[LCoreShed$Place;", true)
  | _ => ("CoreShed$Batch", "size", "I", false)
def tyX0 : Nat → FieldType := fun k => match k with
  | 0 => .array (.object "CoreShed$Place")
  | _ => .int
abbrev wsX00 : List Cond := u_ws RX0 TX0 2
theorem nmX0 : ∀ a, a < 2 → ∀ b, b < 2 → a ≠ b → (TX0 a).2.1 ≠ (TX0 b).2.1 := by decide +kernel
theorem tyX0_ok : ∀ k, k < 2 → parseFieldDescriptor (TX0 k).2.2.1 = some (tyX0 k) := by decide +kernel
abbrev cX0_init : ByteArray := prog_2_method_1_code
def yX0_init : MethodName := ⟨RX0, "<init>", "()V"⟩
abbrev cX0_placeOf : ByteArray := prog_2_method_2_code
def yX0_placeOf : MethodName := ⟨RX0, "placeOf", "(I)LCoreShed$Place;"⟩
abbrev cX0_hasAnyResult : ByteArray := prog_2_method_3_code
def yX0_hasAnyResult : MethodName := ⟨RX0, "hasAnyResult", "()Z"⟩
abbrev cX0_isComplete : ByteArray := prog_2_method_4_code
def yX0_isComplete : MethodName := ⟨RX0, "isComplete", "()Z"⟩
abbrev cX0_isSound : ByteArray := prog_2_method_5_code
def yX0_isSound : MethodName := ⟨RX0, "isSound", "(II)Z"⟩
abbrev cX0_firstFault : ByteArray := prog_2_method_6_code
def yX0_firstFault : MethodName := ⟨RX0, "firstFault", "(II)I"⟩
abbrev cX0_isRight : ByteArray := prog_2_method_7_code
def yX0_isRight : MethodName := ⟨RX0, "isRight", "(LCoreShed$Place;II)Z"⟩
abbrev cX0_isNear : ByteArray := prog_2_method_8_code
def yX0_isNear : MethodName := ⟨RX0, "isNear", "(III)Z"⟩
abbrev cX0_leastMendingSwap : ByteArray := prog_2_method_9_code
def yX0_leastMendingSwap : MethodName := ⟨RX0, "leastMendingSwap", "(II)I"⟩
abbrev cX0_digestOnto : ByteArray := prog_2_method_10_code
def yX0_digestOnto : MethodName := ⟨RX0, "digestOnto", "(J)J"⟩
def RX1 : String := "CoreShed$Hole"
def TX1 : u_T := fun k => match k with
  | 0 => ("CoreShed$Hole", "drilled", "[I", true)
  | 1 => ("CoreShed$Hole", "cored", "[I", true)
  | 2 => ("CoreShed$Hole", "marks", "[I", true)
  | 3 => ("CoreShed$Hole", "firstLog", "LCoreShed$Log;", true)
  | 4 => ("CoreShed$Hole", "secondLog", "LCoreShed$Log;", true)
  | 5 => ("CoreShed$Hole", "runCount", "I", false)
  | 6 => ("CoreShed$Hole", "markCount", "I", false)
  | _ => ("CoreShed$Hole", "bottom", "I", false)
def tyX1 : Nat → FieldType := fun k => match k with
  | 0 => .array .int
  | 1 => .array .int
  | 2 => .array .int
  | 3 => .object "CoreShed$Log"
  | 4 => .object "CoreShed$Log"
  | 5 => .int
  | 6 => .int
  | _ => .int
abbrev wsX10 : List Cond := u_ws RX1 TX1 8
theorem nmX1 : ∀ a, a < 8 → ∀ b, b < 8 → a ≠ b → (TX1 a).2.1 ≠ (TX1 b).2.1 := by decide +kernel
theorem tyX1_ok : ∀ k, k < 8 → parseFieldDescriptor (TX1 k).2.2.1 = some (tyX1 k) := by decide +kernel
abbrev cX1_init : ByteArray := prog_3_method_1_code
def yX1_init : MethodName := ⟨RX1, "<init>", "()V"⟩
abbrev cX1_addRun : ByteArray := prog_3_method_2_code
def yX1_addRun : MethodName := ⟨RX1, "addRun", "(II)V"⟩
abbrev cX1_isLogged : ByteArray := prog_3_method_3_code
def yX1_isLogged : MethodName := ⟨RX1, "isLogged", "()Z"⟩
abbrev cX1_isStretch : ByteArray := prog_3_method_4_code
def yX1_isStretch : MethodName := ⟨RX1, "isStretch", "(II)Z"⟩
abbrev cX1_coreWithin : ByteArray := prog_3_method_5_code
def yX1_coreWithin : MethodName := ⟨RX1, "coreWithin", "(II)I"⟩
abbrev cX1_digestOnto : ByteArray := prog_3_method_6_code
def yX1_digestOnto : MethodName := ⟨RX1, "digestOnto", "(J)J"⟩
def RX2 : String := "CoreShed$Log"
def TX2 : u_T := fun k => match k with
  | 0 => ("CoreShed$Log", "depths", "[I", true)
  | 1 => ("CoreShed$Log", "codes", "[I", true)
  | _ => ("CoreShed$Log", "size", "I", false)
def tyX2 : Nat → FieldType := fun k => match k with
  | 0 => .array .int
  | 1 => .array .int
  | _ => .int
abbrev wsX20 : List Cond := u_ws RX2 TX2 3
theorem nmX2 : ∀ a, a < 3 → ∀ b, b < 3 → a ≠ b → (TX2 a).2.1 ≠ (TX2 b).2.1 := by decide +kernel
theorem tyX2_ok : ∀ k, k < 3 → parseFieldDescriptor (TX2 k).2.2.1 = some (tyX2 k) := by decide +kernel
abbrev cX2_init : ByteArray := prog_4_method_1_code
def yX2_init : MethodName := ⟨RX2, "<init>", "()V"⟩
abbrev cX2_add : ByteArray := prog_4_method_2_code
def yX2_add : MethodName := ⟨RX2, "add", "(II)V"⟩
abbrev cX2_top : ByteArray := prog_4_method_3_code
def yX2_top : MethodName := ⟨RX2, "top", "(I)I"⟩
abbrev cX2_bottom : ByteArray := prog_4_method_4_code
def yX2_bottom : MethodName := ⟨RX2, "bottom", "()I"⟩
abbrev cX2_thickness : ByteArray := prog_4_method_5_code
def yX2_thickness : MethodName := ⟨RX2, "thickness", "(I)I"⟩
abbrev cX2_indexAt : ByteArray := prog_4_method_6_code
def yX2_indexAt : MethodName := ⟨RX2, "indexAt", "(I)I"⟩
abbrev cX2_digestOnto : ByteArray := prog_4_method_7_code
def yX2_digestOnto : MethodName := ⟨RX2, "digestOnto", "(J)J"⟩
def RX3 : String := "CoreShed$Matching"
def TX3 : u_T := fun k => match k with
  | _ => ("CoreShed$Matching", "least", "[[I", true)
def tyX3 : Nat → FieldType := fun k => match k with
  | _ => .array (.array .int)
abbrev wsX30 : List Cond := u_ws RX3 TX3 1
theorem nmX3 : ∀ a, a < 1 → ∀ b, b < 1 → a ≠ b → (TX3 a).2.1 ≠ (TX3 b).2.1 := by decide +kernel
theorem tyX3_ok : ∀ k, k < 1 → parseFieldDescriptor (TX3 k).2.2.1 = some (tyX3 k) := by decide +kernel
abbrev cX3_init : ByteArray := prog_5_method_1_code
def yX3_init : MethodName := ⟨RX3, "<init>", "()V"⟩
abbrev cX3_weigh : ByteArray := prog_5_method_2_code
def yX3_weigh : MethodName := ⟨RX3, "weigh", "(LCoreShed$Log;LCoreShed$Log;[I)V"⟩
abbrev cX3_leastFrom : ByteArray := prog_5_method_3_code
def yX3_leastFrom : MethodName := ⟨RX3, "leastFrom", "(IILCoreShed$Log;LCoreShed$Log;[I)I"⟩
abbrev cX3_isAlike : ByteArray := prog_5_method_4_code
def yX3_isAlike : MethodName := ⟨RX3, "isAlike", "(IILCoreShed$Log;LCoreShed$Log;[I)Z"⟩
abbrev cX3_pairedSum : ByteArray := prog_5_method_5_code
def yX3_pairedSum : MethodName := ⟨RX3, "pairedSum", "(IILCoreShed$Log;LCoreShed$Log;)I"⟩
abbrev cX3_partnerOf : ByteArray := prog_5_method_6_code
def yX3_partnerOf : MethodName := ⟨RX3, "partnerOf", "(ILCoreShed$Log;LCoreShed$Log;[I)I"⟩
abbrev cX3_leastPartner : ByteArray := prog_5_method_7_code
def yX3_leastPartner : MethodName := ⟨RX3, "leastPartner", "(IILCoreShed$Log;LCoreShed$Log;[I)I"⟩
def RX4 : String := "CoreShed$Mend"
def TX4 : u_T := fun k => match k with
  | 0 => ("CoreShed$Mend", "rising", "[I", true)
  | _ => ("CoreShed$Mend", "chosen", "[Z", true)
def tyX4 : Nat → FieldType := fun k => match k with
  | 0 => .array .int
  | _ => .array .boolean
abbrev wsX40 : List Cond := u_ws RX4 TX4 2
theorem nmX4 : ∀ a, a < 2 → ∀ b, b < 2 → a ≠ b → (TX4 a).2.1 ≠ (TX4 b).2.1 := by decide +kernel
theorem tyX4_ok : ∀ k, k < 2 → parseFieldDescriptor (TX4 k).2.2.1 = some (tyX4 k) := by decide +kernel
abbrev cX4_init : ByteArray := prog_6_method_1_code
def yX4_init : MethodName := ⟨RX4, "<init>", "()V"⟩
abbrev cX4_choose : ByteArray := prog_6_method_2_code
def yX4_choose : MethodName := ⟨RX4, "choose", "(LCoreShed$Hole;)I"⟩
abbrev cX4_measure : ByteArray := prog_6_method_3_code
def yX4_measure : MethodName := ⟨RX4, "measure", "(LCoreShed$Hole;)I"⟩
abbrev cX4_mostAbove : ByteArray := prog_6_method_4_code
def yX4_mostAbove : MethodName := ⟨RX4, "mostAbove", "(LCoreShed$Hole;I)I"⟩
def RX5 : String := "CoreShed$Place"
def TX5 : u_T := fun k => match k with
  | 0 => ("CoreShed$Place", "sort", "I", true)
  | 1 => ("CoreShed$Place", "about", "I", true)
  | 2 => ("CoreShed$Place", "off", "I", true)
  | 3 => ("CoreShed$Place", "hasResult", "Z", false)
  | _ => ("CoreShed$Place", "result", "I", false)
def tyX5 : Nat → FieldType := fun k => match k with
  | 0 => .int
  | 1 => .int
  | 2 => .int
  | 3 => .boolean
  | _ => .int
abbrev wsX50 : List Cond := u_ws RX5 TX5 5
theorem nmX5 : ∀ a, a < 5 → ∀ b, b < 5 → a ≠ b → (TX5 a).2.1 ≠ (TX5 b).2.1 := by decide +kernel
theorem tyX5_ok : ∀ k, k < 5 → parseFieldDescriptor (TX5 k).2.2.1 = some (tyX5 k) := by decide +kernel
abbrev cX5_init : ByteArray := prog_7_method_1_code
def yX5_init : MethodName := ⟨RX5, "<init>", "(III)V"⟩
abbrev cX5_lower : ByteArray := prog_7_method_2_code
def yX5_lower : MethodName := ⟨RX5, "lower", "()I"⟩
abbrev cX5_upper : ByteArray := prog_7_method_3_code
def yX5_upper : MethodName := ⟨RX5, "upper", "()I"⟩
abbrev cX5_endOn : ByteArray := prog_7_method_4_code
def yX5_endOn : MethodName := ⟨RX5, "endOn", "(I)I"⟩
abbrev cX5_exchangeResult : ByteArray := prog_7_method_5_code
def yX5_exchangeResult : MethodName := ⟨RX5, "exchangeResult", "(LCoreShed$Place;)V"⟩
abbrev cX5_told : ByteArray := prog_7_method_6_code
def yX5_told : MethodName := ⟨RX5, "told", "(I)I"⟩
def RX6 : String := "CoreShed$Sample"
def TX6 : u_T := fun k => match k with
  | 0 => ("CoreShed$Sample", "hole", "I", true)
  | 1 => ("CoreShed$Sample", "from", "I", true)
  | 2 => ("CoreShed$Sample", "to", "I", true)
  | _ => ("CoreShed$Sample", "quarters", "I", false)
def tyX6 : Nat → FieldType := fun k => match k with
  | 0 => .int
  | 1 => .int
  | 2 => .int
  | _ => .int
abbrev wsX60 : List Cond := u_ws RX6 TX6 4
theorem nmX6 : ∀ a, a < 4 → ∀ b, b < 4 → a ≠ b → (TX6 a).2.1 ≠ (TX6 b).2.1 := by decide +kernel
theorem tyX6_ok : ∀ k, k < 4 → parseFieldDescriptor (TX6 k).2.2.1 = some (tyX6 k) := by decide +kernel
abbrev cX6_init : ByteArray := prog_8_method_1_code
def yX6_init : MethodName := ⟨RX6, "<init>", "(III)V"⟩
abbrev cX6_unitsWithin : ByteArray := prog_8_method_2_code
def yX6_unitsWithin : MethodName := ⟨RX6, "unitsWithin", "(III)I"⟩
abbrev cX6_digestOnto : ByteArray := prog_8_method_3_code
def yX6_digestOnto : MethodName := ⟨RX6, "digestOnto", "(J)J"⟩
def RX7 : String := "CoreShed"
def TX7 : u_T := fun k => match k with
  | 0 => ("CoreShed", "holes", "[LCoreShed$Hole;", true)
  | 1 => ("CoreShed", "samples", "[LCoreShed$Sample;", true)
  | 2 => ("CoreShed", "batches", "[LCoreShed$Batch;", true)
  | 3 => ("CoreShed", "table", "[I", true)
  | 4 => ("CoreShed", "mend", "LCoreShed$Mend;", true)
  | 5 => ("CoreShed", "matching", "LCoreShed$Matching;", true)
  | 6 => ("CoreShed", "holeCount", "I", false)
  | 7 => ("CoreShed", "sampleCount", "I", false)
  | 8 => ("CoreShed", "batchCount", "I", false)
  | 9 => ("CoreShed", "dirt", "I", false)
  | _ => ("CoreShed", "spread", "I", false)
def tyX7 : Nat → FieldType := fun k => match k with
  | 0 => .array (.object "CoreShed$Hole")
  | 1 => .array (.object "CoreShed$Sample")
  | 2 => .array (.object "CoreShed$Batch")
  | 3 => .array .int
  | 4 => .object "CoreShed$Mend"
  | 5 => .object "CoreShed$Matching"
  | 6 => .int
  | 7 => .int
  | 8 => .int
  | 9 => .int
  | _ => .int
abbrev wsX70 : List Cond := u_ws RX7 TX7 11
theorem nmX7 : ∀ a, a < 11 → ∀ b, b < 11 → a ≠ b → (TX7 a).2.1 ≠ (TX7 b).2.1 := by decide +kernel
theorem tyX7_ok : ∀ k, k < 11 → parseFieldDescriptor (TX7 k).2.2.1 = some (tyX7 k) := by decide +kernel
abbrev cX7_init : ByteArray := prog_1_method_1_code
def yX7_init : MethodName := ⟨RX7, "<init>", "()V"⟩
abbrev cX7_hole : ByteArray := prog_1_method_2_code
def yX7_hole : MethodName := ⟨RX7, "hole", "()I"⟩
abbrev cX7_run : ByteArray := prog_1_method_3_code
def yX7_run : MethodName := ⟨RX7, "run", "(III)I"⟩
abbrev cX7_end : ByteArray := prog_1_method_4_code
def yX7_end : MethodName := ⟨RX7, "end", "(I)I"⟩
abbrev cX7_recovered : ByteArray := prog_1_method_5_code
def yX7_recovered : MethodName := ⟨RX7, "recovered", "(III)I"⟩
abbrev cX7_mark : ByteArray := prog_1_method_6_code
def yX7_mark : MethodName := ⟨RX7, "mark", "(II)I"⟩
abbrev cX7_wrong : ByteArray := prog_1_method_7_code
def yX7_wrong : MethodName := ⟨RX7, "wrong", "(I)I"⟩
abbrev cX7_isWrong : ByteArray := prog_1_method_8_code
def yX7_isWrong : MethodName := ⟨RX7, "isWrong", "(II)I"⟩
abbrev cX7_layer : ByteArray := prog_1_method_9_code
def yX7_layer : MethodName := ⟨RX7, "layer", "(IIII)I"⟩
abbrev cX7_code : ByteArray := prog_1_method_10_code
def yX7_code : MethodName := ⟨RX7, "code", "(II)I"⟩
abbrev cX7_rock : ByteArray := prog_1_method_11_code
def yX7_rock : MethodName := ⟨RX7, "rock", "(III)I"⟩
abbrev cX7_agree : ByteArray := prog_1_method_12_code
def yX7_agree : MethodName := ⟨RX7, "agree", "(I)I"⟩
abbrev cX7_sample : ByteArray := prog_1_method_13_code
def yX7_sample : MethodName := ⟨RX7, "sample", "(III)I"⟩
abbrev cX7_left : ByteArray := prog_1_method_14_code
def yX7_left : MethodName := ⟨RX7, "left", "(I)I"⟩
abbrev cX7_batch : ByteArray := prog_1_method_15_code
def yX7_batch : MethodName := ⟨RX7, "batch", "()I"⟩
abbrev cX7_put : ByteArray := prog_1_method_16_code
def yX7_put : MethodName := ⟨RX7, "put", "(II)I"⟩
abbrev cX7_standard : ByteArray := prog_1_method_17_code
def yX7_standard : MethodName := ⟨RX7, "standard", "(III)I"⟩
abbrev cX7_blank : ByteArray := prog_1_method_18_code
def yX7_blank : MethodName := ⟨RX7, "blank", "(I)I"⟩
abbrev cX7_twice : ByteArray := prog_1_method_19_code
def yX7_twice : MethodName := ⟨RX7, "twice", "(II)I"⟩
abbrev cX7_law : ByteArray := prog_1_method_20_code
def yX7_law : MethodName := ⟨RX7, "law", "(II)I"⟩
abbrev cX7_result : ByteArray := prog_1_method_21_code
def yX7_result : MethodName := ⟨RX7, "result", "(III)I"⟩
abbrev cX7_sound : ByteArray := prog_1_method_22_code
def yX7_sound : MethodName := ⟨RX7, "sound", "(I)I"⟩
abbrev cX7_fault : ByteArray := prog_1_method_23_code
def yX7_fault : MethodName := ⟨RX7, "fault", "(I)I"⟩
abbrev cX7_swap : ByteArray := prog_1_method_24_code
def yX7_swap : MethodName := ⟨RX7, "swap", "(I)I"⟩
abbrev cX7_exchange : ByteArray := prog_1_method_25_code
def yX7_exchange : MethodName := ⟨RX7, "exchange", "(II)I"⟩
abbrev cX7_about : ByteArray := prog_1_method_26_code
def yX7_about : MethodName := ⟨RX7, "about", "(III)I"⟩
abbrev cX7_grade : ByteArray := prog_1_method_27_code
def yX7_grade : MethodName := ⟨RX7, "grade", "(II)I"⟩
abbrev cX7_composite : ByteArray := prog_1_method_28_code
def yX7_composite : MethodName := ⟨RX7, "composite", "(IIIII)J"⟩
abbrev cX7_cost : ByteArray := prog_1_method_29_code
def yX7_cost : MethodName := ⟨RX7, "cost", "(II)I"⟩
abbrev cX7_matched : ByteArray := prog_1_method_30_code
def yX7_matched : MethodName := ⟨RX7, "matched", "(III)I"⟩
abbrev cX7_count : ByteArray := prog_1_method_31_code
def yX7_count : MethodName := ⟨RX7, "count", "(I)I"⟩
abbrev cX7_digest : ByteArray := prog_1_method_32_code
def yX7_digest : MethodName := ⟨RX7, "digest", "()J"⟩
abbrev cX7_holeNamed : ByteArray := prog_1_method_33_code
def yX7_holeNamed : MethodName := ⟨RX7, "holeNamed", "(I)LCoreShed$Hole;"⟩
abbrev cX7_logNamed : ByteArray := prog_1_method_34_code
def yX7_logNamed : MethodName := ⟨RX7, "logNamed", "(II)LCoreShed$Log;"⟩
abbrev cX7_sampleNamed : ByteArray := prog_1_method_35_code
def yX7_sampleNamed : MethodName := ⟨RX7, "sampleNamed", "(I)LCoreShed$Sample;"⟩
abbrev cX7_batchNamed : ByteArray := prog_1_method_36_code
def yX7_batchNamed : MethodName := ⟨RX7, "batchNamed", "(I)LCoreShed$Batch;"⟩
abbrev cX7_placeNamed : ByteArray := prog_1_method_37_code
def yX7_placeNamed : MethodName := ⟨RX7, "placeNamed", "(II)LCoreShed$Place;"⟩
abbrev cX7_isSampled : ByteArray := prog_1_method_38_code
def yX7_isSampled : MethodName := ⟨RX7, "isSampled", "(I)Z"⟩
abbrev cX7_isTaken : ByteArray := prog_1_method_39_code
def yX7_isTaken : MethodName := ⟨RX7, "isTaken", "(III)Z"⟩
abbrev cX7_addPlace : ByteArray := prog_1_method_40_code
def yX7_addPlace : MethodName := ⟨RX7, "addPlace", "(LCoreShed$Batch;III)I"⟩
abbrev cX7_addPlaceWithQuarter : ByteArray := prog_1_method_41_code
def yX7_addPlaceWithQuarter : MethodName := ⟨RX7, "addPlaceWithQuarter", "(LCoreShed$Batch;IILCoreShed$Sample;)I"⟩
abbrev cX7_gradingPlace : ByteArray := prog_1_method_42_code
def yX7_gradingPlace : MethodName := ⟨RX7, "gradingPlace", "(I)LCoreShed$Place;"⟩
abbrev cX7_quartersTaken : ByteArray := prog_1_method_43_code
def yX7_quartersTaken : MethodName := ⟨RX7, "quartersTaken", "()I"⟩
abbrev cX7_soundBatches : ByteArray := prog_1_method_44_code
def yX7_soundBatches : MethodName := ⟨RX7, "soundBatches", "()I"⟩
abbrev cX7_isWithin : ByteArray := prog_1_method_45_code
def yX7_isWithin : MethodName := ⟨RX7, "isWithin", "(III)Z"⟩
abbrev cX7_isCode : ByteArray := prog_1_method_46_code
def yX7_isCode : MethodName := ⟨RX7, "isCode", "(I)Z"⟩
abbrev cX7_unitsInCommon : ByteArray := prog_1_method_47_code
def yX7_unitsInCommon : MethodName := ⟨RX7, "unitsInCommon", "(IIII)I"⟩
abbrev cX7_mixed : ByteArray := prog_1_method_48_code
def yX7_mixed : MethodName := ⟨RX7, "mixed", "(JJ)J"⟩
def RX8 : String := "CoreShedModel"
def TX8 : u_T := fun k => match k with
  | 0 => ("CoreShedModel", "holes", "I", false)
  | 1 => ("CoreShedModel", "runs", "[I", true)
  | 2 => ("CoreShedModel", "drilled", "[I", true)
  | 3 => ("CoreShedModel", "kept", "[I", true)
  | 4 => ("CoreShedModel", "marks", "[I", true)
  | 5 => ("CoreShedModel", "markAt", "[I", true)
  | 6 => ("CoreShedModel", "longest", "[I", true)
  | 7 => ("CoreShedModel", "isRight", "[Z", true)
  | 8 => ("CoreShedModel", "layers", "[I", true)
  | 9 => ("CoreShedModel", "layerTo", "[I", true)
  | 10 => ("CoreShedModel", "layerCode", "[I", true)
  | 11 => ("CoreShedModel", "table", "[I", true)
  | 12 => ("CoreShedModel", "samples", "I", false)
  | 13 => ("CoreShedModel", "sampleHole", "[I", true)
  | 14 => ("CoreShedModel", "sampleFrom", "[I", true)
  | 15 => ("CoreShedModel", "sampleTo", "[I", true)
  | 16 => ("CoreShedModel", "quarters", "[I", true)
  | 17 => ("CoreShedModel", "taken", "I", false)
  | 18 => ("CoreShedModel", "batches", "I", false)
  | 19 => ("CoreShedModel", "places", "[I", true)
  | 20 => ("CoreShedModel", "sort", "[I", true)
  | 21 => ("CoreShedModel", "what", "[I", true)
  | 22 => ("CoreShedModel", "offBy", "[I", true)
  | 23 => ("CoreShedModel", "hasResult", "[Z", true)
  | 24 => ("CoreShedModel", "results", "[I", true)
  | 25 => ("CoreShedModel", "laws", "[I", true)
  | _ => ("CoreShedModel", "costs", "[I", true)
def tyX8 : Nat → FieldType := fun k => match k with
  | 0 => .int
  | 1 => .array .int
  | 2 => .array .int
  | 3 => .array .int
  | 4 => .array .int
  | 5 => .array .int
  | 6 => .array .int
  | 7 => .array .boolean
  | 8 => .array .int
  | 9 => .array .int
  | 10 => .array .int
  | 11 => .array .int
  | 12 => .int
  | 13 => .array .int
  | 14 => .array .int
  | 15 => .array .int
  | 16 => .array .int
  | 17 => .int
  | 18 => .int
  | 19 => .array .int
  | 20 => .array .int
  | 21 => .array .int
  | 22 => .array .int
  | 23 => .array .boolean
  | 24 => .array .int
  | 25 => .array .int
  | _ => .array .int
abbrev wsX80 : List Cond := u_ws RX8 TX8 27
theorem nmX8 : ∀ a, a < 27 → ∀ b, b < 27 → a ≠ b → (TX8 a).2.1 ≠ (TX8 b).2.1 := by decide +kernel
theorem tyX8_ok : ∀ k, k < 27 → parseFieldDescriptor (TX8 k).2.2.1 = some (tyX8 k) := by decide +kernel
abbrev cX8_init : ByteArray := prog_10_method_1_code
def yX8_init : MethodName := ⟨RX8, "<init>", "()V"⟩
abbrev cX8_in : ByteArray := prog_10_method_2_code
def yX8_in : MethodName := ⟨RX8, "in", "(JJJ)Z"⟩
abbrev cX8_isHole : ByteArray := prog_10_method_3_code
def yX8_isHole : MethodName := ⟨RX8, "isHole", "(I)Z"⟩
abbrev cX8_hole : ByteArray := prog_10_method_4_code
def yX8_hole : MethodName := ⟨RX8, "hole", "()I"⟩
abbrev cX8_endOf : ByteArray := prog_10_method_5_code
def yX8_endOf : MethodName := ⟨RX8, "endOf", "(I)I"⟩
abbrev cX8_isUsed : ByteArray := prog_10_method_6_code
def yX8_isUsed : MethodName := ⟨RX8, "isUsed", "(I)Z"⟩
abbrev cX8_run : ByteArray := prog_10_method_7_code
def yX8_run : MethodName := ⟨RX8, "run", "(III)I"⟩
abbrev cX8_end : ByteArray := prog_10_method_8_code
def yX8_end : MethodName := ⟨RX8, "end", "(I)I"⟩
abbrev cX8_isStretch : ByteArray := prog_10_method_9_code
def yX8_isStretch : MethodName := ⟨RX8, "isStretch", "(III)Z"⟩
abbrev cX8_common : ByteArray := prog_10_method_10_code
def yX8_common : MethodName := ⟨RX8, "common", "(IIII)I"⟩
abbrev cX8_recoveredOf : ByteArray := prog_10_method_11_code
def yX8_recoveredOf : MethodName := ⟨RX8, "recoveredOf", "(III)I"⟩
abbrev cX8_recovered : ByteArray := prog_10_method_12_code
def yX8_recovered : MethodName := ⟨RX8, "recovered", "(III)I"⟩
abbrev cX8_mark : ByteArray := prog_10_method_13_code
def yX8_mark : MethodName := ⟨RX8, "mark", "(II)I"⟩
abbrev cX8_mend : ByteArray := prog_10_method_14_code
def yX8_mend : MethodName := ⟨RX8, "mend", "(I)I"⟩
abbrev cX8_wrong : ByteArray := prog_10_method_15_code
def yX8_wrong : MethodName := ⟨RX8, "wrong", "(I)I"⟩
abbrev cX8_isWrong : ByteArray := prog_10_method_16_code
def yX8_isWrong : MethodName := ⟨RX8, "isWrong", "(II)I"⟩
abbrev cX8_isLog : ByteArray := prog_10_method_17_code
def yX8_isLog : MethodName := ⟨RX8, "isLog", "(I)Z"⟩
abbrev cX8_layer : ByteArray := prog_10_method_18_code
def yX8_layer : MethodName := ⟨RX8, "layer", "(IIII)I"⟩
abbrev cX8_code : ByteArray := prog_10_method_19_code
def yX8_code : MethodName := ⟨RX8, "code", "(II)I"⟩
abbrev cX8_codeOf : ByteArray := prog_10_method_20_code
def yX8_codeOf : MethodName := ⟨RX8, "codeOf", "(II)I"⟩
abbrev cX8_fromOf : ByteArray := prog_10_method_21_code
def yX8_fromOf : MethodName := ⟨RX8, "fromOf", "(II)I"⟩
abbrev cX8_thick : ByteArray := prog_10_method_22_code
def yX8_thick : MethodName := ⟨RX8, "thick", "(II)I"⟩
abbrev cX8_rock : ByteArray := prog_10_method_23_code
def yX8_rock : MethodName := ⟨RX8, "rock", "(III)I"⟩
abbrev cX8_agree : ByteArray := prog_10_method_24_code
def yX8_agree : MethodName := ⟨RX8, "agree", "(I)I"⟩
abbrev cX8_isSample : ByteArray := prog_10_method_25_code
def yX8_isSample : MethodName := ⟨RX8, "isSample", "(I)Z"⟩
abbrev cX8_isBatch : ByteArray := prog_10_method_26_code
def yX8_isBatch : MethodName := ⟨RX8, "isBatch", "(I)Z"⟩
abbrev cX8_isPlace : ByteArray := prog_10_method_27_code
def yX8_isPlace : MethodName := ⟨RX8, "isPlace", "(II)Z"⟩
abbrev cX8_sample : ByteArray := prog_10_method_28_code
def yX8_sample : MethodName := ⟨RX8, "sample", "(III)I"⟩
abbrev cX8_left : ByteArray := prog_10_method_29_code
def yX8_left : MethodName := ⟨RX8, "left", "(I)I"⟩
abbrev cX8_batch : ByteArray := prog_10_method_30_code
def yX8_batch : MethodName := ⟨RX8, "batch", "()I"⟩
abbrev cX8_hasResults : ByteArray := prog_10_method_31_code
def yX8_hasResults : MethodName := ⟨RX8, "hasResults", "(I)Z"⟩
abbrev cX8_add : ByteArray := prog_10_method_32_code
def yX8_add : MethodName := ⟨RX8, "add", "(IIII)I"⟩
abbrev cX8_placeOf : ByteArray := prog_10_method_33_code
def yX8_placeOf : MethodName := ⟨RX8, "placeOf", "(II)I"⟩
abbrev cX8_quarter : ByteArray := prog_10_method_34_code
def yX8_quarter : MethodName := ⟨RX8, "quarter", "(II)I"⟩
abbrev cX8_put : ByteArray := prog_10_method_35_code
def yX8_put : MethodName := ⟨RX8, "put", "(II)I"⟩
abbrev cX8_standard : ByteArray := prog_10_method_36_code
def yX8_standard : MethodName := ⟨RX8, "standard", "(III)I"⟩
abbrev cX8_blank : ByteArray := prog_10_method_37_code
def yX8_blank : MethodName := ⟨RX8, "blank", "(I)I"⟩
abbrev cX8_twice : ByteArray := prog_10_method_38_code
def yX8_twice : MethodName := ⟨RX8, "twice", "(II)I"⟩
abbrev cX8_law : ByteArray := prog_10_method_39_code
def yX8_law : MethodName := ⟨RX8, "law", "(II)I"⟩
abbrev cX8_result : ByteArray := prog_10_method_40_code
def yX8_result : MethodName := ⟨RX8, "result", "(III)I"⟩
abbrev cX8_lower : ByteArray := prog_10_method_41_code
def yX8_lower : MethodName := ⟨RX8, "lower", "(I)I"⟩
abbrev cX8_upper : ByteArray := prog_10_method_42_code
def yX8_upper : MethodName := ⟨RX8, "upper", "(I)I"⟩
abbrev cX8_far : ByteArray := prog_10_method_43_code
def yX8_far : MethodName := ⟨RX8, "far", "(II)I"⟩
abbrev cX8_isGood : ByteArray := prog_10_method_44_code
def yX8_isGood : MethodName := ⟨RX8, "isGood", "(II)Z"⟩
abbrev cX8_isTold : ByteArray := prog_10_method_45_code
def yX8_isTold : MethodName := ⟨RX8, "isTold", "(I)Z"⟩
abbrev cX8_faultOf : ByteArray := prog_10_method_46_code
def yX8_faultOf : MethodName := ⟨RX8, "faultOf", "(I)I"⟩
abbrev cX8_isSound : ByteArray := prog_10_method_47_code
def yX8_isSound : MethodName := ⟨RX8, "isSound", "(I)Z"⟩
abbrev cX8_sound : ByteArray := prog_10_method_48_code
def yX8_sound : MethodName := ⟨RX8, "sound", "(I)I"⟩
abbrev cX8_fault : ByteArray := prog_10_method_49_code
def yX8_fault : MethodName := ⟨RX8, "fault", "(I)I"⟩
abbrev cX8_turn : ByteArray := prog_10_method_50_code
def yX8_turn : MethodName := ⟨RX8, "turn", "(II)V"⟩
abbrev cX8_swap : ByteArray := prog_10_method_51_code
def yX8_swap : MethodName := ⟨RX8, "swap", "(I)I"⟩
abbrev cX8_exchange : ByteArray := prog_10_method_52_code
def yX8_exchange : MethodName := ⟨RX8, "exchange", "(II)I"⟩
abbrev cX8_aboutOf : ByteArray := prog_10_method_53_code
def yX8_aboutOf : MethodName := ⟨RX8, "aboutOf", "(II)I"⟩
abbrev cX8_about : ByteArray := prog_10_method_54_code
def yX8_about : MethodName := ⟨RX8, "about", "(III)I"⟩
abbrev cX8_gradeAt : ByteArray := prog_10_method_55_code
def yX8_gradeAt : MethodName := ⟨RX8, "gradeAt", "(I)I"⟩
abbrev cX8_grade : ByteArray := prog_10_method_56_code
def yX8_grade : MethodName := ⟨RX8, "grade", "(II)I"⟩
abbrev cX8_composite : ByteArray := prog_10_method_57_code
def yX8_composite : MethodName := ⟨RX8, "composite", "(IIIII)J"⟩
abbrev cX8_pairCost : ByteArray := prog_10_method_58_code
def yX8_pairCost : MethodName := ⟨RX8, "pairCost", "(IIII)I"⟩
abbrev cX8_mayGo : ByteArray := prog_10_method_59_code
def yX8_mayGo : MethodName := ⟨RX8, "mayGo", "(IIII)Z"⟩
abbrev cX8_match : ByteArray := prog_10_method_60_code
def yX8_match : MethodName := ⟨RX8, "match", "(II)V"⟩
abbrev cX8_cost : ByteArray := prog_10_method_61_code
def yX8_cost : MethodName := ⟨RX8, "cost", "(II)I"⟩
abbrev cX8_matched : ByteArray := prog_10_method_62_code
def yX8_matched : MethodName := ⟨RX8, "matched", "(III)I"⟩
abbrev cX8_count : ByteArray := prog_10_method_63_code
def yX8_count : MethodName := ⟨RX8, "count", "(I)I"⟩
abbrev cX8_digest : ByteArray := prog_10_method_64_code
def yX8_digest : MethodName := ⟨RX8, "digest", "()J"⟩
def RJ9 : String := "java/lang/Math"
def TJ9 : u_T := fun k => match k with
  | _ => ("", "", "", false)
def tyJ9 : Nat → FieldType := fun k => match k with
  | _ => .int
abbrev wsJ90 : List Cond := u_ws RJ9 TJ9 0
theorem nmJ9 : ∀ a, a < 0 → ∀ b, b < 0 → a ≠ b → (TJ9 a).2.1 ≠ (TJ9 b).2.1 := by decide +kernel
theorem tyJ9_ok : ∀ k, k < 0 → parseFieldDescriptor (TJ9 k).2.2.1 = some (tyJ9 k) := by decide +kernel
abbrev cJ9_abs_0f7a4 : ByteArray := prog_11_method_59_code
def yJ9_abs_0f7a4 : MethodName := ⟨RJ9, "abs", "(I)I"⟩
abbrev cJ9_max_7cf53 : ByteArray := prog_11_method_65_code
def yJ9_max_7cf53 : MethodName := ⟨RJ9, "max", "(II)I"⟩
abbrev cJ9_min_7cf53 : ByteArray := prog_11_method_69_code
def yJ9_min_7cf53 : MethodName := ⟨RJ9, "min", "(II)I"⟩
def RL : String := "CoreShedLaw"
abbrev cL_law : ByteArray := code
def yL_law : MethodName := ⟨RL, "law", "([I)Z"⟩
end
section
def wsX0_init : List Cond := .code yX0_init cX0_init 1 none :: ([.methodLink RX0 3 objectInit, .instanceMethod objectInit, .code objectInit ⟨#[0xb1]⟩ 1 none, .classLink RX0 9 RX5, .fieldLink RX0 11 "CoreShed$Batch" "places" "[LCoreShed$Place;"] ++ wsX00)
def wsX0_placeOf : List Cond := .code yX0_placeOf cX0_placeOf 3 (some (.object "CoreShed$Place")) :: ([.fieldLink RX0 17 "CoreShed$Batch" "size" "I", .fieldLink RX0 11 "CoreShed$Batch" "places" "[LCoreShed$Place;", .fieldLink RX0 21 "CoreShed$Place" "sort" "I", .fieldLink RX0 24 "CoreShed$Place" "about" "I"] ++ wsX00 ++ wsX50)
def wsX0_hasAnyResult : List Cond := .code yX0_hasAnyResult cX0_hasAnyResult 2 (some .boolean) :: ([.fieldLink RX0 17 "CoreShed$Batch" "size" "I", .fieldLink RX0 11 "CoreShed$Batch" "places" "[LCoreShed$Place;", .fieldLink RX0 27 "CoreShed$Place" "hasResult" "Z"] ++ wsX00 ++ wsX50)
def wsX0_isComplete : List Cond := .code yX0_isComplete cX0_isComplete 2 (some .boolean) :: ([.fieldLink RX0 17 "CoreShed$Batch" "size" "I", .fieldLink RX0 11 "CoreShed$Batch" "places" "[LCoreShed$Place;", .fieldLink RX0 27 "CoreShed$Place" "hasResult" "Z"] ++ wsX00 ++ wsX50)
def wsX5_lower : List Cond := .code yX5_lower cX5_lower 1 (some .int) :: ([.fieldLink RX5 19 "CoreShed$Place" "result" "I", .methodLink RX5 22 Lib.Math.max.name, .static Lib.Math.max.name, .initialized "java/lang/Math", .code Lib.Math.max.name Lib.Math.max.code 2 (some .int)] ++ wsX50)
def wsX5_upper : List Cond := .code yX5_upper cX5_upper 1 (some .int) :: ([.fieldLink RX5 19 "CoreShed$Place" "result" "I"] ++ wsX50)
def wsX0_isNear : List Cond := .code yX0_isNear cX0_isNear 3 (some .boolean) :: ([.methodLink RX0 47 Lib.Math.abs.name, .static Lib.Math.abs.name, .initialized "java/lang/Math", .code Lib.Math.abs.name Lib.Math.abs.code 1 (some .int), .methodLink RX0 63 Lib.Math.max.name, .static Lib.Math.max.name, .code Lib.Math.max.name Lib.Math.max.code 2 (some .int)])
def wsX0_isRight_r1 : List Cond := [Cond.fieldLink RX0 21 "CoreShed$Place" "sort" "I", Cond.fieldLink RX0 24 "CoreShed$Place" "about" "I", Cond.methodLink RX0 47 Lib.Math.abs.name, Cond.static Lib.Math.abs.name, Cond.initialized "java/lang/Math", Cond.code Lib.Math.abs.name Lib.Math.abs.code 1 (some .int), Cond.fieldLink RX0 53 "CoreShed$Place" "off" "I", Cond.fieldLink RX0 11 "CoreShed$Batch" "places" "[LCoreShed$Place;", Cond.methodLink RX0 43 yX5_lower, Cond.instanceMethod yX5_lower, Cond.selects RX5 yX5_lower yX5_lower, Cond.initialized RX5, Cond.code yX5_lower cX5_lower 1 (some .int), Cond.fieldLink RX5 19 "CoreShed$Place" "result" "I", Cond.methodLink RX5 22 Lib.Math.max.name, Cond.static Lib.Math.max.name, Cond.code Lib.Math.max.name Lib.Math.max.code 2 (some .int), Cond.methodLink RX0 56 yX5_upper, Cond.instanceMethod yX5_upper, Cond.selects RX5 yX5_upper yX5_upper, Cond.code yX5_upper cX5_upper 1 (some .int), Cond.methodLink RX0 59 yX0_isNear, Cond.static yX0_isNear, Cond.initialized RX0]
def wsX0_isRight_r2 : List Cond := [Cond.code yX0_isNear cX0_isNear 3 (some .boolean), Cond.methodLink RX0 63 Lib.Math.max.name]
def wsX0_isRight : List Cond := .code yX0_isRight cX0_isRight 4 (some .boolean) :: ((wsX0_isRight_r1 ++ wsX0_isRight_r2) ++ wsX50 ++ wsX00)
def wsX0_firstFault_r1 : List Cond := [Cond.fieldLink RX0 17 "CoreShed$Batch" "size" "I", Cond.fieldLink RX0 11 "CoreShed$Batch" "places" "[LCoreShed$Place;", Cond.methodLink RX0 39 yX0_isRight, Cond.instanceMethod yX0_isRight, Cond.selects RX0 yX0_isRight yX0_isRight, Cond.initialized RX0, Cond.code yX0_isRight cX0_isRight 4 (some .boolean), Cond.fieldLink RX0 21 "CoreShed$Place" "sort" "I", Cond.fieldLink RX0 24 "CoreShed$Place" "about" "I", Cond.methodLink RX0 47 Lib.Math.abs.name, Cond.static Lib.Math.abs.name, Cond.initialized "java/lang/Math", Cond.code Lib.Math.abs.name Lib.Math.abs.code 1 (some .int), Cond.fieldLink RX0 53 "CoreShed$Place" "off" "I", Cond.methodLink RX0 43 yX5_lower, Cond.instanceMethod yX5_lower, Cond.selects RX5 yX5_lower yX5_lower, Cond.initialized RX5, Cond.code yX5_lower cX5_lower 1 (some .int), Cond.fieldLink RX5 19 "CoreShed$Place" "result" "I", Cond.methodLink RX5 22 Lib.Math.max.name, Cond.static Lib.Math.max.name, Cond.code Lib.Math.max.name Lib.Math.max.code 2 (some .int), Cond.methodLink RX0 56 yX5_upper]
def wsX0_firstFault_r2 : List Cond := [Cond.instanceMethod yX5_upper, Cond.selects RX5 yX5_upper yX5_upper, Cond.code yX5_upper cX5_upper 1 (some .int), Cond.methodLink RX0 59 yX0_isNear, Cond.static yX0_isNear, Cond.code yX0_isNear cX0_isNear 3 (some .boolean), Cond.methodLink RX0 63 Lib.Math.max.name]
def wsX0_firstFault : List Cond := .code yX0_firstFault cX0_firstFault 4 (some .int) :: ((wsX0_firstFault_r1 ++ wsX0_firstFault_r2) ++ wsX00 ++ wsX50)
def wsX0_isSound_r1 : List Cond := [Cond.methodLink RX0 31 yX0_isComplete, Cond.instanceMethod yX0_isComplete, Cond.selects RX0 yX0_isComplete yX0_isComplete, Cond.initialized RX0, Cond.code yX0_isComplete cX0_isComplete 2 (some .boolean), Cond.fieldLink RX0 17 "CoreShed$Batch" "size" "I", Cond.fieldLink RX0 11 "CoreShed$Batch" "places" "[LCoreShed$Place;", Cond.fieldLink RX0 27 "CoreShed$Place" "hasResult" "Z", Cond.methodLink RX0 35 yX0_firstFault, Cond.instanceMethod yX0_firstFault, Cond.selects RX0 yX0_firstFault yX0_firstFault, Cond.code yX0_firstFault cX0_firstFault 4 (some .int), Cond.methodLink RX0 39 yX0_isRight, Cond.instanceMethod yX0_isRight, Cond.selects RX0 yX0_isRight yX0_isRight, Cond.code yX0_isRight cX0_isRight 4 (some .boolean), Cond.fieldLink RX0 21 "CoreShed$Place" "sort" "I", Cond.fieldLink RX0 24 "CoreShed$Place" "about" "I", Cond.methodLink RX0 47 Lib.Math.abs.name, Cond.static Lib.Math.abs.name, Cond.initialized "java/lang/Math", Cond.code Lib.Math.abs.name Lib.Math.abs.code 1 (some .int), Cond.fieldLink RX0 53 "CoreShed$Place" "off" "I", Cond.methodLink RX0 43 yX5_lower]
def wsX0_isSound_r2 : List Cond := [Cond.instanceMethod yX5_lower, Cond.selects RX5 yX5_lower yX5_lower, Cond.initialized RX5, Cond.code yX5_lower cX5_lower 1 (some .int), Cond.fieldLink RX5 19 "CoreShed$Place" "result" "I", Cond.methodLink RX5 22 Lib.Math.max.name, Cond.static Lib.Math.max.name, Cond.code Lib.Math.max.name Lib.Math.max.code 2 (some .int), Cond.methodLink RX0 56 yX5_upper, Cond.instanceMethod yX5_upper, Cond.selects RX5 yX5_upper yX5_upper, Cond.code yX5_upper cX5_upper 1 (some .int), Cond.methodLink RX0 59 yX0_isNear, Cond.static yX0_isNear, Cond.code yX0_isNear cX0_isNear 3 (some .boolean), Cond.methodLink RX0 63 Lib.Math.max.name]
def wsX0_isSound : List Cond := .code yX0_isSound cX0_isSound 3 (some .boolean) :: ((wsX0_isSound_r1 ++ wsX0_isSound_r2) ++ wsX00 ++ wsX50)
def wsX5_exchangeResult : List Cond := .code yX5_exchangeResult cX5_exchangeResult 3 none :: ([.fieldLink RX5 19 "CoreShed$Place" "result" "I"] ++ wsX50)
def wsX0_leastMendingSwap_r1 : List Cond := [Cond.fieldLink RX0 17 "CoreShed$Batch" "size" "I", Cond.fieldLink RX0 11 "CoreShed$Batch" "places" "[LCoreShed$Place;", Cond.methodLink RX0 66 yX5_exchangeResult, Cond.instanceMethod yX5_exchangeResult, Cond.selects RX5 yX5_exchangeResult yX5_exchangeResult, Cond.initialized RX5, Cond.code yX5_exchangeResult cX5_exchangeResult 3 none, Cond.fieldLink RX5 19 "CoreShed$Place" "result" "I", Cond.methodLink RX0 70 yX0_isSound, Cond.instanceMethod yX0_isSound, Cond.selects RX0 yX0_isSound yX0_isSound, Cond.initialized RX0, Cond.code yX0_isSound cX0_isSound 3 (some .boolean), Cond.methodLink RX0 31 yX0_isComplete, Cond.instanceMethod yX0_isComplete, Cond.selects RX0 yX0_isComplete yX0_isComplete, Cond.code yX0_isComplete cX0_isComplete 2 (some .boolean), Cond.fieldLink RX0 27 "CoreShed$Place" "hasResult" "Z", Cond.methodLink RX0 35 yX0_firstFault, Cond.instanceMethod yX0_firstFault, Cond.selects RX0 yX0_firstFault yX0_firstFault, Cond.code yX0_firstFault cX0_firstFault 4 (some .int), Cond.methodLink RX0 39 yX0_isRight, Cond.instanceMethod yX0_isRight]
def wsX0_leastMendingSwap_r2 : List Cond := [Cond.selects RX0 yX0_isRight yX0_isRight, Cond.code yX0_isRight cX0_isRight 4 (some .boolean), Cond.fieldLink RX0 21 "CoreShed$Place" "sort" "I", Cond.fieldLink RX0 24 "CoreShed$Place" "about" "I", Cond.methodLink RX0 47 Lib.Math.abs.name, Cond.static Lib.Math.abs.name, Cond.initialized "java/lang/Math", Cond.code Lib.Math.abs.name Lib.Math.abs.code 1 (some .int), Cond.fieldLink RX0 53 "CoreShed$Place" "off" "I", Cond.methodLink RX0 43 yX5_lower, Cond.instanceMethod yX5_lower, Cond.selects RX5 yX5_lower yX5_lower, Cond.code yX5_lower cX5_lower 1 (some .int), Cond.methodLink RX5 22 Lib.Math.max.name, Cond.static Lib.Math.max.name, Cond.code Lib.Math.max.name Lib.Math.max.code 2 (some .int), Cond.methodLink RX0 56 yX5_upper, Cond.instanceMethod yX5_upper, Cond.selects RX5 yX5_upper yX5_upper, Cond.code yX5_upper cX5_upper 1 (some .int), Cond.methodLink RX0 59 yX0_isNear, Cond.static yX0_isNear, Cond.code yX0_isNear cX0_isNear 3 (some .boolean), Cond.methodLink RX0 63 Lib.Math.max.name]
def wsX0_leastMendingSwap : List Cond := .code yX0_leastMendingSwap cX0_leastMendingSwap 5 (some .int) :: ((wsX0_leastMendingSwap_r1 ++ wsX0_leastMendingSwap_r2) ++ wsX00 ++ wsX50)
def wsX5_told : List Cond := .code yX5_told cX5_told 2 (some .int) :: ([.fieldLink RX5 7 "CoreShed$Place" "sort" "I", .fieldLink RX5 13 "CoreShed$Place" "about" "I", .fieldLink RX5 16 "CoreShed$Place" "off" "I", .fieldLink RX5 35 "CoreShed$Place" "hasResult" "Z", .fieldLink RX5 19 "CoreShed$Place" "result" "I"] ++ wsX50)
def wsX7_mixed : List Cond := .code yX7_mixed cX7_mixed 4 (some .long) :: ([.constantLong RX7 285 (31)])
def wsX0_digestOnto : List Cond := .code yX0_digestOnto cX0_digestOnto 7 (some .long) :: ([.fieldLink RX0 17 "CoreShed$Batch" "size" "I", .fieldLink RX0 11 "CoreShed$Batch" "places" "[LCoreShed$Place;", .methodLink RX0 74 yX5_told, .instanceMethod yX5_told, .selects RX5 yX5_told yX5_told, .initialized RX5, .code yX5_told cX5_told 2 (some .int), .fieldLink RX5 7 "CoreShed$Place" "sort" "I", .fieldLink RX5 13 "CoreShed$Place" "about" "I", .fieldLink RX5 16 "CoreShed$Place" "off" "I", .fieldLink RX5 35 "CoreShed$Place" "hasResult" "Z", .fieldLink RX5 19 "CoreShed$Place" "result" "I", .static yX7_mixed, .initialized RX7, .code yX7_mixed cX7_mixed 4 (some .long), .constantLong RX7 285 (31)] ++ wsX00 ++ wsX50)
def wsX2_init : List Cond := .code yX2_init cX2_init 1 none :: ([.methodLink RX2 3 objectInit, .instanceMethod objectInit, .code objectInit ⟨#[0xb1]⟩ 1 none, .arrayClass .int, .fieldLink RX2 9 "CoreShed$Log" "depths" "[I", .fieldLink RX2 15 "CoreShed$Log" "codes" "[I"] ++ wsX20)
def wsX1_init : List Cond := .code yX1_init cX1_init 1 none :: ([.methodLink RX1 3 objectInit, .instanceMethod objectInit, .code objectInit ⟨#[0xb1]⟩ 1 none, .arrayClass .int, .fieldLink RX1 9 "CoreShed$Hole" "drilled" "[I", .fieldLink RX1 15 "CoreShed$Hole" "cored" "[I", .fieldLink RX1 18 "CoreShed$Hole" "marks" "[I", .classLink RX1 21 RX2, .instantiable RX2 3, .initialized RX2, .fieldLink RX1 24 "CoreShed$Hole" "firstLog" "LCoreShed$Log;", .fieldLink RX1 28 "CoreShed$Hole" "secondLog" "LCoreShed$Log;", .instanceMethod yX2_init, .code yX2_init cX2_init 1 none, .methodLink RX2 3 objectInit, .fieldLink RX2 9 "CoreShed$Log" "depths" "[I", .fieldLink RX2 15 "CoreShed$Log" "codes" "[I"] ++ wsX10 ++ wsX20)
def wsX1_addRun : List Cond := .code yX1_addRun cX1_addRun 3 none :: ([.fieldLink RX1 9 "CoreShed$Hole" "drilled" "[I", .fieldLink RX1 31 "CoreShed$Hole" "runCount" "I", .fieldLink RX1 15 "CoreShed$Hole" "cored" "[I", .fieldLink RX1 35 "CoreShed$Hole" "bottom" "I"] ++ wsX10)
def wsX1_isLogged : List Cond := .code yX1_isLogged cX1_isLogged 1 (some .boolean) :: ([.fieldLink RX1 24 "CoreShed$Hole" "firstLog" "LCoreShed$Log;", .fieldLink RX1 38 "CoreShed$Log" "size" "I", .fieldLink RX1 28 "CoreShed$Hole" "secondLog" "LCoreShed$Log;"] ++ wsX10 ++ wsX20)
def wsX1_isStretch : List Cond := .code yX1_isStretch cX1_isStretch 3 (some .boolean) :: ([.fieldLink RX1 35 "CoreShed$Hole" "bottom" "I"] ++ wsX10)
def wsX7_unitsInCommon : List Cond := .code yX7_unitsInCommon cX7_unitsInCommon 4 (some .int) :: ([.methodLink RX7 235 Lib.Math.min.name, .static Lib.Math.min.name, .initialized "java/lang/Math", .code Lib.Math.min.name Lib.Math.min.code 2 (some .int), .methodLink RX7 282 Lib.Math.max.name, .static Lib.Math.max.name, .code Lib.Math.max.name Lib.Math.max.code 2 (some .int)])
def wsX1_coreWithin : List Cond := .code yX1_coreWithin cX1_coreWithin 6 (some .int) :: ([.fieldLink RX1 31 "CoreShed$Hole" "runCount" "I", .fieldLink RX1 15 "CoreShed$Hole" "cored" "[I", .fieldLink RX1 9 "CoreShed$Hole" "drilled" "[I", .static yX7_unitsInCommon, .initialized RX7, .code yX7_unitsInCommon cX7_unitsInCommon 4 (some .int), .methodLink RX7 235 Lib.Math.min.name, .static Lib.Math.min.name, .initialized "java/lang/Math", .code Lib.Math.min.name Lib.Math.min.code 2 (some .int), .methodLink RX7 282 Lib.Math.max.name, .static Lib.Math.max.name, .code Lib.Math.max.name Lib.Math.max.code 2 (some .int)] ++ wsX10)
def wsX2_digestOnto : List Cond := .code yX2_digestOnto cX2_digestOnto 6 (some .long) :: ([.fieldLink RX2 18 "CoreShed$Log" "size" "I", .fieldLink RX2 9 "CoreShed$Log" "depths" "[I", .fieldLink RX2 15 "CoreShed$Log" "codes" "[I", .static yX7_mixed, .initialized RX7, .code yX7_mixed cX7_mixed 4 (some .long), .constantLong RX7 285 (31)] ++ wsX20)
def wsX1_digestOnto : List Cond := .code yX1_digestOnto cX1_digestOnto 6 (some .long) :: ([.fieldLink RX1 31 "CoreShed$Hole" "runCount" "I", .fieldLink RX1 9 "CoreShed$Hole" "drilled" "[I", .fieldLink RX1 15 "CoreShed$Hole" "cored" "[I", .fieldLink RX1 49 "CoreShed$Hole" "markCount" "I", .fieldLink RX1 18 "CoreShed$Hole" "marks" "[I", .fieldLink RX1 28 "CoreShed$Hole" "secondLog" "LCoreShed$Log;", .fieldLink RX1 24 "CoreShed$Hole" "firstLog" "LCoreShed$Log;", .static yX7_mixed, .initialized RX7, .code yX7_mixed cX7_mixed 4 (some .long), .constantLong RX7 285 (31), .methodLink RX1 52 yX2_digestOnto, .instanceMethod yX2_digestOnto, .selects RX2 yX2_digestOnto yX2_digestOnto, .initialized RX2, .code yX2_digestOnto cX2_digestOnto 6 (some .long), .fieldLink RX2 18 "CoreShed$Log" "size" "I", .fieldLink RX2 9 "CoreShed$Log" "depths" "[I", .fieldLink RX2 15 "CoreShed$Log" "codes" "[I"] ++ wsX10 ++ wsX20)
def wsX2_add : List Cond := .code yX2_add cX2_add 3 none :: ([.fieldLink RX2 9 "CoreShed$Log" "depths" "[I", .fieldLink RX2 18 "CoreShed$Log" "size" "I", .fieldLink RX2 15 "CoreShed$Log" "codes" "[I"] ++ wsX20)
def wsX2_top : List Cond := .code yX2_top cX2_top 2 (some .int) :: ([.fieldLink RX2 9 "CoreShed$Log" "depths" "[I"] ++ wsX20)
def wsX2_bottom : List Cond := .code yX2_bottom cX2_bottom 1 (some .int) :: ([.fieldLink RX2 18 "CoreShed$Log" "size" "I", .methodLink RX2 22 yX2_top, .instanceMethod yX2_top, .selects RX2 yX2_top yX2_top, .initialized RX2, .code yX2_top cX2_top 2 (some .int), .fieldLink RX2 9 "CoreShed$Log" "depths" "[I"] ++ wsX20)
def wsX2_thickness : List Cond := .code yX2_thickness cX2_thickness 2 (some .int) :: ([.fieldLink RX2 9 "CoreShed$Log" "depths" "[I", .methodLink RX2 22 yX2_top, .instanceMethod yX2_top, .selects RX2 yX2_top yX2_top, .initialized RX2, .code yX2_top cX2_top 2 (some .int)] ++ wsX20)
def wsX2_indexAt : List Cond := .code yX2_indexAt cX2_indexAt 3 (some .int) :: ([.fieldLink RX2 18 "CoreShed$Log" "size" "I", .fieldLink RX2 9 "CoreShed$Log" "depths" "[I", .methodLink RX2 22 yX2_top, .instanceMethod yX2_top, .selects RX2 yX2_top yX2_top, .initialized RX2, .code yX2_top cX2_top 2 (some .int)] ++ wsX20)
def wsX3_init : List Cond := .code yX3_init cX3_init 1 none :: ([.methodLink RX3 3 objectInit, .instanceMethod objectInit, .code objectInit ⟨#[0xb1]⟩ 1 none, .classLink RX3 9 "[[I", .arrayClass .int, .fieldLink RX3 11 "CoreShed$Matching" "least" "[[I"] ++ wsX30)
def wsX3_isAlike : List Cond := .code yX3_isAlike cX3_isAlike 5 (some .boolean) :: ([.fieldLink RX3 51 "CoreShed$Log" "codes" "[I"] ++ wsX20)
def wsX3_pairedSum : List Cond := .code yX3_pairedSum cX3_pairedSum 5 (some .int) :: ([.methodLink RX3 55 Lib.Math.abs.name, .static Lib.Math.abs.name, .initialized "java/lang/Math", .code Lib.Math.abs.name Lib.Math.abs.code 1 (some .int), .fieldLink RX3 11 "CoreShed$Matching" "least" "[[I", .methodLink RX3 34 yX2_thickness, .instanceMethod yX2_thickness, .selects RX2 yX2_thickness yX2_thickness, .initialized RX2, .code yX2_thickness cX2_thickness 2 (some .int), .fieldLink RX2 9 "CoreShed$Log" "depths" "[I", .methodLink RX2 22 yX2_top, .instanceMethod yX2_top, .selects RX2 yX2_top yX2_top, .code yX2_top cX2_top 2 (some .int)] ++ wsX30 ++ wsX20)
def wsX3_leastFrom_r1 : List Cond := [Cond.fieldLink RX3 16 "CoreShed$Log" "size" "I", Cond.fieldLink RX3 11 "CoreShed$Matching" "least" "[[I", Cond.methodLink RX3 37 Lib.Math.min.name, Cond.static Lib.Math.min.name, Cond.initialized "java/lang/Math", Cond.code Lib.Math.min.name Lib.Math.min.code 2 (some .int), Cond.methodLink RX3 26 yX2_bottom, Cond.instanceMethod yX2_bottom, Cond.selects RX2 yX2_bottom yX2_bottom, Cond.initialized RX2, Cond.code yX2_bottom cX2_bottom 1 (some .int), Cond.fieldLink RX2 18 "CoreShed$Log" "size" "I", Cond.methodLink RX2 22 yX2_top, Cond.instanceMethod yX2_top, Cond.selects RX2 yX2_top yX2_top, Cond.code yX2_top cX2_top 2 (some .int), Cond.fieldLink RX2 9 "CoreShed$Log" "depths" "[I", Cond.methodLink RX3 30 yX2_top, Cond.methodLink RX3 34 yX2_thickness, Cond.instanceMethod yX2_thickness, Cond.selects RX2 yX2_thickness yX2_thickness, Cond.code yX2_thickness cX2_thickness 2 (some .int), Cond.methodLink RX3 43 yX3_isAlike, Cond.static yX3_isAlike]
def wsX3_leastFrom_r2 : List Cond := [Cond.initialized RX3, Cond.code yX3_isAlike cX3_isAlike 5 (some .boolean), Cond.fieldLink RX3 51 "CoreShed$Log" "codes" "[I", Cond.methodLink RX3 47 yX3_pairedSum, Cond.instanceMethod yX3_pairedSum, Cond.selects RX3 yX3_pairedSum yX3_pairedSum, Cond.code yX3_pairedSum cX3_pairedSum 5 (some .int), Cond.methodLink RX3 55 Lib.Math.abs.name, Cond.static Lib.Math.abs.name, Cond.code Lib.Math.abs.name Lib.Math.abs.code 1 (some .int)]
def wsX3_leastFrom : List Cond := .code yX3_leastFrom cX3_leastFrom 7 (some .int) :: ((wsX3_leastFrom_r1 ++ wsX3_leastFrom_r2) ++ wsX20 ++ wsX30)
def wsX3_weigh_r1 : List Cond := [Cond.fieldLink RX3 16 "CoreShed$Log" "size" "I", Cond.fieldLink RX3 11 "CoreShed$Matching" "least" "[[I", Cond.methodLink RX3 22 yX3_leastFrom, Cond.instanceMethod yX3_leastFrom, Cond.selects RX3 yX3_leastFrom yX3_leastFrom, Cond.initialized RX3, Cond.code yX3_leastFrom cX3_leastFrom 7 (some .int), Cond.methodLink RX3 37 Lib.Math.min.name, Cond.static Lib.Math.min.name, Cond.initialized "java/lang/Math", Cond.code Lib.Math.min.name Lib.Math.min.code 2 (some .int), Cond.methodLink RX3 26 yX2_bottom, Cond.instanceMethod yX2_bottom, Cond.selects RX2 yX2_bottom yX2_bottom, Cond.initialized RX2, Cond.code yX2_bottom cX2_bottom 1 (some .int), Cond.fieldLink RX2 18 "CoreShed$Log" "size" "I", Cond.methodLink RX2 22 yX2_top, Cond.instanceMethod yX2_top, Cond.selects RX2 yX2_top yX2_top, Cond.code yX2_top cX2_top 2 (some .int), Cond.fieldLink RX2 9 "CoreShed$Log" "depths" "[I", Cond.methodLink RX3 30 yX2_top, Cond.methodLink RX3 34 yX2_thickness]
def wsX3_weigh_r2 : List Cond := [Cond.instanceMethod yX2_thickness, Cond.selects RX2 yX2_thickness yX2_thickness, Cond.code yX2_thickness cX2_thickness 2 (some .int), Cond.methodLink RX3 43 yX3_isAlike, Cond.static yX3_isAlike, Cond.code yX3_isAlike cX3_isAlike 5 (some .boolean), Cond.fieldLink RX3 51 "CoreShed$Log" "codes" "[I", Cond.methodLink RX3 47 yX3_pairedSum, Cond.instanceMethod yX3_pairedSum, Cond.selects RX3 yX3_pairedSum yX3_pairedSum, Cond.code yX3_pairedSum cX3_pairedSum 5 (some .int), Cond.methodLink RX3 55 Lib.Math.abs.name, Cond.static Lib.Math.abs.name, Cond.code Lib.Math.abs.name Lib.Math.abs.code 1 (some .int)]
def wsX3_weigh : List Cond := .code yX3_weigh cX3_weigh 6 none :: ((wsX3_weigh_r1 ++ wsX3_weigh_r2) ++ wsX20 ++ wsX30)
def wsX3_leastPartner_r1 : List Cond := [Cond.fieldLink RX3 16 "CoreShed$Log" "size" "I", Cond.fieldLink RX3 11 "CoreShed$Matching" "least" "[[I", Cond.methodLink RX3 30 yX2_top, Cond.instanceMethod yX2_top, Cond.selects RX2 yX2_top yX2_top, Cond.initialized RX2, Cond.code yX2_top cX2_top 2 (some .int), Cond.fieldLink RX2 9 "CoreShed$Log" "depths" "[I", Cond.methodLink RX3 43 yX3_isAlike, Cond.static yX3_isAlike, Cond.initialized RX3, Cond.code yX3_isAlike cX3_isAlike 5 (some .boolean), Cond.fieldLink RX3 51 "CoreShed$Log" "codes" "[I", Cond.methodLink RX3 47 yX3_pairedSum, Cond.instanceMethod yX3_pairedSum, Cond.selects RX3 yX3_pairedSum yX3_pairedSum, Cond.code yX3_pairedSum cX3_pairedSum 5 (some .int), Cond.methodLink RX3 55 Lib.Math.abs.name, Cond.static Lib.Math.abs.name, Cond.initialized "java/lang/Math", Cond.code Lib.Math.abs.name Lib.Math.abs.code 1 (some .int), Cond.methodLink RX3 34 yX2_thickness, Cond.instanceMethod yX2_thickness, Cond.selects RX2 yX2_thickness yX2_thickness]
def wsX3_leastPartner_r2 : List Cond := [Cond.code yX2_thickness cX2_thickness 2 (some .int), Cond.methodLink RX2 22 yX2_top]
def wsX3_leastPartner : List Cond := .code yX3_leastPartner cX3_leastPartner 8 (some .int) :: ((wsX3_leastPartner_r1 ++ wsX3_leastPartner_r2) ++ wsX20 ++ wsX30)
def wsX3_partnerOf_r1 : List Cond := [Cond.methodLink RX3 58 yX3_leastPartner, Cond.instanceMethod yX3_leastPartner, Cond.selects RX3 yX3_leastPartner yX3_leastPartner, Cond.initialized RX3, Cond.code yX3_leastPartner cX3_leastPartner 8 (some .int), Cond.fieldLink RX3 16 "CoreShed$Log" "size" "I", Cond.fieldLink RX3 11 "CoreShed$Matching" "least" "[[I", Cond.methodLink RX3 30 yX2_top, Cond.instanceMethod yX2_top, Cond.selects RX2 yX2_top yX2_top, Cond.initialized RX2, Cond.code yX2_top cX2_top 2 (some .int), Cond.fieldLink RX2 9 "CoreShed$Log" "depths" "[I", Cond.methodLink RX3 43 yX3_isAlike, Cond.static yX3_isAlike, Cond.code yX3_isAlike cX3_isAlike 5 (some .boolean), Cond.fieldLink RX3 51 "CoreShed$Log" "codes" "[I", Cond.methodLink RX3 47 yX3_pairedSum, Cond.instanceMethod yX3_pairedSum, Cond.selects RX3 yX3_pairedSum yX3_pairedSum, Cond.code yX3_pairedSum cX3_pairedSum 5 (some .int), Cond.methodLink RX3 55 Lib.Math.abs.name, Cond.static Lib.Math.abs.name, Cond.initialized "java/lang/Math"]
def wsX3_partnerOf_r2 : List Cond := [Cond.code Lib.Math.abs.name Lib.Math.abs.code 1 (some .int), Cond.methodLink RX3 34 yX2_thickness, Cond.instanceMethod yX2_thickness, Cond.selects RX2 yX2_thickness yX2_thickness, Cond.code yX2_thickness cX2_thickness 2 (some .int), Cond.methodLink RX2 22 yX2_top]
def wsX3_partnerOf : List Cond := .code yX3_partnerOf cX3_partnerOf 8 (some .int) :: ((wsX3_partnerOf_r1 ++ wsX3_partnerOf_r2) ++ wsX20 ++ wsX30)
def wsX4_init : List Cond := .code yX4_init cX4_init 1 none :: ([.methodLink RX4 3 objectInit, .instanceMethod objectInit, .code objectInit ⟨#[0xb1]⟩ 1 none, .arrayClass .int, .fieldLink RX4 9 "CoreShed$Mend" "rising" "[I", .arrayClass .boolean, .fieldLink RX4 15 "CoreShed$Mend" "chosen" "[Z"] ++ wsX40)
def wsX4_mostAbove : List Cond := .code yX4_mostAbove cX4_mostAbove 5 (some .int) :: ([.fieldLink RX4 23 "CoreShed$Hole" "markCount" "I", .fieldLink RX4 29 "CoreShed$Hole" "marks" "[I", .fieldLink RX4 9 "CoreShed$Mend" "rising" "[I", .methodLink RX4 39 Lib.Math.max.name, .static Lib.Math.max.name, .initialized "java/lang/Math", .code Lib.Math.max.name Lib.Math.max.code 2 (some .int)] ++ wsX10 ++ wsX40)
def wsX4_measure : List Cond := .code yX4_measure cX4_measure 4 (some .int) :: ([.fieldLink RX4 23 "CoreShed$Hole" "markCount" "I", .fieldLink RX4 9 "CoreShed$Mend" "rising" "[I", .fieldLink RX4 29 "CoreShed$Hole" "marks" "[I", .fieldLink RX4 32 "CoreShed$Hole" "bottom" "I", .methodLink RX4 39 Lib.Math.max.name, .static Lib.Math.max.name, .initialized "java/lang/Math", .code Lib.Math.max.name Lib.Math.max.code 2 (some .int), .methodLink RX4 35 yX4_mostAbove, .instanceMethod yX4_mostAbove, .selects RX4 yX4_mostAbove yX4_mostAbove, .initialized RX4, .code yX4_mostAbove cX4_mostAbove 5 (some .int)] ++ wsX10 ++ wsX40)
def wsX4_choose : List Cond := .code yX4_choose cX4_choose 6 (some .int) :: ([.fieldLink RX4 23 "CoreShed$Hole" "markCount" "I", .fieldLink RX4 15 "CoreShed$Mend" "chosen" "[Z", .fieldLink RX4 29 "CoreShed$Hole" "marks" "[I", .fieldLink RX4 9 "CoreShed$Mend" "rising" "[I", .methodLink RX4 19 yX4_measure, .instanceMethod yX4_measure, .selects RX4 yX4_measure yX4_measure, .initialized RX4, .code yX4_measure cX4_measure 4 (some .int), .fieldLink RX4 32 "CoreShed$Hole" "bottom" "I", .methodLink RX4 39 Lib.Math.max.name, .static Lib.Math.max.name, .initialized "java/lang/Math", .code Lib.Math.max.name Lib.Math.max.code 2 (some .int), .methodLink RX4 35 yX4_mostAbove, .instanceMethod yX4_mostAbove, .selects RX4 yX4_mostAbove yX4_mostAbove, .code yX4_mostAbove cX4_mostAbove 5 (some .int)] ++ wsX10 ++ wsX40)
def wsX5_init : List Cond := .code yX5_init cX5_init 4 none :: ([.methodLink RX5 1 objectInit, .instanceMethod objectInit, .code objectInit ⟨#[0xb1]⟩ 1 none, .fieldLink RX5 7 "CoreShed$Place" "sort" "I", .fieldLink RX5 13 "CoreShed$Place" "about" "I", .fieldLink RX5 16 "CoreShed$Place" "off" "I"] ++ wsX50)
def wsX5_endOn : List Cond := .code yX5_endOn cX5_endOn 2 (some .int) :: ([.methodLink RX5 28 yX5_lower, .instanceMethod yX5_lower, .selects RX5 yX5_lower yX5_lower, .initialized RX5, .code yX5_lower cX5_lower 1 (some .int), .fieldLink RX5 19 "CoreShed$Place" "result" "I", .methodLink RX5 22 Lib.Math.max.name, .static Lib.Math.max.name, .initialized "java/lang/Math", .code Lib.Math.max.name Lib.Math.max.code 2 (some .int), .methodLink RX5 32 yX5_upper, .instanceMethod yX5_upper, .selects RX5 yX5_upper yX5_upper, .code yX5_upper cX5_upper 1 (some .int)] ++ wsX50)
def wsX6_init : List Cond := .code yX6_init cX6_init 4 none :: ([.methodLink RX6 3 objectInit, .instanceMethod objectInit, .code objectInit ⟨#[0xb1]⟩ 1 none, .fieldLink RX6 9 "CoreShed$Sample" "quarters" "I", .fieldLink RX6 15 "CoreShed$Sample" "hole" "I", .fieldLink RX6 18 "CoreShed$Sample" "from" "I", .fieldLink RX6 21 "CoreShed$Sample" "to" "I"] ++ wsX60)
def wsX6_unitsWithin : List Cond := .code yX6_unitsWithin cX6_unitsWithin 4 (some .int) :: ([.fieldLink RX6 15 "CoreShed$Sample" "hole" "I", .fieldLink RX6 18 "CoreShed$Sample" "from" "I", .fieldLink RX6 21 "CoreShed$Sample" "to" "I", .static yX7_unitsInCommon, .initialized RX7, .code yX7_unitsInCommon cX7_unitsInCommon 4 (some .int), .methodLink RX7 235 Lib.Math.min.name, .static Lib.Math.min.name, .initialized "java/lang/Math", .code Lib.Math.min.name Lib.Math.min.code 2 (some .int), .methodLink RX7 282 Lib.Math.max.name, .static Lib.Math.max.name, .code Lib.Math.max.name Lib.Math.max.code 2 (some .int)] ++ wsX60)
def wsX6_digestOnto : List Cond := .code yX6_digestOnto cX6_digestOnto 3 (some .long) :: ([.fieldLink RX6 15 "CoreShed$Sample" "hole" "I", .fieldLink RX6 18 "CoreShed$Sample" "from" "I", .fieldLink RX6 21 "CoreShed$Sample" "to" "I", .fieldLink RX6 9 "CoreShed$Sample" "quarters" "I", .static yX7_mixed, .initialized RX7, .code yX7_mixed cX7_mixed 4 (some .long), .constantLong RX7 285 (31)] ++ wsX60)
def wsX7_init_r1 : List Cond := [Cond.methodLink RX7 1 objectInit, Cond.instanceMethod objectInit, Cond.code objectInit ⟨#[0xb1]⟩ 1 none, Cond.classLink RX7 9 RX1, Cond.fieldLink RX7 11 "CoreShed" "holes" "[LCoreShed$Hole;", Cond.classLink RX7 15 RX6, Cond.fieldLink RX7 17 "CoreShed" "samples" "[LCoreShed$Sample;", Cond.classLink RX7 21 RX0, Cond.fieldLink RX7 23 "CoreShed" "batches" "[LCoreShed$Batch;", Cond.arrayClass .int, Cond.fieldLink RX7 27 "CoreShed" "table" "[I", Cond.classLink RX7 31 RX4, Cond.instantiable RX4 2, Cond.initialized RX4, Cond.fieldLink RX7 34 "CoreShed" "mend" "LCoreShed$Mend;", Cond.classLink RX7 38 RX3, Cond.instantiable RX3 1, Cond.initialized RX3, Cond.fieldLink RX7 41 "CoreShed" "matching" "LCoreShed$Matching;", Cond.fieldLink RX7 45 "CoreShed" "dirt" "I", Cond.fieldLink RX7 49 "CoreShed" "spread" "I", Cond.instanceMethod yX4_init, Cond.code yX4_init cX4_init 1 none, Cond.methodLink RX4 3 objectInit]
def wsX7_init_r2 : List Cond := [Cond.fieldLink RX4 9 "CoreShed$Mend" "rising" "[I", Cond.arrayClass .boolean, Cond.fieldLink RX4 15 "CoreShed$Mend" "chosen" "[Z", Cond.instanceMethod yX3_init, Cond.code yX3_init cX3_init 1 none, Cond.methodLink RX3 3 objectInit, Cond.classLink RX3 9 "[[I", Cond.fieldLink RX3 11 "CoreShed$Matching" "least" "[[I"]
def wsX7_init : List Cond := .code yX7_init cX7_init 2 none :: ((wsX7_init_r1 ++ wsX7_init_r2) ++ wsX70 ++ wsX40 ++ wsX30)
def wsX7_hole : List Cond := .code yX7_hole cX7_hole 1 (some .int) :: ([.fieldLink RX7 52 "CoreShed" "holeCount" "I", .fieldLink RX7 11 "CoreShed" "holes" "[LCoreShed$Hole;", .classLink RX7 9 RX1, .instantiable RX1 8, .initialized RX1, .instanceMethod yX1_init, .code yX1_init cX1_init 1 none, .methodLink RX1 3 objectInit, .instanceMethod objectInit, .code objectInit ⟨#[0xb1]⟩ 1 none, .arrayClass .int, .fieldLink RX1 9 "CoreShed$Hole" "drilled" "[I", .fieldLink RX1 15 "CoreShed$Hole" "cored" "[I", .fieldLink RX1 18 "CoreShed$Hole" "marks" "[I", .classLink RX1 21 RX2, .instantiable RX2 3, .initialized RX2, .fieldLink RX1 24 "CoreShed$Hole" "firstLog" "LCoreShed$Log;", .fieldLink RX1 28 "CoreShed$Hole" "secondLog" "LCoreShed$Log;", .instanceMethod yX2_init, .code yX2_init cX2_init 1 none, .methodLink RX2 3 objectInit, .fieldLink RX2 9 "CoreShed$Log" "depths" "[I", .fieldLink RX2 15 "CoreShed$Log" "codes" "[I"] ++ wsX70 ++ wsX10 ++ wsX20)
def wsX7_holeNamed : List Cond := .code yX7_holeNamed cX7_holeNamed 2 (some (.object "CoreShed$Hole")) :: ([.fieldLink RX7 52 "CoreShed" "holeCount" "I", .fieldLink RX7 11 "CoreShed" "holes" "[LCoreShed$Hole;"] ++ wsX70)
def wsX7_isWithin : List Cond := .code yX7_isWithin cX7_isWithin 3 (some .boolean) :: ([])
def wsX7_isSampled : List Cond := .code yX7_isSampled cX7_isSampled 3 (some .boolean) :: ([.fieldLink RX7 150 "CoreShed" "sampleCount" "I", .fieldLink RX7 17 "CoreShed" "samples" "[LCoreShed$Sample;", .fieldLink RX7 275 "CoreShed$Sample" "hole" "I"] ++ wsX70 ++ wsX60)
def wsX7_run_r1 : List Cond := [Cond.fieldLink RX7 72 "CoreShed$Hole" "runCount" "I", Cond.fieldLink RX7 79 "CoreShed$Hole" "bottom" "I", Cond.methodLink RX7 56 yX7_holeNamed, Cond.instanceMethod yX7_holeNamed, Cond.selects RX7 yX7_holeNamed yX7_holeNamed, Cond.initialized RX7, Cond.code yX7_holeNamed cX7_holeNamed 2 (some (.object "CoreShed$Hole")), Cond.fieldLink RX7 52 "CoreShed" "holeCount" "I", Cond.fieldLink RX7 11 "CoreShed" "holes" "[LCoreShed$Hole;", Cond.methodLink RX7 60 yX7_isWithin, Cond.static yX7_isWithin, Cond.code yX7_isWithin cX7_isWithin 3 (some .boolean), Cond.methodLink RX7 64 yX1_isLogged, Cond.instanceMethod yX1_isLogged, Cond.selects RX1 yX1_isLogged yX1_isLogged, Cond.initialized RX1, Cond.code yX1_isLogged cX1_isLogged 1 (some .boolean), Cond.fieldLink RX1 24 "CoreShed$Hole" "firstLog" "LCoreShed$Log;", Cond.fieldLink RX1 38 "CoreShed$Log" "size" "I", Cond.fieldLink RX1 28 "CoreShed$Hole" "secondLog" "LCoreShed$Log;", Cond.methodLink RX7 68 yX7_isSampled, Cond.instanceMethod yX7_isSampled, Cond.selects RX7 yX7_isSampled yX7_isSampled, Cond.code yX7_isSampled cX7_isSampled 3 (some .boolean)]
def wsX7_run_r2 : List Cond := [Cond.fieldLink RX7 150 "CoreShed" "sampleCount" "I", Cond.fieldLink RX7 17 "CoreShed" "samples" "[LCoreShed$Sample;", Cond.fieldLink RX7 275 "CoreShed$Sample" "hole" "I", Cond.methodLink RX7 75 yX1_addRun, Cond.instanceMethod yX1_addRun, Cond.selects RX1 yX1_addRun yX1_addRun, Cond.code yX1_addRun cX1_addRun 3 none, Cond.fieldLink RX1 9 "CoreShed$Hole" "drilled" "[I", Cond.fieldLink RX1 31 "CoreShed$Hole" "runCount" "I", Cond.fieldLink RX1 15 "CoreShed$Hole" "cored" "[I", Cond.fieldLink RX1 35 "CoreShed$Hole" "bottom" "I"]
def wsX7_run : List Cond := .code yX7_run cX7_run 5 (some .int) :: ((wsX7_run_r1 ++ wsX7_run_r2) ++ wsX10 ++ wsX70 ++ wsX20 ++ wsX60)
def wsX7_end : List Cond := .code yX7_end cX7_end 3 (some .int) :: ([.fieldLink RX7 79 "CoreShed$Hole" "bottom" "I", .methodLink RX7 56 yX7_holeNamed, .instanceMethod yX7_holeNamed, .selects RX7 yX7_holeNamed yX7_holeNamed, .initialized RX7, .code yX7_holeNamed cX7_holeNamed 2 (some (.object "CoreShed$Hole")), .fieldLink RX7 52 "CoreShed" "holeCount" "I", .fieldLink RX7 11 "CoreShed" "holes" "[LCoreShed$Hole;"] ++ wsX10 ++ wsX70)
def wsX7_recovered_r1 : List Cond := [Cond.methodLink RX7 56 yX7_holeNamed, Cond.instanceMethod yX7_holeNamed, Cond.selects RX7 yX7_holeNamed yX7_holeNamed, Cond.initialized RX7, Cond.code yX7_holeNamed cX7_holeNamed 2 (some (.object "CoreShed$Hole")), Cond.fieldLink RX7 52 "CoreShed" "holeCount" "I", Cond.fieldLink RX7 11 "CoreShed" "holes" "[LCoreShed$Hole;", Cond.methodLink RX7 82 yX1_isStretch, Cond.instanceMethod yX1_isStretch, Cond.selects RX1 yX1_isStretch yX1_isStretch, Cond.initialized RX1, Cond.code yX1_isStretch cX1_isStretch 3 (some .boolean), Cond.fieldLink RX1 35 "CoreShed$Hole" "bottom" "I", Cond.methodLink RX7 86 yX1_coreWithin, Cond.instanceMethod yX1_coreWithin, Cond.selects RX1 yX1_coreWithin yX1_coreWithin, Cond.code yX1_coreWithin cX1_coreWithin 6 (some .int), Cond.fieldLink RX1 31 "CoreShed$Hole" "runCount" "I", Cond.fieldLink RX1 15 "CoreShed$Hole" "cored" "[I", Cond.fieldLink RX1 9 "CoreShed$Hole" "drilled" "[I", Cond.static yX7_unitsInCommon, Cond.code yX7_unitsInCommon cX7_unitsInCommon 4 (some .int), Cond.methodLink RX7 235 Lib.Math.min.name, Cond.static Lib.Math.min.name]
def wsX7_recovered_r2 : List Cond := [Cond.initialized "java/lang/Math", Cond.code Lib.Math.min.name Lib.Math.min.code 2 (some .int), Cond.methodLink RX7 282 Lib.Math.max.name, Cond.static Lib.Math.max.name, Cond.code Lib.Math.max.name Lib.Math.max.code 2 (some .int)]
def wsX7_recovered : List Cond := .code yX7_recovered cX7_recovered 5 (some .int) :: ((wsX7_recovered_r1 ++ wsX7_recovered_r2) ++ wsX70 ++ wsX10)
def wsX7_mark : List Cond := .code yX7_mark cX7_mark 4 (some .int) :: ([.constant RX7 90 (100000), .fieldLink RX7 91 "CoreShed$Hole" "markCount" "I", .fieldLink RX7 94 "CoreShed$Hole" "marks" "[I", .methodLink RX7 56 yX7_holeNamed, .instanceMethod yX7_holeNamed, .selects RX7 yX7_holeNamed yX7_holeNamed, .initialized RX7, .code yX7_holeNamed cX7_holeNamed 2 (some (.object "CoreShed$Hole")), .fieldLink RX7 52 "CoreShed" "holeCount" "I", .fieldLink RX7 11 "CoreShed" "holes" "[LCoreShed$Hole;", .methodLink RX7 60 yX7_isWithin, .static yX7_isWithin, .code yX7_isWithin cX7_isWithin 3 (some .boolean)] ++ wsX10 ++ wsX70)
def wsX7_wrong_r1 : List Cond := [Cond.fieldLink RX7 91 "CoreShed$Hole" "markCount" "I", Cond.fieldLink RX7 34 "CoreShed" "mend" "LCoreShed$Mend;", Cond.methodLink RX7 56 yX7_holeNamed, Cond.instanceMethod yX7_holeNamed, Cond.selects RX7 yX7_holeNamed yX7_holeNamed, Cond.initialized RX7, Cond.code yX7_holeNamed cX7_holeNamed 2 (some (.object "CoreShed$Hole")), Cond.fieldLink RX7 52 "CoreShed" "holeCount" "I", Cond.fieldLink RX7 11 "CoreShed" "holes" "[LCoreShed$Hole;", Cond.methodLink RX7 97 yX4_choose, Cond.instanceMethod yX4_choose, Cond.selects RX4 yX4_choose yX4_choose, Cond.initialized RX4, Cond.code yX4_choose cX4_choose 6 (some .int), Cond.fieldLink RX4 23 "CoreShed$Hole" "markCount" "I", Cond.fieldLink RX4 15 "CoreShed$Mend" "chosen" "[Z", Cond.fieldLink RX4 29 "CoreShed$Hole" "marks" "[I", Cond.fieldLink RX4 9 "CoreShed$Mend" "rising" "[I", Cond.methodLink RX4 19 yX4_measure, Cond.instanceMethod yX4_measure, Cond.selects RX4 yX4_measure yX4_measure, Cond.code yX4_measure cX4_measure 4 (some .int), Cond.fieldLink RX4 32 "CoreShed$Hole" "bottom" "I", Cond.methodLink RX4 39 Lib.Math.max.name]
def wsX7_wrong_r2 : List Cond := [Cond.static Lib.Math.max.name, Cond.initialized "java/lang/Math", Cond.code Lib.Math.max.name Lib.Math.max.code 2 (some .int), Cond.methodLink RX4 35 yX4_mostAbove, Cond.instanceMethod yX4_mostAbove, Cond.selects RX4 yX4_mostAbove yX4_mostAbove, Cond.code yX4_mostAbove cX4_mostAbove 5 (some .int)]
def wsX7_wrong : List Cond := .code yX7_wrong cX7_wrong 3 (some .int) :: ((wsX7_wrong_r1 ++ wsX7_wrong_r2) ++ wsX10 ++ wsX70 ++ wsX40)
def wsX7_isWrong_r1 : List Cond := [Cond.fieldLink RX7 91 "CoreShed$Hole" "markCount" "I", Cond.fieldLink RX7 34 "CoreShed" "mend" "LCoreShed$Mend;", Cond.fieldLink RX7 101 "CoreShed$Mend" "chosen" "[Z", Cond.methodLink RX7 56 yX7_holeNamed, Cond.instanceMethod yX7_holeNamed, Cond.selects RX7 yX7_holeNamed yX7_holeNamed, Cond.initialized RX7, Cond.code yX7_holeNamed cX7_holeNamed 2 (some (.object "CoreShed$Hole")), Cond.fieldLink RX7 52 "CoreShed" "holeCount" "I", Cond.fieldLink RX7 11 "CoreShed" "holes" "[LCoreShed$Hole;", Cond.methodLink RX7 97 yX4_choose, Cond.instanceMethod yX4_choose, Cond.selects RX4 yX4_choose yX4_choose, Cond.initialized RX4, Cond.code yX4_choose cX4_choose 6 (some .int), Cond.fieldLink RX4 23 "CoreShed$Hole" "markCount" "I", Cond.fieldLink RX4 15 "CoreShed$Mend" "chosen" "[Z", Cond.fieldLink RX4 29 "CoreShed$Hole" "marks" "[I", Cond.fieldLink RX4 9 "CoreShed$Mend" "rising" "[I", Cond.methodLink RX4 19 yX4_measure, Cond.instanceMethod yX4_measure, Cond.selects RX4 yX4_measure yX4_measure, Cond.code yX4_measure cX4_measure 4 (some .int), Cond.fieldLink RX4 32 "CoreShed$Hole" "bottom" "I"]
def wsX7_isWrong_r2 : List Cond := [Cond.methodLink RX4 39 Lib.Math.max.name, Cond.static Lib.Math.max.name, Cond.initialized "java/lang/Math", Cond.code Lib.Math.max.name Lib.Math.max.code 2 (some .int), Cond.methodLink RX4 35 yX4_mostAbove, Cond.instanceMethod yX4_mostAbove, Cond.selects RX4 yX4_mostAbove yX4_mostAbove, Cond.code yX4_mostAbove cX4_mostAbove 5 (some .int)]
def wsX7_isWrong : List Cond := .code yX7_isWrong cX7_isWrong 4 (some .int) :: ((wsX7_isWrong_r1 ++ wsX7_isWrong_r2) ++ wsX10 ++ wsX70 ++ wsX40)
def wsX7_logNamed : List Cond := .code yX7_logNamed cX7_logNamed 4 (some (.object "CoreShed$Log")) :: ([.fieldLink RX7 130 "CoreShed$Hole" "firstLog" "LCoreShed$Log;", .fieldLink RX7 134 "CoreShed$Hole" "secondLog" "LCoreShed$Log;", .methodLink RX7 56 yX7_holeNamed, .instanceMethod yX7_holeNamed, .selects RX7 yX7_holeNamed yX7_holeNamed, .initialized RX7, .code yX7_holeNamed cX7_holeNamed 2 (some (.object "CoreShed$Hole")), .fieldLink RX7 52 "CoreShed" "holeCount" "I", .fieldLink RX7 11 "CoreShed" "holes" "[LCoreShed$Hole;"] ++ wsX10 ++ wsX70)
def wsX7_isCode : List Cond := .code yX7_isCode cX7_isCode 1 (some .boolean) :: ([.methodLink RX7 60 yX7_isWithin, .static yX7_isWithin, .initialized RX7, .code yX7_isWithin cX7_isWithin 3 (some .boolean)])
def wsX7_layer_r1 : List Cond := [Cond.fieldLink RX7 79 "CoreShed$Hole" "bottom" "I", Cond.fieldLink RX7 117 "CoreShed$Log" "size" "I", Cond.methodLink RX7 56 yX7_holeNamed, Cond.instanceMethod yX7_holeNamed, Cond.selects RX7 yX7_holeNamed yX7_holeNamed, Cond.initialized RX7, Cond.code yX7_holeNamed cX7_holeNamed 2 (some (.object "CoreShed$Hole")), Cond.fieldLink RX7 52 "CoreShed" "holeCount" "I", Cond.fieldLink RX7 11 "CoreShed" "holes" "[LCoreShed$Hole;", Cond.methodLink RX7 105 yX7_logNamed, Cond.instanceMethod yX7_logNamed, Cond.selects RX7 yX7_logNamed yX7_logNamed, Cond.code yX7_logNamed cX7_logNamed 4 (some (.object "CoreShed$Log")), Cond.fieldLink RX7 130 "CoreShed$Hole" "firstLog" "LCoreShed$Log;", Cond.fieldLink RX7 134 "CoreShed$Hole" "secondLog" "LCoreShed$Log;", Cond.methodLink RX7 109 yX2_bottom, Cond.instanceMethod yX2_bottom, Cond.selects RX2 yX2_bottom yX2_bottom, Cond.initialized RX2, Cond.code yX2_bottom cX2_bottom 1 (some .int), Cond.fieldLink RX2 18 "CoreShed$Log" "size" "I", Cond.methodLink RX2 22 yX2_top, Cond.instanceMethod yX2_top, Cond.selects RX2 yX2_top yX2_top]
def wsX7_layer_r2 : List Cond := [Cond.code yX2_top cX2_top 2 (some .int), Cond.fieldLink RX2 9 "CoreShed$Log" "depths" "[I", Cond.methodLink RX7 60 yX7_isWithin, Cond.static yX7_isWithin, Cond.code yX7_isWithin cX7_isWithin 3 (some .boolean), Cond.methodLink RX7 114 yX7_isCode, Cond.static yX7_isCode, Cond.code yX7_isCode cX7_isCode 1 (some .boolean), Cond.methodLink RX7 120 yX2_add, Cond.instanceMethod yX2_add, Cond.selects RX2 yX2_add yX2_add, Cond.code yX2_add cX2_add 3 none, Cond.fieldLink RX2 15 "CoreShed$Log" "codes" "[I"]
def wsX7_layer : List Cond := .code yX7_layer cX7_layer 7 (some .int) :: ((wsX7_layer_r1 ++ wsX7_layer_r2) ++ wsX10 ++ wsX20 ++ wsX70)
def wsX7_code : List Cond := .code yX7_code cX7_code 4 (some .int) :: ([.fieldLink RX7 27 "CoreShed" "table" "[I", .methodLink RX7 114 yX7_isCode, .static yX7_isCode, .initialized RX7, .code yX7_isCode cX7_isCode 1 (some .boolean), .methodLink RX7 60 yX7_isWithin, .static yX7_isWithin, .code yX7_isWithin cX7_isWithin 3 (some .boolean)] ++ wsX70)
def wsX7_rock_r1 : List Cond := [Cond.fieldLink RX7 27 "CoreShed" "table" "[I", Cond.fieldLink RX7 127 "CoreShed$Log" "codes" "[I", Cond.methodLink RX7 105 yX7_logNamed, Cond.instanceMethod yX7_logNamed, Cond.selects RX7 yX7_logNamed yX7_logNamed, Cond.initialized RX7, Cond.code yX7_logNamed cX7_logNamed 4 (some (.object "CoreShed$Log")), Cond.fieldLink RX7 130 "CoreShed$Hole" "firstLog" "LCoreShed$Log;", Cond.fieldLink RX7 134 "CoreShed$Hole" "secondLog" "LCoreShed$Log;", Cond.methodLink RX7 56 yX7_holeNamed, Cond.instanceMethod yX7_holeNamed, Cond.selects RX7 yX7_holeNamed yX7_holeNamed, Cond.code yX7_holeNamed cX7_holeNamed 2 (some (.object "CoreShed$Hole")), Cond.fieldLink RX7 52 "CoreShed" "holeCount" "I", Cond.fieldLink RX7 11 "CoreShed" "holes" "[LCoreShed$Hole;", Cond.methodLink RX7 123 yX2_indexAt, Cond.instanceMethod yX2_indexAt, Cond.selects RX2 yX2_indexAt yX2_indexAt, Cond.initialized RX2, Cond.code yX2_indexAt cX2_indexAt 3 (some .int), Cond.fieldLink RX2 18 "CoreShed$Log" "size" "I", Cond.fieldLink RX2 9 "CoreShed$Log" "depths" "[I", Cond.methodLink RX2 22 yX2_top, Cond.instanceMethod yX2_top]
def wsX7_rock_r2 : List Cond := [Cond.selects RX2 yX2_top yX2_top, Cond.code yX2_top cX2_top 2 (some .int)]
def wsX7_rock : List Cond := .code yX7_rock cX7_rock 6 (some .int) :: ((wsX7_rock_r1 ++ wsX7_rock_r2) ++ wsX70 ++ wsX20 ++ wsX10)
def wsX7_agree_r1 : List Cond := [Cond.fieldLink RX7 130 "CoreShed$Hole" "firstLog" "LCoreShed$Log;", Cond.fieldLink RX7 134 "CoreShed$Hole" "secondLog" "LCoreShed$Log;", Cond.fieldLink RX7 117 "CoreShed$Log" "size" "I", Cond.fieldLink RX7 27 "CoreShed" "table" "[I", Cond.fieldLink RX7 127 "CoreShed$Log" "codes" "[I", Cond.fieldLink RX7 140 "CoreShed$Log" "depths" "[I", Cond.methodLink RX7 56 yX7_holeNamed, Cond.instanceMethod yX7_holeNamed, Cond.selects RX7 yX7_holeNamed yX7_holeNamed, Cond.initialized RX7, Cond.code yX7_holeNamed cX7_holeNamed 2 (some (.object "CoreShed$Hole")), Cond.fieldLink RX7 52 "CoreShed" "holeCount" "I", Cond.fieldLink RX7 11 "CoreShed" "holes" "[LCoreShed$Hole;", Cond.methodLink RX7 137 yX2_top, Cond.instanceMethod yX2_top, Cond.selects RX2 yX2_top yX2_top, Cond.initialized RX2, Cond.code yX2_top cX2_top 2 (some .int), Cond.fieldLink RX2 9 "CoreShed$Log" "depths" "[I", Cond.methodLink RX7 143 yX7_unitsInCommon, Cond.static yX7_unitsInCommon, Cond.code yX7_unitsInCommon cX7_unitsInCommon 4 (some .int), Cond.methodLink RX7 235 Lib.Math.min.name, Cond.static Lib.Math.min.name]
def wsX7_agree_r2 : List Cond := [Cond.initialized "java/lang/Math", Cond.code Lib.Math.min.name Lib.Math.min.code 2 (some .int), Cond.methodLink RX7 282 Lib.Math.max.name, Cond.static Lib.Math.max.name, Cond.code Lib.Math.max.name Lib.Math.max.code 2 (some .int)]
def wsX7_agree : List Cond := .code yX7_agree cX7_agree 8 (some .int) :: ((wsX7_agree_r1 ++ wsX7_agree_r2) ++ wsX10 ++ wsX20 ++ wsX70)
def wsX7_isTaken : List Cond := .code yX7_isTaken cX7_isTaken 5 (some .boolean) :: ([.fieldLink RX7 150 "CoreShed" "sampleCount" "I", .fieldLink RX7 17 "CoreShed" "samples" "[LCoreShed$Sample;", .methodLink RX7 231 yX6_unitsWithin, .instanceMethod yX6_unitsWithin, .selects RX6 yX6_unitsWithin yX6_unitsWithin, .initialized RX6, .code yX6_unitsWithin cX6_unitsWithin 4 (some .int), .fieldLink RX6 15 "CoreShed$Sample" "hole" "I", .fieldLink RX6 18 "CoreShed$Sample" "from" "I", .fieldLink RX6 21 "CoreShed$Sample" "to" "I", .static yX7_unitsInCommon, .initialized RX7, .code yX7_unitsInCommon cX7_unitsInCommon 4 (some .int), .methodLink RX7 235 Lib.Math.min.name, .static Lib.Math.min.name, .initialized "java/lang/Math", .code Lib.Math.min.name Lib.Math.min.code 2 (some .int), .methodLink RX7 282 Lib.Math.max.name, .static Lib.Math.max.name, .code Lib.Math.max.name Lib.Math.max.code 2 (some .int)] ++ wsX70 ++ wsX60)
def wsX7_sample_r1 : List Cond := [Cond.fieldLink RX7 150 "CoreShed" "sampleCount" "I", Cond.fieldLink RX7 17 "CoreShed" "samples" "[LCoreShed$Sample;", Cond.classLink RX7 15 RX6, Cond.instantiable RX6 4, Cond.initialized RX6, Cond.methodLink RX7 56 yX7_holeNamed, Cond.instanceMethod yX7_holeNamed, Cond.selects RX7 yX7_holeNamed yX7_holeNamed, Cond.initialized RX7, Cond.code yX7_holeNamed cX7_holeNamed 2 (some (.object "CoreShed$Hole")), Cond.fieldLink RX7 52 "CoreShed" "holeCount" "I", Cond.fieldLink RX7 11 "CoreShed" "holes" "[LCoreShed$Hole;", Cond.methodLink RX7 82 yX1_isStretch, Cond.instanceMethod yX1_isStretch, Cond.selects RX1 yX1_isStretch yX1_isStretch, Cond.initialized RX1, Cond.code yX1_isStretch cX1_isStretch 3 (some .boolean), Cond.fieldLink RX1 35 "CoreShed$Hole" "bottom" "I", Cond.methodLink RX7 147 yX7_isTaken, Cond.instanceMethod yX7_isTaken, Cond.selects RX7 yX7_isTaken yX7_isTaken, Cond.code yX7_isTaken cX7_isTaken 5 (some .boolean), Cond.methodLink RX7 231 yX6_unitsWithin, Cond.instanceMethod yX6_unitsWithin]
def wsX7_sample_r2 : List Cond := [Cond.selects RX6 yX6_unitsWithin yX6_unitsWithin, Cond.code yX6_unitsWithin cX6_unitsWithin 4 (some .int), Cond.fieldLink RX6 15 "CoreShed$Sample" "hole" "I", Cond.fieldLink RX6 18 "CoreShed$Sample" "from" "I", Cond.fieldLink RX6 21 "CoreShed$Sample" "to" "I", Cond.static yX7_unitsInCommon, Cond.code yX7_unitsInCommon cX7_unitsInCommon 4 (some .int), Cond.methodLink RX7 235 Lib.Math.min.name, Cond.static Lib.Math.min.name, Cond.initialized "java/lang/Math", Cond.code Lib.Math.min.name Lib.Math.min.code 2 (some .int), Cond.methodLink RX7 282 Lib.Math.max.name, Cond.static Lib.Math.max.name, Cond.code Lib.Math.max.name Lib.Math.max.code 2 (some .int), Cond.methodLink RX7 86 yX1_coreWithin, Cond.instanceMethod yX1_coreWithin, Cond.selects RX1 yX1_coreWithin yX1_coreWithin, Cond.code yX1_coreWithin cX1_coreWithin 6 (some .int), Cond.fieldLink RX1 31 "CoreShed$Hole" "runCount" "I", Cond.fieldLink RX1 15 "CoreShed$Hole" "cored" "[I", Cond.fieldLink RX1 9 "CoreShed$Hole" "drilled" "[I", Cond.methodLink RX7 153 yX6_init, Cond.instanceMethod yX6_init, Cond.code yX6_init cX6_init 4 none]
def wsX7_sample_r3 : List Cond := [Cond.methodLink RX6 3 objectInit, Cond.instanceMethod objectInit, Cond.code objectInit ⟨#[0xb1]⟩ 1 none, Cond.fieldLink RX6 9 "CoreShed$Sample" "quarters" "I"]
def wsX7_sample : List Cond := .code yX7_sample cX7_sample 5 (some .int) :: ((wsX7_sample_r1 ++ (wsX7_sample_r2 ++ wsX7_sample_r3)) ++ wsX70 ++ wsX60 ++ wsX10)
def wsX7_sampleNamed : List Cond := .code yX7_sampleNamed cX7_sampleNamed 2 (some (.object "CoreShed$Sample")) :: ([.fieldLink RX7 150 "CoreShed" "sampleCount" "I", .fieldLink RX7 17 "CoreShed" "samples" "[LCoreShed$Sample;"] ++ wsX70)
def wsX7_left : List Cond := .code yX7_left cX7_left 3 (some .int) :: ([.fieldLink RX7 160 "CoreShed$Sample" "quarters" "I", .methodLink RX7 156 yX7_sampleNamed, .instanceMethod yX7_sampleNamed, .selects RX7 yX7_sampleNamed yX7_sampleNamed, .initialized RX7, .code yX7_sampleNamed cX7_sampleNamed 2 (some (.object "CoreShed$Sample")), .fieldLink RX7 150 "CoreShed" "sampleCount" "I", .fieldLink RX7 17 "CoreShed" "samples" "[LCoreShed$Sample;"] ++ wsX60 ++ wsX70)
def wsX7_batch : List Cond := .code yX7_batch cX7_batch 1 (some .int) :: ([.fieldLink RX7 163 "CoreShed" "batchCount" "I", .fieldLink RX7 23 "CoreShed" "batches" "[LCoreShed$Batch;", .classLink RX7 21 RX0, .instantiable RX0 2, .initialized RX0, .instanceMethod yX0_init, .code yX0_init cX0_init 1 none, .methodLink RX0 3 objectInit, .instanceMethod objectInit, .code objectInit ⟨#[0xb1]⟩ 1 none, .classLink RX0 9 RX5, .fieldLink RX0 11 "CoreShed$Batch" "places" "[LCoreShed$Place;"] ++ wsX70 ++ wsX00)
def wsX7_batchNamed : List Cond := .code yX7_batchNamed cX7_batchNamed 2 (some (.object "CoreShed$Batch")) :: ([.fieldLink RX7 163 "CoreShed" "batchCount" "I", .fieldLink RX7 23 "CoreShed" "batches" "[LCoreShed$Batch;"] ++ wsX70)
def wsX7_addPlace : List Cond := .code yX7_addPlace cX7_addPlace 4 (some .int) :: ([.fieldLink RX7 270 "CoreShed$Batch" "size" "I", .fieldLink RX7 271 "CoreShed$Batch" "places" "[LCoreShed$Place;", .classLink RX7 188 RX5, .instantiable RX5 5, .initialized RX5, .methodLink RX7 278 yX0_hasAnyResult, .instanceMethod yX0_hasAnyResult, .selects RX0 yX0_hasAnyResult yX0_hasAnyResult, .initialized RX0, .code yX0_hasAnyResult cX0_hasAnyResult 2 (some .boolean), .fieldLink RX0 17 "CoreShed$Batch" "size" "I", .fieldLink RX0 11 "CoreShed$Batch" "places" "[LCoreShed$Place;", .fieldLink RX0 27 "CoreShed$Place" "hasResult" "Z", .methodLink RX7 281 yX5_init, .instanceMethod yX5_init, .code yX5_init cX5_init 4 none, .methodLink RX5 1 objectInit, .instanceMethod objectInit, .code objectInit ⟨#[0xb1]⟩ 1 none, .fieldLink RX5 7 "CoreShed$Place" "sort" "I", .fieldLink RX5 13 "CoreShed$Place" "about" "I", .fieldLink RX5 16 "CoreShed$Place" "off" "I"] ++ wsX00 ++ wsX50)
def wsX7_addPlaceWithQuarter_r1 : List Cond := [Cond.fieldLink RX7 160 "CoreShed$Sample" "quarters" "I", Cond.methodLink RX7 179 yX7_addPlace, Cond.static yX7_addPlace, Cond.initialized RX7, Cond.code yX7_addPlace cX7_addPlace 4 (some .int), Cond.fieldLink RX7 270 "CoreShed$Batch" "size" "I", Cond.fieldLink RX7 271 "CoreShed$Batch" "places" "[LCoreShed$Place;", Cond.classLink RX7 188 RX5, Cond.instantiable RX5 5, Cond.initialized RX5, Cond.methodLink RX7 278 yX0_hasAnyResult, Cond.instanceMethod yX0_hasAnyResult, Cond.selects RX0 yX0_hasAnyResult yX0_hasAnyResult, Cond.initialized RX0, Cond.code yX0_hasAnyResult cX0_hasAnyResult 2 (some .boolean), Cond.fieldLink RX0 17 "CoreShed$Batch" "size" "I", Cond.fieldLink RX0 11 "CoreShed$Batch" "places" "[LCoreShed$Place;", Cond.fieldLink RX0 27 "CoreShed$Place" "hasResult" "Z", Cond.methodLink RX7 281 yX5_init, Cond.instanceMethod yX5_init, Cond.code yX5_init cX5_init 4 none, Cond.methodLink RX5 1 objectInit, Cond.instanceMethod objectInit, Cond.code objectInit ⟨#[0xb1]⟩ 1 none]
def wsX7_addPlaceWithQuarter_r2 : List Cond := [Cond.fieldLink RX5 7 "CoreShed$Place" "sort" "I", Cond.fieldLink RX5 13 "CoreShed$Place" "about" "I", Cond.fieldLink RX5 16 "CoreShed$Place" "off" "I"]
def wsX7_addPlaceWithQuarter : List Cond := .code yX7_addPlaceWithQuarter cX7_addPlaceWithQuarter 5 (some .int) :: ((wsX7_addPlaceWithQuarter_r1 ++ wsX7_addPlaceWithQuarter_r2) ++ wsX60 ++ wsX00 ++ wsX50)
def wsX7_put_r1 : List Cond := [Cond.methodLink RX7 167 yX7_batchNamed, Cond.instanceMethod yX7_batchNamed, Cond.selects RX7 yX7_batchNamed yX7_batchNamed, Cond.initialized RX7, Cond.code yX7_batchNamed cX7_batchNamed 2 (some (.object "CoreShed$Batch")), Cond.fieldLink RX7 163 "CoreShed" "batchCount" "I", Cond.fieldLink RX7 23 "CoreShed" "batches" "[LCoreShed$Batch;", Cond.methodLink RX7 156 yX7_sampleNamed, Cond.instanceMethod yX7_sampleNamed, Cond.selects RX7 yX7_sampleNamed yX7_sampleNamed, Cond.code yX7_sampleNamed cX7_sampleNamed 2 (some (.object "CoreShed$Sample")), Cond.fieldLink RX7 150 "CoreShed" "sampleCount" "I", Cond.fieldLink RX7 17 "CoreShed" "samples" "[LCoreShed$Sample;", Cond.methodLink RX7 171 yX0_placeOf, Cond.instanceMethod yX0_placeOf, Cond.selects RX0 yX0_placeOf yX0_placeOf, Cond.initialized RX0, Cond.code yX0_placeOf cX0_placeOf 3 (some (.object "CoreShed$Place")), Cond.fieldLink RX0 17 "CoreShed$Batch" "size" "I", Cond.fieldLink RX0 11 "CoreShed$Batch" "places" "[LCoreShed$Place;", Cond.fieldLink RX0 21 "CoreShed$Place" "sort" "I", Cond.fieldLink RX0 24 "CoreShed$Place" "about" "I", Cond.methodLink RX7 175 yX7_addPlaceWithQuarter, Cond.static yX7_addPlaceWithQuarter]
def wsX7_put_r2 : List Cond := [Cond.code yX7_addPlaceWithQuarter cX7_addPlaceWithQuarter 5 (some .int), Cond.fieldLink RX7 160 "CoreShed$Sample" "quarters" "I", Cond.methodLink RX7 179 yX7_addPlace, Cond.static yX7_addPlace, Cond.code yX7_addPlace cX7_addPlace 4 (some .int), Cond.fieldLink RX7 270 "CoreShed$Batch" "size" "I", Cond.fieldLink RX7 271 "CoreShed$Batch" "places" "[LCoreShed$Place;", Cond.classLink RX7 188 RX5, Cond.instantiable RX5 5, Cond.initialized RX5, Cond.methodLink RX7 278 yX0_hasAnyResult, Cond.instanceMethod yX0_hasAnyResult, Cond.selects RX0 yX0_hasAnyResult yX0_hasAnyResult, Cond.code yX0_hasAnyResult cX0_hasAnyResult 2 (some .boolean), Cond.fieldLink RX0 27 "CoreShed$Place" "hasResult" "Z", Cond.methodLink RX7 281 yX5_init, Cond.instanceMethod yX5_init, Cond.code yX5_init cX5_init 4 none, Cond.methodLink RX5 1 objectInit, Cond.instanceMethod objectInit, Cond.code objectInit ⟨#[0xb1]⟩ 1 none, Cond.fieldLink RX5 7 "CoreShed$Place" "sort" "I", Cond.fieldLink RX5 13 "CoreShed$Place" "about" "I", Cond.fieldLink RX5 16 "CoreShed$Place" "off" "I"]
def wsX7_put : List Cond := .code yX7_put cX7_put 5 (some .int) :: ((wsX7_put_r1 ++ wsX7_put_r2) ++ wsX70 ++ wsX00 ++ wsX50 ++ wsX60)
def wsX7_standard_r1 : List Cond := [Cond.constant RX7 90 (100000), Cond.methodLink RX7 167 yX7_batchNamed, Cond.instanceMethod yX7_batchNamed, Cond.selects RX7 yX7_batchNamed yX7_batchNamed, Cond.initialized RX7, Cond.code yX7_batchNamed cX7_batchNamed 2 (some (.object "CoreShed$Batch")), Cond.fieldLink RX7 163 "CoreShed" "batchCount" "I", Cond.fieldLink RX7 23 "CoreShed" "batches" "[LCoreShed$Batch;", Cond.methodLink RX7 60 yX7_isWithin, Cond.static yX7_isWithin, Cond.code yX7_isWithin cX7_isWithin 3 (some .boolean), Cond.methodLink RX7 179 yX7_addPlace, Cond.static yX7_addPlace, Cond.code yX7_addPlace cX7_addPlace 4 (some .int), Cond.fieldLink RX7 270 "CoreShed$Batch" "size" "I", Cond.fieldLink RX7 271 "CoreShed$Batch" "places" "[LCoreShed$Place;", Cond.classLink RX7 188 RX5, Cond.instantiable RX5 5, Cond.initialized RX5, Cond.methodLink RX7 278 yX0_hasAnyResult, Cond.instanceMethod yX0_hasAnyResult, Cond.selects RX0 yX0_hasAnyResult yX0_hasAnyResult, Cond.initialized RX0, Cond.code yX0_hasAnyResult cX0_hasAnyResult 2 (some .boolean)]
def wsX7_standard_r2 : List Cond := [Cond.fieldLink RX0 17 "CoreShed$Batch" "size" "I", Cond.fieldLink RX0 11 "CoreShed$Batch" "places" "[LCoreShed$Place;", Cond.fieldLink RX0 27 "CoreShed$Place" "hasResult" "Z", Cond.methodLink RX7 281 yX5_init, Cond.instanceMethod yX5_init, Cond.code yX5_init cX5_init 4 none, Cond.methodLink RX5 1 objectInit, Cond.instanceMethod objectInit, Cond.code objectInit ⟨#[0xb1]⟩ 1 none, Cond.fieldLink RX5 7 "CoreShed$Place" "sort" "I", Cond.fieldLink RX5 13 "CoreShed$Place" "about" "I", Cond.fieldLink RX5 16 "CoreShed$Place" "off" "I"]
def wsX7_standard : List Cond := .code yX7_standard cX7_standard 5 (some .int) :: ((wsX7_standard_r1 ++ wsX7_standard_r2) ++ wsX70 ++ wsX00 ++ wsX50)
def wsX7_blank_r1 : List Cond := [Cond.methodLink RX7 167 yX7_batchNamed, Cond.instanceMethod yX7_batchNamed, Cond.selects RX7 yX7_batchNamed yX7_batchNamed, Cond.initialized RX7, Cond.code yX7_batchNamed cX7_batchNamed 2 (some (.object "CoreShed$Batch")), Cond.fieldLink RX7 163 "CoreShed" "batchCount" "I", Cond.fieldLink RX7 23 "CoreShed" "batches" "[LCoreShed$Batch;", Cond.methodLink RX7 179 yX7_addPlace, Cond.static yX7_addPlace, Cond.code yX7_addPlace cX7_addPlace 4 (some .int), Cond.fieldLink RX7 270 "CoreShed$Batch" "size" "I", Cond.fieldLink RX7 271 "CoreShed$Batch" "places" "[LCoreShed$Place;", Cond.classLink RX7 188 RX5, Cond.instantiable RX5 5, Cond.initialized RX5, Cond.methodLink RX7 278 yX0_hasAnyResult, Cond.instanceMethod yX0_hasAnyResult, Cond.selects RX0 yX0_hasAnyResult yX0_hasAnyResult, Cond.initialized RX0, Cond.code yX0_hasAnyResult cX0_hasAnyResult 2 (some .boolean), Cond.fieldLink RX0 17 "CoreShed$Batch" "size" "I", Cond.fieldLink RX0 11 "CoreShed$Batch" "places" "[LCoreShed$Place;", Cond.fieldLink RX0 27 "CoreShed$Place" "hasResult" "Z", Cond.methodLink RX7 281 yX5_init]
def wsX7_blank_r2 : List Cond := [Cond.instanceMethod yX5_init, Cond.code yX5_init cX5_init 4 none, Cond.methodLink RX5 1 objectInit, Cond.instanceMethod objectInit, Cond.code objectInit ⟨#[0xb1]⟩ 1 none, Cond.fieldLink RX5 7 "CoreShed$Place" "sort" "I", Cond.fieldLink RX5 13 "CoreShed$Place" "about" "I", Cond.fieldLink RX5 16 "CoreShed$Place" "off" "I"]
def wsX7_blank : List Cond := .code yX7_blank cX7_blank 3 (some .int) :: ((wsX7_blank_r1 ++ wsX7_blank_r2) ++ wsX70 ++ wsX00 ++ wsX50)
def wsX7_placeNamed : List Cond := .code yX7_placeNamed cX7_placeNamed 4 (some (.object "CoreShed$Place")) :: ([.fieldLink RX7 270 "CoreShed$Batch" "size" "I", .fieldLink RX7 271 "CoreShed$Batch" "places" "[LCoreShed$Place;", .methodLink RX7 167 yX7_batchNamed, .instanceMethod yX7_batchNamed, .selects RX7 yX7_batchNamed yX7_batchNamed, .initialized RX7, .code yX7_batchNamed cX7_batchNamed 2 (some (.object "CoreShed$Batch")), .fieldLink RX7 163 "CoreShed" "batchCount" "I", .fieldLink RX7 23 "CoreShed" "batches" "[LCoreShed$Batch;"] ++ wsX00 ++ wsX70)
def wsX7_twice_r1 : List Cond := [Cond.fieldLink RX7 187 "CoreShed$Place" "sort" "I", Cond.fieldLink RX7 192 "CoreShed$Place" "about" "I", Cond.methodLink RX7 167 yX7_batchNamed, Cond.instanceMethod yX7_batchNamed, Cond.selects RX7 yX7_batchNamed yX7_batchNamed, Cond.initialized RX7, Cond.code yX7_batchNamed cX7_batchNamed 2 (some (.object "CoreShed$Batch")), Cond.fieldLink RX7 163 "CoreShed" "batchCount" "I", Cond.fieldLink RX7 23 "CoreShed" "batches" "[LCoreShed$Batch;", Cond.methodLink RX7 183 yX7_placeNamed, Cond.instanceMethod yX7_placeNamed, Cond.selects RX7 yX7_placeNamed yX7_placeNamed, Cond.code yX7_placeNamed cX7_placeNamed 4 (some (.object "CoreShed$Place")), Cond.fieldLink RX7 270 "CoreShed$Batch" "size" "I", Cond.fieldLink RX7 271 "CoreShed$Batch" "places" "[LCoreShed$Place;", Cond.methodLink RX7 156 yX7_sampleNamed, Cond.instanceMethod yX7_sampleNamed, Cond.selects RX7 yX7_sampleNamed yX7_sampleNamed, Cond.code yX7_sampleNamed cX7_sampleNamed 2 (some (.object "CoreShed$Sample")), Cond.fieldLink RX7 150 "CoreShed" "sampleCount" "I", Cond.fieldLink RX7 17 "CoreShed" "samples" "[LCoreShed$Sample;", Cond.methodLink RX7 175 yX7_addPlaceWithQuarter, Cond.static yX7_addPlaceWithQuarter, Cond.code yX7_addPlaceWithQuarter cX7_addPlaceWithQuarter 5 (some .int)]
def wsX7_twice_r2 : List Cond := [Cond.fieldLink RX7 160 "CoreShed$Sample" "quarters" "I", Cond.methodLink RX7 179 yX7_addPlace, Cond.static yX7_addPlace, Cond.code yX7_addPlace cX7_addPlace 4 (some .int), Cond.classLink RX7 188 RX5, Cond.instantiable RX5 5, Cond.initialized RX5, Cond.methodLink RX7 278 yX0_hasAnyResult, Cond.instanceMethod yX0_hasAnyResult, Cond.selects RX0 yX0_hasAnyResult yX0_hasAnyResult, Cond.initialized RX0, Cond.code yX0_hasAnyResult cX0_hasAnyResult 2 (some .boolean), Cond.fieldLink RX0 17 "CoreShed$Batch" "size" "I", Cond.fieldLink RX0 11 "CoreShed$Batch" "places" "[LCoreShed$Place;", Cond.fieldLink RX0 27 "CoreShed$Place" "hasResult" "Z", Cond.methodLink RX7 281 yX5_init, Cond.instanceMethod yX5_init, Cond.code yX5_init cX5_init 4 none, Cond.methodLink RX5 1 objectInit, Cond.instanceMethod objectInit, Cond.code objectInit ⟨#[0xb1]⟩ 1 none, Cond.fieldLink RX5 7 "CoreShed$Place" "sort" "I", Cond.fieldLink RX5 13 "CoreShed$Place" "about" "I", Cond.fieldLink RX5 16 "CoreShed$Place" "off" "I"]
def wsX7_twice : List Cond := .code yX7_twice cX7_twice 6 (some .int) :: ((wsX7_twice_r1 ++ wsX7_twice_r2) ++ wsX50 ++ wsX70 ++ wsX00 ++ wsX60)
def wsX7_law : List Cond := .code yX7_law cX7_law 4 (some .int) :: ([.fieldLink RX7 45 "CoreShed" "dirt" "I", .fieldLink RX7 49 "CoreShed" "spread" "I", .methodLink RX7 60 yX7_isWithin, .static yX7_isWithin, .initialized RX7, .code yX7_isWithin cX7_isWithin 3 (some .boolean)] ++ wsX70)
def wsX7_result : List Cond := .code yX7_result cX7_result 5 (some .int) :: ([.constant RX7 90 (100000), .fieldLink RX7 195 "CoreShed$Place" "hasResult" "Z", .fieldLink RX7 199 "CoreShed$Place" "result" "I", .methodLink RX7 183 yX7_placeNamed, .instanceMethod yX7_placeNamed, .selects RX7 yX7_placeNamed yX7_placeNamed, .initialized RX7, .code yX7_placeNamed cX7_placeNamed 4 (some (.object "CoreShed$Place")), .fieldLink RX7 270 "CoreShed$Batch" "size" "I", .fieldLink RX7 271 "CoreShed$Batch" "places" "[LCoreShed$Place;", .methodLink RX7 167 yX7_batchNamed, .instanceMethod yX7_batchNamed, .selects RX7 yX7_batchNamed yX7_batchNamed, .code yX7_batchNamed cX7_batchNamed 2 (some (.object "CoreShed$Batch")), .fieldLink RX7 163 "CoreShed" "batchCount" "I", .fieldLink RX7 23 "CoreShed" "batches" "[LCoreShed$Batch;", .methodLink RX7 60 yX7_isWithin, .static yX7_isWithin, .code yX7_isWithin cX7_isWithin 3 (some .boolean)] ++ wsX50 ++ wsX00 ++ wsX70)
def wsX7_sound_r1 : List Cond := [Cond.fieldLink RX7 45 "CoreShed" "dirt" "I", Cond.fieldLink RX7 49 "CoreShed" "spread" "I", Cond.methodLink RX7 167 yX7_batchNamed, Cond.instanceMethod yX7_batchNamed, Cond.selects RX7 yX7_batchNamed yX7_batchNamed, Cond.initialized RX7, Cond.code yX7_batchNamed cX7_batchNamed 2 (some (.object "CoreShed$Batch")), Cond.fieldLink RX7 163 "CoreShed" "batchCount" "I", Cond.fieldLink RX7 23 "CoreShed" "batches" "[LCoreShed$Batch;", Cond.methodLink RX7 202 yX0_isComplete, Cond.instanceMethod yX0_isComplete, Cond.selects RX0 yX0_isComplete yX0_isComplete, Cond.initialized RX0, Cond.code yX0_isComplete cX0_isComplete 2 (some .boolean), Cond.fieldLink RX0 17 "CoreShed$Batch" "size" "I", Cond.fieldLink RX0 11 "CoreShed$Batch" "places" "[LCoreShed$Place;", Cond.fieldLink RX0 27 "CoreShed$Place" "hasResult" "Z", Cond.methodLink RX7 205 yX0_isSound, Cond.instanceMethod yX0_isSound, Cond.selects RX0 yX0_isSound yX0_isSound, Cond.code yX0_isSound cX0_isSound 3 (some .boolean), Cond.methodLink RX0 31 yX0_isComplete, Cond.methodLink RX0 35 yX0_firstFault, Cond.instanceMethod yX0_firstFault]
def wsX7_sound_r2 : List Cond := [Cond.selects RX0 yX0_firstFault yX0_firstFault, Cond.code yX0_firstFault cX0_firstFault 4 (some .int), Cond.methodLink RX0 39 yX0_isRight, Cond.instanceMethod yX0_isRight, Cond.selects RX0 yX0_isRight yX0_isRight, Cond.code yX0_isRight cX0_isRight 4 (some .boolean), Cond.fieldLink RX0 21 "CoreShed$Place" "sort" "I", Cond.fieldLink RX0 24 "CoreShed$Place" "about" "I", Cond.methodLink RX0 47 Lib.Math.abs.name, Cond.static Lib.Math.abs.name, Cond.initialized "java/lang/Math", Cond.code Lib.Math.abs.name Lib.Math.abs.code 1 (some .int), Cond.fieldLink RX0 53 "CoreShed$Place" "off" "I", Cond.methodLink RX0 43 yX5_lower, Cond.instanceMethod yX5_lower, Cond.selects RX5 yX5_lower yX5_lower, Cond.initialized RX5, Cond.code yX5_lower cX5_lower 1 (some .int), Cond.fieldLink RX5 19 "CoreShed$Place" "result" "I", Cond.methodLink RX5 22 Lib.Math.max.name, Cond.static Lib.Math.max.name, Cond.code Lib.Math.max.name Lib.Math.max.code 2 (some .int), Cond.methodLink RX0 56 yX5_upper, Cond.instanceMethod yX5_upper]
def wsX7_sound_r3 : List Cond := [Cond.selects RX5 yX5_upper yX5_upper, Cond.code yX5_upper cX5_upper 1 (some .int), Cond.methodLink RX0 59 yX0_isNear, Cond.static yX0_isNear, Cond.code yX0_isNear cX0_isNear 3 (some .boolean), Cond.methodLink RX0 63 Lib.Math.max.name]
def wsX7_sound : List Cond := .code yX7_sound cX7_sound 3 (some .int) :: ((wsX7_sound_r1 ++ (wsX7_sound_r2 ++ wsX7_sound_r3)) ++ wsX70 ++ wsX00 ++ wsX50)
def wsX7_fault_r1 : List Cond := [Cond.fieldLink RX7 45 "CoreShed" "dirt" "I", Cond.fieldLink RX7 49 "CoreShed" "spread" "I", Cond.methodLink RX7 167 yX7_batchNamed, Cond.instanceMethod yX7_batchNamed, Cond.selects RX7 yX7_batchNamed yX7_batchNamed, Cond.initialized RX7, Cond.code yX7_batchNamed cX7_batchNamed 2 (some (.object "CoreShed$Batch")), Cond.fieldLink RX7 163 "CoreShed" "batchCount" "I", Cond.fieldLink RX7 23 "CoreShed" "batches" "[LCoreShed$Batch;", Cond.methodLink RX7 202 yX0_isComplete, Cond.instanceMethod yX0_isComplete, Cond.selects RX0 yX0_isComplete yX0_isComplete, Cond.initialized RX0, Cond.code yX0_isComplete cX0_isComplete 2 (some .boolean), Cond.fieldLink RX0 17 "CoreShed$Batch" "size" "I", Cond.fieldLink RX0 11 "CoreShed$Batch" "places" "[LCoreShed$Place;", Cond.fieldLink RX0 27 "CoreShed$Place" "hasResult" "Z", Cond.methodLink RX7 208 yX0_firstFault, Cond.instanceMethod yX0_firstFault, Cond.selects RX0 yX0_firstFault yX0_firstFault, Cond.code yX0_firstFault cX0_firstFault 4 (some .int), Cond.methodLink RX0 39 yX0_isRight, Cond.instanceMethod yX0_isRight, Cond.selects RX0 yX0_isRight yX0_isRight]
def wsX7_fault_r2 : List Cond := [Cond.code yX0_isRight cX0_isRight 4 (some .boolean), Cond.fieldLink RX0 21 "CoreShed$Place" "sort" "I", Cond.fieldLink RX0 24 "CoreShed$Place" "about" "I", Cond.methodLink RX0 47 Lib.Math.abs.name, Cond.static Lib.Math.abs.name, Cond.initialized "java/lang/Math", Cond.code Lib.Math.abs.name Lib.Math.abs.code 1 (some .int), Cond.fieldLink RX0 53 "CoreShed$Place" "off" "I", Cond.methodLink RX0 43 yX5_lower, Cond.instanceMethod yX5_lower, Cond.selects RX5 yX5_lower yX5_lower, Cond.initialized RX5, Cond.code yX5_lower cX5_lower 1 (some .int), Cond.fieldLink RX5 19 "CoreShed$Place" "result" "I", Cond.methodLink RX5 22 Lib.Math.max.name, Cond.static Lib.Math.max.name, Cond.code Lib.Math.max.name Lib.Math.max.code 2 (some .int), Cond.methodLink RX0 56 yX5_upper, Cond.instanceMethod yX5_upper, Cond.selects RX5 yX5_upper yX5_upper, Cond.code yX5_upper cX5_upper 1 (some .int), Cond.methodLink RX0 59 yX0_isNear, Cond.static yX0_isNear, Cond.code yX0_isNear cX0_isNear 3 (some .boolean)]
def wsX7_fault_r3 : List Cond := [Cond.methodLink RX0 63 Lib.Math.max.name]
def wsX7_fault : List Cond := .code yX7_fault cX7_fault 3 (some .int) :: ((wsX7_fault_r1 ++ (wsX7_fault_r2 ++ wsX7_fault_r3)) ++ wsX70 ++ wsX00 ++ wsX50)
def wsX7_swap_r1 : List Cond := [Cond.fieldLink RX7 45 "CoreShed" "dirt" "I", Cond.fieldLink RX7 49 "CoreShed" "spread" "I", Cond.methodLink RX7 167 yX7_batchNamed, Cond.instanceMethod yX7_batchNamed, Cond.selects RX7 yX7_batchNamed yX7_batchNamed, Cond.initialized RX7, Cond.code yX7_batchNamed cX7_batchNamed 2 (some (.object "CoreShed$Batch")), Cond.fieldLink RX7 163 "CoreShed" "batchCount" "I", Cond.fieldLink RX7 23 "CoreShed" "batches" "[LCoreShed$Batch;", Cond.methodLink RX7 202 yX0_isComplete, Cond.instanceMethod yX0_isComplete, Cond.selects RX0 yX0_isComplete yX0_isComplete, Cond.initialized RX0, Cond.code yX0_isComplete cX0_isComplete 2 (some .boolean), Cond.fieldLink RX0 17 "CoreShed$Batch" "size" "I", Cond.fieldLink RX0 11 "CoreShed$Batch" "places" "[LCoreShed$Place;", Cond.fieldLink RX0 27 "CoreShed$Place" "hasResult" "Z", Cond.methodLink RX7 205 yX0_isSound, Cond.instanceMethod yX0_isSound, Cond.selects RX0 yX0_isSound yX0_isSound, Cond.code yX0_isSound cX0_isSound 3 (some .boolean), Cond.methodLink RX0 31 yX0_isComplete, Cond.methodLink RX0 35 yX0_firstFault, Cond.instanceMethod yX0_firstFault]
def wsX7_swap_r2 : List Cond := [Cond.selects RX0 yX0_firstFault yX0_firstFault, Cond.code yX0_firstFault cX0_firstFault 4 (some .int), Cond.methodLink RX0 39 yX0_isRight, Cond.instanceMethod yX0_isRight, Cond.selects RX0 yX0_isRight yX0_isRight, Cond.code yX0_isRight cX0_isRight 4 (some .boolean), Cond.fieldLink RX0 21 "CoreShed$Place" "sort" "I", Cond.fieldLink RX0 24 "CoreShed$Place" "about" "I", Cond.methodLink RX0 47 Lib.Math.abs.name, Cond.static Lib.Math.abs.name, Cond.initialized "java/lang/Math", Cond.code Lib.Math.abs.name Lib.Math.abs.code 1 (some .int), Cond.fieldLink RX0 53 "CoreShed$Place" "off" "I", Cond.methodLink RX0 43 yX5_lower, Cond.instanceMethod yX5_lower, Cond.selects RX5 yX5_lower yX5_lower, Cond.initialized RX5, Cond.code yX5_lower cX5_lower 1 (some .int), Cond.fieldLink RX5 19 "CoreShed$Place" "result" "I", Cond.methodLink RX5 22 Lib.Math.max.name, Cond.static Lib.Math.max.name, Cond.code Lib.Math.max.name Lib.Math.max.code 2 (some .int), Cond.methodLink RX0 56 yX5_upper, Cond.instanceMethod yX5_upper]
def wsX7_swap_r3 : List Cond := [Cond.selects RX5 yX5_upper yX5_upper, Cond.code yX5_upper cX5_upper 1 (some .int), Cond.methodLink RX0 59 yX0_isNear, Cond.static yX0_isNear, Cond.code yX0_isNear cX0_isNear 3 (some .boolean), Cond.methodLink RX0 63 Lib.Math.max.name, Cond.methodLink RX7 211 yX0_leastMendingSwap, Cond.instanceMethod yX0_leastMendingSwap, Cond.selects RX0 yX0_leastMendingSwap yX0_leastMendingSwap, Cond.code yX0_leastMendingSwap cX0_leastMendingSwap 5 (some .int), Cond.methodLink RX0 66 yX5_exchangeResult, Cond.instanceMethod yX5_exchangeResult, Cond.selects RX5 yX5_exchangeResult yX5_exchangeResult, Cond.code yX5_exchangeResult cX5_exchangeResult 3 none, Cond.methodLink RX0 70 yX0_isSound]
def wsX7_swap : List Cond := .code yX7_swap cX7_swap 3 (some .int) :: ((wsX7_swap_r1 ++ (wsX7_swap_r2 ++ wsX7_swap_r3)) ++ wsX70 ++ wsX00 ++ wsX50)
def wsX7_exchange : List Cond := .code yX7_exchange cX7_exchange 5 (some .int) :: ([.fieldLink RX7 195 "CoreShed$Place" "hasResult" "Z", .methodLink RX7 183 yX7_placeNamed, .instanceMethod yX7_placeNamed, .selects RX7 yX7_placeNamed yX7_placeNamed, .initialized RX7, .code yX7_placeNamed cX7_placeNamed 4 (some (.object "CoreShed$Place")), .fieldLink RX7 270 "CoreShed$Batch" "size" "I", .fieldLink RX7 271 "CoreShed$Batch" "places" "[LCoreShed$Place;", .methodLink RX7 167 yX7_batchNamed, .instanceMethod yX7_batchNamed, .selects RX7 yX7_batchNamed yX7_batchNamed, .code yX7_batchNamed cX7_batchNamed 2 (some (.object "CoreShed$Batch")), .fieldLink RX7 163 "CoreShed" "batchCount" "I", .fieldLink RX7 23 "CoreShed" "batches" "[LCoreShed$Batch;", .methodLink RX7 214 yX5_exchangeResult, .instanceMethod yX5_exchangeResult, .selects RX5 yX5_exchangeResult yX5_exchangeResult, .initialized RX5, .code yX5_exchangeResult cX5_exchangeResult 3 none, .fieldLink RX5 19 "CoreShed$Place" "result" "I"] ++ wsX50 ++ wsX00 ++ wsX70)
def wsX7_about_r1 : List Cond := [Cond.methodLink RX7 183 yX7_placeNamed, Cond.instanceMethod yX7_placeNamed, Cond.selects RX7 yX7_placeNamed yX7_placeNamed, Cond.initialized RX7, Cond.code yX7_placeNamed cX7_placeNamed 4 (some (.object "CoreShed$Place")), Cond.fieldLink RX7 270 "CoreShed$Batch" "size" "I", Cond.fieldLink RX7 271 "CoreShed$Batch" "places" "[LCoreShed$Place;", Cond.methodLink RX7 167 yX7_batchNamed, Cond.instanceMethod yX7_batchNamed, Cond.selects RX7 yX7_batchNamed yX7_batchNamed, Cond.code yX7_batchNamed cX7_batchNamed 2 (some (.object "CoreShed$Batch")), Cond.fieldLink RX7 163 "CoreShed" "batchCount" "I", Cond.fieldLink RX7 23 "CoreShed" "batches" "[LCoreShed$Batch;", Cond.methodLink RX7 60 yX7_isWithin, Cond.static yX7_isWithin, Cond.code yX7_isWithin cX7_isWithin 3 (some .boolean), Cond.methodLink RX7 218 yX5_told, Cond.instanceMethod yX5_told, Cond.selects RX5 yX5_told yX5_told, Cond.initialized RX5, Cond.code yX5_told cX5_told 2 (some .int), Cond.fieldLink RX5 7 "CoreShed$Place" "sort" "I", Cond.fieldLink RX5 13 "CoreShed$Place" "about" "I", Cond.fieldLink RX5 16 "CoreShed$Place" "off" "I"]
def wsX7_about_r2 : List Cond := [Cond.fieldLink RX5 35 "CoreShed$Place" "hasResult" "Z", Cond.fieldLink RX5 19 "CoreShed$Place" "result" "I"]
def wsX7_about : List Cond := .code yX7_about cX7_about 5 (some .int) :: ((wsX7_about_r1 ++ wsX7_about_r2) ++ wsX00 ++ wsX70 ++ wsX50)
def wsX7_gradingPlace_r1 : List Cond := [Cond.fieldLink RX7 163 "CoreShed" "batchCount" "I", Cond.fieldLink RX7 23 "CoreShed" "batches" "[LCoreShed$Batch;", Cond.fieldLink RX7 45 "CoreShed" "dirt" "I", Cond.fieldLink RX7 49 "CoreShed" "spread" "I", Cond.methodLink RX7 171 yX0_placeOf, Cond.instanceMethod yX0_placeOf, Cond.selects RX0 yX0_placeOf yX0_placeOf, Cond.initialized RX0, Cond.code yX0_placeOf cX0_placeOf 3 (some (.object "CoreShed$Place")), Cond.fieldLink RX0 17 "CoreShed$Batch" "size" "I", Cond.fieldLink RX0 11 "CoreShed$Batch" "places" "[LCoreShed$Place;", Cond.fieldLink RX0 21 "CoreShed$Place" "sort" "I", Cond.fieldLink RX0 24 "CoreShed$Place" "about" "I", Cond.methodLink RX7 205 yX0_isSound, Cond.instanceMethod yX0_isSound, Cond.selects RX0 yX0_isSound yX0_isSound, Cond.code yX0_isSound cX0_isSound 3 (some .boolean), Cond.methodLink RX0 31 yX0_isComplete, Cond.instanceMethod yX0_isComplete, Cond.selects RX0 yX0_isComplete yX0_isComplete, Cond.code yX0_isComplete cX0_isComplete 2 (some .boolean), Cond.fieldLink RX0 27 "CoreShed$Place" "hasResult" "Z", Cond.methodLink RX0 35 yX0_firstFault, Cond.instanceMethod yX0_firstFault]
def wsX7_gradingPlace_r2 : List Cond := [Cond.selects RX0 yX0_firstFault yX0_firstFault, Cond.code yX0_firstFault cX0_firstFault 4 (some .int), Cond.methodLink RX0 39 yX0_isRight, Cond.instanceMethod yX0_isRight, Cond.selects RX0 yX0_isRight yX0_isRight, Cond.code yX0_isRight cX0_isRight 4 (some .boolean), Cond.methodLink RX0 47 Lib.Math.abs.name, Cond.static Lib.Math.abs.name, Cond.initialized "java/lang/Math", Cond.code Lib.Math.abs.name Lib.Math.abs.code 1 (some .int), Cond.fieldLink RX0 53 "CoreShed$Place" "off" "I", Cond.methodLink RX0 43 yX5_lower, Cond.instanceMethod yX5_lower, Cond.selects RX5 yX5_lower yX5_lower, Cond.initialized RX5, Cond.code yX5_lower cX5_lower 1 (some .int), Cond.fieldLink RX5 19 "CoreShed$Place" "result" "I", Cond.methodLink RX5 22 Lib.Math.max.name, Cond.static Lib.Math.max.name, Cond.code Lib.Math.max.name Lib.Math.max.code 2 (some .int), Cond.methodLink RX0 56 yX5_upper, Cond.instanceMethod yX5_upper, Cond.selects RX5 yX5_upper yX5_upper, Cond.code yX5_upper cX5_upper 1 (some .int)]
def wsX7_gradingPlace_r3 : List Cond := [Cond.methodLink RX0 59 yX0_isNear, Cond.static yX0_isNear, Cond.code yX0_isNear cX0_isNear 3 (some .boolean), Cond.methodLink RX0 63 Lib.Math.max.name]
def wsX7_gradingPlace : List Cond := .code yX7_gradingPlace cX7_gradingPlace 4 (some (.object "CoreShed$Place")) :: ((wsX7_gradingPlace_r1 ++ (wsX7_gradingPlace_r2 ++ wsX7_gradingPlace_r3)) ++ wsX70 ++ wsX00 ++ wsX50)
def wsX7_grade_r1 : List Cond := [Cond.methodLink RX7 156 yX7_sampleNamed, Cond.instanceMethod yX7_sampleNamed, Cond.selects RX7 yX7_sampleNamed yX7_sampleNamed, Cond.initialized RX7, Cond.code yX7_sampleNamed cX7_sampleNamed 2 (some (.object "CoreShed$Sample")), Cond.fieldLink RX7 150 "CoreShed" "sampleCount" "I", Cond.fieldLink RX7 17 "CoreShed" "samples" "[LCoreShed$Sample;", Cond.methodLink RX7 221 yX7_gradingPlace, Cond.instanceMethod yX7_gradingPlace, Cond.selects RX7 yX7_gradingPlace yX7_gradingPlace, Cond.code yX7_gradingPlace cX7_gradingPlace 4 (some (.object "CoreShed$Place")), Cond.fieldLink RX7 163 "CoreShed" "batchCount" "I", Cond.fieldLink RX7 23 "CoreShed" "batches" "[LCoreShed$Batch;", Cond.fieldLink RX7 45 "CoreShed" "dirt" "I", Cond.fieldLink RX7 49 "CoreShed" "spread" "I", Cond.methodLink RX7 171 yX0_placeOf, Cond.instanceMethod yX0_placeOf, Cond.selects RX0 yX0_placeOf yX0_placeOf, Cond.initialized RX0, Cond.code yX0_placeOf cX0_placeOf 3 (some (.object "CoreShed$Place")), Cond.fieldLink RX0 17 "CoreShed$Batch" "size" "I", Cond.fieldLink RX0 11 "CoreShed$Batch" "places" "[LCoreShed$Place;", Cond.fieldLink RX0 21 "CoreShed$Place" "sort" "I", Cond.fieldLink RX0 24 "CoreShed$Place" "about" "I"]
def wsX7_grade_r2 : List Cond := [Cond.methodLink RX7 205 yX0_isSound, Cond.instanceMethod yX0_isSound, Cond.selects RX0 yX0_isSound yX0_isSound, Cond.code yX0_isSound cX0_isSound 3 (some .boolean), Cond.methodLink RX0 31 yX0_isComplete, Cond.instanceMethod yX0_isComplete, Cond.selects RX0 yX0_isComplete yX0_isComplete, Cond.code yX0_isComplete cX0_isComplete 2 (some .boolean), Cond.fieldLink RX0 27 "CoreShed$Place" "hasResult" "Z", Cond.methodLink RX0 35 yX0_firstFault, Cond.instanceMethod yX0_firstFault, Cond.selects RX0 yX0_firstFault yX0_firstFault, Cond.code yX0_firstFault cX0_firstFault 4 (some .int), Cond.methodLink RX0 39 yX0_isRight, Cond.instanceMethod yX0_isRight, Cond.selects RX0 yX0_isRight yX0_isRight, Cond.code yX0_isRight cX0_isRight 4 (some .boolean), Cond.methodLink RX0 47 Lib.Math.abs.name, Cond.static Lib.Math.abs.name, Cond.initialized "java/lang/Math", Cond.code Lib.Math.abs.name Lib.Math.abs.code 1 (some .int), Cond.fieldLink RX0 53 "CoreShed$Place" "off" "I", Cond.methodLink RX0 43 yX5_lower, Cond.instanceMethod yX5_lower]
def wsX7_grade_r3 : List Cond := [Cond.selects RX5 yX5_lower yX5_lower, Cond.initialized RX5, Cond.code yX5_lower cX5_lower 1 (some .int), Cond.fieldLink RX5 19 "CoreShed$Place" "result" "I", Cond.methodLink RX5 22 Lib.Math.max.name, Cond.static Lib.Math.max.name, Cond.code Lib.Math.max.name Lib.Math.max.code 2 (some .int), Cond.methodLink RX0 56 yX5_upper, Cond.instanceMethod yX5_upper, Cond.selects RX5 yX5_upper yX5_upper, Cond.code yX5_upper cX5_upper 1 (some .int), Cond.methodLink RX0 59 yX0_isNear, Cond.static yX0_isNear, Cond.code yX0_isNear cX0_isNear 3 (some .boolean), Cond.methodLink RX0 63 Lib.Math.max.name, Cond.methodLink RX7 224 yX5_endOn, Cond.instanceMethod yX5_endOn, Cond.selects RX5 yX5_endOn yX5_endOn, Cond.code yX5_endOn cX5_endOn 2 (some .int), Cond.methodLink RX5 28 yX5_lower, Cond.methodLink RX5 32 yX5_upper]
def wsX7_grade : List Cond := .code yX7_grade cX7_grade 4 (some .int) :: ((wsX7_grade_r1 ++ (wsX7_grade_r2 ++ wsX7_grade_r3)) ++ wsX70 ++ wsX00 ++ wsX50)
def wsX7_composite_r1 : List Cond := [Cond.constantLong RX7 227 (-101), Cond.constant RX7 90 (100000), Cond.constantLong RX7 229 (-102), Cond.fieldLink RX7 150 "CoreShed" "sampleCount" "I", Cond.fieldLink RX7 17 "CoreShed" "samples" "[LCoreShed$Sample;", Cond.methodLink RX7 235 Lib.Math.min.name, Cond.static Lib.Math.min.name, Cond.initialized "java/lang/Math", Cond.code Lib.Math.min.name Lib.Math.min.code 2 (some .int), Cond.methodLink RX7 56 yX7_holeNamed, Cond.instanceMethod yX7_holeNamed, Cond.selects RX7 yX7_holeNamed yX7_holeNamed, Cond.initialized RX7, Cond.code yX7_holeNamed cX7_holeNamed 2 (some (.object "CoreShed$Hole")), Cond.fieldLink RX7 52 "CoreShed" "holeCount" "I", Cond.fieldLink RX7 11 "CoreShed" "holes" "[LCoreShed$Hole;", Cond.methodLink RX7 82 yX1_isStretch, Cond.instanceMethod yX1_isStretch, Cond.selects RX1 yX1_isStretch yX1_isStretch, Cond.initialized RX1, Cond.code yX1_isStretch cX1_isStretch 3 (some .boolean), Cond.fieldLink RX1 35 "CoreShed$Hole" "bottom" "I", Cond.methodLink RX7 60 yX7_isWithin, Cond.static yX7_isWithin]
def wsX7_composite_r2 : List Cond := [Cond.code yX7_isWithin cX7_isWithin 3 (some .boolean), Cond.methodLink RX7 231 yX6_unitsWithin, Cond.instanceMethod yX6_unitsWithin, Cond.selects RX6 yX6_unitsWithin yX6_unitsWithin, Cond.initialized RX6, Cond.code yX6_unitsWithin cX6_unitsWithin 4 (some .int), Cond.fieldLink RX6 15 "CoreShed$Sample" "hole" "I", Cond.fieldLink RX6 18 "CoreShed$Sample" "from" "I", Cond.fieldLink RX6 21 "CoreShed$Sample" "to" "I", Cond.static yX7_unitsInCommon, Cond.code yX7_unitsInCommon cX7_unitsInCommon 4 (some .int), Cond.methodLink RX7 282 Lib.Math.max.name, Cond.static Lib.Math.max.name, Cond.code Lib.Math.max.name Lib.Math.max.code 2 (some .int), Cond.methodLink RX7 221 yX7_gradingPlace, Cond.instanceMethod yX7_gradingPlace, Cond.selects RX7 yX7_gradingPlace yX7_gradingPlace, Cond.code yX7_gradingPlace cX7_gradingPlace 4 (some (.object "CoreShed$Place")), Cond.fieldLink RX7 163 "CoreShed" "batchCount" "I", Cond.fieldLink RX7 23 "CoreShed" "batches" "[LCoreShed$Batch;", Cond.fieldLink RX7 45 "CoreShed" "dirt" "I", Cond.fieldLink RX7 49 "CoreShed" "spread" "I", Cond.methodLink RX7 171 yX0_placeOf, Cond.instanceMethod yX0_placeOf]
def wsX7_composite_r3 : List Cond := [Cond.selects RX0 yX0_placeOf yX0_placeOf, Cond.initialized RX0, Cond.code yX0_placeOf cX0_placeOf 3 (some (.object "CoreShed$Place")), Cond.fieldLink RX0 17 "CoreShed$Batch" "size" "I", Cond.fieldLink RX0 11 "CoreShed$Batch" "places" "[LCoreShed$Place;", Cond.fieldLink RX0 21 "CoreShed$Place" "sort" "I", Cond.fieldLink RX0 24 "CoreShed$Place" "about" "I", Cond.methodLink RX7 205 yX0_isSound, Cond.instanceMethod yX0_isSound, Cond.selects RX0 yX0_isSound yX0_isSound, Cond.code yX0_isSound cX0_isSound 3 (some .boolean), Cond.methodLink RX0 31 yX0_isComplete, Cond.instanceMethod yX0_isComplete, Cond.selects RX0 yX0_isComplete yX0_isComplete, Cond.code yX0_isComplete cX0_isComplete 2 (some .boolean), Cond.fieldLink RX0 27 "CoreShed$Place" "hasResult" "Z", Cond.methodLink RX0 35 yX0_firstFault, Cond.instanceMethod yX0_firstFault, Cond.selects RX0 yX0_firstFault yX0_firstFault, Cond.code yX0_firstFault cX0_firstFault 4 (some .int), Cond.methodLink RX0 39 yX0_isRight, Cond.instanceMethod yX0_isRight, Cond.selects RX0 yX0_isRight yX0_isRight, Cond.code yX0_isRight cX0_isRight 4 (some .boolean)]
def wsX7_composite_r4 : List Cond := [Cond.methodLink RX0 47 Lib.Math.abs.name, Cond.static Lib.Math.abs.name, Cond.code Lib.Math.abs.name Lib.Math.abs.code 1 (some .int), Cond.fieldLink RX0 53 "CoreShed$Place" "off" "I", Cond.methodLink RX0 43 yX5_lower, Cond.instanceMethod yX5_lower, Cond.selects RX5 yX5_lower yX5_lower, Cond.initialized RX5, Cond.code yX5_lower cX5_lower 1 (some .int), Cond.fieldLink RX5 19 "CoreShed$Place" "result" "I", Cond.methodLink RX5 22 Lib.Math.max.name, Cond.methodLink RX0 56 yX5_upper, Cond.instanceMethod yX5_upper, Cond.selects RX5 yX5_upper yX5_upper, Cond.code yX5_upper cX5_upper 1 (some .int), Cond.methodLink RX0 59 yX0_isNear, Cond.static yX0_isNear, Cond.code yX0_isNear cX0_isNear 3 (some .boolean), Cond.methodLink RX0 63 Lib.Math.max.name, Cond.methodLink RX7 224 yX5_endOn, Cond.instanceMethod yX5_endOn, Cond.selects RX5 yX5_endOn yX5_endOn, Cond.code yX5_endOn cX5_endOn 2 (some .int), Cond.methodLink RX5 28 yX5_lower]
def wsX7_composite_r5 : List Cond := [Cond.methodLink RX5 32 yX5_upper]
def wsX7_composite : List Cond := .code yX7_composite cX7_composite 12 (some .long) :: ((wsX7_composite_r1 ++ (wsX7_composite_r2 ++ (wsX7_composite_r3 ++ (wsX7_composite_r4 ++ wsX7_composite_r5)))) ++ wsX70 ++ wsX10 ++ wsX60 ++ wsX00 ++ wsX50)
def wsX7_cost_r1 : List Cond := [Cond.fieldLink RX7 41 "CoreShed" "matching" "LCoreShed$Matching;", Cond.fieldLink RX7 130 "CoreShed$Hole" "firstLog" "LCoreShed$Log;", Cond.fieldLink RX7 27 "CoreShed" "table" "[I", Cond.fieldLink RX7 244 "CoreShed$Matching" "least" "[[I", Cond.methodLink RX7 56 yX7_holeNamed, Cond.instanceMethod yX7_holeNamed, Cond.selects RX7 yX7_holeNamed yX7_holeNamed, Cond.initialized RX7, Cond.code yX7_holeNamed cX7_holeNamed 2 (some (.object "CoreShed$Hole")), Cond.fieldLink RX7 52 "CoreShed" "holeCount" "I", Cond.fieldLink RX7 11 "CoreShed" "holes" "[LCoreShed$Hole;", Cond.methodLink RX7 240 yX3_weigh, Cond.instanceMethod yX3_weigh, Cond.selects RX3 yX3_weigh yX3_weigh, Cond.initialized RX3, Cond.code yX3_weigh cX3_weigh 6 none, Cond.fieldLink RX3 16 "CoreShed$Log" "size" "I", Cond.fieldLink RX3 11 "CoreShed$Matching" "least" "[[I", Cond.methodLink RX3 22 yX3_leastFrom, Cond.instanceMethod yX3_leastFrom, Cond.selects RX3 yX3_leastFrom yX3_leastFrom, Cond.code yX3_leastFrom cX3_leastFrom 7 (some .int), Cond.methodLink RX3 37 Lib.Math.min.name, Cond.static Lib.Math.min.name]
def wsX7_cost_r2 : List Cond := [Cond.initialized "java/lang/Math", Cond.code Lib.Math.min.name Lib.Math.min.code 2 (some .int), Cond.methodLink RX3 26 yX2_bottom, Cond.instanceMethod yX2_bottom, Cond.selects RX2 yX2_bottom yX2_bottom, Cond.initialized RX2, Cond.code yX2_bottom cX2_bottom 1 (some .int), Cond.fieldLink RX2 18 "CoreShed$Log" "size" "I", Cond.methodLink RX2 22 yX2_top, Cond.instanceMethod yX2_top, Cond.selects RX2 yX2_top yX2_top, Cond.code yX2_top cX2_top 2 (some .int), Cond.fieldLink RX2 9 "CoreShed$Log" "depths" "[I", Cond.methodLink RX3 30 yX2_top, Cond.methodLink RX3 34 yX2_thickness, Cond.instanceMethod yX2_thickness, Cond.selects RX2 yX2_thickness yX2_thickness, Cond.code yX2_thickness cX2_thickness 2 (some .int), Cond.methodLink RX3 43 yX3_isAlike, Cond.static yX3_isAlike, Cond.code yX3_isAlike cX3_isAlike 5 (some .boolean), Cond.fieldLink RX3 51 "CoreShed$Log" "codes" "[I", Cond.methodLink RX3 47 yX3_pairedSum, Cond.instanceMethod yX3_pairedSum]
def wsX7_cost_r3 : List Cond := [Cond.selects RX3 yX3_pairedSum yX3_pairedSum, Cond.code yX3_pairedSum cX3_pairedSum 5 (some .int), Cond.methodLink RX3 55 Lib.Math.abs.name, Cond.static Lib.Math.abs.name, Cond.code Lib.Math.abs.name Lib.Math.abs.code 1 (some .int)]
def wsX7_cost : List Cond := .code yX7_cost cX7_cost 5 (some .int) :: ((wsX7_cost_r1 ++ (wsX7_cost_r2 ++ wsX7_cost_r3)) ++ wsX70 ++ wsX10 ++ wsX30 ++ wsX20)
def wsX7_matched_r1 : List Cond := [Cond.fieldLink RX7 130 "CoreShed$Hole" "firstLog" "LCoreShed$Log;", Cond.fieldLink RX7 117 "CoreShed$Log" "size" "I", Cond.fieldLink RX7 41 "CoreShed" "matching" "LCoreShed$Matching;", Cond.fieldLink RX7 27 "CoreShed" "table" "[I", Cond.methodLink RX7 56 yX7_holeNamed, Cond.instanceMethod yX7_holeNamed, Cond.selects RX7 yX7_holeNamed yX7_holeNamed, Cond.initialized RX7, Cond.code yX7_holeNamed cX7_holeNamed 2 (some (.object "CoreShed$Hole")), Cond.fieldLink RX7 52 "CoreShed" "holeCount" "I", Cond.fieldLink RX7 11 "CoreShed" "holes" "[LCoreShed$Hole;", Cond.methodLink RX7 240 yX3_weigh, Cond.instanceMethod yX3_weigh, Cond.selects RX3 yX3_weigh yX3_weigh, Cond.initialized RX3, Cond.code yX3_weigh cX3_weigh 6 none, Cond.fieldLink RX3 16 "CoreShed$Log" "size" "I", Cond.fieldLink RX3 11 "CoreShed$Matching" "least" "[[I", Cond.methodLink RX3 22 yX3_leastFrom, Cond.instanceMethod yX3_leastFrom, Cond.selects RX3 yX3_leastFrom yX3_leastFrom, Cond.code yX3_leastFrom cX3_leastFrom 7 (some .int), Cond.methodLink RX3 37 Lib.Math.min.name, Cond.static Lib.Math.min.name]
def wsX7_matched_r2 : List Cond := [Cond.initialized "java/lang/Math", Cond.code Lib.Math.min.name Lib.Math.min.code 2 (some .int), Cond.methodLink RX3 26 yX2_bottom, Cond.instanceMethod yX2_bottom, Cond.selects RX2 yX2_bottom yX2_bottom, Cond.initialized RX2, Cond.code yX2_bottom cX2_bottom 1 (some .int), Cond.fieldLink RX2 18 "CoreShed$Log" "size" "I", Cond.methodLink RX2 22 yX2_top, Cond.instanceMethod yX2_top, Cond.selects RX2 yX2_top yX2_top, Cond.code yX2_top cX2_top 2 (some .int), Cond.fieldLink RX2 9 "CoreShed$Log" "depths" "[I", Cond.methodLink RX3 30 yX2_top, Cond.methodLink RX3 34 yX2_thickness, Cond.instanceMethod yX2_thickness, Cond.selects RX2 yX2_thickness yX2_thickness, Cond.code yX2_thickness cX2_thickness 2 (some .int), Cond.methodLink RX3 43 yX3_isAlike, Cond.static yX3_isAlike, Cond.code yX3_isAlike cX3_isAlike 5 (some .boolean), Cond.fieldLink RX3 51 "CoreShed$Log" "codes" "[I", Cond.methodLink RX3 47 yX3_pairedSum, Cond.instanceMethod yX3_pairedSum]
def wsX7_matched_r3 : List Cond := [Cond.selects RX3 yX3_pairedSum yX3_pairedSum, Cond.code yX3_pairedSum cX3_pairedSum 5 (some .int), Cond.methodLink RX3 55 Lib.Math.abs.name, Cond.static Lib.Math.abs.name, Cond.code Lib.Math.abs.name Lib.Math.abs.code 1 (some .int), Cond.methodLink RX7 248 yX3_partnerOf, Cond.instanceMethod yX3_partnerOf, Cond.selects RX3 yX3_partnerOf yX3_partnerOf, Cond.code yX3_partnerOf cX3_partnerOf 8 (some .int), Cond.methodLink RX3 58 yX3_leastPartner, Cond.instanceMethod yX3_leastPartner, Cond.selects RX3 yX3_leastPartner yX3_leastPartner, Cond.code yX3_leastPartner cX3_leastPartner 8 (some .int)]
def wsX7_matched : List Cond := .code yX7_matched cX7_matched 6 (some .int) :: ((wsX7_matched_r1 ++ (wsX7_matched_r2 ++ wsX7_matched_r3)) ++ wsX10 ++ wsX20 ++ wsX70 ++ wsX30)
def wsX7_quartersTaken : List Cond := .code yX7_quartersTaken cX7_quartersTaken 3 (some .int) :: ([.fieldLink RX7 150 "CoreShed" "sampleCount" "I", .fieldLink RX7 17 "CoreShed" "samples" "[LCoreShed$Sample;", .fieldLink RX7 160 "CoreShed$Sample" "quarters" "I"] ++ wsX70 ++ wsX60)
def wsX7_soundBatches_r1 : List Cond := [Cond.fieldLink RX7 163 "CoreShed" "batchCount" "I", Cond.fieldLink RX7 23 "CoreShed" "batches" "[LCoreShed$Batch;", Cond.fieldLink RX7 45 "CoreShed" "dirt" "I", Cond.fieldLink RX7 49 "CoreShed" "spread" "I", Cond.methodLink RX7 205 yX0_isSound, Cond.instanceMethod yX0_isSound, Cond.selects RX0 yX0_isSound yX0_isSound, Cond.initialized RX0, Cond.code yX0_isSound cX0_isSound 3 (some .boolean), Cond.methodLink RX0 31 yX0_isComplete, Cond.instanceMethod yX0_isComplete, Cond.selects RX0 yX0_isComplete yX0_isComplete, Cond.code yX0_isComplete cX0_isComplete 2 (some .boolean), Cond.fieldLink RX0 17 "CoreShed$Batch" "size" "I", Cond.fieldLink RX0 11 "CoreShed$Batch" "places" "[LCoreShed$Place;", Cond.fieldLink RX0 27 "CoreShed$Place" "hasResult" "Z", Cond.methodLink RX0 35 yX0_firstFault, Cond.instanceMethod yX0_firstFault, Cond.selects RX0 yX0_firstFault yX0_firstFault, Cond.code yX0_firstFault cX0_firstFault 4 (some .int), Cond.methodLink RX0 39 yX0_isRight, Cond.instanceMethod yX0_isRight, Cond.selects RX0 yX0_isRight yX0_isRight, Cond.code yX0_isRight cX0_isRight 4 (some .boolean)]
def wsX7_soundBatches_r2 : List Cond := [Cond.fieldLink RX0 21 "CoreShed$Place" "sort" "I", Cond.fieldLink RX0 24 "CoreShed$Place" "about" "I", Cond.methodLink RX0 47 Lib.Math.abs.name, Cond.static Lib.Math.abs.name, Cond.initialized "java/lang/Math", Cond.code Lib.Math.abs.name Lib.Math.abs.code 1 (some .int), Cond.fieldLink RX0 53 "CoreShed$Place" "off" "I", Cond.methodLink RX0 43 yX5_lower, Cond.instanceMethod yX5_lower, Cond.selects RX5 yX5_lower yX5_lower, Cond.initialized RX5, Cond.code yX5_lower cX5_lower 1 (some .int), Cond.fieldLink RX5 19 "CoreShed$Place" "result" "I", Cond.methodLink RX5 22 Lib.Math.max.name, Cond.static Lib.Math.max.name, Cond.code Lib.Math.max.name Lib.Math.max.code 2 (some .int), Cond.methodLink RX0 56 yX5_upper, Cond.instanceMethod yX5_upper, Cond.selects RX5 yX5_upper yX5_upper, Cond.code yX5_upper cX5_upper 1 (some .int), Cond.methodLink RX0 59 yX0_isNear, Cond.static yX0_isNear, Cond.code yX0_isNear cX0_isNear 3 (some .boolean), Cond.methodLink RX0 63 Lib.Math.max.name]
def wsX7_soundBatches : List Cond := .code yX7_soundBatches cX7_soundBatches 3 (some .int) :: ((wsX7_soundBatches_r1 ++ wsX7_soundBatches_r2) ++ wsX70 ++ wsX00 ++ wsX50)
def wsX7_count_r1 : List Cond := [Cond.fieldLink RX7 52 "CoreShed" "holeCount" "I", Cond.fieldLink RX7 150 "CoreShed" "sampleCount" "I", Cond.fieldLink RX7 163 "CoreShed" "batchCount" "I", Cond.methodLink RX7 252 yX7_quartersTaken, Cond.instanceMethod yX7_quartersTaken, Cond.selects RX7 yX7_quartersTaken yX7_quartersTaken, Cond.initialized RX7, Cond.code yX7_quartersTaken cX7_quartersTaken 3 (some .int), Cond.fieldLink RX7 17 "CoreShed" "samples" "[LCoreShed$Sample;", Cond.fieldLink RX7 160 "CoreShed$Sample" "quarters" "I", Cond.methodLink RX7 255 yX7_soundBatches, Cond.instanceMethod yX7_soundBatches, Cond.selects RX7 yX7_soundBatches yX7_soundBatches, Cond.code yX7_soundBatches cX7_soundBatches 3 (some .int), Cond.fieldLink RX7 23 "CoreShed" "batches" "[LCoreShed$Batch;", Cond.fieldLink RX7 45 "CoreShed" "dirt" "I", Cond.fieldLink RX7 49 "CoreShed" "spread" "I", Cond.methodLink RX7 205 yX0_isSound, Cond.instanceMethod yX0_isSound, Cond.selects RX0 yX0_isSound yX0_isSound, Cond.initialized RX0, Cond.code yX0_isSound cX0_isSound 3 (some .boolean), Cond.methodLink RX0 31 yX0_isComplete, Cond.instanceMethod yX0_isComplete]
def wsX7_count_r2 : List Cond := [Cond.selects RX0 yX0_isComplete yX0_isComplete, Cond.code yX0_isComplete cX0_isComplete 2 (some .boolean), Cond.fieldLink RX0 17 "CoreShed$Batch" "size" "I", Cond.fieldLink RX0 11 "CoreShed$Batch" "places" "[LCoreShed$Place;", Cond.fieldLink RX0 27 "CoreShed$Place" "hasResult" "Z", Cond.methodLink RX0 35 yX0_firstFault, Cond.instanceMethod yX0_firstFault, Cond.selects RX0 yX0_firstFault yX0_firstFault, Cond.code yX0_firstFault cX0_firstFault 4 (some .int), Cond.methodLink RX0 39 yX0_isRight, Cond.instanceMethod yX0_isRight, Cond.selects RX0 yX0_isRight yX0_isRight, Cond.code yX0_isRight cX0_isRight 4 (some .boolean), Cond.fieldLink RX0 21 "CoreShed$Place" "sort" "I", Cond.fieldLink RX0 24 "CoreShed$Place" "about" "I", Cond.methodLink RX0 47 Lib.Math.abs.name, Cond.static Lib.Math.abs.name, Cond.initialized "java/lang/Math", Cond.code Lib.Math.abs.name Lib.Math.abs.code 1 (some .int), Cond.fieldLink RX0 53 "CoreShed$Place" "off" "I", Cond.methodLink RX0 43 yX5_lower, Cond.instanceMethod yX5_lower, Cond.selects RX5 yX5_lower yX5_lower, Cond.initialized RX5]
def wsX7_count_r3 : List Cond := [Cond.code yX5_lower cX5_lower 1 (some .int), Cond.fieldLink RX5 19 "CoreShed$Place" "result" "I", Cond.methodLink RX5 22 Lib.Math.max.name, Cond.static Lib.Math.max.name, Cond.code Lib.Math.max.name Lib.Math.max.code 2 (some .int), Cond.methodLink RX0 56 yX5_upper, Cond.instanceMethod yX5_upper, Cond.selects RX5 yX5_upper yX5_upper, Cond.code yX5_upper cX5_upper 1 (some .int), Cond.methodLink RX0 59 yX0_isNear, Cond.static yX0_isNear, Cond.code yX0_isNear cX0_isNear 3 (some .boolean), Cond.methodLink RX0 63 Lib.Math.max.name]
def wsX7_count : List Cond := .code yX7_count cX7_count 2 (some .int) :: ((wsX7_count_r1 ++ (wsX7_count_r2 ++ wsX7_count_r3)) ++ wsX70 ++ wsX60 ++ wsX00 ++ wsX50)
def wsX7_digest_r1 : List Cond := [Cond.constantLong RX7 258 (173), Cond.fieldLink RX7 52 "CoreShed" "holeCount" "I", Cond.fieldLink RX7 11 "CoreShed" "holes" "[LCoreShed$Hole;", Cond.fieldLink RX7 27 "CoreShed" "table" "[I", Cond.fieldLink RX7 150 "CoreShed" "sampleCount" "I", Cond.fieldLink RX7 17 "CoreShed" "samples" "[LCoreShed$Sample;", Cond.fieldLink RX7 163 "CoreShed" "batchCount" "I", Cond.fieldLink RX7 23 "CoreShed" "batches" "[LCoreShed$Batch;", Cond.fieldLink RX7 45 "CoreShed" "dirt" "I", Cond.fieldLink RX7 49 "CoreShed" "spread" "I", Cond.methodLink RX7 260 yX1_digestOnto, Cond.instanceMethod yX1_digestOnto, Cond.selects RX1 yX1_digestOnto yX1_digestOnto, Cond.initialized RX1, Cond.code yX1_digestOnto cX1_digestOnto 6 (some .long), Cond.fieldLink RX1 31 "CoreShed$Hole" "runCount" "I", Cond.fieldLink RX1 9 "CoreShed$Hole" "drilled" "[I", Cond.fieldLink RX1 15 "CoreShed$Hole" "cored" "[I", Cond.fieldLink RX1 49 "CoreShed$Hole" "markCount" "I", Cond.fieldLink RX1 18 "CoreShed$Hole" "marks" "[I", Cond.fieldLink RX1 28 "CoreShed$Hole" "secondLog" "LCoreShed$Log;", Cond.fieldLink RX1 24 "CoreShed$Hole" "firstLog" "LCoreShed$Log;", Cond.static yX7_mixed, Cond.initialized RX7]
def wsX7_digest_r2 : List Cond := [Cond.code yX7_mixed cX7_mixed 4 (some .long), Cond.constantLong RX7 285 (31), Cond.methodLink RX1 52 yX2_digestOnto, Cond.instanceMethod yX2_digestOnto, Cond.selects RX2 yX2_digestOnto yX2_digestOnto, Cond.initialized RX2, Cond.code yX2_digestOnto cX2_digestOnto 6 (some .long), Cond.fieldLink RX2 18 "CoreShed$Log" "size" "I", Cond.fieldLink RX2 9 "CoreShed$Log" "depths" "[I", Cond.fieldLink RX2 15 "CoreShed$Log" "codes" "[I", Cond.methodLink RX7 264 yX7_mixed, Cond.methodLink RX7 268 yX6_digestOnto, Cond.instanceMethod yX6_digestOnto, Cond.selects RX6 yX6_digestOnto yX6_digestOnto, Cond.initialized RX6, Cond.code yX6_digestOnto cX6_digestOnto 3 (some .long), Cond.fieldLink RX6 15 "CoreShed$Sample" "hole" "I", Cond.fieldLink RX6 18 "CoreShed$Sample" "from" "I", Cond.fieldLink RX6 21 "CoreShed$Sample" "to" "I", Cond.fieldLink RX6 9 "CoreShed$Sample" "quarters" "I", Cond.methodLink RX7 269 yX0_digestOnto, Cond.instanceMethod yX0_digestOnto, Cond.selects RX0 yX0_digestOnto yX0_digestOnto, Cond.initialized RX0]
def wsX7_digest_r3 : List Cond := [Cond.code yX0_digestOnto cX0_digestOnto 7 (some .long), Cond.fieldLink RX0 17 "CoreShed$Batch" "size" "I", Cond.fieldLink RX0 11 "CoreShed$Batch" "places" "[LCoreShed$Place;", Cond.methodLink RX0 74 yX5_told, Cond.instanceMethod yX5_told, Cond.selects RX5 yX5_told yX5_told, Cond.initialized RX5, Cond.code yX5_told cX5_told 2 (some .int), Cond.fieldLink RX5 7 "CoreShed$Place" "sort" "I", Cond.fieldLink RX5 13 "CoreShed$Place" "about" "I", Cond.fieldLink RX5 16 "CoreShed$Place" "off" "I", Cond.fieldLink RX5 35 "CoreShed$Place" "hasResult" "Z", Cond.fieldLink RX5 19 "CoreShed$Place" "result" "I"]
def wsX7_digest : List Cond := .code yX7_digest cX7_digest 4 (some .long) :: ((wsX7_digest_r1 ++ (wsX7_digest_r2 ++ wsX7_digest_r3)) ++ wsX70 ++ wsX10 ++ wsX20 ++ wsX60 ++ wsX00 ++ wsX50)
def wsX8_init_r1 : List Cond := [Cond.methodLink RX8 1 objectInit, Cond.instanceMethod objectInit, Cond.code objectInit ⟨#[0xb1]⟩ 1 none, Cond.arrayClass .int, Cond.fieldLink RX8 7 "CoreShedModel" "runs" "[I", Cond.fieldLink RX8 13 "CoreShedModel" "drilled" "[I", Cond.fieldLink RX8 16 "CoreShedModel" "kept" "[I", Cond.fieldLink RX8 19 "CoreShedModel" "marks" "[I", Cond.fieldLink RX8 22 "CoreShedModel" "markAt" "[I", Cond.fieldLink RX8 25 "CoreShedModel" "longest" "[I", Cond.arrayClass .boolean, Cond.fieldLink RX8 28 "CoreShedModel" "isRight" "[Z", Cond.fieldLink RX8 32 "CoreShedModel" "layers" "[I", Cond.fieldLink RX8 35 "CoreShedModel" "layerTo" "[I", Cond.fieldLink RX8 38 "CoreShedModel" "layerCode" "[I", Cond.fieldLink RX8 41 "CoreShedModel" "table" "[I", Cond.fieldLink RX8 44 "CoreShedModel" "sampleHole" "[I", Cond.fieldLink RX8 47 "CoreShedModel" "sampleFrom" "[I", Cond.fieldLink RX8 50 "CoreShedModel" "sampleTo" "[I", Cond.fieldLink RX8 53 "CoreShedModel" "quarters" "[I", Cond.fieldLink RX8 56 "CoreShedModel" "places" "[I", Cond.fieldLink RX8 59 "CoreShedModel" "sort" "[I", Cond.fieldLink RX8 62 "CoreShedModel" "what" "[I", Cond.fieldLink RX8 65 "CoreShedModel" "offBy" "[I"]
def wsX8_init_r2 : List Cond := [Cond.fieldLink RX8 68 "CoreShedModel" "hasResult" "[Z", Cond.fieldLink RX8 71 "CoreShedModel" "results" "[I", Cond.fieldLink RX8 74 "CoreShedModel" "laws" "[I", Cond.fieldLink RX8 77 "CoreShedModel" "costs" "[I"]
def wsX8_init : List Cond := .code yX8_init cX8_init 2 none :: ((wsX8_init_r1 ++ wsX8_init_r2) ++ wsX80)
def wsX8_in : List Cond := .code yX8_in cX8_in 6 (some .boolean) :: ([])
def wsX8_isHole : List Cond := .code yX8_isHole cX8_isHole 2 (some .boolean) :: ([.fieldLink RX8 80 "CoreShedModel" "holes" "I", .methodLink RX8 84 yX8_in, .static yX8_in, .initialized RX8, .code yX8_in cX8_in 6 (some .boolean)] ++ wsX80)
def wsX8_hole : List Cond := .code yX8_hole cX8_hole 1 (some .int) :: ([.fieldLink RX8 80 "CoreShedModel" "holes" "I"] ++ wsX80)
def wsX8_endOf : List Cond := .code yX8_endOf cX8_endOf 4 (some .int) :: ([.fieldLink RX8 7 "CoreShedModel" "runs" "[I", .fieldLink RX8 13 "CoreShedModel" "drilled" "[I"] ++ wsX80)
def wsX8_isUsed : List Cond := .code yX8_isUsed cX8_isUsed 4 (some .boolean) :: ([.fieldLink RX8 32 "CoreShedModel" "layers" "[I", .fieldLink RX8 88 "CoreShedModel" "samples" "I", .fieldLink RX8 44 "CoreShedModel" "sampleHole" "[I"] ++ wsX80)
def wsX8_run : List Cond := .code yX8_run cX8_run 4 (some .int) :: ([.constantLong RX8 95 (1000), .fieldLink RX8 7 "CoreShedModel" "runs" "[I", .fieldLink RX8 13 "CoreShedModel" "drilled" "[I", .fieldLink RX8 16 "CoreShedModel" "kept" "[I", .methodLink RX8 91 yX8_isHole, .instanceMethod yX8_isHole, .selects RX8 yX8_isHole yX8_isHole, .initialized RX8, .code yX8_isHole cX8_isHole 2 (some .boolean), .fieldLink RX8 80 "CoreShedModel" "holes" "I", .methodLink RX8 84 yX8_in, .static yX8_in, .code yX8_in cX8_in 6 (some .boolean), .methodLink RX8 97 yX8_isUsed, .instanceMethod yX8_isUsed, .selects RX8 yX8_isUsed yX8_isUsed, .code yX8_isUsed cX8_isUsed 4 (some .boolean), .fieldLink RX8 32 "CoreShedModel" "layers" "[I", .fieldLink RX8 88 "CoreShedModel" "samples" "I", .fieldLink RX8 44 "CoreShedModel" "sampleHole" "[I", .methodLink RX8 100 yX8_endOf, .instanceMethod yX8_endOf, .selects RX8 yX8_endOf yX8_endOf, .code yX8_endOf cX8_endOf 4 (some .int)] ++ wsX80)
def wsX8_end : List Cond := .code yX8_end cX8_end 2 (some .int) :: ([.methodLink RX8 91 yX8_isHole, .instanceMethod yX8_isHole, .selects RX8 yX8_isHole yX8_isHole, .initialized RX8, .code yX8_isHole cX8_isHole 2 (some .boolean), .fieldLink RX8 80 "CoreShedModel" "holes" "I", .methodLink RX8 84 yX8_in, .static yX8_in, .code yX8_in cX8_in 6 (some .boolean), .methodLink RX8 100 yX8_endOf, .instanceMethod yX8_endOf, .selects RX8 yX8_endOf yX8_endOf, .code yX8_endOf cX8_endOf 4 (some .int), .fieldLink RX8 7 "CoreShedModel" "runs" "[I", .fieldLink RX8 13 "CoreShedModel" "drilled" "[I"] ++ wsX80)
def wsX8_isStretch : List Cond := .code yX8_isStretch cX8_isStretch 4 (some .boolean) :: ([.methodLink RX8 100 yX8_endOf, .instanceMethod yX8_endOf, .selects RX8 yX8_endOf yX8_endOf, .initialized RX8, .code yX8_endOf cX8_endOf 4 (some .int), .fieldLink RX8 7 "CoreShedModel" "runs" "[I", .fieldLink RX8 13 "CoreShedModel" "drilled" "[I"] ++ wsX80)
def wsX8_common : List Cond := .code yX8_common cX8_common 6 (some .int) :: ([])
def wsX8_recoveredOf : List Cond := .code yX8_recoveredOf cX8_recoveredOf 7 (some .int) :: ([.fieldLink RX8 7 "CoreShedModel" "runs" "[I", .fieldLink RX8 16 "CoreShedModel" "kept" "[I", .fieldLink RX8 13 "CoreShedModel" "drilled" "[I", .methodLink RX8 104 yX8_common, .static yX8_common, .initialized RX8, .code yX8_common cX8_common 6 (some .int)] ++ wsX80)
def wsX8_recovered_r1 : List Cond := [Cond.methodLink RX8 91 yX8_isHole, Cond.instanceMethod yX8_isHole, Cond.selects RX8 yX8_isHole yX8_isHole, Cond.initialized RX8, Cond.code yX8_isHole cX8_isHole 2 (some .boolean), Cond.fieldLink RX8 80 "CoreShedModel" "holes" "I", Cond.methodLink RX8 84 yX8_in, Cond.static yX8_in, Cond.code yX8_in cX8_in 6 (some .boolean), Cond.methodLink RX8 108 yX8_isStretch, Cond.instanceMethod yX8_isStretch, Cond.selects RX8 yX8_isStretch yX8_isStretch, Cond.code yX8_isStretch cX8_isStretch 4 (some .boolean), Cond.methodLink RX8 100 yX8_endOf, Cond.instanceMethod yX8_endOf, Cond.selects RX8 yX8_endOf yX8_endOf, Cond.code yX8_endOf cX8_endOf 4 (some .int), Cond.fieldLink RX8 7 "CoreShedModel" "runs" "[I", Cond.fieldLink RX8 13 "CoreShedModel" "drilled" "[I", Cond.methodLink RX8 112 yX8_recoveredOf, Cond.instanceMethod yX8_recoveredOf, Cond.selects RX8 yX8_recoveredOf yX8_recoveredOf, Cond.code yX8_recoveredOf cX8_recoveredOf 7 (some .int), Cond.fieldLink RX8 16 "CoreShedModel" "kept" "[I"]
def wsX8_recovered_r2 : List Cond := [Cond.methodLink RX8 104 yX8_common, Cond.static yX8_common, Cond.code yX8_common cX8_common 6 (some .int)]
def wsX8_recovered : List Cond := .code yX8_recovered cX8_recovered 4 (some .int) :: ((wsX8_recovered_r1 ++ wsX8_recovered_r2) ++ wsX80)
def wsX8_mark : List Cond := .code yX8_mark cX8_mark 3 (some .int) :: ([.constantLong RX8 116 (100000), .fieldLink RX8 19 "CoreShedModel" "marks" "[I", .fieldLink RX8 22 "CoreShedModel" "markAt" "[I", .methodLink RX8 91 yX8_isHole, .instanceMethod yX8_isHole, .selects RX8 yX8_isHole yX8_isHole, .initialized RX8, .code yX8_isHole cX8_isHole 2 (some .boolean), .fieldLink RX8 80 "CoreShedModel" "holes" "I", .methodLink RX8 84 yX8_in, .static yX8_in, .code yX8_in cX8_in 6 (some .boolean)] ++ wsX80)
def wsX8_mend : List Cond := .code yX8_mend cX8_mend 8 (some .int) :: ([.fieldLink RX8 19 "CoreShedModel" "marks" "[I", .fieldLink RX8 22 "CoreShedModel" "markAt" "[I", .fieldLink RX8 25 "CoreShedModel" "longest" "[I", .fieldLink RX8 28 "CoreShedModel" "isRight" "[Z", .methodLink RX8 100 yX8_endOf, .instanceMethod yX8_endOf, .selects RX8 yX8_endOf yX8_endOf, .initialized RX8, .code yX8_endOf cX8_endOf 4 (some .int), .fieldLink RX8 7 "CoreShedModel" "runs" "[I", .fieldLink RX8 13 "CoreShedModel" "drilled" "[I"] ++ wsX80)
def wsX8_wrong : List Cond := .code yX8_wrong cX8_wrong 2 (some .int) :: ([.fieldLink RX8 19 "CoreShedModel" "marks" "[I", .methodLink RX8 91 yX8_isHole, .instanceMethod yX8_isHole, .selects RX8 yX8_isHole yX8_isHole, .initialized RX8, .code yX8_isHole cX8_isHole 2 (some .boolean), .fieldLink RX8 80 "CoreShedModel" "holes" "I", .methodLink RX8 84 yX8_in, .static yX8_in, .code yX8_in cX8_in 6 (some .boolean), .methodLink RX8 118 yX8_mend, .instanceMethod yX8_mend, .selects RX8 yX8_mend yX8_mend, .code yX8_mend cX8_mend 8 (some .int), .fieldLink RX8 22 "CoreShedModel" "markAt" "[I", .fieldLink RX8 25 "CoreShedModel" "longest" "[I", .fieldLink RX8 28 "CoreShedModel" "isRight" "[Z", .methodLink RX8 100 yX8_endOf, .instanceMethod yX8_endOf, .selects RX8 yX8_endOf yX8_endOf, .code yX8_endOf cX8_endOf 4 (some .int), .fieldLink RX8 7 "CoreShedModel" "runs" "[I", .fieldLink RX8 13 "CoreShedModel" "drilled" "[I"] ++ wsX80)
def wsX8_isWrong : List Cond := .code yX8_isWrong cX8_isWrong 4 (some .int) :: ([.fieldLink RX8 19 "CoreShedModel" "marks" "[I", .fieldLink RX8 28 "CoreShedModel" "isRight" "[Z", .methodLink RX8 91 yX8_isHole, .instanceMethod yX8_isHole, .selects RX8 yX8_isHole yX8_isHole, .initialized RX8, .code yX8_isHole cX8_isHole 2 (some .boolean), .fieldLink RX8 80 "CoreShedModel" "holes" "I", .methodLink RX8 84 yX8_in, .static yX8_in, .code yX8_in cX8_in 6 (some .boolean), .methodLink RX8 118 yX8_mend, .instanceMethod yX8_mend, .selects RX8 yX8_mend yX8_mend, .code yX8_mend cX8_mend 8 (some .int), .fieldLink RX8 22 "CoreShedModel" "markAt" "[I", .fieldLink RX8 25 "CoreShedModel" "longest" "[I", .methodLink RX8 100 yX8_endOf, .instanceMethod yX8_endOf, .selects RX8 yX8_endOf yX8_endOf, .code yX8_endOf cX8_endOf 4 (some .int), .fieldLink RX8 7 "CoreShedModel" "runs" "[I", .fieldLink RX8 13 "CoreShedModel" "drilled" "[I"] ++ wsX80)
def wsX8_isLog : List Cond := .code yX8_isLog cX8_isLog 1 (some .boolean) :: ([.methodLink RX8 84 yX8_in, .static yX8_in, .initialized RX8, .code yX8_in cX8_in 6 (some .boolean)])
def wsX8_layer : List Cond := .code yX8_layer cX8_layer 7 (some .int) :: ([.fieldLink RX8 32 "CoreShedModel" "layers" "[I", .fieldLink RX8 35 "CoreShedModel" "layerTo" "[I", .constantLong RX8 124 (9), .fieldLink RX8 38 "CoreShedModel" "layerCode" "[I", .methodLink RX8 91 yX8_isHole, .instanceMethod yX8_isHole, .selects RX8 yX8_isHole yX8_isHole, .initialized RX8, .code yX8_isHole cX8_isHole 2 (some .boolean), .fieldLink RX8 80 "CoreShedModel" "holes" "I", .methodLink RX8 84 yX8_in, .static yX8_in, .code yX8_in cX8_in 6 (some .boolean), .methodLink RX8 121 yX8_isLog, .static yX8_isLog, .code yX8_isLog cX8_isLog 1 (some .boolean), .methodLink RX8 100 yX8_endOf, .instanceMethod yX8_endOf, .selects RX8 yX8_endOf yX8_endOf, .code yX8_endOf cX8_endOf 4 (some .int), .fieldLink RX8 7 "CoreShedModel" "runs" "[I", .fieldLink RX8 13 "CoreShedModel" "drilled" "[I"] ++ wsX80)
def wsX8_code : List Cond := .code yX8_code cX8_code 4 (some .int) :: ([.constantLong RX8 124 (9), .fieldLink RX8 41 "CoreShedModel" "table" "[I", .methodLink RX8 84 yX8_in, .static yX8_in, .initialized RX8, .code yX8_in cX8_in 6 (some .boolean)] ++ wsX80)
def wsX8_codeOf : List Cond := .code yX8_codeOf cX8_codeOf 3 (some .int) :: ([.fieldLink RX8 41 "CoreShedModel" "table" "[I", .fieldLink RX8 38 "CoreShedModel" "layerCode" "[I"] ++ wsX80)
def wsX8_fromOf : List Cond := .code yX8_fromOf cX8_fromOf 3 (some .int) :: ([.fieldLink RX8 35 "CoreShedModel" "layerTo" "[I"] ++ wsX80)
def wsX8_thick : List Cond := .code yX8_thick cX8_thick 3 (some .int) :: ([.fieldLink RX8 35 "CoreShedModel" "layerTo" "[I", .methodLink RX8 126 yX8_fromOf, .instanceMethod yX8_fromOf, .selects RX8 yX8_fromOf yX8_fromOf, .initialized RX8, .code yX8_fromOf cX8_fromOf 3 (some .int)] ++ wsX80)
def wsX8_rock : List Cond := .code yX8_rock cX8_rock 6 (some .int) :: ([.fieldLink RX8 32 "CoreShedModel" "layers" "[I", .fieldLink RX8 35 "CoreShedModel" "layerTo" "[I", .methodLink RX8 91 yX8_isHole, .instanceMethod yX8_isHole, .selects RX8 yX8_isHole yX8_isHole, .initialized RX8, .code yX8_isHole cX8_isHole 2 (some .boolean), .fieldLink RX8 80 "CoreShedModel" "holes" "I", .methodLink RX8 84 yX8_in, .static yX8_in, .code yX8_in cX8_in 6 (some .boolean), .methodLink RX8 121 yX8_isLog, .static yX8_isLog, .code yX8_isLog cX8_isLog 1 (some .boolean), .methodLink RX8 126 yX8_fromOf, .instanceMethod yX8_fromOf, .selects RX8 yX8_fromOf yX8_fromOf, .code yX8_fromOf cX8_fromOf 3 (some .int), .methodLink RX8 130 yX8_codeOf, .instanceMethod yX8_codeOf, .selects RX8 yX8_codeOf yX8_codeOf, .code yX8_codeOf cX8_codeOf 3 (some .int), .fieldLink RX8 41 "CoreShedModel" "table" "[I", .fieldLink RX8 38 "CoreShedModel" "layerCode" "[I"] ++ wsX80)
def wsX8_agree : List Cond := .code yX8_agree cX8_agree 5 (some .int) :: ([.fieldLink RX8 32 "CoreShedModel" "layers" "[I", .fieldLink RX8 35 "CoreShedModel" "layerTo" "[I", .methodLink RX8 91 yX8_isHole, .instanceMethod yX8_isHole, .selects RX8 yX8_isHole yX8_isHole, .initialized RX8, .code yX8_isHole cX8_isHole 2 (some .boolean), .fieldLink RX8 80 "CoreShedModel" "holes" "I", .methodLink RX8 84 yX8_in, .static yX8_in, .code yX8_in cX8_in 6 (some .boolean), .methodLink RX8 130 yX8_codeOf, .instanceMethod yX8_codeOf, .selects RX8 yX8_codeOf yX8_codeOf, .code yX8_codeOf cX8_codeOf 3 (some .int), .fieldLink RX8 41 "CoreShedModel" "table" "[I", .fieldLink RX8 38 "CoreShedModel" "layerCode" "[I", .methodLink RX8 126 yX8_fromOf, .instanceMethod yX8_fromOf, .selects RX8 yX8_fromOf yX8_fromOf, .code yX8_fromOf cX8_fromOf 3 (some .int), .methodLink RX8 104 yX8_common, .static yX8_common, .code yX8_common cX8_common 6 (some .int)] ++ wsX80)
def wsX8_isSample : List Cond := .code yX8_isSample cX8_isSample 2 (some .boolean) :: ([.fieldLink RX8 88 "CoreShedModel" "samples" "I", .methodLink RX8 84 yX8_in, .static yX8_in, .initialized RX8, .code yX8_in cX8_in 6 (some .boolean)] ++ wsX80)
def wsX8_isBatch : List Cond := .code yX8_isBatch cX8_isBatch 2 (some .boolean) :: ([.fieldLink RX8 133 "CoreShedModel" "batches" "I", .methodLink RX8 84 yX8_in, .static yX8_in, .initialized RX8, .code yX8_in cX8_in 6 (some .boolean)] ++ wsX80)
def wsX8_isPlace : List Cond := .code yX8_isPlace cX8_isPlace 3 (some .boolean) :: ([.fieldLink RX8 56 "CoreShedModel" "places" "[I", .methodLink RX8 136 yX8_isBatch, .instanceMethod yX8_isBatch, .selects RX8 yX8_isBatch yX8_isBatch, .initialized RX8, .code yX8_isBatch cX8_isBatch 2 (some .boolean), .fieldLink RX8 133 "CoreShedModel" "batches" "I", .methodLink RX8 84 yX8_in, .static yX8_in, .code yX8_in cX8_in 6 (some .boolean)] ++ wsX80)
def wsX8_sample_r1 : List Cond := [Cond.fieldLink RX8 88 "CoreShedModel" "samples" "I", Cond.fieldLink RX8 44 "CoreShedModel" "sampleHole" "[I", Cond.fieldLink RX8 47 "CoreShedModel" "sampleFrom" "[I", Cond.fieldLink RX8 50 "CoreShedModel" "sampleTo" "[I", Cond.fieldLink RX8 53 "CoreShedModel" "quarters" "[I", Cond.methodLink RX8 91 yX8_isHole, Cond.instanceMethod yX8_isHole, Cond.selects RX8 yX8_isHole yX8_isHole, Cond.initialized RX8, Cond.code yX8_isHole cX8_isHole 2 (some .boolean), Cond.fieldLink RX8 80 "CoreShedModel" "holes" "I", Cond.methodLink RX8 84 yX8_in, Cond.static yX8_in, Cond.code yX8_in cX8_in 6 (some .boolean), Cond.methodLink RX8 108 yX8_isStretch, Cond.instanceMethod yX8_isStretch, Cond.selects RX8 yX8_isStretch yX8_isStretch, Cond.code yX8_isStretch cX8_isStretch 4 (some .boolean), Cond.methodLink RX8 100 yX8_endOf, Cond.instanceMethod yX8_endOf, Cond.selects RX8 yX8_endOf yX8_endOf, Cond.code yX8_endOf cX8_endOf 4 (some .int), Cond.fieldLink RX8 7 "CoreShedModel" "runs" "[I", Cond.fieldLink RX8 13 "CoreShedModel" "drilled" "[I"]
def wsX8_sample_r2 : List Cond := [Cond.methodLink RX8 112 yX8_recoveredOf, Cond.instanceMethod yX8_recoveredOf, Cond.selects RX8 yX8_recoveredOf yX8_recoveredOf, Cond.code yX8_recoveredOf cX8_recoveredOf 7 (some .int), Cond.fieldLink RX8 16 "CoreShedModel" "kept" "[I", Cond.methodLink RX8 104 yX8_common, Cond.static yX8_common, Cond.code yX8_common cX8_common 6 (some .int)]
def wsX8_sample : List Cond := .code yX8_sample cX8_sample 6 (some .int) :: ((wsX8_sample_r1 ++ wsX8_sample_r2) ++ wsX80)
def wsX8_left : List Cond := .code yX8_left cX8_left 2 (some .int) :: ([.fieldLink RX8 53 "CoreShedModel" "quarters" "[I", .methodLink RX8 139 yX8_isSample, .instanceMethod yX8_isSample, .selects RX8 yX8_isSample yX8_isSample, .initialized RX8, .code yX8_isSample cX8_isSample 2 (some .boolean), .fieldLink RX8 88 "CoreShedModel" "samples" "I", .methodLink RX8 84 yX8_in, .static yX8_in, .code yX8_in cX8_in 6 (some .boolean)] ++ wsX80)
def wsX8_batch : List Cond := .code yX8_batch cX8_batch 1 (some .int) :: ([.fieldLink RX8 133 "CoreShedModel" "batches" "I"] ++ wsX80)
def wsX8_hasResults : List Cond := .code yX8_hasResults cX8_hasResults 4 (some .boolean) :: ([.fieldLink RX8 56 "CoreShedModel" "places" "[I", .fieldLink RX8 68 "CoreShedModel" "hasResult" "[Z"] ++ wsX80)
def wsX8_add : List Cond := .code yX8_add cX8_add 6 (some .int) :: ([.fieldLink RX8 56 "CoreShedModel" "places" "[I", .fieldLink RX8 59 "CoreShedModel" "sort" "[I", .fieldLink RX8 62 "CoreShedModel" "what" "[I", .fieldLink RX8 65 "CoreShedModel" "offBy" "[I"] ++ wsX80)
def wsX8_placeOf : List Cond := .code yX8_placeOf cX8_placeOf 4 (some .int) :: ([.fieldLink RX8 56 "CoreShedModel" "places" "[I", .fieldLink RX8 59 "CoreShedModel" "sort" "[I", .fieldLink RX8 62 "CoreShedModel" "what" "[I"] ++ wsX80)
def wsX8_quarter : List Cond := .code yX8_quarter cX8_quarter 3 (some .int) :: ([.fieldLink RX8 53 "CoreShedModel" "quarters" "[I", .fieldLink RX8 142 "CoreShedModel" "taken" "I"] ++ wsX80)
def wsX8_put_r1 : List Cond := [Cond.fieldLink RX8 53 "CoreShedModel" "quarters" "[I", Cond.methodLink RX8 136 yX8_isBatch, Cond.instanceMethod yX8_isBatch, Cond.selects RX8 yX8_isBatch yX8_isBatch, Cond.initialized RX8, Cond.code yX8_isBatch cX8_isBatch 2 (some .boolean), Cond.fieldLink RX8 133 "CoreShedModel" "batches" "I", Cond.methodLink RX8 84 yX8_in, Cond.static yX8_in, Cond.code yX8_in cX8_in 6 (some .boolean), Cond.methodLink RX8 139 yX8_isSample, Cond.instanceMethod yX8_isSample, Cond.selects RX8 yX8_isSample yX8_isSample, Cond.code yX8_isSample cX8_isSample 2 (some .boolean), Cond.fieldLink RX8 88 "CoreShedModel" "samples" "I", Cond.methodLink RX8 145 yX8_hasResults, Cond.instanceMethod yX8_hasResults, Cond.selects RX8 yX8_hasResults yX8_hasResults, Cond.code yX8_hasResults cX8_hasResults 4 (some .boolean), Cond.fieldLink RX8 56 "CoreShedModel" "places" "[I", Cond.fieldLink RX8 68 "CoreShedModel" "hasResult" "[Z", Cond.methodLink RX8 148 yX8_placeOf, Cond.instanceMethod yX8_placeOf, Cond.selects RX8 yX8_placeOf yX8_placeOf]
def wsX8_put_r2 : List Cond := [Cond.code yX8_placeOf cX8_placeOf 4 (some .int), Cond.fieldLink RX8 59 "CoreShedModel" "sort" "[I", Cond.fieldLink RX8 62 "CoreShedModel" "what" "[I", Cond.methodLink RX8 151 yX8_add, Cond.instanceMethod yX8_add, Cond.selects RX8 yX8_add yX8_add, Cond.code yX8_add cX8_add 6 (some .int), Cond.fieldLink RX8 65 "CoreShedModel" "offBy" "[I", Cond.methodLink RX8 154 yX8_quarter, Cond.instanceMethod yX8_quarter, Cond.selects RX8 yX8_quarter yX8_quarter, Cond.code yX8_quarter cX8_quarter 3 (some .int), Cond.fieldLink RX8 142 "CoreShedModel" "taken" "I"]
def wsX8_put : List Cond := .code yX8_put cX8_put 3 (some .int) :: ((wsX8_put_r1 ++ wsX8_put_r2) ++ wsX80)
def wsX8_standard : List Cond := .code yX8_standard cX8_standard 4 (some .int) :: ([.constantLong RX8 116 (100000), .constantLong RX8 157 (10000), .methodLink RX8 136 yX8_isBatch, .instanceMethod yX8_isBatch, .selects RX8 yX8_isBatch yX8_isBatch, .initialized RX8, .code yX8_isBatch cX8_isBatch 2 (some .boolean), .fieldLink RX8 133 "CoreShedModel" "batches" "I", .methodLink RX8 84 yX8_in, .static yX8_in, .code yX8_in cX8_in 6 (some .boolean), .methodLink RX8 145 yX8_hasResults, .instanceMethod yX8_hasResults, .selects RX8 yX8_hasResults yX8_hasResults, .code yX8_hasResults cX8_hasResults 4 (some .boolean), .fieldLink RX8 56 "CoreShedModel" "places" "[I", .fieldLink RX8 68 "CoreShedModel" "hasResult" "[Z", .methodLink RX8 151 yX8_add, .instanceMethod yX8_add, .selects RX8 yX8_add yX8_add, .code yX8_add cX8_add 6 (some .int), .fieldLink RX8 59 "CoreShedModel" "sort" "[I", .fieldLink RX8 62 "CoreShedModel" "what" "[I", .fieldLink RX8 65 "CoreShedModel" "offBy" "[I"] ++ wsX80)
def wsX8_blank : List Cond := .code yX8_blank cX8_blank 2 (some .int) :: ([.methodLink RX8 136 yX8_isBatch, .instanceMethod yX8_isBatch, .selects RX8 yX8_isBatch yX8_isBatch, .initialized RX8, .code yX8_isBatch cX8_isBatch 2 (some .boolean), .fieldLink RX8 133 "CoreShedModel" "batches" "I", .methodLink RX8 84 yX8_in, .static yX8_in, .code yX8_in cX8_in 6 (some .boolean), .methodLink RX8 145 yX8_hasResults, .instanceMethod yX8_hasResults, .selects RX8 yX8_hasResults yX8_hasResults, .code yX8_hasResults cX8_hasResults 4 (some .boolean), .fieldLink RX8 56 "CoreShedModel" "places" "[I", .fieldLink RX8 68 "CoreShedModel" "hasResult" "[Z", .methodLink RX8 151 yX8_add, .instanceMethod yX8_add, .selects RX8 yX8_add yX8_add, .code yX8_add cX8_add 6 (some .int), .fieldLink RX8 59 "CoreShedModel" "sort" "[I", .fieldLink RX8 62 "CoreShedModel" "what" "[I", .fieldLink RX8 65 "CoreShedModel" "offBy" "[I"] ++ wsX80)
def wsX8_twice_r1 : List Cond := [Cond.fieldLink RX8 59 "CoreShedModel" "sort" "[I", Cond.fieldLink RX8 62 "CoreShedModel" "what" "[I", Cond.fieldLink RX8 53 "CoreShedModel" "quarters" "[I", Cond.methodLink RX8 159 yX8_isPlace, Cond.instanceMethod yX8_isPlace, Cond.selects RX8 yX8_isPlace yX8_isPlace, Cond.initialized RX8, Cond.code yX8_isPlace cX8_isPlace 3 (some .boolean), Cond.fieldLink RX8 56 "CoreShedModel" "places" "[I", Cond.methodLink RX8 136 yX8_isBatch, Cond.instanceMethod yX8_isBatch, Cond.selects RX8 yX8_isBatch yX8_isBatch, Cond.code yX8_isBatch cX8_isBatch 2 (some .boolean), Cond.fieldLink RX8 133 "CoreShedModel" "batches" "I", Cond.methodLink RX8 84 yX8_in, Cond.static yX8_in, Cond.code yX8_in cX8_in 6 (some .boolean), Cond.methodLink RX8 145 yX8_hasResults, Cond.instanceMethod yX8_hasResults, Cond.selects RX8 yX8_hasResults yX8_hasResults, Cond.code yX8_hasResults cX8_hasResults 4 (some .boolean), Cond.fieldLink RX8 68 "CoreShedModel" "hasResult" "[Z", Cond.methodLink RX8 151 yX8_add, Cond.instanceMethod yX8_add]
def wsX8_twice_r2 : List Cond := [Cond.selects RX8 yX8_add yX8_add, Cond.code yX8_add cX8_add 6 (some .int), Cond.fieldLink RX8 65 "CoreShedModel" "offBy" "[I", Cond.methodLink RX8 154 yX8_quarter, Cond.instanceMethod yX8_quarter, Cond.selects RX8 yX8_quarter yX8_quarter, Cond.code yX8_quarter cX8_quarter 3 (some .int), Cond.fieldLink RX8 142 "CoreShedModel" "taken" "I"]
def wsX8_twice : List Cond := .code yX8_twice cX8_twice 4 (some .int) :: ((wsX8_twice_r1 ++ wsX8_twice_r2) ++ wsX80)
def wsX8_law : List Cond := .code yX8_law cX8_law 4 (some .int) :: ([.constantLong RX8 95 (1000), .fieldLink RX8 74 "CoreShedModel" "laws" "[I", .methodLink RX8 84 yX8_in, .static yX8_in, .initialized RX8, .code yX8_in cX8_in 6 (some .boolean)] ++ wsX80)
def wsX8_result : List Cond := .code yX8_result cX8_result 4 (some .int) :: ([.constantLong RX8 163 (-1000), .constantLong RX8 116 (100000), .fieldLink RX8 71 "CoreShedModel" "results" "[I", .fieldLink RX8 68 "CoreShedModel" "hasResult" "[Z", .methodLink RX8 159 yX8_isPlace, .instanceMethod yX8_isPlace, .selects RX8 yX8_isPlace yX8_isPlace, .initialized RX8, .code yX8_isPlace cX8_isPlace 3 (some .boolean), .fieldLink RX8 56 "CoreShedModel" "places" "[I", .methodLink RX8 136 yX8_isBatch, .instanceMethod yX8_isBatch, .selects RX8 yX8_isBatch yX8_isBatch, .code yX8_isBatch cX8_isBatch 2 (some .boolean), .fieldLink RX8 133 "CoreShedModel" "batches" "I", .methodLink RX8 84 yX8_in, .static yX8_in, .code yX8_in cX8_in 6 (some .boolean)] ++ wsX80)
def wsX8_lower : List Cond := .code yX8_lower cX8_lower 2 (some .int) :: ([.fieldLink RX8 71 "CoreShedModel" "results" "[I"] ++ wsX80)
def wsX8_upper : List Cond := .code yX8_upper cX8_upper 2 (some .int) :: ([.fieldLink RX8 71 "CoreShedModel" "results" "[I"] ++ wsX80)
def wsX8_far : List Cond := .code yX8_far cX8_far 2 (some .int) :: ([])
def wsX8_isGood : List Cond := .code yX8_isGood cX8_isGood 6 (some .boolean) :: ([.fieldLink RX8 59 "CoreShedModel" "sort" "[I", .fieldLink RX8 62 "CoreShedModel" "what" "[I", .fieldLink RX8 65 "CoreShedModel" "offBy" "[I", .fieldLink RX8 74 "CoreShedModel" "laws" "[I", .constantLong RX8 95 (1000), .methodLink RX8 165 yX8_lower, .instanceMethod yX8_lower, .selects RX8 yX8_lower yX8_lower, .initialized RX8, .code yX8_lower cX8_lower 2 (some .int), .fieldLink RX8 71 "CoreShedModel" "results" "[I", .methodLink RX8 168 yX8_far, .static yX8_far, .code yX8_far cX8_far 2 (some .int), .methodLink RX8 171 yX8_upper, .instanceMethod yX8_upper, .selects RX8 yX8_upper yX8_upper, .code yX8_upper cX8_upper 2 (some .int)] ++ wsX80)
def wsX8_isTold : List Cond := .code yX8_isTold cX8_isTold 4 (some .boolean) :: ([.fieldLink RX8 56 "CoreShedModel" "places" "[I", .fieldLink RX8 68 "CoreShedModel" "hasResult" "[Z"] ++ wsX80)
def wsX8_faultOf : List Cond := .code yX8_faultOf cX8_faultOf 3 (some .int) :: ([.fieldLink RX8 56 "CoreShedModel" "places" "[I", .methodLink RX8 174 yX8_isGood, .instanceMethod yX8_isGood, .selects RX8 yX8_isGood yX8_isGood, .initialized RX8, .code yX8_isGood cX8_isGood 6 (some .boolean), .fieldLink RX8 59 "CoreShedModel" "sort" "[I", .fieldLink RX8 62 "CoreShedModel" "what" "[I", .fieldLink RX8 65 "CoreShedModel" "offBy" "[I", .fieldLink RX8 74 "CoreShedModel" "laws" "[I", .constantLong RX8 95 (1000), .methodLink RX8 165 yX8_lower, .instanceMethod yX8_lower, .selects RX8 yX8_lower yX8_lower, .code yX8_lower cX8_lower 2 (some .int), .fieldLink RX8 71 "CoreShedModel" "results" "[I", .methodLink RX8 168 yX8_far, .static yX8_far, .code yX8_far cX8_far 2 (some .int), .methodLink RX8 171 yX8_upper, .instanceMethod yX8_upper, .selects RX8 yX8_upper yX8_upper, .code yX8_upper cX8_upper 2 (some .int)] ++ wsX80)
def wsX8_isSound_r1 : List Cond := [Cond.methodLink RX8 177 yX8_isTold, Cond.instanceMethod yX8_isTold, Cond.selects RX8 yX8_isTold yX8_isTold, Cond.initialized RX8, Cond.code yX8_isTold cX8_isTold 4 (some .boolean), Cond.fieldLink RX8 56 "CoreShedModel" "places" "[I", Cond.fieldLink RX8 68 "CoreShedModel" "hasResult" "[Z", Cond.methodLink RX8 180 yX8_faultOf, Cond.instanceMethod yX8_faultOf, Cond.selects RX8 yX8_faultOf yX8_faultOf, Cond.code yX8_faultOf cX8_faultOf 3 (some .int), Cond.methodLink RX8 174 yX8_isGood, Cond.instanceMethod yX8_isGood, Cond.selects RX8 yX8_isGood yX8_isGood, Cond.code yX8_isGood cX8_isGood 6 (some .boolean), Cond.fieldLink RX8 59 "CoreShedModel" "sort" "[I", Cond.fieldLink RX8 62 "CoreShedModel" "what" "[I", Cond.fieldLink RX8 65 "CoreShedModel" "offBy" "[I", Cond.fieldLink RX8 74 "CoreShedModel" "laws" "[I", Cond.constantLong RX8 95 (1000), Cond.methodLink RX8 165 yX8_lower, Cond.instanceMethod yX8_lower, Cond.selects RX8 yX8_lower yX8_lower, Cond.code yX8_lower cX8_lower 2 (some .int)]
def wsX8_isSound_r2 : List Cond := [Cond.fieldLink RX8 71 "CoreShedModel" "results" "[I", Cond.methodLink RX8 168 yX8_far, Cond.static yX8_far, Cond.code yX8_far cX8_far 2 (some .int), Cond.methodLink RX8 171 yX8_upper, Cond.instanceMethod yX8_upper, Cond.selects RX8 yX8_upper yX8_upper, Cond.code yX8_upper cX8_upper 2 (some .int)]
def wsX8_isSound : List Cond := .code yX8_isSound cX8_isSound 2 (some .boolean) :: ((wsX8_isSound_r1 ++ wsX8_isSound_r2) ++ wsX80)
def wsX8_sound_r1 : List Cond := [Cond.methodLink RX8 136 yX8_isBatch, Cond.instanceMethod yX8_isBatch, Cond.selects RX8 yX8_isBatch yX8_isBatch, Cond.initialized RX8, Cond.code yX8_isBatch cX8_isBatch 2 (some .boolean), Cond.fieldLink RX8 133 "CoreShedModel" "batches" "I", Cond.methodLink RX8 84 yX8_in, Cond.static yX8_in, Cond.code yX8_in cX8_in 6 (some .boolean), Cond.methodLink RX8 177 yX8_isTold, Cond.instanceMethod yX8_isTold, Cond.selects RX8 yX8_isTold yX8_isTold, Cond.code yX8_isTold cX8_isTold 4 (some .boolean), Cond.fieldLink RX8 56 "CoreShedModel" "places" "[I", Cond.fieldLink RX8 68 "CoreShedModel" "hasResult" "[Z", Cond.methodLink RX8 183 yX8_isSound, Cond.instanceMethod yX8_isSound, Cond.selects RX8 yX8_isSound yX8_isSound, Cond.code yX8_isSound cX8_isSound 2 (some .boolean), Cond.methodLink RX8 180 yX8_faultOf, Cond.instanceMethod yX8_faultOf, Cond.selects RX8 yX8_faultOf yX8_faultOf, Cond.code yX8_faultOf cX8_faultOf 3 (some .int), Cond.methodLink RX8 174 yX8_isGood]
def wsX8_sound_r2 : List Cond := [Cond.instanceMethod yX8_isGood, Cond.selects RX8 yX8_isGood yX8_isGood, Cond.code yX8_isGood cX8_isGood 6 (some .boolean), Cond.fieldLink RX8 59 "CoreShedModel" "sort" "[I", Cond.fieldLink RX8 62 "CoreShedModel" "what" "[I", Cond.fieldLink RX8 65 "CoreShedModel" "offBy" "[I", Cond.fieldLink RX8 74 "CoreShedModel" "laws" "[I", Cond.constantLong RX8 95 (1000), Cond.methodLink RX8 165 yX8_lower, Cond.instanceMethod yX8_lower, Cond.selects RX8 yX8_lower yX8_lower, Cond.code yX8_lower cX8_lower 2 (some .int), Cond.fieldLink RX8 71 "CoreShedModel" "results" "[I", Cond.methodLink RX8 168 yX8_far, Cond.static yX8_far, Cond.code yX8_far cX8_far 2 (some .int), Cond.methodLink RX8 171 yX8_upper, Cond.instanceMethod yX8_upper, Cond.selects RX8 yX8_upper yX8_upper, Cond.code yX8_upper cX8_upper 2 (some .int)]
def wsX8_sound : List Cond := .code yX8_sound cX8_sound 2 (some .int) :: ((wsX8_sound_r1 ++ wsX8_sound_r2) ++ wsX80)
def wsX8_fault_r1 : List Cond := [Cond.methodLink RX8 136 yX8_isBatch, Cond.instanceMethod yX8_isBatch, Cond.selects RX8 yX8_isBatch yX8_isBatch, Cond.initialized RX8, Cond.code yX8_isBatch cX8_isBatch 2 (some .boolean), Cond.fieldLink RX8 133 "CoreShedModel" "batches" "I", Cond.methodLink RX8 84 yX8_in, Cond.static yX8_in, Cond.code yX8_in cX8_in 6 (some .boolean), Cond.methodLink RX8 177 yX8_isTold, Cond.instanceMethod yX8_isTold, Cond.selects RX8 yX8_isTold yX8_isTold, Cond.code yX8_isTold cX8_isTold 4 (some .boolean), Cond.fieldLink RX8 56 "CoreShedModel" "places" "[I", Cond.fieldLink RX8 68 "CoreShedModel" "hasResult" "[Z", Cond.methodLink RX8 180 yX8_faultOf, Cond.instanceMethod yX8_faultOf, Cond.selects RX8 yX8_faultOf yX8_faultOf, Cond.code yX8_faultOf cX8_faultOf 3 (some .int), Cond.methodLink RX8 174 yX8_isGood, Cond.instanceMethod yX8_isGood, Cond.selects RX8 yX8_isGood yX8_isGood, Cond.code yX8_isGood cX8_isGood 6 (some .boolean), Cond.fieldLink RX8 59 "CoreShedModel" "sort" "[I"]
def wsX8_fault_r2 : List Cond := [Cond.fieldLink RX8 62 "CoreShedModel" "what" "[I", Cond.fieldLink RX8 65 "CoreShedModel" "offBy" "[I", Cond.fieldLink RX8 74 "CoreShedModel" "laws" "[I", Cond.constantLong RX8 95 (1000), Cond.methodLink RX8 165 yX8_lower, Cond.instanceMethod yX8_lower, Cond.selects RX8 yX8_lower yX8_lower, Cond.code yX8_lower cX8_lower 2 (some .int), Cond.fieldLink RX8 71 "CoreShedModel" "results" "[I", Cond.methodLink RX8 168 yX8_far, Cond.static yX8_far, Cond.code yX8_far cX8_far 2 (some .int), Cond.methodLink RX8 171 yX8_upper, Cond.instanceMethod yX8_upper, Cond.selects RX8 yX8_upper yX8_upper, Cond.code yX8_upper cX8_upper 2 (some .int)]
def wsX8_fault : List Cond := .code yX8_fault cX8_fault 2 (some .int) :: ((wsX8_fault_r1 ++ wsX8_fault_r2) ++ wsX80)
def wsX8_turn : List Cond := .code yX8_turn cX8_turn 4 none :: ([.fieldLink RX8 71 "CoreShedModel" "results" "[I"] ++ wsX80)
def wsX8_swap_r1 : List Cond := [Cond.fieldLink RX8 56 "CoreShedModel" "places" "[I", Cond.methodLink RX8 136 yX8_isBatch, Cond.instanceMethod yX8_isBatch, Cond.selects RX8 yX8_isBatch yX8_isBatch, Cond.initialized RX8, Cond.code yX8_isBatch cX8_isBatch 2 (some .boolean), Cond.fieldLink RX8 133 "CoreShedModel" "batches" "I", Cond.methodLink RX8 84 yX8_in, Cond.static yX8_in, Cond.code yX8_in cX8_in 6 (some .boolean), Cond.methodLink RX8 177 yX8_isTold, Cond.instanceMethod yX8_isTold, Cond.selects RX8 yX8_isTold yX8_isTold, Cond.code yX8_isTold cX8_isTold 4 (some .boolean), Cond.fieldLink RX8 68 "CoreShedModel" "hasResult" "[Z", Cond.methodLink RX8 183 yX8_isSound, Cond.instanceMethod yX8_isSound, Cond.selects RX8 yX8_isSound yX8_isSound, Cond.code yX8_isSound cX8_isSound 2 (some .boolean), Cond.methodLink RX8 180 yX8_faultOf, Cond.instanceMethod yX8_faultOf, Cond.selects RX8 yX8_faultOf yX8_faultOf, Cond.code yX8_faultOf cX8_faultOf 3 (some .int), Cond.methodLink RX8 174 yX8_isGood]
def wsX8_swap_r2 : List Cond := [Cond.instanceMethod yX8_isGood, Cond.selects RX8 yX8_isGood yX8_isGood, Cond.code yX8_isGood cX8_isGood 6 (some .boolean), Cond.fieldLink RX8 59 "CoreShedModel" "sort" "[I", Cond.fieldLink RX8 62 "CoreShedModel" "what" "[I", Cond.fieldLink RX8 65 "CoreShedModel" "offBy" "[I", Cond.fieldLink RX8 74 "CoreShedModel" "laws" "[I", Cond.constantLong RX8 95 (1000), Cond.methodLink RX8 165 yX8_lower, Cond.instanceMethod yX8_lower, Cond.selects RX8 yX8_lower yX8_lower, Cond.code yX8_lower cX8_lower 2 (some .int), Cond.fieldLink RX8 71 "CoreShedModel" "results" "[I", Cond.methodLink RX8 168 yX8_far, Cond.static yX8_far, Cond.code yX8_far cX8_far 2 (some .int), Cond.methodLink RX8 171 yX8_upper, Cond.instanceMethod yX8_upper, Cond.selects RX8 yX8_upper yX8_upper, Cond.code yX8_upper cX8_upper 2 (some .int), Cond.methodLink RX8 186 yX8_turn, Cond.instanceMethod yX8_turn, Cond.selects RX8 yX8_turn yX8_turn, Cond.code yX8_turn cX8_turn 4 none]
def wsX8_swap : List Cond := .code yX8_swap cX8_swap 4 (some .int) :: ((wsX8_swap_r1 ++ wsX8_swap_r2) ++ wsX80)
def wsX8_exchange : List Cond := .code yX8_exchange cX8_exchange 3 (some .int) :: ([.fieldLink RX8 68 "CoreShedModel" "hasResult" "[Z", .methodLink RX8 159 yX8_isPlace, .instanceMethod yX8_isPlace, .selects RX8 yX8_isPlace yX8_isPlace, .initialized RX8, .code yX8_isPlace cX8_isPlace 3 (some .boolean), .fieldLink RX8 56 "CoreShedModel" "places" "[I", .methodLink RX8 136 yX8_isBatch, .instanceMethod yX8_isBatch, .selects RX8 yX8_isBatch yX8_isBatch, .code yX8_isBatch cX8_isBatch 2 (some .boolean), .fieldLink RX8 133 "CoreShedModel" "batches" "I", .methodLink RX8 84 yX8_in, .static yX8_in, .code yX8_in cX8_in 6 (some .boolean), .methodLink RX8 186 yX8_turn, .instanceMethod yX8_turn, .selects RX8 yX8_turn yX8_turn, .code yX8_turn cX8_turn 4 none, .fieldLink RX8 71 "CoreShedModel" "results" "[I"] ++ wsX80)
def wsX8_aboutOf : List Cond := .code yX8_aboutOf cX8_aboutOf 3 (some .int) :: ([.fieldLink RX8 59 "CoreShedModel" "sort" "[I", .fieldLink RX8 62 "CoreShedModel" "what" "[I", .fieldLink RX8 65 "CoreShedModel" "offBy" "[I", .fieldLink RX8 68 "CoreShedModel" "hasResult" "[Z", .fieldLink RX8 71 "CoreShedModel" "results" "[I"] ++ wsX80)
def wsX8_about : List Cond := .code yX8_about cX8_about 4 (some .int) :: ([.methodLink RX8 159 yX8_isPlace, .instanceMethod yX8_isPlace, .selects RX8 yX8_isPlace yX8_isPlace, .initialized RX8, .code yX8_isPlace cX8_isPlace 3 (some .boolean), .fieldLink RX8 56 "CoreShedModel" "places" "[I", .methodLink RX8 136 yX8_isBatch, .instanceMethod yX8_isBatch, .selects RX8 yX8_isBatch yX8_isBatch, .code yX8_isBatch cX8_isBatch 2 (some .boolean), .fieldLink RX8 133 "CoreShedModel" "batches" "I", .methodLink RX8 84 yX8_in, .static yX8_in, .code yX8_in cX8_in 6 (some .boolean), .methodLink RX8 190 yX8_aboutOf, .instanceMethod yX8_aboutOf, .selects RX8 yX8_aboutOf yX8_aboutOf, .code yX8_aboutOf cX8_aboutOf 3 (some .int), .fieldLink RX8 59 "CoreShedModel" "sort" "[I", .fieldLink RX8 62 "CoreShedModel" "what" "[I", .fieldLink RX8 65 "CoreShedModel" "offBy" "[I", .fieldLink RX8 68 "CoreShedModel" "hasResult" "[Z", .fieldLink RX8 71 "CoreShedModel" "results" "[I"] ++ wsX80)
def wsX8_gradeAt_r1 : List Cond := [Cond.fieldLink RX8 133 "CoreShedModel" "batches" "I", Cond.methodLink RX8 148 yX8_placeOf, Cond.instanceMethod yX8_placeOf, Cond.selects RX8 yX8_placeOf yX8_placeOf, Cond.initialized RX8, Cond.code yX8_placeOf cX8_placeOf 4 (some .int), Cond.fieldLink RX8 56 "CoreShedModel" "places" "[I", Cond.fieldLink RX8 59 "CoreShedModel" "sort" "[I", Cond.fieldLink RX8 62 "CoreShedModel" "what" "[I", Cond.methodLink RX8 183 yX8_isSound, Cond.instanceMethod yX8_isSound, Cond.selects RX8 yX8_isSound yX8_isSound, Cond.code yX8_isSound cX8_isSound 2 (some .boolean), Cond.methodLink RX8 177 yX8_isTold, Cond.instanceMethod yX8_isTold, Cond.selects RX8 yX8_isTold yX8_isTold, Cond.code yX8_isTold cX8_isTold 4 (some .boolean), Cond.fieldLink RX8 68 "CoreShedModel" "hasResult" "[Z", Cond.methodLink RX8 180 yX8_faultOf, Cond.instanceMethod yX8_faultOf, Cond.selects RX8 yX8_faultOf yX8_faultOf, Cond.code yX8_faultOf cX8_faultOf 3 (some .int), Cond.methodLink RX8 174 yX8_isGood, Cond.instanceMethod yX8_isGood]
def wsX8_gradeAt_r2 : List Cond := [Cond.selects RX8 yX8_isGood yX8_isGood, Cond.code yX8_isGood cX8_isGood 6 (some .boolean), Cond.fieldLink RX8 65 "CoreShedModel" "offBy" "[I", Cond.fieldLink RX8 74 "CoreShedModel" "laws" "[I", Cond.constantLong RX8 95 (1000), Cond.methodLink RX8 165 yX8_lower, Cond.instanceMethod yX8_lower, Cond.selects RX8 yX8_lower yX8_lower, Cond.code yX8_lower cX8_lower 2 (some .int), Cond.fieldLink RX8 71 "CoreShedModel" "results" "[I", Cond.methodLink RX8 168 yX8_far, Cond.static yX8_far, Cond.code yX8_far cX8_far 2 (some .int), Cond.methodLink RX8 171 yX8_upper, Cond.instanceMethod yX8_upper, Cond.selects RX8 yX8_upper yX8_upper, Cond.code yX8_upper cX8_upper 2 (some .int)]
def wsX8_gradeAt : List Cond := .code yX8_gradeAt cX8_gradeAt 4 (some .int) :: ((wsX8_gradeAt_r1 ++ wsX8_gradeAt_r2) ++ wsX80)
def wsX8_grade_r1 : List Cond := [Cond.methodLink RX8 139 yX8_isSample, Cond.instanceMethod yX8_isSample, Cond.selects RX8 yX8_isSample yX8_isSample, Cond.initialized RX8, Cond.code yX8_isSample cX8_isSample 2 (some .boolean), Cond.fieldLink RX8 88 "CoreShedModel" "samples" "I", Cond.methodLink RX8 84 yX8_in, Cond.static yX8_in, Cond.code yX8_in cX8_in 6 (some .boolean), Cond.methodLink RX8 193 yX8_gradeAt, Cond.instanceMethod yX8_gradeAt, Cond.selects RX8 yX8_gradeAt yX8_gradeAt, Cond.code yX8_gradeAt cX8_gradeAt 4 (some .int), Cond.fieldLink RX8 133 "CoreShedModel" "batches" "I", Cond.methodLink RX8 148 yX8_placeOf, Cond.instanceMethod yX8_placeOf, Cond.selects RX8 yX8_placeOf yX8_placeOf, Cond.code yX8_placeOf cX8_placeOf 4 (some .int), Cond.fieldLink RX8 56 "CoreShedModel" "places" "[I", Cond.fieldLink RX8 59 "CoreShedModel" "sort" "[I", Cond.fieldLink RX8 62 "CoreShedModel" "what" "[I", Cond.methodLink RX8 183 yX8_isSound, Cond.instanceMethod yX8_isSound, Cond.selects RX8 yX8_isSound yX8_isSound]
def wsX8_grade_r2 : List Cond := [Cond.code yX8_isSound cX8_isSound 2 (some .boolean), Cond.methodLink RX8 177 yX8_isTold, Cond.instanceMethod yX8_isTold, Cond.selects RX8 yX8_isTold yX8_isTold, Cond.code yX8_isTold cX8_isTold 4 (some .boolean), Cond.fieldLink RX8 68 "CoreShedModel" "hasResult" "[Z", Cond.methodLink RX8 180 yX8_faultOf, Cond.instanceMethod yX8_faultOf, Cond.selects RX8 yX8_faultOf yX8_faultOf, Cond.code yX8_faultOf cX8_faultOf 3 (some .int), Cond.methodLink RX8 174 yX8_isGood, Cond.instanceMethod yX8_isGood, Cond.selects RX8 yX8_isGood yX8_isGood, Cond.code yX8_isGood cX8_isGood 6 (some .boolean), Cond.fieldLink RX8 65 "CoreShedModel" "offBy" "[I", Cond.fieldLink RX8 74 "CoreShedModel" "laws" "[I", Cond.constantLong RX8 95 (1000), Cond.methodLink RX8 165 yX8_lower, Cond.instanceMethod yX8_lower, Cond.selects RX8 yX8_lower yX8_lower, Cond.code yX8_lower cX8_lower 2 (some .int), Cond.fieldLink RX8 71 "CoreShedModel" "results" "[I", Cond.methodLink RX8 168 yX8_far, Cond.static yX8_far]
def wsX8_grade_r3 : List Cond := [Cond.code yX8_far cX8_far 2 (some .int), Cond.methodLink RX8 171 yX8_upper, Cond.instanceMethod yX8_upper, Cond.selects RX8 yX8_upper yX8_upper, Cond.code yX8_upper cX8_upper 2 (some .int)]
def wsX8_grade : List Cond := .code yX8_grade cX8_grade 4 (some .int) :: ((wsX8_grade_r1 ++ (wsX8_grade_r2 ++ wsX8_grade_r3)) ++ wsX80)
def wsX8_composite_r1 : List Cond := [Cond.constantLong RX8 196 (-101), Cond.constantLong RX8 116 (100000), Cond.constantLong RX8 198 (2), Cond.constantLong RX8 200 (-102), Cond.fieldLink RX8 88 "CoreShedModel" "samples" "I", Cond.fieldLink RX8 44 "CoreShedModel" "sampleHole" "[I", Cond.fieldLink RX8 47 "CoreShedModel" "sampleFrom" "[I", Cond.fieldLink RX8 50 "CoreShedModel" "sampleTo" "[I", Cond.methodLink RX8 91 yX8_isHole, Cond.instanceMethod yX8_isHole, Cond.selects RX8 yX8_isHole yX8_isHole, Cond.initialized RX8, Cond.code yX8_isHole cX8_isHole 2 (some .boolean), Cond.fieldLink RX8 80 "CoreShedModel" "holes" "I", Cond.methodLink RX8 84 yX8_in, Cond.static yX8_in, Cond.code yX8_in cX8_in 6 (some .boolean), Cond.methodLink RX8 108 yX8_isStretch, Cond.instanceMethod yX8_isStretch, Cond.selects RX8 yX8_isStretch yX8_isStretch, Cond.code yX8_isStretch cX8_isStretch 4 (some .boolean), Cond.methodLink RX8 100 yX8_endOf, Cond.instanceMethod yX8_endOf, Cond.selects RX8 yX8_endOf yX8_endOf]
def wsX8_composite_r2 : List Cond := [Cond.code yX8_endOf cX8_endOf 4 (some .int), Cond.fieldLink RX8 7 "CoreShedModel" "runs" "[I", Cond.fieldLink RX8 13 "CoreShedModel" "drilled" "[I", Cond.methodLink RX8 193 yX8_gradeAt, Cond.instanceMethod yX8_gradeAt, Cond.selects RX8 yX8_gradeAt yX8_gradeAt, Cond.code yX8_gradeAt cX8_gradeAt 4 (some .int), Cond.fieldLink RX8 133 "CoreShedModel" "batches" "I", Cond.methodLink RX8 148 yX8_placeOf, Cond.instanceMethod yX8_placeOf, Cond.selects RX8 yX8_placeOf yX8_placeOf, Cond.code yX8_placeOf cX8_placeOf 4 (some .int), Cond.fieldLink RX8 56 "CoreShedModel" "places" "[I", Cond.fieldLink RX8 59 "CoreShedModel" "sort" "[I", Cond.fieldLink RX8 62 "CoreShedModel" "what" "[I", Cond.methodLink RX8 183 yX8_isSound, Cond.instanceMethod yX8_isSound, Cond.selects RX8 yX8_isSound yX8_isSound, Cond.code yX8_isSound cX8_isSound 2 (some .boolean), Cond.methodLink RX8 177 yX8_isTold, Cond.instanceMethod yX8_isTold, Cond.selects RX8 yX8_isTold yX8_isTold, Cond.code yX8_isTold cX8_isTold 4 (some .boolean), Cond.fieldLink RX8 68 "CoreShedModel" "hasResult" "[Z"]
def wsX8_composite_r3 : List Cond := [Cond.methodLink RX8 180 yX8_faultOf, Cond.instanceMethod yX8_faultOf, Cond.selects RX8 yX8_faultOf yX8_faultOf, Cond.code yX8_faultOf cX8_faultOf 3 (some .int), Cond.methodLink RX8 174 yX8_isGood, Cond.instanceMethod yX8_isGood, Cond.selects RX8 yX8_isGood yX8_isGood, Cond.code yX8_isGood cX8_isGood 6 (some .boolean), Cond.fieldLink RX8 65 "CoreShedModel" "offBy" "[I", Cond.fieldLink RX8 74 "CoreShedModel" "laws" "[I", Cond.constantLong RX8 95 (1000), Cond.methodLink RX8 165 yX8_lower, Cond.instanceMethod yX8_lower, Cond.selects RX8 yX8_lower yX8_lower, Cond.code yX8_lower cX8_lower 2 (some .int), Cond.fieldLink RX8 71 "CoreShedModel" "results" "[I", Cond.methodLink RX8 168 yX8_far, Cond.static yX8_far, Cond.code yX8_far cX8_far 2 (some .int), Cond.methodLink RX8 171 yX8_upper, Cond.instanceMethod yX8_upper, Cond.selects RX8 yX8_upper yX8_upper, Cond.code yX8_upper cX8_upper 2 (some .int), Cond.methodLink RX8 104 yX8_common]
def wsX8_composite_r4 : List Cond := [Cond.static yX8_common, Cond.code yX8_common cX8_common 6 (some .int)]
def wsX8_composite : List Cond := .code yX8_composite cX8_composite 13 (some .long) :: ((wsX8_composite_r1 ++ (wsX8_composite_r2 ++ (wsX8_composite_r3 ++ wsX8_composite_r4))) ++ wsX80)
def wsX8_pairCost : List Cond := .code yX8_pairCost cX8_pairCost 5 (some .int) :: ([.fieldLink RX8 77 "CoreShedModel" "costs" "[I", .methodLink RX8 202 yX8_thick, .instanceMethod yX8_thick, .selects RX8 yX8_thick yX8_thick, .initialized RX8, .code yX8_thick cX8_thick 3 (some .int), .fieldLink RX8 35 "CoreShedModel" "layerTo" "[I", .methodLink RX8 126 yX8_fromOf, .instanceMethod yX8_fromOf, .selects RX8 yX8_fromOf yX8_fromOf, .code yX8_fromOf cX8_fromOf 3 (some .int), .methodLink RX8 168 yX8_far, .static yX8_far, .code yX8_far cX8_far 2 (some .int)] ++ wsX80)
def wsX8_mayGo : List Cond := .code yX8_mayGo cX8_mayGo 5 (some .boolean) :: ([.methodLink RX8 130 yX8_codeOf, .instanceMethod yX8_codeOf, .selects RX8 yX8_codeOf yX8_codeOf, .initialized RX8, .code yX8_codeOf cX8_codeOf 3 (some .int), .fieldLink RX8 41 "CoreShedModel" "table" "[I", .fieldLink RX8 38 "CoreShedModel" "layerCode" "[I"] ++ wsX80)
def wsX8_match_r1 : List Cond := [Cond.fieldLink RX8 32 "CoreShedModel" "layers" "[I", Cond.constant RX8 205 (1000000), Cond.fieldLink RX8 77 "CoreShedModel" "costs" "[I", Cond.methodLink RX8 202 yX8_thick, Cond.instanceMethod yX8_thick, Cond.selects RX8 yX8_thick yX8_thick, Cond.initialized RX8, Cond.code yX8_thick cX8_thick 3 (some .int), Cond.fieldLink RX8 35 "CoreShedModel" "layerTo" "[I", Cond.methodLink RX8 126 yX8_fromOf, Cond.instanceMethod yX8_fromOf, Cond.selects RX8 yX8_fromOf yX8_fromOf, Cond.code yX8_fromOf cX8_fromOf 3 (some .int), Cond.methodLink RX8 206 yX8_mayGo, Cond.instanceMethod yX8_mayGo, Cond.selects RX8 yX8_mayGo yX8_mayGo, Cond.code yX8_mayGo cX8_mayGo 5 (some .boolean), Cond.methodLink RX8 130 yX8_codeOf, Cond.instanceMethod yX8_codeOf, Cond.selects RX8 yX8_codeOf yX8_codeOf, Cond.code yX8_codeOf cX8_codeOf 3 (some .int), Cond.fieldLink RX8 41 "CoreShedModel" "table" "[I", Cond.fieldLink RX8 38 "CoreShedModel" "layerCode" "[I", Cond.methodLink RX8 210 yX8_pairCost]
def wsX8_match_r2 : List Cond := [Cond.instanceMethod yX8_pairCost, Cond.selects RX8 yX8_pairCost yX8_pairCost, Cond.code yX8_pairCost cX8_pairCost 5 (some .int), Cond.methodLink RX8 168 yX8_far, Cond.static yX8_far, Cond.code yX8_far cX8_far 2 (some .int)]
def wsX8_match : List Cond := .code yX8_match cX8_match 9 none :: ((wsX8_match_r1 ++ wsX8_match_r2) ++ wsX80)
def wsX8_cost_r1 : List Cond := [Cond.fieldLink RX8 77 "CoreShedModel" "costs" "[I", Cond.methodLink RX8 91 yX8_isHole, Cond.instanceMethod yX8_isHole, Cond.selects RX8 yX8_isHole yX8_isHole, Cond.initialized RX8, Cond.code yX8_isHole cX8_isHole 2 (some .boolean), Cond.fieldLink RX8 80 "CoreShedModel" "holes" "I", Cond.methodLink RX8 84 yX8_in, Cond.static yX8_in, Cond.code yX8_in cX8_in 6 (some .boolean), Cond.methodLink RX8 213 yX8_match, Cond.instanceMethod yX8_match, Cond.selects RX8 yX8_match yX8_match, Cond.code yX8_match cX8_match 9 none, Cond.fieldLink RX8 32 "CoreShedModel" "layers" "[I", Cond.constant RX8 205 (1000000), Cond.methodLink RX8 202 yX8_thick, Cond.instanceMethod yX8_thick, Cond.selects RX8 yX8_thick yX8_thick, Cond.code yX8_thick cX8_thick 3 (some .int), Cond.fieldLink RX8 35 "CoreShedModel" "layerTo" "[I", Cond.methodLink RX8 126 yX8_fromOf, Cond.instanceMethod yX8_fromOf, Cond.selects RX8 yX8_fromOf yX8_fromOf]
def wsX8_cost_r2 : List Cond := [Cond.code yX8_fromOf cX8_fromOf 3 (some .int), Cond.methodLink RX8 206 yX8_mayGo, Cond.instanceMethod yX8_mayGo, Cond.selects RX8 yX8_mayGo yX8_mayGo, Cond.code yX8_mayGo cX8_mayGo 5 (some .boolean), Cond.methodLink RX8 130 yX8_codeOf, Cond.instanceMethod yX8_codeOf, Cond.selects RX8 yX8_codeOf yX8_codeOf, Cond.code yX8_codeOf cX8_codeOf 3 (some .int), Cond.fieldLink RX8 41 "CoreShedModel" "table" "[I", Cond.fieldLink RX8 38 "CoreShedModel" "layerCode" "[I", Cond.methodLink RX8 210 yX8_pairCost, Cond.instanceMethod yX8_pairCost, Cond.selects RX8 yX8_pairCost yX8_pairCost, Cond.code yX8_pairCost cX8_pairCost 5 (some .int), Cond.methodLink RX8 168 yX8_far, Cond.static yX8_far, Cond.code yX8_far cX8_far 2 (some .int)]
def wsX8_cost : List Cond := .code yX8_cost cX8_cost 3 (some .int) :: ((wsX8_cost_r1 ++ wsX8_cost_r2) ++ wsX80)
def wsX8_matched_r1 : List Cond := [Cond.fieldLink RX8 32 "CoreShedModel" "layers" "[I", Cond.fieldLink RX8 77 "CoreShedModel" "costs" "[I", Cond.methodLink RX8 91 yX8_isHole, Cond.instanceMethod yX8_isHole, Cond.selects RX8 yX8_isHole yX8_isHole, Cond.initialized RX8, Cond.code yX8_isHole cX8_isHole 2 (some .boolean), Cond.fieldLink RX8 80 "CoreShedModel" "holes" "I", Cond.methodLink RX8 84 yX8_in, Cond.static yX8_in, Cond.code yX8_in cX8_in 6 (some .boolean), Cond.methodLink RX8 213 yX8_match, Cond.instanceMethod yX8_match, Cond.selects RX8 yX8_match yX8_match, Cond.code yX8_match cX8_match 9 none, Cond.constant RX8 205 (1000000), Cond.methodLink RX8 202 yX8_thick, Cond.instanceMethod yX8_thick, Cond.selects RX8 yX8_thick yX8_thick, Cond.code yX8_thick cX8_thick 3 (some .int), Cond.fieldLink RX8 35 "CoreShedModel" "layerTo" "[I", Cond.methodLink RX8 126 yX8_fromOf, Cond.instanceMethod yX8_fromOf, Cond.selects RX8 yX8_fromOf yX8_fromOf]
def wsX8_matched_r2 : List Cond := [Cond.code yX8_fromOf cX8_fromOf 3 (some .int), Cond.methodLink RX8 206 yX8_mayGo, Cond.instanceMethod yX8_mayGo, Cond.selects RX8 yX8_mayGo yX8_mayGo, Cond.code yX8_mayGo cX8_mayGo 5 (some .boolean), Cond.methodLink RX8 130 yX8_codeOf, Cond.instanceMethod yX8_codeOf, Cond.selects RX8 yX8_codeOf yX8_codeOf, Cond.code yX8_codeOf cX8_codeOf 3 (some .int), Cond.fieldLink RX8 41 "CoreShedModel" "table" "[I", Cond.fieldLink RX8 38 "CoreShedModel" "layerCode" "[I", Cond.methodLink RX8 210 yX8_pairCost, Cond.instanceMethod yX8_pairCost, Cond.selects RX8 yX8_pairCost yX8_pairCost, Cond.code yX8_pairCost cX8_pairCost 5 (some .int), Cond.methodLink RX8 168 yX8_far, Cond.static yX8_far, Cond.code yX8_far cX8_far 2 (some .int)]
def wsX8_matched : List Cond := .code yX8_matched cX8_matched 10 (some .int) :: ((wsX8_matched_r1 ++ wsX8_matched_r2) ++ wsX80)
def wsX8_count_r1 : List Cond := [Cond.fieldLink RX8 80 "CoreShedModel" "holes" "I", Cond.fieldLink RX8 88 "CoreShedModel" "samples" "I", Cond.fieldLink RX8 133 "CoreShedModel" "batches" "I", Cond.fieldLink RX8 142 "CoreShedModel" "taken" "I", Cond.methodLink RX8 183 yX8_isSound, Cond.instanceMethod yX8_isSound, Cond.selects RX8 yX8_isSound yX8_isSound, Cond.initialized RX8, Cond.code yX8_isSound cX8_isSound 2 (some .boolean), Cond.methodLink RX8 177 yX8_isTold, Cond.instanceMethod yX8_isTold, Cond.selects RX8 yX8_isTold yX8_isTold, Cond.code yX8_isTold cX8_isTold 4 (some .boolean), Cond.fieldLink RX8 56 "CoreShedModel" "places" "[I", Cond.fieldLink RX8 68 "CoreShedModel" "hasResult" "[Z", Cond.methodLink RX8 180 yX8_faultOf, Cond.instanceMethod yX8_faultOf, Cond.selects RX8 yX8_faultOf yX8_faultOf, Cond.code yX8_faultOf cX8_faultOf 3 (some .int), Cond.methodLink RX8 174 yX8_isGood, Cond.instanceMethod yX8_isGood, Cond.selects RX8 yX8_isGood yX8_isGood, Cond.code yX8_isGood cX8_isGood 6 (some .boolean), Cond.fieldLink RX8 59 "CoreShedModel" "sort" "[I"]
def wsX8_count_r2 : List Cond := [Cond.fieldLink RX8 62 "CoreShedModel" "what" "[I", Cond.fieldLink RX8 65 "CoreShedModel" "offBy" "[I", Cond.fieldLink RX8 74 "CoreShedModel" "laws" "[I", Cond.constantLong RX8 95 (1000), Cond.methodLink RX8 165 yX8_lower, Cond.instanceMethod yX8_lower, Cond.selects RX8 yX8_lower yX8_lower, Cond.code yX8_lower cX8_lower 2 (some .int), Cond.fieldLink RX8 71 "CoreShedModel" "results" "[I", Cond.methodLink RX8 168 yX8_far, Cond.static yX8_far, Cond.code yX8_far cX8_far 2 (some .int), Cond.methodLink RX8 171 yX8_upper, Cond.instanceMethod yX8_upper, Cond.selects RX8 yX8_upper yX8_upper, Cond.code yX8_upper cX8_upper 2 (some .int)]
def wsX8_count : List Cond := .code yX8_count cX8_count 4 (some .int) :: ((wsX8_count_r1 ++ wsX8_count_r2) ++ wsX80)
def wsX8_digest_r1 : List Cond := [Cond.constantLong RX8 216 (173), Cond.fieldLink RX8 80 "CoreShedModel" "holes" "I", Cond.fieldLink RX8 7 "CoreShedModel" "runs" "[I", Cond.constantLong RX8 218 (31), Cond.fieldLink RX8 13 "CoreShedModel" "drilled" "[I", Cond.fieldLink RX8 16 "CoreShedModel" "kept" "[I", Cond.fieldLink RX8 19 "CoreShedModel" "marks" "[I", Cond.fieldLink RX8 22 "CoreShedModel" "markAt" "[I", Cond.fieldLink RX8 32 "CoreShedModel" "layers" "[I", Cond.fieldLink RX8 35 "CoreShedModel" "layerTo" "[I", Cond.fieldLink RX8 38 "CoreShedModel" "layerCode" "[I", Cond.fieldLink RX8 41 "CoreShedModel" "table" "[I", Cond.fieldLink RX8 88 "CoreShedModel" "samples" "I", Cond.fieldLink RX8 44 "CoreShedModel" "sampleHole" "[I", Cond.fieldLink RX8 47 "CoreShedModel" "sampleFrom" "[I", Cond.fieldLink RX8 50 "CoreShedModel" "sampleTo" "[I", Cond.fieldLink RX8 53 "CoreShedModel" "quarters" "[I", Cond.fieldLink RX8 133 "CoreShedModel" "batches" "I", Cond.fieldLink RX8 56 "CoreShedModel" "places" "[I", Cond.fieldLink RX8 74 "CoreShedModel" "laws" "[I", Cond.methodLink RX8 190 yX8_aboutOf, Cond.instanceMethod yX8_aboutOf, Cond.selects RX8 yX8_aboutOf yX8_aboutOf, Cond.initialized RX8]
def wsX8_digest_r2 : List Cond := [Cond.code yX8_aboutOf cX8_aboutOf 3 (some .int), Cond.fieldLink RX8 59 "CoreShedModel" "sort" "[I", Cond.fieldLink RX8 62 "CoreShedModel" "what" "[I", Cond.fieldLink RX8 65 "CoreShedModel" "offBy" "[I", Cond.fieldLink RX8 68 "CoreShedModel" "hasResult" "[Z", Cond.fieldLink RX8 71 "CoreShedModel" "results" "[I"]
def wsX8_digest : List Cond := .code yX8_digest cX8_digest 6 (some .long) :: ((wsX8_digest_r1 ++ wsX8_digest_r2) ++ wsX80)
def wsJ9_abs_0f7a4 : List Cond := .code yJ9_abs_0f7a4 cJ9_abs_0f7a4 1 (some .int) :: ([])
def wsJ9_max_7cf53 : List Cond := .code yJ9_max_7cf53 cJ9_max_7cf53 2 (some .int) :: ([])
def wsJ9_min_7cf53 : List Cond := .code yJ9_min_7cf53 cJ9_min_7cf53 2 (some .int) :: ([])
def wsL_law_r1 : List Cond := [Cond.classLink RL 7 RX7, Cond.instantiable RX7 11, Cond.initialized RX7, Cond.classLink RL 10 RX8, Cond.instantiable RX8 27, Cond.initialized RX8, Cond.methodLink RL 9 yX7_init, Cond.instanceMethod yX7_init, Cond.code yX7_init cX7_init 2 none, Cond.methodLink RX7 1 objectInit, Cond.instanceMethod objectInit, Cond.code objectInit ⟨#[0xb1]⟩ 1 none, Cond.classLink RX7 9 RX1, Cond.fieldLink RX7 11 "CoreShed" "holes" "[LCoreShed$Hole;", Cond.classLink RX7 15 RX6, Cond.fieldLink RX7 17 "CoreShed" "samples" "[LCoreShed$Sample;", Cond.classLink RX7 21 RX0, Cond.fieldLink RX7 23 "CoreShed" "batches" "[LCoreShed$Batch;", Cond.arrayClass .int, Cond.fieldLink RX7 27 "CoreShed" "table" "[I", Cond.classLink RX7 31 RX4, Cond.instantiable RX4 2, Cond.initialized RX4, Cond.fieldLink RX7 34 "CoreShed" "mend" "LCoreShed$Mend;"]
def wsL_law_r2 : List Cond := [Cond.classLink RX7 38 RX3, Cond.instantiable RX3 1, Cond.initialized RX3, Cond.fieldLink RX7 41 "CoreShed" "matching" "LCoreShed$Matching;", Cond.fieldLink RX7 45 "CoreShed" "dirt" "I", Cond.fieldLink RX7 49 "CoreShed" "spread" "I", Cond.instanceMethod yX4_init, Cond.code yX4_init cX4_init 1 none, Cond.methodLink RX4 3 objectInit, Cond.fieldLink RX4 9 "CoreShed$Mend" "rising" "[I", Cond.arrayClass .boolean, Cond.fieldLink RX4 15 "CoreShed$Mend" "chosen" "[Z", Cond.instanceMethod yX3_init, Cond.code yX3_init cX3_init 1 none, Cond.methodLink RX3 3 objectInit, Cond.classLink RX3 9 "[[I", Cond.fieldLink RX3 11 "CoreShed$Matching" "least" "[[I", Cond.methodLink RL 12 yX8_init, Cond.instanceMethod yX8_init, Cond.code yX8_init cX8_init 2 none, Cond.methodLink RX8 1 objectInit, Cond.fieldLink RX8 7 "CoreShedModel" "runs" "[I", Cond.fieldLink RX8 13 "CoreShedModel" "drilled" "[I", Cond.fieldLink RX8 16 "CoreShedModel" "kept" "[I"]
def wsL_law_r3 : List Cond := [Cond.fieldLink RX8 19 "CoreShedModel" "marks" "[I", Cond.fieldLink RX8 22 "CoreShedModel" "markAt" "[I", Cond.fieldLink RX8 25 "CoreShedModel" "longest" "[I", Cond.fieldLink RX8 28 "CoreShedModel" "isRight" "[Z", Cond.fieldLink RX8 32 "CoreShedModel" "layers" "[I", Cond.fieldLink RX8 35 "CoreShedModel" "layerTo" "[I", Cond.fieldLink RX8 38 "CoreShedModel" "layerCode" "[I", Cond.fieldLink RX8 41 "CoreShedModel" "table" "[I", Cond.fieldLink RX8 44 "CoreShedModel" "sampleHole" "[I", Cond.fieldLink RX8 47 "CoreShedModel" "sampleFrom" "[I", Cond.fieldLink RX8 50 "CoreShedModel" "sampleTo" "[I", Cond.fieldLink RX8 53 "CoreShedModel" "quarters" "[I", Cond.fieldLink RX8 56 "CoreShedModel" "places" "[I", Cond.fieldLink RX8 59 "CoreShedModel" "sort" "[I", Cond.fieldLink RX8 62 "CoreShedModel" "what" "[I", Cond.fieldLink RX8 65 "CoreShedModel" "offBy" "[I", Cond.fieldLink RX8 68 "CoreShedModel" "hasResult" "[Z", Cond.fieldLink RX8 71 "CoreShedModel" "results" "[I", Cond.fieldLink RX8 74 "CoreShedModel" "laws" "[I", Cond.fieldLink RX8 77 "CoreShedModel" "costs" "[I", Cond.methodLink RL 13 yX7_hole, Cond.instanceMethod yX7_hole, Cond.selects RX7 yX7_hole yX7_hole, Cond.code yX7_hole cX7_hole 1 (some .int)]
def wsL_law_r4 : List Cond := [Cond.fieldLink RX7 52 "CoreShed" "holeCount" "I", Cond.instantiable RX1 8, Cond.initialized RX1, Cond.instanceMethod yX1_init, Cond.code yX1_init cX1_init 1 none, Cond.methodLink RX1 3 objectInit, Cond.fieldLink RX1 9 "CoreShed$Hole" "drilled" "[I", Cond.fieldLink RX1 15 "CoreShed$Hole" "cored" "[I", Cond.fieldLink RX1 18 "CoreShed$Hole" "marks" "[I", Cond.classLink RX1 21 RX2, Cond.instantiable RX2 3, Cond.initialized RX2, Cond.fieldLink RX1 24 "CoreShed$Hole" "firstLog" "LCoreShed$Log;", Cond.fieldLink RX1 28 "CoreShed$Hole" "secondLog" "LCoreShed$Log;", Cond.instanceMethod yX2_init, Cond.code yX2_init cX2_init 1 none, Cond.methodLink RX2 3 objectInit, Cond.fieldLink RX2 9 "CoreShed$Log" "depths" "[I", Cond.fieldLink RX2 15 "CoreShed$Log" "codes" "[I", Cond.methodLink RL 17 yX8_hole, Cond.instanceMethod yX8_hole, Cond.selects RX8 yX8_hole yX8_hole, Cond.code yX8_hole cX8_hole 1 (some .int), Cond.fieldLink RX8 80 "CoreShedModel" "holes" "I"]
def wsL_law_r5 : List Cond := [Cond.methodLink RL 18 yX7_run, Cond.instanceMethod yX7_run, Cond.selects RX7 yX7_run yX7_run, Cond.code yX7_run cX7_run 5 (some .int), Cond.fieldLink RX7 72 "CoreShed$Hole" "runCount" "I", Cond.fieldLink RX7 79 "CoreShed$Hole" "bottom" "I", Cond.methodLink RX7 56 yX7_holeNamed, Cond.instanceMethod yX7_holeNamed, Cond.selects RX7 yX7_holeNamed yX7_holeNamed, Cond.code yX7_holeNamed cX7_holeNamed 2 (some (.object "CoreShed$Hole")), Cond.methodLink RX7 60 yX7_isWithin, Cond.static yX7_isWithin, Cond.code yX7_isWithin cX7_isWithin 3 (some .boolean), Cond.methodLink RX7 64 yX1_isLogged, Cond.instanceMethod yX1_isLogged, Cond.selects RX1 yX1_isLogged yX1_isLogged, Cond.code yX1_isLogged cX1_isLogged 1 (some .boolean), Cond.fieldLink RX1 38 "CoreShed$Log" "size" "I", Cond.methodLink RX7 68 yX7_isSampled, Cond.instanceMethod yX7_isSampled, Cond.selects RX7 yX7_isSampled yX7_isSampled, Cond.code yX7_isSampled cX7_isSampled 3 (some .boolean), Cond.fieldLink RX7 150 "CoreShed" "sampleCount" "I", Cond.fieldLink RX7 275 "CoreShed$Sample" "hole" "I"]
def wsL_law_r6 : List Cond := [Cond.methodLink RX7 75 yX1_addRun, Cond.instanceMethod yX1_addRun, Cond.selects RX1 yX1_addRun yX1_addRun, Cond.code yX1_addRun cX1_addRun 3 none, Cond.fieldLink RX1 31 "CoreShed$Hole" "runCount" "I", Cond.fieldLink RX1 35 "CoreShed$Hole" "bottom" "I", Cond.methodLink RL 22 yX8_run, Cond.instanceMethod yX8_run, Cond.selects RX8 yX8_run yX8_run, Cond.code yX8_run cX8_run 4 (some .int), Cond.constantLong RX8 95 (1000), Cond.methodLink RX8 91 yX8_isHole, Cond.instanceMethod yX8_isHole, Cond.selects RX8 yX8_isHole yX8_isHole, Cond.code yX8_isHole cX8_isHole 2 (some .boolean), Cond.methodLink RX8 84 yX8_in, Cond.static yX8_in, Cond.code yX8_in cX8_in 6 (some .boolean), Cond.methodLink RX8 97 yX8_isUsed, Cond.instanceMethod yX8_isUsed, Cond.selects RX8 yX8_isUsed yX8_isUsed, Cond.code yX8_isUsed cX8_isUsed 4 (some .boolean), Cond.fieldLink RX8 88 "CoreShedModel" "samples" "I", Cond.methodLink RX8 100 yX8_endOf]
def wsL_law_r7 : List Cond := [Cond.instanceMethod yX8_endOf, Cond.selects RX8 yX8_endOf yX8_endOf, Cond.code yX8_endOf cX8_endOf 4 (some .int), Cond.methodLink RL 23 yX7_end, Cond.instanceMethod yX7_end, Cond.selects RX7 yX7_end yX7_end, Cond.code yX7_end cX7_end 3 (some .int), Cond.methodLink RL 27 yX8_end, Cond.instanceMethod yX8_end, Cond.selects RX8 yX8_end yX8_end, Cond.code yX8_end cX8_end 2 (some .int), Cond.methodLink RL 28 yX7_recovered, Cond.instanceMethod yX7_recovered, Cond.selects RX7 yX7_recovered yX7_recovered, Cond.code yX7_recovered cX7_recovered 5 (some .int), Cond.methodLink RX7 82 yX1_isStretch, Cond.instanceMethod yX1_isStretch, Cond.selects RX1 yX1_isStretch yX1_isStretch, Cond.code yX1_isStretch cX1_isStretch 3 (some .boolean), Cond.methodLink RX7 86 yX1_coreWithin, Cond.instanceMethod yX1_coreWithin, Cond.selects RX1 yX1_coreWithin yX1_coreWithin, Cond.code yX1_coreWithin cX1_coreWithin 6 (some .int), Cond.static yX7_unitsInCommon]
def wsL_law_r8 : List Cond := [Cond.code yX7_unitsInCommon cX7_unitsInCommon 4 (some .int), Cond.methodLink RX7 235 Lib.Math.min.name, Cond.static Lib.Math.min.name, Cond.initialized "java/lang/Math", Cond.code Lib.Math.min.name Lib.Math.min.code 2 (some .int), Cond.methodLink RX7 282 Lib.Math.max.name, Cond.static Lib.Math.max.name, Cond.code Lib.Math.max.name Lib.Math.max.code 2 (some .int), Cond.methodLink RL 31 yX8_recovered, Cond.instanceMethod yX8_recovered, Cond.selects RX8 yX8_recovered yX8_recovered, Cond.code yX8_recovered cX8_recovered 4 (some .int), Cond.methodLink RX8 108 yX8_isStretch, Cond.instanceMethod yX8_isStretch, Cond.selects RX8 yX8_isStretch yX8_isStretch, Cond.code yX8_isStretch cX8_isStretch 4 (some .boolean), Cond.methodLink RX8 112 yX8_recoveredOf, Cond.instanceMethod yX8_recoveredOf, Cond.selects RX8 yX8_recoveredOf yX8_recoveredOf, Cond.code yX8_recoveredOf cX8_recoveredOf 7 (some .int), Cond.methodLink RX8 104 yX8_common, Cond.static yX8_common, Cond.code yX8_common cX8_common 6 (some .int), Cond.methodLink RL 32 yX7_mark]
def wsL_law_r9 : List Cond := [Cond.instanceMethod yX7_mark, Cond.selects RX7 yX7_mark yX7_mark, Cond.code yX7_mark cX7_mark 4 (some .int), Cond.constant RX7 90 (100000), Cond.fieldLink RX7 91 "CoreShed$Hole" "markCount" "I", Cond.fieldLink RX7 94 "CoreShed$Hole" "marks" "[I", Cond.methodLink RL 36 yX8_mark, Cond.instanceMethod yX8_mark, Cond.selects RX8 yX8_mark yX8_mark, Cond.code yX8_mark cX8_mark 3 (some .int), Cond.constantLong RX8 116 (100000), Cond.methodLink RL 37 yX7_wrong, Cond.instanceMethod yX7_wrong, Cond.selects RX7 yX7_wrong yX7_wrong, Cond.code yX7_wrong cX7_wrong 3 (some .int), Cond.methodLink RX7 97 yX4_choose, Cond.instanceMethod yX4_choose, Cond.selects RX4 yX4_choose yX4_choose, Cond.code yX4_choose cX4_choose 6 (some .int), Cond.fieldLink RX4 23 "CoreShed$Hole" "markCount" "I", Cond.fieldLink RX4 29 "CoreShed$Hole" "marks" "[I", Cond.methodLink RX4 19 yX4_measure, Cond.instanceMethod yX4_measure, Cond.selects RX4 yX4_measure yX4_measure]
def wsL_law_r10 : List Cond := [Cond.code yX4_measure cX4_measure 4 (some .int), Cond.fieldLink RX4 32 "CoreShed$Hole" "bottom" "I", Cond.methodLink RX4 39 Lib.Math.max.name, Cond.methodLink RX4 35 yX4_mostAbove, Cond.instanceMethod yX4_mostAbove, Cond.selects RX4 yX4_mostAbove yX4_mostAbove, Cond.code yX4_mostAbove cX4_mostAbove 5 (some .int), Cond.methodLink RL 40 yX8_wrong, Cond.instanceMethod yX8_wrong, Cond.selects RX8 yX8_wrong yX8_wrong, Cond.code yX8_wrong cX8_wrong 2 (some .int), Cond.methodLink RX8 118 yX8_mend, Cond.instanceMethod yX8_mend, Cond.selects RX8 yX8_mend yX8_mend, Cond.code yX8_mend cX8_mend 8 (some .int), Cond.methodLink RL 41 yX7_isWrong, Cond.instanceMethod yX7_isWrong, Cond.selects RX7 yX7_isWrong yX7_isWrong, Cond.code yX7_isWrong cX7_isWrong 4 (some .int), Cond.fieldLink RX7 101 "CoreShed$Mend" "chosen" "[Z", Cond.methodLink RL 44 yX8_isWrong, Cond.instanceMethod yX8_isWrong, Cond.selects RX8 yX8_isWrong yX8_isWrong, Cond.code yX8_isWrong cX8_isWrong 4 (some .int)]
def wsL_law_r11 : List Cond := [Cond.methodLink RL 45 yX7_layer, Cond.instanceMethod yX7_layer, Cond.selects RX7 yX7_layer yX7_layer, Cond.code yX7_layer cX7_layer 7 (some .int), Cond.fieldLink RX7 117 "CoreShed$Log" "size" "I", Cond.methodLink RX7 105 yX7_logNamed, Cond.instanceMethod yX7_logNamed, Cond.selects RX7 yX7_logNamed yX7_logNamed, Cond.code yX7_logNamed cX7_logNamed 4 (some (.object "CoreShed$Log")), Cond.fieldLink RX7 130 "CoreShed$Hole" "firstLog" "LCoreShed$Log;", Cond.fieldLink RX7 134 "CoreShed$Hole" "secondLog" "LCoreShed$Log;", Cond.methodLink RX7 109 yX2_bottom, Cond.instanceMethod yX2_bottom, Cond.selects RX2 yX2_bottom yX2_bottom, Cond.code yX2_bottom cX2_bottom 1 (some .int), Cond.fieldLink RX2 18 "CoreShed$Log" "size" "I", Cond.methodLink RX2 22 yX2_top, Cond.instanceMethod yX2_top, Cond.selects RX2 yX2_top yX2_top, Cond.code yX2_top cX2_top 2 (some .int), Cond.methodLink RX7 114 yX7_isCode, Cond.static yX7_isCode, Cond.code yX7_isCode cX7_isCode 1 (some .boolean), Cond.methodLink RX7 120 yX2_add]
def wsL_law_r12 : List Cond := [Cond.instanceMethod yX2_add, Cond.selects RX2 yX2_add yX2_add, Cond.code yX2_add cX2_add 3 none, Cond.methodLink RL 49 yX8_layer, Cond.instanceMethod yX8_layer, Cond.selects RX8 yX8_layer yX8_layer, Cond.code yX8_layer cX8_layer 7 (some .int), Cond.constantLong RX8 124 (9), Cond.methodLink RX8 121 yX8_isLog, Cond.static yX8_isLog, Cond.code yX8_isLog cX8_isLog 1 (some .boolean), Cond.methodLink RL 50 yX7_code, Cond.instanceMethod yX7_code, Cond.selects RX7 yX7_code yX7_code, Cond.code yX7_code cX7_code 4 (some .int), Cond.methodLink RL 53 yX8_code, Cond.instanceMethod yX8_code, Cond.selects RX8 yX8_code yX8_code, Cond.code yX8_code cX8_code 4 (some .int), Cond.methodLink RL 54 yX7_rock, Cond.instanceMethod yX7_rock, Cond.selects RX7 yX7_rock yX7_rock, Cond.code yX7_rock cX7_rock 6 (some .int), Cond.fieldLink RX7 127 "CoreShed$Log" "codes" "[I"]
def wsL_law_r13 : List Cond := [Cond.methodLink RX7 123 yX2_indexAt, Cond.instanceMethod yX2_indexAt, Cond.selects RX2 yX2_indexAt yX2_indexAt, Cond.code yX2_indexAt cX2_indexAt 3 (some .int), Cond.methodLink RL 57 yX8_rock, Cond.instanceMethod yX8_rock, Cond.selects RX8 yX8_rock yX8_rock, Cond.code yX8_rock cX8_rock 6 (some .int), Cond.methodLink RX8 126 yX8_fromOf, Cond.instanceMethod yX8_fromOf, Cond.selects RX8 yX8_fromOf yX8_fromOf, Cond.code yX8_fromOf cX8_fromOf 3 (some .int), Cond.methodLink RX8 130 yX8_codeOf, Cond.instanceMethod yX8_codeOf, Cond.selects RX8 yX8_codeOf yX8_codeOf, Cond.code yX8_codeOf cX8_codeOf 3 (some .int), Cond.methodLink RL 58 yX7_agree, Cond.instanceMethod yX7_agree, Cond.selects RX7 yX7_agree yX7_agree, Cond.code yX7_agree cX7_agree 8 (some .int), Cond.fieldLink RX7 140 "CoreShed$Log" "depths" "[I", Cond.methodLink RX7 137 yX2_top, Cond.methodLink RX7 143 yX7_unitsInCommon, Cond.methodLink RL 61 yX8_agree]
def wsL_law_r14 : List Cond := [Cond.instanceMethod yX8_agree, Cond.selects RX8 yX8_agree yX8_agree, Cond.code yX8_agree cX8_agree 5 (some .int), Cond.methodLink RL 62 yX7_sample, Cond.instanceMethod yX7_sample, Cond.selects RX7 yX7_sample yX7_sample, Cond.code yX7_sample cX7_sample 5 (some .int), Cond.instantiable RX6 4, Cond.initialized RX6, Cond.methodLink RX7 147 yX7_isTaken, Cond.instanceMethod yX7_isTaken, Cond.selects RX7 yX7_isTaken yX7_isTaken, Cond.code yX7_isTaken cX7_isTaken 5 (some .boolean), Cond.methodLink RX7 231 yX6_unitsWithin, Cond.instanceMethod yX6_unitsWithin, Cond.selects RX6 yX6_unitsWithin yX6_unitsWithin, Cond.code yX6_unitsWithin cX6_unitsWithin 4 (some .int), Cond.fieldLink RX6 15 "CoreShed$Sample" "hole" "I", Cond.fieldLink RX6 18 "CoreShed$Sample" "from" "I", Cond.fieldLink RX6 21 "CoreShed$Sample" "to" "I", Cond.methodLink RX7 153 yX6_init, Cond.instanceMethod yX6_init, Cond.code yX6_init cX6_init 4 none, Cond.methodLink RX6 3 objectInit]
def wsL_law_r15 : List Cond := [Cond.fieldLink RX6 9 "CoreShed$Sample" "quarters" "I", Cond.methodLink RL 65 yX8_sample, Cond.instanceMethod yX8_sample, Cond.selects RX8 yX8_sample yX8_sample, Cond.code yX8_sample cX8_sample 6 (some .int), Cond.methodLink RL 66 yX7_left, Cond.instanceMethod yX7_left, Cond.selects RX7 yX7_left yX7_left, Cond.code yX7_left cX7_left 3 (some .int), Cond.fieldLink RX7 160 "CoreShed$Sample" "quarters" "I", Cond.methodLink RX7 156 yX7_sampleNamed, Cond.instanceMethod yX7_sampleNamed, Cond.selects RX7 yX7_sampleNamed yX7_sampleNamed, Cond.code yX7_sampleNamed cX7_sampleNamed 2 (some (.object "CoreShed$Sample")), Cond.methodLink RL 69 yX8_left, Cond.instanceMethod yX8_left, Cond.selects RX8 yX8_left yX8_left, Cond.code yX8_left cX8_left 2 (some .int), Cond.methodLink RX8 139 yX8_isSample, Cond.instanceMethod yX8_isSample, Cond.selects RX8 yX8_isSample yX8_isSample, Cond.code yX8_isSample cX8_isSample 2 (some .boolean), Cond.methodLink RL 70 yX7_batch, Cond.instanceMethod yX7_batch]
def wsL_law_r16 : List Cond := [Cond.selects RX7 yX7_batch yX7_batch, Cond.code yX7_batch cX7_batch 1 (some .int), Cond.fieldLink RX7 163 "CoreShed" "batchCount" "I", Cond.instantiable RX0 2, Cond.initialized RX0, Cond.instanceMethod yX0_init, Cond.code yX0_init cX0_init 1 none, Cond.methodLink RX0 3 objectInit, Cond.classLink RX0 9 RX5, Cond.fieldLink RX0 11 "CoreShed$Batch" "places" "[LCoreShed$Place;", Cond.methodLink RL 73 yX8_batch, Cond.instanceMethod yX8_batch, Cond.selects RX8 yX8_batch yX8_batch, Cond.code yX8_batch cX8_batch 1 (some .int), Cond.fieldLink RX8 133 "CoreShedModel" "batches" "I", Cond.methodLink RL 74 yX7_put, Cond.instanceMethod yX7_put, Cond.selects RX7 yX7_put yX7_put, Cond.code yX7_put cX7_put 5 (some .int), Cond.methodLink RX7 167 yX7_batchNamed, Cond.instanceMethod yX7_batchNamed, Cond.selects RX7 yX7_batchNamed yX7_batchNamed, Cond.code yX7_batchNamed cX7_batchNamed 2 (some (.object "CoreShed$Batch")), Cond.methodLink RX7 171 yX0_placeOf]
def wsL_law_r17 : List Cond := [Cond.instanceMethod yX0_placeOf, Cond.selects RX0 yX0_placeOf yX0_placeOf, Cond.code yX0_placeOf cX0_placeOf 3 (some (.object "CoreShed$Place")), Cond.fieldLink RX0 17 "CoreShed$Batch" "size" "I", Cond.fieldLink RX0 21 "CoreShed$Place" "sort" "I", Cond.fieldLink RX0 24 "CoreShed$Place" "about" "I", Cond.methodLink RX7 175 yX7_addPlaceWithQuarter, Cond.static yX7_addPlaceWithQuarter, Cond.code yX7_addPlaceWithQuarter cX7_addPlaceWithQuarter 5 (some .int), Cond.methodLink RX7 179 yX7_addPlace, Cond.static yX7_addPlace, Cond.code yX7_addPlace cX7_addPlace 4 (some .int), Cond.fieldLink RX7 270 "CoreShed$Batch" "size" "I", Cond.fieldLink RX7 271 "CoreShed$Batch" "places" "[LCoreShed$Place;", Cond.classLink RX7 188 RX5, Cond.instantiable RX5 5, Cond.initialized RX5, Cond.methodLink RX7 278 yX0_hasAnyResult, Cond.instanceMethod yX0_hasAnyResult, Cond.selects RX0 yX0_hasAnyResult yX0_hasAnyResult, Cond.code yX0_hasAnyResult cX0_hasAnyResult 2 (some .boolean), Cond.fieldLink RX0 27 "CoreShed$Place" "hasResult" "Z", Cond.methodLink RX7 281 yX5_init, Cond.instanceMethod yX5_init]
def wsL_law_r18 : List Cond := [Cond.code yX5_init cX5_init 4 none, Cond.methodLink RX5 1 objectInit, Cond.fieldLink RX5 7 "CoreShed$Place" "sort" "I", Cond.fieldLink RX5 13 "CoreShed$Place" "about" "I", Cond.fieldLink RX5 16 "CoreShed$Place" "off" "I", Cond.methodLink RL 77 yX8_put, Cond.instanceMethod yX8_put, Cond.selects RX8 yX8_put yX8_put, Cond.code yX8_put cX8_put 3 (some .int), Cond.methodLink RX8 136 yX8_isBatch, Cond.instanceMethod yX8_isBatch, Cond.selects RX8 yX8_isBatch yX8_isBatch, Cond.code yX8_isBatch cX8_isBatch 2 (some .boolean), Cond.methodLink RX8 145 yX8_hasResults, Cond.instanceMethod yX8_hasResults, Cond.selects RX8 yX8_hasResults yX8_hasResults, Cond.code yX8_hasResults cX8_hasResults 4 (some .boolean), Cond.methodLink RX8 148 yX8_placeOf, Cond.instanceMethod yX8_placeOf, Cond.selects RX8 yX8_placeOf yX8_placeOf, Cond.code yX8_placeOf cX8_placeOf 4 (some .int), Cond.methodLink RX8 151 yX8_add, Cond.instanceMethod yX8_add, Cond.selects RX8 yX8_add yX8_add]
def wsL_law_r19 : List Cond := [Cond.code yX8_add cX8_add 6 (some .int), Cond.methodLink RX8 154 yX8_quarter, Cond.instanceMethod yX8_quarter, Cond.selects RX8 yX8_quarter yX8_quarter, Cond.code yX8_quarter cX8_quarter 3 (some .int), Cond.fieldLink RX8 142 "CoreShedModel" "taken" "I", Cond.methodLink RL 78 yX7_standard, Cond.instanceMethod yX7_standard, Cond.selects RX7 yX7_standard yX7_standard, Cond.code yX7_standard cX7_standard 5 (some .int), Cond.methodLink RL 81 yX8_standard, Cond.instanceMethod yX8_standard, Cond.selects RX8 yX8_standard yX8_standard, Cond.code yX8_standard cX8_standard 4 (some .int), Cond.constantLong RX8 157 (10000), Cond.methodLink RL 82 yX7_blank, Cond.instanceMethod yX7_blank, Cond.selects RX7 yX7_blank yX7_blank, Cond.code yX7_blank cX7_blank 3 (some .int), Cond.methodLink RL 85 yX8_blank, Cond.instanceMethod yX8_blank, Cond.selects RX8 yX8_blank yX8_blank, Cond.code yX8_blank cX8_blank 2 (some .int), Cond.methodLink RL 86 yX7_twice]
def wsL_law_r20 : List Cond := [Cond.instanceMethod yX7_twice, Cond.selects RX7 yX7_twice yX7_twice, Cond.code yX7_twice cX7_twice 6 (some .int), Cond.fieldLink RX7 187 "CoreShed$Place" "sort" "I", Cond.fieldLink RX7 192 "CoreShed$Place" "about" "I", Cond.methodLink RX7 183 yX7_placeNamed, Cond.instanceMethod yX7_placeNamed, Cond.selects RX7 yX7_placeNamed yX7_placeNamed, Cond.code yX7_placeNamed cX7_placeNamed 4 (some (.object "CoreShed$Place")), Cond.methodLink RL 89 yX8_twice, Cond.instanceMethod yX8_twice, Cond.selects RX8 yX8_twice yX8_twice, Cond.code yX8_twice cX8_twice 4 (some .int), Cond.methodLink RX8 159 yX8_isPlace, Cond.instanceMethod yX8_isPlace, Cond.selects RX8 yX8_isPlace yX8_isPlace, Cond.code yX8_isPlace cX8_isPlace 3 (some .boolean), Cond.methodLink RL 90 yX7_law, Cond.instanceMethod yX7_law, Cond.selects RX7 yX7_law yX7_law, Cond.code yX7_law cX7_law 4 (some .int), Cond.methodLink RL 93 yX8_law, Cond.instanceMethod yX8_law, Cond.selects RX8 yX8_law yX8_law]
def wsL_law_r21 : List Cond := [Cond.code yX8_law cX8_law 4 (some .int), Cond.methodLink RL 94 yX7_result, Cond.instanceMethod yX7_result, Cond.selects RX7 yX7_result yX7_result, Cond.code yX7_result cX7_result 5 (some .int), Cond.fieldLink RX7 195 "CoreShed$Place" "hasResult" "Z", Cond.fieldLink RX7 199 "CoreShed$Place" "result" "I", Cond.methodLink RL 97 yX8_result, Cond.instanceMethod yX8_result, Cond.selects RX8 yX8_result yX8_result, Cond.code yX8_result cX8_result 4 (some .int), Cond.constantLong RX8 163 (-1000), Cond.methodLink RL 98 yX7_sound, Cond.instanceMethod yX7_sound, Cond.selects RX7 yX7_sound yX7_sound, Cond.code yX7_sound cX7_sound 3 (some .int), Cond.methodLink RX7 202 yX0_isComplete, Cond.instanceMethod yX0_isComplete, Cond.selects RX0 yX0_isComplete yX0_isComplete, Cond.code yX0_isComplete cX0_isComplete 2 (some .boolean), Cond.methodLink RX7 205 yX0_isSound, Cond.instanceMethod yX0_isSound, Cond.selects RX0 yX0_isSound yX0_isSound, Cond.code yX0_isSound cX0_isSound 3 (some .boolean)]
def wsL_law_r22 : List Cond := [Cond.methodLink RX0 31 yX0_isComplete, Cond.methodLink RX0 35 yX0_firstFault, Cond.instanceMethod yX0_firstFault, Cond.selects RX0 yX0_firstFault yX0_firstFault, Cond.code yX0_firstFault cX0_firstFault 4 (some .int), Cond.methodLink RX0 39 yX0_isRight, Cond.instanceMethod yX0_isRight, Cond.selects RX0 yX0_isRight yX0_isRight, Cond.code yX0_isRight cX0_isRight 4 (some .boolean), Cond.methodLink RX0 47 Lib.Math.abs.name, Cond.static Lib.Math.abs.name, Cond.code Lib.Math.abs.name Lib.Math.abs.code 1 (some .int), Cond.fieldLink RX0 53 "CoreShed$Place" "off" "I", Cond.methodLink RX0 43 yX5_lower, Cond.instanceMethod yX5_lower, Cond.selects RX5 yX5_lower yX5_lower, Cond.code yX5_lower cX5_lower 1 (some .int), Cond.fieldLink RX5 19 "CoreShed$Place" "result" "I", Cond.methodLink RX5 22 Lib.Math.max.name, Cond.methodLink RX0 56 yX5_upper, Cond.instanceMethod yX5_upper, Cond.selects RX5 yX5_upper yX5_upper, Cond.code yX5_upper cX5_upper 1 (some .int), Cond.methodLink RX0 59 yX0_isNear]
def wsL_law_r23 : List Cond := [Cond.static yX0_isNear, Cond.code yX0_isNear cX0_isNear 3 (some .boolean), Cond.methodLink RX0 63 Lib.Math.max.name, Cond.methodLink RL 101 yX8_sound, Cond.instanceMethod yX8_sound, Cond.selects RX8 yX8_sound yX8_sound, Cond.code yX8_sound cX8_sound 2 (some .int), Cond.methodLink RX8 177 yX8_isTold, Cond.instanceMethod yX8_isTold, Cond.selects RX8 yX8_isTold yX8_isTold, Cond.code yX8_isTold cX8_isTold 4 (some .boolean), Cond.methodLink RX8 183 yX8_isSound, Cond.instanceMethod yX8_isSound, Cond.selects RX8 yX8_isSound yX8_isSound, Cond.code yX8_isSound cX8_isSound 2 (some .boolean), Cond.methodLink RX8 180 yX8_faultOf, Cond.instanceMethod yX8_faultOf, Cond.selects RX8 yX8_faultOf yX8_faultOf, Cond.code yX8_faultOf cX8_faultOf 3 (some .int), Cond.methodLink RX8 174 yX8_isGood, Cond.instanceMethod yX8_isGood, Cond.selects RX8 yX8_isGood yX8_isGood, Cond.code yX8_isGood cX8_isGood 6 (some .boolean), Cond.methodLink RX8 165 yX8_lower]
def wsL_law_r24 : List Cond := [Cond.instanceMethod yX8_lower, Cond.selects RX8 yX8_lower yX8_lower, Cond.code yX8_lower cX8_lower 2 (some .int), Cond.methodLink RX8 168 yX8_far, Cond.static yX8_far, Cond.code yX8_far cX8_far 2 (some .int), Cond.methodLink RX8 171 yX8_upper, Cond.instanceMethod yX8_upper, Cond.selects RX8 yX8_upper yX8_upper, Cond.code yX8_upper cX8_upper 2 (some .int), Cond.methodLink RL 102 yX7_fault, Cond.instanceMethod yX7_fault, Cond.selects RX7 yX7_fault yX7_fault, Cond.code yX7_fault cX7_fault 3 (some .int), Cond.methodLink RX7 208 yX0_firstFault, Cond.methodLink RL 105 yX8_fault, Cond.instanceMethod yX8_fault, Cond.selects RX8 yX8_fault yX8_fault, Cond.code yX8_fault cX8_fault 2 (some .int), Cond.methodLink RL 106 yX7_swap, Cond.instanceMethod yX7_swap, Cond.selects RX7 yX7_swap yX7_swap, Cond.code yX7_swap cX7_swap 3 (some .int), Cond.methodLink RX7 211 yX0_leastMendingSwap]
def wsL_law_r25 : List Cond := [Cond.instanceMethod yX0_leastMendingSwap, Cond.selects RX0 yX0_leastMendingSwap yX0_leastMendingSwap, Cond.code yX0_leastMendingSwap cX0_leastMendingSwap 5 (some .int), Cond.methodLink RX0 66 yX5_exchangeResult, Cond.instanceMethod yX5_exchangeResult, Cond.selects RX5 yX5_exchangeResult yX5_exchangeResult, Cond.code yX5_exchangeResult cX5_exchangeResult 3 none, Cond.methodLink RX0 70 yX0_isSound, Cond.methodLink RL 109 yX8_swap, Cond.instanceMethod yX8_swap, Cond.selects RX8 yX8_swap yX8_swap, Cond.code yX8_swap cX8_swap 4 (some .int), Cond.methodLink RX8 186 yX8_turn, Cond.instanceMethod yX8_turn, Cond.selects RX8 yX8_turn yX8_turn, Cond.code yX8_turn cX8_turn 4 none, Cond.methodLink RL 110 yX7_exchange, Cond.instanceMethod yX7_exchange, Cond.selects RX7 yX7_exchange yX7_exchange, Cond.code yX7_exchange cX7_exchange 5 (some .int), Cond.methodLink RX7 214 yX5_exchangeResult, Cond.methodLink RL 113 yX8_exchange, Cond.instanceMethod yX8_exchange, Cond.selects RX8 yX8_exchange yX8_exchange]
def wsL_law_r26 : List Cond := [Cond.code yX8_exchange cX8_exchange 3 (some .int), Cond.methodLink RL 114 yX7_about, Cond.instanceMethod yX7_about, Cond.selects RX7 yX7_about yX7_about, Cond.code yX7_about cX7_about 5 (some .int), Cond.methodLink RX7 218 yX5_told, Cond.instanceMethod yX5_told, Cond.selects RX5 yX5_told yX5_told, Cond.code yX5_told cX5_told 2 (some .int), Cond.fieldLink RX5 35 "CoreShed$Place" "hasResult" "Z", Cond.methodLink RL 117 yX8_about, Cond.instanceMethod yX8_about, Cond.selects RX8 yX8_about yX8_about, Cond.code yX8_about cX8_about 4 (some .int), Cond.methodLink RX8 190 yX8_aboutOf, Cond.instanceMethod yX8_aboutOf, Cond.selects RX8 yX8_aboutOf yX8_aboutOf, Cond.code yX8_aboutOf cX8_aboutOf 3 (some .int), Cond.methodLink RL 118 yX7_grade, Cond.instanceMethod yX7_grade, Cond.selects RX7 yX7_grade yX7_grade, Cond.code yX7_grade cX7_grade 4 (some .int), Cond.methodLink RX7 221 yX7_gradingPlace, Cond.instanceMethod yX7_gradingPlace]
def wsL_law_r27 : List Cond := [Cond.selects RX7 yX7_gradingPlace yX7_gradingPlace, Cond.code yX7_gradingPlace cX7_gradingPlace 4 (some (.object "CoreShed$Place")), Cond.methodLink RX7 224 yX5_endOn, Cond.instanceMethod yX5_endOn, Cond.selects RX5 yX5_endOn yX5_endOn, Cond.code yX5_endOn cX5_endOn 2 (some .int), Cond.methodLink RX5 28 yX5_lower, Cond.methodLink RX5 32 yX5_upper, Cond.methodLink RL 121 yX8_grade, Cond.instanceMethod yX8_grade, Cond.selects RX8 yX8_grade yX8_grade, Cond.code yX8_grade cX8_grade 4 (some .int), Cond.methodLink RX8 193 yX8_gradeAt, Cond.instanceMethod yX8_gradeAt, Cond.selects RX8 yX8_gradeAt yX8_gradeAt, Cond.code yX8_gradeAt cX8_gradeAt 4 (some .int), Cond.methodLink RL 122 yX7_composite, Cond.instanceMethod yX7_composite, Cond.selects RX7 yX7_composite yX7_composite, Cond.code yX7_composite cX7_composite 12 (some .long), Cond.constantLong RX7 227 (-101), Cond.constantLong RX7 229 (-102), Cond.methodLink RL 126 yX8_composite, Cond.instanceMethod yX8_composite]
def wsL_law_r28 : List Cond := [Cond.selects RX8 yX8_composite yX8_composite, Cond.code yX8_composite cX8_composite 13 (some .long), Cond.constantLong RX8 196 (-101), Cond.constantLong RX8 198 (2), Cond.constantLong RX8 200 (-102), Cond.methodLink RL 127 yX7_cost, Cond.instanceMethod yX7_cost, Cond.selects RX7 yX7_cost yX7_cost, Cond.code yX7_cost cX7_cost 5 (some .int), Cond.fieldLink RX7 244 "CoreShed$Matching" "least" "[[I", Cond.methodLink RX7 240 yX3_weigh, Cond.instanceMethod yX3_weigh, Cond.selects RX3 yX3_weigh yX3_weigh, Cond.code yX3_weigh cX3_weigh 6 none, Cond.fieldLink RX3 16 "CoreShed$Log" "size" "I", Cond.methodLink RX3 22 yX3_leastFrom, Cond.instanceMethod yX3_leastFrom, Cond.selects RX3 yX3_leastFrom yX3_leastFrom, Cond.code yX3_leastFrom cX3_leastFrom 7 (some .int), Cond.methodLink RX3 37 Lib.Math.min.name, Cond.methodLink RX3 26 yX2_bottom, Cond.methodLink RX3 30 yX2_top, Cond.methodLink RX3 34 yX2_thickness, Cond.instanceMethod yX2_thickness]
def wsL_law_r29 : List Cond := [Cond.selects RX2 yX2_thickness yX2_thickness, Cond.code yX2_thickness cX2_thickness 2 (some .int), Cond.methodLink RX3 43 yX3_isAlike, Cond.static yX3_isAlike, Cond.code yX3_isAlike cX3_isAlike 5 (some .boolean), Cond.fieldLink RX3 51 "CoreShed$Log" "codes" "[I", Cond.methodLink RX3 47 yX3_pairedSum, Cond.instanceMethod yX3_pairedSum, Cond.selects RX3 yX3_pairedSum yX3_pairedSum, Cond.code yX3_pairedSum cX3_pairedSum 5 (some .int), Cond.methodLink RX3 55 Lib.Math.abs.name, Cond.methodLink RL 130 yX8_cost, Cond.instanceMethod yX8_cost, Cond.selects RX8 yX8_cost yX8_cost, Cond.code yX8_cost cX8_cost 3 (some .int), Cond.methodLink RX8 213 yX8_match, Cond.instanceMethod yX8_match, Cond.selects RX8 yX8_match yX8_match, Cond.code yX8_match cX8_match 9 none, Cond.constant RX8 205 (1000000), Cond.methodLink RX8 202 yX8_thick, Cond.instanceMethod yX8_thick, Cond.selects RX8 yX8_thick yX8_thick, Cond.code yX8_thick cX8_thick 3 (some .int)]
def wsL_law_r30 : List Cond := [Cond.methodLink RX8 206 yX8_mayGo, Cond.instanceMethod yX8_mayGo, Cond.selects RX8 yX8_mayGo yX8_mayGo, Cond.code yX8_mayGo cX8_mayGo 5 (some .boolean), Cond.methodLink RX8 210 yX8_pairCost, Cond.instanceMethod yX8_pairCost, Cond.selects RX8 yX8_pairCost yX8_pairCost, Cond.code yX8_pairCost cX8_pairCost 5 (some .int), Cond.methodLink RL 131 yX7_matched, Cond.instanceMethod yX7_matched, Cond.selects RX7 yX7_matched yX7_matched, Cond.code yX7_matched cX7_matched 6 (some .int), Cond.methodLink RX7 248 yX3_partnerOf, Cond.instanceMethod yX3_partnerOf, Cond.selects RX3 yX3_partnerOf yX3_partnerOf, Cond.code yX3_partnerOf cX3_partnerOf 8 (some .int), Cond.methodLink RX3 58 yX3_leastPartner, Cond.instanceMethod yX3_leastPartner, Cond.selects RX3 yX3_leastPartner yX3_leastPartner, Cond.code yX3_leastPartner cX3_leastPartner 8 (some .int), Cond.methodLink RL 134 yX8_matched, Cond.instanceMethod yX8_matched, Cond.selects RX8 yX8_matched yX8_matched, Cond.code yX8_matched cX8_matched 10 (some .int)]
def wsL_law_r31 : List Cond := [Cond.methodLink RL 135 yX7_count, Cond.instanceMethod yX7_count, Cond.selects RX7 yX7_count yX7_count, Cond.code yX7_count cX7_count 2 (some .int), Cond.methodLink RX7 252 yX7_quartersTaken, Cond.instanceMethod yX7_quartersTaken, Cond.selects RX7 yX7_quartersTaken yX7_quartersTaken, Cond.code yX7_quartersTaken cX7_quartersTaken 3 (some .int), Cond.methodLink RX7 255 yX7_soundBatches, Cond.instanceMethod yX7_soundBatches, Cond.selects RX7 yX7_soundBatches yX7_soundBatches, Cond.code yX7_soundBatches cX7_soundBatches 3 (some .int), Cond.methodLink RL 138 yX8_count, Cond.instanceMethod yX8_count, Cond.selects RX8 yX8_count yX8_count, Cond.code yX8_count cX8_count 4 (some .int), Cond.methodLink RL 139 yX7_digest, Cond.instanceMethod yX7_digest, Cond.selects RX7 yX7_digest yX7_digest, Cond.code yX7_digest cX7_digest 4 (some .long), Cond.constantLong RX7 258 (173), Cond.methodLink RX7 260 yX1_digestOnto, Cond.instanceMethod yX1_digestOnto, Cond.selects RX1 yX1_digestOnto yX1_digestOnto]
def wsL_law_r32 : List Cond := [Cond.code yX1_digestOnto cX1_digestOnto 6 (some .long), Cond.fieldLink RX1 49 "CoreShed$Hole" "markCount" "I", Cond.static yX7_mixed, Cond.code yX7_mixed cX7_mixed 4 (some .long), Cond.constantLong RX7 285 (31), Cond.methodLink RX1 52 yX2_digestOnto, Cond.instanceMethod yX2_digestOnto, Cond.selects RX2 yX2_digestOnto yX2_digestOnto, Cond.code yX2_digestOnto cX2_digestOnto 6 (some .long), Cond.methodLink RX7 264 yX7_mixed, Cond.methodLink RX7 268 yX6_digestOnto, Cond.instanceMethod yX6_digestOnto, Cond.selects RX6 yX6_digestOnto yX6_digestOnto, Cond.code yX6_digestOnto cX6_digestOnto 3 (some .long), Cond.methodLink RX7 269 yX0_digestOnto, Cond.instanceMethod yX0_digestOnto, Cond.selects RX0 yX0_digestOnto yX0_digestOnto, Cond.code yX0_digestOnto cX0_digestOnto 7 (some .long), Cond.methodLink RX0 74 yX5_told, Cond.methodLink RL 143 yX8_digest, Cond.instanceMethod yX8_digest, Cond.selects RX8 yX8_digest yX8_digest, Cond.code yX8_digest cX8_digest 6 (some .long), Cond.constantLong RX8 216 (173)]
def wsL_law_r33 : List Cond := [Cond.constantLong RX8 218 (31)]
def wsL_law : List Cond := (wsL_law_r1 ++ (wsL_law_r2 ++ (wsL_law_r3 ++ (wsL_law_r4 ++ (wsL_law_r5 ++ (wsL_law_r6 ++ (wsL_law_r7 ++ (wsL_law_r8 ++ (wsL_law_r9 ++ (wsL_law_r10 ++ (wsL_law_r11 ++ (wsL_law_r12 ++ (wsL_law_r13 ++ (wsL_law_r14 ++ (wsL_law_r15 ++ (wsL_law_r16 ++ (wsL_law_r17 ++ (wsL_law_r18 ++ (wsL_law_r19 ++ (wsL_law_r20 ++ (wsL_law_r21 ++ (wsL_law_r22 ++ (wsL_law_r23 ++ (wsL_law_r24 ++ (wsL_law_r25 ++ (wsL_law_r26 ++ (wsL_law_r27 ++ (wsL_law_r28 ++ (wsL_law_r29 ++ (wsL_law_r30 ++ (wsL_law_r31 ++ (wsL_law_r32 ++ wsL_law_r33)))))))))))))))))))))))))))))))) ++ wsX70 ++ wsX80 ++ wsX40 ++ wsX30 ++ wsX10 ++ wsX20 ++ wsX60 ++ wsX00 ++ wsX50 ++ ([] : List Cond)
end
section
theorem dX0_init_0 : decode cX0_init 0 = .ok (.aload_n 0, 1) := by decide +kernel
theorem dX0_init_1 : decode cX0_init 1 = .ok (.invokespecial 3, 3) := by decide +kernel
theorem dX0_init_4 : decode cX0_init 4 = .ok (.aload_n 0, 1) := by decide +kernel
theorem dX0_init_5 : decode cX0_init 5 = .ok (.bipush 16, 2) := by decide +kernel
theorem dX0_init_7 : decode cX0_init 7 = .ok (.anewarray 9, 3) := by decide +kernel
theorem dX0_init_10 : decode cX0_init 10 = .ok (.putfield 11, 3) := by decide +kernel
theorem dX0_init_13 : decode cX0_init 13 = .ok (.return_, 1) := by decide +kernel
theorem dX0_placeOf_0 : decode cX0_placeOf 0 = .ok (.iconst 0, 1) := by decide +kernel
theorem dX0_placeOf_1 : decode cX0_placeOf 1 = .ok (.istore_n 2, 1) := by decide +kernel
theorem dX0_placeOf_2 : decode cX0_placeOf 2 = .ok (.iload_n 2, 1) := by decide +kernel
theorem dX0_placeOf_3 : decode cX0_placeOf 3 = .ok (.aload_n 0, 1) := by decide +kernel
theorem dX0_placeOf_4 : decode cX0_placeOf 4 = .ok (.getfield 17, 3) := by decide +kernel
theorem dX0_placeOf_7 : decode cX0_placeOf 7 = .ok (.if_icmp .ge 41, 3) := by decide +kernel
theorem dX0_placeOf_10 : decode cX0_placeOf 10 = .ok (.aload_n 0, 1) := by decide +kernel
theorem dX0_placeOf_11 : decode cX0_placeOf 11 = .ok (.getfield 11, 3) := by decide +kernel
theorem dX0_placeOf_14 : decode cX0_placeOf 14 = .ok (.iload_n 2, 1) := by decide +kernel
theorem dX0_placeOf_15 : decode cX0_placeOf 15 = .ok (.aaload, 1) := by decide +kernel
theorem dX0_placeOf_16 : decode cX0_placeOf 16 = .ok (.getfield 21, 3) := by decide +kernel
theorem dX0_placeOf_19 : decode cX0_placeOf 19 = .ok (.ifCond .ne 23, 3) := by decide +kernel
theorem dX0_placeOf_22 : decode cX0_placeOf 22 = .ok (.aload_n 0, 1) := by decide +kernel
theorem dX0_placeOf_23 : decode cX0_placeOf 23 = .ok (.getfield 11, 3) := by decide +kernel
theorem dX0_placeOf_26 : decode cX0_placeOf 26 = .ok (.iload_n 2, 1) := by decide +kernel
theorem dX0_placeOf_27 : decode cX0_placeOf 27 = .ok (.aaload, 1) := by decide +kernel
theorem dX0_placeOf_28 : decode cX0_placeOf 28 = .ok (.getfield 24, 3) := by decide +kernel
theorem dX0_placeOf_31 : decode cX0_placeOf 31 = .ok (.iload_n 1, 1) := by decide +kernel
theorem dX0_placeOf_32 : decode cX0_placeOf 32 = .ok (.if_icmp .ne 10, 3) := by decide +kernel
theorem dX0_placeOf_35 : decode cX0_placeOf 35 = .ok (.aload_n 0, 1) := by decide +kernel
theorem dX0_placeOf_36 : decode cX0_placeOf 36 = .ok (.getfield 11, 3) := by decide +kernel
theorem dX0_placeOf_39 : decode cX0_placeOf 39 = .ok (.iload_n 2, 1) := by decide +kernel
theorem dX0_placeOf_40 : decode cX0_placeOf 40 = .ok (.aaload, 1) := by decide +kernel
theorem dX0_placeOf_41 : decode cX0_placeOf 41 = .ok (.areturn, 1) := by decide +kernel
theorem dX0_placeOf_42 : decode cX0_placeOf 42 = .ok (.iinc 2 1, 3) := by decide +kernel
theorem dX0_placeOf_45 : decode cX0_placeOf 45 = .ok (.goto (-43), 3) := by decide +kernel
theorem dX0_placeOf_48 : decode cX0_placeOf 48 = .ok (.aconst_null, 1) := by decide +kernel
theorem dX0_placeOf_49 : decode cX0_placeOf 49 = .ok (.areturn, 1) := by decide +kernel
theorem dX0_hasAnyResult_0 : decode cX0_hasAnyResult 0 = .ok (.iconst 0, 1) := by decide +kernel
theorem dX0_hasAnyResult_1 : decode cX0_hasAnyResult 1 = .ok (.istore_n 1, 1) := by decide +kernel
theorem dX0_hasAnyResult_2 : decode cX0_hasAnyResult 2 = .ok (.iload_n 1, 1) := by decide +kernel
theorem dX0_hasAnyResult_3 : decode cX0_hasAnyResult 3 = .ok (.aload_n 0, 1) := by decide +kernel
theorem dX0_hasAnyResult_4 : decode cX0_hasAnyResult 4 = .ok (.getfield 17, 3) := by decide +kernel
theorem dX0_hasAnyResult_7 : decode cX0_hasAnyResult 7 = .ok (.if_icmp .ge 23, 3) := by decide +kernel
theorem dX0_hasAnyResult_10 : decode cX0_hasAnyResult 10 = .ok (.aload_n 0, 1) := by decide +kernel
theorem dX0_hasAnyResult_11 : decode cX0_hasAnyResult 11 = .ok (.getfield 11, 3) := by decide +kernel
theorem dX0_hasAnyResult_14 : decode cX0_hasAnyResult 14 = .ok (.iload_n 1, 1) := by decide +kernel
theorem dX0_hasAnyResult_15 : decode cX0_hasAnyResult 15 = .ok (.aaload, 1) := by decide +kernel
theorem dX0_hasAnyResult_16 : decode cX0_hasAnyResult 16 = .ok (.getfield 27, 3) := by decide +kernel
theorem dX0_hasAnyResult_19 : decode cX0_hasAnyResult 19 = .ok (.ifCond .eq 5, 3) := by decide +kernel
theorem dX0_hasAnyResult_22 : decode cX0_hasAnyResult 22 = .ok (.iconst 1, 1) := by decide +kernel
theorem dX0_hasAnyResult_23 : decode cX0_hasAnyResult 23 = .ok (.ireturn, 1) := by decide +kernel
theorem dX0_hasAnyResult_24 : decode cX0_hasAnyResult 24 = .ok (.iinc 1 1, 3) := by decide +kernel
theorem dX0_hasAnyResult_27 : decode cX0_hasAnyResult 27 = .ok (.goto (-25), 3) := by decide +kernel
theorem dX0_hasAnyResult_30 : decode cX0_hasAnyResult 30 = .ok (.iconst 0, 1) := by decide +kernel
theorem dX0_hasAnyResult_31 : decode cX0_hasAnyResult 31 = .ok (.ireturn, 1) := by decide +kernel
theorem dX0_isComplete_0 : decode cX0_isComplete 0 = .ok (.iconst 0, 1) := by decide +kernel
theorem dX0_isComplete_1 : decode cX0_isComplete 1 = .ok (.istore_n 1, 1) := by decide +kernel
theorem dX0_isComplete_2 : decode cX0_isComplete 2 = .ok (.iload_n 1, 1) := by decide +kernel
theorem dX0_isComplete_3 : decode cX0_isComplete 3 = .ok (.aload_n 0, 1) := by decide +kernel
theorem dX0_isComplete_4 : decode cX0_isComplete 4 = .ok (.getfield 17, 3) := by decide +kernel
theorem dX0_isComplete_7 : decode cX0_isComplete 7 = .ok (.if_icmp .ge 23, 3) := by decide +kernel
theorem dX0_isComplete_10 : decode cX0_isComplete 10 = .ok (.aload_n 0, 1) := by decide +kernel
theorem dX0_isComplete_11 : decode cX0_isComplete 11 = .ok (.getfield 11, 3) := by decide +kernel
theorem dX0_isComplete_14 : decode cX0_isComplete 14 = .ok (.iload_n 1, 1) := by decide +kernel
theorem dX0_isComplete_15 : decode cX0_isComplete 15 = .ok (.aaload, 1) := by decide +kernel
theorem dX0_isComplete_16 : decode cX0_isComplete 16 = .ok (.getfield 27, 3) := by decide +kernel
theorem dX0_isComplete_19 : decode cX0_isComplete 19 = .ok (.ifCond .ne 5, 3) := by decide +kernel
theorem dX0_isComplete_22 : decode cX0_isComplete 22 = .ok (.iconst 0, 1) := by decide +kernel
theorem dX0_isComplete_23 : decode cX0_isComplete 23 = .ok (.ireturn, 1) := by decide +kernel
theorem dX0_isComplete_24 : decode cX0_isComplete 24 = .ok (.iinc 1 1, 3) := by decide +kernel
theorem dX0_isComplete_27 : decode cX0_isComplete 27 = .ok (.goto (-25), 3) := by decide +kernel
theorem dX0_isComplete_30 : decode cX0_isComplete 30 = .ok (.aload_n 0, 1) := by decide +kernel
theorem dX0_isComplete_31 : decode cX0_isComplete 31 = .ok (.getfield 17, 3) := by decide +kernel
theorem dX0_isComplete_34 : decode cX0_isComplete 34 = .ok (.ifCond .le 7, 3) := by decide +kernel
theorem dX0_isComplete_37 : decode cX0_isComplete 37 = .ok (.iconst 1, 1) := by decide +kernel
theorem dX0_isComplete_38 : decode cX0_isComplete 38 = .ok (.goto 4, 3) := by decide +kernel
theorem dX0_isComplete_41 : decode cX0_isComplete 41 = .ok (.iconst 0, 1) := by decide +kernel
theorem dX0_isComplete_42 : decode cX0_isComplete 42 = .ok (.ireturn, 1) := by decide +kernel
set_option maxRecDepth 20000 in
theorem ggX0_isSound_X0_isComplete : GoodIn wsX0_isSound wsX0_isComplete := goodIn_r _ [5, 6, 7, 8, 41, 42, 43, 44, 45, 46, 47] (by decide +kernel) (by decide +kernel)
set_option maxRecDepth 20000 in
theorem gX0_isSound_X0_isComplete : GoodIn wsX0_isSound (wsV RX0 31 RX0 yX0_isComplete wsX0_isComplete) := goodIn_app (goodIn_of _ (by decide +kernel)) ggX0_isSound_X0_isComplete
set_option maxRecDepth 20000 in
theorem ggX0_isSound_X0_firstFault : GoodIn wsX0_isSound wsX0_firstFault := goodIn_r _ [12, 6, 7, 13, 14, 15, 4, 16, 17, 18, 19, 20, 21, 22, 23, 24, 25, 26, 27, 28, 29, 30, 31, 32, 33, 34, 35, 36, 37, 38, 39, 40, 41, 42, 43, 44, 45, 46, 47] (by decide +kernel) (by decide +kernel)
set_option maxRecDepth 20000 in
theorem gX0_isSound_X0_firstFault : GoodIn wsX0_isSound (wsV RX0 35 RX0 yX0_firstFault wsX0_firstFault) := goodIn_app (goodIn_of _ (by decide +kernel)) ggX0_isSound_X0_firstFault
theorem dX0_isSound_0 : decode cX0_isSound 0 = .ok (.aload_n 0, 1) := by decide +kernel
theorem dX0_isSound_1 : decode cX0_isSound 1 = .ok (.invokevirtual 31, 3) := by decide +kernel
theorem dX0_isSound_4 : decode cX0_isSound 4 = .ok (.ifCond .eq 17, 3) := by decide +kernel
theorem dX0_isSound_7 : decode cX0_isSound 7 = .ok (.aload_n 0, 1) := by decide +kernel
theorem dX0_isSound_8 : decode cX0_isSound 8 = .ok (.iload_n 1, 1) := by decide +kernel
theorem dX0_isSound_9 : decode cX0_isSound 9 = .ok (.iload_n 2, 1) := by decide +kernel
theorem dX0_isSound_10 : decode cX0_isSound 10 = .ok (.invokevirtual 35, 3) := by decide +kernel
theorem dX0_isSound_13 : decode cX0_isSound 13 = .ok (.iconst (-1), 1) := by decide +kernel
theorem dX0_isSound_14 : decode cX0_isSound 14 = .ok (.if_icmp .ne 7, 3) := by decide +kernel
theorem dX0_isSound_17 : decode cX0_isSound 17 = .ok (.iconst 1, 1) := by decide +kernel
theorem dX0_isSound_18 : decode cX0_isSound 18 = .ok (.goto 4, 3) := by decide +kernel
theorem dX0_isSound_21 : decode cX0_isSound 21 = .ok (.iconst 0, 1) := by decide +kernel
theorem dX0_isSound_22 : decode cX0_isSound 22 = .ok (.ireturn, 1) := by decide +kernel
set_option maxRecDepth 20000 in
theorem ggX0_firstFault_X0_isRight : GoodIn wsX0_firstFault wsX0_isRight := goodIn_r _ [7, 8, 9, 10, 11, 12, 13, 14, 2, 15, 16, 17, 18, 19, 20, 21, 22, 23, 24, 25, 26, 27, 28, 29, 6, 30, 31, 34, 35, 36, 37, 38, 32, 33] (by decide +kernel) (by decide +kernel)
set_option maxRecDepth 20000 in
theorem gX0_firstFault_X0_isRight : GoodIn wsX0_firstFault (wsV RX0 39 RX0 yX0_isRight wsX0_isRight) := goodIn_app (goodIn_of _ (by decide +kernel)) ggX0_firstFault_X0_isRight
theorem dX0_firstFault_0 : decode cX0_firstFault 0 = .ok (.iconst 0, 1) := by decide +kernel
theorem dX0_firstFault_1 : decode cX0_firstFault 1 = .ok (.istore_n 3, 1) := by decide +kernel
theorem dX0_firstFault_2 : decode cX0_firstFault 2 = .ok (.iload_n 3, 1) := by decide +kernel
theorem dX0_firstFault_3 : decode cX0_firstFault 3 = .ok (.aload_n 0, 1) := by decide +kernel
theorem dX0_firstFault_4 : decode cX0_firstFault 4 = .ok (.getfield 17, 3) := by decide +kernel
theorem dX0_firstFault_7 : decode cX0_firstFault 7 = .ok (.if_icmp .ge 26, 3) := by decide +kernel
theorem dX0_firstFault_10 : decode cX0_firstFault 10 = .ok (.aload_n 0, 1) := by decide +kernel
theorem dX0_firstFault_11 : decode cX0_firstFault 11 = .ok (.aload_n 0, 1) := by decide +kernel
theorem dX0_firstFault_12 : decode cX0_firstFault 12 = .ok (.getfield 11, 3) := by decide +kernel
theorem dX0_firstFault_15 : decode cX0_firstFault 15 = .ok (.iload_n 3, 1) := by decide +kernel
theorem dX0_firstFault_16 : decode cX0_firstFault 16 = .ok (.aaload, 1) := by decide +kernel
theorem dX0_firstFault_17 : decode cX0_firstFault 17 = .ok (.iload_n 1, 1) := by decide +kernel
theorem dX0_firstFault_18 : decode cX0_firstFault 18 = .ok (.iload_n 2, 1) := by decide +kernel
theorem dX0_firstFault_19 : decode cX0_firstFault 19 = .ok (.invokevirtual 39, 3) := by decide +kernel
theorem dX0_firstFault_22 : decode cX0_firstFault 22 = .ok (.ifCond .ne 5, 3) := by decide +kernel
theorem dX0_firstFault_25 : decode cX0_firstFault 25 = .ok (.iload_n 3, 1) := by decide +kernel
theorem dX0_firstFault_26 : decode cX0_firstFault 26 = .ok (.ireturn, 1) := by decide +kernel
theorem dX0_firstFault_27 : decode cX0_firstFault 27 = .ok (.iinc 3 1, 3) := by decide +kernel
theorem dX0_firstFault_30 : decode cX0_firstFault 30 = .ok (.goto (-28), 3) := by decide +kernel
theorem dX0_firstFault_33 : decode cX0_firstFault 33 = .ok (.iconst (-1), 1) := by decide +kernel
theorem dX0_firstFault_34 : decode cX0_firstFault 34 = .ok (.ireturn, 1) := by decide +kernel
set_option maxRecDepth 20000 in
theorem ggX0_isRight_X5_lower : GoodIn wsX0_isRight wsX5_lower := goodIn_r _ [13, 14, 15, 16, 5, 17, 27, 28, 29, 30, 31] (by decide +kernel) (by decide +kernel)
set_option maxRecDepth 20000 in
theorem gX0_isRight_X5_lower : GoodIn wsX0_isRight (wsV RX0 43 RX5 yX5_lower wsX5_lower) := goodIn_app (goodIn_of _ (by decide +kernel)) ggX0_isRight_X5_lower
set_option maxRecDepth 20000 in
theorem ggX0_isRight_X5_upper : GoodIn wsX0_isRight wsX5_upper := goodIn_r _ [21, 14, 27, 28, 29, 30, 31] (by decide +kernel) (by decide +kernel)
set_option maxRecDepth 20000 in
theorem gX0_isRight_X5_upper : GoodIn wsX0_isRight (wsV RX0 56 RX5 yX5_upper wsX5_upper) := goodIn_app (goodIn_of _ (by decide +kernel)) ggX0_isRight_X5_upper
set_option maxRecDepth 20000 in
theorem ggX0_isRight_X0_isNear : GoodIn wsX0_isRight wsX0_isNear := goodIn_r _ [25, 3, 4, 5, 6, 26, 16, 17] (by decide +kernel) (by decide +kernel)
set_option maxRecDepth 20000 in
theorem gX0_isRight_X0_isNear : GoodIn wsX0_isRight (va_wsS RX0 59 yX0_isNear wsX0_isNear) := goodIn_app (goodIn_of _ (by decide +kernel)) ggX0_isRight_X0_isNear
theorem dX0_isRight_0 : decode cX0_isRight 0 = .ok (.aload_n 1, 1) := by decide +kernel
theorem dX0_isRight_1 : decode cX0_isRight 1 = .ok (.getfield 21, 3) := by decide +kernel
theorem dX0_isRight_4 : decode cX0_isRight 4 = .ok (.tableswitch 107 1 3 #[28, 72, 86], 28) := by decide +kernel
theorem dX0_isRight_32 : decode cX0_isRight 32 = .ok (.aload_n 1, 1) := by decide +kernel
theorem dX0_isRight_33 : decode cX0_isRight 33 = .ok (.invokevirtual 43, 3) := by decide +kernel
theorem dX0_isRight_36 : decode cX0_isRight 36 = .ok (.aload_n 1, 1) := by decide +kernel
theorem dX0_isRight_37 : decode cX0_isRight 37 = .ok (.getfield 24, 3) := by decide +kernel
theorem dX0_isRight_40 : decode cX0_isRight 40 = .ok (.isub, 1) := by decide +kernel
theorem dX0_isRight_41 : decode cX0_isRight 41 = .ok (.invokestatic 47, 3) := by decide +kernel
theorem dX0_isRight_44 : decode cX0_isRight 44 = .ok (.aload_n 1, 1) := by decide +kernel
theorem dX0_isRight_45 : decode cX0_isRight 45 = .ok (.getfield 53, 3) := by decide +kernel
theorem dX0_isRight_48 : decode cX0_isRight 48 = .ok (.if_icmp .gt 26, 3) := by decide +kernel
theorem dX0_isRight_51 : decode cX0_isRight 51 = .ok (.aload_n 1, 1) := by decide +kernel
theorem dX0_isRight_52 : decode cX0_isRight 52 = .ok (.invokevirtual 56, 3) := by decide +kernel
theorem dX0_isRight_55 : decode cX0_isRight 55 = .ok (.aload_n 1, 1) := by decide +kernel
theorem dX0_isRight_56 : decode cX0_isRight 56 = .ok (.getfield 24, 3) := by decide +kernel
theorem dX0_isRight_59 : decode cX0_isRight 59 = .ok (.isub, 1) := by decide +kernel
theorem dX0_isRight_60 : decode cX0_isRight 60 = .ok (.invokestatic 47, 3) := by decide +kernel
theorem dX0_isRight_63 : decode cX0_isRight 63 = .ok (.aload_n 1, 1) := by decide +kernel
theorem dX0_isRight_64 : decode cX0_isRight 64 = .ok (.getfield 53, 3) := by decide +kernel
theorem dX0_isRight_67 : decode cX0_isRight 67 = .ok (.if_icmp .gt 7, 3) := by decide +kernel
theorem dX0_isRight_70 : decode cX0_isRight 70 = .ok (.iconst 1, 1) := by decide +kernel
theorem dX0_isRight_71 : decode cX0_isRight 71 = .ok (.goto 4, 3) := by decide +kernel
theorem dX0_isRight_74 : decode cX0_isRight 74 = .ok (.iconst 0, 1) := by decide +kernel
theorem dX0_isRight_75 : decode cX0_isRight 75 = .ok (.ireturn, 1) := by decide +kernel
theorem dX0_isRight_76 : decode cX0_isRight 76 = .ok (.aload_n 1, 1) := by decide +kernel
theorem dX0_isRight_77 : decode cX0_isRight 77 = .ok (.invokevirtual 56, 3) := by decide +kernel
theorem dX0_isRight_80 : decode cX0_isRight 80 = .ok (.iload_n 2, 1) := by decide +kernel
theorem dX0_isRight_81 : decode cX0_isRight 81 = .ok (.if_icmp .gt 7, 3) := by decide +kernel
theorem dX0_isRight_84 : decode cX0_isRight 84 = .ok (.iconst 1, 1) := by decide +kernel
theorem dX0_isRight_85 : decode cX0_isRight 85 = .ok (.goto 4, 3) := by decide +kernel
theorem dX0_isRight_88 : decode cX0_isRight 88 = .ok (.iconst 0, 1) := by decide +kernel
theorem dX0_isRight_89 : decode cX0_isRight 89 = .ok (.ireturn, 1) := by decide +kernel
theorem dX0_isRight_90 : decode cX0_isRight 90 = .ok (.aload_n 1, 1) := by decide +kernel
theorem dX0_isRight_91 : decode cX0_isRight 91 = .ok (.invokevirtual 56, 3) := by decide +kernel
theorem dX0_isRight_94 : decode cX0_isRight 94 = .ok (.aload_n 0, 1) := by decide +kernel
theorem dX0_isRight_95 : decode cX0_isRight 95 = .ok (.getfield 11, 3) := by decide +kernel
theorem dX0_isRight_98 : decode cX0_isRight 98 = .ok (.aload_n 1, 1) := by decide +kernel
theorem dX0_isRight_99 : decode cX0_isRight 99 = .ok (.getfield 24, 3) := by decide +kernel
theorem dX0_isRight_102 : decode cX0_isRight 102 = .ok (.aaload, 1) := by decide +kernel
theorem dX0_isRight_103 : decode cX0_isRight 103 = .ok (.invokevirtual 56, 3) := by decide +kernel
theorem dX0_isRight_106 : decode cX0_isRight 106 = .ok (.iload_n 3, 1) := by decide +kernel
theorem dX0_isRight_107 : decode cX0_isRight 107 = .ok (.invokestatic 59, 3) := by decide +kernel
theorem dX0_isRight_110 : decode cX0_isRight 110 = .ok (.ireturn, 1) := by decide +kernel
theorem dX0_isRight_111 : decode cX0_isRight 111 = .ok (.iconst 1, 1) := by decide +kernel
theorem dX0_isRight_112 : decode cX0_isRight 112 = .ok (.ireturn, 1) := by decide +kernel
theorem dX0_isNear_0 : decode cX0_isNear 0 = .ok (.iload_n 0, 1) := by decide +kernel
theorem dX0_isNear_1 : decode cX0_isNear 1 = .ok (.iload_n 1, 1) := by decide +kernel
theorem dX0_isNear_2 : decode cX0_isNear 2 = .ok (.isub, 1) := by decide +kernel
theorem dX0_isNear_3 : decode cX0_isNear 3 = .ok (.invokestatic 47, 3) := by decide +kernel
theorem dX0_isNear_6 : decode cX0_isNear 6 = .ok (.sipush 1000, 3) := by decide +kernel
theorem dX0_isNear_9 : decode cX0_isNear 9 = .ok (.imul, 1) := by decide +kernel
theorem dX0_isNear_10 : decode cX0_isNear 10 = .ok (.iload_n 2, 1) := by decide +kernel
theorem dX0_isNear_11 : decode cX0_isNear 11 = .ok (.iload_n 0, 1) := by decide +kernel
theorem dX0_isNear_12 : decode cX0_isNear 12 = .ok (.iload_n 1, 1) := by decide +kernel
theorem dX0_isNear_13 : decode cX0_isNear 13 = .ok (.invokestatic 63, 3) := by decide +kernel
theorem dX0_isNear_16 : decode cX0_isNear 16 = .ok (.imul, 1) := by decide +kernel
theorem dX0_isNear_17 : decode cX0_isNear 17 = .ok (.if_icmp .gt 7, 3) := by decide +kernel
theorem dX0_isNear_20 : decode cX0_isNear 20 = .ok (.iconst 1, 1) := by decide +kernel
theorem dX0_isNear_21 : decode cX0_isNear 21 = .ok (.goto 4, 3) := by decide +kernel
theorem dX0_isNear_24 : decode cX0_isNear 24 = .ok (.iconst 0, 1) := by decide +kernel
theorem dX0_isNear_25 : decode cX0_isNear 25 = .ok (.ireturn, 1) := by decide +kernel
set_option maxRecDepth 20000 in
theorem ggX0_leastMendingSwap_X5_exchangeResult : GoodIn wsX0_leastMendingSwap wsX5_exchangeResult := goodIn_r _ [7, 8, 51, 52, 53, 54, 55] (by decide +kernel) (by decide +kernel)
set_option maxRecDepth 20000 in
theorem gX0_leastMendingSwap_X5_exchangeResult : GoodIn wsX0_leastMendingSwap (wsV RX0 66 RX5 yX5_exchangeResult wsX5_exchangeResult) := goodIn_app (goodIn_of _ (by decide +kernel)) ggX0_leastMendingSwap_X5_exchangeResult
set_option maxRecDepth 20000 in
theorem ggX0_leastMendingSwap_X0_isSound : GoodIn wsX0_leastMendingSwap wsX0_isSound := goodIn_r _ [13, 14, 15, 16, 12, 17, 1, 2, 18, 19, 20, 21, 22, 23, 24, 25, 26, 27, 28, 29, 30, 31, 32, 33, 34, 35, 36, 6, 37, 8, 38, 39, 40, 41, 42, 43, 44, 45, 46, 47, 48, 49, 50, 51, 52, 53, 54, 55] (by decide +kernel) (by decide +kernel)
set_option maxRecDepth 20000 in
theorem gX0_leastMendingSwap_X0_isSound : GoodIn wsX0_leastMendingSwap (wsV RX0 70 RX0 yX0_isSound wsX0_isSound) := goodIn_app (goodIn_of _ (by decide +kernel)) ggX0_leastMendingSwap_X0_isSound
theorem dX0_leastMendingSwap_0 : decode cX0_leastMendingSwap 0 = .ok (.iconst 0, 1) := by decide +kernel
theorem dX0_leastMendingSwap_1 : decode cX0_leastMendingSwap 1 = .ok (.istore_n 3, 1) := by decide +kernel
theorem dX0_leastMendingSwap_2 : decode cX0_leastMendingSwap 2 = .ok (.iload_n 3, 1) := by decide +kernel
theorem dX0_leastMendingSwap_3 : decode cX0_leastMendingSwap 3 = .ok (.iconst 1, 1) := by decide +kernel
theorem dX0_leastMendingSwap_4 : decode cX0_leastMendingSwap 4 = .ok (.iadd, 1) := by decide +kernel
theorem dX0_leastMendingSwap_5 : decode cX0_leastMendingSwap 5 = .ok (.aload_n 0, 1) := by decide +kernel
theorem dX0_leastMendingSwap_6 : decode cX0_leastMendingSwap 6 = .ok (.getfield 17, 3) := by decide +kernel
theorem dX0_leastMendingSwap_9 : decode cX0_leastMendingSwap 9 = .ok (.if_icmp .ge 58, 3) := by decide +kernel
theorem dX0_leastMendingSwap_12 : decode cX0_leastMendingSwap 12 = .ok (.aload_n 0, 1) := by decide +kernel
theorem dX0_leastMendingSwap_13 : decode cX0_leastMendingSwap 13 = .ok (.getfield 11, 3) := by decide +kernel
theorem dX0_leastMendingSwap_16 : decode cX0_leastMendingSwap 16 = .ok (.iload_n 3, 1) := by decide +kernel
theorem dX0_leastMendingSwap_17 : decode cX0_leastMendingSwap 17 = .ok (.aaload, 1) := by decide +kernel
theorem dX0_leastMendingSwap_18 : decode cX0_leastMendingSwap 18 = .ok (.aload_n 0, 1) := by decide +kernel
theorem dX0_leastMendingSwap_19 : decode cX0_leastMendingSwap 19 = .ok (.getfield 11, 3) := by decide +kernel
theorem dX0_leastMendingSwap_22 : decode cX0_leastMendingSwap 22 = .ok (.iload_n 3, 1) := by decide +kernel
theorem dX0_leastMendingSwap_23 : decode cX0_leastMendingSwap 23 = .ok (.iconst 1, 1) := by decide +kernel
theorem dX0_leastMendingSwap_24 : decode cX0_leastMendingSwap 24 = .ok (.iadd, 1) := by decide +kernel
theorem dX0_leastMendingSwap_25 : decode cX0_leastMendingSwap 25 = .ok (.aaload, 1) := by decide +kernel
theorem dX0_leastMendingSwap_26 : decode cX0_leastMendingSwap 26 = .ok (.invokevirtual 66, 3) := by decide +kernel
theorem dX0_leastMendingSwap_29 : decode cX0_leastMendingSwap 29 = .ok (.aload_n 0, 1) := by decide +kernel
theorem dX0_leastMendingSwap_30 : decode cX0_leastMendingSwap 30 = .ok (.iload_n 1, 1) := by decide +kernel
theorem dX0_leastMendingSwap_31 : decode cX0_leastMendingSwap 31 = .ok (.iload_n 2, 1) := by decide +kernel
theorem dX0_leastMendingSwap_32 : decode cX0_leastMendingSwap 32 = .ok (.invokevirtual 70, 3) := by decide +kernel
theorem dX0_leastMendingSwap_35 : decode cX0_leastMendingSwap 35 = .ok (.istore 4, 2) := by decide +kernel
theorem dX0_leastMendingSwap_37 : decode cX0_leastMendingSwap 37 = .ok (.aload_n 0, 1) := by decide +kernel
theorem dX0_leastMendingSwap_38 : decode cX0_leastMendingSwap 38 = .ok (.getfield 11, 3) := by decide +kernel
theorem dX0_leastMendingSwap_41 : decode cX0_leastMendingSwap 41 = .ok (.iload_n 3, 1) := by decide +kernel
theorem dX0_leastMendingSwap_42 : decode cX0_leastMendingSwap 42 = .ok (.aaload, 1) := by decide +kernel
theorem dX0_leastMendingSwap_43 : decode cX0_leastMendingSwap 43 = .ok (.aload_n 0, 1) := by decide +kernel
theorem dX0_leastMendingSwap_44 : decode cX0_leastMendingSwap 44 = .ok (.getfield 11, 3) := by decide +kernel
theorem dX0_leastMendingSwap_47 : decode cX0_leastMendingSwap 47 = .ok (.iload_n 3, 1) := by decide +kernel
theorem dX0_leastMendingSwap_48 : decode cX0_leastMendingSwap 48 = .ok (.iconst 1, 1) := by decide +kernel
theorem dX0_leastMendingSwap_49 : decode cX0_leastMendingSwap 49 = .ok (.iadd, 1) := by decide +kernel
theorem dX0_leastMendingSwap_50 : decode cX0_leastMendingSwap 50 = .ok (.aaload, 1) := by decide +kernel
theorem dX0_leastMendingSwap_51 : decode cX0_leastMendingSwap 51 = .ok (.invokevirtual 66, 3) := by decide +kernel
theorem dX0_leastMendingSwap_54 : decode cX0_leastMendingSwap 54 = .ok (.iload 4, 2) := by decide +kernel
theorem dX0_leastMendingSwap_56 : decode cX0_leastMendingSwap 56 = .ok (.ifCond .eq 5, 3) := by decide +kernel
theorem dX0_leastMendingSwap_59 : decode cX0_leastMendingSwap 59 = .ok (.iload_n 3, 1) := by decide +kernel
theorem dX0_leastMendingSwap_60 : decode cX0_leastMendingSwap 60 = .ok (.ireturn, 1) := by decide +kernel
theorem dX0_leastMendingSwap_61 : decode cX0_leastMendingSwap 61 = .ok (.iinc 3 1, 3) := by decide +kernel
theorem dX0_leastMendingSwap_64 : decode cX0_leastMendingSwap 64 = .ok (.goto (-62), 3) := by decide +kernel
theorem dX0_leastMendingSwap_67 : decode cX0_leastMendingSwap 67 = .ok (.iconst (-1), 1) := by decide +kernel
theorem dX0_leastMendingSwap_68 : decode cX0_leastMendingSwap 68 = .ok (.ireturn, 1) := by decide +kernel
set_option maxRecDepth 20000 in
theorem ggX0_digestOnto_X5_told : GoodIn wsX0_digestOnto wsX5_told := goodIn_r _ [7, 8, 9, 10, 11, 12, 19, 20, 21, 22, 23] (by decide +kernel) (by decide +kernel)
set_option maxRecDepth 20000 in
theorem gX0_digestOnto_X5_told : GoodIn wsX0_digestOnto (wsV RX0 74 RX5 yX5_told wsX5_told) := goodIn_app (goodIn_of _ (by decide +kernel)) ggX0_digestOnto_X5_told
set_option maxRecDepth 20000 in
theorem ggX0_digestOnto_X7_mixed : GoodIn wsX0_digestOnto wsX7_mixed := goodIn_r _ [15, 16] (by decide +kernel) (by decide +kernel)
set_option maxRecDepth 20000 in
theorem gX0_digestOnto_X7_mixed_n77 : GoodIn wsX0_digestOnto (wsX7_mixed) := ggX0_digestOnto_X7_mixed
theorem dX0_digestOnto_0 : decode cX0_digestOnto 0 = .ok (.lload_n 1, 1) := by decide +kernel
theorem dX0_digestOnto_1 : decode cX0_digestOnto 1 = .ok (.lstore_n 3, 1) := by decide +kernel
theorem dX0_digestOnto_2 : decode cX0_digestOnto 2 = .ok (.iconst 0, 1) := by decide +kernel
theorem dX0_digestOnto_3 : decode cX0_digestOnto 3 = .ok (.istore 5, 2) := by decide +kernel
theorem dX0_digestOnto_5 : decode cX0_digestOnto 5 = .ok (.iload 5, 2) := by decide +kernel
theorem dX0_digestOnto_7 : decode cX0_digestOnto 7 = .ok (.aload_n 0, 1) := by decide +kernel
theorem dX0_digestOnto_8 : decode cX0_digestOnto 8 = .ok (.getfield 17, 3) := by decide +kernel
theorem dX0_digestOnto_11 : decode cX0_digestOnto 11 = .ok (.if_icmp .ge 42, 3) := by decide +kernel
theorem dX0_digestOnto_14 : decode cX0_digestOnto 14 = .ok (.iconst 0, 1) := by decide +kernel
theorem dX0_digestOnto_15 : decode cX0_digestOnto 15 = .ok (.istore 6, 2) := by decide +kernel
theorem dX0_digestOnto_17 : decode cX0_digestOnto 17 = .ok (.iload 6, 2) := by decide +kernel
theorem dX0_digestOnto_19 : decode cX0_digestOnto 19 = .ok (.iconst 4, 1) := by decide +kernel
theorem dX0_digestOnto_20 : decode cX0_digestOnto 20 = .ok (.if_icmp .gt 27, 3) := by decide +kernel
theorem dX0_digestOnto_23 : decode cX0_digestOnto 23 = .ok (.lload_n 3, 1) := by decide +kernel
theorem dX0_digestOnto_24 : decode cX0_digestOnto 24 = .ok (.aload_n 0, 1) := by decide +kernel
theorem dX0_digestOnto_25 : decode cX0_digestOnto 25 = .ok (.getfield 11, 3) := by decide +kernel
theorem dX0_digestOnto_28 : decode cX0_digestOnto 28 = .ok (.iload 5, 2) := by decide +kernel
theorem dX0_digestOnto_30 : decode cX0_digestOnto 30 = .ok (.aaload, 1) := by decide +kernel
theorem dX0_digestOnto_31 : decode cX0_digestOnto 31 = .ok (.iload 6, 2) := by decide +kernel
theorem dX0_digestOnto_33 : decode cX0_digestOnto 33 = .ok (.invokevirtual 74, 3) := by decide +kernel
theorem dX0_digestOnto_36 : decode cX0_digestOnto 36 = .ok (.i2l, 1) := by decide +kernel
theorem dX0_digestOnto_37 : decode cX0_digestOnto 37 = .ok (.invokestatic 77, 3) := by decide +kernel
theorem dX0_digestOnto_40 : decode cX0_digestOnto 40 = .ok (.lstore_n 3, 1) := by decide +kernel
theorem dX0_digestOnto_41 : decode cX0_digestOnto 41 = .ok (.iinc 6 1, 3) := by decide +kernel
theorem dX0_digestOnto_44 : decode cX0_digestOnto 44 = .ok (.goto (-27), 3) := by decide +kernel
theorem dX0_digestOnto_47 : decode cX0_digestOnto 47 = .ok (.iinc 5 1, 3) := by decide +kernel
theorem dX0_digestOnto_50 : decode cX0_digestOnto 50 = .ok (.goto (-45), 3) := by decide +kernel
theorem dX0_digestOnto_53 : decode cX0_digestOnto 53 = .ok (.lload_n 3, 1) := by decide +kernel
theorem dX0_digestOnto_54 : decode cX0_digestOnto 54 = .ok (.lreturn, 1) := by decide +kernel
set_option maxRecDepth 20000 in
theorem ggX1_init_X2_init : GoodIn wsX1_init wsX2_init := goodIn_r _ [14, 15, 2, 3, 4, 16, 17, 26, 27, 28] (by decide +kernel) (by decide +kernel)
set_option maxRecDepth 20000 in
theorem gX1_init_X2_init_n23 : GoodIn wsX1_init (wsX2_init) := ggX1_init_X2_init
theorem dX1_init_0 : decode cX1_init 0 = .ok (.aload_n 0, 1) := by decide +kernel
theorem dX1_init_1 : decode cX1_init 1 = .ok (.invokespecial 3, 3) := by decide +kernel
theorem dX1_init_4 : decode cX1_init 4 = .ok (.aload_n 0, 1) := by decide +kernel
theorem dX1_init_5 : decode cX1_init 5 = .ok (.bipush 20, 2) := by decide +kernel
theorem dX1_init_7 : decode cX1_init 7 = .ok (.newarray .int, 2) := by decide +kernel
theorem dX1_init_9 : decode cX1_init 9 = .ok (.putfield 9, 3) := by decide +kernel
theorem dX1_init_12 : decode cX1_init 12 = .ok (.aload_n 0, 1) := by decide +kernel
theorem dX1_init_13 : decode cX1_init 13 = .ok (.bipush 20, 2) := by decide +kernel
theorem dX1_init_15 : decode cX1_init 15 = .ok (.newarray .int, 2) := by decide +kernel
theorem dX1_init_17 : decode cX1_init 17 = .ok (.putfield 15, 3) := by decide +kernel
theorem dX1_init_20 : decode cX1_init 20 = .ok (.aload_n 0, 1) := by decide +kernel
theorem dX1_init_21 : decode cX1_init 21 = .ok (.bipush 20, 2) := by decide +kernel
theorem dX1_init_23 : decode cX1_init 23 = .ok (.newarray .int, 2) := by decide +kernel
theorem dX1_init_25 : decode cX1_init 25 = .ok (.putfield 18, 3) := by decide +kernel
theorem dX1_init_28 : decode cX1_init 28 = .ok (.aload_n 0, 1) := by decide +kernel
theorem dX1_init_29 : decode cX1_init 29 = .ok (.new 21, 3) := by decide +kernel
theorem dX1_init_32 : decode cX1_init 32 = .ok (.dup, 1) := by decide +kernel
theorem dX1_init_33 : decode cX1_init 33 = .ok (.invokespecial 23, 3) := by decide +kernel
theorem dX1_init_36 : decode cX1_init 36 = .ok (.putfield 24, 3) := by decide +kernel
theorem dX1_init_39 : decode cX1_init 39 = .ok (.aload_n 0, 1) := by decide +kernel
theorem dX1_init_40 : decode cX1_init 40 = .ok (.new 21, 3) := by decide +kernel
theorem dX1_init_43 : decode cX1_init 43 = .ok (.dup, 1) := by decide +kernel
theorem dX1_init_44 : decode cX1_init 44 = .ok (.invokespecial 23, 3) := by decide +kernel
theorem dX1_init_47 : decode cX1_init 47 = .ok (.putfield 28, 3) := by decide +kernel
theorem dX1_init_50 : decode cX1_init 50 = .ok (.return_, 1) := by decide +kernel
theorem dX1_addRun_0 : decode cX1_addRun 0 = .ok (.aload_n 0, 1) := by decide +kernel
theorem dX1_addRun_1 : decode cX1_addRun 1 = .ok (.getfield 9, 3) := by decide +kernel
theorem dX1_addRun_4 : decode cX1_addRun 4 = .ok (.aload_n 0, 1) := by decide +kernel
theorem dX1_addRun_5 : decode cX1_addRun 5 = .ok (.getfield 31, 3) := by decide +kernel
theorem dX1_addRun_8 : decode cX1_addRun 8 = .ok (.iload_n 1, 1) := by decide +kernel
theorem dX1_addRun_9 : decode cX1_addRun 9 = .ok (.iastore, 1) := by decide +kernel
theorem dX1_addRun_10 : decode cX1_addRun 10 = .ok (.aload_n 0, 1) := by decide +kernel
theorem dX1_addRun_11 : decode cX1_addRun 11 = .ok (.getfield 15, 3) := by decide +kernel
theorem dX1_addRun_14 : decode cX1_addRun 14 = .ok (.aload_n 0, 1) := by decide +kernel
theorem dX1_addRun_15 : decode cX1_addRun 15 = .ok (.getfield 31, 3) := by decide +kernel
theorem dX1_addRun_18 : decode cX1_addRun 18 = .ok (.iload_n 2, 1) := by decide +kernel
theorem dX1_addRun_19 : decode cX1_addRun 19 = .ok (.iastore, 1) := by decide +kernel
theorem dX1_addRun_20 : decode cX1_addRun 20 = .ok (.aload_n 0, 1) := by decide +kernel
theorem dX1_addRun_21 : decode cX1_addRun 21 = .ok (.dup, 1) := by decide +kernel
theorem dX1_addRun_22 : decode cX1_addRun 22 = .ok (.getfield 31, 3) := by decide +kernel
theorem dX1_addRun_25 : decode cX1_addRun 25 = .ok (.iconst 1, 1) := by decide +kernel
theorem dX1_addRun_26 : decode cX1_addRun 26 = .ok (.iadd, 1) := by decide +kernel
theorem dX1_addRun_27 : decode cX1_addRun 27 = .ok (.putfield 31, 3) := by decide +kernel
theorem dX1_addRun_30 : decode cX1_addRun 30 = .ok (.aload_n 0, 1) := by decide +kernel
theorem dX1_addRun_31 : decode cX1_addRun 31 = .ok (.dup, 1) := by decide +kernel
theorem dX1_addRun_32 : decode cX1_addRun 32 = .ok (.getfield 35, 3) := by decide +kernel
theorem dX1_addRun_35 : decode cX1_addRun 35 = .ok (.iload_n 1, 1) := by decide +kernel
theorem dX1_addRun_36 : decode cX1_addRun 36 = .ok (.iadd, 1) := by decide +kernel
theorem dX1_addRun_37 : decode cX1_addRun 37 = .ok (.putfield 35, 3) := by decide +kernel
theorem dX1_addRun_40 : decode cX1_addRun 40 = .ok (.return_, 1) := by decide +kernel
theorem dX1_isLogged_0 : decode cX1_isLogged 0 = .ok (.aload_n 0, 1) := by decide +kernel
theorem dX1_isLogged_1 : decode cX1_isLogged 1 = .ok (.getfield 24, 3) := by decide +kernel
theorem dX1_isLogged_4 : decode cX1_isLogged 4 = .ok (.getfield 38, 3) := by decide +kernel
theorem dX1_isLogged_7 : decode cX1_isLogged 7 = .ok (.ifCond .gt 13, 3) := by decide +kernel
theorem dX1_isLogged_10 : decode cX1_isLogged 10 = .ok (.aload_n 0, 1) := by decide +kernel
theorem dX1_isLogged_11 : decode cX1_isLogged 11 = .ok (.getfield 28, 3) := by decide +kernel
theorem dX1_isLogged_14 : decode cX1_isLogged 14 = .ok (.getfield 38, 3) := by decide +kernel
theorem dX1_isLogged_17 : decode cX1_isLogged 17 = .ok (.ifCond .le 7, 3) := by decide +kernel
theorem dX1_isLogged_20 : decode cX1_isLogged 20 = .ok (.iconst 1, 1) := by decide +kernel
theorem dX1_isLogged_21 : decode cX1_isLogged 21 = .ok (.goto 4, 3) := by decide +kernel
theorem dX1_isLogged_24 : decode cX1_isLogged 24 = .ok (.iconst 0, 1) := by decide +kernel
theorem dX1_isLogged_25 : decode cX1_isLogged 25 = .ok (.ireturn, 1) := by decide +kernel
theorem dX1_isStretch_0 : decode cX1_isStretch 0 = .ok (.iload_n 1, 1) := by decide +kernel
theorem dX1_isStretch_1 : decode cX1_isStretch 1 = .ok (.ifCond .lt 20, 3) := by decide +kernel
theorem dX1_isStretch_4 : decode cX1_isStretch 4 = .ok (.iload_n 1, 1) := by decide +kernel
theorem dX1_isStretch_5 : decode cX1_isStretch 5 = .ok (.iload_n 2, 1) := by decide +kernel
theorem dX1_isStretch_6 : decode cX1_isStretch 6 = .ok (.if_icmp .ge 15, 3) := by decide +kernel
theorem dX1_isStretch_9 : decode cX1_isStretch 9 = .ok (.iload_n 2, 1) := by decide +kernel
theorem dX1_isStretch_10 : decode cX1_isStretch 10 = .ok (.aload_n 0, 1) := by decide +kernel
theorem dX1_isStretch_11 : decode cX1_isStretch 11 = .ok (.getfield 35, 3) := by decide +kernel
theorem dX1_isStretch_14 : decode cX1_isStretch 14 = .ok (.if_icmp .gt 7, 3) := by decide +kernel
theorem dX1_isStretch_17 : decode cX1_isStretch 17 = .ok (.iconst 1, 1) := by decide +kernel
theorem dX1_isStretch_18 : decode cX1_isStretch 18 = .ok (.goto 4, 3) := by decide +kernel
theorem dX1_isStretch_21 : decode cX1_isStretch 21 = .ok (.iconst 0, 1) := by decide +kernel
theorem dX1_isStretch_22 : decode cX1_isStretch 22 = .ok (.ireturn, 1) := by decide +kernel
set_option maxRecDepth 20000 in
theorem ggX1_coreWithin_X7_unitsInCommon : GoodIn wsX1_coreWithin wsX7_unitsInCommon := goodIn_r _ [6, 7, 8, 9, 10, 11, 12, 13] (by decide +kernel) (by decide +kernel)
set_option maxRecDepth 20000 in
theorem gX1_coreWithin_X7_unitsInCommon_n41 : GoodIn wsX1_coreWithin (wsX7_unitsInCommon) := ggX1_coreWithin_X7_unitsInCommon
theorem dX1_coreWithin_0 : decode cX1_coreWithin 0 = .ok (.iconst 0, 1) := by decide +kernel
theorem dX1_coreWithin_1 : decode cX1_coreWithin 1 = .ok (.istore_n 3, 1) := by decide +kernel
theorem dX1_coreWithin_2 : decode cX1_coreWithin 2 = .ok (.iconst 0, 1) := by decide +kernel
theorem dX1_coreWithin_3 : decode cX1_coreWithin 3 = .ok (.istore 4, 2) := by decide +kernel
theorem dX1_coreWithin_5 : decode cX1_coreWithin 5 = .ok (.iconst 0, 1) := by decide +kernel
theorem dX1_coreWithin_6 : decode cX1_coreWithin 6 = .ok (.istore 5, 2) := by decide +kernel
theorem dX1_coreWithin_8 : decode cX1_coreWithin 8 = .ok (.iload 5, 2) := by decide +kernel
theorem dX1_coreWithin_10 : decode cX1_coreWithin 10 = .ok (.aload_n 0, 1) := by decide +kernel
theorem dX1_coreWithin_11 : decode cX1_coreWithin 11 = .ok (.getfield 31, 3) := by decide +kernel
theorem dX1_coreWithin_14 : decode cX1_coreWithin 14 = .ok (.if_icmp .ge 41, 3) := by decide +kernel
theorem dX1_coreWithin_17 : decode cX1_coreWithin 17 = .ok (.iload_n 3, 1) := by decide +kernel
theorem dX1_coreWithin_18 : decode cX1_coreWithin 18 = .ok (.iload 4, 2) := by decide +kernel
theorem dX1_coreWithin_20 : decode cX1_coreWithin 20 = .ok (.iload 4, 2) := by decide +kernel
theorem dX1_coreWithin_22 : decode cX1_coreWithin 22 = .ok (.aload_n 0, 1) := by decide +kernel
theorem dX1_coreWithin_23 : decode cX1_coreWithin 23 = .ok (.getfield 15, 3) := by decide +kernel
theorem dX1_coreWithin_26 : decode cX1_coreWithin 26 = .ok (.iload 5, 2) := by decide +kernel
theorem dX1_coreWithin_28 : decode cX1_coreWithin 28 = .ok (.iaload, 1) := by decide +kernel
theorem dX1_coreWithin_29 : decode cX1_coreWithin 29 = .ok (.iadd, 1) := by decide +kernel
theorem dX1_coreWithin_30 : decode cX1_coreWithin 30 = .ok (.iload_n 1, 1) := by decide +kernel
theorem dX1_coreWithin_31 : decode cX1_coreWithin 31 = .ok (.iload_n 2, 1) := by decide +kernel
theorem dX1_coreWithin_32 : decode cX1_coreWithin 32 = .ok (.invokestatic 41, 3) := by decide +kernel
theorem dX1_coreWithin_35 : decode cX1_coreWithin 35 = .ok (.iadd, 1) := by decide +kernel
theorem dX1_coreWithin_36 : decode cX1_coreWithin 36 = .ok (.istore_n 3, 1) := by decide +kernel
theorem dX1_coreWithin_37 : decode cX1_coreWithin 37 = .ok (.iload 4, 2) := by decide +kernel
theorem dX1_coreWithin_39 : decode cX1_coreWithin 39 = .ok (.aload_n 0, 1) := by decide +kernel
theorem dX1_coreWithin_40 : decode cX1_coreWithin 40 = .ok (.getfield 9, 3) := by decide +kernel
theorem dX1_coreWithin_43 : decode cX1_coreWithin 43 = .ok (.iload 5, 2) := by decide +kernel
theorem dX1_coreWithin_45 : decode cX1_coreWithin 45 = .ok (.iaload, 1) := by decide +kernel
theorem dX1_coreWithin_46 : decode cX1_coreWithin 46 = .ok (.iadd, 1) := by decide +kernel
theorem dX1_coreWithin_47 : decode cX1_coreWithin 47 = .ok (.istore 4, 2) := by decide +kernel
theorem dX1_coreWithin_49 : decode cX1_coreWithin 49 = .ok (.iinc 5 1, 3) := by decide +kernel
theorem dX1_coreWithin_52 : decode cX1_coreWithin 52 = .ok (.goto (-44), 3) := by decide +kernel
theorem dX1_coreWithin_55 : decode cX1_coreWithin 55 = .ok (.iload_n 3, 1) := by decide +kernel
theorem dX1_coreWithin_56 : decode cX1_coreWithin 56 = .ok (.ireturn, 1) := by decide +kernel
set_option maxRecDepth 20000 in
theorem ggX1_digestOnto_X7_mixed : GoodIn wsX1_digestOnto wsX7_mixed := goodIn_r _ [10, 11] (by decide +kernel) (by decide +kernel)
set_option maxRecDepth 20000 in
theorem gX1_digestOnto_X7_mixed_n45 : GoodIn wsX1_digestOnto (wsX7_mixed) := ggX1_digestOnto_X7_mixed
set_option maxRecDepth 20000 in
theorem ggX1_digestOnto_X2_digestOnto : GoodIn wsX1_digestOnto wsX2_digestOnto := goodIn_r _ [16, 17, 18, 19, 8, 9, 10, 11, 28, 29, 30] (by decide +kernel) (by decide +kernel)
set_option maxRecDepth 20000 in
theorem gX1_digestOnto_X2_digestOnto : GoodIn wsX1_digestOnto (wsV RX1 52 RX2 yX2_digestOnto wsX2_digestOnto) := goodIn_app (goodIn_of _ (by decide +kernel)) ggX1_digestOnto_X2_digestOnto
theorem dX1_digestOnto_0 : decode cX1_digestOnto 0 = .ok (.lload_n 1, 1) := by decide +kernel
theorem dX1_digestOnto_1 : decode cX1_digestOnto 1 = .ok (.lstore_n 3, 1) := by decide +kernel
theorem dX1_digestOnto_2 : decode cX1_digestOnto 2 = .ok (.iconst 0, 1) := by decide +kernel
theorem dX1_digestOnto_3 : decode cX1_digestOnto 3 = .ok (.istore 5, 2) := by decide +kernel
theorem dX1_digestOnto_5 : decode cX1_digestOnto 5 = .ok (.iload 5, 2) := by decide +kernel
theorem dX1_digestOnto_7 : decode cX1_digestOnto 7 = .ok (.aload_n 0, 1) := by decide +kernel
theorem dX1_digestOnto_8 : decode cX1_digestOnto 8 = .ok (.getfield 31, 3) := by decide +kernel
theorem dX1_digestOnto_11 : decode cX1_digestOnto 11 = .ok (.if_icmp .ge 33, 3) := by decide +kernel
theorem dX1_digestOnto_14 : decode cX1_digestOnto 14 = .ok (.lload_n 3, 1) := by decide +kernel
theorem dX1_digestOnto_15 : decode cX1_digestOnto 15 = .ok (.aload_n 0, 1) := by decide +kernel
theorem dX1_digestOnto_16 : decode cX1_digestOnto 16 = .ok (.getfield 9, 3) := by decide +kernel
theorem dX1_digestOnto_19 : decode cX1_digestOnto 19 = .ok (.iload 5, 2) := by decide +kernel
theorem dX1_digestOnto_21 : decode cX1_digestOnto 21 = .ok (.iaload, 1) := by decide +kernel
theorem dX1_digestOnto_22 : decode cX1_digestOnto 22 = .ok (.i2l, 1) := by decide +kernel
theorem dX1_digestOnto_23 : decode cX1_digestOnto 23 = .ok (.invokestatic 45, 3) := by decide +kernel
theorem dX1_digestOnto_26 : decode cX1_digestOnto 26 = .ok (.aload_n 0, 1) := by decide +kernel
theorem dX1_digestOnto_27 : decode cX1_digestOnto 27 = .ok (.getfield 15, 3) := by decide +kernel
theorem dX1_digestOnto_30 : decode cX1_digestOnto 30 = .ok (.iload 5, 2) := by decide +kernel
theorem dX1_digestOnto_32 : decode cX1_digestOnto 32 = .ok (.iaload, 1) := by decide +kernel
theorem dX1_digestOnto_33 : decode cX1_digestOnto 33 = .ok (.i2l, 1) := by decide +kernel
theorem dX1_digestOnto_34 : decode cX1_digestOnto 34 = .ok (.invokestatic 45, 3) := by decide +kernel
theorem dX1_digestOnto_37 : decode cX1_digestOnto 37 = .ok (.lstore_n 3, 1) := by decide +kernel
theorem dX1_digestOnto_38 : decode cX1_digestOnto 38 = .ok (.iinc 5 1, 3) := by decide +kernel
theorem dX1_digestOnto_41 : decode cX1_digestOnto 41 = .ok (.goto (-36), 3) := by decide +kernel
theorem dX1_digestOnto_44 : decode cX1_digestOnto 44 = .ok (.iconst 0, 1) := by decide +kernel
theorem dX1_digestOnto_45 : decode cX1_digestOnto 45 = .ok (.istore 5, 2) := by decide +kernel
theorem dX1_digestOnto_47 : decode cX1_digestOnto 47 = .ok (.iload 5, 2) := by decide +kernel
theorem dX1_digestOnto_49 : decode cX1_digestOnto 49 = .ok (.aload_n 0, 1) := by decide +kernel
theorem dX1_digestOnto_50 : decode cX1_digestOnto 50 = .ok (.getfield 49, 3) := by decide +kernel
theorem dX1_digestOnto_53 : decode cX1_digestOnto 53 = .ok (.if_icmp .ge 22, 3) := by decide +kernel
theorem dX1_digestOnto_56 : decode cX1_digestOnto 56 = .ok (.lload_n 3, 1) := by decide +kernel
theorem dX1_digestOnto_57 : decode cX1_digestOnto 57 = .ok (.aload_n 0, 1) := by decide +kernel
theorem dX1_digestOnto_58 : decode cX1_digestOnto 58 = .ok (.getfield 18, 3) := by decide +kernel
theorem dX1_digestOnto_61 : decode cX1_digestOnto 61 = .ok (.iload 5, 2) := by decide +kernel
theorem dX1_digestOnto_63 : decode cX1_digestOnto 63 = .ok (.iaload, 1) := by decide +kernel
theorem dX1_digestOnto_64 : decode cX1_digestOnto 64 = .ok (.i2l, 1) := by decide +kernel
theorem dX1_digestOnto_65 : decode cX1_digestOnto 65 = .ok (.invokestatic 45, 3) := by decide +kernel
theorem dX1_digestOnto_68 : decode cX1_digestOnto 68 = .ok (.lstore_n 3, 1) := by decide +kernel
theorem dX1_digestOnto_69 : decode cX1_digestOnto 69 = .ok (.iinc 5 1, 3) := by decide +kernel
theorem dX1_digestOnto_72 : decode cX1_digestOnto 72 = .ok (.goto (-25), 3) := by decide +kernel
theorem dX1_digestOnto_75 : decode cX1_digestOnto 75 = .ok (.aload_n 0, 1) := by decide +kernel
theorem dX1_digestOnto_76 : decode cX1_digestOnto 76 = .ok (.getfield 28, 3) := by decide +kernel
theorem dX1_digestOnto_79 : decode cX1_digestOnto 79 = .ok (.aload_n 0, 1) := by decide +kernel
theorem dX1_digestOnto_80 : decode cX1_digestOnto 80 = .ok (.getfield 24, 3) := by decide +kernel
theorem dX1_digestOnto_83 : decode cX1_digestOnto 83 = .ok (.lload_n 3, 1) := by decide +kernel
theorem dX1_digestOnto_84 : decode cX1_digestOnto 84 = .ok (.invokevirtual 52, 3) := by decide +kernel
theorem dX1_digestOnto_87 : decode cX1_digestOnto 87 = .ok (.invokevirtual 52, 3) := by decide +kernel
theorem dX1_digestOnto_90 : decode cX1_digestOnto 90 = .ok (.lreturn, 1) := by decide +kernel
theorem dX2_init_0 : decode cX2_init 0 = .ok (.aload_n 0, 1) := by decide +kernel
theorem dX2_init_1 : decode cX2_init 1 = .ok (.invokespecial 3, 3) := by decide +kernel
theorem dX2_init_4 : decode cX2_init 4 = .ok (.aload_n 0, 1) := by decide +kernel
theorem dX2_init_5 : decode cX2_init 5 = .ok (.bipush 20, 2) := by decide +kernel
theorem dX2_init_7 : decode cX2_init 7 = .ok (.newarray .int, 2) := by decide +kernel
theorem dX2_init_9 : decode cX2_init 9 = .ok (.putfield 9, 3) := by decide +kernel
theorem dX2_init_12 : decode cX2_init 12 = .ok (.aload_n 0, 1) := by decide +kernel
theorem dX2_init_13 : decode cX2_init 13 = .ok (.bipush 20, 2) := by decide +kernel
theorem dX2_init_15 : decode cX2_init 15 = .ok (.newarray .int, 2) := by decide +kernel
theorem dX2_init_17 : decode cX2_init 17 = .ok (.putfield 15, 3) := by decide +kernel
theorem dX2_init_20 : decode cX2_init 20 = .ok (.return_, 1) := by decide +kernel
theorem dX2_add_0 : decode cX2_add 0 = .ok (.aload_n 0, 1) := by decide +kernel
theorem dX2_add_1 : decode cX2_add 1 = .ok (.getfield 9, 3) := by decide +kernel
theorem dX2_add_4 : decode cX2_add 4 = .ok (.aload_n 0, 1) := by decide +kernel
theorem dX2_add_5 : decode cX2_add 5 = .ok (.getfield 18, 3) := by decide +kernel
theorem dX2_add_8 : decode cX2_add 8 = .ok (.iload_n 1, 1) := by decide +kernel
theorem dX2_add_9 : decode cX2_add 9 = .ok (.iastore, 1) := by decide +kernel
theorem dX2_add_10 : decode cX2_add 10 = .ok (.aload_n 0, 1) := by decide +kernel
theorem dX2_add_11 : decode cX2_add 11 = .ok (.getfield 15, 3) := by decide +kernel
theorem dX2_add_14 : decode cX2_add 14 = .ok (.aload_n 0, 1) := by decide +kernel
theorem dX2_add_15 : decode cX2_add 15 = .ok (.getfield 18, 3) := by decide +kernel
theorem dX2_add_18 : decode cX2_add 18 = .ok (.iload_n 2, 1) := by decide +kernel
theorem dX2_add_19 : decode cX2_add 19 = .ok (.iastore, 1) := by decide +kernel
theorem dX2_add_20 : decode cX2_add 20 = .ok (.aload_n 0, 1) := by decide +kernel
theorem dX2_add_21 : decode cX2_add 21 = .ok (.dup, 1) := by decide +kernel
theorem dX2_add_22 : decode cX2_add 22 = .ok (.getfield 18, 3) := by decide +kernel
theorem dX2_add_25 : decode cX2_add 25 = .ok (.iconst 1, 1) := by decide +kernel
theorem dX2_add_26 : decode cX2_add 26 = .ok (.iadd, 1) := by decide +kernel
theorem dX2_add_27 : decode cX2_add 27 = .ok (.putfield 18, 3) := by decide +kernel
theorem dX2_add_30 : decode cX2_add 30 = .ok (.return_, 1) := by decide +kernel
theorem dX2_top_0 : decode cX2_top 0 = .ok (.iload_n 1, 1) := by decide +kernel
theorem dX2_top_1 : decode cX2_top 1 = .ok (.ifCond .ne 7, 3) := by decide +kernel
theorem dX2_top_4 : decode cX2_top 4 = .ok (.iconst 0, 1) := by decide +kernel
theorem dX2_top_5 : decode cX2_top 5 = .ok (.goto 11, 3) := by decide +kernel
theorem dX2_top_8 : decode cX2_top 8 = .ok (.aload_n 0, 1) := by decide +kernel
theorem dX2_top_9 : decode cX2_top 9 = .ok (.getfield 9, 3) := by decide +kernel
theorem dX2_top_12 : decode cX2_top 12 = .ok (.iload_n 1, 1) := by decide +kernel
theorem dX2_top_13 : decode cX2_top 13 = .ok (.iconst 1, 1) := by decide +kernel
theorem dX2_top_14 : decode cX2_top 14 = .ok (.isub, 1) := by decide +kernel
theorem dX2_top_15 : decode cX2_top 15 = .ok (.iaload, 1) := by decide +kernel
theorem dX2_top_16 : decode cX2_top 16 = .ok (.ireturn, 1) := by decide +kernel
set_option maxRecDepth 20000 in
theorem ggX2_bottom_X2_top : GoodIn wsX2_bottom wsX2_top := goodIn_r _ [6, 7, 8, 9, 10] (by decide +kernel) (by decide +kernel)
set_option maxRecDepth 20000 in
theorem gX2_bottom_X2_top : GoodIn wsX2_bottom (wsV RX2 22 RX2 yX2_top wsX2_top) := goodIn_app (goodIn_of _ (by decide +kernel)) ggX2_bottom_X2_top
theorem dX2_bottom_0 : decode cX2_bottom 0 = .ok (.aload_n 0, 1) := by decide +kernel
theorem dX2_bottom_1 : decode cX2_bottom 1 = .ok (.aload_n 0, 1) := by decide +kernel
theorem dX2_bottom_2 : decode cX2_bottom 2 = .ok (.getfield 18, 3) := by decide +kernel
theorem dX2_bottom_5 : decode cX2_bottom 5 = .ok (.invokevirtual 22, 3) := by decide +kernel
theorem dX2_bottom_8 : decode cX2_bottom 8 = .ok (.ireturn, 1) := by decide +kernel
set_option maxRecDepth 20000 in
theorem ggX2_thickness_X2_top : GoodIn wsX2_thickness wsX2_top := goodIn_r _ [6, 1, 7, 8, 9] (by decide +kernel) (by decide +kernel)
set_option maxRecDepth 20000 in
theorem gX2_thickness_X2_top : GoodIn wsX2_thickness (wsV RX2 22 RX2 yX2_top wsX2_top) := goodIn_app (goodIn_of _ (by decide +kernel)) ggX2_thickness_X2_top
theorem dX2_thickness_0 : decode cX2_thickness 0 = .ok (.aload_n 0, 1) := by decide +kernel
theorem dX2_thickness_1 : decode cX2_thickness 1 = .ok (.getfield 9, 3) := by decide +kernel
theorem dX2_thickness_4 : decode cX2_thickness 4 = .ok (.iload_n 1, 1) := by decide +kernel
theorem dX2_thickness_5 : decode cX2_thickness 5 = .ok (.iaload, 1) := by decide +kernel
theorem dX2_thickness_6 : decode cX2_thickness 6 = .ok (.aload_n 0, 1) := by decide +kernel
theorem dX2_thickness_7 : decode cX2_thickness 7 = .ok (.iload_n 1, 1) := by decide +kernel
theorem dX2_thickness_8 : decode cX2_thickness 8 = .ok (.invokevirtual 22, 3) := by decide +kernel
theorem dX2_thickness_11 : decode cX2_thickness 11 = .ok (.isub, 1) := by decide +kernel
theorem dX2_thickness_12 : decode cX2_thickness 12 = .ok (.ireturn, 1) := by decide +kernel
set_option maxRecDepth 20000 in
theorem ggX2_indexAt_X2_top : GoodIn wsX2_indexAt wsX2_top := goodIn_r _ [7, 2, 8, 9, 10] (by decide +kernel) (by decide +kernel)
set_option maxRecDepth 20000 in
theorem gX2_indexAt_X2_top : GoodIn wsX2_indexAt (wsV RX2 22 RX2 yX2_top wsX2_top) := goodIn_app (goodIn_of _ (by decide +kernel)) ggX2_indexAt_X2_top
theorem dX2_indexAt_0 : decode cX2_indexAt 0 = .ok (.iconst 0, 1) := by decide +kernel
theorem dX2_indexAt_1 : decode cX2_indexAt 1 = .ok (.istore_n 2, 1) := by decide +kernel
theorem dX2_indexAt_2 : decode cX2_indexAt 2 = .ok (.iload_n 2, 1) := by decide +kernel
theorem dX2_indexAt_3 : decode cX2_indexAt 3 = .ok (.aload_n 0, 1) := by decide +kernel
theorem dX2_indexAt_4 : decode cX2_indexAt 4 = .ok (.getfield 18, 3) := by decide +kernel
theorem dX2_indexAt_7 : decode cX2_indexAt 7 = .ok (.if_icmp .ge 30, 3) := by decide +kernel
theorem dX2_indexAt_10 : decode cX2_indexAt 10 = .ok (.iload_n 1, 1) := by decide +kernel
theorem dX2_indexAt_11 : decode cX2_indexAt 11 = .ok (.aload_n 0, 1) := by decide +kernel
theorem dX2_indexAt_12 : decode cX2_indexAt 12 = .ok (.iload_n 2, 1) := by decide +kernel
theorem dX2_indexAt_13 : decode cX2_indexAt 13 = .ok (.invokevirtual 22, 3) := by decide +kernel
theorem dX2_indexAt_16 : decode cX2_indexAt 16 = .ok (.if_icmp .lt 15, 3) := by decide +kernel
theorem dX2_indexAt_19 : decode cX2_indexAt 19 = .ok (.iload_n 1, 1) := by decide +kernel
theorem dX2_indexAt_20 : decode cX2_indexAt 20 = .ok (.aload_n 0, 1) := by decide +kernel
theorem dX2_indexAt_21 : decode cX2_indexAt 21 = .ok (.getfield 9, 3) := by decide +kernel
theorem dX2_indexAt_24 : decode cX2_indexAt 24 = .ok (.iload_n 2, 1) := by decide +kernel
theorem dX2_indexAt_25 : decode cX2_indexAt 25 = .ok (.iaload, 1) := by decide +kernel
theorem dX2_indexAt_26 : decode cX2_indexAt 26 = .ok (.if_icmp .ge 5, 3) := by decide +kernel
theorem dX2_indexAt_29 : decode cX2_indexAt 29 = .ok (.iload_n 2, 1) := by decide +kernel
theorem dX2_indexAt_30 : decode cX2_indexAt 30 = .ok (.ireturn, 1) := by decide +kernel
theorem dX2_indexAt_31 : decode cX2_indexAt 31 = .ok (.iinc 2 1, 3) := by decide +kernel
theorem dX2_indexAt_34 : decode cX2_indexAt 34 = .ok (.goto (-32), 3) := by decide +kernel
theorem dX2_indexAt_37 : decode cX2_indexAt 37 = .ok (.iconst (-1), 1) := by decide +kernel
theorem dX2_indexAt_38 : decode cX2_indexAt 38 = .ok (.ireturn, 1) := by decide +kernel
set_option maxRecDepth 20000 in
theorem ggX2_digestOnto_X7_mixed : GoodIn wsX2_digestOnto wsX7_mixed := goodIn_r _ [6, 7] (by decide +kernel) (by decide +kernel)
set_option maxRecDepth 20000 in
theorem gX2_digestOnto_X7_mixed_n26 : GoodIn wsX2_digestOnto (wsX7_mixed) := ggX2_digestOnto_X7_mixed
theorem dX2_digestOnto_0 : decode cX2_digestOnto 0 = .ok (.lload_n 1, 1) := by decide +kernel
theorem dX2_digestOnto_1 : decode cX2_digestOnto 1 = .ok (.lstore_n 3, 1) := by decide +kernel
theorem dX2_digestOnto_2 : decode cX2_digestOnto 2 = .ok (.iconst 0, 1) := by decide +kernel
theorem dX2_digestOnto_3 : decode cX2_digestOnto 3 = .ok (.istore 5, 2) := by decide +kernel
theorem dX2_digestOnto_5 : decode cX2_digestOnto 5 = .ok (.iload 5, 2) := by decide +kernel
theorem dX2_digestOnto_7 : decode cX2_digestOnto 7 = .ok (.aload_n 0, 1) := by decide +kernel
theorem dX2_digestOnto_8 : decode cX2_digestOnto 8 = .ok (.getfield 18, 3) := by decide +kernel
theorem dX2_digestOnto_11 : decode cX2_digestOnto 11 = .ok (.if_icmp .ge 33, 3) := by decide +kernel
theorem dX2_digestOnto_14 : decode cX2_digestOnto 14 = .ok (.lload_n 3, 1) := by decide +kernel
theorem dX2_digestOnto_15 : decode cX2_digestOnto 15 = .ok (.aload_n 0, 1) := by decide +kernel
theorem dX2_digestOnto_16 : decode cX2_digestOnto 16 = .ok (.getfield 9, 3) := by decide +kernel
theorem dX2_digestOnto_19 : decode cX2_digestOnto 19 = .ok (.iload 5, 2) := by decide +kernel
theorem dX2_digestOnto_21 : decode cX2_digestOnto 21 = .ok (.iaload, 1) := by decide +kernel
theorem dX2_digestOnto_22 : decode cX2_digestOnto 22 = .ok (.i2l, 1) := by decide +kernel
theorem dX2_digestOnto_23 : decode cX2_digestOnto 23 = .ok (.invokestatic 26, 3) := by decide +kernel
theorem dX2_digestOnto_26 : decode cX2_digestOnto 26 = .ok (.aload_n 0, 1) := by decide +kernel
theorem dX2_digestOnto_27 : decode cX2_digestOnto 27 = .ok (.getfield 15, 3) := by decide +kernel
theorem dX2_digestOnto_30 : decode cX2_digestOnto 30 = .ok (.iload 5, 2) := by decide +kernel
theorem dX2_digestOnto_32 : decode cX2_digestOnto 32 = .ok (.iaload, 1) := by decide +kernel
theorem dX2_digestOnto_33 : decode cX2_digestOnto 33 = .ok (.i2l, 1) := by decide +kernel
theorem dX2_digestOnto_34 : decode cX2_digestOnto 34 = .ok (.invokestatic 26, 3) := by decide +kernel
theorem dX2_digestOnto_37 : decode cX2_digestOnto 37 = .ok (.lstore_n 3, 1) := by decide +kernel
theorem dX2_digestOnto_38 : decode cX2_digestOnto 38 = .ok (.iinc 5 1, 3) := by decide +kernel
theorem dX2_digestOnto_41 : decode cX2_digestOnto 41 = .ok (.goto (-36), 3) := by decide +kernel
theorem dX2_digestOnto_44 : decode cX2_digestOnto 44 = .ok (.lload_n 3, 1) := by decide +kernel
theorem dX2_digestOnto_45 : decode cX2_digestOnto 45 = .ok (.lreturn, 1) := by decide +kernel
theorem dX3_init_0 : decode cX3_init 0 = .ok (.aload_n 0, 1) := by decide +kernel
theorem dX3_init_1 : decode cX3_init 1 = .ok (.invokespecial 3, 3) := by decide +kernel
theorem dX3_init_4 : decode cX3_init 4 = .ok (.aload_n 0, 1) := by decide +kernel
theorem dX3_init_5 : decode cX3_init 5 = .ok (.bipush 21, 2) := by decide +kernel
theorem dX3_init_7 : decode cX3_init 7 = .ok (.bipush 21, 2) := by decide +kernel
theorem dX3_init_9 : decode cX3_init 9 = .ok (.multianewarray 9 2, 4) := by decide +kernel
theorem dX3_init_13 : decode cX3_init 13 = .ok (.putfield 11, 3) := by decide +kernel
theorem dX3_init_16 : decode cX3_init 16 = .ok (.return_, 1) := by decide +kernel
set_option maxRecDepth 20000 in
theorem ggX3_weigh_X3_leastFrom : GoodIn wsX3_weigh wsX3_leastFrom := goodIn_r _ [7, 1, 2, 8, 9, 10, 11, 12, 13, 14, 15, 16, 17, 18, 19, 20, 21, 22, 23, 24, 25, 26, 27, 28, 29, 6, 30, 31, 32, 33, 34, 35, 36, 37, 38, 39, 40, 41, 42] (by decide +kernel) (by decide +kernel)
set_option maxRecDepth 20000 in
theorem gX3_weigh_X3_leastFrom : GoodIn wsX3_weigh (wsV RX3 22 RX3 yX3_leastFrom wsX3_leastFrom) := goodIn_app (goodIn_of _ (by decide +kernel)) ggX3_weigh_X3_leastFrom
theorem dX3_weigh_0 : decode cX3_weigh 0 = .ok (.aload_n 1, 1) := by decide +kernel
theorem dX3_weigh_1 : decode cX3_weigh 1 = .ok (.getfield 16, 3) := by decide +kernel
theorem dX3_weigh_4 : decode cX3_weigh 4 = .ok (.istore 4, 2) := by decide +kernel
theorem dX3_weigh_6 : decode cX3_weigh 6 = .ok (.iload 4, 2) := by decide +kernel
theorem dX3_weigh_8 : decode cX3_weigh 8 = .ok (.ifCond .lt 47, 3) := by decide +kernel
theorem dX3_weigh_11 : decode cX3_weigh 11 = .ok (.aload_n 2, 1) := by decide +kernel
theorem dX3_weigh_12 : decode cX3_weigh 12 = .ok (.getfield 16, 3) := by decide +kernel
theorem dX3_weigh_15 : decode cX3_weigh 15 = .ok (.istore 5, 2) := by decide +kernel
theorem dX3_weigh_17 : decode cX3_weigh 17 = .ok (.iload 5, 2) := by decide +kernel
theorem dX3_weigh_19 : decode cX3_weigh 19 = .ok (.ifCond .lt 30, 3) := by decide +kernel
theorem dX3_weigh_22 : decode cX3_weigh 22 = .ok (.aload_n 0, 1) := by decide +kernel
theorem dX3_weigh_23 : decode cX3_weigh 23 = .ok (.getfield 11, 3) := by decide +kernel
theorem dX3_weigh_26 : decode cX3_weigh 26 = .ok (.iload 4, 2) := by decide +kernel
theorem dX3_weigh_28 : decode cX3_weigh 28 = .ok (.aaload, 1) := by decide +kernel
theorem dX3_weigh_29 : decode cX3_weigh 29 = .ok (.iload 5, 2) := by decide +kernel
theorem dX3_weigh_31 : decode cX3_weigh 31 = .ok (.aload_n 0, 1) := by decide +kernel
theorem dX3_weigh_32 : decode cX3_weigh 32 = .ok (.iload 4, 2) := by decide +kernel
theorem dX3_weigh_34 : decode cX3_weigh 34 = .ok (.iload 5, 2) := by decide +kernel
theorem dX3_weigh_36 : decode cX3_weigh 36 = .ok (.aload_n 1, 1) := by decide +kernel
theorem dX3_weigh_37 : decode cX3_weigh 37 = .ok (.aload_n 2, 1) := by decide +kernel
theorem dX3_weigh_38 : decode cX3_weigh 38 = .ok (.aload_n 3, 1) := by decide +kernel
theorem dX3_weigh_39 : decode cX3_weigh 39 = .ok (.invokevirtual 22, 3) := by decide +kernel
theorem dX3_weigh_42 : decode cX3_weigh 42 = .ok (.iastore, 1) := by decide +kernel
theorem dX3_weigh_43 : decode cX3_weigh 43 = .ok (.iinc 5 (-1), 3) := by decide +kernel
theorem dX3_weigh_46 : decode cX3_weigh 46 = .ok (.goto (-29), 3) := by decide +kernel
theorem dX3_weigh_49 : decode cX3_weigh 49 = .ok (.iinc 4 (-1), 3) := by decide +kernel
theorem dX3_weigh_52 : decode cX3_weigh 52 = .ok (.goto (-46), 3) := by decide +kernel
theorem dX3_weigh_55 : decode cX3_weigh 55 = .ok (.return_, 1) := by decide +kernel
set_option maxRecDepth 20000 in
theorem ggX3_leastFrom_X2_bottom : GoodIn wsX3_leastFrom wsX2_bottom := goodIn_r _ [11, 12, 13, 14, 15, 10, 16, 17, 35, 36, 37] (by decide +kernel) (by decide +kernel)
set_option maxRecDepth 20000 in
theorem gX3_leastFrom_X2_bottom : GoodIn wsX3_leastFrom (wsV RX3 26 RX2 yX2_bottom wsX2_bottom) := goodIn_app (goodIn_of _ (by decide +kernel)) ggX3_leastFrom_X2_bottom
set_option maxRecDepth 20000 in
theorem ggX3_leastFrom_X2_top : GoodIn wsX3_leastFrom wsX2_top := goodIn_r _ [16, 17, 35, 36, 37] (by decide +kernel) (by decide +kernel)
set_option maxRecDepth 20000 in
theorem gX3_leastFrom_X2_top : GoodIn wsX3_leastFrom (wsV RX3 30 RX2 yX2_top wsX2_top) := goodIn_app (goodIn_of _ (by decide +kernel)) ggX3_leastFrom_X2_top
set_option maxRecDepth 20000 in
theorem ggX3_leastFrom_X2_thickness : GoodIn wsX3_leastFrom wsX2_thickness := goodIn_r _ [22, 17, 13, 14, 15, 10, 16, 35, 36, 37] (by decide +kernel) (by decide +kernel)
set_option maxRecDepth 20000 in
theorem gX3_leastFrom_X2_thickness : GoodIn wsX3_leastFrom (wsV RX3 34 RX2 yX2_thickness wsX2_thickness) := goodIn_app (goodIn_of _ (by decide +kernel)) ggX3_leastFrom_X2_thickness
set_option maxRecDepth 20000 in
theorem ggX3_leastFrom_X3_isAlike : GoodIn wsX3_leastFrom wsX3_isAlike := goodIn_r _ [26, 27, 35, 36, 37] (by decide +kernel) (by decide +kernel)
set_option maxRecDepth 20000 in
theorem gX3_leastFrom_X3_isAlike : GoodIn wsX3_leastFrom (va_wsS RX3 43 yX3_isAlike wsX3_isAlike) := goodIn_app (goodIn_of _ (by decide +kernel)) ggX3_leastFrom_X3_isAlike
set_option maxRecDepth 20000 in
theorem ggX3_leastFrom_X3_pairedSum : GoodIn wsX3_leastFrom wsX3_pairedSum := goodIn_r _ [31, 32, 33, 5, 34, 2, 19, 20, 21, 10, 22, 17, 13, 14, 15, 16, 38, 35, 36, 37] (by decide +kernel) (by decide +kernel)
set_option maxRecDepth 20000 in
theorem gX3_leastFrom_X3_pairedSum : GoodIn wsX3_leastFrom (wsV RX3 47 RX3 yX3_pairedSum wsX3_pairedSum) := goodIn_app (goodIn_of _ (by decide +kernel)) ggX3_leastFrom_X3_pairedSum
theorem dX3_leastFrom_0 : decode cX3_leastFrom 0 = .ok (.iload_n 1, 1) := by decide +kernel
theorem dX3_leastFrom_1 : decode cX3_leastFrom 1 = .ok (.aload_n 3, 1) := by decide +kernel
theorem dX3_leastFrom_2 : decode cX3_leastFrom 2 = .ok (.getfield 16, 3) := by decide +kernel
theorem dX3_leastFrom_5 : decode cX3_leastFrom 5 = .ok (.if_icmp .ne 16, 3) := by decide +kernel
theorem dX3_leastFrom_8 : decode cX3_leastFrom 8 = .ok (.aload 4, 2) := by decide +kernel
theorem dX3_leastFrom_10 : decode cX3_leastFrom 10 = .ok (.invokevirtual 26, 3) := by decide +kernel
theorem dX3_leastFrom_13 : decode cX3_leastFrom 13 = .ok (.aload 4, 2) := by decide +kernel
theorem dX3_leastFrom_15 : decode cX3_leastFrom 15 = .ok (.iload_n 2, 1) := by decide +kernel
theorem dX3_leastFrom_16 : decode cX3_leastFrom 16 = .ok (.invokevirtual 30, 3) := by decide +kernel
theorem dX3_leastFrom_19 : decode cX3_leastFrom 19 = .ok (.isub, 1) := by decide +kernel
theorem dX3_leastFrom_20 : decode cX3_leastFrom 20 = .ok (.ireturn, 1) := by decide +kernel
theorem dX3_leastFrom_21 : decode cX3_leastFrom 21 = .ok (.iload_n 2, 1) := by decide +kernel
theorem dX3_leastFrom_22 : decode cX3_leastFrom 22 = .ok (.aload 4, 2) := by decide +kernel
theorem dX3_leastFrom_24 : decode cX3_leastFrom 24 = .ok (.getfield 16, 3) := by decide +kernel
theorem dX3_leastFrom_27 : decode cX3_leastFrom 27 = .ok (.if_icmp .ne 14, 3) := by decide +kernel
theorem dX3_leastFrom_30 : decode cX3_leastFrom 30 = .ok (.aload_n 3, 1) := by decide +kernel
theorem dX3_leastFrom_31 : decode cX3_leastFrom 31 = .ok (.invokevirtual 26, 3) := by decide +kernel
theorem dX3_leastFrom_34 : decode cX3_leastFrom 34 = .ok (.aload_n 3, 1) := by decide +kernel
theorem dX3_leastFrom_35 : decode cX3_leastFrom 35 = .ok (.iload_n 1, 1) := by decide +kernel
theorem dX3_leastFrom_36 : decode cX3_leastFrom 36 = .ok (.invokevirtual 30, 3) := by decide +kernel
theorem dX3_leastFrom_39 : decode cX3_leastFrom 39 = .ok (.isub, 1) := by decide +kernel
theorem dX3_leastFrom_40 : decode cX3_leastFrom 40 = .ok (.ireturn, 1) := by decide +kernel
theorem dX3_leastFrom_41 : decode cX3_leastFrom 41 = .ok (.aload_n 3, 1) := by decide +kernel
theorem dX3_leastFrom_42 : decode cX3_leastFrom 42 = .ok (.iload_n 1, 1) := by decide +kernel
theorem dX3_leastFrom_43 : decode cX3_leastFrom 43 = .ok (.invokevirtual 34, 3) := by decide +kernel
theorem dX3_leastFrom_46 : decode cX3_leastFrom 46 = .ok (.aload_n 0, 1) := by decide +kernel
theorem dX3_leastFrom_47 : decode cX3_leastFrom 47 = .ok (.getfield 11, 3) := by decide +kernel
theorem dX3_leastFrom_50 : decode cX3_leastFrom 50 = .ok (.iload_n 1, 1) := by decide +kernel
theorem dX3_leastFrom_51 : decode cX3_leastFrom 51 = .ok (.iconst 1, 1) := by decide +kernel
theorem dX3_leastFrom_52 : decode cX3_leastFrom 52 = .ok (.iadd, 1) := by decide +kernel
theorem dX3_leastFrom_53 : decode cX3_leastFrom 53 = .ok (.aaload, 1) := by decide +kernel
theorem dX3_leastFrom_54 : decode cX3_leastFrom 54 = .ok (.iload_n 2, 1) := by decide +kernel
theorem dX3_leastFrom_55 : decode cX3_leastFrom 55 = .ok (.iaload, 1) := by decide +kernel
theorem dX3_leastFrom_56 : decode cX3_leastFrom 56 = .ok (.iadd, 1) := by decide +kernel
theorem dX3_leastFrom_57 : decode cX3_leastFrom 57 = .ok (.aload 4, 2) := by decide +kernel
theorem dX3_leastFrom_59 : decode cX3_leastFrom 59 = .ok (.iload_n 2, 1) := by decide +kernel
theorem dX3_leastFrom_60 : decode cX3_leastFrom 60 = .ok (.invokevirtual 34, 3) := by decide +kernel
theorem dX3_leastFrom_63 : decode cX3_leastFrom 63 = .ok (.aload_n 0, 1) := by decide +kernel
theorem dX3_leastFrom_64 : decode cX3_leastFrom 64 = .ok (.getfield 11, 3) := by decide +kernel
theorem dX3_leastFrom_67 : decode cX3_leastFrom 67 = .ok (.iload_n 1, 1) := by decide +kernel
theorem dX3_leastFrom_68 : decode cX3_leastFrom 68 = .ok (.aaload, 1) := by decide +kernel
theorem dX3_leastFrom_69 : decode cX3_leastFrom 69 = .ok (.iload_n 2, 1) := by decide +kernel
theorem dX3_leastFrom_70 : decode cX3_leastFrom 70 = .ok (.iconst 1, 1) := by decide +kernel
theorem dX3_leastFrom_71 : decode cX3_leastFrom 71 = .ok (.iadd, 1) := by decide +kernel
theorem dX3_leastFrom_72 : decode cX3_leastFrom 72 = .ok (.iaload, 1) := by decide +kernel
theorem dX3_leastFrom_73 : decode cX3_leastFrom 73 = .ok (.iadd, 1) := by decide +kernel
theorem dX3_leastFrom_74 : decode cX3_leastFrom 74 = .ok (.invokestatic 37, 3) := by decide +kernel
theorem dX3_leastFrom_77 : decode cX3_leastFrom 77 = .ok (.istore 6, 2) := by decide +kernel
theorem dX3_leastFrom_79 : decode cX3_leastFrom 79 = .ok (.iload_n 1, 1) := by decide +kernel
theorem dX3_leastFrom_80 : decode cX3_leastFrom 80 = .ok (.iload_n 2, 1) := by decide +kernel
theorem dX3_leastFrom_81 : decode cX3_leastFrom 81 = .ok (.aload_n 3, 1) := by decide +kernel
theorem dX3_leastFrom_82 : decode cX3_leastFrom 82 = .ok (.aload 4, 2) := by decide +kernel
theorem dX3_leastFrom_84 : decode cX3_leastFrom 84 = .ok (.aload 5, 2) := by decide +kernel
theorem dX3_leastFrom_86 : decode cX3_leastFrom 86 = .ok (.invokestatic 43, 3) := by decide +kernel
theorem dX3_leastFrom_89 : decode cX3_leastFrom 89 = .ok (.ifCond .eq 20, 3) := by decide +kernel
theorem dX3_leastFrom_92 : decode cX3_leastFrom 92 = .ok (.iload 6, 2) := by decide +kernel
theorem dX3_leastFrom_94 : decode cX3_leastFrom 94 = .ok (.aload_n 0, 1) := by decide +kernel
theorem dX3_leastFrom_95 : decode cX3_leastFrom 95 = .ok (.iload_n 1, 1) := by decide +kernel
theorem dX3_leastFrom_96 : decode cX3_leastFrom 96 = .ok (.iload_n 2, 1) := by decide +kernel
theorem dX3_leastFrom_97 : decode cX3_leastFrom 97 = .ok (.aload_n 3, 1) := by decide +kernel
theorem dX3_leastFrom_98 : decode cX3_leastFrom 98 = .ok (.aload 4, 2) := by decide +kernel
theorem dX3_leastFrom_100 : decode cX3_leastFrom 100 = .ok (.invokevirtual 47, 3) := by decide +kernel
theorem dX3_leastFrom_103 : decode cX3_leastFrom 103 = .ok (.invokestatic 37, 3) := by decide +kernel
theorem dX3_leastFrom_106 : decode cX3_leastFrom 106 = .ok (.goto 5, 3) := by decide +kernel
theorem dX3_leastFrom_109 : decode cX3_leastFrom 109 = .ok (.iload 6, 2) := by decide +kernel
theorem dX3_leastFrom_111 : decode cX3_leastFrom 111 = .ok (.ireturn, 1) := by decide +kernel
theorem dX3_isAlike_0 : decode cX3_isAlike 0 = .ok (.aload 4, 2) := by decide +kernel
theorem dX3_isAlike_2 : decode cX3_isAlike 2 = .ok (.aload_n 2, 1) := by decide +kernel
theorem dX3_isAlike_3 : decode cX3_isAlike 3 = .ok (.getfield 51, 3) := by decide +kernel
theorem dX3_isAlike_6 : decode cX3_isAlike 6 = .ok (.iload_n 0, 1) := by decide +kernel
theorem dX3_isAlike_7 : decode cX3_isAlike 7 = .ok (.iaload, 1) := by decide +kernel
theorem dX3_isAlike_8 : decode cX3_isAlike 8 = .ok (.iaload, 1) := by decide +kernel
theorem dX3_isAlike_9 : decode cX3_isAlike 9 = .ok (.aload 4, 2) := by decide +kernel
theorem dX3_isAlike_11 : decode cX3_isAlike 11 = .ok (.aload_n 3, 1) := by decide +kernel
theorem dX3_isAlike_12 : decode cX3_isAlike 12 = .ok (.getfield 51, 3) := by decide +kernel
theorem dX3_isAlike_15 : decode cX3_isAlike 15 = .ok (.iload_n 1, 1) := by decide +kernel
theorem dX3_isAlike_16 : decode cX3_isAlike 16 = .ok (.iaload, 1) := by decide +kernel
theorem dX3_isAlike_17 : decode cX3_isAlike 17 = .ok (.iaload, 1) := by decide +kernel
theorem dX3_isAlike_18 : decode cX3_isAlike 18 = .ok (.if_icmp .ne 7, 3) := by decide +kernel
theorem dX3_isAlike_21 : decode cX3_isAlike 21 = .ok (.iconst 1, 1) := by decide +kernel
theorem dX3_isAlike_22 : decode cX3_isAlike 22 = .ok (.goto 4, 3) := by decide +kernel
theorem dX3_isAlike_25 : decode cX3_isAlike 25 = .ok (.iconst 0, 1) := by decide +kernel
theorem dX3_isAlike_26 : decode cX3_isAlike 26 = .ok (.ireturn, 1) := by decide +kernel
set_option maxRecDepth 20000 in
theorem ggX3_pairedSum_X2_thickness : GoodIn wsX3_pairedSum wsX2_thickness := goodIn_r _ [10, 11, 12, 13, 14, 9, 15, 17, 18, 19] (by decide +kernel) (by decide +kernel)
set_option maxRecDepth 20000 in
theorem gX3_pairedSum_X2_thickness : GoodIn wsX3_pairedSum (wsV RX3 34 RX2 yX2_thickness wsX2_thickness) := goodIn_app (goodIn_of _ (by decide +kernel)) ggX3_pairedSum_X2_thickness
theorem dX3_pairedSum_0 : decode cX3_pairedSum 0 = .ok (.aload_n 3, 1) := by decide +kernel
theorem dX3_pairedSum_1 : decode cX3_pairedSum 1 = .ok (.iload_n 1, 1) := by decide +kernel
theorem dX3_pairedSum_2 : decode cX3_pairedSum 2 = .ok (.invokevirtual 34, 3) := by decide +kernel
theorem dX3_pairedSum_5 : decode cX3_pairedSum 5 = .ok (.aload 4, 2) := by decide +kernel
theorem dX3_pairedSum_7 : decode cX3_pairedSum 7 = .ok (.iload_n 2, 1) := by decide +kernel
theorem dX3_pairedSum_8 : decode cX3_pairedSum 8 = .ok (.invokevirtual 34, 3) := by decide +kernel
theorem dX3_pairedSum_11 : decode cX3_pairedSum 11 = .ok (.isub, 1) := by decide +kernel
theorem dX3_pairedSum_12 : decode cX3_pairedSum 12 = .ok (.invokestatic 55, 3) := by decide +kernel
theorem dX3_pairedSum_15 : decode cX3_pairedSum 15 = .ok (.aload_n 0, 1) := by decide +kernel
theorem dX3_pairedSum_16 : decode cX3_pairedSum 16 = .ok (.getfield 11, 3) := by decide +kernel
theorem dX3_pairedSum_19 : decode cX3_pairedSum 19 = .ok (.iload_n 1, 1) := by decide +kernel
theorem dX3_pairedSum_20 : decode cX3_pairedSum 20 = .ok (.iconst 1, 1) := by decide +kernel
theorem dX3_pairedSum_21 : decode cX3_pairedSum 21 = .ok (.iadd, 1) := by decide +kernel
theorem dX3_pairedSum_22 : decode cX3_pairedSum 22 = .ok (.aaload, 1) := by decide +kernel
theorem dX3_pairedSum_23 : decode cX3_pairedSum 23 = .ok (.iload_n 2, 1) := by decide +kernel
theorem dX3_pairedSum_24 : decode cX3_pairedSum 24 = .ok (.iconst 1, 1) := by decide +kernel
theorem dX3_pairedSum_25 : decode cX3_pairedSum 25 = .ok (.iadd, 1) := by decide +kernel
theorem dX3_pairedSum_26 : decode cX3_pairedSum 26 = .ok (.iaload, 1) := by decide +kernel
theorem dX3_pairedSum_27 : decode cX3_pairedSum 27 = .ok (.iadd, 1) := by decide +kernel
theorem dX3_pairedSum_28 : decode cX3_pairedSum 28 = .ok (.ireturn, 1) := by decide +kernel
set_option maxRecDepth 20000 in
theorem ggX3_partnerOf_X3_leastPartner : GoodIn wsX3_partnerOf wsX3_leastPartner := goodIn_r _ [5, 6, 7, 8, 9, 10, 11, 12, 13, 14, 15, 4, 16, 17, 18, 19, 20, 21, 22, 23, 24, 25, 26, 27, 28, 29, 30, 31, 32, 33, 34] (by decide +kernel) (by decide +kernel)
set_option maxRecDepth 20000 in
theorem gX3_partnerOf_X3_leastPartner : GoodIn wsX3_partnerOf (wsV RX3 58 RX3 yX3_leastPartner wsX3_leastPartner) := goodIn_app (goodIn_of _ (by decide +kernel)) ggX3_partnerOf_X3_leastPartner
theorem dX3_partnerOf_0 : decode cX3_partnerOf 0 = .ok (.iconst 0, 1) := by decide +kernel
theorem dX3_partnerOf_1 : decode cX3_partnerOf 1 = .ok (.istore 5, 2) := by decide +kernel
theorem dX3_partnerOf_3 : decode cX3_partnerOf 3 = .ok (.iconst (-1), 1) := by decide +kernel
theorem dX3_partnerOf_4 : decode cX3_partnerOf 4 = .ok (.istore 6, 2) := by decide +kernel
theorem dX3_partnerOf_6 : decode cX3_partnerOf 6 = .ok (.iconst 0, 1) := by decide +kernel
theorem dX3_partnerOf_7 : decode cX3_partnerOf 7 = .ok (.istore 7, 2) := by decide +kernel
theorem dX3_partnerOf_9 : decode cX3_partnerOf 9 = .ok (.iload 7, 2) := by decide +kernel
theorem dX3_partnerOf_11 : decode cX3_partnerOf 11 = .ok (.iload_n 1, 1) := by decide +kernel
theorem dX3_partnerOf_12 : decode cX3_partnerOf 12 = .ok (.if_icmp .gt 35, 3) := by decide +kernel
theorem dX3_partnerOf_15 : decode cX3_partnerOf 15 = .ok (.aload_n 0, 1) := by decide +kernel
theorem dX3_partnerOf_16 : decode cX3_partnerOf 16 = .ok (.iload 7, 2) := by decide +kernel
theorem dX3_partnerOf_18 : decode cX3_partnerOf 18 = .ok (.iload 5, 2) := by decide +kernel
theorem dX3_partnerOf_20 : decode cX3_partnerOf 20 = .ok (.aload_n 2, 1) := by decide +kernel
theorem dX3_partnerOf_21 : decode cX3_partnerOf 21 = .ok (.aload_n 3, 1) := by decide +kernel
theorem dX3_partnerOf_22 : decode cX3_partnerOf 22 = .ok (.aload 4, 2) := by decide +kernel
theorem dX3_partnerOf_24 : decode cX3_partnerOf 24 = .ok (.invokevirtual 58, 3) := by decide +kernel
theorem dX3_partnerOf_27 : decode cX3_partnerOf 27 = .ok (.istore 6, 2) := by decide +kernel
theorem dX3_partnerOf_29 : decode cX3_partnerOf 29 = .ok (.iload 6, 2) := by decide +kernel
theorem dX3_partnerOf_31 : decode cX3_partnerOf 31 = .ok (.iconst (-1), 1) := by decide +kernel
theorem dX3_partnerOf_32 : decode cX3_partnerOf 32 = .ok (.if_icmp .eq 9, 3) := by decide +kernel
theorem dX3_partnerOf_35 : decode cX3_partnerOf 35 = .ok (.iload 6, 2) := by decide +kernel
theorem dX3_partnerOf_37 : decode cX3_partnerOf 37 = .ok (.iconst 1, 1) := by decide +kernel
theorem dX3_partnerOf_38 : decode cX3_partnerOf 38 = .ok (.iadd, 1) := by decide +kernel
theorem dX3_partnerOf_39 : decode cX3_partnerOf 39 = .ok (.istore 5, 2) := by decide +kernel
theorem dX3_partnerOf_41 : decode cX3_partnerOf 41 = .ok (.iinc 7 1, 3) := by decide +kernel
theorem dX3_partnerOf_44 : decode cX3_partnerOf 44 = .ok (.goto (-35), 3) := by decide +kernel
theorem dX3_partnerOf_47 : decode cX3_partnerOf 47 = .ok (.iload 6, 2) := by decide +kernel
theorem dX3_partnerOf_49 : decode cX3_partnerOf 49 = .ok (.ireturn, 1) := by decide +kernel
set_option maxRecDepth 20000 in
theorem ggX3_leastPartner_X2_top : GoodIn wsX3_leastPartner wsX2_top := goodIn_r _ [7, 8, 27, 28, 29] (by decide +kernel) (by decide +kernel)
set_option maxRecDepth 20000 in
theorem gX3_leastPartner_X2_top : GoodIn wsX3_leastPartner (wsV RX3 30 RX2 yX2_top wsX2_top) := goodIn_app (goodIn_of _ (by decide +kernel)) ggX3_leastPartner_X2_top
set_option maxRecDepth 20000 in
theorem ggX3_leastPartner_X3_isAlike : GoodIn wsX3_leastPartner wsX3_isAlike := goodIn_r _ [12, 13, 27, 28, 29] (by decide +kernel) (by decide +kernel)
set_option maxRecDepth 20000 in
theorem gX3_leastPartner_X3_isAlike : GoodIn wsX3_leastPartner (va_wsS RX3 43 yX3_isAlike wsX3_isAlike) := goodIn_app (goodIn_of _ (by decide +kernel)) ggX3_leastPartner_X3_isAlike
set_option maxRecDepth 20000 in
theorem ggX3_leastPartner_X3_pairedSum : GoodIn wsX3_leastPartner wsX3_pairedSum := goodIn_r _ [17, 18, 19, 20, 21, 2, 22, 23, 24, 6, 25, 8, 26, 4, 5, 7, 30, 27, 28, 29] (by decide +kernel) (by decide +kernel)
set_option maxRecDepth 20000 in
theorem gX3_leastPartner_X3_pairedSum : GoodIn wsX3_leastPartner (wsV RX3 47 RX3 yX3_pairedSum wsX3_pairedSum) := goodIn_app (goodIn_of _ (by decide +kernel)) ggX3_leastPartner_X3_pairedSum
theorem dX3_leastPartner_0 : decode cX3_leastPartner 0 = .ok (.iload_n 2, 1) := by decide +kernel
theorem dX3_leastPartner_1 : decode cX3_leastPartner 1 = .ok (.istore 6, 2) := by decide +kernel
theorem dX3_leastPartner_3 : decode cX3_leastPartner 3 = .ok (.iload 6, 2) := by decide +kernel
theorem dX3_leastPartner_5 : decode cX3_leastPartner 5 = .ok (.aload 4, 2) := by decide +kernel
theorem dX3_leastPartner_7 : decode cX3_leastPartner 7 = .ok (.getfield 16, 3) := by decide +kernel
theorem dX3_leastPartner_10 : decode cX3_leastPartner 10 = .ok (.if_icmp .ge 66, 3) := by decide +kernel
theorem dX3_leastPartner_13 : decode cX3_leastPartner 13 = .ok (.aload 4, 2) := by decide +kernel
theorem dX3_leastPartner_15 : decode cX3_leastPartner 15 = .ok (.iload 6, 2) := by decide +kernel
theorem dX3_leastPartner_17 : decode cX3_leastPartner 17 = .ok (.invokevirtual 30, 3) := by decide +kernel
theorem dX3_leastPartner_20 : decode cX3_leastPartner 20 = .ok (.aload 4, 2) := by decide +kernel
theorem dX3_leastPartner_22 : decode cX3_leastPartner 22 = .ok (.iload_n 2, 1) := by decide +kernel
theorem dX3_leastPartner_23 : decode cX3_leastPartner 23 = .ok (.invokevirtual 30, 3) := by decide +kernel
theorem dX3_leastPartner_26 : decode cX3_leastPartner 26 = .ok (.isub, 1) := by decide +kernel
theorem dX3_leastPartner_27 : decode cX3_leastPartner 27 = .ok (.istore 7, 2) := by decide +kernel
theorem dX3_leastPartner_29 : decode cX3_leastPartner 29 = .ok (.iload_n 1, 1) := by decide +kernel
theorem dX3_leastPartner_30 : decode cX3_leastPartner 30 = .ok (.iload 6, 2) := by decide +kernel
theorem dX3_leastPartner_32 : decode cX3_leastPartner 32 = .ok (.aload_n 3, 1) := by decide +kernel
theorem dX3_leastPartner_33 : decode cX3_leastPartner 33 = .ok (.aload 4, 2) := by decide +kernel
theorem dX3_leastPartner_35 : decode cX3_leastPartner 35 = .ok (.aload 5, 2) := by decide +kernel
theorem dX3_leastPartner_37 : decode cX3_leastPartner 37 = .ok (.invokestatic 43, 3) := by decide +kernel
theorem dX3_leastPartner_40 : decode cX3_leastPartner 40 = .ok (.ifCond .eq 30, 3) := by decide +kernel
theorem dX3_leastPartner_43 : decode cX3_leastPartner 43 = .ok (.iload 7, 2) := by decide +kernel
theorem dX3_leastPartner_45 : decode cX3_leastPartner 45 = .ok (.aload_n 0, 1) := by decide +kernel
theorem dX3_leastPartner_46 : decode cX3_leastPartner 46 = .ok (.iload_n 1, 1) := by decide +kernel
theorem dX3_leastPartner_47 : decode cX3_leastPartner 47 = .ok (.iload 6, 2) := by decide +kernel
theorem dX3_leastPartner_49 : decode cX3_leastPartner 49 = .ok (.aload_n 3, 1) := by decide +kernel
theorem dX3_leastPartner_50 : decode cX3_leastPartner 50 = .ok (.aload 4, 2) := by decide +kernel
theorem dX3_leastPartner_52 : decode cX3_leastPartner 52 = .ok (.invokevirtual 47, 3) := by decide +kernel
theorem dX3_leastPartner_55 : decode cX3_leastPartner 55 = .ok (.iadd, 1) := by decide +kernel
theorem dX3_leastPartner_56 : decode cX3_leastPartner 56 = .ok (.aload_n 0, 1) := by decide +kernel
theorem dX3_leastPartner_57 : decode cX3_leastPartner 57 = .ok (.getfield 11, 3) := by decide +kernel
theorem dX3_leastPartner_60 : decode cX3_leastPartner 60 = .ok (.iload_n 1, 1) := by decide +kernel
theorem dX3_leastPartner_61 : decode cX3_leastPartner 61 = .ok (.aaload, 1) := by decide +kernel
theorem dX3_leastPartner_62 : decode cX3_leastPartner 62 = .ok (.iload_n 2, 1) := by decide +kernel
theorem dX3_leastPartner_63 : decode cX3_leastPartner 63 = .ok (.iaload, 1) := by decide +kernel
theorem dX3_leastPartner_64 : decode cX3_leastPartner 64 = .ok (.if_icmp .ne 6, 3) := by decide +kernel
theorem dX3_leastPartner_67 : decode cX3_leastPartner 67 = .ok (.iload 6, 2) := by decide +kernel
theorem dX3_leastPartner_69 : decode cX3_leastPartner 69 = .ok (.ireturn, 1) := by decide +kernel
theorem dX3_leastPartner_70 : decode cX3_leastPartner 70 = .ok (.iinc 6 1, 3) := by decide +kernel
theorem dX3_leastPartner_73 : decode cX3_leastPartner 73 = .ok (.goto (-70), 3) := by decide +kernel
theorem dX3_leastPartner_76 : decode cX3_leastPartner 76 = .ok (.iconst (-1), 1) := by decide +kernel
theorem dX3_leastPartner_77 : decode cX3_leastPartner 77 = .ok (.ireturn, 1) := by decide +kernel
theorem dX4_init_0 : decode cX4_init 0 = .ok (.aload_n 0, 1) := by decide +kernel
theorem dX4_init_1 : decode cX4_init 1 = .ok (.invokespecial 3, 3) := by decide +kernel
theorem dX4_init_4 : decode cX4_init 4 = .ok (.aload_n 0, 1) := by decide +kernel
theorem dX4_init_5 : decode cX4_init 5 = .ok (.bipush 20, 2) := by decide +kernel
theorem dX4_init_7 : decode cX4_init 7 = .ok (.newarray .int, 2) := by decide +kernel
theorem dX4_init_9 : decode cX4_init 9 = .ok (.putfield 9, 3) := by decide +kernel
theorem dX4_init_12 : decode cX4_init 12 = .ok (.aload_n 0, 1) := by decide +kernel
theorem dX4_init_13 : decode cX4_init 13 = .ok (.bipush 20, 2) := by decide +kernel
theorem dX4_init_15 : decode cX4_init 15 = .ok (.newarray .boolean, 2) := by decide +kernel
theorem dX4_init_17 : decode cX4_init 17 = .ok (.putfield 15, 3) := by decide +kernel
theorem dX4_init_20 : decode cX4_init 20 = .ok (.return_, 1) := by decide +kernel
set_option maxRecDepth 20000 in
theorem ggX4_choose_X4_measure : GoodIn wsX4_choose wsX4_measure := goodIn_r _ [9, 1, 4, 3, 10, 11, 12, 13, 14, 15, 16, 17, 8, 18, 19, 20, 21, 22, 23, 24, 25, 26, 27, 28] (by decide +kernel) (by decide +kernel)
set_option maxRecDepth 20000 in
theorem gX4_choose_X4_measure : GoodIn wsX4_choose (wsV RX4 19 RX4 yX4_measure wsX4_measure) := goodIn_app (goodIn_of _ (by decide +kernel)) ggX4_choose_X4_measure
theorem dX4_choose_0 : decode cX4_choose 0 = .ok (.aload_n 0, 1) := by decide +kernel
theorem dX4_choose_1 : decode cX4_choose 1 = .ok (.aload_n 1, 1) := by decide +kernel
theorem dX4_choose_2 : decode cX4_choose 2 = .ok (.invokevirtual 19, 3) := by decide +kernel
theorem dX4_choose_5 : decode cX4_choose 5 = .ok (.istore_n 2, 1) := by decide +kernel
theorem dX4_choose_6 : decode cX4_choose 6 = .ok (.iload_n 2, 1) := by decide +kernel
theorem dX4_choose_7 : decode cX4_choose 7 = .ok (.istore_n 3, 1) := by decide +kernel
theorem dX4_choose_8 : decode cX4_choose 8 = .ok (.iconst (-1), 1) := by decide +kernel
theorem dX4_choose_9 : decode cX4_choose 9 = .ok (.istore 4, 2) := by decide +kernel
theorem dX4_choose_11 : decode cX4_choose 11 = .ok (.iconst 0, 1) := by decide +kernel
theorem dX4_choose_12 : decode cX4_choose 12 = .ok (.istore 5, 2) := by decide +kernel
theorem dX4_choose_14 : decode cX4_choose 14 = .ok (.iload 5, 2) := by decide +kernel
theorem dX4_choose_16 : decode cX4_choose 16 = .ok (.aload_n 1, 1) := by decide +kernel
theorem dX4_choose_17 : decode cX4_choose 17 = .ok (.getfield 23, 3) := by decide +kernel
theorem dX4_choose_20 : decode cX4_choose 20 = .ok (.if_icmp .ge 70, 3) := by decide +kernel
theorem dX4_choose_23 : decode cX4_choose 23 = .ok (.aload_n 0, 1) := by decide +kernel
theorem dX4_choose_24 : decode cX4_choose 24 = .ok (.getfield 15, 3) := by decide +kernel
theorem dX4_choose_27 : decode cX4_choose 27 = .ok (.iload 5, 2) := by decide +kernel
theorem dX4_choose_29 : decode cX4_choose 29 = .ok (.iload_n 3, 1) := by decide +kernel
theorem dX4_choose_30 : decode cX4_choose 30 = .ok (.ifCond .le 30, 3) := by decide +kernel
theorem dX4_choose_33 : decode cX4_choose 33 = .ok (.aload_n 1, 1) := by decide +kernel
theorem dX4_choose_34 : decode cX4_choose 34 = .ok (.getfield 29, 3) := by decide +kernel
theorem dX4_choose_37 : decode cX4_choose 37 = .ok (.iload 5, 2) := by decide +kernel
theorem dX4_choose_39 : decode cX4_choose 39 = .ok (.iaload, 1) := by decide +kernel
theorem dX4_choose_40 : decode cX4_choose 40 = .ok (.iload 4, 2) := by decide +kernel
theorem dX4_choose_42 : decode cX4_choose 42 = .ok (.if_icmp .le 18, 3) := by decide +kernel
theorem dX4_choose_45 : decode cX4_choose 45 = .ok (.aload_n 0, 1) := by decide +kernel
theorem dX4_choose_46 : decode cX4_choose 46 = .ok (.getfield 9, 3) := by decide +kernel
theorem dX4_choose_49 : decode cX4_choose 49 = .ok (.iload 5, 2) := by decide +kernel
theorem dX4_choose_51 : decode cX4_choose 51 = .ok (.iaload, 1) := by decide +kernel
theorem dX4_choose_52 : decode cX4_choose 52 = .ok (.iload_n 3, 1) := by decide +kernel
theorem dX4_choose_53 : decode cX4_choose 53 = .ok (.if_icmp .ne 7, 3) := by decide +kernel
theorem dX4_choose_56 : decode cX4_choose 56 = .ok (.iconst 1, 1) := by decide +kernel
theorem dX4_choose_57 : decode cX4_choose 57 = .ok (.goto 4, 3) := by decide +kernel
theorem dX4_choose_60 : decode cX4_choose 60 = .ok (.iconst 0, 1) := by decide +kernel
theorem dX4_choose_61 : decode cX4_choose 61 = .ok (.bastore, 1) := by decide +kernel
theorem dX4_choose_62 : decode cX4_choose 62 = .ok (.aload_n 0, 1) := by decide +kernel
theorem dX4_choose_63 : decode cX4_choose 63 = .ok (.getfield 15, 3) := by decide +kernel
theorem dX4_choose_66 : decode cX4_choose 66 = .ok (.iload 5, 2) := by decide +kernel
theorem dX4_choose_68 : decode cX4_choose 68 = .ok (.baload, 1) := by decide +kernel
theorem dX4_choose_69 : decode cX4_choose 69 = .ok (.ifCond .eq 15, 3) := by decide +kernel
theorem dX4_choose_72 : decode cX4_choose 72 = .ok (.aload_n 1, 1) := by decide +kernel
theorem dX4_choose_73 : decode cX4_choose 73 = .ok (.getfield 29, 3) := by decide +kernel
theorem dX4_choose_76 : decode cX4_choose 76 = .ok (.iload 5, 2) := by decide +kernel
theorem dX4_choose_78 : decode cX4_choose 78 = .ok (.iaload, 1) := by decide +kernel
theorem dX4_choose_79 : decode cX4_choose 79 = .ok (.istore 4, 2) := by decide +kernel
theorem dX4_choose_81 : decode cX4_choose 81 = .ok (.iinc 3 (-1), 3) := by decide +kernel
theorem dX4_choose_84 : decode cX4_choose 84 = .ok (.iinc 5 1, 3) := by decide +kernel
theorem dX4_choose_87 : decode cX4_choose 87 = .ok (.goto (-73), 3) := by decide +kernel
theorem dX4_choose_90 : decode cX4_choose 90 = .ok (.iload_n 2, 1) := by decide +kernel
theorem dX4_choose_91 : decode cX4_choose 91 = .ok (.ireturn, 1) := by decide +kernel
set_option maxRecDepth 20000 in
theorem ggX4_measure_X4_mostAbove : GoodIn wsX4_measure wsX4_mostAbove := goodIn_r _ [13, 1, 3, 2, 5, 6, 7, 8, 14, 15, 16, 17, 18, 19, 20, 21, 22, 23] (by decide +kernel) (by decide +kernel)
set_option maxRecDepth 20000 in
theorem gX4_measure_X4_mostAbove : GoodIn wsX4_measure (wsV RX4 35 RX4 yX4_mostAbove wsX4_mostAbove) := goodIn_app (goodIn_of _ (by decide +kernel)) ggX4_measure_X4_mostAbove
theorem dX4_measure_0 : decode cX4_measure 0 = .ok (.iconst 0, 1) := by decide +kernel
theorem dX4_measure_1 : decode cX4_measure 1 = .ok (.istore_n 2, 1) := by decide +kernel
theorem dX4_measure_2 : decode cX4_measure 2 = .ok (.aload_n 1, 1) := by decide +kernel
theorem dX4_measure_3 : decode cX4_measure 3 = .ok (.getfield 23, 3) := by decide +kernel
theorem dX4_measure_6 : decode cX4_measure 6 = .ok (.iconst 1, 1) := by decide +kernel
theorem dX4_measure_7 : decode cX4_measure 7 = .ok (.isub, 1) := by decide +kernel
theorem dX4_measure_8 : decode cX4_measure 8 = .ok (.istore_n 3, 1) := by decide +kernel
theorem dX4_measure_9 : decode cX4_measure 9 = .ok (.iload_n 3, 1) := by decide +kernel
theorem dX4_measure_10 : decode cX4_measure 10 = .ok (.ifCond .lt 51, 3) := by decide +kernel
theorem dX4_measure_13 : decode cX4_measure 13 = .ok (.aload_n 0, 1) := by decide +kernel
theorem dX4_measure_14 : decode cX4_measure 14 = .ok (.getfield 9, 3) := by decide +kernel
theorem dX4_measure_17 : decode cX4_measure 17 = .ok (.iload_n 3, 1) := by decide +kernel
theorem dX4_measure_18 : decode cX4_measure 18 = .ok (.aload_n 1, 1) := by decide +kernel
theorem dX4_measure_19 : decode cX4_measure 19 = .ok (.getfield 29, 3) := by decide +kernel
theorem dX4_measure_22 : decode cX4_measure 22 = .ok (.iload_n 3, 1) := by decide +kernel
theorem dX4_measure_23 : decode cX4_measure 23 = .ok (.iaload, 1) := by decide +kernel
theorem dX4_measure_24 : decode cX4_measure 24 = .ok (.aload_n 1, 1) := by decide +kernel
theorem dX4_measure_25 : decode cX4_measure 25 = .ok (.getfield 32, 3) := by decide +kernel
theorem dX4_measure_28 : decode cX4_measure 28 = .ok (.if_icmp .le 7, 3) := by decide +kernel
theorem dX4_measure_31 : decode cX4_measure 31 = .ok (.iconst 0, 1) := by decide +kernel
theorem dX4_measure_32 : decode cX4_measure 32 = .ok (.goto 11, 3) := by decide +kernel
theorem dX4_measure_35 : decode cX4_measure 35 = .ok (.iconst 1, 1) := by decide +kernel
theorem dX4_measure_36 : decode cX4_measure 36 = .ok (.aload_n 0, 1) := by decide +kernel
theorem dX4_measure_37 : decode cX4_measure 37 = .ok (.aload_n 1, 1) := by decide +kernel
theorem dX4_measure_38 : decode cX4_measure 38 = .ok (.iload_n 3, 1) := by decide +kernel
theorem dX4_measure_39 : decode cX4_measure 39 = .ok (.invokevirtual 35, 3) := by decide +kernel
theorem dX4_measure_42 : decode cX4_measure 42 = .ok (.iadd, 1) := by decide +kernel
theorem dX4_measure_43 : decode cX4_measure 43 = .ok (.iastore, 1) := by decide +kernel
theorem dX4_measure_44 : decode cX4_measure 44 = .ok (.iload_n 2, 1) := by decide +kernel
theorem dX4_measure_45 : decode cX4_measure 45 = .ok (.aload_n 0, 1) := by decide +kernel
theorem dX4_measure_46 : decode cX4_measure 46 = .ok (.getfield 9, 3) := by decide +kernel
theorem dX4_measure_49 : decode cX4_measure 49 = .ok (.iload_n 3, 1) := by decide +kernel
theorem dX4_measure_50 : decode cX4_measure 50 = .ok (.iaload, 1) := by decide +kernel
theorem dX4_measure_51 : decode cX4_measure 51 = .ok (.invokestatic 39, 3) := by decide +kernel
theorem dX4_measure_54 : decode cX4_measure 54 = .ok (.istore_n 2, 1) := by decide +kernel
theorem dX4_measure_55 : decode cX4_measure 55 = .ok (.iinc 3 (-1), 3) := by decide +kernel
theorem dX4_measure_58 : decode cX4_measure 58 = .ok (.goto (-49), 3) := by decide +kernel
theorem dX4_measure_61 : decode cX4_measure 61 = .ok (.iload_n 2, 1) := by decide +kernel
theorem dX4_measure_62 : decode cX4_measure 62 = .ok (.ireturn, 1) := by decide +kernel
theorem dX4_mostAbove_0 : decode cX4_mostAbove 0 = .ok (.iconst 0, 1) := by decide +kernel
theorem dX4_mostAbove_1 : decode cX4_mostAbove 1 = .ok (.istore_n 3, 1) := by decide +kernel
theorem dX4_mostAbove_2 : decode cX4_mostAbove 2 = .ok (.iload_n 2, 1) := by decide +kernel
theorem dX4_mostAbove_3 : decode cX4_mostAbove 3 = .ok (.iconst 1, 1) := by decide +kernel
theorem dX4_mostAbove_4 : decode cX4_mostAbove 4 = .ok (.iadd, 1) := by decide +kernel
theorem dX4_mostAbove_5 : decode cX4_mostAbove 5 = .ok (.istore 4, 2) := by decide +kernel
theorem dX4_mostAbove_7 : decode cX4_mostAbove 7 = .ok (.iload 4, 2) := by decide +kernel
theorem dX4_mostAbove_9 : decode cX4_mostAbove 9 = .ok (.aload_n 1, 1) := by decide +kernel
theorem dX4_mostAbove_10 : decode cX4_mostAbove 10 = .ok (.getfield 23, 3) := by decide +kernel
theorem dX4_mostAbove_13 : decode cX4_mostAbove 13 = .ok (.if_icmp .ge 37, 3) := by decide +kernel
theorem dX4_mostAbove_16 : decode cX4_mostAbove 16 = .ok (.aload_n 1, 1) := by decide +kernel
theorem dX4_mostAbove_17 : decode cX4_mostAbove 17 = .ok (.getfield 29, 3) := by decide +kernel
theorem dX4_mostAbove_20 : decode cX4_mostAbove 20 = .ok (.iload 4, 2) := by decide +kernel
theorem dX4_mostAbove_22 : decode cX4_mostAbove 22 = .ok (.iaload, 1) := by decide +kernel
theorem dX4_mostAbove_23 : decode cX4_mostAbove 23 = .ok (.aload_n 1, 1) := by decide +kernel
theorem dX4_mostAbove_24 : decode cX4_mostAbove 24 = .ok (.getfield 29, 3) := by decide +kernel
theorem dX4_mostAbove_27 : decode cX4_mostAbove 27 = .ok (.iload_n 2, 1) := by decide +kernel
theorem dX4_mostAbove_28 : decode cX4_mostAbove 28 = .ok (.iaload, 1) := by decide +kernel
theorem dX4_mostAbove_29 : decode cX4_mostAbove 29 = .ok (.if_icmp .le 15, 3) := by decide +kernel
theorem dX4_mostAbove_32 : decode cX4_mostAbove 32 = .ok (.iload_n 3, 1) := by decide +kernel
theorem dX4_mostAbove_33 : decode cX4_mostAbove 33 = .ok (.aload_n 0, 1) := by decide +kernel
theorem dX4_mostAbove_34 : decode cX4_mostAbove 34 = .ok (.getfield 9, 3) := by decide +kernel
theorem dX4_mostAbove_37 : decode cX4_mostAbove 37 = .ok (.iload 4, 2) := by decide +kernel
theorem dX4_mostAbove_39 : decode cX4_mostAbove 39 = .ok (.iaload, 1) := by decide +kernel
theorem dX4_mostAbove_40 : decode cX4_mostAbove 40 = .ok (.invokestatic 39, 3) := by decide +kernel
theorem dX4_mostAbove_43 : decode cX4_mostAbove 43 = .ok (.istore_n 3, 1) := by decide +kernel
theorem dX4_mostAbove_44 : decode cX4_mostAbove 44 = .ok (.iinc 4 1, 3) := by decide +kernel
theorem dX4_mostAbove_47 : decode cX4_mostAbove 47 = .ok (.goto (-40), 3) := by decide +kernel
theorem dX4_mostAbove_50 : decode cX4_mostAbove 50 = .ok (.iload_n 3, 1) := by decide +kernel
theorem dX4_mostAbove_51 : decode cX4_mostAbove 51 = .ok (.ireturn, 1) := by decide +kernel
theorem dX5_init_0 : decode cX5_init 0 = .ok (.aload_n 0, 1) := by decide +kernel
theorem dX5_init_1 : decode cX5_init 1 = .ok (.invokespecial 1, 3) := by decide +kernel
theorem dX5_init_4 : decode cX5_init 4 = .ok (.aload_n 0, 1) := by decide +kernel
theorem dX5_init_5 : decode cX5_init 5 = .ok (.iload_n 1, 1) := by decide +kernel
theorem dX5_init_6 : decode cX5_init 6 = .ok (.putfield 7, 3) := by decide +kernel
theorem dX5_init_9 : decode cX5_init 9 = .ok (.aload_n 0, 1) := by decide +kernel
theorem dX5_init_10 : decode cX5_init 10 = .ok (.iload_n 2, 1) := by decide +kernel
theorem dX5_init_11 : decode cX5_init 11 = .ok (.putfield 13, 3) := by decide +kernel
theorem dX5_init_14 : decode cX5_init 14 = .ok (.aload_n 0, 1) := by decide +kernel
theorem dX5_init_15 : decode cX5_init 15 = .ok (.iload_n 3, 1) := by decide +kernel
theorem dX5_init_16 : decode cX5_init 16 = .ok (.putfield 16, 3) := by decide +kernel
theorem dX5_init_19 : decode cX5_init 19 = .ok (.return_, 1) := by decide +kernel
theorem dX5_lower_0 : decode cX5_lower 0 = .ok (.aload_n 0, 1) := by decide +kernel
theorem dX5_lower_1 : decode cX5_lower 1 = .ok (.getfield 19, 3) := by decide +kernel
theorem dX5_lower_4 : decode cX5_lower 4 = .ok (.iconst 0, 1) := by decide +kernel
theorem dX5_lower_5 : decode cX5_lower 5 = .ok (.invokestatic 22, 3) := by decide +kernel
theorem dX5_lower_8 : decode cX5_lower 8 = .ok (.ireturn, 1) := by decide +kernel
theorem dX5_upper_0 : decode cX5_upper 0 = .ok (.aload_n 0, 1) := by decide +kernel
theorem dX5_upper_1 : decode cX5_upper 1 = .ok (.getfield 19, 3) := by decide +kernel
theorem dX5_upper_4 : decode cX5_upper 4 = .ok (.ifCond .ge 13, 3) := by decide +kernel
theorem dX5_upper_7 : decode cX5_upper 7 = .ok (.aload_n 0, 1) := by decide +kernel
theorem dX5_upper_8 : decode cX5_upper 8 = .ok (.getfield 19, 3) := by decide +kernel
theorem dX5_upper_11 : decode cX5_upper 11 = .ok (.ineg, 1) := by decide +kernel
theorem dX5_upper_12 : decode cX5_upper 12 = .ok (.iconst 1, 1) := by decide +kernel
theorem dX5_upper_13 : decode cX5_upper 13 = .ok (.isub, 1) := by decide +kernel
theorem dX5_upper_14 : decode cX5_upper 14 = .ok (.goto 7, 3) := by decide +kernel
theorem dX5_upper_17 : decode cX5_upper 17 = .ok (.aload_n 0, 1) := by decide +kernel
theorem dX5_upper_18 : decode cX5_upper 18 = .ok (.getfield 19, 3) := by decide +kernel
theorem dX5_upper_21 : decode cX5_upper 21 = .ok (.ireturn, 1) := by decide +kernel
set_option maxRecDepth 20000 in
theorem ggX5_endOn_X5_lower : GoodIn wsX5_endOn wsX5_lower := goodIn_r _ [5, 6, 7, 8, 9, 10, 15, 16, 17, 18, 19] (by decide +kernel) (by decide +kernel)
set_option maxRecDepth 20000 in
theorem gX5_endOn_X5_lower : GoodIn wsX5_endOn (wsV RX5 28 RX5 yX5_lower wsX5_lower) := goodIn_app (goodIn_of _ (by decide +kernel)) ggX5_endOn_X5_lower
set_option maxRecDepth 20000 in
theorem ggX5_endOn_X5_upper : GoodIn wsX5_endOn wsX5_upper := goodIn_r _ [14, 6, 15, 16, 17, 18, 19] (by decide +kernel) (by decide +kernel)
set_option maxRecDepth 20000 in
theorem gX5_endOn_X5_upper : GoodIn wsX5_endOn (wsV RX5 32 RX5 yX5_upper wsX5_upper) := goodIn_app (goodIn_of _ (by decide +kernel)) ggX5_endOn_X5_upper
theorem dX5_endOn_0 : decode cX5_endOn 0 = .ok (.iload_n 1, 1) := by decide +kernel
theorem dX5_endOn_1 : decode cX5_endOn 1 = .ok (.ifCond .ne 10, 3) := by decide +kernel
theorem dX5_endOn_4 : decode cX5_endOn 4 = .ok (.aload_n 0, 1) := by decide +kernel
theorem dX5_endOn_5 : decode cX5_endOn 5 = .ok (.invokevirtual 28, 3) := by decide +kernel
theorem dX5_endOn_8 : decode cX5_endOn 8 = .ok (.goto 7, 3) := by decide +kernel
theorem dX5_endOn_11 : decode cX5_endOn 11 = .ok (.aload_n 0, 1) := by decide +kernel
theorem dX5_endOn_12 : decode cX5_endOn 12 = .ok (.invokevirtual 32, 3) := by decide +kernel
theorem dX5_endOn_15 : decode cX5_endOn 15 = .ok (.ireturn, 1) := by decide +kernel
theorem dX5_exchangeResult_0 : decode cX5_exchangeResult 0 = .ok (.aload_n 0, 1) := by decide +kernel
theorem dX5_exchangeResult_1 : decode cX5_exchangeResult 1 = .ok (.getfield 19, 3) := by decide +kernel
theorem dX5_exchangeResult_4 : decode cX5_exchangeResult 4 = .ok (.istore_n 2, 1) := by decide +kernel
theorem dX5_exchangeResult_5 : decode cX5_exchangeResult 5 = .ok (.aload_n 0, 1) := by decide +kernel
theorem dX5_exchangeResult_6 : decode cX5_exchangeResult 6 = .ok (.aload_n 1, 1) := by decide +kernel
theorem dX5_exchangeResult_7 : decode cX5_exchangeResult 7 = .ok (.getfield 19, 3) := by decide +kernel
theorem dX5_exchangeResult_10 : decode cX5_exchangeResult 10 = .ok (.putfield 19, 3) := by decide +kernel
theorem dX5_exchangeResult_13 : decode cX5_exchangeResult 13 = .ok (.aload_n 1, 1) := by decide +kernel
theorem dX5_exchangeResult_14 : decode cX5_exchangeResult 14 = .ok (.iload_n 2, 1) := by decide +kernel
theorem dX5_exchangeResult_15 : decode cX5_exchangeResult 15 = .ok (.putfield 19, 3) := by decide +kernel
theorem dX5_exchangeResult_18 : decode cX5_exchangeResult 18 = .ok (.return_, 1) := by decide +kernel
theorem dX5_told_0 : decode cX5_told 0 = .ok (.iload_n 1, 1) := by decide +kernel
theorem dX5_told_1 : decode cX5_told 1 = .ok (.tableswitch 59 0 3 #[31, 36, 41, 46], 31) := by decide +kernel
theorem dX5_told_32 : decode cX5_told 32 = .ok (.aload_n 0, 1) := by decide +kernel
theorem dX5_told_33 : decode cX5_told 33 = .ok (.getfield 7, 3) := by decide +kernel
theorem dX5_told_36 : decode cX5_told 36 = .ok (.ireturn, 1) := by decide +kernel
theorem dX5_told_37 : decode cX5_told 37 = .ok (.aload_n 0, 1) := by decide +kernel
theorem dX5_told_38 : decode cX5_told 38 = .ok (.getfield 13, 3) := by decide +kernel
theorem dX5_told_41 : decode cX5_told 41 = .ok (.ireturn, 1) := by decide +kernel
theorem dX5_told_42 : decode cX5_told 42 = .ok (.aload_n 0, 1) := by decide +kernel
theorem dX5_told_43 : decode cX5_told 43 = .ok (.getfield 16, 3) := by decide +kernel
theorem dX5_told_46 : decode cX5_told 46 = .ok (.ireturn, 1) := by decide +kernel
theorem dX5_told_47 : decode cX5_told 47 = .ok (.aload_n 0, 1) := by decide +kernel
theorem dX5_told_48 : decode cX5_told 48 = .ok (.getfield 35, 3) := by decide +kernel
theorem dX5_told_51 : decode cX5_told 51 = .ok (.ifCond .eq 7, 3) := by decide +kernel
theorem dX5_told_54 : decode cX5_told 54 = .ok (.iconst 1, 1) := by decide +kernel
theorem dX5_told_55 : decode cX5_told 55 = .ok (.goto 4, 3) := by decide +kernel
theorem dX5_told_58 : decode cX5_told 58 = .ok (.iconst 0, 1) := by decide +kernel
theorem dX5_told_59 : decode cX5_told 59 = .ok (.ireturn, 1) := by decide +kernel
theorem dX5_told_60 : decode cX5_told 60 = .ok (.aload_n 0, 1) := by decide +kernel
theorem dX5_told_61 : decode cX5_told 61 = .ok (.getfield 19, 3) := by decide +kernel
theorem dX5_told_64 : decode cX5_told 64 = .ok (.ireturn, 1) := by decide +kernel
theorem dX6_init_0 : decode cX6_init 0 = .ok (.aload_n 0, 1) := by decide +kernel
theorem dX6_init_1 : decode cX6_init 1 = .ok (.invokespecial 3, 3) := by decide +kernel
theorem dX6_init_4 : decode cX6_init 4 = .ok (.aload_n 0, 1) := by decide +kernel
theorem dX6_init_5 : decode cX6_init 5 = .ok (.iconst 4, 1) := by decide +kernel
theorem dX6_init_6 : decode cX6_init 6 = .ok (.putfield 9, 3) := by decide +kernel
theorem dX6_init_9 : decode cX6_init 9 = .ok (.aload_n 0, 1) := by decide +kernel
theorem dX6_init_10 : decode cX6_init 10 = .ok (.iload_n 1, 1) := by decide +kernel
theorem dX6_init_11 : decode cX6_init 11 = .ok (.putfield 15, 3) := by decide +kernel
theorem dX6_init_14 : decode cX6_init 14 = .ok (.aload_n 0, 1) := by decide +kernel
theorem dX6_init_15 : decode cX6_init 15 = .ok (.iload_n 2, 1) := by decide +kernel
theorem dX6_init_16 : decode cX6_init 16 = .ok (.putfield 18, 3) := by decide +kernel
theorem dX6_init_19 : decode cX6_init 19 = .ok (.aload_n 0, 1) := by decide +kernel
theorem dX6_init_20 : decode cX6_init 20 = .ok (.iload_n 3, 1) := by decide +kernel
theorem dX6_init_21 : decode cX6_init 21 = .ok (.putfield 21, 3) := by decide +kernel
theorem dX6_init_24 : decode cX6_init 24 = .ok (.return_, 1) := by decide +kernel
set_option maxRecDepth 20000 in
theorem ggX6_unitsWithin_X7_unitsInCommon : GoodIn wsX6_unitsWithin wsX7_unitsInCommon := goodIn_r _ [6, 7, 8, 9, 10, 11, 12, 13] (by decide +kernel) (by decide +kernel)
set_option maxRecDepth 20000 in
theorem gX6_unitsWithin_X7_unitsInCommon_n24 : GoodIn wsX6_unitsWithin (wsX7_unitsInCommon) := ggX6_unitsWithin_X7_unitsInCommon
theorem dX6_unitsWithin_0 : decode cX6_unitsWithin 0 = .ok (.aload_n 0, 1) := by decide +kernel
theorem dX6_unitsWithin_1 : decode cX6_unitsWithin 1 = .ok (.getfield 15, 3) := by decide +kernel
theorem dX6_unitsWithin_4 : decode cX6_unitsWithin 4 = .ok (.iload_n 1, 1) := by decide +kernel
theorem dX6_unitsWithin_5 : decode cX6_unitsWithin 5 = .ok (.if_icmp .ne 19, 3) := by decide +kernel
theorem dX6_unitsWithin_8 : decode cX6_unitsWithin 8 = .ok (.aload_n 0, 1) := by decide +kernel
theorem dX6_unitsWithin_9 : decode cX6_unitsWithin 9 = .ok (.getfield 18, 3) := by decide +kernel
theorem dX6_unitsWithin_12 : decode cX6_unitsWithin 12 = .ok (.aload_n 0, 1) := by decide +kernel
theorem dX6_unitsWithin_13 : decode cX6_unitsWithin 13 = .ok (.getfield 21, 3) := by decide +kernel
theorem dX6_unitsWithin_16 : decode cX6_unitsWithin 16 = .ok (.iload_n 2, 1) := by decide +kernel
theorem dX6_unitsWithin_17 : decode cX6_unitsWithin 17 = .ok (.iload_n 3, 1) := by decide +kernel
theorem dX6_unitsWithin_18 : decode cX6_unitsWithin 18 = .ok (.invokestatic 24, 3) := by decide +kernel
theorem dX6_unitsWithin_21 : decode cX6_unitsWithin 21 = .ok (.goto 4, 3) := by decide +kernel
theorem dX6_unitsWithin_24 : decode cX6_unitsWithin 24 = .ok (.iconst 0, 1) := by decide +kernel
theorem dX6_unitsWithin_25 : decode cX6_unitsWithin 25 = .ok (.ireturn, 1) := by decide +kernel
set_option maxRecDepth 20000 in
theorem ggX6_digestOnto_X7_mixed : GoodIn wsX6_digestOnto wsX7_mixed := goodIn_r _ [7, 8] (by decide +kernel) (by decide +kernel)
set_option maxRecDepth 20000 in
theorem gX6_digestOnto_X7_mixed_n28 : GoodIn wsX6_digestOnto (wsX7_mixed) := ggX6_digestOnto_X7_mixed
theorem dX6_digestOnto_0 : decode cX6_digestOnto 0 = .ok (.lload_n 1, 1) := by decide +kernel
theorem dX6_digestOnto_1 : decode cX6_digestOnto 1 = .ok (.aload_n 0, 1) := by decide +kernel
theorem dX6_digestOnto_2 : decode cX6_digestOnto 2 = .ok (.getfield 15, 3) := by decide +kernel
theorem dX6_digestOnto_5 : decode cX6_digestOnto 5 = .ok (.i2l, 1) := by decide +kernel
theorem dX6_digestOnto_6 : decode cX6_digestOnto 6 = .ok (.invokestatic 28, 3) := by decide +kernel
theorem dX6_digestOnto_9 : decode cX6_digestOnto 9 = .ok (.aload_n 0, 1) := by decide +kernel
theorem dX6_digestOnto_10 : decode cX6_digestOnto 10 = .ok (.getfield 18, 3) := by decide +kernel
theorem dX6_digestOnto_13 : decode cX6_digestOnto 13 = .ok (.i2l, 1) := by decide +kernel
theorem dX6_digestOnto_14 : decode cX6_digestOnto 14 = .ok (.invokestatic 28, 3) := by decide +kernel
theorem dX6_digestOnto_17 : decode cX6_digestOnto 17 = .ok (.aload_n 0, 1) := by decide +kernel
theorem dX6_digestOnto_18 : decode cX6_digestOnto 18 = .ok (.getfield 21, 3) := by decide +kernel
theorem dX6_digestOnto_21 : decode cX6_digestOnto 21 = .ok (.i2l, 1) := by decide +kernel
theorem dX6_digestOnto_22 : decode cX6_digestOnto 22 = .ok (.invokestatic 28, 3) := by decide +kernel
theorem dX6_digestOnto_25 : decode cX6_digestOnto 25 = .ok (.aload_n 0, 1) := by decide +kernel
theorem dX6_digestOnto_26 : decode cX6_digestOnto 26 = .ok (.getfield 9, 3) := by decide +kernel
theorem dX6_digestOnto_29 : decode cX6_digestOnto 29 = .ok (.i2l, 1) := by decide +kernel
theorem dX6_digestOnto_30 : decode cX6_digestOnto 30 = .ok (.invokestatic 28, 3) := by decide +kernel
theorem dX6_digestOnto_33 : decode cX6_digestOnto 33 = .ok (.lreturn, 1) := by decide +kernel
set_option maxRecDepth 20000 in
theorem ggX7_init_X4_init : GoodIn wsX7_init wsX4_init := goodIn_r _ [23, 24, 2, 3, 10, 25, 26, 27, 44, 45] (by decide +kernel) (by decide +kernel)
set_option maxRecDepth 20000 in
theorem gX7_init_X4_init_n33 : GoodIn wsX7_init (wsX4_init) := ggX7_init_X4_init
set_option maxRecDepth 20000 in
theorem ggX7_init_X3_init : GoodIn wsX7_init wsX3_init := goodIn_r _ [29, 30, 2, 3, 31, 10, 32, 46] (by decide +kernel) (by decide +kernel)
set_option maxRecDepth 20000 in
theorem gX7_init_X3_init_n40 : GoodIn wsX7_init (wsX3_init) := ggX7_init_X3_init
theorem dX7_init_0 : decode cX7_init 0 = .ok (.aload_n 0, 1) := by decide +kernel
theorem dX7_init_1 : decode cX7_init 1 = .ok (.invokespecial 1, 3) := by decide +kernel
theorem dX7_init_4 : decode cX7_init 4 = .ok (.aload_n 0, 1) := by decide +kernel
theorem dX7_init_5 : decode cX7_init 5 = .ok (.iconst 4, 1) := by decide +kernel
theorem dX7_init_6 : decode cX7_init 6 = .ok (.anewarray 9, 3) := by decide +kernel
theorem dX7_init_9 : decode cX7_init 9 = .ok (.putfield 11, 3) := by decide +kernel
theorem dX7_init_12 : decode cX7_init 12 = .ok (.aload_n 0, 1) := by decide +kernel
theorem dX7_init_13 : decode cX7_init 13 = .ok (.bipush 30, 2) := by decide +kernel
theorem dX7_init_15 : decode cX7_init 15 = .ok (.anewarray 15, 3) := by decide +kernel
theorem dX7_init_18 : decode cX7_init 18 = .ok (.putfield 17, 3) := by decide +kernel
theorem dX7_init_21 : decode cX7_init 21 = .ok (.aload_n 0, 1) := by decide +kernel
theorem dX7_init_22 : decode cX7_init 22 = .ok (.bipush 6, 2) := by decide +kernel
theorem dX7_init_24 : decode cX7_init 24 = .ok (.anewarray 21, 3) := by decide +kernel
theorem dX7_init_27 : decode cX7_init 27 = .ok (.putfield 23, 3) := by decide +kernel
theorem dX7_init_30 : decode cX7_init 30 = .ok (.aload_n 0, 1) := by decide +kernel
theorem dX7_init_31 : decode cX7_init 31 = .ok (.bipush 10, 2) := by decide +kernel
theorem dX7_init_33 : decode cX7_init 33 = .ok (.newarray .int, 2) := by decide +kernel
theorem dX7_init_35 : decode cX7_init 35 = .ok (.putfield 27, 3) := by decide +kernel
theorem dX7_init_38 : decode cX7_init 38 = .ok (.aload_n 0, 1) := by decide +kernel
theorem dX7_init_39 : decode cX7_init 39 = .ok (.new 31, 3) := by decide +kernel
theorem dX7_init_42 : decode cX7_init 42 = .ok (.dup, 1) := by decide +kernel
theorem dX7_init_43 : decode cX7_init 43 = .ok (.invokespecial 33, 3) := by decide +kernel
theorem dX7_init_46 : decode cX7_init 46 = .ok (.putfield 34, 3) := by decide +kernel
theorem dX7_init_49 : decode cX7_init 49 = .ok (.aload_n 0, 1) := by decide +kernel
theorem dX7_init_50 : decode cX7_init 50 = .ok (.new 38, 3) := by decide +kernel
theorem dX7_init_53 : decode cX7_init 53 = .ok (.dup, 1) := by decide +kernel
theorem dX7_init_54 : decode cX7_init 54 = .ok (.invokespecial 40, 3) := by decide +kernel
theorem dX7_init_57 : decode cX7_init 57 = .ok (.putfield 41, 3) := by decide +kernel
theorem dX7_init_60 : decode cX7_init 60 = .ok (.aload_n 0, 1) := by decide +kernel
theorem dX7_init_61 : decode cX7_init 61 = .ok (.iconst 5, 1) := by decide +kernel
theorem dX7_init_62 : decode cX7_init 62 = .ok (.putfield 45, 3) := by decide +kernel
theorem dX7_init_65 : decode cX7_init 65 = .ok (.aload_n 0, 1) := by decide +kernel
theorem dX7_init_66 : decode cX7_init 66 = .ok (.bipush 100, 2) := by decide +kernel
theorem dX7_init_68 : decode cX7_init 68 = .ok (.putfield 49, 3) := by decide +kernel
theorem dX7_init_71 : decode cX7_init 71 = .ok (.iconst 0, 1) := by decide +kernel
theorem dX7_init_72 : decode cX7_init 72 = .ok (.istore_n 1, 1) := by decide +kernel
theorem dX7_init_73 : decode cX7_init 73 = .ok (.iload_n 1, 1) := by decide +kernel
theorem dX7_init_74 : decode cX7_init 74 = .ok (.bipush 10, 2) := by decide +kernel
theorem dX7_init_76 : decode cX7_init 76 = .ok (.if_icmp .ge 16, 3) := by decide +kernel
theorem dX7_init_79 : decode cX7_init 79 = .ok (.aload_n 0, 1) := by decide +kernel
theorem dX7_init_80 : decode cX7_init 80 = .ok (.getfield 27, 3) := by decide +kernel
theorem dX7_init_83 : decode cX7_init 83 = .ok (.iload_n 1, 1) := by decide +kernel
theorem dX7_init_84 : decode cX7_init 84 = .ok (.iload_n 1, 1) := by decide +kernel
theorem dX7_init_85 : decode cX7_init 85 = .ok (.iastore, 1) := by decide +kernel
theorem dX7_init_86 : decode cX7_init 86 = .ok (.iinc 1 1, 3) := by decide +kernel
theorem dX7_init_89 : decode cX7_init 89 = .ok (.goto (-16), 3) := by decide +kernel
theorem dX7_init_92 : decode cX7_init 92 = .ok (.return_, 1) := by decide +kernel
set_option maxRecDepth 20000 in
theorem ggX7_hole_X1_init : GoodIn wsX7_hole wsX1_init := goodIn_r _ [7, 8, 9, 10, 11, 12, 13, 14, 15, 16, 17, 18, 19, 20, 21, 22, 23, 24, 36, 37, 38, 39, 40, 41, 42, 43, 44, 45, 46] (by decide +kernel) (by decide +kernel)
set_option maxRecDepth 20000 in
theorem gX7_hole_X1_init_n55 : GoodIn wsX7_hole (wsX1_init) := ggX7_hole_X1_init
theorem dX7_hole_0 : decode cX7_hole 0 = .ok (.aload_n 0, 1) := by decide +kernel
theorem dX7_hole_1 : decode cX7_hole 1 = .ok (.getfield 52, 3) := by decide +kernel
theorem dX7_hole_4 : decode cX7_hole 4 = .ok (.iconst 4, 1) := by decide +kernel
theorem dX7_hole_5 : decode cX7_hole 5 = .ok (.if_icmp .lt 6, 3) := by decide +kernel
theorem dX7_hole_8 : decode cX7_hole 8 = .ok (.bipush (-104), 2) := by decide +kernel
theorem dX7_hole_10 : decode cX7_hole 10 = .ok (.ireturn, 1) := by decide +kernel
theorem dX7_hole_11 : decode cX7_hole 11 = .ok (.aload_n 0, 1) := by decide +kernel
theorem dX7_hole_12 : decode cX7_hole 12 = .ok (.getfield 11, 3) := by decide +kernel
theorem dX7_hole_15 : decode cX7_hole 15 = .ok (.aload_n 0, 1) := by decide +kernel
theorem dX7_hole_16 : decode cX7_hole 16 = .ok (.getfield 52, 3) := by decide +kernel
theorem dX7_hole_19 : decode cX7_hole 19 = .ok (.new 9, 3) := by decide +kernel
theorem dX7_hole_22 : decode cX7_hole 22 = .ok (.dup, 1) := by decide +kernel
theorem dX7_hole_23 : decode cX7_hole 23 = .ok (.invokespecial 55, 3) := by decide +kernel
theorem dX7_hole_26 : decode cX7_hole 26 = .ok (.aastore, 1) := by decide +kernel
theorem dX7_hole_27 : decode cX7_hole 27 = .ok (.aload_n 0, 1) := by decide +kernel
theorem dX7_hole_28 : decode cX7_hole 28 = .ok (.dup, 1) := by decide +kernel
theorem dX7_hole_29 : decode cX7_hole 29 = .ok (.getfield 52, 3) := by decide +kernel
theorem dX7_hole_32 : decode cX7_hole 32 = .ok (.iconst 1, 1) := by decide +kernel
theorem dX7_hole_33 : decode cX7_hole 33 = .ok (.iadd, 1) := by decide +kernel
theorem dX7_hole_34 : decode cX7_hole 34 = .ok (.putfield 52, 3) := by decide +kernel
theorem dX7_hole_37 : decode cX7_hole 37 = .ok (.aload_n 0, 1) := by decide +kernel
theorem dX7_hole_38 : decode cX7_hole 38 = .ok (.getfield 52, 3) := by decide +kernel
theorem dX7_hole_41 : decode cX7_hole 41 = .ok (.iconst 1, 1) := by decide +kernel
theorem dX7_hole_42 : decode cX7_hole 42 = .ok (.isub, 1) := by decide +kernel
theorem dX7_hole_43 : decode cX7_hole 43 = .ok (.ireturn, 1) := by decide +kernel
set_option maxRecDepth 20000 in
theorem ggX7_run_X7_holeNamed : GoodIn wsX7_run wsX7_holeNamed := goodIn_r _ [7, 8, 9, 44, 45, 46, 47, 48, 49, 50, 51, 52, 53, 54] (by decide +kernel) (by decide +kernel)
set_option maxRecDepth 20000 in
theorem gX7_run_X7_holeNamed : GoodIn wsX7_run (wsV RX7 56 RX7 yX7_holeNamed wsX7_holeNamed) := goodIn_app (goodIn_of _ (by decide +kernel)) ggX7_run_X7_holeNamed
set_option maxRecDepth 20000 in
theorem ggX7_run_X7_isWithin : GoodIn wsX7_run wsX7_isWithin := goodIn_r _ [12] (by decide +kernel) (by decide +kernel)
set_option maxRecDepth 20000 in
theorem gX7_run_X7_isWithin : GoodIn wsX7_run (va_wsS RX7 60 yX7_isWithin wsX7_isWithin) := goodIn_app (goodIn_of _ (by decide +kernel)) ggX7_run_X7_isWithin
set_option maxRecDepth 20000 in
theorem ggX7_run_X1_isLogged : GoodIn wsX7_run wsX1_isLogged := goodIn_r _ [17, 18, 19, 20, 36, 37, 38, 39, 40, 41, 42, 43, 55, 56, 57] (by decide +kernel) (by decide +kernel)
set_option maxRecDepth 20000 in
theorem gX7_run_X1_isLogged : GoodIn wsX7_run (wsV RX7 64 RX1 yX1_isLogged wsX1_isLogged) := goodIn_app (goodIn_of _ (by decide +kernel)) ggX7_run_X1_isLogged
set_option maxRecDepth 20000 in
theorem ggX7_run_X7_isSampled : GoodIn wsX7_run wsX7_isSampled := goodIn_r _ [24, 25, 26, 27, 44, 45, 46, 47, 48, 49, 50, 51, 52, 53, 54, 58, 59, 60, 61] (by decide +kernel) (by decide +kernel)
set_option maxRecDepth 20000 in
theorem gX7_run_X7_isSampled : GoodIn wsX7_run (wsV RX7 68 RX7 yX7_isSampled wsX7_isSampled) := goodIn_app (goodIn_of _ (by decide +kernel)) ggX7_run_X7_isSampled
set_option maxRecDepth 20000 in
theorem ggX7_run_X1_addRun : GoodIn wsX7_run wsX1_addRun := goodIn_r _ [31, 32, 33, 34, 35, 36, 37, 38, 39, 40, 41, 42, 43] (by decide +kernel) (by decide +kernel)
set_option maxRecDepth 20000 in
theorem gX7_run_X1_addRun : GoodIn wsX7_run (wsV RX7 75 RX1 yX1_addRun wsX1_addRun) := goodIn_app (goodIn_of _ (by decide +kernel)) ggX7_run_X1_addRun
theorem dX7_run_0 : decode cX7_run 0 = .ok (.aload_n 0, 1) := by decide +kernel
theorem dX7_run_1 : decode cX7_run 1 = .ok (.iload_n 1, 1) := by decide +kernel
theorem dX7_run_2 : decode cX7_run 2 = .ok (.invokevirtual 56, 3) := by decide +kernel
theorem dX7_run_5 : decode cX7_run 5 = .ok (.astore 4, 2) := by decide +kernel
theorem dX7_run_7 : decode cX7_run 7 = .ok (.aload 4, 2) := by decide +kernel
theorem dX7_run_9 : decode cX7_run 9 = .ok (.ifnonnull 6, 3) := by decide +kernel
theorem dX7_run_12 : decode cX7_run 12 = .ok (.bipush (-101), 2) := by decide +kernel
theorem dX7_run_14 : decode cX7_run 14 = .ok (.ireturn, 1) := by decide +kernel
theorem dX7_run_15 : decode cX7_run 15 = .ok (.iload_n 2, 1) := by decide +kernel
theorem dX7_run_16 : decode cX7_run 16 = .ok (.iconst 1, 1) := by decide +kernel
theorem dX7_run_17 : decode cX7_run 17 = .ok (.sipush 1000, 3) := by decide +kernel
theorem dX7_run_20 : decode cX7_run 20 = .ok (.invokestatic 60, 3) := by decide +kernel
theorem dX7_run_23 : decode cX7_run 23 = .ok (.ifCond .eq 12, 3) := by decide +kernel
theorem dX7_run_26 : decode cX7_run 26 = .ok (.iload_n 3, 1) := by decide +kernel
theorem dX7_run_27 : decode cX7_run 27 = .ok (.iconst 0, 1) := by decide +kernel
theorem dX7_run_28 : decode cX7_run 28 = .ok (.iload_n 2, 1) := by decide +kernel
theorem dX7_run_29 : decode cX7_run 29 = .ok (.invokestatic 60, 3) := by decide +kernel
theorem dX7_run_32 : decode cX7_run 32 = .ok (.ifCond .ne 6, 3) := by decide +kernel
theorem dX7_run_35 : decode cX7_run 35 = .ok (.bipush (-102), 2) := by decide +kernel
theorem dX7_run_37 : decode cX7_run 37 = .ok (.ireturn, 1) := by decide +kernel
theorem dX7_run_38 : decode cX7_run 38 = .ok (.aload 4, 2) := by decide +kernel
theorem dX7_run_40 : decode cX7_run 40 = .ok (.invokevirtual 64, 3) := by decide +kernel
theorem dX7_run_43 : decode cX7_run 43 = .ok (.ifCond .ne 11, 3) := by decide +kernel
theorem dX7_run_46 : decode cX7_run 46 = .ok (.aload_n 0, 1) := by decide +kernel
theorem dX7_run_47 : decode cX7_run 47 = .ok (.iload_n 1, 1) := by decide +kernel
theorem dX7_run_48 : decode cX7_run 48 = .ok (.invokevirtual 68, 3) := by decide +kernel
theorem dX7_run_51 : decode cX7_run 51 = .ok (.ifCond .eq 6, 3) := by decide +kernel
theorem dX7_run_54 : decode cX7_run 54 = .ok (.bipush (-103), 2) := by decide +kernel
theorem dX7_run_56 : decode cX7_run 56 = .ok (.ireturn, 1) := by decide +kernel
theorem dX7_run_57 : decode cX7_run 57 = .ok (.aload 4, 2) := by decide +kernel
theorem dX7_run_59 : decode cX7_run 59 = .ok (.getfield 72, 3) := by decide +kernel
theorem dX7_run_62 : decode cX7_run 62 = .ok (.bipush 20, 2) := by decide +kernel
theorem dX7_run_64 : decode cX7_run 64 = .ok (.if_icmp .lt 6, 3) := by decide +kernel
theorem dX7_run_67 : decode cX7_run 67 = .ok (.bipush (-104), 2) := by decide +kernel
theorem dX7_run_69 : decode cX7_run 69 = .ok (.ireturn, 1) := by decide +kernel
theorem dX7_run_70 : decode cX7_run 70 = .ok (.aload 4, 2) := by decide +kernel
theorem dX7_run_72 : decode cX7_run 72 = .ok (.iload_n 2, 1) := by decide +kernel
theorem dX7_run_73 : decode cX7_run 73 = .ok (.iload_n 3, 1) := by decide +kernel
theorem dX7_run_74 : decode cX7_run 74 = .ok (.invokevirtual 75, 3) := by decide +kernel
theorem dX7_run_77 : decode cX7_run 77 = .ok (.aload 4, 2) := by decide +kernel
theorem dX7_run_79 : decode cX7_run 79 = .ok (.getfield 79, 3) := by decide +kernel
theorem dX7_run_82 : decode cX7_run 82 = .ok (.ireturn, 1) := by decide +kernel
set_option maxRecDepth 20000 in
theorem ggX7_end_X7_holeNamed : GoodIn wsX7_end wsX7_holeNamed := goodIn_r _ [6, 7, 8, 17, 18, 19, 20, 21, 22, 23, 24, 25, 26, 27] (by decide +kernel) (by decide +kernel)
set_option maxRecDepth 20000 in
theorem gX7_end_X7_holeNamed : GoodIn wsX7_end (wsV RX7 56 RX7 yX7_holeNamed wsX7_holeNamed) := goodIn_app (goodIn_of _ (by decide +kernel)) ggX7_end_X7_holeNamed
theorem dX7_end_0 : decode cX7_end 0 = .ok (.aload_n 0, 1) := by decide +kernel
theorem dX7_end_1 : decode cX7_end 1 = .ok (.iload_n 1, 1) := by decide +kernel
theorem dX7_end_2 : decode cX7_end 2 = .ok (.invokevirtual 56, 3) := by decide +kernel
theorem dX7_end_5 : decode cX7_end 5 = .ok (.astore_n 2, 1) := by decide +kernel
theorem dX7_end_6 : decode cX7_end 6 = .ok (.aload_n 2, 1) := by decide +kernel
theorem dX7_end_7 : decode cX7_end 7 = .ok (.ifnonnull 8, 3) := by decide +kernel
theorem dX7_end_10 : decode cX7_end 10 = .ok (.bipush (-101), 2) := by decide +kernel
theorem dX7_end_12 : decode cX7_end 12 = .ok (.goto 7, 3) := by decide +kernel
theorem dX7_end_15 : decode cX7_end 15 = .ok (.aload_n 2, 1) := by decide +kernel
theorem dX7_end_16 : decode cX7_end 16 = .ok (.getfield 79, 3) := by decide +kernel
theorem dX7_end_19 : decode cX7_end 19 = .ok (.ireturn, 1) := by decide +kernel
set_option maxRecDepth 20000 in
theorem ggX7_recovered_X7_holeNamed : GoodIn wsX7_recovered wsX7_holeNamed := goodIn_r _ [5, 6, 7, 30, 31, 32, 33, 34, 35, 36, 37, 38, 39, 40] (by decide +kernel) (by decide +kernel)
set_option maxRecDepth 20000 in
theorem gX7_recovered_X7_holeNamed : GoodIn wsX7_recovered (wsV RX7 56 RX7 yX7_holeNamed wsX7_holeNamed) := goodIn_app (goodIn_of _ (by decide +kernel)) ggX7_recovered_X7_holeNamed
set_option maxRecDepth 20000 in
theorem ggX7_recovered_X1_isStretch : GoodIn wsX7_recovered wsX1_isStretch := goodIn_r _ [12, 13, 41, 42, 43, 44, 45, 46, 47, 48] (by decide +kernel) (by decide +kernel)
set_option maxRecDepth 20000 in
theorem gX7_recovered_X1_isStretch : GoodIn wsX7_recovered (wsV RX7 82 RX1 yX1_isStretch wsX1_isStretch) := goodIn_app (goodIn_of _ (by decide +kernel)) ggX7_recovered_X1_isStretch
set_option maxRecDepth 20000 in
theorem ggX7_recovered_X1_coreWithin : GoodIn wsX7_recovered wsX1_coreWithin := goodIn_r _ [17, 18, 19, 20, 21, 4, 22, 23, 24, 25, 26, 27, 28, 29, 41, 42, 43, 44, 45, 46, 47, 48] (by decide +kernel) (by decide +kernel)
set_option maxRecDepth 20000 in
theorem gX7_recovered_X1_coreWithin : GoodIn wsX7_recovered (wsV RX7 86 RX1 yX1_coreWithin wsX1_coreWithin) := goodIn_app (goodIn_of _ (by decide +kernel)) ggX7_recovered_X1_coreWithin
theorem dX7_recovered_0 : decode cX7_recovered 0 = .ok (.aload_n 0, 1) := by decide +kernel
theorem dX7_recovered_1 : decode cX7_recovered 1 = .ok (.iload_n 1, 1) := by decide +kernel
theorem dX7_recovered_2 : decode cX7_recovered 2 = .ok (.invokevirtual 56, 3) := by decide +kernel
theorem dX7_recovered_5 : decode cX7_recovered 5 = .ok (.astore 4, 2) := by decide +kernel
theorem dX7_recovered_7 : decode cX7_recovered 7 = .ok (.aload 4, 2) := by decide +kernel
theorem dX7_recovered_9 : decode cX7_recovered 9 = .ok (.ifnonnull 6, 3) := by decide +kernel
theorem dX7_recovered_12 : decode cX7_recovered 12 = .ok (.bipush (-101), 2) := by decide +kernel
theorem dX7_recovered_14 : decode cX7_recovered 14 = .ok (.ireturn, 1) := by decide +kernel
theorem dX7_recovered_15 : decode cX7_recovered 15 = .ok (.aload 4, 2) := by decide +kernel
theorem dX7_recovered_17 : decode cX7_recovered 17 = .ok (.iload_n 2, 1) := by decide +kernel
theorem dX7_recovered_18 : decode cX7_recovered 18 = .ok (.iload_n 3, 1) := by decide +kernel
theorem dX7_recovered_19 : decode cX7_recovered 19 = .ok (.invokevirtual 82, 3) := by decide +kernel
theorem dX7_recovered_22 : decode cX7_recovered 22 = .ok (.ifCond .ne 6, 3) := by decide +kernel
theorem dX7_recovered_25 : decode cX7_recovered 25 = .ok (.bipush (-102), 2) := by decide +kernel
theorem dX7_recovered_27 : decode cX7_recovered 27 = .ok (.ireturn, 1) := by decide +kernel
theorem dX7_recovered_28 : decode cX7_recovered 28 = .ok (.aload 4, 2) := by decide +kernel
theorem dX7_recovered_30 : decode cX7_recovered 30 = .ok (.iload_n 2, 1) := by decide +kernel
theorem dX7_recovered_31 : decode cX7_recovered 31 = .ok (.iload_n 3, 1) := by decide +kernel
theorem dX7_recovered_32 : decode cX7_recovered 32 = .ok (.invokevirtual 86, 3) := by decide +kernel
theorem dX7_recovered_35 : decode cX7_recovered 35 = .ok (.ireturn, 1) := by decide +kernel
set_option maxRecDepth 20000 in
theorem ggX7_mark_X7_holeNamed : GoodIn wsX7_mark wsX7_holeNamed := goodIn_r _ [8, 9, 10, 22, 23, 24, 25, 26, 27, 28, 29, 30, 31, 32] (by decide +kernel) (by decide +kernel)
set_option maxRecDepth 20000 in
theorem gX7_mark_X7_holeNamed : GoodIn wsX7_mark (wsV RX7 56 RX7 yX7_holeNamed wsX7_holeNamed) := goodIn_app (goodIn_of _ (by decide +kernel)) ggX7_mark_X7_holeNamed
set_option maxRecDepth 20000 in
theorem ggX7_mark_X7_isWithin : GoodIn wsX7_mark wsX7_isWithin := goodIn_r _ [13] (by decide +kernel) (by decide +kernel)
set_option maxRecDepth 20000 in
theorem gX7_mark_X7_isWithin : GoodIn wsX7_mark (va_wsS RX7 60 yX7_isWithin wsX7_isWithin) := goodIn_app (goodIn_of _ (by decide +kernel)) ggX7_mark_X7_isWithin
theorem dX7_mark_0 : decode cX7_mark 0 = .ok (.aload_n 0, 1) := by decide +kernel
theorem dX7_mark_1 : decode cX7_mark 1 = .ok (.iload_n 1, 1) := by decide +kernel
theorem dX7_mark_2 : decode cX7_mark 2 = .ok (.invokevirtual 56, 3) := by decide +kernel
theorem dX7_mark_5 : decode cX7_mark 5 = .ok (.astore_n 3, 1) := by decide +kernel
theorem dX7_mark_6 : decode cX7_mark 6 = .ok (.aload_n 3, 1) := by decide +kernel
theorem dX7_mark_7 : decode cX7_mark 7 = .ok (.ifnonnull 6, 3) := by decide +kernel
theorem dX7_mark_10 : decode cX7_mark 10 = .ok (.bipush (-101), 2) := by decide +kernel
theorem dX7_mark_12 : decode cX7_mark 12 = .ok (.ireturn, 1) := by decide +kernel
theorem dX7_mark_13 : decode cX7_mark 13 = .ok (.iload_n 2, 1) := by decide +kernel
theorem dX7_mark_14 : decode cX7_mark 14 = .ok (.iconst 0, 1) := by decide +kernel
theorem dX7_mark_15 : decode cX7_mark 15 = .ok (.ldc 90, 2) := by decide +kernel
theorem dX7_mark_17 : decode cX7_mark 17 = .ok (.invokestatic 60, 3) := by decide +kernel
theorem dX7_mark_20 : decode cX7_mark 20 = .ok (.ifCond .ne 6, 3) := by decide +kernel
theorem dX7_mark_23 : decode cX7_mark 23 = .ok (.bipush (-102), 2) := by decide +kernel
theorem dX7_mark_25 : decode cX7_mark 25 = .ok (.ireturn, 1) := by decide +kernel
theorem dX7_mark_26 : decode cX7_mark 26 = .ok (.aload_n 3, 1) := by decide +kernel
theorem dX7_mark_27 : decode cX7_mark 27 = .ok (.getfield 91, 3) := by decide +kernel
theorem dX7_mark_30 : decode cX7_mark 30 = .ok (.bipush 20, 2) := by decide +kernel
theorem dX7_mark_32 : decode cX7_mark 32 = .ok (.if_icmp .lt 6, 3) := by decide +kernel
theorem dX7_mark_35 : decode cX7_mark 35 = .ok (.bipush (-104), 2) := by decide +kernel
theorem dX7_mark_37 : decode cX7_mark 37 = .ok (.ireturn, 1) := by decide +kernel
theorem dX7_mark_38 : decode cX7_mark 38 = .ok (.aload_n 3, 1) := by decide +kernel
theorem dX7_mark_39 : decode cX7_mark 39 = .ok (.getfield 94, 3) := by decide +kernel
theorem dX7_mark_42 : decode cX7_mark 42 = .ok (.aload_n 3, 1) := by decide +kernel
theorem dX7_mark_43 : decode cX7_mark 43 = .ok (.getfield 91, 3) := by decide +kernel
theorem dX7_mark_46 : decode cX7_mark 46 = .ok (.iload_n 2, 1) := by decide +kernel
theorem dX7_mark_47 : decode cX7_mark 47 = .ok (.iastore, 1) := by decide +kernel
theorem dX7_mark_48 : decode cX7_mark 48 = .ok (.aload_n 3, 1) := by decide +kernel
theorem dX7_mark_49 : decode cX7_mark 49 = .ok (.dup, 1) := by decide +kernel
theorem dX7_mark_50 : decode cX7_mark 50 = .ok (.getfield 91, 3) := by decide +kernel
theorem dX7_mark_53 : decode cX7_mark 53 = .ok (.iconst 1, 1) := by decide +kernel
theorem dX7_mark_54 : decode cX7_mark 54 = .ok (.iadd, 1) := by decide +kernel
theorem dX7_mark_55 : decode cX7_mark 55 = .ok (.putfield 91, 3) := by decide +kernel
theorem dX7_mark_58 : decode cX7_mark 58 = .ok (.aload_n 3, 1) := by decide +kernel
theorem dX7_mark_59 : decode cX7_mark 59 = .ok (.getfield 91, 3) := by decide +kernel
theorem dX7_mark_62 : decode cX7_mark 62 = .ok (.ireturn, 1) := by decide +kernel
set_option maxRecDepth 20000 in
theorem ggX7_wrong_X7_holeNamed : GoodIn wsX7_wrong wsX7_holeNamed := goodIn_r _ [7, 8, 9, 40, 41, 42, 43, 44, 45, 46, 47, 48, 49, 50] (by decide +kernel) (by decide +kernel)
set_option maxRecDepth 20000 in
theorem gX7_wrong_X7_holeNamed : GoodIn wsX7_wrong (wsV RX7 56 RX7 yX7_holeNamed wsX7_holeNamed) := goodIn_app (goodIn_of _ (by decide +kernel)) ggX7_wrong_X7_holeNamed
set_option maxRecDepth 20000 in
theorem ggX7_wrong_X4_choose : GoodIn wsX7_wrong wsX4_choose := goodIn_r _ [14, 15, 16, 17, 18, 19, 20, 21, 13, 22, 23, 24, 25, 26, 27, 28, 29, 30, 31, 32, 33, 34, 35, 36, 37, 38, 39, 51, 52] (by decide +kernel) (by decide +kernel)
set_option maxRecDepth 20000 in
theorem gX7_wrong_X4_choose : GoodIn wsX7_wrong (wsV RX7 97 RX4 yX4_choose wsX4_choose) := goodIn_app (goodIn_of _ (by decide +kernel)) ggX7_wrong_X4_choose
theorem dX7_wrong_0 : decode cX7_wrong 0 = .ok (.aload_n 0, 1) := by decide +kernel
theorem dX7_wrong_1 : decode cX7_wrong 1 = .ok (.iload_n 1, 1) := by decide +kernel
theorem dX7_wrong_2 : decode cX7_wrong 2 = .ok (.invokevirtual 56, 3) := by decide +kernel
theorem dX7_wrong_5 : decode cX7_wrong 5 = .ok (.astore_n 2, 1) := by decide +kernel
theorem dX7_wrong_6 : decode cX7_wrong 6 = .ok (.aload_n 2, 1) := by decide +kernel
theorem dX7_wrong_7 : decode cX7_wrong 7 = .ok (.ifnonnull 6, 3) := by decide +kernel
theorem dX7_wrong_10 : decode cX7_wrong 10 = .ok (.bipush (-101), 2) := by decide +kernel
theorem dX7_wrong_12 : decode cX7_wrong 12 = .ok (.ireturn, 1) := by decide +kernel
theorem dX7_wrong_13 : decode cX7_wrong 13 = .ok (.aload_n 2, 1) := by decide +kernel
theorem dX7_wrong_14 : decode cX7_wrong 14 = .ok (.getfield 91, 3) := by decide +kernel
theorem dX7_wrong_17 : decode cX7_wrong 17 = .ok (.aload_n 0, 1) := by decide +kernel
theorem dX7_wrong_18 : decode cX7_wrong 18 = .ok (.getfield 34, 3) := by decide +kernel
theorem dX7_wrong_21 : decode cX7_wrong 21 = .ok (.aload_n 2, 1) := by decide +kernel
theorem dX7_wrong_22 : decode cX7_wrong 22 = .ok (.invokevirtual 97, 3) := by decide +kernel
theorem dX7_wrong_25 : decode cX7_wrong 25 = .ok (.isub, 1) := by decide +kernel
theorem dX7_wrong_26 : decode cX7_wrong 26 = .ok (.ireturn, 1) := by decide +kernel
set_option maxRecDepth 20000 in
theorem ggX7_isWrong_X7_holeNamed : GoodIn wsX7_isWrong wsX7_holeNamed := goodIn_r _ [8, 9, 10, 41, 42, 43, 44, 45, 46, 47, 48, 49, 50, 51] (by decide +kernel) (by decide +kernel)
set_option maxRecDepth 20000 in
theorem gX7_isWrong_X7_holeNamed : GoodIn wsX7_isWrong (wsV RX7 56 RX7 yX7_holeNamed wsX7_holeNamed) := goodIn_app (goodIn_of _ (by decide +kernel)) ggX7_isWrong_X7_holeNamed
set_option maxRecDepth 20000 in
theorem ggX7_isWrong_X4_choose : GoodIn wsX7_isWrong wsX4_choose := goodIn_r _ [15, 16, 17, 18, 19, 20, 21, 22, 14, 23, 24, 25, 26, 27, 28, 29, 30, 31, 32, 33, 34, 35, 36, 37, 38, 39, 40, 52, 53] (by decide +kernel) (by decide +kernel)
set_option maxRecDepth 20000 in
theorem gX7_isWrong_X4_choose : GoodIn wsX7_isWrong (wsV RX7 97 RX4 yX4_choose wsX4_choose) := goodIn_app (goodIn_of _ (by decide +kernel)) ggX7_isWrong_X4_choose
theorem dX7_isWrong_0 : decode cX7_isWrong 0 = .ok (.aload_n 0, 1) := by decide +kernel
theorem dX7_isWrong_1 : decode cX7_isWrong 1 = .ok (.iload_n 1, 1) := by decide +kernel
theorem dX7_isWrong_2 : decode cX7_isWrong 2 = .ok (.invokevirtual 56, 3) := by decide +kernel
theorem dX7_isWrong_5 : decode cX7_isWrong 5 = .ok (.astore_n 3, 1) := by decide +kernel
theorem dX7_isWrong_6 : decode cX7_isWrong 6 = .ok (.aload_n 3, 1) := by decide +kernel
theorem dX7_isWrong_7 : decode cX7_isWrong 7 = .ok (.ifnull 15, 3) := by decide +kernel
theorem dX7_isWrong_10 : decode cX7_isWrong 10 = .ok (.iload_n 2, 1) := by decide +kernel
theorem dX7_isWrong_11 : decode cX7_isWrong 11 = .ok (.ifCond .lt 11, 3) := by decide +kernel
theorem dX7_isWrong_14 : decode cX7_isWrong 14 = .ok (.iload_n 2, 1) := by decide +kernel
theorem dX7_isWrong_15 : decode cX7_isWrong 15 = .ok (.aload_n 3, 1) := by decide +kernel
theorem dX7_isWrong_16 : decode cX7_isWrong 16 = .ok (.getfield 91, 3) := by decide +kernel
theorem dX7_isWrong_19 : decode cX7_isWrong 19 = .ok (.if_icmp .lt 6, 3) := by decide +kernel
theorem dX7_isWrong_22 : decode cX7_isWrong 22 = .ok (.bipush (-101), 2) := by decide +kernel
theorem dX7_isWrong_24 : decode cX7_isWrong 24 = .ok (.ireturn, 1) := by decide +kernel
theorem dX7_isWrong_25 : decode cX7_isWrong 25 = .ok (.aload_n 0, 1) := by decide +kernel
theorem dX7_isWrong_26 : decode cX7_isWrong 26 = .ok (.getfield 34, 3) := by decide +kernel
theorem dX7_isWrong_29 : decode cX7_isWrong 29 = .ok (.aload_n 3, 1) := by decide +kernel
theorem dX7_isWrong_30 : decode cX7_isWrong 30 = .ok (.invokevirtual 97, 3) := by decide +kernel
theorem dX7_isWrong_33 : decode cX7_isWrong 33 = .ok (.pop, 1) := by decide +kernel
theorem dX7_isWrong_34 : decode cX7_isWrong 34 = .ok (.aload_n 0, 1) := by decide +kernel
theorem dX7_isWrong_35 : decode cX7_isWrong 35 = .ok (.getfield 34, 3) := by decide +kernel
theorem dX7_isWrong_38 : decode cX7_isWrong 38 = .ok (.getfield 101, 3) := by decide +kernel
theorem dX7_isWrong_41 : decode cX7_isWrong 41 = .ok (.iload_n 2, 1) := by decide +kernel
theorem dX7_isWrong_42 : decode cX7_isWrong 42 = .ok (.baload, 1) := by decide +kernel
theorem dX7_isWrong_43 : decode cX7_isWrong 43 = .ok (.ifCond .eq 7, 3) := by decide +kernel
theorem dX7_isWrong_46 : decode cX7_isWrong 46 = .ok (.iconst 0, 1) := by decide +kernel
theorem dX7_isWrong_47 : decode cX7_isWrong 47 = .ok (.goto 4, 3) := by decide +kernel
theorem dX7_isWrong_50 : decode cX7_isWrong 50 = .ok (.iconst 1, 1) := by decide +kernel
theorem dX7_isWrong_51 : decode cX7_isWrong 51 = .ok (.ireturn, 1) := by decide +kernel
set_option maxRecDepth 20000 in
theorem ggX7_layer_X7_holeNamed : GoodIn wsX7_layer wsX7_holeNamed := goodIn_r _ [7, 8, 9, 49, 50, 51, 52, 53, 54, 55, 56, 57, 58, 59] (by decide +kernel) (by decide +kernel)
set_option maxRecDepth 20000 in
theorem gX7_layer_X7_holeNamed : GoodIn wsX7_layer (wsV RX7 56 RX7 yX7_holeNamed wsX7_holeNamed) := goodIn_app (goodIn_of _ (by decide +kernel)) ggX7_layer_X7_holeNamed
set_option maxRecDepth 20000 in
theorem ggX7_layer_X7_logNamed : GoodIn wsX7_layer wsX7_logNamed := goodIn_r _ [13, 14, 15, 3, 4, 5, 6, 7, 8, 9, 38, 39, 40, 41, 42, 43, 44, 45, 49, 50, 51, 52, 53, 54, 55, 56, 57, 58, 59] (by decide +kernel) (by decide +kernel)
set_option maxRecDepth 20000 in
theorem gX7_layer_X7_logNamed : GoodIn wsX7_layer (wsV RX7 105 RX7 yX7_logNamed wsX7_logNamed) := goodIn_app (goodIn_of _ (by decide +kernel)) ggX7_layer_X7_logNamed
set_option maxRecDepth 20000 in
theorem ggX7_layer_X2_bottom : GoodIn wsX7_layer wsX2_bottom := goodIn_r _ [20, 21, 22, 23, 24, 19, 25, 26, 46, 47, 48] (by decide +kernel) (by decide +kernel)
set_option maxRecDepth 20000 in
theorem gX7_layer_X2_bottom : GoodIn wsX7_layer (wsV RX7 109 RX2 yX2_bottom wsX2_bottom) := goodIn_app (goodIn_of _ (by decide +kernel)) ggX7_layer_X2_bottom
set_option maxRecDepth 20000 in
theorem ggX7_layer_X7_isWithin : GoodIn wsX7_layer wsX7_isWithin := goodIn_r _ [29] (by decide +kernel) (by decide +kernel)
set_option maxRecDepth 20000 in
theorem gX7_layer_X7_isWithin : GoodIn wsX7_layer (va_wsS RX7 60 yX7_isWithin wsX7_isWithin) := goodIn_app (goodIn_of _ (by decide +kernel)) ggX7_layer_X7_isWithin
set_option maxRecDepth 20000 in
theorem ggX7_layer_X7_isCode : GoodIn wsX7_layer wsX7_isCode := goodIn_r _ [32, 27, 28, 6, 29] (by decide +kernel) (by decide +kernel)
set_option maxRecDepth 20000 in
theorem gX7_layer_X7_isCode : GoodIn wsX7_layer (va_wsS RX7 114 yX7_isCode wsX7_isCode) := goodIn_app (goodIn_of _ (by decide +kernel)) ggX7_layer_X7_isCode
set_option maxRecDepth 20000 in
theorem ggX7_layer_X2_add : GoodIn wsX7_layer wsX2_add := goodIn_r _ [36, 26, 21, 37, 46, 47, 48] (by decide +kernel) (by decide +kernel)
set_option maxRecDepth 20000 in
theorem gX7_layer_X2_add : GoodIn wsX7_layer (wsV RX7 120 RX2 yX2_add wsX2_add) := goodIn_app (goodIn_of _ (by decide +kernel)) ggX7_layer_X2_add
theorem dX7_layer_0 : decode cX7_layer 0 = .ok (.aload_n 0, 1) := by decide +kernel
theorem dX7_layer_1 : decode cX7_layer 1 = .ok (.iload_n 1, 1) := by decide +kernel
theorem dX7_layer_2 : decode cX7_layer 2 = .ok (.invokevirtual 56, 3) := by decide +kernel
theorem dX7_layer_5 : decode cX7_layer 5 = .ok (.astore 5, 2) := by decide +kernel
theorem dX7_layer_7 : decode cX7_layer 7 = .ok (.aload_n 0, 1) := by decide +kernel
theorem dX7_layer_8 : decode cX7_layer 8 = .ok (.iload_n 1, 1) := by decide +kernel
theorem dX7_layer_9 : decode cX7_layer 9 = .ok (.iload_n 2, 1) := by decide +kernel
theorem dX7_layer_10 : decode cX7_layer 10 = .ok (.invokevirtual 105, 3) := by decide +kernel
theorem dX7_layer_13 : decode cX7_layer 13 = .ok (.astore 6, 2) := by decide +kernel
theorem dX7_layer_15 : decode cX7_layer 15 = .ok (.aload 5, 2) := by decide +kernel
theorem dX7_layer_17 : decode cX7_layer 17 = .ok (.ifnull 8, 3) := by decide +kernel
theorem dX7_layer_20 : decode cX7_layer 20 = .ok (.aload 6, 2) := by decide +kernel
theorem dX7_layer_22 : decode cX7_layer 22 = .ok (.ifnonnull 6, 3) := by decide +kernel
theorem dX7_layer_25 : decode cX7_layer 25 = .ok (.bipush (-101), 2) := by decide +kernel
theorem dX7_layer_27 : decode cX7_layer 27 = .ok (.ireturn, 1) := by decide +kernel
theorem dX7_layer_28 : decode cX7_layer 28 = .ok (.iload_n 3, 1) := by decide +kernel
theorem dX7_layer_29 : decode cX7_layer 29 = .ok (.aload 6, 2) := by decide +kernel
theorem dX7_layer_31 : decode cX7_layer 31 = .ok (.invokevirtual 109, 3) := by decide +kernel
theorem dX7_layer_34 : decode cX7_layer 34 = .ok (.iconst 1, 1) := by decide +kernel
theorem dX7_layer_35 : decode cX7_layer 35 = .ok (.iadd, 1) := by decide +kernel
theorem dX7_layer_36 : decode cX7_layer 36 = .ok (.aload 5, 2) := by decide +kernel
theorem dX7_layer_38 : decode cX7_layer 38 = .ok (.getfield 79, 3) := by decide +kernel
theorem dX7_layer_41 : decode cX7_layer 41 = .ok (.invokestatic 60, 3) := by decide +kernel
theorem dX7_layer_44 : decode cX7_layer 44 = .ok (.ifCond .eq 11, 3) := by decide +kernel
theorem dX7_layer_47 : decode cX7_layer 47 = .ok (.iload 4, 2) := by decide +kernel
theorem dX7_layer_49 : decode cX7_layer 49 = .ok (.invokestatic 114, 3) := by decide +kernel
theorem dX7_layer_52 : decode cX7_layer 52 = .ok (.ifCond .ne 6, 3) := by decide +kernel
theorem dX7_layer_55 : decode cX7_layer 55 = .ok (.bipush (-102), 2) := by decide +kernel
theorem dX7_layer_57 : decode cX7_layer 57 = .ok (.ireturn, 1) := by decide +kernel
theorem dX7_layer_58 : decode cX7_layer 58 = .ok (.aload 6, 2) := by decide +kernel
theorem dX7_layer_60 : decode cX7_layer 60 = .ok (.getfield 117, 3) := by decide +kernel
theorem dX7_layer_63 : decode cX7_layer 63 = .ok (.bipush 20, 2) := by decide +kernel
theorem dX7_layer_65 : decode cX7_layer 65 = .ok (.if_icmp .lt 6, 3) := by decide +kernel
theorem dX7_layer_68 : decode cX7_layer 68 = .ok (.bipush (-104), 2) := by decide +kernel
theorem dX7_layer_70 : decode cX7_layer 70 = .ok (.ireturn, 1) := by decide +kernel
theorem dX7_layer_71 : decode cX7_layer 71 = .ok (.aload 6, 2) := by decide +kernel
theorem dX7_layer_73 : decode cX7_layer 73 = .ok (.iload_n 3, 1) := by decide +kernel
theorem dX7_layer_74 : decode cX7_layer 74 = .ok (.iload 4, 2) := by decide +kernel
theorem dX7_layer_76 : decode cX7_layer 76 = .ok (.invokevirtual 120, 3) := by decide +kernel
theorem dX7_layer_79 : decode cX7_layer 79 = .ok (.aload 6, 2) := by decide +kernel
theorem dX7_layer_81 : decode cX7_layer 81 = .ok (.getfield 117, 3) := by decide +kernel
theorem dX7_layer_84 : decode cX7_layer 84 = .ok (.ireturn, 1) := by decide +kernel
set_option maxRecDepth 20000 in
theorem ggX7_code_X7_isCode : GoodIn wsX7_code wsX7_isCode := goodIn_r _ [5, 6, 7, 4, 8] (by decide +kernel) (by decide +kernel)
set_option maxRecDepth 20000 in
theorem gX7_code_X7_isCode : GoodIn wsX7_code (va_wsS RX7 114 yX7_isCode wsX7_isCode) := goodIn_app (goodIn_of _ (by decide +kernel)) ggX7_code_X7_isCode
theorem dX7_code_0 : decode cX7_code 0 = .ok (.iload_n 1, 1) := by decide +kernel
theorem dX7_code_1 : decode cX7_code 1 = .ok (.invokestatic 114, 3) := by decide +kernel
theorem dX7_code_4 : decode cX7_code 4 = .ok (.ifCond .ne 6, 3) := by decide +kernel
theorem dX7_code_7 : decode cX7_code 7 = .ok (.bipush (-101), 2) := by decide +kernel
theorem dX7_code_9 : decode cX7_code 9 = .ok (.ireturn, 1) := by decide +kernel
theorem dX7_code_10 : decode cX7_code 10 = .ok (.iload_n 2, 1) := by decide +kernel
theorem dX7_code_11 : decode cX7_code 11 = .ok (.invokestatic 114, 3) := by decide +kernel
theorem dX7_code_14 : decode cX7_code 14 = .ok (.ifCond .ne 6, 3) := by decide +kernel
theorem dX7_code_17 : decode cX7_code 17 = .ok (.bipush (-102), 2) := by decide +kernel
theorem dX7_code_19 : decode cX7_code 19 = .ok (.ireturn, 1) := by decide +kernel
theorem dX7_code_20 : decode cX7_code 20 = .ok (.aload_n 0, 1) := by decide +kernel
theorem dX7_code_21 : decode cX7_code 21 = .ok (.getfield 27, 3) := by decide +kernel
theorem dX7_code_24 : decode cX7_code 24 = .ok (.iload_n 1, 1) := by decide +kernel
theorem dX7_code_25 : decode cX7_code 25 = .ok (.iaload, 1) := by decide +kernel
theorem dX7_code_26 : decode cX7_code 26 = .ok (.istore_n 3, 1) := by decide +kernel
theorem dX7_code_27 : decode cX7_code 27 = .ok (.aload_n 0, 1) := by decide +kernel
theorem dX7_code_28 : decode cX7_code 28 = .ok (.getfield 27, 3) := by decide +kernel
theorem dX7_code_31 : decode cX7_code 31 = .ok (.iload_n 1, 1) := by decide +kernel
theorem dX7_code_32 : decode cX7_code 32 = .ok (.iload_n 2, 1) := by decide +kernel
theorem dX7_code_33 : decode cX7_code 33 = .ok (.iastore, 1) := by decide +kernel
theorem dX7_code_34 : decode cX7_code 34 = .ok (.iload_n 3, 1) := by decide +kernel
theorem dX7_code_35 : decode cX7_code 35 = .ok (.ireturn, 1) := by decide +kernel
set_option maxRecDepth 20000 in
theorem ggX7_rock_X7_logNamed : GoodIn wsX7_rock wsX7_logNamed := goodIn_r _ [7, 8, 9, 10, 11, 12, 6, 13, 14, 15, 41, 42, 43, 44, 45, 46, 47, 48, 27, 28, 29, 30, 31, 32, 33, 34, 35, 36, 37] (by decide +kernel) (by decide +kernel)
set_option maxRecDepth 20000 in
theorem gX7_rock_X7_logNamed : GoodIn wsX7_rock (wsV RX7 105 RX7 yX7_logNamed wsX7_logNamed) := goodIn_app (goodIn_of _ (by decide +kernel)) ggX7_rock_X7_logNamed
set_option maxRecDepth 20000 in
theorem ggX7_rock_X2_indexAt : GoodIn wsX7_rock wsX2_indexAt := goodIn_r _ [20, 21, 22, 23, 24, 25, 19, 26, 38, 39, 40] (by decide +kernel) (by decide +kernel)
set_option maxRecDepth 20000 in
theorem gX7_rock_X2_indexAt : GoodIn wsX7_rock (wsV RX7 123 RX2 yX2_indexAt wsX2_indexAt) := goodIn_app (goodIn_of _ (by decide +kernel)) ggX7_rock_X2_indexAt
end
section
theorem dX7_rock_0 : decode cX7_rock 0 = .ok (.aload_n 0, 1) := by decide +kernel
theorem dX7_rock_1 : decode cX7_rock 1 = .ok (.iload_n 1, 1) := by decide +kernel
theorem dX7_rock_2 : decode cX7_rock 2 = .ok (.iload_n 2, 1) := by decide +kernel
theorem dX7_rock_3 : decode cX7_rock 3 = .ok (.invokevirtual 105, 3) := by decide +kernel
theorem dX7_rock_6 : decode cX7_rock 6 = .ok (.astore 4, 2) := by decide +kernel
theorem dX7_rock_8 : decode cX7_rock 8 = .ok (.aload 4, 2) := by decide +kernel
theorem dX7_rock_10 : decode cX7_rock 10 = .ok (.ifnonnull 6, 3) := by decide +kernel
theorem dX7_rock_13 : decode cX7_rock 13 = .ok (.bipush (-101), 2) := by decide +kernel
theorem dX7_rock_15 : decode cX7_rock 15 = .ok (.ireturn, 1) := by decide +kernel
theorem dX7_rock_16 : decode cX7_rock 16 = .ok (.aload 4, 2) := by decide +kernel
theorem dX7_rock_18 : decode cX7_rock 18 = .ok (.iload_n 3, 1) := by decide +kernel
theorem dX7_rock_19 : decode cX7_rock 19 = .ok (.invokevirtual 123, 3) := by decide +kernel
theorem dX7_rock_22 : decode cX7_rock 22 = .ok (.istore 5, 2) := by decide +kernel
theorem dX7_rock_24 : decode cX7_rock 24 = .ok (.iload 5, 2) := by decide +kernel
theorem dX7_rock_26 : decode cX7_rock 26 = .ok (.iconst (-1), 1) := by decide +kernel
theorem dX7_rock_27 : decode cX7_rock 27 = .ok (.if_icmp .ne 7, 3) := by decide +kernel
theorem dX7_rock_30 : decode cX7_rock 30 = .ok (.iconst (-1), 1) := by decide +kernel
theorem dX7_rock_31 : decode cX7_rock 31 = .ok (.goto 16, 3) := by decide +kernel
theorem dX7_rock_34 : decode cX7_rock 34 = .ok (.aload_n 0, 1) := by decide +kernel
theorem dX7_rock_35 : decode cX7_rock 35 = .ok (.getfield 27, 3) := by decide +kernel
theorem dX7_rock_38 : decode cX7_rock 38 = .ok (.aload 4, 2) := by decide +kernel
theorem dX7_rock_40 : decode cX7_rock 40 = .ok (.getfield 127, 3) := by decide +kernel
theorem dX7_rock_43 : decode cX7_rock 43 = .ok (.iload 5, 2) := by decide +kernel
theorem dX7_rock_45 : decode cX7_rock 45 = .ok (.iaload, 1) := by decide +kernel
theorem dX7_rock_46 : decode cX7_rock 46 = .ok (.iaload, 1) := by decide +kernel
theorem dX7_rock_47 : decode cX7_rock 47 = .ok (.ireturn, 1) := by decide +kernel
set_option maxRecDepth 20000 in
theorem ggX7_agree_X7_holeNamed : GoodIn wsX7_agree wsX7_holeNamed := goodIn_r _ [11, 12, 13, 41, 42, 43, 44, 45, 46, 47, 48, 49, 50, 51] (by decide +kernel) (by decide +kernel)
set_option maxRecDepth 20000 in
theorem gX7_agree_X7_holeNamed : GoodIn wsX7_agree (wsV RX7 56 RX7 yX7_holeNamed wsX7_holeNamed) := goodIn_app (goodIn_of _ (by decide +kernel)) ggX7_agree_X7_holeNamed
set_option maxRecDepth 20000 in
theorem ggX7_agree_X2_top : GoodIn wsX7_agree wsX2_top := goodIn_r _ [18, 19, 38, 39, 40] (by decide +kernel) (by decide +kernel)
set_option maxRecDepth 20000 in
theorem gX7_agree_X2_top : GoodIn wsX7_agree (wsV RX7 137 RX2 yX2_top wsX2_top) := goodIn_app (goodIn_of _ (by decide +kernel)) ggX7_agree_X2_top
set_option maxRecDepth 20000 in
theorem ggX7_agree_X7_unitsInCommon : GoodIn wsX7_agree wsX7_unitsInCommon := goodIn_r _ [22, 23, 24, 25, 26, 27, 28, 29] (by decide +kernel) (by decide +kernel)
set_option maxRecDepth 20000 in
theorem gX7_agree_X7_unitsInCommon : GoodIn wsX7_agree (va_wsS RX7 143 yX7_unitsInCommon wsX7_unitsInCommon) := goodIn_app (goodIn_of _ (by decide +kernel)) ggX7_agree_X7_unitsInCommon
theorem dX7_agree_0 : decode cX7_agree 0 = .ok (.aload_n 0, 1) := by decide +kernel
theorem dX7_agree_1 : decode cX7_agree 1 = .ok (.iload_n 1, 1) := by decide +kernel
theorem dX7_agree_2 : decode cX7_agree 2 = .ok (.invokevirtual 56, 3) := by decide +kernel
theorem dX7_agree_5 : decode cX7_agree 5 = .ok (.astore_n 2, 1) := by decide +kernel
theorem dX7_agree_6 : decode cX7_agree 6 = .ok (.aload_n 2, 1) := by decide +kernel
theorem dX7_agree_7 : decode cX7_agree 7 = .ok (.ifnonnull 6, 3) := by decide +kernel
theorem dX7_agree_10 : decode cX7_agree 10 = .ok (.bipush (-101), 2) := by decide +kernel
theorem dX7_agree_12 : decode cX7_agree 12 = .ok (.ireturn, 1) := by decide +kernel
theorem dX7_agree_13 : decode cX7_agree 13 = .ok (.aload_n 2, 1) := by decide +kernel
theorem dX7_agree_14 : decode cX7_agree 14 = .ok (.getfield 130, 3) := by decide +kernel
theorem dX7_agree_17 : decode cX7_agree 17 = .ok (.astore_n 3, 1) := by decide +kernel
theorem dX7_agree_18 : decode cX7_agree 18 = .ok (.aload_n 2, 1) := by decide +kernel
theorem dX7_agree_19 : decode cX7_agree 19 = .ok (.getfield 134, 3) := by decide +kernel
theorem dX7_agree_22 : decode cX7_agree 22 = .ok (.astore 4, 2) := by decide +kernel
theorem dX7_agree_24 : decode cX7_agree 24 = .ok (.iconst 0, 1) := by decide +kernel
theorem dX7_agree_25 : decode cX7_agree 25 = .ok (.istore 5, 2) := by decide +kernel
theorem dX7_agree_27 : decode cX7_agree 27 = .ok (.iconst 0, 1) := by decide +kernel
theorem dX7_agree_28 : decode cX7_agree 28 = .ok (.istore 6, 2) := by decide +kernel
theorem dX7_agree_30 : decode cX7_agree 30 = .ok (.iload 6, 2) := by decide +kernel
theorem dX7_agree_32 : decode cX7_agree 32 = .ok (.aload_n 3, 1) := by decide +kernel
theorem dX7_agree_33 : decode cX7_agree 33 = .ok (.getfield 117, 3) := by decide +kernel
theorem dX7_agree_36 : decode cX7_agree 36 = .ok (.if_icmp .ge 92, 3) := by decide +kernel
theorem dX7_agree_39 : decode cX7_agree 39 = .ok (.iconst 0, 1) := by decide +kernel
theorem dX7_agree_40 : decode cX7_agree 40 = .ok (.istore 7, 2) := by decide +kernel
theorem dX7_agree_42 : decode cX7_agree 42 = .ok (.iload 7, 2) := by decide +kernel
theorem dX7_agree_44 : decode cX7_agree 44 = .ok (.aload 4, 2) := by decide +kernel
theorem dX7_agree_46 : decode cX7_agree 46 = .ok (.getfield 117, 3) := by decide +kernel
theorem dX7_agree_49 : decode cX7_agree 49 = .ok (.if_icmp .ge 73, 3) := by decide +kernel
theorem dX7_agree_52 : decode cX7_agree 52 = .ok (.aload_n 0, 1) := by decide +kernel
theorem dX7_agree_53 : decode cX7_agree 53 = .ok (.getfield 27, 3) := by decide +kernel
theorem dX7_agree_56 : decode cX7_agree 56 = .ok (.aload_n 3, 1) := by decide +kernel
theorem dX7_agree_57 : decode cX7_agree 57 = .ok (.getfield 127, 3) := by decide +kernel
theorem dX7_agree_60 : decode cX7_agree 60 = .ok (.iload 6, 2) := by decide +kernel
theorem dX7_agree_62 : decode cX7_agree 62 = .ok (.iaload, 1) := by decide +kernel
theorem dX7_agree_63 : decode cX7_agree 63 = .ok (.iaload, 1) := by decide +kernel
theorem dX7_agree_64 : decode cX7_agree 64 = .ok (.aload_n 0, 1) := by decide +kernel
theorem dX7_agree_65 : decode cX7_agree 65 = .ok (.getfield 27, 3) := by decide +kernel
theorem dX7_agree_68 : decode cX7_agree 68 = .ok (.aload 4, 2) := by decide +kernel
theorem dX7_agree_70 : decode cX7_agree 70 = .ok (.getfield 127, 3) := by decide +kernel
theorem dX7_agree_73 : decode cX7_agree 73 = .ok (.iload 7, 2) := by decide +kernel
theorem dX7_agree_75 : decode cX7_agree 75 = .ok (.iaload, 1) := by decide +kernel
theorem dX7_agree_76 : decode cX7_agree 76 = .ok (.iaload, 1) := by decide +kernel
theorem dX7_agree_77 : decode cX7_agree 77 = .ok (.if_icmp .ne 39, 3) := by decide +kernel
theorem dX7_agree_80 : decode cX7_agree 80 = .ok (.iload 5, 2) := by decide +kernel
theorem dX7_agree_82 : decode cX7_agree 82 = .ok (.aload_n 3, 1) := by decide +kernel
theorem dX7_agree_83 : decode cX7_agree 83 = .ok (.iload 6, 2) := by decide +kernel
theorem dX7_agree_85 : decode cX7_agree 85 = .ok (.invokevirtual 137, 3) := by decide +kernel
theorem dX7_agree_88 : decode cX7_agree 88 = .ok (.aload_n 3, 1) := by decide +kernel
theorem dX7_agree_89 : decode cX7_agree 89 = .ok (.getfield 140, 3) := by decide +kernel
theorem dX7_agree_92 : decode cX7_agree 92 = .ok (.iload 6, 2) := by decide +kernel
theorem dX7_agree_94 : decode cX7_agree 94 = .ok (.iaload, 1) := by decide +kernel
theorem dX7_agree_95 : decode cX7_agree 95 = .ok (.aload 4, 2) := by decide +kernel
theorem dX7_agree_97 : decode cX7_agree 97 = .ok (.iload 7, 2) := by decide +kernel
theorem dX7_agree_99 : decode cX7_agree 99 = .ok (.invokevirtual 137, 3) := by decide +kernel
theorem dX7_agree_102 : decode cX7_agree 102 = .ok (.aload 4, 2) := by decide +kernel
theorem dX7_agree_104 : decode cX7_agree 104 = .ok (.getfield 140, 3) := by decide +kernel
theorem dX7_agree_107 : decode cX7_agree 107 = .ok (.iload 7, 2) := by decide +kernel
theorem dX7_agree_109 : decode cX7_agree 109 = .ok (.iaload, 1) := by decide +kernel
theorem dX7_agree_110 : decode cX7_agree 110 = .ok (.invokestatic 143, 3) := by decide +kernel
theorem dX7_agree_113 : decode cX7_agree 113 = .ok (.iadd, 1) := by decide +kernel
theorem dX7_agree_114 : decode cX7_agree 114 = .ok (.istore 5, 2) := by decide +kernel
theorem dX7_agree_116 : decode cX7_agree 116 = .ok (.iinc 7 1, 3) := by decide +kernel
theorem dX7_agree_119 : decode cX7_agree 119 = .ok (.goto (-77), 3) := by decide +kernel
theorem dX7_agree_122 : decode cX7_agree 122 = .ok (.iinc 6 1, 3) := by decide +kernel
theorem dX7_agree_125 : decode cX7_agree 125 = .ok (.goto (-95), 3) := by decide +kernel
theorem dX7_agree_128 : decode cX7_agree 128 = .ok (.iload 5, 2) := by decide +kernel
theorem dX7_agree_130 : decode cX7_agree 130 = .ok (.ireturn, 1) := by decide +kernel
set_option maxRecDepth 20000 in
theorem ggX7_sample_X7_holeNamed : GoodIn wsX7_sample wsX7_holeNamed := goodIn_r _ [10, 11, 12, 53, 54, 55, 56, 57, 58, 59, 60, 61, 62, 63] (by decide +kernel) (by decide +kernel)
set_option maxRecDepth 20000 in
theorem gX7_sample_X7_holeNamed : GoodIn wsX7_sample (wsV RX7 56 RX7 yX7_holeNamed wsX7_holeNamed) := goodIn_app (goodIn_of _ (by decide +kernel)) ggX7_sample_X7_holeNamed
set_option maxRecDepth 20000 in
theorem ggX7_sample_X1_isStretch : GoodIn wsX7_sample wsX1_isStretch := goodIn_r _ [17, 18, 68, 69, 70, 71, 72, 73, 74, 75] (by decide +kernel) (by decide +kernel)
set_option maxRecDepth 20000 in
theorem gX7_sample_X1_isStretch : GoodIn wsX7_sample (wsV RX7 82 RX1 yX1_isStretch wsX1_isStretch) := goodIn_app (goodIn_of _ (by decide +kernel)) ggX7_sample_X1_isStretch
set_option maxRecDepth 20000 in
theorem ggX7_sample_X7_isTaken : GoodIn wsX7_sample wsX7_isTaken := goodIn_r _ [22, 1, 2, 23, 24, 25, 5, 26, 27, 28, 29, 30, 9, 31, 32, 33, 34, 35, 36, 37, 38, 53, 54, 55, 56, 57, 58, 59, 60, 61, 62, 63, 64, 65, 66, 67] (by decide +kernel) (by decide +kernel)
set_option maxRecDepth 20000 in
theorem gX7_sample_X7_isTaken : GoodIn wsX7_sample (wsV RX7 147 RX7 yX7_isTaken wsX7_isTaken) := goodIn_app (goodIn_of _ (by decide +kernel)) ggX7_sample_X7_isTaken
set_option maxRecDepth 20000 in
theorem ggX7_sample_X1_coreWithin : GoodIn wsX7_sample wsX1_coreWithin := goodIn_r _ [42, 43, 44, 45, 30, 9, 31, 32, 33, 34, 35, 36, 37, 38, 68, 69, 70, 71, 72, 73, 74, 75] (by decide +kernel) (by decide +kernel)
set_option maxRecDepth 20000 in
theorem gX7_sample_X1_coreWithin : GoodIn wsX7_sample (wsV RX7 86 RX1 yX1_coreWithin wsX1_coreWithin) := goodIn_app (goodIn_of _ (by decide +kernel)) ggX7_sample_X1_coreWithin
set_option maxRecDepth 20000 in
theorem ggX7_sample_X6_init : GoodIn wsX7_sample wsX6_init := goodIn_r _ [48, 49, 50, 51, 52, 27, 28, 29, 64, 65, 66, 67] (by decide +kernel) (by decide +kernel)
set_option maxRecDepth 20000 in
theorem gX7_sample_X6_init : GoodIn wsX7_sample (wsX6_init) := ggX7_sample_X6_init
theorem dX7_sample_0 : decode cX7_sample 0 = .ok (.aload_n 0, 1) := by decide +kernel
theorem dX7_sample_1 : decode cX7_sample 1 = .ok (.iload_n 1, 1) := by decide +kernel
theorem dX7_sample_2 : decode cX7_sample 2 = .ok (.invokevirtual 56, 3) := by decide +kernel
theorem dX7_sample_5 : decode cX7_sample 5 = .ok (.astore 4, 2) := by decide +kernel
theorem dX7_sample_7 : decode cX7_sample 7 = .ok (.aload 4, 2) := by decide +kernel
theorem dX7_sample_9 : decode cX7_sample 9 = .ok (.ifnonnull 6, 3) := by decide +kernel
theorem dX7_sample_12 : decode cX7_sample 12 = .ok (.bipush (-101), 2) := by decide +kernel
theorem dX7_sample_14 : decode cX7_sample 14 = .ok (.ireturn, 1) := by decide +kernel
theorem dX7_sample_15 : decode cX7_sample 15 = .ok (.aload 4, 2) := by decide +kernel
theorem dX7_sample_17 : decode cX7_sample 17 = .ok (.iload_n 2, 1) := by decide +kernel
theorem dX7_sample_18 : decode cX7_sample 18 = .ok (.iload_n 3, 1) := by decide +kernel
theorem dX7_sample_19 : decode cX7_sample 19 = .ok (.invokevirtual 82, 3) := by decide +kernel
theorem dX7_sample_22 : decode cX7_sample 22 = .ok (.ifCond .ne 6, 3) := by decide +kernel
theorem dX7_sample_25 : decode cX7_sample 25 = .ok (.bipush (-102), 2) := by decide +kernel
theorem dX7_sample_27 : decode cX7_sample 27 = .ok (.ireturn, 1) := by decide +kernel
theorem dX7_sample_28 : decode cX7_sample 28 = .ok (.aload_n 0, 1) := by decide +kernel
theorem dX7_sample_29 : decode cX7_sample 29 = .ok (.iload_n 1, 1) := by decide +kernel
theorem dX7_sample_30 : decode cX7_sample 30 = .ok (.iload_n 2, 1) := by decide +kernel
theorem dX7_sample_31 : decode cX7_sample 31 = .ok (.iload_n 3, 1) := by decide +kernel
theorem dX7_sample_32 : decode cX7_sample 32 = .ok (.invokevirtual 147, 3) := by decide +kernel
theorem dX7_sample_35 : decode cX7_sample 35 = .ok (.ifCond .ne 13, 3) := by decide +kernel
theorem dX7_sample_38 : decode cX7_sample 38 = .ok (.aload 4, 2) := by decide +kernel
theorem dX7_sample_40 : decode cX7_sample 40 = .ok (.iload_n 2, 1) := by decide +kernel
theorem dX7_sample_41 : decode cX7_sample 41 = .ok (.iload_n 3, 1) := by decide +kernel
theorem dX7_sample_42 : decode cX7_sample 42 = .ok (.invokevirtual 86, 3) := by decide +kernel
theorem dX7_sample_45 : decode cX7_sample 45 = .ok (.ifCond .ne 6, 3) := by decide +kernel
theorem dX7_sample_48 : decode cX7_sample 48 = .ok (.bipush (-103), 2) := by decide +kernel
theorem dX7_sample_50 : decode cX7_sample 50 = .ok (.ireturn, 1) := by decide +kernel
theorem dX7_sample_51 : decode cX7_sample 51 = .ok (.aload_n 0, 1) := by decide +kernel
theorem dX7_sample_52 : decode cX7_sample 52 = .ok (.getfield 150, 3) := by decide +kernel
theorem dX7_sample_55 : decode cX7_sample 55 = .ok (.bipush 30, 2) := by decide +kernel
theorem dX7_sample_57 : decode cX7_sample 57 = .ok (.if_icmp .lt 6, 3) := by decide +kernel
theorem dX7_sample_60 : decode cX7_sample 60 = .ok (.bipush (-104), 2) := by decide +kernel
theorem dX7_sample_62 : decode cX7_sample 62 = .ok (.ireturn, 1) := by decide +kernel
theorem dX7_sample_63 : decode cX7_sample 63 = .ok (.aload_n 0, 1) := by decide +kernel
theorem dX7_sample_64 : decode cX7_sample 64 = .ok (.getfield 17, 3) := by decide +kernel
theorem dX7_sample_67 : decode cX7_sample 67 = .ok (.aload_n 0, 1) := by decide +kernel
theorem dX7_sample_68 : decode cX7_sample 68 = .ok (.getfield 150, 3) := by decide +kernel
theorem dX7_sample_71 : decode cX7_sample 71 = .ok (.new 15, 3) := by decide +kernel
theorem dX7_sample_74 : decode cX7_sample 74 = .ok (.dup, 1) := by decide +kernel
theorem dX7_sample_75 : decode cX7_sample 75 = .ok (.iload_n 1, 1) := by decide +kernel
theorem dX7_sample_76 : decode cX7_sample 76 = .ok (.iload_n 2, 1) := by decide +kernel
theorem dX7_sample_77 : decode cX7_sample 77 = .ok (.iload_n 3, 1) := by decide +kernel
theorem dX7_sample_78 : decode cX7_sample 78 = .ok (.invokespecial 153, 3) := by decide +kernel
theorem dX7_sample_81 : decode cX7_sample 81 = .ok (.aastore, 1) := by decide +kernel
theorem dX7_sample_82 : decode cX7_sample 82 = .ok (.aload_n 0, 1) := by decide +kernel
theorem dX7_sample_83 : decode cX7_sample 83 = .ok (.dup, 1) := by decide +kernel
theorem dX7_sample_84 : decode cX7_sample 84 = .ok (.getfield 150, 3) := by decide +kernel
theorem dX7_sample_87 : decode cX7_sample 87 = .ok (.iconst 1, 1) := by decide +kernel
theorem dX7_sample_88 : decode cX7_sample 88 = .ok (.iadd, 1) := by decide +kernel
theorem dX7_sample_89 : decode cX7_sample 89 = .ok (.putfield 150, 3) := by decide +kernel
theorem dX7_sample_92 : decode cX7_sample 92 = .ok (.aload_n 0, 1) := by decide +kernel
theorem dX7_sample_93 : decode cX7_sample 93 = .ok (.getfield 150, 3) := by decide +kernel
theorem dX7_sample_96 : decode cX7_sample 96 = .ok (.iconst 1, 1) := by decide +kernel
theorem dX7_sample_97 : decode cX7_sample 97 = .ok (.isub, 1) := by decide +kernel
theorem dX7_sample_98 : decode cX7_sample 98 = .ok (.ireturn, 1) := by decide +kernel
set_option maxRecDepth 20000 in
theorem ggX7_left_X7_sampleNamed : GoodIn wsX7_left wsX7_sampleNamed := goodIn_r _ [6, 7, 8, 13, 14, 15, 16, 17, 18, 19, 20, 21, 22, 23] (by decide +kernel) (by decide +kernel)
set_option maxRecDepth 20000 in
theorem gX7_left_X7_sampleNamed : GoodIn wsX7_left (wsV RX7 156 RX7 yX7_sampleNamed wsX7_sampleNamed) := goodIn_app (goodIn_of _ (by decide +kernel)) ggX7_left_X7_sampleNamed
theorem dX7_left_0 : decode cX7_left 0 = .ok (.aload_n 0, 1) := by decide +kernel
theorem dX7_left_1 : decode cX7_left 1 = .ok (.iload_n 1, 1) := by decide +kernel
theorem dX7_left_2 : decode cX7_left 2 = .ok (.invokevirtual 156, 3) := by decide +kernel
theorem dX7_left_5 : decode cX7_left 5 = .ok (.astore_n 2, 1) := by decide +kernel
theorem dX7_left_6 : decode cX7_left 6 = .ok (.aload_n 2, 1) := by decide +kernel
theorem dX7_left_7 : decode cX7_left 7 = .ok (.ifnonnull 8, 3) := by decide +kernel
theorem dX7_left_10 : decode cX7_left 10 = .ok (.bipush (-101), 2) := by decide +kernel
theorem dX7_left_12 : decode cX7_left 12 = .ok (.goto 7, 3) := by decide +kernel
theorem dX7_left_15 : decode cX7_left 15 = .ok (.aload_n 2, 1) := by decide +kernel
theorem dX7_left_16 : decode cX7_left 16 = .ok (.getfield 160, 3) := by decide +kernel
theorem dX7_left_19 : decode cX7_left 19 = .ok (.ireturn, 1) := by decide +kernel
set_option maxRecDepth 20000 in
theorem ggX7_batch_X0_init : GoodIn wsX7_batch wsX0_init := goodIn_r _ [7, 8, 9, 10, 11, 12, 24, 25] (by decide +kernel) (by decide +kernel)
set_option maxRecDepth 20000 in
theorem gX7_batch_X0_init_n166 : GoodIn wsX7_batch (wsX0_init) := ggX7_batch_X0_init
theorem dX7_batch_0 : decode cX7_batch 0 = .ok (.aload_n 0, 1) := by decide +kernel
theorem dX7_batch_1 : decode cX7_batch 1 = .ok (.getfield 163, 3) := by decide +kernel
theorem dX7_batch_4 : decode cX7_batch 4 = .ok (.bipush 6, 2) := by decide +kernel
theorem dX7_batch_6 : decode cX7_batch 6 = .ok (.if_icmp .lt 6, 3) := by decide +kernel
theorem dX7_batch_9 : decode cX7_batch 9 = .ok (.bipush (-104), 2) := by decide +kernel
theorem dX7_batch_11 : decode cX7_batch 11 = .ok (.ireturn, 1) := by decide +kernel
theorem dX7_batch_12 : decode cX7_batch 12 = .ok (.aload_n 0, 1) := by decide +kernel
theorem dX7_batch_13 : decode cX7_batch 13 = .ok (.getfield 23, 3) := by decide +kernel
theorem dX7_batch_16 : decode cX7_batch 16 = .ok (.aload_n 0, 1) := by decide +kernel
theorem dX7_batch_17 : decode cX7_batch 17 = .ok (.getfield 163, 3) := by decide +kernel
theorem dX7_batch_20 : decode cX7_batch 20 = .ok (.new 21, 3) := by decide +kernel
theorem dX7_batch_23 : decode cX7_batch 23 = .ok (.dup, 1) := by decide +kernel
theorem dX7_batch_24 : decode cX7_batch 24 = .ok (.invokespecial 166, 3) := by decide +kernel
theorem dX7_batch_27 : decode cX7_batch 27 = .ok (.aastore, 1) := by decide +kernel
theorem dX7_batch_28 : decode cX7_batch 28 = .ok (.aload_n 0, 1) := by decide +kernel
theorem dX7_batch_29 : decode cX7_batch 29 = .ok (.dup, 1) := by decide +kernel
theorem dX7_batch_30 : decode cX7_batch 30 = .ok (.getfield 163, 3) := by decide +kernel
theorem dX7_batch_33 : decode cX7_batch 33 = .ok (.iconst 1, 1) := by decide +kernel
theorem dX7_batch_34 : decode cX7_batch 34 = .ok (.iadd, 1) := by decide +kernel
theorem dX7_batch_35 : decode cX7_batch 35 = .ok (.putfield 163, 3) := by decide +kernel
theorem dX7_batch_38 : decode cX7_batch 38 = .ok (.aload_n 0, 1) := by decide +kernel
theorem dX7_batch_39 : decode cX7_batch 39 = .ok (.getfield 163, 3) := by decide +kernel
theorem dX7_batch_42 : decode cX7_batch 42 = .ok (.iconst 1, 1) := by decide +kernel
theorem dX7_batch_43 : decode cX7_batch 43 = .ok (.isub, 1) := by decide +kernel
theorem dX7_batch_44 : decode cX7_batch 44 = .ok (.ireturn, 1) := by decide +kernel
set_option maxRecDepth 20000 in
theorem ggX7_put_X7_batchNamed : GoodIn wsX7_put wsX7_batchNamed := goodIn_r _ [5, 6, 7, 49, 50, 51, 52, 53, 54, 55, 56, 57, 58, 59] (by decide +kernel) (by decide +kernel)
set_option maxRecDepth 20000 in
theorem gX7_put_X7_batchNamed : GoodIn wsX7_put (wsV RX7 167 RX7 yX7_batchNamed wsX7_batchNamed) := goodIn_app (goodIn_of _ (by decide +kernel)) ggX7_put_X7_batchNamed
set_option maxRecDepth 20000 in
theorem ggX7_put_X7_sampleNamed : GoodIn wsX7_put wsX7_sampleNamed := goodIn_r _ [11, 12, 13, 49, 50, 51, 52, 53, 54, 55, 56, 57, 58, 59] (by decide +kernel) (by decide +kernel)
set_option maxRecDepth 20000 in
theorem gX7_put_X7_sampleNamed : GoodIn wsX7_put (wsV RX7 156 RX7 yX7_sampleNamed wsX7_sampleNamed) := goodIn_app (goodIn_of _ (by decide +kernel)) ggX7_put_X7_sampleNamed
set_option maxRecDepth 20000 in
theorem ggX7_put_X0_placeOf : GoodIn wsX7_put wsX0_placeOf := goodIn_r _ [18, 19, 20, 21, 22, 60, 61, 62, 63, 64, 65, 66] (by decide +kernel) (by decide +kernel)
set_option maxRecDepth 20000 in
theorem gX7_put_X0_placeOf : GoodIn wsX7_put (wsV RX7 171 RX0 yX0_placeOf wsX0_placeOf) := goodIn_app (goodIn_of _ (by decide +kernel)) ggX7_put_X0_placeOf
set_option maxRecDepth 20000 in
theorem ggX7_put_X7_addPlaceWithQuarter : GoodIn wsX7_put wsX7_addPlaceWithQuarter := goodIn_r _ [25, 26, 27, 28, 4, 29, 30, 31, 32, 33, 34, 35, 36, 37, 17, 38, 19, 20, 39, 40, 41, 42, 43, 44, 45, 46, 47, 48, 67, 68, 69, 70, 60, 61, 62, 63, 64, 65, 66] (by decide +kernel) (by decide +kernel)
set_option maxRecDepth 20000 in
theorem gX7_put_X7_addPlaceWithQuarter : GoodIn wsX7_put (va_wsS RX7 175 yX7_addPlaceWithQuarter wsX7_addPlaceWithQuarter) := goodIn_app (goodIn_of _ (by decide +kernel)) ggX7_put_X7_addPlaceWithQuarter
theorem dX7_put_0 : decode cX7_put 0 = .ok (.aload_n 0, 1) := by decide +kernel
theorem dX7_put_1 : decode cX7_put 1 = .ok (.iload_n 1, 1) := by decide +kernel
theorem dX7_put_2 : decode cX7_put 2 = .ok (.invokevirtual 167, 3) := by decide +kernel
theorem dX7_put_5 : decode cX7_put 5 = .ok (.astore_n 3, 1) := by decide +kernel
theorem dX7_put_6 : decode cX7_put 6 = .ok (.aload_n 0, 1) := by decide +kernel
theorem dX7_put_7 : decode cX7_put 7 = .ok (.iload_n 2, 1) := by decide +kernel
theorem dX7_put_8 : decode cX7_put 8 = .ok (.invokevirtual 156, 3) := by decide +kernel
theorem dX7_put_11 : decode cX7_put 11 = .ok (.astore 4, 2) := by decide +kernel
theorem dX7_put_13 : decode cX7_put 13 = .ok (.aload_n 3, 1) := by decide +kernel
theorem dX7_put_14 : decode cX7_put 14 = .ok (.ifnull 8, 3) := by decide +kernel
theorem dX7_put_17 : decode cX7_put 17 = .ok (.aload 4, 2) := by decide +kernel
theorem dX7_put_19 : decode cX7_put 19 = .ok (.ifnonnull 6, 3) := by decide +kernel
theorem dX7_put_22 : decode cX7_put 22 = .ok (.bipush (-101), 2) := by decide +kernel
theorem dX7_put_24 : decode cX7_put 24 = .ok (.ireturn, 1) := by decide +kernel
theorem dX7_put_25 : decode cX7_put 25 = .ok (.aload_n 3, 1) := by decide +kernel
theorem dX7_put_26 : decode cX7_put 26 = .ok (.iload_n 2, 1) := by decide +kernel
theorem dX7_put_27 : decode cX7_put 27 = .ok (.invokevirtual 171, 3) := by decide +kernel
theorem dX7_put_30 : decode cX7_put 30 = .ok (.ifnull 6, 3) := by decide +kernel
theorem dX7_put_33 : decode cX7_put 33 = .ok (.bipush (-103), 2) := by decide +kernel
theorem dX7_put_35 : decode cX7_put 35 = .ok (.ireturn, 1) := by decide +kernel
theorem dX7_put_36 : decode cX7_put 36 = .ok (.aload_n 3, 1) := by decide +kernel
theorem dX7_put_37 : decode cX7_put 37 = .ok (.iconst 0, 1) := by decide +kernel
theorem dX7_put_38 : decode cX7_put 38 = .ok (.iload_n 2, 1) := by decide +kernel
theorem dX7_put_39 : decode cX7_put 39 = .ok (.aload 4, 2) := by decide +kernel
theorem dX7_put_41 : decode cX7_put 41 = .ok (.invokestatic 175, 3) := by decide +kernel
theorem dX7_put_44 : decode cX7_put 44 = .ok (.ireturn, 1) := by decide +kernel
set_option maxRecDepth 20000 in
theorem ggX7_standard_X7_batchNamed : GoodIn wsX7_standard wsX7_batchNamed := goodIn_r _ [6, 7, 8, 37, 38, 39, 40, 41, 42, 43, 44, 45, 46, 47] (by decide +kernel) (by decide +kernel)
set_option maxRecDepth 20000 in
theorem gX7_standard_X7_batchNamed : GoodIn wsX7_standard (wsV RX7 167 RX7 yX7_batchNamed wsX7_batchNamed) := goodIn_app (goodIn_of _ (by decide +kernel)) ggX7_standard_X7_batchNamed
set_option maxRecDepth 20000 in
theorem ggX7_standard_X7_isWithin : GoodIn wsX7_standard wsX7_isWithin := goodIn_r _ [11] (by decide +kernel) (by decide +kernel)
set_option maxRecDepth 20000 in
theorem gX7_standard_X7_isWithin : GoodIn wsX7_standard (va_wsS RX7 60 yX7_isWithin wsX7_isWithin) := goodIn_app (goodIn_of _ (by decide +kernel)) ggX7_standard_X7_isWithin
set_option maxRecDepth 20000 in
theorem ggX7_standard_X7_addPlace : GoodIn wsX7_standard wsX7_addPlace := goodIn_r _ [14, 15, 16, 17, 18, 19, 20, 21, 22, 23, 24, 25, 26, 27, 28, 29, 30, 31, 32, 33, 34, 35, 36, 48, 49, 50, 51, 52, 53, 54] (by decide +kernel) (by decide +kernel)
set_option maxRecDepth 20000 in
theorem gX7_standard_X7_addPlace : GoodIn wsX7_standard (va_wsS RX7 179 yX7_addPlace wsX7_addPlace) := goodIn_app (goodIn_of _ (by decide +kernel)) ggX7_standard_X7_addPlace
theorem dX7_standard_0 : decode cX7_standard 0 = .ok (.aload_n 0, 1) := by decide +kernel
theorem dX7_standard_1 : decode cX7_standard 1 = .ok (.iload_n 1, 1) := by decide +kernel
theorem dX7_standard_2 : decode cX7_standard 2 = .ok (.invokevirtual 167, 3) := by decide +kernel
theorem dX7_standard_5 : decode cX7_standard 5 = .ok (.astore 4, 2) := by decide +kernel
theorem dX7_standard_7 : decode cX7_standard 7 = .ok (.aload 4, 2) := by decide +kernel
theorem dX7_standard_9 : decode cX7_standard 9 = .ok (.ifnonnull 6, 3) := by decide +kernel
theorem dX7_standard_12 : decode cX7_standard 12 = .ok (.bipush (-101), 2) := by decide +kernel
theorem dX7_standard_14 : decode cX7_standard 14 = .ok (.ireturn, 1) := by decide +kernel
theorem dX7_standard_15 : decode cX7_standard 15 = .ok (.iload_n 2, 1) := by decide +kernel
theorem dX7_standard_16 : decode cX7_standard 16 = .ok (.iconst 0, 1) := by decide +kernel
theorem dX7_standard_17 : decode cX7_standard 17 = .ok (.ldc 90, 2) := by decide +kernel
theorem dX7_standard_19 : decode cX7_standard 19 = .ok (.invokestatic 60, 3) := by decide +kernel
theorem dX7_standard_22 : decode cX7_standard 22 = .ok (.ifCond .eq 14, 3) := by decide +kernel
theorem dX7_standard_25 : decode cX7_standard 25 = .ok (.iload_n 3, 1) := by decide +kernel
theorem dX7_standard_26 : decode cX7_standard 26 = .ok (.iconst 0, 1) := by decide +kernel
theorem dX7_standard_27 : decode cX7_standard 27 = .ok (.sipush 10000, 3) := by decide +kernel
theorem dX7_standard_30 : decode cX7_standard 30 = .ok (.invokestatic 60, 3) := by decide +kernel
theorem dX7_standard_33 : decode cX7_standard 33 = .ok (.ifCond .ne 6, 3) := by decide +kernel
theorem dX7_standard_36 : decode cX7_standard 36 = .ok (.bipush (-102), 2) := by decide +kernel
theorem dX7_standard_38 : decode cX7_standard 38 = .ok (.ireturn, 1) := by decide +kernel
theorem dX7_standard_39 : decode cX7_standard 39 = .ok (.aload 4, 2) := by decide +kernel
theorem dX7_standard_41 : decode cX7_standard 41 = .ok (.iconst 1, 1) := by decide +kernel
theorem dX7_standard_42 : decode cX7_standard 42 = .ok (.iload_n 2, 1) := by decide +kernel
theorem dX7_standard_43 : decode cX7_standard 43 = .ok (.iload_n 3, 1) := by decide +kernel
theorem dX7_standard_44 : decode cX7_standard 44 = .ok (.invokestatic 179, 3) := by decide +kernel
theorem dX7_standard_47 : decode cX7_standard 47 = .ok (.ireturn, 1) := by decide +kernel
set_option maxRecDepth 20000 in
theorem ggX7_blank_X7_batchNamed : GoodIn wsX7_blank wsX7_batchNamed := goodIn_r _ [5, 6, 7, 33, 34, 35, 36, 37, 38, 39, 40, 41, 42, 43] (by decide +kernel) (by decide +kernel)
set_option maxRecDepth 20000 in
theorem gX7_blank_X7_batchNamed : GoodIn wsX7_blank (wsV RX7 167 RX7 yX7_batchNamed wsX7_batchNamed) := goodIn_app (goodIn_of _ (by decide +kernel)) ggX7_blank_X7_batchNamed
set_option maxRecDepth 20000 in
theorem ggX7_blank_X7_addPlace : GoodIn wsX7_blank wsX7_addPlace := goodIn_r _ [10, 11, 12, 13, 14, 15, 16, 17, 18, 19, 20, 21, 22, 23, 24, 25, 26, 27, 28, 29, 30, 31, 32, 44, 45, 46, 47, 48, 49, 50] (by decide +kernel) (by decide +kernel)
set_option maxRecDepth 20000 in
theorem gX7_blank_X7_addPlace : GoodIn wsX7_blank (va_wsS RX7 179 yX7_addPlace wsX7_addPlace) := goodIn_app (goodIn_of _ (by decide +kernel)) ggX7_blank_X7_addPlace
theorem dX7_blank_0 : decode cX7_blank 0 = .ok (.aload_n 0, 1) := by decide +kernel
theorem dX7_blank_1 : decode cX7_blank 1 = .ok (.iload_n 1, 1) := by decide +kernel
theorem dX7_blank_2 : decode cX7_blank 2 = .ok (.invokevirtual 167, 3) := by decide +kernel
theorem dX7_blank_5 : decode cX7_blank 5 = .ok (.astore_n 2, 1) := by decide +kernel
theorem dX7_blank_6 : decode cX7_blank 6 = .ok (.aload_n 2, 1) := by decide +kernel
theorem dX7_blank_7 : decode cX7_blank 7 = .ok (.ifnonnull 8, 3) := by decide +kernel
theorem dX7_blank_10 : decode cX7_blank 10 = .ok (.bipush (-101), 2) := by decide +kernel
theorem dX7_blank_12 : decode cX7_blank 12 = .ok (.goto 10, 3) := by decide +kernel
theorem dX7_blank_15 : decode cX7_blank 15 = .ok (.aload_n 2, 1) := by decide +kernel
theorem dX7_blank_16 : decode cX7_blank 16 = .ok (.iconst 2, 1) := by decide +kernel
theorem dX7_blank_17 : decode cX7_blank 17 = .ok (.iconst 0, 1) := by decide +kernel
theorem dX7_blank_18 : decode cX7_blank 18 = .ok (.iconst 0, 1) := by decide +kernel
theorem dX7_blank_19 : decode cX7_blank 19 = .ok (.invokestatic 179, 3) := by decide +kernel
theorem dX7_blank_22 : decode cX7_blank 22 = .ok (.ireturn, 1) := by decide +kernel
set_option maxRecDepth 20000 in
theorem ggX7_twice_X7_batchNamed : GoodIn wsX7_twice wsX7_batchNamed := goodIn_r _ [7, 8, 9, 54, 55, 56, 57, 58, 59, 60, 61, 62, 63, 64] (by decide +kernel) (by decide +kernel)
set_option maxRecDepth 20000 in
theorem gX7_twice_X7_batchNamed : GoodIn wsX7_twice (wsV RX7 167 RX7 yX7_batchNamed wsX7_batchNamed) := goodIn_app (goodIn_of _ (by decide +kernel)) ggX7_twice_X7_batchNamed
set_option maxRecDepth 20000 in
theorem ggX7_twice_X7_placeNamed : GoodIn wsX7_twice wsX7_placeNamed := goodIn_r _ [13, 14, 15, 3, 4, 5, 6, 7, 8, 9, 65, 66, 54, 55, 56, 57, 58, 59, 60, 61, 62, 63, 64] (by decide +kernel) (by decide +kernel)
set_option maxRecDepth 20000 in
theorem gX7_twice_X7_placeNamed : GoodIn wsX7_twice (wsV RX7 183 RX7 yX7_placeNamed wsX7_placeNamed) := goodIn_app (goodIn_of _ (by decide +kernel)) ggX7_twice_X7_placeNamed
set_option maxRecDepth 20000 in
theorem ggX7_twice_X7_sampleNamed : GoodIn wsX7_twice wsX7_sampleNamed := goodIn_r _ [19, 20, 21, 54, 55, 56, 57, 58, 59, 60, 61, 62, 63, 64] (by decide +kernel) (by decide +kernel)
set_option maxRecDepth 20000 in
theorem gX7_twice_X7_sampleNamed : GoodIn wsX7_twice (wsV RX7 156 RX7 yX7_sampleNamed wsX7_sampleNamed) := goodIn_app (goodIn_of _ (by decide +kernel)) ggX7_twice_X7_sampleNamed
set_option maxRecDepth 20000 in
theorem ggX7_twice_X7_addPlaceWithQuarter : GoodIn wsX7_twice wsX7_addPlaceWithQuarter := goodIn_r _ [24, 25, 26, 27, 6, 28, 14, 15, 29, 30, 31, 32, 33, 34, 35, 36, 37, 38, 39, 40, 41, 42, 43, 44, 45, 46, 47, 48, 67, 68, 69, 70, 65, 66, 49, 50, 51, 52, 53] (by decide +kernel) (by decide +kernel)
set_option maxRecDepth 20000 in
theorem gX7_twice_X7_addPlaceWithQuarter : GoodIn wsX7_twice (va_wsS RX7 175 yX7_addPlaceWithQuarter wsX7_addPlaceWithQuarter) := goodIn_app (goodIn_of _ (by decide +kernel)) ggX7_twice_X7_addPlaceWithQuarter
theorem dX7_twice_0 : decode cX7_twice 0 = .ok (.aload_n 0, 1) := by decide +kernel
theorem dX7_twice_1 : decode cX7_twice 1 = .ok (.iload_n 1, 1) := by decide +kernel
theorem dX7_twice_2 : decode cX7_twice 2 = .ok (.invokevirtual 167, 3) := by decide +kernel
theorem dX7_twice_5 : decode cX7_twice 5 = .ok (.astore_n 3, 1) := by decide +kernel
theorem dX7_twice_6 : decode cX7_twice 6 = .ok (.aload_n 0, 1) := by decide +kernel
theorem dX7_twice_7 : decode cX7_twice 7 = .ok (.iload_n 1, 1) := by decide +kernel
theorem dX7_twice_8 : decode cX7_twice 8 = .ok (.iload_n 2, 1) := by decide +kernel
theorem dX7_twice_9 : decode cX7_twice 9 = .ok (.invokevirtual 183, 3) := by decide +kernel
theorem dX7_twice_12 : decode cX7_twice 12 = .ok (.astore 4, 2) := by decide +kernel
theorem dX7_twice_14 : decode cX7_twice 14 = .ok (.aload_n 3, 1) := by decide +kernel
theorem dX7_twice_15 : decode cX7_twice 15 = .ok (.ifnull 8, 3) := by decide +kernel
theorem dX7_twice_18 : decode cX7_twice 18 = .ok (.aload 4, 2) := by decide +kernel
theorem dX7_twice_20 : decode cX7_twice 20 = .ok (.ifnonnull 6, 3) := by decide +kernel
theorem dX7_twice_23 : decode cX7_twice 23 = .ok (.bipush (-101), 2) := by decide +kernel
theorem dX7_twice_25 : decode cX7_twice 25 = .ok (.ireturn, 1) := by decide +kernel
theorem dX7_twice_26 : decode cX7_twice 26 = .ok (.aload 4, 2) := by decide +kernel
theorem dX7_twice_28 : decode cX7_twice 28 = .ok (.getfield 187, 3) := by decide +kernel
theorem dX7_twice_31 : decode cX7_twice 31 = .ok (.ifCond .ne 15, 3) := by decide +kernel
theorem dX7_twice_34 : decode cX7_twice 34 = .ok (.aload_n 0, 1) := by decide +kernel
theorem dX7_twice_35 : decode cX7_twice 35 = .ok (.aload 4, 2) := by decide +kernel
theorem dX7_twice_37 : decode cX7_twice 37 = .ok (.getfield 192, 3) := by decide +kernel
theorem dX7_twice_40 : decode cX7_twice 40 = .ok (.invokevirtual 156, 3) := by decide +kernel
theorem dX7_twice_43 : decode cX7_twice 43 = .ok (.goto 4, 3) := by decide +kernel
theorem dX7_twice_46 : decode cX7_twice 46 = .ok (.aconst_null, 1) := by decide +kernel
theorem dX7_twice_47 : decode cX7_twice 47 = .ok (.astore 5, 2) := by decide +kernel
theorem dX7_twice_49 : decode cX7_twice 49 = .ok (.aload 5, 2) := by decide +kernel
theorem dX7_twice_51 : decode cX7_twice 51 = .ok (.ifnonnull 6, 3) := by decide +kernel
theorem dX7_twice_54 : decode cX7_twice 54 = .ok (.bipush (-102), 2) := by decide +kernel
theorem dX7_twice_56 : decode cX7_twice 56 = .ok (.ireturn, 1) := by decide +kernel
theorem dX7_twice_57 : decode cX7_twice 57 = .ok (.aload_n 3, 1) := by decide +kernel
theorem dX7_twice_58 : decode cX7_twice 58 = .ok (.iconst 3, 1) := by decide +kernel
theorem dX7_twice_59 : decode cX7_twice 59 = .ok (.iload_n 2, 1) := by decide +kernel
theorem dX7_twice_60 : decode cX7_twice 60 = .ok (.aload 5, 2) := by decide +kernel
theorem dX7_twice_62 : decode cX7_twice 62 = .ok (.invokestatic 175, 3) := by decide +kernel
theorem dX7_twice_65 : decode cX7_twice 65 = .ok (.ireturn, 1) := by decide +kernel
set_option maxRecDepth 20000 in
theorem ggX7_law_X7_isWithin : GoodIn wsX7_law wsX7_isWithin := goodIn_r _ [6] (by decide +kernel) (by decide +kernel)
set_option maxRecDepth 20000 in
theorem gX7_law_X7_isWithin : GoodIn wsX7_law (va_wsS RX7 60 yX7_isWithin wsX7_isWithin) := goodIn_app (goodIn_of _ (by decide +kernel)) ggX7_law_X7_isWithin
theorem dX7_law_0 : decode cX7_law 0 = .ok (.iload_n 1, 1) := by decide +kernel
theorem dX7_law_1 : decode cX7_law 1 = .ok (.ifCond .eq 11, 3) := by decide +kernel
theorem dX7_law_4 : decode cX7_law 4 = .ok (.iload_n 1, 1) := by decide +kernel
theorem dX7_law_5 : decode cX7_law 5 = .ok (.iconst 1, 1) := by decide +kernel
theorem dX7_law_6 : decode cX7_law 6 = .ok (.if_icmp .eq 6, 3) := by decide +kernel
theorem dX7_law_9 : decode cX7_law 9 = .ok (.bipush (-101), 2) := by decide +kernel
theorem dX7_law_11 : decode cX7_law 11 = .ok (.ireturn, 1) := by decide +kernel
theorem dX7_law_12 : decode cX7_law 12 = .ok (.iload_n 2, 1) := by decide +kernel
theorem dX7_law_13 : decode cX7_law 13 = .ok (.iconst 0, 1) := by decide +kernel
theorem dX7_law_14 : decode cX7_law 14 = .ok (.sipush 1000, 3) := by decide +kernel
theorem dX7_law_17 : decode cX7_law 17 = .ok (.invokestatic 60, 3) := by decide +kernel
theorem dX7_law_20 : decode cX7_law 20 = .ok (.ifCond .ne 6, 3) := by decide +kernel
theorem dX7_law_23 : decode cX7_law 23 = .ok (.bipush (-102), 2) := by decide +kernel
theorem dX7_law_25 : decode cX7_law 25 = .ok (.ireturn, 1) := by decide +kernel
theorem dX7_law_26 : decode cX7_law 26 = .ok (.iload_n 1, 1) := by decide +kernel
theorem dX7_law_27 : decode cX7_law 27 = .ok (.ifCond .ne 10, 3) := by decide +kernel
theorem dX7_law_30 : decode cX7_law 30 = .ok (.aload_n 0, 1) := by decide +kernel
theorem dX7_law_31 : decode cX7_law 31 = .ok (.getfield 45, 3) := by decide +kernel
theorem dX7_law_34 : decode cX7_law 34 = .ok (.goto 7, 3) := by decide +kernel
theorem dX7_law_37 : decode cX7_law 37 = .ok (.aload_n 0, 1) := by decide +kernel
theorem dX7_law_38 : decode cX7_law 38 = .ok (.getfield 49, 3) := by decide +kernel
theorem dX7_law_41 : decode cX7_law 41 = .ok (.istore_n 3, 1) := by decide +kernel
theorem dX7_law_42 : decode cX7_law 42 = .ok (.iload_n 1, 1) := by decide +kernel
theorem dX7_law_43 : decode cX7_law 43 = .ok (.ifCond .ne 11, 3) := by decide +kernel
theorem dX7_law_46 : decode cX7_law 46 = .ok (.aload_n 0, 1) := by decide +kernel
theorem dX7_law_47 : decode cX7_law 47 = .ok (.iload_n 2, 1) := by decide +kernel
theorem dX7_law_48 : decode cX7_law 48 = .ok (.putfield 45, 3) := by decide +kernel
theorem dX7_law_51 : decode cX7_law 51 = .ok (.goto 8, 3) := by decide +kernel
theorem dX7_law_54 : decode cX7_law 54 = .ok (.aload_n 0, 1) := by decide +kernel
theorem dX7_law_55 : decode cX7_law 55 = .ok (.iload_n 2, 1) := by decide +kernel
theorem dX7_law_56 : decode cX7_law 56 = .ok (.putfield 49, 3) := by decide +kernel
theorem dX7_law_59 : decode cX7_law 59 = .ok (.iload_n 3, 1) := by decide +kernel
theorem dX7_law_60 : decode cX7_law 60 = .ok (.ireturn, 1) := by decide +kernel
set_option maxRecDepth 20000 in
theorem ggX7_result_X7_placeNamed : GoodIn wsX7_result wsX7_placeNamed := goodIn_r _ [8, 9, 10, 11, 12, 13, 7, 14, 15, 16, 25, 26, 27, 28, 29, 30, 31, 32, 33, 34, 35, 36, 37] (by decide +kernel) (by decide +kernel)
set_option maxRecDepth 20000 in
theorem gX7_result_X7_placeNamed : GoodIn wsX7_result (wsV RX7 183 RX7 yX7_placeNamed wsX7_placeNamed) := goodIn_app (goodIn_of _ (by decide +kernel)) ggX7_result_X7_placeNamed
set_option maxRecDepth 20000 in
theorem ggX7_result_X7_isWithin : GoodIn wsX7_result wsX7_isWithin := goodIn_r _ [19] (by decide +kernel) (by decide +kernel)
set_option maxRecDepth 20000 in
theorem gX7_result_X7_isWithin : GoodIn wsX7_result (va_wsS RX7 60 yX7_isWithin wsX7_isWithin) := goodIn_app (goodIn_of _ (by decide +kernel)) ggX7_result_X7_isWithin
theorem dX7_result_0 : decode cX7_result 0 = .ok (.aload_n 0, 1) := by decide +kernel
theorem dX7_result_1 : decode cX7_result 1 = .ok (.iload_n 1, 1) := by decide +kernel
theorem dX7_result_2 : decode cX7_result 2 = .ok (.iload_n 2, 1) := by decide +kernel
theorem dX7_result_3 : decode cX7_result 3 = .ok (.invokevirtual 183, 3) := by decide +kernel
theorem dX7_result_6 : decode cX7_result 6 = .ok (.astore 4, 2) := by decide +kernel
theorem dX7_result_8 : decode cX7_result 8 = .ok (.aload 4, 2) := by decide +kernel
theorem dX7_result_10 : decode cX7_result 10 = .ok (.ifnonnull 6, 3) := by decide +kernel
theorem dX7_result_13 : decode cX7_result 13 = .ok (.bipush (-101), 2) := by decide +kernel
theorem dX7_result_15 : decode cX7_result 15 = .ok (.ireturn, 1) := by decide +kernel
theorem dX7_result_16 : decode cX7_result 16 = .ok (.iload_n 3, 1) := by decide +kernel
theorem dX7_result_17 : decode cX7_result 17 = .ok (.sipush (-1000), 3) := by decide +kernel
theorem dX7_result_20 : decode cX7_result 20 = .ok (.ldc 90, 2) := by decide +kernel
theorem dX7_result_22 : decode cX7_result 22 = .ok (.invokestatic 60, 3) := by decide +kernel
theorem dX7_result_25 : decode cX7_result 25 = .ok (.ifCond .ne 6, 3) := by decide +kernel
theorem dX7_result_28 : decode cX7_result 28 = .ok (.bipush (-102), 2) := by decide +kernel
theorem dX7_result_30 : decode cX7_result 30 = .ok (.ireturn, 1) := by decide +kernel
theorem dX7_result_31 : decode cX7_result 31 = .ok (.aload 4, 2) := by decide +kernel
theorem dX7_result_33 : decode cX7_result 33 = .ok (.iconst 1, 1) := by decide +kernel
theorem dX7_result_34 : decode cX7_result 34 = .ok (.putfield 195, 3) := by decide +kernel
theorem dX7_result_37 : decode cX7_result 37 = .ok (.aload 4, 2) := by decide +kernel
theorem dX7_result_39 : decode cX7_result 39 = .ok (.iload_n 3, 1) := by decide +kernel
theorem dX7_result_40 : decode cX7_result 40 = .ok (.putfield 199, 3) := by decide +kernel
theorem dX7_result_43 : decode cX7_result 43 = .ok (.iconst 1, 1) := by decide +kernel
theorem dX7_result_44 : decode cX7_result 44 = .ok (.ireturn, 1) := by decide +kernel
set_option maxRecDepth 20000 in
theorem ggX7_sound_X7_batchNamed : GoodIn wsX7_sound wsX7_batchNamed := goodIn_r _ [7, 8, 9, 55, 56, 57, 58, 59, 60, 61, 62, 63, 64, 65] (by decide +kernel) (by decide +kernel)
set_option maxRecDepth 20000 in
theorem gX7_sound_X7_batchNamed : GoodIn wsX7_sound (wsV RX7 167 RX7 yX7_batchNamed wsX7_batchNamed) := goodIn_app (goodIn_of _ (by decide +kernel)) ggX7_sound_X7_batchNamed
set_option maxRecDepth 20000 in
theorem ggX7_sound_X0_isComplete : GoodIn wsX7_sound wsX0_isComplete := goodIn_r _ [14, 15, 16, 17, 66, 67, 68, 69, 70, 71, 72] (by decide +kernel) (by decide +kernel)
set_option maxRecDepth 20000 in
theorem gX7_sound_X0_isComplete : GoodIn wsX7_sound (wsV RX7 202 RX0 yX0_isComplete wsX0_isComplete) := goodIn_app (goodIn_of _ (by decide +kernel)) ggX7_sound_X0_isComplete
set_option maxRecDepth 20000 in
theorem ggX7_sound_X0_isSound : GoodIn wsX7_sound wsX0_isSound := goodIn_r _ [21, 22, 11, 12, 13, 14, 15, 16, 17, 23, 24, 25, 26, 27, 28, 29, 30, 31, 32, 33, 34, 35, 36, 37, 38, 39, 40, 41, 42, 43, 44, 45, 46, 47, 48, 49, 50, 51, 52, 53, 54, 66, 67, 68, 69, 70, 71, 72] (by decide +kernel) (by decide +kernel)
set_option maxRecDepth 20000 in
theorem gX7_sound_X0_isSound : GoodIn wsX7_sound (wsV RX7 205 RX0 yX0_isSound wsX0_isSound) := goodIn_app (goodIn_of _ (by decide +kernel)) ggX7_sound_X0_isSound
theorem dX7_sound_0 : decode cX7_sound 0 = .ok (.aload_n 0, 1) := by decide +kernel
theorem dX7_sound_1 : decode cX7_sound 1 = .ok (.iload_n 1, 1) := by decide +kernel
theorem dX7_sound_2 : decode cX7_sound 2 = .ok (.invokevirtual 167, 3) := by decide +kernel
theorem dX7_sound_5 : decode cX7_sound 5 = .ok (.astore_n 2, 1) := by decide +kernel
theorem dX7_sound_6 : decode cX7_sound 6 = .ok (.aload_n 2, 1) := by decide +kernel
theorem dX7_sound_7 : decode cX7_sound 7 = .ok (.ifnonnull 6, 3) := by decide +kernel
theorem dX7_sound_10 : decode cX7_sound 10 = .ok (.bipush (-101), 2) := by decide +kernel
theorem dX7_sound_12 : decode cX7_sound 12 = .ok (.ireturn, 1) := by decide +kernel
theorem dX7_sound_13 : decode cX7_sound 13 = .ok (.aload_n 2, 1) := by decide +kernel
theorem dX7_sound_14 : decode cX7_sound 14 = .ok (.invokevirtual 202, 3) := by decide +kernel
theorem dX7_sound_17 : decode cX7_sound 17 = .ok (.ifCond .ne 6, 3) := by decide +kernel
theorem dX7_sound_20 : decode cX7_sound 20 = .ok (.bipush (-103), 2) := by decide +kernel
theorem dX7_sound_22 : decode cX7_sound 22 = .ok (.ireturn, 1) := by decide +kernel
theorem dX7_sound_23 : decode cX7_sound 23 = .ok (.aload_n 2, 1) := by decide +kernel
theorem dX7_sound_24 : decode cX7_sound 24 = .ok (.aload_n 0, 1) := by decide +kernel
theorem dX7_sound_25 : decode cX7_sound 25 = .ok (.getfield 45, 3) := by decide +kernel
theorem dX7_sound_28 : decode cX7_sound 28 = .ok (.aload_n 0, 1) := by decide +kernel
theorem dX7_sound_29 : decode cX7_sound 29 = .ok (.getfield 49, 3) := by decide +kernel
theorem dX7_sound_32 : decode cX7_sound 32 = .ok (.invokevirtual 205, 3) := by decide +kernel
theorem dX7_sound_35 : decode cX7_sound 35 = .ok (.ifCond .eq 7, 3) := by decide +kernel
theorem dX7_sound_38 : decode cX7_sound 38 = .ok (.iconst 1, 1) := by decide +kernel
theorem dX7_sound_39 : decode cX7_sound 39 = .ok (.goto 4, 3) := by decide +kernel
theorem dX7_sound_42 : decode cX7_sound 42 = .ok (.iconst 0, 1) := by decide +kernel
theorem dX7_sound_43 : decode cX7_sound 43 = .ok (.ireturn, 1) := by decide +kernel
set_option maxRecDepth 20000 in
theorem ggX7_fault_X7_batchNamed : GoodIn wsX7_fault wsX7_batchNamed := goodIn_r _ [7, 8, 9, 50, 51, 52, 53, 54, 55, 56, 57, 58, 59, 60] (by decide +kernel) (by decide +kernel)
set_option maxRecDepth 20000 in
theorem gX7_fault_X7_batchNamed : GoodIn wsX7_fault (wsV RX7 167 RX7 yX7_batchNamed wsX7_batchNamed) := goodIn_app (goodIn_of _ (by decide +kernel)) ggX7_fault_X7_batchNamed
set_option maxRecDepth 20000 in
theorem ggX7_fault_X0_isComplete : GoodIn wsX7_fault wsX0_isComplete := goodIn_r _ [14, 15, 16, 17, 61, 62, 63, 64, 65, 66, 67] (by decide +kernel) (by decide +kernel)
set_option maxRecDepth 20000 in
theorem gX7_fault_X0_isComplete : GoodIn wsX7_fault (wsV RX7 202 RX0 yX0_isComplete wsX0_isComplete) := goodIn_app (goodIn_of _ (by decide +kernel)) ggX7_fault_X0_isComplete
set_option maxRecDepth 20000 in
theorem ggX7_fault_X0_firstFault : GoodIn wsX7_fault wsX0_firstFault := goodIn_r _ [21, 15, 16, 22, 23, 24, 13, 25, 26, 27, 28, 29, 30, 31, 32, 33, 34, 35, 36, 37, 38, 39, 40, 41, 42, 43, 44, 45, 46, 47, 48, 49, 61, 62, 63, 64, 65, 66, 67] (by decide +kernel) (by decide +kernel)
set_option maxRecDepth 20000 in
theorem gX7_fault_X0_firstFault : GoodIn wsX7_fault (wsV RX7 208 RX0 yX0_firstFault wsX0_firstFault) := goodIn_app (goodIn_of _ (by decide +kernel)) ggX7_fault_X0_firstFault
theorem dX7_fault_0 : decode cX7_fault 0 = .ok (.aload_n 0, 1) := by decide +kernel
theorem dX7_fault_1 : decode cX7_fault 1 = .ok (.iload_n 1, 1) := by decide +kernel
theorem dX7_fault_2 : decode cX7_fault 2 = .ok (.invokevirtual 167, 3) := by decide +kernel
theorem dX7_fault_5 : decode cX7_fault 5 = .ok (.astore_n 2, 1) := by decide +kernel
theorem dX7_fault_6 : decode cX7_fault 6 = .ok (.aload_n 2, 1) := by decide +kernel
theorem dX7_fault_7 : decode cX7_fault 7 = .ok (.ifnonnull 6, 3) := by decide +kernel
theorem dX7_fault_10 : decode cX7_fault 10 = .ok (.bipush (-101), 2) := by decide +kernel
theorem dX7_fault_12 : decode cX7_fault 12 = .ok (.ireturn, 1) := by decide +kernel
theorem dX7_fault_13 : decode cX7_fault 13 = .ok (.aload_n 2, 1) := by decide +kernel
theorem dX7_fault_14 : decode cX7_fault 14 = .ok (.invokevirtual 202, 3) := by decide +kernel
theorem dX7_fault_17 : decode cX7_fault 17 = .ok (.ifCond .eq 18, 3) := by decide +kernel
theorem dX7_fault_20 : decode cX7_fault 20 = .ok (.aload_n 2, 1) := by decide +kernel
theorem dX7_fault_21 : decode cX7_fault 21 = .ok (.aload_n 0, 1) := by decide +kernel
theorem dX7_fault_22 : decode cX7_fault 22 = .ok (.getfield 45, 3) := by decide +kernel
theorem dX7_fault_25 : decode cX7_fault 25 = .ok (.aload_n 0, 1) := by decide +kernel
theorem dX7_fault_26 : decode cX7_fault 26 = .ok (.getfield 49, 3) := by decide +kernel
theorem dX7_fault_29 : decode cX7_fault 29 = .ok (.invokevirtual 208, 3) := by decide +kernel
theorem dX7_fault_32 : decode cX7_fault 32 = .ok (.goto 5, 3) := by decide +kernel
theorem dX7_fault_35 : decode cX7_fault 35 = .ok (.bipush (-103), 2) := by decide +kernel
theorem dX7_fault_37 : decode cX7_fault 37 = .ok (.ireturn, 1) := by decide +kernel
set_option maxRecDepth 20000 in
theorem ggX7_swap_X7_batchNamed : GoodIn wsX7_swap wsX7_batchNamed := goodIn_r _ [7, 8, 9, 64, 65, 66, 67, 68, 69, 70, 71, 72, 73, 74] (by decide +kernel) (by decide +kernel)
set_option maxRecDepth 20000 in
theorem gX7_swap_X7_batchNamed : GoodIn wsX7_swap (wsV RX7 167 RX7 yX7_batchNamed wsX7_batchNamed) := goodIn_app (goodIn_of _ (by decide +kernel)) ggX7_swap_X7_batchNamed
set_option maxRecDepth 20000 in
theorem ggX7_swap_X0_isComplete : GoodIn wsX7_swap wsX0_isComplete := goodIn_r _ [14, 15, 16, 17, 75, 76, 77, 78, 79, 80, 81] (by decide +kernel) (by decide +kernel)
set_option maxRecDepth 20000 in
theorem gX7_swap_X0_isComplete : GoodIn wsX7_swap (wsV RX7 202 RX0 yX0_isComplete wsX0_isComplete) := goodIn_app (goodIn_of _ (by decide +kernel)) ggX7_swap_X0_isComplete
set_option maxRecDepth 20000 in
theorem ggX7_swap_X0_isSound : GoodIn wsX7_swap wsX0_isSound := goodIn_r _ [21, 22, 11, 12, 13, 14, 15, 16, 17, 23, 24, 25, 26, 27, 28, 29, 30, 31, 32, 33, 34, 35, 36, 37, 38, 39, 40, 41, 42, 43, 44, 45, 46, 47, 48, 49, 50, 51, 52, 53, 54, 75, 76, 77, 78, 79, 80, 81] (by decide +kernel) (by decide +kernel)
set_option maxRecDepth 20000 in
theorem gX7_swap_X0_isSound : GoodIn wsX7_swap (wsV RX7 205 RX0 yX0_isSound wsX0_isSound) := goodIn_app (goodIn_of _ (by decide +kernel)) ggX7_swap_X0_isSound
set_option maxRecDepth 20000 in
theorem ggX7_swap_X0_leastMendingSwap : GoodIn wsX7_swap wsX0_leastMendingSwap := goodIn_r _ [58, 15, 16, 59, 60, 61, 41, 62, 43, 63, 19, 20, 13, 21, 22, 11, 12, 14, 17, 23, 24, 25, 26, 27, 28, 29, 30, 31, 32, 33, 34, 35, 36, 37, 38, 39, 40, 42, 44, 45, 46, 47, 48, 49, 50, 51, 52, 53, 54, 75, 76, 77, 78, 79, 80, 81] (by decide +kernel) (by decide +kernel)
set_option maxRecDepth 20000 in
theorem gX7_swap_X0_leastMendingSwap : GoodIn wsX7_swap (wsV RX7 211 RX0 yX0_leastMendingSwap wsX0_leastMendingSwap) := goodIn_app (goodIn_of _ (by decide +kernel)) ggX7_swap_X0_leastMendingSwap
theorem dX7_swap_0 : decode cX7_swap 0 = .ok (.aload_n 0, 1) := by decide +kernel
theorem dX7_swap_1 : decode cX7_swap 1 = .ok (.iload_n 1, 1) := by decide +kernel
theorem dX7_swap_2 : decode cX7_swap 2 = .ok (.invokevirtual 167, 3) := by decide +kernel
theorem dX7_swap_5 : decode cX7_swap 5 = .ok (.astore_n 2, 1) := by decide +kernel
theorem dX7_swap_6 : decode cX7_swap 6 = .ok (.aload_n 2, 1) := by decide +kernel
theorem dX7_swap_7 : decode cX7_swap 7 = .ok (.ifnonnull 6, 3) := by decide +kernel
theorem dX7_swap_10 : decode cX7_swap 10 = .ok (.bipush (-101), 2) := by decide +kernel
theorem dX7_swap_12 : decode cX7_swap 12 = .ok (.ireturn, 1) := by decide +kernel
theorem dX7_swap_13 : decode cX7_swap 13 = .ok (.aload_n 2, 1) := by decide +kernel
theorem dX7_swap_14 : decode cX7_swap 14 = .ok (.invokevirtual 202, 3) := by decide +kernel
theorem dX7_swap_17 : decode cX7_swap 17 = .ok (.ifCond .ne 6, 3) := by decide +kernel
theorem dX7_swap_20 : decode cX7_swap 20 = .ok (.bipush (-103), 2) := by decide +kernel
theorem dX7_swap_22 : decode cX7_swap 22 = .ok (.ireturn, 1) := by decide +kernel
theorem dX7_swap_23 : decode cX7_swap 23 = .ok (.aload_n 2, 1) := by decide +kernel
theorem dX7_swap_24 : decode cX7_swap 24 = .ok (.aload_n 0, 1) := by decide +kernel
theorem dX7_swap_25 : decode cX7_swap 25 = .ok (.getfield 45, 3) := by decide +kernel
theorem dX7_swap_28 : decode cX7_swap 28 = .ok (.aload_n 0, 1) := by decide +kernel
theorem dX7_swap_29 : decode cX7_swap 29 = .ok (.getfield 49, 3) := by decide +kernel
theorem dX7_swap_32 : decode cX7_swap 32 = .ok (.invokevirtual 205, 3) := by decide +kernel
theorem dX7_swap_35 : decode cX7_swap 35 = .ok (.ifCond .eq 7, 3) := by decide +kernel
theorem dX7_swap_38 : decode cX7_swap 38 = .ok (.iconst (-1), 1) := by decide +kernel
theorem dX7_swap_39 : decode cX7_swap 39 = .ok (.goto 15, 3) := by decide +kernel
theorem dX7_swap_42 : decode cX7_swap 42 = .ok (.aload_n 2, 1) := by decide +kernel
theorem dX7_swap_43 : decode cX7_swap 43 = .ok (.aload_n 0, 1) := by decide +kernel
theorem dX7_swap_44 : decode cX7_swap 44 = .ok (.getfield 45, 3) := by decide +kernel
theorem dX7_swap_47 : decode cX7_swap 47 = .ok (.aload_n 0, 1) := by decide +kernel
theorem dX7_swap_48 : decode cX7_swap 48 = .ok (.getfield 49, 3) := by decide +kernel
theorem dX7_swap_51 : decode cX7_swap 51 = .ok (.invokevirtual 211, 3) := by decide +kernel
theorem dX7_swap_54 : decode cX7_swap 54 = .ok (.ireturn, 1) := by decide +kernel
set_option maxRecDepth 20000 in
theorem ggX7_exchange_X7_placeNamed : GoodIn wsX7_exchange wsX7_placeNamed := goodIn_r _ [6, 7, 8, 9, 10, 11, 5, 12, 13, 14, 26, 27, 28, 29, 30, 31, 32, 33, 34, 35, 36, 37, 38] (by decide +kernel) (by decide +kernel)
set_option maxRecDepth 20000 in
theorem gX7_exchange_X7_placeNamed : GoodIn wsX7_exchange (wsV RX7 183 RX7 yX7_placeNamed wsX7_placeNamed) := goodIn_app (goodIn_of _ (by decide +kernel)) ggX7_exchange_X7_placeNamed
set_option maxRecDepth 20000 in
theorem ggX7_exchange_X5_exchangeResult : GoodIn wsX7_exchange wsX5_exchangeResult := goodIn_r _ [19, 20, 21, 22, 23, 24, 25] (by decide +kernel) (by decide +kernel)
set_option maxRecDepth 20000 in
theorem gX7_exchange_X5_exchangeResult : GoodIn wsX7_exchange (wsV RX7 214 RX5 yX5_exchangeResult wsX5_exchangeResult) := goodIn_app (goodIn_of _ (by decide +kernel)) ggX7_exchange_X5_exchangeResult
theorem dX7_exchange_0 : decode cX7_exchange 0 = .ok (.aload_n 0, 1) := by decide +kernel
theorem dX7_exchange_1 : decode cX7_exchange 1 = .ok (.iload_n 1, 1) := by decide +kernel
theorem dX7_exchange_2 : decode cX7_exchange 2 = .ok (.iload_n 2, 1) := by decide +kernel
theorem dX7_exchange_3 : decode cX7_exchange 3 = .ok (.invokevirtual 183, 3) := by decide +kernel
theorem dX7_exchange_6 : decode cX7_exchange 6 = .ok (.astore_n 3, 1) := by decide +kernel
theorem dX7_exchange_7 : decode cX7_exchange 7 = .ok (.aload_n 3, 1) := by decide +kernel
theorem dX7_exchange_8 : decode cX7_exchange 8 = .ok (.ifnonnull 7, 3) := by decide +kernel
theorem dX7_exchange_11 : decode cX7_exchange 11 = .ok (.aconst_null, 1) := by decide +kernel
theorem dX7_exchange_12 : decode cX7_exchange 12 = .ok (.goto 11, 3) := by decide +kernel
theorem dX7_exchange_15 : decode cX7_exchange 15 = .ok (.aload_n 0, 1) := by decide +kernel
theorem dX7_exchange_16 : decode cX7_exchange 16 = .ok (.iload_n 1, 1) := by decide +kernel
theorem dX7_exchange_17 : decode cX7_exchange 17 = .ok (.iload_n 2, 1) := by decide +kernel
theorem dX7_exchange_18 : decode cX7_exchange 18 = .ok (.iconst 1, 1) := by decide +kernel
theorem dX7_exchange_19 : decode cX7_exchange 19 = .ok (.iadd, 1) := by decide +kernel
theorem dX7_exchange_20 : decode cX7_exchange 20 = .ok (.invokevirtual 183, 3) := by decide +kernel
theorem dX7_exchange_23 : decode cX7_exchange 23 = .ok (.astore 4, 2) := by decide +kernel
theorem dX7_exchange_25 : decode cX7_exchange 25 = .ok (.aload_n 3, 1) := by decide +kernel
theorem dX7_exchange_26 : decode cX7_exchange 26 = .ok (.ifnull 8, 3) := by decide +kernel
theorem dX7_exchange_29 : decode cX7_exchange 29 = .ok (.aload 4, 2) := by decide +kernel
theorem dX7_exchange_31 : decode cX7_exchange 31 = .ok (.ifnonnull 6, 3) := by decide +kernel
theorem dX7_exchange_34 : decode cX7_exchange 34 = .ok (.bipush (-101), 2) := by decide +kernel
theorem dX7_exchange_36 : decode cX7_exchange 36 = .ok (.ireturn, 1) := by decide +kernel
theorem dX7_exchange_37 : decode cX7_exchange 37 = .ok (.aload_n 3, 1) := by decide +kernel
theorem dX7_exchange_38 : decode cX7_exchange 38 = .ok (.getfield 195, 3) := by decide +kernel
theorem dX7_exchange_41 : decode cX7_exchange 41 = .ok (.ifCond .eq 11, 3) := by decide +kernel
theorem dX7_exchange_44 : decode cX7_exchange 44 = .ok (.aload 4, 2) := by decide +kernel
theorem dX7_exchange_46 : decode cX7_exchange 46 = .ok (.getfield 195, 3) := by decide +kernel
theorem dX7_exchange_49 : decode cX7_exchange 49 = .ok (.ifCond .ne 6, 3) := by decide +kernel
theorem dX7_exchange_52 : decode cX7_exchange 52 = .ok (.bipush (-103), 2) := by decide +kernel
theorem dX7_exchange_54 : decode cX7_exchange 54 = .ok (.ireturn, 1) := by decide +kernel
theorem dX7_exchange_55 : decode cX7_exchange 55 = .ok (.aload_n 3, 1) := by decide +kernel
theorem dX7_exchange_56 : decode cX7_exchange 56 = .ok (.aload 4, 2) := by decide +kernel
theorem dX7_exchange_58 : decode cX7_exchange 58 = .ok (.invokevirtual 214, 3) := by decide +kernel
theorem dX7_exchange_61 : decode cX7_exchange 61 = .ok (.iconst 1, 1) := by decide +kernel
theorem dX7_exchange_62 : decode cX7_exchange 62 = .ok (.ireturn, 1) := by decide +kernel
set_option maxRecDepth 20000 in
theorem ggX7_about_X7_placeNamed : GoodIn wsX7_about wsX7_placeNamed := goodIn_r _ [5, 6, 7, 8, 9, 10, 4, 11, 12, 13, 27, 28, 29, 30, 31, 32, 33, 34, 35, 36, 37, 38, 39] (by decide +kernel) (by decide +kernel)
set_option maxRecDepth 20000 in
theorem gX7_about_X7_placeNamed : GoodIn wsX7_about (wsV RX7 183 RX7 yX7_placeNamed wsX7_placeNamed) := goodIn_app (goodIn_of _ (by decide +kernel)) ggX7_about_X7_placeNamed
set_option maxRecDepth 20000 in
theorem ggX7_about_X7_isWithin : GoodIn wsX7_about wsX7_isWithin := goodIn_r _ [16] (by decide +kernel) (by decide +kernel)
set_option maxRecDepth 20000 in
theorem gX7_about_X7_isWithin : GoodIn wsX7_about (va_wsS RX7 60 yX7_isWithin wsX7_isWithin) := goodIn_app (goodIn_of _ (by decide +kernel)) ggX7_about_X7_isWithin
set_option maxRecDepth 20000 in
theorem ggX7_about_X5_told : GoodIn wsX7_about wsX5_told := goodIn_r _ [21, 22, 23, 24, 25, 26, 40, 41, 42, 43, 44] (by decide +kernel) (by decide +kernel)
set_option maxRecDepth 20000 in
theorem gX7_about_X5_told : GoodIn wsX7_about (wsV RX7 218 RX5 yX5_told wsX5_told) := goodIn_app (goodIn_of _ (by decide +kernel)) ggX7_about_X5_told
theorem dX7_about_0 : decode cX7_about 0 = .ok (.aload_n 0, 1) := by decide +kernel
theorem dX7_about_1 : decode cX7_about 1 = .ok (.iload_n 1, 1) := by decide +kernel
theorem dX7_about_2 : decode cX7_about 2 = .ok (.iload_n 2, 1) := by decide +kernel
theorem dX7_about_3 : decode cX7_about 3 = .ok (.invokevirtual 183, 3) := by decide +kernel
theorem dX7_about_6 : decode cX7_about 6 = .ok (.astore 4, 2) := by decide +kernel
theorem dX7_about_8 : decode cX7_about 8 = .ok (.aload 4, 2) := by decide +kernel
theorem dX7_about_10 : decode cX7_about 10 = .ok (.ifnonnull 6, 3) := by decide +kernel
theorem dX7_about_13 : decode cX7_about 13 = .ok (.bipush (-101), 2) := by decide +kernel
theorem dX7_about_15 : decode cX7_about 15 = .ok (.ireturn, 1) := by decide +kernel
theorem dX7_about_16 : decode cX7_about 16 = .ok (.iload_n 3, 1) := by decide +kernel
theorem dX7_about_17 : decode cX7_about 17 = .ok (.iconst 0, 1) := by decide +kernel
theorem dX7_about_18 : decode cX7_about 18 = .ok (.iconst 4, 1) := by decide +kernel
theorem dX7_about_19 : decode cX7_about 19 = .ok (.invokestatic 60, 3) := by decide +kernel
theorem dX7_about_22 : decode cX7_about 22 = .ok (.ifCond .eq 12, 3) := by decide +kernel
theorem dX7_about_25 : decode cX7_about 25 = .ok (.aload 4, 2) := by decide +kernel
theorem dX7_about_27 : decode cX7_about 27 = .ok (.iload_n 3, 1) := by decide +kernel
theorem dX7_about_28 : decode cX7_about 28 = .ok (.invokevirtual 218, 3) := by decide +kernel
theorem dX7_about_31 : decode cX7_about 31 = .ok (.goto 5, 3) := by decide +kernel
theorem dX7_about_34 : decode cX7_about 34 = .ok (.bipush (-102), 2) := by decide +kernel
theorem dX7_about_36 : decode cX7_about 36 = .ok (.ireturn, 1) := by decide +kernel
set_option maxRecDepth 20000 in
theorem ggX7_grade_X7_sampleNamed : GoodIn wsX7_grade wsX7_sampleNamed := goodIn_r _ [5, 6, 7, 70, 71, 72, 73, 74, 75, 76, 77, 78, 79, 80] (by decide +kernel) (by decide +kernel)
set_option maxRecDepth 20000 in
theorem gX7_grade_X7_sampleNamed : GoodIn wsX7_grade (wsV RX7 156 RX7 yX7_sampleNamed wsX7_sampleNamed) := goodIn_app (goodIn_of _ (by decide +kernel)) ggX7_grade_X7_sampleNamed
set_option maxRecDepth 20000 in
theorem ggX7_grade_X7_gradingPlace : GoodIn wsX7_grade wsX7_gradingPlace := goodIn_r _ [11, 12, 13, 14, 15, 16, 17, 18, 19, 20, 21, 22, 23, 24, 25, 26, 27, 28, 29, 30, 31, 32, 33, 34, 35, 36, 37, 38, 39, 40, 41, 42, 43, 44, 45, 46, 47, 48, 49, 50, 51, 52, 53, 54, 55, 56, 57, 58, 59, 60, 61, 62, 63, 70, 71, 72, 73, 74, 75, 76, 77, 78, 79, 80, 81, 82, 83, 84, 85, 86, 87] (by decide +kernel) (by decide +kernel)
set_option maxRecDepth 20000 in
theorem gX7_grade_X7_gradingPlace : GoodIn wsX7_grade (wsV RX7 221 RX7 yX7_gradingPlace wsX7_gradingPlace) := goodIn_app (goodIn_of _ (by decide +kernel)) ggX7_grade_X7_gradingPlace
set_option maxRecDepth 20000 in
theorem ggX7_grade_X5_endOn : GoodIn wsX7_grade wsX5_endOn := goodIn_r _ [67, 68, 48, 49, 50, 51, 52, 53, 54, 44, 55, 69, 57, 58, 59, 83, 84, 85, 86, 87] (by decide +kernel) (by decide +kernel)
set_option maxRecDepth 20000 in
theorem gX7_grade_X5_endOn : GoodIn wsX7_grade (wsV RX7 224 RX5 yX5_endOn wsX5_endOn) := goodIn_app (goodIn_of _ (by decide +kernel)) ggX7_grade_X5_endOn
theorem dX7_grade_0 : decode cX7_grade 0 = .ok (.aload_n 0, 1) := by decide +kernel
theorem dX7_grade_1 : decode cX7_grade 1 = .ok (.iload_n 1, 1) := by decide +kernel
theorem dX7_grade_2 : decode cX7_grade 2 = .ok (.invokevirtual 156, 3) := by decide +kernel
theorem dX7_grade_5 : decode cX7_grade 5 = .ok (.ifnonnull 6, 3) := by decide +kernel
theorem dX7_grade_8 : decode cX7_grade 8 = .ok (.bipush (-101), 2) := by decide +kernel
theorem dX7_grade_10 : decode cX7_grade 10 = .ok (.ireturn, 1) := by decide +kernel
theorem dX7_grade_11 : decode cX7_grade 11 = .ok (.iload_n 2, 1) := by decide +kernel
theorem dX7_grade_12 : decode cX7_grade 12 = .ok (.ifCond .eq 11, 3) := by decide +kernel
theorem dX7_grade_15 : decode cX7_grade 15 = .ok (.iload_n 2, 1) := by decide +kernel
theorem dX7_grade_16 : decode cX7_grade 16 = .ok (.iconst 1, 1) := by decide +kernel
theorem dX7_grade_17 : decode cX7_grade 17 = .ok (.if_icmp .eq 6, 3) := by decide +kernel
theorem dX7_grade_20 : decode cX7_grade 20 = .ok (.bipush (-102), 2) := by decide +kernel
theorem dX7_grade_22 : decode cX7_grade 22 = .ok (.ireturn, 1) := by decide +kernel
theorem dX7_grade_23 : decode cX7_grade 23 = .ok (.aload_n 0, 1) := by decide +kernel
theorem dX7_grade_24 : decode cX7_grade 24 = .ok (.iload_n 1, 1) := by decide +kernel
theorem dX7_grade_25 : decode cX7_grade 25 = .ok (.invokevirtual 221, 3) := by decide +kernel
theorem dX7_grade_28 : decode cX7_grade 28 = .ok (.astore_n 3, 1) := by decide +kernel
theorem dX7_grade_29 : decode cX7_grade 29 = .ok (.aload_n 3, 1) := by decide +kernel
theorem dX7_grade_30 : decode cX7_grade 30 = .ok (.ifnonnull 7, 3) := by decide +kernel
theorem dX7_grade_33 : decode cX7_grade 33 = .ok (.iconst (-1), 1) := by decide +kernel
theorem dX7_grade_34 : decode cX7_grade 34 = .ok (.goto 8, 3) := by decide +kernel
theorem dX7_grade_37 : decode cX7_grade 37 = .ok (.aload_n 3, 1) := by decide +kernel
theorem dX7_grade_38 : decode cX7_grade 38 = .ok (.iload_n 2, 1) := by decide +kernel
theorem dX7_grade_39 : decode cX7_grade 39 = .ok (.invokevirtual 224, 3) := by decide +kernel
theorem dX7_grade_42 : decode cX7_grade 42 = .ok (.ireturn, 1) := by decide +kernel
set_option maxRecDepth 20000 in
theorem ggX7_composite_X7_holeNamed : GoodIn wsX7_composite wsX7_holeNamed := goodIn_r _ [14, 15, 16, 98, 99, 100, 101, 102, 103, 104, 105, 106, 107, 108] (by decide +kernel) (by decide +kernel)
set_option maxRecDepth 20000 in
theorem gX7_composite_X7_holeNamed : GoodIn wsX7_composite (wsV RX7 56 RX7 yX7_holeNamed wsX7_holeNamed) := goodIn_app (goodIn_of _ (by decide +kernel)) ggX7_composite_X7_holeNamed
set_option maxRecDepth 20000 in
theorem ggX7_composite_X1_isStretch : GoodIn wsX7_composite wsX1_isStretch := goodIn_r _ [21, 22, 109, 110, 111, 112, 113, 114, 115, 116] (by decide +kernel) (by decide +kernel)
set_option maxRecDepth 20000 in
theorem gX7_composite_X1_isStretch : GoodIn wsX7_composite (wsV RX7 82 RX1 yX1_isStretch wsX1_isStretch) := goodIn_app (goodIn_of _ (by decide +kernel)) ggX7_composite_X1_isStretch
set_option maxRecDepth 20000 in
theorem ggX7_composite_X7_isWithin : GoodIn wsX7_composite wsX7_isWithin := goodIn_r _ [25] (by decide +kernel) (by decide +kernel)
set_option maxRecDepth 20000 in
theorem gX7_composite_X7_isWithin : GoodIn wsX7_composite (va_wsS RX7 60 yX7_isWithin wsX7_isWithin) := goodIn_app (goodIn_of _ (by decide +kernel)) ggX7_composite_X7_isWithin
set_option maxRecDepth 20000 in
theorem ggX7_composite_X6_unitsWithin : GoodIn wsX7_composite wsX6_unitsWithin := goodIn_r _ [30, 31, 32, 33, 34, 13, 35, 6, 7, 8, 9, 36, 37, 38, 117, 118, 119, 120] (by decide +kernel) (by decide +kernel)
set_option maxRecDepth 20000 in
theorem gX7_composite_X6_unitsWithin : GoodIn wsX7_composite (wsV RX7 231 RX6 yX6_unitsWithin wsX6_unitsWithin) := goodIn_app (goodIn_of _ (by decide +kernel)) ggX7_composite_X6_unitsWithin
set_option maxRecDepth 20000 in
theorem ggX7_composite_X7_gradingPlace : GoodIn wsX7_composite wsX7_gradingPlace := goodIn_r _ [42, 43, 44, 45, 46, 47, 48, 49, 50, 51, 52, 53, 54, 55, 56, 57, 58, 59, 60, 61, 62, 63, 64, 65, 66, 67, 68, 69, 70, 71, 72, 73, 74, 8, 75, 76, 77, 78, 79, 80, 81, 82, 83, 37, 38, 84, 85, 86, 87, 88, 89, 90, 91, 98, 99, 100, 101, 102, 103, 104, 105, 106, 107, 108, 121, 122, 123, 124, 125, 126, 127] (by decide +kernel) (by decide +kernel)
set_option maxRecDepth 20000 in
theorem gX7_composite_X7_gradingPlace : GoodIn wsX7_composite (wsV RX7 221 RX7 yX7_gradingPlace wsX7_gradingPlace) := goodIn_app (goodIn_of _ (by decide +kernel)) ggX7_composite_X7_gradingPlace
set_option maxRecDepth 20000 in
theorem ggX7_composite_X5_endOn : GoodIn wsX7_composite wsX5_endOn := goodIn_r _ [95, 96, 78, 79, 80, 81, 82, 83, 37, 8, 38, 97, 85, 86, 87, 123, 124, 125, 126, 127] (by decide +kernel) (by decide +kernel)
set_option maxRecDepth 20000 in
theorem gX7_composite_X5_endOn : GoodIn wsX7_composite (wsV RX7 224 RX5 yX5_endOn wsX5_endOn) := goodIn_app (goodIn_of _ (by decide +kernel)) ggX7_composite_X5_endOn
theorem dX7_composite_0 : decode cX7_composite 0 = .ok (.aload_n 0, 1) := by decide +kernel
theorem dX7_composite_1 : decode cX7_composite 1 = .ok (.iload_n 1, 1) := by decide +kernel
theorem dX7_composite_2 : decode cX7_composite 2 = .ok (.invokevirtual 56, 3) := by decide +kernel
theorem dX7_composite_5 : decode cX7_composite 5 = .ok (.astore 6, 2) := by decide +kernel
theorem dX7_composite_7 : decode cX7_composite 7 = .ok (.aload 6, 2) := by decide +kernel
theorem dX7_composite_9 : decode cX7_composite 9 = .ok (.ifnonnull 7, 3) := by decide +kernel
theorem dX7_composite_12 : decode cX7_composite 12 = .ok (.ldc2_w 227, 3) := by decide +kernel
theorem dX7_composite_15 : decode cX7_composite 15 = .ok (.lreturn, 1) := by decide +kernel
theorem dX7_composite_16 : decode cX7_composite 16 = .ok (.aload 6, 2) := by decide +kernel
theorem dX7_composite_18 : decode cX7_composite 18 = .ok (.iload_n 2, 1) := by decide +kernel
theorem dX7_composite_19 : decode cX7_composite 19 = .ok (.iload_n 3, 1) := by decide +kernel
theorem dX7_composite_20 : decode cX7_composite 20 = .ok (.invokevirtual 82, 3) := by decide +kernel
theorem dX7_composite_23 : decode cX7_composite 23 = .ok (.ifCond .eq 24, 3) := by decide +kernel
theorem dX7_composite_26 : decode cX7_composite 26 = .ok (.iload 5, 2) := by decide +kernel
theorem dX7_composite_28 : decode cX7_composite 28 = .ok (.iconst 0, 1) := by decide +kernel
theorem dX7_composite_29 : decode cX7_composite 29 = .ok (.iconst 2, 1) := by decide +kernel
theorem dX7_composite_30 : decode cX7_composite 30 = .ok (.invokestatic 60, 3) := by decide +kernel
theorem dX7_composite_33 : decode cX7_composite 33 = .ok (.ifCond .eq 14, 3) := by decide +kernel
theorem dX7_composite_36 : decode cX7_composite 36 = .ok (.iload 4, 2) := by decide +kernel
theorem dX7_composite_38 : decode cX7_composite 38 = .ok (.iconst 1, 1) := by decide +kernel
theorem dX7_composite_39 : decode cX7_composite 39 = .ok (.ldc 90, 2) := by decide +kernel
theorem dX7_composite_41 : decode cX7_composite 41 = .ok (.invokestatic 60, 3) := by decide +kernel
theorem dX7_composite_44 : decode cX7_composite 44 = .ok (.ifCond .ne 7, 3) := by decide +kernel
theorem dX7_composite_47 : decode cX7_composite 47 = .ok (.ldc2_w 229, 3) := by decide +kernel
theorem dX7_composite_50 : decode cX7_composite 50 = .ok (.lreturn, 1) := by decide +kernel
theorem dX7_composite_51 : decode cX7_composite 51 = .ok (.lconst 0, 1) := by decide +kernel
theorem dX7_composite_52 : decode cX7_composite 52 = .ok (.lstore 7, 2) := by decide +kernel
theorem dX7_composite_54 : decode cX7_composite 54 = .ok (.iconst 0, 1) := by decide +kernel
theorem dX7_composite_55 : decode cX7_composite 55 = .ok (.istore 9, 2) := by decide +kernel
theorem dX7_composite_57 : decode cX7_composite 57 = .ok (.iload 9, 2) := by decide +kernel
theorem dX7_composite_59 : decode cX7_composite 59 = .ok (.aload_n 0, 1) := by decide +kernel
theorem dX7_composite_60 : decode cX7_composite 60 = .ok (.getfield 150, 3) := by decide +kernel
theorem dX7_composite_63 : decode cX7_composite 63 = .ok (.if_icmp .ge 78, 3) := by decide +kernel
theorem dX7_composite_66 : decode cX7_composite 66 = .ok (.aload_n 0, 1) := by decide +kernel
theorem dX7_composite_67 : decode cX7_composite 67 = .ok (.getfield 17, 3) := by decide +kernel
theorem dX7_composite_70 : decode cX7_composite 70 = .ok (.iload 9, 2) := by decide +kernel
theorem dX7_composite_72 : decode cX7_composite 72 = .ok (.aaload, 1) := by decide +kernel
theorem dX7_composite_73 : decode cX7_composite 73 = .ok (.iload_n 1, 1) := by decide +kernel
theorem dX7_composite_74 : decode cX7_composite 74 = .ok (.iload_n 2, 1) := by decide +kernel
theorem dX7_composite_75 : decode cX7_composite 75 = .ok (.iload_n 3, 1) := by decide +kernel
theorem dX7_composite_76 : decode cX7_composite 76 = .ok (.invokevirtual 231, 3) := by decide +kernel
theorem dX7_composite_79 : decode cX7_composite 79 = .ok (.istore 10, 2) := by decide +kernel
theorem dX7_composite_81 : decode cX7_composite 81 = .ok (.iload 10, 2) := by decide +kernel
theorem dX7_composite_83 : decode cX7_composite 83 = .ok (.ifCond .ne 7, 3) := by decide +kernel
theorem dX7_composite_86 : decode cX7_composite 86 = .ok (.aconst_null, 1) := by decide +kernel
theorem dX7_composite_87 : decode cX7_composite 87 = .ok (.goto 9, 3) := by decide +kernel
theorem dX7_composite_90 : decode cX7_composite 90 = .ok (.aload_n 0, 1) := by decide +kernel
theorem dX7_composite_91 : decode cX7_composite 91 = .ok (.iload 9, 2) := by decide +kernel
theorem dX7_composite_93 : decode cX7_composite 93 = .ok (.invokevirtual 221, 3) := by decide +kernel
theorem dX7_composite_96 : decode cX7_composite 96 = .ok (.astore 11, 2) := by decide +kernel
theorem dX7_composite_98 : decode cX7_composite 98 = .ok (.aload 11, 2) := by decide +kernel
theorem dX7_composite_100 : decode cX7_composite 100 = .ok (.ifnull 35, 3) := by decide +kernel
theorem dX7_composite_103 : decode cX7_composite 103 = .ok (.lload 7, 2) := by decide +kernel
theorem dX7_composite_105 : decode cX7_composite 105 = .ok (.iload 10, 2) := by decide +kernel
theorem dX7_composite_107 : decode cX7_composite 107 = .ok (.i2l, 1) := by decide +kernel
theorem dX7_composite_108 : decode cX7_composite 108 = .ok (.iload 5, 2) := by decide +kernel
theorem dX7_composite_110 : decode cX7_composite 110 = .ok (.iconst 2, 1) := by decide +kernel
theorem dX7_composite_111 : decode cX7_composite 111 = .ok (.if_icmp .ne 7, 3) := by decide +kernel
theorem dX7_composite_114 : decode cX7_composite 114 = .ok (.iconst 1, 1) := by decide +kernel
theorem dX7_composite_115 : decode cX7_composite 115 = .ok (.goto 15, 3) := by decide +kernel
theorem dX7_composite_118 : decode cX7_composite 118 = .ok (.aload 11, 2) := by decide +kernel
theorem dX7_composite_120 : decode cX7_composite 120 = .ok (.iload 5, 2) := by decide +kernel
theorem dX7_composite_122 : decode cX7_composite 122 = .ok (.invokevirtual 224, 3) := by decide +kernel
theorem dX7_composite_125 : decode cX7_composite 125 = .ok (.iload 4, 2) := by decide +kernel
theorem dX7_composite_127 : decode cX7_composite 127 = .ok (.invokestatic 235, 3) := by decide +kernel
theorem dX7_composite_130 : decode cX7_composite 130 = .ok (.i2l, 1) := by decide +kernel
theorem dX7_composite_131 : decode cX7_composite 131 = .ok (.lmul, 1) := by decide +kernel
theorem dX7_composite_132 : decode cX7_composite 132 = .ok (.ladd, 1) := by decide +kernel
theorem dX7_composite_133 : decode cX7_composite 133 = .ok (.lstore 7, 2) := by decide +kernel
theorem dX7_composite_135 : decode cX7_composite 135 = .ok (.iinc 9 1, 3) := by decide +kernel
theorem dX7_composite_138 : decode cX7_composite 138 = .ok (.goto (-81), 3) := by decide +kernel
theorem dX7_composite_141 : decode cX7_composite 141 = .ok (.lload 7, 2) := by decide +kernel
theorem dX7_composite_143 : decode cX7_composite 143 = .ok (.lreturn, 1) := by decide +kernel
set_option maxRecDepth 20000 in
theorem ggX7_cost_X7_holeNamed : GoodIn wsX7_cost wsX7_holeNamed := goodIn_r _ [9, 10, 11, 54, 55, 56, 57, 58, 59, 60, 61, 62, 63, 64] (by decide +kernel) (by decide +kernel)
set_option maxRecDepth 20000 in
theorem gX7_cost_X7_holeNamed : GoodIn wsX7_cost (wsV RX7 56 RX7 yX7_holeNamed wsX7_holeNamed) := goodIn_app (goodIn_of _ (by decide +kernel)) ggX7_cost_X7_holeNamed
set_option maxRecDepth 20000 in
theorem ggX7_cost_X3_weigh : GoodIn wsX7_cost wsX3_weigh := goodIn_r _ [16, 17, 18, 19, 20, 21, 15, 22, 23, 24, 25, 26, 27, 28, 29, 30, 31, 32, 33, 34, 35, 36, 37, 38, 39, 40, 41, 42, 43, 44, 45, 46, 47, 48, 49, 50, 51, 52, 53, 74, 75, 76, 73] (by decide +kernel) (by decide +kernel)
set_option maxRecDepth 20000 in
theorem gX7_cost_X3_weigh : GoodIn wsX7_cost (wsV RX7 240 RX3 yX3_weigh wsX3_weigh) := goodIn_app (goodIn_of _ (by decide +kernel)) ggX7_cost_X3_weigh
theorem dX7_cost_0 : decode cX7_cost 0 = .ok (.aload_n 0, 1) := by decide +kernel
theorem dX7_cost_1 : decode cX7_cost 1 = .ok (.iload_n 1, 1) := by decide +kernel
theorem dX7_cost_2 : decode cX7_cost 2 = .ok (.invokevirtual 56, 3) := by decide +kernel
theorem dX7_cost_5 : decode cX7_cost 5 = .ok (.astore_n 3, 1) := by decide +kernel
theorem dX7_cost_6 : decode cX7_cost 6 = .ok (.aload_n 0, 1) := by decide +kernel
theorem dX7_cost_7 : decode cX7_cost 7 = .ok (.iload_n 2, 1) := by decide +kernel
theorem dX7_cost_8 : decode cX7_cost 8 = .ok (.invokevirtual 56, 3) := by decide +kernel
theorem dX7_cost_11 : decode cX7_cost 11 = .ok (.astore 4, 2) := by decide +kernel
theorem dX7_cost_13 : decode cX7_cost 13 = .ok (.aload_n 3, 1) := by decide +kernel
theorem dX7_cost_14 : decode cX7_cost 14 = .ok (.ifnull 8, 3) := by decide +kernel
theorem dX7_cost_17 : decode cX7_cost 17 = .ok (.aload 4, 2) := by decide +kernel
theorem dX7_cost_19 : decode cX7_cost 19 = .ok (.ifnonnull 6, 3) := by decide +kernel
theorem dX7_cost_22 : decode cX7_cost 22 = .ok (.bipush (-101), 2) := by decide +kernel
theorem dX7_cost_24 : decode cX7_cost 24 = .ok (.ireturn, 1) := by decide +kernel
theorem dX7_cost_25 : decode cX7_cost 25 = .ok (.aload_n 0, 1) := by decide +kernel
theorem dX7_cost_26 : decode cX7_cost 26 = .ok (.getfield 41, 3) := by decide +kernel
theorem dX7_cost_29 : decode cX7_cost 29 = .ok (.aload_n 3, 1) := by decide +kernel
theorem dX7_cost_30 : decode cX7_cost 30 = .ok (.getfield 130, 3) := by decide +kernel
theorem dX7_cost_33 : decode cX7_cost 33 = .ok (.aload 4, 2) := by decide +kernel
theorem dX7_cost_35 : decode cX7_cost 35 = .ok (.getfield 130, 3) := by decide +kernel
theorem dX7_cost_38 : decode cX7_cost 38 = .ok (.aload_n 0, 1) := by decide +kernel
theorem dX7_cost_39 : decode cX7_cost 39 = .ok (.getfield 27, 3) := by decide +kernel
theorem dX7_cost_42 : decode cX7_cost 42 = .ok (.invokevirtual 240, 3) := by decide +kernel
theorem dX7_cost_45 : decode cX7_cost 45 = .ok (.aload_n 0, 1) := by decide +kernel
theorem dX7_cost_46 : decode cX7_cost 46 = .ok (.getfield 41, 3) := by decide +kernel
theorem dX7_cost_49 : decode cX7_cost 49 = .ok (.getfield 244, 3) := by decide +kernel
theorem dX7_cost_52 : decode cX7_cost 52 = .ok (.iconst 0, 1) := by decide +kernel
theorem dX7_cost_53 : decode cX7_cost 53 = .ok (.aaload, 1) := by decide +kernel
theorem dX7_cost_54 : decode cX7_cost 54 = .ok (.iconst 0, 1) := by decide +kernel
theorem dX7_cost_55 : decode cX7_cost 55 = .ok (.iaload, 1) := by decide +kernel
theorem dX7_cost_56 : decode cX7_cost 56 = .ok (.ireturn, 1) := by decide +kernel
set_option maxRecDepth 20000 in
theorem ggX7_matched_X7_holeNamed : GoodIn wsX7_matched wsX7_holeNamed := goodIn_r _ [9, 10, 11, 73, 74, 75, 76, 77, 78, 79, 80, 81, 82, 83] (by decide +kernel) (by decide +kernel)
set_option maxRecDepth 20000 in
theorem gX7_matched_X7_holeNamed : GoodIn wsX7_matched (wsV RX7 56 RX7 yX7_holeNamed wsX7_holeNamed) := goodIn_app (goodIn_of _ (by decide +kernel)) ggX7_matched_X7_holeNamed
set_option maxRecDepth 20000 in
theorem ggX7_matched_X3_weigh : GoodIn wsX7_matched wsX3_weigh := goodIn_r _ [16, 17, 18, 19, 20, 21, 15, 22, 23, 24, 25, 26, 27, 28, 29, 30, 31, 32, 33, 34, 35, 36, 37, 38, 39, 40, 41, 42, 43, 44, 45, 46, 47, 48, 49, 50, 51, 52, 53, 70, 71, 72, 84] (by decide +kernel) (by decide +kernel)
set_option maxRecDepth 20000 in
theorem gX7_matched_X3_weigh : GoodIn wsX7_matched (wsV RX7 240 RX3 yX3_weigh wsX3_weigh) := goodIn_app (goodIn_of _ (by decide +kernel)) ggX7_matched_X3_weigh
set_option maxRecDepth 20000 in
theorem ggX7_matched_X3_partnerOf : GoodIn wsX7_matched wsX3_partnerOf := goodIn_r _ [57, 58, 59, 60, 15, 61, 17, 18, 38, 34, 35, 30, 36, 37, 43, 44, 45, 46, 47, 48, 49, 50, 51, 52, 25, 53, 39, 40, 41, 42, 33, 70, 71, 72, 84] (by decide +kernel) (by decide +kernel)
set_option maxRecDepth 20000 in
theorem gX7_matched_X3_partnerOf : GoodIn wsX7_matched (wsV RX7 248 RX3 yX3_partnerOf wsX3_partnerOf) := goodIn_app (goodIn_of _ (by decide +kernel)) ggX7_matched_X3_partnerOf
theorem dX7_matched_0 : decode cX7_matched 0 = .ok (.aload_n 0, 1) := by decide +kernel
theorem dX7_matched_1 : decode cX7_matched 1 = .ok (.iload_n 1, 1) := by decide +kernel
theorem dX7_matched_2 : decode cX7_matched 2 = .ok (.invokevirtual 56, 3) := by decide +kernel
theorem dX7_matched_5 : decode cX7_matched 5 = .ok (.astore 4, 2) := by decide +kernel
theorem dX7_matched_7 : decode cX7_matched 7 = .ok (.aload_n 0, 1) := by decide +kernel
theorem dX7_matched_8 : decode cX7_matched 8 = .ok (.iload_n 2, 1) := by decide +kernel
theorem dX7_matched_9 : decode cX7_matched 9 = .ok (.invokevirtual 56, 3) := by decide +kernel
theorem dX7_matched_12 : decode cX7_matched 12 = .ok (.astore 5, 2) := by decide +kernel
theorem dX7_matched_14 : decode cX7_matched 14 = .ok (.aload 4, 2) := by decide +kernel
theorem dX7_matched_16 : decode cX7_matched 16 = .ok (.ifnull 24, 3) := by decide +kernel
theorem dX7_matched_19 : decode cX7_matched 19 = .ok (.aload 5, 2) := by decide +kernel
theorem dX7_matched_21 : decode cX7_matched 21 = .ok (.ifnull 19, 3) := by decide +kernel
theorem dX7_matched_24 : decode cX7_matched 24 = .ok (.iload_n 3, 1) := by decide +kernel
theorem dX7_matched_25 : decode cX7_matched 25 = .ok (.ifCond .lt 15, 3) := by decide +kernel
theorem dX7_matched_28 : decode cX7_matched 28 = .ok (.iload_n 3, 1) := by decide +kernel
theorem dX7_matched_29 : decode cX7_matched 29 = .ok (.aload 4, 2) := by decide +kernel
theorem dX7_matched_31 : decode cX7_matched 31 = .ok (.getfield 130, 3) := by decide +kernel
theorem dX7_matched_34 : decode cX7_matched 34 = .ok (.getfield 117, 3) := by decide +kernel
theorem dX7_matched_37 : decode cX7_matched 37 = .ok (.if_icmp .lt 6, 3) := by decide +kernel
theorem dX7_matched_40 : decode cX7_matched 40 = .ok (.bipush (-101), 2) := by decide +kernel
theorem dX7_matched_42 : decode cX7_matched 42 = .ok (.ireturn, 1) := by decide +kernel
theorem dX7_matched_43 : decode cX7_matched 43 = .ok (.aload_n 0, 1) := by decide +kernel
theorem dX7_matched_44 : decode cX7_matched 44 = .ok (.getfield 41, 3) := by decide +kernel
theorem dX7_matched_47 : decode cX7_matched 47 = .ok (.aload 4, 2) := by decide +kernel
theorem dX7_matched_49 : decode cX7_matched 49 = .ok (.getfield 130, 3) := by decide +kernel
theorem dX7_matched_52 : decode cX7_matched 52 = .ok (.aload 5, 2) := by decide +kernel
theorem dX7_matched_54 : decode cX7_matched 54 = .ok (.getfield 130, 3) := by decide +kernel
theorem dX7_matched_57 : decode cX7_matched 57 = .ok (.aload_n 0, 1) := by decide +kernel
theorem dX7_matched_58 : decode cX7_matched 58 = .ok (.getfield 27, 3) := by decide +kernel
theorem dX7_matched_61 : decode cX7_matched 61 = .ok (.invokevirtual 240, 3) := by decide +kernel
theorem dX7_matched_64 : decode cX7_matched 64 = .ok (.aload_n 0, 1) := by decide +kernel
theorem dX7_matched_65 : decode cX7_matched 65 = .ok (.getfield 41, 3) := by decide +kernel
theorem dX7_matched_68 : decode cX7_matched 68 = .ok (.iload_n 3, 1) := by decide +kernel
theorem dX7_matched_69 : decode cX7_matched 69 = .ok (.aload 4, 2) := by decide +kernel
theorem dX7_matched_71 : decode cX7_matched 71 = .ok (.getfield 130, 3) := by decide +kernel
theorem dX7_matched_74 : decode cX7_matched 74 = .ok (.aload 5, 2) := by decide +kernel
theorem dX7_matched_76 : decode cX7_matched 76 = .ok (.getfield 130, 3) := by decide +kernel
theorem dX7_matched_79 : decode cX7_matched 79 = .ok (.aload_n 0, 1) := by decide +kernel
theorem dX7_matched_80 : decode cX7_matched 80 = .ok (.getfield 27, 3) := by decide +kernel
theorem dX7_matched_83 : decode cX7_matched 83 = .ok (.invokevirtual 248, 3) := by decide +kernel
theorem dX7_matched_86 : decode cX7_matched 86 = .ok (.ireturn, 1) := by decide +kernel
set_option maxRecDepth 20000 in
theorem ggX7_count_X7_quartersTaken : GoodIn wsX7_count wsX7_quartersTaken := goodIn_r _ [8, 2, 9, 10, 62, 63, 64, 65, 66, 67, 68, 69, 70, 71, 72, 73, 74, 75, 76] (by decide +kernel) (by decide +kernel)
set_option maxRecDepth 20000 in
theorem gX7_count_X7_quartersTaken : GoodIn wsX7_count (wsV RX7 252 RX7 yX7_quartersTaken wsX7_quartersTaken) := goodIn_app (goodIn_of _ (by decide +kernel)) ggX7_count_X7_quartersTaken
set_option maxRecDepth 20000 in
theorem ggX7_count_X7_soundBatches : GoodIn wsX7_count wsX7_soundBatches := goodIn_r _ [14, 3, 15, 16, 17, 18, 19, 20, 21, 22, 23, 24, 25, 26, 27, 28, 29, 30, 31, 32, 33, 34, 35, 36, 37, 38, 39, 40, 41, 42, 43, 44, 45, 46, 47, 48, 49, 50, 51, 52, 53, 54, 55, 56, 57, 58, 59, 60, 61, 62, 63, 64, 65, 66, 67, 68, 69, 70, 71, 72, 77, 78, 79, 80, 81, 82, 83] (by decide +kernel) (by decide +kernel)
set_option maxRecDepth 20000 in
theorem gX7_count_X7_soundBatches : GoodIn wsX7_count (wsV RX7 255 RX7 yX7_soundBatches wsX7_soundBatches) := goodIn_app (goodIn_of _ (by decide +kernel)) ggX7_count_X7_soundBatches
theorem dX7_count_0 : decode cX7_count 0 = .ok (.iload_n 1, 1) := by decide +kernel
theorem dX7_count_1 : decode cX7_count 1 = .ok (.tableswitch 60 0 4 #[35, 40, 45, 50, 55], 35) := by decide +kernel
theorem dX7_count_36 : decode cX7_count 36 = .ok (.aload_n 0, 1) := by decide +kernel
theorem dX7_count_37 : decode cX7_count 37 = .ok (.getfield 52, 3) := by decide +kernel
theorem dX7_count_40 : decode cX7_count 40 = .ok (.ireturn, 1) := by decide +kernel
theorem dX7_count_41 : decode cX7_count 41 = .ok (.aload_n 0, 1) := by decide +kernel
theorem dX7_count_42 : decode cX7_count 42 = .ok (.getfield 150, 3) := by decide +kernel
theorem dX7_count_45 : decode cX7_count 45 = .ok (.ireturn, 1) := by decide +kernel
theorem dX7_count_46 : decode cX7_count 46 = .ok (.aload_n 0, 1) := by decide +kernel
theorem dX7_count_47 : decode cX7_count 47 = .ok (.getfield 163, 3) := by decide +kernel
theorem dX7_count_50 : decode cX7_count 50 = .ok (.ireturn, 1) := by decide +kernel
theorem dX7_count_51 : decode cX7_count 51 = .ok (.aload_n 0, 1) := by decide +kernel
theorem dX7_count_52 : decode cX7_count 52 = .ok (.invokevirtual 252, 3) := by decide +kernel
theorem dX7_count_55 : decode cX7_count 55 = .ok (.ireturn, 1) := by decide +kernel
theorem dX7_count_56 : decode cX7_count 56 = .ok (.aload_n 0, 1) := by decide +kernel
theorem dX7_count_57 : decode cX7_count 57 = .ok (.invokevirtual 255, 3) := by decide +kernel
theorem dX7_count_60 : decode cX7_count 60 = .ok (.ireturn, 1) := by decide +kernel
theorem dX7_count_61 : decode cX7_count 61 = .ok (.bipush (-102), 2) := by decide +kernel
theorem dX7_count_63 : decode cX7_count 63 = .ok (.ireturn, 1) := by decide +kernel
set_option maxRecDepth 20000 in
theorem ggX7_digest_X1_digestOnto : GoodIn wsX7_digest wsX1_digestOnto := goodIn_r _ [15, 16, 17, 18, 19, 20, 21, 22, 23, 24, 25, 26, 27, 28, 29, 30, 31, 32, 33, 34, 73, 74, 75, 76, 77, 78, 79, 80, 81, 82, 83] (by decide +kernel) (by decide +kernel)
set_option maxRecDepth 20000 in
theorem gX7_digest_X1_digestOnto : GoodIn wsX7_digest (wsV RX7 260 RX1 yX1_digestOnto wsX1_digestOnto) := goodIn_app (goodIn_of _ (by decide +kernel)) ggX7_digest_X1_digestOnto
set_option maxRecDepth 20000 in
theorem ggX7_digest_X7_mixed : GoodIn wsX7_digest wsX7_mixed := goodIn_r _ [25, 26] (by decide +kernel) (by decide +kernel)
set_option maxRecDepth 20000 in
theorem gX7_digest_X7_mixed : GoodIn wsX7_digest (va_wsS RX7 264 yX7_mixed wsX7_mixed) := goodIn_app (goodIn_of _ (by decide +kernel)) ggX7_digest_X7_mixed
set_option maxRecDepth 20000 in
theorem ggX7_digest_X6_digestOnto : GoodIn wsX7_digest wsX6_digestOnto := goodIn_r _ [40, 41, 42, 43, 44, 23, 24, 25, 26, 84, 85, 86, 87] (by decide +kernel) (by decide +kernel)
set_option maxRecDepth 20000 in
theorem gX7_digest_X6_digestOnto : GoodIn wsX7_digest (wsV RX7 268 RX6 yX6_digestOnto wsX6_digestOnto) := goodIn_app (goodIn_of _ (by decide +kernel)) ggX7_digest_X6_digestOnto
set_option maxRecDepth 20000 in
theorem ggX7_digest_X0_digestOnto : GoodIn wsX7_digest wsX0_digestOnto := goodIn_r _ [49, 50, 51, 52, 53, 54, 55, 56, 57, 58, 59, 60, 61, 23, 24, 25, 26, 88, 89, 90, 91, 92, 93, 94] (by decide +kernel) (by decide +kernel)
set_option maxRecDepth 20000 in
theorem gX7_digest_X0_digestOnto : GoodIn wsX7_digest (wsV RX7 269 RX0 yX0_digestOnto wsX0_digestOnto) := goodIn_app (goodIn_of _ (by decide +kernel)) ggX7_digest_X0_digestOnto
theorem dX7_digest_0 : decode cX7_digest 0 = .ok (.ldc2_w 258, 3) := by decide +kernel
theorem dX7_digest_3 : decode cX7_digest 3 = .ok (.lstore_n 1, 1) := by decide +kernel
theorem dX7_digest_4 : decode cX7_digest 4 = .ok (.iconst 0, 1) := by decide +kernel
theorem dX7_digest_5 : decode cX7_digest 5 = .ok (.istore_n 3, 1) := by decide +kernel
theorem dX7_digest_6 : decode cX7_digest 6 = .ok (.iload_n 3, 1) := by decide +kernel
theorem dX7_digest_7 : decode cX7_digest 7 = .ok (.aload_n 0, 1) := by decide +kernel
theorem dX7_digest_8 : decode cX7_digest 8 = .ok (.getfield 52, 3) := by decide +kernel
theorem dX7_digest_11 : decode cX7_digest 11 = .ok (.if_icmp .ge 20, 3) := by decide +kernel
theorem dX7_digest_14 : decode cX7_digest 14 = .ok (.aload_n 0, 1) := by decide +kernel
theorem dX7_digest_15 : decode cX7_digest 15 = .ok (.getfield 11, 3) := by decide +kernel
theorem dX7_digest_18 : decode cX7_digest 18 = .ok (.iload_n 3, 1) := by decide +kernel
theorem dX7_digest_19 : decode cX7_digest 19 = .ok (.aaload, 1) := by decide +kernel
theorem dX7_digest_20 : decode cX7_digest 20 = .ok (.lload_n 1, 1) := by decide +kernel
theorem dX7_digest_21 : decode cX7_digest 21 = .ok (.invokevirtual 260, 3) := by decide +kernel
theorem dX7_digest_24 : decode cX7_digest 24 = .ok (.lstore_n 1, 1) := by decide +kernel
theorem dX7_digest_25 : decode cX7_digest 25 = .ok (.iinc 3 1, 3) := by decide +kernel
theorem dX7_digest_28 : decode cX7_digest 28 = .ok (.goto (-22), 3) := by decide +kernel
theorem dX7_digest_31 : decode cX7_digest 31 = .ok (.iconst 0, 1) := by decide +kernel
theorem dX7_digest_32 : decode cX7_digest 32 = .ok (.istore_n 3, 1) := by decide +kernel
theorem dX7_digest_33 : decode cX7_digest 33 = .ok (.iload_n 3, 1) := by decide +kernel
theorem dX7_digest_34 : decode cX7_digest 34 = .ok (.bipush 10, 2) := by decide +kernel
theorem dX7_digest_36 : decode cX7_digest 36 = .ok (.if_icmp .ge 21, 3) := by decide +kernel
theorem dX7_digest_39 : decode cX7_digest 39 = .ok (.lload_n 1, 1) := by decide +kernel
theorem dX7_digest_40 : decode cX7_digest 40 = .ok (.aload_n 0, 1) := by decide +kernel
theorem dX7_digest_41 : decode cX7_digest 41 = .ok (.getfield 27, 3) := by decide +kernel
theorem dX7_digest_44 : decode cX7_digest 44 = .ok (.iload_n 3, 1) := by decide +kernel
theorem dX7_digest_45 : decode cX7_digest 45 = .ok (.iaload, 1) := by decide +kernel
theorem dX7_digest_46 : decode cX7_digest 46 = .ok (.i2l, 1) := by decide +kernel
theorem dX7_digest_47 : decode cX7_digest 47 = .ok (.invokestatic 264, 3) := by decide +kernel
theorem dX7_digest_50 : decode cX7_digest 50 = .ok (.lstore_n 1, 1) := by decide +kernel
theorem dX7_digest_51 : decode cX7_digest 51 = .ok (.iinc 3 1, 3) := by decide +kernel
theorem dX7_digest_54 : decode cX7_digest 54 = .ok (.goto (-21), 3) := by decide +kernel
theorem dX7_digest_57 : decode cX7_digest 57 = .ok (.iconst 0, 1) := by decide +kernel
theorem dX7_digest_58 : decode cX7_digest 58 = .ok (.istore_n 3, 1) := by decide +kernel
theorem dX7_digest_59 : decode cX7_digest 59 = .ok (.iload_n 3, 1) := by decide +kernel
theorem dX7_digest_60 : decode cX7_digest 60 = .ok (.aload_n 0, 1) := by decide +kernel
theorem dX7_digest_61 : decode cX7_digest 61 = .ok (.getfield 150, 3) := by decide +kernel
theorem dX7_digest_64 : decode cX7_digest 64 = .ok (.if_icmp .ge 20, 3) := by decide +kernel
theorem dX7_digest_67 : decode cX7_digest 67 = .ok (.aload_n 0, 1) := by decide +kernel
theorem dX7_digest_68 : decode cX7_digest 68 = .ok (.getfield 17, 3) := by decide +kernel
theorem dX7_digest_71 : decode cX7_digest 71 = .ok (.iload_n 3, 1) := by decide +kernel
theorem dX7_digest_72 : decode cX7_digest 72 = .ok (.aaload, 1) := by decide +kernel
theorem dX7_digest_73 : decode cX7_digest 73 = .ok (.lload_n 1, 1) := by decide +kernel
theorem dX7_digest_74 : decode cX7_digest 74 = .ok (.invokevirtual 268, 3) := by decide +kernel
theorem dX7_digest_77 : decode cX7_digest 77 = .ok (.lstore_n 1, 1) := by decide +kernel
theorem dX7_digest_78 : decode cX7_digest 78 = .ok (.iinc 3 1, 3) := by decide +kernel
theorem dX7_digest_81 : decode cX7_digest 81 = .ok (.goto (-22), 3) := by decide +kernel
theorem dX7_digest_84 : decode cX7_digest 84 = .ok (.iconst 0, 1) := by decide +kernel
theorem dX7_digest_85 : decode cX7_digest 85 = .ok (.istore_n 3, 1) := by decide +kernel
theorem dX7_digest_86 : decode cX7_digest 86 = .ok (.iload_n 3, 1) := by decide +kernel
theorem dX7_digest_87 : decode cX7_digest 87 = .ok (.aload_n 0, 1) := by decide +kernel
theorem dX7_digest_88 : decode cX7_digest 88 = .ok (.getfield 163, 3) := by decide +kernel
theorem dX7_digest_91 : decode cX7_digest 91 = .ok (.if_icmp .ge 20, 3) := by decide +kernel
theorem dX7_digest_94 : decode cX7_digest 94 = .ok (.aload_n 0, 1) := by decide +kernel
theorem dX7_digest_95 : decode cX7_digest 95 = .ok (.getfield 23, 3) := by decide +kernel
theorem dX7_digest_98 : decode cX7_digest 98 = .ok (.iload_n 3, 1) := by decide +kernel
theorem dX7_digest_99 : decode cX7_digest 99 = .ok (.aaload, 1) := by decide +kernel
theorem dX7_digest_100 : decode cX7_digest 100 = .ok (.lload_n 1, 1) := by decide +kernel
theorem dX7_digest_101 : decode cX7_digest 101 = .ok (.invokevirtual 269, 3) := by decide +kernel
theorem dX7_digest_104 : decode cX7_digest 104 = .ok (.lstore_n 1, 1) := by decide +kernel
theorem dX7_digest_105 : decode cX7_digest 105 = .ok (.iinc 3 1, 3) := by decide +kernel
theorem dX7_digest_108 : decode cX7_digest 108 = .ok (.goto (-22), 3) := by decide +kernel
theorem dX7_digest_111 : decode cX7_digest 111 = .ok (.lload_n 1, 1) := by decide +kernel
theorem dX7_digest_112 : decode cX7_digest 112 = .ok (.aload_n 0, 1) := by decide +kernel
theorem dX7_digest_113 : decode cX7_digest 113 = .ok (.getfield 45, 3) := by decide +kernel
theorem dX7_digest_116 : decode cX7_digest 116 = .ok (.i2l, 1) := by decide +kernel
theorem dX7_digest_117 : decode cX7_digest 117 = .ok (.invokestatic 264, 3) := by decide +kernel
theorem dX7_digest_120 : decode cX7_digest 120 = .ok (.aload_n 0, 1) := by decide +kernel
theorem dX7_digest_121 : decode cX7_digest 121 = .ok (.getfield 49, 3) := by decide +kernel
theorem dX7_digest_124 : decode cX7_digest 124 = .ok (.i2l, 1) := by decide +kernel
theorem dX7_digest_125 : decode cX7_digest 125 = .ok (.invokestatic 264, 3) := by decide +kernel
theorem dX7_digest_128 : decode cX7_digest 128 = .ok (.lreturn, 1) := by decide +kernel
theorem dX7_holeNamed_0 : decode cX7_holeNamed 0 = .ok (.iload_n 1, 1) := by decide +kernel
theorem dX7_holeNamed_1 : decode cX7_holeNamed 1 = .ok (.ifCond .lt 20, 3) := by decide +kernel
theorem dX7_holeNamed_4 : decode cX7_holeNamed 4 = .ok (.iload_n 1, 1) := by decide +kernel
theorem dX7_holeNamed_5 : decode cX7_holeNamed 5 = .ok (.aload_n 0, 1) := by decide +kernel
theorem dX7_holeNamed_6 : decode cX7_holeNamed 6 = .ok (.getfield 52, 3) := by decide +kernel
theorem dX7_holeNamed_9 : decode cX7_holeNamed 9 = .ok (.if_icmp .ge 12, 3) := by decide +kernel
theorem dX7_holeNamed_12 : decode cX7_holeNamed 12 = .ok (.aload_n 0, 1) := by decide +kernel
theorem dX7_holeNamed_13 : decode cX7_holeNamed 13 = .ok (.getfield 11, 3) := by decide +kernel
theorem dX7_holeNamed_16 : decode cX7_holeNamed 16 = .ok (.iload_n 1, 1) := by decide +kernel
theorem dX7_holeNamed_17 : decode cX7_holeNamed 17 = .ok (.aaload, 1) := by decide +kernel
theorem dX7_holeNamed_18 : decode cX7_holeNamed 18 = .ok (.goto 4, 3) := by decide +kernel
theorem dX7_holeNamed_21 : decode cX7_holeNamed 21 = .ok (.aconst_null, 1) := by decide +kernel
theorem dX7_holeNamed_22 : decode cX7_holeNamed 22 = .ok (.areturn, 1) := by decide +kernel
set_option maxRecDepth 20000 in
theorem ggX7_logNamed_X7_holeNamed : GoodIn wsX7_logNamed wsX7_holeNamed := goodIn_r _ [7, 8, 9, 18, 19, 20, 21, 22, 23, 24, 25, 26, 27, 28] (by decide +kernel) (by decide +kernel)
set_option maxRecDepth 20000 in
theorem gX7_logNamed_X7_holeNamed : GoodIn wsX7_logNamed (wsV RX7 56 RX7 yX7_holeNamed wsX7_holeNamed) := goodIn_app (goodIn_of _ (by decide +kernel)) ggX7_logNamed_X7_holeNamed
theorem dX7_logNamed_0 : decode cX7_logNamed 0 = .ok (.aload_n 0, 1) := by decide +kernel
theorem dX7_logNamed_1 : decode cX7_logNamed 1 = .ok (.iload_n 1, 1) := by decide +kernel
theorem dX7_logNamed_2 : decode cX7_logNamed 2 = .ok (.invokevirtual 56, 3) := by decide +kernel
theorem dX7_logNamed_5 : decode cX7_logNamed 5 = .ok (.astore_n 3, 1) := by decide +kernel
theorem dX7_logNamed_6 : decode cX7_logNamed 6 = .ok (.aload_n 3, 1) := by decide +kernel
theorem dX7_logNamed_7 : decode cX7_logNamed 7 = .ok (.ifnull 12, 3) := by decide +kernel
theorem dX7_logNamed_10 : decode cX7_logNamed 10 = .ok (.iload_n 2, 1) := by decide +kernel
theorem dX7_logNamed_11 : decode cX7_logNamed 11 = .ok (.ifCond .eq 10, 3) := by decide +kernel
theorem dX7_logNamed_14 : decode cX7_logNamed 14 = .ok (.iload_n 2, 1) := by decide +kernel
theorem dX7_logNamed_15 : decode cX7_logNamed 15 = .ok (.iconst 1, 1) := by decide +kernel
theorem dX7_logNamed_16 : decode cX7_logNamed 16 = .ok (.if_icmp .eq 5, 3) := by decide +kernel
theorem dX7_logNamed_19 : decode cX7_logNamed 19 = .ok (.aconst_null, 1) := by decide +kernel
theorem dX7_logNamed_20 : decode cX7_logNamed 20 = .ok (.areturn, 1) := by decide +kernel
theorem dX7_logNamed_21 : decode cX7_logNamed 21 = .ok (.iload_n 2, 1) := by decide +kernel
theorem dX7_logNamed_22 : decode cX7_logNamed 22 = .ok (.ifCond .ne 10, 3) := by decide +kernel
theorem dX7_logNamed_25 : decode cX7_logNamed 25 = .ok (.aload_n 3, 1) := by decide +kernel
theorem dX7_logNamed_26 : decode cX7_logNamed 26 = .ok (.getfield 130, 3) := by decide +kernel
theorem dX7_logNamed_29 : decode cX7_logNamed 29 = .ok (.goto 7, 3) := by decide +kernel
theorem dX7_logNamed_32 : decode cX7_logNamed 32 = .ok (.aload_n 3, 1) := by decide +kernel
theorem dX7_logNamed_33 : decode cX7_logNamed 33 = .ok (.getfield 134, 3) := by decide +kernel
theorem dX7_logNamed_36 : decode cX7_logNamed 36 = .ok (.areturn, 1) := by decide +kernel
theorem dX7_sampleNamed_0 : decode cX7_sampleNamed 0 = .ok (.iload_n 1, 1) := by decide +kernel
theorem dX7_sampleNamed_1 : decode cX7_sampleNamed 1 = .ok (.ifCond .lt 20, 3) := by decide +kernel
theorem dX7_sampleNamed_4 : decode cX7_sampleNamed 4 = .ok (.iload_n 1, 1) := by decide +kernel
theorem dX7_sampleNamed_5 : decode cX7_sampleNamed 5 = .ok (.aload_n 0, 1) := by decide +kernel
theorem dX7_sampleNamed_6 : decode cX7_sampleNamed 6 = .ok (.getfield 150, 3) := by decide +kernel
theorem dX7_sampleNamed_9 : decode cX7_sampleNamed 9 = .ok (.if_icmp .ge 12, 3) := by decide +kernel
theorem dX7_sampleNamed_12 : decode cX7_sampleNamed 12 = .ok (.aload_n 0, 1) := by decide +kernel
theorem dX7_sampleNamed_13 : decode cX7_sampleNamed 13 = .ok (.getfield 17, 3) := by decide +kernel
theorem dX7_sampleNamed_16 : decode cX7_sampleNamed 16 = .ok (.iload_n 1, 1) := by decide +kernel
theorem dX7_sampleNamed_17 : decode cX7_sampleNamed 17 = .ok (.aaload, 1) := by decide +kernel
theorem dX7_sampleNamed_18 : decode cX7_sampleNamed 18 = .ok (.goto 4, 3) := by decide +kernel
theorem dX7_sampleNamed_21 : decode cX7_sampleNamed 21 = .ok (.aconst_null, 1) := by decide +kernel
theorem dX7_sampleNamed_22 : decode cX7_sampleNamed 22 = .ok (.areturn, 1) := by decide +kernel
theorem dX7_batchNamed_0 : decode cX7_batchNamed 0 = .ok (.iload_n 1, 1) := by decide +kernel
theorem dX7_batchNamed_1 : decode cX7_batchNamed 1 = .ok (.ifCond .lt 20, 3) := by decide +kernel
theorem dX7_batchNamed_4 : decode cX7_batchNamed 4 = .ok (.iload_n 1, 1) := by decide +kernel
theorem dX7_batchNamed_5 : decode cX7_batchNamed 5 = .ok (.aload_n 0, 1) := by decide +kernel
theorem dX7_batchNamed_6 : decode cX7_batchNamed 6 = .ok (.getfield 163, 3) := by decide +kernel
theorem dX7_batchNamed_9 : decode cX7_batchNamed 9 = .ok (.if_icmp .ge 12, 3) := by decide +kernel
theorem dX7_batchNamed_12 : decode cX7_batchNamed 12 = .ok (.aload_n 0, 1) := by decide +kernel
theorem dX7_batchNamed_13 : decode cX7_batchNamed 13 = .ok (.getfield 23, 3) := by decide +kernel
theorem dX7_batchNamed_16 : decode cX7_batchNamed 16 = .ok (.iload_n 1, 1) := by decide +kernel
theorem dX7_batchNamed_17 : decode cX7_batchNamed 17 = .ok (.aaload, 1) := by decide +kernel
theorem dX7_batchNamed_18 : decode cX7_batchNamed 18 = .ok (.goto 4, 3) := by decide +kernel
theorem dX7_batchNamed_21 : decode cX7_batchNamed 21 = .ok (.aconst_null, 1) := by decide +kernel
theorem dX7_batchNamed_22 : decode cX7_batchNamed 22 = .ok (.areturn, 1) := by decide +kernel
set_option maxRecDepth 20000 in
theorem ggX7_placeNamed_X7_batchNamed : GoodIn wsX7_placeNamed wsX7_batchNamed := goodIn_r _ [7, 8, 9, 12, 13, 14, 15, 16, 17, 18, 19, 20, 21, 22] (by decide +kernel) (by decide +kernel)
set_option maxRecDepth 20000 in
theorem gX7_placeNamed_X7_batchNamed : GoodIn wsX7_placeNamed (wsV RX7 167 RX7 yX7_batchNamed wsX7_batchNamed) := goodIn_app (goodIn_of _ (by decide +kernel)) ggX7_placeNamed_X7_batchNamed
theorem dX7_placeNamed_0 : decode cX7_placeNamed 0 = .ok (.aload_n 0, 1) := by decide +kernel
theorem dX7_placeNamed_1 : decode cX7_placeNamed 1 = .ok (.iload_n 1, 1) := by decide +kernel
theorem dX7_placeNamed_2 : decode cX7_placeNamed 2 = .ok (.invokevirtual 167, 3) := by decide +kernel
theorem dX7_placeNamed_5 : decode cX7_placeNamed 5 = .ok (.astore_n 3, 1) := by decide +kernel
theorem dX7_placeNamed_6 : decode cX7_placeNamed 6 = .ok (.aload_n 3, 1) := by decide +kernel
theorem dX7_placeNamed_7 : decode cX7_placeNamed 7 = .ok (.ifnull 24, 3) := by decide +kernel
theorem dX7_placeNamed_10 : decode cX7_placeNamed 10 = .ok (.iload_n 2, 1) := by decide +kernel
theorem dX7_placeNamed_11 : decode cX7_placeNamed 11 = .ok (.ifCond .lt 20, 3) := by decide +kernel
theorem dX7_placeNamed_14 : decode cX7_placeNamed 14 = .ok (.iload_n 2, 1) := by decide +kernel
theorem dX7_placeNamed_15 : decode cX7_placeNamed 15 = .ok (.aload_n 3, 1) := by decide +kernel
theorem dX7_placeNamed_16 : decode cX7_placeNamed 16 = .ok (.getfield 270, 3) := by decide +kernel
theorem dX7_placeNamed_19 : decode cX7_placeNamed 19 = .ok (.if_icmp .ge 12, 3) := by decide +kernel
theorem dX7_placeNamed_22 : decode cX7_placeNamed 22 = .ok (.aload_n 3, 1) := by decide +kernel
theorem dX7_placeNamed_23 : decode cX7_placeNamed 23 = .ok (.getfield 271, 3) := by decide +kernel
theorem dX7_placeNamed_26 : decode cX7_placeNamed 26 = .ok (.iload_n 2, 1) := by decide +kernel
theorem dX7_placeNamed_27 : decode cX7_placeNamed 27 = .ok (.aaload, 1) := by decide +kernel
theorem dX7_placeNamed_28 : decode cX7_placeNamed 28 = .ok (.goto 4, 3) := by decide +kernel
theorem dX7_placeNamed_31 : decode cX7_placeNamed 31 = .ok (.aconst_null, 1) := by decide +kernel
theorem dX7_placeNamed_32 : decode cX7_placeNamed 32 = .ok (.areturn, 1) := by decide +kernel
theorem dX7_isSampled_0 : decode cX7_isSampled 0 = .ok (.iconst 0, 1) := by decide +kernel
theorem dX7_isSampled_1 : decode cX7_isSampled 1 = .ok (.istore_n 2, 1) := by decide +kernel
theorem dX7_isSampled_2 : decode cX7_isSampled 2 = .ok (.iload_n 2, 1) := by decide +kernel
theorem dX7_isSampled_3 : decode cX7_isSampled 3 = .ok (.aload_n 0, 1) := by decide +kernel
theorem dX7_isSampled_4 : decode cX7_isSampled 4 = .ok (.getfield 150, 3) := by decide +kernel
theorem dX7_isSampled_7 : decode cX7_isSampled 7 = .ok (.if_icmp .ge 24, 3) := by decide +kernel
theorem dX7_isSampled_10 : decode cX7_isSampled 10 = .ok (.aload_n 0, 1) := by decide +kernel
theorem dX7_isSampled_11 : decode cX7_isSampled 11 = .ok (.getfield 17, 3) := by decide +kernel
theorem dX7_isSampled_14 : decode cX7_isSampled 14 = .ok (.iload_n 2, 1) := by decide +kernel
theorem dX7_isSampled_15 : decode cX7_isSampled 15 = .ok (.aaload, 1) := by decide +kernel
theorem dX7_isSampled_16 : decode cX7_isSampled 16 = .ok (.getfield 275, 3) := by decide +kernel
theorem dX7_isSampled_19 : decode cX7_isSampled 19 = .ok (.iload_n 1, 1) := by decide +kernel
theorem dX7_isSampled_20 : decode cX7_isSampled 20 = .ok (.if_icmp .ne 5, 3) := by decide +kernel
theorem dX7_isSampled_23 : decode cX7_isSampled 23 = .ok (.iconst 1, 1) := by decide +kernel
theorem dX7_isSampled_24 : decode cX7_isSampled 24 = .ok (.ireturn, 1) := by decide +kernel
theorem dX7_isSampled_25 : decode cX7_isSampled 25 = .ok (.iinc 2 1, 3) := by decide +kernel
theorem dX7_isSampled_28 : decode cX7_isSampled 28 = .ok (.goto (-26), 3) := by decide +kernel
theorem dX7_isSampled_31 : decode cX7_isSampled 31 = .ok (.iconst 0, 1) := by decide +kernel
theorem dX7_isSampled_32 : decode cX7_isSampled 32 = .ok (.ireturn, 1) := by decide +kernel
set_option maxRecDepth 20000 in
theorem ggX7_isTaken_X6_unitsWithin : GoodIn wsX7_isTaken wsX6_unitsWithin := goodIn_r _ [7, 8, 9, 10, 11, 12, 13, 14, 15, 16, 17, 18, 19, 20, 32, 33, 34, 35] (by decide +kernel) (by decide +kernel)
set_option maxRecDepth 20000 in
theorem gX7_isTaken_X6_unitsWithin : GoodIn wsX7_isTaken (wsV RX7 231 RX6 yX6_unitsWithin wsX6_unitsWithin) := goodIn_app (goodIn_of _ (by decide +kernel)) ggX7_isTaken_X6_unitsWithin
theorem dX7_isTaken_0 : decode cX7_isTaken 0 = .ok (.iconst 0, 1) := by decide +kernel
theorem dX7_isTaken_1 : decode cX7_isTaken 1 = .ok (.istore 4, 2) := by decide +kernel
theorem dX7_isTaken_3 : decode cX7_isTaken 3 = .ok (.iload 4, 2) := by decide +kernel
theorem dX7_isTaken_5 : decode cX7_isTaken 5 = .ok (.aload_n 0, 1) := by decide +kernel
theorem dX7_isTaken_6 : decode cX7_isTaken 6 = .ok (.getfield 150, 3) := by decide +kernel
theorem dX7_isTaken_9 : decode cX7_isTaken 9 = .ok (.if_icmp .ge 27, 3) := by decide +kernel
theorem dX7_isTaken_12 : decode cX7_isTaken 12 = .ok (.aload_n 0, 1) := by decide +kernel
theorem dX7_isTaken_13 : decode cX7_isTaken 13 = .ok (.getfield 17, 3) := by decide +kernel
theorem dX7_isTaken_16 : decode cX7_isTaken 16 = .ok (.iload 4, 2) := by decide +kernel
theorem dX7_isTaken_18 : decode cX7_isTaken 18 = .ok (.aaload, 1) := by decide +kernel
theorem dX7_isTaken_19 : decode cX7_isTaken 19 = .ok (.iload_n 1, 1) := by decide +kernel
theorem dX7_isTaken_20 : decode cX7_isTaken 20 = .ok (.iload_n 2, 1) := by decide +kernel
theorem dX7_isTaken_21 : decode cX7_isTaken 21 = .ok (.iload_n 3, 1) := by decide +kernel
theorem dX7_isTaken_22 : decode cX7_isTaken 22 = .ok (.invokevirtual 231, 3) := by decide +kernel
theorem dX7_isTaken_25 : decode cX7_isTaken 25 = .ok (.ifCond .le 5, 3) := by decide +kernel
theorem dX7_isTaken_28 : decode cX7_isTaken 28 = .ok (.iconst 1, 1) := by decide +kernel
theorem dX7_isTaken_29 : decode cX7_isTaken 29 = .ok (.ireturn, 1) := by decide +kernel
theorem dX7_isTaken_30 : decode cX7_isTaken 30 = .ok (.iinc 4 1, 3) := by decide +kernel
theorem dX7_isTaken_33 : decode cX7_isTaken 33 = .ok (.goto (-30), 3) := by decide +kernel
theorem dX7_isTaken_36 : decode cX7_isTaken 36 = .ok (.iconst 0, 1) := by decide +kernel
theorem dX7_isTaken_37 : decode cX7_isTaken 37 = .ok (.ireturn, 1) := by decide +kernel
set_option maxRecDepth 20000 in
theorem ggX7_addPlace_X0_hasAnyResult : GoodIn wsX7_addPlace wsX0_hasAnyResult := goodIn_r _ [10, 11, 12, 13, 23, 24, 25, 26, 27, 28, 29] (by decide +kernel) (by decide +kernel)
set_option maxRecDepth 20000 in
theorem gX7_addPlace_X0_hasAnyResult : GoodIn wsX7_addPlace (wsV RX7 278 RX0 yX0_hasAnyResult wsX0_hasAnyResult) := goodIn_app (goodIn_of _ (by decide +kernel)) ggX7_addPlace_X0_hasAnyResult
set_option maxRecDepth 20000 in
theorem ggX7_addPlace_X5_init : GoodIn wsX7_addPlace wsX5_init := goodIn_r _ [16, 17, 18, 19, 20, 21, 22, 25, 26, 27, 28, 29] (by decide +kernel) (by decide +kernel)
set_option maxRecDepth 20000 in
theorem gX7_addPlace_X5_init : GoodIn wsX7_addPlace (wsX5_init) := ggX7_addPlace_X5_init
theorem dX7_addPlace_0 : decode cX7_addPlace 0 = .ok (.aload_n 0, 1) := by decide +kernel
theorem dX7_addPlace_1 : decode cX7_addPlace 1 = .ok (.invokevirtual 278, 3) := by decide +kernel
theorem dX7_addPlace_4 : decode cX7_addPlace 4 = .ok (.ifCond .eq 6, 3) := by decide +kernel
theorem dX7_addPlace_7 : decode cX7_addPlace 7 = .ok (.bipush (-103), 2) := by decide +kernel
theorem dX7_addPlace_9 : decode cX7_addPlace 9 = .ok (.ireturn, 1) := by decide +kernel
theorem dX7_addPlace_10 : decode cX7_addPlace 10 = .ok (.aload_n 0, 1) := by decide +kernel
theorem dX7_addPlace_11 : decode cX7_addPlace 11 = .ok (.getfield 270, 3) := by decide +kernel
theorem dX7_addPlace_14 : decode cX7_addPlace 14 = .ok (.bipush 16, 2) := by decide +kernel
theorem dX7_addPlace_16 : decode cX7_addPlace 16 = .ok (.if_icmp .lt 6, 3) := by decide +kernel
theorem dX7_addPlace_19 : decode cX7_addPlace 19 = .ok (.bipush (-104), 2) := by decide +kernel
theorem dX7_addPlace_21 : decode cX7_addPlace 21 = .ok (.ireturn, 1) := by decide +kernel
theorem dX7_addPlace_22 : decode cX7_addPlace 22 = .ok (.aload_n 0, 1) := by decide +kernel
theorem dX7_addPlace_23 : decode cX7_addPlace 23 = .ok (.getfield 271, 3) := by decide +kernel
theorem dX7_addPlace_26 : decode cX7_addPlace 26 = .ok (.aload_n 0, 1) := by decide +kernel
theorem dX7_addPlace_27 : decode cX7_addPlace 27 = .ok (.getfield 270, 3) := by decide +kernel
theorem dX7_addPlace_30 : decode cX7_addPlace 30 = .ok (.new 188, 3) := by decide +kernel
theorem dX7_addPlace_33 : decode cX7_addPlace 33 = .ok (.dup, 1) := by decide +kernel
theorem dX7_addPlace_34 : decode cX7_addPlace 34 = .ok (.iload_n 1, 1) := by decide +kernel
theorem dX7_addPlace_35 : decode cX7_addPlace 35 = .ok (.iload_n 2, 1) := by decide +kernel
theorem dX7_addPlace_36 : decode cX7_addPlace 36 = .ok (.iload_n 3, 1) := by decide +kernel
theorem dX7_addPlace_37 : decode cX7_addPlace 37 = .ok (.invokespecial 281, 3) := by decide +kernel
theorem dX7_addPlace_40 : decode cX7_addPlace 40 = .ok (.aastore, 1) := by decide +kernel
theorem dX7_addPlace_41 : decode cX7_addPlace 41 = .ok (.aload_n 0, 1) := by decide +kernel
theorem dX7_addPlace_42 : decode cX7_addPlace 42 = .ok (.dup, 1) := by decide +kernel
theorem dX7_addPlace_43 : decode cX7_addPlace 43 = .ok (.getfield 270, 3) := by decide +kernel
theorem dX7_addPlace_46 : decode cX7_addPlace 46 = .ok (.iconst 1, 1) := by decide +kernel
theorem dX7_addPlace_47 : decode cX7_addPlace 47 = .ok (.iadd, 1) := by decide +kernel
theorem dX7_addPlace_48 : decode cX7_addPlace 48 = .ok (.putfield 270, 3) := by decide +kernel
theorem dX7_addPlace_51 : decode cX7_addPlace 51 = .ok (.aload_n 0, 1) := by decide +kernel
theorem dX7_addPlace_52 : decode cX7_addPlace 52 = .ok (.getfield 270, 3) := by decide +kernel
theorem dX7_addPlace_55 : decode cX7_addPlace 55 = .ok (.iconst 1, 1) := by decide +kernel
theorem dX7_addPlace_56 : decode cX7_addPlace 56 = .ok (.isub, 1) := by decide +kernel
theorem dX7_addPlace_57 : decode cX7_addPlace 57 = .ok (.ireturn, 1) := by decide +kernel
set_option maxRecDepth 20000 in
theorem ggX7_addPlaceWithQuarter_X7_addPlace : GoodIn wsX7_addPlaceWithQuarter wsX7_addPlace := goodIn_r _ [5, 6, 7, 8, 9, 10, 11, 12, 13, 14, 15, 16, 17, 18, 19, 20, 21, 22, 23, 24, 25, 26, 27, 32, 33, 34, 35, 36, 37, 38] (by decide +kernel) (by decide +kernel)
set_option maxRecDepth 20000 in
theorem gX7_addPlaceWithQuarter_X7_addPlace : GoodIn wsX7_addPlaceWithQuarter (va_wsS RX7 179 yX7_addPlace wsX7_addPlace) := goodIn_app (goodIn_of _ (by decide +kernel)) ggX7_addPlaceWithQuarter_X7_addPlace
theorem dX7_addPlaceWithQuarter_0 : decode cX7_addPlaceWithQuarter 0 = .ok (.aload_n 3, 1) := by decide +kernel
theorem dX7_addPlaceWithQuarter_1 : decode cX7_addPlaceWithQuarter 1 = .ok (.getfield 160, 3) := by decide +kernel
theorem dX7_addPlaceWithQuarter_4 : decode cX7_addPlaceWithQuarter 4 = .ok (.ifCond .ne 6, 3) := by decide +kernel
theorem dX7_addPlaceWithQuarter_7 : decode cX7_addPlaceWithQuarter 7 = .ok (.bipush (-103), 2) := by decide +kernel
theorem dX7_addPlaceWithQuarter_9 : decode cX7_addPlaceWithQuarter 9 = .ok (.ireturn, 1) := by decide +kernel
theorem dX7_addPlaceWithQuarter_10 : decode cX7_addPlaceWithQuarter 10 = .ok (.aload_n 0, 1) := by decide +kernel
theorem dX7_addPlaceWithQuarter_11 : decode cX7_addPlaceWithQuarter 11 = .ok (.iload_n 1, 1) := by decide +kernel
theorem dX7_addPlaceWithQuarter_12 : decode cX7_addPlaceWithQuarter 12 = .ok (.iload_n 2, 1) := by decide +kernel
theorem dX7_addPlaceWithQuarter_13 : decode cX7_addPlaceWithQuarter 13 = .ok (.iconst 0, 1) := by decide +kernel
theorem dX7_addPlaceWithQuarter_14 : decode cX7_addPlaceWithQuarter 14 = .ok (.invokestatic 179, 3) := by decide +kernel
theorem dX7_addPlaceWithQuarter_17 : decode cX7_addPlaceWithQuarter 17 = .ok (.istore 4, 2) := by decide +kernel
theorem dX7_addPlaceWithQuarter_19 : decode cX7_addPlaceWithQuarter 19 = .ok (.iload 4, 2) := by decide +kernel
theorem dX7_addPlaceWithQuarter_21 : decode cX7_addPlaceWithQuarter 21 = .ok (.ifCond .lt 13, 3) := by decide +kernel
theorem dX7_addPlaceWithQuarter_24 : decode cX7_addPlaceWithQuarter 24 = .ok (.aload_n 3, 1) := by decide +kernel
theorem dX7_addPlaceWithQuarter_25 : decode cX7_addPlaceWithQuarter 25 = .ok (.dup, 1) := by decide +kernel
theorem dX7_addPlaceWithQuarter_26 : decode cX7_addPlaceWithQuarter 26 = .ok (.getfield 160, 3) := by decide +kernel
theorem dX7_addPlaceWithQuarter_29 : decode cX7_addPlaceWithQuarter 29 = .ok (.iconst 1, 1) := by decide +kernel
theorem dX7_addPlaceWithQuarter_30 : decode cX7_addPlaceWithQuarter 30 = .ok (.isub, 1) := by decide +kernel
theorem dX7_addPlaceWithQuarter_31 : decode cX7_addPlaceWithQuarter 31 = .ok (.putfield 160, 3) := by decide +kernel
theorem dX7_addPlaceWithQuarter_34 : decode cX7_addPlaceWithQuarter 34 = .ok (.iload 4, 2) := by decide +kernel
theorem dX7_addPlaceWithQuarter_36 : decode cX7_addPlaceWithQuarter 36 = .ok (.ireturn, 1) := by decide +kernel
set_option maxRecDepth 20000 in
theorem ggX7_gradingPlace_X0_placeOf : GoodIn wsX7_gradingPlace wsX0_placeOf := goodIn_r _ [9, 10, 11, 12, 13, 64, 65, 66, 67, 68, 69, 70] (by decide +kernel) (by decide +kernel)
set_option maxRecDepth 20000 in
theorem gX7_gradingPlace_X0_placeOf : GoodIn wsX7_gradingPlace (wsV RX7 171 RX0 yX0_placeOf wsX0_placeOf) := goodIn_app (goodIn_of _ (by decide +kernel)) ggX7_gradingPlace_X0_placeOf
set_option maxRecDepth 20000 in
theorem ggX7_gradingPlace_X0_isSound : GoodIn wsX7_gradingPlace wsX0_isSound := goodIn_r _ [17, 18, 19, 20, 8, 21, 10, 11, 22, 23, 24, 25, 26, 27, 28, 29, 30, 12, 13, 31, 32, 33, 34, 35, 36, 37, 38, 39, 40, 41, 42, 43, 44, 45, 46, 47, 48, 49, 50, 51, 52, 64, 65, 66, 67, 68, 69, 70] (by decide +kernel) (by decide +kernel)
set_option maxRecDepth 20000 in
theorem gX7_gradingPlace_X0_isSound : GoodIn wsX7_gradingPlace (wsV RX7 205 RX0 yX0_isSound wsX0_isSound) := goodIn_app (goodIn_of _ (by decide +kernel)) ggX7_gradingPlace_X0_isSound
theorem dX7_gradingPlace_0 : decode cX7_gradingPlace 0 = .ok (.iconst 0, 1) := by decide +kernel
theorem dX7_gradingPlace_1 : decode cX7_gradingPlace 1 = .ok (.istore_n 2, 1) := by decide +kernel
theorem dX7_gradingPlace_2 : decode cX7_gradingPlace 2 = .ok (.iload_n 2, 1) := by decide +kernel
theorem dX7_gradingPlace_3 : decode cX7_gradingPlace 3 = .ok (.aload_n 0, 1) := by decide +kernel
theorem dX7_gradingPlace_4 : decode cX7_gradingPlace 4 = .ok (.getfield 163, 3) := by decide +kernel
theorem dX7_gradingPlace_7 : decode cX7_gradingPlace 7 = .ok (.if_icmp .ge 46, 3) := by decide +kernel
theorem dX7_gradingPlace_10 : decode cX7_gradingPlace 10 = .ok (.aload_n 0, 1) := by decide +kernel
theorem dX7_gradingPlace_11 : decode cX7_gradingPlace 11 = .ok (.getfield 23, 3) := by decide +kernel
theorem dX7_gradingPlace_14 : decode cX7_gradingPlace 14 = .ok (.iload_n 2, 1) := by decide +kernel
theorem dX7_gradingPlace_15 : decode cX7_gradingPlace 15 = .ok (.aaload, 1) := by decide +kernel
theorem dX7_gradingPlace_16 : decode cX7_gradingPlace 16 = .ok (.iload_n 1, 1) := by decide +kernel
theorem dX7_gradingPlace_17 : decode cX7_gradingPlace 17 = .ok (.invokevirtual 171, 3) := by decide +kernel
theorem dX7_gradingPlace_20 : decode cX7_gradingPlace 20 = .ok (.astore_n 3, 1) := by decide +kernel
theorem dX7_gradingPlace_21 : decode cX7_gradingPlace 21 = .ok (.aload_n 3, 1) := by decide +kernel
theorem dX7_gradingPlace_22 : decode cX7_gradingPlace 22 = .ok (.ifnull 25, 3) := by decide +kernel
theorem dX7_gradingPlace_25 : decode cX7_gradingPlace 25 = .ok (.aload_n 0, 1) := by decide +kernel
theorem dX7_gradingPlace_26 : decode cX7_gradingPlace 26 = .ok (.getfield 23, 3) := by decide +kernel
theorem dX7_gradingPlace_29 : decode cX7_gradingPlace 29 = .ok (.iload_n 2, 1) := by decide +kernel
theorem dX7_gradingPlace_30 : decode cX7_gradingPlace 30 = .ok (.aaload, 1) := by decide +kernel
theorem dX7_gradingPlace_31 : decode cX7_gradingPlace 31 = .ok (.aload_n 0, 1) := by decide +kernel
theorem dX7_gradingPlace_32 : decode cX7_gradingPlace 32 = .ok (.getfield 45, 3) := by decide +kernel
theorem dX7_gradingPlace_35 : decode cX7_gradingPlace 35 = .ok (.aload_n 0, 1) := by decide +kernel
theorem dX7_gradingPlace_36 : decode cX7_gradingPlace 36 = .ok (.getfield 49, 3) := by decide +kernel
theorem dX7_gradingPlace_39 : decode cX7_gradingPlace 39 = .ok (.invokevirtual 205, 3) := by decide +kernel
theorem dX7_gradingPlace_42 : decode cX7_gradingPlace 42 = .ok (.ifCond .eq 5, 3) := by decide +kernel
theorem dX7_gradingPlace_45 : decode cX7_gradingPlace 45 = .ok (.aload_n 3, 1) := by decide +kernel
theorem dX7_gradingPlace_46 : decode cX7_gradingPlace 46 = .ok (.areturn, 1) := by decide +kernel
theorem dX7_gradingPlace_47 : decode cX7_gradingPlace 47 = .ok (.iinc 2 1, 3) := by decide +kernel
theorem dX7_gradingPlace_50 : decode cX7_gradingPlace 50 = .ok (.goto (-48), 3) := by decide +kernel
theorem dX7_gradingPlace_53 : decode cX7_gradingPlace 53 = .ok (.aconst_null, 1) := by decide +kernel
theorem dX7_gradingPlace_54 : decode cX7_gradingPlace 54 = .ok (.areturn, 1) := by decide +kernel
theorem dX7_quartersTaken_0 : decode cX7_quartersTaken 0 = .ok (.iconst 0, 1) := by decide +kernel
theorem dX7_quartersTaken_1 : decode cX7_quartersTaken 1 = .ok (.istore_n 1, 1) := by decide +kernel
theorem dX7_quartersTaken_2 : decode cX7_quartersTaken 2 = .ok (.iconst 0, 1) := by decide +kernel
theorem dX7_quartersTaken_3 : decode cX7_quartersTaken 3 = .ok (.istore_n 2, 1) := by decide +kernel
theorem dX7_quartersTaken_4 : decode cX7_quartersTaken 4 = .ok (.iload_n 2, 1) := by decide +kernel
theorem dX7_quartersTaken_5 : decode cX7_quartersTaken 5 = .ok (.aload_n 0, 1) := by decide +kernel
theorem dX7_quartersTaken_6 : decode cX7_quartersTaken 6 = .ok (.getfield 150, 3) := by decide +kernel
theorem dX7_quartersTaken_9 : decode cX7_quartersTaken 9 = .ok (.if_icmp .ge 23, 3) := by decide +kernel
theorem dX7_quartersTaken_12 : decode cX7_quartersTaken 12 = .ok (.iload_n 1, 1) := by decide +kernel
theorem dX7_quartersTaken_13 : decode cX7_quartersTaken 13 = .ok (.iconst 4, 1) := by decide +kernel
theorem dX7_quartersTaken_14 : decode cX7_quartersTaken 14 = .ok (.aload_n 0, 1) := by decide +kernel
theorem dX7_quartersTaken_15 : decode cX7_quartersTaken 15 = .ok (.getfield 17, 3) := by decide +kernel
theorem dX7_quartersTaken_18 : decode cX7_quartersTaken 18 = .ok (.iload_n 2, 1) := by decide +kernel
theorem dX7_quartersTaken_19 : decode cX7_quartersTaken 19 = .ok (.aaload, 1) := by decide +kernel
theorem dX7_quartersTaken_20 : decode cX7_quartersTaken 20 = .ok (.getfield 160, 3) := by decide +kernel
theorem dX7_quartersTaken_23 : decode cX7_quartersTaken 23 = .ok (.isub, 1) := by decide +kernel
theorem dX7_quartersTaken_24 : decode cX7_quartersTaken 24 = .ok (.iadd, 1) := by decide +kernel
theorem dX7_quartersTaken_25 : decode cX7_quartersTaken 25 = .ok (.istore_n 1, 1) := by decide +kernel
theorem dX7_quartersTaken_26 : decode cX7_quartersTaken 26 = .ok (.iinc 2 1, 3) := by decide +kernel
theorem dX7_quartersTaken_29 : decode cX7_quartersTaken 29 = .ok (.goto (-25), 3) := by decide +kernel
theorem dX7_quartersTaken_32 : decode cX7_quartersTaken 32 = .ok (.iload_n 1, 1) := by decide +kernel
theorem dX7_quartersTaken_33 : decode cX7_quartersTaken 33 = .ok (.ireturn, 1) := by decide +kernel
set_option maxRecDepth 20000 in
theorem ggX7_soundBatches_X0_isSound : GoodIn wsX7_soundBatches wsX0_isSound := goodIn_r _ [9, 10, 11, 12, 8, 13, 14, 15, 16, 17, 18, 19, 20, 21, 22, 23, 24, 25, 26, 27, 28, 29, 30, 31, 32, 33, 34, 35, 36, 37, 38, 39, 40, 41, 42, 43, 44, 45, 46, 47, 48, 60, 61, 62, 63, 64, 65, 66] (by decide +kernel) (by decide +kernel)
set_option maxRecDepth 20000 in
theorem gX7_soundBatches_X0_isSound : GoodIn wsX7_soundBatches (wsV RX7 205 RX0 yX0_isSound wsX0_isSound) := goodIn_app (goodIn_of _ (by decide +kernel)) ggX7_soundBatches_X0_isSound
theorem dX7_soundBatches_0 : decode cX7_soundBatches 0 = .ok (.iconst 0, 1) := by decide +kernel
theorem dX7_soundBatches_1 : decode cX7_soundBatches 1 = .ok (.istore_n 1, 1) := by decide +kernel
theorem dX7_soundBatches_2 : decode cX7_soundBatches 2 = .ok (.iconst 0, 1) := by decide +kernel
theorem dX7_soundBatches_3 : decode cX7_soundBatches 3 = .ok (.istore_n 2, 1) := by decide +kernel
theorem dX7_soundBatches_4 : decode cX7_soundBatches 4 = .ok (.iload_n 2, 1) := by decide +kernel
theorem dX7_soundBatches_5 : decode cX7_soundBatches 5 = .ok (.aload_n 0, 1) := by decide +kernel
theorem dX7_soundBatches_6 : decode cX7_soundBatches 6 = .ok (.getfield 163, 3) := by decide +kernel
theorem dX7_soundBatches_9 : decode cX7_soundBatches 9 = .ok (.if_icmp .ge 32, 3) := by decide +kernel
theorem dX7_soundBatches_12 : decode cX7_soundBatches 12 = .ok (.aload_n 0, 1) := by decide +kernel
theorem dX7_soundBatches_13 : decode cX7_soundBatches 13 = .ok (.getfield 23, 3) := by decide +kernel
theorem dX7_soundBatches_16 : decode cX7_soundBatches 16 = .ok (.iload_n 2, 1) := by decide +kernel
theorem dX7_soundBatches_17 : decode cX7_soundBatches 17 = .ok (.aaload, 1) := by decide +kernel
theorem dX7_soundBatches_18 : decode cX7_soundBatches 18 = .ok (.aload_n 0, 1) := by decide +kernel
theorem dX7_soundBatches_19 : decode cX7_soundBatches 19 = .ok (.getfield 45, 3) := by decide +kernel
theorem dX7_soundBatches_22 : decode cX7_soundBatches 22 = .ok (.aload_n 0, 1) := by decide +kernel
theorem dX7_soundBatches_23 : decode cX7_soundBatches 23 = .ok (.getfield 49, 3) := by decide +kernel
theorem dX7_soundBatches_26 : decode cX7_soundBatches 26 = .ok (.invokevirtual 205, 3) := by decide +kernel
theorem dX7_soundBatches_29 : decode cX7_soundBatches 29 = .ok (.ifCond .eq 6, 3) := by decide +kernel
theorem dX7_soundBatches_32 : decode cX7_soundBatches 32 = .ok (.iinc 1 1, 3) := by decide +kernel
theorem dX7_soundBatches_35 : decode cX7_soundBatches 35 = .ok (.iinc 2 1, 3) := by decide +kernel
theorem dX7_soundBatches_38 : decode cX7_soundBatches 38 = .ok (.goto (-34), 3) := by decide +kernel
theorem dX7_soundBatches_41 : decode cX7_soundBatches 41 = .ok (.iload_n 1, 1) := by decide +kernel
theorem dX7_soundBatches_42 : decode cX7_soundBatches 42 = .ok (.ireturn, 1) := by decide +kernel
theorem dX7_isWithin_0 : decode cX7_isWithin 0 = .ok (.iload_n 0, 1) := by decide +kernel
theorem dX7_isWithin_1 : decode cX7_isWithin 1 = .ok (.iload_n 1, 1) := by decide +kernel
theorem dX7_isWithin_2 : decode cX7_isWithin 2 = .ok (.if_icmp .lt 12, 3) := by decide +kernel
theorem dX7_isWithin_5 : decode cX7_isWithin 5 = .ok (.iload_n 0, 1) := by decide +kernel
theorem dX7_isWithin_6 : decode cX7_isWithin 6 = .ok (.iload_n 2, 1) := by decide +kernel
theorem dX7_isWithin_7 : decode cX7_isWithin 7 = .ok (.if_icmp .gt 7, 3) := by decide +kernel
theorem dX7_isWithin_10 : decode cX7_isWithin 10 = .ok (.iconst 1, 1) := by decide +kernel
theorem dX7_isWithin_11 : decode cX7_isWithin 11 = .ok (.goto 4, 3) := by decide +kernel
theorem dX7_isWithin_14 : decode cX7_isWithin 14 = .ok (.iconst 0, 1) := by decide +kernel
theorem dX7_isWithin_15 : decode cX7_isWithin 15 = .ok (.ireturn, 1) := by decide +kernel
set_option maxRecDepth 20000 in
theorem ggX7_isCode_X7_isWithin : GoodIn wsX7_isCode wsX7_isWithin := goodIn_r _ [4] (by decide +kernel) (by decide +kernel)
set_option maxRecDepth 20000 in
theorem gX7_isCode_X7_isWithin : GoodIn wsX7_isCode (va_wsS RX7 60 yX7_isWithin wsX7_isWithin) := goodIn_app (goodIn_of _ (by decide +kernel)) ggX7_isCode_X7_isWithin
theorem dX7_isCode_0 : decode cX7_isCode 0 = .ok (.iload_n 0, 1) := by decide +kernel
theorem dX7_isCode_1 : decode cX7_isCode 1 = .ok (.iconst 0, 1) := by decide +kernel
theorem dX7_isCode_2 : decode cX7_isCode 2 = .ok (.bipush 9, 2) := by decide +kernel
theorem dX7_isCode_4 : decode cX7_isCode 4 = .ok (.invokestatic 60, 3) := by decide +kernel
theorem dX7_isCode_7 : decode cX7_isCode 7 = .ok (.ireturn, 1) := by decide +kernel
theorem dX7_unitsInCommon_0 : decode cX7_unitsInCommon 0 = .ok (.iconst 0, 1) := by decide +kernel
theorem dX7_unitsInCommon_1 : decode cX7_unitsInCommon 1 = .ok (.iload_n 1, 1) := by decide +kernel
theorem dX7_unitsInCommon_2 : decode cX7_unitsInCommon 2 = .ok (.iload_n 3, 1) := by decide +kernel
theorem dX7_unitsInCommon_3 : decode cX7_unitsInCommon 3 = .ok (.invokestatic 235, 3) := by decide +kernel
theorem dX7_unitsInCommon_6 : decode cX7_unitsInCommon 6 = .ok (.iload_n 0, 1) := by decide +kernel
theorem dX7_unitsInCommon_7 : decode cX7_unitsInCommon 7 = .ok (.iload_n 2, 1) := by decide +kernel
theorem dX7_unitsInCommon_8 : decode cX7_unitsInCommon 8 = .ok (.invokestatic 282, 3) := by decide +kernel
theorem dX7_unitsInCommon_11 : decode cX7_unitsInCommon 11 = .ok (.isub, 1) := by decide +kernel
theorem dX7_unitsInCommon_12 : decode cX7_unitsInCommon 12 = .ok (.invokestatic 282, 3) := by decide +kernel
theorem dX7_unitsInCommon_15 : decode cX7_unitsInCommon 15 = .ok (.ireturn, 1) := by decide +kernel
theorem dX7_mixed_0 : decode cX7_mixed 0 = .ok (.ldc2_w 285, 3) := by decide +kernel
theorem dX7_mixed_3 : decode cX7_mixed 3 = .ok (.lload_n 0, 1) := by decide +kernel
theorem dX7_mixed_4 : decode cX7_mixed 4 = .ok (.lmul, 1) := by decide +kernel
theorem dX7_mixed_5 : decode cX7_mixed 5 = .ok (.lload_n 2, 1) := by decide +kernel
theorem dX7_mixed_6 : decode cX7_mixed 6 = .ok (.ladd, 1) := by decide +kernel
theorem dX7_mixed_7 : decode cX7_mixed 7 = .ok (.lreturn, 1) := by decide +kernel
theorem dX8_init_0 : decode cX8_init 0 = .ok (.aload_n 0, 1) := by decide +kernel
theorem dX8_init_1 : decode cX8_init 1 = .ok (.invokespecial 1, 3) := by decide +kernel
theorem dX8_init_4 : decode cX8_init 4 = .ok (.aload_n 0, 1) := by decide +kernel
theorem dX8_init_5 : decode cX8_init 5 = .ok (.iconst 4, 1) := by decide +kernel
theorem dX8_init_6 : decode cX8_init 6 = .ok (.newarray .int, 2) := by decide +kernel
theorem dX8_init_8 : decode cX8_init 8 = .ok (.putfield 7, 3) := by decide +kernel
theorem dX8_init_11 : decode cX8_init 11 = .ok (.aload_n 0, 1) := by decide +kernel
theorem dX8_init_12 : decode cX8_init 12 = .ok (.bipush 80, 2) := by decide +kernel
theorem dX8_init_14 : decode cX8_init 14 = .ok (.newarray .int, 2) := by decide +kernel
theorem dX8_init_16 : decode cX8_init 16 = .ok (.putfield 13, 3) := by decide +kernel
theorem dX8_init_19 : decode cX8_init 19 = .ok (.aload_n 0, 1) := by decide +kernel
theorem dX8_init_20 : decode cX8_init 20 = .ok (.bipush 80, 2) := by decide +kernel
theorem dX8_init_22 : decode cX8_init 22 = .ok (.newarray .int, 2) := by decide +kernel
theorem dX8_init_24 : decode cX8_init 24 = .ok (.putfield 16, 3) := by decide +kernel
theorem dX8_init_27 : decode cX8_init 27 = .ok (.aload_n 0, 1) := by decide +kernel
theorem dX8_init_28 : decode cX8_init 28 = .ok (.iconst 4, 1) := by decide +kernel
theorem dX8_init_29 : decode cX8_init 29 = .ok (.newarray .int, 2) := by decide +kernel
theorem dX8_init_31 : decode cX8_init 31 = .ok (.putfield 19, 3) := by decide +kernel
theorem dX8_init_34 : decode cX8_init 34 = .ok (.aload_n 0, 1) := by decide +kernel
theorem dX8_init_35 : decode cX8_init 35 = .ok (.bipush 80, 2) := by decide +kernel
theorem dX8_init_37 : decode cX8_init 37 = .ok (.newarray .int, 2) := by decide +kernel
theorem dX8_init_39 : decode cX8_init 39 = .ok (.putfield 22, 3) := by decide +kernel
theorem dX8_init_42 : decode cX8_init 42 = .ok (.aload_n 0, 1) := by decide +kernel
theorem dX8_init_43 : decode cX8_init 43 = .ok (.bipush 20, 2) := by decide +kernel
theorem dX8_init_45 : decode cX8_init 45 = .ok (.newarray .int, 2) := by decide +kernel
theorem dX8_init_47 : decode cX8_init 47 = .ok (.putfield 25, 3) := by decide +kernel
theorem dX8_init_50 : decode cX8_init 50 = .ok (.aload_n 0, 1) := by decide +kernel
theorem dX8_init_51 : decode cX8_init 51 = .ok (.bipush 20, 2) := by decide +kernel
theorem dX8_init_53 : decode cX8_init 53 = .ok (.newarray .boolean, 2) := by decide +kernel
theorem dX8_init_55 : decode cX8_init 55 = .ok (.putfield 28, 3) := by decide +kernel
theorem dX8_init_58 : decode cX8_init 58 = .ok (.aload_n 0, 1) := by decide +kernel
theorem dX8_init_59 : decode cX8_init 59 = .ok (.bipush 8, 2) := by decide +kernel
theorem dX8_init_61 : decode cX8_init 61 = .ok (.newarray .int, 2) := by decide +kernel
theorem dX8_init_63 : decode cX8_init 63 = .ok (.putfield 32, 3) := by decide +kernel
theorem dX8_init_66 : decode cX8_init 66 = .ok (.aload_n 0, 1) := by decide +kernel
theorem dX8_init_67 : decode cX8_init 67 = .ok (.sipush 160, 3) := by decide +kernel
theorem dX8_init_70 : decode cX8_init 70 = .ok (.newarray .int, 2) := by decide +kernel
theorem dX8_init_72 : decode cX8_init 72 = .ok (.putfield 35, 3) := by decide +kernel
theorem dX8_init_75 : decode cX8_init 75 = .ok (.aload_n 0, 1) := by decide +kernel
theorem dX8_init_76 : decode cX8_init 76 = .ok (.sipush 160, 3) := by decide +kernel
theorem dX8_init_79 : decode cX8_init 79 = .ok (.newarray .int, 2) := by decide +kernel
theorem dX8_init_81 : decode cX8_init 81 = .ok (.putfield 38, 3) := by decide +kernel
theorem dX8_init_84 : decode cX8_init 84 = .ok (.aload_n 0, 1) := by decide +kernel
theorem dX8_init_85 : decode cX8_init 85 = .ok (.bipush 10, 2) := by decide +kernel
theorem dX8_init_87 : decode cX8_init 87 = .ok (.newarray .int, 2) := by decide +kernel
theorem dX8_init_89 : decode cX8_init 89 = .ok (.putfield 41, 3) := by decide +kernel
theorem dX8_init_92 : decode cX8_init 92 = .ok (.aload_n 0, 1) := by decide +kernel
theorem dX8_init_93 : decode cX8_init 93 = .ok (.bipush 30, 2) := by decide +kernel
theorem dX8_init_95 : decode cX8_init 95 = .ok (.newarray .int, 2) := by decide +kernel
theorem dX8_init_97 : decode cX8_init 97 = .ok (.putfield 44, 3) := by decide +kernel
theorem dX8_init_100 : decode cX8_init 100 = .ok (.aload_n 0, 1) := by decide +kernel
theorem dX8_init_101 : decode cX8_init 101 = .ok (.bipush 30, 2) := by decide +kernel
theorem dX8_init_103 : decode cX8_init 103 = .ok (.newarray .int, 2) := by decide +kernel
theorem dX8_init_105 : decode cX8_init 105 = .ok (.putfield 47, 3) := by decide +kernel
theorem dX8_init_108 : decode cX8_init 108 = .ok (.aload_n 0, 1) := by decide +kernel
theorem dX8_init_109 : decode cX8_init 109 = .ok (.bipush 30, 2) := by decide +kernel
theorem dX8_init_111 : decode cX8_init 111 = .ok (.newarray .int, 2) := by decide +kernel
theorem dX8_init_113 : decode cX8_init 113 = .ok (.putfield 50, 3) := by decide +kernel
theorem dX8_init_116 : decode cX8_init 116 = .ok (.aload_n 0, 1) := by decide +kernel
theorem dX8_init_117 : decode cX8_init 117 = .ok (.bipush 30, 2) := by decide +kernel
theorem dX8_init_119 : decode cX8_init 119 = .ok (.newarray .int, 2) := by decide +kernel
theorem dX8_init_121 : decode cX8_init 121 = .ok (.putfield 53, 3) := by decide +kernel
theorem dX8_init_124 : decode cX8_init 124 = .ok (.aload_n 0, 1) := by decide +kernel
theorem dX8_init_125 : decode cX8_init 125 = .ok (.bipush 6, 2) := by decide +kernel
theorem dX8_init_127 : decode cX8_init 127 = .ok (.newarray .int, 2) := by decide +kernel
theorem dX8_init_129 : decode cX8_init 129 = .ok (.putfield 56, 3) := by decide +kernel
theorem dX8_init_132 : decode cX8_init 132 = .ok (.aload_n 0, 1) := by decide +kernel
theorem dX8_init_133 : decode cX8_init 133 = .ok (.bipush 96, 2) := by decide +kernel
theorem dX8_init_135 : decode cX8_init 135 = .ok (.newarray .int, 2) := by decide +kernel
theorem dX8_init_137 : decode cX8_init 137 = .ok (.putfield 59, 3) := by decide +kernel
theorem dX8_init_140 : decode cX8_init 140 = .ok (.aload_n 0, 1) := by decide +kernel
theorem dX8_init_141 : decode cX8_init 141 = .ok (.bipush 96, 2) := by decide +kernel
theorem dX8_init_143 : decode cX8_init 143 = .ok (.newarray .int, 2) := by decide +kernel
theorem dX8_init_145 : decode cX8_init 145 = .ok (.putfield 62, 3) := by decide +kernel
theorem dX8_init_148 : decode cX8_init 148 = .ok (.aload_n 0, 1) := by decide +kernel
theorem dX8_init_149 : decode cX8_init 149 = .ok (.bipush 96, 2) := by decide +kernel
theorem dX8_init_151 : decode cX8_init 151 = .ok (.newarray .int, 2) := by decide +kernel
theorem dX8_init_153 : decode cX8_init 153 = .ok (.putfield 65, 3) := by decide +kernel
theorem dX8_init_156 : decode cX8_init 156 = .ok (.aload_n 0, 1) := by decide +kernel
theorem dX8_init_157 : decode cX8_init 157 = .ok (.bipush 96, 2) := by decide +kernel
theorem dX8_init_159 : decode cX8_init 159 = .ok (.newarray .boolean, 2) := by decide +kernel
theorem dX8_init_161 : decode cX8_init 161 = .ok (.putfield 68, 3) := by decide +kernel
theorem dX8_init_164 : decode cX8_init 164 = .ok (.aload_n 0, 1) := by decide +kernel
theorem dX8_init_165 : decode cX8_init 165 = .ok (.bipush 96, 2) := by decide +kernel
theorem dX8_init_167 : decode cX8_init 167 = .ok (.newarray .int, 2) := by decide +kernel
theorem dX8_init_169 : decode cX8_init 169 = .ok (.putfield 71, 3) := by decide +kernel
theorem dX8_init_172 : decode cX8_init 172 = .ok (.aload_n 0, 1) := by decide +kernel
theorem dX8_init_173 : decode cX8_init 173 = .ok (.iconst 2, 1) := by decide +kernel
theorem dX8_init_174 : decode cX8_init 174 = .ok (.newarray .int, 2) := by decide +kernel
theorem dX8_init_176 : decode cX8_init 176 = .ok (.putfield 74, 3) := by decide +kernel
theorem dX8_init_179 : decode cX8_init 179 = .ok (.aload_n 0, 1) := by decide +kernel
theorem dX8_init_180 : decode cX8_init 180 = .ok (.sipush 441, 3) := by decide +kernel
theorem dX8_init_183 : decode cX8_init 183 = .ok (.newarray .int, 2) := by decide +kernel
theorem dX8_init_185 : decode cX8_init 185 = .ok (.putfield 77, 3) := by decide +kernel
theorem dX8_init_188 : decode cX8_init 188 = .ok (.iconst 0, 1) := by decide +kernel
theorem dX8_init_189 : decode cX8_init 189 = .ok (.istore_n 1, 1) := by decide +kernel
theorem dX8_init_190 : decode cX8_init 190 = .ok (.iload_n 1, 1) := by decide +kernel
theorem dX8_init_191 : decode cX8_init 191 = .ok (.bipush 10, 2) := by decide +kernel
theorem dX8_init_193 : decode cX8_init 193 = .ok (.if_icmp .ge 16, 3) := by decide +kernel
theorem dX8_init_196 : decode cX8_init 196 = .ok (.aload_n 0, 1) := by decide +kernel
theorem dX8_init_197 : decode cX8_init 197 = .ok (.getfield 41, 3) := by decide +kernel
theorem dX8_init_200 : decode cX8_init 200 = .ok (.iload_n 1, 1) := by decide +kernel
theorem dX8_init_201 : decode cX8_init 201 = .ok (.iload_n 1, 1) := by decide +kernel
theorem dX8_init_202 : decode cX8_init 202 = .ok (.iastore, 1) := by decide +kernel
theorem dX8_init_203 : decode cX8_init 203 = .ok (.iinc 1 1, 3) := by decide +kernel
theorem dX8_init_206 : decode cX8_init 206 = .ok (.goto (-16), 3) := by decide +kernel
theorem dX8_init_209 : decode cX8_init 209 = .ok (.aload_n 0, 1) := by decide +kernel
theorem dX8_init_210 : decode cX8_init 210 = .ok (.getfield 74, 3) := by decide +kernel
theorem dX8_init_213 : decode cX8_init 213 = .ok (.iconst 0, 1) := by decide +kernel
theorem dX8_init_214 : decode cX8_init 214 = .ok (.iconst 5, 1) := by decide +kernel
theorem dX8_init_215 : decode cX8_init 215 = .ok (.iastore, 1) := by decide +kernel
theorem dX8_init_216 : decode cX8_init 216 = .ok (.aload_n 0, 1) := by decide +kernel
theorem dX8_init_217 : decode cX8_init 217 = .ok (.getfield 74, 3) := by decide +kernel
theorem dX8_init_220 : decode cX8_init 220 = .ok (.iconst 1, 1) := by decide +kernel
theorem dX8_init_221 : decode cX8_init 221 = .ok (.bipush 100, 2) := by decide +kernel
theorem dX8_init_223 : decode cX8_init 223 = .ok (.iastore, 1) := by decide +kernel
theorem dX8_init_224 : decode cX8_init 224 = .ok (.return_, 1) := by decide +kernel
theorem dX8_in_0 : decode cX8_in 0 = .ok (.lload_n 0, 1) := by decide +kernel
theorem dX8_in_1 : decode cX8_in 1 = .ok (.lload_n 2, 1) := by decide +kernel
theorem dX8_in_2 : decode cX8_in 2 = .ok (.lcmp, 1) := by decide +kernel
theorem dX8_in_3 : decode cX8_in 3 = .ok (.ifCond .lt 14, 3) := by decide +kernel
theorem dX8_in_6 : decode cX8_in 6 = .ok (.lload_n 0, 1) := by decide +kernel
theorem dX8_in_7 : decode cX8_in 7 = .ok (.lload 4, 2) := by decide +kernel
theorem dX8_in_9 : decode cX8_in 9 = .ok (.lcmp, 1) := by decide +kernel
theorem dX8_in_10 : decode cX8_in 10 = .ok (.ifCond .gt 7, 3) := by decide +kernel
theorem dX8_in_13 : decode cX8_in 13 = .ok (.iconst 1, 1) := by decide +kernel
theorem dX8_in_14 : decode cX8_in 14 = .ok (.goto 4, 3) := by decide +kernel
theorem dX8_in_17 : decode cX8_in 17 = .ok (.iconst 0, 1) := by decide +kernel
theorem dX8_in_18 : decode cX8_in 18 = .ok (.ireturn, 1) := by decide +kernel
set_option maxRecDepth 20000 in
theorem ggX8_isHole_X8_in : GoodIn wsX8_isHole wsX8_in := goodIn_r _ [5] (by decide +kernel) (by decide +kernel)
set_option maxRecDepth 20000 in
theorem gX8_isHole_X8_in : GoodIn wsX8_isHole (va_wsS RX8 84 yX8_in wsX8_in) := goodIn_app (goodIn_of _ (by decide +kernel)) ggX8_isHole_X8_in
theorem dX8_isHole_0 : decode cX8_isHole 0 = .ok (.iload_n 1, 1) := by decide +kernel
theorem dX8_isHole_1 : decode cX8_isHole 1 = .ok (.i2l, 1) := by decide +kernel
theorem dX8_isHole_2 : decode cX8_isHole 2 = .ok (.lconst 0, 1) := by decide +kernel
theorem dX8_isHole_3 : decode cX8_isHole 3 = .ok (.aload_n 0, 1) := by decide +kernel
theorem dX8_isHole_4 : decode cX8_isHole 4 = .ok (.getfield 80, 3) := by decide +kernel
theorem dX8_isHole_7 : decode cX8_isHole 7 = .ok (.iconst 1, 1) := by decide +kernel
theorem dX8_isHole_8 : decode cX8_isHole 8 = .ok (.isub, 1) := by decide +kernel
theorem dX8_isHole_9 : decode cX8_isHole 9 = .ok (.i2l, 1) := by decide +kernel
theorem dX8_isHole_10 : decode cX8_isHole 10 = .ok (.invokestatic 84, 3) := by decide +kernel
theorem dX8_isHole_13 : decode cX8_isHole 13 = .ok (.ireturn, 1) := by decide +kernel
theorem dX8_hole_0 : decode cX8_hole 0 = .ok (.aload_n 0, 1) := by decide +kernel
theorem dX8_hole_1 : decode cX8_hole 1 = .ok (.getfield 80, 3) := by decide +kernel
theorem dX8_hole_4 : decode cX8_hole 4 = .ok (.iconst 4, 1) := by decide +kernel
theorem dX8_hole_5 : decode cX8_hole 5 = .ok (.if_icmp .ne 6, 3) := by decide +kernel
theorem dX8_hole_8 : decode cX8_hole 8 = .ok (.bipush (-104), 2) := by decide +kernel
theorem dX8_hole_10 : decode cX8_hole 10 = .ok (.ireturn, 1) := by decide +kernel
theorem dX8_hole_11 : decode cX8_hole 11 = .ok (.aload_n 0, 1) := by decide +kernel
theorem dX8_hole_12 : decode cX8_hole 12 = .ok (.dup, 1) := by decide +kernel
theorem dX8_hole_13 : decode cX8_hole 13 = .ok (.getfield 80, 3) := by decide +kernel
theorem dX8_hole_16 : decode cX8_hole 16 = .ok (.iconst 1, 1) := by decide +kernel
theorem dX8_hole_17 : decode cX8_hole 17 = .ok (.iadd, 1) := by decide +kernel
theorem dX8_hole_18 : decode cX8_hole 18 = .ok (.putfield 80, 3) := by decide +kernel
theorem dX8_hole_21 : decode cX8_hole 21 = .ok (.aload_n 0, 1) := by decide +kernel
theorem dX8_hole_22 : decode cX8_hole 22 = .ok (.getfield 80, 3) := by decide +kernel
theorem dX8_hole_25 : decode cX8_hole 25 = .ok (.iconst 1, 1) := by decide +kernel
theorem dX8_hole_26 : decode cX8_hole 26 = .ok (.isub, 1) := by decide +kernel
theorem dX8_hole_27 : decode cX8_hole 27 = .ok (.ireturn, 1) := by decide +kernel
theorem dX8_endOf_0 : decode cX8_endOf 0 = .ok (.iconst 0, 1) := by decide +kernel
theorem dX8_endOf_1 : decode cX8_endOf 1 = .ok (.istore_n 2, 1) := by decide +kernel
theorem dX8_endOf_2 : decode cX8_endOf 2 = .ok (.iconst 0, 1) := by decide +kernel
theorem dX8_endOf_3 : decode cX8_endOf 3 = .ok (.istore_n 3, 1) := by decide +kernel
theorem dX8_endOf_4 : decode cX8_endOf 4 = .ok (.iload_n 3, 1) := by decide +kernel
theorem dX8_endOf_5 : decode cX8_endOf 5 = .ok (.aload_n 0, 1) := by decide +kernel
theorem dX8_endOf_6 : decode cX8_endOf 6 = .ok (.getfield 7, 3) := by decide +kernel
theorem dX8_endOf_9 : decode cX8_endOf 9 = .ok (.iload_n 1, 1) := by decide +kernel
theorem dX8_endOf_10 : decode cX8_endOf 10 = .ok (.iaload, 1) := by decide +kernel
theorem dX8_endOf_11 : decode cX8_endOf 11 = .ok (.if_icmp .ge 23, 3) := by decide +kernel
theorem dX8_endOf_14 : decode cX8_endOf 14 = .ok (.iload_n 2, 1) := by decide +kernel
theorem dX8_endOf_15 : decode cX8_endOf 15 = .ok (.aload_n 0, 1) := by decide +kernel
theorem dX8_endOf_16 : decode cX8_endOf 16 = .ok (.getfield 13, 3) := by decide +kernel
theorem dX8_endOf_19 : decode cX8_endOf 19 = .ok (.bipush 20, 2) := by decide +kernel
theorem dX8_endOf_21 : decode cX8_endOf 21 = .ok (.iload_n 1, 1) := by decide +kernel
theorem dX8_endOf_22 : decode cX8_endOf 22 = .ok (.imul, 1) := by decide +kernel
theorem dX8_endOf_23 : decode cX8_endOf 23 = .ok (.iload_n 3, 1) := by decide +kernel
theorem dX8_endOf_24 : decode cX8_endOf 24 = .ok (.iadd, 1) := by decide +kernel
theorem dX8_endOf_25 : decode cX8_endOf 25 = .ok (.iaload, 1) := by decide +kernel
theorem dX8_endOf_26 : decode cX8_endOf 26 = .ok (.iadd, 1) := by decide +kernel
theorem dX8_endOf_27 : decode cX8_endOf 27 = .ok (.istore_n 2, 1) := by decide +kernel
theorem dX8_endOf_28 : decode cX8_endOf 28 = .ok (.iinc 3 1, 3) := by decide +kernel
theorem dX8_endOf_31 : decode cX8_endOf 31 = .ok (.goto (-27), 3) := by decide +kernel
theorem dX8_endOf_34 : decode cX8_endOf 34 = .ok (.iload_n 2, 1) := by decide +kernel
theorem dX8_endOf_35 : decode cX8_endOf 35 = .ok (.ireturn, 1) := by decide +kernel
theorem dX8_isUsed_0 : decode cX8_isUsed 0 = .ok (.aload_n 0, 1) := by decide +kernel
theorem dX8_isUsed_1 : decode cX8_isUsed 1 = .ok (.getfield 32, 3) := by decide +kernel
theorem dX8_isUsed_4 : decode cX8_isUsed 4 = .ok (.iconst 2, 1) := by decide +kernel
theorem dX8_isUsed_5 : decode cX8_isUsed 5 = .ok (.iload_n 1, 1) := by decide +kernel
theorem dX8_isUsed_6 : decode cX8_isUsed 6 = .ok (.imul, 1) := by decide +kernel
theorem dX8_isUsed_7 : decode cX8_isUsed 7 = .ok (.iaload, 1) := by decide +kernel
theorem dX8_isUsed_8 : decode cX8_isUsed 8 = .ok (.ifCond .gt 16, 3) := by decide +kernel
theorem dX8_isUsed_11 : decode cX8_isUsed 11 = .ok (.aload_n 0, 1) := by decide +kernel
theorem dX8_isUsed_12 : decode cX8_isUsed 12 = .ok (.getfield 32, 3) := by decide +kernel
theorem dX8_isUsed_15 : decode cX8_isUsed 15 = .ok (.iconst 2, 1) := by decide +kernel
theorem dX8_isUsed_16 : decode cX8_isUsed 16 = .ok (.iload_n 1, 1) := by decide +kernel
theorem dX8_isUsed_17 : decode cX8_isUsed 17 = .ok (.imul, 1) := by decide +kernel
theorem dX8_isUsed_18 : decode cX8_isUsed 18 = .ok (.iconst 1, 1) := by decide +kernel
end
section
theorem dX8_isUsed_19 : decode cX8_isUsed 19 = .ok (.iadd, 1) := by decide +kernel
theorem dX8_isUsed_20 : decode cX8_isUsed 20 = .ok (.iaload, 1) := by decide +kernel
theorem dX8_isUsed_21 : decode cX8_isUsed 21 = .ok (.ifCond .le 7, 3) := by decide +kernel
theorem dX8_isUsed_24 : decode cX8_isUsed 24 = .ok (.iconst 1, 1) := by decide +kernel
theorem dX8_isUsed_25 : decode cX8_isUsed 25 = .ok (.goto 4, 3) := by decide +kernel
theorem dX8_isUsed_28 : decode cX8_isUsed 28 = .ok (.iconst 0, 1) := by decide +kernel
theorem dX8_isUsed_29 : decode cX8_isUsed 29 = .ok (.istore_n 2, 1) := by decide +kernel
theorem dX8_isUsed_30 : decode cX8_isUsed 30 = .ok (.iconst 0, 1) := by decide +kernel
theorem dX8_isUsed_31 : decode cX8_isUsed 31 = .ok (.istore_n 3, 1) := by decide +kernel
theorem dX8_isUsed_32 : decode cX8_isUsed 32 = .ok (.iload_n 3, 1) := by decide +kernel
theorem dX8_isUsed_33 : decode cX8_isUsed 33 = .ok (.aload_n 0, 1) := by decide +kernel
theorem dX8_isUsed_34 : decode cX8_isUsed 34 = .ok (.getfield 88, 3) := by decide +kernel
theorem dX8_isUsed_37 : decode cX8_isUsed 37 = .ok (.if_icmp .ge 29, 3) := by decide +kernel
theorem dX8_isUsed_40 : decode cX8_isUsed 40 = .ok (.iload_n 2, 1) := by decide +kernel
theorem dX8_isUsed_41 : decode cX8_isUsed 41 = .ok (.ifCond .ne 13, 3) := by decide +kernel
theorem dX8_isUsed_44 : decode cX8_isUsed 44 = .ok (.aload_n 0, 1) := by decide +kernel
theorem dX8_isUsed_45 : decode cX8_isUsed 45 = .ok (.getfield 44, 3) := by decide +kernel
theorem dX8_isUsed_48 : decode cX8_isUsed 48 = .ok (.iload_n 3, 1) := by decide +kernel
theorem dX8_isUsed_49 : decode cX8_isUsed 49 = .ok (.iaload, 1) := by decide +kernel
theorem dX8_isUsed_50 : decode cX8_isUsed 50 = .ok (.iload_n 1, 1) := by decide +kernel
theorem dX8_isUsed_51 : decode cX8_isUsed 51 = .ok (.if_icmp .ne 7, 3) := by decide +kernel
theorem dX8_isUsed_54 : decode cX8_isUsed 54 = .ok (.iconst 1, 1) := by decide +kernel
theorem dX8_isUsed_55 : decode cX8_isUsed 55 = .ok (.goto 4, 3) := by decide +kernel
theorem dX8_isUsed_58 : decode cX8_isUsed 58 = .ok (.iconst 0, 1) := by decide +kernel
theorem dX8_isUsed_59 : decode cX8_isUsed 59 = .ok (.istore_n 2, 1) := by decide +kernel
theorem dX8_isUsed_60 : decode cX8_isUsed 60 = .ok (.iinc 3 1, 3) := by decide +kernel
theorem dX8_isUsed_63 : decode cX8_isUsed 63 = .ok (.goto (-31), 3) := by decide +kernel
theorem dX8_isUsed_66 : decode cX8_isUsed 66 = .ok (.iload_n 2, 1) := by decide +kernel
theorem dX8_isUsed_67 : decode cX8_isUsed 67 = .ok (.ireturn, 1) := by decide +kernel
set_option maxRecDepth 20000 in
theorem ggX8_run_X8_isHole : GoodIn wsX8_run wsX8_isHole := goodIn_r _ [9, 10, 11, 12, 8, 13, 25, 26, 27, 28, 29, 30, 31, 32, 33, 34, 35, 36, 37, 38, 39, 40, 41, 42, 43, 44, 45, 46, 47, 48, 49, 50, 51] (by decide +kernel) (by decide +kernel)
set_option maxRecDepth 20000 in
theorem gX8_run_X8_isHole : GoodIn wsX8_run (wsV RX8 91 RX8 yX8_isHole wsX8_isHole) := goodIn_app (goodIn_of _ (by decide +kernel)) ggX8_run_X8_isHole
set_option maxRecDepth 20000 in
theorem ggX8_run_X8_in : GoodIn wsX8_run wsX8_in := goodIn_r _ [13] (by decide +kernel) (by decide +kernel)
set_option maxRecDepth 20000 in
theorem gX8_run_X8_in : GoodIn wsX8_run (va_wsS RX8 84 yX8_in wsX8_in) := goodIn_app (goodIn_of _ (by decide +kernel)) ggX8_run_X8_in
set_option maxRecDepth 20000 in
theorem ggX8_run_X8_isUsed : GoodIn wsX8_run wsX8_isUsed := goodIn_r _ [17, 18, 19, 20, 25, 26, 27, 28, 29, 30, 31, 32, 33, 34, 35, 36, 37, 38, 39, 40, 41, 42, 43, 44, 45, 46, 47, 48, 49, 50, 51] (by decide +kernel) (by decide +kernel)
set_option maxRecDepth 20000 in
theorem gX8_run_X8_isUsed : GoodIn wsX8_run (wsV RX8 97 RX8 yX8_isUsed wsX8_isUsed) := goodIn_app (goodIn_of _ (by decide +kernel)) ggX8_run_X8_isUsed
set_option maxRecDepth 20000 in
theorem ggX8_run_X8_endOf : GoodIn wsX8_run wsX8_endOf := goodIn_r _ [24, 2, 3, 25, 26, 27, 28, 29, 30, 31, 32, 33, 34, 35, 36, 37, 38, 39, 40, 41, 42, 43, 44, 45, 46, 47, 48, 49, 50, 51] (by decide +kernel) (by decide +kernel)
set_option maxRecDepth 20000 in
theorem gX8_run_X8_endOf : GoodIn wsX8_run (wsV RX8 100 RX8 yX8_endOf wsX8_endOf) := goodIn_app (goodIn_of _ (by decide +kernel)) ggX8_run_X8_endOf
theorem dX8_run_0 : decode cX8_run 0 = .ok (.aload_n 0, 1) := by decide +kernel
theorem dX8_run_1 : decode cX8_run 1 = .ok (.iload_n 1, 1) := by decide +kernel
theorem dX8_run_2 : decode cX8_run 2 = .ok (.invokevirtual 91, 3) := by decide +kernel
theorem dX8_run_5 : decode cX8_run 5 = .ok (.ifCond .ne 6, 3) := by decide +kernel
theorem dX8_run_8 : decode cX8_run 8 = .ok (.bipush (-101), 2) := by decide +kernel
theorem dX8_run_10 : decode cX8_run 10 = .ok (.ireturn, 1) := by decide +kernel
theorem dX8_run_11 : decode cX8_run 11 = .ok (.iload_n 2, 1) := by decide +kernel
theorem dX8_run_12 : decode cX8_run 12 = .ok (.i2l, 1) := by decide +kernel
theorem dX8_run_13 : decode cX8_run 13 = .ok (.lconst 1, 1) := by decide +kernel
theorem dX8_run_14 : decode cX8_run 14 = .ok (.ldc2_w 95, 3) := by decide +kernel
theorem dX8_run_17 : decode cX8_run 17 = .ok (.invokestatic 84, 3) := by decide +kernel
theorem dX8_run_20 : decode cX8_run 20 = .ok (.ifCond .eq 14, 3) := by decide +kernel
theorem dX8_run_23 : decode cX8_run 23 = .ok (.iload_n 3, 1) := by decide +kernel
theorem dX8_run_24 : decode cX8_run 24 = .ok (.i2l, 1) := by decide +kernel
theorem dX8_run_25 : decode cX8_run 25 = .ok (.lconst 0, 1) := by decide +kernel
theorem dX8_run_26 : decode cX8_run 26 = .ok (.iload_n 2, 1) := by decide +kernel
theorem dX8_run_27 : decode cX8_run 27 = .ok (.i2l, 1) := by decide +kernel
theorem dX8_run_28 : decode cX8_run 28 = .ok (.invokestatic 84, 3) := by decide +kernel
theorem dX8_run_31 : decode cX8_run 31 = .ok (.ifCond .ne 6, 3) := by decide +kernel
theorem dX8_run_34 : decode cX8_run 34 = .ok (.bipush (-102), 2) := by decide +kernel
theorem dX8_run_36 : decode cX8_run 36 = .ok (.ireturn, 1) := by decide +kernel
theorem dX8_run_37 : decode cX8_run 37 = .ok (.aload_n 0, 1) := by decide +kernel
theorem dX8_run_38 : decode cX8_run 38 = .ok (.iload_n 1, 1) := by decide +kernel
theorem dX8_run_39 : decode cX8_run 39 = .ok (.invokevirtual 97, 3) := by decide +kernel
theorem dX8_run_42 : decode cX8_run 42 = .ok (.ifCond .eq 6, 3) := by decide +kernel
theorem dX8_run_45 : decode cX8_run 45 = .ok (.bipush (-103), 2) := by decide +kernel
theorem dX8_run_47 : decode cX8_run 47 = .ok (.ireturn, 1) := by decide +kernel
theorem dX8_run_48 : decode cX8_run 48 = .ok (.aload_n 0, 1) := by decide +kernel
theorem dX8_run_49 : decode cX8_run 49 = .ok (.getfield 7, 3) := by decide +kernel
theorem dX8_run_52 : decode cX8_run 52 = .ok (.iload_n 1, 1) := by decide +kernel
theorem dX8_run_53 : decode cX8_run 53 = .ok (.iaload, 1) := by decide +kernel
theorem dX8_run_54 : decode cX8_run 54 = .ok (.bipush 20, 2) := by decide +kernel
theorem dX8_run_56 : decode cX8_run 56 = .ok (.if_icmp .ne 6, 3) := by decide +kernel
theorem dX8_run_59 : decode cX8_run 59 = .ok (.bipush (-104), 2) := by decide +kernel
theorem dX8_run_61 : decode cX8_run 61 = .ok (.ireturn, 1) := by decide +kernel
theorem dX8_run_62 : decode cX8_run 62 = .ok (.aload_n 0, 1) := by decide +kernel
theorem dX8_run_63 : decode cX8_run 63 = .ok (.getfield 13, 3) := by decide +kernel
theorem dX8_run_66 : decode cX8_run 66 = .ok (.bipush 20, 2) := by decide +kernel
theorem dX8_run_68 : decode cX8_run 68 = .ok (.iload_n 1, 1) := by decide +kernel
theorem dX8_run_69 : decode cX8_run 69 = .ok (.imul, 1) := by decide +kernel
theorem dX8_run_70 : decode cX8_run 70 = .ok (.aload_n 0, 1) := by decide +kernel
theorem dX8_run_71 : decode cX8_run 71 = .ok (.getfield 7, 3) := by decide +kernel
theorem dX8_run_74 : decode cX8_run 74 = .ok (.iload_n 1, 1) := by decide +kernel
theorem dX8_run_75 : decode cX8_run 75 = .ok (.iaload, 1) := by decide +kernel
theorem dX8_run_76 : decode cX8_run 76 = .ok (.iadd, 1) := by decide +kernel
theorem dX8_run_77 : decode cX8_run 77 = .ok (.iload_n 2, 1) := by decide +kernel
theorem dX8_run_78 : decode cX8_run 78 = .ok (.iastore, 1) := by decide +kernel
theorem dX8_run_79 : decode cX8_run 79 = .ok (.aload_n 0, 1) := by decide +kernel
theorem dX8_run_80 : decode cX8_run 80 = .ok (.getfield 16, 3) := by decide +kernel
theorem dX8_run_83 : decode cX8_run 83 = .ok (.bipush 20, 2) := by decide +kernel
theorem dX8_run_85 : decode cX8_run 85 = .ok (.iload_n 1, 1) := by decide +kernel
theorem dX8_run_86 : decode cX8_run 86 = .ok (.imul, 1) := by decide +kernel
theorem dX8_run_87 : decode cX8_run 87 = .ok (.aload_n 0, 1) := by decide +kernel
theorem dX8_run_88 : decode cX8_run 88 = .ok (.getfield 7, 3) := by decide +kernel
theorem dX8_run_91 : decode cX8_run 91 = .ok (.iload_n 1, 1) := by decide +kernel
theorem dX8_run_92 : decode cX8_run 92 = .ok (.iaload, 1) := by decide +kernel
theorem dX8_run_93 : decode cX8_run 93 = .ok (.iadd, 1) := by decide +kernel
theorem dX8_run_94 : decode cX8_run 94 = .ok (.iload_n 3, 1) := by decide +kernel
theorem dX8_run_95 : decode cX8_run 95 = .ok (.iastore, 1) := by decide +kernel
theorem dX8_run_96 : decode cX8_run 96 = .ok (.aload_n 0, 1) := by decide +kernel
theorem dX8_run_97 : decode cX8_run 97 = .ok (.getfield 7, 3) := by decide +kernel
theorem dX8_run_100 : decode cX8_run 100 = .ok (.iload_n 1, 1) := by decide +kernel
theorem dX8_run_101 : decode cX8_run 101 = .ok (.dup2, 1) := by decide +kernel
theorem dX8_run_102 : decode cX8_run 102 = .ok (.iaload, 1) := by decide +kernel
theorem dX8_run_103 : decode cX8_run 103 = .ok (.iconst 1, 1) := by decide +kernel
theorem dX8_run_104 : decode cX8_run 104 = .ok (.iadd, 1) := by decide +kernel
theorem dX8_run_105 : decode cX8_run 105 = .ok (.iastore, 1) := by decide +kernel
theorem dX8_run_106 : decode cX8_run 106 = .ok (.aload_n 0, 1) := by decide +kernel
theorem dX8_run_107 : decode cX8_run 107 = .ok (.iload_n 1, 1) := by decide +kernel
theorem dX8_run_108 : decode cX8_run 108 = .ok (.invokevirtual 100, 3) := by decide +kernel
theorem dX8_run_111 : decode cX8_run 111 = .ok (.ireturn, 1) := by decide +kernel
set_option maxRecDepth 20000 in
theorem ggX8_end_X8_isHole : GoodIn wsX8_end wsX8_isHole := goodIn_r _ [5, 6, 7, 8, 4, 9, 16, 17, 18, 19, 20, 21, 22, 23, 24, 25, 26, 27, 28, 29, 30, 31, 32, 33, 34, 35, 36, 37, 38, 39, 40, 41, 42] (by decide +kernel) (by decide +kernel)
set_option maxRecDepth 20000 in
theorem gX8_end_X8_isHole : GoodIn wsX8_end (wsV RX8 91 RX8 yX8_isHole wsX8_isHole) := goodIn_app (goodIn_of _ (by decide +kernel)) ggX8_end_X8_isHole
set_option maxRecDepth 20000 in
theorem ggX8_end_X8_endOf : GoodIn wsX8_end wsX8_endOf := goodIn_r _ [13, 14, 15, 16, 17, 18, 19, 20, 21, 22, 23, 24, 25, 26, 27, 28, 29, 30, 31, 32, 33, 34, 35, 36, 37, 38, 39, 40, 41, 42] (by decide +kernel) (by decide +kernel)
set_option maxRecDepth 20000 in
theorem gX8_end_X8_endOf : GoodIn wsX8_end (wsV RX8 100 RX8 yX8_endOf wsX8_endOf) := goodIn_app (goodIn_of _ (by decide +kernel)) ggX8_end_X8_endOf
theorem dX8_end_0 : decode cX8_end 0 = .ok (.aload_n 0, 1) := by decide +kernel
theorem dX8_end_1 : decode cX8_end 1 = .ok (.iload_n 1, 1) := by decide +kernel
theorem dX8_end_2 : decode cX8_end 2 = .ok (.invokevirtual 91, 3) := by decide +kernel
theorem dX8_end_5 : decode cX8_end 5 = .ok (.ifCond .eq 11, 3) := by decide +kernel
theorem dX8_end_8 : decode cX8_end 8 = .ok (.aload_n 0, 1) := by decide +kernel
theorem dX8_end_9 : decode cX8_end 9 = .ok (.iload_n 1, 1) := by decide +kernel
theorem dX8_end_10 : decode cX8_end 10 = .ok (.invokevirtual 100, 3) := by decide +kernel
theorem dX8_end_13 : decode cX8_end 13 = .ok (.goto 5, 3) := by decide +kernel
theorem dX8_end_16 : decode cX8_end 16 = .ok (.bipush (-101), 2) := by decide +kernel
theorem dX8_end_18 : decode cX8_end 18 = .ok (.ireturn, 1) := by decide +kernel
set_option maxRecDepth 20000 in
theorem ggX8_isStretch_X8_endOf : GoodIn wsX8_isStretch wsX8_endOf := goodIn_r _ [5, 6, 7, 8, 9, 10, 11, 12, 13, 14, 15, 16, 17, 18, 19, 20, 21, 22, 23, 24, 25, 26, 27, 28, 29, 30, 31, 32, 33, 34] (by decide +kernel) (by decide +kernel)
set_option maxRecDepth 20000 in
theorem gX8_isStretch_X8_endOf : GoodIn wsX8_isStretch (wsV RX8 100 RX8 yX8_endOf wsX8_endOf) := goodIn_app (goodIn_of _ (by decide +kernel)) ggX8_isStretch_X8_endOf
theorem dX8_isStretch_0 : decode cX8_isStretch 0 = .ok (.iload_n 2, 1) := by decide +kernel
theorem dX8_isStretch_1 : decode cX8_isStretch 1 = .ok (.ifCond .lt 21, 3) := by decide +kernel
theorem dX8_isStretch_4 : decode cX8_isStretch 4 = .ok (.iload_n 2, 1) := by decide +kernel
theorem dX8_isStretch_5 : decode cX8_isStretch 5 = .ok (.iload_n 3, 1) := by decide +kernel
theorem dX8_isStretch_6 : decode cX8_isStretch 6 = .ok (.if_icmp .ge 16, 3) := by decide +kernel
theorem dX8_isStretch_9 : decode cX8_isStretch 9 = .ok (.iload_n 3, 1) := by decide +kernel
theorem dX8_isStretch_10 : decode cX8_isStretch 10 = .ok (.aload_n 0, 1) := by decide +kernel
theorem dX8_isStretch_11 : decode cX8_isStretch 11 = .ok (.iload_n 1, 1) := by decide +kernel
theorem dX8_isStretch_12 : decode cX8_isStretch 12 = .ok (.invokevirtual 100, 3) := by decide +kernel
theorem dX8_isStretch_15 : decode cX8_isStretch 15 = .ok (.if_icmp .gt 7, 3) := by decide +kernel
theorem dX8_isStretch_18 : decode cX8_isStretch 18 = .ok (.iconst 1, 1) := by decide +kernel
theorem dX8_isStretch_19 : decode cX8_isStretch 19 = .ok (.goto 4, 3) := by decide +kernel
theorem dX8_isStretch_22 : decode cX8_isStretch 22 = .ok (.iconst 0, 1) := by decide +kernel
theorem dX8_isStretch_23 : decode cX8_isStretch 23 = .ok (.ireturn, 1) := by decide +kernel
theorem dX8_common_0 : decode cX8_common 0 = .ok (.iload_n 0, 1) := by decide +kernel
theorem dX8_common_1 : decode cX8_common 1 = .ok (.iload_n 2, 1) := by decide +kernel
theorem dX8_common_2 : decode cX8_common 2 = .ok (.if_icmp .le 7, 3) := by decide +kernel
theorem dX8_common_5 : decode cX8_common 5 = .ok (.iload_n 0, 1) := by decide +kernel
theorem dX8_common_6 : decode cX8_common 6 = .ok (.goto 4, 3) := by decide +kernel
theorem dX8_common_9 : decode cX8_common 9 = .ok (.iload_n 2, 1) := by decide +kernel
theorem dX8_common_10 : decode cX8_common 10 = .ok (.istore 4, 2) := by decide +kernel
theorem dX8_common_12 : decode cX8_common 12 = .ok (.iload_n 1, 1) := by decide +kernel
theorem dX8_common_13 : decode cX8_common 13 = .ok (.iload_n 3, 1) := by decide +kernel
theorem dX8_common_14 : decode cX8_common 14 = .ok (.if_icmp .ge 7, 3) := by decide +kernel
theorem dX8_common_17 : decode cX8_common 17 = .ok (.iload_n 1, 1) := by decide +kernel
theorem dX8_common_18 : decode cX8_common 18 = .ok (.goto 4, 3) := by decide +kernel
theorem dX8_common_21 : decode cX8_common 21 = .ok (.iload_n 3, 1) := by decide +kernel
theorem dX8_common_22 : decode cX8_common 22 = .ok (.istore 5, 2) := by decide +kernel
theorem dX8_common_24 : decode cX8_common 24 = .ok (.iload 5, 2) := by decide +kernel
theorem dX8_common_26 : decode cX8_common 26 = .ok (.iload 4, 2) := by decide +kernel
theorem dX8_common_28 : decode cX8_common 28 = .ok (.if_icmp .le 11, 3) := by decide +kernel
theorem dX8_common_31 : decode cX8_common 31 = .ok (.iload 5, 2) := by decide +kernel
theorem dX8_common_33 : decode cX8_common 33 = .ok (.iload 4, 2) := by decide +kernel
theorem dX8_common_35 : decode cX8_common 35 = .ok (.isub, 1) := by decide +kernel
theorem dX8_common_36 : decode cX8_common 36 = .ok (.goto 4, 3) := by decide +kernel
theorem dX8_common_39 : decode cX8_common 39 = .ok (.iconst 0, 1) := by decide +kernel
theorem dX8_common_40 : decode cX8_common 40 = .ok (.ireturn, 1) := by decide +kernel
set_option maxRecDepth 20000 in
theorem ggX8_recoveredOf_X8_common : GoodIn wsX8_recoveredOf wsX8_common := goodIn_r _ [7] (by decide +kernel) (by decide +kernel)
set_option maxRecDepth 20000 in
theorem gX8_recoveredOf_X8_common : GoodIn wsX8_recoveredOf (va_wsS RX8 104 yX8_common wsX8_common) := goodIn_app (goodIn_of _ (by decide +kernel)) ggX8_recoveredOf_X8_common
theorem dX8_recoveredOf_0 : decode cX8_recoveredOf 0 = .ok (.iconst 0, 1) := by decide +kernel
theorem dX8_recoveredOf_1 : decode cX8_recoveredOf 1 = .ok (.istore 4, 2) := by decide +kernel
theorem dX8_recoveredOf_3 : decode cX8_recoveredOf 3 = .ok (.iconst 0, 1) := by decide +kernel
theorem dX8_recoveredOf_4 : decode cX8_recoveredOf 4 = .ok (.istore 5, 2) := by decide +kernel
theorem dX8_recoveredOf_6 : decode cX8_recoveredOf 6 = .ok (.iconst 0, 1) := by decide +kernel
theorem dX8_recoveredOf_7 : decode cX8_recoveredOf 7 = .ok (.istore 6, 2) := by decide +kernel
theorem dX8_recoveredOf_9 : decode cX8_recoveredOf 9 = .ok (.iload 6, 2) := by decide +kernel
theorem dX8_recoveredOf_11 : decode cX8_recoveredOf 11 = .ok (.aload_n 0, 1) := by decide +kernel
theorem dX8_recoveredOf_12 : decode cX8_recoveredOf 12 = .ok (.getfield 7, 3) := by decide +kernel
theorem dX8_recoveredOf_15 : decode cX8_recoveredOf 15 = .ok (.iload_n 1, 1) := by decide +kernel
theorem dX8_recoveredOf_16 : decode cX8_recoveredOf 16 = .ok (.iaload, 1) := by decide +kernel
theorem dX8_recoveredOf_17 : decode cX8_recoveredOf 17 = .ok (.if_icmp .ge 53, 3) := by decide +kernel
theorem dX8_recoveredOf_20 : decode cX8_recoveredOf 20 = .ok (.iload 4, 2) := by decide +kernel
theorem dX8_recoveredOf_22 : decode cX8_recoveredOf 22 = .ok (.iload_n 2, 1) := by decide +kernel
theorem dX8_recoveredOf_23 : decode cX8_recoveredOf 23 = .ok (.iload_n 3, 1) := by decide +kernel
theorem dX8_recoveredOf_24 : decode cX8_recoveredOf 24 = .ok (.iload 5, 2) := by decide +kernel
theorem dX8_recoveredOf_26 : decode cX8_recoveredOf 26 = .ok (.iload 5, 2) := by decide +kernel
theorem dX8_recoveredOf_28 : decode cX8_recoveredOf 28 = .ok (.aload_n 0, 1) := by decide +kernel
theorem dX8_recoveredOf_29 : decode cX8_recoveredOf 29 = .ok (.getfield 16, 3) := by decide +kernel
theorem dX8_recoveredOf_32 : decode cX8_recoveredOf 32 = .ok (.bipush 20, 2) := by decide +kernel
theorem dX8_recoveredOf_34 : decode cX8_recoveredOf 34 = .ok (.iload_n 1, 1) := by decide +kernel
theorem dX8_recoveredOf_35 : decode cX8_recoveredOf 35 = .ok (.imul, 1) := by decide +kernel
theorem dX8_recoveredOf_36 : decode cX8_recoveredOf 36 = .ok (.iload 6, 2) := by decide +kernel
theorem dX8_recoveredOf_38 : decode cX8_recoveredOf 38 = .ok (.iadd, 1) := by decide +kernel
theorem dX8_recoveredOf_39 : decode cX8_recoveredOf 39 = .ok (.iaload, 1) := by decide +kernel
theorem dX8_recoveredOf_40 : decode cX8_recoveredOf 40 = .ok (.iadd, 1) := by decide +kernel
theorem dX8_recoveredOf_41 : decode cX8_recoveredOf 41 = .ok (.invokestatic 104, 3) := by decide +kernel
theorem dX8_recoveredOf_44 : decode cX8_recoveredOf 44 = .ok (.iadd, 1) := by decide +kernel
theorem dX8_recoveredOf_45 : decode cX8_recoveredOf 45 = .ok (.istore 4, 2) := by decide +kernel
theorem dX8_recoveredOf_47 : decode cX8_recoveredOf 47 = .ok (.iload 5, 2) := by decide +kernel
theorem dX8_recoveredOf_49 : decode cX8_recoveredOf 49 = .ok (.aload_n 0, 1) := by decide +kernel
theorem dX8_recoveredOf_50 : decode cX8_recoveredOf 50 = .ok (.getfield 13, 3) := by decide +kernel
theorem dX8_recoveredOf_53 : decode cX8_recoveredOf 53 = .ok (.bipush 20, 2) := by decide +kernel
theorem dX8_recoveredOf_55 : decode cX8_recoveredOf 55 = .ok (.iload_n 1, 1) := by decide +kernel
theorem dX8_recoveredOf_56 : decode cX8_recoveredOf 56 = .ok (.imul, 1) := by decide +kernel
theorem dX8_recoveredOf_57 : decode cX8_recoveredOf 57 = .ok (.iload 6, 2) := by decide +kernel
theorem dX8_recoveredOf_59 : decode cX8_recoveredOf 59 = .ok (.iadd, 1) := by decide +kernel
theorem dX8_recoveredOf_60 : decode cX8_recoveredOf 60 = .ok (.iaload, 1) := by decide +kernel
theorem dX8_recoveredOf_61 : decode cX8_recoveredOf 61 = .ok (.iadd, 1) := by decide +kernel
theorem dX8_recoveredOf_62 : decode cX8_recoveredOf 62 = .ok (.istore 5, 2) := by decide +kernel
theorem dX8_recoveredOf_64 : decode cX8_recoveredOf 64 = .ok (.iinc 6 1, 3) := by decide +kernel
theorem dX8_recoveredOf_67 : decode cX8_recoveredOf 67 = .ok (.goto (-58), 3) := by decide +kernel
theorem dX8_recoveredOf_70 : decode cX8_recoveredOf 70 = .ok (.iload 4, 2) := by decide +kernel
theorem dX8_recoveredOf_72 : decode cX8_recoveredOf 72 = .ok (.ireturn, 1) := by decide +kernel
set_option maxRecDepth 20000 in
theorem ggX8_recovered_X8_isHole : GoodIn wsX8_recovered wsX8_isHole := goodIn_r _ [5, 6, 7, 8, 4, 9, 28, 29, 30, 31, 32, 33, 34, 35, 36, 37, 38, 39, 40, 41, 42, 43, 44, 45, 46, 47, 48, 49, 50, 51, 52, 53, 54] (by decide +kernel) (by decide +kernel)
set_option maxRecDepth 20000 in
theorem gX8_recovered_X8_isHole : GoodIn wsX8_recovered (wsV RX8 91 RX8 yX8_isHole wsX8_isHole) := goodIn_app (goodIn_of _ (by decide +kernel)) ggX8_recovered_X8_isHole
set_option maxRecDepth 20000 in
theorem ggX8_recovered_X8_isStretch : GoodIn wsX8_recovered wsX8_isStretch := goodIn_r _ [13, 14, 15, 16, 4, 17, 18, 19, 28, 29, 30, 31, 32, 33, 34, 35, 36, 37, 38, 39, 40, 41, 42, 43, 44, 45, 46, 47, 48, 49, 50, 51, 52, 53, 54] (by decide +kernel) (by decide +kernel)
set_option maxRecDepth 20000 in
theorem gX8_recovered_X8_isStretch : GoodIn wsX8_recovered (wsV RX8 108 RX8 yX8_isStretch wsX8_isStretch) := goodIn_app (goodIn_of _ (by decide +kernel)) ggX8_recovered_X8_isStretch
set_option maxRecDepth 20000 in
theorem ggX8_recovered_X8_recoveredOf : GoodIn wsX8_recovered wsX8_recoveredOf := goodIn_r _ [23, 18, 24, 19, 25, 26, 4, 27, 28, 29, 30, 31, 32, 33, 34, 35, 36, 37, 38, 39, 40, 41, 42, 43, 44, 45, 46, 47, 48, 49, 50, 51, 52, 53, 54] (by decide +kernel) (by decide +kernel)
set_option maxRecDepth 20000 in
theorem gX8_recovered_X8_recoveredOf : GoodIn wsX8_recovered (wsV RX8 112 RX8 yX8_recoveredOf wsX8_recoveredOf) := goodIn_app (goodIn_of _ (by decide +kernel)) ggX8_recovered_X8_recoveredOf
theorem dX8_recovered_0 : decode cX8_recovered 0 = .ok (.aload_n 0, 1) := by decide +kernel
theorem dX8_recovered_1 : decode cX8_recovered 1 = .ok (.iload_n 1, 1) := by decide +kernel
theorem dX8_recovered_2 : decode cX8_recovered 2 = .ok (.invokevirtual 91, 3) := by decide +kernel
theorem dX8_recovered_5 : decode cX8_recovered 5 = .ok (.ifCond .ne 6, 3) := by decide +kernel
theorem dX8_recovered_8 : decode cX8_recovered 8 = .ok (.bipush (-101), 2) := by decide +kernel
theorem dX8_recovered_10 : decode cX8_recovered 10 = .ok (.ireturn, 1) := by decide +kernel
theorem dX8_recovered_11 : decode cX8_recovered 11 = .ok (.aload_n 0, 1) := by decide +kernel
theorem dX8_recovered_12 : decode cX8_recovered 12 = .ok (.iload_n 1, 1) := by decide +kernel
theorem dX8_recovered_13 : decode cX8_recovered 13 = .ok (.iload_n 2, 1) := by decide +kernel
theorem dX8_recovered_14 : decode cX8_recovered 14 = .ok (.iload_n 3, 1) := by decide +kernel
theorem dX8_recovered_15 : decode cX8_recovered 15 = .ok (.invokevirtual 108, 3) := by decide +kernel
theorem dX8_recovered_18 : decode cX8_recovered 18 = .ok (.ifCond .eq 13, 3) := by decide +kernel
theorem dX8_recovered_21 : decode cX8_recovered 21 = .ok (.aload_n 0, 1) := by decide +kernel
theorem dX8_recovered_22 : decode cX8_recovered 22 = .ok (.iload_n 1, 1) := by decide +kernel
theorem dX8_recovered_23 : decode cX8_recovered 23 = .ok (.iload_n 2, 1) := by decide +kernel
theorem dX8_recovered_24 : decode cX8_recovered 24 = .ok (.iload_n 3, 1) := by decide +kernel
theorem dX8_recovered_25 : decode cX8_recovered 25 = .ok (.invokevirtual 112, 3) := by decide +kernel
theorem dX8_recovered_28 : decode cX8_recovered 28 = .ok (.goto 5, 3) := by decide +kernel
theorem dX8_recovered_31 : decode cX8_recovered 31 = .ok (.bipush (-102), 2) := by decide +kernel
theorem dX8_recovered_33 : decode cX8_recovered 33 = .ok (.ireturn, 1) := by decide +kernel
set_option maxRecDepth 20000 in
theorem ggX8_mark_X8_isHole : GoodIn wsX8_mark wsX8_isHole := goodIn_r _ [8, 9, 10, 11, 7, 12, 13, 14, 15, 16, 17, 18, 19, 20, 21, 22, 23, 24, 25, 26, 27, 28, 29, 30, 31, 32, 33, 34, 35, 36, 37, 38, 39] (by decide +kernel) (by decide +kernel)
set_option maxRecDepth 20000 in
theorem gX8_mark_X8_isHole : GoodIn wsX8_mark (wsV RX8 91 RX8 yX8_isHole wsX8_isHole) := goodIn_app (goodIn_of _ (by decide +kernel)) ggX8_mark_X8_isHole
set_option maxRecDepth 20000 in
theorem ggX8_mark_X8_in : GoodIn wsX8_mark wsX8_in := goodIn_r _ [12] (by decide +kernel) (by decide +kernel)
set_option maxRecDepth 20000 in
theorem gX8_mark_X8_in : GoodIn wsX8_mark (va_wsS RX8 84 yX8_in wsX8_in) := goodIn_app (goodIn_of _ (by decide +kernel)) ggX8_mark_X8_in
theorem dX8_mark_0 : decode cX8_mark 0 = .ok (.aload_n 0, 1) := by decide +kernel
theorem dX8_mark_1 : decode cX8_mark 1 = .ok (.iload_n 1, 1) := by decide +kernel
theorem dX8_mark_2 : decode cX8_mark 2 = .ok (.invokevirtual 91, 3) := by decide +kernel
theorem dX8_mark_5 : decode cX8_mark 5 = .ok (.ifCond .ne 6, 3) := by decide +kernel
theorem dX8_mark_8 : decode cX8_mark 8 = .ok (.bipush (-101), 2) := by decide +kernel
theorem dX8_mark_10 : decode cX8_mark 10 = .ok (.ireturn, 1) := by decide +kernel
theorem dX8_mark_11 : decode cX8_mark 11 = .ok (.iload_n 2, 1) := by decide +kernel
theorem dX8_mark_12 : decode cX8_mark 12 = .ok (.i2l, 1) := by decide +kernel
theorem dX8_mark_13 : decode cX8_mark 13 = .ok (.lconst 0, 1) := by decide +kernel
theorem dX8_mark_14 : decode cX8_mark 14 = .ok (.ldc2_w 116, 3) := by decide +kernel
theorem dX8_mark_17 : decode cX8_mark 17 = .ok (.invokestatic 84, 3) := by decide +kernel
theorem dX8_mark_20 : decode cX8_mark 20 = .ok (.ifCond .ne 6, 3) := by decide +kernel
theorem dX8_mark_23 : decode cX8_mark 23 = .ok (.bipush (-102), 2) := by decide +kernel
theorem dX8_mark_25 : decode cX8_mark 25 = .ok (.ireturn, 1) := by decide +kernel
theorem dX8_mark_26 : decode cX8_mark 26 = .ok (.aload_n 0, 1) := by decide +kernel
theorem dX8_mark_27 : decode cX8_mark 27 = .ok (.getfield 19, 3) := by decide +kernel
theorem dX8_mark_30 : decode cX8_mark 30 = .ok (.iload_n 1, 1) := by decide +kernel
theorem dX8_mark_31 : decode cX8_mark 31 = .ok (.iaload, 1) := by decide +kernel
theorem dX8_mark_32 : decode cX8_mark 32 = .ok (.bipush 20, 2) := by decide +kernel
theorem dX8_mark_34 : decode cX8_mark 34 = .ok (.if_icmp .ne 6, 3) := by decide +kernel
theorem dX8_mark_37 : decode cX8_mark 37 = .ok (.bipush (-104), 2) := by decide +kernel
theorem dX8_mark_39 : decode cX8_mark 39 = .ok (.ireturn, 1) := by decide +kernel
theorem dX8_mark_40 : decode cX8_mark 40 = .ok (.aload_n 0, 1) := by decide +kernel
theorem dX8_mark_41 : decode cX8_mark 41 = .ok (.getfield 22, 3) := by decide +kernel
theorem dX8_mark_44 : decode cX8_mark 44 = .ok (.bipush 20, 2) := by decide +kernel
theorem dX8_mark_46 : decode cX8_mark 46 = .ok (.iload_n 1, 1) := by decide +kernel
theorem dX8_mark_47 : decode cX8_mark 47 = .ok (.imul, 1) := by decide +kernel
theorem dX8_mark_48 : decode cX8_mark 48 = .ok (.aload_n 0, 1) := by decide +kernel
theorem dX8_mark_49 : decode cX8_mark 49 = .ok (.getfield 19, 3) := by decide +kernel
theorem dX8_mark_52 : decode cX8_mark 52 = .ok (.iload_n 1, 1) := by decide +kernel
theorem dX8_mark_53 : decode cX8_mark 53 = .ok (.iaload, 1) := by decide +kernel
theorem dX8_mark_54 : decode cX8_mark 54 = .ok (.iadd, 1) := by decide +kernel
theorem dX8_mark_55 : decode cX8_mark 55 = .ok (.iload_n 2, 1) := by decide +kernel
theorem dX8_mark_56 : decode cX8_mark 56 = .ok (.iastore, 1) := by decide +kernel
theorem dX8_mark_57 : decode cX8_mark 57 = .ok (.aload_n 0, 1) := by decide +kernel
theorem dX8_mark_58 : decode cX8_mark 58 = .ok (.getfield 19, 3) := by decide +kernel
theorem dX8_mark_61 : decode cX8_mark 61 = .ok (.iload_n 1, 1) := by decide +kernel
theorem dX8_mark_62 : decode cX8_mark 62 = .ok (.dup2, 1) := by decide +kernel
theorem dX8_mark_63 : decode cX8_mark 63 = .ok (.iaload, 1) := by decide +kernel
theorem dX8_mark_64 : decode cX8_mark 64 = .ok (.iconst 1, 1) := by decide +kernel
theorem dX8_mark_65 : decode cX8_mark 65 = .ok (.iadd, 1) := by decide +kernel
theorem dX8_mark_66 : decode cX8_mark 66 = .ok (.iastore, 1) := by decide +kernel
theorem dX8_mark_67 : decode cX8_mark 67 = .ok (.aload_n 0, 1) := by decide +kernel
theorem dX8_mark_68 : decode cX8_mark 68 = .ok (.getfield 19, 3) := by decide +kernel
theorem dX8_mark_71 : decode cX8_mark 71 = .ok (.iload_n 1, 1) := by decide +kernel
theorem dX8_mark_72 : decode cX8_mark 72 = .ok (.iaload, 1) := by decide +kernel
theorem dX8_mark_73 : decode cX8_mark 73 = .ok (.ireturn, 1) := by decide +kernel
set_option maxRecDepth 20000 in
theorem ggX8_mend_X8_endOf : GoodIn wsX8_mend wsX8_endOf := goodIn_r _ [9, 10, 11, 12, 13, 14, 15, 16, 17, 18, 19, 20, 21, 22, 23, 24, 25, 26, 27, 28, 29, 30, 31, 32, 33, 34, 35, 36, 37, 38] (by decide +kernel) (by decide +kernel)
set_option maxRecDepth 20000 in
theorem gX8_mend_X8_endOf : GoodIn wsX8_mend (wsV RX8 100 RX8 yX8_endOf wsX8_endOf) := goodIn_app (goodIn_of _ (by decide +kernel)) ggX8_mend_X8_endOf
theorem dX8_mend_0 : decode cX8_mend 0 = .ok (.aload_n 0, 1) := by decide +kernel
theorem dX8_mend_1 : decode cX8_mend 1 = .ok (.iload_n 1, 1) := by decide +kernel
theorem dX8_mend_2 : decode cX8_mend 2 = .ok (.invokevirtual 100, 3) := by decide +kernel
theorem dX8_mend_5 : decode cX8_mend 5 = .ok (.istore_n 2, 1) := by decide +kernel
theorem dX8_mend_6 : decode cX8_mend 6 = .ok (.iconst 0, 1) := by decide +kernel
theorem dX8_mend_7 : decode cX8_mend 7 = .ok (.istore_n 3, 1) := by decide +kernel
theorem dX8_mend_8 : decode cX8_mend 8 = .ok (.aload_n 0, 1) := by decide +kernel
theorem dX8_mend_9 : decode cX8_mend 9 = .ok (.getfield 19, 3) := by decide +kernel
theorem dX8_mend_12 : decode cX8_mend 12 = .ok (.iload_n 1, 1) := by decide +kernel
theorem dX8_mend_13 : decode cX8_mend 13 = .ok (.iaload, 1) := by decide +kernel
theorem dX8_mend_14 : decode cX8_mend 14 = .ok (.iconst 1, 1) := by decide +kernel
theorem dX8_mend_15 : decode cX8_mend 15 = .ok (.isub, 1) := by decide +kernel
theorem dX8_mend_16 : decode cX8_mend 16 = .ok (.istore 4, 2) := by decide +kernel
theorem dX8_mend_18 : decode cX8_mend 18 = .ok (.iload 4, 2) := by decide +kernel
theorem dX8_mend_20 : decode cX8_mend 20 = .ok (.ifCond .lt 143, 3) := by decide +kernel
theorem dX8_mend_23 : decode cX8_mend 23 = .ok (.aload_n 0, 1) := by decide +kernel
theorem dX8_mend_24 : decode cX8_mend 24 = .ok (.getfield 22, 3) := by decide +kernel
theorem dX8_mend_27 : decode cX8_mend 27 = .ok (.bipush 20, 2) := by decide +kernel
theorem dX8_mend_29 : decode cX8_mend 29 = .ok (.iload_n 1, 1) := by decide +kernel
theorem dX8_mend_30 : decode cX8_mend 30 = .ok (.imul, 1) := by decide +kernel
theorem dX8_mend_31 : decode cX8_mend 31 = .ok (.iload 4, 2) := by decide +kernel
theorem dX8_mend_33 : decode cX8_mend 33 = .ok (.iadd, 1) := by decide +kernel
theorem dX8_mend_34 : decode cX8_mend 34 = .ok (.iaload, 1) := by decide +kernel
theorem dX8_mend_35 : decode cX8_mend 35 = .ok (.istore 5, 2) := by decide +kernel
theorem dX8_mend_37 : decode cX8_mend 37 = .ok (.aload_n 0, 1) := by decide +kernel
theorem dX8_mend_38 : decode cX8_mend 38 = .ok (.getfield 25, 3) := by decide +kernel
theorem dX8_mend_41 : decode cX8_mend 41 = .ok (.iload 4, 2) := by decide +kernel
theorem dX8_mend_43 : decode cX8_mend 43 = .ok (.iload 5, 2) := by decide +kernel
theorem dX8_mend_45 : decode cX8_mend 45 = .ok (.iload_n 2, 1) := by decide +kernel
theorem dX8_mend_46 : decode cX8_mend 46 = .ok (.if_icmp .le 7, 3) := by decide +kernel
theorem dX8_mend_49 : decode cX8_mend 49 = .ok (.iconst 0, 1) := by decide +kernel
theorem dX8_mend_50 : decode cX8_mend 50 = .ok (.goto 4, 3) := by decide +kernel
theorem dX8_mend_53 : decode cX8_mend 53 = .ok (.iconst 1, 1) := by decide +kernel
theorem dX8_mend_54 : decode cX8_mend 54 = .ok (.iastore, 1) := by decide +kernel
theorem dX8_mend_55 : decode cX8_mend 55 = .ok (.iload 4, 2) := by decide +kernel
theorem dX8_mend_57 : decode cX8_mend 57 = .ok (.iconst 1, 1) := by decide +kernel
theorem dX8_mend_58 : decode cX8_mend 58 = .ok (.iadd, 1) := by decide +kernel
theorem dX8_mend_59 : decode cX8_mend 59 = .ok (.istore 6, 2) := by decide +kernel
theorem dX8_mend_61 : decode cX8_mend 61 = .ok (.iload 6, 2) := by decide +kernel
theorem dX8_mend_63 : decode cX8_mend 63 = .ok (.aload_n 0, 1) := by decide +kernel
theorem dX8_mend_64 : decode cX8_mend 64 = .ok (.getfield 19, 3) := by decide +kernel
theorem dX8_mend_67 : decode cX8_mend 67 = .ok (.iload_n 1, 1) := by decide +kernel
theorem dX8_mend_68 : decode cX8_mend 68 = .ok (.iaload, 1) := by decide +kernel
theorem dX8_mend_69 : decode cX8_mend 69 = .ok (.if_icmp .ge 65, 3) := by decide +kernel
theorem dX8_mend_72 : decode cX8_mend 72 = .ok (.iload 5, 2) := by decide +kernel
theorem dX8_mend_74 : decode cX8_mend 74 = .ok (.iload_n 2, 1) := by decide +kernel
theorem dX8_mend_75 : decode cX8_mend 75 = .ok (.if_icmp .gt 59, 3) := by decide +kernel
theorem dX8_mend_78 : decode cX8_mend 78 = .ok (.aload_n 0, 1) := by decide +kernel
theorem dX8_mend_79 : decode cX8_mend 79 = .ok (.getfield 22, 3) := by decide +kernel
theorem dX8_mend_82 : decode cX8_mend 82 = .ok (.bipush 20, 2) := by decide +kernel
theorem dX8_mend_84 : decode cX8_mend 84 = .ok (.iload_n 1, 1) := by decide +kernel
theorem dX8_mend_85 : decode cX8_mend 85 = .ok (.imul, 1) := by decide +kernel
theorem dX8_mend_86 : decode cX8_mend 86 = .ok (.iload 6, 2) := by decide +kernel
theorem dX8_mend_88 : decode cX8_mend 88 = .ok (.iadd, 1) := by decide +kernel
theorem dX8_mend_89 : decode cX8_mend 89 = .ok (.iaload, 1) := by decide +kernel
theorem dX8_mend_90 : decode cX8_mend 90 = .ok (.iload 5, 2) := by decide +kernel
theorem dX8_mend_92 : decode cX8_mend 92 = .ok (.if_icmp .le 36, 3) := by decide +kernel
theorem dX8_mend_95 : decode cX8_mend 95 = .ok (.aload_n 0, 1) := by decide +kernel
theorem dX8_mend_96 : decode cX8_mend 96 = .ok (.getfield 25, 3) := by decide +kernel
theorem dX8_mend_99 : decode cX8_mend 99 = .ok (.iload 6, 2) := by decide +kernel
theorem dX8_mend_101 : decode cX8_mend 101 = .ok (.iaload, 1) := by decide +kernel
theorem dX8_mend_102 : decode cX8_mend 102 = .ok (.aload_n 0, 1) := by decide +kernel
theorem dX8_mend_103 : decode cX8_mend 103 = .ok (.getfield 25, 3) := by decide +kernel
theorem dX8_mend_106 : decode cX8_mend 106 = .ok (.iload 4, 2) := by decide +kernel
theorem dX8_mend_108 : decode cX8_mend 108 = .ok (.iaload, 1) := by decide +kernel
theorem dX8_mend_109 : decode cX8_mend 109 = .ok (.if_icmp .lt 19, 3) := by decide +kernel
theorem dX8_mend_112 : decode cX8_mend 112 = .ok (.aload_n 0, 1) := by decide +kernel
theorem dX8_mend_113 : decode cX8_mend 113 = .ok (.getfield 25, 3) := by decide +kernel
theorem dX8_mend_116 : decode cX8_mend 116 = .ok (.iload 4, 2) := by decide +kernel
theorem dX8_mend_118 : decode cX8_mend 118 = .ok (.aload_n 0, 1) := by decide +kernel
theorem dX8_mend_119 : decode cX8_mend 119 = .ok (.getfield 25, 3) := by decide +kernel
theorem dX8_mend_122 : decode cX8_mend 122 = .ok (.iload 6, 2) := by decide +kernel
theorem dX8_mend_124 : decode cX8_mend 124 = .ok (.iaload, 1) := by decide +kernel
theorem dX8_mend_125 : decode cX8_mend 125 = .ok (.iconst 1, 1) := by decide +kernel
theorem dX8_mend_126 : decode cX8_mend 126 = .ok (.iadd, 1) := by decide +kernel
theorem dX8_mend_127 : decode cX8_mend 127 = .ok (.iastore, 1) := by decide +kernel
theorem dX8_mend_128 : decode cX8_mend 128 = .ok (.iinc 6 1, 3) := by decide +kernel
theorem dX8_mend_131 : decode cX8_mend 131 = .ok (.goto (-70), 3) := by decide +kernel
theorem dX8_mend_134 : decode cX8_mend 134 = .ok (.aload_n 0, 1) := by decide +kernel
theorem dX8_mend_135 : decode cX8_mend 135 = .ok (.getfield 25, 3) := by decide +kernel
theorem dX8_mend_138 : decode cX8_mend 138 = .ok (.iload 4, 2) := by decide +kernel
theorem dX8_mend_140 : decode cX8_mend 140 = .ok (.iaload, 1) := by decide +kernel
theorem dX8_mend_141 : decode cX8_mend 141 = .ok (.iload_n 3, 1) := by decide +kernel
theorem dX8_mend_142 : decode cX8_mend 142 = .ok (.if_icmp .le 13, 3) := by decide +kernel
theorem dX8_mend_145 : decode cX8_mend 145 = .ok (.aload_n 0, 1) := by decide +kernel
theorem dX8_mend_146 : decode cX8_mend 146 = .ok (.getfield 25, 3) := by decide +kernel
theorem dX8_mend_149 : decode cX8_mend 149 = .ok (.iload 4, 2) := by decide +kernel
theorem dX8_mend_151 : decode cX8_mend 151 = .ok (.iaload, 1) := by decide +kernel
theorem dX8_mend_152 : decode cX8_mend 152 = .ok (.goto 4, 3) := by decide +kernel
theorem dX8_mend_155 : decode cX8_mend 155 = .ok (.iload_n 3, 1) := by decide +kernel
theorem dX8_mend_156 : decode cX8_mend 156 = .ok (.istore_n 3, 1) := by decide +kernel
theorem dX8_mend_157 : decode cX8_mend 157 = .ok (.iinc 4 (-1), 3) := by decide +kernel
theorem dX8_mend_160 : decode cX8_mend 160 = .ok (.goto (-142), 3) := by decide +kernel
theorem dX8_mend_163 : decode cX8_mend 163 = .ok (.iload_n 3, 1) := by decide +kernel
theorem dX8_mend_164 : decode cX8_mend 164 = .ok (.istore 4, 2) := by decide +kernel
theorem dX8_mend_166 : decode cX8_mend 166 = .ok (.iconst (-1), 1) := by decide +kernel
theorem dX8_mend_167 : decode cX8_mend 167 = .ok (.istore 5, 2) := by decide +kernel
theorem dX8_mend_169 : decode cX8_mend 169 = .ok (.iconst 0, 1) := by decide +kernel
theorem dX8_mend_170 : decode cX8_mend 170 = .ok (.istore 6, 2) := by decide +kernel
theorem dX8_mend_172 : decode cX8_mend 172 = .ok (.iload 6, 2) := by decide +kernel
theorem dX8_mend_174 : decode cX8_mend 174 = .ok (.aload_n 0, 1) := by decide +kernel
theorem dX8_mend_175 : decode cX8_mend 175 = .ok (.getfield 19, 3) := by decide +kernel
theorem dX8_mend_178 : decode cX8_mend 178 = .ok (.iload_n 1, 1) := by decide +kernel
theorem dX8_mend_179 : decode cX8_mend 179 = .ok (.iaload, 1) := by decide +kernel
theorem dX8_mend_180 : decode cX8_mend 180 = .ok (.if_icmp .ge 98, 3) := by decide +kernel
theorem dX8_mend_183 : decode cX8_mend 183 = .ok (.aload_n 0, 1) := by decide +kernel
theorem dX8_mend_184 : decode cX8_mend 184 = .ok (.getfield 22, 3) := by decide +kernel
theorem dX8_mend_187 : decode cX8_mend 187 = .ok (.bipush 20, 2) := by decide +kernel
theorem dX8_mend_189 : decode cX8_mend 189 = .ok (.iload_n 1, 1) := by decide +kernel
theorem dX8_mend_190 : decode cX8_mend 190 = .ok (.imul, 1) := by decide +kernel
theorem dX8_mend_191 : decode cX8_mend 191 = .ok (.iload 6, 2) := by decide +kernel
theorem dX8_mend_193 : decode cX8_mend 193 = .ok (.iadd, 1) := by decide +kernel
theorem dX8_mend_194 : decode cX8_mend 194 = .ok (.iaload, 1) := by decide +kernel
theorem dX8_mend_195 : decode cX8_mend 195 = .ok (.istore 7, 2) := by decide +kernel
theorem dX8_mend_197 : decode cX8_mend 197 = .ok (.aload_n 0, 1) := by decide +kernel
theorem dX8_mend_198 : decode cX8_mend 198 = .ok (.getfield 28, 3) := by decide +kernel
theorem dX8_mend_201 : decode cX8_mend 201 = .ok (.iload 6, 2) := by decide +kernel
theorem dX8_mend_203 : decode cX8_mend 203 = .ok (.iload 4, 2) := by decide +kernel
theorem dX8_mend_205 : decode cX8_mend 205 = .ok (.ifCond .le 26, 3) := by decide +kernel
theorem dX8_mend_208 : decode cX8_mend 208 = .ok (.aload_n 0, 1) := by decide +kernel
theorem dX8_mend_209 : decode cX8_mend 209 = .ok (.getfield 25, 3) := by decide +kernel
theorem dX8_mend_212 : decode cX8_mend 212 = .ok (.iload 6, 2) := by decide +kernel
theorem dX8_mend_214 : decode cX8_mend 214 = .ok (.iaload, 1) := by decide +kernel
theorem dX8_mend_215 : decode cX8_mend 215 = .ok (.iload 4, 2) := by decide +kernel
theorem dX8_mend_217 : decode cX8_mend 217 = .ok (.if_icmp .ne 14, 3) := by decide +kernel
theorem dX8_mend_220 : decode cX8_mend 220 = .ok (.iload 7, 2) := by decide +kernel
theorem dX8_mend_222 : decode cX8_mend 222 = .ok (.iload 5, 2) := by decide +kernel
theorem dX8_mend_224 : decode cX8_mend 224 = .ok (.if_icmp .le 7, 3) := by decide +kernel
theorem dX8_mend_227 : decode cX8_mend 227 = .ok (.iconst 1, 1) := by decide +kernel
theorem dX8_mend_228 : decode cX8_mend 228 = .ok (.goto 4, 3) := by decide +kernel
theorem dX8_mend_231 : decode cX8_mend 231 = .ok (.iconst 0, 1) := by decide +kernel
theorem dX8_mend_232 : decode cX8_mend 232 = .ok (.bastore, 1) := by decide +kernel
theorem dX8_mend_233 : decode cX8_mend 233 = .ok (.aload_n 0, 1) := by decide +kernel
theorem dX8_mend_234 : decode cX8_mend 234 = .ok (.getfield 28, 3) := by decide +kernel
theorem dX8_mend_237 : decode cX8_mend 237 = .ok (.iload 6, 2) := by decide +kernel
theorem dX8_mend_239 : decode cX8_mend 239 = .ok (.baload, 1) := by decide +kernel
theorem dX8_mend_240 : decode cX8_mend 240 = .ok (.ifCond .eq 8, 3) := by decide +kernel
theorem dX8_mend_243 : decode cX8_mend 243 = .ok (.iload 7, 2) := by decide +kernel
theorem dX8_mend_245 : decode cX8_mend 245 = .ok (.goto 5, 3) := by decide +kernel
theorem dX8_mend_248 : decode cX8_mend 248 = .ok (.iload 5, 2) := by decide +kernel
theorem dX8_mend_250 : decode cX8_mend 250 = .ok (.istore 5, 2) := by decide +kernel
theorem dX8_mend_252 : decode cX8_mend 252 = .ok (.iload 4, 2) := by decide +kernel
theorem dX8_mend_254 : decode cX8_mend 254 = .ok (.aload_n 0, 1) := by decide +kernel
theorem dX8_mend_255 : decode cX8_mend 255 = .ok (.getfield 28, 3) := by decide +kernel
theorem dX8_mend_258 : decode cX8_mend 258 = .ok (.iload 6, 2) := by decide +kernel
theorem dX8_mend_260 : decode cX8_mend 260 = .ok (.baload, 1) := by decide +kernel
theorem dX8_mend_261 : decode cX8_mend 261 = .ok (.ifCond .eq 7, 3) := by decide +kernel
theorem dX8_mend_264 : decode cX8_mend 264 = .ok (.iconst 1, 1) := by decide +kernel
theorem dX8_mend_265 : decode cX8_mend 265 = .ok (.goto 4, 3) := by decide +kernel
theorem dX8_mend_268 : decode cX8_mend 268 = .ok (.iconst 0, 1) := by decide +kernel
theorem dX8_mend_269 : decode cX8_mend 269 = .ok (.isub, 1) := by decide +kernel
theorem dX8_mend_270 : decode cX8_mend 270 = .ok (.istore 4, 2) := by decide +kernel
theorem dX8_mend_272 : decode cX8_mend 272 = .ok (.iinc 6 1, 3) := by decide +kernel
theorem dX8_mend_275 : decode cX8_mend 275 = .ok (.goto (-103), 3) := by decide +kernel
theorem dX8_mend_278 : decode cX8_mend 278 = .ok (.iload_n 3, 1) := by decide +kernel
theorem dX8_mend_279 : decode cX8_mend 279 = .ok (.ireturn, 1) := by decide +kernel
set_option maxRecDepth 20000 in
theorem ggX8_wrong_X8_isHole : GoodIn wsX8_wrong wsX8_isHole := goodIn_r _ [6, 7, 8, 9, 5, 10, 24, 25, 26, 27, 28, 29, 30, 31, 32, 33, 34, 35, 36, 37, 38, 39, 40, 41, 42, 43, 44, 45, 46, 47, 48, 49, 50] (by decide +kernel) (by decide +kernel)
set_option maxRecDepth 20000 in
theorem gX8_wrong_X8_isHole : GoodIn wsX8_wrong (wsV RX8 91 RX8 yX8_isHole wsX8_isHole) := goodIn_app (goodIn_of _ (by decide +kernel)) ggX8_wrong_X8_isHole
set_option maxRecDepth 20000 in
theorem ggX8_wrong_X8_mend : GoodIn wsX8_wrong wsX8_mend := goodIn_r _ [14, 1, 15, 16, 17, 18, 19, 20, 5, 21, 22, 23, 24, 25, 26, 27, 28, 29, 30, 31, 32, 33, 34, 35, 36, 37, 38, 39, 40, 41, 42, 43, 44, 45, 46, 47, 48, 49, 50] (by decide +kernel) (by decide +kernel)
set_option maxRecDepth 20000 in
theorem gX8_wrong_X8_mend : GoodIn wsX8_wrong (wsV RX8 118 RX8 yX8_mend wsX8_mend) := goodIn_app (goodIn_of _ (by decide +kernel)) ggX8_wrong_X8_mend
theorem dX8_wrong_0 : decode cX8_wrong 0 = .ok (.aload_n 0, 1) := by decide +kernel
theorem dX8_wrong_1 : decode cX8_wrong 1 = .ok (.iload_n 1, 1) := by decide +kernel
theorem dX8_wrong_2 : decode cX8_wrong 2 = .ok (.invokevirtual 91, 3) := by decide +kernel
theorem dX8_wrong_5 : decode cX8_wrong 5 = .ok (.ifCond .eq 18, 3) := by decide +kernel
theorem dX8_wrong_8 : decode cX8_wrong 8 = .ok (.aload_n 0, 1) := by decide +kernel
theorem dX8_wrong_9 : decode cX8_wrong 9 = .ok (.getfield 19, 3) := by decide +kernel
theorem dX8_wrong_12 : decode cX8_wrong 12 = .ok (.iload_n 1, 1) := by decide +kernel
theorem dX8_wrong_13 : decode cX8_wrong 13 = .ok (.iaload, 1) := by decide +kernel
theorem dX8_wrong_14 : decode cX8_wrong 14 = .ok (.aload_n 0, 1) := by decide +kernel
theorem dX8_wrong_15 : decode cX8_wrong 15 = .ok (.iload_n 1, 1) := by decide +kernel
theorem dX8_wrong_16 : decode cX8_wrong 16 = .ok (.invokevirtual 118, 3) := by decide +kernel
theorem dX8_wrong_19 : decode cX8_wrong 19 = .ok (.isub, 1) := by decide +kernel
theorem dX8_wrong_20 : decode cX8_wrong 20 = .ok (.goto 5, 3) := by decide +kernel
theorem dX8_wrong_23 : decode cX8_wrong 23 = .ok (.bipush (-101), 2) := by decide +kernel
theorem dX8_wrong_25 : decode cX8_wrong 25 = .ok (.ireturn, 1) := by decide +kernel
set_option maxRecDepth 20000 in
theorem ggX8_isWrong_X8_isHole : GoodIn wsX8_isWrong wsX8_isHole := goodIn_r _ [7, 8, 9, 10, 6, 11, 24, 25, 26, 27, 28, 29, 30, 31, 32, 33, 34, 35, 36, 37, 38, 39, 40, 41, 42, 43, 44, 45, 46, 47, 48, 49, 50] (by decide +kernel) (by decide +kernel)
set_option maxRecDepth 20000 in
theorem gX8_isWrong_X8_isHole : GoodIn wsX8_isWrong (wsV RX8 91 RX8 yX8_isHole wsX8_isHole) := goodIn_app (goodIn_of _ (by decide +kernel)) ggX8_isWrong_X8_isHole
set_option maxRecDepth 20000 in
theorem ggX8_isWrong_X8_in : GoodIn wsX8_isWrong wsX8_in := goodIn_r _ [11] (by decide +kernel) (by decide +kernel)
set_option maxRecDepth 20000 in
theorem gX8_isWrong_X8_in : GoodIn wsX8_isWrong (va_wsS RX8 84 yX8_in wsX8_in) := goodIn_app (goodIn_of _ (by decide +kernel)) ggX8_isWrong_X8_in
set_option maxRecDepth 20000 in
theorem ggX8_isWrong_X8_mend : GoodIn wsX8_isWrong wsX8_mend := goodIn_r _ [15, 1, 16, 17, 2, 18, 19, 20, 6, 21, 22, 23, 24, 25, 26, 27, 28, 29, 30, 31, 32, 33, 34, 35, 36, 37, 38, 39, 40, 41, 42, 43, 44, 45, 46, 47, 48, 49, 50] (by decide +kernel) (by decide +kernel)
set_option maxRecDepth 20000 in
theorem gX8_isWrong_X8_mend : GoodIn wsX8_isWrong (wsV RX8 118 RX8 yX8_mend wsX8_mend) := goodIn_app (goodIn_of _ (by decide +kernel)) ggX8_isWrong_X8_mend
theorem dX8_isWrong_0 : decode cX8_isWrong 0 = .ok (.aload_n 0, 1) := by decide +kernel
theorem dX8_isWrong_1 : decode cX8_isWrong 1 = .ok (.iload_n 1, 1) := by decide +kernel
theorem dX8_isWrong_2 : decode cX8_isWrong 2 = .ok (.invokevirtual 91, 3) := by decide +kernel
theorem dX8_isWrong_5 : decode cX8_isWrong 5 = .ok (.ifCond .eq 21, 3) := by decide +kernel
theorem dX8_isWrong_8 : decode cX8_isWrong 8 = .ok (.iload_n 2, 1) := by decide +kernel
theorem dX8_isWrong_9 : decode cX8_isWrong 9 = .ok (.i2l, 1) := by decide +kernel
theorem dX8_isWrong_10 : decode cX8_isWrong 10 = .ok (.lconst 0, 1) := by decide +kernel
theorem dX8_isWrong_11 : decode cX8_isWrong 11 = .ok (.aload_n 0, 1) := by decide +kernel
theorem dX8_isWrong_12 : decode cX8_isWrong 12 = .ok (.getfield 19, 3) := by decide +kernel
theorem dX8_isWrong_15 : decode cX8_isWrong 15 = .ok (.iload_n 1, 1) := by decide +kernel
theorem dX8_isWrong_16 : decode cX8_isWrong 16 = .ok (.iaload, 1) := by decide +kernel
theorem dX8_isWrong_17 : decode cX8_isWrong 17 = .ok (.iconst 1, 1) := by decide +kernel
theorem dX8_isWrong_18 : decode cX8_isWrong 18 = .ok (.isub, 1) := by decide +kernel
theorem dX8_isWrong_19 : decode cX8_isWrong 19 = .ok (.i2l, 1) := by decide +kernel
theorem dX8_isWrong_20 : decode cX8_isWrong 20 = .ok (.invokestatic 84, 3) := by decide +kernel
theorem dX8_isWrong_23 : decode cX8_isWrong 23 = .ok (.ifCond .ne 6, 3) := by decide +kernel
theorem dX8_isWrong_26 : decode cX8_isWrong 26 = .ok (.bipush (-101), 2) := by decide +kernel
theorem dX8_isWrong_28 : decode cX8_isWrong 28 = .ok (.ireturn, 1) := by decide +kernel
theorem dX8_isWrong_29 : decode cX8_isWrong 29 = .ok (.aload_n 0, 1) := by decide +kernel
theorem dX8_isWrong_30 : decode cX8_isWrong 30 = .ok (.iload_n 1, 1) := by decide +kernel
theorem dX8_isWrong_31 : decode cX8_isWrong 31 = .ok (.invokevirtual 118, 3) := by decide +kernel
theorem dX8_isWrong_34 : decode cX8_isWrong 34 = .ok (.istore_n 3, 1) := by decide +kernel
theorem dX8_isWrong_35 : decode cX8_isWrong 35 = .ok (.iload_n 3, 1) := by decide +kernel
theorem dX8_isWrong_36 : decode cX8_isWrong 36 = .ok (.ifCond .le 16, 3) := by decide +kernel
theorem dX8_isWrong_39 : decode cX8_isWrong 39 = .ok (.aload_n 0, 1) := by decide +kernel
theorem dX8_isWrong_40 : decode cX8_isWrong 40 = .ok (.getfield 28, 3) := by decide +kernel
theorem dX8_isWrong_43 : decode cX8_isWrong 43 = .ok (.iload_n 2, 1) := by decide +kernel
theorem dX8_isWrong_44 : decode cX8_isWrong 44 = .ok (.baload, 1) := by decide +kernel
theorem dX8_isWrong_45 : decode cX8_isWrong 45 = .ok (.ifCond .eq 7, 3) := by decide +kernel
theorem dX8_isWrong_48 : decode cX8_isWrong 48 = .ok (.iconst 0, 1) := by decide +kernel
theorem dX8_isWrong_49 : decode cX8_isWrong 49 = .ok (.goto 4, 3) := by decide +kernel
theorem dX8_isWrong_52 : decode cX8_isWrong 52 = .ok (.iconst 1, 1) := by decide +kernel
theorem dX8_isWrong_53 : decode cX8_isWrong 53 = .ok (.ireturn, 1) := by decide +kernel
set_option maxRecDepth 20000 in
theorem ggX8_isLog_X8_in : GoodIn wsX8_isLog wsX8_in := goodIn_r _ [4] (by decide +kernel) (by decide +kernel)
set_option maxRecDepth 20000 in
theorem gX8_isLog_X8_in : GoodIn wsX8_isLog (va_wsS RX8 84 yX8_in wsX8_in) := goodIn_app (goodIn_of _ (by decide +kernel)) ggX8_isLog_X8_in
theorem dX8_isLog_0 : decode cX8_isLog 0 = .ok (.iload_n 0, 1) := by decide +kernel
theorem dX8_isLog_1 : decode cX8_isLog 1 = .ok (.i2l, 1) := by decide +kernel
theorem dX8_isLog_2 : decode cX8_isLog 2 = .ok (.lconst 0, 1) := by decide +kernel
theorem dX8_isLog_3 : decode cX8_isLog 3 = .ok (.lconst 1, 1) := by decide +kernel
theorem dX8_isLog_4 : decode cX8_isLog 4 = .ok (.invokestatic 84, 3) := by decide +kernel
theorem dX8_isLog_7 : decode cX8_isLog 7 = .ok (.ireturn, 1) := by decide +kernel
set_option maxRecDepth 20000 in
theorem ggX8_layer_X8_isHole : GoodIn wsX8_layer wsX8_isHole := goodIn_r _ [9, 10, 11, 12, 8, 13, 23, 24, 25, 26, 27, 28, 29, 30, 31, 32, 33, 34, 35, 36, 37, 38, 39, 40, 41, 42, 43, 44, 45, 46, 47, 48, 49] (by decide +kernel) (by decide +kernel)
set_option maxRecDepth 20000 in
theorem gX8_layer_X8_isHole : GoodIn wsX8_layer (wsV RX8 91 RX8 yX8_isHole wsX8_isHole) := goodIn_app (goodIn_of _ (by decide +kernel)) ggX8_layer_X8_isHole
set_option maxRecDepth 20000 in
theorem ggX8_layer_X8_isLog : GoodIn wsX8_layer wsX8_isLog := goodIn_r _ [16, 11, 12, 8, 13] (by decide +kernel) (by decide +kernel)
set_option maxRecDepth 20000 in
theorem gX8_layer_X8_isLog : GoodIn wsX8_layer (va_wsS RX8 121 yX8_isLog wsX8_isLog) := goodIn_app (goodIn_of _ (by decide +kernel)) ggX8_layer_X8_isLog
set_option maxRecDepth 20000 in
theorem ggX8_layer_X8_endOf : GoodIn wsX8_layer wsX8_endOf := goodIn_r _ [20, 21, 22, 23, 24, 25, 26, 27, 28, 29, 30, 31, 32, 33, 34, 35, 36, 37, 38, 39, 40, 41, 42, 43, 44, 45, 46, 47, 48, 49] (by decide +kernel) (by decide +kernel)
set_option maxRecDepth 20000 in
theorem gX8_layer_X8_endOf : GoodIn wsX8_layer (wsV RX8 100 RX8 yX8_endOf wsX8_endOf) := goodIn_app (goodIn_of _ (by decide +kernel)) ggX8_layer_X8_endOf
set_option maxRecDepth 20000 in
theorem ggX8_layer_X8_in : GoodIn wsX8_layer wsX8_in := goodIn_r _ [13] (by decide +kernel) (by decide +kernel)
set_option maxRecDepth 20000 in
theorem gX8_layer_X8_in : GoodIn wsX8_layer (va_wsS RX8 84 yX8_in wsX8_in) := goodIn_app (goodIn_of _ (by decide +kernel)) ggX8_layer_X8_in
theorem dX8_layer_0 : decode cX8_layer 0 = .ok (.aload_n 0, 1) := by decide +kernel
theorem dX8_layer_1 : decode cX8_layer 1 = .ok (.iload_n 1, 1) := by decide +kernel
theorem dX8_layer_2 : decode cX8_layer 2 = .ok (.invokevirtual 91, 3) := by decide +kernel
theorem dX8_layer_5 : decode cX8_layer 5 = .ok (.ifCond .eq 10, 3) := by decide +kernel
theorem dX8_layer_8 : decode cX8_layer 8 = .ok (.iload_n 2, 1) := by decide +kernel
theorem dX8_layer_9 : decode cX8_layer 9 = .ok (.invokestatic 121, 3) := by decide +kernel
theorem dX8_layer_12 : decode cX8_layer 12 = .ok (.ifCond .ne 6, 3) := by decide +kernel
theorem dX8_layer_15 : decode cX8_layer 15 = .ok (.bipush (-101), 2) := by decide +kernel
theorem dX8_layer_17 : decode cX8_layer 17 = .ok (.ireturn, 1) := by decide +kernel
theorem dX8_layer_18 : decode cX8_layer 18 = .ok (.iconst 2, 1) := by decide +kernel
theorem dX8_layer_19 : decode cX8_layer 19 = .ok (.iload_n 1, 1) := by decide +kernel
theorem dX8_layer_20 : decode cX8_layer 20 = .ok (.imul, 1) := by decide +kernel
theorem dX8_layer_21 : decode cX8_layer 21 = .ok (.iload_n 2, 1) := by decide +kernel
theorem dX8_layer_22 : decode cX8_layer 22 = .ok (.iadd, 1) := by decide +kernel
theorem dX8_layer_23 : decode cX8_layer 23 = .ok (.istore 5, 2) := by decide +kernel
theorem dX8_layer_25 : decode cX8_layer 25 = .ok (.aload_n 0, 1) := by decide +kernel
theorem dX8_layer_26 : decode cX8_layer 26 = .ok (.getfield 32, 3) := by decide +kernel
theorem dX8_layer_29 : decode cX8_layer 29 = .ok (.iload 5, 2) := by decide +kernel
theorem dX8_layer_31 : decode cX8_layer 31 = .ok (.iaload, 1) := by decide +kernel
theorem dX8_layer_32 : decode cX8_layer 32 = .ok (.ifCond .ne 7, 3) := by decide +kernel
theorem dX8_layer_35 : decode cX8_layer 35 = .ok (.iconst 0, 1) := by decide +kernel
theorem dX8_layer_36 : decode cX8_layer 36 = .ok (.goto 23, 3) := by decide +kernel
theorem dX8_layer_39 : decode cX8_layer 39 = .ok (.aload_n 0, 1) := by decide +kernel
theorem dX8_layer_40 : decode cX8_layer 40 = .ok (.getfield 35, 3) := by decide +kernel
theorem dX8_layer_43 : decode cX8_layer 43 = .ok (.bipush 20, 2) := by decide +kernel
theorem dX8_layer_45 : decode cX8_layer 45 = .ok (.iload 5, 2) := by decide +kernel
theorem dX8_layer_47 : decode cX8_layer 47 = .ok (.imul, 1) := by decide +kernel
theorem dX8_layer_48 : decode cX8_layer 48 = .ok (.aload_n 0, 1) := by decide +kernel
theorem dX8_layer_49 : decode cX8_layer 49 = .ok (.getfield 32, 3) := by decide +kernel
theorem dX8_layer_52 : decode cX8_layer 52 = .ok (.iload 5, 2) := by decide +kernel
theorem dX8_layer_54 : decode cX8_layer 54 = .ok (.iaload, 1) := by decide +kernel
theorem dX8_layer_55 : decode cX8_layer 55 = .ok (.iadd, 1) := by decide +kernel
theorem dX8_layer_56 : decode cX8_layer 56 = .ok (.iconst 1, 1) := by decide +kernel
theorem dX8_layer_57 : decode cX8_layer 57 = .ok (.isub, 1) := by decide +kernel
theorem dX8_layer_58 : decode cX8_layer 58 = .ok (.iaload, 1) := by decide +kernel
theorem dX8_layer_59 : decode cX8_layer 59 = .ok (.istore 6, 2) := by decide +kernel
theorem dX8_layer_61 : decode cX8_layer 61 = .ok (.iload_n 3, 1) := by decide +kernel
theorem dX8_layer_62 : decode cX8_layer 62 = .ok (.iload 6, 2) := by decide +kernel
theorem dX8_layer_64 : decode cX8_layer 64 = .ok (.if_icmp .le 25, 3) := by decide +kernel
theorem dX8_layer_67 : decode cX8_layer 67 = .ok (.iload_n 3, 1) := by decide +kernel
theorem dX8_layer_68 : decode cX8_layer 68 = .ok (.aload_n 0, 1) := by decide +kernel
theorem dX8_layer_69 : decode cX8_layer 69 = .ok (.iload_n 1, 1) := by decide +kernel
theorem dX8_layer_70 : decode cX8_layer 70 = .ok (.invokevirtual 100, 3) := by decide +kernel
theorem dX8_layer_73 : decode cX8_layer 73 = .ok (.if_icmp .gt 16, 3) := by decide +kernel
theorem dX8_layer_76 : decode cX8_layer 76 = .ok (.iload 4, 2) := by decide +kernel
theorem dX8_layer_78 : decode cX8_layer 78 = .ok (.i2l, 1) := by decide +kernel
theorem dX8_layer_79 : decode cX8_layer 79 = .ok (.lconst 0, 1) := by decide +kernel
theorem dX8_layer_80 : decode cX8_layer 80 = .ok (.ldc2_w 124, 3) := by decide +kernel
theorem dX8_layer_83 : decode cX8_layer 83 = .ok (.invokestatic 84, 3) := by decide +kernel
theorem dX8_layer_86 : decode cX8_layer 86 = .ok (.ifCond .ne 6, 3) := by decide +kernel
theorem dX8_layer_89 : decode cX8_layer 89 = .ok (.bipush (-102), 2) := by decide +kernel
theorem dX8_layer_91 : decode cX8_layer 91 = .ok (.ireturn, 1) := by decide +kernel
theorem dX8_layer_92 : decode cX8_layer 92 = .ok (.aload_n 0, 1) := by decide +kernel
theorem dX8_layer_93 : decode cX8_layer 93 = .ok (.getfield 32, 3) := by decide +kernel
theorem dX8_layer_96 : decode cX8_layer 96 = .ok (.iload 5, 2) := by decide +kernel
theorem dX8_layer_98 : decode cX8_layer 98 = .ok (.iaload, 1) := by decide +kernel
theorem dX8_layer_99 : decode cX8_layer 99 = .ok (.bipush 20, 2) := by decide +kernel
theorem dX8_layer_101 : decode cX8_layer 101 = .ok (.if_icmp .ne 6, 3) := by decide +kernel
theorem dX8_layer_104 : decode cX8_layer 104 = .ok (.bipush (-104), 2) := by decide +kernel
theorem dX8_layer_106 : decode cX8_layer 106 = .ok (.ireturn, 1) := by decide +kernel
theorem dX8_layer_107 : decode cX8_layer 107 = .ok (.aload_n 0, 1) := by decide +kernel
theorem dX8_layer_108 : decode cX8_layer 108 = .ok (.getfield 35, 3) := by decide +kernel
theorem dX8_layer_111 : decode cX8_layer 111 = .ok (.bipush 20, 2) := by decide +kernel
theorem dX8_layer_113 : decode cX8_layer 113 = .ok (.iload 5, 2) := by decide +kernel
theorem dX8_layer_115 : decode cX8_layer 115 = .ok (.imul, 1) := by decide +kernel
theorem dX8_layer_116 : decode cX8_layer 116 = .ok (.aload_n 0, 1) := by decide +kernel
theorem dX8_layer_117 : decode cX8_layer 117 = .ok (.getfield 32, 3) := by decide +kernel
theorem dX8_layer_120 : decode cX8_layer 120 = .ok (.iload 5, 2) := by decide +kernel
theorem dX8_layer_122 : decode cX8_layer 122 = .ok (.iaload, 1) := by decide +kernel
theorem dX8_layer_123 : decode cX8_layer 123 = .ok (.iadd, 1) := by decide +kernel
theorem dX8_layer_124 : decode cX8_layer 124 = .ok (.iload_n 3, 1) := by decide +kernel
theorem dX8_layer_125 : decode cX8_layer 125 = .ok (.iastore, 1) := by decide +kernel
theorem dX8_layer_126 : decode cX8_layer 126 = .ok (.aload_n 0, 1) := by decide +kernel
theorem dX8_layer_127 : decode cX8_layer 127 = .ok (.getfield 38, 3) := by decide +kernel
theorem dX8_layer_130 : decode cX8_layer 130 = .ok (.bipush 20, 2) := by decide +kernel
theorem dX8_layer_132 : decode cX8_layer 132 = .ok (.iload 5, 2) := by decide +kernel
theorem dX8_layer_134 : decode cX8_layer 134 = .ok (.imul, 1) := by decide +kernel
theorem dX8_layer_135 : decode cX8_layer 135 = .ok (.aload_n 0, 1) := by decide +kernel
theorem dX8_layer_136 : decode cX8_layer 136 = .ok (.getfield 32, 3) := by decide +kernel
theorem dX8_layer_139 : decode cX8_layer 139 = .ok (.iload 5, 2) := by decide +kernel
theorem dX8_layer_141 : decode cX8_layer 141 = .ok (.iaload, 1) := by decide +kernel
theorem dX8_layer_142 : decode cX8_layer 142 = .ok (.iadd, 1) := by decide +kernel
theorem dX8_layer_143 : decode cX8_layer 143 = .ok (.iload 4, 2) := by decide +kernel
theorem dX8_layer_145 : decode cX8_layer 145 = .ok (.iastore, 1) := by decide +kernel
theorem dX8_layer_146 : decode cX8_layer 146 = .ok (.aload_n 0, 1) := by decide +kernel
theorem dX8_layer_147 : decode cX8_layer 147 = .ok (.getfield 32, 3) := by decide +kernel
theorem dX8_layer_150 : decode cX8_layer 150 = .ok (.iload 5, 2) := by decide +kernel
theorem dX8_layer_152 : decode cX8_layer 152 = .ok (.dup2, 1) := by decide +kernel
theorem dX8_layer_153 : decode cX8_layer 153 = .ok (.iaload, 1) := by decide +kernel
theorem dX8_layer_154 : decode cX8_layer 154 = .ok (.iconst 1, 1) := by decide +kernel
theorem dX8_layer_155 : decode cX8_layer 155 = .ok (.iadd, 1) := by decide +kernel
theorem dX8_layer_156 : decode cX8_layer 156 = .ok (.iastore, 1) := by decide +kernel
theorem dX8_layer_157 : decode cX8_layer 157 = .ok (.aload_n 0, 1) := by decide +kernel
theorem dX8_layer_158 : decode cX8_layer 158 = .ok (.getfield 32, 3) := by decide +kernel
theorem dX8_layer_161 : decode cX8_layer 161 = .ok (.iload 5, 2) := by decide +kernel
theorem dX8_layer_163 : decode cX8_layer 163 = .ok (.iaload, 1) := by decide +kernel
theorem dX8_layer_164 : decode cX8_layer 164 = .ok (.ireturn, 1) := by decide +kernel
set_option maxRecDepth 20000 in
theorem ggX8_code_X8_in : GoodIn wsX8_code wsX8_in := goodIn_r _ [6] (by decide +kernel) (by decide +kernel)
set_option maxRecDepth 20000 in
theorem gX8_code_X8_in : GoodIn wsX8_code (va_wsS RX8 84 yX8_in wsX8_in) := goodIn_app (goodIn_of _ (by decide +kernel)) ggX8_code_X8_in
theorem dX8_code_0 : decode cX8_code 0 = .ok (.iload_n 1, 1) := by decide +kernel
theorem dX8_code_1 : decode cX8_code 1 = .ok (.i2l, 1) := by decide +kernel
theorem dX8_code_2 : decode cX8_code 2 = .ok (.lconst 0, 1) := by decide +kernel
theorem dX8_code_3 : decode cX8_code 3 = .ok (.ldc2_w 124, 3) := by decide +kernel
theorem dX8_code_6 : decode cX8_code 6 = .ok (.invokestatic 84, 3) := by decide +kernel
theorem dX8_code_9 : decode cX8_code 9 = .ok (.ifCond .ne 6, 3) := by decide +kernel
theorem dX8_code_12 : decode cX8_code 12 = .ok (.bipush (-101), 2) := by decide +kernel
theorem dX8_code_14 : decode cX8_code 14 = .ok (.ireturn, 1) := by decide +kernel
theorem dX8_code_15 : decode cX8_code 15 = .ok (.iload_n 2, 1) := by decide +kernel
theorem dX8_code_16 : decode cX8_code 16 = .ok (.i2l, 1) := by decide +kernel
theorem dX8_code_17 : decode cX8_code 17 = .ok (.lconst 0, 1) := by decide +kernel
theorem dX8_code_18 : decode cX8_code 18 = .ok (.ldc2_w 124, 3) := by decide +kernel
theorem dX8_code_21 : decode cX8_code 21 = .ok (.invokestatic 84, 3) := by decide +kernel
theorem dX8_code_24 : decode cX8_code 24 = .ok (.ifCond .ne 6, 3) := by decide +kernel
theorem dX8_code_27 : decode cX8_code 27 = .ok (.bipush (-102), 2) := by decide +kernel
theorem dX8_code_29 : decode cX8_code 29 = .ok (.ireturn, 1) := by decide +kernel
theorem dX8_code_30 : decode cX8_code 30 = .ok (.aload_n 0, 1) := by decide +kernel
theorem dX8_code_31 : decode cX8_code 31 = .ok (.getfield 41, 3) := by decide +kernel
theorem dX8_code_34 : decode cX8_code 34 = .ok (.iload_n 1, 1) := by decide +kernel
theorem dX8_code_35 : decode cX8_code 35 = .ok (.iaload, 1) := by decide +kernel
theorem dX8_code_36 : decode cX8_code 36 = .ok (.istore_n 3, 1) := by decide +kernel
theorem dX8_code_37 : decode cX8_code 37 = .ok (.aload_n 0, 1) := by decide +kernel
theorem dX8_code_38 : decode cX8_code 38 = .ok (.getfield 41, 3) := by decide +kernel
theorem dX8_code_41 : decode cX8_code 41 = .ok (.iload_n 1, 1) := by decide +kernel
theorem dX8_code_42 : decode cX8_code 42 = .ok (.iload_n 2, 1) := by decide +kernel
theorem dX8_code_43 : decode cX8_code 43 = .ok (.iastore, 1) := by decide +kernel
theorem dX8_code_44 : decode cX8_code 44 = .ok (.iload_n 3, 1) := by decide +kernel
theorem dX8_code_45 : decode cX8_code 45 = .ok (.ireturn, 1) := by decide +kernel
theorem dX8_codeOf_0 : decode cX8_codeOf 0 = .ok (.aload_n 0, 1) := by decide +kernel
theorem dX8_codeOf_1 : decode cX8_codeOf 1 = .ok (.getfield 41, 3) := by decide +kernel
theorem dX8_codeOf_4 : decode cX8_codeOf 4 = .ok (.aload_n 0, 1) := by decide +kernel
theorem dX8_codeOf_5 : decode cX8_codeOf 5 = .ok (.getfield 38, 3) := by decide +kernel
theorem dX8_codeOf_8 : decode cX8_codeOf 8 = .ok (.bipush 20, 2) := by decide +kernel
theorem dX8_codeOf_10 : decode cX8_codeOf 10 = .ok (.iload_n 1, 1) := by decide +kernel
theorem dX8_codeOf_11 : decode cX8_codeOf 11 = .ok (.imul, 1) := by decide +kernel
theorem dX8_codeOf_12 : decode cX8_codeOf 12 = .ok (.iload_n 2, 1) := by decide +kernel
theorem dX8_codeOf_13 : decode cX8_codeOf 13 = .ok (.iadd, 1) := by decide +kernel
theorem dX8_codeOf_14 : decode cX8_codeOf 14 = .ok (.iaload, 1) := by decide +kernel
theorem dX8_codeOf_15 : decode cX8_codeOf 15 = .ok (.iaload, 1) := by decide +kernel
theorem dX8_codeOf_16 : decode cX8_codeOf 16 = .ok (.ireturn, 1) := by decide +kernel
theorem dX8_fromOf_0 : decode cX8_fromOf 0 = .ok (.iload_n 2, 1) := by decide +kernel
theorem dX8_fromOf_1 : decode cX8_fromOf 1 = .ok (.ifCond .ne 7, 3) := by decide +kernel
theorem dX8_fromOf_4 : decode cX8_fromOf 4 = .ok (.iconst 0, 1) := by decide +kernel
theorem dX8_fromOf_5 : decode cX8_fromOf 5 = .ok (.goto 16, 3) := by decide +kernel
theorem dX8_fromOf_8 : decode cX8_fromOf 8 = .ok (.aload_n 0, 1) := by decide +kernel
theorem dX8_fromOf_9 : decode cX8_fromOf 9 = .ok (.getfield 35, 3) := by decide +kernel
theorem dX8_fromOf_12 : decode cX8_fromOf 12 = .ok (.bipush 20, 2) := by decide +kernel
theorem dX8_fromOf_14 : decode cX8_fromOf 14 = .ok (.iload_n 1, 1) := by decide +kernel
theorem dX8_fromOf_15 : decode cX8_fromOf 15 = .ok (.imul, 1) := by decide +kernel
theorem dX8_fromOf_16 : decode cX8_fromOf 16 = .ok (.iload_n 2, 1) := by decide +kernel
theorem dX8_fromOf_17 : decode cX8_fromOf 17 = .ok (.iadd, 1) := by decide +kernel
theorem dX8_fromOf_18 : decode cX8_fromOf 18 = .ok (.iconst 1, 1) := by decide +kernel
theorem dX8_fromOf_19 : decode cX8_fromOf 19 = .ok (.isub, 1) := by decide +kernel
theorem dX8_fromOf_20 : decode cX8_fromOf 20 = .ok (.iaload, 1) := by decide +kernel
theorem dX8_fromOf_21 : decode cX8_fromOf 21 = .ok (.ireturn, 1) := by decide +kernel
set_option maxRecDepth 20000 in
theorem ggX8_thick_X8_fromOf : GoodIn wsX8_thick wsX8_fromOf := goodIn_r _ [6, 1, 7, 8, 9, 10, 11, 12, 13, 14, 15, 16, 17, 18, 19, 20, 21, 22, 23, 24, 25, 26, 27, 28, 29, 30, 31, 32, 33] (by decide +kernel) (by decide +kernel)
set_option maxRecDepth 20000 in
theorem gX8_thick_X8_fromOf : GoodIn wsX8_thick (wsV RX8 126 RX8 yX8_fromOf wsX8_fromOf) := goodIn_app (goodIn_of _ (by decide +kernel)) ggX8_thick_X8_fromOf
theorem dX8_thick_0 : decode cX8_thick 0 = .ok (.aload_n 0, 1) := by decide +kernel
theorem dX8_thick_1 : decode cX8_thick 1 = .ok (.getfield 35, 3) := by decide +kernel
theorem dX8_thick_4 : decode cX8_thick 4 = .ok (.bipush 20, 2) := by decide +kernel
theorem dX8_thick_6 : decode cX8_thick 6 = .ok (.iload_n 1, 1) := by decide +kernel
theorem dX8_thick_7 : decode cX8_thick 7 = .ok (.imul, 1) := by decide +kernel
theorem dX8_thick_8 : decode cX8_thick 8 = .ok (.iload_n 2, 1) := by decide +kernel
theorem dX8_thick_9 : decode cX8_thick 9 = .ok (.iadd, 1) := by decide +kernel
theorem dX8_thick_10 : decode cX8_thick 10 = .ok (.iaload, 1) := by decide +kernel
theorem dX8_thick_11 : decode cX8_thick 11 = .ok (.aload_n 0, 1) := by decide +kernel
theorem dX8_thick_12 : decode cX8_thick 12 = .ok (.iload_n 1, 1) := by decide +kernel
theorem dX8_thick_13 : decode cX8_thick 13 = .ok (.iload_n 2, 1) := by decide +kernel
theorem dX8_thick_14 : decode cX8_thick 14 = .ok (.invokevirtual 126, 3) := by decide +kernel
theorem dX8_thick_17 : decode cX8_thick 17 = .ok (.isub, 1) := by decide +kernel
theorem dX8_thick_18 : decode cX8_thick 18 = .ok (.ireturn, 1) := by decide +kernel
set_option maxRecDepth 20000 in
theorem ggX8_rock_X8_isHole : GoodIn wsX8_rock wsX8_isHole := goodIn_r _ [7, 8, 9, 10, 6, 11, 25, 26, 27, 28, 29, 30, 31, 32, 33, 34, 35, 36, 37, 38, 39, 40, 41, 42, 43, 44, 45, 46, 47, 48, 49, 50, 51] (by decide +kernel) (by decide +kernel)
set_option maxRecDepth 20000 in
theorem gX8_rock_X8_isHole : GoodIn wsX8_rock (wsV RX8 91 RX8 yX8_isHole wsX8_isHole) := goodIn_app (goodIn_of _ (by decide +kernel)) ggX8_rock_X8_isHole
set_option maxRecDepth 20000 in
theorem ggX8_rock_X8_isLog : GoodIn wsX8_rock wsX8_isLog := goodIn_r _ [14, 9, 10, 6, 11] (by decide +kernel) (by decide +kernel)
set_option maxRecDepth 20000 in
theorem gX8_rock_X8_isLog : GoodIn wsX8_rock (va_wsS RX8 121 yX8_isLog wsX8_isLog) := goodIn_app (goodIn_of _ (by decide +kernel)) ggX8_rock_X8_isLog
set_option maxRecDepth 20000 in
theorem ggX8_rock_X8_fromOf : GoodIn wsX8_rock wsX8_fromOf := goodIn_r _ [18, 2, 25, 26, 27, 28, 29, 30, 31, 32, 33, 34, 35, 36, 37, 38, 39, 40, 41, 42, 43, 44, 45, 46, 47, 48, 49, 50, 51] (by decide +kernel) (by decide +kernel)
set_option maxRecDepth 20000 in
theorem gX8_rock_X8_fromOf : GoodIn wsX8_rock (wsV RX8 126 RX8 yX8_fromOf wsX8_fromOf) := goodIn_app (goodIn_of _ (by decide +kernel)) ggX8_rock_X8_fromOf
set_option maxRecDepth 20000 in
theorem ggX8_rock_X8_codeOf : GoodIn wsX8_rock wsX8_codeOf := goodIn_r _ [22, 23, 24, 25, 26, 27, 28, 29, 30, 31, 32, 33, 34, 35, 36, 37, 38, 39, 40, 41, 42, 43, 44, 45, 46, 47, 48, 49, 50, 51] (by decide +kernel) (by decide +kernel)
set_option maxRecDepth 20000 in
theorem gX8_rock_X8_codeOf : GoodIn wsX8_rock (wsV RX8 130 RX8 yX8_codeOf wsX8_codeOf) := goodIn_app (goodIn_of _ (by decide +kernel)) ggX8_rock_X8_codeOf
theorem dX8_rock_0 : decode cX8_rock 0 = .ok (.aload_n 0, 1) := by decide +kernel
theorem dX8_rock_1 : decode cX8_rock 1 = .ok (.iload_n 1, 1) := by decide +kernel
theorem dX8_rock_2 : decode cX8_rock 2 = .ok (.invokevirtual 91, 3) := by decide +kernel
theorem dX8_rock_5 : decode cX8_rock 5 = .ok (.ifCond .eq 10, 3) := by decide +kernel
theorem dX8_rock_8 : decode cX8_rock 8 = .ok (.iload_n 2, 1) := by decide +kernel
theorem dX8_rock_9 : decode cX8_rock 9 = .ok (.invokestatic 121, 3) := by decide +kernel
theorem dX8_rock_12 : decode cX8_rock 12 = .ok (.ifCond .ne 6, 3) := by decide +kernel
theorem dX8_rock_15 : decode cX8_rock 15 = .ok (.bipush (-101), 2) := by decide +kernel
theorem dX8_rock_17 : decode cX8_rock 17 = .ok (.ireturn, 1) := by decide +kernel
theorem dX8_rock_18 : decode cX8_rock 18 = .ok (.iconst 2, 1) := by decide +kernel
theorem dX8_rock_19 : decode cX8_rock 19 = .ok (.iload_n 1, 1) := by decide +kernel
theorem dX8_rock_20 : decode cX8_rock 20 = .ok (.imul, 1) := by decide +kernel
theorem dX8_rock_21 : decode cX8_rock 21 = .ok (.iload_n 2, 1) := by decide +kernel
theorem dX8_rock_22 : decode cX8_rock 22 = .ok (.iadd, 1) := by decide +kernel
theorem dX8_rock_23 : decode cX8_rock 23 = .ok (.istore 4, 2) := by decide +kernel
theorem dX8_rock_25 : decode cX8_rock 25 = .ok (.iconst 0, 1) := by decide +kernel
theorem dX8_rock_26 : decode cX8_rock 26 = .ok (.istore 5, 2) := by decide +kernel
theorem dX8_rock_28 : decode cX8_rock 28 = .ok (.iload 5, 2) := by decide +kernel
theorem dX8_rock_30 : decode cX8_rock 30 = .ok (.aload_n 0, 1) := by decide +kernel
theorem dX8_rock_31 : decode cX8_rock 31 = .ok (.getfield 32, 3) := by decide +kernel
theorem dX8_rock_34 : decode cX8_rock 34 = .ok (.iload 4, 2) := by decide +kernel
theorem dX8_rock_36 : decode cX8_rock 36 = .ok (.iaload, 1) := by decide +kernel
theorem dX8_rock_37 : decode cX8_rock 37 = .ok (.if_icmp .ge 47, 3) := by decide +kernel
theorem dX8_rock_40 : decode cX8_rock 40 = .ok (.iload_n 3, 1) := by decide +kernel
theorem dX8_rock_41 : decode cX8_rock 41 = .ok (.aload_n 0, 1) := by decide +kernel
theorem dX8_rock_42 : decode cX8_rock 42 = .ok (.iload 4, 2) := by decide +kernel
theorem dX8_rock_44 : decode cX8_rock 44 = .ok (.iload 5, 2) := by decide +kernel
theorem dX8_rock_46 : decode cX8_rock 46 = .ok (.invokevirtual 126, 3) := by decide +kernel
theorem dX8_rock_49 : decode cX8_rock 49 = .ok (.if_icmp .lt 29, 3) := by decide +kernel
theorem dX8_rock_52 : decode cX8_rock 52 = .ok (.iload_n 3, 1) := by decide +kernel
theorem dX8_rock_53 : decode cX8_rock 53 = .ok (.aload_n 0, 1) := by decide +kernel
theorem dX8_rock_54 : decode cX8_rock 54 = .ok (.getfield 35, 3) := by decide +kernel
theorem dX8_rock_57 : decode cX8_rock 57 = .ok (.bipush 20, 2) := by decide +kernel
theorem dX8_rock_59 : decode cX8_rock 59 = .ok (.iload 4, 2) := by decide +kernel
theorem dX8_rock_61 : decode cX8_rock 61 = .ok (.imul, 1) := by decide +kernel
theorem dX8_rock_62 : decode cX8_rock 62 = .ok (.iload 5, 2) := by decide +kernel
theorem dX8_rock_64 : decode cX8_rock 64 = .ok (.iadd, 1) := by decide +kernel
theorem dX8_rock_65 : decode cX8_rock 65 = .ok (.iaload, 1) := by decide +kernel
theorem dX8_rock_66 : decode cX8_rock 66 = .ok (.if_icmp .ge 12, 3) := by decide +kernel
theorem dX8_rock_69 : decode cX8_rock 69 = .ok (.aload_n 0, 1) := by decide +kernel
theorem dX8_rock_70 : decode cX8_rock 70 = .ok (.iload 4, 2) := by decide +kernel
theorem dX8_rock_72 : decode cX8_rock 72 = .ok (.iload 5, 2) := by decide +kernel
theorem dX8_rock_74 : decode cX8_rock 74 = .ok (.invokevirtual 130, 3) := by decide +kernel
theorem dX8_rock_77 : decode cX8_rock 77 = .ok (.ireturn, 1) := by decide +kernel
theorem dX8_rock_78 : decode cX8_rock 78 = .ok (.iinc 5 1, 3) := by decide +kernel
theorem dX8_rock_81 : decode cX8_rock 81 = .ok (.goto (-53), 3) := by decide +kernel
theorem dX8_rock_84 : decode cX8_rock 84 = .ok (.iconst (-1), 1) := by decide +kernel
theorem dX8_rock_85 : decode cX8_rock 85 = .ok (.ireturn, 1) := by decide +kernel
set_option maxRecDepth 20000 in
theorem ggX8_agree_X8_isHole : GoodIn wsX8_agree wsX8_isHole := goodIn_r _ [7, 8, 9, 10, 6, 11, 25, 26, 27, 28, 29, 30, 31, 32, 33, 34, 35, 36, 37, 38, 39, 40, 41, 42, 43, 44, 45, 46, 47, 48, 49, 50, 51] (by decide +kernel) (by decide +kernel)
set_option maxRecDepth 20000 in
theorem gX8_agree_X8_isHole : GoodIn wsX8_agree (wsV RX8 91 RX8 yX8_isHole wsX8_isHole) := goodIn_app (goodIn_of _ (by decide +kernel)) ggX8_agree_X8_isHole
set_option maxRecDepth 20000 in
theorem ggX8_agree_X8_codeOf : GoodIn wsX8_agree wsX8_codeOf := goodIn_r _ [15, 16, 17, 25, 26, 27, 28, 29, 30, 31, 32, 33, 34, 35, 36, 37, 38, 39, 40, 41, 42, 43, 44, 45, 46, 47, 48, 49, 50, 51] (by decide +kernel) (by decide +kernel)
set_option maxRecDepth 20000 in
theorem gX8_agree_X8_codeOf : GoodIn wsX8_agree (wsV RX8 130 RX8 yX8_codeOf wsX8_codeOf) := goodIn_app (goodIn_of _ (by decide +kernel)) ggX8_agree_X8_codeOf
set_option maxRecDepth 20000 in
theorem ggX8_agree_X8_fromOf : GoodIn wsX8_agree wsX8_fromOf := goodIn_r _ [21, 2, 25, 26, 27, 28, 29, 30, 31, 32, 33, 34, 35, 36, 37, 38, 39, 40, 41, 42, 43, 44, 45, 46, 47, 48, 49, 50, 51] (by decide +kernel) (by decide +kernel)
set_option maxRecDepth 20000 in
theorem gX8_agree_X8_fromOf : GoodIn wsX8_agree (wsV RX8 126 RX8 yX8_fromOf wsX8_fromOf) := goodIn_app (goodIn_of _ (by decide +kernel)) ggX8_agree_X8_fromOf
set_option maxRecDepth 20000 in
theorem ggX8_agree_X8_common : GoodIn wsX8_agree wsX8_common := goodIn_r _ [24] (by decide +kernel) (by decide +kernel)
set_option maxRecDepth 20000 in
theorem gX8_agree_X8_common : GoodIn wsX8_agree (va_wsS RX8 104 yX8_common wsX8_common) := goodIn_app (goodIn_of _ (by decide +kernel)) ggX8_agree_X8_common
theorem dX8_agree_0 : decode cX8_agree 0 = .ok (.aload_n 0, 1) := by decide +kernel
theorem dX8_agree_1 : decode cX8_agree 1 = .ok (.iload_n 1, 1) := by decide +kernel
theorem dX8_agree_2 : decode cX8_agree 2 = .ok (.invokevirtual 91, 3) := by decide +kernel
theorem dX8_agree_5 : decode cX8_agree 5 = .ok (.ifCond .ne 6, 3) := by decide +kernel
theorem dX8_agree_8 : decode cX8_agree 8 = .ok (.bipush (-101), 2) := by decide +kernel
theorem dX8_agree_10 : decode cX8_agree 10 = .ok (.ireturn, 1) := by decide +kernel
theorem dX8_agree_11 : decode cX8_agree 11 = .ok (.iconst 0, 1) := by decide +kernel
theorem dX8_agree_12 : decode cX8_agree 12 = .ok (.istore_n 2, 1) := by decide +kernel
theorem dX8_agree_13 : decode cX8_agree 13 = .ok (.iconst 0, 1) := by decide +kernel
theorem dX8_agree_14 : decode cX8_agree 14 = .ok (.istore_n 3, 1) := by decide +kernel
theorem dX8_agree_15 : decode cX8_agree 15 = .ok (.iload_n 3, 1) := by decide +kernel
theorem dX8_agree_16 : decode cX8_agree 16 = .ok (.aload_n 0, 1) := by decide +kernel
theorem dX8_agree_17 : decode cX8_agree 17 = .ok (.getfield 32, 3) := by decide +kernel
theorem dX8_agree_20 : decode cX8_agree 20 = .ok (.iconst 2, 1) := by decide +kernel
theorem dX8_agree_21 : decode cX8_agree 21 = .ok (.iload_n 1, 1) := by decide +kernel
theorem dX8_agree_22 : decode cX8_agree 22 = .ok (.imul, 1) := by decide +kernel
theorem dX8_agree_23 : decode cX8_agree 23 = .ok (.iaload, 1) := by decide +kernel
theorem dX8_agree_24 : decode cX8_agree 24 = .ok (.if_icmp .ge 106, 3) := by decide +kernel
theorem dX8_agree_27 : decode cX8_agree 27 = .ok (.iconst 0, 1) := by decide +kernel
theorem dX8_agree_28 : decode cX8_agree 28 = .ok (.istore 4, 2) := by decide +kernel
theorem dX8_agree_30 : decode cX8_agree 30 = .ok (.iload 4, 2) := by decide +kernel
theorem dX8_agree_32 : decode cX8_agree 32 = .ok (.aload_n 0, 1) := by decide +kernel
theorem dX8_agree_33 : decode cX8_agree 33 = .ok (.getfield 32, 3) := by decide +kernel
theorem dX8_agree_36 : decode cX8_agree 36 = .ok (.iconst 2, 1) := by decide +kernel
theorem dX8_agree_37 : decode cX8_agree 37 = .ok (.iload_n 1, 1) := by decide +kernel
theorem dX8_agree_38 : decode cX8_agree 38 = .ok (.imul, 1) := by decide +kernel
theorem dX8_agree_39 : decode cX8_agree 39 = .ok (.iconst 1, 1) := by decide +kernel
theorem dX8_agree_40 : decode cX8_agree 40 = .ok (.iadd, 1) := by decide +kernel
theorem dX8_agree_41 : decode cX8_agree 41 = .ok (.iaload, 1) := by decide +kernel
theorem dX8_agree_42 : decode cX8_agree 42 = .ok (.if_icmp .ge 82, 3) := by decide +kernel
theorem dX8_agree_45 : decode cX8_agree 45 = .ok (.aload_n 0, 1) := by decide +kernel
theorem dX8_agree_46 : decode cX8_agree 46 = .ok (.iconst 2, 1) := by decide +kernel
theorem dX8_agree_47 : decode cX8_agree 47 = .ok (.iload_n 1, 1) := by decide +kernel
theorem dX8_agree_48 : decode cX8_agree 48 = .ok (.imul, 1) := by decide +kernel
theorem dX8_agree_49 : decode cX8_agree 49 = .ok (.iload_n 3, 1) := by decide +kernel
theorem dX8_agree_50 : decode cX8_agree 50 = .ok (.invokevirtual 130, 3) := by decide +kernel
theorem dX8_agree_53 : decode cX8_agree 53 = .ok (.aload_n 0, 1) := by decide +kernel
theorem dX8_agree_54 : decode cX8_agree 54 = .ok (.iconst 2, 1) := by decide +kernel
theorem dX8_agree_55 : decode cX8_agree 55 = .ok (.iload_n 1, 1) := by decide +kernel
theorem dX8_agree_56 : decode cX8_agree 56 = .ok (.imul, 1) := by decide +kernel
theorem dX8_agree_57 : decode cX8_agree 57 = .ok (.iconst 1, 1) := by decide +kernel
theorem dX8_agree_58 : decode cX8_agree 58 = .ok (.iadd, 1) := by decide +kernel
theorem dX8_agree_59 : decode cX8_agree 59 = .ok (.iload 4, 2) := by decide +kernel
theorem dX8_agree_61 : decode cX8_agree 61 = .ok (.invokevirtual 130, 3) := by decide +kernel
theorem dX8_agree_64 : decode cX8_agree 64 = .ok (.if_icmp .ne 54, 3) := by decide +kernel
theorem dX8_agree_67 : decode cX8_agree 67 = .ok (.iload_n 2, 1) := by decide +kernel
theorem dX8_agree_68 : decode cX8_agree 68 = .ok (.aload_n 0, 1) := by decide +kernel
theorem dX8_agree_69 : decode cX8_agree 69 = .ok (.iconst 2, 1) := by decide +kernel
theorem dX8_agree_70 : decode cX8_agree 70 = .ok (.iload_n 1, 1) := by decide +kernel
theorem dX8_agree_71 : decode cX8_agree 71 = .ok (.imul, 1) := by decide +kernel
theorem dX8_agree_72 : decode cX8_agree 72 = .ok (.iload_n 3, 1) := by decide +kernel
theorem dX8_agree_73 : decode cX8_agree 73 = .ok (.invokevirtual 126, 3) := by decide +kernel
theorem dX8_agree_76 : decode cX8_agree 76 = .ok (.aload_n 0, 1) := by decide +kernel
theorem dX8_agree_77 : decode cX8_agree 77 = .ok (.getfield 35, 3) := by decide +kernel
theorem dX8_agree_80 : decode cX8_agree 80 = .ok (.bipush 40, 2) := by decide +kernel
theorem dX8_agree_82 : decode cX8_agree 82 = .ok (.iload_n 1, 1) := by decide +kernel
theorem dX8_agree_83 : decode cX8_agree 83 = .ok (.imul, 1) := by decide +kernel
theorem dX8_agree_84 : decode cX8_agree 84 = .ok (.iload_n 3, 1) := by decide +kernel
theorem dX8_agree_85 : decode cX8_agree 85 = .ok (.iadd, 1) := by decide +kernel
theorem dX8_agree_86 : decode cX8_agree 86 = .ok (.iaload, 1) := by decide +kernel
theorem dX8_agree_87 : decode cX8_agree 87 = .ok (.aload_n 0, 1) := by decide +kernel
theorem dX8_agree_88 : decode cX8_agree 88 = .ok (.iconst 2, 1) := by decide +kernel
theorem dX8_agree_89 : decode cX8_agree 89 = .ok (.iload_n 1, 1) := by decide +kernel
theorem dX8_agree_90 : decode cX8_agree 90 = .ok (.imul, 1) := by decide +kernel
theorem dX8_agree_91 : decode cX8_agree 91 = .ok (.iconst 1, 1) := by decide +kernel
theorem dX8_agree_92 : decode cX8_agree 92 = .ok (.iadd, 1) := by decide +kernel
theorem dX8_agree_93 : decode cX8_agree 93 = .ok (.iload 4, 2) := by decide +kernel
theorem dX8_agree_95 : decode cX8_agree 95 = .ok (.invokevirtual 126, 3) := by decide +kernel
theorem dX8_agree_98 : decode cX8_agree 98 = .ok (.aload_n 0, 1) := by decide +kernel
theorem dX8_agree_99 : decode cX8_agree 99 = .ok (.getfield 35, 3) := by decide +kernel
theorem dX8_agree_102 : decode cX8_agree 102 = .ok (.bipush 40, 2) := by decide +kernel
theorem dX8_agree_104 : decode cX8_agree 104 = .ok (.iload_n 1, 1) := by decide +kernel
theorem dX8_agree_105 : decode cX8_agree 105 = .ok (.imul, 1) := by decide +kernel
theorem dX8_agree_106 : decode cX8_agree 106 = .ok (.bipush 20, 2) := by decide +kernel
theorem dX8_agree_108 : decode cX8_agree 108 = .ok (.iadd, 1) := by decide +kernel
theorem dX8_agree_109 : decode cX8_agree 109 = .ok (.iload 4, 2) := by decide +kernel
theorem dX8_agree_111 : decode cX8_agree 111 = .ok (.iadd, 1) := by decide +kernel
theorem dX8_agree_112 : decode cX8_agree 112 = .ok (.iaload, 1) := by decide +kernel
theorem dX8_agree_113 : decode cX8_agree 113 = .ok (.invokestatic 104, 3) := by decide +kernel
theorem dX8_agree_116 : decode cX8_agree 116 = .ok (.iadd, 1) := by decide +kernel
theorem dX8_agree_117 : decode cX8_agree 117 = .ok (.istore_n 2, 1) := by decide +kernel
theorem dX8_agree_118 : decode cX8_agree 118 = .ok (.iinc 4 1, 3) := by decide +kernel
theorem dX8_agree_121 : decode cX8_agree 121 = .ok (.goto (-91), 3) := by decide +kernel
theorem dX8_agree_124 : decode cX8_agree 124 = .ok (.iinc 3 1, 3) := by decide +kernel
theorem dX8_agree_127 : decode cX8_agree 127 = .ok (.goto (-112), 3) := by decide +kernel
theorem dX8_agree_130 : decode cX8_agree 130 = .ok (.iload_n 2, 1) := by decide +kernel
theorem dX8_agree_131 : decode cX8_agree 131 = .ok (.ireturn, 1) := by decide +kernel
set_option maxRecDepth 20000 in
theorem ggX8_isSample_X8_in : GoodIn wsX8_isSample wsX8_in := goodIn_r _ [5] (by decide +kernel) (by decide +kernel)
set_option maxRecDepth 20000 in
theorem gX8_isSample_X8_in : GoodIn wsX8_isSample (va_wsS RX8 84 yX8_in wsX8_in) := goodIn_app (goodIn_of _ (by decide +kernel)) ggX8_isSample_X8_in
theorem dX8_isSample_0 : decode cX8_isSample 0 = .ok (.iload_n 1, 1) := by decide +kernel
theorem dX8_isSample_1 : decode cX8_isSample 1 = .ok (.i2l, 1) := by decide +kernel
theorem dX8_isSample_2 : decode cX8_isSample 2 = .ok (.lconst 0, 1) := by decide +kernel
theorem dX8_isSample_3 : decode cX8_isSample 3 = .ok (.aload_n 0, 1) := by decide +kernel
theorem dX8_isSample_4 : decode cX8_isSample 4 = .ok (.getfield 88, 3) := by decide +kernel
theorem dX8_isSample_7 : decode cX8_isSample 7 = .ok (.iconst 1, 1) := by decide +kernel
theorem dX8_isSample_8 : decode cX8_isSample 8 = .ok (.isub, 1) := by decide +kernel
theorem dX8_isSample_9 : decode cX8_isSample 9 = .ok (.i2l, 1) := by decide +kernel
theorem dX8_isSample_10 : decode cX8_isSample 10 = .ok (.invokestatic 84, 3) := by decide +kernel
theorem dX8_isSample_13 : decode cX8_isSample 13 = .ok (.ireturn, 1) := by decide +kernel
set_option maxRecDepth 20000 in
theorem ggX8_isBatch_X8_in : GoodIn wsX8_isBatch wsX8_in := goodIn_r _ [5] (by decide +kernel) (by decide +kernel)
set_option maxRecDepth 20000 in
theorem gX8_isBatch_X8_in : GoodIn wsX8_isBatch (va_wsS RX8 84 yX8_in wsX8_in) := goodIn_app (goodIn_of _ (by decide +kernel)) ggX8_isBatch_X8_in
theorem dX8_isBatch_0 : decode cX8_isBatch 0 = .ok (.iload_n 1, 1) := by decide +kernel
theorem dX8_isBatch_1 : decode cX8_isBatch 1 = .ok (.i2l, 1) := by decide +kernel
theorem dX8_isBatch_2 : decode cX8_isBatch 2 = .ok (.lconst 0, 1) := by decide +kernel
theorem dX8_isBatch_3 : decode cX8_isBatch 3 = .ok (.aload_n 0, 1) := by decide +kernel
theorem dX8_isBatch_4 : decode cX8_isBatch 4 = .ok (.getfield 133, 3) := by decide +kernel
theorem dX8_isBatch_7 : decode cX8_isBatch 7 = .ok (.iconst 1, 1) := by decide +kernel
theorem dX8_isBatch_8 : decode cX8_isBatch 8 = .ok (.isub, 1) := by decide +kernel
theorem dX8_isBatch_9 : decode cX8_isBatch 9 = .ok (.i2l, 1) := by decide +kernel
theorem dX8_isBatch_10 : decode cX8_isBatch 10 = .ok (.invokestatic 84, 3) := by decide +kernel
theorem dX8_isBatch_13 : decode cX8_isBatch 13 = .ok (.ireturn, 1) := by decide +kernel
set_option maxRecDepth 20000 in
theorem ggX8_isPlace_X8_isBatch : GoodIn wsX8_isPlace wsX8_isBatch := goodIn_r _ [6, 7, 8, 9, 5, 10, 11, 12, 13, 14, 15, 16, 17, 18, 19, 20, 21, 22, 23, 24, 25, 26, 27, 28, 29, 30, 31, 32, 33, 34, 35, 36, 37] (by decide +kernel) (by decide +kernel)
set_option maxRecDepth 20000 in
theorem gX8_isPlace_X8_isBatch : GoodIn wsX8_isPlace (wsV RX8 136 RX8 yX8_isBatch wsX8_isBatch) := goodIn_app (goodIn_of _ (by decide +kernel)) ggX8_isPlace_X8_isBatch
set_option maxRecDepth 20000 in
theorem ggX8_isPlace_X8_in : GoodIn wsX8_isPlace wsX8_in := goodIn_r _ [10] (by decide +kernel) (by decide +kernel)
set_option maxRecDepth 20000 in
theorem gX8_isPlace_X8_in : GoodIn wsX8_isPlace (va_wsS RX8 84 yX8_in wsX8_in) := goodIn_app (goodIn_of _ (by decide +kernel)) ggX8_isPlace_X8_in
theorem dX8_isPlace_0 : decode cX8_isPlace 0 = .ok (.aload_n 0, 1) := by decide +kernel
theorem dX8_isPlace_1 : decode cX8_isPlace 1 = .ok (.iload_n 1, 1) := by decide +kernel
theorem dX8_isPlace_2 : decode cX8_isPlace 2 = .ok (.invokevirtual 136, 3) := by decide +kernel
theorem dX8_isPlace_5 : decode cX8_isPlace 5 = .ok (.ifCond .eq 25, 3) := by decide +kernel
theorem dX8_isPlace_8 : decode cX8_isPlace 8 = .ok (.iload_n 2, 1) := by decide +kernel
theorem dX8_isPlace_9 : decode cX8_isPlace 9 = .ok (.i2l, 1) := by decide +kernel
theorem dX8_isPlace_10 : decode cX8_isPlace 10 = .ok (.lconst 0, 1) := by decide +kernel
theorem dX8_isPlace_11 : decode cX8_isPlace 11 = .ok (.aload_n 0, 1) := by decide +kernel
theorem dX8_isPlace_12 : decode cX8_isPlace 12 = .ok (.getfield 56, 3) := by decide +kernel
theorem dX8_isPlace_15 : decode cX8_isPlace 15 = .ok (.iload_n 1, 1) := by decide +kernel
theorem dX8_isPlace_16 : decode cX8_isPlace 16 = .ok (.iaload, 1) := by decide +kernel
theorem dX8_isPlace_17 : decode cX8_isPlace 17 = .ok (.iconst 1, 1) := by decide +kernel
theorem dX8_isPlace_18 : decode cX8_isPlace 18 = .ok (.isub, 1) := by decide +kernel
theorem dX8_isPlace_19 : decode cX8_isPlace 19 = .ok (.i2l, 1) := by decide +kernel
theorem dX8_isPlace_20 : decode cX8_isPlace 20 = .ok (.invokestatic 84, 3) := by decide +kernel
theorem dX8_isPlace_23 : decode cX8_isPlace 23 = .ok (.ifCond .eq 7, 3) := by decide +kernel
theorem dX8_isPlace_26 : decode cX8_isPlace 26 = .ok (.iconst 1, 1) := by decide +kernel
theorem dX8_isPlace_27 : decode cX8_isPlace 27 = .ok (.goto 4, 3) := by decide +kernel
theorem dX8_isPlace_30 : decode cX8_isPlace 30 = .ok (.iconst 0, 1) := by decide +kernel
theorem dX8_isPlace_31 : decode cX8_isPlace 31 = .ok (.ireturn, 1) := by decide +kernel
set_option maxRecDepth 20000 in
theorem ggX8_sample_X8_isHole : GoodIn wsX8_sample wsX8_isHole := goodIn_r _ [10, 11, 12, 13, 9, 14, 33, 34, 35, 36, 37, 38, 39, 40, 41, 42, 43, 44, 45, 46, 47, 48, 49, 50, 51, 52, 53, 54, 55, 56, 57, 58, 59] (by decide +kernel) (by decide +kernel)
set_option maxRecDepth 20000 in
theorem gX8_sample_X8_isHole : GoodIn wsX8_sample (wsV RX8 91 RX8 yX8_isHole wsX8_isHole) := goodIn_app (goodIn_of _ (by decide +kernel)) ggX8_sample_X8_isHole
set_option maxRecDepth 20000 in
theorem ggX8_sample_X8_isStretch : GoodIn wsX8_sample wsX8_isStretch := goodIn_r _ [18, 19, 20, 21, 9, 22, 23, 24, 33, 34, 35, 36, 37, 38, 39, 40, 41, 42, 43, 44, 45, 46, 47, 48, 49, 50, 51, 52, 53, 54, 55, 56, 57, 58, 59] (by decide +kernel) (by decide +kernel)
set_option maxRecDepth 20000 in
theorem gX8_sample_X8_isStretch : GoodIn wsX8_sample (wsV RX8 108 RX8 yX8_isStretch wsX8_isStretch) := goodIn_app (goodIn_of _ (by decide +kernel)) ggX8_sample_X8_isStretch
set_option maxRecDepth 20000 in
theorem ggX8_sample_X8_recoveredOf : GoodIn wsX8_sample wsX8_recoveredOf := goodIn_r _ [28, 23, 29, 24, 30, 31, 9, 32, 33, 34, 35, 36, 37, 38, 39, 40, 41, 42, 43, 44, 45, 46, 47, 48, 49, 50, 51, 52, 53, 54, 55, 56, 57, 58, 59] (by decide +kernel) (by decide +kernel)
set_option maxRecDepth 20000 in
theorem gX8_sample_X8_recoveredOf : GoodIn wsX8_sample (wsV RX8 112 RX8 yX8_recoveredOf wsX8_recoveredOf) := goodIn_app (goodIn_of _ (by decide +kernel)) ggX8_sample_X8_recoveredOf
set_option maxRecDepth 20000 in
theorem ggX8_sample_X8_common : GoodIn wsX8_sample wsX8_common := goodIn_r _ [32] (by decide +kernel) (by decide +kernel)
set_option maxRecDepth 20000 in
theorem gX8_sample_X8_common : GoodIn wsX8_sample (va_wsS RX8 104 yX8_common wsX8_common) := goodIn_app (goodIn_of _ (by decide +kernel)) ggX8_sample_X8_common
theorem dX8_sample_0 : decode cX8_sample 0 = .ok (.aload_n 0, 1) := by decide +kernel
theorem dX8_sample_1 : decode cX8_sample 1 = .ok (.iload_n 1, 1) := by decide +kernel
theorem dX8_sample_2 : decode cX8_sample 2 = .ok (.invokevirtual 91, 3) := by decide +kernel
theorem dX8_sample_5 : decode cX8_sample 5 = .ok (.ifCond .ne 6, 3) := by decide +kernel
theorem dX8_sample_8 : decode cX8_sample 8 = .ok (.bipush (-101), 2) := by decide +kernel
theorem dX8_sample_10 : decode cX8_sample 10 = .ok (.ireturn, 1) := by decide +kernel
theorem dX8_sample_11 : decode cX8_sample 11 = .ok (.aload_n 0, 1) := by decide +kernel
theorem dX8_sample_12 : decode cX8_sample 12 = .ok (.iload_n 1, 1) := by decide +kernel
theorem dX8_sample_13 : decode cX8_sample 13 = .ok (.iload_n 2, 1) := by decide +kernel
theorem dX8_sample_14 : decode cX8_sample 14 = .ok (.iload_n 3, 1) := by decide +kernel
theorem dX8_sample_15 : decode cX8_sample 15 = .ok (.invokevirtual 108, 3) := by decide +kernel
theorem dX8_sample_18 : decode cX8_sample 18 = .ok (.ifCond .ne 6, 3) := by decide +kernel
theorem dX8_sample_21 : decode cX8_sample 21 = .ok (.bipush (-102), 2) := by decide +kernel
theorem dX8_sample_23 : decode cX8_sample 23 = .ok (.ireturn, 1) := by decide +kernel
theorem dX8_sample_24 : decode cX8_sample 24 = .ok (.aload_n 0, 1) := by decide +kernel
theorem dX8_sample_25 : decode cX8_sample 25 = .ok (.iload_n 1, 1) := by decide +kernel
theorem dX8_sample_26 : decode cX8_sample 26 = .ok (.iload_n 2, 1) := by decide +kernel
theorem dX8_sample_27 : decode cX8_sample 27 = .ok (.iload_n 3, 1) := by decide +kernel
theorem dX8_sample_28 : decode cX8_sample 28 = .ok (.invokevirtual 112, 3) := by decide +kernel
theorem dX8_sample_31 : decode cX8_sample 31 = .ok (.ifCond .le 7, 3) := by decide +kernel
theorem dX8_sample_34 : decode cX8_sample 34 = .ok (.iconst 1, 1) := by decide +kernel
theorem dX8_sample_35 : decode cX8_sample 35 = .ok (.goto 4, 3) := by decide +kernel
theorem dX8_sample_38 : decode cX8_sample 38 = .ok (.iconst 0, 1) := by decide +kernel
theorem dX8_sample_39 : decode cX8_sample 39 = .ok (.istore 4, 2) := by decide +kernel
theorem dX8_sample_41 : decode cX8_sample 41 = .ok (.iconst 0, 1) := by decide +kernel
theorem dX8_sample_42 : decode cX8_sample 42 = .ok (.istore 5, 2) := by decide +kernel
theorem dX8_sample_44 : decode cX8_sample 44 = .ok (.iload 5, 2) := by decide +kernel
theorem dX8_sample_46 : decode cX8_sample 46 = .ok (.aload_n 0, 1) := by decide +kernel
theorem dX8_sample_47 : decode cX8_sample 47 = .ok (.getfield 88, 3) := by decide +kernel
theorem dX8_sample_50 : decode cX8_sample 50 = .ok (.if_icmp .ge 54, 3) := by decide +kernel
theorem dX8_sample_53 : decode cX8_sample 53 = .ok (.iload 4, 2) := by decide +kernel
theorem dX8_sample_55 : decode cX8_sample 55 = .ok (.ifCond .eq 40, 3) := by decide +kernel
theorem dX8_sample_58 : decode cX8_sample 58 = .ok (.aload_n 0, 1) := by decide +kernel
theorem dX8_sample_59 : decode cX8_sample 59 = .ok (.getfield 44, 3) := by decide +kernel
theorem dX8_sample_62 : decode cX8_sample 62 = .ok (.iload 5, 2) := by decide +kernel
theorem dX8_sample_64 : decode cX8_sample 64 = .ok (.iaload, 1) := by decide +kernel
theorem dX8_sample_65 : decode cX8_sample 65 = .ok (.iload_n 1, 1) := by decide +kernel
theorem dX8_sample_66 : decode cX8_sample 66 = .ok (.if_icmp .ne 25, 3) := by decide +kernel
theorem dX8_sample_69 : decode cX8_sample 69 = .ok (.iload_n 2, 1) := by decide +kernel
theorem dX8_sample_70 : decode cX8_sample 70 = .ok (.iload_n 3, 1) := by decide +kernel
theorem dX8_sample_71 : decode cX8_sample 71 = .ok (.aload_n 0, 1) := by decide +kernel
theorem dX8_sample_72 : decode cX8_sample 72 = .ok (.getfield 47, 3) := by decide +kernel
theorem dX8_sample_75 : decode cX8_sample 75 = .ok (.iload 5, 2) := by decide +kernel
theorem dX8_sample_77 : decode cX8_sample 77 = .ok (.iaload, 1) := by decide +kernel
theorem dX8_sample_78 : decode cX8_sample 78 = .ok (.aload_n 0, 1) := by decide +kernel
theorem dX8_sample_79 : decode cX8_sample 79 = .ok (.getfield 50, 3) := by decide +kernel
theorem dX8_sample_82 : decode cX8_sample 82 = .ok (.iload 5, 2) := by decide +kernel
theorem dX8_sample_84 : decode cX8_sample 84 = .ok (.iaload, 1) := by decide +kernel
theorem dX8_sample_85 : decode cX8_sample 85 = .ok (.invokestatic 104, 3) := by decide +kernel
theorem dX8_sample_88 : decode cX8_sample 88 = .ok (.ifCond .ne 7, 3) := by decide +kernel
theorem dX8_sample_91 : decode cX8_sample 91 = .ok (.iconst 1, 1) := by decide +kernel
theorem dX8_sample_92 : decode cX8_sample 92 = .ok (.goto 4, 3) := by decide +kernel
theorem dX8_sample_95 : decode cX8_sample 95 = .ok (.iconst 0, 1) := by decide +kernel
theorem dX8_sample_96 : decode cX8_sample 96 = .ok (.istore 4, 2) := by decide +kernel
theorem dX8_sample_98 : decode cX8_sample 98 = .ok (.iinc 5 1, 3) := by decide +kernel
theorem dX8_sample_101 : decode cX8_sample 101 = .ok (.goto (-57), 3) := by decide +kernel
theorem dX8_sample_104 : decode cX8_sample 104 = .ok (.iload 4, 2) := by decide +kernel
theorem dX8_sample_106 : decode cX8_sample 106 = .ok (.ifCond .ne 6, 3) := by decide +kernel
theorem dX8_sample_109 : decode cX8_sample 109 = .ok (.bipush (-103), 2) := by decide +kernel
theorem dX8_sample_111 : decode cX8_sample 111 = .ok (.ireturn, 1) := by decide +kernel
theorem dX8_sample_112 : decode cX8_sample 112 = .ok (.aload_n 0, 1) := by decide +kernel
theorem dX8_sample_113 : decode cX8_sample 113 = .ok (.getfield 88, 3) := by decide +kernel
theorem dX8_sample_116 : decode cX8_sample 116 = .ok (.bipush 30, 2) := by decide +kernel
theorem dX8_sample_118 : decode cX8_sample 118 = .ok (.if_icmp .ne 6, 3) := by decide +kernel
theorem dX8_sample_121 : decode cX8_sample 121 = .ok (.bipush (-104), 2) := by decide +kernel
theorem dX8_sample_123 : decode cX8_sample 123 = .ok (.ireturn, 1) := by decide +kernel
theorem dX8_sample_124 : decode cX8_sample 124 = .ok (.aload_n 0, 1) := by decide +kernel
theorem dX8_sample_125 : decode cX8_sample 125 = .ok (.getfield 44, 3) := by decide +kernel
theorem dX8_sample_128 : decode cX8_sample 128 = .ok (.aload_n 0, 1) := by decide +kernel
theorem dX8_sample_129 : decode cX8_sample 129 = .ok (.getfield 88, 3) := by decide +kernel
theorem dX8_sample_132 : decode cX8_sample 132 = .ok (.iload_n 1, 1) := by decide +kernel
theorem dX8_sample_133 : decode cX8_sample 133 = .ok (.iastore, 1) := by decide +kernel
theorem dX8_sample_134 : decode cX8_sample 134 = .ok (.aload_n 0, 1) := by decide +kernel
theorem dX8_sample_135 : decode cX8_sample 135 = .ok (.getfield 47, 3) := by decide +kernel
theorem dX8_sample_138 : decode cX8_sample 138 = .ok (.aload_n 0, 1) := by decide +kernel
theorem dX8_sample_139 : decode cX8_sample 139 = .ok (.getfield 88, 3) := by decide +kernel
theorem dX8_sample_142 : decode cX8_sample 142 = .ok (.iload_n 2, 1) := by decide +kernel
theorem dX8_sample_143 : decode cX8_sample 143 = .ok (.iastore, 1) := by decide +kernel
theorem dX8_sample_144 : decode cX8_sample 144 = .ok (.aload_n 0, 1) := by decide +kernel
theorem dX8_sample_145 : decode cX8_sample 145 = .ok (.getfield 50, 3) := by decide +kernel
theorem dX8_sample_148 : decode cX8_sample 148 = .ok (.aload_n 0, 1) := by decide +kernel
theorem dX8_sample_149 : decode cX8_sample 149 = .ok (.getfield 88, 3) := by decide +kernel
theorem dX8_sample_152 : decode cX8_sample 152 = .ok (.iload_n 3, 1) := by decide +kernel
theorem dX8_sample_153 : decode cX8_sample 153 = .ok (.iastore, 1) := by decide +kernel
theorem dX8_sample_154 : decode cX8_sample 154 = .ok (.aload_n 0, 1) := by decide +kernel
theorem dX8_sample_155 : decode cX8_sample 155 = .ok (.getfield 53, 3) := by decide +kernel
theorem dX8_sample_158 : decode cX8_sample 158 = .ok (.aload_n 0, 1) := by decide +kernel
theorem dX8_sample_159 : decode cX8_sample 159 = .ok (.getfield 88, 3) := by decide +kernel
theorem dX8_sample_162 : decode cX8_sample 162 = .ok (.iconst 4, 1) := by decide +kernel
theorem dX8_sample_163 : decode cX8_sample 163 = .ok (.iastore, 1) := by decide +kernel
theorem dX8_sample_164 : decode cX8_sample 164 = .ok (.aload_n 0, 1) := by decide +kernel
theorem dX8_sample_165 : decode cX8_sample 165 = .ok (.dup, 1) := by decide +kernel
theorem dX8_sample_166 : decode cX8_sample 166 = .ok (.getfield 88, 3) := by decide +kernel
theorem dX8_sample_169 : decode cX8_sample 169 = .ok (.iconst 1, 1) := by decide +kernel
theorem dX8_sample_170 : decode cX8_sample 170 = .ok (.iadd, 1) := by decide +kernel
theorem dX8_sample_171 : decode cX8_sample 171 = .ok (.putfield 88, 3) := by decide +kernel
theorem dX8_sample_174 : decode cX8_sample 174 = .ok (.aload_n 0, 1) := by decide +kernel
theorem dX8_sample_175 : decode cX8_sample 175 = .ok (.getfield 88, 3) := by decide +kernel
theorem dX8_sample_178 : decode cX8_sample 178 = .ok (.iconst 1, 1) := by decide +kernel
theorem dX8_sample_179 : decode cX8_sample 179 = .ok (.isub, 1) := by decide +kernel
theorem dX8_sample_180 : decode cX8_sample 180 = .ok (.ireturn, 1) := by decide +kernel
set_option maxRecDepth 20000 in
theorem ggX8_left_X8_isSample : GoodIn wsX8_left wsX8_isSample := goodIn_r _ [6, 7, 8, 9, 5, 10, 11, 12, 13, 14, 15, 16, 17, 18, 19, 20, 21, 22, 23, 24, 25, 26, 27, 28, 29, 30, 31, 32, 33, 34, 35, 36, 37] (by decide +kernel) (by decide +kernel)
set_option maxRecDepth 20000 in
theorem gX8_left_X8_isSample : GoodIn wsX8_left (wsV RX8 139 RX8 yX8_isSample wsX8_isSample) := goodIn_app (goodIn_of _ (by decide +kernel)) ggX8_left_X8_isSample
theorem dX8_left_0 : decode cX8_left 0 = .ok (.aload_n 0, 1) := by decide +kernel
theorem dX8_left_1 : decode cX8_left 1 = .ok (.iload_n 1, 1) := by decide +kernel
theorem dX8_left_2 : decode cX8_left 2 = .ok (.invokevirtual 139, 3) := by decide +kernel
theorem dX8_left_5 : decode cX8_left 5 = .ok (.ifCond .eq 12, 3) := by decide +kernel
theorem dX8_left_8 : decode cX8_left 8 = .ok (.aload_n 0, 1) := by decide +kernel
theorem dX8_left_9 : decode cX8_left 9 = .ok (.getfield 53, 3) := by decide +kernel
theorem dX8_left_12 : decode cX8_left 12 = .ok (.iload_n 1, 1) := by decide +kernel
theorem dX8_left_13 : decode cX8_left 13 = .ok (.iaload, 1) := by decide +kernel
theorem dX8_left_14 : decode cX8_left 14 = .ok (.goto 5, 3) := by decide +kernel
theorem dX8_left_17 : decode cX8_left 17 = .ok (.bipush (-101), 2) := by decide +kernel
theorem dX8_left_19 : decode cX8_left 19 = .ok (.ireturn, 1) := by decide +kernel
theorem dX8_batch_0 : decode cX8_batch 0 = .ok (.aload_n 0, 1) := by decide +kernel
theorem dX8_batch_1 : decode cX8_batch 1 = .ok (.getfield 133, 3) := by decide +kernel
theorem dX8_batch_4 : decode cX8_batch 4 = .ok (.bipush 6, 2) := by decide +kernel
theorem dX8_batch_6 : decode cX8_batch 6 = .ok (.if_icmp .ne 6, 3) := by decide +kernel
theorem dX8_batch_9 : decode cX8_batch 9 = .ok (.bipush (-104), 2) := by decide +kernel
theorem dX8_batch_11 : decode cX8_batch 11 = .ok (.ireturn, 1) := by decide +kernel
theorem dX8_batch_12 : decode cX8_batch 12 = .ok (.aload_n 0, 1) := by decide +kernel
theorem dX8_batch_13 : decode cX8_batch 13 = .ok (.dup, 1) := by decide +kernel
theorem dX8_batch_14 : decode cX8_batch 14 = .ok (.getfield 133, 3) := by decide +kernel
theorem dX8_batch_17 : decode cX8_batch 17 = .ok (.iconst 1, 1) := by decide +kernel
theorem dX8_batch_18 : decode cX8_batch 18 = .ok (.iadd, 1) := by decide +kernel
theorem dX8_batch_19 : decode cX8_batch 19 = .ok (.putfield 133, 3) := by decide +kernel
theorem dX8_batch_22 : decode cX8_batch 22 = .ok (.aload_n 0, 1) := by decide +kernel
theorem dX8_batch_23 : decode cX8_batch 23 = .ok (.getfield 133, 3) := by decide +kernel
theorem dX8_batch_26 : decode cX8_batch 26 = .ok (.iconst 1, 1) := by decide +kernel
theorem dX8_batch_27 : decode cX8_batch 27 = .ok (.isub, 1) := by decide +kernel
theorem dX8_batch_28 : decode cX8_batch 28 = .ok (.ireturn, 1) := by decide +kernel
theorem dX8_hasResults_0 : decode cX8_hasResults 0 = .ok (.iconst 0, 1) := by decide +kernel
theorem dX8_hasResults_1 : decode cX8_hasResults 1 = .ok (.istore_n 2, 1) := by decide +kernel
theorem dX8_hasResults_2 : decode cX8_hasResults 2 = .ok (.iconst 0, 1) := by decide +kernel
theorem dX8_hasResults_3 : decode cX8_hasResults 3 = .ok (.istore_n 3, 1) := by decide +kernel
theorem dX8_hasResults_4 : decode cX8_hasResults 4 = .ok (.iload_n 3, 1) := by decide +kernel
theorem dX8_hasResults_5 : decode cX8_hasResults 5 = .ok (.aload_n 0, 1) := by decide +kernel
theorem dX8_hasResults_6 : decode cX8_hasResults 6 = .ok (.getfield 56, 3) := by decide +kernel
theorem dX8_hasResults_9 : decode cX8_hasResults 9 = .ok (.iload_n 1, 1) := by decide +kernel
theorem dX8_hasResults_10 : decode cX8_hasResults 10 = .ok (.iaload, 1) := by decide +kernel
theorem dX8_hasResults_11 : decode cX8_hasResults 11 = .ok (.if_icmp .ge 33, 3) := by decide +kernel
theorem dX8_hasResults_14 : decode cX8_hasResults 14 = .ok (.iload_n 2, 1) := by decide +kernel
theorem dX8_hasResults_15 : decode cX8_hasResults 15 = .ok (.ifCond .ne 17, 3) := by decide +kernel
theorem dX8_hasResults_18 : decode cX8_hasResults 18 = .ok (.aload_n 0, 1) := by decide +kernel
theorem dX8_hasResults_19 : decode cX8_hasResults 19 = .ok (.getfield 68, 3) := by decide +kernel
theorem dX8_hasResults_22 : decode cX8_hasResults 22 = .ok (.bipush 16, 2) := by decide +kernel
theorem dX8_hasResults_24 : decode cX8_hasResults 24 = .ok (.iload_n 1, 1) := by decide +kernel
theorem dX8_hasResults_25 : decode cX8_hasResults 25 = .ok (.imul, 1) := by decide +kernel
theorem dX8_hasResults_26 : decode cX8_hasResults 26 = .ok (.iload_n 3, 1) := by decide +kernel
theorem dX8_hasResults_27 : decode cX8_hasResults 27 = .ok (.iadd, 1) := by decide +kernel
theorem dX8_hasResults_28 : decode cX8_hasResults 28 = .ok (.baload, 1) := by decide +kernel
theorem dX8_hasResults_29 : decode cX8_hasResults 29 = .ok (.ifCond .eq 7, 3) := by decide +kernel
theorem dX8_hasResults_32 : decode cX8_hasResults 32 = .ok (.iconst 1, 1) := by decide +kernel
theorem dX8_hasResults_33 : decode cX8_hasResults 33 = .ok (.goto 4, 3) := by decide +kernel
theorem dX8_hasResults_36 : decode cX8_hasResults 36 = .ok (.iconst 0, 1) := by decide +kernel
theorem dX8_hasResults_37 : decode cX8_hasResults 37 = .ok (.istore_n 2, 1) := by decide +kernel
theorem dX8_hasResults_38 : decode cX8_hasResults 38 = .ok (.iinc 3 1, 3) := by decide +kernel
theorem dX8_hasResults_41 : decode cX8_hasResults 41 = .ok (.goto (-37), 3) := by decide +kernel
theorem dX8_hasResults_44 : decode cX8_hasResults 44 = .ok (.iload_n 2, 1) := by decide +kernel
theorem dX8_hasResults_45 : decode cX8_hasResults 45 = .ok (.ireturn, 1) := by decide +kernel
theorem dX8_add_0 : decode cX8_add 0 = .ok (.aload_n 0, 1) := by decide +kernel
theorem dX8_add_1 : decode cX8_add 1 = .ok (.getfield 56, 3) := by decide +kernel
theorem dX8_add_4 : decode cX8_add 4 = .ok (.iload_n 1, 1) := by decide +kernel
theorem dX8_add_5 : decode cX8_add 5 = .ok (.iaload, 1) := by decide +kernel
theorem dX8_add_6 : decode cX8_add 6 = .ok (.bipush 16, 2) := by decide +kernel
theorem dX8_add_8 : decode cX8_add 8 = .ok (.if_icmp .ne 6, 3) := by decide +kernel
theorem dX8_add_11 : decode cX8_add 11 = .ok (.bipush (-104), 2) := by decide +kernel
theorem dX8_add_13 : decode cX8_add 13 = .ok (.ireturn, 1) := by decide +kernel
theorem dX8_add_14 : decode cX8_add 14 = .ok (.bipush 16, 2) := by decide +kernel
theorem dX8_add_16 : decode cX8_add 16 = .ok (.iload_n 1, 1) := by decide +kernel
theorem dX8_add_17 : decode cX8_add 17 = .ok (.imul, 1) := by decide +kernel
theorem dX8_add_18 : decode cX8_add 18 = .ok (.aload_n 0, 1) := by decide +kernel
theorem dX8_add_19 : decode cX8_add 19 = .ok (.getfield 56, 3) := by decide +kernel
theorem dX8_add_22 : decode cX8_add 22 = .ok (.iload_n 1, 1) := by decide +kernel
theorem dX8_add_23 : decode cX8_add 23 = .ok (.iaload, 1) := by decide +kernel
theorem dX8_add_24 : decode cX8_add 24 = .ok (.iadd, 1) := by decide +kernel
theorem dX8_add_25 : decode cX8_add 25 = .ok (.istore 5, 2) := by decide +kernel
theorem dX8_add_27 : decode cX8_add 27 = .ok (.aload_n 0, 1) := by decide +kernel
theorem dX8_add_28 : decode cX8_add 28 = .ok (.getfield 59, 3) := by decide +kernel
theorem dX8_add_31 : decode cX8_add 31 = .ok (.iload 5, 2) := by decide +kernel
theorem dX8_add_33 : decode cX8_add 33 = .ok (.iload_n 2, 1) := by decide +kernel
theorem dX8_add_34 : decode cX8_add 34 = .ok (.iastore, 1) := by decide +kernel
theorem dX8_add_35 : decode cX8_add 35 = .ok (.aload_n 0, 1) := by decide +kernel
theorem dX8_add_36 : decode cX8_add 36 = .ok (.getfield 62, 3) := by decide +kernel
theorem dX8_add_39 : decode cX8_add 39 = .ok (.iload 5, 2) := by decide +kernel
theorem dX8_add_41 : decode cX8_add 41 = .ok (.iload_n 3, 1) := by decide +kernel
theorem dX8_add_42 : decode cX8_add 42 = .ok (.iastore, 1) := by decide +kernel
theorem dX8_add_43 : decode cX8_add 43 = .ok (.aload_n 0, 1) := by decide +kernel
theorem dX8_add_44 : decode cX8_add 44 = .ok (.getfield 65, 3) := by decide +kernel
theorem dX8_add_47 : decode cX8_add 47 = .ok (.iload 5, 2) := by decide +kernel
theorem dX8_add_49 : decode cX8_add 49 = .ok (.iload 4, 2) := by decide +kernel
theorem dX8_add_51 : decode cX8_add 51 = .ok (.iastore, 1) := by decide +kernel
theorem dX8_add_52 : decode cX8_add 52 = .ok (.aload_n 0, 1) := by decide +kernel
theorem dX8_add_53 : decode cX8_add 53 = .ok (.getfield 56, 3) := by decide +kernel
theorem dX8_add_56 : decode cX8_add 56 = .ok (.iload_n 1, 1) := by decide +kernel
theorem dX8_add_57 : decode cX8_add 57 = .ok (.dup2, 1) := by decide +kernel
theorem dX8_add_58 : decode cX8_add 58 = .ok (.iaload, 1) := by decide +kernel
theorem dX8_add_59 : decode cX8_add 59 = .ok (.iconst 1, 1) := by decide +kernel
theorem dX8_add_60 : decode cX8_add 60 = .ok (.iadd, 1) := by decide +kernel
theorem dX8_add_61 : decode cX8_add 61 = .ok (.iastore, 1) := by decide +kernel
theorem dX8_add_62 : decode cX8_add 62 = .ok (.aload_n 0, 1) := by decide +kernel
theorem dX8_add_63 : decode cX8_add 63 = .ok (.getfield 56, 3) := by decide +kernel
theorem dX8_add_66 : decode cX8_add 66 = .ok (.iload_n 1, 1) := by decide +kernel
theorem dX8_add_67 : decode cX8_add 67 = .ok (.iaload, 1) := by decide +kernel
theorem dX8_add_68 : decode cX8_add 68 = .ok (.iconst 1, 1) := by decide +kernel
theorem dX8_add_69 : decode cX8_add 69 = .ok (.isub, 1) := by decide +kernel
theorem dX8_add_70 : decode cX8_add 70 = .ok (.ireturn, 1) := by decide +kernel
theorem dX8_placeOf_0 : decode cX8_placeOf 0 = .ok (.iconst 0, 1) := by decide +kernel
theorem dX8_placeOf_1 : decode cX8_placeOf 1 = .ok (.istore_n 3, 1) := by decide +kernel
theorem dX8_placeOf_2 : decode cX8_placeOf 2 = .ok (.iload_n 3, 1) := by decide +kernel
theorem dX8_placeOf_3 : decode cX8_placeOf 3 = .ok (.aload_n 0, 1) := by decide +kernel
theorem dX8_placeOf_4 : decode cX8_placeOf 4 = .ok (.getfield 56, 3) := by decide +kernel
theorem dX8_placeOf_7 : decode cX8_placeOf 7 = .ok (.iload_n 1, 1) := by decide +kernel
theorem dX8_placeOf_8 : decode cX8_placeOf 8 = .ok (.iaload, 1) := by decide +kernel
theorem dX8_placeOf_9 : decode cX8_placeOf 9 = .ok (.if_icmp .ge 40, 3) := by decide +kernel
theorem dX8_placeOf_12 : decode cX8_placeOf 12 = .ok (.aload_n 0, 1) := by decide +kernel
theorem dX8_placeOf_13 : decode cX8_placeOf 13 = .ok (.getfield 59, 3) := by decide +kernel
theorem dX8_placeOf_16 : decode cX8_placeOf 16 = .ok (.bipush 16, 2) := by decide +kernel
theorem dX8_placeOf_18 : decode cX8_placeOf 18 = .ok (.iload_n 1, 1) := by decide +kernel
theorem dX8_placeOf_19 : decode cX8_placeOf 19 = .ok (.imul, 1) := by decide +kernel
theorem dX8_placeOf_20 : decode cX8_placeOf 20 = .ok (.iload_n 3, 1) := by decide +kernel
theorem dX8_placeOf_21 : decode cX8_placeOf 21 = .ok (.iadd, 1) := by decide +kernel
theorem dX8_placeOf_22 : decode cX8_placeOf 22 = .ok (.iaload, 1) := by decide +kernel
theorem dX8_placeOf_23 : decode cX8_placeOf 23 = .ok (.ifCond .ne 20, 3) := by decide +kernel
theorem dX8_placeOf_26 : decode cX8_placeOf 26 = .ok (.aload_n 0, 1) := by decide +kernel
theorem dX8_placeOf_27 : decode cX8_placeOf 27 = .ok (.getfield 62, 3) := by decide +kernel
theorem dX8_placeOf_30 : decode cX8_placeOf 30 = .ok (.bipush 16, 2) := by decide +kernel
theorem dX8_placeOf_32 : decode cX8_placeOf 32 = .ok (.iload_n 1, 1) := by decide +kernel
theorem dX8_placeOf_33 : decode cX8_placeOf 33 = .ok (.imul, 1) := by decide +kernel
theorem dX8_placeOf_34 : decode cX8_placeOf 34 = .ok (.iload_n 3, 1) := by decide +kernel
theorem dX8_placeOf_35 : decode cX8_placeOf 35 = .ok (.iadd, 1) := by decide +kernel
theorem dX8_placeOf_36 : decode cX8_placeOf 36 = .ok (.iaload, 1) := by decide +kernel
theorem dX8_placeOf_37 : decode cX8_placeOf 37 = .ok (.iload_n 2, 1) := by decide +kernel
theorem dX8_placeOf_38 : decode cX8_placeOf 38 = .ok (.if_icmp .ne 5, 3) := by decide +kernel
theorem dX8_placeOf_41 : decode cX8_placeOf 41 = .ok (.iload_n 3, 1) := by decide +kernel
theorem dX8_placeOf_42 : decode cX8_placeOf 42 = .ok (.ireturn, 1) := by decide +kernel
theorem dX8_placeOf_43 : decode cX8_placeOf 43 = .ok (.iinc 3 1, 3) := by decide +kernel
theorem dX8_placeOf_46 : decode cX8_placeOf 46 = .ok (.goto (-44), 3) := by decide +kernel
theorem dX8_placeOf_49 : decode cX8_placeOf 49 = .ok (.iconst (-1), 1) := by decide +kernel
theorem dX8_placeOf_50 : decode cX8_placeOf 50 = .ok (.ireturn, 1) := by decide +kernel
theorem dX8_quarter_0 : decode cX8_quarter 0 = .ok (.iload_n 2, 1) := by decide +kernel
theorem dX8_quarter_1 : decode cX8_quarter 1 = .ok (.ifCond .lt 23, 3) := by decide +kernel
theorem dX8_quarter_4 : decode cX8_quarter 4 = .ok (.aload_n 0, 1) := by decide +kernel
theorem dX8_quarter_5 : decode cX8_quarter 5 = .ok (.getfield 53, 3) := by decide +kernel
theorem dX8_quarter_8 : decode cX8_quarter 8 = .ok (.iload_n 1, 1) := by decide +kernel
theorem dX8_quarter_9 : decode cX8_quarter 9 = .ok (.dup2, 1) := by decide +kernel
theorem dX8_quarter_10 : decode cX8_quarter 10 = .ok (.iaload, 1) := by decide +kernel
theorem dX8_quarter_11 : decode cX8_quarter 11 = .ok (.iconst 1, 1) := by decide +kernel
theorem dX8_quarter_12 : decode cX8_quarter 12 = .ok (.isub, 1) := by decide +kernel
theorem dX8_quarter_13 : decode cX8_quarter 13 = .ok (.iastore, 1) := by decide +kernel
theorem dX8_quarter_14 : decode cX8_quarter 14 = .ok (.aload_n 0, 1) := by decide +kernel
theorem dX8_quarter_15 : decode cX8_quarter 15 = .ok (.dup, 1) := by decide +kernel
theorem dX8_quarter_16 : decode cX8_quarter 16 = .ok (.getfield 142, 3) := by decide +kernel
theorem dX8_quarter_19 : decode cX8_quarter 19 = .ok (.iconst 1, 1) := by decide +kernel
theorem dX8_quarter_20 : decode cX8_quarter 20 = .ok (.iadd, 1) := by decide +kernel
theorem dX8_quarter_21 : decode cX8_quarter 21 = .ok (.putfield 142, 3) := by decide +kernel
theorem dX8_quarter_24 : decode cX8_quarter 24 = .ok (.iload_n 2, 1) := by decide +kernel
theorem dX8_quarter_25 : decode cX8_quarter 25 = .ok (.ireturn, 1) := by decide +kernel
set_option maxRecDepth 20000 in
theorem ggX8_put_X8_isBatch : GoodIn wsX8_put wsX8_isBatch := goodIn_r _ [6, 7, 8, 9, 5, 10, 38, 39, 40, 41, 42, 43, 44, 45, 46, 47, 48, 49, 50, 51, 52, 53, 54, 55, 56, 57, 58, 59, 60, 61, 62, 63, 64] (by decide +kernel) (by decide +kernel)
set_option maxRecDepth 20000 in
theorem gX8_put_X8_isBatch : GoodIn wsX8_put (wsV RX8 136 RX8 yX8_isBatch wsX8_isBatch) := goodIn_app (goodIn_of _ (by decide +kernel)) ggX8_put_X8_isBatch
set_option maxRecDepth 20000 in
theorem ggX8_put_X8_isSample : GoodIn wsX8_put wsX8_isSample := goodIn_r _ [14, 15, 8, 9, 5, 10, 38, 39, 40, 41, 42, 43, 44, 45, 46, 47, 48, 49, 50, 51, 52, 53, 54, 55, 56, 57, 58, 59, 60, 61, 62, 63, 64] (by decide +kernel) (by decide +kernel)
set_option maxRecDepth 20000 in
theorem gX8_put_X8_isSample : GoodIn wsX8_put (wsV RX8 139 RX8 yX8_isSample wsX8_isSample) := goodIn_app (goodIn_of _ (by decide +kernel)) ggX8_put_X8_isSample
set_option maxRecDepth 20000 in
theorem ggX8_put_X8_hasResults : GoodIn wsX8_put wsX8_hasResults := goodIn_r _ [19, 20, 21, 38, 39, 40, 41, 42, 43, 44, 45, 46, 47, 48, 49, 50, 51, 52, 53, 54, 55, 56, 57, 58, 59, 60, 61, 62, 63, 64] (by decide +kernel) (by decide +kernel)
set_option maxRecDepth 20000 in
theorem gX8_put_X8_hasResults : GoodIn wsX8_put (wsV RX8 145 RX8 yX8_hasResults wsX8_hasResults) := goodIn_app (goodIn_of _ (by decide +kernel)) ggX8_put_X8_hasResults
set_option maxRecDepth 20000 in
theorem ggX8_put_X8_placeOf : GoodIn wsX8_put wsX8_placeOf := goodIn_r _ [25, 20, 26, 27, 38, 39, 40, 41, 42, 43, 44, 45, 46, 47, 48, 49, 50, 51, 52, 53, 54, 55, 56, 57, 58, 59, 60, 61, 62, 63, 64] (by decide +kernel) (by decide +kernel)
set_option maxRecDepth 20000 in
theorem gX8_put_X8_placeOf : GoodIn wsX8_put (wsV RX8 148 RX8 yX8_placeOf wsX8_placeOf) := goodIn_app (goodIn_of _ (by decide +kernel)) ggX8_put_X8_placeOf
set_option maxRecDepth 20000 in
theorem ggX8_put_X8_add : GoodIn wsX8_put wsX8_add := goodIn_r _ [31, 20, 26, 27, 32, 38, 39, 40, 41, 42, 43, 44, 45, 46, 47, 48, 49, 50, 51, 52, 53, 54, 55, 56, 57, 58, 59, 60, 61, 62, 63, 64] (by decide +kernel) (by decide +kernel)
set_option maxRecDepth 20000 in
theorem gX8_put_X8_add : GoodIn wsX8_put (wsV RX8 151 RX8 yX8_add wsX8_add) := goodIn_app (goodIn_of _ (by decide +kernel)) ggX8_put_X8_add
set_option maxRecDepth 20000 in
theorem ggX8_put_X8_quarter : GoodIn wsX8_put wsX8_quarter := goodIn_r _ [36, 1, 37, 38, 39, 40, 41, 42, 43, 44, 45, 46, 47, 48, 49, 50, 51, 52, 53, 54, 55, 56, 57, 58, 59, 60, 61, 62, 63, 64] (by decide +kernel) (by decide +kernel)
set_option maxRecDepth 20000 in
theorem gX8_put_X8_quarter : GoodIn wsX8_put (wsV RX8 154 RX8 yX8_quarter wsX8_quarter) := goodIn_app (goodIn_of _ (by decide +kernel)) ggX8_put_X8_quarter
theorem dX8_put_0 : decode cX8_put 0 = .ok (.aload_n 0, 1) := by decide +kernel
theorem dX8_put_1 : decode cX8_put 1 = .ok (.iload_n 1, 1) := by decide +kernel
theorem dX8_put_2 : decode cX8_put 2 = .ok (.invokevirtual 136, 3) := by decide +kernel
theorem dX8_put_5 : decode cX8_put 5 = .ok (.ifCond .eq 11, 3) := by decide +kernel
theorem dX8_put_8 : decode cX8_put 8 = .ok (.aload_n 0, 1) := by decide +kernel
theorem dX8_put_9 : decode cX8_put 9 = .ok (.iload_n 2, 1) := by decide +kernel
theorem dX8_put_10 : decode cX8_put 10 = .ok (.invokevirtual 139, 3) := by decide +kernel
theorem dX8_put_13 : decode cX8_put 13 = .ok (.ifCond .ne 6, 3) := by decide +kernel
theorem dX8_put_16 : decode cX8_put 16 = .ok (.bipush (-101), 2) := by decide +kernel
theorem dX8_put_18 : decode cX8_put 18 = .ok (.ireturn, 1) := by decide +kernel
theorem dX8_put_19 : decode cX8_put 19 = .ok (.aload_n 0, 1) := by decide +kernel
theorem dX8_put_20 : decode cX8_put 20 = .ok (.getfield 53, 3) := by decide +kernel
theorem dX8_put_23 : decode cX8_put 23 = .ok (.iload_n 2, 1) := by decide +kernel
theorem dX8_put_24 : decode cX8_put 24 = .ok (.iaload, 1) := by decide +kernel
theorem dX8_put_25 : decode cX8_put 25 = .ok (.ifCond .eq 21, 3) := by decide +kernel
theorem dX8_put_28 : decode cX8_put 28 = .ok (.aload_n 0, 1) := by decide +kernel
theorem dX8_put_29 : decode cX8_put 29 = .ok (.iload_n 1, 1) := by decide +kernel
theorem dX8_put_30 : decode cX8_put 30 = .ok (.invokevirtual 145, 3) := by decide +kernel
theorem dX8_put_33 : decode cX8_put 33 = .ok (.ifCond .ne 13, 3) := by decide +kernel
theorem dX8_put_36 : decode cX8_put 36 = .ok (.aload_n 0, 1) := by decide +kernel
theorem dX8_put_37 : decode cX8_put 37 = .ok (.iload_n 1, 1) := by decide +kernel
theorem dX8_put_38 : decode cX8_put 38 = .ok (.iload_n 2, 1) := by decide +kernel
theorem dX8_put_39 : decode cX8_put 39 = .ok (.invokevirtual 148, 3) := by decide +kernel
theorem dX8_put_42 : decode cX8_put 42 = .ok (.iconst (-1), 1) := by decide +kernel
theorem dX8_put_43 : decode cX8_put 43 = .ok (.if_icmp .eq 6, 3) := by decide +kernel
theorem dX8_put_46 : decode cX8_put 46 = .ok (.bipush (-103), 2) := by decide +kernel
theorem dX8_put_48 : decode cX8_put 48 = .ok (.ireturn, 1) := by decide +kernel
theorem dX8_put_49 : decode cX8_put 49 = .ok (.aload_n 0, 1) := by decide +kernel
theorem dX8_put_50 : decode cX8_put 50 = .ok (.iload_n 2, 1) := by decide +kernel
theorem dX8_put_51 : decode cX8_put 51 = .ok (.aload_n 0, 1) := by decide +kernel
theorem dX8_put_52 : decode cX8_put 52 = .ok (.iload_n 1, 1) := by decide +kernel
theorem dX8_put_53 : decode cX8_put 53 = .ok (.iconst 0, 1) := by decide +kernel
theorem dX8_put_54 : decode cX8_put 54 = .ok (.iload_n 2, 1) := by decide +kernel
theorem dX8_put_55 : decode cX8_put 55 = .ok (.iconst 0, 1) := by decide +kernel
theorem dX8_put_56 : decode cX8_put 56 = .ok (.invokevirtual 151, 3) := by decide +kernel
theorem dX8_put_59 : decode cX8_put 59 = .ok (.invokevirtual 154, 3) := by decide +kernel
theorem dX8_put_62 : decode cX8_put 62 = .ok (.ireturn, 1) := by decide +kernel
set_option maxRecDepth 20000 in
theorem ggX8_standard_X8_isBatch : GoodIn wsX8_standard wsX8_isBatch := goodIn_r _ [7, 8, 9, 10, 6, 11, 25, 26, 27, 28, 29, 30, 31, 32, 33, 34, 35, 36, 37, 38, 39, 40, 41, 42, 43, 44, 45, 46, 47, 48, 49, 50, 51] (by decide +kernel) (by decide +kernel)
set_option maxRecDepth 20000 in
theorem gX8_standard_X8_isBatch : GoodIn wsX8_standard (wsV RX8 136 RX8 yX8_isBatch wsX8_isBatch) := goodIn_app (goodIn_of _ (by decide +kernel)) ggX8_standard_X8_isBatch
set_option maxRecDepth 20000 in
theorem ggX8_standard_X8_in : GoodIn wsX8_standard wsX8_in := goodIn_r _ [11] (by decide +kernel) (by decide +kernel)
set_option maxRecDepth 20000 in
theorem gX8_standard_X8_in : GoodIn wsX8_standard (va_wsS RX8 84 yX8_in wsX8_in) := goodIn_app (goodIn_of _ (by decide +kernel)) ggX8_standard_X8_in
set_option maxRecDepth 20000 in
theorem ggX8_standard_X8_hasResults : GoodIn wsX8_standard wsX8_hasResults := goodIn_r _ [15, 16, 17, 25, 26, 27, 28, 29, 30, 31, 32, 33, 34, 35, 36, 37, 38, 39, 40, 41, 42, 43, 44, 45, 46, 47, 48, 49, 50, 51] (by decide +kernel) (by decide +kernel)
set_option maxRecDepth 20000 in
theorem gX8_standard_X8_hasResults : GoodIn wsX8_standard (wsV RX8 145 RX8 yX8_hasResults wsX8_hasResults) := goodIn_app (goodIn_of _ (by decide +kernel)) ggX8_standard_X8_hasResults
set_option maxRecDepth 20000 in
theorem ggX8_standard_X8_add : GoodIn wsX8_standard wsX8_add := goodIn_r _ [21, 16, 22, 23, 24, 25, 26, 27, 28, 29, 30, 31, 32, 33, 34, 35, 36, 37, 38, 39, 40, 41, 42, 43, 44, 45, 46, 47, 48, 49, 50, 51] (by decide +kernel) (by decide +kernel)
set_option maxRecDepth 20000 in
theorem gX8_standard_X8_add : GoodIn wsX8_standard (wsV RX8 151 RX8 yX8_add wsX8_add) := goodIn_app (goodIn_of _ (by decide +kernel)) ggX8_standard_X8_add
theorem dX8_standard_0 : decode cX8_standard 0 = .ok (.aload_n 0, 1) := by decide +kernel
theorem dX8_standard_1 : decode cX8_standard 1 = .ok (.iload_n 1, 1) := by decide +kernel
theorem dX8_standard_2 : decode cX8_standard 2 = .ok (.invokevirtual 136, 3) := by decide +kernel
theorem dX8_standard_5 : decode cX8_standard 5 = .ok (.ifCond .ne 6, 3) := by decide +kernel
theorem dX8_standard_8 : decode cX8_standard 8 = .ok (.bipush (-101), 2) := by decide +kernel
theorem dX8_standard_10 : decode cX8_standard 10 = .ok (.ireturn, 1) := by decide +kernel
theorem dX8_standard_11 : decode cX8_standard 11 = .ok (.iload_n 2, 1) := by decide +kernel
theorem dX8_standard_12 : decode cX8_standard 12 = .ok (.i2l, 1) := by decide +kernel
theorem dX8_standard_13 : decode cX8_standard 13 = .ok (.lconst 0, 1) := by decide +kernel
theorem dX8_standard_14 : decode cX8_standard 14 = .ok (.ldc2_w 116, 3) := by decide +kernel
theorem dX8_standard_17 : decode cX8_standard 17 = .ok (.invokestatic 84, 3) := by decide +kernel
theorem dX8_standard_20 : decode cX8_standard 20 = .ok (.ifCond .eq 15, 3) := by decide +kernel
theorem dX8_standard_23 : decode cX8_standard 23 = .ok (.iload_n 3, 1) := by decide +kernel
theorem dX8_standard_24 : decode cX8_standard 24 = .ok (.i2l, 1) := by decide +kernel
theorem dX8_standard_25 : decode cX8_standard 25 = .ok (.lconst 0, 1) := by decide +kernel
theorem dX8_standard_26 : decode cX8_standard 26 = .ok (.ldc2_w 157, 3) := by decide +kernel
theorem dX8_standard_29 : decode cX8_standard 29 = .ok (.invokestatic 84, 3) := by decide +kernel
theorem dX8_standard_32 : decode cX8_standard 32 = .ok (.ifCond .ne 6, 3) := by decide +kernel
theorem dX8_standard_35 : decode cX8_standard 35 = .ok (.bipush (-102), 2) := by decide +kernel
theorem dX8_standard_37 : decode cX8_standard 37 = .ok (.ireturn, 1) := by decide +kernel
theorem dX8_standard_38 : decode cX8_standard 38 = .ok (.aload_n 0, 1) := by decide +kernel
theorem dX8_standard_39 : decode cX8_standard 39 = .ok (.iload_n 1, 1) := by decide +kernel
theorem dX8_standard_40 : decode cX8_standard 40 = .ok (.invokevirtual 145, 3) := by decide +kernel
theorem dX8_standard_43 : decode cX8_standard 43 = .ok (.ifCond .eq 8, 3) := by decide +kernel
theorem dX8_standard_46 : decode cX8_standard 46 = .ok (.bipush (-103), 2) := by decide +kernel
theorem dX8_standard_48 : decode cX8_standard 48 = .ok (.goto 11, 3) := by decide +kernel
theorem dX8_standard_51 : decode cX8_standard 51 = .ok (.aload_n 0, 1) := by decide +kernel
theorem dX8_standard_52 : decode cX8_standard 52 = .ok (.iload_n 1, 1) := by decide +kernel
theorem dX8_standard_53 : decode cX8_standard 53 = .ok (.iconst 1, 1) := by decide +kernel
theorem dX8_standard_54 : decode cX8_standard 54 = .ok (.iload_n 2, 1) := by decide +kernel
theorem dX8_standard_55 : decode cX8_standard 55 = .ok (.iload_n 3, 1) := by decide +kernel
theorem dX8_standard_56 : decode cX8_standard 56 = .ok (.invokevirtual 151, 3) := by decide +kernel
theorem dX8_standard_59 : decode cX8_standard 59 = .ok (.ireturn, 1) := by decide +kernel
set_option maxRecDepth 20000 in
theorem ggX8_blank_X8_isBatch : GoodIn wsX8_blank wsX8_isBatch := goodIn_r _ [5, 6, 7, 8, 4, 9, 23, 24, 25, 26, 27, 28, 29, 30, 31, 32, 33, 34, 35, 36, 37, 38, 39, 40, 41, 42, 43, 44, 45, 46, 47, 48, 49] (by decide +kernel) (by decide +kernel)
set_option maxRecDepth 20000 in
theorem gX8_blank_X8_isBatch : GoodIn wsX8_blank (wsV RX8 136 RX8 yX8_isBatch wsX8_isBatch) := goodIn_app (goodIn_of _ (by decide +kernel)) ggX8_blank_X8_isBatch
set_option maxRecDepth 20000 in
theorem ggX8_blank_X8_hasResults : GoodIn wsX8_blank wsX8_hasResults := goodIn_r _ [13, 14, 15, 23, 24, 25, 26, 27, 28, 29, 30, 31, 32, 33, 34, 35, 36, 37, 38, 39, 40, 41, 42, 43, 44, 45, 46, 47, 48, 49] (by decide +kernel) (by decide +kernel)
set_option maxRecDepth 20000 in
theorem gX8_blank_X8_hasResults : GoodIn wsX8_blank (wsV RX8 145 RX8 yX8_hasResults wsX8_hasResults) := goodIn_app (goodIn_of _ (by decide +kernel)) ggX8_blank_X8_hasResults
set_option maxRecDepth 20000 in
theorem ggX8_blank_X8_add : GoodIn wsX8_blank wsX8_add := goodIn_r _ [19, 14, 20, 21, 22, 23, 24, 25, 26, 27, 28, 29, 30, 31, 32, 33, 34, 35, 36, 37, 38, 39, 40, 41, 42, 43, 44, 45, 46, 47, 48, 49] (by decide +kernel) (by decide +kernel)
set_option maxRecDepth 20000 in
theorem gX8_blank_X8_add : GoodIn wsX8_blank (wsV RX8 151 RX8 yX8_add wsX8_add) := goodIn_app (goodIn_of _ (by decide +kernel)) ggX8_blank_X8_add
theorem dX8_blank_0 : decode cX8_blank 0 = .ok (.aload_n 0, 1) := by decide +kernel
theorem dX8_blank_1 : decode cX8_blank 1 = .ok (.iload_n 1, 1) := by decide +kernel
theorem dX8_blank_2 : decode cX8_blank 2 = .ok (.invokevirtual 136, 3) := by decide +kernel
theorem dX8_blank_5 : decode cX8_blank 5 = .ok (.ifCond .ne 6, 3) := by decide +kernel
theorem dX8_blank_8 : decode cX8_blank 8 = .ok (.bipush (-101), 2) := by decide +kernel
theorem dX8_blank_10 : decode cX8_blank 10 = .ok (.ireturn, 1) := by decide +kernel
theorem dX8_blank_11 : decode cX8_blank 11 = .ok (.aload_n 0, 1) := by decide +kernel
theorem dX8_blank_12 : decode cX8_blank 12 = .ok (.iload_n 1, 1) := by decide +kernel
theorem dX8_blank_13 : decode cX8_blank 13 = .ok (.invokevirtual 145, 3) := by decide +kernel
theorem dX8_blank_16 : decode cX8_blank 16 = .ok (.ifCond .eq 8, 3) := by decide +kernel
theorem dX8_blank_19 : decode cX8_blank 19 = .ok (.bipush (-103), 2) := by decide +kernel
theorem dX8_blank_21 : decode cX8_blank 21 = .ok (.goto 11, 3) := by decide +kernel
theorem dX8_blank_24 : decode cX8_blank 24 = .ok (.aload_n 0, 1) := by decide +kernel
theorem dX8_blank_25 : decode cX8_blank 25 = .ok (.iload_n 1, 1) := by decide +kernel
theorem dX8_blank_26 : decode cX8_blank 26 = .ok (.iconst 2, 1) := by decide +kernel
theorem dX8_blank_27 : decode cX8_blank 27 = .ok (.iconst 0, 1) := by decide +kernel
theorem dX8_blank_28 : decode cX8_blank 28 = .ok (.iconst 0, 1) := by decide +kernel
theorem dX8_blank_29 : decode cX8_blank 29 = .ok (.invokevirtual 151, 3) := by decide +kernel
theorem dX8_blank_32 : decode cX8_blank 32 = .ok (.ireturn, 1) := by decide +kernel
set_option maxRecDepth 20000 in
theorem ggX8_twice_X8_isPlace : GoodIn wsX8_twice wsX8_isPlace := goodIn_r _ [8, 9, 10, 11, 12, 7, 13, 14, 15, 16, 17, 33, 34, 35, 36, 37, 38, 39, 40, 41, 42, 43, 44, 45, 46, 47, 48, 49, 50, 51, 52, 53, 54, 55, 56, 57, 58, 59] (by decide +kernel) (by decide +kernel)
set_option maxRecDepth 20000 in
theorem gX8_twice_X8_isPlace : GoodIn wsX8_twice (wsV RX8 159 RX8 yX8_isPlace wsX8_isPlace) := goodIn_app (goodIn_of _ (by decide +kernel)) ggX8_twice_X8_isPlace
set_option maxRecDepth 20000 in
theorem ggX8_twice_X8_hasResults : GoodIn wsX8_twice wsX8_hasResults := goodIn_r _ [21, 9, 22, 33, 34, 35, 36, 37, 38, 39, 40, 41, 42, 43, 44, 45, 46, 47, 48, 49, 50, 51, 52, 53, 54, 55, 56, 57, 58, 59] (by decide +kernel) (by decide +kernel)
set_option maxRecDepth 20000 in
theorem gX8_twice_X8_hasResults : GoodIn wsX8_twice (wsV RX8 145 RX8 yX8_hasResults wsX8_hasResults) := goodIn_app (goodIn_of _ (by decide +kernel)) ggX8_twice_X8_hasResults
set_option maxRecDepth 20000 in
theorem ggX8_twice_X8_add : GoodIn wsX8_twice wsX8_add := goodIn_r _ [26, 9, 1, 2, 27, 33, 34, 35, 36, 37, 38, 39, 40, 41, 42, 43, 44, 45, 46, 47, 48, 49, 50, 51, 52, 53, 54, 55, 56, 57, 58, 59] (by decide +kernel) (by decide +kernel)
set_option maxRecDepth 20000 in
theorem gX8_twice_X8_add : GoodIn wsX8_twice (wsV RX8 151 RX8 yX8_add wsX8_add) := goodIn_app (goodIn_of _ (by decide +kernel)) ggX8_twice_X8_add
set_option maxRecDepth 20000 in
theorem ggX8_twice_X8_quarter : GoodIn wsX8_twice wsX8_quarter := goodIn_r _ [31, 3, 32, 33, 34, 35, 36, 37, 38, 39, 40, 41, 42, 43, 44, 45, 46, 47, 48, 49, 50, 51, 52, 53, 54, 55, 56, 57, 58, 59] (by decide +kernel) (by decide +kernel)
set_option maxRecDepth 20000 in
theorem gX8_twice_X8_quarter : GoodIn wsX8_twice (wsV RX8 154 RX8 yX8_quarter wsX8_quarter) := goodIn_app (goodIn_of _ (by decide +kernel)) ggX8_twice_X8_quarter
theorem dX8_twice_0 : decode cX8_twice 0 = .ok (.aload_n 0, 1) := by decide +kernel
theorem dX8_twice_1 : decode cX8_twice 1 = .ok (.iload_n 1, 1) := by decide +kernel
theorem dX8_twice_2 : decode cX8_twice 2 = .ok (.iload_n 2, 1) := by decide +kernel
theorem dX8_twice_3 : decode cX8_twice 3 = .ok (.invokevirtual 159, 3) := by decide +kernel
theorem dX8_twice_6 : decode cX8_twice 6 = .ok (.ifCond .ne 6, 3) := by decide +kernel
theorem dX8_twice_9 : decode cX8_twice 9 = .ok (.bipush (-101), 2) := by decide +kernel
theorem dX8_twice_11 : decode cX8_twice 11 = .ok (.ireturn, 1) := by decide +kernel
theorem dX8_twice_12 : decode cX8_twice 12 = .ok (.aload_n 0, 1) := by decide +kernel
theorem dX8_twice_13 : decode cX8_twice 13 = .ok (.getfield 59, 3) := by decide +kernel
theorem dX8_twice_16 : decode cX8_twice 16 = .ok (.bipush 16, 2) := by decide +kernel
theorem dX8_twice_18 : decode cX8_twice 18 = .ok (.iload_n 1, 1) := by decide +kernel
theorem dX8_twice_19 : decode cX8_twice 19 = .ok (.imul, 1) := by decide +kernel
theorem dX8_twice_20 : decode cX8_twice 20 = .ok (.iload_n 2, 1) := by decide +kernel
theorem dX8_twice_21 : decode cX8_twice 21 = .ok (.iadd, 1) := by decide +kernel
theorem dX8_twice_22 : decode cX8_twice 22 = .ok (.iaload, 1) := by decide +kernel
theorem dX8_twice_23 : decode cX8_twice 23 = .ok (.ifCond .eq 6, 3) := by decide +kernel
theorem dX8_twice_26 : decode cX8_twice 26 = .ok (.bipush (-102), 2) := by decide +kernel
theorem dX8_twice_28 : decode cX8_twice 28 = .ok (.ireturn, 1) := by decide +kernel
theorem dX8_twice_29 : decode cX8_twice 29 = .ok (.aload_n 0, 1) := by decide +kernel
theorem dX8_twice_30 : decode cX8_twice 30 = .ok (.getfield 62, 3) := by decide +kernel
theorem dX8_twice_33 : decode cX8_twice 33 = .ok (.bipush 16, 2) := by decide +kernel
theorem dX8_twice_35 : decode cX8_twice 35 = .ok (.iload_n 1, 1) := by decide +kernel
theorem dX8_twice_36 : decode cX8_twice 36 = .ok (.imul, 1) := by decide +kernel
theorem dX8_twice_37 : decode cX8_twice 37 = .ok (.iload_n 2, 1) := by decide +kernel
theorem dX8_twice_38 : decode cX8_twice 38 = .ok (.iadd, 1) := by decide +kernel
theorem dX8_twice_39 : decode cX8_twice 39 = .ok (.iaload, 1) := by decide +kernel
theorem dX8_twice_40 : decode cX8_twice 40 = .ok (.istore_n 3, 1) := by decide +kernel
theorem dX8_twice_41 : decode cX8_twice 41 = .ok (.aload_n 0, 1) := by decide +kernel
theorem dX8_twice_42 : decode cX8_twice 42 = .ok (.getfield 53, 3) := by decide +kernel
theorem dX8_twice_45 : decode cX8_twice 45 = .ok (.iload_n 3, 1) := by decide +kernel
theorem dX8_twice_46 : decode cX8_twice 46 = .ok (.iaload, 1) := by decide +kernel
theorem dX8_twice_47 : decode cX8_twice 47 = .ok (.ifCond .eq 11, 3) := by decide +kernel
theorem dX8_twice_50 : decode cX8_twice 50 = .ok (.aload_n 0, 1) := by decide +kernel
theorem dX8_twice_51 : decode cX8_twice 51 = .ok (.iload_n 1, 1) := by decide +kernel
theorem dX8_twice_52 : decode cX8_twice 52 = .ok (.invokevirtual 145, 3) := by decide +kernel
theorem dX8_twice_55 : decode cX8_twice 55 = .ok (.ifCond .eq 6, 3) := by decide +kernel
theorem dX8_twice_58 : decode cX8_twice 58 = .ok (.bipush (-103), 2) := by decide +kernel
theorem dX8_twice_60 : decode cX8_twice 60 = .ok (.ireturn, 1) := by decide +kernel
theorem dX8_twice_61 : decode cX8_twice 61 = .ok (.aload_n 0, 1) := by decide +kernel
theorem dX8_twice_62 : decode cX8_twice 62 = .ok (.iload_n 3, 1) := by decide +kernel
theorem dX8_twice_63 : decode cX8_twice 63 = .ok (.aload_n 0, 1) := by decide +kernel
theorem dX8_twice_64 : decode cX8_twice 64 = .ok (.iload_n 1, 1) := by decide +kernel
theorem dX8_twice_65 : decode cX8_twice 65 = .ok (.iconst 3, 1) := by decide +kernel
theorem dX8_twice_66 : decode cX8_twice 66 = .ok (.iload_n 2, 1) := by decide +kernel
theorem dX8_twice_67 : decode cX8_twice 67 = .ok (.iconst 0, 1) := by decide +kernel
theorem dX8_twice_68 : decode cX8_twice 68 = .ok (.invokevirtual 151, 3) := by decide +kernel
theorem dX8_twice_71 : decode cX8_twice 71 = .ok (.invokevirtual 154, 3) := by decide +kernel
theorem dX8_twice_74 : decode cX8_twice 74 = .ok (.ireturn, 1) := by decide +kernel
set_option maxRecDepth 20000 in
theorem ggX8_law_X8_in : GoodIn wsX8_law wsX8_in := goodIn_r _ [6] (by decide +kernel) (by decide +kernel)
set_option maxRecDepth 20000 in
theorem gX8_law_X8_in : GoodIn wsX8_law (va_wsS RX8 84 yX8_in wsX8_in) := goodIn_app (goodIn_of _ (by decide +kernel)) ggX8_law_X8_in
theorem dX8_law_0 : decode cX8_law 0 = .ok (.iload_n 1, 1) := by decide +kernel
theorem dX8_law_1 : decode cX8_law 1 = .ok (.i2l, 1) := by decide +kernel
theorem dX8_law_2 : decode cX8_law 2 = .ok (.lconst 0, 1) := by decide +kernel
theorem dX8_law_3 : decode cX8_law 3 = .ok (.lconst 1, 1) := by decide +kernel
theorem dX8_law_4 : decode cX8_law 4 = .ok (.invokestatic 84, 3) := by decide +kernel
theorem dX8_law_7 : decode cX8_law 7 = .ok (.ifCond .ne 6, 3) := by decide +kernel
theorem dX8_law_10 : decode cX8_law 10 = .ok (.bipush (-101), 2) := by decide +kernel
theorem dX8_law_12 : decode cX8_law 12 = .ok (.ireturn, 1) := by decide +kernel
theorem dX8_law_13 : decode cX8_law 13 = .ok (.iload_n 2, 1) := by decide +kernel
theorem dX8_law_14 : decode cX8_law 14 = .ok (.i2l, 1) := by decide +kernel
theorem dX8_law_15 : decode cX8_law 15 = .ok (.lconst 0, 1) := by decide +kernel
theorem dX8_law_16 : decode cX8_law 16 = .ok (.ldc2_w 95, 3) := by decide +kernel
theorem dX8_law_19 : decode cX8_law 19 = .ok (.invokestatic 84, 3) := by decide +kernel
theorem dX8_law_22 : decode cX8_law 22 = .ok (.ifCond .ne 6, 3) := by decide +kernel
theorem dX8_law_25 : decode cX8_law 25 = .ok (.bipush (-102), 2) := by decide +kernel
theorem dX8_law_27 : decode cX8_law 27 = .ok (.ireturn, 1) := by decide +kernel
theorem dX8_law_28 : decode cX8_law 28 = .ok (.aload_n 0, 1) := by decide +kernel
theorem dX8_law_29 : decode cX8_law 29 = .ok (.getfield 74, 3) := by decide +kernel
theorem dX8_law_32 : decode cX8_law 32 = .ok (.iload_n 1, 1) := by decide +kernel
theorem dX8_law_33 : decode cX8_law 33 = .ok (.iaload, 1) := by decide +kernel
theorem dX8_law_34 : decode cX8_law 34 = .ok (.istore_n 3, 1) := by decide +kernel
theorem dX8_law_35 : decode cX8_law 35 = .ok (.aload_n 0, 1) := by decide +kernel
theorem dX8_law_36 : decode cX8_law 36 = .ok (.getfield 74, 3) := by decide +kernel
theorem dX8_law_39 : decode cX8_law 39 = .ok (.iload_n 1, 1) := by decide +kernel
theorem dX8_law_40 : decode cX8_law 40 = .ok (.iload_n 2, 1) := by decide +kernel
theorem dX8_law_41 : decode cX8_law 41 = .ok (.iastore, 1) := by decide +kernel
theorem dX8_law_42 : decode cX8_law 42 = .ok (.iload_n 3, 1) := by decide +kernel
theorem dX8_law_43 : decode cX8_law 43 = .ok (.ireturn, 1) := by decide +kernel
set_option maxRecDepth 20000 in
theorem ggX8_result_X8_isPlace : GoodIn wsX8_result wsX8_isPlace := goodIn_r _ [9, 10, 11, 12, 13, 8, 14, 15, 16, 17, 18, 19, 20, 21, 22, 23, 24, 25, 26, 27, 28, 29, 30, 31, 32, 33, 34, 35, 36, 37, 38, 39, 40, 41, 42, 43, 44, 45] (by decide +kernel) (by decide +kernel)
set_option maxRecDepth 20000 in
theorem gX8_result_X8_isPlace : GoodIn wsX8_result (wsV RX8 159 RX8 yX8_isPlace wsX8_isPlace) := goodIn_app (goodIn_of _ (by decide +kernel)) ggX8_result_X8_isPlace
set_option maxRecDepth 20000 in
theorem ggX8_result_X8_in : GoodIn wsX8_result wsX8_in := goodIn_r _ [18] (by decide +kernel) (by decide +kernel)
set_option maxRecDepth 20000 in
theorem gX8_result_X8_in : GoodIn wsX8_result (va_wsS RX8 84 yX8_in wsX8_in) := goodIn_app (goodIn_of _ (by decide +kernel)) ggX8_result_X8_in
theorem dX8_result_0 : decode cX8_result 0 = .ok (.aload_n 0, 1) := by decide +kernel
theorem dX8_result_1 : decode cX8_result 1 = .ok (.iload_n 1, 1) := by decide +kernel
theorem dX8_result_2 : decode cX8_result 2 = .ok (.iload_n 2, 1) := by decide +kernel
theorem dX8_result_3 : decode cX8_result 3 = .ok (.invokevirtual 159, 3) := by decide +kernel
theorem dX8_result_6 : decode cX8_result 6 = .ok (.ifCond .ne 6, 3) := by decide +kernel
theorem dX8_result_9 : decode cX8_result 9 = .ok (.bipush (-101), 2) := by decide +kernel
theorem dX8_result_11 : decode cX8_result 11 = .ok (.ireturn, 1) := by decide +kernel
theorem dX8_result_12 : decode cX8_result 12 = .ok (.iload_n 3, 1) := by decide +kernel
theorem dX8_result_13 : decode cX8_result 13 = .ok (.i2l, 1) := by decide +kernel
theorem dX8_result_14 : decode cX8_result 14 = .ok (.ldc2_w 163, 3) := by decide +kernel
theorem dX8_result_17 : decode cX8_result 17 = .ok (.ldc2_w 116, 3) := by decide +kernel
theorem dX8_result_20 : decode cX8_result 20 = .ok (.invokestatic 84, 3) := by decide +kernel
theorem dX8_result_23 : decode cX8_result 23 = .ok (.ifCond .ne 6, 3) := by decide +kernel
theorem dX8_result_26 : decode cX8_result 26 = .ok (.bipush (-102), 2) := by decide +kernel
theorem dX8_result_28 : decode cX8_result 28 = .ok (.ireturn, 1) := by decide +kernel
theorem dX8_result_29 : decode cX8_result 29 = .ok (.aload_n 0, 1) := by decide +kernel
theorem dX8_result_30 : decode cX8_result 30 = .ok (.getfield 71, 3) := by decide +kernel
theorem dX8_result_33 : decode cX8_result 33 = .ok (.bipush 16, 2) := by decide +kernel
theorem dX8_result_35 : decode cX8_result 35 = .ok (.iload_n 1, 1) := by decide +kernel
theorem dX8_result_36 : decode cX8_result 36 = .ok (.imul, 1) := by decide +kernel
theorem dX8_result_37 : decode cX8_result 37 = .ok (.iload_n 2, 1) := by decide +kernel
theorem dX8_result_38 : decode cX8_result 38 = .ok (.iadd, 1) := by decide +kernel
theorem dX8_result_39 : decode cX8_result 39 = .ok (.iload_n 3, 1) := by decide +kernel
theorem dX8_result_40 : decode cX8_result 40 = .ok (.iastore, 1) := by decide +kernel
theorem dX8_result_41 : decode cX8_result 41 = .ok (.aload_n 0, 1) := by decide +kernel
theorem dX8_result_42 : decode cX8_result 42 = .ok (.getfield 68, 3) := by decide +kernel
theorem dX8_result_45 : decode cX8_result 45 = .ok (.bipush 16, 2) := by decide +kernel
theorem dX8_result_47 : decode cX8_result 47 = .ok (.iload_n 1, 1) := by decide +kernel
theorem dX8_result_48 : decode cX8_result 48 = .ok (.imul, 1) := by decide +kernel
theorem dX8_result_49 : decode cX8_result 49 = .ok (.iload_n 2, 1) := by decide +kernel
theorem dX8_result_50 : decode cX8_result 50 = .ok (.iadd, 1) := by decide +kernel
theorem dX8_result_51 : decode cX8_result 51 = .ok (.iconst 1, 1) := by decide +kernel
theorem dX8_result_52 : decode cX8_result 52 = .ok (.bastore, 1) := by decide +kernel
theorem dX8_result_53 : decode cX8_result 53 = .ok (.iconst 1, 1) := by decide +kernel
theorem dX8_result_54 : decode cX8_result 54 = .ok (.ireturn, 1) := by decide +kernel
theorem dX8_lower_0 : decode cX8_lower 0 = .ok (.aload_n 0, 1) := by decide +kernel
theorem dX8_lower_1 : decode cX8_lower 1 = .ok (.getfield 71, 3) := by decide +kernel
theorem dX8_lower_4 : decode cX8_lower 4 = .ok (.iload_n 1, 1) := by decide +kernel
theorem dX8_lower_5 : decode cX8_lower 5 = .ok (.iaload, 1) := by decide +kernel
theorem dX8_lower_6 : decode cX8_lower 6 = .ok (.ifCond .ge 7, 3) := by decide +kernel
theorem dX8_lower_9 : decode cX8_lower 9 = .ok (.iconst 0, 1) := by decide +kernel
theorem dX8_lower_10 : decode cX8_lower 10 = .ok (.goto 9, 3) := by decide +kernel
theorem dX8_lower_13 : decode cX8_lower 13 = .ok (.aload_n 0, 1) := by decide +kernel
theorem dX8_lower_14 : decode cX8_lower 14 = .ok (.getfield 71, 3) := by decide +kernel
theorem dX8_lower_17 : decode cX8_lower 17 = .ok (.iload_n 1, 1) := by decide +kernel
theorem dX8_lower_18 : decode cX8_lower 18 = .ok (.iaload, 1) := by decide +kernel
theorem dX8_lower_19 : decode cX8_lower 19 = .ok (.ireturn, 1) := by decide +kernel
theorem dX8_upper_0 : decode cX8_upper 0 = .ok (.aload_n 0, 1) := by decide +kernel
theorem dX8_upper_1 : decode cX8_upper 1 = .ok (.getfield 71, 3) := by decide +kernel
theorem dX8_upper_4 : decode cX8_upper 4 = .ok (.iload_n 1, 1) := by decide +kernel
theorem dX8_upper_5 : decode cX8_upper 5 = .ok (.iaload, 1) := by decide +kernel
theorem dX8_upper_6 : decode cX8_upper 6 = .ok (.ifCond .ge 15, 3) := by decide +kernel
theorem dX8_upper_9 : decode cX8_upper 9 = .ok (.aload_n 0, 1) := by decide +kernel
theorem dX8_upper_10 : decode cX8_upper 10 = .ok (.getfield 71, 3) := by decide +kernel
theorem dX8_upper_13 : decode cX8_upper 13 = .ok (.iload_n 1, 1) := by decide +kernel
theorem dX8_upper_14 : decode cX8_upper 14 = .ok (.iaload, 1) := by decide +kernel
theorem dX8_upper_15 : decode cX8_upper 15 = .ok (.ineg, 1) := by decide +kernel
theorem dX8_upper_16 : decode cX8_upper 16 = .ok (.iconst 1, 1) := by decide +kernel
theorem dX8_upper_17 : decode cX8_upper 17 = .ok (.isub, 1) := by decide +kernel
theorem dX8_upper_18 : decode cX8_upper 18 = .ok (.goto 9, 3) := by decide +kernel
theorem dX8_upper_21 : decode cX8_upper 21 = .ok (.aload_n 0, 1) := by decide +kernel
theorem dX8_upper_22 : decode cX8_upper 22 = .ok (.getfield 71, 3) := by decide +kernel
theorem dX8_upper_25 : decode cX8_upper 25 = .ok (.iload_n 1, 1) := by decide +kernel
theorem dX8_upper_26 : decode cX8_upper 26 = .ok (.iaload, 1) := by decide +kernel
theorem dX8_upper_27 : decode cX8_upper 27 = .ok (.ireturn, 1) := by decide +kernel
theorem dX8_far_0 : decode cX8_far 0 = .ok (.iload_n 0, 1) := by decide +kernel
theorem dX8_far_1 : decode cX8_far 1 = .ok (.iload_n 1, 1) := by decide +kernel
theorem dX8_far_2 : decode cX8_far 2 = .ok (.if_icmp .ge 9, 3) := by decide +kernel
theorem dX8_far_5 : decode cX8_far 5 = .ok (.iload_n 1, 1) := by decide +kernel
theorem dX8_far_6 : decode cX8_far 6 = .ok (.iload_n 0, 1) := by decide +kernel
theorem dX8_far_7 : decode cX8_far 7 = .ok (.isub, 1) := by decide +kernel
theorem dX8_far_8 : decode cX8_far 8 = .ok (.goto 6, 3) := by decide +kernel
theorem dX8_far_11 : decode cX8_far 11 = .ok (.iload_n 0, 1) := by decide +kernel
theorem dX8_far_12 : decode cX8_far 12 = .ok (.iload_n 1, 1) := by decide +kernel
end
section
theorem dX8_far_13 : decode cX8_far 13 = .ok (.isub, 1) := by decide +kernel
theorem dX8_far_14 : decode cX8_far 14 = .ok (.ireturn, 1) := by decide +kernel
set_option maxRecDepth 20000 in
theorem ggX8_isGood_X8_lower : GoodIn wsX8_isGood wsX8_lower := goodIn_r _ [10, 11, 19, 20, 21, 22, 23, 24, 25, 26, 27, 28, 29, 30, 31, 32, 33, 34, 35, 36, 37, 38, 39, 40, 41, 42, 43, 44, 45] (by decide +kernel) (by decide +kernel)
set_option maxRecDepth 20000 in
theorem gX8_isGood_X8_lower : GoodIn wsX8_isGood (wsV RX8 165 RX8 yX8_lower wsX8_lower) := goodIn_app (goodIn_of _ (by decide +kernel)) ggX8_isGood_X8_lower
set_option maxRecDepth 20000 in
theorem ggX8_isGood_X8_far : GoodIn wsX8_isGood wsX8_far := goodIn_r _ [14] (by decide +kernel) (by decide +kernel)
set_option maxRecDepth 20000 in
theorem gX8_isGood_X8_far : GoodIn wsX8_isGood (va_wsS RX8 168 yX8_far wsX8_far) := goodIn_app (goodIn_of _ (by decide +kernel)) ggX8_isGood_X8_far
set_option maxRecDepth 20000 in
theorem ggX8_isGood_X8_upper : GoodIn wsX8_isGood wsX8_upper := goodIn_r _ [18, 11, 19, 20, 21, 22, 23, 24, 25, 26, 27, 28, 29, 30, 31, 32, 33, 34, 35, 36, 37, 38, 39, 40, 41, 42, 43, 44, 45] (by decide +kernel) (by decide +kernel)
set_option maxRecDepth 20000 in
theorem gX8_isGood_X8_upper : GoodIn wsX8_isGood (wsV RX8 171 RX8 yX8_upper wsX8_upper) := goodIn_app (goodIn_of _ (by decide +kernel)) ggX8_isGood_X8_upper
theorem dX8_isGood_0 : decode cX8_isGood 0 = .ok (.bipush 16, 2) := by decide +kernel
theorem dX8_isGood_2 : decode cX8_isGood 2 = .ok (.iload_n 1, 1) := by decide +kernel
theorem dX8_isGood_3 : decode cX8_isGood 3 = .ok (.imul, 1) := by decide +kernel
theorem dX8_isGood_4 : decode cX8_isGood 4 = .ok (.iload_n 2, 1) := by decide +kernel
theorem dX8_isGood_5 : decode cX8_isGood 5 = .ok (.iadd, 1) := by decide +kernel
theorem dX8_isGood_6 : decode cX8_isGood 6 = .ok (.istore_n 3, 1) := by decide +kernel
theorem dX8_isGood_7 : decode cX8_isGood 7 = .ok (.aload_n 0, 1) := by decide +kernel
theorem dX8_isGood_8 : decode cX8_isGood 8 = .ok (.getfield 59, 3) := by decide +kernel
theorem dX8_isGood_11 : decode cX8_isGood 11 = .ok (.iload_n 3, 1) := by decide +kernel
theorem dX8_isGood_12 : decode cX8_isGood 12 = .ok (.iaload, 1) := by decide +kernel
theorem dX8_isGood_13 : decode cX8_isGood 13 = .ok (.iconst 1, 1) := by decide +kernel
theorem dX8_isGood_14 : decode cX8_isGood 14 = .ok (.if_icmp .ne 55, 3) := by decide +kernel
theorem dX8_isGood_17 : decode cX8_isGood 17 = .ok (.aload_n 0, 1) := by decide +kernel
theorem dX8_isGood_18 : decode cX8_isGood 18 = .ok (.iload_n 3, 1) := by decide +kernel
theorem dX8_isGood_19 : decode cX8_isGood 19 = .ok (.invokevirtual 165, 3) := by decide +kernel
theorem dX8_isGood_22 : decode cX8_isGood 22 = .ok (.aload_n 0, 1) := by decide +kernel
theorem dX8_isGood_23 : decode cX8_isGood 23 = .ok (.getfield 62, 3) := by decide +kernel
theorem dX8_isGood_26 : decode cX8_isGood 26 = .ok (.iload_n 3, 1) := by decide +kernel
theorem dX8_isGood_27 : decode cX8_isGood 27 = .ok (.iaload, 1) := by decide +kernel
theorem dX8_isGood_28 : decode cX8_isGood 28 = .ok (.invokestatic 168, 3) := by decide +kernel
theorem dX8_isGood_31 : decode cX8_isGood 31 = .ok (.aload_n 0, 1) := by decide +kernel
theorem dX8_isGood_32 : decode cX8_isGood 32 = .ok (.getfield 65, 3) := by decide +kernel
theorem dX8_isGood_35 : decode cX8_isGood 35 = .ok (.iload_n 3, 1) := by decide +kernel
theorem dX8_isGood_36 : decode cX8_isGood 36 = .ok (.iaload, 1) := by decide +kernel
theorem dX8_isGood_37 : decode cX8_isGood 37 = .ok (.if_icmp .gt 30, 3) := by decide +kernel
theorem dX8_isGood_40 : decode cX8_isGood 40 = .ok (.aload_n 0, 1) := by decide +kernel
theorem dX8_isGood_41 : decode cX8_isGood 41 = .ok (.iload_n 3, 1) := by decide +kernel
theorem dX8_isGood_42 : decode cX8_isGood 42 = .ok (.invokevirtual 171, 3) := by decide +kernel
theorem dX8_isGood_45 : decode cX8_isGood 45 = .ok (.aload_n 0, 1) := by decide +kernel
theorem dX8_isGood_46 : decode cX8_isGood 46 = .ok (.getfield 62, 3) := by decide +kernel
theorem dX8_isGood_49 : decode cX8_isGood 49 = .ok (.iload_n 3, 1) := by decide +kernel
theorem dX8_isGood_50 : decode cX8_isGood 50 = .ok (.iaload, 1) := by decide +kernel
theorem dX8_isGood_51 : decode cX8_isGood 51 = .ok (.invokestatic 168, 3) := by decide +kernel
theorem dX8_isGood_54 : decode cX8_isGood 54 = .ok (.aload_n 0, 1) := by decide +kernel
theorem dX8_isGood_55 : decode cX8_isGood 55 = .ok (.getfield 65, 3) := by decide +kernel
theorem dX8_isGood_58 : decode cX8_isGood 58 = .ok (.iload_n 3, 1) := by decide +kernel
theorem dX8_isGood_59 : decode cX8_isGood 59 = .ok (.iaload, 1) := by decide +kernel
theorem dX8_isGood_60 : decode cX8_isGood 60 = .ok (.if_icmp .gt 7, 3) := by decide +kernel
theorem dX8_isGood_63 : decode cX8_isGood 63 = .ok (.iconst 1, 1) := by decide +kernel
theorem dX8_isGood_64 : decode cX8_isGood 64 = .ok (.goto 4, 3) := by decide +kernel
theorem dX8_isGood_67 : decode cX8_isGood 67 = .ok (.iconst 0, 1) := by decide +kernel
theorem dX8_isGood_68 : decode cX8_isGood 68 = .ok (.ireturn, 1) := by decide +kernel
theorem dX8_isGood_69 : decode cX8_isGood 69 = .ok (.aload_n 0, 1) := by decide +kernel
theorem dX8_isGood_70 : decode cX8_isGood 70 = .ok (.getfield 59, 3) := by decide +kernel
theorem dX8_isGood_73 : decode cX8_isGood 73 = .ok (.iload_n 3, 1) := by decide +kernel
theorem dX8_isGood_74 : decode cX8_isGood 74 = .ok (.iaload, 1) := by decide +kernel
theorem dX8_isGood_75 : decode cX8_isGood 75 = .ok (.iconst 2, 1) := by decide +kernel
theorem dX8_isGood_76 : decode cX8_isGood 76 = .ok (.if_icmp .ne 23, 3) := by decide +kernel
theorem dX8_isGood_79 : decode cX8_isGood 79 = .ok (.aload_n 0, 1) := by decide +kernel
theorem dX8_isGood_80 : decode cX8_isGood 80 = .ok (.iload_n 3, 1) := by decide +kernel
theorem dX8_isGood_81 : decode cX8_isGood 81 = .ok (.invokevirtual 171, 3) := by decide +kernel
theorem dX8_isGood_84 : decode cX8_isGood 84 = .ok (.aload_n 0, 1) := by decide +kernel
theorem dX8_isGood_85 : decode cX8_isGood 85 = .ok (.getfield 74, 3) := by decide +kernel
theorem dX8_isGood_88 : decode cX8_isGood 88 = .ok (.iconst 0, 1) := by decide +kernel
theorem dX8_isGood_89 : decode cX8_isGood 89 = .ok (.iaload, 1) := by decide +kernel
theorem dX8_isGood_90 : decode cX8_isGood 90 = .ok (.if_icmp .gt 7, 3) := by decide +kernel
theorem dX8_isGood_93 : decode cX8_isGood 93 = .ok (.iconst 1, 1) := by decide +kernel
theorem dX8_isGood_94 : decode cX8_isGood 94 = .ok (.goto 4, 3) := by decide +kernel
theorem dX8_isGood_97 : decode cX8_isGood 97 = .ok (.iconst 0, 1) := by decide +kernel
theorem dX8_isGood_98 : decode cX8_isGood 98 = .ok (.ireturn, 1) := by decide +kernel
theorem dX8_isGood_99 : decode cX8_isGood 99 = .ok (.aload_n 0, 1) := by decide +kernel
theorem dX8_isGood_100 : decode cX8_isGood 100 = .ok (.getfield 59, 3) := by decide +kernel
theorem dX8_isGood_103 : decode cX8_isGood 103 = .ok (.iload_n 3, 1) := by decide +kernel
theorem dX8_isGood_104 : decode cX8_isGood 104 = .ok (.iaload, 1) := by decide +kernel
theorem dX8_isGood_105 : decode cX8_isGood 105 = .ok (.iconst 3, 1) := by decide +kernel
theorem dX8_isGood_106 : decode cX8_isGood 106 = .ok (.if_icmp .ne 72, 3) := by decide +kernel
theorem dX8_isGood_109 : decode cX8_isGood 109 = .ok (.aload_n 0, 1) := by decide +kernel
theorem dX8_isGood_110 : decode cX8_isGood 110 = .ok (.iload_n 3, 1) := by decide +kernel
theorem dX8_isGood_111 : decode cX8_isGood 111 = .ok (.invokevirtual 171, 3) := by decide +kernel
theorem dX8_isGood_114 : decode cX8_isGood 114 = .ok (.istore 4, 2) := by decide +kernel
theorem dX8_isGood_116 : decode cX8_isGood 116 = .ok (.aload_n 0, 1) := by decide +kernel
theorem dX8_isGood_117 : decode cX8_isGood 117 = .ok (.bipush 16, 2) := by decide +kernel
theorem dX8_isGood_119 : decode cX8_isGood 119 = .ok (.iload_n 1, 1) := by decide +kernel
theorem dX8_isGood_120 : decode cX8_isGood 120 = .ok (.imul, 1) := by decide +kernel
theorem dX8_isGood_121 : decode cX8_isGood 121 = .ok (.aload_n 0, 1) := by decide +kernel
theorem dX8_isGood_122 : decode cX8_isGood 122 = .ok (.getfield 62, 3) := by decide +kernel
theorem dX8_isGood_125 : decode cX8_isGood 125 = .ok (.iload_n 3, 1) := by decide +kernel
theorem dX8_isGood_126 : decode cX8_isGood 126 = .ok (.iaload, 1) := by decide +kernel
theorem dX8_isGood_127 : decode cX8_isGood 127 = .ok (.iadd, 1) := by decide +kernel
theorem dX8_isGood_128 : decode cX8_isGood 128 = .ok (.invokevirtual 171, 3) := by decide +kernel
theorem dX8_isGood_131 : decode cX8_isGood 131 = .ok (.istore 5, 2) := by decide +kernel
theorem dX8_isGood_133 : decode cX8_isGood 133 = .ok (.ldc2_w 95, 3) := by decide +kernel
theorem dX8_isGood_136 : decode cX8_isGood 136 = .ok (.iload 4, 2) := by decide +kernel
theorem dX8_isGood_138 : decode cX8_isGood 138 = .ok (.iload 5, 2) := by decide +kernel
theorem dX8_isGood_140 : decode cX8_isGood 140 = .ok (.invokestatic 168, 3) := by decide +kernel
theorem dX8_isGood_143 : decode cX8_isGood 143 = .ok (.i2l, 1) := by decide +kernel
theorem dX8_isGood_144 : decode cX8_isGood 144 = .ok (.lmul, 1) := by decide +kernel
theorem dX8_isGood_145 : decode cX8_isGood 145 = .ok (.aload_n 0, 1) := by decide +kernel
theorem dX8_isGood_146 : decode cX8_isGood 146 = .ok (.getfield 74, 3) := by decide +kernel
theorem dX8_isGood_149 : decode cX8_isGood 149 = .ok (.iconst 1, 1) := by decide +kernel
theorem dX8_isGood_150 : decode cX8_isGood 150 = .ok (.iaload, 1) := by decide +kernel
theorem dX8_isGood_151 : decode cX8_isGood 151 = .ok (.i2l, 1) := by decide +kernel
theorem dX8_isGood_152 : decode cX8_isGood 152 = .ok (.iload 4, 2) := by decide +kernel
theorem dX8_isGood_154 : decode cX8_isGood 154 = .ok (.iload 5, 2) := by decide +kernel
theorem dX8_isGood_156 : decode cX8_isGood 156 = .ok (.if_icmp .le 8, 3) := by decide +kernel
theorem dX8_isGood_159 : decode cX8_isGood 159 = .ok (.iload 4, 2) := by decide +kernel
theorem dX8_isGood_161 : decode cX8_isGood 161 = .ok (.goto 5, 3) := by decide +kernel
theorem dX8_isGood_164 : decode cX8_isGood 164 = .ok (.iload 5, 2) := by decide +kernel
theorem dX8_isGood_166 : decode cX8_isGood 166 = .ok (.i2l, 1) := by decide +kernel
theorem dX8_isGood_167 : decode cX8_isGood 167 = .ok (.lmul, 1) := by decide +kernel
theorem dX8_isGood_168 : decode cX8_isGood 168 = .ok (.lcmp, 1) := by decide +kernel
theorem dX8_isGood_169 : decode cX8_isGood 169 = .ok (.ifCond .gt 7, 3) := by decide +kernel
theorem dX8_isGood_172 : decode cX8_isGood 172 = .ok (.iconst 1, 1) := by decide +kernel
theorem dX8_isGood_173 : decode cX8_isGood 173 = .ok (.goto 4, 3) := by decide +kernel
theorem dX8_isGood_176 : decode cX8_isGood 176 = .ok (.iconst 0, 1) := by decide +kernel
theorem dX8_isGood_177 : decode cX8_isGood 177 = .ok (.ireturn, 1) := by decide +kernel
theorem dX8_isGood_178 : decode cX8_isGood 178 = .ok (.iconst 1, 1) := by decide +kernel
theorem dX8_isGood_179 : decode cX8_isGood 179 = .ok (.ireturn, 1) := by decide +kernel
theorem dX8_isTold_0 : decode cX8_isTold 0 = .ok (.aload_n 0, 1) := by decide +kernel
theorem dX8_isTold_1 : decode cX8_isTold 1 = .ok (.getfield 56, 3) := by decide +kernel
theorem dX8_isTold_4 : decode cX8_isTold 4 = .ok (.iload_n 1, 1) := by decide +kernel
theorem dX8_isTold_5 : decode cX8_isTold 5 = .ok (.iaload, 1) := by decide +kernel
theorem dX8_isTold_6 : decode cX8_isTold 6 = .ok (.ifCond .le 7, 3) := by decide +kernel
theorem dX8_isTold_9 : decode cX8_isTold 9 = .ok (.iconst 1, 1) := by decide +kernel
theorem dX8_isTold_10 : decode cX8_isTold 10 = .ok (.goto 4, 3) := by decide +kernel
theorem dX8_isTold_13 : decode cX8_isTold 13 = .ok (.iconst 0, 1) := by decide +kernel
theorem dX8_isTold_14 : decode cX8_isTold 14 = .ok (.istore_n 2, 1) := by decide +kernel
theorem dX8_isTold_15 : decode cX8_isTold 15 = .ok (.iconst 0, 1) := by decide +kernel
theorem dX8_isTold_16 : decode cX8_isTold 16 = .ok (.istore_n 3, 1) := by decide +kernel
theorem dX8_isTold_17 : decode cX8_isTold 17 = .ok (.iload_n 3, 1) := by decide +kernel
theorem dX8_isTold_18 : decode cX8_isTold 18 = .ok (.aload_n 0, 1) := by decide +kernel
theorem dX8_isTold_19 : decode cX8_isTold 19 = .ok (.getfield 56, 3) := by decide +kernel
theorem dX8_isTold_22 : decode cX8_isTold 22 = .ok (.iload_n 1, 1) := by decide +kernel
theorem dX8_isTold_23 : decode cX8_isTold 23 = .ok (.iaload, 1) := by decide +kernel
theorem dX8_isTold_24 : decode cX8_isTold 24 = .ok (.if_icmp .ge 33, 3) := by decide +kernel
theorem dX8_isTold_27 : decode cX8_isTold 27 = .ok (.iload_n 2, 1) := by decide +kernel
theorem dX8_isTold_28 : decode cX8_isTold 28 = .ok (.ifCond .eq 21, 3) := by decide +kernel
theorem dX8_isTold_31 : decode cX8_isTold 31 = .ok (.aload_n 0, 1) := by decide +kernel
theorem dX8_isTold_32 : decode cX8_isTold 32 = .ok (.getfield 68, 3) := by decide +kernel
theorem dX8_isTold_35 : decode cX8_isTold 35 = .ok (.bipush 16, 2) := by decide +kernel
theorem dX8_isTold_37 : decode cX8_isTold 37 = .ok (.iload_n 1, 1) := by decide +kernel
theorem dX8_isTold_38 : decode cX8_isTold 38 = .ok (.imul, 1) := by decide +kernel
theorem dX8_isTold_39 : decode cX8_isTold 39 = .ok (.iload_n 3, 1) := by decide +kernel
theorem dX8_isTold_40 : decode cX8_isTold 40 = .ok (.iadd, 1) := by decide +kernel
theorem dX8_isTold_41 : decode cX8_isTold 41 = .ok (.baload, 1) := by decide +kernel
theorem dX8_isTold_42 : decode cX8_isTold 42 = .ok (.ifCond .eq 7, 3) := by decide +kernel
theorem dX8_isTold_45 : decode cX8_isTold 45 = .ok (.iconst 1, 1) := by decide +kernel
theorem dX8_isTold_46 : decode cX8_isTold 46 = .ok (.goto 4, 3) := by decide +kernel
theorem dX8_isTold_49 : decode cX8_isTold 49 = .ok (.iconst 0, 1) := by decide +kernel
theorem dX8_isTold_50 : decode cX8_isTold 50 = .ok (.istore_n 2, 1) := by decide +kernel
theorem dX8_isTold_51 : decode cX8_isTold 51 = .ok (.iinc 3 1, 3) := by decide +kernel
theorem dX8_isTold_54 : decode cX8_isTold 54 = .ok (.goto (-37), 3) := by decide +kernel
theorem dX8_isTold_57 : decode cX8_isTold 57 = .ok (.iload_n 2, 1) := by decide +kernel
theorem dX8_isTold_58 : decode cX8_isTold 58 = .ok (.ireturn, 1) := by decide +kernel
set_option maxRecDepth 20000 in
theorem ggX8_faultOf_X8_isGood : GoodIn wsX8_faultOf wsX8_isGood := goodIn_r _ [6, 7, 8, 9, 10, 11, 12, 13, 14, 5, 15, 16, 17, 18, 19, 20, 21, 22, 23, 24, 25, 26, 27, 28, 29, 30, 31, 32, 33, 34, 35, 36, 37, 38, 39, 40, 41, 42, 43, 44, 45, 46, 47, 48, 49, 50] (by decide +kernel) (by decide +kernel)
set_option maxRecDepth 20000 in
theorem gX8_faultOf_X8_isGood : GoodIn wsX8_faultOf (wsV RX8 174 RX8 yX8_isGood wsX8_isGood) := goodIn_app (goodIn_of _ (by decide +kernel)) ggX8_faultOf_X8_isGood
theorem dX8_faultOf_0 : decode cX8_faultOf 0 = .ok (.iconst 0, 1) := by decide +kernel
theorem dX8_faultOf_1 : decode cX8_faultOf 1 = .ok (.istore_n 2, 1) := by decide +kernel
theorem dX8_faultOf_2 : decode cX8_faultOf 2 = .ok (.iload_n 2, 1) := by decide +kernel
theorem dX8_faultOf_3 : decode cX8_faultOf 3 = .ok (.aload_n 0, 1) := by decide +kernel
theorem dX8_faultOf_4 : decode cX8_faultOf 4 = .ok (.getfield 56, 3) := by decide +kernel
theorem dX8_faultOf_7 : decode cX8_faultOf 7 = .ok (.iload_n 1, 1) := by decide +kernel
theorem dX8_faultOf_8 : decode cX8_faultOf 8 = .ok (.iaload, 1) := by decide +kernel
theorem dX8_faultOf_9 : decode cX8_faultOf 9 = .ok (.if_icmp .ge 20, 3) := by decide +kernel
theorem dX8_faultOf_12 : decode cX8_faultOf 12 = .ok (.aload_n 0, 1) := by decide +kernel
theorem dX8_faultOf_13 : decode cX8_faultOf 13 = .ok (.iload_n 1, 1) := by decide +kernel
theorem dX8_faultOf_14 : decode cX8_faultOf 14 = .ok (.iload_n 2, 1) := by decide +kernel
theorem dX8_faultOf_15 : decode cX8_faultOf 15 = .ok (.invokevirtual 174, 3) := by decide +kernel
theorem dX8_faultOf_18 : decode cX8_faultOf 18 = .ok (.ifCond .ne 5, 3) := by decide +kernel
theorem dX8_faultOf_21 : decode cX8_faultOf 21 = .ok (.iload_n 2, 1) := by decide +kernel
theorem dX8_faultOf_22 : decode cX8_faultOf 22 = .ok (.ireturn, 1) := by decide +kernel
theorem dX8_faultOf_23 : decode cX8_faultOf 23 = .ok (.iinc 2 1, 3) := by decide +kernel
theorem dX8_faultOf_26 : decode cX8_faultOf 26 = .ok (.goto (-24), 3) := by decide +kernel
theorem dX8_faultOf_29 : decode cX8_faultOf 29 = .ok (.iconst (-1), 1) := by decide +kernel
theorem dX8_faultOf_30 : decode cX8_faultOf 30 = .ok (.ireturn, 1) := by decide +kernel
set_option maxRecDepth 20000 in
theorem ggX8_isSound_X8_isTold : GoodIn wsX8_isSound wsX8_isTold := goodIn_r _ [5, 6, 7, 33, 34, 35, 36, 37, 38, 39, 40, 41, 42, 43, 44, 45, 46, 47, 48, 49, 50, 51, 52, 53, 54, 55, 56, 57, 58, 59] (by decide +kernel) (by decide +kernel)
set_option maxRecDepth 20000 in
theorem gX8_isSound_X8_isTold : GoodIn wsX8_isSound (wsV RX8 177 RX8 yX8_isTold wsX8_isTold) := goodIn_app (goodIn_of _ (by decide +kernel)) ggX8_isSound_X8_isTold
set_option maxRecDepth 20000 in
theorem ggX8_isSound_X8_faultOf : GoodIn wsX8_isSound wsX8_faultOf := goodIn_r _ [11, 6, 12, 13, 14, 4, 15, 16, 17, 18, 19, 20, 21, 22, 23, 24, 25, 26, 27, 28, 29, 30, 31, 32, 33, 34, 35, 36, 37, 38, 39, 40, 41, 42, 43, 44, 45, 46, 47, 48, 49, 50, 51, 52, 53, 54, 55, 56, 57, 58, 59] (by decide +kernel) (by decide +kernel)
set_option maxRecDepth 20000 in
theorem gX8_isSound_X8_faultOf : GoodIn wsX8_isSound (wsV RX8 180 RX8 yX8_faultOf wsX8_faultOf) := goodIn_app (goodIn_of _ (by decide +kernel)) ggX8_isSound_X8_faultOf
theorem dX8_isSound_0 : decode cX8_isSound 0 = .ok (.aload_n 0, 1) := by decide +kernel
theorem dX8_isSound_1 : decode cX8_isSound 1 = .ok (.iload_n 1, 1) := by decide +kernel
theorem dX8_isSound_2 : decode cX8_isSound 2 = .ok (.invokevirtual 177, 3) := by decide +kernel
theorem dX8_isSound_5 : decode cX8_isSound 5 = .ok (.ifCond .eq 16, 3) := by decide +kernel
theorem dX8_isSound_8 : decode cX8_isSound 8 = .ok (.aload_n 0, 1) := by decide +kernel
theorem dX8_isSound_9 : decode cX8_isSound 9 = .ok (.iload_n 1, 1) := by decide +kernel
theorem dX8_isSound_10 : decode cX8_isSound 10 = .ok (.invokevirtual 180, 3) := by decide +kernel
theorem dX8_isSound_13 : decode cX8_isSound 13 = .ok (.iconst (-1), 1) := by decide +kernel
theorem dX8_isSound_14 : decode cX8_isSound 14 = .ok (.if_icmp .ne 7, 3) := by decide +kernel
theorem dX8_isSound_17 : decode cX8_isSound 17 = .ok (.iconst 1, 1) := by decide +kernel
theorem dX8_isSound_18 : decode cX8_isSound 18 = .ok (.goto 4, 3) := by decide +kernel
theorem dX8_isSound_21 : decode cX8_isSound 21 = .ok (.iconst 0, 1) := by decide +kernel
theorem dX8_isSound_22 : decode cX8_isSound 22 = .ok (.ireturn, 1) := by decide +kernel
set_option maxRecDepth 20000 in
theorem ggX8_sound_X8_isBatch : GoodIn wsX8_sound wsX8_isBatch := goodIn_r _ [5, 6, 7, 8, 4, 9, 45, 46, 47, 48, 49, 50, 51, 52, 53, 54, 55, 56, 57, 58, 59, 60, 61, 62, 63, 64, 65, 66, 67, 68, 69, 70, 71] (by decide +kernel) (by decide +kernel)
set_option maxRecDepth 20000 in
theorem gX8_sound_X8_isBatch : GoodIn wsX8_sound (wsV RX8 136 RX8 yX8_isBatch wsX8_isBatch) := goodIn_app (goodIn_of _ (by decide +kernel)) ggX8_sound_X8_isBatch
set_option maxRecDepth 20000 in
theorem ggX8_sound_X8_isTold : GoodIn wsX8_sound wsX8_isTold := goodIn_r _ [13, 14, 15, 45, 46, 47, 48, 49, 50, 51, 52, 53, 54, 55, 56, 57, 58, 59, 60, 61, 62, 63, 64, 65, 66, 67, 68, 69, 70, 71] (by decide +kernel) (by decide +kernel)
set_option maxRecDepth 20000 in
theorem gX8_sound_X8_isTold : GoodIn wsX8_sound (wsV RX8 177 RX8 yX8_isTold wsX8_isTold) := goodIn_app (goodIn_of _ (by decide +kernel)) ggX8_sound_X8_isTold
set_option maxRecDepth 20000 in
theorem ggX8_sound_X8_isSound : GoodIn wsX8_sound wsX8_isSound := goodIn_r _ [19, 10, 11, 12, 4, 13, 14, 15, 20, 21, 22, 23, 24, 25, 26, 27, 28, 29, 30, 31, 32, 33, 34, 35, 36, 37, 38, 39, 40, 41, 42, 43, 44, 45, 46, 47, 48, 49, 50, 51, 52, 53, 54, 55, 56, 57, 58, 59, 60, 61, 62, 63, 64, 65, 66, 67, 68, 69, 70, 71] (by decide +kernel) (by decide +kernel)
set_option maxRecDepth 20000 in
theorem gX8_sound_X8_isSound : GoodIn wsX8_sound (wsV RX8 183 RX8 yX8_isSound wsX8_isSound) := goodIn_app (goodIn_of _ (by decide +kernel)) ggX8_sound_X8_isSound
theorem dX8_sound_0 : decode cX8_sound 0 = .ok (.aload_n 0, 1) := by decide +kernel
theorem dX8_sound_1 : decode cX8_sound 1 = .ok (.iload_n 1, 1) := by decide +kernel
theorem dX8_sound_2 : decode cX8_sound 2 = .ok (.invokevirtual 136, 3) := by decide +kernel
theorem dX8_sound_5 : decode cX8_sound 5 = .ok (.ifCond .ne 6, 3) := by decide +kernel
theorem dX8_sound_8 : decode cX8_sound 8 = .ok (.bipush (-101), 2) := by decide +kernel
theorem dX8_sound_10 : decode cX8_sound 10 = .ok (.ireturn, 1) := by decide +kernel
theorem dX8_sound_11 : decode cX8_sound 11 = .ok (.aload_n 0, 1) := by decide +kernel
theorem dX8_sound_12 : decode cX8_sound 12 = .ok (.iload_n 1, 1) := by decide +kernel
theorem dX8_sound_13 : decode cX8_sound 13 = .ok (.invokevirtual 177, 3) := by decide +kernel
theorem dX8_sound_16 : decode cX8_sound 16 = .ok (.ifCond .ne 8, 3) := by decide +kernel
theorem dX8_sound_19 : decode cX8_sound 19 = .ok (.bipush (-103), 2) := by decide +kernel
theorem dX8_sound_21 : decode cX8_sound 21 = .ok (.goto 16, 3) := by decide +kernel
theorem dX8_sound_24 : decode cX8_sound 24 = .ok (.aload_n 0, 1) := by decide +kernel
theorem dX8_sound_25 : decode cX8_sound 25 = .ok (.iload_n 1, 1) := by decide +kernel
theorem dX8_sound_26 : decode cX8_sound 26 = .ok (.invokevirtual 183, 3) := by decide +kernel
theorem dX8_sound_29 : decode cX8_sound 29 = .ok (.ifCond .eq 7, 3) := by decide +kernel
theorem dX8_sound_32 : decode cX8_sound 32 = .ok (.iconst 1, 1) := by decide +kernel
theorem dX8_sound_33 : decode cX8_sound 33 = .ok (.goto 4, 3) := by decide +kernel
theorem dX8_sound_36 : decode cX8_sound 36 = .ok (.iconst 0, 1) := by decide +kernel
theorem dX8_sound_37 : decode cX8_sound 37 = .ok (.ireturn, 1) := by decide +kernel
set_option maxRecDepth 20000 in
theorem ggX8_fault_X8_isBatch : GoodIn wsX8_fault wsX8_isBatch := goodIn_r _ [5, 6, 7, 8, 4, 9, 41, 42, 43, 44, 45, 46, 47, 48, 49, 50, 51, 52, 53, 54, 55, 56, 57, 58, 59, 60, 61, 62, 63, 64, 65, 66, 67] (by decide +kernel) (by decide +kernel)
set_option maxRecDepth 20000 in
theorem gX8_fault_X8_isBatch : GoodIn wsX8_fault (wsV RX8 136 RX8 yX8_isBatch wsX8_isBatch) := goodIn_app (goodIn_of _ (by decide +kernel)) ggX8_fault_X8_isBatch
set_option maxRecDepth 20000 in
theorem ggX8_fault_X8_isTold : GoodIn wsX8_fault wsX8_isTold := goodIn_r _ [13, 14, 15, 41, 42, 43, 44, 45, 46, 47, 48, 49, 50, 51, 52, 53, 54, 55, 56, 57, 58, 59, 60, 61, 62, 63, 64, 65, 66, 67] (by decide +kernel) (by decide +kernel)
set_option maxRecDepth 20000 in
theorem gX8_fault_X8_isTold : GoodIn wsX8_fault (wsV RX8 177 RX8 yX8_isTold wsX8_isTold) := goodIn_app (goodIn_of _ (by decide +kernel)) ggX8_fault_X8_isTold
set_option maxRecDepth 20000 in
theorem ggX8_fault_X8_faultOf : GoodIn wsX8_fault wsX8_faultOf := goodIn_r _ [19, 14, 20, 21, 22, 4, 23, 24, 25, 26, 27, 28, 29, 30, 31, 32, 33, 34, 35, 36, 37, 38, 39, 40, 41, 42, 43, 44, 45, 46, 47, 48, 49, 50, 51, 52, 53, 54, 55, 56, 57, 58, 59, 60, 61, 62, 63, 64, 65, 66, 67] (by decide +kernel) (by decide +kernel)
set_option maxRecDepth 20000 in
theorem gX8_fault_X8_faultOf : GoodIn wsX8_fault (wsV RX8 180 RX8 yX8_faultOf wsX8_faultOf) := goodIn_app (goodIn_of _ (by decide +kernel)) ggX8_fault_X8_faultOf
theorem dX8_fault_0 : decode cX8_fault 0 = .ok (.aload_n 0, 1) := by decide +kernel
theorem dX8_fault_1 : decode cX8_fault 1 = .ok (.iload_n 1, 1) := by decide +kernel
theorem dX8_fault_2 : decode cX8_fault 2 = .ok (.invokevirtual 136, 3) := by decide +kernel
theorem dX8_fault_5 : decode cX8_fault 5 = .ok (.ifCond .ne 6, 3) := by decide +kernel
theorem dX8_fault_8 : decode cX8_fault 8 = .ok (.bipush (-101), 2) := by decide +kernel
theorem dX8_fault_10 : decode cX8_fault 10 = .ok (.ireturn, 1) := by decide +kernel
theorem dX8_fault_11 : decode cX8_fault 11 = .ok (.aload_n 0, 1) := by decide +kernel
theorem dX8_fault_12 : decode cX8_fault 12 = .ok (.iload_n 1, 1) := by decide +kernel
theorem dX8_fault_13 : decode cX8_fault 13 = .ok (.invokevirtual 177, 3) := by decide +kernel
theorem dX8_fault_16 : decode cX8_fault 16 = .ok (.ifCond .eq 11, 3) := by decide +kernel
theorem dX8_fault_19 : decode cX8_fault 19 = .ok (.aload_n 0, 1) := by decide +kernel
theorem dX8_fault_20 : decode cX8_fault 20 = .ok (.iload_n 1, 1) := by decide +kernel
theorem dX8_fault_21 : decode cX8_fault 21 = .ok (.invokevirtual 180, 3) := by decide +kernel
theorem dX8_fault_24 : decode cX8_fault 24 = .ok (.goto 5, 3) := by decide +kernel
theorem dX8_fault_27 : decode cX8_fault 27 = .ok (.bipush (-103), 2) := by decide +kernel
theorem dX8_fault_29 : decode cX8_fault 29 = .ok (.ireturn, 1) := by decide +kernel
theorem dX8_turn_0 : decode cX8_turn 0 = .ok (.aload_n 0, 1) := by decide +kernel
theorem dX8_turn_1 : decode cX8_turn 1 = .ok (.getfield 71, 3) := by decide +kernel
theorem dX8_turn_4 : decode cX8_turn 4 = .ok (.bipush 16, 2) := by decide +kernel
theorem dX8_turn_6 : decode cX8_turn 6 = .ok (.iload_n 1, 1) := by decide +kernel
theorem dX8_turn_7 : decode cX8_turn 7 = .ok (.imul, 1) := by decide +kernel
theorem dX8_turn_8 : decode cX8_turn 8 = .ok (.iload_n 2, 1) := by decide +kernel
theorem dX8_turn_9 : decode cX8_turn 9 = .ok (.iadd, 1) := by decide +kernel
theorem dX8_turn_10 : decode cX8_turn 10 = .ok (.iaload, 1) := by decide +kernel
theorem dX8_turn_11 : decode cX8_turn 11 = .ok (.istore_n 3, 1) := by decide +kernel
theorem dX8_turn_12 : decode cX8_turn 12 = .ok (.aload_n 0, 1) := by decide +kernel
theorem dX8_turn_13 : decode cX8_turn 13 = .ok (.getfield 71, 3) := by decide +kernel
theorem dX8_turn_16 : decode cX8_turn 16 = .ok (.bipush 16, 2) := by decide +kernel
theorem dX8_turn_18 : decode cX8_turn 18 = .ok (.iload_n 1, 1) := by decide +kernel
theorem dX8_turn_19 : decode cX8_turn 19 = .ok (.imul, 1) := by decide +kernel
theorem dX8_turn_20 : decode cX8_turn 20 = .ok (.iload_n 2, 1) := by decide +kernel
theorem dX8_turn_21 : decode cX8_turn 21 = .ok (.iadd, 1) := by decide +kernel
theorem dX8_turn_22 : decode cX8_turn 22 = .ok (.aload_n 0, 1) := by decide +kernel
theorem dX8_turn_23 : decode cX8_turn 23 = .ok (.getfield 71, 3) := by decide +kernel
theorem dX8_turn_26 : decode cX8_turn 26 = .ok (.bipush 16, 2) := by decide +kernel
theorem dX8_turn_28 : decode cX8_turn 28 = .ok (.iload_n 1, 1) := by decide +kernel
theorem dX8_turn_29 : decode cX8_turn 29 = .ok (.imul, 1) := by decide +kernel
theorem dX8_turn_30 : decode cX8_turn 30 = .ok (.iload_n 2, 1) := by decide +kernel
theorem dX8_turn_31 : decode cX8_turn 31 = .ok (.iadd, 1) := by decide +kernel
theorem dX8_turn_32 : decode cX8_turn 32 = .ok (.iconst 1, 1) := by decide +kernel
theorem dX8_turn_33 : decode cX8_turn 33 = .ok (.iadd, 1) := by decide +kernel
theorem dX8_turn_34 : decode cX8_turn 34 = .ok (.iaload, 1) := by decide +kernel
theorem dX8_turn_35 : decode cX8_turn 35 = .ok (.iastore, 1) := by decide +kernel
theorem dX8_turn_36 : decode cX8_turn 36 = .ok (.aload_n 0, 1) := by decide +kernel
theorem dX8_turn_37 : decode cX8_turn 37 = .ok (.getfield 71, 3) := by decide +kernel
theorem dX8_turn_40 : decode cX8_turn 40 = .ok (.bipush 16, 2) := by decide +kernel
theorem dX8_turn_42 : decode cX8_turn 42 = .ok (.iload_n 1, 1) := by decide +kernel
theorem dX8_turn_43 : decode cX8_turn 43 = .ok (.imul, 1) := by decide +kernel
theorem dX8_turn_44 : decode cX8_turn 44 = .ok (.iload_n 2, 1) := by decide +kernel
theorem dX8_turn_45 : decode cX8_turn 45 = .ok (.iadd, 1) := by decide +kernel
theorem dX8_turn_46 : decode cX8_turn 46 = .ok (.iconst 1, 1) := by decide +kernel
theorem dX8_turn_47 : decode cX8_turn 47 = .ok (.iadd, 1) := by decide +kernel
theorem dX8_turn_48 : decode cX8_turn 48 = .ok (.iload_n 3, 1) := by decide +kernel
theorem dX8_turn_49 : decode cX8_turn 49 = .ok (.iastore, 1) := by decide +kernel
theorem dX8_turn_50 : decode cX8_turn 50 = .ok (.return_, 1) := by decide +kernel
set_option maxRecDepth 20000 in
theorem ggX8_swap_X8_isBatch : GoodIn wsX8_swap wsX8_isBatch := goodIn_r _ [6, 7, 8, 9, 5, 10, 49, 50, 51, 52, 53, 54, 55, 56, 57, 58, 59, 60, 61, 62, 63, 64, 65, 66, 67, 68, 69, 70, 71, 72, 73, 74, 75] (by decide +kernel) (by decide +kernel)
set_option maxRecDepth 20000 in
theorem gX8_swap_X8_isBatch : GoodIn wsX8_swap (wsV RX8 136 RX8 yX8_isBatch wsX8_isBatch) := goodIn_app (goodIn_of _ (by decide +kernel)) ggX8_swap_X8_isBatch
set_option maxRecDepth 20000 in
theorem ggX8_swap_X8_isTold : GoodIn wsX8_swap wsX8_isTold := goodIn_r _ [14, 1, 15, 49, 50, 51, 52, 53, 54, 55, 56, 57, 58, 59, 60, 61, 62, 63, 64, 65, 66, 67, 68, 69, 70, 71, 72, 73, 74, 75] (by decide +kernel) (by decide +kernel)
set_option maxRecDepth 20000 in
theorem gX8_swap_X8_isTold : GoodIn wsX8_swap (wsV RX8 177 RX8 yX8_isTold wsX8_isTold) := goodIn_app (goodIn_of _ (by decide +kernel)) ggX8_swap_X8_isTold
set_option maxRecDepth 20000 in
theorem ggX8_swap_X8_isSound : GoodIn wsX8_swap wsX8_isSound := goodIn_r _ [19, 11, 12, 13, 5, 14, 1, 15, 20, 21, 22, 23, 24, 25, 26, 27, 28, 29, 30, 31, 32, 33, 34, 35, 36, 37, 38, 39, 40, 41, 42, 43, 44, 49, 50, 51, 52, 53, 54, 55, 56, 57, 58, 59, 60, 61, 62, 63, 64, 65, 66, 67, 68, 69, 70, 71, 72, 73, 74, 75] (by decide +kernel) (by decide +kernel)
set_option maxRecDepth 20000 in
theorem gX8_swap_X8_isSound : GoodIn wsX8_swap (wsV RX8 183 RX8 yX8_isSound wsX8_isSound) := goodIn_app (goodIn_of _ (by decide +kernel)) ggX8_swap_X8_isSound
set_option maxRecDepth 20000 in
theorem ggX8_swap_X8_turn : GoodIn wsX8_swap wsX8_turn := goodIn_r _ [48, 37, 49, 50, 51, 52, 53, 54, 55, 56, 57, 58, 59, 60, 61, 62, 63, 64, 65, 66, 67, 68, 69, 70, 71, 72, 73, 74, 75] (by decide +kernel) (by decide +kernel)
set_option maxRecDepth 20000 in
theorem gX8_swap_X8_turn : GoodIn wsX8_swap (wsV RX8 186 RX8 yX8_turn wsX8_turn) := goodIn_app (goodIn_of _ (by decide +kernel)) ggX8_swap_X8_turn
set_option maxRecDepth 20000 in
theorem ggX8_swap_X8_faultOf : GoodIn wsX8_swap wsX8_faultOf := goodIn_r _ [23, 1, 24, 25, 26, 5, 27, 28, 29, 30, 31, 32, 33, 34, 35, 36, 37, 38, 39, 40, 41, 42, 43, 44, 49, 50, 51, 52, 53, 54, 55, 56, 57, 58, 59, 60, 61, 62, 63, 64, 65, 66, 67, 68, 69, 70, 71, 72, 73, 74, 75] (by decide +kernel) (by decide +kernel)
set_option maxRecDepth 20000 in
theorem gX8_swap_X8_faultOf : GoodIn wsX8_swap (wsV RX8 180 RX8 yX8_faultOf wsX8_faultOf) := goodIn_app (goodIn_of _ (by decide +kernel)) ggX8_swap_X8_faultOf
theorem dX8_swap_0 : decode cX8_swap 0 = .ok (.aload_n 0, 1) := by decide +kernel
theorem dX8_swap_1 : decode cX8_swap 1 = .ok (.iload_n 1, 1) := by decide +kernel
theorem dX8_swap_2 : decode cX8_swap 2 = .ok (.invokevirtual 136, 3) := by decide +kernel
theorem dX8_swap_5 : decode cX8_swap 5 = .ok (.ifCond .ne 6, 3) := by decide +kernel
theorem dX8_swap_8 : decode cX8_swap 8 = .ok (.bipush (-101), 2) := by decide +kernel
theorem dX8_swap_10 : decode cX8_swap 10 = .ok (.ireturn, 1) := by decide +kernel
theorem dX8_swap_11 : decode cX8_swap 11 = .ok (.aload_n 0, 1) := by decide +kernel
theorem dX8_swap_12 : decode cX8_swap 12 = .ok (.iload_n 1, 1) := by decide +kernel
theorem dX8_swap_13 : decode cX8_swap 13 = .ok (.invokevirtual 177, 3) := by decide +kernel
theorem dX8_swap_16 : decode cX8_swap 16 = .ok (.ifCond .ne 6, 3) := by decide +kernel
theorem dX8_swap_19 : decode cX8_swap 19 = .ok (.bipush (-103), 2) := by decide +kernel
theorem dX8_swap_21 : decode cX8_swap 21 = .ok (.ireturn, 1) := by decide +kernel
theorem dX8_swap_22 : decode cX8_swap 22 = .ok (.aload_n 0, 1) := by decide +kernel
theorem dX8_swap_23 : decode cX8_swap 23 = .ok (.iload_n 1, 1) := by decide +kernel
theorem dX8_swap_24 : decode cX8_swap 24 = .ok (.invokevirtual 183, 3) := by decide +kernel
theorem dX8_swap_27 : decode cX8_swap 27 = .ok (.ifCond .eq 5, 3) := by decide +kernel
theorem dX8_swap_30 : decode cX8_swap 30 = .ok (.iconst (-1), 1) := by decide +kernel
theorem dX8_swap_31 : decode cX8_swap 31 = .ok (.ireturn, 1) := by decide +kernel
theorem dX8_swap_32 : decode cX8_swap 32 = .ok (.iconst 0, 1) := by decide +kernel
theorem dX8_swap_33 : decode cX8_swap 33 = .ok (.istore_n 2, 1) := by decide +kernel
theorem dX8_swap_34 : decode cX8_swap 34 = .ok (.iload_n 2, 1) := by decide +kernel
theorem dX8_swap_35 : decode cX8_swap 35 = .ok (.iconst 1, 1) := by decide +kernel
theorem dX8_swap_36 : decode cX8_swap 36 = .ok (.iadd, 1) := by decide +kernel
theorem dX8_swap_37 : decode cX8_swap 37 = .ok (.aload_n 0, 1) := by decide +kernel
theorem dX8_swap_38 : decode cX8_swap 38 = .ok (.getfield 56, 3) := by decide +kernel
theorem dX8_swap_41 : decode cX8_swap 41 = .ok (.iload_n 1, 1) := by decide +kernel
theorem dX8_swap_42 : decode cX8_swap 42 = .ok (.iaload, 1) := by decide +kernel
theorem dX8_swap_43 : decode cX8_swap 43 = .ok (.if_icmp .ge 42, 3) := by decide +kernel
theorem dX8_swap_46 : decode cX8_swap 46 = .ok (.aload_n 0, 1) := by decide +kernel
theorem dX8_swap_47 : decode cX8_swap 47 = .ok (.iload_n 1, 1) := by decide +kernel
theorem dX8_swap_48 : decode cX8_swap 48 = .ok (.iload_n 2, 1) := by decide +kernel
theorem dX8_swap_49 : decode cX8_swap 49 = .ok (.invokevirtual 186, 3) := by decide +kernel
theorem dX8_swap_52 : decode cX8_swap 52 = .ok (.aload_n 0, 1) := by decide +kernel
theorem dX8_swap_53 : decode cX8_swap 53 = .ok (.iload_n 1, 1) := by decide +kernel
theorem dX8_swap_54 : decode cX8_swap 54 = .ok (.invokevirtual 180, 3) := by decide +kernel
theorem dX8_swap_57 : decode cX8_swap 57 = .ok (.iconst (-1), 1) := by decide +kernel
theorem dX8_swap_58 : decode cX8_swap 58 = .ok (.if_icmp .ne 7, 3) := by decide +kernel
theorem dX8_swap_61 : decode cX8_swap 61 = .ok (.iconst 1, 1) := by decide +kernel
theorem dX8_swap_62 : decode cX8_swap 62 = .ok (.goto 4, 3) := by decide +kernel
theorem dX8_swap_65 : decode cX8_swap 65 = .ok (.iconst 0, 1) := by decide +kernel
theorem dX8_swap_66 : decode cX8_swap 66 = .ok (.istore_n 3, 1) := by decide +kernel
theorem dX8_swap_67 : decode cX8_swap 67 = .ok (.aload_n 0, 1) := by decide +kernel
theorem dX8_swap_68 : decode cX8_swap 68 = .ok (.iload_n 1, 1) := by decide +kernel
theorem dX8_swap_69 : decode cX8_swap 69 = .ok (.iload_n 2, 1) := by decide +kernel
theorem dX8_swap_70 : decode cX8_swap 70 = .ok (.invokevirtual 186, 3) := by decide +kernel
theorem dX8_swap_73 : decode cX8_swap 73 = .ok (.iload_n 3, 1) := by decide +kernel
theorem dX8_swap_74 : decode cX8_swap 74 = .ok (.ifCond .eq 5, 3) := by decide +kernel
theorem dX8_swap_77 : decode cX8_swap 77 = .ok (.iload_n 2, 1) := by decide +kernel
theorem dX8_swap_78 : decode cX8_swap 78 = .ok (.ireturn, 1) := by decide +kernel
theorem dX8_swap_79 : decode cX8_swap 79 = .ok (.iinc 2 1, 3) := by decide +kernel
theorem dX8_swap_82 : decode cX8_swap 82 = .ok (.goto (-48), 3) := by decide +kernel
theorem dX8_swap_85 : decode cX8_swap 85 = .ok (.iconst (-1), 1) := by decide +kernel
theorem dX8_swap_86 : decode cX8_swap 86 = .ok (.ireturn, 1) := by decide +kernel
set_option maxRecDepth 20000 in
theorem ggX8_exchange_X8_isPlace : GoodIn wsX8_exchange wsX8_isPlace := goodIn_r _ [6, 7, 8, 9, 10, 5, 11, 12, 13, 14, 15, 21, 22, 23, 24, 25, 26, 27, 28, 29, 30, 31, 32, 33, 34, 35, 36, 37, 38, 39, 40, 41, 42, 43, 44, 45, 46, 47] (by decide +kernel) (by decide +kernel)
set_option maxRecDepth 20000 in
theorem gX8_exchange_X8_isPlace : GoodIn wsX8_exchange (wsV RX8 159 RX8 yX8_isPlace wsX8_isPlace) := goodIn_app (goodIn_of _ (by decide +kernel)) ggX8_exchange_X8_isPlace
set_option maxRecDepth 20000 in
theorem ggX8_exchange_X8_turn : GoodIn wsX8_exchange wsX8_turn := goodIn_r _ [19, 20, 21, 22, 23, 24, 25, 26, 27, 28, 29, 30, 31, 32, 33, 34, 35, 36, 37, 38, 39, 40, 41, 42, 43, 44, 45, 46, 47] (by decide +kernel) (by decide +kernel)
set_option maxRecDepth 20000 in
theorem gX8_exchange_X8_turn : GoodIn wsX8_exchange (wsV RX8 186 RX8 yX8_turn wsX8_turn) := goodIn_app (goodIn_of _ (by decide +kernel)) ggX8_exchange_X8_turn
theorem dX8_exchange_0 : decode cX8_exchange 0 = .ok (.aload_n 0, 1) := by decide +kernel
theorem dX8_exchange_1 : decode cX8_exchange 1 = .ok (.iload_n 1, 1) := by decide +kernel
theorem dX8_exchange_2 : decode cX8_exchange 2 = .ok (.iload_n 2, 1) := by decide +kernel
theorem dX8_exchange_3 : decode cX8_exchange 3 = .ok (.invokevirtual 159, 3) := by decide +kernel
theorem dX8_exchange_6 : decode cX8_exchange 6 = .ok (.ifCond .eq 14, 3) := by decide +kernel
theorem dX8_exchange_9 : decode cX8_exchange 9 = .ok (.aload_n 0, 1) := by decide +kernel
theorem dX8_exchange_10 : decode cX8_exchange 10 = .ok (.iload_n 1, 1) := by decide +kernel
theorem dX8_exchange_11 : decode cX8_exchange 11 = .ok (.iload_n 2, 1) := by decide +kernel
theorem dX8_exchange_12 : decode cX8_exchange 12 = .ok (.iconst 1, 1) := by decide +kernel
theorem dX8_exchange_13 : decode cX8_exchange 13 = .ok (.iadd, 1) := by decide +kernel
theorem dX8_exchange_14 : decode cX8_exchange 14 = .ok (.invokevirtual 159, 3) := by decide +kernel
theorem dX8_exchange_17 : decode cX8_exchange 17 = .ok (.ifCond .ne 6, 3) := by decide +kernel
theorem dX8_exchange_20 : decode cX8_exchange 20 = .ok (.bipush (-101), 2) := by decide +kernel
theorem dX8_exchange_22 : decode cX8_exchange 22 = .ok (.ireturn, 1) := by decide +kernel
theorem dX8_exchange_23 : decode cX8_exchange 23 = .ok (.aload_n 0, 1) := by decide +kernel
theorem dX8_exchange_24 : decode cX8_exchange 24 = .ok (.getfield 68, 3) := by decide +kernel
theorem dX8_exchange_27 : decode cX8_exchange 27 = .ok (.bipush 16, 2) := by decide +kernel
theorem dX8_exchange_29 : decode cX8_exchange 29 = .ok (.iload_n 1, 1) := by decide +kernel
theorem dX8_exchange_30 : decode cX8_exchange 30 = .ok (.imul, 1) := by decide +kernel
theorem dX8_exchange_31 : decode cX8_exchange 31 = .ok (.iload_n 2, 1) := by decide +kernel
theorem dX8_exchange_32 : decode cX8_exchange 32 = .ok (.iadd, 1) := by decide +kernel
theorem dX8_exchange_33 : decode cX8_exchange 33 = .ok (.baload, 1) := by decide +kernel
theorem dX8_exchange_34 : decode cX8_exchange 34 = .ok (.ifCond .eq 19, 3) := by decide +kernel
theorem dX8_exchange_37 : decode cX8_exchange 37 = .ok (.aload_n 0, 1) := by decide +kernel
theorem dX8_exchange_38 : decode cX8_exchange 38 = .ok (.getfield 68, 3) := by decide +kernel
theorem dX8_exchange_41 : decode cX8_exchange 41 = .ok (.bipush 16, 2) := by decide +kernel
theorem dX8_exchange_43 : decode cX8_exchange 43 = .ok (.iload_n 1, 1) := by decide +kernel
theorem dX8_exchange_44 : decode cX8_exchange 44 = .ok (.imul, 1) := by decide +kernel
theorem dX8_exchange_45 : decode cX8_exchange 45 = .ok (.iload_n 2, 1) := by decide +kernel
theorem dX8_exchange_46 : decode cX8_exchange 46 = .ok (.iadd, 1) := by decide +kernel
theorem dX8_exchange_47 : decode cX8_exchange 47 = .ok (.iconst 1, 1) := by decide +kernel
theorem dX8_exchange_48 : decode cX8_exchange 48 = .ok (.iadd, 1) := by decide +kernel
theorem dX8_exchange_49 : decode cX8_exchange 49 = .ok (.baload, 1) := by decide +kernel
theorem dX8_exchange_50 : decode cX8_exchange 50 = .ok (.ifCond .ne 6, 3) := by decide +kernel
theorem dX8_exchange_53 : decode cX8_exchange 53 = .ok (.bipush (-103), 2) := by decide +kernel
theorem dX8_exchange_55 : decode cX8_exchange 55 = .ok (.ireturn, 1) := by decide +kernel
theorem dX8_exchange_56 : decode cX8_exchange 56 = .ok (.aload_n 0, 1) := by decide +kernel
theorem dX8_exchange_57 : decode cX8_exchange 57 = .ok (.iload_n 1, 1) := by decide +kernel
theorem dX8_exchange_58 : decode cX8_exchange 58 = .ok (.iload_n 2, 1) := by decide +kernel
theorem dX8_exchange_59 : decode cX8_exchange 59 = .ok (.invokevirtual 186, 3) := by decide +kernel
theorem dX8_exchange_62 : decode cX8_exchange 62 = .ok (.iconst 1, 1) := by decide +kernel
theorem dX8_exchange_63 : decode cX8_exchange 63 = .ok (.ireturn, 1) := by decide +kernel
theorem dX8_aboutOf_0 : decode cX8_aboutOf 0 = .ok (.iload_n 2, 1) := by decide +kernel
theorem dX8_aboutOf_1 : decode cX8_aboutOf 1 = .ok (.tableswitch 91 0 4 #[35, 42, 49, 56, 71], 35) := by decide +kernel
theorem dX8_aboutOf_36 : decode cX8_aboutOf 36 = .ok (.aload_n 0, 1) := by decide +kernel
theorem dX8_aboutOf_37 : decode cX8_aboutOf 37 = .ok (.getfield 59, 3) := by decide +kernel
theorem dX8_aboutOf_40 : decode cX8_aboutOf 40 = .ok (.iload_n 1, 1) := by decide +kernel
theorem dX8_aboutOf_41 : decode cX8_aboutOf 41 = .ok (.iaload, 1) := by decide +kernel
theorem dX8_aboutOf_42 : decode cX8_aboutOf 42 = .ok (.ireturn, 1) := by decide +kernel
theorem dX8_aboutOf_43 : decode cX8_aboutOf 43 = .ok (.aload_n 0, 1) := by decide +kernel
theorem dX8_aboutOf_44 : decode cX8_aboutOf 44 = .ok (.getfield 62, 3) := by decide +kernel
theorem dX8_aboutOf_47 : decode cX8_aboutOf 47 = .ok (.iload_n 1, 1) := by decide +kernel
theorem dX8_aboutOf_48 : decode cX8_aboutOf 48 = .ok (.iaload, 1) := by decide +kernel
theorem dX8_aboutOf_49 : decode cX8_aboutOf 49 = .ok (.ireturn, 1) := by decide +kernel
theorem dX8_aboutOf_50 : decode cX8_aboutOf 50 = .ok (.aload_n 0, 1) := by decide +kernel
theorem dX8_aboutOf_51 : decode cX8_aboutOf 51 = .ok (.getfield 65, 3) := by decide +kernel
theorem dX8_aboutOf_54 : decode cX8_aboutOf 54 = .ok (.iload_n 1, 1) := by decide +kernel
theorem dX8_aboutOf_55 : decode cX8_aboutOf 55 = .ok (.iaload, 1) := by decide +kernel
theorem dX8_aboutOf_56 : decode cX8_aboutOf 56 = .ok (.ireturn, 1) := by decide +kernel
theorem dX8_aboutOf_57 : decode cX8_aboutOf 57 = .ok (.aload_n 0, 1) := by decide +kernel
theorem dX8_aboutOf_58 : decode cX8_aboutOf 58 = .ok (.getfield 68, 3) := by decide +kernel
theorem dX8_aboutOf_61 : decode cX8_aboutOf 61 = .ok (.iload_n 1, 1) := by decide +kernel
theorem dX8_aboutOf_62 : decode cX8_aboutOf 62 = .ok (.baload, 1) := by decide +kernel
theorem dX8_aboutOf_63 : decode cX8_aboutOf 63 = .ok (.ifCond .eq 7, 3) := by decide +kernel
theorem dX8_aboutOf_66 : decode cX8_aboutOf 66 = .ok (.iconst 1, 1) := by decide +kernel
theorem dX8_aboutOf_67 : decode cX8_aboutOf 67 = .ok (.goto 4, 3) := by decide +kernel
theorem dX8_aboutOf_70 : decode cX8_aboutOf 70 = .ok (.iconst 0, 1) := by decide +kernel
theorem dX8_aboutOf_71 : decode cX8_aboutOf 71 = .ok (.ireturn, 1) := by decide +kernel
theorem dX8_aboutOf_72 : decode cX8_aboutOf 72 = .ok (.aload_n 0, 1) := by decide +kernel
theorem dX8_aboutOf_73 : decode cX8_aboutOf 73 = .ok (.getfield 68, 3) := by decide +kernel
theorem dX8_aboutOf_76 : decode cX8_aboutOf 76 = .ok (.iload_n 1, 1) := by decide +kernel
theorem dX8_aboutOf_77 : decode cX8_aboutOf 77 = .ok (.baload, 1) := by decide +kernel
theorem dX8_aboutOf_78 : decode cX8_aboutOf 78 = .ok (.ifCond .eq 12, 3) := by decide +kernel
theorem dX8_aboutOf_81 : decode cX8_aboutOf 81 = .ok (.aload_n 0, 1) := by decide +kernel
theorem dX8_aboutOf_82 : decode cX8_aboutOf 82 = .ok (.getfield 71, 3) := by decide +kernel
theorem dX8_aboutOf_85 : decode cX8_aboutOf 85 = .ok (.iload_n 1, 1) := by decide +kernel
theorem dX8_aboutOf_86 : decode cX8_aboutOf 86 = .ok (.iaload, 1) := by decide +kernel
theorem dX8_aboutOf_87 : decode cX8_aboutOf 87 = .ok (.goto 4, 3) := by decide +kernel
theorem dX8_aboutOf_90 : decode cX8_aboutOf 90 = .ok (.iconst 0, 1) := by decide +kernel
theorem dX8_aboutOf_91 : decode cX8_aboutOf 91 = .ok (.ireturn, 1) := by decide +kernel
theorem dX8_aboutOf_92 : decode cX8_aboutOf 92 = .ok (.bipush (-102), 2) := by decide +kernel
theorem dX8_aboutOf_94 : decode cX8_aboutOf 94 = .ok (.ireturn, 1) := by decide +kernel
set_option maxRecDepth 20000 in
theorem ggX8_about_X8_isPlace : GoodIn wsX8_about wsX8_isPlace := goodIn_r _ [5, 6, 7, 8, 9, 4, 10, 11, 12, 13, 14, 24, 25, 26, 27, 28, 29, 30, 31, 32, 33, 34, 35, 36, 37, 38, 39, 40, 41, 42, 43, 44, 45, 46, 47, 48, 49, 50] (by decide +kernel) (by decide +kernel)
set_option maxRecDepth 20000 in
theorem gX8_about_X8_isPlace : GoodIn wsX8_about (wsV RX8 159 RX8 yX8_isPlace wsX8_isPlace) := goodIn_app (goodIn_of _ (by decide +kernel)) ggX8_about_X8_isPlace
set_option maxRecDepth 20000 in
theorem ggX8_about_X8_aboutOf : GoodIn wsX8_about wsX8_aboutOf := goodIn_r _ [18, 19, 20, 21, 22, 23, 24, 25, 26, 27, 28, 29, 30, 31, 32, 33, 34, 35, 36, 37, 38, 39, 40, 41, 42, 43, 44, 45, 46, 47, 48, 49, 50] (by decide +kernel) (by decide +kernel)
set_option maxRecDepth 20000 in
theorem gX8_about_X8_aboutOf : GoodIn wsX8_about (wsV RX8 190 RX8 yX8_aboutOf wsX8_aboutOf) := goodIn_app (goodIn_of _ (by decide +kernel)) ggX8_about_X8_aboutOf
theorem dX8_about_0 : decode cX8_about 0 = .ok (.aload_n 0, 1) := by decide +kernel
theorem dX8_about_1 : decode cX8_about 1 = .ok (.iload_n 1, 1) := by decide +kernel
theorem dX8_about_2 : decode cX8_about 2 = .ok (.iload_n 2, 1) := by decide +kernel
theorem dX8_about_3 : decode cX8_about 3 = .ok (.invokevirtual 159, 3) := by decide +kernel
theorem dX8_about_6 : decode cX8_about 6 = .ok (.ifCond .eq 17, 3) := by decide +kernel
theorem dX8_about_9 : decode cX8_about 9 = .ok (.aload_n 0, 1) := by decide +kernel
theorem dX8_about_10 : decode cX8_about 10 = .ok (.bipush 16, 2) := by decide +kernel
theorem dX8_about_12 : decode cX8_about 12 = .ok (.iload_n 1, 1) := by decide +kernel
theorem dX8_about_13 : decode cX8_about 13 = .ok (.imul, 1) := by decide +kernel
theorem dX8_about_14 : decode cX8_about 14 = .ok (.iload_n 2, 1) := by decide +kernel
theorem dX8_about_15 : decode cX8_about 15 = .ok (.iadd, 1) := by decide +kernel
theorem dX8_about_16 : decode cX8_about 16 = .ok (.iload_n 3, 1) := by decide +kernel
theorem dX8_about_17 : decode cX8_about 17 = .ok (.invokevirtual 190, 3) := by decide +kernel
theorem dX8_about_20 : decode cX8_about 20 = .ok (.goto 5, 3) := by decide +kernel
theorem dX8_about_23 : decode cX8_about 23 = .ok (.bipush (-101), 2) := by decide +kernel
theorem dX8_about_25 : decode cX8_about 25 = .ok (.ireturn, 1) := by decide +kernel
set_option maxRecDepth 20000 in
theorem ggX8_gradeAt_X8_placeOf : GoodIn wsX8_gradeAt wsX8_placeOf := goodIn_r _ [6, 7, 8, 9, 42, 43, 44, 45, 46, 47, 48, 49, 50, 51, 52, 53, 54, 55, 56, 57, 58, 59, 60, 61, 62, 63, 64, 65, 66, 67, 68] (by decide +kernel) (by decide +kernel)
set_option maxRecDepth 20000 in
theorem gX8_gradeAt_X8_placeOf : GoodIn wsX8_gradeAt (wsV RX8 148 RX8 yX8_placeOf wsX8_placeOf) := goodIn_app (goodIn_of _ (by decide +kernel)) ggX8_gradeAt_X8_placeOf
set_option maxRecDepth 20000 in
theorem ggX8_gradeAt_X8_isSound : GoodIn wsX8_gradeAt wsX8_isSound := goodIn_r _ [13, 14, 15, 16, 5, 17, 7, 18, 19, 20, 21, 22, 23, 24, 25, 26, 8, 9, 27, 28, 29, 30, 31, 32, 33, 34, 35, 36, 37, 38, 39, 40, 41, 42, 43, 44, 45, 46, 47, 48, 49, 50, 51, 52, 53, 54, 55, 56, 57, 58, 59, 60, 61, 62, 63, 64, 65, 66, 67, 68] (by decide +kernel) (by decide +kernel)
set_option maxRecDepth 20000 in
theorem gX8_gradeAt_X8_isSound : GoodIn wsX8_gradeAt (wsV RX8 183 RX8 yX8_isSound wsX8_isSound) := goodIn_app (goodIn_of _ (by decide +kernel)) ggX8_gradeAt_X8_isSound
theorem dX8_gradeAt_0 : decode cX8_gradeAt 0 = .ok (.iconst 0, 1) := by decide +kernel
theorem dX8_gradeAt_1 : decode cX8_gradeAt 1 = .ok (.istore_n 2, 1) := by decide +kernel
theorem dX8_gradeAt_2 : decode cX8_gradeAt 2 = .ok (.iload_n 2, 1) := by decide +kernel
theorem dX8_gradeAt_3 : decode cX8_gradeAt 3 = .ok (.aload_n 0, 1) := by decide +kernel
theorem dX8_gradeAt_4 : decode cX8_gradeAt 4 = .ok (.getfield 133, 3) := by decide +kernel
theorem dX8_gradeAt_7 : decode cX8_gradeAt 7 = .ok (.if_icmp .ge 36, 3) := by decide +kernel
theorem dX8_gradeAt_10 : decode cX8_gradeAt 10 = .ok (.aload_n 0, 1) := by decide +kernel
theorem dX8_gradeAt_11 : decode cX8_gradeAt 11 = .ok (.iload_n 2, 1) := by decide +kernel
theorem dX8_gradeAt_12 : decode cX8_gradeAt 12 = .ok (.iload_n 1, 1) := by decide +kernel
theorem dX8_gradeAt_13 : decode cX8_gradeAt 13 = .ok (.invokevirtual 148, 3) := by decide +kernel
theorem dX8_gradeAt_16 : decode cX8_gradeAt 16 = .ok (.istore_n 3, 1) := by decide +kernel
theorem dX8_gradeAt_17 : decode cX8_gradeAt 17 = .ok (.iload_n 3, 1) := by decide +kernel
theorem dX8_gradeAt_18 : decode cX8_gradeAt 18 = .ok (.iconst (-1), 1) := by decide +kernel
theorem dX8_gradeAt_19 : decode cX8_gradeAt 19 = .ok (.if_icmp .eq 18, 3) := by decide +kernel
theorem dX8_gradeAt_22 : decode cX8_gradeAt 22 = .ok (.aload_n 0, 1) := by decide +kernel
theorem dX8_gradeAt_23 : decode cX8_gradeAt 23 = .ok (.iload_n 2, 1) := by decide +kernel
theorem dX8_gradeAt_24 : decode cX8_gradeAt 24 = .ok (.invokevirtual 183, 3) := by decide +kernel
theorem dX8_gradeAt_27 : decode cX8_gradeAt 27 = .ok (.ifCond .eq 10, 3) := by decide +kernel
theorem dX8_gradeAt_30 : decode cX8_gradeAt 30 = .ok (.bipush 16, 2) := by decide +kernel
theorem dX8_gradeAt_32 : decode cX8_gradeAt 32 = .ok (.iload_n 2, 1) := by decide +kernel
theorem dX8_gradeAt_33 : decode cX8_gradeAt 33 = .ok (.imul, 1) := by decide +kernel
theorem dX8_gradeAt_34 : decode cX8_gradeAt 34 = .ok (.iload_n 3, 1) := by decide +kernel
theorem dX8_gradeAt_35 : decode cX8_gradeAt 35 = .ok (.iadd, 1) := by decide +kernel
theorem dX8_gradeAt_36 : decode cX8_gradeAt 36 = .ok (.ireturn, 1) := by decide +kernel
theorem dX8_gradeAt_37 : decode cX8_gradeAt 37 = .ok (.iinc 2 1, 3) := by decide +kernel
theorem dX8_gradeAt_40 : decode cX8_gradeAt 40 = .ok (.goto (-38), 3) := by decide +kernel
theorem dX8_gradeAt_43 : decode cX8_gradeAt 43 = .ok (.iconst (-1), 1) := by decide +kernel
theorem dX8_gradeAt_44 : decode cX8_gradeAt 44 = .ok (.ireturn, 1) := by decide +kernel
set_option maxRecDepth 20000 in
theorem ggX8_grade_X8_isSample : GoodIn wsX8_grade wsX8_isSample := goodIn_r _ [5, 6, 7, 8, 4, 9, 54, 55, 56, 57, 58, 59, 60, 61, 62, 63, 64, 65, 66, 67, 68, 69, 70, 71, 72, 73, 74, 75, 76, 77, 78, 79, 80] (by decide +kernel) (by decide +kernel)
set_option maxRecDepth 20000 in
theorem gX8_grade_X8_isSample : GoodIn wsX8_grade (wsV RX8 139 RX8 yX8_isSample wsX8_isSample) := goodIn_app (goodIn_of _ (by decide +kernel)) ggX8_grade_X8_isSample
set_option maxRecDepth 20000 in
theorem ggX8_grade_X8_in : GoodIn wsX8_grade wsX8_in := goodIn_r _ [9] (by decide +kernel) (by decide +kernel)
set_option maxRecDepth 20000 in
theorem gX8_grade_X8_in : GoodIn wsX8_grade (va_wsS RX8 84 yX8_in wsX8_in) := goodIn_app (goodIn_of _ (by decide +kernel)) ggX8_grade_X8_in
set_option maxRecDepth 20000 in
theorem ggX8_grade_X8_gradeAt : GoodIn wsX8_grade wsX8_gradeAt := goodIn_r _ [13, 14, 15, 16, 17, 4, 18, 19, 20, 21, 22, 23, 24, 25, 26, 27, 28, 29, 30, 31, 32, 33, 34, 35, 36, 37, 38, 39, 40, 41, 42, 43, 44, 45, 46, 47, 48, 49, 50, 51, 52, 53, 54, 55, 56, 57, 58, 59, 60, 61, 62, 63, 64, 65, 66, 67, 68, 69, 70, 71, 72, 73, 74, 75, 76, 77, 78, 79, 80] (by decide +kernel) (by decide +kernel)
set_option maxRecDepth 20000 in
theorem gX8_grade_X8_gradeAt : GoodIn wsX8_grade (wsV RX8 193 RX8 yX8_gradeAt wsX8_gradeAt) := goodIn_app (goodIn_of _ (by decide +kernel)) ggX8_grade_X8_gradeAt
set_option maxRecDepth 20000 in
theorem ggX8_grade_X8_lower : GoodIn wsX8_grade wsX8_lower := goodIn_r _ [45, 46, 54, 55, 56, 57, 58, 59, 60, 61, 62, 63, 64, 65, 66, 67, 68, 69, 70, 71, 72, 73, 74, 75, 76, 77, 78, 79, 80] (by decide +kernel) (by decide +kernel)
set_option maxRecDepth 20000 in
theorem gX8_grade_X8_lower : GoodIn wsX8_grade (wsV RX8 165 RX8 yX8_lower wsX8_lower) := goodIn_app (goodIn_of _ (by decide +kernel)) ggX8_grade_X8_lower
set_option maxRecDepth 20000 in
theorem ggX8_grade_X8_upper : GoodIn wsX8_grade wsX8_upper := goodIn_r _ [53, 46, 54, 55, 56, 57, 58, 59, 60, 61, 62, 63, 64, 65, 66, 67, 68, 69, 70, 71, 72, 73, 74, 75, 76, 77, 78, 79, 80] (by decide +kernel) (by decide +kernel)
set_option maxRecDepth 20000 in
theorem gX8_grade_X8_upper : GoodIn wsX8_grade (wsV RX8 171 RX8 yX8_upper wsX8_upper) := goodIn_app (goodIn_of _ (by decide +kernel)) ggX8_grade_X8_upper
theorem dX8_grade_0 : decode cX8_grade 0 = .ok (.aload_n 0, 1) := by decide +kernel
theorem dX8_grade_1 : decode cX8_grade 1 = .ok (.iload_n 1, 1) := by decide +kernel
theorem dX8_grade_2 : decode cX8_grade 2 = .ok (.invokevirtual 139, 3) := by decide +kernel
theorem dX8_grade_5 : decode cX8_grade 5 = .ok (.ifCond .ne 6, 3) := by decide +kernel
theorem dX8_grade_8 : decode cX8_grade 8 = .ok (.bipush (-101), 2) := by decide +kernel
theorem dX8_grade_10 : decode cX8_grade 10 = .ok (.ireturn, 1) := by decide +kernel
theorem dX8_grade_11 : decode cX8_grade 11 = .ok (.iload_n 2, 1) := by decide +kernel
theorem dX8_grade_12 : decode cX8_grade 12 = .ok (.i2l, 1) := by decide +kernel
theorem dX8_grade_13 : decode cX8_grade 13 = .ok (.lconst 0, 1) := by decide +kernel
theorem dX8_grade_14 : decode cX8_grade 14 = .ok (.lconst 1, 1) := by decide +kernel
theorem dX8_grade_15 : decode cX8_grade 15 = .ok (.invokestatic 84, 3) := by decide +kernel
theorem dX8_grade_18 : decode cX8_grade 18 = .ok (.ifCond .ne 6, 3) := by decide +kernel
theorem dX8_grade_21 : decode cX8_grade 21 = .ok (.bipush (-102), 2) := by decide +kernel
theorem dX8_grade_23 : decode cX8_grade 23 = .ok (.ireturn, 1) := by decide +kernel
theorem dX8_grade_24 : decode cX8_grade 24 = .ok (.aload_n 0, 1) := by decide +kernel
theorem dX8_grade_25 : decode cX8_grade 25 = .ok (.iload_n 1, 1) := by decide +kernel
theorem dX8_grade_26 : decode cX8_grade 26 = .ok (.invokevirtual 193, 3) := by decide +kernel
theorem dX8_grade_29 : decode cX8_grade 29 = .ok (.istore_n 3, 1) := by decide +kernel
theorem dX8_grade_30 : decode cX8_grade 30 = .ok (.iload_n 3, 1) := by decide +kernel
theorem dX8_grade_31 : decode cX8_grade 31 = .ok (.iconst (-1), 1) := by decide +kernel
theorem dX8_grade_32 : decode cX8_grade 32 = .ok (.if_icmp .ne 7, 3) := by decide +kernel
theorem dX8_grade_35 : decode cX8_grade 35 = .ok (.iconst (-1), 1) := by decide +kernel
theorem dX8_grade_36 : decode cX8_grade 36 = .ok (.goto 20, 3) := by decide +kernel
theorem dX8_grade_39 : decode cX8_grade 39 = .ok (.iload_n 2, 1) := by decide +kernel
theorem dX8_grade_40 : decode cX8_grade 40 = .ok (.ifCond .ne 11, 3) := by decide +kernel
theorem dX8_grade_43 : decode cX8_grade 43 = .ok (.aload_n 0, 1) := by decide +kernel
theorem dX8_grade_44 : decode cX8_grade 44 = .ok (.iload_n 3, 1) := by decide +kernel
theorem dX8_grade_45 : decode cX8_grade 45 = .ok (.invokevirtual 165, 3) := by decide +kernel
theorem dX8_grade_48 : decode cX8_grade 48 = .ok (.goto 8, 3) := by decide +kernel
theorem dX8_grade_51 : decode cX8_grade 51 = .ok (.aload_n 0, 1) := by decide +kernel
theorem dX8_grade_52 : decode cX8_grade 52 = .ok (.iload_n 3, 1) := by decide +kernel
theorem dX8_grade_53 : decode cX8_grade 53 = .ok (.invokevirtual 171, 3) := by decide +kernel
theorem dX8_grade_56 : decode cX8_grade 56 = .ok (.ireturn, 1) := by decide +kernel
set_option maxRecDepth 20000 in
theorem ggX8_composite_X8_isHole : GoodIn wsX8_composite wsX8_isHole := goodIn_r _ [13, 14, 15, 16, 12, 17, 75, 76, 77, 78, 79, 80, 81, 82, 83, 84, 85, 86, 87, 88, 89, 90, 91, 92, 93, 94, 95, 96, 97, 98, 99, 100, 101] (by decide +kernel) (by decide +kernel)
set_option maxRecDepth 20000 in
theorem gX8_composite_X8_isHole : GoodIn wsX8_composite (wsV RX8 91 RX8 yX8_isHole wsX8_isHole) := goodIn_app (goodIn_of _ (by decide +kernel)) ggX8_composite_X8_isHole
set_option maxRecDepth 20000 in
theorem ggX8_composite_X8_isStretch : GoodIn wsX8_composite wsX8_isStretch := goodIn_r _ [21, 22, 23, 24, 12, 25, 26, 27, 75, 76, 77, 78, 79, 80, 81, 82, 83, 84, 85, 86, 87, 88, 89, 90, 91, 92, 93, 94, 95, 96, 97, 98, 99, 100, 101] (by decide +kernel) (by decide +kernel)
set_option maxRecDepth 20000 in
theorem gX8_composite_X8_isStretch : GoodIn wsX8_composite (wsV RX8 108 RX8 yX8_isStretch wsX8_isStretch) := goodIn_app (goodIn_of _ (by decide +kernel)) ggX8_composite_X8_isStretch
set_option maxRecDepth 20000 in
theorem ggX8_composite_X8_in : GoodIn wsX8_composite wsX8_in := goodIn_r _ [17] (by decide +kernel) (by decide +kernel)
set_option maxRecDepth 20000 in
theorem gX8_composite_X8_in : GoodIn wsX8_composite (va_wsS RX8 84 yX8_in wsX8_in) := goodIn_app (goodIn_of _ (by decide +kernel)) ggX8_composite_X8_in
set_option maxRecDepth 20000 in
theorem ggX8_composite_X8_gradeAt : GoodIn wsX8_composite wsX8_gradeAt := goodIn_r _ [31, 32, 33, 34, 35, 12, 36, 37, 38, 39, 40, 41, 42, 43, 44, 45, 46, 47, 48, 49, 50, 51, 52, 53, 54, 55, 56, 57, 58, 59, 60, 61, 62, 63, 64, 65, 66, 67, 68, 69, 70, 71, 75, 76, 77, 78, 79, 80, 81, 82, 83, 84, 85, 86, 87, 88, 89, 90, 91, 92, 93, 94, 95, 96, 97, 98, 99, 100, 101] (by decide +kernel) (by decide +kernel)
set_option maxRecDepth 20000 in
theorem gX8_composite_X8_gradeAt : GoodIn wsX8_composite (wsV RX8 193 RX8 yX8_gradeAt wsX8_gradeAt) := goodIn_app (goodIn_of _ (by decide +kernel)) ggX8_composite_X8_gradeAt
set_option maxRecDepth 20000 in
theorem ggX8_composite_X8_common : GoodIn wsX8_composite wsX8_common := goodIn_r _ [74] (by decide +kernel) (by decide +kernel)
set_option maxRecDepth 20000 in
theorem gX8_composite_X8_common : GoodIn wsX8_composite (va_wsS RX8 104 yX8_common wsX8_common) := goodIn_app (goodIn_of _ (by decide +kernel)) ggX8_composite_X8_common
set_option maxRecDepth 20000 in
theorem ggX8_composite_X8_lower : GoodIn wsX8_composite wsX8_lower := goodIn_r _ [63, 64, 75, 76, 77, 78, 79, 80, 81, 82, 83, 84, 85, 86, 87, 88, 89, 90, 91, 92, 93, 94, 95, 96, 97, 98, 99, 100, 101] (by decide +kernel) (by decide +kernel)
set_option maxRecDepth 20000 in
theorem gX8_composite_X8_lower : GoodIn wsX8_composite (wsV RX8 165 RX8 yX8_lower wsX8_lower) := goodIn_app (goodIn_of _ (by decide +kernel)) ggX8_composite_X8_lower
set_option maxRecDepth 20000 in
theorem ggX8_composite_X8_upper : GoodIn wsX8_composite wsX8_upper := goodIn_r _ [71, 64, 75, 76, 77, 78, 79, 80, 81, 82, 83, 84, 85, 86, 87, 88, 89, 90, 91, 92, 93, 94, 95, 96, 97, 98, 99, 100, 101] (by decide +kernel) (by decide +kernel)
set_option maxRecDepth 20000 in
theorem gX8_composite_X8_upper : GoodIn wsX8_composite (wsV RX8 171 RX8 yX8_upper wsX8_upper) := goodIn_app (goodIn_of _ (by decide +kernel)) ggX8_composite_X8_upper
theorem dX8_composite_0 : decode cX8_composite 0 = .ok (.aload_n 0, 1) := by decide +kernel
theorem dX8_composite_1 : decode cX8_composite 1 = .ok (.iload_n 1, 1) := by decide +kernel
theorem dX8_composite_2 : decode cX8_composite 2 = .ok (.invokevirtual 91, 3) := by decide +kernel
theorem dX8_composite_5 : decode cX8_composite 5 = .ok (.ifCond .ne 7, 3) := by decide +kernel
theorem dX8_composite_8 : decode cX8_composite 8 = .ok (.ldc2_w 196, 3) := by decide +kernel
theorem dX8_composite_11 : decode cX8_composite 11 = .ok (.lreturn, 1) := by decide +kernel
theorem dX8_composite_12 : decode cX8_composite 12 = .ok (.aload_n 0, 1) := by decide +kernel
theorem dX8_composite_13 : decode cX8_composite 13 = .ok (.iload_n 1, 1) := by decide +kernel
theorem dX8_composite_14 : decode cX8_composite 14 = .ok (.iload_n 2, 1) := by decide +kernel
theorem dX8_composite_15 : decode cX8_composite 15 = .ok (.iload_n 3, 1) := by decide +kernel
theorem dX8_composite_16 : decode cX8_composite 16 = .ok (.invokevirtual 108, 3) := by decide +kernel
theorem dX8_composite_19 : decode cX8_composite 19 = .ok (.ifCond .eq 29, 3) := by decide +kernel
theorem dX8_composite_22 : decode cX8_composite 22 = .ok (.iload 4, 2) := by decide +kernel
theorem dX8_composite_24 : decode cX8_composite 24 = .ok (.i2l, 1) := by decide +kernel
theorem dX8_composite_25 : decode cX8_composite 25 = .ok (.lconst 1, 1) := by decide +kernel
theorem dX8_composite_26 : decode cX8_composite 26 = .ok (.ldc2_w 116, 3) := by decide +kernel
theorem dX8_composite_29 : decode cX8_composite 29 = .ok (.invokestatic 84, 3) := by decide +kernel
theorem dX8_composite_32 : decode cX8_composite 32 = .ok (.ifCond .eq 16, 3) := by decide +kernel
theorem dX8_composite_35 : decode cX8_composite 35 = .ok (.iload 5, 2) := by decide +kernel
theorem dX8_composite_37 : decode cX8_composite 37 = .ok (.i2l, 1) := by decide +kernel
theorem dX8_composite_38 : decode cX8_composite 38 = .ok (.lconst 0, 1) := by decide +kernel
theorem dX8_composite_39 : decode cX8_composite 39 = .ok (.ldc2_w 198, 3) := by decide +kernel
theorem dX8_composite_42 : decode cX8_composite 42 = .ok (.invokestatic 84, 3) := by decide +kernel
theorem dX8_composite_45 : decode cX8_composite 45 = .ok (.ifCond .ne 7, 3) := by decide +kernel
theorem dX8_composite_48 : decode cX8_composite 48 = .ok (.ldc2_w 200, 3) := by decide +kernel
theorem dX8_composite_51 : decode cX8_composite 51 = .ok (.lreturn, 1) := by decide +kernel
theorem dX8_composite_52 : decode cX8_composite 52 = .ok (.lconst 0, 1) := by decide +kernel
theorem dX8_composite_53 : decode cX8_composite 53 = .ok (.lstore 6, 2) := by decide +kernel
theorem dX8_composite_55 : decode cX8_composite 55 = .ok (.iconst 0, 1) := by decide +kernel
theorem dX8_composite_56 : decode cX8_composite 56 = .ok (.istore 8, 2) := by decide +kernel
theorem dX8_composite_58 : decode cX8_composite 58 = .ok (.iload 8, 2) := by decide +kernel
theorem dX8_composite_60 : decode cX8_composite 60 = .ok (.aload_n 0, 1) := by decide +kernel
theorem dX8_composite_61 : decode cX8_composite 61 = .ok (.getfield 88, 3) := by decide +kernel
theorem dX8_composite_64 : decode cX8_composite 64 = .ok (.if_icmp .ge 116, 3) := by decide +kernel
theorem dX8_composite_67 : decode cX8_composite 67 = .ok (.aload_n 0, 1) := by decide +kernel
theorem dX8_composite_68 : decode cX8_composite 68 = .ok (.getfield 44, 3) := by decide +kernel
theorem dX8_composite_71 : decode cX8_composite 71 = .ok (.iload 8, 2) := by decide +kernel
theorem dX8_composite_73 : decode cX8_composite 73 = .ok (.iaload, 1) := by decide +kernel
theorem dX8_composite_74 : decode cX8_composite 74 = .ok (.iload_n 1, 1) := by decide +kernel
theorem dX8_composite_75 : decode cX8_composite 75 = .ok (.if_icmp .ne 12, 3) := by decide +kernel
theorem dX8_composite_78 : decode cX8_composite 78 = .ok (.aload_n 0, 1) := by decide +kernel
theorem dX8_composite_79 : decode cX8_composite 79 = .ok (.iload 8, 2) := by decide +kernel
theorem dX8_composite_81 : decode cX8_composite 81 = .ok (.invokevirtual 193, 3) := by decide +kernel
theorem dX8_composite_84 : decode cX8_composite 84 = .ok (.goto 4, 3) := by decide +kernel
theorem dX8_composite_87 : decode cX8_composite 87 = .ok (.iconst (-1), 1) := by decide +kernel
theorem dX8_composite_88 : decode cX8_composite 88 = .ok (.istore 9, 2) := by decide +kernel
theorem dX8_composite_90 : decode cX8_composite 90 = .ok (.iload 9, 2) := by decide +kernel
theorem dX8_composite_92 : decode cX8_composite 92 = .ok (.iconst (-1), 1) := by decide +kernel
theorem dX8_composite_93 : decode cX8_composite 93 = .ok (.if_icmp .eq 81, 3) := by decide +kernel
theorem dX8_composite_96 : decode cX8_composite 96 = .ok (.iload_n 2, 1) := by decide +kernel
theorem dX8_composite_97 : decode cX8_composite 97 = .ok (.iload_n 3, 1) := by decide +kernel
theorem dX8_composite_98 : decode cX8_composite 98 = .ok (.aload_n 0, 1) := by decide +kernel
theorem dX8_composite_99 : decode cX8_composite 99 = .ok (.getfield 47, 3) := by decide +kernel
theorem dX8_composite_102 : decode cX8_composite 102 = .ok (.iload 8, 2) := by decide +kernel
theorem dX8_composite_104 : decode cX8_composite 104 = .ok (.iaload, 1) := by decide +kernel
theorem dX8_composite_105 : decode cX8_composite 105 = .ok (.aload_n 0, 1) := by decide +kernel
theorem dX8_composite_106 : decode cX8_composite 106 = .ok (.getfield 50, 3) := by decide +kernel
theorem dX8_composite_109 : decode cX8_composite 109 = .ok (.iload 8, 2) := by decide +kernel
theorem dX8_composite_111 : decode cX8_composite 111 = .ok (.iaload, 1) := by decide +kernel
theorem dX8_composite_112 : decode cX8_composite 112 = .ok (.invokestatic 104, 3) := by decide +kernel
theorem dX8_composite_115 : decode cX8_composite 115 = .ok (.i2l, 1) := by decide +kernel
theorem dX8_composite_116 : decode cX8_composite 116 = .ok (.lstore 10, 2) := by decide +kernel
theorem dX8_composite_118 : decode cX8_composite 118 = .ok (.iload 5, 2) := by decide +kernel
theorem dX8_composite_120 : decode cX8_composite 120 = .ok (.ifCond .ne 12, 3) := by decide +kernel
theorem dX8_composite_123 : decode cX8_composite 123 = .ok (.aload_n 0, 1) := by decide +kernel
theorem dX8_composite_124 : decode cX8_composite 124 = .ok (.iload 9, 2) := by decide +kernel
theorem dX8_composite_126 : decode cX8_composite 126 = .ok (.invokevirtual 165, 3) := by decide +kernel
theorem dX8_composite_129 : decode cX8_composite 129 = .ok (.goto 9, 3) := by decide +kernel
theorem dX8_composite_132 : decode cX8_composite 132 = .ok (.aload_n 0, 1) := by decide +kernel
theorem dX8_composite_133 : decode cX8_composite 133 = .ok (.iload 9, 2) := by decide +kernel
theorem dX8_composite_135 : decode cX8_composite 135 = .ok (.invokevirtual 171, 3) := by decide +kernel
theorem dX8_composite_138 : decode cX8_composite 138 = .ok (.istore 12, 2) := by decide +kernel
theorem dX8_composite_140 : decode cX8_composite 140 = .ok (.lload 6, 2) := by decide +kernel
theorem dX8_composite_142 : decode cX8_composite 142 = .ok (.iload 5, 2) := by decide +kernel
theorem dX8_composite_144 : decode cX8_composite 144 = .ok (.iconst 2, 1) := by decide +kernel
theorem dX8_composite_145 : decode cX8_composite 145 = .ok (.if_icmp .ne 8, 3) := by decide +kernel
theorem dX8_composite_148 : decode cX8_composite 148 = .ok (.lload 10, 2) := by decide +kernel
theorem dX8_composite_150 : decode cX8_composite 150 = .ok (.goto 21, 3) := by decide +kernel
theorem dX8_composite_153 : decode cX8_composite 153 = .ok (.lload 10, 2) := by decide +kernel
theorem dX8_composite_155 : decode cX8_composite 155 = .ok (.iload 12, 2) := by decide +kernel
theorem dX8_composite_157 : decode cX8_composite 157 = .ok (.iload 4, 2) := by decide +kernel
theorem dX8_composite_159 : decode cX8_composite 159 = .ok (.if_icmp .ge 8, 3) := by decide +kernel
theorem dX8_composite_162 : decode cX8_composite 162 = .ok (.iload 12, 2) := by decide +kernel
theorem dX8_composite_164 : decode cX8_composite 164 = .ok (.goto 5, 3) := by decide +kernel
theorem dX8_composite_167 : decode cX8_composite 167 = .ok (.iload 4, 2) := by decide +kernel
theorem dX8_composite_169 : decode cX8_composite 169 = .ok (.i2l, 1) := by decide +kernel
theorem dX8_composite_170 : decode cX8_composite 170 = .ok (.lmul, 1) := by decide +kernel
theorem dX8_composite_171 : decode cX8_composite 171 = .ok (.ladd, 1) := by decide +kernel
theorem dX8_composite_172 : decode cX8_composite 172 = .ok (.lstore 6, 2) := by decide +kernel
theorem dX8_composite_174 : decode cX8_composite 174 = .ok (.iinc 8 1, 3) := by decide +kernel
theorem dX8_composite_177 : decode cX8_composite 177 = .ok (.goto (-119), 3) := by decide +kernel
theorem dX8_composite_180 : decode cX8_composite 180 = .ok (.lload 6, 2) := by decide +kernel
theorem dX8_composite_182 : decode cX8_composite 182 = .ok (.lreturn, 1) := by decide +kernel
set_option maxRecDepth 20000 in
theorem ggX8_pairCost_X8_thick : GoodIn wsX8_pairCost wsX8_thick := goodIn_r _ [6, 7, 8, 9, 10, 5, 11, 15, 16, 17, 18, 19, 20, 21, 22, 23, 24, 25, 26, 27, 28, 29, 30, 31, 32, 33, 34, 35, 36, 37, 38, 39, 40, 41] (by decide +kernel) (by decide +kernel)
set_option maxRecDepth 20000 in
theorem gX8_pairCost_X8_thick : GoodIn wsX8_pairCost (wsV RX8 202 RX8 yX8_thick wsX8_thick) := goodIn_app (goodIn_of _ (by decide +kernel)) ggX8_pairCost_X8_thick
set_option maxRecDepth 20000 in
theorem ggX8_pairCost_X8_far : GoodIn wsX8_pairCost wsX8_far := goodIn_r _ [14] (by decide +kernel) (by decide +kernel)
set_option maxRecDepth 20000 in
theorem gX8_pairCost_X8_far : GoodIn wsX8_pairCost (va_wsS RX8 168 yX8_far wsX8_far) := goodIn_app (goodIn_of _ (by decide +kernel)) ggX8_pairCost_X8_far
theorem dX8_pairCost_0 : decode cX8_pairCost 0 = .ok (.aload_n 0, 1) := by decide +kernel
theorem dX8_pairCost_1 : decode cX8_pairCost 1 = .ok (.iconst 2, 1) := by decide +kernel
theorem dX8_pairCost_2 : decode cX8_pairCost 2 = .ok (.iload_n 1, 1) := by decide +kernel
theorem dX8_pairCost_3 : decode cX8_pairCost 3 = .ok (.imul, 1) := by decide +kernel
theorem dX8_pairCost_4 : decode cX8_pairCost 4 = .ok (.iload_n 3, 1) := by decide +kernel
theorem dX8_pairCost_5 : decode cX8_pairCost 5 = .ok (.invokevirtual 202, 3) := by decide +kernel
theorem dX8_pairCost_8 : decode cX8_pairCost 8 = .ok (.aload_n 0, 1) := by decide +kernel
theorem dX8_pairCost_9 : decode cX8_pairCost 9 = .ok (.iconst 2, 1) := by decide +kernel
theorem dX8_pairCost_10 : decode cX8_pairCost 10 = .ok (.iload_n 2, 1) := by decide +kernel
theorem dX8_pairCost_11 : decode cX8_pairCost 11 = .ok (.imul, 1) := by decide +kernel
theorem dX8_pairCost_12 : decode cX8_pairCost 12 = .ok (.iload 4, 2) := by decide +kernel
theorem dX8_pairCost_14 : decode cX8_pairCost 14 = .ok (.invokevirtual 202, 3) := by decide +kernel
theorem dX8_pairCost_17 : decode cX8_pairCost 17 = .ok (.invokestatic 168, 3) := by decide +kernel
theorem dX8_pairCost_20 : decode cX8_pairCost 20 = .ok (.aload_n 0, 1) := by decide +kernel
theorem dX8_pairCost_21 : decode cX8_pairCost 21 = .ok (.getfield 77, 3) := by decide +kernel
theorem dX8_pairCost_24 : decode cX8_pairCost 24 = .ok (.bipush 21, 2) := by decide +kernel
theorem dX8_pairCost_26 : decode cX8_pairCost 26 = .ok (.iload_n 3, 1) := by decide +kernel
theorem dX8_pairCost_27 : decode cX8_pairCost 27 = .ok (.iconst 1, 1) := by decide +kernel
theorem dX8_pairCost_28 : decode cX8_pairCost 28 = .ok (.iadd, 1) := by decide +kernel
theorem dX8_pairCost_29 : decode cX8_pairCost 29 = .ok (.imul, 1) := by decide +kernel
theorem dX8_pairCost_30 : decode cX8_pairCost 30 = .ok (.iload 4, 2) := by decide +kernel
theorem dX8_pairCost_32 : decode cX8_pairCost 32 = .ok (.iadd, 1) := by decide +kernel
theorem dX8_pairCost_33 : decode cX8_pairCost 33 = .ok (.iconst 1, 1) := by decide +kernel
theorem dX8_pairCost_34 : decode cX8_pairCost 34 = .ok (.iadd, 1) := by decide +kernel
theorem dX8_pairCost_35 : decode cX8_pairCost 35 = .ok (.iaload, 1) := by decide +kernel
theorem dX8_pairCost_36 : decode cX8_pairCost 36 = .ok (.iadd, 1) := by decide +kernel
theorem dX8_pairCost_37 : decode cX8_pairCost 37 = .ok (.ireturn, 1) := by decide +kernel
set_option maxRecDepth 20000 in
theorem ggX8_mayGo_X8_codeOf : GoodIn wsX8_mayGo wsX8_codeOf := goodIn_r _ [5, 6, 7, 8, 9, 10, 11, 12, 13, 14, 15, 16, 17, 18, 19, 20, 21, 22, 23, 24, 25, 26, 27, 28, 29, 30, 31, 32, 33, 34] (by decide +kernel) (by decide +kernel)
set_option maxRecDepth 20000 in
theorem gX8_mayGo_X8_codeOf : GoodIn wsX8_mayGo (wsV RX8 130 RX8 yX8_codeOf wsX8_codeOf) := goodIn_app (goodIn_of _ (by decide +kernel)) ggX8_mayGo_X8_codeOf
theorem dX8_mayGo_0 : decode cX8_mayGo 0 = .ok (.aload_n 0, 1) := by decide +kernel
theorem dX8_mayGo_1 : decode cX8_mayGo 1 = .ok (.iconst 2, 1) := by decide +kernel
theorem dX8_mayGo_2 : decode cX8_mayGo 2 = .ok (.iload_n 1, 1) := by decide +kernel
theorem dX8_mayGo_3 : decode cX8_mayGo 3 = .ok (.imul, 1) := by decide +kernel
theorem dX8_mayGo_4 : decode cX8_mayGo 4 = .ok (.iload_n 3, 1) := by decide +kernel
theorem dX8_mayGo_5 : decode cX8_mayGo 5 = .ok (.invokevirtual 130, 3) := by decide +kernel
theorem dX8_mayGo_8 : decode cX8_mayGo 8 = .ok (.aload_n 0, 1) := by decide +kernel
theorem dX8_mayGo_9 : decode cX8_mayGo 9 = .ok (.iconst 2, 1) := by decide +kernel
theorem dX8_mayGo_10 : decode cX8_mayGo 10 = .ok (.iload_n 2, 1) := by decide +kernel
theorem dX8_mayGo_11 : decode cX8_mayGo 11 = .ok (.imul, 1) := by decide +kernel
theorem dX8_mayGo_12 : decode cX8_mayGo 12 = .ok (.iload 4, 2) := by decide +kernel
theorem dX8_mayGo_14 : decode cX8_mayGo 14 = .ok (.invokevirtual 130, 3) := by decide +kernel
theorem dX8_mayGo_17 : decode cX8_mayGo 17 = .ok (.if_icmp .ne 7, 3) := by decide +kernel
theorem dX8_mayGo_20 : decode cX8_mayGo 20 = .ok (.iconst 1, 1) := by decide +kernel
theorem dX8_mayGo_21 : decode cX8_mayGo 21 = .ok (.goto 4, 3) := by decide +kernel
theorem dX8_mayGo_24 : decode cX8_mayGo 24 = .ok (.iconst 0, 1) := by decide +kernel
theorem dX8_mayGo_25 : decode cX8_mayGo 25 = .ok (.ireturn, 1) := by decide +kernel
set_option maxRecDepth 20000 in
theorem ggX8_match_X8_thick : GoodIn wsX8_match wsX8_thick := goodIn_r _ [8, 9, 10, 11, 12, 7, 13, 31, 32, 33, 34, 35, 36, 37, 38, 39, 40, 41, 42, 43, 44, 45, 46, 47, 48, 49, 50, 51, 52, 53, 54, 55, 56, 57] (by decide +kernel) (by decide +kernel)
set_option maxRecDepth 20000 in
theorem gX8_match_X8_thick : GoodIn wsX8_match (wsV RX8 202 RX8 yX8_thick wsX8_thick) := goodIn_app (goodIn_of _ (by decide +kernel)) ggX8_match_X8_thick
set_option maxRecDepth 20000 in
theorem ggX8_match_X8_mayGo : GoodIn wsX8_match wsX8_mayGo := goodIn_r _ [17, 18, 19, 20, 7, 21, 22, 23, 31, 32, 33, 34, 35, 36, 37, 38, 39, 40, 41, 42, 43, 44, 45, 46, 47, 48, 49, 50, 51, 52, 53, 54, 55, 56, 57] (by decide +kernel) (by decide +kernel)
set_option maxRecDepth 20000 in
theorem gX8_match_X8_mayGo : GoodIn wsX8_match (wsV RX8 206 RX8 yX8_mayGo wsX8_mayGo) := goodIn_app (goodIn_of _ (by decide +kernel)) ggX8_match_X8_mayGo
set_option maxRecDepth 20000 in
theorem ggX8_match_X8_pairCost : GoodIn wsX8_match wsX8_pairCost := goodIn_r _ [27, 3, 4, 5, 6, 7, 8, 9, 10, 11, 12, 13, 28, 29, 30, 31, 32, 33, 34, 35, 36, 37, 38, 39, 40, 41, 42, 43, 44, 45, 46, 47, 48, 49, 50, 51, 52, 53, 54, 55, 56, 57] (by decide +kernel) (by decide +kernel)
set_option maxRecDepth 20000 in
theorem gX8_match_X8_pairCost : GoodIn wsX8_match (wsV RX8 210 RX8 yX8_pairCost wsX8_pairCost) := goodIn_app (goodIn_of _ (by decide +kernel)) ggX8_match_X8_pairCost
theorem dX8_match_0 : decode cX8_match 0 = .ok (.aload_n 0, 1) := by decide +kernel
theorem dX8_match_1 : decode cX8_match 1 = .ok (.getfield 32, 3) := by decide +kernel
theorem dX8_match_4 : decode cX8_match 4 = .ok (.iconst 2, 1) := by decide +kernel
theorem dX8_match_5 : decode cX8_match 5 = .ok (.iload_n 1, 1) := by decide +kernel
theorem dX8_match_6 : decode cX8_match 6 = .ok (.imul, 1) := by decide +kernel
theorem dX8_match_7 : decode cX8_match 7 = .ok (.iaload, 1) := by decide +kernel
theorem dX8_match_8 : decode cX8_match 8 = .ok (.istore_n 3, 1) := by decide +kernel
theorem dX8_match_9 : decode cX8_match 9 = .ok (.aload_n 0, 1) := by decide +kernel
theorem dX8_match_10 : decode cX8_match 10 = .ok (.getfield 32, 3) := by decide +kernel
theorem dX8_match_13 : decode cX8_match 13 = .ok (.iconst 2, 1) := by decide +kernel
theorem dX8_match_14 : decode cX8_match 14 = .ok (.iload_n 2, 1) := by decide +kernel
theorem dX8_match_15 : decode cX8_match 15 = .ok (.imul, 1) := by decide +kernel
theorem dX8_match_16 : decode cX8_match 16 = .ok (.iaload, 1) := by decide +kernel
theorem dX8_match_17 : decode cX8_match 17 = .ok (.istore 4, 2) := by decide +kernel
theorem dX8_match_19 : decode cX8_match 19 = .ok (.iload_n 3, 1) := by decide +kernel
theorem dX8_match_20 : decode cX8_match 20 = .ok (.istore 5, 2) := by decide +kernel
theorem dX8_match_22 : decode cX8_match 22 = .ok (.iload 5, 2) := by decide +kernel
theorem dX8_match_24 : decode cX8_match 24 = .ok (.ifCond .lt 213, 3) := by decide +kernel
theorem dX8_match_27 : decode cX8_match 27 = .ok (.iload 4, 2) := by decide +kernel
theorem dX8_match_29 : decode cX8_match 29 = .ok (.istore 6, 2) := by decide +kernel
theorem dX8_match_31 : decode cX8_match 31 = .ok (.iload 6, 2) := by decide +kernel
theorem dX8_match_33 : decode cX8_match 33 = .ok (.ifCond .lt 198, 3) := by decide +kernel
theorem dX8_match_36 : decode cX8_match 36 = .ok (.iload 5, 2) := by decide +kernel
theorem dX8_match_38 : decode cX8_match 38 = .ok (.iload_n 3, 1) := by decide +kernel
theorem dX8_match_39 : decode cX8_match 39 = .ok (.if_icmp .ne 14, 3) := by decide +kernel
theorem dX8_match_42 : decode cX8_match 42 = .ok (.iload 6, 2) := by decide +kernel
theorem dX8_match_44 : decode cX8_match 44 = .ok (.iload 4, 2) := by decide +kernel
theorem dX8_match_46 : decode cX8_match 46 = .ok (.if_icmp .ne 7, 3) := by decide +kernel
theorem dX8_match_49 : decode cX8_match 49 = .ok (.iconst 0, 1) := by decide +kernel
theorem dX8_match_50 : decode cX8_match 50 = .ok (.goto 5, 3) := by decide +kernel
theorem dX8_match_53 : decode cX8_match 53 = .ok (.ldc 205, 2) := by decide +kernel
theorem dX8_match_55 : decode cX8_match 55 = .ok (.istore 7, 2) := by decide +kernel
theorem dX8_match_57 : decode cX8_match 57 = .ok (.iload 5, 2) := by decide +kernel
theorem dX8_match_59 : decode cX8_match 59 = .ok (.iload_n 3, 1) := by decide +kernel
theorem dX8_match_60 : decode cX8_match 60 = .ok (.if_icmp .ge 46, 3) := by decide +kernel
theorem dX8_match_63 : decode cX8_match 63 = .ok (.aload_n 0, 1) := by decide +kernel
theorem dX8_match_64 : decode cX8_match 64 = .ok (.iconst 2, 1) := by decide +kernel
theorem dX8_match_65 : decode cX8_match 65 = .ok (.iload_n 1, 1) := by decide +kernel
theorem dX8_match_66 : decode cX8_match 66 = .ok (.imul, 1) := by decide +kernel
theorem dX8_match_67 : decode cX8_match 67 = .ok (.iload 5, 2) := by decide +kernel
theorem dX8_match_69 : decode cX8_match 69 = .ok (.invokevirtual 202, 3) := by decide +kernel
theorem dX8_match_72 : decode cX8_match 72 = .ok (.aload_n 0, 1) := by decide +kernel
theorem dX8_match_73 : decode cX8_match 73 = .ok (.getfield 77, 3) := by decide +kernel
theorem dX8_match_76 : decode cX8_match 76 = .ok (.bipush 21, 2) := by decide +kernel
theorem dX8_match_78 : decode cX8_match 78 = .ok (.iload 5, 2) := by decide +kernel
theorem dX8_match_80 : decode cX8_match 80 = .ok (.iconst 1, 1) := by decide +kernel
theorem dX8_match_81 : decode cX8_match 81 = .ok (.iadd, 1) := by decide +kernel
theorem dX8_match_82 : decode cX8_match 82 = .ok (.imul, 1) := by decide +kernel
theorem dX8_match_83 : decode cX8_match 83 = .ok (.iload 6, 2) := by decide +kernel
theorem dX8_match_85 : decode cX8_match 85 = .ok (.iadd, 1) := by decide +kernel
theorem dX8_match_86 : decode cX8_match 86 = .ok (.iaload, 1) := by decide +kernel
theorem dX8_match_87 : decode cX8_match 87 = .ok (.iadd, 1) := by decide +kernel
theorem dX8_match_88 : decode cX8_match 88 = .ok (.istore 8, 2) := by decide +kernel
theorem dX8_match_90 : decode cX8_match 90 = .ok (.iload 8, 2) := by decide +kernel
theorem dX8_match_92 : decode cX8_match 92 = .ok (.iload 7, 2) := by decide +kernel
theorem dX8_match_94 : decode cX8_match 94 = .ok (.if_icmp .ge 8, 3) := by decide +kernel
theorem dX8_match_97 : decode cX8_match 97 = .ok (.iload 8, 2) := by decide +kernel
theorem dX8_match_99 : decode cX8_match 99 = .ok (.goto 5, 3) := by decide +kernel
theorem dX8_match_102 : decode cX8_match 102 = .ok (.iload 7, 2) := by decide +kernel
theorem dX8_match_104 : decode cX8_match 104 = .ok (.istore 7, 2) := by decide +kernel
theorem dX8_match_106 : decode cX8_match 106 = .ok (.iload 6, 2) := by decide +kernel
theorem dX8_match_108 : decode cX8_match 108 = .ok (.iload 4, 2) := by decide +kernel
theorem dX8_match_110 : decode cX8_match 110 = .ok (.if_icmp .ge 46, 3) := by decide +kernel
theorem dX8_match_113 : decode cX8_match 113 = .ok (.aload_n 0, 1) := by decide +kernel
theorem dX8_match_114 : decode cX8_match 114 = .ok (.iconst 2, 1) := by decide +kernel
theorem dX8_match_115 : decode cX8_match 115 = .ok (.iload_n 2, 1) := by decide +kernel
theorem dX8_match_116 : decode cX8_match 116 = .ok (.imul, 1) := by decide +kernel
theorem dX8_match_117 : decode cX8_match 117 = .ok (.iload 6, 2) := by decide +kernel
theorem dX8_match_119 : decode cX8_match 119 = .ok (.invokevirtual 202, 3) := by decide +kernel
theorem dX8_match_122 : decode cX8_match 122 = .ok (.aload_n 0, 1) := by decide +kernel
theorem dX8_match_123 : decode cX8_match 123 = .ok (.getfield 77, 3) := by decide +kernel
theorem dX8_match_126 : decode cX8_match 126 = .ok (.bipush 21, 2) := by decide +kernel
theorem dX8_match_128 : decode cX8_match 128 = .ok (.iload 5, 2) := by decide +kernel
theorem dX8_match_130 : decode cX8_match 130 = .ok (.imul, 1) := by decide +kernel
theorem dX8_match_131 : decode cX8_match 131 = .ok (.iload 6, 2) := by decide +kernel
theorem dX8_match_133 : decode cX8_match 133 = .ok (.iadd, 1) := by decide +kernel
theorem dX8_match_134 : decode cX8_match 134 = .ok (.iconst 1, 1) := by decide +kernel
theorem dX8_match_135 : decode cX8_match 135 = .ok (.iadd, 1) := by decide +kernel
theorem dX8_match_136 : decode cX8_match 136 = .ok (.iaload, 1) := by decide +kernel
theorem dX8_match_137 : decode cX8_match 137 = .ok (.iadd, 1) := by decide +kernel
theorem dX8_match_138 : decode cX8_match 138 = .ok (.istore 8, 2) := by decide +kernel
theorem dX8_match_140 : decode cX8_match 140 = .ok (.iload 8, 2) := by decide +kernel
theorem dX8_match_142 : decode cX8_match 142 = .ok (.iload 7, 2) := by decide +kernel
theorem dX8_match_144 : decode cX8_match 144 = .ok (.if_icmp .ge 8, 3) := by decide +kernel
theorem dX8_match_147 : decode cX8_match 147 = .ok (.iload 8, 2) := by decide +kernel
theorem dX8_match_149 : decode cX8_match 149 = .ok (.goto 5, 3) := by decide +kernel
theorem dX8_match_152 : decode cX8_match 152 = .ok (.iload 7, 2) := by decide +kernel
theorem dX8_match_154 : decode cX8_match 154 = .ok (.istore 7, 2) := by decide +kernel
theorem dX8_match_156 : decode cX8_match 156 = .ok (.iload 5, 2) := by decide +kernel
theorem dX8_match_158 : decode cX8_match 158 = .ok (.iload_n 3, 1) := by decide +kernel
theorem dX8_match_159 : decode cX8_match 159 = .ok (.if_icmp .ge 51, 3) := by decide +kernel
theorem dX8_match_162 : decode cX8_match 162 = .ok (.iload 6, 2) := by decide +kernel
theorem dX8_match_164 : decode cX8_match 164 = .ok (.iload 4, 2) := by decide +kernel
theorem dX8_match_166 : decode cX8_match 166 = .ok (.if_icmp .ge 44, 3) := by decide +kernel
theorem dX8_match_169 : decode cX8_match 169 = .ok (.aload_n 0, 1) := by decide +kernel
theorem dX8_match_170 : decode cX8_match 170 = .ok (.iload_n 1, 1) := by decide +kernel
theorem dX8_match_171 : decode cX8_match 171 = .ok (.iload_n 2, 1) := by decide +kernel
theorem dX8_match_172 : decode cX8_match 172 = .ok (.iload 5, 2) := by decide +kernel
theorem dX8_match_174 : decode cX8_match 174 = .ok (.iload 6, 2) := by decide +kernel
theorem dX8_match_176 : decode cX8_match 176 = .ok (.invokevirtual 206, 3) := by decide +kernel
theorem dX8_match_179 : decode cX8_match 179 = .ok (.ifCond .eq 31, 3) := by decide +kernel
theorem dX8_match_182 : decode cX8_match 182 = .ok (.aload_n 0, 1) := by decide +kernel
theorem dX8_match_183 : decode cX8_match 183 = .ok (.iload_n 1, 1) := by decide +kernel
theorem dX8_match_184 : decode cX8_match 184 = .ok (.iload_n 2, 1) := by decide +kernel
theorem dX8_match_185 : decode cX8_match 185 = .ok (.iload 5, 2) := by decide +kernel
theorem dX8_match_187 : decode cX8_match 187 = .ok (.iload 6, 2) := by decide +kernel
theorem dX8_match_189 : decode cX8_match 189 = .ok (.invokevirtual 210, 3) := by decide +kernel
theorem dX8_match_192 : decode cX8_match 192 = .ok (.istore 8, 2) := by decide +kernel
theorem dX8_match_194 : decode cX8_match 194 = .ok (.iload 8, 2) := by decide +kernel
theorem dX8_match_196 : decode cX8_match 196 = .ok (.iload 7, 2) := by decide +kernel
theorem dX8_match_198 : decode cX8_match 198 = .ok (.if_icmp .ge 8, 3) := by decide +kernel
theorem dX8_match_201 : decode cX8_match 201 = .ok (.iload 8, 2) := by decide +kernel
theorem dX8_match_203 : decode cX8_match 203 = .ok (.goto 5, 3) := by decide +kernel
theorem dX8_match_206 : decode cX8_match 206 = .ok (.iload 7, 2) := by decide +kernel
theorem dX8_match_208 : decode cX8_match 208 = .ok (.istore 7, 2) := by decide +kernel
theorem dX8_match_210 : decode cX8_match 210 = .ok (.aload_n 0, 1) := by decide +kernel
theorem dX8_match_211 : decode cX8_match 211 = .ok (.getfield 77, 3) := by decide +kernel
theorem dX8_match_214 : decode cX8_match 214 = .ok (.bipush 21, 2) := by decide +kernel
theorem dX8_match_216 : decode cX8_match 216 = .ok (.iload 5, 2) := by decide +kernel
theorem dX8_match_218 : decode cX8_match 218 = .ok (.imul, 1) := by decide +kernel
theorem dX8_match_219 : decode cX8_match 219 = .ok (.iload 6, 2) := by decide +kernel
theorem dX8_match_221 : decode cX8_match 221 = .ok (.iadd, 1) := by decide +kernel
theorem dX8_match_222 : decode cX8_match 222 = .ok (.iload 7, 2) := by decide +kernel
theorem dX8_match_224 : decode cX8_match 224 = .ok (.iastore, 1) := by decide +kernel
theorem dX8_match_225 : decode cX8_match 225 = .ok (.iinc 6 (-1), 3) := by decide +kernel
theorem dX8_match_228 : decode cX8_match 228 = .ok (.goto (-197), 3) := by decide +kernel
theorem dX8_match_231 : decode cX8_match 231 = .ok (.iinc 5 (-1), 3) := by decide +kernel
theorem dX8_match_234 : decode cX8_match 234 = .ok (.goto (-212), 3) := by decide +kernel
theorem dX8_match_237 : decode cX8_match 237 = .ok (.return_, 1) := by decide +kernel
set_option maxRecDepth 20000 in
theorem ggX8_cost_X8_isHole : GoodIn wsX8_cost wsX8_isHole := goodIn_r _ [6, 7, 8, 9, 5, 10, 43, 44, 45, 46, 47, 48, 49, 50, 51, 52, 53, 54, 55, 56, 57, 58, 59, 60, 61, 62, 63, 64, 65, 66, 67, 68, 69] (by decide +kernel) (by decide +kernel)
set_option maxRecDepth 20000 in
theorem gX8_cost_X8_isHole : GoodIn wsX8_cost (wsV RX8 91 RX8 yX8_isHole wsX8_isHole) := goodIn_app (goodIn_of _ (by decide +kernel)) ggX8_cost_X8_isHole
set_option maxRecDepth 20000 in
theorem ggX8_cost_X8_match : GoodIn wsX8_cost wsX8_match := goodIn_r _ [14, 15, 16, 1, 17, 18, 19, 5, 20, 21, 22, 23, 24, 25, 26, 27, 28, 29, 30, 31, 32, 33, 34, 35, 36, 37, 38, 39, 40, 41, 42, 43, 44, 45, 46, 47, 48, 49, 50, 51, 52, 53, 54, 55, 56, 57, 58, 59, 60, 61, 62, 63, 64, 65, 66, 67, 68, 69] (by decide +kernel) (by decide +kernel)
set_option maxRecDepth 20000 in
theorem gX8_cost_X8_match : GoodIn wsX8_cost (wsV RX8 213 RX8 yX8_match wsX8_match) := goodIn_app (goodIn_of _ (by decide +kernel)) ggX8_cost_X8_match
theorem dX8_cost_0 : decode cX8_cost 0 = .ok (.aload_n 0, 1) := by decide +kernel
theorem dX8_cost_1 : decode cX8_cost 1 = .ok (.iload_n 1, 1) := by decide +kernel
theorem dX8_cost_2 : decode cX8_cost 2 = .ok (.invokevirtual 91, 3) := by decide +kernel
theorem dX8_cost_5 : decode cX8_cost 5 = .ok (.ifCond .eq 11, 3) := by decide +kernel
theorem dX8_cost_8 : decode cX8_cost 8 = .ok (.aload_n 0, 1) := by decide +kernel
theorem dX8_cost_9 : decode cX8_cost 9 = .ok (.iload_n 2, 1) := by decide +kernel
theorem dX8_cost_10 : decode cX8_cost 10 = .ok (.invokevirtual 91, 3) := by decide +kernel
theorem dX8_cost_13 : decode cX8_cost 13 = .ok (.ifCond .ne 6, 3) := by decide +kernel
theorem dX8_cost_16 : decode cX8_cost 16 = .ok (.bipush (-101), 2) := by decide +kernel
theorem dX8_cost_18 : decode cX8_cost 18 = .ok (.ireturn, 1) := by decide +kernel
theorem dX8_cost_19 : decode cX8_cost 19 = .ok (.aload_n 0, 1) := by decide +kernel
theorem dX8_cost_20 : decode cX8_cost 20 = .ok (.iload_n 1, 1) := by decide +kernel
theorem dX8_cost_21 : decode cX8_cost 21 = .ok (.iload_n 2, 1) := by decide +kernel
theorem dX8_cost_22 : decode cX8_cost 22 = .ok (.invokevirtual 213, 3) := by decide +kernel
theorem dX8_cost_25 : decode cX8_cost 25 = .ok (.aload_n 0, 1) := by decide +kernel
theorem dX8_cost_26 : decode cX8_cost 26 = .ok (.getfield 77, 3) := by decide +kernel
theorem dX8_cost_29 : decode cX8_cost 29 = .ok (.iconst 0, 1) := by decide +kernel
theorem dX8_cost_30 : decode cX8_cost 30 = .ok (.iaload, 1) := by decide +kernel
theorem dX8_cost_31 : decode cX8_cost 31 = .ok (.ireturn, 1) := by decide +kernel
set_option maxRecDepth 20000 in
theorem ggX8_matched_X8_isHole : GoodIn wsX8_matched wsX8_isHole := goodIn_r _ [7, 8, 9, 10, 6, 11, 43, 44, 45, 46, 47, 48, 49, 50, 51, 52, 53, 54, 55, 56, 57, 58, 59, 60, 61, 62, 63, 64, 65, 66, 67, 68, 69] (by decide +kernel) (by decide +kernel)
set_option maxRecDepth 20000 in
theorem gX8_matched_X8_isHole : GoodIn wsX8_matched (wsV RX8 91 RX8 yX8_isHole wsX8_isHole) := goodIn_app (goodIn_of _ (by decide +kernel)) ggX8_matched_X8_isHole
set_option maxRecDepth 20000 in
theorem ggX8_matched_X8_in : GoodIn wsX8_matched wsX8_in := goodIn_r _ [11] (by decide +kernel) (by decide +kernel)
set_option maxRecDepth 20000 in
theorem gX8_matched_X8_in : GoodIn wsX8_matched (va_wsS RX8 84 yX8_in wsX8_in) := goodIn_app (goodIn_of _ (by decide +kernel)) ggX8_matched_X8_in
set_option maxRecDepth 20000 in
theorem ggX8_matched_X8_match : GoodIn wsX8_matched wsX8_match := goodIn_r _ [15, 1, 16, 2, 17, 18, 19, 6, 20, 21, 22, 23, 24, 25, 26, 27, 28, 29, 30, 31, 32, 33, 34, 35, 36, 37, 38, 39, 40, 41, 42, 43, 44, 45, 46, 47, 48, 49, 50, 51, 52, 53, 54, 55, 56, 57, 58, 59, 60, 61, 62, 63, 64, 65, 66, 67, 68, 69] (by decide +kernel) (by decide +kernel)
set_option maxRecDepth 20000 in
theorem gX8_matched_X8_match : GoodIn wsX8_matched (wsV RX8 213 RX8 yX8_match wsX8_match) := goodIn_app (goodIn_of _ (by decide +kernel)) ggX8_matched_X8_match
set_option maxRecDepth 20000 in
theorem ggX8_matched_X8_mayGo : GoodIn wsX8_matched wsX8_mayGo := goodIn_r _ [29, 30, 31, 32, 6, 33, 34, 35, 43, 44, 45, 46, 47, 48, 49, 50, 51, 52, 53, 54, 55, 56, 57, 58, 59, 60, 61, 62, 63, 64, 65, 66, 67, 68, 69] (by decide +kernel) (by decide +kernel)
set_option maxRecDepth 20000 in
theorem gX8_matched_X8_mayGo : GoodIn wsX8_matched (wsV RX8 206 RX8 yX8_mayGo wsX8_mayGo) := goodIn_app (goodIn_of _ (by decide +kernel)) ggX8_matched_X8_mayGo
set_option maxRecDepth 20000 in
theorem ggX8_matched_X8_pairCost : GoodIn wsX8_matched wsX8_pairCost := goodIn_r _ [39, 2, 17, 18, 19, 6, 20, 21, 22, 23, 24, 25, 40, 41, 42, 43, 44, 45, 46, 47, 48, 49, 50, 51, 52, 53, 54, 55, 56, 57, 58, 59, 60, 61, 62, 63, 64, 65, 66, 67, 68, 69] (by decide +kernel) (by decide +kernel)
set_option maxRecDepth 20000 in
theorem gX8_matched_X8_pairCost : GoodIn wsX8_matched (wsV RX8 210 RX8 yX8_pairCost wsX8_pairCost) := goodIn_app (goodIn_of _ (by decide +kernel)) ggX8_matched_X8_pairCost
set_option maxRecDepth 20000 in
theorem ggX8_matched_X8_thick : GoodIn wsX8_matched wsX8_thick := goodIn_r _ [20, 21, 22, 23, 24, 6, 25, 43, 44, 45, 46, 47, 48, 49, 50, 51, 52, 53, 54, 55, 56, 57, 58, 59, 60, 61, 62, 63, 64, 65, 66, 67, 68, 69] (by decide +kernel) (by decide +kernel)
set_option maxRecDepth 20000 in
theorem gX8_matched_X8_thick : GoodIn wsX8_matched (wsV RX8 202 RX8 yX8_thick wsX8_thick) := goodIn_app (goodIn_of _ (by decide +kernel)) ggX8_matched_X8_thick
theorem dX8_matched_0 : decode cX8_matched 0 = .ok (.aload_n 0, 1) := by decide +kernel
theorem dX8_matched_1 : decode cX8_matched 1 = .ok (.iload_n 1, 1) := by decide +kernel
theorem dX8_matched_2 : decode cX8_matched 2 = .ok (.invokevirtual 91, 3) := by decide +kernel
theorem dX8_matched_5 : decode cX8_matched 5 = .ok (.ifCond .eq 31, 3) := by decide +kernel
theorem dX8_matched_8 : decode cX8_matched 8 = .ok (.aload_n 0, 1) := by decide +kernel
theorem dX8_matched_9 : decode cX8_matched 9 = .ok (.iload_n 2, 1) := by decide +kernel
theorem dX8_matched_10 : decode cX8_matched 10 = .ok (.invokevirtual 91, 3) := by decide +kernel
theorem dX8_matched_13 : decode cX8_matched 13 = .ok (.ifCond .eq 23, 3) := by decide +kernel
theorem dX8_matched_16 : decode cX8_matched 16 = .ok (.iload_n 3, 1) := by decide +kernel
theorem dX8_matched_17 : decode cX8_matched 17 = .ok (.i2l, 1) := by decide +kernel
theorem dX8_matched_18 : decode cX8_matched 18 = .ok (.lconst 0, 1) := by decide +kernel
theorem dX8_matched_19 : decode cX8_matched 19 = .ok (.aload_n 0, 1) := by decide +kernel
theorem dX8_matched_20 : decode cX8_matched 20 = .ok (.getfield 32, 3) := by decide +kernel
theorem dX8_matched_23 : decode cX8_matched 23 = .ok (.iconst 2, 1) := by decide +kernel
theorem dX8_matched_24 : decode cX8_matched 24 = .ok (.iload_n 1, 1) := by decide +kernel
theorem dX8_matched_25 : decode cX8_matched 25 = .ok (.imul, 1) := by decide +kernel
theorem dX8_matched_26 : decode cX8_matched 26 = .ok (.iaload, 1) := by decide +kernel
theorem dX8_matched_27 : decode cX8_matched 27 = .ok (.iconst 1, 1) := by decide +kernel
theorem dX8_matched_28 : decode cX8_matched 28 = .ok (.isub, 1) := by decide +kernel
theorem dX8_matched_29 : decode cX8_matched 29 = .ok (.i2l, 1) := by decide +kernel
theorem dX8_matched_30 : decode cX8_matched 30 = .ok (.invokestatic 84, 3) := by decide +kernel
theorem dX8_matched_33 : decode cX8_matched 33 = .ok (.ifCond .ne 6, 3) := by decide +kernel
theorem dX8_matched_36 : decode cX8_matched 36 = .ok (.bipush (-101), 2) := by decide +kernel
theorem dX8_matched_38 : decode cX8_matched 38 = .ok (.ireturn, 1) := by decide +kernel
theorem dX8_matched_39 : decode cX8_matched 39 = .ok (.aload_n 0, 1) := by decide +kernel
theorem dX8_matched_40 : decode cX8_matched 40 = .ok (.iload_n 1, 1) := by decide +kernel
theorem dX8_matched_41 : decode cX8_matched 41 = .ok (.iload_n 2, 1) := by decide +kernel
theorem dX8_matched_42 : decode cX8_matched 42 = .ok (.invokevirtual 213, 3) := by decide +kernel
theorem dX8_matched_45 : decode cX8_matched 45 = .ok (.aload_n 0, 1) := by decide +kernel
theorem dX8_matched_46 : decode cX8_matched 46 = .ok (.getfield 32, 3) := by decide +kernel
theorem dX8_matched_49 : decode cX8_matched 49 = .ok (.iconst 2, 1) := by decide +kernel
theorem dX8_matched_50 : decode cX8_matched 50 = .ok (.iload_n 2, 1) := by decide +kernel
theorem dX8_matched_51 : decode cX8_matched 51 = .ok (.imul, 1) := by decide +kernel
theorem dX8_matched_52 : decode cX8_matched 52 = .ok (.iaload, 1) := by decide +kernel
theorem dX8_matched_53 : decode cX8_matched 53 = .ok (.istore 4, 2) := by decide +kernel
theorem dX8_matched_55 : decode cX8_matched 55 = .ok (.iconst 0, 1) := by decide +kernel
theorem dX8_matched_56 : decode cX8_matched 56 = .ok (.istore 5, 2) := by decide +kernel
theorem dX8_matched_58 : decode cX8_matched 58 = .ok (.iconst (-1), 1) := by decide +kernel
theorem dX8_matched_59 : decode cX8_matched 59 = .ok (.istore 6, 2) := by decide +kernel
theorem dX8_matched_61 : decode cX8_matched 61 = .ok (.iconst 0, 1) := by decide +kernel
theorem dX8_matched_62 : decode cX8_matched 62 = .ok (.istore 7, 2) := by decide +kernel
theorem dX8_matched_64 : decode cX8_matched 64 = .ok (.iload 7, 2) := by decide +kernel
theorem dX8_matched_66 : decode cX8_matched 66 = .ok (.iload_n 3, 1) := by decide +kernel
theorem dX8_matched_67 : decode cX8_matched 67 = .ok (.if_icmp .gt 115, 3) := by decide +kernel
theorem dX8_matched_70 : decode cX8_matched 70 = .ok (.iconst (-1), 1) := by decide +kernel
theorem dX8_matched_71 : decode cX8_matched 71 = .ok (.istore 6, 2) := by decide +kernel
theorem dX8_matched_73 : decode cX8_matched 73 = .ok (.iconst 0, 1) := by decide +kernel
theorem dX8_matched_74 : decode cX8_matched 74 = .ok (.istore 8, 2) := by decide +kernel
theorem dX8_matched_76 : decode cX8_matched 76 = .ok (.iload 5, 2) := by decide +kernel
theorem dX8_matched_78 : decode cX8_matched 78 = .ok (.istore 9, 2) := by decide +kernel
theorem dX8_matched_80 : decode cX8_matched 80 = .ok (.iload 9, 2) := by decide +kernel
theorem dX8_matched_82 : decode cX8_matched 82 = .ok (.iload 4, 2) := by decide +kernel
theorem dX8_matched_84 : decode cX8_matched 84 = .ok (.if_icmp .ge 75, 3) := by decide +kernel
theorem dX8_matched_87 : decode cX8_matched 87 = .ok (.iload 6, 2) := by decide +kernel
theorem dX8_matched_89 : decode cX8_matched 89 = .ok (.iconst (-1), 1) := by decide +kernel
theorem dX8_matched_90 : decode cX8_matched 90 = .ok (.if_icmp .ne 69, 3) := by decide +kernel
theorem dX8_matched_93 : decode cX8_matched 93 = .ok (.aload_n 0, 1) := by decide +kernel
theorem dX8_matched_94 : decode cX8_matched 94 = .ok (.iload_n 1, 1) := by decide +kernel
theorem dX8_matched_95 : decode cX8_matched 95 = .ok (.iload_n 2, 1) := by decide +kernel
theorem dX8_matched_96 : decode cX8_matched 96 = .ok (.iload 7, 2) := by decide +kernel
theorem dX8_matched_98 : decode cX8_matched 98 = .ok (.iload 9, 2) := by decide +kernel
theorem dX8_matched_100 : decode cX8_matched 100 = .ok (.invokevirtual 206, 3) := by decide +kernel
theorem dX8_matched_103 : decode cX8_matched 103 = .ok (.ifCond .eq 36, 3) := by decide +kernel
theorem dX8_matched_106 : decode cX8_matched 106 = .ok (.iload 8, 2) := by decide +kernel
theorem dX8_matched_108 : decode cX8_matched 108 = .ok (.aload_n 0, 1) := by decide +kernel
theorem dX8_matched_109 : decode cX8_matched 109 = .ok (.iload_n 1, 1) := by decide +kernel
theorem dX8_matched_110 : decode cX8_matched 110 = .ok (.iload_n 2, 1) := by decide +kernel
theorem dX8_matched_111 : decode cX8_matched 111 = .ok (.iload 7, 2) := by decide +kernel
theorem dX8_matched_113 : decode cX8_matched 113 = .ok (.iload 9, 2) := by decide +kernel
theorem dX8_matched_115 : decode cX8_matched 115 = .ok (.invokevirtual 210, 3) := by decide +kernel
theorem dX8_matched_118 : decode cX8_matched 118 = .ok (.iadd, 1) := by decide +kernel
theorem dX8_matched_119 : decode cX8_matched 119 = .ok (.aload_n 0, 1) := by decide +kernel
theorem dX8_matched_120 : decode cX8_matched 120 = .ok (.getfield 77, 3) := by decide +kernel
theorem dX8_matched_123 : decode cX8_matched 123 = .ok (.bipush 21, 2) := by decide +kernel
theorem dX8_matched_125 : decode cX8_matched 125 = .ok (.iload 7, 2) := by decide +kernel
theorem dX8_matched_127 : decode cX8_matched 127 = .ok (.imul, 1) := by decide +kernel
theorem dX8_matched_128 : decode cX8_matched 128 = .ok (.iload 5, 2) := by decide +kernel
theorem dX8_matched_130 : decode cX8_matched 130 = .ok (.iadd, 1) := by decide +kernel
theorem dX8_matched_131 : decode cX8_matched 131 = .ok (.iaload, 1) := by decide +kernel
theorem dX8_matched_132 : decode cX8_matched 132 = .ok (.if_icmp .ne 7, 3) := by decide +kernel
theorem dX8_matched_135 : decode cX8_matched 135 = .ok (.iload 9, 2) := by decide +kernel
theorem dX8_matched_137 : decode cX8_matched 137 = .ok (.istore 6, 2) := by decide +kernel
theorem dX8_matched_139 : decode cX8_matched 139 = .ok (.iload 8, 2) := by decide +kernel
theorem dX8_matched_141 : decode cX8_matched 141 = .ok (.aload_n 0, 1) := by decide +kernel
theorem dX8_matched_142 : decode cX8_matched 142 = .ok (.iconst 2, 1) := by decide +kernel
theorem dX8_matched_143 : decode cX8_matched 143 = .ok (.iload_n 2, 1) := by decide +kernel
theorem dX8_matched_144 : decode cX8_matched 144 = .ok (.imul, 1) := by decide +kernel
theorem dX8_matched_145 : decode cX8_matched 145 = .ok (.iload 9, 2) := by decide +kernel
theorem dX8_matched_147 : decode cX8_matched 147 = .ok (.invokevirtual 202, 3) := by decide +kernel
theorem dX8_matched_150 : decode cX8_matched 150 = .ok (.iadd, 1) := by decide +kernel
theorem dX8_matched_151 : decode cX8_matched 151 = .ok (.istore 8, 2) := by decide +kernel
theorem dX8_matched_153 : decode cX8_matched 153 = .ok (.iinc 9 1, 3) := by decide +kernel
theorem dX8_matched_156 : decode cX8_matched 156 = .ok (.goto (-76), 3) := by decide +kernel
theorem dX8_matched_159 : decode cX8_matched 159 = .ok (.iload 6, 2) := by decide +kernel
theorem dX8_matched_161 : decode cX8_matched 161 = .ok (.iconst (-1), 1) := by decide +kernel
theorem dX8_matched_162 : decode cX8_matched 162 = .ok (.if_icmp .ne 8, 3) := by decide +kernel
theorem dX8_matched_165 : decode cX8_matched 165 = .ok (.iload 5, 2) := by decide +kernel
theorem dX8_matched_167 : decode cX8_matched 167 = .ok (.goto 7, 3) := by decide +kernel
theorem dX8_matched_170 : decode cX8_matched 170 = .ok (.iload 6, 2) := by decide +kernel
theorem dX8_matched_172 : decode cX8_matched 172 = .ok (.iconst 1, 1) := by decide +kernel
theorem dX8_matched_173 : decode cX8_matched 173 = .ok (.iadd, 1) := by decide +kernel
theorem dX8_matched_174 : decode cX8_matched 174 = .ok (.istore 5, 2) := by decide +kernel
theorem dX8_matched_176 : decode cX8_matched 176 = .ok (.iinc 7 1, 3) := by decide +kernel
theorem dX8_matched_179 : decode cX8_matched 179 = .ok (.goto (-115), 3) := by decide +kernel
theorem dX8_matched_182 : decode cX8_matched 182 = .ok (.iload 6, 2) := by decide +kernel
theorem dX8_matched_184 : decode cX8_matched 184 = .ok (.ireturn, 1) := by decide +kernel
set_option maxRecDepth 20000 in
theorem ggX8_count_X8_isSound : GoodIn wsX8_count wsX8_isSound := goodIn_r _ [9, 10, 11, 12, 8, 13, 14, 15, 16, 17, 18, 19, 20, 21, 22, 23, 24, 25, 26, 27, 28, 29, 30, 31, 32, 33, 34, 35, 36, 37, 38, 39, 40, 41, 42, 43, 44, 45, 46, 47, 48, 49, 50, 51, 52, 53, 54, 55, 56, 57, 58, 59, 60, 61, 62, 63, 64, 65, 66, 67] (by decide +kernel) (by decide +kernel)
set_option maxRecDepth 20000 in
theorem gX8_count_X8_isSound : GoodIn wsX8_count (wsV RX8 183 RX8 yX8_isSound wsX8_isSound) := goodIn_app (goodIn_of _ (by decide +kernel)) ggX8_count_X8_isSound
theorem dX8_count_0 : decode cX8_count 0 = .ok (.iload_n 1, 1) := by decide +kernel
theorem dX8_count_1 : decode cX8_count 1 = .ok (.tableswitch 91 0 4 #[35, 40, 45, 50, 55], 35) := by decide +kernel
theorem dX8_count_36 : decode cX8_count 36 = .ok (.aload_n 0, 1) := by decide +kernel
theorem dX8_count_37 : decode cX8_count 37 = .ok (.getfield 80, 3) := by decide +kernel
theorem dX8_count_40 : decode cX8_count 40 = .ok (.ireturn, 1) := by decide +kernel
theorem dX8_count_41 : decode cX8_count 41 = .ok (.aload_n 0, 1) := by decide +kernel
theorem dX8_count_42 : decode cX8_count 42 = .ok (.getfield 88, 3) := by decide +kernel
theorem dX8_count_45 : decode cX8_count 45 = .ok (.ireturn, 1) := by decide +kernel
theorem dX8_count_46 : decode cX8_count 46 = .ok (.aload_n 0, 1) := by decide +kernel
theorem dX8_count_47 : decode cX8_count 47 = .ok (.getfield 133, 3) := by decide +kernel
theorem dX8_count_50 : decode cX8_count 50 = .ok (.ireturn, 1) := by decide +kernel
theorem dX8_count_51 : decode cX8_count 51 = .ok (.aload_n 0, 1) := by decide +kernel
theorem dX8_count_52 : decode cX8_count 52 = .ok (.getfield 142, 3) := by decide +kernel
theorem dX8_count_55 : decode cX8_count 55 = .ok (.ireturn, 1) := by decide +kernel
theorem dX8_count_56 : decode cX8_count 56 = .ok (.iconst 0, 1) := by decide +kernel
theorem dX8_count_57 : decode cX8_count 57 = .ok (.istore_n 2, 1) := by decide +kernel
theorem dX8_count_58 : decode cX8_count 58 = .ok (.iconst 0, 1) := by decide +kernel
theorem dX8_count_59 : decode cX8_count 59 = .ok (.istore_n 3, 1) := by decide +kernel
theorem dX8_count_60 : decode cX8_count 60 = .ok (.iload_n 3, 1) := by decide +kernel
theorem dX8_count_61 : decode cX8_count 61 = .ok (.aload_n 0, 1) := by decide +kernel
theorem dX8_count_62 : decode cX8_count 62 = .ok (.getfield 133, 3) := by decide +kernel
theorem dX8_count_65 : decode cX8_count 65 = .ok (.if_icmp .ge 25, 3) := by decide +kernel
theorem dX8_count_68 : decode cX8_count 68 = .ok (.iload_n 2, 1) := by decide +kernel
theorem dX8_count_69 : decode cX8_count 69 = .ok (.aload_n 0, 1) := by decide +kernel
theorem dX8_count_70 : decode cX8_count 70 = .ok (.iload_n 3, 1) := by decide +kernel
theorem dX8_count_71 : decode cX8_count 71 = .ok (.invokevirtual 183, 3) := by decide +kernel
theorem dX8_count_74 : decode cX8_count 74 = .ok (.ifCond .eq 7, 3) := by decide +kernel
theorem dX8_count_77 : decode cX8_count 77 = .ok (.iconst 1, 1) := by decide +kernel
theorem dX8_count_78 : decode cX8_count 78 = .ok (.goto 4, 3) := by decide +kernel
theorem dX8_count_81 : decode cX8_count 81 = .ok (.iconst 0, 1) := by decide +kernel
theorem dX8_count_82 : decode cX8_count 82 = .ok (.iadd, 1) := by decide +kernel
theorem dX8_count_83 : decode cX8_count 83 = .ok (.istore_n 2, 1) := by decide +kernel
theorem dX8_count_84 : decode cX8_count 84 = .ok (.iinc 3 1, 3) := by decide +kernel
theorem dX8_count_87 : decode cX8_count 87 = .ok (.goto (-27), 3) := by decide +kernel
theorem dX8_count_90 : decode cX8_count 90 = .ok (.iload_n 2, 1) := by decide +kernel
theorem dX8_count_91 : decode cX8_count 91 = .ok (.ireturn, 1) := by decide +kernel
theorem dX8_count_92 : decode cX8_count 92 = .ok (.bipush (-102), 2) := by decide +kernel
theorem dX8_count_94 : decode cX8_count 94 = .ok (.ireturn, 1) := by decide +kernel
set_option maxRecDepth 20000 in
theorem ggX8_digest_X8_aboutOf : GoodIn wsX8_digest wsX8_aboutOf := goodIn_r _ [25, 26, 27, 28, 29, 30, 31, 32, 33, 34, 35, 36, 37, 38, 39, 40, 41, 42, 43, 44, 45, 46, 47, 48, 49, 50, 51, 52, 53, 54, 55, 56, 57] (by decide +kernel) (by decide +kernel)
set_option maxRecDepth 20000 in
theorem gX8_digest_X8_aboutOf : GoodIn wsX8_digest (wsV RX8 190 RX8 yX8_aboutOf wsX8_aboutOf) := goodIn_app (goodIn_of _ (by decide +kernel)) ggX8_digest_X8_aboutOf
theorem dX8_digest_0 : decode cX8_digest 0 = .ok (.ldc2_w 216, 3) := by decide +kernel
theorem dX8_digest_3 : decode cX8_digest 3 = .ok (.lstore_n 1, 1) := by decide +kernel
theorem dX8_digest_4 : decode cX8_digest 4 = .ok (.iconst 0, 1) := by decide +kernel
theorem dX8_digest_5 : decode cX8_digest 5 = .ok (.istore_n 3, 1) := by decide +kernel
theorem dX8_digest_6 : decode cX8_digest 6 = .ok (.iload_n 3, 1) := by decide +kernel
theorem dX8_digest_7 : decode cX8_digest 7 = .ok (.aload_n 0, 1) := by decide +kernel
theorem dX8_digest_8 : decode cX8_digest 8 = .ok (.getfield 80, 3) := by decide +kernel
theorem dX8_digest_11 : decode cX8_digest 11 = .ok (.if_icmp .ge 193, 3) := by decide +kernel
theorem dX8_digest_14 : decode cX8_digest 14 = .ok (.iconst 0, 1) := by decide +kernel
theorem dX8_digest_15 : decode cX8_digest 15 = .ok (.istore 4, 2) := by decide +kernel
theorem dX8_digest_17 : decode cX8_digest 17 = .ok (.iload 4, 2) := by decide +kernel
theorem dX8_digest_19 : decode cX8_digest 19 = .ok (.aload_n 0, 1) := by decide +kernel
theorem dX8_digest_20 : decode cX8_digest 20 = .ok (.getfield 7, 3) := by decide +kernel
theorem dX8_digest_23 : decode cX8_digest 23 = .ok (.iload_n 3, 1) := by decide +kernel
theorem dX8_digest_24 : decode cX8_digest 24 = .ok (.iaload, 1) := by decide +kernel
theorem dX8_digest_25 : decode cX8_digest 25 = .ok (.if_icmp .ge 49, 3) := by decide +kernel
theorem dX8_digest_28 : decode cX8_digest 28 = .ok (.ldc2_w 218, 3) := by decide +kernel
theorem dX8_digest_31 : decode cX8_digest 31 = .ok (.lload_n 1, 1) := by decide +kernel
theorem dX8_digest_32 : decode cX8_digest 32 = .ok (.lmul, 1) := by decide +kernel
theorem dX8_digest_33 : decode cX8_digest 33 = .ok (.aload_n 0, 1) := by decide +kernel
theorem dX8_digest_34 : decode cX8_digest 34 = .ok (.getfield 13, 3) := by decide +kernel
theorem dX8_digest_37 : decode cX8_digest 37 = .ok (.bipush 20, 2) := by decide +kernel
theorem dX8_digest_39 : decode cX8_digest 39 = .ok (.iload_n 3, 1) := by decide +kernel
theorem dX8_digest_40 : decode cX8_digest 40 = .ok (.imul, 1) := by decide +kernel
theorem dX8_digest_41 : decode cX8_digest 41 = .ok (.iload 4, 2) := by decide +kernel
theorem dX8_digest_43 : decode cX8_digest 43 = .ok (.iadd, 1) := by decide +kernel
theorem dX8_digest_44 : decode cX8_digest 44 = .ok (.iaload, 1) := by decide +kernel
theorem dX8_digest_45 : decode cX8_digest 45 = .ok (.i2l, 1) := by decide +kernel
theorem dX8_digest_46 : decode cX8_digest 46 = .ok (.ladd, 1) := by decide +kernel
theorem dX8_digest_47 : decode cX8_digest 47 = .ok (.lstore_n 1, 1) := by decide +kernel
theorem dX8_digest_48 : decode cX8_digest 48 = .ok (.ldc2_w 218, 3) := by decide +kernel
theorem dX8_digest_51 : decode cX8_digest 51 = .ok (.lload_n 1, 1) := by decide +kernel
theorem dX8_digest_52 : decode cX8_digest 52 = .ok (.lmul, 1) := by decide +kernel
theorem dX8_digest_53 : decode cX8_digest 53 = .ok (.aload_n 0, 1) := by decide +kernel
theorem dX8_digest_54 : decode cX8_digest 54 = .ok (.getfield 16, 3) := by decide +kernel
theorem dX8_digest_57 : decode cX8_digest 57 = .ok (.bipush 20, 2) := by decide +kernel
theorem dX8_digest_59 : decode cX8_digest 59 = .ok (.iload_n 3, 1) := by decide +kernel
theorem dX8_digest_60 : decode cX8_digest 60 = .ok (.imul, 1) := by decide +kernel
theorem dX8_digest_61 : decode cX8_digest 61 = .ok (.iload 4, 2) := by decide +kernel
theorem dX8_digest_63 : decode cX8_digest 63 = .ok (.iadd, 1) := by decide +kernel
theorem dX8_digest_64 : decode cX8_digest 64 = .ok (.iaload, 1) := by decide +kernel
theorem dX8_digest_65 : decode cX8_digest 65 = .ok (.i2l, 1) := by decide +kernel
theorem dX8_digest_66 : decode cX8_digest 66 = .ok (.ladd, 1) := by decide +kernel
theorem dX8_digest_67 : decode cX8_digest 67 = .ok (.lstore_n 1, 1) := by decide +kernel
theorem dX8_digest_68 : decode cX8_digest 68 = .ok (.iinc 4 1, 3) := by decide +kernel
theorem dX8_digest_71 : decode cX8_digest 71 = .ok (.goto (-54), 3) := by decide +kernel
theorem dX8_digest_74 : decode cX8_digest 74 = .ok (.iconst 0, 1) := by decide +kernel
theorem dX8_digest_75 : decode cX8_digest 75 = .ok (.istore 4, 2) := by decide +kernel
theorem dX8_digest_77 : decode cX8_digest 77 = .ok (.iload 4, 2) := by decide +kernel
theorem dX8_digest_79 : decode cX8_digest 79 = .ok (.aload_n 0, 1) := by decide +kernel
theorem dX8_digest_80 : decode cX8_digest 80 = .ok (.getfield 19, 3) := by decide +kernel
theorem dX8_digest_83 : decode cX8_digest 83 = .ok (.iload_n 3, 1) := by decide +kernel
theorem dX8_digest_84 : decode cX8_digest 84 = .ok (.iaload, 1) := by decide +kernel
theorem dX8_digest_85 : decode cX8_digest 85 = .ok (.if_icmp .ge 29, 3) := by decide +kernel
theorem dX8_digest_88 : decode cX8_digest 88 = .ok (.ldc2_w 218, 3) := by decide +kernel
theorem dX8_digest_91 : decode cX8_digest 91 = .ok (.lload_n 1, 1) := by decide +kernel
theorem dX8_digest_92 : decode cX8_digest 92 = .ok (.lmul, 1) := by decide +kernel
theorem dX8_digest_93 : decode cX8_digest 93 = .ok (.aload_n 0, 1) := by decide +kernel
theorem dX8_digest_94 : decode cX8_digest 94 = .ok (.getfield 22, 3) := by decide +kernel
theorem dX8_digest_97 : decode cX8_digest 97 = .ok (.bipush 20, 2) := by decide +kernel
theorem dX8_digest_99 : decode cX8_digest 99 = .ok (.iload_n 3, 1) := by decide +kernel
theorem dX8_digest_100 : decode cX8_digest 100 = .ok (.imul, 1) := by decide +kernel
theorem dX8_digest_101 : decode cX8_digest 101 = .ok (.iload 4, 2) := by decide +kernel
theorem dX8_digest_103 : decode cX8_digest 103 = .ok (.iadd, 1) := by decide +kernel
theorem dX8_digest_104 : decode cX8_digest 104 = .ok (.iaload, 1) := by decide +kernel
theorem dX8_digest_105 : decode cX8_digest 105 = .ok (.i2l, 1) := by decide +kernel
theorem dX8_digest_106 : decode cX8_digest 106 = .ok (.ladd, 1) := by decide +kernel
theorem dX8_digest_107 : decode cX8_digest 107 = .ok (.lstore_n 1, 1) := by decide +kernel
theorem dX8_digest_108 : decode cX8_digest 108 = .ok (.iinc 4 1, 3) := by decide +kernel
theorem dX8_digest_111 : decode cX8_digest 111 = .ok (.goto (-34), 3) := by decide +kernel
theorem dX8_digest_114 : decode cX8_digest 114 = .ok (.iconst 2, 1) := by decide +kernel
theorem dX8_digest_115 : decode cX8_digest 115 = .ok (.iload_n 3, 1) := by decide +kernel
theorem dX8_digest_116 : decode cX8_digest 116 = .ok (.imul, 1) := by decide +kernel
theorem dX8_digest_117 : decode cX8_digest 117 = .ok (.istore 4, 2) := by decide +kernel
theorem dX8_digest_119 : decode cX8_digest 119 = .ok (.iload 4, 2) := by decide +kernel
theorem dX8_digest_121 : decode cX8_digest 121 = .ok (.iconst 2, 1) := by decide +kernel
theorem dX8_digest_122 : decode cX8_digest 122 = .ok (.iload_n 3, 1) := by decide +kernel
theorem dX8_digest_123 : decode cX8_digest 123 = .ok (.imul, 1) := by decide +kernel
theorem dX8_digest_124 : decode cX8_digest 124 = .ok (.iconst 2, 1) := by decide +kernel
theorem dX8_digest_125 : decode cX8_digest 125 = .ok (.iadd, 1) := by decide +kernel
theorem dX8_digest_126 : decode cX8_digest 126 = .ok (.if_icmp .ge 72, 3) := by decide +kernel
theorem dX8_digest_129 : decode cX8_digest 129 = .ok (.iconst 0, 1) := by decide +kernel
theorem dX8_digest_130 : decode cX8_digest 130 = .ok (.istore 5, 2) := by decide +kernel
theorem dX8_digest_132 : decode cX8_digest 132 = .ok (.iload 5, 2) := by decide +kernel
theorem dX8_digest_134 : decode cX8_digest 134 = .ok (.aload_n 0, 1) := by decide +kernel
theorem dX8_digest_135 : decode cX8_digest 135 = .ok (.getfield 32, 3) := by decide +kernel
theorem dX8_digest_138 : decode cX8_digest 138 = .ok (.iload 4, 2) := by decide +kernel
theorem dX8_digest_140 : decode cX8_digest 140 = .ok (.iaload, 1) := by decide +kernel
theorem dX8_digest_141 : decode cX8_digest 141 = .ok (.if_icmp .ge 51, 3) := by decide +kernel
theorem dX8_digest_144 : decode cX8_digest 144 = .ok (.ldc2_w 218, 3) := by decide +kernel
theorem dX8_digest_147 : decode cX8_digest 147 = .ok (.lload_n 1, 1) := by decide +kernel
theorem dX8_digest_148 : decode cX8_digest 148 = .ok (.lmul, 1) := by decide +kernel
theorem dX8_digest_149 : decode cX8_digest 149 = .ok (.aload_n 0, 1) := by decide +kernel
theorem dX8_digest_150 : decode cX8_digest 150 = .ok (.getfield 35, 3) := by decide +kernel
theorem dX8_digest_153 : decode cX8_digest 153 = .ok (.bipush 20, 2) := by decide +kernel
theorem dX8_digest_155 : decode cX8_digest 155 = .ok (.iload 4, 2) := by decide +kernel
theorem dX8_digest_157 : decode cX8_digest 157 = .ok (.imul, 1) := by decide +kernel
theorem dX8_digest_158 : decode cX8_digest 158 = .ok (.iload 5, 2) := by decide +kernel
theorem dX8_digest_160 : decode cX8_digest 160 = .ok (.iadd, 1) := by decide +kernel
theorem dX8_digest_161 : decode cX8_digest 161 = .ok (.iaload, 1) := by decide +kernel
theorem dX8_digest_162 : decode cX8_digest 162 = .ok (.i2l, 1) := by decide +kernel
theorem dX8_digest_163 : decode cX8_digest 163 = .ok (.ladd, 1) := by decide +kernel
theorem dX8_digest_164 : decode cX8_digest 164 = .ok (.lstore_n 1, 1) := by decide +kernel
theorem dX8_digest_165 : decode cX8_digest 165 = .ok (.ldc2_w 218, 3) := by decide +kernel
theorem dX8_digest_168 : decode cX8_digest 168 = .ok (.lload_n 1, 1) := by decide +kernel
theorem dX8_digest_169 : decode cX8_digest 169 = .ok (.lmul, 1) := by decide +kernel
theorem dX8_digest_170 : decode cX8_digest 170 = .ok (.aload_n 0, 1) := by decide +kernel
theorem dX8_digest_171 : decode cX8_digest 171 = .ok (.getfield 38, 3) := by decide +kernel
theorem dX8_digest_174 : decode cX8_digest 174 = .ok (.bipush 20, 2) := by decide +kernel
theorem dX8_digest_176 : decode cX8_digest 176 = .ok (.iload 4, 2) := by decide +kernel
theorem dX8_digest_178 : decode cX8_digest 178 = .ok (.imul, 1) := by decide +kernel
theorem dX8_digest_179 : decode cX8_digest 179 = .ok (.iload 5, 2) := by decide +kernel
theorem dX8_digest_181 : decode cX8_digest 181 = .ok (.iadd, 1) := by decide +kernel
theorem dX8_digest_182 : decode cX8_digest 182 = .ok (.iaload, 1) := by decide +kernel
theorem dX8_digest_183 : decode cX8_digest 183 = .ok (.i2l, 1) := by decide +kernel
theorem dX8_digest_184 : decode cX8_digest 184 = .ok (.ladd, 1) := by decide +kernel
theorem dX8_digest_185 : decode cX8_digest 185 = .ok (.lstore_n 1, 1) := by decide +kernel
theorem dX8_digest_186 : decode cX8_digest 186 = .ok (.iinc 5 1, 3) := by decide +kernel
theorem dX8_digest_189 : decode cX8_digest 189 = .ok (.goto (-57), 3) := by decide +kernel
theorem dX8_digest_192 : decode cX8_digest 192 = .ok (.iinc 4 1, 3) := by decide +kernel
theorem dX8_digest_195 : decode cX8_digest 195 = .ok (.goto (-76), 3) := by decide +kernel
theorem dX8_digest_198 : decode cX8_digest 198 = .ok (.iinc 3 1, 3) := by decide +kernel
theorem dX8_digest_201 : decode cX8_digest 201 = .ok (.goto (-195), 3) := by decide +kernel
theorem dX8_digest_204 : decode cX8_digest 204 = .ok (.iconst 0, 1) := by decide +kernel
theorem dX8_digest_205 : decode cX8_digest 205 = .ok (.istore_n 3, 1) := by decide +kernel
theorem dX8_digest_206 : decode cX8_digest 206 = .ok (.iload_n 3, 1) := by decide +kernel
theorem dX8_digest_207 : decode cX8_digest 207 = .ok (.bipush 10, 2) := by decide +kernel
theorem dX8_digest_209 : decode cX8_digest 209 = .ok (.if_icmp .ge 23, 3) := by decide +kernel
theorem dX8_digest_212 : decode cX8_digest 212 = .ok (.ldc2_w 218, 3) := by decide +kernel
theorem dX8_digest_215 : decode cX8_digest 215 = .ok (.lload_n 1, 1) := by decide +kernel
theorem dX8_digest_216 : decode cX8_digest 216 = .ok (.lmul, 1) := by decide +kernel
theorem dX8_digest_217 : decode cX8_digest 217 = .ok (.aload_n 0, 1) := by decide +kernel
theorem dX8_digest_218 : decode cX8_digest 218 = .ok (.getfield 41, 3) := by decide +kernel
theorem dX8_digest_221 : decode cX8_digest 221 = .ok (.iload_n 3, 1) := by decide +kernel
theorem dX8_digest_222 : decode cX8_digest 222 = .ok (.iaload, 1) := by decide +kernel
theorem dX8_digest_223 : decode cX8_digest 223 = .ok (.i2l, 1) := by decide +kernel
theorem dX8_digest_224 : decode cX8_digest 224 = .ok (.ladd, 1) := by decide +kernel
theorem dX8_digest_225 : decode cX8_digest 225 = .ok (.lstore_n 1, 1) := by decide +kernel
theorem dX8_digest_226 : decode cX8_digest 226 = .ok (.iinc 3 1, 3) := by decide +kernel
theorem dX8_digest_229 : decode cX8_digest 229 = .ok (.goto (-23), 3) := by decide +kernel
theorem dX8_digest_232 : decode cX8_digest 232 = .ok (.iconst 0, 1) := by decide +kernel
theorem dX8_digest_233 : decode cX8_digest 233 = .ok (.istore_n 3, 1) := by decide +kernel
theorem dX8_digest_234 : decode cX8_digest 234 = .ok (.iload_n 3, 1) := by decide +kernel
theorem dX8_digest_235 : decode cX8_digest 235 = .ok (.aload_n 0, 1) := by decide +kernel
theorem dX8_digest_236 : decode cX8_digest 236 = .ok (.getfield 88, 3) := by decide +kernel
theorem dX8_digest_239 : decode cX8_digest 239 = .ok (.if_icmp .ge 65, 3) := by decide +kernel
theorem dX8_digest_242 : decode cX8_digest 242 = .ok (.ldc2_w 218, 3) := by decide +kernel
theorem dX8_digest_245 : decode cX8_digest 245 = .ok (.lload_n 1, 1) := by decide +kernel
theorem dX8_digest_246 : decode cX8_digest 246 = .ok (.lmul, 1) := by decide +kernel
theorem dX8_digest_247 : decode cX8_digest 247 = .ok (.aload_n 0, 1) := by decide +kernel
theorem dX8_digest_248 : decode cX8_digest 248 = .ok (.getfield 44, 3) := by decide +kernel
theorem dX8_digest_251 : decode cX8_digest 251 = .ok (.iload_n 3, 1) := by decide +kernel
theorem dX8_digest_252 : decode cX8_digest 252 = .ok (.iaload, 1) := by decide +kernel
theorem dX8_digest_253 : decode cX8_digest 253 = .ok (.i2l, 1) := by decide +kernel
theorem dX8_digest_254 : decode cX8_digest 254 = .ok (.ladd, 1) := by decide +kernel
theorem dX8_digest_255 : decode cX8_digest 255 = .ok (.lstore_n 1, 1) := by decide +kernel
theorem dX8_digest_256 : decode cX8_digest 256 = .ok (.ldc2_w 218, 3) := by decide +kernel
theorem dX8_digest_259 : decode cX8_digest 259 = .ok (.lload_n 1, 1) := by decide +kernel
theorem dX8_digest_260 : decode cX8_digest 260 = .ok (.lmul, 1) := by decide +kernel
theorem dX8_digest_261 : decode cX8_digest 261 = .ok (.aload_n 0, 1) := by decide +kernel
theorem dX8_digest_262 : decode cX8_digest 262 = .ok (.getfield 47, 3) := by decide +kernel
theorem dX8_digest_265 : decode cX8_digest 265 = .ok (.iload_n 3, 1) := by decide +kernel
theorem dX8_digest_266 : decode cX8_digest 266 = .ok (.iaload, 1) := by decide +kernel
theorem dX8_digest_267 : decode cX8_digest 267 = .ok (.i2l, 1) := by decide +kernel
theorem dX8_digest_268 : decode cX8_digest 268 = .ok (.ladd, 1) := by decide +kernel
theorem dX8_digest_269 : decode cX8_digest 269 = .ok (.lstore_n 1, 1) := by decide +kernel
theorem dX8_digest_270 : decode cX8_digest 270 = .ok (.ldc2_w 218, 3) := by decide +kernel
theorem dX8_digest_273 : decode cX8_digest 273 = .ok (.lload_n 1, 1) := by decide +kernel
theorem dX8_digest_274 : decode cX8_digest 274 = .ok (.lmul, 1) := by decide +kernel
theorem dX8_digest_275 : decode cX8_digest 275 = .ok (.aload_n 0, 1) := by decide +kernel
theorem dX8_digest_276 : decode cX8_digest 276 = .ok (.getfield 50, 3) := by decide +kernel
theorem dX8_digest_279 : decode cX8_digest 279 = .ok (.iload_n 3, 1) := by decide +kernel
theorem dX8_digest_280 : decode cX8_digest 280 = .ok (.iaload, 1) := by decide +kernel
theorem dX8_digest_281 : decode cX8_digest 281 = .ok (.i2l, 1) := by decide +kernel
theorem dX8_digest_282 : decode cX8_digest 282 = .ok (.ladd, 1) := by decide +kernel
theorem dX8_digest_283 : decode cX8_digest 283 = .ok (.lstore_n 1, 1) := by decide +kernel
theorem dX8_digest_284 : decode cX8_digest 284 = .ok (.ldc2_w 218, 3) := by decide +kernel
theorem dX8_digest_287 : decode cX8_digest 287 = .ok (.lload_n 1, 1) := by decide +kernel
theorem dX8_digest_288 : decode cX8_digest 288 = .ok (.lmul, 1) := by decide +kernel
theorem dX8_digest_289 : decode cX8_digest 289 = .ok (.aload_n 0, 1) := by decide +kernel
theorem dX8_digest_290 : decode cX8_digest 290 = .ok (.getfield 53, 3) := by decide +kernel
theorem dX8_digest_293 : decode cX8_digest 293 = .ok (.iload_n 3, 1) := by decide +kernel
theorem dX8_digest_294 : decode cX8_digest 294 = .ok (.iaload, 1) := by decide +kernel
theorem dX8_digest_295 : decode cX8_digest 295 = .ok (.i2l, 1) := by decide +kernel
theorem dX8_digest_296 : decode cX8_digest 296 = .ok (.ladd, 1) := by decide +kernel
theorem dX8_digest_297 : decode cX8_digest 297 = .ok (.lstore_n 1, 1) := by decide +kernel
theorem dX8_digest_298 : decode cX8_digest 298 = .ok (.iinc 3 1, 3) := by decide +kernel
theorem dX8_digest_301 : decode cX8_digest 301 = .ok (.goto (-67), 3) := by decide +kernel
theorem dX8_digest_304 : decode cX8_digest 304 = .ok (.iconst 0, 1) := by decide +kernel
theorem dX8_digest_305 : decode cX8_digest 305 = .ok (.istore_n 3, 1) := by decide +kernel
theorem dX8_digest_306 : decode cX8_digest 306 = .ok (.iload_n 3, 1) := by decide +kernel
theorem dX8_digest_307 : decode cX8_digest 307 = .ok (.aload_n 0, 1) := by decide +kernel
theorem dX8_digest_308 : decode cX8_digest 308 = .ok (.getfield 133, 3) := by decide +kernel
theorem dX8_digest_311 : decode cX8_digest 311 = .ok (.if_icmp .ge 65, 3) := by decide +kernel
theorem dX8_digest_314 : decode cX8_digest 314 = .ok (.iconst 0, 1) := by decide +kernel
theorem dX8_digest_315 : decode cX8_digest 315 = .ok (.istore 4, 2) := by decide +kernel
theorem dX8_digest_317 : decode cX8_digest 317 = .ok (.iload 4, 2) := by decide +kernel
theorem dX8_digest_319 : decode cX8_digest 319 = .ok (.aload_n 0, 1) := by decide +kernel
theorem dX8_digest_320 : decode cX8_digest 320 = .ok (.getfield 56, 3) := by decide +kernel
theorem dX8_digest_323 : decode cX8_digest 323 = .ok (.iload_n 3, 1) := by decide +kernel
theorem dX8_digest_324 : decode cX8_digest 324 = .ok (.iaload, 1) := by decide +kernel
theorem dX8_digest_325 : decode cX8_digest 325 = .ok (.if_icmp .ge 45, 3) := by decide +kernel
theorem dX8_digest_328 : decode cX8_digest 328 = .ok (.iconst 0, 1) := by decide +kernel
theorem dX8_digest_329 : decode cX8_digest 329 = .ok (.istore 5, 2) := by decide +kernel
theorem dX8_digest_331 : decode cX8_digest 331 = .ok (.iload 5, 2) := by decide +kernel
theorem dX8_digest_333 : decode cX8_digest 333 = .ok (.iconst 5, 1) := by decide +kernel
theorem dX8_digest_334 : decode cX8_digest 334 = .ok (.if_icmp .ge 30, 3) := by decide +kernel
theorem dX8_digest_337 : decode cX8_digest 337 = .ok (.ldc2_w 218, 3) := by decide +kernel
theorem dX8_digest_340 : decode cX8_digest 340 = .ok (.lload_n 1, 1) := by decide +kernel
theorem dX8_digest_341 : decode cX8_digest 341 = .ok (.lmul, 1) := by decide +kernel
theorem dX8_digest_342 : decode cX8_digest 342 = .ok (.aload_n 0, 1) := by decide +kernel
theorem dX8_digest_343 : decode cX8_digest 343 = .ok (.bipush 16, 2) := by decide +kernel
theorem dX8_digest_345 : decode cX8_digest 345 = .ok (.iload_n 3, 1) := by decide +kernel
theorem dX8_digest_346 : decode cX8_digest 346 = .ok (.imul, 1) := by decide +kernel
theorem dX8_digest_347 : decode cX8_digest 347 = .ok (.iload 4, 2) := by decide +kernel
theorem dX8_digest_349 : decode cX8_digest 349 = .ok (.iadd, 1) := by decide +kernel
theorem dX8_digest_350 : decode cX8_digest 350 = .ok (.iload 5, 2) := by decide +kernel
theorem dX8_digest_352 : decode cX8_digest 352 = .ok (.invokevirtual 190, 3) := by decide +kernel
theorem dX8_digest_355 : decode cX8_digest 355 = .ok (.i2l, 1) := by decide +kernel
theorem dX8_digest_356 : decode cX8_digest 356 = .ok (.ladd, 1) := by decide +kernel
theorem dX8_digest_357 : decode cX8_digest 357 = .ok (.lstore_n 1, 1) := by decide +kernel
theorem dX8_digest_358 : decode cX8_digest 358 = .ok (.iinc 5 1, 3) := by decide +kernel
theorem dX8_digest_361 : decode cX8_digest 361 = .ok (.goto (-30), 3) := by decide +kernel
theorem dX8_digest_364 : decode cX8_digest 364 = .ok (.iinc 4 1, 3) := by decide +kernel
theorem dX8_digest_367 : decode cX8_digest 367 = .ok (.goto (-50), 3) := by decide +kernel
theorem dX8_digest_370 : decode cX8_digest 370 = .ok (.iinc 3 1, 3) := by decide +kernel
theorem dX8_digest_373 : decode cX8_digest 373 = .ok (.goto (-67), 3) := by decide +kernel
theorem dX8_digest_376 : decode cX8_digest 376 = .ok (.ldc2_w 218, 3) := by decide +kernel
theorem dX8_digest_379 : decode cX8_digest 379 = .ok (.lload_n 1, 1) := by decide +kernel
theorem dX8_digest_380 : decode cX8_digest 380 = .ok (.lmul, 1) := by decide +kernel
theorem dX8_digest_381 : decode cX8_digest 381 = .ok (.aload_n 0, 1) := by decide +kernel
theorem dX8_digest_382 : decode cX8_digest 382 = .ok (.getfield 74, 3) := by decide +kernel
theorem dX8_digest_385 : decode cX8_digest 385 = .ok (.iconst 0, 1) := by decide +kernel
theorem dX8_digest_386 : decode cX8_digest 386 = .ok (.iaload, 1) := by decide +kernel
theorem dX8_digest_387 : decode cX8_digest 387 = .ok (.i2l, 1) := by decide +kernel
theorem dX8_digest_388 : decode cX8_digest 388 = .ok (.ladd, 1) := by decide +kernel
theorem dX8_digest_389 : decode cX8_digest 389 = .ok (.lstore_n 1, 1) := by decide +kernel
theorem dX8_digest_390 : decode cX8_digest 390 = .ok (.ldc2_w 218, 3) := by decide +kernel
theorem dX8_digest_393 : decode cX8_digest 393 = .ok (.lload_n 1, 1) := by decide +kernel
theorem dX8_digest_394 : decode cX8_digest 394 = .ok (.lmul, 1) := by decide +kernel
theorem dX8_digest_395 : decode cX8_digest 395 = .ok (.aload_n 0, 1) := by decide +kernel
theorem dX8_digest_396 : decode cX8_digest 396 = .ok (.getfield 74, 3) := by decide +kernel
theorem dX8_digest_399 : decode cX8_digest 399 = .ok (.iconst 1, 1) := by decide +kernel
theorem dX8_digest_400 : decode cX8_digest 400 = .ok (.iaload, 1) := by decide +kernel
theorem dX8_digest_401 : decode cX8_digest 401 = .ok (.i2l, 1) := by decide +kernel
theorem dX8_digest_402 : decode cX8_digest 402 = .ok (.ladd, 1) := by decide +kernel
theorem dX8_digest_403 : decode cX8_digest 403 = .ok (.lreturn, 1) := by decide +kernel
theorem dJ9_abs_0f7a4_0 : decode cJ9_abs_0f7a4 0 = .ok (.iload_n 0, 1) := by decide +kernel
theorem dJ9_abs_0f7a4_1 : decode cJ9_abs_0f7a4 1 = .ok (.ifCond .ge 8, 3) := by decide +kernel
theorem dJ9_abs_0f7a4_4 : decode cJ9_abs_0f7a4 4 = .ok (.iload_n 0, 1) := by decide +kernel
theorem dJ9_abs_0f7a4_5 : decode cJ9_abs_0f7a4 5 = .ok (.ineg, 1) := by decide +kernel
theorem dJ9_abs_0f7a4_6 : decode cJ9_abs_0f7a4 6 = .ok (.goto 4, 3) := by decide +kernel
theorem dJ9_abs_0f7a4_9 : decode cJ9_abs_0f7a4 9 = .ok (.iload_n 0, 1) := by decide +kernel
theorem dJ9_abs_0f7a4_10 : decode cJ9_abs_0f7a4 10 = .ok (.ireturn, 1) := by decide +kernel
theorem dJ9_max_7cf53_0 : decode cJ9_max_7cf53 0 = .ok (.iload_n 0, 1) := by decide +kernel
theorem dJ9_max_7cf53_1 : decode cJ9_max_7cf53 1 = .ok (.iload_n 1, 1) := by decide +kernel
theorem dJ9_max_7cf53_2 : decode cJ9_max_7cf53 2 = .ok (.if_icmp .lt 7, 3) := by decide +kernel
theorem dJ9_max_7cf53_5 : decode cJ9_max_7cf53 5 = .ok (.iload_n 0, 1) := by decide +kernel
theorem dJ9_max_7cf53_6 : decode cJ9_max_7cf53 6 = .ok (.goto 4, 3) := by decide +kernel
theorem dJ9_max_7cf53_9 : decode cJ9_max_7cf53 9 = .ok (.iload_n 1, 1) := by decide +kernel
theorem dJ9_max_7cf53_10 : decode cJ9_max_7cf53 10 = .ok (.ireturn, 1) := by decide +kernel
theorem dJ9_min_7cf53_0 : decode cJ9_min_7cf53 0 = .ok (.iload_n 0, 1) := by decide +kernel
theorem dJ9_min_7cf53_1 : decode cJ9_min_7cf53 1 = .ok (.iload_n 1, 1) := by decide +kernel
theorem dJ9_min_7cf53_2 : decode cJ9_min_7cf53 2 = .ok (.if_icmp .gt 7, 3) := by decide +kernel
theorem dJ9_min_7cf53_5 : decode cJ9_min_7cf53 5 = .ok (.iload_n 0, 1) := by decide +kernel
theorem dJ9_min_7cf53_6 : decode cJ9_min_7cf53 6 = .ok (.goto 4, 3) := by decide +kernel
theorem dJ9_min_7cf53_9 : decode cJ9_min_7cf53 9 = .ok (.iload_n 1, 1) := by decide +kernel
theorem dJ9_min_7cf53_10 : decode cJ9_min_7cf53 10 = .ok (.ireturn, 1) := by decide +kernel
abbrev vwCl : List vw_C := [(RX0, TX0, 2), (RX1, TX1, 8), (RX2, TX2, 3), (RX3, TX3, 1), (RX4, TX4, 2), (RX5, TX5, 5), (RX6, TX6, 4), (RX7, TX7, 11), (RX8, TX8, 27)]
end
section
/-! numbers: every int of the walk is iI of an Int, every long lL of one -/
def iI (z : Int) : Int32 := Int32.ofInt z
def lL (z : Int) : Int64 := Int64.ofInt z
abbrev I32 (z : Int) : Prop := -2147483648 ≤ z ∧ z ≤ 2147483647
abbrev I64 (z : Int) : Prop := -9223372036854775808 ≤ z ∧ z ≤ 9223372036854775807
theorem iI_toInt {z : Int} (h : I32 z) : (iI z).toInt = z := by
  show (Int32.ofInt z).toInt = z
  have fb : z.bmod (2 ^ 32) = z := by rw [Int.bmod_eq_of_le (by omega) (by omega)]
  rw [Int32.toInt_ofInt]
  exact fb
theorem lL_toInt {z : Int} (h : I64 z) : (lL z).toInt = z := by
  show (Int64.ofInt z).toInt = z
  have fb : z.bmod (2 ^ 64) = z := by rw [Int.bmod_eq_of_le (by omega) (by omega)]
  rw [Int64.toInt_ofInt]
  exact fb
theorem iI_add (a b : Int) : iI a + iI b = iI (a + b) := (Int32.ofInt_add a b).symm
theorem iI_sub (a b : Int) : iI a - iI b = iI (a - b) := (Int32.ofInt_sub a b).symm
theorem iI_mul (a b : Int) : iI a * iI b = iI (a * b) := (Int32.ofInt_mul a b).symm
theorem iI_neg (a : Int) : -iI a = iI (-a) := (Int32.ofInt_neg a).symm
theorem lL_add (a b : Int) : lL a + lL b = lL (a + b) := (Int64.ofInt_add a b).symm
theorem lL_mul (a b : Int) : lL a * lL b = lL (a * b) := (Int64.ofInt_mul a b).symm
theorem iI_long {z : Int} (h : I32 z) : (iI z).toInt64 = lL z := by
  apply Int64.toInt_inj.mp
  rw [Int32.toInt_toInt64, iI_toInt h, lL_toInt (by omega)]
theorem iI_lt {a b : Int} (ha : I32 a) (hb : I32 b) : iI a < iI b ↔ a < b := by rw [Int32.lt_iff_toInt_lt, iI_toInt ha, iI_toInt hb]
theorem iI_le {a b : Int} (ha : I32 a) (hb : I32 b) : iI a ≤ iI b ↔ a ≤ b := by rw [Int32.le_iff_toInt_le, iI_toInt ha, iI_toInt hb]
theorem iI_eq {a b : Int} (ha : I32 a) (hb : I32 b) : iI a = iI b ↔ a = b := by rw [← Int32.toInt_inj, iI_toInt ha, iI_toInt hb]
theorem lL_lt {a b : Int} (ha : I64 a) (hb : I64 b) : lL a < lL b ↔ a < b := by rw [Int64.lt_iff_toInt_lt, lL_toInt ha, lL_toInt hb]
theorem lL_le {a b : Int} (ha : I64 a) (hb : I64 b) : lL a ≤ lL b ↔ a ≤ b := by rw [Int64.le_iff_toInt_le, lL_toInt ha, lL_toInt hb]
theorem lL_eq {a b : Int} (ha : I64 a) (hb : I64 b) : lL a = lL b ↔ a = b := by rw [← Int64.toInt_inj, lL_toInt ha, lL_toInt hb]
theorem iI_of (x : Int32) : ∃ z : Int, I32 z ∧ x = iI z := ⟨x.toInt, by
  have h1 := Int32.le_toInt x
  have h2 := Int32.toInt_lt x
  omega, (Int32.ofInt_toInt x).symm⟩
theorem iI_0 : (0 : Int32) = iI 0 := by decide
theorem iI_nat (n : Nat) : iI (n : Int) = nI n := by
  show Int32.ofInt (n : Int) = Int32.ofNat n
  first | rfl | exact Int32.ofInt_eq_ofNat | simp
theorem iI_clamp {n : Nat} (h : n < 2 ^ 31) : (iI (n : Int)).toNatClampNeg = n := by rw [iI_nat, nI_clamp h]
theorem iI_in {n N : Nat} (h : n < N) (hN : N < 2 ^ 31) : vp_in (iI (n : Int)) N := by rw [iI_nat]; exact nI_in h hN
def bI (P : Prop) [Decidable P] : Int := if P then 1 else 0
theorem bI_t {P : Prop} [Decidable P] (h : P) : bI P = 1 := if_pos h
theorem bI_f {P : Prop} [Decidable P] (h : ¬ P) : bI P = 0 := if_neg h
theorem bI_01 (P : Prop) [Decidable P] : bI P = 0 ∨ bI P = 1 := by
  unfold bI
  split
  · exact Or.inr rfl
  · exact Or.inl rfl
theorem bI_r (P : Prop) [Decidable P] : 0 ≤ bI P ∧ bI P ≤ 1 := by
  have := bI_01 P
  omega
theorem bI_c {P Q : Prop} [Decidable P] [Decidable Q] (h : P ↔ Q) : bI P = bI Q := by
  unfold bI
  by_cases hp : P
  · rw [if_pos hp, if_pos (h.mp hp)]
  · rw [if_neg hp, if_neg (fun q => hp (h.mpr q))]
theorem bI_nar {v : Int} (h : v = 0 ∨ v = 1) : narrow .boolean (.int (iI v)) = .int (iI v) := by
  rcases h with rfl | rfl <;> decide
def cmpI (a b : Int) : Int := if b < a then 1 else if a = b then 0 else -1
theorem cmpI_r (a b : Int) : -1 ≤ cmpI a b ∧ cmpI a b ≤ 1 := by unfold cmpI; split; omega; split <;> omega
theorem cmpI_lt {a b : Int} : cmpI a b < 0 ↔ a < b := by unfold cmpI; split; omega; split <;> omega
theorem cmpI_gt {a b : Int} : 0 < cmpI a b ↔ b < a := by unfold cmpI; split; omega; split <;> omega
theorem cmpI_ge {a b : Int} : 0 ≤ cmpI a b ↔ b ≤ a := by unfold cmpI; split; omega; split <;> omega
theorem cmpI_le {a b : Int} : cmpI a b ≤ 0 ↔ a ≤ b := by unfold cmpI; split; omega; split <;> omega
theorem cmpI_eq {a b : Int} : cmpI a b = 0 ↔ a = b := by unfold cmpI; split; omega; split <;> omega
theorem lg_cmpI {a b : Int} (ha : I64 a) (hb : I64 b) : lg_cmp (lL a) (lL b) = iI (cmpI a b) := by
  unfold lg_cmp cmpI
  by_cases h1 : b < a
  · rw [if_pos ((lL_lt hb ha).mpr h1), if_pos h1]; decide
  · rw [if_neg (fun q => h1 ((lL_lt hb ha).mp q)), if_neg h1]
    by_cases h2 : a = b
    · rw [if_pos ((lL_eq ha hb).mpr h2), if_pos h2]; decide
    · rw [if_neg (fun q => h2 ((lL_eq ha hb).mp q)), if_neg h2]; decide

section ZR
variable {p : Program} {l : Launch} {e : Env} {R : Room} {s : State} {m : MethodId} {args : Array Value} {below : List Frame} {meth : Method} {c : Code} {H : Heap} {locs : List Loc} {cells slots : Nat} {Q : State → Prop}
variable {cc : ByteArray} {pc : Nat} {ls : Array Slot} {rest : List Value}

theorem z_iconst (hexec : p.tables.exec = Jvm.exec) (hb : c.code = cc) {n : Int} (hdg : decode cc pc = .ok (.iconst n, 1))
    (k : W p l e R s m args below meth c H locs cells slots Q (F0 m (pc + 1) ls (.int (iI n) :: rest))) : W p l e R s m args below meth c H locs cells slots Q (F0 m pc ls (rest)) := lv_iconst hexec hb hdg rfl k
theorem z_bipush (hexec : p.tables.exec = Jvm.exec) (hb : c.code = cc) {n : Int} (hdg : decode cc pc = .ok (.bipush n, 2)) (hv : (Int8.ofInt n).toInt32 = iI n)
    (k : W p l e R s m args below meth c H locs cells slots Q (F0 m (pc + 2) ls (.int (iI n) :: rest))) : W p l e R s m args below meth c H locs cells slots Q (F0 m pc ls rest) := lv_bipush hexec hb hdg hv k
theorem z_sipush (hexec : p.tables.exec = Jvm.exec) (hb : c.code = cc) {n : Int} (hdg : decode cc pc = .ok (.sipush n, 3)) (hv : (Int16.ofInt n).toInt32 = iI n)
    (k : W p l e R s m args below meth c H locs cells slots Q (F0 m (pc + 3) ls (.int (iI n) :: rest))) : W p l e R s m args below meth c H locs cells slots Q (F0 m pc ls rest) := lv_sipush hexec hb hdg hv k
theorem z_ldc (hexec : p.tables.exec = Jvm.exec) (hb : c.code = cc) {own : String} {index : Nat} {v : Int32} {n : Int} (hown : s.vm.findClass own = some m.cls) (hconst : (Jvm.Cond.constant own index v).before args s = true) (hv : v = iI n) (hdg : decode cc pc = .ok (.ldc index, 2))
    (k : W p l e R s m args below meth c H locs cells slots Q (F0 m (pc + 2) ls (.int (iI n) :: rest))) : W p l e R s m args below meth c H locs cells slots Q (F0 m pc ls rest) := lv_ldc hexec hb hown hconst hdg (by rw [hv]; exact k)
theorem z_ldc2 (hexec : p.tables.exec = Jvm.exec) (hb : c.code = cc) {own : String} {index : Nat} {v : Int64} {n : Int} (hown : s.vm.findClass own = some m.cls) (hconst : (Jvm.Cond.constantLong own index v).before args s = true) (hv : v = lL n) (hdg : decode cc pc = .ok (.ldc2_w index, 3))
    (k : W p l e R s m args below meth c H locs cells slots Q (F0 m (pc + 3) ls (.long (lL n) :: rest))) : W p l e R s m args below meth c H locs cells slots Q (F0 m pc ls rest) := lv_ldc2 hexec hb hown hconst hdg (by rw [hv]; exact k)
theorem z_lconst (hexec : p.tables.exec = Jvm.exec) (hb : c.code = cc) {q : Fin 2} {n : Int} (hv : Int64.ofNat (q : Nat) = lL n) (hdg : decode cc pc = .ok (.lconst q, 1))
    (k : W p l e R s m args below meth c H locs cells slots Q (F0 m (pc + 1) ls (.long (lL n) :: rest))) : W p l e R s m args below meth c H locs cells slots Q (F0 m pc ls rest) := lv_lconst hexec hb hdg hv k
theorem z_iadd (hexec : p.tables.exec = Jvm.exec) (hb : c.code = cc) {a b : Int} (hdg : decode cc pc = .ok (.iadd, 1))
    (k : W p l e R s m args below meth c H locs cells slots Q (F0 m (pc + 1) ls (.int (iI (a + b)) :: rest))) : W p l e R s m args below meth c H locs cells slots Q (F0 m pc ls (.int (iI b) :: .int (iI a) :: rest)) := lv_iadd hexec hb hdg (by rw [iI_add]; exact k)
theorem z_isub (hexec : p.tables.exec = Jvm.exec) (hb : c.code = cc) {a b : Int} (hdg : decode cc pc = .ok (.isub, 1))
    (k : W p l e R s m args below meth c H locs cells slots Q (F0 m (pc + 1) ls (.int (iI (a - b)) :: rest))) : W p l e R s m args below meth c H locs cells slots Q (F0 m pc ls (.int (iI b) :: .int (iI a) :: rest)) := lv_isub hexec hb hdg (by rw [iI_sub]; exact k)
theorem z_imul (hexec : p.tables.exec = Jvm.exec) (hb : c.code = cc) {a b : Int} (hdg : decode cc pc = .ok (.imul, 1))
    (k : W p l e R s m args below meth c H locs cells slots Q (F0 m (pc + 1) ls (.int (iI (a * b)) :: rest))) : W p l e R s m args below meth c H locs cells slots Q (F0 m pc ls (.int (iI b) :: .int (iI a) :: rest)) := lv_imul hexec hb hdg (by rw [iI_mul]; exact k)
theorem z_ladd (hexec : p.tables.exec = Jvm.exec) (hb : c.code = cc) {a b : Int} (hdg : decode cc pc = .ok (.ladd, 1))
    (k : W p l e R s m args below meth c H locs cells slots Q (F0 m (pc + 1) ls (.long (lL (a + b)) :: rest))) : W p l e R s m args below meth c H locs cells slots Q (F0 m pc ls (.long (lL b) :: .long (lL a) :: rest)) := lv_ladd hexec hb hdg (by rw [lL_add]; exact k)
theorem z_lmul (hexec : p.tables.exec = Jvm.exec) (hb : c.code = cc) {a b : Int} (hdg : decode cc pc = .ok (.lmul, 1))
    (k : W p l e R s m args below meth c H locs cells slots Q (F0 m (pc + 1) ls (.long (lL (a * b)) :: rest))) : W p l e R s m args below meth c H locs cells slots Q (F0 m pc ls (.long (lL b) :: .long (lL a) :: rest)) := lv_lmul hexec hb hdg (by rw [lL_mul]; exact k)
theorem z_ineg (hexec : p.tables.exec = Jvm.exec) (hb : c.code = cc) {a : Int} (hdg : decode cc pc = .ok (.ineg, 1))
    (k : W p l e R s m args below meth c H locs cells slots Q (F0 m (pc + 1) ls (.int (iI (-a)) :: rest))) : W p l e R s m args below meth c H locs cells slots Q (F0 m pc ls (.int (iI a) :: rest)) := lv_ineg hexec hb hdg (by rw [iI_neg]; exact k)
theorem z_i2l (hexec : p.tables.exec = Jvm.exec) (hb : c.code = cc) {a : Int} (ha : I32 a) (hdg : decode cc pc = .ok (.i2l, 1))
    (k : W p l e R s m args below meth c H locs cells slots Q (F0 m (pc + 1) ls (.long (lL a) :: rest))) : W p l e R s m args below meth c H locs cells slots Q (F0 m pc ls (.int (iI a) :: rest)) := lv_i2l hexec hb hdg (iI_long ha) k
theorem z_lcmp (hexec : p.tables.exec = Jvm.exec) (hb : c.code = cc) {a b : Int} (ha : I64 a) (hb2 : I64 b) (hdg : decode cc pc = .ok (.lcmp, 1))
    (k : W p l e R s m args below meth c H locs cells slots Q (F0 m (pc + 1) ls (.int (iI (cmpI a b)) :: rest))) : W p l e R s m args below meth c H locs cells slots Q (F0 m pc ls (.long (lL b) :: .long (lL a) :: rest)) := W.lcmp hexec hb hdg (by rw [lg_cmpI ha hb2]; exact k)
theorem z_iinc (hexec : p.tables.exec = Jvm.exec) (hb : c.code = cc) {i nL k : Nat} {n a : Int} {lv lv' : List (Nat × Value)} (hdg : decode cc pc = .ok (.iinc i n, 3)) (h : lv_has ls nL lv) (hk : lv[k]? = some (i, .int (iI a))) (hn : i < nL) (hl : (i, Value.int (iI (a + n))) :: lv.filter (fun q => !(q.1 == i) && !(q.1 + 1 == i && q.2.category == 2)) = lv')
    (kk : ∀ ls' : Array Slot, lv_has ls' nL lv' → W p l e R s m args below meth c H locs cells slots Q (F0 m (pc + 3) ls' rest)) : W p l e R s m args below meth c H locs cells slots Q (F0 m pc ls rest) := lv_iinc hexec hb hdg h hk (iI_add a n) hn hl kk
theorem z_icmp_eq (hexec : p.tables.exec = Jvm.exec) (hb : c.code = cc) {a b : Int} (ha : I32 a) (hb2 : I32 b) {off : Int} {tgt : Nat} (hdg : decode cc pc = .ok (.if_icmp .eq off, 3)) (ht : (pc : Int) + off = (tgt : Int))
    (kt : a = b → W p l e R s m args below meth c H locs cells slots Q (F0 m tgt ls rest)) (kf : ¬ a = b → W p l e R s m args below meth c H locs cells slots Q (F0 m (pc + 3) ls rest)) : W p l e R s m args below meth c H locs cells slots Q (F0 m pc ls (.int (iI b) :: .int (iI a) :: rest)) := lv_icmp_eq hexec hb hdg ht (fun h => kt ((iI_eq ha hb2).mp h)) (fun h => kf (fun q => h ((iI_eq ha hb2).mpr q)))
theorem z_if_eq (hexec : p.tables.exec = Jvm.exec) (hb : c.code = cc) {a : Int} (ha : I32 a) {off : Int} {tgt : Nat} (hdg : decode cc pc = .ok (.ifCond .eq off, 3)) (ht : (pc : Int) + off = (tgt : Int))
    (kt : a = 0 → W p l e R s m args below meth c H locs cells slots Q (F0 m tgt ls rest)) (kf : ¬ a = 0 → W p l e R s m args below meth c H locs cells slots Q (F0 m (pc + 3) ls rest)) : W p l e R s m args below meth c H locs cells slots Q (F0 m pc ls (.int (iI a) :: rest)) := lv_if_eq hexec hb hdg ht (fun h => kt ((iI_eq ha (b := 0) (by omega)).mp h)) (fun h => kf (fun q => h ((iI_eq ha (b := 0) (by omega)).mpr q)))
theorem z_icmp_ne (hexec : p.tables.exec = Jvm.exec) (hb : c.code = cc) {a b : Int} (ha : I32 a) (hb2 : I32 b) {off : Int} {tgt : Nat} (hdg : decode cc pc = .ok (.if_icmp .ne off, 3)) (ht : (pc : Int) + off = (tgt : Int))
    (kt : ¬ a = b → W p l e R s m args below meth c H locs cells slots Q (F0 m tgt ls rest)) (kf : a = b → W p l e R s m args below meth c H locs cells slots Q (F0 m (pc + 3) ls rest)) : W p l e R s m args below meth c H locs cells slots Q (F0 m pc ls (.int (iI b) :: .int (iI a) :: rest)) := lv_icmp_ne hexec hb hdg ht (fun h => kt (fun q => h ((iI_eq ha hb2).mpr q))) (fun h => kf ((iI_eq ha hb2).mp h))
theorem z_if_ne (hexec : p.tables.exec = Jvm.exec) (hb : c.code = cc) {a : Int} (ha : I32 a) {off : Int} {tgt : Nat} (hdg : decode cc pc = .ok (.ifCond .ne off, 3)) (ht : (pc : Int) + off = (tgt : Int))
    (kt : ¬ a = 0 → W p l e R s m args below meth c H locs cells slots Q (F0 m tgt ls rest)) (kf : a = 0 → W p l e R s m args below meth c H locs cells slots Q (F0 m (pc + 3) ls rest)) : W p l e R s m args below meth c H locs cells slots Q (F0 m pc ls (.int (iI a) :: rest)) := lv_if_ne hexec hb hdg ht (fun h => kt (fun q => h ((iI_eq ha (b := 0) (by omega)).mpr q))) (fun h => kf ((iI_eq ha (b := 0) (by omega)).mp h))
theorem z_icmp_lt (hexec : p.tables.exec = Jvm.exec) (hb : c.code = cc) {a b : Int} (ha : I32 a) (hb2 : I32 b) {off : Int} {tgt : Nat} (hdg : decode cc pc = .ok (.if_icmp .lt off, 3)) (ht : (pc : Int) + off = (tgt : Int))
    (kt : a < b → W p l e R s m args below meth c H locs cells slots Q (F0 m tgt ls rest)) (kf : ¬ a < b → W p l e R s m args below meth c H locs cells slots Q (F0 m (pc + 3) ls rest)) : W p l e R s m args below meth c H locs cells slots Q (F0 m pc ls (.int (iI b) :: .int (iI a) :: rest)) := lv_icmp_lt hexec hb hdg ht (fun h => kt ((iI_lt ha hb2).mp h)) (fun h => kf (fun q => h ((iI_lt ha hb2).mpr q)))
theorem z_if_lt (hexec : p.tables.exec = Jvm.exec) (hb : c.code = cc) {a : Int} (ha : I32 a) {off : Int} {tgt : Nat} (hdg : decode cc pc = .ok (.ifCond .lt off, 3)) (ht : (pc : Int) + off = (tgt : Int))
    (kt : a < 0 → W p l e R s m args below meth c H locs cells slots Q (F0 m tgt ls rest)) (kf : ¬ a < 0 → W p l e R s m args below meth c H locs cells slots Q (F0 m (pc + 3) ls rest)) : W p l e R s m args below meth c H locs cells slots Q (F0 m pc ls (.int (iI a) :: rest)) := lv_if_lt hexec hb hdg ht (fun h => kt ((iI_lt ha (b := 0) (by omega)).mp h)) (fun h => kf (fun q => h ((iI_lt ha (b := 0) (by omega)).mpr q)))
theorem z_icmp_ge (hexec : p.tables.exec = Jvm.exec) (hb : c.code = cc) {a b : Int} (ha : I32 a) (hb2 : I32 b) {off : Int} {tgt : Nat} (hdg : decode cc pc = .ok (.if_icmp .ge off, 3)) (ht : (pc : Int) + off = (tgt : Int))
    (kt : b ≤ a → W p l e R s m args below meth c H locs cells slots Q (F0 m tgt ls rest)) (kf : ¬ b ≤ a → W p l e R s m args below meth c H locs cells slots Q (F0 m (pc + 3) ls rest)) : W p l e R s m args below meth c H locs cells slots Q (F0 m pc ls (.int (iI b) :: .int (iI a) :: rest)) := lv_icmp_ge hexec hb hdg ht (fun h => kt ((iI_le hb2 ha).mp h)) (fun h => kf (fun q => h ((iI_le hb2 ha).mpr q)))
theorem z_if_ge (hexec : p.tables.exec = Jvm.exec) (hb : c.code = cc) {a : Int} (ha : I32 a) {off : Int} {tgt : Nat} (hdg : decode cc pc = .ok (.ifCond .ge off, 3)) (ht : (pc : Int) + off = (tgt : Int))
    (kt : 0 ≤ a → W p l e R s m args below meth c H locs cells slots Q (F0 m tgt ls rest)) (kf : ¬ 0 ≤ a → W p l e R s m args below meth c H locs cells slots Q (F0 m (pc + 3) ls rest)) : W p l e R s m args below meth c H locs cells slots Q (F0 m pc ls (.int (iI a) :: rest)) := lv_if_ge hexec hb hdg ht (fun h => kt ((iI_le (a := 0) (by omega) ha).mp h)) (fun h => kf (fun q => h ((iI_le (a := 0) (by omega) ha).mpr q)))
theorem z_icmp_gt (hexec : p.tables.exec = Jvm.exec) (hb : c.code = cc) {a b : Int} (ha : I32 a) (hb2 : I32 b) {off : Int} {tgt : Nat} (hdg : decode cc pc = .ok (.if_icmp .gt off, 3)) (ht : (pc : Int) + off = (tgt : Int))
    (kt : b < a → W p l e R s m args below meth c H locs cells slots Q (F0 m tgt ls rest)) (kf : ¬ b < a → W p l e R s m args below meth c H locs cells slots Q (F0 m (pc + 3) ls rest)) : W p l e R s m args below meth c H locs cells slots Q (F0 m pc ls (.int (iI b) :: .int (iI a) :: rest)) := lv_icmp_gt hexec hb hdg ht (fun h => kt ((iI_lt hb2 ha).mp h)) (fun h => kf (fun q => h ((iI_lt hb2 ha).mpr q)))
theorem z_if_gt (hexec : p.tables.exec = Jvm.exec) (hb : c.code = cc) {a : Int} (ha : I32 a) {off : Int} {tgt : Nat} (hdg : decode cc pc = .ok (.ifCond .gt off, 3)) (ht : (pc : Int) + off = (tgt : Int))
    (kt : 0 < a → W p l e R s m args below meth c H locs cells slots Q (F0 m tgt ls rest)) (kf : ¬ 0 < a → W p l e R s m args below meth c H locs cells slots Q (F0 m (pc + 3) ls rest)) : W p l e R s m args below meth c H locs cells slots Q (F0 m pc ls (.int (iI a) :: rest)) := lv_if_gt hexec hb hdg ht (fun h => kt ((iI_lt (a := 0) (by omega) ha).mp h)) (fun h => kf (fun q => h ((iI_lt (a := 0) (by omega) ha).mpr q)))
theorem z_icmp_le (hexec : p.tables.exec = Jvm.exec) (hb : c.code = cc) {a b : Int} (ha : I32 a) (hb2 : I32 b) {off : Int} {tgt : Nat} (hdg : decode cc pc = .ok (.if_icmp .le off, 3)) (ht : (pc : Int) + off = (tgt : Int))
    (kt : a ≤ b → W p l e R s m args below meth c H locs cells slots Q (F0 m tgt ls rest)) (kf : ¬ a ≤ b → W p l e R s m args below meth c H locs cells slots Q (F0 m (pc + 3) ls rest)) : W p l e R s m args below meth c H locs cells slots Q (F0 m pc ls (.int (iI b) :: .int (iI a) :: rest)) := lv_icmp_le hexec hb hdg ht (fun h => kt ((iI_le ha hb2).mp h)) (fun h => kf (fun q => h ((iI_le ha hb2).mpr q)))
theorem z_if_le (hexec : p.tables.exec = Jvm.exec) (hb : c.code = cc) {a : Int} (ha : I32 a) {off : Int} {tgt : Nat} (hdg : decode cc pc = .ok (.ifCond .le off, 3)) (ht : (pc : Int) + off = (tgt : Int))
    (kt : a ≤ 0 → W p l e R s m args below meth c H locs cells slots Q (F0 m tgt ls rest)) (kf : ¬ a ≤ 0 → W p l e R s m args below meth c H locs cells slots Q (F0 m (pc + 3) ls rest)) : W p l e R s m args below meth c H locs cells slots Q (F0 m pc ls (.int (iI a) :: rest)) := lv_if_le hexec hb hdg ht (fun h => kt ((iI_le ha (b := 0) (by omega)).mp h)) (fun h => kf (fun q => h ((iI_le ha (b := 0) (by omega)).mpr q)))
theorem z_if_eqB (hexec : p.tables.exec = Jvm.exec) (hb : c.code = cc) {P : Prop} [Decidable P] {off : Int} {tgt : Nat} (hdg : decode cc pc = .ok (.ifCond .eq off, 3)) (ht : (pc : Int) + off = (tgt : Int))
    (kt : ¬ P → W p l e R s m args below meth c H locs cells slots Q (F0 m tgt ls rest)) (kf : P → W p l e R s m args below meth c H locs cells slots Q (F0 m (pc + 3) ls rest)) : W p l e R s m args below meth c H locs cells slots Q (F0 m pc ls (.int (iI (bI P)) :: rest)) := z_if_eq hexec hb (by have := bI_r P; omega) hdg ht (fun h => kt (fun q => by rw [bI_t q] at h; omega)) (fun h => kf (Classical.byContradiction fun q => h (bI_f q)))
theorem z_if_neB (hexec : p.tables.exec = Jvm.exec) (hb : c.code = cc) {P : Prop} [Decidable P] {off : Int} {tgt : Nat} (hdg : decode cc pc = .ok (.ifCond .ne off, 3)) (ht : (pc : Int) + off = (tgt : Int))
    (kt : P → W p l e R s m args below meth c H locs cells slots Q (F0 m tgt ls rest)) (kf : ¬ P → W p l e R s m args below meth c H locs cells slots Q (F0 m (pc + 3) ls rest)) : W p l e R s m args below meth c H locs cells slots Q (F0 m pc ls (.int (iI (bI P)) :: rest)) := z_if_ne hexec hb (by have := bI_r P; omega) hdg ht (fun h => kt (Classical.byContradiction fun q => h (bI_f q))) (fun h => kf (fun q => by rw [bI_t q] at h; omega))
theorem z_top {a b : Int} (h : a = b) (k : W p l e R s m args below meth c H locs cells slots Q (F0 m pc ls (.int (iI b) :: rest))) : W p l e R s m args below meth c H locs cells slots Q (F0 m pc ls (.int (iI a) :: rest)) := by rw [h]; exact k
theorem z_topl {a b : Int} (h : a = b) (k : W p l e R s m args below meth c H locs cells slots Q (F0 m pc ls (.long (lL b) :: rest))) : W p l e R s m args below meth c H locs cells slots Q (F0 m pc ls (.long (lL a) :: rest)) := by rw [h]; exact k
end ZR
end
section
/-! single cells, and rows over them -/
abbrev OBJ (D : va_G) (a ci : Nat) (fs : List Value) (H : Heap) : Prop := va_P D vwCl [(a, .inr (ci, fs))] H
abbrev IAR (D : va_G) (a : Nat) (cA : ClassId) (n : Nat) (f : Nat → Int) (H : Heap) : Prop := va_P D vwCl [(a, .inl (cA, n, .inl (fun i => iI (f i))))] H
abbrev RAR (D : va_G) (a : Nat) (cA : ClassId) (n : Nat) (f : Nat → Option Nat) (H : Heap) : Prop := va_P D vwCl [(a, .inl (cA, n, .inr (.inr (.inr (.inr f)))))] H
def fu (f : Nat → Int) (j : Nat) (v : Int) : Nat → Int := fun i => if i = j then v else f i
theorem one_P {D : va_G} {q : Nat × va_E} {H : Heap} (h : va_at D vwCl q H) : va_P D vwCl [q] H := fun k x hx => by
  have hz : k < 1 := (List.getElem?_eq_some_iff.mp hx).1
  rw [show k = 0 by omega] at hx
  cases hx
  exact h
theorem one_kept {D : va_G} {q : Nat × va_E} {H H1 : Heap} (h : va_P D vwCl [q] H) (hq : H1[q.1]? = H[q.1]?) : va_P D vwCl [q] H1 := one_P ((h 0 q rfl).kept hq)
theorem one_lt {D : va_G} {q : Nat × va_E} {H : Heap} (h : va_P D vwCl [q] H) : q.1 < H.size := (h 0 q rfl).lt
theorem arrV_cong {cA : ClassId} {n : Nat} {f g : Nat → Value} (h : ∀ i, i < n → f i = g i) : arrV cA n f = arrV cA n g := by
  unfold arrV
  congr 2
  funext j
  exact h j.val j.isLt
theorem IAR_cong {D : va_G} {a : Nat} {cA : ClassId} {n : Nat} {f g : Nat → Int} {H : Heap} (h : IAR D a cA n f H) (hfg : ∀ i, i < n → f i = g i) : IAR D a cA n g H := one_P (by
  have h1 : H[a]? = some (vp_cell cA (n, .inl (fun i => iI (f i)))) := h 0 _ rfl
  show H[a]? = some (vp_cell cA (n, .inl (fun i => iI (g i))))
  rw [h1, vp_cell_i, vp_cell_i]
  congr 1
  exact arrV_cong (fun i hi => by rw [hfg i hi]))
theorem RAR_cong {D : va_G} {a : Nat} {cA : ClassId} {n : Nat} {f g : Nat → Option Nat} {H : Heap} (h : RAR D a cA n f H) (hfg : ∀ i, i < n → f i = g i) : RAR D a cA n g H := one_P (by
  have h1 : H[a]? = some (vp_cell cA (n, .inr (.inr (.inr (.inr f))))) := h 0 _ rfl
  show H[a]? = some (vp_cell cA (n, .inr (.inr (.inr (.inr g)))))
  rw [h1, vp_cell_q, vp_cell_q]
  congr 1
  exact arrV_cong (fun i hi => by rw [hfg i hi]))
section YR
variable {p : Program} {l : Launch} {e : Env} {R : Room} {s : State} {m : MethodId} {args : Array Value} {below : List Frame} {meth : Method} {c : Code} {H : Heap} {locs : List Loc} {cells slots : Nat} {Q : State → Prop}
variable {cc : ByteArray} {pc : Nat} {ls : Array Slot} {rest : List Value} {D : va_G} {A : Nat → Prop} {a : Nat} {tys : List (ClassId × FieldType)} {H0 : Heap}

theorem y_get (hexec : p.tables.exec = Jvm.exec) (hb : c.code = cc) {own ref C : String} {T : u_T} {N ci index : Nat} {Ts : List Cond} (hts : ∀ w ∈ Ts, w.before args s = true) (hin : ∀ w ∈ u_ws C T N, w ∈ Ts) (hown : s.vm.findClass own = some m.cls) (hK : va_K D vwCl tys s) {fs : List Value} (hP : OBJ D a ci fs H) (hc : vwCl[ci]? = some (C, T, N)) (k : Nat) (hk : k < N) (hlink : (Cond.fieldLink own index ref (T k).2.1 (T k).2.2.1).before args s = true) (href : ref = (T k).1) {v : Value} (hv : fs[k]? = some v) (hdg : decode cc pc = .ok (.getfield index, 3))
    (kk : W p l e R s m args below meth c H locs cells slots Q (F0 m (pc + 3) ls (v :: rest))) : W p l e R s m args below meth c H locs cells slots Q (F0 m pc ls (.ref a :: rest)) :=
  va_get hexec hb hts hin hown hK hP 0 rfl hc k hk hlink (fun x h => by rw [href]; exact h) hv hdg kk
theorem y_iald (hexec : p.tables.exec = Jvm.exec) (hb : c.code = cc) (hK : va_K D vwCl tys s) (t0 : Nat) {cA : ClassId} {n : Nat} {f : Nat → Int} (hP : IAR D a cA n f H) (ht : tys[t0]? = some (cA, .int)) {j : Nat} {z : Int} (hz : z = j) (hj : j < n) (hn : n < 2 ^ 31) (hdg : decode cc pc = .ok (.iaload, 1))
    (kk : W p l e R s m args below meth c H locs cells slots Q (F0 m (pc + 1) ls (.int (iI (f j)) :: rest))) : W p l e R s m args below meth c H locs cells slots Q (F0 m pc ls (.int (iI z) :: .ref a :: rest)) := by
  subst hz
  refine va_iald hexec hb hK hP 0 t0 rfl ht (iI_in hj hn) hdg ?_
  rw [iI_clamp (Nat.lt_trans hj hn)]
  exact kk
theorem y_zald (hexec : p.tables.exec = Jvm.exec) (hb : c.code = cc) (hK : va_K D vwCl tys s) (t0 : Nat) {cA : ClassId} {n : Nat} {f : Nat → Int} (hP : IAR D a cA n f H) (ht : tys[t0]? = some (cA, .boolean)) {j : Nat} {z : Int} (hz : z = j) (hj : j < n) (hn : n < 2 ^ 31) (hdg : decode cc pc = .ok (.baload, 1))
    (kk : W p l e R s m args below meth c H locs cells slots Q (F0 m (pc + 1) ls (.int (iI (f j)) :: rest))) : W p l e R s m args below meth c H locs cells slots Q (F0 m pc ls (.int (iI z) :: .ref a :: rest)) := by
  subst hz
  refine va_zald hexec hb hK hP 0 t0 rfl ht (iI_in hj hn) hdg ?_
  rw [iI_clamp (Nat.lt_trans hj hn)]
  exact kk
theorem y_aald (hexec : p.tables.exec = Jvm.exec) (hb : c.code = cc) (hK : va_K D vwCl tys s) (t0 : Nat) {cA : ClassId} {n : Nat} {f : Nat → Option Nat} {ty : FieldType} (hty : ty.isReference = true) (hP : RAR D a cA n f H) (ht : tys[t0]? = some (cA, ty)) {j : Nat} {z : Int} (hz : z = j) (hj : j < n) (hn : n < 2 ^ 31) (hdg : decode cc pc = .ok (.aaload, 1))
    (kk : W p l e R s m args below meth c H locs cells slots Q (F0 m (pc + 1) ls (va_rf (f j) :: rest))) : W p l e R s m args below meth c H locs cells slots Q (F0 m pc ls (.int (iI z) :: .ref a :: rest)) := by
  subst hz
  have hin := iI_in hj hn
  have hcl : (iI (j : Int)).toNatClampNeg = j := iI_clamp (Nat.lt_trans hj hn)
  refine W.aald (v := va_rf (f j)) (ty := ty) hexec hb (hP 0 _ rfl) ((hK.2 t0 _ ht).1 n (fun j => va_rf (f j))) hty (fun q => by cases q) (by show ¬ (_ ∨ (arrV _ _ _).slots.size ≤ _); rw [arrV_size]; exact hin) (by show (arrV _ _ _).slots[_]? = _; rw [hcl, arrV_read _ _ hj]) rfl rfl hdg kk

theorem y_iast (hexec : p.tables.exec = Jvm.exec) (hb : c.code = cc) (hK : va_K D vwCl tys s) (hS : va_S A H0 H locs) (t0 : Nat) {cA : ClassId} {n : Nat} {f : Nat → Int} (hP : IAR D a cA n f H) (hA : A a) (ht : tys[t0]? = some (cA, .int)) {j : Nat} {z v : Int} (hz : z = j) (hj : j < n) (hn : n < 2 ^ 31) (hdg : decode cc pc = .ok (.iastore, 1))
    (kk : ∀ (H1 : Heap) (locs1 : List Loc), IAR D a cA n (fu f j v) H1 → H1.size = H.size → (∀ q : Nat, q ≠ a → H1[q]? = H[q]?) → va_S A H0 H1 locs1 → W p l e R s m args below meth c H1 locs1 cells slots Q (F0 m (pc + 1) ls rest)) : W p l e R s m args below meth c H locs cells slots Q (F0 m pc ls (.int (iI v) :: .int (iI z) :: .ref a :: rest)) := by
  subst hz
  have hin := iI_in hj hn
  have hcl : (iI (j : Int)).toNatClampNeg = j := iI_clamp (Nat.lt_trans hj hn)
  refine W.iast hexec hb (hP 0 _ rfl) ((hK.2 t0 _ ht).1 n (fun j => .int (iI (f j)))) (fun q => by cases q) (by show ¬ (_ ∨ (arrV _ _ _).slots.size ≤ _); rw [arrV_size]; exact hin) rfl rfl hdg fun H1 e z oq => ?_
  refine kk H1 _ (one_P ?_) z oq (hS.put z oq hA)
  show H1[a]? = some (vp_cell _ _)
  rw [e, hcl, vp_cell_i, vp_cell_i, arrV_store]
  congr 2
  funext q
  by_cases hq : q = j
  · subst hq
    simp [updV, fu]
  · simp [updV, fu, hq]
theorem y_zast (hexec : p.tables.exec = Jvm.exec) (hb : c.code = cc) (hK : va_K D vwCl tys s) (hS : va_S A H0 H locs) (t0 : Nat) {cA : ClassId} {n : Nat} {f : Nat → Int} (hP : IAR D a cA n f H) (hA : A a) (ht : tys[t0]? = some (cA, .boolean)) {j : Nat} {z v : Int} (hz : z = j) (hj : j < n) (hn : n < 2 ^ 31) (hv : v = 0 ∨ v = 1) (hdg : decode cc pc = .ok (.bastore, 1))
    (kk : ∀ (H1 : Heap) (locs1 : List Loc), IAR D a cA n (fu f j v) H1 → H1.size = H.size → (∀ q : Nat, q ≠ a → H1[q]? = H[q]?) → va_S A H0 H1 locs1 → W p l e R s m args below meth c H1 locs1 cells slots Q (F0 m (pc + 1) ls rest)) : W p l e R s m args below meth c H locs cells slots Q (F0 m pc ls (.int (iI v) :: .int (iI z) :: .ref a :: rest)) := by
  subst hz
  have hin := iI_in hj hn
  have hcl : (iI (j : Int)).toNatClampNeg = j := iI_clamp (Nat.lt_trans hj hn)
  refine W.zast hexec hb (hP 0 _ rfl) ((hK.2 t0 _ ht).1 n (fun j => .int (iI (f j)))) (fun q => by cases q) (by show ¬ (_ ∨ (arrV _ _ _).slots.size ≤ _); rw [arrV_size]; exact hin) rfl rfl hdg fun H1 e z oq => ?_
  refine kk H1 _ (one_P ?_) z oq (hS.put z oq hA)
  show H1[a]? = some (vp_cell _ _)
  rw [e, bI_nar hv, hcl, vp_cell_i, vp_cell_i, arrV_store]
  congr 2
  funext q
  by_cases hq : q = j
  · subst hq
    simp [updV, fu]
  · simp [updV, fu, hq]
theorem y_put (hexec : p.tables.exec = Jvm.exec) (hb : c.code = cc) {own ref C : String} {T : u_T} {N ci index : Nat} {Ts : List Cond} (hts : ∀ w ∈ Ts, w.before args s = true) (hin : ∀ w ∈ u_ws C T N, w ∈ Ts) (ty0 : Nat → FieldType) (hty : ∀ k, k < N → parseFieldDescriptor (T k).2.2.1 = some (ty0 k)) (hnm : ∀ a, a < N → ∀ b, b < N → a ≠ b → (T a).2.1 ≠ (T b).2.1) (hown : s.vm.findClass own = some m.cls) (hK : va_K D vwCl tys s) (hS0 : va_S A H0 H locs) {fs : List Value} (hP : OBJ D a ci fs H) (hA : A a) (hc : vwCl[ci]? = some (C, T, N)) (k : Nat) (hk : k < N) (hlink : (Cond.fieldLink own index ref (T k).2.1 (T k).2.2.1).before args s = true) (href : ref = (T k).1) (hfin : (T k).2.2.2 = false) {ty : FieldType} {v : Value} (hd : parseFieldDescriptor (T k).2.2.1 = some ty) (hn : narrow ty v = v) (hfit : fits ty v = true) (hl : k < fs.length)
    (hdg : decode cc pc = .ok (.putfield index, 3)) (kk : ∀ (H1 : Heap) (locs1 : List Loc), OBJ D a ci (fs.set k v) H1 → H1.size = H.size → (∀ q : Nat, q ≠ a → H1[q]? = H[q]?) → va_S A H0 H1 locs1 → W p l e R s m args below meth c H1 locs1 cells slots Q (F0 m (pc + 3) ls rest)) : W p l e R s m args below meth c H locs cells slots Q (F0 m pc ls (v :: .ref a :: rest)) := by
  have hsame : ∀ x, s.fieldFound? (T k).1 (T k).2.1 (T k).2.2.1 = some x → s.fieldFound? ref (T k).2.1 (T k).2.2.1 = some x := fun x h => by rw [href]; exact h
  have hap := va_apart (own := own) hts hin ty0 hty hnm hK hc
  obtain ⟨r, h1, cell, q1, q2, q3, q4⟩ := hP 0 _ rfl
  have hr : r = (C, T, N) := Option.some.inj (h1.symm.trans hc)
  subst hr
  obtain ⟨hS, hfc, kC, hkC, hkind⟩ := hK.1 ci _ hc
  obtain ⟨cf, kf, fi, f, hi, hsl⟩ := hS k hk
  have hlay := hts _ (hin _ (u_in_lay hk))
  unfold u_lay at hlay
  rw [if_neg (by rw [hfin]; decide)] at hlay
  have hst := (u_facts hfc hkC (u_lays hts hin hk) hi).1
  have h6 := u_store hfc hkC hkind hlay hi hd hn hfit
  refine W.putK hexec hb (f := f) ⟨hown, hlink, ⟨_, _, _, hsame _ hi⟩, hst⟩ (by rw [q2]; exact h6) q1 q3 (by rw [hsl]; exact k2_hasslot (q4 k hk)) rfl rfl hdg fun H' e1 e2 e3 => ?_
  rw [hsl] at e1 ⊢
  exact kk H' _ (one_P ⟨_, hc, t_OB.to (V := updV (vp_V fs) k v) ⟨_, e1, q2, q3, t_set q4 hap hk v⟩ (fun j _ => vp_updV_set hl v j)⟩) e2 e3 (hS0.put e2 e3 hA)
end YR

/-! the state: component c, place i -/
abbrev Tau : Type := Nat → Nat → Int
def tu (τ : Tau) (c i : Nat) (v : Int) : Tau := fun c2 => if c2 = c then fu (τ c2) i v else τ c2
theorem tu_c {τ : Tau} {c i : Nat} {v : Int} : tu τ c i v c = fu (τ c) i v := if_pos rfl
theorem tu_n {τ : Tau} {c i : Nat} {v : Int} {d : Nat} (h : d ≠ c) : tu τ c i v d = τ d := if_neg h
theorem fu_s {f : Nat → Int} {j : Nat} {v : Int} : fu f j v j = v := if_pos rfl
theorem fu_n {f : Nat → Int} {j i : Nat} {v : Int} (h : i ≠ j) : fu f j v i = f i := if_neg h
theorem tu_s {τ : Tau} {c i : Nat} {v : Int} : tu τ c i v c i = v := by rw [tu_c, fu_s]
def mLen : Nat → Nat := fun c => match c with
  | 1 => 4
  | 2 => 80
  | 3 => 80
  | 4 => 4
  | 5 => 80
  | 6 => 20
  | 7 => 20
  | 8 => 8
  | 9 => 160
  | 10 => 160
  | 11 => 10
  | 13 => 30
  | 14 => 30
  | 15 => 30
  | 16 => 30
  | 19 => 6
  | 20 => 96
  | 21 => 96
  | 22 => 96
  | 23 => 96
  | 24 => 96
  | 25 => 2
  | 26 => 441
  | _ => 0
theorem mLen_le (c : Nat) : mLen c < 2 ^ 31 := by
  unfold mLen
  split <;> decide
def mFs (ad : Nat → Nat) (τ : Tau) : List Value := [.int (iI (τ 0 0)), .ref (ad 1), .ref (ad 2), .ref (ad 3), .ref (ad 4), .ref (ad 5), .ref (ad 6), .ref (ad 7), .ref (ad 8), .ref (ad 9), .ref (ad 10), .ref (ad 11), .int (iI (τ 12 0)), .ref (ad 13), .ref (ad 14), .ref (ad 15), .ref (ad 16), .int (iI (τ 17 0)), .int (iI (τ 18 0)), .ref (ad 19), .ref (ad 20), .ref (ad 21), .ref (ad 22), .ref (ad 23), .ref (ad 24), .ref (ad 25), .ref (ad 26)]
def mC (cI cZ : ClassId) (c : Nat) : ClassId := if c = 7 ∨ c = 23 then cZ else cI
def mR (c : Nat) : Prop := c = 0 ∨ 0 < mLen c
abbrev mT (cI cZ : ClassId) : List (ClassId × FieldType) := [(cI, .int), (cZ, .boolean)]
def MW (D : va_G) (cI cZ : ClassId) (ad : Nat → Nat) (τ : Tau) (H : Heap) : Prop := OBJ D (ad 0) 8 (mFs ad τ) H ∧ (∀ c, 0 < mLen c → IAR D (ad c) (mC cI cZ c) (mLen c) (τ c) H) ∧ ∀ c c2, mR c → mR c2 → ad c = ad c2 → c = c2
def MA (ad : Nat → Nat) : Nat → Prop := fun q => ∃ c, mR c ∧ q = ad c
theorem MW.kept {D : va_G} {cI cZ : ClassId} {ad : Nat → Nat} {τ : Tau} {H H1 : Heap} (h : MW D cI cZ ad τ H) (hq : ∀ q, MA ad q → H1[q]? = H[q]?) : MW D cI cZ ad τ H1 :=
  ⟨one_kept h.1 (hq _ ⟨0, Or.inl rfl, rfl⟩), fun c hc => one_kept (h.2.1 c hc) (hq _ ⟨c, Or.inr hc, rfl⟩), h.2.2⟩
theorem mFs_tu {ad : Nat → Nat} {τ : Tau} {c i : Nat} {v : Int} (hc : 0 < mLen c) : mFs ad (tu τ c i v) = mFs ad τ := by
  have h0 : (0 : Nat) ≠ c := fun q => by rw [← q] at hc; exact absurd hc (by decide)
  have h1 : (12 : Nat) ≠ c := fun q => by rw [← q] at hc; exact absurd hc (by decide)
  have h2 : (17 : Nat) ≠ c := fun q => by rw [← q] at hc; exact absurd hc (by decide)
  have h3 : (18 : Nat) ≠ c := fun q => by rw [← q] at hc; exact absurd hc (by decide)
  unfold mFs
  rw [tu_n h0, tu_n h1, tu_n h2, tu_n h3]
theorem MW.put {D : va_G} {cI cZ : ClassId} {ad : Nat → Nat} {τ : Tau} {H H1 : Heap} {c j : Nat} {v : Int} (h : MW D cI cZ ad τ H) (hc : 0 < mLen c) (hn : IAR D (ad c) (mC cI cZ c) (mLen c) (fu (τ c) j v) H1) (oq : ∀ q : Nat, q ≠ ad c → H1[q]? = H[q]?) : MW D cI cZ ad (tu τ c j v) H1 := by
  refine ⟨?_, fun d hd => ?_, h.2.2⟩
  · rw [mFs_tu hc]
    refine one_kept h.1 (oq _ fun q => ?_)
    have := h.2.2 0 c (Or.inl rfl) (Or.inr hc) q
    rw [← this] at hc
    exact absurd hc (by decide)
  · by_cases hdc : d = c
    · subst hdc
      rw [tu_c]
      exact hn
    · rw [tu_n hdc]
      exact one_kept (h.2.1 d hd) (oq _ fun q => hdc (h.2.2 d c (Or.inr hd) (Or.inr hc) q))
theorem MW.putS {D : va_G} {cI cZ : ClassId} {ad : Nat → Nat} {τ : Tau} {H H1 : Heap} {c : Nat} {v : Int} (h : MW D cI cZ ad τ H) (hc : ¬ 0 < mLen c) (hn : OBJ D (ad 0) 8 (mFs ad (tu τ c 0 v)) H1) (oq : ∀ q : Nat, q ≠ ad 0 → H1[q]? = H[q]?) : MW D cI cZ ad (tu τ c 0 v) H1 := by
  refine ⟨hn, fun d hd => ?_, h.2.2⟩
  have hdc : d ≠ c := fun q => hc (by rw [← q]; exact hd)
  rw [tu_n hdc]
  refine one_kept (h.2.1 d hd) (oq _ fun q => ?_)
  have := h.2.2 d 0 (Or.inr hd) (Or.inl rfl) q
  rw [this] at hd
  exact absurd hd (by decide)
theorem MW.ext {D : va_G} {cI cZ : ClassId} {ad : Nat → Nat} {τ τ2 : Tau} {H : Heap} (h : MW D cI cZ ad τ H) (he : ∀ c, c < 27 → τ c = τ2 c) : MW D cI cZ ad τ2 H := by
  refine ⟨?_, fun c hc => ?_, h.2.2⟩
  · have e : mFs ad τ2 = mFs ad τ := by
      unfold mFs
      rw [he 0 (by decide), he 12 (by decide), he 17 (by decide), he 18 (by decide)]
    rw [e]
    exact h.1
  · have hl : c < 27 := by
      rcases Nat.lt_or_ge c 27 with q | q
      · exact q
      · exfalso
        have : mLen c = 0 := by
          unfold mLen
          split <;> first | rfl | omega
        omega
    rw [← he c hl]
    exact h.2.1 c hc
def mPc (D : va_G) (cI cZ : ClassId) (ad : Nat → Nat) (τ : Tau) (av : List Value) : Array Value → State → Prop := va_Pc av (fun U => MW D cI cZ ad τ U.heap ∧ va_K D vwCl (mT cI cZ) U)
def sPc (av : List Value) : Array Value → State → Prop := va_Pc av (fun _ => True)
abbrev NoA : Nat → Prop := fun _ => False
abbrev rS (w : Int) : Array Value → State → Outcome → State → Prop := vp_Si (fun r => r = iI w)
abbrev rL (w : Int) : Array Value → State → Outcome → State → Prop := vp_Sl (fun r => r = lL w)
/-- a writer's end, of the model -/
def mQ (D : va_G) (cI cZ : ClassId) (ad : Nat → Nat) (v : Option Value) (τ : Tau) : Array Value → State → Outcome → State → Prop := fun _ st oc t => oc = .returned v ∧ MW D cI cZ ad τ t.heap ∧ t.heap.size = st.heap.size ∧ ∀ q : Nat, ¬ MA ad q → t.heap[q]? = st.heap[q]?
/-- a writer's end, of the model, where the state behind it is one of several -/
def mX (D : va_G) (cI cZ : ClassId) (ad : Nat → Nat) (v : Option Value) (P : Tau → Prop) : Array Value → State → Outcome → State → Prop := fun _ st oc t => oc = .returned v ∧ (∃ τ : Tau, P τ ∧ MW D cI cZ ad τ t.heap) ∧ t.heap.size = st.heap.size ∧ ∀ q : Nat, ¬ MA ad q → t.heap[q]? = st.heap[q]?
theorem m_start {l : Launch} {y : MethodName} {ws ws' : List Cond} {rm : Room} {Qc : Array Value → State → Outcome → State → Prop} {mc ms : Nat} {free : Addr → Prop} {cc : ByteArray} {maxL : Nat} {ret : Option FieldType} {D : va_G} {cI cZ : ClassId} {ad : Nat → Nat} {τ : Tau} {av : List Value} (hy : plainName y.cls = true) (hw : ws = Cond.code y cc maxL ret :: ws') (hlen : (lg_sl av).length ≤ maxL)
    (body : ∀ (p : Program) (e : Env) (s : State) (m : MethodId) (below : List Frame) (meth : Method) (c : Code), p.tables.exec = Jvm.exec → c.code = cc → meth.sig.returnType = ret → meth.locks = false → c.maxLocals = maxL → (∀ w ∈ ws, w.before av.toArray s = true) → s.vm.findClass y.cls = some m.cls → MW D cI cZ ad τ s.heap → va_K D vwCl (mT cI cZ) s → ∀ ls : Array Slot, lv_has ls maxL (lv_args 0 av) → W p l e rm s m av.toArray below meth c s.heap [] 0 0 (MQ below Qc av.toArray s mc ms free) (F0 m 0 ls [])) : Met l y ws rm (mPc D cI cZ ad τ av) Qc mc ms free := by
  refine Met.ofW (cc := cc) (maxL := maxL) (ret := ret) hy hw ?_
  intro p e s m args below meth c s₁ B hml hv
  obtain ⟨rfl, hW, hK⟩ := hv
  have hl := lv_entry av (n := maxL) hlen
  rw [lg_entry_eq]
  exact body p e s m below meth c B.exec B.bytes B.returns B.notSynchronized hml (atoms_spec (ws := ws) B.pre) (findClass_of_methodNamed B.named) hW hK _ hl
theorem s_start {l : Launch} {y : MethodName} {ws ws' : List Cond} {rm : Room} {Qc : Array Value → State → Outcome → State → Prop} {mc ms : Nat} {free : Addr → Prop} {cc : ByteArray} {maxL : Nat} {ret : Option FieldType} {av : List Value} (hy : plainName y.cls = true) (hw : ws = Cond.code y cc maxL ret :: ws') (hlen : (lg_sl av).length ≤ maxL)
    (body : ∀ (p : Program) (e : Env) (s : State) (m : MethodId) (below : List Frame) (meth : Method) (c : Code), p.tables.exec = Jvm.exec → c.code = cc → meth.sig.returnType = ret → meth.locks = false → c.maxLocals = maxL → (∀ w ∈ ws, w.before av.toArray s = true) → s.vm.findClass y.cls = some m.cls → ∀ ls : Array Slot, lv_has ls maxL (lv_args 0 av) → W p l e rm s m av.toArray below meth c s.heap [] 0 0 (MQ below Qc av.toArray s mc ms free) (F0 m 0 ls [])) : Met l y ws rm (sPc av) Qc mc ms free := by
  refine Met.ofW (cc := cc) (maxL := maxL) (ret := ret) hy hw ?_
  intro p e s m args below meth c s₁ B hml hv
  obtain ⟨rfl, -⟩ := hv
  have hl := lv_entry av (n := maxL) hlen
  rw [lg_entry_eq]
  exact body p e s m below meth c B.exec B.bytes B.returns B.notSynchronized hml (atoms_spec (ws := ws) B.pre) (findClass_of_methodNamed B.named) _ hl
section MR
variable {p : Program} {l : Launch} {e : Env} {R : Room} {s : State} {m : MethodId} {args : Array Value} {below : List Frame} {meth : Method} {c : Code} {H : Heap} {locs : List Loc} {cells slots : Nat} {Q : State → Prop}
variable {cc : ByteArray} {pc : Nat} {ls : Array Slot} {rest : List Value} {D : va_G} {A : Nat → Prop} {cI cZ : ClassId} {ad : Nat → Nat} {τ : Tau} {H0 : Heap} {Ts : List Cond}
theorem m_get (hexec : p.tables.exec = Jvm.exec) (hb : c.code = cc) {index : Nat} (hts : ∀ w ∈ Ts, w.before args s = true) (hin : ∀ w ∈ wsX80, w ∈ Ts) (hown : s.vm.findClass RX8 = some m.cls) (hK : va_K D vwCl (mT cI cZ) s) (hW : MW D cI cZ ad τ H) (k : Nat) (hk : k < 27) (hlink : (Cond.fieldLink RX8 index "CoreShedModel" (TX8 k).2.1 (TX8 k).2.2.1).before args s = true) {v : Value} (hv : (mFs ad τ)[k]? = some v) (hdg : decode cc pc = .ok (.getfield index, 3))
    (kk : W p l e R s m args below meth c H locs cells slots Q (F0 m (pc + 3) ls (v :: rest))) : W p l e R s m args below meth c H locs cells slots Q (F0 m pc ls (.ref (ad 0) :: rest)) :=
  y_get (C := RX8) (T := TX8) (N := 27) (ref := "CoreShedModel") hexec hb hts hin hown hK hW.1 rfl k hk hlink (by unfold TX8; split <;> rfl) hv hdg kk
theorem m_ald (hexec : p.tables.exec = Jvm.exec) (hb : c.code = cc) (hK : va_K D vwCl (mT cI cZ) s) (hW : MW D cI cZ ad τ H) {d : Nat} (hd : mC cI cZ d = cI) {j : Nat} {z : Int} (hz : z = j) (hj : j < mLen d) (hdg : decode cc pc = .ok (.iaload, 1))
    (kk : W p l e R s m args below meth c H locs cells slots Q (F0 m (pc + 1) ls (.int (iI (τ d j)) :: rest))) : W p l e R s m args below meth c H locs cells slots Q (F0 m pc ls (.int (iI z) :: .ref (ad d) :: rest)) :=
  y_iald hexec hb hK 0 (hW.2.1 d (by omega)) (by rw [hd]; rfl) hz hj (mLen_le d) hdg kk
theorem m_zld (hexec : p.tables.exec = Jvm.exec) (hb : c.code = cc) (hK : va_K D vwCl (mT cI cZ) s) (hW : MW D cI cZ ad τ H) {d : Nat} (hd : mC cI cZ d = cZ) {j : Nat} {z : Int} (hz : z = j) (hj : j < mLen d) (hdg : decode cc pc = .ok (.baload, 1))
    (kk : W p l e R s m args below meth c H locs cells slots Q (F0 m (pc + 1) ls (.int (iI (τ d j)) :: rest))) : W p l e R s m args below meth c H locs cells slots Q (F0 m pc ls (.int (iI z) :: .ref (ad d) :: rest)) :=
  y_zald hexec hb hK 1 (hW.2.1 d (by omega)) (by rw [hd]; rfl) hz hj (mLen_le d) hdg kk
theorem m_ast (hexec : p.tables.exec = Jvm.exec) (hb : c.code = cc) (hK : va_K D vwCl (mT cI cZ) s) (hW : MW D cI cZ ad τ H) (hS : va_S (MA ad) H0 H locs) (hz0 : H.size = H0.size) {d : Nat} (hd : mC cI cZ d = cI) {j : Nat} {z v : Int} (hz : z = j) (hj : j < mLen d) (hdg : decode cc pc = .ok (.iastore, 1))
    (kk : ∀ (H1 : Heap) (locs1 : List Loc), MW D cI cZ ad (tu τ d j v) H1 → va_S (MA ad) H0 H1 locs1 → H1.size = H0.size → W p l e R s m args below meth c H1 locs1 cells slots Q (F0 m (pc + 1) ls rest)) : W p l e R s m args below meth c H locs cells slots Q (F0 m pc ls (.int (iI v) :: .int (iI z) :: .ref (ad d) :: rest)) :=
  y_iast hexec hb hK hS 0 (hW.2.1 d (by omega)) ⟨d, Or.inr (by omega), rfl⟩ (by rw [hd]; rfl) hz hj (mLen_le d) hdg (fun H1 locs1 h1 h2 h3 h4 => kk H1 locs1 (hW.put (by omega) h1 h3) h4 (h2.trans hz0))
theorem m_zst (hexec : p.tables.exec = Jvm.exec) (hb : c.code = cc) (hK : va_K D vwCl (mT cI cZ) s) (hW : MW D cI cZ ad τ H) (hS : va_S (MA ad) H0 H locs) (hz0 : H.size = H0.size) {d : Nat} (hd : mC cI cZ d = cZ) {j : Nat} {z v : Int} (hz : z = j) (hj : j < mLen d) (hv : v = 0 ∨ v = 1) (hdg : decode cc pc = .ok (.bastore, 1))
    (kk : ∀ (H1 : Heap) (locs1 : List Loc), MW D cI cZ ad (tu τ d j v) H1 → va_S (MA ad) H0 H1 locs1 → H1.size = H0.size → W p l e R s m args below meth c H1 locs1 cells slots Q (F0 m (pc + 1) ls rest)) : W p l e R s m args below meth c H locs cells slots Q (F0 m pc ls (.int (iI v) :: .int (iI z) :: .ref (ad d) :: rest)) :=
  y_zast hexec hb hK hS 1 (hW.2.1 d (by omega)) ⟨d, Or.inr (by omega), rfl⟩ (by rw [hd]; rfl) hz hj (mLen_le d) hv hdg (fun H1 locs1 h1 h2 h3 h4 => kk H1 locs1 (hW.put (by omega) h1 h3) h4 (h2.trans hz0))
theorem m_put (hexec : p.tables.exec = Jvm.exec) (hb : c.code = cc) {index : Nat} (hts : ∀ w ∈ Ts, w.before args s = true) (hin : ∀ w ∈ wsX80, w ∈ Ts) (hown : s.vm.findClass RX8 = some m.cls) (hK : va_K D vwCl (mT cI cZ) s) (hW : MW D cI cZ ad τ H) (hS : va_S (MA ad) H0 H locs) (hz0 : H.size = H0.size) (k : Nat) (hk : k < 27) (h0 : ¬ 0 < mLen k) (hlink : (Cond.fieldLink RX8 index "CoreShedModel" (TX8 k).2.1 (TX8 k).2.2.1).before args s = true) (hfin : (TX8 k).2.2.2 = false) (hd : parseFieldDescriptor (TX8 k).2.2.1 = some .int) {v : Int} (hs : (mFs ad τ).set k (.int (iI v)) = mFs ad (tu τ k 0 v)) (hdg : decode cc pc = .ok (.putfield index, 3))
    (kk : ∀ (H1 : Heap) (locs1 : List Loc), MW D cI cZ ad (tu τ k 0 v) H1 → va_S (MA ad) H0 H1 locs1 → H1.size = H0.size → W p l e R s m args below meth c H1 locs1 cells slots Q (F0 m (pc + 3) ls rest)) : W p l e R s m args below meth c H locs cells slots Q (F0 m pc ls (.int (iI v) :: .ref (ad 0) :: rest)) :=
  y_put (C := RX8) (T := TX8) (N := 27) (ref := "CoreShedModel") hexec hb hts hin tyX8 tyX8_ok nmX8 hown hK hS hW.1 ⟨0, Or.inl rfl, rfl⟩ rfl k hk hlink (by unfold TX8; split <;> rfl) hfin hd rfl rfl hk hdg (fun H1 locs1 h1 h2 h3 h4 => kk H1 locs1 (hW.putS h0 (by rw [← hs]; exact h1) h3) h4 (h2.trans hz0))
theorem s_iret {v w : Int} (hexec : p.tables.exec = Jvm.exec) (hb : c.code = cc) (hr : meth.sig.returnType = some .int) (hlocks : meth.locks = false) (h : v = w) (hdg : decode cc pc = .ok (.ireturn, 1)) : W p l e R s m args below meth c s.heap [] 0 0 (MQ below (rS w) args s 0 0 NoA) (F0 m pc ls [.int (iI v)]) :=
  W.iret hexec hb hr (fun t ht _ => ⟨iI v, rfl, by rw [h], ht⟩) (fun _ h => by cases h) hdg hlocks
theorem s_zret {v : Int} {P : Prop} [Decidable P] (hexec : p.tables.exec = Jvm.exec) (hb : c.code = cc) (hr : meth.sig.returnType = some .boolean) (hlocks : meth.locks = false) (h : v = bI P) (hdg : decode cc pc = .ok (.ireturn, 1)) : W p l e R s m args below meth c s.heap [] 0 0 (MQ below (rS (bI P)) args s 0 0 NoA) (F0 m pc ls [.int (iI v)]) :=
  W.zret hexec hb hr (bI_nar (by rw [h]; exact bI_01 P)) (fun t ht _ => ⟨iI v, rfl, by rw [h], ht⟩) (fun _ h => by cases h) hdg hlocks
theorem s_lret {v w : Int} (hexec : p.tables.exec = Jvm.exec) (hb : c.code = cc) (hr : meth.sig.returnType = some .long) (hlocks : meth.locks = false) (h : v = w) (hdg : decode cc pc = .ok (.lreturn, 1)) : W p l e R s m args below meth c s.heap [] 0 0 (MQ below (rL w) args s 0 0 NoA) (F0 m pc ls [.long (lL v)]) :=
  W.lret hexec hb hr (fun t ht _ => ⟨lL v, rfl, by rw [h], ht⟩) (fun _ h => by cases h) hdg hlocks
theorem m_iret {v w : Int} {τ2 : Tau} (hexec : p.tables.exec = Jvm.exec) (hb : c.code = cc) (hr : meth.sig.returnType = some .int) (hlocks : meth.locks = false) (hW : MW D cI cZ ad τ2 H) (hS : va_S (MA ad) s.heap H locs) (hz : H.size = s.heap.size) (h : v = w) (hdg : decode cc pc = .ok (.ireturn, 1)) : W p l e R s m args below meth c H locs cells slots (MQ below (mQ D cI cZ ad (some (.int (iI w))) τ2) args s cells slots (MA ad)) (F0 m pc ls [.int (iI v)]) :=
  W.iret hexec hb hr (fun t ht2 _ => ⟨by rw [h], by rw [ht2]; exact hW, by rw [ht2]; exact hz, fun q hq => by
    rw [ht2]
    by_cases hl : q < s.heap.size
    · exact hS.2.1 q hl hq
    · rw [Array.getElem?_eq_none (by omega), Array.getElem?_eq_none (by omega)]⟩) hS.2.2 hdg hlocks
theorem m_vret {τ2 : Tau} (hexec : p.tables.exec = Jvm.exec) (hb : c.code = cc) (hr : meth.sig.returnType = none) (hlocks : meth.locks = false) (hW : MW D cI cZ ad τ2 H) (hS : va_S (MA ad) s.heap H locs) (hz : H.size = s.heap.size) (hdg : decode cc pc = .ok (.return_, 1)) : W p l e R s m args below meth c H locs cells slots (MQ below (mQ D cI cZ ad none τ2) args s cells slots (MA ad)) (F0 m pc ls []) :=
  W.vret hexec hb hr (fun t ht2 _ => ⟨rfl, by rw [ht2]; exact hW, by rw [ht2]; exact hz, fun q hq => by
    rw [ht2]
    by_cases hl : q < s.heap.size
    · exact hS.2.1 q hl hq
    · rw [Array.getElem?_eq_none (by omega), Array.getElem?_eq_none (by omega)]⟩) hS.2.2 hdg hlocks
/-! calls -/
variable {y : MethodName} {ws ws' : List Cond} {rm : Room} {bytes : ByteArray} {maxL nL n index : Nat} {ret : Option FieldType} {As st0 : List Value} {own : String}
theorem m_pre (hK : va_K D vwCl (mT cI cZ) s) (hW : MW D cI cZ ad τ H) : PreV s H RX8 (ad 0) (mPc D cI cZ ad τ (.ref (ad 0) :: As)) As :=
  ⟨fun a U g mk q => ⟨q.1, q.2.1, va_K.moved (u := U) (U := U.calling g mk a) (Vm.Alike.refl U.vm) q.2.2⟩, va_recv hK hW.1 (ci := 8) (q0 := 0) rfl rfl, fun U hU hW9 => ⟨rfl, by rw [hU]; exact hW, va_K.moved hW9.alike hK⟩⟩
theorem s_pre : PreS s H (sPc As) As := ⟨fun a U g mk q => ⟨q.1, trivial⟩, fun U hU hW9 => ⟨rfl, trivial⟩⟩
theorem m_call {w : Int} (hexec : p.tables.exec = Jvm.exec) (hb : c.code = cc) (hml : c.maxLocals = nL) (hts : ∀ w ∈ Ts, w.before args s = true) (hown : s.vm.findClass own = some m.cls) (hK : va_K D vwCl (mT cI cZ) s) (hW : MW D cI cZ ad τ H) (hM : Met l y ws rm (mPc D cI cZ ad τ (.ref (ad 0) :: As)) (rS w) 0 0 NoA) (hG : GoodIn Ts (wsV own index RX8 y ws)) (hw : ws = Cond.code y bytes maxL ret :: ws') (hrc : rm.cells = 0) (hrs : rm.slots = 0)
    (hd : y.cls = RX8 ∧ y.cls ≠ "java/lang/invoke/MethodHandle" ∧ y.cls ≠ "java/lang/invoke/VarHandle" ∧ (parseMethodDescriptor y.desc).map (fun d => d.parameters.length) = some n) (hR : rm.frames + 1 ≤ R.frames ∧ 8 + (maxL + 11) + rm.locals ≤ R.locals) (hn : As.length = n) (hsize : ls.size = nL) (hst : st0 = As.reverse ++ .ref (ad 0) :: rest) (hroom : (rest.map fun v => v.category).sum ≤ 8) (hc : cells ≤ R.cells ∧ slots ≤ R.slots) (hdg : decode cc pc = .ok (.invokevirtual index, 3))
    (kk : W p l e R s m args below meth c H locs cells slots Q (F0 m (pc + 3) ls (.int (iI w) :: rest))) : W p l e R s m args below meth c H locs cells slots Q (F0 m pc ls st0) :=
  vp_callSi (W.runV ⟨hexec, hb, hml, hown, hts⟩ hM (cwV n hts hG hw hrc hrs hd hR) (m_pre hK hW) rfl hn hsize hst (lv_room hroom) hdg hc) (fun r hr => by rw [hr]; exact kk)
theorem s_call {w : Int} (hexec : p.tables.exec = Jvm.exec) (hb : c.code = cc) (hml : c.maxLocals = nL) (hts : ∀ w ∈ Ts, w.before args s = true) (hown : s.vm.findClass own = some m.cls) (hM : Met l y ws rm (sPc As) (rS w) 0 0 NoA) (hG : GoodIn Ts (va_wsS own index y ws)) (hw : ws = Cond.code y bytes maxL ret :: ws') (hrc : rm.cells = 0) (hrs : rm.slots = 0)
    (hd : y.cls ≠ "java/lang/invoke/MethodHandle" ∧ y.cls ≠ "java/lang/invoke/VarHandle" ∧ (parseMethodDescriptor y.desc).map (fun d => d.parameters.length) = some n) (hR : rm.frames + 1 ≤ R.frames ∧ 8 + (maxL + 11) + rm.locals ≤ R.locals) (hn : As.length = n) (hsize : ls.size = nL) (hst : st0 = As.reverse ++ rest) (hroom : (rest.map fun v => v.category).sum ≤ 8) (hc : cells ≤ R.cells ∧ slots ≤ R.slots) (hdg : decode cc pc = .ok (.invokestatic index, 3))
    (kk : W p l e R s m args below meth c H locs cells slots Q (F0 m (pc + 3) ls (.int (iI w) :: rest))) : W p l e R s m args below meth c H locs cells slots Q (F0 m pc ls st0) :=
  vp_callSi (W.runS ⟨hexec, hb, hml, hown, hts⟩ hM (va_cwS n hts hG hw hrc hrs hd hR) s_pre rfl hn hsize hst (lv_room hroom) hdg hc) (fun r hr => by rw [hr]; exact kk)
theorem m_xret {v w : Int} {τ2 : Tau} {P : Tau → Prop} (hexec : p.tables.exec = Jvm.exec) (hb : c.code = cc) (hr : meth.sig.returnType = some .int) (hlocks : meth.locks = false) (hW : P τ2 ∧ MW D cI cZ ad τ2 H) (hS : va_S (MA ad) s.heap H locs) (hz : H.size = s.heap.size) (h : v = w) (hdg : decode cc pc = .ok (.ireturn, 1)) : W p l e R s m args below meth c H locs cells slots (MQ below (mX D cI cZ ad (some (.int (iI w))) P) args s cells slots (MA ad)) (F0 m pc ls [.int (iI v)]) :=
  W.iret hexec hb hr (fun t ht2 _ => ⟨by rw [h], ⟨τ2, hW.1, by rw [ht2]; exact hW.2⟩, by rw [ht2]; exact hz, fun q hq => by
    rw [ht2]
    by_cases hl : q < s.heap.size
    · exact hS.2.1 q hl hq
    · rw [Array.getElem?_eq_none (by omega), Array.getElem?_eq_none (by omega)]⟩) hS.2.2 hdg hlocks
theorem m_xvret {τ2 : Tau} {P : Tau → Prop} (hexec : p.tables.exec = Jvm.exec) (hb : c.code = cc) (hr : meth.sig.returnType = none) (hlocks : meth.locks = false) (hW : P τ2 ∧ MW D cI cZ ad τ2 H) (hS : va_S (MA ad) s.heap H locs) (hz : H.size = s.heap.size) (hdg : decode cc pc = .ok (.return_, 1)) : W p l e R s m args below meth c H locs cells slots (MQ below (mX D cI cZ ad none P) args s cells slots (MA ad)) (F0 m pc ls []) :=
  W.vret hexec hb hr (fun t ht2 _ => ⟨rfl, ⟨τ2, hW.1, by rw [ht2]; exact hW.2⟩, by rw [ht2]; exact hz, fun q hq => by
    rw [ht2]
    by_cases hl : q < s.heap.size
    · exact hS.2.1 q hl hq
    · rw [Array.getElem?_eq_none (by omega), Array.getElem?_eq_none (by omega)]⟩) hS.2.2 hdg hlocks
/-- a call of a writer of the model, from a writer -/
theorem m_callW {v : Option Value} {τ' : Tau} (hexec : p.tables.exec = Jvm.exec) (hb : c.code = cc) (hml : c.maxLocals = nL) (hts : ∀ w ∈ Ts, w.before args s = true) (hown : s.vm.findClass own = some m.cls) (hK : va_K D vwCl (mT cI cZ) s) (hW : MW D cI cZ ad τ H) (hS : va_S (MA ad) H0 H locs) (hz0 : H.size = H0.size) (hM : Met l y ws rm (mPc D cI cZ ad τ (.ref (ad 0) :: As)) (mQ D cI cZ ad v τ') 0 0 (MA ad)) (hG : GoodIn Ts (wsV own index RX8 y ws)) (hw : ws = Cond.code y bytes maxL ret :: ws') (hrc : rm.cells = 0) (hrs : rm.slots = 0)
    (hd : y.cls = RX8 ∧ y.cls ≠ "java/lang/invoke/MethodHandle" ∧ y.cls ≠ "java/lang/invoke/VarHandle" ∧ (parseMethodDescriptor y.desc).map (fun d => d.parameters.length) = some n) (hR : rm.frames + 1 ≤ R.frames ∧ 8 + (maxL + 11) + rm.locals ≤ R.locals) (hn : As.length = n) (hsize : ls.size = nL) (hst : st0 = As.reverse ++ .ref (ad 0) :: rest) (hroom : (rest.map fun v => v.category).sum ≤ 8) (hc : cells ≤ R.cells ∧ slots ≤ R.slots) (hdg : decode cc pc = .ok (.invokevirtual index, 3))
    (kk : ∀ (H1 : Heap) (locs1 : List Loc), MW D cI cZ ad τ' H1 → va_S (MA ad) H0 H1 locs1 → H1.size = H0.size → W p l e R s m args below meth c H1 locs1 cells slots Q (F0 m (pc + 3) ls (v.toList ++ rest))) : W p l e R s m args below meth c H locs cells slots Q (F0 m pc ls st0) := by
  intro T hT X
  obtain ⟨v2, st₀, t, T', L, h0, X', hL, e1, ⟨hv, hw2, hz, hk⟩, st⟩ := W.runV ⟨hexec, hb, hml, hown, hts⟩ hM (cwV n hts hG hw hrc hrs hd hR) (m_pre hK hW) rfl hn hsize hst (lv_room hroom) hdg hc T hT X
  cases hv
  rw [h0] at hz hk
  obtain ⟨t2, a1, b1⟩ := kk T'.heap (locs ++ L) (by rw [e1]; exact hw2) ⟨by rw [e1, hz]; exact hS.1, fun q h1 h2 => by rw [e1, hk q h2]; exact hS.2.1 q h1 h2, fun q hq => by
      rcases List.mem_append.mp hq with h | h
      · exact hS.2.2 q h
      · exact hL q h⟩ (by rw [e1, hz]; exact hz0) T' rfl X'
  exact ⟨t2, st t2 a1, b1⟩

theorem m_callX {v : Option Value} {P : Tau → Prop} (hexec : p.tables.exec = Jvm.exec) (hb : c.code = cc) (hml : c.maxLocals = nL) (hts : ∀ w ∈ Ts, w.before args s = true) (hown : s.vm.findClass own = some m.cls) (hK : va_K D vwCl (mT cI cZ) s) (hW : MW D cI cZ ad τ H) (hS : va_S (MA ad) H0 H locs) (hz0 : H.size = H0.size) (hM : Met l y ws rm (mPc D cI cZ ad τ (.ref (ad 0) :: As)) (mX D cI cZ ad v P) 0 0 (MA ad)) (hG : GoodIn Ts (wsV own index RX8 y ws)) (hw : ws = Cond.code y bytes maxL ret :: ws') (hrc : rm.cells = 0) (hrs : rm.slots = 0)
    (hd : y.cls = RX8 ∧ y.cls ≠ "java/lang/invoke/MethodHandle" ∧ y.cls ≠ "java/lang/invoke/VarHandle" ∧ (parseMethodDescriptor y.desc).map (fun d => d.parameters.length) = some n) (hR : rm.frames + 1 ≤ R.frames ∧ 8 + (maxL + 11) + rm.locals ≤ R.locals) (hn : As.length = n) (hsize : ls.size = nL) (hst : st0 = As.reverse ++ .ref (ad 0) :: rest) (hroom : (rest.map fun v => v.category).sum ≤ 8) (hc : cells ≤ R.cells ∧ slots ≤ R.slots) (hdg : decode cc pc = .ok (.invokevirtual index, 3))
    (kk : ∀ τ' : Tau, P τ' → ∀ (H1 : Heap) (locs1 : List Loc), MW D cI cZ ad τ' H1 → va_S (MA ad) H0 H1 locs1 → H1.size = H0.size → W p l e R s m args below meth c H1 locs1 cells slots Q (F0 m (pc + 3) ls (v.toList ++ rest))) : W p l e R s m args below meth c H locs cells slots Q (F0 m pc ls st0) := by
  intro T hT X
  obtain ⟨v2, st₀, t, T', L, h0, X', hL, e1, ⟨hv, ⟨τ', hp', hw2⟩, hz, hk⟩, st⟩ := W.runV ⟨hexec, hb, hml, hown, hts⟩ hM (cwV n hts hG hw hrc hrs hd hR) (m_pre hK hW) rfl hn hsize hst (lv_room hroom) hdg hc T hT X
  cases hv
  rw [h0] at hz hk
  obtain ⟨t2, a1, b1⟩ := kk τ' hp' T'.heap (locs ++ L) (by rw [e1]; exact hw2) ⟨by rw [e1, hz]; exact hS.1, fun q h1 h2 => by rw [e1, hk q h2]; exact hS.2.1 q h1 h2, fun q hq => by
      rcases List.mem_append.mp hq with h | h
      · exact hS.2.2 q h
      · exact hL q h⟩ (by rw [e1, hz]; exact hz0) T' rfl X'
  exact ⟨t2, st t2 a1, b1⟩
end MR
end
section
/-! the pure words -/
def sm (f : Nat → Int) : Nat → Int
  | 0 => 0
  | n + 1 => sm f n + f n
theorem sm_s (f : Nat → Int) (n : Nat) : sm f (n + 1) = sm f n + f n := rfl
theorem sm_cong {f g : Nat → Int} : ∀ {n : Nat}, (∀ k, k < n → f k = g k) → sm f n = sm g n
  | 0, _ => rfl
  | n + 1, h => by rw [sm_s, sm_s, sm_cong (fun k hk => h k (by omega)), h n (by omega)]
theorem sm_rng {f : Nat → Int} {lo hi : Int} : ∀ {n : Nat}, (∀ k, k < n → lo ≤ f k ∧ f k ≤ hi) → n * lo ≤ sm f n ∧ sm f n ≤ n * hi
  | 0, _ => by simp [sm]
  | n + 1, h => by
    have h1 := sm_rng (n := n) (fun k hk => h k (Nat.lt_succ_of_lt hk))
    have h2 := h n (by omega)
    rw [sm_s]
    have e1 : ((n + 1 : Nat) : Int) * lo = n * lo + lo := by rw [Int.natCast_add, Int.add_mul]; simp
    have e2 : ((n + 1 : Nat) : Int) * hi = n * hi + hi := by rw [Int.natCast_add, Int.add_mul]; simp
    omega
def tLo : Nat → Int := fun c => match c with
  | 24 => -1000
  | 6 => -2147483648
  | 26 => -2147483648
  | _ => 0
def tHi : Nat → Int := fun c => match c with
  | 0 => 4 | 1 => 20 | 2 => 1000 | 3 => 1000 | 4 => 20 | 5 => 100000 | 7 => 1 | 8 => 20 | 9 => 20000 | 10 => 9 | 11 => 9 | 12 => 30 | 13 => 3 | 14 => 20000 | 15 => 20000 | 16 => 4 | 17 => 120 | 18 => 6 | 19 => 16 | 20 => 3 | 21 => 100000 | 22 => 10000 | 23 => 1 | 24 => 100000 | 25 => 1000 | 27 => 20000
  | _ => 2147483647
def Rng (τ : Tau) : Prop := ∀ c i : Nat, tLo c ≤ τ c i ∧ τ c i ≤ tHi c
def frO (τ : Tau) (l k : Nat) : Int := if k = 0 then 0 else τ 9 (20 * l + (k - 1))
def enO (τ : Tau) (h : Nat) : Int := sm (fun k => τ 2 (20 * h + k)) (τ 1 h).toNat
def Inv (τ : Tau) : Prop := Rng τ ∧ (∀ h : Nat, τ 27 h = enO τ h) ∧ (τ 17 0 = sm (fun s => 4 - τ 16 s) (τ 12 0).toNat) ∧
  (∀ b q : Nat, q < 16 → (q : Int) < τ 19 b → (τ 20 (16 * b + q) = 3 → τ 21 (16 * b + q) < q) ∧ (τ 20 (16 * b + q) = 0 → τ 21 (16 * b + q) < τ 12 0)) ∧
  (∀ g k : Nat, k < 20 → (k : Int) < τ 8 g → frO τ g k < τ 9 (20 * g + k)) ∧ (∀ q : Nat, τ 23 q = 0 → τ 24 q = 0)
theorem Rng.tu {τ : Tau} {c i : Nat} {v : Int} (h : Rng τ) (h1 : tLo c ≤ v) (h2 : v ≤ tHi c) : Rng (tu τ c i v) := fun d j => by
  by_cases hd : d = c
  · subst hd
    rw [tu_c]
    by_cases hj : j = i
    · subst hj
      rw [fu_s]
      exact ⟨h1, h2⟩
    · rw [fu_n hj]
      exact h d j
  · rw [tu_n hd]
    exact h d j
theorem en_r {τ : Tau} (h : Rng τ) (i : Nat) : 0 ≤ enO τ i ∧ enO τ i ≤ 20000 := by
  have h1 := sm_rng (f := fun k => τ 2 (20 * i + k)) (lo := 0) (hi := 1000) (n := (τ 1 i).toNat) (fun k _ => h 2 (20 * i + k))
  have h2 : (0 : Int) ≤ τ 1 i ∧ τ 1 i ≤ 20 := h 1 i
  have h3 : ((τ 1 i).toNat : Int) ≤ 20 := by omega
  have h4 : ((τ 1 i).toNat : Int) * 1000 ≤ 20 * 1000 := Int.mul_le_mul_of_nonneg_right h3 (by decide)
  unfold enO
  omega
theorem fr_r {τ : Tau} (h : Rng τ) (l k : Nat) : 0 ≤ frO τ l k ∧ frO τ l k ≤ 20000 := by
  unfold frO
  split
  · decide
  · exact h 9 _
theorem Inv.en {τ : Tau} (h : Inv τ) (i : Nat) : 0 ≤ enO τ i ∧ enO τ i ≤ 20000 := by
  rw [← h.2.1 i]
  exact h.1 27 i
def exs (f : Nat → Bool) : Nat → Bool
  | 0 => false
  | n + 1 => exs f n || f n
def cm (a b c d : Int) : Int := max 0 (min b d - max a c)

def spEnd (τ : Tau) (a : Int) : Int := if 0 ≤ a ∧ a < τ 0 0 then enO τ a.toNat else -101
def usK (τ : Tau) (h k : Nat) : Bool := decide (0 < τ 8 (2 * h)) || decide (0 < τ 8 (2 * h + 1)) || exs (fun s => decide (τ 13 s = h)) k
theorem usK_s (τ : Tau) (h k : Nat) : usK τ h (k + 1) = (usK τ h k || decide (τ 13 k = h)) := by simp [usK, exs, Bool.or_assoc]
def usO (τ : Tau) (h : Nat) : Bool := usK τ h (τ 12 0).toNat
def spHole (τ : Tau) : Int := if τ 0 0 = 4 then -104 else τ 0 0
def stHole (τ : Tau) : Tau := if ¬ τ 0 0 = 4 then tu τ 0 0 (τ 0 0 + 1) else τ
def spBatch (τ : Tau) : Int := if τ 18 0 = 6 then -104 else τ 18 0
def stBatch (τ : Tau) : Tau := if ¬ τ 18 0 = 6 then tu τ 18 0 (τ 18 0 + 1) else τ
abbrev okRun (τ : Tau) (a u v : Int) : Prop := (0 ≤ a ∧ a < τ 0 0) ∧ (1 ≤ u ∧ u ≤ 1000 ∧ 0 ≤ v ∧ v ≤ u) ∧ ¬ usO τ a.toNat = true ∧ ¬ τ 1 a.toNat = 20
def spRun (τ : Tau) (a u v : Int) : Int := if ¬ (0 ≤ a ∧ a < τ 0 0) then -101 else if ¬ (1 ≤ u ∧ u ≤ 1000 ∧ 0 ≤ v ∧ v ≤ u) then -102 else if usO τ a.toNat = true then -103 else if τ 1 a.toNat = 20 then -104 else enO τ a.toNat + u
def stRun (τ : Tau) (a u v : Int) : Tau := if okRun τ a u v then tu (tu (tu (tu τ 2 (20 * a.toNat + (τ 1 a.toNat).toNat) u) 3 (20 * a.toNat + (τ 1 a.toNat).toNat) v) 1 a.toNat (τ 1 a.toNat + 1)) 27 a.toNat (τ 27 a.toNat + u) else τ

theorem en_tu {τ : Tau} {h : Nat} {u v : Int} (hR : Rng τ) : enO (tu (tu (tu τ 2 (20 * h + (τ 1 h).toNat) u) 3 (20 * h + (τ 1 h).toNat) v) 1 h (τ 1 h + 1)) h = enO τ h + u := by
  have h1 : (0 : Int) ≤ τ 1 h ∧ τ 1 h ≤ 20 := hR 1 h
  unfold enO
  rw [tu_s, show (τ 1 h + 1).toNat = (τ 1 h).toNat + 1 by omega, sm_s]
  rw [tu_n (show 2 ≠ 1 by decide), tu_n (show 2 ≠ 3 by decide), tu_s]
  congr 1
  exact sm_cong (fun k hk => by rw [tu_c, fu_n (by omega)])
theorem tu_27 {τ : Tau} {i : Nat} {v : Int} (c : Nat) (h : c < 27) : τ c = tu τ 27 i v c := (tu_n (by omega)).symm
abbrev doK (τ : Tau) (h k : Nat) : Int := sm (fun j => τ 2 (20 * h + j)) k
theorem do_r {τ : Tau} (hR : Rng τ) (h k : Nat) (hk : k ≤ 20) : 0 ≤ doK τ h k ∧ doK τ h k ≤ 20000 := by
  have h1 := sm_rng (f := fun k => τ 2 (20 * h + k)) (lo := 0) (hi := 1000) (n := k) (fun k _ => hR 2 (20 * h + k))
  have h3 : (k : Int) ≤ 20 := by omega
  have h4 : (k : Int) * 1000 ≤ 20 * 1000 := Int.mul_le_mul_of_nonneg_right h3 (by decide)
  unfold doK
  omega
def rcK (τ : Tau) (h : Nat) (a b : Int) (k : Nat) : Int := sm (fun j => cm a b (doK τ h j) (doK τ h j + τ 3 (20 * h + j))) k
def rcO (τ : Tau) (h : Nat) (a b : Int) : Int := rcK τ h a b (τ 1 h).toNat
theorem cm_r (a b u v : Int) (h : 0 ≤ v - u) : 0 ≤ cm a b u v ∧ cm a b u v ≤ v - u := by unfold cm; omega
theorem rc_r {τ : Tau} (hR : Rng τ) (h : Nat) (a b : Int) : 0 ≤ rcO τ h a b ∧ rcO τ h a b ≤ 20000 := by
  have h1 := sm_rng (f := fun j => cm a b (doK τ h j) (doK τ h j + τ 3 (20 * h + j))) (lo := 0) (hi := 1000) (n := (τ 1 h).toNat) (fun k _ => by
    have h5 : (0 : Int) ≤ τ 3 (20 * h + k) ∧ τ 3 (20 * h + k) ≤ 1000 := hR 3 (20 * h + k)
    have := cm_r a b (doK τ h k) (doK τ h k + τ 3 (20 * h + k)) (by omega)
    omega)
  have h2 : (0 : Int) ≤ τ 1 h ∧ τ 1 h ≤ 20 := hR 1 h
  have h3 : ((τ 1 h).toNat : Int) ≤ 20 := by omega
  have h4 : ((τ 1 h).toNat : Int) * 1000 ≤ 20 * 1000 := Int.mul_le_mul_of_nonneg_right h3 (by decide)
  unfold rcO rcK
  omega
def spRec (τ : Tau) (x a b : Int) : Int := if ¬ (0 ≤ x ∧ x < τ 0 0) then -101 else if 0 ≤ a ∧ a < b ∧ b ≤ enO τ x.toNat then rcO τ x.toNat a b else -102
abbrev okMark (τ : Tau) (a u : Int) : Prop := (0 ≤ a ∧ a < τ 0 0) ∧ (0 ≤ u ∧ u ≤ 100000) ∧ ¬ τ 4 a.toNat = 20
def spMark (τ : Tau) (a u : Int) : Int := if ¬ (0 ≤ a ∧ a < τ 0 0) then -101 else if ¬ (0 ≤ u ∧ u ≤ 100000) then -102 else if τ 4 a.toNat = 20 then -104 else τ 4 a.toNat + 1
def stMark (τ : Tau) (a u : Int) : Tau := if okMark τ a u then tu (tu τ 5 (20 * a.toNat + (τ 4 a.toNat).toNat) u) 4 a.toNat (τ 4 a.toNat + 1) else τ
def cdO (τ : Tau) (g k : Nat) : Int := τ 11 (τ 10 (20 * g + k)).toNat
theorem cd_r {τ : Tau} (hR : Rng τ) (g k : Nat) : 0 ≤ cdO τ g k ∧ cdO τ g k ≤ 9 := hR 11 _
def thO (τ : Tau) (g k : Nat) : Int := τ 9 (20 * g + k) - frO τ g k
theorem th_r {τ : Tau} (hR : Rng τ) (g k : Nat) : -20000 ≤ thO τ g k ∧ thO τ g k ≤ 20000 := by
  have h1 : (0 : Int) ≤ τ 9 (20 * g + k) ∧ τ 9 (20 * g + k) ≤ 20000 := hR 9 _
  have h2 := fr_r hR g k
  unfold thO
  omega
abbrev okCode (a u : Int) : Prop := (0 ≤ a ∧ a ≤ 9) ∧ (0 ≤ u ∧ u ≤ 9)
def spCode (τ : Tau) (a u : Int) : Int := if ¬ (0 ≤ a ∧ a ≤ 9) then -101 else if ¬ (0 ≤ u ∧ u ≤ 9) then -102 else τ 11 a.toNat
def stCode (τ : Tau) (a u : Int) : Tau := if okCode a u then tu τ 11 a.toNat u else τ
abbrev okLayer (τ : Tau) (a b u v : Int) : Prop := ((0 ≤ a ∧ a < τ 0 0) ∧ (0 ≤ b ∧ b ≤ 1)) ∧ (frO τ (2 * a.toNat + b.toNat) (τ 8 (2 * a.toNat + b.toNat)).toNat < u ∧ u ≤ enO τ a.toNat ∧ (0 ≤ v ∧ v ≤ 9)) ∧ ¬ τ 8 (2 * a.toNat + b.toNat) = 20
def spLayer (τ : Tau) (a b u v : Int) : Int := if ¬ ((0 ≤ a ∧ a < τ 0 0) ∧ (0 ≤ b ∧ b ≤ 1)) then -101 else if ¬ (frO τ (2 * a.toNat + b.toNat) (τ 8 (2 * a.toNat + b.toNat)).toNat < u ∧ u ≤ enO τ a.toNat ∧ (0 ≤ v ∧ v ≤ 9)) then -102 else if τ 8 (2 * a.toNat + b.toNat) = 20 then -104 else τ 8 (2 * a.toNat + b.toNat) + 1
def stLayer (τ : Tau) (a b u v : Int) : Tau := if okLayer τ a b u v then tu (tu (tu τ 9 (20 * (2 * a.toNat + b.toNat) + (τ 8 (2 * a.toNat + b.toNat)).toNat) u) 10 (20 * (2 * a.toNat + b.toNat) + (τ 8 (2 * a.toNat + b.toNat)).toNat) v) 8 (2 * a.toNat + b.toNat) (τ 8 (2 * a.toNat + b.toNat) + 1) else τ
/-- the first place below n, or -1 -/
def ff (f : Nat → Bool) : Nat → Int
  | 0 => -1
  | n + 1 => if 0 ≤ ff f n then ff f n else if f n then n else -1
theorem ff_no {f : Nat → Bool} : ∀ {n : Nat}, (∀ j, j < n → f j = false) → ff f n = -1
  | 0, _ => rfl
  | n + 1, h => by
    show (if 0 ≤ ff f n then ff f n else if f n then (n : Int) else -1) = -1
    rw [ff_no (fun j hj => h j (Nat.lt_succ_of_lt hj)), if_neg (by decide), h n (Nat.lt_succ_self n)]
    rfl
theorem ff_at {f : Nat → Bool} {k : Nat} (h : ∀ j, j < k → f j = false) (hk : f k = true) : ∀ {n : Nat}, k < n → ff f n = k
  | 0, q => absurd q (Nat.not_lt_zero k)
  | n + 1, q => by
    show (if 0 ≤ ff f n then ff f n else if f n then (n : Int) else -1) = k
    rcases Nat.lt_or_ge k n with q2 | q2
    · rw [ff_at h hk q2, if_pos (by omega)]
    · have e : k = n := by omega
      subst e
      rw [ff_no h, if_neg (by decide), hk]
      rfl
theorem ff_r (f : Nat → Bool) : ∀ n : Nat, -1 ≤ ff f n ∧ ff f n < n ∨ n = 0 ∧ ff f n = -1
  | 0 => Or.inr ⟨rfl, rfl⟩
  | n + 1 => by
    have ih := ff_r f n
    show -1 ≤ (if 0 ≤ ff f n then ff f n else if f n then (n : Int) else -1) ∧ (if 0 ≤ ff f n then ff f n else if f n then (n : Int) else -1) < ((n + 1 : Nat) : Int) ∨ _
    left
    split
    · omega
    · split <;> omega
theorem fl_s {f : Nat → Bool} {k : Nat} (h : ∀ j, j < k → f j = false) (hk : f k = false) : ∀ j, j < k + 1 → f j = false := fun j hj => by
  rcases Nat.lt_or_ge j k with q | q
  · exact h j q
  · have e : j = k := by omega
    rw [e]
    exact hk
theorem fl_0 {f : Nat → Bool} : ∀ j, j < 0 → f j = false := fun j hj => absurd hj (Nat.not_lt_zero j)
def rkB (τ : Tau) (g : Nat) (x : Int) (k : Nat) : Bool := decide (frO τ g k ≤ x ∧ x < τ 9 (20 * g + k))
def rkI (τ : Tau) (g : Nat) (x : Int) : Int := ff (rkB τ g x) (τ 8 g).toNat
def spRock (τ : Tau) (a b x : Int) : Int := if ¬ ((0 ≤ a ∧ a < τ 0 0) ∧ (0 ≤ b ∧ b ≤ 1)) then -101 else if rkI τ (2 * a.toNat + b.toNat) x = -1 then -1 else cdO τ (2 * a.toNat + b.toNat) (rkI τ (2 * a.toNat + b.toNat) x).toNat
/-- the units in which two layers agree -/
def agU (τ : Tau) (h i j : Nat) : Int := if cdO τ (2 * h) i = cdO τ (2 * h + 1) j then cm (frO τ (2 * h) i) (τ 9 (20 * (2 * h) + i)) (frO τ (2 * h + 1) j) (τ 9 (20 * (2 * h + 1) + j)) else 0
theorem ag_t {τ : Tau} {h i j : Nat} (q : cdO τ (2 * h) i = cdO τ (2 * h + 1) j) : agU τ h i j = cm (frO τ (2 * h) i) (τ 9 (20 * (2 * h) + i)) (frO τ (2 * h + 1) j) (τ 9 (20 * (2 * h + 1) + j)) := if_pos q
theorem ag_f {τ : Tau} {h i j : Nat} (q : ¬ cdO τ (2 * h) i = cdO τ (2 * h + 1) j) : agU τ h i j = 0 := if_neg q
def agO (τ : Tau) (h : Nat) : Int := sm (fun i => sm (fun j => agU τ h i j) (τ 8 (2 * h + 1)).toNat) (τ 8 (2 * h)).toNat
def spAgree (τ : Tau) (a : Int) : Int := if ¬ (0 ≤ a ∧ a < τ 0 0) then -101 else agO τ a.toNat
end
section
set_option maxHeartbeats 4000000 in
set_option maxRecDepth 100000 in
theorem c8_in (l : Launch) (a : Int) (h_a : I64 a) (b : Int) (h_b : I64 b) (u : Int) (h_u : I64 u)  : Met l yX8_in wsX8_in { frames := 0, cells := 0, slots := 0, locals := 0 } (sPc [.long (lL (a)), .long (lL (b)), .long (lL (u))]) (rS (bI (b ≤ a ∧ a ≤ u))) 0 0 NoA := by
  refine s_start (by decide) rfl (Nat.le_of_ble_eq_true rfl) ?_
  intro p e s m below meth c hx hb hr hlocks hml hts hown ls hl
  have hl : lv_has ls 6 [(0, .long (lL (a))), (2, .long (lL (b))), (4, .long (lL (u)))] := hl
  refine lv_lload_n hx hb dX8_in_0 rfl (lv_at hl 0 rfl) ?_
  refine lv_lload_n hx hb dX8_in_1 rfl (lv_at hl 1 rfl) ?_
  refine z_lcmp hx hb (by omega) (by omega) dX8_in_2 ?_
  refine z_if_lt (tgt := 17) hx hb (by have := cmpI_r a b; omega) dX8_in_3 (by decide) (fun c1 => ?_) (fun c1 => ?_)
  · rw [cmpI_lt] at c1
    refine z_iconst hx hb dX8_in_17 ?_
    exact s_zret hx hb hr hlocks ((bI_f (by omega)).symm) dX8_in_18
  · rw [cmpI_lt] at c1
    refine lv_lload_n hx hb dX8_in_6 rfl (lv_at hl 0 rfl) ?_
    refine lv_lload hx hb dX8_in_7 (lv_at hl 2 rfl) ?_
    refine z_lcmp hx hb (by omega) (by omega) dX8_in_9 ?_
    refine z_if_gt (tgt := 17) hx hb (by have := cmpI_r a u; omega) dX8_in_10 (by decide) (fun c2 => ?_) (fun c2 => ?_)
    · rw [cmpI_gt] at c2
      refine z_iconst hx hb dX8_in_17 ?_
      exact s_zret hx hb hr hlocks ((bI_f (by omega)).symm) dX8_in_18
    · rw [cmpI_gt] at c2
      refine z_iconst hx hb dX8_in_13 ?_
      refine lv_goto (tgt := 18) hx hb dX8_in_14 (by decide) ?_
      exact s_zret hx hb hr hlocks ((bI_t (by omega)).symm) dX8_in_18
set_option maxHeartbeats 4000000 in
set_option maxRecDepth 100000 in
theorem c8_isHole (l : Launch) (D : va_G) (cI cZ : ClassId) (ad : Nat → Nat) (τ : Tau) (hI : Rng τ) (a : Int) (h_a : I32 a)  : Met l yX8_isHole wsX8_isHole { frames := 1, cells := 0, slots := 0, locals := 25 } (mPc D cI cZ ad τ [.ref (ad 0), .int (iI (a))]) (rS (bI (0 ≤ a ∧ a < τ 0 0))) 0 0 NoA := by
  refine m_start (by decide) rfl (Nat.le_of_ble_eq_true rfl) ?_
  intro p e s m below meth c hx hb hr hlocks hml hts hown hW hK ls hl
  have hin8 : ∀ w ∈ wsX80, w ∈ wsX8_isHole := by decide +kernel
  have hl : lv_has ls 2 [(0, .ref (ad 0)), (1, .int (iI (a)))] := hl
  refine lv_iload_n hx hb dX8_isHole_0 rfl (lv_at hl 1 rfl) ?_
  refine z_i2l hx hb (by omega) dX8_isHole_1 ?_
  refine z_lconst (n := 0) hx hb (by decide) dX8_isHole_2 ?_
  refine lv_aload_n hx hb dX8_isHole_3 rfl (lv_at hl 0 rfl) ?_
  refine m_get hx hb hts hin8 hown hK hW 0 (by decide) (hts _ (by decide +kernel)) (v := .int (iI (τ 0 0))) rfl dX8_isHole_4 ?_
  have r1 : (0 : Int) ≤ τ 0 0 ∧ τ 0 0 ≤ 4 := hI 0 0
  refine z_iconst hx hb dX8_isHole_7 ?_
  refine z_isub hx hb dX8_isHole_8 ?_
  refine z_i2l hx hb (by omega) dX8_isHole_9 ?_
  refine s_call (n := 3) (As := [.long (lL (a)), .long (lL (0)), .long (lL ((τ 0 0) - 1))]) (rest := []) hx hb hml hts hown (c8_in l a (by omega) 0 (by omega) ((τ 0 0) - 1) (by omega)) gX8_isHole_X8_in rfl rfl rfl (by decide +kernel) ⟨by decide, by decide⟩ rfl hl.1 rfl (Nat.le_of_ble_eq_true rfl) ⟨Nat.zero_le _, Nat.zero_le _⟩ dX8_isHole_10 ?_
  exact s_zret hx hb hr hlocks (bI_c (by omega)) dX8_isHole_13
set_option maxHeartbeats 4000000 in
set_option maxRecDepth 100000 in
theorem c8_endOf (l : Launch) (D : va_G) (cI cZ : ClassId) (ad : Nat → Nat) (τ : Tau) (hI : Rng τ) (h : Nat) (zh : Int) (hzh : zh = (h : Int)) (h0 : h < 4) : Met l yX8_endOf wsX8_endOf { frames := 0, cells := 0, slots := 0, locals := 0 } (mPc D cI cZ ad τ [.ref (ad 0), .int (iI zh)]) (rS (enO τ h)) 0 0 NoA := by
  subst hzh
  refine m_start (by decide) rfl (Nat.le_of_ble_eq_true rfl) ?_
  intro p e s m below meth c hx hb hr hlocks hml hts hown hW hK ls hl
  have hin8 : ∀ w ∈ wsX80, w ∈ wsX8_endOf := by decide +kernel
  have hl : lv_has ls 4 [(0, .ref (ad 0)), (1, .int (iI ((h : Int))))] := hl
  obtain ⟨N, hN⟩ : ∃ N : Nat, τ 1 h = N := ⟨(τ 1 h).toNat, by have : (0 : Int) ≤ τ 1 h ∧ τ 1 h ≤ 20 := hI 1 h; omega⟩
  have hN2 : (τ 1 h).toNat = N := by omega
  have hN3 : N ≤ 20 := by have : (0 : Int) ≤ τ 1 h ∧ τ 1 h ≤ 20 := hI 1 h; omega
  refine z_iconst hx hb dX8_endOf_0 ?_
  refine lv_istore_n (lv' := [(2, .int (iI (0))), (0, .ref (ad 0)), (1, .int (iI ((h : Int))))]) hx hb dX8_endOf_1 rfl hl (by decide) rfl (fun ls hl => ?_)
  refine z_iconst hx hb dX8_endOf_2 ?_
  refine lv_istore_n (lv' := [(3, .int (iI (0))), (2, .int (iI (0))), (0, .ref (ad 0)), (1, .int (iI ((h : Int))))]) hx hb dX8_endOf_3 rfl hl (by decide) rfl (fun ls hl => ?_)
  have lp4 : ∀ (n4 k : Nat) (x2 x3 : Int), x2 = sm (fun k => τ 2 (20 * h + k)) k → x3 = (k : Int) → k ≤ N → N + 1 ≤ k + n4 → ∀ ls : Array Slot, lv_has ls 4 [(2, .int (iI (x2))), (3, .int (iI (x3))), (0, .ref (ad 0)), (1, .int (iI ((h : Int))))] → W p l e { frames := 0, cells := 0, slots := 0, locals := 0 } s m [.ref (ad 0), .int (iI ((h : Int)))].toArray below meth c s.heap [] 0 0 (MQ below (rS (enO τ h)) [.ref (ad 0), .int (iI ((h : Int)))].toArray s 0 0 (NoA)) (F0 m 4 ls []) := by
    intro n4
    induction n4 with
    | zero => intro k x2 x3 ex2 ex3 hk1 hk2; exact absurd hk2 (by omega)
    | succ n4 ih4 =>
      intro k x2 x3 ex2 ex3 hk1 hk2  ls hl
      subst ex2
      subst ex3
      refine lv_iload_n hx hb dX8_endOf_4 rfl (lv_at hl 1 rfl) ?_
      refine lv_aload_n hx hb dX8_endOf_5 rfl (lv_at hl 2 rfl) ?_
      refine m_get hx hb hts hin8 hown hK hW 1 (by decide) (hts _ (by decide +kernel)) (v := .ref (ad 1)) rfl dX8_endOf_6 ?_
      refine lv_iload_n hx hb dX8_endOf_9 rfl (lv_at hl 3 rfl) ?_
      refine m_ald (d := 1) (j := h) hx hb hK hW rfl (by omega) (show h < 4 from by omega) dX8_endOf_10 ?_
      have r1 : (0 : Int) ≤ τ 1 h ∧ τ 1 h ≤ 20 := hI 1 h
      refine z_icmp_ge (tgt := 34) hx hb (by omega) (by omega) dX8_endOf_11 (by decide) (fun c2 => ?_) (fun c2 => ?_)
      · refine lv_iload_n hx hb dX8_endOf_34 rfl (lv_at hl 0 rfl) ?_
        exact s_iret hx hb hr hlocks (by unfold enO; rw [hN2, show N = k by omega]) dX8_endOf_35
      · refine lv_iload_n hx hb dX8_endOf_14 rfl (lv_at hl 0 rfl) ?_
        refine lv_aload_n hx hb dX8_endOf_15 rfl (lv_at hl 2 rfl) ?_
        refine m_get hx hb hts hin8 hown hK hW 2 (by decide) (hts _ (by decide +kernel)) (v := .ref (ad 2)) rfl dX8_endOf_16 ?_
        refine z_bipush hx hb dX8_endOf_19 (by decide) ?_
        refine lv_iload_n hx hb dX8_endOf_21 rfl (lv_at hl 3 rfl) ?_
        refine z_imul hx hb dX8_endOf_22 ?_
        refine lv_iload_n hx hb dX8_endOf_23 rfl (lv_at hl 1 rfl) ?_
        refine z_iadd hx hb dX8_endOf_24 ?_
        refine m_ald (d := 2) (j := (20 * h) + k) hx hb hK hW rfl (by omega) (show (20 * h) + k < 80 from by omega) dX8_endOf_25 ?_
        have r3 : (0 : Int) ≤ τ 2 ((20 * h) + k) ∧ τ 2 ((20 * h) + k) ≤ 1000 := hI 2 ((20 * h) + k)
        refine z_iadd hx hb dX8_endOf_26 ?_
        refine lv_istore_n (lv' := [(2, .int (iI ((sm (fun k => τ 2 (20 * h + k)) k) + (τ 2 ((20 * h) + k))))), (3, .int (iI ((k : Int)))), (0, .ref (ad 0)), (1, .int (iI ((h : Int))))]) hx hb dX8_endOf_27 rfl hl (by decide) rfl (fun ls hl => ?_)
        refine z_iinc (k := 1) (lv' := [(3, .int (iI ((k : Int) + 1))), (2, .int (iI ((sm (fun k => τ 2 (20 * h + k)) k) + (τ 2 ((20 * h) + k))))), (0, .ref (ad 0)), (1, .int (iI ((h : Int))))]) hx hb dX8_endOf_28 hl rfl (by decide) rfl (fun ls hl => ?_)
        refine lv_goto (tgt := 4) hx hb dX8_endOf_31 (by decide) ?_
        exact ih4 (k + 1) ((sm (fun k => τ 2 (20 * h + k)) k) + (τ 2 ((20 * h) + k))) ((k : Int) + 1) rfl (by omega) (by omega) (by omega)  ls (lv_sub hl [1, 0, 2, 3] rfl)
  exact lp4 (N + 1) 0 0 0 rfl (by omega) (by omega) (by omega)  ls (lv_sub hl [1, 0, 2, 3] rfl)
set_option maxHeartbeats 4000000 in
set_option maxRecDepth 100000 in
theorem c8_isStretch (l : Launch) (D : va_G) (cI cZ : ClassId) (ad : Nat → Nat) (τ : Tau) (hI : Rng τ) (h : Nat) (zh : Int) (hzh : zh = (h : Int)) (a : Int) (h_a : I32 a) (b : Int) (h_b : I32 b) (h0 : h < 4) : Met l yX8_isStretch wsX8_isStretch { frames := 1, cells := 0, slots := 0, locals := 23 } (mPc D cI cZ ad τ [.ref (ad 0), .int (iI zh), .int (iI (a)), .int (iI (b))]) (rS (bI (0 ≤ a ∧ a < b ∧ b ≤ enO τ h))) 0 0 NoA := by
  subst hzh
  refine m_start (by decide) rfl (Nat.le_of_ble_eq_true rfl) ?_
  intro p e s m below meth c hx hb hr hlocks hml hts hown hW hK ls hl
  have hin8 : ∀ w ∈ wsX80, w ∈ wsX8_isStretch := by decide +kernel
  have hl : lv_has ls 4 [(0, .ref (ad 0)), (1, .int (iI ((h : Int)))), (2, .int (iI (a))), (3, .int (iI (b)))] := hl
  refine lv_iload_n hx hb dX8_isStretch_0 rfl (lv_at hl 2 rfl) ?_
  refine z_if_lt (tgt := 22) hx hb (by omega) dX8_isStretch_1 (by decide) (fun c1 => ?_) (fun c1 => ?_)
  · refine z_iconst hx hb dX8_isStretch_22 ?_
    exact s_zret hx hb hr hlocks ((bI_f (by omega)).symm) dX8_isStretch_23
  · refine lv_iload_n hx hb dX8_isStretch_4 rfl (lv_at hl 2 rfl) ?_
    refine lv_iload_n hx hb dX8_isStretch_5 rfl (lv_at hl 3 rfl) ?_
    refine z_icmp_ge (tgt := 22) hx hb (by omega) (by omega) dX8_isStretch_6 (by decide) (fun c2 => ?_) (fun c2 => ?_)
    · refine z_iconst hx hb dX8_isStretch_22 ?_
      exact s_zret hx hb hr hlocks ((bI_f (by omega)).symm) dX8_isStretch_23
    · refine lv_iload_n hx hb dX8_isStretch_9 rfl (lv_at hl 3 rfl) ?_
      refine lv_aload_n hx hb dX8_isStretch_10 rfl (lv_at hl 0 rfl) ?_
      refine lv_iload_n hx hb dX8_isStretch_11 rfl (lv_at hl 1 rfl) ?_
      refine m_call (n := 1) (As := [.int (iI ((h : Int)))]) (rest := [.int (iI (b))]) hx hb hml hts hown hK hW (c8_endOf l D cI cZ ad τ hI h (h : Int) (by omega) (by omega)) gX8_isStretch_X8_endOf rfl rfl rfl (by decide +kernel) ⟨by decide, by decide⟩ rfl hl.1 rfl (Nat.le_of_ble_eq_true rfl) ⟨Nat.zero_le _, Nat.zero_le _⟩ dX8_isStretch_12 ?_
      have r3 := en_r hI h
      refine z_icmp_gt (tgt := 22) hx hb (by omega) (by omega) dX8_isStretch_15 (by decide) (fun c4 => ?_) (fun c4 => ?_)
      · refine z_iconst hx hb dX8_isStretch_22 ?_
        exact s_zret hx hb hr hlocks ((bI_f (by omega)).symm) dX8_isStretch_23
      · refine z_iconst hx hb dX8_isStretch_18 ?_
        refine lv_goto (tgt := 23) hx hb dX8_isStretch_19 (by decide) ?_
        exact s_zret hx hb hr hlocks ((bI_t (by omega)).symm) dX8_isStretch_23
set_option maxHeartbeats 4000000 in
set_option maxRecDepth 100000 in
theorem c8_common (l : Launch) (a : Int) (h_a : I32 a) (b : Int) (h_b : I32 b) (u : Int) (h_u : I32 u) (v : Int) (h_v : I32 v) (hc : b - a ≤ 2147483647 ∧ v - u ≤ 2147483647) : Met l yX8_common wsX8_common { frames := 0, cells := 0, slots := 0, locals := 0 } (sPc [.int (iI (a)), .int (iI (b)), .int (iI (u)), .int (iI (v))]) (rS (cm a b u v)) 0 0 NoA := by
  refine s_start (by decide) rfl (Nat.le_of_ble_eq_true rfl) ?_
  intro p e s m below meth c hx hb hr hlocks hml hts hown ls hl
  have hl : lv_has ls 6 [(0, .int (iI (a))), (1, .int (iI (b))), (2, .int (iI (u))), (3, .int (iI (v)))] := hl
  refine lv_iload_n hx hb dX8_common_0 rfl (lv_at hl 0 rfl) ?_
  refine lv_iload_n hx hb dX8_common_1 rfl (lv_at hl 2 rfl) ?_
  refine z_icmp_le (tgt := 9) hx hb (by omega) (by omega) dX8_common_2 (by decide) (fun c1 => ?_) (fun c1 => ?_)
  · refine lv_iload_n hx hb dX8_common_9 rfl (lv_at hl 2 rfl) ?_
    refine lv_istore (lv' := [(4, .int (iI (u))), (0, .int (iI (a))), (1, .int (iI (b))), (2, .int (iI (u))), (3, .int (iI (v)))]) hx hb dX8_common_10 hl (by decide) rfl (fun ls hl => ?_)
    refine lv_iload_n hx hb dX8_common_12 rfl (lv_at hl 2 rfl) ?_
    refine lv_iload_n hx hb dX8_common_13 rfl (lv_at hl 4 rfl) ?_
    refine z_icmp_ge (tgt := 21) hx hb (by omega) (by omega) dX8_common_14 (by decide) (fun c2 => ?_) (fun c2 => ?_)
    · refine lv_iload_n hx hb dX8_common_21 rfl (lv_at hl 4 rfl) ?_
      refine lv_istore (lv' := [(5, .int (iI (v))), (4, .int (iI (u))), (0, .int (iI (a))), (1, .int (iI (b))), (2, .int (iI (u))), (3, .int (iI (v)))]) hx hb dX8_common_22 hl (by decide) rfl (fun ls hl => ?_)
      refine lv_iload hx hb dX8_common_24 (lv_at hl 0 rfl) ?_
      refine lv_iload hx hb dX8_common_26 (lv_at hl 1 rfl) ?_
      refine z_icmp_le (tgt := 39) hx hb (by omega) (by omega) dX8_common_28 (by decide) (fun c3 => ?_) (fun c3 => ?_)
      · refine z_iconst hx hb dX8_common_39 ?_
        exact s_iret hx hb hr hlocks (by unfold cm; omega) dX8_common_40
      · refine lv_iload hx hb dX8_common_31 (lv_at hl 0 rfl) ?_
        refine lv_iload hx hb dX8_common_33 (lv_at hl 1 rfl) ?_
        refine z_isub hx hb dX8_common_35 ?_
        refine lv_goto (tgt := 40) hx hb dX8_common_36 (by decide) ?_
        exact s_iret hx hb hr hlocks (by unfold cm; omega) dX8_common_40
    · refine lv_iload_n hx hb dX8_common_17 rfl (lv_at hl 2 rfl) ?_
      refine lv_goto (tgt := 22) hx hb dX8_common_18 (by decide) ?_
      refine lv_istore (lv' := [(5, .int (iI (b))), (4, .int (iI (u))), (0, .int (iI (a))), (1, .int (iI (b))), (2, .int (iI (u))), (3, .int (iI (v)))]) hx hb dX8_common_22 hl (by decide) rfl (fun ls hl => ?_)
      refine lv_iload hx hb dX8_common_24 (lv_at hl 0 rfl) ?_
      refine lv_iload hx hb dX8_common_26 (lv_at hl 1 rfl) ?_
      refine z_icmp_le (tgt := 39) hx hb (by omega) (by omega) dX8_common_28 (by decide) (fun c4 => ?_) (fun c4 => ?_)
      · refine z_iconst hx hb dX8_common_39 ?_
        exact s_iret hx hb hr hlocks (by unfold cm; omega) dX8_common_40
      · refine lv_iload hx hb dX8_common_31 (lv_at hl 0 rfl) ?_
        refine lv_iload hx hb dX8_common_33 (lv_at hl 1 rfl) ?_
        refine z_isub hx hb dX8_common_35 ?_
        refine lv_goto (tgt := 40) hx hb dX8_common_36 (by decide) ?_
        exact s_iret hx hb hr hlocks (by unfold cm; omega) dX8_common_40
  · refine lv_iload_n hx hb dX8_common_5 rfl (lv_at hl 0 rfl) ?_
    refine lv_goto (tgt := 10) hx hb dX8_common_6 (by decide) ?_
    refine lv_istore (lv' := [(4, .int (iI (a))), (0, .int (iI (a))), (1, .int (iI (b))), (2, .int (iI (u))), (3, .int (iI (v)))]) hx hb dX8_common_10 hl (by decide) rfl (fun ls hl => ?_)
    refine lv_iload_n hx hb dX8_common_12 rfl (lv_at hl 2 rfl) ?_
    refine lv_iload_n hx hb dX8_common_13 rfl (lv_at hl 4 rfl) ?_
    refine z_icmp_ge (tgt := 21) hx hb (by omega) (by omega) dX8_common_14 (by decide) (fun c5 => ?_) (fun c5 => ?_)
    · refine lv_iload_n hx hb dX8_common_21 rfl (lv_at hl 4 rfl) ?_
      refine lv_istore (lv' := [(5, .int (iI (v))), (4, .int (iI (a))), (0, .int (iI (a))), (1, .int (iI (b))), (2, .int (iI (u))), (3, .int (iI (v)))]) hx hb dX8_common_22 hl (by decide) rfl (fun ls hl => ?_)
      refine lv_iload hx hb dX8_common_24 (lv_at hl 0 rfl) ?_
      refine lv_iload hx hb dX8_common_26 (lv_at hl 1 rfl) ?_
      refine z_icmp_le (tgt := 39) hx hb (by omega) (by omega) dX8_common_28 (by decide) (fun c6 => ?_) (fun c6 => ?_)
      · refine z_iconst hx hb dX8_common_39 ?_
        exact s_iret hx hb hr hlocks (by unfold cm; omega) dX8_common_40
      · refine lv_iload hx hb dX8_common_31 (lv_at hl 0 rfl) ?_
        refine lv_iload hx hb dX8_common_33 (lv_at hl 1 rfl) ?_
        refine z_isub hx hb dX8_common_35 ?_
        refine lv_goto (tgt := 40) hx hb dX8_common_36 (by decide) ?_
        exact s_iret hx hb hr hlocks (by unfold cm; omega) dX8_common_40
    · refine lv_iload_n hx hb dX8_common_17 rfl (lv_at hl 2 rfl) ?_
      refine lv_goto (tgt := 22) hx hb dX8_common_18 (by decide) ?_
      refine lv_istore (lv' := [(5, .int (iI (b))), (4, .int (iI (a))), (0, .int (iI (a))), (1, .int (iI (b))), (2, .int (iI (u))), (3, .int (iI (v)))]) hx hb dX8_common_22 hl (by decide) rfl (fun ls hl => ?_)
      refine lv_iload hx hb dX8_common_24 (lv_at hl 0 rfl) ?_
      refine lv_iload hx hb dX8_common_26 (lv_at hl 1 rfl) ?_
      refine z_icmp_le (tgt := 39) hx hb (by omega) (by omega) dX8_common_28 (by decide) (fun c7 => ?_) (fun c7 => ?_)
      · refine z_iconst hx hb dX8_common_39 ?_
        exact s_iret hx hb hr hlocks (by unfold cm; omega) dX8_common_40
      · refine lv_iload hx hb dX8_common_31 (lv_at hl 0 rfl) ?_
        refine lv_iload hx hb dX8_common_33 (lv_at hl 1 rfl) ?_
        refine z_isub hx hb dX8_common_35 ?_
        refine lv_goto (tgt := 40) hx hb dX8_common_36 (by decide) ?_
        exact s_iret hx hb hr hlocks (by unfold cm; omega) dX8_common_40
set_option maxHeartbeats 4000000 in
set_option maxRecDepth 100000 in
theorem c8_end (l : Launch) (D : va_G) (cI cZ : ClassId) (ad : Nat → Nat) (τ : Tau) (hI : Rng τ) (a : Int) (h_a : I32 a)  : Met l yX8_end wsX8_end { frames := 2, cells := 0, slots := 0, locals := 46 } (mPc D cI cZ ad τ [.ref (ad 0), .int (iI (a))]) (rS (spEnd τ a)) 0 0 NoA := by
  refine m_start (by decide) rfl (Nat.le_of_ble_eq_true rfl) ?_
  intro p e s m below meth c hx hb hr hlocks hml hts hown hW hK ls hl
  have hin8 : ∀ w ∈ wsX80, w ∈ wsX8_end := by decide +kernel
  have hl : lv_has ls 2 [(0, .ref (ad 0)), (1, .int (iI (a)))] := hl
  refine lv_aload_n hx hb dX8_end_0 rfl (lv_at hl 0 rfl) ?_
  refine lv_iload_n hx hb dX8_end_1 rfl (lv_at hl 1 rfl) ?_
  refine m_call (n := 1) (As := [.int (iI (a))]) (rest := []) hx hb hml hts hown hK hW (c8_isHole l D cI cZ ad τ hI a (by omega)) gX8_end_X8_isHole rfl rfl rfl (by decide +kernel) ⟨by decide, by decide⟩ rfl hl.1 rfl (Nat.le_of_ble_eq_true rfl) ⟨Nat.zero_le _, Nat.zero_le _⟩ dX8_end_2 ?_
  have r1 := (show (0 : Int) ≤ τ 0 0 ∧ τ 0 0 ≤ 4 from hI 0 0)
  refine z_if_eqB (tgt := 16) hx hb dX8_end_5 (by decide) (fun c2 => ?_) (fun c2 => ?_)
  · refine z_bipush hx hb dX8_end_16 (by decide) ?_
    exact s_iret hx hb hr hlocks (by unfold spEnd; (first | rw [if_pos (by omega)] | rw [if_neg (by omega)])) dX8_end_18
  · refine lv_aload_n hx hb dX8_end_8 rfl (lv_at hl 0 rfl) ?_
    refine lv_iload_n hx hb dX8_end_9 rfl (lv_at hl 1 rfl) ?_
    refine m_call (n := 1) (As := [.int (iI (a))]) (rest := []) hx hb hml hts hown hK hW (c8_endOf l D cI cZ ad τ hI a.toNat a (by omega) (by omega)) gX8_end_X8_endOf rfl rfl rfl (by decide +kernel) ⟨by decide, by decide⟩ rfl hl.1 rfl (Nat.le_of_ble_eq_true rfl) ⟨Nat.zero_le _, Nat.zero_le _⟩ dX8_end_10 ?_
    have r3 := en_r hI a.toNat
    refine lv_goto (tgt := 18) hx hb dX8_end_13 (by decide) ?_
    exact s_iret hx hb hr hlocks (by unfold spEnd; (first | rw [if_pos (by omega)] | rw [if_neg (by omega)])) dX8_end_18
set_option maxHeartbeats 4000000 in
set_option maxRecDepth 100000 in
theorem c8_isUsed (l : Launch) (D : va_G) (cI cZ : ClassId) (ad : Nat → Nat) (τ : Tau) (hI : Rng τ) (h : Nat) (zh : Int) (hzh : zh = (h : Int)) (h0 : h < 4) : Met l yX8_isUsed wsX8_isUsed { frames := 0, cells := 0, slots := 0, locals := 0 } (mPc D cI cZ ad τ [.ref (ad 0), .int (iI zh)]) (rS (bI (usO τ h = true))) 0 0 NoA := by
  subst hzh
  refine m_start (by decide) rfl (Nat.le_of_ble_eq_true rfl) ?_
  intro p e s m below meth c hx hb hr hlocks hml hts hown hW hK ls hl
  have hin8 : ∀ w ∈ wsX80, w ∈ wsX8_isUsed := by decide +kernel
  have hl : lv_has ls 4 [(0, .ref (ad 0)), (1, .int (iI ((h : Int))))] := hl
  obtain ⟨N, hN⟩ : ∃ N : Nat, τ 12 0 = N := ⟨(τ 12 0).toNat, by have : (0 : Int) ≤ τ 12 0 ∧ τ 12 0 ≤ 30 := hI 12 0; omega⟩
  have hN2 : (τ 12 0).toNat = N := by omega
  have hN3 : N ≤ 30 := by have : (0 : Int) ≤ τ 12 0 ∧ τ 12 0 ≤ 30 := hI 12 0; omega
  have jn29 : ∀ xj : Int, xj = bI (usK τ h 0 = true) → ∀ ls : Array Slot, lv_has ls 4 [(0, .ref (ad 0)), (1, .int (iI ((h : Int))))] → W p l e { frames := 0, cells := 0, slots := 0, locals := 0 } s m [.ref (ad 0), .int (iI ((h : Int)))].toArray below meth c s.heap [] 0 0 (MQ below (rS (bI (usO τ h = true))) [.ref (ad 0), .int (iI ((h : Int)))].toArray s 0 0 (NoA)) (F0 m 29 ls (.int (iI xj) :: [])) := by
    intro xj ej ls hl
    subst ej
    refine lv_istore_n (lv' := [(2, .int (iI (bI (usK τ h 0 = true)))), (0, .ref (ad 0)), (1, .int (iI ((h : Int))))]) hx hb dX8_isUsed_29 rfl hl (by decide) rfl (fun ls hl => ?_)
    refine z_iconst hx hb dX8_isUsed_30 ?_
    refine lv_istore_n (lv' := [(3, .int (iI (0))), (2, .int (iI (bI (usK τ h 0 = true)))), (0, .ref (ad 0)), (1, .int (iI ((h : Int))))]) hx hb dX8_isUsed_31 rfl hl (by decide) rfl (fun ls hl => ?_)
    have lp32 : ∀ (n32 k : Nat) (x2 x3 : Int), x2 = bI (usK τ h k = true) → x3 = (k : Int) → k ≤ N → N + 1 ≤ k + n32 → ∀ ls : Array Slot, lv_has ls 4 [(2, .int (iI (x2))), (3, .int (iI (x3))), (0, .ref (ad 0)), (1, .int (iI ((h : Int))))] → W p l e { frames := 0, cells := 0, slots := 0, locals := 0 } s m [.ref (ad 0), .int (iI ((h : Int)))].toArray below meth c s.heap [] 0 0 (MQ below (rS (bI (usO τ h = true))) [.ref (ad 0), .int (iI ((h : Int)))].toArray s 0 0 (NoA)) (F0 m 32 ls []) := by
      intro n32
      induction n32 with
      | zero => intro k x2 x3 ex2 ex3 hk1 hk2; exact absurd hk2 (by omega)
      | succ n32 ih32 =>
        intro k x2 x3 ex2 ex3 hk1 hk2  ls hl
        subst ex2
        subst ex3
        refine lv_iload_n hx hb dX8_isUsed_32 rfl (lv_at hl 1 rfl) ?_
        refine lv_aload_n hx hb dX8_isUsed_33 rfl (lv_at hl 2 rfl) ?_
        refine m_get hx hb hts hin8 hown hK hW 12 (by decide) (hts _ (by decide +kernel)) (v := .int (iI (τ 12 0))) rfl dX8_isUsed_34 ?_
        have r1 : (0 : Int) ≤ τ 12 0 ∧ τ 12 0 ≤ 30 := hI 12 0
        refine z_icmp_ge (tgt := 66) hx hb (by omega) (by omega) dX8_isUsed_37 (by decide) (fun c2 => ?_) (fun c2 => ?_)
        · refine lv_iload_n hx hb dX8_isUsed_66 rfl (lv_at hl 0 rfl) ?_
          exact s_zret hx hb hr hlocks (by unfold usO; rw [hN2, show N = k by omega]) dX8_isUsed_67
        · have jn59 : ∀ xj : Int, xj = bI (usK τ h (k + 1) = true) → ∀ ls : Array Slot, lv_has ls 4 [(2, .int (iI (bI (usK τ h k = true)))), (3, .int (iI ((k : Int)))), (0, .ref (ad 0)), (1, .int (iI ((h : Int))))] → W p l e { frames := 0, cells := 0, slots := 0, locals := 0 } s m [.ref (ad 0), .int (iI ((h : Int)))].toArray below meth c s.heap [] 0 0 (MQ below (rS (bI (usO τ h = true))) [.ref (ad 0), .int (iI ((h : Int)))].toArray s 0 0 (NoA)) (F0 m 59 ls (.int (iI xj) :: [])) := by
            intro xj ej ls hl
            subst ej
            refine lv_istore_n (lv' := [(2, .int (iI (bI (usK τ h (k + 1) = true)))), (3, .int (iI ((k : Int)))), (0, .ref (ad 0)), (1, .int (iI ((h : Int))))]) hx hb dX8_isUsed_59 rfl hl (by decide) rfl (fun ls hl => ?_)
            refine z_iinc (k := 1) (lv' := [(3, .int (iI ((k : Int) + 1))), (2, .int (iI (bI (usK τ h (k + 1) = true)))), (0, .ref (ad 0)), (1, .int (iI ((h : Int))))]) hx hb dX8_isUsed_60 hl rfl (by decide) rfl (fun ls hl => ?_)
            refine lv_goto (tgt := 32) hx hb dX8_isUsed_63 (by decide) ?_
            exact ih32 (k + 1) (bI (usK τ h (k + 1) = true)) ((k : Int) + 1) rfl (by omega) (by omega) (by omega)  ls (lv_sub hl [1, 0, 2, 3] rfl)
          refine lv_iload_n hx hb dX8_isUsed_40 rfl (lv_at hl 0 rfl) ?_
          refine z_if_neB (tgt := 54) hx hb dX8_isUsed_41 (by decide) (fun c3 => ?_) (fun c3 => ?_)
          · refine z_iconst hx hb dX8_isUsed_54 ?_
            refine lv_goto (tgt := 59) hx hb dX8_isUsed_55 (by decide) ?_
            exact jn59 1 (by first | rw [bI_t (by rw [usK_s, c3]; rfl)] | rw [bI_t (by rw [usK_s]; simp [c3])]) ls (lv_sub hl [0, 1, 2, 3] rfl)
          · refine lv_aload_n hx hb dX8_isUsed_44 rfl (lv_at hl 2 rfl) ?_
            refine m_get hx hb hts hin8 hown hK hW 13 (by decide) (hts _ (by decide +kernel)) (v := .ref (ad 13)) rfl dX8_isUsed_45 ?_
            refine lv_iload_n hx hb dX8_isUsed_48 rfl (lv_at hl 1 rfl) ?_
            refine m_ald (d := 13) (j := k) hx hb hK hW rfl (by omega) (show k < 30 from by omega) dX8_isUsed_49 ?_
            have r4 : (0 : Int) ≤ τ 13 k ∧ τ 13 k ≤ 3 := hI 13 k
            refine lv_iload_n hx hb dX8_isUsed_50 rfl (lv_at hl 3 rfl) ?_
            refine z_icmp_ne (tgt := 58) hx hb (by omega) (by omega) dX8_isUsed_51 (by decide) (fun c5 => ?_) (fun c5 => ?_)
            · refine z_iconst hx hb dX8_isUsed_58 ?_
              exact jn59 0 (by rw [bI_f (by rw [usK_s]; simp [c5, c3])]) ls (lv_sub hl [0, 1, 2, 3] rfl)
            · refine z_iconst hx hb dX8_isUsed_54 ?_
              refine lv_goto (tgt := 59) hx hb dX8_isUsed_55 (by decide) ?_
              exact jn59 1 (by first | rw [bI_t (by rw [usK_s, c5]; rfl)] | rw [bI_t (by rw [usK_s]; simp [c5])]) ls (lv_sub hl [0, 1, 2, 3] rfl)
    exact lp32 (N + 1) 0 (bI (usK τ h 0 = true)) 0 rfl (by omega) (by omega) (by omega)  ls (lv_sub hl [1, 0, 2, 3] rfl)
  refine lv_aload_n hx hb dX8_isUsed_0 rfl (lv_at hl 0 rfl) ?_
  refine m_get hx hb hts hin8 hown hK hW 8 (by decide) (hts _ (by decide +kernel)) (v := .ref (ad 8)) rfl dX8_isUsed_1 ?_
  refine z_iconst hx hb dX8_isUsed_4 ?_
  refine lv_iload_n hx hb dX8_isUsed_5 rfl (lv_at hl 1 rfl) ?_
  refine z_imul hx hb dX8_isUsed_6 ?_
  refine m_ald (d := 8) (j := 2 * h) hx hb hK hW rfl (by omega) (show 2 * h < 8 from by omega) dX8_isUsed_7 ?_
  have r6 : (0 : Int) ≤ τ 8 (2 * h) ∧ τ 8 (2 * h) ≤ 20 := hI 8 (2 * h)
  refine z_if_gt (tgt := 24) hx hb (by omega) dX8_isUsed_8 (by decide) (fun c7 => ?_) (fun c7 => ?_)
  · refine z_iconst hx hb dX8_isUsed_24 ?_
    refine lv_goto (tgt := 29) hx hb dX8_isUsed_25 (by decide) ?_
    exact jn29 1 (bI_t (by simp [usK, exs]; omega)).symm ls (lv_sub hl [0, 1] rfl)
  · refine lv_aload_n hx hb dX8_isUsed_11 rfl (lv_at hl 0 rfl) ?_
    refine m_get hx hb hts hin8 hown hK hW 8 (by decide) (hts _ (by decide +kernel)) (v := .ref (ad 8)) rfl dX8_isUsed_12 ?_
    refine z_iconst hx hb dX8_isUsed_15 ?_
    refine lv_iload_n hx hb dX8_isUsed_16 rfl (lv_at hl 1 rfl) ?_
    refine z_imul hx hb dX8_isUsed_17 ?_
    refine z_iconst hx hb dX8_isUsed_18 ?_
    refine z_iadd hx hb dX8_isUsed_19 ?_
    refine m_ald (d := 8) (j := (2 * h) + 1) hx hb hK hW rfl (by omega) (show (2 * h) + 1 < 8 from by omega) dX8_isUsed_20 ?_
    have r8 : (0 : Int) ≤ τ 8 ((2 * h) + 1) ∧ τ 8 ((2 * h) + 1) ≤ 20 := hI 8 ((2 * h) + 1)
    refine z_if_le (tgt := 28) hx hb (by omega) dX8_isUsed_21 (by decide) (fun c9 => ?_) (fun c9 => ?_)
    · refine z_iconst hx hb dX8_isUsed_28 ?_
      exact jn29 0 (bI_f (by simp [usK, exs]; omega)).symm ls (lv_sub hl [0, 1] rfl)
    · refine z_iconst hx hb dX8_isUsed_24 ?_
      refine lv_goto (tgt := 29) hx hb dX8_isUsed_25 (by decide) ?_
      exact jn29 1 (bI_t (by simp [usK, exs]; omega)).symm ls (lv_sub hl [0, 1] rfl)
end
section
set_option maxHeartbeats 4000000 in
set_option maxRecDepth 100000 in
theorem c8_hole (l : Launch) (D : va_G) (cI cZ : ClassId) (ad : Nat → Nat) (τ : Tau) (hI : Rng τ)   : Met l yX8_hole wsX8_hole { frames := 0, cells := 0, slots := 0, locals := 0 } (mPc D cI cZ ad τ [.ref (ad 0)]) (mQ D cI cZ ad (some (.int (iI (spHole τ)))) (stHole τ)) 0 0 (MA ad) := by
  refine m_start (by decide) rfl (Nat.le_of_ble_eq_true rfl) ?_
  intro p e s m below meth c hx hb hr hlocks hml hts hown hW hK ls hl
  have hin8 : ∀ w ∈ wsX80, w ∈ wsX8_hole := by decide +kernel
  have hS : va_S (MA ad) s.heap s.heap [] := va_S.rf
  have hz : s.heap.size = s.heap.size := rfl
  have hR : Rng τ := hI
  have hl : lv_has ls 1 [(0, .ref (ad 0))] := hl
  refine lv_aload_n hx hb dX8_hole_0 rfl (lv_at hl 0 rfl) ?_
  refine m_get hx hb hts hin8 hown hK hW 0 (by decide) (hts _ (by decide +kernel)) (v := .int (iI (τ 0 0))) rfl dX8_hole_1 ?_
  have r1 : (0 : Int) ≤ τ 0 0 ∧ τ 0 0 ≤ 4 := hI 0 0
  refine z_iconst hx hb dX8_hole_4 ?_
  refine z_icmp_ne (tgt := 11) hx hb (by omega) (by omega) dX8_hole_5 (by decide) (fun c2 => ?_) (fun c2 => ?_)
  · refine lv_aload_n hx hb dX8_hole_11 rfl (lv_at hl 0 rfl) ?_
    refine lv_dup hx hb dX8_hole_12 rfl ?_
    refine m_get hx hb hts hin8 hown hK hW 0 (by decide) (hts _ (by decide +kernel)) (v := .int (iI (τ 0 0))) rfl dX8_hole_13 ?_
    refine z_iconst hx hb dX8_hole_16 ?_
    refine z_iadd hx hb dX8_hole_17 ?_
    refine m_put (v := (τ 0 0) + 1) hx hb hts hin8 hown hK hW hS hz 0 (by decide) (by decide) (hts _ (by decide +kernel)) rfl (by decide +kernel) rfl dX8_hole_18 (fun H locs hW hS hz => ?_)
    have hR := Rng.tu (c := 0) (i := 0) (v := (τ 0 0) + 1) hR (show (0 : Int) ≤ (τ 0 0) + 1 from by omega) (show (τ 0 0) + 1 ≤ 4 from by omega)
    refine lv_aload_n hx hb dX8_hole_21 rfl (lv_at hl 0 rfl) ?_
    refine m_get hx hb hts hin8 hown hK hW 0 (by decide) (hts _ (by decide +kernel)) (v := .int (iI ((tu τ 0 0 ((τ 0 0) + 1)) 0 0))) rfl dX8_hole_22 ?_
    refine z_top (show (tu τ 0 0 ((τ 0 0) + 1)) 0 0 = (τ 0 0) + 1 from by rw [tu_s]) ?_
    refine z_iconst hx hb dX8_hole_25 ?_
    refine z_isub hx hb dX8_hole_26 ?_
    exact m_iret hx hb hr hlocks (by unfold stHole; rw [if_pos (by omega)]; exact hW) hS hz (by unfold spHole; rw [if_neg (by omega)]; omega) dX8_hole_27
  · refine z_bipush hx hb dX8_hole_8 (by decide) ?_
    exact m_iret hx hb hr hlocks (by unfold stHole; rw [if_neg (by omega)]; exact hW) hS hz (by unfold spHole; repeat (first | rw [if_pos (by first | assumption | omega)] | rw [if_neg (by first | assumption | omega)]) <;> omega) dX8_hole_10
set_option maxHeartbeats 4000000 in
set_option maxRecDepth 100000 in
theorem c8_batch (l : Launch) (D : va_G) (cI cZ : ClassId) (ad : Nat → Nat) (τ : Tau) (hI : Rng τ)   : Met l yX8_batch wsX8_batch { frames := 0, cells := 0, slots := 0, locals := 0 } (mPc D cI cZ ad τ [.ref (ad 0)]) (mQ D cI cZ ad (some (.int (iI (spBatch τ)))) (stBatch τ)) 0 0 (MA ad) := by
  refine m_start (by decide) rfl (Nat.le_of_ble_eq_true rfl) ?_
  intro p e s m below meth c hx hb hr hlocks hml hts hown hW hK ls hl
  have hin8 : ∀ w ∈ wsX80, w ∈ wsX8_batch := by decide +kernel
  have hS : va_S (MA ad) s.heap s.heap [] := va_S.rf
  have hz : s.heap.size = s.heap.size := rfl
  have hR : Rng τ := hI
  have hl : lv_has ls 1 [(0, .ref (ad 0))] := hl
  refine lv_aload_n hx hb dX8_batch_0 rfl (lv_at hl 0 rfl) ?_
  refine m_get hx hb hts hin8 hown hK hW 18 (by decide) (hts _ (by decide +kernel)) (v := .int (iI (τ 18 0))) rfl dX8_batch_1 ?_
  have r1 : (0 : Int) ≤ τ 18 0 ∧ τ 18 0 ≤ 6 := hI 18 0
  refine z_bipush hx hb dX8_batch_4 (by decide) ?_
  refine z_icmp_ne (tgt := 12) hx hb (by omega) (by omega) dX8_batch_6 (by decide) (fun c2 => ?_) (fun c2 => ?_)
  · refine lv_aload_n hx hb dX8_batch_12 rfl (lv_at hl 0 rfl) ?_
    refine lv_dup hx hb dX8_batch_13 rfl ?_
    refine m_get hx hb hts hin8 hown hK hW 18 (by decide) (hts _ (by decide +kernel)) (v := .int (iI (τ 18 0))) rfl dX8_batch_14 ?_
    refine z_iconst hx hb dX8_batch_17 ?_
    refine z_iadd hx hb dX8_batch_18 ?_
    refine m_put (v := (τ 18 0) + 1) hx hb hts hin8 hown hK hW hS hz 18 (by decide) (by decide) (hts _ (by decide +kernel)) rfl (by decide +kernel) rfl dX8_batch_19 (fun H locs hW hS hz => ?_)
    have hR := Rng.tu (c := 18) (i := 0) (v := (τ 18 0) + 1) hR (show (0 : Int) ≤ (τ 18 0) + 1 from by omega) (show (τ 18 0) + 1 ≤ 6 from by omega)
    refine lv_aload_n hx hb dX8_batch_22 rfl (lv_at hl 0 rfl) ?_
    refine m_get hx hb hts hin8 hown hK hW 18 (by decide) (hts _ (by decide +kernel)) (v := .int (iI ((tu τ 18 0 ((τ 18 0) + 1)) 18 0))) rfl dX8_batch_23 ?_
    refine z_top (show (tu τ 18 0 ((τ 18 0) + 1)) 18 0 = (τ 18 0) + 1 from by rw [tu_s]) ?_
    refine z_iconst hx hb dX8_batch_26 ?_
    refine z_isub hx hb dX8_batch_27 ?_
    exact m_iret hx hb hr hlocks (by unfold stBatch; rw [if_pos (by omega)]; exact hW) hS hz (by unfold spBatch; rw [if_neg (by omega)]; omega) dX8_batch_28
  · refine z_bipush hx hb dX8_batch_9 (by decide) ?_
    exact m_iret hx hb hr hlocks (by unfold stBatch; rw [if_neg (by omega)]; exact hW) hS hz (by unfold spBatch; repeat (first | rw [if_pos (by first | assumption | omega)] | rw [if_neg (by first | assumption | omega)])) dX8_batch_11
set_option maxHeartbeats 4000000 in
set_option maxRecDepth 100000 in
theorem c8_run (l : Launch) (D : va_G) (cI cZ : ClassId) (ad : Nat → Nat) (τ : Tau) (hI : Rng τ) (a : Int) (h_a : I32 a) (u : Int) (h_u : I32 u) (v : Int) (h_v : I32 v)  : Met l yX8_run wsX8_run { frames := 2, cells := 0, slots := 0, locals := 46 } (mPc D cI cZ ad τ [.ref (ad 0), .int (iI (a)), .int (iI (u)), .int (iI (v))]) (mQ D cI cZ ad (some (.int (iI (spRun τ a u v)))) (stRun τ a u v)) 0 0 (MA ad) := by
  refine m_start (by decide) rfl (Nat.le_of_ble_eq_true rfl) ?_
  intro p e s m below meth c hx hb hr hlocks hml hts hown hW hK ls hl
  have hin8 : ∀ w ∈ wsX80, w ∈ wsX8_run := by decide +kernel
  have hS : va_S (MA ad) s.heap s.heap [] := va_S.rf
  have hz : s.heap.size = s.heap.size := rfl
  have hR : Rng τ := hI
  have hl : lv_has ls 4 [(0, .ref (ad 0)), (1, .int (iI (a))), (2, .int (iI (u))), (3, .int (iI (v)))] := hl
  refine lv_aload_n hx hb dX8_run_0 rfl (lv_at hl 0 rfl) ?_
  refine lv_iload_n hx hb dX8_run_1 rfl (lv_at hl 1 rfl) ?_
  refine m_call (n := 1) (As := [.int (iI (a))]) (rest := []) hx hb hml hts hown hK hW (c8_isHole l D cI cZ ad τ hI a (by omega)) gX8_run_X8_isHole rfl rfl rfl (by decide +kernel) ⟨by decide, by decide⟩ rfl hl.1 rfl (Nat.le_of_ble_eq_true rfl) ⟨Nat.zero_le _, Nat.zero_le _⟩ dX8_run_2 ?_
  have r1 := (show (0 : Int) ≤ τ 0 0 ∧ τ 0 0 ≤ 4 from hI 0 0)
  refine z_if_neB (tgt := 11) hx hb dX8_run_5 (by decide) (fun c2 => ?_) (fun c2 => ?_)
  · refine lv_iload_n hx hb dX8_run_11 rfl (lv_at hl 2 rfl) ?_
    refine z_i2l hx hb (by omega) dX8_run_12 ?_
    refine z_lconst (n := 1) hx hb (by decide) dX8_run_13 ?_
    refine z_ldc2 (n := 1000) hx hb hown (hts (.constantLong RX8 95 (1000)) (by decide +kernel)) (by decide) dX8_run_14 ?_
    refine s_call (n := 3) (As := [.long (lL (u)), .long (lL (1)), .long (lL (1000))]) (rest := []) hx hb hml hts hown (c8_in l u (by omega) 1 (by omega) 1000 (by omega)) gX8_run_X8_in rfl rfl rfl (by decide +kernel) ⟨by decide, by decide⟩ rfl hl.1 rfl (Nat.le_of_ble_eq_true rfl) ⟨Nat.zero_le _, Nat.zero_le _⟩ dX8_run_17 ?_
    refine z_if_eqB (tgt := 34) hx hb dX8_run_20 (by decide) (fun c3 => ?_) (fun c3 => ?_)
    · refine z_bipush hx hb dX8_run_34 (by decide) ?_
      exact m_iret hx hb hr hlocks (by unfold stRun; rw [if_neg (fun hk => by first | omega | exact hk.1 (by assumption) | exact hk.2.1 (by assumption) | exact hk.2.2.1 (by assumption) | exact hk.2.2.2.1 (by assumption) | exact hk.2.2.2 (by assumption) | exact hk.2.2.2.2 (by assumption))]; exact hW) hS hz (by unfold spRun; repeat (first | rw [if_pos (by first | assumption | omega)] | rw [if_neg (by first | assumption | omega)])) dX8_run_36
    · refine lv_iload_n hx hb dX8_run_23 rfl (lv_at hl 3 rfl) ?_
      refine z_i2l hx hb (by omega) dX8_run_24 ?_
      refine z_lconst (n := 0) hx hb (by decide) dX8_run_25 ?_
      refine lv_iload_n hx hb dX8_run_26 rfl (lv_at hl 2 rfl) ?_
      refine z_i2l hx hb (by omega) dX8_run_27 ?_
      refine s_call (n := 3) (As := [.long (lL (v)), .long (lL (0)), .long (lL (u))]) (rest := []) hx hb hml hts hown (c8_in l v (by omega) 0 (by omega) u (by omega)) gX8_run_X8_in rfl rfl rfl (by decide +kernel) ⟨by decide, by decide⟩ rfl hl.1 rfl (Nat.le_of_ble_eq_true rfl) ⟨Nat.zero_le _, Nat.zero_le _⟩ dX8_run_28 ?_
      refine z_if_neB (tgt := 37) hx hb dX8_run_31 (by decide) (fun c4 => ?_) (fun c4 => ?_)
      · refine lv_aload_n hx hb dX8_run_37 rfl (lv_at hl 0 rfl) ?_
        refine lv_iload_n hx hb dX8_run_38 rfl (lv_at hl 1 rfl) ?_
        refine m_call (n := 1) (As := [.int (iI (a))]) (rest := []) hx hb hml hts hown hK hW (c8_isUsed l D cI cZ ad τ hI a.toNat a (by omega) (by omega)) gX8_run_X8_isUsed rfl rfl rfl (by decide +kernel) ⟨by decide, by decide⟩ rfl hl.1 rfl (Nat.le_of_ble_eq_true rfl) ⟨Nat.zero_le _, Nat.zero_le _⟩ dX8_run_39 ?_
        refine z_if_eqB (tgt := 48) hx hb dX8_run_42 (by decide) (fun c5 => ?_) (fun c5 => ?_)
        · refine lv_aload_n hx hb dX8_run_48 rfl (lv_at hl 0 rfl) ?_
          refine m_get hx hb hts hin8 hown hK hW 1 (by decide) (hts _ (by decide +kernel)) (v := .ref (ad 1)) rfl dX8_run_49 ?_
          refine lv_iload_n hx hb dX8_run_52 rfl (lv_at hl 1 rfl) ?_
          refine m_ald (d := 1) (j := a.toNat) hx hb hK hW rfl (by omega) (show a.toNat < 4 from by omega) dX8_run_53 ?_
          have r6 : (0 : Int) ≤ τ 1 a.toNat ∧ τ 1 a.toNat ≤ 20 := hI 1 a.toNat
          refine z_bipush hx hb dX8_run_54 (by decide) ?_
          refine z_icmp_ne (tgt := 62) hx hb (by omega) (by omega) dX8_run_56 (by decide) (fun c7 => ?_) (fun c7 => ?_)
          · refine lv_aload_n hx hb dX8_run_62 rfl (lv_at hl 0 rfl) ?_
            refine m_get hx hb hts hin8 hown hK hW 2 (by decide) (hts _ (by decide +kernel)) (v := .ref (ad 2)) rfl dX8_run_63 ?_
            refine z_bipush hx hb dX8_run_66 (by decide) ?_
            refine lv_iload_n hx hb dX8_run_68 rfl (lv_at hl 1 rfl) ?_
            refine z_imul hx hb dX8_run_69 ?_
            refine lv_aload_n hx hb dX8_run_70 rfl (lv_at hl 0 rfl) ?_
            refine m_get hx hb hts hin8 hown hK hW 1 (by decide) (hts _ (by decide +kernel)) (v := .ref (ad 1)) rfl dX8_run_71 ?_
            refine lv_iload_n hx hb dX8_run_74 rfl (lv_at hl 1 rfl) ?_
            refine m_ald (d := 1) (j := a.toNat) hx hb hK hW rfl (by omega) (show a.toNat < 4 from by omega) dX8_run_75 ?_
            refine z_iadd hx hb dX8_run_76 ?_
            refine lv_iload_n hx hb dX8_run_77 rfl (lv_at hl 2 rfl) ?_
            refine m_ast (d := 2) (j := (20 * a.toNat) + ((τ 1 a.toNat).toNat)) (v := u) hx hb hK hW hS hz rfl (by omega) (show (20 * a.toNat) + ((τ 1 a.toNat).toNat) < 80 from by omega) dX8_run_78 (fun H locs hW hS hz => ?_)
            have hR := Rng.tu (c := 2) (i := (20 * a.toNat) + ((τ 1 a.toNat).toNat)) (v := u) hR (show (0 : Int) ≤ u from by omega) (show u ≤ 1000 from by omega)
            refine lv_aload_n hx hb dX8_run_79 rfl (lv_at hl 0 rfl) ?_
            refine m_get hx hb hts hin8 hown hK hW 3 (by decide) (hts _ (by decide +kernel)) (v := .ref (ad 3)) rfl dX8_run_80 ?_
            refine z_bipush hx hb dX8_run_83 (by decide) ?_
            refine lv_iload_n hx hb dX8_run_85 rfl (lv_at hl 1 rfl) ?_
            refine z_imul hx hb dX8_run_86 ?_
            refine lv_aload_n hx hb dX8_run_87 rfl (lv_at hl 0 rfl) ?_
            refine m_get hx hb hts hin8 hown hK hW 1 (by decide) (hts _ (by decide +kernel)) (v := .ref (ad 1)) rfl dX8_run_88 ?_
            refine lv_iload_n hx hb dX8_run_91 rfl (lv_at hl 1 rfl) ?_
            refine m_ald (d := 1) (j := a.toNat) hx hb hK hW rfl (by omega) (show a.toNat < 4 from by omega) dX8_run_92 ?_
            refine z_top (show (tu τ 2 ((20 * a.toNat) + ((τ 1 a.toNat).toNat)) u) 1 a.toNat = τ 1 a.toNat from by rw [tu_n (show 1 ≠ 2 by decide)]) ?_
            refine z_iadd hx hb dX8_run_93 ?_
            refine lv_iload_n hx hb dX8_run_94 rfl (lv_at hl 3 rfl) ?_
            refine m_ast (d := 3) (j := (20 * a.toNat) + ((τ 1 a.toNat).toNat)) (v := v) hx hb hK hW hS hz rfl (by omega) (show (20 * a.toNat) + ((τ 1 a.toNat).toNat) < 80 from by omega) dX8_run_95 (fun H locs hW hS hz => ?_)
            have hR := Rng.tu (c := 3) (i := (20 * a.toNat) + ((τ 1 a.toNat).toNat)) (v := v) hR (show (0 : Int) ≤ v from by omega) (show v ≤ 1000 from by omega)
            refine lv_aload_n hx hb dX8_run_96 rfl (lv_at hl 0 rfl) ?_
            refine m_get hx hb hts hin8 hown hK hW 1 (by decide) (hts _ (by decide +kernel)) (v := .ref (ad 1)) rfl dX8_run_97 ?_
            refine lv_iload_n hx hb dX8_run_100 rfl (lv_at hl 1 rfl) ?_
            refine lv_dup2_11 hx hb dX8_run_101 rfl rfl ?_
            refine m_ald (d := 1) (j := a.toNat) hx hb hK hW rfl (by omega) (show a.toNat < 4 from by omega) dX8_run_102 ?_
            refine z_top (show (tu (tu τ 2 ((20 * a.toNat) + ((τ 1 a.toNat).toNat)) u) 3 ((20 * a.toNat) + ((τ 1 a.toNat).toNat)) v) 1 a.toNat = τ 1 a.toNat from by rw [tu_n (show 1 ≠ 3 by decide), tu_n (show 1 ≠ 2 by decide)]) ?_
            refine z_iconst hx hb dX8_run_103 ?_
            refine z_iadd hx hb dX8_run_104 ?_
            refine m_ast (d := 1) (j := a.toNat) (v := (τ 1 a.toNat) + 1) hx hb hK hW hS hz rfl (by omega) (show a.toNat < 4 from by omega) dX8_run_105 (fun H locs hW hS hz => ?_)
            have hR := Rng.tu (c := 1) (i := a.toNat) (v := (τ 1 a.toNat) + 1) hR (show (0 : Int) ≤ (τ 1 a.toNat) + 1 from by omega) (show (τ 1 a.toNat) + 1 ≤ 20 from by omega)
            refine lv_aload_n hx hb dX8_run_106 rfl (lv_at hl 0 rfl) ?_
            refine lv_iload_n hx hb dX8_run_107 rfl (lv_at hl 1 rfl) ?_
            refine m_call (n := 1) (As := [.int (iI (a))]) (rest := []) hx hb hml hts hown hK hW (c8_endOf l D cI cZ ad (tu (tu (tu τ 2 ((20 * a.toNat) + ((τ 1 a.toNat).toNat)) u) 3 ((20 * a.toNat) + ((τ 1 a.toNat).toNat)) v) 1 a.toNat ((τ 1 a.toNat) + 1)) hR a.toNat a (by omega) (by omega)) gX8_run_X8_endOf rfl rfl rfl (by decide +kernel) ⟨by decide, by decide⟩ rfl hl.1 rfl (Nat.le_of_ble_eq_true rfl) ⟨Nat.zero_le _, Nat.zero_le _⟩ dX8_run_108 ?_
            have r8 := en_r hR a.toNat
            refine z_top (show enO (tu (tu (tu τ 2 ((20 * a.toNat) + ((τ 1 a.toNat).toNat)) u) 3 ((20 * a.toNat) + ((τ 1 a.toNat).toNat)) v) 1 a.toNat ((τ 1 a.toNat) + 1)) a.toNat = enO τ a.toNat + u from en_tu hI) ?_
            exact m_iret hx hb hr hlocks (by unfold stRun; rw [if_pos (by refine ⟨?_, ?_, ?_, ?_⟩ <;> first | omega | assumption)]; exact hW.ext (fun c hc => tu_27 c hc)) hS hz (by unfold spRun; repeat (first | rw [if_pos (by first | assumption | omega)] | rw [if_neg (by first | assumption | omega)])) dX8_run_111
          · refine z_bipush hx hb dX8_run_59 (by decide) ?_
            exact m_iret hx hb hr hlocks (by unfold stRun; rw [if_neg (fun hk => by first | omega | exact hk.1 (by assumption) | exact hk.2.1 (by assumption) | exact hk.2.2.1 (by assumption) | exact hk.2.2.2.1 (by assumption) | exact hk.2.2.2 (by assumption) | exact hk.2.2.2.2 (by assumption))]; exact hW) hS hz (by unfold spRun; repeat (first | rw [if_pos (by first | assumption | omega)] | rw [if_neg (by first | assumption | omega)])) dX8_run_61
        · refine z_bipush hx hb dX8_run_45 (by decide) ?_
          exact m_iret hx hb hr hlocks (by unfold stRun; rw [if_neg (fun hk => by first | omega | exact hk.1 (by assumption) | exact hk.2.1 (by assumption) | exact hk.2.2.1 (by assumption) | exact hk.2.2.2.1 (by assumption) | exact hk.2.2.2 (by assumption) | exact hk.2.2.2.2 (by assumption))]; exact hW) hS hz (by unfold spRun; repeat (first | rw [if_pos (by first | assumption | omega)] | rw [if_neg (by first | assumption | omega)])) dX8_run_47
      · refine z_bipush hx hb dX8_run_34 (by decide) ?_
        exact m_iret hx hb hr hlocks (by unfold stRun; rw [if_neg (fun hk => by first | omega | exact hk.1 (by assumption) | exact hk.2.1 (by assumption) | exact hk.2.2.1 (by assumption) | exact hk.2.2.2.1 (by assumption) | exact hk.2.2.2 (by assumption) | exact hk.2.2.2.2 (by assumption))]; exact hW) hS hz (by unfold spRun; repeat (first | rw [if_pos (by first | assumption | omega)] | rw [if_neg (by first | assumption | omega)])) dX8_run_36
  · refine z_bipush hx hb dX8_run_8 (by decide) ?_
    exact m_iret hx hb hr hlocks (by unfold stRun; rw [if_neg (fun hk => by first | omega | exact hk.1 (by assumption) | exact hk.2.1 (by assumption) | exact hk.2.2.1 (by assumption) | exact hk.2.2.2.1 (by assumption) | exact hk.2.2.2 (by assumption) | exact hk.2.2.2.2 (by assumption))]; exact hW) hS hz (by unfold spRun; repeat (first | rw [if_pos (by first | assumption | omega)] | rw [if_neg (by first | assumption | omega)])) dX8_run_10
set_option maxHeartbeats 4000000 in
set_option maxRecDepth 100000 in
theorem c8_recoveredOf (l : Launch) (D : va_G) (cI cZ : ClassId) (ad : Nat → Nat) (τ : Tau) (hI : Rng τ) (h : Nat) (zh : Int) (hzh : zh = (h : Int)) (a : Int) (h_a : I32 a) (b : Int) (h_b : I32 b) (h0 : h < 4) (hs : 0 ≤ a ∧ a < b ∧ b ≤ 20000) : Met l yX8_recoveredOf wsX8_recoveredOf { frames := 1, cells := 0, slots := 0, locals := 25 } (mPc D cI cZ ad τ [.ref (ad 0), .int (iI zh), .int (iI (a)), .int (iI (b))]) (rS (rcO τ h a b)) 0 0 NoA := by
  subst hzh
  refine m_start (by decide) rfl (Nat.le_of_ble_eq_true rfl) ?_
  intro p e s m below meth c hx hb hr hlocks hml hts hown hW hK ls hl
  have hin8 : ∀ w ∈ wsX80, w ∈ wsX8_recoveredOf := by decide +kernel
  have hl : lv_has ls 7 [(0, .ref (ad 0)), (1, .int (iI ((h : Int)))), (2, .int (iI (a))), (3, .int (iI (b)))] := hl
  obtain ⟨N, hN⟩ : ∃ N : Nat, τ 1 h = N := ⟨(τ 1 h).toNat, by have : (0 : Int) ≤ τ 1 h ∧ τ 1 h ≤ 20 := hI 1 h; omega⟩
  have hN2 : (τ 1 h).toNat = N := by omega
  have hN3 : N ≤ 20 := by have : (0 : Int) ≤ τ 1 h ∧ τ 1 h ≤ 20 := hI 1 h; omega
  refine z_iconst hx hb dX8_recoveredOf_0 ?_
  refine lv_istore (lv' := [(4, .int (iI (0))), (0, .ref (ad 0)), (1, .int (iI ((h : Int)))), (2, .int (iI (a))), (3, .int (iI (b)))]) hx hb dX8_recoveredOf_1 hl (by decide) rfl (fun ls hl => ?_)
  refine z_iconst hx hb dX8_recoveredOf_3 ?_
  refine lv_istore (lv' := [(5, .int (iI (0))), (4, .int (iI (0))), (0, .ref (ad 0)), (1, .int (iI ((h : Int)))), (2, .int (iI (a))), (3, .int (iI (b)))]) hx hb dX8_recoveredOf_4 hl (by decide) rfl (fun ls hl => ?_)
  refine z_iconst hx hb dX8_recoveredOf_6 ?_
  refine lv_istore (lv' := [(6, .int (iI (0))), (5, .int (iI (0))), (4, .int (iI (0))), (0, .ref (ad 0)), (1, .int (iI ((h : Int)))), (2, .int (iI (a))), (3, .int (iI (b)))]) hx hb dX8_recoveredOf_7 hl (by decide) rfl (fun ls hl => ?_)
  have lp9 : ∀ (n9 k : Nat) (x4 x5 x6 : Int), x4 = rcK τ h a b k → x5 = doK τ h k → x6 = (k : Int) → k ≤ N → N + 1 ≤ k + n9 → ∀ ls : Array Slot, lv_has ls 7 [(4, .int (iI (x4))), (5, .int (iI (x5))), (6, .int (iI (x6))), (0, .ref (ad 0)), (1, .int (iI ((h : Int)))), (2, .int (iI (a))), (3, .int (iI (b)))] → W p l e { frames := 1, cells := 0, slots := 0, locals := 25 } s m [.ref (ad 0), .int (iI ((h : Int))), .int (iI (a)), .int (iI (b))].toArray below meth c s.heap [] 0 0 (MQ below (rS (rcO τ h a b)) [.ref (ad 0), .int (iI ((h : Int))), .int (iI (a)), .int (iI (b))].toArray s 0 0 (NoA)) (F0 m 9 ls []) := by
    intro n9
    induction n9 with
    | zero => intro k x4 x5 x6 ex4 ex5 ex6 hk1 hk2; exact absurd hk2 (by omega)
    | succ n9 ih9 =>
      intro k x4 x5 x6 ex4 ex5 ex6 hk1 hk2  ls hl
      subst ex4
      subst ex5
      subst ex6
      have hdo := do_r hI h k (by omega)
      refine lv_iload hx hb dX8_recoveredOf_9 (lv_at hl 2 rfl) ?_
      refine lv_aload_n hx hb dX8_recoveredOf_11 rfl (lv_at hl 3 rfl) ?_
      refine m_get hx hb hts hin8 hown hK hW 1 (by decide) (hts _ (by decide +kernel)) (v := .ref (ad 1)) rfl dX8_recoveredOf_12 ?_
      refine lv_iload_n hx hb dX8_recoveredOf_15 rfl (lv_at hl 4 rfl) ?_
      refine m_ald (d := 1) (j := h) hx hb hK hW rfl (by omega) (show h < 4 from by omega) dX8_recoveredOf_16 ?_
      have r1 : (0 : Int) ≤ τ 1 h ∧ τ 1 h ≤ 20 := hI 1 h
      refine z_icmp_ge (tgt := 70) hx hb (by omega) (by omega) dX8_recoveredOf_17 (by decide) (fun c2 => ?_) (fun c2 => ?_)
      · refine lv_iload hx hb dX8_recoveredOf_70 (lv_at hl 0 rfl) ?_
        exact s_iret hx hb hr hlocks (by unfold rcO; rw [hN2, show N = k by omega]) dX8_recoveredOf_72
      · refine lv_iload hx hb dX8_recoveredOf_20 (lv_at hl 0 rfl) ?_
        refine lv_iload_n hx hb dX8_recoveredOf_22 rfl (lv_at hl 5 rfl) ?_
        refine lv_iload_n hx hb dX8_recoveredOf_23 rfl (lv_at hl 6 rfl) ?_
        refine lv_iload hx hb dX8_recoveredOf_24 (lv_at hl 1 rfl) ?_
        refine lv_iload hx hb dX8_recoveredOf_26 (lv_at hl 1 rfl) ?_
        refine lv_aload_n hx hb dX8_recoveredOf_28 rfl (lv_at hl 3 rfl) ?_
        refine m_get hx hb hts hin8 hown hK hW 3 (by decide) (hts _ (by decide +kernel)) (v := .ref (ad 3)) rfl dX8_recoveredOf_29 ?_
        refine z_bipush hx hb dX8_recoveredOf_32 (by decide) ?_
        refine lv_iload_n hx hb dX8_recoveredOf_34 rfl (lv_at hl 4 rfl) ?_
        refine z_imul hx hb dX8_recoveredOf_35 ?_
        refine lv_iload hx hb dX8_recoveredOf_36 (lv_at hl 2 rfl) ?_
        refine z_iadd hx hb dX8_recoveredOf_38 ?_
        refine m_ald (d := 3) (j := (20 * h) + k) hx hb hK hW rfl (by omega) (show (20 * h) + k < 80 from by omega) dX8_recoveredOf_39 ?_
        have r3 : (0 : Int) ≤ τ 3 ((20 * h) + k) ∧ τ 3 ((20 * h) + k) ≤ 1000 := hI 3 ((20 * h) + k)
        refine z_iadd hx hb dX8_recoveredOf_40 ?_
        refine s_call (n := 4) (As := [.int (iI (a)), .int (iI (b)), .int (iI (doK τ h k)), .int (iI ((doK τ h k) + (τ 3 ((20 * h) + k))))]) (rest := [.int (iI (rcK τ h a b k))]) hx hb hml hts hown (c8_common l a (by omega) b (by omega) (doK τ h k) (by omega) ((doK τ h k) + (τ 3 ((20 * h) + k))) (by omega) (by omega)) gX8_recoveredOf_X8_common rfl rfl rfl (by decide +kernel) ⟨by decide, by decide⟩ rfl hl.1 rfl (Nat.le_of_ble_eq_true rfl) ⟨Nat.zero_le _, Nat.zero_le _⟩ dX8_recoveredOf_41 ?_
        refine z_iadd hx hb dX8_recoveredOf_44 ?_
        refine lv_istore (lv' := [(4, .int (iI ((rcK τ h a b k) + (cm a b (doK τ h k) ((doK τ h k) + (τ 3 ((20 * h) + k))))))), (5, .int (iI (doK τ h k))), (6, .int (iI ((k : Int)))), (0, .ref (ad 0)), (1, .int (iI ((h : Int)))), (2, .int (iI (a))), (3, .int (iI (b)))]) hx hb dX8_recoveredOf_45 hl (by decide) rfl (fun ls hl => ?_)
        refine lv_iload hx hb dX8_recoveredOf_47 (lv_at hl 1 rfl) ?_
        refine lv_aload_n hx hb dX8_recoveredOf_49 rfl (lv_at hl 3 rfl) ?_
        refine m_get hx hb hts hin8 hown hK hW 2 (by decide) (hts _ (by decide +kernel)) (v := .ref (ad 2)) rfl dX8_recoveredOf_50 ?_
        refine z_bipush hx hb dX8_recoveredOf_53 (by decide) ?_
        refine lv_iload_n hx hb dX8_recoveredOf_55 rfl (lv_at hl 4 rfl) ?_
        refine z_imul hx hb dX8_recoveredOf_56 ?_
        refine lv_iload hx hb dX8_recoveredOf_57 (lv_at hl 2 rfl) ?_
        refine z_iadd hx hb dX8_recoveredOf_59 ?_
        refine m_ald (d := 2) (j := (20 * h) + k) hx hb hK hW rfl (by omega) (show (20 * h) + k < 80 from by omega) dX8_recoveredOf_60 ?_
        have r4 : (0 : Int) ≤ τ 2 ((20 * h) + k) ∧ τ 2 ((20 * h) + k) ≤ 1000 := hI 2 ((20 * h) + k)
        refine z_iadd hx hb dX8_recoveredOf_61 ?_
        refine lv_istore (lv' := [(5, .int (iI ((doK τ h k) + (τ 2 ((20 * h) + k))))), (4, .int (iI ((rcK τ h a b k) + (cm a b (doK τ h k) ((doK τ h k) + (τ 3 ((20 * h) + k))))))), (6, .int (iI ((k : Int)))), (0, .ref (ad 0)), (1, .int (iI ((h : Int)))), (2, .int (iI (a))), (3, .int (iI (b)))]) hx hb dX8_recoveredOf_62 hl (by decide) rfl (fun ls hl => ?_)
        refine z_iinc (k := 2) (lv' := [(6, .int (iI ((k : Int) + 1))), (5, .int (iI ((doK τ h k) + (τ 2 ((20 * h) + k))))), (4, .int (iI ((rcK τ h a b k) + (cm a b (doK τ h k) ((doK τ h k) + (τ 3 ((20 * h) + k))))))), (0, .ref (ad 0)), (1, .int (iI ((h : Int)))), (2, .int (iI (a))), (3, .int (iI (b)))]) hx hb dX8_recoveredOf_64 hl rfl (by decide) rfl (fun ls hl => ?_)
        refine lv_goto (tgt := 9) hx hb dX8_recoveredOf_67 (by decide) ?_
        exact ih9 (k + 1) ((rcK τ h a b k) + (cm a b (doK τ h k) ((doK τ h k) + (τ 3 ((20 * h) + k))))) ((doK τ h k) + (τ 2 ((20 * h) + k))) ((k : Int) + 1) rfl rfl (by omega) (by omega) (by omega)  ls (lv_sub hl [2, 1, 0, 3, 4, 5, 6] rfl)
  exact lp9 (N + 1) 0 0 0 0 rfl rfl (by omega) (by omega) (by omega)  ls (lv_sub hl [2, 1, 0, 3, 4, 5, 6] rfl)
set_option maxHeartbeats 4000000 in
set_option maxRecDepth 100000 in
theorem c8_recovered (l : Launch) (D : va_G) (cI cZ : ClassId) (ad : Nat → Nat) (τ : Tau) (hI : Rng τ) (x : Int) (h_x : I32 x) (a : Int) (h_a : I32 a) (b : Int) (h_b : I32 b)  : Met l yX8_recovered wsX8_recovered { frames := 2, cells := 0, slots := 0, locals := 51 } (mPc D cI cZ ad τ [.ref (ad 0), .int (iI (x)), .int (iI (a)), .int (iI (b))]) (rS (spRec τ x a b)) 0 0 NoA := by
  refine m_start (by decide) rfl (Nat.le_of_ble_eq_true rfl) ?_
  intro p e s m below meth c hx hb hr hlocks hml hts hown hW hK ls hl
  have hin8 : ∀ w ∈ wsX80, w ∈ wsX8_recovered := by decide +kernel
  have hl : lv_has ls 4 [(0, .ref (ad 0)), (1, .int (iI (x))), (2, .int (iI (a))), (3, .int (iI (b)))] := hl
  refine lv_aload_n hx hb dX8_recovered_0 rfl (lv_at hl 0 rfl) ?_
  refine lv_iload_n hx hb dX8_recovered_1 rfl (lv_at hl 1 rfl) ?_
  refine m_call (n := 1) (As := [.int (iI (x))]) (rest := []) hx hb hml hts hown hK hW (c8_isHole l D cI cZ ad τ hI x (by omega)) gX8_recovered_X8_isHole rfl rfl rfl (by decide +kernel) ⟨by decide, by decide⟩ rfl hl.1 rfl (Nat.le_of_ble_eq_true rfl) ⟨Nat.zero_le _, Nat.zero_le _⟩ dX8_recovered_2 ?_
  have r1 := (show (0 : Int) ≤ τ 0 0 ∧ τ 0 0 ≤ 4 from hI 0 0)
  refine z_if_neB (tgt := 11) hx hb dX8_recovered_5 (by decide) (fun c2 => ?_) (fun c2 => ?_)
  · refine lv_aload_n hx hb dX8_recovered_11 rfl (lv_at hl 0 rfl) ?_
    refine lv_iload_n hx hb dX8_recovered_12 rfl (lv_at hl 1 rfl) ?_
    refine lv_iload_n hx hb dX8_recovered_13 rfl (lv_at hl 2 rfl) ?_
    refine lv_iload_n hx hb dX8_recovered_14 rfl (lv_at hl 3 rfl) ?_
    refine m_call (n := 3) (As := [.int (iI (x)), .int (iI (a)), .int (iI (b))]) (rest := []) hx hb hml hts hown hK hW (c8_isStretch l D cI cZ ad τ hI x.toNat x (by omega) a (by omega) b (by omega) (by omega)) gX8_recovered_X8_isStretch rfl rfl rfl (by decide +kernel) ⟨by decide, by decide⟩ rfl hl.1 rfl (Nat.le_of_ble_eq_true rfl) ⟨Nat.zero_le _, Nat.zero_le _⟩ dX8_recovered_15 ?_
    have r3 := en_r hI x.toNat
    refine z_if_eqB (tgt := 31) hx hb dX8_recovered_18 (by decide) (fun c4 => ?_) (fun c4 => ?_)
    · refine z_bipush hx hb dX8_recovered_31 (by decide) ?_
      exact s_iret hx hb hr hlocks (by unfold spRec; repeat (first | rw [if_pos (by first | assumption | omega)] | rw [if_neg (by first | assumption | omega)])) dX8_recovered_33
    · refine lv_aload_n hx hb dX8_recovered_21 rfl (lv_at hl 0 rfl) ?_
      refine lv_iload_n hx hb dX8_recovered_22 rfl (lv_at hl 1 rfl) ?_
      refine lv_iload_n hx hb dX8_recovered_23 rfl (lv_at hl 2 rfl) ?_
      refine lv_iload_n hx hb dX8_recovered_24 rfl (lv_at hl 3 rfl) ?_
      refine m_call (n := 3) (As := [.int (iI (x)), .int (iI (a)), .int (iI (b))]) (rest := []) hx hb hml hts hown hK hW (c8_recoveredOf l D cI cZ ad τ hI x.toNat x (by omega) a (by omega) b (by omega) (by omega) (by omega)) gX8_recovered_X8_recoveredOf rfl rfl rfl (by decide +kernel) ⟨by decide, by decide⟩ rfl hl.1 rfl (Nat.le_of_ble_eq_true rfl) ⟨Nat.zero_le _, Nat.zero_le _⟩ dX8_recovered_25 ?_
      have r5 := rc_r hI x.toNat a b
      refine lv_goto (tgt := 33) hx hb dX8_recovered_28 (by decide) ?_
      exact s_iret hx hb hr hlocks (by unfold spRec; repeat (first | rw [if_pos (by first | assumption | omega)] | rw [if_neg (by first | assumption | omega)])) dX8_recovered_33
  · refine z_bipush hx hb dX8_recovered_8 (by decide) ?_
    exact s_iret hx hb hr hlocks (by unfold spRec; repeat (first | rw [if_pos (by first | assumption | omega)] | rw [if_neg (by first | assumption | omega)])) dX8_recovered_10
set_option maxHeartbeats 4000000 in
set_option maxRecDepth 100000 in
theorem c8_mark (l : Launch) (D : va_G) (cI cZ : ClassId) (ad : Nat → Nat) (τ : Tau) (hI : Rng τ) (a : Int) (h_a : I32 a) (u : Int) (h_u : I32 u)  : Met l yX8_mark wsX8_mark { frames := 2, cells := 0, slots := 0, locals := 46 } (mPc D cI cZ ad τ [.ref (ad 0), .int (iI (a)), .int (iI (u))]) (mQ D cI cZ ad (some (.int (iI (spMark τ a u)))) (stMark τ a u)) 0 0 (MA ad) := by
  refine m_start (by decide) rfl (Nat.le_of_ble_eq_true rfl) ?_
  intro p e s m below meth c hx hb hr hlocks hml hts hown hW hK ls hl
  have hin8 : ∀ w ∈ wsX80, w ∈ wsX8_mark := by decide +kernel
  have hS : va_S (MA ad) s.heap s.heap [] := va_S.rf
  have hz : s.heap.size = s.heap.size := rfl
  have hR : Rng τ := hI
  have hl : lv_has ls 3 [(0, .ref (ad 0)), (1, .int (iI (a))), (2, .int (iI (u)))] := hl
  refine lv_aload_n hx hb dX8_mark_0 rfl (lv_at hl 0 rfl) ?_
  refine lv_iload_n hx hb dX8_mark_1 rfl (lv_at hl 1 rfl) ?_
  refine m_call (n := 1) (As := [.int (iI (a))]) (rest := []) hx hb hml hts hown hK hW (c8_isHole l D cI cZ ad τ hI a (by omega)) gX8_mark_X8_isHole rfl rfl rfl (by decide +kernel) ⟨by decide, by decide⟩ rfl hl.1 rfl (Nat.le_of_ble_eq_true rfl) ⟨Nat.zero_le _, Nat.zero_le _⟩ dX8_mark_2 ?_
  have r1 := (show (0 : Int) ≤ τ 0 0 ∧ τ 0 0 ≤ 4 from hI 0 0)
  refine z_if_neB (tgt := 11) hx hb dX8_mark_5 (by decide) (fun c2 => ?_) (fun c2 => ?_)
  · refine lv_iload_n hx hb dX8_mark_11 rfl (lv_at hl 2 rfl) ?_
    refine z_i2l hx hb (by omega) dX8_mark_12 ?_
    refine z_lconst (n := 0) hx hb (by decide) dX8_mark_13 ?_
    refine z_ldc2 (n := 100000) hx hb hown (hts (.constantLong RX8 116 (100000)) (by decide +kernel)) (by decide) dX8_mark_14 ?_
    refine s_call (n := 3) (As := [.long (lL (u)), .long (lL (0)), .long (lL (100000))]) (rest := []) hx hb hml hts hown (c8_in l u (by omega) 0 (by omega) 100000 (by omega)) gX8_mark_X8_in rfl rfl rfl (by decide +kernel) ⟨by decide, by decide⟩ rfl hl.1 rfl (Nat.le_of_ble_eq_true rfl) ⟨Nat.zero_le _, Nat.zero_le _⟩ dX8_mark_17 ?_
    refine z_if_neB (tgt := 26) hx hb dX8_mark_20 (by decide) (fun c3 => ?_) (fun c3 => ?_)
    · refine lv_aload_n hx hb dX8_mark_26 rfl (lv_at hl 0 rfl) ?_
      refine m_get hx hb hts hin8 hown hK hW 4 (by decide) (hts _ (by decide +kernel)) (v := .ref (ad 4)) rfl dX8_mark_27 ?_
      refine lv_iload_n hx hb dX8_mark_30 rfl (lv_at hl 1 rfl) ?_
      refine m_ald (d := 4) (j := a.toNat) hx hb hK hW rfl (by omega) (show a.toNat < 4 from by omega) dX8_mark_31 ?_
      have r4 : (0 : Int) ≤ τ 4 a.toNat ∧ τ 4 a.toNat ≤ 20 := hI 4 a.toNat
      refine z_bipush hx hb dX8_mark_32 (by decide) ?_
      refine z_icmp_ne (tgt := 40) hx hb (by omega) (by omega) dX8_mark_34 (by decide) (fun c5 => ?_) (fun c5 => ?_)
      · refine lv_aload_n hx hb dX8_mark_40 rfl (lv_at hl 0 rfl) ?_
        refine m_get hx hb hts hin8 hown hK hW 5 (by decide) (hts _ (by decide +kernel)) (v := .ref (ad 5)) rfl dX8_mark_41 ?_
        refine z_bipush hx hb dX8_mark_44 (by decide) ?_
        refine lv_iload_n hx hb dX8_mark_46 rfl (lv_at hl 1 rfl) ?_
        refine z_imul hx hb dX8_mark_47 ?_
        refine lv_aload_n hx hb dX8_mark_48 rfl (lv_at hl 0 rfl) ?_
        refine m_get hx hb hts hin8 hown hK hW 4 (by decide) (hts _ (by decide +kernel)) (v := .ref (ad 4)) rfl dX8_mark_49 ?_
        refine lv_iload_n hx hb dX8_mark_52 rfl (lv_at hl 1 rfl) ?_
        refine m_ald (d := 4) (j := a.toNat) hx hb hK hW rfl (by omega) (show a.toNat < 4 from by omega) dX8_mark_53 ?_
        refine z_iadd hx hb dX8_mark_54 ?_
        refine lv_iload_n hx hb dX8_mark_55 rfl (lv_at hl 2 rfl) ?_
        refine m_ast (d := 5) (j := (20 * a.toNat) + ((τ 4 a.toNat).toNat)) (v := u) hx hb hK hW hS hz rfl (by omega) (show (20 * a.toNat) + ((τ 4 a.toNat).toNat) < 80 from by omega) dX8_mark_56 (fun H locs hW hS hz => ?_)
        have hR := Rng.tu (c := 5) (i := (20 * a.toNat) + ((τ 4 a.toNat).toNat)) (v := u) hR (show (0 : Int) ≤ u from by omega) (show u ≤ 100000 from by omega)
        refine lv_aload_n hx hb dX8_mark_57 rfl (lv_at hl 0 rfl) ?_
        refine m_get hx hb hts hin8 hown hK hW 4 (by decide) (hts _ (by decide +kernel)) (v := .ref (ad 4)) rfl dX8_mark_58 ?_
        refine lv_iload_n hx hb dX8_mark_61 rfl (lv_at hl 1 rfl) ?_
        refine lv_dup2_11 hx hb dX8_mark_62 rfl rfl ?_
        refine m_ald (d := 4) (j := a.toNat) hx hb hK hW rfl (by omega) (show a.toNat < 4 from by omega) dX8_mark_63 ?_
        refine z_top (show (tu τ 5 ((20 * a.toNat) + ((τ 4 a.toNat).toNat)) u) 4 a.toNat = τ 4 a.toNat from by rw [tu_n (show 4 ≠ 5 by decide)]) ?_
        refine z_iconst hx hb dX8_mark_64 ?_
        refine z_iadd hx hb dX8_mark_65 ?_
        refine m_ast (d := 4) (j := a.toNat) (v := (τ 4 a.toNat) + 1) hx hb hK hW hS hz rfl (by omega) (show a.toNat < 4 from by omega) dX8_mark_66 (fun H locs hW hS hz => ?_)
        have hR := Rng.tu (c := 4) (i := a.toNat) (v := (τ 4 a.toNat) + 1) hR (show (0 : Int) ≤ (τ 4 a.toNat) + 1 from by omega) (show (τ 4 a.toNat) + 1 ≤ 20 from by omega)
        refine lv_aload_n hx hb dX8_mark_67 rfl (lv_at hl 0 rfl) ?_
        refine m_get hx hb hts hin8 hown hK hW 4 (by decide) (hts _ (by decide +kernel)) (v := .ref (ad 4)) rfl dX8_mark_68 ?_
        refine lv_iload_n hx hb dX8_mark_71 rfl (lv_at hl 1 rfl) ?_
        refine m_ald (d := 4) (j := a.toNat) hx hb hK hW rfl (by omega) (show a.toNat < 4 from by omega) dX8_mark_72 ?_
        refine z_top (show (tu (tu τ 5 ((20 * a.toNat) + ((τ 4 a.toNat).toNat)) u) 4 a.toNat ((τ 4 a.toNat) + 1)) 4 a.toNat = (τ 4 a.toNat) + 1 from by rw [tu_s]) ?_
        exact m_iret hx hb hr hlocks (by unfold stMark; rw [if_pos (by refine ⟨?_, ?_, ?_⟩ <;> first | omega | assumption)]; exact hW) hS hz (by unfold spMark; repeat (first | rw [if_pos (by first | assumption | omega)] | rw [if_neg (by first | assumption | omega)])) dX8_mark_73
      · refine z_bipush hx hb dX8_mark_37 (by decide) ?_
        exact m_iret hx hb hr hlocks (by unfold stMark; rw [if_neg (fun hk => by first | omega | exact hk.1 (by assumption) | exact hk.2.1 (by assumption) | exact hk.2.2.1 (by assumption) | exact hk.2.2.2.1 (by assumption) | exact hk.2.2.2 (by assumption) | exact hk.2.2.2.2 (by assumption))]; exact hW) hS hz (by unfold spMark; repeat (first | rw [if_pos (by first | assumption | omega)] | rw [if_neg (by first | assumption | omega)])) dX8_mark_39
    · refine z_bipush hx hb dX8_mark_23 (by decide) ?_
      exact m_iret hx hb hr hlocks (by unfold stMark; rw [if_neg (fun hk => by first | omega | exact hk.1 (by assumption) | exact hk.2.1 (by assumption) | exact hk.2.2.1 (by assumption) | exact hk.2.2.2.1 (by assumption) | exact hk.2.2.2 (by assumption) | exact hk.2.2.2.2 (by assumption))]; exact hW) hS hz (by unfold spMark; repeat (first | rw [if_pos (by first | assumption | omega)] | rw [if_neg (by first | assumption | omega)])) dX8_mark_25
  · refine z_bipush hx hb dX8_mark_8 (by decide) ?_
    exact m_iret hx hb hr hlocks (by unfold stMark; rw [if_neg (fun hk => by first | omega | exact hk.1 (by assumption) | exact hk.2.1 (by assumption) | exact hk.2.2.1 (by assumption) | exact hk.2.2.2.1 (by assumption) | exact hk.2.2.2 (by assumption) | exact hk.2.2.2.2 (by assumption))]; exact hW) hS hz (by unfold spMark; repeat (first | rw [if_pos (by first | assumption | omega)] | rw [if_neg (by first | assumption | omega)])) dX8_mark_10
set_option maxHeartbeats 4000000 in
set_option maxRecDepth 100000 in
theorem c8_isLog (l : Launch) (a : Int) (h_a : I32 a)  : Met l yX8_isLog wsX8_isLog { frames := 1, cells := 0, slots := 0, locals := 25 } (sPc [.int (iI (a))]) (rS (bI (0 ≤ a ∧ a ≤ 1))) 0 0 NoA := by
  refine s_start (by decide) rfl (Nat.le_of_ble_eq_true rfl) ?_
  intro p e s m below meth c hx hb hr hlocks hml hts hown ls hl
  have hl : lv_has ls 1 [(0, .int (iI (a)))] := hl
  refine lv_iload_n hx hb dX8_isLog_0 rfl (lv_at hl 0 rfl) ?_
  refine z_i2l hx hb (by omega) dX8_isLog_1 ?_
  refine z_lconst (n := 0) hx hb (by decide) dX8_isLog_2 ?_
  refine z_lconst (n := 1) hx hb (by decide) dX8_isLog_3 ?_
  refine s_call (n := 3) (As := [.long (lL (a)), .long (lL (0)), .long (lL (1))]) (rest := []) hx hb hml hts hown (c8_in l a (by omega) 0 (by omega) 1 (by omega)) gX8_isLog_X8_in rfl rfl rfl (by decide +kernel) ⟨by decide, by decide⟩ rfl hl.1 rfl (Nat.le_of_ble_eq_true rfl) ⟨Nat.zero_le _, Nat.zero_le _⟩ dX8_isLog_4 ?_
  exact s_zret hx hb hr hlocks (bI_c (by omega)) dX8_isLog_7
set_option maxHeartbeats 4000000 in
set_option maxRecDepth 100000 in
theorem c8_codeOf (l : Launch) (D : va_G) (cI cZ : ClassId) (ad : Nat → Nat) (τ : Tau) (hI : Rng τ) (g : Nat) (zg : Int) (hzg : zg = (g : Int)) (k : Nat) (zk : Int) (hzk : zk = (k : Int)) (h0 : g < 8) (h1 : k < 20) : Met l yX8_codeOf wsX8_codeOf { frames := 0, cells := 0, slots := 0, locals := 0 } (mPc D cI cZ ad τ [.ref (ad 0), .int (iI zg), .int (iI zk)]) (rS (cdO τ g k)) 0 0 NoA := by
  subst hzg
  subst hzk
  refine m_start (by decide) rfl (Nat.le_of_ble_eq_true rfl) ?_
  intro p e s m below meth c hx hb hr hlocks hml hts hown hW hK ls hl
  have hin8 : ∀ w ∈ wsX80, w ∈ wsX8_codeOf := by decide +kernel
  have hl : lv_has ls 3 [(0, .ref (ad 0)), (1, .int (iI ((g : Int)))), (2, .int (iI ((k : Int))))] := hl
  refine lv_aload_n hx hb dX8_codeOf_0 rfl (lv_at hl 0 rfl) ?_
  refine m_get hx hb hts hin8 hown hK hW 11 (by decide) (hts _ (by decide +kernel)) (v := .ref (ad 11)) rfl dX8_codeOf_1 ?_
  refine lv_aload_n hx hb dX8_codeOf_4 rfl (lv_at hl 0 rfl) ?_
  refine m_get hx hb hts hin8 hown hK hW 10 (by decide) (hts _ (by decide +kernel)) (v := .ref (ad 10)) rfl dX8_codeOf_5 ?_
  refine z_bipush hx hb dX8_codeOf_8 (by decide) ?_
  refine lv_iload_n hx hb dX8_codeOf_10 rfl (lv_at hl 1 rfl) ?_
  refine z_imul hx hb dX8_codeOf_11 ?_
  refine lv_iload_n hx hb dX8_codeOf_12 rfl (lv_at hl 2 rfl) ?_
  refine z_iadd hx hb dX8_codeOf_13 ?_
  refine m_ald (d := 10) (j := (20 * g) + k) hx hb hK hW rfl (by omega) (show (20 * g) + k < 160 from by omega) dX8_codeOf_14 ?_
  have r1 : (0 : Int) ≤ τ 10 ((20 * g) + k) ∧ τ 10 ((20 * g) + k) ≤ 9 := hI 10 ((20 * g) + k)
  refine m_ald (d := 11) (j := (τ 10 ((20 * g) + k)).toNat) hx hb hK hW rfl (by omega) (show (τ 10 ((20 * g) + k)).toNat < 10 from by omega) dX8_codeOf_15 ?_
  have r2 : (0 : Int) ≤ τ 11 ((τ 10 ((20 * g) + k)).toNat) ∧ τ 11 ((τ 10 ((20 * g) + k)).toNat) ≤ 9 := hI 11 ((τ 10 ((20 * g) + k)).toNat)
  exact s_iret hx hb hr hlocks (rfl) dX8_codeOf_16
set_option maxHeartbeats 4000000 in
set_option maxRecDepth 100000 in
theorem c8_fromOf (l : Launch) (D : va_G) (cI cZ : ClassId) (ad : Nat → Nat) (τ : Tau) (hI : Rng τ) (g : Nat) (zg : Int) (hzg : zg = (g : Int)) (k : Nat) (zk : Int) (hzk : zk = (k : Int)) (h0 : g < 8) (h1 : k < 20) : Met l yX8_fromOf wsX8_fromOf { frames := 0, cells := 0, slots := 0, locals := 0 } (mPc D cI cZ ad τ [.ref (ad 0), .int (iI zg), .int (iI zk)]) (rS (frO τ g k)) 0 0 NoA := by
  subst hzg
  subst hzk
  refine m_start (by decide) rfl (Nat.le_of_ble_eq_true rfl) ?_
  intro p e s m below meth c hx hb hr hlocks hml hts hown hW hK ls hl
  have hin8 : ∀ w ∈ wsX80, w ∈ wsX8_fromOf := by decide +kernel
  have hl : lv_has ls 3 [(0, .ref (ad 0)), (1, .int (iI ((g : Int)))), (2, .int (iI ((k : Int))))] := hl
  refine lv_iload_n hx hb dX8_fromOf_0 rfl (lv_at hl 2 rfl) ?_
  refine z_if_ne (tgt := 8) hx hb (by omega) dX8_fromOf_1 (by decide) (fun c1 => ?_) (fun c1 => ?_)
  · refine lv_aload_n hx hb dX8_fromOf_8 rfl (lv_at hl 0 rfl) ?_
    refine m_get hx hb hts hin8 hown hK hW 9 (by decide) (hts _ (by decide +kernel)) (v := .ref (ad 9)) rfl dX8_fromOf_9 ?_
    refine z_bipush hx hb dX8_fromOf_12 (by decide) ?_
    refine lv_iload_n hx hb dX8_fromOf_14 rfl (lv_at hl 1 rfl) ?_
    refine z_imul hx hb dX8_fromOf_15 ?_
    refine lv_iload_n hx hb dX8_fromOf_16 rfl (lv_at hl 2 rfl) ?_
    refine z_iadd hx hb dX8_fromOf_17 ?_
    refine z_iconst hx hb dX8_fromOf_18 ?_
    refine z_isub hx hb dX8_fromOf_19 ?_
    refine m_ald (d := 9) (j := 20 * g + (k - 1)) hx hb hK hW rfl (by omega) (show 20 * g + (k - 1) < 160 from by omega) dX8_fromOf_20 ?_
    have r2 : (0 : Int) ≤ τ 9 (20 * g + (k - 1)) ∧ τ 9 (20 * g + (k - 1)) ≤ 20000 := hI 9 (20 * g + (k - 1))
    exact s_iret hx hb hr hlocks (by unfold frO; (first | rw [if_pos (by omega)] | rw [if_neg (by omega)])) dX8_fromOf_21
  · refine z_iconst hx hb dX8_fromOf_4 ?_
    refine lv_goto (tgt := 21) hx hb dX8_fromOf_5 (by decide) ?_
    exact s_iret hx hb hr hlocks (by unfold frO; (first | rw [if_pos (by omega)] | rw [if_neg (by omega)])) dX8_fromOf_21
set_option maxHeartbeats 4000000 in
set_option maxRecDepth 100000 in
theorem c8_thick (l : Launch) (D : va_G) (cI cZ : ClassId) (ad : Nat → Nat) (τ : Tau) (hI : Rng τ) (g : Nat) (zg : Int) (hzg : zg = (g : Int)) (k : Nat) (zk : Int) (hzk : zk = (k : Int)) (h0 : g < 8) (h1 : k < 20) : Met l yX8_thick wsX8_thick { frames := 1, cells := 0, slots := 0, locals := 22 } (mPc D cI cZ ad τ [.ref (ad 0), .int (iI zg), .int (iI zk)]) (rS (thO τ g k)) 0 0 NoA := by
  subst hzg
  subst hzk
  refine m_start (by decide) rfl (Nat.le_of_ble_eq_true rfl) ?_
  intro p e s m below meth c hx hb hr hlocks hml hts hown hW hK ls hl
  have hin8 : ∀ w ∈ wsX80, w ∈ wsX8_thick := by decide +kernel
  have hl : lv_has ls 3 [(0, .ref (ad 0)), (1, .int (iI ((g : Int)))), (2, .int (iI ((k : Int))))] := hl
  refine lv_aload_n hx hb dX8_thick_0 rfl (lv_at hl 0 rfl) ?_
  refine m_get hx hb hts hin8 hown hK hW 9 (by decide) (hts _ (by decide +kernel)) (v := .ref (ad 9)) rfl dX8_thick_1 ?_
  refine z_bipush hx hb dX8_thick_4 (by decide) ?_
  refine lv_iload_n hx hb dX8_thick_6 rfl (lv_at hl 1 rfl) ?_
  refine z_imul hx hb dX8_thick_7 ?_
  refine lv_iload_n hx hb dX8_thick_8 rfl (lv_at hl 2 rfl) ?_
  refine z_iadd hx hb dX8_thick_9 ?_
  refine m_ald (d := 9) (j := (20 * g) + k) hx hb hK hW rfl (by omega) (show (20 * g) + k < 160 from by omega) dX8_thick_10 ?_
  have r1 : (0 : Int) ≤ τ 9 ((20 * g) + k) ∧ τ 9 ((20 * g) + k) ≤ 20000 := hI 9 ((20 * g) + k)
  refine lv_aload_n hx hb dX8_thick_11 rfl (lv_at hl 0 rfl) ?_
  refine lv_iload_n hx hb dX8_thick_12 rfl (lv_at hl 1 rfl) ?_
  refine lv_iload_n hx hb dX8_thick_13 rfl (lv_at hl 2 rfl) ?_
  refine m_call (n := 2) (As := [.int (iI ((g : Int))), .int (iI ((k : Int)))]) (rest := [.int (iI (τ 9 ((20 * g) + k)))]) hx hb hml hts hown hK hW (c8_fromOf l D cI cZ ad τ hI g (g : Int) (by omega) k (k : Int) (by omega) (by omega) (by omega)) gX8_thick_X8_fromOf rfl rfl rfl (by decide +kernel) ⟨by decide, by decide⟩ rfl hl.1 rfl (Nat.le_of_ble_eq_true rfl) ⟨Nat.zero_le _, Nat.zero_le _⟩ dX8_thick_14 ?_
  have r2 := fr_r hI g k
  refine z_isub hx hb dX8_thick_17 ?_
  exact s_iret hx hb hr hlocks (rfl) dX8_thick_18
set_option maxHeartbeats 4000000 in
set_option maxRecDepth 100000 in
theorem c8_code (l : Launch) (D : va_G) (cI cZ : ClassId) (ad : Nat → Nat) (τ : Tau) (hI : Rng τ) (a : Int) (h_a : I32 a) (u : Int) (h_u : I32 u)  : Met l yX8_code wsX8_code { frames := 1, cells := 0, slots := 0, locals := 25 } (mPc D cI cZ ad τ [.ref (ad 0), .int (iI (a)), .int (iI (u))]) (mQ D cI cZ ad (some (.int (iI (spCode τ a u)))) (stCode τ a u)) 0 0 (MA ad) := by
  refine m_start (by decide) rfl (Nat.le_of_ble_eq_true rfl) ?_
  intro p e s m below meth c hx hb hr hlocks hml hts hown hW hK ls hl
  have hin8 : ∀ w ∈ wsX80, w ∈ wsX8_code := by decide +kernel
  have hS : va_S (MA ad) s.heap s.heap [] := va_S.rf
  have hz : s.heap.size = s.heap.size := rfl
  have hR : Rng τ := hI
  have hl : lv_has ls 4 [(0, .ref (ad 0)), (1, .int (iI (a))), (2, .int (iI (u)))] := hl
  refine lv_iload_n hx hb dX8_code_0 rfl (lv_at hl 1 rfl) ?_
  refine z_i2l hx hb (by omega) dX8_code_1 ?_
  refine z_lconst (n := 0) hx hb (by decide) dX8_code_2 ?_
  refine z_ldc2 (n := 9) hx hb hown (hts (.constantLong RX8 124 (9)) (by decide +kernel)) (by decide) dX8_code_3 ?_
  refine s_call (n := 3) (As := [.long (lL (a)), .long (lL (0)), .long (lL (9))]) (rest := []) hx hb hml hts hown (c8_in l a (by omega) 0 (by omega) 9 (by omega)) gX8_code_X8_in rfl rfl rfl (by decide +kernel) ⟨by decide, by decide⟩ rfl hl.1 rfl (Nat.le_of_ble_eq_true rfl) ⟨Nat.zero_le _, Nat.zero_le _⟩ dX8_code_6 ?_
  refine z_if_neB (tgt := 15) hx hb dX8_code_9 (by decide) (fun c1 => ?_) (fun c1 => ?_)
  · refine lv_iload_n hx hb dX8_code_15 rfl (lv_at hl 2 rfl) ?_
    refine z_i2l hx hb (by omega) dX8_code_16 ?_
    refine z_lconst (n := 0) hx hb (by decide) dX8_code_17 ?_
    refine z_ldc2 (n := 9) hx hb hown (hts (.constantLong RX8 124 (9)) (by decide +kernel)) (by decide) dX8_code_18 ?_
    refine s_call (n := 3) (As := [.long (lL (u)), .long (lL (0)), .long (lL (9))]) (rest := []) hx hb hml hts hown (c8_in l u (by omega) 0 (by omega) 9 (by omega)) gX8_code_X8_in rfl rfl rfl (by decide +kernel) ⟨by decide, by decide⟩ rfl hl.1 rfl (Nat.le_of_ble_eq_true rfl) ⟨Nat.zero_le _, Nat.zero_le _⟩ dX8_code_21 ?_
    refine z_if_neB (tgt := 30) hx hb dX8_code_24 (by decide) (fun c2 => ?_) (fun c2 => ?_)
    · refine lv_aload_n hx hb dX8_code_30 rfl (lv_at hl 0 rfl) ?_
      refine m_get hx hb hts hin8 hown hK hW 11 (by decide) (hts _ (by decide +kernel)) (v := .ref (ad 11)) rfl dX8_code_31 ?_
      refine lv_iload_n hx hb dX8_code_34 rfl (lv_at hl 1 rfl) ?_
      refine m_ald (d := 11) (j := a.toNat) hx hb hK hW rfl (by omega) (show a.toNat < 10 from by omega) dX8_code_35 ?_
      have r3 : (0 : Int) ≤ τ 11 a.toNat ∧ τ 11 a.toNat ≤ 9 := hI 11 a.toNat
      refine lv_istore_n (lv' := [(3, .int (iI (τ 11 a.toNat))), (0, .ref (ad 0)), (1, .int (iI (a))), (2, .int (iI (u)))]) hx hb dX8_code_36 rfl hl (by decide) rfl (fun ls hl => ?_)
      refine lv_aload_n hx hb dX8_code_37 rfl (lv_at hl 1 rfl) ?_
      refine m_get hx hb hts hin8 hown hK hW 11 (by decide) (hts _ (by decide +kernel)) (v := .ref (ad 11)) rfl dX8_code_38 ?_
      refine lv_iload_n hx hb dX8_code_41 rfl (lv_at hl 2 rfl) ?_
      refine lv_iload_n hx hb dX8_code_42 rfl (lv_at hl 3 rfl) ?_
      refine m_ast (d := 11) (j := a.toNat) (v := u) hx hb hK hW hS hz rfl (by omega) (show a.toNat < 10 from by omega) dX8_code_43 (fun H locs hW hS hz => ?_)
      have hR := Rng.tu (c := 11) (i := a.toNat) (v := u) hR (show (0 : Int) ≤ u from by omega) (show u ≤ 9 from by omega)
      refine lv_iload_n hx hb dX8_code_44 rfl (lv_at hl 0 rfl) ?_
      exact m_iret hx hb hr hlocks (by unfold stCode; rw [if_pos (by refine ⟨?_, ?_⟩ <;> first | omega | assumption)]; exact hW) hS hz (by unfold spCode; repeat (first | rw [if_pos (by first | assumption | omega)] | rw [if_neg (by first | assumption | omega)])) dX8_code_45
    · refine z_bipush hx hb dX8_code_27 (by decide) ?_
      exact m_iret hx hb hr hlocks (by unfold stCode; rw [if_neg (fun hk => by first | omega | exact hk.1 (by assumption) | exact hk.2.1 (by assumption) | exact hk.2.2.1 (by assumption) | exact hk.2.2.2.1 (by assumption) | exact hk.2.2.2 (by assumption) | exact hk.2.2.2.2 (by assumption))]; exact hW) hS hz (by unfold spCode; repeat (first | rw [if_pos (by first | assumption | omega)] | rw [if_neg (by first | assumption | omega)])) dX8_code_29
  · refine z_bipush hx hb dX8_code_12 (by decide) ?_
    exact m_iret hx hb hr hlocks (by unfold stCode; rw [if_neg (fun hk => by first | omega | exact hk.1 (by assumption) | exact hk.2.1 (by assumption) | exact hk.2.2.1 (by assumption) | exact hk.2.2.2.1 (by assumption) | exact hk.2.2.2 (by assumption) | exact hk.2.2.2.2 (by assumption))]; exact hW) hS hz (by unfold spCode; repeat (first | rw [if_pos (by first | assumption | omega)] | rw [if_neg (by first | assumption | omega)])) dX8_code_14
set_option maxHeartbeats 4000000 in
set_option maxRecDepth 100000 in
theorem c8_layer (l : Launch) (D : va_G) (cI cZ : ClassId) (ad : Nat → Nat) (τ : Tau) (hI : Rng τ) (a : Int) (h_a : I32 a) (b : Int) (h_b : I32 b) (u : Int) (h_u : I32 u) (v : Int) (h_v : I32 v)  : Met l yX8_layer wsX8_layer { frames := 2, cells := 0, slots := 0, locals := 46 } (mPc D cI cZ ad τ [.ref (ad 0), .int (iI (a)), .int (iI (b)), .int (iI (u)), .int (iI (v))]) (mQ D cI cZ ad (some (.int (iI (spLayer τ a b u v)))) (stLayer τ a b u v)) 0 0 (MA ad) := by
  refine m_start (by decide) rfl (Nat.le_of_ble_eq_true rfl) ?_
  intro p e s m below meth c hx hb hr hlocks hml hts hown hW hK ls hl
  have hin8 : ∀ w ∈ wsX80, w ∈ wsX8_layer := by decide +kernel
  have hS : va_S (MA ad) s.heap s.heap [] := va_S.rf
  have hz : s.heap.size = s.heap.size := rfl
  have hR : Rng τ := hI
  have hl : lv_has ls 7 [(0, .ref (ad 0)), (1, .int (iI (a))), (2, .int (iI (b))), (3, .int (iI (u))), (4, .int (iI (v)))] := hl
  refine lv_aload_n hx hb dX8_layer_0 rfl (lv_at hl 0 rfl) ?_
  refine lv_iload_n hx hb dX8_layer_1 rfl (lv_at hl 1 rfl) ?_
  refine m_call (n := 1) (As := [.int (iI (a))]) (rest := []) hx hb hml hts hown hK hW (c8_isHole l D cI cZ ad τ hI a (by omega)) gX8_layer_X8_isHole rfl rfl rfl (by decide +kernel) ⟨by decide, by decide⟩ rfl hl.1 rfl (Nat.le_of_ble_eq_true rfl) ⟨Nat.zero_le _, Nat.zero_le _⟩ dX8_layer_2 ?_
  have r1 := (show (0 : Int) ≤ τ 0 0 ∧ τ 0 0 ≤ 4 from hI 0 0)
  refine z_if_eqB (tgt := 15) hx hb dX8_layer_5 (by decide) (fun c2 => ?_) (fun c2 => ?_)
  · refine z_bipush hx hb dX8_layer_15 (by decide) ?_
    exact m_iret hx hb hr hlocks (by unfold stLayer; rw [if_neg (fun hk => by first | omega | exact hk.1 (by assumption) | exact hk.2.1 (by assumption) | exact hk.2.2.1 (by assumption) | exact hk.2.2.2.1 (by assumption) | exact hk.2.2.2 (by assumption) | exact hk.2.2.2.2 (by assumption))]; exact hW) hS hz (by unfold spLayer; repeat (first | rw [if_pos (by first | assumption | omega)] | rw [if_neg (by first | assumption | omega)])) dX8_layer_17
  · refine lv_iload_n hx hb dX8_layer_8 rfl (lv_at hl 2 rfl) ?_
    refine s_call (n := 1) (As := [.int (iI (b))]) (rest := []) hx hb hml hts hown (c8_isLog l b (by omega)) gX8_layer_X8_isLog rfl rfl rfl (by decide +kernel) ⟨by decide, by decide⟩ rfl hl.1 rfl (Nat.le_of_ble_eq_true rfl) ⟨Nat.zero_le _, Nat.zero_le _⟩ dX8_layer_9 ?_
    refine z_if_neB (tgt := 18) hx hb dX8_layer_12 (by decide) (fun c3 => ?_) (fun c3 => ?_)
    · refine z_iconst hx hb dX8_layer_18 ?_
      refine lv_iload_n hx hb dX8_layer_19 rfl (lv_at hl 1 rfl) ?_
      refine z_imul hx hb dX8_layer_20 ?_
      refine lv_iload_n hx hb dX8_layer_21 rfl (lv_at hl 2 rfl) ?_
      refine z_iadd hx hb dX8_layer_22 ?_
      refine lv_istore (lv' := [(5, .int (iI ((2 * a) + b))), (0, .ref (ad 0)), (1, .int (iI (a))), (2, .int (iI (b))), (3, .int (iI (u))), (4, .int (iI (v)))]) hx hb dX8_layer_23 hl (by decide) rfl (fun ls hl => ?_)
      have jn59 : ∀ xj : Int, xj = frO τ (2 * a.toNat + b.toNat) (τ 8 (2 * a.toNat + b.toNat)).toNat → ∀ ls : Array Slot, lv_has ls 7 [(5, .int (iI ((2 * a) + b))), (0, .ref (ad 0)), (1, .int (iI (a))), (2, .int (iI (b))), (3, .int (iI (u))), (4, .int (iI (v)))] → W p l e { frames := 2, cells := 0, slots := 0, locals := 46 } s m [.ref (ad 0), .int (iI (a)), .int (iI (b)), .int (iI (u)), .int (iI (v))].toArray below meth c s.heap [] 0 0 (MQ below (mQ D cI cZ ad (some (.int (iI (spLayer τ a b u v)))) (stLayer τ a b u v)) [.ref (ad 0), .int (iI (a)), .int (iI (b)), .int (iI (u)), .int (iI (v))].toArray s 0 0 (MA ad)) (F0 m 59 ls (.int (iI xj) :: [])) := by
        intro xj ej ls hl
        subst ej
        refine lv_istore (lv' := [(6, .int (iI (frO τ (2 * a.toNat + b.toNat) (τ 8 (2 * a.toNat + b.toNat)).toNat))), (5, .int (iI ((2 * a) + b))), (0, .ref (ad 0)), (1, .int (iI (a))), (2, .int (iI (b))), (3, .int (iI (u))), (4, .int (iI (v)))]) hx hb dX8_layer_59 hl (by decide) rfl (fun ls hl => ?_)
        have hfr := fr_r hI (2 * a.toNat + b.toNat) (τ 8 (2 * a.toNat + b.toNat)).toNat
        refine lv_iload_n hx hb dX8_layer_61 rfl (lv_at hl 5 rfl) ?_
        refine lv_iload hx hb dX8_layer_62 (lv_at hl 0 rfl) ?_
        refine z_icmp_le (tgt := 89) hx hb (by omega) (by omega) dX8_layer_64 (by decide) (fun c4 => ?_) (fun c4 => ?_)
        · refine z_bipush hx hb dX8_layer_89 (by decide) ?_
          exact m_iret hx hb hr hlocks (by unfold stLayer; rw [if_neg (fun hk => by first | omega | exact hk.1 (by assumption) | exact hk.2.1 (by assumption) | exact hk.2.2.1 (by assumption) | exact hk.2.2.2.1 (by assumption) | exact hk.2.2.2 (by assumption) | exact hk.2.2.2.2 (by assumption))]; exact hW) hS hz (by unfold spLayer; repeat (first | rw [if_pos (by first | assumption | omega)] | rw [if_neg (by first | assumption | omega)])) dX8_layer_91
        · refine lv_iload_n hx hb dX8_layer_67 rfl (lv_at hl 5 rfl) ?_
          refine lv_aload_n hx hb dX8_layer_68 rfl (lv_at hl 2 rfl) ?_
          refine lv_iload_n hx hb dX8_layer_69 rfl (lv_at hl 3 rfl) ?_
          refine m_call (n := 1) (As := [.int (iI (a))]) (rest := [.int (iI (u))]) hx hb hml hts hown hK hW (c8_endOf l D cI cZ ad τ hI a.toNat a (by omega) (by omega)) gX8_layer_X8_endOf rfl rfl rfl (by decide +kernel) ⟨by decide, by decide⟩ rfl hl.1 rfl (Nat.le_of_ble_eq_true rfl) ⟨Nat.zero_le _, Nat.zero_le _⟩ dX8_layer_70 ?_
          have r5 := en_r hI a.toNat
          refine z_icmp_gt (tgt := 89) hx hb (by omega) (by omega) dX8_layer_73 (by decide) (fun c6 => ?_) (fun c6 => ?_)
          · refine z_bipush hx hb dX8_layer_89 (by decide) ?_
            exact m_iret hx hb hr hlocks (by unfold stLayer; rw [if_neg (fun hk => by first | omega | exact hk.1 (by assumption) | exact hk.2.1 (by assumption) | exact hk.2.2.1 (by assumption) | exact hk.2.2.2.1 (by assumption) | exact hk.2.2.2 (by assumption) | exact hk.2.2.2.2 (by assumption))]; exact hW) hS hz (by unfold spLayer; repeat (first | rw [if_pos (by first | assumption | omega)] | rw [if_neg (by first | assumption | omega)])) dX8_layer_91
          · refine lv_iload hx hb dX8_layer_76 (lv_at hl 6 rfl) ?_
            refine z_i2l hx hb (by omega) dX8_layer_78 ?_
            refine z_lconst (n := 0) hx hb (by decide) dX8_layer_79 ?_
            refine z_ldc2 (n := 9) hx hb hown (hts (.constantLong RX8 124 (9)) (by decide +kernel)) (by decide) dX8_layer_80 ?_
            refine s_call (n := 3) (As := [.long (lL (v)), .long (lL (0)), .long (lL (9))]) (rest := []) hx hb hml hts hown (c8_in l v (by omega) 0 (by omega) 9 (by omega)) gX8_layer_X8_in rfl rfl rfl (by decide +kernel) ⟨by decide, by decide⟩ rfl hl.1 rfl (Nat.le_of_ble_eq_true rfl) ⟨Nat.zero_le _, Nat.zero_le _⟩ dX8_layer_83 ?_
            refine z_if_neB (tgt := 92) hx hb dX8_layer_86 (by decide) (fun c7 => ?_) (fun c7 => ?_)
            · refine lv_aload_n hx hb dX8_layer_92 rfl (lv_at hl 2 rfl) ?_
              refine m_get hx hb hts hin8 hown hK hW 8 (by decide) (hts _ (by decide +kernel)) (v := .ref (ad 8)) rfl dX8_layer_93 ?_
              refine lv_iload hx hb dX8_layer_96 (lv_at hl 1 rfl) ?_
              refine m_ald (d := 8) (j := (2 * a.toNat) + b.toNat) hx hb hK hW rfl (by omega) (show (2 * a.toNat) + b.toNat < 8 from by omega) dX8_layer_98 ?_
              have r8 : (0 : Int) ≤ τ 8 ((2 * a.toNat) + b.toNat) ∧ τ 8 ((2 * a.toNat) + b.toNat) ≤ 20 := hI 8 ((2 * a.toNat) + b.toNat)
              refine z_bipush hx hb dX8_layer_99 (by decide) ?_
              refine z_icmp_ne (tgt := 107) hx hb (by omega) (by omega) dX8_layer_101 (by decide) (fun c9 => ?_) (fun c9 => ?_)
              · refine lv_aload_n hx hb dX8_layer_107 rfl (lv_at hl 2 rfl) ?_
                refine m_get hx hb hts hin8 hown hK hW 9 (by decide) (hts _ (by decide +kernel)) (v := .ref (ad 9)) rfl dX8_layer_108 ?_
                refine z_bipush hx hb dX8_layer_111 (by decide) ?_
                refine lv_iload hx hb dX8_layer_113 (lv_at hl 1 rfl) ?_
                refine z_imul hx hb dX8_layer_115 ?_
                refine lv_aload_n hx hb dX8_layer_116 rfl (lv_at hl 2 rfl) ?_
                refine m_get hx hb hts hin8 hown hK hW 8 (by decide) (hts _ (by decide +kernel)) (v := .ref (ad 8)) rfl dX8_layer_117 ?_
                refine lv_iload hx hb dX8_layer_120 (lv_at hl 1 rfl) ?_
                refine m_ald (d := 8) (j := (2 * a.toNat) + b.toNat) hx hb hK hW rfl (by omega) (show (2 * a.toNat) + b.toNat < 8 from by omega) dX8_layer_122 ?_
                refine z_iadd hx hb dX8_layer_123 ?_
                refine lv_iload_n hx hb dX8_layer_124 rfl (lv_at hl 5 rfl) ?_
                refine m_ast (d := 9) (j := (20 * ((2 * a.toNat) + b.toNat)) + ((τ 8 ((2 * a.toNat) + b.toNat)).toNat)) (v := u) hx hb hK hW hS hz rfl (by omega) (show (20 * ((2 * a.toNat) + b.toNat)) + ((τ 8 ((2 * a.toNat) + b.toNat)).toNat) < 160 from by omega) dX8_layer_125 (fun H locs hW hS hz => ?_)
                have hR := Rng.tu (c := 9) (i := (20 * ((2 * a.toNat) + b.toNat)) + ((τ 8 ((2 * a.toNat) + b.toNat)).toNat)) (v := u) hR (show (0 : Int) ≤ u from by omega) (show u ≤ 20000 from by omega)
                refine lv_aload_n hx hb dX8_layer_126 rfl (lv_at hl 2 rfl) ?_
                refine m_get hx hb hts hin8 hown hK hW 10 (by decide) (hts _ (by decide +kernel)) (v := .ref (ad 10)) rfl dX8_layer_127 ?_
                refine z_bipush hx hb dX8_layer_130 (by decide) ?_
                refine lv_iload hx hb dX8_layer_132 (lv_at hl 1 rfl) ?_
                refine z_imul hx hb dX8_layer_134 ?_
                refine lv_aload_n hx hb dX8_layer_135 rfl (lv_at hl 2 rfl) ?_
                refine m_get hx hb hts hin8 hown hK hW 8 (by decide) (hts _ (by decide +kernel)) (v := .ref (ad 8)) rfl dX8_layer_136 ?_
                refine lv_iload hx hb dX8_layer_139 (lv_at hl 1 rfl) ?_
                refine m_ald (d := 8) (j := (2 * a.toNat) + b.toNat) hx hb hK hW rfl (by omega) (show (2 * a.toNat) + b.toNat < 8 from by omega) dX8_layer_141 ?_
                refine z_top (show (tu τ 9 ((20 * ((2 * a.toNat) + b.toNat)) + ((τ 8 ((2 * a.toNat) + b.toNat)).toNat)) u) 8 ((2 * a.toNat) + b.toNat) = τ 8 ((2 * a.toNat) + b.toNat) from by rw [tu_n (show 8 ≠ 9 by decide)]) ?_
                refine z_iadd hx hb dX8_layer_142 ?_
                refine lv_iload hx hb dX8_layer_143 (lv_at hl 6 rfl) ?_
                refine m_ast (d := 10) (j := (20 * ((2 * a.toNat) + b.toNat)) + ((τ 8 ((2 * a.toNat) + b.toNat)).toNat)) (v := v) hx hb hK hW hS hz rfl (by omega) (show (20 * ((2 * a.toNat) + b.toNat)) + ((τ 8 ((2 * a.toNat) + b.toNat)).toNat) < 160 from by omega) dX8_layer_145 (fun H locs hW hS hz => ?_)
                have hR := Rng.tu (c := 10) (i := (20 * ((2 * a.toNat) + b.toNat)) + ((τ 8 ((2 * a.toNat) + b.toNat)).toNat)) (v := v) hR (show (0 : Int) ≤ v from by omega) (show v ≤ 9 from by omega)
                refine lv_aload_n hx hb dX8_layer_146 rfl (lv_at hl 2 rfl) ?_
                refine m_get hx hb hts hin8 hown hK hW 8 (by decide) (hts _ (by decide +kernel)) (v := .ref (ad 8)) rfl dX8_layer_147 ?_
                refine lv_iload hx hb dX8_layer_150 (lv_at hl 1 rfl) ?_
                refine lv_dup2_11 hx hb dX8_layer_152 rfl rfl ?_
                refine m_ald (d := 8) (j := (2 * a.toNat) + b.toNat) hx hb hK hW rfl (by omega) (show (2 * a.toNat) + b.toNat < 8 from by omega) dX8_layer_153 ?_
                refine z_top (show (tu (tu τ 9 ((20 * ((2 * a.toNat) + b.toNat)) + ((τ 8 ((2 * a.toNat) + b.toNat)).toNat)) u) 10 ((20 * ((2 * a.toNat) + b.toNat)) + ((τ 8 ((2 * a.toNat) + b.toNat)).toNat)) v) 8 ((2 * a.toNat) + b.toNat) = τ 8 ((2 * a.toNat) + b.toNat) from by rw [tu_n (show 8 ≠ 10 by decide), tu_n (show 8 ≠ 9 by decide)]) ?_
                refine z_iconst hx hb dX8_layer_154 ?_
                refine z_iadd hx hb dX8_layer_155 ?_
                refine m_ast (d := 8) (j := (2 * a.toNat) + b.toNat) (v := (τ 8 ((2 * a.toNat) + b.toNat)) + 1) hx hb hK hW hS hz rfl (by omega) (show (2 * a.toNat) + b.toNat < 8 from by omega) dX8_layer_156 (fun H locs hW hS hz => ?_)
                have hR := Rng.tu (c := 8) (i := (2 * a.toNat) + b.toNat) (v := (τ 8 ((2 * a.toNat) + b.toNat)) + 1) hR (show (0 : Int) ≤ (τ 8 ((2 * a.toNat) + b.toNat)) + 1 from by omega) (show (τ 8 ((2 * a.toNat) + b.toNat)) + 1 ≤ 20 from by omega)
                refine lv_aload_n hx hb dX8_layer_157 rfl (lv_at hl 2 rfl) ?_
                refine m_get hx hb hts hin8 hown hK hW 8 (by decide) (hts _ (by decide +kernel)) (v := .ref (ad 8)) rfl dX8_layer_158 ?_
                refine lv_iload hx hb dX8_layer_161 (lv_at hl 1 rfl) ?_
                refine m_ald (d := 8) (j := (2 * a.toNat) + b.toNat) hx hb hK hW rfl (by omega) (show (2 * a.toNat) + b.toNat < 8 from by omega) dX8_layer_163 ?_
                refine z_top (show (tu (tu (tu τ 9 ((20 * ((2 * a.toNat) + b.toNat)) + ((τ 8 ((2 * a.toNat) + b.toNat)).toNat)) u) 10 ((20 * ((2 * a.toNat) + b.toNat)) + ((τ 8 ((2 * a.toNat) + b.toNat)).toNat)) v) 8 ((2 * a.toNat) + b.toNat) ((τ 8 ((2 * a.toNat) + b.toNat)) + 1)) 8 ((2 * a.toNat) + b.toNat) = (τ 8 ((2 * a.toNat) + b.toNat)) + 1 from by rw [tu_s]) ?_
                exact m_iret hx hb hr hlocks (by unfold stLayer; rw [if_pos (by refine ⟨?_, ?_, ?_⟩ <;> first | omega | assumption)]; exact hW) hS hz (by unfold spLayer; repeat (first | rw [if_pos (by first | assumption | omega)] | rw [if_neg (by first | assumption | omega)])) dX8_layer_164
              · refine z_bipush hx hb dX8_layer_104 (by decide) ?_
                exact m_iret hx hb hr hlocks (by unfold stLayer; rw [if_neg (fun hk => by first | omega | exact hk.1 (by assumption) | exact hk.2.1 (by assumption) | exact hk.2.2.1 (by assumption) | exact hk.2.2.2.1 (by assumption) | exact hk.2.2.2 (by assumption) | exact hk.2.2.2.2 (by assumption))]; exact hW) hS hz (by unfold spLayer; repeat (first | rw [if_pos (by first | assumption | omega)] | rw [if_neg (by first | assumption | omega)])) dX8_layer_106
            · refine z_bipush hx hb dX8_layer_89 (by decide) ?_
              exact m_iret hx hb hr hlocks (by unfold stLayer; rw [if_neg (fun hk => by first | omega | exact hk.1 (by assumption) | exact hk.2.1 (by assumption) | exact hk.2.2.1 (by assumption) | exact hk.2.2.2.1 (by assumption) | exact hk.2.2.2 (by assumption) | exact hk.2.2.2.2 (by assumption))]; exact hW) hS hz (by unfold spLayer; repeat (first | rw [if_pos (by first | assumption | omega)] | rw [if_neg (by first | assumption | omega)])) dX8_layer_91
      refine lv_aload_n hx hb dX8_layer_25 rfl (lv_at hl 1 rfl) ?_
      refine m_get hx hb hts hin8 hown hK hW 8 (by decide) (hts _ (by decide +kernel)) (v := .ref (ad 8)) rfl dX8_layer_26 ?_
      refine lv_iload hx hb dX8_layer_29 (lv_at hl 0 rfl) ?_
      refine m_ald (d := 8) (j := (2 * a.toNat) + b.toNat) hx hb hK hW rfl (by omega) (show (2 * a.toNat) + b.toNat < 8 from by omega) dX8_layer_31 ?_
      have r10 : (0 : Int) ≤ τ 8 ((2 * a.toNat) + b.toNat) ∧ τ 8 ((2 * a.toNat) + b.toNat) ≤ 20 := hI 8 ((2 * a.toNat) + b.toNat)
      refine z_if_ne (tgt := 39) hx hb (by omega) dX8_layer_32 (by decide) (fun c11 => ?_) (fun c11 => ?_)
      · refine lv_aload_n hx hb dX8_layer_39 rfl (lv_at hl 1 rfl) ?_
        refine m_get hx hb hts hin8 hown hK hW 9 (by decide) (hts _ (by decide +kernel)) (v := .ref (ad 9)) rfl dX8_layer_40 ?_
        refine z_bipush hx hb dX8_layer_43 (by decide) ?_
        refine lv_iload hx hb dX8_layer_45 (lv_at hl 0 rfl) ?_
        refine z_imul hx hb dX8_layer_47 ?_
        refine lv_aload_n hx hb dX8_layer_48 rfl (lv_at hl 1 rfl) ?_
        refine m_get hx hb hts hin8 hown hK hW 8 (by decide) (hts _ (by decide +kernel)) (v := .ref (ad 8)) rfl dX8_layer_49 ?_
        refine lv_iload hx hb dX8_layer_52 (lv_at hl 0 rfl) ?_
        refine m_ald (d := 8) (j := (2 * a.toNat) + b.toNat) hx hb hK hW rfl (by omega) (show (2 * a.toNat) + b.toNat < 8 from by omega) dX8_layer_54 ?_
        refine z_iadd hx hb dX8_layer_55 ?_
        refine z_iconst hx hb dX8_layer_56 ?_
        refine z_isub hx hb dX8_layer_57 ?_
        refine m_ald (d := 9) (j := 20 * (2 * a.toNat + b.toNat) + ((τ 8 (2 * a.toNat + b.toNat)).toNat - 1)) hx hb hK hW rfl (by omega) (show 20 * (2 * a.toNat + b.toNat) + ((τ 8 (2 * a.toNat + b.toNat)).toNat - 1) < 160 from by omega) dX8_layer_58 ?_
        have r12 : (0 : Int) ≤ τ 9 (20 * (2 * a.toNat + b.toNat) + ((τ 8 (2 * a.toNat + b.toNat)).toNat - 1)) ∧ τ 9 (20 * (2 * a.toNat + b.toNat) + ((τ 8 (2 * a.toNat + b.toNat)).toNat - 1)) ≤ 20000 := hI 9 (20 * (2 * a.toNat + b.toNat) + ((τ 8 (2 * a.toNat + b.toNat)).toNat - 1))
        exact jn59 (τ 9 (20 * (2 * a.toNat + b.toNat) + ((τ 8 (2 * a.toNat + b.toNat)).toNat - 1))) (by unfold frO; rw [if_neg (by omega)]) ls (lv_sub hl [0, 1, 2, 3, 4, 5] rfl)
      · refine z_iconst hx hb dX8_layer_35 ?_
        refine lv_goto (tgt := 59) hx hb dX8_layer_36 (by decide) ?_
        exact jn59 0 (by unfold frO; rw [if_pos (by omega)]) ls (lv_sub hl [0, 1, 2, 3, 4, 5] rfl)
    · refine z_bipush hx hb dX8_layer_15 (by decide) ?_
      exact m_iret hx hb hr hlocks (by unfold stLayer; rw [if_neg (fun hk => by first | omega | exact hk.1 (by assumption) | exact hk.2.1 (by assumption) | exact hk.2.2.1 (by assumption) | exact hk.2.2.2.1 (by assumption) | exact hk.2.2.2 (by assumption) | exact hk.2.2.2.2 (by assumption))]; exact hW) hS hz (by unfold spLayer; repeat (first | rw [if_pos (by first | assumption | omega)] | rw [if_neg (by first | assumption | omega)])) dX8_layer_17
set_option maxHeartbeats 4000000 in
set_option maxRecDepth 100000 in
theorem c8_rock (l : Launch) (D : va_G) (cI cZ : ClassId) (ad : Nat → Nat) (τ : Tau) (hI : Rng τ) (a : Int) (h_a : I32 a) (b : Int) (h_b : I32 b) (x : Int) (h_x : I32 x)  : Met l yX8_rock wsX8_rock { frames := 2, cells := 0, slots := 0, locals := 46 } (mPc D cI cZ ad τ [.ref (ad 0), .int (iI (a)), .int (iI (b)), .int (iI (x))]) (rS (spRock τ a b x)) 0 0 NoA := by
  refine m_start (by decide) rfl (Nat.le_of_ble_eq_true rfl) ?_
  intro p e s m below meth c hx hb hr hlocks hml hts hown hW hK ls hl
  have hin8 : ∀ w ∈ wsX80, w ∈ wsX8_rock := by decide +kernel
  have hl : lv_has ls 6 [(0, .ref (ad 0)), (1, .int (iI (a))), (2, .int (iI (b))), (3, .int (iI (x)))] := hl
  refine lv_aload_n hx hb dX8_rock_0 rfl (lv_at hl 0 rfl) ?_
  refine lv_iload_n hx hb dX8_rock_1 rfl (lv_at hl 1 rfl) ?_
  refine m_call (n := 1) (As := [.int (iI (a))]) (rest := []) hx hb hml hts hown hK hW (c8_isHole l D cI cZ ad τ hI a (by omega)) gX8_rock_X8_isHole rfl rfl rfl (by decide +kernel) ⟨by decide, by decide⟩ rfl hl.1 rfl (Nat.le_of_ble_eq_true rfl) ⟨Nat.zero_le _, Nat.zero_le _⟩ dX8_rock_2 ?_
  have r1 := (show (0 : Int) ≤ τ 0 0 ∧ τ 0 0 ≤ 4 from hI 0 0)
  refine z_if_eqB (tgt := 15) hx hb dX8_rock_5 (by decide) (fun c2 => ?_) (fun c2 => ?_)
  · refine z_bipush hx hb dX8_rock_15 (by decide) ?_
    exact s_iret hx hb hr hlocks (by unfold spRock; repeat (first | rw [if_pos (by first | assumption | omega)] | rw [if_neg (by first | assumption | omega)])) dX8_rock_17
  · refine lv_iload_n hx hb dX8_rock_8 rfl (lv_at hl 2 rfl) ?_
    refine s_call (n := 1) (As := [.int (iI (b))]) (rest := []) hx hb hml hts hown (c8_isLog l b (by omega)) gX8_rock_X8_isLog rfl rfl rfl (by decide +kernel) ⟨by decide, by decide⟩ rfl hl.1 rfl (Nat.le_of_ble_eq_true rfl) ⟨Nat.zero_le _, Nat.zero_le _⟩ dX8_rock_9 ?_
    refine z_if_neB (tgt := 18) hx hb dX8_rock_12 (by decide) (fun c3 => ?_) (fun c3 => ?_)
    · refine z_iconst hx hb dX8_rock_18 ?_
      refine lv_iload_n hx hb dX8_rock_19 rfl (lv_at hl 1 rfl) ?_
      refine z_imul hx hb dX8_rock_20 ?_
      refine lv_iload_n hx hb dX8_rock_21 rfl (lv_at hl 2 rfl) ?_
      refine z_iadd hx hb dX8_rock_22 ?_
      refine lv_istore (lv' := [(4, .int (iI ((2 * a) + b))), (0, .ref (ad 0)), (1, .int (iI (a))), (2, .int (iI (b))), (3, .int (iI (x)))]) hx hb dX8_rock_23 hl (by decide) rfl (fun ls hl => ?_)
      obtain ⟨N, hN⟩ : ∃ N : Nat, τ 8 (2 * a.toNat + b.toNat) = N := ⟨(τ 8 (2 * a.toNat + b.toNat)).toNat, by have : (0 : Int) ≤ τ 8 (2 * a.toNat + b.toNat) ∧ τ 8 (2 * a.toNat + b.toNat) ≤ 20 := hI 8 (2 * a.toNat + b.toNat); omega⟩
      have hN2 : (τ 8 (2 * a.toNat + b.toNat)).toNat = N := by omega
      have hN3 : N ≤ 20 := by have : (0 : Int) ≤ τ 8 (2 * a.toNat + b.toNat) ∧ τ 8 (2 * a.toNat + b.toNat) ≤ 20 := hI 8 (2 * a.toNat + b.toNat); omega
      refine z_iconst hx hb dX8_rock_25 ?_
      refine lv_istore (lv' := [(5, .int (iI (0))), (4, .int (iI ((2 * a) + b))), (0, .ref (ad 0)), (1, .int (iI (a))), (2, .int (iI (b))), (3, .int (iI (x)))]) hx hb dX8_rock_26 hl (by decide) rfl (fun ls hl => ?_)
      have lp28 : ∀ (n28 k : Nat) (x5 : Int), x5 = (k : Int) → k ≤ N → N + 1 ≤ k + n28 → (∀ j, j < k → rkB τ (2 * a.toNat + b.toNat) x j = false) → ∀ ls : Array Slot, lv_has ls 6 [(5, .int (iI (x5))), (4, .int (iI ((2 * a) + b))), (0, .ref (ad 0)), (1, .int (iI (a))), (2, .int (iI (b))), (3, .int (iI (x)))] → W p l e { frames := 2, cells := 0, slots := 0, locals := 46 } s m [.ref (ad 0), .int (iI (a)), .int (iI (b)), .int (iI (x))].toArray below meth c s.heap [] 0 0 (MQ below (rS (spRock τ a b x)) [.ref (ad 0), .int (iI (a)), .int (iI (b)), .int (iI (x))].toArray s 0 0 (NoA)) (F0 m 28 ls []) := by
        intro n28
        induction n28 with
        | zero => intro k x5 ex5 hk1 hk2; exact absurd hk2 (by omega)
        | succ n28 ih28 =>
          intro k x5 ex5 hk1 hk2 hn ls hl
          subst ex5
          refine lv_iload hx hb dX8_rock_28 (lv_at hl 0 rfl) ?_
          refine lv_aload_n hx hb dX8_rock_30 rfl (lv_at hl 2 rfl) ?_
          refine m_get hx hb hts hin8 hown hK hW 8 (by decide) (hts _ (by decide +kernel)) (v := .ref (ad 8)) rfl dX8_rock_31 ?_
          refine lv_iload hx hb dX8_rock_34 (lv_at hl 1 rfl) ?_
          refine m_ald (d := 8) (j := (2 * a.toNat) + b.toNat) hx hb hK hW rfl (by omega) (show (2 * a.toNat) + b.toNat < 8 from by omega) dX8_rock_36 ?_
          have r4 : (0 : Int) ≤ τ 8 ((2 * a.toNat) + b.toNat) ∧ τ 8 ((2 * a.toNat) + b.toNat) ≤ 20 := hI 8 ((2 * a.toNat) + b.toNat)
          refine z_icmp_ge (tgt := 84) hx hb (by omega) (by omega) dX8_rock_37 (by decide) (fun c5 => ?_) (fun c5 => ?_)
          · refine z_iconst hx hb dX8_rock_84 ?_
            exact s_iret hx hb hr hlocks (by unfold spRock; rw [if_neg (by omega), if_pos (by unfold rkI; rw [hN2, show N = k by omega]; exact ff_no hn)]) dX8_rock_85
          · refine lv_iload_n hx hb dX8_rock_40 rfl (lv_at hl 5 rfl) ?_
            refine lv_aload_n hx hb dX8_rock_41 rfl (lv_at hl 2 rfl) ?_
            refine lv_iload hx hb dX8_rock_42 (lv_at hl 1 rfl) ?_
            refine lv_iload hx hb dX8_rock_44 (lv_at hl 0 rfl) ?_
            refine m_call (n := 2) (As := [.int (iI ((2 * a) + b)), .int (iI ((k : Int)))]) (rest := [.int (iI (x))]) hx hb hml hts hown hK hW (c8_fromOf l D cI cZ ad τ hI ((2 * a.toNat) + b.toNat) ((2 * a) + b) (by omega) k (k : Int) (by omega) (by omega) (by omega)) gX8_rock_X8_fromOf rfl rfl rfl (by decide +kernel) ⟨by decide, by decide⟩ rfl hl.1 rfl (Nat.le_of_ble_eq_true rfl) ⟨Nat.zero_le _, Nat.zero_le _⟩ dX8_rock_46 ?_
            have r6 := fr_r hI ((2 * a.toNat) + b.toNat) k
            refine z_icmp_lt (tgt := 78) hx hb (by omega) (by omega) dX8_rock_49 (by decide) (fun c7 => ?_) (fun c7 => ?_)
            · refine z_iinc (k := 0) (lv' := [(5, .int (iI ((k : Int) + 1))), (4, .int (iI ((2 * a) + b))), (0, .ref (ad 0)), (1, .int (iI (a))), (2, .int (iI (b))), (3, .int (iI (x)))]) hx hb dX8_rock_78 hl rfl (by decide) rfl (fun ls hl => ?_)
              refine lv_goto (tgt := 28) hx hb dX8_rock_81 (by decide) ?_
              exact ih28 (k + 1) ((k : Int) + 1) (by omega) (by omega) (by omega) (fl_s hn (decide_eq_false (by omega))) ls (lv_sub hl [0, 1, 2, 3, 4, 5] rfl)
            · refine lv_iload_n hx hb dX8_rock_52 rfl (lv_at hl 5 rfl) ?_
              refine lv_aload_n hx hb dX8_rock_53 rfl (lv_at hl 2 rfl) ?_
              refine m_get hx hb hts hin8 hown hK hW 9 (by decide) (hts _ (by decide +kernel)) (v := .ref (ad 9)) rfl dX8_rock_54 ?_
              refine z_bipush hx hb dX8_rock_57 (by decide) ?_
              refine lv_iload hx hb dX8_rock_59 (lv_at hl 1 rfl) ?_
              refine z_imul hx hb dX8_rock_61 ?_
              refine lv_iload hx hb dX8_rock_62 (lv_at hl 0 rfl) ?_
              refine z_iadd hx hb dX8_rock_64 ?_
              refine m_ald (d := 9) (j := (20 * ((2 * a.toNat) + b.toNat)) + k) hx hb hK hW rfl (by omega) (show (20 * ((2 * a.toNat) + b.toNat)) + k < 160 from by omega) dX8_rock_65 ?_
              have r8 : (0 : Int) ≤ τ 9 ((20 * ((2 * a.toNat) + b.toNat)) + k) ∧ τ 9 ((20 * ((2 * a.toNat) + b.toNat)) + k) ≤ 20000 := hI 9 ((20 * ((2 * a.toNat) + b.toNat)) + k)
              refine z_icmp_ge (tgt := 78) hx hb (by omega) (by omega) dX8_rock_66 (by decide) (fun c9 => ?_) (fun c9 => ?_)
              · refine z_iinc (k := 0) (lv' := [(5, .int (iI ((k : Int) + 1))), (4, .int (iI ((2 * a) + b))), (0, .ref (ad 0)), (1, .int (iI (a))), (2, .int (iI (b))), (3, .int (iI (x)))]) hx hb dX8_rock_78 hl rfl (by decide) rfl (fun ls hl => ?_)
                refine lv_goto (tgt := 28) hx hb dX8_rock_81 (by decide) ?_
                exact ih28 (k + 1) ((k : Int) + 1) (by omega) (by omega) (by omega) (fl_s hn (decide_eq_false (by omega))) ls (lv_sub hl [0, 1, 2, 3, 4, 5] rfl)
              · refine lv_aload_n hx hb dX8_rock_69 rfl (lv_at hl 2 rfl) ?_
                refine lv_iload hx hb dX8_rock_70 (lv_at hl 1 rfl) ?_
                refine lv_iload hx hb dX8_rock_72 (lv_at hl 0 rfl) ?_
                refine m_call (n := 2) (As := [.int (iI ((2 * a) + b)), .int (iI ((k : Int)))]) (rest := []) hx hb hml hts hown hK hW (c8_codeOf l D cI cZ ad τ hI ((2 * a.toNat) + b.toNat) ((2 * a) + b) (by omega) k (k : Int) (by omega) (by omega) (by omega)) gX8_rock_X8_codeOf rfl rfl rfl (by decide +kernel) ⟨by decide, by decide⟩ rfl hl.1 rfl (Nat.le_of_ble_eq_true rfl) ⟨Nat.zero_le _, Nat.zero_le _⟩ dX8_rock_74 ?_
                have r10 := cd_r hI ((2 * a.toNat) + b.toNat) k
                exact s_iret hx hb hr hlocks (by have hf : rkI τ (2 * a.toNat + b.toNat) x = k := (by unfold rkI; rw [hN2]; exact ff_at hn (decide_eq_true (by omega)) (by omega)); unfold spRock; rw [if_neg (by omega), hf, if_neg (by omega), Int.toNat_natCast]) dX8_rock_77
      exact lp28 (N + 1) 0 0 (by omega) (by omega) (by omega) fl_0 ls (lv_sub hl [0, 1, 2, 3, 4, 5] rfl)
    · refine z_bipush hx hb dX8_rock_15 (by decide) ?_
      exact s_iret hx hb hr hlocks (by unfold spRock; repeat (first | rw [if_pos (by first | assumption | omega)] | rw [if_neg (by first | assumption | omega)])) dX8_rock_17
set_option maxHeartbeats 4000000 in
set_option maxRecDepth 100000 in
theorem c8_agree (l : Launch) (D : va_G) (cI cZ : ClassId) (ad : Nat → Nat) (τ : Tau) (hI : Rng τ) (a : Int) (h_a : I32 a)  : Met l yX8_agree wsX8_agree { frames := 2, cells := 0, slots := 0, locals := 46 } (mPc D cI cZ ad τ [.ref (ad 0), .int (iI (a))]) (rS (spAgree τ a)) 0 0 NoA := by
  refine m_start (by decide) rfl (Nat.le_of_ble_eq_true rfl) ?_
  intro p e s m below meth c hx hb hr hlocks hml hts hown hW hK ls hl
  have hin8 : ∀ w ∈ wsX80, w ∈ wsX8_agree := by decide +kernel
  have hl : lv_has ls 5 [(0, .ref (ad 0)), (1, .int (iI (a)))] := hl
  refine lv_aload_n hx hb dX8_agree_0 rfl (lv_at hl 0 rfl) ?_
  refine lv_iload_n hx hb dX8_agree_1 rfl (lv_at hl 1 rfl) ?_
  refine m_call (n := 1) (As := [.int (iI (a))]) (rest := []) hx hb hml hts hown hK hW (c8_isHole l D cI cZ ad τ hI a (by omega)) gX8_agree_X8_isHole rfl rfl rfl (by decide +kernel) ⟨by decide, by decide⟩ rfl hl.1 rfl (Nat.le_of_ble_eq_true rfl) ⟨Nat.zero_le _, Nat.zero_le _⟩ dX8_agree_2 ?_
  have r1 := (show (0 : Int) ≤ τ 0 0 ∧ τ 0 0 ≤ 4 from hI 0 0)
  refine z_if_neB (tgt := 11) hx hb dX8_agree_5 (by decide) (fun c2 => ?_) (fun c2 => ?_)
  · obtain ⟨N, hN⟩ : ∃ N : Nat, τ 8 (2 * a.toNat) = N := ⟨(τ 8 (2 * a.toNat)).toNat, by have : (0 : Int) ≤ τ 8 (2 * a.toNat) ∧ τ 8 (2 * a.toNat) ≤ 20 := hI 8 (2 * a.toNat); omega⟩
    have hN2 : (τ 8 (2 * a.toNat)).toNat = N := by omega
    have hN3 : N ≤ 20 := by have : (0 : Int) ≤ τ 8 (2 * a.toNat) ∧ τ 8 (2 * a.toNat) ≤ 20 := hI 8 (2 * a.toNat); omega
    obtain ⟨M, hM⟩ : ∃ N : Nat, τ 8 (2 * a.toNat + 1) = N := ⟨(τ 8 (2 * a.toNat + 1)).toNat, by have : (0 : Int) ≤ τ 8 (2 * a.toNat + 1) ∧ τ 8 (2 * a.toNat + 1) ≤ 20 := hI 8 (2 * a.toNat + 1); omega⟩
    have hM2 : (τ 8 (2 * a.toNat + 1)).toNat = M := by omega
    have hM3 : M ≤ 20 := by have : (0 : Int) ≤ τ 8 (2 * a.toNat + 1) ∧ τ 8 (2 * a.toNat + 1) ≤ 20 := hI 8 (2 * a.toNat + 1); omega
    refine z_iconst hx hb dX8_agree_11 ?_
    refine lv_istore_n (lv' := [(2, .int (iI (0))), (0, .ref (ad 0)), (1, .int (iI (a)))]) hx hb dX8_agree_12 rfl hl (by decide) rfl (fun ls hl => ?_)
    refine z_iconst hx hb dX8_agree_13 ?_
    refine lv_istore_n (lv' := [(3, .int (iI (0))), (2, .int (iI (0))), (0, .ref (ad 0)), (1, .int (iI (a)))]) hx hb dX8_agree_14 rfl hl (by decide) rfl (fun ls hl => ?_)
    have lp15 : ∀ (n15 i : Nat) (x2 x3 : Int), x2 = sm (fun i => sm (fun j => agU τ a.toNat i j) M) i → x3 = (i : Int) → i ≤ N → N + 1 ≤ i + n15 → ∀ ls : Array Slot, lv_has ls 5 [(2, .int (iI (x2))), (3, .int (iI (x3))), (0, .ref (ad 0)), (1, .int (iI (a)))] → W p l e { frames := 2, cells := 0, slots := 0, locals := 46 } s m [.ref (ad 0), .int (iI (a))].toArray below meth c s.heap [] 0 0 (MQ below (rS (spAgree τ a)) [.ref (ad 0), .int (iI (a))].toArray s 0 0 (NoA)) (F0 m 15 ls []) := by
      intro n15
      induction n15 with
      | zero => intro i x2 x3 ex2 ex3 hk1 hk2; exact absurd hk2 (by omega)
      | succ n15 ih15 =>
        intro i x2 x3 ex2 ex3 hk1 hk2  ls hl
        subst ex2
        subst ex3
        refine lv_iload_n hx hb dX8_agree_15 rfl (lv_at hl 1 rfl) ?_
        refine lv_aload_n hx hb dX8_agree_16 rfl (lv_at hl 2 rfl) ?_
        refine m_get hx hb hts hin8 hown hK hW 8 (by decide) (hts _ (by decide +kernel)) (v := .ref (ad 8)) rfl dX8_agree_17 ?_
        refine z_iconst hx hb dX8_agree_20 ?_
        refine lv_iload_n hx hb dX8_agree_21 rfl (lv_at hl 3 rfl) ?_
        refine z_imul hx hb dX8_agree_22 ?_
        refine m_ald (d := 8) (j := 2 * a.toNat) hx hb hK hW rfl (by omega) (show 2 * a.toNat < 8 from by omega) dX8_agree_23 ?_
        have r3 : (0 : Int) ≤ τ 8 (2 * a.toNat) ∧ τ 8 (2 * a.toNat) ≤ 20 := hI 8 (2 * a.toNat)
        refine z_icmp_ge (tgt := 130) hx hb (by omega) (by omega) dX8_agree_24 (by decide) (fun c4 => ?_) (fun c4 => ?_)
        · refine lv_iload_n hx hb dX8_agree_130 rfl (lv_at hl 0 rfl) ?_
          exact s_iret hx hb hr hlocks (by unfold spAgree; rw [if_neg (by omega)]; unfold agO; rw [hN2, hM2, show N = i by omega]) dX8_agree_131
        · refine z_iconst hx hb dX8_agree_27 ?_
          refine lv_istore (lv' := [(4, .int (iI (0))), (2, .int (iI (sm (fun i => sm (fun j => agU τ a.toNat i j) M) i))), (3, .int (iI ((i : Int)))), (0, .ref (ad 0)), (1, .int (iI (a)))]) hx hb dX8_agree_28 hl (by decide) rfl (fun ls hl => ?_)
          have lp30 : ∀ (n30 j : Nat) (x2 x4 : Int), x2 = sm (fun i => sm (fun j => agU τ a.toNat i j) M) i + sm (fun j => agU τ a.toNat i j) j → x4 = (j : Int) → j ≤ M → M + 1 ≤ j + n30 → ∀ ls : Array Slot, lv_has ls 5 [(2, .int (iI (x2))), (4, .int (iI (x4))), (3, .int (iI ((i : Int)))), (0, .ref (ad 0)), (1, .int (iI (a)))] → W p l e { frames := 2, cells := 0, slots := 0, locals := 46 } s m [.ref (ad 0), .int (iI (a))].toArray below meth c s.heap [] 0 0 (MQ below (rS (spAgree τ a)) [.ref (ad 0), .int (iI (a))].toArray s 0 0 (NoA)) (F0 m 30 ls []) := by
            intro n30
            induction n30 with
            | zero => intro j x2 x4 ex2 ex4 hk1 hk2; exact absurd hk2 (by omega)
            | succ n30 ih30 =>
              intro j x2 x4 ex2 ex4 hk1 hk2  ls hl
              subst ex2
              subst ex4
              refine lv_iload hx hb dX8_agree_30 (lv_at hl 1 rfl) ?_
              refine lv_aload_n hx hb dX8_agree_32 rfl (lv_at hl 3 rfl) ?_
              refine m_get hx hb hts hin8 hown hK hW 8 (by decide) (hts _ (by decide +kernel)) (v := .ref (ad 8)) rfl dX8_agree_33 ?_
              refine z_iconst hx hb dX8_agree_36 ?_
              refine lv_iload_n hx hb dX8_agree_37 rfl (lv_at hl 4 rfl) ?_
              refine z_imul hx hb dX8_agree_38 ?_
              refine z_iconst hx hb dX8_agree_39 ?_
              refine z_iadd hx hb dX8_agree_40 ?_
              refine m_ald (d := 8) (j := (2 * a.toNat) + 1) hx hb hK hW rfl (by omega) (show (2 * a.toNat) + 1 < 8 from by omega) dX8_agree_41 ?_
              have r5 : (0 : Int) ≤ τ 8 ((2 * a.toNat) + 1) ∧ τ 8 ((2 * a.toNat) + 1) ≤ 20 := hI 8 ((2 * a.toNat) + 1)
              refine z_icmp_ge (tgt := 124) hx hb (by omega) (by omega) dX8_agree_42 (by decide) (fun c6 => ?_) (fun c6 => ?_)
              · refine z_iinc (k := 2) (lv' := [(3, .int (iI ((i : Int) + 1))), (2, .int (iI (sm (fun i => sm (fun j => agU τ a.toNat i j) M) i + sm (fun j => agU τ a.toNat i j) j))), (4, .int (iI ((j : Int)))), (0, .ref (ad 0)), (1, .int (iI (a)))]) hx hb dX8_agree_124 hl rfl (by decide) rfl (fun ls hl => ?_)
                refine lv_goto (tgt := 15) hx hb dX8_agree_127 (by decide) ?_
                exact ih15 (i + 1) (sm (fun i => sm (fun j => agU τ a.toNat i j) M) i + sm (fun j => agU τ a.toNat i j) j) ((i : Int) + 1) (by rw [show M = j by omega]; rfl) (by omega) (by omega) (by omega)  ls (lv_sub hl [1, 0, 3, 4] rfl)
              · refine lv_aload_n hx hb dX8_agree_45 rfl (lv_at hl 3 rfl) ?_
                refine z_iconst hx hb dX8_agree_46 ?_
                refine lv_iload_n hx hb dX8_agree_47 rfl (lv_at hl 4 rfl) ?_
                refine z_imul hx hb dX8_agree_48 ?_
                refine lv_iload_n hx hb dX8_agree_49 rfl (lv_at hl 2 rfl) ?_
                refine m_call (n := 2) (As := [.int (iI (2 * a)), .int (iI ((i : Int)))]) (rest := []) hx hb hml hts hown hK hW (c8_codeOf l D cI cZ ad τ hI (2 * a.toNat) (2 * a) (by omega) i (i : Int) (by omega) (by omega) (by omega)) gX8_agree_X8_codeOf rfl rfl rfl (by decide +kernel) ⟨by decide, by decide⟩ rfl hl.1 rfl (Nat.le_of_ble_eq_true rfl) ⟨Nat.zero_le _, Nat.zero_le _⟩ dX8_agree_50 ?_
                have r7 := cd_r hI (2 * a.toNat) i
                refine lv_aload_n hx hb dX8_agree_53 rfl (lv_at hl 3 rfl) ?_
                refine z_iconst hx hb dX8_agree_54 ?_
                refine lv_iload_n hx hb dX8_agree_55 rfl (lv_at hl 4 rfl) ?_
                refine z_imul hx hb dX8_agree_56 ?_
                refine z_iconst hx hb dX8_agree_57 ?_
                refine z_iadd hx hb dX8_agree_58 ?_
                refine lv_iload hx hb dX8_agree_59 (lv_at hl 1 rfl) ?_
                refine m_call (n := 2) (As := [.int (iI ((2 * a) + 1)), .int (iI ((j : Int)))]) (rest := [.int (iI (cdO τ (2 * a.toNat) i))]) hx hb hml hts hown hK hW (c8_codeOf l D cI cZ ad τ hI ((2 * a.toNat) + 1) ((2 * a) + 1) (by omega) j (j : Int) (by omega) (by omega) (by omega)) gX8_agree_X8_codeOf rfl rfl rfl (by decide +kernel) ⟨by decide, by decide⟩ rfl hl.1 rfl (Nat.le_of_ble_eq_true rfl) ⟨Nat.zero_le _, Nat.zero_le _⟩ dX8_agree_61 ?_
                have r8 := cd_r hI ((2 * a.toNat) + 1) j
                refine z_icmp_ne (tgt := 118) hx hb (by omega) (by omega) dX8_agree_64 (by decide) (fun c9 => ?_) (fun c9 => ?_)
                · refine z_iinc (k := 1) (lv' := [(4, .int (iI ((j : Int) + 1))), (2, .int (iI (sm (fun i => sm (fun j => agU τ a.toNat i j) M) i + sm (fun j => agU τ a.toNat i j) j))), (3, .int (iI ((i : Int)))), (0, .ref (ad 0)), (1, .int (iI (a)))]) hx hb dX8_agree_118 hl rfl (by decide) rfl (fun ls hl => ?_)
                  refine lv_goto (tgt := 30) hx hb dX8_agree_121 (by decide) ?_
                  exact ih30 (j + 1) (sm (fun i => sm (fun j => agU τ a.toNat i j) M) i + sm (fun j => agU τ a.toNat i j) j) ((j : Int) + 1) (by rw [sm_s, ← Int.add_assoc]; (first | rw [ag_t (by omega)] | rw [ag_f (by omega), Int.add_zero])) (by omega) (by omega) (by omega)  ls (lv_sub hl [1, 0, 2, 3, 4] rfl)
                · refine lv_iload_n hx hb dX8_agree_67 rfl (lv_at hl 0 rfl) ?_
                  refine lv_aload_n hx hb dX8_agree_68 rfl (lv_at hl 3 rfl) ?_
                  refine z_iconst hx hb dX8_agree_69 ?_
                  refine lv_iload_n hx hb dX8_agree_70 rfl (lv_at hl 4 rfl) ?_
                  refine z_imul hx hb dX8_agree_71 ?_
                  refine lv_iload_n hx hb dX8_agree_72 rfl (lv_at hl 2 rfl) ?_
                  refine m_call (n := 2) (As := [.int (iI (2 * a)), .int (iI ((i : Int)))]) (rest := [.int (iI (sm (fun i => sm (fun j => agU τ a.toNat i j) M) i + sm (fun j => agU τ a.toNat i j) j))]) hx hb hml hts hown hK hW (c8_fromOf l D cI cZ ad τ hI (2 * a.toNat) (2 * a) (by omega) i (i : Int) (by omega) (by omega) (by omega)) gX8_agree_X8_fromOf rfl rfl rfl (by decide +kernel) ⟨by decide, by decide⟩ rfl hl.1 rfl (Nat.le_of_ble_eq_true rfl) ⟨Nat.zero_le _, Nat.zero_le _⟩ dX8_agree_73 ?_
                  have r10 := fr_r hI (2 * a.toNat) i
                  refine lv_aload_n hx hb dX8_agree_76 rfl (lv_at hl 3 rfl) ?_
                  refine m_get hx hb hts hin8 hown hK hW 9 (by decide) (hts _ (by decide +kernel)) (v := .ref (ad 9)) rfl dX8_agree_77 ?_
                  refine z_bipush hx hb dX8_agree_80 (by decide) ?_
                  refine lv_iload_n hx hb dX8_agree_82 rfl (lv_at hl 4 rfl) ?_
                  refine z_imul hx hb dX8_agree_83 ?_
                  refine lv_iload_n hx hb dX8_agree_84 rfl (lv_at hl 2 rfl) ?_
                  refine z_iadd hx hb dX8_agree_85 ?_
                  refine m_ald (d := 9) (j := 20 * (2 * a.toNat) + i) hx hb hK hW rfl (by omega) (show 20 * (2 * a.toNat) + i < 160 from by omega) dX8_agree_86 ?_
                  have r11 : (0 : Int) ≤ τ 9 (20 * (2 * a.toNat) + i) ∧ τ 9 (20 * (2 * a.toNat) + i) ≤ 20000 := hI 9 (20 * (2 * a.toNat) + i)
                  refine lv_aload_n hx hb dX8_agree_87 rfl (lv_at hl 3 rfl) ?_
                  refine z_iconst hx hb dX8_agree_88 ?_
                  refine lv_iload_n hx hb dX8_agree_89 rfl (lv_at hl 4 rfl) ?_
                  refine z_imul hx hb dX8_agree_90 ?_
                  refine z_iconst hx hb dX8_agree_91 ?_
                  refine z_iadd hx hb dX8_agree_92 ?_
                  refine lv_iload hx hb dX8_agree_93 (lv_at hl 1 rfl) ?_
                  refine m_call (n := 2) (As := [.int (iI ((2 * a) + 1)), .int (iI ((j : Int)))]) (rest := [.int (iI (τ 9 (20 * (2 * a.toNat) + i))), .int (iI (frO τ (2 * a.toNat) i)), .int (iI (sm (fun i => sm (fun j => agU τ a.toNat i j) M) i + sm (fun j => agU τ a.toNat i j) j))]) hx hb hml hts hown hK hW (c8_fromOf l D cI cZ ad τ hI ((2 * a.toNat) + 1) ((2 * a) + 1) (by omega) j (j : Int) (by omega) (by omega) (by omega)) gX8_agree_X8_fromOf rfl rfl rfl (by decide +kernel) ⟨by decide, by decide⟩ rfl hl.1 rfl (Nat.le_of_ble_eq_true rfl) ⟨Nat.zero_le _, Nat.zero_le _⟩ dX8_agree_95 ?_
                  have r12 := fr_r hI ((2 * a.toNat) + 1) j
                  refine lv_aload_n hx hb dX8_agree_98 rfl (lv_at hl 3 rfl) ?_
                  refine m_get hx hb hts hin8 hown hK hW 9 (by decide) (hts _ (by decide +kernel)) (v := .ref (ad 9)) rfl dX8_agree_99 ?_
                  refine z_bipush hx hb dX8_agree_102 (by decide) ?_
                  refine lv_iload_n hx hb dX8_agree_104 rfl (lv_at hl 4 rfl) ?_
                  refine z_imul hx hb dX8_agree_105 ?_
                  refine z_bipush hx hb dX8_agree_106 (by decide) ?_
                  refine z_iadd hx hb dX8_agree_108 ?_
                  refine lv_iload hx hb dX8_agree_109 (lv_at hl 1 rfl) ?_
                  refine z_iadd hx hb dX8_agree_111 ?_
                  refine m_ald (d := 9) (j := 20 * (2 * a.toNat + 1) + j) hx hb hK hW rfl (by omega) (show 20 * (2 * a.toNat + 1) + j < 160 from by omega) dX8_agree_112 ?_
                  have r13 : (0 : Int) ≤ τ 9 (20 * (2 * a.toNat + 1) + j) ∧ τ 9 (20 * (2 * a.toNat + 1) + j) ≤ 20000 := hI 9 (20 * (2 * a.toNat + 1) + j)
                  refine s_call (n := 4) (As := [.int (iI (frO τ (2 * a.toNat) i)), .int (iI (τ 9 (20 * (2 * a.toNat) + i))), .int (iI (frO τ ((2 * a.toNat) + 1) j)), .int (iI (τ 9 (20 * (2 * a.toNat + 1) + j)))]) (rest := [.int (iI (sm (fun i => sm (fun j => agU τ a.toNat i j) M) i + sm (fun j => agU τ a.toNat i j) j))]) hx hb hml hts hown (c8_common l (frO τ (2 * a.toNat) i) (by omega) (τ 9 (20 * (2 * a.toNat) + i)) (by omega) (frO τ ((2 * a.toNat) + 1) j) (by omega) (τ 9 (20 * (2 * a.toNat + 1) + j)) (by omega) (by omega)) gX8_agree_X8_common rfl rfl rfl (by decide +kernel) ⟨by decide, by decide⟩ rfl hl.1 rfl (Nat.le_of_ble_eq_true rfl) ⟨Nat.zero_le _, Nat.zero_le _⟩ dX8_agree_113 ?_
                  refine z_iadd hx hb dX8_agree_116 ?_
                  refine lv_istore_n (lv' := [(2, .int (iI ((sm (fun i => sm (fun j => agU τ a.toNat i j) M) i + sm (fun j => agU τ a.toNat i j) j) + (cm (frO τ (2 * a.toNat) i) (τ 9 (20 * (2 * a.toNat) + i)) (frO τ ((2 * a.toNat) + 1) j) (τ 9 (20 * (2 * a.toNat + 1) + j)))))), (4, .int (iI ((j : Int)))), (3, .int (iI ((i : Int)))), (0, .ref (ad 0)), (1, .int (iI (a)))]) hx hb dX8_agree_117 rfl hl (by decide) rfl (fun ls hl => ?_)
                  refine z_iinc (k := 1) (lv' := [(4, .int (iI ((j : Int) + 1))), (2, .int (iI ((sm (fun i => sm (fun j => agU τ a.toNat i j) M) i + sm (fun j => agU τ a.toNat i j) j) + (cm (frO τ (2 * a.toNat) i) (τ 9 (20 * (2 * a.toNat) + i)) (frO τ ((2 * a.toNat) + 1) j) (τ 9 (20 * (2 * a.toNat + 1) + j)))))), (3, .int (iI ((i : Int)))), (0, .ref (ad 0)), (1, .int (iI (a)))]) hx hb dX8_agree_118 hl rfl (by decide) rfl (fun ls hl => ?_)
                  refine lv_goto (tgt := 30) hx hb dX8_agree_121 (by decide) ?_
                  exact ih30 (j + 1) ((sm (fun i => sm (fun j => agU τ a.toNat i j) M) i + sm (fun j => agU τ a.toNat i j) j) + (cm (frO τ (2 * a.toNat) i) (τ 9 (20 * (2 * a.toNat) + i)) (frO τ ((2 * a.toNat) + 1) j) (τ 9 (20 * (2 * a.toNat + 1) + j)))) ((j : Int) + 1) (by rw [sm_s, ← Int.add_assoc]; (first | rw [ag_t (by omega)] | rw [ag_f (by omega), Int.add_zero])) (by omega) (by omega) (by omega)  ls (lv_sub hl [1, 0, 2, 3, 4] rfl)
          exact lp30 (M + 1) 0 (sm (fun i => sm (fun j => agU τ a.toNat i j) M) i) 0 (by simp [sm]) (by omega) (by omega) (by omega)  ls (lv_sub hl [1, 0, 2, 3, 4] rfl)
    exact lp15 (N + 1) 0 0 0 rfl (by omega) (by omega) (by omega)  ls (lv_sub hl [1, 0, 2, 3] rfl)
  · refine z_bipush hx hb dX8_agree_8 (by decide) ?_
    exact s_iret hx hb hr hlocks (by unfold spAgree; repeat (first | rw [if_pos (by first | assumption | omega)] | rw [if_neg (by first | assumption | omega)])) dX8_agree_10
end
