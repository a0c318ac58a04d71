section
-- ===== PART A: goes FIRST, ahead of the names: the tables' words, and 'selects' of the private methods out of them =====
/-- a private method of a class that the tables say can be made, by its rows of tables_1 -/
def lw_okq (q : MethodName × Nat) : Prop := (q.1.cls ≠ "java/lang/invoke/MethodHandle" ∧ q.1.cls ≠ "java/lang/invoke/VarHandle") ∧ Cond.instantiable q.1.cls q.2 ∈ tables_1 ∧ Cond.privateMethod q.1 ∈ tables_1 ∧ Cond.instanceMethod q.1 ∈ tables_1
theorem lw_p0 : lw_okq (⟨"DimStars$Sky", "addStar", "(III)I"⟩, 13) := ⟨⟨by decide +kernel, by decide +kernel⟩, List.mem_of_getElem? (i := 30) (by decide +kernel), List.mem_of_getElem? (i := 421) (by decide +kernel), List.mem_of_getElem? (i := 422) (by decide +kernel)⟩
theorem lw_p1 : lw_okq (⟨"DimStars$Sky", "placeFor", "(I)LDimStars$Star;"⟩, 13) := ⟨⟨by decide +kernel, by decide +kernel⟩, List.mem_of_getElem? (i := 30) (by decide +kernel), List.mem_of_getElem? (i := 425) (by decide +kernel), List.mem_of_getElem? (i := 426) (by decide +kernel)⟩
theorem lw_p2 : lw_okq (⟨"DimStars$Star", "begin", "(III)V"⟩, 4) := ⟨⟨by decide +kernel, by decide +kernel⟩, List.mem_of_getElem? (i := 428) (by decide +kernel), List.mem_of_getElem? (i := 454) (by decide +kernel), List.mem_of_getElem? (i := 455) (by decide +kernel)⟩
theorem lw_p3 : lw_okq (⟨"DimStars$Sky", "starAt", "(I)LDimStars$Star;"⟩, 13) := ⟨⟨by decide +kernel, by decide +kernel⟩, List.mem_of_getElem? (i := 30) (by decide +kernel), List.mem_of_getElem? (i := 466) (by decide +kernel), List.mem_of_getElem? (i := 467) (by decide +kernel)⟩
theorem lw_p4 : lw_okq (⟨"DimStars", "isStar", "(I)Z"⟩, 20) := ⟨⟨by decide +kernel, by decide +kernel⟩, List.mem_of_getElem? (i := 22) (by decide +kernel), List.mem_of_getElem? (i := 495) (by decide +kernel), List.mem_of_getElem? (i := 496) (by decide +kernel)⟩
theorem lw_p5 : lw_okq (⟨"DimStars$Look", "see", "(LDimStars$Sky;II)V"⟩, 8) := ⟨⟨by decide +kernel, by decide +kernel⟩, List.mem_of_getElem? (i := 227) (by decide +kernel), List.mem_of_getElem? (i := 502) (by decide +kernel), List.mem_of_getElem? (i := 503) (by decide +kernel)⟩
theorem lw_p6 : lw_okq (⟨"DimStars$Look", "turnOver", "([I)V"⟩, 8) := ⟨⟨by decide +kernel, by decide +kernel⟩, List.mem_of_getElem? (i := 227) (by decide +kernel), List.mem_of_getElem? (i := 509) (by decide +kernel), List.mem_of_getElem? (i := 510) (by decide +kernel)⟩
theorem lw_p7 : lw_okq (⟨"DimStars$Look", "moveSeasons", "([II)V"⟩, 8) := ⟨⟨by decide +kernel, by decide +kernel⟩, List.mem_of_getElem? (i := 227) (by decide +kernel), List.mem_of_getElem? (i := 513) (by decide +kernel), List.mem_of_getElem? (i := 514) (by decide +kernel)⟩
theorem lw_p8 : lw_okq (⟨"DimStars$Look", "cleanRow", "([II)V"⟩, 8) := ⟨⟨by decide +kernel, by decide +kernel⟩, List.mem_of_getElem? (i := 227) (by decide +kernel), List.mem_of_getElem? (i := 522) (by decide +kernel), List.mem_of_getElem? (i := 523) (by decide +kernel)⟩
theorem lw_p9 : lw_okq (⟨"DimStars$Look", "dropMasked", "(LDimStars$Sky;I)V"⟩, 8) := ⟨⟨by decide +kernel, by decide +kernel⟩, List.mem_of_getElem? (i := 227) (by decide +kernel), List.mem_of_getElem? (i := 540) (by decide +kernel), List.mem_of_getElem? (i := 541) (by decide +kernel)⟩
theorem lw_p10 : lw_okq (⟨"DimStars$Star", "mean", "()J"⟩, 4) := ⟨⟨by decide +kernel, by decide +kernel⟩, List.mem_of_getElem? (i := 428) (by decide +kernel), List.mem_of_getElem? (i := 544) (by decide +kernel), List.mem_of_getElem? (i := 545) (by decide +kernel)⟩
theorem lw_p11 : lw_okq (⟨"DimStars$Look", "markLow", "([IJ)V"⟩, 8) := ⟨⟨by decide +kernel, by decide +kernel⟩, List.mem_of_getElem? (i := 227) (by decide +kernel), List.mem_of_getElem? (i := 549) (by decide +kernel), List.mem_of_getElem? (i := 550) (by decide +kernel)⟩
theorem lw_p12 : lw_okq (⟨"DimStars$Look", "measure", "()V"⟩, 8) := ⟨⟨by decide +kernel, by decide +kernel⟩, List.mem_of_getElem? (i := 227) (by decide +kernel), List.mem_of_getElem? (i := 553) (by decide +kernel), List.mem_of_getElem? (i := 554) (by decide +kernel)⟩
theorem lw_p13 : lw_okq (⟨"DimStars$Sky", "addBytes", "(I)V"⟩, 13) := ⟨⟨by decide +kernel, by decide +kernel⟩, List.mem_of_getElem? (i := 30) (by decide +kernel), List.mem_of_getElem? (i := 600) (by decide +kernel), List.mem_of_getElem? (i := 601) (by decide +kernel)⟩
theorem lw_p14 : lw_okq (⟨"DimStars$Parser", "read", "([BII)I"⟩, 12) := ⟨⟨by decide +kernel, by decide +kernel⟩, List.mem_of_getElem? (i := 102) (by decide +kernel), List.mem_of_getElem? (i := 612) (by decide +kernel), List.mem_of_getElem? (i := 613) (by decide +kernel)⟩
theorem lw_p15 : lw_okq (⟨"DimStars$Text", "begin", "()V"⟩, 14) := ⟨⟨by decide +kernel, by decide +kernel⟩, List.mem_of_getElem? (i := 109) (by decide +kernel), List.mem_of_getElem? (i := 621) (by decide +kernel), List.mem_of_getElem? (i := 622) (by decide +kernel)⟩
def lw_privs_1 : List (MethodName × Nat) := [(⟨"DimStars$Sky", "addStar", "(III)I"⟩, 13), (⟨"DimStars$Sky", "placeFor", "(I)LDimStars$Star;"⟩, 13), (⟨"DimStars$Star", "begin", "(III)V"⟩, 4), (⟨"DimStars$Sky", "starAt", "(I)LDimStars$Star;"⟩, 13), (⟨"DimStars", "isStar", "(I)Z"⟩, 20), (⟨"DimStars$Look", "see", "(LDimStars$Sky;II)V"⟩, 8), (⟨"DimStars$Look", "turnOver", "([I)V"⟩, 8), (⟨"DimStars$Look", "moveSeasons", "([II)V"⟩, 8), (⟨"DimStars$Look", "cleanRow", "([II)V"⟩, 8), (⟨"DimStars$Look", "dropMasked", "(LDimStars$Sky;I)V"⟩, 8), (⟨"DimStars$Star", "mean", "()J"⟩, 4), (⟨"DimStars$Look", "markLow", "([IJ)V"⟩, 8), (⟨"DimStars$Look", "measure", "()V"⟩, 8), (⟨"DimStars$Sky", "addBytes", "(I)V"⟩, 13), (⟨"DimStars$Parser", "read", "([BII)I"⟩, 12), (⟨"DimStars$Text", "begin", "()V"⟩, 14)]
theorem lw_r1 : ∀ q ∈ lw_privs_1, lw_okq q := List.forall_mem_cons.mpr ⟨lw_p0, List.forall_mem_cons.mpr ⟨lw_p1, List.forall_mem_cons.mpr ⟨lw_p2, List.forall_mem_cons.mpr ⟨lw_p3, List.forall_mem_cons.mpr ⟨lw_p4, List.forall_mem_cons.mpr ⟨lw_p5, List.forall_mem_cons.mpr ⟨lw_p6, List.forall_mem_cons.mpr ⟨lw_p7, List.forall_mem_cons.mpr ⟨lw_p8, List.forall_mem_cons.mpr ⟨lw_p9, List.forall_mem_cons.mpr ⟨lw_p10, List.forall_mem_cons.mpr ⟨lw_p11, List.forall_mem_cons.mpr ⟨lw_p12, List.forall_mem_cons.mpr ⟨lw_p13, List.forall_mem_cons.mpr ⟨lw_p14, List.forall_mem_cons.mpr ⟨lw_p15, fun _ h => absurd h List.not_mem_nil⟩⟩⟩⟩⟩⟩⟩⟩⟩⟩⟩⟩⟩⟩⟩⟩
theorem lw_p16 : lw_okq (⟨"DimStars$Parser", "step", "()V"⟩, 12) := ⟨⟨by decide +kernel, by decide +kernel⟩, List.mem_of_getElem? (i := 102) (by decide +kernel), List.mem_of_getElem? (i := 625) (by decide +kernel), List.mem_of_getElem? (i := 626) (by decide +kernel)⟩
theorem lw_p17 : lw_okq (⟨"DimStars$Parser", "readClause", "(II)V"⟩, 12) := ⟨⟨by decide +kernel, by decide +kernel⟩, List.mem_of_getElem? (i := 102) (by decide +kernel), List.mem_of_getElem? (i := 629) (by decide +kernel), List.mem_of_getElem? (i := 630) (by decide +kernel)⟩
theorem lw_p18 : lw_okq (⟨"DimStars$Parser", "whichOf", "(Ljava/lang/String;)I"⟩, 12) := ⟨⟨by decide +kernel, by decide +kernel⟩, List.mem_of_getElem? (i := 102) (by decide +kernel), List.mem_of_getElem? (i := 636) (by decide +kernel), List.mem_of_getElem? (i := 637) (by decide +kernel)⟩
theorem lw_p19 : lw_okq (⟨"DimStars$Parser", "setFault", "(I)V"⟩, 12) := ⟨⟨by decide +kernel, by decide +kernel⟩, List.mem_of_getElem? (i := 102) (by decide +kernel), List.mem_of_getElem? (i := 688) (by decide +kernel), List.mem_of_getElem? (i := 689) (by decide +kernel)⟩
theorem lw_p20 : lw_okq (⟨"DimStars$Parser", "readSearch", "(I)V"⟩, 12) := ⟨⟨by decide +kernel, by decide +kernel⟩, List.mem_of_getElem? (i := 102) (by decide +kernel), List.mem_of_getElem? (i := 692) (by decide +kernel), List.mem_of_getElem? (i := 693) (by decide +kernel)⟩
theorem lw_p21 : lw_okq (⟨"DimStars$Parser", "readNumber", "(II)I"⟩, 12) := ⟨⟨by decide +kernel, by decide +kernel⟩, List.mem_of_getElem? (i := 102) (by decide +kernel), List.mem_of_getElem? (i := 696) (by decide +kernel), List.mem_of_getElem? (i := 697) (by decide +kernel)⟩
theorem lw_p22 : lw_okq (⟨"DimStars$Text", "openClause", "(I)V"⟩, 14) := ⟨⟨by decide +kernel, by decide +kernel⟩, List.mem_of_getElem? (i := 109) (by decide +kernel), List.mem_of_getElem? (i := 701) (by decide +kernel), List.mem_of_getElem? (i := 702) (by decide +kernel)⟩
theorem lw_p23 : lw_okq (⟨"DimStars$Parser", "readSum", "()V"⟩, 12) := ⟨⟨by decide +kernel, by decide +kernel⟩, List.mem_of_getElem? (i := 102) (by decide +kernel), List.mem_of_getElem? (i := 705) (by decide +kernel), List.mem_of_getElem? (i := 706) (by decide +kernel)⟩
theorem lw_p24 : lw_okq (⟨"DimStars$Parser", "readValue", "()V"⟩, 12) := ⟨⟨by decide +kernel, by decide +kernel⟩, List.mem_of_getElem? (i := 102) (by decide +kernel), List.mem_of_getElem? (i := 709) (by decide +kernel), List.mem_of_getElem? (i := 710) (by decide +kernel)⟩
theorem lw_p25 : lw_okq (⟨"DimStars$Text", "addCode", "(I)V"⟩, 14) := ⟨⟨by decide +kernel, by decide +kernel⟩, List.mem_of_getElem? (i := 109) (by decide +kernel), List.mem_of_getElem? (i := 714) (by decide +kernel), List.mem_of_getElem? (i := 715) (by decide +kernel)⟩
theorem lw_p26 : lw_okq (⟨"DimStars$Text", "endSum", "()V"⟩, 14) := ⟨⟨by decide +kernel, by decide +kernel⟩, List.mem_of_getElem? (i := 109) (by decide +kernel), List.mem_of_getElem? (i := 719) (by decide +kernel), List.mem_of_getElem? (i := 720) (by decide +kernel)⟩
theorem lw_p27 : lw_okq (⟨"DimStars$Parser", "readTest", "(I)V"⟩, 12) := ⟨⟨by decide +kernel, by decide +kernel⟩, List.mem_of_getElem? (i := 102) (by decide +kernel), List.mem_of_getElem? (i := 724) (by decide +kernel), List.mem_of_getElem? (i := 725) (by decide +kernel)⟩
theorem lw_p28 : lw_okq (⟨"DimStars$Parser", "readFact", "(I)V"⟩, 12) := ⟨⟨by decide +kernel, by decide +kernel⟩, List.mem_of_getElem? (i := 102) (by decide +kernel), List.mem_of_getElem? (i := 728) (by decide +kernel), List.mem_of_getElem? (i := 729) (by decide +kernel)⟩
theorem lw_p29 : lw_okq (⟨"DimStars$Parser", "expect", "(I)V"⟩, 12) := ⟨⟨by decide +kernel, by decide +kernel⟩, List.mem_of_getElem? (i := 102) (by decide +kernel), List.mem_of_getElem? (i := 734) (by decide +kernel), List.mem_of_getElem? (i := 735) (by decide +kernel)⟩
theorem lw_p30 : lw_okq (⟨"DimStars$Parser", "readSign", "()V"⟩, 12) := ⟨⟨by decide +kernel, by decide +kernel⟩, List.mem_of_getElem? (i := 102) (by decide +kernel), List.mem_of_getElem? (i := 738) (by decide +kernel), List.mem_of_getElem? (i := 739) (by decide +kernel)⟩
theorem lw_p31 : lw_okq (⟨"DimStars$Text", "closeClause", "()V"⟩, 14) := ⟨⟨by decide +kernel, by decide +kernel⟩, List.mem_of_getElem? (i := 109) (by decide +kernel), List.mem_of_getElem? (i := 745) (by decide +kernel), List.mem_of_getElem? (i := 746) (by decide +kernel)⟩
def lw_privs_2 : List (MethodName × Nat) := [(⟨"DimStars$Parser", "step", "()V"⟩, 12), (⟨"DimStars$Parser", "readClause", "(II)V"⟩, 12), (⟨"DimStars$Parser", "whichOf", "(Ljava/lang/String;)I"⟩, 12), (⟨"DimStars$Parser", "setFault", "(I)V"⟩, 12), (⟨"DimStars$Parser", "readSearch", "(I)V"⟩, 12), (⟨"DimStars$Parser", "readNumber", "(II)I"⟩, 12), (⟨"DimStars$Text", "openClause", "(I)V"⟩, 14), (⟨"DimStars$Parser", "readSum", "()V"⟩, 12), (⟨"DimStars$Parser", "readValue", "()V"⟩, 12), (⟨"DimStars$Text", "addCode", "(I)V"⟩, 14), (⟨"DimStars$Text", "endSum", "()V"⟩, 14), (⟨"DimStars$Parser", "readTest", "(I)V"⟩, 12), (⟨"DimStars$Parser", "readFact", "(I)V"⟩, 12), (⟨"DimStars$Parser", "expect", "(I)V"⟩, 12), (⟨"DimStars$Parser", "readSign", "()V"⟩, 12), (⟨"DimStars$Text", "closeClause", "()V"⟩, 14)]
theorem lw_r2 : ∀ q ∈ lw_privs_2, lw_okq q := List.forall_mem_cons.mpr ⟨lw_p16, List.forall_mem_cons.mpr ⟨lw_p17, List.forall_mem_cons.mpr ⟨lw_p18, List.forall_mem_cons.mpr ⟨lw_p19, List.forall_mem_cons.mpr ⟨lw_p20, List.forall_mem_cons.mpr ⟨lw_p21, List.forall_mem_cons.mpr ⟨lw_p22, List.forall_mem_cons.mpr ⟨lw_p23, List.forall_mem_cons.mpr ⟨lw_p24, List.forall_mem_cons.mpr ⟨lw_p25, List.forall_mem_cons.mpr ⟨lw_p26, List.forall_mem_cons.mpr ⟨lw_p27, List.forall_mem_cons.mpr ⟨lw_p28, List.forall_mem_cons.mpr ⟨lw_p29, List.forall_mem_cons.mpr ⟨lw_p30, List.forall_mem_cons.mpr ⟨lw_p31, fun _ h => absurd h List.not_mem_nil⟩⟩⟩⟩⟩⟩⟩⟩⟩⟩⟩⟩⟩⟩⟩⟩
theorem lw_p32 : lw_okq (⟨"DimStars$Parser", "handOver", "()LDimStars$Text;"⟩, 12) := ⟨⟨by decide +kernel, by decide +kernel⟩, List.mem_of_getElem? (i := 102) (by decide +kernel), List.mem_of_getElem? (i := 749) (by decide +kernel), List.mem_of_getElem? (i := 750) (by decide +kernel)⟩
theorem lw_p33 : lw_okq (⟨"DimStars", "keepText", "(IILDimStars$Text;)V"⟩, 20) := ⟨⟨by decide +kernel, by decide +kernel⟩, List.mem_of_getElem? (i := 22) (by decide +kernel), List.mem_of_getElem? (i := 753) (by decide +kernel), List.mem_of_getElem? (i := 754) (by decide +kernel)⟩
theorem lw_p34 : lw_okq (⟨"DimStars", "lawAt", "(I)LDimStars$Text;"⟩, 20) := ⟨⟨by decide +kernel, by decide +kernel⟩, List.mem_of_getElem? (i := 22) (by decide +kernel), List.mem_of_getElem? (i := 761) (by decide +kernel), List.mem_of_getElem? (i := 762) (by decide +kernel)⟩
theorem lw_p35 : lw_okq (⟨"DimStars$Reckoner", "brightness", "(LDimStars$Text;[J)J"⟩, 1) := ⟨⟨by decide +kernel, by decide +kernel⟩, List.mem_of_getElem? (i := 216) (by decide +kernel), List.mem_of_getElem? (i := 765) (by decide +kernel), List.mem_of_getElem? (i := 766) (by decide +kernel)⟩
theorem lw_p36 : lw_okq (⟨"DimStars$Reckoner", "holds", "(LDimStars$Text;I[J)Z"⟩, 1) := ⟨⟨by decide +kernel, by decide +kernel⟩, List.mem_of_getElem? (i := 216) (by decide +kernel), List.mem_of_getElem? (i := 769) (by decide +kernel), List.mem_of_getElem? (i := 770) (by decide +kernel)⟩
theorem lw_p37 : lw_okq (⟨"DimStars$Reckoner", "run", "(LDimStars$Text;II[J)J"⟩, 1) := ⟨⟨by decide +kernel, by decide +kernel⟩, List.mem_of_getElem? (i := 216) (by decide +kernel), List.mem_of_getElem? (i := 773) (by decide +kernel), List.mem_of_getElem? (i := 774) (by decide +kernel)⟩
theorem lw_p38 : lw_okq (⟨"DimStars$Sky", "dimming", "(II)J"⟩, 13) := ⟨⟨by decide +kernel, by decide +kernel⟩, List.mem_of_getElem? (i := 30) (by decide +kernel), List.mem_of_getElem? (i := 797) (by decide +kernel), List.mem_of_getElem? (i := 798) (by decide +kernel)⟩
theorem lw_p39 : lw_okq (⟨"DimStars$Sky", "worldAt", "(I)LDimStars$World;"⟩, 13) := ⟨⟨by decide +kernel, by decide +kernel⟩, List.mem_of_getElem? (i := 30) (by decide +kernel), List.mem_of_getElem? (i := 801) (by decide +kernel), List.mem_of_getElem? (i := 802) (by decide +kernel)⟩
theorem lw_p40 : lw_okq (⟨"DimStars$World", "isDipAt", "(I)Z"⟩, 6) := ⟨⟨by decide +kernel, by decide +kernel⟩, List.mem_of_getElem? (i := 563) (by decide +kernel), List.mem_of_getElem? (i := 805) (by decide +kernel), List.mem_of_getElem? (i := 806) (by decide +kernel)⟩
theorem lw_p41 : lw_okq (⟨"DimStars$Look", "tally", "(III)V"⟩, 8) := ⟨⟨by decide +kernel, by decide +kernel⟩, List.mem_of_getElem? (i := 227) (by decide +kernel), List.mem_of_getElem? (i := 819) (by decide +kernel), List.mem_of_getElem? (i := 820) (by decide +kernel)⟩
theorem lw_p42 : lw_okq (⟨"DimStars$Look", "deep", "()J"⟩, 8) := ⟨⟨by decide +kernel, by decide +kernel⟩, List.mem_of_getElem? (i := 227) (by decide +kernel), List.mem_of_getElem? (i := 826) (by decide +kernel), List.mem_of_getElem? (i := 827) (by decide +kernel)⟩
theorem lw_p43 : lw_okq (⟨"DimStars$Look", "dips", "(III)I"⟩, 8) := ⟨⟨by decide +kernel, by decide +kernel⟩, List.mem_of_getElem? (i := 227) (by decide +kernel), List.mem_of_getElem? (i := 833) (by decide +kernel), List.mem_of_getElem? (i := 834) (by decide +kernel)⟩
theorem lw_p44 : lw_okq (⟨"DimStars$Look", "hasNumber", "(II)Z"⟩, 8) := ⟨⟨by decide +kernel, by decide +kernel⟩, List.mem_of_getElem? (i := 227) (by decide +kernel), List.mem_of_getElem? (i := 837) (by decide +kernel), List.mem_of_getElem? (i := 838) (by decide +kernel)⟩
theorem lw_p45 : lw_okq (⟨"DimStars$Look", "score", "()J"⟩, 8) := ⟨⟨by decide +kernel, by decide +kernel⟩, List.mem_of_getElem? (i := 227) (by decide +kernel), List.mem_of_getElem? (i := 841) (by decide +kernel), List.mem_of_getElem? (i := 842) (by decide +kernel)⟩
theorem lw_p46 : lw_okq (⟨"DimStars", "searchAt", "(I)LDimStars$Text;"⟩, 20) := ⟨⟨by decide +kernel, by decide +kernel⟩, List.mem_of_getElem? (i := 22) (by decide +kernel), List.mem_of_getElem? (i := 849) (by decide +kernel), List.mem_of_getElem? (i := 850) (by decide +kernel)⟩
theorem lw_p47 : lw_okq (⟨"DimStars", "findingOf", "(III)LDimStars$Finding;"⟩, 20) := ⟨⟨by decide +kernel, by decide +kernel⟩, List.mem_of_getElem? (i := 22) (by decide +kernel), List.mem_of_getElem? (i := 854) (by decide +kernel), List.mem_of_getElem? (i := 855) (by decide +kernel)⟩
def lw_privs_3 : List (MethodName × Nat) := [(⟨"DimStars$Parser", "handOver", "()LDimStars$Text;"⟩, 12), (⟨"DimStars", "keepText", "(IILDimStars$Text;)V"⟩, 20), (⟨"DimStars", "lawAt", "(I)LDimStars$Text;"⟩, 20), (⟨"DimStars$Reckoner", "brightness", "(LDimStars$Text;[J)J"⟩, 1), (⟨"DimStars$Reckoner", "holds", "(LDimStars$Text;I[J)Z"⟩, 1), (⟨"DimStars$Reckoner", "run", "(LDimStars$Text;II[J)J"⟩, 1), (⟨"DimStars$Sky", "dimming", "(II)J"⟩, 13), (⟨"DimStars$Sky", "worldAt", "(I)LDimStars$World;"⟩, 13), (⟨"DimStars$World", "isDipAt", "(I)Z"⟩, 6), (⟨"DimStars$Look", "tally", "(III)V"⟩, 8), (⟨"DimStars$Look", "deep", "()J"⟩, 8), (⟨"DimStars$Look", "dips", "(III)I"⟩, 8), (⟨"DimStars$Look", "hasNumber", "(II)Z"⟩, 8), (⟨"DimStars$Look", "score", "()J"⟩, 8), (⟨"DimStars", "searchAt", "(I)LDimStars$Text;"⟩, 20), (⟨"DimStars", "findingOf", "(III)LDimStars$Finding;"⟩, 20)]
theorem lw_r3 : ∀ q ∈ lw_privs_3, lw_okq q := List.forall_mem_cons.mpr ⟨lw_p32, List.forall_mem_cons.mpr ⟨lw_p33, List.forall_mem_cons.mpr ⟨lw_p34, List.forall_mem_cons.mpr ⟨lw_p35, List.forall_mem_cons.mpr ⟨lw_p36, List.forall_mem_cons.mpr ⟨lw_p37, List.forall_mem_cons.mpr ⟨lw_p38, List.forall_mem_cons.mpr ⟨lw_p39, List.forall_mem_cons.mpr ⟨lw_p40, List.forall_mem_cons.mpr ⟨lw_p41, List.forall_mem_cons.mpr ⟨lw_p42, List.forall_mem_cons.mpr ⟨lw_p43, List.forall_mem_cons.mpr ⟨lw_p44, List.forall_mem_cons.mpr ⟨lw_p45, List.forall_mem_cons.mpr ⟨lw_p46, List.forall_mem_cons.mpr ⟨lw_p47, fun _ h => absurd h List.not_mem_nil⟩⟩⟩⟩⟩⟩⟩⟩⟩⟩⟩⟩⟩⟩⟩⟩
theorem lw_p48 : lw_okq (⟨"DimStars$Finder", "find", "(LDimStars$Look;LDimStars$Text;LDimStars$Finding;)V"⟩, 2) := ⟨⟨by decide +kernel, by decide +kernel⟩, List.mem_of_getElem? (i := 271) (by decide +kernel), List.mem_of_getElem? (i := 864) (by decide +kernel), List.mem_of_getElem? (i := 865) (by decide +kernel)⟩
theorem lw_p49 : lw_okq (⟨"DimStars$Finder", "foldBy", "(LDimStars$Look;I)V"⟩, 2) := ⟨⟨by decide +kernel, by decide +kernel⟩, List.mem_of_getElem? (i := 271) (by decide +kernel), List.mem_of_getElem? (i := 870) (by decide +kernel), List.mem_of_getElem? (i := 871) (by decide +kernel)⟩
theorem lw_p50 : lw_okq (⟨"DimStars$Finder", "tryBeat", "(LDimStars$Look;LDimStars$Text;ILDimStars$Finding;)V"⟩, 2) := ⟨⟨by decide +kernel, by decide +kernel⟩, List.mem_of_getElem? (i := 271) (by decide +kernel), List.mem_of_getElem? (i := 874) (by decide +kernel), List.mem_of_getElem? (i := 875) (by decide +kernel)⟩
theorem lw_p51 : lw_okq (⟨"DimStars$Finding", "isNone", "()Z"⟩, 7) := ⟨⟨by decide +kernel, by decide +kernel⟩, List.mem_of_getElem? (i := 303) (by decide +kernel), List.mem_of_getElem? (i := 880) (by decide +kernel), List.mem_of_getElem? (i := 881) (by decide +kernel)⟩
theorem lw_p52 : lw_okq (⟨"DimStars$Finding", "part", "(II)J"⟩, 7) := ⟨⟨by decide +kernel, by decide +kernel⟩, List.mem_of_getElem? (i := 303) (by decide +kernel), List.mem_of_getElem? (i := 886) (by decide +kernel), List.mem_of_getElem? (i := 887) (by decide +kernel)⟩
theorem lw_p53 : lw_okq (⟨"DimStars$Finding", "isSeen", "(I)Z"⟩, 7) := ⟨⟨by decide +kernel, by decide +kernel⟩, List.mem_of_getElem? (i := 303) (by decide +kernel), List.mem_of_getElem? (i := 890) (by decide +kernel), List.mem_of_getElem? (i := 891) (by decide +kernel)⟩
theorem lw_p54 : lw_okq (⟨"DimStars", "findingWith", "(II)LDimStars$Finding;"⟩, 20) := ⟨⟨by decide +kernel, by decide +kernel⟩, List.mem_of_getElem? (i := 22) (by decide +kernel), List.mem_of_getElem? (i := 906) (by decide +kernel), List.mem_of_getElem? (i := 907) (by decide +kernel)⟩
theorem lw_p55 : lw_okq (⟨"DimStars$Look", "addWorld", "(LDimStars$World;)V"⟩, 8) := ⟨⟨by decide +kernel, by decide +kernel⟩, List.mem_of_getElem? (i := 227) (by decide +kernel), List.mem_of_getElem? (i := 910) (by decide +kernel), List.mem_of_getElem? (i := 911) (by decide +kernel)⟩
theorem lw_p56 : lw_okq (⟨"DimStars$Finding", "isSeenWith", "(II)Z"⟩, 7) := ⟨⟨by decide +kernel, by decide +kernel⟩, List.mem_of_getElem? (i := 303) (by decide +kernel), List.mem_of_getElem? (i := 916) (by decide +kernel), List.mem_of_getElem? (i := 917) (by decide +kernel)⟩
theorem lw_p57 : lw_okq (⟨"DimStars", "caughtFrom", "(II)I"⟩, 20) := ⟨⟨by decide +kernel, by decide +kernel⟩, List.mem_of_getElem? (i := 22) (by decide +kernel), List.mem_of_getElem? (i := 924) (by decide +kernel), List.mem_of_getElem? (i := 925) (by decide +kernel)⟩
theorem lw_p58 : lw_okq (⟨"DimStars$Sky", "putIn", "()I"⟩, 13) := ⟨⟨by decide +kernel, by decide +kernel⟩, List.mem_of_getElem? (i := 30) (by decide +kernel), List.mem_of_getElem? (i := 928) (by decide +kernel), List.mem_of_getElem? (i := 929) (by decide +kernel)⟩
theorem lw_p59 : lw_okq (⟨"DimStars", "foundFrom", "(III)I"⟩, 20) := ⟨⟨by decide +kernel, by decide +kernel⟩, List.mem_of_getElem? (i := 22) (by decide +kernel), List.mem_of_getElem? (i := 940) (by decide +kernel), List.mem_of_getElem? (i := 941) (by decide +kernel)⟩
theorem lw_p60 : lw_okq (⟨"DimStars", "findAll", "(II)V"⟩, 20) := ⟨⟨by decide +kernel, by decide +kernel⟩, List.mem_of_getElem? (i := 22) (by decide +kernel), List.mem_of_getElem? (i := 955) (by decide +kernel), List.mem_of_getElem? (i := 956) (by decide +kernel)⟩
theorem lw_p61 : lw_okq (⟨"DimStars", "sameAs", "(IILDimStars$Finding;)I"⟩, 20) := ⟨⟨by decide +kernel, by decide +kernel⟩, List.mem_of_getElem? (i := 22) (by decide +kernel), List.mem_of_getElem? (i := 959) (by decide +kernel), List.mem_of_getElem? (i := 960) (by decide +kernel)⟩
theorem lw_p62 : lw_okq (⟨"DimStars", "knownOf", "(III)LDimStars$Finding;"⟩, 20) := ⟨⟨by decide +kernel, by decide +kernel⟩, List.mem_of_getElem? (i := 22) (by decide +kernel), List.mem_of_getElem? (i := 963) (by decide +kernel), List.mem_of_getElem? (i := 964) (by decide +kernel)⟩
theorem lw_p63 : lw_okq (⟨"DimStars$Signs", "read", "(LDimStars$Look;LDimStars$Finding;)V"⟩, 4) := ⟨⟨by decide +kernel, by decide +kernel⟩, List.mem_of_getElem? (i := 284) (by decide +kernel), List.mem_of_getElem? (i := 967) (by decide +kernel), List.mem_of_getElem? (i := 968) (by decide +kernel)⟩
def lw_privs_4 : List (MethodName × Nat) := [(⟨"DimStars$Finder", "find", "(LDimStars$Look;LDimStars$Text;LDimStars$Finding;)V"⟩, 2), (⟨"DimStars$Finder", "foldBy", "(LDimStars$Look;I)V"⟩, 2), (⟨"DimStars$Finder", "tryBeat", "(LDimStars$Look;LDimStars$Text;ILDimStars$Finding;)V"⟩, 2), (⟨"DimStars$Finding", "isNone", "()Z"⟩, 7), (⟨"DimStars$Finding", "part", "(II)J"⟩, 7), (⟨"DimStars$Finding", "isSeen", "(I)Z"⟩, 7), (⟨"DimStars", "findingWith", "(II)LDimStars$Finding;"⟩, 20), (⟨"DimStars$Look", "addWorld", "(LDimStars$World;)V"⟩, 8), (⟨"DimStars$Finding", "isSeenWith", "(II)Z"⟩, 7), (⟨"DimStars", "caughtFrom", "(II)I"⟩, 20), (⟨"DimStars$Sky", "putIn", "()I"⟩, 13), (⟨"DimStars", "foundFrom", "(III)I"⟩, 20), (⟨"DimStars", "findAll", "(II)V"⟩, 20), (⟨"DimStars", "sameAs", "(IILDimStars$Finding;)I"⟩, 20), (⟨"DimStars", "knownOf", "(III)LDimStars$Finding;"⟩, 20), (⟨"DimStars$Signs", "read", "(LDimStars$Look;LDimStars$Finding;)V"⟩, 4)]
theorem lw_r4 : ∀ q ∈ lw_privs_4, lw_okq q := List.forall_mem_cons.mpr ⟨lw_p48, List.forall_mem_cons.mpr ⟨lw_p49, List.forall_mem_cons.mpr ⟨lw_p50, List.forall_mem_cons.mpr ⟨lw_p51, List.forall_mem_cons.mpr ⟨lw_p52, List.forall_mem_cons.mpr ⟨lw_p53, List.forall_mem_cons.mpr ⟨lw_p54, List.forall_mem_cons.mpr ⟨lw_p55, List.forall_mem_cons.mpr ⟨lw_p56, List.forall_mem_cons.mpr ⟨lw_p57, List.forall_mem_cons.mpr ⟨lw_p58, List.forall_mem_cons.mpr ⟨lw_p59, List.forall_mem_cons.mpr ⟨lw_p60, List.forall_mem_cons.mpr ⟨lw_p61, List.forall_mem_cons.mpr ⟨lw_p62, List.forall_mem_cons.mpr ⟨lw_p63, fun _ h => absurd h List.not_mem_nil⟩⟩⟩⟩⟩⟩⟩⟩⟩⟩⟩⟩⟩⟩⟩⟩
theorem lw_p64 : lw_okq (⟨"DimStars$Signs", "addHours", "(LDimStars$Look;LDimStars$Finding;)V"⟩, 4) := ⟨⟨by decide +kernel, by decide +kernel⟩, List.mem_of_getElem? (i := 284) (by decide +kernel), List.mem_of_getElem? (i := 975) (by decide +kernel), List.mem_of_getElem? (i := 976) (by decide +kernel)⟩
theorem lw_p65 : lw_okq (⟨"DimStars$Signs", "add", "(II)V"⟩, 4) := ⟨⟨by decide +kernel, by decide +kernel⟩, List.mem_of_getElem? (i := 284) (by decide +kernel), List.mem_of_getElem? (i := 980) (by decide +kernel), List.mem_of_getElem? (i := 981) (by decide +kernel)⟩
theorem lw_p66 : lw_okq (⟨"DimStars$Signs", "readShifts", "(LDimStars$Look;LDimStars$Finding;)V"⟩, 4) := ⟨⟨by decide +kernel, by decide +kernel⟩, List.mem_of_getElem? (i := 284) (by decide +kernel), List.mem_of_getElem? (i := 988) (by decide +kernel), List.mem_of_getElem? (i := 989) (by decide +kernel)⟩
theorem lw_p67 : lw_okq (⟨"DimStars$Look", "shiftOf", "(II)I"⟩, 8) := ⟨⟨by decide +kernel, by decide +kernel⟩, List.mem_of_getElem? (i := 227) (by decide +kernel), List.mem_of_getElem? (i := 993) (by decide +kernel), List.mem_of_getElem? (i := 994) (by decide +kernel)⟩
theorem lw_p68 : lw_okq (⟨"DimStars$Signs", "part", "(I)I"⟩, 4) := ⟨⟨by decide +kernel, by decide +kernel⟩, List.mem_of_getElem? (i := 284) (by decide +kernel), List.mem_of_getElem? (i := 1000) (by decide +kernel), List.mem_of_getElem? (i := 1001) (by decide +kernel)⟩
theorem lw_p69 : lw_okq (⟨"DimStars$Signs", "gap", "(II)I"⟩, 4) := ⟨⟨by decide +kernel, by decide +kernel⟩, List.mem_of_getElem? (i := 284) (by decide +kernel), List.mem_of_getElem? (i := 1004) (by decide +kernel), List.mem_of_getElem? (i := 1005) (by decide +kernel)⟩
theorem lw_p70 : lw_okq (⟨"DimStars$Signs", "late", "()I"⟩, 4) := ⟨⟨by decide +kernel, by decide +kernel⟩, List.mem_of_getElem? (i := 284) (by decide +kernel), List.mem_of_getElem? (i := 1011) (by decide +kernel), List.mem_of_getElem? (i := 1012) (by decide +kernel)⟩
theorem lw_p71 : lw_okq (⟨"DimStars", "isWeighed", "(III)Z"⟩, 20) := ⟨⟨by decide +kernel, by decide +kernel⟩, List.mem_of_getElem? (i := 22) (by decide +kernel), List.mem_of_getElem? (i := 1026) (by decide +kernel), List.mem_of_getElem? (i := 1027) (by decide +kernel)⟩
theorem lw_p72 : lw_okq (⟨"DimStars", "sorterAt", "(I)LDimStars$Text;"⟩, 20) := ⟨⟨by decide +kernel, by decide +kernel⟩, List.mem_of_getElem? (i := 22) (by decide +kernel), List.mem_of_getElem? (i := 1030) (by decide +kernel), List.mem_of_getElem? (i := 1031) (by decide +kernel)⟩
theorem lw_p73 : lw_okq (⟨"DimStars", "weighAll", "(III)V"⟩, 20) := ⟨⟨by decide +kernel, by decide +kernel⟩, List.mem_of_getElem? (i := 22) (by decide +kernel), List.mem_of_getElem? (i := 1034) (by decide +kernel), List.mem_of_getElem? (i := 1035) (by decide +kernel)⟩
theorem lw_p74 : lw_okq (⟨"DimStars", "fillWords", "(II)V"⟩, 20) := ⟨⟨by decide +kernel, by decide +kernel⟩, List.mem_of_getElem? (i := 22) (by decide +kernel), List.mem_of_getElem? (i := 1038) (by decide +kernel), List.mem_of_getElem? (i := 1039) (by decide +kernel)⟩
theorem lw_p75 : lw_okq (⟨"DimStars$Sky", "sizeOf", "(I)J"⟩, 13) := ⟨⟨by decide +kernel, by decide +kernel⟩, List.mem_of_getElem? (i := 30) (by decide +kernel), List.mem_of_getElem? (i := 1042) (by decide +kernel), List.mem_of_getElem? (i := 1043) (by decide +kernel)⟩
theorem lw_p76 : lw_okq (⟨"DimStars$Reckoner", "weigh", "(LDimStars$Text;I[J)J"⟩, 1) := ⟨⟨by decide +kernel, by decide +kernel⟩, List.mem_of_getElem? (i := 216) (by decide +kernel), List.mem_of_getElem? (i := 1047) (by decide +kernel), List.mem_of_getElem? (i := 1048) (by decide +kernel)⟩
theorem lw_p77 : lw_okq (⟨"DimStars", "heaviest", "()I"⟩, 20) := ⟨⟨by decide +kernel, by decide +kernel⟩, List.mem_of_getElem? (i := 22) (by decide +kernel), List.mem_of_getElem? (i := 1056) (by decide +kernel), List.mem_of_getElem? (i := 1057) (by decide +kernel)⟩
theorem lw_p78 : lw_okq (⟨"DimStars$Sky", "luckOf", "(I)J"⟩, 13) := ⟨⟨by decide +kernel, by decide +kernel⟩, List.mem_of_getElem? (i := 30) (by decide +kernel), List.mem_of_getElem? (i := 1068) (by decide +kernel), List.mem_of_getElem? (i := 1069) (by decide +kernel)⟩
theorem lw_p79 : lw_okq (⟨"DimStars", "isSeenWorld", "(III)Z"⟩, 20) := ⟨⟨by decide +kernel, by decide +kernel⟩, List.mem_of_getElem? (i := 22) (by decide +kernel), List.mem_of_getElem? (i := 1072) (by decide +kernel), List.mem_of_getElem? (i := 1073) (by decide +kernel)⟩
def lw_privs_5 : List (MethodName × Nat) := [(⟨"DimStars$Signs", "addHours", "(LDimStars$Look;LDimStars$Finding;)V"⟩, 4), (⟨"DimStars$Signs", "add", "(II)V"⟩, 4), (⟨"DimStars$Signs", "readShifts", "(LDimStars$Look;LDimStars$Finding;)V"⟩, 4), (⟨"DimStars$Look", "shiftOf", "(II)I"⟩, 8), (⟨"DimStars$Signs", "part", "(I)I"⟩, 4), (⟨"DimStars$Signs", "gap", "(II)I"⟩, 4), (⟨"DimStars$Signs", "late", "()I"⟩, 4), (⟨"DimStars", "isWeighed", "(III)Z"⟩, 20), (⟨"DimStars", "sorterAt", "(I)LDimStars$Text;"⟩, 20), (⟨"DimStars", "weighAll", "(III)V"⟩, 20), (⟨"DimStars", "fillWords", "(II)V"⟩, 20), (⟨"DimStars$Sky", "sizeOf", "(I)J"⟩, 13), (⟨"DimStars$Reckoner", "weigh", "(LDimStars$Text;I[J)J"⟩, 1), (⟨"DimStars", "heaviest", "()I"⟩, 20), (⟨"DimStars$Sky", "luckOf", "(I)J"⟩, 13), (⟨"DimStars", "isSeenWorld", "(III)Z"⟩, 20)]
theorem lw_r5 : ∀ q ∈ lw_privs_5, lw_okq q := List.forall_mem_cons.mpr ⟨lw_p64, List.forall_mem_cons.mpr ⟨lw_p65, List.forall_mem_cons.mpr ⟨lw_p66, List.forall_mem_cons.mpr ⟨lw_p67, List.forall_mem_cons.mpr ⟨lw_p68, List.forall_mem_cons.mpr ⟨lw_p69, List.forall_mem_cons.mpr ⟨lw_p70, List.forall_mem_cons.mpr ⟨lw_p71, List.forall_mem_cons.mpr ⟨lw_p72, List.forall_mem_cons.mpr ⟨lw_p73, List.forall_mem_cons.mpr ⟨lw_p74, List.forall_mem_cons.mpr ⟨lw_p75, List.forall_mem_cons.mpr ⟨lw_p76, List.forall_mem_cons.mpr ⟨lw_p77, List.forall_mem_cons.mpr ⟨lw_p78, List.forall_mem_cons.mpr ⟨lw_p79, fun _ h => absurd h List.not_mem_nil⟩⟩⟩⟩⟩⟩⟩⟩⟩⟩⟩⟩⟩⟩⟩⟩
theorem lw_p80 : lw_okq (⟨"DimStars$Look", "dropDips", "(III)V"⟩, 8) := ⟨⟨by decide +kernel, by decide +kernel⟩, List.mem_of_getElem? (i := 227) (by decide +kernel), List.mem_of_getElem? (i := 1088) (by decide +kernel), List.mem_of_getElem? (i := 1089) (by decide +kernel)⟩
theorem lw_p81 : lw_okq (⟨"DimStars$Look", "scoreTwice", "(LDimStars$Finding;)J"⟩, 8) := ⟨⟨by decide +kernel, by decide +kernel⟩, List.mem_of_getElem? (i := 227) (by decide +kernel), List.mem_of_getElem? (i := 1100) (by decide +kernel), List.mem_of_getElem? (i := 1101) (by decide +kernel)⟩
theorem lw_p82 : lw_okq (⟨"DimStars$Look", "scoreHalf", "(LDimStars$Finding;)J"⟩, 8) := ⟨⟨by decide +kernel, by decide +kernel⟩, List.mem_of_getElem? (i := 227) (by decide +kernel), List.mem_of_getElem? (i := 1106) (by decide +kernel), List.mem_of_getElem? (i := 1107) (by decide +kernel)⟩
theorem lw_p83 : lw_okq (⟨"DimStars", "radiusOf", "(LDimStars$Finding;I)I"⟩, 20) := ⟨⟨by decide +kernel, by decide +kernel⟩, List.mem_of_getElem? (i := 22) (by decide +kernel), List.mem_of_getElem? (i := 1114) (by decide +kernel), List.mem_of_getElem? (i := 1115) (by decide +kernel)⟩
theorem lw_p84 : lw_okq (⟨"DimStars$Finding", "radiusAt", "(J)I"⟩, 7) := ⟨⟨by decide +kernel, by decide +kernel⟩, List.mem_of_getElem? (i := 303) (by decide +kernel), List.mem_of_getElem? (i := 1118) (by decide +kernel), List.mem_of_getElem? (i := 1119) (by decide +kernel)⟩
theorem lw_p85 : lw_okq (⟨"DimStars$Signs", "shifted", "()I"⟩, 4) := ⟨⟨by decide +kernel, by decide +kernel⟩, List.mem_of_getElem? (i := 284) (by decide +kernel), List.mem_of_getElem? (i := 1140) (by decide +kernel), List.mem_of_getElem? (i := 1141) (by decide +kernel)⟩
theorem lw_p86 : lw_okq (⟨"DimStars$Signs", "round", "()I"⟩, 4) := ⟨⟨by decide +kernel, by decide +kernel⟩, List.mem_of_getElem? (i := 284) (by decide +kernel), List.mem_of_getElem? (i := 1144) (by decide +kernel), List.mem_of_getElem? (i := 1145) (by decide +kernel)⟩
theorem lw_p87 : lw_okq (⟨"DimStars$Signs", "isRound", "(I)Z"⟩, 4) := ⟨⟨by decide +kernel, by decide +kernel⟩, List.mem_of_getElem? (i := 284) (by decide +kernel), List.mem_of_getElem? (i := 1148) (by decide +kernel), List.mem_of_getElem? (i := 1149) (by decide +kernel)⟩
theorem lw_p88 : lw_okq (⟨"DimStars$Sky", "stepUp", "([II)I"⟩, 13) := ⟨⟨by decide +kernel, by decide +kernel⟩, List.mem_of_getElem? (i := 30) (by decide +kernel), List.mem_of_getElem? (i := 1165) (by decide +kernel), List.mem_of_getElem? (i := 1166) (by decide +kernel)⟩
theorem lw_p89 : lw_okq (⟨"DimStars$Sky", "numbers", "()I"⟩, 13) := ⟨⟨by decide +kernel, by decide +kernel⟩, List.mem_of_getElem? (i := 30) (by decide +kernel), List.mem_of_getElem? (i := 1177) (by decide +kernel), List.mem_of_getElem? (i := 1178) (by decide +kernel)⟩
theorem lw_p90 : lw_okq (⟨"DimStars$Star", "numbers", "()I"⟩, 4) := ⟨⟨by decide +kernel, by decide +kernel⟩, List.mem_of_getElem? (i := 428) (by decide +kernel), List.mem_of_getElem? (i := 1181) (by decide +kernel), List.mem_of_getElem? (i := 1182) (by decide +kernel)⟩
theorem lw_p91 : lw_okq (⟨"DimStars$Sky", "become", "(LDimStars$Sky;)V"⟩, 13) := ⟨⟨by decide +kernel, by decide +kernel⟩, List.mem_of_getElem? (i := 30) (by decide +kernel), List.mem_of_getElem? (i := 1189) (by decide +kernel), List.mem_of_getElem? (i := 1190) (by decide +kernel)⟩
theorem lw_p92 : lw_okq (⟨"DimStars$Star", "become", "(LDimStars$Star;)V"⟩, 4) := ⟨⟨by decide +kernel, by decide +kernel⟩, List.mem_of_getElem? (i := 428) (by decide +kernel), List.mem_of_getElem? (i := 1193) (by decide +kernel), List.mem_of_getElem? (i := 1194) (by decide +kernel)⟩
theorem lw_p93 : lw_okq (⟨"DimStarsModel", "isStar", "(I)Z"⟩, 49) := ⟨⟨by decide +kernel, by decide +kernel⟩, List.mem_of_getElem? (i := 1203) (by decide +kernel), List.mem_of_getElem? (i := 1373) (by decide +kernel), List.mem_of_getElem? (i := 1374) (by decide +kernel)⟩
theorem lw_p94 : lw_okq (⟨"DimStarsModel", "starOf", "(II)I"⟩, 49) := ⟨⟨by decide +kernel, by decide +kernel⟩, List.mem_of_getElem? (i := 1203) (by decide +kernel), List.mem_of_getElem? (i := 1387) (by decide +kernel), List.mem_of_getElem? (i := 1388) (by decide +kernel)⟩
theorem lw_p95 : lw_okq (⟨"DimStarsModel", "means", "()V"⟩, 49) := ⟨⟨by decide +kernel, by decide +kernel⟩, List.mem_of_getElem? (i := 1203) (by decide +kernel), List.mem_of_getElem? (i := 1411) (by decide +kernel), List.mem_of_getElem? (i := 1412) (by decide +kernel)⟩
def lw_privs_6 : List (MethodName × Nat) := [(⟨"DimStars$Look", "dropDips", "(III)V"⟩, 8), (⟨"DimStars$Look", "scoreTwice", "(LDimStars$Finding;)J"⟩, 8), (⟨"DimStars$Look", "scoreHalf", "(LDimStars$Finding;)J"⟩, 8), (⟨"DimStars", "radiusOf", "(LDimStars$Finding;I)I"⟩, 20), (⟨"DimStars$Finding", "radiusAt", "(J)I"⟩, 7), (⟨"DimStars$Signs", "shifted", "()I"⟩, 4), (⟨"DimStars$Signs", "round", "()I"⟩, 4), (⟨"DimStars$Signs", "isRound", "(I)Z"⟩, 4), (⟨"DimStars$Sky", "stepUp", "([II)I"⟩, 13), (⟨"DimStars$Sky", "numbers", "()I"⟩, 13), (⟨"DimStars$Star", "numbers", "()I"⟩, 4), (⟨"DimStars$Sky", "become", "(LDimStars$Sky;)V"⟩, 13), (⟨"DimStars$Star", "become", "(LDimStars$Star;)V"⟩, 4), (⟨"DimStarsModel", "isStar", "(I)Z"⟩, 49), (⟨"DimStarsModel", "starOf", "(II)I"⟩, 49), (⟨"DimStarsModel", "means", "()V"⟩, 49)]
theorem lw_r6 : ∀ q ∈ lw_privs_6, lw_okq q := List.forall_mem_cons.mpr ⟨lw_p80, List.forall_mem_cons.mpr ⟨lw_p81, List.forall_mem_cons.mpr ⟨lw_p82, List.forall_mem_cons.mpr ⟨lw_p83, List.forall_mem_cons.mpr ⟨lw_p84, List.forall_mem_cons.mpr ⟨lw_p85, List.forall_mem_cons.mpr ⟨lw_p86, List.forall_mem_cons.mpr ⟨lw_p87, List.forall_mem_cons.mpr ⟨lw_p88, List.forall_mem_cons.mpr ⟨lw_p89, List.forall_mem_cons.mpr ⟨lw_p90, List.forall_mem_cons.mpr ⟨lw_p91, List.forall_mem_cons.mpr ⟨lw_p92, List.forall_mem_cons.mpr ⟨lw_p93, List.forall_mem_cons.mpr ⟨lw_p94, List.forall_mem_cons.mpr ⟨lw_p95, fun _ h => absurd h List.not_mem_nil⟩⟩⟩⟩⟩⟩⟩⟩⟩⟩⟩⟩⟩⟩⟩⟩
theorem lw_p96 : lw_okq (⟨"DimStarsModel", "meanOf", "(III)I"⟩, 49) := ⟨⟨by decide +kernel, by decide +kernel⟩, List.mem_of_getElem? (i := 1203) (by decide +kernel), List.mem_of_getElem? (i := 1415) (by decide +kernel), List.mem_of_getElem? (i := 1416) (by decide +kernel)⟩
theorem lw_p97 : lw_okq (⟨"DimStarsModel", "rowAt", "(II)I"⟩, 49) := ⟨⟨by decide +kernel, by decide +kernel⟩, List.mem_of_getElem? (i := 1203) (by decide +kernel), List.mem_of_getElem? (i := 1419) (by decide +kernel), List.mem_of_getElem? (i := 1420) (by decide +kernel)⟩
theorem lw_p98 : lw_okq (⟨"DimStarsModel", "seenAt", "(III)I"⟩, 49) := ⟨⟨by decide +kernel, by decide +kernel⟩, List.mem_of_getElem? (i := 1203) (by decide +kernel), List.mem_of_getElem? (i := 1426) (by decide +kernel), List.mem_of_getElem? (i := 1427) (by decide +kernel)⟩
theorem lw_p99 : lw_okq (⟨"DimStarsModel", "isMasked", "(II)Z"⟩, 49) := ⟨⟨by decide +kernel, by decide +kernel⟩, List.mem_of_getElem? (i := 1203) (by decide +kernel), List.mem_of_getElem? (i := 1433) (by decide +kernel), List.mem_of_getElem? (i := 1434) (by decide +kernel)⟩
theorem lw_p100 : lw_okq (⟨"DimStarsModel", "four", "(I)V"⟩, 49) := ⟨⟨by decide +kernel, by decide +kernel⟩, List.mem_of_getElem? (i := 1203) (by decide +kernel), List.mem_of_getElem? (i := 1451) (by decide +kernel), List.mem_of_getElem? (i := 1452) (by decide +kernel)⟩
theorem lw_p101 : lw_okq (⟨"DimStarsModel", "clauseHere", "()Z"⟩, 49) := ⟨⟨by decide +kernel, by decide +kernel⟩, List.mem_of_getElem? (i := 1203) (by decide +kernel), List.mem_of_getElem? (i := 1463) (by decide +kernel), List.mem_of_getElem? (i := 1464) (by decide +kernel)⟩
theorem lw_p102 : lw_okq (⟨"DimStarsModel", "see", "()I"⟩, 49) := ⟨⟨by decide +kernel, by decide +kernel⟩, List.mem_of_getElem? (i := 1203) (by decide +kernel), List.mem_of_getElem? (i := 1467) (by decide +kernel), List.mem_of_getElem? (i := 1468) (by decide +kernel)⟩
theorem lw_p103 : lw_okq (⟨"DimStarsModel", "isWord", "(J)Z"⟩, 49) := ⟨⟨by decide +kernel, by decide +kernel⟩, List.mem_of_getElem? (i := 1203) (by decide +kernel), List.mem_of_getElem? (i := 1472) (by decide +kernel), List.mem_of_getElem? (i := 1473) (by decide +kernel)⟩
theorem lw_p104 : lw_okq (⟨"DimStarsModel", "isLetter", "(I)Z"⟩, 49) := ⟨⟨by decide +kernel, by decide +kernel⟩, List.mem_of_getElem? (i := 1203) (by decide +kernel), List.mem_of_getElem? (i := 1476) (by decide +kernel), List.mem_of_getElem? (i := 1477) (by decide +kernel)⟩
theorem lw_p105 : lw_okq (⟨"DimStarsModel", "fails", "(II)Z"⟩, 49) := ⟨⟨by decide +kernel, by decide +kernel⟩, List.mem_of_getElem? (i := 1203) (by decide +kernel), List.mem_of_getElem? (i := 1490) (by decide +kernel), List.mem_of_getElem? (i := 1491) (by decide +kernel)⟩
theorem lw_p106 : lw_okq (⟨"DimStarsModel", "lawClause", "(I)Z"⟩, 49) := ⟨⟨by decide +kernel, by decide +kernel⟩, List.mem_of_getElem? (i := 1203) (by decide +kernel), List.mem_of_getElem? (i := 1494) (by decide +kernel), List.mem_of_getElem? (i := 1495) (by decide +kernel)⟩
theorem lw_p107 : lw_okq (⟨"DimStarsModel", "clauseOf", "(I)Z"⟩, 49) := ⟨⟨by decide +kernel, by decide +kernel⟩, List.mem_of_getElem? (i := 1203) (by decide +kernel), List.mem_of_getElem? (i := 1498) (by decide +kernel), List.mem_of_getElem? (i := 1499) (by decide +kernel)⟩
theorem lw_p108 : lw_okq (⟨"DimStarsModel", "passWord", "()V"⟩, 49) := ⟨⟨by decide +kernel, by decide +kernel⟩, List.mem_of_getElem? (i := 1203) (by decide +kernel), List.mem_of_getElem? (i := 1502) (by decide +kernel), List.mem_of_getElem? (i := 1503) (by decide +kernel)⟩
theorem lw_p109 : lw_okq (⟨"DimStarsModel", "sum", "()Z"⟩, 49) := ⟨⟨by decide +kernel, by decide +kernel⟩, List.mem_of_getElem? (i := 1203) (by decide +kernel), List.mem_of_getElem? (i := 1506) (by decide +kernel), List.mem_of_getElem? (i := 1507) (by decide +kernel)⟩
theorem lw_p110 : lw_okq (⟨"DimStarsModel", "term", "()Z"⟩, 49) := ⟨⟨by decide +kernel, by decide +kernel⟩, List.mem_of_getElem? (i := 1203) (by decide +kernel), List.mem_of_getElem? (i := 1510) (by decide +kernel), List.mem_of_getElem? (i := 1511) (by decide +kernel)⟩
theorem lw_p111 : lw_okq (⟨"DimStarsModel", "value", "()Z"⟩, 49) := ⟨⟨by decide +kernel, by decide +kernel⟩, List.mem_of_getElem? (i := 1203) (by decide +kernel), List.mem_of_getElem? (i := 1514) (by decide +kernel), List.mem_of_getElem? (i := 1515) (by decide +kernel)⟩
def lw_privs_7 : List (MethodName × Nat) := [(⟨"DimStarsModel", "meanOf", "(III)I"⟩, 49), (⟨"DimStarsModel", "rowAt", "(II)I"⟩, 49), (⟨"DimStarsModel", "seenAt", "(III)I"⟩, 49), (⟨"DimStarsModel", "isMasked", "(II)Z"⟩, 49), (⟨"DimStarsModel", "four", "(I)V"⟩, 49), (⟨"DimStarsModel", "clauseHere", "()Z"⟩, 49), (⟨"DimStarsModel", "see", "()I"⟩, 49), (⟨"DimStarsModel", "isWord", "(J)Z"⟩, 49), (⟨"DimStarsModel", "isLetter", "(I)Z"⟩, 49), (⟨"DimStarsModel", "fails", "(II)Z"⟩, 49), (⟨"DimStarsModel", "lawClause", "(I)Z"⟩, 49), (⟨"DimStarsModel", "clauseOf", "(I)Z"⟩, 49), (⟨"DimStarsModel", "passWord", "()V"⟩, 49), (⟨"DimStarsModel", "sum", "()Z"⟩, 49), (⟨"DimStarsModel", "term", "()Z"⟩, 49), (⟨"DimStarsModel", "value", "()Z"⟩, 49)]
theorem lw_r7 : ∀ q ∈ lw_privs_7, lw_okq q := List.forall_mem_cons.mpr ⟨lw_p96, List.forall_mem_cons.mpr ⟨lw_p97, List.forall_mem_cons.mpr ⟨lw_p98, List.forall_mem_cons.mpr ⟨lw_p99, List.forall_mem_cons.mpr ⟨lw_p100, List.forall_mem_cons.mpr ⟨lw_p101, List.forall_mem_cons.mpr ⟨lw_p102, List.forall_mem_cons.mpr ⟨lw_p103, List.forall_mem_cons.mpr ⟨lw_p104, List.forall_mem_cons.mpr ⟨lw_p105, List.forall_mem_cons.mpr ⟨lw_p106, List.forall_mem_cons.mpr ⟨lw_p107, List.forall_mem_cons.mpr ⟨lw_p108, List.forall_mem_cons.mpr ⟨lw_p109, List.forall_mem_cons.mpr ⟨lw_p110, List.forall_mem_cons.mpr ⟨lw_p111, fun _ h => absurd h List.not_mem_nil⟩⟩⟩⟩⟩⟩⟩⟩⟩⟩⟩⟩⟩⟩⟩⟩
theorem lw_p112 : lw_okq (⟨"DimStarsModel", "isDigit", "(I)Z"⟩, 49) := ⟨⟨by decide +kernel, by decide +kernel⟩, List.mem_of_getElem? (i := 1203) (by decide +kernel), List.mem_of_getElem? (i := 1518) (by decide +kernel), List.mem_of_getElem? (i := 1519) (by decide +kernel)⟩
theorem lw_p113 : lw_okq (⟨"DimStarsModel", "number", "(II)Z"⟩, 49) := ⟨⟨by decide +kernel, by decide +kernel⟩, List.mem_of_getElem? (i := 1203) (by decide +kernel), List.mem_of_getElem? (i := 1523) (by decide +kernel), List.mem_of_getElem? (i := 1524) (by decide +kernel)⟩
theorem lw_p114 : lw_okq (⟨"DimStarsModel", "makes", "(I)Z"⟩, 49) := ⟨⟨by decide +kernel, by decide +kernel⟩, List.mem_of_getElem? (i := 1203) (by decide +kernel), List.mem_of_getElem? (i := 1527) (by decide +kernel), List.mem_of_getElem? (i := 1528) (by decide +kernel)⟩
theorem lw_p115 : lw_okq (⟨"DimStarsModel", "puts", "(II)V"⟩, 49) := ⟨⟨by decide +kernel, by decide +kernel⟩, List.mem_of_getElem? (i := 1203) (by decide +kernel), List.mem_of_getElem? (i := 1531) (by decide +kernel), List.mem_of_getElem? (i := 1532) (by decide +kernel)⟩
theorem lw_p116 : lw_okq (⟨"DimStarsModel", "wordHere", "()I"⟩, 49) := ⟨⟨by decide +kernel, by decide +kernel⟩, List.mem_of_getElem? (i := 1203) (by decide +kernel), List.mem_of_getElem? (i := 1535) (by decide +kernel), List.mem_of_getElem? (i := 1536) (by decide +kernel)⟩
theorem lw_p117 : lw_okq (⟨"DimStarsModel", "takesWord", "(J)Z"⟩, 49) := ⟨⟨by decide +kernel, by decide +kernel⟩, List.mem_of_getElem? (i := 1203) (by decide +kernel), List.mem_of_getElem? (i := 1552) (by decide +kernel), List.mem_of_getElem? (i := 1553) (by decide +kernel)⟩
theorem lw_p118 : lw_okq (⟨"DimStarsModel", "tested", "()Z"⟩, 49) := ⟨⟨by decide +kernel, by decide +kernel⟩, List.mem_of_getElem? (i := 1203) (by decide +kernel), List.mem_of_getElem? (i := 1556) (by decide +kernel), List.mem_of_getElem? (i := 1557) (by decide +kernel)⟩
theorem lw_p119 : lw_okq (⟨"DimStarsModel", "fact", "()Z"⟩, 49) := ⟨⟨by decide +kernel, by decide +kernel⟩, List.mem_of_getElem? (i := 1203) (by decide +kernel), List.mem_of_getElem? (i := 1560) (by decide +kernel), List.mem_of_getElem? (i := 1561) (by decide +kernel)⟩
theorem lw_p120 : lw_okq (⟨"DimStarsModel", "opens", "(I)Z"⟩, 49) := ⟨⟨by decide +kernel, by decide +kernel⟩, List.mem_of_getElem? (i := 1203) (by decide +kernel), List.mem_of_getElem? (i := 1565) (by decide +kernel), List.mem_of_getElem? (i := 1566) (by decide +kernel)⟩
theorem lw_p121 : lw_okq (⟨"DimStarsModel", "compare", "()Z"⟩, 49) := ⟨⟨by decide +kernel, by decide +kernel⟩, List.mem_of_getElem? (i := 1203) (by decide +kernel), List.mem_of_getElem? (i := 1569) (by decide +kernel), List.mem_of_getElem? (i := 1570) (by decide +kernel)⟩
theorem lw_p122 : lw_okq (⟨"DimStarsModel", "closes", "()V"⟩, 49) := ⟨⟨by decide +kernel, by decide +kernel⟩, List.mem_of_getElem? (i := 1203) (by decide +kernel), List.mem_of_getElem? (i := 1573) (by decide +kernel), List.mem_of_getElem? (i := 1574) (by decide +kernel)⟩
theorem lw_p123 : lw_okq (⟨"DimStarsModel", "settles", "(I)V"⟩, 49) := ⟨⟨by decide +kernel, by decide +kernel⟩, List.mem_of_getElem? (i := 1203) (by decide +kernel), List.mem_of_getElem? (i := 1577) (by decide +kernel), List.mem_of_getElem? (i := 1578) (by decide +kernel)⟩
theorem lw_p124 : lw_okq (⟨"DimStarsModel", "isInside", "()Z"⟩, 49) := ⟨⟨by decide +kernel, by decide +kernel⟩, List.mem_of_getElem? (i := 1203) (by decide +kernel), List.mem_of_getElem? (i := 1584) (by decide +kernel), List.mem_of_getElem? (i := 1585) (by decide +kernel)⟩
theorem lw_p125 : lw_okq (⟨"DimStarsModel", "sets", "([IIII)Z"⟩, 49) := ⟨⟨by decide +kernel, by decide +kernel⟩, List.mem_of_getElem? (i := 1203) (by decide +kernel), List.mem_of_getElem? (i := 1590) (by decide +kernel), List.mem_of_getElem? (i := 1591) (by decide +kernel)⟩
theorem lw_p126 : lw_okq (⟨"DimStarsModel", "searchClause", "(I)Z"⟩, 49) := ⟨⟨by decide +kernel, by decide +kernel⟩, List.mem_of_getElem? (i := 1203) (by decide +kernel), List.mem_of_getElem? (i := 1594) (by decide +kernel), List.mem_of_getElem? (i := 1595) (by decide +kernel)⟩
theorem lw_p127 : lw_okq (⟨"DimStarsModel", "spans", "([I[IIII)Z"⟩, 49) := ⟨⟨by decide +kernel, by decide +kernel⟩, List.mem_of_getElem? (i := 1203) (by decide +kernel), List.mem_of_getElem? (i := 1598) (by decide +kernel), List.mem_of_getElem? (i := 1599) (by decide +kernel)⟩
def lw_privs_8 : List (MethodName × Nat) := [(⟨"DimStarsModel", "isDigit", "(I)Z"⟩, 49), (⟨"DimStarsModel", "number", "(II)Z"⟩, 49), (⟨"DimStarsModel", "makes", "(I)Z"⟩, 49), (⟨"DimStarsModel", "puts", "(II)V"⟩, 49), (⟨"DimStarsModel", "wordHere", "()I"⟩, 49), (⟨"DimStarsModel", "takesWord", "(J)Z"⟩, 49), (⟨"DimStarsModel", "tested", "()Z"⟩, 49), (⟨"DimStarsModel", "fact", "()Z"⟩, 49), (⟨"DimStarsModel", "opens", "(I)Z"⟩, 49), (⟨"DimStarsModel", "compare", "()Z"⟩, 49), (⟨"DimStarsModel", "closes", "()V"⟩, 49), (⟨"DimStarsModel", "settles", "(I)V"⟩, 49), (⟨"DimStarsModel", "isInside", "()Z"⟩, 49), (⟨"DimStarsModel", "sets", "([IIII)Z"⟩, 49), (⟨"DimStarsModel", "searchClause", "(I)Z"⟩, 49), (⟨"DimStarsModel", "spans", "([I[IIII)Z"⟩, 49)]
theorem lw_r8 : ∀ q ∈ lw_privs_8, lw_okq q := List.forall_mem_cons.mpr ⟨lw_p112, List.forall_mem_cons.mpr ⟨lw_p113, List.forall_mem_cons.mpr ⟨lw_p114, List.forall_mem_cons.mpr ⟨lw_p115, List.forall_mem_cons.mpr ⟨lw_p116, List.forall_mem_cons.mpr ⟨lw_p117, List.forall_mem_cons.mpr ⟨lw_p118, List.forall_mem_cons.mpr ⟨lw_p119, List.forall_mem_cons.mpr ⟨lw_p120, List.forall_mem_cons.mpr ⟨lw_p121, List.forall_mem_cons.mpr ⟨lw_p122, List.forall_mem_cons.mpr ⟨lw_p123, List.forall_mem_cons.mpr ⟨lw_p124, List.forall_mem_cons.mpr ⟨lw_p125, List.forall_mem_cons.mpr ⟨lw_p126, List.forall_mem_cons.mpr ⟨lw_p127, fun _ h => absurd h List.not_mem_nil⟩⟩⟩⟩⟩⟩⟩⟩⟩⟩⟩⟩⟩⟩⟩⟩
theorem lw_p128 : lw_okq (⟨"DimStarsModel", "isText", "(II)Z"⟩, 49) := ⟨⟨by decide +kernel, by decide +kernel⟩, List.mem_of_getElem? (i := 1203) (by decide +kernel), List.mem_of_getElem? (i := 1606) (by decide +kernel), List.mem_of_getElem? (i := 1607) (by decide +kernel)⟩
theorem lw_p129 : lw_okq (⟨"DimStarsModel", "isHolding", "(II)Z"⟩, 49) := ⟨⟨by decide +kernel, by decide +kernel⟩, List.mem_of_getElem? (i := 1203) (by decide +kernel), List.mem_of_getElem? (i := 1610) (by decide +kernel), List.mem_of_getElem? (i := 1611) (by decide +kernel)⟩
theorem lw_p130 : lw_okq (⟨"DimStarsModel", "reckons", "(III)J"⟩, 49) := ⟨⟨by decide +kernel, by decide +kernel⟩, List.mem_of_getElem? (i := 1203) (by decide +kernel), List.mem_of_getElem? (i := 1614) (by decide +kernel), List.mem_of_getElem? (i := 1615) (by decide +kernel)⟩
theorem lw_p131 : lw_okq (⟨"DimStarsModel", "push", "(J)V"⟩, 49) := ⟨⟨by decide +kernel, by decide +kernel⟩, List.mem_of_getElem? (i := 1203) (by decide +kernel), List.mem_of_getElem? (i := 1618) (by decide +kernel), List.mem_of_getElem? (i := 1619) (by decide +kernel)⟩
theorem lw_p132 : lw_okq (⟨"DimStarsModel", "pop", "()J"⟩, 49) := ⟨⟨by decide +kernel, by decide +kernel⟩, List.mem_of_getElem? (i := 1203) (by decide +kernel), List.mem_of_getElem? (i := 1622) (by decide +kernel), List.mem_of_getElem? (i := 1623) (by decide +kernel)⟩
theorem lw_p133 : lw_okq (⟨"DimStarsModel", "summed", "(II)J"⟩, 49) := ⟨⟨by decide +kernel, by decide +kernel⟩, List.mem_of_getElem? (i := 1203) (by decide +kernel), List.mem_of_getElem? (i := 1629) (by decide +kernel), List.mem_of_getElem? (i := 1630) (by decide +kernel)⟩
theorem lw_p134 : lw_okq (⟨"DimStarsModel", "worldOf", "(II)I"⟩, 49) := ⟨⟨by decide +kernel, by decide +kernel⟩, List.mem_of_getElem? (i := 1203) (by decide +kernel), List.mem_of_getElem? (i := 1635) (by decide +kernel), List.mem_of_getElem? (i := 1636) (by decide +kernel)⟩
theorem lw_p135 : lw_okq (⟨"DimStarsModel", "isDip", "(II)Z"⟩, 49) := ⟨⟨by decide +kernel, by decide +kernel⟩, List.mem_of_getElem? (i := 1203) (by decide +kernel), List.mem_of_getElem? (i := 1639) (by decide +kernel), List.mem_of_getElem? (i := 1640) (by decide +kernel)⟩
theorem lw_p136 : lw_okq (⟨"DimStarsModel", "lifts", "(II)V"⟩, 49) := ⟨⟨by decide +kernel, by decide +kernel⟩, List.mem_of_getElem? (i := 1203) (by decide +kernel), List.mem_of_getElem? (i := 1652) (by decide +kernel), List.mem_of_getElem? (i := 1653) (by decide +kernel)⟩
theorem lw_p137 : lw_okq (⟨"DimStarsModel", "counts", "()V"⟩, 49) := ⟨⟨by decide +kernel, by decide +kernel⟩, List.mem_of_getElem? (i := 1203) (by decide +kernel), List.mem_of_getElem? (i := 1656) (by decide +kernel), List.mem_of_getElem? (i := 1657) (by decide +kernel)⟩
theorem lw_p138 : lw_okq (⟨"DimStarsModel", "takesIn", "(III)V"⟩, 49) := ⟨⟨by decide +kernel, by decide +kernel⟩, List.mem_of_getElem? (i := 1203) (by decide +kernel), List.mem_of_getElem? (i := 1668) (by decide +kernel), List.mem_of_getElem? (i := 1669) (by decide +kernel)⟩
theorem lw_p139 : lw_okq (⟨"DimStarsModel", "isNumber", "(I)Z"⟩, 49) := ⟨⟨by decide +kernel, by decide +kernel⟩, List.mem_of_getElem? (i := 1203) (by decide +kernel), List.mem_of_getElem? (i := 1672) (by decide +kernel), List.mem_of_getElem? (i := 1673) (by decide +kernel)⟩
theorem lw_p140 : lw_okq (⟨"DimStarsModel", "dipsOf", "(III)I"⟩, 49) := ⟨⟨by decide +kernel, by decide +kernel⟩, List.mem_of_getElem? (i := 1203) (by decide +kernel), List.mem_of_getElem? (i := 1682) (by decide +kernel), List.mem_of_getElem? (i := 1683) (by decide +kernel)⟩
theorem lw_p141 : lw_okq (⟨"DimStarsModel", "hasHour", "(II)Z"⟩, 49) := ⟨⟨by decide +kernel, by decide +kernel⟩, List.mem_of_getElem? (i := 1203) (by decide +kernel), List.mem_of_getElem? (i := 1686) (by decide +kernel), List.mem_of_getElem? (i := 1687) (by decide +kernel)⟩
theorem lw_p142 : lw_okq (⟨"DimStarsModel", "deepBy", "(JIJI)J"⟩, 49) := ⟨⟨by decide +kernel, by decide +kernel⟩, List.mem_of_getElem? (i := 1203) (by decide +kernel), List.mem_of_getElem? (i := 1691) (by decide +kernel), List.mem_of_getElem? (i := 1692) (by decide +kernel)⟩
theorem lw_p143 : lw_okq (⟨"DimStarsModel", "scoreTried", "(III)J"⟩, 49) := ⟨⟨by decide +kernel, by decide +kernel⟩, List.mem_of_getElem? (i := 1203) (by decide +kernel), List.mem_of_getElem? (i := 1695) (by decide +kernel), List.mem_of_getElem? (i := 1696) (by decide +kernel)⟩
def lw_privs_9 : List (MethodName × Nat) := [(⟨"DimStarsModel", "isText", "(II)Z"⟩, 49), (⟨"DimStarsModel", "isHolding", "(II)Z"⟩, 49), (⟨"DimStarsModel", "reckons", "(III)J"⟩, 49), (⟨"DimStarsModel", "push", "(J)V"⟩, 49), (⟨"DimStarsModel", "pop", "()J"⟩, 49), (⟨"DimStarsModel", "summed", "(II)J"⟩, 49), (⟨"DimStarsModel", "worldOf", "(II)I"⟩, 49), (⟨"DimStarsModel", "isDip", "(II)Z"⟩, 49), (⟨"DimStarsModel", "lifts", "(II)V"⟩, 49), (⟨"DimStarsModel", "counts", "()V"⟩, 49), (⟨"DimStarsModel", "takesIn", "(III)V"⟩, 49), (⟨"DimStarsModel", "isNumber", "(I)Z"⟩, 49), (⟨"DimStarsModel", "dipsOf", "(III)I"⟩, 49), (⟨"DimStarsModel", "hasHour", "(II)Z"⟩, 49), (⟨"DimStarsModel", "deepBy", "(JIJI)J"⟩, 49), (⟨"DimStarsModel", "scoreTried", "(III)J"⟩, 49)]
theorem lw_r9 : ∀ q ∈ lw_privs_9, lw_okq q := List.forall_mem_cons.mpr ⟨lw_p128, List.forall_mem_cons.mpr ⟨lw_p129, List.forall_mem_cons.mpr ⟨lw_p130, List.forall_mem_cons.mpr ⟨lw_p131, List.forall_mem_cons.mpr ⟨lw_p132, List.forall_mem_cons.mpr ⟨lw_p133, List.forall_mem_cons.mpr ⟨lw_p134, List.forall_mem_cons.mpr ⟨lw_p135, List.forall_mem_cons.mpr ⟨lw_p136, List.forall_mem_cons.mpr ⟨lw_p137, List.forall_mem_cons.mpr ⟨lw_p138, List.forall_mem_cons.mpr ⟨lw_p139, List.forall_mem_cons.mpr ⟨lw_p140, List.forall_mem_cons.mpr ⟨lw_p141, List.forall_mem_cons.mpr ⟨lw_p142, List.forall_mem_cons.mpr ⟨lw_p143, fun _ h => absurd h List.not_mem_nil⟩⟩⟩⟩⟩⟩⟩⟩⟩⟩⟩⟩⟩⟩⟩⟩
theorem lw_p144 : lw_okq (⟨"DimStarsModel", "scoreOf", "(JI)J"⟩, 49) := ⟨⟨by decide +kernel, by decide +kernel⟩, List.mem_of_getElem? (i := 1203) (by decide +kernel), List.mem_of_getElem? (i := 1699) (by decide +kernel), List.mem_of_getElem? (i := 1700) (by decide +kernel)⟩
theorem lw_p145 : lw_okq (⟨"DimStarsModel", "finds", "(III)Z"⟩, 49) := ⟨⟨by decide +kernel, by decide +kernel⟩, List.mem_of_getElem? (i := 1203) (by decide +kernel), List.mem_of_getElem? (i := 1709) (by decide +kernel), List.mem_of_getElem? (i := 1710) (by decide +kernel)⟩
theorem lw_p146 : lw_okq (⟨"DimStarsModel", "seeks", "(I)Z"⟩, 49) := ⟨⟨by decide +kernel, by decide +kernel⟩, List.mem_of_getElem? (i := 1203) (by decide +kernel), List.mem_of_getElem? (i := 1713) (by decide +kernel), List.mem_of_getElem? (i := 1714) (by decide +kernel)⟩
theorem lw_p147 : lw_okq (⟨"DimStarsModel", "rests", "(I)V"⟩, 49) := ⟨⟨by decide +kernel, by decide +kernel⟩, List.mem_of_getElem? (i := 1203) (by decide +kernel), List.mem_of_getElem? (i := 1717) (by decide +kernel), List.mem_of_getElem? (i := 1718) (by decide +kernel)⟩
theorem lw_p148 : lw_okq (⟨"DimStarsModel", "tries", "(IIII)V"⟩, 49) := ⟨⟨by decide +kernel, by decide +kernel⟩, List.mem_of_getElem? (i := 1203) (by decide +kernel), List.mem_of_getElem? (i := 1721) (by decide +kernel), List.mem_of_getElem? (i := 1722) (by decide +kernel)⟩
theorem lw_p149 : lw_okq (⟨"DimStarsModel", "tells", "(II)J"⟩, 49) := ⟨⟨by decide +kernel, by decide +kernel⟩, List.mem_of_getElem? (i := 1203) (by decide +kernel), List.mem_of_getElem? (i := 1725) (by decide +kernel), List.mem_of_getElem? (i := 1726) (by decide +kernel)⟩
theorem lw_p150 : lw_okq (⟨"DimStarsModel", "isSeen", "(I)Z"⟩, 49) := ⟨⟨by decide +kernel, by decide +kernel⟩, List.mem_of_getElem? (i := 1203) (by decide +kernel), List.mem_of_getElem? (i := 1729) (by decide +kernel), List.mem_of_getElem? (i := 1730) (by decide +kernel)⟩
theorem lw_p151 : lw_okq (⟨"DimStarsModel", "isPut", "(I)Z"⟩, 49) := ⟨⟨by decide +kernel, by decide +kernel⟩, List.mem_of_getElem? (i := 1203) (by decide +kernel), List.mem_of_getElem? (i := 1737) (by decide +kernel), List.mem_of_getElem? (i := 1738) (by decide +kernel)⟩
theorem lw_p152 : lw_okq (⟨"DimStarsModel", "isCaught", "(II)Z"⟩, 49) := ⟨⟨by decide +kernel, by decide +kernel⟩, List.mem_of_getElem? (i := 1203) (by decide +kernel), List.mem_of_getElem? (i := 1741) (by decide +kernel), List.mem_of_getElem? (i := 1742) (by decide +kernel)⟩
theorem lw_p153 : lw_okq (⟨"DimStarsModel", "findsPut", "(II)Z"⟩, 49) := ⟨⟨by decide +kernel, by decide +kernel⟩, List.mem_of_getElem? (i := 1203) (by decide +kernel), List.mem_of_getElem? (i := 1745) (by decide +kernel), List.mem_of_getElem? (i := 1746) (by decide +kernel)⟩
theorem lw_p154 : lw_okq (⟨"DimStarsModel", "putIn", "()I"⟩, 49) := ⟨⟨by decide +kernel, by decide +kernel⟩, List.mem_of_getElem? (i := 1203) (by decide +kernel), List.mem_of_getElem? (i := 1753) (by decide +kernel), List.mem_of_getElem? (i := 1754) (by decide +kernel)⟩
theorem lw_p155 : lw_okq (⟨"DimStarsModel", "caughtBy", "(I)I"⟩, 49) := ⟨⟨by decide +kernel, by decide +kernel⟩, List.mem_of_getElem? (i := 1203) (by decide +kernel), List.mem_of_getElem? (i := 1757) (by decide +kernel), List.mem_of_getElem? (i := 1758) (by decide +kernel)⟩
theorem lw_p156 : lw_okq (⟨"DimStarsModel", "deepHalf", "(I)J"⟩, 49) := ⟨⟨by decide +kernel, by decide +kernel⟩, List.mem_of_getElem? (i := 1203) (by decide +kernel), List.mem_of_getElem? (i := 1778) (by decide +kernel), List.mem_of_getElem? (i := 1779) (by decide +kernel)⟩
theorem lw_p157 : lw_okq (⟨"DimStarsModel", "gathers", "(I)V"⟩, 49) := ⟨⟨by decide +kernel, by decide +kernel⟩, List.mem_of_getElem? (i := 1203) (by decide +kernel), List.mem_of_getElem? (i := 1782) (by decide +kernel), List.mem_of_getElem? (i := 1783) (by decide +kernel)⟩
theorem lw_p158 : lw_okq (⟨"DimStarsModel", "oddness", "()J"⟩, 49) := ⟨⟨by decide +kernel, by decide +kernel⟩, List.mem_of_getElem? (i := 1203) (by decide +kernel), List.mem_of_getElem? (i := 1786) (by decide +kernel), List.mem_of_getElem? (i := 1787) (by decide +kernel)⟩
theorem lw_p159 : lw_okq (⟨"DimStarsModel", "shapeOf", "()J"⟩, 49) := ⟨⟨by decide +kernel, by decide +kernel⟩, List.mem_of_getElem? (i := 1203) (by decide +kernel), List.mem_of_getElem? (i := 1790) (by decide +kernel), List.mem_of_getElem? (i := 1791) (by decide +kernel)⟩
def lw_privs_10 : List (MethodName × Nat) := [(⟨"DimStarsModel", "scoreOf", "(JI)J"⟩, 49), (⟨"DimStarsModel", "finds", "(III)Z"⟩, 49), (⟨"DimStarsModel", "seeks", "(I)Z"⟩, 49), (⟨"DimStarsModel", "rests", "(I)V"⟩, 49), (⟨"DimStarsModel", "tries", "(IIII)V"⟩, 49), (⟨"DimStarsModel", "tells", "(II)J"⟩, 49), (⟨"DimStarsModel", "isSeen", "(I)Z"⟩, 49), (⟨"DimStarsModel", "isPut", "(I)Z"⟩, 49), (⟨"DimStarsModel", "isCaught", "(II)Z"⟩, 49), (⟨"DimStarsModel", "findsPut", "(II)Z"⟩, 49), (⟨"DimStarsModel", "putIn", "()I"⟩, 49), (⟨"DimStarsModel", "caughtBy", "(I)I"⟩, 49), (⟨"DimStarsModel", "deepHalf", "(I)J"⟩, 49), (⟨"DimStarsModel", "gathers", "(I)V"⟩, 49), (⟨"DimStarsModel", "oddness", "()J"⟩, 49), (⟨"DimStarsModel", "shapeOf", "()J"⟩, 49)]
theorem lw_r10 : ∀ q ∈ lw_privs_10, lw_okq q := List.forall_mem_cons.mpr ⟨lw_p144, List.forall_mem_cons.mpr ⟨lw_p145, List.forall_mem_cons.mpr ⟨lw_p146, List.forall_mem_cons.mpr ⟨lw_p147, List.forall_mem_cons.mpr ⟨lw_p148, List.forall_mem_cons.mpr ⟨lw_p149, List.forall_mem_cons.mpr ⟨lw_p150, List.forall_mem_cons.mpr ⟨lw_p151, List.forall_mem_cons.mpr ⟨lw_p152, List.forall_mem_cons.mpr ⟨lw_p153, List.forall_mem_cons.mpr ⟨lw_p154, List.forall_mem_cons.mpr ⟨lw_p155, List.forall_mem_cons.mpr ⟨lw_p156, List.forall_mem_cons.mpr ⟨lw_p157, List.forall_mem_cons.mpr ⟨lw_p158, List.forall_mem_cons.mpr ⟨lw_p159, fun _ h => absurd h List.not_mem_nil⟩⟩⟩⟩⟩⟩⟩⟩⟩⟩⟩⟩⟩⟩⟩⟩
theorem lw_p160 : lw_okq (⟨"DimStarsModel", "sames", "(II)I"⟩, 49) := ⟨⟨by decide +kernel, by decide +kernel⟩, List.mem_of_getElem? (i := 1203) (by decide +kernel), List.mem_of_getElem? (i := 1794) (by decide +kernel), List.mem_of_getElem? (i := 1795) (by decide +kernel)⟩
theorem lw_p161 : lw_okq (⟨"DimStarsModel", "lateness", "()I"⟩, 49) := ⟨⟨by decide +kernel, by decide +kernel⟩, List.mem_of_getElem? (i := 1203) (by decide +kernel), List.mem_of_getElem? (i := 1798) (by decide +kernel), List.mem_of_getElem? (i := 1799) (by decide +kernel)⟩
theorem lw_p162 : lw_okq (⟨"DimStarsModel", "shiftOf", "(I)I"⟩, 49) := ⟨⟨by decide +kernel, by decide +kernel⟩, List.mem_of_getElem? (i := 1203) (by decide +kernel), List.mem_of_getElem? (i := 1802) (by decide +kernel), List.mem_of_getElem? (i := 1803) (by decide +kernel)⟩
theorem lw_p163 : lw_okq (⟨"DimStarsModel", "canWeigh", "(III)Z"⟩, 49) := ⟨⟨by decide +kernel, by decide +kernel⟩, List.mem_of_getElem? (i := 1203) (by decide +kernel), List.mem_of_getElem? (i := 1815) (by decide +kernel), List.mem_of_getElem? (i := 1816) (by decide +kernel)⟩
theorem lw_p164 : lw_okq (⟨"DimStarsModel", "weighs", "(III)Z"⟩, 49) := ⟨⟨by decide +kernel, by decide +kernel⟩, List.mem_of_getElem? (i := 1203) (by decide +kernel), List.mem_of_getElem? (i := 1819) (by decide +kernel), List.mem_of_getElem? (i := 1820) (by decide +kernel)⟩
theorem lw_p165 : lw_okq (⟨"DimStarsModel", "heaviest", "()I"⟩, 49) := ⟨⟨by decide +kernel, by decide +kernel⟩, List.mem_of_getElem? (i := 1203) (by decide +kernel), List.mem_of_getElem? (i := 1827) (by decide +kernel), List.mem_of_getElem? (i := 1828) (by decide +kernel)⟩
theorem lw_p166 : lw_okq (⟨"DimStarsModel", "radiusOf", "(I)I"⟩, 49) := ⟨⟨by decide +kernel, by decide +kernel⟩, List.mem_of_getElem? (i := 1203) (by decide +kernel), List.mem_of_getElem? (i := 1861) (by decide +kernel), List.mem_of_getElem? (i := 1862) (by decide +kernel)⟩
theorem lw_p167 : lw_okq (⟨"DimStarsModel", "isRound", "(I)Z"⟩, 49) := ⟨⟨by decide +kernel, by decide +kernel⟩, List.mem_of_getElem? (i := 1203) (by decide +kernel), List.mem_of_getElem? (i := 1882) (by decide +kernel), List.mem_of_getElem? (i := 1883) (by decide +kernel)⟩
theorem lw_p168 : lw_okq (⟨"DimStarsModel", "isDipThere", "(I)Z"⟩, 49) := ⟨⟨by decide +kernel, by decide +kernel⟩, List.mem_of_getElem? (i := 1203) (by decide +kernel), List.mem_of_getElem? (i := 1886) (by decide +kernel), List.mem_of_getElem? (i := 1887) (by decide +kernel)⟩
def lw_privs_11 : List (MethodName × Nat) := [(⟨"DimStarsModel", "sames", "(II)I"⟩, 49), (⟨"DimStarsModel", "lateness", "()I"⟩, 49), (⟨"DimStarsModel", "shiftOf", "(I)I"⟩, 49), (⟨"DimStarsModel", "canWeigh", "(III)Z"⟩, 49), (⟨"DimStarsModel", "weighs", "(III)Z"⟩, 49), (⟨"DimStarsModel", "heaviest", "()I"⟩, 49), (⟨"DimStarsModel", "radiusOf", "(I)I"⟩, 49), (⟨"DimStarsModel", "isRound", "(I)Z"⟩, 49), (⟨"DimStarsModel", "isDipThere", "(I)Z"⟩, 49)]
theorem lw_r11 : ∀ q ∈ lw_privs_11, lw_okq q := List.forall_mem_cons.mpr ⟨lw_p160, List.forall_mem_cons.mpr ⟨lw_p161, List.forall_mem_cons.mpr ⟨lw_p162, List.forall_mem_cons.mpr ⟨lw_p163, List.forall_mem_cons.mpr ⟨lw_p164, List.forall_mem_cons.mpr ⟨lw_p165, List.forall_mem_cons.mpr ⟨lw_p166, List.forall_mem_cons.mpr ⟨lw_p167, List.forall_mem_cons.mpr ⟨lw_p168, fun _ h => absurd h List.not_mem_nil⟩⟩⟩⟩⟩⟩⟩⟩⟩
def lw_privs : List (MethodName × Nat) := lw_privs_1 ++ (lw_privs_2 ++ (lw_privs_3 ++ (lw_privs_4 ++ (lw_privs_5 ++ (lw_privs_6 ++ (lw_privs_7 ++ (lw_privs_8 ++ (lw_privs_9 ++ (lw_privs_10 ++ (lw_privs_11))))))))))
def lw_tbl : List Cond := k2_sels lw_privs ++ tables_1
theorem lw_privs_ok : ∀ q ∈ lw_privs, lw_okq q := by
  show ∀ q ∈ lw_privs_1 ++ (lw_privs_2 ++ (lw_privs_3 ++ (lw_privs_4 ++ (lw_privs_5 ++ (lw_privs_6 ++ (lw_privs_7 ++ (lw_privs_8 ++ (lw_privs_9 ++ (lw_privs_10 ++ (lw_privs_11)))))))))), lw_okq q
  exact List.forall_mem_append.mpr ⟨lw_r1, List.forall_mem_append.mpr ⟨lw_r2, List.forall_mem_append.mpr ⟨lw_r3, List.forall_mem_append.mpr ⟨lw_r4, List.forall_mem_append.mpr ⟨lw_r5, List.forall_mem_append.mpr ⟨lw_r6, List.forall_mem_append.mpr ⟨lw_r7, List.forall_mem_append.mpr ⟨lw_r8, List.forall_mem_append.mpr ⟨lw_r9, List.forall_mem_append.mpr ⟨lw_r10, lw_r11⟩⟩⟩⟩⟩⟩⟩⟩⟩⟩
end
section
def RX0 : String := "DimStars$Finder"
def TX0 : u_T := fun k => match k with
  | 0 => ("DimStars$Finder", "counts", "[I", true)
  | _ => ("DimStars$Finder", "totals", "[J", true)
def tyX0 : Nat → FieldType := fun k => match k with
  | 0 => .array .int
  | _ => .array .long
theorem nmX0 : ∀ a, a < 2 → ∀ b, b < 2 → a ≠ b → (TX0 a).2.1 ≠ (TX0 b).2.1 := by decide +kernel
theorem tyX0_ok : ∀ k, k < 2 → parseFieldDescriptor (TX0 k).2.2.1 = some (tyX0 k) := by decide +kernel
def RX1 : String := "DimStars$Finding"
def TX1 : u_T := fun k => match k with
  | 0 => ("DimStars$Finding", "age", "I", false)
  | 1 => ("DimStars$Finding", "beat", "I", false)
  | 2 => ("DimStars$Finding", "longs", "I", false)
  | 3 => ("DimStars$Finding", "first", "I", false)
  | 4 => ("DimStars$Finding", "dips", "I", false)
  | 5 => ("DimStars$Finding", "deep", "J", false)
  | _ => ("DimStars$Finding", "score", "J", false)
def tyX1 : Nat → FieldType := fun k => match k with
  | 0 => .int
  | 1 => .int
  | 2 => .int
  | 3 => .int
  | 4 => .int
  | 5 => .long
  | _ => .long
theorem nmX1 : ∀ a, a < 7 → ∀ b, b < 7 → a ≠ b → (TX1 a).2.1 ≠ (TX1 b).2.1 := by decide +kernel
theorem tyX1_ok : ∀ k, k < 7 → parseFieldDescriptor (TX1 k).2.2.1 = some (tyX1 k) := by decide +kernel
def RX2 : String := "DimStars$Look"
def TX2 : u_T := fun k => match k with
  | 0 => ("DimStars$Look", "at", "[I", true)
  | 1 => ("DimStars$Look", "hours", "[I", true)
  | 2 => ("DimStars$Look", "marks", "[I", true)
  | 3 => ("DimStars$Look", "many", "I", false)
  | 4 => ("DimStars$Look", "total", "J", false)
  | 5 => ("DimStars$Look", "spread", "J", false)
  | 6 => ("DimStars$Look", "in", "I", false)
  | _ => ("DimStars$Look", "inTotal", "J", false)
def tyX2 : Nat → FieldType := fun k => match k with
  | 0 => .array .int
  | 1 => .array .int
  | 2 => .array .int
  | 3 => .int
  | 4 => .long
  | 5 => .long
  | 6 => .int
  | _ => .long
theorem nmX2 : ∀ a, a < 8 → ∀ b, b < 8 → a ≠ b → (TX2 a).2.1 ≠ (TX2 b).2.1 := by decide +kernel
theorem tyX2_ok : ∀ k, k < 8 → parseFieldDescriptor (TX2 k).2.2.1 = some (tyX2 k) := by decide +kernel
def RX3 : String := "DimStars$Parser"
def TX3 : u_T := fun k => match k with
  | 0 => ("DimStars$Parser", "tape", "[B", false)
  | 1 => ("DimStars$Parser", "length", "I", false)
  | 2 => ("DimStars$Parser", "place", "I", false)
  | 3 => ("DimStars$Parser", "kind", "I", false)
  | 4 => ("DimStars$Parser", "start", "I", false)
  | 5 => ("DimStars$Parser", "number", "I", false)
  | 6 => ("DimStars$Parser", "fault", "I", false)
  | 7 => ("DimStars$Parser", "values", "I", false)
  | 8 => ("DimStars$Parser", "given", "I", false)
  | 9 => ("DimStars$Parser", "known", "Ljava/lang/String;", false)
  | 10 => ("DimStars$Parser", "text", "LDimStars$Text;", false)
  | _ => ("DimStars$Parser", "isHanded", "Z", false)
def tyX3 : Nat → FieldType := fun k => match k with
  | 0 => .array .byte
  | 1 => .int
  | 2 => .int
  | 3 => .int
  | 4 => .int
  | 5 => .int
  | 6 => .int
  | 7 => .int
  | 8 => .int
  | 9 => .object "java/lang/String"
  | 10 => .object "DimStars$Text"
  | _ => .boolean
theorem nmX3 : ∀ a, a < 12 → ∀ b, b < 12 → a ≠ b → (TX3 a).2.1 ≠ (TX3 b).2.1 := by decide +kernel
theorem tyX3_ok : ∀ k, k < 12 → parseFieldDescriptor (TX3 k).2.2.1 = some (tyX3 k) := by decide +kernel
def RX4 : String := "DimStars$Reckoner"
def TX4 : u_T := fun k => match k with
  | _ => ("DimStars$Reckoner", "stack", "[J", true)
def tyX4 : Nat → FieldType := fun k => match k with
  | _ => .array .long
theorem nmX4 : ∀ a, a < 1 → ∀ b, b < 1 → a ≠ b → (TX4 a).2.1 ≠ (TX4 b).2.1 := by decide +kernel
theorem tyX4_ok : ∀ k, k < 1 → parseFieldDescriptor (TX4 k).2.2.1 = some (tyX4 k) := by decide +kernel
def RX5 : String := "DimStars$Signs"
def TX5 : u_T := fun k => match k with
  | 0 => ("DimStars$Signs", "counts", "[I", true)
  | 1 => ("DimStars$Signs", "totals", "[J", true)
  | 2 => ("DimStars$Signs", "deeps", "[I", true)
  | _ => ("DimStars$Signs", "shifts", "[I", true)
def tyX5 : Nat → FieldType := fun k => match k with
  | 0 => .array .int
  | 1 => .array .long
  | 2 => .array .int
  | _ => .array .int
theorem nmX5 : ∀ a, a < 4 → ∀ b, b < 4 → a ≠ b → (TX5 a).2.1 ≠ (TX5 b).2.1 := by decide +kernel
theorem tyX5_ok : ∀ k, k < 4 → parseFieldDescriptor (TX5 k).2.2.1 = some (tyX5 k) := by decide +kernel
def RX6 : String := "DimStars$Sky"
def TX6 : u_T := fun k => match k with
  | 0 => ("DimStars$Sky", "starCount", "I", false)
  | 1 => ("DimStars$Sky", "stars", "[LDimStars$Star;", true)
  | 2 => ("DimStars$Sky", "worldCount", "I", false)
  | 3 => ("DimStars$Sky", "worlds", "[LDimStars$World;", true)
  | 4 => ("DimStars$Sky", "candidateCount", "I", false)
  | 5 => ("DimStars$Sky", "nights", "[I", true)
  | 6 => ("DimStars$Sky", "worths", "[I", true)
  | 7 => ("DimStars$Sky", "wide", "I", false)
  | 8 => ("DimStars$Sky", "maskStars", "[I", true)
  | 9 => ("DimStars$Sky", "maskBelow", "[I", true)
  | 10 => ("DimStars$Sky", "order", "I", false)
  | 11 => ("DimStars$Sky", "tape", "[B", true)
  | _ => ("DimStars$Sky", "tapeLength", "I", false)
def tyX6 : Nat → FieldType := fun k => match k with
  | 0 => .int
  | 1 => .array (.object "DimStars$Star")
  | 2 => .int
  | 3 => .array (.object "DimStars$World")
  | 4 => .int
  | 5 => .array .int
  | 6 => .array .int
  | 7 => .int
  | 8 => .array .int
  | 9 => .array .int
  | 10 => .int
  | 11 => .array .byte
  | _ => .int
theorem nmX6 : ∀ a, a < 13 → ∀ b, b < 13 → a ≠ b → (TX6 a).2.1 ≠ (TX6 b).2.1 := by decide +kernel
theorem tyX6_ok : ∀ k, k < 13 → parseFieldDescriptor (TX6 k).2.2.1 = some (tyX6 k) := by decide +kernel
def RX7 : String := "DimStars$Star"
def TX7 : u_T := fun k => match k with
  | 0 => ("DimStars$Star", "size", "I", false)
  | 1 => ("DimStars$Star", "cell", "I", false)
  | 2 => ("DimStars$Star", "luck", "I", false)
  | _ => ("DimStars$Star", "row", "[I", true)
def tyX7 : Nat → FieldType := fun k => match k with
  | 0 => .int
  | 1 => .int
  | 2 => .int
  | _ => .array .int
theorem nmX7 : ∀ a, a < 4 → ∀ b, b < 4 → a ≠ b → (TX7 a).2.1 ≠ (TX7 b).2.1 := by decide +kernel
theorem tyX7_ok : ∀ k, k < 4 → parseFieldDescriptor (TX7 k).2.2.1 = some (tyX7 k) := by decide +kernel
def RX8 : String := "DimStars$Text"
def TX8 : u_T := fun k => match k with
  | 0 => ("DimStars$Text", "noise", "I", false)
  | 1 => ("DimStars$Text", "beatFrom", "I", false)
  | 2 => ("DimStars$Text", "beatTo", "I", false)
  | 3 => ("DimStars$Text", "longFrom", "I", false)
  | 4 => ("DimStars$Text", "longTo", "I", false)
  | 5 => ("DimStars$Text", "least", "I", false)
  | 6 => ("DimStars$Text", "line", "I", false)
  | 7 => ("DimStars$Text", "clauses", "I", false)
  | 8 => ("DimStars$Text", "kinds", "[I", true)
  | 9 => ("DimStars$Text", "sumAt", "[I", true)
  | 10 => ("DimStars$Text", "testAt", "[I", true)
  | 11 => ("DimStars$Text", "endAt", "[I", true)
  | 12 => ("DimStars$Text", "code", "[I", true)
  | _ => ("DimStars$Text", "codeLength", "I", false)
def tyX8 : Nat → FieldType := fun k => match k with
  | 0 => .int
  | 1 => .int
  | 2 => .int
  | 3 => .int
  | 4 => .int
  | 5 => .int
  | 6 => .int
  | 7 => .int
  | 8 => .array .int
  | 9 => .array .int
  | 10 => .array .int
  | 11 => .array .int
  | 12 => .array .int
  | _ => .int
theorem nmX8 : ∀ a, a < 14 → ∀ b, b < 14 → a ≠ b → (TX8 a).2.1 ≠ (TX8 b).2.1 := by decide +kernel
theorem tyX8_ok : ∀ k, k < 14 → parseFieldDescriptor (TX8 k).2.2.1 = some (tyX8 k) := by decide +kernel
def RX9 : String := "DimStars$World"
def TX9 : u_T := fun k => match k with
  | 0 => ("DimStars$World", "star", "I", true)
  | 1 => ("DimStars$World", "beat", "I", true)
  | 2 => ("DimStars$World", "first", "I", true)
  | 3 => ("DimStars$World", "longs", "I", true)
  | 4 => ("DimStars$World", "deep", "I", true)
  | _ => ("DimStars$World", "isPut", "Z", true)
def tyX9 : Nat → FieldType := fun k => match k with
  | 0 => .int
  | 1 => .int
  | 2 => .int
  | 3 => .int
  | 4 => .int
  | _ => .boolean
theorem nmX9 : ∀ a, a < 6 → ∀ b, b < 6 → a ≠ b → (TX9 a).2.1 ≠ (TX9 b).2.1 := by decide +kernel
theorem tyX9_ok : ∀ k, k < 6 → parseFieldDescriptor (TX9 k).2.2.1 = some (tyX9 k) := by decide +kernel
def RX10 : String := "DimStars"
def TX10 : u_T := fun k => match k with
  | 0 => ("DimStars", "sky", "LDimStars$Sky;", true)
  | 1 => ("DimStars", "images", "[LDimStars$Sky;", true)
  | 2 => ("DimStars", "laws", "[LDimStars$Text;", true)
  | 3 => ("DimStars", "searches", "[LDimStars$Text;", true)
  | 4 => ("DimStars", "sorters", "[LDimStars$Text;", true)
  | 5 => ("DimStars", "lawCount", "I", false)
  | 6 => ("DimStars", "searchCount", "I", false)
  | 7 => ("DimStars", "sorterCount", "I", false)
  | 8 => ("DimStars", "parser", "LDimStars$Parser;", true)
  | 9 => ("DimStars", "reckoner", "LDimStars$Reckoner;", true)
  | 10 => ("DimStars", "look", "LDimStars$Look;", true)
  | 11 => ("DimStars", "finder", "LDimStars$Finder;", true)
  | 12 => ("DimStars", "signs", "LDimStars$Signs;", true)
  | 13 => ("DimStars", "nothing", "LDimStars$Finding;", true)
  | 14 => ("DimStars", "secondFound", "LDimStars$Finding;", true)
  | 15 => ("DimStars", "ofStars", "[LDimStars$Finding;", true)
  | 16 => ("DimStars", "ofWorlds", "[LDimStars$Finding;", true)
  | 17 => ("DimStars", "age", "I", false)
  | 18 => ("DimStars", "words", "[J", true)
  | _ => ("DimStars", "weights", "[I", true)
def tyX10 : Nat → FieldType := fun k => match k with
  | 0 => .object "DimStars$Sky"
  | 1 => .array (.object "DimStars$Sky")
  | 2 => .array (.object "DimStars$Text")
  | 3 => .array (.object "DimStars$Text")
  | 4 => .array (.object "DimStars$Text")
  | 5 => .int
  | 6 => .int
  | 7 => .int
  | 8 => .object "DimStars$Parser"
  | 9 => .object "DimStars$Reckoner"
  | 10 => .object "DimStars$Look"
  | 11 => .object "DimStars$Finder"
  | 12 => .object "DimStars$Signs"
  | 13 => .object "DimStars$Finding"
  | 14 => .object "DimStars$Finding"
  | 15 => .array (.object "DimStars$Finding")
  | 16 => .array (.object "DimStars$Finding")
  | 17 => .int
  | 18 => .array .long
  | _ => .array .int
theorem nmX10 : ∀ a, a < 20 → ∀ b, b < 20 → a ≠ b → (TX10 a).2.1 ≠ (TX10 b).2.1 := by decide +kernel
theorem tyX10_ok : ∀ k, k < 20 → parseFieldDescriptor (TX10 k).2.2.1 = some (tyX10 k) := by decide +kernel
def RX11 : String := "DimStarsModel"
def TX11 : u_T := fun k => match k with
  | 0 => ("DimStarsModel", "told", "[I", true)
  | 1 => ("DimStarsModel", "meanNow", "[I", true)
  | 2 => ("DimStarsModel", "tape", "[B", true)
  | 3 => ("DimStarsModel", "taped", "I", false)
  | 4 => ("DimStarsModel", "texts", "[I", true)
  | 5 => ("DimStarsModel", "sign", "[I", true)
  | 6 => ("DimStarsModel", "length", "[I", true)
  | 7 => ("DimStarsModel", "clause", "[I", true)
  | 8 => ("DimStarsModel", "clauses", "[I", true)
  | 9 => ("DimStarsModel", "noise", "[I", true)
  | 10 => ("DimStarsModel", "beatFrom", "[I", true)
  | 11 => ("DimStarsModel", "beatTo", "[I", true)
  | 12 => ("DimStarsModel", "longFrom", "[I", true)
  | 13 => ("DimStarsModel", "longTo", "[I", true)
  | 14 => ("DimStarsModel", "least", "[I", true)
  | 15 => ("DimStarsModel", "bar", "[I", true)
  | 16 => ("DimStarsModel", "next", "I", false)
  | 17 => ("DimStarsModel", "wrong", "I", false)
  | 18 => ("DimStarsModel", "said", "I", false)
  | 19 => ("DimStarsModel", "text", "I", false)
  | 20 => ("DimStarsModel", "made", "I", false)
  | 21 => ("DimStarsModel", "deep", "I", false)
  | 22 => ("DimStarsModel", "lines", "I", false)
  | 23 => ("DimStarsModel", "open", "[I", true)
  | 24 => ("DimStarsModel", "opened", "I", false)
  | 25 => ("DimStarsModel", "stack", "[J", true)
  | 26 => ("DimStarsModel", "top", "I", false)
  | 27 => ("DimStarsModel", "word", "[J", true)
  | 28 => ("DimStarsModel", "look", "[I", true)
  | 29 => ("DimStarsModel", "all", "I", false)
  | 30 => ("DimStarsModel", "sumAll", "J", false)
  | 31 => ("DimStarsModel", "spreadNow", "J", false)
  | 32 => ("DimStarsModel", "manyIn", "I", false)
  | 33 => ("DimStarsModel", "sumIn", "J", false)
  | 34 => ("DimStarsModel", "beatNow", "I", false)
  | 35 => ("DimStarsModel", "longNow", "I", false)
  | 36 => ("DimStarsModel", "firstNow", "I", false)
  | 37 => ("DimStarsModel", "deepNow", "J", false)
  | 38 => ("DimStarsModel", "scoreNow", "J", false)
  | 39 => ("DimStarsModel", "dipsNow", "I", false)
  | 40 => ("DimStarsModel", "restSum", "[J", true)
  | 41 => ("DimStarsModel", "restMany", "[I", true)
  | 42 => ("DimStarsModel", "withinSum", "[J", true)
  | 43 => ("DimStarsModel", "withinMany", "[I", true)
  | 44 => ("DimStarsModel", "putScore", "[J", true)
  | 45 => ("DimStarsModel", "starScore", "[J", true)
  | 46 => ("DimStarsModel", "weights", "[I", true)
  | 47 => ("DimStarsModel", "images", "[I", true)
  | _ => ("DimStarsModel", "isMade", "[Z", true)
def tyX11 : Nat → FieldType := fun k => match k with
  | 0 => .array .int
  | 1 => .array .int
  | 2 => .array .byte
  | 3 => .int
  | 4 => .array .int
  | 5 => .array .int
  | 6 => .array .int
  | 7 => .array .int
  | 8 => .array .int
  | 9 => .array .int
  | 10 => .array .int
  | 11 => .array .int
  | 12 => .array .int
  | 13 => .array .int
  | 14 => .array .int
  | 15 => .array .int
  | 16 => .int
  | 17 => .int
  | 18 => .int
  | 19 => .int
  | 20 => .int
  | 21 => .int
  | 22 => .int
  | 23 => .array .int
  | 24 => .int
  | 25 => .array .long
  | 26 => .int
  | 27 => .array .long
  | 28 => .array .int
  | 29 => .int
  | 30 => .long
  | 31 => .long
  | 32 => .int
  | 33 => .long
  | 34 => .int
  | 35 => .int
  | 36 => .int
  | 37 => .long
  | 38 => .long
  | 39 => .int
  | 40 => .array .long
  | 41 => .array .int
  | 42 => .array .long
  | 43 => .array .int
  | 44 => .array .long
  | 45 => .array .long
  | 46 => .array .int
  | 47 => .array .int
  | _ => .array .boolean
theorem nmX11 : ∀ a, a < 49 → ∀ b, b < 49 → a ≠ b → (TX11 a).2.1 ≠ (TX11 b).2.1 := by decide +kernel
theorem tyX11_ok : ∀ k, k < 49 → parseFieldDescriptor (TX11 k).2.2.1 = some (tyX11 k) := by decide +kernel
def RL : String := "DimStarsLaw"
abbrev vwCl : List vw_C := [(RX0, TX0, 2), (RX1, TX1, 7), (RX2, TX2, 8), (RX3, TX3, 12), (RX4, TX4, 1), (RX5, TX5, 4), (RX6, TX6, 13), (RX7, TX7, 4), (RX8, TX8, 14), (RX9, TX9, 6), (RX10, TX10, 20), (RX11, TX11, 49)]
abbrev cX10_alias : ByteArray := prog_1_method_31_code
def yX10_alias : MethodName := ⟨RX10, "alias", "(III)J"⟩
abbrev cX10_at : ByteArray := prog_1_method_8_code
def yX10_at : MethodName := ⟨RX10, "at", "(III)I"⟩
abbrev cX10_back : ByteArray := prog_1_method_42_code
def yX10_back : MethodName := ⟨RX10, "back", "(I)I"⟩
abbrev cX10_bound : ByteArray := prog_1_method_28_code
def yX10_bound : MethodName := ⟨RX10, "bound", "(II)I"⟩
abbrev cX10_candidate : ByteArray := prog_1_method_38_code
def yX10_candidate : MethodName := ⟨RX10, "candidate", "(III)I"⟩
abbrev cX10_catches : ByteArray := prog_1_method_18_code
def yX10_catches : MethodName := ⟨RX10, "catches", "(II)I"⟩
abbrev cX10_chance : ByteArray := prog_1_method_20_code
def yX10_chance : MethodName := ⟨RX10, "chance", "(III)I"⟩
abbrev cX10_finest : ByteArray := prog_1_method_34_code
def yX10_finest : MethodName := ⟨RX10, "finest", "()I"⟩
abbrev cX10_fold : ByteArray := prog_1_method_37_code
def yX10_fold : MethodName := ⟨RX10, "fold", "(IIIII)J"⟩
abbrev cX10_found : ByteArray := prog_1_method_16_code
def yX10_found : MethodName := ⟨RX10, "found", "(IIII)J"⟩
abbrev cX10_isBeat : ByteArray := prog_1_method_47_code
def yX10_isBeat : MethodName := ⟨RX10, "isBeat", "(I)Z"⟩
abbrev cX10_isHour : ByteArray := prog_1_method_44_code
def yX10_isHour : MethodName := ⟨RX10, "isHour", "(I)Z"⟩
abbrev cX10_isSize : ByteArray := prog_1_method_45_code
def yX10_isSize : MethodName := ⟨RX10, "isSize", "(I)Z"⟩
abbrev cX10_isStar : ByteArray := prog_1_method_49_code
def yX10_isStar : MethodName := ⟨RX10, "isStar", "(I)Z"⟩
abbrev cX10_isWay : ByteArray := prog_1_method_46_code
def yX10_isWay : MethodName := ⟨RX10, "isWay", "(I)Z"⟩
abbrev cX10_isWeighed : ByteArray := prog_1_method_64_code
def yX10_isWeighed : MethodName := ⟨RX10, "isWeighed", "(III)Z"⟩
abbrev cX10_isWithin : ByteArray := prog_1_method_43_code
def yX10_isWithin : MethodName := ⟨RX10, "isWithin", "(III)Z"⟩
abbrev cX10_lawAt : ByteArray := prog_1_method_50_code
def yX10_lawAt : MethodName := ⟨RX10, "lawAt", "(I)LDimStars$Text;"⟩
abbrev cX10_line : ByteArray := prog_1_method_21_code
def yX10_line : MethodName := ⟨RX10, "line", "(IIIII)I"⟩
abbrev cX10_make : ByteArray := prog_1_method_14_code
def yX10_make : MethodName := ⟨RX10, "make", "(IIIII)I"⟩
abbrev cX10_many : ByteArray := prog_1_method_33_code
def yX10_many : MethodName := ⟨RX10, "many", "(IIIII)I"⟩
abbrev cX10_next : ByteArray := prog_1_method_30_code
def yX10_next : MethodName := ⟨RX10, "next", "(III)I"⟩
abbrev cX10_odds : ByteArray := prog_1_method_26_code
def yX10_odds : MethodName := ⟨RX10, "odds", "(IIIII)I"⟩
abbrev cX10_other : ByteArray := prog_1_method_36_code
def yX10_other : MethodName := ⟨RX10, "other", "(III)I"⟩
abbrev cX10_radius : ByteArray := prog_1_method_32_code
def yX10_radius : MethodName := ⟨RX10, "radius", "(II)I"⟩
abbrev cX10_resize : ByteArray := prog_1_method_4_code
def yX10_resize : MethodName := ⟨RX10, "resize", "(II)I"⟩
abbrev cX10_room : ByteArray := prog_1_method_35_code
def yX10_room : MethodName := ⟨RX10, "room", "(II)I"⟩
abbrev cX10_row : ByteArray := prog_1_method_3_code
def yX10_row : MethodName := ⟨RX10, "row", "(III)I"⟩
abbrev cX10_searchAt : ByteArray := prog_1_method_51_code
def yX10_searchAt : MethodName := ⟨RX10, "searchAt", "(I)LDimStars$Text;"⟩
abbrev cX10_second : ByteArray := prog_1_method_29_code
def yX10_second : MethodName := ⟨RX10, "second", "(III)J"⟩
abbrev cX10_share : ByteArray := prog_1_method_19_code
def yX10_share : MethodName := ⟨RX10, "share", "(II)I"⟩
abbrev cX10_shift : ByteArray := prog_1_method_23_code
def yX10_shift : MethodName := ⟨RX10, "shift", "(III)I"⟩
abbrev cX10_sign : ByteArray := prog_1_method_22_code
def yX10_sign : MethodName := ⟨RX10, "sign", "(III)I"⟩
abbrev cX10_sorted : ByteArray := prog_1_method_25_code
def yX10_sorted : MethodName := ⟨RX10, "sorted", "(III)I"⟩
abbrev cX10_sorterAt : ByteArray := prog_1_method_52_code
def yX10_sorterAt : MethodName := ⟨RX10, "sorterAt", "(I)LDimStars$Text;"⟩
abbrev cX10_spread : ByteArray := prog_1_method_17_code
def yX10_spread : MethodName := ⟨RX10, "spread", "(I)J"⟩
abbrev cX10_tried : ByteArray := prog_1_method_15_code
def yX10_tried : MethodName := ⟨RX10, "tried", "(IIIIII)J"⟩
abbrev cX10_truly : ByteArray := prog_1_method_27_code
def yX10_truly : MethodName := ⟨RX10, "truly", "(II)J"⟩
abbrev cX10_weight : ByteArray := prog_1_method_24_code
def yX10_weight : MethodName := ⟨RX10, "weight", "(IIII)I"⟩
abbrev cX10_world : ByteArray := prog_1_method_9_code
def yX10_world : MethodName := ⟨RX10, "world", "(IIIIIZ)I"⟩
abbrev cX11_alias : ByteArray := prog_13_method_113_code
def yX11_alias : MethodName := ⟨RX11, "alias", "(III)J"⟩
abbrev cX11_at : ByteArray := prog_13_method_20_code
def yX11_at : MethodName := ⟨RX11, "at", "(III)I"⟩
abbrev cX11_back : ByteArray := prog_13_method_127_code
def yX11_back : MethodName := ⟨RX11, "back", "(I)I"⟩
abbrev cX11_bound : ByteArray := prog_13_method_110_code
def yX11_bound : MethodName := ⟨RX11, "bound", "(II)I"⟩
abbrev cX11_canWeigh : ByteArray := prog_13_method_104_code
def yX11_canWeigh : MethodName := ⟨RX11, "canWeigh", "(III)Z"⟩
abbrev cX11_candidate : ByteArray := prog_13_method_123_code
def yX11_candidate : MethodName := ⟨RX11, "candidate", "(III)I"⟩
abbrev cX11_catches : ByteArray := prog_13_method_87_code
def yX11_catches : MethodName := ⟨RX11, "catches", "(II)I"⟩
abbrev cX11_chance : ByteArray := prog_13_method_92_code
def yX11_chance : MethodName := ⟨RX11, "chance", "(III)I"⟩
abbrev cX11_finest : ByteArray := prog_13_method_117_code
def yX11_finest : MethodName := ⟨RX11, "finest", "()I"⟩
abbrev cX11_fold : ByteArray := prog_13_method_122_code
def yX11_fold : MethodName := ⟨RX11, "fold", "(IIIII)J"⟩
abbrev cX11_found : ByteArray := prog_13_method_82_code
def yX11_found : MethodName := ⟨RX11, "found", "(IIII)J"⟩
abbrev cX11_in : ByteArray := prog_13_method_2_code
def yX11_in : MethodName := ⟨RX11, "in", "(JJJ)Z"⟩
abbrev cX11_isHour : ByteArray := prog_13_method_9_code
def yX11_isHour : MethodName := ⟨RX11, "isHour", "(I)Z"⟩
abbrev cX11_isStar : ByteArray := prog_13_method_5_code
def yX11_isStar : MethodName := ⟨RX11, "isStar", "(I)Z"⟩
abbrev cX11_isText : ByteArray := prog_13_method_56_code
def yX11_isText : MethodName := ⟨RX11, "isText", "(II)Z"⟩
abbrev cX11_line : ByteArray := prog_13_method_93_code
def yX11_line : MethodName := ⟨RX11, "line", "(IIIII)I"⟩
abbrev cX11_make : ByteArray := prog_13_method_63_code
def yX11_make : MethodName := ⟨RX11, "make", "(IIIII)I"⟩
abbrev cX11_many : ByteArray := prog_13_method_116_code
def yX11_many : MethodName := ⟨RX11, "many", "(IIIII)I"⟩
abbrev cX11_next : ByteArray := prog_13_method_112_code
def yX11_next : MethodName := ⟨RX11, "next", "(III)I"⟩
abbrev cX11_odds : ByteArray := prog_13_method_108_code
def yX11_odds : MethodName := ⟨RX11, "odds", "(IIIII)I"⟩
abbrev cX11_other : ByteArray := prog_13_method_121_code
def yX11_other : MethodName := ⟨RX11, "other", "(III)I"⟩
abbrev cX11_radius : ByteArray := prog_13_method_115_code
def yX11_radius : MethodName := ⟨RX11, "radius", "(II)I"⟩
abbrev cX11_resize : ByteArray := prog_13_method_11_code
def yX11_resize : MethodName := ⟨RX11, "resize", "(II)I"⟩
abbrev cX11_room : ByteArray := prog_13_method_118_code
def yX11_room : MethodName := ⟨RX11, "room", "(II)I"⟩
abbrev cX11_row : ByteArray := prog_13_method_10_code
def yX11_row : MethodName := ⟨RX11, "row", "(III)I"⟩
abbrev cX11_second : ByteArray := prog_13_method_111_code
def yX11_second : MethodName := ⟨RX11, "second", "(III)J"⟩
abbrev cX11_share : ByteArray := prog_13_method_91_code
def yX11_share : MethodName := ⟨RX11, "share", "(II)I"⟩
abbrev cX11_shift : ByteArray := prog_13_method_102_code
def yX11_shift : MethodName := ⟨RX11, "shift", "(III)I"⟩
abbrev cX11_sign : ByteArray := prog_13_method_101_code
def yX11_sign : MethodName := ⟨RX11, "sign", "(III)I"⟩
abbrev cX11_sorted : ByteArray := prog_13_method_107_code
def yX11_sorted : MethodName := ⟨RX11, "sorted", "(III)I"⟩
abbrev cX11_spread : ByteArray := prog_13_method_66_code
def yX11_spread : MethodName := ⟨RX11, "spread", "(I)J"⟩
abbrev cX11_tried : ByteArray := prog_13_method_74_code
def yX11_tried : MethodName := ⟨RX11, "tried", "(IIIIII)J"⟩
abbrev cX11_truly : ByteArray := prog_13_method_109_code
def yX11_truly : MethodName := ⟨RX11, "truly", "(II)J"⟩
abbrev cX11_weight : ByteArray := prog_13_method_105_code
def yX11_weight : MethodName := ⟨RX11, "weight", "(IIII)I"⟩
abbrev cX11_world : ByteArray := prog_13_method_22_code
def yX11_world : MethodName := ⟨RX11, "world", "(IIIIIZ)I"⟩
abbrev cX6_numbers : ByteArray := prog_8_method_12_code
def yX6_numbers : MethodName := ⟨RX6, "numbers", "()I"⟩
abbrev cX6_starAt : ByteArray := prog_8_method_2_code
def yX6_starAt : MethodName := ⟨RX6, "starAt", "(I)LDimStars$Star;"⟩
abbrev cX6_worldAt : ByteArray := prog_8_method_3_code
def yX6_worldAt : MethodName := ⟨RX6, "worldAt", "(I)LDimStars$World;"⟩
def ZL : List (String × Nat × String) := [("DimStars$Parser", 15, ""), ("DimStars$Parser", 50, "hour season star cell size"), ("DimStars$Parser", 52, "beat long deep score dips odd shape same late size"), ("DimStars$Parser", 93, "bright noise"), ("DimStars$Parser", 95, "beat long least line"), ("DimStars$Parser", 97, "world pair spot glass chance"), ("DimStars$Parser", 121, "if"), ("DimStars$Parser", 151, "and or"), ("DimStars$Parser", 158, "not")]
end
section
/-! ===== words, tables, contracts: the base of all walks (mine) ===== -/
def GW : List Cond := lw_tbl.filter goodWord
theorem mt1 {w : Cond} (i : Nat) (hi : tables_1_1[i]? = some w) : w ∈ tables_1 := by have h := List.mem_of_getElem? hi; exact (List.mem_append_left _ h)
theorem mt2 {w : Cond} (i : Nat) (hi : tables_1_2[i]? = some w) : w ∈ tables_1 := by have h := List.mem_of_getElem? hi; exact (List.mem_append_right _ (List.mem_append_left _ h))
theorem mt3 {w : Cond} (i : Nat) (hi : tables_1_3[i]? = some w) : w ∈ tables_1 := by have h := List.mem_of_getElem? hi; exact (List.mem_append_right _ (List.mem_append_right _ (List.mem_append_left _ h)))
theorem mt4 {w : Cond} (i : Nat) (hi : tables_1_4[i]? = some w) : w ∈ tables_1 := by have h := List.mem_of_getElem? hi; exact (List.mem_append_right _ (List.mem_append_right _ (List.mem_append_right _ (List.mem_append_left _ h))))
theorem mt5 {w : Cond} (i : Nat) (hi : tables_1_5[i]? = some w) : w ∈ tables_1 := by have h := List.mem_of_getElem? hi; exact (List.mem_append_right _ (List.mem_append_right _ (List.mem_append_right _ (List.mem_append_right _ (List.mem_append_left _ h)))))
theorem mt6 {w : Cond} (i : Nat) (hi : tables_1_6[i]? = some w) : w ∈ tables_1 := by have h := List.mem_of_getElem? hi; exact (List.mem_append_right _ (List.mem_append_right _ (List.mem_append_right _ (List.mem_append_right _ (List.mem_append_right _ (List.mem_append_left _ h))))))
theorem mt7 {w : Cond} (i : Nat) (hi : tables_1_7[i]? = some w) : w ∈ tables_1 := by have h := List.mem_of_getElem? hi; exact (List.mem_append_right _ (List.mem_append_right _ (List.mem_append_right _ (List.mem_append_right _ (List.mem_append_right _ (List.mem_append_right _ (List.mem_append_left _ h)))))))
theorem mt8 {w : Cond} (i : Nat) (hi : tables_1_8[i]? = some w) : w ∈ tables_1 := by have h := List.mem_of_getElem? hi; exact (List.mem_append_right _ (List.mem_append_right _ (List.mem_append_right _ (List.mem_append_right _ (List.mem_append_right _ (List.mem_append_right _ (List.mem_append_right _ h)))))))
theorem gw_t {w : Cond} (h : w ∈ tables_1) (hg : goodWord w = true) : w ∈ GW := List.mem_filter.mpr ⟨List.mem_append_right _ h, hg⟩
theorem gw_s {w : Cond} (i : Nat) (h : (k2_sels lw_privs)[i]? = some w) (hg : goodWord w = true) : w ∈ GW := List.mem_filter.mpr ⟨List.mem_append_left _ (List.mem_of_getElem? h), hg⟩
theorem gw_tbl {w : Cond} (h : w ∈ GW) : w ∈ lw_tbl := (List.mem_filter.mp h).1
theorem gw_good {w : Cond} (h : w ∈ GW) : (w.onTables && w.keeps) = true ∨ ∃ ty, w = .arrayClass ty := good_of_word (List.mem_filter.mp h).2
theorem gw_cons {w : Cond} (h : w ∈ GW) : GoodIn GW (w :: GW) := fun v hv => (List.mem_cons.mp hv).elim (fun e => by rw [e]; exact ⟨h, gw_good h⟩) (fun h2 => ⟨h2, gw_good h2⟩)
theorem gw_app {ws : List Cond} (h : ∀ w ∈ ws, w ∈ GW) {w : Cond} (hw : w ∈ GW) : GoodIn GW (ws ++ w :: GW) := fun v hv => (List.mem_append.mp hv).elim (fun e => ⟨h v e, gw_good (h v e)⟩) (fun h2 => gw_cons hw v h2)
def isNest : Cond → Bool
  | .fieldLinkNest _ _ _ _ _ _ => true
  | .methodLinkNest _ _ _ _ => true
  | _ => false
def TYS (Y : Nat → ClassId) : List (ClassId × FieldType) := [(Y 0, .int), (Y 1, .long), (Y 2, .byte), (Y 3, .boolean), (Y 4, .object "DimStars$Sky"), (Y 5, .object "DimStars$Text"), (Y 6, .object "DimStars$Finding"), (Y 7, .object "DimStars$Star"), (Y 8, .object "DimStars$World")]
def AOL : List String := ["DimStars$Sky", "DimStars$Text", "DimStars$Finding", "DimStars$Star", "DimStars$World"]
/-- what the tables say at a state: classes, array classes, links to nest mates, String constants -/
def KN (D : va_G) (Y : Nat → ClassId) (Z : Nat → Nat) (U : State) : Prop := va_K D vwCl (TYS Y) U ∧ (∀ w ∈ tables_1, isNest w = true → va_Nw w U) ∧ (∀ C ∈ AOL, va_AO C U) ∧ ∀ (i : Nat) (q : String × Nat × String), ZL[i]? = some q → vk_R q.1 q.2.1 q.2.2 (Z i) U
theorem nest_warm {w : Cond} (h : isNest w = true) {s U : State} (hW : s.WarmedH U.vm) (hZ : va_Nw w s) : va_Nw w U := by
  cases w <;> first | exact va_Nw.warmF hW hZ | exact va_Nw.warmM hW hZ | cases h
theorem nest_same {w : Cond} (h : isNest w = true) {u U : State} (hv : u.vm = U.vm) (hZ : va_Nw w u) : va_Nw w U := by
  cases w <;> first | exact va_Nw.same rfl hv hZ | cases h
theorem KN.warm {D : va_G} {Y : Nat → ClassId} {Z : Nat → Nat} {s U : State} (hW : s.WarmedH U.vm) (h : KN D Y Z s) : KN D Y Z U := ⟨va_K.moved hW.alike h.1, fun w hw hn => nest_warm hn hW (h.2.1 w hw hn), fun C hC => (h.2.2.1 C hC).moved hW.alike, fun i q hq => (h.2.2.2 i q hq).warm hW⟩
theorem KN.same {D : va_G} {Y : Nat → ClassId} {Z : Nat → Nat} {u U : State} (hv : u.vm = U.vm) (h : KN D Y Z u) : KN D Y Z U := ⟨va_K.moved (by rw [← hv]; exact Vm.Alike.refl u.vm) h.1, fun w hw hn => nest_same hn hv (h.2.1 w hw hn), fun C hC => (h.2.2.1 C hC).moved (by rw [← hv]; exact Vm.Alike.refl u.vm), fun i q hq => (h.2.2.2 i q hq).same hv.symm⟩
/-- a method's start -/
def CP (D : va_G) (Y : Nat → ClassId) (Z : Nat → Nat) (ws : va_W) (sz : Nat) : State → Prop := fun U => U.heap.size = sz ∧ va_P D vwCl ws U.heap ∧ KN D Y Z U ∧ va_D (fun _ => True) ws
/-- the cells behind a method -/
def CB (D : va_G) (ws : va_W) (A : Nat → Prop) : State → Prop := fun t => va_P D vwCl ws t.heap ∧ va_D A ws
/-- a method's end -/
def QG {S : Type} (val : S → Option Value) (post : S → Prop) (B : S → State → Prop) (A : Nat → Prop) : Array Value → State → Outcome → State → Prop := fun _ st oc t => (∃ u : S, oc = .returned (val u) ∧ post u ∧ B u t) ∧ va_F A st t
theorem CP.blind {av : List Value} {D : va_G} {Y : Nat → ClassId} {Z : Nat → Nat} {ws : va_W} {sz : Nat} : FrameBlind (va_Pc av (CP D Y Z ws sz)) := fun a U g mk q => by
  obtain ⟨q0, q1, qP, qK, qD⟩ := q
  exact ⟨q0, q1, qP, KN.same (u := U) (U := U.calling g mk a) rfl qK, qD⟩
theorem CP.at {av : List Value} {D : va_G} {Y : Nat → ClassId} {Z : Nat → Nat} {ws : va_W} {s : State} {H : Heap} {A : Nat → Prop} (hP : va_P D vwCl ws H) (hK : KN D Y Z s) (hD : va_D A ws) : ∀ U : State, U.heap = H → s.WarmedH U.vm → va_Pc av (CP D Y Z ws H.size) av.toArray U := fun U hU hW => ⟨rfl, by rw [hU], by rw [hU]; exact hP, hK.warm hW, hD.weaken (fun _ _ _ _ => trivial)⟩
theorem CB.nil {D : va_G} {A : Nat → Prop} {t : State} : CB D [] A t := ⟨fun k q h => by simp at h, fun i j p q h => by simp at h, fun k q h => by simp at h⟩
theorem CB.mk {D : va_G} {A : Nat → Prop} {ws : va_W} {t : State} {H : Heap} (ht : t.heap = H) (hP : va_P D vwCl ws H) (hD : va_D A ws) : CB D ws A t := ⟨by rw [ht]; exact hP, hD⟩
theorem RA_cls {U : State} {cA : ClassId} {ty : FieldType} (h : va_RA U cA ty) : U.vm.findClass ("[" ++ ty.toString) = some cA := by
  cases ty with
  | object C =>
    obtain ⟨kA, comp, h1, h2, h3, h4⟩ := h
    exact h4
  | _ => exact h
theorem i_lt {x y : Int32} {X Y : Int} (hx : x.toInt = X) (hy : y.toInt = Y) (h : x < y) : X < Y := by rw [← hx, ← hy]; exact Int32.lt_iff_toInt_lt.mp h
theorem i_nlt {x y : Int32} {X Y : Int} (hx : x.toInt = X) (hy : y.toInt = Y) (h : ¬ x < y) : ¬ X < Y := by rw [← hx, ← hy]; exact fun q => h (Int32.lt_iff_toInt_lt.mpr q)
theorem i_le {x y : Int32} {X Y : Int} (hx : x.toInt = X) (hy : y.toInt = Y) (h : x ≤ y) : X ≤ Y := by rw [← hx, ← hy]; exact Int32.le_iff_toInt_le.mp h
theorem i_nle {x y : Int32} {X Y : Int} (hx : x.toInt = X) (hy : y.toInt = Y) (h : ¬ x ≤ y) : ¬ X ≤ Y := by rw [← hx, ← hy]; exact fun q => h (Int32.le_iff_toInt_le.mpr q)
theorem i_eq {x y : Int32} {X Y : Int} (hx : x.toInt = X) (hy : y.toInt = Y) (h : x = y) : X = Y := by rw [← hx, ← hy, h]
theorem i_ne {x y : Int32} {X Y : Int} (hx : x.toInt = X) (hy : y.toInt = Y) (h : ¬ x = y) : ¬ X = Y := by rw [← hx, ← hy]; exact fun q => h (Int32.toInt_inj.mp q)
theorem l_lt {x y : Int64} {X Y : Int} (hx : x.toInt = X) (hy : y.toInt = Y) (h : lg_cmp x y < 0) : X < Y := by rw [← hx, ← hy]; exact Int64.lt_iff_toInt_lt.mp ((lg_cmp_lt x y).mp h)
theorem l_nlt {x y : Int64} {X Y : Int} (hx : x.toInt = X) (hy : y.toInt = Y) (h : ¬ lg_cmp x y < 0) : ¬ X < Y := by rw [← hx, ← hy]; exact fun q => h ((lg_cmp_lt x y).mpr (Int64.lt_iff_toInt_lt.mpr q))
theorem l_gt {x y : Int64} {X Y : Int} (hx : x.toInt = X) (hy : y.toInt = Y) (h : 0 < lg_cmp x y) : Y < X := by rw [← hx, ← hy]; exact Int64.lt_iff_toInt_lt.mp ((lg_cmp_gt x y).mp h)
theorem l_ngt {x y : Int64} {X Y : Int} (hx : x.toInt = X) (hy : y.toInt = Y) (h : ¬ 0 < lg_cmp x y) : ¬ Y < X := by rw [← hx, ← hy]; exact fun q => h ((lg_cmp_gt x y).mpr (Int64.lt_iff_toInt_lt.mpr q))
theorem l_ge {x y : Int64} {X Y : Int} (hx : x.toInt = X) (hy : y.toInt = Y) (h : 0 ≤ lg_cmp x y) : Y ≤ X := by rw [← hx, ← hy]; exact Int64.le_iff_toInt_le.mp ((lg_cmp_ge x y).mp h)
theorem l_nge {x y : Int64} {X Y : Int} (hx : x.toInt = X) (hy : y.toInt = Y) (h : ¬ 0 ≤ lg_cmp x y) : ¬ Y ≤ X := by rw [← hx, ← hy]; exact fun q => h ((lg_cmp_ge x y).mpr (Int64.le_iff_toInt_le.mpr q))
theorem l_le {x y : Int64} {X Y : Int} (hx : x.toInt = X) (hy : y.toInt = Y) (h : lg_cmp x y ≤ 0) : X ≤ Y := by rw [← hx, ← hy]; exact Int64.le_iff_toInt_le.mp ((lg_cmp_le x y).mp h)
theorem l_nle {x y : Int64} {X Y : Int} (hx : x.toInt = X) (hy : y.toInt = Y) (h : ¬ lg_cmp x y ≤ 0) : ¬ X ≤ Y := by rw [← hx, ← hy]; exact fun q => h ((lg_cmp_le x y).mpr (Int64.le_iff_toInt_le.mpr q))
theorem l_eq {x y : Int64} {X Y : Int} (hx : x.toInt = X) (hy : y.toInt = Y) (h : lg_cmp x y = 0) : X = Y := by rw [← hx, ← hy, (lg_cmp_eq x y).mp h]
theorem l_ne {x y : Int64} {X Y : Int} (hx : x.toInt = X) (hy : y.toInt = Y) (h : ¬ lg_cmp x y = 0) : ¬ X = Y := by rw [← hx, ← hy]; exact fun q => h ((lg_cmp_eq x y).mpr (Int64.toInt_inj.mp q))
theorem i_bmod {z : Int} (h1 : -2147483648 ≤ z) (h2 : z < 2147483648) : z.bmod (2 ^ 32) = z := by
  rw [Int.bmod_eq_of_le (by omega) (by omega)]
theorem i_add {x y v : Int32} {X Y : Int} (hx : x.toInt = X) (hy : y.toInt = Y) (hv : v = x + y) (h1 : -2147483648 ≤ X + Y) (h2 : X + Y < 2147483648) : v.toInt = X + Y := by
  rw [hv, Int32.toInt_add, hx, hy, i_bmod h1 h2]
theorem i_sub {x y v : Int32} {X Y : Int} (hx : x.toInt = X) (hy : y.toInt = Y) (hv : v = x - y) (h1 : -2147483648 ≤ X - Y) (h2 : X - Y < 2147483648) : v.toInt = X - Y := by
  rw [hv, Int32.toInt_sub, hx, hy, i_bmod h1 h2]
theorem i_mul {x y v : Int32} {X Y : Int} (hx : x.toInt = X) (hy : y.toInt = Y) (hv : v = x * y) (h1 : -2147483648 ≤ X * Y) (h2 : X * Y < 2147483648) : v.toInt = X * Y := by
  rw [hv, Int32.toInt_mul, hx, hy, i_bmod h1 h2]
theorem i_is {x y : Int32} {X : Int} (hx : x.toInt = X) (hy : y.toInt = X) : x = y := Int32.toInt_inj.mp (hx.trans hy.symm)
theorem nilP {D : va_G} {H : Heap} : va_P D vwCl [] H := fun k q h => by simp at h
theorem nilD {A : Nat → Prop} : va_D A [] := ⟨fun i j p q h => by simp at h, fun k q h => by simp at h⟩
section CG
variable {p : Program} {l : Launch} {e : Env} {R : Room} {s : State} {m : MethodId} {args : Array Value} {below : List Frame} {meth : Method} {c : Code} {H : Heap} {locs : List Loc} {cells slots : Nat} {Q : State → Prop}
variable {pc : Nat} {ls : Array Slot} {rest st0 : List Value} {a : Array Value} {A0 : Nat → Prop} {H0 : Heap} {mc ms : Nat} {D : va_G} {Y : Nat → ClassId} {Z : Nat → Nat}
theorem w_start {ws : va_W} {g : JFrame} (hP : va_P D vwCl ws s.heap) (k : ∀ (H : Heap) (locs : List Loc), va_P D vwCl ws H → va_S A0 s.heap H locs → W p l e R s m args below meth c H locs cells slots Q g) : W p l e R s m args below meth c s.heap [] cells slots Q g := k _ _ hP va_S.rf
/-- a call's end: the caller's other cells, and the callee's -/
theorem cg {S : Type} {val : S → Option Value} {post : S → Prop} {w1 : S → va_W} {ws wc wr : va_W} (isC isR : List Nat)
    (hr : va_Run p l e R s m args below meth c H locs cells slots mc ms (F0 m pc ls st0) rest (QG val post (fun u => CB D (w1 u) (va_A wc H.size)) (va_A wc H.size) a) (va_A wc H.size))
    (hP : va_P D vwCl ws H) (hD : va_D A0 ws) (hS : va_S A0 H0 H locs) (hA : ∀ q, H0.size ≤ q → A0 q)
    (hC : isC.map (fun i => ws[i]?) = wc.map some) (hR : isR.map (fun i => ws[i]?) = wr.map some) (hn : va_nd isR = true) (hdis : ∀ i ∈ isR, i ∉ isC)
    (kk : ∀ (u : S) (H1 : Heap) (locs1 : List Loc), post u → va_P D vwCl (wr ++ w1 u) H1 → va_D A0 (wr ++ w1 u) → va_S A0 H0 H1 locs1 → W p l e R s m args below meth c H1 locs1 (cells + mc) (slots + ms) Q (F0 m (pc + 3) ls ((val u).toList ++ rest))) : W p l e R s m args below meth c H locs cells slots Q (F0 m pc ls st0) := by
  have hF := va_free (wc := wc) hD hS hA isC hC
  intro T hT X
  obtain ⟨v, st₀, t, T', L, h0, X', hL, e1, e2, ⟨⟨u, hv, hp, hPu, hDu⟩, hz, hk⟩, st⟩ := hr T hT X
  cases hv
  rw [h0] at hz hk
  have hk1 : ∀ q : Nat, q < H.size → ¬ va_A wc H.size q → T'.heap[q]? = H[q]? := fun q h1 h2 => by rw [e1]; exact hk q h1 h2
  obtain ⟨hP2, hD2⟩ := va_join hP hD isC isR hC hR hn hdis hk1 hF (by rw [e1]; exact hPu) hDu
  obtain ⟨t2, a1, b1⟩ := kk u T'.heap (locs ++ L) hp hP2 hD2
    ⟨Nat.le_trans hS.1 (by rw [e1]; exact hz), fun q h1 h2 => by rw [hk1 q (Nat.lt_of_lt_of_le h1 hS.1) (fun z => h2 (hF q z))]; exact hS.2.1 q h1 h2, fun q hq => by
      rcases List.mem_append.mp hq with h | h
      · exact hS.2.2 q h
      · exact hF _ (hL q h)⟩ T' rfl X'
  exact ⟨t2, st t2 a1, b1⟩
/-- the same where the callee has no cells of ours: all stays -/
theorem cg0 {S : Type} {val : S → Option Value} {post : S → Prop} {ws : va_W}
    (hr : va_Run p l e R s m args below meth c H locs cells slots mc ms (F0 m pc ls st0) rest (QG val post (fun _ => CB D [] (va_A [] H.size)) (va_A [] H.size) a) (va_A [] H.size))
    (hP : va_P D vwCl ws H) (hS : va_S A0 H0 H locs) (hA : ∀ q, H0.size ≤ q → A0 q)
    (kk : ∀ (u : S) (H1 : Heap) (locs1 : List Loc), post u → va_P D vwCl ws H1 → va_S A0 H0 H1 locs1 → W p l e R s m args below meth c H1 locs1 (cells + mc) (slots + ms) Q (F0 m (pc + 3) ls ((val u).toList ++ rest))) : W p l e R s m args below meth c H locs cells slots Q (F0 m pc ls st0) := by
  have hF : ∀ q, va_A [] H.size q → A0 q := fun q h => by
    rcases h with ⟨k, x, h⟩ | h
    · simp at h
    · exact hA q (Nat.le_trans hS.1 h)
  intro T hT X
  obtain ⟨v, st₀, t, T', L, h0, X', hL, e1, e2, ⟨⟨u, hv, hp, -⟩, hz, hk⟩, st⟩ := hr T hT X
  cases hv
  rw [h0] at hz hk
  have hk1 : ∀ q : Nat, q < H.size → T'.heap[q]? = H[q]? := fun q h1 => by
    rw [e1]
    refine hk q h1 (fun h => ?_)
    rcases h with ⟨k, x, h⟩ | h
    · simp at h
    · exact absurd h1 (by omega)
  obtain ⟨t2, a1, b1⟩ := kk u T'.heap (locs ++ L) hp (hP.kept (fun k q hq => hk1 q.1 ((hP k q hq).lt)))
    ⟨Nat.le_trans hS.1 (by rw [e1]; exact hz), fun q h1 h2 => by rw [hk1 q (Nat.lt_of_lt_of_le h1 hS.1)]; exact hS.2.1 q h1 h2, fun q hq => by
      rcases List.mem_append.mp hq with h | h
      · exact hS.2.2 q h
      · exact hF _ (hL q h)⟩ T' rfl X'
  exact ⟨t2, st t2 a1, b1⟩
variable {y : MethodName} {cc bytes : ByteArray} {maxL nL index : Nat} {ret : Option FieldType} {own C host : String} {b : Addr} {As : List Value} {rm : Room}
def okN (y : MethodName) (n : Nat) : Prop := y.cls ≠ "java/lang/invoke/MethodHandle" ∧ y.cls ≠ "java/lang/invoke/VarHandle" ∧ (parseMethodDescriptor y.desc).map (fun d => d.parameters.length) = some n
/-- the words of a call: static; instance; constructor; the same of a nest mate -/
def LkS (own : String) (index : Nat) (y : MethodName) (bytes : ByteArray) (maxL : Nat) (ret : Option FieldType) (n : Nat) : Prop := Cond.methodLink own index y ∈ GW ∧ Cond.static y ∈ GW ∧ Cond.initialized y.cls ∈ GW ∧ Cond.code y bytes maxL ret ∈ GW ∧ okN y n
def LkV (own : String) (index : Nat) (y : MethodName) (bytes : ByteArray) (maxL : Nat) (ret : Option FieldType) (n : Nat) : Prop := Cond.methodLink own index y ∈ GW ∧ Cond.instanceMethod y ∈ GW ∧ Cond.selects y.cls y y ∈ GW ∧ Cond.initialized y.cls ∈ GW ∧ Cond.code y bytes maxL ret ∈ GW ∧ okN y n
def LkI (own : String) (index : Nat) (y : MethodName) (bytes : ByteArray) (maxL : Nat) (n : Nat) : Prop := Cond.methodLink own index y ∈ GW ∧ Cond.instanceMethod y ∈ GW ∧ y.name = "<init>" ∧ Cond.initialized y.cls ∈ GW ∧ Cond.code y bytes maxL none ∈ GW ∧ okN y n
def LkNS (own : String) (index : Nat) (y : MethodName) (host : String) (bytes : ByteArray) (maxL : Nat) (ret : Option FieldType) (n : Nat) : Prop := Cond.methodLinkNest own index y host ∈ tables_1 ∧ Cond.static y ∈ GW ∧ Cond.initialized y.cls ∈ GW ∧ Cond.code y bytes maxL ret ∈ GW ∧ okN y n
def LkNV (own : String) (index : Nat) (y : MethodName) (host : String) (bytes : ByteArray) (maxL : Nat) (ret : Option FieldType) (n : Nat) : Prop := Cond.methodLinkNest own index y host ∈ tables_1 ∧ Cond.instanceMethod y ∈ GW ∧ Cond.selects y.cls y y ∈ GW ∧ Cond.initialized y.cls ∈ GW ∧ Cond.code y bytes maxL ret ∈ GW ∧ okN y n
def LkNI (own : String) (index : Nat) (y : MethodName) (host : String) (bytes : ByteArray) (maxL : Nat) (n : Nat) : Prop := Cond.methodLinkNest own index y host ∈ tables_1 ∧ Cond.instanceMethod y ∈ GW ∧ y.name = "<init>" ∧ Cond.initialized y.cls ∈ GW ∧ Cond.code y bytes maxL none ∈ GW ∧ okN y n
/-- the room that a callee wants of its caller's -/
def okR (rm R : Room) (maxL mc ms cells slots : Nat) : Prop := (rm.cells = mc ∧ rm.slots = ms) ∧ (rm.frames + 1 ≤ R.frames ∧ 8 + (maxL + 11) + rm.locals ≤ R.locals) ∧ (cells + mc ≤ R.cells ∧ slots + ms ≤ R.slots)
variable {S : Type} {val : S → Option Value} {post : S → Prop} {Pc : Array Value → State → Prop} {Qc : Array Value → State → Outcome → State → Prop} {free : Addr → Prop}
theorem rn_S (hM : Met l y (.code y bytes maxL ret :: GW) rm Pc Qc mc ms free) (F : CallFix p m c cc nL s args GW own) (K : LkS own index y bytes maxL ret As.length) (hp : PreS s H Pc As) (ho : okR rm R maxL mc ms cells slots) (hls : ls.size = nL) (hst : st0 = As.reverse ++ rest) (hW : (rest.map fun v => v.category).sum ≤ 8) (hdg : decode cc pc = .ok (.invokestatic index, 3)) : va_Run p l e R s m args below meth c H locs cells slots mc ms (F0 m pc ls st0) rest (Qc As.toArray) free := by
  obtain ⟨k1, k2, k3, k4, k5⟩ := K
  have hG : GoodIn GW (va_wsS own index y (.code y bytes maxL ret :: GW)) := gw_app (fun w hw => by
    rcases List.mem_cons.mp hw with rfl | hw
    · exact k1
    rcases List.mem_cons.mp hw with rfl | hw
    · exact k2
    rcases List.mem_cons.mp hw with rfl | hw
    · exact k3
    cases hw) k4
  exact va_runS F hM (va_cwS As.length F.2.2.2.2 hG rfl ho.1.1 ho.1.2 k5 ho.2.1) hp rfl rfl hls hst (lv_room hW) hdg ho.2.2
theorem rn_V (hM : Met l y (.code y bytes maxL ret :: GW) rm Pc Qc mc ms free) (F : CallFix p m c cc nL s args GW own) (K : LkV own index y bytes maxL ret As.length) (hp : PreV s H y.cls b Pc As) (ho : okR rm R maxL mc ms cells slots) (hls : ls.size = nL) (hst : st0 = As.reverse ++ .ref b :: rest) (hW : (rest.map fun v => v.category).sum ≤ 8) (hdg : decode cc pc = .ok (.invokevirtual index, 3)) : va_Run p l e R s m args below meth c H locs cells slots mc ms (F0 m pc ls st0) rest (Qc (Value.ref b :: As).toArray) free := by
  obtain ⟨k1, k2, k3, k4, k5, k6⟩ := K
  have hG : GoodIn GW (wsV own index y.cls y (.code y bytes maxL ret :: GW)) := gw_app (fun w hw => by
    rcases List.mem_cons.mp hw with rfl | hw
    · exact k1
    rcases List.mem_cons.mp hw with rfl | hw
    · exact k2
    rcases List.mem_cons.mp hw with rfl | hw
    · exact k3
    rcases List.mem_cons.mp hw with rfl | hw
    · exact k4
    cases hw) k5
  exact va_runV F hM (cwV As.length F.2.2.2.2 hG rfl ho.1.1 ho.1.2 ⟨rfl, k6⟩ ho.2.1) hp rfl rfl hls hst (lv_room hW) hdg ho.2.2
theorem rn_I (hM : Met l y (.code y bytes maxL none :: GW) rm Pc Qc mc ms free) (F : CallFix p m c cc nL s args GW own) (K : LkI own index y bytes maxL As.length) (hp : PreS s H Pc (.ref b :: As)) (ho : okR rm R maxL mc ms cells slots) (hls : ls.size = nL) (hst : st0 = As.reverse ++ .ref b :: rest) (hW : (rest.map fun v => v.category).sum ≤ 8) (hdg : decode cc pc = .ok (.invokespecial index, 3)) : va_Run p l e R s m args below meth c H locs cells slots mc ms (F0 m pc ls st0) rest (Qc (Value.ref b :: As).toArray) free := by
  obtain ⟨k1, k2, k3, k4, k5, k6⟩ := K
  have hts := F.2.2.2.2
  exact va_runI F hM (cwI As.length hts (gw_cons k5) rfl ho.1.1 ho.1.2 (hts _ k4) (hts _ k1) (hts _ k2) k3 k6 ho.2.1) hp rfl rfl hls hst (lv_room hW) hdg ho.2.2
theorem rn_NS (hM : Met l y (.code y bytes maxL ret :: GW) rm Pc Qc mc ms free) (F : CallFix p m c cc nL s args GW own) (hKN : KN D Y Z s) (K : LkNS own index y host bytes maxL ret As.length) (hp : PreS s H Pc As) (ho : okR rm R maxL mc ms cells slots) (hls : ls.size = nL) (hst : st0 = As.reverse ++ rest) (hW : (rest.map fun v => v.category).sum ≤ 8) (hdg : decode cc pc = .ok (.invokestatic index, 3)) : va_Run p l e R s m args below meth c H locs cells slots mc ms (F0 m pc ls st0) rest (Qc As.toArray) free := by
  obtain ⟨k1, k2, k3, k4, k5⟩ := K
  have hts := F.2.2.2.2
  exact va_runSN F hM ⟨va_cnB As.length hts (gw_cons k4) rfl ho.1.1 ho.1.2 (hKN.2.1 _ k1 rfl) (hts _ k3) k5 ho.2.1, hts _ k2, trivial⟩ hp rfl rfl hls hst (lv_room hW) hdg ho.2.2
theorem rn_NV (hM : Met l y (.code y bytes maxL ret :: GW) rm Pc Qc mc ms free) (F : CallFix p m c cc nL s args GW own) (hKN : KN D Y Z s) (K : LkNV own index y host bytes maxL ret As.length) (hp : PreV s H y.cls b Pc As) (ho : okR rm R maxL mc ms cells slots) (hls : ls.size = nL) (hst : st0 = As.reverse ++ .ref b :: rest) (hW : (rest.map fun v => v.category).sum ≤ 8) (hdg : decode cc pc = .ok (.invokevirtual index, 3)) : va_Run p l e R s m args below meth c H locs cells slots mc ms (F0 m pc ls st0) rest (Qc (Value.ref b :: As).toArray) free := by
  obtain ⟨k1, k2, k3, k4, k5, k6⟩ := K
  have hts := F.2.2.2.2
  exact va_runVN F hM ⟨va_cnB As.length hts (gw_cons k5) rfl ho.1.1 ho.1.2 (hKN.2.1 _ k1 rfl) (hts _ k4) k6 ho.2.1, hts _ k2, hts _ k3⟩ hp rfl rfl hls hst (lv_room hW) hdg ho.2.2
theorem rn_NI (hM : Met l y (.code y bytes maxL none :: GW) rm Pc Qc mc ms free) (F : CallFix p m c cc nL s args GW own) (hKN : KN D Y Z s) (K : LkNI own index y host bytes maxL As.length) (hp : PreS s H Pc (.ref b :: As)) (ho : okR rm R maxL mc ms cells slots) (hls : ls.size = nL) (hst : st0 = As.reverse ++ .ref b :: rest) (hW : (rest.map fun v => v.category).sum ≤ 8) (hdg : decode cc pc = .ok (.invokespecial index, 3)) : va_Run p l e R s m args below meth c H locs cells slots mc ms (F0 m pc ls st0) rest (Qc (Value.ref b :: As).toArray) free := by
  obtain ⟨k1, k2, k3, k4, k5, k6⟩ := K
  have hts := F.2.2.2.2
  exact va_runIN F hM ⟨va_cnB As.length hts (gw_cons k5) rfl ho.1.1 ho.1.2 (hKN.2.1 _ k1 rfl) (hts _ k4) k6 ho.2.1, k3, hts _ k2⟩ hp rfl rfl hls hst (lv_room hW) hdg ho.2.2
/-- a loop: from its head, with a measure that falls -/
theorem w_loop {σ : Type} {stk : List Value} (Inv : σ → Heap → List Loc → Array Slot → Prop) (μ : σ → Nat) (x : σ) (h0 : Inv x H locs ls)
    (step : ∀ (x : σ) (H : Heap) (locs : List Loc) (ls : Array Slot), Inv x H locs ls → (∀ (x' : σ) (H' : Heap) (locs' : List Loc) (ls' : Array Slot), μ x' < μ x → Inv x' H' locs' ls' → W p l e R s m args below meth c H' locs' cells slots Q (F0 m pc ls' stk)) → W p l e R s m args below meth c H locs cells slots Q (F0 m pc ls stk)) : W p l e R s m args below meth c H locs cells slots Q (F0 m pc ls stk) := by
  have key : ∀ (n : Nat) (x : σ) (H : Heap) (locs : List Loc) (ls : Array Slot), μ x < n → Inv x H locs ls → W p l e R s m args below meth c H locs cells slots Q (F0 m pc ls stk) := by
    intro n
    induction n with
    | zero => intro x H locs ls h; exact absurd h (Nat.not_lt_zero _)
    | succ n ih => intro x H locs ls h hI; exact step x H locs ls hI (fun x' H' locs' ls' h' hI' => ih x' H' locs' ls' (by omega) hI')
  exact key (μ x + 1) x H locs ls (Nat.lt_succ_self _) h0
/-- a new array of a primitive type, of the class that the tables have -/
theorem nw_a {ws : va_W} {ty : FieldType} (k : Nat) (hexec : p.tables.exec = Jvm.exec) (hb : c.code = cc) {atype : ArrayType} (harr : (Cond.arrayClass (newarray.typeOf atype)).before args s = true) (hty : newarray.typeOf atype = ty) (hKN : KN D Y Z s) {yk : ClassId} (ht : (TYS Y)[k]? = some (yk, ty)) (hP : va_P D vwCl ws H) (hD : va_D A0 ws) (hS : va_S A0 H0 H locs) (hA : ∀ q, H0.size ≤ q → A0 q)
    {n : Int32} {N' : Nat} {a0 : vp_A} (ha : ∀ cA : ClassId, vp_cell cA a0 = arrV cA N' (fun _ => defaultValue ty)) (hn : ¬ n < 0) (hN : n.toNatClampNeg = N') (hbytes : N' * componentBytes ty ≤ 536870912) (hcells : cells + 1 ≤ R.cells) (hslots : slots + N' ≤ R.slots) (hdg : decode cc pc = .ok (.newarray atype, 2))
    (kk : ∀ (q : Nat) (H1 : Heap), va_P D vwCl (ws ++ [(q, .inl (yk, a0))]) H1 → va_D A0 (ws ++ [(q, .inl (yk, a0))]) → va_S A0 H0 H1 locs →
      W p l e R s m args below meth c H1 locs (cells + 1) (slots + N') Q (F0 m (pc + 2) ls (.ref q :: rest))) : W p l e R s m args below meth c H locs cells slots Q (F0 m pc ls (.int n :: rest)) := by
  refine va_newa hexec hb harr hty hKN.1 hP hD hS hA ha hn hN hbytes hcells hslots hdg (fun q cA H1 hK2 hP2 hD2 hS2 => ?_)
  have e1 := RA_cls (hK2.2 _ (cA, ty) List.getElem?_concat_length).2
  have e2 := RA_cls (hKN.1.2 k _ ht).2
  have e3 : cA = yk := Option.some.inj (e1.symm.trans e2)
  subst e3
  exact kk q H1 hP2 hD2 hS2
/-- a new array of references -/
theorem nw_q {ws : va_W} {own C : String} {index : Nat} (k : Nat) (hexec : p.tables.exec = Jvm.exec) (hb : c.code = cc) (hown : s.vm.findClass own = some m.cls) (hclink : (Cond.classLink own index C).before args s = true) (hC : C ∈ AOL) (hKN : KN D Y Z s) {yk : ClassId} (ht : (TYS Y)[k]? = some (yk, .object C)) (hP : va_P D vwCl ws H) (hD : va_D A0 ws) (hS : va_S A0 H0 H locs) (hA : ∀ q, H0.size ≤ q → A0 q)
    {n : Int32} {N' : Nat} (hn : ¬ n < 0) (hN : n.toNatClampNeg = N') (hbytes : N' * 4 ≤ 536870912) (hcells : cells + 1 ≤ R.cells) (hslots : slots + N' ≤ R.slots) (hdg : decode cc pc = .ok (.anewarray index, 3))
    (kk : ∀ (q : Nat) (H1 : Heap), va_P D vwCl (ws ++ [(q, .inl (yk, N', .inr (.inr (.inr (.inr (fun _ => none))))))]) H1 → va_D A0 (ws ++ [(q, .inl (yk, N', .inr (.inr (.inr (.inr (fun _ => none))))))]) → va_S A0 H0 H1 locs →
      W p l e R s m args below meth c H1 locs (cells + 1) (slots + N') Q (F0 m (pc + 3) ls (.ref q :: rest))) : W p l e R s m args below meth c H locs cells slots Q (F0 m pc ls (.int n :: rest)) := by
  refine va_newq hexec hb hown hclink (hKN.2.2.1 C hC) hKN.1 hP hD hS hA hn hN hbytes hcells hslots hdg (fun q cA H1 hK2 hP2 hD2 hS2 => ?_)
  have e1 := RA_cls (hK2.2 _ (cA, .object C) List.getElem?_concat_length).2
  have e2 := RA_cls (hKN.1.2 k _ ht).2
  have e3 : cA = yk := Option.some.inj (e1.symm.trans e2)
  subst e3
  exact kk q H1 hP2 hD2 hS2
end CG
end
section
set_option maxRecDepth 20000 in
theorem inTX0 : ∀ w ∈ u_ws RX0 TX0 2, w ∈ lw_tbl ∧ goodWord w = true := by decide +kernel
theorem inGX0 : ∀ w ∈ u_ws RX0 TX0 2, w ∈ GW := fun w h => List.mem_filter.mpr (inTX0 w h)
set_option maxRecDepth 20000 in
theorem inTX1 : ∀ w ∈ u_ws RX1 TX1 7, w ∈ lw_tbl ∧ goodWord w = true := by decide +kernel
theorem inGX1 : ∀ w ∈ u_ws RX1 TX1 7, w ∈ GW := fun w h => List.mem_filter.mpr (inTX1 w h)
set_option maxRecDepth 20000 in
theorem inTX2 : ∀ w ∈ u_ws RX2 TX2 8, w ∈ lw_tbl ∧ goodWord w = true := by decide +kernel
theorem inGX2 : ∀ w ∈ u_ws RX2 TX2 8, w ∈ GW := fun w h => List.mem_filter.mpr (inTX2 w h)
set_option maxRecDepth 20000 in
theorem inTX3 : ∀ w ∈ u_ws RX3 TX3 12, w ∈ lw_tbl ∧ goodWord w = true := by decide +kernel
theorem inGX3 : ∀ w ∈ u_ws RX3 TX3 12, w ∈ GW := fun w h => List.mem_filter.mpr (inTX3 w h)
set_option maxRecDepth 20000 in
theorem inTX4 : ∀ w ∈ u_ws RX4 TX4 1, w ∈ lw_tbl ∧ goodWord w = true := by decide +kernel
theorem inGX4 : ∀ w ∈ u_ws RX4 TX4 1, w ∈ GW := fun w h => List.mem_filter.mpr (inTX4 w h)
set_option maxRecDepth 20000 in
theorem inTX5 : ∀ w ∈ u_ws RX5 TX5 4, w ∈ lw_tbl ∧ goodWord w = true := by decide +kernel
theorem inGX5 : ∀ w ∈ u_ws RX5 TX5 4, w ∈ GW := fun w h => List.mem_filter.mpr (inTX5 w h)
set_option maxRecDepth 20000 in
theorem inTX6 : ∀ w ∈ u_ws RX6 TX6 13, w ∈ lw_tbl ∧ goodWord w = true := by decide +kernel
theorem inGX6 : ∀ w ∈ u_ws RX6 TX6 13, w ∈ GW := fun w h => List.mem_filter.mpr (inTX6 w h)
set_option maxRecDepth 20000 in
theorem inTX7 : ∀ w ∈ u_ws RX7 TX7 4, w ∈ lw_tbl ∧ goodWord w = true := by decide +kernel
theorem inGX7 : ∀ w ∈ u_ws RX7 TX7 4, w ∈ GW := fun w h => List.mem_filter.mpr (inTX7 w h)
set_option maxRecDepth 20000 in
theorem inTX8 : ∀ w ∈ u_ws RX8 TX8 14, w ∈ lw_tbl ∧ goodWord w = true := by decide +kernel
theorem inGX8 : ∀ w ∈ u_ws RX8 TX8 14, w ∈ GW := fun w h => List.mem_filter.mpr (inTX8 w h)
set_option maxRecDepth 20000 in
theorem inTX9 : ∀ w ∈ u_ws RX9 TX9 6, w ∈ lw_tbl ∧ goodWord w = true := by decide +kernel
theorem inGX9 : ∀ w ∈ u_ws RX9 TX9 6, w ∈ GW := fun w h => List.mem_filter.mpr (inTX9 w h)
set_option maxRecDepth 20000 in
theorem inTX10 : ∀ w ∈ u_ws RX10 TX10 20, w ∈ lw_tbl ∧ goodWord w = true := by decide +kernel
theorem inGX10 : ∀ w ∈ u_ws RX10 TX10 20, w ∈ GW := fun w h => List.mem_filter.mpr (inTX10 w h)
set_option maxRecDepth 20000 in
theorem inTX11 : ∀ w ∈ u_ws RX11 TX11 49, w ∈ lw_tbl ∧ goodWord w = true := by decide +kernel
theorem inGX11 : ∀ w ∈ u_ws RX11 TX11 49, w ∈ GW := fun w h => List.mem_filter.mpr (inTX11 w h)
theorem kw_1 : Cond.initialized "DimStars" ∈ GW := gw_t (mt1 1 rfl) rfl
theorem kw_10 : Cond.initialized "DimStarsModel" ∈ GW := gw_t (mt1 10 rfl) rfl
theorem kw_1025 : Cond.methodLink "DimStars" 343 ⟨"DimStars", "isWeighed", "(III)Z"⟩ ∈ GW := gw_t (mt5 65 rfl) rfl
theorem kw_1027 : Cond.instanceMethod ⟨"DimStars", "isWeighed", "(III)Z"⟩ ∈ GW := gw_t (mt5 67 rfl) rfl
theorem kw_1028 : Cond.code yX10_isWeighed cX10_isWeighed 4 (some .boolean) ∈ GW := gw_t (mt5 68 rfl) rfl
theorem kw_1029 : Cond.methodLink "DimStars" 349 ⟨"DimStars", "sorterAt", "(I)LDimStars$Text;"⟩ ∈ GW := gw_t (mt5 69 rfl) rfl
theorem kw_1031 : Cond.instanceMethod ⟨"DimStars", "sorterAt", "(I)LDimStars$Text;"⟩ ∈ GW := gw_t (mt5 71 rfl) rfl
theorem kw_1032 : Cond.code yX10_sorterAt cX10_sorterAt 2 (some (.object "DimStars$Text")) ∈ GW := gw_t (mt5 72 rfl) rfl
theorem kw_1155 : Cond.constantLong "DimStars" 408 (-1000000000) ∈ GW := gw_t (mt5 195 rfl) rfl
theorem kw_1208 : Cond.fieldLink "DimStarsModel" 7 "DimStarsModel" "told" "[I" ∈ GW := gw_t (mt6 8 rfl) rfl
theorem kw_1212 : Cond.fieldLink "DimStarsModel" 20 "DimStarsModel" "texts" "[I" ∈ GW := gw_t (mt6 12 rfl) rfl
theorem kw_1256 : Cond.fieldLink "DimStarsModel" 93 "DimStarsModel" "isMade" "[Z" ∈ GW := gw_t (mt6 56 rfl) rfl
theorem kw_1362 : Cond.methodLink "DimStarsModel" 99 ⟨"DimStarsModel", "in", "(JJJ)Z"⟩ ∈ GW := gw_t (mt6 162 rfl) rfl
theorem kw_1363 : Cond.static ⟨"DimStarsModel", "in", "(JJJ)Z"⟩ ∈ GW := gw_t (mt6 163 rfl) rfl
theorem kw_1364 : Cond.code yX11_in cX11_in 6 (some .boolean) ∈ GW := gw_t (mt6 164 rfl) rfl
theorem kw_1372 : Cond.methodLink "DimStarsModel" 108 ⟨"DimStarsModel", "isStar", "(I)Z"⟩ ∈ GW := gw_t (mt6 172 rfl) rfl
theorem kw_1374 : Cond.instanceMethod ⟨"DimStarsModel", "isStar", "(I)Z"⟩ ∈ GW := gw_t (mt6 174 rfl) rfl
theorem kw_1375 : Cond.code yX11_isStar cX11_isStar 2 (some .boolean) ∈ GW := gw_t (mt6 175 rfl) rfl
theorem kw_1381 : Cond.constant "DimStarsModel" 119 (-200000) ∈ GW := gw_t (mt6 181 rfl) rfl
theorem kw_1605 : Cond.methodLink "DimStarsModel" 366 ⟨"DimStarsModel", "isText", "(II)Z"⟩ ∈ GW := gw_t (mt7 165 rfl) rfl
theorem kw_1607 : Cond.instanceMethod ⟨"DimStarsModel", "isText", "(II)Z"⟩ ∈ GW := gw_t (mt7 167 rfl) rfl
theorem kw_1608 : Cond.code yX11_isText cX11_isText 3 (some .boolean) ∈ GW := gw_t (mt7 168 rfl) rfl
theorem kw_1650 : Cond.constantLong "DimStarsModel" 404 (-1) ∈ GW := gw_t (mt7 210 rfl) rfl
theorem kw_1665 : Cond.constantLong "DimStarsModel" 422 (4) ∈ GW := gw_t (mt7 225 rfl) rfl
theorem kw_1666 : Cond.constantLong "DimStarsModel" 424 (-200000) ∈ GW := gw_t (mt7 226 rfl) rfl
theorem kw_1707 : Cond.constantLong "DimStarsModel" 485 (-2) ∈ GW := gw_t (mt8 27 rfl) rfl
theorem kw_1814 : Cond.methodLink "DimStarsModel" 546 ⟨"DimStarsModel", "canWeigh", "(III)Z"⟩ ∈ GW := gw_t (mt8 134 rfl) rfl
theorem kw_1816 : Cond.instanceMethod ⟨"DimStarsModel", "canWeigh", "(III)Z"⟩ ∈ GW := gw_t (mt8 136 rfl) rfl
theorem kw_1817 : Cond.code yX11_canWeigh cX11_canWeigh 4 (some .boolean) ∈ GW := gw_t (mt8 137 rfl) rfl
theorem kw_1893 : Cond.constantLong "DimStarsModel" 567 (-1000000000) ∈ GW := gw_t (mt8 213 rfl) rfl
theorem kw_1912 : Cond.constantLong "DimStarsModel" 573 (3) ∈ GW := gw_t (mt8 232 rfl) rfl
theorem kw_2 : Cond.initialized "DimStars$Sky" ∈ GW := gw_t (mt1 2 rfl) rfl
theorem kw_349 : Cond.fieldLink "DimStars" 10 "DimStars" "sky" "LDimStars$Sky;" ∈ GW := gw_t (mt2 109 rfl) rfl
theorem kw_350 : Cond.fieldLink "DimStars" 16 "DimStars" "images" "[LDimStars$Sky;" ∈ GW := gw_t (mt2 110 rfl) rfl
theorem kw_354 : Cond.fieldLink "DimStars" 169 "DimStars" "lawCount" "I" ∈ GW := gw_t (mt2 114 rfl) rfl
theorem kw_355 : Cond.fieldLink "DimStars" 172 "DimStars" "searchCount" "I" ∈ GW := gw_t (mt2 115 rfl) rfl
theorem kw_356 : Cond.fieldLink "DimStars" 175 "DimStars" "sorterCount" "I" ∈ GW := gw_t (mt2 116 rfl) rfl
theorem kw_39 : Cond.fieldLink "DimStars$Sky" 44 "DimStars$Sky" "starCount" "I" ∈ GW := gw_t (mt1 39 rfl) rfl
theorem kw_417 : Cond.methodLink "DimStars" 100 ⟨"DimStars", "isWithin", "(III)Z"⟩ ∈ GW := gw_t (mt2 177 rfl) rfl
theorem kw_418 : Cond.static ⟨"DimStars", "isWithin", "(III)Z"⟩ ∈ GW := gw_t (mt2 178 rfl) rfl
theorem kw_419 : Cond.code yX10_isWithin cX10_isWithin 3 (some .boolean) ∈ GW := gw_t (mt2 179 rfl) rfl
theorem kw_43 : Cond.fieldLink "DimStars$Sky" 47 "DimStars$Sky" "worldCount" "I" ∈ GW := gw_t (mt1 43 rfl) rfl
theorem kw_467 : Cond.instanceMethod ⟨"DimStars$Sky", "starAt", "(I)LDimStars$Star;"⟩ ∈ GW := gw_t (mt2 227 rfl) rfl
theorem kw_468 : Cond.code yX6_starAt cX6_starAt 2 (some (.object "DimStars$Star")) ∈ GW := gw_t (mt2 228 rfl) rfl
theorem kw_469 : Cond.constant "DimStars" 112 (-100000) ∈ GW := gw_t (mt2 229 rfl) rfl
theorem kw_470 : Cond.methodLink "DimStars" 113 ⟨"DimStars", "isHour", "(I)Z"⟩ ∈ GW := gw_t (mt2 230 rfl) rfl
theorem kw_471 : Cond.static ⟨"DimStars", "isHour", "(I)Z"⟩ ∈ GW := gw_t (mt2 231 rfl) rfl
theorem kw_472 : Cond.code yX10_isHour cX10_isHour 1 (some .boolean) ∈ GW := gw_t (mt2 232 rfl) rfl
theorem kw_473 : Cond.constant "DimStars" 116 (-200000) ∈ GW := gw_t (mt2 233 rfl) rfl
theorem kw_494 : Cond.methodLink "DimStars" 137 ⟨"DimStars", "isStar", "(I)Z"⟩ ∈ GW := gw_t (mt3 14 rfl) rfl
theorem kw_496 : Cond.instanceMethod ⟨"DimStars", "isStar", "(I)Z"⟩ ∈ GW := gw_t (mt3 16 rfl) rfl
theorem kw_497 : Cond.code yX10_isStar cX10_isStar 2 (some .boolean) ∈ GW := gw_t (mt3 17 rfl) rfl
theorem kw_760 : Cond.methodLink "DimStars" 194 ⟨"DimStars", "lawAt", "(I)LDimStars$Text;"⟩ ∈ GW := gw_t (mt4 40 rfl) rfl
theorem kw_762 : Cond.instanceMethod ⟨"DimStars", "lawAt", "(I)LDimStars$Text;"⟩ ∈ GW := gw_t (mt4 42 rfl) rfl
theorem kw_763 : Cond.code yX10_lawAt cX10_lawAt 2 (some (.object "DimStars$Text")) ∈ GW := gw_t (mt4 43 rfl) rfl
theorem kw_802 : Cond.instanceMethod ⟨"DimStars$Sky", "worldAt", "(I)LDimStars$World;"⟩ ∈ GW := gw_t (mt4 82 rfl) rfl
theorem kw_803 : Cond.code yX6_worldAt cX6_worldAt 2 (some (.object "DimStars$World")) ∈ GW := gw_t (mt4 83 rfl) rfl
theorem kw_814 : Cond.methodLink "DimStars" 234 ⟨"DimStars", "isBeat", "(I)Z"⟩ ∈ GW := gw_t (mt4 94 rfl) rfl
theorem kw_815 : Cond.static ⟨"DimStars", "isBeat", "(I)Z"⟩ ∈ GW := gw_t (mt4 95 rfl) rfl
theorem kw_816 : Cond.code yX10_isBeat cX10_isBeat 1 (some .boolean) ∈ GW := gw_t (mt4 96 rfl) rfl
theorem kw_817 : Cond.constantLong "DimStars" 237 (-200000) ∈ GW := gw_t (mt4 97 rfl) rfl
theorem kw_848 : Cond.methodLink "DimStars" 259 ⟨"DimStars", "searchAt", "(I)LDimStars$Text;"⟩ ∈ GW := gw_t (mt4 128 rfl) rfl
theorem kw_850 : Cond.instanceMethod ⟨"DimStars", "searchAt", "(I)LDimStars$Text;"⟩ ∈ GW := gw_t (mt4 130 rfl) rfl
theorem kw_851 : Cond.code yX10_searchAt cX10_searchAt 2 (some (.object "DimStars$Text")) ∈ GW := gw_t (mt4 131 rfl) rfl
theorem kw_852 : Cond.constantLong "DimStars" 262 (-2) ∈ GW := gw_t (mt4 132 rfl) rfl
theorem kw_899 : Cond.constantLong "DimStars" 274 (-1) ∈ GW := gw_t (mt4 179 rfl) rfl
theorem kw_s128 : Cond.selects "DimStarsModel" ⟨"DimStarsModel", "isText", "(II)Z"⟩ ⟨"DimStarsModel", "isText", "(II)Z"⟩ ∈ GW := gw_s 128 rfl rfl
theorem kw_s163 : Cond.selects "DimStarsModel" ⟨"DimStarsModel", "canWeigh", "(III)Z"⟩ ⟨"DimStarsModel", "canWeigh", "(III)Z"⟩ ∈ GW := gw_s 163 rfl rfl
theorem kw_s3 : Cond.selects "DimStars$Sky" ⟨"DimStars$Sky", "starAt", "(I)LDimStars$Star;"⟩ ⟨"DimStars$Sky", "starAt", "(I)LDimStars$Star;"⟩ ∈ GW := gw_s 3 rfl rfl
theorem kw_s34 : Cond.selects "DimStars" ⟨"DimStars", "lawAt", "(I)LDimStars$Text;"⟩ ⟨"DimStars", "lawAt", "(I)LDimStars$Text;"⟩ ∈ GW := gw_s 34 rfl rfl
theorem kw_s39 : Cond.selects "DimStars$Sky" ⟨"DimStars$Sky", "worldAt", "(I)LDimStars$World;"⟩ ⟨"DimStars$Sky", "worldAt", "(I)LDimStars$World;"⟩ ∈ GW := gw_s 39 rfl rfl
theorem kw_s4 : Cond.selects "DimStars" ⟨"DimStars", "isStar", "(I)Z"⟩ ⟨"DimStars", "isStar", "(I)Z"⟩ ∈ GW := gw_s 4 rfl rfl
theorem kw_s46 : Cond.selects "DimStars" ⟨"DimStars", "searchAt", "(I)LDimStars$Text;"⟩ ⟨"DimStars", "searchAt", "(I)LDimStars$Text;"⟩ ∈ GW := gw_s 46 rfl rfl
theorem kw_s71 : Cond.selects "DimStars" ⟨"DimStars", "isWeighed", "(III)Z"⟩ ⟨"DimStars", "isWeighed", "(III)Z"⟩ ∈ GW := gw_s 71 rfl rfl
theorem kw_s72 : Cond.selects "DimStars" ⟨"DimStars", "sorterAt", "(I)LDimStars$Text;"⟩ ⟨"DimStars", "sorterAt", "(I)LDimStars$Text;"⟩ ∈ GW := gw_s 72 rfl rfl
theorem kw_s93 : Cond.selects "DimStarsModel" ⟨"DimStarsModel", "isStar", "(I)Z"⟩ ⟨"DimStarsModel", "isStar", "(I)Z"⟩ ∈ GW := gw_s 93 rfl rfl
theorem kn_465 : Cond.methodLinkNest "DimStars" 108 ⟨"DimStars$Sky", "starAt", "(I)LDimStars$Star;"⟩ "DimStars" ∈ tables_1 := mt2 225 rfl
theorem kn_904 : Cond.methodLinkNest "DimStars" 280 ⟨"DimStars$Sky", "worldAt", "(I)LDimStars$World;"⟩ "DimStars" ∈ tables_1 := mt4 184 rfl
theorem lk_X10_100 : LkS RX10 100 yX10_isWithin cX10_isWithin 3 (some .boolean) 3 := ⟨kw_417, kw_418, kw_1, kw_419, ⟨by decide +kernel, by decide +kernel, by decide +kernel⟩⟩
theorem lk_X10_108 : LkNV RX10 108 yX6_starAt "DimStars" cX6_starAt 2 (some (.object "DimStars$Star")) 1 := ⟨kn_465, kw_467, kw_s3, kw_2, kw_468, ⟨by decide +kernel, by decide +kernel, by decide +kernel⟩⟩
theorem lk_X10_113 : LkS RX10 113 yX10_isHour cX10_isHour 1 (some .boolean) 1 := ⟨kw_470, kw_471, kw_1, kw_472, ⟨by decide +kernel, by decide +kernel, by decide +kernel⟩⟩
theorem lk_X10_137 : LkV RX10 137 yX10_isStar cX10_isStar 2 (some .boolean) 1 := ⟨kw_494, kw_496, kw_s4, kw_1, kw_497, ⟨by decide +kernel, by decide +kernel, by decide +kernel⟩⟩
theorem lk_X10_194 : LkV RX10 194 yX10_lawAt cX10_lawAt 2 (some (.object "DimStars$Text")) 1 := ⟨kw_760, kw_762, kw_s34, kw_1, kw_763, ⟨by decide +kernel, by decide +kernel, by decide +kernel⟩⟩
theorem lk_X10_234 : LkS RX10 234 yX10_isBeat cX10_isBeat 1 (some .boolean) 1 := ⟨kw_814, kw_815, kw_1, kw_816, ⟨by decide +kernel, by decide +kernel, by decide +kernel⟩⟩
theorem lk_X10_259 : LkV RX10 259 yX10_searchAt cX10_searchAt 2 (some (.object "DimStars$Text")) 1 := ⟨kw_848, kw_850, kw_s46, kw_1, kw_851, ⟨by decide +kernel, by decide +kernel, by decide +kernel⟩⟩
theorem lk_X10_280 : LkNV RX10 280 yX6_worldAt "DimStars" cX6_worldAt 2 (some (.object "DimStars$World")) 1 := ⟨kn_904, kw_802, kw_s39, kw_2, kw_803, ⟨by decide +kernel, by decide +kernel, by decide +kernel⟩⟩
theorem lk_X10_343 : LkV RX10 343 yX10_isWeighed cX10_isWeighed 4 (some .boolean) 3 := ⟨kw_1025, kw_1027, kw_s71, kw_1, kw_1028, ⟨by decide +kernel, by decide +kernel, by decide +kernel⟩⟩
theorem lk_X10_349 : LkV RX10 349 yX10_sorterAt cX10_sorterAt 2 (some (.object "DimStars$Text")) 1 := ⟨kw_1029, kw_1031, kw_s72, kw_1, kw_1032, ⟨by decide +kernel, by decide +kernel, by decide +kernel⟩⟩
theorem lk_X11_108 : LkV RX11 108 yX11_isStar cX11_isStar 2 (some .boolean) 1 := ⟨kw_1372, kw_1374, kw_s93, kw_10, kw_1375, ⟨by decide +kernel, by decide +kernel, by decide +kernel⟩⟩
theorem lk_X11_366 : LkV RX11 366 yX11_isText cX11_isText 3 (some .boolean) 2 := ⟨kw_1605, kw_1607, kw_s128, kw_10, kw_1608, ⟨by decide +kernel, by decide +kernel, by decide +kernel⟩⟩
theorem lk_X11_546 : LkV RX11 546 yX11_canWeigh cX11_canWeigh 4 (some .boolean) 3 := ⟨kw_1814, kw_1816, kw_s163, kw_10, kw_1817, ⟨by decide +kernel, by decide +kernel, by decide +kernel⟩⟩
theorem lk_X11_99 : LkS RX11 99 yX11_in cX11_in 6 (some .boolean) 3 := ⟨kw_1362, kw_1363, kw_10, kw_1364, ⟨by decide +kernel, by decide +kernel, by decide +kernel⟩⟩
end
section
theorem dX10_alias_0 : decode cX10_alias 0 = .ok (.aload_n 0, 1) := by decide +kernel
theorem dX10_alias_1 : decode cX10_alias 1 = .ok (.iload_n 1, 1) := by decide +kernel
theorem dX10_alias_2 : decode cX10_alias 2 = .ok (.invokevirtual 259, 3) := by decide +kernel
theorem dX10_alias_5 : decode cX10_alias 5 = .ok (.ifnull 20, 3) := by decide +kernel
theorem dX10_alias_25 : decode cX10_alias 25 = .ok (.ldc2_w 274, 3) := by decide +kernel
theorem dX10_alias_28 : decode cX10_alias 28 = .ok (.lreturn, 1) := by decide +kernel
theorem dX10_at_0 : decode cX10_at 0 = .ok (.aload_n 0, 1) := by decide +kernel
theorem dX10_at_1 : decode cX10_at 1 = .ok (.iload_n 1, 1) := by decide +kernel
theorem dX10_at_2 : decode cX10_at 2 = .ok (.invokevirtual 137, 3) := by decide +kernel
theorem dX10_at_5 : decode cX10_at 5 = .ok (.ifCond .eq 17, 3) := by decide +kernel
theorem dX10_at_22 : decode cX10_at 22 = .ok (.ldc 116, 2) := by decide +kernel
theorem dX10_at_24 : decode cX10_at 24 = .ok (.ireturn, 1) := by decide +kernel
theorem dX10_back_0 : decode cX10_back 0 = .ok (.iload_n 1, 1) := by decide +kernel
theorem dX10_back_1 : decode cX10_back 1 = .ok (.iconst 0, 1) := by decide +kernel
theorem dX10_back_2 : decode cX10_back 2 = .ok (.iconst 3, 1) := by decide +kernel
theorem dX10_back_3 : decode cX10_back 3 = .ok (.invokestatic 100, 3) := by decide +kernel
theorem dX10_back_6 : decode cX10_back 6 = .ok (.ifCond .eq 12, 3) := by decide +kernel
theorem dX10_back_9 : decode cX10_back 9 = .ok (.aload_n 0, 1) := by decide +kernel
theorem dX10_back_10 : decode cX10_back 10 = .ok (.getfield 16, 3) := by decide +kernel
theorem dX10_back_13 : decode cX10_back 13 = .ok (.iload_n 1, 1) := by decide +kernel
theorem dX10_back_14 : decode cX10_back 14 = .ok (.aaload, 1) := by decide +kernel
theorem dX10_back_15 : decode cX10_back 15 = .ok (.goto 4, 3) := by decide +kernel
theorem dX10_back_18 : decode cX10_back 18 = .ok (.aconst_null, 1) := by decide +kernel
theorem dX10_back_19 : decode cX10_back 19 = .ok (.astore_n 2, 1) := by decide +kernel
theorem dX10_back_20 : decode cX10_back 20 = .ok (.aload_n 2, 1) := by decide +kernel
theorem dX10_back_21 : decode cX10_back 21 = .ok (.ifnonnull 5, 3) := by decide +kernel
theorem dX10_back_24 : decode cX10_back 24 = .ok (.iconst (-1), 1) := by decide +kernel
theorem dX10_back_25 : decode cX10_back 25 = .ok (.ireturn, 1) := by decide +kernel
theorem dX10_bound_0 : decode cX10_bound 0 = .ok (.aload_n 0, 1) := by decide +kernel
theorem dX10_bound_1 : decode cX10_bound 1 = .ok (.iload_n 1, 1) := by decide +kernel
theorem dX10_bound_2 : decode cX10_bound 2 = .ok (.invokevirtual 259, 3) := by decide +kernel
theorem dX10_bound_5 : decode cX10_bound 5 = .ok (.astore_n 3, 1) := by decide +kernel
theorem dX10_bound_6 : decode cX10_bound 6 = .ok (.aload_n 3, 1) := by decide +kernel
theorem dX10_bound_7 : decode cX10_bound 7 = .ok (.ifnull 14, 3) := by decide +kernel
theorem dX10_bound_21 : decode cX10_bound 21 = .ok (.iconst (-1), 1) := by decide +kernel
theorem dX10_bound_22 : decode cX10_bound 22 = .ok (.ireturn, 1) := by decide +kernel
theorem dX10_candidate_0 : decode cX10_candidate 0 = .ok (.aload_n 0, 1) := by decide +kernel
theorem dX10_candidate_1 : decode cX10_candidate 1 = .ok (.iload_n 1, 1) := by decide +kernel
theorem dX10_candidate_2 : decode cX10_candidate 2 = .ok (.invokevirtual 137, 3) := by decide +kernel
theorem dX10_candidate_5 : decode cX10_candidate 5 = .ok (.ifCond .eq 28, 3) := by decide +kernel
theorem dX10_candidate_33 : decode cX10_candidate 33 = .ok (.iconst 0, 1) := by decide +kernel
theorem dX10_candidate_34 : decode cX10_candidate 34 = .ok (.istore 4, 2) := by decide +kernel
theorem dX10_candidate_36 : decode cX10_candidate 36 = .ok (.iload 4, 2) := by decide +kernel
theorem dX10_candidate_38 : decode cX10_candidate 38 = .ok (.ifCond .eq 15, 3) := by decide +kernel
theorem dX10_candidate_53 : decode cX10_candidate 53 = .ok (.iconst (-1), 1) := by decide +kernel
theorem dX10_candidate_54 : decode cX10_candidate 54 = .ok (.ireturn, 1) := by decide +kernel
theorem dX10_catches_0 : decode cX10_catches 0 = .ok (.aload_n 0, 1) := by decide +kernel
theorem dX10_catches_1 : decode cX10_catches 1 = .ok (.iload_n 1, 1) := by decide +kernel
theorem dX10_catches_2 : decode cX10_catches 2 = .ok (.invokevirtual 259, 3) := by decide +kernel
theorem dX10_catches_5 : decode cX10_catches 5 = .ok (.astore_n 3, 1) := by decide +kernel
theorem dX10_catches_6 : decode cX10_catches 6 = .ok (.aload_n 0, 1) := by decide +kernel
theorem dX10_catches_7 : decode cX10_catches 7 = .ok (.getfield 10, 3) := by decide +kernel
theorem dX10_catches_10 : decode cX10_catches 10 = .ok (.iload_n 2, 1) := by decide +kernel
theorem dX10_catches_11 : decode cX10_catches 11 = .ok (.invokevirtual 280, 3) := by decide +kernel
theorem dX10_catches_14 : decode cX10_catches 14 = .ok (.astore 4, 2) := by decide +kernel
theorem dX10_catches_16 : decode cX10_catches 16 = .ok (.aload_n 3, 1) := by decide +kernel
theorem dX10_catches_17 : decode cX10_catches 17 = .ok (.ifnull 16, 3) := by decide +kernel
theorem dX10_catches_33 : decode cX10_catches 33 = .ok (.iconst (-1), 1) := by decide +kernel
theorem dX10_catches_34 : decode cX10_catches 34 = .ok (.ireturn, 1) := by decide +kernel
theorem dX10_chance_0 : decode cX10_chance 0 = .ok (.aload_n 0, 1) := by decide +kernel
theorem dX10_chance_1 : decode cX10_chance 1 = .ok (.iload_n 1, 1) := by decide +kernel
theorem dX10_chance_2 : decode cX10_chance 2 = .ok (.invokevirtual 259, 3) := by decide +kernel
theorem dX10_chance_5 : decode cX10_chance 5 = .ok (.ifnull 21, 3) := by decide +kernel
theorem dX10_chance_26 : decode cX10_chance 26 = .ok (.iconst (-1), 1) := by decide +kernel
theorem dX10_chance_27 : decode cX10_chance 27 = .ok (.ireturn, 1) := by decide +kernel
theorem dX10_finest_0 : decode cX10_finest 0 = .ok (.iconst (-1), 1) := by decide +kernel
theorem dX10_finest_1 : decode cX10_finest 1 = .ok (.istore_n 1, 1) := by decide +kernel
theorem dX10_finest_2 : decode cX10_finest 2 = .ok (.iconst 0, 1) := by decide +kernel
theorem dX10_finest_3 : decode cX10_finest 3 = .ok (.istore_n 2, 1) := by decide +kernel
theorem dX10_finest_4 : decode cX10_finest 4 = .ok (.iconst 0, 1) := by decide +kernel
theorem dX10_finest_5 : decode cX10_finest 5 = .ok (.istore_n 3, 1) := by decide +kernel
theorem dX10_finest_6 : decode cX10_finest 6 = .ok (.iconst 0, 1) := by decide +kernel
theorem dX10_finest_7 : decode cX10_finest 7 = .ok (.istore 4, 2) := by decide +kernel
theorem dX10_finest_9 : decode cX10_finest 9 = .ok (.iload 4, 2) := by decide +kernel
theorem dX10_finest_11 : decode cX10_finest 11 = .ok (.aload_n 0, 1) := by decide +kernel
theorem dX10_finest_12 : decode cX10_finest 12 = .ok (.getfield 172, 3) := by decide +kernel
theorem dX10_finest_15 : decode cX10_finest 15 = .ok (.if_icmp .ge 86, 3) := by decide +kernel
theorem dX10_finest_101 : decode cX10_finest 101 = .ok (.iload_n 1, 1) := by decide +kernel
theorem dX10_finest_102 : decode cX10_finest 102 = .ok (.ireturn, 1) := by decide +kernel
theorem dX10_fold_0 : decode cX10_fold 0 = .ok (.iload_n 3, 1) := by decide +kernel
theorem dX10_fold_1 : decode cX10_fold 1 = .ok (.invokestatic 234, 3) := by decide +kernel
theorem dX10_fold_4 : decode cX10_fold 4 = .ok (.ifCond .eq 19, 3) := by decide +kernel
theorem dX10_fold_7 : decode cX10_fold 7 = .ok (.iload 4, 2) := by decide +kernel
theorem dX10_fold_9 : decode cX10_fold 9 = .ok (.iconst 0, 1) := by decide +kernel
theorem dX10_fold_10 : decode cX10_fold 10 = .ok (.iload_n 3, 1) := by decide +kernel
theorem dX10_fold_11 : decode cX10_fold 11 = .ok (.iconst 1, 1) := by decide +kernel
theorem dX10_fold_12 : decode cX10_fold 12 = .ok (.isub, 1) := by decide +kernel
theorem dX10_fold_13 : decode cX10_fold 13 = .ok (.invokestatic 100, 3) := by decide +kernel
theorem dX10_fold_16 : decode cX10_fold 16 = .ok (.ifCond .eq 7, 3) := by decide +kernel
theorem dX10_fold_19 : decode cX10_fold 19 = .ok (.iconst 1, 1) := by decide +kernel
theorem dX10_fold_20 : decode cX10_fold 20 = .ok (.goto 4, 3) := by decide +kernel
theorem dX10_fold_23 : decode cX10_fold 23 = .ok (.iconst 0, 1) := by decide +kernel
theorem dX10_fold_24 : decode cX10_fold 24 = .ok (.istore 6, 2) := by decide +kernel
theorem dX10_fold_26 : decode cX10_fold 26 = .ok (.aload_n 0, 1) := by decide +kernel
theorem dX10_fold_27 : decode cX10_fold 27 = .ok (.iload_n 1, 1) := by decide +kernel
theorem dX10_fold_28 : decode cX10_fold 28 = .ok (.invokevirtual 137, 3) := by decide +kernel
theorem dX10_fold_31 : decode cX10_fold 31 = .ok (.ifCond .eq 25, 3) := by decide +kernel
theorem dX10_fold_56 : decode cX10_fold 56 = .ok (.ldc2_w 408, 3) := by decide +kernel
theorem dX10_fold_59 : decode cX10_fold 59 = .ok (.lreturn, 1) := by decide +kernel
theorem dX10_found_0 : decode cX10_found 0 = .ok (.aload_n 0, 1) := by decide +kernel
theorem dX10_found_1 : decode cX10_found 1 = .ok (.iload_n 1, 1) := by decide +kernel
theorem dX10_found_2 : decode cX10_found 2 = .ok (.invokevirtual 259, 3) := by decide +kernel
theorem dX10_found_5 : decode cX10_found 5 = .ok (.astore 5, 2) := by decide +kernel
theorem dX10_found_7 : decode cX10_found 7 = .ok (.aload 5, 2) := by decide +kernel
theorem dX10_found_9 : decode cX10_found 9 = .ok (.ifnull 29, 3) := by decide +kernel
theorem dX10_found_38 : decode cX10_found 38 = .ok (.ldc2_w 262, 3) := by decide +kernel
theorem dX10_found_41 : decode cX10_found 41 = .ok (.lreturn, 1) := by decide +kernel
theorem dX10_isBeat_0 : decode cX10_isBeat 0 = .ok (.iload_n 0, 1) := by decide +kernel
theorem dX10_isBeat_1 : decode cX10_isBeat 1 = .ok (.iconst 2, 1) := by decide +kernel
theorem dX10_isBeat_2 : decode cX10_isBeat 2 = .ok (.sipush 200, 3) := by decide +kernel
theorem dX10_isBeat_5 : decode cX10_isBeat 5 = .ok (.invokestatic 100, 3) := by decide +kernel
theorem dX10_isBeat_8 : decode cX10_isBeat 8 = .ok (.ireturn, 1) := by decide +kernel
theorem dX10_isHour_0 : decode cX10_isHour 0 = .ok (.iload_n 0, 1) := by decide +kernel
theorem dX10_isHour_1 : decode cX10_isHour 1 = .ok (.iconst 0, 1) := by decide +kernel
theorem dX10_isHour_2 : decode cX10_isHour 2 = .ok (.sipush 599, 3) := by decide +kernel
theorem dX10_isHour_5 : decode cX10_isHour 5 = .ok (.invokestatic 100, 3) := by decide +kernel
theorem dX10_isHour_8 : decode cX10_isHour 8 = .ok (.ireturn, 1) := by decide +kernel
theorem dX10_isSize_0 : decode cX10_isSize 0 = .ok (.iload_n 0, 1) := by decide +kernel
theorem dX10_isSize_1 : decode cX10_isSize 1 = .ok (.iconst 1, 1) := by decide +kernel
theorem dX10_isSize_2 : decode cX10_isSize 2 = .ok (.sipush 999, 3) := by decide +kernel
theorem dX10_isSize_5 : decode cX10_isSize 5 = .ok (.invokestatic 100, 3) := by decide +kernel
theorem dX10_isSize_8 : decode cX10_isSize 8 = .ok (.ireturn, 1) := by decide +kernel
theorem dX10_isStar_0 : decode cX10_isStar 0 = .ok (.aload_n 0, 1) := by decide +kernel
theorem dX10_isStar_1 : decode cX10_isStar 1 = .ok (.getfield 10, 3) := by decide +kernel
theorem dX10_isStar_4 : decode cX10_isStar 4 = .ok (.iload_n 1, 1) := by decide +kernel
theorem dX10_isStar_5 : decode cX10_isStar 5 = .ok (.invokevirtual 108, 3) := by decide +kernel
theorem dX10_isStar_8 : decode cX10_isStar 8 = .ok (.ifnull 7, 3) := by decide +kernel
theorem dX10_isStar_15 : decode cX10_isStar 15 = .ok (.iconst 0, 1) := by decide +kernel
theorem dX10_isStar_16 : decode cX10_isStar 16 = .ok (.ireturn, 1) := by decide +kernel
theorem dX10_isWay_0 : decode cX10_isWay 0 = .ok (.iload_n 0, 1) := by decide +kernel
theorem dX10_isWay_1 : decode cX10_isWay 1 = .ok (.iconst 0, 1) := by decide +kernel
theorem dX10_isWay_2 : decode cX10_isWay 2 = .ok (.iconst 5, 1) := by decide +kernel
theorem dX10_isWay_3 : decode cX10_isWay 3 = .ok (.invokestatic 100, 3) := by decide +kernel
theorem dX10_isWay_6 : decode cX10_isWay 6 = .ok (.ireturn, 1) := by decide +kernel
theorem dX10_isWeighed_0 : decode cX10_isWeighed 0 = .ok (.aload_n 0, 1) := by decide +kernel
theorem dX10_isWeighed_1 : decode cX10_isWeighed 1 = .ok (.iload_n 1, 1) := by decide +kernel
theorem dX10_isWeighed_2 : decode cX10_isWeighed 2 = .ok (.invokevirtual 349, 3) := by decide +kernel
theorem dX10_isWeighed_5 : decode cX10_isWeighed 5 = .ok (.ifnull 19, 3) := by decide +kernel
theorem dX10_isWeighed_24 : decode cX10_isWeighed 24 = .ok (.iconst 0, 1) := by decide +kernel
theorem dX10_isWeighed_25 : decode cX10_isWeighed 25 = .ok (.ireturn, 1) := by decide +kernel
theorem dX10_isWithin_0 : decode cX10_isWithin 0 = .ok (.iload_n 0, 1) := by decide +kernel
theorem dX10_isWithin_1 : decode cX10_isWithin 1 = .ok (.iload_n 1, 1) := by decide +kernel
theorem dX10_isWithin_2 : decode cX10_isWithin 2 = .ok (.if_icmp .lt 12, 3) := by decide +kernel
theorem dX10_isWithin_5 : decode cX10_isWithin 5 = .ok (.iload_n 0, 1) := by decide +kernel
theorem dX10_isWithin_6 : decode cX10_isWithin 6 = .ok (.iload_n 2, 1) := by decide +kernel
theorem dX10_isWithin_7 : decode cX10_isWithin 7 = .ok (.if_icmp .gt 7, 3) := by decide +kernel
theorem dX10_isWithin_10 : decode cX10_isWithin 10 = .ok (.iconst 1, 1) := by decide +kernel
theorem dX10_isWithin_11 : decode cX10_isWithin 11 = .ok (.goto 4, 3) := by decide +kernel
theorem dX10_isWithin_14 : decode cX10_isWithin 14 = .ok (.iconst 0, 1) := by decide +kernel
theorem dX10_isWithin_15 : decode cX10_isWithin 15 = .ok (.ireturn, 1) := by decide +kernel
theorem dX10_lawAt_0 : decode cX10_lawAt 0 = .ok (.iload_n 1, 1) := by decide +kernel
theorem dX10_lawAt_1 : decode cX10_lawAt 1 = .ok (.iconst 0, 1) := by decide +kernel
theorem dX10_lawAt_2 : decode cX10_lawAt 2 = .ok (.aload_n 0, 1) := by decide +kernel
theorem dX10_lawAt_3 : decode cX10_lawAt 3 = .ok (.getfield 169, 3) := by decide +kernel
theorem dX10_lawAt_6 : decode cX10_lawAt 6 = .ok (.iconst 1, 1) := by decide +kernel
theorem dX10_lawAt_7 : decode cX10_lawAt 7 = .ok (.isub, 1) := by decide +kernel
theorem dX10_lawAt_8 : decode cX10_lawAt 8 = .ok (.invokestatic 100, 3) := by decide +kernel
theorem dX10_lawAt_11 : decode cX10_lawAt 11 = .ok (.ifCond .eq 18, 3) := by decide +kernel
theorem dX10_lawAt_29 : decode cX10_lawAt 29 = .ok (.aconst_null, 1) := by decide +kernel
theorem dX10_lawAt_30 : decode cX10_lawAt 30 = .ok (.areturn, 1) := by decide +kernel
theorem dX10_line_0 : decode cX10_line 0 = .ok (.iload_n 3, 1) := by decide +kernel
theorem dX10_line_1 : decode cX10_line 1 = .ok (.iconst 0, 1) := by decide +kernel
theorem dX10_line_2 : decode cX10_line 2 = .ok (.sipush 999, 3) := by decide +kernel
theorem dX10_line_5 : decode cX10_line 5 = .ok (.invokestatic 100, 3) := by decide +kernel
theorem dX10_line_8 : decode cX10_line 8 = .ok (.ifCond .eq 19, 3) := by decide +kernel
theorem dX10_line_11 : decode cX10_line 11 = .ok (.iload 4, 2) := by decide +kernel
theorem dX10_line_13 : decode cX10_line 13 = .ok (.iconst 0, 1) := by decide +kernel
theorem dX10_line_14 : decode cX10_line 14 = .ok (.sipush 999, 3) := by decide +kernel
theorem dX10_line_17 : decode cX10_line 17 = .ok (.invokestatic 100, 3) := by decide +kernel
theorem dX10_line_20 : decode cX10_line 20 = .ok (.ifCond .eq 7, 3) := by decide +kernel
theorem dX10_line_23 : decode cX10_line 23 = .ok (.iconst 1, 1) := by decide +kernel
theorem dX10_line_24 : decode cX10_line 24 = .ok (.goto 4, 3) := by decide +kernel
theorem dX10_line_27 : decode cX10_line 27 = .ok (.iconst 0, 1) := by decide +kernel
theorem dX10_line_28 : decode cX10_line 28 = .ok (.istore 6, 2) := by decide +kernel
theorem dX10_line_30 : decode cX10_line 30 = .ok (.aload_n 0, 1) := by decide +kernel
theorem dX10_line_31 : decode cX10_line 31 = .ok (.iload_n 1, 1) := by decide +kernel
theorem dX10_line_32 : decode cX10_line 32 = .ok (.invokevirtual 259, 3) := by decide +kernel
theorem dX10_line_35 : decode cX10_line 35 = .ok (.ifnull 29, 3) := by decide +kernel
theorem dX10_line_64 : decode cX10_line 64 = .ok (.iconst (-1), 1) := by decide +kernel
theorem dX10_line_65 : decode cX10_line 65 = .ok (.ireturn, 1) := by decide +kernel
theorem dX10_make_0 : decode cX10_make 0 = .ok (.aload_n 0, 1) := by decide +kernel
theorem dX10_make_1 : decode cX10_make 1 = .ok (.iload_n 1, 1) := by decide +kernel
theorem dX10_make_2 : decode cX10_make 2 = .ok (.invokevirtual 194, 3) := by decide +kernel
theorem dX10_make_5 : decode cX10_make 5 = .ok (.astore 6, 2) := by decide +kernel
theorem dX10_make_7 : decode cX10_make 7 = .ok (.aload_n 0, 1) := by decide +kernel
theorem dX10_make_8 : decode cX10_make 8 = .ok (.getfield 10, 3) := by decide +kernel
theorem dX10_make_11 : decode cX10_make 11 = .ok (.iload_n 2, 1) := by decide +kernel
theorem dX10_make_12 : decode cX10_make 12 = .ok (.invokevirtual 108, 3) := by decide +kernel
theorem dX10_make_15 : decode cX10_make 15 = .ok (.astore 7, 2) := by decide +kernel
theorem dX10_make_17 : decode cX10_make 17 = .ok (.aload 6, 2) := by decide +kernel
theorem dX10_make_19 : decode cX10_make 19 = .ok (.ifnull 35, 3) := by decide +kernel
theorem dX10_make_54 : decode cX10_make 54 = .ok (.iconst (-1), 1) := by decide +kernel
theorem dX10_make_55 : decode cX10_make 55 = .ok (.ireturn, 1) := by decide +kernel
theorem dX10_many_0 : decode cX10_many 0 = .ok (.aload_n 0, 1) := by decide +kernel
theorem dX10_many_1 : decode cX10_many 1 = .ok (.iload_n 1, 1) := by decide +kernel
theorem dX10_many_2 : decode cX10_many 2 = .ok (.invokevirtual 259, 3) := by decide +kernel
theorem dX10_many_5 : decode cX10_many 5 = .ok (.astore 6, 2) := by decide +kernel
theorem dX10_many_7 : decode cX10_many 7 = .ok (.iload_n 3, 1) := by decide +kernel
theorem dX10_many_8 : decode cX10_many 8 = .ok (.ifCond .lt 23, 3) := by decide +kernel
theorem dX10_many_11 : decode cX10_many 11 = .ok (.iload_n 3, 1) := by decide +kernel
theorem dX10_many_12 : decode cX10_many 12 = .ok (.iload 4, 2) := by decide +kernel
theorem dX10_many_14 : decode cX10_many 14 = .ok (.if_icmp .gt 17, 3) := by decide +kernel
theorem dX10_many_17 : decode cX10_many 17 = .ok (.iload 5, 2) := by decide +kernel
theorem dX10_many_19 : decode cX10_many 19 = .ok (.iconst 0, 1) := by decide +kernel
theorem dX10_many_20 : decode cX10_many 20 = .ok (.iconst 1, 1) := by decide +kernel
theorem dX10_many_21 : decode cX10_many 21 = .ok (.invokestatic 100, 3) := by decide +kernel
theorem dX10_many_24 : decode cX10_many 24 = .ok (.ifCond .eq 7, 3) := by decide +kernel
theorem dX10_many_27 : decode cX10_many 27 = .ok (.iconst 1, 1) := by decide +kernel
theorem dX10_many_28 : decode cX10_many 28 = .ok (.goto 4, 3) := by decide +kernel
theorem dX10_many_31 : decode cX10_many 31 = .ok (.iconst 0, 1) := by decide +kernel
theorem dX10_many_32 : decode cX10_many 32 = .ok (.istore 7, 2) := by decide +kernel
theorem dX10_many_34 : decode cX10_many 34 = .ok (.aload 6, 2) := by decide +kernel
theorem dX10_many_36 : decode cX10_many 36 = .ok (.ifnull 16, 3) := by decide +kernel
theorem dX10_many_52 : decode cX10_many 52 = .ok (.iconst (-1), 1) := by decide +kernel
theorem dX10_many_53 : decode cX10_many 53 = .ok (.ireturn, 1) := by decide +kernel
theorem dX10_next_0 : decode cX10_next 0 = .ok (.aload_n 0, 1) := by decide +kernel
theorem dX10_next_1 : decode cX10_next 1 = .ok (.iload_n 1, 1) := by decide +kernel
theorem dX10_next_2 : decode cX10_next 2 = .ok (.invokevirtual 259, 3) := by decide +kernel
theorem dX10_next_5 : decode cX10_next 5 = .ok (.ifnull 22, 3) := by decide +kernel
theorem dX10_next_27 : decode cX10_next 27 = .ok (.iconst (-1), 1) := by decide +kernel
theorem dX10_next_28 : decode cX10_next 28 = .ok (.ireturn, 1) := by decide +kernel
theorem dX10_odds_0 : decode cX10_odds 0 = .ok (.iload 4, 2) := by decide +kernel
theorem dX10_odds_2 : decode cX10_odds 2 = .ok (.iconst 0, 1) := by decide +kernel
theorem dX10_odds_3 : decode cX10_odds 3 = .ok (.iconst 4, 1) := by decide +kernel
theorem dX10_odds_4 : decode cX10_odds 4 = .ok (.invokestatic 100, 3) := by decide +kernel
theorem dX10_odds_7 : decode cX10_odds 7 = .ok (.ifCond .eq 17, 3) := by decide +kernel
theorem dX10_odds_10 : decode cX10_odds 10 = .ok (.iload 5, 2) := by decide +kernel
theorem dX10_odds_12 : decode cX10_odds 12 = .ok (.iconst 0, 1) := by decide +kernel
theorem dX10_odds_13 : decode cX10_odds 13 = .ok (.iconst 1, 1) := by decide +kernel
theorem dX10_odds_14 : decode cX10_odds 14 = .ok (.invokestatic 100, 3) := by decide +kernel
theorem dX10_odds_17 : decode cX10_odds 17 = .ok (.ifCond .eq 7, 3) := by decide +kernel
theorem dX10_odds_20 : decode cX10_odds 20 = .ok (.iconst 1, 1) := by decide +kernel
theorem dX10_odds_21 : decode cX10_odds 21 = .ok (.goto 4, 3) := by decide +kernel
theorem dX10_odds_24 : decode cX10_odds 24 = .ok (.iconst 0, 1) := by decide +kernel
theorem dX10_odds_25 : decode cX10_odds 25 = .ok (.istore 6, 2) := by decide +kernel
theorem dX10_odds_27 : decode cX10_odds 27 = .ok (.iload 6, 2) := by decide +kernel
theorem dX10_odds_29 : decode cX10_odds 29 = .ok (.ifCond .eq 13, 3) := by decide +kernel
theorem dX10_odds_32 : decode cX10_odds 32 = .ok (.aload_n 0, 1) := by decide +kernel
theorem dX10_odds_33 : decode cX10_odds 33 = .ok (.iload_n 1, 1) := by decide +kernel
theorem dX10_odds_34 : decode cX10_odds 34 = .ok (.iload_n 2, 1) := by decide +kernel
theorem dX10_odds_35 : decode cX10_odds 35 = .ok (.iload_n 3, 1) := by decide +kernel
theorem dX10_odds_36 : decode cX10_odds 36 = .ok (.invokevirtual 343, 3) := by decide +kernel
theorem dX10_odds_39 : decode cX10_odds 39 = .ok (.ifCond .ne 5, 3) := by decide +kernel
theorem dX10_odds_42 : decode cX10_odds 42 = .ok (.iconst (-1), 1) := by decide +kernel
theorem dX10_odds_43 : decode cX10_odds 43 = .ok (.ireturn, 1) := by decide +kernel
theorem dX10_other_0 : decode cX10_other 0 = .ok (.aload_n 0, 1) := by decide +kernel
theorem dX10_other_1 : decode cX10_other 1 = .ok (.iload_n 1, 1) := by decide +kernel
theorem dX10_other_2 : decode cX10_other 2 = .ok (.invokevirtual 259, 3) := by decide +kernel
theorem dX10_other_5 : decode cX10_other 5 = .ok (.ifnull 20, 3) := by decide +kernel
theorem dX10_other_25 : decode cX10_other 25 = .ok (.bipush (-3), 2) := by decide +kernel
theorem dX10_other_27 : decode cX10_other 27 = .ok (.ireturn, 1) := by decide +kernel
theorem dX10_radius_0 : decode cX10_radius 0 = .ok (.aload_n 0, 1) := by decide +kernel
theorem dX10_radius_1 : decode cX10_radius 1 = .ok (.iload_n 1, 1) := by decide +kernel
theorem dX10_radius_2 : decode cX10_radius 2 = .ok (.invokevirtual 259, 3) := by decide +kernel
theorem dX10_radius_5 : decode cX10_radius 5 = .ok (.ifnull 11, 3) := by decide +kernel
theorem dX10_radius_16 : decode cX10_radius 16 = .ok (.iconst (-1), 1) := by decide +kernel
theorem dX10_radius_17 : decode cX10_radius 17 = .ok (.ireturn, 1) := by decide +kernel
theorem dX10_resize_0 : decode cX10_resize 0 = .ok (.aload_n 0, 1) := by decide +kernel
theorem dX10_resize_1 : decode cX10_resize 1 = .ok (.getfield 10, 3) := by decide +kernel
theorem dX10_resize_4 : decode cX10_resize 4 = .ok (.iload_n 1, 1) := by decide +kernel
theorem dX10_resize_5 : decode cX10_resize 5 = .ok (.invokevirtual 108, 3) := by decide +kernel
theorem dX10_resize_8 : decode cX10_resize 8 = .ok (.astore_n 3, 1) := by decide +kernel
theorem dX10_resize_9 : decode cX10_resize 9 = .ok (.aload_n 3, 1) := by decide +kernel
theorem dX10_resize_10 : decode cX10_resize 10 = .ok (.ifnull 10, 3) := by decide +kernel
theorem dX10_resize_20 : decode cX10_resize 20 = .ok (.iconst (-1), 1) := by decide +kernel
theorem dX10_resize_21 : decode cX10_resize 21 = .ok (.ireturn, 1) := by decide +kernel
theorem dX10_room_0 : decode cX10_room 0 = .ok (.aload_n 0, 1) := by decide +kernel
theorem dX10_room_1 : decode cX10_room 1 = .ok (.iload_n 1, 1) := by decide +kernel
theorem dX10_room_2 : decode cX10_room 2 = .ok (.invokevirtual 259, 3) := by decide +kernel
theorem dX10_room_5 : decode cX10_room 5 = .ok (.astore_n 3, 1) := by decide +kernel
theorem dX10_room_6 : decode cX10_room 6 = .ok (.aload_n 0, 1) := by decide +kernel
theorem dX10_room_7 : decode cX10_room 7 = .ok (.getfield 10, 3) := by decide +kernel
theorem dX10_room_10 : decode cX10_room 10 = .ok (.iload_n 2, 1) := by decide +kernel
theorem dX10_room_11 : decode cX10_room 11 = .ok (.invokevirtual 280, 3) := by decide +kernel
theorem dX10_room_14 : decode cX10_room 14 = .ok (.astore 4, 2) := by decide +kernel
theorem dX10_room_16 : decode cX10_room 16 = .ok (.aload_n 3, 1) := by decide +kernel
theorem dX10_room_17 : decode cX10_room 17 = .ok (.ifnull 8, 3) := by decide +kernel
theorem dX10_room_25 : decode cX10_room 25 = .ok (.iconst (-1), 1) := by decide +kernel
theorem dX10_room_26 : decode cX10_room 26 = .ok (.ireturn, 1) := by decide +kernel
theorem dX10_row_0 : decode cX10_row 0 = .ok (.aload_n 0, 1) := by decide +kernel
theorem dX10_row_1 : decode cX10_row 1 = .ok (.getfield 10, 3) := by decide +kernel
theorem dX10_row_4 : decode cX10_row 4 = .ok (.iload_n 1, 1) := by decide +kernel
theorem dX10_row_5 : decode cX10_row 5 = .ok (.invokevirtual 108, 3) := by decide +kernel
theorem dX10_row_8 : decode cX10_row 8 = .ok (.astore 4, 2) := by decide +kernel
theorem dX10_row_10 : decode cX10_row 10 = .ok (.iload_n 3, 1) := by decide +kernel
theorem dX10_row_11 : decode cX10_row 11 = .ok (.ldc 112, 2) := by decide +kernel
theorem dX10_row_13 : decode cX10_row 13 = .ok (.if_icmp .eq 16, 3) := by decide +kernel
theorem dX10_row_16 : decode cX10_row 16 = .ok (.iload_n 3, 1) := by decide +kernel
theorem dX10_row_17 : decode cX10_row 17 = .ok (.sipush (-30000), 3) := by decide +kernel
theorem dX10_row_20 : decode cX10_row 20 = .ok (.sipush 30000, 3) := by decide +kernel
theorem dX10_row_23 : decode cX10_row 23 = .ok (.invokestatic 100, 3) := by decide +kernel
theorem dX10_row_26 : decode cX10_row 26 = .ok (.ifCond .eq 7, 3) := by decide +kernel
theorem dX10_row_29 : decode cX10_row 29 = .ok (.iconst 1, 1) := by decide +kernel
theorem dX10_row_30 : decode cX10_row 30 = .ok (.goto 4, 3) := by decide +kernel
theorem dX10_row_33 : decode cX10_row 33 = .ok (.iconst 0, 1) := by decide +kernel
theorem dX10_row_34 : decode cX10_row 34 = .ok (.istore 5, 2) := by decide +kernel
theorem dX10_row_36 : decode cX10_row 36 = .ok (.aload 4, 2) := by decide +kernel
theorem dX10_row_38 : decode cX10_row 38 = .ok (.ifnull 15, 3) := by decide +kernel
theorem dX10_row_53 : decode cX10_row 53 = .ok (.ldc 116, 2) := by decide +kernel
theorem dX10_row_55 : decode cX10_row 55 = .ok (.ireturn, 1) := by decide +kernel
theorem dX10_searchAt_0 : decode cX10_searchAt 0 = .ok (.iload_n 1, 1) := by decide +kernel
theorem dX10_searchAt_1 : decode cX10_searchAt 1 = .ok (.iconst 0, 1) := by decide +kernel
theorem dX10_searchAt_2 : decode cX10_searchAt 2 = .ok (.aload_n 0, 1) := by decide +kernel
theorem dX10_searchAt_3 : decode cX10_searchAt 3 = .ok (.getfield 172, 3) := by decide +kernel
theorem dX10_searchAt_6 : decode cX10_searchAt 6 = .ok (.iconst 1, 1) := by decide +kernel
theorem dX10_searchAt_7 : decode cX10_searchAt 7 = .ok (.isub, 1) := by decide +kernel
theorem dX10_searchAt_8 : decode cX10_searchAt 8 = .ok (.invokestatic 100, 3) := by decide +kernel
theorem dX10_searchAt_11 : decode cX10_searchAt 11 = .ok (.ifCond .eq 18, 3) := by decide +kernel
theorem dX10_searchAt_29 : decode cX10_searchAt 29 = .ok (.aconst_null, 1) := by decide +kernel
theorem dX10_searchAt_30 : decode cX10_searchAt 30 = .ok (.areturn, 1) := by decide +kernel
theorem dX10_second_0 : decode cX10_second 0 = .ok (.aload_n 0, 1) := by decide +kernel
theorem dX10_second_1 : decode cX10_second 1 = .ok (.iload_n 1, 1) := by decide +kernel
theorem dX10_second_2 : decode cX10_second 2 = .ok (.invokevirtual 259, 3) := by decide +kernel
theorem dX10_second_5 : decode cX10_second 5 = .ok (.astore 4, 2) := by decide +kernel
theorem dX10_second_7 : decode cX10_second 7 = .ok (.aload 4, 2) := by decide +kernel
theorem dX10_second_9 : decode cX10_second 9 = .ok (.ifnull 21, 3) := by decide +kernel
theorem dX10_second_30 : decode cX10_second 30 = .ok (.ldc2_w 262, 3) := by decide +kernel
theorem dX10_second_33 : decode cX10_second 33 = .ok (.lreturn, 1) := by decide +kernel
theorem dX10_share_0 : decode cX10_share 0 = .ok (.aload_n 0, 1) := by decide +kernel
theorem dX10_share_1 : decode cX10_share 1 = .ok (.iload_n 1, 1) := by decide +kernel
theorem dX10_share_2 : decode cX10_share 2 = .ok (.invokevirtual 259, 3) := by decide +kernel
theorem dX10_share_5 : decode cX10_share 5 = .ok (.astore_n 3, 1) := by decide +kernel
theorem dX10_share_6 : decode cX10_share 6 = .ok (.aload_n 3, 1) := by decide +kernel
theorem dX10_share_7 : decode cX10_share 7 = .ok (.ifnull 12, 3) := by decide +kernel
theorem dX10_share_19 : decode cX10_share 19 = .ok (.iconst (-1), 1) := by decide +kernel
theorem dX10_share_20 : decode cX10_share 20 = .ok (.ireturn, 1) := by decide +kernel
theorem dX10_shift_0 : decode cX10_shift 0 = .ok (.aload_n 0, 1) := by decide +kernel
theorem dX10_shift_1 : decode cX10_shift 1 = .ok (.iload_n 1, 1) := by decide +kernel
theorem dX10_shift_2 : decode cX10_shift 2 = .ok (.invokevirtual 259, 3) := by decide +kernel
theorem dX10_shift_5 : decode cX10_shift 5 = .ok (.ifnull 22, 3) := by decide +kernel
theorem dX10_shift_27 : decode cX10_shift 27 = .ok (.sipush (-200), 3) := by decide +kernel
theorem dX10_shift_30 : decode cX10_shift 30 = .ok (.ireturn, 1) := by decide +kernel
theorem dX10_sign_0 : decode cX10_sign 0 = .ok (.aload_n 0, 1) := by decide +kernel
theorem dX10_sign_1 : decode cX10_sign 1 = .ok (.iload_n 1, 1) := by decide +kernel
theorem dX10_sign_2 : decode cX10_sign 2 = .ok (.invokevirtual 259, 3) := by decide +kernel
theorem dX10_sign_5 : decode cX10_sign 5 = .ok (.ifnull 20, 3) := by decide +kernel
theorem dX10_sign_25 : decode cX10_sign 25 = .ok (.ldc 116, 2) := by decide +kernel
theorem dX10_sign_27 : decode cX10_sign 27 = .ok (.ireturn, 1) := by decide +kernel
theorem dX10_sorted_0 : decode cX10_sorted 0 = .ok (.aload_n 0, 1) := by decide +kernel
theorem dX10_sorted_1 : decode cX10_sorted 1 = .ok (.iload_n 1, 1) := by decide +kernel
theorem dX10_sorted_2 : decode cX10_sorted 2 = .ok (.iload_n 2, 1) := by decide +kernel
theorem dX10_sorted_3 : decode cX10_sorted 3 = .ok (.iload_n 3, 1) := by decide +kernel
theorem dX10_sorted_4 : decode cX10_sorted 4 = .ok (.invokevirtual 343, 3) := by decide +kernel
theorem dX10_sorted_7 : decode cX10_sorted 7 = .ok (.ifCond .ne 5, 3) := by decide +kernel
theorem dX10_sorted_10 : decode cX10_sorted 10 = .ok (.iconst (-1), 1) := by decide +kernel
theorem dX10_sorted_11 : decode cX10_sorted 11 = .ok (.ireturn, 1) := by decide +kernel
theorem dX10_sorterAt_0 : decode cX10_sorterAt 0 = .ok (.iload_n 1, 1) := by decide +kernel
theorem dX10_sorterAt_1 : decode cX10_sorterAt 1 = .ok (.iconst 0, 1) := by decide +kernel
theorem dX10_sorterAt_2 : decode cX10_sorterAt 2 = .ok (.aload_n 0, 1) := by decide +kernel
theorem dX10_sorterAt_3 : decode cX10_sorterAt 3 = .ok (.getfield 175, 3) := by decide +kernel
theorem dX10_sorterAt_6 : decode cX10_sorterAt 6 = .ok (.iconst 1, 1) := by decide +kernel
theorem dX10_sorterAt_7 : decode cX10_sorterAt 7 = .ok (.isub, 1) := by decide +kernel
theorem dX10_sorterAt_8 : decode cX10_sorterAt 8 = .ok (.invokestatic 100, 3) := by decide +kernel
theorem dX10_sorterAt_11 : decode cX10_sorterAt 11 = .ok (.ifCond .eq 18, 3) := by decide +kernel
theorem dX10_sorterAt_29 : decode cX10_sorterAt 29 = .ok (.aconst_null, 1) := by decide +kernel
theorem dX10_sorterAt_30 : decode cX10_sorterAt 30 = .ok (.areturn, 1) := by decide +kernel
theorem dX10_spread_0 : decode cX10_spread 0 = .ok (.aload_n 0, 1) := by decide +kernel
theorem dX10_spread_1 : decode cX10_spread 1 = .ok (.iload_n 1, 1) := by decide +kernel
theorem dX10_spread_2 : decode cX10_spread 2 = .ok (.invokevirtual 137, 3) := by decide +kernel
theorem dX10_spread_5 : decode cX10_spread 5 = .ok (.ifCond .ne 7, 3) := by decide +kernel
theorem dX10_spread_8 : decode cX10_spread 8 = .ok (.ldc2_w 274, 3) := by decide +kernel
theorem dX10_spread_11 : decode cX10_spread 11 = .ok (.lreturn, 1) := by decide +kernel
theorem dX10_tried_0 : decode cX10_tried 0 = .ok (.iload_n 3, 1) := by decide +kernel
theorem dX10_tried_1 : decode cX10_tried 1 = .ok (.invokestatic 234, 3) := by decide +kernel
theorem dX10_tried_4 : decode cX10_tried 4 = .ok (.ifCond .eq 36, 3) := by decide +kernel
theorem dX10_tried_7 : decode cX10_tried 7 = .ok (.iload 4, 2) := by decide +kernel
theorem dX10_tried_9 : decode cX10_tried 9 = .ok (.iconst 1, 1) := by decide +kernel
theorem dX10_tried_10 : decode cX10_tried 10 = .ok (.bipush 10, 2) := by decide +kernel
theorem dX10_tried_12 : decode cX10_tried 12 = .ok (.invokestatic 100, 3) := by decide +kernel
theorem dX10_tried_15 : decode cX10_tried 15 = .ok (.ifCond .eq 25, 3) := by decide +kernel
theorem dX10_tried_18 : decode cX10_tried 18 = .ok (.iload 4, 2) := by decide +kernel
theorem dX10_tried_20 : decode cX10_tried 20 = .ok (.iload_n 3, 1) := by decide +kernel
theorem dX10_tried_21 : decode cX10_tried 21 = .ok (.if_icmp .ge 19, 3) := by decide +kernel
theorem dX10_tried_24 : decode cX10_tried 24 = .ok (.iload 5, 2) := by decide +kernel
theorem dX10_tried_26 : decode cX10_tried 26 = .ok (.iconst 0, 1) := by decide +kernel
theorem dX10_tried_27 : decode cX10_tried 27 = .ok (.iload_n 3, 1) := by decide +kernel
theorem dX10_tried_28 : decode cX10_tried 28 = .ok (.iconst 1, 1) := by decide +kernel
theorem dX10_tried_29 : decode cX10_tried 29 = .ok (.isub, 1) := by decide +kernel
theorem dX10_tried_30 : decode cX10_tried 30 = .ok (.invokestatic 100, 3) := by decide +kernel
theorem dX10_tried_33 : decode cX10_tried 33 = .ok (.ifCond .eq 7, 3) := by decide +kernel
theorem dX10_tried_36 : decode cX10_tried 36 = .ok (.iconst 1, 1) := by decide +kernel
theorem dX10_tried_37 : decode cX10_tried 37 = .ok (.goto 4, 3) := by decide +kernel
theorem dX10_tried_40 : decode cX10_tried 40 = .ok (.iconst 0, 1) := by decide +kernel
theorem dX10_tried_41 : decode cX10_tried 41 = .ok (.istore 7, 2) := by decide +kernel
theorem dX10_tried_43 : decode cX10_tried 43 = .ok (.aload_n 0, 1) := by decide +kernel
theorem dX10_tried_44 : decode cX10_tried 44 = .ok (.iload_n 1, 1) := by decide +kernel
theorem dX10_tried_45 : decode cX10_tried 45 = .ok (.invokevirtual 137, 3) := by decide +kernel
theorem dX10_tried_48 : decode cX10_tried 48 = .ok (.ifCond .eq 25, 3) := by decide +kernel
theorem dX10_tried_73 : decode cX10_tried 73 = .ok (.ldc2_w 237, 3) := by decide +kernel
theorem dX10_tried_76 : decode cX10_tried 76 = .ok (.lreturn, 1) := by decide +kernel
theorem dX10_truly_0 : decode cX10_truly 0 = .ok (.aload_n 0, 1) := by decide +kernel
theorem dX10_truly_1 : decode cX10_truly 1 = .ok (.iload_n 1, 1) := by decide +kernel
theorem dX10_truly_2 : decode cX10_truly 2 = .ok (.invokevirtual 259, 3) := by decide +kernel
theorem dX10_truly_5 : decode cX10_truly 5 = .ok (.astore_n 3, 1) := by decide +kernel
theorem dX10_truly_6 : decode cX10_truly 6 = .ok (.aload_n 3, 1) := by decide +kernel
theorem dX10_truly_7 : decode cX10_truly 7 = .ok (.ifnull 11, 3) := by decide +kernel
theorem dX10_truly_18 : decode cX10_truly 18 = .ok (.ldc2_w 274, 3) := by decide +kernel
theorem dX10_truly_21 : decode cX10_truly 21 = .ok (.lreturn, 1) := by decide +kernel
theorem dX10_weight_0 : decode cX10_weight 0 = .ok (.iload 4, 2) := by decide +kernel
theorem dX10_weight_2 : decode cX10_weight 2 = .ok (.iconst 0, 1) := by decide +kernel
end
section
theorem dX10_weight_3 : decode cX10_weight 3 = .ok (.iconst 4, 1) := by decide +kernel
theorem dX10_weight_4 : decode cX10_weight 4 = .ok (.invokestatic 100, 3) := by decide +kernel
theorem dX10_weight_7 : decode cX10_weight 7 = .ok (.ifCond .eq 13, 3) := by decide +kernel
theorem dX10_weight_10 : decode cX10_weight 10 = .ok (.aload_n 0, 1) := by decide +kernel
theorem dX10_weight_11 : decode cX10_weight 11 = .ok (.iload_n 1, 1) := by decide +kernel
theorem dX10_weight_12 : decode cX10_weight 12 = .ok (.iload_n 2, 1) := by decide +kernel
theorem dX10_weight_13 : decode cX10_weight 13 = .ok (.iload_n 3, 1) := by decide +kernel
theorem dX10_weight_14 : decode cX10_weight 14 = .ok (.invokevirtual 343, 3) := by decide +kernel
theorem dX10_weight_17 : decode cX10_weight 17 = .ok (.ifCond .ne 5, 3) := by decide +kernel
theorem dX10_weight_20 : decode cX10_weight 20 = .ok (.iconst (-1), 1) := by decide +kernel
theorem dX10_weight_21 : decode cX10_weight 21 = .ok (.ireturn, 1) := by decide +kernel
theorem dX10_world_0 : decode cX10_world 0 = .ok (.iload_n 2, 1) := by decide +kernel
theorem dX10_world_1 : decode cX10_world 1 = .ok (.iconst 2, 1) := by decide +kernel
theorem dX10_world_2 : decode cX10_world 2 = .ok (.sipush 599, 3) := by decide +kernel
theorem dX10_world_5 : decode cX10_world 5 = .ok (.invokestatic 100, 3) := by decide +kernel
theorem dX10_world_8 : decode cX10_world 8 = .ok (.ifCond .eq 14, 3) := by decide +kernel
theorem dX10_world_11 : decode cX10_world 11 = .ok (.iload_n 3, 1) := by decide +kernel
theorem dX10_world_12 : decode cX10_world 12 = .ok (.invokestatic 113, 3) := by decide +kernel
theorem dX10_world_15 : decode cX10_world 15 = .ok (.ifCond .eq 7, 3) := by decide +kernel
theorem dX10_world_18 : decode cX10_world 18 = .ok (.iconst 1, 1) := by decide +kernel
theorem dX10_world_19 : decode cX10_world 19 = .ok (.goto 4, 3) := by decide +kernel
theorem dX10_world_22 : decode cX10_world 22 = .ok (.iconst 0, 1) := by decide +kernel
theorem dX10_world_23 : decode cX10_world 23 = .ok (.istore 7, 2) := by decide +kernel
theorem dX10_world_25 : decode cX10_world 25 = .ok (.iload 4, 2) := by decide +kernel
theorem dX10_world_27 : decode cX10_world 27 = .ok (.iconst 1, 1) := by decide +kernel
theorem dX10_world_28 : decode cX10_world 28 = .ok (.bipush 30, 2) := by decide +kernel
theorem dX10_world_30 : decode cX10_world 30 = .ok (.invokestatic 100, 3) := by decide +kernel
theorem dX10_world_33 : decode cX10_world 33 = .ok (.ifCond .eq 25, 3) := by decide +kernel
theorem dX10_world_36 : decode cX10_world 36 = .ok (.iload 4, 2) := by decide +kernel
theorem dX10_world_38 : decode cX10_world 38 = .ok (.iload_n 2, 1) := by decide +kernel
theorem dX10_world_39 : decode cX10_world 39 = .ok (.if_icmp .ge 19, 3) := by decide +kernel
theorem dX10_world_42 : decode cX10_world 42 = .ok (.iload 5, 2) := by decide +kernel
theorem dX10_world_44 : decode cX10_world 44 = .ok (.iconst 1, 1) := by decide +kernel
theorem dX10_world_45 : decode cX10_world 45 = .ok (.sipush 30000, 3) := by decide +kernel
theorem dX10_world_48 : decode cX10_world 48 = .ok (.invokestatic 100, 3) := by decide +kernel
theorem dX10_world_51 : decode cX10_world 51 = .ok (.ifCond .eq 7, 3) := by decide +kernel
theorem dX10_world_54 : decode cX10_world 54 = .ok (.iconst 1, 1) := by decide +kernel
theorem dX10_world_55 : decode cX10_world 55 = .ok (.goto 4, 3) := by decide +kernel
theorem dX10_world_58 : decode cX10_world 58 = .ok (.iconst 0, 1) := by decide +kernel
theorem dX10_world_59 : decode cX10_world 59 = .ok (.istore 8, 2) := by decide +kernel
theorem dX10_world_61 : decode cX10_world 61 = .ok (.aload_n 0, 1) := by decide +kernel
theorem dX10_world_62 : decode cX10_world 62 = .ok (.iload_n 1, 1) := by decide +kernel
theorem dX10_world_63 : decode cX10_world 63 = .ok (.invokevirtual 137, 3) := by decide +kernel
theorem dX10_world_66 : decode cX10_world 66 = .ok (.ifCond .eq 25, 3) := by decide +kernel
theorem dX10_world_91 : decode cX10_world 91 = .ok (.iconst (-1), 1) := by decide +kernel
theorem dX10_world_92 : decode cX10_world 92 = .ok (.ireturn, 1) := by decide +kernel
theorem dX11_alias_0 : decode cX11_alias 0 = .ok (.aload_n 0, 1) := by decide +kernel
theorem dX11_alias_1 : decode cX11_alias 1 = .ok (.iconst 1, 1) := by decide +kernel
theorem dX11_alias_2 : decode cX11_alias 2 = .ok (.iload_n 1, 1) := by decide +kernel
theorem dX11_alias_3 : decode cX11_alias 3 = .ok (.invokevirtual 366, 3) := by decide +kernel
theorem dX11_alias_6 : decode cX11_alias 6 = .ok (.ifCond .eq 23, 3) := by decide +kernel
theorem dX11_alias_29 : decode cX11_alias 29 = .ok (.ldc2_w 404, 3) := by decide +kernel
theorem dX11_alias_32 : decode cX11_alias 32 = .ok (.lreturn, 1) := by decide +kernel
theorem dX11_at_0 : decode cX11_at 0 = .ok (.aload_n 0, 1) := by decide +kernel
theorem dX11_at_1 : decode cX11_at 1 = .ok (.iload_n 1, 1) := by decide +kernel
theorem dX11_at_2 : decode cX11_at 2 = .ok (.invokevirtual 108, 3) := by decide +kernel
theorem dX11_at_5 : decode cX11_at 5 = .ok (.ifCond .eq 22, 3) := by decide +kernel
theorem dX11_at_27 : decode cX11_at 27 = .ok (.ldc 119, 2) := by decide +kernel
theorem dX11_at_29 : decode cX11_at 29 = .ok (.ireturn, 1) := by decide +kernel
theorem dX11_back_0 : decode cX11_back 0 = .ok (.iload_n 1, 1) := by decide +kernel
theorem dX11_back_1 : decode cX11_back 1 = .ok (.i2l, 1) := by decide +kernel
theorem dX11_back_2 : decode cX11_back 2 = .ok (.lconst 0, 1) := by decide +kernel
theorem dX11_back_3 : decode cX11_back 3 = .ok (.ldc2_w 573, 3) := by decide +kernel
theorem dX11_back_6 : decode cX11_back 6 = .ok (.invokestatic 99, 3) := by decide +kernel
theorem dX11_back_9 : decode cX11_back 9 = .ok (.ifCond .eq 12, 3) := by decide +kernel
theorem dX11_back_12 : decode cX11_back 12 = .ok (.aload_n 0, 1) := by decide +kernel
theorem dX11_back_13 : decode cX11_back 13 = .ok (.getfield 93, 3) := by decide +kernel
theorem dX11_back_16 : decode cX11_back 16 = .ok (.iload_n 1, 1) := by decide +kernel
theorem dX11_back_17 : decode cX11_back 17 = .ok (.baload, 1) := by decide +kernel
theorem dX11_back_18 : decode cX11_back 18 = .ok (.ifCond .ne 5, 3) := by decide +kernel
theorem dX11_back_21 : decode cX11_back 21 = .ok (.iconst (-1), 1) := by decide +kernel
theorem dX11_back_22 : decode cX11_back 22 = .ok (.ireturn, 1) := by decide +kernel
theorem dX11_bound_0 : decode cX11_bound 0 = .ok (.aload_n 0, 1) := by decide +kernel
theorem dX11_bound_1 : decode cX11_bound 1 = .ok (.iconst 1, 1) := by decide +kernel
theorem dX11_bound_2 : decode cX11_bound 2 = .ok (.iload_n 1, 1) := by decide +kernel
theorem dX11_bound_3 : decode cX11_bound 3 = .ok (.invokevirtual 366, 3) := by decide +kernel
theorem dX11_bound_6 : decode cX11_bound 6 = .ok (.ifCond .eq 15, 3) := by decide +kernel
theorem dX11_bound_21 : decode cX11_bound 21 = .ok (.iconst (-1), 1) := by decide +kernel
theorem dX11_bound_22 : decode cX11_bound 22 = .ok (.ireturn, 1) := by decide +kernel
theorem dX11_canWeigh_0 : decode cX11_canWeigh 0 = .ok (.aload_n 0, 1) := by decide +kernel
theorem dX11_canWeigh_1 : decode cX11_canWeigh 1 = .ok (.iconst 2, 1) := by decide +kernel
theorem dX11_canWeigh_2 : decode cX11_canWeigh 2 = .ok (.iload_n 1, 1) := by decide +kernel
theorem dX11_canWeigh_3 : decode cX11_canWeigh 3 = .ok (.invokevirtual 366, 3) := by decide +kernel
theorem dX11_canWeigh_6 : decode cX11_canWeigh 6 = .ok (.ifCond .eq 34, 3) := by decide +kernel
theorem dX11_canWeigh_40 : decode cX11_canWeigh 40 = .ok (.iconst 0, 1) := by decide +kernel
theorem dX11_canWeigh_41 : decode cX11_canWeigh 41 = .ok (.ireturn, 1) := by decide +kernel
theorem dX11_candidate_0 : decode cX11_candidate 0 = .ok (.aload_n 0, 1) := by decide +kernel
theorem dX11_candidate_1 : decode cX11_candidate 1 = .ok (.getfield 7, 3) := by decide +kernel
theorem dX11_candidate_4 : decode cX11_candidate 4 = .ok (.iconst 2, 1) := by decide +kernel
theorem dX11_candidate_5 : decode cX11_candidate 5 = .ok (.iaload, 1) := by decide +kernel
theorem dX11_candidate_6 : decode cX11_candidate 6 = .ok (.bipush 12, 2) := by decide +kernel
theorem dX11_candidate_8 : decode cX11_candidate 8 = .ok (.if_icmp .eq 35, 3) := by decide +kernel
theorem dX11_candidate_11 : decode cX11_candidate 11 = .ok (.aload_n 0, 1) := by decide +kernel
theorem dX11_candidate_12 : decode cX11_candidate 12 = .ok (.iload_n 1, 1) := by decide +kernel
theorem dX11_candidate_13 : decode cX11_candidate 13 = .ok (.invokevirtual 108, 3) := by decide +kernel
theorem dX11_candidate_16 : decode cX11_candidate 16 = .ok (.ifCond .eq 27, 3) := by decide +kernel
theorem dX11_candidate_43 : decode cX11_candidate 43 = .ok (.iconst (-1), 1) := by decide +kernel
theorem dX11_candidate_44 : decode cX11_candidate 44 = .ok (.ireturn, 1) := by decide +kernel
theorem dX11_catches_0 : decode cX11_catches 0 = .ok (.aload_n 0, 1) := by decide +kernel
theorem dX11_catches_1 : decode cX11_catches 1 = .ok (.iconst 1, 1) := by decide +kernel
theorem dX11_catches_2 : decode cX11_catches 2 = .ok (.iload_n 1, 1) := by decide +kernel
theorem dX11_catches_3 : decode cX11_catches 3 = .ok (.invokevirtual 366, 3) := by decide +kernel
theorem dX11_catches_6 : decode cX11_catches 6 = .ok (.ifCond .eq 11, 3) := by decide +kernel
theorem dX11_catches_17 : decode cX11_catches 17 = .ok (.iconst (-1), 1) := by decide +kernel
theorem dX11_catches_18 : decode cX11_catches 18 = .ok (.goto 17, 3) := by decide +kernel
theorem dX11_catches_35 : decode cX11_catches 35 = .ok (.ireturn, 1) := by decide +kernel
theorem dX11_chance_0 : decode cX11_chance 0 = .ok (.aload_n 0, 1) := by decide +kernel
theorem dX11_chance_1 : decode cX11_chance 1 = .ok (.iconst 1, 1) := by decide +kernel
theorem dX11_chance_2 : decode cX11_chance 2 = .ok (.iload_n 1, 1) := by decide +kernel
theorem dX11_chance_3 : decode cX11_chance 3 = .ok (.invokevirtual 366, 3) := by decide +kernel
theorem dX11_chance_6 : decode cX11_chance 6 = .ok (.ifCond .eq 27, 3) := by decide +kernel
theorem dX11_chance_33 : decode cX11_chance 33 = .ok (.iconst (-1), 1) := by decide +kernel
theorem dX11_chance_34 : decode cX11_chance 34 = .ok (.ireturn, 1) := by decide +kernel
theorem dX11_finest_0 : decode cX11_finest 0 = .ok (.iconst (-1), 1) := by decide +kernel
theorem dX11_finest_1 : decode cX11_finest 1 = .ok (.istore_n 1, 1) := by decide +kernel
theorem dX11_finest_2 : decode cX11_finest 2 = .ok (.iconst 0, 1) := by decide +kernel
theorem dX11_finest_3 : decode cX11_finest 3 = .ok (.istore_n 2, 1) := by decide +kernel
theorem dX11_finest_4 : decode cX11_finest 4 = .ok (.iconst 0, 1) := by decide +kernel
theorem dX11_finest_5 : decode cX11_finest 5 = .ok (.istore_n 3, 1) := by decide +kernel
theorem dX11_finest_6 : decode cX11_finest 6 = .ok (.iconst 0, 1) := by decide +kernel
theorem dX11_finest_7 : decode cX11_finest 7 = .ok (.istore 4, 2) := by decide +kernel
theorem dX11_finest_9 : decode cX11_finest 9 = .ok (.iload 4, 2) := by decide +kernel
theorem dX11_finest_11 : decode cX11_finest 11 = .ok (.aload_n 0, 1) := by decide +kernel
theorem dX11_finest_12 : decode cX11_finest 12 = .ok (.getfield 20, 3) := by decide +kernel
theorem dX11_finest_15 : decode cX11_finest 15 = .ok (.iconst 1, 1) := by decide +kernel
theorem dX11_finest_16 : decode cX11_finest 16 = .ok (.iaload, 1) := by decide +kernel
theorem dX11_finest_17 : decode cX11_finest 17 = .ok (.if_icmp .ge 105, 3) := by decide +kernel
theorem dX11_finest_122 : decode cX11_finest 122 = .ok (.iload_n 1, 1) := by decide +kernel
theorem dX11_finest_123 : decode cX11_finest 123 = .ok (.ireturn, 1) := by decide +kernel
theorem dX11_fold_0 : decode cX11_fold 0 = .ok (.aload_n 0, 1) := by decide +kernel
theorem dX11_fold_1 : decode cX11_fold 1 = .ok (.iload_n 1, 1) := by decide +kernel
theorem dX11_fold_2 : decode cX11_fold 2 = .ok (.invokevirtual 108, 3) := by decide +kernel
theorem dX11_fold_5 : decode cX11_fold 5 = .ok (.ifCond .eq 54, 3) := by decide +kernel
theorem dX11_fold_59 : decode cX11_fold 59 = .ok (.ldc2_w 567, 3) := by decide +kernel
theorem dX11_fold_62 : decode cX11_fold 62 = .ok (.lreturn, 1) := by decide +kernel
theorem dX11_found_0 : decode cX11_found 0 = .ok (.aload_n 0, 1) := by decide +kernel
theorem dX11_found_1 : decode cX11_found 1 = .ok (.iconst 1, 1) := by decide +kernel
theorem dX11_found_2 : decode cX11_found 2 = .ok (.iload_n 1, 1) := by decide +kernel
theorem dX11_found_3 : decode cX11_found 3 = .ok (.invokevirtual 366, 3) := by decide +kernel
theorem dX11_found_6 : decode cX11_found 6 = .ok (.ifCond .eq 36, 3) := by decide +kernel
theorem dX11_found_42 : decode cX11_found 42 = .ok (.ldc2_w 485, 3) := by decide +kernel
theorem dX11_found_45 : decode cX11_found 45 = .ok (.lreturn, 1) := by decide +kernel
theorem dX11_in_0 : decode cX11_in 0 = .ok (.lload_n 0, 1) := by decide +kernel
theorem dX11_in_1 : decode cX11_in 1 = .ok (.lload_n 2, 1) := by decide +kernel
theorem dX11_in_2 : decode cX11_in 2 = .ok (.lcmp, 1) := by decide +kernel
theorem dX11_in_3 : decode cX11_in 3 = .ok (.ifCond .lt 14, 3) := by decide +kernel
theorem dX11_in_6 : decode cX11_in 6 = .ok (.lload_n 0, 1) := by decide +kernel
theorem dX11_in_7 : decode cX11_in 7 = .ok (.lload 4, 2) := by decide +kernel
theorem dX11_in_9 : decode cX11_in 9 = .ok (.lcmp, 1) := by decide +kernel
theorem dX11_in_10 : decode cX11_in 10 = .ok (.ifCond .gt 7, 3) := by decide +kernel
theorem dX11_in_13 : decode cX11_in 13 = .ok (.iconst 1, 1) := by decide +kernel
theorem dX11_in_14 : decode cX11_in 14 = .ok (.goto 4, 3) := by decide +kernel
theorem dX11_in_17 : decode cX11_in 17 = .ok (.iconst 0, 1) := by decide +kernel
theorem dX11_in_18 : decode cX11_in 18 = .ok (.ireturn, 1) := by decide +kernel
theorem dX11_isHour_0 : decode cX11_isHour 0 = .ok (.iload_n 0, 1) := by decide +kernel
theorem dX11_isHour_1 : decode cX11_isHour 1 = .ok (.ifCond .lt 14, 3) := by decide +kernel
theorem dX11_isHour_4 : decode cX11_isHour 4 = .ok (.iload_n 0, 1) := by decide +kernel
theorem dX11_isHour_5 : decode cX11_isHour 5 = .ok (.sipush 600, 3) := by decide +kernel
theorem dX11_isHour_8 : decode cX11_isHour 8 = .ok (.if_icmp .ge 7, 3) := by decide +kernel
theorem dX11_isHour_11 : decode cX11_isHour 11 = .ok (.iconst 1, 1) := by decide +kernel
theorem dX11_isHour_12 : decode cX11_isHour 12 = .ok (.goto 4, 3) := by decide +kernel
theorem dX11_isHour_15 : decode cX11_isHour 15 = .ok (.iconst 0, 1) := by decide +kernel
theorem dX11_isHour_16 : decode cX11_isHour 16 = .ok (.ireturn, 1) := by decide +kernel
theorem dX11_isStar_0 : decode cX11_isStar 0 = .ok (.iload_n 1, 1) := by decide +kernel
theorem dX11_isStar_1 : decode cX11_isStar 1 = .ok (.ifCond .lt 17, 3) := by decide +kernel
theorem dX11_isStar_4 : decode cX11_isStar 4 = .ok (.iload_n 1, 1) := by decide +kernel
theorem dX11_isStar_5 : decode cX11_isStar 5 = .ok (.aload_n 0, 1) := by decide +kernel
theorem dX11_isStar_6 : decode cX11_isStar 6 = .ok (.getfield 7, 3) := by decide +kernel
theorem dX11_isStar_9 : decode cX11_isStar 9 = .ok (.iconst 0, 1) := by decide +kernel
theorem dX11_isStar_10 : decode cX11_isStar 10 = .ok (.iaload, 1) := by decide +kernel
theorem dX11_isStar_11 : decode cX11_isStar 11 = .ok (.if_icmp .ge 7, 3) := by decide +kernel
theorem dX11_isStar_18 : decode cX11_isStar 18 = .ok (.iconst 0, 1) := by decide +kernel
theorem dX11_isStar_19 : decode cX11_isStar 19 = .ok (.ireturn, 1) := by decide +kernel
theorem dX11_isText_0 : decode cX11_isText 0 = .ok (.iload_n 2, 1) := by decide +kernel
theorem dX11_isText_1 : decode cX11_isText 1 = .ok (.ifCond .lt 17, 3) := by decide +kernel
theorem dX11_isText_4 : decode cX11_isText 4 = .ok (.iload_n 2, 1) := by decide +kernel
theorem dX11_isText_5 : decode cX11_isText 5 = .ok (.aload_n 0, 1) := by decide +kernel
theorem dX11_isText_6 : decode cX11_isText 6 = .ok (.getfield 20, 3) := by decide +kernel
theorem dX11_isText_9 : decode cX11_isText 9 = .ok (.iload_n 1, 1) := by decide +kernel
theorem dX11_isText_10 : decode cX11_isText 10 = .ok (.iaload, 1) := by decide +kernel
theorem dX11_isText_11 : decode cX11_isText 11 = .ok (.if_icmp .ge 7, 3) := by decide +kernel
theorem dX11_isText_18 : decode cX11_isText 18 = .ok (.iconst 0, 1) := by decide +kernel
theorem dX11_isText_19 : decode cX11_isText 19 = .ok (.ireturn, 1) := by decide +kernel
theorem dX11_line_0 : decode cX11_line 0 = .ok (.aload_n 0, 1) := by decide +kernel
theorem dX11_line_1 : decode cX11_line 1 = .ok (.iconst 1, 1) := by decide +kernel
theorem dX11_line_2 : decode cX11_line 2 = .ok (.iload_n 1, 1) := by decide +kernel
theorem dX11_line_3 : decode cX11_line 3 = .ok (.invokevirtual 366, 3) := by decide +kernel
theorem dX11_line_6 : decode cX11_line 6 = .ok (.ifCond .eq 51, 3) := by decide +kernel
theorem dX11_line_57 : decode cX11_line 57 = .ok (.iconst (-1), 1) := by decide +kernel
theorem dX11_line_58 : decode cX11_line 58 = .ok (.ireturn, 1) := by decide +kernel
theorem dX11_make_0 : decode cX11_make 0 = .ok (.aload_n 0, 1) := by decide +kernel
theorem dX11_make_1 : decode cX11_make 1 = .ok (.iconst 0, 1) := by decide +kernel
theorem dX11_make_2 : decode cX11_make 2 = .ok (.iload_n 1, 1) := by decide +kernel
theorem dX11_make_3 : decode cX11_make 3 = .ok (.invokevirtual 366, 3) := by decide +kernel
theorem dX11_make_6 : decode cX11_make 6 = .ok (.ifCond .eq 38, 3) := by decide +kernel
theorem dX11_make_44 : decode cX11_make 44 = .ok (.iconst (-1), 1) := by decide +kernel
theorem dX11_make_45 : decode cX11_make 45 = .ok (.ireturn, 1) := by decide +kernel
theorem dX11_many_0 : decode cX11_many 0 = .ok (.aload_n 0, 1) := by decide +kernel
theorem dX11_many_1 : decode cX11_many 1 = .ok (.iconst 1, 1) := by decide +kernel
theorem dX11_many_2 : decode cX11_many 2 = .ok (.iload_n 1, 1) := by decide +kernel
theorem dX11_many_3 : decode cX11_many 3 = .ok (.invokevirtual 366, 3) := by decide +kernel
theorem dX11_many_6 : decode cX11_many 6 = .ok (.ifCond .eq 33, 3) := by decide +kernel
theorem dX11_many_39 : decode cX11_many 39 = .ok (.iconst (-1), 1) := by decide +kernel
theorem dX11_many_40 : decode cX11_many 40 = .ok (.ireturn, 1) := by decide +kernel
theorem dX11_next_0 : decode cX11_next 0 = .ok (.aload_n 0, 1) := by decide +kernel
theorem dX11_next_1 : decode cX11_next 1 = .ok (.iconst 1, 1) := by decide +kernel
theorem dX11_next_2 : decode cX11_next 2 = .ok (.iload_n 1, 1) := by decide +kernel
theorem dX11_next_3 : decode cX11_next 3 = .ok (.invokevirtual 366, 3) := by decide +kernel
theorem dX11_next_6 : decode cX11_next 6 = .ok (.ifCond .eq 23, 3) := by decide +kernel
theorem dX11_next_29 : decode cX11_next 29 = .ok (.iconst (-1), 1) := by decide +kernel
theorem dX11_next_30 : decode cX11_next 30 = .ok (.ireturn, 1) := by decide +kernel
theorem dX11_odds_0 : decode cX11_odds 0 = .ok (.iload 4, 2) := by decide +kernel
theorem dX11_odds_2 : decode cX11_odds 2 = .ok (.i2l, 1) := by decide +kernel
theorem dX11_odds_3 : decode cX11_odds 3 = .ok (.lconst 0, 1) := by decide +kernel
theorem dX11_odds_4 : decode cX11_odds 4 = .ok (.ldc2_w 422, 3) := by decide +kernel
theorem dX11_odds_7 : decode cX11_odds 7 = .ok (.invokestatic 99, 3) := by decide +kernel
theorem dX11_odds_10 : decode cX11_odds 10 = .ok (.ifCond .eq 24, 3) := by decide +kernel
theorem dX11_odds_13 : decode cX11_odds 13 = .ok (.iload 5, 2) := by decide +kernel
theorem dX11_odds_15 : decode cX11_odds 15 = .ok (.i2l, 1) := by decide +kernel
theorem dX11_odds_16 : decode cX11_odds 16 = .ok (.lconst 0, 1) := by decide +kernel
theorem dX11_odds_17 : decode cX11_odds 17 = .ok (.lconst 1, 1) := by decide +kernel
theorem dX11_odds_18 : decode cX11_odds 18 = .ok (.invokestatic 99, 3) := by decide +kernel
theorem dX11_odds_21 : decode cX11_odds 21 = .ok (.ifCond .eq 13, 3) := by decide +kernel
theorem dX11_odds_24 : decode cX11_odds 24 = .ok (.aload_n 0, 1) := by decide +kernel
theorem dX11_odds_25 : decode cX11_odds 25 = .ok (.iload_n 1, 1) := by decide +kernel
theorem dX11_odds_26 : decode cX11_odds 26 = .ok (.iload_n 2, 1) := by decide +kernel
theorem dX11_odds_27 : decode cX11_odds 27 = .ok (.iload_n 3, 1) := by decide +kernel
theorem dX11_odds_28 : decode cX11_odds 28 = .ok (.invokevirtual 546, 3) := by decide +kernel
theorem dX11_odds_31 : decode cX11_odds 31 = .ok (.ifCond .ne 5, 3) := by decide +kernel
theorem dX11_odds_34 : decode cX11_odds 34 = .ok (.iconst (-1), 1) := by decide +kernel
theorem dX11_odds_35 : decode cX11_odds 35 = .ok (.ireturn, 1) := by decide +kernel
theorem dX11_other_0 : decode cX11_other 0 = .ok (.aload_n 0, 1) := by decide +kernel
theorem dX11_other_1 : decode cX11_other 1 = .ok (.iconst 1, 1) := by decide +kernel
theorem dX11_other_2 : decode cX11_other 2 = .ok (.iload_n 1, 1) := by decide +kernel
theorem dX11_other_3 : decode cX11_other 3 = .ok (.invokevirtual 366, 3) := by decide +kernel
theorem dX11_other_6 : decode cX11_other 6 = .ok (.ifCond .eq 21, 3) := by decide +kernel
theorem dX11_other_27 : decode cX11_other 27 = .ok (.bipush (-3), 2) := by decide +kernel
theorem dX11_other_29 : decode cX11_other 29 = .ok (.ireturn, 1) := by decide +kernel
theorem dX11_radius_0 : decode cX11_radius 0 = .ok (.aload_n 0, 1) := by decide +kernel
theorem dX11_radius_1 : decode cX11_radius 1 = .ok (.iconst 1, 1) := by decide +kernel
theorem dX11_radius_2 : decode cX11_radius 2 = .ok (.iload_n 1, 1) := by decide +kernel
theorem dX11_radius_3 : decode cX11_radius 3 = .ok (.invokevirtual 366, 3) := by decide +kernel
theorem dX11_radius_6 : decode cX11_radius 6 = .ok (.ifCond .eq 11, 3) := by decide +kernel
theorem dX11_radius_17 : decode cX11_radius 17 = .ok (.iconst (-1), 1) := by decide +kernel
theorem dX11_radius_18 : decode cX11_radius 18 = .ok (.ireturn, 1) := by decide +kernel
theorem dX11_resize_0 : decode cX11_resize 0 = .ok (.aload_n 0, 1) := by decide +kernel
theorem dX11_resize_1 : decode cX11_resize 1 = .ok (.iload_n 1, 1) := by decide +kernel
theorem dX11_resize_2 : decode cX11_resize 2 = .ok (.invokevirtual 108, 3) := by decide +kernel
theorem dX11_resize_5 : decode cX11_resize 5 = .ok (.ifCond .eq 15, 3) := by decide +kernel
theorem dX11_resize_20 : decode cX11_resize 20 = .ok (.iconst (-1), 1) := by decide +kernel
theorem dX11_resize_21 : decode cX11_resize 21 = .ok (.ireturn, 1) := by decide +kernel
theorem dX11_room_0 : decode cX11_room 0 = .ok (.aload_n 0, 1) := by decide +kernel
theorem dX11_room_1 : decode cX11_room 1 = .ok (.iconst 1, 1) := by decide +kernel
theorem dX11_room_2 : decode cX11_room 2 = .ok (.iload_n 1, 1) := by decide +kernel
theorem dX11_room_3 : decode cX11_room 3 = .ok (.invokevirtual 366, 3) := by decide +kernel
theorem dX11_room_6 : decode cX11_room 6 = .ok (.ifCond .eq 51, 3) := by decide +kernel
theorem dX11_room_57 : decode cX11_room 57 = .ok (.iconst (-1), 1) := by decide +kernel
theorem dX11_room_58 : decode cX11_room 58 = .ok (.ireturn, 1) := by decide +kernel
theorem dX11_row_0 : decode cX11_row 0 = .ok (.aload_n 0, 1) := by decide +kernel
theorem dX11_row_1 : decode cX11_row 1 = .ok (.iload_n 1, 1) := by decide +kernel
theorem dX11_row_2 : decode cX11_row 2 = .ok (.invokevirtual 108, 3) := by decide +kernel
theorem dX11_row_5 : decode cX11_row 5 = .ok (.ifCond .eq 30, 3) := by decide +kernel
theorem dX11_row_35 : decode cX11_row 35 = .ok (.ldc 119, 2) := by decide +kernel
theorem dX11_row_37 : decode cX11_row 37 = .ok (.ireturn, 1) := by decide +kernel
theorem dX11_second_0 : decode cX11_second 0 = .ok (.aload_n 0, 1) := by decide +kernel
theorem dX11_second_1 : decode cX11_second 1 = .ok (.iconst 1, 1) := by decide +kernel
theorem dX11_second_2 : decode cX11_second 2 = .ok (.iload_n 1, 1) := by decide +kernel
theorem dX11_second_3 : decode cX11_second 3 = .ok (.invokevirtual 366, 3) := by decide +kernel
theorem dX11_second_6 : decode cX11_second 6 = .ok (.ifCond .eq 33, 3) := by decide +kernel
theorem dX11_second_39 : decode cX11_second 39 = .ok (.ldc2_w 485, 3) := by decide +kernel
theorem dX11_second_42 : decode cX11_second 42 = .ok (.lreturn, 1) := by decide +kernel
theorem dX11_share_0 : decode cX11_share 0 = .ok (.aload_n 0, 1) := by decide +kernel
theorem dX11_share_1 : decode cX11_share 1 = .ok (.iconst 1, 1) := by decide +kernel
theorem dX11_share_2 : decode cX11_share 2 = .ok (.iload_n 1, 1) := by decide +kernel
theorem dX11_share_3 : decode cX11_share 3 = .ok (.invokevirtual 366, 3) := by decide +kernel
theorem dX11_share_6 : decode cX11_share 6 = .ok (.ifCond .eq 13, 3) := by decide +kernel
theorem dX11_share_19 : decode cX11_share 19 = .ok (.iconst (-1), 1) := by decide +kernel
theorem dX11_share_20 : decode cX11_share 20 = .ok (.ireturn, 1) := by decide +kernel
theorem dX11_shift_0 : decode cX11_shift 0 = .ok (.aload_n 0, 1) := by decide +kernel
theorem dX11_shift_1 : decode cX11_shift 1 = .ok (.iconst 1, 1) := by decide +kernel
theorem dX11_shift_2 : decode cX11_shift 2 = .ok (.iload_n 1, 1) := by decide +kernel
theorem dX11_shift_3 : decode cX11_shift 3 = .ok (.invokevirtual 366, 3) := by decide +kernel
theorem dX11_shift_6 : decode cX11_shift 6 = .ok (.ifCond .eq 43, 3) := by decide +kernel
theorem dX11_shift_49 : decode cX11_shift 49 = .ok (.sipush (-200), 3) := by decide +kernel
theorem dX11_shift_52 : decode cX11_shift 52 = .ok (.ireturn, 1) := by decide +kernel
theorem dX11_sign_0 : decode cX11_sign 0 = .ok (.aload_n 0, 1) := by decide +kernel
theorem dX11_sign_1 : decode cX11_sign 1 = .ok (.iconst 1, 1) := by decide +kernel
theorem dX11_sign_2 : decode cX11_sign 2 = .ok (.iload_n 1, 1) := by decide +kernel
theorem dX11_sign_3 : decode cX11_sign 3 = .ok (.invokevirtual 366, 3) := by decide +kernel
theorem dX11_sign_6 : decode cX11_sign 6 = .ok (.ifCond .eq 33, 3) := by decide +kernel
theorem dX11_sign_39 : decode cX11_sign 39 = .ok (.ldc 119, 2) := by decide +kernel
theorem dX11_sign_41 : decode cX11_sign 41 = .ok (.ireturn, 1) := by decide +kernel
theorem dX11_sorted_0 : decode cX11_sorted 0 = .ok (.aload_n 0, 1) := by decide +kernel
theorem dX11_sorted_1 : decode cX11_sorted 1 = .ok (.iload_n 1, 1) := by decide +kernel
theorem dX11_sorted_2 : decode cX11_sorted 2 = .ok (.iload_n 2, 1) := by decide +kernel
theorem dX11_sorted_3 : decode cX11_sorted 3 = .ok (.iload_n 3, 1) := by decide +kernel
theorem dX11_sorted_4 : decode cX11_sorted 4 = .ok (.invokevirtual 546, 3) := by decide +kernel
theorem dX11_sorted_7 : decode cX11_sorted 7 = .ok (.ifCond .eq 10, 3) := by decide +kernel
theorem dX11_sorted_17 : decode cX11_sorted 17 = .ok (.iconst (-1), 1) := by decide +kernel
theorem dX11_sorted_18 : decode cX11_sorted 18 = .ok (.ireturn, 1) := by decide +kernel
theorem dX11_spread_0 : decode cX11_spread 0 = .ok (.aload_n 0, 1) := by decide +kernel
theorem dX11_spread_1 : decode cX11_spread 1 = .ok (.iload_n 1, 1) := by decide +kernel
theorem dX11_spread_2 : decode cX11_spread 2 = .ok (.invokevirtual 108, 3) := by decide +kernel
theorem dX11_spread_5 : decode cX11_spread 5 = .ok (.ifCond .ne 7, 3) := by decide +kernel
theorem dX11_spread_8 : decode cX11_spread 8 = .ok (.ldc2_w 404, 3) := by decide +kernel
theorem dX11_spread_11 : decode cX11_spread 11 = .ok (.lreturn, 1) := by decide +kernel
theorem dX11_tried_0 : decode cX11_tried 0 = .ok (.aload_n 0, 1) := by decide +kernel
theorem dX11_tried_1 : decode cX11_tried 1 = .ok (.iload_n 1, 1) := by decide +kernel
theorem dX11_tried_2 : decode cX11_tried 2 = .ok (.invokevirtual 108, 3) := by decide +kernel
theorem dX11_tried_5 : decode cX11_tried 5 = .ok (.ifCond .eq 75, 3) := by decide +kernel
theorem dX11_tried_80 : decode cX11_tried 80 = .ok (.ldc2_w 424, 3) := by decide +kernel
theorem dX11_tried_83 : decode cX11_tried 83 = .ok (.lreturn, 1) := by decide +kernel
theorem dX11_truly_0 : decode cX11_truly 0 = .ok (.aload_n 0, 1) := by decide +kernel
theorem dX11_truly_1 : decode cX11_truly 1 = .ok (.iconst 1, 1) := by decide +kernel
theorem dX11_truly_2 : decode cX11_truly 2 = .ok (.iload_n 1, 1) := by decide +kernel
theorem dX11_truly_3 : decode cX11_truly 3 = .ok (.invokevirtual 366, 3) := by decide +kernel
theorem dX11_truly_6 : decode cX11_truly 6 = .ok (.ifCond .eq 12, 3) := by decide +kernel
theorem dX11_truly_18 : decode cX11_truly 18 = .ok (.ldc2_w 404, 3) := by decide +kernel
theorem dX11_truly_21 : decode cX11_truly 21 = .ok (.lreturn, 1) := by decide +kernel
theorem dX11_weight_0 : decode cX11_weight 0 = .ok (.iload 4, 2) := by decide +kernel
theorem dX11_weight_2 : decode cX11_weight 2 = .ok (.i2l, 1) := by decide +kernel
theorem dX11_weight_3 : decode cX11_weight 3 = .ok (.lconst 0, 1) := by decide +kernel
theorem dX11_weight_4 : decode cX11_weight 4 = .ok (.ldc2_w 422, 3) := by decide +kernel
theorem dX11_weight_7 : decode cX11_weight 7 = .ok (.invokestatic 99, 3) := by decide +kernel
theorem dX11_weight_10 : decode cX11_weight 10 = .ok (.ifCond .eq 23, 3) := by decide +kernel
theorem dX11_weight_13 : decode cX11_weight 13 = .ok (.aload_n 0, 1) := by decide +kernel
theorem dX11_weight_14 : decode cX11_weight 14 = .ok (.iload_n 1, 1) := by decide +kernel
theorem dX11_weight_15 : decode cX11_weight 15 = .ok (.iload_n 2, 1) := by decide +kernel
theorem dX11_weight_16 : decode cX11_weight 16 = .ok (.iload_n 3, 1) := by decide +kernel
theorem dX11_weight_17 : decode cX11_weight 17 = .ok (.invokevirtual 546, 3) := by decide +kernel
theorem dX11_weight_20 : decode cX11_weight 20 = .ok (.ifCond .eq 13, 3) := by decide +kernel
theorem dX11_weight_33 : decode cX11_weight 33 = .ok (.iconst (-1), 1) := by decide +kernel
theorem dX11_weight_34 : decode cX11_weight 34 = .ok (.ireturn, 1) := by decide +kernel
theorem dX11_world_0 : decode cX11_world 0 = .ok (.aload_n 0, 1) := by decide +kernel
theorem dX11_world_1 : decode cX11_world 1 = .ok (.getfield 7, 3) := by decide +kernel
theorem dX11_world_4 : decode cX11_world 4 = .ok (.iconst 1, 1) := by decide +kernel
theorem dX11_world_5 : decode cX11_world 5 = .ok (.iaload, 1) := by decide +kernel
theorem dX11_world_6 : decode cX11_world 6 = .ok (.bipush 40, 2) := by decide +kernel
theorem dX11_world_8 : decode cX11_world 8 = .ok (.if_icmp .eq 69, 3) := by decide +kernel
theorem dX11_world_11 : decode cX11_world 11 = .ok (.aload_n 0, 1) := by decide +kernel
theorem dX11_world_12 : decode cX11_world 12 = .ok (.iload_n 1, 1) := by decide +kernel
theorem dX11_world_13 : decode cX11_world 13 = .ok (.invokevirtual 108, 3) := by decide +kernel
theorem dX11_world_16 : decode cX11_world 16 = .ok (.ifCond .eq 61, 3) := by decide +kernel
theorem dX11_world_77 : decode cX11_world 77 = .ok (.iconst (-1), 1) := by decide +kernel
theorem dX11_world_78 : decode cX11_world 78 = .ok (.ireturn, 1) := by decide +kernel
theorem dX6_numbers_0 : decode cX6_numbers 0 = .ok (.iconst 0, 1) := by decide +kernel
theorem dX6_numbers_1 : decode cX6_numbers 1 = .ok (.istore_n 1, 1) := by decide +kernel
theorem dX6_numbers_2 : decode cX6_numbers 2 = .ok (.iconst 0, 1) := by decide +kernel
theorem dX6_numbers_3 : decode cX6_numbers 3 = .ok (.istore_n 2, 1) := by decide +kernel
theorem dX6_numbers_4 : decode cX6_numbers 4 = .ok (.iload_n 2, 1) := by decide +kernel
theorem dX6_numbers_5 : decode cX6_numbers 5 = .ok (.aload_n 0, 1) := by decide +kernel
theorem dX6_numbers_6 : decode cX6_numbers 6 = .ok (.getfield 44, 3) := by decide +kernel
theorem dX6_numbers_9 : decode cX6_numbers 9 = .ok (.if_icmp .ge 30, 3) := by decide +kernel
theorem dX6_numbers_39 : decode cX6_numbers 39 = .ok (.iload_n 1, 1) := by decide +kernel
theorem dX6_numbers_40 : decode cX6_numbers 40 = .ok (.ireturn, 1) := by decide +kernel
theorem dX6_starAt_0 : decode cX6_starAt 0 = .ok (.iload_n 1, 1) := by decide +kernel
theorem dX6_starAt_1 : decode cX6_starAt 1 = .ok (.ifCond .lt 26, 3) := by decide +kernel
theorem dX6_starAt_4 : decode cX6_starAt 4 = .ok (.iload_n 1, 1) := by decide +kernel
theorem dX6_starAt_5 : decode cX6_starAt 5 = .ok (.aload_n 0, 1) := by decide +kernel
theorem dX6_starAt_6 : decode cX6_starAt 6 = .ok (.getfield 44, 3) := by decide +kernel
theorem dX6_starAt_9 : decode cX6_starAt 9 = .ok (.if_icmp .ge 18, 3) := by decide +kernel
theorem dX6_starAt_27 : decode cX6_starAt 27 = .ok (.aconst_null, 1) := by decide +kernel
theorem dX6_starAt_28 : decode cX6_starAt 28 = .ok (.areturn, 1) := by decide +kernel
theorem dX6_worldAt_0 : decode cX6_worldAt 0 = .ok (.iload_n 1, 1) := by decide +kernel
theorem dX6_worldAt_1 : decode cX6_worldAt 1 = .ok (.ifCond .lt 26, 3) := by decide +kernel
theorem dX6_worldAt_4 : decode cX6_worldAt 4 = .ok (.iload_n 1, 1) := by decide +kernel
theorem dX6_worldAt_5 : decode cX6_worldAt 5 = .ok (.aload_n 0, 1) := by decide +kernel
theorem dX6_worldAt_6 : decode cX6_worldAt 6 = .ok (.getfield 47, 3) := by decide +kernel
theorem dX6_worldAt_9 : decode cX6_worldAt 9 = .ok (.if_icmp .ge 18, 3) := by decide +kernel
theorem dX6_worldAt_27 : decode cX6_worldAt 27 = .ok (.aconst_null, 1) := by decide +kernel
theorem dX6_worldAt_28 : decode cX6_worldAt 28 = .ok (.areturn, 1) := by decide +kernel
end
section
abbrev dsF (b : Nat → Nat) : List Value := [.ref (b 0), .ref (b 1), .ref (b 2), .ref (b 3), .ref (b 4), .int 0, .int 0, .int 0, .ref (b 5), .ref (b 6), .ref (b 7), .ref (b 8), .ref (b 9), .ref (b 10), .ref (b 11), .ref (b 12), .ref (b 13), .int 1, .ref (b 14), .ref (b 15)]
abbrev skF (b : Nat → Nat) : List Value := [.int 0, .ref (b 16), .int 0, .ref (b 17), .int 0, .ref (b 18), .ref (b 19), .int 20, .ref (b 20), .ref (b 21), .int 0, .ref (b 22), .int 0]
abbrev paF (Z b : Nat → Nat) : List Value := [.ref (b 23), .int 0, .int 0, .int 0, .int 0, .int 0, .int 0, .int 0, .int 0, .ref (Z 0), .ref (b 24), .int 0]
abbrev txF (b : Nat → Nat) : List Value := [.int 0, .int 0, .int 0, .int 0, .int 0, .int 0, .int 0, .int 0, .ref (b 25), .ref (b 26), .ref (b 27), .ref (b 28), .ref (b 29), .int 0]
abbrev moF (a : Nat → Nat) : List Value := [.ref (a 0), .ref (a 1), .ref (a 2), .int 0, .ref (a 3), .ref (a 4), .ref (a 5), .ref (a 6), .ref (a 7), .ref (a 8), .ref (a 9), .ref (a 10), .ref (a 11), .ref (a 12), .ref (a 13), .ref (a 14), .int 0, .int 0, .int 0, .int 0, .int 0, .int 0, .int 0, .ref (a 15), .int 0, .ref (a 16), .int 0, .ref (a 17), .ref (a 18), .int 0, .long 0, .long 0, .int 0, .long 0, .int 0, .int 0, .int 0, .long 0, .long 0, .int 0, .ref (a 19), .ref (a 20), .ref (a 21), .ref (a 22), .ref (a 23), .ref (a 24), .ref (a 25), .ref (a 26), .ref (a 27)]
abbrev tolF : Nat → Int32 := upd (fun _ => 0) 7515 20
end
section
set_option maxHeartbeats 4000000 in
set_option maxRecDepth 100000 in
theorem c_isWithin (l : Launch) (D : va_G) (Y : Nat → ClassId) (Z : Nat → Nat) (sz : Nat) (n a b : Int32) (A0 B0 : Int) (ha : a.toInt = A0) (hb0 : b.toInt = B0) : Met l yX10_isWithin (.code yX10_isWithin cX10_isWithin 3 (some .boolean) :: GW) ({ frames := 0, cells := 0, slots := 0, locals := 0 }) (va_Pc [.int n, .int a, .int b] (CP D Y Z [] sz)) (QG (S := Int32) (fun r => some (.int r)) (fun r => ((A0 ≤ n.toInt ∧ n.toInt ≤ B0) ∧ r = 1) ∨ (¬ (A0 ≤ n.toInt ∧ n.toInt ≤ B0) ∧ r = 0)) (fun u => CB D ((fun _ => []) u) (va_A [] sz)) (va_A [] sz)) 0 0 (va_A [] sz) := by
  refine Met.ofW (cc := cX10_isWithin) (maxL := 3) (ret := (some .boolean)) (by decide) rfl ?_
  intro p e s m args below meth c s₁ B hml hv
  obtain ⟨rfl, hsz, hP, hKN, hD0⟩ := hv
  have hx := B.exec
  have hb := B.bytes
  have hr := B.returns
  have hts := atoms_spec (ws := .code yX10_isWithin cX10_isWithin 3 (some .boolean) :: GW) B.pre
  have hg : ∀ w ∈ GW, w.before _ s = true := fun w h => hts w (List.mem_cons_of_mem _ h)
  have hown : s.vm.findClass RX10 = some m.cls := findClass_of_methodNamed B.named
  have hlocks := B.notSynchronized
  subst hsz
  have hD := hD0.self (sz := s.heap.size)
  generalize hAe : va_A [] s.heap.size = A at hD ⊢
  have hA : ∀ q : Nat, s.heap.size ≤ q → A q := fun q h => by rw [← hAe]; exact Or.inr h
  have hl := lv_entry ([.int n, .int a, .int b]) (n := 3) (Nat.le_of_ble_eq_true rfl)
  rw [lg_entry_eq]
  generalize (lg_sl ([.int n, .int a, .int b]) ++ List.replicate (3 - (lg_sl ([.int n, .int a, .int b])).length) Slot.unset).toArray = ls at hl ⊢
  have hl : lv_has ls 3 [(0, .int n), (1, .int a), (2, .int b)] := hl
  refine w_start (A0 := A) hP (fun H locs hP hS => ?_)
  refine lv_iload_n hx hb dX10_isWithin_0 rfl (lv_at hl 0 rfl) ?_
  refine lv_iload_n hx hb dX10_isWithin_1 rfl (lv_at hl 1 rfl) ?_
  refine lv_icmp_lt (tgt := 14) hx hb dX10_isWithin_2 (by decide) (fun c1 => ?_) (fun c1 => ?_)
  · skip
    have c1 := i_lt (Eq.refl (n).toInt) (Eq.refl (a).toInt) c1
    refine lv_iconst (v := 0) hx hb dX10_isWithin_14 (by decide) ?_
    refine W.widen (k := 0) (n := 0) (Nat.le_of_ble_eq_true rfl) (Nat.le_of_ble_eq_true rfl) ?_
    exact W.zret (v := 0) hx hb hr (by decide) (fun t ht hW => ⟨⟨0, rfl, (Or.inr ⟨by omega, rfl⟩), CB.nil⟩, hS.F ht⟩) hS.2.2 dX10_isWithin_15
  · skip
    have c1 := i_nlt (Eq.refl (n).toInt) (Eq.refl (a).toInt) c1
    refine lv_iload_n hx hb dX10_isWithin_5 rfl (lv_at hl 0 rfl) ?_
    refine lv_iload_n hx hb dX10_isWithin_6 rfl (lv_at hl 2 rfl) ?_
    refine lv_icmp_gt (tgt := 14) hx hb dX10_isWithin_7 (by decide) (fun c2 => ?_) (fun c2 => ?_)
    · skip
      have c2 := i_lt (Eq.refl (b).toInt) (Eq.refl (n).toInt) c2
      refine lv_iconst (v := 0) hx hb dX10_isWithin_14 (by decide) ?_
      refine W.widen (k := 0) (n := 0) (Nat.le_of_ble_eq_true rfl) (Nat.le_of_ble_eq_true rfl) ?_
      exact W.zret (v := 0) hx hb hr (by decide) (fun t ht hW => ⟨⟨0, rfl, (Or.inr ⟨by omega, rfl⟩), CB.nil⟩, hS.F ht⟩) hS.2.2 dX10_isWithin_15
    · skip
      have c2 := i_nlt (Eq.refl (b).toInt) (Eq.refl (n).toInt) c2
      refine lv_iconst (v := 1) hx hb dX10_isWithin_10 (by decide) ?_
      refine lv_goto (tgt := 15) hx hb dX10_isWithin_11 (by decide) ?_
      refine W.widen (k := 0) (n := 0) (Nat.le_of_ble_eq_true rfl) (Nat.le_of_ble_eq_true rfl) ?_
      exact W.zret (v := 1) hx hb hr (by decide) (fun t ht hW => ⟨⟨1, rfl, (Or.inl ⟨by omega, rfl⟩), CB.nil⟩, hS.F ht⟩) hS.2.2 dX10_isWithin_15
set_option maxHeartbeats 4000000 in
set_option maxRecDepth 100000 in
theorem c_isHour (l : Launch) (D : va_G) (Y : Nat → ClassId) (Z : Nat → Nat) (sz : Nat) (n : Int32) : Met l yX10_isHour (.code yX10_isHour cX10_isHour 1 (some .boolean) :: GW) ({ frames := 1, cells := 0, slots := 0, locals := 22 }) (va_Pc [.int n] (CP D Y Z [] sz)) (QG (S := Int32) (fun r => some (.int r)) (fun r => ((0 ≤ n.toInt ∧ n.toInt ≤ 599) ∧ r = 1) ∨ (¬ (0 ≤ n.toInt ∧ n.toInt ≤ 599) ∧ r = 0)) (fun u => CB D ((fun _ => []) u) (va_A [] sz)) (va_A [] sz)) 0 0 (va_A [] sz) := by
  refine Met.ofW (cc := cX10_isHour) (maxL := 1) (ret := (some .boolean)) (by decide) rfl ?_
  intro p e s m args below meth c s₁ B hml hv
  obtain ⟨rfl, hsz, hP, hKN, hD0⟩ := hv
  have hx := B.exec
  have hb := B.bytes
  have hr := B.returns
  have hts := atoms_spec (ws := .code yX10_isHour cX10_isHour 1 (some .boolean) :: GW) B.pre
  have hg : ∀ w ∈ GW, w.before _ s = true := fun w h => hts w (List.mem_cons_of_mem _ h)
  have hown : s.vm.findClass RX10 = some m.cls := findClass_of_methodNamed B.named
  have hlocks := B.notSynchronized
  subst hsz
  have hD := hD0.self (sz := s.heap.size)
  generalize hAe : va_A [] s.heap.size = A at hD ⊢
  have hA : ∀ q : Nat, s.heap.size ≤ q → A q := fun q h => by rw [← hAe]; exact Or.inr h
  have hl := lv_entry ([.int n]) (n := 1) (Nat.le_of_ble_eq_true rfl)
  rw [lg_entry_eq]
  generalize (lg_sl ([.int n]) ++ List.replicate (1 - (lg_sl ([.int n])).length) Slot.unset).toArray = ls at hl ⊢
  have hl : lv_has ls 1 [(0, .int n)] := hl
  refine w_start (A0 := A) hP (fun H locs hP hS => ?_)
  refine lv_iload_n hx hb dX10_isHour_0 rfl (lv_at hl 0 rfl) ?_
  refine lv_iconst (v := 0) hx hb dX10_isHour_1 (by decide) ?_
  refine lv_sipush (v := 599) hx hb dX10_isHour_2 (by decide) ?_
  refine cg0 (rn_S (As := [.int n, .int 0, .int 599]) (rest := []) (c_isWithin l D Y Z H.size n 0 599 (0) (599) (by decide) (by decide)) ⟨hx, hb, hml, hown, hg⟩ lk_X10_100 ⟨CP.blind, CP.at nilP hKN (nilD (A := fun _ => True))⟩ ⟨⟨rfl, rfl⟩, ⟨Nat.le_of_ble_eq_true rfl, Nat.le_of_ble_eq_true rfl⟩, ⟨Nat.le_of_ble_eq_true rfl, Nat.le_of_ble_eq_true rfl⟩⟩ hl.1 rfl (Nat.le_of_ble_eq_true rfl) dX10_isHour_5) hP hS hA (fun u1 H locs w2 hP hS => ?_)
  rcases w2 with ⟨w2, rfl⟩ | ⟨w2, rfl⟩
  · skip
    refine W.eq (g2 := F0 m 8 ls [.int 1]) rfl ?_
    refine W.widen (k := 0) (n := 0) (Nat.le_of_ble_eq_true rfl) (Nat.le_of_ble_eq_true rfl) ?_
    exact W.zret (v := 1) hx hb hr (by decide) (fun t ht hW => ⟨⟨1, rfl, (Or.inl ⟨by omega, rfl⟩), CB.nil⟩, hS.F ht⟩) hS.2.2 dX10_isHour_8
  · skip
    refine W.eq (g2 := F0 m 8 ls [.int 0]) rfl ?_
    refine W.widen (k := 0) (n := 0) (Nat.le_of_ble_eq_true rfl) (Nat.le_of_ble_eq_true rfl) ?_
    exact W.zret (v := 0) hx hb hr (by decide) (fun t ht hW => ⟨⟨0, rfl, (Or.inr ⟨by omega, rfl⟩), CB.nil⟩, hS.F ht⟩) hS.2.2 dX10_isHour_8
set_option maxHeartbeats 4000000 in
set_option maxRecDepth 100000 in
theorem c_isSize (l : Launch) (D : va_G) (Y : Nat → ClassId) (Z : Nat → Nat) (sz : Nat) (n : Int32) : Met l yX10_isSize (.code yX10_isSize cX10_isSize 1 (some .boolean) :: GW) ({ frames := 1, cells := 0, slots := 0, locals := 22 }) (va_Pc [.int n] (CP D Y Z [] sz)) (QG (S := Int32) (fun r => some (.int r)) (fun r => ((1 ≤ n.toInt ∧ n.toInt ≤ 999) ∧ r = 1) ∨ (¬ (1 ≤ n.toInt ∧ n.toInt ≤ 999) ∧ r = 0)) (fun u => CB D ((fun _ => []) u) (va_A [] sz)) (va_A [] sz)) 0 0 (va_A [] sz) := by
  refine Met.ofW (cc := cX10_isSize) (maxL := 1) (ret := (some .boolean)) (by decide) rfl ?_
  intro p e s m args below meth c s₁ B hml hv
  obtain ⟨rfl, hsz, hP, hKN, hD0⟩ := hv
  have hx := B.exec
  have hb := B.bytes
  have hr := B.returns
  have hts := atoms_spec (ws := .code yX10_isSize cX10_isSize 1 (some .boolean) :: GW) B.pre
  have hg : ∀ w ∈ GW, w.before _ s = true := fun w h => hts w (List.mem_cons_of_mem _ h)
  have hown : s.vm.findClass RX10 = some m.cls := findClass_of_methodNamed B.named
  have hlocks := B.notSynchronized
  subst hsz
  have hD := hD0.self (sz := s.heap.size)
  generalize hAe : va_A [] s.heap.size = A at hD ⊢
  have hA : ∀ q : Nat, s.heap.size ≤ q → A q := fun q h => by rw [← hAe]; exact Or.inr h
  have hl := lv_entry ([.int n]) (n := 1) (Nat.le_of_ble_eq_true rfl)
  rw [lg_entry_eq]
  generalize (lg_sl ([.int n]) ++ List.replicate (1 - (lg_sl ([.int n])).length) Slot.unset).toArray = ls at hl ⊢
  have hl : lv_has ls 1 [(0, .int n)] := hl
  refine w_start (A0 := A) hP (fun H locs hP hS => ?_)
  refine lv_iload_n hx hb dX10_isSize_0 rfl (lv_at hl 0 rfl) ?_
  refine lv_iconst (v := 1) hx hb dX10_isSize_1 (by decide) ?_
  refine lv_sipush (v := 999) hx hb dX10_isSize_2 (by decide) ?_
  refine cg0 (rn_S (As := [.int n, .int 1, .int 999]) (rest := []) (c_isWithin l D Y Z H.size n 1 999 (1) (999) (by decide) (by decide)) ⟨hx, hb, hml, hown, hg⟩ lk_X10_100 ⟨CP.blind, CP.at nilP hKN (nilD (A := fun _ => True))⟩ ⟨⟨rfl, rfl⟩, ⟨Nat.le_of_ble_eq_true rfl, Nat.le_of_ble_eq_true rfl⟩, ⟨Nat.le_of_ble_eq_true rfl, Nat.le_of_ble_eq_true rfl⟩⟩ hl.1 rfl (Nat.le_of_ble_eq_true rfl) dX10_isSize_5) hP hS hA (fun u1 H locs w2 hP hS => ?_)
  rcases w2 with ⟨w2, rfl⟩ | ⟨w2, rfl⟩
  · skip
    refine W.eq (g2 := F0 m 8 ls [.int 1]) rfl ?_
    refine W.widen (k := 0) (n := 0) (Nat.le_of_ble_eq_true rfl) (Nat.le_of_ble_eq_true rfl) ?_
    exact W.zret (v := 1) hx hb hr (by decide) (fun t ht hW => ⟨⟨1, rfl, (Or.inl ⟨by omega, rfl⟩), CB.nil⟩, hS.F ht⟩) hS.2.2 dX10_isSize_8
  · skip
    refine W.eq (g2 := F0 m 8 ls [.int 0]) rfl ?_
    refine W.widen (k := 0) (n := 0) (Nat.le_of_ble_eq_true rfl) (Nat.le_of_ble_eq_true rfl) ?_
    exact W.zret (v := 0) hx hb hr (by decide) (fun t ht hW => ⟨⟨0, rfl, (Or.inr ⟨by omega, rfl⟩), CB.nil⟩, hS.F ht⟩) hS.2.2 dX10_isSize_8
set_option maxHeartbeats 4000000 in
set_option maxRecDepth 100000 in
theorem c_isWay (l : Launch) (D : va_G) (Y : Nat → ClassId) (Z : Nat → Nat) (sz : Nat) (n : Int32) : Met l yX10_isWay (.code yX10_isWay cX10_isWay 1 (some .boolean) :: GW) ({ frames := 1, cells := 0, slots := 0, locals := 22 }) (va_Pc [.int n] (CP D Y Z [] sz)) (QG (S := Int32) (fun r => some (.int r)) (fun r => ((0 ≤ n.toInt ∧ n.toInt ≤ 5) ∧ r = 1) ∨ (¬ (0 ≤ n.toInt ∧ n.toInt ≤ 5) ∧ r = 0)) (fun u => CB D ((fun _ => []) u) (va_A [] sz)) (va_A [] sz)) 0 0 (va_A [] sz) := by
  refine Met.ofW (cc := cX10_isWay) (maxL := 1) (ret := (some .boolean)) (by decide) rfl ?_
  intro p e s m args below meth c s₁ B hml hv
  obtain ⟨rfl, hsz, hP, hKN, hD0⟩ := hv
  have hx := B.exec
  have hb := B.bytes
  have hr := B.returns
  have hts := atoms_spec (ws := .code yX10_isWay cX10_isWay 1 (some .boolean) :: GW) B.pre
  have hg : ∀ w ∈ GW, w.before _ s = true := fun w h => hts w (List.mem_cons_of_mem _ h)
  have hown : s.vm.findClass RX10 = some m.cls := findClass_of_methodNamed B.named
  have hlocks := B.notSynchronized
  subst hsz
  have hD := hD0.self (sz := s.heap.size)
  generalize hAe : va_A [] s.heap.size = A at hD ⊢
  have hA : ∀ q : Nat, s.heap.size ≤ q → A q := fun q h => by rw [← hAe]; exact Or.inr h
  have hl := lv_entry ([.int n]) (n := 1) (Nat.le_of_ble_eq_true rfl)
  rw [lg_entry_eq]
  generalize (lg_sl ([.int n]) ++ List.replicate (1 - (lg_sl ([.int n])).length) Slot.unset).toArray = ls at hl ⊢
  have hl : lv_has ls 1 [(0, .int n)] := hl
  refine w_start (A0 := A) hP (fun H locs hP hS => ?_)
  refine lv_iload_n hx hb dX10_isWay_0 rfl (lv_at hl 0 rfl) ?_
  refine lv_iconst (v := 0) hx hb dX10_isWay_1 (by decide) ?_
  refine lv_iconst (v := 5) hx hb dX10_isWay_2 (by decide) ?_
  refine cg0 (rn_S (As := [.int n, .int 0, .int 5]) (rest := []) (c_isWithin l D Y Z H.size n 0 5 (0) (5) (by decide) (by decide)) ⟨hx, hb, hml, hown, hg⟩ lk_X10_100 ⟨CP.blind, CP.at nilP hKN (nilD (A := fun _ => True))⟩ ⟨⟨rfl, rfl⟩, ⟨Nat.le_of_ble_eq_true rfl, Nat.le_of_ble_eq_true rfl⟩, ⟨Nat.le_of_ble_eq_true rfl, Nat.le_of_ble_eq_true rfl⟩⟩ hl.1 rfl (Nat.le_of_ble_eq_true rfl) dX10_isWay_3) hP hS hA (fun u1 H locs w2 hP hS => ?_)
  rcases w2 with ⟨w2, rfl⟩ | ⟨w2, rfl⟩
  · skip
    refine W.eq (g2 := F0 m 6 ls [.int 1]) rfl ?_
    refine W.widen (k := 0) (n := 0) (Nat.le_of_ble_eq_true rfl) (Nat.le_of_ble_eq_true rfl) ?_
    exact W.zret (v := 1) hx hb hr (by decide) (fun t ht hW => ⟨⟨1, rfl, (Or.inl ⟨by omega, rfl⟩), CB.nil⟩, hS.F ht⟩) hS.2.2 dX10_isWay_6
  · skip
    refine W.eq (g2 := F0 m 6 ls [.int 0]) rfl ?_
    refine W.widen (k := 0) (n := 0) (Nat.le_of_ble_eq_true rfl) (Nat.le_of_ble_eq_true rfl) ?_
    exact W.zret (v := 0) hx hb hr (by decide) (fun t ht hW => ⟨⟨0, rfl, (Or.inr ⟨by omega, rfl⟩), CB.nil⟩, hS.F ht⟩) hS.2.2 dX10_isWay_6
set_option maxHeartbeats 4000000 in
set_option maxRecDepth 100000 in
theorem c_isBeat (l : Launch) (D : va_G) (Y : Nat → ClassId) (Z : Nat → Nat) (sz : Nat) (n : Int32) : Met l yX10_isBeat (.code yX10_isBeat cX10_isBeat 1 (some .boolean) :: GW) ({ frames := 1, cells := 0, slots := 0, locals := 22 }) (va_Pc [.int n] (CP D Y Z [] sz)) (QG (S := Int32) (fun r => some (.int r)) (fun r => ((2 ≤ n.toInt ∧ n.toInt ≤ 200) ∧ r = 1) ∨ (¬ (2 ≤ n.toInt ∧ n.toInt ≤ 200) ∧ r = 0)) (fun u => CB D ((fun _ => []) u) (va_A [] sz)) (va_A [] sz)) 0 0 (va_A [] sz) := by
  refine Met.ofW (cc := cX10_isBeat) (maxL := 1) (ret := (some .boolean)) (by decide) rfl ?_
  intro p e s m args below meth c s₁ B hml hv
  obtain ⟨rfl, hsz, hP, hKN, hD0⟩ := hv
  have hx := B.exec
  have hb := B.bytes
  have hr := B.returns
  have hts := atoms_spec (ws := .code yX10_isBeat cX10_isBeat 1 (some .boolean) :: GW) B.pre
  have hg : ∀ w ∈ GW, w.before _ s = true := fun w h => hts w (List.mem_cons_of_mem _ h)
  have hown : s.vm.findClass RX10 = some m.cls := findClass_of_methodNamed B.named
  have hlocks := B.notSynchronized
  subst hsz
  have hD := hD0.self (sz := s.heap.size)
  generalize hAe : va_A [] s.heap.size = A at hD ⊢
  have hA : ∀ q : Nat, s.heap.size ≤ q → A q := fun q h => by rw [← hAe]; exact Or.inr h
  have hl := lv_entry ([.int n]) (n := 1) (Nat.le_of_ble_eq_true rfl)
  rw [lg_entry_eq]
  generalize (lg_sl ([.int n]) ++ List.replicate (1 - (lg_sl ([.int n])).length) Slot.unset).toArray = ls at hl ⊢
  have hl : lv_has ls 1 [(0, .int n)] := hl
  refine w_start (A0 := A) hP (fun H locs hP hS => ?_)
  refine lv_iload_n hx hb dX10_isBeat_0 rfl (lv_at hl 0 rfl) ?_
  refine lv_iconst (v := 2) hx hb dX10_isBeat_1 (by decide) ?_
  refine lv_sipush (v := 200) hx hb dX10_isBeat_2 (by decide) ?_
  refine cg0 (rn_S (As := [.int n, .int 2, .int 200]) (rest := []) (c_isWithin l D Y Z H.size n 2 200 (2) (200) (by decide) (by decide)) ⟨hx, hb, hml, hown, hg⟩ lk_X10_100 ⟨CP.blind, CP.at nilP hKN (nilD (A := fun _ => True))⟩ ⟨⟨rfl, rfl⟩, ⟨Nat.le_of_ble_eq_true rfl, Nat.le_of_ble_eq_true rfl⟩, ⟨Nat.le_of_ble_eq_true rfl, Nat.le_of_ble_eq_true rfl⟩⟩ hl.1 rfl (Nat.le_of_ble_eq_true rfl) dX10_isBeat_5) hP hS hA (fun u1 H locs w2 hP hS => ?_)
  rcases w2 with ⟨w2, rfl⟩ | ⟨w2, rfl⟩
  · skip
    refine W.eq (g2 := F0 m 8 ls [.int 1]) rfl ?_
    refine W.widen (k := 0) (n := 0) (Nat.le_of_ble_eq_true rfl) (Nat.le_of_ble_eq_true rfl) ?_
    exact W.zret (v := 1) hx hb hr (by decide) (fun t ht hW => ⟨⟨1, rfl, (Or.inl ⟨by omega, rfl⟩), CB.nil⟩, hS.F ht⟩) hS.2.2 dX10_isBeat_8
  · skip
    refine W.eq (g2 := F0 m 8 ls [.int 0]) rfl ?_
    refine W.widen (k := 0) (n := 0) (Nat.le_of_ble_eq_true rfl) (Nat.le_of_ble_eq_true rfl) ?_
    exact W.zret (v := 0) hx hb hr (by decide) (fun t ht hW => ⟨⟨0, rfl, (Or.inr ⟨by omega, rfl⟩), CB.nil⟩, hS.F ht⟩) hS.2.2 dX10_isBeat_8
set_option maxHeartbeats 4000000 in
set_option maxRecDepth 100000 in
theorem c_in (l : Launch) (D : va_G) (Y : Nat → ClassId) (Z : Nat → Nat) (sz : Nat) (n a b : Int64) (N0 A0 B0 : Int) (hn : n.toInt = N0) (ha : a.toInt = A0) (hb0 : b.toInt = B0) : Met l yX11_in (.code yX11_in cX11_in 6 (some .boolean) :: GW) ({ frames := 0, cells := 0, slots := 0, locals := 0 }) (va_Pc [.long n, .long a, .long b] (CP D Y Z [] sz)) (QG (S := Int32) (fun r => some (.int r)) (fun r => ((A0 ≤ N0 ∧ N0 ≤ B0) ∧ r = 1) ∨ (¬ (A0 ≤ N0 ∧ N0 ≤ B0) ∧ r = 0)) (fun u => CB D ((fun _ => []) u) (va_A [] sz)) (va_A [] sz)) 0 0 (va_A [] sz) := by
  refine Met.ofW (cc := cX11_in) (maxL := 6) (ret := (some .boolean)) (by decide) rfl ?_
  intro p e s m args below meth c s₁ B hml hv
  obtain ⟨rfl, hsz, hP, hKN, hD0⟩ := hv
  have hx := B.exec
  have hb := B.bytes
  have hr := B.returns
  have hts := atoms_spec (ws := .code yX11_in cX11_in 6 (some .boolean) :: GW) B.pre
  have hg : ∀ w ∈ GW, w.before _ s = true := fun w h => hts w (List.mem_cons_of_mem _ h)
  have hown : s.vm.findClass RX11 = some m.cls := findClass_of_methodNamed B.named
  have hlocks := B.notSynchronized
  subst hsz
  have hD := hD0.self (sz := s.heap.size)
  generalize hAe : va_A [] s.heap.size = A at hD ⊢
  have hA : ∀ q : Nat, s.heap.size ≤ q → A q := fun q h => by rw [← hAe]; exact Or.inr h
  have hl := lv_entry ([.long n, .long a, .long b]) (n := 6) (Nat.le_of_ble_eq_true rfl)
  rw [lg_entry_eq]
  generalize (lg_sl ([.long n, .long a, .long b]) ++ List.replicate (6 - (lg_sl ([.long n, .long a, .long b])).length) Slot.unset).toArray = ls at hl ⊢
  have hl : lv_has ls 6 [(0, .long n), (2, .long a), (4, .long b)] := hl
  refine w_start (A0 := A) hP (fun H locs hP hS => ?_)
  refine lv_lload_n hx hb dX11_in_0 rfl (lv_at hl 0 rfl) ?_
  refine lv_lload_n hx hb dX11_in_1 rfl (lv_at hl 1 rfl) ?_
  refine W.lcmp hx hb dX11_in_2 ?_
  refine lv_if_lt (tgt := 17) hx hb dX11_in_3 (by decide) (fun c1 => ?_) (fun c1 => ?_)
  · skip
    have c1 := l_lt (Eq.refl (n).toInt) (Eq.refl (a).toInt) c1
    refine lv_iconst (v := 0) hx hb dX11_in_17 (by decide) ?_
    refine W.widen (k := 0) (n := 0) (Nat.le_of_ble_eq_true rfl) (Nat.le_of_ble_eq_true rfl) ?_
    exact W.zret (v := 0) hx hb hr (by decide) (fun t ht hW => ⟨⟨0, rfl, (Or.inr ⟨by omega, rfl⟩), CB.nil⟩, hS.F ht⟩) hS.2.2 dX11_in_18
  · skip
    have c1 := l_nlt (Eq.refl (n).toInt) (Eq.refl (a).toInt) c1
    refine lv_lload_n hx hb dX11_in_6 rfl (lv_at hl 0 rfl) ?_
    refine lv_lload hx hb dX11_in_7 (lv_at hl 2 rfl) ?_
    refine W.lcmp hx hb dX11_in_9 ?_
    refine lv_if_gt (tgt := 17) hx hb dX11_in_10 (by decide) (fun c2 => ?_) (fun c2 => ?_)
    · skip
      have c2 := l_gt (Eq.refl (n).toInt) (Eq.refl (b).toInt) c2
      refine lv_iconst (v := 0) hx hb dX11_in_17 (by decide) ?_
      refine W.widen (k := 0) (n := 0) (Nat.le_of_ble_eq_true rfl) (Nat.le_of_ble_eq_true rfl) ?_
      exact W.zret (v := 0) hx hb hr (by decide) (fun t ht hW => ⟨⟨0, rfl, (Or.inr ⟨by omega, rfl⟩), CB.nil⟩, hS.F ht⟩) hS.2.2 dX11_in_18
    · skip
      have c2 := l_ngt (Eq.refl (n).toInt) (Eq.refl (b).toInt) c2
      refine lv_iconst (v := 1) hx hb dX11_in_13 (by decide) ?_
      refine lv_goto (tgt := 18) hx hb dX11_in_14 (by decide) ?_
      refine W.widen (k := 0) (n := 0) (Nat.le_of_ble_eq_true rfl) (Nat.le_of_ble_eq_true rfl) ?_
      exact W.zret (v := 1) hx hb hr (by decide) (fun t ht hW => ⟨⟨1, rfl, (Or.inl ⟨by omega, rfl⟩), CB.nil⟩, hS.F ht⟩) hS.2.2 dX11_in_18
set_option maxHeartbeats 4000000 in
set_option maxRecDepth 100000 in
theorem c_mHour (l : Launch) (D : va_G) (Y : Nat → ClassId) (Z : Nat → Nat) (sz : Nat) (n : Int32) : Met l yX11_isHour (.code yX11_isHour cX11_isHour 1 (some .boolean) :: GW) ({ frames := 0, cells := 0, slots := 0, locals := 0 }) (va_Pc [.int n] (CP D Y Z [] sz)) (QG (S := Int32) (fun r => some (.int r)) (fun r => ((0 ≤ n.toInt ∧ n.toInt ≤ 599) ∧ r = 1) ∨ (¬ (0 ≤ n.toInt ∧ n.toInt ≤ 599) ∧ r = 0)) (fun u => CB D ((fun _ => []) u) (va_A [] sz)) (va_A [] sz)) 0 0 (va_A [] sz) := by
  refine Met.ofW (cc := cX11_isHour) (maxL := 1) (ret := (some .boolean)) (by decide) rfl ?_
  intro p e s m args below meth c s₁ B hml hv
  obtain ⟨rfl, hsz, hP, hKN, hD0⟩ := hv
  have hx := B.exec
  have hb := B.bytes
  have hr := B.returns
  have hts := atoms_spec (ws := .code yX11_isHour cX11_isHour 1 (some .boolean) :: GW) B.pre
  have hg : ∀ w ∈ GW, w.before _ s = true := fun w h => hts w (List.mem_cons_of_mem _ h)
  have hown : s.vm.findClass RX11 = some m.cls := findClass_of_methodNamed B.named
  have hlocks := B.notSynchronized
  subst hsz
  have hD := hD0.self (sz := s.heap.size)
  generalize hAe : va_A [] s.heap.size = A at hD ⊢
  have hA : ∀ q : Nat, s.heap.size ≤ q → A q := fun q h => by rw [← hAe]; exact Or.inr h
  have hl := lv_entry ([.int n]) (n := 1) (Nat.le_of_ble_eq_true rfl)
  rw [lg_entry_eq]
  generalize (lg_sl ([.int n]) ++ List.replicate (1 - (lg_sl ([.int n])).length) Slot.unset).toArray = ls at hl ⊢
  have hl : lv_has ls 1 [(0, .int n)] := hl
  refine w_start (A0 := A) hP (fun H locs hP hS => ?_)
  refine lv_iload_n hx hb dX11_isHour_0 rfl (lv_at hl 0 rfl) ?_
  refine lv_if_lt (tgt := 15) hx hb dX11_isHour_1 (by decide) (fun c1 => ?_) (fun c1 => ?_)
  · skip
    have c1 := i_lt (Eq.refl (n).toInt) (show (0 : Int32).toInt = 0 by decide) c1
    refine lv_iconst (v := 0) hx hb dX11_isHour_15 (by decide) ?_
    refine W.widen (k := 0) (n := 0) (Nat.le_of_ble_eq_true rfl) (Nat.le_of_ble_eq_true rfl) ?_
    exact W.zret (v := 0) hx hb hr (by decide) (fun t ht hW => ⟨⟨0, rfl, (Or.inr ⟨by omega, rfl⟩), CB.nil⟩, hS.F ht⟩) hS.2.2 dX11_isHour_16
  · skip
    have c1 := i_nlt (Eq.refl (n).toInt) (show (0 : Int32).toInt = 0 by decide) c1
    refine lv_iload_n hx hb dX11_isHour_4 rfl (lv_at hl 0 rfl) ?_
    refine lv_sipush (v := 600) hx hb dX11_isHour_5 (by decide) ?_
    refine lv_icmp_ge (tgt := 15) hx hb dX11_isHour_8 (by decide) (fun c2 => ?_) (fun c2 => ?_)
    · skip
      have c2 := i_le (show (600 : Int32).toInt = 600 by decide) (Eq.refl (n).toInt) c2
      refine lv_iconst (v := 0) hx hb dX11_isHour_15 (by decide) ?_
      refine W.widen (k := 0) (n := 0) (Nat.le_of_ble_eq_true rfl) (Nat.le_of_ble_eq_true rfl) ?_
      exact W.zret (v := 0) hx hb hr (by decide) (fun t ht hW => ⟨⟨0, rfl, (Or.inr ⟨by omega, rfl⟩), CB.nil⟩, hS.F ht⟩) hS.2.2 dX11_isHour_16
    · skip
      have c2 := i_nle (show (600 : Int32).toInt = 600 by decide) (Eq.refl (n).toInt) c2
      refine lv_iconst (v := 1) hx hb dX11_isHour_11 (by decide) ?_
      refine lv_goto (tgt := 16) hx hb dX11_isHour_12 (by decide) ?_
      refine W.widen (k := 0) (n := 0) (Nat.le_of_ble_eq_true rfl) (Nat.le_of_ble_eq_true rfl) ?_
      exact W.zret (v := 1) hx hb hr (by decide) (fun t ht hW => ⟨⟨1, rfl, (Or.inl ⟨by omega, rfl⟩), CB.nil⟩, hS.F ht⟩) hS.2.2 dX11_isHour_16
set_option maxHeartbeats 4000000 in
set_option maxRecDepth 100000 in
theorem c_starAt (l : Launch) (D : va_G) (Y : Nat → ClassId) (Z : Nat → Nat) (sz : Nat) (q : Nat) (b : Nat → Nat) (n : Int32) : Met l yX6_starAt (.code yX6_starAt cX6_starAt 2 (some (.object "DimStars$Star")) :: GW) ({ frames := 0, cells := 0, slots := 0, locals := 0 }) (va_Pc [.ref q, .int n] (CP D Y Z [(q, .inr (6, (skF b)))] sz)) (QG (S := Unit) (fun _ => some (.null)) (fun _ => True) (fun u => CB D ((fun _ => [(q, .inr (6, (skF b)))]) u) (va_A [(q, .inr (6, (skF b)))] sz)) (va_A [(q, .inr (6, (skF b)))] sz)) 0 0 (va_A [(q, .inr (6, (skF b)))] sz) := by
  refine Met.ofW (cc := cX6_starAt) (maxL := 2) (ret := (some (.object "DimStars$Star"))) (by decide) rfl ?_
  intro p e s m args below meth c s₁ B hml hv
  obtain ⟨rfl, hsz, hP, hKN, hD0⟩ := hv
  have hx := B.exec
  have hb := B.bytes
  have hr := B.returns
  have hts := atoms_spec (ws := .code yX6_starAt cX6_starAt 2 (some (.object "DimStars$Star")) :: GW) B.pre
  have hg : ∀ w ∈ GW, w.before _ s = true := fun w h => hts w (List.mem_cons_of_mem _ h)
  have hown : s.vm.findClass RX6 = some m.cls := findClass_of_methodNamed B.named
  have hlocks := B.notSynchronized
  subst hsz
  have hD := hD0.self (sz := s.heap.size)
  generalize hAe : va_A [(q, .inr (6, (skF b)))] s.heap.size = A at hD ⊢
  have hA : ∀ q : Nat, s.heap.size ≤ q → A q := fun q h => by rw [← hAe]; exact Or.inr h
  have hl := lv_entry ([.ref q, .int n]) (n := 2) (Nat.le_of_ble_eq_true rfl)
  rw [lg_entry_eq]
  generalize (lg_sl ([.ref q, .int n]) ++ List.replicate (2 - (lg_sl ([.ref q, .int n])).length) Slot.unset).toArray = ls at hl ⊢
  have hl : lv_has ls 2 [(0, .ref q), (1, .int n)] := hl
  refine w_start (A0 := A) hP (fun H locs hP hS => ?_)
  refine lv_iload_n hx hb dX6_starAt_0 rfl (lv_at hl 1 rfl) ?_
  refine lv_if_lt (tgt := 27) hx hb dX6_starAt_1 (by decide) (fun c1 => ?_) (fun c1 => ?_)
  · skip
    have c1 := i_lt (Eq.refl (n).toInt) (show (0 : Int32).toInt = 0 by decide) c1
    refine lv_null hx hb dX6_starAt_27 ?_
    refine W.widen (k := 0) (n := 0) (Nat.le_of_ble_eq_true rfl) (Nat.le_of_ble_eq_true rfl) ?_
    exact W.aret (v := .null) hx hb hr (Or.inl ⟨_, rfl⟩) (Or.inl rfl) (fun t ht hW => ⟨⟨(), rfl, trivial, CB.mk ht (hP.sub [0] rfl) (hD.sub [0] (by decide) rfl)⟩, hS.F ht⟩) hS.2.2 dX6_starAt_28
  · skip
    have c1 := i_nlt (Eq.refl (n).toInt) (show (0 : Int32).toInt = 0 by decide) c1
    refine lv_iload_n hx hb dX6_starAt_4 rfl (lv_at hl 1 rfl) ?_
    refine lv_aload_n hx hb dX6_starAt_5 rfl (lv_at hl 0 rfl) ?_
    refine va_get (D := D) (ci := 6) (v := .int 0) (C := RX6) (T := TX6) (N := 13) hx hb hg inGX6 hown hKN.1 hP 0 rfl rfl 0 (by decide) (hg _ kw_39) (fun _ h9 => h9) rfl dX6_starAt_6 ?_
    refine lv_icmp_ge (tgt := 27) hx hb dX6_starAt_9 (by decide) (fun c2 => ?_) (fun c2 => ?_)
    · skip
      have c2 := i_le (show (0 : Int32).toInt = 0 by decide) (Eq.refl (n).toInt) c2
      refine lv_null hx hb dX6_starAt_27 ?_
      refine W.widen (k := 0) (n := 0) (Nat.le_of_ble_eq_true rfl) (Nat.le_of_ble_eq_true rfl) ?_
      exact W.aret (v := .null) hx hb hr (Or.inl ⟨_, rfl⟩) (Or.inl rfl) (fun t ht hW => ⟨⟨(), rfl, trivial, CB.mk ht (hP.sub [0] rfl) (hD.sub [0] (by decide) rfl)⟩, hS.F ht⟩) hS.2.2 dX6_starAt_28
    · skip
      have c2 := i_nle (show (0 : Int32).toInt = 0 by decide) (Eq.refl (n).toInt) c2
      exfalso; omega
set_option maxHeartbeats 4000000 in
set_option maxRecDepth 100000 in
theorem c_worldAt (l : Launch) (D : va_G) (Y : Nat → ClassId) (Z : Nat → Nat) (sz : Nat) (q : Nat) (b : Nat → Nat) (n : Int32) : Met l yX6_worldAt (.code yX6_worldAt cX6_worldAt 2 (some (.object "DimStars$World")) :: GW) ({ frames := 0, cells := 0, slots := 0, locals := 0 }) (va_Pc [.ref q, .int n] (CP D Y Z [(q, .inr (6, (skF b)))] sz)) (QG (S := Unit) (fun _ => some (.null)) (fun _ => True) (fun u => CB D ((fun _ => [(q, .inr (6, (skF b)))]) u) (va_A [(q, .inr (6, (skF b)))] sz)) (va_A [(q, .inr (6, (skF b)))] sz)) 0 0 (va_A [(q, .inr (6, (skF b)))] sz) := by
  refine Met.ofW (cc := cX6_worldAt) (maxL := 2) (ret := (some (.object "DimStars$World"))) (by decide) rfl ?_
  intro p e s m args below meth c s₁ B hml hv
  obtain ⟨rfl, hsz, hP, hKN, hD0⟩ := hv
  have hx := B.exec
  have hb := B.bytes
  have hr := B.returns
  have hts := atoms_spec (ws := .code yX6_worldAt cX6_worldAt 2 (some (.object "DimStars$World")) :: GW) B.pre
  have hg : ∀ w ∈ GW, w.before _ s = true := fun w h => hts w (List.mem_cons_of_mem _ h)
  have hown : s.vm.findClass RX6 = some m.cls := findClass_of_methodNamed B.named
  have hlocks := B.notSynchronized
  subst hsz
  have hD := hD0.self (sz := s.heap.size)
  generalize hAe : va_A [(q, .inr (6, (skF b)))] s.heap.size = A at hD ⊢
  have hA : ∀ q : Nat, s.heap.size ≤ q → A q := fun q h => by rw [← hAe]; exact Or.inr h
  have hl := lv_entry ([.ref q, .int n]) (n := 2) (Nat.le_of_ble_eq_true rfl)
  rw [lg_entry_eq]
  generalize (lg_sl ([.ref q, .int n]) ++ List.replicate (2 - (lg_sl ([.ref q, .int n])).length) Slot.unset).toArray = ls at hl ⊢
  have hl : lv_has ls 2 [(0, .ref q), (1, .int n)] := hl
  refine w_start (A0 := A) hP (fun H locs hP hS => ?_)
  refine lv_iload_n hx hb dX6_worldAt_0 rfl (lv_at hl 1 rfl) ?_
  refine lv_if_lt (tgt := 27) hx hb dX6_worldAt_1 (by decide) (fun c1 => ?_) (fun c1 => ?_)
  · skip
    have c1 := i_lt (Eq.refl (n).toInt) (show (0 : Int32).toInt = 0 by decide) c1
    refine lv_null hx hb dX6_worldAt_27 ?_
    refine W.widen (k := 0) (n := 0) (Nat.le_of_ble_eq_true rfl) (Nat.le_of_ble_eq_true rfl) ?_
    exact W.aret (v := .null) hx hb hr (Or.inl ⟨_, rfl⟩) (Or.inl rfl) (fun t ht hW => ⟨⟨(), rfl, trivial, CB.mk ht (hP.sub [0] rfl) (hD.sub [0] (by decide) rfl)⟩, hS.F ht⟩) hS.2.2 dX6_worldAt_28
  · skip
    have c1 := i_nlt (Eq.refl (n).toInt) (show (0 : Int32).toInt = 0 by decide) c1
    refine lv_iload_n hx hb dX6_worldAt_4 rfl (lv_at hl 1 rfl) ?_
    refine lv_aload_n hx hb dX6_worldAt_5 rfl (lv_at hl 0 rfl) ?_
    refine va_get (D := D) (ci := 6) (v := .int 0) (C := RX6) (T := TX6) (N := 13) hx hb hg inGX6 hown hKN.1 hP 0 rfl rfl 2 (by decide) (hg _ kw_43) (fun _ h9 => h9) rfl dX6_worldAt_6 ?_
    refine lv_icmp_ge (tgt := 27) hx hb dX6_worldAt_9 (by decide) (fun c2 => ?_) (fun c2 => ?_)
    · skip
      have c2 := i_le (show (0 : Int32).toInt = 0 by decide) (Eq.refl (n).toInt) c2
      refine lv_null hx hb dX6_worldAt_27 ?_
      refine W.widen (k := 0) (n := 0) (Nat.le_of_ble_eq_true rfl) (Nat.le_of_ble_eq_true rfl) ?_
      exact W.aret (v := .null) hx hb hr (Or.inl ⟨_, rfl⟩) (Or.inl rfl) (fun t ht hW => ⟨⟨(), rfl, trivial, CB.mk ht (hP.sub [0] rfl) (hD.sub [0] (by decide) rfl)⟩, hS.F ht⟩) hS.2.2 dX6_worldAt_28
    · skip
      have c2 := i_nle (show (0 : Int32).toInt = 0 by decide) (Eq.refl (n).toInt) c2
      exfalso; omega
set_option maxHeartbeats 4000000 in
set_option maxRecDepth 100000 in
theorem c_isStar (l : Launch) (D : va_G) (Y : Nat → ClassId) (Z : Nat → Nat) (sz : Nat) (o : Nat) (b : Nat → Nat) (n : Int32) : Met l yX10_isStar (.code yX10_isStar cX10_isStar 2 (some .boolean) :: GW) ({ frames := 1, cells := 0, slots := 0, locals := 21 }) (va_Pc [.ref o, .int n] (CP D Y Z [(o, .inr (10, (dsF b))), ((b 0), .inr (6, (skF b)))] sz)) (QG (S := Unit) (fun _ => some (.int 0)) (fun _ => True) (fun u => CB D ((fun _ => [(o, .inr (10, (dsF b))), ((b 0), .inr (6, (skF b)))]) u) (va_A [(o, .inr (10, (dsF b))), ((b 0), .inr (6, (skF b)))] sz)) (va_A [(o, .inr (10, (dsF b))), ((b 0), .inr (6, (skF b)))] sz)) 0 0 (va_A [(o, .inr (10, (dsF b))), ((b 0), .inr (6, (skF b)))] sz) := by
  refine Met.ofW (cc := cX10_isStar) (maxL := 2) (ret := (some .boolean)) (by decide) rfl ?_
  intro p e s m args below meth c s₁ B hml hv
  obtain ⟨rfl, hsz, hP, hKN, hD0⟩ := hv
  have hx := B.exec
  have hb := B.bytes
  have hr := B.returns
  have hts := atoms_spec (ws := .code yX10_isStar cX10_isStar 2 (some .boolean) :: GW) B.pre
  have hg : ∀ w ∈ GW, w.before _ s = true := fun w h => hts w (List.mem_cons_of_mem _ h)
  have hown : s.vm.findClass RX10 = some m.cls := findClass_of_methodNamed B.named
  have hlocks := B.notSynchronized
  subst hsz
  have hD := hD0.self (sz := s.heap.size)
  generalize hAe : va_A [(o, .inr (10, (dsF b))), ((b 0), .inr (6, (skF b)))] s.heap.size = A at hD ⊢
  have hA : ∀ q : Nat, s.heap.size ≤ q → A q := fun q h => by rw [← hAe]; exact Or.inr h
  have hl := lv_entry ([.ref o, .int n]) (n := 2) (Nat.le_of_ble_eq_true rfl)
  rw [lg_entry_eq]
  generalize (lg_sl ([.ref o, .int n]) ++ List.replicate (2 - (lg_sl ([.ref o, .int n])).length) Slot.unset).toArray = ls at hl ⊢
  have hl : lv_has ls 2 [(0, .ref o), (1, .int n)] := hl
  refine w_start (A0 := A) hP (fun H locs hP hS => ?_)
  refine lv_aload_n hx hb dX10_isStar_0 rfl (lv_at hl 0 rfl) ?_
  refine va_get (D := D) (ci := 10) (v := .ref (b 0)) (C := RX10) (T := TX10) (N := 20) hx hb hg inGX10 hown hKN.1 hP 0 rfl rfl 0 (by decide) (hg _ kw_349) (fun _ h9 => h9) rfl dX10_isStar_1 ?_
  refine lv_iload_n hx hb dX10_isStar_4 rfl (lv_at hl 1 rfl) ?_
  refine cg (wc := [((b 0), .inr (6, (skF b)))]) (wr := [(o, .inr (10, (dsF b)))]) [1] [0] (rn_NV (As := [.int n]) (rest := []) (b := (b 0)) (c_starAt l D Y Z H.size (b 0) b n) ⟨hx, hb, hml, hown, hg⟩ hKN lk_X10_108 ⟨CP.blind, va_recv hKN.1 hP (ci := 6) (q0 := 1) rfl rfl, CP.at (hP.sub [1] rfl) hKN (hD.sub [1] (by decide) rfl)⟩ ⟨⟨rfl, rfl⟩, ⟨Nat.le_of_ble_eq_true rfl, Nat.le_of_ble_eq_true rfl⟩, ⟨Nat.le_of_ble_eq_true rfl, Nat.le_of_ble_eq_true rfl⟩⟩ hl.1 rfl (Nat.le_of_ble_eq_true rfl) dX10_isStar_5) hP hD hS hA rfl rfl (by decide) (by decide) (fun u1 H locs w2 hP hD hS => ?_)
  refine W.eq (g2 := F0 m 8 ls [.null]) rfl ?_
  have hP : va_P D vwCl [(o, .inr (10, (dsF b))), ((b 0), .inr (6, (skF b)))] H := hP
  have hD : va_D A [(o, .inr (10, (dsF b))), ((b 0), .inr (6, (skF b)))] := hD
  refine lv_ifnullN (tgt := 15) hx hb dX10_isStar_8 (by decide) ?_
  refine lv_iconst (v := 0) hx hb dX10_isStar_15 (by decide) ?_
  refine W.widen (k := 0) (n := 0) (Nat.le_of_ble_eq_true rfl) (Nat.le_of_ble_eq_true rfl) ?_
  exact W.zret (v := 0) hx hb hr (by decide) (fun t ht hW => ⟨⟨(), rfl, trivial, CB.mk ht (hP.sub [0, 1] rfl) (hD.sub [0, 1] (by decide) rfl)⟩, hS.F ht⟩) hS.2.2 dX10_isStar_16
set_option maxHeartbeats 4000000 in
set_option maxRecDepth 100000 in
theorem c_lawAt (l : Launch) (D : va_G) (Y : Nat → ClassId) (Z : Nat → Nat) (sz : Nat) (o : Nat) (b : Nat → Nat) (n : Int32) : Met l yX10_lawAt (.code yX10_lawAt cX10_lawAt 2 (some (.object "DimStars$Text")) :: GW) ({ frames := 1, cells := 0, slots := 0, locals := 22 }) (va_Pc [.ref o, .int n] (CP D Y Z [(o, .inr (10, (dsF b)))] sz)) (QG (S := Unit) (fun _ => some (.null)) (fun _ => True) (fun u => CB D ((fun _ => [(o, .inr (10, (dsF b)))]) u) (va_A [(o, .inr (10, (dsF b)))] sz)) (va_A [(o, .inr (10, (dsF b)))] sz)) 0 0 (va_A [(o, .inr (10, (dsF b)))] sz) := by
  refine Met.ofW (cc := cX10_lawAt) (maxL := 2) (ret := (some (.object "DimStars$Text"))) (by decide) rfl ?_
  intro p e s m args below meth c s₁ B hml hv
  obtain ⟨rfl, hsz, hP, hKN, hD0⟩ := hv
  have hx := B.exec
  have hb := B.bytes
  have hr := B.returns
  have hts := atoms_spec (ws := .code yX10_lawAt cX10_lawAt 2 (some (.object "DimStars$Text")) :: GW) B.pre
  have hg : ∀ w ∈ GW, w.before _ s = true := fun w h => hts w (List.mem_cons_of_mem _ h)
  have hown : s.vm.findClass RX10 = some m.cls := findClass_of_methodNamed B.named
  have hlocks := B.notSynchronized
  subst hsz
  have hD := hD0.self (sz := s.heap.size)
  generalize hAe : va_A [(o, .inr (10, (dsF b)))] s.heap.size = A at hD ⊢
  have hA : ∀ q : Nat, s.heap.size ≤ q → A q := fun q h => by rw [← hAe]; exact Or.inr h
  have hl := lv_entry ([.ref o, .int n]) (n := 2) (Nat.le_of_ble_eq_true rfl)
  rw [lg_entry_eq]
  generalize (lg_sl ([.ref o, .int n]) ++ List.replicate (2 - (lg_sl ([.ref o, .int n])).length) Slot.unset).toArray = ls at hl ⊢
  have hl : lv_has ls 2 [(0, .ref o), (1, .int n)] := hl
  refine w_start (A0 := A) hP (fun H locs hP hS => ?_)
  refine lv_iload_n hx hb dX10_lawAt_0 rfl (lv_at hl 1 rfl) ?_
  refine lv_iconst (v := 0) hx hb dX10_lawAt_1 (by decide) ?_
  refine lv_aload_n hx hb dX10_lawAt_2 rfl (lv_at hl 0 rfl) ?_
  refine va_get (D := D) (ci := 10) (v := .int 0) (C := RX10) (T := TX10) (N := 20) hx hb hg inGX10 hown hKN.1 hP 0 rfl rfl 5 (by decide) (hg _ kw_354) (fun _ h9 => h9) rfl dX10_lawAt_3 ?_
  refine lv_iconst (v := 1) hx hb dX10_lawAt_6 (by decide) ?_
  refine lv_isub hx hb dX10_lawAt_7 ?_
  refine lv_topi (fun z1 ez1 => ?_)
  obtain rfl : z1 = (-1) := ez1.trans (by decide)
  refine cg0 (rn_S (As := [.int n, .int 0, .int (-1)]) (rest := []) (c_isWithin l D Y Z H.size n 0 (-1) (0) (-1) (by decide) (by decide)) ⟨hx, hb, hml, hown, hg⟩ lk_X10_100 ⟨CP.blind, CP.at nilP hKN (nilD (A := fun _ => True))⟩ ⟨⟨rfl, rfl⟩, ⟨Nat.le_of_ble_eq_true rfl, Nat.le_of_ble_eq_true rfl⟩, ⟨Nat.le_of_ble_eq_true rfl, Nat.le_of_ble_eq_true rfl⟩⟩ hl.1 rfl (Nat.le_of_ble_eq_true rfl) dX10_lawAt_8) hP hS hA (fun u2 H locs w3 hP hS => ?_)
  rcases w3 with ⟨w3, rfl⟩ | ⟨w3, rfl⟩
  · skip
    exfalso; omega
  · skip
    refine W.eq (g2 := F0 m 11 ls [.int 0]) rfl ?_
    refine lv_if_eq (tgt := 29) hx hb dX10_lawAt_11 (by decide) (fun c4 => ?_) (fun c4 => ?_)
    rotate_left
    · exact absurd c4 (by decide)
    refine lv_null hx hb dX10_lawAt_29 ?_
    refine W.widen (k := 0) (n := 0) (Nat.le_of_ble_eq_true rfl) (Nat.le_of_ble_eq_true rfl) ?_
    exact W.aret (v := .null) hx hb hr (Or.inl ⟨_, rfl⟩) (Or.inl rfl) (fun t ht hW => ⟨⟨(), rfl, trivial, CB.mk ht (hP.sub [0] rfl) (hD.sub [0] (by decide) rfl)⟩, hS.F ht⟩) hS.2.2 dX10_lawAt_30
set_option maxHeartbeats 4000000 in
set_option maxRecDepth 100000 in
theorem c_searchAt (l : Launch) (D : va_G) (Y : Nat → ClassId) (Z : Nat → Nat) (sz : Nat) (o : Nat) (b : Nat → Nat) (n : Int32) : Met l yX10_searchAt (.code yX10_searchAt cX10_searchAt 2 (some (.object "DimStars$Text")) :: GW) ({ frames := 1, cells := 0, slots := 0, locals := 22 }) (va_Pc [.ref o, .int n] (CP D Y Z [(o, .inr (10, (dsF b)))] sz)) (QG (S := Unit) (fun _ => some (.null)) (fun _ => True) (fun u => CB D ((fun _ => [(o, .inr (10, (dsF b)))]) u) (va_A [(o, .inr (10, (dsF b)))] sz)) (va_A [(o, .inr (10, (dsF b)))] sz)) 0 0 (va_A [(o, .inr (10, (dsF b)))] sz) := by
  refine Met.ofW (cc := cX10_searchAt) (maxL := 2) (ret := (some (.object "DimStars$Text"))) (by decide) rfl ?_
  intro p e s m args below meth c s₁ B hml hv
  obtain ⟨rfl, hsz, hP, hKN, hD0⟩ := hv
  have hx := B.exec
  have hb := B.bytes
  have hr := B.returns
  have hts := atoms_spec (ws := .code yX10_searchAt cX10_searchAt 2 (some (.object "DimStars$Text")) :: GW) B.pre
  have hg : ∀ w ∈ GW, w.before _ s = true := fun w h => hts w (List.mem_cons_of_mem _ h)
  have hown : s.vm.findClass RX10 = some m.cls := findClass_of_methodNamed B.named
  have hlocks := B.notSynchronized
  subst hsz
  have hD := hD0.self (sz := s.heap.size)
  generalize hAe : va_A [(o, .inr (10, (dsF b)))] s.heap.size = A at hD ⊢
  have hA : ∀ q : Nat, s.heap.size ≤ q → A q := fun q h => by rw [← hAe]; exact Or.inr h
  have hl := lv_entry ([.ref o, .int n]) (n := 2) (Nat.le_of_ble_eq_true rfl)
  rw [lg_entry_eq]
  generalize (lg_sl ([.ref o, .int n]) ++ List.replicate (2 - (lg_sl ([.ref o, .int n])).length) Slot.unset).toArray = ls at hl ⊢
  have hl : lv_has ls 2 [(0, .ref o), (1, .int n)] := hl
  refine w_start (A0 := A) hP (fun H locs hP hS => ?_)
  refine lv_iload_n hx hb dX10_searchAt_0 rfl (lv_at hl 1 rfl) ?_
  refine lv_iconst (v := 0) hx hb dX10_searchAt_1 (by decide) ?_
  refine lv_aload_n hx hb dX10_searchAt_2 rfl (lv_at hl 0 rfl) ?_
  refine va_get (D := D) (ci := 10) (v := .int 0) (C := RX10) (T := TX10) (N := 20) hx hb hg inGX10 hown hKN.1 hP 0 rfl rfl 6 (by decide) (hg _ kw_355) (fun _ h9 => h9) rfl dX10_searchAt_3 ?_
  refine lv_iconst (v := 1) hx hb dX10_searchAt_6 (by decide) ?_
  refine lv_isub hx hb dX10_searchAt_7 ?_
  refine lv_topi (fun z1 ez1 => ?_)
  obtain rfl : z1 = (-1) := ez1.trans (by decide)
  refine cg0 (rn_S (As := [.int n, .int 0, .int (-1)]) (rest := []) (c_isWithin l D Y Z H.size n 0 (-1) (0) (-1) (by decide) (by decide)) ⟨hx, hb, hml, hown, hg⟩ lk_X10_100 ⟨CP.blind, CP.at nilP hKN (nilD (A := fun _ => True))⟩ ⟨⟨rfl, rfl⟩, ⟨Nat.le_of_ble_eq_true rfl, Nat.le_of_ble_eq_true rfl⟩, ⟨Nat.le_of_ble_eq_true rfl, Nat.le_of_ble_eq_true rfl⟩⟩ hl.1 rfl (Nat.le_of_ble_eq_true rfl) dX10_searchAt_8) hP hS hA (fun u2 H locs w3 hP hS => ?_)
  rcases w3 with ⟨w3, rfl⟩ | ⟨w3, rfl⟩
  · skip
    exfalso; omega
  · skip
    refine W.eq (g2 := F0 m 11 ls [.int 0]) rfl ?_
    refine lv_if_eq (tgt := 29) hx hb dX10_searchAt_11 (by decide) (fun c4 => ?_) (fun c4 => ?_)
    rotate_left
    · exact absurd c4 (by decide)
    refine lv_null hx hb dX10_searchAt_29 ?_
    refine W.widen (k := 0) (n := 0) (Nat.le_of_ble_eq_true rfl) (Nat.le_of_ble_eq_true rfl) ?_
    exact W.aret (v := .null) hx hb hr (Or.inl ⟨_, rfl⟩) (Or.inl rfl) (fun t ht hW => ⟨⟨(), rfl, trivial, CB.mk ht (hP.sub [0] rfl) (hD.sub [0] (by decide) rfl)⟩, hS.F ht⟩) hS.2.2 dX10_searchAt_30
set_option maxHeartbeats 4000000 in
set_option maxRecDepth 100000 in
theorem c_sorterAt (l : Launch) (D : va_G) (Y : Nat → ClassId) (Z : Nat → Nat) (sz : Nat) (o : Nat) (b : Nat → Nat) (n : Int32) : Met l yX10_sorterAt (.code yX10_sorterAt cX10_sorterAt 2 (some (.object "DimStars$Text")) :: GW) ({ frames := 1, cells := 0, slots := 0, locals := 22 }) (va_Pc [.ref o, .int n] (CP D Y Z [(o, .inr (10, (dsF b)))] sz)) (QG (S := Unit) (fun _ => some (.null)) (fun _ => True) (fun u => CB D ((fun _ => [(o, .inr (10, (dsF b)))]) u) (va_A [(o, .inr (10, (dsF b)))] sz)) (va_A [(o, .inr (10, (dsF b)))] sz)) 0 0 (va_A [(o, .inr (10, (dsF b)))] sz) := by
  refine Met.ofW (cc := cX10_sorterAt) (maxL := 2) (ret := (some (.object "DimStars$Text"))) (by decide) rfl ?_
  intro p e s m args below meth c s₁ B hml hv
  obtain ⟨rfl, hsz, hP, hKN, hD0⟩ := hv
  have hx := B.exec
  have hb := B.bytes
  have hr := B.returns
  have hts := atoms_spec (ws := .code yX10_sorterAt cX10_sorterAt 2 (some (.object "DimStars$Text")) :: GW) B.pre
  have hg : ∀ w ∈ GW, w.before _ s = true := fun w h => hts w (List.mem_cons_of_mem _ h)
  have hown : s.vm.findClass RX10 = some m.cls := findClass_of_methodNamed B.named
  have hlocks := B.notSynchronized
  subst hsz
  have hD := hD0.self (sz := s.heap.size)
  generalize hAe : va_A [(o, .inr (10, (dsF b)))] s.heap.size = A at hD ⊢
  have hA : ∀ q : Nat, s.heap.size ≤ q → A q := fun q h => by rw [← hAe]; exact Or.inr h
  have hl := lv_entry ([.ref o, .int n]) (n := 2) (Nat.le_of_ble_eq_true rfl)
  rw [lg_entry_eq]
  generalize (lg_sl ([.ref o, .int n]) ++ List.replicate (2 - (lg_sl ([.ref o, .int n])).length) Slot.unset).toArray = ls at hl ⊢
  have hl : lv_has ls 2 [(0, .ref o), (1, .int n)] := hl
  refine w_start (A0 := A) hP (fun H locs hP hS => ?_)
  refine lv_iload_n hx hb dX10_sorterAt_0 rfl (lv_at hl 1 rfl) ?_
  refine lv_iconst (v := 0) hx hb dX10_sorterAt_1 (by decide) ?_
  refine lv_aload_n hx hb dX10_sorterAt_2 rfl (lv_at hl 0 rfl) ?_
  refine va_get (D := D) (ci := 10) (v := .int 0) (C := RX10) (T := TX10) (N := 20) hx hb hg inGX10 hown hKN.1 hP 0 rfl rfl 7 (by decide) (hg _ kw_356) (fun _ h9 => h9) rfl dX10_sorterAt_3 ?_
  refine lv_iconst (v := 1) hx hb dX10_sorterAt_6 (by decide) ?_
  refine lv_isub hx hb dX10_sorterAt_7 ?_
  refine lv_topi (fun z1 ez1 => ?_)
  obtain rfl : z1 = (-1) := ez1.trans (by decide)
  refine cg0 (rn_S (As := [.int n, .int 0, .int (-1)]) (rest := []) (c_isWithin l D Y Z H.size n 0 (-1) (0) (-1) (by decide) (by decide)) ⟨hx, hb, hml, hown, hg⟩ lk_X10_100 ⟨CP.blind, CP.at nilP hKN (nilD (A := fun _ => True))⟩ ⟨⟨rfl, rfl⟩, ⟨Nat.le_of_ble_eq_true rfl, Nat.le_of_ble_eq_true rfl⟩, ⟨Nat.le_of_ble_eq_true rfl, Nat.le_of_ble_eq_true rfl⟩⟩ hl.1 rfl (Nat.le_of_ble_eq_true rfl) dX10_sorterAt_8) hP hS hA (fun u2 H locs w3 hP hS => ?_)
  rcases w3 with ⟨w3, rfl⟩ | ⟨w3, rfl⟩
  · skip
    exfalso; omega
  · skip
    refine W.eq (g2 := F0 m 11 ls [.int 0]) rfl ?_
    refine lv_if_eq (tgt := 29) hx hb dX10_sorterAt_11 (by decide) (fun c4 => ?_) (fun c4 => ?_)
    rotate_left
    · exact absurd c4 (by decide)
    refine lv_null hx hb dX10_sorterAt_29 ?_
    refine W.widen (k := 0) (n := 0) (Nat.le_of_ble_eq_true rfl) (Nat.le_of_ble_eq_true rfl) ?_
    exact W.aret (v := .null) hx hb hr (Or.inl ⟨_, rfl⟩) (Or.inl rfl) (fun t ht hW => ⟨⟨(), rfl, trivial, CB.mk ht (hP.sub [0] rfl) (hD.sub [0] (by decide) rfl)⟩, hS.F ht⟩) hS.2.2 dX10_sorterAt_30
set_option maxHeartbeats 4000000 in
set_option maxRecDepth 100000 in
theorem c_isWeighed (l : Launch) (D : va_G) (Y : Nat → ClassId) (Z : Nat → Nat) (sz : Nat) (o : Nat) (b : Nat → Nat) (n0 n1 n2 : Int32) : Met l yX10_isWeighed (.code yX10_isWeighed cX10_isWeighed 4 (some .boolean) :: GW) ({ frames := 2, cells := 0, slots := 0, locals := 43 }) (va_Pc [.ref o, .int n0, .int n1, .int n2] (CP D Y Z [(o, .inr (10, (dsF b))), ((b 0), .inr (6, (skF b)))] sz)) (QG (S := Unit) (fun _ => some (.int 0)) (fun _ => True) (fun u => CB D ((fun _ => [(o, .inr (10, (dsF b))), ((b 0), .inr (6, (skF b)))]) u) (va_A [(o, .inr (10, (dsF b))), ((b 0), .inr (6, (skF b)))] sz)) (va_A [(o, .inr (10, (dsF b))), ((b 0), .inr (6, (skF b)))] sz)) 0 0 (va_A [(o, .inr (10, (dsF b))), ((b 0), .inr (6, (skF b)))] sz) := by
  refine Met.ofW (cc := cX10_isWeighed) (maxL := 4) (ret := (some .boolean)) (by decide) rfl ?_
  intro p e s m args below meth c s₁ B hml hv
  obtain ⟨rfl, hsz, hP, hKN, hD0⟩ := hv
  have hx := B.exec
  have hb := B.bytes
  have hr := B.returns
  have hts := atoms_spec (ws := .code yX10_isWeighed cX10_isWeighed 4 (some .boolean) :: GW) B.pre
  have hg : ∀ w ∈ GW, w.before _ s = true := fun w h => hts w (List.mem_cons_of_mem _ h)
  have hown : s.vm.findClass RX10 = some m.cls := findClass_of_methodNamed B.named
  have hlocks := B.notSynchronized
  subst hsz
  have hD := hD0.self (sz := s.heap.size)
  generalize hAe : va_A [(o, .inr (10, (dsF b))), ((b 0), .inr (6, (skF b)))] s.heap.size = A at hD ⊢
  have hA : ∀ q : Nat, s.heap.size ≤ q → A q := fun q h => by rw [← hAe]; exact Or.inr h
  have hl := lv_entry ([.ref o, .int n0, .int n1, .int n2]) (n := 4) (Nat.le_of_ble_eq_true rfl)
  rw [lg_entry_eq]
  generalize (lg_sl ([.ref o, .int n0, .int n1, .int n2]) ++ List.replicate (4 - (lg_sl ([.ref o, .int n0, .int n1, .int n2])).length) Slot.unset).toArray = ls at hl ⊢
  have hl : lv_has ls 4 [(0, .ref o), (1, .int n0), (2, .int n1), (3, .int n2)] := hl
  refine w_start (A0 := A) hP (fun H locs hP hS => ?_)
  refine lv_aload_n hx hb dX10_isWeighed_0 rfl (lv_at hl 0 rfl) ?_
  refine lv_iload_n hx hb dX10_isWeighed_1 rfl (lv_at hl 1 rfl) ?_
  refine cg (wc := [(o, .inr (10, (dsF b)))]) (wr := [((b 0), .inr (6, (skF b)))]) [0] [1] (rn_V (As := [.int n0]) (rest := []) (b := o) (c_sorterAt l D Y Z H.size o b n0) ⟨hx, hb, hml, hown, hg⟩ lk_X10_349 ⟨CP.blind, va_recv hKN.1 hP (ci := 10) (q0 := 0) rfl rfl, CP.at (hP.sub [0] rfl) hKN (hD.sub [0] (by decide) rfl)⟩ ⟨⟨rfl, rfl⟩, ⟨Nat.le_of_ble_eq_true rfl, Nat.le_of_ble_eq_true rfl⟩, ⟨Nat.le_of_ble_eq_true rfl, Nat.le_of_ble_eq_true rfl⟩⟩ hl.1 rfl (Nat.le_of_ble_eq_true rfl) dX10_isWeighed_2) hP hD hS hA rfl rfl (by decide) (by decide) (fun u1 H locs w2 hP hD hS => ?_)
  refine W.eq (g2 := F0 m 5 ls [.null]) rfl ?_
  have hP : va_P D vwCl [((b 0), .inr (6, (skF b))), (o, .inr (10, (dsF b)))] H := hP
  have hD : va_D A [((b 0), .inr (6, (skF b))), (o, .inr (10, (dsF b)))] := hD
  refine lv_ifnullN (tgt := 24) hx hb dX10_isWeighed_5 (by decide) ?_
  refine lv_iconst (v := 0) hx hb dX10_isWeighed_24 (by decide) ?_
  refine W.widen (k := 0) (n := 0) (Nat.le_of_ble_eq_true rfl) (Nat.le_of_ble_eq_true rfl) ?_
  exact W.zret (v := 0) hx hb hr (by decide) (fun t ht hW => ⟨⟨(), rfl, trivial, CB.mk ht (hP.sub [1, 0] rfl) (hD.sub [1, 0] (by decide) rfl)⟩, hS.F ht⟩) hS.2.2 dX10_isWeighed_25
set_option maxHeartbeats 4000000 in
set_option maxRecDepth 100000 in
theorem c_numbers (l : Launch) (D : va_G) (Y : Nat → ClassId) (Z : Nat → Nat) (sz : Nat) (q : Nat) (b : Nat → Nat) : Met l yX6_numbers (.code yX6_numbers cX6_numbers 4 (some .int) :: GW) ({ frames := 0, cells := 0, slots := 0, locals := 0 }) (va_Pc [.ref q] (CP D Y Z [(q, .inr (6, (skF b)))] sz)) (QG (S := Unit) (fun _ => some (.int 0)) (fun _ => True) (fun u => CB D ((fun _ => [(q, .inr (6, (skF b)))]) u) (va_A [(q, .inr (6, (skF b)))] sz)) (va_A [(q, .inr (6, (skF b)))] sz)) 0 0 (va_A [(q, .inr (6, (skF b)))] sz) := by
  refine Met.ofW (cc := cX6_numbers) (maxL := 4) (ret := (some .int)) (by decide) rfl ?_
  intro p e s m args below meth c s₁ B hml hv
  obtain ⟨rfl, hsz, hP, hKN, hD0⟩ := hv
  have hx := B.exec
  have hb := B.bytes
  have hr := B.returns
  have hts := atoms_spec (ws := .code yX6_numbers cX6_numbers 4 (some .int) :: GW) B.pre
  have hg : ∀ w ∈ GW, w.before _ s = true := fun w h => hts w (List.mem_cons_of_mem _ h)
  have hown : s.vm.findClass RX6 = some m.cls := findClass_of_methodNamed B.named
  have hlocks := B.notSynchronized
  subst hsz
  have hD := hD0.self (sz := s.heap.size)
  generalize hAe : va_A [(q, .inr (6, (skF b)))] s.heap.size = A at hD ⊢
  have hA : ∀ q : Nat, s.heap.size ≤ q → A q := fun q h => by rw [← hAe]; exact Or.inr h
  have hl := lv_entry ([.ref q]) (n := 4) (Nat.le_of_ble_eq_true rfl)
  rw [lg_entry_eq]
  generalize (lg_sl ([.ref q]) ++ List.replicate (4 - (lg_sl ([.ref q])).length) Slot.unset).toArray = ls at hl ⊢
  have hl : lv_has ls 4 [(0, .ref q)] := hl
  refine w_start (A0 := A) hP (fun H locs hP hS => ?_)
  refine lv_iconst (v := 0) hx hb dX6_numbers_0 (by decide) ?_
  refine lv_istore_n (lv' := [(1, .int 0), (0, .ref q)]) hx hb dX6_numbers_1 rfl hl (by decide) rfl (fun ls hl => ?_)
  refine lv_iconst (v := 0) hx hb dX6_numbers_2 (by decide) ?_
  refine lv_istore_n (lv' := [(2, .int 0), (1, .int 0), (0, .ref q)]) hx hb dX6_numbers_3 rfl hl (by decide) rfl (fun ls hl => ?_)
  refine lv_iload_n hx hb dX6_numbers_4 rfl (lv_at hl 0 rfl) ?_
  refine lv_aload_n hx hb dX6_numbers_5 rfl (lv_at hl 2 rfl) ?_
  refine va_get (D := D) (ci := 6) (v := .int 0) (C := RX6) (T := TX6) (N := 13) hx hb hg inGX6 hown hKN.1 hP 0 rfl rfl 0 (by decide) (hg _ kw_39) (fun _ h9 => h9) rfl dX6_numbers_6 ?_
  refine lv_icmp_ge (tgt := 39) hx hb dX6_numbers_9 (by decide) (fun c1 => ?_) (fun c1 => ?_)
  rotate_left
  · exact absurd c1 (by decide)
  refine lv_iload_n hx hb dX6_numbers_39 rfl (lv_at hl 1 rfl) ?_
  refine W.widen (k := 0) (n := 0) (Nat.le_of_ble_eq_true rfl) (Nat.le_of_ble_eq_true rfl) ?_
  exact W.iret (v := 0) hx hb hr (fun t ht hW => ⟨⟨(), rfl, trivial, CB.mk ht (hP.sub [0] rfl) (hD.sub [0] (by decide) rfl)⟩, hS.F ht⟩) hS.2.2 dX6_numbers_40
set_option maxHeartbeats 4000000 in
set_option maxRecDepth 100000 in
theorem m_isStar (l : Launch) (D : va_G) (Y : Nat → ClassId) (Z : Nat → Nat) (sz : Nat) (o : Nat) (a : Nat → Nat) (n : Int32) : Met l yX11_isStar (.code yX11_isStar cX11_isStar 2 (some .boolean) :: GW) ({ frames := 0, cells := 0, slots := 0, locals := 0 }) (va_Pc [.ref o, .int n] (CP D Y Z [(o, .inr (11, (moF a))), ((a 0), .inl (Y 0, 7533, .inl tolF))] sz)) (QG (S := Unit) (fun _ => some (.int 0)) (fun _ => True) (fun u => CB D ((fun _ => [(o, .inr (11, (moF a))), ((a 0), .inl (Y 0, 7533, .inl tolF))]) u) (va_A [(o, .inr (11, (moF a))), ((a 0), .inl (Y 0, 7533, .inl tolF))] sz)) (va_A [(o, .inr (11, (moF a))), ((a 0), .inl (Y 0, 7533, .inl tolF))] sz)) 0 0 (va_A [(o, .inr (11, (moF a))), ((a 0), .inl (Y 0, 7533, .inl tolF))] sz) := by
  refine Met.ofW (cc := cX11_isStar) (maxL := 2) (ret := (some .boolean)) (by decide) rfl ?_
  intro p e s m args below meth c s₁ B hml hv
  obtain ⟨rfl, hsz, hP, hKN, hD0⟩ := hv
  have hx := B.exec
  have hb := B.bytes
  have hr := B.returns
  have hts := atoms_spec (ws := .code yX11_isStar cX11_isStar 2 (some .boolean) :: GW) B.pre
  have hg : ∀ w ∈ GW, w.before _ s = true := fun w h => hts w (List.mem_cons_of_mem _ h)
  have hown : s.vm.findClass RX11 = some m.cls := findClass_of_methodNamed B.named
  have hlocks := B.notSynchronized
  subst hsz
  have hD := hD0.self (sz := s.heap.size)
  generalize hAe : va_A [(o, .inr (11, (moF a))), ((a 0), .inl (Y 0, 7533, .inl tolF))] s.heap.size = A at hD ⊢
  have hA : ∀ q : Nat, s.heap.size ≤ q → A q := fun q h => by rw [← hAe]; exact Or.inr h
  have hl := lv_entry ([.ref o, .int n]) (n := 2) (Nat.le_of_ble_eq_true rfl)
  rw [lg_entry_eq]
  generalize (lg_sl ([.ref o, .int n]) ++ List.replicate (2 - (lg_sl ([.ref o, .int n])).length) Slot.unset).toArray = ls at hl ⊢
  have hl : lv_has ls 2 [(0, .ref o), (1, .int n)] := hl
  refine w_start (A0 := A) hP (fun H locs hP hS => ?_)
  refine lv_iload_n hx hb dX11_isStar_0 rfl (lv_at hl 1 rfl) ?_
  refine lv_if_lt (tgt := 18) hx hb dX11_isStar_1 (by decide) (fun c1 => ?_) (fun c1 => ?_)
  · skip
    have c1 := i_lt (Eq.refl (n).toInt) (show (0 : Int32).toInt = 0 by decide) c1
    refine lv_iconst (v := 0) hx hb dX11_isStar_18 (by decide) ?_
    refine W.widen (k := 0) (n := 0) (Nat.le_of_ble_eq_true rfl) (Nat.le_of_ble_eq_true rfl) ?_
    exact W.zret (v := 0) hx hb hr (by decide) (fun t ht hW => ⟨⟨(), rfl, trivial, CB.mk ht (hP.sub [0, 1] rfl) (hD.sub [0, 1] (by decide) rfl)⟩, hS.F ht⟩) hS.2.2 dX11_isStar_19
  · skip
    have c1 := i_nlt (Eq.refl (n).toInt) (show (0 : Int32).toInt = 0 by decide) c1
    refine lv_iload_n hx hb dX11_isStar_4 rfl (lv_at hl 1 rfl) ?_
    refine lv_aload_n hx hb dX11_isStar_5 rfl (lv_at hl 0 rfl) ?_
    refine va_get (D := D) (ci := 11) (v := .ref (a 0)) (C := RX11) (T := TX11) (N := 49) hx hb hg inGX11 hown hKN.1 hP 0 rfl rfl 0 (by decide) (hg _ kw_1208) (fun _ h9 => h9) rfl dX11_isStar_6 ?_
    refine lv_iconst (v := 0) hx hb dX11_isStar_9 (by decide) ?_
    refine va_iald hx hb hKN.1 hP 1 0 rfl rfl (show ¬ ((0 : Int32) < 0 ∨ 7533 ≤ (0 : Int32).toNatClampNeg) by decide) dX11_isStar_10 ?_
    refine lv_topi (fun z2 ez2 => ?_)
    obtain rfl : z2 = 0 := ez2.trans (by decide)
    refine lv_icmp_ge (tgt := 18) hx hb dX11_isStar_11 (by decide) (fun c3 => ?_) (fun c3 => ?_)
    · skip
      have c3 := i_le (show (0 : Int32).toInt = 0 by decide) (Eq.refl (n).toInt) c3
      refine lv_iconst (v := 0) hx hb dX11_isStar_18 (by decide) ?_
      refine W.widen (k := 0) (n := 0) (Nat.le_of_ble_eq_true rfl) (Nat.le_of_ble_eq_true rfl) ?_
      exact W.zret (v := 0) hx hb hr (by decide) (fun t ht hW => ⟨⟨(), rfl, trivial, CB.mk ht (hP.sub [0, 1] rfl) (hD.sub [0, 1] (by decide) rfl)⟩, hS.F ht⟩) hS.2.2 dX11_isStar_19
    · skip
      have c3 := i_nle (show (0 : Int32).toInt = 0 by decide) (Eq.refl (n).toInt) c3
      exfalso; omega
set_option maxHeartbeats 4000000 in
set_option maxRecDepth 100000 in
theorem m_isText0 (l : Launch) (D : va_G) (Y : Nat → ClassId) (Z : Nat → Nat) (sz : Nat) (o : Nat) (a : Nat → Nat) (n : Int32) : Met l yX11_isText (.code yX11_isText cX11_isText 3 (some .boolean) :: GW) ({ frames := 0, cells := 0, slots := 0, locals := 0 }) (va_Pc [.ref o, .int 0, .int n] (CP D Y Z [(o, .inr (11, (moF a))), ((a 3), .inl (Y 0, 3, .inl (fun _ => 0)))] sz)) (QG (S := Unit) (fun _ => some (.int 0)) (fun _ => True) (fun u => CB D ((fun _ => [(o, .inr (11, (moF a))), ((a 3), .inl (Y 0, 3, .inl (fun _ => 0)))]) u) (va_A [(o, .inr (11, (moF a))), ((a 3), .inl (Y 0, 3, .inl (fun _ => 0)))] sz)) (va_A [(o, .inr (11, (moF a))), ((a 3), .inl (Y 0, 3, .inl (fun _ => 0)))] sz)) 0 0 (va_A [(o, .inr (11, (moF a))), ((a 3), .inl (Y 0, 3, .inl (fun _ => 0)))] sz) := by
  refine Met.ofW (cc := cX11_isText) (maxL := 3) (ret := (some .boolean)) (by decide) rfl ?_
  intro p e s m args below meth c s₁ B hml hv
  obtain ⟨rfl, hsz, hP, hKN, hD0⟩ := hv
  have hx := B.exec
  have hb := B.bytes
  have hr := B.returns
  have hts := atoms_spec (ws := .code yX11_isText cX11_isText 3 (some .boolean) :: GW) B.pre
  have hg : ∀ w ∈ GW, w.before _ s = true := fun w h => hts w (List.mem_cons_of_mem _ h)
  have hown : s.vm.findClass RX11 = some m.cls := findClass_of_methodNamed B.named
  have hlocks := B.notSynchronized
  subst hsz
  have hD := hD0.self (sz := s.heap.size)
  generalize hAe : va_A [(o, .inr (11, (moF a))), ((a 3), .inl (Y 0, 3, .inl (fun _ => 0)))] s.heap.size = A at hD ⊢
  have hA : ∀ q : Nat, s.heap.size ≤ q → A q := fun q h => by rw [← hAe]; exact Or.inr h
  have hl := lv_entry ([.ref o, .int 0, .int n]) (n := 3) (Nat.le_of_ble_eq_true rfl)
  rw [lg_entry_eq]
  generalize (lg_sl ([.ref o, .int 0, .int n]) ++ List.replicate (3 - (lg_sl ([.ref o, .int 0, .int n])).length) Slot.unset).toArray = ls at hl ⊢
  have hl : lv_has ls 3 [(0, .ref o), (1, .int 0), (2, .int n)] := hl
  refine w_start (A0 := A) hP (fun H locs hP hS => ?_)
  refine lv_iload_n hx hb dX11_isText_0 rfl (lv_at hl 2 rfl) ?_
  refine lv_if_lt (tgt := 18) hx hb dX11_isText_1 (by decide) (fun c1 => ?_) (fun c1 => ?_)
  · skip
    have c1 := i_lt (Eq.refl (n).toInt) (show (0 : Int32).toInt = 0 by decide) c1
    refine lv_iconst (v := 0) hx hb dX11_isText_18 (by decide) ?_
    refine W.widen (k := 0) (n := 0) (Nat.le_of_ble_eq_true rfl) (Nat.le_of_ble_eq_true rfl) ?_
    exact W.zret (v := 0) hx hb hr (by decide) (fun t ht hW => ⟨⟨(), rfl, trivial, CB.mk ht (hP.sub [0, 1] rfl) (hD.sub [0, 1] (by decide) rfl)⟩, hS.F ht⟩) hS.2.2 dX11_isText_19
  · skip
    have c1 := i_nlt (Eq.refl (n).toInt) (show (0 : Int32).toInt = 0 by decide) c1
    refine lv_iload_n hx hb dX11_isText_4 rfl (lv_at hl 2 rfl) ?_
    refine lv_aload_n hx hb dX11_isText_5 rfl (lv_at hl 0 rfl) ?_
    refine va_get (D := D) (ci := 11) (v := .ref (a 3)) (C := RX11) (T := TX11) (N := 49) hx hb hg inGX11 hown hKN.1 hP 0 rfl rfl 4 (by decide) (hg _ kw_1212) (fun _ h9 => h9) rfl dX11_isText_6 ?_
    refine lv_iload_n hx hb dX11_isText_9 rfl (lv_at hl 1 rfl) ?_
    refine va_iald hx hb hKN.1 hP 1 0 rfl rfl (show ¬ ((0 : Int32) < 0 ∨ 3 ≤ (0 : Int32).toNatClampNeg) by decide) dX11_isText_10 ?_
    refine lv_topi (fun z2 ez2 => ?_)
    obtain rfl : z2 = 0 := ez2.trans (by rfl)
    refine lv_icmp_ge (tgt := 18) hx hb dX11_isText_11 (by decide) (fun c3 => ?_) (fun c3 => ?_)
    · skip
      have c3 := i_le (show (0 : Int32).toInt = 0 by decide) (Eq.refl (n).toInt) c3
      refine lv_iconst (v := 0) hx hb dX11_isText_18 (by decide) ?_
      refine W.widen (k := 0) (n := 0) (Nat.le_of_ble_eq_true rfl) (Nat.le_of_ble_eq_true rfl) ?_
      exact W.zret (v := 0) hx hb hr (by decide) (fun t ht hW => ⟨⟨(), rfl, trivial, CB.mk ht (hP.sub [0, 1] rfl) (hD.sub [0, 1] (by decide) rfl)⟩, hS.F ht⟩) hS.2.2 dX11_isText_19
    · skip
      have c3 := i_nle (show (0 : Int32).toInt = 0 by decide) (Eq.refl (n).toInt) c3
      exfalso; omega
set_option maxHeartbeats 4000000 in
set_option maxRecDepth 100000 in
theorem m_isText1 (l : Launch) (D : va_G) (Y : Nat → ClassId) (Z : Nat → Nat) (sz : Nat) (o : Nat) (a : Nat → Nat) (n : Int32) : Met l yX11_isText (.code yX11_isText cX11_isText 3 (some .boolean) :: GW) ({ frames := 0, cells := 0, slots := 0, locals := 0 }) (va_Pc [.ref o, .int 1, .int n] (CP D Y Z [(o, .inr (11, (moF a))), ((a 3), .inl (Y 0, 3, .inl (fun _ => 0)))] sz)) (QG (S := Unit) (fun _ => some (.int 0)) (fun _ => True) (fun u => CB D ((fun _ => [(o, .inr (11, (moF a))), ((a 3), .inl (Y 0, 3, .inl (fun _ => 0)))]) u) (va_A [(o, .inr (11, (moF a))), ((a 3), .inl (Y 0, 3, .inl (fun _ => 0)))] sz)) (va_A [(o, .inr (11, (moF a))), ((a 3), .inl (Y 0, 3, .inl (fun _ => 0)))] sz)) 0 0 (va_A [(o, .inr (11, (moF a))), ((a 3), .inl (Y 0, 3, .inl (fun _ => 0)))] sz) := by
  refine Met.ofW (cc := cX11_isText) (maxL := 3) (ret := (some .boolean)) (by decide) rfl ?_
  intro p e s m args below meth c s₁ B hml hv
  obtain ⟨rfl, hsz, hP, hKN, hD0⟩ := hv
  have hx := B.exec
  have hb := B.bytes
  have hr := B.returns
  have hts := atoms_spec (ws := .code yX11_isText cX11_isText 3 (some .boolean) :: GW) B.pre
  have hg : ∀ w ∈ GW, w.before _ s = true := fun w h => hts w (List.mem_cons_of_mem _ h)
  have hown : s.vm.findClass RX11 = some m.cls := findClass_of_methodNamed B.named
  have hlocks := B.notSynchronized
  subst hsz
  have hD := hD0.self (sz := s.heap.size)
  generalize hAe : va_A [(o, .inr (11, (moF a))), ((a 3), .inl (Y 0, 3, .inl (fun _ => 0)))] s.heap.size = A at hD ⊢
  have hA : ∀ q : Nat, s.heap.size ≤ q → A q := fun q h => by rw [← hAe]; exact Or.inr h
  have hl := lv_entry ([.ref o, .int 1, .int n]) (n := 3) (Nat.le_of_ble_eq_true rfl)
  rw [lg_entry_eq]
  generalize (lg_sl ([.ref o, .int 1, .int n]) ++ List.replicate (3 - (lg_sl ([.ref o, .int 1, .int n])).length) Slot.unset).toArray = ls at hl ⊢
  have hl : lv_has ls 3 [(0, .ref o), (1, .int 1), (2, .int n)] := hl
  refine w_start (A0 := A) hP (fun H locs hP hS => ?_)
  refine lv_iload_n hx hb dX11_isText_0 rfl (lv_at hl 2 rfl) ?_
  refine lv_if_lt (tgt := 18) hx hb dX11_isText_1 (by decide) (fun c1 => ?_) (fun c1 => ?_)
  · skip
    have c1 := i_lt (Eq.refl (n).toInt) (show (0 : Int32).toInt = 0 by decide) c1
    refine lv_iconst (v := 0) hx hb dX11_isText_18 (by decide) ?_
    refine W.widen (k := 0) (n := 0) (Nat.le_of_ble_eq_true rfl) (Nat.le_of_ble_eq_true rfl) ?_
    exact W.zret (v := 0) hx hb hr (by decide) (fun t ht hW => ⟨⟨(), rfl, trivial, CB.mk ht (hP.sub [0, 1] rfl) (hD.sub [0, 1] (by decide) rfl)⟩, hS.F ht⟩) hS.2.2 dX11_isText_19
  · skip
    have c1 := i_nlt (Eq.refl (n).toInt) (show (0 : Int32).toInt = 0 by decide) c1
    refine lv_iload_n hx hb dX11_isText_4 rfl (lv_at hl 2 rfl) ?_
    refine lv_aload_n hx hb dX11_isText_5 rfl (lv_at hl 0 rfl) ?_
    refine va_get (D := D) (ci := 11) (v := .ref (a 3)) (C := RX11) (T := TX11) (N := 49) hx hb hg inGX11 hown hKN.1 hP 0 rfl rfl 4 (by decide) (hg _ kw_1212) (fun _ h9 => h9) rfl dX11_isText_6 ?_
    refine lv_iload_n hx hb dX11_isText_9 rfl (lv_at hl 1 rfl) ?_
    refine va_iald hx hb hKN.1 hP 1 0 rfl rfl (show ¬ ((1 : Int32) < 0 ∨ 3 ≤ (1 : Int32).toNatClampNeg) by decide) dX11_isText_10 ?_
    refine lv_topi (fun z2 ez2 => ?_)
    obtain rfl : z2 = 0 := ez2.trans (by rfl)
    refine lv_icmp_ge (tgt := 18) hx hb dX11_isText_11 (by decide) (fun c3 => ?_) (fun c3 => ?_)
    · skip
      have c3 := i_le (show (0 : Int32).toInt = 0 by decide) (Eq.refl (n).toInt) c3
      refine lv_iconst (v := 0) hx hb dX11_isText_18 (by decide) ?_
      refine W.widen (k := 0) (n := 0) (Nat.le_of_ble_eq_true rfl) (Nat.le_of_ble_eq_true rfl) ?_
      exact W.zret (v := 0) hx hb hr (by decide) (fun t ht hW => ⟨⟨(), rfl, trivial, CB.mk ht (hP.sub [0, 1] rfl) (hD.sub [0, 1] (by decide) rfl)⟩, hS.F ht⟩) hS.2.2 dX11_isText_19
    · skip
      have c3 := i_nle (show (0 : Int32).toInt = 0 by decide) (Eq.refl (n).toInt) c3
      exfalso; omega
set_option maxHeartbeats 4000000 in
set_option maxRecDepth 100000 in
theorem m_isText2 (l : Launch) (D : va_G) (Y : Nat → ClassId) (Z : Nat → Nat) (sz : Nat) (o : Nat) (a : Nat → Nat) (n : Int32) : Met l yX11_isText (.code yX11_isText cX11_isText 3 (some .boolean) :: GW) ({ frames := 0, cells := 0, slots := 0, locals := 0 }) (va_Pc [.ref o, .int 2, .int n] (CP D Y Z [(o, .inr (11, (moF a))), ((a 3), .inl (Y 0, 3, .inl (fun _ => 0)))] sz)) (QG (S := Unit) (fun _ => some (.int 0)) (fun _ => True) (fun u => CB D ((fun _ => [(o, .inr (11, (moF a))), ((a 3), .inl (Y 0, 3, .inl (fun _ => 0)))]) u) (va_A [(o, .inr (11, (moF a))), ((a 3), .inl (Y 0, 3, .inl (fun _ => 0)))] sz)) (va_A [(o, .inr (11, (moF a))), ((a 3), .inl (Y 0, 3, .inl (fun _ => 0)))] sz)) 0 0 (va_A [(o, .inr (11, (moF a))), ((a 3), .inl (Y 0, 3, .inl (fun _ => 0)))] sz) := by
  refine Met.ofW (cc := cX11_isText) (maxL := 3) (ret := (some .boolean)) (by decide) rfl ?_
  intro p e s m args below meth c s₁ B hml hv
  obtain ⟨rfl, hsz, hP, hKN, hD0⟩ := hv
  have hx := B.exec
  have hb := B.bytes
  have hr := B.returns
  have hts := atoms_spec (ws := .code yX11_isText cX11_isText 3 (some .boolean) :: GW) B.pre
  have hg : ∀ w ∈ GW, w.before _ s = true := fun w h => hts w (List.mem_cons_of_mem _ h)
  have hown : s.vm.findClass RX11 = some m.cls := findClass_of_methodNamed B.named
  have hlocks := B.notSynchronized
  subst hsz
  have hD := hD0.self (sz := s.heap.size)
  generalize hAe : va_A [(o, .inr (11, (moF a))), ((a 3), .inl (Y 0, 3, .inl (fun _ => 0)))] s.heap.size = A at hD ⊢
  have hA : ∀ q : Nat, s.heap.size ≤ q → A q := fun q h => by rw [← hAe]; exact Or.inr h
  have hl := lv_entry ([.ref o, .int 2, .int n]) (n := 3) (Nat.le_of_ble_eq_true rfl)
  rw [lg_entry_eq]
  generalize (lg_sl ([.ref o, .int 2, .int n]) ++ List.replicate (3 - (lg_sl ([.ref o, .int 2, .int n])).length) Slot.unset).toArray = ls at hl ⊢
  have hl : lv_has ls 3 [(0, .ref o), (1, .int 2), (2, .int n)] := hl
  refine w_start (A0 := A) hP (fun H locs hP hS => ?_)
  refine lv_iload_n hx hb dX11_isText_0 rfl (lv_at hl 2 rfl) ?_
  refine lv_if_lt (tgt := 18) hx hb dX11_isText_1 (by decide) (fun c1 => ?_) (fun c1 => ?_)
  · skip
    have c1 := i_lt (Eq.refl (n).toInt) (show (0 : Int32).toInt = 0 by decide) c1
    refine lv_iconst (v := 0) hx hb dX11_isText_18 (by decide) ?_
    refine W.widen (k := 0) (n := 0) (Nat.le_of_ble_eq_true rfl) (Nat.le_of_ble_eq_true rfl) ?_
    exact W.zret (v := 0) hx hb hr (by decide) (fun t ht hW => ⟨⟨(), rfl, trivial, CB.mk ht (hP.sub [0, 1] rfl) (hD.sub [0, 1] (by decide) rfl)⟩, hS.F ht⟩) hS.2.2 dX11_isText_19
  · skip
    have c1 := i_nlt (Eq.refl (n).toInt) (show (0 : Int32).toInt = 0 by decide) c1
    refine lv_iload_n hx hb dX11_isText_4 rfl (lv_at hl 2 rfl) ?_
    refine lv_aload_n hx hb dX11_isText_5 rfl (lv_at hl 0 rfl) ?_
    refine va_get (D := D) (ci := 11) (v := .ref (a 3)) (C := RX11) (T := TX11) (N := 49) hx hb hg inGX11 hown hKN.1 hP 0 rfl rfl 4 (by decide) (hg _ kw_1212) (fun _ h9 => h9) rfl dX11_isText_6 ?_
    refine lv_iload_n hx hb dX11_isText_9 rfl (lv_at hl 1 rfl) ?_
    refine va_iald hx hb hKN.1 hP 1 0 rfl rfl (show ¬ ((2 : Int32) < 0 ∨ 3 ≤ (2 : Int32).toNatClampNeg) by decide) dX11_isText_10 ?_
    refine lv_topi (fun z2 ez2 => ?_)
    obtain rfl : z2 = 0 := ez2.trans (by rfl)
    refine lv_icmp_ge (tgt := 18) hx hb dX11_isText_11 (by decide) (fun c3 => ?_) (fun c3 => ?_)
    · skip
      have c3 := i_le (show (0 : Int32).toInt = 0 by decide) (Eq.refl (n).toInt) c3
      refine lv_iconst (v := 0) hx hb dX11_isText_18 (by decide) ?_
      refine W.widen (k := 0) (n := 0) (Nat.le_of_ble_eq_true rfl) (Nat.le_of_ble_eq_true rfl) ?_
      exact W.zret (v := 0) hx hb hr (by decide) (fun t ht hW => ⟨⟨(), rfl, trivial, CB.mk ht (hP.sub [0, 1] rfl) (hD.sub [0, 1] (by decide) rfl)⟩, hS.F ht⟩) hS.2.2 dX11_isText_19
    · skip
      have c3 := i_nle (show (0 : Int32).toInt = 0 by decide) (Eq.refl (n).toInt) c3
      exfalso; omega
set_option maxHeartbeats 4000000 in
set_option maxRecDepth 100000 in
theorem m_canWeigh (l : Launch) (D : va_G) (Y : Nat → ClassId) (Z : Nat → Nat) (sz : Nat) (o : Nat) (a : Nat → Nat) (n0 n1 n2 : Int32) : Met l yX11_canWeigh (.code yX11_canWeigh cX11_canWeigh 4 (some .boolean) :: GW) ({ frames := 1, cells := 0, slots := 0, locals := 22 }) (va_Pc [.ref o, .int n0, .int n1, .int n2] (CP D Y Z [(o, .inr (11, (moF a))), ((a 3), .inl (Y 0, 3, .inl (fun _ => 0)))] sz)) (QG (S := Unit) (fun _ => some (.int 0)) (fun _ => True) (fun u => CB D ((fun _ => [(o, .inr (11, (moF a))), ((a 3), .inl (Y 0, 3, .inl (fun _ => 0)))]) u) (va_A [(o, .inr (11, (moF a))), ((a 3), .inl (Y 0, 3, .inl (fun _ => 0)))] sz)) (va_A [(o, .inr (11, (moF a))), ((a 3), .inl (Y 0, 3, .inl (fun _ => 0)))] sz)) 0 0 (va_A [(o, .inr (11, (moF a))), ((a 3), .inl (Y 0, 3, .inl (fun _ => 0)))] sz) := by
  refine Met.ofW (cc := cX11_canWeigh) (maxL := 4) (ret := (some .boolean)) (by decide) rfl ?_
  intro p e s m args below meth c s₁ B hml hv
  obtain ⟨rfl, hsz, hP, hKN, hD0⟩ := hv
  have hx := B.exec
  have hb := B.bytes
  have hr := B.returns
  have hts := atoms_spec (ws := .code yX11_canWeigh cX11_canWeigh 4 (some .boolean) :: GW) B.pre
  have hg : ∀ w ∈ GW, w.before _ s = true := fun w h => hts w (List.mem_cons_of_mem _ h)
  have hown : s.vm.findClass RX11 = some m.cls := findClass_of_methodNamed B.named
  have hlocks := B.notSynchronized
  subst hsz
  have hD := hD0.self (sz := s.heap.size)
  generalize hAe : va_A [(o, .inr (11, (moF a))), ((a 3), .inl (Y 0, 3, .inl (fun _ => 0)))] s.heap.size = A at hD ⊢
  have hA : ∀ q : Nat, s.heap.size ≤ q → A q := fun q h => by rw [← hAe]; exact Or.inr h
  have hl := lv_entry ([.ref o, .int n0, .int n1, .int n2]) (n := 4) (Nat.le_of_ble_eq_true rfl)
  rw [lg_entry_eq]
  generalize (lg_sl ([.ref o, .int n0, .int n1, .int n2]) ++ List.replicate (4 - (lg_sl ([.ref o, .int n0, .int n1, .int n2])).length) Slot.unset).toArray = ls at hl ⊢
  have hl : lv_has ls 4 [(0, .ref o), (1, .int n0), (2, .int n1), (3, .int n2)] := hl
  refine w_start (A0 := A) hP (fun H locs hP hS => ?_)
  refine lv_aload_n hx hb dX11_canWeigh_0 rfl (lv_at hl 0 rfl) ?_
  refine lv_iconst (v := 2) hx hb dX11_canWeigh_1 (by decide) ?_
  refine lv_iload_n hx hb dX11_canWeigh_2 rfl (lv_at hl 1 rfl) ?_
  refine cg (wc := [(o, .inr (11, (moF a))), ((a 3), .inl (Y 0, 3, .inl (fun _ => 0)))]) (wr := []) [0, 1] [] (rn_V (As := [.int 2, .int n0]) (rest := []) (b := o) (m_isText2 l D Y Z H.size o a n0) ⟨hx, hb, hml, hown, hg⟩ lk_X11_366 ⟨CP.blind, va_recv hKN.1 hP (ci := 11) (q0 := 0) rfl rfl, CP.at (hP.sub [0, 1] rfl) hKN (hD.sub [0, 1] (by decide) rfl)⟩ ⟨⟨rfl, rfl⟩, ⟨Nat.le_of_ble_eq_true rfl, Nat.le_of_ble_eq_true rfl⟩, ⟨Nat.le_of_ble_eq_true rfl, Nat.le_of_ble_eq_true rfl⟩⟩ hl.1 rfl (Nat.le_of_ble_eq_true rfl) dX11_canWeigh_3) hP hD hS hA rfl rfl (by decide) (by decide) (fun u1 H locs w2 hP hD hS => ?_)
  refine W.eq (g2 := F0 m 6 ls [.int 0]) rfl ?_
  have hP : va_P D vwCl [(o, .inr (11, (moF a))), ((a 3), .inl (Y 0, 3, .inl (fun _ => 0)))] H := hP
  have hD : va_D A [(o, .inr (11, (moF a))), ((a 3), .inl (Y 0, 3, .inl (fun _ => 0)))] := hD
  refine lv_if_eq (tgt := 40) hx hb dX11_canWeigh_6 (by decide) (fun c3 => ?_) (fun c3 => ?_)
  rotate_left
  · exact absurd c3 (by decide)
  refine lv_iconst (v := 0) hx hb dX11_canWeigh_40 (by decide) ?_
  refine W.widen (k := 0) (n := 0) (Nat.le_of_ble_eq_true rfl) (Nat.le_of_ble_eq_true rfl) ?_
  exact W.zret (v := 0) hx hb hr (by decide) (fun t ht hW => ⟨⟨(), rfl, trivial, CB.mk ht (hP.sub [0, 1] rfl) (hD.sub [0, 1] (by decide) rfl)⟩, hS.F ht⟩) hS.2.2 dX11_canWeigh_41
set_option maxHeartbeats 4000000 in
set_option maxRecDepth 100000 in
theorem x_row (l : Launch) (D : va_G) (Y : Nat → ClassId) (Z : Nat → Nat) (sz : Nat) (o : Nat) (b : Nat → Nat) (p0 p1 p2 : Int32) : Met l yX10_row (.code yX10_row cX10_row 7 (some .int) :: GW) ({ frames := 1, cells := 0, slots := 0, locals := 22 }) (va_Pc [.ref o, .int p0, .int p1, .int p2] (CP D Y Z [(o, .inr (10, (dsF b))), ((b 0), .inr (6, (skF b)))] sz)) (QG (S := Unit) (fun _ => some (.int (-200000))) (fun _ => True) (fun u => CB D ((fun _ => []) u) (va_A [(o, .inr (10, (dsF b))), ((b 0), .inr (6, (skF b)))] sz)) (va_A [(o, .inr (10, (dsF b))), ((b 0), .inr (6, (skF b)))] sz)) 0 0 (va_A [(o, .inr (10, (dsF b))), ((b 0), .inr (6, (skF b)))] sz) := by
  refine Met.ofW (cc := cX10_row) (maxL := 7) (ret := (some .int)) (by decide) rfl ?_
  intro p e s m args below meth c s₁ B hml hv
  obtain ⟨rfl, hsz, hP, hKN, hD0⟩ := hv
  have hx := B.exec
  have hb := B.bytes
  have hr := B.returns
  have hts := atoms_spec (ws := .code yX10_row cX10_row 7 (some .int) :: GW) B.pre
  have hg : ∀ w ∈ GW, w.before _ s = true := fun w h => hts w (List.mem_cons_of_mem _ h)
  have hown : s.vm.findClass RX10 = some m.cls := findClass_of_methodNamed B.named
  have hlocks := B.notSynchronized
  subst hsz
  have hD := hD0.self (sz := s.heap.size)
  generalize hAe : va_A [(o, .inr (10, (dsF b))), ((b 0), .inr (6, (skF b)))] s.heap.size = A at hD ⊢
  have hA : ∀ q : Nat, s.heap.size ≤ q → A q := fun q h => by rw [← hAe]; exact Or.inr h
  have hl := lv_entry ([.ref o, .int p0, .int p1, .int p2]) (n := 7) (Nat.le_of_ble_eq_true rfl)
  rw [lg_entry_eq]
  generalize (lg_sl ([.ref o, .int p0, .int p1, .int p2]) ++ List.replicate (7 - (lg_sl ([.ref o, .int p0, .int p1, .int p2])).length) Slot.unset).toArray = ls at hl ⊢
  have hl : lv_has ls 7 [(0, .ref o), (1, .int p0), (2, .int p1), (3, .int p2)] := hl
  refine w_start (A0 := A) hP (fun H locs hP hS => ?_)
  refine lv_aload_n hx hb dX10_row_0 rfl (lv_at hl 0 rfl) ?_
  refine va_get (D := D) (ci := 10) (v := .ref (b 0)) (C := RX10) (T := TX10) (N := 20) hx hb hg inGX10 hown hKN.1 hP 0 rfl rfl 0 (by decide) (hg _ kw_349) (fun _ h9 => h9) rfl dX10_row_1 ?_
  refine lv_iload_n hx hb dX10_row_4 rfl (lv_at hl 1 rfl) ?_
  refine cg (wc := [((b 0), .inr (6, (skF b)))]) (wr := [(o, .inr (10, (dsF b)))]) [1] [0] (rn_NV (As := [.int p0]) (rest := []) (b := (b 0)) (c_starAt l D Y Z H.size (b 0) b p0) ⟨hx, hb, hml, hown, hg⟩ hKN lk_X10_108 ⟨CP.blind, va_recv hKN.1 hP (ci := 6) (q0 := 1) rfl rfl, CP.at (hP.sub [1] rfl) hKN (hD.sub [1] (by decide) rfl)⟩ ⟨⟨rfl, rfl⟩, ⟨Nat.le_of_ble_eq_true rfl, Nat.le_of_ble_eq_true rfl⟩, ⟨Nat.le_of_ble_eq_true rfl, Nat.le_of_ble_eq_true rfl⟩⟩ hl.1 rfl (Nat.le_of_ble_eq_true rfl) dX10_row_5) hP hD hS hA rfl rfl (by decide) (by decide) (fun u1 H locs w2 hP hD hS => ?_)
  refine W.eq (g2 := F0 m 8 ls [.null]) rfl ?_
  have hP : va_P D vwCl [(o, .inr (10, (dsF b))), ((b 0), .inr (6, (skF b)))] H := hP
  have hD : va_D A [(o, .inr (10, (dsF b))), ((b 0), .inr (6, (skF b)))] := hD
  refine lv_astoreN (lv' := [(4, .null), (0, .ref o), (1, .int p0), (2, .int p1), (3, .int p2)]) hx hb dX10_row_8 hl (by decide) rfl (fun ls hl => ?_)
  refine lv_iload_n hx hb dX10_row_10 rfl (lv_at hl 4 rfl) ?_
  refine lv_ldc (v := (-100000)) hx hb hown (hg _ kw_469) dX10_row_11 ?_
  refine lv_icmp_eq (tgt := 29) hx hb dX10_row_13 (by decide) (fun c3 => ?_) (fun c3 => ?_)
  · skip
    have c3 := i_eq (Eq.refl (p2).toInt) (show ((-100000) : Int32).toInt = -100000 by decide) c3
    refine lv_iconst (v := 1) hx hb dX10_row_29 (by decide) ?_
    refine lv_goto (tgt := 34) hx hb dX10_row_30 (by decide) ?_
    refine lv_istore (lv' := [(5, .int 1), (4, .null), (0, .ref o), (1, .int p0), (2, .int p1), (3, .int p2)]) hx hb dX10_row_34 hl (by decide) rfl (fun ls hl => ?_)
    refine lv_aloadN hx hb dX10_row_36 (lv_at hl 1 rfl) ?_
    refine lv_ifnullN (tgt := 53) hx hb dX10_row_38 (by decide) ?_
    refine lv_ldc (v := (-200000)) hx hb hown (hg _ kw_473) dX10_row_53 ?_
    refine W.widen (k := 0) (n := 0) (Nat.le_of_ble_eq_true rfl) (Nat.le_of_ble_eq_true rfl) ?_
    exact W.iret (v := (-200000)) hx hb hr (fun t ht hW => ⟨⟨(), rfl, trivial, CB.nil⟩, hS.F ht⟩) hS.2.2 dX10_row_55
  · skip
    have c3 := i_ne (Eq.refl (p2).toInt) (show ((-100000) : Int32).toInt = -100000 by decide) c3
    refine lv_iload_n hx hb dX10_row_16 rfl (lv_at hl 4 rfl) ?_
    refine lv_sipush (v := (-30000)) hx hb dX10_row_17 (by decide) ?_
    refine lv_sipush (v := 30000) hx hb dX10_row_20 (by decide) ?_
    refine cg0 (rn_S (As := [.int p2, .int (-30000), .int 30000]) (rest := []) (c_isWithin l D Y Z H.size p2 (-30000) 30000 (-30000) (30000) (by decide) (by decide)) ⟨hx, hb, hml, hown, hg⟩ lk_X10_100 ⟨CP.blind, CP.at nilP hKN (nilD (A := fun _ => True))⟩ ⟨⟨rfl, rfl⟩, ⟨Nat.le_of_ble_eq_true rfl, Nat.le_of_ble_eq_true rfl⟩, ⟨Nat.le_of_ble_eq_true rfl, Nat.le_of_ble_eq_true rfl⟩⟩ hl.1 rfl (Nat.le_of_ble_eq_true rfl) dX10_row_23) hP hS hA (fun u4 H locs w5 hP hS => ?_)
    rcases w5 with ⟨w5, rfl⟩ | ⟨w5, rfl⟩
    · skip
      refine W.eq (g2 := F0 m 26 ls [.int 1]) rfl ?_
      refine lv_if_eq (tgt := 33) hx hb dX10_row_26 (by decide) (fun c6 => ?_) (fun c6 => ?_)
      · exact absurd c6 (by decide)
      refine lv_iconst (v := 1) hx hb dX10_row_29 (by decide) ?_
      refine lv_goto (tgt := 34) hx hb dX10_row_30 (by decide) ?_
      refine lv_istore (lv' := [(5, .int 1), (4, .null), (0, .ref o), (1, .int p0), (2, .int p1), (3, .int p2)]) hx hb dX10_row_34 hl (by decide) rfl (fun ls hl => ?_)
      refine lv_aloadN hx hb dX10_row_36 (lv_at hl 1 rfl) ?_
      refine lv_ifnullN (tgt := 53) hx hb dX10_row_38 (by decide) ?_
      refine lv_ldc (v := (-200000)) hx hb hown (hg _ kw_473) dX10_row_53 ?_
      refine W.widen (k := 0) (n := 0) (Nat.le_of_ble_eq_true rfl) (Nat.le_of_ble_eq_true rfl) ?_
      exact W.iret (v := (-200000)) hx hb hr (fun t ht hW => ⟨⟨(), rfl, trivial, CB.nil⟩, hS.F ht⟩) hS.2.2 dX10_row_55
    · skip
      refine W.eq (g2 := F0 m 26 ls [.int 0]) rfl ?_
      refine lv_if_eq (tgt := 33) hx hb dX10_row_26 (by decide) (fun c7 => ?_) (fun c7 => ?_)
      rotate_left
      · exact absurd c7 (by decide)
      refine lv_iconst (v := 0) hx hb dX10_row_33 (by decide) ?_
      refine lv_istore (lv' := [(5, .int 0), (4, .null), (0, .ref o), (1, .int p0), (2, .int p1), (3, .int p2)]) hx hb dX10_row_34 hl (by decide) rfl (fun ls hl => ?_)
      refine lv_aloadN hx hb dX10_row_36 (lv_at hl 1 rfl) ?_
      refine lv_ifnullN (tgt := 53) hx hb dX10_row_38 (by decide) ?_
      refine lv_ldc (v := (-200000)) hx hb hown (hg _ kw_473) dX10_row_53 ?_
      refine W.widen (k := 0) (n := 0) (Nat.le_of_ble_eq_true rfl) (Nat.le_of_ble_eq_true rfl) ?_
      exact W.iret (v := (-200000)) hx hb hr (fun t ht hW => ⟨⟨(), rfl, trivial, CB.nil⟩, hS.F ht⟩) hS.2.2 dX10_row_55
set_option maxHeartbeats 4000000 in
set_option maxRecDepth 100000 in
theorem y_row (l : Launch) (D : va_G) (Y : Nat → ClassId) (Z : Nat → Nat) (sz : Nat) (o : Nat) (a : Nat → Nat) (p0 p1 p2 : Int32) : Met l yX11_row (.code yX11_row cX11_row 5 (some .int) :: GW) ({ frames := 1, cells := 0, slots := 0, locals := 21 }) (va_Pc [.ref o, .int p0, .int p1, .int p2] (CP D Y Z [(o, .inr (11, (moF a))), ((a 0), .inl (Y 0, 7533, .inl tolF))] sz)) (QG (S := Unit) (fun _ => some (.int (-200000))) (fun _ => True) (fun u => CB D ((fun _ => []) u) (va_A [(o, .inr (11, (moF a))), ((a 0), .inl (Y 0, 7533, .inl tolF))] sz)) (va_A [(o, .inr (11, (moF a))), ((a 0), .inl (Y 0, 7533, .inl tolF))] sz)) 0 0 (va_A [(o, .inr (11, (moF a))), ((a 0), .inl (Y 0, 7533, .inl tolF))] sz) := by
  refine Met.ofW (cc := cX11_row) (maxL := 5) (ret := (some .int)) (by decide) rfl ?_
  intro p e s m args below meth c s₁ B hml hv
  obtain ⟨rfl, hsz, hP, hKN, hD0⟩ := hv
  have hx := B.exec
  have hb := B.bytes
  have hr := B.returns
  have hts := atoms_spec (ws := .code yX11_row cX11_row 5 (some .int) :: GW) B.pre
  have hg : ∀ w ∈ GW, w.before _ s = true := fun w h => hts w (List.mem_cons_of_mem _ h)
  have hown : s.vm.findClass RX11 = some m.cls := findClass_of_methodNamed B.named
  have hlocks := B.notSynchronized
  subst hsz
  have hD := hD0.self (sz := s.heap.size)
  generalize hAe : va_A [(o, .inr (11, (moF a))), ((a 0), .inl (Y 0, 7533, .inl tolF))] s.heap.size = A at hD ⊢
  have hA : ∀ q : Nat, s.heap.size ≤ q → A q := fun q h => by rw [← hAe]; exact Or.inr h
  have hl := lv_entry ([.ref o, .int p0, .int p1, .int p2]) (n := 5) (Nat.le_of_ble_eq_true rfl)
  rw [lg_entry_eq]
  generalize (lg_sl ([.ref o, .int p0, .int p1, .int p2]) ++ List.replicate (5 - (lg_sl ([.ref o, .int p0, .int p1, .int p2])).length) Slot.unset).toArray = ls at hl ⊢
  have hl : lv_has ls 5 [(0, .ref o), (1, .int p0), (2, .int p1), (3, .int p2)] := hl
  refine w_start (A0 := A) hP (fun H locs hP hS => ?_)
  refine lv_aload_n hx hb dX11_row_0 rfl (lv_at hl 0 rfl) ?_
  refine lv_iload_n hx hb dX11_row_1 rfl (lv_at hl 1 rfl) ?_
  refine cg (wc := [(o, .inr (11, (moF a))), ((a 0), .inl (Y 0, 7533, .inl tolF))]) (wr := []) [0, 1] [] (rn_V (As := [.int p0]) (rest := []) (b := o) (m_isStar l D Y Z H.size o a p0) ⟨hx, hb, hml, hown, hg⟩ lk_X11_108 ⟨CP.blind, va_recv hKN.1 hP (ci := 11) (q0 := 0) rfl rfl, CP.at (hP.sub [0, 1] rfl) hKN (hD.sub [0, 1] (by decide) rfl)⟩ ⟨⟨rfl, rfl⟩, ⟨Nat.le_of_ble_eq_true rfl, Nat.le_of_ble_eq_true rfl⟩, ⟨Nat.le_of_ble_eq_true rfl, Nat.le_of_ble_eq_true rfl⟩⟩ hl.1 rfl (Nat.le_of_ble_eq_true rfl) dX11_row_2) hP hD hS hA rfl rfl (by decide) (by decide) (fun u1 H locs w2 hP hD hS => ?_)
  refine W.eq (g2 := F0 m 5 ls [.int 0]) rfl ?_
  have hP : va_P D vwCl [(o, .inr (11, (moF a))), ((a 0), .inl (Y 0, 7533, .inl tolF))] H := hP
  have hD : va_D A [(o, .inr (11, (moF a))), ((a 0), .inl (Y 0, 7533, .inl tolF))] := hD
  refine lv_if_eq (tgt := 35) hx hb dX11_row_5 (by decide) (fun c3 => ?_) (fun c3 => ?_)
  rotate_left
  · exact absurd c3 (by decide)
  refine lv_ldc (v := (-200000)) hx hb hown (hg _ kw_1381) dX11_row_35 ?_
  refine W.widen (k := 0) (n := 0) (Nat.le_of_ble_eq_true rfl) (Nat.le_of_ble_eq_true rfl) ?_
  exact W.iret (v := (-200000)) hx hb hr (fun t ht hW => ⟨⟨(), rfl, trivial, CB.nil⟩, hS.F ht⟩) hS.2.2 dX11_row_37
set_option maxHeartbeats 4000000 in
set_option maxRecDepth 100000 in
theorem x_resize (l : Launch) (D : va_G) (Y : Nat → ClassId) (Z : Nat → Nat) (sz : Nat) (o : Nat) (b : Nat → Nat) (p0 p1 : Int32) : Met l yX10_resize (.code yX10_resize cX10_resize 5 (some .int) :: GW) ({ frames := 1, cells := 0, slots := 0, locals := 21 }) (va_Pc [.ref o, .int p0, .int p1] (CP D Y Z [(o, .inr (10, (dsF b))), ((b 0), .inr (6, (skF b)))] sz)) (QG (S := Unit) (fun _ => some (.int (-1))) (fun _ => True) (fun u => CB D ((fun _ => []) u) (va_A [(o, .inr (10, (dsF b))), ((b 0), .inr (6, (skF b)))] sz)) (va_A [(o, .inr (10, (dsF b))), ((b 0), .inr (6, (skF b)))] sz)) 0 0 (va_A [(o, .inr (10, (dsF b))), ((b 0), .inr (6, (skF b)))] sz) := by
  refine Met.ofW (cc := cX10_resize) (maxL := 5) (ret := (some .int)) (by decide) rfl ?_
  intro p e s m args below meth c s₁ B hml hv
  obtain ⟨rfl, hsz, hP, hKN, hD0⟩ := hv
  have hx := B.exec
  have hb := B.bytes
  have hr := B.returns
  have hts := atoms_spec (ws := .code yX10_resize cX10_resize 5 (some .int) :: GW) B.pre
  have hg : ∀ w ∈ GW, w.before _ s = true := fun w h => hts w (List.mem_cons_of_mem _ h)
  have hown : s.vm.findClass RX10 = some m.cls := findClass_of_methodNamed B.named
  have hlocks := B.notSynchronized
  subst hsz
  have hD := hD0.self (sz := s.heap.size)
  generalize hAe : va_A [(o, .inr (10, (dsF b))), ((b 0), .inr (6, (skF b)))] s.heap.size = A at hD ⊢
  have hA : ∀ q : Nat, s.heap.size ≤ q → A q := fun q h => by rw [← hAe]; exact Or.inr h
  have hl := lv_entry ([.ref o, .int p0, .int p1]) (n := 5) (Nat.le_of_ble_eq_true rfl)
  rw [lg_entry_eq]
  generalize (lg_sl ([.ref o, .int p0, .int p1]) ++ List.replicate (5 - (lg_sl ([.ref o, .int p0, .int p1])).length) Slot.unset).toArray = ls at hl ⊢
  have hl : lv_has ls 5 [(0, .ref o), (1, .int p0), (2, .int p1)] := hl
  refine w_start (A0 := A) hP (fun H locs hP hS => ?_)
  refine lv_aload_n hx hb dX10_resize_0 rfl (lv_at hl 0 rfl) ?_
  refine va_get (D := D) (ci := 10) (v := .ref (b 0)) (C := RX10) (T := TX10) (N := 20) hx hb hg inGX10 hown hKN.1 hP 0 rfl rfl 0 (by decide) (hg _ kw_349) (fun _ h9 => h9) rfl dX10_resize_1 ?_
  refine lv_iload_n hx hb dX10_resize_4 rfl (lv_at hl 1 rfl) ?_
  refine cg (wc := [((b 0), .inr (6, (skF b)))]) (wr := [(o, .inr (10, (dsF b)))]) [1] [0] (rn_NV (As := [.int p0]) (rest := []) (b := (b 0)) (c_starAt l D Y Z H.size (b 0) b p0) ⟨hx, hb, hml, hown, hg⟩ hKN lk_X10_108 ⟨CP.blind, va_recv hKN.1 hP (ci := 6) (q0 := 1) rfl rfl, CP.at (hP.sub [1] rfl) hKN (hD.sub [1] (by decide) rfl)⟩ ⟨⟨rfl, rfl⟩, ⟨Nat.le_of_ble_eq_true rfl, Nat.le_of_ble_eq_true rfl⟩, ⟨Nat.le_of_ble_eq_true rfl, Nat.le_of_ble_eq_true rfl⟩⟩ hl.1 rfl (Nat.le_of_ble_eq_true rfl) dX10_resize_5) hP hD hS hA rfl rfl (by decide) (by decide) (fun u1 H locs w2 hP hD hS => ?_)
  refine W.eq (g2 := F0 m 8 ls [.null]) rfl ?_
  have hP : va_P D vwCl [(o, .inr (10, (dsF b))), ((b 0), .inr (6, (skF b)))] H := hP
  have hD : va_D A [(o, .inr (10, (dsF b))), ((b 0), .inr (6, (skF b)))] := hD
  refine lv_astore_nN (lv' := [(3, .null), (0, .ref o), (1, .int p0), (2, .int p1)]) hx hb dX10_resize_8 rfl hl (by decide) rfl (fun ls hl => ?_)
  refine lv_aload_nN hx hb dX10_resize_9 rfl (lv_at hl 0 rfl) ?_
  refine lv_ifnullN (tgt := 20) hx hb dX10_resize_10 (by decide) ?_
  refine lv_iconst (v := (-1)) hx hb dX10_resize_20 (by decide) ?_
  refine W.widen (k := 0) (n := 0) (Nat.le_of_ble_eq_true rfl) (Nat.le_of_ble_eq_true rfl) ?_
  exact W.iret (v := (-1)) hx hb hr (fun t ht hW => ⟨⟨(), rfl, trivial, CB.nil⟩, hS.F ht⟩) hS.2.2 dX10_resize_21
set_option maxHeartbeats 4000000 in
set_option maxRecDepth 100000 in
theorem y_resize (l : Launch) (D : va_G) (Y : Nat → ClassId) (Z : Nat → Nat) (sz : Nat) (o : Nat) (a : Nat → Nat) (p0 p1 : Int32) : Met l yX11_resize (.code yX11_resize cX11_resize 4 (some .int) :: GW) ({ frames := 1, cells := 0, slots := 0, locals := 21 }) (va_Pc [.ref o, .int p0, .int p1] (CP D Y Z [(o, .inr (11, (moF a))), ((a 0), .inl (Y 0, 7533, .inl tolF))] sz)) (QG (S := Unit) (fun _ => some (.int (-1))) (fun _ => True) (fun u => CB D ((fun _ => []) u) (va_A [(o, .inr (11, (moF a))), ((a 0), .inl (Y 0, 7533, .inl tolF))] sz)) (va_A [(o, .inr (11, (moF a))), ((a 0), .inl (Y 0, 7533, .inl tolF))] sz)) 0 0 (va_A [(o, .inr (11, (moF a))), ((a 0), .inl (Y 0, 7533, .inl tolF))] sz) := by
  refine Met.ofW (cc := cX11_resize) (maxL := 4) (ret := (some .int)) (by decide) rfl ?_
  intro p e s m args below meth c s₁ B hml hv
  obtain ⟨rfl, hsz, hP, hKN, hD0⟩ := hv
  have hx := B.exec
  have hb := B.bytes
  have hr := B.returns
  have hts := atoms_spec (ws := .code yX11_resize cX11_resize 4 (some .int) :: GW) B.pre
  have hg : ∀ w ∈ GW, w.before _ s = true := fun w h => hts w (List.mem_cons_of_mem _ h)
  have hown : s.vm.findClass RX11 = some m.cls := findClass_of_methodNamed B.named
  have hlocks := B.notSynchronized
  subst hsz
  have hD := hD0.self (sz := s.heap.size)
  generalize hAe : va_A [(o, .inr (11, (moF a))), ((a 0), .inl (Y 0, 7533, .inl tolF))] s.heap.size = A at hD ⊢
  have hA : ∀ q : Nat, s.heap.size ≤ q → A q := fun q h => by rw [← hAe]; exact Or.inr h
  have hl := lv_entry ([.ref o, .int p0, .int p1]) (n := 4) (Nat.le_of_ble_eq_true rfl)
  rw [lg_entry_eq]
  generalize (lg_sl ([.ref o, .int p0, .int p1]) ++ List.replicate (4 - (lg_sl ([.ref o, .int p0, .int p1])).length) Slot.unset).toArray = ls at hl ⊢
  have hl : lv_has ls 4 [(0, .ref o), (1, .int p0), (2, .int p1)] := hl
  refine w_start (A0 := A) hP (fun H locs hP hS => ?_)
  refine lv_aload_n hx hb dX11_resize_0 rfl (lv_at hl 0 rfl) ?_
  refine lv_iload_n hx hb dX11_resize_1 rfl (lv_at hl 1 rfl) ?_
  refine cg (wc := [(o, .inr (11, (moF a))), ((a 0), .inl (Y 0, 7533, .inl tolF))]) (wr := []) [0, 1] [] (rn_V (As := [.int p0]) (rest := []) (b := o) (m_isStar l D Y Z H.size o a p0) ⟨hx, hb, hml, hown, hg⟩ lk_X11_108 ⟨CP.blind, va_recv hKN.1 hP (ci := 11) (q0 := 0) rfl rfl, CP.at (hP.sub [0, 1] rfl) hKN (hD.sub [0, 1] (by decide) rfl)⟩ ⟨⟨rfl, rfl⟩, ⟨Nat.le_of_ble_eq_true rfl, Nat.le_of_ble_eq_true rfl⟩, ⟨Nat.le_of_ble_eq_true rfl, Nat.le_of_ble_eq_true rfl⟩⟩ hl.1 rfl (Nat.le_of_ble_eq_true rfl) dX11_resize_2) hP hD hS hA rfl rfl (by decide) (by decide) (fun u1 H locs w2 hP hD hS => ?_)
  refine W.eq (g2 := F0 m 5 ls [.int 0]) rfl ?_
  have hP : va_P D vwCl [(o, .inr (11, (moF a))), ((a 0), .inl (Y 0, 7533, .inl tolF))] H := hP
  have hD : va_D A [(o, .inr (11, (moF a))), ((a 0), .inl (Y 0, 7533, .inl tolF))] := hD
  refine lv_if_eq (tgt := 20) hx hb dX11_resize_5 (by decide) (fun c3 => ?_) (fun c3 => ?_)
  rotate_left
  · exact absurd c3 (by decide)
  refine lv_iconst (v := (-1)) hx hb dX11_resize_20 (by decide) ?_
  refine W.widen (k := 0) (n := 0) (Nat.le_of_ble_eq_true rfl) (Nat.le_of_ble_eq_true rfl) ?_
  exact W.iret (v := (-1)) hx hb hr (fun t ht hW => ⟨⟨(), rfl, trivial, CB.nil⟩, hS.F ht⟩) hS.2.2 dX11_resize_21
set_option maxHeartbeats 4000000 in
set_option maxRecDepth 100000 in
theorem x_at (l : Launch) (D : va_G) (Y : Nat → ClassId) (Z : Nat → Nat) (sz : Nat) (o : Nat) (b : Nat → Nat) (p0 p1 p2 : Int32) : Met l yX10_at (.code yX10_at cX10_at 4 (some .int) :: GW) ({ frames := 2, cells := 0, slots := 0, locals := 42 }) (va_Pc [.ref o, .int p0, .int p1, .int p2] (CP D Y Z [(o, .inr (10, (dsF b))), ((b 0), .inr (6, (skF b)))] sz)) (QG (S := Unit) (fun _ => some (.int (-200000))) (fun _ => True) (fun u => CB D ((fun _ => []) u) (va_A [(o, .inr (10, (dsF b))), ((b 0), .inr (6, (skF b)))] sz)) (va_A [(o, .inr (10, (dsF b))), ((b 0), .inr (6, (skF b)))] sz)) 0 0 (va_A [(o, .inr (10, (dsF b))), ((b 0), .inr (6, (skF b)))] sz) := by
  refine Met.ofW (cc := cX10_at) (maxL := 4) (ret := (some .int)) (by decide) rfl ?_
  intro p e s m args below meth c s₁ B hml hv
  obtain ⟨rfl, hsz, hP, hKN, hD0⟩ := hv
  have hx := B.exec
  have hb := B.bytes
  have hr := B.returns
  have hts := atoms_spec (ws := .code yX10_at cX10_at 4 (some .int) :: GW) B.pre
  have hg : ∀ w ∈ GW, w.before _ s = true := fun w h => hts w (List.mem_cons_of_mem _ h)
  have hown : s.vm.findClass RX10 = some m.cls := findClass_of_methodNamed B.named
  have hlocks := B.notSynchronized
  subst hsz
  have hD := hD0.self (sz := s.heap.size)
  generalize hAe : va_A [(o, .inr (10, (dsF b))), ((b 0), .inr (6, (skF b)))] s.heap.size = A at hD ⊢
  have hA : ∀ q : Nat, s.heap.size ≤ q → A q := fun q h => by rw [← hAe]; exact Or.inr h
  have hl := lv_entry ([.ref o, .int p0, .int p1, .int p2]) (n := 4) (Nat.le_of_ble_eq_true rfl)
  rw [lg_entry_eq]
  generalize (lg_sl ([.ref o, .int p0, .int p1, .int p2]) ++ List.replicate (4 - (lg_sl ([.ref o, .int p0, .int p1, .int p2])).length) Slot.unset).toArray = ls at hl ⊢
  have hl : lv_has ls 4 [(0, .ref o), (1, .int p0), (2, .int p1), (3, .int p2)] := hl
  refine w_start (A0 := A) hP (fun H locs hP hS => ?_)
  refine lv_aload_n hx hb dX10_at_0 rfl (lv_at hl 0 rfl) ?_
  refine lv_iload_n hx hb dX10_at_1 rfl (lv_at hl 1 rfl) ?_
  refine cg (wc := [(o, .inr (10, (dsF b))), ((b 0), .inr (6, (skF b)))]) (wr := []) [0, 1] [] (rn_V (As := [.int p0]) (rest := []) (b := o) (c_isStar l D Y Z H.size o b p0) ⟨hx, hb, hml, hown, hg⟩ lk_X10_137 ⟨CP.blind, va_recv hKN.1 hP (ci := 10) (q0 := 0) rfl rfl, CP.at (hP.sub [0, 1] rfl) hKN (hD.sub [0, 1] (by decide) rfl)⟩ ⟨⟨rfl, rfl⟩, ⟨Nat.le_of_ble_eq_true rfl, Nat.le_of_ble_eq_true rfl⟩, ⟨Nat.le_of_ble_eq_true rfl, Nat.le_of_ble_eq_true rfl⟩⟩ hl.1 rfl (Nat.le_of_ble_eq_true rfl) dX10_at_2) hP hD hS hA rfl rfl (by decide) (by decide) (fun u1 H locs w2 hP hD hS => ?_)
  refine W.eq (g2 := F0 m 5 ls [.int 0]) rfl ?_
  have hP : va_P D vwCl [(o, .inr (10, (dsF b))), ((b 0), .inr (6, (skF b)))] H := hP
  have hD : va_D A [(o, .inr (10, (dsF b))), ((b 0), .inr (6, (skF b)))] := hD
  refine lv_if_eq (tgt := 22) hx hb dX10_at_5 (by decide) (fun c3 => ?_) (fun c3 => ?_)
  rotate_left
  · exact absurd c3 (by decide)
  refine lv_ldc (v := (-200000)) hx hb hown (hg _ kw_473) dX10_at_22 ?_
  refine W.widen (k := 0) (n := 0) (Nat.le_of_ble_eq_true rfl) (Nat.le_of_ble_eq_true rfl) ?_
  exact W.iret (v := (-200000)) hx hb hr (fun t ht hW => ⟨⟨(), rfl, trivial, CB.nil⟩, hS.F ht⟩) hS.2.2 dX10_at_24
end
section
set_option maxHeartbeats 4000000 in
set_option maxRecDepth 100000 in
theorem y_at (l : Launch) (D : va_G) (Y : Nat → ClassId) (Z : Nat → Nat) (sz : Nat) (o : Nat) (a : Nat → Nat) (p0 p1 p2 : Int32) : Met l yX11_at (.code yX11_at cX11_at 4 (some .int) :: GW) ({ frames := 1, cells := 0, slots := 0, locals := 21 }) (va_Pc [.ref o, .int p0, .int p1, .int p2] (CP D Y Z [(o, .inr (11, (moF a))), ((a 0), .inl (Y 0, 7533, .inl tolF))] sz)) (QG (S := Unit) (fun _ => some (.int (-200000))) (fun _ => True) (fun u => CB D ((fun _ => []) u) (va_A [(o, .inr (11, (moF a))), ((a 0), .inl (Y 0, 7533, .inl tolF))] sz)) (va_A [(o, .inr (11, (moF a))), ((a 0), .inl (Y 0, 7533, .inl tolF))] sz)) 0 0 (va_A [(o, .inr (11, (moF a))), ((a 0), .inl (Y 0, 7533, .inl tolF))] sz) := by
  refine Met.ofW (cc := cX11_at) (maxL := 4) (ret := (some .int)) (by decide) rfl ?_
  intro p e s m args below meth c s₁ B hml hv
  obtain ⟨rfl, hsz, hP, hKN, hD0⟩ := hv
  have hx := B.exec
  have hb := B.bytes
  have hr := B.returns
  have hts := atoms_spec (ws := .code yX11_at cX11_at 4 (some .int) :: GW) B.pre
  have hg : ∀ w ∈ GW, w.before _ s = true := fun w h => hts w (List.mem_cons_of_mem _ h)
  have hown : s.vm.findClass RX11 = some m.cls := findClass_of_methodNamed B.named
  have hlocks := B.notSynchronized
  subst hsz
  have hD := hD0.self (sz := s.heap.size)
  generalize hAe : va_A [(o, .inr (11, (moF a))), ((a 0), .inl (Y 0, 7533, .inl tolF))] s.heap.size = A at hD ⊢
  have hA : ∀ q : Nat, s.heap.size ≤ q → A q := fun q h => by rw [← hAe]; exact Or.inr h
  have hl := lv_entry ([.ref o, .int p0, .int p1, .int p2]) (n := 4) (Nat.le_of_ble_eq_true rfl)
  rw [lg_entry_eq]
  generalize (lg_sl ([.ref o, .int p0, .int p1, .int p2]) ++ List.replicate (4 - (lg_sl ([.ref o, .int p0, .int p1, .int p2])).length) Slot.unset).toArray = ls at hl ⊢
  have hl : lv_has ls 4 [(0, .ref o), (1, .int p0), (2, .int p1), (3, .int p2)] := hl
  refine w_start (A0 := A) hP (fun H locs hP hS => ?_)
  refine lv_aload_n hx hb dX11_at_0 rfl (lv_at hl 0 rfl) ?_
  refine lv_iload_n hx hb dX11_at_1 rfl (lv_at hl 1 rfl) ?_
  refine cg (wc := [(o, .inr (11, (moF a))), ((a 0), .inl (Y 0, 7533, .inl tolF))]) (wr := []) [0, 1] [] (rn_V (As := [.int p0]) (rest := []) (b := o) (m_isStar l D Y Z H.size o a p0) ⟨hx, hb, hml, hown, hg⟩ lk_X11_108 ⟨CP.blind, va_recv hKN.1 hP (ci := 11) (q0 := 0) rfl rfl, CP.at (hP.sub [0, 1] rfl) hKN (hD.sub [0, 1] (by decide) rfl)⟩ ⟨⟨rfl, rfl⟩, ⟨Nat.le_of_ble_eq_true rfl, Nat.le_of_ble_eq_true rfl⟩, ⟨Nat.le_of_ble_eq_true rfl, Nat.le_of_ble_eq_true rfl⟩⟩ hl.1 rfl (Nat.le_of_ble_eq_true rfl) dX11_at_2) hP hD hS hA rfl rfl (by decide) (by decide) (fun u1 H locs w2 hP hD hS => ?_)
  refine W.eq (g2 := F0 m 5 ls [.int 0]) rfl ?_
  have hP : va_P D vwCl [(o, .inr (11, (moF a))), ((a 0), .inl (Y 0, 7533, .inl tolF))] H := hP
  have hD : va_D A [(o, .inr (11, (moF a))), ((a 0), .inl (Y 0, 7533, .inl tolF))] := hD
  refine lv_if_eq (tgt := 27) hx hb dX11_at_5 (by decide) (fun c3 => ?_) (fun c3 => ?_)
  rotate_left
  · exact absurd c3 (by decide)
  refine lv_ldc (v := (-200000)) hx hb hown (hg _ kw_1381) dX11_at_27 ?_
  refine W.widen (k := 0) (n := 0) (Nat.le_of_ble_eq_true rfl) (Nat.le_of_ble_eq_true rfl) ?_
  exact W.iret (v := (-200000)) hx hb hr (fun t ht hW => ⟨⟨(), rfl, trivial, CB.nil⟩, hS.F ht⟩) hS.2.2 dX11_at_29
set_option maxHeartbeats 4000000 in
set_option maxRecDepth 100000 in
theorem x_world (l : Launch) (D : va_G) (Y : Nat → ClassId) (Z : Nat → Nat) (sz : Nat) (o : Nat) (b : Nat → Nat) (p0 p1 p2 p3 p4 p5 : Int32) : Met l yX10_world (.code yX10_world cX10_world 9 (some .int) :: GW) ({ frames := 2, cells := 0, slots := 0, locals := 42 }) (va_Pc [.ref o, .int p0, .int p1, .int p2, .int p3, .int p4, .int p5] (CP D Y Z [(o, .inr (10, (dsF b))), ((b 0), .inr (6, (skF b)))] sz)) (QG (S := Unit) (fun _ => some (.int (-1))) (fun _ => True) (fun u => CB D ((fun _ => []) u) (va_A [(o, .inr (10, (dsF b))), ((b 0), .inr (6, (skF b)))] sz)) (va_A [(o, .inr (10, (dsF b))), ((b 0), .inr (6, (skF b)))] sz)) 0 0 (va_A [(o, .inr (10, (dsF b))), ((b 0), .inr (6, (skF b)))] sz) := by
  refine Met.ofW (cc := cX10_world) (maxL := 9) (ret := (some .int)) (by decide) rfl ?_
  intro p e s m args below meth c s₁ B hml hv
  obtain ⟨rfl, hsz, hP, hKN, hD0⟩ := hv
  have hx := B.exec
  have hb := B.bytes
  have hr := B.returns
  have hts := atoms_spec (ws := .code yX10_world cX10_world 9 (some .int) :: GW) B.pre
  have hg : ∀ w ∈ GW, w.before _ s = true := fun w h => hts w (List.mem_cons_of_mem _ h)
  have hown : s.vm.findClass RX10 = some m.cls := findClass_of_methodNamed B.named
  have hlocks := B.notSynchronized
  subst hsz
  have hD := hD0.self (sz := s.heap.size)
  generalize hAe : va_A [(o, .inr (10, (dsF b))), ((b 0), .inr (6, (skF b)))] s.heap.size = A at hD ⊢
  have hA : ∀ q : Nat, s.heap.size ≤ q → A q := fun q h => by rw [← hAe]; exact Or.inr h
  have hl := lv_entry ([.ref o, .int p0, .int p1, .int p2, .int p3, .int p4, .int p5]) (n := 9) (Nat.le_of_ble_eq_true rfl)
  rw [lg_entry_eq]
  generalize (lg_sl ([.ref o, .int p0, .int p1, .int p2, .int p3, .int p4, .int p5]) ++ List.replicate (9 - (lg_sl ([.ref o, .int p0, .int p1, .int p2, .int p3, .int p4, .int p5])).length) Slot.unset).toArray = ls at hl ⊢
  have hl : lv_has ls 9 [(0, .ref o), (1, .int p0), (2, .int p1), (3, .int p2), (4, .int p3), (5, .int p4), (6, .int p5)] := hl
  refine w_start (A0 := A) hP (fun H locs hP hS => ?_)
  refine lv_iload_n hx hb dX10_world_0 rfl (lv_at hl 2 rfl) ?_
  refine lv_iconst (v := 2) hx hb dX10_world_1 (by decide) ?_
  refine lv_sipush (v := 599) hx hb dX10_world_2 (by decide) ?_
  refine cg0 (rn_S (As := [.int p1, .int 2, .int 599]) (rest := []) (c_isWithin l D Y Z H.size p1 2 599 (2) (599) (by decide) (by decide)) ⟨hx, hb, hml, hown, hg⟩ lk_X10_100 ⟨CP.blind, CP.at nilP hKN (nilD (A := fun _ => True))⟩ ⟨⟨rfl, rfl⟩, ⟨Nat.le_of_ble_eq_true rfl, Nat.le_of_ble_eq_true rfl⟩, ⟨Nat.le_of_ble_eq_true rfl, Nat.le_of_ble_eq_true rfl⟩⟩ hl.1 rfl (Nat.le_of_ble_eq_true rfl) dX10_world_5) hP hS hA (fun u1 H locs w2 hP hS => ?_)
  rcases w2 with ⟨w2, rfl⟩ | ⟨w2, rfl⟩
  · skip
    refine W.eq (g2 := F0 m 8 ls [.int 1]) rfl ?_
    refine lv_if_eq (tgt := 22) hx hb dX10_world_8 (by decide) (fun c3 => ?_) (fun c3 => ?_)
    · exact absurd c3 (by decide)
    refine lv_iload_n hx hb dX10_world_11 rfl (lv_at hl 3 rfl) ?_
    refine cg0 (rn_S (As := [.int p2]) (rest := []) (c_isHour l D Y Z H.size p2) ⟨hx, hb, hml, hown, hg⟩ lk_X10_113 ⟨CP.blind, CP.at nilP hKN (nilD (A := fun _ => True))⟩ ⟨⟨rfl, rfl⟩, ⟨Nat.le_of_ble_eq_true rfl, Nat.le_of_ble_eq_true rfl⟩, ⟨Nat.le_of_ble_eq_true rfl, Nat.le_of_ble_eq_true rfl⟩⟩ hl.1 rfl (Nat.le_of_ble_eq_true rfl) dX10_world_12) hP hS hA (fun u4 H locs w5 hP hS => ?_)
    rcases w5 with ⟨w5, rfl⟩ | ⟨w5, rfl⟩
    · skip
      refine W.eq (g2 := F0 m 15 ls [.int 1]) rfl ?_
      refine lv_if_eq (tgt := 22) hx hb dX10_world_15 (by decide) (fun c6 => ?_) (fun c6 => ?_)
      · exact absurd c6 (by decide)
      refine lv_iconst (v := 1) hx hb dX10_world_18 (by decide) ?_
      refine lv_goto (tgt := 23) hx hb dX10_world_19 (by decide) ?_
      refine lv_istore (lv' := [(7, .int 1), (0, .ref o), (1, .int p0), (2, .int p1), (3, .int p2), (4, .int p3), (5, .int p4), (6, .int p5)]) hx hb dX10_world_23 hl (by decide) rfl (fun ls hl => ?_)
      refine lv_iload hx hb dX10_world_25 (lv_at hl 5 rfl) ?_
      refine lv_iconst (v := 1) hx hb dX10_world_27 (by decide) ?_
      refine lv_bipush (v := 30) hx hb dX10_world_28 (by decide) ?_
      refine cg0 (rn_S (As := [.int p3, .int 1, .int 30]) (rest := []) (c_isWithin l D Y Z H.size p3 1 30 (1) (30) (by decide) (by decide)) ⟨hx, hb, hml, hown, hg⟩ lk_X10_100 ⟨CP.blind, CP.at nilP hKN (nilD (A := fun _ => True))⟩ ⟨⟨rfl, rfl⟩, ⟨Nat.le_of_ble_eq_true rfl, Nat.le_of_ble_eq_true rfl⟩, ⟨Nat.le_of_ble_eq_true rfl, Nat.le_of_ble_eq_true rfl⟩⟩ hl.1 rfl (Nat.le_of_ble_eq_true rfl) dX10_world_30) hP hS hA (fun u7 H locs w8 hP hS => ?_)
      rcases w8 with ⟨w8, rfl⟩ | ⟨w8, rfl⟩
      · skip
        refine W.eq (g2 := F0 m 33 ls [.int 1]) rfl ?_
        refine lv_if_eq (tgt := 58) hx hb dX10_world_33 (by decide) (fun c9 => ?_) (fun c9 => ?_)
        · exact absurd c9 (by decide)
        refine lv_iload hx hb dX10_world_36 (lv_at hl 5 rfl) ?_
        refine lv_iload_n hx hb dX10_world_38 rfl (lv_at hl 3 rfl) ?_
        refine lv_icmp_ge (tgt := 58) hx hb dX10_world_39 (by decide) (fun c10 => ?_) (fun c10 => ?_)
        · skip
          have c10 := i_le (Eq.refl (p1).toInt) (Eq.refl (p3).toInt) c10
          refine lv_iconst (v := 0) hx hb dX10_world_58 (by decide) ?_
          refine lv_istore (lv' := [(8, .int 0), (7, .int 1), (0, .ref o), (1, .int p0), (2, .int p1), (3, .int p2), (4, .int p3), (5, .int p4), (6, .int p5)]) hx hb dX10_world_59 hl (by decide) rfl (fun ls hl => ?_)
          refine lv_aload_n hx hb dX10_world_61 rfl (lv_at hl 2 rfl) ?_
          refine lv_iload_n hx hb dX10_world_62 rfl (lv_at hl 3 rfl) ?_
          refine cg (wc := [(o, .inr (10, (dsF b))), ((b 0), .inr (6, (skF b)))]) (wr := []) [0, 1] [] (rn_V (As := [.int p0]) (rest := []) (b := o) (c_isStar l D Y Z H.size o b p0) ⟨hx, hb, hml, hown, hg⟩ lk_X10_137 ⟨CP.blind, va_recv hKN.1 hP (ci := 10) (q0 := 0) rfl rfl, CP.at (hP.sub [0, 1] rfl) hKN (hD.sub [0, 1] (by decide) rfl)⟩ ⟨⟨rfl, rfl⟩, ⟨Nat.le_of_ble_eq_true rfl, Nat.le_of_ble_eq_true rfl⟩, ⟨Nat.le_of_ble_eq_true rfl, Nat.le_of_ble_eq_true rfl⟩⟩ hl.1 rfl (Nat.le_of_ble_eq_true rfl) dX10_world_63) hP hD hS hA rfl rfl (by decide) (by decide) (fun u11 H locs w12 hP hD hS => ?_)
          refine W.eq (g2 := F0 m 66 ls [.int 0]) rfl ?_
          have hP : va_P D vwCl [(o, .inr (10, (dsF b))), ((b 0), .inr (6, (skF b)))] H := hP
          have hD : va_D A [(o, .inr (10, (dsF b))), ((b 0), .inr (6, (skF b)))] := hD
          refine lv_if_eq (tgt := 91) hx hb dX10_world_66 (by decide) (fun c13 => ?_) (fun c13 => ?_)
          rotate_left
          · exact absurd c13 (by decide)
          refine lv_iconst (v := (-1)) hx hb dX10_world_91 (by decide) ?_
          refine W.widen (k := 0) (n := 0) (Nat.le_of_ble_eq_true rfl) (Nat.le_of_ble_eq_true rfl) ?_
          exact W.iret (v := (-1)) hx hb hr (fun t ht hW => ⟨⟨(), rfl, trivial, CB.nil⟩, hS.F ht⟩) hS.2.2 dX10_world_92
        · skip
          have c10 := i_nle (Eq.refl (p1).toInt) (Eq.refl (p3).toInt) c10
          refine lv_iload hx hb dX10_world_42 (lv_at hl 6 rfl) ?_
          refine lv_iconst (v := 1) hx hb dX10_world_44 (by decide) ?_
          refine lv_sipush (v := 30000) hx hb dX10_world_45 (by decide) ?_
          refine cg0 (rn_S (As := [.int p4, .int 1, .int 30000]) (rest := []) (c_isWithin l D Y Z H.size p4 1 30000 (1) (30000) (by decide) (by decide)) ⟨hx, hb, hml, hown, hg⟩ lk_X10_100 ⟨CP.blind, CP.at nilP hKN (nilD (A := fun _ => True))⟩ ⟨⟨rfl, rfl⟩, ⟨Nat.le_of_ble_eq_true rfl, Nat.le_of_ble_eq_true rfl⟩, ⟨Nat.le_of_ble_eq_true rfl, Nat.le_of_ble_eq_true rfl⟩⟩ hl.1 rfl (Nat.le_of_ble_eq_true rfl) dX10_world_48) hP hS hA (fun u14 H locs w15 hP hS => ?_)
          rcases w15 with ⟨w15, rfl⟩ | ⟨w15, rfl⟩
          · skip
            refine W.eq (g2 := F0 m 51 ls [.int 1]) rfl ?_
            refine lv_if_eq (tgt := 58) hx hb dX10_world_51 (by decide) (fun c16 => ?_) (fun c16 => ?_)
            · exact absurd c16 (by decide)
            refine lv_iconst (v := 1) hx hb dX10_world_54 (by decide) ?_
            refine lv_goto (tgt := 59) hx hb dX10_world_55 (by decide) ?_
            refine lv_istore (lv' := [(8, .int 1), (7, .int 1), (0, .ref o), (1, .int p0), (2, .int p1), (3, .int p2), (4, .int p3), (5, .int p4), (6, .int p5)]) hx hb dX10_world_59 hl (by decide) rfl (fun ls hl => ?_)
            refine lv_aload_n hx hb dX10_world_61 rfl (lv_at hl 2 rfl) ?_
            refine lv_iload_n hx hb dX10_world_62 rfl (lv_at hl 3 rfl) ?_
            refine cg (wc := [(o, .inr (10, (dsF b))), ((b 0), .inr (6, (skF b)))]) (wr := []) [0, 1] [] (rn_V (As := [.int p0]) (rest := []) (b := o) (c_isStar l D Y Z H.size o b p0) ⟨hx, hb, hml, hown, hg⟩ lk_X10_137 ⟨CP.blind, va_recv hKN.1 hP (ci := 10) (q0 := 0) rfl rfl, CP.at (hP.sub [0, 1] rfl) hKN (hD.sub [0, 1] (by decide) rfl)⟩ ⟨⟨rfl, rfl⟩, ⟨Nat.le_of_ble_eq_true rfl, Nat.le_of_ble_eq_true rfl⟩, ⟨Nat.le_of_ble_eq_true rfl, Nat.le_of_ble_eq_true rfl⟩⟩ hl.1 rfl (Nat.le_of_ble_eq_true rfl) dX10_world_63) hP hD hS hA rfl rfl (by decide) (by decide) (fun u17 H locs w18 hP hD hS => ?_)
            refine W.eq (g2 := F0 m 66 ls [.int 0]) rfl ?_
            have hP : va_P D vwCl [(o, .inr (10, (dsF b))), ((b 0), .inr (6, (skF b)))] H := hP
            have hD : va_D A [(o, .inr (10, (dsF b))), ((b 0), .inr (6, (skF b)))] := hD
            refine lv_if_eq (tgt := 91) hx hb dX10_world_66 (by decide) (fun c19 => ?_) (fun c19 => ?_)
            rotate_left
            · exact absurd c19 (by decide)
            refine lv_iconst (v := (-1)) hx hb dX10_world_91 (by decide) ?_
            refine W.widen (k := 0) (n := 0) (Nat.le_of_ble_eq_true rfl) (Nat.le_of_ble_eq_true rfl) ?_
            exact W.iret (v := (-1)) hx hb hr (fun t ht hW => ⟨⟨(), rfl, trivial, CB.nil⟩, hS.F ht⟩) hS.2.2 dX10_world_92
          · skip
            refine W.eq (g2 := F0 m 51 ls [.int 0]) rfl ?_
            refine lv_if_eq (tgt := 58) hx hb dX10_world_51 (by decide) (fun c20 => ?_) (fun c20 => ?_)
            rotate_left
            · exact absurd c20 (by decide)
            refine lv_iconst (v := 0) hx hb dX10_world_58 (by decide) ?_
            refine lv_istore (lv' := [(8, .int 0), (7, .int 1), (0, .ref o), (1, .int p0), (2, .int p1), (3, .int p2), (4, .int p3), (5, .int p4), (6, .int p5)]) hx hb dX10_world_59 hl (by decide) rfl (fun ls hl => ?_)
            refine lv_aload_n hx hb dX10_world_61 rfl (lv_at hl 2 rfl) ?_
            refine lv_iload_n hx hb dX10_world_62 rfl (lv_at hl 3 rfl) ?_
            refine cg (wc := [(o, .inr (10, (dsF b))), ((b 0), .inr (6, (skF b)))]) (wr := []) [0, 1] [] (rn_V (As := [.int p0]) (rest := []) (b := o) (c_isStar l D Y Z H.size o b p0) ⟨hx, hb, hml, hown, hg⟩ lk_X10_137 ⟨CP.blind, va_recv hKN.1 hP (ci := 10) (q0 := 0) rfl rfl, CP.at (hP.sub [0, 1] rfl) hKN (hD.sub [0, 1] (by decide) rfl)⟩ ⟨⟨rfl, rfl⟩, ⟨Nat.le_of_ble_eq_true rfl, Nat.le_of_ble_eq_true rfl⟩, ⟨Nat.le_of_ble_eq_true rfl, Nat.le_of_ble_eq_true rfl⟩⟩ hl.1 rfl (Nat.le_of_ble_eq_true rfl) dX10_world_63) hP hD hS hA rfl rfl (by decide) (by decide) (fun u21 H locs w22 hP hD hS => ?_)
            refine W.eq (g2 := F0 m 66 ls [.int 0]) rfl ?_
            have hP : va_P D vwCl [(o, .inr (10, (dsF b))), ((b 0), .inr (6, (skF b)))] H := hP
            have hD : va_D A [(o, .inr (10, (dsF b))), ((b 0), .inr (6, (skF b)))] := hD
            refine lv_if_eq (tgt := 91) hx hb dX10_world_66 (by decide) (fun c23 => ?_) (fun c23 => ?_)
            rotate_left
            · exact absurd c23 (by decide)
            refine lv_iconst (v := (-1)) hx hb dX10_world_91 (by decide) ?_
            refine W.widen (k := 0) (n := 0) (Nat.le_of_ble_eq_true rfl) (Nat.le_of_ble_eq_true rfl) ?_
            exact W.iret (v := (-1)) hx hb hr (fun t ht hW => ⟨⟨(), rfl, trivial, CB.nil⟩, hS.F ht⟩) hS.2.2 dX10_world_92
      · skip
        refine W.eq (g2 := F0 m 33 ls [.int 0]) rfl ?_
        refine lv_if_eq (tgt := 58) hx hb dX10_world_33 (by decide) (fun c24 => ?_) (fun c24 => ?_)
        rotate_left
        · exact absurd c24 (by decide)
        refine lv_iconst (v := 0) hx hb dX10_world_58 (by decide) ?_
        refine lv_istore (lv' := [(8, .int 0), (7, .int 1), (0, .ref o), (1, .int p0), (2, .int p1), (3, .int p2), (4, .int p3), (5, .int p4), (6, .int p5)]) hx hb dX10_world_59 hl (by decide) rfl (fun ls hl => ?_)
        refine lv_aload_n hx hb dX10_world_61 rfl (lv_at hl 2 rfl) ?_
        refine lv_iload_n hx hb dX10_world_62 rfl (lv_at hl 3 rfl) ?_
        refine cg (wc := [(o, .inr (10, (dsF b))), ((b 0), .inr (6, (skF b)))]) (wr := []) [0, 1] [] (rn_V (As := [.int p0]) (rest := []) (b := o) (c_isStar l D Y Z H.size o b p0) ⟨hx, hb, hml, hown, hg⟩ lk_X10_137 ⟨CP.blind, va_recv hKN.1 hP (ci := 10) (q0 := 0) rfl rfl, CP.at (hP.sub [0, 1] rfl) hKN (hD.sub [0, 1] (by decide) rfl)⟩ ⟨⟨rfl, rfl⟩, ⟨Nat.le_of_ble_eq_true rfl, Nat.le_of_ble_eq_true rfl⟩, ⟨Nat.le_of_ble_eq_true rfl, Nat.le_of_ble_eq_true rfl⟩⟩ hl.1 rfl (Nat.le_of_ble_eq_true rfl) dX10_world_63) hP hD hS hA rfl rfl (by decide) (by decide) (fun u25 H locs w26 hP hD hS => ?_)
        refine W.eq (g2 := F0 m 66 ls [.int 0]) rfl ?_
        have hP : va_P D vwCl [(o, .inr (10, (dsF b))), ((b 0), .inr (6, (skF b)))] H := hP
        have hD : va_D A [(o, .inr (10, (dsF b))), ((b 0), .inr (6, (skF b)))] := hD
        refine lv_if_eq (tgt := 91) hx hb dX10_world_66 (by decide) (fun c27 => ?_) (fun c27 => ?_)
        rotate_left
        · exact absurd c27 (by decide)
        refine lv_iconst (v := (-1)) hx hb dX10_world_91 (by decide) ?_
        refine W.widen (k := 0) (n := 0) (Nat.le_of_ble_eq_true rfl) (Nat.le_of_ble_eq_true rfl) ?_
        exact W.iret (v := (-1)) hx hb hr (fun t ht hW => ⟨⟨(), rfl, trivial, CB.nil⟩, hS.F ht⟩) hS.2.2 dX10_world_92
    · skip
      refine W.eq (g2 := F0 m 15 ls [.int 0]) rfl ?_
      refine lv_if_eq (tgt := 22) hx hb dX10_world_15 (by decide) (fun c28 => ?_) (fun c28 => ?_)
      rotate_left
      · exact absurd c28 (by decide)
      refine lv_iconst (v := 0) hx hb dX10_world_22 (by decide) ?_
      refine lv_istore (lv' := [(7, .int 0), (0, .ref o), (1, .int p0), (2, .int p1), (3, .int p2), (4, .int p3), (5, .int p4), (6, .int p5)]) hx hb dX10_world_23 hl (by decide) rfl (fun ls hl => ?_)
      refine lv_iload hx hb dX10_world_25 (lv_at hl 5 rfl) ?_
      refine lv_iconst (v := 1) hx hb dX10_world_27 (by decide) ?_
      refine lv_bipush (v := 30) hx hb dX10_world_28 (by decide) ?_
      refine cg0 (rn_S (As := [.int p3, .int 1, .int 30]) (rest := []) (c_isWithin l D Y Z H.size p3 1 30 (1) (30) (by decide) (by decide)) ⟨hx, hb, hml, hown, hg⟩ lk_X10_100 ⟨CP.blind, CP.at nilP hKN (nilD (A := fun _ => True))⟩ ⟨⟨rfl, rfl⟩, ⟨Nat.le_of_ble_eq_true rfl, Nat.le_of_ble_eq_true rfl⟩, ⟨Nat.le_of_ble_eq_true rfl, Nat.le_of_ble_eq_true rfl⟩⟩ hl.1 rfl (Nat.le_of_ble_eq_true rfl) dX10_world_30) hP hS hA (fun u29 H locs w30 hP hS => ?_)
      rcases w30 with ⟨w30, rfl⟩ | ⟨w30, rfl⟩
      · skip
        refine W.eq (g2 := F0 m 33 ls [.int 1]) rfl ?_
        refine lv_if_eq (tgt := 58) hx hb dX10_world_33 (by decide) (fun c31 => ?_) (fun c31 => ?_)
        · exact absurd c31 (by decide)
        refine lv_iload hx hb dX10_world_36 (lv_at hl 5 rfl) ?_
        refine lv_iload_n hx hb dX10_world_38 rfl (lv_at hl 3 rfl) ?_
        refine lv_icmp_ge (tgt := 58) hx hb dX10_world_39 (by decide) (fun c32 => ?_) (fun c32 => ?_)
        · skip
          have c32 := i_le (Eq.refl (p1).toInt) (Eq.refl (p3).toInt) c32
          refine lv_iconst (v := 0) hx hb dX10_world_58 (by decide) ?_
          refine lv_istore (lv' := [(8, .int 0), (7, .int 0), (0, .ref o), (1, .int p0), (2, .int p1), (3, .int p2), (4, .int p3), (5, .int p4), (6, .int p5)]) hx hb dX10_world_59 hl (by decide) rfl (fun ls hl => ?_)
          refine lv_aload_n hx hb dX10_world_61 rfl (lv_at hl 2 rfl) ?_
          refine lv_iload_n hx hb dX10_world_62 rfl (lv_at hl 3 rfl) ?_
          refine cg (wc := [(o, .inr (10, (dsF b))), ((b 0), .inr (6, (skF b)))]) (wr := []) [0, 1] [] (rn_V (As := [.int p0]) (rest := []) (b := o) (c_isStar l D Y Z H.size o b p0) ⟨hx, hb, hml, hown, hg⟩ lk_X10_137 ⟨CP.blind, va_recv hKN.1 hP (ci := 10) (q0 := 0) rfl rfl, CP.at (hP.sub [0, 1] rfl) hKN (hD.sub [0, 1] (by decide) rfl)⟩ ⟨⟨rfl, rfl⟩, ⟨Nat.le_of_ble_eq_true rfl, Nat.le_of_ble_eq_true rfl⟩, ⟨Nat.le_of_ble_eq_true rfl, Nat.le_of_ble_eq_true rfl⟩⟩ hl.1 rfl (Nat.le_of_ble_eq_true rfl) dX10_world_63) hP hD hS hA rfl rfl (by decide) (by decide) (fun u33 H locs w34 hP hD hS => ?_)
          refine W.eq (g2 := F0 m 66 ls [.int 0]) rfl ?_
          have hP : va_P D vwCl [(o, .inr (10, (dsF b))), ((b 0), .inr (6, (skF b)))] H := hP
          have hD : va_D A [(o, .inr (10, (dsF b))), ((b 0), .inr (6, (skF b)))] := hD
          refine lv_if_eq (tgt := 91) hx hb dX10_world_66 (by decide) (fun c35 => ?_) (fun c35 => ?_)
          rotate_left
          · exact absurd c35 (by decide)
          refine lv_iconst (v := (-1)) hx hb dX10_world_91 (by decide) ?_
          refine W.widen (k := 0) (n := 0) (Nat.le_of_ble_eq_true rfl) (Nat.le_of_ble_eq_true rfl) ?_
          exact W.iret (v := (-1)) hx hb hr (fun t ht hW => ⟨⟨(), rfl, trivial, CB.nil⟩, hS.F ht⟩) hS.2.2 dX10_world_92
        · skip
          have c32 := i_nle (Eq.refl (p1).toInt) (Eq.refl (p3).toInt) c32
          refine lv_iload hx hb dX10_world_42 (lv_at hl 6 rfl) ?_
          refine lv_iconst (v := 1) hx hb dX10_world_44 (by decide) ?_
          refine lv_sipush (v := 30000) hx hb dX10_world_45 (by decide) ?_
          refine cg0 (rn_S (As := [.int p4, .int 1, .int 30000]) (rest := []) (c_isWithin l D Y Z H.size p4 1 30000 (1) (30000) (by decide) (by decide)) ⟨hx, hb, hml, hown, hg⟩ lk_X10_100 ⟨CP.blind, CP.at nilP hKN (nilD (A := fun _ => True))⟩ ⟨⟨rfl, rfl⟩, ⟨Nat.le_of_ble_eq_true rfl, Nat.le_of_ble_eq_true rfl⟩, ⟨Nat.le_of_ble_eq_true rfl, Nat.le_of_ble_eq_true rfl⟩⟩ hl.1 rfl (Nat.le_of_ble_eq_true rfl) dX10_world_48) hP hS hA (fun u36 H locs w37 hP hS => ?_)
          rcases w37 with ⟨w37, rfl⟩ | ⟨w37, rfl⟩
          · skip
            refine W.eq (g2 := F0 m 51 ls [.int 1]) rfl ?_
            refine lv_if_eq (tgt := 58) hx hb dX10_world_51 (by decide) (fun c38 => ?_) (fun c38 => ?_)
            · exact absurd c38 (by decide)
            refine lv_iconst (v := 1) hx hb dX10_world_54 (by decide) ?_
            refine lv_goto (tgt := 59) hx hb dX10_world_55 (by decide) ?_
            refine lv_istore (lv' := [(8, .int 1), (7, .int 0), (0, .ref o), (1, .int p0), (2, .int p1), (3, .int p2), (4, .int p3), (5, .int p4), (6, .int p5)]) hx hb dX10_world_59 hl (by decide) rfl (fun ls hl => ?_)
            refine lv_aload_n hx hb dX10_world_61 rfl (lv_at hl 2 rfl) ?_
            refine lv_iload_n hx hb dX10_world_62 rfl (lv_at hl 3 rfl) ?_
            refine cg (wc := [(o, .inr (10, (dsF b))), ((b 0), .inr (6, (skF b)))]) (wr := []) [0, 1] [] (rn_V (As := [.int p0]) (rest := []) (b := o) (c_isStar l D Y Z H.size o b p0) ⟨hx, hb, hml, hown, hg⟩ lk_X10_137 ⟨CP.blind, va_recv hKN.1 hP (ci := 10) (q0 := 0) rfl rfl, CP.at (hP.sub [0, 1] rfl) hKN (hD.sub [0, 1] (by decide) rfl)⟩ ⟨⟨rfl, rfl⟩, ⟨Nat.le_of_ble_eq_true rfl, Nat.le_of_ble_eq_true rfl⟩, ⟨Nat.le_of_ble_eq_true rfl, Nat.le_of_ble_eq_true rfl⟩⟩ hl.1 rfl (Nat.le_of_ble_eq_true rfl) dX10_world_63) hP hD hS hA rfl rfl (by decide) (by decide) (fun u39 H locs w40 hP hD hS => ?_)
            refine W.eq (g2 := F0 m 66 ls [.int 0]) rfl ?_
            have hP : va_P D vwCl [(o, .inr (10, (dsF b))), ((b 0), .inr (6, (skF b)))] H := hP
            have hD : va_D A [(o, .inr (10, (dsF b))), ((b 0), .inr (6, (skF b)))] := hD
            refine lv_if_eq (tgt := 91) hx hb dX10_world_66 (by decide) (fun c41 => ?_) (fun c41 => ?_)
            rotate_left
            · exact absurd c41 (by decide)
            refine lv_iconst (v := (-1)) hx hb dX10_world_91 (by decide) ?_
            refine W.widen (k := 0) (n := 0) (Nat.le_of_ble_eq_true rfl) (Nat.le_of_ble_eq_true rfl) ?_
            exact W.iret (v := (-1)) hx hb hr (fun t ht hW => ⟨⟨(), rfl, trivial, CB.nil⟩, hS.F ht⟩) hS.2.2 dX10_world_92
          · skip
            refine W.eq (g2 := F0 m 51 ls [.int 0]) rfl ?_
            refine lv_if_eq (tgt := 58) hx hb dX10_world_51 (by decide) (fun c42 => ?_) (fun c42 => ?_)
            rotate_left
            · exact absurd c42 (by decide)
            refine lv_iconst (v := 0) hx hb dX10_world_58 (by decide) ?_
            refine lv_istore (lv' := [(8, .int 0), (7, .int 0), (0, .ref o), (1, .int p0), (2, .int p1), (3, .int p2), (4, .int p3), (5, .int p4), (6, .int p5)]) hx hb dX10_world_59 hl (by decide) rfl (fun ls hl => ?_)
            refine lv_aload_n hx hb dX10_world_61 rfl (lv_at hl 2 rfl) ?_
            refine lv_iload_n hx hb dX10_world_62 rfl (lv_at hl 3 rfl) ?_
            refine cg (wc := [(o, .inr (10, (dsF b))), ((b 0), .inr (6, (skF b)))]) (wr := []) [0, 1] [] (rn_V (As := [.int p0]) (rest := []) (b := o) (c_isStar l D Y Z H.size o b p0) ⟨hx, hb, hml, hown, hg⟩ lk_X10_137 ⟨CP.blind, va_recv hKN.1 hP (ci := 10) (q0 := 0) rfl rfl, CP.at (hP.sub [0, 1] rfl) hKN (hD.sub [0, 1] (by decide) rfl)⟩ ⟨⟨rfl, rfl⟩, ⟨Nat.le_of_ble_eq_true rfl, Nat.le_of_ble_eq_true rfl⟩, ⟨Nat.le_of_ble_eq_true rfl, Nat.le_of_ble_eq_true rfl⟩⟩ hl.1 rfl (Nat.le_of_ble_eq_true rfl) dX10_world_63) hP hD hS hA rfl rfl (by decide) (by decide) (fun u43 H locs w44 hP hD hS => ?_)
            refine W.eq (g2 := F0 m 66 ls [.int 0]) rfl ?_
            have hP : va_P D vwCl [(o, .inr (10, (dsF b))), ((b 0), .inr (6, (skF b)))] H := hP
            have hD : va_D A [(o, .inr (10, (dsF b))), ((b 0), .inr (6, (skF b)))] := hD
            refine lv_if_eq (tgt := 91) hx hb dX10_world_66 (by decide) (fun c45 => ?_) (fun c45 => ?_)
            rotate_left
            · exact absurd c45 (by decide)
            refine lv_iconst (v := (-1)) hx hb dX10_world_91 (by decide) ?_
            refine W.widen (k := 0) (n := 0) (Nat.le_of_ble_eq_true rfl) (Nat.le_of_ble_eq_true rfl) ?_
            exact W.iret (v := (-1)) hx hb hr (fun t ht hW => ⟨⟨(), rfl, trivial, CB.nil⟩, hS.F ht⟩) hS.2.2 dX10_world_92
      · skip
        refine W.eq (g2 := F0 m 33 ls [.int 0]) rfl ?_
        refine lv_if_eq (tgt := 58) hx hb dX10_world_33 (by decide) (fun c46 => ?_) (fun c46 => ?_)
        rotate_left
        · exact absurd c46 (by decide)
        refine lv_iconst (v := 0) hx hb dX10_world_58 (by decide) ?_
        refine lv_istore (lv' := [(8, .int 0), (7, .int 0), (0, .ref o), (1, .int p0), (2, .int p1), (3, .int p2), (4, .int p3), (5, .int p4), (6, .int p5)]) hx hb dX10_world_59 hl (by decide) rfl (fun ls hl => ?_)
        refine lv_aload_n hx hb dX10_world_61 rfl (lv_at hl 2 rfl) ?_
        refine lv_iload_n hx hb dX10_world_62 rfl (lv_at hl 3 rfl) ?_
        refine cg (wc := [(o, .inr (10, (dsF b))), ((b 0), .inr (6, (skF b)))]) (wr := []) [0, 1] [] (rn_V (As := [.int p0]) (rest := []) (b := o) (c_isStar l D Y Z H.size o b p0) ⟨hx, hb, hml, hown, hg⟩ lk_X10_137 ⟨CP.blind, va_recv hKN.1 hP (ci := 10) (q0 := 0) rfl rfl, CP.at (hP.sub [0, 1] rfl) hKN (hD.sub [0, 1] (by decide) rfl)⟩ ⟨⟨rfl, rfl⟩, ⟨Nat.le_of_ble_eq_true rfl, Nat.le_of_ble_eq_true rfl⟩, ⟨Nat.le_of_ble_eq_true rfl, Nat.le_of_ble_eq_true rfl⟩⟩ hl.1 rfl (Nat.le_of_ble_eq_true rfl) dX10_world_63) hP hD hS hA rfl rfl (by decide) (by decide) (fun u47 H locs w48 hP hD hS => ?_)
        refine W.eq (g2 := F0 m 66 ls [.int 0]) rfl ?_
        have hP : va_P D vwCl [(o, .inr (10, (dsF b))), ((b 0), .inr (6, (skF b)))] H := hP
        have hD : va_D A [(o, .inr (10, (dsF b))), ((b 0), .inr (6, (skF b)))] := hD
        refine lv_if_eq (tgt := 91) hx hb dX10_world_66 (by decide) (fun c49 => ?_) (fun c49 => ?_)
        rotate_left
        · exact absurd c49 (by decide)
        refine lv_iconst (v := (-1)) hx hb dX10_world_91 (by decide) ?_
        refine W.widen (k := 0) (n := 0) (Nat.le_of_ble_eq_true rfl) (Nat.le_of_ble_eq_true rfl) ?_
        exact W.iret (v := (-1)) hx hb hr (fun t ht hW => ⟨⟨(), rfl, trivial, CB.nil⟩, hS.F ht⟩) hS.2.2 dX10_world_92
  · skip
    refine W.eq (g2 := F0 m 8 ls [.int 0]) rfl ?_
    refine lv_if_eq (tgt := 22) hx hb dX10_world_8 (by decide) (fun c50 => ?_) (fun c50 => ?_)
    rotate_left
    · exact absurd c50 (by decide)
    refine lv_iconst (v := 0) hx hb dX10_world_22 (by decide) ?_
    refine lv_istore (lv' := [(7, .int 0), (0, .ref o), (1, .int p0), (2, .int p1), (3, .int p2), (4, .int p3), (5, .int p4), (6, .int p5)]) hx hb dX10_world_23 hl (by decide) rfl (fun ls hl => ?_)
    refine lv_iload hx hb dX10_world_25 (lv_at hl 5 rfl) ?_
    refine lv_iconst (v := 1) hx hb dX10_world_27 (by decide) ?_
    refine lv_bipush (v := 30) hx hb dX10_world_28 (by decide) ?_
    refine cg0 (rn_S (As := [.int p3, .int 1, .int 30]) (rest := []) (c_isWithin l D Y Z H.size p3 1 30 (1) (30) (by decide) (by decide)) ⟨hx, hb, hml, hown, hg⟩ lk_X10_100 ⟨CP.blind, CP.at nilP hKN (nilD (A := fun _ => True))⟩ ⟨⟨rfl, rfl⟩, ⟨Nat.le_of_ble_eq_true rfl, Nat.le_of_ble_eq_true rfl⟩, ⟨Nat.le_of_ble_eq_true rfl, Nat.le_of_ble_eq_true rfl⟩⟩ hl.1 rfl (Nat.le_of_ble_eq_true rfl) dX10_world_30) hP hS hA (fun u51 H locs w52 hP hS => ?_)
    rcases w52 with ⟨w52, rfl⟩ | ⟨w52, rfl⟩
    · skip
      refine W.eq (g2 := F0 m 33 ls [.int 1]) rfl ?_
      refine lv_if_eq (tgt := 58) hx hb dX10_world_33 (by decide) (fun c53 => ?_) (fun c53 => ?_)
      · exact absurd c53 (by decide)
      refine lv_iload hx hb dX10_world_36 (lv_at hl 5 rfl) ?_
      refine lv_iload_n hx hb dX10_world_38 rfl (lv_at hl 3 rfl) ?_
      refine lv_icmp_ge (tgt := 58) hx hb dX10_world_39 (by decide) (fun c54 => ?_) (fun c54 => ?_)
      · skip
        have c54 := i_le (Eq.refl (p1).toInt) (Eq.refl (p3).toInt) c54
        refine lv_iconst (v := 0) hx hb dX10_world_58 (by decide) ?_
        refine lv_istore (lv' := [(8, .int 0), (7, .int 0), (0, .ref o), (1, .int p0), (2, .int p1), (3, .int p2), (4, .int p3), (5, .int p4), (6, .int p5)]) hx hb dX10_world_59 hl (by decide) rfl (fun ls hl => ?_)
        refine lv_aload_n hx hb dX10_world_61 rfl (lv_at hl 2 rfl) ?_
        refine lv_iload_n hx hb dX10_world_62 rfl (lv_at hl 3 rfl) ?_
        refine cg (wc := [(o, .inr (10, (dsF b))), ((b 0), .inr (6, (skF b)))]) (wr := []) [0, 1] [] (rn_V (As := [.int p0]) (rest := []) (b := o) (c_isStar l D Y Z H.size o b p0) ⟨hx, hb, hml, hown, hg⟩ lk_X10_137 ⟨CP.blind, va_recv hKN.1 hP (ci := 10) (q0 := 0) rfl rfl, CP.at (hP.sub [0, 1] rfl) hKN (hD.sub [0, 1] (by decide) rfl)⟩ ⟨⟨rfl, rfl⟩, ⟨Nat.le_of_ble_eq_true rfl, Nat.le_of_ble_eq_true rfl⟩, ⟨Nat.le_of_ble_eq_true rfl, Nat.le_of_ble_eq_true rfl⟩⟩ hl.1 rfl (Nat.le_of_ble_eq_true rfl) dX10_world_63) hP hD hS hA rfl rfl (by decide) (by decide) (fun u55 H locs w56 hP hD hS => ?_)
        refine W.eq (g2 := F0 m 66 ls [.int 0]) rfl ?_
        have hP : va_P D vwCl [(o, .inr (10, (dsF b))), ((b 0), .inr (6, (skF b)))] H := hP
        have hD : va_D A [(o, .inr (10, (dsF b))), ((b 0), .inr (6, (skF b)))] := hD
        refine lv_if_eq (tgt := 91) hx hb dX10_world_66 (by decide) (fun c57 => ?_) (fun c57 => ?_)
        rotate_left
        · exact absurd c57 (by decide)
        refine lv_iconst (v := (-1)) hx hb dX10_world_91 (by decide) ?_
        refine W.widen (k := 0) (n := 0) (Nat.le_of_ble_eq_true rfl) (Nat.le_of_ble_eq_true rfl) ?_
        exact W.iret (v := (-1)) hx hb hr (fun t ht hW => ⟨⟨(), rfl, trivial, CB.nil⟩, hS.F ht⟩) hS.2.2 dX10_world_92
      · skip
        have c54 := i_nle (Eq.refl (p1).toInt) (Eq.refl (p3).toInt) c54
        refine lv_iload hx hb dX10_world_42 (lv_at hl 6 rfl) ?_
        refine lv_iconst (v := 1) hx hb dX10_world_44 (by decide) ?_
        refine lv_sipush (v := 30000) hx hb dX10_world_45 (by decide) ?_
        refine cg0 (rn_S (As := [.int p4, .int 1, .int 30000]) (rest := []) (c_isWithin l D Y Z H.size p4 1 30000 (1) (30000) (by decide) (by decide)) ⟨hx, hb, hml, hown, hg⟩ lk_X10_100 ⟨CP.blind, CP.at nilP hKN (nilD (A := fun _ => True))⟩ ⟨⟨rfl, rfl⟩, ⟨Nat.le_of_ble_eq_true rfl, Nat.le_of_ble_eq_true rfl⟩, ⟨Nat.le_of_ble_eq_true rfl, Nat.le_of_ble_eq_true rfl⟩⟩ hl.1 rfl (Nat.le_of_ble_eq_true rfl) dX10_world_48) hP hS hA (fun u58 H locs w59 hP hS => ?_)
        rcases w59 with ⟨w59, rfl⟩ | ⟨w59, rfl⟩
        · skip
          refine W.eq (g2 := F0 m 51 ls [.int 1]) rfl ?_
          refine lv_if_eq (tgt := 58) hx hb dX10_world_51 (by decide) (fun c60 => ?_) (fun c60 => ?_)
          · exact absurd c60 (by decide)
          refine lv_iconst (v := 1) hx hb dX10_world_54 (by decide) ?_
          refine lv_goto (tgt := 59) hx hb dX10_world_55 (by decide) ?_
          refine lv_istore (lv' := [(8, .int 1), (7, .int 0), (0, .ref o), (1, .int p0), (2, .int p1), (3, .int p2), (4, .int p3), (5, .int p4), (6, .int p5)]) hx hb dX10_world_59 hl (by decide) rfl (fun ls hl => ?_)
          refine lv_aload_n hx hb dX10_world_61 rfl (lv_at hl 2 rfl) ?_
          refine lv_iload_n hx hb dX10_world_62 rfl (lv_at hl 3 rfl) ?_
          refine cg (wc := [(o, .inr (10, (dsF b))), ((b 0), .inr (6, (skF b)))]) (wr := []) [0, 1] [] (rn_V (As := [.int p0]) (rest := []) (b := o) (c_isStar l D Y Z H.size o b p0) ⟨hx, hb, hml, hown, hg⟩ lk_X10_137 ⟨CP.blind, va_recv hKN.1 hP (ci := 10) (q0 := 0) rfl rfl, CP.at (hP.sub [0, 1] rfl) hKN (hD.sub [0, 1] (by decide) rfl)⟩ ⟨⟨rfl, rfl⟩, ⟨Nat.le_of_ble_eq_true rfl, Nat.le_of_ble_eq_true rfl⟩, ⟨Nat.le_of_ble_eq_true rfl, Nat.le_of_ble_eq_true rfl⟩⟩ hl.1 rfl (Nat.le_of_ble_eq_true rfl) dX10_world_63) hP hD hS hA rfl rfl (by decide) (by decide) (fun u61 H locs w62 hP hD hS => ?_)
          refine W.eq (g2 := F0 m 66 ls [.int 0]) rfl ?_
          have hP : va_P D vwCl [(o, .inr (10, (dsF b))), ((b 0), .inr (6, (skF b)))] H := hP
          have hD : va_D A [(o, .inr (10, (dsF b))), ((b 0), .inr (6, (skF b)))] := hD
          refine lv_if_eq (tgt := 91) hx hb dX10_world_66 (by decide) (fun c63 => ?_) (fun c63 => ?_)
          rotate_left
          · exact absurd c63 (by decide)
          refine lv_iconst (v := (-1)) hx hb dX10_world_91 (by decide) ?_
          refine W.widen (k := 0) (n := 0) (Nat.le_of_ble_eq_true rfl) (Nat.le_of_ble_eq_true rfl) ?_
          exact W.iret (v := (-1)) hx hb hr (fun t ht hW => ⟨⟨(), rfl, trivial, CB.nil⟩, hS.F ht⟩) hS.2.2 dX10_world_92
        · skip
          refine W.eq (g2 := F0 m 51 ls [.int 0]) rfl ?_
          refine lv_if_eq (tgt := 58) hx hb dX10_world_51 (by decide) (fun c64 => ?_) (fun c64 => ?_)
          rotate_left
          · exact absurd c64 (by decide)
          refine lv_iconst (v := 0) hx hb dX10_world_58 (by decide) ?_
          refine lv_istore (lv' := [(8, .int 0), (7, .int 0), (0, .ref o), (1, .int p0), (2, .int p1), (3, .int p2), (4, .int p3), (5, .int p4), (6, .int p5)]) hx hb dX10_world_59 hl (by decide) rfl (fun ls hl => ?_)
          refine lv_aload_n hx hb dX10_world_61 rfl (lv_at hl 2 rfl) ?_
          refine lv_iload_n hx hb dX10_world_62 rfl (lv_at hl 3 rfl) ?_
          refine cg (wc := [(o, .inr (10, (dsF b))), ((b 0), .inr (6, (skF b)))]) (wr := []) [0, 1] [] (rn_V (As := [.int p0]) (rest := []) (b := o) (c_isStar l D Y Z H.size o b p0) ⟨hx, hb, hml, hown, hg⟩ lk_X10_137 ⟨CP.blind, va_recv hKN.1 hP (ci := 10) (q0 := 0) rfl rfl, CP.at (hP.sub [0, 1] rfl) hKN (hD.sub [0, 1] (by decide) rfl)⟩ ⟨⟨rfl, rfl⟩, ⟨Nat.le_of_ble_eq_true rfl, Nat.le_of_ble_eq_true rfl⟩, ⟨Nat.le_of_ble_eq_true rfl, Nat.le_of_ble_eq_true rfl⟩⟩ hl.1 rfl (Nat.le_of_ble_eq_true rfl) dX10_world_63) hP hD hS hA rfl rfl (by decide) (by decide) (fun u65 H locs w66 hP hD hS => ?_)
          refine W.eq (g2 := F0 m 66 ls [.int 0]) rfl ?_
          have hP : va_P D vwCl [(o, .inr (10, (dsF b))), ((b 0), .inr (6, (skF b)))] H := hP
          have hD : va_D A [(o, .inr (10, (dsF b))), ((b 0), .inr (6, (skF b)))] := hD
          refine lv_if_eq (tgt := 91) hx hb dX10_world_66 (by decide) (fun c67 => ?_) (fun c67 => ?_)
          rotate_left
          · exact absurd c67 (by decide)
          refine lv_iconst (v := (-1)) hx hb dX10_world_91 (by decide) ?_
          refine W.widen (k := 0) (n := 0) (Nat.le_of_ble_eq_true rfl) (Nat.le_of_ble_eq_true rfl) ?_
          exact W.iret (v := (-1)) hx hb hr (fun t ht hW => ⟨⟨(), rfl, trivial, CB.nil⟩, hS.F ht⟩) hS.2.2 dX10_world_92
    · skip
      refine W.eq (g2 := F0 m 33 ls [.int 0]) rfl ?_
      refine lv_if_eq (tgt := 58) hx hb dX10_world_33 (by decide) (fun c68 => ?_) (fun c68 => ?_)
      rotate_left
      · exact absurd c68 (by decide)
      refine lv_iconst (v := 0) hx hb dX10_world_58 (by decide) ?_
      refine lv_istore (lv' := [(8, .int 0), (7, .int 0), (0, .ref o), (1, .int p0), (2, .int p1), (3, .int p2), (4, .int p3), (5, .int p4), (6, .int p5)]) hx hb dX10_world_59 hl (by decide) rfl (fun ls hl => ?_)
      refine lv_aload_n hx hb dX10_world_61 rfl (lv_at hl 2 rfl) ?_
      refine lv_iload_n hx hb dX10_world_62 rfl (lv_at hl 3 rfl) ?_
      refine cg (wc := [(o, .inr (10, (dsF b))), ((b 0), .inr (6, (skF b)))]) (wr := []) [0, 1] [] (rn_V (As := [.int p0]) (rest := []) (b := o) (c_isStar l D Y Z H.size o b p0) ⟨hx, hb, hml, hown, hg⟩ lk_X10_137 ⟨CP.blind, va_recv hKN.1 hP (ci := 10) (q0 := 0) rfl rfl, CP.at (hP.sub [0, 1] rfl) hKN (hD.sub [0, 1] (by decide) rfl)⟩ ⟨⟨rfl, rfl⟩, ⟨Nat.le_of_ble_eq_true rfl, Nat.le_of_ble_eq_true rfl⟩, ⟨Nat.le_of_ble_eq_true rfl, Nat.le_of_ble_eq_true rfl⟩⟩ hl.1 rfl (Nat.le_of_ble_eq_true rfl) dX10_world_63) hP hD hS hA rfl rfl (by decide) (by decide) (fun u69 H locs w70 hP hD hS => ?_)
      refine W.eq (g2 := F0 m 66 ls [.int 0]) rfl ?_
      have hP : va_P D vwCl [(o, .inr (10, (dsF b))), ((b 0), .inr (6, (skF b)))] H := hP
      have hD : va_D A [(o, .inr (10, (dsF b))), ((b 0), .inr (6, (skF b)))] := hD
      refine lv_if_eq (tgt := 91) hx hb dX10_world_66 (by decide) (fun c71 => ?_) (fun c71 => ?_)
      rotate_left
      · exact absurd c71 (by decide)
      refine lv_iconst (v := (-1)) hx hb dX10_world_91 (by decide) ?_
      refine W.widen (k := 0) (n := 0) (Nat.le_of_ble_eq_true rfl) (Nat.le_of_ble_eq_true rfl) ?_
      exact W.iret (v := (-1)) hx hb hr (fun t ht hW => ⟨⟨(), rfl, trivial, CB.nil⟩, hS.F ht⟩) hS.2.2 dX10_world_92
set_option maxHeartbeats 4000000 in
set_option maxRecDepth 100000 in
theorem y_world (l : Launch) (D : va_G) (Y : Nat → ClassId) (Z : Nat → Nat) (sz : Nat) (o : Nat) (a : Nat → Nat) (p0 p1 p2 p3 p4 p5 : Int32) : Met l yX11_world (.code yX11_world cX11_world 8 (some .int) :: GW) ({ frames := 1, cells := 0, slots := 0, locals := 21 }) (va_Pc [.ref o, .int p0, .int p1, .int p2, .int p3, .int p4, .int p5] (CP D Y Z [(o, .inr (11, (moF a))), ((a 0), .inl (Y 0, 7533, .inl tolF))] sz)) (QG (S := Unit) (fun _ => some (.int (-1))) (fun _ => True) (fun u => CB D ((fun _ => []) u) (va_A [(o, .inr (11, (moF a))), ((a 0), .inl (Y 0, 7533, .inl tolF))] sz)) (va_A [(o, .inr (11, (moF a))), ((a 0), .inl (Y 0, 7533, .inl tolF))] sz)) 0 0 (va_A [(o, .inr (11, (moF a))), ((a 0), .inl (Y 0, 7533, .inl tolF))] sz) := by
  refine Met.ofW (cc := cX11_world) (maxL := 8) (ret := (some .int)) (by decide) rfl ?_
  intro p e s m args below meth c s₁ B hml hv
  obtain ⟨rfl, hsz, hP, hKN, hD0⟩ := hv
  have hx := B.exec
  have hb := B.bytes
  have hr := B.returns
  have hts := atoms_spec (ws := .code yX11_world cX11_world 8 (some .int) :: GW) B.pre
  have hg : ∀ w ∈ GW, w.before _ s = true := fun w h => hts w (List.mem_cons_of_mem _ h)
  have hown : s.vm.findClass RX11 = some m.cls := findClass_of_methodNamed B.named
  have hlocks := B.notSynchronized
  subst hsz
  have hD := hD0.self (sz := s.heap.size)
  generalize hAe : va_A [(o, .inr (11, (moF a))), ((a 0), .inl (Y 0, 7533, .inl tolF))] s.heap.size = A at hD ⊢
  have hA : ∀ q : Nat, s.heap.size ≤ q → A q := fun q h => by rw [← hAe]; exact Or.inr h
  have hl := lv_entry ([.ref o, .int p0, .int p1, .int p2, .int p3, .int p4, .int p5]) (n := 8) (Nat.le_of_ble_eq_true rfl)
  rw [lg_entry_eq]
  generalize (lg_sl ([.ref o, .int p0, .int p1, .int p2, .int p3, .int p4, .int p5]) ++ List.replicate (8 - (lg_sl ([.ref o, .int p0, .int p1, .int p2, .int p3, .int p4, .int p5])).length) Slot.unset).toArray = ls at hl ⊢
  have hl : lv_has ls 8 [(0, .ref o), (1, .int p0), (2, .int p1), (3, .int p2), (4, .int p3), (5, .int p4), (6, .int p5)] := hl
  refine w_start (A0 := A) hP (fun H locs hP hS => ?_)
  refine lv_aload_n hx hb dX11_world_0 rfl (lv_at hl 0 rfl) ?_
  refine va_get (D := D) (ci := 11) (v := .ref (a 0)) (C := RX11) (T := TX11) (N := 49) hx hb hg inGX11 hown hKN.1 hP 0 rfl rfl 0 (by decide) (hg _ kw_1208) (fun _ h9 => h9) rfl dX11_world_1 ?_
  refine lv_iconst (v := 1) hx hb dX11_world_4 (by decide) ?_
  refine va_iald hx hb hKN.1 hP 1 0 rfl rfl (show ¬ ((1 : Int32) < 0 ∨ 7533 ≤ (1 : Int32).toNatClampNeg) by decide) dX11_world_5 ?_
  refine lv_topi (fun z1 ez1 => ?_)
  obtain rfl : z1 = 0 := ez1.trans (by decide)
  refine lv_bipush (v := 40) hx hb dX11_world_6 (by decide) ?_
  refine lv_icmp_eq (tgt := 77) hx hb dX11_world_8 (by decide) (fun c2 => ?_) (fun c2 => ?_)
  · exact absurd c2 (by decide)
  refine lv_aload_n hx hb dX11_world_11 rfl (lv_at hl 0 rfl) ?_
  refine lv_iload_n hx hb dX11_world_12 rfl (lv_at hl 1 rfl) ?_
  refine cg (wc := [(o, .inr (11, (moF a))), ((a 0), .inl (Y 0, 7533, .inl tolF))]) (wr := []) [0, 1] [] (rn_V (As := [.int p0]) (rest := []) (b := o) (m_isStar l D Y Z H.size o a p0) ⟨hx, hb, hml, hown, hg⟩ lk_X11_108 ⟨CP.blind, va_recv hKN.1 hP (ci := 11) (q0 := 0) rfl rfl, CP.at (hP.sub [0, 1] rfl) hKN (hD.sub [0, 1] (by decide) rfl)⟩ ⟨⟨rfl, rfl⟩, ⟨Nat.le_of_ble_eq_true rfl, Nat.le_of_ble_eq_true rfl⟩, ⟨Nat.le_of_ble_eq_true rfl, Nat.le_of_ble_eq_true rfl⟩⟩ hl.1 rfl (Nat.le_of_ble_eq_true rfl) dX11_world_13) hP hD hS hA rfl rfl (by decide) (by decide) (fun u3 H locs w4 hP hD hS => ?_)
  refine W.eq (g2 := F0 m 16 ls [.int 0]) rfl ?_
  have hP : va_P D vwCl [(o, .inr (11, (moF a))), ((a 0), .inl (Y 0, 7533, .inl tolF))] H := hP
  have hD : va_D A [(o, .inr (11, (moF a))), ((a 0), .inl (Y 0, 7533, .inl tolF))] := hD
  refine lv_if_eq (tgt := 77) hx hb dX11_world_16 (by decide) (fun c5 => ?_) (fun c5 => ?_)
  rotate_left
  · exact absurd c5 (by decide)
  refine lv_iconst (v := (-1)) hx hb dX11_world_77 (by decide) ?_
  refine W.widen (k := 0) (n := 0) (Nat.le_of_ble_eq_true rfl) (Nat.le_of_ble_eq_true rfl) ?_
  exact W.iret (v := (-1)) hx hb hr (fun t ht hW => ⟨⟨(), rfl, trivial, CB.nil⟩, hS.F ht⟩) hS.2.2 dX11_world_78
set_option maxHeartbeats 4000000 in
set_option maxRecDepth 100000 in
theorem x_make (l : Launch) (D : va_G) (Y : Nat → ClassId) (Z : Nat → Nat) (sz : Nat) (o : Nat) (b : Nat → Nat) (p0 p1 p2 p3 p4 : Int32) : Met l yX10_make (.code yX10_make cX10_make 15 (some .int) :: GW) ({ frames := 2, cells := 0, slots := 0, locals := 43 }) (va_Pc [.ref o, .int p0, .int p1, .int p2, .int p3, .int p4] (CP D Y Z [(o, .inr (10, (dsF b))), ((b 0), .inr (6, (skF b)))] sz)) (QG (S := Unit) (fun _ => some (.int (-1))) (fun _ => True) (fun u => CB D ((fun _ => []) u) (va_A [(o, .inr (10, (dsF b))), ((b 0), .inr (6, (skF b)))] sz)) (va_A [(o, .inr (10, (dsF b))), ((b 0), .inr (6, (skF b)))] sz)) 0 0 (va_A [(o, .inr (10, (dsF b))), ((b 0), .inr (6, (skF b)))] sz) := by
  refine Met.ofW (cc := cX10_make) (maxL := 15) (ret := (some .int)) (by decide) rfl ?_
  intro p e s m args below meth c s₁ B hml hv
  obtain ⟨rfl, hsz, hP, hKN, hD0⟩ := hv
  have hx := B.exec
  have hb := B.bytes
  have hr := B.returns
  have hts := atoms_spec (ws := .code yX10_make cX10_make 15 (some .int) :: GW) B.pre
  have hg : ∀ w ∈ GW, w.before _ s = true := fun w h => hts w (List.mem_cons_of_mem _ h)
  have hown : s.vm.findClass RX10 = some m.cls := findClass_of_methodNamed B.named
  have hlocks := B.notSynchronized
  subst hsz
  have hD := hD0.self (sz := s.heap.size)
  generalize hAe : va_A [(o, .inr (10, (dsF b))), ((b 0), .inr (6, (skF b)))] s.heap.size = A at hD ⊢
  have hA : ∀ q : Nat, s.heap.size ≤ q → A q := fun q h => by rw [← hAe]; exact Or.inr h
  have hl := lv_entry ([.ref o, .int p0, .int p1, .int p2, .int p3, .int p4]) (n := 15) (Nat.le_of_ble_eq_true rfl)
  rw [lg_entry_eq]
  generalize (lg_sl ([.ref o, .int p0, .int p1, .int p2, .int p3, .int p4]) ++ List.replicate (15 - (lg_sl ([.ref o, .int p0, .int p1, .int p2, .int p3, .int p4])).length) Slot.unset).toArray = ls at hl ⊢
  have hl : lv_has ls 15 [(0, .ref o), (1, .int p0), (2, .int p1), (3, .int p2), (4, .int p3), (5, .int p4)] := hl
  refine w_start (A0 := A) hP (fun H locs hP hS => ?_)
  refine lv_aload_n hx hb dX10_make_0 rfl (lv_at hl 0 rfl) ?_
  refine lv_iload_n hx hb dX10_make_1 rfl (lv_at hl 1 rfl) ?_
  refine cg (wc := [(o, .inr (10, (dsF b)))]) (wr := [((b 0), .inr (6, (skF b)))]) [0] [1] (rn_V (As := [.int p0]) (rest := []) (b := o) (c_lawAt l D Y Z H.size o b p0) ⟨hx, hb, hml, hown, hg⟩ lk_X10_194 ⟨CP.blind, va_recv hKN.1 hP (ci := 10) (q0 := 0) rfl rfl, CP.at (hP.sub [0] rfl) hKN (hD.sub [0] (by decide) rfl)⟩ ⟨⟨rfl, rfl⟩, ⟨Nat.le_of_ble_eq_true rfl, Nat.le_of_ble_eq_true rfl⟩, ⟨Nat.le_of_ble_eq_true rfl, Nat.le_of_ble_eq_true rfl⟩⟩ hl.1 rfl (Nat.le_of_ble_eq_true rfl) dX10_make_2) hP hD hS hA rfl rfl (by decide) (by decide) (fun u1 H locs w2 hP hD hS => ?_)
  refine W.eq (g2 := F0 m 5 ls [.null]) rfl ?_
  have hP : va_P D vwCl [((b 0), .inr (6, (skF b))), (o, .inr (10, (dsF b)))] H := hP
  have hD : va_D A [((b 0), .inr (6, (skF b))), (o, .inr (10, (dsF b)))] := hD
  refine lv_astoreN (lv' := [(6, .null), (0, .ref o), (1, .int p0), (2, .int p1), (3, .int p2), (4, .int p3), (5, .int p4)]) hx hb dX10_make_5 hl (by decide) rfl (fun ls hl => ?_)
  refine lv_aload_n hx hb dX10_make_7 rfl (lv_at hl 1 rfl) ?_
  refine va_get (D := D) (ci := 10) (v := .ref (b 0)) (C := RX10) (T := TX10) (N := 20) hx hb hg inGX10 hown hKN.1 hP 1 rfl rfl 0 (by decide) (hg _ kw_349) (fun _ h9 => h9) rfl dX10_make_8 ?_
  refine lv_iload_n hx hb dX10_make_11 rfl (lv_at hl 3 rfl) ?_
  refine cg (wc := [((b 0), .inr (6, (skF b)))]) (wr := [(o, .inr (10, (dsF b)))]) [0] [1] (rn_NV (As := [.int p1]) (rest := []) (b := (b 0)) (c_starAt l D Y Z H.size (b 0) b p1) ⟨hx, hb, hml, hown, hg⟩ hKN lk_X10_108 ⟨CP.blind, va_recv hKN.1 hP (ci := 6) (q0 := 0) rfl rfl, CP.at (hP.sub [0] rfl) hKN (hD.sub [0] (by decide) rfl)⟩ ⟨⟨rfl, rfl⟩, ⟨Nat.le_of_ble_eq_true rfl, Nat.le_of_ble_eq_true rfl⟩, ⟨Nat.le_of_ble_eq_true rfl, Nat.le_of_ble_eq_true rfl⟩⟩ hl.1 rfl (Nat.le_of_ble_eq_true rfl) dX10_make_12) hP hD hS hA rfl rfl (by decide) (by decide) (fun u3 H locs w4 hP hD hS => ?_)
  refine W.eq (g2 := F0 m 15 ls [.null]) rfl ?_
  have hP : va_P D vwCl [(o, .inr (10, (dsF b))), ((b 0), .inr (6, (skF b)))] H := hP
  have hD : va_D A [(o, .inr (10, (dsF b))), ((b 0), .inr (6, (skF b)))] := hD
  refine lv_astoreN (lv' := [(7, .null), (6, .null), (0, .ref o), (1, .int p0), (2, .int p1), (3, .int p2), (4, .int p3), (5, .int p4)]) hx hb dX10_make_15 hl (by decide) rfl (fun ls hl => ?_)
  refine lv_aloadN hx hb dX10_make_17 (lv_at hl 1 rfl) ?_
  refine lv_ifnullN (tgt := 54) hx hb dX10_make_19 (by decide) ?_
  refine lv_iconst (v := (-1)) hx hb dX10_make_54 (by decide) ?_
  refine W.widen (k := 0) (n := 0) (Nat.le_of_ble_eq_true rfl) (Nat.le_of_ble_eq_true rfl) ?_
  exact W.iret (v := (-1)) hx hb hr (fun t ht hW => ⟨⟨(), rfl, trivial, CB.nil⟩, hS.F ht⟩) hS.2.2 dX10_make_55
set_option maxHeartbeats 4000000 in
set_option maxRecDepth 100000 in
theorem y_make (l : Launch) (D : va_G) (Y : Nat → ClassId) (Z : Nat → Nat) (sz : Nat) (o : Nat) (a : Nat → Nat) (p0 p1 p2 p3 p4 : Int32) : Met l yX11_make (.code yX11_make cX11_make 13 (some .int) :: GW) ({ frames := 1, cells := 0, slots := 0, locals := 22 }) (va_Pc [.ref o, .int p0, .int p1, .int p2, .int p3, .int p4] (CP D Y Z [(o, .inr (11, (moF a))), ((a 3), .inl (Y 0, 3, .inl (fun _ => 0)))] sz)) (QG (S := Unit) (fun _ => some (.int (-1))) (fun _ => True) (fun u => CB D ((fun _ => []) u) (va_A [(o, .inr (11, (moF a))), ((a 3), .inl (Y 0, 3, .inl (fun _ => 0)))] sz)) (va_A [(o, .inr (11, (moF a))), ((a 3), .inl (Y 0, 3, .inl (fun _ => 0)))] sz)) 0 0 (va_A [(o, .inr (11, (moF a))), ((a 3), .inl (Y 0, 3, .inl (fun _ => 0)))] sz) := by
  refine Met.ofW (cc := cX11_make) (maxL := 13) (ret := (some .int)) (by decide) rfl ?_
  intro p e s m args below meth c s₁ B hml hv
  obtain ⟨rfl, hsz, hP, hKN, hD0⟩ := hv
  have hx := B.exec
  have hb := B.bytes
  have hr := B.returns
  have hts := atoms_spec (ws := .code yX11_make cX11_make 13 (some .int) :: GW) B.pre
  have hg : ∀ w ∈ GW, w.before _ s = true := fun w h => hts w (List.mem_cons_of_mem _ h)
  have hown : s.vm.findClass RX11 = some m.cls := findClass_of_methodNamed B.named
  have hlocks := B.notSynchronized
  subst hsz
  have hD := hD0.self (sz := s.heap.size)
  generalize hAe : va_A [(o, .inr (11, (moF a))), ((a 3), .inl (Y 0, 3, .inl (fun _ => 0)))] s.heap.size = A at hD ⊢
  have hA : ∀ q : Nat, s.heap.size ≤ q → A q := fun q h => by rw [← hAe]; exact Or.inr h
  have hl := lv_entry ([.ref o, .int p0, .int p1, .int p2, .int p3, .int p4]) (n := 13) (Nat.le_of_ble_eq_true rfl)
  rw [lg_entry_eq]
  generalize (lg_sl ([.ref o, .int p0, .int p1, .int p2, .int p3, .int p4]) ++ List.replicate (13 - (lg_sl ([.ref o, .int p0, .int p1, .int p2, .int p3, .int p4])).length) Slot.unset).toArray = ls at hl ⊢
  have hl : lv_has ls 13 [(0, .ref o), (1, .int p0), (2, .int p1), (3, .int p2), (4, .int p3), (5, .int p4)] := hl
  refine w_start (A0 := A) hP (fun H locs hP hS => ?_)
  refine lv_aload_n hx hb dX11_make_0 rfl (lv_at hl 0 rfl) ?_
  refine lv_iconst (v := 0) hx hb dX11_make_1 (by decide) ?_
  refine lv_iload_n hx hb dX11_make_2 rfl (lv_at hl 1 rfl) ?_
  refine cg (wc := [(o, .inr (11, (moF a))), ((a 3), .inl (Y 0, 3, .inl (fun _ => 0)))]) (wr := []) [0, 1] [] (rn_V (As := [.int 0, .int p0]) (rest := []) (b := o) (m_isText0 l D Y Z H.size o a p0) ⟨hx, hb, hml, hown, hg⟩ lk_X11_366 ⟨CP.blind, va_recv hKN.1 hP (ci := 11) (q0 := 0) rfl rfl, CP.at (hP.sub [0, 1] rfl) hKN (hD.sub [0, 1] (by decide) rfl)⟩ ⟨⟨rfl, rfl⟩, ⟨Nat.le_of_ble_eq_true rfl, Nat.le_of_ble_eq_true rfl⟩, ⟨Nat.le_of_ble_eq_true rfl, Nat.le_of_ble_eq_true rfl⟩⟩ hl.1 rfl (Nat.le_of_ble_eq_true rfl) dX11_make_3) hP hD hS hA rfl rfl (by decide) (by decide) (fun u1 H locs w2 hP hD hS => ?_)
  refine W.eq (g2 := F0 m 6 ls [.int 0]) rfl ?_
  have hP : va_P D vwCl [(o, .inr (11, (moF a))), ((a 3), .inl (Y 0, 3, .inl (fun _ => 0)))] H := hP
  have hD : va_D A [(o, .inr (11, (moF a))), ((a 3), .inl (Y 0, 3, .inl (fun _ => 0)))] := hD
  refine lv_if_eq (tgt := 44) hx hb dX11_make_6 (by decide) (fun c3 => ?_) (fun c3 => ?_)
  rotate_left
  · exact absurd c3 (by decide)
  refine lv_iconst (v := (-1)) hx hb dX11_make_44 (by decide) ?_
  refine W.widen (k := 0) (n := 0) (Nat.le_of_ble_eq_true rfl) (Nat.le_of_ble_eq_true rfl) ?_
  exact W.iret (v := (-1)) hx hb hr (fun t ht hW => ⟨⟨(), rfl, trivial, CB.nil⟩, hS.F ht⟩) hS.2.2 dX11_make_45
set_option maxHeartbeats 4000000 in
set_option maxRecDepth 100000 in
theorem x_tried (l : Launch) (D : va_G) (Y : Nat → ClassId) (Z : Nat → Nat) (sz : Nat) (o : Nat) (b : Nat → Nat) (p0 p1 p2 p3 p4 p5 : Int32) : Met l yX10_tried (.code yX10_tried cX10_tried 8 (some .long) :: GW) ({ frames := 2, cells := 0, slots := 0, locals := 42 }) (va_Pc [.ref o, .int p0, .int p1, .int p2, .int p3, .int p4, .int p5] (CP D Y Z [(o, .inr (10, (dsF b))), ((b 0), .inr (6, (skF b)))] sz)) (QG (S := Unit) (fun _ => some (.long (-200000))) (fun _ => True) (fun u => CB D ((fun _ => []) u) (va_A [(o, .inr (10, (dsF b))), ((b 0), .inr (6, (skF b)))] sz)) (va_A [(o, .inr (10, (dsF b))), ((b 0), .inr (6, (skF b)))] sz)) 0 0 (va_A [(o, .inr (10, (dsF b))), ((b 0), .inr (6, (skF b)))] sz) := by
  refine Met.ofW (cc := cX10_tried) (maxL := 8) (ret := (some .long)) (by decide) rfl ?_
  intro p e s m args below meth c s₁ B hml hv
  obtain ⟨rfl, hsz, hP, hKN, hD0⟩ := hv
  have hx := B.exec
  have hb := B.bytes
  have hr := B.returns
  have hts := atoms_spec (ws := .code yX10_tried cX10_tried 8 (some .long) :: GW) B.pre
  have hg : ∀ w ∈ GW, w.before _ s = true := fun w h => hts w (List.mem_cons_of_mem _ h)
  have hown : s.vm.findClass RX10 = some m.cls := findClass_of_methodNamed B.named
  have hlocks := B.notSynchronized
  subst hsz
  have hD := hD0.self (sz := s.heap.size)
  generalize hAe : va_A [(o, .inr (10, (dsF b))), ((b 0), .inr (6, (skF b)))] s.heap.size = A at hD ⊢
  have hA : ∀ q : Nat, s.heap.size ≤ q → A q := fun q h => by rw [← hAe]; exact Or.inr h
  have hl := lv_entry ([.ref o, .int p0, .int p1, .int p2, .int p3, .int p4, .int p5]) (n := 8) (Nat.le_of_ble_eq_true rfl)
  rw [lg_entry_eq]
  generalize (lg_sl ([.ref o, .int p0, .int p1, .int p2, .int p3, .int p4, .int p5]) ++ List.replicate (8 - (lg_sl ([.ref o, .int p0, .int p1, .int p2, .int p3, .int p4, .int p5])).length) Slot.unset).toArray = ls at hl ⊢
  have hl : lv_has ls 8 [(0, .ref o), (1, .int p0), (2, .int p1), (3, .int p2), (4, .int p3), (5, .int p4), (6, .int p5)] := hl
  refine w_start (A0 := A) hP (fun H locs hP hS => ?_)
  refine lv_iload_n hx hb dX10_tried_0 rfl (lv_at hl 3 rfl) ?_
  refine cg0 (rn_S (As := [.int p2]) (rest := []) (c_isBeat l D Y Z H.size p2) ⟨hx, hb, hml, hown, hg⟩ lk_X10_234 ⟨CP.blind, CP.at nilP hKN (nilD (A := fun _ => True))⟩ ⟨⟨rfl, rfl⟩, ⟨Nat.le_of_ble_eq_true rfl, Nat.le_of_ble_eq_true rfl⟩, ⟨Nat.le_of_ble_eq_true rfl, Nat.le_of_ble_eq_true rfl⟩⟩ hl.1 rfl (Nat.le_of_ble_eq_true rfl) dX10_tried_1) hP hS hA (fun u1 H locs w2 hP hS => ?_)
  rcases w2 with ⟨w2, rfl⟩ | ⟨w2, rfl⟩
  · skip
    refine W.eq (g2 := F0 m 4 ls [.int 1]) rfl ?_
    refine lv_if_eq (tgt := 40) hx hb dX10_tried_4 (by decide) (fun c3 => ?_) (fun c3 => ?_)
    · exact absurd c3 (by decide)
    refine lv_iload hx hb dX10_tried_7 (lv_at hl 4 rfl) ?_
    refine lv_iconst (v := 1) hx hb dX10_tried_9 (by decide) ?_
    refine lv_bipush (v := 10) hx hb dX10_tried_10 (by decide) ?_
    refine cg0 (rn_S (As := [.int p3, .int 1, .int 10]) (rest := []) (c_isWithin l D Y Z H.size p3 1 10 (1) (10) (by decide) (by decide)) ⟨hx, hb, hml, hown, hg⟩ lk_X10_100 ⟨CP.blind, CP.at nilP hKN (nilD (A := fun _ => True))⟩ ⟨⟨rfl, rfl⟩, ⟨Nat.le_of_ble_eq_true rfl, Nat.le_of_ble_eq_true rfl⟩, ⟨Nat.le_of_ble_eq_true rfl, Nat.le_of_ble_eq_true rfl⟩⟩ hl.1 rfl (Nat.le_of_ble_eq_true rfl) dX10_tried_12) hP hS hA (fun u4 H locs w5 hP hS => ?_)
    rcases w5 with ⟨w5, rfl⟩ | ⟨w5, rfl⟩
    · skip
      refine W.eq (g2 := F0 m 15 ls [.int 1]) rfl ?_
      refine lv_if_eq (tgt := 40) hx hb dX10_tried_15 (by decide) (fun c6 => ?_) (fun c6 => ?_)
      · exact absurd c6 (by decide)
      refine lv_iload hx hb dX10_tried_18 (lv_at hl 4 rfl) ?_
      refine lv_iload_n hx hb dX10_tried_20 rfl (lv_at hl 3 rfl) ?_
      refine lv_icmp_ge (tgt := 40) hx hb dX10_tried_21 (by decide) (fun c7 => ?_) (fun c7 => ?_)
      · skip
        have c7 := i_le (Eq.refl (p2).toInt) (Eq.refl (p3).toInt) c7
        refine lv_iconst (v := 0) hx hb dX10_tried_40 (by decide) ?_
        refine lv_istore (lv' := [(7, .int 0), (0, .ref o), (1, .int p0), (2, .int p1), (3, .int p2), (4, .int p3), (5, .int p4), (6, .int p5)]) hx hb dX10_tried_41 hl (by decide) rfl (fun ls hl => ?_)
        refine lv_aload_n hx hb dX10_tried_43 rfl (lv_at hl 1 rfl) ?_
        refine lv_iload_n hx hb dX10_tried_44 rfl (lv_at hl 2 rfl) ?_
        refine cg (wc := [(o, .inr (10, (dsF b))), ((b 0), .inr (6, (skF b)))]) (wr := []) [0, 1] [] (rn_V (As := [.int p0]) (rest := []) (b := o) (c_isStar l D Y Z H.size o b p0) ⟨hx, hb, hml, hown, hg⟩ lk_X10_137 ⟨CP.blind, va_recv hKN.1 hP (ci := 10) (q0 := 0) rfl rfl, CP.at (hP.sub [0, 1] rfl) hKN (hD.sub [0, 1] (by decide) rfl)⟩ ⟨⟨rfl, rfl⟩, ⟨Nat.le_of_ble_eq_true rfl, Nat.le_of_ble_eq_true rfl⟩, ⟨Nat.le_of_ble_eq_true rfl, Nat.le_of_ble_eq_true rfl⟩⟩ hl.1 rfl (Nat.le_of_ble_eq_true rfl) dX10_tried_45) hP hD hS hA rfl rfl (by decide) (by decide) (fun u8 H locs w9 hP hD hS => ?_)
        refine W.eq (g2 := F0 m 48 ls [.int 0]) rfl ?_
        have hP : va_P D vwCl [(o, .inr (10, (dsF b))), ((b 0), .inr (6, (skF b)))] H := hP
        have hD : va_D A [(o, .inr (10, (dsF b))), ((b 0), .inr (6, (skF b)))] := hD
        refine lv_if_eq (tgt := 73) hx hb dX10_tried_48 (by decide) (fun c10 => ?_) (fun c10 => ?_)
        rotate_left
        · exact absurd c10 (by decide)
        refine lv_ldc2 (v := (-200000)) hx hb hown (hg _ kw_817) dX10_tried_73 ?_
        refine W.widen (k := 0) (n := 0) (Nat.le_of_ble_eq_true rfl) (Nat.le_of_ble_eq_true rfl) ?_
        exact W.lret (v := (-200000)) hx hb hr (fun t ht hW => ⟨⟨(), rfl, trivial, CB.nil⟩, hS.F ht⟩) hS.2.2 dX10_tried_76
      · skip
        have c7 := i_nle (Eq.refl (p2).toInt) (Eq.refl (p3).toInt) c7
        refine lv_iload hx hb dX10_tried_24 (lv_at hl 5 rfl) ?_
        refine lv_iconst (v := 0) hx hb dX10_tried_26 (by decide) ?_
        refine lv_iload_n hx hb dX10_tried_27 rfl (lv_at hl 3 rfl) ?_
        refine lv_iconst (v := 1) hx hb dX10_tried_28 (by decide) ?_
        refine lv_isub hx hb dX10_tried_29 ?_
        refine lv_topi (fun v11 ev11 => ?_)
        have hv11 := i_sub (Eq.refl (p2).toInt) (show (1 : Int32).toInt = 1 by decide) ev11 (by omega) (by omega)
        refine cg0 (rn_S (As := [.int p4, .int 0, .int v11]) (rest := []) (c_isWithin l D Y Z H.size p4 0 v11 (0) (v11).toInt (by decide) rfl) ⟨hx, hb, hml, hown, hg⟩ lk_X10_100 ⟨CP.blind, CP.at nilP hKN (nilD (A := fun _ => True))⟩ ⟨⟨rfl, rfl⟩, ⟨Nat.le_of_ble_eq_true rfl, Nat.le_of_ble_eq_true rfl⟩, ⟨Nat.le_of_ble_eq_true rfl, Nat.le_of_ble_eq_true rfl⟩⟩ hl.1 rfl (Nat.le_of_ble_eq_true rfl) dX10_tried_30) hP hS hA (fun u12 H locs w13 hP hS => ?_)
        rcases w13 with ⟨w13, rfl⟩ | ⟨w13, rfl⟩
        · skip
          refine W.eq (g2 := F0 m 33 ls [.int 1]) rfl ?_
          refine lv_if_eq (tgt := 40) hx hb dX10_tried_33 (by decide) (fun c14 => ?_) (fun c14 => ?_)
          · exact absurd c14 (by decide)
          refine lv_iconst (v := 1) hx hb dX10_tried_36 (by decide) ?_
          refine lv_goto (tgt := 41) hx hb dX10_tried_37 (by decide) ?_
          refine lv_istore (lv' := [(7, .int 1), (0, .ref o), (1, .int p0), (2, .int p1), (3, .int p2), (4, .int p3), (5, .int p4), (6, .int p5)]) hx hb dX10_tried_41 hl (by decide) rfl (fun ls hl => ?_)
          refine lv_aload_n hx hb dX10_tried_43 rfl (lv_at hl 1 rfl) ?_
          refine lv_iload_n hx hb dX10_tried_44 rfl (lv_at hl 2 rfl) ?_
          refine cg (wc := [(o, .inr (10, (dsF b))), ((b 0), .inr (6, (skF b)))]) (wr := []) [0, 1] [] (rn_V (As := [.int p0]) (rest := []) (b := o) (c_isStar l D Y Z H.size o b p0) ⟨hx, hb, hml, hown, hg⟩ lk_X10_137 ⟨CP.blind, va_recv hKN.1 hP (ci := 10) (q0 := 0) rfl rfl, CP.at (hP.sub [0, 1] rfl) hKN (hD.sub [0, 1] (by decide) rfl)⟩ ⟨⟨rfl, rfl⟩, ⟨Nat.le_of_ble_eq_true rfl, Nat.le_of_ble_eq_true rfl⟩, ⟨Nat.le_of_ble_eq_true rfl, Nat.le_of_ble_eq_true rfl⟩⟩ hl.1 rfl (Nat.le_of_ble_eq_true rfl) dX10_tried_45) hP hD hS hA rfl rfl (by decide) (by decide) (fun u15 H locs w16 hP hD hS => ?_)
          refine W.eq (g2 := F0 m 48 ls [.int 0]) rfl ?_
          have hP : va_P D vwCl [(o, .inr (10, (dsF b))), ((b 0), .inr (6, (skF b)))] H := hP
          have hD : va_D A [(o, .inr (10, (dsF b))), ((b 0), .inr (6, (skF b)))] := hD
          refine lv_if_eq (tgt := 73) hx hb dX10_tried_48 (by decide) (fun c17 => ?_) (fun c17 => ?_)
          rotate_left
          · exact absurd c17 (by decide)
          refine lv_ldc2 (v := (-200000)) hx hb hown (hg _ kw_817) dX10_tried_73 ?_
          refine W.widen (k := 0) (n := 0) (Nat.le_of_ble_eq_true rfl) (Nat.le_of_ble_eq_true rfl) ?_
          exact W.lret (v := (-200000)) hx hb hr (fun t ht hW => ⟨⟨(), rfl, trivial, CB.nil⟩, hS.F ht⟩) hS.2.2 dX10_tried_76
        · skip
          refine W.eq (g2 := F0 m 33 ls [.int 0]) rfl ?_
          refine lv_if_eq (tgt := 40) hx hb dX10_tried_33 (by decide) (fun c18 => ?_) (fun c18 => ?_)
          rotate_left
          · exact absurd c18 (by decide)
          refine lv_iconst (v := 0) hx hb dX10_tried_40 (by decide) ?_
          refine lv_istore (lv' := [(7, .int 0), (0, .ref o), (1, .int p0), (2, .int p1), (3, .int p2), (4, .int p3), (5, .int p4), (6, .int p5)]) hx hb dX10_tried_41 hl (by decide) rfl (fun ls hl => ?_)
          refine lv_aload_n hx hb dX10_tried_43 rfl (lv_at hl 1 rfl) ?_
          refine lv_iload_n hx hb dX10_tried_44 rfl (lv_at hl 2 rfl) ?_
          refine cg (wc := [(o, .inr (10, (dsF b))), ((b 0), .inr (6, (skF b)))]) (wr := []) [0, 1] [] (rn_V (As := [.int p0]) (rest := []) (b := o) (c_isStar l D Y Z H.size o b p0) ⟨hx, hb, hml, hown, hg⟩ lk_X10_137 ⟨CP.blind, va_recv hKN.1 hP (ci := 10) (q0 := 0) rfl rfl, CP.at (hP.sub [0, 1] rfl) hKN (hD.sub [0, 1] (by decide) rfl)⟩ ⟨⟨rfl, rfl⟩, ⟨Nat.le_of_ble_eq_true rfl, Nat.le_of_ble_eq_true rfl⟩, ⟨Nat.le_of_ble_eq_true rfl, Nat.le_of_ble_eq_true rfl⟩⟩ hl.1 rfl (Nat.le_of_ble_eq_true rfl) dX10_tried_45) hP hD hS hA rfl rfl (by decide) (by decide) (fun u19 H locs w20 hP hD hS => ?_)
          refine W.eq (g2 := F0 m 48 ls [.int 0]) rfl ?_
          have hP : va_P D vwCl [(o, .inr (10, (dsF b))), ((b 0), .inr (6, (skF b)))] H := hP
          have hD : va_D A [(o, .inr (10, (dsF b))), ((b 0), .inr (6, (skF b)))] := hD
          refine lv_if_eq (tgt := 73) hx hb dX10_tried_48 (by decide) (fun c21 => ?_) (fun c21 => ?_)
          rotate_left
          · exact absurd c21 (by decide)
          refine lv_ldc2 (v := (-200000)) hx hb hown (hg _ kw_817) dX10_tried_73 ?_
          refine W.widen (k := 0) (n := 0) (Nat.le_of_ble_eq_true rfl) (Nat.le_of_ble_eq_true rfl) ?_
          exact W.lret (v := (-200000)) hx hb hr (fun t ht hW => ⟨⟨(), rfl, trivial, CB.nil⟩, hS.F ht⟩) hS.2.2 dX10_tried_76
    · skip
      refine W.eq (g2 := F0 m 15 ls [.int 0]) rfl ?_
      refine lv_if_eq (tgt := 40) hx hb dX10_tried_15 (by decide) (fun c22 => ?_) (fun c22 => ?_)
      rotate_left
      · exact absurd c22 (by decide)
      refine lv_iconst (v := 0) hx hb dX10_tried_40 (by decide) ?_
      refine lv_istore (lv' := [(7, .int 0), (0, .ref o), (1, .int p0), (2, .int p1), (3, .int p2), (4, .int p3), (5, .int p4), (6, .int p5)]) hx hb dX10_tried_41 hl (by decide) rfl (fun ls hl => ?_)
      refine lv_aload_n hx hb dX10_tried_43 rfl (lv_at hl 1 rfl) ?_
      refine lv_iload_n hx hb dX10_tried_44 rfl (lv_at hl 2 rfl) ?_
      refine cg (wc := [(o, .inr (10, (dsF b))), ((b 0), .inr (6, (skF b)))]) (wr := []) [0, 1] [] (rn_V (As := [.int p0]) (rest := []) (b := o) (c_isStar l D Y Z H.size o b p0) ⟨hx, hb, hml, hown, hg⟩ lk_X10_137 ⟨CP.blind, va_recv hKN.1 hP (ci := 10) (q0 := 0) rfl rfl, CP.at (hP.sub [0, 1] rfl) hKN (hD.sub [0, 1] (by decide) rfl)⟩ ⟨⟨rfl, rfl⟩, ⟨Nat.le_of_ble_eq_true rfl, Nat.le_of_ble_eq_true rfl⟩, ⟨Nat.le_of_ble_eq_true rfl, Nat.le_of_ble_eq_true rfl⟩⟩ hl.1 rfl (Nat.le_of_ble_eq_true rfl) dX10_tried_45) hP hD hS hA rfl rfl (by decide) (by decide) (fun u23 H locs w24 hP hD hS => ?_)
      refine W.eq (g2 := F0 m 48 ls [.int 0]) rfl ?_
      have hP : va_P D vwCl [(o, .inr (10, (dsF b))), ((b 0), .inr (6, (skF b)))] H := hP
      have hD : va_D A [(o, .inr (10, (dsF b))), ((b 0), .inr (6, (skF b)))] := hD
      refine lv_if_eq (tgt := 73) hx hb dX10_tried_48 (by decide) (fun c25 => ?_) (fun c25 => ?_)
      rotate_left
      · exact absurd c25 (by decide)
      refine lv_ldc2 (v := (-200000)) hx hb hown (hg _ kw_817) dX10_tried_73 ?_
      refine W.widen (k := 0) (n := 0) (Nat.le_of_ble_eq_true rfl) (Nat.le_of_ble_eq_true rfl) ?_
      exact W.lret (v := (-200000)) hx hb hr (fun t ht hW => ⟨⟨(), rfl, trivial, CB.nil⟩, hS.F ht⟩) hS.2.2 dX10_tried_76
  · skip
    refine W.eq (g2 := F0 m 4 ls [.int 0]) rfl ?_
    refine lv_if_eq (tgt := 40) hx hb dX10_tried_4 (by decide) (fun c26 => ?_) (fun c26 => ?_)
    rotate_left
    · exact absurd c26 (by decide)
    refine lv_iconst (v := 0) hx hb dX10_tried_40 (by decide) ?_
    refine lv_istore (lv' := [(7, .int 0), (0, .ref o), (1, .int p0), (2, .int p1), (3, .int p2), (4, .int p3), (5, .int p4), (6, .int p5)]) hx hb dX10_tried_41 hl (by decide) rfl (fun ls hl => ?_)
    refine lv_aload_n hx hb dX10_tried_43 rfl (lv_at hl 1 rfl) ?_
    refine lv_iload_n hx hb dX10_tried_44 rfl (lv_at hl 2 rfl) ?_
    refine cg (wc := [(o, .inr (10, (dsF b))), ((b 0), .inr (6, (skF b)))]) (wr := []) [0, 1] [] (rn_V (As := [.int p0]) (rest := []) (b := o) (c_isStar l D Y Z H.size o b p0) ⟨hx, hb, hml, hown, hg⟩ lk_X10_137 ⟨CP.blind, va_recv hKN.1 hP (ci := 10) (q0 := 0) rfl rfl, CP.at (hP.sub [0, 1] rfl) hKN (hD.sub [0, 1] (by decide) rfl)⟩ ⟨⟨rfl, rfl⟩, ⟨Nat.le_of_ble_eq_true rfl, Nat.le_of_ble_eq_true rfl⟩, ⟨Nat.le_of_ble_eq_true rfl, Nat.le_of_ble_eq_true rfl⟩⟩ hl.1 rfl (Nat.le_of_ble_eq_true rfl) dX10_tried_45) hP hD hS hA rfl rfl (by decide) (by decide) (fun u27 H locs w28 hP hD hS => ?_)
    refine W.eq (g2 := F0 m 48 ls [.int 0]) rfl ?_
    have hP : va_P D vwCl [(o, .inr (10, (dsF b))), ((b 0), .inr (6, (skF b)))] H := hP
    have hD : va_D A [(o, .inr (10, (dsF b))), ((b 0), .inr (6, (skF b)))] := hD
    refine lv_if_eq (tgt := 73) hx hb dX10_tried_48 (by decide) (fun c29 => ?_) (fun c29 => ?_)
    rotate_left
    · exact absurd c29 (by decide)
    refine lv_ldc2 (v := (-200000)) hx hb hown (hg _ kw_817) dX10_tried_73 ?_
    refine W.widen (k := 0) (n := 0) (Nat.le_of_ble_eq_true rfl) (Nat.le_of_ble_eq_true rfl) ?_
    exact W.lret (v := (-200000)) hx hb hr (fun t ht hW => ⟨⟨(), rfl, trivial, CB.nil⟩, hS.F ht⟩) hS.2.2 dX10_tried_76
set_option maxHeartbeats 4000000 in
set_option maxRecDepth 100000 in
theorem y_tried (l : Launch) (D : va_G) (Y : Nat → ClassId) (Z : Nat → Nat) (sz : Nat) (o : Nat) (a : Nat → Nat) (p0 p1 p2 p3 p4 p5 : Int32) : Met l yX11_tried (.code yX11_tried cX11_tried 7 (some .long) :: GW) ({ frames := 1, cells := 0, slots := 0, locals := 21 }) (va_Pc [.ref o, .int p0, .int p1, .int p2, .int p3, .int p4, .int p5] (CP D Y Z [(o, .inr (11, (moF a))), ((a 0), .inl (Y 0, 7533, .inl tolF))] sz)) (QG (S := Unit) (fun _ => some (.long (-200000))) (fun _ => True) (fun u => CB D ((fun _ => []) u) (va_A [(o, .inr (11, (moF a))), ((a 0), .inl (Y 0, 7533, .inl tolF))] sz)) (va_A [(o, .inr (11, (moF a))), ((a 0), .inl (Y 0, 7533, .inl tolF))] sz)) 0 0 (va_A [(o, .inr (11, (moF a))), ((a 0), .inl (Y 0, 7533, .inl tolF))] sz) := by
  refine Met.ofW (cc := cX11_tried) (maxL := 7) (ret := (some .long)) (by decide) rfl ?_
  intro p e s m args below meth c s₁ B hml hv
  obtain ⟨rfl, hsz, hP, hKN, hD0⟩ := hv
  have hx := B.exec
  have hb := B.bytes
  have hr := B.returns
  have hts := atoms_spec (ws := .code yX11_tried cX11_tried 7 (some .long) :: GW) B.pre
  have hg : ∀ w ∈ GW, w.before _ s = true := fun w h => hts w (List.mem_cons_of_mem _ h)
  have hown : s.vm.findClass RX11 = some m.cls := findClass_of_methodNamed B.named
  have hlocks := B.notSynchronized
  subst hsz
  have hD := hD0.self (sz := s.heap.size)
  generalize hAe : va_A [(o, .inr (11, (moF a))), ((a 0), .inl (Y 0, 7533, .inl tolF))] s.heap.size = A at hD ⊢
  have hA : ∀ q : Nat, s.heap.size ≤ q → A q := fun q h => by rw [← hAe]; exact Or.inr h
  have hl := lv_entry ([.ref o, .int p0, .int p1, .int p2, .int p3, .int p4, .int p5]) (n := 7) (Nat.le_of_ble_eq_true rfl)
  rw [lg_entry_eq]
  generalize (lg_sl ([.ref o, .int p0, .int p1, .int p2, .int p3, .int p4, .int p5]) ++ List.replicate (7 - (lg_sl ([.ref o, .int p0, .int p1, .int p2, .int p3, .int p4, .int p5])).length) Slot.unset).toArray = ls at hl ⊢
  have hl : lv_has ls 7 [(0, .ref o), (1, .int p0), (2, .int p1), (3, .int p2), (4, .int p3), (5, .int p4), (6, .int p5)] := hl
  refine w_start (A0 := A) hP (fun H locs hP hS => ?_)
  refine lv_aload_n hx hb dX11_tried_0 rfl (lv_at hl 0 rfl) ?_
  refine lv_iload_n hx hb dX11_tried_1 rfl (lv_at hl 1 rfl) ?_
  refine cg (wc := [(o, .inr (11, (moF a))), ((a 0), .inl (Y 0, 7533, .inl tolF))]) (wr := []) [0, 1] [] (rn_V (As := [.int p0]) (rest := []) (b := o) (m_isStar l D Y Z H.size o a p0) ⟨hx, hb, hml, hown, hg⟩ lk_X11_108 ⟨CP.blind, va_recv hKN.1 hP (ci := 11) (q0 := 0) rfl rfl, CP.at (hP.sub [0, 1] rfl) hKN (hD.sub [0, 1] (by decide) rfl)⟩ ⟨⟨rfl, rfl⟩, ⟨Nat.le_of_ble_eq_true rfl, Nat.le_of_ble_eq_true rfl⟩, ⟨Nat.le_of_ble_eq_true rfl, Nat.le_of_ble_eq_true rfl⟩⟩ hl.1 rfl (Nat.le_of_ble_eq_true rfl) dX11_tried_2) hP hD hS hA rfl rfl (by decide) (by decide) (fun u1 H locs w2 hP hD hS => ?_)
  refine W.eq (g2 := F0 m 5 ls [.int 0]) rfl ?_
  have hP : va_P D vwCl [(o, .inr (11, (moF a))), ((a 0), .inl (Y 0, 7533, .inl tolF))] H := hP
  have hD : va_D A [(o, .inr (11, (moF a))), ((a 0), .inl (Y 0, 7533, .inl tolF))] := hD
  refine lv_if_eq (tgt := 80) hx hb dX11_tried_5 (by decide) (fun c3 => ?_) (fun c3 => ?_)
  rotate_left
  · exact absurd c3 (by decide)
  refine lv_ldc2 (v := (-200000)) hx hb hown (hg _ kw_1666) dX11_tried_80 ?_
  refine W.widen (k := 0) (n := 0) (Nat.le_of_ble_eq_true rfl) (Nat.le_of_ble_eq_true rfl) ?_
  exact W.lret (v := (-200000)) hx hb hr (fun t ht hW => ⟨⟨(), rfl, trivial, CB.nil⟩, hS.F ht⟩) hS.2.2 dX11_tried_83
set_option maxHeartbeats 4000000 in
set_option maxRecDepth 100000 in
theorem x_found (l : Launch) (D : va_G) (Y : Nat → ClassId) (Z : Nat → Nat) (sz : Nat) (o : Nat) (b : Nat → Nat) (p0 p1 p2 p3 : Int32) : Met l yX10_found (.code yX10_found cX10_found 6 (some .long) :: GW) ({ frames := 2, cells := 0, slots := 0, locals := 43 }) (va_Pc [.ref o, .int p0, .int p1, .int p2, .int p3] (CP D Y Z [(o, .inr (10, (dsF b)))] sz)) (QG (S := Unit) (fun _ => some (.long (-2))) (fun _ => True) (fun u => CB D ((fun _ => []) u) (va_A [(o, .inr (10, (dsF b)))] sz)) (va_A [(o, .inr (10, (dsF b)))] sz)) 0 0 (va_A [(o, .inr (10, (dsF b)))] sz) := by
  refine Met.ofW (cc := cX10_found) (maxL := 6) (ret := (some .long)) (by decide) rfl ?_
  intro p e s m args below meth c s₁ B hml hv
  obtain ⟨rfl, hsz, hP, hKN, hD0⟩ := hv
  have hx := B.exec
  have hb := B.bytes
  have hr := B.returns
  have hts := atoms_spec (ws := .code yX10_found cX10_found 6 (some .long) :: GW) B.pre
  have hg : ∀ w ∈ GW, w.before _ s = true := fun w h => hts w (List.mem_cons_of_mem _ h)
  have hown : s.vm.findClass RX10 = some m.cls := findClass_of_methodNamed B.named
  have hlocks := B.notSynchronized
  subst hsz
  have hD := hD0.self (sz := s.heap.size)
  generalize hAe : va_A [(o, .inr (10, (dsF b)))] s.heap.size = A at hD ⊢
  have hA : ∀ q : Nat, s.heap.size ≤ q → A q := fun q h => by rw [← hAe]; exact Or.inr h
  have hl := lv_entry ([.ref o, .int p0, .int p1, .int p2, .int p3]) (n := 6) (Nat.le_of_ble_eq_true rfl)
  rw [lg_entry_eq]
  generalize (lg_sl ([.ref o, .int p0, .int p1, .int p2, .int p3]) ++ List.replicate (6 - (lg_sl ([.ref o, .int p0, .int p1, .int p2, .int p3])).length) Slot.unset).toArray = ls at hl ⊢
  have hl : lv_has ls 6 [(0, .ref o), (1, .int p0), (2, .int p1), (3, .int p2), (4, .int p3)] := hl
  refine w_start (A0 := A) hP (fun H locs hP hS => ?_)
  refine lv_aload_n hx hb dX10_found_0 rfl (lv_at hl 0 rfl) ?_
  refine lv_iload_n hx hb dX10_found_1 rfl (lv_at hl 1 rfl) ?_
  refine cg (wc := [(o, .inr (10, (dsF b)))]) (wr := []) [0] [] (rn_V (As := [.int p0]) (rest := []) (b := o) (c_searchAt l D Y Z H.size o b p0) ⟨hx, hb, hml, hown, hg⟩ lk_X10_259 ⟨CP.blind, va_recv hKN.1 hP (ci := 10) (q0 := 0) rfl rfl, CP.at (hP.sub [0] rfl) hKN (hD.sub [0] (by decide) rfl)⟩ ⟨⟨rfl, rfl⟩, ⟨Nat.le_of_ble_eq_true rfl, Nat.le_of_ble_eq_true rfl⟩, ⟨Nat.le_of_ble_eq_true rfl, Nat.le_of_ble_eq_true rfl⟩⟩ hl.1 rfl (Nat.le_of_ble_eq_true rfl) dX10_found_2) hP hD hS hA rfl rfl (by decide) (by decide) (fun u1 H locs w2 hP hD hS => ?_)
  refine W.eq (g2 := F0 m 5 ls [.null]) rfl ?_
  have hP : va_P D vwCl [(o, .inr (10, (dsF b)))] H := hP
  have hD : va_D A [(o, .inr (10, (dsF b)))] := hD
  refine lv_astoreN (lv' := [(5, .null), (0, .ref o), (1, .int p0), (2, .int p1), (3, .int p2), (4, .int p3)]) hx hb dX10_found_5 hl (by decide) rfl (fun ls hl => ?_)
  refine lv_aloadN hx hb dX10_found_7 (lv_at hl 0 rfl) ?_
  refine lv_ifnullN (tgt := 38) hx hb dX10_found_9 (by decide) ?_
  refine lv_ldc2 (v := (-2)) hx hb hown (hg _ kw_852) dX10_found_38 ?_
  refine W.widen (k := 0) (n := 0) (Nat.le_of_ble_eq_true rfl) (Nat.le_of_ble_eq_true rfl) ?_
  exact W.lret (v := (-2)) hx hb hr (fun t ht hW => ⟨⟨(), rfl, trivial, CB.nil⟩, hS.F ht⟩) hS.2.2 dX10_found_41
set_option maxHeartbeats 4000000 in
set_option maxRecDepth 100000 in
theorem y_found (l : Launch) (D : va_G) (Y : Nat → ClassId) (Z : Nat → Nat) (sz : Nat) (o : Nat) (a : Nat → Nat) (p0 p1 p2 p3 : Int32) : Met l yX11_found (.code yX11_found cX11_found 5 (some .long) :: GW) ({ frames := 1, cells := 0, slots := 0, locals := 22 }) (va_Pc [.ref o, .int p0, .int p1, .int p2, .int p3] (CP D Y Z [(o, .inr (11, (moF a))), ((a 3), .inl (Y 0, 3, .inl (fun _ => 0)))] sz)) (QG (S := Unit) (fun _ => some (.long (-2))) (fun _ => True) (fun u => CB D ((fun _ => []) u) (va_A [(o, .inr (11, (moF a))), ((a 3), .inl (Y 0, 3, .inl (fun _ => 0)))] sz)) (va_A [(o, .inr (11, (moF a))), ((a 3), .inl (Y 0, 3, .inl (fun _ => 0)))] sz)) 0 0 (va_A [(o, .inr (11, (moF a))), ((a 3), .inl (Y 0, 3, .inl (fun _ => 0)))] sz) := by
  refine Met.ofW (cc := cX11_found) (maxL := 5) (ret := (some .long)) (by decide) rfl ?_
  intro p e s m args below meth c s₁ B hml hv
  obtain ⟨rfl, hsz, hP, hKN, hD0⟩ := hv
  have hx := B.exec
  have hb := B.bytes
  have hr := B.returns
  have hts := atoms_spec (ws := .code yX11_found cX11_found 5 (some .long) :: GW) B.pre
  have hg : ∀ w ∈ GW, w.before _ s = true := fun w h => hts w (List.mem_cons_of_mem _ h)
  have hown : s.vm.findClass RX11 = some m.cls := findClass_of_methodNamed B.named
  have hlocks := B.notSynchronized
  subst hsz
  have hD := hD0.self (sz := s.heap.size)
  generalize hAe : va_A [(o, .inr (11, (moF a))), ((a 3), .inl (Y 0, 3, .inl (fun _ => 0)))] s.heap.size = A at hD ⊢
  have hA : ∀ q : Nat, s.heap.size ≤ q → A q := fun q h => by rw [← hAe]; exact Or.inr h
  have hl := lv_entry ([.ref o, .int p0, .int p1, .int p2, .int p3]) (n := 5) (Nat.le_of_ble_eq_true rfl)
  rw [lg_entry_eq]
  generalize (lg_sl ([.ref o, .int p0, .int p1, .int p2, .int p3]) ++ List.replicate (5 - (lg_sl ([.ref o, .int p0, .int p1, .int p2, .int p3])).length) Slot.unset).toArray = ls at hl ⊢
  have hl : lv_has ls 5 [(0, .ref o), (1, .int p0), (2, .int p1), (3, .int p2), (4, .int p3)] := hl
  refine w_start (A0 := A) hP (fun H locs hP hS => ?_)
  refine lv_aload_n hx hb dX11_found_0 rfl (lv_at hl 0 rfl) ?_
  refine lv_iconst (v := 1) hx hb dX11_found_1 (by decide) ?_
  refine lv_iload_n hx hb dX11_found_2 rfl (lv_at hl 1 rfl) ?_
  refine cg (wc := [(o, .inr (11, (moF a))), ((a 3), .inl (Y 0, 3, .inl (fun _ => 0)))]) (wr := []) [0, 1] [] (rn_V (As := [.int 1, .int p0]) (rest := []) (b := o) (m_isText1 l D Y Z H.size o a p0) ⟨hx, hb, hml, hown, hg⟩ lk_X11_366 ⟨CP.blind, va_recv hKN.1 hP (ci := 11) (q0 := 0) rfl rfl, CP.at (hP.sub [0, 1] rfl) hKN (hD.sub [0, 1] (by decide) rfl)⟩ ⟨⟨rfl, rfl⟩, ⟨Nat.le_of_ble_eq_true rfl, Nat.le_of_ble_eq_true rfl⟩, ⟨Nat.le_of_ble_eq_true rfl, Nat.le_of_ble_eq_true rfl⟩⟩ hl.1 rfl (Nat.le_of_ble_eq_true rfl) dX11_found_3) hP hD hS hA rfl rfl (by decide) (by decide) (fun u1 H locs w2 hP hD hS => ?_)
  refine W.eq (g2 := F0 m 6 ls [.int 0]) rfl ?_
  have hP : va_P D vwCl [(o, .inr (11, (moF a))), ((a 3), .inl (Y 0, 3, .inl (fun _ => 0)))] H := hP
  have hD : va_D A [(o, .inr (11, (moF a))), ((a 3), .inl (Y 0, 3, .inl (fun _ => 0)))] := hD
  refine lv_if_eq (tgt := 42) hx hb dX11_found_6 (by decide) (fun c3 => ?_) (fun c3 => ?_)
  rotate_left
  · exact absurd c3 (by decide)
  refine lv_ldc2 (v := (-2)) hx hb hown (hg _ kw_1707) dX11_found_42 ?_
  refine W.widen (k := 0) (n := 0) (Nat.le_of_ble_eq_true rfl) (Nat.le_of_ble_eq_true rfl) ?_
  exact W.lret (v := (-2)) hx hb hr (fun t ht hW => ⟨⟨(), rfl, trivial, CB.nil⟩, hS.F ht⟩) hS.2.2 dX11_found_45
set_option maxHeartbeats 4000000 in
set_option maxRecDepth 100000 in
theorem x_spread (l : Launch) (D : va_G) (Y : Nat → ClassId) (Z : Nat → Nat) (sz : Nat) (o : Nat) (b : Nat → Nat) (p0 : Int32) : Met l yX10_spread (.code yX10_spread cX10_spread 2 (some .long) :: GW) ({ frames := 2, cells := 0, slots := 0, locals := 42 }) (va_Pc [.ref o, .int p0] (CP D Y Z [(o, .inr (10, (dsF b))), ((b 0), .inr (6, (skF b)))] sz)) (QG (S := Unit) (fun _ => some (.long (-1))) (fun _ => True) (fun u => CB D ((fun _ => []) u) (va_A [(o, .inr (10, (dsF b))), ((b 0), .inr (6, (skF b)))] sz)) (va_A [(o, .inr (10, (dsF b))), ((b 0), .inr (6, (skF b)))] sz)) 0 0 (va_A [(o, .inr (10, (dsF b))), ((b 0), .inr (6, (skF b)))] sz) := by
  refine Met.ofW (cc := cX10_spread) (maxL := 2) (ret := (some .long)) (by decide) rfl ?_
  intro p e s m args below meth c s₁ B hml hv
  obtain ⟨rfl, hsz, hP, hKN, hD0⟩ := hv
  have hx := B.exec
  have hb := B.bytes
  have hr := B.returns
  have hts := atoms_spec (ws := .code yX10_spread cX10_spread 2 (some .long) :: GW) B.pre
  have hg : ∀ w ∈ GW, w.before _ s = true := fun w h => hts w (List.mem_cons_of_mem _ h)
  have hown : s.vm.findClass RX10 = some m.cls := findClass_of_methodNamed B.named
  have hlocks := B.notSynchronized
  subst hsz
  have hD := hD0.self (sz := s.heap.size)
  generalize hAe : va_A [(o, .inr (10, (dsF b))), ((b 0), .inr (6, (skF b)))] s.heap.size = A at hD ⊢
  have hA : ∀ q : Nat, s.heap.size ≤ q → A q := fun q h => by rw [← hAe]; exact Or.inr h
  have hl := lv_entry ([.ref o, .int p0]) (n := 2) (Nat.le_of_ble_eq_true rfl)
  rw [lg_entry_eq]
  generalize (lg_sl ([.ref o, .int p0]) ++ List.replicate (2 - (lg_sl ([.ref o, .int p0])).length) Slot.unset).toArray = ls at hl ⊢
  have hl : lv_has ls 2 [(0, .ref o), (1, .int p0)] := hl
  refine w_start (A0 := A) hP (fun H locs hP hS => ?_)
  refine lv_aload_n hx hb dX10_spread_0 rfl (lv_at hl 0 rfl) ?_
  refine lv_iload_n hx hb dX10_spread_1 rfl (lv_at hl 1 rfl) ?_
  refine cg (wc := [(o, .inr (10, (dsF b))), ((b 0), .inr (6, (skF b)))]) (wr := []) [0, 1] [] (rn_V (As := [.int p0]) (rest := []) (b := o) (c_isStar l D Y Z H.size o b p0) ⟨hx, hb, hml, hown, hg⟩ lk_X10_137 ⟨CP.blind, va_recv hKN.1 hP (ci := 10) (q0 := 0) rfl rfl, CP.at (hP.sub [0, 1] rfl) hKN (hD.sub [0, 1] (by decide) rfl)⟩ ⟨⟨rfl, rfl⟩, ⟨Nat.le_of_ble_eq_true rfl, Nat.le_of_ble_eq_true rfl⟩, ⟨Nat.le_of_ble_eq_true rfl, Nat.le_of_ble_eq_true rfl⟩⟩ hl.1 rfl (Nat.le_of_ble_eq_true rfl) dX10_spread_2) hP hD hS hA rfl rfl (by decide) (by decide) (fun u1 H locs w2 hP hD hS => ?_)
  refine W.eq (g2 := F0 m 5 ls [.int 0]) rfl ?_
  have hP : va_P D vwCl [(o, .inr (10, (dsF b))), ((b 0), .inr (6, (skF b)))] H := hP
  have hD : va_D A [(o, .inr (10, (dsF b))), ((b 0), .inr (6, (skF b)))] := hD
  refine lv_if_ne (tgt := 12) hx hb dX10_spread_5 (by decide) (fun c3 => ?_) (fun c3 => ?_)
  · exact absurd c3 (by decide)
  refine lv_ldc2 (v := (-1)) hx hb hown (hg _ kw_899) dX10_spread_8 ?_
  refine W.widen (k := 0) (n := 0) (Nat.le_of_ble_eq_true rfl) (Nat.le_of_ble_eq_true rfl) ?_
  exact W.lret (v := (-1)) hx hb hr (fun t ht hW => ⟨⟨(), rfl, trivial, CB.nil⟩, hS.F ht⟩) hS.2.2 dX10_spread_11
set_option maxHeartbeats 4000000 in
set_option maxRecDepth 100000 in
theorem y_spread (l : Launch) (D : va_G) (Y : Nat → ClassId) (Z : Nat → Nat) (sz : Nat) (o : Nat) (a : Nat → Nat) (p0 : Int32) : Met l yX11_spread (.code yX11_spread cX11_spread 2 (some .long) :: GW) ({ frames := 1, cells := 0, slots := 0, locals := 21 }) (va_Pc [.ref o, .int p0] (CP D Y Z [(o, .inr (11, (moF a))), ((a 0), .inl (Y 0, 7533, .inl tolF))] sz)) (QG (S := Unit) (fun _ => some (.long (-1))) (fun _ => True) (fun u => CB D ((fun _ => []) u) (va_A [(o, .inr (11, (moF a))), ((a 0), .inl (Y 0, 7533, .inl tolF))] sz)) (va_A [(o, .inr (11, (moF a))), ((a 0), .inl (Y 0, 7533, .inl tolF))] sz)) 0 0 (va_A [(o, .inr (11, (moF a))), ((a 0), .inl (Y 0, 7533, .inl tolF))] sz) := by
  refine Met.ofW (cc := cX11_spread) (maxL := 2) (ret := (some .long)) (by decide) rfl ?_
  intro p e s m args below meth c s₁ B hml hv
  obtain ⟨rfl, hsz, hP, hKN, hD0⟩ := hv
  have hx := B.exec
  have hb := B.bytes
  have hr := B.returns
  have hts := atoms_spec (ws := .code yX11_spread cX11_spread 2 (some .long) :: GW) B.pre
  have hg : ∀ w ∈ GW, w.before _ s = true := fun w h => hts w (List.mem_cons_of_mem _ h)
  have hown : s.vm.findClass RX11 = some m.cls := findClass_of_methodNamed B.named
  have hlocks := B.notSynchronized
  subst hsz
  have hD := hD0.self (sz := s.heap.size)
  generalize hAe : va_A [(o, .inr (11, (moF a))), ((a 0), .inl (Y 0, 7533, .inl tolF))] s.heap.size = A at hD ⊢
  have hA : ∀ q : Nat, s.heap.size ≤ q → A q := fun q h => by rw [← hAe]; exact Or.inr h
  have hl := lv_entry ([.ref o, .int p0]) (n := 2) (Nat.le_of_ble_eq_true rfl)
  rw [lg_entry_eq]
  generalize (lg_sl ([.ref o, .int p0]) ++ List.replicate (2 - (lg_sl ([.ref o, .int p0])).length) Slot.unset).toArray = ls at hl ⊢
  have hl : lv_has ls 2 [(0, .ref o), (1, .int p0)] := hl
  refine w_start (A0 := A) hP (fun H locs hP hS => ?_)
  refine lv_aload_n hx hb dX11_spread_0 rfl (lv_at hl 0 rfl) ?_
  refine lv_iload_n hx hb dX11_spread_1 rfl (lv_at hl 1 rfl) ?_
  refine cg (wc := [(o, .inr (11, (moF a))), ((a 0), .inl (Y 0, 7533, .inl tolF))]) (wr := []) [0, 1] [] (rn_V (As := [.int p0]) (rest := []) (b := o) (m_isStar l D Y Z H.size o a p0) ⟨hx, hb, hml, hown, hg⟩ lk_X11_108 ⟨CP.blind, va_recv hKN.1 hP (ci := 11) (q0 := 0) rfl rfl, CP.at (hP.sub [0, 1] rfl) hKN (hD.sub [0, 1] (by decide) rfl)⟩ ⟨⟨rfl, rfl⟩, ⟨Nat.le_of_ble_eq_true rfl, Nat.le_of_ble_eq_true rfl⟩, ⟨Nat.le_of_ble_eq_true rfl, Nat.le_of_ble_eq_true rfl⟩⟩ hl.1 rfl (Nat.le_of_ble_eq_true rfl) dX11_spread_2) hP hD hS hA rfl rfl (by decide) (by decide) (fun u1 H locs w2 hP hD hS => ?_)
  refine W.eq (g2 := F0 m 5 ls [.int 0]) rfl ?_
  have hP : va_P D vwCl [(o, .inr (11, (moF a))), ((a 0), .inl (Y 0, 7533, .inl tolF))] H := hP
  have hD : va_D A [(o, .inr (11, (moF a))), ((a 0), .inl (Y 0, 7533, .inl tolF))] := hD
  refine lv_if_ne (tgt := 12) hx hb dX11_spread_5 (by decide) (fun c3 => ?_) (fun c3 => ?_)
  · exact absurd c3 (by decide)
  refine lv_ldc2 (v := (-1)) hx hb hown (hg _ kw_1650) dX11_spread_8 ?_
  refine W.widen (k := 0) (n := 0) (Nat.le_of_ble_eq_true rfl) (Nat.le_of_ble_eq_true rfl) ?_
  exact W.lret (v := (-1)) hx hb hr (fun t ht hW => ⟨⟨(), rfl, trivial, CB.nil⟩, hS.F ht⟩) hS.2.2 dX11_spread_11
set_option maxHeartbeats 4000000 in
set_option maxRecDepth 100000 in
theorem x_catches (l : Launch) (D : va_G) (Y : Nat → ClassId) (Z : Nat → Nat) (sz : Nat) (o : Nat) (b : Nat → Nat) (p0 p1 : Int32) : Met l yX10_catches (.code yX10_catches cX10_catches 5 (some .int) :: GW) ({ frames := 2, cells := 0, slots := 0, locals := 43 }) (va_Pc [.ref o, .int p0, .int p1] (CP D Y Z [(o, .inr (10, (dsF b))), ((b 0), .inr (6, (skF b)))] sz)) (QG (S := Unit) (fun _ => some (.int (-1))) (fun _ => True) (fun u => CB D ((fun _ => []) u) (va_A [(o, .inr (10, (dsF b))), ((b 0), .inr (6, (skF b)))] sz)) (va_A [(o, .inr (10, (dsF b))), ((b 0), .inr (6, (skF b)))] sz)) 0 0 (va_A [(o, .inr (10, (dsF b))), ((b 0), .inr (6, (skF b)))] sz) := by
  refine Met.ofW (cc := cX10_catches) (maxL := 5) (ret := (some .int)) (by decide) rfl ?_
  intro p e s m args below meth c s₁ B hml hv
  obtain ⟨rfl, hsz, hP, hKN, hD0⟩ := hv
  have hx := B.exec
  have hb := B.bytes
  have hr := B.returns
  have hts := atoms_spec (ws := .code yX10_catches cX10_catches 5 (some .int) :: GW) B.pre
  have hg : ∀ w ∈ GW, w.before _ s = true := fun w h => hts w (List.mem_cons_of_mem _ h)
  have hown : s.vm.findClass RX10 = some m.cls := findClass_of_methodNamed B.named
  have hlocks := B.notSynchronized
  subst hsz
  have hD := hD0.self (sz := s.heap.size)
  generalize hAe : va_A [(o, .inr (10, (dsF b))), ((b 0), .inr (6, (skF b)))] s.heap.size = A at hD ⊢
  have hA : ∀ q : Nat, s.heap.size ≤ q → A q := fun q h => by rw [← hAe]; exact Or.inr h
  have hl := lv_entry ([.ref o, .int p0, .int p1]) (n := 5) (Nat.le_of_ble_eq_true rfl)
  rw [lg_entry_eq]
  generalize (lg_sl ([.ref o, .int p0, .int p1]) ++ List.replicate (5 - (lg_sl ([.ref o, .int p0, .int p1])).length) Slot.unset).toArray = ls at hl ⊢
  have hl : lv_has ls 5 [(0, .ref o), (1, .int p0), (2, .int p1)] := hl
  refine w_start (A0 := A) hP (fun H locs hP hS => ?_)
  refine lv_aload_n hx hb dX10_catches_0 rfl (lv_at hl 0 rfl) ?_
  refine lv_iload_n hx hb dX10_catches_1 rfl (lv_at hl 1 rfl) ?_
  refine cg (wc := [(o, .inr (10, (dsF b)))]) (wr := [((b 0), .inr (6, (skF b)))]) [0] [1] (rn_V (As := [.int p0]) (rest := []) (b := o) (c_searchAt l D Y Z H.size o b p0) ⟨hx, hb, hml, hown, hg⟩ lk_X10_259 ⟨CP.blind, va_recv hKN.1 hP (ci := 10) (q0 := 0) rfl rfl, CP.at (hP.sub [0] rfl) hKN (hD.sub [0] (by decide) rfl)⟩ ⟨⟨rfl, rfl⟩, ⟨Nat.le_of_ble_eq_true rfl, Nat.le_of_ble_eq_true rfl⟩, ⟨Nat.le_of_ble_eq_true rfl, Nat.le_of_ble_eq_true rfl⟩⟩ hl.1 rfl (Nat.le_of_ble_eq_true rfl) dX10_catches_2) hP hD hS hA rfl rfl (by decide) (by decide) (fun u1 H locs w2 hP hD hS => ?_)
  refine W.eq (g2 := F0 m 5 ls [.null]) rfl ?_
  have hP : va_P D vwCl [((b 0), .inr (6, (skF b))), (o, .inr (10, (dsF b)))] H := hP
  have hD : va_D A [((b 0), .inr (6, (skF b))), (o, .inr (10, (dsF b)))] := hD
  refine lv_astore_nN (lv' := [(3, .null), (0, .ref o), (1, .int p0), (2, .int p1)]) hx hb dX10_catches_5 rfl hl (by decide) rfl (fun ls hl => ?_)
  refine lv_aload_n hx hb dX10_catches_6 rfl (lv_at hl 1 rfl) ?_
  refine va_get (D := D) (ci := 10) (v := .ref (b 0)) (C := RX10) (T := TX10) (N := 20) hx hb hg inGX10 hown hKN.1 hP 1 rfl rfl 0 (by decide) (hg _ kw_349) (fun _ h9 => h9) rfl dX10_catches_7 ?_
  refine lv_iload_n hx hb dX10_catches_10 rfl (lv_at hl 3 rfl) ?_
  refine cg (wc := [((b 0), .inr (6, (skF b)))]) (wr := [(o, .inr (10, (dsF b)))]) [0] [1] (rn_NV (As := [.int p1]) (rest := []) (b := (b 0)) (c_worldAt l D Y Z H.size (b 0) b p1) ⟨hx, hb, hml, hown, hg⟩ hKN lk_X10_280 ⟨CP.blind, va_recv hKN.1 hP (ci := 6) (q0 := 0) rfl rfl, CP.at (hP.sub [0] rfl) hKN (hD.sub [0] (by decide) rfl)⟩ ⟨⟨rfl, rfl⟩, ⟨Nat.le_of_ble_eq_true rfl, Nat.le_of_ble_eq_true rfl⟩, ⟨Nat.le_of_ble_eq_true rfl, Nat.le_of_ble_eq_true rfl⟩⟩ hl.1 rfl (Nat.le_of_ble_eq_true rfl) dX10_catches_11) hP hD hS hA rfl rfl (by decide) (by decide) (fun u3 H locs w4 hP hD hS => ?_)
  refine W.eq (g2 := F0 m 14 ls [.null]) rfl ?_
  have hP : va_P D vwCl [(o, .inr (10, (dsF b))), ((b 0), .inr (6, (skF b)))] H := hP
  have hD : va_D A [(o, .inr (10, (dsF b))), ((b 0), .inr (6, (skF b)))] := hD
  refine lv_astoreN (lv' := [(4, .null), (3, .null), (0, .ref o), (1, .int p0), (2, .int p1)]) hx hb dX10_catches_14 hl (by decide) rfl (fun ls hl => ?_)
  refine lv_aload_nN hx hb dX10_catches_16 rfl (lv_at hl 1 rfl) ?_
  refine lv_ifnullN (tgt := 33) hx hb dX10_catches_17 (by decide) ?_
  refine lv_iconst (v := (-1)) hx hb dX10_catches_33 (by decide) ?_
  refine W.widen (k := 0) (n := 0) (Nat.le_of_ble_eq_true rfl) (Nat.le_of_ble_eq_true rfl) ?_
  exact W.iret (v := (-1)) hx hb hr (fun t ht hW => ⟨⟨(), rfl, trivial, CB.nil⟩, hS.F ht⟩) hS.2.2 dX10_catches_34
set_option maxHeartbeats 4000000 in
set_option maxRecDepth 100000 in
theorem y_catches (l : Launch) (D : va_G) (Y : Nat → ClassId) (Z : Nat → Nat) (sz : Nat) (o : Nat) (a : Nat → Nat) (p0 p1 : Int32) : Met l yX11_catches (.code yX11_catches cX11_catches 3 (some .int) :: GW) ({ frames := 1, cells := 0, slots := 0, locals := 22 }) (va_Pc [.ref o, .int p0, .int p1] (CP D Y Z [(o, .inr (11, (moF a))), ((a 3), .inl (Y 0, 3, .inl (fun _ => 0)))] sz)) (QG (S := Unit) (fun _ => some (.int (-1))) (fun _ => True) (fun u => CB D ((fun _ => []) u) (va_A [(o, .inr (11, (moF a))), ((a 3), .inl (Y 0, 3, .inl (fun _ => 0)))] sz)) (va_A [(o, .inr (11, (moF a))), ((a 3), .inl (Y 0, 3, .inl (fun _ => 0)))] sz)) 0 0 (va_A [(o, .inr (11, (moF a))), ((a 3), .inl (Y 0, 3, .inl (fun _ => 0)))] sz) := by
  refine Met.ofW (cc := cX11_catches) (maxL := 3) (ret := (some .int)) (by decide) rfl ?_
  intro p e s m args below meth c s₁ B hml hv
  obtain ⟨rfl, hsz, hP, hKN, hD0⟩ := hv
  have hx := B.exec
  have hb := B.bytes
  have hr := B.returns
  have hts := atoms_spec (ws := .code yX11_catches cX11_catches 3 (some .int) :: GW) B.pre
  have hg : ∀ w ∈ GW, w.before _ s = true := fun w h => hts w (List.mem_cons_of_mem _ h)
  have hown : s.vm.findClass RX11 = some m.cls := findClass_of_methodNamed B.named
  have hlocks := B.notSynchronized
  subst hsz
  have hD := hD0.self (sz := s.heap.size)
  generalize hAe : va_A [(o, .inr (11, (moF a))), ((a 3), .inl (Y 0, 3, .inl (fun _ => 0)))] s.heap.size = A at hD ⊢
  have hA : ∀ q : Nat, s.heap.size ≤ q → A q := fun q h => by rw [← hAe]; exact Or.inr h
  have hl := lv_entry ([.ref o, .int p0, .int p1]) (n := 3) (Nat.le_of_ble_eq_true rfl)
  rw [lg_entry_eq]
  generalize (lg_sl ([.ref o, .int p0, .int p1]) ++ List.replicate (3 - (lg_sl ([.ref o, .int p0, .int p1])).length) Slot.unset).toArray = ls at hl ⊢
  have hl : lv_has ls 3 [(0, .ref o), (1, .int p0), (2, .int p1)] := hl
  refine w_start (A0 := A) hP (fun H locs hP hS => ?_)
  refine lv_aload_n hx hb dX11_catches_0 rfl (lv_at hl 0 rfl) ?_
  refine lv_iconst (v := 1) hx hb dX11_catches_1 (by decide) ?_
  refine lv_iload_n hx hb dX11_catches_2 rfl (lv_at hl 1 rfl) ?_
  refine cg (wc := [(o, .inr (11, (moF a))), ((a 3), .inl (Y 0, 3, .inl (fun _ => 0)))]) (wr := []) [0, 1] [] (rn_V (As := [.int 1, .int p0]) (rest := []) (b := o) (m_isText1 l D Y Z H.size o a p0) ⟨hx, hb, hml, hown, hg⟩ lk_X11_366 ⟨CP.blind, va_recv hKN.1 hP (ci := 11) (q0 := 0) rfl rfl, CP.at (hP.sub [0, 1] rfl) hKN (hD.sub [0, 1] (by decide) rfl)⟩ ⟨⟨rfl, rfl⟩, ⟨Nat.le_of_ble_eq_true rfl, Nat.le_of_ble_eq_true rfl⟩, ⟨Nat.le_of_ble_eq_true rfl, Nat.le_of_ble_eq_true rfl⟩⟩ hl.1 rfl (Nat.le_of_ble_eq_true rfl) dX11_catches_3) hP hD hS hA rfl rfl (by decide) (by decide) (fun u1 H locs w2 hP hD hS => ?_)
  refine W.eq (g2 := F0 m 6 ls [.int 0]) rfl ?_
  have hP : va_P D vwCl [(o, .inr (11, (moF a))), ((a 3), .inl (Y 0, 3, .inl (fun _ => 0)))] H := hP
  have hD : va_D A [(o, .inr (11, (moF a))), ((a 3), .inl (Y 0, 3, .inl (fun _ => 0)))] := hD
  refine lv_if_eq (tgt := 17) hx hb dX11_catches_6 (by decide) (fun c3 => ?_) (fun c3 => ?_)
  rotate_left
  · exact absurd c3 (by decide)
  refine lv_iconst (v := (-1)) hx hb dX11_catches_17 (by decide) ?_
  refine lv_goto (tgt := 35) hx hb dX11_catches_18 (by decide) ?_
  refine W.widen (k := 0) (n := 0) (Nat.le_of_ble_eq_true rfl) (Nat.le_of_ble_eq_true rfl) ?_
  exact W.iret (v := (-1)) hx hb hr (fun t ht hW => ⟨⟨(), rfl, trivial, CB.nil⟩, hS.F ht⟩) hS.2.2 dX11_catches_35
set_option maxHeartbeats 4000000 in
set_option maxRecDepth 100000 in
theorem x_share (l : Launch) (D : va_G) (Y : Nat → ClassId) (Z : Nat → Nat) (sz : Nat) (o : Nat) (b : Nat → Nat) (p0 p1 : Int32) : Met l yX10_share (.code yX10_share cX10_share 4 (some .int) :: GW) ({ frames := 2, cells := 0, slots := 0, locals := 43 }) (va_Pc [.ref o, .int p0, .int p1] (CP D Y Z [(o, .inr (10, (dsF b)))] sz)) (QG (S := Unit) (fun _ => some (.int (-1))) (fun _ => True) (fun u => CB D ((fun _ => []) u) (va_A [(o, .inr (10, (dsF b)))] sz)) (va_A [(o, .inr (10, (dsF b)))] sz)) 0 0 (va_A [(o, .inr (10, (dsF b)))] sz) := by
  refine Met.ofW (cc := cX10_share) (maxL := 4) (ret := (some .int)) (by decide) rfl ?_
  intro p e s m args below meth c s₁ B hml hv
  obtain ⟨rfl, hsz, hP, hKN, hD0⟩ := hv
  have hx := B.exec
  have hb := B.bytes
  have hr := B.returns
  have hts := atoms_spec (ws := .code yX10_share cX10_share 4 (some .int) :: GW) B.pre
  have hg : ∀ w ∈ GW, w.before _ s = true := fun w h => hts w (List.mem_cons_of_mem _ h)
  have hown : s.vm.findClass RX10 = some m.cls := findClass_of_methodNamed B.named
  have hlocks := B.notSynchronized
  subst hsz
  have hD := hD0.self (sz := s.heap.size)
  generalize hAe : va_A [(o, .inr (10, (dsF b)))] s.heap.size = A at hD ⊢
  have hA : ∀ q : Nat, s.heap.size ≤ q → A q := fun q h => by rw [← hAe]; exact Or.inr h
  have hl := lv_entry ([.ref o, .int p0, .int p1]) (n := 4) (Nat.le_of_ble_eq_true rfl)
  rw [lg_entry_eq]
  generalize (lg_sl ([.ref o, .int p0, .int p1]) ++ List.replicate (4 - (lg_sl ([.ref o, .int p0, .int p1])).length) Slot.unset).toArray = ls at hl ⊢
  have hl : lv_has ls 4 [(0, .ref o), (1, .int p0), (2, .int p1)] := hl
  refine w_start (A0 := A) hP (fun H locs hP hS => ?_)
  refine lv_aload_n hx hb dX10_share_0 rfl (lv_at hl 0 rfl) ?_
  refine lv_iload_n hx hb dX10_share_1 rfl (lv_at hl 1 rfl) ?_
  refine cg (wc := [(o, .inr (10, (dsF b)))]) (wr := []) [0] [] (rn_V (As := [.int p0]) (rest := []) (b := o) (c_searchAt l D Y Z H.size o b p0) ⟨hx, hb, hml, hown, hg⟩ lk_X10_259 ⟨CP.blind, va_recv hKN.1 hP (ci := 10) (q0 := 0) rfl rfl, CP.at (hP.sub [0] rfl) hKN (hD.sub [0] (by decide) rfl)⟩ ⟨⟨rfl, rfl⟩, ⟨Nat.le_of_ble_eq_true rfl, Nat.le_of_ble_eq_true rfl⟩, ⟨Nat.le_of_ble_eq_true rfl, Nat.le_of_ble_eq_true rfl⟩⟩ hl.1 rfl (Nat.le_of_ble_eq_true rfl) dX10_share_2) hP hD hS hA rfl rfl (by decide) (by decide) (fun u1 H locs w2 hP hD hS => ?_)
  refine W.eq (g2 := F0 m 5 ls [.null]) rfl ?_
  have hP : va_P D vwCl [(o, .inr (10, (dsF b)))] H := hP
  have hD : va_D A [(o, .inr (10, (dsF b)))] := hD
  refine lv_astore_nN (lv' := [(3, .null), (0, .ref o), (1, .int p0), (2, .int p1)]) hx hb dX10_share_5 rfl hl (by decide) rfl (fun ls hl => ?_)
  refine lv_aload_nN hx hb dX10_share_6 rfl (lv_at hl 0 rfl) ?_
  refine lv_ifnullN (tgt := 19) hx hb dX10_share_7 (by decide) ?_
  refine lv_iconst (v := (-1)) hx hb dX10_share_19 (by decide) ?_
  refine W.widen (k := 0) (n := 0) (Nat.le_of_ble_eq_true rfl) (Nat.le_of_ble_eq_true rfl) ?_
  exact W.iret (v := (-1)) hx hb hr (fun t ht hW => ⟨⟨(), rfl, trivial, CB.nil⟩, hS.F ht⟩) hS.2.2 dX10_share_20
set_option maxHeartbeats 4000000 in
set_option maxRecDepth 100000 in
theorem y_share (l : Launch) (D : va_G) (Y : Nat → ClassId) (Z : Nat → Nat) (sz : Nat) (o : Nat) (a : Nat → Nat) (p0 p1 : Int32) : Met l yX11_share (.code yX11_share cX11_share 6 (some .int) :: GW) ({ frames := 1, cells := 0, slots := 0, locals := 22 }) (va_Pc [.ref o, .int p0, .int p1] (CP D Y Z [(o, .inr (11, (moF a))), ((a 3), .inl (Y 0, 3, .inl (fun _ => 0)))] sz)) (QG (S := Unit) (fun _ => some (.int (-1))) (fun _ => True) (fun u => CB D ((fun _ => []) u) (va_A [(o, .inr (11, (moF a))), ((a 3), .inl (Y 0, 3, .inl (fun _ => 0)))] sz)) (va_A [(o, .inr (11, (moF a))), ((a 3), .inl (Y 0, 3, .inl (fun _ => 0)))] sz)) 0 0 (va_A [(o, .inr (11, (moF a))), ((a 3), .inl (Y 0, 3, .inl (fun _ => 0)))] sz) := by
  refine Met.ofW (cc := cX11_share) (maxL := 6) (ret := (some .int)) (by decide) rfl ?_
  intro p e s m args below meth c s₁ B hml hv
  obtain ⟨rfl, hsz, hP, hKN, hD0⟩ := hv
  have hx := B.exec
  have hb := B.bytes
  have hr := B.returns
  have hts := atoms_spec (ws := .code yX11_share cX11_share 6 (some .int) :: GW) B.pre
  have hg : ∀ w ∈ GW, w.before _ s = true := fun w h => hts w (List.mem_cons_of_mem _ h)
  have hown : s.vm.findClass RX11 = some m.cls := findClass_of_methodNamed B.named
  have hlocks := B.notSynchronized
  subst hsz
  have hD := hD0.self (sz := s.heap.size)
  generalize hAe : va_A [(o, .inr (11, (moF a))), ((a 3), .inl (Y 0, 3, .inl (fun _ => 0)))] s.heap.size = A at hD ⊢
  have hA : ∀ q : Nat, s.heap.size ≤ q → A q := fun q h => by rw [← hAe]; exact Or.inr h
  have hl := lv_entry ([.ref o, .int p0, .int p1]) (n := 6) (Nat.le_of_ble_eq_true rfl)
  rw [lg_entry_eq]
  generalize (lg_sl ([.ref o, .int p0, .int p1]) ++ List.replicate (6 - (lg_sl ([.ref o, .int p0, .int p1])).length) Slot.unset).toArray = ls at hl ⊢
  have hl : lv_has ls 6 [(0, .ref o), (1, .int p0), (2, .int p1)] := hl
  refine w_start (A0 := A) hP (fun H locs hP hS => ?_)
  refine lv_aload_n hx hb dX11_share_0 rfl (lv_at hl 0 rfl) ?_
  refine lv_iconst (v := 1) hx hb dX11_share_1 (by decide) ?_
  refine lv_iload_n hx hb dX11_share_2 rfl (lv_at hl 1 rfl) ?_
  refine cg (wc := [(o, .inr (11, (moF a))), ((a 3), .inl (Y 0, 3, .inl (fun _ => 0)))]) (wr := []) [0, 1] [] (rn_V (As := [.int 1, .int p0]) (rest := []) (b := o) (m_isText1 l D Y Z H.size o a p0) ⟨hx, hb, hml, hown, hg⟩ lk_X11_366 ⟨CP.blind, va_recv hKN.1 hP (ci := 11) (q0 := 0) rfl rfl, CP.at (hP.sub [0, 1] rfl) hKN (hD.sub [0, 1] (by decide) rfl)⟩ ⟨⟨rfl, rfl⟩, ⟨Nat.le_of_ble_eq_true rfl, Nat.le_of_ble_eq_true rfl⟩, ⟨Nat.le_of_ble_eq_true rfl, Nat.le_of_ble_eq_true rfl⟩⟩ hl.1 rfl (Nat.le_of_ble_eq_true rfl) dX11_share_3) hP hD hS hA rfl rfl (by decide) (by decide) (fun u1 H locs w2 hP hD hS => ?_)
  refine W.eq (g2 := F0 m 6 ls [.int 0]) rfl ?_
  have hP : va_P D vwCl [(o, .inr (11, (moF a))), ((a 3), .inl (Y 0, 3, .inl (fun _ => 0)))] H := hP
  have hD : va_D A [(o, .inr (11, (moF a))), ((a 3), .inl (Y 0, 3, .inl (fun _ => 0)))] := hD
  refine lv_if_eq (tgt := 19) hx hb dX11_share_6 (by decide) (fun c3 => ?_) (fun c3 => ?_)
  rotate_left
  · exact absurd c3 (by decide)
  refine lv_iconst (v := (-1)) hx hb dX11_share_19 (by decide) ?_
  refine W.widen (k := 0) (n := 0) (Nat.le_of_ble_eq_true rfl) (Nat.le_of_ble_eq_true rfl) ?_
  exact W.iret (v := (-1)) hx hb hr (fun t ht hW => ⟨⟨(), rfl, trivial, CB.nil⟩, hS.F ht⟩) hS.2.2 dX11_share_20
set_option maxHeartbeats 4000000 in
set_option maxRecDepth 100000 in
theorem x_chance (l : Launch) (D : va_G) (Y : Nat → ClassId) (Z : Nat → Nat) (sz : Nat) (o : Nat) (b : Nat → Nat) (p0 p1 p2 : Int32) : Met l yX10_chance (.code yX10_chance cX10_chance 4 (some .int) :: GW) ({ frames := 2, cells := 0, slots := 0, locals := 43 }) (va_Pc [.ref o, .int p0, .int p1, .int p2] (CP D Y Z [(o, .inr (10, (dsF b)))] sz)) (QG (S := Unit) (fun _ => some (.int (-1))) (fun _ => True) (fun u => CB D ((fun _ => []) u) (va_A [(o, .inr (10, (dsF b)))] sz)) (va_A [(o, .inr (10, (dsF b)))] sz)) 0 0 (va_A [(o, .inr (10, (dsF b)))] sz) := by
  refine Met.ofW (cc := cX10_chance) (maxL := 4) (ret := (some .int)) (by decide) rfl ?_
  intro p e s m args below meth c s₁ B hml hv
  obtain ⟨rfl, hsz, hP, hKN, hD0⟩ := hv
  have hx := B.exec
  have hb := B.bytes
  have hr := B.returns
  have hts := atoms_spec (ws := .code yX10_chance cX10_chance 4 (some .int) :: GW) B.pre
  have hg : ∀ w ∈ GW, w.before _ s = true := fun w h => hts w (List.mem_cons_of_mem _ h)
  have hown : s.vm.findClass RX10 = some m.cls := findClass_of_methodNamed B.named
  have hlocks := B.notSynchronized
  subst hsz
  have hD := hD0.self (sz := s.heap.size)
  generalize hAe : va_A [(o, .inr (10, (dsF b)))] s.heap.size = A at hD ⊢
  have hA : ∀ q : Nat, s.heap.size ≤ q → A q := fun q h => by rw [← hAe]; exact Or.inr h
  have hl := lv_entry ([.ref o, .int p0, .int p1, .int p2]) (n := 4) (Nat.le_of_ble_eq_true rfl)
  rw [lg_entry_eq]
  generalize (lg_sl ([.ref o, .int p0, .int p1, .int p2]) ++ List.replicate (4 - (lg_sl ([.ref o, .int p0, .int p1, .int p2])).length) Slot.unset).toArray = ls at hl ⊢
  have hl : lv_has ls 4 [(0, .ref o), (1, .int p0), (2, .int p1), (3, .int p2)] := hl
  refine w_start (A0 := A) hP (fun H locs hP hS => ?_)
  refine lv_aload_n hx hb dX10_chance_0 rfl (lv_at hl 0 rfl) ?_
  refine lv_iload_n hx hb dX10_chance_1 rfl (lv_at hl 1 rfl) ?_
  refine cg (wc := [(o, .inr (10, (dsF b)))]) (wr := []) [0] [] (rn_V (As := [.int p0]) (rest := []) (b := o) (c_searchAt l D Y Z H.size o b p0) ⟨hx, hb, hml, hown, hg⟩ lk_X10_259 ⟨CP.blind, va_recv hKN.1 hP (ci := 10) (q0 := 0) rfl rfl, CP.at (hP.sub [0] rfl) hKN (hD.sub [0] (by decide) rfl)⟩ ⟨⟨rfl, rfl⟩, ⟨Nat.le_of_ble_eq_true rfl, Nat.le_of_ble_eq_true rfl⟩, ⟨Nat.le_of_ble_eq_true rfl, Nat.le_of_ble_eq_true rfl⟩⟩ hl.1 rfl (Nat.le_of_ble_eq_true rfl) dX10_chance_2) hP hD hS hA rfl rfl (by decide) (by decide) (fun u1 H locs w2 hP hD hS => ?_)
  refine W.eq (g2 := F0 m 5 ls [.null]) rfl ?_
  have hP : va_P D vwCl [(o, .inr (10, (dsF b)))] H := hP
  have hD : va_D A [(o, .inr (10, (dsF b)))] := hD
  refine lv_ifnullN (tgt := 26) hx hb dX10_chance_5 (by decide) ?_
  refine lv_iconst (v := (-1)) hx hb dX10_chance_26 (by decide) ?_
  refine W.widen (k := 0) (n := 0) (Nat.le_of_ble_eq_true rfl) (Nat.le_of_ble_eq_true rfl) ?_
  exact W.iret (v := (-1)) hx hb hr (fun t ht hW => ⟨⟨(), rfl, trivial, CB.nil⟩, hS.F ht⟩) hS.2.2 dX10_chance_27
set_option maxHeartbeats 4000000 in
set_option maxRecDepth 100000 in
theorem y_chance (l : Launch) (D : va_G) (Y : Nat → ClassId) (Z : Nat → Nat) (sz : Nat) (o : Nat) (a : Nat → Nat) (p0 p1 p2 : Int32) : Met l yX11_chance (.code yX11_chance cX11_chance 6 (some .int) :: GW) ({ frames := 1, cells := 0, slots := 0, locals := 22 }) (va_Pc [.ref o, .int p0, .int p1, .int p2] (CP D Y Z [(o, .inr (11, (moF a))), ((a 3), .inl (Y 0, 3, .inl (fun _ => 0)))] sz)) (QG (S := Unit) (fun _ => some (.int (-1))) (fun _ => True) (fun u => CB D ((fun _ => []) u) (va_A [(o, .inr (11, (moF a))), ((a 3), .inl (Y 0, 3, .inl (fun _ => 0)))] sz)) (va_A [(o, .inr (11, (moF a))), ((a 3), .inl (Y 0, 3, .inl (fun _ => 0)))] sz)) 0 0 (va_A [(o, .inr (11, (moF a))), ((a 3), .inl (Y 0, 3, .inl (fun _ => 0)))] sz) := by
  refine Met.ofW (cc := cX11_chance) (maxL := 6) (ret := (some .int)) (by decide) rfl ?_
  intro p e s m args below meth c s₁ B hml hv
  obtain ⟨rfl, hsz, hP, hKN, hD0⟩ := hv
  have hx := B.exec
  have hb := B.bytes
  have hr := B.returns
  have hts := atoms_spec (ws := .code yX11_chance cX11_chance 6 (some .int) :: GW) B.pre
  have hg : ∀ w ∈ GW, w.before _ s = true := fun w h => hts w (List.mem_cons_of_mem _ h)
  have hown : s.vm.findClass RX11 = some m.cls := findClass_of_methodNamed B.named
  have hlocks := B.notSynchronized
  subst hsz
  have hD := hD0.self (sz := s.heap.size)
  generalize hAe : va_A [(o, .inr (11, (moF a))), ((a 3), .inl (Y 0, 3, .inl (fun _ => 0)))] s.heap.size = A at hD ⊢
  have hA : ∀ q : Nat, s.heap.size ≤ q → A q := fun q h => by rw [← hAe]; exact Or.inr h
  have hl := lv_entry ([.ref o, .int p0, .int p1, .int p2]) (n := 6) (Nat.le_of_ble_eq_true rfl)
  rw [lg_entry_eq]
  generalize (lg_sl ([.ref o, .int p0, .int p1, .int p2]) ++ List.replicate (6 - (lg_sl ([.ref o, .int p0, .int p1, .int p2])).length) Slot.unset).toArray = ls at hl ⊢
  have hl : lv_has ls 6 [(0, .ref o), (1, .int p0), (2, .int p1), (3, .int p2)] := hl
  refine w_start (A0 := A) hP (fun H locs hP hS => ?_)
  refine lv_aload_n hx hb dX11_chance_0 rfl (lv_at hl 0 rfl) ?_
  refine lv_iconst (v := 1) hx hb dX11_chance_1 (by decide) ?_
  refine lv_iload_n hx hb dX11_chance_2 rfl (lv_at hl 1 rfl) ?_
  refine cg (wc := [(o, .inr (11, (moF a))), ((a 3), .inl (Y 0, 3, .inl (fun _ => 0)))]) (wr := []) [0, 1] [] (rn_V (As := [.int 1, .int p0]) (rest := []) (b := o) (m_isText1 l D Y Z H.size o a p0) ⟨hx, hb, hml, hown, hg⟩ lk_X11_366 ⟨CP.blind, va_recv hKN.1 hP (ci := 11) (q0 := 0) rfl rfl, CP.at (hP.sub [0, 1] rfl) hKN (hD.sub [0, 1] (by decide) rfl)⟩ ⟨⟨rfl, rfl⟩, ⟨Nat.le_of_ble_eq_true rfl, Nat.le_of_ble_eq_true rfl⟩, ⟨Nat.le_of_ble_eq_true rfl, Nat.le_of_ble_eq_true rfl⟩⟩ hl.1 rfl (Nat.le_of_ble_eq_true rfl) dX11_chance_3) hP hD hS hA rfl rfl (by decide) (by decide) (fun u1 H locs w2 hP hD hS => ?_)
  refine W.eq (g2 := F0 m 6 ls [.int 0]) rfl ?_
  have hP : va_P D vwCl [(o, .inr (11, (moF a))), ((a 3), .inl (Y 0, 3, .inl (fun _ => 0)))] H := hP
  have hD : va_D A [(o, .inr (11, (moF a))), ((a 3), .inl (Y 0, 3, .inl (fun _ => 0)))] := hD
  refine lv_if_eq (tgt := 33) hx hb dX11_chance_6 (by decide) (fun c3 => ?_) (fun c3 => ?_)
  rotate_left
  · exact absurd c3 (by decide)
  refine lv_iconst (v := (-1)) hx hb dX11_chance_33 (by decide) ?_
  refine W.widen (k := 0) (n := 0) (Nat.le_of_ble_eq_true rfl) (Nat.le_of_ble_eq_true rfl) ?_
  exact W.iret (v := (-1)) hx hb hr (fun t ht hW => ⟨⟨(), rfl, trivial, CB.nil⟩, hS.F ht⟩) hS.2.2 dX11_chance_34
set_option maxHeartbeats 4000000 in
set_option maxRecDepth 100000 in
theorem x_line (l : Launch) (D : va_G) (Y : Nat → ClassId) (Z : Nat → Nat) (sz : Nat) (o : Nat) (b : Nat → Nat) (p0 p1 p2 p3 p4 : Int32) : Met l yX10_line (.code yX10_line cX10_line 13 (some .int) :: GW) ({ frames := 2, cells := 0, slots := 0, locals := 43 }) (va_Pc [.ref o, .int p0, .int p1, .int p2, .int p3, .int p4] (CP D Y Z [(o, .inr (10, (dsF b)))] sz)) (QG (S := Unit) (fun _ => some (.int (-1))) (fun _ => True) (fun u => CB D ((fun _ => []) u) (va_A [(o, .inr (10, (dsF b)))] sz)) (va_A [(o, .inr (10, (dsF b)))] sz)) 0 0 (va_A [(o, .inr (10, (dsF b)))] sz) := by
  refine Met.ofW (cc := cX10_line) (maxL := 13) (ret := (some .int)) (by decide) rfl ?_
  intro p e s m args below meth c s₁ B hml hv
  obtain ⟨rfl, hsz, hP, hKN, hD0⟩ := hv
  have hx := B.exec
  have hb := B.bytes
  have hr := B.returns
  have hts := atoms_spec (ws := .code yX10_line cX10_line 13 (some .int) :: GW) B.pre
  have hg : ∀ w ∈ GW, w.before _ s = true := fun w h => hts w (List.mem_cons_of_mem _ h)
  have hown : s.vm.findClass RX10 = some m.cls := findClass_of_methodNamed B.named
  have hlocks := B.notSynchronized
  subst hsz
  have hD := hD0.self (sz := s.heap.size)
  generalize hAe : va_A [(o, .inr (10, (dsF b)))] s.heap.size = A at hD ⊢
  have hA : ∀ q : Nat, s.heap.size ≤ q → A q := fun q h => by rw [← hAe]; exact Or.inr h
  have hl := lv_entry ([.ref o, .int p0, .int p1, .int p2, .int p3, .int p4]) (n := 13) (Nat.le_of_ble_eq_true rfl)
  rw [lg_entry_eq]
  generalize (lg_sl ([.ref o, .int p0, .int p1, .int p2, .int p3, .int p4]) ++ List.replicate (13 - (lg_sl ([.ref o, .int p0, .int p1, .int p2, .int p3, .int p4])).length) Slot.unset).toArray = ls at hl ⊢
  have hl : lv_has ls 13 [(0, .ref o), (1, .int p0), (2, .int p1), (3, .int p2), (4, .int p3), (5, .int p4)] := hl
  refine w_start (A0 := A) hP (fun H locs hP hS => ?_)
  refine lv_iload_n hx hb dX10_line_0 rfl (lv_at hl 3 rfl) ?_
  refine lv_iconst (v := 0) hx hb dX10_line_1 (by decide) ?_
  refine lv_sipush (v := 999) hx hb dX10_line_2 (by decide) ?_
  refine cg0 (rn_S (As := [.int p2, .int 0, .int 999]) (rest := []) (c_isWithin l D Y Z H.size p2 0 999 (0) (999) (by decide) (by decide)) ⟨hx, hb, hml, hown, hg⟩ lk_X10_100 ⟨CP.blind, CP.at nilP hKN (nilD (A := fun _ => True))⟩ ⟨⟨rfl, rfl⟩, ⟨Nat.le_of_ble_eq_true rfl, Nat.le_of_ble_eq_true rfl⟩, ⟨Nat.le_of_ble_eq_true rfl, Nat.le_of_ble_eq_true rfl⟩⟩ hl.1 rfl (Nat.le_of_ble_eq_true rfl) dX10_line_5) hP hS hA (fun u1 H locs w2 hP hS => ?_)
  rcases w2 with ⟨w2, rfl⟩ | ⟨w2, rfl⟩
  · skip
    refine W.eq (g2 := F0 m 8 ls [.int 1]) rfl ?_
    refine lv_if_eq (tgt := 27) hx hb dX10_line_8 (by decide) (fun c3 => ?_) (fun c3 => ?_)
    · exact absurd c3 (by decide)
    refine lv_iload hx hb dX10_line_11 (lv_at hl 4 rfl) ?_
    refine lv_iconst (v := 0) hx hb dX10_line_13 (by decide) ?_
    refine lv_sipush (v := 999) hx hb dX10_line_14 (by decide) ?_
    refine cg0 (rn_S (As := [.int p3, .int 0, .int 999]) (rest := []) (c_isWithin l D Y Z H.size p3 0 999 (0) (999) (by decide) (by decide)) ⟨hx, hb, hml, hown, hg⟩ lk_X10_100 ⟨CP.blind, CP.at nilP hKN (nilD (A := fun _ => True))⟩ ⟨⟨rfl, rfl⟩, ⟨Nat.le_of_ble_eq_true rfl, Nat.le_of_ble_eq_true rfl⟩, ⟨Nat.le_of_ble_eq_true rfl, Nat.le_of_ble_eq_true rfl⟩⟩ hl.1 rfl (Nat.le_of_ble_eq_true rfl) dX10_line_17) hP hS hA (fun u4 H locs w5 hP hS => ?_)
    rcases w5 with ⟨w5, rfl⟩ | ⟨w5, rfl⟩
    · skip
      refine W.eq (g2 := F0 m 20 ls [.int 1]) rfl ?_
      refine lv_if_eq (tgt := 27) hx hb dX10_line_20 (by decide) (fun c6 => ?_) (fun c6 => ?_)
      · exact absurd c6 (by decide)
      refine lv_iconst (v := 1) hx hb dX10_line_23 (by decide) ?_
      refine lv_goto (tgt := 28) hx hb dX10_line_24 (by decide) ?_
      refine lv_istore (lv' := [(6, .int 1), (0, .ref o), (1, .int p0), (2, .int p1), (3, .int p2), (4, .int p3), (5, .int p4)]) hx hb dX10_line_28 hl (by decide) rfl (fun ls hl => ?_)
      refine lv_aload_n hx hb dX10_line_30 rfl (lv_at hl 1 rfl) ?_
      refine lv_iload_n hx hb dX10_line_31 rfl (lv_at hl 2 rfl) ?_
      refine cg (wc := [(o, .inr (10, (dsF b)))]) (wr := []) [0] [] (rn_V (As := [.int p0]) (rest := []) (b := o) (c_searchAt l D Y Z H.size o b p0) ⟨hx, hb, hml, hown, hg⟩ lk_X10_259 ⟨CP.blind, va_recv hKN.1 hP (ci := 10) (q0 := 0) rfl rfl, CP.at (hP.sub [0] rfl) hKN (hD.sub [0] (by decide) rfl)⟩ ⟨⟨rfl, rfl⟩, ⟨Nat.le_of_ble_eq_true rfl, Nat.le_of_ble_eq_true rfl⟩, ⟨Nat.le_of_ble_eq_true rfl, Nat.le_of_ble_eq_true rfl⟩⟩ hl.1 rfl (Nat.le_of_ble_eq_true rfl) dX10_line_32) hP hD hS hA rfl rfl (by decide) (by decide) (fun u7 H locs w8 hP hD hS => ?_)
      refine W.eq (g2 := F0 m 35 ls [.null]) rfl ?_
      have hP : va_P D vwCl [(o, .inr (10, (dsF b)))] H := hP
      have hD : va_D A [(o, .inr (10, (dsF b)))] := hD
      refine lv_ifnullN (tgt := 64) hx hb dX10_line_35 (by decide) ?_
      refine lv_iconst (v := (-1)) hx hb dX10_line_64 (by decide) ?_
      refine W.widen (k := 0) (n := 0) (Nat.le_of_ble_eq_true rfl) (Nat.le_of_ble_eq_true rfl) ?_
      exact W.iret (v := (-1)) hx hb hr (fun t ht hW => ⟨⟨(), rfl, trivial, CB.nil⟩, hS.F ht⟩) hS.2.2 dX10_line_65
    · skip
      refine W.eq (g2 := F0 m 20 ls [.int 0]) rfl ?_
      refine lv_if_eq (tgt := 27) hx hb dX10_line_20 (by decide) (fun c9 => ?_) (fun c9 => ?_)
      rotate_left
      · exact absurd c9 (by decide)
      refine lv_iconst (v := 0) hx hb dX10_line_27 (by decide) ?_
      refine lv_istore (lv' := [(6, .int 0), (0, .ref o), (1, .int p0), (2, .int p1), (3, .int p2), (4, .int p3), (5, .int p4)]) hx hb dX10_line_28 hl (by decide) rfl (fun ls hl => ?_)
      refine lv_aload_n hx hb dX10_line_30 rfl (lv_at hl 1 rfl) ?_
      refine lv_iload_n hx hb dX10_line_31 rfl (lv_at hl 2 rfl) ?_
      refine cg (wc := [(o, .inr (10, (dsF b)))]) (wr := []) [0] [] (rn_V (As := [.int p0]) (rest := []) (b := o) (c_searchAt l D Y Z H.size o b p0) ⟨hx, hb, hml, hown, hg⟩ lk_X10_259 ⟨CP.blind, va_recv hKN.1 hP (ci := 10) (q0 := 0) rfl rfl, CP.at (hP.sub [0] rfl) hKN (hD.sub [0] (by decide) rfl)⟩ ⟨⟨rfl, rfl⟩, ⟨Nat.le_of_ble_eq_true rfl, Nat.le_of_ble_eq_true rfl⟩, ⟨Nat.le_of_ble_eq_true rfl, Nat.le_of_ble_eq_true rfl⟩⟩ hl.1 rfl (Nat.le_of_ble_eq_true rfl) dX10_line_32) hP hD hS hA rfl rfl (by decide) (by decide) (fun u10 H locs w11 hP hD hS => ?_)
      refine W.eq (g2 := F0 m 35 ls [.null]) rfl ?_
      have hP : va_P D vwCl [(o, .inr (10, (dsF b)))] H := hP
      have hD : va_D A [(o, .inr (10, (dsF b)))] := hD
      refine lv_ifnullN (tgt := 64) hx hb dX10_line_35 (by decide) ?_
      refine lv_iconst (v := (-1)) hx hb dX10_line_64 (by decide) ?_
      refine W.widen (k := 0) (n := 0) (Nat.le_of_ble_eq_true rfl) (Nat.le_of_ble_eq_true rfl) ?_
      exact W.iret (v := (-1)) hx hb hr (fun t ht hW => ⟨⟨(), rfl, trivial, CB.nil⟩, hS.F ht⟩) hS.2.2 dX10_line_65
  · skip
    refine W.eq (g2 := F0 m 8 ls [.int 0]) rfl ?_
    refine lv_if_eq (tgt := 27) hx hb dX10_line_8 (by decide) (fun c12 => ?_) (fun c12 => ?_)
    rotate_left
    · exact absurd c12 (by decide)
    refine lv_iconst (v := 0) hx hb dX10_line_27 (by decide) ?_
    refine lv_istore (lv' := [(6, .int 0), (0, .ref o), (1, .int p0), (2, .int p1), (3, .int p2), (4, .int p3), (5, .int p4)]) hx hb dX10_line_28 hl (by decide) rfl (fun ls hl => ?_)
    refine lv_aload_n hx hb dX10_line_30 rfl (lv_at hl 1 rfl) ?_
    refine lv_iload_n hx hb dX10_line_31 rfl (lv_at hl 2 rfl) ?_
    refine cg (wc := [(o, .inr (10, (dsF b)))]) (wr := []) [0] [] (rn_V (As := [.int p0]) (rest := []) (b := o) (c_searchAt l D Y Z H.size o b p0) ⟨hx, hb, hml, hown, hg⟩ lk_X10_259 ⟨CP.blind, va_recv hKN.1 hP (ci := 10) (q0 := 0) rfl rfl, CP.at (hP.sub [0] rfl) hKN (hD.sub [0] (by decide) rfl)⟩ ⟨⟨rfl, rfl⟩, ⟨Nat.le_of_ble_eq_true rfl, Nat.le_of_ble_eq_true rfl⟩, ⟨Nat.le_of_ble_eq_true rfl, Nat.le_of_ble_eq_true rfl⟩⟩ hl.1 rfl (Nat.le_of_ble_eq_true rfl) dX10_line_32) hP hD hS hA rfl rfl (by decide) (by decide) (fun u13 H locs w14 hP hD hS => ?_)
    refine W.eq (g2 := F0 m 35 ls [.null]) rfl ?_
    have hP : va_P D vwCl [(o, .inr (10, (dsF b)))] H := hP
    have hD : va_D A [(o, .inr (10, (dsF b)))] := hD
    refine lv_ifnullN (tgt := 64) hx hb dX10_line_35 (by decide) ?_
    refine lv_iconst (v := (-1)) hx hb dX10_line_64 (by decide) ?_
    refine W.widen (k := 0) (n := 0) (Nat.le_of_ble_eq_true rfl) (Nat.le_of_ble_eq_true rfl) ?_
    exact W.iret (v := (-1)) hx hb hr (fun t ht hW => ⟨⟨(), rfl, trivial, CB.nil⟩, hS.F ht⟩) hS.2.2 dX10_line_65
set_option maxHeartbeats 4000000 in
set_option maxRecDepth 100000 in
theorem y_line (l : Launch) (D : va_G) (Y : Nat → ClassId) (Z : Nat → Nat) (sz : Nat) (o : Nat) (a : Nat → Nat) (p0 p1 p2 p3 p4 : Int32) : Met l yX11_line (.code yX11_line cX11_line 11 (some .int) :: GW) ({ frames := 1, cells := 0, slots := 0, locals := 22 }) (va_Pc [.ref o, .int p0, .int p1, .int p2, .int p3, .int p4] (CP D Y Z [(o, .inr (11, (moF a))), ((a 3), .inl (Y 0, 3, .inl (fun _ => 0)))] sz)) (QG (S := Unit) (fun _ => some (.int (-1))) (fun _ => True) (fun u => CB D ((fun _ => []) u) (va_A [(o, .inr (11, (moF a))), ((a 3), .inl (Y 0, 3, .inl (fun _ => 0)))] sz)) (va_A [(o, .inr (11, (moF a))), ((a 3), .inl (Y 0, 3, .inl (fun _ => 0)))] sz)) 0 0 (va_A [(o, .inr (11, (moF a))), ((a 3), .inl (Y 0, 3, .inl (fun _ => 0)))] sz) := by
  refine Met.ofW (cc := cX11_line) (maxL := 11) (ret := (some .int)) (by decide) rfl ?_
  intro p e s m args below meth c s₁ B hml hv
  obtain ⟨rfl, hsz, hP, hKN, hD0⟩ := hv
  have hx := B.exec
  have hb := B.bytes
  have hr := B.returns
  have hts := atoms_spec (ws := .code yX11_line cX11_line 11 (some .int) :: GW) B.pre
  have hg : ∀ w ∈ GW, w.before _ s = true := fun w h => hts w (List.mem_cons_of_mem _ h)
  have hown : s.vm.findClass RX11 = some m.cls := findClass_of_methodNamed B.named
  have hlocks := B.notSynchronized
  subst hsz
  have hD := hD0.self (sz := s.heap.size)
  generalize hAe : va_A [(o, .inr (11, (moF a))), ((a 3), .inl (Y 0, 3, .inl (fun _ => 0)))] s.heap.size = A at hD ⊢
  have hA : ∀ q : Nat, s.heap.size ≤ q → A q := fun q h => by rw [← hAe]; exact Or.inr h
  have hl := lv_entry ([.ref o, .int p0, .int p1, .int p2, .int p3, .int p4]) (n := 11) (Nat.le_of_ble_eq_true rfl)
  rw [lg_entry_eq]
  generalize (lg_sl ([.ref o, .int p0, .int p1, .int p2, .int p3, .int p4]) ++ List.replicate (11 - (lg_sl ([.ref o, .int p0, .int p1, .int p2, .int p3, .int p4])).length) Slot.unset).toArray = ls at hl ⊢
  have hl : lv_has ls 11 [(0, .ref o), (1, .int p0), (2, .int p1), (3, .int p2), (4, .int p3), (5, .int p4)] := hl
  refine w_start (A0 := A) hP (fun H locs hP hS => ?_)
  refine lv_aload_n hx hb dX11_line_0 rfl (lv_at hl 0 rfl) ?_
  refine lv_iconst (v := 1) hx hb dX11_line_1 (by decide) ?_
  refine lv_iload_n hx hb dX11_line_2 rfl (lv_at hl 1 rfl) ?_
  refine cg (wc := [(o, .inr (11, (moF a))), ((a 3), .inl (Y 0, 3, .inl (fun _ => 0)))]) (wr := []) [0, 1] [] (rn_V (As := [.int 1, .int p0]) (rest := []) (b := o) (m_isText1 l D Y Z H.size o a p0) ⟨hx, hb, hml, hown, hg⟩ lk_X11_366 ⟨CP.blind, va_recv hKN.1 hP (ci := 11) (q0 := 0) rfl rfl, CP.at (hP.sub [0, 1] rfl) hKN (hD.sub [0, 1] (by decide) rfl)⟩ ⟨⟨rfl, rfl⟩, ⟨Nat.le_of_ble_eq_true rfl, Nat.le_of_ble_eq_true rfl⟩, ⟨Nat.le_of_ble_eq_true rfl, Nat.le_of_ble_eq_true rfl⟩⟩ hl.1 rfl (Nat.le_of_ble_eq_true rfl) dX11_line_3) hP hD hS hA rfl rfl (by decide) (by decide) (fun u1 H locs w2 hP hD hS => ?_)
  refine W.eq (g2 := F0 m 6 ls [.int 0]) rfl ?_
  have hP : va_P D vwCl [(o, .inr (11, (moF a))), ((a 3), .inl (Y 0, 3, .inl (fun _ => 0)))] H := hP
  have hD : va_D A [(o, .inr (11, (moF a))), ((a 3), .inl (Y 0, 3, .inl (fun _ => 0)))] := hD
  refine lv_if_eq (tgt := 57) hx hb dX11_line_6 (by decide) (fun c3 => ?_) (fun c3 => ?_)
  rotate_left
  · exact absurd c3 (by decide)
  refine lv_iconst (v := (-1)) hx hb dX11_line_57 (by decide) ?_
  refine W.widen (k := 0) (n := 0) (Nat.le_of_ble_eq_true rfl) (Nat.le_of_ble_eq_true rfl) ?_
  exact W.iret (v := (-1)) hx hb hr (fun t ht hW => ⟨⟨(), rfl, trivial, CB.nil⟩, hS.F ht⟩) hS.2.2 dX11_line_58
set_option maxHeartbeats 4000000 in
set_option maxRecDepth 100000 in
theorem x_sign (l : Launch) (D : va_G) (Y : Nat → ClassId) (Z : Nat → Nat) (sz : Nat) (o : Nat) (b : Nat → Nat) (p0 p1 p2 : Int32) : Met l yX10_sign (.code yX10_sign cX10_sign 5 (some .int) :: GW) ({ frames := 2, cells := 0, slots := 0, locals := 43 }) (va_Pc [.ref o, .int p0, .int p1, .int p2] (CP D Y Z [(o, .inr (10, (dsF b)))] sz)) (QG (S := Unit) (fun _ => some (.int (-200000))) (fun _ => True) (fun u => CB D ((fun _ => []) u) (va_A [(o, .inr (10, (dsF b)))] sz)) (va_A [(o, .inr (10, (dsF b)))] sz)) 0 0 (va_A [(o, .inr (10, (dsF b)))] sz) := by
  refine Met.ofW (cc := cX10_sign) (maxL := 5) (ret := (some .int)) (by decide) rfl ?_
  intro p e s m args below meth c s₁ B hml hv
  obtain ⟨rfl, hsz, hP, hKN, hD0⟩ := hv
  have hx := B.exec
  have hb := B.bytes
  have hr := B.returns
  have hts := atoms_spec (ws := .code yX10_sign cX10_sign 5 (some .int) :: GW) B.pre
  have hg : ∀ w ∈ GW, w.before _ s = true := fun w h => hts w (List.mem_cons_of_mem _ h)
  have hown : s.vm.findClass RX10 = some m.cls := findClass_of_methodNamed B.named
  have hlocks := B.notSynchronized
  subst hsz
  have hD := hD0.self (sz := s.heap.size)
  generalize hAe : va_A [(o, .inr (10, (dsF b)))] s.heap.size = A at hD ⊢
  have hA : ∀ q : Nat, s.heap.size ≤ q → A q := fun q h => by rw [← hAe]; exact Or.inr h
  have hl := lv_entry ([.ref o, .int p0, .int p1, .int p2]) (n := 5) (Nat.le_of_ble_eq_true rfl)
  rw [lg_entry_eq]
  generalize (lg_sl ([.ref o, .int p0, .int p1, .int p2]) ++ List.replicate (5 - (lg_sl ([.ref o, .int p0, .int p1, .int p2])).length) Slot.unset).toArray = ls at hl ⊢
  have hl : lv_has ls 5 [(0, .ref o), (1, .int p0), (2, .int p1), (3, .int p2)] := hl
  refine w_start (A0 := A) hP (fun H locs hP hS => ?_)
  refine lv_aload_n hx hb dX10_sign_0 rfl (lv_at hl 0 rfl) ?_
  refine lv_iload_n hx hb dX10_sign_1 rfl (lv_at hl 1 rfl) ?_
  refine cg (wc := [(o, .inr (10, (dsF b)))]) (wr := []) [0] [] (rn_V (As := [.int p0]) (rest := []) (b := o) (c_searchAt l D Y Z H.size o b p0) ⟨hx, hb, hml, hown, hg⟩ lk_X10_259 ⟨CP.blind, va_recv hKN.1 hP (ci := 10) (q0 := 0) rfl rfl, CP.at (hP.sub [0] rfl) hKN (hD.sub [0] (by decide) rfl)⟩ ⟨⟨rfl, rfl⟩, ⟨Nat.le_of_ble_eq_true rfl, Nat.le_of_ble_eq_true rfl⟩, ⟨Nat.le_of_ble_eq_true rfl, Nat.le_of_ble_eq_true rfl⟩⟩ hl.1 rfl (Nat.le_of_ble_eq_true rfl) dX10_sign_2) hP hD hS hA rfl rfl (by decide) (by decide) (fun u1 H locs w2 hP hD hS => ?_)
  refine W.eq (g2 := F0 m 5 ls [.null]) rfl ?_
  have hP : va_P D vwCl [(o, .inr (10, (dsF b)))] H := hP
  have hD : va_D A [(o, .inr (10, (dsF b)))] := hD
  refine lv_ifnullN (tgt := 25) hx hb dX10_sign_5 (by decide) ?_
  refine lv_ldc (v := (-200000)) hx hb hown (hg _ kw_473) dX10_sign_25 ?_
  refine W.widen (k := 0) (n := 0) (Nat.le_of_ble_eq_true rfl) (Nat.le_of_ble_eq_true rfl) ?_
  exact W.iret (v := (-200000)) hx hb hr (fun t ht hW => ⟨⟨(), rfl, trivial, CB.nil⟩, hS.F ht⟩) hS.2.2 dX10_sign_27
set_option maxHeartbeats 4000000 in
set_option maxRecDepth 100000 in
theorem y_sign (l : Launch) (D : va_G) (Y : Nat → ClassId) (Z : Nat → Nat) (sz : Nat) (o : Nat) (a : Nat → Nat) (p0 p1 p2 : Int32) : Met l yX11_sign (.code yX11_sign cX11_sign 4 (some .int) :: GW) ({ frames := 1, cells := 0, slots := 0, locals := 22 }) (va_Pc [.ref o, .int p0, .int p1, .int p2] (CP D Y Z [(o, .inr (11, (moF a))), ((a 3), .inl (Y 0, 3, .inl (fun _ => 0)))] sz)) (QG (S := Unit) (fun _ => some (.int (-200000))) (fun _ => True) (fun u => CB D ((fun _ => []) u) (va_A [(o, .inr (11, (moF a))), ((a 3), .inl (Y 0, 3, .inl (fun _ => 0)))] sz)) (va_A [(o, .inr (11, (moF a))), ((a 3), .inl (Y 0, 3, .inl (fun _ => 0)))] sz)) 0 0 (va_A [(o, .inr (11, (moF a))), ((a 3), .inl (Y 0, 3, .inl (fun _ => 0)))] sz) := by
  refine Met.ofW (cc := cX11_sign) (maxL := 4) (ret := (some .int)) (by decide) rfl ?_
  intro p e s m args below meth c s₁ B hml hv
  obtain ⟨rfl, hsz, hP, hKN, hD0⟩ := hv
  have hx := B.exec
  have hb := B.bytes
  have hr := B.returns
  have hts := atoms_spec (ws := .code yX11_sign cX11_sign 4 (some .int) :: GW) B.pre
  have hg : ∀ w ∈ GW, w.before _ s = true := fun w h => hts w (List.mem_cons_of_mem _ h)
  have hown : s.vm.findClass RX11 = some m.cls := findClass_of_methodNamed B.named
  have hlocks := B.notSynchronized
  subst hsz
  have hD := hD0.self (sz := s.heap.size)
  generalize hAe : va_A [(o, .inr (11, (moF a))), ((a 3), .inl (Y 0, 3, .inl (fun _ => 0)))] s.heap.size = A at hD ⊢
  have hA : ∀ q : Nat, s.heap.size ≤ q → A q := fun q h => by rw [← hAe]; exact Or.inr h
  have hl := lv_entry ([.ref o, .int p0, .int p1, .int p2]) (n := 4) (Nat.le_of_ble_eq_true rfl)
  rw [lg_entry_eq]
  generalize (lg_sl ([.ref o, .int p0, .int p1, .int p2]) ++ List.replicate (4 - (lg_sl ([.ref o, .int p0, .int p1, .int p2])).length) Slot.unset).toArray = ls at hl ⊢
  have hl : lv_has ls 4 [(0, .ref o), (1, .int p0), (2, .int p1), (3, .int p2)] := hl
  refine w_start (A0 := A) hP (fun H locs hP hS => ?_)
  refine lv_aload_n hx hb dX11_sign_0 rfl (lv_at hl 0 rfl) ?_
  refine lv_iconst (v := 1) hx hb dX11_sign_1 (by decide) ?_
  refine lv_iload_n hx hb dX11_sign_2 rfl (lv_at hl 1 rfl) ?_
  refine cg (wc := [(o, .inr (11, (moF a))), ((a 3), .inl (Y 0, 3, .inl (fun _ => 0)))]) (wr := []) [0, 1] [] (rn_V (As := [.int 1, .int p0]) (rest := []) (b := o) (m_isText1 l D Y Z H.size o a p0) ⟨hx, hb, hml, hown, hg⟩ lk_X11_366 ⟨CP.blind, va_recv hKN.1 hP (ci := 11) (q0 := 0) rfl rfl, CP.at (hP.sub [0, 1] rfl) hKN (hD.sub [0, 1] (by decide) rfl)⟩ ⟨⟨rfl, rfl⟩, ⟨Nat.le_of_ble_eq_true rfl, Nat.le_of_ble_eq_true rfl⟩, ⟨Nat.le_of_ble_eq_true rfl, Nat.le_of_ble_eq_true rfl⟩⟩ hl.1 rfl (Nat.le_of_ble_eq_true rfl) dX11_sign_3) hP hD hS hA rfl rfl (by decide) (by decide) (fun u1 H locs w2 hP hD hS => ?_)
  refine W.eq (g2 := F0 m 6 ls [.int 0]) rfl ?_
  have hP : va_P D vwCl [(o, .inr (11, (moF a))), ((a 3), .inl (Y 0, 3, .inl (fun _ => 0)))] H := hP
  have hD : va_D A [(o, .inr (11, (moF a))), ((a 3), .inl (Y 0, 3, .inl (fun _ => 0)))] := hD
  refine lv_if_eq (tgt := 39) hx hb dX11_sign_6 (by decide) (fun c3 => ?_) (fun c3 => ?_)
  rotate_left
  · exact absurd c3 (by decide)
  refine lv_ldc (v := (-200000)) hx hb hown (hg _ kw_1381) dX11_sign_39 ?_
  refine W.widen (k := 0) (n := 0) (Nat.le_of_ble_eq_true rfl) (Nat.le_of_ble_eq_true rfl) ?_
  exact W.iret (v := (-200000)) hx hb hr (fun t ht hW => ⟨⟨(), rfl, trivial, CB.nil⟩, hS.F ht⟩) hS.2.2 dX11_sign_41
set_option maxHeartbeats 4000000 in
set_option maxRecDepth 100000 in
theorem x_shift (l : Launch) (D : va_G) (Y : Nat → ClassId) (Z : Nat → Nat) (sz : Nat) (o : Nat) (b : Nat → Nat) (p0 p1 p2 : Int32) : Met l yX10_shift (.code yX10_shift cX10_shift 5 (some .int) :: GW) ({ frames := 2, cells := 0, slots := 0, locals := 43 }) (va_Pc [.ref o, .int p0, .int p1, .int p2] (CP D Y Z [(o, .inr (10, (dsF b)))] sz)) (QG (S := Unit) (fun _ => some (.int (-200))) (fun _ => True) (fun u => CB D ((fun _ => []) u) (va_A [(o, .inr (10, (dsF b)))] sz)) (va_A [(o, .inr (10, (dsF b)))] sz)) 0 0 (va_A [(o, .inr (10, (dsF b)))] sz) := by
  refine Met.ofW (cc := cX10_shift) (maxL := 5) (ret := (some .int)) (by decide) rfl ?_
  intro p e s m args below meth c s₁ B hml hv
  obtain ⟨rfl, hsz, hP, hKN, hD0⟩ := hv
  have hx := B.exec
  have hb := B.bytes
  have hr := B.returns
  have hts := atoms_spec (ws := .code yX10_shift cX10_shift 5 (some .int) :: GW) B.pre
  have hg : ∀ w ∈ GW, w.before _ s = true := fun w h => hts w (List.mem_cons_of_mem _ h)
  have hown : s.vm.findClass RX10 = some m.cls := findClass_of_methodNamed B.named
  have hlocks := B.notSynchronized
  subst hsz
  have hD := hD0.self (sz := s.heap.size)
  generalize hAe : va_A [(o, .inr (10, (dsF b)))] s.heap.size = A at hD ⊢
  have hA : ∀ q : Nat, s.heap.size ≤ q → A q := fun q h => by rw [← hAe]; exact Or.inr h
  have hl := lv_entry ([.ref o, .int p0, .int p1, .int p2]) (n := 5) (Nat.le_of_ble_eq_true rfl)
  rw [lg_entry_eq]
  generalize (lg_sl ([.ref o, .int p0, .int p1, .int p2]) ++ List.replicate (5 - (lg_sl ([.ref o, .int p0, .int p1, .int p2])).length) Slot.unset).toArray = ls at hl ⊢
  have hl : lv_has ls 5 [(0, .ref o), (1, .int p0), (2, .int p1), (3, .int p2)] := hl
  refine w_start (A0 := A) hP (fun H locs hP hS => ?_)
  refine lv_aload_n hx hb dX10_shift_0 rfl (lv_at hl 0 rfl) ?_
  refine lv_iload_n hx hb dX10_shift_1 rfl (lv_at hl 1 rfl) ?_
  refine cg (wc := [(o, .inr (10, (dsF b)))]) (wr := []) [0] [] (rn_V (As := [.int p0]) (rest := []) (b := o) (c_searchAt l D Y Z H.size o b p0) ⟨hx, hb, hml, hown, hg⟩ lk_X10_259 ⟨CP.blind, va_recv hKN.1 hP (ci := 10) (q0 := 0) rfl rfl, CP.at (hP.sub [0] rfl) hKN (hD.sub [0] (by decide) rfl)⟩ ⟨⟨rfl, rfl⟩, ⟨Nat.le_of_ble_eq_true rfl, Nat.le_of_ble_eq_true rfl⟩, ⟨Nat.le_of_ble_eq_true rfl, Nat.le_of_ble_eq_true rfl⟩⟩ hl.1 rfl (Nat.le_of_ble_eq_true rfl) dX10_shift_2) hP hD hS hA rfl rfl (by decide) (by decide) (fun u1 H locs w2 hP hD hS => ?_)
  refine W.eq (g2 := F0 m 5 ls [.null]) rfl ?_
  have hP : va_P D vwCl [(o, .inr (10, (dsF b)))] H := hP
  have hD : va_D A [(o, .inr (10, (dsF b)))] := hD
  refine lv_ifnullN (tgt := 27) hx hb dX10_shift_5 (by decide) ?_
  refine lv_sipush (v := (-200)) hx hb dX10_shift_27 (by decide) ?_
  refine W.widen (k := 0) (n := 0) (Nat.le_of_ble_eq_true rfl) (Nat.le_of_ble_eq_true rfl) ?_
  exact W.iret (v := (-200)) hx hb hr (fun t ht hW => ⟨⟨(), rfl, trivial, CB.nil⟩, hS.F ht⟩) hS.2.2 dX10_shift_30
set_option maxHeartbeats 4000000 in
set_option maxRecDepth 100000 in
theorem y_shift (l : Launch) (D : va_G) (Y : Nat → ClassId) (Z : Nat → Nat) (sz : Nat) (o : Nat) (a : Nat → Nat) (p0 p1 p2 : Int32) : Met l yX11_shift (.code yX11_shift cX11_shift 4 (some .int) :: GW) ({ frames := 1, cells := 0, slots := 0, locals := 22 }) (va_Pc [.ref o, .int p0, .int p1, .int p2] (CP D Y Z [(o, .inr (11, (moF a))), ((a 3), .inl (Y 0, 3, .inl (fun _ => 0)))] sz)) (QG (S := Unit) (fun _ => some (.int (-200))) (fun _ => True) (fun u => CB D ((fun _ => []) u) (va_A [(o, .inr (11, (moF a))), ((a 3), .inl (Y 0, 3, .inl (fun _ => 0)))] sz)) (va_A [(o, .inr (11, (moF a))), ((a 3), .inl (Y 0, 3, .inl (fun _ => 0)))] sz)) 0 0 (va_A [(o, .inr (11, (moF a))), ((a 3), .inl (Y 0, 3, .inl (fun _ => 0)))] sz) := by
  refine Met.ofW (cc := cX11_shift) (maxL := 4) (ret := (some .int)) (by decide) rfl ?_
  intro p e s m args below meth c s₁ B hml hv
  obtain ⟨rfl, hsz, hP, hKN, hD0⟩ := hv
  have hx := B.exec
  have hb := B.bytes
  have hr := B.returns
  have hts := atoms_spec (ws := .code yX11_shift cX11_shift 4 (some .int) :: GW) B.pre
  have hg : ∀ w ∈ GW, w.before _ s = true := fun w h => hts w (List.mem_cons_of_mem _ h)
  have hown : s.vm.findClass RX11 = some m.cls := findClass_of_methodNamed B.named
  have hlocks := B.notSynchronized
  subst hsz
  have hD := hD0.self (sz := s.heap.size)
  generalize hAe : va_A [(o, .inr (11, (moF a))), ((a 3), .inl (Y 0, 3, .inl (fun _ => 0)))] s.heap.size = A at hD ⊢
  have hA : ∀ q : Nat, s.heap.size ≤ q → A q := fun q h => by rw [← hAe]; exact Or.inr h
  have hl := lv_entry ([.ref o, .int p0, .int p1, .int p2]) (n := 4) (Nat.le_of_ble_eq_true rfl)
  rw [lg_entry_eq]
  generalize (lg_sl ([.ref o, .int p0, .int p1, .int p2]) ++ List.replicate (4 - (lg_sl ([.ref o, .int p0, .int p1, .int p2])).length) Slot.unset).toArray = ls at hl ⊢
  have hl : lv_has ls 4 [(0, .ref o), (1, .int p0), (2, .int p1), (3, .int p2)] := hl
  refine w_start (A0 := A) hP (fun H locs hP hS => ?_)
  refine lv_aload_n hx hb dX11_shift_0 rfl (lv_at hl 0 rfl) ?_
  refine lv_iconst (v := 1) hx hb dX11_shift_1 (by decide) ?_
  refine lv_iload_n hx hb dX11_shift_2 rfl (lv_at hl 1 rfl) ?_
  refine cg (wc := [(o, .inr (11, (moF a))), ((a 3), .inl (Y 0, 3, .inl (fun _ => 0)))]) (wr := []) [0, 1] [] (rn_V (As := [.int 1, .int p0]) (rest := []) (b := o) (m_isText1 l D Y Z H.size o a p0) ⟨hx, hb, hml, hown, hg⟩ lk_X11_366 ⟨CP.blind, va_recv hKN.1 hP (ci := 11) (q0 := 0) rfl rfl, CP.at (hP.sub [0, 1] rfl) hKN (hD.sub [0, 1] (by decide) rfl)⟩ ⟨⟨rfl, rfl⟩, ⟨Nat.le_of_ble_eq_true rfl, Nat.le_of_ble_eq_true rfl⟩, ⟨Nat.le_of_ble_eq_true rfl, Nat.le_of_ble_eq_true rfl⟩⟩ hl.1 rfl (Nat.le_of_ble_eq_true rfl) dX11_shift_3) hP hD hS hA rfl rfl (by decide) (by decide) (fun u1 H locs w2 hP hD hS => ?_)
  refine W.eq (g2 := F0 m 6 ls [.int 0]) rfl ?_
  have hP : va_P D vwCl [(o, .inr (11, (moF a))), ((a 3), .inl (Y 0, 3, .inl (fun _ => 0)))] H := hP
  have hD : va_D A [(o, .inr (11, (moF a))), ((a 3), .inl (Y 0, 3, .inl (fun _ => 0)))] := hD
  refine lv_if_eq (tgt := 49) hx hb dX11_shift_6 (by decide) (fun c3 => ?_) (fun c3 => ?_)
  rotate_left
  · exact absurd c3 (by decide)
  refine lv_sipush (v := (-200)) hx hb dX11_shift_49 (by decide) ?_
  refine W.widen (k := 0) (n := 0) (Nat.le_of_ble_eq_true rfl) (Nat.le_of_ble_eq_true rfl) ?_
  exact W.iret (v := (-200)) hx hb hr (fun t ht hW => ⟨⟨(), rfl, trivial, CB.nil⟩, hS.F ht⟩) hS.2.2 dX11_shift_52
set_option maxHeartbeats 4000000 in
set_option maxRecDepth 100000 in
theorem x_weight (l : Launch) (D : va_G) (Y : Nat → ClassId) (Z : Nat → Nat) (sz : Nat) (o : Nat) (b : Nat → Nat) (p0 p1 p2 p3 : Int32) : Met l yX10_weight (.code yX10_weight cX10_weight 5 (some .int) :: GW) ({ frames := 3, cells := 0, slots := 0, locals := 66 }) (va_Pc [.ref o, .int p0, .int p1, .int p2, .int p3] (CP D Y Z [(o, .inr (10, (dsF b))), ((b 0), .inr (6, (skF b)))] sz)) (QG (S := Unit) (fun _ => some (.int (-1))) (fun _ => True) (fun u => CB D ((fun _ => []) u) (va_A [(o, .inr (10, (dsF b))), ((b 0), .inr (6, (skF b)))] sz)) (va_A [(o, .inr (10, (dsF b))), ((b 0), .inr (6, (skF b)))] sz)) 0 0 (va_A [(o, .inr (10, (dsF b))), ((b 0), .inr (6, (skF b)))] sz) := by
  refine Met.ofW (cc := cX10_weight) (maxL := 5) (ret := (some .int)) (by decide) rfl ?_
  intro p e s m args below meth c s₁ B hml hv
  obtain ⟨rfl, hsz, hP, hKN, hD0⟩ := hv
  have hx := B.exec
  have hb := B.bytes
  have hr := B.returns
  have hts := atoms_spec (ws := .code yX10_weight cX10_weight 5 (some .int) :: GW) B.pre
  have hg : ∀ w ∈ GW, w.before _ s = true := fun w h => hts w (List.mem_cons_of_mem _ h)
  have hown : s.vm.findClass RX10 = some m.cls := findClass_of_methodNamed B.named
  have hlocks := B.notSynchronized
  subst hsz
  have hD := hD0.self (sz := s.heap.size)
  generalize hAe : va_A [(o, .inr (10, (dsF b))), ((b 0), .inr (6, (skF b)))] s.heap.size = A at hD ⊢
  have hA : ∀ q : Nat, s.heap.size ≤ q → A q := fun q h => by rw [← hAe]; exact Or.inr h
  have hl := lv_entry ([.ref o, .int p0, .int p1, .int p2, .int p3]) (n := 5) (Nat.le_of_ble_eq_true rfl)
  rw [lg_entry_eq]
  generalize (lg_sl ([.ref o, .int p0, .int p1, .int p2, .int p3]) ++ List.replicate (5 - (lg_sl ([.ref o, .int p0, .int p1, .int p2, .int p3])).length) Slot.unset).toArray = ls at hl ⊢
  have hl : lv_has ls 5 [(0, .ref o), (1, .int p0), (2, .int p1), (3, .int p2), (4, .int p3)] := hl
  refine w_start (A0 := A) hP (fun H locs hP hS => ?_)
  refine lv_iload hx hb dX10_weight_0 (lv_at hl 4 rfl) ?_
  refine lv_iconst (v := 0) hx hb dX10_weight_2 (by decide) ?_
  refine lv_iconst (v := 4) hx hb dX10_weight_3 (by decide) ?_
  refine cg0 (rn_S (As := [.int p3, .int 0, .int 4]) (rest := []) (c_isWithin l D Y Z H.size p3 0 4 (0) (4) (by decide) (by decide)) ⟨hx, hb, hml, hown, hg⟩ lk_X10_100 ⟨CP.blind, CP.at nilP hKN (nilD (A := fun _ => True))⟩ ⟨⟨rfl, rfl⟩, ⟨Nat.le_of_ble_eq_true rfl, Nat.le_of_ble_eq_true rfl⟩, ⟨Nat.le_of_ble_eq_true rfl, Nat.le_of_ble_eq_true rfl⟩⟩ hl.1 rfl (Nat.le_of_ble_eq_true rfl) dX10_weight_4) hP hS hA (fun u1 H locs w2 hP hS => ?_)
  rcases w2 with ⟨w2, rfl⟩ | ⟨w2, rfl⟩
  · skip
    refine W.eq (g2 := F0 m 7 ls [.int 1]) rfl ?_
    refine lv_if_eq (tgt := 20) hx hb dX10_weight_7 (by decide) (fun c3 => ?_) (fun c3 => ?_)
    · exact absurd c3 (by decide)
    refine lv_aload_n hx hb dX10_weight_10 rfl (lv_at hl 0 rfl) ?_
    refine lv_iload_n hx hb dX10_weight_11 rfl (lv_at hl 1 rfl) ?_
    refine lv_iload_n hx hb dX10_weight_12 rfl (lv_at hl 2 rfl) ?_
    refine lv_iload_n hx hb dX10_weight_13 rfl (lv_at hl 3 rfl) ?_
    refine cg (wc := [(o, .inr (10, (dsF b))), ((b 0), .inr (6, (skF b)))]) (wr := []) [0, 1] [] (rn_V (As := [.int p0, .int p1, .int p2]) (rest := []) (b := o) (c_isWeighed l D Y Z H.size o b p0 p1 p2) ⟨hx, hb, hml, hown, hg⟩ lk_X10_343 ⟨CP.blind, va_recv hKN.1 hP (ci := 10) (q0 := 0) rfl rfl, CP.at (hP.sub [0, 1] rfl) hKN (hD.sub [0, 1] (by decide) rfl)⟩ ⟨⟨rfl, rfl⟩, ⟨Nat.le_of_ble_eq_true rfl, Nat.le_of_ble_eq_true rfl⟩, ⟨Nat.le_of_ble_eq_true rfl, Nat.le_of_ble_eq_true rfl⟩⟩ hl.1 rfl (Nat.le_of_ble_eq_true rfl) dX10_weight_14) hP hD hS hA rfl rfl (by decide) (by decide) (fun u4 H locs w5 hP hD hS => ?_)
    refine W.eq (g2 := F0 m 17 ls [.int 0]) rfl ?_
    have hP : va_P D vwCl [(o, .inr (10, (dsF b))), ((b 0), .inr (6, (skF b)))] H := hP
    have hD : va_D A [(o, .inr (10, (dsF b))), ((b 0), .inr (6, (skF b)))] := hD
    refine lv_if_ne (tgt := 22) hx hb dX10_weight_17 (by decide) (fun c6 => ?_) (fun c6 => ?_)
    · exact absurd c6 (by decide)
    refine lv_iconst (v := (-1)) hx hb dX10_weight_20 (by decide) ?_
    refine W.widen (k := 0) (n := 0) (Nat.le_of_ble_eq_true rfl) (Nat.le_of_ble_eq_true rfl) ?_
    exact W.iret (v := (-1)) hx hb hr (fun t ht hW => ⟨⟨(), rfl, trivial, CB.nil⟩, hS.F ht⟩) hS.2.2 dX10_weight_21
  · skip
    refine W.eq (g2 := F0 m 7 ls [.int 0]) rfl ?_
    refine lv_if_eq (tgt := 20) hx hb dX10_weight_7 (by decide) (fun c7 => ?_) (fun c7 => ?_)
    rotate_left
    · exact absurd c7 (by decide)
    refine lv_iconst (v := (-1)) hx hb dX10_weight_20 (by decide) ?_
    refine W.widen (k := 0) (n := 0) (Nat.le_of_ble_eq_true rfl) (Nat.le_of_ble_eq_true rfl) ?_
    exact W.iret (v := (-1)) hx hb hr (fun t ht hW => ⟨⟨(), rfl, trivial, CB.nil⟩, hS.F ht⟩) hS.2.2 dX10_weight_21
set_option maxHeartbeats 4000000 in
set_option maxRecDepth 100000 in
theorem y_weight (l : Launch) (D : va_G) (Y : Nat → ClassId) (Z : Nat → Nat) (sz : Nat) (o : Nat) (a : Nat → Nat) (p0 p1 p2 p3 : Int32) : Met l yX11_weight (.code yX11_weight cX11_weight 5 (some .int) :: GW) ({ frames := 2, cells := 0, slots := 0, locals := 45 }) (va_Pc [.ref o, .int p0, .int p1, .int p2, .int p3] (CP D Y Z [(o, .inr (11, (moF a))), ((a 3), .inl (Y 0, 3, .inl (fun _ => 0)))] sz)) (QG (S := Unit) (fun _ => some (.int (-1))) (fun _ => True) (fun u => CB D ((fun _ => []) u) (va_A [(o, .inr (11, (moF a))), ((a 3), .inl (Y 0, 3, .inl (fun _ => 0)))] sz)) (va_A [(o, .inr (11, (moF a))), ((a 3), .inl (Y 0, 3, .inl (fun _ => 0)))] sz)) 0 0 (va_A [(o, .inr (11, (moF a))), ((a 3), .inl (Y 0, 3, .inl (fun _ => 0)))] sz) := by
  refine Met.ofW (cc := cX11_weight) (maxL := 5) (ret := (some .int)) (by decide) rfl ?_
  intro p e s m args below meth c s₁ B hml hv
  obtain ⟨rfl, hsz, hP, hKN, hD0⟩ := hv
  have hx := B.exec
  have hb := B.bytes
  have hr := B.returns
  have hts := atoms_spec (ws := .code yX11_weight cX11_weight 5 (some .int) :: GW) B.pre
  have hg : ∀ w ∈ GW, w.before _ s = true := fun w h => hts w (List.mem_cons_of_mem _ h)
  have hown : s.vm.findClass RX11 = some m.cls := findClass_of_methodNamed B.named
  have hlocks := B.notSynchronized
  subst hsz
  have hD := hD0.self (sz := s.heap.size)
  generalize hAe : va_A [(o, .inr (11, (moF a))), ((a 3), .inl (Y 0, 3, .inl (fun _ => 0)))] s.heap.size = A at hD ⊢
  have hA : ∀ q : Nat, s.heap.size ≤ q → A q := fun q h => by rw [← hAe]; exact Or.inr h
  have hl := lv_entry ([.ref o, .int p0, .int p1, .int p2, .int p3]) (n := 5) (Nat.le_of_ble_eq_true rfl)
  rw [lg_entry_eq]
  generalize (lg_sl ([.ref o, .int p0, .int p1, .int p2, .int p3]) ++ List.replicate (5 - (lg_sl ([.ref o, .int p0, .int p1, .int p2, .int p3])).length) Slot.unset).toArray = ls at hl ⊢
  have hl : lv_has ls 5 [(0, .ref o), (1, .int p0), (2, .int p1), (3, .int p2), (4, .int p3)] := hl
  refine w_start (A0 := A) hP (fun H locs hP hS => ?_)
  refine lv_iload hx hb dX11_weight_0 (lv_at hl 4 rfl) ?_
  refine lv_i2l (v := p3.toInt64) hx hb dX11_weight_2 (rfl) ?_
  refine lv_lconst (v := 0) hx hb dX11_weight_3 (by decide) ?_
  refine lv_ldc2 (v := 4) hx hb hown (hg _ kw_1665) dX11_weight_4 ?_
  refine cg0 (rn_S (As := [.long p3.toInt64, .long 0, .long 4]) (rest := []) (c_in l D Y Z H.size p3.toInt64 0 4 (p3).toInt (0) (4) (Int32.toInt_toInt64 _) (by decide) (by decide) ) ⟨hx, hb, hml, hown, hg⟩ lk_X11_99 ⟨CP.blind, CP.at nilP hKN (nilD (A := fun _ => True))⟩ ⟨⟨rfl, rfl⟩, ⟨Nat.le_of_ble_eq_true rfl, Nat.le_of_ble_eq_true rfl⟩, ⟨Nat.le_of_ble_eq_true rfl, Nat.le_of_ble_eq_true rfl⟩⟩ hl.1 rfl (Nat.le_of_ble_eq_true rfl) dX11_weight_7) hP hS hA (fun u1 H locs w2 hP hS => ?_)
  rcases w2 with ⟨w2, rfl⟩ | ⟨w2, rfl⟩
  · skip
    refine W.eq (g2 := F0 m 10 ls [.int 1]) rfl ?_
    refine lv_if_eq (tgt := 33) hx hb dX11_weight_10 (by decide) (fun c3 => ?_) (fun c3 => ?_)
    · exact absurd c3 (by decide)
    refine lv_aload_n hx hb dX11_weight_13 rfl (lv_at hl 0 rfl) ?_
    refine lv_iload_n hx hb dX11_weight_14 rfl (lv_at hl 1 rfl) ?_
    refine lv_iload_n hx hb dX11_weight_15 rfl (lv_at hl 2 rfl) ?_
    refine lv_iload_n hx hb dX11_weight_16 rfl (lv_at hl 3 rfl) ?_
    refine cg (wc := [(o, .inr (11, (moF a))), ((a 3), .inl (Y 0, 3, .inl (fun _ => 0)))]) (wr := []) [0, 1] [] (rn_V (As := [.int p0, .int p1, .int p2]) (rest := []) (b := o) (m_canWeigh l D Y Z H.size o a p0 p1 p2) ⟨hx, hb, hml, hown, hg⟩ lk_X11_546 ⟨CP.blind, va_recv hKN.1 hP (ci := 11) (q0 := 0) rfl rfl, CP.at (hP.sub [0, 1] rfl) hKN (hD.sub [0, 1] (by decide) rfl)⟩ ⟨⟨rfl, rfl⟩, ⟨Nat.le_of_ble_eq_true rfl, Nat.le_of_ble_eq_true rfl⟩, ⟨Nat.le_of_ble_eq_true rfl, Nat.le_of_ble_eq_true rfl⟩⟩ hl.1 rfl (Nat.le_of_ble_eq_true rfl) dX11_weight_17) hP hD hS hA rfl rfl (by decide) (by decide) (fun u4 H locs w5 hP hD hS => ?_)
    refine W.eq (g2 := F0 m 20 ls [.int 0]) rfl ?_
    have hP : va_P D vwCl [(o, .inr (11, (moF a))), ((a 3), .inl (Y 0, 3, .inl (fun _ => 0)))] H := hP
    have hD : va_D A [(o, .inr (11, (moF a))), ((a 3), .inl (Y 0, 3, .inl (fun _ => 0)))] := hD
    refine lv_if_eq (tgt := 33) hx hb dX11_weight_20 (by decide) (fun c6 => ?_) (fun c6 => ?_)
    rotate_left
    · exact absurd c6 (by decide)
    refine lv_iconst (v := (-1)) hx hb dX11_weight_33 (by decide) ?_
    refine W.widen (k := 0) (n := 0) (Nat.le_of_ble_eq_true rfl) (Nat.le_of_ble_eq_true rfl) ?_
    exact W.iret (v := (-1)) hx hb hr (fun t ht hW => ⟨⟨(), rfl, trivial, CB.nil⟩, hS.F ht⟩) hS.2.2 dX11_weight_34
  · skip
    refine W.eq (g2 := F0 m 10 ls [.int 0]) rfl ?_
    refine lv_if_eq (tgt := 33) hx hb dX11_weight_10 (by decide) (fun c7 => ?_) (fun c7 => ?_)
    rotate_left
    · exact absurd c7 (by decide)
    refine lv_iconst (v := (-1)) hx hb dX11_weight_33 (by decide) ?_
    refine W.widen (k := 0) (n := 0) (Nat.le_of_ble_eq_true rfl) (Nat.le_of_ble_eq_true rfl) ?_
    exact W.iret (v := (-1)) hx hb hr (fun t ht hW => ⟨⟨(), rfl, trivial, CB.nil⟩, hS.F ht⟩) hS.2.2 dX11_weight_34
end
section
set_option maxHeartbeats 4000000 in
set_option maxRecDepth 100000 in
theorem x_sorted (l : Launch) (D : va_G) (Y : Nat → ClassId) (Z : Nat → Nat) (sz : Nat) (o : Nat) (b : Nat → Nat) (p0 p1 p2 : Int32) : Met l yX10_sorted (.code yX10_sorted cX10_sorted 4 (some .int) :: GW) ({ frames := 3, cells := 0, slots := 0, locals := 66 }) (va_Pc [.ref o, .int p0, .int p1, .int p2] (CP D Y Z [(o, .inr (10, (dsF b))), ((b 0), .inr (6, (skF b)))] sz)) (QG (S := Unit) (fun _ => some (.int (-1))) (fun _ => True) (fun u => CB D ((fun _ => []) u) (va_A [(o, .inr (10, (dsF b))), ((b 0), .inr (6, (skF b)))] sz)) (va_A [(o, .inr (10, (dsF b))), ((b 0), .inr (6, (skF b)))] sz)) 0 0 (va_A [(o, .inr (10, (dsF b))), ((b 0), .inr (6, (skF b)))] sz) := by
  refine Met.ofW (cc := cX10_sorted) (maxL := 4) (ret := (some .int)) (by decide) rfl ?_
  intro p e s m args below meth c s₁ B hml hv
  obtain ⟨rfl, hsz, hP, hKN, hD0⟩ := hv
  have hx := B.exec
  have hb := B.bytes
  have hr := B.returns
  have hts := atoms_spec (ws := .code yX10_sorted cX10_sorted 4 (some .int) :: GW) B.pre
  have hg : ∀ w ∈ GW, w.before _ s = true := fun w h => hts w (List.mem_cons_of_mem _ h)
  have hown : s.vm.findClass RX10 = some m.cls := findClass_of_methodNamed B.named
  have hlocks := B.notSynchronized
  subst hsz
  have hD := hD0.self (sz := s.heap.size)
  generalize hAe : va_A [(o, .inr (10, (dsF b))), ((b 0), .inr (6, (skF b)))] s.heap.size = A at hD ⊢
  have hA : ∀ q : Nat, s.heap.size ≤ q → A q := fun q h => by rw [← hAe]; exact Or.inr h
  have hl := lv_entry ([.ref o, .int p0, .int p1, .int p2]) (n := 4) (Nat.le_of_ble_eq_true rfl)
  rw [lg_entry_eq]
  generalize (lg_sl ([.ref o, .int p0, .int p1, .int p2]) ++ List.replicate (4 - (lg_sl ([.ref o, .int p0, .int p1, .int p2])).length) Slot.unset).toArray = ls at hl ⊢
  have hl : lv_has ls 4 [(0, .ref o), (1, .int p0), (2, .int p1), (3, .int p2)] := hl
  refine w_start (A0 := A) hP (fun H locs hP hS => ?_)
  refine lv_aload_n hx hb dX10_sorted_0 rfl (lv_at hl 0 rfl) ?_
  refine lv_iload_n hx hb dX10_sorted_1 rfl (lv_at hl 1 rfl) ?_
  refine lv_iload_n hx hb dX10_sorted_2 rfl (lv_at hl 2 rfl) ?_
  refine lv_iload_n hx hb dX10_sorted_3 rfl (lv_at hl 3 rfl) ?_
  refine cg (wc := [(o, .inr (10, (dsF b))), ((b 0), .inr (6, (skF b)))]) (wr := []) [0, 1] [] (rn_V (As := [.int p0, .int p1, .int p2]) (rest := []) (b := o) (c_isWeighed l D Y Z H.size o b p0 p1 p2) ⟨hx, hb, hml, hown, hg⟩ lk_X10_343 ⟨CP.blind, va_recv hKN.1 hP (ci := 10) (q0 := 0) rfl rfl, CP.at (hP.sub [0, 1] rfl) hKN (hD.sub [0, 1] (by decide) rfl)⟩ ⟨⟨rfl, rfl⟩, ⟨Nat.le_of_ble_eq_true rfl, Nat.le_of_ble_eq_true rfl⟩, ⟨Nat.le_of_ble_eq_true rfl, Nat.le_of_ble_eq_true rfl⟩⟩ hl.1 rfl (Nat.le_of_ble_eq_true rfl) dX10_sorted_4) hP hD hS hA rfl rfl (by decide) (by decide) (fun u1 H locs w2 hP hD hS => ?_)
  refine W.eq (g2 := F0 m 7 ls [.int 0]) rfl ?_
  have hP : va_P D vwCl [(o, .inr (10, (dsF b))), ((b 0), .inr (6, (skF b)))] H := hP
  have hD : va_D A [(o, .inr (10, (dsF b))), ((b 0), .inr (6, (skF b)))] := hD
  refine lv_if_ne (tgt := 12) hx hb dX10_sorted_7 (by decide) (fun c3 => ?_) (fun c3 => ?_)
  · exact absurd c3 (by decide)
  refine lv_iconst (v := (-1)) hx hb dX10_sorted_10 (by decide) ?_
  refine W.widen (k := 0) (n := 0) (Nat.le_of_ble_eq_true rfl) (Nat.le_of_ble_eq_true rfl) ?_
  exact W.iret (v := (-1)) hx hb hr (fun t ht hW => ⟨⟨(), rfl, trivial, CB.nil⟩, hS.F ht⟩) hS.2.2 dX10_sorted_11
set_option maxHeartbeats 4000000 in
set_option maxRecDepth 100000 in
theorem y_sorted (l : Launch) (D : va_G) (Y : Nat → ClassId) (Z : Nat → Nat) (sz : Nat) (o : Nat) (a : Nat → Nat) (p0 p1 p2 : Int32) : Met l yX11_sorted (.code yX11_sorted cX11_sorted 4 (some .int) :: GW) ({ frames := 2, cells := 0, slots := 0, locals := 45 }) (va_Pc [.ref o, .int p0, .int p1, .int p2] (CP D Y Z [(o, .inr (11, (moF a))), ((a 3), .inl (Y 0, 3, .inl (fun _ => 0)))] sz)) (QG (S := Unit) (fun _ => some (.int (-1))) (fun _ => True) (fun u => CB D ((fun _ => []) u) (va_A [(o, .inr (11, (moF a))), ((a 3), .inl (Y 0, 3, .inl (fun _ => 0)))] sz)) (va_A [(o, .inr (11, (moF a))), ((a 3), .inl (Y 0, 3, .inl (fun _ => 0)))] sz)) 0 0 (va_A [(o, .inr (11, (moF a))), ((a 3), .inl (Y 0, 3, .inl (fun _ => 0)))] sz) := by
  refine Met.ofW (cc := cX11_sorted) (maxL := 4) (ret := (some .int)) (by decide) rfl ?_
  intro p e s m args below meth c s₁ B hml hv
  obtain ⟨rfl, hsz, hP, hKN, hD0⟩ := hv
  have hx := B.exec
  have hb := B.bytes
  have hr := B.returns
  have hts := atoms_spec (ws := .code yX11_sorted cX11_sorted 4 (some .int) :: GW) B.pre
  have hg : ∀ w ∈ GW, w.before _ s = true := fun w h => hts w (List.mem_cons_of_mem _ h)
  have hown : s.vm.findClass RX11 = some m.cls := findClass_of_methodNamed B.named
  have hlocks := B.notSynchronized
  subst hsz
  have hD := hD0.self (sz := s.heap.size)
  generalize hAe : va_A [(o, .inr (11, (moF a))), ((a 3), .inl (Y 0, 3, .inl (fun _ => 0)))] s.heap.size = A at hD ⊢
  have hA : ∀ q : Nat, s.heap.size ≤ q → A q := fun q h => by rw [← hAe]; exact Or.inr h
  have hl := lv_entry ([.ref o, .int p0, .int p1, .int p2]) (n := 4) (Nat.le_of_ble_eq_true rfl)
  rw [lg_entry_eq]
  generalize (lg_sl ([.ref o, .int p0, .int p1, .int p2]) ++ List.replicate (4 - (lg_sl ([.ref o, .int p0, .int p1, .int p2])).length) Slot.unset).toArray = ls at hl ⊢
  have hl : lv_has ls 4 [(0, .ref o), (1, .int p0), (2, .int p1), (3, .int p2)] := hl
  refine w_start (A0 := A) hP (fun H locs hP hS => ?_)
  refine lv_aload_n hx hb dX11_sorted_0 rfl (lv_at hl 0 rfl) ?_
  refine lv_iload_n hx hb dX11_sorted_1 rfl (lv_at hl 1 rfl) ?_
  refine lv_iload_n hx hb dX11_sorted_2 rfl (lv_at hl 2 rfl) ?_
  refine lv_iload_n hx hb dX11_sorted_3 rfl (lv_at hl 3 rfl) ?_
  refine cg (wc := [(o, .inr (11, (moF a))), ((a 3), .inl (Y 0, 3, .inl (fun _ => 0)))]) (wr := []) [0, 1] [] (rn_V (As := [.int p0, .int p1, .int p2]) (rest := []) (b := o) (m_canWeigh l D Y Z H.size o a p0 p1 p2) ⟨hx, hb, hml, hown, hg⟩ lk_X11_546 ⟨CP.blind, va_recv hKN.1 hP (ci := 11) (q0 := 0) rfl rfl, CP.at (hP.sub [0, 1] rfl) hKN (hD.sub [0, 1] (by decide) rfl)⟩ ⟨⟨rfl, rfl⟩, ⟨Nat.le_of_ble_eq_true rfl, Nat.le_of_ble_eq_true rfl⟩, ⟨Nat.le_of_ble_eq_true rfl, Nat.le_of_ble_eq_true rfl⟩⟩ hl.1 rfl (Nat.le_of_ble_eq_true rfl) dX11_sorted_4) hP hD hS hA rfl rfl (by decide) (by decide) (fun u1 H locs w2 hP hD hS => ?_)
  refine W.eq (g2 := F0 m 7 ls [.int 0]) rfl ?_
  have hP : va_P D vwCl [(o, .inr (11, (moF a))), ((a 3), .inl (Y 0, 3, .inl (fun _ => 0)))] H := hP
  have hD : va_D A [(o, .inr (11, (moF a))), ((a 3), .inl (Y 0, 3, .inl (fun _ => 0)))] := hD
  refine lv_if_eq (tgt := 17) hx hb dX11_sorted_7 (by decide) (fun c3 => ?_) (fun c3 => ?_)
  rotate_left
  · exact absurd c3 (by decide)
  refine lv_iconst (v := (-1)) hx hb dX11_sorted_17 (by decide) ?_
  refine W.widen (k := 0) (n := 0) (Nat.le_of_ble_eq_true rfl) (Nat.le_of_ble_eq_true rfl) ?_
  exact W.iret (v := (-1)) hx hb hr (fun t ht hW => ⟨⟨(), rfl, trivial, CB.nil⟩, hS.F ht⟩) hS.2.2 dX11_sorted_18
set_option maxHeartbeats 4000000 in
set_option maxRecDepth 100000 in
theorem x_odds (l : Launch) (D : va_G) (Y : Nat → ClassId) (Z : Nat → Nat) (sz : Nat) (o : Nat) (b : Nat → Nat) (p0 p1 p2 p3 p4 : Int32) : Met l yX10_odds (.code yX10_odds cX10_odds 9 (some .int) :: GW) ({ frames := 3, cells := 0, slots := 0, locals := 66 }) (va_Pc [.ref o, .int p0, .int p1, .int p2, .int p3, .int p4] (CP D Y Z [(o, .inr (10, (dsF b))), ((b 0), .inr (6, (skF b)))] sz)) (QG (S := Unit) (fun _ => some (.int (-1))) (fun _ => True) (fun u => CB D ((fun _ => []) u) (va_A [(o, .inr (10, (dsF b))), ((b 0), .inr (6, (skF b)))] sz)) (va_A [(o, .inr (10, (dsF b))), ((b 0), .inr (6, (skF b)))] sz)) 0 0 (va_A [(o, .inr (10, (dsF b))), ((b 0), .inr (6, (skF b)))] sz) := by
  refine Met.ofW (cc := cX10_odds) (maxL := 9) (ret := (some .int)) (by decide) rfl ?_
  intro p e s m args below meth c s₁ B hml hv
  obtain ⟨rfl, hsz, hP, hKN, hD0⟩ := hv
  have hx := B.exec
  have hb := B.bytes
  have hr := B.returns
  have hts := atoms_spec (ws := .code yX10_odds cX10_odds 9 (some .int) :: GW) B.pre
  have hg : ∀ w ∈ GW, w.before _ s = true := fun w h => hts w (List.mem_cons_of_mem _ h)
  have hown : s.vm.findClass RX10 = some m.cls := findClass_of_methodNamed B.named
  have hlocks := B.notSynchronized
  subst hsz
  have hD := hD0.self (sz := s.heap.size)
  generalize hAe : va_A [(o, .inr (10, (dsF b))), ((b 0), .inr (6, (skF b)))] s.heap.size = A at hD ⊢
  have hA : ∀ q : Nat, s.heap.size ≤ q → A q := fun q h => by rw [← hAe]; exact Or.inr h
  have hl := lv_entry ([.ref o, .int p0, .int p1, .int p2, .int p3, .int p4]) (n := 9) (Nat.le_of_ble_eq_true rfl)
  rw [lg_entry_eq]
  generalize (lg_sl ([.ref o, .int p0, .int p1, .int p2, .int p3, .int p4]) ++ List.replicate (9 - (lg_sl ([.ref o, .int p0, .int p1, .int p2, .int p3, .int p4])).length) Slot.unset).toArray = ls at hl ⊢
  have hl : lv_has ls 9 [(0, .ref o), (1, .int p0), (2, .int p1), (3, .int p2), (4, .int p3), (5, .int p4)] := hl
  refine w_start (A0 := A) hP (fun H locs hP hS => ?_)
  refine lv_iload hx hb dX10_odds_0 (lv_at hl 4 rfl) ?_
  refine lv_iconst (v := 0) hx hb dX10_odds_2 (by decide) ?_
  refine lv_iconst (v := 4) hx hb dX10_odds_3 (by decide) ?_
  refine cg0 (rn_S (As := [.int p3, .int 0, .int 4]) (rest := []) (c_isWithin l D Y Z H.size p3 0 4 (0) (4) (by decide) (by decide)) ⟨hx, hb, hml, hown, hg⟩ lk_X10_100 ⟨CP.blind, CP.at nilP hKN (nilD (A := fun _ => True))⟩ ⟨⟨rfl, rfl⟩, ⟨Nat.le_of_ble_eq_true rfl, Nat.le_of_ble_eq_true rfl⟩, ⟨Nat.le_of_ble_eq_true rfl, Nat.le_of_ble_eq_true rfl⟩⟩ hl.1 rfl (Nat.le_of_ble_eq_true rfl) dX10_odds_4) hP hS hA (fun u1 H locs w2 hP hS => ?_)
  rcases w2 with ⟨w2, rfl⟩ | ⟨w2, rfl⟩
  · skip
    refine W.eq (g2 := F0 m 7 ls [.int 1]) rfl ?_
    refine lv_if_eq (tgt := 24) hx hb dX10_odds_7 (by decide) (fun c3 => ?_) (fun c3 => ?_)
    · exact absurd c3 (by decide)
    refine lv_iload hx hb dX10_odds_10 (lv_at hl 5 rfl) ?_
    refine lv_iconst (v := 0) hx hb dX10_odds_12 (by decide) ?_
    refine lv_iconst (v := 1) hx hb dX10_odds_13 (by decide) ?_
    refine cg0 (rn_S (As := [.int p4, .int 0, .int 1]) (rest := []) (c_isWithin l D Y Z H.size p4 0 1 (0) (1) (by decide) (by decide)) ⟨hx, hb, hml, hown, hg⟩ lk_X10_100 ⟨CP.blind, CP.at nilP hKN (nilD (A := fun _ => True))⟩ ⟨⟨rfl, rfl⟩, ⟨Nat.le_of_ble_eq_true rfl, Nat.le_of_ble_eq_true rfl⟩, ⟨Nat.le_of_ble_eq_true rfl, Nat.le_of_ble_eq_true rfl⟩⟩ hl.1 rfl (Nat.le_of_ble_eq_true rfl) dX10_odds_14) hP hS hA (fun u4 H locs w5 hP hS => ?_)
    rcases w5 with ⟨w5, rfl⟩ | ⟨w5, rfl⟩
    · skip
      refine W.eq (g2 := F0 m 17 ls [.int 1]) rfl ?_
      refine lv_if_eq (tgt := 24) hx hb dX10_odds_17 (by decide) (fun c6 => ?_) (fun c6 => ?_)
      · exact absurd c6 (by decide)
      refine lv_iconst (v := 1) hx hb dX10_odds_20 (by decide) ?_
      refine lv_goto (tgt := 25) hx hb dX10_odds_21 (by decide) ?_
      refine lv_istore (lv' := [(6, .int 1), (0, .ref o), (1, .int p0), (2, .int p1), (3, .int p2), (4, .int p3), (5, .int p4)]) hx hb dX10_odds_25 hl (by decide) rfl (fun ls hl => ?_)
      refine lv_iload hx hb dX10_odds_27 (lv_at hl 0 rfl) ?_
      refine lv_if_eq (tgt := 42) hx hb dX10_odds_29 (by decide) (fun c7 => ?_) (fun c7 => ?_)
      · exact absurd c7 (by decide)
      refine lv_aload_n hx hb dX10_odds_32 rfl (lv_at hl 1 rfl) ?_
      refine lv_iload_n hx hb dX10_odds_33 rfl (lv_at hl 2 rfl) ?_
      refine lv_iload_n hx hb dX10_odds_34 rfl (lv_at hl 3 rfl) ?_
      refine lv_iload_n hx hb dX10_odds_35 rfl (lv_at hl 4 rfl) ?_
      refine cg (wc := [(o, .inr (10, (dsF b))), ((b 0), .inr (6, (skF b)))]) (wr := []) [0, 1] [] (rn_V (As := [.int p0, .int p1, .int p2]) (rest := []) (b := o) (c_isWeighed l D Y Z H.size o b p0 p1 p2) ⟨hx, hb, hml, hown, hg⟩ lk_X10_343 ⟨CP.blind, va_recv hKN.1 hP (ci := 10) (q0 := 0) rfl rfl, CP.at (hP.sub [0, 1] rfl) hKN (hD.sub [0, 1] (by decide) rfl)⟩ ⟨⟨rfl, rfl⟩, ⟨Nat.le_of_ble_eq_true rfl, Nat.le_of_ble_eq_true rfl⟩, ⟨Nat.le_of_ble_eq_true rfl, Nat.le_of_ble_eq_true rfl⟩⟩ hl.1 rfl (Nat.le_of_ble_eq_true rfl) dX10_odds_36) hP hD hS hA rfl rfl (by decide) (by decide) (fun u8 H locs w9 hP hD hS => ?_)
      refine W.eq (g2 := F0 m 39 ls [.int 0]) rfl ?_
      have hP : va_P D vwCl [(o, .inr (10, (dsF b))), ((b 0), .inr (6, (skF b)))] H := hP
      have hD : va_D A [(o, .inr (10, (dsF b))), ((b 0), .inr (6, (skF b)))] := hD
      refine lv_if_ne (tgt := 44) hx hb dX10_odds_39 (by decide) (fun c10 => ?_) (fun c10 => ?_)
      · exact absurd c10 (by decide)
      refine lv_iconst (v := (-1)) hx hb dX10_odds_42 (by decide) ?_
      refine W.widen (k := 0) (n := 0) (Nat.le_of_ble_eq_true rfl) (Nat.le_of_ble_eq_true rfl) ?_
      exact W.iret (v := (-1)) hx hb hr (fun t ht hW => ⟨⟨(), rfl, trivial, CB.nil⟩, hS.F ht⟩) hS.2.2 dX10_odds_43
    · skip
      refine W.eq (g2 := F0 m 17 ls [.int 0]) rfl ?_
      refine lv_if_eq (tgt := 24) hx hb dX10_odds_17 (by decide) (fun c11 => ?_) (fun c11 => ?_)
      rotate_left
      · exact absurd c11 (by decide)
      refine lv_iconst (v := 0) hx hb dX10_odds_24 (by decide) ?_
      refine lv_istore (lv' := [(6, .int 0), (0, .ref o), (1, .int p0), (2, .int p1), (3, .int p2), (4, .int p3), (5, .int p4)]) hx hb dX10_odds_25 hl (by decide) rfl (fun ls hl => ?_)
      refine lv_iload hx hb dX10_odds_27 (lv_at hl 0 rfl) ?_
      refine lv_if_eq (tgt := 42) hx hb dX10_odds_29 (by decide) (fun c12 => ?_) (fun c12 => ?_)
      rotate_left
      · exact absurd c12 (by decide)
      refine lv_iconst (v := (-1)) hx hb dX10_odds_42 (by decide) ?_
      refine W.widen (k := 0) (n := 0) (Nat.le_of_ble_eq_true rfl) (Nat.le_of_ble_eq_true rfl) ?_
      exact W.iret (v := (-1)) hx hb hr (fun t ht hW => ⟨⟨(), rfl, trivial, CB.nil⟩, hS.F ht⟩) hS.2.2 dX10_odds_43
  · skip
    refine W.eq (g2 := F0 m 7 ls [.int 0]) rfl ?_
    refine lv_if_eq (tgt := 24) hx hb dX10_odds_7 (by decide) (fun c13 => ?_) (fun c13 => ?_)
    rotate_left
    · exact absurd c13 (by decide)
    refine lv_iconst (v := 0) hx hb dX10_odds_24 (by decide) ?_
    refine lv_istore (lv' := [(6, .int 0), (0, .ref o), (1, .int p0), (2, .int p1), (3, .int p2), (4, .int p3), (5, .int p4)]) hx hb dX10_odds_25 hl (by decide) rfl (fun ls hl => ?_)
    refine lv_iload hx hb dX10_odds_27 (lv_at hl 0 rfl) ?_
    refine lv_if_eq (tgt := 42) hx hb dX10_odds_29 (by decide) (fun c14 => ?_) (fun c14 => ?_)
    rotate_left
    · exact absurd c14 (by decide)
    refine lv_iconst (v := (-1)) hx hb dX10_odds_42 (by decide) ?_
    refine W.widen (k := 0) (n := 0) (Nat.le_of_ble_eq_true rfl) (Nat.le_of_ble_eq_true rfl) ?_
    exact W.iret (v := (-1)) hx hb hr (fun t ht hW => ⟨⟨(), rfl, trivial, CB.nil⟩, hS.F ht⟩) hS.2.2 dX10_odds_43
set_option maxHeartbeats 4000000 in
set_option maxRecDepth 100000 in
theorem y_odds (l : Launch) (D : va_G) (Y : Nat → ClassId) (Z : Nat → Nat) (sz : Nat) (o : Nat) (a : Nat → Nat) (p0 p1 p2 p3 p4 : Int32) : Met l yX11_odds (.code yX11_odds cX11_odds 8 (some .int) :: GW) ({ frames := 2, cells := 0, slots := 0, locals := 45 }) (va_Pc [.ref o, .int p0, .int p1, .int p2, .int p3, .int p4] (CP D Y Z [(o, .inr (11, (moF a))), ((a 3), .inl (Y 0, 3, .inl (fun _ => 0)))] sz)) (QG (S := Unit) (fun _ => some (.int (-1))) (fun _ => True) (fun u => CB D ((fun _ => []) u) (va_A [(o, .inr (11, (moF a))), ((a 3), .inl (Y 0, 3, .inl (fun _ => 0)))] sz)) (va_A [(o, .inr (11, (moF a))), ((a 3), .inl (Y 0, 3, .inl (fun _ => 0)))] sz)) 0 0 (va_A [(o, .inr (11, (moF a))), ((a 3), .inl (Y 0, 3, .inl (fun _ => 0)))] sz) := by
  refine Met.ofW (cc := cX11_odds) (maxL := 8) (ret := (some .int)) (by decide) rfl ?_
  intro p e s m args below meth c s₁ B hml hv
  obtain ⟨rfl, hsz, hP, hKN, hD0⟩ := hv
  have hx := B.exec
  have hb := B.bytes
  have hr := B.returns
  have hts := atoms_spec (ws := .code yX11_odds cX11_odds 8 (some .int) :: GW) B.pre
  have hg : ∀ w ∈ GW, w.before _ s = true := fun w h => hts w (List.mem_cons_of_mem _ h)
  have hown : s.vm.findClass RX11 = some m.cls := findClass_of_methodNamed B.named
  have hlocks := B.notSynchronized
  subst hsz
  have hD := hD0.self (sz := s.heap.size)
  generalize hAe : va_A [(o, .inr (11, (moF a))), ((a 3), .inl (Y 0, 3, .inl (fun _ => 0)))] s.heap.size = A at hD ⊢
  have hA : ∀ q : Nat, s.heap.size ≤ q → A q := fun q h => by rw [← hAe]; exact Or.inr h
  have hl := lv_entry ([.ref o, .int p0, .int p1, .int p2, .int p3, .int p4]) (n := 8) (Nat.le_of_ble_eq_true rfl)
  rw [lg_entry_eq]
  generalize (lg_sl ([.ref o, .int p0, .int p1, .int p2, .int p3, .int p4]) ++ List.replicate (8 - (lg_sl ([.ref o, .int p0, .int p1, .int p2, .int p3, .int p4])).length) Slot.unset).toArray = ls at hl ⊢
  have hl : lv_has ls 8 [(0, .ref o), (1, .int p0), (2, .int p1), (3, .int p2), (4, .int p3), (5, .int p4)] := hl
  refine w_start (A0 := A) hP (fun H locs hP hS => ?_)
  refine lv_iload hx hb dX11_odds_0 (lv_at hl 4 rfl) ?_
  refine lv_i2l (v := p3.toInt64) hx hb dX11_odds_2 (rfl) ?_
  refine lv_lconst (v := 0) hx hb dX11_odds_3 (by decide) ?_
  refine lv_ldc2 (v := 4) hx hb hown (hg _ kw_1665) dX11_odds_4 ?_
  refine cg0 (rn_S (As := [.long p3.toInt64, .long 0, .long 4]) (rest := []) (c_in l D Y Z H.size p3.toInt64 0 4 (p3).toInt (0) (4) (Int32.toInt_toInt64 _) (by decide) (by decide) ) ⟨hx, hb, hml, hown, hg⟩ lk_X11_99 ⟨CP.blind, CP.at nilP hKN (nilD (A := fun _ => True))⟩ ⟨⟨rfl, rfl⟩, ⟨Nat.le_of_ble_eq_true rfl, Nat.le_of_ble_eq_true rfl⟩, ⟨Nat.le_of_ble_eq_true rfl, Nat.le_of_ble_eq_true rfl⟩⟩ hl.1 rfl (Nat.le_of_ble_eq_true rfl) dX11_odds_7) hP hS hA (fun u1 H locs w2 hP hS => ?_)
  rcases w2 with ⟨w2, rfl⟩ | ⟨w2, rfl⟩
  · skip
    refine W.eq (g2 := F0 m 10 ls [.int 1]) rfl ?_
    refine lv_if_eq (tgt := 34) hx hb dX11_odds_10 (by decide) (fun c3 => ?_) (fun c3 => ?_)
    · exact absurd c3 (by decide)
    refine lv_iload hx hb dX11_odds_13 (lv_at hl 5 rfl) ?_
    refine lv_i2l (v := p4.toInt64) hx hb dX11_odds_15 (rfl) ?_
    refine lv_lconst (v := 0) hx hb dX11_odds_16 (by decide) ?_
    refine lv_lconst (v := 1) hx hb dX11_odds_17 (by decide) ?_
    refine cg0 (rn_S (As := [.long p4.toInt64, .long 0, .long 1]) (rest := []) (c_in l D Y Z H.size p4.toInt64 0 1 (p4).toInt (0) (1) (Int32.toInt_toInt64 _) (by decide) (by decide) ) ⟨hx, hb, hml, hown, hg⟩ lk_X11_99 ⟨CP.blind, CP.at nilP hKN (nilD (A := fun _ => True))⟩ ⟨⟨rfl, rfl⟩, ⟨Nat.le_of_ble_eq_true rfl, Nat.le_of_ble_eq_true rfl⟩, ⟨Nat.le_of_ble_eq_true rfl, Nat.le_of_ble_eq_true rfl⟩⟩ hl.1 rfl (Nat.le_of_ble_eq_true rfl) dX11_odds_18) hP hS hA (fun u4 H locs w5 hP hS => ?_)
    rcases w5 with ⟨w5, rfl⟩ | ⟨w5, rfl⟩
    · skip
      refine W.eq (g2 := F0 m 21 ls [.int 1]) rfl ?_
      refine lv_if_eq (tgt := 34) hx hb dX11_odds_21 (by decide) (fun c6 => ?_) (fun c6 => ?_)
      · exact absurd c6 (by decide)
      refine lv_aload_n hx hb dX11_odds_24 rfl (lv_at hl 0 rfl) ?_
      refine lv_iload_n hx hb dX11_odds_25 rfl (lv_at hl 1 rfl) ?_
      refine lv_iload_n hx hb dX11_odds_26 rfl (lv_at hl 2 rfl) ?_
      refine lv_iload_n hx hb dX11_odds_27 rfl (lv_at hl 3 rfl) ?_
      refine cg (wc := [(o, .inr (11, (moF a))), ((a 3), .inl (Y 0, 3, .inl (fun _ => 0)))]) (wr := []) [0, 1] [] (rn_V (As := [.int p0, .int p1, .int p2]) (rest := []) (b := o) (m_canWeigh l D Y Z H.size o a p0 p1 p2) ⟨hx, hb, hml, hown, hg⟩ lk_X11_546 ⟨CP.blind, va_recv hKN.1 hP (ci := 11) (q0 := 0) rfl rfl, CP.at (hP.sub [0, 1] rfl) hKN (hD.sub [0, 1] (by decide) rfl)⟩ ⟨⟨rfl, rfl⟩, ⟨Nat.le_of_ble_eq_true rfl, Nat.le_of_ble_eq_true rfl⟩, ⟨Nat.le_of_ble_eq_true rfl, Nat.le_of_ble_eq_true rfl⟩⟩ hl.1 rfl (Nat.le_of_ble_eq_true rfl) dX11_odds_28) hP hD hS hA rfl rfl (by decide) (by decide) (fun u7 H locs w8 hP hD hS => ?_)
      refine W.eq (g2 := F0 m 31 ls [.int 0]) rfl ?_
      have hP : va_P D vwCl [(o, .inr (11, (moF a))), ((a 3), .inl (Y 0, 3, .inl (fun _ => 0)))] H := hP
      have hD : va_D A [(o, .inr (11, (moF a))), ((a 3), .inl (Y 0, 3, .inl (fun _ => 0)))] := hD
      refine lv_if_ne (tgt := 36) hx hb dX11_odds_31 (by decide) (fun c9 => ?_) (fun c9 => ?_)
      · exact absurd c9 (by decide)
      refine lv_iconst (v := (-1)) hx hb dX11_odds_34 (by decide) ?_
      refine W.widen (k := 0) (n := 0) (Nat.le_of_ble_eq_true rfl) (Nat.le_of_ble_eq_true rfl) ?_
      exact W.iret (v := (-1)) hx hb hr (fun t ht hW => ⟨⟨(), rfl, trivial, CB.nil⟩, hS.F ht⟩) hS.2.2 dX11_odds_35
    · skip
      refine W.eq (g2 := F0 m 21 ls [.int 0]) rfl ?_
      refine lv_if_eq (tgt := 34) hx hb dX11_odds_21 (by decide) (fun c10 => ?_) (fun c10 => ?_)
      rotate_left
      · exact absurd c10 (by decide)
      refine lv_iconst (v := (-1)) hx hb dX11_odds_34 (by decide) ?_
      refine W.widen (k := 0) (n := 0) (Nat.le_of_ble_eq_true rfl) (Nat.le_of_ble_eq_true rfl) ?_
      exact W.iret (v := (-1)) hx hb hr (fun t ht hW => ⟨⟨(), rfl, trivial, CB.nil⟩, hS.F ht⟩) hS.2.2 dX11_odds_35
  · skip
    refine W.eq (g2 := F0 m 10 ls [.int 0]) rfl ?_
    refine lv_if_eq (tgt := 34) hx hb dX11_odds_10 (by decide) (fun c11 => ?_) (fun c11 => ?_)
    rotate_left
    · exact absurd c11 (by decide)
    refine lv_iconst (v := (-1)) hx hb dX11_odds_34 (by decide) ?_
    refine W.widen (k := 0) (n := 0) (Nat.le_of_ble_eq_true rfl) (Nat.le_of_ble_eq_true rfl) ?_
    exact W.iret (v := (-1)) hx hb hr (fun t ht hW => ⟨⟨(), rfl, trivial, CB.nil⟩, hS.F ht⟩) hS.2.2 dX11_odds_35
set_option maxHeartbeats 4000000 in
set_option maxRecDepth 100000 in
theorem x_truly (l : Launch) (D : va_G) (Y : Nat → ClassId) (Z : Nat → Nat) (sz : Nat) (o : Nat) (b : Nat → Nat) (p0 p1 : Int32) : Met l yX10_truly (.code yX10_truly cX10_truly 13 (some .long) :: GW) ({ frames := 2, cells := 0, slots := 0, locals := 43 }) (va_Pc [.ref o, .int p0, .int p1] (CP D Y Z [(o, .inr (10, (dsF b)))] sz)) (QG (S := Unit) (fun _ => some (.long (-1))) (fun _ => True) (fun u => CB D ((fun _ => []) u) (va_A [(o, .inr (10, (dsF b)))] sz)) (va_A [(o, .inr (10, (dsF b)))] sz)) 0 0 (va_A [(o, .inr (10, (dsF b)))] sz) := by
  refine Met.ofW (cc := cX10_truly) (maxL := 13) (ret := (some .long)) (by decide) rfl ?_
  intro p e s m args below meth c s₁ B hml hv
  obtain ⟨rfl, hsz, hP, hKN, hD0⟩ := hv
  have hx := B.exec
  have hb := B.bytes
  have hr := B.returns
  have hts := atoms_spec (ws := .code yX10_truly cX10_truly 13 (some .long) :: GW) B.pre
  have hg : ∀ w ∈ GW, w.before _ s = true := fun w h => hts w (List.mem_cons_of_mem _ h)
  have hown : s.vm.findClass RX10 = some m.cls := findClass_of_methodNamed B.named
  have hlocks := B.notSynchronized
  subst hsz
  have hD := hD0.self (sz := s.heap.size)
  generalize hAe : va_A [(o, .inr (10, (dsF b)))] s.heap.size = A at hD ⊢
  have hA : ∀ q : Nat, s.heap.size ≤ q → A q := fun q h => by rw [← hAe]; exact Or.inr h
  have hl := lv_entry ([.ref o, .int p0, .int p1]) (n := 13) (Nat.le_of_ble_eq_true rfl)
  rw [lg_entry_eq]
  generalize (lg_sl ([.ref o, .int p0, .int p1]) ++ List.replicate (13 - (lg_sl ([.ref o, .int p0, .int p1])).length) Slot.unset).toArray = ls at hl ⊢
  have hl : lv_has ls 13 [(0, .ref o), (1, .int p0), (2, .int p1)] := hl
  refine w_start (A0 := A) hP (fun H locs hP hS => ?_)
  refine lv_aload_n hx hb dX10_truly_0 rfl (lv_at hl 0 rfl) ?_
  refine lv_iload_n hx hb dX10_truly_1 rfl (lv_at hl 1 rfl) ?_
  refine cg (wc := [(o, .inr (10, (dsF b)))]) (wr := []) [0] [] (rn_V (As := [.int p0]) (rest := []) (b := o) (c_searchAt l D Y Z H.size o b p0) ⟨hx, hb, hml, hown, hg⟩ lk_X10_259 ⟨CP.blind, va_recv hKN.1 hP (ci := 10) (q0 := 0) rfl rfl, CP.at (hP.sub [0] rfl) hKN (hD.sub [0] (by decide) rfl)⟩ ⟨⟨rfl, rfl⟩, ⟨Nat.le_of_ble_eq_true rfl, Nat.le_of_ble_eq_true rfl⟩, ⟨Nat.le_of_ble_eq_true rfl, Nat.le_of_ble_eq_true rfl⟩⟩ hl.1 rfl (Nat.le_of_ble_eq_true rfl) dX10_truly_2) hP hD hS hA rfl rfl (by decide) (by decide) (fun u1 H locs w2 hP hD hS => ?_)
  refine W.eq (g2 := F0 m 5 ls [.null]) rfl ?_
  have hP : va_P D vwCl [(o, .inr (10, (dsF b)))] H := hP
  have hD : va_D A [(o, .inr (10, (dsF b)))] := hD
  refine lv_astore_nN (lv' := [(3, .null), (0, .ref o), (1, .int p0), (2, .int p1)]) hx hb dX10_truly_5 rfl hl (by decide) rfl (fun ls hl => ?_)
  refine lv_aload_nN hx hb dX10_truly_6 rfl (lv_at hl 0 rfl) ?_
  refine lv_ifnullN (tgt := 18) hx hb dX10_truly_7 (by decide) ?_
  refine lv_ldc2 (v := (-1)) hx hb hown (hg _ kw_899) dX10_truly_18 ?_
  refine W.widen (k := 0) (n := 0) (Nat.le_of_ble_eq_true rfl) (Nat.le_of_ble_eq_true rfl) ?_
  exact W.lret (v := (-1)) hx hb hr (fun t ht hW => ⟨⟨(), rfl, trivial, CB.nil⟩, hS.F ht⟩) hS.2.2 dX10_truly_21
set_option maxHeartbeats 4000000 in
set_option maxRecDepth 100000 in
theorem y_truly (l : Launch) (D : va_G) (Y : Nat → ClassId) (Z : Nat → Nat) (sz : Nat) (o : Nat) (a : Nat → Nat) (p0 p1 : Int32) : Met l yX11_truly (.code yX11_truly cX11_truly 9 (some .long) :: GW) ({ frames := 1, cells := 0, slots := 0, locals := 22 }) (va_Pc [.ref o, .int p0, .int p1] (CP D Y Z [(o, .inr (11, (moF a))), ((a 3), .inl (Y 0, 3, .inl (fun _ => 0)))] sz)) (QG (S := Unit) (fun _ => some (.long (-1))) (fun _ => True) (fun u => CB D ((fun _ => []) u) (va_A [(o, .inr (11, (moF a))), ((a 3), .inl (Y 0, 3, .inl (fun _ => 0)))] sz)) (va_A [(o, .inr (11, (moF a))), ((a 3), .inl (Y 0, 3, .inl (fun _ => 0)))] sz)) 0 0 (va_A [(o, .inr (11, (moF a))), ((a 3), .inl (Y 0, 3, .inl (fun _ => 0)))] sz) := by
  refine Met.ofW (cc := cX11_truly) (maxL := 9) (ret := (some .long)) (by decide) rfl ?_
  intro p e s m args below meth c s₁ B hml hv
  obtain ⟨rfl, hsz, hP, hKN, hD0⟩ := hv
  have hx := B.exec
  have hb := B.bytes
  have hr := B.returns
  have hts := atoms_spec (ws := .code yX11_truly cX11_truly 9 (some .long) :: GW) B.pre
  have hg : ∀ w ∈ GW, w.before _ s = true := fun w h => hts w (List.mem_cons_of_mem _ h)
  have hown : s.vm.findClass RX11 = some m.cls := findClass_of_methodNamed B.named
  have hlocks := B.notSynchronized
  subst hsz
  have hD := hD0.self (sz := s.heap.size)
  generalize hAe : va_A [(o, .inr (11, (moF a))), ((a 3), .inl (Y 0, 3, .inl (fun _ => 0)))] s.heap.size = A at hD ⊢
  have hA : ∀ q : Nat, s.heap.size ≤ q → A q := fun q h => by rw [← hAe]; exact Or.inr h
  have hl := lv_entry ([.ref o, .int p0, .int p1]) (n := 9) (Nat.le_of_ble_eq_true rfl)
  rw [lg_entry_eq]
  generalize (lg_sl ([.ref o, .int p0, .int p1]) ++ List.replicate (9 - (lg_sl ([.ref o, .int p0, .int p1])).length) Slot.unset).toArray = ls at hl ⊢
  have hl : lv_has ls 9 [(0, .ref o), (1, .int p0), (2, .int p1)] := hl
  refine w_start (A0 := A) hP (fun H locs hP hS => ?_)
  refine lv_aload_n hx hb dX11_truly_0 rfl (lv_at hl 0 rfl) ?_
  refine lv_iconst (v := 1) hx hb dX11_truly_1 (by decide) ?_
  refine lv_iload_n hx hb dX11_truly_2 rfl (lv_at hl 1 rfl) ?_
  refine cg (wc := [(o, .inr (11, (moF a))), ((a 3), .inl (Y 0, 3, .inl (fun _ => 0)))]) (wr := []) [0, 1] [] (rn_V (As := [.int 1, .int p0]) (rest := []) (b := o) (m_isText1 l D Y Z H.size o a p0) ⟨hx, hb, hml, hown, hg⟩ lk_X11_366 ⟨CP.blind, va_recv hKN.1 hP (ci := 11) (q0 := 0) rfl rfl, CP.at (hP.sub [0, 1] rfl) hKN (hD.sub [0, 1] (by decide) rfl)⟩ ⟨⟨rfl, rfl⟩, ⟨Nat.le_of_ble_eq_true rfl, Nat.le_of_ble_eq_true rfl⟩, ⟨Nat.le_of_ble_eq_true rfl, Nat.le_of_ble_eq_true rfl⟩⟩ hl.1 rfl (Nat.le_of_ble_eq_true rfl) dX11_truly_3) hP hD hS hA rfl rfl (by decide) (by decide) (fun u1 H locs w2 hP hD hS => ?_)
  refine W.eq (g2 := F0 m 6 ls [.int 0]) rfl ?_
  have hP : va_P D vwCl [(o, .inr (11, (moF a))), ((a 3), .inl (Y 0, 3, .inl (fun _ => 0)))] H := hP
  have hD : va_D A [(o, .inr (11, (moF a))), ((a 3), .inl (Y 0, 3, .inl (fun _ => 0)))] := hD
  refine lv_if_eq (tgt := 18) hx hb dX11_truly_6 (by decide) (fun c3 => ?_) (fun c3 => ?_)
  rotate_left
  · exact absurd c3 (by decide)
  refine lv_ldc2 (v := (-1)) hx hb hown (hg _ kw_1650) dX11_truly_18 ?_
  refine W.widen (k := 0) (n := 0) (Nat.le_of_ble_eq_true rfl) (Nat.le_of_ble_eq_true rfl) ?_
  exact W.lret (v := (-1)) hx hb hr (fun t ht hW => ⟨⟨(), rfl, trivial, CB.nil⟩, hS.F ht⟩) hS.2.2 dX11_truly_21
set_option maxHeartbeats 4000000 in
set_option maxRecDepth 100000 in
theorem x_bound (l : Launch) (D : va_G) (Y : Nat → ClassId) (Z : Nat → Nat) (sz : Nat) (o : Nat) (b : Nat → Nat) (p0 p1 : Int32) : Met l yX10_bound (.code yX10_bound cX10_bound 10 (some .int) :: GW) ({ frames := 2, cells := 0, slots := 0, locals := 43 }) (va_Pc [.ref o, .int p0, .int p1] (CP D Y Z [(o, .inr (10, (dsF b)))] sz)) (QG (S := Unit) (fun _ => some (.int (-1))) (fun _ => True) (fun u => CB D ((fun _ => []) u) (va_A [(o, .inr (10, (dsF b)))] sz)) (va_A [(o, .inr (10, (dsF b)))] sz)) 0 0 (va_A [(o, .inr (10, (dsF b)))] sz) := by
  refine Met.ofW (cc := cX10_bound) (maxL := 10) (ret := (some .int)) (by decide) rfl ?_
  intro p e s m args below meth c s₁ B hml hv
  obtain ⟨rfl, hsz, hP, hKN, hD0⟩ := hv
  have hx := B.exec
  have hb := B.bytes
  have hr := B.returns
  have hts := atoms_spec (ws := .code yX10_bound cX10_bound 10 (some .int) :: GW) B.pre
  have hg : ∀ w ∈ GW, w.before _ s = true := fun w h => hts w (List.mem_cons_of_mem _ h)
  have hown : s.vm.findClass RX10 = some m.cls := findClass_of_methodNamed B.named
  have hlocks := B.notSynchronized
  subst hsz
  have hD := hD0.self (sz := s.heap.size)
  generalize hAe : va_A [(o, .inr (10, (dsF b)))] s.heap.size = A at hD ⊢
  have hA : ∀ q : Nat, s.heap.size ≤ q → A q := fun q h => by rw [← hAe]; exact Or.inr h
  have hl := lv_entry ([.ref o, .int p0, .int p1]) (n := 10) (Nat.le_of_ble_eq_true rfl)
  rw [lg_entry_eq]
  generalize (lg_sl ([.ref o, .int p0, .int p1]) ++ List.replicate (10 - (lg_sl ([.ref o, .int p0, .int p1])).length) Slot.unset).toArray = ls at hl ⊢
  have hl : lv_has ls 10 [(0, .ref o), (1, .int p0), (2, .int p1)] := hl
  refine w_start (A0 := A) hP (fun H locs hP hS => ?_)
  refine lv_aload_n hx hb dX10_bound_0 rfl (lv_at hl 0 rfl) ?_
  refine lv_iload_n hx hb dX10_bound_1 rfl (lv_at hl 1 rfl) ?_
  refine cg (wc := [(o, .inr (10, (dsF b)))]) (wr := []) [0] [] (rn_V (As := [.int p0]) (rest := []) (b := o) (c_searchAt l D Y Z H.size o b p0) ⟨hx, hb, hml, hown, hg⟩ lk_X10_259 ⟨CP.blind, va_recv hKN.1 hP (ci := 10) (q0 := 0) rfl rfl, CP.at (hP.sub [0] rfl) hKN (hD.sub [0] (by decide) rfl)⟩ ⟨⟨rfl, rfl⟩, ⟨Nat.le_of_ble_eq_true rfl, Nat.le_of_ble_eq_true rfl⟩, ⟨Nat.le_of_ble_eq_true rfl, Nat.le_of_ble_eq_true rfl⟩⟩ hl.1 rfl (Nat.le_of_ble_eq_true rfl) dX10_bound_2) hP hD hS hA rfl rfl (by decide) (by decide) (fun u1 H locs w2 hP hD hS => ?_)
  refine W.eq (g2 := F0 m 5 ls [.null]) rfl ?_
  have hP : va_P D vwCl [(o, .inr (10, (dsF b)))] H := hP
  have hD : va_D A [(o, .inr (10, (dsF b)))] := hD
  refine lv_astore_nN (lv' := [(3, .null), (0, .ref o), (1, .int p0), (2, .int p1)]) hx hb dX10_bound_5 rfl hl (by decide) rfl (fun ls hl => ?_)
  refine lv_aload_nN hx hb dX10_bound_6 rfl (lv_at hl 0 rfl) ?_
  refine lv_ifnullN (tgt := 21) hx hb dX10_bound_7 (by decide) ?_
  refine lv_iconst (v := (-1)) hx hb dX10_bound_21 (by decide) ?_
  refine W.widen (k := 0) (n := 0) (Nat.le_of_ble_eq_true rfl) (Nat.le_of_ble_eq_true rfl) ?_
  exact W.iret (v := (-1)) hx hb hr (fun t ht hW => ⟨⟨(), rfl, trivial, CB.nil⟩, hS.F ht⟩) hS.2.2 dX10_bound_22
set_option maxHeartbeats 4000000 in
set_option maxRecDepth 100000 in
theorem y_bound (l : Launch) (D : va_G) (Y : Nat → ClassId) (Z : Nat → Nat) (sz : Nat) (o : Nat) (a : Nat → Nat) (p0 p1 : Int32) : Met l yX11_bound (.code yX11_bound cX11_bound 8 (some .int) :: GW) ({ frames := 1, cells := 0, slots := 0, locals := 22 }) (va_Pc [.ref o, .int p0, .int p1] (CP D Y Z [(o, .inr (11, (moF a))), ((a 3), .inl (Y 0, 3, .inl (fun _ => 0)))] sz)) (QG (S := Unit) (fun _ => some (.int (-1))) (fun _ => True) (fun u => CB D ((fun _ => []) u) (va_A [(o, .inr (11, (moF a))), ((a 3), .inl (Y 0, 3, .inl (fun _ => 0)))] sz)) (va_A [(o, .inr (11, (moF a))), ((a 3), .inl (Y 0, 3, .inl (fun _ => 0)))] sz)) 0 0 (va_A [(o, .inr (11, (moF a))), ((a 3), .inl (Y 0, 3, .inl (fun _ => 0)))] sz) := by
  refine Met.ofW (cc := cX11_bound) (maxL := 8) (ret := (some .int)) (by decide) rfl ?_
  intro p e s m args below meth c s₁ B hml hv
  obtain ⟨rfl, hsz, hP, hKN, hD0⟩ := hv
  have hx := B.exec
  have hb := B.bytes
  have hr := B.returns
  have hts := atoms_spec (ws := .code yX11_bound cX11_bound 8 (some .int) :: GW) B.pre
  have hg : ∀ w ∈ GW, w.before _ s = true := fun w h => hts w (List.mem_cons_of_mem _ h)
  have hown : s.vm.findClass RX11 = some m.cls := findClass_of_methodNamed B.named
  have hlocks := B.notSynchronized
  subst hsz
  have hD := hD0.self (sz := s.heap.size)
  generalize hAe : va_A [(o, .inr (11, (moF a))), ((a 3), .inl (Y 0, 3, .inl (fun _ => 0)))] s.heap.size = A at hD ⊢
  have hA : ∀ q : Nat, s.heap.size ≤ q → A q := fun q h => by rw [← hAe]; exact Or.inr h
  have hl := lv_entry ([.ref o, .int p0, .int p1]) (n := 8) (Nat.le_of_ble_eq_true rfl)
  rw [lg_entry_eq]
  generalize (lg_sl ([.ref o, .int p0, .int p1]) ++ List.replicate (8 - (lg_sl ([.ref o, .int p0, .int p1])).length) Slot.unset).toArray = ls at hl ⊢
  have hl : lv_has ls 8 [(0, .ref o), (1, .int p0), (2, .int p1)] := hl
  refine w_start (A0 := A) hP (fun H locs hP hS => ?_)
  refine lv_aload_n hx hb dX11_bound_0 rfl (lv_at hl 0 rfl) ?_
  refine lv_iconst (v := 1) hx hb dX11_bound_1 (by decide) ?_
  refine lv_iload_n hx hb dX11_bound_2 rfl (lv_at hl 1 rfl) ?_
  refine cg (wc := [(o, .inr (11, (moF a))), ((a 3), .inl (Y 0, 3, .inl (fun _ => 0)))]) (wr := []) [0, 1] [] (rn_V (As := [.int 1, .int p0]) (rest := []) (b := o) (m_isText1 l D Y Z H.size o a p0) ⟨hx, hb, hml, hown, hg⟩ lk_X11_366 ⟨CP.blind, va_recv hKN.1 hP (ci := 11) (q0 := 0) rfl rfl, CP.at (hP.sub [0, 1] rfl) hKN (hD.sub [0, 1] (by decide) rfl)⟩ ⟨⟨rfl, rfl⟩, ⟨Nat.le_of_ble_eq_true rfl, Nat.le_of_ble_eq_true rfl⟩, ⟨Nat.le_of_ble_eq_true rfl, Nat.le_of_ble_eq_true rfl⟩⟩ hl.1 rfl (Nat.le_of_ble_eq_true rfl) dX11_bound_3) hP hD hS hA rfl rfl (by decide) (by decide) (fun u1 H locs w2 hP hD hS => ?_)
  refine W.eq (g2 := F0 m 6 ls [.int 0]) rfl ?_
  have hP : va_P D vwCl [(o, .inr (11, (moF a))), ((a 3), .inl (Y 0, 3, .inl (fun _ => 0)))] H := hP
  have hD : va_D A [(o, .inr (11, (moF a))), ((a 3), .inl (Y 0, 3, .inl (fun _ => 0)))] := hD
  refine lv_if_eq (tgt := 21) hx hb dX11_bound_6 (by decide) (fun c3 => ?_) (fun c3 => ?_)
  rotate_left
  · exact absurd c3 (by decide)
  refine lv_iconst (v := (-1)) hx hb dX11_bound_21 (by decide) ?_
  refine W.widen (k := 0) (n := 0) (Nat.le_of_ble_eq_true rfl) (Nat.le_of_ble_eq_true rfl) ?_
  exact W.iret (v := (-1)) hx hb hr (fun t ht hW => ⟨⟨(), rfl, trivial, CB.nil⟩, hS.F ht⟩) hS.2.2 dX11_bound_22
set_option maxHeartbeats 4000000 in
set_option maxRecDepth 100000 in
theorem x_second (l : Launch) (D : va_G) (Y : Nat → ClassId) (Z : Nat → Nat) (sz : Nat) (o : Nat) (b : Nat → Nat) (p0 p1 p2 : Int32) : Met l yX10_second (.code yX10_second cX10_second 6 (some .long) :: GW) ({ frames := 2, cells := 0, slots := 0, locals := 43 }) (va_Pc [.ref o, .int p0, .int p1, .int p2] (CP D Y Z [(o, .inr (10, (dsF b)))] sz)) (QG (S := Unit) (fun _ => some (.long (-2))) (fun _ => True) (fun u => CB D ((fun _ => []) u) (va_A [(o, .inr (10, (dsF b)))] sz)) (va_A [(o, .inr (10, (dsF b)))] sz)) 0 0 (va_A [(o, .inr (10, (dsF b)))] sz) := by
  refine Met.ofW (cc := cX10_second) (maxL := 6) (ret := (some .long)) (by decide) rfl ?_
  intro p e s m args below meth c s₁ B hml hv
  obtain ⟨rfl, hsz, hP, hKN, hD0⟩ := hv
  have hx := B.exec
  have hb := B.bytes
  have hr := B.returns
  have hts := atoms_spec (ws := .code yX10_second cX10_second 6 (some .long) :: GW) B.pre
  have hg : ∀ w ∈ GW, w.before _ s = true := fun w h => hts w (List.mem_cons_of_mem _ h)
  have hown : s.vm.findClass RX10 = some m.cls := findClass_of_methodNamed B.named
  have hlocks := B.notSynchronized
  subst hsz
  have hD := hD0.self (sz := s.heap.size)
  generalize hAe : va_A [(o, .inr (10, (dsF b)))] s.heap.size = A at hD ⊢
  have hA : ∀ q : Nat, s.heap.size ≤ q → A q := fun q h => by rw [← hAe]; exact Or.inr h
  have hl := lv_entry ([.ref o, .int p0, .int p1, .int p2]) (n := 6) (Nat.le_of_ble_eq_true rfl)
  rw [lg_entry_eq]
  generalize (lg_sl ([.ref o, .int p0, .int p1, .int p2]) ++ List.replicate (6 - (lg_sl ([.ref o, .int p0, .int p1, .int p2])).length) Slot.unset).toArray = ls at hl ⊢
  have hl : lv_has ls 6 [(0, .ref o), (1, .int p0), (2, .int p1), (3, .int p2)] := hl
  refine w_start (A0 := A) hP (fun H locs hP hS => ?_)
  refine lv_aload_n hx hb dX10_second_0 rfl (lv_at hl 0 rfl) ?_
  refine lv_iload_n hx hb dX10_second_1 rfl (lv_at hl 1 rfl) ?_
  refine cg (wc := [(o, .inr (10, (dsF b)))]) (wr := []) [0] [] (rn_V (As := [.int p0]) (rest := []) (b := o) (c_searchAt l D Y Z H.size o b p0) ⟨hx, hb, hml, hown, hg⟩ lk_X10_259 ⟨CP.blind, va_recv hKN.1 hP (ci := 10) (q0 := 0) rfl rfl, CP.at (hP.sub [0] rfl) hKN (hD.sub [0] (by decide) rfl)⟩ ⟨⟨rfl, rfl⟩, ⟨Nat.le_of_ble_eq_true rfl, Nat.le_of_ble_eq_true rfl⟩, ⟨Nat.le_of_ble_eq_true rfl, Nat.le_of_ble_eq_true rfl⟩⟩ hl.1 rfl (Nat.le_of_ble_eq_true rfl) dX10_second_2) hP hD hS hA rfl rfl (by decide) (by decide) (fun u1 H locs w2 hP hD hS => ?_)
  refine W.eq (g2 := F0 m 5 ls [.null]) rfl ?_
  have hP : va_P D vwCl [(o, .inr (10, (dsF b)))] H := hP
  have hD : va_D A [(o, .inr (10, (dsF b)))] := hD
  refine lv_astoreN (lv' := [(4, .null), (0, .ref o), (1, .int p0), (2, .int p1), (3, .int p2)]) hx hb dX10_second_5 hl (by decide) rfl (fun ls hl => ?_)
  refine lv_aloadN hx hb dX10_second_7 (lv_at hl 0 rfl) ?_
  refine lv_ifnullN (tgt := 30) hx hb dX10_second_9 (by decide) ?_
  refine lv_ldc2 (v := (-2)) hx hb hown (hg _ kw_852) dX10_second_30 ?_
  refine W.widen (k := 0) (n := 0) (Nat.le_of_ble_eq_true rfl) (Nat.le_of_ble_eq_true rfl) ?_
  exact W.lret (v := (-2)) hx hb hr (fun t ht hW => ⟨⟨(), rfl, trivial, CB.nil⟩, hS.F ht⟩) hS.2.2 dX10_second_33
set_option maxHeartbeats 4000000 in
set_option maxRecDepth 100000 in
theorem y_second (l : Launch) (D : va_G) (Y : Nat → ClassId) (Z : Nat → Nat) (sz : Nat) (o : Nat) (a : Nat → Nat) (p0 p1 p2 : Int32) : Met l yX11_second (.code yX11_second cX11_second 5 (some .long) :: GW) ({ frames := 1, cells := 0, slots := 0, locals := 22 }) (va_Pc [.ref o, .int p0, .int p1, .int p2] (CP D Y Z [(o, .inr (11, (moF a))), ((a 3), .inl (Y 0, 3, .inl (fun _ => 0)))] sz)) (QG (S := Unit) (fun _ => some (.long (-2))) (fun _ => True) (fun u => CB D ((fun _ => []) u) (va_A [(o, .inr (11, (moF a))), ((a 3), .inl (Y 0, 3, .inl (fun _ => 0)))] sz)) (va_A [(o, .inr (11, (moF a))), ((a 3), .inl (Y 0, 3, .inl (fun _ => 0)))] sz)) 0 0 (va_A [(o, .inr (11, (moF a))), ((a 3), .inl (Y 0, 3, .inl (fun _ => 0)))] sz) := by
  refine Met.ofW (cc := cX11_second) (maxL := 5) (ret := (some .long)) (by decide) rfl ?_
  intro p e s m args below meth c s₁ B hml hv
  obtain ⟨rfl, hsz, hP, hKN, hD0⟩ := hv
  have hx := B.exec
  have hb := B.bytes
  have hr := B.returns
  have hts := atoms_spec (ws := .code yX11_second cX11_second 5 (some .long) :: GW) B.pre
  have hg : ∀ w ∈ GW, w.before _ s = true := fun w h => hts w (List.mem_cons_of_mem _ h)
  have hown : s.vm.findClass RX11 = some m.cls := findClass_of_methodNamed B.named
  have hlocks := B.notSynchronized
  subst hsz
  have hD := hD0.self (sz := s.heap.size)
  generalize hAe : va_A [(o, .inr (11, (moF a))), ((a 3), .inl (Y 0, 3, .inl (fun _ => 0)))] s.heap.size = A at hD ⊢
  have hA : ∀ q : Nat, s.heap.size ≤ q → A q := fun q h => by rw [← hAe]; exact Or.inr h
  have hl := lv_entry ([.ref o, .int p0, .int p1, .int p2]) (n := 5) (Nat.le_of_ble_eq_true rfl)
  rw [lg_entry_eq]
  generalize (lg_sl ([.ref o, .int p0, .int p1, .int p2]) ++ List.replicate (5 - (lg_sl ([.ref o, .int p0, .int p1, .int p2])).length) Slot.unset).toArray = ls at hl ⊢
  have hl : lv_has ls 5 [(0, .ref o), (1, .int p0), (2, .int p1), (3, .int p2)] := hl
  refine w_start (A0 := A) hP (fun H locs hP hS => ?_)
  refine lv_aload_n hx hb dX11_second_0 rfl (lv_at hl 0 rfl) ?_
  refine lv_iconst (v := 1) hx hb dX11_second_1 (by decide) ?_
  refine lv_iload_n hx hb dX11_second_2 rfl (lv_at hl 1 rfl) ?_
  refine cg (wc := [(o, .inr (11, (moF a))), ((a 3), .inl (Y 0, 3, .inl (fun _ => 0)))]) (wr := []) [0, 1] [] (rn_V (As := [.int 1, .int p0]) (rest := []) (b := o) (m_isText1 l D Y Z H.size o a p0) ⟨hx, hb, hml, hown, hg⟩ lk_X11_366 ⟨CP.blind, va_recv hKN.1 hP (ci := 11) (q0 := 0) rfl rfl, CP.at (hP.sub [0, 1] rfl) hKN (hD.sub [0, 1] (by decide) rfl)⟩ ⟨⟨rfl, rfl⟩, ⟨Nat.le_of_ble_eq_true rfl, Nat.le_of_ble_eq_true rfl⟩, ⟨Nat.le_of_ble_eq_true rfl, Nat.le_of_ble_eq_true rfl⟩⟩ hl.1 rfl (Nat.le_of_ble_eq_true rfl) dX11_second_3) hP hD hS hA rfl rfl (by decide) (by decide) (fun u1 H locs w2 hP hD hS => ?_)
  refine W.eq (g2 := F0 m 6 ls [.int 0]) rfl ?_
  have hP : va_P D vwCl [(o, .inr (11, (moF a))), ((a 3), .inl (Y 0, 3, .inl (fun _ => 0)))] H := hP
  have hD : va_D A [(o, .inr (11, (moF a))), ((a 3), .inl (Y 0, 3, .inl (fun _ => 0)))] := hD
  refine lv_if_eq (tgt := 39) hx hb dX11_second_6 (by decide) (fun c3 => ?_) (fun c3 => ?_)
  rotate_left
  · exact absurd c3 (by decide)
  refine lv_ldc2 (v := (-2)) hx hb hown (hg _ kw_1707) dX11_second_39 ?_
  refine W.widen (k := 0) (n := 0) (Nat.le_of_ble_eq_true rfl) (Nat.le_of_ble_eq_true rfl) ?_
  exact W.lret (v := (-2)) hx hb hr (fun t ht hW => ⟨⟨(), rfl, trivial, CB.nil⟩, hS.F ht⟩) hS.2.2 dX11_second_42
set_option maxHeartbeats 4000000 in
set_option maxRecDepth 100000 in
theorem x_next (l : Launch) (D : va_G) (Y : Nat → ClassId) (Z : Nat → Nat) (sz : Nat) (o : Nat) (b : Nat → Nat) (p0 p1 p2 : Int32) : Met l yX10_next (.code yX10_next cX10_next 6 (some .int) :: GW) ({ frames := 2, cells := 0, slots := 0, locals := 43 }) (va_Pc [.ref o, .int p0, .int p1, .int p2] (CP D Y Z [(o, .inr (10, (dsF b)))] sz)) (QG (S := Unit) (fun _ => some (.int (-1))) (fun _ => True) (fun u => CB D ((fun _ => []) u) (va_A [(o, .inr (10, (dsF b)))] sz)) (va_A [(o, .inr (10, (dsF b)))] sz)) 0 0 (va_A [(o, .inr (10, (dsF b)))] sz) := by
  refine Met.ofW (cc := cX10_next) (maxL := 6) (ret := (some .int)) (by decide) rfl ?_
  intro p e s m args below meth c s₁ B hml hv
  obtain ⟨rfl, hsz, hP, hKN, hD0⟩ := hv
  have hx := B.exec
  have hb := B.bytes
  have hr := B.returns
  have hts := atoms_spec (ws := .code yX10_next cX10_next 6 (some .int) :: GW) B.pre
  have hg : ∀ w ∈ GW, w.before _ s = true := fun w h => hts w (List.mem_cons_of_mem _ h)
  have hown : s.vm.findClass RX10 = some m.cls := findClass_of_methodNamed B.named
  have hlocks := B.notSynchronized
  subst hsz
  have hD := hD0.self (sz := s.heap.size)
  generalize hAe : va_A [(o, .inr (10, (dsF b)))] s.heap.size = A at hD ⊢
  have hA : ∀ q : Nat, s.heap.size ≤ q → A q := fun q h => by rw [← hAe]; exact Or.inr h
  have hl := lv_entry ([.ref o, .int p0, .int p1, .int p2]) (n := 6) (Nat.le_of_ble_eq_true rfl)
  rw [lg_entry_eq]
  generalize (lg_sl ([.ref o, .int p0, .int p1, .int p2]) ++ List.replicate (6 - (lg_sl ([.ref o, .int p0, .int p1, .int p2])).length) Slot.unset).toArray = ls at hl ⊢
  have hl : lv_has ls 6 [(0, .ref o), (1, .int p0), (2, .int p1), (3, .int p2)] := hl
  refine w_start (A0 := A) hP (fun H locs hP hS => ?_)
  refine lv_aload_n hx hb dX10_next_0 rfl (lv_at hl 0 rfl) ?_
  refine lv_iload_n hx hb dX10_next_1 rfl (lv_at hl 1 rfl) ?_
  refine cg (wc := [(o, .inr (10, (dsF b)))]) (wr := []) [0] [] (rn_V (As := [.int p0]) (rest := []) (b := o) (c_searchAt l D Y Z H.size o b p0) ⟨hx, hb, hml, hown, hg⟩ lk_X10_259 ⟨CP.blind, va_recv hKN.1 hP (ci := 10) (q0 := 0) rfl rfl, CP.at (hP.sub [0] rfl) hKN (hD.sub [0] (by decide) rfl)⟩ ⟨⟨rfl, rfl⟩, ⟨Nat.le_of_ble_eq_true rfl, Nat.le_of_ble_eq_true rfl⟩, ⟨Nat.le_of_ble_eq_true rfl, Nat.le_of_ble_eq_true rfl⟩⟩ hl.1 rfl (Nat.le_of_ble_eq_true rfl) dX10_next_2) hP hD hS hA rfl rfl (by decide) (by decide) (fun u1 H locs w2 hP hD hS => ?_)
  refine W.eq (g2 := F0 m 5 ls [.null]) rfl ?_
  have hP : va_P D vwCl [(o, .inr (10, (dsF b)))] H := hP
  have hD : va_D A [(o, .inr (10, (dsF b)))] := hD
  refine lv_ifnullN (tgt := 27) hx hb dX10_next_5 (by decide) ?_
  refine lv_iconst (v := (-1)) hx hb dX10_next_27 (by decide) ?_
  refine W.widen (k := 0) (n := 0) (Nat.le_of_ble_eq_true rfl) (Nat.le_of_ble_eq_true rfl) ?_
  exact W.iret (v := (-1)) hx hb hr (fun t ht hW => ⟨⟨(), rfl, trivial, CB.nil⟩, hS.F ht⟩) hS.2.2 dX10_next_28
set_option maxHeartbeats 4000000 in
set_option maxRecDepth 100000 in
theorem y_next (l : Launch) (D : va_G) (Y : Nat → ClassId) (Z : Nat → Nat) (sz : Nat) (o : Nat) (a : Nat → Nat) (p0 p1 p2 : Int32) : Met l yX11_next (.code yX11_next cX11_next 5 (some .int) :: GW) ({ frames := 1, cells := 0, slots := 0, locals := 22 }) (va_Pc [.ref o, .int p0, .int p1, .int p2] (CP D Y Z [(o, .inr (11, (moF a))), ((a 3), .inl (Y 0, 3, .inl (fun _ => 0)))] sz)) (QG (S := Unit) (fun _ => some (.int (-1))) (fun _ => True) (fun u => CB D ((fun _ => []) u) (va_A [(o, .inr (11, (moF a))), ((a 3), .inl (Y 0, 3, .inl (fun _ => 0)))] sz)) (va_A [(o, .inr (11, (moF a))), ((a 3), .inl (Y 0, 3, .inl (fun _ => 0)))] sz)) 0 0 (va_A [(o, .inr (11, (moF a))), ((a 3), .inl (Y 0, 3, .inl (fun _ => 0)))] sz) := by
  refine Met.ofW (cc := cX11_next) (maxL := 5) (ret := (some .int)) (by decide) rfl ?_
  intro p e s m args below meth c s₁ B hml hv
  obtain ⟨rfl, hsz, hP, hKN, hD0⟩ := hv
  have hx := B.exec
  have hb := B.bytes
  have hr := B.returns
  have hts := atoms_spec (ws := .code yX11_next cX11_next 5 (some .int) :: GW) B.pre
  have hg : ∀ w ∈ GW, w.before _ s = true := fun w h => hts w (List.mem_cons_of_mem _ h)
  have hown : s.vm.findClass RX11 = some m.cls := findClass_of_methodNamed B.named
  have hlocks := B.notSynchronized
  subst hsz
  have hD := hD0.self (sz := s.heap.size)
  generalize hAe : va_A [(o, .inr (11, (moF a))), ((a 3), .inl (Y 0, 3, .inl (fun _ => 0)))] s.heap.size = A at hD ⊢
  have hA : ∀ q : Nat, s.heap.size ≤ q → A q := fun q h => by rw [← hAe]; exact Or.inr h
  have hl := lv_entry ([.ref o, .int p0, .int p1, .int p2]) (n := 5) (Nat.le_of_ble_eq_true rfl)
  rw [lg_entry_eq]
  generalize (lg_sl ([.ref o, .int p0, .int p1, .int p2]) ++ List.replicate (5 - (lg_sl ([.ref o, .int p0, .int p1, .int p2])).length) Slot.unset).toArray = ls at hl ⊢
  have hl : lv_has ls 5 [(0, .ref o), (1, .int p0), (2, .int p1), (3, .int p2)] := hl
  refine w_start (A0 := A) hP (fun H locs hP hS => ?_)
  refine lv_aload_n hx hb dX11_next_0 rfl (lv_at hl 0 rfl) ?_
  refine lv_iconst (v := 1) hx hb dX11_next_1 (by decide) ?_
  refine lv_iload_n hx hb dX11_next_2 rfl (lv_at hl 1 rfl) ?_
  refine cg (wc := [(o, .inr (11, (moF a))), ((a 3), .inl (Y 0, 3, .inl (fun _ => 0)))]) (wr := []) [0, 1] [] (rn_V (As := [.int 1, .int p0]) (rest := []) (b := o) (m_isText1 l D Y Z H.size o a p0) ⟨hx, hb, hml, hown, hg⟩ lk_X11_366 ⟨CP.blind, va_recv hKN.1 hP (ci := 11) (q0 := 0) rfl rfl, CP.at (hP.sub [0, 1] rfl) hKN (hD.sub [0, 1] (by decide) rfl)⟩ ⟨⟨rfl, rfl⟩, ⟨Nat.le_of_ble_eq_true rfl, Nat.le_of_ble_eq_true rfl⟩, ⟨Nat.le_of_ble_eq_true rfl, Nat.le_of_ble_eq_true rfl⟩⟩ hl.1 rfl (Nat.le_of_ble_eq_true rfl) dX11_next_3) hP hD hS hA rfl rfl (by decide) (by decide) (fun u1 H locs w2 hP hD hS => ?_)
  refine W.eq (g2 := F0 m 6 ls [.int 0]) rfl ?_
  have hP : va_P D vwCl [(o, .inr (11, (moF a))), ((a 3), .inl (Y 0, 3, .inl (fun _ => 0)))] H := hP
  have hD : va_D A [(o, .inr (11, (moF a))), ((a 3), .inl (Y 0, 3, .inl (fun _ => 0)))] := hD
  refine lv_if_eq (tgt := 29) hx hb dX11_next_6 (by decide) (fun c3 => ?_) (fun c3 => ?_)
  rotate_left
  · exact absurd c3 (by decide)
  refine lv_iconst (v := (-1)) hx hb dX11_next_29 (by decide) ?_
  refine W.widen (k := 0) (n := 0) (Nat.le_of_ble_eq_true rfl) (Nat.le_of_ble_eq_true rfl) ?_
  exact W.iret (v := (-1)) hx hb hr (fun t ht hW => ⟨⟨(), rfl, trivial, CB.nil⟩, hS.F ht⟩) hS.2.2 dX11_next_30
set_option maxHeartbeats 4000000 in
set_option maxRecDepth 100000 in
theorem x_alias (l : Launch) (D : va_G) (Y : Nat → ClassId) (Z : Nat → Nat) (sz : Nat) (o : Nat) (b : Nat → Nat) (p0 p1 p2 : Int32) : Met l yX10_alias (.code yX10_alias cX10_alias 9 (some .long) :: GW) ({ frames := 2, cells := 0, slots := 0, locals := 43 }) (va_Pc [.ref o, .int p0, .int p1, .int p2] (CP D Y Z [(o, .inr (10, (dsF b)))] sz)) (QG (S := Unit) (fun _ => some (.long (-1))) (fun _ => True) (fun u => CB D ((fun _ => []) u) (va_A [(o, .inr (10, (dsF b)))] sz)) (va_A [(o, .inr (10, (dsF b)))] sz)) 0 0 (va_A [(o, .inr (10, (dsF b)))] sz) := by
  refine Met.ofW (cc := cX10_alias) (maxL := 9) (ret := (some .long)) (by decide) rfl ?_
  intro p e s m args below meth c s₁ B hml hv
  obtain ⟨rfl, hsz, hP, hKN, hD0⟩ := hv
  have hx := B.exec
  have hb := B.bytes
  have hr := B.returns
  have hts := atoms_spec (ws := .code yX10_alias cX10_alias 9 (some .long) :: GW) B.pre
  have hg : ∀ w ∈ GW, w.before _ s = true := fun w h => hts w (List.mem_cons_of_mem _ h)
  have hown : s.vm.findClass RX10 = some m.cls := findClass_of_methodNamed B.named
  have hlocks := B.notSynchronized
  subst hsz
  have hD := hD0.self (sz := s.heap.size)
  generalize hAe : va_A [(o, .inr (10, (dsF b)))] s.heap.size = A at hD ⊢
  have hA : ∀ q : Nat, s.heap.size ≤ q → A q := fun q h => by rw [← hAe]; exact Or.inr h
  have hl := lv_entry ([.ref o, .int p0, .int p1, .int p2]) (n := 9) (Nat.le_of_ble_eq_true rfl)
  rw [lg_entry_eq]
  generalize (lg_sl ([.ref o, .int p0, .int p1, .int p2]) ++ List.replicate (9 - (lg_sl ([.ref o, .int p0, .int p1, .int p2])).length) Slot.unset).toArray = ls at hl ⊢
  have hl : lv_has ls 9 [(0, .ref o), (1, .int p0), (2, .int p1), (3, .int p2)] := hl
  refine w_start (A0 := A) hP (fun H locs hP hS => ?_)
  refine lv_aload_n hx hb dX10_alias_0 rfl (lv_at hl 0 rfl) ?_
  refine lv_iload_n hx hb dX10_alias_1 rfl (lv_at hl 1 rfl) ?_
  refine cg (wc := [(o, .inr (10, (dsF b)))]) (wr := []) [0] [] (rn_V (As := [.int p0]) (rest := []) (b := o) (c_searchAt l D Y Z H.size o b p0) ⟨hx, hb, hml, hown, hg⟩ lk_X10_259 ⟨CP.blind, va_recv hKN.1 hP (ci := 10) (q0 := 0) rfl rfl, CP.at (hP.sub [0] rfl) hKN (hD.sub [0] (by decide) rfl)⟩ ⟨⟨rfl, rfl⟩, ⟨Nat.le_of_ble_eq_true rfl, Nat.le_of_ble_eq_true rfl⟩, ⟨Nat.le_of_ble_eq_true rfl, Nat.le_of_ble_eq_true rfl⟩⟩ hl.1 rfl (Nat.le_of_ble_eq_true rfl) dX10_alias_2) hP hD hS hA rfl rfl (by decide) (by decide) (fun u1 H locs w2 hP hD hS => ?_)
  refine W.eq (g2 := F0 m 5 ls [.null]) rfl ?_
  have hP : va_P D vwCl [(o, .inr (10, (dsF b)))] H := hP
  have hD : va_D A [(o, .inr (10, (dsF b)))] := hD
  refine lv_ifnullN (tgt := 25) hx hb dX10_alias_5 (by decide) ?_
  refine lv_ldc2 (v := (-1)) hx hb hown (hg _ kw_899) dX10_alias_25 ?_
  refine W.widen (k := 0) (n := 0) (Nat.le_of_ble_eq_true rfl) (Nat.le_of_ble_eq_true rfl) ?_
  exact W.lret (v := (-1)) hx hb hr (fun t ht hW => ⟨⟨(), rfl, trivial, CB.nil⟩, hS.F ht⟩) hS.2.2 dX10_alias_28
set_option maxHeartbeats 4000000 in
set_option maxRecDepth 100000 in
theorem y_alias (l : Launch) (D : va_G) (Y : Nat → ClassId) (Z : Nat → Nat) (sz : Nat) (o : Nat) (a : Nat → Nat) (p0 p1 p2 : Int32) : Met l yX11_alias (.code yX11_alias cX11_alias 10 (some .long) :: GW) ({ frames := 1, cells := 0, slots := 0, locals := 22 }) (va_Pc [.ref o, .int p0, .int p1, .int p2] (CP D Y Z [(o, .inr (11, (moF a))), ((a 3), .inl (Y 0, 3, .inl (fun _ => 0)))] sz)) (QG (S := Unit) (fun _ => some (.long (-1))) (fun _ => True) (fun u => CB D ((fun _ => []) u) (va_A [(o, .inr (11, (moF a))), ((a 3), .inl (Y 0, 3, .inl (fun _ => 0)))] sz)) (va_A [(o, .inr (11, (moF a))), ((a 3), .inl (Y 0, 3, .inl (fun _ => 0)))] sz)) 0 0 (va_A [(o, .inr (11, (moF a))), ((a 3), .inl (Y 0, 3, .inl (fun _ => 0)))] sz) := by
  refine Met.ofW (cc := cX11_alias) (maxL := 10) (ret := (some .long)) (by decide) rfl ?_
  intro p e s m args below meth c s₁ B hml hv
  obtain ⟨rfl, hsz, hP, hKN, hD0⟩ := hv
  have hx := B.exec
  have hb := B.bytes
  have hr := B.returns
  have hts := atoms_spec (ws := .code yX11_alias cX11_alias 10 (some .long) :: GW) B.pre
  have hg : ∀ w ∈ GW, w.before _ s = true := fun w h => hts w (List.mem_cons_of_mem _ h)
  have hown : s.vm.findClass RX11 = some m.cls := findClass_of_methodNamed B.named
  have hlocks := B.notSynchronized
  subst hsz
  have hD := hD0.self (sz := s.heap.size)
  generalize hAe : va_A [(o, .inr (11, (moF a))), ((a 3), .inl (Y 0, 3, .inl (fun _ => 0)))] s.heap.size = A at hD ⊢
  have hA : ∀ q : Nat, s.heap.size ≤ q → A q := fun q h => by rw [← hAe]; exact Or.inr h
  have hl := lv_entry ([.ref o, .int p0, .int p1, .int p2]) (n := 10) (Nat.le_of_ble_eq_true rfl)
  rw [lg_entry_eq]
  generalize (lg_sl ([.ref o, .int p0, .int p1, .int p2]) ++ List.replicate (10 - (lg_sl ([.ref o, .int p0, .int p1, .int p2])).length) Slot.unset).toArray = ls at hl ⊢
  have hl : lv_has ls 10 [(0, .ref o), (1, .int p0), (2, .int p1), (3, .int p2)] := hl
  refine w_start (A0 := A) hP (fun H locs hP hS => ?_)
  refine lv_aload_n hx hb dX11_alias_0 rfl (lv_at hl 0 rfl) ?_
  refine lv_iconst (v := 1) hx hb dX11_alias_1 (by decide) ?_
  refine lv_iload_n hx hb dX11_alias_2 rfl (lv_at hl 1 rfl) ?_
  refine cg (wc := [(o, .inr (11, (moF a))), ((a 3), .inl (Y 0, 3, .inl (fun _ => 0)))]) (wr := []) [0, 1] [] (rn_V (As := [.int 1, .int p0]) (rest := []) (b := o) (m_isText1 l D Y Z H.size o a p0) ⟨hx, hb, hml, hown, hg⟩ lk_X11_366 ⟨CP.blind, va_recv hKN.1 hP (ci := 11) (q0 := 0) rfl rfl, CP.at (hP.sub [0, 1] rfl) hKN (hD.sub [0, 1] (by decide) rfl)⟩ ⟨⟨rfl, rfl⟩, ⟨Nat.le_of_ble_eq_true rfl, Nat.le_of_ble_eq_true rfl⟩, ⟨Nat.le_of_ble_eq_true rfl, Nat.le_of_ble_eq_true rfl⟩⟩ hl.1 rfl (Nat.le_of_ble_eq_true rfl) dX11_alias_3) hP hD hS hA rfl rfl (by decide) (by decide) (fun u1 H locs w2 hP hD hS => ?_)
  refine W.eq (g2 := F0 m 6 ls [.int 0]) rfl ?_
  have hP : va_P D vwCl [(o, .inr (11, (moF a))), ((a 3), .inl (Y 0, 3, .inl (fun _ => 0)))] H := hP
  have hD : va_D A [(o, .inr (11, (moF a))), ((a 3), .inl (Y 0, 3, .inl (fun _ => 0)))] := hD
  refine lv_if_eq (tgt := 29) hx hb dX11_alias_6 (by decide) (fun c3 => ?_) (fun c3 => ?_)
  rotate_left
  · exact absurd c3 (by decide)
  refine lv_ldc2 (v := (-1)) hx hb hown (hg _ kw_1650) dX11_alias_29 ?_
  refine W.widen (k := 0) (n := 0) (Nat.le_of_ble_eq_true rfl) (Nat.le_of_ble_eq_true rfl) ?_
  exact W.lret (v := (-1)) hx hb hr (fun t ht hW => ⟨⟨(), rfl, trivial, CB.nil⟩, hS.F ht⟩) hS.2.2 dX11_alias_32
set_option maxHeartbeats 4000000 in
set_option maxRecDepth 100000 in
theorem x_radius (l : Launch) (D : va_G) (Y : Nat → ClassId) (Z : Nat → Nat) (sz : Nat) (o : Nat) (b : Nat → Nat) (p0 p1 : Int32) : Met l yX10_radius (.code yX10_radius cX10_radius 4 (some .int) :: GW) ({ frames := 2, cells := 0, slots := 0, locals := 43 }) (va_Pc [.ref o, .int p0, .int p1] (CP D Y Z [(o, .inr (10, (dsF b)))] sz)) (QG (S := Unit) (fun _ => some (.int (-1))) (fun _ => True) (fun u => CB D ((fun _ => []) u) (va_A [(o, .inr (10, (dsF b)))] sz)) (va_A [(o, .inr (10, (dsF b)))] sz)) 0 0 (va_A [(o, .inr (10, (dsF b)))] sz) := by
  refine Met.ofW (cc := cX10_radius) (maxL := 4) (ret := (some .int)) (by decide) rfl ?_
  intro p e s m args below meth c s₁ B hml hv
  obtain ⟨rfl, hsz, hP, hKN, hD0⟩ := hv
  have hx := B.exec
  have hb := B.bytes
  have hr := B.returns
  have hts := atoms_spec (ws := .code yX10_radius cX10_radius 4 (some .int) :: GW) B.pre
  have hg : ∀ w ∈ GW, w.before _ s = true := fun w h => hts w (List.mem_cons_of_mem _ h)
  have hown : s.vm.findClass RX10 = some m.cls := findClass_of_methodNamed B.named
  have hlocks := B.notSynchronized
  subst hsz
  have hD := hD0.self (sz := s.heap.size)
  generalize hAe : va_A [(o, .inr (10, (dsF b)))] s.heap.size = A at hD ⊢
  have hA : ∀ q : Nat, s.heap.size ≤ q → A q := fun q h => by rw [← hAe]; exact Or.inr h
  have hl := lv_entry ([.ref o, .int p0, .int p1]) (n := 4) (Nat.le_of_ble_eq_true rfl)
  rw [lg_entry_eq]
  generalize (lg_sl ([.ref o, .int p0, .int p1]) ++ List.replicate (4 - (lg_sl ([.ref o, .int p0, .int p1])).length) Slot.unset).toArray = ls at hl ⊢
  have hl : lv_has ls 4 [(0, .ref o), (1, .int p0), (2, .int p1)] := hl
  refine w_start (A0 := A) hP (fun H locs hP hS => ?_)
  refine lv_aload_n hx hb dX10_radius_0 rfl (lv_at hl 0 rfl) ?_
  refine lv_iload_n hx hb dX10_radius_1 rfl (lv_at hl 1 rfl) ?_
  refine cg (wc := [(o, .inr (10, (dsF b)))]) (wr := []) [0] [] (rn_V (As := [.int p0]) (rest := []) (b := o) (c_searchAt l D Y Z H.size o b p0) ⟨hx, hb, hml, hown, hg⟩ lk_X10_259 ⟨CP.blind, va_recv hKN.1 hP (ci := 10) (q0 := 0) rfl rfl, CP.at (hP.sub [0] rfl) hKN (hD.sub [0] (by decide) rfl)⟩ ⟨⟨rfl, rfl⟩, ⟨Nat.le_of_ble_eq_true rfl, Nat.le_of_ble_eq_true rfl⟩, ⟨Nat.le_of_ble_eq_true rfl, Nat.le_of_ble_eq_true rfl⟩⟩ hl.1 rfl (Nat.le_of_ble_eq_true rfl) dX10_radius_2) hP hD hS hA rfl rfl (by decide) (by decide) (fun u1 H locs w2 hP hD hS => ?_)
  refine W.eq (g2 := F0 m 5 ls [.null]) rfl ?_
  have hP : va_P D vwCl [(o, .inr (10, (dsF b)))] H := hP
  have hD : va_D A [(o, .inr (10, (dsF b)))] := hD
  refine lv_ifnullN (tgt := 16) hx hb dX10_radius_5 (by decide) ?_
  refine lv_iconst (v := (-1)) hx hb dX10_radius_16 (by decide) ?_
  refine W.widen (k := 0) (n := 0) (Nat.le_of_ble_eq_true rfl) (Nat.le_of_ble_eq_true rfl) ?_
  exact W.iret (v := (-1)) hx hb hr (fun t ht hW => ⟨⟨(), rfl, trivial, CB.nil⟩, hS.F ht⟩) hS.2.2 dX10_radius_17
set_option maxHeartbeats 4000000 in
set_option maxRecDepth 100000 in
theorem y_radius (l : Launch) (D : va_G) (Y : Nat → ClassId) (Z : Nat → Nat) (sz : Nat) (o : Nat) (a : Nat → Nat) (p0 p1 : Int32) : Met l yX11_radius (.code yX11_radius cX11_radius 3 (some .int) :: GW) ({ frames := 1, cells := 0, slots := 0, locals := 22 }) (va_Pc [.ref o, .int p0, .int p1] (CP D Y Z [(o, .inr (11, (moF a))), ((a 3), .inl (Y 0, 3, .inl (fun _ => 0)))] sz)) (QG (S := Unit) (fun _ => some (.int (-1))) (fun _ => True) (fun u => CB D ((fun _ => []) u) (va_A [(o, .inr (11, (moF a))), ((a 3), .inl (Y 0, 3, .inl (fun _ => 0)))] sz)) (va_A [(o, .inr (11, (moF a))), ((a 3), .inl (Y 0, 3, .inl (fun _ => 0)))] sz)) 0 0 (va_A [(o, .inr (11, (moF a))), ((a 3), .inl (Y 0, 3, .inl (fun _ => 0)))] sz) := by
  refine Met.ofW (cc := cX11_radius) (maxL := 3) (ret := (some .int)) (by decide) rfl ?_
  intro p e s m args below meth c s₁ B hml hv
  obtain ⟨rfl, hsz, hP, hKN, hD0⟩ := hv
  have hx := B.exec
  have hb := B.bytes
  have hr := B.returns
  have hts := atoms_spec (ws := .code yX11_radius cX11_radius 3 (some .int) :: GW) B.pre
  have hg : ∀ w ∈ GW, w.before _ s = true := fun w h => hts w (List.mem_cons_of_mem _ h)
  have hown : s.vm.findClass RX11 = some m.cls := findClass_of_methodNamed B.named
  have hlocks := B.notSynchronized
  subst hsz
  have hD := hD0.self (sz := s.heap.size)
  generalize hAe : va_A [(o, .inr (11, (moF a))), ((a 3), .inl (Y 0, 3, .inl (fun _ => 0)))] s.heap.size = A at hD ⊢
  have hA : ∀ q : Nat, s.heap.size ≤ q → A q := fun q h => by rw [← hAe]; exact Or.inr h
  have hl := lv_entry ([.ref o, .int p0, .int p1]) (n := 3) (Nat.le_of_ble_eq_true rfl)
  rw [lg_entry_eq]
  generalize (lg_sl ([.ref o, .int p0, .int p1]) ++ List.replicate (3 - (lg_sl ([.ref o, .int p0, .int p1])).length) Slot.unset).toArray = ls at hl ⊢
  have hl : lv_has ls 3 [(0, .ref o), (1, .int p0), (2, .int p1)] := hl
  refine w_start (A0 := A) hP (fun H locs hP hS => ?_)
  refine lv_aload_n hx hb dX11_radius_0 rfl (lv_at hl 0 rfl) ?_
  refine lv_iconst (v := 1) hx hb dX11_radius_1 (by decide) ?_
  refine lv_iload_n hx hb dX11_radius_2 rfl (lv_at hl 1 rfl) ?_
  refine cg (wc := [(o, .inr (11, (moF a))), ((a 3), .inl (Y 0, 3, .inl (fun _ => 0)))]) (wr := []) [0, 1] [] (rn_V (As := [.int 1, .int p0]) (rest := []) (b := o) (m_isText1 l D Y Z H.size o a p0) ⟨hx, hb, hml, hown, hg⟩ lk_X11_366 ⟨CP.blind, va_recv hKN.1 hP (ci := 11) (q0 := 0) rfl rfl, CP.at (hP.sub [0, 1] rfl) hKN (hD.sub [0, 1] (by decide) rfl)⟩ ⟨⟨rfl, rfl⟩, ⟨Nat.le_of_ble_eq_true rfl, Nat.le_of_ble_eq_true rfl⟩, ⟨Nat.le_of_ble_eq_true rfl, Nat.le_of_ble_eq_true rfl⟩⟩ hl.1 rfl (Nat.le_of_ble_eq_true rfl) dX11_radius_3) hP hD hS hA rfl rfl (by decide) (by decide) (fun u1 H locs w2 hP hD hS => ?_)
  refine W.eq (g2 := F0 m 6 ls [.int 0]) rfl ?_
  have hP : va_P D vwCl [(o, .inr (11, (moF a))), ((a 3), .inl (Y 0, 3, .inl (fun _ => 0)))] H := hP
  have hD : va_D A [(o, .inr (11, (moF a))), ((a 3), .inl (Y 0, 3, .inl (fun _ => 0)))] := hD
  refine lv_if_eq (tgt := 17) hx hb dX11_radius_6 (by decide) (fun c3 => ?_) (fun c3 => ?_)
  rotate_left
  · exact absurd c3 (by decide)
  refine lv_iconst (v := (-1)) hx hb dX11_radius_17 (by decide) ?_
  refine W.widen (k := 0) (n := 0) (Nat.le_of_ble_eq_true rfl) (Nat.le_of_ble_eq_true rfl) ?_
  exact W.iret (v := (-1)) hx hb hr (fun t ht hW => ⟨⟨(), rfl, trivial, CB.nil⟩, hS.F ht⟩) hS.2.2 dX11_radius_18
set_option maxHeartbeats 4000000 in
set_option maxRecDepth 100000 in
theorem x_many (l : Launch) (D : va_G) (Y : Nat → ClassId) (Z : Nat → Nat) (sz : Nat) (o : Nat) (b : Nat → Nat) (p0 p1 p2 p3 p4 : Int32) : Met l yX10_many (.code yX10_many cX10_many 12 (some .int) :: GW) ({ frames := 2, cells := 0, slots := 0, locals := 43 }) (va_Pc [.ref o, .int p0, .int p1, .int p2, .int p3, .int p4] (CP D Y Z [(o, .inr (10, (dsF b)))] sz)) (QG (S := Unit) (fun _ => some (.int (-1))) (fun _ => True) (fun u => CB D ((fun _ => []) u) (va_A [(o, .inr (10, (dsF b)))] sz)) (va_A [(o, .inr (10, (dsF b)))] sz)) 0 0 (va_A [(o, .inr (10, (dsF b)))] sz) := by
  refine Met.ofW (cc := cX10_many) (maxL := 12) (ret := (some .int)) (by decide) rfl ?_
  intro p e s m args below meth c s₁ B hml hv
  obtain ⟨rfl, hsz, hP, hKN, hD0⟩ := hv
  have hx := B.exec
  have hb := B.bytes
  have hr := B.returns
  have hts := atoms_spec (ws := .code yX10_many cX10_many 12 (some .int) :: GW) B.pre
  have hg : ∀ w ∈ GW, w.before _ s = true := fun w h => hts w (List.mem_cons_of_mem _ h)
  have hown : s.vm.findClass RX10 = some m.cls := findClass_of_methodNamed B.named
  have hlocks := B.notSynchronized
  subst hsz
  have hD := hD0.self (sz := s.heap.size)
  generalize hAe : va_A [(o, .inr (10, (dsF b)))] s.heap.size = A at hD ⊢
  have hA : ∀ q : Nat, s.heap.size ≤ q → A q := fun q h => by rw [← hAe]; exact Or.inr h
  have hl := lv_entry ([.ref o, .int p0, .int p1, .int p2, .int p3, .int p4]) (n := 12) (Nat.le_of_ble_eq_true rfl)
  rw [lg_entry_eq]
  generalize (lg_sl ([.ref o, .int p0, .int p1, .int p2, .int p3, .int p4]) ++ List.replicate (12 - (lg_sl ([.ref o, .int p0, .int p1, .int p2, .int p3, .int p4])).length) Slot.unset).toArray = ls at hl ⊢
  have hl : lv_has ls 12 [(0, .ref o), (1, .int p0), (2, .int p1), (3, .int p2), (4, .int p3), (5, .int p4)] := hl
  refine w_start (A0 := A) hP (fun H locs hP hS => ?_)
  refine lv_aload_n hx hb dX10_many_0 rfl (lv_at hl 0 rfl) ?_
  refine lv_iload_n hx hb dX10_many_1 rfl (lv_at hl 1 rfl) ?_
  refine cg (wc := [(o, .inr (10, (dsF b)))]) (wr := []) [0] [] (rn_V (As := [.int p0]) (rest := []) (b := o) (c_searchAt l D Y Z H.size o b p0) ⟨hx, hb, hml, hown, hg⟩ lk_X10_259 ⟨CP.blind, va_recv hKN.1 hP (ci := 10) (q0 := 0) rfl rfl, CP.at (hP.sub [0] rfl) hKN (hD.sub [0] (by decide) rfl)⟩ ⟨⟨rfl, rfl⟩, ⟨Nat.le_of_ble_eq_true rfl, Nat.le_of_ble_eq_true rfl⟩, ⟨Nat.le_of_ble_eq_true rfl, Nat.le_of_ble_eq_true rfl⟩⟩ hl.1 rfl (Nat.le_of_ble_eq_true rfl) dX10_many_2) hP hD hS hA rfl rfl (by decide) (by decide) (fun u1 H locs w2 hP hD hS => ?_)
  refine W.eq (g2 := F0 m 5 ls [.null]) rfl ?_
  have hP : va_P D vwCl [(o, .inr (10, (dsF b)))] H := hP
  have hD : va_D A [(o, .inr (10, (dsF b)))] := hD
  refine lv_astoreN (lv' := [(6, .null), (0, .ref o), (1, .int p0), (2, .int p1), (3, .int p2), (4, .int p3), (5, .int p4)]) hx hb dX10_many_5 hl (by decide) rfl (fun ls hl => ?_)
  refine lv_iload_n hx hb dX10_many_7 rfl (lv_at hl 4 rfl) ?_
  refine lv_if_lt (tgt := 31) hx hb dX10_many_8 (by decide) (fun c3 => ?_) (fun c3 => ?_)
  · skip
    have c3 := i_lt (Eq.refl (p2).toInt) (show (0 : Int32).toInt = 0 by decide) c3
    refine lv_iconst (v := 0) hx hb dX10_many_31 (by decide) ?_
    refine lv_istore (lv' := [(7, .int 0), (6, .null), (0, .ref o), (1, .int p0), (2, .int p1), (3, .int p2), (4, .int p3), (5, .int p4)]) hx hb dX10_many_32 hl (by decide) rfl (fun ls hl => ?_)
    refine lv_aloadN hx hb dX10_many_34 (lv_at hl 1 rfl) ?_
    refine lv_ifnullN (tgt := 52) hx hb dX10_many_36 (by decide) ?_
    refine lv_iconst (v := (-1)) hx hb dX10_many_52 (by decide) ?_
    refine W.widen (k := 0) (n := 0) (Nat.le_of_ble_eq_true rfl) (Nat.le_of_ble_eq_true rfl) ?_
    exact W.iret (v := (-1)) hx hb hr (fun t ht hW => ⟨⟨(), rfl, trivial, CB.nil⟩, hS.F ht⟩) hS.2.2 dX10_many_53
  · skip
    have c3 := i_nlt (Eq.refl (p2).toInt) (show (0 : Int32).toInt = 0 by decide) c3
    refine lv_iload_n hx hb dX10_many_11 rfl (lv_at hl 4 rfl) ?_
    refine lv_iload hx hb dX10_many_12 (lv_at hl 5 rfl) ?_
    refine lv_icmp_gt (tgt := 31) hx hb dX10_many_14 (by decide) (fun c4 => ?_) (fun c4 => ?_)
    · skip
      have c4 := i_lt (Eq.refl (p3).toInt) (Eq.refl (p2).toInt) c4
      refine lv_iconst (v := 0) hx hb dX10_many_31 (by decide) ?_
      refine lv_istore (lv' := [(7, .int 0), (6, .null), (0, .ref o), (1, .int p0), (2, .int p1), (3, .int p2), (4, .int p3), (5, .int p4)]) hx hb dX10_many_32 hl (by decide) rfl (fun ls hl => ?_)
      refine lv_aloadN hx hb dX10_many_34 (lv_at hl 1 rfl) ?_
      refine lv_ifnullN (tgt := 52) hx hb dX10_many_36 (by decide) ?_
      refine lv_iconst (v := (-1)) hx hb dX10_many_52 (by decide) ?_
      refine W.widen (k := 0) (n := 0) (Nat.le_of_ble_eq_true rfl) (Nat.le_of_ble_eq_true rfl) ?_
      exact W.iret (v := (-1)) hx hb hr (fun t ht hW => ⟨⟨(), rfl, trivial, CB.nil⟩, hS.F ht⟩) hS.2.2 dX10_many_53
    · skip
      have c4 := i_nlt (Eq.refl (p3).toInt) (Eq.refl (p2).toInt) c4
      refine lv_iload hx hb dX10_many_17 (lv_at hl 6 rfl) ?_
      refine lv_iconst (v := 0) hx hb dX10_many_19 (by decide) ?_
      refine lv_iconst (v := 1) hx hb dX10_many_20 (by decide) ?_
      refine cg0 (rn_S (As := [.int p4, .int 0, .int 1]) (rest := []) (c_isWithin l D Y Z H.size p4 0 1 (0) (1) (by decide) (by decide)) ⟨hx, hb, hml, hown, hg⟩ lk_X10_100 ⟨CP.blind, CP.at nilP hKN (nilD (A := fun _ => True))⟩ ⟨⟨rfl, rfl⟩, ⟨Nat.le_of_ble_eq_true rfl, Nat.le_of_ble_eq_true rfl⟩, ⟨Nat.le_of_ble_eq_true rfl, Nat.le_of_ble_eq_true rfl⟩⟩ hl.1 rfl (Nat.le_of_ble_eq_true rfl) dX10_many_21) hP hS hA (fun u5 H locs w6 hP hS => ?_)
      rcases w6 with ⟨w6, rfl⟩ | ⟨w6, rfl⟩
      · skip
        refine W.eq (g2 := F0 m 24 ls [.int 1]) rfl ?_
        refine lv_if_eq (tgt := 31) hx hb dX10_many_24 (by decide) (fun c7 => ?_) (fun c7 => ?_)
        · exact absurd c7 (by decide)
        refine lv_iconst (v := 1) hx hb dX10_many_27 (by decide) ?_
        refine lv_goto (tgt := 32) hx hb dX10_many_28 (by decide) ?_
        refine lv_istore (lv' := [(7, .int 1), (6, .null), (0, .ref o), (1, .int p0), (2, .int p1), (3, .int p2), (4, .int p3), (5, .int p4)]) hx hb dX10_many_32 hl (by decide) rfl (fun ls hl => ?_)
        refine lv_aloadN hx hb dX10_many_34 (lv_at hl 1 rfl) ?_
        refine lv_ifnullN (tgt := 52) hx hb dX10_many_36 (by decide) ?_
        refine lv_iconst (v := (-1)) hx hb dX10_many_52 (by decide) ?_
        refine W.widen (k := 0) (n := 0) (Nat.le_of_ble_eq_true rfl) (Nat.le_of_ble_eq_true rfl) ?_
        exact W.iret (v := (-1)) hx hb hr (fun t ht hW => ⟨⟨(), rfl, trivial, CB.nil⟩, hS.F ht⟩) hS.2.2 dX10_many_53
      · skip
        refine W.eq (g2 := F0 m 24 ls [.int 0]) rfl ?_
        refine lv_if_eq (tgt := 31) hx hb dX10_many_24 (by decide) (fun c8 => ?_) (fun c8 => ?_)
        rotate_left
        · exact absurd c8 (by decide)
        refine lv_iconst (v := 0) hx hb dX10_many_31 (by decide) ?_
        refine lv_istore (lv' := [(7, .int 0), (6, .null), (0, .ref o), (1, .int p0), (2, .int p1), (3, .int p2), (4, .int p3), (5, .int p4)]) hx hb dX10_many_32 hl (by decide) rfl (fun ls hl => ?_)
        refine lv_aloadN hx hb dX10_many_34 (lv_at hl 1 rfl) ?_
        refine lv_ifnullN (tgt := 52) hx hb dX10_many_36 (by decide) ?_
        refine lv_iconst (v := (-1)) hx hb dX10_many_52 (by decide) ?_
        refine W.widen (k := 0) (n := 0) (Nat.le_of_ble_eq_true rfl) (Nat.le_of_ble_eq_true rfl) ?_
        exact W.iret (v := (-1)) hx hb hr (fun t ht hW => ⟨⟨(), rfl, trivial, CB.nil⟩, hS.F ht⟩) hS.2.2 dX10_many_53
set_option maxHeartbeats 4000000 in
set_option maxRecDepth 100000 in
theorem y_many (l : Launch) (D : va_G) (Y : Nat → ClassId) (Z : Nat → Nat) (sz : Nat) (o : Nat) (a : Nat → Nat) (p0 p1 p2 p3 p4 : Int32) : Met l yX11_many (.code yX11_many cX11_many 8 (some .int) :: GW) ({ frames := 1, cells := 0, slots := 0, locals := 22 }) (va_Pc [.ref o, .int p0, .int p1, .int p2, .int p3, .int p4] (CP D Y Z [(o, .inr (11, (moF a))), ((a 3), .inl (Y 0, 3, .inl (fun _ => 0)))] sz)) (QG (S := Unit) (fun _ => some (.int (-1))) (fun _ => True) (fun u => CB D ((fun _ => []) u) (va_A [(o, .inr (11, (moF a))), ((a 3), .inl (Y 0, 3, .inl (fun _ => 0)))] sz)) (va_A [(o, .inr (11, (moF a))), ((a 3), .inl (Y 0, 3, .inl (fun _ => 0)))] sz)) 0 0 (va_A [(o, .inr (11, (moF a))), ((a 3), .inl (Y 0, 3, .inl (fun _ => 0)))] sz) := by
  refine Met.ofW (cc := cX11_many) (maxL := 8) (ret := (some .int)) (by decide) rfl ?_
  intro p e s m args below meth c s₁ B hml hv
  obtain ⟨rfl, hsz, hP, hKN, hD0⟩ := hv
  have hx := B.exec
  have hb := B.bytes
  have hr := B.returns
  have hts := atoms_spec (ws := .code yX11_many cX11_many 8 (some .int) :: GW) B.pre
  have hg : ∀ w ∈ GW, w.before _ s = true := fun w h => hts w (List.mem_cons_of_mem _ h)
  have hown : s.vm.findClass RX11 = some m.cls := findClass_of_methodNamed B.named
  have hlocks := B.notSynchronized
  subst hsz
  have hD := hD0.self (sz := s.heap.size)
  generalize hAe : va_A [(o, .inr (11, (moF a))), ((a 3), .inl (Y 0, 3, .inl (fun _ => 0)))] s.heap.size = A at hD ⊢
  have hA : ∀ q : Nat, s.heap.size ≤ q → A q := fun q h => by rw [← hAe]; exact Or.inr h
  have hl := lv_entry ([.ref o, .int p0, .int p1, .int p2, .int p3, .int p4]) (n := 8) (Nat.le_of_ble_eq_true rfl)
  rw [lg_entry_eq]
  generalize (lg_sl ([.ref o, .int p0, .int p1, .int p2, .int p3, .int p4]) ++ List.replicate (8 - (lg_sl ([.ref o, .int p0, .int p1, .int p2, .int p3, .int p4])).length) Slot.unset).toArray = ls at hl ⊢
  have hl : lv_has ls 8 [(0, .ref o), (1, .int p0), (2, .int p1), (3, .int p2), (4, .int p3), (5, .int p4)] := hl
  refine w_start (A0 := A) hP (fun H locs hP hS => ?_)
  refine lv_aload_n hx hb dX11_many_0 rfl (lv_at hl 0 rfl) ?_
  refine lv_iconst (v := 1) hx hb dX11_many_1 (by decide) ?_
  refine lv_iload_n hx hb dX11_many_2 rfl (lv_at hl 1 rfl) ?_
  refine cg (wc := [(o, .inr (11, (moF a))), ((a 3), .inl (Y 0, 3, .inl (fun _ => 0)))]) (wr := []) [0, 1] [] (rn_V (As := [.int 1, .int p0]) (rest := []) (b := o) (m_isText1 l D Y Z H.size o a p0) ⟨hx, hb, hml, hown, hg⟩ lk_X11_366 ⟨CP.blind, va_recv hKN.1 hP (ci := 11) (q0 := 0) rfl rfl, CP.at (hP.sub [0, 1] rfl) hKN (hD.sub [0, 1] (by decide) rfl)⟩ ⟨⟨rfl, rfl⟩, ⟨Nat.le_of_ble_eq_true rfl, Nat.le_of_ble_eq_true rfl⟩, ⟨Nat.le_of_ble_eq_true rfl, Nat.le_of_ble_eq_true rfl⟩⟩ hl.1 rfl (Nat.le_of_ble_eq_true rfl) dX11_many_3) hP hD hS hA rfl rfl (by decide) (by decide) (fun u1 H locs w2 hP hD hS => ?_)
  refine W.eq (g2 := F0 m 6 ls [.int 0]) rfl ?_
  have hP : va_P D vwCl [(o, .inr (11, (moF a))), ((a 3), .inl (Y 0, 3, .inl (fun _ => 0)))] H := hP
  have hD : va_D A [(o, .inr (11, (moF a))), ((a 3), .inl (Y 0, 3, .inl (fun _ => 0)))] := hD
  refine lv_if_eq (tgt := 39) hx hb dX11_many_6 (by decide) (fun c3 => ?_) (fun c3 => ?_)
  rotate_left
  · exact absurd c3 (by decide)
  refine lv_iconst (v := (-1)) hx hb dX11_many_39 (by decide) ?_
  refine W.widen (k := 0) (n := 0) (Nat.le_of_ble_eq_true rfl) (Nat.le_of_ble_eq_true rfl) ?_
  exact W.iret (v := (-1)) hx hb hr (fun t ht hW => ⟨⟨(), rfl, trivial, CB.nil⟩, hS.F ht⟩) hS.2.2 dX11_many_40
set_option maxHeartbeats 4000000 in
set_option maxRecDepth 100000 in
theorem x_finest (l : Launch) (D : va_G) (Y : Nat → ClassId) (Z : Nat → Nat) (sz : Nat) (o : Nat) (b : Nat → Nat) : Met l yX10_finest (.code yX10_finest cX10_finest 9 (some .int) :: GW) ({ frames := 0, cells := 0, slots := 0, locals := 0 }) (va_Pc [.ref o] (CP D Y Z [(o, .inr (10, (dsF b)))] sz)) (QG (S := Unit) (fun _ => some (.int (-1))) (fun _ => True) (fun u => CB D ((fun _ => []) u) (va_A [(o, .inr (10, (dsF b)))] sz)) (va_A [(o, .inr (10, (dsF b)))] sz)) 0 0 (va_A [(o, .inr (10, (dsF b)))] sz) := by
  refine Met.ofW (cc := cX10_finest) (maxL := 9) (ret := (some .int)) (by decide) rfl ?_
  intro p e s m args below meth c s₁ B hml hv
  obtain ⟨rfl, hsz, hP, hKN, hD0⟩ := hv
  have hx := B.exec
  have hb := B.bytes
  have hr := B.returns
  have hts := atoms_spec (ws := .code yX10_finest cX10_finest 9 (some .int) :: GW) B.pre
  have hg : ∀ w ∈ GW, w.before _ s = true := fun w h => hts w (List.mem_cons_of_mem _ h)
  have hown : s.vm.findClass RX10 = some m.cls := findClass_of_methodNamed B.named
  have hlocks := B.notSynchronized
  subst hsz
  have hD := hD0.self (sz := s.heap.size)
  generalize hAe : va_A [(o, .inr (10, (dsF b)))] s.heap.size = A at hD ⊢
  have hA : ∀ q : Nat, s.heap.size ≤ q → A q := fun q h => by rw [← hAe]; exact Or.inr h
  have hl := lv_entry ([.ref o]) (n := 9) (Nat.le_of_ble_eq_true rfl)
  rw [lg_entry_eq]
  generalize (lg_sl ([.ref o]) ++ List.replicate (9 - (lg_sl ([.ref o])).length) Slot.unset).toArray = ls at hl ⊢
  have hl : lv_has ls 9 [(0, .ref o)] := hl
  refine w_start (A0 := A) hP (fun H locs hP hS => ?_)
  refine lv_iconst (v := (-1)) hx hb dX10_finest_0 (by decide) ?_
  refine lv_istore_n (lv' := [(1, .int (-1)), (0, .ref o)]) hx hb dX10_finest_1 rfl hl (by decide) rfl (fun ls hl => ?_)
  refine lv_iconst (v := 0) hx hb dX10_finest_2 (by decide) ?_
  refine lv_istore_n (lv' := [(2, .int 0), (1, .int (-1)), (0, .ref o)]) hx hb dX10_finest_3 rfl hl (by decide) rfl (fun ls hl => ?_)
  refine lv_iconst (v := 0) hx hb dX10_finest_4 (by decide) ?_
  refine lv_istore_n (lv' := [(3, .int 0), (2, .int 0), (1, .int (-1)), (0, .ref o)]) hx hb dX10_finest_5 rfl hl (by decide) rfl (fun ls hl => ?_)
  refine lv_iconst (v := 0) hx hb dX10_finest_6 (by decide) ?_
  refine lv_istore (lv' := [(4, .int 0), (3, .int 0), (2, .int 0), (1, .int (-1)), (0, .ref o)]) hx hb dX10_finest_7 hl (by decide) rfl (fun ls hl => ?_)
  refine lv_iload hx hb dX10_finest_9 (lv_at hl 0 rfl) ?_
  refine lv_aload_n hx hb dX10_finest_11 rfl (lv_at hl 4 rfl) ?_
  refine va_get (D := D) (ci := 10) (v := .int 0) (C := RX10) (T := TX10) (N := 20) hx hb hg inGX10 hown hKN.1 hP 0 rfl rfl 6 (by decide) (hg _ kw_355) (fun _ h9 => h9) rfl dX10_finest_12 ?_
  refine lv_icmp_ge (tgt := 101) hx hb dX10_finest_15 (by decide) (fun c1 => ?_) (fun c1 => ?_)
  rotate_left
  · exact absurd c1 (by decide)
  refine lv_iload_n hx hb dX10_finest_101 rfl (lv_at hl 3 rfl) ?_
  refine W.widen (k := 0) (n := 0) (Nat.le_of_ble_eq_true rfl) (Nat.le_of_ble_eq_true rfl) ?_
  exact W.iret (v := (-1)) hx hb hr (fun t ht hW => ⟨⟨(), rfl, trivial, CB.nil⟩, hS.F ht⟩) hS.2.2 dX10_finest_102
set_option maxHeartbeats 4000000 in
set_option maxRecDepth 100000 in
theorem y_finest (l : Launch) (D : va_G) (Y : Nat → ClassId) (Z : Nat → Nat) (sz : Nat) (o : Nat) (a : Nat → Nat) : Met l yX11_finest (.code yX11_finest cX11_finest 8 (some .int) :: GW) ({ frames := 0, cells := 0, slots := 0, locals := 0 }) (va_Pc [.ref o] (CP D Y Z [(o, .inr (11, (moF a))), ((a 3), .inl (Y 0, 3, .inl (fun _ => 0)))] sz)) (QG (S := Unit) (fun _ => some (.int (-1))) (fun _ => True) (fun u => CB D ((fun _ => []) u) (va_A [(o, .inr (11, (moF a))), ((a 3), .inl (Y 0, 3, .inl (fun _ => 0)))] sz)) (va_A [(o, .inr (11, (moF a))), ((a 3), .inl (Y 0, 3, .inl (fun _ => 0)))] sz)) 0 0 (va_A [(o, .inr (11, (moF a))), ((a 3), .inl (Y 0, 3, .inl (fun _ => 0)))] sz) := by
  refine Met.ofW (cc := cX11_finest) (maxL := 8) (ret := (some .int)) (by decide) rfl ?_
  intro p e s m args below meth c s₁ B hml hv
  obtain ⟨rfl, hsz, hP, hKN, hD0⟩ := hv
  have hx := B.exec
  have hb := B.bytes
  have hr := B.returns
  have hts := atoms_spec (ws := .code yX11_finest cX11_finest 8 (some .int) :: GW) B.pre
  have hg : ∀ w ∈ GW, w.before _ s = true := fun w h => hts w (List.mem_cons_of_mem _ h)
  have hown : s.vm.findClass RX11 = some m.cls := findClass_of_methodNamed B.named
  have hlocks := B.notSynchronized
  subst hsz
  have hD := hD0.self (sz := s.heap.size)
  generalize hAe : va_A [(o, .inr (11, (moF a))), ((a 3), .inl (Y 0, 3, .inl (fun _ => 0)))] s.heap.size = A at hD ⊢
  have hA : ∀ q : Nat, s.heap.size ≤ q → A q := fun q h => by rw [← hAe]; exact Or.inr h
  have hl := lv_entry ([.ref o]) (n := 8) (Nat.le_of_ble_eq_true rfl)
  rw [lg_entry_eq]
  generalize (lg_sl ([.ref o]) ++ List.replicate (8 - (lg_sl ([.ref o])).length) Slot.unset).toArray = ls at hl ⊢
  have hl : lv_has ls 8 [(0, .ref o)] := hl
  refine w_start (A0 := A) hP (fun H locs hP hS => ?_)
  refine lv_iconst (v := (-1)) hx hb dX11_finest_0 (by decide) ?_
  refine lv_istore_n (lv' := [(1, .int (-1)), (0, .ref o)]) hx hb dX11_finest_1 rfl hl (by decide) rfl (fun ls hl => ?_)
  refine lv_iconst (v := 0) hx hb dX11_finest_2 (by decide) ?_
  refine lv_istore_n (lv' := [(2, .int 0), (1, .int (-1)), (0, .ref o)]) hx hb dX11_finest_3 rfl hl (by decide) rfl (fun ls hl => ?_)
  refine lv_iconst (v := 0) hx hb dX11_finest_4 (by decide) ?_
  refine lv_istore_n (lv' := [(3, .int 0), (2, .int 0), (1, .int (-1)), (0, .ref o)]) hx hb dX11_finest_5 rfl hl (by decide) rfl (fun ls hl => ?_)
  refine lv_iconst (v := 0) hx hb dX11_finest_6 (by decide) ?_
  refine lv_istore (lv' := [(4, .int 0), (3, .int 0), (2, .int 0), (1, .int (-1)), (0, .ref o)]) hx hb dX11_finest_7 hl (by decide) rfl (fun ls hl => ?_)
  refine lv_iload hx hb dX11_finest_9 (lv_at hl 0 rfl) ?_
  refine lv_aload_n hx hb dX11_finest_11 rfl (lv_at hl 4 rfl) ?_
  refine va_get (D := D) (ci := 11) (v := .ref (a 3)) (C := RX11) (T := TX11) (N := 49) hx hb hg inGX11 hown hKN.1 hP 0 rfl rfl 4 (by decide) (hg _ kw_1212) (fun _ h9 => h9) rfl dX11_finest_12 ?_
  refine lv_iconst (v := 1) hx hb dX11_finest_15 (by decide) ?_
  refine va_iald hx hb hKN.1 hP 1 0 rfl rfl (show ¬ ((1 : Int32) < 0 ∨ 3 ≤ (1 : Int32).toNatClampNeg) by decide) dX11_finest_16 ?_
  refine lv_topi (fun z1 ez1 => ?_)
  obtain rfl : z1 = 0 := ez1.trans (by rfl)
  refine lv_icmp_ge (tgt := 122) hx hb dX11_finest_17 (by decide) (fun c2 => ?_) (fun c2 => ?_)
  rotate_left
  · exact absurd c2 (by decide)
  refine lv_iload_n hx hb dX11_finest_122 rfl (lv_at hl 3 rfl) ?_
  refine W.widen (k := 0) (n := 0) (Nat.le_of_ble_eq_true rfl) (Nat.le_of_ble_eq_true rfl) ?_
  exact W.iret (v := (-1)) hx hb hr (fun t ht hW => ⟨⟨(), rfl, trivial, CB.nil⟩, hS.F ht⟩) hS.2.2 dX11_finest_123
set_option maxHeartbeats 4000000 in
set_option maxRecDepth 100000 in
theorem x_room (l : Launch) (D : va_G) (Y : Nat → ClassId) (Z : Nat → Nat) (sz : Nat) (o : Nat) (b : Nat → Nat) (p0 p1 : Int32) : Met l yX10_room (.code yX10_room cX10_room 5 (some .int) :: GW) ({ frames := 2, cells := 0, slots := 0, locals := 43 }) (va_Pc [.ref o, .int p0, .int p1] (CP D Y Z [(o, .inr (10, (dsF b))), ((b 0), .inr (6, (skF b)))] sz)) (QG (S := Unit) (fun _ => some (.int (-1))) (fun _ => True) (fun u => CB D ((fun _ => []) u) (va_A [(o, .inr (10, (dsF b))), ((b 0), .inr (6, (skF b)))] sz)) (va_A [(o, .inr (10, (dsF b))), ((b 0), .inr (6, (skF b)))] sz)) 0 0 (va_A [(o, .inr (10, (dsF b))), ((b 0), .inr (6, (skF b)))] sz) := by
  refine Met.ofW (cc := cX10_room) (maxL := 5) (ret := (some .int)) (by decide) rfl ?_
  intro p e s m args below meth c s₁ B hml hv
  obtain ⟨rfl, hsz, hP, hKN, hD0⟩ := hv
  have hx := B.exec
  have hb := B.bytes
  have hr := B.returns
  have hts := atoms_spec (ws := .code yX10_room cX10_room 5 (some .int) :: GW) B.pre
  have hg : ∀ w ∈ GW, w.before _ s = true := fun w h => hts w (List.mem_cons_of_mem _ h)
  have hown : s.vm.findClass RX10 = some m.cls := findClass_of_methodNamed B.named
  have hlocks := B.notSynchronized
  subst hsz
  have hD := hD0.self (sz := s.heap.size)
  generalize hAe : va_A [(o, .inr (10, (dsF b))), ((b 0), .inr (6, (skF b)))] s.heap.size = A at hD ⊢
  have hA : ∀ q : Nat, s.heap.size ≤ q → A q := fun q h => by rw [← hAe]; exact Or.inr h
  have hl := lv_entry ([.ref o, .int p0, .int p1]) (n := 5) (Nat.le_of_ble_eq_true rfl)
  rw [lg_entry_eq]
  generalize (lg_sl ([.ref o, .int p0, .int p1]) ++ List.replicate (5 - (lg_sl ([.ref o, .int p0, .int p1])).length) Slot.unset).toArray = ls at hl ⊢
  have hl : lv_has ls 5 [(0, .ref o), (1, .int p0), (2, .int p1)] := hl
  refine w_start (A0 := A) hP (fun H locs hP hS => ?_)
  refine lv_aload_n hx hb dX10_room_0 rfl (lv_at hl 0 rfl) ?_
  refine lv_iload_n hx hb dX10_room_1 rfl (lv_at hl 1 rfl) ?_
  refine cg (wc := [(o, .inr (10, (dsF b)))]) (wr := [((b 0), .inr (6, (skF b)))]) [0] [1] (rn_V (As := [.int p0]) (rest := []) (b := o) (c_searchAt l D Y Z H.size o b p0) ⟨hx, hb, hml, hown, hg⟩ lk_X10_259 ⟨CP.blind, va_recv hKN.1 hP (ci := 10) (q0 := 0) rfl rfl, CP.at (hP.sub [0] rfl) hKN (hD.sub [0] (by decide) rfl)⟩ ⟨⟨rfl, rfl⟩, ⟨Nat.le_of_ble_eq_true rfl, Nat.le_of_ble_eq_true rfl⟩, ⟨Nat.le_of_ble_eq_true rfl, Nat.le_of_ble_eq_true rfl⟩⟩ hl.1 rfl (Nat.le_of_ble_eq_true rfl) dX10_room_2) hP hD hS hA rfl rfl (by decide) (by decide) (fun u1 H locs w2 hP hD hS => ?_)
  refine W.eq (g2 := F0 m 5 ls [.null]) rfl ?_
  have hP : va_P D vwCl [((b 0), .inr (6, (skF b))), (o, .inr (10, (dsF b)))] H := hP
  have hD : va_D A [((b 0), .inr (6, (skF b))), (o, .inr (10, (dsF b)))] := hD
  refine lv_astore_nN (lv' := [(3, .null), (0, .ref o), (1, .int p0), (2, .int p1)]) hx hb dX10_room_5 rfl hl (by decide) rfl (fun ls hl => ?_)
  refine lv_aload_n hx hb dX10_room_6 rfl (lv_at hl 1 rfl) ?_
  refine va_get (D := D) (ci := 10) (v := .ref (b 0)) (C := RX10) (T := TX10) (N := 20) hx hb hg inGX10 hown hKN.1 hP 1 rfl rfl 0 (by decide) (hg _ kw_349) (fun _ h9 => h9) rfl dX10_room_7 ?_
  refine lv_iload_n hx hb dX10_room_10 rfl (lv_at hl 3 rfl) ?_
  refine cg (wc := [((b 0), .inr (6, (skF b)))]) (wr := [(o, .inr (10, (dsF b)))]) [0] [1] (rn_NV (As := [.int p1]) (rest := []) (b := (b 0)) (c_worldAt l D Y Z H.size (b 0) b p1) ⟨hx, hb, hml, hown, hg⟩ hKN lk_X10_280 ⟨CP.blind, va_recv hKN.1 hP (ci := 6) (q0 := 0) rfl rfl, CP.at (hP.sub [0] rfl) hKN (hD.sub [0] (by decide) rfl)⟩ ⟨⟨rfl, rfl⟩, ⟨Nat.le_of_ble_eq_true rfl, Nat.le_of_ble_eq_true rfl⟩, ⟨Nat.le_of_ble_eq_true rfl, Nat.le_of_ble_eq_true rfl⟩⟩ hl.1 rfl (Nat.le_of_ble_eq_true rfl) dX10_room_11) hP hD hS hA rfl rfl (by decide) (by decide) (fun u3 H locs w4 hP hD hS => ?_)
  refine W.eq (g2 := F0 m 14 ls [.null]) rfl ?_
  have hP : va_P D vwCl [(o, .inr (10, (dsF b))), ((b 0), .inr (6, (skF b)))] H := hP
  have hD : va_D A [(o, .inr (10, (dsF b))), ((b 0), .inr (6, (skF b)))] := hD
  refine lv_astoreN (lv' := [(4, .null), (3, .null), (0, .ref o), (1, .int p0), (2, .int p1)]) hx hb dX10_room_14 hl (by decide) rfl (fun ls hl => ?_)
  refine lv_aload_nN hx hb dX10_room_16 rfl (lv_at hl 1 rfl) ?_
  refine lv_ifnullN (tgt := 25) hx hb dX10_room_17 (by decide) ?_
  refine lv_iconst (v := (-1)) hx hb dX10_room_25 (by decide) ?_
  refine W.widen (k := 0) (n := 0) (Nat.le_of_ble_eq_true rfl) (Nat.le_of_ble_eq_true rfl) ?_
  exact W.iret (v := (-1)) hx hb hr (fun t ht hW => ⟨⟨(), rfl, trivial, CB.nil⟩, hS.F ht⟩) hS.2.2 dX10_room_26
set_option maxHeartbeats 4000000 in
set_option maxRecDepth 100000 in
theorem y_room (l : Launch) (D : va_G) (Y : Nat → ClassId) (Z : Nat → Nat) (sz : Nat) (o : Nat) (a : Nat → Nat) (p0 p1 : Int32) : Met l yX11_room (.code yX11_room cX11_room 3 (some .int) :: GW) ({ frames := 1, cells := 0, slots := 0, locals := 22 }) (va_Pc [.ref o, .int p0, .int p1] (CP D Y Z [(o, .inr (11, (moF a))), ((a 3), .inl (Y 0, 3, .inl (fun _ => 0)))] sz)) (QG (S := Unit) (fun _ => some (.int (-1))) (fun _ => True) (fun u => CB D ((fun _ => []) u) (va_A [(o, .inr (11, (moF a))), ((a 3), .inl (Y 0, 3, .inl (fun _ => 0)))] sz)) (va_A [(o, .inr (11, (moF a))), ((a 3), .inl (Y 0, 3, .inl (fun _ => 0)))] sz)) 0 0 (va_A [(o, .inr (11, (moF a))), ((a 3), .inl (Y 0, 3, .inl (fun _ => 0)))] sz) := by
  refine Met.ofW (cc := cX11_room) (maxL := 3) (ret := (some .int)) (by decide) rfl ?_
  intro p e s m args below meth c s₁ B hml hv
  obtain ⟨rfl, hsz, hP, hKN, hD0⟩ := hv
  have hx := B.exec
  have hb := B.bytes
  have hr := B.returns
  have hts := atoms_spec (ws := .code yX11_room cX11_room 3 (some .int) :: GW) B.pre
  have hg : ∀ w ∈ GW, w.before _ s = true := fun w h => hts w (List.mem_cons_of_mem _ h)
  have hown : s.vm.findClass RX11 = some m.cls := findClass_of_methodNamed B.named
  have hlocks := B.notSynchronized
  subst hsz
  have hD := hD0.self (sz := s.heap.size)
  generalize hAe : va_A [(o, .inr (11, (moF a))), ((a 3), .inl (Y 0, 3, .inl (fun _ => 0)))] s.heap.size = A at hD ⊢
  have hA : ∀ q : Nat, s.heap.size ≤ q → A q := fun q h => by rw [← hAe]; exact Or.inr h
  have hl := lv_entry ([.ref o, .int p0, .int p1]) (n := 3) (Nat.le_of_ble_eq_true rfl)
  rw [lg_entry_eq]
  generalize (lg_sl ([.ref o, .int p0, .int p1]) ++ List.replicate (3 - (lg_sl ([.ref o, .int p0, .int p1])).length) Slot.unset).toArray = ls at hl ⊢
  have hl : lv_has ls 3 [(0, .ref o), (1, .int p0), (2, .int p1)] := hl
  refine w_start (A0 := A) hP (fun H locs hP hS => ?_)
  refine lv_aload_n hx hb dX11_room_0 rfl (lv_at hl 0 rfl) ?_
  refine lv_iconst (v := 1) hx hb dX11_room_1 (by decide) ?_
  refine lv_iload_n hx hb dX11_room_2 rfl (lv_at hl 1 rfl) ?_
  refine cg (wc := [(o, .inr (11, (moF a))), ((a 3), .inl (Y 0, 3, .inl (fun _ => 0)))]) (wr := []) [0, 1] [] (rn_V (As := [.int 1, .int p0]) (rest := []) (b := o) (m_isText1 l D Y Z H.size o a p0) ⟨hx, hb, hml, hown, hg⟩ lk_X11_366 ⟨CP.blind, va_recv hKN.1 hP (ci := 11) (q0 := 0) rfl rfl, CP.at (hP.sub [0, 1] rfl) hKN (hD.sub [0, 1] (by decide) rfl)⟩ ⟨⟨rfl, rfl⟩, ⟨Nat.le_of_ble_eq_true rfl, Nat.le_of_ble_eq_true rfl⟩, ⟨Nat.le_of_ble_eq_true rfl, Nat.le_of_ble_eq_true rfl⟩⟩ hl.1 rfl (Nat.le_of_ble_eq_true rfl) dX11_room_3) hP hD hS hA rfl rfl (by decide) (by decide) (fun u1 H locs w2 hP hD hS => ?_)
  refine W.eq (g2 := F0 m 6 ls [.int 0]) rfl ?_
  have hP : va_P D vwCl [(o, .inr (11, (moF a))), ((a 3), .inl (Y 0, 3, .inl (fun _ => 0)))] H := hP
  have hD : va_D A [(o, .inr (11, (moF a))), ((a 3), .inl (Y 0, 3, .inl (fun _ => 0)))] := hD
  refine lv_if_eq (tgt := 57) hx hb dX11_room_6 (by decide) (fun c3 => ?_) (fun c3 => ?_)
  rotate_left
  · exact absurd c3 (by decide)
  refine lv_iconst (v := (-1)) hx hb dX11_room_57 (by decide) ?_
  refine W.widen (k := 0) (n := 0) (Nat.le_of_ble_eq_true rfl) (Nat.le_of_ble_eq_true rfl) ?_
  exact W.iret (v := (-1)) hx hb hr (fun t ht hW => ⟨⟨(), rfl, trivial, CB.nil⟩, hS.F ht⟩) hS.2.2 dX11_room_58
set_option maxHeartbeats 4000000 in
set_option maxRecDepth 100000 in
theorem x_other (l : Launch) (D : va_G) (Y : Nat → ClassId) (Z : Nat → Nat) (sz : Nat) (o : Nat) (b : Nat → Nat) (p0 p1 p2 : Int32) : Met l yX10_other (.code yX10_other cX10_other 5 (some .int) :: GW) ({ frames := 2, cells := 0, slots := 0, locals := 43 }) (va_Pc [.ref o, .int p0, .int p1, .int p2] (CP D Y Z [(o, .inr (10, (dsF b)))] sz)) (QG (S := Unit) (fun _ => some (.int (-3))) (fun _ => True) (fun u => CB D ((fun _ => []) u) (va_A [(o, .inr (10, (dsF b)))] sz)) (va_A [(o, .inr (10, (dsF b)))] sz)) 0 0 (va_A [(o, .inr (10, (dsF b)))] sz) := by
  refine Met.ofW (cc := cX10_other) (maxL := 5) (ret := (some .int)) (by decide) rfl ?_
  intro p e s m args below meth c s₁ B hml hv
  obtain ⟨rfl, hsz, hP, hKN, hD0⟩ := hv
  have hx := B.exec
  have hb := B.bytes
  have hr := B.returns
  have hts := atoms_spec (ws := .code yX10_other cX10_other 5 (some .int) :: GW) B.pre
  have hg : ∀ w ∈ GW, w.before _ s = true := fun w h => hts w (List.mem_cons_of_mem _ h)
  have hown : s.vm.findClass RX10 = some m.cls := findClass_of_methodNamed B.named
  have hlocks := B.notSynchronized
  subst hsz
  have hD := hD0.self (sz := s.heap.size)
  generalize hAe : va_A [(o, .inr (10, (dsF b)))] s.heap.size = A at hD ⊢
  have hA : ∀ q : Nat, s.heap.size ≤ q → A q := fun q h => by rw [← hAe]; exact Or.inr h
  have hl := lv_entry ([.ref o, .int p0, .int p1, .int p2]) (n := 5) (Nat.le_of_ble_eq_true rfl)
  rw [lg_entry_eq]
  generalize (lg_sl ([.ref o, .int p0, .int p1, .int p2]) ++ List.replicate (5 - (lg_sl ([.ref o, .int p0, .int p1, .int p2])).length) Slot.unset).toArray = ls at hl ⊢
  have hl : lv_has ls 5 [(0, .ref o), (1, .int p0), (2, .int p1), (3, .int p2)] := hl
  refine w_start (A0 := A) hP (fun H locs hP hS => ?_)
  refine lv_aload_n hx hb dX10_other_0 rfl (lv_at hl 0 rfl) ?_
  refine lv_iload_n hx hb dX10_other_1 rfl (lv_at hl 1 rfl) ?_
  refine cg (wc := [(o, .inr (10, (dsF b)))]) (wr := []) [0] [] (rn_V (As := [.int p0]) (rest := []) (b := o) (c_searchAt l D Y Z H.size o b p0) ⟨hx, hb, hml, hown, hg⟩ lk_X10_259 ⟨CP.blind, va_recv hKN.1 hP (ci := 10) (q0 := 0) rfl rfl, CP.at (hP.sub [0] rfl) hKN (hD.sub [0] (by decide) rfl)⟩ ⟨⟨rfl, rfl⟩, ⟨Nat.le_of_ble_eq_true rfl, Nat.le_of_ble_eq_true rfl⟩, ⟨Nat.le_of_ble_eq_true rfl, Nat.le_of_ble_eq_true rfl⟩⟩ hl.1 rfl (Nat.le_of_ble_eq_true rfl) dX10_other_2) hP hD hS hA rfl rfl (by decide) (by decide) (fun u1 H locs w2 hP hD hS => ?_)
  refine W.eq (g2 := F0 m 5 ls [.null]) rfl ?_
  have hP : va_P D vwCl [(o, .inr (10, (dsF b)))] H := hP
  have hD : va_D A [(o, .inr (10, (dsF b)))] := hD
  refine lv_ifnullN (tgt := 25) hx hb dX10_other_5 (by decide) ?_
  refine lv_bipush (v := (-3)) hx hb dX10_other_25 (by decide) ?_
  refine W.widen (k := 0) (n := 0) (Nat.le_of_ble_eq_true rfl) (Nat.le_of_ble_eq_true rfl) ?_
  exact W.iret (v := (-3)) hx hb hr (fun t ht hW => ⟨⟨(), rfl, trivial, CB.nil⟩, hS.F ht⟩) hS.2.2 dX10_other_27
set_option maxHeartbeats 4000000 in
set_option maxRecDepth 100000 in
theorem y_other (l : Launch) (D : va_G) (Y : Nat → ClassId) (Z : Nat → Nat) (sz : Nat) (o : Nat) (a : Nat → Nat) (p0 p1 p2 : Int32) : Met l yX11_other (.code yX11_other cX11_other 6 (some .int) :: GW) ({ frames := 1, cells := 0, slots := 0, locals := 22 }) (va_Pc [.ref o, .int p0, .int p1, .int p2] (CP D Y Z [(o, .inr (11, (moF a))), ((a 3), .inl (Y 0, 3, .inl (fun _ => 0)))] sz)) (QG (S := Unit) (fun _ => some (.int (-3))) (fun _ => True) (fun u => CB D ((fun _ => []) u) (va_A [(o, .inr (11, (moF a))), ((a 3), .inl (Y 0, 3, .inl (fun _ => 0)))] sz)) (va_A [(o, .inr (11, (moF a))), ((a 3), .inl (Y 0, 3, .inl (fun _ => 0)))] sz)) 0 0 (va_A [(o, .inr (11, (moF a))), ((a 3), .inl (Y 0, 3, .inl (fun _ => 0)))] sz) := by
  refine Met.ofW (cc := cX11_other) (maxL := 6) (ret := (some .int)) (by decide) rfl ?_
  intro p e s m args below meth c s₁ B hml hv
  obtain ⟨rfl, hsz, hP, hKN, hD0⟩ := hv
  have hx := B.exec
  have hb := B.bytes
  have hr := B.returns
  have hts := atoms_spec (ws := .code yX11_other cX11_other 6 (some .int) :: GW) B.pre
  have hg : ∀ w ∈ GW, w.before _ s = true := fun w h => hts w (List.mem_cons_of_mem _ h)
  have hown : s.vm.findClass RX11 = some m.cls := findClass_of_methodNamed B.named
  have hlocks := B.notSynchronized
  subst hsz
  have hD := hD0.self (sz := s.heap.size)
  generalize hAe : va_A [(o, .inr (11, (moF a))), ((a 3), .inl (Y 0, 3, .inl (fun _ => 0)))] s.heap.size = A at hD ⊢
  have hA : ∀ q : Nat, s.heap.size ≤ q → A q := fun q h => by rw [← hAe]; exact Or.inr h
  have hl := lv_entry ([.ref o, .int p0, .int p1, .int p2]) (n := 6) (Nat.le_of_ble_eq_true rfl)
  rw [lg_entry_eq]
  generalize (lg_sl ([.ref o, .int p0, .int p1, .int p2]) ++ List.replicate (6 - (lg_sl ([.ref o, .int p0, .int p1, .int p2])).length) Slot.unset).toArray = ls at hl ⊢
  have hl : lv_has ls 6 [(0, .ref o), (1, .int p0), (2, .int p1), (3, .int p2)] := hl
  refine w_start (A0 := A) hP (fun H locs hP hS => ?_)
  refine lv_aload_n hx hb dX11_other_0 rfl (lv_at hl 0 rfl) ?_
  refine lv_iconst (v := 1) hx hb dX11_other_1 (by decide) ?_
  refine lv_iload_n hx hb dX11_other_2 rfl (lv_at hl 1 rfl) ?_
  refine cg (wc := [(o, .inr (11, (moF a))), ((a 3), .inl (Y 0, 3, .inl (fun _ => 0)))]) (wr := []) [0, 1] [] (rn_V (As := [.int 1, .int p0]) (rest := []) (b := o) (m_isText1 l D Y Z H.size o a p0) ⟨hx, hb, hml, hown, hg⟩ lk_X11_366 ⟨CP.blind, va_recv hKN.1 hP (ci := 11) (q0 := 0) rfl rfl, CP.at (hP.sub [0, 1] rfl) hKN (hD.sub [0, 1] (by decide) rfl)⟩ ⟨⟨rfl, rfl⟩, ⟨Nat.le_of_ble_eq_true rfl, Nat.le_of_ble_eq_true rfl⟩, ⟨Nat.le_of_ble_eq_true rfl, Nat.le_of_ble_eq_true rfl⟩⟩ hl.1 rfl (Nat.le_of_ble_eq_true rfl) dX11_other_3) hP hD hS hA rfl rfl (by decide) (by decide) (fun u1 H locs w2 hP hD hS => ?_)
  refine W.eq (g2 := F0 m 6 ls [.int 0]) rfl ?_
  have hP : va_P D vwCl [(o, .inr (11, (moF a))), ((a 3), .inl (Y 0, 3, .inl (fun _ => 0)))] H := hP
  have hD : va_D A [(o, .inr (11, (moF a))), ((a 3), .inl (Y 0, 3, .inl (fun _ => 0)))] := hD
  refine lv_if_eq (tgt := 27) hx hb dX11_other_6 (by decide) (fun c3 => ?_) (fun c3 => ?_)
  rotate_left
  · exact absurd c3 (by decide)
  refine lv_bipush (v := (-3)) hx hb dX11_other_27 (by decide) ?_
  refine W.widen (k := 0) (n := 0) (Nat.le_of_ble_eq_true rfl) (Nat.le_of_ble_eq_true rfl) ?_
  exact W.iret (v := (-3)) hx hb hr (fun t ht hW => ⟨⟨(), rfl, trivial, CB.nil⟩, hS.F ht⟩) hS.2.2 dX11_other_29
set_option maxHeartbeats 4000000 in
set_option maxRecDepth 100000 in
theorem x_fold (l : Launch) (D : va_G) (Y : Nat → ClassId) (Z : Nat → Nat) (sz : Nat) (o : Nat) (b : Nat → Nat) (p0 p1 p2 p3 p4 : Int32) : Met l yX10_fold (.code yX10_fold cX10_fold 7 (some .long) :: GW) ({ frames := 2, cells := 0, slots := 0, locals := 42 }) (va_Pc [.ref o, .int p0, .int p1, .int p2, .int p3, .int p4] (CP D Y Z [(o, .inr (10, (dsF b))), ((b 0), .inr (6, (skF b)))] sz)) (QG (S := Unit) (fun _ => some (.long (-1000000000))) (fun _ => True) (fun u => CB D ((fun _ => []) u) (va_A [(o, .inr (10, (dsF b))), ((b 0), .inr (6, (skF b)))] sz)) (va_A [(o, .inr (10, (dsF b))), ((b 0), .inr (6, (skF b)))] sz)) 0 0 (va_A [(o, .inr (10, (dsF b))), ((b 0), .inr (6, (skF b)))] sz) := by
  refine Met.ofW (cc := cX10_fold) (maxL := 7) (ret := (some .long)) (by decide) rfl ?_
  intro p e s m args below meth c s₁ B hml hv
  obtain ⟨rfl, hsz, hP, hKN, hD0⟩ := hv
  have hx := B.exec
  have hb := B.bytes
  have hr := B.returns
  have hts := atoms_spec (ws := .code yX10_fold cX10_fold 7 (some .long) :: GW) B.pre
  have hg : ∀ w ∈ GW, w.before _ s = true := fun w h => hts w (List.mem_cons_of_mem _ h)
  have hown : s.vm.findClass RX10 = some m.cls := findClass_of_methodNamed B.named
  have hlocks := B.notSynchronized
  subst hsz
  have hD := hD0.self (sz := s.heap.size)
  generalize hAe : va_A [(o, .inr (10, (dsF b))), ((b 0), .inr (6, (skF b)))] s.heap.size = A at hD ⊢
  have hA : ∀ q : Nat, s.heap.size ≤ q → A q := fun q h => by rw [← hAe]; exact Or.inr h
  have hl := lv_entry ([.ref o, .int p0, .int p1, .int p2, .int p3, .int p4]) (n := 7) (Nat.le_of_ble_eq_true rfl)
  rw [lg_entry_eq]
  generalize (lg_sl ([.ref o, .int p0, .int p1, .int p2, .int p3, .int p4]) ++ List.replicate (7 - (lg_sl ([.ref o, .int p0, .int p1, .int p2, .int p3, .int p4])).length) Slot.unset).toArray = ls at hl ⊢
  have hl : lv_has ls 7 [(0, .ref o), (1, .int p0), (2, .int p1), (3, .int p2), (4, .int p3), (5, .int p4)] := hl
  refine w_start (A0 := A) hP (fun H locs hP hS => ?_)
  refine lv_iload_n hx hb dX10_fold_0 rfl (lv_at hl 3 rfl) ?_
  refine cg0 (rn_S (As := [.int p2]) (rest := []) (c_isBeat l D Y Z H.size p2) ⟨hx, hb, hml, hown, hg⟩ lk_X10_234 ⟨CP.blind, CP.at nilP hKN (nilD (A := fun _ => True))⟩ ⟨⟨rfl, rfl⟩, ⟨Nat.le_of_ble_eq_true rfl, Nat.le_of_ble_eq_true rfl⟩, ⟨Nat.le_of_ble_eq_true rfl, Nat.le_of_ble_eq_true rfl⟩⟩ hl.1 rfl (Nat.le_of_ble_eq_true rfl) dX10_fold_1) hP hS hA (fun u1 H locs w2 hP hS => ?_)
  rcases w2 with ⟨w2, rfl⟩ | ⟨w2, rfl⟩
  · skip
    refine W.eq (g2 := F0 m 4 ls [.int 1]) rfl ?_
    refine lv_if_eq (tgt := 23) hx hb dX10_fold_4 (by decide) (fun c3 => ?_) (fun c3 => ?_)
    · exact absurd c3 (by decide)
    refine lv_iload hx hb dX10_fold_7 (lv_at hl 4 rfl) ?_
    refine lv_iconst (v := 0) hx hb dX10_fold_9 (by decide) ?_
    refine lv_iload_n hx hb dX10_fold_10 rfl (lv_at hl 3 rfl) ?_
    refine lv_iconst (v := 1) hx hb dX10_fold_11 (by decide) ?_
    refine lv_isub hx hb dX10_fold_12 ?_
    refine lv_topi (fun v4 ev4 => ?_)
    have hv4 := i_sub (Eq.refl (p2).toInt) (show (1 : Int32).toInt = 1 by decide) ev4 (by omega) (by omega)
    refine cg0 (rn_S (As := [.int p3, .int 0, .int v4]) (rest := []) (c_isWithin l D Y Z H.size p3 0 v4 (0) (v4).toInt (by decide) rfl) ⟨hx, hb, hml, hown, hg⟩ lk_X10_100 ⟨CP.blind, CP.at nilP hKN (nilD (A := fun _ => True))⟩ ⟨⟨rfl, rfl⟩, ⟨Nat.le_of_ble_eq_true rfl, Nat.le_of_ble_eq_true rfl⟩, ⟨Nat.le_of_ble_eq_true rfl, Nat.le_of_ble_eq_true rfl⟩⟩ hl.1 rfl (Nat.le_of_ble_eq_true rfl) dX10_fold_13) hP hS hA (fun u5 H locs w6 hP hS => ?_)
    rcases w6 with ⟨w6, rfl⟩ | ⟨w6, rfl⟩
    · skip
      refine W.eq (g2 := F0 m 16 ls [.int 1]) rfl ?_
      refine lv_if_eq (tgt := 23) hx hb dX10_fold_16 (by decide) (fun c7 => ?_) (fun c7 => ?_)
      · exact absurd c7 (by decide)
      refine lv_iconst (v := 1) hx hb dX10_fold_19 (by decide) ?_
      refine lv_goto (tgt := 24) hx hb dX10_fold_20 (by decide) ?_
      refine lv_istore (lv' := [(6, .int 1), (0, .ref o), (1, .int p0), (2, .int p1), (3, .int p2), (4, .int p3), (5, .int p4)]) hx hb dX10_fold_24 hl (by decide) rfl (fun ls hl => ?_)
      refine lv_aload_n hx hb dX10_fold_26 rfl (lv_at hl 1 rfl) ?_
      refine lv_iload_n hx hb dX10_fold_27 rfl (lv_at hl 2 rfl) ?_
      refine cg (wc := [(o, .inr (10, (dsF b))), ((b 0), .inr (6, (skF b)))]) (wr := []) [0, 1] [] (rn_V (As := [.int p0]) (rest := []) (b := o) (c_isStar l D Y Z H.size o b p0) ⟨hx, hb, hml, hown, hg⟩ lk_X10_137 ⟨CP.blind, va_recv hKN.1 hP (ci := 10) (q0 := 0) rfl rfl, CP.at (hP.sub [0, 1] rfl) hKN (hD.sub [0, 1] (by decide) rfl)⟩ ⟨⟨rfl, rfl⟩, ⟨Nat.le_of_ble_eq_true rfl, Nat.le_of_ble_eq_true rfl⟩, ⟨Nat.le_of_ble_eq_true rfl, Nat.le_of_ble_eq_true rfl⟩⟩ hl.1 rfl (Nat.le_of_ble_eq_true rfl) dX10_fold_28) hP hD hS hA rfl rfl (by decide) (by decide) (fun u8 H locs w9 hP hD hS => ?_)
      refine W.eq (g2 := F0 m 31 ls [.int 0]) rfl ?_
      have hP : va_P D vwCl [(o, .inr (10, (dsF b))), ((b 0), .inr (6, (skF b)))] H := hP
      have hD : va_D A [(o, .inr (10, (dsF b))), ((b 0), .inr (6, (skF b)))] := hD
      refine lv_if_eq (tgt := 56) hx hb dX10_fold_31 (by decide) (fun c10 => ?_) (fun c10 => ?_)
      rotate_left
      · exact absurd c10 (by decide)
      refine lv_ldc2 (v := (-1000000000)) hx hb hown (hg _ kw_1155) dX10_fold_56 ?_
      refine W.widen (k := 0) (n := 0) (Nat.le_of_ble_eq_true rfl) (Nat.le_of_ble_eq_true rfl) ?_
      exact W.lret (v := (-1000000000)) hx hb hr (fun t ht hW => ⟨⟨(), rfl, trivial, CB.nil⟩, hS.F ht⟩) hS.2.2 dX10_fold_59
    · skip
      refine W.eq (g2 := F0 m 16 ls [.int 0]) rfl ?_
      refine lv_if_eq (tgt := 23) hx hb dX10_fold_16 (by decide) (fun c11 => ?_) (fun c11 => ?_)
      rotate_left
      · exact absurd c11 (by decide)
      refine lv_iconst (v := 0) hx hb dX10_fold_23 (by decide) ?_
      refine lv_istore (lv' := [(6, .int 0), (0, .ref o), (1, .int p0), (2, .int p1), (3, .int p2), (4, .int p3), (5, .int p4)]) hx hb dX10_fold_24 hl (by decide) rfl (fun ls hl => ?_)
      refine lv_aload_n hx hb dX10_fold_26 rfl (lv_at hl 1 rfl) ?_
      refine lv_iload_n hx hb dX10_fold_27 rfl (lv_at hl 2 rfl) ?_
      refine cg (wc := [(o, .inr (10, (dsF b))), ((b 0), .inr (6, (skF b)))]) (wr := []) [0, 1] [] (rn_V (As := [.int p0]) (rest := []) (b := o) (c_isStar l D Y Z H.size o b p0) ⟨hx, hb, hml, hown, hg⟩ lk_X10_137 ⟨CP.blind, va_recv hKN.1 hP (ci := 10) (q0 := 0) rfl rfl, CP.at (hP.sub [0, 1] rfl) hKN (hD.sub [0, 1] (by decide) rfl)⟩ ⟨⟨rfl, rfl⟩, ⟨Nat.le_of_ble_eq_true rfl, Nat.le_of_ble_eq_true rfl⟩, ⟨Nat.le_of_ble_eq_true rfl, Nat.le_of_ble_eq_true rfl⟩⟩ hl.1 rfl (Nat.le_of_ble_eq_true rfl) dX10_fold_28) hP hD hS hA rfl rfl (by decide) (by decide) (fun u12 H locs w13 hP hD hS => ?_)
      refine W.eq (g2 := F0 m 31 ls [.int 0]) rfl ?_
      have hP : va_P D vwCl [(o, .inr (10, (dsF b))), ((b 0), .inr (6, (skF b)))] H := hP
      have hD : va_D A [(o, .inr (10, (dsF b))), ((b 0), .inr (6, (skF b)))] := hD
      refine lv_if_eq (tgt := 56) hx hb dX10_fold_31 (by decide) (fun c14 => ?_) (fun c14 => ?_)
      rotate_left
      · exact absurd c14 (by decide)
      refine lv_ldc2 (v := (-1000000000)) hx hb hown (hg _ kw_1155) dX10_fold_56 ?_
      refine W.widen (k := 0) (n := 0) (Nat.le_of_ble_eq_true rfl) (Nat.le_of_ble_eq_true rfl) ?_
      exact W.lret (v := (-1000000000)) hx hb hr (fun t ht hW => ⟨⟨(), rfl, trivial, CB.nil⟩, hS.F ht⟩) hS.2.2 dX10_fold_59
  · skip
    refine W.eq (g2 := F0 m 4 ls [.int 0]) rfl ?_
    refine lv_if_eq (tgt := 23) hx hb dX10_fold_4 (by decide) (fun c15 => ?_) (fun c15 => ?_)
    rotate_left
    · exact absurd c15 (by decide)
    refine lv_iconst (v := 0) hx hb dX10_fold_23 (by decide) ?_
    refine lv_istore (lv' := [(6, .int 0), (0, .ref o), (1, .int p0), (2, .int p1), (3, .int p2), (4, .int p3), (5, .int p4)]) hx hb dX10_fold_24 hl (by decide) rfl (fun ls hl => ?_)
    refine lv_aload_n hx hb dX10_fold_26 rfl (lv_at hl 1 rfl) ?_
    refine lv_iload_n hx hb dX10_fold_27 rfl (lv_at hl 2 rfl) ?_
    refine cg (wc := [(o, .inr (10, (dsF b))), ((b 0), .inr (6, (skF b)))]) (wr := []) [0, 1] [] (rn_V (As := [.int p0]) (rest := []) (b := o) (c_isStar l D Y Z H.size o b p0) ⟨hx, hb, hml, hown, hg⟩ lk_X10_137 ⟨CP.blind, va_recv hKN.1 hP (ci := 10) (q0 := 0) rfl rfl, CP.at (hP.sub [0, 1] rfl) hKN (hD.sub [0, 1] (by decide) rfl)⟩ ⟨⟨rfl, rfl⟩, ⟨Nat.le_of_ble_eq_true rfl, Nat.le_of_ble_eq_true rfl⟩, ⟨Nat.le_of_ble_eq_true rfl, Nat.le_of_ble_eq_true rfl⟩⟩ hl.1 rfl (Nat.le_of_ble_eq_true rfl) dX10_fold_28) hP hD hS hA rfl rfl (by decide) (by decide) (fun u16 H locs w17 hP hD hS => ?_)
    refine W.eq (g2 := F0 m 31 ls [.int 0]) rfl ?_
    have hP : va_P D vwCl [(o, .inr (10, (dsF b))), ((b 0), .inr (6, (skF b)))] H := hP
    have hD : va_D A [(o, .inr (10, (dsF b))), ((b 0), .inr (6, (skF b)))] := hD
    refine lv_if_eq (tgt := 56) hx hb dX10_fold_31 (by decide) (fun c18 => ?_) (fun c18 => ?_)
    rotate_left
    · exact absurd c18 (by decide)
    refine lv_ldc2 (v := (-1000000000)) hx hb hown (hg _ kw_1155) dX10_fold_56 ?_
    refine W.widen (k := 0) (n := 0) (Nat.le_of_ble_eq_true rfl) (Nat.le_of_ble_eq_true rfl) ?_
    exact W.lret (v := (-1000000000)) hx hb hr (fun t ht hW => ⟨⟨(), rfl, trivial, CB.nil⟩, hS.F ht⟩) hS.2.2 dX10_fold_59
end
section
set_option maxHeartbeats 4000000 in
set_option maxRecDepth 100000 in
theorem y_fold (l : Launch) (D : va_G) (Y : Nat → ClassId) (Z : Nat → Nat) (sz : Nat) (o : Nat) (a : Nat → Nat) (p0 p1 p2 p3 p4 : Int32) : Met l yX11_fold (.code yX11_fold cX11_fold 10 (some .long) :: GW) ({ frames := 1, cells := 0, slots := 0, locals := 21 }) (va_Pc [.ref o, .int p0, .int p1, .int p2, .int p3, .int p4] (CP D Y Z [(o, .inr (11, (moF a))), ((a 0), .inl (Y 0, 7533, .inl tolF))] sz)) (QG (S := Unit) (fun _ => some (.long (-1000000000))) (fun _ => True) (fun u => CB D ((fun _ => []) u) (va_A [(o, .inr (11, (moF a))), ((a 0), .inl (Y 0, 7533, .inl tolF))] sz)) (va_A [(o, .inr (11, (moF a))), ((a 0), .inl (Y 0, 7533, .inl tolF))] sz)) 0 0 (va_A [(o, .inr (11, (moF a))), ((a 0), .inl (Y 0, 7533, .inl tolF))] sz) := by
  refine Met.ofW (cc := cX11_fold) (maxL := 10) (ret := (some .long)) (by decide) rfl ?_
  intro p e s m args below meth c s₁ B hml hv
  obtain ⟨rfl, hsz, hP, hKN, hD0⟩ := hv
  have hx := B.exec
  have hb := B.bytes
  have hr := B.returns
  have hts := atoms_spec (ws := .code yX11_fold cX11_fold 10 (some .long) :: GW) B.pre
  have hg : ∀ w ∈ GW, w.before _ s = true := fun w h => hts w (List.mem_cons_of_mem _ h)
  have hown : s.vm.findClass RX11 = some m.cls := findClass_of_methodNamed B.named
  have hlocks := B.notSynchronized
  subst hsz
  have hD := hD0.self (sz := s.heap.size)
  generalize hAe : va_A [(o, .inr (11, (moF a))), ((a 0), .inl (Y 0, 7533, .inl tolF))] s.heap.size = A at hD ⊢
  have hA : ∀ q : Nat, s.heap.size ≤ q → A q := fun q h => by rw [← hAe]; exact Or.inr h
  have hl := lv_entry ([.ref o, .int p0, .int p1, .int p2, .int p3, .int p4]) (n := 10) (Nat.le_of_ble_eq_true rfl)
  rw [lg_entry_eq]
  generalize (lg_sl ([.ref o, .int p0, .int p1, .int p2, .int p3, .int p4]) ++ List.replicate (10 - (lg_sl ([.ref o, .int p0, .int p1, .int p2, .int p3, .int p4])).length) Slot.unset).toArray = ls at hl ⊢
  have hl : lv_has ls 10 [(0, .ref o), (1, .int p0), (2, .int p1), (3, .int p2), (4, .int p3), (5, .int p4)] := hl
  refine w_start (A0 := A) hP (fun H locs hP hS => ?_)
  refine lv_aload_n hx hb dX11_fold_0 rfl (lv_at hl 0 rfl) ?_
  refine lv_iload_n hx hb dX11_fold_1 rfl (lv_at hl 1 rfl) ?_
  refine cg (wc := [(o, .inr (11, (moF a))), ((a 0), .inl (Y 0, 7533, .inl tolF))]) (wr := []) [0, 1] [] (rn_V (As := [.int p0]) (rest := []) (b := o) (m_isStar l D Y Z H.size o a p0) ⟨hx, hb, hml, hown, hg⟩ lk_X11_108 ⟨CP.blind, va_recv hKN.1 hP (ci := 11) (q0 := 0) rfl rfl, CP.at (hP.sub [0, 1] rfl) hKN (hD.sub [0, 1] (by decide) rfl)⟩ ⟨⟨rfl, rfl⟩, ⟨Nat.le_of_ble_eq_true rfl, Nat.le_of_ble_eq_true rfl⟩, ⟨Nat.le_of_ble_eq_true rfl, Nat.le_of_ble_eq_true rfl⟩⟩ hl.1 rfl (Nat.le_of_ble_eq_true rfl) dX11_fold_2) hP hD hS hA rfl rfl (by decide) (by decide) (fun u1 H locs w2 hP hD hS => ?_)
  refine W.eq (g2 := F0 m 5 ls [.int 0]) rfl ?_
  have hP : va_P D vwCl [(o, .inr (11, (moF a))), ((a 0), .inl (Y 0, 7533, .inl tolF))] H := hP
  have hD : va_D A [(o, .inr (11, (moF a))), ((a 0), .inl (Y 0, 7533, .inl tolF))] := hD
  refine lv_if_eq (tgt := 59) hx hb dX11_fold_5 (by decide) (fun c3 => ?_) (fun c3 => ?_)
  rotate_left
  · exact absurd c3 (by decide)
  refine lv_ldc2 (v := (-1000000000)) hx hb hown (hg _ kw_1893) dX11_fold_59 ?_
  refine W.widen (k := 0) (n := 0) (Nat.le_of_ble_eq_true rfl) (Nat.le_of_ble_eq_true rfl) ?_
  exact W.lret (v := (-1000000000)) hx hb hr (fun t ht hW => ⟨⟨(), rfl, trivial, CB.nil⟩, hS.F ht⟩) hS.2.2 dX11_fold_62
set_option maxHeartbeats 4000000 in
set_option maxRecDepth 100000 in
theorem x_candidate (l : Launch) (D : va_G) (Y : Nat → ClassId) (Z : Nat → Nat) (sz : Nat) (o : Nat) (b : Nat → Nat) (p0 p1 p2 : Int32) : Met l yX10_candidate (.code yX10_candidate cX10_candidate 5 (some .int) :: GW) ({ frames := 2, cells := 0, slots := 0, locals := 42 }) (va_Pc [.ref o, .int p0, .int p1, .int p2] (CP D Y Z [(o, .inr (10, (dsF b))), ((b 0), .inr (6, (skF b)))] sz)) (QG (S := Unit) (fun _ => some (.int (-1))) (fun _ => True) (fun u => CB D ((fun _ => []) u) (va_A [(o, .inr (10, (dsF b))), ((b 0), .inr (6, (skF b)))] sz)) (va_A [(o, .inr (10, (dsF b))), ((b 0), .inr (6, (skF b)))] sz)) 0 0 (va_A [(o, .inr (10, (dsF b))), ((b 0), .inr (6, (skF b)))] sz) := by
  refine Met.ofW (cc := cX10_candidate) (maxL := 5) (ret := (some .int)) (by decide) rfl ?_
  intro p e s m args below meth c s₁ B hml hv
  obtain ⟨rfl, hsz, hP, hKN, hD0⟩ := hv
  have hx := B.exec
  have hb := B.bytes
  have hr := B.returns
  have hts := atoms_spec (ws := .code yX10_candidate cX10_candidate 5 (some .int) :: GW) B.pre
  have hg : ∀ w ∈ GW, w.before _ s = true := fun w h => hts w (List.mem_cons_of_mem _ h)
  have hown : s.vm.findClass RX10 = some m.cls := findClass_of_methodNamed B.named
  have hlocks := B.notSynchronized
  subst hsz
  have hD := hD0.self (sz := s.heap.size)
  generalize hAe : va_A [(o, .inr (10, (dsF b))), ((b 0), .inr (6, (skF b)))] s.heap.size = A at hD ⊢
  have hA : ∀ q : Nat, s.heap.size ≤ q → A q := fun q h => by rw [← hAe]; exact Or.inr h
  have hl := lv_entry ([.ref o, .int p0, .int p1, .int p2]) (n := 5) (Nat.le_of_ble_eq_true rfl)
  rw [lg_entry_eq]
  generalize (lg_sl ([.ref o, .int p0, .int p1, .int p2]) ++ List.replicate (5 - (lg_sl ([.ref o, .int p0, .int p1, .int p2])).length) Slot.unset).toArray = ls at hl ⊢
  have hl : lv_has ls 5 [(0, .ref o), (1, .int p0), (2, .int p1), (3, .int p2)] := hl
  refine w_start (A0 := A) hP (fun H locs hP hS => ?_)
  refine lv_aload_n hx hb dX10_candidate_0 rfl (lv_at hl 0 rfl) ?_
  refine lv_iload_n hx hb dX10_candidate_1 rfl (lv_at hl 1 rfl) ?_
  refine cg (wc := [(o, .inr (10, (dsF b))), ((b 0), .inr (6, (skF b)))]) (wr := []) [0, 1] [] (rn_V (As := [.int p0]) (rest := []) (b := o) (c_isStar l D Y Z H.size o b p0) ⟨hx, hb, hml, hown, hg⟩ lk_X10_137 ⟨CP.blind, va_recv hKN.1 hP (ci := 10) (q0 := 0) rfl rfl, CP.at (hP.sub [0, 1] rfl) hKN (hD.sub [0, 1] (by decide) rfl)⟩ ⟨⟨rfl, rfl⟩, ⟨Nat.le_of_ble_eq_true rfl, Nat.le_of_ble_eq_true rfl⟩, ⟨Nat.le_of_ble_eq_true rfl, Nat.le_of_ble_eq_true rfl⟩⟩ hl.1 rfl (Nat.le_of_ble_eq_true rfl) dX10_candidate_2) hP hD hS hA rfl rfl (by decide) (by decide) (fun u1 H locs w2 hP hD hS => ?_)
  refine W.eq (g2 := F0 m 5 ls [.int 0]) rfl ?_
  have hP : va_P D vwCl [(o, .inr (10, (dsF b))), ((b 0), .inr (6, (skF b)))] H := hP
  have hD : va_D A [(o, .inr (10, (dsF b))), ((b 0), .inr (6, (skF b)))] := hD
  refine lv_if_eq (tgt := 33) hx hb dX10_candidate_5 (by decide) (fun c3 => ?_) (fun c3 => ?_)
  rotate_left
  · exact absurd c3 (by decide)
  refine lv_iconst (v := 0) hx hb dX10_candidate_33 (by decide) ?_
  refine lv_istore (lv' := [(4, .int 0), (0, .ref o), (1, .int p0), (2, .int p1), (3, .int p2)]) hx hb dX10_candidate_34 hl (by decide) rfl (fun ls hl => ?_)
  refine lv_iload hx hb dX10_candidate_36 (lv_at hl 0 rfl) ?_
  refine lv_if_eq (tgt := 53) hx hb dX10_candidate_38 (by decide) (fun c4 => ?_) (fun c4 => ?_)
  rotate_left
  · exact absurd c4 (by decide)
  refine lv_iconst (v := (-1)) hx hb dX10_candidate_53 (by decide) ?_
  refine W.widen (k := 0) (n := 0) (Nat.le_of_ble_eq_true rfl) (Nat.le_of_ble_eq_true rfl) ?_
  exact W.iret (v := (-1)) hx hb hr (fun t ht hW => ⟨⟨(), rfl, trivial, CB.nil⟩, hS.F ht⟩) hS.2.2 dX10_candidate_54
set_option maxHeartbeats 4000000 in
set_option maxRecDepth 100000 in
theorem y_candidate (l : Launch) (D : va_G) (Y : Nat → ClassId) (Z : Nat → Nat) (sz : Nat) (o : Nat) (a : Nat → Nat) (p0 p1 p2 : Int32) : Met l yX11_candidate (.code yX11_candidate cX11_candidate 5 (some .int) :: GW) ({ frames := 1, cells := 0, slots := 0, locals := 21 }) (va_Pc [.ref o, .int p0, .int p1, .int p2] (CP D Y Z [(o, .inr (11, (moF a))), ((a 0), .inl (Y 0, 7533, .inl tolF))] sz)) (QG (S := Unit) (fun _ => some (.int (-1))) (fun _ => True) (fun u => CB D ((fun _ => []) u) (va_A [(o, .inr (11, (moF a))), ((a 0), .inl (Y 0, 7533, .inl tolF))] sz)) (va_A [(o, .inr (11, (moF a))), ((a 0), .inl (Y 0, 7533, .inl tolF))] sz)) 0 0 (va_A [(o, .inr (11, (moF a))), ((a 0), .inl (Y 0, 7533, .inl tolF))] sz) := by
  refine Met.ofW (cc := cX11_candidate) (maxL := 5) (ret := (some .int)) (by decide) rfl ?_
  intro p e s m args below meth c s₁ B hml hv
  obtain ⟨rfl, hsz, hP, hKN, hD0⟩ := hv
  have hx := B.exec
  have hb := B.bytes
  have hr := B.returns
  have hts := atoms_spec (ws := .code yX11_candidate cX11_candidate 5 (some .int) :: GW) B.pre
  have hg : ∀ w ∈ GW, w.before _ s = true := fun w h => hts w (List.mem_cons_of_mem _ h)
  have hown : s.vm.findClass RX11 = some m.cls := findClass_of_methodNamed B.named
  have hlocks := B.notSynchronized
  subst hsz
  have hD := hD0.self (sz := s.heap.size)
  generalize hAe : va_A [(o, .inr (11, (moF a))), ((a 0), .inl (Y 0, 7533, .inl tolF))] s.heap.size = A at hD ⊢
  have hA : ∀ q : Nat, s.heap.size ≤ q → A q := fun q h => by rw [← hAe]; exact Or.inr h
  have hl := lv_entry ([.ref o, .int p0, .int p1, .int p2]) (n := 5) (Nat.le_of_ble_eq_true rfl)
  rw [lg_entry_eq]
  generalize (lg_sl ([.ref o, .int p0, .int p1, .int p2]) ++ List.replicate (5 - (lg_sl ([.ref o, .int p0, .int p1, .int p2])).length) Slot.unset).toArray = ls at hl ⊢
  have hl : lv_has ls 5 [(0, .ref o), (1, .int p0), (2, .int p1), (3, .int p2)] := hl
  refine w_start (A0 := A) hP (fun H locs hP hS => ?_)
  refine lv_aload_n hx hb dX11_candidate_0 rfl (lv_at hl 0 rfl) ?_
  refine va_get (D := D) (ci := 11) (v := .ref (a 0)) (C := RX11) (T := TX11) (N := 49) hx hb hg inGX11 hown hKN.1 hP 0 rfl rfl 0 (by decide) (hg _ kw_1208) (fun _ h9 => h9) rfl dX11_candidate_1 ?_
  refine lv_iconst (v := 2) hx hb dX11_candidate_4 (by decide) ?_
  refine va_iald hx hb hKN.1 hP 1 0 rfl rfl (show ¬ ((2 : Int32) < 0 ∨ 7533 ≤ (2 : Int32).toNatClampNeg) by decide) dX11_candidate_5 ?_
  refine lv_topi (fun z1 ez1 => ?_)
  obtain rfl : z1 = 0 := ez1.trans (by decide)
  refine lv_bipush (v := 12) hx hb dX11_candidate_6 (by decide) ?_
  refine lv_icmp_eq (tgt := 43) hx hb dX11_candidate_8 (by decide) (fun c2 => ?_) (fun c2 => ?_)
  · exact absurd c2 (by decide)
  refine lv_aload_n hx hb dX11_candidate_11 rfl (lv_at hl 0 rfl) ?_
  refine lv_iload_n hx hb dX11_candidate_12 rfl (lv_at hl 1 rfl) ?_
  refine cg (wc := [(o, .inr (11, (moF a))), ((a 0), .inl (Y 0, 7533, .inl tolF))]) (wr := []) [0, 1] [] (rn_V (As := [.int p0]) (rest := []) (b := o) (m_isStar l D Y Z H.size o a p0) ⟨hx, hb, hml, hown, hg⟩ lk_X11_108 ⟨CP.blind, va_recv hKN.1 hP (ci := 11) (q0 := 0) rfl rfl, CP.at (hP.sub [0, 1] rfl) hKN (hD.sub [0, 1] (by decide) rfl)⟩ ⟨⟨rfl, rfl⟩, ⟨Nat.le_of_ble_eq_true rfl, Nat.le_of_ble_eq_true rfl⟩, ⟨Nat.le_of_ble_eq_true rfl, Nat.le_of_ble_eq_true rfl⟩⟩ hl.1 rfl (Nat.le_of_ble_eq_true rfl) dX11_candidate_13) hP hD hS hA rfl rfl (by decide) (by decide) (fun u3 H locs w4 hP hD hS => ?_)
  refine W.eq (g2 := F0 m 16 ls [.int 0]) rfl ?_
  have hP : va_P D vwCl [(o, .inr (11, (moF a))), ((a 0), .inl (Y 0, 7533, .inl tolF))] H := hP
  have hD : va_D A [(o, .inr (11, (moF a))), ((a 0), .inl (Y 0, 7533, .inl tolF))] := hD
  refine lv_if_eq (tgt := 43) hx hb dX11_candidate_16 (by decide) (fun c5 => ?_) (fun c5 => ?_)
  rotate_left
  · exact absurd c5 (by decide)
  refine lv_iconst (v := (-1)) hx hb dX11_candidate_43 (by decide) ?_
  refine W.widen (k := 0) (n := 0) (Nat.le_of_ble_eq_true rfl) (Nat.le_of_ble_eq_true rfl) ?_
  exact W.iret (v := (-1)) hx hb hr (fun t ht hW => ⟨⟨(), rfl, trivial, CB.nil⟩, hS.F ht⟩) hS.2.2 dX11_candidate_44
set_option maxHeartbeats 4000000 in
set_option maxRecDepth 100000 in
theorem x_back (l : Launch) (D : va_G) (Y : Nat → ClassId) (Z : Nat → Nat) (sz : Nat) (o : Nat) (b : Nat → Nat) (p0 : Int32) : Met l yX10_back (.code yX10_back cX10_back 3 (some .int) :: GW) ({ frames := 1, cells := 0, slots := 0, locals := 22 }) (va_Pc [.ref o, .int p0] (CP D Y Z [(o, .inr (10, (dsF b))), ((b 1), .inl (Y 4, 4, .inr (.inr (.inr (.inr (fun _ => none))))))] sz)) (QG (S := Unit) (fun _ => some (.int (-1))) (fun _ => True) (fun u => CB D ((fun _ => []) u) (va_A [(o, .inr (10, (dsF b))), ((b 1), .inl (Y 4, 4, .inr (.inr (.inr (.inr (fun _ => none))))))] sz)) (va_A [(o, .inr (10, (dsF b))), ((b 1), .inl (Y 4, 4, .inr (.inr (.inr (.inr (fun _ => none))))))] sz)) 0 0 (va_A [(o, .inr (10, (dsF b))), ((b 1), .inl (Y 4, 4, .inr (.inr (.inr (.inr (fun _ => none))))))] sz) := by
  refine Met.ofW (cc := cX10_back) (maxL := 3) (ret := (some .int)) (by decide) rfl ?_
  intro p e s m args below meth c s₁ B hml hv
  obtain ⟨rfl, hsz, hP, hKN, hD0⟩ := hv
  have hx := B.exec
  have hb := B.bytes
  have hr := B.returns
  have hts := atoms_spec (ws := .code yX10_back cX10_back 3 (some .int) :: GW) B.pre
  have hg : ∀ w ∈ GW, w.before _ s = true := fun w h => hts w (List.mem_cons_of_mem _ h)
  have hown : s.vm.findClass RX10 = some m.cls := findClass_of_methodNamed B.named
  have hlocks := B.notSynchronized
  subst hsz
  have hD := hD0.self (sz := s.heap.size)
  generalize hAe : va_A [(o, .inr (10, (dsF b))), ((b 1), .inl (Y 4, 4, .inr (.inr (.inr (.inr (fun _ => none))))))] s.heap.size = A at hD ⊢
  have hA : ∀ q : Nat, s.heap.size ≤ q → A q := fun q h => by rw [← hAe]; exact Or.inr h
  have hl := lv_entry ([.ref o, .int p0]) (n := 3) (Nat.le_of_ble_eq_true rfl)
  rw [lg_entry_eq]
  generalize (lg_sl ([.ref o, .int p0]) ++ List.replicate (3 - (lg_sl ([.ref o, .int p0])).length) Slot.unset).toArray = ls at hl ⊢
  have hl : lv_has ls 3 [(0, .ref o), (1, .int p0)] := hl
  refine w_start (A0 := A) hP (fun H locs hP hS => ?_)
  refine lv_iload_n hx hb dX10_back_0 rfl (lv_at hl 1 rfl) ?_
  refine lv_iconst (v := 0) hx hb dX10_back_1 (by decide) ?_
  refine lv_iconst (v := 3) hx hb dX10_back_2 (by decide) ?_
  refine cg0 (rn_S (As := [.int p0, .int 0, .int 3]) (rest := []) (c_isWithin l D Y Z H.size p0 0 3 (0) (3) (by decide) (by decide)) ⟨hx, hb, hml, hown, hg⟩ lk_X10_100 ⟨CP.blind, CP.at nilP hKN (nilD (A := fun _ => True))⟩ ⟨⟨rfl, rfl⟩, ⟨Nat.le_of_ble_eq_true rfl, Nat.le_of_ble_eq_true rfl⟩, ⟨Nat.le_of_ble_eq_true rfl, Nat.le_of_ble_eq_true rfl⟩⟩ hl.1 rfl (Nat.le_of_ble_eq_true rfl) dX10_back_3) hP hS hA (fun u1 H locs w2 hP hS => ?_)
  rcases w2 with ⟨w2, rfl⟩ | ⟨w2, rfl⟩
  · skip
    refine W.eq (g2 := F0 m 6 ls [.int 1]) rfl ?_
    refine lv_if_eq (tgt := 18) hx hb dX10_back_6 (by decide) (fun c3 => ?_) (fun c3 => ?_)
    · exact absurd c3 (by decide)
    refine lv_aload_n hx hb dX10_back_9 rfl (lv_at hl 0 rfl) ?_
    refine va_get (D := D) (ci := 10) (v := .ref (b 1)) (C := RX10) (T := TX10) (N := 20) hx hb hg inGX10 hown hKN.1 hP 0 rfl rfl 1 (by decide) (hg _ kw_350) (fun _ h9 => h9) rfl dX10_back_10 ?_
    refine lv_iload_n hx hb dX10_back_13 rfl (lv_at hl 1 rfl) ?_
    refine va_aldq hx hb hKN.1 hP 1 4 rfl rfl (vp_in_iff.mpr ⟨by omega, by omega⟩) dX10_back_14 ?_
    refine W.eq (g2 := F0 m 15 ls [.null]) rfl ?_
    refine lv_goto (tgt := 19) hx hb dX10_back_15 (by decide) ?_
    refine lv_astore_nN (lv' := [(2, .null), (0, .ref o), (1, .int p0)]) hx hb dX10_back_19 rfl hl (by decide) rfl (fun ls hl => ?_)
    refine lv_aload_nN hx hb dX10_back_20 rfl (lv_at hl 0 rfl) ?_
    refine lv_ifnonnullN hx hb dX10_back_21 ?_
    refine lv_iconst (v := (-1)) hx hb dX10_back_24 (by decide) ?_
    refine W.widen (k := 0) (n := 0) (Nat.le_of_ble_eq_true rfl) (Nat.le_of_ble_eq_true rfl) ?_
    exact W.iret (v := (-1)) hx hb hr (fun t ht hW => ⟨⟨(), rfl, trivial, CB.nil⟩, hS.F ht⟩) hS.2.2 dX10_back_25
  · skip
    refine W.eq (g2 := F0 m 6 ls [.int 0]) rfl ?_
    refine lv_if_eq (tgt := 18) hx hb dX10_back_6 (by decide) (fun c4 => ?_) (fun c4 => ?_)
    rotate_left
    · exact absurd c4 (by decide)
    refine lv_null hx hb dX10_back_18 ?_
    refine lv_astore_nN (lv' := [(2, .null), (0, .ref o), (1, .int p0)]) hx hb dX10_back_19 rfl hl (by decide) rfl (fun ls hl => ?_)
    refine lv_aload_nN hx hb dX10_back_20 rfl (lv_at hl 0 rfl) ?_
    refine lv_ifnonnullN hx hb dX10_back_21 ?_
    refine lv_iconst (v := (-1)) hx hb dX10_back_24 (by decide) ?_
    refine W.widen (k := 0) (n := 0) (Nat.le_of_ble_eq_true rfl) (Nat.le_of_ble_eq_true rfl) ?_
    exact W.iret (v := (-1)) hx hb hr (fun t ht hW => ⟨⟨(), rfl, trivial, CB.nil⟩, hS.F ht⟩) hS.2.2 dX10_back_25
set_option maxHeartbeats 4000000 in
set_option maxRecDepth 100000 in
theorem y_back (l : Launch) (D : va_G) (Y : Nat → ClassId) (Z : Nat → Nat) (sz : Nat) (o : Nat) (a : Nat → Nat) (p0 : Int32) : Met l yX11_back (.code yX11_back cX11_back 3 (some .int) :: GW) ({ frames := 1, cells := 0, slots := 0, locals := 25 }) (va_Pc [.ref o, .int p0] (CP D Y Z [(o, .inr (11, (moF a))), ((a 27), .inl (Y 3, 4, .inl (fun _ => 0)))] sz)) (QG (S := Unit) (fun _ => some (.int (-1))) (fun _ => True) (fun u => CB D ((fun _ => []) u) (va_A [(o, .inr (11, (moF a))), ((a 27), .inl (Y 3, 4, .inl (fun _ => 0)))] sz)) (va_A [(o, .inr (11, (moF a))), ((a 27), .inl (Y 3, 4, .inl (fun _ => 0)))] sz)) 0 0 (va_A [(o, .inr (11, (moF a))), ((a 27), .inl (Y 3, 4, .inl (fun _ => 0)))] sz) := by
  refine Met.ofW (cc := cX11_back) (maxL := 3) (ret := (some .int)) (by decide) rfl ?_
  intro p e s m args below meth c s₁ B hml hv
  obtain ⟨rfl, hsz, hP, hKN, hD0⟩ := hv
  have hx := B.exec
  have hb := B.bytes
  have hr := B.returns
  have hts := atoms_spec (ws := .code yX11_back cX11_back 3 (some .int) :: GW) B.pre
  have hg : ∀ w ∈ GW, w.before _ s = true := fun w h => hts w (List.mem_cons_of_mem _ h)
  have hown : s.vm.findClass RX11 = some m.cls := findClass_of_methodNamed B.named
  have hlocks := B.notSynchronized
  subst hsz
  have hD := hD0.self (sz := s.heap.size)
  generalize hAe : va_A [(o, .inr (11, (moF a))), ((a 27), .inl (Y 3, 4, .inl (fun _ => 0)))] s.heap.size = A at hD ⊢
  have hA : ∀ q : Nat, s.heap.size ≤ q → A q := fun q h => by rw [← hAe]; exact Or.inr h
  have hl := lv_entry ([.ref o, .int p0]) (n := 3) (Nat.le_of_ble_eq_true rfl)
  rw [lg_entry_eq]
  generalize (lg_sl ([.ref o, .int p0]) ++ List.replicate (3 - (lg_sl ([.ref o, .int p0])).length) Slot.unset).toArray = ls at hl ⊢
  have hl : lv_has ls 3 [(0, .ref o), (1, .int p0)] := hl
  refine w_start (A0 := A) hP (fun H locs hP hS => ?_)
  refine lv_iload_n hx hb dX11_back_0 rfl (lv_at hl 1 rfl) ?_
  refine lv_i2l (v := p0.toInt64) hx hb dX11_back_1 (rfl) ?_
  refine lv_lconst (v := 0) hx hb dX11_back_2 (by decide) ?_
  refine lv_ldc2 (v := 3) hx hb hown (hg _ kw_1912) dX11_back_3 ?_
  refine cg0 (rn_S (As := [.long p0.toInt64, .long 0, .long 3]) (rest := []) (c_in l D Y Z H.size p0.toInt64 0 3 (p0).toInt (0) (3) (Int32.toInt_toInt64 _) (by decide) (by decide) ) ⟨hx, hb, hml, hown, hg⟩ lk_X11_99 ⟨CP.blind, CP.at nilP hKN (nilD (A := fun _ => True))⟩ ⟨⟨rfl, rfl⟩, ⟨Nat.le_of_ble_eq_true rfl, Nat.le_of_ble_eq_true rfl⟩, ⟨Nat.le_of_ble_eq_true rfl, Nat.le_of_ble_eq_true rfl⟩⟩ hl.1 rfl (Nat.le_of_ble_eq_true rfl) dX11_back_6) hP hS hA (fun u1 H locs w2 hP hS => ?_)
  rcases w2 with ⟨w2, rfl⟩ | ⟨w2, rfl⟩
  · skip
    refine W.eq (g2 := F0 m 9 ls [.int 1]) rfl ?_
    refine lv_if_eq (tgt := 21) hx hb dX11_back_9 (by decide) (fun c3 => ?_) (fun c3 => ?_)
    · exact absurd c3 (by decide)
    refine lv_aload_n hx hb dX11_back_12 rfl (lv_at hl 0 rfl) ?_
    refine va_get (D := D) (ci := 11) (v := .ref (a 27)) (C := RX11) (T := TX11) (N := 49) hx hb hg inGX11 hown hKN.1 hP 0 rfl rfl 48 (by decide) (hg _ kw_1256) (fun _ h9 => h9) rfl dX11_back_13 ?_
    refine lv_iload_n hx hb dX11_back_16 rfl (lv_at hl 1 rfl) ?_
    refine va_zald hx hb hKN.1 hP 1 3 rfl rfl (vp_in_iff.mpr ⟨by omega, by omega⟩) dX11_back_17 ?_
    refine lv_topi (fun z4 ez4 => ?_)
    obtain rfl : z4 = 0 := ez4.trans (by rfl)
    refine lv_if_ne (tgt := 23) hx hb dX11_back_18 (by decide) (fun c5 => ?_) (fun c5 => ?_)
    · exact absurd c5 (by decide)
    refine lv_iconst (v := (-1)) hx hb dX11_back_21 (by decide) ?_
    refine W.widen (k := 0) (n := 0) (Nat.le_of_ble_eq_true rfl) (Nat.le_of_ble_eq_true rfl) ?_
    exact W.iret (v := (-1)) hx hb hr (fun t ht hW => ⟨⟨(), rfl, trivial, CB.nil⟩, hS.F ht⟩) hS.2.2 dX11_back_22
  · skip
    refine W.eq (g2 := F0 m 9 ls [.int 0]) rfl ?_
    refine lv_if_eq (tgt := 21) hx hb dX11_back_9 (by decide) (fun c6 => ?_) (fun c6 => ?_)
    rotate_left
    · exact absurd c6 (by decide)
    refine lv_iconst (v := (-1)) hx hb dX11_back_21 (by decide) ?_
    refine W.widen (k := 0) (n := 0) (Nat.le_of_ble_eq_true rfl) (Nat.le_of_ble_eq_true rfl) ?_
    exact W.iret (v := (-1)) hx hb hr (fun t ht hW => ⟨⟨(), rfl, trivial, CB.nil⟩, hS.F ht⟩) hS.2.2 dX11_back_22
end
