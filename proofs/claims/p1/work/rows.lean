section
-- ===== PART A: goes FIRST, ahead of the names: the tables' words, and 'selects' of the private methods out of them =====
/-- a private method of a class that the tables say can be made, by its rows of tables_1 -/
def lw_okq (q : MethodName × Nat) : Prop := (q.1.cls ≠ "java/lang/invoke/MethodHandle" ∧ q.1.cls ≠ "java/lang/invoke/VarHandle") ∧ Cond.instantiable q.1.cls q.2 ∈ tables_1 ∧ Cond.privateMethod q.1 ∈ tables_1 ∧ Cond.instanceMethod q.1 ∈ tables_1
theorem lw_p0 : lw_okq (⟨"DimStars$Sky", "addStar", "(III)I"⟩, 13) := ⟨⟨by decide +kernel, by decide +kernel⟩, List.mem_of_getElem? (i := 30) (by decide +kernel), List.mem_of_getElem? (i := 421) (by decide +kernel), List.mem_of_getElem? (i := 422) (by decide +kernel)⟩
theorem lw_p1 : lw_okq (⟨"DimStars$Sky", "placeFor", "(I)LDimStars$Star;"⟩, 13) := ⟨⟨by decide +kernel, by decide +kernel⟩, List.mem_of_getElem? (i := 30) (by decide +kernel), List.mem_of_getElem? (i := 425) (by decide +kernel), List.mem_of_getElem? (i := 426) (by decide +kernel)⟩
theorem lw_p2 : lw_okq (⟨"DimStars$Star", "begin", "(III)V"⟩, 4) := ⟨⟨by decide +kernel, by decide +kernel⟩, List.mem_of_getElem? (i := 428) (by decide +kernel), List.mem_of_getElem? (i := 454) (by decide +kernel), List.mem_of_getElem? (i := 455) (by decide +kernel)⟩
theorem lw_p3 : lw_okq (⟨"DimStars$Sky", "starAt", "(I)LDimStars$Star;"⟩, 13) := ⟨⟨by decide +kernel, by decide +kernel⟩, List.mem_of_getElem? (i := 30) (by decide +kernel), List.mem_of_getElem? (i := 466) (by decide +kernel), List.mem_of_getElem? (i := 467) (by decide +kernel)⟩
theorem lw_p4 : lw_okq (⟨"DimStars", "isStar", "(I)Z"⟩, 20) := ⟨⟨by decide +kernel, by decide +kernel⟩, List.mem_of_getElem? (i := 22) (by decide +kernel), List.mem_of_getElem? (i := 495) (by decide +kernel), List.mem_of_getElem? (i := 496) (by decide +kernel)⟩
theorem lw_p5 : lw_okq (⟨"DimStars$Look", "see", "(LDimStars$Sky;II)V"⟩, 8) := ⟨⟨by decide +kernel, by decide +kernel⟩, List.mem_of_getElem? (i := 227) (by decide +kernel), List.mem_of_getElem? (i := 502) (by decide +kernel), List.mem_of_getElem? (i := 503) (by decide +kernel)⟩
theorem lw_p6 : lw_okq (⟨"DimStars$Look", "turnOver", "([I)V"⟩, 8) := ⟨⟨by decide +kernel, by decide +kernel⟩, List.mem_of_getElem? (i := 227) (by decide +kernel), List.mem_of_getElem? (i := 509) (by decide +kernel), List.mem_of_getElem? (i := 510) (by decide +kernel)⟩
theorem lw_p7 : lw_okq (⟨"DimStars$Look", "moveSeasons", "([II)V"⟩, 8) := ⟨⟨by decide +kernel, by decide +kernel⟩, List.mem_of_getElem? (i := 227) (by decide +kernel), List.mem_of_getElem? (i := 513) (by decide +kernel), List.mem_of_getElem? (i := 514) (by decide +kernel)⟩
theorem lw_p8 : lw_okq (⟨"DimStars$Look", "cleanRow", "([II)V"⟩, 8) := ⟨⟨by decide +kernel, by decide +kernel⟩, List.mem_of_getElem? (i := 227) (by decide +kernel), List.mem_of_getElem? (i := 522) (by decide +kernel), List.mem_of_getElem? (i := 523) (by decide +kernel)⟩
theorem lw_p9 : lw_okq (⟨"DimStars$Look", "dropMasked", "(LDimStars$Sky;I)V"⟩, 8) := ⟨⟨by decide +kernel, by decide +kernel⟩, List.mem_of_getElem? (i := 227) (by decide +kernel), List.mem_of_getElem? (i := 540) (by decide +kernel), List.mem_of_getElem? (i := 541) (by decide +kernel)⟩
theorem lw_p10 : lw_okq (⟨"DimStars$Star", "mean", "()J"⟩, 4) := ⟨⟨by decide +kernel, by decide +kernel⟩, List.mem_of_getElem? (i := 428) (by decide +kernel), List.mem_of_getElem? (i := 544) (by decide +kernel), List.mem_of_getElem? (i := 545) (by decide +kernel)⟩
theorem lw_p11 : lw_okq (⟨"DimStars$Look", "markLow", "([IJ)V"⟩, 8) := ⟨⟨by decide +kernel, by decide +kernel⟩, List.mem_of_getElem? (i := 227) (by decide +kernel), List.mem_of_getElem? (i := 549) (by decide +kernel), List.mem_of_getElem? (i := 550) (by decide +kernel)⟩
theorem lw_p12 : lw_okq (⟨"DimStars$Look", "measure", "()V"⟩, 8) := ⟨⟨by decide +kernel, by decide +kernel⟩, List.mem_of_getElem? (i := 227) (by decide +kernel), List.mem_of_getElem? (i := 553) (by decide +kernel), List.mem_of_getElem? (i := 554) (by decide +kernel)⟩
theorem lw_p13 : lw_okq (⟨"DimStars$Sky", "addBytes", "(I)V"⟩, 13) := ⟨⟨by decide +kernel, by decide +kernel⟩, List.mem_of_getElem? (i := 30) (by decide +kernel), List.mem_of_getElem? (i := 600) (by decide +kernel), List.mem_of_getElem? (i := 601) (by decide +kernel)⟩
theorem lw_p14 : lw_okq (⟨"DimStars$Parser", "read", "([BII)I"⟩, 12) := ⟨⟨by decide +kernel, by decide +kernel⟩, List.mem_of_getElem? (i := 102) (by decide +kernel), List.mem_of_getElem? (i := 612) (by decide +kernel), List.mem_of_getElem? (i := 613) (by decide +kernel)⟩
theorem lw_p15 : lw_okq (⟨"DimStars$Text", "begin", "()V"⟩, 14) := ⟨⟨by decide +kernel, by decide +kernel⟩, List.mem_of_getElem? (i := 109) (by decide +kernel), List.mem_of_getElem? (i := 621) (by decide +kernel), List.mem_of_getElem? (i := 622) (by decide +kernel)⟩
def lw_privs_1 : List (MethodName × Nat) := [(⟨"DimStars$Sky", "addStar", "(III)I"⟩, 13), (⟨"DimStars$Sky", "placeFor", "(I)LDimStars$Star;"⟩, 13), (⟨"DimStars$Star", "begin", "(III)V"⟩, 4), (⟨"DimStars$Sky", "starAt", "(I)LDimStars$Star;"⟩, 13), (⟨"DimStars", "isStar", "(I)Z"⟩, 20), (⟨"DimStars$Look", "see", "(LDimStars$Sky;II)V"⟩, 8), (⟨"DimStars$Look", "turnOver", "([I)V"⟩, 8), (⟨"DimStars$Look", "moveSeasons", "([II)V"⟩, 8), (⟨"DimStars$Look", "cleanRow", "([II)V"⟩, 8), (⟨"DimStars$Look", "dropMasked", "(LDimStars$Sky;I)V"⟩, 8), (⟨"DimStars$Star", "mean", "()J"⟩, 4), (⟨"DimStars$Look", "markLow", "([IJ)V"⟩, 8), (⟨"DimStars$Look", "measure", "()V"⟩, 8), (⟨"DimStars$Sky", "addBytes", "(I)V"⟩, 13), (⟨"DimStars$Parser", "read", "([BII)I"⟩, 12), (⟨"DimStars$Text", "begin", "()V"⟩, 14)]
theorem lw_r1 : ∀ q ∈ lw_privs_1, lw_okq q := List.forall_mem_cons.mpr ⟨lw_p0, List.forall_mem_cons.mpr ⟨lw_p1, List.forall_mem_cons.mpr ⟨lw_p2, List.forall_mem_cons.mpr ⟨lw_p3, List.forall_mem_cons.mpr ⟨lw_p4, List.forall_mem_cons.mpr ⟨lw_p5, List.forall_mem_cons.mpr ⟨lw_p6, List.forall_mem_cons.mpr ⟨lw_p7, List.forall_mem_cons.mpr ⟨lw_p8, List.forall_mem_cons.mpr ⟨lw_p9, List.forall_mem_cons.mpr ⟨lw_p10, List.forall_mem_cons.mpr ⟨lw_p11, List.forall_mem_cons.mpr ⟨lw_p12, List.forall_mem_cons.mpr ⟨lw_p13, List.forall_mem_cons.mpr ⟨lw_p14, List.forall_mem_cons.mpr ⟨lw_p15, fun _ h => absurd h List.not_mem_nil⟩⟩⟩⟩⟩⟩⟩⟩⟩⟩⟩⟩⟩⟩⟩⟩
theorem lw_p16 : lw_okq (⟨"DimStars$Parser", "step", "()V"⟩, 12) := ⟨⟨by decide +kernel, by decide +kernel⟩, List.mem_of_getElem? (i := 102) (by decide +kernel), List.mem_of_getElem? (i := 625) (by decide +kernel), List.mem_of_getElem? (i := 626) (by decide +kernel)⟩
theorem lw_p17 : lw_okq (⟨"DimStars$Parser", "readClause", "(II)V"⟩, 12) := ⟨⟨by decide +kernel, by decide +kernel⟩, List.mem_of_getElem? (i := 102) (by decide +kernel), List.mem_of_getElem? (i := 629) (by decide +kernel), List.mem_of_getElem? (i := 630) (by decide +kernel)⟩
theorem lw_p18 : lw_okq (⟨"DimStars$Parser", "whichOf", "(Ljava/lang/String;)I"⟩, 12) := ⟨⟨by decide +kernel, by decide +kernel⟩, List.mem_of_getElem? (i := 102) (by decide +kernel), List.mem_of_getElem? (i := 636) (by decide +kernel), List.mem_of_getElem? (i := 637) (by decide +kernel)⟩
theorem lw_p19 : lw_okq (⟨"DimStars$Parser", "setFault", "(I)V"⟩, 12) := ⟨⟨by decide +kernel, by decide +kernel⟩, List.mem_of_getElem? (i := 102) (by decide +kernel), List.mem_of_getElem? (i := 688) (by decide +kernel), List.mem_of_getElem? (i := 689) (by decide +kernel)⟩
theorem lw_p20 : lw_okq (⟨"DimStars$Parser", "readSearch", "(I)V"⟩, 12) := ⟨⟨by decide +kernel, by decide +kernel⟩, List.mem_of_getElem? (i := 102) (by decide +kernel), List.mem_of_getElem? (i := 692) (by decide +kernel), List.mem_of_getElem? (i := 693) (by decide +kernel)⟩
theorem lw_p21 : lw_okq (⟨"DimStars$Parser", "readNumber", "(II)I"⟩, 12) := ⟨⟨by decide +kernel, by decide +kernel⟩, List.mem_of_getElem? (i := 102) (by decide +kernel), List.mem_of_getElem? (i := 696) (by decide +kernel), List.mem_of_getElem? (i := 697) (by decide +kernel)⟩
theorem lw_p22 : lw_okq (⟨"DimStars$Text", "openClause", "(I)V"⟩, 14) := ⟨⟨by decide +kernel, by decide +kernel⟩, List.mem_of_getElem? (i := 109) (by decide +kernel), List.mem_of_getElem? (i := 701) (by decide +kernel), List.mem_of_getElem? (i := 702) (by decide +kernel)⟩
theorem lw_p23 : lw_okq (⟨"DimStars$Parser", "readSum", "()V"⟩, 12) := ⟨⟨by decide +kernel, by decide +kernel⟩, List.mem_of_getElem? (i := 102) (by decide +kernel), List.mem_of_getElem? (i := 705) (by decide +kernel), List.mem_of_getElem? (i := 706) (by decide +kernel)⟩
theorem lw_p24 : lw_okq (⟨"DimStars$Parser", "readValue", "()V"⟩, 12) := ⟨⟨by decide +kernel, by decide +kernel⟩, List.mem_of_getElem? (i := 102) (by decide +kernel), List.mem_of_getElem? (i := 709) (by decide +kernel), List.mem_of_getElem? (i := 710) (by decide +kernel)⟩
theorem lw_p25 : lw_okq (⟨"DimStars$Text", "addCode", "(I)V"⟩, 14) := ⟨⟨by decide +kernel, by decide +kernel⟩, List.mem_of_getElem? (i := 109) (by decide +kernel), List.mem_of_getElem? (i := 714) (by decide +kernel), List.mem_of_getElem? (i := 715) (by decide +kernel)⟩
theorem lw_p26 : lw_okq (⟨"DimStars$Text", "endSum", "()V"⟩, 14) := ⟨⟨by decide +kernel, by decide +kernel⟩, List.mem_of_getElem? (i := 109) (by decide +kernel), List.mem_of_getElem? (i := 719) (by decide +kernel), List.mem_of_getElem? (i := 720) (by decide +kernel)⟩
theorem lw_p27 : lw_okq (⟨"DimStars$Parser", "readTest", "(I)V"⟩, 12) := ⟨⟨by decide +kernel, by decide +kernel⟩, List.mem_of_getElem? (i := 102) (by decide +kernel), List.mem_of_getElem? (i := 724) (by decide +kernel), List.mem_of_getElem? (i := 725) (by decide +kernel)⟩
theorem lw_p28 : lw_okq (⟨"DimStars$Parser", "readFact", "(I)V"⟩, 12) := ⟨⟨by decide +kernel, by decide +kernel⟩, List.mem_of_getElem? (i := 102) (by decide +kernel), List.mem_of_getElem? (i := 728) (by decide +kernel), List.mem_of_getElem? (i := 729) (by decide +kernel)⟩
theorem lw_p29 : lw_okq (⟨"DimStars$Parser", "expect", "(I)V"⟩, 12) := ⟨⟨by decide +kernel, by decide +kernel⟩, List.mem_of_getElem? (i := 102) (by decide +kernel), List.mem_of_getElem? (i := 734) (by decide +kernel), List.mem_of_getElem? (i := 735) (by decide +kernel)⟩
theorem lw_p30 : lw_okq (⟨"DimStars$Parser", "readSign", "()V"⟩, 12) := ⟨⟨by decide +kernel, by decide +kernel⟩, List.mem_of_getElem? (i := 102) (by decide +kernel), List.mem_of_getElem? (i := 738) (by decide +kernel), List.mem_of_getElem? (i := 739) (by decide +kernel)⟩
theorem lw_p31 : lw_okq (⟨"DimStars$Text", "closeClause", "()V"⟩, 14) := ⟨⟨by decide +kernel, by decide +kernel⟩, List.mem_of_getElem? (i := 109) (by decide +kernel), List.mem_of_getElem? (i := 745) (by decide +kernel), List.mem_of_getElem? (i := 746) (by decide +kernel)⟩
def lw_privs_2 : List (MethodName × Nat) := [(⟨"DimStars$Parser", "step", "()V"⟩, 12), (⟨"DimStars$Parser", "readClause", "(II)V"⟩, 12), (⟨"DimStars$Parser", "whichOf", "(Ljava/lang/String;)I"⟩, 12), (⟨"DimStars$Parser", "setFault", "(I)V"⟩, 12), (⟨"DimStars$Parser", "readSearch", "(I)V"⟩, 12), (⟨"DimStars$Parser", "readNumber", "(II)I"⟩, 12), (⟨"DimStars$Text", "openClause", "(I)V"⟩, 14), (⟨"DimStars$Parser", "readSum", "()V"⟩, 12), (⟨"DimStars$Parser", "readValue", "()V"⟩, 12), (⟨"DimStars$Text", "addCode", "(I)V"⟩, 14), (⟨"DimStars$Text", "endSum", "()V"⟩, 14), (⟨"DimStars$Parser", "readTest", "(I)V"⟩, 12), (⟨"DimStars$Parser", "readFact", "(I)V"⟩, 12), (⟨"DimStars$Parser", "expect", "(I)V"⟩, 12), (⟨"DimStars$Parser", "readSign", "()V"⟩, 12), (⟨"DimStars$Text", "closeClause", "()V"⟩, 14)]
theorem lw_r2 : ∀ q ∈ lw_privs_2, lw_okq q := List.forall_mem_cons.mpr ⟨lw_p16, List.forall_mem_cons.mpr ⟨lw_p17, List.forall_mem_cons.mpr ⟨lw_p18, List.forall_mem_cons.mpr ⟨lw_p19, List.forall_mem_cons.mpr ⟨lw_p20, List.forall_mem_cons.mpr ⟨lw_p21, List.forall_mem_cons.mpr ⟨lw_p22, List.forall_mem_cons.mpr ⟨lw_p23, List.forall_mem_cons.mpr ⟨lw_p24, List.forall_mem_cons.mpr ⟨lw_p25, List.forall_mem_cons.mpr ⟨lw_p26, List.forall_mem_cons.mpr ⟨lw_p27, List.forall_mem_cons.mpr ⟨lw_p28, List.forall_mem_cons.mpr ⟨lw_p29, List.forall_mem_cons.mpr ⟨lw_p30, List.forall_mem_cons.mpr ⟨lw_p31, fun _ h => absurd h List.not_mem_nil⟩⟩⟩⟩⟩⟩⟩⟩⟩⟩⟩⟩⟩⟩⟩⟩
theorem lw_p32 : lw_okq (⟨"DimStars$Parser", "handOver", "()LDimStars$Text;"⟩, 12) := ⟨⟨by decide +kernel, by decide +kernel⟩, List.mem_of_getElem? (i := 102) (by decide +kernel), List.mem_of_getElem? (i := 749) (by decide +kernel), List.mem_of_getElem? (i := 750) (by decide +kernel)⟩
theorem lw_p33 : lw_okq (⟨"DimStars", "keepText", "(IILDimStars$Text;)V"⟩, 20) := ⟨⟨by decide +kernel, by decide +kernel⟩, List.mem_of_getElem? (i := 22) (by decide +kernel), List.mem_of_getElem? (i := 753) (by decide +kernel), List.mem_of_getElem? (i := 754) (by decide +kernel)⟩
theorem lw_p34 : lw_okq (⟨"DimStars", "lawAt", "(I)LDimStars$Text;"⟩, 20) := ⟨⟨by decide +kernel, by decide +kernel⟩, List.mem_of_getElem? (i := 22) (by decide +kernel), List.mem_of_getElem? (i := 761) (by decide +kernel), List.mem_of_getElem? (i := 762) (by decide +kernel)⟩
theorem lw_p35 : lw_okq (⟨"DimStars$Reckoner", "brightness", "(LDimStars$Text;[J)J"⟩, 1) := ⟨⟨by decide +kernel, by decide +kernel⟩, List.mem_of_getElem? (i := 216) (by decide +kernel), List.mem_of_getElem? (i := 765) (by decide +kernel), List.mem_of_getElem? (i := 766) (by decide +kernel)⟩
theorem lw_p36 : lw_okq (⟨"DimStars$Reckoner", "holds", "(LDimStars$Text;I[J)Z"⟩, 1) := ⟨⟨by decide +kernel, by decide +kernel⟩, List.mem_of_getElem? (i := 216) (by decide +kernel), List.mem_of_getElem? (i := 769) (by decide +kernel), List.mem_of_getElem? (i := 770) (by decide +kernel)⟩
theorem lw_p37 : lw_okq (⟨"DimStars$Reckoner", "run", "(LDimStars$Text;II[J)J"⟩, 1) := ⟨⟨by decide +kernel, by decide +kernel⟩, List.mem_of_getElem? (i := 216) (by decide +kernel), List.mem_of_getElem? (i := 773) (by decide +kernel), List.mem_of_getElem? (i := 774) (by decide +kernel)⟩
theorem lw_p38 : lw_okq (⟨"DimStars$Sky", "dimming", "(II)J"⟩, 13) := ⟨⟨by decide +kernel, by decide +kernel⟩, List.mem_of_getElem? (i := 30) (by decide +kernel), List.mem_of_getElem? (i := 797) (by decide +kernel), List.mem_of_getElem? (i := 798) (by decide +kernel)⟩
theorem lw_p39 : lw_okq (⟨"DimStars$Sky", "worldAt", "(I)LDimStars$World;"⟩, 13) := ⟨⟨by decide +kernel, by decide +kernel⟩, List.mem_of_getElem? (i := 30) (by decide +kernel), List.mem_of_getElem? (i := 801) (by decide +kernel), List.mem_of_getElem? (i := 802) (by decide +kernel)⟩
theorem lw_p40 : lw_okq (⟨"DimStars$World", "isDipAt", "(I)Z"⟩, 6) := ⟨⟨by decide +kernel, by decide +kernel⟩, List.mem_of_getElem? (i := 563) (by decide +kernel), List.mem_of_getElem? (i := 805) (by decide +kernel), List.mem_of_getElem? (i := 806) (by decide +kernel)⟩
theorem lw_p41 : lw_okq (⟨"DimStars$Look", "tally", "(III)V"⟩, 8) := ⟨⟨by decide +kernel, by decide +kernel⟩, List.mem_of_getElem? (i := 227) (by decide +kernel), List.mem_of_getElem? (i := 819) (by decide +kernel), List.mem_of_getElem? (i := 820) (by decide +kernel)⟩
theorem lw_p42 : lw_okq (⟨"DimStars$Look", "deep", "()J"⟩, 8) := ⟨⟨by decide +kernel, by decide +kernel⟩, List.mem_of_getElem? (i := 227) (by decide +kernel), List.mem_of_getElem? (i := 826) (by decide +kernel), List.mem_of_getElem? (i := 827) (by decide +kernel)⟩
theorem lw_p43 : lw_okq (⟨"DimStars$Look", "dips", "(III)I"⟩, 8) := ⟨⟨by decide +kernel, by decide +kernel⟩, List.mem_of_getElem? (i := 227) (by decide +kernel), List.mem_of_getElem? (i := 833) (by decide +kernel), List.mem_of_getElem? (i := 834) (by decide +kernel)⟩
theorem lw_p44 : lw_okq (⟨"DimStars$Look", "hasNumber", "(II)Z"⟩, 8) := ⟨⟨by decide +kernel, by decide +kernel⟩, List.mem_of_getElem? (i := 227) (by decide +kernel), List.mem_of_getElem? (i := 837) (by decide +kernel), List.mem_of_getElem? (i := 838) (by decide +kernel)⟩
theorem lw_p45 : lw_okq (⟨"DimStars$Look", "score", "()J"⟩, 8) := ⟨⟨by decide +kernel, by decide +kernel⟩, List.mem_of_getElem? (i := 227) (by decide +kernel), List.mem_of_getElem? (i := 841) (by decide +kernel), List.mem_of_getElem? (i := 842) (by decide +kernel)⟩
theorem lw_p46 : lw_okq (⟨"DimStars", "searchAt", "(I)LDimStars$Text;"⟩, 20) := ⟨⟨by decide +kernel, by decide +kernel⟩, List.mem_of_getElem? (i := 22) (by decide +kernel), List.mem_of_getElem? (i := 849) (by decide +kernel), List.mem_of_getElem? (i := 850) (by decide +kernel)⟩
theorem lw_p47 : lw_okq (⟨"DimStars", "findingOf", "(III)LDimStars$Finding;"⟩, 20) := ⟨⟨by decide +kernel, by decide +kernel⟩, List.mem_of_getElem? (i := 22) (by decide +kernel), List.mem_of_getElem? (i := 854) (by decide +kernel), List.mem_of_getElem? (i := 855) (by decide +kernel)⟩
def lw_privs_3 : List (MethodName × Nat) := [(⟨"DimStars$Parser", "handOver", "()LDimStars$Text;"⟩, 12), (⟨"DimStars", "keepText", "(IILDimStars$Text;)V"⟩, 20), (⟨"DimStars", "lawAt", "(I)LDimStars$Text;"⟩, 20), (⟨"DimStars$Reckoner", "brightness", "(LDimStars$Text;[J)J"⟩, 1), (⟨"DimStars$Reckoner", "holds", "(LDimStars$Text;I[J)Z"⟩, 1), (⟨"DimStars$Reckoner", "run", "(LDimStars$Text;II[J)J"⟩, 1), (⟨"DimStars$Sky", "dimming", "(II)J"⟩, 13), (⟨"DimStars$Sky", "worldAt", "(I)LDimStars$World;"⟩, 13), (⟨"DimStars$World", "isDipAt", "(I)Z"⟩, 6), (⟨"DimStars$Look", "tally", "(III)V"⟩, 8), (⟨"DimStars$Look", "deep", "()J"⟩, 8), (⟨"DimStars$Look", "dips", "(III)I"⟩, 8), (⟨"DimStars$Look", "hasNumber", "(II)Z"⟩, 8), (⟨"DimStars$Look", "score", "()J"⟩, 8), (⟨"DimStars", "searchAt", "(I)LDimStars$Text;"⟩, 20), (⟨"DimStars", "findingOf", "(III)LDimStars$Finding;"⟩, 20)]
theorem lw_r3 : ∀ q ∈ lw_privs_3, lw_okq q := List.forall_mem_cons.mpr ⟨lw_p32, List.forall_mem_cons.mpr ⟨lw_p33, List.forall_mem_cons.mpr ⟨lw_p34, List.forall_mem_cons.mpr ⟨lw_p35, List.forall_mem_cons.mpr ⟨lw_p36, List.forall_mem_cons.mpr ⟨lw_p37, List.forall_mem_cons.mpr ⟨lw_p38, List.forall_mem_cons.mpr ⟨lw_p39, List.forall_mem_cons.mpr ⟨lw_p40, List.forall_mem_cons.mpr ⟨lw_p41, List.forall_mem_cons.mpr ⟨lw_p42, List.forall_mem_cons.mpr ⟨lw_p43, List.forall_mem_cons.mpr ⟨lw_p44, List.forall_mem_cons.mpr ⟨lw_p45, List.forall_mem_cons.mpr ⟨lw_p46, List.forall_mem_cons.mpr ⟨lw_p47, fun _ h => absurd h List.not_mem_nil⟩⟩⟩⟩⟩⟩⟩⟩⟩⟩⟩⟩⟩⟩⟩⟩
theorem lw_p48 : lw_okq (⟨"DimStars$Finder", "find", "(LDimStars$Look;LDimStars$Text;LDimStars$Finding;)V"⟩, 2) := ⟨⟨by decide +kernel, by decide +kernel⟩, List.mem_of_getElem? (i := 271) (by decide +kernel), List.mem_of_getElem? (i := 864) (by decide +kernel), List.mem_of_getElem? (i := 865) (by decide +kernel)⟩
theorem lw_p49 : lw_okq (⟨"DimStars$Finder", "foldBy", "(LDimStars$Look;I)V"⟩, 2) := ⟨⟨by decide +kernel, by decide +kernel⟩, List.mem_of_getElem? (i := 271) (by decide +kernel), List.mem_of_getElem? (i := 870) (by decide +kernel), List.mem_of_getElem? (i := 871) (by decide +kernel)⟩
theorem lw_p50 : lw_okq (⟨"DimStars$Finder", "tryBeat", "(LDimStars$Look;LDimStars$Text;ILDimStars$Finding;)V"⟩, 2) := ⟨⟨by decide +kernel, by decide +kernel⟩, List.mem_of_getElem? (i := 271) (by decide +kernel), List.mem_of_getElem? (i := 874) (by decide +kernel), List.mem_of_getElem? (i := 875) (by decide +kernel)⟩
theorem lw_p51 : lw_okq (⟨"DimStars$Finding", "isNone", "()Z"⟩, 7) := ⟨⟨by decide +kernel, by decide +kernel⟩, List.mem_of_getElem? (i := 303) (by decide +kernel), List.mem_of_getElem? (i := 880) (by decide +kernel), List.mem_of_getElem? (i := 881) (by decide +kernel)⟩
theorem lw_p52 : lw_okq (⟨"DimStars$Finding", "part", "(II)J"⟩, 7) := ⟨⟨by decide +kernel, by decide +kernel⟩, List.mem_of_getElem? (i := 303) (by decide +kernel), List.mem_of_getElem? (i := 886) (by decide +kernel), List.mem_of_getElem? (i := 887) (by decide +kernel)⟩
theorem lw_p53 : lw_okq (⟨"DimStars$Finding", "isSeen", "(I)Z"⟩, 7) := ⟨⟨by decide +kernel, by decide +kernel⟩, List.mem_of_getElem? (i := 303) (by decide +kernel), List.mem_of_getElem? (i := 890) (by decide +kernel), List.mem_of_getElem? (i := 891) (by decide +kernel)⟩
theorem lw_p54 : lw_okq (⟨"DimStars", "findingWith", "(II)LDimStars$Finding;"⟩, 20) := ⟨⟨by decide +kernel, by decide +kernel⟩, List.mem_of_getElem? (i := 22) (by decide +kernel), List.mem_of_getElem? (i := 906) (by decide +kernel), List.mem_of_getElem? (i := 907) (by decide +kernel)⟩
theorem lw_p55 : lw_okq (⟨"DimStars$Look", "addWorld", "(LDimStars$World;)V"⟩, 8) := ⟨⟨by decide +kernel, by decide +kernel⟩, List.mem_of_getElem? (i := 227) (by decide +kernel), List.mem_of_getElem? (i := 910) (by decide +kernel), List.mem_of_getElem? (i := 911) (by decide +kernel)⟩
theorem lw_p56 : lw_okq (⟨"DimStars$Finding", "isSeenWith", "(II)Z"⟩, 7) := ⟨⟨by decide +kernel, by decide +kernel⟩, List.mem_of_getElem? (i := 303) (by decide +kernel), List.mem_of_getElem? (i := 916) (by decide +kernel), List.mem_of_getElem? (i := 917) (by decide +kernel)⟩
theorem lw_p57 : lw_okq (⟨"DimStars", "caughtFrom", "(II)I"⟩, 20) := ⟨⟨by decide +kernel, by decide +kernel⟩, List.mem_of_getElem? (i := 22) (by decide +kernel), List.mem_of_getElem? (i := 924) (by decide +kernel), List.mem_of_getElem? (i := 925) (by decide +kernel)⟩
theorem lw_p58 : lw_okq (⟨"DimStars$Sky", "putIn", "()I"⟩, 13) := ⟨⟨by decide +kernel, by decide +kernel⟩, List.mem_of_getElem? (i := 30) (by decide +kernel), List.mem_of_getElem? (i := 928) (by decide +kernel), List.mem_of_getElem? (i := 929) (by decide +kernel)⟩
theorem lw_p59 : lw_okq (⟨"DimStars", "foundFrom", "(III)I"⟩, 20) := ⟨⟨by decide +kernel, by decide +kernel⟩, List.mem_of_getElem? (i := 22) (by decide +kernel), List.mem_of_getElem? (i := 940) (by decide +kernel), List.mem_of_getElem? (i := 941) (by decide +kernel)⟩
theorem lw_p60 : lw_okq (⟨"DimStars", "findAll", "(II)V"⟩, 20) := ⟨⟨by decide +kernel, by decide +kernel⟩, List.mem_of_getElem? (i := 22) (by decide +kernel), List.mem_of_getElem? (i := 955) (by decide +kernel), List.mem_of_getElem? (i := 956) (by decide +kernel)⟩
theorem lw_p61 : lw_okq (⟨"DimStars", "sameAs", "(IILDimStars$Finding;)I"⟩, 20) := ⟨⟨by decide +kernel, by decide +kernel⟩, List.mem_of_getElem? (i := 22) (by decide +kernel), List.mem_of_getElem? (i := 959) (by decide +kernel), List.mem_of_getElem? (i := 960) (by decide +kernel)⟩
theorem lw_p62 : lw_okq (⟨"DimStars", "knownOf", "(III)LDimStars$Finding;"⟩, 20) := ⟨⟨by decide +kernel, by decide +kernel⟩, List.mem_of_getElem? (i := 22) (by decide +kernel), List.mem_of_getElem? (i := 963) (by decide +kernel), List.mem_of_getElem? (i := 964) (by decide +kernel)⟩
theorem lw_p63 : lw_okq (⟨"DimStars$Signs", "read", "(LDimStars$Look;LDimStars$Finding;)V"⟩, 4) := ⟨⟨by decide +kernel, by decide +kernel⟩, List.mem_of_getElem? (i := 284) (by decide +kernel), List.mem_of_getElem? (i := 967) (by decide +kernel), List.mem_of_getElem? (i := 968) (by decide +kernel)⟩
def lw_privs_4 : List (MethodName × Nat) := [(⟨"DimStars$Finder", "find", "(LDimStars$Look;LDimStars$Text;LDimStars$Finding;)V"⟩, 2), (⟨"DimStars$Finder", "foldBy", "(LDimStars$Look;I)V"⟩, 2), (⟨"DimStars$Finder", "tryBeat", "(LDimStars$Look;LDimStars$Text;ILDimStars$Finding;)V"⟩, 2), (⟨"DimStars$Finding", "isNone", "()Z"⟩, 7), (⟨"DimStars$Finding", "part", "(II)J"⟩, 7), (⟨"DimStars$Finding", "isSeen", "(I)Z"⟩, 7), (⟨"DimStars", "findingWith", "(II)LDimStars$Finding;"⟩, 20), (⟨"DimStars$Look", "addWorld", "(LDimStars$World;)V"⟩, 8), (⟨"DimStars$Finding", "isSeenWith", "(II)Z"⟩, 7), (⟨"DimStars", "caughtFrom", "(II)I"⟩, 20), (⟨"DimStars$Sky", "putIn", "()I"⟩, 13), (⟨"DimStars", "foundFrom", "(III)I"⟩, 20), (⟨"DimStars", "findAll", "(II)V"⟩, 20), (⟨"DimStars", "sameAs", "(IILDimStars$Finding;)I"⟩, 20), (⟨"DimStars", "knownOf", "(III)LDimStars$Finding;"⟩, 20), (⟨"DimStars$Signs", "read", "(LDimStars$Look;LDimStars$Finding;)V"⟩, 4)]
theorem lw_r4 : ∀ q ∈ lw_privs_4, lw_okq q := List.forall_mem_cons.mpr ⟨lw_p48, List.forall_mem_cons.mpr ⟨lw_p49, List.forall_mem_cons.mpr ⟨lw_p50, List.forall_mem_cons.mpr ⟨lw_p51, List.forall_mem_cons.mpr ⟨lw_p52, List.forall_mem_cons.mpr ⟨lw_p53, List.forall_mem_cons.mpr ⟨lw_p54, List.forall_mem_cons.mpr ⟨lw_p55, List.forall_mem_cons.mpr ⟨lw_p56, List.forall_mem_cons.mpr ⟨lw_p57, List.forall_mem_cons.mpr ⟨lw_p58, List.forall_mem_cons.mpr ⟨lw_p59, List.forall_mem_cons.mpr ⟨lw_p60, List.forall_mem_cons.mpr ⟨lw_p61, List.forall_mem_cons.mpr ⟨lw_p62, List.forall_mem_cons.mpr ⟨lw_p63, fun _ h => absurd h List.not_mem_nil⟩⟩⟩⟩⟩⟩⟩⟩⟩⟩⟩⟩⟩⟩⟩⟩
theorem lw_p64 : lw_okq (⟨"DimStars$Signs", "addHours", "(LDimStars$Look;LDimStars$Finding;)V"⟩, 4) := ⟨⟨by decide +kernel, by decide +kernel⟩, List.mem_of_getElem? (i := 284) (by decide +kernel), List.mem_of_getElem? (i := 975) (by decide +kernel), List.mem_of_getElem? (i := 976) (by decide +kernel)⟩
theorem lw_p65 : lw_okq (⟨"DimStars$Signs", "add", "(II)V"⟩, 4) := ⟨⟨by decide +kernel, by decide +kernel⟩, List.mem_of_getElem? (i := 284) (by decide +kernel), List.mem_of_getElem? (i := 980) (by decide +kernel), List.mem_of_getElem? (i := 981) (by decide +kernel)⟩
theorem lw_p66 : lw_okq (⟨"DimStars$Signs", "readShifts", "(LDimStars$Look;LDimStars$Finding;)V"⟩, 4) := ⟨⟨by decide +kernel, by decide +kernel⟩, List.mem_of_getElem? (i := 284) (by decide +kernel), List.mem_of_getElem? (i := 988) (by decide +kernel), List.mem_of_getElem? (i := 989) (by decide +kernel)⟩
theorem lw_p67 : lw_okq (⟨"DimStars$Look", "shiftOf", "(II)I"⟩, 8) := ⟨⟨by decide +kernel, by decide +kernel⟩, List.mem_of_getElem? (i := 227) (by decide +kernel), List.mem_of_getElem? (i := 993) (by decide +kernel), List.mem_of_getElem? (i := 994) (by decide +kernel)⟩
theorem lw_p68 : lw_okq (⟨"DimStars$Signs", "part", "(I)I"⟩, 4) := ⟨⟨by decide +kernel, by decide +kernel⟩, List.mem_of_getElem? (i := 284) (by decide +kernel), List.mem_of_getElem? (i := 1000) (by decide +kernel), List.mem_of_getElem? (i := 1001) (by decide +kernel)⟩
theorem lw_p69 : lw_okq (⟨"DimStars$Signs", "gap", "(II)I"⟩, 4) := ⟨⟨by decide +kernel, by decide +kernel⟩, List.mem_of_getElem? (i := 284) (by decide +kernel), List.mem_of_getElem? (i := 1004) (by decide +kernel), List.mem_of_getElem? (i := 1005) (by decide +kernel)⟩
theorem lw_p70 : lw_okq (⟨"DimStars$Signs", "late", "()I"⟩, 4) := ⟨⟨by decide +kernel, by decide +kernel⟩, List.mem_of_getElem? (i := 284) (by decide +kernel), List.mem_of_getElem? (i := 1011) (by decide +kernel), List.mem_of_getElem? (i := 1012) (by decide +kernel)⟩
theorem lw_p71 : lw_okq (⟨"DimStars", "isWeighed", "(III)Z"⟩, 20) := ⟨⟨by decide +kernel, by decide +kernel⟩, List.mem_of_getElem? (i := 22) (by decide +kernel), List.mem_of_getElem? (i := 1026) (by decide +kernel), List.mem_of_getElem? (i := 1027) (by decide +kernel)⟩
theorem lw_p72 : lw_okq (⟨"DimStars", "sorterAt", "(I)LDimStars$Text;"⟩, 20) := ⟨⟨by decide +kernel, by decide +kernel⟩, List.mem_of_getElem? (i := 22) (by decide +kernel), List.mem_of_getElem? (i := 1030) (by decide +kernel), List.mem_of_getElem? (i := 1031) (by decide +kernel)⟩
theorem lw_p73 : lw_okq (⟨"DimStars", "weighAll", "(III)V"⟩, 20) := ⟨⟨by decide +kernel, by decide +kernel⟩, List.mem_of_getElem? (i := 22) (by decide +kernel), List.mem_of_getElem? (i := 1034) (by decide +kernel), List.mem_of_getElem? (i := 1035) (by decide +kernel)⟩
theorem lw_p74 : lw_okq (⟨"DimStars", "fillWords", "(II)V"⟩, 20) := ⟨⟨by decide +kernel, by decide +kernel⟩, List.mem_of_getElem? (i := 22) (by decide +kernel), List.mem_of_getElem? (i := 1038) (by decide +kernel), List.mem_of_getElem? (i := 1039) (by decide +kernel)⟩
theorem lw_p75 : lw_okq (⟨"DimStars$Sky", "sizeOf", "(I)J"⟩, 13) := ⟨⟨by decide +kernel, by decide +kernel⟩, List.mem_of_getElem? (i := 30) (by decide +kernel), List.mem_of_getElem? (i := 1042) (by decide +kernel), List.mem_of_getElem? (i := 1043) (by decide +kernel)⟩
theorem lw_p76 : lw_okq (⟨"DimStars$Reckoner", "weigh", "(LDimStars$Text;I[J)J"⟩, 1) := ⟨⟨by decide +kernel, by decide +kernel⟩, List.mem_of_getElem? (i := 216) (by decide +kernel), List.mem_of_getElem? (i := 1047) (by decide +kernel), List.mem_of_getElem? (i := 1048) (by decide +kernel)⟩
theorem lw_p77 : lw_okq (⟨"DimStars", "heaviest", "()I"⟩, 20) := ⟨⟨by decide +kernel, by decide +kernel⟩, List.mem_of_getElem? (i := 22) (by decide +kernel), List.mem_of_getElem? (i := 1056) (by decide +kernel), List.mem_of_getElem? (i := 1057) (by decide +kernel)⟩
theorem lw_p78 : lw_okq (⟨"DimStars$Sky", "luckOf", "(I)J"⟩, 13) := ⟨⟨by decide +kernel, by decide +kernel⟩, List.mem_of_getElem? (i := 30) (by decide +kernel), List.mem_of_getElem? (i := 1068) (by decide +kernel), List.mem_of_getElem? (i := 1069) (by decide +kernel)⟩
theorem lw_p79 : lw_okq (⟨"DimStars", "isSeenWorld", "(III)Z"⟩, 20) := ⟨⟨by decide +kernel, by decide +kernel⟩, List.mem_of_getElem? (i := 22) (by decide +kernel), List.mem_of_getElem? (i := 1072) (by decide +kernel), List.mem_of_getElem? (i := 1073) (by decide +kernel)⟩
def lw_privs_5 : List (MethodName × Nat) := [(⟨"DimStars$Signs", "addHours", "(LDimStars$Look;LDimStars$Finding;)V"⟩, 4), (⟨"DimStars$Signs", "add", "(II)V"⟩, 4), (⟨"DimStars$Signs", "readShifts", "(LDimStars$Look;LDimStars$Finding;)V"⟩, 4), (⟨"DimStars$Look", "shiftOf", "(II)I"⟩, 8), (⟨"DimStars$Signs", "part", "(I)I"⟩, 4), (⟨"DimStars$Signs", "gap", "(II)I"⟩, 4), (⟨"DimStars$Signs", "late", "()I"⟩, 4), (⟨"DimStars", "isWeighed", "(III)Z"⟩, 20), (⟨"DimStars", "sorterAt", "(I)LDimStars$Text;"⟩, 20), (⟨"DimStars", "weighAll", "(III)V"⟩, 20), (⟨"DimStars", "fillWords", "(II)V"⟩, 20), (⟨"DimStars$Sky", "sizeOf", "(I)J"⟩, 13), (⟨"DimStars$Reckoner", "weigh", "(LDimStars$Text;I[J)J"⟩, 1), (⟨"DimStars", "heaviest", "()I"⟩, 20), (⟨"DimStars$Sky", "luckOf", "(I)J"⟩, 13), (⟨"DimStars", "isSeenWorld", "(III)Z"⟩, 20)]
theorem lw_r5 : ∀ q ∈ lw_privs_5, lw_okq q := List.forall_mem_cons.mpr ⟨lw_p64, List.forall_mem_cons.mpr ⟨lw_p65, List.forall_mem_cons.mpr ⟨lw_p66, List.forall_mem_cons.mpr ⟨lw_p67, List.forall_mem_cons.mpr ⟨lw_p68, List.forall_mem_cons.mpr ⟨lw_p69, List.forall_mem_cons.mpr ⟨lw_p70, List.forall_mem_cons.mpr ⟨lw_p71, List.forall_mem_cons.mpr ⟨lw_p72, List.forall_mem_cons.mpr ⟨lw_p73, List.forall_mem_cons.mpr ⟨lw_p74, List.forall_mem_cons.mpr ⟨lw_p75, List.forall_mem_cons.mpr ⟨lw_p76, List.forall_mem_cons.mpr ⟨lw_p77, List.forall_mem_cons.mpr ⟨lw_p78, List.forall_mem_cons.mpr ⟨lw_p79, fun _ h => absurd h List.not_mem_nil⟩⟩⟩⟩⟩⟩⟩⟩⟩⟩⟩⟩⟩⟩⟩⟩
theorem lw_p80 : lw_okq (⟨"DimStars$Look", "dropDips", "(III)V"⟩, 8) := ⟨⟨by decide +kernel, by decide +kernel⟩, List.mem_of_getElem? (i := 227) (by decide +kernel), List.mem_of_getElem? (i := 1088) (by decide +kernel), List.mem_of_getElem? (i := 1089) (by decide +kernel)⟩
theorem lw_p81 : lw_okq (⟨"DimStars$Look", "scoreTwice", "(LDimStars$Finding;)J"⟩, 8) := ⟨⟨by decide +kernel, by decide +kernel⟩, List.mem_of_getElem? (i := 227) (by decide +kernel), List.mem_of_getElem? (i := 1100) (by decide +kernel), List.mem_of_getElem? (i := 1101) (by decide +kernel)⟩
theorem lw_p82 : lw_okq (⟨"DimStars$Look", "scoreHalf", "(LDimStars$Finding;)J"⟩, 8) := ⟨⟨by decide +kernel, by decide +kernel⟩, List.mem_of_getElem? (i := 227) (by decide +kernel), List.mem_of_getElem? (i := 1106) (by decide +kernel), List.mem_of_getElem? (i := 1107) (by decide +kernel)⟩
theorem lw_p83 : lw_okq (⟨"DimStars", "radiusOf", "(LDimStars$Finding;I)I"⟩, 20) := ⟨⟨by decide +kernel, by decide +kernel⟩, List.mem_of_getElem? (i := 22) (by decide +kernel), List.mem_of_getElem? (i := 1114) (by decide +kernel), List.mem_of_getElem? (i := 1115) (by decide +kernel)⟩
theorem lw_p84 : lw_okq (⟨"DimStars$Finding", "radiusAt", "(J)I"⟩, 7) := ⟨⟨by decide +kernel, by decide +kernel⟩, List.mem_of_getElem? (i := 303) (by decide +kernel), List.mem_of_getElem? (i := 1118) (by decide +kernel), List.mem_of_getElem? (i := 1119) (by decide +kernel)⟩
theorem lw_p85 : lw_okq (⟨"DimStars$Signs", "shifted", "()I"⟩, 4) := ⟨⟨by decide +kernel, by decide +kernel⟩, List.mem_of_getElem? (i := 284) (by decide +kernel), List.mem_of_getElem? (i := 1140) (by decide +kernel), List.mem_of_getElem? (i := 1141) (by decide +kernel)⟩
theorem lw_p86 : lw_okq (⟨"DimStars$Signs", "round", "()I"⟩, 4) := ⟨⟨by decide +kernel, by decide +kernel⟩, List.mem_of_getElem? (i := 284) (by decide +kernel), List.mem_of_getElem? (i := 1144) (by decide +kernel), List.mem_of_getElem? (i := 1145) (by decide +kernel)⟩
theorem lw_p87 : lw_okq (⟨"DimStars$Signs", "isRound", "(I)Z"⟩, 4) := ⟨⟨by decide +kernel, by decide +kernel⟩, List.mem_of_getElem? (i := 284) (by decide +kernel), List.mem_of_getElem? (i := 1148) (by decide +kernel), List.mem_of_getElem? (i := 1149) (by decide +kernel)⟩
theorem lw_p88 : lw_okq (⟨"DimStars$Sky", "stepUp", "([II)I"⟩, 13) := ⟨⟨by decide +kernel, by decide +kernel⟩, List.mem_of_getElem? (i := 30) (by decide +kernel), List.mem_of_getElem? (i := 1165) (by decide +kernel), List.mem_of_getElem? (i := 1166) (by decide +kernel)⟩
theorem lw_p89 : lw_okq (⟨"DimStars$Sky", "numbers", "()I"⟩, 13) := ⟨⟨by decide +kernel, by decide +kernel⟩, List.mem_of_getElem? (i := 30) (by decide +kernel), List.mem_of_getElem? (i := 1177) (by decide +kernel), List.mem_of_getElem? (i := 1178) (by decide +kernel)⟩
theorem lw_p90 : lw_okq (⟨"DimStars$Star", "numbers", "()I"⟩, 4) := ⟨⟨by decide +kernel, by decide +kernel⟩, List.mem_of_getElem? (i := 428) (by decide +kernel), List.mem_of_getElem? (i := 1181) (by decide +kernel), List.mem_of_getElem? (i := 1182) (by decide +kernel)⟩
theorem lw_p91 : lw_okq (⟨"DimStars$Sky", "become", "(LDimStars$Sky;)V"⟩, 13) := ⟨⟨by decide +kernel, by decide +kernel⟩, List.mem_of_getElem? (i := 30) (by decide +kernel), List.mem_of_getElem? (i := 1189) (by decide +kernel), List.mem_of_getElem? (i := 1190) (by decide +kernel)⟩
theorem lw_p92 : lw_okq (⟨"DimStars$Star", "become", "(LDimStars$Star;)V"⟩, 4) := ⟨⟨by decide +kernel, by decide +kernel⟩, List.mem_of_getElem? (i := 428) (by decide +kernel), List.mem_of_getElem? (i := 1193) (by decide +kernel), List.mem_of_getElem? (i := 1194) (by decide +kernel)⟩
theorem lw_p93 : lw_okq (⟨"DimStarsModel", "isStar", "(I)Z"⟩, 49) := ⟨⟨by decide +kernel, by decide +kernel⟩, List.mem_of_getElem? (i := 1203) (by decide +kernel), List.mem_of_getElem? (i := 1373) (by decide +kernel), List.mem_of_getElem? (i := 1374) (by decide +kernel)⟩
theorem lw_p94 : lw_okq (⟨"DimStarsModel", "starOf", "(II)I"⟩, 49) := ⟨⟨by decide +kernel, by decide +kernel⟩, List.mem_of_getElem? (i := 1203) (by decide +kernel), List.mem_of_getElem? (i := 1387) (by decide +kernel), List.mem_of_getElem? (i := 1388) (by decide +kernel)⟩
theorem lw_p95 : lw_okq (⟨"DimStarsModel", "means", "()V"⟩, 49) := ⟨⟨by decide +kernel, by decide +kernel⟩, List.mem_of_getElem? (i := 1203) (by decide +kernel), List.mem_of_getElem? (i := 1411) (by decide +kernel), List.mem_of_getElem? (i := 1412) (by decide +kernel)⟩
def lw_privs_6 : List (MethodName × Nat) := [(⟨"DimStars$Look", "dropDips", "(III)V"⟩, 8), (⟨"DimStars$Look", "scoreTwice", "(LDimStars$Finding;)J"⟩, 8), (⟨"DimStars$Look", "scoreHalf", "(LDimStars$Finding;)J"⟩, 8), (⟨"DimStars", "radiusOf", "(LDimStars$Finding;I)I"⟩, 20), (⟨"DimStars$Finding", "radiusAt", "(J)I"⟩, 7), (⟨"DimStars$Signs", "shifted", "()I"⟩, 4), (⟨"DimStars$Signs", "round", "()I"⟩, 4), (⟨"DimStars$Signs", "isRound", "(I)Z"⟩, 4), (⟨"DimStars$Sky", "stepUp", "([II)I"⟩, 13), (⟨"DimStars$Sky", "numbers", "()I"⟩, 13), (⟨"DimStars$Star", "numbers", "()I"⟩, 4), (⟨"DimStars$Sky", "become", "(LDimStars$Sky;)V"⟩, 13), (⟨"DimStars$Star", "become", "(LDimStars$Star;)V"⟩, 4), (⟨"DimStarsModel", "isStar", "(I)Z"⟩, 49), (⟨"DimStarsModel", "starOf", "(II)I"⟩, 49), (⟨"DimStarsModel", "means", "()V"⟩, 49)]
theorem lw_r6 : ∀ q ∈ lw_privs_6, lw_okq q := List.forall_mem_cons.mpr ⟨lw_p80, List.forall_mem_cons.mpr ⟨lw_p81, List.forall_mem_cons.mpr ⟨lw_p82, List.forall_mem_cons.mpr ⟨lw_p83, List.forall_mem_cons.mpr ⟨lw_p84, List.forall_mem_cons.mpr ⟨lw_p85, List.forall_mem_cons.mpr ⟨lw_p86, List.forall_mem_cons.mpr ⟨lw_p87, List.forall_mem_cons.mpr ⟨lw_p88, List.forall_mem_cons.mpr ⟨lw_p89, List.forall_mem_cons.mpr ⟨lw_p90, List.forall_mem_cons.mpr ⟨lw_p91, List.forall_mem_cons.mpr ⟨lw_p92, List.forall_mem_cons.mpr ⟨lw_p93, List.forall_mem_cons.mpr ⟨lw_p94, List.forall_mem_cons.mpr ⟨lw_p95, fun _ h => absurd h List.not_mem_nil⟩⟩⟩⟩⟩⟩⟩⟩⟩⟩⟩⟩⟩⟩⟩⟩
theorem lw_p96 : lw_okq (⟨"DimStarsModel", "meanOf", "(III)I"⟩, 49) := ⟨⟨by decide +kernel, by decide +kernel⟩, List.mem_of_getElem? (i := 1203) (by decide +kernel), List.mem_of_getElem? (i := 1415) (by decide +kernel), List.mem_of_getElem? (i := 1416) (by decide +kernel)⟩
theorem lw_p97 : lw_okq (⟨"DimStarsModel", "rowAt", "(II)I"⟩, 49) := ⟨⟨by decide +kernel, by decide +kernel⟩, List.mem_of_getElem? (i := 1203) (by decide +kernel), List.mem_of_getElem? (i := 1419) (by decide +kernel), List.mem_of_getElem? (i := 1420) (by decide +kernel)⟩
theorem lw_p98 : lw_okq (⟨"DimStarsModel", "seenAt", "(III)I"⟩, 49) := ⟨⟨by decide +kernel, by decide +kernel⟩, List.mem_of_getElem? (i := 1203) (by decide +kernel), List.mem_of_getElem? (i := 1426) (by decide +kernel), List.mem_of_getElem? (i := 1427) (by decide +kernel)⟩
theorem lw_p99 : lw_okq (⟨"DimStarsModel", "isMasked", "(II)Z"⟩, 49) := ⟨⟨by decide +kernel, by decide +kernel⟩, List.mem_of_getElem? (i := 1203) (by decide +kernel), List.mem_of_getElem? (i := 1433) (by decide +kernel), List.mem_of_getElem? (i := 1434) (by decide +kernel)⟩
theorem lw_p100 : lw_okq (⟨"DimStarsModel", "four", "(I)V"⟩, 49) := ⟨⟨by decide +kernel, by decide +kernel⟩, List.mem_of_getElem? (i := 1203) (by decide +kernel), List.mem_of_getElem? (i := 1451) (by decide +kernel), List.mem_of_getElem? (i := 1452) (by decide +kernel)⟩
theorem lw_p101 : lw_okq (⟨"DimStarsModel", "clauseHere", "()Z"⟩, 49) := ⟨⟨by decide +kernel, by decide +kernel⟩, List.mem_of_getElem? (i := 1203) (by decide +kernel), List.mem_of_getElem? (i := 1463) (by decide +kernel), List.mem_of_getElem? (i := 1464) (by decide +kernel)⟩
theorem lw_p102 : lw_okq (⟨"DimStarsModel", "see", "()I"⟩, 49) := ⟨⟨by decide +kernel, by decide +kernel⟩, List.mem_of_getElem? (i := 1203) (by decide +kernel), List.mem_of_getElem? (i := 1467) (by decide +kernel), List.mem_of_getElem? (i := 1468) (by decide +kernel)⟩
theorem lw_p103 : lw_okq (⟨"DimStarsModel", "isWord", "(J)Z"⟩, 49) := ⟨⟨by decide +kernel, by decide +kernel⟩, List.mem_of_getElem? (i := 1203) (by decide +kernel), List.mem_of_getElem? (i := 1472) (by decide +kernel), List.mem_of_getElem? (i := 1473) (by decide +kernel)⟩
theorem lw_p104 : lw_okq (⟨"DimStarsModel", "isLetter", "(I)Z"⟩, 49) := ⟨⟨by decide +kernel, by decide +kernel⟩, List.mem_of_getElem? (i := 1203) (by decide +kernel), List.mem_of_getElem? (i := 1476) (by decide +kernel), List.mem_of_getElem? (i := 1477) (by decide +kernel)⟩
theorem lw_p105 : lw_okq (⟨"DimStarsModel", "fails", "(II)Z"⟩, 49) := ⟨⟨by decide +kernel, by decide +kernel⟩, List.mem_of_getElem? (i := 1203) (by decide +kernel), List.mem_of_getElem? (i := 1490) (by decide +kernel), List.mem_of_getElem? (i := 1491) (by decide +kernel)⟩
theorem lw_p106 : lw_okq (⟨"DimStarsModel", "lawClause", "(I)Z"⟩, 49) := ⟨⟨by decide +kernel, by decide +kernel⟩, List.mem_of_getElem? (i := 1203) (by decide +kernel), List.mem_of_getElem? (i := 1494) (by decide +kernel), List.mem_of_getElem? (i := 1495) (by decide +kernel)⟩
theorem lw_p107 : lw_okq (⟨"DimStarsModel", "clauseOf", "(I)Z"⟩, 49) := ⟨⟨by decide +kernel, by decide +kernel⟩, List.mem_of_getElem? (i := 1203) (by decide +kernel), List.mem_of_getElem? (i := 1498) (by decide +kernel), List.mem_of_getElem? (i := 1499) (by decide +kernel)⟩
theorem lw_p108 : lw_okq (⟨"DimStarsModel", "passWord", "()V"⟩, 49) := ⟨⟨by decide +kernel, by decide +kernel⟩, List.mem_of_getElem? (i := 1203) (by decide +kernel), List.mem_of_getElem? (i := 1502) (by decide +kernel), List.mem_of_getElem? (i := 1503) (by decide +kernel)⟩
theorem lw_p109 : lw_okq (⟨"DimStarsModel", "sum", "()Z"⟩, 49) := ⟨⟨by decide +kernel, by decide +kernel⟩, List.mem_of_getElem? (i := 1203) (by decide +kernel), List.mem_of_getElem? (i := 1506) (by decide +kernel), List.mem_of_getElem? (i := 1507) (by decide +kernel)⟩
theorem lw_p110 : lw_okq (⟨"DimStarsModel", "term", "()Z"⟩, 49) := ⟨⟨by decide +kernel, by decide +kernel⟩, List.mem_of_getElem? (i := 1203) (by decide +kernel), List.mem_of_getElem? (i := 1510) (by decide +kernel), List.mem_of_getElem? (i := 1511) (by decide +kernel)⟩
theorem lw_p111 : lw_okq (⟨"DimStarsModel", "value", "()Z"⟩, 49) := ⟨⟨by decide +kernel, by decide +kernel⟩, List.mem_of_getElem? (i := 1203) (by decide +kernel), List.mem_of_getElem? (i := 1514) (by decide +kernel), List.mem_of_getElem? (i := 1515) (by decide +kernel)⟩
def lw_privs_7 : List (MethodName × Nat) := [(⟨"DimStarsModel", "meanOf", "(III)I"⟩, 49), (⟨"DimStarsModel", "rowAt", "(II)I"⟩, 49), (⟨"DimStarsModel", "seenAt", "(III)I"⟩, 49), (⟨"DimStarsModel", "isMasked", "(II)Z"⟩, 49), (⟨"DimStarsModel", "four", "(I)V"⟩, 49), (⟨"DimStarsModel", "clauseHere", "()Z"⟩, 49), (⟨"DimStarsModel", "see", "()I"⟩, 49), (⟨"DimStarsModel", "isWord", "(J)Z"⟩, 49), (⟨"DimStarsModel", "isLetter", "(I)Z"⟩, 49), (⟨"DimStarsModel", "fails", "(II)Z"⟩, 49), (⟨"DimStarsModel", "lawClause", "(I)Z"⟩, 49), (⟨"DimStarsModel", "clauseOf", "(I)Z"⟩, 49), (⟨"DimStarsModel", "passWord", "()V"⟩, 49), (⟨"DimStarsModel", "sum", "()Z"⟩, 49), (⟨"DimStarsModel", "term", "()Z"⟩, 49), (⟨"DimStarsModel", "value", "()Z"⟩, 49)]
theorem lw_r7 : ∀ q ∈ lw_privs_7, lw_okq q := List.forall_mem_cons.mpr ⟨lw_p96, List.forall_mem_cons.mpr ⟨lw_p97, List.forall_mem_cons.mpr ⟨lw_p98, List.forall_mem_cons.mpr ⟨lw_p99, List.forall_mem_cons.mpr ⟨lw_p100, List.forall_mem_cons.mpr ⟨lw_p101, List.forall_mem_cons.mpr ⟨lw_p102, List.forall_mem_cons.mpr ⟨lw_p103, List.forall_mem_cons.mpr ⟨lw_p104, List.forall_mem_cons.mpr ⟨lw_p105, List.forall_mem_cons.mpr ⟨lw_p106, List.forall_mem_cons.mpr ⟨lw_p107, List.forall_mem_cons.mpr ⟨lw_p108, List.forall_mem_cons.mpr ⟨lw_p109, List.forall_mem_cons.mpr ⟨lw_p110, List.forall_mem_cons.mpr ⟨lw_p111, fun _ h => absurd h List.not_mem_nil⟩⟩⟩⟩⟩⟩⟩⟩⟩⟩⟩⟩⟩⟩⟩⟩
theorem lw_p112 : lw_okq (⟨"DimStarsModel", "isDigit", "(I)Z"⟩, 49) := ⟨⟨by decide +kernel, by decide +kernel⟩, List.mem_of_getElem? (i := 1203) (by decide +kernel), List.mem_of_getElem? (i := 1518) (by decide +kernel), List.mem_of_getElem? (i := 1519) (by decide +kernel)⟩
theorem lw_p113 : lw_okq (⟨"DimStarsModel", "number", "(II)Z"⟩, 49) := ⟨⟨by decide +kernel, by decide +kernel⟩, List.mem_of_getElem? (i := 1203) (by decide +kernel), List.mem_of_getElem? (i := 1523) (by decide +kernel), List.mem_of_getElem? (i := 1524) (by decide +kernel)⟩
theorem lw_p114 : lw_okq (⟨"DimStarsModel", "makes", "(I)Z"⟩, 49) := ⟨⟨by decide +kernel, by decide +kernel⟩, List.mem_of_getElem? (i := 1203) (by decide +kernel), List.mem_of_getElem? (i := 1527) (by decide +kernel), List.mem_of_getElem? (i := 1528) (by decide +kernel)⟩
theorem lw_p115 : lw_okq (⟨"DimStarsModel", "puts", "(II)V"⟩, 49) := ⟨⟨by decide +kernel, by decide +kernel⟩, List.mem_of_getElem? (i := 1203) (by decide +kernel), List.mem_of_getElem? (i := 1531) (by decide +kernel), List.mem_of_getElem? (i := 1532) (by decide +kernel)⟩
theorem lw_p116 : lw_okq (⟨"DimStarsModel", "wordHere", "()I"⟩, 49) := ⟨⟨by decide +kernel, by decide +kernel⟩, List.mem_of_getElem? (i := 1203) (by decide +kernel), List.mem_of_getElem? (i := 1535) (by decide +kernel), List.mem_of_getElem? (i := 1536) (by decide +kernel)⟩
theorem lw_p117 : lw_okq (⟨"DimStarsModel", "takesWord", "(J)Z"⟩, 49) := ⟨⟨by decide +kernel, by decide +kernel⟩, List.mem_of_getElem? (i := 1203) (by decide +kernel), List.mem_of_getElem? (i := 1552) (by decide +kernel), List.mem_of_getElem? (i := 1553) (by decide +kernel)⟩
theorem lw_p118 : lw_okq (⟨"DimStarsModel", "tested", "()Z"⟩, 49) := ⟨⟨by decide +kernel, by decide +kernel⟩, List.mem_of_getElem? (i := 1203) (by decide +kernel), List.mem_of_getElem? (i := 1556) (by decide +kernel), List.mem_of_getElem? (i := 1557) (by decide +kernel)⟩
theorem lw_p119 : lw_okq (⟨"DimStarsModel", "fact", "()Z"⟩, 49) := ⟨⟨by decide +kernel, by decide +kernel⟩, List.mem_of_getElem? (i := 1203) (by decide +kernel), List.mem_of_getElem? (i := 1560) (by decide +kernel), List.mem_of_getElem? (i := 1561) (by decide +kernel)⟩
theorem lw_p120 : lw_okq (⟨"DimStarsModel", "opens", "(I)Z"⟩, 49) := ⟨⟨by decide +kernel, by decide +kernel⟩, List.mem_of_getElem? (i := 1203) (by decide +kernel), List.mem_of_getElem? (i := 1565) (by decide +kernel), List.mem_of_getElem? (i := 1566) (by decide +kernel)⟩
theorem lw_p121 : lw_okq (⟨"DimStarsModel", "compare", "()Z"⟩, 49) := ⟨⟨by decide +kernel, by decide +kernel⟩, List.mem_of_getElem? (i := 1203) (by decide +kernel), List.mem_of_getElem? (i := 1569) (by decide +kernel), List.mem_of_getElem? (i := 1570) (by decide +kernel)⟩
theorem lw_p122 : lw_okq (⟨"DimStarsModel", "closes", "()V"⟩, 49) := ⟨⟨by decide +kernel, by decide +kernel⟩, List.mem_of_getElem? (i := 1203) (by decide +kernel), List.mem_of_getElem? (i := 1573) (by decide +kernel), List.mem_of_getElem? (i := 1574) (by decide +kernel)⟩
theorem lw_p123 : lw_okq (⟨"DimStarsModel", "settles", "(I)V"⟩, 49) := ⟨⟨by decide +kernel, by decide +kernel⟩, List.mem_of_getElem? (i := 1203) (by decide +kernel), List.mem_of_getElem? (i := 1577) (by decide +kernel), List.mem_of_getElem? (i := 1578) (by decide +kernel)⟩
theorem lw_p124 : lw_okq (⟨"DimStarsModel", "isInside", "()Z"⟩, 49) := ⟨⟨by decide +kernel, by decide +kernel⟩, List.mem_of_getElem? (i := 1203) (by decide +kernel), List.mem_of_getElem? (i := 1584) (by decide +kernel), List.mem_of_getElem? (i := 1585) (by decide +kernel)⟩
theorem lw_p125 : lw_okq (⟨"DimStarsModel", "sets", "([IIII)Z"⟩, 49) := ⟨⟨by decide +kernel, by decide +kernel⟩, List.mem_of_getElem? (i := 1203) (by decide +kernel), List.mem_of_getElem? (i := 1590) (by decide +kernel), List.mem_of_getElem? (i := 1591) (by decide +kernel)⟩
theorem lw_p126 : lw_okq (⟨"DimStarsModel", "searchClause", "(I)Z"⟩, 49) := ⟨⟨by decide +kernel, by decide +kernel⟩, List.mem_of_getElem? (i := 1203) (by decide +kernel), List.mem_of_getElem? (i := 1594) (by decide +kernel), List.mem_of_getElem? (i := 1595) (by decide +kernel)⟩
theorem lw_p127 : lw_okq (⟨"DimStarsModel", "spans", "([I[IIII)Z"⟩, 49) := ⟨⟨by decide +kernel, by decide +kernel⟩, List.mem_of_getElem? (i := 1203) (by decide +kernel), List.mem_of_getElem? (i := 1598) (by decide +kernel), List.mem_of_getElem? (i := 1599) (by decide +kernel)⟩
def lw_privs_8 : List (MethodName × Nat) := [(⟨"DimStarsModel", "isDigit", "(I)Z"⟩, 49), (⟨"DimStarsModel", "number", "(II)Z"⟩, 49), (⟨"DimStarsModel", "makes", "(I)Z"⟩, 49), (⟨"DimStarsModel", "puts", "(II)V"⟩, 49), (⟨"DimStarsModel", "wordHere", "()I"⟩, 49), (⟨"DimStarsModel", "takesWord", "(J)Z"⟩, 49), (⟨"DimStarsModel", "tested", "()Z"⟩, 49), (⟨"DimStarsModel", "fact", "()Z"⟩, 49), (⟨"DimStarsModel", "opens", "(I)Z"⟩, 49), (⟨"DimStarsModel", "compare", "()Z"⟩, 49), (⟨"DimStarsModel", "closes", "()V"⟩, 49), (⟨"DimStarsModel", "settles", "(I)V"⟩, 49), (⟨"DimStarsModel", "isInside", "()Z"⟩, 49), (⟨"DimStarsModel", "sets", "([IIII)Z"⟩, 49), (⟨"DimStarsModel", "searchClause", "(I)Z"⟩, 49), (⟨"DimStarsModel", "spans", "([I[IIII)Z"⟩, 49)]
theorem lw_r8 : ∀ q ∈ lw_privs_8, lw_okq q := List.forall_mem_cons.mpr ⟨lw_p112, List.forall_mem_cons.mpr ⟨lw_p113, List.forall_mem_cons.mpr ⟨lw_p114, List.forall_mem_cons.mpr ⟨lw_p115, List.forall_mem_cons.mpr ⟨lw_p116, List.forall_mem_cons.mpr ⟨lw_p117, List.forall_mem_cons.mpr ⟨lw_p118, List.forall_mem_cons.mpr ⟨lw_p119, List.forall_mem_cons.mpr ⟨lw_p120, List.forall_mem_cons.mpr ⟨lw_p121, List.forall_mem_cons.mpr ⟨lw_p122, List.forall_mem_cons.mpr ⟨lw_p123, List.forall_mem_cons.mpr ⟨lw_p124, List.forall_mem_cons.mpr ⟨lw_p125, List.forall_mem_cons.mpr ⟨lw_p126, List.forall_mem_cons.mpr ⟨lw_p127, fun _ h => absurd h List.not_mem_nil⟩⟩⟩⟩⟩⟩⟩⟩⟩⟩⟩⟩⟩⟩⟩⟩
theorem lw_p128 : lw_okq (⟨"DimStarsModel", "isText", "(II)Z"⟩, 49) := ⟨⟨by decide +kernel, by decide +kernel⟩, List.mem_of_getElem? (i := 1203) (by decide +kernel), List.mem_of_getElem? (i := 1606) (by decide +kernel), List.mem_of_getElem? (i := 1607) (by decide +kernel)⟩
theorem lw_p129 : lw_okq (⟨"DimStarsModel", "isHolding", "(II)Z"⟩, 49) := ⟨⟨by decide +kernel, by decide +kernel⟩, List.mem_of_getElem? (i := 1203) (by decide +kernel), List.mem_of_getElem? (i := 1610) (by decide +kernel), List.mem_of_getElem? (i := 1611) (by decide +kernel)⟩
theorem lw_p130 : lw_okq (⟨"DimStarsModel", "reckons", "(III)J"⟩, 49) := ⟨⟨by decide +kernel, by decide +kernel⟩, List.mem_of_getElem? (i := 1203) (by decide +kernel), List.mem_of_getElem? (i := 1614) (by decide +kernel), List.mem_of_getElem? (i := 1615) (by decide +kernel)⟩
theorem lw_p131 : lw_okq (⟨"DimStarsModel", "push", "(J)V"⟩, 49) := ⟨⟨by decide +kernel, by decide +kernel⟩, List.mem_of_getElem? (i := 1203) (by decide +kernel), List.mem_of_getElem? (i := 1618) (by decide +kernel), List.mem_of_getElem? (i := 1619) (by decide +kernel)⟩
theorem lw_p132 : lw_okq (⟨"DimStarsModel", "pop", "()J"⟩, 49) := ⟨⟨by decide +kernel, by decide +kernel⟩, List.mem_of_getElem? (i := 1203) (by decide +kernel), List.mem_of_getElem? (i := 1622) (by decide +kernel), List.mem_of_getElem? (i := 1623) (by decide +kernel)⟩
theorem lw_p133 : lw_okq (⟨"DimStarsModel", "summed", "(II)J"⟩, 49) := ⟨⟨by decide +kernel, by decide +kernel⟩, List.mem_of_getElem? (i := 1203) (by decide +kernel), List.mem_of_getElem? (i := 1629) (by decide +kernel), List.mem_of_getElem? (i := 1630) (by decide +kernel)⟩
theorem lw_p134 : lw_okq (⟨"DimStarsModel", "worldOf", "(II)I"⟩, 49) := ⟨⟨by decide +kernel, by decide +kernel⟩, List.mem_of_getElem? (i := 1203) (by decide +kernel), List.mem_of_getElem? (i := 1635) (by decide +kernel), List.mem_of_getElem? (i := 1636) (by decide +kernel)⟩
theorem lw_p135 : lw_okq (⟨"DimStarsModel", "isDip", "(II)Z"⟩, 49) := ⟨⟨by decide +kernel, by decide +kernel⟩, List.mem_of_getElem? (i := 1203) (by decide +kernel), List.mem_of_getElem? (i := 1639) (by decide +kernel), List.mem_of_getElem? (i := 1640) (by decide +kernel)⟩
theorem lw_p136 : lw_okq (⟨"DimStarsModel", "lifts", "(II)V"⟩, 49) := ⟨⟨by decide +kernel, by decide +kernel⟩, List.mem_of_getElem? (i := 1203) (by decide +kernel), List.mem_of_getElem? (i := 1652) (by decide +kernel), List.mem_of_getElem? (i := 1653) (by decide +kernel)⟩
theorem lw_p137 : lw_okq (⟨"DimStarsModel", "counts", "()V"⟩, 49) := ⟨⟨by decide +kernel, by decide +kernel⟩, List.mem_of_getElem? (i := 1203) (by decide +kernel), List.mem_of_getElem? (i := 1656) (by decide +kernel), List.mem_of_getElem? (i := 1657) (by decide +kernel)⟩
theorem lw_p138 : lw_okq (⟨"DimStarsModel", "takesIn", "(III)V"⟩, 49) := ⟨⟨by decide +kernel, by decide +kernel⟩, List.mem_of_getElem? (i := 1203) (by decide +kernel), List.mem_of_getElem? (i := 1668) (by decide +kernel), List.mem_of_getElem? (i := 1669) (by decide +kernel)⟩
theorem lw_p139 : lw_okq (⟨"DimStarsModel", "isNumber", "(I)Z"⟩, 49) := ⟨⟨by decide +kernel, by decide +kernel⟩, List.mem_of_getElem? (i := 1203) (by decide +kernel), List.mem_of_getElem? (i := 1672) (by decide +kernel), List.mem_of_getElem? (i := 1673) (by decide +kernel)⟩
theorem lw_p140 : lw_okq (⟨"DimStarsModel", "dipsOf", "(III)I"⟩, 49) := ⟨⟨by decide +kernel, by decide +kernel⟩, List.mem_of_getElem? (i := 1203) (by decide +kernel), List.mem_of_getElem? (i := 1682) (by decide +kernel), List.mem_of_getElem? (i := 1683) (by decide +kernel)⟩
theorem lw_p141 : lw_okq (⟨"DimStarsModel", "hasHour", "(II)Z"⟩, 49) := ⟨⟨by decide +kernel, by decide +kernel⟩, List.mem_of_getElem? (i := 1203) (by decide +kernel), List.mem_of_getElem? (i := 1686) (by decide +kernel), List.mem_of_getElem? (i := 1687) (by decide +kernel)⟩
theorem lw_p142 : lw_okq (⟨"DimStarsModel", "deepBy", "(JIJI)J"⟩, 49) := ⟨⟨by decide +kernel, by decide +kernel⟩, List.mem_of_getElem? (i := 1203) (by decide +kernel), List.mem_of_getElem? (i := 1691) (by decide +kernel), List.mem_of_getElem? (i := 1692) (by decide +kernel)⟩
theorem lw_p143 : lw_okq (⟨"DimStarsModel", "scoreTried", "(III)J"⟩, 49) := ⟨⟨by decide +kernel, by decide +kernel⟩, List.mem_of_getElem? (i := 1203) (by decide +kernel), List.mem_of_getElem? (i := 1695) (by decide +kernel), List.mem_of_getElem? (i := 1696) (by decide +kernel)⟩
def lw_privs_9 : List (MethodName × Nat) := [(⟨"DimStarsModel", "isText", "(II)Z"⟩, 49), (⟨"DimStarsModel", "isHolding", "(II)Z"⟩, 49), (⟨"DimStarsModel", "reckons", "(III)J"⟩, 49), (⟨"DimStarsModel", "push", "(J)V"⟩, 49), (⟨"DimStarsModel", "pop", "()J"⟩, 49), (⟨"DimStarsModel", "summed", "(II)J"⟩, 49), (⟨"DimStarsModel", "worldOf", "(II)I"⟩, 49), (⟨"DimStarsModel", "isDip", "(II)Z"⟩, 49), (⟨"DimStarsModel", "lifts", "(II)V"⟩, 49), (⟨"DimStarsModel", "counts", "()V"⟩, 49), (⟨"DimStarsModel", "takesIn", "(III)V"⟩, 49), (⟨"DimStarsModel", "isNumber", "(I)Z"⟩, 49), (⟨"DimStarsModel", "dipsOf", "(III)I"⟩, 49), (⟨"DimStarsModel", "hasHour", "(II)Z"⟩, 49), (⟨"DimStarsModel", "deepBy", "(JIJI)J"⟩, 49), (⟨"DimStarsModel", "scoreTried", "(III)J"⟩, 49)]
theorem lw_r9 : ∀ q ∈ lw_privs_9, lw_okq q := List.forall_mem_cons.mpr ⟨lw_p128, List.forall_mem_cons.mpr ⟨lw_p129, List.forall_mem_cons.mpr ⟨lw_p130, List.forall_mem_cons.mpr ⟨lw_p131, List.forall_mem_cons.mpr ⟨lw_p132, List.forall_mem_cons.mpr ⟨lw_p133, List.forall_mem_cons.mpr ⟨lw_p134, List.forall_mem_cons.mpr ⟨lw_p135, List.forall_mem_cons.mpr ⟨lw_p136, List.forall_mem_cons.mpr ⟨lw_p137, List.forall_mem_cons.mpr ⟨lw_p138, List.forall_mem_cons.mpr ⟨lw_p139, List.forall_mem_cons.mpr ⟨lw_p140, List.forall_mem_cons.mpr ⟨lw_p141, List.forall_mem_cons.mpr ⟨lw_p142, List.forall_mem_cons.mpr ⟨lw_p143, fun _ h => absurd h List.not_mem_nil⟩⟩⟩⟩⟩⟩⟩⟩⟩⟩⟩⟩⟩⟩⟩⟩
theorem lw_p144 : lw_okq (⟨"DimStarsModel", "scoreOf", "(JI)J"⟩, 49) := ⟨⟨by decide +kernel, by decide +kernel⟩, List.mem_of_getElem? (i := 1203) (by decide +kernel), List.mem_of_getElem? (i := 1699) (by decide +kernel), List.mem_of_getElem? (i := 1700) (by decide +kernel)⟩
theorem lw_p145 : lw_okq (⟨"DimStarsModel", "finds", "(III)Z"⟩, 49) := ⟨⟨by decide +kernel, by decide +kernel⟩, List.mem_of_getElem? (i := 1203) (by decide +kernel), List.mem_of_getElem? (i := 1709) (by decide +kernel), List.mem_of_getElem? (i := 1710) (by decide +kernel)⟩
theorem lw_p146 : lw_okq (⟨"DimStarsModel", "seeks", "(I)Z"⟩, 49) := ⟨⟨by decide +kernel, by decide +kernel⟩, List.mem_of_getElem? (i := 1203) (by decide +kernel), List.mem_of_getElem? (i := 1713) (by decide +kernel), List.mem_of_getElem? (i := 1714) (by decide +kernel)⟩
theorem lw_p147 : lw_okq (⟨"DimStarsModel", "rests", "(I)V"⟩, 49) := ⟨⟨by decide +kernel, by decide +kernel⟩, List.mem_of_getElem? (i := 1203) (by decide +kernel), List.mem_of_getElem? (i := 1717) (by decide +kernel), List.mem_of_getElem? (i := 1718) (by decide +kernel)⟩
theorem lw_p148 : lw_okq (⟨"DimStarsModel", "tries", "(IIII)V"⟩, 49) := ⟨⟨by decide +kernel, by decide +kernel⟩, List.mem_of_getElem? (i := 1203) (by decide +kernel), List.mem_of_getElem? (i := 1721) (by decide +kernel), List.mem_of_getElem? (i := 1722) (by decide +kernel)⟩
theorem lw_p149 : lw_okq (⟨"DimStarsModel", "tells", "(II)J"⟩, 49) := ⟨⟨by decide +kernel, by decide +kernel⟩, List.mem_of_getElem? (i := 1203) (by decide +kernel), List.mem_of_getElem? (i := 1725) (by decide +kernel), List.mem_of_getElem? (i := 1726) (by decide +kernel)⟩
theorem lw_p150 : lw_okq (⟨"DimStarsModel", "isSeen", "(I)Z"⟩, 49) := ⟨⟨by decide +kernel, by decide +kernel⟩, List.mem_of_getElem? (i := 1203) (by decide +kernel), List.mem_of_getElem? (i := 1729) (by decide +kernel), List.mem_of_getElem? (i := 1730) (by decide +kernel)⟩
theorem lw_p151 : lw_okq (⟨"DimStarsModel", "isPut", "(I)Z"⟩, 49) := ⟨⟨by decide +kernel, by decide +kernel⟩, List.mem_of_getElem? (i := 1203) (by decide +kernel), List.mem_of_getElem? (i := 1737) (by decide +kernel), List.mem_of_getElem? (i := 1738) (by decide +kernel)⟩
theorem lw_p152 : lw_okq (⟨"DimStarsModel", "isCaught", "(II)Z"⟩, 49) := ⟨⟨by decide +kernel, by decide +kernel⟩, List.mem_of_getElem? (i := 1203) (by decide +kernel), List.mem_of_getElem? (i := 1741) (by decide +kernel), List.mem_of_getElem? (i := 1742) (by decide +kernel)⟩
theorem lw_p153 : lw_okq (⟨"DimStarsModel", "findsPut", "(II)Z"⟩, 49) := ⟨⟨by decide +kernel, by decide +kernel⟩, List.mem_of_getElem? (i := 1203) (by decide +kernel), List.mem_of_getElem? (i := 1745) (by decide +kernel), List.mem_of_getElem? (i := 1746) (by decide +kernel)⟩
theorem lw_p154 : lw_okq (⟨"DimStarsModel", "putIn", "()I"⟩, 49) := ⟨⟨by decide +kernel, by decide +kernel⟩, List.mem_of_getElem? (i := 1203) (by decide +kernel), List.mem_of_getElem? (i := 1753) (by decide +kernel), List.mem_of_getElem? (i := 1754) (by decide +kernel)⟩
theorem lw_p155 : lw_okq (⟨"DimStarsModel", "caughtBy", "(I)I"⟩, 49) := ⟨⟨by decide +kernel, by decide +kernel⟩, List.mem_of_getElem? (i := 1203) (by decide +kernel), List.mem_of_getElem? (i := 1757) (by decide +kernel), List.mem_of_getElem? (i := 1758) (by decide +kernel)⟩
theorem lw_p156 : lw_okq (⟨"DimStarsModel", "deepHalf", "(I)J"⟩, 49) := ⟨⟨by decide +kernel, by decide +kernel⟩, List.mem_of_getElem? (i := 1203) (by decide +kernel), List.mem_of_getElem? (i := 1778) (by decide +kernel), List.mem_of_getElem? (i := 1779) (by decide +kernel)⟩
theorem lw_p157 : lw_okq (⟨"DimStarsModel", "gathers", "(I)V"⟩, 49) := ⟨⟨by decide +kernel, by decide +kernel⟩, List.mem_of_getElem? (i := 1203) (by decide +kernel), List.mem_of_getElem? (i := 1782) (by decide +kernel), List.mem_of_getElem? (i := 1783) (by decide +kernel)⟩
theorem lw_p158 : lw_okq (⟨"DimStarsModel", "oddness", "()J"⟩, 49) := ⟨⟨by decide +kernel, by decide +kernel⟩, List.mem_of_getElem? (i := 1203) (by decide +kernel), List.mem_of_getElem? (i := 1786) (by decide +kernel), List.mem_of_getElem? (i := 1787) (by decide +kernel)⟩
theorem lw_p159 : lw_okq (⟨"DimStarsModel", "shapeOf", "()J"⟩, 49) := ⟨⟨by decide +kernel, by decide +kernel⟩, List.mem_of_getElem? (i := 1203) (by decide +kernel), List.mem_of_getElem? (i := 1790) (by decide +kernel), List.mem_of_getElem? (i := 1791) (by decide +kernel)⟩
def lw_privs_10 : List (MethodName × Nat) := [(⟨"DimStarsModel", "scoreOf", "(JI)J"⟩, 49), (⟨"DimStarsModel", "finds", "(III)Z"⟩, 49), (⟨"DimStarsModel", "seeks", "(I)Z"⟩, 49), (⟨"DimStarsModel", "rests", "(I)V"⟩, 49), (⟨"DimStarsModel", "tries", "(IIII)V"⟩, 49), (⟨"DimStarsModel", "tells", "(II)J"⟩, 49), (⟨"DimStarsModel", "isSeen", "(I)Z"⟩, 49), (⟨"DimStarsModel", "isPut", "(I)Z"⟩, 49), (⟨"DimStarsModel", "isCaught", "(II)Z"⟩, 49), (⟨"DimStarsModel", "findsPut", "(II)Z"⟩, 49), (⟨"DimStarsModel", "putIn", "()I"⟩, 49), (⟨"DimStarsModel", "caughtBy", "(I)I"⟩, 49), (⟨"DimStarsModel", "deepHalf", "(I)J"⟩, 49), (⟨"DimStarsModel", "gathers", "(I)V"⟩, 49), (⟨"DimStarsModel", "oddness", "()J"⟩, 49), (⟨"DimStarsModel", "shapeOf", "()J"⟩, 49)]
theorem lw_r10 : ∀ q ∈ lw_privs_10, lw_okq q := List.forall_mem_cons.mpr ⟨lw_p144, List.forall_mem_cons.mpr ⟨lw_p145, List.forall_mem_cons.mpr ⟨lw_p146, List.forall_mem_cons.mpr ⟨lw_p147, List.forall_mem_cons.mpr ⟨lw_p148, List.forall_mem_cons.mpr ⟨lw_p149, List.forall_mem_cons.mpr ⟨lw_p150, List.forall_mem_cons.mpr ⟨lw_p151, List.forall_mem_cons.mpr ⟨lw_p152, List.forall_mem_cons.mpr ⟨lw_p153, List.forall_mem_cons.mpr ⟨lw_p154, List.forall_mem_cons.mpr ⟨lw_p155, List.forall_mem_cons.mpr ⟨lw_p156, List.forall_mem_cons.mpr ⟨lw_p157, List.forall_mem_cons.mpr ⟨lw_p158, List.forall_mem_cons.mpr ⟨lw_p159, fun _ h => absurd h List.not_mem_nil⟩⟩⟩⟩⟩⟩⟩⟩⟩⟩⟩⟩⟩⟩⟩⟩
theorem lw_p160 : lw_okq (⟨"DimStarsModel", "sames", "(II)I"⟩, 49) := ⟨⟨by decide +kernel, by decide +kernel⟩, List.mem_of_getElem? (i := 1203) (by decide +kernel), List.mem_of_getElem? (i := 1794) (by decide +kernel), List.mem_of_getElem? (i := 1795) (by decide +kernel)⟩
theorem lw_p161 : lw_okq (⟨"DimStarsModel", "lateness", "()I"⟩, 49) := ⟨⟨by decide +kernel, by decide +kernel⟩, List.mem_of_getElem? (i := 1203) (by decide +kernel), List.mem_of_getElem? (i := 1798) (by decide +kernel), List.mem_of_getElem? (i := 1799) (by decide +kernel)⟩
theorem lw_p162 : lw_okq (⟨"DimStarsModel", "shiftOf", "(I)I"⟩, 49) := ⟨⟨by decide +kernel, by decide +kernel⟩, List.mem_of_getElem? (i := 1203) (by decide +kernel), List.mem_of_getElem? (i := 1802) (by decide +kernel), List.mem_of_getElem? (i := 1803) (by decide +kernel)⟩
theorem lw_p163 : lw_okq (⟨"DimStarsModel", "canWeigh", "(III)Z"⟩, 49) := ⟨⟨by decide +kernel, by decide +kernel⟩, List.mem_of_getElem? (i := 1203) (by decide +kernel), List.mem_of_getElem? (i := 1815) (by decide +kernel), List.mem_of_getElem? (i := 1816) (by decide +kernel)⟩
theorem lw_p164 : lw_okq (⟨"DimStarsModel", "weighs", "(III)Z"⟩, 49) := ⟨⟨by decide +kernel, by decide +kernel⟩, List.mem_of_getElem? (i := 1203) (by decide +kernel), List.mem_of_getElem? (i := 1819) (by decide +kernel), List.mem_of_getElem? (i := 1820) (by decide +kernel)⟩
theorem lw_p165 : lw_okq (⟨"DimStarsModel", "heaviest", "()I"⟩, 49) := ⟨⟨by decide +kernel, by decide +kernel⟩, List.mem_of_getElem? (i := 1203) (by decide +kernel), List.mem_of_getElem? (i := 1827) (by decide +kernel), List.mem_of_getElem? (i := 1828) (by decide +kernel)⟩
theorem lw_p166 : lw_okq (⟨"DimStarsModel", "radiusOf", "(I)I"⟩, 49) := ⟨⟨by decide +kernel, by decide +kernel⟩, List.mem_of_getElem? (i := 1203) (by decide +kernel), List.mem_of_getElem? (i := 1861) (by decide +kernel), List.mem_of_getElem? (i := 1862) (by decide +kernel)⟩
theorem lw_p167 : lw_okq (⟨"DimStarsModel", "isRound", "(I)Z"⟩, 49) := ⟨⟨by decide +kernel, by decide +kernel⟩, List.mem_of_getElem? (i := 1203) (by decide +kernel), List.mem_of_getElem? (i := 1882) (by decide +kernel), List.mem_of_getElem? (i := 1883) (by decide +kernel)⟩
theorem lw_p168 : lw_okq (⟨"DimStarsModel", "isDipThere", "(I)Z"⟩, 49) := ⟨⟨by decide +kernel, by decide +kernel⟩, List.mem_of_getElem? (i := 1203) (by decide +kernel), List.mem_of_getElem? (i := 1886) (by decide +kernel), List.mem_of_getElem? (i := 1887) (by decide +kernel)⟩
def lw_privs_11 : List (MethodName × Nat) := [(⟨"DimStarsModel", "sames", "(II)I"⟩, 49), (⟨"DimStarsModel", "lateness", "()I"⟩, 49), (⟨"DimStarsModel", "shiftOf", "(I)I"⟩, 49), (⟨"DimStarsModel", "canWeigh", "(III)Z"⟩, 49), (⟨"DimStarsModel", "weighs", "(III)Z"⟩, 49), (⟨"DimStarsModel", "heaviest", "()I"⟩, 49), (⟨"DimStarsModel", "radiusOf", "(I)I"⟩, 49), (⟨"DimStarsModel", "isRound", "(I)Z"⟩, 49), (⟨"DimStarsModel", "isDipThere", "(I)Z"⟩, 49)]
theorem lw_r11 : ∀ q ∈ lw_privs_11, lw_okq q := List.forall_mem_cons.mpr ⟨lw_p160, List.forall_mem_cons.mpr ⟨lw_p161, List.forall_mem_cons.mpr ⟨lw_p162, List.forall_mem_cons.mpr ⟨lw_p163, List.forall_mem_cons.mpr ⟨lw_p164, List.forall_mem_cons.mpr ⟨lw_p165, List.forall_mem_cons.mpr ⟨lw_p166, List.forall_mem_cons.mpr ⟨lw_p167, List.forall_mem_cons.mpr ⟨lw_p168, fun _ h => absurd h List.not_mem_nil⟩⟩⟩⟩⟩⟩⟩⟩⟩
def lw_privs : List (MethodName × Nat) := lw_privs_1 ++ (lw_privs_2 ++ (lw_privs_3 ++ (lw_privs_4 ++ (lw_privs_5 ++ (lw_privs_6 ++ (lw_privs_7 ++ (lw_privs_8 ++ (lw_privs_9 ++ (lw_privs_10 ++ (lw_privs_11))))))))))
def lw_tbl : List Cond := k2_sels lw_privs ++ tables_1
theorem lw_privs_ok : ∀ q ∈ lw_privs, lw_okq q := by
  show ∀ q ∈ lw_privs_1 ++ (lw_privs_2 ++ (lw_privs_3 ++ (lw_privs_4 ++ (lw_privs_5 ++ (lw_privs_6 ++ (lw_privs_7 ++ (lw_privs_8 ++ (lw_privs_9 ++ (lw_privs_10 ++ (lw_privs_11)))))))))), lw_okq q
  exact List.forall_mem_append.mpr ⟨lw_r1, List.forall_mem_append.mpr ⟨lw_r2, List.forall_mem_append.mpr ⟨lw_r3, List.forall_mem_append.mpr ⟨lw_r4, List.forall_mem_append.mpr ⟨lw_r5, List.forall_mem_append.mpr ⟨lw_r6, List.forall_mem_append.mpr ⟨lw_r7, List.forall_mem_append.mpr ⟨lw_r8, List.forall_mem_append.mpr ⟨lw_r9, List.forall_mem_append.mpr ⟨lw_r10, lw_r11⟩⟩⟩⟩⟩⟩⟩⟩⟩⟩
end
section
def RX0 : String := "DimStars$Finder"
def TX0 : u_T := fun k => match k with
  | 0 => ("DimStars$Finder", "counts", "[I", true)
  | _ => ("DimStars$Finder", "totals", "[J", true)
def tyX0 : Nat → FieldType := fun k => match k with
  | 0 => .array .int
  | _ => .array .long
theorem nmX0 : ∀ a, a < 2 → ∀ b, b < 2 → a ≠ b → (TX0 a).2.1 ≠ (TX0 b).2.1 := by decide +kernel
theorem tyX0_ok : ∀ k, k < 2 → parseFieldDescriptor (TX0 k).2.2.1 = some (tyX0 k) := by decide +kernel
def RX1 : String := "DimStars$Finding"
def TX1 : u_T := fun k => match k with
  | 0 => ("DimStars$Finding", "age", "I", false)
  | 1 => ("DimStars$Finding", "beat", "I", false)
  | 2 => ("DimStars$Finding", "longs", "I", false)
  | 3 => ("DimStars$Finding", "first", "I", false)
  | 4 => ("DimStars$Finding", "dips", "I", false)
  | 5 => ("DimStars$Finding", "deep", "J", false)
  | _ => ("DimStars$Finding", "score", "J", false)
def tyX1 : Nat → FieldType := fun k => match k with
  | 0 => .int
  | 1 => .int
  | 2 => .int
  | 3 => .int
  | 4 => .int
  | 5 => .long
  | _ => .long
theorem nmX1 : ∀ a, a < 7 → ∀ b, b < 7 → a ≠ b → (TX1 a).2.1 ≠ (TX1 b).2.1 := by decide +kernel
theorem tyX1_ok : ∀ k, k < 7 → parseFieldDescriptor (TX1 k).2.2.1 = some (tyX1 k) := by decide +kernel
def RX2 : String := "DimStars$Look"
def TX2 : u_T := fun k => match k with
  | 0 => ("DimStars$Look", "at", "[I", true)
  | 1 => ("DimStars$Look", "hours", "[I", true)
  | 2 => ("DimStars$Look", "marks", "[I", true)
  | 3 => ("DimStars$Look", "many", "I", false)
  | 4 => ("DimStars$Look", "total", "J", false)
  | 5 => ("DimStars$Look", "spread", "J", false)
  | 6 => ("DimStars$Look", "in", "I", false)
  | _ => ("DimStars$Look", "inTotal", "J", false)
def tyX2 : Nat → FieldType := fun k => match k with
  | 0 => .array .int
  | 1 => .array .int
  | 2 => .array .int
  | 3 => .int
  | 4 => .long
  | 5 => .long
  | 6 => .int
  | _ => .long
theorem nmX2 : ∀ a, a < 8 → ∀ b, b < 8 → a ≠ b → (TX2 a).2.1 ≠ (TX2 b).2.1 := by decide +kernel
theorem tyX2_ok : ∀ k, k < 8 → parseFieldDescriptor (TX2 k).2.2.1 = some (tyX2 k) := by decide +kernel
def RX3 : String := "DimStars$Parser"
def TX3 : u_T := fun k => match k with
  | 0 => ("DimStars$Parser", "tape", "[B", false)
  | 1 => ("DimStars$Parser", "length", "I", false)
  | 2 => ("DimStars$Parser", "place", "I", false)
  | 3 => ("DimStars$Parser", "kind", "I", false)
  | 4 => ("DimStars$Parser", "start", "I", false)
  | 5 => ("DimStars$Parser", "number", "I", false)
  | 6 => ("DimStars$Parser", "fault", "I", false)
  | 7 => ("DimStars$Parser", "values", "I", false)
  | 8 => ("DimStars$Parser", "given", "I", false)
  | 9 => ("DimStars$Parser", "known", "Ljava/lang/String;", false)
  | 10 => ("DimStars$Parser", "text", "LDimStars$Text;", false)
  | _ => ("DimStars$Parser", "isHanded", "Z", false)
def tyX3 : Nat → FieldType := fun k => match k with
  | 0 => .array .byte
  | 1 => .int
  | 2 => .int
  | 3 => .int
  | 4 => .int
  | 5 => .int
  | 6 => .int
  | 7 => .int
  | 8 => .int
  | 9 => .object "java/lang/String"
  | 10 => .object "DimStars$Text"
  | _ => .boolean
theorem nmX3 : ∀ a, a < 12 → ∀ b, b < 12 → a ≠ b → (TX3 a).2.1 ≠ (TX3 b).2.1 := by decide +kernel
theorem tyX3_ok : ∀ k, k < 12 → parseFieldDescriptor (TX3 k).2.2.1 = some (tyX3 k) := by decide +kernel
def RX4 : String := "DimStars$Reckoner"
def TX4 : u_T := fun k => match k with
  | _ => ("DimStars$Reckoner", "stack", "[J", true)
def tyX4 : Nat → FieldType := fun k => match k with
  | _ => .array .long
theorem nmX4 : ∀ a, a < 1 → ∀ b, b < 1 → a ≠ b → (TX4 a).2.1 ≠ (TX4 b).2.1 := by decide +kernel
theorem tyX4_ok : ∀ k, k < 1 → parseFieldDescriptor (TX4 k).2.2.1 = some (tyX4 k) := by decide +kernel
def RX5 : String := "DimStars$Signs"
def TX5 : u_T := fun k => match k with
  | 0 => ("DimStars$Signs", "counts", "[I", true)
  | 1 => ("DimStars$Signs", "totals", "[J", true)
  | 2 => ("DimStars$Signs", "deeps", "[I", true)
  | _ => ("DimStars$Signs", "shifts", "[I", true)
def tyX5 : Nat → FieldType := fun k => match k with
  | 0 => .array .int
  | 1 => .array .long
  | 2 => .array .int
  | _ => .array .int
theorem nmX5 : ∀ a, a < 4 → ∀ b, b < 4 → a ≠ b → (TX5 a).2.1 ≠ (TX5 b).2.1 := by decide +kernel
theorem tyX5_ok : ∀ k, k < 4 → parseFieldDescriptor (TX5 k).2.2.1 = some (tyX5 k) := by decide +kernel
def RX6 : String := "DimStars$Sky"
def TX6 : u_T := fun k => match k with
  | 0 => ("DimStars$Sky", "starCount", "I", false)
  | 1 => ("DimStars$Sky", "stars", "[LDimStars$Star;", true)
  | 2 => ("DimStars$Sky", "worldCount", "I", false)
  | 3 => ("DimStars$Sky", "worlds", "[LDimStars$World;", true)
  | 4 => ("DimStars$Sky", "candidateCount", "I", false)
  | 5 => ("DimStars$Sky", "nights", "[I", true)
  | 6 => ("DimStars$Sky", "worths", "[I", true)
  | 7 => ("DimStars$Sky", "wide", "I", false)
  | 8 => ("DimStars$Sky", "maskStars", "[I", true)
  | 9 => ("DimStars$Sky", "maskBelow", "[I", true)
  | 10 => ("DimStars$Sky", "order", "I", false)
  | 11 => ("DimStars$Sky", "tape", "[B", true)
  | _ => ("DimStars$Sky", "tapeLength", "I", false)
def tyX6 : Nat → FieldType := fun k => match k with
  | 0 => .int
  | 1 => .array (.object "DimStars$Star")
  | 2 => .int
  | 3 => .array (.object "DimStars$World")
  | 4 => .int
  | 5 => .array .int
  | 6 => .array .int
  | 7 => .int
  | 8 => .array .int
  | 9 => .array .int
  | 10 => .int
  | 11 => .array .byte
  | _ => .int
theorem nmX6 : ∀ a, a < 13 → ∀ b, b < 13 → a ≠ b → (TX6 a).2.1 ≠ (TX6 b).2.1 := by decide +kernel
theorem tyX6_ok : ∀ k, k < 13 → parseFieldDescriptor (TX6 k).2.2.1 = some (tyX6 k) := by decide +kernel
def RX7 : String := "DimStars$Star"
def TX7 : u_T := fun k => match k with
  | 0 => ("DimStars$Star", "size", "I", false)
  | 1 => ("DimStars$Star", "cell", "I", false)
  | 2 => ("DimStars$Star", "luck", "I", false)
  | _ => ("DimStars$Star", "row", "[I", true)
def tyX7 : Nat → FieldType := fun k => match k with
  | 0 => .int
  | 1 => .int
  | 2 => .int
  | _ => .array .int
theorem nmX7 : ∀ a, a < 4 → ∀ b, b < 4 → a ≠ b → (TX7 a).2.1 ≠ (TX7 b).2.1 := by decide +kernel
theorem tyX7_ok : ∀ k, k < 4 → parseFieldDescriptor (TX7 k).2.2.1 = some (tyX7 k) := by decide +kernel
def RX8 : String := "DimStars$Text"
def TX8 : u_T := fun k => match k with
  | 0 => ("DimStars$Text", "noise", "I", false)
  | 1 => ("DimStars$Text", "beatFrom", "I", false)
  | 2 => ("DimStars$Text", "beatTo", "I", false)
  | 3 => ("DimStars$Text", "longFrom", "I", false)
  | 4 => ("DimStars$Text", "longTo", "I", false)
  | 5 => ("DimStars$Text", "least", "I", false)
  | 6 => ("DimStars$Text", "line", "I", false)
  | 7 => ("DimStars$Text", "clauses", "I", false)
  | 8 => ("DimStars$Text", "kinds", "[I", true)
  | 9 => ("DimStars$Text", "sumAt", "[I", true)
  | 10 => ("DimStars$Text", "testAt", "[I", true)
  | 11 => ("DimStars$Text", "endAt", "[I", true)
  | 12 => ("DimStars$Text", "code", "[I", true)
  | _ => ("DimStars$Text", "codeLength", "I", false)
def tyX8 : Nat → FieldType := fun k => match k with
  | 0 => .int
  | 1 => .int
  | 2 => .int
  | 3 => .int
  | 4 => .int
  | 5 => .int
  | 6 => .int
  | 7 => .int
  | 8 => .array .int
  | 9 => .array .int
  | 10 => .array .int
  | 11 => .array .int
  | 12 => .array .int
  | _ => .int
theorem nmX8 : ∀ a, a < 14 → ∀ b, b < 14 → a ≠ b → (TX8 a).2.1 ≠ (TX8 b).2.1 := by decide +kernel
theorem tyX8_ok : ∀ k, k < 14 → parseFieldDescriptor (TX8 k).2.2.1 = some (tyX8 k) := by decide +kernel
def RX9 : String := "DimStars$World"
def TX9 : u_T := fun k => match k with
  | 0 => ("DimStars$World", "star", "I", true)
  | 1 => ("DimStars$World", "beat", "I", true)
  | 2 => ("DimStars$World", "first", "I", true)
  | 3 => ("DimStars$World", "longs", "I", true)
  | 4 => ("DimStars$World", "deep", "I", true)
  | _ => ("DimStars$World", "isPut", "Z", true)
def tyX9 : Nat → FieldType := fun k => match k with
  | 0 => .int
  | 1 => .int
  | 2 => .int
  | 3 => .int
  | 4 => .int
  | _ => .boolean
theorem nmX9 : ∀ a, a < 6 → ∀ b, b < 6 → a ≠ b → (TX9 a).2.1 ≠ (TX9 b).2.1 := by decide +kernel
theorem tyX9_ok : ∀ k, k < 6 → parseFieldDescriptor (TX9 k).2.2.1 = some (tyX9 k) := by decide +kernel
def RX10 : String := "DimStars"
def TX10 : u_T := fun k => match k with
  | 0 => ("DimStars", "sky", "LDimStars$Sky;", true)
  | 1 => ("DimStars", "images", "[LDimStars$Sky;", true)
  | 2 => ("DimStars", "laws", "[LDimStars$Text;", true)
  | 3 => ("DimStars", "searches", "[LDimStars$Text;", true)
  | 4 => ("DimStars", "sorters", "[LDimStars$Text;", true)
  | 5 => ("DimStars", "lawCount", "I", false)
  | 6 => ("DimStars", "searchCount", "I", false)
  | 7 => ("DimStars", "sorterCount", "I", false)
  | 8 => ("DimStars", "parser", "LDimStars$Parser;", true)
  | 9 => ("DimStars", "reckoner", "LDimStars$Reckoner;", true)
  | 10 => ("DimStars", "look", "LDimStars$Look;", true)
  | 11 => ("DimStars", "finder", "LDimStars$Finder;", true)
  | 12 => ("DimStars", "signs", "LDimStars$Signs;", true)
  | 13 => ("DimStars", "nothing", "LDimStars$Finding;", true)
  | 14 => ("DimStars", "secondFound", "LDimStars$Finding;", true)
  | 15 => ("DimStars", "ofStars", "[LDimStars$Finding;", true)
  | 16 => ("DimStars", "ofWorlds", "[LDimStars$Finding;", true)
  | 17 => ("DimStars", "age", "I", false)
  | 18 => ("DimStars", "words", "[J", true)
  | _ => ("DimStars", "weights", "[I", true)
def tyX10 : Nat → FieldType := fun k => match k with
  | 0 => .object "DimStars$Sky"
  | 1 => .array (.object "DimStars$Sky")
  | 2 => .array (.object "DimStars$Text")
  | 3 => .array (.object "DimStars$Text")
  | 4 => .array (.object "DimStars$Text")
  | 5 => .int
  | 6 => .int
  | 7 => .int
  | 8 => .object "DimStars$Parser"
  | 9 => .object "DimStars$Reckoner"
  | 10 => .object "DimStars$Look"
  | 11 => .object "DimStars$Finder"
  | 12 => .object "DimStars$Signs"
  | 13 => .object "DimStars$Finding"
  | 14 => .object "DimStars$Finding"
  | 15 => .array (.object "DimStars$Finding")
  | 16 => .array (.object "DimStars$Finding")
  | 17 => .int
  | 18 => .array .long
  | _ => .array .int
theorem nmX10 : ∀ a, a < 20 → ∀ b, b < 20 → a ≠ b → (TX10 a).2.1 ≠ (TX10 b).2.1 := by decide +kernel
theorem tyX10_ok : ∀ k, k < 20 → parseFieldDescriptor (TX10 k).2.2.1 = some (tyX10 k) := by decide +kernel
def RX11 : String := "DimStarsModel"
def TX11 : u_T := fun k => match k with
  | 0 => ("DimStarsModel", "told", "[I", true)
  | 1 => ("DimStarsModel", "meanNow", "[I", true)
  | 2 => ("DimStarsModel", "tape", "[B", true)
  | 3 => ("DimStarsModel", "taped", "I", false)
  | 4 => ("DimStarsModel", "texts", "[I", true)
  | 5 => ("DimStarsModel", "sign", "[I", true)
  | 6 => ("DimStarsModel", "length", "[I", true)
  | 7 => ("DimStarsModel", "clause", "[I", true)
  | 8 => ("DimStarsModel", "clauses", "[I", true)
  | 9 => ("DimStarsModel", "noise", "[I", true)
  | 10 => ("DimStarsModel", "beatFrom", "[I", true)
  | 11 => ("DimStarsModel", "beatTo", "[I", true)
  | 12 => ("DimStarsModel", "longFrom", "[I", true)
  | 13 => ("DimStarsModel", "longTo", "[I", true)
  | 14 => ("DimStarsModel", "least", "[I", true)
  | 15 => ("DimStarsModel", "bar", "[I", true)
  | 16 => ("DimStarsModel", "next", "I", false)
  | 17 => ("DimStarsModel", "wrong", "I", false)
  | 18 => ("DimStarsModel", "said", "I", false)
  | 19 => ("DimStarsModel", "text", "I", false)
  | 20 => ("DimStarsModel", "made", "I", false)
  | 21 => ("DimStarsModel", "deep", "I", false)
  | 22 => ("DimStarsModel", "lines", "I", false)
  | 23 => ("DimStarsModel", "open", "[I", true)
  | 24 => ("DimStarsModel", "opened", "I", false)
  | 25 => ("DimStarsModel", "stack", "[J", true)
  | 26 => ("DimStarsModel", "top", "I", false)
  | 27 => ("DimStarsModel", "word", "[J", true)
  | 28 => ("DimStarsModel", "look", "[I", true)
  | 29 => ("DimStarsModel", "all", "I", false)
  | 30 => ("DimStarsModel", "sumAll", "J", false)
  | 31 => ("DimStarsModel", "spreadNow", "J", false)
  | 32 => ("DimStarsModel", "manyIn", "I", false)
  | 33 => ("DimStarsModel", "sumIn", "J", false)
  | 34 => ("DimStarsModel", "beatNow", "I", false)
  | 35 => ("DimStarsModel", "longNow", "I", false)
  | 36 => ("DimStarsModel", "firstNow", "I", false)
  | 37 => ("DimStarsModel", "deepNow", "J", false)
  | 38 => ("DimStarsModel", "scoreNow", "J", false)
  | 39 => ("DimStarsModel", "dipsNow", "I", false)
  | 40 => ("DimStarsModel", "restSum", "[J", true)
  | 41 => ("DimStarsModel", "restMany", "[I", true)
  | 42 => ("DimStarsModel", "withinSum", "[J", true)
  | 43 => ("DimStarsModel", "withinMany", "[I", true)
  | 44 => ("DimStarsModel", "putScore", "[J", true)
  | 45 => ("DimStarsModel", "starScore", "[J", true)
  | 46 => ("DimStarsModel", "weights", "[I", true)
  | 47 => ("DimStarsModel", "images", "[I", true)
  | _ => ("DimStarsModel", "isMade", "[Z", true)
def tyX11 : Nat → FieldType := fun k => match k with
  | 0 => .array .int
  | 1 => .array .int
  | 2 => .array .byte
  | 3 => .int
  | 4 => .array .int
  | 5 => .array .int
  | 6 => .array .int
  | 7 => .array .int
  | 8 => .array .int
  | 9 => .array .int
  | 10 => .array .int
  | 11 => .array .int
  | 12 => .array .int
  | 13 => .array .int
  | 14 => .array .int
  | 15 => .array .int
  | 16 => .int
  | 17 => .int
  | 18 => .int
  | 19 => .int
  | 20 => .int
  | 21 => .int
  | 22 => .int
  | 23 => .array .int
  | 24 => .int
  | 25 => .array .long
  | 26 => .int
  | 27 => .array .long
  | 28 => .array .int
  | 29 => .int
  | 30 => .long
  | 31 => .long
  | 32 => .int
  | 33 => .long
  | 34 => .int
  | 35 => .int
  | 36 => .int
  | 37 => .long
  | 38 => .long
  | 39 => .int
  | 40 => .array .long
  | 41 => .array .int
  | 42 => .array .long
  | 43 => .array .int
  | 44 => .array .long
  | 45 => .array .long
  | 46 => .array .int
  | 47 => .array .int
  | _ => .array .boolean
theorem nmX11 : ∀ a, a < 49 → ∀ b, b < 49 → a ≠ b → (TX11 a).2.1 ≠ (TX11 b).2.1 := by decide +kernel
theorem tyX11_ok : ∀ k, k < 49 → parseFieldDescriptor (TX11 k).2.2.1 = some (tyX11 k) := by decide +kernel
def RL : String := "DimStarsLaw"
abbrev vwCl : List vw_C := [(RX0, TX0, 2), (RX1, TX1, 7), (RX2, TX2, 8), (RX3, TX3, 12), (RX4, TX4, 1), (RX5, TX5, 4), (RX6, TX6, 13), (RX7, TX7, 4), (RX8, TX8, 14), (RX9, TX9, 6), (RX10, TX10, 20), (RX11, TX11, 49)]
abbrev cX10_isBeat : ByteArray := prog_1_method_47_code
def yX10_isBeat : MethodName := ⟨RX10, "isBeat", "(I)Z"⟩
abbrev cX10_isHour : ByteArray := prog_1_method_44_code
def yX10_isHour : MethodName := ⟨RX10, "isHour", "(I)Z"⟩
abbrev cX10_isSize : ByteArray := prog_1_method_45_code
def yX10_isSize : MethodName := ⟨RX10, "isSize", "(I)Z"⟩
abbrev cX10_isWay : ByteArray := prog_1_method_46_code
def yX10_isWay : MethodName := ⟨RX10, "isWay", "(I)Z"⟩
abbrev cX10_isWithin : ByteArray := prog_1_method_43_code
def yX10_isWithin : MethodName := ⟨RX10, "isWithin", "(III)Z"⟩
def ZL : List (String × Nat × String) := [("DimStars$Parser", 15, ""), ("DimStars$Parser", 50, "hour season star cell size"), ("DimStars$Parser", 52, "beat long deep score dips odd shape same late size"), ("DimStars$Parser", 93, "bright noise"), ("DimStars$Parser", 95, "beat long least line"), ("DimStars$Parser", 97, "world pair spot glass chance"), ("DimStars$Parser", 121, "if"), ("DimStars$Parser", 151, "and or"), ("DimStars$Parser", 158, "not")]
end
section
/-! ===== words, tables, contracts: the base of all walks (mine) ===== -/
def GW : List Cond := lw_tbl.filter goodWord
theorem gw_t {w : Cond} (i : Nat) (h : tables_1[i]? = some w) (hg : goodWord w = true) : w ∈ GW := List.mem_filter.mpr ⟨List.mem_append_right _ (List.mem_of_getElem? h), hg⟩
theorem gw_s {w : Cond} (i : Nat) (h : (k2_sels lw_privs)[i]? = some w) (hg : goodWord w = true) : w ∈ GW := List.mem_filter.mpr ⟨List.mem_append_left _ (List.mem_of_getElem? h), hg⟩
theorem gw_tbl {w : Cond} (h : w ∈ GW) : w ∈ lw_tbl := (List.mem_filter.mp h).1
theorem gw_good {w : Cond} (h : w ∈ GW) : (w.onTables && w.keeps) = true ∨ ∃ ty, w = .arrayClass ty := good_of_word (List.mem_filter.mp h).2
theorem gw_cons {w : Cond} (h : w ∈ GW) : GoodIn GW (w :: GW) := fun v hv => (List.mem_cons.mp hv).elim (fun e => by rw [e]; exact ⟨h, gw_good h⟩) (fun h2 => ⟨h2, gw_good h2⟩)
theorem gw_app {ws : List Cond} (h : ∀ w ∈ ws, w ∈ GW) {w : Cond} (hw : w ∈ GW) : GoodIn GW (ws ++ w :: GW) := fun v hv => (List.mem_append.mp hv).elim (fun e => ⟨h v e, gw_good (h v e)⟩) (fun h2 => gw_cons hw v h2)
def isNest : Cond → Bool
  | .fieldLinkNest _ _ _ _ _ _ => true
  | .methodLinkNest _ _ _ _ => true
  | _ => false
def TYS (Y : Nat → ClassId) : List (ClassId × FieldType) := [(Y 0, .int), (Y 1, .long), (Y 2, .byte), (Y 3, .boolean), (Y 4, .object "DimStars$Sky"), (Y 5, .object "DimStars$Text"), (Y 6, .object "DimStars$Finding"), (Y 7, .object "DimStars$Star"), (Y 8, .object "DimStars$World")]
def AOL : List String := ["DimStars$Sky", "DimStars$Text", "DimStars$Finding", "DimStars$Star", "DimStars$World"]
/-- what the tables say at a state: classes, array classes, links to nest mates, String constants -/
def KN (D : va_G) (Y : Nat → ClassId) (Z : Nat → Nat) (U : State) : Prop := va_K D vwCl (TYS Y) U ∧ (∀ w ∈ tables_1, isNest w = true → va_Nw w U) ∧ (∀ C ∈ AOL, va_AO C U) ∧ ∀ (i : Nat) (q : String × Nat × String), ZL[i]? = some q → vk_R q.1 q.2.1 q.2.2 (Z i) U
theorem nest_warm {w : Cond} (h : isNest w = true) {s U : State} (hW : s.WarmedH U.vm) (hZ : va_Nw w s) : va_Nw w U := by
  cases w <;> first | exact va_Nw.warmF hW hZ | exact va_Nw.warmM hW hZ | cases h
theorem nest_same {w : Cond} (h : isNest w = true) {u U : State} (hv : u.vm = U.vm) (hZ : va_Nw w u) : va_Nw w U := by
  cases w <;> first | exact va_Nw.same rfl hv hZ | cases h
theorem KN.warm {D : va_G} {Y : Nat → ClassId} {Z : Nat → Nat} {s U : State} (hW : s.WarmedH U.vm) (h : KN D Y Z s) : KN D Y Z U := ⟨va_K.moved hW.alike h.1, fun w hw hn => nest_warm hn hW (h.2.1 w hw hn), fun C hC => (h.2.2.1 C hC).moved hW.alike, fun i q hq => (h.2.2.2 i q hq).warm hW⟩
theorem KN.same {D : va_G} {Y : Nat → ClassId} {Z : Nat → Nat} {u U : State} (hv : u.vm = U.vm) (h : KN D Y Z u) : KN D Y Z U := ⟨va_K.moved (by rw [← hv]; exact Vm.Alike.refl u.vm) h.1, fun w hw hn => nest_same hn hv (h.2.1 w hw hn), fun C hC => (h.2.2.1 C hC).moved (by rw [← hv]; exact Vm.Alike.refl u.vm), fun i q hq => (h.2.2.2 i q hq).same hv.symm⟩
/-- a method's start -/
def CP (D : va_G) (Y : Nat → ClassId) (Z : Nat → Nat) (ws : va_W) (sz : Nat) : State → Prop := fun U => U.heap.size = sz ∧ va_P D vwCl ws U.heap ∧ KN D Y Z U ∧ va_D (fun _ => True) ws
/-- the cells behind a method -/
def CB (D : va_G) (ws : va_W) (A : Nat → Prop) : State → Prop := fun t => va_P D vwCl ws t.heap ∧ va_D A ws
/-- a method's end -/
def QG {S : Type} (val : S → Option Value) (post : S → Prop) (B : S → State → Prop) (A : Nat → Prop) : Array Value → State → Outcome → State → Prop := fun _ st oc t => (∃ u : S, oc = .returned (val u) ∧ post u ∧ B u t) ∧ va_F A st t
theorem CP.blind {av : List Value} {D : va_G} {Y : Nat → ClassId} {Z : Nat → Nat} {ws : va_W} {sz : Nat} : FrameBlind (va_Pc av (CP D Y Z ws sz)) := fun a U g mk q => by
  obtain ⟨q0, q1, qP, qK, qD⟩ := q
  exact ⟨q0, q1, qP, KN.same (u := U) (U := U.calling g mk a) rfl qK, qD⟩
theorem CP.at {av : List Value} {D : va_G} {Y : Nat → ClassId} {Z : Nat → Nat} {ws : va_W} {s : State} {H : Heap} {A : Nat → Prop} (hP : va_P D vwCl ws H) (hK : KN D Y Z s) (hD : va_D A ws) : ∀ U : State, U.heap = H → s.WarmedH U.vm → va_Pc av (CP D Y Z ws H.size) av.toArray U := fun U hU hW => ⟨rfl, by rw [hU], by rw [hU]; exact hP, hK.warm hW, hD.weaken (fun _ _ _ _ => trivial)⟩
theorem CB.nil {D : va_G} {A : Nat → Prop} {t : State} : CB D [] A t := ⟨fun k q h => by simp at h, fun i j p q h => by simp at h, fun k q h => by simp at h⟩
theorem CB.mk {D : va_G} {A : Nat → Prop} {ws : va_W} {t : State} {H : Heap} (ht : t.heap = H) (hP : va_P D vwCl ws H) (hD : va_D A ws) : CB D ws A t := ⟨by rw [ht]; exact hP, hD⟩
theorem RA_cls {U : State} {cA : ClassId} {ty : FieldType} (h : va_RA U cA ty) : U.vm.findClass ("[" ++ ty.toString) = some cA := by
  cases ty with
  | object C =>
    obtain ⟨kA, comp, h1, h2, h3, h4⟩ := h
    exact h4
  | _ => exact h
theorem i_lt {x y : Int32} {X Y : Int} (hx : x.toInt = X) (hy : y.toInt = Y) (h : x < y) : X < Y := by rw [← hx, ← hy]; exact Int32.lt_iff_toInt_lt.mp h
theorem i_nlt {x y : Int32} {X Y : Int} (hx : x.toInt = X) (hy : y.toInt = Y) (h : ¬ x < y) : ¬ X < Y := by rw [← hx, ← hy]; exact fun q => h (Int32.lt_iff_toInt_lt.mpr q)
theorem i_le {x y : Int32} {X Y : Int} (hx : x.toInt = X) (hy : y.toInt = Y) (h : x ≤ y) : X ≤ Y := by rw [← hx, ← hy]; exact Int32.le_iff_toInt_le.mp h
theorem i_nle {x y : Int32} {X Y : Int} (hx : x.toInt = X) (hy : y.toInt = Y) (h : ¬ x ≤ y) : ¬ X ≤ Y := by rw [← hx, ← hy]; exact fun q => h (Int32.le_iff_toInt_le.mpr q)
theorem i_eq {x y : Int32} {X Y : Int} (hx : x.toInt = X) (hy : y.toInt = Y) (h : x = y) : X = Y := by rw [← hx, ← hy, h]
theorem i_ne {x y : Int32} {X Y : Int} (hx : x.toInt = X) (hy : y.toInt = Y) (h : ¬ x = y) : ¬ X = Y := by rw [← hx, ← hy]; exact fun q => h (Int32.toInt_inj.mp q)
theorem l_lt {x y : Int64} {X Y : Int} (hx : x.toInt = X) (hy : y.toInt = Y) (h : lg_cmp x y < 0) : X < Y := by rw [← hx, ← hy]; exact Int64.lt_iff_toInt_lt.mp ((lg_cmp_lt x y).mp h)
theorem l_nlt {x y : Int64} {X Y : Int} (hx : x.toInt = X) (hy : y.toInt = Y) (h : ¬ lg_cmp x y < 0) : ¬ X < Y := by rw [← hx, ← hy]; exact fun q => h ((lg_cmp_lt x y).mpr (Int64.lt_iff_toInt_lt.mpr q))
theorem l_gt {x y : Int64} {X Y : Int} (hx : x.toInt = X) (hy : y.toInt = Y) (h : 0 < lg_cmp x y) : Y < X := by rw [← hx, ← hy]; exact Int64.lt_iff_toInt_lt.mp ((lg_cmp_gt x y).mp h)
theorem l_ngt {x y : Int64} {X Y : Int} (hx : x.toInt = X) (hy : y.toInt = Y) (h : ¬ 0 < lg_cmp x y) : ¬ Y < X := by rw [← hx, ← hy]; exact fun q => h ((lg_cmp_gt x y).mpr (Int64.lt_iff_toInt_lt.mpr q))
theorem l_ge {x y : Int64} {X Y : Int} (hx : x.toInt = X) (hy : y.toInt = Y) (h : 0 ≤ lg_cmp x y) : Y ≤ X := by rw [← hx, ← hy]; exact Int64.le_iff_toInt_le.mp ((lg_cmp_ge x y).mp h)
theorem l_nge {x y : Int64} {X Y : Int} (hx : x.toInt = X) (hy : y.toInt = Y) (h : ¬ 0 ≤ lg_cmp x y) : ¬ Y ≤ X := by rw [← hx, ← hy]; exact fun q => h ((lg_cmp_ge x y).mpr (Int64.le_iff_toInt_le.mpr q))
theorem l_le {x y : Int64} {X Y : Int} (hx : x.toInt = X) (hy : y.toInt = Y) (h : lg_cmp x y ≤ 0) : X ≤ Y := by rw [← hx, ← hy]; exact Int64.le_iff_toInt_le.mp ((lg_cmp_le x y).mp h)
theorem l_nle {x y : Int64} {X Y : Int} (hx : x.toInt = X) (hy : y.toInt = Y) (h : ¬ lg_cmp x y ≤ 0) : ¬ X ≤ Y := by rw [← hx, ← hy]; exact fun q => h ((lg_cmp_le x y).mpr (Int64.le_iff_toInt_le.mpr q))
theorem l_eq {x y : Int64} {X Y : Int} (hx : x.toInt = X) (hy : y.toInt = Y) (h : lg_cmp x y = 0) : X = Y := by rw [← hx, ← hy, (lg_cmp_eq x y).mp h]
theorem l_ne {x y : Int64} {X Y : Int} (hx : x.toInt = X) (hy : y.toInt = Y) (h : ¬ lg_cmp x y = 0) : ¬ X = Y := by rw [← hx, ← hy]; exact fun q => h ((lg_cmp_eq x y).mpr (Int64.toInt_inj.mp q))
theorem nilP {D : va_G} {H : Heap} : va_P D vwCl [] H := fun k q h => by simp at h
theorem nilD {A : Nat → Prop} : va_D A [] := ⟨fun i j p q h => by simp at h, fun k q h => by simp at h⟩
section CG
variable {p : Program} {l : Launch} {e : Env} {R : Room} {s : State} {m : MethodId} {args : Array Value} {below : List Frame} {meth : Method} {c : Code} {H : Heap} {locs : List Loc} {cells slots : Nat} {Q : State → Prop}
variable {pc : Nat} {ls : Array Slot} {rest st0 : List Value} {a : Array Value} {A0 : Nat → Prop} {H0 : Heap} {mc ms : Nat} {D : va_G} {Y : Nat → ClassId} {Z : Nat → Nat}
theorem w_start {ws : va_W} {g : JFrame} (hP : va_P D vwCl ws s.heap) (k : ∀ (H : Heap) (locs : List Loc), va_P D vwCl ws H → va_S A0 s.heap H locs → W p l e R s m args below meth c H locs cells slots Q g) : W p l e R s m args below meth c s.heap [] cells slots Q g := k _ _ hP va_S.rf
/-- a call's end: the caller's other cells, and the callee's -/
theorem cg {S : Type} {val : S → Option Value} {post : S → Prop} {w1 : S → va_W} {ws wc wr : va_W} (isC isR : List Nat)
    (hr : va_Run p l e R s m args below meth c H locs cells slots mc ms (F0 m pc ls st0) rest (QG val post (fun u => CB D (w1 u) (va_A wc H.size)) (va_A wc H.size) a) (va_A wc H.size))
    (hP : va_P D vwCl ws H) (hD : va_D A0 ws) (hS : va_S A0 H0 H locs) (hA : ∀ q, H0.size ≤ q → A0 q)
    (hC : isC.map (fun i => ws[i]?) = wc.map some) (hR : isR.map (fun i => ws[i]?) = wr.map some) (hn : va_nd isR = true) (hdis : ∀ i ∈ isR, i ∉ isC)
    (kk : ∀ (u : S) (H1 : Heap) (locs1 : List Loc), post u → va_P D vwCl (wr ++ w1 u) H1 → va_D A0 (wr ++ w1 u) → va_S A0 H0 H1 locs1 → W p l e R s m args below meth c H1 locs1 (cells + mc) (slots + ms) Q (F0 m (pc + 3) ls ((val u).toList ++ rest))) : W p l e R s m args below meth c H locs cells slots Q (F0 m pc ls st0) := by
  have hF := va_free (wc := wc) hD hS hA isC hC
  intro T hT X
  obtain ⟨v, st₀, t, T', L, h0, X', hL, e1, e2, ⟨⟨u, hv, hp, hPu, hDu⟩, hz, hk⟩, st⟩ := hr T hT X
  cases hv
  rw [h0] at hz hk
  have hk1 : ∀ q : Nat, q < H.size → ¬ va_A wc H.size q → T'.heap[q]? = H[q]? := fun q h1 h2 => by rw [e1]; exact hk q h1 h2
  obtain ⟨hP2, hD2⟩ := va_join hP hD isC isR hC hR hn hdis hk1 hF (by rw [e1]; exact hPu) hDu
  obtain ⟨t2, a1, b1⟩ := kk u T'.heap (locs ++ L) hp hP2 hD2
    ⟨Nat.le_trans hS.1 (by rw [e1]; exact hz), fun q h1 h2 => by rw [hk1 q (Nat.lt_of_lt_of_le h1 hS.1) (fun z => h2 (hF q z))]; exact hS.2.1 q h1 h2, fun q hq => by
      rcases List.mem_append.mp hq with h | h
      · exact hS.2.2 q h
      · exact hF _ (hL q h)⟩ T' rfl X'
  exact ⟨t2, st t2 a1, b1⟩
/-- the same where the callee has no cells of ours: all stays -/
theorem cg0 {S : Type} {val : S → Option Value} {post : S → Prop} {ws : va_W}
    (hr : va_Run p l e R s m args below meth c H locs cells slots mc ms (F0 m pc ls st0) rest (QG val post (fun _ => CB D [] (va_A [] H.size)) (va_A [] H.size) a) (va_A [] H.size))
    (hP : va_P D vwCl ws H) (hS : va_S A0 H0 H locs) (hA : ∀ q, H0.size ≤ q → A0 q)
    (kk : ∀ (u : S) (H1 : Heap) (locs1 : List Loc), post u → va_P D vwCl ws H1 → va_S A0 H0 H1 locs1 → W p l e R s m args below meth c H1 locs1 (cells + mc) (slots + ms) Q (F0 m (pc + 3) ls ((val u).toList ++ rest))) : W p l e R s m args below meth c H locs cells slots Q (F0 m pc ls st0) := by
  have hF : ∀ q, va_A [] H.size q → A0 q := fun q h => by
    rcases h with ⟨k, x, h⟩ | h
    · simp at h
    · exact hA q (Nat.le_trans hS.1 h)
  intro T hT X
  obtain ⟨v, st₀, t, T', L, h0, X', hL, e1, e2, ⟨⟨u, hv, hp, -⟩, hz, hk⟩, st⟩ := hr T hT X
  cases hv
  rw [h0] at hz hk
  have hk1 : ∀ q : Nat, q < H.size → T'.heap[q]? = H[q]? := fun q h1 => by
    rw [e1]
    refine hk q h1 (fun h => ?_)
    rcases h with ⟨k, x, h⟩ | h
    · simp at h
    · exact absurd h1 (by omega)
  obtain ⟨t2, a1, b1⟩ := kk u T'.heap (locs ++ L) hp (hP.kept (fun k q hq => hk1 q.1 ((hP k q hq).lt)))
    ⟨Nat.le_trans hS.1 (by rw [e1]; exact hz), fun q h1 h2 => by rw [hk1 q (Nat.lt_of_lt_of_le h1 hS.1)]; exact hS.2.1 q h1 h2, fun q hq => by
      rcases List.mem_append.mp hq with h | h
      · exact hS.2.2 q h
      · exact hF _ (hL q h)⟩ T' rfl X'
  exact ⟨t2, st t2 a1, b1⟩
variable {y : MethodName} {cc bytes : ByteArray} {maxL nL index : Nat} {ret : Option FieldType} {own C host : String} {b : Addr} {As : List Value} {rm : Room}
def okN (y : MethodName) (n : Nat) : Prop := y.cls ≠ "java/lang/invoke/MethodHandle" ∧ y.cls ≠ "java/lang/invoke/VarHandle" ∧ (parseMethodDescriptor y.desc).map (fun d => d.parameters.length) = some n
/-- the words of a call: static; instance; constructor; the same of a nest mate -/
def LkS (own : String) (index : Nat) (y : MethodName) (bytes : ByteArray) (maxL : Nat) (ret : Option FieldType) (n : Nat) : Prop := Cond.methodLink own index y ∈ GW ∧ Cond.static y ∈ GW ∧ Cond.initialized y.cls ∈ GW ∧ Cond.code y bytes maxL ret ∈ GW ∧ okN y n
def LkV (own : String) (index : Nat) (y : MethodName) (bytes : ByteArray) (maxL : Nat) (ret : Option FieldType) (n : Nat) : Prop := Cond.methodLink own index y ∈ GW ∧ Cond.instanceMethod y ∈ GW ∧ Cond.selects y.cls y y ∈ GW ∧ Cond.initialized y.cls ∈ GW ∧ Cond.code y bytes maxL ret ∈ GW ∧ okN y n
def LkI (own : String) (index : Nat) (y : MethodName) (bytes : ByteArray) (maxL : Nat) (n : Nat) : Prop := Cond.methodLink own index y ∈ GW ∧ Cond.instanceMethod y ∈ GW ∧ y.name = "<init>" ∧ Cond.initialized y.cls ∈ GW ∧ Cond.code y bytes maxL none ∈ GW ∧ okN y n
def LkNS (own : String) (index : Nat) (y : MethodName) (host : String) (bytes : ByteArray) (maxL : Nat) (ret : Option FieldType) (n : Nat) : Prop := Cond.methodLinkNest own index y host ∈ tables_1 ∧ Cond.static y ∈ GW ∧ Cond.initialized y.cls ∈ GW ∧ Cond.code y bytes maxL ret ∈ GW ∧ okN y n
def LkNV (own : String) (index : Nat) (y : MethodName) (host : String) (bytes : ByteArray) (maxL : Nat) (ret : Option FieldType) (n : Nat) : Prop := Cond.methodLinkNest own index y host ∈ tables_1 ∧ Cond.instanceMethod y ∈ GW ∧ Cond.selects y.cls y y ∈ GW ∧ Cond.initialized y.cls ∈ GW ∧ Cond.code y bytes maxL ret ∈ GW ∧ okN y n
def LkNI (own : String) (index : Nat) (y : MethodName) (host : String) (bytes : ByteArray) (maxL : Nat) (n : Nat) : Prop := Cond.methodLinkNest own index y host ∈ tables_1 ∧ Cond.instanceMethod y ∈ GW ∧ y.name = "<init>" ∧ Cond.initialized y.cls ∈ GW ∧ Cond.code y bytes maxL none ∈ GW ∧ okN y n
/-- the room that a callee wants of its caller's -/
def okR (rm R : Room) (maxL mc ms cells slots : Nat) : Prop := (rm.cells = mc ∧ rm.slots = ms) ∧ (rm.frames + 1 ≤ R.frames ∧ 8 + (maxL + 11) + rm.locals ≤ R.locals) ∧ (cells + mc ≤ R.cells ∧ slots + ms ≤ R.slots)
variable {S : Type} {val : S → Option Value} {post : S → Prop} {Pc : Array Value → State → Prop} {Qc : Array Value → State → Outcome → State → Prop} {free : Addr → Prop}
theorem rn_S (hM : Met l y (.code y bytes maxL ret :: GW) rm Pc Qc mc ms free) (F : CallFix p m c cc nL s args GW own) (K : LkS own index y bytes maxL ret As.length) (hp : PreS s H Pc As) (ho : okR rm R maxL mc ms cells slots) (hls : ls.size = nL) (hst : st0 = As.reverse ++ rest) (hW : (rest.map fun v => v.category).sum ≤ 8) (hdg : decode cc pc = .ok (.invokestatic index, 3)) : va_Run p l e R s m args below meth c H locs cells slots mc ms (F0 m pc ls st0) rest (Qc As.toArray) free := by
  obtain ⟨k1, k2, k3, k4, k5⟩ := K
  have hG : GoodIn GW (va_wsS own index y (.code y bytes maxL ret :: GW)) := gw_app (fun w hw => by
    rcases List.mem_cons.mp hw with rfl | hw
    · exact k1
    rcases List.mem_cons.mp hw with rfl | hw
    · exact k2
    rcases List.mem_cons.mp hw with rfl | hw
    · exact k3
    cases hw) k4
  exact va_runS F hM (va_cwS As.length F.2.2.2.2 hG rfl ho.1.1 ho.1.2 k5 ho.2.1) hp rfl rfl hls hst (lv_room hW) hdg ho.2.2
theorem rn_V (hM : Met l y (.code y bytes maxL ret :: GW) rm Pc Qc mc ms free) (F : CallFix p m c cc nL s args GW own) (K : LkV own index y bytes maxL ret As.length) (hp : PreV s H y.cls b Pc As) (ho : okR rm R maxL mc ms cells slots) (hls : ls.size = nL) (hst : st0 = As.reverse ++ .ref b :: rest) (hW : (rest.map fun v => v.category).sum ≤ 8) (hdg : decode cc pc = .ok (.invokevirtual index, 3)) : va_Run p l e R s m args below meth c H locs cells slots mc ms (F0 m pc ls st0) rest (Qc (Value.ref b :: As).toArray) free := by
  obtain ⟨k1, k2, k3, k4, k5, k6⟩ := K
  have hG : GoodIn GW (wsV own index y.cls y (.code y bytes maxL ret :: GW)) := gw_app (fun w hw => by
    rcases List.mem_cons.mp hw with rfl | hw
    · exact k1
    rcases List.mem_cons.mp hw with rfl | hw
    · exact k2
    rcases List.mem_cons.mp hw with rfl | hw
    · exact k3
    rcases List.mem_cons.mp hw with rfl | hw
    · exact k4
    cases hw) k5
  exact va_runV F hM (cwV As.length F.2.2.2.2 hG rfl ho.1.1 ho.1.2 ⟨rfl, k6⟩ ho.2.1) hp rfl rfl hls hst (lv_room hW) hdg ho.2.2
theorem rn_I (hM : Met l y (.code y bytes maxL none :: GW) rm Pc Qc mc ms free) (F : CallFix p m c cc nL s args GW own) (K : LkI own index y bytes maxL As.length) (hp : PreS s H Pc (.ref b :: As)) (ho : okR rm R maxL mc ms cells slots) (hls : ls.size = nL) (hst : st0 = As.reverse ++ .ref b :: rest) (hW : (rest.map fun v => v.category).sum ≤ 8) (hdg : decode cc pc = .ok (.invokespecial index, 3)) : va_Run p l e R s m args below meth c H locs cells slots mc ms (F0 m pc ls st0) rest (Qc (Value.ref b :: As).toArray) free := by
  obtain ⟨k1, k2, k3, k4, k5, k6⟩ := K
  have hts := F.2.2.2.2
  exact va_runI F hM (cwI As.length hts (gw_cons k5) rfl ho.1.1 ho.1.2 (hts _ k4) (hts _ k1) (hts _ k2) k3 k6 ho.2.1) hp rfl rfl hls hst (lv_room hW) hdg ho.2.2
theorem rn_NS (hM : Met l y (.code y bytes maxL ret :: GW) rm Pc Qc mc ms free) (F : CallFix p m c cc nL s args GW own) (hKN : KN D Y Z s) (K : LkNS own index y host bytes maxL ret As.length) (hp : PreS s H Pc As) (ho : okR rm R maxL mc ms cells slots) (hls : ls.size = nL) (hst : st0 = As.reverse ++ rest) (hW : (rest.map fun v => v.category).sum ≤ 8) (hdg : decode cc pc = .ok (.invokestatic index, 3)) : va_Run p l e R s m args below meth c H locs cells slots mc ms (F0 m pc ls st0) rest (Qc As.toArray) free := by
  obtain ⟨k1, k2, k3, k4, k5⟩ := K
  have hts := F.2.2.2.2
  exact va_runSN F hM ⟨va_cnB As.length hts (gw_cons k4) rfl ho.1.1 ho.1.2 (hKN.2.1 _ k1 rfl) (hts _ k3) k5 ho.2.1, hts _ k2, trivial⟩ hp rfl rfl hls hst (lv_room hW) hdg ho.2.2
theorem rn_NV (hM : Met l y (.code y bytes maxL ret :: GW) rm Pc Qc mc ms free) (F : CallFix p m c cc nL s args GW own) (hKN : KN D Y Z s) (K : LkNV own index y host bytes maxL ret As.length) (hp : PreV s H y.cls b Pc As) (ho : okR rm R maxL mc ms cells slots) (hls : ls.size = nL) (hst : st0 = As.reverse ++ .ref b :: rest) (hW : (rest.map fun v => v.category).sum ≤ 8) (hdg : decode cc pc = .ok (.invokevirtual index, 3)) : va_Run p l e R s m args below meth c H locs cells slots mc ms (F0 m pc ls st0) rest (Qc (Value.ref b :: As).toArray) free := by
  obtain ⟨k1, k2, k3, k4, k5, k6⟩ := K
  have hts := F.2.2.2.2
  exact va_runVN F hM ⟨va_cnB As.length hts (gw_cons k5) rfl ho.1.1 ho.1.2 (hKN.2.1 _ k1 rfl) (hts _ k4) k6 ho.2.1, hts _ k2, hts _ k3⟩ hp rfl rfl hls hst (lv_room hW) hdg ho.2.2
theorem rn_NI (hM : Met l y (.code y bytes maxL none :: GW) rm Pc Qc mc ms free) (F : CallFix p m c cc nL s args GW own) (hKN : KN D Y Z s) (K : LkNI own index y host bytes maxL As.length) (hp : PreS s H Pc (.ref b :: As)) (ho : okR rm R maxL mc ms cells slots) (hls : ls.size = nL) (hst : st0 = As.reverse ++ .ref b :: rest) (hW : (rest.map fun v => v.category).sum ≤ 8) (hdg : decode cc pc = .ok (.invokespecial index, 3)) : va_Run p l e R s m args below meth c H locs cells slots mc ms (F0 m pc ls st0) rest (Qc (Value.ref b :: As).toArray) free := by
  obtain ⟨k1, k2, k3, k4, k5, k6⟩ := K
  have hts := F.2.2.2.2
  exact va_runIN F hM ⟨va_cnB As.length hts (gw_cons k5) rfl ho.1.1 ho.1.2 (hKN.2.1 _ k1 rfl) (hts _ k4) k6 ho.2.1, k3, hts _ k2⟩ hp rfl rfl hls hst (lv_room hW) hdg ho.2.2
/-- a new array of a primitive type, of the class that the tables have -/
theorem nw_a {ws : va_W} {ty : FieldType} (k : Nat) (hexec : p.tables.exec = Jvm.exec) (hb : c.code = cc) {atype : ArrayType} (harr : (Cond.arrayClass (newarray.typeOf atype)).before args s = true) (hty : newarray.typeOf atype = ty) (hKN : KN D Y Z s) {yk : ClassId} (ht : (TYS Y)[k]? = some (yk, ty)) (hP : va_P D vwCl ws H) (hD : va_D A0 ws) (hS : va_S A0 H0 H locs) (hA : ∀ q, H0.size ≤ q → A0 q)
    {n : Int32} {N' : Nat} {a0 : vp_A} (ha : ∀ cA : ClassId, vp_cell cA a0 = arrV cA N' (fun _ => defaultValue ty)) (hn : ¬ n < 0) (hN : n.toNatClampNeg = N') (hbytes : N' * componentBytes ty ≤ 536870912) (hcells : cells + 1 ≤ R.cells) (hslots : slots + N' ≤ R.slots) (hdg : decode cc pc = .ok (.newarray atype, 2))
    (kk : ∀ (q : Nat) (H1 : Heap), va_P D vwCl (ws ++ [(q, .inl (yk, a0))]) H1 → va_D A0 (ws ++ [(q, .inl (yk, a0))]) → va_S A0 H0 H1 locs →
      W p l e R s m args below meth c H1 locs (cells + 1) (slots + N') Q (F0 m (pc + 2) ls (.ref q :: rest))) : W p l e R s m args below meth c H locs cells slots Q (F0 m pc ls (.int n :: rest)) := by
  refine va_newa hexec hb harr hty hKN.1 hP hD hS hA ha hn hN hbytes hcells hslots hdg (fun q cA H1 hK2 hP2 hD2 hS2 => ?_)
  have e1 := RA_cls (hK2.2 _ (cA, ty) List.getElem?_concat_length).2
  have e2 := RA_cls (hKN.1.2 k _ ht).2
  have e3 : cA = yk := Option.some.inj (e1.symm.trans e2)
  subst e3
  exact kk q H1 hP2 hD2 hS2
/-- a new array of references -/
theorem nw_q {ws : va_W} {own C : String} {index : Nat} (k : Nat) (hexec : p.tables.exec = Jvm.exec) (hb : c.code = cc) (hown : s.vm.findClass own = some m.cls) (hclink : (Cond.classLink own index C).before args s = true) (hC : C ∈ AOL) (hKN : KN D Y Z s) {yk : ClassId} (ht : (TYS Y)[k]? = some (yk, .object C)) (hP : va_P D vwCl ws H) (hD : va_D A0 ws) (hS : va_S A0 H0 H locs) (hA : ∀ q, H0.size ≤ q → A0 q)
    {n : Int32} {N' : Nat} (hn : ¬ n < 0) (hN : n.toNatClampNeg = N') (hbytes : N' * 4 ≤ 536870912) (hcells : cells + 1 ≤ R.cells) (hslots : slots + N' ≤ R.slots) (hdg : decode cc pc = .ok (.anewarray index, 3))
    (kk : ∀ (q : Nat) (H1 : Heap), va_P D vwCl (ws ++ [(q, .inl (yk, N', .inr (.inr (.inr (.inr (fun _ => none))))))]) H1 → va_D A0 (ws ++ [(q, .inl (yk, N', .inr (.inr (.inr (.inr (fun _ => none))))))]) → va_S A0 H0 H1 locs →
      W p l e R s m args below meth c H1 locs (cells + 1) (slots + N') Q (F0 m (pc + 3) ls (.ref q :: rest))) : W p l e R s m args below meth c H locs cells slots Q (F0 m pc ls (.int n :: rest)) := by
  refine va_newq hexec hb hown hclink (hKN.2.2.1 C hC) hKN.1 hP hD hS hA hn hN hbytes hcells hslots hdg (fun q cA H1 hK2 hP2 hD2 hS2 => ?_)
  have e1 := RA_cls (hK2.2 _ (cA, .object C) List.getElem?_concat_length).2
  have e2 := RA_cls (hKN.1.2 k _ ht).2
  have e3 : cA = yk := Option.some.inj (e1.symm.trans e2)
  subst e3
  exact kk q H1 hP2 hD2 hS2
end CG
end
section
set_option maxRecDepth 20000 in
theorem inTX0 : ∀ w ∈ u_ws RX0 TX0 2, w ∈ lw_tbl ∧ goodWord w = true := by decide +kernel
theorem inGX0 : ∀ w ∈ u_ws RX0 TX0 2, w ∈ GW := fun w h => List.mem_filter.mpr (inTX0 w h)
set_option maxRecDepth 20000 in
theorem inTX1 : ∀ w ∈ u_ws RX1 TX1 7, w ∈ lw_tbl ∧ goodWord w = true := by decide +kernel
theorem inGX1 : ∀ w ∈ u_ws RX1 TX1 7, w ∈ GW := fun w h => List.mem_filter.mpr (inTX1 w h)
set_option maxRecDepth 20000 in
theorem inTX2 : ∀ w ∈ u_ws RX2 TX2 8, w ∈ lw_tbl ∧ goodWord w = true := by decide +kernel
theorem inGX2 : ∀ w ∈ u_ws RX2 TX2 8, w ∈ GW := fun w h => List.mem_filter.mpr (inTX2 w h)
set_option maxRecDepth 20000 in
theorem inTX3 : ∀ w ∈ u_ws RX3 TX3 12, w ∈ lw_tbl ∧ goodWord w = true := by decide +kernel
theorem inGX3 : ∀ w ∈ u_ws RX3 TX3 12, w ∈ GW := fun w h => List.mem_filter.mpr (inTX3 w h)
set_option maxRecDepth 20000 in
theorem inTX4 : ∀ w ∈ u_ws RX4 TX4 1, w ∈ lw_tbl ∧ goodWord w = true := by decide +kernel
theorem inGX4 : ∀ w ∈ u_ws RX4 TX4 1, w ∈ GW := fun w h => List.mem_filter.mpr (inTX4 w h)
set_option maxRecDepth 20000 in
theorem inTX5 : ∀ w ∈ u_ws RX5 TX5 4, w ∈ lw_tbl ∧ goodWord w = true := by decide +kernel
theorem inGX5 : ∀ w ∈ u_ws RX5 TX5 4, w ∈ GW := fun w h => List.mem_filter.mpr (inTX5 w h)
set_option maxRecDepth 20000 in
theorem inTX6 : ∀ w ∈ u_ws RX6 TX6 13, w ∈ lw_tbl ∧ goodWord w = true := by decide +kernel
theorem inGX6 : ∀ w ∈ u_ws RX6 TX6 13, w ∈ GW := fun w h => List.mem_filter.mpr (inTX6 w h)
set_option maxRecDepth 20000 in
theorem inTX7 : ∀ w ∈ u_ws RX7 TX7 4, w ∈ lw_tbl ∧ goodWord w = true := by decide +kernel
theorem inGX7 : ∀ w ∈ u_ws RX7 TX7 4, w ∈ GW := fun w h => List.mem_filter.mpr (inTX7 w h)
set_option maxRecDepth 20000 in
theorem inTX8 : ∀ w ∈ u_ws RX8 TX8 14, w ∈ lw_tbl ∧ goodWord w = true := by decide +kernel
theorem inGX8 : ∀ w ∈ u_ws RX8 TX8 14, w ∈ GW := fun w h => List.mem_filter.mpr (inTX8 w h)
set_option maxRecDepth 20000 in
theorem inTX9 : ∀ w ∈ u_ws RX9 TX9 6, w ∈ lw_tbl ∧ goodWord w = true := by decide +kernel
theorem inGX9 : ∀ w ∈ u_ws RX9 TX9 6, w ∈ GW := fun w h => List.mem_filter.mpr (inTX9 w h)
set_option maxRecDepth 20000 in
theorem inTX10 : ∀ w ∈ u_ws RX10 TX10 20, w ∈ lw_tbl ∧ goodWord w = true := by decide +kernel
theorem inGX10 : ∀ w ∈ u_ws RX10 TX10 20, w ∈ GW := fun w h => List.mem_filter.mpr (inTX10 w h)
set_option maxRecDepth 20000 in
theorem inTX11 : ∀ w ∈ u_ws RX11 TX11 49, w ∈ lw_tbl ∧ goodWord w = true := by decide +kernel
theorem inGX11 : ∀ w ∈ u_ws RX11 TX11 49, w ∈ GW := fun w h => List.mem_filter.mpr (inTX11 w h)
theorem kw_1 : Cond.initialized "DimStars" ∈ GW := gw_t 1 rfl rfl
theorem kw_417 : Cond.methodLink "DimStars" 100 ⟨"DimStars", "isWithin", "(III)Z"⟩ ∈ GW := gw_t 417 rfl rfl
theorem kw_418 : Cond.static ⟨"DimStars", "isWithin", "(III)Z"⟩ ∈ GW := gw_t 418 rfl rfl
theorem kw_419 : Cond.code yX10_isWithin cX10_isWithin 3 (some .boolean) ∈ GW := gw_t 419 rfl rfl
theorem lk_X10_100 : LkS RX10 100 yX10_isWithin cX10_isWithin 3 (some .boolean) 3 := ⟨kw_417, kw_418, kw_1, kw_419, ⟨by decide +kernel, by decide +kernel, by decide +kernel⟩⟩
end
section
theorem dX10_isBeat_0 : decode cX10_isBeat 0 = .ok (.iload_n 0, 1) := by decide +kernel
theorem dX10_isBeat_1 : decode cX10_isBeat 1 = .ok (.iconst 2, 1) := by decide +kernel
theorem dX10_isBeat_2 : decode cX10_isBeat 2 = .ok (.sipush 200, 3) := by decide +kernel
theorem dX10_isBeat_5 : decode cX10_isBeat 5 = .ok (.invokestatic 100, 3) := by decide +kernel
theorem dX10_isBeat_8 : decode cX10_isBeat 8 = .ok (.ireturn, 1) := by decide +kernel
theorem dX10_isHour_0 : decode cX10_isHour 0 = .ok (.iload_n 0, 1) := by decide +kernel
theorem dX10_isHour_1 : decode cX10_isHour 1 = .ok (.iconst 0, 1) := by decide +kernel
theorem dX10_isHour_2 : decode cX10_isHour 2 = .ok (.sipush 599, 3) := by decide +kernel
theorem dX10_isHour_5 : decode cX10_isHour 5 = .ok (.invokestatic 100, 3) := by decide +kernel
theorem dX10_isHour_8 : decode cX10_isHour 8 = .ok (.ireturn, 1) := by decide +kernel
theorem dX10_isSize_0 : decode cX10_isSize 0 = .ok (.iload_n 0, 1) := by decide +kernel
theorem dX10_isSize_1 : decode cX10_isSize 1 = .ok (.iconst 1, 1) := by decide +kernel
theorem dX10_isSize_2 : decode cX10_isSize 2 = .ok (.sipush 999, 3) := by decide +kernel
theorem dX10_isSize_5 : decode cX10_isSize 5 = .ok (.invokestatic 100, 3) := by decide +kernel
theorem dX10_isSize_8 : decode cX10_isSize 8 = .ok (.ireturn, 1) := by decide +kernel
theorem dX10_isWay_0 : decode cX10_isWay 0 = .ok (.iload_n 0, 1) := by decide +kernel
theorem dX10_isWay_1 : decode cX10_isWay 1 = .ok (.iconst 0, 1) := by decide +kernel
theorem dX10_isWay_2 : decode cX10_isWay 2 = .ok (.iconst 5, 1) := by decide +kernel
theorem dX10_isWay_3 : decode cX10_isWay 3 = .ok (.invokestatic 100, 3) := by decide +kernel
theorem dX10_isWay_6 : decode cX10_isWay 6 = .ok (.ireturn, 1) := by decide +kernel
theorem dX10_isWithin_0 : decode cX10_isWithin 0 = .ok (.iload_n 0, 1) := by decide +kernel
theorem dX10_isWithin_1 : decode cX10_isWithin 1 = .ok (.iload_n 1, 1) := by decide +kernel
theorem dX10_isWithin_2 : decode cX10_isWithin 2 = .ok (.if_icmp .lt 12, 3) := by decide +kernel
theorem dX10_isWithin_5 : decode cX10_isWithin 5 = .ok (.iload_n 0, 1) := by decide +kernel
theorem dX10_isWithin_6 : decode cX10_isWithin 6 = .ok (.iload_n 2, 1) := by decide +kernel
theorem dX10_isWithin_7 : decode cX10_isWithin 7 = .ok (.if_icmp .gt 7, 3) := by decide +kernel
theorem dX10_isWithin_10 : decode cX10_isWithin 10 = .ok (.iconst 1, 1) := by decide +kernel
theorem dX10_isWithin_11 : decode cX10_isWithin 11 = .ok (.goto 4, 3) := by decide +kernel
theorem dX10_isWithin_14 : decode cX10_isWithin 14 = .ok (.iconst 0, 1) := by decide +kernel
theorem dX10_isWithin_15 : decode cX10_isWithin 15 = .ok (.ireturn, 1) := by decide +kernel
end
section
set_option maxHeartbeats 4000000 in
set_option maxRecDepth 100000 in
theorem c_isWithin (l : Launch) (D : va_G) (Y : Nat → ClassId) (Z : Nat → Nat) (sz : Nat) (n a b : Int32) (A0 B0 : Int) (ha : a.toInt = A0) (hb0 : b.toInt = B0) : Met l yX10_isWithin (.code yX10_isWithin cX10_isWithin 3 (some .boolean) :: GW) ({ frames := 0, cells := 0, slots := 0, locals := 0 }) (va_Pc [.int n, .int a, .int b] (CP D Y Z [] sz)) (QG (S := Int32) (fun r => some (.int r)) (fun r => ((A0 ≤ n.toInt ∧ n.toInt ≤ B0) ∧ r = 1) ∨ (¬ (A0 ≤ n.toInt ∧ n.toInt ≤ B0) ∧ r = 0)) (fun u => CB D ((fun _ => []) u) (va_A [] sz)) (va_A [] sz)) 0 0 (va_A [] sz) := by
  refine Met.ofW (cc := cX10_isWithin) (maxL := 3) (ret := (some .boolean)) (by decide) rfl ?_
  intro p e s m args below meth c s₁ B hml hv
  obtain ⟨rfl, hsz, hP, hKN, hD0⟩ := hv
  have hx := B.exec
  have hb := B.bytes
  have hr := B.returns
  have hts := atoms_spec (ws := .code yX10_isWithin cX10_isWithin 3 (some .boolean) :: GW) B.pre
  have hg : ∀ w ∈ GW, w.before _ s = true := fun w h => hts w (List.mem_cons_of_mem _ h)
  have hown : s.vm.findClass RX10 = some m.cls := findClass_of_methodNamed B.named
  have hlocks := B.notSynchronized
  subst hsz
  have hD := hD0.self (sz := s.heap.size)
  generalize hAe : va_A [] s.heap.size = A at hD ⊢
  have hA : ∀ q : Nat, s.heap.size ≤ q → A q := fun q h => by rw [← hAe]; exact Or.inr h
  have hl := lv_entry ([.int n, .int a, .int b]) (n := 3) (Nat.le_of_ble_eq_true rfl)
  rw [lg_entry_eq]
  generalize (lg_sl ([.int n, .int a, .int b]) ++ List.replicate (3 - (lg_sl ([.int n, .int a, .int b])).length) Slot.unset).toArray = ls at hl ⊢
  have hl : lv_has ls 3 [(0, .int n), (1, .int a), (2, .int b)] := hl
  refine w_start (A0 := A) hP (fun H locs hP hS => ?_)
  refine lv_iload_n hx hb dX10_isWithin_0 rfl (lv_at hl 0 rfl) ?_
  refine lv_iload_n hx hb dX10_isWithin_1 rfl (lv_at hl 1 rfl) ?_
  refine lv_icmp_lt (tgt := 14) hx hb dX10_isWithin_2 (by decide) (fun c1 => ?_) (fun c1 => ?_)
  · skip
    have c1 := i_lt (Eq.refl (n).toInt) (Eq.refl (a).toInt) c1
    refine lv_iconst (v := 0) hx hb dX10_isWithin_14 (by decide) ?_
    refine W.widen (k := 0) (n := 0) (Nat.le_of_ble_eq_true rfl) (Nat.le_of_ble_eq_true rfl) ?_
    exact W.zret (v := 0) hx hb hr (by decide) (fun t ht hW => ⟨⟨0, rfl, (Or.inr ⟨by omega, rfl⟩), CB.nil⟩, hS.F ht⟩) hS.2.2 dX10_isWithin_15
  · skip
    have c1 := i_nlt (Eq.refl (n).toInt) (Eq.refl (a).toInt) c1
    refine lv_iload_n hx hb dX10_isWithin_5 rfl (lv_at hl 0 rfl) ?_
    refine lv_iload_n hx hb dX10_isWithin_6 rfl (lv_at hl 2 rfl) ?_
    refine lv_icmp_gt (tgt := 14) hx hb dX10_isWithin_7 (by decide) (fun c2 => ?_) (fun c2 => ?_)
    · skip
      have c2 := i_lt (Eq.refl (b).toInt) (Eq.refl (n).toInt) c2
      refine lv_iconst (v := 0) hx hb dX10_isWithin_14 (by decide) ?_
      refine W.widen (k := 0) (n := 0) (Nat.le_of_ble_eq_true rfl) (Nat.le_of_ble_eq_true rfl) ?_
      exact W.zret (v := 0) hx hb hr (by decide) (fun t ht hW => ⟨⟨0, rfl, (Or.inr ⟨by omega, rfl⟩), CB.nil⟩, hS.F ht⟩) hS.2.2 dX10_isWithin_15
    · skip
      have c2 := i_nlt (Eq.refl (b).toInt) (Eq.refl (n).toInt) c2
      refine lv_iconst (v := 1) hx hb dX10_isWithin_10 (by decide) ?_
      refine lv_goto (tgt := 15) hx hb dX10_isWithin_11 (by decide) ?_
      refine W.widen (k := 0) (n := 0) (Nat.le_of_ble_eq_true rfl) (Nat.le_of_ble_eq_true rfl) ?_
      exact W.zret (v := 1) hx hb hr (by decide) (fun t ht hW => ⟨⟨1, rfl, (Or.inl ⟨by omega, rfl⟩), CB.nil⟩, hS.F ht⟩) hS.2.2 dX10_isWithin_15
set_option maxHeartbeats 4000000 in
set_option maxRecDepth 100000 in
theorem c_isHour (l : Launch) (D : va_G) (Y : Nat → ClassId) (Z : Nat → Nat) (sz : Nat) (n : Int32) : Met l yX10_isHour (.code yX10_isHour cX10_isHour 1 (some .boolean) :: GW) ({ frames := 1, cells := 0, slots := 0, locals := 22 }) (va_Pc [.int n] (CP D Y Z [] sz)) (QG (S := Int32) (fun r => some (.int r)) (fun r => ((0 ≤ n.toInt ∧ n.toInt ≤ 599) ∧ r = 1) ∨ (¬ (0 ≤ n.toInt ∧ n.toInt ≤ 599) ∧ r = 0)) (fun u => CB D ((fun _ => []) u) (va_A [] sz)) (va_A [] sz)) 0 0 (va_A [] sz) := by
  refine Met.ofW (cc := cX10_isHour) (maxL := 1) (ret := (some .boolean)) (by decide) rfl ?_
  intro p e s m args below meth c s₁ B hml hv
  obtain ⟨rfl, hsz, hP, hKN, hD0⟩ := hv
  have hx := B.exec
  have hb := B.bytes
  have hr := B.returns
  have hts := atoms_spec (ws := .code yX10_isHour cX10_isHour 1 (some .boolean) :: GW) B.pre
  have hg : ∀ w ∈ GW, w.before _ s = true := fun w h => hts w (List.mem_cons_of_mem _ h)
  have hown : s.vm.findClass RX10 = some m.cls := findClass_of_methodNamed B.named
  have hlocks := B.notSynchronized
  subst hsz
  have hD := hD0.self (sz := s.heap.size)
  generalize hAe : va_A [] s.heap.size = A at hD ⊢
  have hA : ∀ q : Nat, s.heap.size ≤ q → A q := fun q h => by rw [← hAe]; exact Or.inr h
  have hl := lv_entry ([.int n]) (n := 1) (Nat.le_of_ble_eq_true rfl)
  rw [lg_entry_eq]
  generalize (lg_sl ([.int n]) ++ List.replicate (1 - (lg_sl ([.int n])).length) Slot.unset).toArray = ls at hl ⊢
  have hl : lv_has ls 1 [(0, .int n)] := hl
  refine w_start (A0 := A) hP (fun H locs hP hS => ?_)
  refine lv_iload_n hx hb dX10_isHour_0 rfl (lv_at hl 0 rfl) ?_
  refine lv_iconst (v := 0) hx hb dX10_isHour_1 (by decide) ?_
  refine lv_sipush (v := 599) hx hb dX10_isHour_2 (by decide) ?_
  refine cg0 (rn_S (As := [.int n, .int 0, .int 599]) (rest := []) (c_isWithin l D Y Z H.size n 0 599 (0) (599) (by decide) (by decide)) ⟨hx, hb, hml, hown, hg⟩ lk_X10_100 ⟨CP.blind, CP.at nilP hKN (nilD (A := fun _ => True))⟩ ⟨⟨rfl, rfl⟩, ⟨Nat.le_of_ble_eq_true rfl, Nat.le_of_ble_eq_true rfl⟩, ⟨Nat.le_of_ble_eq_true rfl, Nat.le_of_ble_eq_true rfl⟩⟩ hl.1 rfl (Nat.le_of_ble_eq_true rfl) dX10_isHour_5) hP hS hA (fun u1 H locs w2 hP hS => ?_)
  rcases w2 with ⟨w2, rfl⟩ | ⟨w2, rfl⟩
  · skip
    refine W.eq (g2 := F0 m 8 ls [.int 1]) rfl ?_
    refine W.widen (k := 0) (n := 0) (Nat.le_of_ble_eq_true rfl) (Nat.le_of_ble_eq_true rfl) ?_
    exact W.zret (v := 1) hx hb hr (by decide) (fun t ht hW => ⟨⟨1, rfl, (Or.inl ⟨by omega, rfl⟩), CB.nil⟩, hS.F ht⟩) hS.2.2 dX10_isHour_8
  · skip
    refine W.eq (g2 := F0 m 8 ls [.int 0]) rfl ?_
    refine W.widen (k := 0) (n := 0) (Nat.le_of_ble_eq_true rfl) (Nat.le_of_ble_eq_true rfl) ?_
    exact W.zret (v := 0) hx hb hr (by decide) (fun t ht hW => ⟨⟨0, rfl, (Or.inr ⟨by omega, rfl⟩), CB.nil⟩, hS.F ht⟩) hS.2.2 dX10_isHour_8
set_option maxHeartbeats 4000000 in
set_option maxRecDepth 100000 in
theorem c_isSize (l : Launch) (D : va_G) (Y : Nat → ClassId) (Z : Nat → Nat) (sz : Nat) (n : Int32) : Met l yX10_isSize (.code yX10_isSize cX10_isSize 1 (some .boolean) :: GW) ({ frames := 1, cells := 0, slots := 0, locals := 22 }) (va_Pc [.int n] (CP D Y Z [] sz)) (QG (S := Int32) (fun r => some (.int r)) (fun r => ((1 ≤ n.toInt ∧ n.toInt ≤ 999) ∧ r = 1) ∨ (¬ (1 ≤ n.toInt ∧ n.toInt ≤ 999) ∧ r = 0)) (fun u => CB D ((fun _ => []) u) (va_A [] sz)) (va_A [] sz)) 0 0 (va_A [] sz) := by
  refine Met.ofW (cc := cX10_isSize) (maxL := 1) (ret := (some .boolean)) (by decide) rfl ?_
  intro p e s m args below meth c s₁ B hml hv
  obtain ⟨rfl, hsz, hP, hKN, hD0⟩ := hv
  have hx := B.exec
  have hb := B.bytes
  have hr := B.returns
  have hts := atoms_spec (ws := .code yX10_isSize cX10_isSize 1 (some .boolean) :: GW) B.pre
  have hg : ∀ w ∈ GW, w.before _ s = true := fun w h => hts w (List.mem_cons_of_mem _ h)
  have hown : s.vm.findClass RX10 = some m.cls := findClass_of_methodNamed B.named
  have hlocks := B.notSynchronized
  subst hsz
  have hD := hD0.self (sz := s.heap.size)
  generalize hAe : va_A [] s.heap.size = A at hD ⊢
  have hA : ∀ q : Nat, s.heap.size ≤ q → A q := fun q h => by rw [← hAe]; exact Or.inr h
  have hl := lv_entry ([.int n]) (n := 1) (Nat.le_of_ble_eq_true rfl)
  rw [lg_entry_eq]
  generalize (lg_sl ([.int n]) ++ List.replicate (1 - (lg_sl ([.int n])).length) Slot.unset).toArray = ls at hl ⊢
  have hl : lv_has ls 1 [(0, .int n)] := hl
  refine w_start (A0 := A) hP (fun H locs hP hS => ?_)
  refine lv_iload_n hx hb dX10_isSize_0 rfl (lv_at hl 0 rfl) ?_
  refine lv_iconst (v := 1) hx hb dX10_isSize_1 (by decide) ?_
  refine lv_sipush (v := 999) hx hb dX10_isSize_2 (by decide) ?_
  refine cg0 (rn_S (As := [.int n, .int 1, .int 999]) (rest := []) (c_isWithin l D Y Z H.size n 1 999 (1) (999) (by decide) (by decide)) ⟨hx, hb, hml, hown, hg⟩ lk_X10_100 ⟨CP.blind, CP.at nilP hKN (nilD (A := fun _ => True))⟩ ⟨⟨rfl, rfl⟩, ⟨Nat.le_of_ble_eq_true rfl, Nat.le_of_ble_eq_true rfl⟩, ⟨Nat.le_of_ble_eq_true rfl, Nat.le_of_ble_eq_true rfl⟩⟩ hl.1 rfl (Nat.le_of_ble_eq_true rfl) dX10_isSize_5) hP hS hA (fun u1 H locs w2 hP hS => ?_)
  rcases w2 with ⟨w2, rfl⟩ | ⟨w2, rfl⟩
  · skip
    refine W.eq (g2 := F0 m 8 ls [.int 1]) rfl ?_
    refine W.widen (k := 0) (n := 0) (Nat.le_of_ble_eq_true rfl) (Nat.le_of_ble_eq_true rfl) ?_
    exact W.zret (v := 1) hx hb hr (by decide) (fun t ht hW => ⟨⟨1, rfl, (Or.inl ⟨by omega, rfl⟩), CB.nil⟩, hS.F ht⟩) hS.2.2 dX10_isSize_8
  · skip
    refine W.eq (g2 := F0 m 8 ls [.int 0]) rfl ?_
    refine W.widen (k := 0) (n := 0) (Nat.le_of_ble_eq_true rfl) (Nat.le_of_ble_eq_true rfl) ?_
    exact W.zret (v := 0) hx hb hr (by decide) (fun t ht hW => ⟨⟨0, rfl, (Or.inr ⟨by omega, rfl⟩), CB.nil⟩, hS.F ht⟩) hS.2.2 dX10_isSize_8
set_option maxHeartbeats 4000000 in
set_option maxRecDepth 100000 in
theorem c_isWay (l : Launch) (D : va_G) (Y : Nat → ClassId) (Z : Nat → Nat) (sz : Nat) (n : Int32) : Met l yX10_isWay (.code yX10_isWay cX10_isWay 1 (some .boolean) :: GW) ({ frames := 1, cells := 0, slots := 0, locals := 22 }) (va_Pc [.int n] (CP D Y Z [] sz)) (QG (S := Int32) (fun r => some (.int r)) (fun r => ((0 ≤ n.toInt ∧ n.toInt ≤ 5) ∧ r = 1) ∨ (¬ (0 ≤ n.toInt ∧ n.toInt ≤ 5) ∧ r = 0)) (fun u => CB D ((fun _ => []) u) (va_A [] sz)) (va_A [] sz)) 0 0 (va_A [] sz) := by
  refine Met.ofW (cc := cX10_isWay) (maxL := 1) (ret := (some .boolean)) (by decide) rfl ?_
  intro p e s m args below meth c s₁ B hml hv
  obtain ⟨rfl, hsz, hP, hKN, hD0⟩ := hv
  have hx := B.exec
  have hb := B.bytes
  have hr := B.returns
  have hts := atoms_spec (ws := .code yX10_isWay cX10_isWay 1 (some .boolean) :: GW) B.pre
  have hg : ∀ w ∈ GW, w.before _ s = true := fun w h => hts w (List.mem_cons_of_mem _ h)
  have hown : s.vm.findClass RX10 = some m.cls := findClass_of_methodNamed B.named
  have hlocks := B.notSynchronized
  subst hsz
  have hD := hD0.self (sz := s.heap.size)
  generalize hAe : va_A [] s.heap.size = A at hD ⊢
  have hA : ∀ q : Nat, s.heap.size ≤ q → A q := fun q h => by rw [← hAe]; exact Or.inr h
  have hl := lv_entry ([.int n]) (n := 1) (Nat.le_of_ble_eq_true rfl)
  rw [lg_entry_eq]
  generalize (lg_sl ([.int n]) ++ List.replicate (1 - (lg_sl ([.int n])).length) Slot.unset).toArray = ls at hl ⊢
  have hl : lv_has ls 1 [(0, .int n)] := hl
  refine w_start (A0 := A) hP (fun H locs hP hS => ?_)
  refine lv_iload_n hx hb dX10_isWay_0 rfl (lv_at hl 0 rfl) ?_
  refine lv_iconst (v := 0) hx hb dX10_isWay_1 (by decide) ?_
  refine lv_iconst (v := 5) hx hb dX10_isWay_2 (by decide) ?_
  refine cg0 (rn_S (As := [.int n, .int 0, .int 5]) (rest := []) (c_isWithin l D Y Z H.size n 0 5 (0) (5) (by decide) (by decide)) ⟨hx, hb, hml, hown, hg⟩ lk_X10_100 ⟨CP.blind, CP.at nilP hKN (nilD (A := fun _ => True))⟩ ⟨⟨rfl, rfl⟩, ⟨Nat.le_of_ble_eq_true rfl, Nat.le_of_ble_eq_true rfl⟩, ⟨Nat.le_of_ble_eq_true rfl, Nat.le_of_ble_eq_true rfl⟩⟩ hl.1 rfl (Nat.le_of_ble_eq_true rfl) dX10_isWay_3) hP hS hA (fun u1 H locs w2 hP hS => ?_)
  rcases w2 with ⟨w2, rfl⟩ | ⟨w2, rfl⟩
  · skip
    refine W.eq (g2 := F0 m 6 ls [.int 1]) rfl ?_
    refine W.widen (k := 0) (n := 0) (Nat.le_of_ble_eq_true rfl) (Nat.le_of_ble_eq_true rfl) ?_
    exact W.zret (v := 1) hx hb hr (by decide) (fun t ht hW => ⟨⟨1, rfl, (Or.inl ⟨by omega, rfl⟩), CB.nil⟩, hS.F ht⟩) hS.2.2 dX10_isWay_6
  · skip
    refine W.eq (g2 := F0 m 6 ls [.int 0]) rfl ?_
    refine W.widen (k := 0) (n := 0) (Nat.le_of_ble_eq_true rfl) (Nat.le_of_ble_eq_true rfl) ?_
    exact W.zret (v := 0) hx hb hr (by decide) (fun t ht hW => ⟨⟨0, rfl, (Or.inr ⟨by omega, rfl⟩), CB.nil⟩, hS.F ht⟩) hS.2.2 dX10_isWay_6
set_option maxHeartbeats 4000000 in
set_option maxRecDepth 100000 in
theorem c_isBeat (l : Launch) (D : va_G) (Y : Nat → ClassId) (Z : Nat → Nat) (sz : Nat) (n : Int32) : Met l yX10_isBeat (.code yX10_isBeat cX10_isBeat 1 (some .boolean) :: GW) ({ frames := 1, cells := 0, slots := 0, locals := 22 }) (va_Pc [.int n] (CP D Y Z [] sz)) (QG (S := Int32) (fun r => some (.int r)) (fun r => ((2 ≤ n.toInt ∧ n.toInt ≤ 200) ∧ r = 1) ∨ (¬ (2 ≤ n.toInt ∧ n.toInt ≤ 200) ∧ r = 0)) (fun u => CB D ((fun _ => []) u) (va_A [] sz)) (va_A [] sz)) 0 0 (va_A [] sz) := by
  refine Met.ofW (cc := cX10_isBeat) (maxL := 1) (ret := (some .boolean)) (by decide) rfl ?_
  intro p e s m args below meth c s₁ B hml hv
  obtain ⟨rfl, hsz, hP, hKN, hD0⟩ := hv
  have hx := B.exec
  have hb := B.bytes
  have hr := B.returns
  have hts := atoms_spec (ws := .code yX10_isBeat cX10_isBeat 1 (some .boolean) :: GW) B.pre
  have hg : ∀ w ∈ GW, w.before _ s = true := fun w h => hts w (List.mem_cons_of_mem _ h)
  have hown : s.vm.findClass RX10 = some m.cls := findClass_of_methodNamed B.named
  have hlocks := B.notSynchronized
  subst hsz
  have hD := hD0.self (sz := s.heap.size)
  generalize hAe : va_A [] s.heap.size = A at hD ⊢
  have hA : ∀ q : Nat, s.heap.size ≤ q → A q := fun q h => by rw [← hAe]; exact Or.inr h
  have hl := lv_entry ([.int n]) (n := 1) (Nat.le_of_ble_eq_true rfl)
  rw [lg_entry_eq]
  generalize (lg_sl ([.int n]) ++ List.replicate (1 - (lg_sl ([.int n])).length) Slot.unset).toArray = ls at hl ⊢
  have hl : lv_has ls 1 [(0, .int n)] := hl
  refine w_start (A0 := A) hP (fun H locs hP hS => ?_)
  refine lv_iload_n hx hb dX10_isBeat_0 rfl (lv_at hl 0 rfl) ?_
  refine lv_iconst (v := 2) hx hb dX10_isBeat_1 (by decide) ?_
  refine lv_sipush (v := 200) hx hb dX10_isBeat_2 (by decide) ?_
  refine cg0 (rn_S (As := [.int n, .int 2, .int 200]) (rest := []) (c_isWithin l D Y Z H.size n 2 200 (2) (200) (by decide) (by decide)) ⟨hx, hb, hml, hown, hg⟩ lk_X10_100 ⟨CP.blind, CP.at nilP hKN (nilD (A := fun _ => True))⟩ ⟨⟨rfl, rfl⟩, ⟨Nat.le_of_ble_eq_true rfl, Nat.le_of_ble_eq_true rfl⟩, ⟨Nat.le_of_ble_eq_true rfl, Nat.le_of_ble_eq_true rfl⟩⟩ hl.1 rfl (Nat.le_of_ble_eq_true rfl) dX10_isBeat_5) hP hS hA (fun u1 H locs w2 hP hS => ?_)
  rcases w2 with ⟨w2, rfl⟩ | ⟨w2, rfl⟩
  · skip
    refine W.eq (g2 := F0 m 8 ls [.int 1]) rfl ?_
    refine W.widen (k := 0) (n := 0) (Nat.le_of_ble_eq_true rfl) (Nat.le_of_ble_eq_true rfl) ?_
    exact W.zret (v := 1) hx hb hr (by decide) (fun t ht hW => ⟨⟨1, rfl, (Or.inl ⟨by omega, rfl⟩), CB.nil⟩, hS.F ht⟩) hS.2.2 dX10_isBeat_8
  · skip
    refine W.eq (g2 := F0 m 8 ls [.int 0]) rfl ?_
    refine W.widen (k := 0) (n := 0) (Nat.le_of_ble_eq_true rfl) (Nat.le_of_ble_eq_true rfl) ?_
    exact W.zret (v := 0) hx hb hr (by decide) (fun t ht hW => ⟨⟨0, rfl, (Or.inr ⟨by omega, rfl⟩), CB.nil⟩, hS.F ht⟩) hS.2.2 dX10_isBeat_8
end
