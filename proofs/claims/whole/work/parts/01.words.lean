-- ===== PART A: goes FIRST, ahead of the names: the tables' words, and 'selects' of the private methods out of them =====
/-- a private method of a class that the tables say can be made, by its rows of tables_1 -/
def lw_okq (q : MethodName × Nat) : Prop := (q.1.cls ≠ "java/lang/invoke/MethodHandle" ∧ q.1.cls ≠ "java/lang/invoke/VarHandle") ∧ Cond.instantiable q.1.cls q.2 ∈ tables_1 ∧ Cond.privateMethod q.1 ∈ tables_1 ∧ Cond.instanceMethod q.1 ∈ tables_1
theorem lw_p0 : lw_okq (⟨"ThreeRefusals", "faultless", "(I)I"⟩, 8) := ⟨⟨by decide +kernel, by decide +kernel⟩, List.mem_of_getElem? (i := 15) (by decide +kernel), List.mem_of_getElem? (i := 209) (by decide +kernel), List.mem_of_getElem? (i := 210) (by decide +kernel)⟩
theorem lw_p1 : lw_okq (⟨"ThreeRefusals", "faulted", "(I)I"⟩, 8) := ⟨⟨by decide +kernel, by decide +kernel⟩, List.mem_of_getElem? (i := 15) (by decide +kernel), List.mem_of_getElem? (i := 228) (by decide +kernel), List.mem_of_getElem? (i := 229) (by decide +kernel)⟩
theorem lw_p2 : lw_okq (⟨"ThreeRefusals", "likings", "(I)[[I"⟩, 8) := ⟨⟨by decide +kernel, by decide +kernel⟩, List.mem_of_getElem? (i := 15) (by decide +kernel), List.mem_of_getElem? (i := 290) (by decide +kernel), List.mem_of_getElem? (i := 291) (by decide +kernel)⟩
theorem lw_p3 : lw_okq (⟨"ThreeRefusals$Valley", "bringsTo", "(III)Z"⟩, 6) := ⟨⟨by decide +kernel, by decide +kernel⟩, List.mem_of_getElem? (i := 23) (by decide +kernel), List.mem_of_getElem? (i := 391) (by decide +kernel), List.mem_of_getElem? (i := 392) (by decide +kernel)⟩
theorem lw_p4 : lw_okq (⟨"ThreeRefusals$Days", "wouldBreak", "(LThreeRefusals$Valley;II)Z"⟩, 3) := ⟨⟨by decide +kernel, by decide +kernel⟩, List.mem_of_getElem? (i := 71) (by decide +kernel), List.mem_of_getElem? (i := 411) (by decide +kernel), List.mem_of_getElem? (i := 412) (by decide +kernel)⟩
theorem lw_p5 : lw_okq (⟨"ThreeRefusals$Matches", "keep", "()V"⟩, 3) := ⟨⟨by decide +kernel, by decide +kernel⟩, List.mem_of_getElem? (i := 135) (by decide +kernel), List.mem_of_getElem? (i := 415) (by decide +kernel), List.mem_of_getElem? (i := 416) (by decide +kernel)⟩
theorem lw_p6 : lw_okq (⟨"ThreeRefusals$Valley", "sumOfFirst", "(III)I"⟩, 6) := ⟨⟨by decide +kernel, by decide +kernel⟩, List.mem_of_getElem? (i := 23) (by decide +kernel), List.mem_of_getElem? (i := 455) (by decide +kernel), List.mem_of_getElem? (i := 456) (by decide +kernel)⟩
theorem lw_p7 : lw_okq (⟨"ThreeRefusals$Readings", "areSoByLiking", "(LThreeRefusals$Valley;III)Z"⟩, 5) := ⟨⟨by decide +kernel, by decide +kernel⟩, List.mem_of_getElem? (i := 111) (by decide +kernel), List.mem_of_getElem? (i := 482) (by decide +kernel), List.mem_of_getElem? (i := 483) (by decide +kernel)⟩
theorem lw_p8 : lw_okq (⟨"ThreeRefusals$Readings", "isSo", "(III)Z"⟩, 5) := ⟨⟨by decide +kernel, by decide +kernel⟩, List.mem_of_getElem? (i := 111) (by decide +kernel), List.mem_of_getElem? (i := 486) (by decide +kernel), List.mem_of_getElem? (i := 487) (by decide +kernel)⟩
theorem lw_p9 : lw_okq (⟨"ThreeRefusals$Readings", "areSoByKind", "(LThreeRefusals$Valley;II)Z"⟩, 5) := ⟨⟨by decide +kernel, by decide +kernel⟩, List.mem_of_getElem? (i := 111) (by decide +kernel), List.mem_of_getElem? (i := 503) (by decide +kernel), List.mem_of_getElem? (i := 504) (by decide +kernel)⟩
theorem lw_p10 : lw_okq (⟨"ThreeRefusals", "lost", "(I)J"⟩, 8) := ⟨⟨by decide +kernel, by decide +kernel⟩, List.mem_of_getElem? (i := 15) (by decide +kernel), List.mem_of_getElem? (i := 536) (by decide +kernel), List.mem_of_getElem? (i := 537) (by decide +kernel)⟩
theorem lw_p11 : lw_okq (⟨"ThreeRefusals", "tellAsProud", "(I)I"⟩, 8) := ⟨⟨by decide +kernel, by decide +kernel⟩, List.mem_of_getElem? (i := 15) (by decide +kernel), List.mem_of_getElem? (i := 551) (by decide +kernel), List.mem_of_getElem? (i := 552) (by decide +kernel)⟩
theorem lw_p12 : lw_okq (⟨"ThreeRefusals", "mark", "(I)V"⟩, 8) := ⟨⟨by decide +kernel, by decide +kernel⟩, List.mem_of_getElem? (i := 15) (by decide +kernel), List.mem_of_getElem? (i := 555) (by decide +kernel), List.mem_of_getElem? (i := 556) (by decide +kernel)⟩
theorem lw_p13 : lw_okq (⟨"ThreeRefusals", "tellAsMaid", "(I)I"⟩, 8) := ⟨⟨by decide +kernel, by decide +kernel⟩, List.mem_of_getElem? (i := 15) (by decide +kernel), List.mem_of_getElem? (i := 559) (by decide +kernel), List.mem_of_getElem? (i := 560) (by decide +kernel)⟩
theorem lw_p14 : lw_okq (⟨"ThreeRefusals", "tellAsHeiress", "(I)I"⟩, 8) := ⟨⟨by decide +kernel, by decide +kernel⟩, List.mem_of_getElem? (i := 15) (by decide +kernel), List.mem_of_getElem? (i := 563) (by decide +kernel), List.mem_of_getElem? (i := 564) (by decide +kernel)⟩
theorem lw_p15 : lw_okq (⟨"ThreeRefusals", "greetAsHeiress", "()I"⟩, 8) := ⟨⟨by decide +kernel, by decide +kernel⟩, List.mem_of_getElem? (i := 15) (by decide +kernel), List.mem_of_getElem? (i := 571) (by decide +kernel), List.mem_of_getElem? (i := 572) (by decide +kernel)⟩
def lw_privs_1 : List (MethodName × Nat) := [(⟨"ThreeRefusals", "faultless", "(I)I"⟩, 8), (⟨"ThreeRefusals", "faulted", "(I)I"⟩, 8), (⟨"ThreeRefusals", "likings", "(I)[[I"⟩, 8), (⟨"ThreeRefusals$Valley", "bringsTo", "(III)Z"⟩, 6), (⟨"ThreeRefusals$Days", "wouldBreak", "(LThreeRefusals$Valley;II)Z"⟩, 3), (⟨"ThreeRefusals$Matches", "keep", "()V"⟩, 3), (⟨"ThreeRefusals$Valley", "sumOfFirst", "(III)I"⟩, 6), (⟨"ThreeRefusals$Readings", "areSoByLiking", "(LThreeRefusals$Valley;III)Z"⟩, 5), (⟨"ThreeRefusals$Readings", "isSo", "(III)Z"⟩, 5), (⟨"ThreeRefusals$Readings", "areSoByKind", "(LThreeRefusals$Valley;II)Z"⟩, 5), (⟨"ThreeRefusals", "lost", "(I)J"⟩, 8), (⟨"ThreeRefusals", "tellAsProud", "(I)I"⟩, 8), (⟨"ThreeRefusals", "mark", "(I)V"⟩, 8), (⟨"ThreeRefusals", "tellAsMaid", "(I)I"⟩, 8), (⟨"ThreeRefusals", "tellAsHeiress", "(I)I"⟩, 8), (⟨"ThreeRefusals", "greetAsHeiress", "()I"⟩, 8)]
theorem lw_r1 : ∀ q ∈ lw_privs_1, lw_okq q := List.forall_mem_cons.mpr ⟨lw_p0, List.forall_mem_cons.mpr ⟨lw_p1, List.forall_mem_cons.mpr ⟨lw_p2, List.forall_mem_cons.mpr ⟨lw_p3, List.forall_mem_cons.mpr ⟨lw_p4, List.forall_mem_cons.mpr ⟨lw_p5, List.forall_mem_cons.mpr ⟨lw_p6, List.forall_mem_cons.mpr ⟨lw_p7, List.forall_mem_cons.mpr ⟨lw_p8, List.forall_mem_cons.mpr ⟨lw_p9, List.forall_mem_cons.mpr ⟨lw_p10, List.forall_mem_cons.mpr ⟨lw_p11, List.forall_mem_cons.mpr ⟨lw_p12, List.forall_mem_cons.mpr ⟨lw_p13, List.forall_mem_cons.mpr ⟨lw_p14, List.forall_mem_cons.mpr ⟨lw_p15, fun _ h => absurd h List.not_mem_nil⟩⟩⟩⟩⟩⟩⟩⟩⟩⟩⟩⟩⟩⟩⟩⟩
theorem lw_p16 : lw_okq (⟨"ThreeRefusals", "greetAsAnyone", "(I)I"⟩, 8) := ⟨⟨by decide +kernel, by decide +kernel⟩, List.mem_of_getElem? (i := 15) (by decide +kernel), List.mem_of_getElem? (i := 575) (by decide +kernel), List.mem_of_getElem? (i := 576) (by decide +kernel)⟩
theorem lw_p17 : lw_okq (⟨"ThreeRefusalsModel", "refused", "(I)I"⟩, 30) := ⟨⟨by decide +kernel, by decide +kernel⟩, List.mem_of_getElem? (i := 595) (by decide +kernel), List.mem_of_getElem? (i := 703) (by decide +kernel), List.mem_of_getElem? (i := 704) (by decide +kernel)⟩
theorem lw_p18 : lw_okq (⟨"ThreeRefusalsModel", "cellsBarred", "(IIIJ)I"⟩, 30) := ⟨⟨by decide +kernel, by decide +kernel⟩, List.mem_of_getElem? (i := 595) (by decide +kernel), List.mem_of_getElem? (i := 708) (by decide +kernel), List.mem_of_getElem? (i := 709) (by decide +kernel)⟩
theorem lw_p19 : lw_okq (⟨"ThreeRefusalsModel", "failed", "(I)I"⟩, 30) := ⟨⟨by decide +kernel, by decide +kernel⟩, List.mem_of_getElem? (i := 595) (by decide +kernel), List.mem_of_getElem? (i := 712) (by decide +kernel), List.mem_of_getElem? (i := 713) (by decide +kernel)⟩
theorem lw_p20 : lw_okq (⟨"ThreeRefusalsModel", "readsValley", "(II)Z"⟩, 30) := ⟨⟨by decide +kernel, by decide +kernel⟩, List.mem_of_getElem? (i := 595) (by decide +kernel), List.mem_of_getElem? (i := 719) (by decide +kernel), List.mem_of_getElem? (i := 720) (by decide +kernel)⟩
theorem lw_p21 : lw_okq (⟨"ThreeRefusalsModel", "codeAt", "(II)I"⟩, 30) := ⟨⟨by decide +kernel, by decide +kernel⟩, List.mem_of_getElem? (i := 595) (by decide +kernel), List.mem_of_getElem? (i := 723) (by decide +kernel), List.mem_of_getElem? (i := 724) (by decide +kernel)⟩
theorem lw_p22 : lw_okq (⟨"ThreeRefusalsModel", "figure", "(IIII)I"⟩, 30) := ⟨⟨by decide +kernel, by decide +kernel⟩, List.mem_of_getElem? (i := 595) (by decide +kernel), List.mem_of_getElem? (i := 727) (by decide +kernel), List.mem_of_getElem? (i := 728) (by decide +kernel)⟩
theorem lw_p23 : lw_okq (⟨"ThreeRefusalsModel", "readsMaid", "(III)Z"⟩, 30) := ⟨⟨by decide +kernel, by decide +kernel⟩, List.mem_of_getElem? (i := 595) (by decide +kernel), List.mem_of_getElem? (i := 731) (by decide +kernel), List.mem_of_getElem? (i := 732) (by decide +kernel)⟩
theorem lw_p24 : lw_okq (⟨"ThreeRefusalsModel", "readsMark", "(II)Z"⟩, 30) := ⟨⟨by decide +kernel, by decide +kernel⟩, List.mem_of_getElem? (i := 595) (by decide +kernel), List.mem_of_getElem? (i := 735) (by decide +kernel), List.mem_of_getElem? (i := 736) (by decide +kernel)⟩
theorem lw_p25 : lw_okq (⟨"ThreeRefusalsModel", "readsSuitor", "(III)Z"⟩, 30) := ⟨⟨by decide +kernel, by decide +kernel⟩, List.mem_of_getElem? (i := 595) (by decide +kernel), List.mem_of_getElem? (i := 739) (by decide +kernel), List.mem_of_getElem? (i := 740) (by decide +kernel)⟩
theorem lw_p26 : lw_okq (⟨"ThreeRefusalsModel", "noMaid", "(I)Z"⟩, 30) := ⟨⟨by decide +kernel, by decide +kernel⟩, List.mem_of_getElem? (i := 595) (by decide +kernel), List.mem_of_getElem? (i := 747) (by decide +kernel), List.mem_of_getElem? (i := 748) (by decide +kernel)⟩
theorem lw_p27 : lw_okq (⟨"ThreeRefusalsModel", "noSuitor", "(I)Z"⟩, 30) := ⟨⟨by decide +kernel, by decide +kernel⟩, List.mem_of_getElem? (i := 595) (by decide +kernel), List.mem_of_getElem? (i := 751) (by decide +kernel), List.mem_of_getElem? (i := 752) (by decide +kernel)⟩
theorem lw_p28 : lw_okq (⟨"ThreeRefusalsModel", "goOffers", "()V"⟩, 30) := ⟨⟨by decide +kernel, by decide +kernel⟩, List.mem_of_getElem? (i := 595) (by decide +kernel), List.mem_of_getElem? (i := 764) (by decide +kernel), List.mem_of_getElem? (i := 765) (by decide +kernel)⟩
theorem lw_p29 : lw_okq (⟨"ThreeRefusalsModel", "begin", "()V"⟩, 30) := ⟨⟨by decide +kernel, by decide +kernel⟩, List.mem_of_getElem? (i := 595) (by decide +kernel), List.mem_of_getElem? (i := 768) (by decide +kernel), List.mem_of_getElem? (i := 769) (by decide +kernel)⟩
theorem lw_p30 : lw_okq (⟨"ThreeRefusalsModel", "ask", "(II)I"⟩, 30) := ⟨⟨by decide +kernel, by decide +kernel⟩, List.mem_of_getElem? (i := 595) (by decide +kernel), List.mem_of_getElem? (i := 772) (by decide +kernel), List.mem_of_getElem? (i := 773) (by decide +kernel)⟩
theorem lw_p31 : lw_okq (⟨"ThreeRefusalsModel", "doesWith", "(II)I"⟩, 30) := ⟨⟨by decide +kernel, by decide +kernel⟩, List.mem_of_getElem? (i := 595) (by decide +kernel), List.mem_of_getElem? (i := 776) (by decide +kernel), List.mem_of_getElem? (i := 777) (by decide +kernel)⟩
def lw_privs_2 : List (MethodName × Nat) := [(⟨"ThreeRefusals", "greetAsAnyone", "(I)I"⟩, 8), (⟨"ThreeRefusalsModel", "refused", "(I)I"⟩, 30), (⟨"ThreeRefusalsModel", "cellsBarred", "(IIIJ)I"⟩, 30), (⟨"ThreeRefusalsModel", "failed", "(I)I"⟩, 30), (⟨"ThreeRefusalsModel", "readsValley", "(II)Z"⟩, 30), (⟨"ThreeRefusalsModel", "codeAt", "(II)I"⟩, 30), (⟨"ThreeRefusalsModel", "figure", "(IIII)I"⟩, 30), (⟨"ThreeRefusalsModel", "readsMaid", "(III)Z"⟩, 30), (⟨"ThreeRefusalsModel", "readsMark", "(II)Z"⟩, 30), (⟨"ThreeRefusalsModel", "readsSuitor", "(III)Z"⟩, 30), (⟨"ThreeRefusalsModel", "noMaid", "(I)Z"⟩, 30), (⟨"ThreeRefusalsModel", "noSuitor", "(I)Z"⟩, 30), (⟨"ThreeRefusalsModel", "goOffers", "()V"⟩, 30), (⟨"ThreeRefusalsModel", "begin", "()V"⟩, 30), (⟨"ThreeRefusalsModel", "ask", "(II)I"⟩, 30), (⟨"ThreeRefusalsModel", "doesWith", "(II)I"⟩, 30)]
theorem lw_r2 : ∀ q ∈ lw_privs_2, lw_okq q := List.forall_mem_cons.mpr ⟨lw_p16, List.forall_mem_cons.mpr ⟨lw_p17, List.forall_mem_cons.mpr ⟨lw_p18, List.forall_mem_cons.mpr ⟨lw_p19, List.forall_mem_cons.mpr ⟨lw_p20, List.forall_mem_cons.mpr ⟨lw_p21, List.forall_mem_cons.mpr ⟨lw_p22, List.forall_mem_cons.mpr ⟨lw_p23, List.forall_mem_cons.mpr ⟨lw_p24, List.forall_mem_cons.mpr ⟨lw_p25, List.forall_mem_cons.mpr ⟨lw_p26, List.forall_mem_cons.mpr ⟨lw_p27, List.forall_mem_cons.mpr ⟨lw_p28, List.forall_mem_cons.mpr ⟨lw_p29, List.forall_mem_cons.mpr ⟨lw_p30, List.forall_mem_cons.mpr ⟨lw_p31, fun _ h => absurd h List.not_mem_nil⟩⟩⟩⟩⟩⟩⟩⟩⟩⟩⟩⟩⟩⟩⟩⟩
theorem lw_p32 : lw_okq (⟨"ThreeRefusalsModel", "doBring", "(III)Z"⟩, 30) := ⟨⟨by decide +kernel, by decide +kernel⟩, List.mem_of_getElem? (i := 595) (by decide +kernel), List.mem_of_getElem? (i := 823) (by decide +kernel), List.mem_of_getElem? (i := 824) (by decide +kernel)⟩
theorem lw_p33 : lw_okq (⟨"ThreeRefusalsModel", "power", "(I)I"⟩, 30) := ⟨⟨by decide +kernel, by decide +kernel⟩, List.mem_of_getElem? (i := 595) (by decide +kernel), List.mem_of_getElem? (i := 831) (by decide +kernel), List.mem_of_getElem? (i := 832) (by decide +kernel)⟩
theorem lw_p34 : lw_okq (⟨"ThreeRefusalsModel", "laysMatch", "(I)Z"⟩, 30) := ⟨⟨by decide +kernel, by decide +kernel⟩, List.mem_of_getElem? (i := 595) (by decide +kernel), List.mem_of_getElem? (i := 835) (by decide +kernel), List.mem_of_getElem? (i := 836) (by decide +kernel)⟩
theorem lw_p35 : lw_okq (⟨"ThreeRefusalsModel", "isFirm", "()Z"⟩, 30) := ⟨⟨by decide +kernel, by decide +kernel⟩, List.mem_of_getElem? (i := 595) (by decide +kernel), List.mem_of_getElem? (i := 839) (by decide +kernel), List.mem_of_getElem? (i := 840) (by decide +kernel)⟩
theorem lw_p36 : lw_okq (⟨"ThreeRefusalsModel", "likesHer", "(I)I"⟩, 30) := ⟨⟨by decide +kernel, by decide +kernel⟩, List.mem_of_getElem? (i := 595) (by decide +kernel), List.mem_of_getElem? (i := 843) (by decide +kernel), List.mem_of_getElem? (i := 844) (by decide +kernel)⟩
theorem lw_p37 : lw_okq (⟨"ThreeRefusalsModel", "likesHim", "(I)I"⟩, 30) := ⟨⟨by decide +kernel, by decide +kernel⟩, List.mem_of_getElem? (i := 595) (by decide +kernel), List.mem_of_getElem? (i := 847) (by decide +kernel), List.mem_of_getElem? (i := 848) (by decide +kernel)⟩
theorem lw_p38 : lw_okq (⟨"ThreeRefusalsModel", "isSo", "(III)Z"⟩, 30) := ⟨⟨by decide +kernel, by decide +kernel⟩, List.mem_of_getElem? (i := 595) (by decide +kernel), List.mem_of_getElem? (i := 875) (by decide +kernel), List.mem_of_getElem? (i := 876) (by decide +kernel)⟩
theorem lw_p39 : lw_okq (⟨"ThreeRefusalsModel", "noCell", "(II)I"⟩, 30) := ⟨⟨by decide +kernel, by decide +kernel⟩, List.mem_of_getElem? (i := 595) (by decide +kernel), List.mem_of_getElem? (i := 895) (by decide +kernel), List.mem_of_getElem? (i := 896) (by decide +kernel)⟩
theorem lw_p40 : lw_okq (⟨"ThreeRefusalsModel", "failedLong", "(I)J"⟩, 30) := ⟨⟨by decide +kernel, by decide +kernel⟩, List.mem_of_getElem? (i := 595) (by decide +kernel), List.mem_of_getElem? (i := 903) (by decide +kernel), List.mem_of_getElem? (i := 904) (by decide +kernel)⟩
theorem lw_p41 : lw_okq (⟨"ThreeRefusalsModel", "traced", "(I)V"⟩, 30) := ⟨⟨by decide +kernel, by decide +kernel⟩, List.mem_of_getElem? (i := 595) (by decide +kernel), List.mem_of_getElem? (i := 915) (by decide +kernel), List.mem_of_getElem? (i := 916) (by decide +kernel)⟩
def lw_privs_3 : List (MethodName × Nat) := [(⟨"ThreeRefusalsModel", "doBring", "(III)Z"⟩, 30), (⟨"ThreeRefusalsModel", "power", "(I)I"⟩, 30), (⟨"ThreeRefusalsModel", "laysMatch", "(I)Z"⟩, 30), (⟨"ThreeRefusalsModel", "isFirm", "()Z"⟩, 30), (⟨"ThreeRefusalsModel", "likesHer", "(I)I"⟩, 30), (⟨"ThreeRefusalsModel", "likesHim", "(I)I"⟩, 30), (⟨"ThreeRefusalsModel", "isSo", "(III)Z"⟩, 30), (⟨"ThreeRefusalsModel", "noCell", "(II)I"⟩, 30), (⟨"ThreeRefusalsModel", "failedLong", "(I)J"⟩, 30), (⟨"ThreeRefusalsModel", "traced", "(I)V"⟩, 30)]
theorem lw_r3 : ∀ q ∈ lw_privs_3, lw_okq q := List.forall_mem_cons.mpr ⟨lw_p32, List.forall_mem_cons.mpr ⟨lw_p33, List.forall_mem_cons.mpr ⟨lw_p34, List.forall_mem_cons.mpr ⟨lw_p35, List.forall_mem_cons.mpr ⟨lw_p36, List.forall_mem_cons.mpr ⟨lw_p37, List.forall_mem_cons.mpr ⟨lw_p38, List.forall_mem_cons.mpr ⟨lw_p39, List.forall_mem_cons.mpr ⟨lw_p40, List.forall_mem_cons.mpr ⟨lw_p41, fun _ h => absurd h List.not_mem_nil⟩⟩⟩⟩⟩⟩⟩⟩⟩⟩
def lw_privs : List (MethodName × Nat) := lw_privs_1 ++ (lw_privs_2 ++ (lw_privs_3))
def lw_tbl : List Cond := k2_sels lw_privs ++ tables_1
theorem lw_privs_ok : ∀ q ∈ lw_privs, lw_okq q := by
  show ∀ q ∈ lw_privs_1 ++ (lw_privs_2 ++ (lw_privs_3)), lw_okq q
  exact List.forall_mem_append.mpr ⟨lw_r1, List.forall_mem_append.mpr ⟨lw_r2, lw_r3⟩⟩
def RX0 : String := "ThreeRefusals$Days"
def TX0 : u_T := fun k => match k with
  | 0 => ("ThreeRefusals$Days", "refusals", "[I", true)
  | 1 => ("ThreeRefusals$Days", "husband", "[I", true)
  | _ => ("ThreeRefusals$Days", "bride", "[I", true)
def tyX0 : Nat → FieldType := fun k => match k with
  | 0 => .array .int
  | 1 => .array .int
  | _ => .array .int
abbrev wsX00 : List Cond := u_ws RX0 TX0 3
theorem nmX0 : ∀ a, a < 3 → ∀ b, b < 3 → a ≠ b → (TX0 a).2.1 ≠ (TX0 b).2.1 := by decide +kernel
theorem tyX0_ok : ∀ k, k < 3 → parseFieldDescriptor (TX0 k).2.2.1 = some (tyX0 k) := by decide +kernel
abbrev cX0_init : ByteArray := prog_2_method_1_code
def yX0_init : MethodName := ⟨RX0, "<init>", "()V"⟩
abbrev cX0_begin : ByteArray := prog_2_method_2_code
def yX0_begin : MethodName := ⟨RX0, "begin", "()V"⟩
abbrev cX0_ask : ByteArray := prog_2_method_3_code
def yX0_ask : MethodName := ⟨RX0, "ask", "(LThreeRefusals$Valley;II)I"⟩
abbrev cX0_unask : ByteArray := prog_2_method_4_code
def yX0_unask : MethodName := ⟨RX0, "unask", "(III)V"⟩
abbrev cX0_wed : ByteArray := prog_2_method_5_code
def yX0_wed : MethodName := ⟨RX0, "wed", "(II)V"⟩
abbrev cX0_part : ByteArray := prog_2_method_6_code
def yX0_part : MethodName := ⟨RX0, "part", "(II)V"⟩
abbrev cX0_isBroken : ByteArray := prog_2_method_7_code
def yX0_isBroken : MethodName := ⟨RX0, "isBroken", "(LThreeRefusals$Valley;I)Z"⟩
abbrev cX0_wouldBreak : ByteArray := prog_2_method_8_code
def yX0_wouldBreak : MethodName := ⟨RX0, "wouldBreak", "(LThreeRefusals$Valley;II)Z"⟩
def RX1 : String := "ThreeRefusals$Matches"
def TX1 : u_T := fun k => match k with
  | 0 => ("ThreeRefusals$Matches", "days", "LThreeRefusals$Days;", true)
  | 1 => ("ThreeRefusals$Matches", "first", "[I", true)
  | _ => ("ThreeRefusals$Matches", "found", "I", false)
def tyX1 : Nat → FieldType := fun k => match k with
  | 0 => .object "ThreeRefusals$Days"
  | 1 => .array .int
  | _ => .int
abbrev wsX10 : List Cond := u_ws RX1 TX1 3
theorem nmX1 : ∀ a, a < 3 → ∀ b, b < 3 → a ≠ b → (TX1 a).2.1 ≠ (TX1 b).2.1 := by decide +kernel
theorem tyX1_ok : ∀ k, k < 3 → parseFieldDescriptor (TX1 k).2.2.1 = some (tyX1 k) := by decide +kernel
abbrev cX1_init : ByteArray := prog_3_method_1_code
def yX1_init : MethodName := ⟨RX1, "<init>", "()V"⟩
abbrev cX1_countFirm : ByteArray := prog_3_method_2_code
def yX1_countFirm : MethodName := ⟨RX1, "countFirm", "(LThreeRefusals$Valley;)I"⟩
abbrev cX1_matchFrom : ByteArray := prog_3_method_3_code
def yX1_matchFrom : MethodName := ⟨RX1, "matchFrom", "(LThreeRefusals$Matches;LThreeRefusals$Valley;I)V"⟩
abbrev cX1_keep : ByteArray := prog_3_method_4_code
def yX1_keep : MethodName := ⟨RX1, "keep", "()V"⟩
abbrev cX1_countBringing : ByteArray := prog_3_method_5_code
def yX1_countBringing : MethodName := ⟨RX1, "countBringing", "(LThreeRefusals$Valley;)I"⟩
abbrev cX1_bringingFrom : ByteArray := prog_3_method_6_code
def yX1_bringingFrom : MethodName := ⟨RX1, "bringingFrom", "(LThreeRefusals$Days;LThreeRefusals$Valley;I)I"⟩
def RX2 : String := "ThreeRefusals$Offers"
def TX2 : u_T := fun k => match k with
  | 0 => ("ThreeRefusals$Offers", "suitor", "[I", true)
  | 1 => ("ThreeRefusals$Offers", "maid", "[I", true)
  | 2 => ("ThreeRefusals$Offers", "outcome", "[I", true)
  | 3 => ("ThreeRefusals$Offers", "days", "LThreeRefusals$Days;", true)
  | _ => ("ThreeRefusals$Offers", "count", "I", false)
def tyX2 : Nat → FieldType := fun k => match k with
  | 0 => .array .int
  | 1 => .array .int
  | 2 => .array .int
  | 3 => .object "ThreeRefusals$Days"
  | _ => .int
abbrev wsX20 : List Cond := u_ws RX2 TX2 5
theorem nmX2 : ∀ a, a < 5 → ∀ b, b < 5 → a ≠ b → (TX2 a).2.1 ≠ (TX2 b).2.1 := by decide +kernel
theorem tyX2_ok : ∀ k, k < 5 → parseFieldDescriptor (TX2 k).2.2.1 = some (tyX2 k) := by decide +kernel
abbrev cX2_init : ByteArray := prog_4_method_1_code
def yX2_init : MethodName := ⟨RX2, "<init>", "()V"⟩
abbrev cX2_forget : ByteArray := prog_4_method_2_code
def yX2_forget : MethodName := ⟨RX2, "forget", "()V"⟩
abbrev cX2_add : ByteArray := prog_4_method_3_code
def yX2_add : MethodName := ⟨RX2, "add", "(LThreeRefusals$Valley;II)I"⟩
abbrev cX2_goThrough : ByteArray := prog_4_method_4_code
def yX2_goThrough : MethodName := ⟨RX2, "goThrough", "(LThreeRefusals$Valley;)V"⟩
def RX3 : String := "ThreeRefusals$Readings"
def TX3 : u_T := fun k => match k with
  | 0 => ("ThreeRefusals$Readings", "maid", "[I", true)
  | 1 => ("ThreeRefusals$Readings", "suitor", "[I", true)
  | 2 => ("ThreeRefusals$Readings", "refusals", "[I", true)
  | 3 => ("ThreeRefusals$Readings", "took", "[Z", true)
  | _ => ("ThreeRefusals$Readings", "count", "I", false)
def tyX3 : Nat → FieldType := fun k => match k with
  | 0 => .array .int
  | 1 => .array .int
  | 2 => .array .int
  | 3 => .array .boolean
  | _ => .int
abbrev wsX30 : List Cond := u_ws RX3 TX3 5
theorem nmX3 : ∀ a, a < 5 → ∀ b, b < 5 → a ≠ b → (TX3 a).2.1 ≠ (TX3 b).2.1 := by decide +kernel
theorem tyX3_ok : ∀ k, k < 5 → parseFieldDescriptor (TX3 k).2.2.1 = some (tyX3 k) := by decide +kernel
abbrev cX3_init : ByteArray := prog_5_method_1_code
def yX3_init : MethodName := ⟨RX3, "<init>", "()V"⟩
abbrev cX3_add : ByteArray := prog_5_method_2_code
def yX3_add : MethodName := ⟨RX3, "add", "(IIIZ)I"⟩
abbrev cX3_leastLiking : ByteArray := prog_5_method_3_code
def yX3_leastLiking : MethodName := ⟨RX3, "leastLiking", "(LThreeRefusals$Valley;II)I"⟩
abbrev cX3_greatestLiking : ByteArray := prog_5_method_4_code
def yX3_greatestLiking : MethodName := ⟨RX3, "greatestLiking", "(LThreeRefusals$Valley;II)I"⟩
abbrev cX3_kindsOf : ByteArray := prog_5_method_5_code
def yX3_kindsOf : MethodName := ⟨RX3, "kindsOf", "(LThreeRefusals$Valley;I)I"⟩
abbrev cX3_areSoByLiking : ByteArray := prog_5_method_6_code
def yX3_areSoByLiking : MethodName := ⟨RX3, "areSoByLiking", "(LThreeRefusals$Valley;III)Z"⟩
abbrev cX3_areSoByKind : ByteArray := prog_5_method_7_code
def yX3_areSoByKind : MethodName := ⟨RX3, "areSoByKind", "(LThreeRefusals$Valley;II)Z"⟩
abbrev cX3_isSo : ByteArray := prog_5_method_8_code
def yX3_isSo : MethodName := ⟨RX3, "isSo", "(III)Z"⟩
def RX4 : String := "ThreeRefusals$Sheet"
def TX4 : u_T := fun k => match k with
  | 0 => ("ThreeRefusals$Sheet", "cells", "[I", true)
  | 1 => ("ThreeRefusals$Sheet", "hasRow", "Z", false)
  | 2 => ("ThreeRefusals$Sheet", "lane", "I", false)
  | _ => ("ThreeRefusals$Sheet", "length", "I", false)
def tyX4 : Nat → FieldType := fun k => match k with
  | 0 => .array .int
  | 1 => .boolean
  | 2 => .int
  | _ => .int
abbrev wsX40 : List Cond := u_ws RX4 TX4 4
theorem nmX4 : ∀ a, a < 4 → ∀ b, b < 4 → a ≠ b → (TX4 a).2.1 ≠ (TX4 b).2.1 := by decide +kernel
theorem tyX4_ok : ∀ k, k < 4 → parseFieldDescriptor (TX4 k).2.2.1 = some (tyX4 k) := by decide +kernel
abbrev cX4_init : ByteArray := prog_6_method_1_code
def yX4_init : MethodName := ⟨RX4, "<init>", "()V"⟩
abbrev cX4_renew : ByteArray := prog_6_method_2_code
def yX4_renew : MethodName := ⟨RX4, "renew", "(II)V"⟩
abbrev cX4_hasCell : ByteArray := prog_6_method_3_code
def yX4_hasCell : MethodName := ⟨RX4, "hasCell", "(I)Z"⟩
abbrev cX4_hasCells : ByteArray := prog_6_method_4_code
def yX4_hasCells : MethodName := ⟨RX4, "hasCells", "(II)Z"⟩
abbrev cX4_faultOfRow : ByteArray := prog_6_method_5_code
def yX4_faultOfRow : MethodName := ⟨RX4, "faultOfRow", "(I)I"⟩
abbrev cX4_faultOfCells : ByteArray := prog_6_method_6_code
def yX4_faultOfCells : MethodName := ⟨RX4, "faultOfCells", "(III)I"⟩
abbrev cX4_readInto : ByteArray := prog_6_method_7_code
def yX4_readInto : MethodName := ⟨RX4, "readInto", "([III)V"⟩
abbrev cX4_write : ByteArray := prog_6_method_8_code
def yX4_write : MethodName := ⟨RX4, "write", "(II)V"⟩
def RX5 : String := "ThreeRefusals$Text"
def TX5 : u_T := fun k => match k with
  | _ => ("", "", "", false)
def tyX5 : Nat → FieldType := fun k => match k with
  | _ => .int
abbrev wsX50 : List Cond := u_ws RX5 TX5 0
theorem nmX5 : ∀ a, a < 0 → ∀ b, b < 0 → a ≠ b → (TX5 a).2.1 ≠ (TX5 b).2.1 := by decide +kernel
theorem tyX5_ok : ∀ k, k < 0 → parseFieldDescriptor (TX5 k).2.2.1 = some (tyX5 k) := by decide +kernel
abbrev cX5_firstFault : ByteArray := prog_7_method_2_code
def yX5_firstFault : MethodName := ⟨RX5, "firstFault", "([II)I"⟩
abbrev cX5_firstFaultBehindHead : ByteArray := prog_7_method_3_code
def yX5_firstFaultBehindHead : MethodName := ⟨RX5, "firstFaultBehindHead", "([IIII)I"⟩
abbrev cX5_fitsHead : ByteArray := prog_7_method_4_code
def yX5_fitsHead : MethodName := ⟨RX5, "fitsHead", "(II)Z"⟩
abbrev cX5_fitsPart : ByteArray := prog_7_method_5_code
def yX5_fitsPart : MethodName := ⟨RX5, "fitsPart", "(ZII)Z"⟩
abbrev cX5_kindOf : ByteArray := prog_7_method_6_code
def yX5_kindOf : MethodName := ⟨RX5, "kindOf", "(I)I"⟩
abbrev cX5_maidPlace : ByteArray := prog_7_method_7_code
def yX5_maidPlace : MethodName := ⟨RX5, "maidPlace", "(II)I"⟩
abbrev cX5_suitorPlace : ByteArray := prog_7_method_8_code
def yX5_suitorPlace : MethodName := ⟨RX5, "suitorPlace", "(III)I"⟩
def RX6 : String := "ThreeRefusals$Valley"
def TX6 : u_T := fun k => match k with
  | 0 => ("ThreeRefusals$Valley", "suitors", "I", false)
  | 1 => ("ThreeRefusals$Valley", "maids", "I", false)
  | 2 => ("ThreeRefusals$Valley", "refusalsLet", "I", false)
  | 3 => ("ThreeRefusals$Valley", "kind", "[I", true)
  | 4 => ("ThreeRefusals$Valley", "hers", "[[I", true)
  | _ => ("ThreeRefusals$Valley", "his", "[[I", true)
def tyX6 : Nat → FieldType := fun k => match k with
  | 0 => .int
  | 1 => .int
  | 2 => .int
  | 3 => .array .int
  | 4 => .array (.array .int)
  | _ => .array (.array .int)
abbrev wsX60 : List Cond := u_ws RX6 TX6 6
theorem nmX6 : ∀ a, a < 6 → ∀ b, b < 6 → a ≠ b → (TX6 a).2.1 ≠ (TX6 b).2.1 := by decide +kernel
theorem tyX6_ok : ∀ k, k < 6 → parseFieldDescriptor (TX6 k).2.2.1 = some (tyX6 k) := by decide +kernel
abbrev cX6_init : ByteArray := prog_8_method_1_code
def yX6_init : MethodName := ⟨RX6, "<init>", "()V"⟩
abbrev cX6_stands : ByteArray := prog_8_method_2_code
def yX6_stands : MethodName := ⟨RX6, "stands", "()Z"⟩
abbrev cX6_hasMaid : ByteArray := prog_8_method_3_code
def yX6_hasMaid : MethodName := ⟨RX6, "hasMaid", "(I)Z"⟩
abbrev cX6_hasSuitor : ByteArray := prog_8_method_4_code
def yX6_hasSuitor : MethodName := ⟨RX6, "hasSuitor", "(I)Z"⟩
abbrev cX6_areSuitors : ByteArray := prog_8_method_5_code
def yX6_areSuitors : MethodName := ⟨RX6, "areSuitors", "([II)Z"⟩
abbrev cX6_settle : ByteArray := prog_8_method_6_code
def yX6_settle : MethodName := ⟨RX6, "settle", "([I)V"⟩
abbrev cX6_mind : ByteArray := prog_8_method_7_code
def yX6_mind : MethodName := ⟨RX6, "mind", "(II)I"⟩
abbrev cX6_answer : ByteArray := prog_8_method_8_code
def yX6_answer : MethodName := ⟨RX6, "answer", "(III)I"⟩
abbrev cX6_best : ByteArray := prog_8_method_9_code
def yX6_best : MethodName := ⟨RX6, "best", "(I[II)I"⟩
abbrev cX6_minded : ByteArray := prog_8_method_10_code
def yX6_minded : MethodName := ⟨RX6, "minded", "(I[II)I"⟩
abbrev cX6_fewestAhead : ByteArray := prog_8_method_11_code
def yX6_fewestAhead : MethodName := ⟨RX6, "fewestAhead", "(II)I"⟩
abbrev cX6_bringsTo : ByteArray := prog_8_method_12_code
def yX6_bringsTo : MethodName := ⟨RX6, "bringsTo", "(III)Z"⟩
abbrev cX6_rowsOf : ByteArray := prog_8_method_13_code
def yX6_rowsOf : MethodName := ⟨RX6, "rowsOf", "(I)I"⟩
abbrev cX6_sumOverRows : ByteArray := prog_8_method_14_code
def yX6_sumOverRows : MethodName := ⟨RX6, "sumOverRows", "(III)I"⟩
abbrev cX6_sumOfFirst : ByteArray := prog_8_method_15_code
def yX6_sumOfFirst : MethodName := ⟨RX6, "sumOfFirst", "(III)I"⟩
def RX7 : String := "ThreeRefusals"
def TX7 : u_T := fun k => match k with
  | 0 => ("ThreeRefusals", "land", "LThreeRefusals$Valley;", true)
  | 1 => ("ThreeRefusals", "offers", "LThreeRefusals$Offers;", true)
  | 2 => ("ThreeRefusals", "readings", "LThreeRefusals$Readings;", true)
  | 3 => ("ThreeRefusals", "matches", "LThreeRefusals$Matches;", true)
  | 4 => ("ThreeRefusals", "sheets", "[LThreeRefusals$Sheet;", true)
  | 5 => ("ThreeRefusals", "row", "[I", true)
  | 6 => ("ThreeRefusals", "traced", "I", false)
  | _ => ("ThreeRefusals", "latestFault", "I", false)
def tyX7 : Nat → FieldType := fun k => match k with
  | 0 => .object "ThreeRefusals$Valley"
  | 1 => .object "ThreeRefusals$Offers"
  | 2 => .object "ThreeRefusals$Readings"
  | 3 => .object "ThreeRefusals$Matches"
  | 4 => .array (.object "ThreeRefusals$Sheet")
  | 5 => .array .int
  | 6 => .int
  | _ => .int
abbrev wsX70 : List Cond := u_ws RX7 TX7 8
theorem nmX7 : ∀ a, a < 8 → ∀ b, b < 8 → a ≠ b → (TX7 a).2.1 ≠ (TX7 b).2.1 := by decide +kernel
theorem tyX7_ok : ∀ k, k < 8 → parseFieldDescriptor (TX7 k).2.2.1 = some (tyX7 k) := by decide +kernel
abbrev cX7_init : ByteArray := prog_1_method_1_code
def yX7_init : MethodName := ⟨RX7, "<init>", "()V"⟩
abbrev cX7_valley : ByteArray := prog_1_method_2_code
def yX7_valley : MethodName := ⟨RX7, "valley", "(IIII)I"⟩
abbrev cX7_likes : ByteArray := prog_1_method_3_code
def yX7_likes : MethodName := ⟨RX7, "likes", "(III)I"⟩
abbrev cX7_like : ByteArray := prog_1_method_4_code
def yX7_like : MethodName := ⟨RX7, "like", "(IIII)I"⟩
abbrev cX7_ofMaid : ByteArray := prog_1_method_5_code
def yX7_ofMaid : MethodName := ⟨RX7, "ofMaid", "(II)I"⟩
abbrev cX7_law : ByteArray := prog_1_method_6_code
def yX7_law : MethodName := ⟨RX7, "law", "(I)I"⟩
abbrev cX7_offer : ByteArray := prog_1_method_7_code
def yX7_offer : MethodName := ⟨RX7, "offer", "(II)I"⟩
abbrev cX7_comes : ByteArray := prog_1_method_8_code
def yX7_comes : MethodName := ⟨RX7, "comes", "(I)I"⟩
abbrev cX7_undo : ByteArray := prog_1_method_9_code
def yX7_undo : MethodName := ⟨RX7, "undo", "(I)I"⟩
abbrev cX7_pairs : ByteArray := prog_1_method_10_code
def yX7_pairs : MethodName := ⟨RX7, "pairs", "()J"⟩
abbrev cX7_asked : ByteArray := prog_1_method_11_code
def yX7_asked : MethodName := ⟨RX7, "asked", "(IIIIII)I"⟩
abbrev cX7_sent : ByteArray := prog_1_method_12_code
def yX7_sent : MethodName := ⟨RX7, "sent", "(II)I"⟩
abbrev cX7_firm : ByteArray := prog_1_method_13_code
def yX7_firm : MethodName := ⟨RX7, "firm", "(I)I"⟩
abbrev cX7_brought : ByteArray := prog_1_method_14_code
def yX7_brought : MethodName := ⟨RX7, "brought", "()I"⟩
abbrev cX7_worth : ByteArray := prog_1_method_15_code
def yX7_worth : MethodName := ⟨RX7, "worth", "(IIII)J"⟩
abbrev cX7_reading : ByteArray := prog_1_method_16_code
def yX7_reading : MethodName := ⟨RX7, "reading", "(IIIZ)I"⟩
abbrev cX7_back : ByteArray := prog_1_method_17_code
def yX7_back : MethodName := ⟨RX7, "back", "(I)I"⟩
abbrev cX7_learnt : ByteArray := prog_1_method_18_code
def yX7_learnt : MethodName := ⟨RX7, "learnt", "(III)I"⟩
abbrev cX7_kinds : ByteArray := prog_1_method_19_code
def yX7_kinds : MethodName := ⟨RX7, "kinds", "(I)I"⟩
abbrev cX7_sheet : ByteArray := prog_1_method_20_code
def yX7_sheet : MethodName := ⟨RX7, "sheet", "(III)I"⟩
abbrev cX7_lose : ByteArray := prog_1_method_21_code
def yX7_lose : MethodName := ⟨RX7, "lose", "(I)I"⟩
abbrev cX7_put : ByteArray := prog_1_method_22_code
def yX7_put : MethodName := ⟨RX7, "put", "(III)I"⟩
abbrev cX7_cell : ByteArray := prog_1_method_23_code
def yX7_cell : MethodName := ⟨RX7, "cell", "(III)J"⟩
abbrev cX7_copy : ByteArray := prog_1_method_24_code
def yX7_copy : MethodName := ⟨RX7, "copy", "(IIIII)I"⟩
abbrev cX7_tell : ByteArray := prog_1_method_25_code
def yX7_tell : MethodName := ⟨RX7, "tell", "(I)I"⟩
abbrev cX7_greet : ByteArray := prog_1_method_26_code
def yX7_greet : MethodName := ⟨RX7, "greet", "(I)I"⟩
abbrev cX7_as : ByteArray := prog_1_method_27_code
def yX7_as : MethodName := ⟨RX7, "as", "(II)I"⟩
abbrev cX7_trace : ByteArray := prog_1_method_28_code
def yX7_trace : MethodName := ⟨RX7, "trace", "()I"⟩
abbrev cX7_fault : ByteArray := prog_1_method_29_code
def yX7_fault : MethodName := ⟨RX7, "fault", "()I"⟩
abbrev cX7_many : ByteArray := prog_1_method_30_code
def yX7_many : MethodName := ⟨RX7, "many", "(I)I"⟩
abbrev cX7_faultless : ByteArray := prog_1_method_31_code
def yX7_faultless : MethodName := ⟨RX7, "faultless", "(I)I"⟩
abbrev cX7_faulted : ByteArray := prog_1_method_32_code
def yX7_faulted : MethodName := ⟨RX7, "faulted", "(I)I"⟩
abbrev cX7_lost : ByteArray := prog_1_method_33_code
def yX7_lost : MethodName := ⟨RX7, "lost", "(I)J"⟩
abbrev cX7_likings : ByteArray := prog_1_method_34_code
def yX7_likings : MethodName := ⟨RX7, "likings", "(I)[[I"⟩
abbrev cX7_mark : ByteArray := prog_1_method_35_code
def yX7_mark : MethodName := ⟨RX7, "mark", "(I)V"⟩
abbrev cX7_tellAsMaid : ByteArray := prog_1_method_36_code
def yX7_tellAsMaid : MethodName := ⟨RX7, "tellAsMaid", "(I)I"⟩
abbrev cX7_tellAsProud : ByteArray := prog_1_method_37_code
def yX7_tellAsProud : MethodName := ⟨RX7, "tellAsProud", "(I)I"⟩
abbrev cX7_tellAsHeiress : ByteArray := prog_1_method_38_code
def yX7_tellAsHeiress : MethodName := ⟨RX7, "tellAsHeiress", "(I)I"⟩
abbrev cX7_greetAsAnyone : ByteArray := prog_1_method_39_code
def yX7_greetAsAnyone : MethodName := ⟨RX7, "greetAsAnyone", "(I)I"⟩
abbrev cX7_greetAsHeiress : ByteArray := prog_1_method_40_code
def yX7_greetAsHeiress : MethodName := ⟨RX7, "greetAsHeiress", "()I"⟩
abbrev cX7_isSheet : ByteArray := prog_1_method_41_code
def yX7_isSheet : MethodName := ⟨RX7, "isSheet", "(I)Z"⟩
abbrev cX7_isLane : ByteArray := prog_1_method_42_code
def yX7_isLane : MethodName := ⟨RX7, "isLane", "(I)Z"⟩
abbrev cX7_figure : ByteArray := prog_1_method_43_code
def yX7_figure : MethodName := ⟨RX7, "figure", "(I)I"⟩
abbrev cX7_greatestDivisor : ByteArray := prog_1_method_44_code
def yX7_greatestDivisor : MethodName := ⟨RX7, "greatestDivisor", "(II)I"⟩
def RX8 : String := "ThreeRefusalsModel"
def TX8 : u_T := fun k => match k with
  | 0 => ("ThreeRefusalsModel", "fault", "I", false)
  | 1 => ("ThreeRefusalsModel", "suitors", "I", false)
  | 2 => ("ThreeRefusalsModel", "maids", "I", false)
  | 3 => ("ThreeRefusalsModel", "kindOf", "[I", true)
  | 4 => ("ThreeRefusalsModel", "herLikes", "[I", true)
  | 5 => ("ThreeRefusalsModel", "hisLikes", "[I", true)
  | 6 => ("ThreeRefusalsModel", "lawNow", "I", false)
  | 7 => ("ThreeRefusalsModel", "readAt", "I", false)
  | 8 => ("ThreeRefusalsModel", "readSuitors", "I", false)
  | 9 => ("ThreeRefusalsModel", "readMaids", "I", false)
  | 10 => ("ThreeRefusalsModel", "readKind", "[I", true)
  | 11 => ("ThreeRefusalsModel", "readHers", "[I", true)
  | 12 => ("ThreeRefusalsModel", "readHis", "[I", true)
  | 13 => ("ThreeRefusalsModel", "offers", "I", false)
  | 14 => ("ThreeRefusalsModel", "offerBy", "[I", true)
  | 15 => ("ThreeRefusalsModel", "offerTo", "[I", true)
  | 16 => ("ThreeRefusalsModel", "comesOf", "[I", true)
  | 17 => ("ThreeRefusalsModel", "refusals", "[I", true)
  | 18 => ("ThreeRefusalsModel", "wedTo", "[I", true)
  | 19 => ("ThreeRefusalsModel", "wedBy", "[I", true)
  | 20 => ("ThreeRefusalsModel", "readings", "I", false)
  | 21 => ("ThreeRefusalsModel", "readingOf", "[I", true)
  | 22 => ("ThreeRefusalsModel", "readingBy", "[I", true)
  | 23 => ("ThreeRefusalsModel", "readingIn", "[I", true)
  | 24 => ("ThreeRefusalsModel", "readingTook", "[Z", true)
  | 25 => ("ThreeRefusalsModel", "sheetSize", "[I", true)
  | 26 => ("ThreeRefusalsModel", "sheetLane", "[I", true)
  | 27 => ("ThreeRefusalsModel", "sheet", "[I", true)
  | 28 => ("ThreeRefusalsModel", "hands", "[I", true)
  | _ => ("ThreeRefusalsModel", "traceNow", "I", false)
def tyX8 : Nat → FieldType := fun k => match k with
  | 0 => .int
  | 1 => .int
  | 2 => .int
  | 3 => .array .int
  | 4 => .array .int
  | 5 => .array .int
  | 6 => .int
  | 7 => .int
  | 8 => .int
  | 9 => .int
  | 10 => .array .int
  | 11 => .array .int
  | 12 => .array .int
  | 13 => .int
  | 14 => .array .int
  | 15 => .array .int
  | 16 => .array .int
  | 17 => .array .int
  | 18 => .array .int
  | 19 => .array .int
  | 20 => .int
  | 21 => .array .int
  | 22 => .array .int
  | 23 => .array .int
  | 24 => .array .boolean
  | 25 => .array .int
  | 26 => .array .int
  | 27 => .array .int
  | 28 => .array .int
  | _ => .int
abbrev wsX80 : List Cond := u_ws RX8 TX8 30
theorem nmX8 : ∀ a, a < 30 → ∀ b, b < 30 → a ≠ b → (TX8 a).2.1 ≠ (TX8 b).2.1 := by decide +kernel
theorem tyX8_ok : ∀ k, k < 30 → parseFieldDescriptor (TX8 k).2.2.1 = some (tyX8 k) := by decide +kernel
abbrev cX8_init : ByteArray := prog_10_method_1_code
def yX8_init : MethodName := ⟨RX8, "<init>", "()V"⟩
abbrev cX8_in : ByteArray := prog_10_method_2_code
def yX8_in : MethodName := ⟨RX8, "in", "(JJJ)Z"⟩
abbrev cX8_lost : ByteArray := prog_10_method_3_code
def yX8_lost : MethodName := ⟨RX8, "lost", "()J"⟩
abbrev cX8_isIn : ByteArray := prog_10_method_4_code
def yX8_isIn : MethodName := ⟨RX8, "isIn", "(II)Z"⟩
abbrev cX8_bits : ByteArray := prog_10_method_5_code
def yX8_bits : MethodName := ⟨RX8, "bits", "(I)I"⟩
abbrev cX8_told : ByteArray := prog_10_method_6_code
def yX8_told : MethodName := ⟨RX8, "told", "(JJI)J"⟩
abbrev cX8_refused : ByteArray := prog_10_method_7_code
def yX8_refused : MethodName := ⟨RX8, "refused", "(I)I"⟩
abbrev cX8_failed : ByteArray := prog_10_method_8_code
def yX8_failed : MethodName := ⟨RX8, "failed", "(I)I"⟩
abbrev cX8_failedLong : ByteArray := prog_10_method_9_code
def yX8_failedLong : MethodName := ⟨RX8, "failedLong", "(I)J"⟩
abbrev cX8_noSuitor : ByteArray := prog_10_method_10_code
def yX8_noSuitor : MethodName := ⟨RX8, "noSuitor", "(I)Z"⟩
abbrev cX8_noMaid : ByteArray := prog_10_method_11_code
def yX8_noMaid : MethodName := ⟨RX8, "noMaid", "(I)Z"⟩
abbrev cX8_codeAt : ByteArray := prog_10_method_12_code
def yX8_codeAt : MethodName := ⟨RX8, "codeAt", "(II)I"⟩
abbrev cX8_figure : ByteArray := prog_10_method_13_code
def yX8_figure : MethodName := ⟨RX8, "figure", "(IIII)I"⟩
abbrev cX8_readsMark : ByteArray := prog_10_method_14_code
def yX8_readsMark : MethodName := ⟨RX8, "readsMark", "(II)Z"⟩
abbrev cX8_readsMaid : ByteArray := prog_10_method_15_code
def yX8_readsMaid : MethodName := ⟨RX8, "readsMaid", "(III)Z"⟩
abbrev cX8_readsSuitor : ByteArray := prog_10_method_16_code
def yX8_readsSuitor : MethodName := ⟨RX8, "readsSuitor", "(III)Z"⟩
abbrev cX8_readsValley : ByteArray := prog_10_method_17_code
def yX8_readsValley : MethodName := ⟨RX8, "readsValley", "(II)Z"⟩
abbrev cX8_cellsBarred : ByteArray := prog_10_method_18_code
def yX8_cellsBarred : MethodName := ⟨RX8, "cellsBarred", "(IIIJ)I"⟩
abbrev cX8_valley : ByteArray := prog_10_method_19_code
def yX8_valley : MethodName := ⟨RX8, "valley", "(IIII)I"⟩
abbrev cX8_likes : ByteArray := prog_10_method_20_code
def yX8_likes : MethodName := ⟨RX8, "likes", "(III)I"⟩
abbrev cX8_like : ByteArray := prog_10_method_21_code
def yX8_like : MethodName := ⟨RX8, "like", "(IIII)I"⟩
abbrev cX8_mindOf : ByteArray := prog_10_method_22_code
def yX8_mindOf : MethodName := ⟨RX8, "mindOf", "(II)I"⟩
abbrev cX8_ofMaid : ByteArray := prog_10_method_23_code
def yX8_ofMaid : MethodName := ⟨RX8, "ofMaid", "(II)I"⟩
abbrev cX8_law : ByteArray := prog_10_method_24_code
def yX8_law : MethodName := ⟨RX8, "law", "(I)I"⟩
abbrev cX8_begin : ByteArray := prog_10_method_25_code
def yX8_begin : MethodName := ⟨RX8, "begin", "()V"⟩
abbrev cX8_doesWith : ByteArray := prog_10_method_26_code
def yX8_doesWith : MethodName := ⟨RX8, "doesWith", "(II)I"⟩
abbrev cX8_ask : ByteArray := prog_10_method_27_code
def yX8_ask : MethodName := ⟨RX8, "ask", "(II)I"⟩
abbrev cX8_goOffers : ByteArray := prog_10_method_28_code
def yX8_goOffers : MethodName := ⟨RX8, "goOffers", "()V"⟩
abbrev cX8_offer : ByteArray := prog_10_method_29_code
def yX8_offer : MethodName := ⟨RX8, "offer", "(II)I"⟩
abbrev cX8_comes : ByteArray := prog_10_method_30_code
def yX8_comes : MethodName := ⟨RX8, "comes", "(I)I"⟩
abbrev cX8_undo : ByteArray := prog_10_method_31_code
def yX8_undo : MethodName := ⟨RX8, "undo", "(I)I"⟩
abbrev cX8_pairs : ByteArray := prog_10_method_32_code
def yX8_pairs : MethodName := ⟨RX8, "pairs", "()J"⟩
abbrev cX8_asked : ByteArray := prog_10_method_33_code
def yX8_asked : MethodName := ⟨RX8, "asked", "(IIIIII)I"⟩
abbrev cX8_doBring : ByteArray := prog_10_method_34_code
def yX8_doBring : MethodName := ⟨RX8, "doBring", "(III)Z"⟩
abbrev cX8_sent : ByteArray := prog_10_method_35_code
def yX8_sent : MethodName := ⟨RX8, "sent", "(II)I"⟩
abbrev cX8_likesHer : ByteArray := prog_10_method_36_code
def yX8_likesHer : MethodName := ⟨RX8, "likesHer", "(I)I"⟩
abbrev cX8_likesHim : ByteArray := prog_10_method_37_code
def yX8_likesHim : MethodName := ⟨RX8, "likesHim", "(I)I"⟩
abbrev cX8_isFirm : ByteArray := prog_10_method_38_code
def yX8_isFirm : MethodName := ⟨RX8, "isFirm", "()Z"⟩
abbrev cX8_laysMatch : ByteArray := prog_10_method_39_code
def yX8_laysMatch : MethodName := ⟨RX8, "laysMatch", "(I)Z"⟩
abbrev cX8_power : ByteArray := prog_10_method_40_code
def yX8_power : MethodName := ⟨RX8, "power", "(I)I"⟩
abbrev cX8_firm : ByteArray := prog_10_method_41_code
def yX8_firm : MethodName := ⟨RX8, "firm", "(I)I"⟩
abbrev cX8_brought : ByteArray := prog_10_method_42_code
def yX8_brought : MethodName := ⟨RX8, "brought", "()I"⟩
abbrev cX8_worth : ByteArray := prog_10_method_43_code
def yX8_worth : MethodName := ⟨RX8, "worth", "(IIII)J"⟩
abbrev cX8_reading : ByteArray := prog_10_method_44_code
def yX8_reading : MethodName := ⟨RX8, "reading", "(IIIZ)I"⟩
abbrev cX8_back : ByteArray := prog_10_method_45_code
def yX8_back : MethodName := ⟨RX8, "back", "(I)I"⟩
abbrev cX8_isSo : ByteArray := prog_10_method_46_code
def yX8_isSo : MethodName := ⟨RX8, "isSo", "(III)Z"⟩
abbrev cX8_learnt : ByteArray := prog_10_method_47_code
def yX8_learnt : MethodName := ⟨RX8, "learnt", "(III)I"⟩
abbrev cX8_kinds : ByteArray := prog_10_method_48_code
def yX8_kinds : MethodName := ⟨RX8, "kinds", "(I)I"⟩
abbrev cX8_noSheet : ByteArray := prog_10_method_49_code
def yX8_noSheet : MethodName := ⟨RX8, "noSheet", "(I)Z"⟩
abbrev cX8_sheet : ByteArray := prog_10_method_50_code
def yX8_sheet : MethodName := ⟨RX8, "sheet", "(III)I"⟩
abbrev cX8_lose : ByteArray := prog_10_method_51_code
def yX8_lose : MethodName := ⟨RX8, "lose", "(I)I"⟩
abbrev cX8_noCell : ByteArray := prog_10_method_52_code
def yX8_noCell : MethodName := ⟨RX8, "noCell", "(II)I"⟩
abbrev cX8_put : ByteArray := prog_10_method_53_code
def yX8_put : MethodName := ⟨RX8, "put", "(III)I"⟩
abbrev cX8_cell : ByteArray := prog_10_method_54_code
def yX8_cell : MethodName := ⟨RX8, "cell", "(III)J"⟩
abbrev cX8_isBeyond : ByteArray := prog_10_method_55_code
def yX8_isBeyond : MethodName := ⟨RX8, "isBeyond", "(IJI)Z"⟩
abbrev cX8_copy : ByteArray := prog_10_method_56_code
def yX8_copy : MethodName := ⟨RX8, "copy", "(IIIII)I"⟩
abbrev cX8_traced : ByteArray := prog_10_method_57_code
def yX8_traced : MethodName := ⟨RX8, "traced", "(I)V"⟩
abbrev cX8_tell : ByteArray := prog_10_method_58_code
def yX8_tell : MethodName := ⟨RX8, "tell", "(I)I"⟩
abbrev cX8_greet : ByteArray := prog_10_method_59_code
def yX8_greet : MethodName := ⟨RX8, "greet", "(I)I"⟩
abbrev cX8_as : ByteArray := prog_10_method_60_code
def yX8_as : MethodName := ⟨RX8, "as", "(II)I"⟩
abbrev cX8_trace : ByteArray := prog_10_method_61_code
def yX8_trace : MethodName := ⟨RX8, "trace", "()I"⟩
abbrev cX8_fault : ByteArray := prog_10_method_62_code
def yX8_fault : MethodName := ⟨RX8, "fault", "()I"⟩
abbrev cX8_many : ByteArray := prog_10_method_63_code
def yX8_many : MethodName := ⟨RX8, "many", "(I)I"⟩
def RJ6 : String := "java/lang/Integer"
abbrev cJ6_bitCount_0f7a4 : ByteArray := prog_11_method_49_code
def yJ6_bitCount_0f7a4 : MethodName := ⟨RJ6, "bitCount", "(I)I"⟩
def RJ9 : String := "java/lang/Math"
abbrev cJ9_max_7cf53 : ByteArray := prog_12_method_65_code
def yJ9_max_7cf53 : MethodName := ⟨RJ9, "max", "(II)I"⟩
def RJ10 : String := "java/lang/System"
def RJ7 : String := "java/util/Arrays"
abbrev cJ7_fill_53178 : ByteArray := prog_14_method_103_code
def yJ7_fill_53178 : MethodName := ⟨RJ7, "fill", "([II)V"⟩
abbrev vwCl : List vw_C := [(RX0, TX0, 3), (RX1, TX1, 3), (RX2, TX2, 5), (RX3, TX3, 5), (RX4, TX4, 4), (RX6, TX6, 6), (RX7, TX7, 8), (RX8, TX8, 30)]
