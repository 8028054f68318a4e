section
-- ===== PART A: goes FIRST, ahead of the names: the tables' words, and 'selects' of the private methods out of them =====
/-- a private method of a class that the tables say can be made, by its rows of tables_1 -/
def lw_okq (q : MethodName × Nat) : Prop := (q.1.cls ≠ "java/lang/invoke/MethodHandle" ∧ q.1.cls ≠ "java/lang/invoke/VarHandle") ∧ Cond.instantiable q.1.cls q.2 ∈ tables_1 ∧ Cond.privateMethod q.1 ∈ tables_1 ∧ Cond.instanceMethod q.1 ∈ tables_1
theorem lw_p0 : lw_okq (⟨"ThreeRefusals", "faultless", "(I)I"⟩, 8) := ⟨⟨by decide +kernel, by decide +kernel⟩, List.mem_of_getElem? (i := 15) (by decide +kernel), List.mem_of_getElem? (i := 209) (by decide +kernel), List.mem_of_getElem? (i := 210) (by decide +kernel)⟩
theorem lw_p1 : lw_okq (⟨"ThreeRefusals", "faulted", "(I)I"⟩, 8) := ⟨⟨by decide +kernel, by decide +kernel⟩, List.mem_of_getElem? (i := 15) (by decide +kernel), List.mem_of_getElem? (i := 228) (by decide +kernel), List.mem_of_getElem? (i := 229) (by decide +kernel)⟩
theorem lw_p2 : lw_okq (⟨"ThreeRefusals", "likings", "(I)[[I"⟩, 8) := ⟨⟨by decide +kernel, by decide +kernel⟩, List.mem_of_getElem? (i := 15) (by decide +kernel), List.mem_of_getElem? (i := 290) (by decide +kernel), List.mem_of_getElem? (i := 291) (by decide +kernel)⟩
theorem lw_p3 : lw_okq (⟨"ThreeRefusals$Valley", "bringsTo", "(III)Z"⟩, 6) := ⟨⟨by decide +kernel, by decide +kernel⟩, List.mem_of_getElem? (i := 23) (by decide +kernel), List.mem_of_getElem? (i := 391) (by decide +kernel), List.mem_of_getElem? (i := 392) (by decide +kernel)⟩
theorem lw_p4 : lw_okq (⟨"ThreeRefusals$Days", "wouldBreak", "(LThreeRefusals$Valley;II)Z"⟩, 3) := ⟨⟨by decide +kernel, by decide +kernel⟩, List.mem_of_getElem? (i := 71) (by decide +kernel), List.mem_of_getElem? (i := 411) (by decide +kernel), List.mem_of_getElem? (i := 412) (by decide +kernel)⟩
theorem lw_p5 : lw_okq (⟨"ThreeRefusals$Matches", "keep", "()V"⟩, 3) := ⟨⟨by decide +kernel, by decide +kernel⟩, List.mem_of_getElem? (i := 135) (by decide +kernel), List.mem_of_getElem? (i := 415) (by decide +kernel), List.mem_of_getElem? (i := 416) (by decide +kernel)⟩
theorem lw_p6 : lw_okq (⟨"ThreeRefusals$Valley", "sumOfFirst", "(III)I"⟩, 6) := ⟨⟨by decide +kernel, by decide +kernel⟩, List.mem_of_getElem? (i := 23) (by decide +kernel), List.mem_of_getElem? (i := 455) (by decide +kernel), List.mem_of_getElem? (i := 456) (by decide +kernel)⟩
theorem lw_p7 : lw_okq (⟨"ThreeRefusals$Readings", "areSoByLiking", "(LThreeRefusals$Valley;III)Z"⟩, 5) := ⟨⟨by decide +kernel, by decide +kernel⟩, List.mem_of_getElem? (i := 111) (by decide +kernel), List.mem_of_getElem? (i := 482) (by decide +kernel), List.mem_of_getElem? (i := 483) (by decide +kernel)⟩
theorem lw_p8 : lw_okq (⟨"ThreeRefusals$Readings", "isSo", "(III)Z"⟩, 5) := ⟨⟨by decide +kernel, by decide +kernel⟩, List.mem_of_getElem? (i := 111) (by decide +kernel), List.mem_of_getElem? (i := 486) (by decide +kernel), List.mem_of_getElem? (i := 487) (by decide +kernel)⟩
theorem lw_p9 : lw_okq (⟨"ThreeRefusals$Readings", "areSoByKind", "(LThreeRefusals$Valley;II)Z"⟩, 5) := ⟨⟨by decide +kernel, by decide +kernel⟩, List.mem_of_getElem? (i := 111) (by decide +kernel), List.mem_of_getElem? (i := 503) (by decide +kernel), List.mem_of_getElem? (i := 504) (by decide +kernel)⟩
theorem lw_p10 : lw_okq (⟨"ThreeRefusals", "lost", "(I)J"⟩, 8) := ⟨⟨by decide +kernel, by decide +kernel⟩, List.mem_of_getElem? (i := 15) (by decide +kernel), List.mem_of_getElem? (i := 536) (by decide +kernel), List.mem_of_getElem? (i := 537) (by decide +kernel)⟩
theorem lw_p11 : lw_okq (⟨"ThreeRefusals", "tellAsProud", "(I)I"⟩, 8) := ⟨⟨by decide +kernel, by decide +kernel⟩, List.mem_of_getElem? (i := 15) (by decide +kernel), List.mem_of_getElem? (i := 551) (by decide +kernel), List.mem_of_getElem? (i := 552) (by decide +kernel)⟩
theorem lw_p12 : lw_okq (⟨"ThreeRefusals", "mark", "(I)V"⟩, 8) := ⟨⟨by decide +kernel, by decide +kernel⟩, List.mem_of_getElem? (i := 15) (by decide +kernel), List.mem_of_getElem? (i := 555) (by decide +kernel), List.mem_of_getElem? (i := 556) (by decide +kernel)⟩
theorem lw_p13 : lw_okq (⟨"ThreeRefusals", "tellAsMaid", "(I)I"⟩, 8) := ⟨⟨by decide +kernel, by decide +kernel⟩, List.mem_of_getElem? (i := 15) (by decide +kernel), List.mem_of_getElem? (i := 559) (by decide +kernel), List.mem_of_getElem? (i := 560) (by decide +kernel)⟩
theorem lw_p14 : lw_okq (⟨"ThreeRefusals", "tellAsHeiress", "(I)I"⟩, 8) := ⟨⟨by decide +kernel, by decide +kernel⟩, List.mem_of_getElem? (i := 15) (by decide +kernel), List.mem_of_getElem? (i := 563) (by decide +kernel), List.mem_of_getElem? (i := 564) (by decide +kernel)⟩
theorem lw_p15 : lw_okq (⟨"ThreeRefusals", "greetAsHeiress", "()I"⟩, 8) := ⟨⟨by decide +kernel, by decide +kernel⟩, List.mem_of_getElem? (i := 15) (by decide +kernel), List.mem_of_getElem? (i := 571) (by decide +kernel), List.mem_of_getElem? (i := 572) (by decide +kernel)⟩
def lw_privs_1 : List (MethodName × Nat) := [(⟨"ThreeRefusals", "faultless", "(I)I"⟩, 8), (⟨"ThreeRefusals", "faulted", "(I)I"⟩, 8), (⟨"ThreeRefusals", "likings", "(I)[[I"⟩, 8), (⟨"ThreeRefusals$Valley", "bringsTo", "(III)Z"⟩, 6), (⟨"ThreeRefusals$Days", "wouldBreak", "(LThreeRefusals$Valley;II)Z"⟩, 3), (⟨"ThreeRefusals$Matches", "keep", "()V"⟩, 3), (⟨"ThreeRefusals$Valley", "sumOfFirst", "(III)I"⟩, 6), (⟨"ThreeRefusals$Readings", "areSoByLiking", "(LThreeRefusals$Valley;III)Z"⟩, 5), (⟨"ThreeRefusals$Readings", "isSo", "(III)Z"⟩, 5), (⟨"ThreeRefusals$Readings", "areSoByKind", "(LThreeRefusals$Valley;II)Z"⟩, 5), (⟨"ThreeRefusals", "lost", "(I)J"⟩, 8), (⟨"ThreeRefusals", "tellAsProud", "(I)I"⟩, 8), (⟨"ThreeRefusals", "mark", "(I)V"⟩, 8), (⟨"ThreeRefusals", "tellAsMaid", "(I)I"⟩, 8), (⟨"ThreeRefusals", "tellAsHeiress", "(I)I"⟩, 8), (⟨"ThreeRefusals", "greetAsHeiress", "()I"⟩, 8)]
theorem lw_r1 : ∀ q ∈ lw_privs_1, lw_okq q := List.forall_mem_cons.mpr ⟨lw_p0, List.forall_mem_cons.mpr ⟨lw_p1, List.forall_mem_cons.mpr ⟨lw_p2, List.forall_mem_cons.mpr ⟨lw_p3, List.forall_mem_cons.mpr ⟨lw_p4, List.forall_mem_cons.mpr ⟨lw_p5, List.forall_mem_cons.mpr ⟨lw_p6, List.forall_mem_cons.mpr ⟨lw_p7, List.forall_mem_cons.mpr ⟨lw_p8, List.forall_mem_cons.mpr ⟨lw_p9, List.forall_mem_cons.mpr ⟨lw_p10, List.forall_mem_cons.mpr ⟨lw_p11, List.forall_mem_cons.mpr ⟨lw_p12, List.forall_mem_cons.mpr ⟨lw_p13, List.forall_mem_cons.mpr ⟨lw_p14, List.forall_mem_cons.mpr ⟨lw_p15, fun _ h => absurd h List.not_mem_nil⟩⟩⟩⟩⟩⟩⟩⟩⟩⟩⟩⟩⟩⟩⟩⟩
theorem lw_p16 : lw_okq (⟨"ThreeRefusals", "greetAsAnyone", "(I)I"⟩, 8) := ⟨⟨by decide +kernel, by decide +kernel⟩, List.mem_of_getElem? (i := 15) (by decide +kernel), List.mem_of_getElem? (i := 575) (by decide +kernel), List.mem_of_getElem? (i := 576) (by decide +kernel)⟩
theorem lw_p17 : lw_okq (⟨"ThreeRefusalsModel", "refused", "(I)I"⟩, 30) := ⟨⟨by decide +kernel, by decide +kernel⟩, List.mem_of_getElem? (i := 595) (by decide +kernel), List.mem_of_getElem? (i := 703) (by decide +kernel), List.mem_of_getElem? (i := 704) (by decide +kernel)⟩
theorem lw_p18 : lw_okq (⟨"ThreeRefusalsModel", "cellsBarred", "(IIIJ)I"⟩, 30) := ⟨⟨by decide +kernel, by decide +kernel⟩, List.mem_of_getElem? (i := 595) (by decide +kernel), List.mem_of_getElem? (i := 708) (by decide +kernel), List.mem_of_getElem? (i := 709) (by decide +kernel)⟩
theorem lw_p19 : lw_okq (⟨"ThreeRefusalsModel", "failed", "(I)I"⟩, 30) := ⟨⟨by decide +kernel, by decide +kernel⟩, List.mem_of_getElem? (i := 595) (by decide +kernel), List.mem_of_getElem? (i := 712) (by decide +kernel), List.mem_of_getElem? (i := 713) (by decide +kernel)⟩
theorem lw_p20 : lw_okq (⟨"ThreeRefusalsModel", "readsValley", "(II)Z"⟩, 30) := ⟨⟨by decide +kernel, by decide +kernel⟩, List.mem_of_getElem? (i := 595) (by decide +kernel), List.mem_of_getElem? (i := 719) (by decide +kernel), List.mem_of_getElem? (i := 720) (by decide +kernel)⟩
theorem lw_p21 : lw_okq (⟨"ThreeRefusalsModel", "codeAt", "(II)I"⟩, 30) := ⟨⟨by decide +kernel, by decide +kernel⟩, List.mem_of_getElem? (i := 595) (by decide +kernel), List.mem_of_getElem? (i := 723) (by decide +kernel), List.mem_of_getElem? (i := 724) (by decide +kernel)⟩
theorem lw_p22 : lw_okq (⟨"ThreeRefusalsModel", "figure", "(IIII)I"⟩, 30) := ⟨⟨by decide +kernel, by decide +kernel⟩, List.mem_of_getElem? (i := 595) (by decide +kernel), List.mem_of_getElem? (i := 727) (by decide +kernel), List.mem_of_getElem? (i := 728) (by decide +kernel)⟩
theorem lw_p23 : lw_okq (⟨"ThreeRefusalsModel", "readsMaid", "(III)Z"⟩, 30) := ⟨⟨by decide +kernel, by decide +kernel⟩, List.mem_of_getElem? (i := 595) (by decide +kernel), List.mem_of_getElem? (i := 731) (by decide +kernel), List.mem_of_getElem? (i := 732) (by decide +kernel)⟩
theorem lw_p24 : lw_okq (⟨"ThreeRefusalsModel", "readsMark", "(II)Z"⟩, 30) := ⟨⟨by decide +kernel, by decide +kernel⟩, List.mem_of_getElem? (i := 595) (by decide +kernel), List.mem_of_getElem? (i := 735) (by decide +kernel), List.mem_of_getElem? (i := 736) (by decide +kernel)⟩
theorem lw_p25 : lw_okq (⟨"ThreeRefusalsModel", "readsSuitor", "(III)Z"⟩, 30) := ⟨⟨by decide +kernel, by decide +kernel⟩, List.mem_of_getElem? (i := 595) (by decide +kernel), List.mem_of_getElem? (i := 739) (by decide +kernel), List.mem_of_getElem? (i := 740) (by decide +kernel)⟩
theorem lw_p26 : lw_okq (⟨"ThreeRefusalsModel", "noMaid", "(I)Z"⟩, 30) := ⟨⟨by decide +kernel, by decide +kernel⟩, List.mem_of_getElem? (i := 595) (by decide +kernel), List.mem_of_getElem? (i := 747) (by decide +kernel), List.mem_of_getElem? (i := 748) (by decide +kernel)⟩
theorem lw_p27 : lw_okq (⟨"ThreeRefusalsModel", "noSuitor", "(I)Z"⟩, 30) := ⟨⟨by decide +kernel, by decide +kernel⟩, List.mem_of_getElem? (i := 595) (by decide +kernel), List.mem_of_getElem? (i := 751) (by decide +kernel), List.mem_of_getElem? (i := 752) (by decide +kernel)⟩
theorem lw_p28 : lw_okq (⟨"ThreeRefusalsModel", "goOffers", "()V"⟩, 30) := ⟨⟨by decide +kernel, by decide +kernel⟩, List.mem_of_getElem? (i := 595) (by decide +kernel), List.mem_of_getElem? (i := 764) (by decide +kernel), List.mem_of_getElem? (i := 765) (by decide +kernel)⟩
theorem lw_p29 : lw_okq (⟨"ThreeRefusalsModel", "begin", "()V"⟩, 30) := ⟨⟨by decide +kernel, by decide +kernel⟩, List.mem_of_getElem? (i := 595) (by decide +kernel), List.mem_of_getElem? (i := 768) (by decide +kernel), List.mem_of_getElem? (i := 769) (by decide +kernel)⟩
theorem lw_p30 : lw_okq (⟨"ThreeRefusalsModel", "ask", "(II)I"⟩, 30) := ⟨⟨by decide +kernel, by decide +kernel⟩, List.mem_of_getElem? (i := 595) (by decide +kernel), List.mem_of_getElem? (i := 772) (by decide +kernel), List.mem_of_getElem? (i := 773) (by decide +kernel)⟩
theorem lw_p31 : lw_okq (⟨"ThreeRefusalsModel", "doesWith", "(II)I"⟩, 30) := ⟨⟨by decide +kernel, by decide +kernel⟩, List.mem_of_getElem? (i := 595) (by decide +kernel), List.mem_of_getElem? (i := 776) (by decide +kernel), List.mem_of_getElem? (i := 777) (by decide +kernel)⟩
def lw_privs_2 : List (MethodName × Nat) := [(⟨"ThreeRefusals", "greetAsAnyone", "(I)I"⟩, 8), (⟨"ThreeRefusalsModel", "refused", "(I)I"⟩, 30), (⟨"ThreeRefusalsModel", "cellsBarred", "(IIIJ)I"⟩, 30), (⟨"ThreeRefusalsModel", "failed", "(I)I"⟩, 30), (⟨"ThreeRefusalsModel", "readsValley", "(II)Z"⟩, 30), (⟨"ThreeRefusalsModel", "codeAt", "(II)I"⟩, 30), (⟨"ThreeRefusalsModel", "figure", "(IIII)I"⟩, 30), (⟨"ThreeRefusalsModel", "readsMaid", "(III)Z"⟩, 30), (⟨"ThreeRefusalsModel", "readsMark", "(II)Z"⟩, 30), (⟨"ThreeRefusalsModel", "readsSuitor", "(III)Z"⟩, 30), (⟨"ThreeRefusalsModel", "noMaid", "(I)Z"⟩, 30), (⟨"ThreeRefusalsModel", "noSuitor", "(I)Z"⟩, 30), (⟨"ThreeRefusalsModel", "goOffers", "()V"⟩, 30), (⟨"ThreeRefusalsModel", "begin", "()V"⟩, 30), (⟨"ThreeRefusalsModel", "ask", "(II)I"⟩, 30), (⟨"ThreeRefusalsModel", "doesWith", "(II)I"⟩, 30)]
theorem lw_r2 : ∀ q ∈ lw_privs_2, lw_okq q := List.forall_mem_cons.mpr ⟨lw_p16, List.forall_mem_cons.mpr ⟨lw_p17, List.forall_mem_cons.mpr ⟨lw_p18, List.forall_mem_cons.mpr ⟨lw_p19, List.forall_mem_cons.mpr ⟨lw_p20, List.forall_mem_cons.mpr ⟨lw_p21, List.forall_mem_cons.mpr ⟨lw_p22, List.forall_mem_cons.mpr ⟨lw_p23, List.forall_mem_cons.mpr ⟨lw_p24, List.forall_mem_cons.mpr ⟨lw_p25, List.forall_mem_cons.mpr ⟨lw_p26, List.forall_mem_cons.mpr ⟨lw_p27, List.forall_mem_cons.mpr ⟨lw_p28, List.forall_mem_cons.mpr ⟨lw_p29, List.forall_mem_cons.mpr ⟨lw_p30, List.forall_mem_cons.mpr ⟨lw_p31, fun _ h => absurd h List.not_mem_nil⟩⟩⟩⟩⟩⟩⟩⟩⟩⟩⟩⟩⟩⟩⟩⟩
theorem lw_p32 : lw_okq (⟨"ThreeRefusalsModel", "doBring", "(III)Z"⟩, 30) := ⟨⟨by decide +kernel, by decide +kernel⟩, List.mem_of_getElem? (i := 595) (by decide +kernel), List.mem_of_getElem? (i := 823) (by decide +kernel), List.mem_of_getElem? (i := 824) (by decide +kernel)⟩
theorem lw_p33 : lw_okq (⟨"ThreeRefusalsModel", "power", "(I)I"⟩, 30) := ⟨⟨by decide +kernel, by decide +kernel⟩, List.mem_of_getElem? (i := 595) (by decide +kernel), List.mem_of_getElem? (i := 831) (by decide +kernel), List.mem_of_getElem? (i := 832) (by decide +kernel)⟩
theorem lw_p34 : lw_okq (⟨"ThreeRefusalsModel", "laysMatch", "(I)Z"⟩, 30) := ⟨⟨by decide +kernel, by decide +kernel⟩, List.mem_of_getElem? (i := 595) (by decide +kernel), List.mem_of_getElem? (i := 835) (by decide +kernel), List.mem_of_getElem? (i := 836) (by decide +kernel)⟩
theorem lw_p35 : lw_okq (⟨"ThreeRefusalsModel", "isFirm", "()Z"⟩, 30) := ⟨⟨by decide +kernel, by decide +kernel⟩, List.mem_of_getElem? (i := 595) (by decide +kernel), List.mem_of_getElem? (i := 839) (by decide +kernel), List.mem_of_getElem? (i := 840) (by decide +kernel)⟩
theorem lw_p36 : lw_okq (⟨"ThreeRefusalsModel", "likesHer", "(I)I"⟩, 30) := ⟨⟨by decide +kernel, by decide +kernel⟩, List.mem_of_getElem? (i := 595) (by decide +kernel), List.mem_of_getElem? (i := 843) (by decide +kernel), List.mem_of_getElem? (i := 844) (by decide +kernel)⟩
theorem lw_p37 : lw_okq (⟨"ThreeRefusalsModel", "likesHim", "(I)I"⟩, 30) := ⟨⟨by decide +kernel, by decide +kernel⟩, List.mem_of_getElem? (i := 595) (by decide +kernel), List.mem_of_getElem? (i := 847) (by decide +kernel), List.mem_of_getElem? (i := 848) (by decide +kernel)⟩
theorem lw_p38 : lw_okq (⟨"ThreeRefusalsModel", "isSo", "(III)Z"⟩, 30) := ⟨⟨by decide +kernel, by decide +kernel⟩, List.mem_of_getElem? (i := 595) (by decide +kernel), List.mem_of_getElem? (i := 875) (by decide +kernel), List.mem_of_getElem? (i := 876) (by decide +kernel)⟩
theorem lw_p39 : lw_okq (⟨"ThreeRefusalsModel", "noCell", "(II)I"⟩, 30) := ⟨⟨by decide +kernel, by decide +kernel⟩, List.mem_of_getElem? (i := 595) (by decide +kernel), List.mem_of_getElem? (i := 895) (by decide +kernel), List.mem_of_getElem? (i := 896) (by decide +kernel)⟩
theorem lw_p40 : lw_okq (⟨"ThreeRefusalsModel", "failedLong", "(I)J"⟩, 30) := ⟨⟨by decide +kernel, by decide +kernel⟩, List.mem_of_getElem? (i := 595) (by decide +kernel), List.mem_of_getElem? (i := 903) (by decide +kernel), List.mem_of_getElem? (i := 904) (by decide +kernel)⟩
theorem lw_p41 : lw_okq (⟨"ThreeRefusalsModel", "traced", "(I)V"⟩, 30) := ⟨⟨by decide +kernel, by decide +kernel⟩, List.mem_of_getElem? (i := 595) (by decide +kernel), List.mem_of_getElem? (i := 915) (by decide +kernel), List.mem_of_getElem? (i := 916) (by decide +kernel)⟩
def lw_privs_3 : List (MethodName × Nat) := [(⟨"ThreeRefusalsModel", "doBring", "(III)Z"⟩, 30), (⟨"ThreeRefusalsModel", "power", "(I)I"⟩, 30), (⟨"ThreeRefusalsModel", "laysMatch", "(I)Z"⟩, 30), (⟨"ThreeRefusalsModel", "isFirm", "()Z"⟩, 30), (⟨"ThreeRefusalsModel", "likesHer", "(I)I"⟩, 30), (⟨"ThreeRefusalsModel", "likesHim", "(I)I"⟩, 30), (⟨"ThreeRefusalsModel", "isSo", "(III)Z"⟩, 30), (⟨"ThreeRefusalsModel", "noCell", "(II)I"⟩, 30), (⟨"ThreeRefusalsModel", "failedLong", "(I)J"⟩, 30), (⟨"ThreeRefusalsModel", "traced", "(I)V"⟩, 30)]
theorem lw_r3 : ∀ q ∈ lw_privs_3, lw_okq q := List.forall_mem_cons.mpr ⟨lw_p32, List.forall_mem_cons.mpr ⟨lw_p33, List.forall_mem_cons.mpr ⟨lw_p34, List.forall_mem_cons.mpr ⟨lw_p35, List.forall_mem_cons.mpr ⟨lw_p36, List.forall_mem_cons.mpr ⟨lw_p37, List.forall_mem_cons.mpr ⟨lw_p38, List.forall_mem_cons.mpr ⟨lw_p39, List.forall_mem_cons.mpr ⟨lw_p40, List.forall_mem_cons.mpr ⟨lw_p41, fun _ h => absurd h List.not_mem_nil⟩⟩⟩⟩⟩⟩⟩⟩⟩⟩
def lw_privs : List (MethodName × Nat) := lw_privs_1 ++ (lw_privs_2 ++ (lw_privs_3))
def lw_tbl : List Cond := k2_sels lw_privs ++ tables_1
theorem lw_privs_ok : ∀ q ∈ lw_privs, lw_okq q := by
  show ∀ q ∈ lw_privs_1 ++ (lw_privs_2 ++ (lw_privs_3)), lw_okq q
  exact List.forall_mem_append.mpr ⟨lw_r1, List.forall_mem_append.mpr ⟨lw_r2, lw_r3⟩⟩
def RX0 : String := "ThreeRefusals$Days"
def TX0 : u_T := fun k => match k with
  | 0 => ("ThreeRefusals$Days", "refusals", "[I", true)
  | 1 => ("ThreeRefusals$Days", "husband", "[I", true)
  | _ => ("ThreeRefusals$Days", "bride", "[I", true)
def tyX0 : Nat → FieldType := fun k => match k with
  | 0 => .array .int
  | 1 => .array .int
  | _ => .array .int
abbrev wsX00 : List Cond := u_ws RX0 TX0 3
theorem nmX0 : ∀ a, a < 3 → ∀ b, b < 3 → a ≠ b → (TX0 a).2.1 ≠ (TX0 b).2.1 := by decide +kernel
theorem tyX0_ok : ∀ k, k < 3 → parseFieldDescriptor (TX0 k).2.2.1 = some (tyX0 k) := by decide +kernel
abbrev cX0_init : ByteArray := prog_2_method_1_code
def yX0_init : MethodName := ⟨RX0, "<init>", "()V"⟩
abbrev cX0_begin : ByteArray := prog_2_method_2_code
def yX0_begin : MethodName := ⟨RX0, "begin", "()V"⟩
abbrev cX0_ask : ByteArray := prog_2_method_3_code
def yX0_ask : MethodName := ⟨RX0, "ask", "(LThreeRefusals$Valley;II)I"⟩
abbrev cX0_unask : ByteArray := prog_2_method_4_code
def yX0_unask : MethodName := ⟨RX0, "unask", "(III)V"⟩
abbrev cX0_wed : ByteArray := prog_2_method_5_code
def yX0_wed : MethodName := ⟨RX0, "wed", "(II)V"⟩
abbrev cX0_part : ByteArray := prog_2_method_6_code
def yX0_part : MethodName := ⟨RX0, "part", "(II)V"⟩
abbrev cX0_isBroken : ByteArray := prog_2_method_7_code
def yX0_isBroken : MethodName := ⟨RX0, "isBroken", "(LThreeRefusals$Valley;I)Z"⟩
abbrev cX0_wouldBreak : ByteArray := prog_2_method_8_code
def yX0_wouldBreak : MethodName := ⟨RX0, "wouldBreak", "(LThreeRefusals$Valley;II)Z"⟩
def RX1 : String := "ThreeRefusals$Matches"
def TX1 : u_T := fun k => match k with
  | 0 => ("ThreeRefusals$Matches", "days", "LThreeRefusals$Days;", true)
  | 1 => ("ThreeRefusals$Matches", "first", "[I", true)
  | _ => ("ThreeRefusals$Matches", "found", "I", false)
def tyX1 : Nat → FieldType := fun k => match k with
  | 0 => .object "ThreeRefusals$Days"
  | 1 => .array .int
  | _ => .int
abbrev wsX10 : List Cond := u_ws RX1 TX1 3
theorem nmX1 : ∀ a, a < 3 → ∀ b, b < 3 → a ≠ b → (TX1 a).2.1 ≠ (TX1 b).2.1 := by decide +kernel
theorem tyX1_ok : ∀ k, k < 3 → parseFieldDescriptor (TX1 k).2.2.1 = some (tyX1 k) := by decide +kernel
abbrev cX1_init : ByteArray := prog_3_method_1_code
def yX1_init : MethodName := ⟨RX1, "<init>", "()V"⟩
abbrev cX1_countFirm : ByteArray := prog_3_method_2_code
def yX1_countFirm : MethodName := ⟨RX1, "countFirm", "(LThreeRefusals$Valley;)I"⟩
abbrev cX1_matchFrom : ByteArray := prog_3_method_3_code
def yX1_matchFrom : MethodName := ⟨RX1, "matchFrom", "(LThreeRefusals$Matches;LThreeRefusals$Valley;I)V"⟩
abbrev cX1_keep : ByteArray := prog_3_method_4_code
def yX1_keep : MethodName := ⟨RX1, "keep", "()V"⟩
abbrev cX1_countBringing : ByteArray := prog_3_method_5_code
def yX1_countBringing : MethodName := ⟨RX1, "countBringing", "(LThreeRefusals$Valley;)I"⟩
abbrev cX1_bringingFrom : ByteArray := prog_3_method_6_code
def yX1_bringingFrom : MethodName := ⟨RX1, "bringingFrom", "(LThreeRefusals$Days;LThreeRefusals$Valley;I)I"⟩
def RX2 : String := "ThreeRefusals$Offers"
def TX2 : u_T := fun k => match k with
  | 0 => ("ThreeRefusals$Offers", "suitor", "[I", true)
  | 1 => ("ThreeRefusals$Offers", "maid", "[I", true)
  | 2 => ("ThreeRefusals$Offers", "outcome", "[I", true)
  | 3 => ("ThreeRefusals$Offers", "days", "LThreeRefusals$Days;", true)
  | _ => ("ThreeRefusals$Offers", "count", "I", false)
def tyX2 : Nat → FieldType := fun k => match k with
  | 0 => .array .int
  | 1 => .array .int
  | 2 => .array .int
  | 3 => .object "ThreeRefusals$Days"
  | _ => .int
abbrev wsX20 : List Cond := u_ws RX2 TX2 5
theorem nmX2 : ∀ a, a < 5 → ∀ b, b < 5 → a ≠ b → (TX2 a).2.1 ≠ (TX2 b).2.1 := by decide +kernel
theorem tyX2_ok : ∀ k, k < 5 → parseFieldDescriptor (TX2 k).2.2.1 = some (tyX2 k) := by decide +kernel
abbrev cX2_init : ByteArray := prog_4_method_1_code
def yX2_init : MethodName := ⟨RX2, "<init>", "()V"⟩
abbrev cX2_forget : ByteArray := prog_4_method_2_code
def yX2_forget : MethodName := ⟨RX2, "forget", "()V"⟩
abbrev cX2_add : ByteArray := prog_4_method_3_code
def yX2_add : MethodName := ⟨RX2, "add", "(LThreeRefusals$Valley;II)I"⟩
abbrev cX2_goThrough : ByteArray := prog_4_method_4_code
def yX2_goThrough : MethodName := ⟨RX2, "goThrough", "(LThreeRefusals$Valley;)V"⟩
def RX3 : String := "ThreeRefusals$Readings"
def TX3 : u_T := fun k => match k with
  | 0 => ("ThreeRefusals$Readings", "maid", "[I", true)
  | 1 => ("ThreeRefusals$Readings", "suitor", "[I", true)
  | 2 => ("ThreeRefusals$Readings", "refusals", "[I", true)
  | 3 => ("ThreeRefusals$Readings", "took", "[Z", true)
  | _ => ("ThreeRefusals$Readings", "count", "I", false)
def tyX3 : Nat → FieldType := fun k => match k with
  | 0 => .array .int
  | 1 => .array .int
  | 2 => .array .int
  | 3 => .array .boolean
  | _ => .int
abbrev wsX30 : List Cond := u_ws RX3 TX3 5
theorem nmX3 : ∀ a, a < 5 → ∀ b, b < 5 → a ≠ b → (TX3 a).2.1 ≠ (TX3 b).2.1 := by decide +kernel
theorem tyX3_ok : ∀ k, k < 5 → parseFieldDescriptor (TX3 k).2.2.1 = some (tyX3 k) := by decide +kernel
abbrev cX3_init : ByteArray := prog_5_method_1_code
def yX3_init : MethodName := ⟨RX3, "<init>", "()V"⟩
abbrev cX3_add : ByteArray := prog_5_method_2_code
def yX3_add : MethodName := ⟨RX3, "add", "(IIIZ)I"⟩
abbrev cX3_leastLiking : ByteArray := prog_5_method_3_code
def yX3_leastLiking : MethodName := ⟨RX3, "leastLiking", "(LThreeRefusals$Valley;II)I"⟩
abbrev cX3_greatestLiking : ByteArray := prog_5_method_4_code
def yX3_greatestLiking : MethodName := ⟨RX3, "greatestLiking", "(LThreeRefusals$Valley;II)I"⟩
abbrev cX3_kindsOf : ByteArray := prog_5_method_5_code
def yX3_kindsOf : MethodName := ⟨RX3, "kindsOf", "(LThreeRefusals$Valley;I)I"⟩
abbrev cX3_areSoByLiking : ByteArray := prog_5_method_6_code
def yX3_areSoByLiking : MethodName := ⟨RX3, "areSoByLiking", "(LThreeRefusals$Valley;III)Z"⟩
abbrev cX3_areSoByKind : ByteArray := prog_5_method_7_code
def yX3_areSoByKind : MethodName := ⟨RX3, "areSoByKind", "(LThreeRefusals$Valley;II)Z"⟩
abbrev cX3_isSo : ByteArray := prog_5_method_8_code
def yX3_isSo : MethodName := ⟨RX3, "isSo", "(III)Z"⟩
def RX4 : String := "ThreeRefusals$Sheet"
def TX4 : u_T := fun k => match k with
  | 0 => ("ThreeRefusals$Sheet", "cells", "[I", true)
  | 1 => ("ThreeRefusals$Sheet", "hasRow", "Z", false)
  | 2 => ("ThreeRefusals$Sheet", "lane", "I", false)
  | _ => ("ThreeRefusals$Sheet", "length", "I", false)
def tyX4 : Nat → FieldType := fun k => match k with
  | 0 => .array .int
  | 1 => .boolean
  | 2 => .int
  | _ => .int
abbrev wsX40 : List Cond := u_ws RX4 TX4 4
theorem nmX4 : ∀ a, a < 4 → ∀ b, b < 4 → a ≠ b → (TX4 a).2.1 ≠ (TX4 b).2.1 := by decide +kernel
theorem tyX4_ok : ∀ k, k < 4 → parseFieldDescriptor (TX4 k).2.2.1 = some (tyX4 k) := by decide +kernel
abbrev cX4_init : ByteArray := prog_6_method_1_code
def yX4_init : MethodName := ⟨RX4, "<init>", "()V"⟩
abbrev cX4_renew : ByteArray := prog_6_method_2_code
def yX4_renew : MethodName := ⟨RX4, "renew", "(II)V"⟩
abbrev cX4_hasCell : ByteArray := prog_6_method_3_code
def yX4_hasCell : MethodName := ⟨RX4, "hasCell", "(I)Z"⟩
abbrev cX4_hasCells : ByteArray := prog_6_method_4_code
def yX4_hasCells : MethodName := ⟨RX4, "hasCells", "(II)Z"⟩
abbrev cX4_faultOfRow : ByteArray := prog_6_method_5_code
def yX4_faultOfRow : MethodName := ⟨RX4, "faultOfRow", "(I)I"⟩
abbrev cX4_faultOfCells : ByteArray := prog_6_method_6_code
def yX4_faultOfCells : MethodName := ⟨RX4, "faultOfCells", "(III)I"⟩
abbrev cX4_readInto : ByteArray := prog_6_method_7_code
def yX4_readInto : MethodName := ⟨RX4, "readInto", "([III)V"⟩
abbrev cX4_write : ByteArray := prog_6_method_8_code
def yX4_write : MethodName := ⟨RX4, "write", "(II)V"⟩
def RX5 : String := "ThreeRefusals$Text"
def TX5 : u_T := fun k => match k with
  | _ => ("", "", "", false)
def tyX5 : Nat → FieldType := fun k => match k with
  | _ => .int
abbrev wsX50 : List Cond := u_ws RX5 TX5 0
theorem nmX5 : ∀ a, a < 0 → ∀ b, b < 0 → a ≠ b → (TX5 a).2.1 ≠ (TX5 b).2.1 := by decide +kernel
theorem tyX5_ok : ∀ k, k < 0 → parseFieldDescriptor (TX5 k).2.2.1 = some (tyX5 k) := by decide +kernel
abbrev cX5_firstFault : ByteArray := prog_7_method_2_code
def yX5_firstFault : MethodName := ⟨RX5, "firstFault", "([II)I"⟩
abbrev cX5_firstFaultBehindHead : ByteArray := prog_7_method_3_code
def yX5_firstFaultBehindHead : MethodName := ⟨RX5, "firstFaultBehindHead", "([IIII)I"⟩
abbrev cX5_fitsHead : ByteArray := prog_7_method_4_code
def yX5_fitsHead : MethodName := ⟨RX5, "fitsHead", "(II)Z"⟩
abbrev cX5_fitsPart : ByteArray := prog_7_method_5_code
def yX5_fitsPart : MethodName := ⟨RX5, "fitsPart", "(ZII)Z"⟩
abbrev cX5_kindOf : ByteArray := prog_7_method_6_code
def yX5_kindOf : MethodName := ⟨RX5, "kindOf", "(I)I"⟩
abbrev cX5_maidPlace : ByteArray := prog_7_method_7_code
def yX5_maidPlace : MethodName := ⟨RX5, "maidPlace", "(II)I"⟩
abbrev cX5_suitorPlace : ByteArray := prog_7_method_8_code
def yX5_suitorPlace : MethodName := ⟨RX5, "suitorPlace", "(III)I"⟩
def RX6 : String := "ThreeRefusals$Valley"
def TX6 : u_T := fun k => match k with
  | 0 => ("ThreeRefusals$Valley", "suitors", "I", false)
  | 1 => ("ThreeRefusals$Valley", "maids", "I", false)
  | 2 => ("ThreeRefusals$Valley", "refusalsLet", "I", false)
  | 3 => ("ThreeRefusals$Valley", "kind", "[I", true)
  | 4 => ("ThreeRefusals$Valley", "hers", "[[I", true)
  | _ => ("ThreeRefusals$Valley", "his", "[[I", true)
def tyX6 : Nat → FieldType := fun k => match k with
  | 0 => .int
  | 1 => .int
  | 2 => .int
  | 3 => .array .int
  | 4 => .array (.array .int)
  | _ => .array (.array .int)
abbrev wsX60 : List Cond := u_ws RX6 TX6 6
theorem nmX6 : ∀ a, a < 6 → ∀ b, b < 6 → a ≠ b → (TX6 a).2.1 ≠ (TX6 b).2.1 := by decide +kernel
theorem tyX6_ok : ∀ k, k < 6 → parseFieldDescriptor (TX6 k).2.2.1 = some (tyX6 k) := by decide +kernel
abbrev cX6_init : ByteArray := prog_8_method_1_code
def yX6_init : MethodName := ⟨RX6, "<init>", "()V"⟩
abbrev cX6_stands : ByteArray := prog_8_method_2_code
def yX6_stands : MethodName := ⟨RX6, "stands", "()Z"⟩
abbrev cX6_hasMaid : ByteArray := prog_8_method_3_code
def yX6_hasMaid : MethodName := ⟨RX6, "hasMaid", "(I)Z"⟩
abbrev cX6_hasSuitor : ByteArray := prog_8_method_4_code
def yX6_hasSuitor : MethodName := ⟨RX6, "hasSuitor", "(I)Z"⟩
abbrev cX6_areSuitors : ByteArray := prog_8_method_5_code
def yX6_areSuitors : MethodName := ⟨RX6, "areSuitors", "([II)Z"⟩
abbrev cX6_settle : ByteArray := prog_8_method_6_code
def yX6_settle : MethodName := ⟨RX6, "settle", "([I)V"⟩
abbrev cX6_mind : ByteArray := prog_8_method_7_code
def yX6_mind : MethodName := ⟨RX6, "mind", "(II)I"⟩
abbrev cX6_answer : ByteArray := prog_8_method_8_code
def yX6_answer : MethodName := ⟨RX6, "answer", "(III)I"⟩
abbrev cX6_best : ByteArray := prog_8_method_9_code
def yX6_best : MethodName := ⟨RX6, "best", "(I[II)I"⟩
abbrev cX6_minded : ByteArray := prog_8_method_10_code
def yX6_minded : MethodName := ⟨RX6, "minded", "(I[II)I"⟩
abbrev cX6_fewestAhead : ByteArray := prog_8_method_11_code
def yX6_fewestAhead : MethodName := ⟨RX6, "fewestAhead", "(II)I"⟩
abbrev cX6_bringsTo : ByteArray := prog_8_method_12_code
def yX6_bringsTo : MethodName := ⟨RX6, "bringsTo", "(III)Z"⟩
abbrev cX6_rowsOf : ByteArray := prog_8_method_13_code
def yX6_rowsOf : MethodName := ⟨RX6, "rowsOf", "(I)I"⟩
abbrev cX6_sumOverRows : ByteArray := prog_8_method_14_code
def yX6_sumOverRows : MethodName := ⟨RX6, "sumOverRows", "(III)I"⟩
abbrev cX6_sumOfFirst : ByteArray := prog_8_method_15_code
def yX6_sumOfFirst : MethodName := ⟨RX6, "sumOfFirst", "(III)I"⟩
def RX7 : String := "ThreeRefusals"
def TX7 : u_T := fun k => match k with
  | 0 => ("ThreeRefusals", "land", "LThreeRefusals$Valley;", true)
  | 1 => ("ThreeRefusals", "offers", "LThreeRefusals$Offers;", true)
  | 2 => ("ThreeRefusals", "readings", "LThreeRefusals$Readings;", true)
  | 3 => ("ThreeRefusals", "matches", "LThreeRefusals$Matches;", true)
  | 4 => ("ThreeRefusals", "sheets", "[LThreeRefusals$Sheet;", true)
  | 5 => ("ThreeRefusals", "row", "[I", true)
  | 6 => ("ThreeRefusals", "traced", "I", false)
  | _ => ("ThreeRefusals", "latestFault", "I", false)
def tyX7 : Nat → FieldType := fun k => match k with
  | 0 => .object "ThreeRefusals$Valley"
  | 1 => .object "ThreeRefusals$Offers"
  | 2 => .object "ThreeRefusals$Readings"
  | 3 => .object "ThreeRefusals$Matches"
  | 4 => .array (.object "ThreeRefusals$Sheet")
  | 5 => .array .int
  | 6 => .int
  | _ => .int
abbrev wsX70 : List Cond := u_ws RX7 TX7 8
theorem nmX7 : ∀ a, a < 8 → ∀ b, b < 8 → a ≠ b → (TX7 a).2.1 ≠ (TX7 b).2.1 := by decide +kernel
theorem tyX7_ok : ∀ k, k < 8 → parseFieldDescriptor (TX7 k).2.2.1 = some (tyX7 k) := by decide +kernel
abbrev cX7_init : ByteArray := prog_1_method_1_code
def yX7_init : MethodName := ⟨RX7, "<init>", "()V"⟩
abbrev cX7_valley : ByteArray := prog_1_method_2_code
def yX7_valley : MethodName := ⟨RX7, "valley", "(IIII)I"⟩
abbrev cX7_likes : ByteArray := prog_1_method_3_code
def yX7_likes : MethodName := ⟨RX7, "likes", "(III)I"⟩
abbrev cX7_like : ByteArray := prog_1_method_4_code
def yX7_like : MethodName := ⟨RX7, "like", "(IIII)I"⟩
abbrev cX7_ofMaid : ByteArray := prog_1_method_5_code
def yX7_ofMaid : MethodName := ⟨RX7, "ofMaid", "(II)I"⟩
abbrev cX7_law : ByteArray := prog_1_method_6_code
def yX7_law : MethodName := ⟨RX7, "law", "(I)I"⟩
abbrev cX7_offer : ByteArray := prog_1_method_7_code
def yX7_offer : MethodName := ⟨RX7, "offer", "(II)I"⟩
abbrev cX7_comes : ByteArray := prog_1_method_8_code
def yX7_comes : MethodName := ⟨RX7, "comes", "(I)I"⟩
abbrev cX7_undo : ByteArray := prog_1_method_9_code
def yX7_undo : MethodName := ⟨RX7, "undo", "(I)I"⟩
abbrev cX7_pairs : ByteArray := prog_1_method_10_code
def yX7_pairs : MethodName := ⟨RX7, "pairs", "()J"⟩
abbrev cX7_asked : ByteArray := prog_1_method_11_code
def yX7_asked : MethodName := ⟨RX7, "asked", "(IIIIII)I"⟩
abbrev cX7_sent : ByteArray := prog_1_method_12_code
def yX7_sent : MethodName := ⟨RX7, "sent", "(II)I"⟩
abbrev cX7_firm : ByteArray := prog_1_method_13_code
def yX7_firm : MethodName := ⟨RX7, "firm", "(I)I"⟩
abbrev cX7_brought : ByteArray := prog_1_method_14_code
def yX7_brought : MethodName := ⟨RX7, "brought", "()I"⟩
abbrev cX7_worth : ByteArray := prog_1_method_15_code
def yX7_worth : MethodName := ⟨RX7, "worth", "(IIII)J"⟩
abbrev cX7_reading : ByteArray := prog_1_method_16_code
def yX7_reading : MethodName := ⟨RX7, "reading", "(IIIZ)I"⟩
abbrev cX7_back : ByteArray := prog_1_method_17_code
def yX7_back : MethodName := ⟨RX7, "back", "(I)I"⟩
abbrev cX7_learnt : ByteArray := prog_1_method_18_code
def yX7_learnt : MethodName := ⟨RX7, "learnt", "(III)I"⟩
abbrev cX7_kinds : ByteArray := prog_1_method_19_code
def yX7_kinds : MethodName := ⟨RX7, "kinds", "(I)I"⟩
abbrev cX7_sheet : ByteArray := prog_1_method_20_code
def yX7_sheet : MethodName := ⟨RX7, "sheet", "(III)I"⟩
abbrev cX7_lose : ByteArray := prog_1_method_21_code
def yX7_lose : MethodName := ⟨RX7, "lose", "(I)I"⟩
abbrev cX7_put : ByteArray := prog_1_method_22_code
def yX7_put : MethodName := ⟨RX7, "put", "(III)I"⟩
abbrev cX7_cell : ByteArray := prog_1_method_23_code
def yX7_cell : MethodName := ⟨RX7, "cell", "(III)J"⟩
abbrev cX7_copy : ByteArray := prog_1_method_24_code
def yX7_copy : MethodName := ⟨RX7, "copy", "(IIIII)I"⟩
abbrev cX7_tell : ByteArray := prog_1_method_25_code
def yX7_tell : MethodName := ⟨RX7, "tell", "(I)I"⟩
abbrev cX7_greet : ByteArray := prog_1_method_26_code
def yX7_greet : MethodName := ⟨RX7, "greet", "(I)I"⟩
abbrev cX7_as : ByteArray := prog_1_method_27_code
def yX7_as : MethodName := ⟨RX7, "as", "(II)I"⟩
abbrev cX7_trace : ByteArray := prog_1_method_28_code
def yX7_trace : MethodName := ⟨RX7, "trace", "()I"⟩
abbrev cX7_fault : ByteArray := prog_1_method_29_code
def yX7_fault : MethodName := ⟨RX7, "fault", "()I"⟩
abbrev cX7_many : ByteArray := prog_1_method_30_code
def yX7_many : MethodName := ⟨RX7, "many", "(I)I"⟩
abbrev cX7_faultless : ByteArray := prog_1_method_31_code
def yX7_faultless : MethodName := ⟨RX7, "faultless", "(I)I"⟩
abbrev cX7_faulted : ByteArray := prog_1_method_32_code
def yX7_faulted : MethodName := ⟨RX7, "faulted", "(I)I"⟩
abbrev cX7_lost : ByteArray := prog_1_method_33_code
def yX7_lost : MethodName := ⟨RX7, "lost", "(I)J"⟩
abbrev cX7_likings : ByteArray := prog_1_method_34_code
def yX7_likings : MethodName := ⟨RX7, "likings", "(I)[[I"⟩
abbrev cX7_mark : ByteArray := prog_1_method_35_code
def yX7_mark : MethodName := ⟨RX7, "mark", "(I)V"⟩
abbrev cX7_tellAsMaid : ByteArray := prog_1_method_36_code
def yX7_tellAsMaid : MethodName := ⟨RX7, "tellAsMaid", "(I)I"⟩
abbrev cX7_tellAsProud : ByteArray := prog_1_method_37_code
def yX7_tellAsProud : MethodName := ⟨RX7, "tellAsProud", "(I)I"⟩
abbrev cX7_tellAsHeiress : ByteArray := prog_1_method_38_code
def yX7_tellAsHeiress : MethodName := ⟨RX7, "tellAsHeiress", "(I)I"⟩
abbrev cX7_greetAsAnyone : ByteArray := prog_1_method_39_code
def yX7_greetAsAnyone : MethodName := ⟨RX7, "greetAsAnyone", "(I)I"⟩
abbrev cX7_greetAsHeiress : ByteArray := prog_1_method_40_code
def yX7_greetAsHeiress : MethodName := ⟨RX7, "greetAsHeiress", "()I"⟩
abbrev cX7_isSheet : ByteArray := prog_1_method_41_code
def yX7_isSheet : MethodName := ⟨RX7, "isSheet", "(I)Z"⟩
abbrev cX7_isLane : ByteArray := prog_1_method_42_code
def yX7_isLane : MethodName := ⟨RX7, "isLane", "(I)Z"⟩
abbrev cX7_figure : ByteArray := prog_1_method_43_code
def yX7_figure : MethodName := ⟨RX7, "figure", "(I)I"⟩
abbrev cX7_greatestDivisor : ByteArray := prog_1_method_44_code
def yX7_greatestDivisor : MethodName := ⟨RX7, "greatestDivisor", "(II)I"⟩
def RX8 : String := "ThreeRefusalsModel"
def TX8 : u_T := fun k => match k with
  | 0 => ("ThreeRefusalsModel", "fault", "I", false)
  | 1 => ("ThreeRefusalsModel", "suitors", "I", false)
  | 2 => ("ThreeRefusalsModel", "maids", "I", false)
  | 3 => ("ThreeRefusalsModel", "kindOf", "[I", true)
  | 4 => ("ThreeRefusalsModel", "herLikes", "[I", true)
  | 5 => ("ThreeRefusalsModel", "hisLikes", "[I", true)
  | 6 => ("ThreeRefusalsModel", "lawNow", "I", false)
  | 7 => ("ThreeRefusalsModel", "readAt", "I", false)
  | 8 => ("ThreeRefusalsModel", "readSuitors", "I", false)
  | 9 => ("ThreeRefusalsModel", "readMaids", "I", false)
  | 10 => ("ThreeRefusalsModel", "readKind", "[I", true)
  | 11 => ("ThreeRefusalsModel", "readHers", "[I", true)
  | 12 => ("ThreeRefusalsModel", "readHis", "[I", true)
  | 13 => ("ThreeRefusalsModel", "offers", "I", false)
  | 14 => ("ThreeRefusalsModel", "offerBy", "[I", true)
  | 15 => ("ThreeRefusalsModel", "offerTo", "[I", true)
  | 16 => ("ThreeRefusalsModel", "comesOf", "[I", true)
  | 17 => ("ThreeRefusalsModel", "refusals", "[I", true)
  | 18 => ("ThreeRefusalsModel", "wedTo", "[I", true)
  | 19 => ("ThreeRefusalsModel", "wedBy", "[I", true)
  | 20 => ("ThreeRefusalsModel", "readings", "I", false)
  | 21 => ("ThreeRefusalsModel", "readingOf", "[I", true)
  | 22 => ("ThreeRefusalsModel", "readingBy", "[I", true)
  | 23 => ("ThreeRefusalsModel", "readingIn", "[I", true)
  | 24 => ("ThreeRefusalsModel", "readingTook", "[Z", true)
  | 25 => ("ThreeRefusalsModel", "sheetSize", "[I", true)
  | 26 => ("ThreeRefusalsModel", "sheetLane", "[I", true)
  | 27 => ("ThreeRefusalsModel", "sheet", "[I", true)
  | 28 => ("ThreeRefusalsModel", "hands", "[I", true)
  | _ => ("ThreeRefusalsModel", "traceNow", "I", false)
def tyX8 : Nat → FieldType := fun k => match k with
  | 0 => .int
  | 1 => .int
  | 2 => .int
  | 3 => .array .int
  | 4 => .array .int
  | 5 => .array .int
  | 6 => .int
  | 7 => .int
  | 8 => .int
  | 9 => .int
  | 10 => .array .int
  | 11 => .array .int
  | 12 => .array .int
  | 13 => .int
  | 14 => .array .int
  | 15 => .array .int
  | 16 => .array .int
  | 17 => .array .int
  | 18 => .array .int
  | 19 => .array .int
  | 20 => .int
  | 21 => .array .int
  | 22 => .array .int
  | 23 => .array .int
  | 24 => .array .boolean
  | 25 => .array .int
  | 26 => .array .int
  | 27 => .array .int
  | 28 => .array .int
  | _ => .int
abbrev wsX80 : List Cond := u_ws RX8 TX8 30
theorem nmX8 : ∀ a, a < 30 → ∀ b, b < 30 → a ≠ b → (TX8 a).2.1 ≠ (TX8 b).2.1 := by decide +kernel
theorem tyX8_ok : ∀ k, k < 30 → parseFieldDescriptor (TX8 k).2.2.1 = some (tyX8 k) := by decide +kernel
abbrev cX8_init : ByteArray := prog_10_method_1_code
def yX8_init : MethodName := ⟨RX8, "<init>", "()V"⟩
abbrev cX8_in : ByteArray := prog_10_method_2_code
def yX8_in : MethodName := ⟨RX8, "in", "(JJJ)Z"⟩
abbrev cX8_lost : ByteArray := prog_10_method_3_code
def yX8_lost : MethodName := ⟨RX8, "lost", "()J"⟩
abbrev cX8_isIn : ByteArray := prog_10_method_4_code
def yX8_isIn : MethodName := ⟨RX8, "isIn", "(II)Z"⟩
abbrev cX8_bits : ByteArray := prog_10_method_5_code
def yX8_bits : MethodName := ⟨RX8, "bits", "(I)I"⟩
abbrev cX8_told : ByteArray := prog_10_method_6_code
def yX8_told : MethodName := ⟨RX8, "told", "(JJI)J"⟩
abbrev cX8_refused : ByteArray := prog_10_method_7_code
def yX8_refused : MethodName := ⟨RX8, "refused", "(I)I"⟩
abbrev cX8_failed : ByteArray := prog_10_method_8_code
def yX8_failed : MethodName := ⟨RX8, "failed", "(I)I"⟩
abbrev cX8_failedLong : ByteArray := prog_10_method_9_code
def yX8_failedLong : MethodName := ⟨RX8, "failedLong", "(I)J"⟩
abbrev cX8_noSuitor : ByteArray := prog_10_method_10_code
def yX8_noSuitor : MethodName := ⟨RX8, "noSuitor", "(I)Z"⟩
abbrev cX8_noMaid : ByteArray := prog_10_method_11_code
def yX8_noMaid : MethodName := ⟨RX8, "noMaid", "(I)Z"⟩
abbrev cX8_codeAt : ByteArray := prog_10_method_12_code
def yX8_codeAt : MethodName := ⟨RX8, "codeAt", "(II)I"⟩
abbrev cX8_figure : ByteArray := prog_10_method_13_code
def yX8_figure : MethodName := ⟨RX8, "figure", "(IIII)I"⟩
abbrev cX8_readsMark : ByteArray := prog_10_method_14_code
def yX8_readsMark : MethodName := ⟨RX8, "readsMark", "(II)Z"⟩
abbrev cX8_readsMaid : ByteArray := prog_10_method_15_code
def yX8_readsMaid : MethodName := ⟨RX8, "readsMaid", "(III)Z"⟩
abbrev cX8_readsSuitor : ByteArray := prog_10_method_16_code
def yX8_readsSuitor : MethodName := ⟨RX8, "readsSuitor", "(III)Z"⟩
abbrev cX8_readsValley : ByteArray := prog_10_method_17_code
def yX8_readsValley : MethodName := ⟨RX8, "readsValley", "(II)Z"⟩
abbrev cX8_cellsBarred : ByteArray := prog_10_method_18_code
def yX8_cellsBarred : MethodName := ⟨RX8, "cellsBarred", "(IIIJ)I"⟩
abbrev cX8_valley : ByteArray := prog_10_method_19_code
def yX8_valley : MethodName := ⟨RX8, "valley", "(IIII)I"⟩
abbrev cX8_likes : ByteArray := prog_10_method_20_code
def yX8_likes : MethodName := ⟨RX8, "likes", "(III)I"⟩
abbrev cX8_like : ByteArray := prog_10_method_21_code
def yX8_like : MethodName := ⟨RX8, "like", "(IIII)I"⟩
abbrev cX8_mindOf : ByteArray := prog_10_method_22_code
def yX8_mindOf : MethodName := ⟨RX8, "mindOf", "(II)I"⟩
abbrev cX8_ofMaid : ByteArray := prog_10_method_23_code
def yX8_ofMaid : MethodName := ⟨RX8, "ofMaid", "(II)I"⟩
abbrev cX8_law : ByteArray := prog_10_method_24_code
def yX8_law : MethodName := ⟨RX8, "law", "(I)I"⟩
abbrev cX8_begin : ByteArray := prog_10_method_25_code
def yX8_begin : MethodName := ⟨RX8, "begin", "()V"⟩
abbrev cX8_doesWith : ByteArray := prog_10_method_26_code
def yX8_doesWith : MethodName := ⟨RX8, "doesWith", "(II)I"⟩
abbrev cX8_ask : ByteArray := prog_10_method_27_code
def yX8_ask : MethodName := ⟨RX8, "ask", "(II)I"⟩
abbrev cX8_goOffers : ByteArray := prog_10_method_28_code
def yX8_goOffers : MethodName := ⟨RX8, "goOffers", "()V"⟩
abbrev cX8_offer : ByteArray := prog_10_method_29_code
def yX8_offer : MethodName := ⟨RX8, "offer", "(II)I"⟩
abbrev cX8_comes : ByteArray := prog_10_method_30_code
def yX8_comes : MethodName := ⟨RX8, "comes", "(I)I"⟩
abbrev cX8_undo : ByteArray := prog_10_method_31_code
def yX8_undo : MethodName := ⟨RX8, "undo", "(I)I"⟩
abbrev cX8_pairs : ByteArray := prog_10_method_32_code
def yX8_pairs : MethodName := ⟨RX8, "pairs", "()J"⟩
abbrev cX8_asked : ByteArray := prog_10_method_33_code
def yX8_asked : MethodName := ⟨RX8, "asked", "(IIIIII)I"⟩
abbrev cX8_doBring : ByteArray := prog_10_method_34_code
def yX8_doBring : MethodName := ⟨RX8, "doBring", "(III)Z"⟩
abbrev cX8_sent : ByteArray := prog_10_method_35_code
def yX8_sent : MethodName := ⟨RX8, "sent", "(II)I"⟩
abbrev cX8_likesHer : ByteArray := prog_10_method_36_code
def yX8_likesHer : MethodName := ⟨RX8, "likesHer", "(I)I"⟩
abbrev cX8_likesHim : ByteArray := prog_10_method_37_code
def yX8_likesHim : MethodName := ⟨RX8, "likesHim", "(I)I"⟩
abbrev cX8_isFirm : ByteArray := prog_10_method_38_code
def yX8_isFirm : MethodName := ⟨RX8, "isFirm", "()Z"⟩
abbrev cX8_laysMatch : ByteArray := prog_10_method_39_code
def yX8_laysMatch : MethodName := ⟨RX8, "laysMatch", "(I)Z"⟩
abbrev cX8_power : ByteArray := prog_10_method_40_code
def yX8_power : MethodName := ⟨RX8, "power", "(I)I"⟩
abbrev cX8_firm : ByteArray := prog_10_method_41_code
def yX8_firm : MethodName := ⟨RX8, "firm", "(I)I"⟩
abbrev cX8_brought : ByteArray := prog_10_method_42_code
def yX8_brought : MethodName := ⟨RX8, "brought", "()I"⟩
abbrev cX8_worth : ByteArray := prog_10_method_43_code
def yX8_worth : MethodName := ⟨RX8, "worth", "(IIII)J"⟩
abbrev cX8_reading : ByteArray := prog_10_method_44_code
def yX8_reading : MethodName := ⟨RX8, "reading", "(IIIZ)I"⟩
abbrev cX8_back : ByteArray := prog_10_method_45_code
def yX8_back : MethodName := ⟨RX8, "back", "(I)I"⟩
abbrev cX8_isSo : ByteArray := prog_10_method_46_code
def yX8_isSo : MethodName := ⟨RX8, "isSo", "(III)Z"⟩
abbrev cX8_learnt : ByteArray := prog_10_method_47_code
def yX8_learnt : MethodName := ⟨RX8, "learnt", "(III)I"⟩
abbrev cX8_kinds : ByteArray := prog_10_method_48_code
def yX8_kinds : MethodName := ⟨RX8, "kinds", "(I)I"⟩
abbrev cX8_noSheet : ByteArray := prog_10_method_49_code
def yX8_noSheet : MethodName := ⟨RX8, "noSheet", "(I)Z"⟩
abbrev cX8_sheet : ByteArray := prog_10_method_50_code
def yX8_sheet : MethodName := ⟨RX8, "sheet", "(III)I"⟩
abbrev cX8_lose : ByteArray := prog_10_method_51_code
def yX8_lose : MethodName := ⟨RX8, "lose", "(I)I"⟩
abbrev cX8_noCell : ByteArray := prog_10_method_52_code
def yX8_noCell : MethodName := ⟨RX8, "noCell", "(II)I"⟩
abbrev cX8_put : ByteArray := prog_10_method_53_code
def yX8_put : MethodName := ⟨RX8, "put", "(III)I"⟩
abbrev cX8_cell : ByteArray := prog_10_method_54_code
def yX8_cell : MethodName := ⟨RX8, "cell", "(III)J"⟩
abbrev cX8_isBeyond : ByteArray := prog_10_method_55_code
def yX8_isBeyond : MethodName := ⟨RX8, "isBeyond", "(IJI)Z"⟩
abbrev cX8_copy : ByteArray := prog_10_method_56_code
def yX8_copy : MethodName := ⟨RX8, "copy", "(IIIII)I"⟩
abbrev cX8_traced : ByteArray := prog_10_method_57_code
def yX8_traced : MethodName := ⟨RX8, "traced", "(I)V"⟩
abbrev cX8_tell : ByteArray := prog_10_method_58_code
def yX8_tell : MethodName := ⟨RX8, "tell", "(I)I"⟩
abbrev cX8_greet : ByteArray := prog_10_method_59_code
def yX8_greet : MethodName := ⟨RX8, "greet", "(I)I"⟩
abbrev cX8_as : ByteArray := prog_10_method_60_code
def yX8_as : MethodName := ⟨RX8, "as", "(II)I"⟩
abbrev cX8_trace : ByteArray := prog_10_method_61_code
def yX8_trace : MethodName := ⟨RX8, "trace", "()I"⟩
abbrev cX8_fault : ByteArray := prog_10_method_62_code
def yX8_fault : MethodName := ⟨RX8, "fault", "()I"⟩
abbrev cX8_many : ByteArray := prog_10_method_63_code
def yX8_many : MethodName := ⟨RX8, "many", "(I)I"⟩
def RJ6 : String := "java/lang/Integer"
abbrev cJ6_bitCount_0f7a4 : ByteArray := prog_11_method_49_code
def yJ6_bitCount_0f7a4 : MethodName := ⟨RJ6, "bitCount", "(I)I"⟩
def RJ9 : String := "java/lang/Math"
abbrev cJ9_max_7cf53 : ByteArray := prog_12_method_65_code
def yJ9_max_7cf53 : MethodName := ⟨RJ9, "max", "(II)I"⟩
def RJ10 : String := "java/lang/System"
def RJ7 : String := "java/util/Arrays"
abbrev cJ7_fill_53178 : ByteArray := prog_14_method_103_code
def yJ7_fill_53178 : MethodName := ⟨RJ7, "fill", "([II)V"⟩
abbrev vwCl : List vw_C := [(RX0, TX0, 3), (RX1, TX1, 3), (RX2, TX2, 5), (RX3, TX3, 5), (RX4, TX4, 4), (RX6, TX6, 6), (RX7, TX7, 8), (RX8, TX8, 30)]
end
section
/-! ===== the engine: one memory (cell, place -> int) for both sides; every reference is fixed once the constructors are through ===== -/
/-- the tables' words that a callee may have of its caller -/
def tblG : List Cond := lw_tbl.filter goodWord
theorem tblG_in {w : Cond} (i : Nat) (h : lw_tbl[i]? = some w) (hg : goodWord w = true) : w ∈ tblG := List.mem_filter.mpr ⟨List.mem_of_getElem? h, hg⟩
theorem tblG_hts {s : State} {args : Array Value} (h : ∀ w ∈ lw_tbl, w.before args s = true) : ∀ w ∈ tblG, w.before args s = true := fun w hw => h w (List.mem_filter.mp hw).1
abbrev Mem : Type := Nat → Nat → Int32
/-- a row of the memory becomes f -/
def upR (σ : Mem) (i : Nat) (f : Nat → Int32) : Mem := fun a => if a = i then f else σ a
def up (σ : Mem) (i k : Nat) (v : Int32) : Mem := upR σ i (upd (σ i) k v)
theorem upR_s (σ : Mem) (i : Nat) (f : Nat → Int32) : upR σ i f i = f := if_pos rfl
theorem upR_n {σ : Mem} {i j : Nat} {f : Nat → Int32} (h : j ≠ i) : upR σ i f j = σ j := if_neg h
theorem upR_self (σ : Mem) (i : Nat) : upR σ i (σ i) = σ := by
  funext a
  by_cases h : a = i
  · subst h; exact upR_s _ _ _
  · exact upR_n h
theorem upR_upR (σ : Mem) (i : Nat) (f g : Nat → Int32) : upR (upR σ i f) i g = upR σ i g := by
  funext a
  by_cases h : a = i
  · subst h; rw [upR_s, upR_s]
  · rw [upR_n h, upR_n h, upR_n h]
/-- what a cell is: a row of ints or booleans (type, length); a row of references; an object (class, its fields: an int, or a reference) -/
abbrev ShT : Type := (FieldType × Nat) ⊕ ((FieldType × List Nat) ⊕ (Nat × List (Option Nat)))
def shL : List ShT := [
  .inr (.inr (6, [some 1, some 13, some 21, some 26, some 32, some 33, none, none])),
  .inr (.inr (5, [none, none, none, some 2, some 3, some 8])),
  .inl (.int, 4),
  .inr (.inl (.array .int, [4, 5, 6, 7])),
  .inl (.int, 6), .inl (.int, 6), .inl (.int, 6), .inl (.int, 6),
  .inr (.inl (.array .int, [9, 10, 11, 12])),
  .inl (.int, 6), .inl (.int, 6), .inl (.int, 6), .inl (.int, 6),
  .inr (.inr (2, [some 14, some 15, some 16, some 17, none])),
  .inl (.int, 24), .inl (.int, 24), .inl (.int, 24),
  .inr (.inr (0, [some 18, some 19, some 20])),
  .inl (.int, 4), .inl (.int, 4), .inl (.int, 6),
  .inr (.inr (3, [some 22, some 23, some 24, some 25, none])),
  .inl (.int, 8), .inl (.int, 8), .inl (.int, 8), .inl (.boolean, 8),
  .inr (.inr (1, [some 27, some 31, none])),
  .inr (.inr (0, [some 28, some 29, some 30])),
  .inl (.int, 4), .inl (.int, 4), .inl (.int, 6),
  .inl (.int, 6),
  .inr (.inl (.object "ThreeRefusals$Sheet", [34, 36, 38, 40])),
  .inl (.int, 100),
  .inr (.inr (4, [some 35, none, none, none])), .inl (.int, 100),
  .inr (.inr (4, [some 37, none, none, none])), .inl (.int, 100),
  .inr (.inr (4, [some 39, none, none, none])), .inl (.int, 100),
  .inr (.inr (4, [some 41, none, none, none])), .inl (.int, 100),
  .inr (.inr (7, [none, none, none, some 43, some 44, some 45, none, none, none, none, some 46, some 47, some 48, none, some 49, some 50, some 51, some 52, some 53, some 54, none, some 55, some 56, some 57, some 58, some 59, some 60, some 61, some 62, none])),
  .inl (.int, 4), .inl (.int, 24), .inl (.int, 24), .inl (.int, 4), .inl (.int, 24), .inl (.int, 24),
  .inl (.int, 24), .inl (.int, 24), .inl (.int, 24), .inl (.int, 4), .inl (.int, 4), .inl (.int, 6),
  .inl (.int, 8), .inl (.int, 8), .inl (.int, 8), .inl (.boolean, 8),
  .inl (.int, 4), .inl (.int, 4), .inl (.int, 400), .inl (.int, 100)]
abbrev NC : Nat := 63
def SH (i : Nat) : Option ShT := shL[i]?
theorem SH_lt {i : Nat} {x : ShT} (h : SH i = some x) : i < NC := (List.getElem?_eq_some_iff.mp h).1
/-- what a start gives: the numbers of classes and slots, the classes of arrays, where each cell lies -/
abbrev GX : Type := va_G × (FieldType → ClassId) × (Nat → Nat)
def tr (ad : Nat → Nat) : Value → Value
  | .ref i => .ref (ad i)
  | v => v
theorem tr_cat (ad : Nat → Nat) (v : Value) : (tr ad v).category = v.category := by cases v <;> rfl
def flds (ad : Nat → Nat) (f : Nat → Int32) : Nat → List (Option Nat) → List Value
  | _, [] => []
  | k, none :: l => .int (f k) :: flds ad f (k + 1) l
  | k, some i :: l => .ref (ad i) :: flds ad f (k + 1) l
def cellS (G : GX) (f : Nat → Int32) : ShT → va_E
  | .inl q => .inl (G.2.1 q.1, q.2, .inl f)
  | .inr (.inl q) => .inl (G.2.1 q.1, q.2.length, .inr (.inr (.inr (.inr (fun j => (q.2[j]?).map G.2.2)))))
  | .inr (.inr q) => .inr (q.1, flds G.2.2 f 0 q.2)
def cellOf (G : GX) (f : Nat → Int32) (i : Nat) : va_E := cellS G f ((SH i).getD (.inl (.int, 0)))
theorem cellOf_at {G : GX} {f : Nat → Int32} {i : Nat} {x : ShT} (h : SH i = some x) : cellOf G f i = cellS G f x := by unfold cellOf; rw [h]; rfl
def wd (G : GX) (σ : Mem) : va_W := (List.range NC).map (fun i => (G.2.2 i, cellOf G (σ i) i))
theorem wd_at {G : GX} {σ : Mem} {i : Nat} {x : ShT} (h : SH i = some x) : (wd G σ)[i]? = some (G.2.2 i, cellS G (σ i) x) := by
  have hi := SH_lt h
  unfold wd
  rw [List.getElem?_map, List.getElem?_range hi, Option.map_some, cellOf_at h]
theorem wd_set {G : GX} {σ : Mem} {i : Nat} {x : ShT} {f : Nat → Int32} (h : SH i = some x) : (wd G σ).set i (G.2.2 i, cellS G f x) = wd G (upR σ i f) := by
  have hi := SH_lt h
  apply List.ext_getElem?
  intro j
  unfold wd
  rw [List.getElem?_set, List.getElem?_map, List.getElem?_map]
  by_cases hj : i = j
  · subst hj
    rw [if_pos rfl, List.getElem?_range hi, if_pos (by simp [hi]), Option.map_some, upR_s, cellOf_at h]
  · rw [if_neg hj]
    by_cases hn : j < NC
    · rw [List.getElem?_range hn, Option.map_some, Option.map_some, upR_n (Ne.symm hj)]
    · rw [List.getElem?_eq_none (by simpa using hn)]; rfl
theorem flds_get (ad : Nat → Nat) (f : Nat → Int32) : ∀ (fs : List (Option Nat)) (k j : Nat), (flds ad f k fs)[j]? = (fs[j]?).map (fun o => match o with | none => .int (f (k + j)) | some i => .ref (ad i))
  | [], k, j => by simp [flds]
  | none :: l, k, 0 => by simp [flds]
  | some i :: l, k, 0 => by simp [flds]
  | none :: l, k, j + 1 => by
    simp only [flds, List.getElem?_cons_succ]
    rw [flds_get ad f l (k + 1) j, show k + 1 + j = k + (j + 1) by omega]
  | some i :: l, k, j + 1 => by
    simp only [flds, List.getElem?_cons_succ]
    rw [flds_get ad f l (k + 1) j, show k + 1 + j = k + (j + 1) by omega]
theorem flds_set (ad : Nat → Nat) (f : Nat → Int32) (v : Int32) (fs : List (Option Nat)) (j : Nat) (h : fs[j]? = some none) : (flds ad f 0 fs).set j (.int v) = flds ad (upd f j v) 0 fs := by
  apply List.ext_getElem?
  intro k
  have hl : j < (flds ad f 0 fs).length := by
    have h1 := flds_get ad f fs 0 j
    rw [h] at h1
    exact (List.getElem?_eq_some_iff.mp h1).1
  rw [List.getElem?_set, flds_get ad (upd f j v) fs 0 k]
  by_cases hk : j = k
  · subst hk
    rw [if_pos rfl, if_pos hl, h]
    simp [upd]
  · rw [if_neg hk, flds_get ad f fs 0 k]
    cases hx : fs[k]? with
    | none => rfl
    | some o =>
      cases o with
      | none => simp [upd, Ne.symm hk]
      | some i => rfl
def tysOf (G : GX) : List (ClassId × FieldType) := [(G.2.1 .int, .int), (G.2.1 .boolean, .boolean), (G.2.1 (.array .int), .array .int), (G.2.1 (.object "ThreeRefusals$Sheet"), .object "ThreeRefusals$Sheet")]
def KK (G : GX) (U : State) : Prop := va_K G.1 vwCl (tysOf G) U
def Adr (G : GX) (sz : Nat) : Nat → Prop := fun q => (∃ i, i < NC ∧ q = G.2.2 i) ∨ sz ≤ q
/-- a method: its name, its bytes, how many locals, what it answers -/
abbrev MT : Type := MethodName × ByteArray × Nat × Option FieldType
def wsM (M : MT) : List Cond := .code M.1 M.2.1 M.2.2.1 M.2.2.2 :: tblG
/-- an end: the room, cells and slots so far, what else a start gives, where the walk comes to -/
abbrev ET : Type := Room × (Nat × Nat) × (GX → (Nat → Prop) → State → Prop) × (GX → (Nat → Prop) → List Frame → Array Value → State → State → Prop)
def CX (M : MT) (p : Program) (s : State) (m : MethodId) (args : Array Value) (meth : Method) (c : Code) (G : GX) : Prop :=
  p.tables.exec = Jvm.exec ∧ c.code = M.2.1 ∧ c.maxLocals = M.2.2.1 ∧ s.vm.findClass M.1.cls = some m.cls ∧ (∀ w ∈ tblG, w.before args s = true) ∧ meth.sig.returnType = M.2.2.2 ∧ meth.locks = false ∧ KK G s
def lsT (ad : Nat → Nat) (ls : List (Nat × Value)) : List (Nat × Value) := ls.map (fun q => (q.1, tr ad q.2))
def PAt (E : ET) (M : MT) (pc : Nat) (ls : List (Nat × Value)) (st : List Value) (σ : Mem) : Prop :=
  ∀ (p : Program) (l : Launch) (e : Env) (s : State) (m : MethodId) (args : Array Value) (below : List Frame) (meth : Method) (c : Code) (G : GX) (A : Nat → Prop) (H : Heap) (locs : List Loc) (lsr : Array Slot),
    CX M p s m args meth c G → E.2.2.1 G A s → (∀ q : Nat, s.heap.size ≤ q → A q) → va_P G.1 vwCl (wd G σ) H → va_D A (wd G σ) → va_S A s.heap H locs → lv_has lsr M.2.2.1 (lsT G.2.2 ls) →
    W p l e E.1 s m args below meth c H locs E.2.1.1 E.2.1.2 (E.2.2.2 G A below args s) (F0 m pc lsr (st.map (tr G.2.2)))
def PQ (G : GX) (A : Nat → Prop) (Post : Option Value → Mem → Prop) : Array Value → State → Outcome → State → Prop := fun _ st oc t =>
  (∃ (r : Option Value) (σ : Mem), oc = .returned (r.map (tr G.2.2)) ∧ Post r σ ∧ va_P G.1 vwCl (wd G σ) t.heap ∧ KK G t ∧ va_D A (wd G σ)) ∧ va_F A st t
def rmD (d : Nat) : Room := { frames := d, cells := 0, slots := 0, locals := 40 * d }
/-- the end of a method at depth d -/
def EM (d : Nat) (Post : Option Value → Mem → Prop) : ET := (rmD d, (0, 0), fun _ _ _ => True, fun G A below args s => MQ below (PQ G A Post) args s 0 0 A)
def Pst (G : GX) (σ : Mem) (sz : Nat) (U : State) : Prop := U.heap.size = sz ∧ va_P G.1 vwCl (wd G σ) U.heap ∧ KK G U ∧ va_D (fun _ => True) (wd G σ)
/-- a method's contract, at depth d: from the memory σ it answers r and leaves σ' with Post r σ' -/
def PMet (d : Nat) (M : MT) (args : List Value) (σ : Mem) (Post : Option Value → Mem → Prop) : Prop :=
  ∀ (l : Launch) (G : GX) (sz : Nat), Met l M.1 (wsM M) (rmD d) (va_Pc (args.map (tr G.2.2)) (Pst G σ sz)) (PQ G (Adr G sz) Post) 0 0 (Adr G sz)

theorem lsT_at {ad : Nat → Nat} {lsr : Array Slot} {n : Nat} {ls : List (Nat × Value)} (h : lv_has lsr n (lsT ad ls)) (k : Nat) {i : Nat} {v : Value} (hk : ls[k]? = some (i, v)) : lsr[i]? = some (.val (tr ad v)) :=
  lv_at h k (by unfold lsT; rw [List.getElem?_map, hk]; rfl)
def lset1 (ls : List (Nat × Value)) (i : Nat) (v : Value) : List (Nat × Value) := (i, v) :: ls.filter (fun q => !(q.1 == i) && !(q.1 + 1 == i && q.2.category == 2))
def lset2 (ls : List (Nat × Value)) (i : Nat) (v : Value) : List (Nat × Value) := (i, v) :: ls.filter (fun q => !(q.1 == i) && (!(q.1 == i + 1) && !(q.1 + 1 == i && q.2.category == 2)))
theorem lset1_T (ad : Nat → Nat) (ls : List (Nat × Value)) (i : Nat) (v : Value) : (i, tr ad v) :: (lsT ad ls).filter (fun q => !(q.1 == i) && !(q.1 + 1 == i && q.2.category == 2)) = lsT ad (lset1 ls i v) := by
  unfold lset1 lsT
  rw [List.map_cons, List.filter_map]
  congr 3
  funext q
  simp [tr_cat]
theorem lset2_T (ad : Nat → Nat) (ls : List (Nat × Value)) (i : Nat) (v : Value) : (i, tr ad v) :: (lsT ad ls).filter (fun q => !(q.1 == i) && (!(q.1 == i + 1) && !(q.1 + 1 == i && q.2.category == 2))) = lsT ad (lset2 ls i v) := by
  unfold lset2 lsT
  rw [List.map_cons, List.filter_map]
  congr 3
  funext q
  simp [tr_cat]
theorem lsT_pick {ad : Nat → Nat} {ls ls' : List (Nat × Value)} (ks : List Nat) (h : lv_pick ls ks = ls') : lv_pick (lsT ad ls) ks = lsT ad ls' := by
  subst h
  unfold lv_pick lsT
  rw [List.map_filterMap]
  congr 1
  funext k
  rw [List.getElem?_map]
section TQ
variable {E : ET} {M : MT} {pc : Nat} {ls : List (Nat × Value)} {st : List Value} {σ : Mem}
/-- fewer locals, in another order -/
theorem tq_sub (ks : List Nat) {ls' : List (Nat × Value)} (h : lv_pick ls ks = ls') (k : PAt E M pc ls' st σ) : PAt E M pc ls st σ :=
  fun p l e s m args below meth c G A H locs lsr C hX hA hP hD hS hl => k p l e s m args below meth c G A H locs lsr C hX hA hP hD hS (lv_sub hl ks (lsT_pick ks h))
theorem tq_top {x : Int32} (k : ∀ y : Int32, y = x → PAt E M pc ls (.int y :: st) σ) : PAt E M pc ls (.int x :: st) σ := k x rfl
theorem tq_topl {x : Int64} (k : ∀ y : Int64, y = x → PAt E M pc ls (.long y :: st) σ) : PAt E M pc ls (.long x :: st) σ := k x rfl
theorem tq_mem {σ' : Mem} (h : σ = σ') (k : PAt E M pc ls st σ') : PAt E M pc ls st σ := h ▸ k
theorem tq_eqi {x y : Int32} (h : x = y) (k : PAt E M pc ls (.int y :: st) σ) : PAt E M pc ls (.int x :: st) σ := h ▸ k
theorem tq_iconst {n : Int} {v : Int32} (hd : decode M.2.1 pc = .ok (.iconst n, 1)) (hv : Int32.ofInt n = v) (k : PAt E M (pc + 1) ls (.int v :: st) σ) : PAt E M pc ls (st) σ :=
  fun p l e s m args below meth c G A H locs lsr C hX hA hP hD hS hl => lv_iconst C.1 C.2.1 hd hv (k p l e s m args below meth c G A H locs lsr C hX hA hP hD hS hl)
theorem tq_bipush {n : Int} {v : Int32} (hd : decode M.2.1 pc = .ok (.bipush n, 2)) (hv : (Int8.ofInt n).toInt32 = v) (k : PAt E M (pc + 2) ls (.int v :: st) σ) : PAt E M pc ls (st) σ :=
  fun p l e s m args below meth c G A H locs lsr C hX hA hP hD hS hl => lv_bipush C.1 C.2.1 hd hv (k p l e s m args below meth c G A H locs lsr C hX hA hP hD hS hl)
theorem tq_sipush {n : Int} {v : Int32} (hd : decode M.2.1 pc = .ok (.sipush n, 3)) (hv : (Int16.ofInt n).toInt32 = v) (k : PAt E M (pc + 3) ls (.int v :: st) σ) : PAt E M pc ls (st) σ :=
  fun p l e s m args below meth c G A H locs lsr C hX hA hP hD hS hl => lv_sipush C.1 C.2.1 hd hv (k p l e s m args below meth c G A H locs lsr C hX hA hP hD hS hl)
theorem tq_lconst {n : Fin 2} {v : Int64} (hd : decode M.2.1 pc = .ok (.lconst n, 1)) (hv : Int64.ofNat (n : Nat) = v) (k : PAt E M (pc + 1) ls (.long v :: st) σ) : PAt E M pc ls (st) σ :=
  fun p l e s m args below meth c G A H locs lsr C hX hA hP hD hS hl => lv_lconst C.1 C.2.1 hd hv (k p l e s m args below meth c G A H locs lsr C hX hA hP hD hS hl)
theorem tq_ldc2 {n : Nat} {v : Int64} (hd : decode M.2.1 pc = .ok (.ldc2_w n, 3)) (hw : Cond.constantLong M.1.cls n v ∈ tblG) (k : PAt E M (pc + 3) ls (.long v :: st) σ) : PAt E M pc ls (st) σ :=
  fun p l e s m args below meth c G A H locs lsr C hX hA hP hD hS hl => lv_ldc2 C.1 C.2.1 C.2.2.2.1 (C.2.2.2.2.1 _ hw) hd (k p l e s m args below meth c G A H locs lsr C hX hA hP hD hS hl)
theorem tq_ldcw {n : Nat} {v : Int32} (hd : decode M.2.1 pc = .ok (.ldc_w n, 3)) (hw : Cond.constant M.1.cls n v ∈ tblG) (k : PAt E M (pc + 3) ls (.int v :: st) σ) : PAt E M pc ls (st) σ :=
  fun p l e s m args below meth c G A H locs lsr C hX hA hP hD hS hl => lv_ldcw C.1 C.2.1 C.2.2.2.1 (C.2.2.2.2.1 _ hw) hd (k p l e s m args below meth c G A H locs lsr C hX hA hP hD hS hl)
theorem tq_iload_n (j : Nat) {k : Fin 4} {i : Nat} {x : Int32} (hd : decode M.2.1 pc = .ok (.iload_n k, 1)) (hi : (k : Nat) = i) (hk : ls[j]? = some (i, .int x)) (k : PAt E M (pc + 1) ls (.int x :: st) σ) : PAt E M pc ls (st) σ :=
  fun p l e s m args below meth c G A H locs lsr C hX hA hP hD hS hl => lv_iload_n C.1 C.2.1 hd hi (lsT_at hl j hk) (k p l e s m args below meth c G A H locs lsr C hX hA hP hD hS hl)
theorem tq_iload (j : Nat) {i : Nat} {x : Int32} (hd : decode M.2.1 pc = .ok (.iload i, 2)) (hk : ls[j]? = some (i, .int x)) (k : PAt E M (pc + 2) ls (.int x :: st) σ) : PAt E M pc ls (st) σ :=
  fun p l e s m args below meth c G A H locs lsr C hX hA hP hD hS hl => lv_iload C.1 C.2.1 hd (lsT_at hl j hk) (k p l e s m args below meth c G A H locs lsr C hX hA hP hD hS hl)
theorem tq_lload_n (j : Nat) {k : Fin 4} {i : Nat} {x : Int64} (hd : decode M.2.1 pc = .ok (.lload_n k, 1)) (hi : (k : Nat) = i) (hk : ls[j]? = some (i, .long x)) (k : PAt E M (pc + 1) ls (.long x :: st) σ) : PAt E M pc ls (st) σ :=
  fun p l e s m args below meth c G A H locs lsr C hX hA hP hD hS hl => lv_lload_n C.1 C.2.1 hd hi (lsT_at hl j hk) (k p l e s m args below meth c G A H locs lsr C hX hA hP hD hS hl)
theorem tq_lload (j : Nat) {i : Nat} {x : Int64} (hd : decode M.2.1 pc = .ok (.lload i, 2)) (hk : ls[j]? = some (i, .long x)) (k : PAt E M (pc + 2) ls (.long x :: st) σ) : PAt E M pc ls (st) σ :=
  fun p l e s m args below meth c G A H locs lsr C hX hA hP hD hS hl => lv_lload C.1 C.2.1 hd (lsT_at hl j hk) (k p l e s m args below meth c G A H locs lsr C hX hA hP hD hS hl)
theorem tq_aload_n (j : Nat) {k : Fin 4} {i : Nat} {x : Nat} (hd : decode M.2.1 pc = .ok (.aload_n k, 1)) (hi : (k : Nat) = i) (hk : ls[j]? = some (i, .ref x)) (k : PAt E M (pc + 1) ls (.ref x :: st) σ) : PAt E M pc ls (st) σ :=
  fun p l e s m args below meth c G A H locs lsr C hX hA hP hD hS hl => lv_aload_n C.1 C.2.1 hd hi (lsT_at hl j hk) (k p l e s m args below meth c G A H locs lsr C hX hA hP hD hS hl)
theorem tq_aload (j : Nat) {i : Nat} {x : Nat} (hd : decode M.2.1 pc = .ok (.aload i, 2)) (hk : ls[j]? = some (i, .ref x)) (k : PAt E M (pc + 2) ls (.ref x :: st) σ) : PAt E M pc ls (st) σ :=
  fun p l e s m args below meth c G A H locs lsr C hX hA hP hD hS hl => lv_aload C.1 C.2.1 hd (lsT_at hl j hk) (k p l e s m args below meth c G A H locs lsr C hX hA hP hD hS hl)
theorem tq_istore_n {k : Fin 4} {i : Nat} {x : Int32} {ls2 : List (Nat × Value)} (hd : decode M.2.1 pc = .ok (.istore_n k, 1)) (hi : (k : Nat) = i) (hn : i < M.2.2.1) (h2 : lset1 ls i (.int x) = ls2) (k : PAt E M (pc + 1) ls2 st σ) : PAt E M pc ls (.int x :: st) σ :=
  fun p l e s m args below meth c G A H locs lsr C hX hA hP hD hS hl => lv_istore_n C.1 C.2.1 hd hi hl hn ((lset1_T G.2.2 ls i (.int x)).trans (congrArg _ h2)) (fun lsr2 hl2 => k p l e s m args below meth c G A H locs lsr2 C hX hA hP hD hS hl2)
theorem tq_istore {i : Nat} {x : Int32} {ls2 : List (Nat × Value)} (hd : decode M.2.1 pc = .ok (.istore i, 2)) (hn : i < M.2.2.1) (h2 : lset1 ls i (.int x) = ls2) (k : PAt E M (pc + 2) ls2 st σ) : PAt E M pc ls (.int x :: st) σ :=
  fun p l e s m args below meth c G A H locs lsr C hX hA hP hD hS hl => lv_istore C.1 C.2.1 hd hl hn ((lset1_T G.2.2 ls i (.int x)).trans (congrArg _ h2)) (fun lsr2 hl2 => k p l e s m args below meth c G A H locs lsr2 C hX hA hP hD hS hl2)
theorem tq_lstore_n {k : Fin 4} {i : Nat} {x : Int64} {ls2 : List (Nat × Value)} (hd : decode M.2.1 pc = .ok (.lstore_n k, 1)) (hi : (k : Nat) = i) (hn : i + 1 < M.2.2.1) (h2 : lset2 ls i (.long x) = ls2) (k : PAt E M (pc + 1) ls2 st σ) : PAt E M pc ls (.long x :: st) σ :=
  fun p l e s m args below meth c G A H locs lsr C hX hA hP hD hS hl => lv_lstore_n C.1 C.2.1 hd hi hl hn ((lset2_T G.2.2 ls i (.long x)).trans (congrArg _ h2)) (fun lsr2 hl2 => k p l e s m args below meth c G A H locs lsr2 C hX hA hP hD hS hl2)
theorem tq_lstore {i : Nat} {x : Int64} {ls2 : List (Nat × Value)} (hd : decode M.2.1 pc = .ok (.lstore i, 2)) (hn : i + 1 < M.2.2.1) (h2 : lset2 ls i (.long x) = ls2) (k : PAt E M (pc + 2) ls2 st σ) : PAt E M pc ls (.long x :: st) σ :=
  fun p l e s m args below meth c G A H locs lsr C hX hA hP hD hS hl => lv_lstore C.1 C.2.1 hd hl hn ((lset2_T G.2.2 ls i (.long x)).trans (congrArg _ h2)) (fun lsr2 hl2 => k p l e s m args below meth c G A H locs lsr2 C hX hA hP hD hS hl2)
theorem tq_astore_n {k : Fin 4} {i : Nat} {x : Nat} {ls2 : List (Nat × Value)} (hd : decode M.2.1 pc = .ok (.astore_n k, 1)) (hi : (k : Nat) = i) (hn : i < M.2.2.1) (h2 : lset1 ls i (.ref x) = ls2) (k : PAt E M (pc + 1) ls2 st σ) : PAt E M pc ls (.ref x :: st) σ :=
  fun p l e s m args below meth c G A H locs lsr C hX hA hP hD hS hl => lv_astore_n C.1 C.2.1 hd hi hl hn ((lset1_T G.2.2 ls i (.ref x)).trans (congrArg _ h2)) (fun lsr2 hl2 => k p l e s m args below meth c G A H locs lsr2 C hX hA hP hD hS hl2)
theorem tq_astore {i : Nat} {x : Nat} {ls2 : List (Nat × Value)} (hd : decode M.2.1 pc = .ok (.astore i, 2)) (hn : i < M.2.2.1) (h2 : lset1 ls i (.ref x) = ls2) (k : PAt E M (pc + 2) ls2 st σ) : PAt E M pc ls (.ref x :: st) σ :=
  fun p l e s m args below meth c G A H locs lsr C hX hA hP hD hS hl => lv_astore C.1 C.2.1 hd hl hn ((lset1_T G.2.2 ls i (.ref x)).trans (congrArg _ h2)) (fun lsr2 hl2 => k p l e s m args below meth c G A H locs lsr2 C hX hA hP hD hS hl2)
theorem tq_iinc (j : Nat) {i : Nat} {n : Int} {x v : Int32} {ls2 : List (Nat × Value)} (hd : decode M.2.1 pc = .ok (.iinc i n, 3)) (hk : ls[j]? = some (i, .int x)) (hv : x + Int32.ofInt n = v) (hn : i < M.2.2.1) (h2 : lset1 ls i (.int v) = ls2) (k : PAt E M (pc + 3) ls2 st σ) : PAt E M pc ls st σ :=
  fun p l e s m args below meth c G A H locs lsr C hX hA hP hD hS hl => lv_iinc (k := j) C.1 C.2.1 hd hl (by unfold lsT; rw [List.getElem?_map, hk]; rfl) hv hn ((lset1_T G.2.2 ls i (.int v)).trans (congrArg _ h2)) (fun lsr2 hl2 => k p l e s m args below meth c G A H locs lsr2 C hX hA hP hD hS hl2)
theorem tq_iadd {x y : Int32} (hd : decode M.2.1 pc = .ok (.iadd, 1)) (k : PAt E M (pc + 1) ls (.int (x + y) :: st) σ) : PAt E M pc ls (.int y :: .int x :: st) σ :=
  fun p l e s m args below meth c G A H locs lsr C hX hA hP hD hS hl => lv_iadd C.1 C.2.1 hd (k p l e s m args below meth c G A H locs lsr C hX hA hP hD hS hl)
theorem tq_isub {x y : Int32} (hd : decode M.2.1 pc = .ok (.isub, 1)) (k : PAt E M (pc + 1) ls (.int (x - y) :: st) σ) : PAt E M pc ls (.int y :: .int x :: st) σ :=
  fun p l e s m args below meth c G A H locs lsr C hX hA hP hD hS hl => lv_isub C.1 C.2.1 hd (k p l e s m args below meth c G A H locs lsr C hX hA hP hD hS hl)
theorem tq_imul {x y : Int32} (hd : decode M.2.1 pc = .ok (.imul, 1)) (k : PAt E M (pc + 1) ls (.int (x * y) :: st) σ) : PAt E M pc ls (.int y :: .int x :: st) σ :=
  fun p l e s m args below meth c G A H locs lsr C hX hA hP hD hS hl => lv_imul C.1 C.2.1 hd (k p l e s m args below meth c G A H locs lsr C hX hA hP hD hS hl)
theorem tq_iand {x y : Int32} (hd : decode M.2.1 pc = .ok (.iand, 1)) (k : PAt E M (pc + 1) ls (.int (x &&& y) :: st) σ) : PAt E M pc ls (.int y :: .int x :: st) σ :=
  fun p l e s m args below meth c G A H locs lsr C hX hA hP hD hS hl => lv_iand C.1 C.2.1 hd (k p l e s m args below meth c G A H locs lsr C hX hA hP hD hS hl)
theorem tq_ior {x y : Int32} (hd : decode M.2.1 pc = .ok (.ior, 1)) (k : PAt E M (pc + 1) ls (.int (x ||| y) :: st) σ) : PAt E M pc ls (.int y :: .int x :: st) σ :=
  fun p l e s m args below meth c G A H locs lsr C hX hA hP hD hS hl => lv_ior C.1 C.2.1 hd (k p l e s m args below meth c G A H locs lsr C hX hA hP hD hS hl)
theorem tq_ishl {x y : Int32} (hd : decode M.2.1 pc = .ok (.ishl, 1)) (k : PAt E M (pc + 1) ls (.int (x <<< (y &&& 31)) :: st) σ) : PAt E M pc ls (.int y :: .int x :: st) σ :=
  fun p l e s m args below meth c G A H locs lsr C hX hA hP hD hS hl => lv_ishl C.1 C.2.1 hd (k p l e s m args below meth c G A H locs lsr C hX hA hP hD hS hl)
theorem tq_ishr {x y : Int32} (hd : decode M.2.1 pc = .ok (.ishr, 1)) (k : PAt E M (pc + 1) ls (.int (x >>> (y &&& 31)) :: st) σ) : PAt E M pc ls (.int y :: .int x :: st) σ :=
  fun p l e s m args below meth c G A H locs lsr C hX hA hP hD hS hl => lv_ishr C.1 C.2.1 hd (k p l e s m args below meth c G A H locs lsr C hX hA hP hD hS hl)
theorem tq_iushr {x y : Int32} (hd : decode M.2.1 pc = .ok (.iushr, 1)) (k : PAt E M (pc + 1) ls (.int ((x.toUInt32 >>> (y.toUInt32 &&& Int32.toUInt32 31)).toInt32) :: st) σ) : PAt E M pc ls (.int y :: .int x :: st) σ :=
  fun p l e s m args below meth c G A H locs lsr C hX hA hP hD hS hl => lv_iushr C.1 C.2.1 hd rfl (k p l e s m args below meth c G A H locs lsr C hX hA hP hD hS hl)
theorem tq_idiv {x y : Int32} (hd : decode M.2.1 pc = .ok (.idiv, 1)) (hne : ¬ y = 0) (k : PAt E M (pc + 1) ls (.int (x / y) :: st) σ) : PAt E M pc ls (.int y :: .int x :: st) σ :=
  fun p l e s m args below meth c G A H locs lsr C hX hA hP hD hS hl => lv_idiv C.1 C.2.1 hd hne (k p l e s m args below meth c G A H locs lsr C hX hA hP hD hS hl)
theorem tq_irem {x y : Int32} (hd : decode M.2.1 pc = .ok (.irem, 1)) (hne : ¬ y = 0) (k : PAt E M (pc + 1) ls (.int (x - x / y * y) :: st) σ) : PAt E M pc ls (.int y :: .int x :: st) σ :=
  fun p l e s m args below meth c G A H locs lsr C hX hA hP hD hS hl => lv_irem C.1 C.2.1 hd hne (k p l e s m args below meth c G A H locs lsr C hX hA hP hD hS hl)
theorem tq_ladd {x y : Int64} (hd : decode M.2.1 pc = .ok (.ladd, 1)) (k : PAt E M (pc + 1) ls (.long (x + y) :: st) σ) : PAt E M pc ls (.long y :: .long x :: st) σ :=
  fun p l e s m args below meth c G A H locs lsr C hX hA hP hD hS hl => lv_ladd C.1 C.2.1 hd (k p l e s m args below meth c G A H locs lsr C hX hA hP hD hS hl)
theorem tq_lsub {x y : Int64} (hd : decode M.2.1 pc = .ok (.lsub, 1)) (k : PAt E M (pc + 1) ls (.long (x - y) :: st) σ) : PAt E M pc ls (.long y :: .long x :: st) σ :=
  fun p l e s m args below meth c G A H locs lsr C hX hA hP hD hS hl => lv_lsub C.1 C.2.1 hd (k p l e s m args below meth c G A H locs lsr C hX hA hP hD hS hl)
theorem tq_lmul {x y : Int64} (hd : decode M.2.1 pc = .ok (.lmul, 1)) (k : PAt E M (pc + 1) ls (.long (x * y) :: st) σ) : PAt E M pc ls (.long y :: .long x :: st) σ :=
  fun p l e s m args below meth c G A H locs lsr C hX hA hP hD hS hl => lv_lmul C.1 C.2.1 hd (k p l e s m args below meth c G A H locs lsr C hX hA hP hD hS hl)
theorem tq_ldiv {x y : Int64} (hd : decode M.2.1 pc = .ok (.ldiv, 1)) (hne : ¬ y = 0) (k : PAt E M (pc + 1) ls (.long (x / y) :: st) σ) : PAt E M pc ls (.long y :: .long x :: st) σ :=
  fun p l e s m args below meth c G A H locs lsr C hX hA hP hD hS hl => lv_ldiv C.1 C.2.1 hd hne (k p l e s m args below meth c G A H locs lsr C hX hA hP hD hS hl)
theorem tq_lrem {x y : Int64} (hd : decode M.2.1 pc = .ok (.lrem, 1)) (hne : ¬ y = 0) (k : PAt E M (pc + 1) ls (.long (x - x / y * y) :: st) σ) : PAt E M pc ls (.long y :: .long x :: st) σ :=
  fun p l e s m args below meth c G A H locs lsr C hX hA hP hD hS hl => lv_lrem C.1 C.2.1 hd hne (k p l e s m args below meth c G A H locs lsr C hX hA hP hD hS hl)
theorem tq_lcmp {x y : Int64} (hd : decode M.2.1 pc = .ok (.lcmp, 1)) (k : PAt E M (pc + 1) ls (.int (lg_cmp x y) :: st) σ) : PAt E M pc ls (.long y :: .long x :: st) σ :=
  fun p l e s m args below meth c G A H locs lsr C hX hA hP hD hS hl => W.lcmp C.1 C.2.1 hd (k p l e s m args below meth c G A H locs lsr C hX hA hP hD hS hl)
theorem tq_i2l {x : Int32} (hd : decode M.2.1 pc = .ok (.i2l, 1)) (k : PAt E M (pc + 1) ls (.long x.toInt64 :: st) σ) : PAt E M pc ls (.int x :: st) σ :=
  fun p l e s m args below meth c G A H locs lsr C hX hA hP hD hS hl => lv_i2l C.1 C.2.1 hd rfl (k p l e s m args below meth c G A H locs lsr C hX hA hP hD hS hl)
theorem tq_i2b {x : Int32} (hd : decode M.2.1 pc = .ok (.i2b, 1)) (k : PAt E M (pc + 1) ls (.int x.toInt8.toInt32 :: st) σ) : PAt E M pc ls (.int x :: st) σ :=
  fun p l e s m args below meth c G A H locs lsr C hX hA hP hD hS hl => lv_i2b C.1 C.2.1 hd rfl (k p l e s m args below meth c G A H locs lsr C hX hA hP hD hS hl)
theorem tq_i2s {x : Int32} (hd : decode M.2.1 pc = .ok (.i2s, 1)) (k : PAt E M (pc + 1) ls (.int x.toInt16.toInt32 :: st) σ) : PAt E M pc ls (.int x :: st) σ :=
  fun p l e s m args below meth c G A H locs lsr C hX hA hP hD hS hl => lv_i2s C.1 C.2.1 hd rfl (k p l e s m args below meth c G A H locs lsr C hX hA hP hD hS hl)
theorem tq_dup {v : Value} (hd : decode M.2.1 pc = .ok (.dup, 1)) (hc : v.category = 1) (k : PAt E M (pc + 1) ls (v :: v :: st) σ) : PAt E M pc ls (v :: st) σ :=
  fun p l e s m args below meth c G A H locs lsr C hX hA hP hD hS hl => lv_dup C.1 C.2.1 hd ((tr_cat _ _).trans hc) (k p l e s m args below meth c G A H locs lsr C hX hA hP hD hS hl)
theorem tq_pop {v : Value} (hd : decode M.2.1 pc = .ok (.pop, 1)) (hc : v.category = 1) (k : PAt E M (pc + 1) ls (st) σ) : PAt E M pc ls (v :: st) σ :=
  fun p l e s m args below meth c G A H locs lsr C hX hA hP hD hS hl => lv_pop C.1 C.2.1 hd ((tr_cat _ _).trans hc) (k p l e s m args below meth c G A H locs lsr C hX hA hP hD hS hl)
theorem tq_dup2 {v u : Value} (hd : decode M.2.1 pc = .ok (.dup2, 1)) (hc : v.category = 1) (hc2 : u.category = 1) (k : PAt E M (pc + 1) ls (v :: u :: v :: u :: st) σ) : PAt E M pc ls (v :: u :: st) σ :=
  fun p l e s m args below meth c G A H locs lsr C hX hA hP hD hS hl => lv_dup2_11 C.1 C.2.1 hd ((tr_cat _ _).trans hc) ((tr_cat _ _).trans hc2) (k p l e s m args below meth c G A H locs lsr C hX hA hP hD hS hl)
theorem tq_goto {off : Int} {tgt : Nat} (hd : decode M.2.1 pc = .ok (.goto off, 3)) (ht : (pc : Int) + off = (tgt : Int)) (k : PAt E M tgt ls st σ) : PAt E M pc ls st σ :=
  fun p l e s m args below meth c G A H locs lsr C hX hA hP hD hS hl => lv_goto C.1 C.2.1 hd ht (k p l e s m args below meth c G A H locs lsr C hX hA hP hD hS hl)
theorem tq_if_eq {x : Int32} {off : Int} {tgt : Nat} (hd : decode M.2.1 pc = .ok (.ifCond .eq off, 3)) (ht : (pc : Int) + off = (tgt : Int)) (kt : x = 0 → PAt E M tgt ls st σ) (kf : ¬ x = 0 → PAt E M (pc + 3) ls st σ) : PAt E M pc ls (.int x :: st) σ :=
  fun p l e s m args below meth c G A H locs lsr C hX hA hP hD hS hl => lv_if_eq C.1 C.2.1 hd ht (fun h => kt h p l e s m args below meth c G A H locs lsr C hX hA hP hD hS hl) (fun h => kf h p l e s m args below meth c G A H locs lsr C hX hA hP hD hS hl)
theorem tq_icmp_eq {x y : Int32} {off : Int} {tgt : Nat} (hd : decode M.2.1 pc = .ok (.if_icmp .eq off, 3)) (ht : (pc : Int) + off = (tgt : Int)) (kt : x = y → PAt E M tgt ls st σ) (kf : ¬ x = y → PAt E M (pc + 3) ls st σ) : PAt E M pc ls (.int y :: .int x :: st) σ :=
  fun p l e s m args below meth c G A H locs lsr C hX hA hP hD hS hl => lv_icmp_eq C.1 C.2.1 hd ht (fun h => kt h p l e s m args below meth c G A H locs lsr C hX hA hP hD hS hl) (fun h => kf h p l e s m args below meth c G A H locs lsr C hX hA hP hD hS hl)
theorem tq_if_ne {x : Int32} {off : Int} {tgt : Nat} (hd : decode M.2.1 pc = .ok (.ifCond .ne off, 3)) (ht : (pc : Int) + off = (tgt : Int)) (kt : ¬ x = 0 → PAt E M tgt ls st σ) (kf : x = 0 → PAt E M (pc + 3) ls st σ) : PAt E M pc ls (.int x :: st) σ :=
  fun p l e s m args below meth c G A H locs lsr C hX hA hP hD hS hl => lv_if_ne C.1 C.2.1 hd ht (fun h => kt h p l e s m args below meth c G A H locs lsr C hX hA hP hD hS hl) (fun h => kf h p l e s m args below meth c G A H locs lsr C hX hA hP hD hS hl)
theorem tq_icmp_ne {x y : Int32} {off : Int} {tgt : Nat} (hd : decode M.2.1 pc = .ok (.if_icmp .ne off, 3)) (ht : (pc : Int) + off = (tgt : Int)) (kt : ¬ x = y → PAt E M tgt ls st σ) (kf : x = y → PAt E M (pc + 3) ls st σ) : PAt E M pc ls (.int y :: .int x :: st) σ :=
  fun p l e s m args below meth c G A H locs lsr C hX hA hP hD hS hl => lv_icmp_ne C.1 C.2.1 hd ht (fun h => kt h p l e s m args below meth c G A H locs lsr C hX hA hP hD hS hl) (fun h => kf h p l e s m args below meth c G A H locs lsr C hX hA hP hD hS hl)
theorem tq_if_lt {x : Int32} {off : Int} {tgt : Nat} (hd : decode M.2.1 pc = .ok (.ifCond .lt off, 3)) (ht : (pc : Int) + off = (tgt : Int)) (kt : x < 0 → PAt E M tgt ls st σ) (kf : ¬ x < 0 → PAt E M (pc + 3) ls st σ) : PAt E M pc ls (.int x :: st) σ :=
  fun p l e s m args below meth c G A H locs lsr C hX hA hP hD hS hl => lv_if_lt C.1 C.2.1 hd ht (fun h => kt h p l e s m args below meth c G A H locs lsr C hX hA hP hD hS hl) (fun h => kf h p l e s m args below meth c G A H locs lsr C hX hA hP hD hS hl)
theorem tq_icmp_lt {x y : Int32} {off : Int} {tgt : Nat} (hd : decode M.2.1 pc = .ok (.if_icmp .lt off, 3)) (ht : (pc : Int) + off = (tgt : Int)) (kt : x < y → PAt E M tgt ls st σ) (kf : ¬ x < y → PAt E M (pc + 3) ls st σ) : PAt E M pc ls (.int y :: .int x :: st) σ :=
  fun p l e s m args below meth c G A H locs lsr C hX hA hP hD hS hl => lv_icmp_lt C.1 C.2.1 hd ht (fun h => kt h p l e s m args below meth c G A H locs lsr C hX hA hP hD hS hl) (fun h => kf h p l e s m args below meth c G A H locs lsr C hX hA hP hD hS hl)
theorem tq_if_ge {x : Int32} {off : Int} {tgt : Nat} (hd : decode M.2.1 pc = .ok (.ifCond .ge off, 3)) (ht : (pc : Int) + off = (tgt : Int)) (kt : 0 ≤ x → PAt E M tgt ls st σ) (kf : ¬ 0 ≤ x → PAt E M (pc + 3) ls st σ) : PAt E M pc ls (.int x :: st) σ :=
  fun p l e s m args below meth c G A H locs lsr C hX hA hP hD hS hl => lv_if_ge C.1 C.2.1 hd ht (fun h => kt h p l e s m args below meth c G A H locs lsr C hX hA hP hD hS hl) (fun h => kf h p l e s m args below meth c G A H locs lsr C hX hA hP hD hS hl)
theorem tq_icmp_ge {x y : Int32} {off : Int} {tgt : Nat} (hd : decode M.2.1 pc = .ok (.if_icmp .ge off, 3)) (ht : (pc : Int) + off = (tgt : Int)) (kt : y ≤ x → PAt E M tgt ls st σ) (kf : ¬ y ≤ x → PAt E M (pc + 3) ls st σ) : PAt E M pc ls (.int y :: .int x :: st) σ :=
  fun p l e s m args below meth c G A H locs lsr C hX hA hP hD hS hl => lv_icmp_ge C.1 C.2.1 hd ht (fun h => kt h p l e s m args below meth c G A H locs lsr C hX hA hP hD hS hl) (fun h => kf h p l e s m args below meth c G A H locs lsr C hX hA hP hD hS hl)
theorem tq_if_gt {x : Int32} {off : Int} {tgt : Nat} (hd : decode M.2.1 pc = .ok (.ifCond .gt off, 3)) (ht : (pc : Int) + off = (tgt : Int)) (kt : 0 < x → PAt E M tgt ls st σ) (kf : ¬ 0 < x → PAt E M (pc + 3) ls st σ) : PAt E M pc ls (.int x :: st) σ :=
  fun p l e s m args below meth c G A H locs lsr C hX hA hP hD hS hl => lv_if_gt C.1 C.2.1 hd ht (fun h => kt h p l e s m args below meth c G A H locs lsr C hX hA hP hD hS hl) (fun h => kf h p l e s m args below meth c G A H locs lsr C hX hA hP hD hS hl)
theorem tq_icmp_gt {x y : Int32} {off : Int} {tgt : Nat} (hd : decode M.2.1 pc = .ok (.if_icmp .gt off, 3)) (ht : (pc : Int) + off = (tgt : Int)) (kt : y < x → PAt E M tgt ls st σ) (kf : ¬ y < x → PAt E M (pc + 3) ls st σ) : PAt E M pc ls (.int y :: .int x :: st) σ :=
  fun p l e s m args below meth c G A H locs lsr C hX hA hP hD hS hl => lv_icmp_gt C.1 C.2.1 hd ht (fun h => kt h p l e s m args below meth c G A H locs lsr C hX hA hP hD hS hl) (fun h => kf h p l e s m args below meth c G A H locs lsr C hX hA hP hD hS hl)
theorem tq_if_le {x : Int32} {off : Int} {tgt : Nat} (hd : decode M.2.1 pc = .ok (.ifCond .le off, 3)) (ht : (pc : Int) + off = (tgt : Int)) (kt : x ≤ 0 → PAt E M tgt ls st σ) (kf : ¬ x ≤ 0 → PAt E M (pc + 3) ls st σ) : PAt E M pc ls (.int x :: st) σ :=
  fun p l e s m args below meth c G A H locs lsr C hX hA hP hD hS hl => lv_if_le C.1 C.2.1 hd ht (fun h => kt h p l e s m args below meth c G A H locs lsr C hX hA hP hD hS hl) (fun h => kf h p l e s m args below meth c G A H locs lsr C hX hA hP hD hS hl)
theorem tq_icmp_le {x y : Int32} {off : Int} {tgt : Nat} (hd : decode M.2.1 pc = .ok (.if_icmp .le off, 3)) (ht : (pc : Int) + off = (tgt : Int)) (kt : x ≤ y → PAt E M tgt ls st σ) (kf : ¬ x ≤ y → PAt E M (pc + 3) ls st σ) : PAt E M pc ls (.int y :: .int x :: st) σ :=
  fun p l e s m args below meth c G A H locs lsr C hX hA hP hD hS hl => lv_icmp_le C.1 C.2.1 hd ht (fun h => kt h p l e s m args below meth c G A H locs lsr C hX hA hP hD hS hl) (fun h => kf h p l e s m args below meth c G A H locs lsr C hX hA hP hD hS hl)
theorem tq_lookup {dflt : Int} {ps : Array (Int × Int)} {len : Nat} {x : Int32} {off : Int} {tgt : Nat} (hd : decode M.2.1 pc = .ok (.lookupswitch dflt ps, len)) (hp : (ps.toList.zip (ps.toList.drop 1)).all (fun (a, next) => a.1 < next.1) = true) (ho : Op.lookupswitch.offset ps.toList dflt x.toInt = off) (ht : (pc : Int) + off = (tgt : Int)) (k : PAt E M tgt ls st σ) : PAt E M pc ls (.int x :: st) σ :=
  fun p l e s m args below meth c G A H locs lsr C hX hA hP hD hS hl => lv_lookup C.1 C.2.1 hd hp ho ht (k p l e s m args below meth c G A H locs lsr C hX hA hP hD hS hl)
theorem tq_tableOut {dflt lo hi : Int} {offs : Array Int} {len : Nat} {x : Int32} {tgt : Nat} (hd : decode M.2.1 pc = .ok (.tableswitch dflt lo hi offs, len)) (h : x.toInt < lo ∨ hi < x.toInt) (ht : (pc : Int) + dflt = (tgt : Int)) (k : PAt E M tgt ls st σ) : PAt E M pc ls (.int x :: st) σ :=
  fun p l e s m args below meth c G A H locs lsr C hX hA hP hD hS hl => lv_tableOut C.1 C.2.1 hd h ht (k p l e s m args below meth c G A H locs lsr C hX hA hP hD hS hl)
theorem tq_tableIn {dflt lo hi : Int} {offs : Array Int} {len : Nat} {x : Int32} {off : Int} {tgt : Nat} (hd : decode M.2.1 pc = .ok (.tableswitch dflt lo hi offs, len)) (h1 : ¬ x.toInt < lo) (h2 : ¬ hi < x.toInt) (ho : offs[(x.toInt - lo).toNat]? = some off) (ht : (pc : Int) + off = (tgt : Int)) (k : PAt E M tgt ls st σ) : PAt E M pc ls (.int x :: st) σ :=
  fun p l e s m args below meth c G A H locs lsr C hX hA hP hD hS hl => lv_tableIn C.1 C.2.1 hd h1 h2 ho ht (k p l e s m args below meth c G A H locs lsr C hX hA hP hD hS hl)
/-- what is known of a class of the worlds -/
def FC (ci : Nat) (C : String) (T : u_T) (N : Nat) : Prop := vwCl[ci]? = some (C, T, N) ∧ (∀ w ∈ u_ws C T N, w ∈ tblG) ∧ (∃ ty : Nat → FieldType, (∀ k, k < N → parseFieldDescriptor (T k).2.2.1 = some (ty k))) ∧ ∀ a, a < N → ∀ b, b < N → a ≠ b → (T a).2.1 ≠ (T b).2.1
/-- what the entry idx of own's pool says: field k of class ci -/
def FL (own : String) (idx ci k : Nat) (ty : FieldType) (fin : Bool) : Prop := ∃ (C : String) (T : u_T) (N : Nat), FC ci C T N ∧ k < N ∧ Cond.fieldLink own idx (T k).1 (T k).2.1 (T k).2.2.1 ∈ tblG ∧ parseFieldDescriptor (T k).2.2.1 = some ty ∧ (T k).2.2.2 = fin
theorem tq_getI {idx ci j i : Nat} {ty : FieldType} {fin : Bool} {fs : List (Option Nat)} (hd : decode M.2.1 pc = .ok (.getfield idx, 3)) (hf : FL M.1.cls idx ci j ty fin) (hs : SH i = some (.inr (.inr (ci, fs)))) (hk : fs[j]? = some none) (k : PAt E M (pc + 3) ls (.int (σ i j) :: st) σ) : PAt E M pc ls (.ref i :: st) σ := by
  obtain ⟨C0, T, N, ⟨f1, f2, f3, f4⟩, f5, f6, f7, f8⟩ := hf
  exact fun p l e s m args below meth c G A H locs lsr C hX hA hP hD hS hl => va_get C.1 C.2.1 C.2.2.2.2.1 f2 C.2.2.2.1 C.2.2.2.2.2.2.2 hP i (wd_at hs) f1 j f5 (C.2.2.2.2.1 _ f6) (fun _ h => h) (v := .int (σ i j)) (by rw [flds_get, hk]; simp) hd (k p l e s m args below meth c G A H locs lsr C hX hA hP hD hS hl)
theorem tq_getR {idx ci j i q : Nat} {ty : FieldType} {fin : Bool} {fs : List (Option Nat)} (hd : decode M.2.1 pc = .ok (.getfield idx, 3)) (hf : FL M.1.cls idx ci j ty fin) (hs : SH i = some (.inr (.inr (ci, fs)))) (hk : fs[j]? = some (some q)) (k : PAt E M (pc + 3) ls (.ref q :: st) σ) : PAt E M pc ls (.ref i :: st) σ := by
  obtain ⟨C0, T, N, ⟨f1, f2, f3, f4⟩, f5, f6, f7, f8⟩ := hf
  exact fun p l e s m args below meth c G A H locs lsr C hX hA hP hD hS hl => va_get C.1 C.2.1 C.2.2.2.2.1 f2 C.2.2.2.1 C.2.2.2.2.2.2.2 hP i (wd_at hs) f1 j f5 (C.2.2.2.2.1 _ f6) (fun _ h => h) (v := .ref (G.2.2 q)) (by rw [flds_get, hk]; simp) hd (k p l e s m args below meth c G A H locs lsr C hX hA hP hD hS hl)
theorem tq_putI {idx ci j i : Nat} {ty : FieldType} {fs : List (Option Nat)} {v : Int32} (hd : decode M.2.1 pc = .ok (.putfield idx, 3)) (hf : FL M.1.cls idx ci j ty false) (hs : SH i = some (.inr (.inr (ci, fs)))) (hk : fs[j]? = some none) (hn : narrow ty (.int v) = .int v) (hfit : fits ty (.int v) = true) (k : PAt E M (pc + 3) ls st (up σ i j v)) : PAt E M pc ls (.int v :: .ref i :: st) σ := by
  obtain ⟨C0, T, N, ⟨f1, f2, ⟨f3, f3'⟩, f4⟩, f5, f6, f7, f8⟩ := hf
  intro p l e s m args below meth c G A H locs lsr C hX hA hP hD hS hl
  have hset : (wd G σ).set i (G.2.2 i, .inr (ci, (flds G.2.2 (σ i) 0 fs).set j (.int v))) = wd G (up σ i j v) := by
    rw [flds_set _ _ _ _ _ hk]
    exact wd_set hs
  refine va_put C.1 C.2.1 C.2.2.2.2.1 f2 f3 f3' f4 C.2.2.2.1 C.2.2.2.2.2.2.2 hP hD hS i (wd_at hs) f1 j f5 (C.2.2.2.2.1 _ f6) (fun _ h => h) f8 f7 (v := .int v) hn hfit ?_ hd (fun H1 locs1 hP1 hD1 hS1 => ?_)
  · have h1 := flds_get G.2.2 (σ i) fs 0 j
    rw [hk] at h1
    exact (List.getElem?_eq_some_iff.mp h1).1
  · rw [hset] at hP1 hD1
    exact k p l e s m args below meth c G A H1 locs1 lsr C hX hA hP1 hD1 hS1 hl
theorem tq_iald {i n : Nat} {x : Int32} (hd : decode M.2.1 pc = .ok (.iaload, 1)) (hs : SH i = some (.inl (.int, n))) (hin : vp_in x n) (k : PAt E M (pc + 1) ls (.int (σ i x.toNatClampNeg) :: st) σ) : PAt E M pc ls (.int x :: .ref i :: st) σ :=
  fun p l e s m args below meth c G A H locs lsr C hX hA hP hD hS hl => va_iald C.1 C.2.1 C.2.2.2.2.2.2.2 hP i 0 (wd_at hs) rfl hin hd (k p l e s m args below meth c G A H locs lsr C hX hA hP hD hS hl)
theorem tq_zald {i n : Nat} {x : Int32} (hd : decode M.2.1 pc = .ok (.baload, 1)) (hs : SH i = some (.inl (.boolean, n))) (hin : vp_in x n) (k : PAt E M (pc + 1) ls (.int (σ i x.toNatClampNeg) :: st) σ) : PAt E M pc ls (.int x :: .ref i :: st) σ :=
  fun p l e s m args below meth c G A H locs lsr C hX hA hP hD hS hl => va_zald C.1 C.2.1 C.2.2.2.2.2.2.2 hP i 1 (wd_at hs) rfl hin hd (k p l e s m args below meth c G A H locs lsr C hX hA hP hD hS hl)
theorem tq_iast {i n : Nat} {x v : Int32} (hd : decode M.2.1 pc = .ok (.iastore, 1)) (hs : SH i = some (.inl (.int, n))) (hin : vp_in x n) (k : PAt E M (pc + 1) ls st (up σ i x.toNatClampNeg v)) : PAt E M pc ls (.int v :: .int x :: .ref i :: st) σ := by
  intro p l e s m args below meth c G A H locs lsr C hX hA hP hD hS hl
  refine va_iast C.1 C.2.1 C.2.2.2.2.2.2.2 hP hD hS i 0 (wd_at hs) rfl hin hd (fun H1 locs1 hP1 hD1 hS1 => ?_)
  rw [show (wd G σ).set i (G.2.2 i, .inl (G.2.1 .int, n, .inl (upd (σ i) x.toNatClampNeg v))) = wd G (up σ i x.toNatClampNeg v) from wd_set hs] at hP1 hD1
  exact k p l e s m args below meth c G A H1 locs1 lsr C hX hA hP1 hD1 hS1 hl
theorem tq_zast {i n : Nat} {x v : Int32} (hd : decode M.2.1 pc = .ok (.bastore, 1)) (hs : SH i = some (.inl (.boolean, n))) (hin : vp_in x n) (k : PAt E M (pc + 1) ls st (up σ i x.toNatClampNeg (vp_nar .boolean v))) : PAt E M pc ls (.int v :: .int x :: .ref i :: st) σ := by
  intro p l e s m args below meth c G A H locs lsr C hX hA hP hD hS hl
  refine va_zast C.1 C.2.1 C.2.2.2.2.2.2.2 hP hD hS i 1 (wd_at hs) rfl hin hd (fun H1 locs1 hP1 hD1 hS1 => ?_)
  rw [show (wd G σ).set i (G.2.2 i, .inl (G.2.1 .boolean, n, .inl (upd (σ i) x.toNatClampNeg (vp_nar .boolean v)))) = wd G (up σ i x.toNatClampNeg (vp_nar .boolean v)) from wd_set hs] at hP1 hD1
  exact k p l e s m args below meth c G A H1 locs1 lsr C hX hA hP1 hD1 hS1 hl
theorem tq_alen {i n : Nat} {v : Int32} (hd : decode M.2.1 pc = .ok (.arraylength, 1)) (hs : SH i = some (.inl (.int, n))) (hv : Int32.ofNat n = v) (k : PAt E M (pc + 1) ls (.int v :: st) σ) : PAt E M pc ls (.ref i :: st) σ :=
  fun p l e s m args below meth c G A H locs lsr C hX hA hP hD hS hl => va_alen C.1 C.2.1 C.2.2.2.2.2.2.2 hP i 0 (wd_at hs) rfl hv hd (k p l e s m args below meth c G A H locs lsr C hX hA hP hD hS hl)
theorem tq_aaldR {i q : Nat} {rs : List Nat} {x : Int32} (hd : decode M.2.1 pc = .ok (.aaload, 1)) (hs : SH i = some (.inr (.inl (.array .int, rs)))) (hin : vp_in x rs.length) (hq : rs[x.toNatClampNeg]? = some q) (k : PAt E M (pc + 1) ls (.ref q :: st) σ) : PAt E M pc ls (.int x :: .ref i :: st) σ := by
  intro p l e s m args below meth c G A H locs lsr C hX hA hP hD hS hl
  have hlt : x.toNatClampNeg < rs.length := Nat.not_le.mp fun q => hin (Or.inr q)
  refine W.aald (v := .ref (G.2.2 q)) (ty := .array .int) C.1 C.2.1 (hP i _ (wd_at hs)) ((C.2.2.2.2.2.2.2.2 2 _ rfl).1 rs.length (fun j => va_rf ((rs[j]?).map G.2.2))) rfl (fun q => by cases q) (by show ¬ (x < 0 ∨ (arrV _ _ _).slots.size ≤ _); rw [arrV_size]; exact hin) (by show (arrV _ _ _).slots[_]? = _; rw [arrV_read _ _ hlt]; show some (va_rf ((rs[x.toNatClampNeg]?).map G.2.2)) = _; rw [hq]; rfl) rfl rfl hd (k p l e s m args below meth c G A H locs lsr C hX hA hP hD hS hl)
theorem tq_aaldS {i q : Nat} {rs : List Nat} {x : Int32} (hd : decode M.2.1 pc = .ok (.aaload, 1)) (hs : SH i = some (.inr (.inl (.object "ThreeRefusals$Sheet", rs)))) (hin : vp_in x rs.length) (hq : rs[x.toNatClampNeg]? = some q) (k : PAt E M (pc + 1) ls (.ref q :: st) σ) : PAt E M pc ls (.int x :: .ref i :: st) σ := by
  intro p l e s m args below meth c G A H locs lsr C hX hA hP hD hS hl
  have hlt : x.toNatClampNeg < rs.length := Nat.not_le.mp fun q => hin (Or.inr q)
  refine W.aald (v := .ref (G.2.2 q)) (ty := .object "ThreeRefusals$Sheet") C.1 C.2.1 (hP i _ (wd_at hs)) ((C.2.2.2.2.2.2.2.2 3 _ rfl).1 rs.length (fun j => va_rf ((rs[j]?).map G.2.2))) rfl (fun q => by cases q) (by show ¬ (x < 0 ∨ (arrV _ _ _).slots.size ≤ _); rw [arrV_size]; exact hin) (by show (arrV _ _ _).slots[_]? = _; rw [arrV_read _ _ hlt]; show some (va_rf ((rs[x.toNatClampNeg]?).map G.2.2)) = _; rw [hq]; rfl) rfl rfl hd (k p l e s m args below meth c G A H locs lsr C hX hA hP hD hS hl)
theorem tq_max {idx : Nat} {x y : Int32} (hd : decode M.2.1 pc = .ok (.invokestatic idx, 3)) (hlink : Cond.methodLink M.1.cls idx Lib.Math.max.name ∈ tblG) (hstat : Cond.static Lib.Math.max.name ∈ tblG) (hini : Cond.initialized "java/lang/Math" ∈ tblG) (hcode : Cond.code Lib.Math.max.name Lib.Math.max.code 2 (some .int) ∈ tblG) (hfr : 1 ≤ E.1.frames) (hlo : (st.map (fun v => v.category)).sum + 13 ≤ E.1.locals) (hc : E.2.1.1 ≤ E.1.cells) (hs : E.2.1.2 ≤ E.1.slots) (k : PAt E M (pc + 3) ls (.int (if x < y then y else x) :: st) σ) : PAt E M pc ls (.int y :: .int x :: st) σ := by
  intro p l e s m args below meth c G A H locs lsr C hX hA hP hD hS hl
  refine va_mmax C.1 C.2.1 (C.2.2.1.trans hl.1.symm) C.2.2.2.1 (C.2.2.2.2.1 _ hlink) (C.2.2.2.2.1 _ hstat) (C.2.2.2.2.1 _ hini) (C.2.2.2.2.1 _ hcode) hfr ?_ hc hs hd (k p l e s m args below meth c G A H locs lsr C hX hA hP hD hS hl)
  rw [List.map_map, show ((fun v : Value => v.category) ∘ tr G.2.2) = (fun v => v.category) from funext (fun v => tr_cat _ v)]
  exact hlo
theorem tq_copy {idx i j n0 n1 : Nat} {sp dp n : Int32} (hd : decode M.2.1 pc = .ok (.invokestatic idx, 3)) (hlink : Cond.methodLink M.1.cls idx arraycopyName ∈ tblG) (hnat : Cond.native arraycopyName ∈ tblG) (hstat : Cond.static arraycopyName ∈ tblG) (hini : Cond.initialized "java/lang/System" ∈ tblG) (hs0 : SH i = some (.inl (.int, n0))) (hs1 : SH j = some (.inl (.int, n1))) (h1 : ¬ sp < 0) (h2 : ¬ dp < 0) (h3 : ¬ n < 0) (h4 : sp.toNatClampNeg + n.toNatClampNeg ≤ n0) (h5 : dp.toNatClampNeg + n.toNatClampNeg ≤ n1) (hfr : 1 ≤ E.1.frames) (hlo : (st.map (fun v => v.category)).sum + (nativeFrameWords "java/lang/System" "arraycopy" 5 + 11) ≤ E.1.locals) (k : PAt E M (pc + 3) ls st (upR σ j (va_cpy (σ i) (σ j) sp.toNatClampNeg dp.toNatClampNeg n.toNatClampNeg))) : PAt E M pc ls (.int n :: .int dp :: .ref j :: .int sp :: .ref i :: st) σ := by
  intro p l e s m args below meth c G A H locs lsr C hX hA hP hD hS hl
  refine va_copyi C.1 C.2.1 (C.2.2.1.trans hl.1.symm) C.2.2.2.1 (C.2.2.2.2.1 _ hlink) (C.2.2.2.2.1 _ hnat) (C.2.2.2.2.1 _ hstat) (C.2.2.2.2.1 _ hini) C.2.2.2.2.2.2.2 hP hD hS i j 0 0 (wd_at hs0) (wd_at hs1) rfl rfl rfl h1 h2 h3 h4 h5 (fun _ _ => rfl) hfr ?_ hd (fun H1 locs1 hP1 hD1 hS1 => ?_)
  · rw [List.map_map, show ((fun v : Value => v.category) ∘ tr G.2.2) = (fun v => v.category) from funext (fun v => tr_cat _ v)]
    exact hlo
  · rw [show (wd G σ).set j (G.2.2 j, .inl (G.2.1 .int, n1, .inl (va_cpy (σ i) (σ j) sp.toNatClampNeg dp.toNatClampNeg n.toNatClampNeg))) = wd G (upR σ j (va_cpy (σ i) (σ j) sp.toNatClampNeg dp.toNatClampNeg n.toNatClampNeg)) from wd_set hs1] at hP1 hD1
    exact k p l e s m args below meth c G A H1 locs1 lsr C hX hA hP1 hD1 hS1 hl
end TQ
/-! ===== a method's end, its start, its calls ===== -/
section TM
variable {d : Nat} {Post : Option Value → Mem → Prop} {M : MT} {pc : Nat} {ls : List (Nat × Value)} {σ : Mem}
theorem PQ_of {G : GX} {A : Nat → Prop} {s t : State} {H : Heap} {locs : List Loc} {args : Array Value} (r : Option Value) (hp : Post r σ) (hP : va_P G.1 vwCl (wd G σ) H) (hK : KK G s) (hD : va_D A (wd G σ)) (hS : va_S A s.heap H locs) (ht : t.heap = H) (hW : s.WarmedH t.vm) : PQ G A Post args s (.returned (r.map (tr G.2.2))) t :=
  ⟨⟨r, σ, rfl, hp, by rw [ht]; exact hP, va_K.moved hW.alike hK, hD⟩, hS.F ht⟩
theorem tq_iret {v : Int32} (hr : M.2.2.2 = some .int) (hd : decode M.2.1 pc = .ok (.ireturn, 1)) (hp : Post (some (.int v)) σ) : PAt (EM d Post) M pc ls [.int v] σ :=
  fun p l e s m args below meth c G A H locs lsr C hX hA hP hD hS hl => W.iret (v := v) C.1 C.2.1 (C.2.2.2.2.2.1.trans hr) (fun t ht hW => PQ_of (some (.int v)) hp hP C.2.2.2.2.2.2.2 hD hS ht hW) hS.2.2 hd C.2.2.2.2.2.2.1
theorem tq_zret {v : Int32} (hr : M.2.2.2 = some .boolean) (hn : narrow .boolean (.int v) = .int v) (hd : decode M.2.1 pc = .ok (.ireturn, 1)) (hp : Post (some (.int v)) σ) : PAt (EM d Post) M pc ls [.int v] σ :=
  fun p l e s m args below meth c G A H locs lsr C hX hA hP hD hS hl => W.zret (v := v) (ty := .boolean) C.1 C.2.1 (C.2.2.2.2.2.1.trans hr) hn (fun t ht hW => PQ_of (some (.int v)) hp hP C.2.2.2.2.2.2.2 hD hS ht hW) hS.2.2 hd C.2.2.2.2.2.2.1
theorem tq_lret {v : Int64} (hr : M.2.2.2 = some .long) (hd : decode M.2.1 pc = .ok (.lreturn, 1)) (hp : Post (some (.long v)) σ) : PAt (EM d Post) M pc ls [.long v] σ :=
  fun p l e s m args below meth c G A H locs lsr C hX hA hP hD hS hl => W.lret (v := v) C.1 C.2.1 (C.2.2.2.2.2.1.trans hr) (fun t ht hW => PQ_of (some (.long v)) hp hP C.2.2.2.2.2.2.2 hD hS ht hW) hS.2.2 hd C.2.2.2.2.2.2.1
theorem tq_vret (hr : M.2.2.2 = none) (hd : decode M.2.1 pc = .ok (.return_, 1)) (hp : Post none σ) : PAt (EM d Post) M pc ls [] σ :=
  fun p l e s m args below meth c G A H locs lsr C hX hA hP hD hS hl => W.vret C.1 C.2.1 (C.2.2.2.2.2.1.trans hr) (fun t ht hW => PQ_of none hp hP C.2.2.2.2.2.2.2 hD hS ht hW) hS.2.2 hd C.2.2.2.2.2.2.1

/-- answers by kind -/
def Pi (P : Int32 → Mem → Prop) : Option Value → Mem → Prop := fun r σ => ∃ v, r = some (.int v) ∧ P v σ
def Pl (P : Int64 → Mem → Prop) : Option Value → Mem → Prop := fun r σ => ∃ v, r = some (.long v) ∧ P v σ
def Pa (P : Nat → Mem → Prop) : Option Value → Mem → Prop := fun r σ => ∃ v, r = some (.ref v) ∧ P v σ
def Pv (P : Mem → Prop) : Option Value → Mem → Prop := fun r σ => r = none ∧ P σ
theorem tbl_good : ∀ w ∈ tblG, goodWord w = true := fun w h => (List.mem_filter.mp h).2
theorem goodT {ws : List Cond} (h : ∀ w ∈ ws, w ∈ tblG) : GoodIn tblG ws := fun w hw => ⟨h w hw, good_of_word (tbl_good w (h w hw))⟩
/-- a method of ours, as the tables have it: n arguments besides the object -/
def MB (n : Nat) (M : MT) : Prop := Cond.code M.1 M.2.1 M.2.2.1 M.2.2.2 ∈ tblG ∧ Cond.initialized M.1.cls ∈ tblG ∧ (M.1.cls ≠ "java/lang/invoke/MethodHandle" ∧ M.1.cls ≠ "java/lang/invoke/VarHandle") ∧ plainName M.1.cls = true ∧ (parseMethodDescriptor M.1.desc).map (fun d => d.parameters.length) = some n
def MI (n : Nat) (M : MT) : Prop := MB n M ∧ Cond.instanceMethod M.1 ∈ tblG ∧ Cond.selects M.1.cls M.1 M.1 ∈ tblG
def MS (n : Nat) (M : MT) : Prop := MB n M ∧ Cond.static M.1 ∈ tblG
def ML (own : String) (idx : Nat) (M : MT) : Prop := Cond.methodLink own idx M.1 ∈ tblG
theorem lv_args_T (ad : Nat → Nat) : ∀ (i : Nat) (vs : List Value), lv_args i (vs.map (tr ad)) = lsT ad (lv_args i vs)
  | _, [] => rfl
  | i, v :: vs => by
    simp only [List.map_cons, lv_args, tr_cat]
    rw [lv_args_T ad _ vs]
    rfl
theorem lg_sl_T (ad : Nat → Nat) : ∀ vs : List Value, (lg_sl (vs.map (tr ad))).length = (lg_sl vs).length
  | [] => rfl
  | v :: vs => by
    have h := lg_sl_T ad vs
    unfold lg_sl at h ⊢
    simp only [List.map_cons, List.flatMap_cons, List.length_append, tr_cat] at h ⊢
    rw [h]
    split <;> rfl
theorem wd_addr {G : GX} {σ : Mem} {k : Nat} {q : Nat × va_E} (h : (wd G σ)[k]? = some q) : ∃ i, i < NC ∧ q.1 = G.2.2 i := by
  unfold wd at h
  rw [List.getElem?_map] at h
  by_cases hk : k < NC
  · rw [List.getElem?_range hk] at h
    cases h
    exact ⟨k, hk, rfl⟩
  · rw [List.getElem?_eq_none (by simpa using hk)] at h
    cases h
theorem wd_at2 {G : GX} {σ : Mem} {i : Nat} (hi : i < NC) : (wd G σ)[i]? = some (G.2.2 i, cellOf G (σ i) i) := by
  unfold wd
  rw [List.getElem?_map, List.getElem?_range hi, Option.map_some]
/-- a contract by a walk -/
theorem PMet.start (ls0 : List (Nat × Value)) {as : List Value} {n : Nat} (hM : MB n M) (hn : (lg_sl as).length ≤ M.2.2.1) (h0 : lv_args 0 as = ls0) (k : PAt (EM d Post) M 0 ls0 [] σ) : PMet d M as σ Post := by
  subst h0
  intro l G sz
  refine Met.ofW (cc := M.2.1) (maxL := M.2.2.1) (ret := M.2.2.2) hM.2.2.2.1 rfl ?_
  intro p e s m args below meth c s₁ B hml hv
  obtain ⟨rfl, hsz, hP, hK, hD0⟩ := hv
  subst hsz
  have hts := atoms_spec (ws := wsM M) B.pre
  have hD : va_D (Adr G s.heap.size) (wd G σ) := ⟨hD0.1, fun k q hk => Or.inl (wd_addr hk)⟩
  have hl := lv_entry (as.map (tr G.2.2)) (n := M.2.2.1) (by rw [lg_sl_T]; exact hn)
  rw [lv_args_T] at hl
  rw [lg_entry_eq]
  exact k p l e s m _ below meth c G (Adr G s.heap.size) s.heap [] _ ⟨B.exec, B.bytes, hml, findClass_of_methodNamed B.named, fun w hw => hts w (List.mem_cons_of_mem _ hw), B.returns, B.notSynchronized, hK⟩ trivial (fun q h => Or.inr h) hP hD va_S.rf hl
theorem Pst_blind (G : GX) (σ : Mem) (sz : Nat) (av : List Value) : FrameBlind (va_Pc av (Pst G σ sz)) := fun a U g mk q => by
  obtain ⟨q0, q1, qP, qK, qD⟩ := q
  exact ⟨q0, q1, qP, va_K.moved (u := U) (U := U.calling g mk a) (Vm.Alike.refl U.vm) qK, qD⟩
end TM
section TC
variable {E : ET} {M M2 : MT} {pc idx d i n : Nat} {ls : List (Nat × Value)} {st As rest : List Value} {σ : Mem} {Post : Option Value → Mem → Prop}
theorem Adr_in {G : GX} {A : Nat → Prop} {s : State} {H : Heap} {locs : List Loc} (hA : ∀ q : Nat, s.heap.size ≤ q → A q) (hD : va_D A (wd G σ)) (hS : va_S A s.heap H locs) : ∀ q, Adr G H.size q → A q := by
  intro q h
  rcases h with ⟨i, hi, rfl⟩ | h
  · exact hD.2 i _ (wd_at2 hi)
  · exact hA q (Nat.le_trans hS.1 h)
/-- behind a call -/
theorem tq_run {p : Program} {l : Launch} {e : Env} {s : State} {m : MethodId} {args : Array Value} {below : List Frame} {meth : Method} {c : Code} {G : GX} {A : Nat → Prop} {H : Heap} {locs : List Loc} {lsr : Array Slot} {R : Room} {cells slots : Nat} {Q : State → Prop} {st0 rest : List Value} {a : Array Value}
    (hr : va_Run p l e R s m args below meth c H locs cells slots 0 0 (F0 m pc lsr st0) rest (PQ G (Adr G H.size) Post a) (Adr G H.size))
    (hA : ∀ q : Nat, s.heap.size ≤ q → A q) (hD : va_D A (wd G σ)) (hS : va_S A s.heap H locs)
    (kk : ∀ (r : Option Value) (σ' : Mem) (H1 : Heap) (locs1 : List Loc), Post r σ' → va_P G.1 vwCl (wd G σ') H1 → va_D A (wd G σ') → va_S A s.heap H1 locs1 → W p l e R s m args below meth c H1 locs1 cells slots Q (F0 m (pc + 3) lsr ((r.map (tr G.2.2)).toList ++ rest))) :
    W p l e R s m args below meth c H locs cells slots Q (F0 m pc lsr st0) := by
  have hf := Adr_in (σ := σ) hA hD hS
  intro T hT X
  obtain ⟨v, st₀, t, T', L, h0, X', hL, e1, e2, ⟨⟨r, σ', hv, hp, hP1, hK1, hD1⟩, hz, hk⟩, stp⟩ := hr T hT X
  cases hv
  rw [h0] at hz hk
  obtain ⟨t2, a1, b1⟩ := kk r σ' T'.heap (locs ++ L) hp (by rw [e1]; exact hP1) (hD1.weaken (fun k q _ h => hf q.1 h))
    ⟨Nat.le_trans hS.1 (by rw [e1]; exact hz), fun q h1 h2 => by rw [e1, hk q (Nat.lt_of_lt_of_le h1 hS.1) (fun z => h2 (hf q z))]; exact hS.2.1 q h1 h2, fun q hq => by
      rcases List.mem_append.mp hq with h | h
      · exact hS.2.2 q h
      · exact hf _ (hL q h)⟩ T' rfl X'
  exact ⟨t2, stp t2 a1, b1⟩
theorem roomT {ad : Nat → Nat} {rest : List Value} (h : (rest.map (fun v => v.category)).sum ≤ 8) : ((rest.map (tr ad)).map (fun v => v.category)).sum ≤ 8 := by
  rw [List.map_map, show ((fun v : Value => v.category) ∘ tr ad) = (fun v => v.category) from funext (fun v => tr_cat _ v)]
  exact h
theorem st_T {ad : Nat → Nat} (o : List Value) (h : st = As.reverse ++ (o ++ rest)) : st.map (tr ad) = (As.map (tr ad)).reverse ++ (o.map (tr ad) ++ rest.map (tr ad)) := by
  rw [h]; simp
theorem tq_callV {ci N : Nat} {T : u_T} {fs : List (Option Nat)} (hd : decode M.2.1 pc = .ok (.invokevirtual idx, 3)) (hli : ML M.1.cls idx M2) (hMI : MI n M2) (hM : PMet d M2 (.ref i :: As) σ Post) (hs : SH i = some (.inr (.inr (ci, fs)))) (hc : vwCl[ci]? = some (M2.1.cls, T, N)) (hn : As.length = n) (hst : st = As.reverse ++ ([.ref i] ++ rest)) (hW : (rest.map (fun v => v.category)).sum ≤ 8) (hfr : d + 1 ≤ E.1.frames) (hlo : 8 + (M2.2.2.1 + 11) + 40 * d ≤ E.1.locals) (hcs : E.2.1.1 ≤ E.1.cells ∧ E.2.1.2 ≤ E.1.slots)
    (kk : ∀ (r : Option Value) (σ' : Mem), Post r σ' → PAt E M (pc + 3) ls (r.toList ++ rest) σ') : PAt E M pc ls st σ := by
  intro p l e s m args below meth c G A H locs lsr C hX hA hP hD hS hl
  obtain ⟨⟨m1, m2, m3, m4, m5⟩, m6, m7⟩ := hMI
  have hG : GoodIn tblG (wsV M.1.cls idx M2.1.cls M2.1 (wsM M2)) := goodT (fun w hw => by
    unfold wsV wsM at hw
    simp only [List.cons_append, List.nil_append, List.mem_cons] at hw
    rcases hw with rfl | rfl | rfl | rfl | rfl | hw
    · exact hli
    · exact m6
    · exact m7
    · exact m2
    · exact m1
    · exact hw)
  have hD1 : va_D (fun _ : Nat => True) (wd G σ) := ⟨hD.1, fun _ _ _ => trivial⟩
  refine tq_run (σ := σ) (rest := rest.map (tr G.2.2)) (Post := Post) (a := (Value.ref (G.2.2 i) :: As.map (tr G.2.2)).toArray) (va_runV (As := As.map (tr G.2.2)) (rest := rest.map (tr G.2.2)) (b := G.2.2 i) (mc := 0) (ms := 0) ⟨C.1, C.2.1, C.2.2.1, C.2.2.2.1, C.2.2.2.2.1⟩ (hM l G H.size) (cwV n C.2.2.2.2.1 hG rfl rfl rfl ⟨rfl, m3.1, m3.2, m5⟩ ⟨hfr, hlo⟩) ⟨Pst_blind G σ H.size _, va_recv C.2.2.2.2.2.2.2 hP hc (wd_at hs), fun U hU hW2 => ⟨rfl, by rw [hU], by rw [hU]; exact hP, va_K.moved hW2.alike C.2.2.2.2.2.2.2, hD1⟩⟩ rfl (by rw [List.length_map]; exact hn) hl.1 (st_T [.ref i] hst) (lv_room (ls := lsr) (pc := pc) (m := m) (rest := []) (roomT hW)) hd ⟨hcs.1, hcs.2⟩) hA hD hS (fun r σ' H1 locs1 hp hP1 hD1 hS1 => ?_)
  have h := kk r σ' hp p l e s m args below meth c G A H1 locs1 lsr C hX hA hP1 hD1 hS1 hl
  rw [List.map_append, show r.toList.map (tr G.2.2) = (r.map (tr G.2.2)).toList by cases r <;> rfl] at h
  exact h
theorem tq_callS (hd : decode M.2.1 pc = .ok (.invokestatic idx, 3)) (hli : ML M.1.cls idx M2) (hMS : MS n M2) (hM : PMet d M2 As σ Post) (hn : As.length = n) (hst : st = As.reverse ++ ([] ++ rest)) (hW : (rest.map (fun v => v.category)).sum ≤ 8) (hfr : d + 1 ≤ E.1.frames) (hlo : 8 + (M2.2.2.1 + 11) + 40 * d ≤ E.1.locals) (hcs : E.2.1.1 ≤ E.1.cells ∧ E.2.1.2 ≤ E.1.slots)
    (kk : ∀ (r : Option Value) (σ' : Mem), Post r σ' → PAt E M (pc + 3) ls (r.toList ++ rest) σ') : PAt E M pc ls st σ := by
  intro p l e s m args below meth c G A H locs lsr C hX hA hP hD hS hl
  obtain ⟨⟨m1, m2, m3, m4, m5⟩, m6⟩ := hMS
  have hG : GoodIn tblG (va_wsS M.1.cls idx M2.1 (wsM M2)) := goodT (fun w hw => by
    unfold va_wsS wsM at hw
    simp only [List.cons_append, List.nil_append, List.mem_cons] at hw
    rcases hw with rfl | rfl | rfl | rfl | hw
    · exact hli
    · exact m6
    · exact m2
    · exact m1
    · exact hw)
  have hD1 : va_D (fun _ : Nat => True) (wd G σ) := ⟨hD.1, fun _ _ _ => trivial⟩
  refine tq_run (σ := σ) (rest := rest.map (tr G.2.2)) (Post := Post) (a := (As.map (tr G.2.2)).toArray) (va_runS (As := As.map (tr G.2.2)) (rest := rest.map (tr G.2.2)) (mc := 0) (ms := 0) ⟨C.1, C.2.1, C.2.2.1, C.2.2.2.1, C.2.2.2.2.1⟩ (hM l G H.size) (va_cwS n C.2.2.2.2.1 hG rfl rfl rfl ⟨m3.1, m3.2, m5⟩ ⟨hfr, hlo⟩) ⟨Pst_blind G σ H.size _, fun U hU hW2 => ⟨rfl, by rw [hU], by rw [hU]; exact hP, va_K.moved hW2.alike C.2.2.2.2.2.2.2, hD1⟩⟩ rfl (by rw [List.length_map]; exact hn) hl.1 (st_T [] hst) (lv_room (ls := lsr) (pc := pc) (m := m) (rest := []) (roomT hW)) hd ⟨hcs.1, hcs.2⟩) hA hD hS (fun r σ' H1 locs1 hp hP1 hD1 hS1 => ?_)
  have h := kk r σ' hp p l e s m args below meth c G A H1 locs1 lsr C hX hA hP1 hD1 hS1 hl
  rw [List.map_append, show r.toList.map (tr G.2.2) = (r.map (tr G.2.2)).toList by cases r <;> rfl] at h
  exact h
theorem tq_callVi {P : Int32 → Mem → Prop} {ci N : Nat} {T : u_T} {fs : List (Option Nat)} (hd : decode M.2.1 pc = .ok (.invokevirtual idx, 3)) (hli : ML M.1.cls idx M2) (hMI : MI n M2) (hM : PMet d M2 (.ref i :: As) σ (Pi P)) (hs : SH i = some (.inr (.inr (ci, fs)))) (hc : vwCl[ci]? = some (M2.1.cls, T, N)) (hn : As.length = n) (hst : st = As.reverse ++ ([.ref i] ++ rest)) (hW : (rest.map (fun v => v.category)).sum ≤ 8) (hfr : d + 1 ≤ E.1.frames) (hlo : 8 + (M2.2.2.1 + 11) + 40 * d ≤ E.1.locals) (hcs : E.2.1.1 ≤ E.1.cells ∧ E.2.1.2 ≤ E.1.slots)
    (kk : ∀ (v : Int32) (σ' : Mem), P v σ' → PAt E M (pc + 3) ls (.int v :: rest) σ') : PAt E M pc ls st σ :=
  tq_callV hd hli hMI hM hs hc hn hst hW hfr hlo hcs (fun r σ' h => by obtain ⟨v, rfl, h⟩ := h; exact kk v σ' h)
theorem tq_callSi {P : Int32 → Mem → Prop} (hd : decode M.2.1 pc = .ok (.invokestatic idx, 3)) (hli : ML M.1.cls idx M2) (hMS : MS n M2) (hM : PMet d M2 As σ (Pi P)) (hn : As.length = n) (hst : st = As.reverse ++ ([] ++ rest)) (hW : (rest.map (fun v => v.category)).sum ≤ 8) (hfr : d + 1 ≤ E.1.frames) (hlo : 8 + (M2.2.2.1 + 11) + 40 * d ≤ E.1.locals) (hcs : E.2.1.1 ≤ E.1.cells ∧ E.2.1.2 ≤ E.1.slots)
    (kk : ∀ (v : Int32) (σ' : Mem), P v σ' → PAt E M (pc + 3) ls (.int v :: rest) σ') : PAt E M pc ls st σ :=
  tq_callS hd hli hMS hM hn hst hW hfr hlo hcs (fun r σ' h => by obtain ⟨v, rfl, h⟩ := h; exact kk v σ' h)
theorem tq_callVl {P : Int64 → Mem → Prop} {ci N : Nat} {T : u_T} {fs : List (Option Nat)} (hd : decode M.2.1 pc = .ok (.invokevirtual idx, 3)) (hli : ML M.1.cls idx M2) (hMI : MI n M2) (hM : PMet d M2 (.ref i :: As) σ (Pl P)) (hs : SH i = some (.inr (.inr (ci, fs)))) (hc : vwCl[ci]? = some (M2.1.cls, T, N)) (hn : As.length = n) (hst : st = As.reverse ++ ([.ref i] ++ rest)) (hW : (rest.map (fun v => v.category)).sum ≤ 8) (hfr : d + 1 ≤ E.1.frames) (hlo : 8 + (M2.2.2.1 + 11) + 40 * d ≤ E.1.locals) (hcs : E.2.1.1 ≤ E.1.cells ∧ E.2.1.2 ≤ E.1.slots)
    (kk : ∀ (v : Int64) (σ' : Mem), P v σ' → PAt E M (pc + 3) ls (.long v :: rest) σ') : PAt E M pc ls st σ :=
  tq_callV hd hli hMI hM hs hc hn hst hW hfr hlo hcs (fun r σ' h => by obtain ⟨v, rfl, h⟩ := h; exact kk v σ' h)
theorem tq_callSl {P : Int64 → Mem → Prop} (hd : decode M.2.1 pc = .ok (.invokestatic idx, 3)) (hli : ML M.1.cls idx M2) (hMS : MS n M2) (hM : PMet d M2 As σ (Pl P)) (hn : As.length = n) (hst : st = As.reverse ++ ([] ++ rest)) (hW : (rest.map (fun v => v.category)).sum ≤ 8) (hfr : d + 1 ≤ E.1.frames) (hlo : 8 + (M2.2.2.1 + 11) + 40 * d ≤ E.1.locals) (hcs : E.2.1.1 ≤ E.1.cells ∧ E.2.1.2 ≤ E.1.slots)
    (kk : ∀ (v : Int64) (σ' : Mem), P v σ' → PAt E M (pc + 3) ls (.long v :: rest) σ') : PAt E M pc ls st σ :=
  tq_callS hd hli hMS hM hn hst hW hfr hlo hcs (fun r σ' h => by obtain ⟨v, rfl, h⟩ := h; exact kk v σ' h)
theorem tq_callVa {P : Nat → Mem → Prop} {ci N : Nat} {T : u_T} {fs : List (Option Nat)} (hd : decode M.2.1 pc = .ok (.invokevirtual idx, 3)) (hli : ML M.1.cls idx M2) (hMI : MI n M2) (hM : PMet d M2 (.ref i :: As) σ (Pa P)) (hs : SH i = some (.inr (.inr (ci, fs)))) (hc : vwCl[ci]? = some (M2.1.cls, T, N)) (hn : As.length = n) (hst : st = As.reverse ++ ([.ref i] ++ rest)) (hW : (rest.map (fun v => v.category)).sum ≤ 8) (hfr : d + 1 ≤ E.1.frames) (hlo : 8 + (M2.2.2.1 + 11) + 40 * d ≤ E.1.locals) (hcs : E.2.1.1 ≤ E.1.cells ∧ E.2.1.2 ≤ E.1.slots)
    (kk : ∀ (v : Nat) (σ' : Mem), P v σ' → PAt E M (pc + 3) ls (.ref v :: rest) σ') : PAt E M pc ls st σ :=
  tq_callV hd hli hMI hM hs hc hn hst hW hfr hlo hcs (fun r σ' h => by obtain ⟨v, rfl, h⟩ := h; exact kk v σ' h)
theorem tq_callSa {P : Nat → Mem → Prop} (hd : decode M.2.1 pc = .ok (.invokestatic idx, 3)) (hli : ML M.1.cls idx M2) (hMS : MS n M2) (hM : PMet d M2 As σ (Pa P)) (hn : As.length = n) (hst : st = As.reverse ++ ([] ++ rest)) (hW : (rest.map (fun v => v.category)).sum ≤ 8) (hfr : d + 1 ≤ E.1.frames) (hlo : 8 + (M2.2.2.1 + 11) + 40 * d ≤ E.1.locals) (hcs : E.2.1.1 ≤ E.1.cells ∧ E.2.1.2 ≤ E.1.slots)
    (kk : ∀ (v : Nat) (σ' : Mem), P v σ' → PAt E M (pc + 3) ls (.ref v :: rest) σ') : PAt E M pc ls st σ :=
  tq_callS hd hli hMS hM hn hst hW hfr hlo hcs (fun r σ' h => by obtain ⟨v, rfl, h⟩ := h; exact kk v σ' h)
theorem tq_callVv {P : Mem → Prop} {ci N : Nat} {T : u_T} {fs : List (Option Nat)} (hd : decode M.2.1 pc = .ok (.invokevirtual idx, 3)) (hli : ML M.1.cls idx M2) (hMI : MI n M2) (hM : PMet d M2 (.ref i :: As) σ (Pv P)) (hs : SH i = some (.inr (.inr (ci, fs)))) (hc : vwCl[ci]? = some (M2.1.cls, T, N)) (hn : As.length = n) (hst : st = As.reverse ++ ([.ref i] ++ rest)) (hW : (rest.map (fun v => v.category)).sum ≤ 8) (hfr : d + 1 ≤ E.1.frames) (hlo : 8 + (M2.2.2.1 + 11) + 40 * d ≤ E.1.locals) (hcs : E.2.1.1 ≤ E.1.cells ∧ E.2.1.2 ≤ E.1.slots)
    (kk : ∀ (σ' : Mem), P σ' → PAt E M (pc + 3) ls rest σ') : PAt E M pc ls st σ :=
  tq_callV hd hli hMI hM hs hc hn hst hW hfr hlo hcs (fun r σ' h => by obtain ⟨rfl, h⟩ := h; exact kk σ' h)
theorem tq_callSv {P : Mem → Prop} (hd : decode M.2.1 pc = .ok (.invokestatic idx, 3)) (hli : ML M.1.cls idx M2) (hMS : MS n M2) (hM : PMet d M2 As σ (Pv P)) (hn : As.length = n) (hst : st = As.reverse ++ ([] ++ rest)) (hW : (rest.map (fun v => v.category)).sum ≤ 8) (hfr : d + 1 ≤ E.1.frames) (hlo : 8 + (M2.2.2.1 + 11) + 40 * d ≤ E.1.locals) (hcs : E.2.1.1 ≤ E.1.cells ∧ E.2.1.2 ≤ E.1.slots)
    (kk : ∀ (σ' : Mem), P σ' → PAt E M (pc + 3) ls rest σ') : PAt E M pc ls st σ :=
  tq_callS hd hli hMS hM hn hst hW hfr hlo hcs (fun r σ' h => by obtain ⟨rfl, h⟩ := h; exact kk σ' h)
end TC
theorem PMet.weaken {d : Nat} {M : MT} {as : List Value} {σ : Mem} {P Q : Option Value → Mem → Prop} (h : PMet d M as σ P) (hPQ : ∀ r σ', P r σ' → Q r σ') : PMet d M as σ Q := fun l G sz =>
  MetFree.mono (h l G sz) (fun _ _ hp => hp) (fun _ _ _ _ _ hk => hk) (fun a st o t _ hq => ⟨by
    obtain ⟨⟨⟨r, σ', h1, h2, h3⟩, h4⟩, h5⟩ := hq
    exact ⟨⟨r, σ', h1, hPQ r σ' h2, h3⟩, h4⟩, hq.2⟩)
end
section
def dall (cc : ByteArray) (tb : List (Nat × Instr × Nat)) : Bool := tb.all (fun q => decide (decode cc q.1 = .ok q.2))
theorem dget {cc : ByteArray} {tb : List (Nat × Instr × Nat)} (h : dall cc tb = true) (i : Nat) {pc : Nat} {q : Instr × Nat} (hi : tb[i]? = some (pc, q)) : decode cc pc = .ok q := by
  unfold dall at h
  have h1 := List.all_eq_true.mp h (pc, q) (List.mem_of_getElem? hi)
  exact of_decide_eq_true (p := decode cc pc = .ok q) h1
theorem tblG_1 {w : Cond} (i : Nat) (h : tables_1_1[i]? = some w) (hg : goodWord w = true) : w ∈ tblG := List.mem_filter.mpr ⟨List.mem_append_right _ (List.mem_append_left _ (List.mem_of_getElem? h)), hg⟩
theorem tblG_2 {w : Cond} (i : Nat) (h : tables_1_2[i]? = some w) (hg : goodWord w = true) : w ∈ tblG := List.mem_filter.mpr ⟨List.mem_append_right _ (List.mem_append_right _ (List.mem_append_left _ (List.mem_of_getElem? h))), hg⟩
theorem tblG_3 {w : Cond} (i : Nat) (h : tables_1_3[i]? = some w) (hg : goodWord w = true) : w ∈ tblG := List.mem_filter.mpr ⟨List.mem_append_right _ (List.mem_append_right _ (List.mem_append_right _ (List.mem_append_left _ (List.mem_of_getElem? h)))), hg⟩
theorem tblG_4 {w : Cond} (i : Nat) (h : tables_1_4[i]? = some w) (hg : goodWord w = true) : w ∈ tblG := List.mem_filter.mpr ⟨List.mem_append_right _ (List.mem_append_right _ (List.mem_append_right _ (List.mem_append_right _ (List.mem_of_getElem? h)))), hg⟩
theorem tblG_s {w : Cond} (i : Nat) (h : (k2_sels lw_privs)[i]? = some w) (hg : goodWord w = true) : w ∈ tblG := List.mem_filter.mpr ⟨List.mem_append_left _ (List.mem_of_getElem? h), hg⟩
set_option maxRecDepth 20000
def KC (C : String) : Prop := Cond.initialized C ∈ tblG ∧ (C ≠ "java/lang/invoke/MethodHandle" ∧ C ≠ "java/lang/invoke/VarHandle") ∧ plainName C = true
theorem fcOf {ws : List Cond} (h : ws.all (fun w => decide (w ∈ tblG)) = true) : ∀ w ∈ ws, w ∈ tblG := fun w hw => of_decide_eq_true (p := w ∈ tblG) (List.all_eq_true.mp h w hw)
theorem kcX0 : KC RX0 := ⟨tblG_1 4 rfl rfl, ⟨by decide, by decide⟩, by decide +kernel⟩
theorem kcX1 : KC RX1 := ⟨tblG_1 6 rfl rfl, ⟨by decide, by decide⟩, by decide +kernel⟩
theorem kcX2 : KC RX2 := ⟨tblG_1 3 rfl rfl, ⟨by decide, by decide⟩, by decide +kernel⟩
theorem kcX3 : KC RX3 := ⟨tblG_1 5 rfl rfl, ⟨by decide, by decide⟩, by decide +kernel⟩
theorem kcX4 : KC RX4 := ⟨tblG_1 7 rfl rfl, ⟨by decide, by decide⟩, by decide +kernel⟩
theorem kcX5 : KC RX5 := ⟨tblG_1 10 rfl rfl, ⟨by decide, by decide⟩, by decide +kernel⟩
theorem kcX6 : KC RX6 := ⟨tblG_1 2 rfl rfl, ⟨by decide, by decide⟩, by decide +kernel⟩
theorem kcX7 : KC RX7 := ⟨tblG_1 1 rfl rfl, ⟨by decide, by decide⟩, by decide +kernel⟩
theorem kcX8 : KC RX8 := ⟨tblG_1 8 rfl rfl, ⟨by decide, by decide⟩, by decide +kernel⟩
theorem kcJ6 : KC RJ6 := ⟨tblG_1 13 rfl rfl, ⟨by decide, by decide⟩, by decide +kernel⟩
theorem kcJ7 : KC RJ7 := ⟨tblG_1 11 rfl rfl, ⟨by decide, by decide⟩, by decide +kernel⟩
theorem fc0 : FC 0 RX0 TX0 3 := ⟨rfl, fcOf (by decide +kernel), ⟨tyX0, tyX0_ok⟩, nmX0⟩
theorem fc1 : FC 1 RX1 TX1 3 := ⟨rfl, fcOf (by decide +kernel), ⟨tyX1, tyX1_ok⟩, nmX1⟩
theorem fc2 : FC 2 RX2 TX2 5 := ⟨rfl, fcOf (by decide +kernel), ⟨tyX2, tyX2_ok⟩, nmX2⟩
theorem fc3 : FC 3 RX3 TX3 5 := ⟨rfl, fcOf (by decide +kernel), ⟨tyX3, tyX3_ok⟩, nmX3⟩
theorem fc4 : FC 4 RX4 TX4 4 := ⟨rfl, fcOf (by decide +kernel), ⟨tyX4, tyX4_ok⟩, nmX4⟩
theorem fc6 : FC 5 RX6 TX6 6 := ⟨rfl, fcOf (by decide +kernel), ⟨tyX6, tyX6_ok⟩, nmX6⟩
theorem fc7 : FC 6 RX7 TX7 8 := ⟨rfl, fcOf (by decide +kernel), ⟨tyX7, tyX7_ok⟩, nmX7⟩
theorem fc8 : FC 7 RX8 TX8 30 := ⟨rfl, fcOf (by decide +kernel), ⟨tyX8, tyX8_ok⟩, nmX8⟩
theorem fX7_12 : FL RX7 12 6 0 (.object "ThreeRefusals$Valley") true := ⟨RX7, TX7, 8, fc7, by decide, tblG_1 176 rfl rfl, rfl, rfl⟩
theorem fX7_21 : FL RX7 21 6 1 (.object "ThreeRefusals$Offers") true := ⟨RX7, TX7, 8, fc7, by decide, tblG_1 177 rfl rfl, rfl, rfl⟩
theorem fX7_28 : FL RX7 28 6 2 (.object "ThreeRefusals$Readings") true := ⟨RX7, TX7, 8, fc7, by decide, tblG_1 178 rfl rfl, rfl, rfl⟩
theorem fX7_35 : FL RX7 35 6 3 (.object "ThreeRefusals$Matches") true := ⟨RX7, TX7, 8, fc7, by decide, tblG_1 179 rfl rfl, rfl, rfl⟩
theorem fX7_41 : FL RX7 41 6 4 (.array (.object "ThreeRefusals$Sheet")) true := ⟨RX7, TX7, 8, fc7, by decide, tblG_1 180 rfl rfl, rfl, rfl⟩
theorem fX7_45 : FL RX7 45 6 5 (.array .int) true := ⟨RX7, TX7, 8, fc7, by decide, tblG_1 181 rfl rfl, rfl, rfl⟩
theorem fX7_85 : FL RX7 85 3 4 .int false := ⟨RX3, TX3, 5, fc3, by decide, tblG_1 121 rfl rfl, rfl, rfl⟩
theorem fX7_89 : FL RX7 89 5 1 .int false := ⟨RX6, TX6, 6, fc6, by decide, tblG_1 35 rfl rfl, rfl, rfl⟩
theorem fX7_109 : FL RX7 109 2 3 (.object "ThreeRefusals$Days") true := ⟨RX2, TX2, 5, fc2, by decide, tblG_1 96 rfl rfl, rfl, rfl⟩
theorem fX7_113 : FL RX7 113 0 0 (.array .int) true := ⟨RX0, TX0, 3, fc0, by decide, tblG_1 77 rfl rfl, rfl, rfl⟩
theorem fX7_118 : FL RX7 118 0 1 (.array .int) true := ⟨RX0, TX0, 3, fc0, by decide, tblG_1 80 rfl rfl, rfl, rfl⟩
theorem fX7_121 : FL RX7 121 5 3 (.array .int) true := ⟨RX6, TX6, 6, fc6, by decide, tblG_1 41 rfl rfl, rfl, rfl⟩
theorem fX7_132 : FL RX7 132 5 2 .int false := ⟨RX6, TX6, 6, fc6, by decide, tblG_1 39 rfl rfl, rfl, rfl⟩
theorem fX7_135 : FL RX7 135 2 4 .int false := ⟨RX2, TX2, 5, fc2, by decide, tblG_1 98 rfl rfl, rfl, rfl⟩
theorem fX7_140 : FL RX7 140 2 2 (.array .int) true := ⟨RX2, TX2, 5, fc2, by decide, tblG_1 94 rfl rfl, rfl, rfl⟩
theorem fX7_145 : FL RX7 145 5 0 .int false := ⟨RX6, TX6, 6, fc6, by decide, tblG_1 33 rfl rfl, rfl, rfl⟩
theorem fX7_150 : FL RX7 150 0 2 (.array .int) true := ⟨RX0, TX0, 3, fc0, by decide, tblG_1 83 rfl rfl, rfl, rfl⟩
theorem fX7_174 : FL RX7 174 1 1 (.array .int) true := ⟨RX1, TX1, 3, fc1, by decide, tblG_1 144 rfl rfl, rfl, rfl⟩
theorem fX7_206 : FL RX7 206 4 1 .boolean false := ⟨RX4, TX4, 4, fc4, by decide, tblG_1 163 rfl rfl, rfl, rfl⟩
theorem fX7_223 : FL RX7 223 6 7 .int false := ⟨RX7, TX7, 8, fc7, by decide, tblG_1 183 rfl rfl, rfl, rfl⟩
theorem fX7_226 : FL RX7 226 4 0 (.array .int) true := ⟨RX4, TX4, 4, fc4, by decide, tblG_1 161 rfl rfl, rfl, rfl⟩
theorem fX7_229 : FL RX7 229 4 2 .int false := ⟨RX4, TX4, 4, fc4, by decide, tblG_1 165 rfl rfl, rfl, rfl⟩
theorem fX7_258 : FL RX7 258 6 6 .int false := ⟨RX7, TX7, 8, fc7, by decide, tblG_1 182 rfl rfl, rfl, rfl⟩
theorem fX7_261 : FL RX7 261 5 4 (.array (.array .int)) true := ⟨RX6, TX6, 6, fc6, by decide, tblG_1 46 rfl rfl, rfl, rfl⟩
theorem fX7_265 : FL RX7 265 5 5 (.array (.array .int)) true := ⟨RX6, TX6, 6, fc6, by decide, tblG_1 49 rfl rfl, rfl, rfl⟩
theorem fX0_9 : FL RX0 9 0 0 (.array .int) true := ⟨RX0, TX0, 3, fc0, by decide, tblG_1 76 rfl rfl, rfl, rfl⟩
theorem fX0_15 : FL RX0 15 0 1 (.array .int) true := ⟨RX0, TX0, 3, fc0, by decide, tblG_1 78 rfl rfl, rfl, rfl⟩
theorem fX0_18 : FL RX0 18 0 2 (.array .int) true := ⟨RX0, TX0, 3, fc0, by decide, tblG_1 81 rfl rfl, rfl, rfl⟩
theorem fX0_40 : FL RX0 40 5 0 .int false := ⟨RX6, TX6, 6, fc6, by decide, tblG_1 32 rfl rfl, rfl, rfl⟩
theorem fX0_44 : FL RX0 44 5 1 .int false := ⟨RX6, TX6, 6, fc6, by decide, tblG_1 37 rfl rfl, rfl, rfl⟩
theorem fX0_51 : FL RX0 51 5 5 (.array (.array .int)) true := ⟨RX6, TX6, 6, fc6, by decide, tblG_1 48 rfl rfl, rfl, rfl⟩
theorem fX0_55 : FL RX0 55 5 4 (.array (.array .int)) true := ⟨RX6, TX6, 6, fc6, by decide, tblG_1 45 rfl rfl, rfl, rfl⟩
theorem fX1_12 : FL RX1 12 1 0 (.object "ThreeRefusals$Days") true := ⟨RX1, TX1, 3, fc1, by decide, tblG_1 142 rfl rfl, rfl, rfl⟩
theorem fX1_18 : FL RX1 18 1 1 (.array .int) true := ⟨RX1, TX1, 3, fc1, by decide, tblG_1 143 rfl rfl, rfl, rfl⟩
theorem fX1_25 : FL RX1 25 1 2 .int false := ⟨RX1, TX1, 3, fc1, by decide, tblG_1 145 rfl rfl, rfl, rfl⟩
theorem fX1_37 : FL RX1 37 5 0 .int false := ⟨RX6, TX6, 6, fc6, by decide, tblG_1 30 rfl rfl, rfl, rfl⟩
theorem fX1_45 : FL RX1 45 5 1 .int false := ⟨RX6, TX6, 6, fc6, by decide, tblG_1 36 rfl rfl, rfl, rfl⟩
theorem fX1_48 : FL RX1 48 0 1 (.array .int) true := ⟨RX0, TX0, 3, fc0, by decide, tblG_1 79 rfl rfl, rfl, rfl⟩
theorem fX1_58 : FL RX1 58 0 2 (.array .int) true := ⟨RX0, TX0, 3, fc0, by decide, tblG_1 82 rfl rfl, rfl, rfl⟩
theorem fX2_9 : FL RX2 9 2 0 (.array .int) true := ⟨RX2, TX2, 5, fc2, by decide, tblG_1 91 rfl rfl, rfl, rfl⟩
theorem fX2_15 : FL RX2 15 2 1 (.array .int) true := ⟨RX2, TX2, 5, fc2, by decide, tblG_1 92 rfl rfl, rfl, rfl⟩
theorem fX2_18 : FL RX2 18 2 2 (.array .int) true := ⟨RX2, TX2, 5, fc2, by decide, tblG_1 93 rfl rfl, rfl, rfl⟩
theorem fX2_24 : FL RX2 24 2 3 (.object "ThreeRefusals$Days") true := ⟨RX2, TX2, 5, fc2, by decide, tblG_1 95 rfl rfl, rfl, rfl⟩
theorem fX2_28 : FL RX2 28 2 4 .int false := ⟨RX2, TX2, 5, fc2, by decide, tblG_1 97 rfl rfl, rfl, rfl⟩
theorem fX3_9 : FL RX3 9 3 0 (.array .int) true := ⟨RX3, TX3, 5, fc3, by decide, tblG_1 116 rfl rfl, rfl, rfl⟩
theorem fX3_15 : FL RX3 15 3 1 (.array .int) true := ⟨RX3, TX3, 5, fc3, by decide, tblG_1 117 rfl rfl, rfl, rfl⟩
theorem fX3_18 : FL RX3 18 3 2 (.array .int) true := ⟨RX3, TX3, 5, fc3, by decide, tblG_1 118 rfl rfl, rfl, rfl⟩
theorem fX3_21 : FL RX3 21 3 3 (.array .boolean) true := ⟨RX3, TX3, 5, fc3, by decide, tblG_1 119 rfl rfl, rfl, rfl⟩
theorem fX3_25 : FL RX3 25 3 4 .int false := ⟨RX3, TX3, 5, fc3, by decide, tblG_1 120 rfl rfl, rfl, rfl⟩
theorem fX3_37 : FL RX3 37 5 3 (.array .int) true := ⟨RX6, TX6, 6, fc6, by decide, tblG_1 42 rfl rfl, rfl, rfl⟩
theorem fX3_46 : FL RX3 46 5 4 (.array (.array .int)) true := ⟨RX6, TX6, 6, fc6, by decide, tblG_1 44 rfl rfl, rfl, rfl⟩
theorem fX4_9 : FL RX4 9 4 0 (.array .int) true := ⟨RX4, TX4, 4, fc4, by decide, tblG_1 160 rfl rfl, rfl, rfl⟩
theorem fX4_21 : FL RX4 21 4 1 .boolean false := ⟨RX4, TX4, 4, fc4, by decide, tblG_1 162 rfl rfl, rfl, rfl⟩
theorem fX4_25 : FL RX4 25 4 2 .int false := ⟨RX4, TX4, 4, fc4, by decide, tblG_1 164 rfl rfl, rfl, rfl⟩
theorem fX4_29 : FL RX4 29 4 3 .int false := ⟨RX4, TX4, 4, fc4, by decide, tblG_1 166 rfl rfl, rfl, rfl⟩
theorem fX6_9 : FL RX6 9 5 3 (.array .int) true := ⟨RX6, TX6, 6, fc6, by decide, tblG_1 40 rfl rfl, rfl, rfl⟩
theorem fX6_17 : FL RX6 17 5 4 (.array (.array .int)) true := ⟨RX6, TX6, 6, fc6, by decide, tblG_1 43 rfl rfl, rfl, rfl⟩
theorem fX6_20 : FL RX6 20 5 5 (.array (.array .int)) true := ⟨RX6, TX6, 6, fc6, by decide, tblG_1 47 rfl rfl, rfl, rfl⟩
theorem fX6_23 : FL RX6 23 5 1 .int false := ⟨RX6, TX6, 6, fc6, by decide, tblG_1 34 rfl rfl, rfl, rfl⟩
theorem fX6_27 : FL RX6 27 5 0 .int false := ⟨RX6, TX6, 6, fc6, by decide, tblG_1 31 rfl rfl, rfl, rfl⟩
theorem fX6_34 : FL RX6 34 5 2 .int false := ⟨RX6, TX6, 6, fc6, by decide, tblG_1 38 rfl rfl, rfl, rfl⟩
theorem fX8_7 : FL RX8 7 7 3 (.array .int) true := ⟨RX8, TX8, 30, fc8, by decide, tblG_3 123 rfl rfl, rfl, rfl⟩
theorem fX8_13 : FL RX8 13 7 4 (.array .int) true := ⟨RX8, TX8, 30, fc8, by decide, tblG_3 124 rfl rfl, rfl, rfl⟩
theorem fX8_16 : FL RX8 16 7 5 (.array .int) true := ⟨RX8, TX8, 30, fc8, by decide, tblG_3 125 rfl rfl, rfl, rfl⟩
theorem fX8_19 : FL RX8 19 7 10 (.array .int) true := ⟨RX8, TX8, 30, fc8, by decide, tblG_3 130 rfl rfl, rfl, rfl⟩
theorem fX8_22 : FL RX8 22 7 11 (.array .int) true := ⟨RX8, TX8, 30, fc8, by decide, tblG_3 131 rfl rfl, rfl, rfl⟩
theorem fX8_25 : FL RX8 25 7 12 (.array .int) true := ⟨RX8, TX8, 30, fc8, by decide, tblG_3 132 rfl rfl, rfl, rfl⟩
theorem fX8_28 : FL RX8 28 7 14 (.array .int) true := ⟨RX8, TX8, 30, fc8, by decide, tblG_3 134 rfl rfl, rfl, rfl⟩
theorem fX8_31 : FL RX8 31 7 15 (.array .int) true := ⟨RX8, TX8, 30, fc8, by decide, tblG_3 135 rfl rfl, rfl, rfl⟩
theorem fX8_34 : FL RX8 34 7 16 (.array .int) true := ⟨RX8, TX8, 30, fc8, by decide, tblG_3 136 rfl rfl, rfl, rfl⟩
theorem fX8_37 : FL RX8 37 7 17 (.array .int) true := ⟨RX8, TX8, 30, fc8, by decide, tblG_3 137 rfl rfl, rfl, rfl⟩
theorem fX8_40 : FL RX8 40 7 18 (.array .int) true := ⟨RX8, TX8, 30, fc8, by decide, tblG_3 138 rfl rfl, rfl, rfl⟩
theorem fX8_43 : FL RX8 43 7 19 (.array .int) true := ⟨RX8, TX8, 30, fc8, by decide, tblG_3 139 rfl rfl, rfl, rfl⟩
theorem fX8_46 : FL RX8 46 7 21 (.array .int) true := ⟨RX8, TX8, 30, fc8, by decide, tblG_3 141 rfl rfl, rfl, rfl⟩
theorem fX8_49 : FL RX8 49 7 22 (.array .int) true := ⟨RX8, TX8, 30, fc8, by decide, tblG_3 142 rfl rfl, rfl, rfl⟩
theorem fX8_52 : FL RX8 52 7 23 (.array .int) true := ⟨RX8, TX8, 30, fc8, by decide, tblG_3 143 rfl rfl, rfl, rfl⟩
theorem fX8_55 : FL RX8 55 7 24 (.array .boolean) true := ⟨RX8, TX8, 30, fc8, by decide, tblG_3 144 rfl rfl, rfl, rfl⟩
theorem fX8_59 : FL RX8 59 7 25 (.array .int) true := ⟨RX8, TX8, 30, fc8, by decide, tblG_3 145 rfl rfl, rfl, rfl⟩
theorem fX8_62 : FL RX8 62 7 26 (.array .int) true := ⟨RX8, TX8, 30, fc8, by decide, tblG_3 146 rfl rfl, rfl, rfl⟩
theorem fX8_65 : FL RX8 65 7 27 (.array .int) true := ⟨RX8, TX8, 30, fc8, by decide, tblG_3 147 rfl rfl, rfl, rfl⟩
theorem fX8_68 : FL RX8 68 7 28 (.array .int) true := ⟨RX8, TX8, 30, fc8, by decide, tblG_3 148 rfl rfl, rfl, rfl⟩
theorem fX8_73 : FL RX8 73 7 0 .int false := ⟨RX8, TX8, 30, fc8, by decide, tblG_3 120 rfl rfl, rfl, rfl⟩
theorem fX8_81 : FL RX8 81 7 1 .int false := ⟨RX8, TX8, 30, fc8, by decide, tblG_3 121 rfl rfl, rfl, rfl⟩
theorem fX8_88 : FL RX8 88 7 2 .int false := ⟨RX8, TX8, 30, fc8, by decide, tblG_3 122 rfl rfl, rfl, rfl⟩
theorem fX8_91 : FL RX8 91 7 7 .int false := ⟨RX8, TX8, 30, fc8, by decide, tblG_3 127 rfl rfl, rfl, rfl⟩
theorem fX8_102 : FL RX8 102 7 8 .int false := ⟨RX8, TX8, 30, fc8, by decide, tblG_3 128 rfl rfl, rfl, rfl⟩
theorem fX8_109 : FL RX8 109 7 9 .int false := ⟨RX8, TX8, 30, fc8, by decide, tblG_3 129 rfl rfl, rfl, rfl⟩
theorem fX8_143 : FL RX8 143 7 6 .int false := ⟨RX8, TX8, 30, fc8, by decide, tblG_3 126 rfl rfl, rfl, rfl⟩
theorem fX8_146 : FL RX8 146 7 13 .int false := ⟨RX8, TX8, 30, fc8, by decide, tblG_3 133 rfl rfl, rfl, rfl⟩
theorem fX8_149 : FL RX8 149 7 20 .int false := ⟨RX8, TX8, 30, fc8, by decide, tblG_3 140 rfl rfl, rfl, rfl⟩
theorem fX8_222 : FL RX8 222 7 29 .int false := ⟨RX8, TX8, 30, fc8, by decide, tblG_3 149 rfl rfl, rfl, rfl⟩
abbrev mX0_init : MT := (yX0_init, cX0_init, 1, none)
abbrev mX0_begin : MT := (yX0_begin, cX0_begin, 1, none)
theorem mbX0_begin : MB 0 mX0_begin := ⟨tblG_2 33 rfl rfl, kcX0.1, kcX0.2.1, kcX0.2.2, by decide +kernel⟩
theorem miX0_begin : MI 0 mX0_begin := ⟨mbX0_begin, tblG_2 31 rfl rfl, tblG_2 32 rfl rfl⟩
abbrev mX0_ask : MT := (yX0_ask, cX0_ask, 5, (some .int))
theorem mbX0_ask : MB 3 mX0_ask := ⟨tblG_2 65 rfl rfl, kcX0.1, kcX0.2.1, kcX0.2.2, by decide +kernel⟩
theorem miX0_ask : MI 3 mX0_ask := ⟨mbX0_ask, tblG_2 63 rfl rfl, tblG_2 64 rfl rfl⟩
abbrev mX0_unask : MT := (yX0_unask, cX0_unask, 4, none)
theorem mbX0_unask : MB 3 mX0_unask := ⟨tblG_2 199 rfl rfl, kcX0.1, kcX0.2.1, kcX0.2.2, by decide +kernel⟩
theorem miX0_unask : MI 3 mX0_unask := ⟨mbX0_unask, tblG_2 197 rfl rfl, tblG_2 198 rfl rfl⟩
abbrev mX0_wed : MT := (yX0_wed, cX0_wed, 3, none)
theorem mbX0_wed : MB 2 mX0_wed := ⟨tblG_2 76 rfl rfl, kcX0.1, kcX0.2.1, kcX0.2.2, by decide +kernel⟩
theorem miX0_wed : MI 2 mX0_wed := ⟨mbX0_wed, tblG_2 74 rfl rfl, tblG_2 75 rfl rfl⟩
abbrev mX0_part : MT := (yX0_part, cX0_part, 3, none)
theorem mbX0_part : MB 2 mX0_part := ⟨tblG_2 183 rfl rfl, kcX0.1, kcX0.2.1, kcX0.2.2, by decide +kernel⟩
theorem miX0_part : MI 2 mX0_part := ⟨mbX0_part, tblG_2 181 rfl rfl, tblG_2 182 rfl rfl⟩
abbrev mX0_isBroken : MT := (yX0_isBroken, cX0_isBroken, 7, (some .boolean))
theorem mbX0_isBroken : MB 2 mX0_isBroken := ⟨tblG_2 169 rfl rfl, kcX0.1, kcX0.2.1, kcX0.2.2, by decide +kernel⟩
theorem miX0_isBroken : MI 2 mX0_isBroken := ⟨mbX0_isBroken, tblG_2 167 rfl rfl, tblG_2 168 rfl rfl⟩
abbrev mX0_wouldBreak : MT := (yX0_wouldBreak, cX0_wouldBreak, 6, (some .boolean))
theorem mbX0_wouldBreak : MB 3 mX0_wouldBreak := ⟨tblG_2 173 rfl rfl, kcX0.1, kcX0.2.1, kcX0.2.2, by decide +kernel⟩
theorem miX0_wouldBreak : MI 3 mX0_wouldBreak := ⟨mbX0_wouldBreak, tblG_2 172 rfl rfl, tblG_s 4 rfl rfl⟩
abbrev mX1_init : MT := (yX1_init, cX1_init, 1, none)
abbrev mX1_countFirm : MT := (yX1_countFirm, cX1_countFirm, 2, (some .int))
theorem mbX1_countFirm : MB 1 mX1_countFirm := ⟨tblG_2 161 rfl rfl, kcX1.1, kcX1.2.1, kcX1.2.2, by decide +kernel⟩
theorem miX1_countFirm : MI 1 mX1_countFirm := ⟨mbX1_countFirm, tblG_2 159 rfl rfl, tblG_2 160 rfl rfl⟩
abbrev mX1_matchFrom : MT := (yX1_matchFrom, cX1_matchFrom, 4, none)
theorem mbX1_matchFrom : MB 3 mX1_matchFrom := ⟨tblG_2 165 rfl rfl, kcX1.1, kcX1.2.1, kcX1.2.2, by decide +kernel⟩
theorem miX1_matchFrom : MS 3 mX1_matchFrom := ⟨mbX1_matchFrom, tblG_2 164 rfl rfl⟩
abbrev mX1_keep : MT := (yX1_keep, cX1_keep, 1, none)
theorem mbX1_keep : MB 0 mX1_keep := ⟨tblG_2 177 rfl rfl, kcX1.1, kcX1.2.1, kcX1.2.2, by decide +kernel⟩
theorem miX1_keep : MI 0 mX1_keep := ⟨mbX1_keep, tblG_2 176 rfl rfl, tblG_s 5 rfl rfl⟩
abbrev mX1_countBringing : MT := (yX1_countBringing, cX1_countBringing, 2, (some .int))
theorem mbX1_countBringing : MB 1 mX1_countBringing := ⟨tblG_2 191 rfl rfl, kcX1.1, kcX1.2.1, kcX1.2.2, by decide +kernel⟩
theorem miX1_countBringing : MI 1 mX1_countBringing := ⟨mbX1_countBringing, tblG_2 189 rfl rfl, tblG_2 190 rfl rfl⟩
abbrev mX1_bringingFrom : MT := (yX1_bringingFrom, cX1_bringingFrom, 6, (some .int))
theorem mbX1_bringingFrom : MB 3 mX1_bringingFrom := ⟨tblG_2 194 rfl rfl, kcX1.1, kcX1.2.1, kcX1.2.2, by decide +kernel⟩
theorem miX1_bringingFrom : MS 3 mX1_bringingFrom := ⟨mbX1_bringingFrom, tblG_2 193 rfl rfl⟩
abbrev mX2_init : MT := (yX2_init, cX2_init, 1, none)
abbrev mX2_forget : MT := (yX2_forget, cX2_forget, 1, none)
theorem mbX2_forget : MB 0 mX2_forget := ⟨tblG_2 29 rfl rfl, kcX2.1, kcX2.2.1, kcX2.2.2, by decide +kernel⟩
theorem miX2_forget : MI 0 mX2_forget := ⟨mbX2_forget, tblG_2 27 rfl rfl, tblG_2 28 rfl rfl⟩
abbrev mX2_add : MT := (yX2_add, cX2_add, 5, (some .int))
theorem mbX2_add : MB 3 mX2_add := ⟨tblG_2 97 rfl rfl, kcX2.1, kcX2.2.1, kcX2.2.2, by decide +kernel⟩
theorem miX2_add : MI 3 mX2_add := ⟨mbX2_add, tblG_2 95 rfl rfl, tblG_2 96 rfl rfl⟩
abbrev mX2_goThrough : MT := (yX2_goThrough, cX2_goThrough, 3, none)
theorem mbX2_goThrough : MB 1 mX2_goThrough := ⟨tblG_2 61 rfl rfl, kcX2.1, kcX2.2.1, kcX2.2.2, by decide +kernel⟩
theorem miX2_goThrough : MI 1 mX2_goThrough := ⟨mbX2_goThrough, tblG_2 59 rfl rfl, tblG_2 60 rfl rfl⟩
abbrev mX3_init : MT := (yX3_init, cX3_init, 1, none)
abbrev mX3_add : MT := (yX3_add, cX3_add, 6, (some .int))
theorem mbX3_add : MB 4 mX3_add := ⟨tblG_2 228 rfl rfl, kcX3.1, kcX3.2.1, kcX3.2.2, by decide +kernel⟩
theorem miX3_add : MI 4 mX3_add := ⟨mbX3_add, tblG_2 226 rfl rfl, tblG_2 227 rfl rfl⟩
abbrev mX3_leastLiking : MT := (yX3_leastLiking, cX3_leastLiking, 5, (some .int))
theorem mbX3_leastLiking : MB 3 mX3_leastLiking := ⟨tblG_3 0 rfl rfl, kcX3.1, kcX3.2.1, kcX3.2.2, by decide +kernel⟩
theorem miX3_leastLiking : MI 3 mX3_leastLiking := ⟨mbX3_leastLiking, tblG_2 238 rfl rfl, tblG_2 239 rfl rfl⟩
abbrev mX3_greatestLiking : MT := (yX3_greatestLiking, cX3_greatestLiking, 5, (some .int))
theorem mbX3_greatestLiking : MB 3 mX3_greatestLiking := ⟨tblG_3 13 rfl rfl, kcX3.1, kcX3.2.1, kcX3.2.2, by decide +kernel⟩
theorem miX3_greatestLiking : MI 3 mX3_greatestLiking := ⟨mbX3_greatestLiking, tblG_3 11 rfl rfl, tblG_3 12 rfl rfl⟩
abbrev mX3_kindsOf : MT := (yX3_kindsOf, cX3_kindsOf, 5, (some .int))
theorem mbX3_kindsOf : MB 2 mX3_kindsOf := ⟨tblG_3 21 rfl rfl, kcX3.1, kcX3.2.1, kcX3.2.2, by decide +kernel⟩
theorem miX3_kindsOf : MI 2 mX3_kindsOf := ⟨mbX3_kindsOf, tblG_3 19 rfl rfl, tblG_3 20 rfl rfl⟩
abbrev mX3_areSoByLiking : MT := (yX3_areSoByLiking, cX3_areSoByLiking, 6, (some .boolean))
theorem mbX3_areSoByLiking : MB 4 mX3_areSoByLiking := ⟨tblG_3 4 rfl rfl, kcX3.1, kcX3.2.1, kcX3.2.2, by decide +kernel⟩
theorem miX3_areSoByLiking : MI 4 mX3_areSoByLiking := ⟨mbX3_areSoByLiking, tblG_3 3 rfl rfl, tblG_s 7 rfl rfl⟩
abbrev mX3_areSoByKind : MT := (yX3_areSoByKind, cX3_areSoByKind, 5, (some .boolean))
theorem mbX3_areSoByKind : MB 3 mX3_areSoByKind := ⟨tblG_3 25 rfl rfl, kcX3.1, kcX3.2.1, kcX3.2.2, by decide +kernel⟩
theorem miX3_areSoByKind : MI 3 mX3_areSoByKind := ⟨mbX3_areSoByKind, tblG_3 24 rfl rfl, tblG_s 9 rfl rfl⟩
abbrev mX3_isSo : MT := (yX3_isSo, cX3_isSo, 4, (some .boolean))
theorem mbX3_isSo : MB 3 mX3_isSo := ⟨tblG_3 8 rfl rfl, kcX3.1, kcX3.2.1, kcX3.2.2, by decide +kernel⟩
theorem miX3_isSo : MI 3 mX3_isSo := ⟨mbX3_isSo, tblG_3 7 rfl rfl, tblG_s 8 rfl rfl⟩
abbrev mX4_init : MT := (yX4_init, cX4_init, 1, none)
abbrev mX4_renew : MT := (yX4_renew, cX4_renew, 3, none)
theorem mbX4_renew : MB 2 mX4_renew := ⟨tblG_3 33 rfl rfl, kcX4.1, kcX4.2.1, kcX4.2.2, by decide +kernel⟩
theorem miX4_renew : MI 2 mX4_renew := ⟨mbX4_renew, tblG_3 31 rfl rfl, tblG_3 32 rfl rfl⟩
abbrev mX4_hasCell : MT := (yX4_hasCell, cX4_hasCell, 2, (some .boolean))
theorem mbX4_hasCell : MB 1 mX4_hasCell := ⟨tblG_3 46 rfl rfl, kcX4.1, kcX4.2.1, kcX4.2.2, by decide +kernel⟩
theorem miX4_hasCell : MI 1 mX4_hasCell := ⟨mbX4_hasCell, tblG_3 44 rfl rfl, tblG_3 45 rfl rfl⟩
abbrev mX4_hasCells : MT := (yX4_hasCells, cX4_hasCells, 3, (some .boolean))
theorem mbX4_hasCells : MB 2 mX4_hasCells := ⟨tblG_1 226 rfl rfl, kcX4.1, kcX4.2.1, kcX4.2.2, by decide +kernel⟩
theorem miX4_hasCells : MI 2 mX4_hasCells := ⟨mbX4_hasCells, tblG_1 224 rfl rfl, tblG_1 225 rfl rfl⟩
abbrev mX4_faultOfRow : MT := (yX4_faultOfRow, cX4_faultOfRow, 2, (some .int))
theorem mbX4_faultOfRow : MB 1 mX4_faultOfRow := ⟨tblG_1 222 rfl rfl, kcX4.1, kcX4.2.1, kcX4.2.2, by decide +kernel⟩
theorem miX4_faultOfRow : MI 1 mX4_faultOfRow := ⟨mbX4_faultOfRow, tblG_1 220 rfl rfl, tblG_1 221 rfl rfl⟩
abbrev mX4_faultOfCells : MT := (yX4_faultOfCells, cX4_faultOfCells, 5, (some .int))
theorem mbX4_faultOfCells : MB 3 mX4_faultOfCells := ⟨tblG_1 218 rfl rfl, kcX4.1, kcX4.2.1, kcX4.2.2, by decide +kernel⟩
theorem miX4_faultOfCells : MI 3 mX4_faultOfCells := ⟨mbX4_faultOfCells, tblG_1 216 rfl rfl, tblG_1 217 rfl rfl⟩
abbrev mX4_readInto : MT := (yX4_readInto, cX4_readInto, 4, none)
theorem mbX4_readInto : MB 3 mX4_readInto := ⟨tblG_1 234 rfl rfl, kcX4.1, kcX4.2.1, kcX4.2.2, by decide +kernel⟩
theorem miX4_readInto : MI 3 mX4_readInto := ⟨mbX4_readInto, tblG_1 232 rfl rfl, tblG_1 233 rfl rfl⟩
abbrev mX4_write : MT := (yX4_write, cX4_write, 3, none)
theorem mbX4_write : MB 2 mX4_write := ⟨tblG_3 50 rfl rfl, kcX4.1, kcX4.2.1, kcX4.2.2, by decide +kernel⟩
theorem miX4_write : MI 2 mX4_write := ⟨mbX4_write, tblG_3 48 rfl rfl, tblG_3 49 rfl rfl⟩
abbrev mX5_firstFault : MT := (yX5_firstFault, cX5_firstFault, 3, (some .int))
theorem mbX5_firstFault : MB 2 mX5_firstFault := ⟨tblG_2 0 rfl rfl, kcX5.1, kcX5.2.1, kcX5.2.2, by decide +kernel⟩
theorem miX5_firstFault : MS 2 mX5_firstFault := ⟨mbX5_firstFault, tblG_1 239 rfl rfl⟩
abbrev mX5_firstFaultBehindHead : MT := (yX5_firstFaultBehindHead, cX5_firstFaultBehindHead, 9, (some .int))
theorem mbX5_firstFaultBehindHead : MB 4 mX5_firstFaultBehindHead := ⟨tblG_2 6 rfl rfl, kcX5.1, kcX5.2.1, kcX5.2.2, by decide +kernel⟩
theorem miX5_firstFaultBehindHead : MS 4 mX5_firstFaultBehindHead := ⟨mbX5_firstFaultBehindHead, tblG_2 5 rfl rfl⟩
abbrev mX5_fitsHead : MT := (yX5_fitsHead, cX5_fitsHead, 2, (some .boolean))
theorem mbX5_fitsHead : MB 2 mX5_fitsHead := ⟨tblG_2 3 rfl rfl, kcX5.1, kcX5.2.1, kcX5.2.2, by decide +kernel⟩
theorem miX5_fitsHead : MS 2 mX5_fitsHead := ⟨mbX5_fitsHead, tblG_2 2 rfl rfl⟩
abbrev mX5_fitsPart : MT := (yX5_fitsPart, cX5_fitsPart, 3, (some .boolean))
theorem mbX5_fitsPart : MB 3 mX5_fitsPart := ⟨tblG_2 15 rfl rfl, kcX5.1, kcX5.2.1, kcX5.2.2, by decide +kernel⟩
theorem miX5_fitsPart : MS 3 mX5_fitsPart := ⟨mbX5_fitsPart, tblG_2 14 rfl rfl⟩
abbrev mX5_kindOf : MT := (yX5_kindOf, cX5_kindOf, 1, (some .int))
theorem mbX5_kindOf : MB 1 mX5_kindOf := ⟨tblG_2 18 rfl rfl, kcX5.1, kcX5.2.1, kcX5.2.2, by decide +kernel⟩
theorem miX5_kindOf : MS 1 mX5_kindOf := ⟨mbX5_kindOf, tblG_2 17 rfl rfl⟩
abbrev mX5_maidPlace : MT := (yX5_maidPlace, cX5_maidPlace, 2, (some .int))
theorem mbX5_maidPlace : MB 2 mX5_maidPlace := ⟨tblG_2 12 rfl rfl, kcX5.1, kcX5.2.1, kcX5.2.2, by decide +kernel⟩
theorem miX5_maidPlace : MS 2 mX5_maidPlace := ⟨mbX5_maidPlace, tblG_2 11 rfl rfl⟩
abbrev mX5_suitorPlace : MT := (yX5_suitorPlace, cX5_suitorPlace, 3, (some .int))
theorem mbX5_suitorPlace : MB 3 mX5_suitorPlace := ⟨tblG_2 9 rfl rfl, kcX5.1, kcX5.2.1, kcX5.2.2, by decide +kernel⟩
theorem miX5_suitorPlace : MS 3 mX5_suitorPlace := ⟨mbX5_suitorPlace, tblG_2 8 rfl rfl⟩
abbrev mX6_init : MT := (yX6_init, cX6_init, 1, none)
abbrev mX6_stands : MT := (yX6_stands, cX6_stands, 1, (some .boolean))
theorem mbX6_stands : MB 0 mX6_stands := ⟨tblG_2 89 rfl rfl, kcX6.1, kcX6.2.1, kcX6.2.2, by decide +kernel⟩
theorem miX6_stands : MI 0 mX6_stands := ⟨mbX6_stands, tblG_2 87 rfl rfl, tblG_2 88 rfl rfl⟩
abbrev mX6_hasMaid : MT := (yX6_hasMaid, cX6_hasMaid, 2, (some .boolean))
theorem mbX6_hasMaid : MB 1 mX6_hasMaid := ⟨tblG_2 44 rfl rfl, kcX6.1, kcX6.2.1, kcX6.2.2, by decide +kernel⟩
theorem miX6_hasMaid : MI 1 mX6_hasMaid := ⟨mbX6_hasMaid, tblG_2 42 rfl rfl, tblG_2 43 rfl rfl⟩
abbrev mX6_hasSuitor : MT := (yX6_hasSuitor, cX6_hasSuitor, 2, (some .boolean))
theorem mbX6_hasSuitor : MB 1 mX6_hasSuitor := ⟨tblG_2 48 rfl rfl, kcX6.1, kcX6.2.1, kcX6.2.2, by decide +kernel⟩
theorem miX6_hasSuitor : MI 1 mX6_hasSuitor := ⟨mbX6_hasSuitor, tblG_2 46 rfl rfl, tblG_2 47 rfl rfl⟩
abbrev mX6_areSuitors : MT := (yX6_areSuitors, cX6_areSuitors, 4, (some .boolean))
theorem mbX6_areSuitors : MB 2 mX6_areSuitors := ⟨tblG_2 122 rfl rfl, kcX6.1, kcX6.2.1, kcX6.2.2, by decide +kernel⟩
theorem miX6_areSuitors : MI 2 mX6_areSuitors := ⟨mbX6_areSuitors, tblG_2 120 rfl rfl, tblG_2 121 rfl rfl⟩
abbrev mX6_settle : MT := (yX6_settle, cX6_settle, 5, none)
theorem mbX6_settle : MB 1 mX6_settle := ⟨tblG_2 22 rfl rfl, kcX6.1, kcX6.2.1, kcX6.2.2, by decide +kernel⟩
theorem miX6_settle : MI 1 mX6_settle := ⟨mbX6_settle, tblG_2 20 rfl rfl, tblG_2 21 rfl rfl⟩
abbrev mX6_mind : MT := (yX6_mind, cX6_mind, 2, (some .int))
theorem mbX6_mind : MB 2 mX6_mind := ⟨tblG_2 72 rfl rfl, kcX6.1, kcX6.2.1, kcX6.2.2, by decide +kernel⟩
theorem miX6_mind : MS 2 mX6_mind := ⟨mbX6_mind, tblG_2 71 rfl rfl⟩
abbrev mX6_answer : MT := (yX6_answer, cX6_answer, 4, (some .int))
theorem mbX6_answer : MB 3 mX6_answer := ⟨tblG_2 69 rfl rfl, kcX6.1, kcX6.2.1, kcX6.2.2, by decide +kernel⟩
theorem miX6_answer : MI 3 mX6_answer := ⟨mbX6_answer, tblG_2 67 rfl rfl, tblG_2 68 rfl rfl⟩
abbrev mX6_best : MT := (yX6_best, cX6_best, 6, (some .int))
theorem mbX6_best : MB 3 mX6_best := ⟨tblG_2 127 rfl rfl, kcX6.1, kcX6.2.1, kcX6.2.2, by decide +kernel⟩
theorem miX6_best : MI 3 mX6_best := ⟨mbX6_best, tblG_2 125 rfl rfl, tblG_2 126 rfl rfl⟩
abbrev mX6_minded : MT := (yX6_minded, cX6_minded, 5, (some .int))
theorem mbX6_minded : MB 3 mX6_minded := ⟨tblG_2 134 rfl rfl, kcX6.1, kcX6.2.1, kcX6.2.2, by decide +kernel⟩
theorem miX6_minded : MI 3 mX6_minded := ⟨mbX6_minded, tblG_2 132 rfl rfl, tblG_2 133 rfl rfl⟩
abbrev mX6_fewestAhead : MT := (yX6_fewestAhead, cX6_fewestAhead, 6, (some .int))
theorem mbX6_fewestAhead : MB 2 mX6_fewestAhead := ⟨tblG_2 143 rfl rfl, kcX6.1, kcX6.2.1, kcX6.2.2, by decide +kernel⟩
theorem miX6_fewestAhead : MI 2 mX6_fewestAhead := ⟨mbX6_fewestAhead, tblG_2 141 rfl rfl, tblG_2 142 rfl rfl⟩
abbrev mX6_bringsTo : MT := (yX6_bringsTo, cX6_bringsTo, 6, (some .boolean))
theorem mbX6_bringsTo : MB 3 mX6_bringsTo := ⟨tblG_2 153 rfl rfl, kcX6.1, kcX6.2.1, kcX6.2.2, by decide +kernel⟩
theorem miX6_bringsTo : MI 3 mX6_bringsTo := ⟨mbX6_bringsTo, tblG_2 152 rfl rfl, tblG_s 3 rfl rfl⟩
abbrev mX6_rowsOf : MT := (yX6_rowsOf, cX6_rowsOf, 4, (some .int))
theorem mbX6_rowsOf : MB 1 mX6_rowsOf := ⟨tblG_2 208 rfl rfl, kcX6.1, kcX6.2.1, kcX6.2.2, by decide +kernel⟩
theorem miX6_rowsOf : MI 1 mX6_rowsOf := ⟨mbX6_rowsOf, tblG_2 206 rfl rfl, tblG_2 207 rfl rfl⟩
abbrev mX6_sumOverRows : MT := (yX6_sumOverRows, cX6_sumOverRows, 7, (some .int))
theorem mbX6_sumOverRows : MB 3 mX6_sumOverRows := ⟨tblG_2 212 rfl rfl, kcX6.1, kcX6.2.1, kcX6.2.2, by decide +kernel⟩
theorem miX6_sumOverRows : MI 3 mX6_sumOverRows := ⟨mbX6_sumOverRows, tblG_2 210 rfl rfl, tblG_2 211 rfl rfl⟩
abbrev mX6_sumOfFirst : MT := (yX6_sumOfFirst, cX6_sumOfFirst, 6, (some .int))
theorem mbX6_sumOfFirst : MB 3 mX6_sumOfFirst := ⟨tblG_2 217 rfl rfl, kcX6.1, kcX6.2.1, kcX6.2.2, by decide +kernel⟩
theorem miX6_sumOfFirst : MI 3 mX6_sumOfFirst := ⟨mbX6_sumOfFirst, tblG_2 216 rfl rfl, tblG_s 6 rfl rfl⟩
abbrev mX7_init : MT := (yX7_init, cX7_init, 2, none)
abbrev mX7_valley : MT := (yX7_valley, cX7_valley, 7, (some .int))
theorem mbX7_valley : MB 4 mX7_valley := ⟨tblG_1 204 rfl rfl, kcX7.1, kcX7.2.1, kcX7.2.2, by decide +kernel⟩
theorem miX7_valley : MI 4 mX7_valley := ⟨mbX7_valley, tblG_1 202 rfl rfl, tblG_1 203 rfl rfl⟩
abbrev mX7_likes : MT := (yX7_likes, cX7_likes, 4, (some .int))
theorem mbX7_likes : MB 3 mX7_likes := ⟨tblG_2 40 rfl rfl, kcX7.1, kcX7.2.1, kcX7.2.2, by decide +kernel⟩
theorem miX7_likes : MI 3 mX7_likes := ⟨mbX7_likes, tblG_2 38 rfl rfl, tblG_2 39 rfl rfl⟩
abbrev mX7_like : MT := (yX7_like, cX7_like, 6, (some .int))
theorem mbX7_like : MB 4 mX7_like := ⟨tblG_2 56 rfl rfl, kcX7.1, kcX7.2.1, kcX7.2.2, by decide +kernel⟩
theorem miX7_like : MI 4 mX7_like := ⟨mbX7_like, tblG_2 54 rfl rfl, tblG_2 55 rfl rfl⟩
abbrev mX7_ofMaid : MT := (yX7_ofMaid, cX7_ofMaid, 5, (some .int))
theorem mbX7_ofMaid : MB 2 mX7_ofMaid := ⟨tblG_2 80 rfl rfl, kcX7.1, kcX7.2.1, kcX7.2.2, by decide +kernel⟩
theorem miX7_ofMaid : MI 2 mX7_ofMaid := ⟨mbX7_ofMaid, tblG_2 78 rfl rfl, tblG_2 79 rfl rfl⟩
abbrev mX7_law : MT := (yX7_law, cX7_law, 3, (some .int))
theorem mbX7_law : MB 1 mX7_law := ⟨tblG_2 85 rfl rfl, kcX7.1, kcX7.2.1, kcX7.2.2, by decide +kernel⟩
theorem miX7_law : MI 1 mX7_law := ⟨mbX7_law, tblG_2 83 rfl rfl, tblG_2 84 rfl rfl⟩
abbrev mX7_offer : MT := (yX7_offer, cX7_offer, 3, (some .int))
theorem mbX7_offer : MB 2 mX7_offer := ⟨tblG_2 93 rfl rfl, kcX7.1, kcX7.2.1, kcX7.2.2, by decide +kernel⟩
theorem miX7_offer : MI 2 mX7_offer := ⟨mbX7_offer, tblG_2 91 rfl rfl, tblG_2 92 rfl rfl⟩
abbrev mX7_comes : MT := (yX7_comes, cX7_comes, 2, (some .int))
theorem mbX7_comes : MB 1 mX7_comes := ⟨tblG_2 101 rfl rfl, kcX7.1, kcX7.2.1, kcX7.2.2, by decide +kernel⟩
theorem miX7_comes : MI 1 mX7_comes := ⟨mbX7_comes, tblG_2 99 rfl rfl, tblG_2 100 rfl rfl⟩
abbrev mX7_undo : MT := (yX7_undo, cX7_undo, 2, (some .int))
theorem mbX7_undo : MB 1 mX7_undo := ⟨tblG_2 105 rfl rfl, kcX7.1, kcX7.2.1, kcX7.2.2, by decide +kernel⟩
theorem miX7_undo : MI 1 mX7_undo := ⟨mbX7_undo, tblG_2 103 rfl rfl, tblG_2 104 rfl rfl⟩
abbrev mX7_pairs : MT := (yX7_pairs, cX7_pairs, 4, (some .long))
theorem mbX7_pairs : MB 0 mX7_pairs := ⟨tblG_2 109 rfl rfl, kcX7.1, kcX7.2.1, kcX7.2.2, by decide +kernel⟩
theorem miX7_pairs : MI 0 mX7_pairs := ⟨mbX7_pairs, tblG_2 107 rfl rfl, tblG_2 108 rfl rfl⟩
abbrev mX7_asked : MT := (yX7_asked, cX7_asked, 8, (some .int))
theorem mbX7_asked : MB 6 mX7_asked := ⟨tblG_2 118 rfl rfl, kcX7.1, kcX7.2.1, kcX7.2.2, by decide +kernel⟩
theorem miX7_asked : MI 6 mX7_asked := ⟨mbX7_asked, tblG_2 116 rfl rfl, tblG_2 117 rfl rfl⟩
abbrev mX7_sent : MT := (yX7_sent, cX7_sent, 3, (some .int))
theorem mbX7_sent : MB 2 mX7_sent := ⟨tblG_2 139 rfl rfl, kcX7.1, kcX7.2.1, kcX7.2.2, by decide +kernel⟩
theorem miX7_sent : MI 2 mX7_sent := ⟨mbX7_sent, tblG_2 137 rfl rfl, tblG_2 138 rfl rfl⟩
abbrev mX7_firm : MT := (yX7_firm, cX7_firm, 3, (some .int))
theorem mbX7_firm : MB 1 mX7_firm := ⟨tblG_2 157 rfl rfl, kcX7.1, kcX7.2.1, kcX7.2.2, by decide +kernel⟩
theorem miX7_firm : MI 1 mX7_firm := ⟨mbX7_firm, tblG_2 155 rfl rfl, tblG_2 156 rfl rfl⟩
abbrev mX7_brought : MT := (yX7_brought, cX7_brought, 1, (some .int))
theorem mbX7_brought : MB 0 mX7_brought := ⟨tblG_2 187 rfl rfl, kcX7.1, kcX7.2.1, kcX7.2.2, by decide +kernel⟩
theorem miX7_brought : MI 0 mX7_brought := ⟨mbX7_brought, tblG_2 185 rfl rfl, tblG_2 186 rfl rfl⟩
abbrev mX7_worth : MT := (yX7_worth, cX7_worth, 8, (some .long))
theorem mbX7_worth : MB 4 mX7_worth := ⟨tblG_2 204 rfl rfl, kcX7.1, kcX7.2.1, kcX7.2.2, by decide +kernel⟩
theorem miX7_worth : MI 4 mX7_worth := ⟨mbX7_worth, tblG_2 202 rfl rfl, tblG_2 203 rfl rfl⟩
abbrev mX7_reading : MT := (yX7_reading, cX7_reading, 5, (some .int))
theorem mbX7_reading : MB 4 mX7_reading := ⟨tblG_2 224 rfl rfl, kcX7.1, kcX7.2.1, kcX7.2.2, by decide +kernel⟩
theorem miX7_reading : MI 4 mX7_reading := ⟨mbX7_reading, tblG_2 222 rfl rfl, tblG_2 223 rfl rfl⟩
abbrev mX7_back : MT := (yX7_back, cX7_back, 2, (some .int))
theorem mbX7_back : MB 1 mX7_back := ⟨tblG_2 232 rfl rfl, kcX7.1, kcX7.2.1, kcX7.2.2, by decide +kernel⟩
theorem miX7_back : MI 1 mX7_back := ⟨mbX7_back, tblG_2 230 rfl rfl, tblG_2 231 rfl rfl⟩
abbrev mX7_learnt : MT := (yX7_learnt, cX7_learnt, 4, (some .int))
theorem mbX7_learnt : MB 3 mX7_learnt := ⟨tblG_2 236 rfl rfl, kcX7.1, kcX7.2.1, kcX7.2.2, by decide +kernel⟩
theorem miX7_learnt : MI 3 mX7_learnt := ⟨mbX7_learnt, tblG_2 234 rfl rfl, tblG_2 235 rfl rfl⟩
abbrev mX7_kinds : MT := (yX7_kinds, cX7_kinds, 2, (some .int))
theorem mbX7_kinds : MB 1 mX7_kinds := ⟨tblG_3 17 rfl rfl, kcX7.1, kcX7.2.1, kcX7.2.2, by decide +kernel⟩
theorem miX7_kinds : MI 1 mX7_kinds := ⟨mbX7_kinds, tblG_3 15 rfl rfl, tblG_3 16 rfl rfl⟩
abbrev mX7_sheet : MT := (yX7_sheet, cX7_sheet, 4, (some .int))
theorem mbX7_sheet : MB 3 mX7_sheet := ⟨tblG_3 29 rfl rfl, kcX7.1, kcX7.2.1, kcX7.2.2, by decide +kernel⟩
theorem miX7_sheet : MI 3 mX7_sheet := ⟨mbX7_sheet, tblG_3 27 rfl rfl, tblG_3 28 rfl rfl⟩
abbrev mX7_lose : MT := (yX7_lose, cX7_lose, 3, (some .int))
theorem mbX7_lose : MB 1 mX7_lose := ⟨tblG_3 38 rfl rfl, kcX7.1, kcX7.2.1, kcX7.2.2, by decide +kernel⟩
theorem miX7_lose : MI 1 mX7_lose := ⟨mbX7_lose, tblG_3 36 rfl rfl, tblG_3 37 rfl rfl⟩
abbrev mX7_put : MT := (yX7_put, cX7_put, 4, (some .int))
theorem mbX7_put : MB 3 mX7_put := ⟨tblG_3 42 rfl rfl, kcX7.1, kcX7.2.1, kcX7.2.2, by decide +kernel⟩
theorem miX7_put : MI 3 mX7_put := ⟨mbX7_put, tblG_3 40 rfl rfl, tblG_3 41 rfl rfl⟩
abbrev mX7_cell : MT := (yX7_cell, cX7_cell, 5, (some .long))
theorem mbX7_cell : MB 3 mX7_cell := ⟨tblG_3 54 rfl rfl, kcX7.1, kcX7.2.1, kcX7.2.2, by decide +kernel⟩
theorem miX7_cell : MI 3 mX7_cell := ⟨mbX7_cell, tblG_3 52 rfl rfl, tblG_3 53 rfl rfl⟩
abbrev mX7_copy : MT := (yX7_copy, cX7_copy, 6, (some .int))
theorem mbX7_copy : MB 5 mX7_copy := ⟨tblG_3 63 rfl rfl, kcX7.1, kcX7.2.1, kcX7.2.2, by decide +kernel⟩
theorem miX7_copy : MI 5 mX7_copy := ⟨mbX7_copy, tblG_3 61 rfl rfl, tblG_3 62 rfl rfl⟩
abbrev mX7_tell : MT := (yX7_tell, cX7_tell, 2, (some .int))
theorem mbX7_tell : MB 1 mX7_tell := ⟨tblG_3 69 rfl rfl, kcX7.1, kcX7.2.1, kcX7.2.2, by decide +kernel⟩
theorem miX7_tell : MI 1 mX7_tell := ⟨mbX7_tell, tblG_3 67 rfl rfl, tblG_3 68 rfl rfl⟩
abbrev mX7_greet : MT := (yX7_greet, cX7_greet, 2, (some .int))
theorem mbX7_greet : MB 1 mX7_greet := ⟨tblG_3 89 rfl rfl, kcX7.1, kcX7.2.1, kcX7.2.2, by decide +kernel⟩
theorem miX7_greet : MI 1 mX7_greet := ⟨mbX7_greet, tblG_3 87 rfl rfl, tblG_3 88 rfl rfl⟩
abbrev mX7_as : MT := (yX7_as, cX7_as, 3, (some .int))
theorem mbX7_as : MB 2 mX7_as := ⟨tblG_3 101 rfl rfl, kcX7.1, kcX7.2.1, kcX7.2.2, by decide +kernel⟩
theorem miX7_as : MI 2 mX7_as := ⟨mbX7_as, tblG_3 99 rfl rfl, tblG_3 100 rfl rfl⟩
abbrev mX7_trace : MT := (yX7_trace, cX7_trace, 1, (some .int))
theorem mbX7_trace : MB 0 mX7_trace := ⟨tblG_3 105 rfl rfl, kcX7.1, kcX7.2.1, kcX7.2.2, by decide +kernel⟩
theorem miX7_trace : MI 0 mX7_trace := ⟨mbX7_trace, tblG_3 103 rfl rfl, tblG_3 104 rfl rfl⟩
abbrev mX7_fault : MT := (yX7_fault, cX7_fault, 1, (some .int))
theorem mbX7_fault : MB 0 mX7_fault := ⟨tblG_3 109 rfl rfl, kcX7.1, kcX7.2.1, kcX7.2.2, by decide +kernel⟩
theorem miX7_fault : MI 0 mX7_fault := ⟨mbX7_fault, tblG_3 107 rfl rfl, tblG_3 108 rfl rfl⟩
abbrev mX7_many : MT := (yX7_many, cX7_many, 2, (some .int))
theorem mbX7_many : MB 1 mX7_many := ⟨tblG_3 113 rfl rfl, kcX7.1, kcX7.2.1, kcX7.2.2, by decide +kernel⟩
theorem miX7_many : MI 1 mX7_many := ⟨mbX7_many, tblG_3 111 rfl rfl, tblG_3 112 rfl rfl⟩
abbrev mX7_faultless : MT := (yX7_faultless, cX7_faultless, 2, (some .int))
theorem mbX7_faultless : MB 1 mX7_faultless := ⟨tblG_1 211 rfl rfl, kcX7.1, kcX7.2.1, kcX7.2.2, by decide +kernel⟩
theorem miX7_faultless : MI 1 mX7_faultless := ⟨mbX7_faultless, tblG_1 210 rfl rfl, tblG_s 0 rfl rfl⟩
abbrev mX7_faulted : MT := (yX7_faulted, cX7_faulted, 2, (some .int))
theorem mbX7_faulted : MB 1 mX7_faulted := ⟨tblG_1 230 rfl rfl, kcX7.1, kcX7.2.1, kcX7.2.2, by decide +kernel⟩
theorem miX7_faulted : MI 1 mX7_faulted := ⟨mbX7_faulted, tblG_1 229 rfl rfl, tblG_s 1 rfl rfl⟩
abbrev mX7_lost : MT := (yX7_lost, cX7_lost, 2, (some .long))
theorem mbX7_lost : MB 1 mX7_lost := ⟨tblG_3 58 rfl rfl, kcX7.1, kcX7.2.1, kcX7.2.2, by decide +kernel⟩
theorem miX7_lost : MI 1 mX7_lost := ⟨mbX7_lost, tblG_3 57 rfl rfl, tblG_s 10 rfl rfl⟩
abbrev mX7_likings : MT := (yX7_likings, cX7_likings, 2, (some (.array (.array .int))))
theorem mbX7_likings : MB 1 mX7_likings := ⟨tblG_2 52 rfl rfl, kcX7.1, kcX7.2.1, kcX7.2.2, by decide +kernel⟩
theorem miX7_likings : MI 1 mX7_likings := ⟨mbX7_likings, tblG_2 51 rfl rfl, tblG_s 2 rfl rfl⟩
abbrev mX7_mark : MT := (yX7_mark, cX7_mark, 2, none)
theorem mbX7_mark : MB 1 mX7_mark := ⟨tblG_3 77 rfl rfl, kcX7.1, kcX7.2.1, kcX7.2.2, by decide +kernel⟩
theorem miX7_mark : MI 1 mX7_mark := ⟨mbX7_mark, tblG_3 76 rfl rfl, tblG_s 12 rfl rfl⟩
abbrev mX7_tellAsMaid : MT := (yX7_tellAsMaid, cX7_tellAsMaid, 2, (some .int))
theorem mbX7_tellAsMaid : MB 1 mX7_tellAsMaid := ⟨tblG_3 81 rfl rfl, kcX7.1, kcX7.2.1, kcX7.2.2, by decide +kernel⟩
theorem miX7_tellAsMaid : MI 1 mX7_tellAsMaid := ⟨mbX7_tellAsMaid, tblG_3 80 rfl rfl, tblG_s 13 rfl rfl⟩
abbrev mX7_tellAsProud : MT := (yX7_tellAsProud, cX7_tellAsProud, 2, (some .int))
theorem mbX7_tellAsProud : MB 1 mX7_tellAsProud := ⟨tblG_3 73 rfl rfl, kcX7.1, kcX7.2.1, kcX7.2.2, by decide +kernel⟩
theorem miX7_tellAsProud : MI 1 mX7_tellAsProud := ⟨mbX7_tellAsProud, tblG_3 72 rfl rfl, tblG_s 11 rfl rfl⟩
abbrev mX7_tellAsHeiress : MT := (yX7_tellAsHeiress, cX7_tellAsHeiress, 3, (some .int))
theorem mbX7_tellAsHeiress : MB 1 mX7_tellAsHeiress := ⟨tblG_3 85 rfl rfl, kcX7.1, kcX7.2.1, kcX7.2.2, by decide +kernel⟩
theorem miX7_tellAsHeiress : MI 1 mX7_tellAsHeiress := ⟨mbX7_tellAsHeiress, tblG_3 84 rfl rfl, tblG_s 14 rfl rfl⟩
abbrev mX7_greetAsAnyone : MT := (yX7_greetAsAnyone, cX7_greetAsAnyone, 2, (some .int))
theorem mbX7_greetAsAnyone : MB 1 mX7_greetAsAnyone := ⟨tblG_3 97 rfl rfl, kcX7.1, kcX7.2.1, kcX7.2.2, by decide +kernel⟩
theorem miX7_greetAsAnyone : MI 1 mX7_greetAsAnyone := ⟨mbX7_greetAsAnyone, tblG_3 96 rfl rfl, tblG_s 16 rfl rfl⟩
abbrev mX7_greetAsHeiress : MT := (yX7_greetAsHeiress, cX7_greetAsHeiress, 1, (some .int))
theorem mbX7_greetAsHeiress : MB 0 mX7_greetAsHeiress := ⟨tblG_3 93 rfl rfl, kcX7.1, kcX7.2.1, kcX7.2.2, by decide +kernel⟩
theorem miX7_greetAsHeiress : MI 0 mX7_greetAsHeiress := ⟨mbX7_greetAsHeiress, tblG_3 92 rfl rfl, tblG_s 15 rfl rfl⟩
abbrev mX7_isSheet : MT := (yX7_isSheet, cX7_isSheet, 1, (some .boolean))
theorem mbX7_isSheet : MB 1 mX7_isSheet := ⟨tblG_1 207 rfl rfl, kcX7.1, kcX7.2.1, kcX7.2.2, by decide +kernel⟩
theorem miX7_isSheet : MS 1 mX7_isSheet := ⟨mbX7_isSheet, tblG_1 206 rfl rfl⟩
abbrev mX7_isLane : MT := (yX7_isLane, cX7_isLane, 1, (some .boolean))
theorem mbX7_isLane : MB 1 mX7_isLane := ⟨tblG_1 214 rfl rfl, kcX7.1, kcX7.2.1, kcX7.2.2, by decide +kernel⟩
theorem miX7_isLane : MS 1 mX7_isLane := ⟨mbX7_isLane, tblG_1 213 rfl rfl⟩
abbrev mX7_figure : MT := (yX7_figure, cX7_figure, 1, (some .int))
theorem mbX7_figure : MB 1 mX7_figure := ⟨tblG_2 114 rfl rfl, kcX7.1, kcX7.2.1, kcX7.2.2, by decide +kernel⟩
theorem miX7_figure : MS 1 mX7_figure := ⟨mbX7_figure, tblG_2 113 rfl rfl⟩
abbrev mX7_greatestDivisor : MT := (yX7_greatestDivisor, cX7_greatestDivisor, 6, (some .int))
theorem mbX7_greatestDivisor : MB 2 mX7_greatestDivisor := ⟨tblG_2 220 rfl rfl, kcX7.1, kcX7.2.1, kcX7.2.2, by decide +kernel⟩
theorem miX7_greatestDivisor : MS 2 mX7_greatestDivisor := ⟨mbX7_greatestDivisor, tblG_2 219 rfl rfl⟩
abbrev mX8_init : MT := (yX8_init, cX8_init, 2, none)
abbrev mX8_in : MT := (yX8_in, cX8_in, 6, (some .boolean))
theorem mbX8_in : MB 3 mX8_in := ⟨tblG_3 221 rfl rfl, kcX8.1, kcX8.2.1, kcX8.2.2, by decide +kernel⟩
theorem miX8_in : MS 3 mX8_in := ⟨mbX8_in, tblG_3 220 rfl rfl⟩
abbrev mX8_lost : MT := (yX8_lost, cX8_lost, 0, (some .long))
theorem mbX8_lost : MB 0 mX8_lost := ⟨tblG_4 84 rfl rfl, kcX8.1, kcX8.2.1, kcX8.2.2, by decide +kernel⟩
theorem miX8_lost : MS 0 mX8_lost := ⟨mbX8_lost, tblG_4 83 rfl rfl⟩
abbrev mX8_isIn : MT := (yX8_isIn, cX8_isIn, 2, (some .boolean))
theorem mbX8_isIn : MB 2 mX8_isIn := ⟨tblG_4 101 rfl rfl, kcX8.1, kcX8.2.1, kcX8.2.2, by decide +kernel⟩
theorem miX8_isIn : MS 2 mX8_isIn := ⟨mbX8_isIn, tblG_4 100 rfl rfl⟩
abbrev mX8_bits : MT := (yX8_bits, cX8_bits, 3, (some .int))
theorem mbX8_bits : MB 1 mX8_bits := ⟨tblG_4 98 rfl rfl, kcX8.1, kcX8.2.1, kcX8.2.2, by decide +kernel⟩
theorem miX8_bits : MS 1 mX8_bits := ⟨mbX8_bits, tblG_4 97 rfl rfl⟩
abbrev mX8_told : MT := (yX8_told, cX8_told, 11, (some .long))
theorem mbX8_told : MB 3 mX8_told := ⟨tblG_4 141 rfl rfl, kcX8.1, kcX8.2.1, kcX8.2.2, by decide +kernel⟩
theorem miX8_told : MS 3 mX8_told := ⟨mbX8_told, tblG_4 140 rfl rfl⟩
abbrev mX8_refused : MT := (yX8_refused, cX8_refused, 2, (some .int))
theorem mbX8_refused : MB 1 mX8_refused := ⟨tblG_3 225 rfl rfl, kcX8.1, kcX8.2.1, kcX8.2.2, by decide +kernel⟩
theorem miX8_refused : MI 1 mX8_refused := ⟨mbX8_refused, tblG_3 224 rfl rfl, tblG_s 17 rfl rfl⟩
abbrev mX8_failed : MT := (yX8_failed, cX8_failed, 2, (some .int))
theorem mbX8_failed : MB 1 mX8_failed := ⟨tblG_3 234 rfl rfl, kcX8.1, kcX8.2.1, kcX8.2.2, by decide +kernel⟩
theorem miX8_failed : MI 1 mX8_failed := ⟨mbX8_failed, tblG_3 233 rfl rfl, tblG_s 19 rfl rfl⟩
abbrev mX8_failedLong : MT := (yX8_failedLong, cX8_failedLong, 2, (some .long))
theorem mbX8_failedLong : MB 1 mX8_failedLong := ⟨tblG_4 185 rfl rfl, kcX8.1, kcX8.2.1, kcX8.2.2, by decide +kernel⟩
theorem miX8_failedLong : MI 1 mX8_failedLong := ⟨mbX8_failedLong, tblG_4 184 rfl rfl, tblG_s 40 rfl rfl⟩
abbrev mX8_noSuitor : MT := (yX8_noSuitor, cX8_noSuitor, 2, (some .boolean))
theorem mbX8_noSuitor : MB 1 mX8_noSuitor := ⟨tblG_4 33 rfl rfl, kcX8.1, kcX8.2.1, kcX8.2.2, by decide +kernel⟩
theorem miX8_noSuitor : MI 1 mX8_noSuitor := ⟨mbX8_noSuitor, tblG_4 32 rfl rfl, tblG_s 27 rfl rfl⟩
abbrev mX8_noMaid : MT := (yX8_noMaid, cX8_noMaid, 2, (some .boolean))
theorem mbX8_noMaid : MB 1 mX8_noMaid := ⟨tblG_4 29 rfl rfl, kcX8.1, kcX8.2.1, kcX8.2.2, by decide +kernel⟩
theorem miX8_noMaid : MI 1 mX8_noMaid := ⟨mbX8_noMaid, tblG_4 28 rfl rfl, tblG_s 26 rfl rfl⟩
abbrev mX8_codeAt : MT := (yX8_codeAt, cX8_codeAt, 3, (some .int))
theorem mbX8_codeAt : MB 2 mX8_codeAt := ⟨tblG_4 5 rfl rfl, kcX8.1, kcX8.2.1, kcX8.2.2, by decide +kernel⟩
theorem miX8_codeAt : MI 2 mX8_codeAt := ⟨mbX8_codeAt, tblG_4 4 rfl rfl, tblG_s 21 rfl rfl⟩
abbrev mX8_figure : MT := (yX8_figure, cX8_figure, 7, (some .int))
theorem mbX8_figure : MB 4 mX8_figure := ⟨tblG_4 9 rfl rfl, kcX8.1, kcX8.2.1, kcX8.2.2, by decide +kernel⟩
theorem miX8_figure : MI 4 mX8_figure := ⟨mbX8_figure, tblG_4 8 rfl rfl, tblG_s 22 rfl rfl⟩
abbrev mX8_readsMark : MT := (yX8_readsMark, cX8_readsMark, 4, (some .boolean))
theorem mbX8_readsMark : MB 2 mX8_readsMark := ⟨tblG_4 17 rfl rfl, kcX8.1, kcX8.2.1, kcX8.2.2, by decide +kernel⟩
theorem miX8_readsMark : MI 2 mX8_readsMark := ⟨mbX8_readsMark, tblG_4 16 rfl rfl, tblG_s 24 rfl rfl⟩
abbrev mX8_readsMaid : MT := (yX8_readsMaid, cX8_readsMaid, 7, (some .boolean))
theorem mbX8_readsMaid : MB 3 mX8_readsMaid := ⟨tblG_4 13 rfl rfl, kcX8.1, kcX8.2.1, kcX8.2.2, by decide +kernel⟩
theorem miX8_readsMaid : MI 3 mX8_readsMaid := ⟨mbX8_readsMaid, tblG_4 12 rfl rfl, tblG_s 23 rfl rfl⟩
abbrev mX8_readsSuitor : MT := (yX8_readsSuitor, cX8_readsSuitor, 6, (some .boolean))
theorem mbX8_readsSuitor : MB 3 mX8_readsSuitor := ⟨tblG_4 21 rfl rfl, kcX8.1, kcX8.2.1, kcX8.2.2, by decide +kernel⟩
theorem miX8_readsSuitor : MI 3 mX8_readsSuitor := ⟨mbX8_readsSuitor, tblG_4 20 rfl rfl, tblG_s 25 rfl rfl⟩
abbrev mX8_readsValley : MT := (yX8_readsValley, cX8_readsValley, 5, (some .boolean))
theorem mbX8_readsValley : MB 2 mX8_readsValley := ⟨tblG_4 1 rfl rfl, kcX8.1, kcX8.2.1, kcX8.2.2, by decide +kernel⟩
theorem miX8_readsValley : MI 2 mX8_readsValley := ⟨mbX8_readsValley, tblG_4 0 rfl rfl, tblG_s 20 rfl rfl⟩
abbrev mX8_cellsBarred : MT := (yX8_cellsBarred, cX8_cellsBarred, 6, (some .int))
theorem mbX8_cellsBarred : MB 4 mX8_cellsBarred := ⟨tblG_3 230 rfl rfl, kcX8.1, kcX8.2.1, kcX8.2.2, by decide +kernel⟩
theorem miX8_cellsBarred : MI 4 mX8_cellsBarred := ⟨mbX8_cellsBarred, tblG_3 229 rfl rfl, tblG_s 18 rfl rfl⟩
abbrev mX8_valley : MT := (yX8_valley, cX8_valley, 8, (some .int))
theorem mbX8_valley : MB 4 mX8_valley := ⟨tblG_3 214 rfl rfl, kcX8.1, kcX8.2.1, kcX8.2.2, by decide +kernel⟩
theorem miX8_valley : MI 4 mX8_valley := ⟨mbX8_valley, tblG_3 212 rfl rfl, tblG_3 213 rfl rfl⟩
abbrev mX8_likes : MT := (yX8_likes, cX8_likes, 4, (some .int))
theorem mbX8_likes : MB 3 mX8_likes := ⟨tblG_4 25 rfl rfl, kcX8.1, kcX8.2.1, kcX8.2.2, by decide +kernel⟩
theorem miX8_likes : MI 3 mX8_likes := ⟨mbX8_likes, tblG_4 23 rfl rfl, tblG_4 24 rfl rfl⟩
abbrev mX8_like : MT := (yX8_like, cX8_like, 7, (some .int))
theorem mbX8_like : MB 4 mX8_like := ⟨tblG_4 37 rfl rfl, kcX8.1, kcX8.2.1, kcX8.2.2, by decide +kernel⟩
theorem miX8_like : MI 4 mX8_like := ⟨mbX8_like, tblG_4 35 rfl rfl, tblG_4 36 rfl rfl⟩
abbrev mX8_mindOf : MT := (yX8_mindOf, cX8_mindOf, 2, (some .int))
theorem mbX8_mindOf : MB 2 mX8_mindOf := ⟨tblG_4 61 rfl rfl, kcX8.1, kcX8.2.1, kcX8.2.2, by decide +kernel⟩
theorem miX8_mindOf : MS 2 mX8_mindOf := ⟨mbX8_mindOf, tblG_4 60 rfl rfl⟩
abbrev mX8_ofMaid : MT := (yX8_ofMaid, cX8_ofMaid, 3, (some .int))
theorem mbX8_ofMaid : MB 2 mX8_ofMaid := ⟨tblG_4 42 rfl rfl, kcX8.1, kcX8.2.1, kcX8.2.2, by decide +kernel⟩
theorem miX8_ofMaid : MI 2 mX8_ofMaid := ⟨mbX8_ofMaid, tblG_4 40 rfl rfl, tblG_4 41 rfl rfl⟩
abbrev mX8_law : MT := (yX8_law, cX8_law, 3, (some .int))
theorem mbX8_law : MB 1 mX8_law := ⟨tblG_4 65 rfl rfl, kcX8.1, kcX8.2.1, kcX8.2.2, by decide +kernel⟩
theorem miX8_law : MI 1 mX8_law := ⟨mbX8_law, tblG_4 63 rfl rfl, tblG_4 64 rfl rfl⟩
abbrev mX8_begin : MT := (yX8_begin, cX8_begin, 2, none)
theorem mbX8_begin : MB 0 mX8_begin := ⟨tblG_4 50 rfl rfl, kcX8.1, kcX8.2.1, kcX8.2.2, by decide +kernel⟩
theorem miX8_begin : MI 0 mX8_begin := ⟨mbX8_begin, tblG_4 49 rfl rfl, tblG_s 29 rfl rfl⟩
abbrev mX8_doesWith : MT := (yX8_doesWith, cX8_doesWith, 3, (some .int))
theorem mbX8_doesWith : MB 2 mX8_doesWith := ⟨tblG_4 58 rfl rfl, kcX8.1, kcX8.2.1, kcX8.2.2, by decide +kernel⟩
theorem miX8_doesWith : MI 2 mX8_doesWith := ⟨mbX8_doesWith, tblG_4 57 rfl rfl, tblG_s 31 rfl rfl⟩
abbrev mX8_ask : MT := (yX8_ask, cX8_ask, 4, (some .int))
theorem mbX8_ask : MB 2 mX8_ask := ⟨tblG_4 54 rfl rfl, kcX8.1, kcX8.2.1, kcX8.2.2, by decide +kernel⟩
theorem miX8_ask : MI 2 mX8_ask := ⟨mbX8_ask, tblG_4 53 rfl rfl, tblG_s 30 rfl rfl⟩
abbrev mX8_goOffers : MT := (yX8_goOffers, cX8_goOffers, 2, none)
theorem mbX8_goOffers : MB 0 mX8_goOffers := ⟨tblG_4 46 rfl rfl, kcX8.1, kcX8.2.1, kcX8.2.2, by decide +kernel⟩
theorem miX8_goOffers : MI 0 mX8_goOffers := ⟨mbX8_goOffers, tblG_4 45 rfl rfl, tblG_s 28 rfl rfl⟩
abbrev mX8_offer : MT := (yX8_offer, cX8_offer, 3, (some .int))
theorem mbX8_offer : MB 2 mX8_offer := ⟨tblG_4 69 rfl rfl, kcX8.1, kcX8.2.1, kcX8.2.2, by decide +kernel⟩
theorem miX8_offer : MI 2 mX8_offer := ⟨mbX8_offer, tblG_4 67 rfl rfl, tblG_4 68 rfl rfl⟩
abbrev mX8_comes : MT := (yX8_comes, cX8_comes, 2, (some .int))
theorem mbX8_comes : MB 1 mX8_comes := ⟨tblG_4 73 rfl rfl, kcX8.1, kcX8.2.1, kcX8.2.2, by decide +kernel⟩
theorem miX8_comes : MI 1 mX8_comes := ⟨mbX8_comes, tblG_4 71 rfl rfl, tblG_4 72 rfl rfl⟩
abbrev mX8_undo : MT := (yX8_undo, cX8_undo, 2, (some .int))
theorem mbX8_undo : MB 1 mX8_undo := ⟨tblG_4 77 rfl rfl, kcX8.1, kcX8.2.1, kcX8.2.2, by decide +kernel⟩
theorem miX8_undo : MI 1 mX8_undo := ⟨mbX8_undo, tblG_4 75 rfl rfl, tblG_4 76 rfl rfl⟩
abbrev mX8_pairs : MT := (yX8_pairs, cX8_pairs, 4, (some .long))
theorem mbX8_pairs : MB 0 mX8_pairs := ⟨tblG_4 81 rfl rfl, kcX8.1, kcX8.2.1, kcX8.2.2, by decide +kernel⟩
theorem miX8_pairs : MI 0 mX8_pairs := ⟨mbX8_pairs, tblG_4 79 rfl rfl, tblG_4 80 rfl rfl⟩
abbrev mX8_asked : MT := (yX8_asked, cX8_asked, 14, (some .int))
theorem mbX8_asked : MB 6 mX8_asked := ⟨tblG_4 90 rfl rfl, kcX8.1, kcX8.2.1, kcX8.2.2, by decide +kernel⟩
theorem miX8_asked : MI 6 mX8_asked := ⟨mbX8_asked, tblG_4 88 rfl rfl, tblG_4 89 rfl rfl⟩
abbrev mX8_doBring : MT := (yX8_doBring, cX8_doBring, 6, (some .boolean))
theorem mbX8_doBring : MB 3 mX8_doBring := ⟨tblG_4 105 rfl rfl, kcX8.1, kcX8.2.1, kcX8.2.2, by decide +kernel⟩
theorem miX8_doBring : MI 3 mX8_doBring := ⟨mbX8_doBring, tblG_4 104 rfl rfl, tblG_s 32 rfl rfl⟩
abbrev mX8_sent : MT := (yX8_sent, cX8_sent, 6, (some .int))
theorem mbX8_sent : MB 2 mX8_sent := ⟨tblG_4 95 rfl rfl, kcX8.1, kcX8.2.1, kcX8.2.2, by decide +kernel⟩
theorem miX8_sent : MI 2 mX8_sent := ⟨mbX8_sent, tblG_4 93 rfl rfl, tblG_4 94 rfl rfl⟩
abbrev mX8_likesHer : MT := (yX8_likesHer, cX8_likesHer, 2, (some .int))
theorem mbX8_likesHer : MB 1 mX8_likesHer := ⟨tblG_4 125 rfl rfl, kcX8.1, kcX8.2.1, kcX8.2.2, by decide +kernel⟩
theorem miX8_likesHer : MI 1 mX8_likesHer := ⟨mbX8_likesHer, tblG_4 124 rfl rfl, tblG_s 36 rfl rfl⟩
abbrev mX8_likesHim : MT := (yX8_likesHim, cX8_likesHim, 2, (some .int))
theorem mbX8_likesHim : MB 1 mX8_likesHim := ⟨tblG_4 129 rfl rfl, kcX8.1, kcX8.2.1, kcX8.2.2, by decide +kernel⟩
theorem miX8_likesHim : MI 1 mX8_likesHim := ⟨mbX8_likesHim, tblG_4 128 rfl rfl, tblG_s 37 rfl rfl⟩
abbrev mX8_isFirm : MT := (yX8_isFirm, cX8_isFirm, 5, (some .boolean))
theorem mbX8_isFirm : MB 0 mX8_isFirm := ⟨tblG_4 121 rfl rfl, kcX8.1, kcX8.2.1, kcX8.2.2, by decide +kernel⟩
theorem miX8_isFirm : MI 0 mX8_isFirm := ⟨mbX8_isFirm, tblG_4 120 rfl rfl, tblG_s 35 rfl rfl⟩
abbrev mX8_laysMatch : MT := (yX8_laysMatch, cX8_laysMatch, 6, (some .boolean))
theorem mbX8_laysMatch : MB 1 mX8_laysMatch := ⟨tblG_4 117 rfl rfl, kcX8.1, kcX8.2.1, kcX8.2.2, by decide +kernel⟩
theorem miX8_laysMatch : MI 1 mX8_laysMatch := ⟨mbX8_laysMatch, tblG_4 116 rfl rfl, tblG_s 34 rfl rfl⟩
abbrev mX8_power : MT := (yX8_power, cX8_power, 4, (some .int))
theorem mbX8_power : MB 1 mX8_power := ⟨tblG_4 113 rfl rfl, kcX8.1, kcX8.2.1, kcX8.2.2, by decide +kernel⟩
theorem miX8_power : MI 1 mX8_power := ⟨mbX8_power, tblG_4 112 rfl rfl, tblG_s 33 rfl rfl⟩
abbrev mX8_firm : MT := (yX8_firm, cX8_firm, 4, (some .int))
theorem mbX8_firm : MB 1 mX8_firm := ⟨tblG_4 109 rfl rfl, kcX8.1, kcX8.2.1, kcX8.2.2, by decide +kernel⟩
theorem miX8_firm : MI 1 mX8_firm := ⟨mbX8_firm, tblG_4 107 rfl rfl, tblG_4 108 rfl rfl⟩
abbrev mX8_brought : MT := (yX8_brought, cX8_brought, 5, (some .int))
theorem mbX8_brought : MB 0 mX8_brought := ⟨tblG_4 133 rfl rfl, kcX8.1, kcX8.2.1, kcX8.2.2, by decide +kernel⟩
theorem miX8_brought : MI 0 mX8_brought := ⟨mbX8_brought, tblG_4 131 rfl rfl, tblG_4 132 rfl rfl⟩
abbrev mX8_worth : MT := (yX8_worth, cX8_worth, 16, (some .long))
theorem mbX8_worth : MB 4 mX8_worth := ⟨tblG_4 137 rfl rfl, kcX8.1, kcX8.2.1, kcX8.2.2, by decide +kernel⟩
theorem miX8_worth : MI 4 mX8_worth := ⟨mbX8_worth, tblG_4 135 rfl rfl, tblG_4 136 rfl rfl⟩
abbrev mX8_reading : MT := (yX8_reading, cX8_reading, 5, (some .int))
theorem mbX8_reading : MB 4 mX8_reading := ⟨tblG_4 145 rfl rfl, kcX8.1, kcX8.2.1, kcX8.2.2, by decide +kernel⟩
theorem miX8_reading : MI 4 mX8_reading := ⟨mbX8_reading, tblG_4 143 rfl rfl, tblG_4 144 rfl rfl⟩
abbrev mX8_back : MT := (yX8_back, cX8_back, 2, (some .int))
theorem mbX8_back : MB 1 mX8_back := ⟨tblG_4 149 rfl rfl, kcX8.1, kcX8.2.1, kcX8.2.2, by decide +kernel⟩
theorem miX8_back : MI 1 mX8_back := ⟨mbX8_back, tblG_4 147 rfl rfl, tblG_4 148 rfl rfl⟩
abbrev mX8_isSo : MT := (yX8_isSo, cX8_isSo, 4, (some .boolean))
theorem mbX8_isSo : MB 3 mX8_isSo := ⟨tblG_4 157 rfl rfl, kcX8.1, kcX8.2.1, kcX8.2.2, by decide +kernel⟩
theorem miX8_isSo : MI 3 mX8_isSo := ⟨mbX8_isSo, tblG_4 156 rfl rfl, tblG_s 38 rfl rfl⟩
abbrev mX8_learnt : MT := (yX8_learnt, cX8_learnt, 9, (some .int))
theorem mbX8_learnt : MB 3 mX8_learnt := ⟨tblG_4 153 rfl rfl, kcX8.1, kcX8.2.1, kcX8.2.2, by decide +kernel⟩
theorem miX8_learnt : MI 3 mX8_learnt := ⟨mbX8_learnt, tblG_4 151 rfl rfl, tblG_4 152 rfl rfl⟩
abbrev mX8_kinds : MT := (yX8_kinds, cX8_kinds, 6, (some .int))
theorem mbX8_kinds : MB 1 mX8_kinds := ⟨tblG_4 161 rfl rfl, kcX8.1, kcX8.2.1, kcX8.2.2, by decide +kernel⟩
theorem miX8_kinds : MI 1 mX8_kinds := ⟨mbX8_kinds, tblG_4 159 rfl rfl, tblG_4 160 rfl rfl⟩
abbrev mX8_noSheet : MT := (yX8_noSheet, cX8_noSheet, 1, (some .boolean))
theorem mbX8_noSheet : MB 1 mX8_noSheet := ⟨tblG_3 217 rfl rfl, kcX8.1, kcX8.2.1, kcX8.2.2, by decide +kernel⟩
theorem miX8_noSheet : MS 1 mX8_noSheet := ⟨mbX8_noSheet, tblG_3 216 rfl rfl⟩
abbrev mX8_sheet : MT := (yX8_sheet, cX8_sheet, 5, (some .int))
theorem mbX8_sheet : MB 3 mX8_sheet := ⟨tblG_4 165 rfl rfl, kcX8.1, kcX8.2.1, kcX8.2.2, by decide +kernel⟩
theorem miX8_sheet : MI 3 mX8_sheet := ⟨mbX8_sheet, tblG_4 163 rfl rfl, tblG_4 164 rfl rfl⟩
abbrev mX8_lose : MT := (yX8_lose, cX8_lose, 3, (some .int))
theorem mbX8_lose : MB 1 mX8_lose := ⟨tblG_4 169 rfl rfl, kcX8.1, kcX8.2.1, kcX8.2.2, by decide +kernel⟩
theorem miX8_lose : MI 1 mX8_lose := ⟨mbX8_lose, tblG_4 167 rfl rfl, tblG_4 168 rfl rfl⟩
abbrev mX8_noCell : MT := (yX8_noCell, cX8_noCell, 3, (some .int))
theorem mbX8_noCell : MB 2 mX8_noCell := ⟨tblG_4 177 rfl rfl, kcX8.1, kcX8.2.1, kcX8.2.2, by decide +kernel⟩
theorem miX8_noCell : MI 2 mX8_noCell := ⟨mbX8_noCell, tblG_4 176 rfl rfl, tblG_s 39 rfl rfl⟩
abbrev mX8_put : MT := (yX8_put, cX8_put, 4, (some .int))
theorem mbX8_put : MB 3 mX8_put := ⟨tblG_4 173 rfl rfl, kcX8.1, kcX8.2.1, kcX8.2.2, by decide +kernel⟩
theorem miX8_put : MI 3 mX8_put := ⟨mbX8_put, tblG_4 171 rfl rfl, tblG_4 172 rfl rfl⟩
abbrev mX8_cell : MT := (yX8_cell, cX8_cell, 4, (some .long))
theorem mbX8_cell : MB 3 mX8_cell := ⟨tblG_4 181 rfl rfl, kcX8.1, kcX8.2.1, kcX8.2.2, by decide +kernel⟩
theorem miX8_cell : MI 3 mX8_cell := ⟨mbX8_cell, tblG_4 179 rfl rfl, tblG_4 180 rfl rfl⟩
abbrev mX8_isBeyond : MT := (yX8_isBeyond, cX8_isBeyond, 4, (some .boolean))
theorem mbX8_isBeyond : MB 3 mX8_isBeyond := ⟨tblG_3 237 rfl rfl, kcX8.1, kcX8.2.1, kcX8.2.2, by decide +kernel⟩
theorem miX8_isBeyond : MS 3 mX8_isBeyond := ⟨mbX8_isBeyond, tblG_3 236 rfl rfl⟩
abbrev mX8_copy : MT := (yX8_copy, cX8_copy, 7, (some .int))
theorem mbX8_copy : MB 5 mX8_copy := ⟨tblG_4 189 rfl rfl, kcX8.1, kcX8.2.1, kcX8.2.2, by decide +kernel⟩
theorem miX8_copy : MI 5 mX8_copy := ⟨mbX8_copy, tblG_4 187 rfl rfl, tblG_4 188 rfl rfl⟩
abbrev mX8_traced : MT := (yX8_traced, cX8_traced, 2, none)
theorem mbX8_traced : MB 1 mX8_traced := ⟨tblG_4 197 rfl rfl, kcX8.1, kcX8.2.1, kcX8.2.2, by decide +kernel⟩
theorem miX8_traced : MI 1 mX8_traced := ⟨mbX8_traced, tblG_4 196 rfl rfl, tblG_s 41 rfl rfl⟩
abbrev mX8_tell : MT := (yX8_tell, cX8_tell, 3, (some .int))
theorem mbX8_tell : MB 1 mX8_tell := ⟨tblG_4 193 rfl rfl, kcX8.1, kcX8.2.1, kcX8.2.2, by decide +kernel⟩
theorem miX8_tell : MI 1 mX8_tell := ⟨mbX8_tell, tblG_4 191 rfl rfl, tblG_4 192 rfl rfl⟩
abbrev mX8_greet : MT := (yX8_greet, cX8_greet, 2, (some .int))
theorem mbX8_greet : MB 1 mX8_greet := ⟨tblG_4 201 rfl rfl, kcX8.1, kcX8.2.1, kcX8.2.2, by decide +kernel⟩
theorem miX8_greet : MI 1 mX8_greet := ⟨mbX8_greet, tblG_4 199 rfl rfl, tblG_4 200 rfl rfl⟩
abbrev mX8_as : MT := (yX8_as, cX8_as, 3, (some .int))
theorem mbX8_as : MB 2 mX8_as := ⟨tblG_4 205 rfl rfl, kcX8.1, kcX8.2.1, kcX8.2.2, by decide +kernel⟩
theorem miX8_as : MI 2 mX8_as := ⟨mbX8_as, tblG_4 203 rfl rfl, tblG_4 204 rfl rfl⟩
abbrev mX8_trace : MT := (yX8_trace, cX8_trace, 1, (some .int))
theorem mbX8_trace : MB 0 mX8_trace := ⟨tblG_4 209 rfl rfl, kcX8.1, kcX8.2.1, kcX8.2.2, by decide +kernel⟩
theorem miX8_trace : MI 0 mX8_trace := ⟨mbX8_trace, tblG_4 207 rfl rfl, tblG_4 208 rfl rfl⟩
abbrev mX8_fault : MT := (yX8_fault, cX8_fault, 1, (some .int))
theorem mbX8_fault : MB 0 mX8_fault := ⟨tblG_4 213 rfl rfl, kcX8.1, kcX8.2.1, kcX8.2.2, by decide +kernel⟩
theorem miX8_fault : MI 0 mX8_fault := ⟨mbX8_fault, tblG_4 211 rfl rfl, tblG_4 212 rfl rfl⟩
abbrev mX8_many : MT := (yX8_many, cX8_many, 2, (some .int))
theorem mbX8_many : MB 1 mX8_many := ⟨tblG_4 217 rfl rfl, kcX8.1, kcX8.2.1, kcX8.2.2, by decide +kernel⟩
theorem miX8_many : MI 1 mX8_many := ⟨mbX8_many, tblG_4 215 rfl rfl, tblG_4 216 rfl rfl⟩
abbrev mJ6_bitCount_0f7a4 : MT := (yJ6_bitCount_0f7a4, cJ6_bitCount_0f7a4, 1, (some .int))
theorem mbJ6_bitCount_0f7a4 : MB 1 mJ6_bitCount_0f7a4 := ⟨tblG_2 146 rfl rfl, kcJ6.1, kcJ6.2.1, kcJ6.2.2, by decide +kernel⟩
theorem miJ6_bitCount_0f7a4 : MS 1 mJ6_bitCount_0f7a4 := ⟨mbJ6_bitCount_0f7a4, tblG_2 145 rfl rfl⟩
abbrev mJ7_fill_53178 : MT := (yJ7_fill_53178, cJ7_fill_53178, 4, none)
theorem mbJ7_fill_53178 : MB 2 mJ7_fill_53178 := ⟨tblG_2 36 rfl rfl, kcJ7.1, kcJ7.2.1, kcJ7.2.2, by decide +kernel⟩
theorem miJ7_fill_53178 : MS 2 mJ7_fill_53178 := ⟨mbJ7_fill_53178, tblG_2 35 rfl rfl⟩
theorem lX7_50 : ML RX7 50 mX7_isSheet := tblG_1 205 rfl rfl
theorem lX7_54 : ML RX7 54 mX7_faultless := tblG_1 208 rfl rfl
theorem lX7_58 : ML RX7 58 mX7_isLane := tblG_1 212 rfl rfl
theorem lX7_61 : ML RX7 61 mX4_faultOfCells := tblG_1 215 rfl rfl
theorem lX7_65 : ML RX7 65 mX7_faulted := tblG_1 227 rfl rfl
theorem lX7_68 : ML RX7 68 mX4_readInto := tblG_1 231 rfl rfl
theorem lX7_72 : ML RX7 72 mX5_firstFault := tblG_1 238 rfl rfl
theorem lX7_78 : ML RX7 78 mX6_settle := tblG_2 19 rfl rfl
theorem lX7_82 : ML RX7 82 mX2_forget := tblG_2 26 rfl rfl
theorem lX7_92 : ML RX7 92 mX6_hasMaid := tblG_2 41 rfl rfl
theorem lX7_95 : ML RX7 95 mX6_hasSuitor := tblG_2 45 rfl rfl
theorem lX7_98 : ML RX7 98 mX7_likings := tblG_2 49 rfl rfl
theorem lX7_102 : ML RX7 102 mX7_likes := tblG_2 57 rfl rfl
theorem lX7_105 : ML RX7 105 mX2_goThrough := tblG_2 58 rfl rfl
theorem lX7_124 : ML RX7 124 mX6_mind := tblG_2 81 rfl rfl
theorem lX7_128 : ML RX7 128 mX6_stands := tblG_2 86 rfl rfl
theorem lX7_136 : ML RX7 136 mX2_add := tblG_2 94 rfl rfl
theorem lX7_153 : ML RX7 153 mX7_figure := tblG_2 112 rfl rfl
theorem lX7_156 : ML RX7 156 mX6_areSuitors := tblG_2 119 rfl rfl
theorem lX7_160 : ML RX7 160 mX6_best := tblG_2 124 rfl rfl
theorem lX7_164 : ML RX7 164 mX6_minded := tblG_2 131 rfl rfl
theorem lX7_167 : ML RX7 167 mX6_fewestAhead := tblG_2 140 rfl rfl
theorem lX7_170 : ML RX7 170 mX1_countFirm := tblG_2 158 rfl rfl
theorem lX7_177 : ML RX7 177 mX1_countBringing := tblG_2 188 rfl rfl
theorem lX7_180 : ML RX7 180 mX6_rowsOf := tblG_2 205 rfl rfl
theorem lX7_183 : ML RX7 183 mX6_sumOverRows := tblG_2 209 rfl rfl
theorem lX7_186 : ML RX7 186 mX7_greatestDivisor := tblG_2 218 rfl rfl
theorem lX7_189 : ML RX7 189 mX3_add := tblG_2 225 rfl rfl
theorem lX7_192 : ML RX7 192 mX3_leastLiking := tblG_2 237 rfl rfl
theorem lX7_195 : ML RX7 195 mX3_greatestLiking := tblG_3 10 rfl rfl
theorem lX7_198 : ML RX7 198 mX3_kindsOf := tblG_3 18 rfl rfl
theorem lX7_202 : ML RX7 202 mX4_renew := tblG_3 30 rfl rfl
theorem lX7_210 : ML RX7 210 mX4_hasCell := tblG_3 43 rfl rfl
theorem lX7_213 : ML RX7 213 mX4_write := tblG_3 47 rfl rfl
theorem lX7_216 : ML RX7 216 mX7_lost := tblG_3 55 rfl rfl
theorem lX7_220 : ML RX7 220 mX4_faultOfRow := tblG_3 59 rfl rfl
theorem lX7_232 : ML RX7 232 mX4_hasCells := tblG_3 64 rfl rfl
theorem lX7_242 : ML RX7 242 mX7_tellAsProud := tblG_3 70 rfl rfl
theorem lX7_245 : ML RX7 245 mX7_tellAsHeiress := tblG_3 82 rfl rfl
theorem lX7_248 : ML RX7 248 mX7_tellAsMaid := tblG_3 78 rfl rfl
theorem lX7_251 : ML RX7 251 mX7_greetAsHeiress := tblG_3 90 rfl rfl
theorem lX7_255 : ML RX7 255 mX7_greetAsAnyone := tblG_3 94 rfl rfl
theorem lX7_268 : ML RX7 268 mX7_mark := tblG_3 74 rfl rfl
theorem lX0_21 : ML RX0 21 mJ7_fill_53178 := tblG_2 34 rfl rfl
theorem lX0_27 : ML RX0 27 mX6_answer := tblG_2 66 rfl rfl
theorem lX0_33 : ML RX0 33 mX0_wed := tblG_2 73 rfl rfl
theorem lX0_37 : ML RX0 37 mX0_part := tblG_2 200 rfl rfl
theorem lX0_47 : ML RX0 47 mX0_wouldBreak := tblG_2 170 rfl rfl
theorem lX1_22 : ML RX1 22 mX0_begin := tblG_2 162 rfl rfl
theorem lX1_29 : ML RX1 29 mX1_matchFrom := tblG_2 163 rfl rfl
theorem lX1_33 : ML RX1 33 mX0_isBroken := tblG_2 166 rfl rfl
theorem lX1_42 : ML RX1 42 mX1_keep := tblG_2 174 rfl rfl
theorem lX1_51 : ML RX1 51 mX0_wed := tblG_2 179 rfl rfl
theorem lX1_55 : ML RX1 55 mX0_part := tblG_2 180 rfl rfl
theorem lX1_67 : ML RX1 67 mX1_bringingFrom := tblG_2 192 rfl rfl
theorem lX1_71 : ML RX1 71 mX0_ask := tblG_2 195 rfl rfl
theorem lX1_75 : ML RX1 75 mX0_unask := tblG_2 196 rfl rfl
theorem lX2_32 : ML RX2 32 mX0_begin := tblG_2 30 rfl rfl
theorem lX2_35 : ML RX2 35 mX0_ask := tblG_2 62 rfl rfl
theorem lX3_29 : ML RX3 29 mX3_areSoByLiking := tblG_3 1 rfl rfl
theorem lX3_33 : ML RX3 33 mX3_areSoByKind := tblG_3 22 rfl rfl
theorem lX3_42 : ML RX3 42 mX3_isSo := tblG_3 5 rfl rfl
theorem lX3_50 : ML RX3 50 mX6_mind := tblG_3 9 rfl rfl
theorem lX4_15 : ML RX4 15 mJ7_fill_53178 := tblG_3 34 rfl rfl
theorem lX4_32 : ML RX4 32 mX4_faultOfRow := tblG_1 219 rfl rfl
theorem lX4_36 : ML RX4 36 mX4_hasCells := tblG_1 223 rfl rfl
theorem lX5_11 : ML RX5 11 mX5_fitsHead := tblG_2 1 rfl rfl
theorem lX5_15 : ML RX5 15 mX5_firstFaultBehindHead := tblG_2 4 rfl rfl
theorem lX5_19 : ML RX5 19 mX5_suitorPlace := tblG_2 7 rfl rfl
theorem lX5_23 : ML RX5 23 mX5_fitsPart := tblG_2 13 rfl rfl
theorem lX5_27 : ML RX5 27 mX5_kindOf := tblG_2 16 rfl rfl
theorem lX5_31 : ML RX5 31 mX5_maidPlace := tblG_2 10 rfl rfl
theorem lX6_30 : ML RX6 30 mX6_hasSuitor := tblG_2 123 rfl rfl
theorem lX6_37 : ML RX6 37 mX5_maidPlace := tblG_2 23 rfl rfl
theorem lX6_43 : ML RX6 43 mX5_kindOf := tblG_2 24 rfl rfl
theorem lX6_47 : ML RX6 47 mX5_suitorPlace := tblG_2 25 rfl rfl
theorem lX6_51 : ML RX6 51 mX6_mind := tblG_2 70 rfl rfl
theorem lX6_59 : ML RX6 59 mX6_answer := tblG_2 135 rfl rfl
theorem lX6_62 : ML RX6 62 mJ6_bitCount_0f7a4 := tblG_2 144 rfl rfl
theorem lX6_67 : ML RX6 67 mX6_bringsTo := tblG_2 150 rfl rfl
theorem lX6_71 : ML RX6 71 mX6_rowsOf := tblG_2 213 rfl rfl
theorem lX6_74 : ML RX6 74 mX6_sumOfFirst := tblG_2 214 rfl rfl
theorem lX8_77 : ML RX8 77 mX8_lost := tblG_4 82 rfl rfl
theorem lX8_84 : ML RX8 84 mX8_in := tblG_3 219 rfl rfl
theorem lX8_94 : ML RX8 94 mX8_codeAt := tblG_4 2 rfl rfl
theorem lX8_98 : ML RX8 98 mX8_readsMark := tblG_4 14 rfl rfl
theorem lX8_105 : ML RX8 105 mX8_figure := tblG_4 6 rfl rfl
theorem lX8_112 : ML RX8 112 mX8_readsMaid := tblG_4 10 rfl rfl
theorem lX8_116 : ML RX8 116 mX8_readsSuitor := tblG_4 18 rfl rfl
theorem lX8_119 : ML RX8 119 mX8_failed := tblG_3 231 rfl rfl
theorem lX8_123 : ML RX8 123 mX8_isBeyond := tblG_3 235 rfl rfl
theorem lX8_127 : ML RX8 127 mX8_noSheet := tblG_3 215 rfl rfl
theorem lX8_131 : ML RX8 131 mX8_refused := tblG_3 222 rfl rfl
theorem lX8_136 : ML RX8 136 mX8_cellsBarred := tblG_3 227 rfl rfl
theorem lX8_140 : ML RX8 140 mX8_readsValley := tblG_3 238 rfl rfl
theorem lX8_152 : ML RX8 152 mX8_noMaid := tblG_4 26 rfl rfl
theorem lX8_155 : ML RX8 155 mX8_noSuitor := tblG_4 30 rfl rfl
theorem lX8_160 : ML RX8 160 mX8_goOffers := tblG_4 43 rfl rfl
theorem lX8_163 : ML RX8 163 mX8_mindOf := tblG_4 59 rfl rfl
theorem lX8_166 : ML RX8 166 mX8_doesWith := tblG_4 55 rfl rfl
theorem lX8_169 : ML RX8 169 mX8_begin := tblG_4 47 rfl rfl
theorem lX8_172 : ML RX8 172 mX8_ask := tblG_4 51 rfl rfl
theorem lX8_179 : ML RX8 179 mX8_isIn := tblG_4 99 rfl rfl
theorem lX8_182 : ML RX8 182 mX8_bits := tblG_4 96 rfl rfl
theorem lX8_185 : ML RX8 185 mX8_doBring := tblG_4 102 rfl rfl
theorem lX8_188 : ML RX8 188 mX8_likesHer := tblG_4 122 rfl rfl
theorem lX8_191 : ML RX8 191 mX8_likesHim := tblG_4 126 rfl rfl
theorem lX8_194 : ML RX8 194 mX8_power := tblG_4 110 rfl rfl
theorem lX8_197 : ML RX8 197 mX8_laysMatch := tblG_4 114 rfl rfl
theorem lX8_200 : ML RX8 200 mX8_isFirm := tblG_4 118 rfl rfl
theorem lX8_208 : ML RX8 208 mX8_told := tblG_4 139 rfl rfl
theorem lX8_212 : ML RX8 212 mX8_isSo := tblG_4 154 rfl rfl
theorem lX8_215 : ML RX8 215 mX8_noCell := tblG_4 174 rfl rfl
theorem lX8_218 : ML RX8 218 mX8_failedLong := tblG_4 182 rfl rfl
theorem lX8_225 : ML RX8 225 mX8_traced := tblG_4 194 rfl rfl
theorem lL_13 : ML "ThreeRefusalsLaw" 13 mX7_valley := tblG_1 201 rfl rfl
theorem lL_17 : ML "ThreeRefusalsLaw" 17 mX8_valley := tblG_3 211 rfl rfl
theorem lL_18 : ML "ThreeRefusalsLaw" 18 mX7_likes := tblG_2 37 rfl rfl
theorem lL_22 : ML "ThreeRefusalsLaw" 22 mX8_likes := tblG_4 22 rfl rfl
theorem lL_23 : ML "ThreeRefusalsLaw" 23 mX7_like := tblG_2 53 rfl rfl
theorem lL_26 : ML "ThreeRefusalsLaw" 26 mX8_like := tblG_4 34 rfl rfl
theorem lL_27 : ML "ThreeRefusalsLaw" 27 mX7_ofMaid := tblG_2 77 rfl rfl
theorem lL_31 : ML "ThreeRefusalsLaw" 31 mX8_ofMaid := tblG_4 39 rfl rfl
theorem lL_32 : ML "ThreeRefusalsLaw" 32 mX7_law := tblG_2 82 rfl rfl
theorem lL_36 : ML "ThreeRefusalsLaw" 36 mX8_law := tblG_4 62 rfl rfl
theorem lL_37 : ML "ThreeRefusalsLaw" 37 mX7_offer := tblG_2 90 rfl rfl
theorem lL_40 : ML "ThreeRefusalsLaw" 40 mX8_offer := tblG_4 66 rfl rfl
theorem lL_41 : ML "ThreeRefusalsLaw" 41 mX7_comes := tblG_2 98 rfl rfl
theorem lL_44 : ML "ThreeRefusalsLaw" 44 mX8_comes := tblG_4 70 rfl rfl
theorem lL_45 : ML "ThreeRefusalsLaw" 45 mX7_undo := tblG_2 102 rfl rfl
theorem lL_48 : ML "ThreeRefusalsLaw" 48 mX8_undo := tblG_4 74 rfl rfl
theorem lL_49 : ML "ThreeRefusalsLaw" 49 mX7_pairs := tblG_2 106 rfl rfl
theorem lL_53 : ML "ThreeRefusalsLaw" 53 mX8_pairs := tblG_4 78 rfl rfl
theorem lL_54 : ML "ThreeRefusalsLaw" 54 mX7_asked := tblG_2 115 rfl rfl
theorem lL_58 : ML "ThreeRefusalsLaw" 58 mX8_asked := tblG_4 87 rfl rfl
theorem lL_59 : ML "ThreeRefusalsLaw" 59 mX7_sent := tblG_2 136 rfl rfl
theorem lL_62 : ML "ThreeRefusalsLaw" 62 mX8_sent := tblG_4 92 rfl rfl
theorem lL_63 : ML "ThreeRefusalsLaw" 63 mX7_firm := tblG_2 154 rfl rfl
theorem lL_66 : ML "ThreeRefusalsLaw" 66 mX8_firm := tblG_4 106 rfl rfl
theorem lL_67 : ML "ThreeRefusalsLaw" 67 mX7_brought := tblG_2 184 rfl rfl
theorem lL_71 : ML "ThreeRefusalsLaw" 71 mX8_brought := tblG_4 130 rfl rfl
theorem lL_72 : ML "ThreeRefusalsLaw" 72 mX7_worth := tblG_2 201 rfl rfl
theorem lL_76 : ML "ThreeRefusalsLaw" 76 mX8_worth := tblG_4 134 rfl rfl
theorem lL_77 : ML "ThreeRefusalsLaw" 77 mX7_reading := tblG_2 221 rfl rfl
theorem lL_81 : ML "ThreeRefusalsLaw" 81 mX8_reading := tblG_4 142 rfl rfl
theorem lL_82 : ML "ThreeRefusalsLaw" 82 mX7_back := tblG_2 229 rfl rfl
theorem lL_85 : ML "ThreeRefusalsLaw" 85 mX8_back := tblG_4 146 rfl rfl
theorem lL_86 : ML "ThreeRefusalsLaw" 86 mX7_learnt := tblG_2 233 rfl rfl
theorem lL_89 : ML "ThreeRefusalsLaw" 89 mX8_learnt := tblG_4 150 rfl rfl
theorem lL_90 : ML "ThreeRefusalsLaw" 90 mX7_kinds := tblG_3 14 rfl rfl
theorem lL_93 : ML "ThreeRefusalsLaw" 93 mX8_kinds := tblG_4 158 rfl rfl
theorem lL_94 : ML "ThreeRefusalsLaw" 94 mX7_sheet := tblG_3 26 rfl rfl
theorem lL_97 : ML "ThreeRefusalsLaw" 97 mX8_sheet := tblG_4 162 rfl rfl
theorem lL_98 : ML "ThreeRefusalsLaw" 98 mX7_lose := tblG_3 35 rfl rfl
theorem lL_101 : ML "ThreeRefusalsLaw" 101 mX8_lose := tblG_4 166 rfl rfl
theorem lL_102 : ML "ThreeRefusalsLaw" 102 mX7_put := tblG_3 39 rfl rfl
theorem lL_105 : ML "ThreeRefusalsLaw" 105 mX8_put := tblG_4 170 rfl rfl
theorem lL_106 : ML "ThreeRefusalsLaw" 106 mX7_cell := tblG_3 51 rfl rfl
theorem lL_110 : ML "ThreeRefusalsLaw" 110 mX8_cell := tblG_4 178 rfl rfl
theorem lL_111 : ML "ThreeRefusalsLaw" 111 mX7_copy := tblG_3 60 rfl rfl
theorem lL_115 : ML "ThreeRefusalsLaw" 115 mX8_copy := tblG_4 186 rfl rfl
theorem lL_116 : ML "ThreeRefusalsLaw" 116 mX7_tell := tblG_3 66 rfl rfl
theorem lL_119 : ML "ThreeRefusalsLaw" 119 mX8_tell := tblG_4 190 rfl rfl
theorem lL_120 : ML "ThreeRefusalsLaw" 120 mX7_greet := tblG_3 86 rfl rfl
theorem lL_123 : ML "ThreeRefusalsLaw" 123 mX8_greet := tblG_4 198 rfl rfl
theorem lL_124 : ML "ThreeRefusalsLaw" 124 mX7_as := tblG_3 98 rfl rfl
theorem lL_127 : ML "ThreeRefusalsLaw" 127 mX8_as := tblG_4 202 rfl rfl
theorem lL_128 : ML "ThreeRefusalsLaw" 128 mX7_trace := tblG_3 102 rfl rfl
theorem lL_131 : ML "ThreeRefusalsLaw" 131 mX8_trace := tblG_4 206 rfl rfl
theorem lL_132 : ML "ThreeRefusalsLaw" 132 mX7_fault := tblG_3 106 rfl rfl
theorem lL_135 : ML "ThreeRefusalsLaw" 135 mX8_fault := tblG_4 210 rfl rfl
theorem lL_136 : ML "ThreeRefusalsLaw" 136 mX7_many := tblG_3 110 rfl rfl
theorem lL_139 : ML "ThreeRefusalsLaw" 139 mX8_many := tblG_4 214 rfl rfl
def tX0_init : List (Nat × Instr × Nat) := [(0, .aload_n 0, 1), (1, .invokespecial 3, 3), (4, .aload_n 0, 1), (5, .iconst 4, 1), (6, .newarray .int, 2), (8, .putfield 9, 3), (11, .aload_n 0, 1), (12, .iconst 4, 1), (13, .newarray .int, 2), (15, .putfield 15, 3), (18, .aload_n 0, 1), (19, .bipush 6, 2), (21, .newarray .int, 2), (23, .putfield 18, 3), (26, .return_, 1)]
theorem dX0_init : dall cX0_init tX0_init = true := by decide +kernel
def tX0_begin : List (Nat × Instr × Nat) := [(0, .aload_n 0, 1), (1, .getfield 9, 3), (4, .iconst 0, 1), (5, .invokestatic 21, 3), (8, .aload_n 0, 1), (9, .getfield 15, 3), (12, .iconst (-1), 1), (13, .invokestatic 21, 3), (16, .aload_n 0, 1), (17, .getfield 18, 3), (20, .iconst (-1), 1), (21, .invokestatic 21, 3), (24, .return_, 1)]
theorem dX0_begin : dall cX0_begin tX0_begin = true := by decide +kernel
def tX0_ask : List (Nat × Instr × Nat) := [(0, .aload_n 0, 1), (1, .getfield 18, 3), (4, .iload_n 2, 1), (5, .iaload, 1), (6, .iconst (-1), 1), (7, .if_icmp .ne 13, 3), (10, .aload_n 0, 1), (11, .getfield 15, 3), (14, .iload_n 3, 1), (15, .iaload, 1), (16, .iconst (-1), 1), (17, .if_icmp .eq 5, 3), (20, .iconst 0, 1), (21, .ireturn, 1), (22, .aload_n 1, 1), (23, .iload_n 3, 1), (24, .iload_n 2, 1), (25, .aload_n 0, 1), (26, .getfield 9, 3), (29, .iload_n 3, 1), (30, .iaload, 1), (31, .invokevirtual 27, 3), (34, .istore 4, 2), (36, .iload 4, 2), (38, .iconst 3, 1), (39, .if_icmp .ne 16, 3), (42, .aload_n 0, 1), (43, .getfield 9, 3), (46, .iload_n 3, 1), (47, .dup2, 1), (48, .iaload, 1), (49, .iconst 1, 1), (50, .iadd, 1), (51, .iastore, 1), (52, .goto 9, 3), (55, .aload_n 0, 1), (56, .iload_n 2, 1), (57, .iload_n 3, 1), (58, .invokevirtual 33, 3), (61, .iload 4, 2), (63, .ireturn, 1)]
theorem dX0_ask : dall cX0_ask tX0_ask = true := by decide +kernel
def tX0_unask : List (Nat × Instr × Nat) := [(0, .iload_n 3, 1), (1, .iconst 3, 1), (2, .if_icmp .ne 16, 3), (5, .aload_n 0, 1), (6, .getfield 9, 3), (9, .iload_n 2, 1), (10, .dup2, 1), (11, .iaload, 1), (12, .iconst 1, 1), (13, .isub, 1), (14, .iastore, 1), (15, .goto 13, 3), (18, .iload_n 3, 1), (19, .ifCond .eq 9, 3), (22, .aload_n 0, 1), (23, .iload_n 1, 1), (24, .iload_n 2, 1), (25, .invokevirtual 37, 3), (28, .return_, 1)]
theorem dX0_unask : dall cX0_unask tX0_unask = true := by decide +kernel
def tX0_wed : List (Nat × Instr × Nat) := [(0, .aload_n 0, 1), (1, .getfield 18, 3), (4, .iload_n 1, 1), (5, .iload_n 2, 1), (6, .iastore, 1), (7, .aload_n 0, 1), (8, .getfield 15, 3), (11, .iload_n 2, 1), (12, .iload_n 1, 1), (13, .iastore, 1), (14, .return_, 1)]
theorem dX0_wed : dall cX0_wed tX0_wed = true := by decide +kernel
def tX0_part : List (Nat × Instr × Nat) := [(0, .aload_n 0, 1), (1, .getfield 18, 3), (4, .iload_n 1, 1), (5, .iconst (-1), 1), (6, .iastore, 1), (7, .aload_n 0, 1), (8, .getfield 15, 3), (11, .iload_n 2, 1), (12, .iconst (-1), 1), (13, .iastore, 1), (14, .return_, 1)]
theorem dX0_part : dall cX0_part tX0_part = true := by decide +kernel
def tX0_isBroken : List (Nat × Instr × Nat) := [(0, .iload_n 2, 1), (1, .aload_n 1, 1), (2, .getfield 40, 3), (5, .if_icmp .lt 7, 3), (8, .iconst 1, 1), (9, .goto 4, 3), (12, .iconst 0, 1), (13, .istore_n 3, 1), (14, .iconst 0, 1), (15, .istore 4, 2), (17, .iload 4, 2), (19, .aload_n 1, 1), (20, .getfield 44, 3), (23, .if_icmp .ge 65, 3), (26, .iload_n 3, 1), (27, .ifCond .ne 14, 3), (30, .aload_n 0, 1), (31, .getfield 15, 3), (34, .iload 4, 2), (36, .iaload, 1), (37, .iconst (-1), 1), (38, .if_icmp .eq 7, 3), (41, .iconst 1, 1), (42, .goto 4, 3), (45, .iconst 0, 1), (46, .istore 5, 2), (48, .iconst 0, 1), (49, .istore 6, 2), (51, .iload 6, 2), (53, .iload_n 2, 1), (54, .if_icmp .ge 28, 3), (57, .iload 5, 2), (59, .ifCond .eq 23, 3), (62, .aload_n 0, 1), (63, .aload_n 1, 1), (64, .iload 6, 2), (66, .iload 4, 2), (68, .invokevirtual 47, 3), (71, .ifCond .eq 5, 3), (74, .iconst 1, 1), (75, .ireturn, 1), (76, .iinc 6 1, 3), (79, .goto (-28), 3), (82, .iinc 4 1, 3), (85, .goto (-68), 3), (88, .iconst 0, 1), (89, .ireturn, 1)]
theorem dX0_isBroken : dall cX0_isBroken tX0_isBroken = true := by decide +kernel
def tX0_wouldBreak : List (Nat × Instr × Nat) := [(0, .aload_n 0, 1), (1, .getfield 18, 3), (4, .iload_n 2, 1), (5, .iaload, 1), (6, .iconst (-1), 1), (7, .if_icmp .ne 7, 3), (10, .iconst (-1), 1), (11, .goto 16, 3), (14, .aload_n 1, 1), (15, .getfield 51, 3), (18, .aload_n 0, 1), (19, .getfield 18, 3), (22, .iload_n 2, 1), (23, .iaload, 1), (24, .aaload, 1), (25, .iload_n 2, 1), (26, .iaload, 1), (27, .istore 4, 2), (29, .aload_n 0, 1), (30, .getfield 15, 3), (33, .iload_n 3, 1), (34, .iaload, 1), (35, .iconst (-1), 1), (36, .if_icmp .ne 7, 3), (39, .iconst (-1), 1), (40, .goto 16, 3), (43, .aload_n 1, 1), (44, .getfield 55, 3), (47, .iload_n 3, 1), (48, .aaload, 1), (49, .aload_n 0, 1), (50, .getfield 15, 3), (53, .iload_n 3, 1), (54, .iaload, 1), (55, .iaload, 1), (56, .istore 5, 2), (58, .aload_n 1, 1), (59, .getfield 51, 3), (62, .iload_n 3, 1), (63, .aaload, 1), (64, .iload_n 2, 1), (65, .iaload, 1), (66, .iload 4, 2), (68, .if_icmp .le 20, 3), (71, .aload_n 1, 1), (72, .getfield 55, 3), (75, .iload_n 3, 1), (76, .aaload, 1), (77, .iload_n 2, 1), (78, .iaload, 1), (79, .iload 5, 2), (81, .if_icmp .le 7, 3), (84, .iconst 1, 1), (85, .goto 4, 3), (88, .iconst 0, 1), (89, .ireturn, 1)]
theorem dX0_wouldBreak : dall cX0_wouldBreak tX0_wouldBreak = true := by decide +kernel
def tX1_init : List (Nat × Instr × Nat) := [(0, .aload_n 0, 1), (1, .invokespecial 3, 3), (4, .aload_n 0, 1), (5, .new 9, 3), (8, .dup, 1), (9, .invokespecial 11, 3), (12, .putfield 12, 3), (15, .aload_n 0, 1), (16, .bipush 6, 2), (18, .newarray .int, 2), (20, .putfield 18, 3), (23, .return_, 1)]
theorem dX1_init : dall cX1_init tX1_init = true := by decide +kernel
def tX1_countFirm : List (Nat × Instr × Nat) := [(0, .aload_n 0, 1), (1, .getfield 12, 3), (4, .invokevirtual 22, 3), (7, .aload_n 0, 1), (8, .iconst 0, 1), (9, .putfield 25, 3), (12, .aload_n 0, 1), (13, .aload_n 1, 1), (14, .iconst 0, 1), (15, .invokestatic 29, 3), (18, .aload_n 0, 1), (19, .getfield 25, 3), (22, .ireturn, 1)]
theorem dX1_countFirm : dall cX1_countFirm tX1_countFirm = true := by decide +kernel
def tX1_matchFrom : List (Nat × Instr × Nat) := [(0, .aload_n 0, 1), (1, .getfield 12, 3), (4, .aload_n 1, 1), (5, .iload_n 2, 1), (6, .invokevirtual 33, 3), (9, .ifCond .eq 4, 3), (12, .return_, 1), (13, .iload_n 2, 1), (14, .aload_n 1, 1), (15, .getfield 37, 3), (18, .if_icmp .lt 8, 3), (21, .aload_n 0, 1), (22, .invokevirtual 42, 3), (25, .return_, 1), (26, .iconst 0, 1), (27, .istore_n 3, 1), (28, .iload_n 3, 1), (29, .aload_n 1, 1), (30, .getfield 45, 3), (33, .if_icmp .ge 48, 3), (36, .aload_n 0, 1), (37, .getfield 12, 3), (40, .getfield 48, 3), (43, .iload_n 3, 1), (44, .iaload, 1), (45, .iconst (-1), 1), (46, .if_icmp .ne 29, 3), (49, .aload_n 0, 1), (50, .getfield 12, 3), (53, .iload_n 2, 1), (54, .iload_n 3, 1), (55, .invokevirtual 51, 3), (58, .aload_n 0, 1), (59, .aload_n 1, 1), (60, .iload_n 2, 1), (61, .iconst 1, 1), (62, .iadd, 1), (63, .invokestatic 29, 3), (66, .aload_n 0, 1), (67, .getfield 12, 3), (70, .iload_n 2, 1), (71, .iload_n 3, 1), (72, .invokevirtual 55, 3), (75, .iinc 3 1, 3), (78, .goto (-50), 3), (81, .aload_n 0, 1), (82, .aload_n 1, 1), (83, .iload_n 2, 1), (84, .iconst 1, 1), (85, .iadd, 1), (86, .invokestatic 29, 3), (89, .return_, 1)]
theorem dX1_matchFrom : dall cX1_matchFrom tX1_matchFrom = true := by decide +kernel
def tX1_keep : List (Nat × Instr × Nat) := [(0, .aload_n 0, 1), (1, .getfield 25, 3), (4, .ifCond .ne 21, 3), (7, .aload_n 0, 1), (8, .getfield 12, 3), (11, .getfield 58, 3), (14, .iconst 0, 1), (15, .aload_n 0, 1), (16, .getfield 18, 3), (19, .iconst 0, 1), (20, .bipush 6, 2), (22, .invokestatic 61, 3), (25, .aload_n 0, 1), (26, .dup, 1), (27, .getfield 25, 3), (30, .iconst 1, 1), (31, .iadd, 1), (32, .putfield 25, 3), (35, .return_, 1)]
theorem dX1_keep : dall cX1_keep tX1_keep = true := by decide +kernel
def tX1_countBringing : List (Nat × Instr × Nat) := [(0, .aload_n 0, 1), (1, .getfield 12, 3), (4, .invokevirtual 22, 3), (7, .aload_n 0, 1), (8, .getfield 12, 3), (11, .aload_n 1, 1), (12, .iconst 0, 1), (13, .invokestatic 67, 3), (16, .ireturn, 1)]
theorem dX1_countBringing : dall cX1_countBringing tX1_countBringing = true := by decide +kernel
def tX1_bringingFrom : List (Nat × Instr × Nat) := [(0, .aload_n 0, 1), (1, .aload_n 1, 1), (2, .iload_n 2, 1), (3, .invokevirtual 33, 3), (6, .ifCond .eq 5, 3), (9, .iconst 0, 1), (10, .ireturn, 1), (11, .iload_n 2, 1), (12, .aload_n 1, 1), (13, .getfield 37, 3), (16, .if_icmp .lt 5, 3), (19, .iconst 1, 1), (20, .ireturn, 1), (21, .iconst 0, 1), (22, .istore_n 3, 1), (23, .iconst 0, 1), (24, .istore 4, 2), (26, .iload 4, 2), (28, .aload_n 1, 1), (29, .getfield 45, 3), (32, .if_icmp .ge 39, 3), (35, .aload_n 0, 1), (36, .aload_n 1, 1), (37, .iload_n 2, 1), (38, .iload 4, 2), (40, .invokevirtual 71, 3), (43, .istore 5, 2), (45, .iload_n 3, 1), (46, .aload_n 0, 1), (47, .aload_n 1, 1), (48, .iload_n 2, 1), (49, .iconst 1, 1), (50, .iadd, 1), (51, .invokestatic 67, 3), (54, .iadd, 1), (55, .istore_n 3, 1), (56, .aload_n 0, 1), (57, .iload_n 2, 1), (58, .iload 4, 2), (60, .iload 5, 2), (62, .invokevirtual 75, 3), (65, .iinc 4 1, 3), (68, .goto (-42), 3), (71, .iload_n 3, 1), (72, .ireturn, 1)]
theorem dX1_bringingFrom : dall cX1_bringingFrom tX1_bringingFrom = true := by decide +kernel
def tX2_init : List (Nat × Instr × Nat) := [(0, .aload_n 0, 1), (1, .invokespecial 3, 3), (4, .aload_n 0, 1), (5, .bipush 24, 2), (7, .newarray .int, 2), (9, .putfield 9, 3), (12, .aload_n 0, 1), (13, .bipush 24, 2), (15, .newarray .int, 2), (17, .putfield 15, 3), (20, .aload_n 0, 1), (21, .bipush 24, 2), (23, .newarray .int, 2), (25, .putfield 18, 3), (28, .aload_n 0, 1), (29, .new 21, 3), (32, .dup, 1), (33, .invokespecial 23, 3), (36, .putfield 24, 3), (39, .return_, 1)]
theorem dX2_init : dall cX2_init tX2_init = true := by decide +kernel
def tX2_forget : List (Nat × Instr × Nat) := [(0, .aload_n 0, 1), (1, .iconst 0, 1), (2, .putfield 28, 3), (5, .aload_n 0, 1), (6, .getfield 24, 3), (9, .invokevirtual 32, 3), (12, .return_, 1)]
theorem dX2_forget : dall cX2_forget tX2_forget = true := by decide +kernel
def tX2_add : List (Nat × Instr × Nat) := [(0, .aload_n 0, 1), (1, .getfield 28, 3), (4, .istore 4, 2), (6, .aload_n 0, 1), (7, .getfield 9, 3), (10, .iload 4, 2), (12, .iload_n 2, 1), (13, .iastore, 1), (14, .aload_n 0, 1), (15, .getfield 15, 3), (18, .iload 4, 2), (20, .iload_n 3, 1), (21, .iastore, 1), (22, .aload_n 0, 1), (23, .getfield 18, 3), (26, .iload 4, 2), (28, .aload_n 0, 1), (29, .getfield 24, 3), (32, .aload_n 1, 1), (33, .iload_n 2, 1), (34, .iload_n 3, 1), (35, .invokevirtual 35, 3), (38, .iastore, 1), (39, .aload_n 0, 1), (40, .dup, 1), (41, .getfield 28, 3), (44, .iconst 1, 1), (45, .iadd, 1), (46, .putfield 28, 3), (49, .iload 4, 2), (51, .ireturn, 1)]
theorem dX2_add : dall cX2_add tX2_add = true := by decide +kernel
def tX2_goThrough : List (Nat × Instr × Nat) := [(0, .aload_n 0, 1), (1, .getfield 24, 3), (4, .invokevirtual 32, 3), (7, .iconst 0, 1), (8, .istore_n 2, 1), (9, .iload_n 2, 1), (10, .aload_n 0, 1), (11, .getfield 28, 3), (14, .if_icmp .ge 35, 3), (17, .aload_n 0, 1), (18, .getfield 18, 3), (21, .iload_n 2, 1), (22, .aload_n 0, 1), (23, .getfield 24, 3), (26, .aload_n 1, 1), (27, .aload_n 0, 1), (28, .getfield 9, 3), (31, .iload_n 2, 1), (32, .iaload, 1), (33, .aload_n 0, 1), (34, .getfield 15, 3), (37, .iload_n 2, 1), (38, .iaload, 1), (39, .invokevirtual 35, 3), (42, .iastore, 1), (43, .iinc 2 1, 3), (46, .goto (-37), 3), (49, .return_, 1)]
theorem dX2_goThrough : dall cX2_goThrough tX2_goThrough = true := by decide +kernel
def tX3_init : List (Nat × Instr × Nat) := [(0, .aload_n 0, 1), (1, .invokespecial 3, 3), (4, .aload_n 0, 1), (5, .bipush 8, 2), (7, .newarray .int, 2), (9, .putfield 9, 3), (12, .aload_n 0, 1), (13, .bipush 8, 2), (15, .newarray .int, 2), (17, .putfield 15, 3), (20, .aload_n 0, 1), (21, .bipush 8, 2), (23, .newarray .int, 2), (25, .putfield 18, 3), (28, .aload_n 0, 1), (29, .bipush 8, 2), (31, .newarray .boolean, 2), (33, .putfield 21, 3), (36, .return_, 1)]
theorem dX3_init : dall cX3_init tX3_init = true := by decide +kernel
def tX3_add : List (Nat × Instr × Nat) := [(0, .aload_n 0, 1), (1, .getfield 25, 3), (4, .istore 5, 2), (6, .aload_n 0, 1), (7, .getfield 9, 3), (10, .iload 5, 2), (12, .iload_n 1, 1), (13, .iastore, 1), (14, .aload_n 0, 1), (15, .getfield 15, 3), (18, .iload 5, 2), (20, .iload_n 2, 1), (21, .iastore, 1), (22, .aload_n 0, 1), (23, .getfield 18, 3), (26, .iload 5, 2), (28, .iload_n 3, 1), (29, .iastore, 1), (30, .aload_n 0, 1), (31, .getfield 21, 3), (34, .iload 5, 2), (36, .iload 4, 2), (38, .bastore, 1), (39, .aload_n 0, 1), (40, .dup, 1), (41, .getfield 25, 3), (44, .iconst 1, 1), (45, .iadd, 1), (46, .putfield 25, 3), (49, .iload 5, 2), (51, .ireturn, 1)]
theorem dX3_add : dall cX3_add tX3_add = true := by decide +kernel
def tX3_leastLiking : List (Nat × Instr × Nat) := [(0, .iconst 0, 1), (1, .istore 4, 2), (3, .iload 4, 2), (5, .bipush 9, 2), (7, .if_icmp .gt 24, 3), (10, .aload_n 0, 1), (11, .aload_n 1, 1), (12, .iload_n 2, 1), (13, .iload_n 3, 1), (14, .iload 4, 2), (16, .invokevirtual 29, 3), (19, .ifCond .eq 6, 3), (22, .iload 4, 2), (24, .ireturn, 1), (25, .iinc 4 1, 3), (28, .goto (-25), 3), (31, .bipush (-9), 2), (33, .ireturn, 1)]
theorem dX3_leastLiking : dall cX3_leastLiking tX3_leastLiking = true := by decide +kernel
def tX3_greatestLiking : List (Nat × Instr × Nat) := [(0, .bipush 9, 2), (2, .istore 4, 2), (4, .iload 4, 2), (6, .ifCond .lt 24, 3), (9, .aload_n 0, 1), (10, .aload_n 1, 1), (11, .iload_n 2, 1), (12, .iload_n 3, 1), (13, .iload 4, 2), (15, .invokevirtual 29, 3), (18, .ifCond .eq 6, 3), (21, .iload 4, 2), (23, .ireturn, 1), (24, .iinc 4 (-1), 3), (27, .goto (-23), 3), (30, .bipush (-9), 2), (32, .ireturn, 1)]
theorem dX3_greatestLiking : dall cX3_greatestLiking tX3_greatestLiking = true := by decide +kernel
def tX3_kindsOf : List (Nat × Instr × Nat) := [(0, .iconst 0, 1), (1, .istore_n 3, 1), (2, .iconst 0, 1), (3, .istore 4, 2), (5, .iload 4, 2), (7, .iconst 3, 1), (8, .if_icmp .ge 27, 3), (11, .aload_n 0, 1), (12, .aload_n 1, 1), (13, .iload_n 2, 1), (14, .iload 4, 2), (16, .invokevirtual 33, 3), (19, .ifCond .eq 10, 3), (22, .iload_n 3, 1), (23, .iconst 1, 1), (24, .iload 4, 2), (26, .ishl, 1), (27, .ior, 1), (28, .istore_n 3, 1), (29, .iinc 4 1, 3), (32, .goto (-27), 3), (35, .iload_n 3, 1), (36, .ireturn, 1)]
theorem dX3_kindsOf : dall cX3_kindsOf tX3_kindsOf = true := by decide +kernel
def tX3_areSoByLiking : List (Nat × Instr × Nat) := [(0, .iconst 0, 1), (1, .istore 5, 2), (3, .iload 5, 2), (5, .aload_n 0, 1), (6, .getfield 25, 3), (9, .if_icmp .ge 50, 3), (12, .aload_n 0, 1), (13, .getfield 9, 3), (16, .iload 5, 2), (18, .iaload, 1), (19, .iload_n 2, 1), (20, .if_icmp .ne 33, 3), (23, .aload_n 0, 1), (24, .getfield 15, 3), (27, .iload 5, 2), (29, .iaload, 1), (30, .iload_n 3, 1), (31, .if_icmp .ne 22, 3), (34, .aload_n 0, 1), (35, .iload 5, 2), (37, .aload_n 1, 1), (38, .getfield 37, 3), (41, .iload_n 2, 1), (42, .iaload, 1), (43, .iload 4, 2), (45, .invokevirtual 42, 3), (48, .ifCond .ne 5, 3), (51, .iconst 0, 1), (52, .ireturn, 1), (53, .iinc 5 1, 3), (56, .goto (-53), 3), (59, .iconst 1, 1), (60, .ireturn, 1)]
theorem dX3_areSoByLiking : dall cX3_areSoByLiking tX3_areSoByLiking = true := by decide +kernel
def tX3_areSoByKind : List (Nat × Instr × Nat) := [(0, .iconst 0, 1), (1, .istore 4, 2), (3, .iload 4, 2), (5, .aload_n 0, 1), (6, .getfield 25, 3), (9, .if_icmp .ge 46, 3), (12, .aload_n 0, 1), (13, .getfield 9, 3), (16, .iload 4, 2), (18, .iaload, 1), (19, .iload_n 2, 1), (20, .if_icmp .ne 29, 3), (23, .aload_n 0, 1), (24, .iload 4, 2), (26, .iload_n 3, 1), (27, .aload_n 1, 1), (28, .getfield 46, 3), (31, .iload_n 2, 1), (32, .aaload, 1), (33, .aload_n 0, 1), (34, .getfield 15, 3), (37, .iload 4, 2), (39, .iaload, 1), (40, .iaload, 1), (41, .invokevirtual 42, 3), (44, .ifCond .ne 5, 3), (47, .iconst 0, 1), (48, .ireturn, 1), (49, .iinc 4 1, 3), (52, .goto (-49), 3), (55, .iconst 1, 1), (56, .ireturn, 1)]
theorem dX3_areSoByKind : dall cX3_areSoByKind tX3_areSoByKind = true := by decide +kernel
def tX3_isSo : List (Nat × Instr × Nat) := [(0, .aload_n 0, 1), (1, .getfield 21, 3), (4, .iload_n 1, 1), (5, .baload, 1), (6, .iload_n 3, 1), (7, .iload_n 2, 1), (8, .aload_n 0, 1), (9, .getfield 18, 3), (12, .iload_n 1, 1), (13, .iaload, 1), (14, .invokestatic 50, 3), (17, .if_icmp .lt 7, 3), (20, .iconst 1, 1), (21, .goto 4, 3), (24, .iconst 0, 1), (25, .if_icmp .ne 7, 3), (28, .iconst 1, 1), (29, .goto 4, 3), (32, .iconst 0, 1), (33, .ireturn, 1)]
theorem dX3_isSo : dall cX3_isSo tX3_isSo = true := by decide +kernel
def tX4_init : List (Nat × Instr × Nat) := [(0, .aload_n 0, 1), (1, .invokespecial 3, 3), (4, .aload_n 0, 1), (5, .bipush 100, 2), (7, .newarray .int, 2), (9, .putfield 9, 3), (12, .return_, 1)]
theorem dX4_init : dall cX4_init tX4_init = true := by decide +kernel
def tX4_renew : List (Nat × Instr × Nat) := [(0, .aload_n 0, 1), (1, .getfield 9, 3), (4, .iconst 0, 1), (5, .invokestatic 15, 3), (8, .aload_n 0, 1), (9, .iconst 1, 1), (10, .putfield 21, 3), (13, .aload_n 0, 1), (14, .iload_n 1, 1), (15, .putfield 25, 3), (18, .aload_n 0, 1), (19, .iload_n 2, 1), (20, .putfield 29, 3), (23, .return_, 1)]
theorem dX4_renew : dall cX4_renew tX4_renew = true := by decide +kernel
def tX4_hasCell : List (Nat × Instr × Nat) := [(0, .iload_n 1, 1), (1, .ifCond .lt 15, 3), (4, .iload_n 1, 1), (5, .aload_n 0, 1), (6, .getfield 29, 3), (9, .if_icmp .ge 7, 3), (12, .iconst 1, 1), (13, .goto 4, 3), (16, .iconst 0, 1), (17, .ireturn, 1)]
theorem dX4_hasCell : dall cX4_hasCell tX4_hasCell = true := by decide +kernel
def tX4_hasCells : List (Nat × Instr × Nat) := [(0, .iload_n 1, 1), (1, .ifCond .lt 29, 3), (4, .iload_n 1, 1), (5, .aload_n 0, 1), (6, .getfield 29, 3), (9, .if_icmp .gt 21, 3), (12, .iload_n 2, 1), (13, .ifCond .lt 17, 3), (16, .iload_n 2, 1), (17, .aload_n 0, 1), (18, .getfield 29, 3), (21, .iload_n 1, 1), (22, .isub, 1), (23, .if_icmp .gt 7, 3), (26, .iconst 1, 1), (27, .goto 4, 3), (30, .iconst 0, 1), (31, .ireturn, 1)]
theorem dX4_hasCells : dall cX4_hasCells tX4_hasCells = true := by decide +kernel
def tX4_faultOfRow : List (Nat × Instr × Nat) := [(0, .aload_n 0, 1), (1, .getfield 21, 3), (4, .ifCond .ne 5, 3), (7, .iconst 1, 1), (8, .ireturn, 1), (9, .aload_n 0, 1), (10, .getfield 25, 3), (13, .iload_n 1, 1), (14, .if_icmp .ne 7, 3), (17, .iconst 0, 1), (18, .goto 4, 3), (21, .iconst 2, 1), (22, .ireturn, 1)]
theorem dX4_faultOfRow : dall cX4_faultOfRow tX4_faultOfRow = true := by decide +kernel
def tX4_faultOfCells : List (Nat × Instr × Nat) := [(0, .aload_n 0, 1), (1, .iload_n 1, 1), (2, .invokevirtual 32, 3), (5, .istore 4, 2), (7, .iload 4, 2), (9, .ifCond .eq 6, 3), (12, .iload 4, 2), (14, .ireturn, 1), (15, .iload_n 3, 1), (16, .ifCond .ge 5, 3), (19, .iconst 4, 1), (20, .ireturn, 1), (21, .aload_n 0, 1), (22, .iload_n 2, 1), (23, .iload_n 3, 1), (24, .invokevirtual 36, 3), (27, .ifCond .eq 7, 3), (30, .iconst 0, 1), (31, .goto 4, 3), (34, .iconst 3, 1), (35, .ireturn, 1)]
theorem dX4_faultOfCells : dall cX4_faultOfCells tX4_faultOfCells = true := by decide +kernel
def tX4_readInto : List (Nat × Instr × Nat) := [(0, .aload_n 0, 1), (1, .getfield 9, 3), (4, .iload_n 2, 1), (5, .aload_n 1, 1), (6, .iconst 0, 1), (7, .iload_n 3, 1), (8, .invokestatic 40, 3), (11, .return_, 1)]
theorem dX4_readInto : dall cX4_readInto tX4_readInto = true := by decide +kernel
def tX4_write : List (Nat × Instr × Nat) := [(0, .aload_n 0, 1), (1, .getfield 25, 3), (4, .lookupswitch 50 #[(0, 28), (1, 39)], 28), (32, .aload_n 0, 1), (33, .getfield 9, 3), (36, .iload_n 1, 1), (37, .iload_n 2, 1), (38, .i2b, 1), (39, .iastore, 1), (40, .goto 21, 3), (43, .aload_n 0, 1), (44, .getfield 9, 3), (47, .iload_n 1, 1), (48, .iload_n 2, 1), (49, .i2s, 1), (50, .iastore, 1), (51, .goto 10, 3), (54, .aload_n 0, 1), (55, .getfield 9, 3), (58, .iload_n 1, 1), (59, .iload_n 2, 1), (60, .iastore, 1), (61, .return_, 1)]
theorem dX4_write : dall cX4_write tX4_write = true := by decide +kernel
def tX5_firstFault : List (Nat × Instr × Nat) := [(0, .iconst 0, 1), (1, .istore_n 2, 1), (2, .iload_n 2, 1), (3, .iconst 3, 1), (4, .if_icmp .ge 26, 3), (7, .iload_n 2, 1), (8, .iload_n 1, 1), (9, .if_icmp .ge 13, 3), (12, .iload_n 2, 1), (13, .aload_n 0, 1), (14, .iload_n 2, 1), (15, .iaload, 1), (16, .invokestatic 11, 3), (19, .ifCond .ne 5, 3), (22, .iload_n 2, 1), (23, .ireturn, 1), (24, .iinc 2 1, 3), (27, .goto (-25), 3), (30, .aload_n 0, 1), (31, .iload_n 1, 1), (32, .aload_n 0, 1), (33, .iconst 1, 1), (34, .iaload, 1), (35, .bipush 48, 2), (37, .isub, 1), (38, .aload_n 0, 1), (39, .iconst 2, 1), (40, .iaload, 1), (41, .bipush 48, 2), (43, .isub, 1), (44, .invokestatic 15, 3), (47, .ireturn, 1)]
theorem dX5_firstFault : dall cX5_firstFault tX5_firstFault = true := by decide +kernel
def tX5_firstFaultBehindHead : List (Nat × Instr × Nat) := [(0, .iload_n 2, 1), (1, .iload_n 3, 1), (2, .iload_n 2, 1), (3, .invokestatic 19, 3), (6, .istore 4, 2), (8, .iconst 0, 1), (9, .istore 5, 2), (11, .iconst 0, 1), (12, .istore 6, 2), (14, .iconst 3, 1), (15, .istore 7, 2), (17, .iload 7, 2), (19, .iload 4, 2), (21, .if_icmp .ge 73, 3), (24, .iload 5, 2), (26, .iload_n 3, 1), (27, .if_icmp .ge 7, 3), (30, .iconst 1, 1), (31, .goto 4, 3), (34, .iconst 0, 1), (35, .istore 8, 2), (37, .iload 7, 2), (39, .iload_n 1, 1), (40, .if_icmp .ge 17, 3), (43, .iload 8, 2), (45, .iload 6, 2), (47, .aload_n 0, 1), (48, .iload 7, 2), (50, .iaload, 1), (51, .invokestatic 23, 3), (54, .ifCond .ne 6, 3), (57, .iload 7, 2), (59, .ireturn, 1), (60, .iinc 6 1, 3), (63, .iload 6, 2), (65, .iload 8, 2), (67, .ifCond .eq 9, 3), (70, .iload_n 2, 1), (71, .iconst 2, 1), (72, .iadd, 1), (73, .goto 6, 3), (76, .iload_n 3, 1), (77, .iconst 1, 1), (78, .iadd, 1), (79, .if_icmp .ne 9, 3), (82, .iinc 5 1, 3), (85, .iconst 0, 1), (86, .istore 6, 2), (88, .iinc 7 1, 3), (91, .goto (-74), 3), (94, .iload_n 1, 1), (95, .iload 4, 2), (97, .if_icmp .ne 8, 3), (100, .bipush (-9), 2), (102, .goto 5, 3), (105, .iload 4, 2), (107, .ireturn, 1)]
theorem dX5_firstFaultBehindHead : dall cX5_firstFaultBehindHead tX5_firstFaultBehindHead = true := by decide +kernel
def tX5_fitsHead : List (Nat × Instr × Nat) := [(0, .iload_n 0, 1), (1, .lookupswitch 57 #[(0, 27), (1, 39)], 27), (28, .iload_n 1, 1), (29, .bipush 121, 2), (31, .if_icmp .ne 7, 3), (34, .iconst 1, 1), (35, .goto 4, 3), (38, .iconst 0, 1), (39, .ireturn, 1), (40, .iload_n 1, 1), (41, .bipush 49, 2), (43, .if_icmp .lt 13, 3), (46, .iload_n 1, 1), (47, .bipush 55, 2), (49, .if_icmp .ge 7, 3), (52, .iconst 1, 1), (53, .goto 4, 3), (56, .iconst 0, 1), (57, .ireturn, 1), (58, .iload_n 1, 1), (59, .bipush 49, 2), (61, .if_icmp .lt 13, 3), (64, .iload_n 1, 1), (65, .bipush 53, 2), (67, .if_icmp .ge 7, 3), (70, .iconst 1, 1), (71, .goto 4, 3), (74, .iconst 0, 1), (75, .ireturn, 1)]
theorem dX5_fitsHead : dall cX5_fitsHead tX5_fitsHead = true := by decide +kernel
def tX5_fitsPart : List (Nat × Instr × Nat) := [(0, .iload_n 1, 1), (1, .ifCond .ne 15, 3), (4, .iload_n 2, 1), (5, .bipush 59, 2), (7, .if_icmp .ne 7, 3), (10, .iconst 1, 1), (11, .goto 4, 3), (14, .iconst 0, 1), (15, .ireturn, 1), (16, .iload_n 0, 1), (17, .ifCond .eq 23, 3), (20, .iload_n 1, 1), (21, .iconst 1, 1), (22, .if_icmp .ne 18, 3), (25, .iload_n 2, 1), (26, .invokestatic 27, 3), (29, .bipush (-9), 2), (31, .if_icmp .eq 7, 3), (34, .iconst 1, 1), (35, .goto 4, 3), (38, .iconst 0, 1), (39, .ireturn, 1), (40, .iload_n 2, 1), (41, .bipush 48, 2), (43, .if_icmp .lt 13, 3), (46, .iload_n 2, 1), (47, .bipush 57, 2), (49, .if_icmp .gt 7, 3), (52, .iconst 1, 1), (53, .goto 4, 3), (56, .iconst 0, 1), (57, .ireturn, 1)]
theorem dX5_fitsPart : dall cX5_fitsPart tX5_fitsPart = true := by decide +kernel
def tX5_kindOf : List (Nat × Instr × Nat) := [(0, .iload_n 0, 1), (1, .lookupswitch 41 #[(104, 39), (109, 35), (112, 37)], 35), (36, .iconst 0, 1), (37, .ireturn, 1), (38, .iconst 1, 1), (39, .ireturn, 1), (40, .iconst 2, 1), (41, .ireturn, 1), (42, .bipush (-9), 2), (44, .ireturn, 1)]
theorem dX5_kindOf : dall cX5_kindOf tX5_kindOf = true := by decide +kernel
def tX5_maidPlace : List (Nat × Instr × Nat) := [(0, .iconst 3, 1), (1, .iload_n 1, 1), (2, .iload_n 0, 1), (3, .iconst 2, 1), (4, .iadd, 1), (5, .imul, 1), (6, .iadd, 1), (7, .ireturn, 1)]
theorem dX5_maidPlace : dall cX5_maidPlace tX5_maidPlace = true := by decide +kernel
def tX5_suitorPlace : List (Nat × Instr × Nat) := [(0, .iload_n 0, 1), (1, .iload_n 1, 1), (2, .invokestatic 31, 3), (5, .iload_n 2, 1), (6, .iload_n 1, 1), (7, .iconst 1, 1), (8, .iadd, 1), (9, .imul, 1), (10, .iadd, 1), (11, .ireturn, 1)]
theorem dX5_suitorPlace : dall cX5_suitorPlace tX5_suitorPlace = true := by decide +kernel
def tX6_init : List (Nat × Instr × Nat) := [(0, .aload_n 0, 1), (1, .invokespecial 3, 3), (4, .aload_n 0, 1), (5, .iconst 4, 1), (6, .newarray .int, 2), (8, .putfield 9, 3), (11, .aload_n 0, 1), (12, .iconst 4, 1), (13, .bipush 6, 2), (15, .multianewarray 15 2, 4), (19, .putfield 17, 3), (22, .aload_n 0, 1), (23, .iconst 4, 1), (24, .bipush 6, 2), (26, .multianewarray 15 2, 4), (30, .putfield 20, 3), (33, .return_, 1)]
theorem dX6_init : dall cX6_init tX6_init = true := by decide +kernel
def tX6_stands : List (Nat × Instr × Nat) := [(0, .aload_n 0, 1), (1, .getfield 23, 3), (4, .ifCond .le 7, 3), (7, .iconst 1, 1), (8, .goto 4, 3), (11, .iconst 0, 1), (12, .ireturn, 1)]
theorem dX6_stands : dall cX6_stands tX6_stands = true := by decide +kernel
def tX6_hasMaid : List (Nat × Instr × Nat) := [(0, .iload_n 1, 1), (1, .ifCond .lt 15, 3), (4, .iload_n 1, 1), (5, .aload_n 0, 1), (6, .getfield 23, 3), (9, .if_icmp .ge 7, 3), (12, .iconst 1, 1), (13, .goto 4, 3), (16, .iconst 0, 1), (17, .ireturn, 1)]
theorem dX6_hasMaid : dall cX6_hasMaid tX6_hasMaid = true := by decide +kernel
def tX6_hasSuitor : List (Nat × Instr × Nat) := [(0, .iload_n 1, 1), (1, .ifCond .lt 15, 3), (4, .iload_n 1, 1), (5, .aload_n 0, 1), (6, .getfield 27, 3), (9, .if_icmp .ge 7, 3), (12, .iconst 1, 1), (13, .goto 4, 3), (16, .iconst 0, 1), (17, .ireturn, 1)]
theorem dX6_hasSuitor : dall cX6_hasSuitor tX6_hasSuitor = true := by decide +kernel
def tX6_areSuitors : List (Nat × Instr × Nat) := [(0, .iconst 0, 1), (1, .istore_n 3, 1), (2, .iload_n 3, 1), (3, .iload_n 2, 1), (4, .if_icmp .ge 21, 3), (7, .aload_n 0, 1), (8, .aload_n 1, 1), (9, .iload_n 3, 1), (10, .iaload, 1), (11, .invokevirtual 30, 3), (14, .ifCond .ne 5, 3), (17, .iconst 0, 1), (18, .ireturn, 1), (19, .iinc 3 1, 3), (22, .goto (-20), 3), (25, .iconst 1, 1), (26, .ireturn, 1)]
theorem dX6_areSuitors : dall cX6_areSuitors tX6_areSuitors = true := by decide +kernel
def tX6_settle : List (Nat × Instr × Nat) := [(0, .aload_n 0, 1), (1, .aload_n 1, 1), (2, .iconst 1, 1), (3, .iaload, 1), (4, .bipush 48, 2), (6, .isub, 1), (7, .putfield 27, 3), (10, .aload_n 0, 1), (11, .aload_n 1, 1), (12, .iconst 2, 1), (13, .iaload, 1), (14, .bipush 48, 2), (16, .isub, 1), (17, .putfield 23, 3), (20, .aload_n 0, 1), (21, .iconst 3, 1), (22, .putfield 34, 3), (25, .iconst 0, 1), (26, .istore_n 2, 1), (27, .iload_n 2, 1), (28, .aload_n 0, 1), (29, .getfield 23, 3), (32, .if_icmp .ge 101, 3), (35, .aload_n 0, 1), (36, .getfield 27, 3), (39, .iload_n 2, 1), (40, .invokestatic 37, 3), (43, .istore_n 3, 1), (44, .aload_n 0, 1), (45, .getfield 9, 3), (48, .iload_n 2, 1), (49, .aload_n 1, 1), (50, .iload_n 3, 1), (51, .iconst 1, 1), (52, .iadd, 1), (53, .iaload, 1), (54, .invokestatic 43, 3), (57, .iastore, 1), (58, .iconst 0, 1), (59, .istore 4, 2), (61, .iload 4, 2), (63, .aload_n 0, 1), (64, .getfield 27, 3), (67, .if_icmp .ge 60, 3), (70, .aload_n 0, 1), (71, .getfield 17, 3), (74, .iload_n 2, 1), (75, .aaload, 1), (76, .iload 4, 2), (78, .aload_n 1, 1), (79, .iload_n 3, 1), (80, .iconst 2, 1), (81, .iadd, 1), (82, .iload 4, 2), (84, .iadd, 1), (85, .iaload, 1), (86, .bipush 48, 2), (88, .isub, 1), (89, .iastore, 1), (90, .aload_n 0, 1), (91, .getfield 20, 3), (94, .iload_n 2, 1), (95, .aaload, 1), (96, .iload 4, 2), (98, .aload_n 1, 1), (99, .aload_n 0, 1), (100, .getfield 27, 3), (103, .aload_n 0, 1), (104, .getfield 23, 3), (107, .iload 4, 2), (109, .invokestatic 47, 3), (112, .iconst 1, 1), (113, .iadd, 1), (114, .iload_n 2, 1), (115, .iadd, 1), (116, .iaload, 1), (117, .bipush 48, 2), (119, .isub, 1), (120, .iastore, 1), (121, .iinc 4 1, 3), (124, .goto (-63), 3), (127, .iinc 2 1, 3), (130, .goto (-103), 3), (133, .return_, 1)]
theorem dX6_settle : dall cX6_settle tX6_settle = true := by decide +kernel
def tX6_mind : List (Nat × Instr × Nat) := [(0, .iload_n 0, 1), (1, .lookupswitch 34 #[(1, 27), (2, 30)], 27), (28, .bipush 7, 2), (30, .ireturn, 1), (31, .iconst 3, 1), (32, .iload_n 1, 1), (33, .iadd, 1), (34, .ireturn, 1), (35, .iconst 5, 1), (36, .ireturn, 1)]
theorem dX6_mind : dall cX6_mind tX6_mind = true := by decide +kernel
def tX6_answer : List (Nat × Instr × Nat) := [(0, .iload_n 3, 1), (1, .aload_n 0, 1), (2, .getfield 34, 3), (5, .if_icmp .lt 5, 3), (8, .iconst 2, 1), (9, .ireturn, 1), (10, .aload_n 0, 1), (11, .getfield 17, 3), (14, .iload_n 1, 1), (15, .aaload, 1), (16, .iload_n 2, 1), (17, .iaload, 1), (18, .aload_n 0, 1), (19, .getfield 9, 3), (22, .iload_n 1, 1), (23, .iaload, 1), (24, .iload_n 3, 1), (25, .invokestatic 51, 3), (28, .if_icmp .lt 7, 3), (31, .iconst 1, 1), (32, .goto 4, 3), (35, .iconst 3, 1), (36, .ireturn, 1)]
theorem dX6_answer : dall cX6_answer tX6_answer = true := by decide +kernel
def tX6_best : List (Nat × Instr × Nat) := [(0, .iconst 0, 1), (1, .istore 4, 2), (3, .iconst 0, 1), (4, .istore 5, 2), (6, .iload 5, 2), (8, .iload_n 3, 1), (9, .if_icmp .ge 36, 3), (12, .iload 5, 2), (14, .aload_n 0, 1), (15, .getfield 34, 3), (18, .if_icmp .gt 27, 3), (21, .iload 4, 2), (23, .aload_n 0, 1), (24, .getfield 17, 3), (27, .iload_n 1, 1), (28, .aaload, 1), (29, .aload_n 2, 1), (30, .iload 5, 2), (32, .iaload, 1), (33, .iaload, 1), (34, .invokestatic 54, 3), (37, .istore 4, 2), (39, .iinc 5 1, 3), (42, .goto (-36), 3), (45, .iload 4, 2), (47, .ireturn, 1)]
theorem dX6_best : dall cX6_best tX6_best = true := by decide +kernel
def tX6_minded : List (Nat × Instr × Nat) := [(0, .iconst 0, 1), (1, .istore 4, 2), (3, .iload 4, 2), (5, .iload_n 3, 1), (6, .if_icmp .ge 36, 3), (9, .aload_n 0, 1), (10, .iload_n 1, 1), (11, .aload_n 2, 1), (12, .iload 4, 2), (14, .iaload, 1), (15, .iload 4, 2), (17, .invokevirtual 59, 3), (20, .iconst 3, 1), (21, .if_icmp .eq 15, 3), (24, .aload_n 0, 1), (25, .getfield 17, 3), (28, .iload_n 1, 1), (29, .aaload, 1), (30, .aload_n 2, 1), (31, .iload 4, 2), (33, .iaload, 1), (34, .iaload, 1), (35, .ireturn, 1), (36, .iinc 4 1, 3), (39, .goto (-36), 3), (42, .iconst 0, 1), (43, .ireturn, 1)]
theorem dX6_minded : dall cX6_minded tX6_minded = true := by decide +kernel
def tX6_fewestAhead : List (Nat × Instr × Nat) := [(0, .bipush (-9), 2), (2, .istore_n 3, 1), (3, .iconst 0, 1), (4, .istore 4, 2), (6, .iload 4, 2), (8, .iconst 1, 1), (9, .aload_n 0, 1), (10, .getfield 27, 3), (13, .ishl, 1), (14, .if_icmp .ge 62, 3), (17, .iload_n 3, 1), (18, .bipush (-9), 2), (20, .if_icmp .eq 15, 3), (23, .iload 4, 2), (25, .invokestatic 62, 3), (28, .iload_n 3, 1), (29, .invokestatic 62, 3), (32, .if_icmp .ge 7, 3), (35, .iconst 1, 1), (36, .goto 4, 3), (39, .iconst 0, 1), (40, .istore 5, 2), (42, .iload 5, 2), (44, .ifCond .eq 26, 3), (47, .iload 4, 2), (49, .iload_n 2, 1), (50, .ishr, 1), (51, .iconst 1, 1), (52, .iand, 1), (53, .ifCond .ne 17, 3), (56, .aload_n 0, 1), (57, .iload_n 1, 1), (58, .iload_n 2, 1), (59, .iload 4, 2), (61, .invokevirtual 67, 3), (64, .ifCond .eq 6, 3), (67, .iload 4, 2), (69, .istore_n 3, 1), (70, .iinc 4 1, 3), (73, .goto (-67), 3), (76, .iload_n 3, 1), (77, .ireturn, 1)]
theorem dX6_fewestAhead : dall cX6_fewestAhead tX6_fewestAhead = true := by decide +kernel
def tX6_bringsTo : List (Nat × Instr × Nat) := [(0, .iconst 0, 1), (1, .istore 4, 2), (3, .iconst 0, 1), (4, .istore 5, 2), (6, .iload 5, 2), (8, .aload_n 0, 1), (9, .getfield 27, 3), (12, .if_icmp .ge 37, 3), (15, .iload_n 3, 1), (16, .iload 5, 2), (18, .ishr, 1), (19, .iconst 1, 1), (20, .iand, 1), (21, .iconst 1, 1), (22, .if_icmp .ne 21, 3), (25, .aload_n 0, 1), (26, .iload_n 1, 1), (27, .iload 5, 2), (29, .iload 4, 2), (31, .invokevirtual 59, 3), (34, .iconst 3, 1), (35, .if_icmp .eq 5, 3), (38, .iconst 0, 1), (39, .ireturn, 1), (40, .iinc 4 1, 3), (43, .iinc 5 1, 3), (46, .goto (-40), 3), (49, .aload_n 0, 1), (50, .iload_n 1, 1), (51, .iload_n 2, 1), (52, .iload 4, 2), (54, .invokevirtual 59, 3), (57, .iconst 3, 1), (58, .if_icmp .eq 7, 3), (61, .iconst 1, 1), (62, .goto 4, 3), (65, .iconst 0, 1), (66, .ireturn, 1)]
theorem dX6_bringsTo : dall cX6_bringsTo tX6_bringsTo = true := by decide +kernel
def tX6_rowsOf : List (Nat × Instr × Nat) := [(0, .iconst 1, 1), (1, .istore_n 2, 1), (2, .iconst 0, 1), (3, .istore_n 3, 1), (4, .iload_n 3, 1), (5, .iload_n 1, 1), (6, .if_icmp .ge 16, 3), (9, .iload_n 2, 1), (10, .aload_n 0, 1), (11, .getfield 27, 3), (14, .imul, 1), (15, .istore_n 2, 1), (16, .iinc 3 1, 3), (19, .goto (-15), 3), (22, .iload_n 2, 1), (23, .ireturn, 1)]
theorem dX6_rowsOf : dall cX6_rowsOf tX6_rowsOf = true := by decide +kernel
def tX6_sumOverRows : List (Nat × Instr × Nat) := [(0, .iconst 0, 1), (1, .istore 4, 2), (3, .iconst 1, 1), (4, .istore 5, 2), (6, .iload 5, 2), (8, .iload_n 2, 1), (9, .if_icmp .gt 42, 3), (12, .iload_n 3, 1), (13, .iload_n 2, 1), (14, .iload 5, 2), (16, .isub, 1), (17, .if_icmp .le 8, 3), (20, .iload 4, 2), (22, .goto 4, 3), (25, .iconst 0, 1), (26, .istore 6, 2), (28, .aload_n 0, 1), (29, .iload_n 1, 1), (30, .aload_n 0, 1), (31, .iload 5, 2), (33, .iconst 1, 1), (34, .isub, 1), (35, .invokevirtual 71, 3), (38, .iload 6, 2), (40, .invokevirtual 74, 3), (43, .istore 4, 2), (45, .iinc 5 1, 3), (48, .goto (-42), 3), (51, .iload 4, 2), (53, .ireturn, 1)]
theorem dX6_sumOverRows : dall cX6_sumOverRows tX6_sumOverRows = true := by decide +kernel
def tX6_sumOfFirst : List (Nat × Instr × Nat) := [(0, .iconst 0, 1), (1, .istore 4, 2), (3, .iconst 0, 1), (4, .istore 5, 2), (6, .iload 5, 2), (8, .aload_n 0, 1), (9, .getfield 27, 3), (12, .if_icmp .ge 29, 3), (15, .iload 4, 2), (17, .aload_n 0, 1), (18, .getfield 17, 3), (21, .iload_n 1, 1), (22, .aaload, 1), (23, .iload 5, 2), (25, .iaload, 1), (26, .iload_n 2, 1), (27, .imul, 1), (28, .iload_n 3, 1), (29, .invokestatic 54, 3), (32, .iadd, 1), (33, .istore 4, 2), (35, .iinc 5 1, 3), (38, .goto (-32), 3), (41, .iload 4, 2), (43, .ireturn, 1)]
theorem dX6_sumOfFirst : dall cX6_sumOfFirst tX6_sumOfFirst = true := by decide +kernel
def tX7_init : List (Nat × Instr × Nat) := [(0, .aload_n 0, 1), (1, .invokespecial 3, 3), (4, .aload_n 0, 1), (5, .new 9, 3), (8, .dup, 1), (9, .invokespecial 11, 3), (12, .putfield 12, 3), (15, .aload_n 0, 1), (16, .new 18, 3), (19, .dup, 1), (20, .invokespecial 20, 3), (23, .putfield 21, 3), (26, .aload_n 0, 1), (27, .new 25, 3), (30, .dup, 1), (31, .invokespecial 27, 3), (34, .putfield 28, 3), (37, .aload_n 0, 1), (38, .new 32, 3), (41, .dup, 1), (42, .invokespecial 34, 3), (45, .putfield 35, 3), (48, .aload_n 0, 1), (49, .iconst 4, 1), (50, .anewarray 39, 3), (53, .putfield 41, 3), (56, .aload_n 0, 1), (57, .bipush 100, 2), (59, .newarray .int, 2), (61, .putfield 45, 3), (64, .iconst 0, 1), (65, .istore_n 1, 1), (66, .iload_n 1, 1), (67, .iconst 4, 1), (68, .if_icmp .ge 22, 3), (71, .aload_n 0, 1), (72, .getfield 41, 3), (75, .iload_n 1, 1), (76, .new 39, 3), (79, .dup, 1), (80, .invokespecial 49, 3), (83, .aastore, 1), (84, .iinc 1 1, 3), (87, .goto (-21), 3), (90, .return_, 1)]
theorem dX7_init : dall cX7_init tX7_init = true := by decide +kernel
def tX7_valley : List (Nat × Instr × Nat) := [(0, .iload_n 1, 1), (1, .invokestatic 50, 3), (4, .ifCond .ne 9, 3), (7, .aload_n 0, 1), (8, .iconst (-1), 1), (9, .invokevirtual 54, 3), (12, .ireturn, 1), (13, .iload_n 2, 1), (14, .invokestatic 58, 3), (17, .ifCond .ne 10, 3), (20, .aload_n 0, 1), (21, .bipush (-2), 2), (23, .invokevirtual 54, 3), (26, .ireturn, 1), (27, .aload_n 0, 1), (28, .getfield 41, 3), (31, .iload_n 1, 1), (32, .aaload, 1), (33, .iload_n 2, 1), (34, .iload_n 3, 1), (35, .iload 4, 2), (37, .invokevirtual 61, 3), (40, .istore 5, 2), (42, .iload 5, 2), (44, .ifCond .eq 10, 3), (47, .aload_n 0, 1), (48, .iload 5, 2), (50, .invokevirtual 65, 3), (53, .ireturn, 1), (54, .aload_n 0, 1), (55, .getfield 41, 3), (58, .iload_n 1, 1), (59, .aaload, 1), (60, .aload_n 0, 1), (61, .getfield 45, 3), (64, .iload_n 3, 1), (65, .iload 4, 2), (67, .invokevirtual 68, 3), (70, .aload_n 0, 1), (71, .getfield 45, 3), (74, .iload 4, 2), (76, .invokestatic 72, 3), (79, .istore 6, 2), (81, .iload 6, 2), (83, .bipush (-9), 2), (85, .if_icmp .eq 13, 3), (88, .aload_n 0, 1), (89, .bipush (-100), 2), (91, .iload 6, 2), (93, .isub, 1), (94, .invokevirtual 54, 3), (97, .ireturn, 1), (98, .aload_n 0, 1), (99, .getfield 12, 3), (102, .aload_n 0, 1), (103, .getfield 45, 3), (106, .invokevirtual 78, 3), (109, .aload_n 0, 1), (110, .getfield 21, 3), (113, .invokevirtual 82, 3), (116, .aload_n 0, 1), (117, .getfield 28, 3), (120, .iconst 0, 1), (121, .putfield 85, 3), (124, .aload_n 0, 1), (125, .aload_n 0, 1), (126, .getfield 12, 3), (129, .getfield 89, 3), (132, .invokevirtual 54, 3), (135, .ireturn, 1)]
theorem dX7_valley : dall cX7_valley tX7_valley = true := by decide +kernel
def tX7_likes : List (Nat × Instr × Nat) := [(0, .aload_n 0, 1), (1, .getfield 12, 3), (4, .iload_n 1, 1), (5, .invokevirtual 92, 3), (8, .ifCond .eq 14, 3), (11, .aload_n 0, 1), (12, .getfield 12, 3), (15, .iload_n 2, 1), (16, .invokevirtual 95, 3), (19, .ifCond .ne 5, 3), (22, .iconst (-1), 1), (23, .ireturn, 1), (24, .iload_n 3, 1), (25, .ifCond .eq 11, 3), (28, .iload_n 3, 1), (29, .iconst 1, 1), (30, .if_icmp .eq 6, 3), (33, .bipush (-2), 2), (35, .ireturn, 1), (36, .aload_n 0, 1), (37, .iload_n 3, 1), (38, .invokevirtual 98, 3), (41, .iload_n 1, 1), (42, .aaload, 1), (43, .iload_n 2, 1), (44, .iaload, 1), (45, .ireturn, 1)]
theorem dX7_likes : dall cX7_likes tX7_likes = true := by decide +kernel
def tX7_like : List (Nat × Instr × Nat) := [(0, .aload_n 0, 1), (1, .iload_n 1, 1), (2, .iload_n 2, 1), (3, .iload_n 3, 1), (4, .invokevirtual 102, 3), (7, .istore 5, 2), (9, .iload 5, 2), (11, .ifCond .ge 6, 3), (14, .iload 5, 2), (16, .ireturn, 1), (17, .iload 4, 2), (19, .ifCond .lt 10, 3), (22, .iload 4, 2), (24, .bipush 9, 2), (26, .if_icmp .le 6, 3), (29, .bipush (-2), 2), (31, .ireturn, 1), (32, .aload_n 0, 1), (33, .iload_n 3, 1), (34, .invokevirtual 98, 3), (37, .iload_n 1, 1), (38, .aaload, 1), (39, .iload_n 2, 1), (40, .iload 4, 2), (42, .iastore, 1), (43, .aload_n 0, 1), (44, .getfield 21, 3), (47, .aload_n 0, 1), (48, .getfield 12, 3), (51, .invokevirtual 105, 3), (54, .iload 5, 2), (56, .ireturn, 1)]
theorem dX7_like : dall cX7_like tX7_like = true := by decide +kernel
def tX7_ofMaid : List (Nat × Instr × Nat) := [(0, .aload_n 0, 1), (1, .getfield 12, 3), (4, .iload_n 1, 1), (5, .invokevirtual 92, 3), (8, .ifCond .ne 5, 3), (11, .iconst (-1), 1), (12, .ireturn, 1), (13, .aload_n 0, 1), (14, .getfield 21, 3), (17, .getfield 109, 3), (20, .getfield 113, 3), (23, .iload_n 1, 1), (24, .iaload, 1), (25, .istore_n 3, 1), (26, .aload_n 0, 1), (27, .getfield 21, 3), (30, .getfield 109, 3), (33, .getfield 118, 3), (36, .iload_n 1, 1), (37, .iaload, 1), (38, .istore 4, 2), (40, .iload_n 2, 1), (41, .tableswitch 71 0 3 #[31, 41, 55, 57], 31), (72, .aload_n 0, 1), (73, .getfield 12, 3), (76, .getfield 121, 3), (79, .iload_n 1, 1), (80, .iaload, 1), (81, .ireturn, 1), (82, .aload_n 0, 1), (83, .getfield 12, 3), (86, .getfield 121, 3), (89, .iload_n 1, 1), (90, .iaload, 1), (91, .iload_n 3, 1), (92, .invokestatic 124, 3), (95, .ireturn, 1), (96, .iload_n 3, 1), (97, .ireturn, 1), (98, .iload 4, 2), (100, .iconst (-1), 1), (101, .if_icmp .ne 8, 3), (104, .bipush (-9), 2), (106, .goto 5, 3), (109, .iload 4, 2), (111, .ireturn, 1), (112, .bipush (-2), 2), (114, .ireturn, 1)]
theorem dX7_ofMaid : dall cX7_ofMaid tX7_ofMaid = true := by decide +kernel
def tX7_law : List (Nat × Instr × Nat) := [(0, .iload_n 1, 1), (1, .ifCond .lt 9, 3), (4, .iload_n 1, 1), (5, .bipush 9, 2), (7, .if_icmp .le 6, 3), (10, .bipush (-2), 2), (12, .ireturn, 1), (13, .aload_n 0, 1), (14, .getfield 12, 3), (17, .invokevirtual 128, 3), (20, .ifCond .ne 6, 3), (23, .bipush (-3), 2), (25, .ireturn, 1), (26, .aload_n 0, 1), (27, .getfield 12, 3), (30, .getfield 132, 3), (33, .istore_n 2, 1), (34, .aload_n 0, 1), (35, .getfield 12, 3), (38, .iload_n 1, 1), (39, .putfield 132, 3), (42, .aload_n 0, 1), (43, .getfield 21, 3), (46, .aload_n 0, 1), (47, .getfield 12, 3), (50, .invokevirtual 105, 3), (53, .iload_n 2, 1), (54, .ireturn, 1)]
theorem dX7_law : dall cX7_law tX7_law = true := by decide +kernel
def tX7_offer : List (Nat × Instr × Nat) := [(0, .aload_n 0, 1), (1, .getfield 12, 3), (4, .iload_n 1, 1), (5, .invokevirtual 95, 3), (8, .ifCond .eq 14, 3), (11, .aload_n 0, 1), (12, .getfield 12, 3), (15, .iload_n 2, 1), (16, .invokevirtual 92, 3), (19, .ifCond .ne 5, 3), (22, .iconst (-1), 1), (23, .ireturn, 1), (24, .aload_n 0, 1), (25, .getfield 21, 3), (28, .getfield 135, 3), (31, .bipush 24, 2), (33, .if_icmp .lt 6, 3), (36, .bipush (-4), 2), (38, .ireturn, 1), (39, .aload_n 0, 1), (40, .getfield 21, 3), (43, .aload_n 0, 1), (44, .getfield 12, 3), (47, .iload_n 1, 1), (48, .iload_n 2, 1), (49, .invokevirtual 136, 3), (52, .ireturn, 1)]
theorem dX7_offer : dall cX7_offer tX7_offer = true := by decide +kernel
def tX7_comes : List (Nat × Instr × Nat) := [(0, .iload_n 1, 1), (1, .ifCond .lt 14, 3), (4, .iload_n 1, 1), (5, .aload_n 0, 1), (6, .getfield 21, 3), (9, .getfield 135, 3), (12, .if_icmp .lt 5, 3), (15, .iconst (-1), 1), (16, .ireturn, 1), (17, .aload_n 0, 1), (18, .getfield 21, 3), (21, .getfield 140, 3), (24, .iload_n 1, 1), (25, .iaload, 1), (26, .ireturn, 1)]
theorem dX7_comes : dall cX7_comes tX7_comes = true := by decide +kernel
def tX7_undo : List (Nat × Instr × Nat) := [(0, .iload_n 1, 1), (1, .ifCond .lt 14, 3), (4, .iload_n 1, 1), (5, .aload_n 0, 1), (6, .getfield 21, 3), (9, .getfield 135, 3), (12, .if_icmp .le 6, 3), (15, .bipush (-2), 2), (17, .ireturn, 1), (18, .aload_n 0, 1), (19, .getfield 21, 3), (22, .dup, 1), (23, .getfield 135, 3), (26, .iload_n 1, 1), (27, .isub, 1), (28, .putfield 135, 3), (31, .aload_n 0, 1), (32, .getfield 21, 3), (35, .aload_n 0, 1), (36, .getfield 12, 3), (39, .invokevirtual 105, 3), (42, .aload_n 0, 1), (43, .getfield 21, 3), (46, .getfield 135, 3), (49, .ireturn, 1)]
theorem dX7_undo : dall cX7_undo tX7_undo = true := by decide +kernel
def tX7_pairs : List (Nat × Instr × Nat) := [(0, .aload_n 0, 1), (1, .getfield 12, 3), (4, .invokevirtual 128, 3), (7, .ifCond .ne 7, 3), (10, .ldc2_w 143, 3), (13, .lreturn, 1), (14, .lconst 0, 1), (15, .lstore_n 1, 1), (16, .aload_n 0, 1), (17, .getfield 12, 3), (20, .getfield 145, 3), (23, .iconst 1, 1), (24, .isub, 1), (25, .istore_n 3, 1), (26, .iload_n 3, 1), (27, .ifCond .lt 32, 3), (30, .lload_n 1, 1), (31, .ldc2_w 148, 3), (34, .lmul, 1), (35, .aload_n 0, 1), (36, .getfield 21, 3), (39, .getfield 109, 3), (42, .getfield 150, 3), (45, .iload_n 3, 1), (46, .iaload, 1), (47, .invokestatic 153, 3), (50, .i2l, 1), (51, .ladd, 1), (52, .lstore_n 1, 1), (53, .iinc 3 (-1), 3), (56, .goto (-30), 3), (59, .lload_n 1, 1), (60, .lreturn, 1)]
theorem dX7_pairs : dall cX7_pairs tX7_pairs = true := by decide +kernel
def tX7_asked : List (Nat × Instr × Nat) := [(0, .aload_n 0, 1), (1, .getfield 12, 3), (4, .iload_n 1, 1), (5, .invokevirtual 92, 3), (8, .ifCond .eq 10, 3), (11, .iload_n 2, 1), (12, .invokestatic 50, 3), (15, .ifCond .ne 9, 3), (18, .aload_n 0, 1), (19, .iconst (-1), 1), (20, .invokevirtual 54, 3), (23, .ireturn, 1), (24, .iload_n 3, 1), (25, .invokestatic 58, 3), (28, .ifCond .eq 14, 3), (31, .iload 6, 2), (33, .ifCond .eq 16, 3), (36, .iload 6, 2), (38, .iconst 1, 1), (39, .if_icmp .eq 10, 3), (42, .aload_n 0, 1), (43, .bipush (-2), 2), (45, .invokevirtual 54, 3), (48, .ireturn, 1), (49, .aload_n 0, 1), (50, .getfield 41, 3), (53, .iload_n 2, 1), (54, .aaload, 1), (55, .iload_n 3, 1), (56, .iload 4, 2), (58, .iload 5, 2), (60, .invokevirtual 61, 3), (63, .istore 7, 2), (65, .iload 7, 2), (67, .ifCond .eq 10, 3), (70, .aload_n 0, 1), (71, .iload 7, 2), (73, .invokevirtual 65, 3), (76, .ireturn, 1), (77, .iload 5, 2), (79, .iconst 1, 1), (80, .if_icmp .lt 10, 3), (83, .iload 5, 2), (85, .bipush 8, 2), (87, .if_icmp .le 10, 3), (90, .aload_n 0, 1), (91, .bipush (-2), 2), (93, .invokevirtual 54, 3), (96, .ireturn, 1), (97, .aload_n 0, 1), (98, .getfield 41, 3), (101, .iload_n 2, 1), (102, .aaload, 1), (103, .aload_n 0, 1), (104, .getfield 45, 3), (107, .iload 4, 2), (109, .iload 5, 2), (111, .invokevirtual 68, 3), (114, .aload_n 0, 1), (115, .getfield 12, 3), (118, .aload_n 0, 1), (119, .getfield 45, 3), (122, .iload 5, 2), (124, .invokevirtual 156, 3), (127, .ifCond .ne 9, 3), (130, .aload_n 0, 1), (131, .iconst (-1), 1), (132, .invokevirtual 54, 3), (135, .ireturn, 1), (136, .aload_n 0, 1), (137, .iload 6, 2), (139, .ifCond .ne 20, 3), (142, .aload_n 0, 1), (143, .getfield 12, 3), (146, .iload_n 1, 1), (147, .aload_n 0, 1), (148, .getfield 45, 3), (151, .iload 5, 2), (153, .invokevirtual 160, 3), (156, .goto 17, 3), (159, .aload_n 0, 1), (160, .getfield 12, 3), (163, .iload_n 1, 1), (164, .aload_n 0, 1), (165, .getfield 45, 3), (168, .iload 5, 2), (170, .invokevirtual 164, 3), (173, .invokevirtual 54, 3), (176, .ireturn, 1)]
theorem dX7_asked : dall cX7_asked tX7_asked = true := by decide +kernel
def tX7_sent : List (Nat × Instr × Nat) := [(0, .aload_n 0, 1), (1, .getfield 12, 3), (4, .iload_n 1, 1), (5, .invokevirtual 92, 3), (8, .ifCond .eq 14, 3), (11, .aload_n 0, 1), (12, .getfield 12, 3), (15, .iload_n 2, 1), (16, .invokevirtual 95, 3), (19, .ifCond .ne 5, 3), (22, .iconst (-1), 1), (23, .ireturn, 1), (24, .aload_n 0, 1), (25, .getfield 12, 3), (28, .iload_n 1, 1), (29, .iload_n 2, 1), (30, .invokevirtual 167, 3), (33, .ireturn, 1)]
theorem dX7_sent : dall cX7_sent tX7_sent = true := by decide +kernel
def tX7_firm : List (Nat × Instr × Nat) := [(0, .iload_n 1, 1), (1, .iconst (-1), 1), (2, .if_icmp .eq 16, 3), (5, .aload_n 0, 1), (6, .getfield 12, 3), (9, .iload_n 1, 1), (10, .invokevirtual 95, 3), (13, .ifCond .ne 5, 3), (16, .iconst (-1), 1), (17, .ireturn, 1), (18, .aload_n 0, 1), (19, .getfield 12, 3), (22, .invokevirtual 128, 3), (25, .ifCond .ne 6, 3), (28, .bipush (-3), 2), (30, .ireturn, 1), (31, .aload_n 0, 1), (32, .getfield 35, 3), (35, .aload_n 0, 1), (36, .getfield 12, 3), (39, .invokevirtual 170, 3), (42, .istore_n 2, 1), (43, .iload_n 1, 1), (44, .iconst (-1), 1), (45, .if_icmp .ne 7, 3), (48, .iload_n 2, 1), (49, .goto 15, 3), (52, .aload_n 0, 1), (53, .getfield 35, 3), (56, .getfield 174, 3), (59, .iload_n 1, 1), (60, .iaload, 1), (61, .invokestatic 153, 3), (64, .ireturn, 1)]
theorem dX7_firm : dall cX7_firm tX7_firm = true := by decide +kernel
def tX7_brought : List (Nat × Instr × Nat) := [(0, .aload_n 0, 1), (1, .getfield 12, 3), (4, .invokevirtual 128, 3), (7, .ifCond .ne 6, 3), (10, .bipush (-3), 2), (12, .ireturn, 1), (13, .aload_n 0, 1), (14, .getfield 35, 3), (17, .aload_n 0, 1), (18, .getfield 12, 3), (21, .invokevirtual 177, 3), (24, .ireturn, 1)]
theorem dX7_brought : dall cX7_brought tX7_brought = true := by decide +kernel
def tX7_worth : List (Nat × Instr × Nat) := [(0, .aload_n 0, 1), (1, .getfield 12, 3), (4, .iload_n 1, 1), (5, .invokevirtual 92, 3), (8, .ifCond .ne 7, 3), (11, .ldc2_w 143, 3), (14, .lreturn, 1), (15, .iload_n 2, 1), (16, .iconst 1, 1), (17, .if_icmp .lt 28, 3), (20, .iload_n 2, 1), (21, .iconst 4, 1), (22, .if_icmp .gt 23, 3), (25, .iload_n 3, 1), (26, .ifCond .lt 19, 3), (29, .iload_n 3, 1), (30, .iconst 3, 1), (31, .if_icmp .gt 14, 3), (34, .iload 4, 2), (36, .ifCond .eq 13, 3), (39, .iload 4, 2), (41, .iconst 1, 1), (42, .if_icmp .eq 7, 3), (45, .ldc2_w 143, 3), (48, .lreturn, 1), (49, .aload_n 0, 1), (50, .getfield 12, 3), (53, .iload_n 2, 1), (54, .invokevirtual 180, 3), (57, .istore 5, 2), (59, .aload_n 0, 1), (60, .getfield 12, 3), (63, .iload_n 1, 1), (64, .iload_n 2, 1), (65, .iload_n 3, 1), (66, .invokevirtual 183, 3), (69, .istore 6, 2), (71, .iload 6, 2), (73, .iload 5, 2), (75, .invokestatic 186, 3), (78, .istore 7, 2), (80, .iload 7, 2), (82, .ifCond .gt 7, 3), (85, .ldc2_w 143, 3), (88, .lreturn, 1), (89, .iload 4, 2), (91, .ifCond .ne 12, 3), (94, .iload 6, 2), (96, .iload 7, 2), (98, .idiv, 1), (99, .i2l, 1), (100, .goto 9, 3), (103, .iload 5, 2), (105, .iload 7, 2), (107, .idiv, 1), (108, .i2l, 1), (109, .lreturn, 1)]
theorem dX7_worth : dall cX7_worth tX7_worth = true := by decide +kernel
def tX7_reading : List (Nat × Instr × Nat) := [(0, .aload_n 0, 1), (1, .getfield 12, 3), (4, .iload_n 1, 1), (5, .invokevirtual 92, 3), (8, .ifCond .eq 14, 3), (11, .aload_n 0, 1), (12, .getfield 12, 3), (15, .iload_n 2, 1), (16, .invokevirtual 95, 3), (19, .ifCond .ne 5, 3), (22, .iconst (-1), 1), (23, .ireturn, 1), (24, .iload_n 3, 1), (25, .ifCond .lt 9, 3), (28, .iload_n 3, 1), (29, .bipush 9, 2), (31, .if_icmp .le 6, 3), (34, .bipush (-2), 2), (36, .ireturn, 1), (37, .aload_n 0, 1), (38, .getfield 28, 3), (41, .getfield 85, 3), (44, .bipush 8, 2), (46, .if_icmp .lt 6, 3), (49, .bipush (-4), 2), (51, .ireturn, 1), (52, .aload_n 0, 1), (53, .getfield 28, 3), (56, .iload_n 1, 1), (57, .iload_n 2, 1), (58, .iload_n 3, 1), (59, .iload 4, 2), (61, .invokevirtual 189, 3), (64, .ireturn, 1)]
theorem dX7_reading : dall cX7_reading tX7_reading = true := by decide +kernel
def tX7_back : List (Nat × Instr × Nat) := [(0, .iload_n 1, 1), (1, .ifCond .lt 14, 3), (4, .iload_n 1, 1), (5, .aload_n 0, 1), (6, .getfield 28, 3), (9, .getfield 85, 3), (12, .if_icmp .le 6, 3), (15, .bipush (-2), 2), (17, .ireturn, 1), (18, .aload_n 0, 1), (19, .getfield 28, 3), (22, .dup, 1), (23, .getfield 85, 3), (26, .iload_n 1, 1), (27, .isub, 1), (28, .putfield 85, 3), (31, .aload_n 0, 1), (32, .getfield 28, 3), (35, .getfield 85, 3), (38, .ireturn, 1)]
theorem dX7_back : dall cX7_back tX7_back = true := by decide +kernel
def tX7_learnt : List (Nat × Instr × Nat) := [(0, .aload_n 0, 1), (1, .getfield 12, 3), (4, .iload_n 1, 1), (5, .invokevirtual 92, 3), (8, .ifCond .eq 14, 3), (11, .aload_n 0, 1), (12, .getfield 12, 3), (15, .iload_n 2, 1), (16, .invokevirtual 95, 3), (19, .ifCond .ne 5, 3), (22, .iconst (-1), 1), (23, .ireturn, 1), (24, .iload_n 3, 1), (25, .ifCond .eq 11, 3), (28, .iload_n 3, 1), (29, .iconst 1, 1), (30, .if_icmp .eq 6, 3), (33, .bipush (-2), 2), (35, .ireturn, 1), (36, .iload_n 3, 1), (37, .ifCond .ne 19, 3), (40, .aload_n 0, 1), (41, .getfield 28, 3), (44, .aload_n 0, 1), (45, .getfield 12, 3), (48, .iload_n 1, 1), (49, .iload_n 2, 1), (50, .invokevirtual 192, 3), (53, .goto 16, 3), (56, .aload_n 0, 1), (57, .getfield 28, 3), (60, .aload_n 0, 1), (61, .getfield 12, 3), (64, .iload_n 1, 1), (65, .iload_n 2, 1), (66, .invokevirtual 195, 3), (69, .ireturn, 1)]
theorem dX7_learnt : dall cX7_learnt tX7_learnt = true := by decide +kernel
def tX7_kinds : List (Nat × Instr × Nat) := [(0, .aload_n 0, 1), (1, .getfield 12, 3), (4, .iload_n 1, 1), (5, .invokevirtual 92, 3), (8, .ifCond .ne 5, 3), (11, .iconst (-1), 1), (12, .ireturn, 1), (13, .aload_n 0, 1), (14, .getfield 28, 3), (17, .aload_n 0, 1), (18, .getfield 12, 3), (21, .iload_n 1, 1), (22, .invokevirtual 198, 3), (25, .ireturn, 1)]
theorem dX7_kinds : dall cX7_kinds tX7_kinds = true := by decide +kernel
def tX7_sheet : List (Nat × Instr × Nat) := [(0, .iload_n 1, 1), (1, .invokestatic 50, 3), (4, .ifCond .ne 9, 3), (7, .aload_n 0, 1), (8, .iconst (-1), 1), (9, .invokevirtual 54, 3), (12, .ireturn, 1), (13, .iload_n 2, 1), (14, .invokestatic 58, 3), (17, .ifCond .eq 9, 3), (20, .iload_n 3, 1), (21, .bipush 100, 2), (23, .if_icmp .le 10, 3), (26, .aload_n 0, 1), (27, .bipush (-2), 2), (29, .invokevirtual 54, 3), (32, .ireturn, 1), (33, .iload_n 3, 1), (34, .ifCond .ge 9, 3), (37, .aload_n 0, 1), (38, .iconst 4, 1), (39, .invokevirtual 65, 3), (42, .ireturn, 1), (43, .aload_n 0, 1), (44, .getfield 41, 3), (47, .iload_n 1, 1), (48, .aaload, 1), (49, .iload_n 2, 1), (50, .iload_n 3, 1), (51, .invokevirtual 202, 3), (54, .aload_n 0, 1), (55, .iconst 1, 1), (56, .invokevirtual 54, 3), (59, .ireturn, 1)]
theorem dX7_sheet : dall cX7_sheet tX7_sheet = true := by decide +kernel
def tX7_lose : List (Nat × Instr × Nat) := [(0, .iload_n 1, 1), (1, .invokestatic 50, 3), (4, .ifCond .ne 5, 3), (7, .iconst (-1), 1), (8, .ireturn, 1), (9, .aload_n 0, 1), (10, .getfield 41, 3), (13, .iload_n 1, 1), (14, .aaload, 1), (15, .getfield 206, 3), (18, .ifCond .eq 7, 3), (21, .iconst 1, 1), (22, .goto 4, 3), (25, .iconst 0, 1), (26, .istore_n 2, 1), (27, .aload_n 0, 1), (28, .getfield 41, 3), (31, .iload_n 1, 1), (32, .aaload, 1), (33, .iconst 0, 1), (34, .putfield 206, 3), (37, .iload_n 2, 1), (38, .ireturn, 1)]
theorem dX7_lose : dall cX7_lose tX7_lose = true := by decide +kernel
def tX7_put : List (Nat × Instr × Nat) := [(0, .iload_n 1, 1), (1, .invokestatic 50, 3), (4, .ifCond .ne 9, 3), (7, .aload_n 0, 1), (8, .iconst (-1), 1), (9, .invokevirtual 54, 3), (12, .ireturn, 1), (13, .aload_n 0, 1), (14, .getfield 41, 3), (17, .iload_n 1, 1), (18, .aaload, 1), (19, .getfield 206, 3), (22, .ifCond .ne 9, 3), (25, .aload_n 0, 1), (26, .iconst 1, 1), (27, .invokevirtual 65, 3), (30, .ireturn, 1), (31, .aload_n 0, 1), (32, .getfield 41, 3), (35, .iload_n 1, 1), (36, .aaload, 1), (37, .iload_n 2, 1), (38, .invokevirtual 210, 3), (41, .ifCond .ne 9, 3), (44, .aload_n 0, 1), (45, .iconst 3, 1), (46, .invokevirtual 65, 3), (49, .ireturn, 1), (50, .aload_n 0, 1), (51, .getfield 41, 3), (54, .iload_n 1, 1), (55, .aaload, 1), (56, .iload_n 2, 1), (57, .iload_n 3, 1), (58, .invokevirtual 213, 3), (61, .aload_n 0, 1), (62, .iconst 1, 1), (63, .invokevirtual 54, 3), (66, .ireturn, 1)]
theorem dX7_put : dall cX7_put tX7_put = true := by decide +kernel
def tX7_cell : List (Nat × Instr × Nat) := [(0, .iload_n 1, 1), (1, .invokestatic 50, 3), (4, .ifCond .eq 10, 3), (7, .iload_n 3, 1), (8, .invokestatic 58, 3), (11, .ifCond .ne 9, 3), (14, .aload_n 0, 1), (15, .iconst 0, 1), (16, .invokevirtual 216, 3), (19, .lreturn, 1), (20, .aload_n 0, 1), (21, .getfield 41, 3), (24, .iload_n 1, 1), (25, .aaload, 1), (26, .iload_n 3, 1), (27, .invokevirtual 220, 3), (30, .istore 4, 2), (32, .iload 4, 2), (34, .ifCond .eq 10, 3), (37, .aload_n 0, 1), (38, .iload 4, 2), (40, .invokevirtual 216, 3), (43, .lreturn, 1), (44, .aload_n 0, 1), (45, .getfield 41, 3), (48, .iload_n 1, 1), (49, .aaload, 1), (50, .iload_n 2, 1), (51, .invokevirtual 210, 3), (54, .ifCond .ne 9, 3), (57, .aload_n 0, 1), (58, .iconst 3, 1), (59, .invokevirtual 216, 3), (62, .lreturn, 1), (63, .aload_n 0, 1), (64, .iconst 0, 1), (65, .putfield 223, 3), (68, .aload_n 0, 1), (69, .getfield 41, 3), (72, .iload_n 1, 1), (73, .aaload, 1), (74, .getfield 226, 3), (77, .iload_n 2, 1), (78, .iaload, 1), (79, .i2l, 1), (80, .lreturn, 1)]
theorem dX7_cell : dall cX7_cell tX7_cell = true := by decide +kernel
def tX7_copy : List (Nat × Instr × Nat) := [(0, .iload_n 1, 1), (1, .invokestatic 50, 3), (4, .ifCond .eq 10, 3), (7, .iload_n 3, 1), (8, .invokestatic 50, 3), (11, .ifCond .ne 9, 3), (14, .aload_n 0, 1), (15, .iconst (-1), 1), (16, .invokevirtual 54, 3), (19, .ireturn, 1), (20, .aload_n 0, 1), (21, .getfield 41, 3), (24, .iload_n 1, 1), (25, .aaload, 1), (26, .getfield 206, 3), (29, .ifCond .eq 15, 3), (32, .aload_n 0, 1), (33, .getfield 41, 3), (36, .iload_n 3, 1), (37, .aaload, 1), (38, .getfield 206, 3), (41, .ifCond .ne 9, 3), (44, .aload_n 0, 1), (45, .iconst 1, 1), (46, .invokevirtual 65, 3), (49, .ireturn, 1), (50, .aload_n 0, 1), (51, .getfield 41, 3), (54, .iload_n 1, 1), (55, .aaload, 1), (56, .getfield 229, 3), (59, .aload_n 0, 1), (60, .getfield 41, 3), (63, .iload_n 3, 1), (64, .aaload, 1), (65, .getfield 229, 3), (68, .if_icmp .eq 9, 3), (71, .aload_n 0, 1), (72, .iconst 2, 1), (73, .invokevirtual 65, 3), (76, .ireturn, 1), (77, .aload_n 0, 1), (78, .getfield 41, 3), (81, .iload_n 1, 1), (82, .aaload, 1), (83, .iload_n 2, 1), (84, .iload 5, 2), (86, .invokevirtual 232, 3), (89, .ifCond .eq 19, 3), (92, .aload_n 0, 1), (93, .getfield 41, 3), (96, .iload_n 3, 1), (97, .aaload, 1), (98, .iload 4, 2), (100, .iload 5, 2), (102, .invokevirtual 232, 3), (105, .ifCond .ne 9, 3), (108, .aload_n 0, 1), (109, .iconst 3, 1), (110, .invokevirtual 65, 3), (113, .ireturn, 1), (114, .aload_n 0, 1), (115, .getfield 41, 3), (118, .iload_n 1, 1), (119, .aaload, 1), (120, .getfield 226, 3), (123, .iload_n 2, 1), (124, .aload_n 0, 1), (125, .getfield 41, 3), (128, .iload_n 3, 1), (129, .aaload, 1), (130, .getfield 226, 3), (133, .iload 4, 2), (135, .iload 5, 2), (137, .invokestatic 236, 3), (140, .aload_n 0, 1), (141, .iload 5, 2), (143, .invokevirtual 54, 3), (146, .ireturn, 1)]
theorem dX7_copy : dall cX7_copy tX7_copy = true := by decide +kernel
def tX7_tell : List (Nat × Instr × Nat) := [(0, .aload_n 0, 1), (1, .getfield 12, 3), (4, .iload_n 1, 1), (5, .invokevirtual 92, 3), (8, .ifCond .ne 5, 3), (11, .iconst (-1), 1), (12, .ireturn, 1), (13, .aload_n 0, 1), (14, .getfield 12, 3), (17, .getfield 121, 3), (20, .iload_n 1, 1), (21, .iaload, 1), (22, .lookupswitch 38 #[(1, 26), (2, 32)], 26), (48, .aload_n 0, 1), (49, .iload_n 1, 1), (50, .invokevirtual 242, 3), (53, .ireturn, 1), (54, .aload_n 0, 1), (55, .iload_n 1, 1), (56, .invokevirtual 245, 3), (59, .ireturn, 1), (60, .aload_n 0, 1), (61, .iload_n 1, 1), (62, .invokevirtual 248, 3), (65, .ireturn, 1)]
theorem dX7_tell : dall cX7_tell tX7_tell = true := by decide +kernel
def tX7_greet : List (Nat × Instr × Nat) := [(0, .aload_n 0, 1), (1, .getfield 12, 3), (4, .iload_n 1, 1), (5, .invokevirtual 92, 3), (8, .ifCond .ne 5, 3), (11, .iconst (-1), 1), (12, .ireturn, 1), (13, .aload_n 0, 1), (14, .getfield 12, 3), (17, .getfield 121, 3), (20, .iload_n 1, 1), (21, .iaload, 1), (22, .iconst 2, 1), (23, .if_icmp .ne 10, 3), (26, .aload_n 0, 1), (27, .invokevirtual 251, 3), (30, .goto 8, 3), (33, .aload_n 0, 1), (34, .iload_n 1, 1), (35, .invokevirtual 255, 3), (38, .ireturn, 1)]
theorem dX7_greet : dall cX7_greet tX7_greet = true := by decide +kernel
def tX7_as : List (Nat × Instr × Nat) := [(0, .aload_n 0, 1), (1, .getfield 12, 3), (4, .iload_n 1, 1), (5, .invokevirtual 92, 3), (8, .ifCond .ne 9, 3), (11, .aload_n 0, 1), (12, .iconst (-1), 1), (13, .invokevirtual 54, 3), (16, .ireturn, 1), (17, .iload_n 2, 1), (18, .ifCond .lt 8, 3), (21, .iload_n 2, 1), (22, .iconst 3, 1), (23, .if_icmp .lt 10, 3), (26, .aload_n 0, 1), (27, .bipush (-2), 2), (29, .invokevirtual 54, 3), (32, .ireturn, 1), (33, .iload_n 2, 1), (34, .aload_n 0, 1), (35, .getfield 12, 3), (38, .getfield 121, 3), (41, .iload_n 1, 1), (42, .iaload, 1), (43, .if_icmp .le 9, 3), (46, .aload_n 0, 1), (47, .iconst 2, 1), (48, .invokevirtual 65, 3), (51, .ireturn, 1), (52, .aload_n 0, 1), (53, .iconst 1, 1), (54, .invokevirtual 54, 3), (57, .ireturn, 1)]
theorem dX7_as : dall cX7_as tX7_as = true := by decide +kernel
def tX7_trace : List (Nat × Instr × Nat) := [(0, .aload_n 0, 1), (1, .getfield 258, 3), (4, .ireturn, 1)]
theorem dX7_trace : dall cX7_trace tX7_trace = true := by decide +kernel
def tX7_fault : List (Nat × Instr × Nat) := [(0, .aload_n 0, 1), (1, .getfield 223, 3), (4, .ireturn, 1)]
theorem dX7_fault : dall cX7_fault tX7_fault = true := by decide +kernel
def tX7_many : List (Nat × Instr × Nat) := [(0, .iload_n 1, 1), (1, .tableswitch 75 0 4 #[35, 43, 51, 59, 67], 35), (36, .aload_n 0, 1), (37, .getfield 12, 3), (40, .getfield 145, 3), (43, .ireturn, 1), (44, .aload_n 0, 1), (45, .getfield 12, 3), (48, .getfield 89, 3), (51, .ireturn, 1), (52, .aload_n 0, 1), (53, .getfield 21, 3), (56, .getfield 135, 3), (59, .ireturn, 1), (60, .aload_n 0, 1), (61, .getfield 28, 3), (64, .getfield 85, 3), (67, .ireturn, 1), (68, .aload_n 0, 1), (69, .getfield 12, 3), (72, .getfield 132, 3), (75, .ireturn, 1), (76, .bipush (-2), 2), (78, .ireturn, 1)]
theorem dX7_many : dall cX7_many tX7_many = true := by decide +kernel
def tX7_faultless : List (Nat × Instr × Nat) := [(0, .aload_n 0, 1), (1, .iconst 0, 1), (2, .putfield 223, 3), (5, .iload_n 1, 1), (6, .ireturn, 1)]
theorem dX7_faultless : dall cX7_faultless tX7_faultless = true := by decide +kernel
def tX7_faulted : List (Nat × Instr × Nat) := [(0, .aload_n 0, 1), (1, .iload_n 1, 1), (2, .putfield 223, 3), (5, .bipush (-10), 2), (7, .iload_n 1, 1), (8, .isub, 1), (9, .ireturn, 1)]
theorem dX7_faulted : dall cX7_faulted tX7_faulted = true := by decide +kernel
def tX7_lost : List (Nat × Instr × Nat) := [(0, .aload_n 0, 1), (1, .iload_n 1, 1), (2, .putfield 223, 3), (5, .ldc2_w 143, 3), (8, .lreturn, 1)]
theorem dX7_lost : dall cX7_lost tX7_lost = true := by decide +kernel
def tX7_likings : List (Nat × Instr × Nat) := [(0, .iload_n 1, 1), (1, .ifCond .ne 13, 3), (4, .aload_n 0, 1), (5, .getfield 12, 3), (8, .getfield 261, 3), (11, .goto 10, 3), (14, .aload_n 0, 1), (15, .getfield 12, 3), (18, .getfield 265, 3), (21, .areturn, 1)]
theorem dX7_likings : dall cX7_likings tX7_likings = true := by decide +kernel
def tX7_mark : List (Nat × Instr × Nat) := [(0, .aload_n 0, 1), (1, .bipush 31, 2), (3, .aload_n 0, 1), (4, .getfield 258, 3), (7, .imul, 1), (8, .iload_n 1, 1), (9, .iadd, 1), (10, .putfield 258, 3), (13, .return_, 1)]
theorem dX7_mark : dall cX7_mark tX7_mark = true := by decide +kernel
def tX7_tellAsMaid : List (Nat × Instr × Nat) := [(0, .aload_n 0, 1), (1, .iconst 1, 1), (2, .invokevirtual 268, 3), (5, .iload_n 1, 1), (6, .ireturn, 1)]
theorem dX7_tellAsMaid : dall cX7_tellAsMaid tX7_tellAsMaid = true := by decide +kernel
def tX7_tellAsProud : List (Nat × Instr × Nat) := [(0, .aload_n 0, 1), (1, .iconst 2, 1), (2, .invokevirtual 268, 3), (5, .aload_n 0, 1), (6, .iload_n 1, 1), (7, .invokevirtual 248, 3), (10, .bipush 100, 2), (12, .iadd, 1), (13, .ireturn, 1)]
theorem dX7_tellAsProud : dall cX7_tellAsProud tX7_tellAsProud = true := by decide +kernel
def tX7_tellAsHeiress : List (Nat × Instr × Nat) := [(0, .aload_n 0, 1), (1, .iconst 3, 1), (2, .invokevirtual 268, 3), (5, .aload_n 0, 1), (6, .iload_n 1, 1), (7, .invokevirtual 242, 3), (10, .istore_n 2, 1), (11, .iload_n 2, 1), (12, .aload_n 0, 1), (13, .iload_n 1, 1), (14, .invokevirtual 248, 3), (17, .iadd, 1), (18, .ireturn, 1)]
theorem dX7_tellAsHeiress : dall cX7_tellAsHeiress tX7_tellAsHeiress = true := by decide +kernel
def tX7_greetAsAnyone : List (Nat × Instr × Nat) := [(0, .aload_n 0, 1), (1, .iconst 4, 1), (2, .invokevirtual 268, 3), (5, .iload_n 1, 1), (6, .ireturn, 1)]
theorem dX7_greetAsAnyone : dall cX7_greetAsAnyone tX7_greetAsAnyone = true := by decide +kernel
def tX7_greetAsHeiress : List (Nat × Instr × Nat) := [(0, .aload_n 0, 1), (1, .iconst 5, 1), (2, .invokevirtual 268, 3), (5, .bipush 70, 2), (7, .ireturn, 1)]
theorem dX7_greetAsHeiress : dall cX7_greetAsHeiress tX7_greetAsHeiress = true := by decide +kernel
def tX7_isSheet : List (Nat × Instr × Nat) := [(0, .iload_n 0, 1), (1, .ifCond .lt 12, 3), (4, .iload_n 0, 1), (5, .iconst 4, 1), (6, .if_icmp .ge 7, 3), (9, .iconst 1, 1), (10, .goto 4, 3), (13, .iconst 0, 1), (14, .ireturn, 1)]
theorem dX7_isSheet : dall cX7_isSheet tX7_isSheet = true := by decide +kernel
def tX7_isLane : List (Nat × Instr × Nat) := [(0, .iload_n 0, 1), (1, .ifCond .lt 12, 3), (4, .iload_n 0, 1), (5, .iconst 2, 1), (6, .if_icmp .gt 7, 3), (9, .iconst 1, 1), (10, .goto 4, 3), (13, .iconst 0, 1), (14, .ireturn, 1)]
theorem dX7_isLane : dall cX7_isLane tX7_isLane = true := by decide +kernel
def tX7_figure : List (Nat × Instr × Nat) := [(0, .iload_n 0, 1), (1, .iconst (-1), 1), (2, .if_icmp .ne 8, 3), (5, .bipush 9, 2), (7, .goto 4, 3), (10, .iload_n 0, 1), (11, .ireturn, 1)]
theorem dX7_figure : dall cX7_figure tX7_figure = true := by decide +kernel
def tX7_greatestDivisor : List (Nat × Instr × Nat) := [(0, .iload_n 0, 1), (1, .istore_n 2, 1), (2, .iload_n 1, 1), (3, .istore_n 3, 1), (4, .iconst 0, 1), (5, .istore 4, 2), (7, .iload 4, 2), (9, .bipush 50, 2), (11, .if_icmp .ge 23, 3), (14, .iload_n 3, 1), (15, .ifCond .le 19, 3), (18, .iload_n 2, 1), (19, .iload_n 3, 1), (20, .irem, 1), (21, .istore 5, 2), (23, .iload_n 3, 1), (24, .istore_n 2, 1), (25, .iload 5, 2), (27, .istore_n 3, 1), (28, .iinc 4 1, 3), (31, .goto (-24), 3), (34, .iload_n 2, 1), (35, .ireturn, 1)]
theorem dX7_greatestDivisor : dall cX7_greatestDivisor tX7_greatestDivisor = true := by decide +kernel
def tX8_init : List (Nat × Instr × Nat) := [(0, .aload_n 0, 1), (1, .invokespecial 1, 3), (4, .aload_n 0, 1), (5, .iconst 4, 1), (6, .newarray .int, 2), (8, .putfield 7, 3), (11, .aload_n 0, 1), (12, .bipush 24, 2), (14, .newarray .int, 2), (16, .putfield 13, 3), (19, .aload_n 0, 1), (20, .bipush 24, 2), (22, .newarray .int, 2), (24, .putfield 16, 3), (27, .aload_n 0, 1), (28, .iconst 4, 1), (29, .newarray .int, 2), (31, .putfield 19, 3), (34, .aload_n 0, 1), (35, .bipush 24, 2), (37, .newarray .int, 2), (39, .putfield 22, 3), (42, .aload_n 0, 1), (43, .bipush 24, 2), (45, .newarray .int, 2), (47, .putfield 25, 3), (50, .aload_n 0, 1), (51, .bipush 24, 2), (53, .newarray .int, 2), (55, .putfield 28, 3), (58, .aload_n 0, 1), (59, .bipush 24, 2), (61, .newarray .int, 2), (63, .putfield 31, 3), (66, .aload_n 0, 1), (67, .bipush 24, 2), (69, .newarray .int, 2), (71, .putfield 34, 3), (74, .aload_n 0, 1), (75, .iconst 4, 1), (76, .newarray .int, 2), (78, .putfield 37, 3), (81, .aload_n 0, 1), (82, .iconst 4, 1), (83, .newarray .int, 2), (85, .putfield 40, 3), (88, .aload_n 0, 1), (89, .bipush 6, 2), (91, .newarray .int, 2), (93, .putfield 43, 3), (96, .aload_n 0, 1), (97, .bipush 8, 2), (99, .newarray .int, 2), (101, .putfield 46, 3), (104, .aload_n 0, 1), (105, .bipush 8, 2), (107, .newarray .int, 2), (109, .putfield 49, 3), (112, .aload_n 0, 1), (113, .bipush 8, 2), (115, .newarray .int, 2), (117, .putfield 52, 3), (120, .aload_n 0, 1), (121, .bipush 8, 2), (123, .newarray .boolean, 2), (125, .putfield 55, 3), (128, .aload_n 0, 1), (129, .iconst 4, 1), (130, .newarray .int, 2), (132, .putfield 59, 3), (135, .aload_n 0, 1), (136, .iconst 4, 1), (137, .newarray .int, 2), (139, .putfield 62, 3), (142, .aload_n 0, 1), (143, .sipush 400, 3), (146, .newarray .int, 2), (148, .putfield 65, 3), (151, .aload_n 0, 1), (152, .bipush 100, 2), (154, .newarray .int, 2), (156, .putfield 68, 3), (159, .iconst 0, 1), (160, .istore_n 1, 1), (161, .iload_n 1, 1), (162, .iconst 4, 1), (163, .if_icmp .ge 16, 3), (166, .aload_n 0, 1), (167, .getfield 59, 3), (170, .iload_n 1, 1), (171, .iconst (-1), 1), (172, .iastore, 1), (173, .iinc 1 1, 3), (176, .goto (-15), 3), (179, .return_, 1)]
theorem dX8_init : dall cX8_init tX8_init = true := by decide +kernel
def tX8_in : List (Nat × Instr × Nat) := [(0, .lload_n 0, 1), (1, .lload_n 2, 1), (2, .lcmp, 1), (3, .ifCond .lt 14, 3), (6, .lload_n 0, 1), (7, .lload 4, 2), (9, .lcmp, 1), (10, .ifCond .gt 7, 3), (13, .iconst 1, 1), (14, .goto 4, 3), (17, .iconst 0, 1), (18, .ireturn, 1)]
theorem dX8_in : dall cX8_in tX8_in = true := by decide +kernel
def tX8_lost : List (Nat × Instr × Nat) := [(0, .ldc2_w 71, 3), (3, .lreturn, 1)]
theorem dX8_lost : dall cX8_lost tX8_lost = true := by decide +kernel
def tX8_isIn : List (Nat × Instr × Nat) := [(0, .iload_n 0, 1), (1, .iload_n 1, 1), (2, .ishr, 1), (3, .iconst 1, 1), (4, .iand, 1), (5, .iconst 1, 1), (6, .if_icmp .ne 7, 3), (9, .iconst 1, 1), (10, .goto 4, 3), (13, .iconst 0, 1), (14, .ireturn, 1)]
theorem dX8_isIn : dall cX8_isIn tX8_isIn = true := by decide +kernel
def tX8_bits : List (Nat × Instr × Nat) := [(0, .iconst 0, 1), (1, .istore_n 1, 1), (2, .iload_n 0, 1), (3, .istore_n 2, 1), (4, .iload_n 2, 1), (5, .ifCond .le 16, 3), (8, .iload_n 1, 1), (9, .iload_n 2, 1), (10, .iconst 1, 1), (11, .iand, 1), (12, .iadd, 1), (13, .istore_n 1, 1), (14, .iload_n 2, 1), (15, .iconst 1, 1), (16, .ishr, 1), (17, .istore_n 2, 1), (18, .goto (-14), 3), (21, .iload_n 1, 1), (22, .ireturn, 1)]
theorem dX8_bits : dall cX8_bits tX8_bits = true := by decide +kernel
def tX8_told : List (Nat × Instr × Nat) := [(0, .lload_n 0, 1), (1, .lstore 5, 2), (3, .lload_n 2, 1), (4, .lstore 7, 2), (6, .lload 7, 2), (8, .lconst 0, 1), (9, .lcmp, 1), (10, .ifCond .eq 21, 3), (13, .lload 5, 2), (15, .lload 7, 2), (17, .lrem, 1), (18, .lstore 9, 2), (20, .lload 7, 2), (22, .lstore 5, 2), (24, .lload 9, 2), (26, .lstore 7, 2), (28, .goto (-22), 3), (31, .iload 4, 2), (33, .ifCond .ne 7, 3), (36, .lload_n 0, 1), (37, .goto 4, 3), (40, .lload_n 2, 1), (41, .lload 5, 2), (43, .ldiv, 1), (44, .lreturn, 1)]
theorem dX8_told : dall cX8_told tX8_told = true := by decide +kernel
def tX8_refused : List (Nat × Instr × Nat) := [(0, .aload_n 0, 1), (1, .iconst 0, 1), (2, .putfield 73, 3), (5, .iload_n 1, 1), (6, .ireturn, 1)]
theorem dX8_refused : dall cX8_refused tX8_refused = true := by decide +kernel
def tX8_failed : List (Nat × Instr × Nat) := [(0, .aload_n 0, 1), (1, .iload_n 1, 1), (2, .putfield 73, 3), (5, .bipush (-10), 2), (7, .iload_n 1, 1), (8, .isub, 1), (9, .ireturn, 1)]
theorem dX8_failed : dall cX8_failed tX8_failed = true := by decide +kernel
def tX8_failedLong : List (Nat × Instr × Nat) := [(0, .aload_n 0, 1), (1, .iload_n 1, 1), (2, .putfield 73, 3), (5, .invokestatic 77, 3), (8, .lreturn, 1)]
theorem dX8_failedLong : dall cX8_failedLong tX8_failedLong = true := by decide +kernel
def tX8_noSuitor : List (Nat × Instr × Nat) := [(0, .iload_n 1, 1), (1, .i2l, 1), (2, .lconst 0, 1), (3, .aload_n 0, 1), (4, .getfield 81, 3), (7, .i2l, 1), (8, .lconst 1, 1), (9, .lsub, 1), (10, .invokestatic 84, 3), (13, .ifCond .ne 7, 3), (16, .iconst 1, 1), (17, .goto 4, 3), (20, .iconst 0, 1), (21, .ireturn, 1)]
theorem dX8_noSuitor : dall cX8_noSuitor tX8_noSuitor = true := by decide +kernel
def tX8_noMaid : List (Nat × Instr × Nat) := [(0, .iload_n 1, 1), (1, .i2l, 1), (2, .lconst 0, 1), (3, .aload_n 0, 1), (4, .getfield 88, 3), (7, .i2l, 1), (8, .lconst 1, 1), (9, .lsub, 1), (10, .invokestatic 84, 3), (13, .ifCond .ne 7, 3), (16, .iconst 1, 1), (17, .goto 4, 3), (20, .iconst 0, 1), (21, .ireturn, 1)]
theorem dX8_noMaid : dall cX8_noMaid tX8_noMaid = true := by decide +kernel
def tX8_codeAt : List (Nat × Instr × Nat) := [(0, .aload_n 0, 1), (1, .getfield 91, 3), (4, .iload_n 2, 1), (5, .if_icmp .ge 17, 3), (8, .aload_n 0, 1), (9, .getfield 65, 3), (12, .iload_n 1, 1), (13, .aload_n 0, 1), (14, .getfield 91, 3), (17, .iadd, 1), (18, .iaload, 1), (19, .goto 5, 3), (22, .bipush (-9), 2), (24, .ireturn, 1)]
theorem dX8_codeAt : dall cX8_codeAt tX8_codeAt = true := by decide +kernel
def tX8_figure : List (Nat × Instr × Nat) := [(0, .aload_n 0, 1), (1, .iload_n 1, 1), (2, .iload_n 2, 1), (3, .invokevirtual 94, 3), (6, .bipush 48, 2), (8, .isub, 1), (9, .istore 5, 2), (11, .iload 5, 2), (13, .i2l, 1), (14, .iload_n 3, 1), (15, .i2l, 1), (16, .iload 4, 2), (18, .i2l, 1), (19, .invokestatic 84, 3), (22, .istore 6, 2), (24, .aload_n 0, 1), (25, .dup, 1), (26, .getfield 91, 3), (29, .iload 6, 2), (31, .ifCond .eq 7, 3), (34, .iconst 1, 1), (35, .goto 4, 3), (38, .iconst 0, 1), (39, .iadd, 1), (40, .putfield 91, 3), (43, .iload 6, 2), (45, .ifCond .eq 8, 3), (48, .iload 5, 2), (50, .goto 5, 3), (53, .bipush (-9), 2), (55, .ireturn, 1)]
theorem dX8_figure : dall cX8_figure tX8_figure = true := by decide +kernel
def tX8_readsMark : List (Nat × Instr × Nat) := [(0, .aload_n 0, 1), (1, .iload_n 1, 1), (2, .iload_n 2, 1), (3, .invokevirtual 94, 3), (6, .bipush 59, 2), (8, .if_icmp .ne 7, 3), (11, .iconst 1, 1), (12, .goto 4, 3), (15, .iconst 0, 1), (16, .istore_n 3, 1), (17, .aload_n 0, 1), (18, .dup, 1), (19, .getfield 91, 3), (22, .iload_n 3, 1), (23, .ifCond .eq 7, 3), (26, .iconst 1, 1), (27, .goto 4, 3), (30, .iconst 0, 1), (31, .iadd, 1), (32, .putfield 91, 3), (35, .iload_n 3, 1), (36, .ireturn, 1)]
theorem dX8_readsMark : dall cX8_readsMark tX8_readsMark = true := by decide +kernel
def tX8_readsMaid : List (Nat × Instr × Nat) := [(0, .aload_n 0, 1), (1, .iload_n 1, 1), (2, .iload_n 2, 1), (3, .invokevirtual 98, 3), (6, .ifCond .ne 5, 3), (9, .iconst 0, 1), (10, .ireturn, 1), (11, .aload_n 0, 1), (12, .iload_n 1, 1), (13, .iload_n 2, 1), (14, .invokevirtual 94, 3), (17, .istore 4, 2), (19, .iload 4, 2), (21, .bipush 109, 2), (23, .if_icmp .eq 19, 3), (26, .iload 4, 2), (28, .bipush 112, 2), (30, .if_icmp .eq 12, 3), (33, .iload 4, 2), (35, .bipush 104, 2), (37, .if_icmp .eq 5, 3), (40, .iconst 0, 1), (41, .ireturn, 1), (42, .aload_n 0, 1), (43, .dup, 1), (44, .getfield 91, 3), (47, .iconst 1, 1), (48, .iadd, 1), (49, .putfield 91, 3), (52, .aload_n 0, 1), (53, .getfield 19, 3), (56, .iload_n 3, 1), (57, .iload 4, 2), (59, .bipush 109, 2), (61, .if_icmp .ne 7, 3), (64, .iconst 0, 1), (65, .goto 15, 3), (68, .iload 4, 2), (70, .bipush 112, 2), (72, .if_icmp .ne 7, 3), (75, .iconst 1, 1), (76, .goto 4, 3), (79, .iconst 2, 1), (80, .iastore, 1), (81, .iconst 1, 1), (82, .istore 5, 2), (84, .iconst 0, 1), (85, .istore 6, 2), (87, .iload 6, 2), (89, .aload_n 0, 1), (90, .getfield 102, 3), (93, .if_icmp .ge 57, 3), (96, .iload 5, 2), (98, .ifCond .eq 52, 3), (101, .aload_n 0, 1), (102, .getfield 22, 3), (105, .bipush 6, 2), (107, .iload_n 3, 1), (108, .imul, 1), (109, .iload 6, 2), (111, .iadd, 1), (112, .aload_n 0, 1), (113, .iload_n 1, 1), (114, .iload_n 2, 1), (115, .iconst 0, 1), (116, .bipush 9, 2), (118, .invokevirtual 105, 3), (121, .iastore, 1), (122, .aload_n 0, 1), (123, .getfield 22, 3), (126, .bipush 6, 2), (128, .iload_n 3, 1), (129, .imul, 1), (130, .iload 6, 2), (132, .iadd, 1), (133, .iaload, 1), (134, .ifCond .lt 7, 3), (137, .iconst 1, 1), (138, .goto 4, 3), (141, .iconst 0, 1), (142, .istore 5, 2), (144, .iinc 6 1, 3), (147, .goto (-60), 3), (150, .iload 5, 2), (152, .ireturn, 1)]
theorem dX8_readsMaid : dall cX8_readsMaid tX8_readsMaid = true := by decide +kernel
def tX8_readsSuitor : List (Nat × Instr × Nat) := [(0, .aload_n 0, 1), (1, .iload_n 1, 1), (2, .iload_n 2, 1), (3, .invokevirtual 98, 3), (6, .istore 4, 2), (8, .iconst 0, 1), (9, .istore 5, 2), (11, .iload 5, 2), (13, .aload_n 0, 1), (14, .getfield 109, 3), (17, .if_icmp .ge 57, 3), (20, .iload 4, 2), (22, .ifCond .eq 52, 3), (25, .aload_n 0, 1), (26, .getfield 25, 3), (29, .bipush 6, 2), (31, .iload 5, 2), (33, .imul, 1), (34, .iload_n 3, 1), (35, .iadd, 1), (36, .aload_n 0, 1), (37, .iload_n 1, 1), (38, .iload_n 2, 1), (39, .iconst 0, 1), (40, .bipush 9, 2), (42, .invokevirtual 105, 3), (45, .iastore, 1), (46, .aload_n 0, 1), (47, .getfield 25, 3), (50, .bipush 6, 2), (52, .iload 5, 2), (54, .imul, 1), (55, .iload_n 3, 1), (56, .iadd, 1), (57, .iaload, 1), (58, .ifCond .lt 7, 3), (61, .iconst 1, 1), (62, .goto 4, 3), (65, .iconst 0, 1), (66, .istore 4, 2), (68, .iinc 5 1, 3), (71, .goto (-60), 3), (74, .iload 4, 2), (76, .ireturn, 1)]
theorem dX8_readsSuitor : dall cX8_readsSuitor tX8_readsSuitor = true := by decide +kernel
def tX8_readsValley : List (Nat × Instr × Nat) := [(0, .aload_n 0, 1), (1, .iconst 0, 1), (2, .putfield 91, 3), (5, .aload_n 0, 1), (6, .iload_n 1, 1), (7, .iload_n 2, 1), (8, .invokevirtual 94, 3), (11, .bipush 121, 2), (13, .if_icmp .ne 7, 3), (16, .iconst 1, 1), (17, .goto 4, 3), (20, .iconst 0, 1), (21, .istore_n 3, 1), (22, .aload_n 0, 1), (23, .dup, 1), (24, .getfield 91, 3), (27, .iload_n 3, 1), (28, .ifCond .eq 7, 3), (31, .iconst 1, 1), (32, .goto 4, 3), (35, .iconst 0, 1), (36, .iadd, 1), (37, .putfield 91, 3), (40, .aload_n 0, 1), (41, .iload_n 3, 1), (42, .ifCond .eq 15, 3), (45, .aload_n 0, 1), (46, .iload_n 1, 1), (47, .iload_n 2, 1), (48, .iconst 1, 1), (49, .bipush 6, 2), (51, .invokevirtual 105, 3), (54, .goto 5, 3), (57, .bipush (-9), 2), (59, .putfield 102, 3), (62, .aload_n 0, 1), (63, .aload_n 0, 1), (64, .getfield 102, 3), (67, .ifCond .le 14, 3), (70, .aload_n 0, 1), (71, .iload_n 1, 1), (72, .iload_n 2, 1), (73, .iconst 1, 1), (74, .iconst 4, 1), (75, .invokevirtual 105, 3), (78, .goto 5, 3), (81, .bipush (-9), 2), (83, .putfield 109, 3), (86, .aload_n 0, 1), (87, .getfield 109, 3), (90, .ifCond .le 7, 3), (93, .iconst 1, 1), (94, .goto 4, 3), (97, .iconst 0, 1), (98, .istore_n 3, 1), (99, .iconst 0, 1), (100, .istore 4, 2), (102, .iload_n 3, 1), (103, .ifCond .eq 27, 3), (106, .iload 4, 2), (108, .aload_n 0, 1), (109, .getfield 109, 3), (112, .if_icmp .ge 18, 3), (115, .aload_n 0, 1), (116, .iload_n 1, 1), (117, .iload_n 2, 1), (118, .iload 4, 2), (120, .invokevirtual 112, 3), (123, .istore_n 3, 1), (124, .iinc 4 1, 3), (127, .goto (-25), 3), (130, .iconst 0, 1), (131, .istore 4, 2), (133, .iload_n 3, 1), (134, .ifCond .eq 27, 3), (137, .iload 4, 2), (139, .aload_n 0, 1), (140, .getfield 102, 3), (143, .if_icmp .ge 18, 3), (146, .aload_n 0, 1), (147, .iload_n 1, 1), (148, .iload_n 2, 1), (149, .iload 4, 2), (151, .invokevirtual 116, 3), (154, .istore_n 3, 1), (155, .iinc 4 1, 3), (158, .goto (-25), 3), (161, .iload_n 3, 1), (162, .ifCond .eq 15, 3), (165, .aload_n 0, 1), (166, .getfield 91, 3), (169, .iload_n 2, 1), (170, .if_icmp .ne 7, 3), (173, .iconst 1, 1), (174, .goto 4, 3), (177, .iconst 0, 1), (178, .ireturn, 1)]
theorem dX8_readsValley : dall cX8_readsValley tX8_readsValley = true := by decide +kernel
def tX8_cellsBarred : List (Nat × Instr × Nat) := [(0, .aload_n 0, 1), (1, .getfield 59, 3), (4, .iload_n 1, 1), (5, .iaload, 1), (6, .ifCond .lt 19, 3), (9, .aload_n 0, 1), (10, .getfield 62, 3), (13, .iload_n 1, 1), (14, .iaload, 1), (15, .iload_n 2, 1), (16, .if_icmp .eq 9, 3), (19, .aload_n 0, 1), (20, .iconst 2, 1), (21, .invokevirtual 119, 3), (24, .ireturn, 1), (25, .aload_n 0, 1), (26, .getfield 59, 3), (29, .iload_n 1, 1), (30, .iaload, 1), (31, .ifCond .ge 9, 3), (34, .aload_n 0, 1), (35, .iconst 1, 1), (36, .invokevirtual 119, 3), (39, .ireturn, 1), (40, .lload 4, 2), (42, .lconst 0, 1), (43, .lcmp, 1), (44, .ifCond .ge 9, 3), (47, .aload_n 0, 1), (48, .iconst 4, 1), (49, .invokevirtual 119, 3), (52, .ireturn, 1), (53, .iload_n 3, 1), (54, .lload 4, 2), (56, .aload_n 0, 1), (57, .getfield 59, 3), (60, .iload_n 1, 1), (61, .iaload, 1), (62, .invokestatic 123, 3), (65, .ifCond .eq 11, 3), (68, .aload_n 0, 1), (69, .iconst 3, 1), (70, .invokevirtual 119, 3), (73, .goto 4, 3), (76, .iconst 0, 1), (77, .ireturn, 1)]
theorem dX8_cellsBarred : dall cX8_cellsBarred tX8_cellsBarred = true := by decide +kernel
def tX8_valley : List (Nat × Instr × Nat) := [(0, .iload_n 1, 1), (1, .invokestatic 127, 3), (4, .ifCond .eq 9, 3), (7, .aload_n 0, 1), (8, .iconst (-1), 1), (9, .invokevirtual 131, 3), (12, .ireturn, 1), (13, .iload_n 2, 1), (14, .i2l, 1), (15, .lconst 0, 1), (16, .ldc2_w 134, 3), (19, .invokestatic 84, 3), (22, .ifCond .ne 10, 3), (25, .aload_n 0, 1), (26, .bipush (-2), 2), (28, .invokevirtual 131, 3), (31, .ireturn, 1), (32, .aload_n 0, 1), (33, .iload_n 1, 1), (34, .iload_n 2, 1), (35, .iload_n 3, 1), (36, .iload 4, 2), (38, .i2l, 1), (39, .invokevirtual 136, 3), (42, .istore 5, 2), (44, .iload 5, 2), (46, .ifCond .ge 6, 3), (49, .iload 5, 2), (51, .ireturn, 1), (52, .aload_n 0, 1), (53, .bipush 100, 2), (55, .iload_n 1, 1), (56, .imul, 1), (57, .iload_n 3, 1), (58, .iadd, 1), (59, .iload 4, 2), (61, .invokevirtual 140, 3), (64, .ifCond .ne 15, 3), (67, .aload_n 0, 1), (68, .bipush (-100), 2), (70, .aload_n 0, 1), (71, .getfield 91, 3), (74, .isub, 1), (75, .invokevirtual 131, 3), (78, .ireturn, 1), (79, .aload_n 0, 1), (80, .aload_n 0, 1), (81, .getfield 102, 3), (84, .putfield 81, 3), (87, .aload_n 0, 1), (88, .aload_n 0, 1), (89, .getfield 109, 3), (92, .putfield 88, 3), (95, .iconst 0, 1), (96, .istore 6, 2), (98, .iload 6, 2), (100, .aload_n 0, 1), (101, .getfield 88, 3), (104, .if_icmp .ge 93, 3), (107, .aload_n 0, 1), (108, .getfield 7, 3), (111, .iload 6, 2), (113, .aload_n 0, 1), (114, .getfield 19, 3), (117, .iload 6, 2), (119, .iaload, 1), (120, .iastore, 1), (121, .iconst 0, 1), (122, .istore 7, 2), (124, .iload 7, 2), (126, .aload_n 0, 1), (127, .getfield 81, 3), (130, .if_icmp .ge 61, 3), (133, .aload_n 0, 1), (134, .getfield 13, 3), (137, .bipush 6, 2), (139, .iload 6, 2), (141, .imul, 1), (142, .iload 7, 2), (144, .iadd, 1), (145, .aload_n 0, 1), (146, .getfield 22, 3), (149, .bipush 6, 2), (151, .iload 6, 2), (153, .imul, 1), (154, .iload 7, 2), (156, .iadd, 1), (157, .iaload, 1), (158, .iastore, 1), (159, .aload_n 0, 1), (160, .getfield 16, 3), (163, .bipush 6, 2), (165, .iload 6, 2), (167, .imul, 1), (168, .iload 7, 2), (170, .iadd, 1), (171, .aload_n 0, 1), (172, .getfield 25, 3), (175, .bipush 6, 2), (177, .iload 6, 2), (179, .imul, 1), (180, .iload 7, 2), (182, .iadd, 1), (183, .iaload, 1), (184, .iastore, 1), (185, .iinc 7 1, 3), (188, .goto (-64), 3), (191, .iinc 6 1, 3), (194, .goto (-96), 3), (197, .aload_n 0, 1), (198, .iconst 3, 1), (199, .putfield 143, 3), (202, .aload_n 0, 1), (203, .iconst 0, 1), (204, .putfield 146, 3), (207, .aload_n 0, 1), (208, .iconst 0, 1), (209, .putfield 149, 3), (212, .aload_n 0, 1), (213, .aload_n 0, 1), (214, .getfield 88, 3), (217, .invokevirtual 131, 3), (220, .ireturn, 1)]
theorem dX8_valley : dall cX8_valley tX8_valley = true := by decide +kernel
def tX8_likes : List (Nat × Instr × Nat) := [(0, .aload_n 0, 1), (1, .iload_n 1, 1), (2, .invokevirtual 152, 3), (5, .ifCond .ne 11, 3), (8, .aload_n 0, 1), (9, .iload_n 2, 1), (10, .invokevirtual 155, 3), (13, .ifCond .eq 5, 3), (16, .iconst (-1), 1), (17, .ireturn, 1), (18, .iload_n 3, 1), (19, .ifCond .ne 17, 3), (22, .aload_n 0, 1), (23, .getfield 13, 3), (26, .bipush 6, 2), (28, .iload_n 1, 1), (29, .imul, 1), (30, .iload_n 2, 1), (31, .iadd, 1), (32, .iaload, 1), (33, .goto 24, 3), (36, .iload_n 3, 1), (37, .iconst 1, 1), (38, .if_icmp .ne 17, 3), (41, .aload_n 0, 1), (42, .getfield 16, 3), (45, .bipush 6, 2), (47, .iload_n 1, 1), (48, .imul, 1), (49, .iload_n 2, 1), (50, .iadd, 1), (51, .iaload, 1), (52, .goto 5, 3), (55, .bipush (-2), 2), (57, .ireturn, 1)]
theorem dX8_likes : dall cX8_likes tX8_likes = true := by decide +kernel
def tX8_like : List (Nat × Instr × Nat) := [(0, .aload_n 0, 1), (1, .iload_n 1, 1), (2, .invokevirtual 152, 3), (5, .ifCond .ne 11, 3), (8, .aload_n 0, 1), (9, .iload_n 2, 1), (10, .invokevirtual 155, 3), (13, .ifCond .eq 5, 3), (16, .iconst (-1), 1), (17, .ireturn, 1), (18, .iload_n 3, 1), (19, .i2l, 1), (20, .lconst 0, 1), (21, .lconst 1, 1), (22, .invokestatic 84, 3), (25, .ifCond .eq 16, 3), (28, .iload 4, 2), (30, .i2l, 1), (31, .lconst 0, 1), (32, .ldc2_w 158, 3), (35, .invokestatic 84, 3), (38, .ifCond .ne 6, 3), (41, .bipush (-2), 2), (43, .ireturn, 1), (44, .bipush 6, 2), (46, .iload_n 1, 1), (47, .imul, 1), (48, .iload_n 2, 1), (49, .iadd, 1), (50, .istore 5, 2), (52, .iload_n 3, 1), (53, .ifCond .ne 13, 3), (56, .aload_n 0, 1), (57, .getfield 13, 3), (60, .iload 5, 2), (62, .iaload, 1), (63, .goto 10, 3), (66, .aload_n 0, 1), (67, .getfield 16, 3), (70, .iload 5, 2), (72, .iaload, 1), (73, .istore 6, 2), (75, .iload_n 3, 1), (76, .ifCond .ne 15, 3), (79, .aload_n 0, 1), (80, .getfield 13, 3), (83, .iload 5, 2), (85, .iload 4, 2), (87, .iastore, 1), (88, .goto 12, 3), (91, .aload_n 0, 1), (92, .getfield 16, 3), (95, .iload 5, 2), (97, .iload 4, 2), (99, .iastore, 1), (100, .iload 6, 2), (102, .ireturn, 1)]
theorem dX8_like : dall cX8_like tX8_like = true := by decide +kernel
def tX8_mindOf : List (Nat × Instr × Nat) := [(0, .iload_n 0, 1), (1, .ifCond .ne 7, 3), (4, .iconst 5, 1), (5, .goto 16, 3), (8, .iload_n 0, 1), (9, .iconst 1, 1), (10, .if_icmp .ne 8, 3), (13, .bipush 7, 2), (15, .goto 6, 3), (18, .iconst 3, 1), (19, .iload_n 1, 1), (20, .iadd, 1), (21, .ireturn, 1)]
theorem dX8_mindOf : dall cX8_mindOf tX8_mindOf = true := by decide +kernel
def tX8_ofMaid : List (Nat × Instr × Nat) := [(0, .aload_n 0, 1), (1, .iload_n 1, 1), (2, .invokevirtual 152, 3), (5, .ifCond .eq 5, 3), (8, .iconst (-1), 1), (9, .ireturn, 1), (10, .aload_n 0, 1), (11, .invokevirtual 160, 3), (14, .iload_n 2, 1), (15, .tableswitch 66 0 3 #[29, 36, 52, 59], 29), (44, .aload_n 0, 1), (45, .getfield 7, 3), (48, .iload_n 1, 1), (49, .iaload, 1), (50, .ireturn, 1), (51, .aload_n 0, 1), (52, .getfield 7, 3), (55, .iload_n 1, 1), (56, .iaload, 1), (57, .aload_n 0, 1), (58, .getfield 37, 3), (61, .iload_n 1, 1), (62, .iaload, 1), (63, .invokestatic 163, 3), (66, .ireturn, 1), (67, .aload_n 0, 1), (68, .getfield 37, 3), (71, .iload_n 1, 1), (72, .iaload, 1), (73, .ireturn, 1), (74, .aload_n 0, 1), (75, .getfield 40, 3), (78, .iload_n 1, 1), (79, .iaload, 1), (80, .ireturn, 1), (81, .bipush (-2), 2), (83, .ireturn, 1)]
theorem dX8_ofMaid : dall cX8_ofMaid tX8_ofMaid = true := by decide +kernel
def tX8_law : List (Nat × Instr × Nat) := [(0, .iload_n 1, 1), (1, .i2l, 1), (2, .lconst 0, 1), (3, .ldc2_w 158, 3), (6, .invokestatic 84, 3), (9, .ifCond .ne 6, 3), (12, .bipush (-2), 2), (14, .ireturn, 1), (15, .aload_n 0, 1), (16, .getfield 88, 3), (19, .ifCond .ne 6, 3), (22, .bipush (-3), 2), (24, .ireturn, 1), (25, .aload_n 0, 1), (26, .getfield 143, 3), (29, .istore_n 2, 1), (30, .aload_n 0, 1), (31, .iload_n 1, 1), (32, .putfield 143, 3), (35, .iload_n 2, 1), (36, .ireturn, 1)]
theorem dX8_law : dall cX8_law tX8_law = true := by decide +kernel
def tX8_begin : List (Nat × Instr × Nat) := [(0, .iconst 0, 1), (1, .istore_n 1, 1), (2, .iload_n 1, 1), (3, .iconst 4, 1), (4, .if_icmp .ge 24, 3), (7, .aload_n 0, 1), (8, .getfield 37, 3), (11, .iload_n 1, 1), (12, .iconst 0, 1), (13, .iastore, 1), (14, .aload_n 0, 1), (15, .getfield 40, 3), (18, .iload_n 1, 1), (19, .bipush (-9), 2), (21, .iastore, 1), (22, .iinc 1 1, 3), (25, .goto (-23), 3), (28, .iconst 0, 1), (29, .istore_n 1, 1), (30, .iload_n 1, 1), (31, .bipush 6, 2), (33, .if_icmp .ge 17, 3), (36, .aload_n 0, 1), (37, .getfield 43, 3), (40, .iload_n 1, 1), (41, .bipush (-9), 2), (43, .iastore, 1), (44, .iinc 1 1, 3), (47, .goto (-17), 3), (50, .return_, 1)]
theorem dX8_begin : dall cX8_begin tX8_begin = true := by decide +kernel
def tX8_doesWith : List (Nat × Instr × Nat) := [(0, .aload_n 0, 1), (1, .getfield 37, 3), (4, .iload_n 1, 1), (5, .iaload, 1), (6, .aload_n 0, 1), (7, .getfield 143, 3), (10, .if_icmp .lt 5, 3), (13, .iconst 2, 1), (14, .ireturn, 1), (15, .aload_n 0, 1), (16, .getfield 13, 3), (19, .bipush 6, 2), (21, .iload_n 1, 1), (22, .imul, 1), (23, .iload_n 2, 1), (24, .iadd, 1), (25, .iaload, 1), (26, .aload_n 0, 1), (27, .getfield 7, 3), (30, .iload_n 1, 1), (31, .iaload, 1), (32, .aload_n 0, 1), (33, .getfield 37, 3), (36, .iload_n 1, 1), (37, .iaload, 1), (38, .invokestatic 163, 3), (41, .if_icmp .lt 7, 3), (44, .iconst 1, 1), (45, .goto 4, 3), (48, .iconst 3, 1), (49, .ireturn, 1)]
theorem dX8_doesWith : dall cX8_doesWith tX8_doesWith = true := by decide +kernel
def tX8_ask : List (Nat × Instr × Nat) := [(0, .aload_n 0, 1), (1, .getfield 40, 3), (4, .iload_n 2, 1), (5, .iaload, 1), (6, .ifCond .ge 12, 3), (9, .aload_n 0, 1), (10, .getfield 43, 3), (13, .iload_n 1, 1), (14, .iaload, 1), (15, .ifCond .lt 5, 3), (18, .iconst 0, 1), (19, .ireturn, 1), (20, .aload_n 0, 1), (21, .iload_n 2, 1), (22, .iload_n 1, 1), (23, .invokevirtual 166, 3), (26, .istore_n 3, 1), (27, .iload_n 3, 1), (28, .iconst 3, 1), (29, .if_icmp .ne 16, 3), (32, .aload_n 0, 1), (33, .getfield 37, 3), (36, .iload_n 2, 1), (37, .dup2, 1), (38, .iaload, 1), (39, .iconst 1, 1), (40, .iadd, 1), (41, .iastore, 1), (42, .goto 17, 3), (45, .aload_n 0, 1), (46, .getfield 40, 3), (49, .iload_n 2, 1), (50, .iload_n 1, 1), (51, .iastore, 1), (52, .aload_n 0, 1), (53, .getfield 43, 3), (56, .iload_n 1, 1), (57, .iload_n 2, 1), (58, .iastore, 1), (59, .iload_n 3, 1), (60, .ireturn, 1)]
theorem dX8_ask : dall cX8_ask tX8_ask = true := by decide +kernel
def tX8_goOffers : List (Nat × Instr × Nat) := [(0, .aload_n 0, 1), (1, .invokevirtual 169, 3), (4, .iconst 0, 1), (5, .istore_n 1, 1), (6, .iload_n 1, 1), (7, .aload_n 0, 1), (8, .getfield 146, 3), (11, .if_icmp .ge 31, 3), (14, .aload_n 0, 1), (15, .getfield 34, 3), (18, .iload_n 1, 1), (19, .aload_n 0, 1), (20, .aload_n 0, 1), (21, .getfield 28, 3), (24, .iload_n 1, 1), (25, .iaload, 1), (26, .aload_n 0, 1), (27, .getfield 31, 3), (30, .iload_n 1, 1), (31, .iaload, 1), (32, .invokevirtual 172, 3), (35, .iastore, 1), (36, .iinc 1 1, 3), (39, .goto (-33), 3), (42, .return_, 1)]
theorem dX8_goOffers : dall cX8_goOffers tX8_goOffers = true := by decide +kernel
def tX8_offer : List (Nat × Instr × Nat) := [(0, .aload_n 0, 1), (1, .iload_n 1, 1), (2, .invokevirtual 155, 3), (5, .ifCond .ne 11, 3), (8, .aload_n 0, 1), (9, .iload_n 2, 1), (10, .invokevirtual 152, 3), (13, .ifCond .eq 5, 3), (16, .iconst (-1), 1), (17, .ireturn, 1), (18, .aload_n 0, 1), (19, .getfield 146, 3), (22, .bipush 24, 2), (24, .if_icmp .ne 6, 3), (27, .bipush (-4), 2), (29, .ireturn, 1), (30, .aload_n 0, 1), (31, .getfield 28, 3), (34, .aload_n 0, 1), (35, .getfield 146, 3), (38, .iload_n 1, 1), (39, .iastore, 1), (40, .aload_n 0, 1), (41, .getfield 31, 3), (44, .aload_n 0, 1), (45, .getfield 146, 3), (48, .iload_n 2, 1), (49, .iastore, 1), (50, .aload_n 0, 1), (51, .dup, 1), (52, .getfield 146, 3), (55, .iconst 1, 1), (56, .iadd, 1), (57, .putfield 146, 3), (60, .aload_n 0, 1), (61, .getfield 146, 3), (64, .iconst 1, 1), (65, .isub, 1), (66, .ireturn, 1)]
theorem dX8_offer : dall cX8_offer tX8_offer = true := by decide +kernel
def tX8_comes : List (Nat × Instr × Nat) := [(0, .iload_n 1, 1), (1, .i2l, 1), (2, .lconst 0, 1), (3, .aload_n 0, 1), (4, .getfield 146, 3), (7, .i2l, 1), (8, .lconst 1, 1), (9, .lsub, 1), (10, .invokestatic 84, 3), (13, .ifCond .ne 5, 3), (16, .iconst (-1), 1), (17, .ireturn, 1), (18, .aload_n 0, 1), (19, .invokevirtual 160, 3), (22, .aload_n 0, 1), (23, .getfield 34, 3), (26, .iload_n 1, 1), (27, .iaload, 1), (28, .ireturn, 1)]
theorem dX8_comes : dall cX8_comes tX8_comes = true := by decide +kernel
def tX8_undo : List (Nat × Instr × Nat) := [(0, .iload_n 1, 1), (1, .i2l, 1), (2, .lconst 0, 1), (3, .aload_n 0, 1), (4, .getfield 146, 3), (7, .i2l, 1), (8, .invokestatic 84, 3), (11, .ifCond .ne 6, 3), (14, .bipush (-2), 2), (16, .ireturn, 1), (17, .aload_n 0, 1), (18, .dup, 1), (19, .getfield 146, 3), (22, .iload_n 1, 1), (23, .isub, 1), (24, .putfield 146, 3), (27, .aload_n 0, 1), (28, .getfield 146, 3), (31, .ireturn, 1)]
theorem dX8_undo : dall cX8_undo tX8_undo = true := by decide +kernel
def tX8_pairs : List (Nat × Instr × Nat) := [(0, .aload_n 0, 1), (1, .getfield 88, 3), (4, .ifCond .ne 7, 3), (7, .invokestatic 77, 3), (10, .lreturn, 1), (11, .aload_n 0, 1), (12, .invokevirtual 160, 3), (15, .lconst 0, 1), (16, .lstore_n 1, 1), (17, .aload_n 0, 1), (18, .getfield 81, 3), (21, .iconst 1, 1), (22, .isub, 1), (23, .istore_n 3, 1), (24, .iload_n 3, 1), (25, .ifCond .lt 37, 3), (28, .ldc2_w 175, 3), (31, .lload_n 1, 1), (32, .lmul, 1), (33, .aload_n 0, 1), (34, .getfield 43, 3), (37, .iload_n 3, 1), (38, .iaload, 1), (39, .ifCond .ge 8, 3), (42, .bipush 9, 2), (44, .goto 9, 3), (47, .aload_n 0, 1), (48, .getfield 43, 3), (51, .iload_n 3, 1), (52, .iaload, 1), (53, .i2l, 1), (54, .ladd, 1), (55, .lstore_n 1, 1), (56, .iinc 3 (-1), 3), (59, .goto (-35), 3), (62, .lload_n 1, 1), (63, .lreturn, 1)]
theorem dX8_pairs : dall cX8_pairs tX8_pairs = true := by decide +kernel
def tX8_asked : List (Nat × Instr × Nat) := [(0, .aload_n 0, 1), (1, .iload_n 1, 1), (2, .invokevirtual 152, 3), (5, .ifCond .ne 10, 3), (8, .iload_n 2, 1), (9, .invokestatic 127, 3), (12, .ifCond .eq 9, 3), (15, .aload_n 0, 1), (16, .iconst (-1), 1), (17, .invokevirtual 131, 3), (20, .ireturn, 1), (21, .iload_n 3, 1), (22, .i2l, 1), (23, .lconst 0, 1), (24, .ldc2_w 134, 3), (27, .invokestatic 84, 3), (30, .ifCond .eq 14, 3), (33, .iload 6, 2), (35, .i2l, 1), (36, .lconst 0, 1), (37, .lconst 1, 1), (38, .invokestatic 84, 3), (41, .ifCond .ne 10, 3), (44, .aload_n 0, 1), (45, .bipush (-2), 2), (47, .invokevirtual 131, 3), (50, .ireturn, 1), (51, .aload_n 0, 1), (52, .iload_n 2, 1), (53, .iload_n 3, 1), (54, .iload 4, 2), (56, .iload 5, 2), (58, .i2l, 1), (59, .invokevirtual 136, 3), (62, .istore 7, 2), (64, .iload 7, 2), (66, .ifCond .ge 6, 3), (69, .iload 7, 2), (71, .ireturn, 1), (72, .iload 5, 2), (74, .i2l, 1), (75, .lconst 1, 1), (76, .ldc2_w 177, 3), (79, .invokestatic 84, 3), (82, .ifCond .ne 10, 3), (85, .aload_n 0, 1), (86, .bipush (-2), 2), (88, .invokevirtual 131, 3), (91, .ireturn, 1), (92, .iconst 0, 1), (93, .istore 8, 2), (95, .iload 8, 2), (97, .iload 5, 2), (99, .if_icmp .ge 37, 3), (102, .aload_n 0, 1), (103, .aload_n 0, 1), (104, .getfield 65, 3), (107, .bipush 100, 2), (109, .iload_n 2, 1), (110, .imul, 1), (111, .iload 4, 2), (113, .iadd, 1), (114, .iload 8, 2), (116, .iadd, 1), (117, .iaload, 1), (118, .invokevirtual 155, 3), (121, .ifCond .eq 9, 3), (124, .aload_n 0, 1), (125, .iconst (-1), 1), (126, .invokevirtual 131, 3), (129, .ireturn, 1), (130, .iinc 8 1, 3), (133, .goto (-38), 3), (136, .iconst 0, 1), (137, .istore 8, 2), (139, .iconst 0, 1), (140, .istore 9, 2), (142, .iconst 1, 1), (143, .istore 10, 2), (145, .aload_n 0, 1), (146, .invokevirtual 169, 3), (149, .iconst 0, 1), (150, .istore 11, 2), (152, .iload 11, 2), (154, .iload 5, 2), (156, .if_icmp .ge 107, 3), (159, .aload_n 0, 1), (160, .getfield 65, 3), (163, .bipush 100, 2), (165, .iload_n 2, 1), (166, .imul, 1), (167, .iload 4, 2), (169, .iadd, 1), (170, .iload 11, 2), (172, .iadd, 1), (173, .iaload, 1), (174, .istore 12, 2), (176, .aload_n 0, 1), (177, .getfield 13, 3), (180, .bipush 6, 2), (182, .iload_n 1, 1), (183, .imul, 1), (184, .iload 12, 2), (186, .iadd, 1), (187, .iaload, 1), (188, .istore 13, 2), (190, .iload 11, 2), (192, .aload_n 0, 1), (193, .getfield 143, 3), (196, .if_icmp .gt 15, 3), (199, .iload 13, 2), (201, .iload 8, 2), (203, .if_icmp .le 8, 3), (206, .iload 13, 2), (208, .goto 5, 3), (211, .iload 8, 2), (213, .istore 8, 2), (215, .iload 10, 2), (217, .ifCond .eq 21, 3), (220, .aload_n 0, 1), (221, .iload_n 1, 1), (222, .iload 12, 2), (224, .invokevirtual 166, 3), (227, .iconst 3, 1), (228, .if_icmp .eq 10, 3), (231, .iload 13, 2), (233, .istore 9, 2), (235, .iconst 0, 1), (236, .istore 10, 2), (238, .aload_n 0, 1), (239, .getfield 37, 3), (242, .iload_n 1, 1), (243, .dup2, 1), (244, .iaload, 1), (245, .iload 10, 2), (247, .ifCond .eq 7, 3), (250, .iconst 1, 1), (251, .goto 4, 3), (254, .iconst 0, 1), (255, .iadd, 1), (256, .iastore, 1), (257, .iinc 11 1, 3), (260, .goto (-108), 3), (263, .aload_n 0, 1), (264, .iload 6, 2), (266, .ifCond .ne 8, 3), (269, .iload 8, 2), (271, .goto 5, 3), (274, .iload 9, 2), (276, .invokevirtual 131, 3), (279, .ireturn, 1)]
theorem dX8_asked : dall cX8_asked tX8_asked = true := by decide +kernel
def tX8_doBring : List (Nat × Instr × Nat) := [(0, .aload_n 0, 1), (1, .invokevirtual 169, 3), (4, .iconst 1, 1), (5, .istore 4, 2), (7, .iconst 0, 1), (8, .istore 5, 2), (10, .iload 5, 2), (12, .aload_n 0, 1), (13, .getfield 81, 3), (16, .if_icmp .ge 51, 3), (19, .iload 4, 2), (21, .ifCond .eq 46, 3), (24, .iload_n 2, 1), (25, .iload 5, 2), (27, .invokestatic 179, 3), (30, .ifCond .eq 31, 3), (33, .aload_n 0, 1), (34, .iload_n 1, 1), (35, .iload 5, 2), (37, .invokevirtual 166, 3), (40, .iconst 3, 1), (41, .if_icmp .ne 7, 3), (44, .iconst 1, 1), (45, .goto 4, 3), (48, .iconst 0, 1), (49, .istore 4, 2), (51, .aload_n 0, 1), (52, .getfield 37, 3), (55, .iload_n 1, 1), (56, .dup2, 1), (57, .iaload, 1), (58, .iconst 1, 1), (59, .iadd, 1), (60, .iastore, 1), (61, .iinc 5 1, 3), (64, .goto (-54), 3), (67, .iload 4, 2), (69, .ifCond .eq 17, 3), (72, .aload_n 0, 1), (73, .iload_n 1, 1), (74, .iload_n 3, 1), (75, .invokevirtual 166, 3), (78, .iconst 3, 1), (79, .if_icmp .eq 7, 3), (82, .iconst 1, 1), (83, .goto 4, 3), (86, .iconst 0, 1), (87, .ireturn, 1)]
theorem dX8_doBring : dall cX8_doBring tX8_doBring = true := by decide +kernel
def tX8_sent : List (Nat × Instr × Nat) := [(0, .aload_n 0, 1), (1, .iload_n 1, 1), (2, .invokevirtual 152, 3), (5, .ifCond .ne 11, 3), (8, .aload_n 0, 1), (9, .iload_n 2, 1), (10, .invokevirtual 155, 3), (13, .ifCond .eq 5, 3), (16, .iconst (-1), 1), (17, .ireturn, 1), (18, .bipush (-9), 2), (20, .istore_n 3, 1), (21, .iconst 0, 1), (22, .istore 4, 2), (24, .iload 4, 2), (26, .iconst 1, 1), (27, .aload_n 0, 1), (28, .getfield 81, 3), (31, .ishl, 1), (32, .if_icmp .ge 64, 3), (35, .iload_n 3, 1), (36, .ifCond .lt 15, 3), (39, .iload 4, 2), (41, .invokestatic 182, 3), (44, .iload_n 3, 1), (45, .invokestatic 182, 3), (48, .if_icmp .ge 7, 3), (51, .iconst 1, 1), (52, .goto 4, 3), (55, .iconst 0, 1), (56, .istore 5, 2), (58, .iload 5, 2), (60, .ifCond .eq 28, 3), (63, .iload 4, 2), (65, .iload_n 2, 1), (66, .invokestatic 179, 3), (69, .ifCond .ne 19, 3), (72, .aload_n 0, 1), (73, .iload_n 1, 1), (74, .iload 4, 2), (76, .iload_n 2, 1), (77, .invokevirtual 185, 3), (80, .ifCond .eq 8, 3), (83, .iload 4, 2), (85, .goto 4, 3), (88, .iload_n 3, 1), (89, .istore_n 3, 1), (90, .iinc 4 1, 3), (93, .goto (-69), 3), (96, .iload_n 3, 1), (97, .ireturn, 1)]
theorem dX8_sent : dall cX8_sent tX8_sent = true := by decide +kernel
def tX8_likesHer : List (Nat × Instr × Nat) := [(0, .aload_n 0, 1), (1, .getfield 43, 3), (4, .iload_n 1, 1), (5, .iaload, 1), (6, .ifCond .ge 7, 3), (9, .iconst (-1), 1), (10, .goto 19, 3), (13, .aload_n 0, 1), (14, .getfield 16, 3), (17, .bipush 6, 2), (19, .aload_n 0, 1), (20, .getfield 43, 3), (23, .iload_n 1, 1), (24, .iaload, 1), (25, .imul, 1), (26, .iload_n 1, 1), (27, .iadd, 1), (28, .iaload, 1), (29, .ireturn, 1)]
theorem dX8_likesHer : dall cX8_likesHer tX8_likesHer = true := by decide +kernel
def tX8_likesHim : List (Nat × Instr × Nat) := [(0, .aload_n 0, 1), (1, .getfield 40, 3), (4, .iload_n 1, 1), (5, .iaload, 1), (6, .ifCond .ge 7, 3), (9, .iconst (-1), 1), (10, .goto 19, 3), (13, .aload_n 0, 1), (14, .getfield 13, 3), (17, .bipush 6, 2), (19, .iload_n 1, 1), (20, .imul, 1), (21, .aload_n 0, 1), (22, .getfield 40, 3), (25, .iload_n 1, 1), (26, .iaload, 1), (27, .iadd, 1), (28, .iaload, 1), (29, .ireturn, 1)]
theorem dX8_likesHim : dall cX8_likesHim tX8_likesHim = true := by decide +kernel
def tX8_isFirm : List (Nat × Instr × Nat) := [(0, .iconst 1, 1), (1, .istore_n 1, 1), (2, .iconst 0, 1), (3, .istore_n 2, 1), (4, .iload_n 2, 1), (5, .aload_n 0, 1), (6, .getfield 88, 3), (9, .if_icmp .ge 85, 3), (12, .iconst 0, 1), (13, .istore_n 3, 1), (14, .iload_n 3, 1), (15, .aload_n 0, 1), (16, .getfield 81, 3), (19, .if_icmp .ge 69, 3), (22, .aload_n 0, 1), (23, .getfield 16, 3), (26, .bipush 6, 2), (28, .iload_n 2, 1), (29, .imul, 1), (30, .iload_n 3, 1), (31, .iadd, 1), (32, .iaload, 1), (33, .aload_n 0, 1), (34, .iload_n 3, 1), (35, .invokevirtual 188, 3), (38, .if_icmp .le 26, 3), (41, .aload_n 0, 1), (42, .getfield 13, 3), (45, .bipush 6, 2), (47, .iload_n 2, 1), (48, .imul, 1), (49, .iload_n 3, 1), (50, .iadd, 1), (51, .iaload, 1), (52, .aload_n 0, 1), (53, .iload_n 2, 1), (54, .invokevirtual 191, 3), (57, .if_icmp .le 7, 3), (60, .iconst 1, 1), (61, .goto 4, 3), (64, .iconst 0, 1), (65, .istore 4, 2), (67, .iload_n 1, 1), (68, .ifCond .eq 12, 3), (71, .iload 4, 2), (73, .ifCond .ne 7, 3), (76, .iconst 1, 1), (77, .goto 4, 3), (80, .iconst 0, 1), (81, .istore_n 1, 1), (82, .iinc 3 1, 3), (85, .goto (-71), 3), (88, .iinc 2 1, 3), (91, .goto (-87), 3), (94, .iload_n 1, 1), (95, .ireturn, 1)]
theorem dX8_isFirm : dall cX8_isFirm tX8_isFirm = true := by decide +kernel
def tX8_laysMatch : List (Nat × Instr × Nat) := [(0, .aload_n 0, 1), (1, .invokevirtual 169, 3), (4, .iload_n 1, 1), (5, .istore_n 2, 1), (6, .iconst 1, 1), (7, .istore_n 3, 1), (8, .aload_n 0, 1), (9, .getfield 81, 3), (12, .iconst 1, 1), (13, .isub, 1), (14, .istore 4, 2), (16, .iload 4, 2), (18, .ifCond .lt 75, 3), (21, .iload_n 2, 1), (22, .aload_n 0, 1), (23, .getfield 88, 3), (26, .iconst 1, 1), (27, .iadd, 1), (28, .irem, 1), (29, .istore 5, 2), (31, .iload_n 2, 1), (32, .aload_n 0, 1), (33, .getfield 88, 3), (36, .iconst 1, 1), (37, .iadd, 1), (38, .idiv, 1), (39, .istore_n 2, 1), (40, .iload 5, 2), (42, .aload_n 0, 1), (43, .getfield 88, 3), (46, .if_icmp .ge 41, 3), (49, .iload_n 3, 1), (50, .ifCond .eq 17, 3), (53, .aload_n 0, 1), (54, .getfield 40, 3), (57, .iload 5, 2), (59, .iaload, 1), (60, .ifCond .ge 7, 3), (63, .iconst 1, 1), (64, .goto 4, 3), (67, .iconst 0, 1), (68, .istore_n 3, 1), (69, .aload_n 0, 1), (70, .getfield 40, 3), (73, .iload 5, 2), (75, .iload 4, 2), (77, .iastore, 1), (78, .aload_n 0, 1), (79, .getfield 43, 3), (82, .iload 4, 2), (84, .iload 5, 2), (86, .iastore, 1), (87, .iinc 4 (-1), 3), (90, .goto (-74), 3), (93, .iload_n 3, 1), (94, .ireturn, 1)]
theorem dX8_laysMatch : dall cX8_laysMatch tX8_laysMatch = true := by decide +kernel
def tX8_power : List (Nat × Instr × Nat) := [(0, .iconst 1, 1), (1, .istore_n 2, 1), (2, .iconst 0, 1), (3, .istore_n 3, 1), (4, .iload_n 3, 1), (5, .aload_n 0, 1), (6, .getfield 81, 3), (9, .if_icmp .ge 13, 3), (12, .iload_n 2, 1), (13, .iload_n 1, 1), (14, .imul, 1), (15, .istore_n 2, 1), (16, .iinc 3 1, 3), (19, .goto (-15), 3), (22, .iload_n 2, 1), (23, .ireturn, 1)]
theorem dX8_power : dall cX8_power tX8_power = true := by decide +kernel
def tX8_firm : List (Nat × Instr × Nat) := [(0, .iload_n 1, 1), (1, .iconst (-1), 1), (2, .if_icmp .eq 13, 3), (5, .aload_n 0, 1), (6, .iload_n 1, 1), (7, .invokevirtual 155, 3), (10, .ifCond .eq 5, 3), (13, .iconst (-1), 1), (14, .ireturn, 1), (15, .aload_n 0, 1), (16, .getfield 88, 3), (19, .ifCond .ne 6, 3), (22, .bipush (-3), 2), (24, .ireturn, 1), (25, .iconst 0, 1), (26, .istore_n 2, 1), (27, .iconst 0, 1), (28, .istore_n 3, 1), (29, .iload_n 3, 1), (30, .aload_n 0, 1), (31, .aload_n 0, 1), (32, .getfield 88, 3), (35, .iconst 1, 1), (36, .iadd, 1), (37, .invokevirtual 194, 3), (40, .if_icmp .ge 56, 3), (43, .aload_n 0, 1), (44, .iload_n 3, 1), (45, .invokevirtual 197, 3), (48, .ifCond .eq 42, 3), (51, .aload_n 0, 1), (52, .invokevirtual 200, 3), (55, .ifCond .eq 35, 3), (58, .iload_n 2, 1), (59, .ifCond .ne 28, 3), (62, .iload_n 1, 1), (63, .ifCond .lt 24, 3), (66, .aload_n 0, 1), (67, .getfield 43, 3), (70, .iload_n 1, 1), (71, .iaload, 1), (72, .ifCond .ge 8, 3), (75, .bipush 9, 2), (77, .goto 9, 3), (80, .aload_n 0, 1), (81, .getfield 43, 3), (84, .iload_n 1, 1), (85, .iaload, 1), (86, .ireturn, 1), (87, .iinc 2 1, 3), (90, .iinc 3 1, 3), (93, .goto (-64), 3), (96, .iload_n 2, 1), (97, .ireturn, 1)]
theorem dX8_firm : dall cX8_firm tX8_firm = true := by decide +kernel
def tX8_brought : List (Nat × Instr × Nat) := [(0, .aload_n 0, 1), (1, .getfield 88, 3), (4, .ifCond .ne 6, 3), (7, .bipush (-3), 2), (9, .ireturn, 1), (10, .iconst 0, 1), (11, .istore_n 1, 1), (12, .iconst 0, 1), (13, .istore_n 2, 1), (14, .iload_n 2, 1), (15, .aload_n 0, 1), (16, .aload_n 0, 1), (17, .getfield 88, 3), (20, .invokevirtual 194, 3), (23, .if_icmp .ge 68, 3), (26, .aload_n 0, 1), (27, .invokevirtual 169, 3), (30, .iload_n 2, 1), (31, .istore_n 3, 1), (32, .iconst 0, 1), (33, .istore 4, 2), (35, .iload 4, 2), (37, .aload_n 0, 1), (38, .getfield 81, 3), (41, .if_icmp .ge 29, 3), (44, .aload_n 0, 1), (45, .iload 4, 2), (47, .iload_n 3, 1), (48, .aload_n 0, 1), (49, .getfield 88, 3), (52, .irem, 1), (53, .invokevirtual 172, 3), (56, .pop, 1), (57, .iload_n 3, 1), (58, .aload_n 0, 1), (59, .getfield 88, 3), (62, .idiv, 1), (63, .istore_n 3, 1), (64, .iinc 4 1, 3), (67, .goto (-32), 3), (70, .iload_n 1, 1), (71, .aload_n 0, 1), (72, .invokevirtual 200, 3), (75, .ifCond .eq 7, 3), (78, .iconst 1, 1), (79, .goto 4, 3), (82, .iconst 0, 1), (83, .iadd, 1), (84, .istore_n 1, 1), (85, .iinc 2 1, 3), (88, .goto (-74), 3), (91, .iload_n 1, 1), (92, .ireturn, 1)]
theorem dX8_brought : dall cX8_brought tX8_brought = true := by decide +kernel
def tX8_worth : List (Nat × Instr × Nat) := [(0, .aload_n 0, 1), (1, .iload_n 1, 1), (2, .invokevirtual 152, 3), (5, .ifCond .ne 38, 3), (8, .iload_n 2, 1), (9, .i2l, 1), (10, .lconst 1, 1), (11, .ldc2_w 204, 3), (14, .invokestatic 84, 3), (17, .ifCond .eq 26, 3), (20, .iload_n 3, 1), (21, .i2l, 1), (22, .lconst 0, 1), (23, .ldc2_w 206, 3), (26, .invokestatic 84, 3), (29, .ifCond .eq 14, 3), (32, .iload 4, 2), (34, .i2l, 1), (35, .lconst 0, 1), (36, .lconst 1, 1), (37, .invokestatic 84, 3), (40, .ifCond .ne 7, 3), (43, .invokestatic 77, 3), (46, .lreturn, 1), (47, .lconst 0, 1), (48, .lstore 5, 2), (50, .lconst 1, 1), (51, .lstore 7, 2), (53, .iconst 1, 1), (54, .istore 9, 2), (56, .iload 9, 2), (58, .iload_n 2, 1), (59, .if_icmp .gt 95, 3), (62, .iload_n 3, 1), (63, .iload_n 2, 1), (64, .iload 9, 2), (66, .isub, 1), (67, .isub, 1), (68, .istore 10, 2), (70, .lconst 0, 1), (71, .lstore 11, 2), (73, .iconst 0, 1), (74, .istore 13, 2), (76, .iload 13, 2), (78, .aload_n 0, 1), (79, .getfield 81, 3), (82, .if_icmp .ge 52, 3), (85, .aload_n 0, 1), (86, .getfield 13, 3), (89, .bipush 6, 2), (91, .iload_n 1, 1), (92, .imul, 1), (93, .iload 13, 2), (95, .iadd, 1), (96, .iaload, 1), (97, .i2l, 1), (98, .lload 7, 2), (100, .lmul, 1), (101, .lstore 14, 2), (103, .lload 11, 2), (105, .iload 10, 2), (107, .ifCond .le 16, 3), (110, .lload 5, 2), (112, .lload 14, 2), (114, .lcmp, 1), (115, .ifCond .le 8, 3), (118, .lload 5, 2), (120, .goto 5, 3), (123, .lload 14, 2), (125, .ladd, 1), (126, .lstore 11, 2), (128, .iinc 13 1, 3), (131, .goto (-55), 3), (134, .lload 11, 2), (136, .lstore 5, 2), (138, .lload 7, 2), (140, .aload_n 0, 1), (141, .getfield 81, 3), (144, .i2l, 1), (145, .lmul, 1), (146, .lstore 7, 2), (148, .iinc 9 1, 3), (151, .goto (-95), 3), (154, .lload 5, 2), (156, .lload 7, 2), (158, .iload 4, 2), (160, .invokestatic 208, 3), (163, .lreturn, 1)]
theorem dX8_worth : dall cX8_worth tX8_worth = true := by decide +kernel
def tX8_reading : List (Nat × Instr × Nat) := [(0, .aload_n 0, 1), (1, .iload_n 1, 1), (2, .invokevirtual 152, 3), (5, .ifCond .ne 11, 3), (8, .aload_n 0, 1), (9, .iload_n 2, 1), (10, .invokevirtual 155, 3), (13, .ifCond .eq 5, 3), (16, .iconst (-1), 1), (17, .ireturn, 1), (18, .iload_n 3, 1), (19, .i2l, 1), (20, .lconst 0, 1), (21, .ldc2_w 158, 3), (24, .invokestatic 84, 3), (27, .ifCond .ne 6, 3), (30, .bipush (-2), 2), (32, .ireturn, 1), (33, .aload_n 0, 1), (34, .getfield 149, 3), (37, .bipush 8, 2), (39, .if_icmp .ne 6, 3), (42, .bipush (-4), 2), (44, .ireturn, 1), (45, .aload_n 0, 1), (46, .getfield 46, 3), (49, .aload_n 0, 1), (50, .getfield 149, 3), (53, .iload_n 1, 1), (54, .iastore, 1), (55, .aload_n 0, 1), (56, .getfield 49, 3), (59, .aload_n 0, 1), (60, .getfield 149, 3), (63, .iload_n 2, 1), (64, .iastore, 1), (65, .aload_n 0, 1), (66, .getfield 52, 3), (69, .aload_n 0, 1), (70, .getfield 149, 3), (73, .iload_n 3, 1), (74, .iastore, 1), (75, .aload_n 0, 1), (76, .getfield 55, 3), (79, .aload_n 0, 1), (80, .getfield 149, 3), (83, .iload 4, 2), (85, .bastore, 1), (86, .aload_n 0, 1), (87, .dup, 1), (88, .getfield 149, 3), (91, .iconst 1, 1), (92, .iadd, 1), (93, .putfield 149, 3), (96, .aload_n 0, 1), (97, .getfield 149, 3), (100, .iconst 1, 1), (101, .isub, 1), (102, .ireturn, 1)]
theorem dX8_reading : dall cX8_reading tX8_reading = true := by decide +kernel
def tX8_back : List (Nat × Instr × Nat) := [(0, .iload_n 1, 1), (1, .i2l, 1), (2, .lconst 0, 1), (3, .aload_n 0, 1), (4, .getfield 149, 3), (7, .i2l, 1), (8, .invokestatic 84, 3), (11, .ifCond .ne 6, 3), (14, .bipush (-2), 2), (16, .ireturn, 1), (17, .aload_n 0, 1), (18, .dup, 1), (19, .getfield 149, 3), (22, .iload_n 1, 1), (23, .isub, 1), (24, .putfield 149, 3), (27, .aload_n 0, 1), (28, .getfield 149, 3), (31, .ireturn, 1)]
theorem dX8_back : dall cX8_back tX8_back = true := by decide +kernel
def tX8_isSo : List (Nat × Instr × Nat) := [(0, .iload_n 3, 1), (1, .iload_n 2, 1), (2, .aload_n 0, 1), (3, .getfield 52, 3), (6, .iload_n 1, 1), (7, .iaload, 1), (8, .invokestatic 163, 3), (11, .if_icmp .lt 7, 3), (14, .iconst 1, 1), (15, .goto 4, 3), (18, .iconst 0, 1), (19, .aload_n 0, 1), (20, .getfield 55, 3), (23, .iload_n 1, 1), (24, .baload, 1), (25, .if_icmp .ne 7, 3), (28, .iconst 1, 1), (29, .goto 4, 3), (32, .iconst 0, 1), (33, .ireturn, 1)]
theorem dX8_isSo : dall cX8_isSo tX8_isSo = true := by decide +kernel
def tX8_learnt : List (Nat × Instr × Nat) := [(0, .aload_n 0, 1), (1, .iload_n 1, 1), (2, .invokevirtual 152, 3), (5, .ifCond .ne 11, 3), (8, .aload_n 0, 1), (9, .iload_n 2, 1), (10, .invokevirtual 155, 3), (13, .ifCond .eq 5, 3), (16, .iconst (-1), 1), (17, .ireturn, 1), (18, .iload_n 3, 1), (19, .i2l, 1), (20, .lconst 0, 1), (21, .lconst 1, 1), (22, .invokestatic 84, 3), (25, .ifCond .ne 6, 3), (28, .bipush (-2), 2), (30, .ireturn, 1), (31, .bipush (-9), 2), (33, .istore 4, 2), (35, .bipush (-9), 2), (37, .istore 5, 2), (39, .iconst 0, 1), (40, .istore 6, 2), (42, .iload 6, 2), (44, .bipush 10, 2), (46, .if_icmp .ge 114, 3), (49, .iconst 1, 1), (50, .istore 7, 2), (52, .iconst 0, 1), (53, .istore 8, 2), (55, .iload 8, 2), (57, .aload_n 0, 1), (58, .getfield 149, 3), (61, .if_icmp .ge 60, 3), (64, .iload 7, 2), (66, .ifCond .eq 46, 3), (69, .aload_n 0, 1), (70, .getfield 46, 3), (73, .iload 8, 2), (75, .iaload, 1), (76, .iload_n 1, 1), (77, .if_icmp .ne 31, 3), (80, .aload_n 0, 1), (81, .getfield 49, 3), (84, .iload 8, 2), (86, .iaload, 1), (87, .iload_n 2, 1), (88, .if_icmp .ne 20, 3), (91, .aload_n 0, 1), (92, .iload 8, 2), (94, .aload_n 0, 1), (95, .getfield 7, 3), (98, .iload_n 1, 1), (99, .iaload, 1), (100, .iload 6, 2), (102, .invokevirtual 212, 3), (105, .ifCond .eq 7, 3), (108, .iconst 1, 1), (109, .goto 4, 3), (112, .iconst 0, 1), (113, .istore 7, 2), (115, .iinc 8 1, 3), (118, .goto (-63), 3), (121, .iload 7, 2), (123, .ifCond .eq 13, 3), (126, .iload 4, 2), (128, .ifCond .ge 8, 3), (131, .iload 6, 2), (133, .goto 5, 3), (136, .iload 4, 2), (138, .istore 4, 2), (140, .iload 7, 2), (142, .ifCond .eq 8, 3), (145, .iload 6, 2), (147, .goto 5, 3), (150, .iload 5, 2), (152, .istore 5, 2), (154, .iinc 6 1, 3), (157, .goto (-115), 3), (160, .iload_n 3, 1), (161, .ifCond .ne 8, 3), (164, .iload 4, 2), (166, .goto 5, 3), (169, .iload 5, 2), (171, .ireturn, 1)]
theorem dX8_learnt : dall cX8_learnt tX8_learnt = true := by decide +kernel
def tX8_kinds : List (Nat × Instr × Nat) := [(0, .aload_n 0, 1), (1, .iload_n 1, 1), (2, .invokevirtual 152, 3), (5, .ifCond .eq 5, 3), (8, .iconst (-1), 1), (9, .ireturn, 1), (10, .iconst 0, 1), (11, .istore_n 2, 1), (12, .iconst 0, 1), (13, .istore_n 3, 1), (14, .iload_n 3, 1), (15, .iconst 3, 1), (16, .if_icmp .ge 95, 3), (19, .iconst 1, 1), (20, .istore 4, 2), (22, .iconst 0, 1), (23, .istore 5, 2), (25, .iload 5, 2), (27, .aload_n 0, 1), (28, .getfield 149, 3), (31, .if_icmp .ge 59, 3), (34, .iload 4, 2), (36, .ifCond .eq 45, 3), (39, .aload_n 0, 1), (40, .getfield 46, 3), (43, .iload 5, 2), (45, .iaload, 1), (46, .iload_n 1, 1), (47, .if_icmp .ne 30, 3), (50, .aload_n 0, 1), (51, .iload 5, 2), (53, .iload_n 3, 1), (54, .aload_n 0, 1), (55, .getfield 13, 3), (58, .bipush 6, 2), (60, .iload_n 1, 1), (61, .imul, 1), (62, .aload_n 0, 1), (63, .getfield 49, 3), (66, .iload 5, 2), (68, .iaload, 1), (69, .iadd, 1), (70, .iaload, 1), (71, .invokevirtual 212, 3), (74, .ifCond .eq 7, 3), (77, .iconst 1, 1), (78, .goto 4, 3), (81, .iconst 0, 1), (82, .istore 4, 2), (84, .iinc 5 1, 3), (87, .goto (-62), 3), (90, .iload_n 2, 1), (91, .iload 4, 2), (93, .ifCond .eq 9, 3), (96, .iconst 1, 1), (97, .iload_n 3, 1), (98, .ishl, 1), (99, .goto 4, 3), (102, .iconst 0, 1), (103, .ior, 1), (104, .istore_n 2, 1), (105, .iinc 3 1, 3), (108, .goto (-94), 3), (111, .iload_n 2, 1), (112, .ireturn, 1)]
theorem dX8_kinds : dall cX8_kinds tX8_kinds = true := by decide +kernel
def tX8_noSheet : List (Nat × Instr × Nat) := [(0, .iload_n 0, 1), (1, .i2l, 1), (2, .lconst 0, 1), (3, .ldc2_w 206, 3), (6, .invokestatic 84, 3), (9, .ifCond .ne 7, 3), (12, .iconst 1, 1), (13, .goto 4, 3), (16, .iconst 0, 1), (17, .ireturn, 1)]
theorem dX8_noSheet : dall cX8_noSheet tX8_noSheet = true := by decide +kernel
def tX8_sheet : List (Nat × Instr × Nat) := [(0, .iload_n 1, 1), (1, .invokestatic 127, 3), (4, .ifCond .eq 9, 3), (7, .aload_n 0, 1), (8, .iconst (-1), 1), (9, .invokevirtual 131, 3), (12, .ireturn, 1), (13, .iload_n 2, 1), (14, .i2l, 1), (15, .lconst 0, 1), (16, .ldc2_w 134, 3), (19, .invokestatic 84, 3), (22, .ifCond .eq 9, 3), (25, .iload_n 3, 1), (26, .bipush 100, 2), (28, .if_icmp .le 10, 3), (31, .aload_n 0, 1), (32, .bipush (-2), 2), (34, .invokevirtual 131, 3), (37, .ireturn, 1), (38, .iload_n 3, 1), (39, .ifCond .ge 9, 3), (42, .aload_n 0, 1), (43, .iconst 4, 1), (44, .invokevirtual 119, 3), (47, .ireturn, 1), (48, .aload_n 0, 1), (49, .getfield 59, 3), (52, .iload_n 1, 1), (53, .iload_n 3, 1), (54, .iastore, 1), (55, .aload_n 0, 1), (56, .getfield 62, 3), (59, .iload_n 1, 1), (60, .iload_n 2, 1), (61, .iastore, 1), (62, .iconst 0, 1), (63, .istore 4, 2), (65, .iload 4, 2), (67, .iload_n 3, 1), (68, .if_icmp .ge 22, 3), (71, .aload_n 0, 1), (72, .getfield 65, 3), (75, .bipush 100, 2), (77, .iload_n 1, 1), (78, .imul, 1), (79, .iload 4, 2), (81, .iadd, 1), (82, .iconst 0, 1), (83, .iastore, 1), (84, .iinc 4 1, 3), (87, .goto (-22), 3), (90, .aload_n 0, 1), (91, .iconst 1, 1), (92, .invokevirtual 131, 3), (95, .ireturn, 1)]
theorem dX8_sheet : dall cX8_sheet tX8_sheet = true := by decide +kernel
def tX8_lose : List (Nat × Instr × Nat) := [(0, .iload_n 1, 1), (1, .invokestatic 127, 3), (4, .ifCond .eq 5, 3), (7, .iconst (-1), 1), (8, .ireturn, 1), (9, .aload_n 0, 1), (10, .getfield 59, 3), (13, .iload_n 1, 1), (14, .iaload, 1), (15, .ifCond .ge 7, 3), (18, .iconst 0, 1), (19, .goto 4, 3), (22, .iconst 1, 1), (23, .istore_n 2, 1), (24, .aload_n 0, 1), (25, .getfield 59, 3), (28, .iload_n 1, 1), (29, .iconst (-1), 1), (30, .iastore, 1), (31, .iload_n 2, 1), (32, .ireturn, 1)]
theorem dX8_lose : dall cX8_lose tX8_lose = true := by decide +kernel
def tX8_noCell : List (Nat × Instr × Nat) := [(0, .aload_n 0, 1), (1, .getfield 59, 3), (4, .iload_n 1, 1), (5, .iaload, 1), (6, .ifCond .ge 7, 3), (9, .iconst 1, 1), (10, .goto 26, 3), (13, .iload_n 2, 1), (14, .i2l, 1), (15, .lconst 0, 1), (16, .aload_n 0, 1), (17, .getfield 59, 3), (20, .iload_n 1, 1), (21, .iaload, 1), (22, .i2l, 1), (23, .lconst 1, 1), (24, .lsub, 1), (25, .invokestatic 84, 3), (28, .ifCond .eq 7, 3), (31, .iconst 0, 1), (32, .goto 4, 3), (35, .iconst 3, 1), (36, .ireturn, 1)]
theorem dX8_noCell : dall cX8_noCell tX8_noCell = true := by decide +kernel
def tX8_put : List (Nat × Instr × Nat) := [(0, .iload_n 1, 1), (1, .invokestatic 127, 3), (4, .ifCond .eq 9, 3), (7, .aload_n 0, 1), (8, .iconst (-1), 1), (9, .invokevirtual 131, 3), (12, .ireturn, 1), (13, .aload_n 0, 1), (14, .iload_n 1, 1), (15, .iload_n 2, 1), (16, .invokevirtual 215, 3), (19, .ifCond .le 14, 3), (22, .aload_n 0, 1), (23, .aload_n 0, 1), (24, .iload_n 1, 1), (25, .iload_n 2, 1), (26, .invokevirtual 215, 3), (29, .invokevirtual 119, 3), (32, .ireturn, 1), (33, .aload_n 0, 1), (34, .getfield 65, 3), (37, .bipush 100, 2), (39, .iload_n 1, 1), (40, .imul, 1), (41, .iload_n 2, 1), (42, .iadd, 1), (43, .aload_n 0, 1), (44, .getfield 62, 3), (47, .iload_n 1, 1), (48, .iaload, 1), (49, .ifCond .ne 8, 3), (52, .iload_n 3, 1), (53, .i2b, 1), (54, .goto 19, 3), (57, .aload_n 0, 1), (58, .getfield 62, 3), (61, .iload_n 1, 1), (62, .iaload, 1), (63, .iconst 1, 1), (64, .if_icmp .ne 8, 3), (67, .iload_n 3, 1), (68, .i2s, 1), (69, .goto 4, 3), (72, .iload_n 3, 1), (73, .iastore, 1), (74, .aload_n 0, 1), (75, .iconst 1, 1), (76, .invokevirtual 131, 3), (79, .ireturn, 1)]
theorem dX8_put : dall cX8_put tX8_put = true := by decide +kernel
def tX8_cell : List (Nat × Instr × Nat) := [(0, .aload_n 0, 1), (1, .iconst 0, 1), (2, .putfield 73, 3), (5, .iload_n 1, 1), (6, .invokestatic 127, 3), (9, .ifCond .ne 15, 3), (12, .iload_n 3, 1), (13, .i2l, 1), (14, .lconst 0, 1), (15, .ldc2_w 134, 3), (18, .invokestatic 84, 3), (21, .ifCond .ne 7, 3), (24, .invokestatic 77, 3), (27, .lreturn, 1), (28, .aload_n 0, 1), (29, .getfield 59, 3), (32, .iload_n 1, 1), (33, .iaload, 1), (34, .ifCond .lt 19, 3), (37, .aload_n 0, 1), (38, .getfield 62, 3), (41, .iload_n 1, 1), (42, .iaload, 1), (43, .iload_n 3, 1), (44, .if_icmp .eq 9, 3), (47, .aload_n 0, 1), (48, .iconst 2, 1), (49, .invokevirtual 218, 3), (52, .lreturn, 1), (53, .aload_n 0, 1), (54, .iload_n 1, 1), (55, .iload_n 2, 1), (56, .invokevirtual 215, 3), (59, .ifCond .le 16, 3), (62, .aload_n 0, 1), (63, .aload_n 0, 1), (64, .iload_n 1, 1), (65, .iload_n 2, 1), (66, .invokevirtual 215, 3), (69, .invokevirtual 218, 3), (72, .goto 15, 3), (75, .aload_n 0, 1), (76, .getfield 65, 3), (79, .bipush 100, 2), (81, .iload_n 1, 1), (82, .imul, 1), (83, .iload_n 2, 1), (84, .iadd, 1), (85, .iaload, 1), (86, .i2l, 1), (87, .lreturn, 1)]
theorem dX8_cell : dall cX8_cell tX8_cell = true := by decide +kernel
def tX8_isBeyond : List (Nat × Instr × Nat) := [(0, .iload_n 0, 1), (1, .ifCond .lt 19, 3), (4, .lload_n 1, 1), (5, .lconst 0, 1), (6, .lcmp, 1), (7, .ifCond .lt 13, 3), (10, .iload_n 0, 1), (11, .i2l, 1), (12, .lload_n 1, 1), (13, .ladd, 1), (14, .iload_n 3, 1), (15, .i2l, 1), (16, .lcmp, 1), (17, .ifCond .le 7, 3), (20, .iconst 1, 1), (21, .goto 4, 3), (24, .iconst 0, 1), (25, .ireturn, 1)]
theorem dX8_isBeyond : dall cX8_isBeyond tX8_isBeyond = true := by decide +kernel
def tX8_copy : List (Nat × Instr × Nat) := [(0, .iload_n 1, 1), (1, .invokestatic 127, 3), (4, .ifCond .ne 10, 3), (7, .iload_n 3, 1), (8, .invokestatic 127, 3), (11, .ifCond .eq 9, 3), (14, .aload_n 0, 1), (15, .iconst (-1), 1), (16, .invokevirtual 131, 3), (19, .ireturn, 1), (20, .aload_n 0, 1), (21, .getfield 59, 3), (24, .iload_n 1, 1), (25, .iaload, 1), (26, .ifCond .lt 12, 3), (29, .aload_n 0, 1), (30, .getfield 59, 3), (33, .iload_n 3, 1), (34, .iaload, 1), (35, .ifCond .ge 9, 3), (38, .aload_n 0, 1), (39, .iconst 1, 1), (40, .invokevirtual 119, 3), (43, .ireturn, 1), (44, .aload_n 0, 1), (45, .getfield 62, 3), (48, .iload_n 1, 1), (49, .iaload, 1), (50, .aload_n 0, 1), (51, .getfield 62, 3), (54, .iload_n 3, 1), (55, .iaload, 1), (56, .if_icmp .eq 9, 3), (59, .aload_n 0, 1), (60, .iconst 2, 1), (61, .invokevirtual 119, 3), (64, .ireturn, 1), (65, .iload_n 2, 1), (66, .iload 5, 2), (68, .i2l, 1), (69, .aload_n 0, 1), (70, .getfield 59, 3), (73, .iload_n 1, 1), (74, .iaload, 1), (75, .invokestatic 123, 3), (78, .ifCond .ne 20, 3), (81, .iload 4, 2), (83, .iload 5, 2), (85, .i2l, 1), (86, .aload_n 0, 1), (87, .getfield 59, 3), (90, .iload_n 3, 1), (91, .iaload, 1), (92, .invokestatic 123, 3), (95, .ifCond .eq 9, 3), (98, .aload_n 0, 1), (99, .iconst 3, 1), (100, .invokevirtual 119, 3), (103, .ireturn, 1), (104, .iconst 0, 1), (105, .istore 6, 2), (107, .iload 6, 2), (109, .iload 5, 2), (111, .if_icmp .ge 30, 3), (114, .aload_n 0, 1), (115, .getfield 68, 3), (118, .iload 6, 2), (120, .aload_n 0, 1), (121, .getfield 65, 3), (124, .bipush 100, 2), (126, .iload_n 1, 1), (127, .imul, 1), (128, .iload_n 2, 1), (129, .iadd, 1), (130, .iload 6, 2), (132, .iadd, 1), (133, .iaload, 1), (134, .iastore, 1), (135, .iinc 6 1, 3), (138, .goto (-31), 3), (141, .iconst 0, 1), (142, .istore 6, 2), (144, .iload 6, 2), (146, .iload 5, 2), (148, .if_icmp .ge 31, 3), (151, .aload_n 0, 1), (152, .getfield 65, 3), (155, .bipush 100, 2), (157, .iload_n 3, 1), (158, .imul, 1), (159, .iload 4, 2), (161, .iadd, 1), (162, .iload 6, 2), (164, .iadd, 1), (165, .aload_n 0, 1), (166, .getfield 68, 3), (169, .iload 6, 2), (171, .iaload, 1), (172, .iastore, 1), (173, .iinc 6 1, 3), (176, .goto (-32), 3), (179, .aload_n 0, 1), (180, .iload 5, 2), (182, .invokevirtual 131, 3), (185, .ireturn, 1)]
theorem dX8_copy : dall cX8_copy tX8_copy = true := by decide +kernel
def tX8_traced : List (Nat × Instr × Nat) := [(0, .aload_n 0, 1), (1, .bipush 31, 2), (3, .aload_n 0, 1), (4, .getfield 222, 3), (7, .imul, 1), (8, .iload_n 1, 1), (9, .iadd, 1), (10, .putfield 222, 3), (13, .return_, 1)]
theorem dX8_traced : dall cX8_traced tX8_traced = true := by decide +kernel
def tX8_tell : List (Nat × Instr × Nat) := [(0, .aload_n 0, 1), (1, .iload_n 1, 1), (2, .invokevirtual 152, 3), (5, .ifCond .eq 5, 3), (8, .iconst (-1), 1), (9, .ireturn, 1), (10, .aload_n 0, 1), (11, .getfield 7, 3), (14, .iload_n 1, 1), (15, .iaload, 1), (16, .istore_n 2, 1), (17, .iload_n 2, 1), (18, .iconst 2, 1), (19, .if_icmp .ne 8, 3), (22, .aload_n 0, 1), (23, .iconst 3, 1), (24, .invokevirtual 225, 3), (27, .iload_n 2, 1), (28, .ifCond .le 8, 3), (31, .aload_n 0, 1), (32, .iconst 2, 1), (33, .invokevirtual 225, 3), (36, .aload_n 0, 1), (37, .iconst 1, 1), (38, .invokevirtual 225, 3), (41, .iload_n 2, 1), (42, .iconst 2, 1), (43, .if_icmp .ne 8, 3), (46, .aload_n 0, 1), (47, .iconst 1, 1), (48, .invokevirtual 225, 3), (51, .iload_n 2, 1), (52, .ifCond .ne 7, 3), (55, .iload_n 1, 1), (56, .goto 21, 3), (59, .iload_n 2, 1), (60, .iconst 1, 1), (61, .if_icmp .ne 10, 3), (64, .iload_n 1, 1), (65, .bipush 100, 2), (67, .iadd, 1), (68, .goto 9, 3), (71, .iconst 2, 1), (72, .iload_n 1, 1), (73, .imul, 1), (74, .bipush 100, 2), (76, .iadd, 1), (77, .ireturn, 1)]
theorem dX8_tell : dall cX8_tell tX8_tell = true := by decide +kernel
def tX8_greet : List (Nat × Instr × Nat) := [(0, .aload_n 0, 1), (1, .iload_n 1, 1), (2, .invokevirtual 152, 3), (5, .ifCond .eq 5, 3), (8, .iconst (-1), 1), (9, .ireturn, 1), (10, .aload_n 0, 1), (11, .aload_n 0, 1), (12, .getfield 7, 3), (15, .iload_n 1, 1), (16, .iaload, 1), (17, .iconst 2, 1), (18, .if_icmp .ne 7, 3), (21, .iconst 5, 1), (22, .goto 4, 3), (25, .iconst 4, 1), (26, .invokevirtual 225, 3), (29, .aload_n 0, 1), (30, .getfield 7, 3), (33, .iload_n 1, 1), (34, .iaload, 1), (35, .iconst 2, 1), (36, .if_icmp .ne 8, 3), (39, .bipush 70, 2), (41, .goto 4, 3), (44, .iload_n 1, 1), (45, .ireturn, 1)]
theorem dX8_greet : dall cX8_greet tX8_greet = true := by decide +kernel
def tX8_as : List (Nat × Instr × Nat) := [(0, .aload_n 0, 1), (1, .iload_n 1, 1), (2, .invokevirtual 152, 3), (5, .ifCond .eq 9, 3), (8, .aload_n 0, 1), (9, .iconst (-1), 1), (10, .invokevirtual 131, 3), (13, .ireturn, 1), (14, .iload_n 2, 1), (15, .i2l, 1), (16, .lconst 0, 1), (17, .ldc2_w 134, 3), (20, .invokestatic 84, 3), (23, .ifCond .ne 10, 3), (26, .aload_n 0, 1), (27, .bipush (-2), 2), (29, .invokevirtual 131, 3), (32, .ireturn, 1), (33, .aload_n 0, 1), (34, .getfield 7, 3), (37, .iload_n 1, 1), (38, .iaload, 1), (39, .iload_n 2, 1), (40, .if_icmp .lt 11, 3), (43, .aload_n 0, 1), (44, .iconst 1, 1), (45, .invokevirtual 131, 3), (48, .goto 8, 3), (51, .aload_n 0, 1), (52, .iconst 2, 1), (53, .invokevirtual 119, 3), (56, .ireturn, 1)]
theorem dX8_as : dall cX8_as tX8_as = true := by decide +kernel
def tX8_trace : List (Nat × Instr × Nat) := [(0, .aload_n 0, 1), (1, .getfield 222, 3), (4, .ireturn, 1)]
theorem dX8_trace : dall cX8_trace tX8_trace = true := by decide +kernel
def tX8_fault : List (Nat × Instr × Nat) := [(0, .aload_n 0, 1), (1, .getfield 73, 3), (4, .ireturn, 1)]
theorem dX8_fault : dall cX8_fault tX8_fault = true := by decide +kernel
def tX8_many : List (Nat × Instr × Nat) := [(0, .iload_n 1, 1), (1, .tableswitch 60 0 4 #[35, 40, 45, 50, 55], 35), (36, .aload_n 0, 1), (37, .getfield 81, 3), (40, .ireturn, 1), (41, .aload_n 0, 1), (42, .getfield 88, 3), (45, .ireturn, 1), (46, .aload_n 0, 1), (47, .getfield 146, 3), (50, .ireturn, 1), (51, .aload_n 0, 1), (52, .getfield 149, 3), (55, .ireturn, 1), (56, .aload_n 0, 1), (57, .getfield 143, 3), (60, .ireturn, 1), (61, .bipush (-2), 2), (63, .ireturn, 1)]
theorem dX8_many : dall cX8_many tX8_many = true := by decide +kernel
def tJ6_bitCount_0f7a4 : List (Nat × Instr × Nat) := [(0, .iload_n 0, 1), (1, .iload_n 0, 1), (2, .iconst 1, 1), (3, .iushr, 1), (4, .ldc_w 265, 3), (7, .iand, 1), (8, .isub, 1), (9, .istore_n 0, 1), (10, .iload_n 0, 1), (11, .ldc_w 266, 3), (14, .iand, 1), (15, .iload_n 0, 1), (16, .iconst 2, 1), (17, .iushr, 1), (18, .ldc_w 266, 3), (21, .iand, 1), (22, .iadd, 1), (23, .istore_n 0, 1), (24, .iload_n 0, 1), (25, .iload_n 0, 1), (26, .iconst 4, 1), (27, .iushr, 1), (28, .iadd, 1), (29, .ldc_w 267, 3), (32, .iand, 1), (33, .istore_n 0, 1), (34, .iload_n 0, 1), (35, .iload_n 0, 1), (36, .bipush 8, 2), (38, .iushr, 1), (39, .iadd, 1), (40, .istore_n 0, 1), (41, .iload_n 0, 1), (42, .iload_n 0, 1), (43, .bipush 16, 2), (45, .iushr, 1), (46, .iadd, 1), (47, .istore_n 0, 1), (48, .iload_n 0, 1), (49, .bipush 63, 2), (51, .iand, 1), (52, .ireturn, 1)]
theorem dJ6_bitCount_0f7a4 : dall cJ6_bitCount_0f7a4 tJ6_bitCount_0f7a4 = true := by decide +kernel
def tJ7_fill_53178 : List (Nat × Instr × Nat) := [(0, .iconst 0, 1), (1, .istore_n 2, 1), (2, .aload_n 0, 1), (3, .arraylength, 1), (4, .istore_n 3, 1), (5, .iload_n 2, 1), (6, .iload_n 3, 1), (7, .if_icmp .ge 13, 3), (10, .aload_n 0, 1), (11, .iload_n 2, 1), (12, .iload_n 1, 1), (13, .iastore, 1), (14, .iinc 2 1, 3), (17, .goto (-12), 3), (20, .return_, 1)]
theorem dJ7_fill_53178 : dall cJ7_fill_53178 tJ7_fill_53178 = true := by decide +kernel
end
section
/-! ===== the engine's rules for places that are natural numbers; rows of likings, sheets ===== -/
theorem vpN {x : Int32} {j n : Nat} (hx : x = nI j) (hj : j < n) (hn : n < 2 ^ 31) : vp_in x n := by rw [hx]; exact vp_in_nI hj hn
theorem clN {x : Int32} {j n : Nat} (hx : x = nI j) (hj : j < n) (hn : n < 2 ^ 31) : x.toNatClampNeg = j := by rw [hx]; exact nI_clamp (Nat.lt_trans hj hn)
section TN
variable {E : ET} {M : MT} {pc : Nat} {ls : List (Nat × Value)} {st : List Value} {σ : Mem}
theorem tq_ialdN {i n : Nat} {x : Int32} (j : Nat) (hd : decode M.2.1 pc = .ok (.iaload, 1)) (hs : SH i = some (.inl (.int, n))) (hn : n < 2 ^ 31) (hx : x = nI j) (hj : j < n) (k : PAt E M (pc + 1) ls (.int (σ i j) :: st) σ) : PAt E M pc ls (.int x :: .ref i :: st) σ :=
  tq_iald hd hs (vpN hx hj hn) (by rw [clN hx hj hn]; exact k)
theorem tq_zaldN {i n : Nat} {x : Int32} (j : Nat) (hd : decode M.2.1 pc = .ok (.baload, 1)) (hs : SH i = some (.inl (.boolean, n))) (hn : n < 2 ^ 31) (hx : x = nI j) (hj : j < n) (k : PAt E M (pc + 1) ls (.int (σ i j) :: st) σ) : PAt E M pc ls (.int x :: .ref i :: st) σ :=
  tq_zald hd hs (vpN hx hj hn) (by rw [clN hx hj hn]; exact k)
theorem tq_iastN {i n : Nat} {x v : Int32} (j : Nat) (hd : decode M.2.1 pc = .ok (.iastore, 1)) (hs : SH i = some (.inl (.int, n))) (hn : n < 2 ^ 31) (hx : x = nI j) (hj : j < n) (k : PAt E M (pc + 1) ls st (up σ i j v)) : PAt E M pc ls (.int v :: .int x :: .ref i :: st) σ :=
  tq_iast hd hs (vpN hx hj hn) (by rw [clN hx hj hn]; exact k)
theorem tq_zastN {i n : Nat} {x v : Int32} (j : Nat) (hd : decode M.2.1 pc = .ok (.bastore, 1)) (hs : SH i = some (.inl (.boolean, n))) (hn : n < 2 ^ 31) (hx : x = nI j) (hj : j < n) (k : PAt E M (pc + 1) ls st (up σ i j (vp_nar .boolean v))) : PAt E M pc ls (.int v :: .int x :: .ref i :: st) σ :=
  tq_zast hd hs (vpN hx hj hn) (by rw [clN hx hj hn]; exact k)
theorem SH_hers {m : Nat} (h : m < 4) : SH (4 + m) = some (.inl (.int, 6)) := by
  rcases (show m = 0 ∨ m = 1 ∨ m = 2 ∨ m = 3 by omega) with rfl | rfl | rfl | rfl <;> rfl
theorem SH_his {m : Nat} (h : m < 4) : SH (9 + m) = some (.inl (.int, 6)) := by
  rcases (show m = 0 ∨ m = 1 ∨ m = 2 ∨ m = 3 by omega) with rfl | rfl | rfl | rfl <;> rfl
theorem SH_sheet {m : Nat} (h : m < 4) : SH (34 + 2 * m) = some (.inr (.inr (4, [some (35 + 2 * m), none, none, none]))) := by
  rcases (show m = 0 ∨ m = 1 ∨ m = 2 ∨ m = 3 by omega) with rfl | rfl | rfl | rfl <;> rfl
theorem SH_cells {m : Nat} (h : m < 4) : SH (35 + 2 * m) = some (.inl (.int, 100)) := by
  rcases (show m = 0 ∨ m = 1 ∨ m = 2 ∨ m = 3 by omega) with rfl | rfl | rfl | rfl <;> rfl
theorem tq_hers {x : Int32} (m : Nat) (hd : decode M.2.1 pc = .ok (.aaload, 1)) (hx : x = nI m) (hm : m < 4) (k : PAt E M (pc + 1) ls (.ref (4 + m) :: st) σ) : PAt E M pc ls (.int x :: .ref 3 :: st) σ :=
  tq_aaldR (rs := [4, 5, 6, 7]) hd rfl (vpN hx hm (by decide)) (by rw [clN hx hm (by decide)]; rcases (show m = 0 ∨ m = 1 ∨ m = 2 ∨ m = 3 by omega) with rfl | rfl | rfl | rfl <;> rfl) k
theorem tq_his {x : Int32} (m : Nat) (hd : decode M.2.1 pc = .ok (.aaload, 1)) (hx : x = nI m) (hm : m < 4) (k : PAt E M (pc + 1) ls (.ref (9 + m) :: st) σ) : PAt E M pc ls (.int x :: .ref 8 :: st) σ :=
  tq_aaldR (rs := [9, 10, 11, 12]) hd rfl (vpN hx hm (by decide)) (by rw [clN hx hm (by decide)]; rcases (show m = 0 ∨ m = 1 ∨ m = 2 ∨ m = 3 by omega) with rfl | rfl | rfl | rfl <;> rfl) k
theorem tq_sheets {x : Int32} (m : Nat) (hd : decode M.2.1 pc = .ok (.aaload, 1)) (hx : x = nI m) (hm : m < 4) (k : PAt E M (pc + 1) ls (.ref (34 + 2 * m) :: st) σ) : PAt E M pc ls (.int x :: .ref 32 :: st) σ :=
  tq_aaldS (rs := [34, 36, 38, 40]) hd rfl (vpN hx hm (by decide)) (by rw [clN hx hm (by decide)]; rcases (show m = 0 ∨ m = 1 ∨ m = 2 ∨ m = 3 by omega) with rfl | rfl | rfl | rfl <;> rfl) k
end TN
section TD
variable {M M2 : MT} {pc idx d i n : Nat} {ls : List (Nat × Value)} {st As rest : List Value} {σ : Mem} {Q : Option Value → Mem → Prop}
theorem hlo_of (h : M2.2.2.1 ≤ 21) : 8 + (M2.2.2.1 + 11) + 40 * d ≤ (EM (d + 1) Q).1.locals := by
  show _ ≤ 40 * (d + 1)
  omega
theorem mq_Vi {P : Int32 → Mem → Prop} {ci N : Nat} {T : u_T} {fs : List (Option Nat)} (hd : decode M.2.1 pc = .ok (.invokevirtual idx, 3)) (hli : ML M.1.cls idx M2) (hMI : MI n M2) (hM : PMet d M2 (.ref i :: As) σ (Pi P)) (hs : SH i = some (.inr (.inr (ci, fs)))) (hc : vwCl[ci]? = some (M2.1.cls, T, N)) (hn : As.length = n) (hst : st = As.reverse ++ ([.ref i] ++ rest)) (hW : (rest.map (fun v => v.category)).sum ≤ 8) (hlo : M2.2.2.1 ≤ 21)
    (kk : ∀ (v : Int32) (σ' : Mem), P v σ' → PAt (EM (d + 1) Q) M (pc + 3) ls (.int v :: rest) σ') : PAt (EM (d + 1) Q) M pc ls st σ :=
  tq_callVi hd hli hMI hM hs hc hn hst hW (Nat.le_refl _) (hlo_of hlo) ⟨Nat.le_refl _, Nat.le_refl _⟩ kk
theorem mq_Vl {P : Int64 → Mem → Prop} {ci N : Nat} {T : u_T} {fs : List (Option Nat)} (hd : decode M.2.1 pc = .ok (.invokevirtual idx, 3)) (hli : ML M.1.cls idx M2) (hMI : MI n M2) (hM : PMet d M2 (.ref i :: As) σ (Pl P)) (hs : SH i = some (.inr (.inr (ci, fs)))) (hc : vwCl[ci]? = some (M2.1.cls, T, N)) (hn : As.length = n) (hst : st = As.reverse ++ ([.ref i] ++ rest)) (hW : (rest.map (fun v => v.category)).sum ≤ 8) (hlo : M2.2.2.1 ≤ 21)
    (kk : ∀ (v : Int64) (σ' : Mem), P v σ' → PAt (EM (d + 1) Q) M (pc + 3) ls (.long v :: rest) σ') : PAt (EM (d + 1) Q) M pc ls st σ :=
  tq_callVl hd hli hMI hM hs hc hn hst hW (Nat.le_refl _) (hlo_of hlo) ⟨Nat.le_refl _, Nat.le_refl _⟩ kk
theorem mq_Va {P : Nat → Mem → Prop} {ci N : Nat} {T : u_T} {fs : List (Option Nat)} (hd : decode M.2.1 pc = .ok (.invokevirtual idx, 3)) (hli : ML M.1.cls idx M2) (hMI : MI n M2) (hM : PMet d M2 (.ref i :: As) σ (Pa P)) (hs : SH i = some (.inr (.inr (ci, fs)))) (hc : vwCl[ci]? = some (M2.1.cls, T, N)) (hn : As.length = n) (hst : st = As.reverse ++ ([.ref i] ++ rest)) (hW : (rest.map (fun v => v.category)).sum ≤ 8) (hlo : M2.2.2.1 ≤ 21)
    (kk : ∀ (v : Nat) (σ' : Mem), P v σ' → PAt (EM (d + 1) Q) M (pc + 3) ls (.ref v :: rest) σ') : PAt (EM (d + 1) Q) M pc ls st σ :=
  tq_callVa hd hli hMI hM hs hc hn hst hW (Nat.le_refl _) (hlo_of hlo) ⟨Nat.le_refl _, Nat.le_refl _⟩ kk
theorem mq_Vv {P : Mem → Prop} {ci N : Nat} {T : u_T} {fs : List (Option Nat)} (hd : decode M.2.1 pc = .ok (.invokevirtual idx, 3)) (hli : ML M.1.cls idx M2) (hMI : MI n M2) (hM : PMet d M2 (.ref i :: As) σ (Pv P)) (hs : SH i = some (.inr (.inr (ci, fs)))) (hc : vwCl[ci]? = some (M2.1.cls, T, N)) (hn : As.length = n) (hst : st = As.reverse ++ ([.ref i] ++ rest)) (hW : (rest.map (fun v => v.category)).sum ≤ 8) (hlo : M2.2.2.1 ≤ 21)
    (kk : ∀ (σ' : Mem), P σ' → PAt (EM (d + 1) Q) M (pc + 3) ls rest σ') : PAt (EM (d + 1) Q) M pc ls st σ :=
  tq_callVv hd hli hMI hM hs hc hn hst hW (Nat.le_refl _) (hlo_of hlo) ⟨Nat.le_refl _, Nat.le_refl _⟩ kk
theorem mq_Si {P : Int32 → Mem → Prop} (hd : decode M.2.1 pc = .ok (.invokestatic idx, 3)) (hli : ML M.1.cls idx M2) (hMS : MS n M2) (hM : PMet d M2 As σ (Pi P)) (hn : As.length = n) (hst : st = As.reverse ++ ([] ++ rest)) (hW : (rest.map (fun v => v.category)).sum ≤ 8) (hlo : M2.2.2.1 ≤ 21)
    (kk : ∀ (v : Int32) (σ' : Mem), P v σ' → PAt (EM (d + 1) Q) M (pc + 3) ls (.int v :: rest) σ') : PAt (EM (d + 1) Q) M pc ls st σ :=
  tq_callSi hd hli hMS hM hn hst hW (Nat.le_refl _) (hlo_of hlo) ⟨Nat.le_refl _, Nat.le_refl _⟩ kk
theorem mq_Sl {P : Int64 → Mem → Prop} (hd : decode M.2.1 pc = .ok (.invokestatic idx, 3)) (hli : ML M.1.cls idx M2) (hMS : MS n M2) (hM : PMet d M2 As σ (Pl P)) (hn : As.length = n) (hst : st = As.reverse ++ ([] ++ rest)) (hW : (rest.map (fun v => v.category)).sum ≤ 8) (hlo : M2.2.2.1 ≤ 21)
    (kk : ∀ (v : Int64) (σ' : Mem), P v σ' → PAt (EM (d + 1) Q) M (pc + 3) ls (.long v :: rest) σ') : PAt (EM (d + 1) Q) M pc ls st σ :=
  tq_callSl hd hli hMS hM hn hst hW (Nat.le_refl _) (hlo_of hlo) ⟨Nat.le_refl _, Nat.le_refl _⟩ kk
theorem mq_Sv {P : Mem → Prop} (hd : decode M.2.1 pc = .ok (.invokestatic idx, 3)) (hli : ML M.1.cls idx M2) (hMS : MS n M2) (hM : PMet d M2 As σ (Pv P)) (hn : As.length = n) (hst : st = As.reverse ++ ([] ++ rest)) (hW : (rest.map (fun v => v.category)).sum ≤ 8) (hlo : M2.2.2.1 ≤ 21)
    (kk : ∀ (σ' : Mem), P σ' → PAt (EM (d + 1) Q) M (pc + 3) ls rest σ') : PAt (EM (d + 1) Q) M pc ls st σ :=
  tq_callSv hd hli hMS hM hn hst hW (Nat.le_refl _) (hlo_of hlo) ⟨Nat.le_refl _, Nat.le_refl _⟩ kk
end TD
/-! ===== switches ===== -/
theorem sw_in {x lo hi : Int} (h : ¬ (x < lo ∨ hi < x)) : lo ≤ x ∧ x ≤ hi := by omega
theorem sw_last4 {x : Int32} (h : 0 ≤ x.toInt ∧ x.toInt ≤ 3) (h0 : ¬ x = 0) (h1 : ¬ x = 1) (h2 : ¬ x = 2) : x = 3 := by
  have e0 : x.toInt ≠ 0 := fun q => h0 (Int32.toInt_inj.mp q)
  have e1 : x.toInt ≠ 1 := fun q => h1 (Int32.toInt_inj.mp q)
  have e2 : x.toInt ≠ 2 := fun q => h2 (Int32.toInt_inj.mp q)
  exact Int32.toInt_inj.mp (show x.toInt = 3 by omega)
theorem sw_last5 {x : Int32} (h : 0 ≤ x.toInt ∧ x.toInt ≤ 4) (h0 : ¬ x = 0) (h1 : ¬ x = 1) (h2 : ¬ x = 2) (h3 : ¬ x = 3) : x = 4 := by
  have e0 : x.toInt ≠ 0 := fun q => h0 (Int32.toInt_inj.mp q)
  have e1 : x.toInt ≠ 1 := fun q => h1 (Int32.toInt_inj.mp q)
  have e2 : x.toInt ≠ 2 := fun q => h2 (Int32.toInt_inj.mp q)
  have e3 : x.toInt ≠ 3 := fun q => h3 (Int32.toInt_inj.mp q)
  exact Int32.toInt_inj.mp (show x.toInt = 4 by omega)
end
section
/-! ===== pure words: truth as an int, a maid's mind, her answer ===== -/
def BP (P : Prop) (v : Int32) : Prop := (v = 1 ∧ P) ∨ (v = 0 ∧ ¬ P)
theorem BP.t {P : Prop} {v : Int32} (h : BP P v) (c : ¬ v = 0) : P := by
  rcases h with ⟨_, h⟩ | ⟨h, _⟩
  · exact h
  · exact absurd h c
theorem BP.f {P : Prop} {v : Int32} (h : BP P v) (c : v = 0) : ¬ P := by
  rcases h with ⟨h, _⟩ | ⟨_, h⟩
  · rw [h] at c; exact absurd c (by decide)
  · exact h
theorem BP.y {P : Prop} (h : P) : BP P 1 := Or.inl ⟨rfl, h⟩
theorem BP.n {P : Prop} (h : ¬ P) : BP P 0 := Or.inr ⟨rfl, h⟩
theorem BP.iff {P Q : Prop} {v : Int32} (h : BP P v) (e : P ↔ Q) : BP Q v := by
  rcases h with ⟨a, b⟩ | ⟨a, b⟩
  · exact Or.inl ⟨a, e.mp b⟩
  · exact Or.inr ⟨a, fun q => b (e.mpr q)⟩
def mindF (k r : Int32) : Int32 := if k = 1 then 7 else if k = 2 then 3 + r else 5
def ansF (law k lk r : Int32) : Int32 := if law ≤ r then 2 else if mindF k r ≤ lk then 1 else 3

set_option maxHeartbeats 4000000 in
set_option maxRecDepth 20000 in
theorem c_stands (σ : Mem) (d : Nat) (hd : 0 ≤ d) : PMet d mX6_stands [.ref 1] σ (Pi (fun v σ2 => BP (0 < σ 1 1) v ∧ σ2 = σ)) := by
  refine PMet.start (ls0 := [(0, .ref 1)]) miX6_stands.1 (Nat.le_of_ble_eq_true rfl) rfl ?_
  refine tq_aload_n 0 (dget dX6_stands 0 rfl) rfl rfl ?_
  refine tq_getI (dget dX6_stands 1 rfl) fX6_23 rfl rfl ?_
  refine tq_if_le (tgt := 11) (dget dX6_stands 2 rfl) (by decide) (fun c_4 => ?_) (fun c_4 => ?_)
  · refine tq_iconst (v := 0) (dget dX6_stands 5 rfl) rfl ?_
    exact tq_zret rfl rfl (dget dX6_stands 6 rfl) ⟨_, rfl, BP.n (Int32.not_lt.mpr c_4), rfl⟩
  · refine tq_iconst (v := 1) (dget dX6_stands 3 rfl) rfl ?_
    refine tq_goto (tgt := 12) (dget dX6_stands 4 rfl) (by decide) ?_
    exact tq_zret rfl rfl (dget dX6_stands 6 rfl) ⟨_, rfl, BP.y (Int32.not_le.mp c_4), rfl⟩
set_option maxHeartbeats 4000000 in
set_option maxRecDepth 20000 in
theorem c_hasMaid (σ : Mem) (x : Int32) (d : Nat) (hd : 0 ≤ d) : PMet d mX6_hasMaid [.ref 1, .int x] σ (Pi (fun v σ2 => BP (0 ≤ x ∧ x < σ 1 1) v ∧ σ2 = σ)) := by
  refine PMet.start (ls0 := [(0, .ref 1), (1, .int x)]) miX6_hasMaid.1 (Nat.le_of_ble_eq_true rfl) rfl ?_
  refine tq_iload_n 1 (dget dX6_hasMaid 0 rfl) rfl rfl ?_
  refine tq_if_lt (tgt := 16) (dget dX6_hasMaid 1 rfl) (by decide) (fun c_1 => ?_) (fun c_1 => ?_)
  · refine tq_iconst (v := 0) (dget dX6_hasMaid 8 rfl) rfl ?_
    exact tq_zret rfl rfl (dget dX6_hasMaid 9 rfl) ⟨_, rfl, BP.n (fun q => by first | exact absurd q.1 (Int32.not_le.mpr c_1) | exact absurd q.2 (Int32.not_lt.mpr c_9)), rfl⟩
  · refine tq_iload_n 1 (dget dX6_hasMaid 2 rfl) rfl rfl ?_
    refine tq_aload_n 0 (dget dX6_hasMaid 3 rfl) rfl rfl ?_
    refine tq_getI (dget dX6_hasMaid 4 rfl) fX6_23 rfl rfl ?_
    refine tq_icmp_ge (tgt := 16) (dget dX6_hasMaid 5 rfl) (by decide) (fun c_9 => ?_) (fun c_9 => ?_)
    · refine tq_iconst (v := 0) (dget dX6_hasMaid 8 rfl) rfl ?_
      exact tq_zret rfl rfl (dget dX6_hasMaid 9 rfl) ⟨_, rfl, BP.n (fun q => by first | exact absurd q.1 (Int32.not_le.mpr c_1) | exact absurd q.2 (Int32.not_lt.mpr c_9)), rfl⟩
    · refine tq_iconst (v := 1) (dget dX6_hasMaid 6 rfl) rfl ?_
      refine tq_goto (tgt := 17) (dget dX6_hasMaid 7 rfl) (by decide) ?_
      exact tq_zret rfl rfl (dget dX6_hasMaid 9 rfl) ⟨_, rfl, BP.y ⟨Int32.not_lt.mp c_1, Int32.not_le.mp c_9⟩, rfl⟩
set_option maxHeartbeats 4000000 in
set_option maxRecDepth 20000 in
theorem c_hasSuitor (σ : Mem) (x : Int32) (d : Nat) (hd : 0 ≤ d) : PMet d mX6_hasSuitor [.ref 1, .int x] σ (Pi (fun v σ2 => BP (0 ≤ x ∧ x < σ 1 0) v ∧ σ2 = σ)) := by
  refine PMet.start (ls0 := [(0, .ref 1), (1, .int x)]) miX6_hasSuitor.1 (Nat.le_of_ble_eq_true rfl) rfl ?_
  refine tq_iload_n 1 (dget dX6_hasSuitor 0 rfl) rfl rfl ?_
  refine tq_if_lt (tgt := 16) (dget dX6_hasSuitor 1 rfl) (by decide) (fun c_1 => ?_) (fun c_1 => ?_)
  · refine tq_iconst (v := 0) (dget dX6_hasSuitor 8 rfl) rfl ?_
    exact tq_zret rfl rfl (dget dX6_hasSuitor 9 rfl) ⟨_, rfl, BP.n (fun q => by first | exact absurd q.1 (Int32.not_le.mpr c_1) | exact absurd q.2 (Int32.not_lt.mpr c_9)), rfl⟩
  · refine tq_iload_n 1 (dget dX6_hasSuitor 2 rfl) rfl rfl ?_
    refine tq_aload_n 0 (dget dX6_hasSuitor 3 rfl) rfl rfl ?_
    refine tq_getI (dget dX6_hasSuitor 4 rfl) fX6_27 rfl rfl ?_
    refine tq_icmp_ge (tgt := 16) (dget dX6_hasSuitor 5 rfl) (by decide) (fun c_9 => ?_) (fun c_9 => ?_)
    · refine tq_iconst (v := 0) (dget dX6_hasSuitor 8 rfl) rfl ?_
      exact tq_zret rfl rfl (dget dX6_hasSuitor 9 rfl) ⟨_, rfl, BP.n (fun q => by first | exact absurd q.1 (Int32.not_le.mpr c_1) | exact absurd q.2 (Int32.not_lt.mpr c_9)), rfl⟩
    · refine tq_iconst (v := 1) (dget dX6_hasSuitor 6 rfl) rfl ?_
      refine tq_goto (tgt := 17) (dget dX6_hasSuitor 7 rfl) (by decide) ?_
      exact tq_zret rfl rfl (dget dX6_hasSuitor 9 rfl) ⟨_, rfl, BP.y ⟨Int32.not_lt.mp c_1, Int32.not_le.mp c_9⟩, rfl⟩
set_option maxHeartbeats 4000000 in
set_option maxRecDepth 20000 in
theorem c_mind (σ : Mem) (k r : Int32) (d : Nat) (hd : 0 ≤ d) : PMet d mX6_mind [.int k, .int r] σ (Pi (fun v σ2 => v = mindF k r ∧ σ2 = σ)) := by
  refine PMet.start (ls0 := [(0, .int k), (1, .int r)]) miX6_mind.1 (Nat.le_of_ble_eq_true rfl) rfl ?_
  refine tq_iload_n 0 (dget dX6_mind 0 rfl) rfl rfl ?_
  by_cases s_1_1 : k = 1
  · refine tq_lookup (tgt := 28) (off := 27) (dget dX6_mind 1 rfl) (by decide) (by rw [s_1_1]; decide) (by decide) ?_
    refine tq_bipush (v := 7) (dget dX6_mind 2 rfl) rfl ?_
    exact tq_iret rfl (dget dX6_mind 3 rfl) ⟨_, rfl, by simp [mindF, s_1_1], rfl⟩
  by_cases s_1_2 : k = 2
  · refine tq_lookup (tgt := 31) (off := 30) (dget dX6_mind 1 rfl) (by decide) (by rw [s_1_2]; decide) (by decide) ?_
    refine tq_iconst (v := 3) (dget dX6_mind 4 rfl) rfl ?_
    refine tq_iload_n 1 (dget dX6_mind 5 rfl) rfl rfl ?_
    refine tq_iadd (dget dX6_mind 6 rfl) ?_
    exact tq_iret rfl (dget dX6_mind 7 rfl) ⟨_, rfl, by simp [mindF, s_1_2, s_1_1], rfl⟩
  refine tq_lookup (tgt := 35) (off := 34) (dget dX6_mind 1 rfl) (by decide) ((lv_osw s_1_1 (by decide)).trans ((lv_osw s_1_2 (by decide)).trans (rfl))) (by decide) ?_
  refine tq_iconst (v := 5) (dget dX6_mind 8 rfl) rfl ?_
  exact tq_iret rfl (dget dX6_mind 9 rfl) ⟨_, rfl, by simp [mindF, s_1_1, s_1_2], rfl⟩
set_option maxHeartbeats 4000000 in
set_option maxRecDepth 20000 in
theorem c_answer (σ : Mem) (m s : Nat) (r : Int32) (d : Nat) (hd : 1 ≤ d) (hm : m < 4) (hs : s < 6) : PMet d mX6_answer [.ref 1, .int (nI m), .int (nI s), .int r] σ (Pi (fun v σ2 => v = ansF (σ 1 2) (σ 2 m) (σ (4 + m) s) r ∧ σ2 = σ)) := by
  obtain ⟨d, rfl⟩ : ∃ e, d = e + 1 := ⟨d - 1, by omega⟩
  refine PMet.start (ls0 := [(0, .ref 1), (1, .int (nI m)), (2, .int (nI s)), (3, .int r)]) miX6_answer.1 (Nat.le_of_ble_eq_true rfl) rfl ?_
  refine tq_iload_n 3 (dget dX6_answer 0 rfl) rfl rfl ?_
  refine tq_aload_n 0 (dget dX6_answer 1 rfl) rfl rfl ?_
  refine tq_getI (dget dX6_answer 2 rfl) fX6_34 rfl rfl ?_
  refine tq_icmp_lt (tgt := 10) (dget dX6_answer 3 rfl) (by decide) (fun c_5 => ?_) (fun c_5 => ?_)
  · refine tq_aload_n 0 (dget dX6_answer 6 rfl) rfl rfl ?_
    refine tq_getR (dget dX6_answer 7 rfl) fX6_17 rfl rfl ?_
    refine tq_iload_n 1 (dget dX6_answer 8 rfl) rfl rfl ?_
    refine tq_hers m (dget dX6_answer 9 rfl) rfl (by omega) ?_
    refine tq_iload_n 2 (dget dX6_answer 10 rfl) rfl rfl ?_
    refine tq_ialdN s (dget dX6_answer 11 rfl) (SH_hers (by omega)) (by decide) rfl (by omega) ?_
    refine tq_aload_n 0 (dget dX6_answer 12 rfl) rfl rfl ?_
    refine tq_getR (dget dX6_answer 13 rfl) fX6_9 rfl rfl ?_
    refine tq_iload_n 1 (dget dX6_answer 14 rfl) rfl rfl ?_
    refine tq_ialdN m (dget dX6_answer 15 rfl) rfl (by decide) rfl (by omega) ?_
    refine tq_iload_n 3 (dget dX6_answer 16 rfl) rfl rfl ?_
    refine mq_Si (As := [.int (σ 2 m), .int r]) (rest := [.int (σ (4 + m) s)]) (dget dX6_answer 17 rfl) lX6_51 miX6_mind (c_mind σ (σ 2 m) r d (by omega)) rfl rfl (Nat.le_of_ble_eq_true rfl) (Nat.le_of_ble_eq_true rfl) (fun r_25 σ_25 h_25 => ?_)
    obtain ⟨a_25, e_25⟩ := h_25
    obtain rfl := a_25.symm
    obtain rfl := e_25.symm
    refine tq_icmp_lt (tgt := 35) (dget dX6_answer 18 rfl) (by decide) (fun c_28 => ?_) (fun c_28 => ?_)
    · refine tq_iconst (v := 3) (dget dX6_answer 21 rfl) rfl ?_
      exact tq_iret rfl (dget dX6_answer 22 rfl) ⟨_, rfl, by simp [ansF, c_5, Int32.not_le.mpr c_5, c_28, Int32.not_le.mpr c_28], rfl⟩
    · refine tq_iconst (v := 1) (dget dX6_answer 19 rfl) rfl ?_
      refine tq_goto (tgt := 36) (dget dX6_answer 20 rfl) (by decide) ?_
      exact tq_iret rfl (dget dX6_answer 22 rfl) ⟨_, rfl, by simp [ansF, c_5, Int32.not_le.mpr c_5, c_28, Int32.not_lt.mp c_28], rfl⟩
  · refine tq_iconst (v := 2) (dget dX6_answer 4 rfl) rfl ?_
    exact tq_iret rfl (dget dX6_answer 5 rfl) ⟨_, rfl, by simp [ansF, c_5, Int32.not_lt.mp c_5], rfl⟩
end
section
/-! ===== a row filled; sheets ===== -/
def fillR (σ : Mem) (i n : Nat) (v : Int32) : Mem := upR σ i (fun j => if j < n then v else σ i j)
theorem fillR_0 (σ : Mem) (i : Nat) (v : Int32) : σ = fillR σ i 0 v := by
  unfold fillR
  simp only [Nat.not_lt_zero, if_false]
  exact (upR_self σ i).symm
theorem fillR_succ (σ : Mem) (i k : Nat) (v : Int32) : up (fillR σ i k v) i k v = fillR σ i (k + 1) v := by
  unfold up fillR
  rw [upR_upR, upR_s]
  congr 1
  funext j
  unfold upd
  by_cases h : j = k
  · subst h; simp
  · rw [if_neg h]
    show (if j < k then v else σ i j) = if j < k + 1 then v else σ i j
    by_cases h2 : j < k
    · rw [if_pos h2, if_pos (by omega)]
    · rw [if_neg h2, if_neg (by omega)]
def frF (has lane as : Int32) : Int32 := if has = 0 then 1 else if lane = as then 0 else 2
def fcF (has lane len as i n : Int32) : Int32 := if ¬ frF has lane as = 0 then frF has lane as else if n < 0 then 4 else if 0 ≤ i ∧ i ≤ len ∧ 0 ≤ n ∧ n ≤ len - i then 0 else 3
def cutF (lane v : Int32) : Int32 := if lane = 0 then v.toInt8.toInt32 else if lane = 1 then v.toInt16.toInt32 else v

set_option maxHeartbeats 4000000 in
set_option maxRecDepth 20000 in
theorem c_fill_loop (σ : Mem) (i L : Nat) (v : Int32) (hs : SH i = some (.inl (.int, L))) (hL : L < 2 ^ 31) (d : Nat) (hd : 0 ≤ d) : ∀ (n : Nat) (k : Nat) (hm : L < k + n) (hk : k ≤ L), PAt (EM d (Pv (fun σ2 => σ2 = fillR σ i L v))) mJ7_fill_53178 5 [(2, .int (nI k)), (3, .int (nI L)), (0, .ref i), (1, .int v)] [] (fillR σ i k v) := by
  intro n
  induction n with
  | zero => intro k hm hk; exact absurd hm (by omega)
  | succ n ih =>
    intro k hm hk
    refine tq_iload_n 0 (dget dJ7_fill_53178 5 rfl) rfl rfl ?_
    refine tq_iload_n 1 (dget dJ7_fill_53178 6 rfl) rfl rfl ?_
    refine tq_icmp_ge (tgt := 20) (dget dJ7_fill_53178 7 rfl) (by decide) (fun c_7 => ?_) (fun c_7 => ?_)
    · exact tq_vret rfl (dget dJ7_fill_53178 14 rfl) ⟨rfl, by rw [show k = L by have h9 := (nI_leI hL (by omega)).mp c_7; omega]⟩
    · refine tq_aload_n 2 (dget dJ7_fill_53178 8 rfl) rfl rfl ?_
      refine tq_iload_n 0 (dget dJ7_fill_53178 9 rfl) rfl rfl ?_
      refine tq_iload_n 3 (dget dJ7_fill_53178 10 rfl) rfl rfl ?_
      refine tq_iastN k (dget dJ7_fill_53178 11 rfl) hs hL rfl (by have h9 := mt (nI_leI hL (by omega)).mpr c_7; omega) ?_
      refine tq_iinc (v := (nI (k + 1))) (ls2 := [(2, .int (nI (k + 1))), (3, .int (nI L)), (0, .ref i), (1, .int v)]) 0 (dget dJ7_fill_53178 12 rfl) rfl (nI_1 k) (by decide) rfl ?_
      refine tq_goto (tgt := 5) (dget dJ7_fill_53178 13 rfl) (by decide) ?_
      refine tq_sub [0, 1, 2, 3] (ls' := [(2, .int (nI (k + 1))), (3, .int (nI L)), (0, .ref i), (1, .int v)]) rfl ?_
      refine tq_mem (fillR_succ σ i k v) ?_
      exact ih (k + 1) (by omega) (by have h9 := mt (nI_leI hL (by omega)).mpr c_7; omega)
set_option maxHeartbeats 4000000 in
set_option maxRecDepth 20000 in
theorem c_fill (σ : Mem) (i L : Nat) (v : Int32) (hs : SH i = some (.inl (.int, L))) (hL : L < 2 ^ 31) (d : Nat) (hd : 0 ≤ d) : PMet d mJ7_fill_53178 [.ref i, .int v] σ (Pv (fun σ2 => σ2 = fillR σ i L v)) := by
  refine PMet.start (ls0 := [(0, .ref i), (1, .int v)]) miJ7_fill_53178.1 (Nat.le_of_ble_eq_true rfl) rfl ?_
  refine tq_iconst (v := 0) (dget dJ7_fill_53178 0 rfl) rfl ?_
  refine tq_istore_n (ls2 := [(2, .int 0), (0, .ref i), (1, .int v)]) (dget dJ7_fill_53178 1 rfl) rfl (by decide) rfl ?_
  refine tq_aload_n 1 (dget dJ7_fill_53178 2 rfl) rfl rfl ?_
  refine tq_alen (v := (nI L)) (dget dJ7_fill_53178 3 rfl) hs rfl ?_
  refine tq_istore_n (ls2 := [(3, .int (nI L)), (2, .int 0), (0, .ref i), (1, .int v)]) (dget dJ7_fill_53178 4 rfl) rfl (by decide) rfl ?_
  refine tq_sub [1, 0, 2, 3] (ls' := [(2, .int 0), (3, .int (nI L)), (0, .ref i), (1, .int v)]) rfl ?_
  rw [show (0 : Int32) = nI 0 from rfl]
  refine tq_mem (fillR_0 σ i v) ?_
  exact c_fill_loop σ i L v hs hL d hd (L + 1) 0 (by omega) (by omega)
set_option maxHeartbeats 4000000 in
set_option maxRecDepth 20000 in
theorem c_renew (σ : Mem) (k : Nat) (hk : k < 4) (lane len : Int32) (d : Nat) (hd : 1 ≤ d) : PMet d mX4_renew [.ref (34 + 2 * k), .int lane, .int len] σ (Pv (fun σ2 => σ2 = up (up (up (fillR σ (35 + 2 * k) 100 0) (34 + 2 * k) 1 1) (34 + 2 * k) 2 lane) (34 + 2 * k) 3 len)) := by
  obtain ⟨d, rfl⟩ : ∃ e, d = e + 1 := ⟨d - 1, by omega⟩
  refine PMet.start (ls0 := [(0, .ref (34 + 2 * k)), (1, .int lane), (2, .int len)]) miX4_renew.1 (Nat.le_of_ble_eq_true rfl) rfl ?_
  refine tq_aload_n 0 (dget dX4_renew 0 rfl) rfl rfl ?_
  refine tq_getR (dget dX4_renew 1 rfl) fX4_9 (SH_sheet hk) rfl ?_
  refine tq_iconst (v := 0) (dget dX4_renew 2 rfl) rfl ?_
  refine mq_Sv (As := [.ref (35 + 2 * k), .int 0]) (rest := []) (dget dX4_renew 3 rfl) lX4_15 miJ7_fill_53178 (c_fill σ (35 + 2 * k) _ 0 (SH_cells hk) (by decide) d (by omega)) rfl rfl (Nat.le_of_ble_eq_true rfl) (Nat.le_of_ble_eq_true rfl) (fun σ_5 h_5 => ?_)
  obtain rfl := Eq.symm h_5
  refine tq_aload_n 0 (dget dX4_renew 4 rfl) rfl rfl ?_
  refine tq_iconst (v := 1) (dget dX4_renew 5 rfl) rfl ?_
  refine tq_putI (dget dX4_renew 6 rfl) fX4_21 (SH_sheet hk) rfl rfl rfl ?_
  refine tq_aload_n 0 (dget dX4_renew 7 rfl) rfl rfl ?_
  refine tq_iload_n 1 (dget dX4_renew 8 rfl) rfl rfl ?_
  refine tq_putI (dget dX4_renew 9 rfl) fX4_25 (SH_sheet hk) rfl rfl rfl ?_
  refine tq_aload_n 0 (dget dX4_renew 10 rfl) rfl rfl ?_
  refine tq_iload_n 2 (dget dX4_renew 11 rfl) rfl rfl ?_
  refine tq_putI (dget dX4_renew 12 rfl) fX4_29 (SH_sheet hk) rfl rfl rfl ?_
  exact tq_vret rfl (dget dX4_renew 13 rfl) ⟨rfl, rfl⟩
set_option maxHeartbeats 4000000 in
set_option maxRecDepth 20000 in
theorem c_hasCell (σ : Mem) (k : Nat) (hk : k < 4) (x : Int32) (d : Nat) (hd : 0 ≤ d) : PMet d mX4_hasCell [.ref (34 + 2 * k), .int x] σ (Pi (fun v σ2 => BP (0 ≤ x ∧ x < σ (34 + 2 * k) 3) v ∧ σ2 = σ)) := by
  refine PMet.start (ls0 := [(0, .ref (34 + 2 * k)), (1, .int x)]) miX4_hasCell.1 (Nat.le_of_ble_eq_true rfl) rfl ?_
  refine tq_iload_n 1 (dget dX4_hasCell 0 rfl) rfl rfl ?_
  refine tq_if_lt (tgt := 16) (dget dX4_hasCell 1 rfl) (by decide) (fun c_1 => ?_) (fun c_1 => ?_)
  · refine tq_iconst (v := 0) (dget dX4_hasCell 8 rfl) rfl ?_
    exact tq_zret rfl rfl (dget dX4_hasCell 9 rfl) ⟨_, rfl, BP.n (fun q => by first | exact absurd q.1 (Int32.not_le.mpr c_1) | exact absurd q.2 (Int32.not_lt.mpr c_9)), rfl⟩
  · refine tq_iload_n 1 (dget dX4_hasCell 2 rfl) rfl rfl ?_
    refine tq_aload_n 0 (dget dX4_hasCell 3 rfl) rfl rfl ?_
    refine tq_getI (dget dX4_hasCell 4 rfl) fX4_29 (SH_sheet hk) rfl ?_
    refine tq_icmp_ge (tgt := 16) (dget dX4_hasCell 5 rfl) (by decide) (fun c_9 => ?_) (fun c_9 => ?_)
    · refine tq_iconst (v := 0) (dget dX4_hasCell 8 rfl) rfl ?_
      exact tq_zret rfl rfl (dget dX4_hasCell 9 rfl) ⟨_, rfl, BP.n (fun q => by first | exact absurd q.1 (Int32.not_le.mpr c_1) | exact absurd q.2 (Int32.not_lt.mpr c_9)), rfl⟩
    · refine tq_iconst (v := 1) (dget dX4_hasCell 6 rfl) rfl ?_
      refine tq_goto (tgt := 17) (dget dX4_hasCell 7 rfl) (by decide) ?_
      exact tq_zret rfl rfl (dget dX4_hasCell 9 rfl) ⟨_, rfl, BP.y ⟨Int32.not_lt.mp c_1, Int32.not_le.mp c_9⟩, rfl⟩
set_option maxHeartbeats 4000000 in
set_option maxRecDepth 20000 in
theorem c_hasCells (σ : Mem) (k : Nat) (hk : k < 4) (x y : Int32) (d : Nat) (hd : 0 ≤ d) : PMet d mX4_hasCells [.ref (34 + 2 * k), .int x, .int y] σ (Pi (fun v σ2 => BP (0 ≤ x ∧ x ≤ σ (34 + 2 * k) 3 ∧ 0 ≤ y ∧ y ≤ σ (34 + 2 * k) 3 - x) v ∧ σ2 = σ)) := by
  refine PMet.start (ls0 := [(0, .ref (34 + 2 * k)), (1, .int x), (2, .int y)]) miX4_hasCells.1 (Nat.le_of_ble_eq_true rfl) rfl ?_
  refine tq_iload_n 1 (dget dX4_hasCells 0 rfl) rfl rfl ?_
  refine tq_if_lt (tgt := 30) (dget dX4_hasCells 1 rfl) (by decide) (fun c_1 => ?_) (fun c_1 => ?_)
  · refine tq_iconst (v := 0) (dget dX4_hasCells 16 rfl) rfl ?_
    exact tq_zret rfl rfl (dget dX4_hasCells 17 rfl) ⟨_, rfl, BP.n (fun q => by first | exact absurd q.1 (Int32.not_le.mpr c_1) | exact absurd q.2.1 (Int32.not_le.mpr c_9) | exact absurd q.2.2.1 (Int32.not_le.mpr c_13) | exact absurd q.2.2.2 (Int32.not_le.mpr c_23)), rfl⟩
  · refine tq_iload_n 1 (dget dX4_hasCells 2 rfl) rfl rfl ?_
    refine tq_aload_n 0 (dget dX4_hasCells 3 rfl) rfl rfl ?_
    refine tq_getI (dget dX4_hasCells 4 rfl) fX4_29 (SH_sheet hk) rfl ?_
    refine tq_icmp_gt (tgt := 30) (dget dX4_hasCells 5 rfl) (by decide) (fun c_9 => ?_) (fun c_9 => ?_)
    · refine tq_iconst (v := 0) (dget dX4_hasCells 16 rfl) rfl ?_
      exact tq_zret rfl rfl (dget dX4_hasCells 17 rfl) ⟨_, rfl, BP.n (fun q => by first | exact absurd q.1 (Int32.not_le.mpr c_1) | exact absurd q.2.1 (Int32.not_le.mpr c_9) | exact absurd q.2.2.1 (Int32.not_le.mpr c_13) | exact absurd q.2.2.2 (Int32.not_le.mpr c_23)), rfl⟩
    · refine tq_iload_n 2 (dget dX4_hasCells 6 rfl) rfl rfl ?_
      refine tq_if_lt (tgt := 30) (dget dX4_hasCells 7 rfl) (by decide) (fun c_13 => ?_) (fun c_13 => ?_)
      · refine tq_iconst (v := 0) (dget dX4_hasCells 16 rfl) rfl ?_
        exact tq_zret rfl rfl (dget dX4_hasCells 17 rfl) ⟨_, rfl, BP.n (fun q => by first | exact absurd q.1 (Int32.not_le.mpr c_1) | exact absurd q.2.1 (Int32.not_le.mpr c_9) | exact absurd q.2.2.1 (Int32.not_le.mpr c_13) | exact absurd q.2.2.2 (Int32.not_le.mpr c_23)), rfl⟩
      · refine tq_iload_n 2 (dget dX4_hasCells 8 rfl) rfl rfl ?_
        refine tq_aload_n 0 (dget dX4_hasCells 9 rfl) rfl rfl ?_
        refine tq_getI (dget dX4_hasCells 10 rfl) fX4_29 (SH_sheet hk) rfl ?_
        refine tq_iload_n 1 (dget dX4_hasCells 11 rfl) rfl rfl ?_
        refine tq_isub (dget dX4_hasCells 12 rfl) ?_
        refine tq_icmp_gt (tgt := 30) (dget dX4_hasCells 13 rfl) (by decide) (fun c_23 => ?_) (fun c_23 => ?_)
        · refine tq_iconst (v := 0) (dget dX4_hasCells 16 rfl) rfl ?_
          exact tq_zret rfl rfl (dget dX4_hasCells 17 rfl) ⟨_, rfl, BP.n (fun q => by first | exact absurd q.1 (Int32.not_le.mpr c_1) | exact absurd q.2.1 (Int32.not_le.mpr c_9) | exact absurd q.2.2.1 (Int32.not_le.mpr c_13) | exact absurd q.2.2.2 (Int32.not_le.mpr c_23)), rfl⟩
        · refine tq_iconst (v := 1) (dget dX4_hasCells 14 rfl) rfl ?_
          refine tq_goto (tgt := 31) (dget dX4_hasCells 15 rfl) (by decide) ?_
          exact tq_zret rfl rfl (dget dX4_hasCells 17 rfl) ⟨_, rfl, BP.y ⟨Int32.not_lt.mp c_1, Int32.not_lt.mp c_9, Int32.not_lt.mp c_13, Int32.not_lt.mp c_23⟩, rfl⟩
set_option maxHeartbeats 4000000 in
set_option maxRecDepth 20000 in
theorem c_faultOfRow (σ : Mem) (k : Nat) (hk : k < 4) (x : Int32) (d : Nat) (hd : 0 ≤ d) : PMet d mX4_faultOfRow [.ref (34 + 2 * k), .int x] σ (Pi (fun v σ2 => v = frF (σ (34 + 2 * k) 1) (σ (34 + 2 * k) 2) x ∧ σ2 = σ)) := by
  refine PMet.start (ls0 := [(0, .ref (34 + 2 * k)), (1, .int x)]) miX4_faultOfRow.1 (Nat.le_of_ble_eq_true rfl) rfl ?_
  refine tq_aload_n 0 (dget dX4_faultOfRow 0 rfl) rfl rfl ?_
  refine tq_getI (dget dX4_faultOfRow 1 rfl) fX4_21 (SH_sheet hk) rfl ?_
  refine tq_if_ne (tgt := 9) (dget dX4_faultOfRow 2 rfl) (by decide) (fun c_4 => ?_) (fun c_4 => ?_)
  · refine tq_aload_n 0 (dget dX4_faultOfRow 5 rfl) rfl rfl ?_
    refine tq_getI (dget dX4_faultOfRow 6 rfl) fX4_25 (SH_sheet hk) rfl ?_
    refine tq_iload_n 1 (dget dX4_faultOfRow 7 rfl) rfl rfl ?_
    refine tq_icmp_ne (tgt := 21) (dget dX4_faultOfRow 8 rfl) (by decide) (fun c_14 => ?_) (fun c_14 => ?_)
    · refine tq_iconst (v := 2) (dget dX4_faultOfRow 11 rfl) rfl ?_
      exact tq_iret rfl (dget dX4_faultOfRow 12 rfl) ⟨_, rfl, by simp [frF, c_4, c_14], rfl⟩
    · refine tq_iconst (v := 0) (dget dX4_faultOfRow 9 rfl) rfl ?_
      refine tq_goto (tgt := 22) (dget dX4_faultOfRow 10 rfl) (by decide) ?_
      exact tq_iret rfl (dget dX4_faultOfRow 12 rfl) ⟨_, rfl, by simp [frF, c_4, c_14], rfl⟩
  · refine tq_iconst (v := 1) (dget dX4_faultOfRow 3 rfl) rfl ?_
    exact tq_iret rfl (dget dX4_faultOfRow 4 rfl) ⟨_, rfl, by simp [frF, c_4], rfl⟩
set_option maxHeartbeats 4000000 in
set_option maxRecDepth 20000 in
theorem c_faultOfCells (σ : Mem) (k : Nat) (hk : k < 4) (x i n : Int32) (d : Nat) (hd : 1 ≤ d) : PMet d mX4_faultOfCells [.ref (34 + 2 * k), .int x, .int i, .int n] σ (Pi (fun v σ2 => v = fcF (σ (34 + 2 * k) 1) (σ (34 + 2 * k) 2) (σ (34 + 2 * k) 3) x i n ∧ σ2 = σ)) := by
  obtain ⟨d, rfl⟩ : ∃ e, d = e + 1 := ⟨d - 1, by omega⟩
  refine PMet.start (ls0 := [(0, .ref (34 + 2 * k)), (1, .int x), (2, .int i), (3, .int n)]) miX4_faultOfCells.1 (Nat.le_of_ble_eq_true rfl) rfl ?_
  refine tq_aload_n 0 (dget dX4_faultOfCells 0 rfl) rfl rfl ?_
  refine tq_iload_n 1 (dget dX4_faultOfCells 1 rfl) rfl rfl ?_
  refine mq_Vi (As := [.int x]) (rest := []) (dget dX4_faultOfCells 2 rfl) lX4_32 miX4_faultOfRow (c_faultOfRow σ k hk x d (by omega)) (SH_sheet hk) rfl rfl rfl (Nat.le_of_ble_eq_true rfl) (Nat.le_of_ble_eq_true rfl) (fun r_2 σ_2 h_2 => ?_)
  obtain ⟨a_2, e_2⟩ := h_2
  obtain rfl := a_2.symm
  obtain rfl := e_2.symm
  refine tq_istore (ls2 := [(4, .int (frF (σ (34 + 2 * k) 1) (σ (34 + 2 * k) 2) x)), (0, .ref (34 + 2 * k)), (1, .int x), (2, .int i), (3, .int n)]) (dget dX4_faultOfCells 3 rfl) (by decide) rfl ?_
  refine tq_iload 0 (dget dX4_faultOfCells 4 rfl) rfl ?_
  refine tq_if_eq (tgt := 15) (dget dX4_faultOfCells 5 rfl) (by decide) (fun c_9 => ?_) (fun c_9 => ?_)
  · refine tq_iload_n 4 (dget dX4_faultOfCells 8 rfl) rfl rfl ?_
    refine tq_if_ge (tgt := 21) (dget dX4_faultOfCells 9 rfl) (by decide) (fun c_16 => ?_) (fun c_16 => ?_)
    · refine tq_aload_n 1 (dget dX4_faultOfCells 12 rfl) rfl rfl ?_
      refine tq_iload_n 3 (dget dX4_faultOfCells 13 rfl) rfl rfl ?_
      refine tq_iload_n 4 (dget dX4_faultOfCells 14 rfl) rfl rfl ?_
      refine mq_Vi (As := [.int i, .int n]) (rest := []) (dget dX4_faultOfCells 15 rfl) lX4_36 miX4_hasCells (c_hasCells σ k hk i n d (by omega)) (SH_sheet hk) rfl rfl rfl (Nat.le_of_ble_eq_true rfl) (Nat.le_of_ble_eq_true rfl) (fun r_24 σ_24 h_24 => ?_)
      obtain ⟨b_24, e_24⟩ := h_24
      obtain rfl := e_24.symm
      refine tq_if_eq (tgt := 34) (dget dX4_faultOfCells 16 rfl) (by decide) (fun c_27 => ?_) (fun c_27 => ?_)
      · refine tq_iconst (v := 3) (dget dX4_faultOfCells 19 rfl) rfl ?_
        exact tq_iret rfl (dget dX4_faultOfCells 20 rfl) ⟨_, rfl, by rw [fcF, if_neg (by simp [c_9]), if_neg (Int32.not_lt.mpr c_16), if_neg (b_24.f c_27)], rfl⟩
      · refine tq_iconst (v := 0) (dget dX4_faultOfCells 17 rfl) rfl ?_
        refine tq_goto (tgt := 35) (dget dX4_faultOfCells 18 rfl) (by decide) ?_
        exact tq_iret rfl (dget dX4_faultOfCells 20 rfl) ⟨_, rfl, by simp [fcF, b_24.t c_27, c_9, c_16, Int32.not_lt.mpr c_16, c_27], rfl⟩
    · refine tq_iconst (v := 4) (dget dX4_faultOfCells 10 rfl) rfl ?_
      exact tq_iret rfl (dget dX4_faultOfCells 11 rfl) ⟨_, rfl, by simp [fcF, c_9, c_16, Int32.not_le.mp c_16], rfl⟩
  · refine tq_iload 0 (dget dX4_faultOfCells 6 rfl) rfl ?_
    exact tq_iret rfl (dget dX4_faultOfCells 7 rfl) ⟨_, rfl, by simp [fcF, c_9], rfl⟩
set_option maxHeartbeats 4000000 in
set_option maxRecDepth 20000 in
theorem c_readInto (σ : Mem) (k : Nat) (hk : k < 4) (a b : Nat) (hab : a + b ≤ 100) (d : Nat) (hd : 1 ≤ d) : PMet d mX4_readInto [.ref (34 + 2 * k), .ref 33, .int (nI a), .int (nI b)] σ (Pv (fun σ2 => σ2 = upR σ 33 (va_cpy (σ (35 + 2 * k)) (σ 33) a 0 b))) := by
  obtain ⟨d, rfl⟩ : ∃ e, d = e + 1 := ⟨d - 1, by omega⟩
  refine PMet.start (ls0 := [(0, .ref (34 + 2 * k)), (1, .ref 33), (2, .int (nI a)), (3, .int (nI b))]) miX4_readInto.1 (Nat.le_of_ble_eq_true rfl) rfl ?_
  refine tq_aload_n 0 (dget dX4_readInto 0 rfl) rfl rfl ?_
  refine tq_getR (dget dX4_readInto 1 rfl) fX4_9 (SH_sheet hk) rfl ?_
  refine tq_iload_n 2 (dget dX4_readInto 2 rfl) rfl rfl ?_
  refine tq_aload_n 1 (dget dX4_readInto 3 rfl) rfl rfl ?_
  refine tq_iconst (v := 0) (dget dX4_readInto 4 rfl) rfl ?_
  refine tq_iload_n 3 (dget dX4_readInto 5 rfl) rfl rfl ?_
  refine tq_copy (dget dX4_readInto 6 rfl) (tblG_1 235 rfl rfl) (tblG_1 237 rfl rfl) (tblG_1 236 rfl rfl) (tblG_1 9 rfl rfl) (SH_cells hk) rfl (nI_pos (by omega)) (by decide) (nI_pos (by omega)) (by rw [nI_clamp (by omega), nI_clamp (by omega)]; exact hab) (by rw [nI_clamp (by omega)]; show 0 + b ≤ 100; omega) (by show 1 ≤ d + 1; omega) (by show _ ≤ 40 * (d + 1); have h0 : 40 ≤ 40 * (d + 1) := (by omega); exact Nat.le_trans (Nat.le_of_ble_eq_true rfl) h0) ?_
  exact tq_vret rfl (dget dX4_readInto 7 rfl) ⟨rfl, by rw [nI_clamp (n := a) (by omega), nI_clamp (n := b) (by omega)]; rfl⟩
set_option maxHeartbeats 4000000 in
set_option maxRecDepth 20000 in
theorem c_write (σ : Mem) (k : Nat) (hk : k < 4) (a : Nat) (ha : a < 100) (v : Int32) (d : Nat) (hd : 0 ≤ d) : PMet d mX4_write [.ref (34 + 2 * k), .int (nI a), .int v] σ (Pv (fun σ2 => σ2 = up σ (35 + 2 * k) a (cutF (σ (34 + 2 * k) 2) v))) := by
  refine PMet.start (ls0 := [(0, .ref (34 + 2 * k)), (1, .int (nI a)), (2, .int v)]) miX4_write.1 (Nat.le_of_ble_eq_true rfl) rfl ?_
  refine tq_aload_n 0 (dget dX4_write 0 rfl) rfl rfl ?_
  refine tq_getI (dget dX4_write 1 rfl) fX4_25 (SH_sheet hk) rfl ?_
  by_cases s_4_0 : (σ (34 + 2 * k) 2) = 0
  · refine tq_lookup (tgt := 32) (off := 28) (dget dX4_write 2 rfl) (by decide) (by rw [s_4_0]; decide) (by decide) ?_
    refine tq_aload_n 0 (dget dX4_write 3 rfl) rfl rfl ?_
    refine tq_getR (dget dX4_write 4 rfl) fX4_9 (SH_sheet hk) rfl ?_
    refine tq_iload_n 1 (dget dX4_write 5 rfl) rfl rfl ?_
    refine tq_iload_n 2 (dget dX4_write 6 rfl) rfl rfl ?_
    refine tq_i2b (dget dX4_write 7 rfl) ?_
    refine tq_iastN a (dget dX4_write 8 rfl) (SH_cells hk) (by decide) rfl (by omega) ?_
    refine tq_goto (tgt := 61) (dget dX4_write 9 rfl) (by decide) ?_
    exact tq_vret rfl (dget dX4_write 22 rfl) ⟨rfl, by simp [cutF, s_4_0]⟩
  by_cases s_4_1 : (σ (34 + 2 * k) 2) = 1
  · refine tq_lookup (tgt := 43) (off := 39) (dget dX4_write 2 rfl) (by decide) (by rw [s_4_1]; decide) (by decide) ?_
    refine tq_aload_n 0 (dget dX4_write 10 rfl) rfl rfl ?_
    refine tq_getR (dget dX4_write 11 rfl) fX4_9 (SH_sheet hk) rfl ?_
    refine tq_iload_n 1 (dget dX4_write 12 rfl) rfl rfl ?_
    refine tq_iload_n 2 (dget dX4_write 13 rfl) rfl rfl ?_
    refine tq_i2s (dget dX4_write 14 rfl) ?_
    refine tq_iastN a (dget dX4_write 15 rfl) (SH_cells hk) (by decide) rfl (by omega) ?_
    refine tq_goto (tgt := 61) (dget dX4_write 16 rfl) (by decide) ?_
    exact tq_vret rfl (dget dX4_write 22 rfl) ⟨rfl, by simp [cutF, s_4_1, s_4_0]⟩
  refine tq_lookup (tgt := 54) (off := 50) (dget dX4_write 2 rfl) (by decide) ((lv_osw s_4_0 (by decide)).trans ((lv_osw s_4_1 (by decide)).trans (rfl))) (by decide) ?_
  refine tq_aload_n 0 (dget dX4_write 17 rfl) rfl rfl ?_
  refine tq_getR (dget dX4_write 18 rfl) fX4_9 (SH_sheet hk) rfl ?_
  refine tq_iload_n 1 (dget dX4_write 19 rfl) rfl rfl ?_
  refine tq_iload_n 2 (dget dX4_write 20 rfl) rfl rfl ?_
  refine tq_iastN a (dget dX4_write 21 rfl) (SH_cells hk) (by decide) rfl (by omega) ?_
  exact tq_vret rfl (dget dX4_write 22 rfl) ⟨rfl, by simp [cutF, s_4_0, s_4_1]⟩
end
section
/-! ===== numbers; one maid's questions ===== -/
theorem kle {a b : Nat} (ha : a < 2 ^ 31) (hb : b < 2 ^ 31) (h : nI a ≤ nI b) : a ≤ b := (nI_leI ha hb).mp h
theorem knle {a b : Nat} (ha : a < 2 ^ 31) (hb : b < 2 ^ 31) (h : ¬ nI a ≤ nI b) : b < a := by
  have h2 := mt (nI_leI ha hb).mpr h
  omega
theorem klt {a b : Nat} (ha : a < 2 ^ 31) (hb : b < 2 ^ 31) (h : nI a < nI b) : a < b := (nI_ltI ha hb).mp h
theorem knlt {a b : Nat} (ha : a < 2 ^ 31) (hb : b < 2 ^ 31) (h : ¬ nI a < nI b) : b ≤ a := by
  have h2 := mt (nI_ltI ha hb).mpr h
  omega
theorem n_eq {a b : Nat} (ha : a < 2 ^ 31) (hb : b < 2 ^ 31) (h : nI a = nI b) : a = b := (nI_eq ha hb).mp h
theorem n_ne {a b : Nat} (h : ¬ nI a = nI b) : ¬ a = b := fun e => h (by rw [e])
theorem nI_mulN (a b : Nat) : nI a * nI b = nI (a * b) := (Int32.ofNat_mul a b).symm
theorem nI_subN {a b : Nat} (h : b ≤ a) : nI a - nI b = nI (a - b) := by
  have h1 := nI_add (a - b) b
  rw [Nat.sub_add_cancel h] at h1
  rw [← h1, Int32.add_sub_cancel]
/-- the valley of a memory: how many suitors, maids -/
def VA (σ : Mem) (S M : Nat) : Prop := σ 1 0 = nI S ∧ σ 1 1 = nI M ∧ S ≤ 6 ∧ M ≤ 4
def bestF (law : Int32) (f : Nat → Int32) : Nat → Int32
  | 0 => 0
  | k + 1 => if nI k ≤ law then (if bestF law f k < f k then f k else bestF law f k) else bestF law f k
theorem bestF_stop {law : Int32} {f : Nat → Int32} {k : Nat} (h : law < nI k) : ∀ n, k ≤ n → n < 2 ^ 31 → bestF law f n = bestF law f k
  | 0, hk, _ => by rw [Nat.le_zero.mp hk]
  | n + 1, hk, hn => by
    by_cases e : k = n + 1
    · rw [e]
    · rw [bestF, if_neg, bestF_stop h n (by omega) (by omega)]
      intro q
      have h1 : nI k ≤ nI n := (nI_leI (by omega) (by omega)).mpr (by omega)
      exact Int32.lt_irrefl (Int32.lt_of_lt_of_le h (Int32.le_trans h1 q))
def mndP (P : Nat → Prop) (f : Nat → Int32) (n : Nat) (v : Int32) : Prop := (∃ k, k < n ∧ P k ∧ (∀ j, j < k → ¬ P j) ∧ v = f k) ∨ ((∀ j, j < n → ¬ P j) ∧ v = 0)

set_option maxHeartbeats 4000000 in
set_option maxRecDepth 20000 in
theorem c_areSuitors_loop (σ : Mem) (L : Nat) (hL : L ≤ 100) (d : Nat) (hd : 1 ≤ d) : ∀ (n : Nat) (k : Nat) (hm : L < k + n) (hk : k ≤ L) (hI : ∀ j, j < k → 0 ≤ σ 33 j ∧ σ 33 j < σ 1 0), PAt (EM d (Pi (fun v σ2 => BP (∀ j, j < L → 0 ≤ σ 33 j ∧ σ 33 j < σ 1 0) v ∧ σ2 = σ))) mX6_areSuitors 2 [(3, .int (nI k)), (0, .ref 1), (1, .ref 33), (2, .int (nI L))] [] σ := by
  obtain ⟨d, rfl⟩ : ∃ e, d = e + 1 := ⟨d - 1, by omega⟩
  intro n
  induction n with
  | zero => intro k hm hk hI; exact absurd hm (by omega)
  | succ n ih =>
    intro k hm hk hI
    refine tq_iload_n 0 (dget dX6_areSuitors 2 rfl) rfl rfl ?_
    refine tq_iload_n 3 (dget dX6_areSuitors 3 rfl) rfl rfl ?_
    refine tq_icmp_ge (tgt := 25) (dget dX6_areSuitors 4 rfl) (by decide) (fun c_4 => ?_) (fun c_4 => ?_)
    · have g_4 := kle (by omega) (by omega) c_4
      refine tq_iconst (v := 1) (dget dX6_areSuitors 15 rfl) rfl ?_
      exact tq_zret rfl rfl (dget dX6_areSuitors 16 rfl) ⟨_, rfl, BP.y (fun j hj => hI j (by omega)), rfl⟩
    · have g_4 := knle (by omega) (by omega) c_4
      refine tq_aload_n 1 (dget dX6_areSuitors 5 rfl) rfl rfl ?_
      refine tq_aload_n 2 (dget dX6_areSuitors 6 rfl) rfl rfl ?_
      refine tq_iload_n 0 (dget dX6_areSuitors 7 rfl) rfl rfl ?_
      refine tq_ialdN k (dget dX6_areSuitors 8 rfl) rfl (by decide) rfl (by omega) ?_
      refine mq_Vi (As := [.int (σ 33 k)]) (rest := []) (dget dX6_areSuitors 9 rfl) lX6_30 miX6_hasSuitor (c_hasSuitor σ (σ 33 k) d (by omega)) rfl rfl rfl rfl (Nat.le_of_ble_eq_true rfl) (Nat.le_of_ble_eq_true rfl) (fun r_11 σ_11 h_11 => ?_)
      obtain ⟨b_11, e_11⟩ := h_11
      obtain rfl := e_11.symm
      refine tq_if_ne (tgt := 19) (dget dX6_areSuitors 10 rfl) (by decide) (fun c_14 => ?_) (fun c_14 => ?_)
      · refine tq_iinc (v := (nI (k + 1))) (ls2 := [(3, .int (nI (k + 1))), (0, .ref 1), (1, .ref 33), (2, .int (nI L))]) 0 (dget dX6_areSuitors 13 rfl) rfl (nI_1 k) (by decide) rfl ?_
        refine tq_goto (tgt := 2) (dget dX6_areSuitors 14 rfl) (by decide) ?_
        refine tq_sub [0, 1, 2, 3] (ls' := [(3, .int (nI (k + 1))), (0, .ref 1), (1, .ref 33), (2, .int (nI L))]) rfl ?_
        exact ih (k + 1) (by omega) (by omega) (fun j hj => if e : j = k then e ▸ b_11.t c_14 else hI j (by omega))
      · refine tq_iconst (v := 0) (dget dX6_areSuitors 11 rfl) rfl ?_
        exact tq_zret rfl rfl (dget dX6_areSuitors 12 rfl) ⟨_, rfl, BP.n (fun q => b_11.f c_14 (q k g_4)), rfl⟩
set_option maxHeartbeats 4000000 in
set_option maxRecDepth 20000 in
theorem c_areSuitors (σ : Mem) (L : Nat) (hL : L ≤ 100) (d : Nat) (hd : 1 ≤ d) : PMet d mX6_areSuitors [.ref 1, .ref 33, .int (nI L)] σ (Pi (fun v σ2 => BP (∀ j, j < L → 0 ≤ σ 33 j ∧ σ 33 j < σ 1 0) v ∧ σ2 = σ)) := by
  obtain ⟨d, rfl⟩ : ∃ e, d = e + 1 := ⟨d - 1, by omega⟩
  refine PMet.start (ls0 := [(0, .ref 1), (1, .ref 33), (2, .int (nI L))]) miX6_areSuitors.1 (Nat.le_of_ble_eq_true rfl) rfl ?_
  refine tq_iconst (v := 0) (dget dX6_areSuitors 0 rfl) rfl ?_
  refine tq_istore_n (ls2 := [(3, .int 0), (0, .ref 1), (1, .ref 33), (2, .int (nI L))]) (dget dX6_areSuitors 1 rfl) rfl (by decide) rfl ?_
  refine tq_sub [0, 1, 2, 3] (ls' := [(3, .int 0), (0, .ref 1), (1, .ref 33), (2, .int (nI L))]) rfl ?_
  exact c_areSuitors_loop σ L hL (d + 1) (by omega) (L + 1) 0 (by omega) (by omega) (fun j hj => absurd hj (by omega))
set_option maxHeartbeats 4000000 in
set_option maxRecDepth 20000 in
theorem c_best_loop (σ : Mem) (m L : Nat) (w : Nat → Nat) (hm4 : m < 4) (hL : L ≤ 100) (hw : ∀ j, j < L → σ 33 j = nI (w j) ∧ w j < 6) (d : Nat) (hd : 1 ≤ d) : ∀ (n : Nat) (k : Nat) (hm : L < k + n) (hk : k ≤ L), PAt (EM d (Pi (fun v σ2 => v = bestF (σ 1 2) (fun j => σ (4 + m) (w j)) L ∧ σ2 = σ))) mX6_best 6 [(5, .int (nI k)), (4, .int (bestF (σ 1 2) (fun j => σ (4 + m) (w j)) k)), (0, .ref 1), (1, .int (nI m)), (2, .ref 33), (3, .int (nI L))] [] σ := by
  obtain ⟨d, rfl⟩ : ∃ e, d = e + 1 := ⟨d - 1, by omega⟩
  intro n
  induction n with
  | zero => intro k hm hk; exact absurd hm (by omega)
  | succ n ih =>
    intro k hm hk
    refine tq_iload 0 (dget dX6_best 4 rfl) rfl ?_
    refine tq_iload_n 5 (dget dX6_best 5 rfl) rfl rfl ?_
    refine tq_icmp_ge (tgt := 45) (dget dX6_best 6 rfl) (by decide) (fun c_9 => ?_) (fun c_9 => ?_)
    · have g_9 := kle (by omega) (by omega) c_9
      refine tq_iload 1 (dget dX6_best 24 rfl) rfl ?_
      exact tq_iret rfl (dget dX6_best 25 rfl) ⟨_, rfl, by rw [show k = L by omega], rfl⟩
    · have g_9 := knle (by omega) (by omega) c_9
      refine tq_iload 0 (dget dX6_best 7 rfl) rfl ?_
      refine tq_aload_n 2 (dget dX6_best 8 rfl) rfl rfl ?_
      refine tq_getI (dget dX6_best 9 rfl) fX6_34 rfl rfl ?_
      refine tq_icmp_gt (tgt := 45) (dget dX6_best 10 rfl) (by decide) (fun c_18 => ?_) (fun c_18 => ?_)
      · refine tq_iload 1 (dget dX6_best 24 rfl) rfl ?_
        exact tq_iret rfl (dget dX6_best 25 rfl) ⟨_, rfl, (bestF_stop c_18 L hk (by omega)).symm, rfl⟩
      · refine tq_iload 1 (dget dX6_best 11 rfl) rfl ?_
        refine tq_aload_n 2 (dget dX6_best 12 rfl) rfl rfl ?_
        refine tq_getR (dget dX6_best 13 rfl) fX6_17 rfl rfl ?_
        refine tq_iload_n 3 (dget dX6_best 14 rfl) rfl rfl ?_
        refine tq_hers m (dget dX6_best 15 rfl) rfl (by omega) ?_
        refine tq_aload_n 4 (dget dX6_best 16 rfl) rfl rfl ?_
        refine tq_iload 0 (dget dX6_best 17 rfl) rfl ?_
        refine tq_ialdN k (dget dX6_best 18 rfl) rfl (by decide) rfl (by omega) ?_
        refine tq_ialdN (w k) (dget dX6_best 19 rfl) (SH_hers (by omega)) (by decide) (hw k g_9).1 (hw k g_9).2 ?_
        refine tq_max (dget dX6_best 20 rfl) (tblG_2 128 rfl rfl) (tblG_2 129 rfl rfl) (tblG_1 12 rfl rfl) (tblG_2 130 rfl rfl) (by show 1 ≤ d + 1; omega) (by show _ ≤ 40 * (d + 1); have h0 : 16 ≤ 40 * (d + 1) := (by omega); exact Nat.le_trans (Nat.le_of_ble_eq_true rfl) h0) (Nat.le_refl _) (Nat.le_refl _) ?_
        refine tq_istore (ls2 := [(4, .int (if (bestF (σ 1 2) (fun j => σ (4 + m) (w j)) k) < (σ (4 + m) (w k)) then (σ (4 + m) (w k)) else (bestF (σ 1 2) (fun j => σ (4 + m) (w j)) k))), (5, .int (nI k)), (0, .ref 1), (1, .int (nI m)), (2, .ref 33), (3, .int (nI L))]) (dget dX6_best 21 rfl) (by decide) rfl ?_
        refine tq_iinc (v := (nI (k + 1))) (ls2 := [(5, .int (nI (k + 1))), (4, .int (if (bestF (σ 1 2) (fun j => σ (4 + m) (w j)) k) < (σ (4 + m) (w k)) then (σ (4 + m) (w k)) else (bestF (σ 1 2) (fun j => σ (4 + m) (w j)) k))), (0, .ref 1), (1, .int (nI m)), (2, .ref 33), (3, .int (nI L))]) 1 (dget dX6_best 22 rfl) rfl (nI_1 k) (by decide) rfl ?_
        refine tq_goto (tgt := 6) (dget dX6_best 23 rfl) (by decide) ?_
        refine tq_sub [0, 1, 2, 3, 4, 5] (ls' := [(5, .int (nI (k + 1))), (4, .int (if (bestF (σ 1 2) (fun j => σ (4 + m) (w j)) k) < (σ (4 + m) (w k)) then (σ (4 + m) (w k)) else (bestF (σ 1 2) (fun j => σ (4 + m) (w j)) k))), (0, .ref 1), (1, .int (nI m)), (2, .ref 33), (3, .int (nI L))]) rfl ?_
        rw [show (if bestF (σ 1 2) (fun j => σ (4 + m) (w j)) k < σ (4 + m) (w k) then σ (4 + m) (w k) else bestF (σ 1 2) (fun j => σ (4 + m) (w j)) k) = bestF (σ 1 2) (fun j => σ (4 + m) (w j)) (k + 1) by simp [bestF, Int32.not_lt.mp c_18]]
        exact ih (k + 1) (by omega) (by omega)
set_option maxHeartbeats 4000000 in
set_option maxRecDepth 20000 in
theorem c_best (σ : Mem) (m L : Nat) (w : Nat → Nat) (hm : m < 4) (hL : L ≤ 100) (hw : ∀ j, j < L → σ 33 j = nI (w j) ∧ w j < 6) (d : Nat) (hd : 1 ≤ d) : PMet d mX6_best [.ref 1, .int (nI m), .ref 33, .int (nI L)] σ (Pi (fun v σ2 => v = bestF (σ 1 2) (fun j => σ (4 + m) (w j)) L ∧ σ2 = σ)) := by
  obtain ⟨d, rfl⟩ : ∃ e, d = e + 1 := ⟨d - 1, by omega⟩
  refine PMet.start (ls0 := [(0, .ref 1), (1, .int (nI m)), (2, .ref 33), (3, .int (nI L))]) miX6_best.1 (Nat.le_of_ble_eq_true rfl) rfl ?_
  refine tq_iconst (v := 0) (dget dX6_best 0 rfl) rfl ?_
  refine tq_istore (ls2 := [(4, .int 0), (0, .ref 1), (1, .int (nI m)), (2, .ref 33), (3, .int (nI L))]) (dget dX6_best 1 rfl) (by decide) rfl ?_
  refine tq_iconst (v := 0) (dget dX6_best 2 rfl) rfl ?_
  refine tq_istore (ls2 := [(5, .int 0), (4, .int 0), (0, .ref 1), (1, .int (nI m)), (2, .ref 33), (3, .int (nI L))]) (dget dX6_best 3 rfl) (by decide) rfl ?_
  refine tq_sub [0, 1, 2, 3, 4, 5] (ls' := [(5, .int 0), (4, .int 0), (0, .ref 1), (1, .int (nI m)), (2, .ref 33), (3, .int (nI L))]) rfl ?_
  exact c_best_loop σ m L w hm hL hw (d + 1) (by omega) (L + 1) 0 (by omega) (by omega)
set_option maxHeartbeats 4000000 in
set_option maxRecDepth 20000 in
theorem c_minded_loop (σ : Mem) (m L : Nat) (w : Nat → Nat) (hm4 : m < 4) (hL : L ≤ 100) (hw : ∀ j, j < L → σ 33 j = nI (w j) ∧ w j < 6) (d : Nat) (hd : 2 ≤ d) : ∀ (n : Nat) (k : Nat) (hm : L < k + n) (hk : k ≤ L) (hI : ∀ j, j < k → ansF (σ 1 2) (σ 2 m) (σ (4 + m) (w j)) (nI j) = 3), PAt (EM d (Pi (fun v σ2 => mndP (fun j => ¬ ansF (σ 1 2) (σ 2 m) (σ (4 + m) (w j)) (nI j) = 3) (fun j => σ (4 + m) (w j)) L v ∧ σ2 = σ))) mX6_minded 3 [(4, .int (nI k)), (0, .ref 1), (1, .int (nI m)), (2, .ref 33), (3, .int (nI L))] [] σ := by
  obtain ⟨d, rfl⟩ : ∃ e, d = e + 1 := ⟨d - 1, by omega⟩
  intro n
  induction n with
  | zero => intro k hm hk hI; exact absurd hm (by omega)
  | succ n ih =>
    intro k hm hk hI
    refine tq_iload 0 (dget dX6_minded 2 rfl) rfl ?_
    refine tq_iload_n 4 (dget dX6_minded 3 rfl) rfl rfl ?_
    refine tq_icmp_ge (tgt := 42) (dget dX6_minded 4 rfl) (by decide) (fun c_6 => ?_) (fun c_6 => ?_)
    · have g_6 := kle (by omega) (by omega) c_6
      refine tq_iconst (v := 0) (dget dX6_minded 25 rfl) rfl ?_
      exact tq_iret rfl (dget dX6_minded 26 rfl) ⟨_, rfl, Or.inr ⟨fun j hj q => q (hI j (by omega)), rfl⟩, rfl⟩
    · have g_6 := knle (by omega) (by omega) c_6
      refine tq_aload_n 1 (dget dX6_minded 5 rfl) rfl rfl ?_
      refine tq_iload_n 2 (dget dX6_minded 6 rfl) rfl rfl ?_
      refine tq_aload_n 3 (dget dX6_minded 7 rfl) rfl rfl ?_
      refine tq_iload 0 (dget dX6_minded 8 rfl) rfl ?_
      refine tq_ialdN k (dget dX6_minded 9 rfl) rfl (by decide) rfl (by omega) ?_
      refine tq_iload 0 (dget dX6_minded 10 rfl) rfl ?_
      refine mq_Vi (As := [.int (nI m), .int (σ 33 k), .int (nI k)]) (rest := []) (dget dX6_minded 11 rfl) lX6_59 miX6_answer (by rw [(hw k g_6).1]; exact c_answer σ m (w k) (nI k) d (by omega) (by omega) (hw k g_6).2) rfl rfl rfl rfl (Nat.le_of_ble_eq_true rfl) (Nat.le_of_ble_eq_true rfl) (fun r_17 σ_17 h_17 => ?_)
      obtain ⟨a_17, e_17⟩ := h_17
      obtain rfl := a_17.symm
      obtain rfl := e_17.symm
      refine tq_iconst (v := 3) (dget dX6_minded 12 rfl) rfl ?_
      refine tq_icmp_eq (tgt := 36) (dget dX6_minded 13 rfl) (by decide) (fun c_21 => ?_) (fun c_21 => ?_)
      · refine tq_iinc (v := (nI (k + 1))) (ls2 := [(4, .int (nI (k + 1))), (0, .ref 1), (1, .int (nI m)), (2, .ref 33), (3, .int (nI L))]) 0 (dget dX6_minded 23 rfl) rfl (nI_1 k) (by decide) rfl ?_
        refine tq_goto (tgt := 3) (dget dX6_minded 24 rfl) (by decide) ?_
        refine tq_sub [0, 1, 2, 3, 4] (ls' := [(4, .int (nI (k + 1))), (0, .ref 1), (1, .int (nI m)), (2, .ref 33), (3, .int (nI L))]) rfl ?_
        exact ih (k + 1) (by omega) (by omega) (fun j hj => if e : j = k then e ▸ c_21 else hI j (by omega))
      · refine tq_aload_n 1 (dget dX6_minded 14 rfl) rfl rfl ?_
        refine tq_getR (dget dX6_minded 15 rfl) fX6_17 rfl rfl ?_
        refine tq_iload_n 2 (dget dX6_minded 16 rfl) rfl rfl ?_
        refine tq_hers m (dget dX6_minded 17 rfl) rfl (by omega) ?_
        refine tq_aload_n 3 (dget dX6_minded 18 rfl) rfl rfl ?_
        refine tq_iload 0 (dget dX6_minded 19 rfl) rfl ?_
        refine tq_ialdN k (dget dX6_minded 20 rfl) rfl (by decide) rfl (by omega) ?_
        refine tq_ialdN (w k) (dget dX6_minded 21 rfl) (SH_hers (by omega)) (by decide) (hw k g_6).1 (hw k g_6).2 ?_
        exact tq_iret rfl (dget dX6_minded 22 rfl) ⟨_, rfl, Or.inl ⟨k, g_6, c_21, fun j hj q => q (hI j hj), rfl⟩, rfl⟩
set_option maxHeartbeats 4000000 in
set_option maxRecDepth 20000 in
theorem c_minded (σ : Mem) (m L : Nat) (w : Nat → Nat) (hm : m < 4) (hL : L ≤ 100) (hw : ∀ j, j < L → σ 33 j = nI (w j) ∧ w j < 6) (d : Nat) (hd : 2 ≤ d) : PMet d mX6_minded [.ref 1, .int (nI m), .ref 33, .int (nI L)] σ (Pi (fun v σ2 => mndP (fun j => ¬ ansF (σ 1 2) (σ 2 m) (σ (4 + m) (w j)) (nI j) = 3) (fun j => σ (4 + m) (w j)) L v ∧ σ2 = σ)) := by
  obtain ⟨d, rfl⟩ : ∃ e, d = e + 1 := ⟨d - 1, by omega⟩
  refine PMet.start (ls0 := [(0, .ref 1), (1, .int (nI m)), (2, .ref 33), (3, .int (nI L))]) miX6_minded.1 (Nat.le_of_ble_eq_true rfl) rfl ?_
  refine tq_iconst (v := 0) (dget dX6_minded 0 rfl) rfl ?_
  refine tq_istore (ls2 := [(4, .int 0), (0, .ref 1), (1, .int (nI m)), (2, .ref 33), (3, .int (nI L))]) (dget dX6_minded 1 rfl) (by decide) rfl ?_
  refine tq_sub [0, 1, 2, 3, 4] (ls' := [(4, .int 0), (0, .ref 1), (1, .int (nI m)), (2, .ref 33), (3, .int (nI L))]) rfl ?_
  exact c_minded_loop σ m L w hm hL hw (d + 1) (by omega) (L + 1) 0 (by omega) (by omega) (fun j hj => absurd hj (by omega))
/-- bit k of a set of six -/
def bitN (set k : Nat) : Bool := set.testBit k
theorem bit_and {set k : Nat} (h : set < 64) (hk : k < 6) : ((nI set >>> (nI k &&& 31)) &&& 1) = if bitN set k then 1 else 0 := by
  have h2 : ∀ a, a < 64 → ∀ b, b < 6 → ((nI a >>> (nI b &&& 31)) &&& 1) = if bitN a b then 1 else 0 := by decide +kernel
  exact h2 set h k hk
def bcF (x : Int32) : Int32 :=
  let a := x - (((x).toUInt32 >>> ((1 : Int32).toUInt32 &&& Int32.toUInt32 31)).toInt32 &&& 1431655765)
  let b := (a &&& 858993459) + (((a).toUInt32 >>> ((2 : Int32).toUInt32 &&& Int32.toUInt32 31)).toInt32 &&& 858993459)
  let c := (b + ((b).toUInt32 >>> ((4 : Int32).toUInt32 &&& Int32.toUInt32 31)).toInt32) &&& 252645135
  let e := c + ((c).toUInt32 >>> ((8 : Int32).toUInt32 &&& Int32.toUInt32 31)).toInt32
  let f := e + ((e).toUInt32 >>> ((16 : Int32).toUInt32 &&& Int32.toUInt32 31)).toInt32
  f &&& 63
/-- how many of the first k are in a set -/
def cntN (set : Nat) : Nat → Nat
  | 0 => 0
  | k + 1 => cntN set k + if bitN set k then 1 else 0
theorem cntN_le (set : Nat) : ∀ k, cntN set k ≤ k
  | 0 => Nat.le_refl _
  | k + 1 => by
    have := cntN_le set k
    unfold cntN
    split <;> omega
theorem bcF_eq {set : Nat} (h : set < 64) : bcF (nI set) = nI (cntN set 6) := by
  have h2 : ∀ a, a < 64 → bcF (nI a) = nI (cntN a 6) := by decide +kernel
  exact h2 set h
/-- whether those of a set are all refused ahead of the told one, and he is not -/
def brP (law kind : Int32) (f : Nat → Int32) (S told set : Nat) : Prop := (∀ s, s < S → bitN set s = true → ansF law kind (f s) (nI (cntN set s)) = 3) ∧ ¬ ansF law kind (f told) (nI (cntN set S)) = 3

set_option maxHeartbeats 4000000 in
set_option maxRecDepth 20000 in
theorem c_bitCount (σ : Mem) (x : Int32) (d : Nat) (hd : 0 ≤ d) : PMet d mJ6_bitCount_0f7a4 [.int x] σ (Pi (fun v σ2 => v = bcF x ∧ σ2 = σ)) := by
  refine PMet.start (ls0 := [(0, .int x)]) miJ6_bitCount_0f7a4.1 (Nat.le_of_ble_eq_true rfl) rfl ?_
  refine tq_iload_n 0 (dget dJ6_bitCount_0f7a4 0 rfl) rfl rfl ?_
  refine tq_iload_n 0 (dget dJ6_bitCount_0f7a4 1 rfl) rfl rfl ?_
  refine tq_iconst (v := 1) (dget dJ6_bitCount_0f7a4 2 rfl) rfl ?_
  refine tq_iushr (dget dJ6_bitCount_0f7a4 3 rfl) ?_
  refine tq_ldcw (v := 1431655765) (dget dJ6_bitCount_0f7a4 4 rfl) (tblG_2 147 rfl rfl) ?_
  refine tq_iand (dget dJ6_bitCount_0f7a4 5 rfl) ?_
  refine tq_isub (dget dJ6_bitCount_0f7a4 6 rfl) ?_
  refine tq_istore_n (ls2 := [(0, .int (x - (((x).toUInt32 >>> ((1 : Int32).toUInt32 &&& Int32.toUInt32 31)).toInt32 &&& 1431655765)))]) (dget dJ6_bitCount_0f7a4 7 rfl) rfl (by decide) rfl ?_
  refine tq_iload_n 0 (dget dJ6_bitCount_0f7a4 8 rfl) rfl rfl ?_
  refine tq_ldcw (v := 858993459) (dget dJ6_bitCount_0f7a4 9 rfl) (tblG_2 148 rfl rfl) ?_
  refine tq_iand (dget dJ6_bitCount_0f7a4 10 rfl) ?_
  refine tq_iload_n 0 (dget dJ6_bitCount_0f7a4 11 rfl) rfl rfl ?_
  refine tq_iconst (v := 2) (dget dJ6_bitCount_0f7a4 12 rfl) rfl ?_
  refine tq_iushr (dget dJ6_bitCount_0f7a4 13 rfl) ?_
  refine tq_ldcw (v := 858993459) (dget dJ6_bitCount_0f7a4 14 rfl) (tblG_2 148 rfl rfl) ?_
  refine tq_iand (dget dJ6_bitCount_0f7a4 15 rfl) ?_
  refine tq_iadd (dget dJ6_bitCount_0f7a4 16 rfl) ?_
  refine tq_istore_n (ls2 := [(0, .int (((x - (((x).toUInt32 >>> ((1 : Int32).toUInt32 &&& Int32.toUInt32 31)).toInt32 &&& 1431655765)) &&& 858993459) + ((((x - (((x).toUInt32 >>> ((1 : Int32).toUInt32 &&& Int32.toUInt32 31)).toInt32 &&& 1431655765))).toUInt32 >>> ((2 : Int32).toUInt32 &&& Int32.toUInt32 31)).toInt32 &&& 858993459)))]) (dget dJ6_bitCount_0f7a4 17 rfl) rfl (by decide) rfl ?_
  refine tq_iload_n 0 (dget dJ6_bitCount_0f7a4 18 rfl) rfl rfl ?_
  refine tq_iload_n 0 (dget dJ6_bitCount_0f7a4 19 rfl) rfl rfl ?_
  refine tq_iconst (v := 4) (dget dJ6_bitCount_0f7a4 20 rfl) rfl ?_
  refine tq_iushr (dget dJ6_bitCount_0f7a4 21 rfl) ?_
  refine tq_iadd (dget dJ6_bitCount_0f7a4 22 rfl) ?_
  refine tq_ldcw (v := 252645135) (dget dJ6_bitCount_0f7a4 23 rfl) (tblG_2 149 rfl rfl) ?_
  refine tq_iand (dget dJ6_bitCount_0f7a4 24 rfl) ?_
  refine tq_istore_n (ls2 := [(0, .int (((((x - (((x).toUInt32 >>> ((1 : Int32).toUInt32 &&& Int32.toUInt32 31)).toInt32 &&& 1431655765)) &&& 858993459) + ((((x - (((x).toUInt32 >>> ((1 : Int32).toUInt32 &&& Int32.toUInt32 31)).toInt32 &&& 1431655765))).toUInt32 >>> ((2 : Int32).toUInt32 &&& Int32.toUInt32 31)).toInt32 &&& 858993459)) + (((((x - (((x).toUInt32 >>> ((1 : Int32).toUInt32 &&& Int32.toUInt32 31)).toInt32 &&& 1431655765)) &&& 858993459) + ((((x - (((x).toUInt32 >>> ((1 : Int32).toUInt32 &&& Int32.toUInt32 31)).toInt32 &&& 1431655765))).toUInt32 >>> ((2 : Int32).toUInt32 &&& Int32.toUInt32 31)).toInt32 &&& 858993459))).toUInt32 >>> ((4 : Int32).toUInt32 &&& Int32.toUInt32 31)).toInt32) &&& 252645135))]) (dget dJ6_bitCount_0f7a4 25 rfl) rfl (by decide) rfl ?_
  refine tq_iload_n 0 (dget dJ6_bitCount_0f7a4 26 rfl) rfl rfl ?_
  refine tq_iload_n 0 (dget dJ6_bitCount_0f7a4 27 rfl) rfl rfl ?_
  refine tq_bipush (v := 8) (dget dJ6_bitCount_0f7a4 28 rfl) rfl ?_
  refine tq_iushr (dget dJ6_bitCount_0f7a4 29 rfl) ?_
  refine tq_iadd (dget dJ6_bitCount_0f7a4 30 rfl) ?_
  refine tq_istore_n (ls2 := [(0, .int ((((((x - (((x).toUInt32 >>> ((1 : Int32).toUInt32 &&& Int32.toUInt32 31)).toInt32 &&& 1431655765)) &&& 858993459) + ((((x - (((x).toUInt32 >>> ((1 : Int32).toUInt32 &&& Int32.toUInt32 31)).toInt32 &&& 1431655765))).toUInt32 >>> ((2 : Int32).toUInt32 &&& Int32.toUInt32 31)).toInt32 &&& 858993459)) + (((((x - (((x).toUInt32 >>> ((1 : Int32).toUInt32 &&& Int32.toUInt32 31)).toInt32 &&& 1431655765)) &&& 858993459) + ((((x - (((x).toUInt32 >>> ((1 : Int32).toUInt32 &&& Int32.toUInt32 31)).toInt32 &&& 1431655765))).toUInt32 >>> ((2 : Int32).toUInt32 &&& Int32.toUInt32 31)).toInt32 &&& 858993459))).toUInt32 >>> ((4 : Int32).toUInt32 &&& Int32.toUInt32 31)).toInt32) &&& 252645135) + (((((((x - (((x).toUInt32 >>> ((1 : Int32).toUInt32 &&& Int32.toUInt32 31)).toInt32 &&& 1431655765)) &&& 858993459) + ((((x - (((x).toUInt32 >>> ((1 : Int32).toUInt32 &&& Int32.toUInt32 31)).toInt32 &&& 1431655765))).toUInt32 >>> ((2 : Int32).toUInt32 &&& Int32.toUInt32 31)).toInt32 &&& 858993459)) + (((((x - (((x).toUInt32 >>> ((1 : Int32).toUInt32 &&& Int32.toUInt32 31)).toInt32 &&& 1431655765)) &&& 858993459) + ((((x - (((x).toUInt32 >>> ((1 : Int32).toUInt32 &&& Int32.toUInt32 31)).toInt32 &&& 1431655765))).toUInt32 >>> ((2 : Int32).toUInt32 &&& Int32.toUInt32 31)).toInt32 &&& 858993459))).toUInt32 >>> ((4 : Int32).toUInt32 &&& Int32.toUInt32 31)).toInt32) &&& 252645135)).toUInt32 >>> ((8 : Int32).toUInt32 &&& Int32.toUInt32 31)).toInt32))]) (dget dJ6_bitCount_0f7a4 31 rfl) rfl (by decide) rfl ?_
  refine tq_iload_n 0 (dget dJ6_bitCount_0f7a4 32 rfl) rfl rfl ?_
  refine tq_iload_n 0 (dget dJ6_bitCount_0f7a4 33 rfl) rfl rfl ?_
  refine tq_bipush (v := 16) (dget dJ6_bitCount_0f7a4 34 rfl) rfl ?_
  refine tq_iushr (dget dJ6_bitCount_0f7a4 35 rfl) ?_
  refine tq_iadd (dget dJ6_bitCount_0f7a4 36 rfl) ?_
  refine tq_istore_n (ls2 := [(0, .int (((((((x - (((x).toUInt32 >>> ((1 : Int32).toUInt32 &&& Int32.toUInt32 31)).toInt32 &&& 1431655765)) &&& 858993459) + ((((x - (((x).toUInt32 >>> ((1 : Int32).toUInt32 &&& Int32.toUInt32 31)).toInt32 &&& 1431655765))).toUInt32 >>> ((2 : Int32).toUInt32 &&& Int32.toUInt32 31)).toInt32 &&& 858993459)) + (((((x - (((x).toUInt32 >>> ((1 : Int32).toUInt32 &&& Int32.toUInt32 31)).toInt32 &&& 1431655765)) &&& 858993459) + ((((x - (((x).toUInt32 >>> ((1 : Int32).toUInt32 &&& Int32.toUInt32 31)).toInt32 &&& 1431655765))).toUInt32 >>> ((2 : Int32).toUInt32 &&& Int32.toUInt32 31)).toInt32 &&& 858993459))).toUInt32 >>> ((4 : Int32).toUInt32 &&& Int32.toUInt32 31)).toInt32) &&& 252645135) + (((((((x - (((x).toUInt32 >>> ((1 : Int32).toUInt32 &&& Int32.toUInt32 31)).toInt32 &&& 1431655765)) &&& 858993459) + ((((x - (((x).toUInt32 >>> ((1 : Int32).toUInt32 &&& Int32.toUInt32 31)).toInt32 &&& 1431655765))).toUInt32 >>> ((2 : Int32).toUInt32 &&& Int32.toUInt32 31)).toInt32 &&& 858993459)) + (((((x - (((x).toUInt32 >>> ((1 : Int32).toUInt32 &&& Int32.toUInt32 31)).toInt32 &&& 1431655765)) &&& 858993459) + ((((x - (((x).toUInt32 >>> ((1 : Int32).toUInt32 &&& Int32.toUInt32 31)).toInt32 &&& 1431655765))).toUInt32 >>> ((2 : Int32).toUInt32 &&& Int32.toUInt32 31)).toInt32 &&& 858993459))).toUInt32 >>> ((4 : Int32).toUInt32 &&& Int32.toUInt32 31)).toInt32) &&& 252645135)).toUInt32 >>> ((8 : Int32).toUInt32 &&& Int32.toUInt32 31)).toInt32) + ((((((((x - (((x).toUInt32 >>> ((1 : Int32).toUInt32 &&& Int32.toUInt32 31)).toInt32 &&& 1431655765)) &&& 858993459) + ((((x - (((x).toUInt32 >>> ((1 : Int32).toUInt32 &&& Int32.toUInt32 31)).toInt32 &&& 1431655765))).toUInt32 >>> ((2 : Int32).toUInt32 &&& Int32.toUInt32 31)).toInt32 &&& 858993459)) + (((((x - (((x).toUInt32 >>> ((1 : Int32).toUInt32 &&& Int32.toUInt32 31)).toInt32 &&& 1431655765)) &&& 858993459) + ((((x - (((x).toUInt32 >>> ((1 : Int32).toUInt32 &&& Int32.toUInt32 31)).toInt32 &&& 1431655765))).toUInt32 >>> ((2 : Int32).toUInt32 &&& Int32.toUInt32 31)).toInt32 &&& 858993459))).toUInt32 >>> ((4 : Int32).toUInt32 &&& Int32.toUInt32 31)).toInt32) &&& 252645135) + (((((((x - (((x).toUInt32 >>> ((1 : Int32).toUInt32 &&& Int32.toUInt32 31)).toInt32 &&& 1431655765)) &&& 858993459) + ((((x - (((x).toUInt32 >>> ((1 : Int32).toUInt32 &&& Int32.toUInt32 31)).toInt32 &&& 1431655765))).toUInt32 >>> ((2 : Int32).toUInt32 &&& Int32.toUInt32 31)).toInt32 &&& 858993459)) + (((((x - (((x).toUInt32 >>> ((1 : Int32).toUInt32 &&& Int32.toUInt32 31)).toInt32 &&& 1431655765)) &&& 858993459) + ((((x - (((x).toUInt32 >>> ((1 : Int32).toUInt32 &&& Int32.toUInt32 31)).toInt32 &&& 1431655765))).toUInt32 >>> ((2 : Int32).toUInt32 &&& Int32.toUInt32 31)).toInt32 &&& 858993459))).toUInt32 >>> ((4 : Int32).toUInt32 &&& Int32.toUInt32 31)).toInt32) &&& 252645135)).toUInt32 >>> ((8 : Int32).toUInt32 &&& Int32.toUInt32 31)).toInt32)).toUInt32 >>> ((16 : Int32).toUInt32 &&& Int32.toUInt32 31)).toInt32))]) (dget dJ6_bitCount_0f7a4 37 rfl) rfl (by decide) rfl ?_
  refine tq_iload_n 0 (dget dJ6_bitCount_0f7a4 38 rfl) rfl rfl ?_
  refine tq_bipush (v := 63) (dget dJ6_bitCount_0f7a4 39 rfl) rfl ?_
  refine tq_iand (dget dJ6_bitCount_0f7a4 40 rfl) ?_
  exact tq_iret rfl (dget dJ6_bitCount_0f7a4 41 rfl) ⟨_, rfl, rfl, rfl⟩
set_option maxHeartbeats 4000000 in
set_option maxRecDepth 20000 in
theorem c_bringsTo_loop (σ : Mem) (S M m told set : Nat) (hV : VA σ S M) (hm4 : m < 4) (ht : told < 6) (hset : set < 64) (d : Nat) (hd : 2 ≤ d) : ∀ (n : Nat) (k : Nat) (hm : S < k + n) (hk : k ≤ S) (hI : ∀ j, j < k → bitN set j = true → ansF (σ 1 2) (σ 2 m) (σ (4 + m) j) (nI (cntN set j)) = 3), PAt (EM d (Pi (fun v σ2 => BP (brP (σ 1 2) (σ 2 m) (fun s => σ (4 + m) s) S told set) v ∧ σ2 = σ))) mX6_bringsTo 6 [(5, .int (nI k)), (4, .int (nI (cntN set k))), (0, .ref 1), (1, .int (nI m)), (2, .int (nI told)), (3, .int (nI set))] [] σ := by
  obtain ⟨d, rfl⟩ : ∃ e, d = e + 1 := ⟨d - 1, by omega⟩
  intro n
  induction n with
  | zero => intro k hm hk hI; exact absurd hm (by omega)
  | succ n ih =>
    intro k hm hk hI
    obtain ⟨v1, v2, v3, v4⟩ := hV
    have hc6 := cntN_le set k
    refine tq_iload 0 (dget dX6_bringsTo 4 rfl) rfl ?_
    refine tq_aload_n 2 (dget dX6_bringsTo 5 rfl) rfl rfl ?_
    refine tq_getI (dget dX6_bringsTo 6 rfl) fX6_27 rfl rfl ?_
    refine tq_icmp_ge (tgt := 49) (dget dX6_bringsTo 7 rfl) (by decide) (fun c_12 => ?_) (fun c_12 => ?_)
    · rw [v1] at c_12
      have g_12 := kle (by omega) (by omega) c_12
      have g_13 : k = S := by omega
      subst g_13
      refine tq_aload_n 2 (dget dX6_bringsTo 27 rfl) rfl rfl ?_
      refine tq_iload_n 3 (dget dX6_bringsTo 28 rfl) rfl rfl ?_
      refine tq_iload_n 4 (dget dX6_bringsTo 29 rfl) rfl rfl ?_
      refine tq_iload 1 (dget dX6_bringsTo 30 rfl) rfl ?_
      refine mq_Vi (As := [.int (nI m), .int (nI told), .int (nI (cntN set k))]) (rest := []) (dget dX6_bringsTo 31 rfl) lX6_59 miX6_answer (c_answer σ m told (nI (cntN set k)) d (by omega) (by omega) (by omega)) rfl rfl rfl rfl (Nat.le_of_ble_eq_true rfl) (Nat.le_of_ble_eq_true rfl) (fun r_54 σ_54 h_54 => ?_)
      obtain ⟨a_54, e_54⟩ := h_54
      obtain rfl := a_54.symm
      obtain rfl := e_54.symm
      refine tq_iconst (v := 3) (dget dX6_bringsTo 32 rfl) rfl ?_
      refine tq_icmp_eq (tgt := 65) (dget dX6_bringsTo 33 rfl) (by decide) (fun c_58 => ?_) (fun c_58 => ?_)
      · refine tq_iconst (v := 0) (dget dX6_bringsTo 36 rfl) rfl ?_
        exact tq_zret rfl rfl (dget dX6_bringsTo 37 rfl) ⟨_, rfl, BP.n (fun q => q.2 c_58), rfl⟩
      · refine tq_iconst (v := 1) (dget dX6_bringsTo 34 rfl) rfl ?_
        refine tq_goto (tgt := 66) (dget dX6_bringsTo 35 rfl) (by decide) ?_
        exact tq_zret rfl rfl (dget dX6_bringsTo 37 rfl) ⟨_, rfl, BP.y ⟨fun j hj hb => hI j hj hb, c_58⟩, rfl⟩
    · rw [v1] at c_12
      have g_12 := knle (by omega) (by omega) c_12
      refine tq_iload_n 5 (dget dX6_bringsTo 8 rfl) rfl rfl ?_
      refine tq_iload 0 (dget dX6_bringsTo 9 rfl) rfl ?_
      refine tq_ishr (dget dX6_bringsTo 10 rfl) ?_
      refine tq_iconst (v := 1) (dget dX6_bringsTo 11 rfl) rfl ?_
      refine tq_iand (dget dX6_bringsTo 12 rfl) ?_
      refine tq_eqi (y := (if bitN set k then 1 else 0)) (bit_and hset (by omega)) ?_
      refine tq_iconst (v := 1) (dget dX6_bringsTo 13 rfl) rfl ?_
      refine tq_icmp_ne (tgt := 43) (dget dX6_bringsTo 14 rfl) (by decide) (fun c_22 => ?_) (fun c_22 => ?_)
      · have g_22 : ¬ bitN set k = true := fun q => c_22 (by rw [q]; rfl)
        refine tq_iinc (v := (nI (k + 1))) (ls2 := [(5, .int (nI (k + 1))), (4, .int (nI (cntN set k))), (0, .ref 1), (1, .int (nI m)), (2, .int (nI told)), (3, .int (nI set))]) 0 (dget dX6_bringsTo 25 rfl) rfl (nI_1 k) (by decide) rfl ?_
        refine tq_goto (tgt := 6) (dget dX6_bringsTo 26 rfl) (by decide) ?_
        refine tq_sub [0, 1, 2, 3, 4, 5] (ls' := [(5, .int (nI (k + 1))), (4, .int (nI (cntN set k))), (0, .ref 1), (1, .int (nI m)), (2, .int (nI told)), (3, .int (nI set))]) rfl ?_
        rw [show nI (cntN set k) = nI (cntN set (k + 1)) by simp [cntN, g_22]]
        refine ih (k + 1) (by omega) (by omega) (fun j hj hb => ?_)
        by_cases e : j = k
        · subst e; exact absurd hb g_22
        · exact hI j (by omega) hb
      · have g_22 : bitN set k = true := by simpa using c_22
        refine tq_aload_n 2 (dget dX6_bringsTo 15 rfl) rfl rfl ?_
        refine tq_iload_n 3 (dget dX6_bringsTo 16 rfl) rfl rfl ?_
        refine tq_iload 0 (dget dX6_bringsTo 17 rfl) rfl ?_
        refine tq_iload 1 (dget dX6_bringsTo 18 rfl) rfl ?_
        refine mq_Vi (As := [.int (nI m), .int (nI k), .int (nI (cntN set k))]) (rest := []) (dget dX6_bringsTo 19 rfl) lX6_59 miX6_answer (c_answer σ m k (nI (cntN set k)) d (by omega) (by omega) (by omega)) rfl rfl rfl rfl (Nat.le_of_ble_eq_true rfl) (Nat.le_of_ble_eq_true rfl) (fun r_31 σ_31 h_31 => ?_)
        obtain ⟨a_31, e_31⟩ := h_31
        obtain rfl := a_31.symm
        obtain rfl := e_31.symm
        refine tq_iconst (v := 3) (dget dX6_bringsTo 20 rfl) rfl ?_
        refine tq_icmp_eq (tgt := 40) (dget dX6_bringsTo 21 rfl) (by decide) (fun c_35 => ?_) (fun c_35 => ?_)
        · refine tq_iinc (v := (nI (cntN set k + 1))) (ls2 := [(4, .int (nI (cntN set k + 1))), (5, .int (nI k)), (0, .ref 1), (1, .int (nI m)), (2, .int (nI told)), (3, .int (nI set))]) 1 (dget dX6_bringsTo 24 rfl) rfl (nI_1 _) (by decide) rfl ?_
          refine tq_iinc (v := (nI (k + 1))) (ls2 := [(5, .int (nI (k + 1))), (4, .int (nI (cntN set k + 1))), (0, .ref 1), (1, .int (nI m)), (2, .int (nI told)), (3, .int (nI set))]) 1 (dget dX6_bringsTo 25 rfl) rfl (nI_1 k) (by decide) rfl ?_
          refine tq_goto (tgt := 6) (dget dX6_bringsTo 26 rfl) (by decide) ?_
          refine tq_sub [0, 1, 2, 3, 4, 5] (ls' := [(5, .int (nI (k + 1))), (4, .int (nI (cntN set k + 1))), (0, .ref 1), (1, .int (nI m)), (2, .int (nI told)), (3, .int (nI set))]) rfl ?_
          rw [show cntN set k + 1 = cntN set (k + 1) by simp [cntN, g_22]]
          refine ih (k + 1) (by omega) (by omega) (fun j hj hb => ?_)
          by_cases e : j = k
          · subst e; exact c_35
          · exact hI j (by omega) hb
        · refine tq_iconst (v := 0) (dget dX6_bringsTo 22 rfl) rfl ?_
          exact tq_zret rfl rfl (dget dX6_bringsTo 23 rfl) ⟨_, rfl, BP.n (fun q => c_35 (q.1 k g_12 g_22)), rfl⟩
set_option maxHeartbeats 4000000 in
set_option maxRecDepth 20000 in
theorem c_bringsTo (σ : Mem) (S M m told set : Nat) (hV : VA σ S M) (hm4 : m < 4) (ht : told < 6) (hset : set < 64) (d : Nat) (hd : 2 ≤ d) : PMet d mX6_bringsTo [.ref 1, .int (nI m), .int (nI told), .int (nI set)] σ (Pi (fun v σ2 => BP (brP (σ 1 2) (σ 2 m) (fun s => σ (4 + m) s) S told set) v ∧ σ2 = σ)) := by
  obtain ⟨d, rfl⟩ : ∃ e, d = e + 1 := ⟨d - 1, by omega⟩
  refine PMet.start (ls0 := [(0, .ref 1), (1, .int (nI m)), (2, .int (nI told)), (3, .int (nI set))]) miX6_bringsTo.1 (Nat.le_of_ble_eq_true rfl) rfl ?_
  refine tq_iconst (v := 0) (dget dX6_bringsTo 0 rfl) rfl ?_
  refine tq_istore (ls2 := [(4, .int 0), (0, .ref 1), (1, .int (nI m)), (2, .int (nI told)), (3, .int (nI set))]) (dget dX6_bringsTo 1 rfl) (by decide) rfl ?_
  refine tq_iconst (v := 0) (dget dX6_bringsTo 2 rfl) rfl ?_
  refine tq_istore (ls2 := [(5, .int 0), (4, .int 0), (0, .ref 1), (1, .int (nI m)), (2, .int (nI told)), (3, .int (nI set))]) (dget dX6_bringsTo 3 rfl) (by decide) rfl ?_
  refine tq_sub [0, 1, 2, 3, 4, 5] (ls' := [(5, .int 0), (4, .int 0), (0, .ref 1), (1, .int (nI m)), (2, .int (nI told)), (3, .int (nI set))]) rfl ?_
  exact c_bringsTo_loop σ S M m told set hV hm4 ht hset (d + 1) (by omega) (S + 1) 0 (by omega) (by omega) (fun j hj => absurd hj (by omega))
end
section
/-! ===== the fewest sent ahead; sums over rows ===== -/
def fwc (P : Nat → Prop) (told k : Nat) (o : Option Nat) : Prop := (∀ b, o = some b → cntN k 6 < cntN b 6) ∧ bitN k told = false ∧ P k
noncomputable def fwF (P : Nat → Prop) (told : Nat) : Nat → Option Nat
  | 0 => none
  | k + 1 => @ite _ (fwc P told k (fwF P told k)) (Classical.propDecidable _) (some k) (fwF P told k)
theorem fwF_y {P : Nat → Prop} {told k : Nat} (h : fwc P told k (fwF P told k)) : fwF P told (k + 1) = some k := by rw [fwF, if_pos h]
theorem fwF_n {P : Nat → Prop} {told k : Nat} (h : ¬ fwc P told k (fwF P told k)) : fwF P told (k + 1) = fwF P told k := by rw [fwF, if_neg h]
theorem fwF_lt {P : Nat → Prop} {told : Nat} : ∀ (k b : Nat), fwF P told k = some b → b < k
  | 0, b, h => by simp [fwF] at h
  | k + 1, b, h => by
    by_cases c : fwc P told k (fwF P told k)
    · rw [fwF_y c] at h
      cases h
      omega
    · rw [fwF_n c] at h
      have := fwF_lt k b h
      omega
def fwV : Option Nat → Int32
  | none => -9
  | some b => nI b
theorem fwV_none {o : Option Nat} (hb : ∀ b, o = some b → b < 64) (h : fwV o = -9) : o = none := by
  cases o with
  | none => rfl
  | some b =>
    have h2 : ∀ a, a < 64 → ¬ nI a = -9 := by decide +kernel
    exact absurd h (h2 b (hb b rfl))
theorem fwV_some {o : Option Nat} (h : ¬ fwV o = -9) : ∃ b, o = some b := by
  cases o with
  | none => exact absurd rfl h
  | some b => exact ⟨b, rfl⟩
theorem bc_lt {k b : Nat} (hk : k < 64) (hb : b < 64) (h : ¬ bcF (nI b) ≤ bcF (nI k)) : cntN k 6 < cntN b 6 := by
  have h1 := cntN_le k 6
  have h2 := cntN_le b 6
  rw [bcF_eq hk, bcF_eq hb] at h
  exact knle (by omega) (by omega) h
theorem bc_ge {k b : Nat} (hk : k < 64) (hb : b < 64) (h : bcF (nI b) ≤ bcF (nI k)) : ¬ cntN k 6 < cntN b 6 := by
  have h1 := cntN_le k 6
  have h2 := cntN_le b 6
  rw [bcF_eq hk, bcF_eq hb] at h
  have h3 := kle (by omega) (by omega) h
  omega
theorem shl_S {S : Nat} (h : S ≤ 6) : (1 : Int32) <<< (nI S &&& 31) = nI (2 ^ S) := by
  have h2 : ∀ a, a < 7 → (1 : Int32) <<< (nI a &&& 31) = nI (2 ^ a) := by decide +kernel
  exact h2 S (by omega)
theorem pow_S {S : Nat} (h : S ≤ 6) : 2 ^ S ≤ 64 := by
  have h2 : ∀ a, a < 7 → 2 ^ a ≤ 64 := by decide +kernel
  exact h2 S (by omega)
def sfF (h : Nat → Nat) (R F : Nat) : Nat → Nat
  | 0 => 0
  | s + 1 => sfF h R F s + if h s * R < F then F else h s * R
theorem sfF_le (h : Nat → Nat) (R F : Nat) : ∀ S, (∀ s, s < S → h s ≤ 9) → F ≤ 9 * R → sfF h R F S ≤ S * (9 * R)
  | 0, _, _ => Nat.zero_le _
  | s + 1, hh, hF => by
    have h1 := sfF_le h R F s (fun j hj => hh j (by omega)) hF
    have h2 : h s * R ≤ 9 * R := Nat.mul_le_mul_right R (hh s (by omega))
    rw [sfF, Nat.succ_mul]
    split <;> omega
def sorF (h : Nat → Nat) (S N r : Nat) : Nat → Nat
  | 0 => 0
  | k + 1 => sfF h (S ^ k) (if N - (k + 1) < r then sorF h S N r k else 0) S
theorem sorF_le (h : Nat → Nat) (S N r : Nat) (hh : ∀ s, s < S → h s ≤ 9) : ∀ k, sorF h S N r k ≤ 9 * S ^ k
  | 0 => Nat.zero_le _
  | k + 1 => by
    have h1 := sorF_le h S N r hh k
    have h2 := sfF_le h (S ^ k) (if N - (k + 1) < r then sorF h S N r k else 0) S hh (by split <;> omega)
    rw [sorF, Nat.pow_succ]
    have e : S * (9 * S ^ k) = 9 * (S ^ k * S) := by rw [Nat.mul_left_comm, Nat.mul_comm S]
    omega
theorem pow6 {S k : Nat} (hS : S ≤ 6) (hk : k ≤ 4) : S ^ k ≤ 1296 := by
  have h2 : ∀ a, a < 7 → ∀ b, b < 5 → a ^ b ≤ 1296 := by decide +kernel
  exact h2 S (by omega) k (by omega)
theorem pow63 {S k : Nat} (hS : S ≤ 6) (hk : k ≤ 3) : S ^ k ≤ 216 := by
  have h2 : ∀ a, a < 7 → ∀ b, b < 4 → a ^ b ≤ 216 := by decide +kernel
  exact h2 S (by omega) k (by omega)

set_option maxHeartbeats 4000000 in
set_option maxRecDepth 20000 in
theorem c_fewest_loop (σ : Mem) (S M m told : Nat) (hV : VA σ S M) (hm4 : m < 4) (ht : told < 6) (d : Nat) (hd : 3 ≤ d) : ∀ (n : Nat) (k : Nat) (hm : 2 ^ S < k + n) (hk : k ≤ 2 ^ S), PAt (EM d (Pi (fun v σ2 => v = fwV (fwF (fun set => brP (σ 1 2) (σ 2 m) (fun s => σ (4 + m) s) S told set) told (2 ^ S)) ∧ σ2 = σ))) mX6_fewestAhead 6 [(4, .int (nI k)), (3, .int (fwV (fwF (fun set => brP (σ 1 2) (σ 2 m) (fun s => σ (4 + m) s) S told set) told k))), (0, .ref 1), (1, .int (nI m)), (2, .int (nI told))] [] σ := by
  obtain ⟨d, rfl⟩ : ∃ e, d = e + 1 := ⟨d - 1, by omega⟩
  intro n
  induction n with
  | zero => intro k hm hk; exact absurd hm (by omega)
  | succ n ih =>
    intro k hm hk
    obtain ⟨v1, v2, v3, v4⟩ := id hV
    have hp6 := pow_S v3
    have hlt : ∀ b, (fwF (fun set => brP (σ 1 2) (σ 2 m) (fun s => σ (4 + m) s) S told set) told k) = some b → b < k := fun b hb => fwF_lt k b hb
    refine tq_iload 0 (dget dX6_fewestAhead 4 rfl) rfl ?_
    refine tq_iconst (v := 1) (dget dX6_fewestAhead 5 rfl) rfl ?_
    refine tq_aload_n 2 (dget dX6_fewestAhead 6 rfl) rfl rfl ?_
    refine tq_getI (dget dX6_fewestAhead 7 rfl) fX6_27 rfl rfl ?_
    refine tq_ishl (dget dX6_fewestAhead 8 rfl) ?_
    refine tq_eqi (y := (nI (2 ^ S))) (by rw [v1]; exact shl_S v3) ?_
    refine tq_icmp_ge (tgt := 76) (dget dX6_fewestAhead 9 rfl) (by decide) (fun c_14 => ?_) (fun c_14 => ?_)
    · have g_14 := kle (by omega) (by omega) c_14
      have g_15 : k = 2 ^ S := by omega
      subst g_15
      refine tq_iload_n 1 (dget dX6_fewestAhead 40 rfl) rfl rfl ?_
      exact tq_iret rfl (dget dX6_fewestAhead 41 rfl) ⟨_, rfl, rfl, rfl⟩
    · have g_14 := knle (by omega) (by omega) c_14
      refine tq_iload_n 1 (dget dX6_fewestAhead 10 rfl) rfl rfl ?_
      refine tq_bipush (v := (-9)) (dget dX6_fewestAhead 11 rfl) rfl ?_
      refine tq_icmp_eq (tgt := 35) (dget dX6_fewestAhead 12 rfl) (by decide) (fun c_20 => ?_) (fun c_20 => ?_)
      · have g_20 := fwV_none (fun b hb => by have := hlt b hb; omega) c_20
        refine tq_iconst (v := 1) (dget dX6_fewestAhead 18 rfl) rfl ?_
        refine tq_goto (tgt := 40) (dget dX6_fewestAhead 19 rfl) (by decide) ?_
        refine tq_istore (ls2 := [(5, .int 1), (4, .int (nI k)), (3, .int (fwV (fwF (fun set => brP (σ 1 2) (σ 2 m) (fun s => σ (4 + m) s) S told set) told k))), (0, .ref 1), (1, .int (nI m)), (2, .int (nI told))]) (dget dX6_fewestAhead 21 rfl) (by decide) rfl ?_
        refine tq_iload 0 (dget dX6_fewestAhead 22 rfl) rfl ?_
        refine tq_if_eq (tgt := 70) (dget dX6_fewestAhead 23 rfl) (by decide) (fun c_44 => ?_) (fun c_44 => ?_)
        · exact absurd c_44 (by decide)
        · refine tq_iload 1 (dget dX6_fewestAhead 24 rfl) rfl ?_
          refine tq_iload_n 5 (dget dX6_fewestAhead 25 rfl) rfl rfl ?_
          refine tq_ishr (dget dX6_fewestAhead 26 rfl) ?_
          refine tq_iconst (v := 1) (dget dX6_fewestAhead 27 rfl) rfl ?_
          refine tq_iand (dget dX6_fewestAhead 28 rfl) ?_
          refine tq_eqi (y := (if bitN k told then 1 else 0)) (bit_and (by omega) ht) ?_
          refine tq_if_ne (tgt := 70) (dget dX6_fewestAhead 29 rfl) (by decide) (fun c_53 => ?_) (fun c_53 => ?_)
          · have g_53 : ¬ bitN k told = false := fun q => c_53 (by rw [q]; rfl)
            refine tq_iinc (v := (nI (k + 1))) (ls2 := [(4, .int (nI (k + 1))), (5, .int 1), (3, .int (fwV (fwF (fun set => brP (σ 1 2) (σ 2 m) (fun s => σ (4 + m) s) S told set) told k))), (0, .ref 1), (1, .int (nI m)), (2, .int (nI told))]) 1 (dget dX6_fewestAhead 38 rfl) rfl (nI_1 k) (by decide) rfl ?_
            refine tq_goto (tgt := 6) (dget dX6_fewestAhead 39 rfl) (by decide) ?_
            refine tq_sub [0, 2, 3, 4, 5] (ls' := [(4, .int (nI (k + 1))), (3, .int (fwV (fwF (fun set => brP (σ 1 2) (σ 2 m) (fun s => σ (4 + m) s) S told set) told k))), (0, .ref 1), (1, .int (nI m)), (2, .int (nI told))]) rfl ?_
            have hc : ¬ fwc (fun set => brP (σ 1 2) (σ 2 m) (fun s => σ (4 + m) s) S told set) told k (fwF (fun set => brP (σ 1 2) (σ 2 m) (fun s => σ (4 + m) s) S told set) told k) := fun hc => g_53 hc.2.1
            rw [show fwV (fwF (fun set => brP (σ 1 2) (σ 2 m) (fun s => σ (4 + m) s) S told set) told k) = fwV (fwF (fun set => brP (σ 1 2) (σ 2 m) (fun s => σ (4 + m) s) S told set) told (k + 1)) by rw [fwF_n hc]]
            exact ih (k + 1) (by omega) (by omega)
          · have g_53 : bitN k told = false := by simpa using c_53
            refine tq_aload_n 3 (dget dX6_fewestAhead 30 rfl) rfl rfl ?_
            refine tq_iload_n 4 (dget dX6_fewestAhead 31 rfl) rfl rfl ?_
            refine tq_iload_n 5 (dget dX6_fewestAhead 32 rfl) rfl rfl ?_
            refine tq_iload 1 (dget dX6_fewestAhead 33 rfl) rfl ?_
            refine mq_Vi (As := [.int (nI m), .int (nI told), .int (nI k)]) (rest := []) (dget dX6_fewestAhead 34 rfl) lX6_67 miX6_bringsTo (c_bringsTo σ S M m told k hV hm4 ht (by omega) d (by omega)) rfl rfl rfl rfl (Nat.le_of_ble_eq_true rfl) (Nat.le_of_ble_eq_true rfl) (fun r_61 σ_61 h_61 => ?_)
            obtain ⟨b_61, e_61⟩ := h_61
            obtain rfl := e_61.symm
            refine tq_if_eq (tgt := 70) (dget dX6_fewestAhead 35 rfl) (by decide) (fun c_64 => ?_) (fun c_64 => ?_)
            · refine tq_iinc (v := (nI (k + 1))) (ls2 := [(4, .int (nI (k + 1))), (5, .int 1), (3, .int (fwV (fwF (fun set => brP (σ 1 2) (σ 2 m) (fun s => σ (4 + m) s) S told set) told k))), (0, .ref 1), (1, .int (nI m)), (2, .int (nI told))]) 1 (dget dX6_fewestAhead 38 rfl) rfl (nI_1 k) (by decide) rfl ?_
              refine tq_goto (tgt := 6) (dget dX6_fewestAhead 39 rfl) (by decide) ?_
              refine tq_sub [0, 2, 3, 4, 5] (ls' := [(4, .int (nI (k + 1))), (3, .int (fwV (fwF (fun set => brP (σ 1 2) (σ 2 m) (fun s => σ (4 + m) s) S told set) told k))), (0, .ref 1), (1, .int (nI m)), (2, .int (nI told))]) rfl ?_
              have hc : ¬ fwc (fun set => brP (σ 1 2) (σ 2 m) (fun s => σ (4 + m) s) S told set) told k (fwF (fun set => brP (σ 1 2) (σ 2 m) (fun s => σ (4 + m) s) S told set) told k) := fun hc => b_61.f c_64 hc.2.2
              rw [show fwV (fwF (fun set => brP (σ 1 2) (σ 2 m) (fun s => σ (4 + m) s) S told set) told k) = fwV (fwF (fun set => brP (σ 1 2) (σ 2 m) (fun s => σ (4 + m) s) S told set) told (k + 1)) by rw [fwF_n hc]]
              exact ih (k + 1) (by omega) (by omega)
            · refine tq_iload 1 (dget dX6_fewestAhead 36 rfl) rfl ?_
              refine tq_istore_n (ls2 := [(3, .int (nI k)), (5, .int 1), (4, .int (nI k)), (0, .ref 1), (1, .int (nI m)), (2, .int (nI told))]) (dget dX6_fewestAhead 37 rfl) rfl (by decide) rfl ?_
              refine tq_iinc (v := (nI (k + 1))) (ls2 := [(4, .int (nI (k + 1))), (3, .int (nI k)), (5, .int 1), (0, .ref 1), (1, .int (nI m)), (2, .int (nI told))]) 2 (dget dX6_fewestAhead 38 rfl) rfl (nI_1 k) (by decide) rfl ?_
              refine tq_goto (tgt := 6) (dget dX6_fewestAhead 39 rfl) (by decide) ?_
              refine tq_sub [0, 1, 3, 4, 5] (ls' := [(4, .int (nI (k + 1))), (3, .int (nI k)), (0, .ref 1), (1, .int (nI m)), (2, .int (nI told))]) rfl ?_
              have hc : fwc (fun set => brP (σ 1 2) (σ 2 m) (fun s => σ (4 + m) s) S told set) told k (fwF (fun set => brP (σ 1 2) (σ 2 m) (fun s => σ (4 + m) s) S told set) told k) := ⟨fun b hb => absurd (g_20.symm.trans hb) (by simp), g_53, b_61.t c_64⟩
              rw [show nI k = fwV (fwF (fun set => brP (σ 1 2) (σ 2 m) (fun s => σ (4 + m) s) S told set) told (k + 1)) by rw [fwF_y hc]; rfl]
              exact ih (k + 1) (by omega) (by omega)
      · obtain ⟨b, g_20⟩ := fwV_some c_20
        have hb64 := hlt b g_20
        refine tq_iload 0 (dget dX6_fewestAhead 13 rfl) rfl ?_
        refine mq_Si (As := [.int (nI k)]) (rest := []) (dget dX6_fewestAhead 14 rfl) lX6_62 miJ6_bitCount_0f7a4 (c_bitCount σ (nI k) d (by omega)) rfl rfl (Nat.le_of_ble_eq_true rfl) (Nat.le_of_ble_eq_true rfl) (fun r_25 σ_25 h_25 => ?_)
        obtain ⟨a_25, e_25⟩ := h_25
        obtain rfl := a_25.symm
        obtain rfl := e_25.symm
        refine tq_iload_n 1 (dget dX6_fewestAhead 15 rfl) rfl rfl ?_
        refine mq_Si (As := [.int (fwV (fwF (fun set => brP (σ 1 2) (σ 2 m) (fun s => σ (4 + m) s) S told set) told k))]) (rest := [.int (bcF (nI k))]) (dget dX6_fewestAhead 16 rfl) lX6_62 miJ6_bitCount_0f7a4 (c_bitCount σ (fwV (fwF (fun set => brP (σ 1 2) (σ 2 m) (fun s => σ (4 + m) s) S told set) told k)) d (by omega)) rfl rfl (Nat.le_of_ble_eq_true rfl) (Nat.le_of_ble_eq_true rfl) (fun r_29 σ_29 h_29 => ?_)
        obtain ⟨a_29, e_29⟩ := h_29
        obtain rfl := a_29.symm
        obtain rfl := e_29.symm
        refine tq_icmp_ge (tgt := 39) (dget dX6_fewestAhead 17 rfl) (by decide) (fun c_32 => ?_) (fun c_32 => ?_)
        · rw [g_20] at c_32
          have g_32 := bc_ge (k := k) (b := b) (by omega) (by omega) c_32
          refine tq_iconst (v := 0) (dget dX6_fewestAhead 20 rfl) rfl ?_
          refine tq_istore (ls2 := [(5, .int 0), (4, .int (nI k)), (3, .int (fwV (fwF (fun set => brP (σ 1 2) (σ 2 m) (fun s => σ (4 + m) s) S told set) told k))), (0, .ref 1), (1, .int (nI m)), (2, .int (nI told))]) (dget dX6_fewestAhead 21 rfl) (by decide) rfl ?_
          refine tq_iload 0 (dget dX6_fewestAhead 22 rfl) rfl ?_
          refine tq_if_eq (tgt := 70) (dget dX6_fewestAhead 23 rfl) (by decide) (fun c_44 => ?_) (fun c_44 => ?_)
          · refine tq_iinc (v := (nI (k + 1))) (ls2 := [(4, .int (nI (k + 1))), (5, .int 0), (3, .int (fwV (fwF (fun set => brP (σ 1 2) (σ 2 m) (fun s => σ (4 + m) s) S told set) told k))), (0, .ref 1), (1, .int (nI m)), (2, .int (nI told))]) 1 (dget dX6_fewestAhead 38 rfl) rfl (nI_1 k) (by decide) rfl ?_
            refine tq_goto (tgt := 6) (dget dX6_fewestAhead 39 rfl) (by decide) ?_
            refine tq_sub [0, 2, 3, 4, 5] (ls' := [(4, .int (nI (k + 1))), (3, .int (fwV (fwF (fun set => brP (σ 1 2) (σ 2 m) (fun s => σ (4 + m) s) S told set) told k))), (0, .ref 1), (1, .int (nI m)), (2, .int (nI told))]) rfl ?_
            have hc : ¬ fwc (fun set => brP (σ 1 2) (σ 2 m) (fun s => σ (4 + m) s) S told set) told k (fwF (fun set => brP (σ 1 2) (σ 2 m) (fun s => σ (4 + m) s) S told set) told k) := fun hc => g_32 (hc.1 _ g_20)
            rw [show fwV (fwF (fun set => brP (σ 1 2) (σ 2 m) (fun s => σ (4 + m) s) S told set) told k) = fwV (fwF (fun set => brP (σ 1 2) (σ 2 m) (fun s => σ (4 + m) s) S told set) told (k + 1)) by rw [fwF_n hc]]
            exact ih (k + 1) (by omega) (by omega)
          · exact absurd c_44 (by decide)
        · rw [g_20] at c_32
          have g_32 := bc_lt (k := k) (b := b) (by omega) (by omega) c_32
          refine tq_iconst (v := 1) (dget dX6_fewestAhead 18 rfl) rfl ?_
          refine tq_goto (tgt := 40) (dget dX6_fewestAhead 19 rfl) (by decide) ?_
          refine tq_istore (ls2 := [(5, .int 1), (4, .int (nI k)), (3, .int (fwV (fwF (fun set => brP (σ 1 2) (σ 2 m) (fun s => σ (4 + m) s) S told set) told k))), (0, .ref 1), (1, .int (nI m)), (2, .int (nI told))]) (dget dX6_fewestAhead 21 rfl) (by decide) rfl ?_
          refine tq_iload 0 (dget dX6_fewestAhead 22 rfl) rfl ?_
          refine tq_if_eq (tgt := 70) (dget dX6_fewestAhead 23 rfl) (by decide) (fun c_44 => ?_) (fun c_44 => ?_)
          · exact absurd c_44 (by decide)
          · refine tq_iload 1 (dget dX6_fewestAhead 24 rfl) rfl ?_
            refine tq_iload_n 5 (dget dX6_fewestAhead 25 rfl) rfl rfl ?_
            refine tq_ishr (dget dX6_fewestAhead 26 rfl) ?_
            refine tq_iconst (v := 1) (dget dX6_fewestAhead 27 rfl) rfl ?_
            refine tq_iand (dget dX6_fewestAhead 28 rfl) ?_
            refine tq_eqi (y := (if bitN k told then 1 else 0)) (bit_and (by omega) ht) ?_
            refine tq_if_ne (tgt := 70) (dget dX6_fewestAhead 29 rfl) (by decide) (fun c_53 => ?_) (fun c_53 => ?_)
            · have g_53 : ¬ bitN k told = false := fun q => c_53 (by rw [q]; rfl)
              refine tq_iinc (v := (nI (k + 1))) (ls2 := [(4, .int (nI (k + 1))), (5, .int 1), (3, .int (fwV (fwF (fun set => brP (σ 1 2) (σ 2 m) (fun s => σ (4 + m) s) S told set) told k))), (0, .ref 1), (1, .int (nI m)), (2, .int (nI told))]) 1 (dget dX6_fewestAhead 38 rfl) rfl (nI_1 k) (by decide) rfl ?_
              refine tq_goto (tgt := 6) (dget dX6_fewestAhead 39 rfl) (by decide) ?_
              refine tq_sub [0, 2, 3, 4, 5] (ls' := [(4, .int (nI (k + 1))), (3, .int (fwV (fwF (fun set => brP (σ 1 2) (σ 2 m) (fun s => σ (4 + m) s) S told set) told k))), (0, .ref 1), (1, .int (nI m)), (2, .int (nI told))]) rfl ?_
              have hc : ¬ fwc (fun set => brP (σ 1 2) (σ 2 m) (fun s => σ (4 + m) s) S told set) told k (fwF (fun set => brP (σ 1 2) (σ 2 m) (fun s => σ (4 + m) s) S told set) told k) := fun hc => g_53 hc.2.1
              rw [show fwV (fwF (fun set => brP (σ 1 2) (σ 2 m) (fun s => σ (4 + m) s) S told set) told k) = fwV (fwF (fun set => brP (σ 1 2) (σ 2 m) (fun s => σ (4 + m) s) S told set) told (k + 1)) by rw [fwF_n hc]]
              exact ih (k + 1) (by omega) (by omega)
            · have g_53 : bitN k told = false := by simpa using c_53
              refine tq_aload_n 3 (dget dX6_fewestAhead 30 rfl) rfl rfl ?_
              refine tq_iload_n 4 (dget dX6_fewestAhead 31 rfl) rfl rfl ?_
              refine tq_iload_n 5 (dget dX6_fewestAhead 32 rfl) rfl rfl ?_
              refine tq_iload 1 (dget dX6_fewestAhead 33 rfl) rfl ?_
              refine mq_Vi (As := [.int (nI m), .int (nI told), .int (nI k)]) (rest := []) (dget dX6_fewestAhead 34 rfl) lX6_67 miX6_bringsTo (c_bringsTo σ S M m told k hV hm4 ht (by omega) d (by omega)) rfl rfl rfl rfl (Nat.le_of_ble_eq_true rfl) (Nat.le_of_ble_eq_true rfl) (fun r_61 σ_61 h_61 => ?_)
              obtain ⟨b_61, e_61⟩ := h_61
              obtain rfl := e_61.symm
              refine tq_if_eq (tgt := 70) (dget dX6_fewestAhead 35 rfl) (by decide) (fun c_64 => ?_) (fun c_64 => ?_)
              · refine tq_iinc (v := (nI (k + 1))) (ls2 := [(4, .int (nI (k + 1))), (5, .int 1), (3, .int (fwV (fwF (fun set => brP (σ 1 2) (σ 2 m) (fun s => σ (4 + m) s) S told set) told k))), (0, .ref 1), (1, .int (nI m)), (2, .int (nI told))]) 1 (dget dX6_fewestAhead 38 rfl) rfl (nI_1 k) (by decide) rfl ?_
                refine tq_goto (tgt := 6) (dget dX6_fewestAhead 39 rfl) (by decide) ?_
                refine tq_sub [0, 2, 3, 4, 5] (ls' := [(4, .int (nI (k + 1))), (3, .int (fwV (fwF (fun set => brP (σ 1 2) (σ 2 m) (fun s => σ (4 + m) s) S told set) told k))), (0, .ref 1), (1, .int (nI m)), (2, .int (nI told))]) rfl ?_
                have hc : ¬ fwc (fun set => brP (σ 1 2) (σ 2 m) (fun s => σ (4 + m) s) S told set) told k (fwF (fun set => brP (σ 1 2) (σ 2 m) (fun s => σ (4 + m) s) S told set) told k) := fun hc => b_61.f c_64 hc.2.2
                rw [show fwV (fwF (fun set => brP (σ 1 2) (σ 2 m) (fun s => σ (4 + m) s) S told set) told k) = fwV (fwF (fun set => brP (σ 1 2) (σ 2 m) (fun s => σ (4 + m) s) S told set) told (k + 1)) by rw [fwF_n hc]]
                exact ih (k + 1) (by omega) (by omega)
              · refine tq_iload 1 (dget dX6_fewestAhead 36 rfl) rfl ?_
                refine tq_istore_n (ls2 := [(3, .int (nI k)), (5, .int 1), (4, .int (nI k)), (0, .ref 1), (1, .int (nI m)), (2, .int (nI told))]) (dget dX6_fewestAhead 37 rfl) rfl (by decide) rfl ?_
                refine tq_iinc (v := (nI (k + 1))) (ls2 := [(4, .int (nI (k + 1))), (3, .int (nI k)), (5, .int 1), (0, .ref 1), (1, .int (nI m)), (2, .int (nI told))]) 2 (dget dX6_fewestAhead 38 rfl) rfl (nI_1 k) (by decide) rfl ?_
                refine tq_goto (tgt := 6) (dget dX6_fewestAhead 39 rfl) (by decide) ?_
                refine tq_sub [0, 1, 3, 4, 5] (ls' := [(4, .int (nI (k + 1))), (3, .int (nI k)), (0, .ref 1), (1, .int (nI m)), (2, .int (nI told))]) rfl ?_
                have hc : fwc (fun set => brP (σ 1 2) (σ 2 m) (fun s => σ (4 + m) s) S told set) told k (fwF (fun set => brP (σ 1 2) (σ 2 m) (fun s => σ (4 + m) s) S told set) told k) := ⟨fun b2 hb2 => by cases g_20.symm.trans hb2; exact g_32, g_53, b_61.t c_64⟩
                rw [show nI k = fwV (fwF (fun set => brP (σ 1 2) (σ 2 m) (fun s => σ (4 + m) s) S told set) told (k + 1)) by rw [fwF_y hc]; rfl]
                exact ih (k + 1) (by omega) (by omega)
set_option maxHeartbeats 4000000 in
set_option maxRecDepth 20000 in
theorem c_fewestAhead (σ : Mem) (S M m told : Nat) (hV : VA σ S M) (hm4 : m < 4) (ht : told < 6) (d : Nat) (hd : 3 ≤ d) : PMet d mX6_fewestAhead [.ref 1, .int (nI m), .int (nI told)] σ (Pi (fun v σ2 => v = fwV (fwF (fun set => brP (σ 1 2) (σ 2 m) (fun s => σ (4 + m) s) S told set) told (2 ^ S)) ∧ σ2 = σ)) := by
  obtain ⟨d, rfl⟩ : ∃ e, d = e + 1 := ⟨d - 1, by omega⟩
  refine PMet.start (ls0 := [(0, .ref 1), (1, .int (nI m)), (2, .int (nI told))]) miX6_fewestAhead.1 (Nat.le_of_ble_eq_true rfl) rfl ?_
  refine tq_bipush (v := (-9)) (dget dX6_fewestAhead 0 rfl) rfl ?_
  refine tq_istore_n (ls2 := [(3, .int (-9)), (0, .ref 1), (1, .int (nI m)), (2, .int (nI told))]) (dget dX6_fewestAhead 1 rfl) rfl (by decide) rfl ?_
  refine tq_iconst (v := 0) (dget dX6_fewestAhead 2 rfl) rfl ?_
  refine tq_istore (ls2 := [(4, .int 0), (3, .int (-9)), (0, .ref 1), (1, .int (nI m)), (2, .int (nI told))]) (dget dX6_fewestAhead 3 rfl) (by decide) rfl ?_
  refine tq_sub [0, 1, 2, 3, 4] (ls' := [(4, .int 0), (3, .int (-9)), (0, .ref 1), (1, .int (nI m)), (2, .int (nI told))]) rfl ?_
  exact c_fewest_loop σ S M m told hV hm4 ht (d + 1) (by omega) (2 ^ S + 1) 0 (by omega) (Nat.zero_le _)
set_option maxHeartbeats 4000000 in
set_option maxRecDepth 20000 in
theorem c_rowsOf_loop (σ : Mem) (S M L : Nat) (hV : VA σ S M) (hL : L ≤ 4) (d : Nat) (hd : 0 ≤ d) : ∀ (n : Nat) (k : Nat) (hm : L < k + n) (hk : k ≤ L), PAt (EM d (Pi (fun v σ2 => v = nI (S ^ L) ∧ σ2 = σ))) mX6_rowsOf 4 [(3, .int (nI k)), (2, .int (nI (S ^ k))), (0, .ref 1), (1, .int (nI L))] [] σ := by
  intro n
  induction n with
  | zero => intro k hm hk; exact absurd hm (by omega)
  | succ n ih =>
    intro k hm hk
    refine tq_iload_n 0 (dget dX6_rowsOf 4 rfl) rfl rfl ?_
    refine tq_iload_n 3 (dget dX6_rowsOf 5 rfl) rfl rfl ?_
    refine tq_icmp_ge (tgt := 22) (dget dX6_rowsOf 6 rfl) (by decide) (fun c_6 => ?_) (fun c_6 => ?_)
    · have g_6 := kle (by omega) (by omega) c_6
      refine tq_iload_n 1 (dget dX6_rowsOf 14 rfl) rfl rfl ?_
      exact tq_iret rfl (dget dX6_rowsOf 15 rfl) ⟨_, rfl, by rw [show k = L by omega], rfl⟩
    · have g_6 := knle (by omega) (by omega) c_6
      refine tq_iload_n 1 (dget dX6_rowsOf 7 rfl) rfl rfl ?_
      refine tq_aload_n 2 (dget dX6_rowsOf 8 rfl) rfl rfl ?_
      refine tq_getI (dget dX6_rowsOf 9 rfl) fX6_27 rfl rfl ?_
      refine tq_imul (dget dX6_rowsOf 10 rfl) ?_
      refine tq_eqi (y := (nI (S ^ (k + 1)))) (by rw [hV.1, nI_mulN, Nat.pow_succ]) ?_
      refine tq_istore_n (ls2 := [(2, .int (nI (S ^ (k + 1)))), (3, .int (nI k)), (0, .ref 1), (1, .int (nI L))]) (dget dX6_rowsOf 11 rfl) rfl (by decide) rfl ?_
      refine tq_iinc (v := (nI (k + 1))) (ls2 := [(3, .int (nI (k + 1))), (2, .int (nI (S ^ (k + 1)))), (0, .ref 1), (1, .int (nI L))]) 1 (dget dX6_rowsOf 12 rfl) rfl (nI_1 k) (by decide) rfl ?_
      refine tq_goto (tgt := 4) (dget dX6_rowsOf 13 rfl) (by decide) ?_
      refine tq_sub [0, 1, 2, 3] (ls' := [(3, .int (nI (k + 1))), (2, .int (nI (S ^ (k + 1)))), (0, .ref 1), (1, .int (nI L))]) rfl ?_
      exact ih (k + 1) (by omega) (by omega)
set_option maxHeartbeats 4000000 in
set_option maxRecDepth 20000 in
theorem c_rowsOf (σ : Mem) (S M L : Nat) (hV : VA σ S M) (hL : L ≤ 4) (d : Nat) (hd : 0 ≤ d) : PMet d mX6_rowsOf [.ref 1, .int (nI L)] σ (Pi (fun v σ2 => v = nI (S ^ L) ∧ σ2 = σ)) := by
  refine PMet.start (ls0 := [(0, .ref 1), (1, .int (nI L))]) miX6_rowsOf.1 (Nat.le_of_ble_eq_true rfl) rfl ?_
  refine tq_iconst (v := 1) (dget dX6_rowsOf 0 rfl) rfl ?_
  refine tq_istore_n (ls2 := [(2, .int 1), (0, .ref 1), (1, .int (nI L))]) (dget dX6_rowsOf 1 rfl) rfl (by decide) rfl ?_
  refine tq_iconst (v := 0) (dget dX6_rowsOf 2 rfl) rfl ?_
  refine tq_istore_n (ls2 := [(3, .int 0), (2, .int 1), (0, .ref 1), (1, .int (nI L))]) (dget dX6_rowsOf 3 rfl) rfl (by decide) rfl ?_
  refine tq_sub [0, 1, 2, 3] (ls' := [(3, .int 0), (2, .int 1), (0, .ref 1), (1, .int (nI L))]) rfl ?_
  exact c_rowsOf_loop σ S M L hV hL d (by omega) (L + 1) 0 (by omega) (by omega)
set_option maxHeartbeats 4000000 in
set_option maxRecDepth 20000 in
theorem c_sumOfFirst_loop (σ : Mem) (S M m R F : Nat) (h : Nat → Nat) (hV : VA σ S M) (hm4 : m < 4) (hh : ∀ s, s < S → σ (4 + m) s = nI (h s) ∧ h s ≤ 9) (hR : R ≤ 216) (hF : F ≤ 2000) (d : Nat) (hd : 1 ≤ d) : ∀ (n : Nat) (k : Nat) (hm : S < k + n) (hk : k ≤ S), PAt (EM d (Pi (fun v σ2 => v = nI (sfF h R F S) ∧ σ2 = σ))) mX6_sumOfFirst 6 [(5, .int (nI k)), (4, .int (nI (sfF h R F k))), (0, .ref 1), (1, .int (nI m)), (2, .int (nI R)), (3, .int (nI F))] [] σ := by
  obtain ⟨d, rfl⟩ : ∃ e, d = e + 1 := ⟨d - 1, by omega⟩
  intro n
  induction n with
  | zero => intro k hm hk; exact absurd hm (by omega)
  | succ n ih =>
    intro k hm hk
    obtain ⟨v1, v2, v3, v4⟩ := id hV
    refine tq_iload 0 (dget dX6_sumOfFirst 4 rfl) rfl ?_
    refine tq_aload_n 2 (dget dX6_sumOfFirst 5 rfl) rfl rfl ?_
    refine tq_getI (dget dX6_sumOfFirst 6 rfl) fX6_27 rfl rfl ?_
    refine tq_icmp_ge (tgt := 41) (dget dX6_sumOfFirst 7 rfl) (by decide) (fun c_12 => ?_) (fun c_12 => ?_)
    · rw [v1] at c_12
      have g_12 := kle (by omega) (by omega) c_12
      refine tq_iload 1 (dget dX6_sumOfFirst 23 rfl) rfl ?_
      exact tq_iret rfl (dget dX6_sumOfFirst 24 rfl) ⟨_, rfl, by rw [show k = S by omega], rfl⟩
    · rw [v1] at c_12
      have g_12 := knle (by omega) (by omega) c_12
      refine tq_iload 1 (dget dX6_sumOfFirst 8 rfl) rfl ?_
      refine tq_aload_n 2 (dget dX6_sumOfFirst 9 rfl) rfl rfl ?_
      refine tq_getR (dget dX6_sumOfFirst 10 rfl) fX6_17 rfl rfl ?_
      refine tq_iload_n 3 (dget dX6_sumOfFirst 11 rfl) rfl rfl ?_
      refine tq_hers m (dget dX6_sumOfFirst 12 rfl) rfl (by omega) ?_
      refine tq_iload 0 (dget dX6_sumOfFirst 13 rfl) rfl ?_
      refine tq_ialdN k (dget dX6_sumOfFirst 14 rfl) (SH_hers (by omega)) (by decide) rfl (by omega) ?_
      refine tq_iload_n 4 (dget dX6_sumOfFirst 15 rfl) rfl rfl ?_
      refine tq_imul (dget dX6_sumOfFirst 16 rfl) ?_
      refine tq_eqi (y := (nI (h k * R))) (by rw [(hh k g_12).1, nI_mulN]) ?_
      refine tq_iload_n 5 (dget dX6_sumOfFirst 17 rfl) rfl rfl ?_
      refine tq_max (dget dX6_sumOfFirst 18 rfl) (tblG_2 128 rfl rfl) (tblG_2 129 rfl rfl) (tblG_1 12 rfl rfl) (tblG_2 130 rfl rfl) (by show 1 ≤ d + 1; omega) (by show _ ≤ 40 * (d + 1); have h0 : 16 ≤ 40 * (d + 1) := (by omega); exact Nat.le_trans (Nat.le_of_ble_eq_true rfl) h0) (Nat.le_refl _) (Nat.le_refl _) ?_
      refine tq_eqi (y := (nI (if h k * R < F then F else h k * R))) (by have h9 := Nat.mul_le_mul_right R (hh k g_12).2; by_cases q : h k * R < F <;> simp [q, nI_ltI (show h k * R < 2 ^ 31 by omega) (show F < 2 ^ 31 by omega)]) ?_
      refine tq_iadd (dget dX6_sumOfFirst 19 rfl) ?_
      refine tq_eqi (y := (nI (sfF h R F (k + 1)))) (by rw [nI_add]; rfl) ?_
      refine tq_istore (ls2 := [(4, .int (nI (sfF h R F (k + 1)))), (5, .int (nI k)), (0, .ref 1), (1, .int (nI m)), (2, .int (nI R)), (3, .int (nI F))]) (dget dX6_sumOfFirst 20 rfl) (by decide) rfl ?_
      refine tq_iinc (v := (nI (k + 1))) (ls2 := [(5, .int (nI (k + 1))), (4, .int (nI (sfF h R F (k + 1)))), (0, .ref 1), (1, .int (nI m)), (2, .int (nI R)), (3, .int (nI F))]) 1 (dget dX6_sumOfFirst 21 rfl) rfl (nI_1 k) (by decide) rfl ?_
      refine tq_goto (tgt := 6) (dget dX6_sumOfFirst 22 rfl) (by decide) ?_
      refine tq_sub [0, 1, 2, 3, 4, 5] (ls' := [(5, .int (nI (k + 1))), (4, .int (nI (sfF h R F (k + 1)))), (0, .ref 1), (1, .int (nI m)), (2, .int (nI R)), (3, .int (nI F))]) rfl ?_
      exact ih (k + 1) (by omega) (by omega)
set_option maxHeartbeats 4000000 in
set_option maxRecDepth 20000 in
theorem c_sumOfFirst (σ : Mem) (S M m R F : Nat) (h : Nat → Nat) (hV : VA σ S M) (hm4 : m < 4) (hh : ∀ s, s < S → σ (4 + m) s = nI (h s) ∧ h s ≤ 9) (hR : R ≤ 216) (hF : F ≤ 2000) (d : Nat) (hd : 1 ≤ d) : PMet d mX6_sumOfFirst [.ref 1, .int (nI m), .int (nI R), .int (nI F)] σ (Pi (fun v σ2 => v = nI (sfF h R F S) ∧ σ2 = σ)) := by
  obtain ⟨d, rfl⟩ : ∃ e, d = e + 1 := ⟨d - 1, by omega⟩
  refine PMet.start (ls0 := [(0, .ref 1), (1, .int (nI m)), (2, .int (nI R)), (3, .int (nI F))]) miX6_sumOfFirst.1 (Nat.le_of_ble_eq_true rfl) rfl ?_
  refine tq_iconst (v := 0) (dget dX6_sumOfFirst 0 rfl) rfl ?_
  refine tq_istore (ls2 := [(4, .int 0), (0, .ref 1), (1, .int (nI m)), (2, .int (nI R)), (3, .int (nI F))]) (dget dX6_sumOfFirst 1 rfl) (by decide) rfl ?_
  refine tq_iconst (v := 0) (dget dX6_sumOfFirst 2 rfl) rfl ?_
  refine tq_istore (ls2 := [(5, .int 0), (4, .int 0), (0, .ref 1), (1, .int (nI m)), (2, .int (nI R)), (3, .int (nI F))]) (dget dX6_sumOfFirst 3 rfl) (by decide) rfl ?_
  refine tq_sub [0, 1, 2, 3, 4, 5] (ls' := [(5, .int 0), (4, .int 0), (0, .ref 1), (1, .int (nI m)), (2, .int (nI R)), (3, .int (nI F))]) rfl ?_
  exact c_sumOfFirst_loop σ S M m R F h hV hm4 hh hR hF (d + 1) (by omega) (S + 1) 0 (by omega) (by omega)
set_option maxHeartbeats 4000000 in
set_option maxRecDepth 20000 in
theorem c_sumOverRows_loop (σ : Mem) (S M m L r : Nat) (h : Nat → Nat) (hV : VA σ S M) (hm4 : m < 4) (hh : ∀ s, s < S → σ (4 + m) s = nI (h s) ∧ h s ≤ 9) (hL : L ≤ 4) (hr : r ≤ 3) (d : Nat) (hd : 2 ≤ d) : ∀ (n : Nat) (k : Nat) (hm : L < k + n) (hk : k ≤ L), PAt (EM d (Pi (fun v σ2 => v = nI (sorF h S L r L) ∧ σ2 = σ))) mX6_sumOverRows 6 [(5, .int (nI (k + 1))), (4, .int (nI (sorF h S L r k))), (0, .ref 1), (1, .int (nI m)), (2, .int (nI L)), (3, .int (nI r))] [] σ := by
  obtain ⟨d, rfl⟩ : ∃ e, d = e + 1 := ⟨d - 1, by omega⟩
  intro n
  induction n with
  | zero => intro k hm hk; exact absurd hm (by omega)
  | succ n ih =>
    intro k hm hk
    obtain ⟨v1, v2, v3, v4⟩ := id hV
    have hs9 := sorF_le h S L r (fun s hs => (hh s hs).2) k
    refine tq_iload 0 (dget dX6_sumOverRows 4 rfl) rfl ?_
    refine tq_iload_n 4 (dget dX6_sumOverRows 5 rfl) rfl rfl ?_
    refine tq_icmp_gt (tgt := 51) (dget dX6_sumOverRows 6 rfl) (by decide) (fun c_9 => ?_) (fun c_9 => ?_)
    · have g_9 := klt (by omega) (by omega) c_9
      refine tq_iload 1 (dget dX6_sumOverRows 28 rfl) rfl ?_
      exact tq_iret rfl (dget dX6_sumOverRows 29 rfl) ⟨_, rfl, by rw [show k = L by omega], rfl⟩
    · have g_9 := knlt (by omega) (by omega) c_9
      have hp9 := pow63 (k := k) v3 (by omega)
      refine tq_iload_n 5 (dget dX6_sumOverRows 7 rfl) rfl rfl ?_
      refine tq_iload_n 4 (dget dX6_sumOverRows 8 rfl) rfl rfl ?_
      refine tq_iload 0 (dget dX6_sumOverRows 9 rfl) rfl ?_
      refine tq_isub (dget dX6_sumOverRows 10 rfl) ?_
      refine tq_eqi (y := (nI (L - (k + 1)))) (nI_subN (by omega)) ?_
      refine tq_icmp_le (tgt := 25) (dget dX6_sumOverRows 11 rfl) (by decide) (fun c_17 => ?_) (fun c_17 => ?_)
      · have g_17 : ¬ L - (k + 1) < r := Nat.not_lt.mpr (kle (by omega) (by omega) c_17)
        refine tq_iconst (v := 0) (dget dX6_sumOverRows 14 rfl) rfl ?_
        refine tq_istore (ls2 := [(6, .int 0), (5, .int (nI (k + 1))), (4, .int (nI (sorF h S L r k))), (0, .ref 1), (1, .int (nI m)), (2, .int (nI L)), (3, .int (nI r))]) (dget dX6_sumOverRows 15 rfl) (by decide) rfl ?_
        refine tq_aload_n 3 (dget dX6_sumOverRows 16 rfl) rfl rfl ?_
        refine tq_iload_n 4 (dget dX6_sumOverRows 17 rfl) rfl rfl ?_
        refine tq_aload_n 3 (dget dX6_sumOverRows 18 rfl) rfl rfl ?_
        refine tq_iload 1 (dget dX6_sumOverRows 19 rfl) rfl ?_
        refine tq_iconst (v := 1) (dget dX6_sumOverRows 20 rfl) rfl ?_
        refine tq_isub (dget dX6_sumOverRows 21 rfl) ?_
        refine tq_eqi (y := (nI k)) (nI_pred k) ?_
        refine mq_Vi (As := [.int (nI k)]) (rest := [.int (nI m), .ref 1]) (dget dX6_sumOverRows 22 rfl) lX6_71 miX6_rowsOf (c_rowsOf σ S M k hV (by omega) d (by omega)) rfl rfl rfl rfl (Nat.le_of_ble_eq_true rfl) (Nat.le_of_ble_eq_true rfl) (fun r_35 σ_35 h_35 => ?_)
        obtain ⟨a_35, e_35⟩ := h_35
        obtain rfl := a_35.symm
        obtain rfl := e_35.symm
        refine tq_iload 0 (dget dX6_sumOverRows 23 rfl) rfl ?_
        refine mq_Vi (As := [.int (nI m), .int (nI (S ^ k)), .int 0]) (rest := []) (dget dX6_sumOverRows 24 rfl) lX6_74 miX6_sumOfFirst (c_sumOfFirst σ S M m (S ^ k) 0 h hV hm4 hh (pow63 v3 (by omega)) (by omega) d (by omega)) rfl rfl rfl rfl (Nat.le_of_ble_eq_true rfl) (Nat.le_of_ble_eq_true rfl) (fun r_40 σ_40 h_40 => ?_)
        obtain ⟨a_40, e_40⟩ := h_40
        obtain rfl := a_40.symm
        obtain rfl := e_40.symm
        rw [show sfF h (S ^ k) 0 S = sorF h S L r (k + 1) by rw [sorF, if_neg g_17]]
        refine tq_istore (ls2 := [(4, .int (nI (sorF h S L r (k + 1)))), (6, .int 0), (5, .int (nI (k + 1))), (0, .ref 1), (1, .int (nI m)), (2, .int (nI L)), (3, .int (nI r))]) (dget dX6_sumOverRows 25 rfl) (by decide) rfl ?_
        refine tq_iinc (v := (nI (k + 1 + 1))) (ls2 := [(5, .int (nI (k + 1 + 1))), (4, .int (nI (sorF h S L r (k + 1)))), (6, .int 0), (0, .ref 1), (1, .int (nI m)), (2, .int (nI L)), (3, .int (nI r))]) 2 (dget dX6_sumOverRows 26 rfl) rfl (nI_1 _) (by decide) rfl ?_
        refine tq_goto (tgt := 6) (dget dX6_sumOverRows 27 rfl) (by decide) ?_
        refine tq_sub [0, 1, 3, 4, 5, 6] (ls' := [(5, .int (nI (k + 1 + 1))), (4, .int (nI (sorF h S L r (k + 1)))), (0, .ref 1), (1, .int (nI m)), (2, .int (nI L)), (3, .int (nI r))]) rfl ?_
        exact ih (k + 1) (by omega) (by omega)
      · have g_17 := knle (by omega) (by omega) c_17
        refine tq_iload 1 (dget dX6_sumOverRows 12 rfl) rfl ?_
        refine tq_goto (tgt := 26) (dget dX6_sumOverRows 13 rfl) (by decide) ?_
        refine tq_istore (ls2 := [(6, .int (nI (sorF h S L r k))), (5, .int (nI (k + 1))), (4, .int (nI (sorF h S L r k))), (0, .ref 1), (1, .int (nI m)), (2, .int (nI L)), (3, .int (nI r))]) (dget dX6_sumOverRows 15 rfl) (by decide) rfl ?_
        refine tq_aload_n 3 (dget dX6_sumOverRows 16 rfl) rfl rfl ?_
        refine tq_iload_n 4 (dget dX6_sumOverRows 17 rfl) rfl rfl ?_
        refine tq_aload_n 3 (dget dX6_sumOverRows 18 rfl) rfl rfl ?_
        refine tq_iload 1 (dget dX6_sumOverRows 19 rfl) rfl ?_
        refine tq_iconst (v := 1) (dget dX6_sumOverRows 20 rfl) rfl ?_
        refine tq_isub (dget dX6_sumOverRows 21 rfl) ?_
        refine tq_eqi (y := (nI k)) (nI_pred k) ?_
        refine mq_Vi (As := [.int (nI k)]) (rest := [.int (nI m), .ref 1]) (dget dX6_sumOverRows 22 rfl) lX6_71 miX6_rowsOf (c_rowsOf σ S M k hV (by omega) d (by omega)) rfl rfl rfl rfl (Nat.le_of_ble_eq_true rfl) (Nat.le_of_ble_eq_true rfl) (fun r_35 σ_35 h_35 => ?_)
        obtain ⟨a_35, e_35⟩ := h_35
        obtain rfl := a_35.symm
        obtain rfl := e_35.symm
        refine tq_iload 0 (dget dX6_sumOverRows 23 rfl) rfl ?_
        refine mq_Vi (As := [.int (nI m), .int (nI (S ^ k)), .int (nI (sorF h S L r k))]) (rest := []) (dget dX6_sumOverRows 24 rfl) lX6_74 miX6_sumOfFirst (c_sumOfFirst σ S M m (S ^ k) (sorF h S L r k) h hV hm4 hh (pow63 v3 (by omega)) (by omega) d (by omega)) rfl rfl rfl rfl (Nat.le_of_ble_eq_true rfl) (Nat.le_of_ble_eq_true rfl) (fun r_40 σ_40 h_40 => ?_)
        obtain ⟨a_40, e_40⟩ := h_40
        obtain rfl := a_40.symm
        obtain rfl := e_40.symm
        rw [show sfF h (S ^ k) (sorF h S L r k) S = sorF h S L r (k + 1) by rw [sorF, if_pos g_17]]
        refine tq_istore (ls2 := [(4, .int (nI (sorF h S L r (k + 1)))), (6, .int (nI (sorF h S L r k))), (5, .int (nI (k + 1))), (0, .ref 1), (1, .int (nI m)), (2, .int (nI L)), (3, .int (nI r))]) (dget dX6_sumOverRows 25 rfl) (by decide) rfl ?_
        refine tq_iinc (v := (nI (k + 1 + 1))) (ls2 := [(5, .int (nI (k + 1 + 1))), (4, .int (nI (sorF h S L r (k + 1)))), (6, .int (nI (sorF h S L r k))), (0, .ref 1), (1, .int (nI m)), (2, .int (nI L)), (3, .int (nI r))]) 2 (dget dX6_sumOverRows 26 rfl) rfl (nI_1 _) (by decide) rfl ?_
        refine tq_goto (tgt := 6) (dget dX6_sumOverRows 27 rfl) (by decide) ?_
        refine tq_sub [0, 1, 3, 4, 5, 6] (ls' := [(5, .int (nI (k + 1 + 1))), (4, .int (nI (sorF h S L r (k + 1)))), (0, .ref 1), (1, .int (nI m)), (2, .int (nI L)), (3, .int (nI r))]) rfl ?_
        exact ih (k + 1) (by omega) (by omega)
set_option maxHeartbeats 4000000 in
set_option maxRecDepth 20000 in
theorem c_sumOverRows (σ : Mem) (S M m L r : Nat) (h : Nat → Nat) (hV : VA σ S M) (hm4 : m < 4) (hh : ∀ s, s < S → σ (4 + m) s = nI (h s) ∧ h s ≤ 9) (hL : L ≤ 4) (hr : r ≤ 3) (d : Nat) (hd : 2 ≤ d) : PMet d mX6_sumOverRows [.ref 1, .int (nI m), .int (nI L), .int (nI r)] σ (Pi (fun v σ2 => v = nI (sorF h S L r L) ∧ σ2 = σ)) := by
  obtain ⟨d, rfl⟩ : ∃ e, d = e + 1 := ⟨d - 1, by omega⟩
  refine PMet.start (ls0 := [(0, .ref 1), (1, .int (nI m)), (2, .int (nI L)), (3, .int (nI r))]) miX6_sumOverRows.1 (Nat.le_of_ble_eq_true rfl) rfl ?_
  refine tq_iconst (v := 0) (dget dX6_sumOverRows 0 rfl) rfl ?_
  refine tq_istore (ls2 := [(4, .int 0), (0, .ref 1), (1, .int (nI m)), (2, .int (nI L)), (3, .int (nI r))]) (dget dX6_sumOverRows 1 rfl) (by decide) rfl ?_
  refine tq_iconst (v := 1) (dget dX6_sumOverRows 2 rfl) rfl ?_
  refine tq_istore (ls2 := [(5, .int 1), (4, .int 0), (0, .ref 1), (1, .int (nI m)), (2, .int (nI L)), (3, .int (nI r))]) (dget dX6_sumOverRows 3 rfl) (by decide) rfl ?_
  refine tq_sub [0, 1, 2, 3, 4, 5] (ls' := [(5, .int 1), (4, .int 0), (0, .ref 1), (1, .int (nI m)), (2, .int (nI L)), (3, .int (nI r))]) rfl ?_
  exact c_sumOverRows_loop σ S M m L r h hV hm4 hh hL hr (d + 1) (by omega) (L + 1) 0 (by omega) (by omega)
end
section
/-! ===== texts: what fits at a place; the first place that doesn't ===== -/
def kdF (c : Int32) : Int32 := if c = 104 then 2 else if c = 109 then 0 else if c = 112 then 1 else -9
def hdP (p : Nat) (c : Int32) : Prop := if p = 0 then c = 121 else if p = 1 then 49 ≤ c ∧ c < 55 else 49 ≤ c ∧ c < 53
def partP (b : Prop) (i : Nat) (c : Int32) : Prop := (i = 0 ∧ c = 59) ∨ (¬ i = 0 ∧ b ∧ i = 1 ∧ ¬ kdF c = -9) ∨ (¬ i = 0 ∧ ¬ (b ∧ i = 1) ∧ 48 ≤ c ∧ c ≤ 57)
def fitB (S M q : Nat) (c : Int32) : Prop := (q < 3 + M * (S + 2) ∧ partP True ((q - 3) % (S + 2)) c) ∨ (¬ q < 3 + M * (S + 2) ∧ partP False ((q - 3 - M * (S + 2)) % (M + 1)) c)
def endT (S M : Nat) : Nat := 3 + M * (S + 2) + S * (M + 1)
def tpos (S M part i pl : Nat) : Prop := (part < M ∧ pl = 3 + part * (S + 2) + i ∧ i < S + 2) ∨ (M ≤ part ∧ pl = 3 + M * (S + 2) + (part - M) * (M + 1) + i ∧ i < M + 1)
theorem tpos_fit1 {S M part i pl : Nat} {c : Int32} (h : tpos S M part i pl) (hp : part < M) : fitB S M pl c ↔ partP True i c := by
  rcases h with ⟨_, h1, h2⟩ | ⟨h0, _⟩
  · have h3 : (part + 1) * (S + 2) ≤ M * (S + 2) := Nat.mul_le_mul_right _ hp
    rw [Nat.succ_mul] at h3
    have h4 : pl < 3 + M * (S + 2) := by omega
    have h5 : (pl - 3) % (S + 2) = i := by
      rw [show pl - 3 = part * (S + 2) + i by omega, Nat.mul_comm, Nat.mul_add_mod]
      exact Nat.mod_eq_of_lt h2
    unfold fitB
    rw [h5]
    constructor
    · rintro (⟨_, q⟩ | ⟨q, _⟩)
      · exact q
      · exact absurd h4 q
    · intro q
      exact Or.inl ⟨h4, q⟩
  · omega
theorem tpos_fit2 {S M part i pl : Nat} {c : Int32} (h : tpos S M part i pl) (hp : M ≤ part) : fitB S M pl c ↔ partP False i c := by
  rcases h with ⟨h0, _⟩ | ⟨_, h1, h2⟩
  · omega
  · have h4 : ¬ pl < 3 + M * (S + 2) := by omega
    have h5 : (pl - 3 - M * (S + 2)) % (M + 1) = i := by
      rw [show pl - 3 - M * (S + 2) = (part - M) * (M + 1) + i by omega, Nat.mul_comm, Nat.mul_add_mod]
      exact Nat.mod_eq_of_lt h2
    unfold fitB
    rw [h5]
    constructor
    · rintro (⟨q, _⟩ | ⟨_, q⟩)
      · exact absurd q h4
      · exact q
    · intro q
      exact Or.inr ⟨h4, q⟩
theorem tpos_n1 {S M part i pl : Nat} (h : tpos S M part i pl) (hp : part < M) (hi : ¬ i + 1 = S + 2) : tpos S M part (i + 1) (pl + 1) := by
  rcases h with ⟨_, h1, h2⟩ | ⟨h0, _⟩
  · exact Or.inl ⟨hp, by omega, by omega⟩
  · omega
theorem tpos_w1 {S M part i pl : Nat} (h : tpos S M part i pl) (hp : part < M) (hi : i + 1 = S + 2) : tpos S M (part + 1) 0 (pl + 1) := by
  rcases h with ⟨_, h1, h2⟩ | ⟨h0, _⟩
  · by_cases q : part + 1 < M
    · exact Or.inl ⟨q, by rw [Nat.succ_mul]; omega, by omega⟩
    · have e : part + 1 = M := by omega
      refine Or.inr ⟨by omega, ?_, by omega⟩
      rw [← e, Nat.succ_mul, Nat.sub_self, Nat.zero_mul]
      omega
  · omega
theorem tpos_n2 {S M part i pl : Nat} (h : tpos S M part i pl) (hp : M ≤ part) (hi : ¬ i + 1 = M + 1) : tpos S M part (i + 1) (pl + 1) := by
  rcases h with ⟨h0, _⟩ | ⟨_, h1, h2⟩
  · omega
  · exact Or.inr ⟨hp, by omega, by omega⟩
theorem tpos_w2 {S M part i pl : Nat} (h : tpos S M part i pl) (hp : M ≤ part) (hi : i + 1 = M + 1) : tpos S M (part + 1) 0 (pl + 1) := by
  rcases h with ⟨h0, _⟩ | ⟨_, h1, h2⟩
  · omega
  · refine Or.inr ⟨by omega, ?_, by omega⟩
    rw [show part + 1 - M = (part - M) + 1 by omega, Nat.succ_mul]
    omega
theorem endT_le {S M : Nat} (hS : S ≤ 6) (hM : M ≤ 4) : endT S M ≤ 65 := by
  have h : ∀ a, a < 7 → ∀ b, b < 5 → endT a b ≤ 65 := by decide +kernel
  exact h S (by omega) M (by omega)
/-- what behind the head is answered -/
def tbP (S M : Nat) (c : Nat → Int32) (N : Nat) (v : Int32) : Prop := (v = -9 ∧ N = endT S M ∧ ∀ q, 3 ≤ q → q < endT S M → fitB S M q (c q)) ∨ (∃ p, v = nI p ∧ 3 ≤ p ∧ p ≤ endT S M ∧ (∀ q, 3 ≤ q → q < p → q < N ∧ fitB S M q (c q)) ∧ ((p < endT S M ∧ ¬ (p < N ∧ fitB S M p (c p))) ∨ (p = endT S M ∧ ¬ N = endT S M)))

set_option maxHeartbeats 4000000 in
set_option maxRecDepth 20000 in
theorem c_kindOf (σ : Mem) (c : Int32) (d : Nat) (hd : 0 ≤ d) : PMet d mX5_kindOf [.int c] σ (Pi (fun v σ2 => v = kdF c ∧ σ2 = σ)) := by
  refine PMet.start (ls0 := [(0, .int c)]) miX5_kindOf.1 (Nat.le_of_ble_eq_true rfl) rfl ?_
  refine tq_iload_n 0 (dget dX5_kindOf 0 rfl) rfl rfl ?_
  by_cases s_1_104 : c = 104
  · refine tq_lookup (tgt := 40) (off := 39) (dget dX5_kindOf 1 rfl) (by decide) (by rw [s_1_104]; decide) (by decide) ?_
    refine tq_iconst (v := 2) (dget dX5_kindOf 6 rfl) rfl ?_
    exact tq_iret rfl (dget dX5_kindOf 7 rfl) ⟨_, rfl, by simp [kdF, s_1_104], rfl⟩
  by_cases s_1_109 : c = 109
  · refine tq_lookup (tgt := 36) (off := 35) (dget dX5_kindOf 1 rfl) (by decide) (by rw [s_1_109]; decide) (by decide) ?_
    refine tq_iconst (v := 0) (dget dX5_kindOf 2 rfl) rfl ?_
    exact tq_iret rfl (dget dX5_kindOf 3 rfl) ⟨_, rfl, by simp [kdF, s_1_109, s_1_104], rfl⟩
  by_cases s_1_112 : c = 112
  · refine tq_lookup (tgt := 38) (off := 37) (dget dX5_kindOf 1 rfl) (by decide) (by rw [s_1_112]; decide) (by decide) ?_
    refine tq_iconst (v := 1) (dget dX5_kindOf 4 rfl) rfl ?_
    exact tq_iret rfl (dget dX5_kindOf 5 rfl) ⟨_, rfl, by simp [kdF, s_1_112, s_1_104, s_1_109], rfl⟩
  refine tq_lookup (tgt := 42) (off := 41) (dget dX5_kindOf 1 rfl) (by decide) ((lv_osw s_1_104 (by decide)).trans ((lv_osw s_1_109 (by decide)).trans ((lv_osw s_1_112 (by decide)).trans (rfl)))) (by decide) ?_
  refine tq_bipush (v := (-9)) (dget dX5_kindOf 8 rfl) rfl ?_
  exact tq_iret rfl (dget dX5_kindOf 9 rfl) ⟨_, rfl, by simp [kdF, s_1_104, s_1_109, s_1_112], rfl⟩
set_option maxHeartbeats 4000000 in
set_option maxRecDepth 20000 in
theorem c_maidPlace (σ : Mem) (S m : Nat) (d : Nat) (hd : 0 ≤ d) : PMet d mX5_maidPlace [.int (nI S), .int (nI m)] σ (Pi (fun v σ2 => v = nI (3 + m * (S + 2)) ∧ σ2 = σ)) := by
  refine PMet.start (ls0 := [(0, .int (nI S)), (1, .int (nI m))]) miX5_maidPlace.1 (Nat.le_of_ble_eq_true rfl) rfl ?_
  refine tq_iconst (v := 3) (dget dX5_maidPlace 0 rfl) rfl ?_
  refine tq_iload_n 1 (dget dX5_maidPlace 1 rfl) rfl rfl ?_
  refine tq_iload_n 0 (dget dX5_maidPlace 2 rfl) rfl rfl ?_
  refine tq_iconst (v := 2) (dget dX5_maidPlace 3 rfl) rfl ?_
  refine tq_iadd (dget dX5_maidPlace 4 rfl) ?_
  refine tq_imul (dget dX5_maidPlace 5 rfl) ?_
  refine tq_iadd (dget dX5_maidPlace 6 rfl) ?_
  exact tq_iret rfl (dget dX5_maidPlace 7 rfl) ⟨_, rfl, by rw [show (2 : Int32) = nI 2 from rfl, nI_add, nI_mulN, show (3 : Int32) = nI 3 from rfl, nI_add], rfl⟩
set_option maxHeartbeats 4000000 in
set_option maxRecDepth 20000 in
theorem c_suitorPlace (σ : Mem) (S M s : Nat) (d : Nat) (hd : 1 ≤ d) : PMet d mX5_suitorPlace [.int (nI S), .int (nI M), .int (nI s)] σ (Pi (fun v σ2 => v = nI (3 + M * (S + 2) + s * (M + 1)) ∧ σ2 = σ)) := by
  obtain ⟨d, rfl⟩ : ∃ e, d = e + 1 := ⟨d - 1, by omega⟩
  refine PMet.start (ls0 := [(0, .int (nI S)), (1, .int (nI M)), (2, .int (nI s))]) miX5_suitorPlace.1 (Nat.le_of_ble_eq_true rfl) rfl ?_
  refine tq_iload_n 0 (dget dX5_suitorPlace 0 rfl) rfl rfl ?_
  refine tq_iload_n 1 (dget dX5_suitorPlace 1 rfl) rfl rfl ?_
  refine mq_Si (As := [.int (nI S), .int (nI M)]) (rest := []) (dget dX5_suitorPlace 2 rfl) lX5_31 miX5_maidPlace (c_maidPlace σ S M d (by omega)) rfl rfl (Nat.le_of_ble_eq_true rfl) (Nat.le_of_ble_eq_true rfl) (fun r_2 σ_2 h_2 => ?_)
  obtain ⟨a_2, e_2⟩ := h_2
  obtain rfl := a_2.symm
  obtain rfl := e_2.symm
  refine tq_iload_n 2 (dget dX5_suitorPlace 3 rfl) rfl rfl ?_
  refine tq_iload_n 1 (dget dX5_suitorPlace 4 rfl) rfl rfl ?_
  refine tq_iconst (v := 1) (dget dX5_suitorPlace 5 rfl) rfl ?_
  refine tq_iadd (dget dX5_suitorPlace 6 rfl) ?_
  refine tq_imul (dget dX5_suitorPlace 7 rfl) ?_
  refine tq_iadd (dget dX5_suitorPlace 8 rfl) ?_
  exact tq_iret rfl (dget dX5_suitorPlace 9 rfl) ⟨_, rfl, by rw [show (1 : Int32) = nI 1 from rfl, nI_add, nI_mulN, nI_add], rfl⟩
set_option maxHeartbeats 4000000 in
set_option maxRecDepth 20000 in
theorem c_fitsHead (σ : Mem) (p : Nat) (c : Int32) (d : Nat) (hd : 0 ≤ d) (hp : p < 3) : PMet d mX5_fitsHead [.int (nI p), .int c] σ (Pi (fun v σ2 => BP (hdP p c) v ∧ σ2 = σ)) := by
  refine PMet.start (ls0 := [(0, .int (nI p)), (1, .int c)]) miX5_fitsHead.1 (Nat.le_of_ble_eq_true rfl) rfl ?_
  have g0 : nI p = 0 → p = 0 := fun q => (nI_eq (b := 0) (by omega) (by omega)).mp q
  have g0n : ¬ nI p = 0 → ¬ p = 0 := fun q e => q (by rw [e]; rfl)
  have g1 : nI p = 1 → p = 1 := fun q => (nI_eq (b := 1) (by omega) (by omega)).mp q
  have g1n : ¬ nI p = 1 → ¬ p = 1 := fun q e => q (by rw [e]; rfl)
  refine tq_iload_n 0 (dget dX5_fitsHead 0 rfl) rfl rfl ?_
  by_cases s_1_0 : (nI p) = 0
  · refine tq_lookup (tgt := 28) (off := 27) (dget dX5_fitsHead 1 rfl) (by decide) (by rw [s_1_0]; decide) (by decide) ?_
    refine tq_iload_n 1 (dget dX5_fitsHead 2 rfl) rfl rfl ?_
    refine tq_bipush (v := 121) (dget dX5_fitsHead 3 rfl) rfl ?_
    refine tq_icmp_ne (tgt := 38) (dget dX5_fitsHead 4 rfl) (by decide) (fun c_31 => ?_) (fun c_31 => ?_)
    · refine tq_iconst (v := 0) (dget dX5_fitsHead 7 rfl) rfl ?_
      exact tq_zret rfl rfl (dget dX5_fitsHead 8 rfl) ⟨_, rfl, BP.n (by unfold hdP; rw [if_pos (g0 s_1_0)]; exact c_31), rfl⟩
    · refine tq_iconst (v := 1) (dget dX5_fitsHead 5 rfl) rfl ?_
      refine tq_goto (tgt := 39) (dget dX5_fitsHead 6 rfl) (by decide) ?_
      exact tq_zret rfl rfl (dget dX5_fitsHead 8 rfl) ⟨_, rfl, BP.y (by unfold hdP; rw [if_pos (g0 s_1_0)]; exact c_31), rfl⟩
  by_cases s_1_1 : (nI p) = 1
  · refine tq_lookup (tgt := 40) (off := 39) (dget dX5_fitsHead 1 rfl) (by decide) (by rw [s_1_1]; decide) (by decide) ?_
    refine tq_iload_n 1 (dget dX5_fitsHead 9 rfl) rfl rfl ?_
    refine tq_bipush (v := 49) (dget dX5_fitsHead 10 rfl) rfl ?_
    refine tq_icmp_lt (tgt := 56) (dget dX5_fitsHead 11 rfl) (by decide) (fun c_43 => ?_) (fun c_43 => ?_)
    · refine tq_iconst (v := 0) (dget dX5_fitsHead 17 rfl) rfl ?_
      exact tq_zret rfl rfl (dget dX5_fitsHead 18 rfl) ⟨_, rfl, BP.n (by unfold hdP; rw [if_neg (g0n s_1_0), if_pos (g1 s_1_1)]; exact fun q => by first | exact absurd q.1 (Int32.not_le.mpr c_43) | exact absurd q.2 (Int32.not_lt.mpr c_49)), rfl⟩
    · refine tq_iload_n 1 (dget dX5_fitsHead 12 rfl) rfl rfl ?_
      refine tq_bipush (v := 55) (dget dX5_fitsHead 13 rfl) rfl ?_
      refine tq_icmp_ge (tgt := 56) (dget dX5_fitsHead 14 rfl) (by decide) (fun c_49 => ?_) (fun c_49 => ?_)
      · refine tq_iconst (v := 0) (dget dX5_fitsHead 17 rfl) rfl ?_
        exact tq_zret rfl rfl (dget dX5_fitsHead 18 rfl) ⟨_, rfl, BP.n (by unfold hdP; rw [if_neg (g0n s_1_0), if_pos (g1 s_1_1)]; exact fun q => by first | exact absurd q.1 (Int32.not_le.mpr c_43) | exact absurd q.2 (Int32.not_lt.mpr c_49)), rfl⟩
      · refine tq_iconst (v := 1) (dget dX5_fitsHead 15 rfl) rfl ?_
        refine tq_goto (tgt := 57) (dget dX5_fitsHead 16 rfl) (by decide) ?_
        exact tq_zret rfl rfl (dget dX5_fitsHead 18 rfl) ⟨_, rfl, BP.y (by unfold hdP; rw [if_neg (g0n s_1_0), if_pos (g1 s_1_1)]; exact ⟨Int32.not_lt.mp c_43, Int32.not_le.mp c_49⟩), rfl⟩
  refine tq_lookup (tgt := 58) (off := 57) (dget dX5_fitsHead 1 rfl) (by decide) ((lv_osw s_1_0 (by decide)).trans ((lv_osw s_1_1 (by decide)).trans (rfl))) (by decide) ?_
  refine tq_iload_n 1 (dget dX5_fitsHead 19 rfl) rfl rfl ?_
  refine tq_bipush (v := 49) (dget dX5_fitsHead 20 rfl) rfl ?_
  refine tq_icmp_lt (tgt := 74) (dget dX5_fitsHead 21 rfl) (by decide) (fun c_61 => ?_) (fun c_61 => ?_)
  · refine tq_iconst (v := 0) (dget dX5_fitsHead 27 rfl) rfl ?_
    exact tq_zret rfl rfl (dget dX5_fitsHead 28 rfl) ⟨_, rfl, BP.n (by unfold hdP; rw [if_neg (g0n s_1_0), if_neg (g1n s_1_1)]; exact fun q => by first | exact absurd q.1 (Int32.not_le.mpr c_61) | exact absurd q.2 (Int32.not_lt.mpr c_67)), rfl⟩
  · refine tq_iload_n 1 (dget dX5_fitsHead 22 rfl) rfl rfl ?_
    refine tq_bipush (v := 53) (dget dX5_fitsHead 23 rfl) rfl ?_
    refine tq_icmp_ge (tgt := 74) (dget dX5_fitsHead 24 rfl) (by decide) (fun c_67 => ?_) (fun c_67 => ?_)
    · refine tq_iconst (v := 0) (dget dX5_fitsHead 27 rfl) rfl ?_
      exact tq_zret rfl rfl (dget dX5_fitsHead 28 rfl) ⟨_, rfl, BP.n (by unfold hdP; rw [if_neg (g0n s_1_0), if_neg (g1n s_1_1)]; exact fun q => by first | exact absurd q.1 (Int32.not_le.mpr c_61) | exact absurd q.2 (Int32.not_lt.mpr c_67)), rfl⟩
    · refine tq_iconst (v := 1) (dget dX5_fitsHead 25 rfl) rfl ?_
      refine tq_goto (tgt := 75) (dget dX5_fitsHead 26 rfl) (by decide) ?_
      exact tq_zret rfl rfl (dget dX5_fitsHead 28 rfl) ⟨_, rfl, BP.y (by unfold hdP; rw [if_neg (g0n s_1_0), if_neg (g1n s_1_1)]; exact ⟨Int32.not_lt.mp c_61, Int32.not_le.mp c_67⟩), rfl⟩
set_option maxHeartbeats 4000000 in
set_option maxRecDepth 20000 in
theorem c_fitsPart (σ : Mem) (B : Prop) (u : Int32) (i : Nat) (c : Int32) (b : BP B u) (hi : i < 100) (d : Nat) (hd : 1 ≤ d) : PMet d mX5_fitsPart [.int u, .int (nI i), .int c] σ (Pi (fun v σ2 => BP (partP B i c) v ∧ σ2 = σ)) := by
  obtain ⟨d, rfl⟩ : ∃ e, d = e + 1 := ⟨d - 1, by omega⟩
  refine PMet.start (ls0 := [(0, .int u), (1, .int (nI i)), (2, .int c)]) miX5_fitsPart.1 (Nat.le_of_ble_eq_true rfl) rfl ?_
  refine tq_iload_n 1 (dget dX5_fitsPart 0 rfl) rfl rfl ?_
  refine tq_if_ne (tgt := 16) (dget dX5_fitsPart 1 rfl) (by decide) (fun c_1 => ?_) (fun c_1 => ?_)
  · have g_1 : ¬ i = 0 := fun e => c_1 (by rw [e]; rfl)
    refine tq_iload_n 0 (dget dX5_fitsPart 9 rfl) rfl rfl ?_
    refine tq_if_eq (tgt := 40) (dget dX5_fitsPart 10 rfl) (by decide) (fun c_17 => ?_) (fun c_17 => ?_)
    · refine tq_iload_n 2 (dget dX5_fitsPart 22 rfl) rfl rfl ?_
      refine tq_bipush (v := 48) (dget dX5_fitsPart 23 rfl) rfl ?_
      refine tq_icmp_lt (tgt := 56) (dget dX5_fitsPart 24 rfl) (by decide) (fun c_43 => ?_) (fun c_43 => ?_)
      · refine tq_iconst (v := 0) (dget dX5_fitsPart 30 rfl) rfl ?_
        exact tq_zret rfl rfl (dget dX5_fitsPart 31 rfl) ⟨_, rfl, BP.n (fun q => by rcases q with q | q | q; exact g_1 q.1; exact b.f c_17 q.2.1; first | exact absurd q.2.2.1 (Int32.not_le.mpr c_43) | exact absurd q.2.2.2 (Int32.not_le.mpr c_49)), rfl⟩
      · refine tq_iload_n 2 (dget dX5_fitsPart 25 rfl) rfl rfl ?_
        refine tq_bipush (v := 57) (dget dX5_fitsPart 26 rfl) rfl ?_
        refine tq_icmp_gt (tgt := 56) (dget dX5_fitsPart 27 rfl) (by decide) (fun c_49 => ?_) (fun c_49 => ?_)
        · refine tq_iconst (v := 0) (dget dX5_fitsPart 30 rfl) rfl ?_
          exact tq_zret rfl rfl (dget dX5_fitsPart 31 rfl) ⟨_, rfl, BP.n (fun q => by rcases q with q | q | q; exact g_1 q.1; exact b.f c_17 q.2.1; first | exact absurd q.2.2.1 (Int32.not_le.mpr c_43) | exact absurd q.2.2.2 (Int32.not_le.mpr c_49)), rfl⟩
        · refine tq_iconst (v := 1) (dget dX5_fitsPart 28 rfl) rfl ?_
          refine tq_goto (tgt := 57) (dget dX5_fitsPart 29 rfl) (by decide) ?_
          exact tq_zret rfl rfl (dget dX5_fitsPart 31 rfl) ⟨_, rfl, BP.y (Or.inr (Or.inr ⟨g_1, fun z => b.f c_17 z.1, Int32.not_lt.mp c_43, Int32.not_lt.mp c_49⟩)), rfl⟩
    · refine tq_iload_n 1 (dget dX5_fitsPart 11 rfl) rfl rfl ?_
      refine tq_iconst (v := 1) (dget dX5_fitsPart 12 rfl) rfl ?_
      refine tq_icmp_ne (tgt := 40) (dget dX5_fitsPart 13 rfl) (by decide) (fun c_22 => ?_) (fun c_22 => ?_)
      · have g_22 : ¬ i = 1 := fun e => c_22 (by rw [e]; rfl)
        refine tq_iload_n 2 (dget dX5_fitsPart 22 rfl) rfl rfl ?_
        refine tq_bipush (v := 48) (dget dX5_fitsPart 23 rfl) rfl ?_
        refine tq_icmp_lt (tgt := 56) (dget dX5_fitsPart 24 rfl) (by decide) (fun c_43 => ?_) (fun c_43 => ?_)
        · refine tq_iconst (v := 0) (dget dX5_fitsPart 30 rfl) rfl ?_
          exact tq_zret rfl rfl (dget dX5_fitsPart 31 rfl) ⟨_, rfl, BP.n (fun q => by rcases q with q | q | q; exact g_1 q.1; exact g_22 q.2.2.1; first | exact absurd q.2.2.1 (Int32.not_le.mpr c_43) | exact absurd q.2.2.2 (Int32.not_le.mpr c_49)), rfl⟩
        · refine tq_iload_n 2 (dget dX5_fitsPart 25 rfl) rfl rfl ?_
          refine tq_bipush (v := 57) (dget dX5_fitsPart 26 rfl) rfl ?_
          refine tq_icmp_gt (tgt := 56) (dget dX5_fitsPart 27 rfl) (by decide) (fun c_49 => ?_) (fun c_49 => ?_)
          · refine tq_iconst (v := 0) (dget dX5_fitsPart 30 rfl) rfl ?_
            exact tq_zret rfl rfl (dget dX5_fitsPart 31 rfl) ⟨_, rfl, BP.n (fun q => by rcases q with q | q | q; exact g_1 q.1; exact g_22 q.2.2.1; first | exact absurd q.2.2.1 (Int32.not_le.mpr c_43) | exact absurd q.2.2.2 (Int32.not_le.mpr c_49)), rfl⟩
          · refine tq_iconst (v := 1) (dget dX5_fitsPart 28 rfl) rfl ?_
            refine tq_goto (tgt := 57) (dget dX5_fitsPart 29 rfl) (by decide) ?_
            exact tq_zret rfl rfl (dget dX5_fitsPart 31 rfl) ⟨_, rfl, BP.y (Or.inr (Or.inr ⟨g_1, fun z => g_22 z.2, Int32.not_lt.mp c_43, Int32.not_lt.mp c_49⟩)), rfl⟩
      · have g_22 : i = 1 := (nI_eq (b := 1) (by omega) (by omega)).mp c_22
        refine tq_iload_n 2 (dget dX5_fitsPart 14 rfl) rfl rfl ?_
        refine mq_Si (As := [.int c]) (rest := []) (dget dX5_fitsPart 15 rfl) lX5_27 miX5_kindOf (c_kindOf σ c d (by omega)) rfl rfl (Nat.le_of_ble_eq_true rfl) (Nat.le_of_ble_eq_true rfl) (fun r_26 σ_26 h_26 => ?_)
        obtain ⟨a_26, e_26⟩ := h_26
        obtain rfl := a_26.symm
        obtain rfl := e_26.symm
        refine tq_bipush (v := (-9)) (dget dX5_fitsPart 16 rfl) rfl ?_
        refine tq_icmp_eq (tgt := 38) (dget dX5_fitsPart 17 rfl) (by decide) (fun c_31 => ?_) (fun c_31 => ?_)
        · refine tq_iconst (v := 0) (dget dX5_fitsPart 20 rfl) rfl ?_
          exact tq_zret rfl rfl (dget dX5_fitsPart 21 rfl) ⟨_, rfl, BP.n (fun q => by rcases q with q | q | q; exact g_1 q.1; exact q.2.2.2 c_31; exact q.2.1 ⟨b.t c_17, g_22⟩), rfl⟩
        · refine tq_iconst (v := 1) (dget dX5_fitsPart 18 rfl) rfl ?_
          refine tq_goto (tgt := 39) (dget dX5_fitsPart 19 rfl) (by decide) ?_
          exact tq_zret rfl rfl (dget dX5_fitsPart 21 rfl) ⟨_, rfl, BP.y (Or.inr (Or.inl ⟨g_1, b.t c_17, g_22, c_31⟩)), rfl⟩
  · have g_1 : i = 0 := (nI_eq (b := 0) (by omega) (by omega)).mp c_1
    refine tq_iload_n 2 (dget dX5_fitsPart 2 rfl) rfl rfl ?_
    refine tq_bipush (v := 59) (dget dX5_fitsPart 3 rfl) rfl ?_
    refine tq_icmp_ne (tgt := 14) (dget dX5_fitsPart 4 rfl) (by decide) (fun c_7 => ?_) (fun c_7 => ?_)
    · refine tq_iconst (v := 0) (dget dX5_fitsPart 7 rfl) rfl ?_
      exact tq_zret rfl rfl (dget dX5_fitsPart 8 rfl) ⟨_, rfl, BP.n (fun q => by rcases q with q | q | q; exact c_7 q.2; exact q.1 g_1; exact q.1 g_1), rfl⟩
    · refine tq_iconst (v := 1) (dget dX5_fitsPart 5 rfl) rfl ?_
      refine tq_goto (tgt := 15) (dget dX5_fitsPart 6 rfl) (by decide) ?_
      exact tq_zret rfl rfl (dget dX5_fitsPart 8 rfl) ⟨_, rfl, BP.y (Or.inl ⟨g_1, c_7⟩), rfl⟩
set_option maxHeartbeats 4000000 in
set_option maxRecDepth 20000 in
theorem c_behind_loop (σ : Mem) (S M N : Nat) (hS : S ≤ 6) (hM : M ≤ 4) (hN : N ≤ 100) (d : Nat) (hd : 2 ≤ d) : ∀ (n : Nat) (part : Nat) (i : Nat) (pl : Nat) (hm : endT S M < pl + n) (hk : 3 ≤ pl) (hle : pl ≤ endT S M) (hb : part ≤ pl ∧ i ≤ pl) (hT : tpos S M part i pl) (hI : ∀ q, 3 ≤ q → q < pl → q < N ∧ fitB S M q (σ 33 q)), PAt (EM d (Pi (fun v σ2 => tbP S M (σ 33) N v ∧ σ2 = σ))) mX5_firstFaultBehindHead 17 [(7, .int (nI pl)), (6, .int (nI i)), (5, .int (nI part)), (4, .int (nI (endT S M))), (0, .ref 33), (1, .int (nI N)), (2, .int (nI S)), (3, .int (nI M))] [] σ := by
  obtain ⟨d, rfl⟩ : ∃ e, d = e + 1 := ⟨d - 1, by omega⟩
  intro n
  induction n with
  | zero => intro part i pl hm hk hle hb hT hI; exact absurd hm (by omega)
  | succ n ih =>
    intro part i pl hm hk hle hb hT hI
    have he := endT_le hS hM
    have hi7 : i < 8 := by rcases hT with q | q <;> omega
    refine tq_iload 0 (dget dX5_firstFaultBehindHead 11 rfl) rfl ?_
    refine tq_iload 3 (dget dX5_firstFaultBehindHead 12 rfl) rfl ?_
    refine tq_icmp_ge (tgt := 94) (dget dX5_firstFaultBehindHead 13 rfl) (by decide) (fun c_21 => ?_) (fun c_21 => ?_)
    · have g_21 := kle (by omega) (by omega) c_21
      have g_22 : pl = endT S M := by omega
      refine tq_iload_n 5 (dget dX5_firstFaultBehindHead 50 rfl) rfl rfl ?_
      refine tq_iload 3 (dget dX5_firstFaultBehindHead 51 rfl) rfl ?_
      refine tq_icmp_ne (tgt := 105) (dget dX5_firstFaultBehindHead 52 rfl) (by decide) (fun c_97 => ?_) (fun c_97 => ?_)
      · have g_97 := n_ne c_97
        refine tq_iload 3 (dget dX5_firstFaultBehindHead 55 rfl) rfl ?_
        exact tq_iret rfl (dget dX5_firstFaultBehindHead 56 rfl) ⟨_, rfl, Or.inr ⟨endT S M, rfl, by omega, Nat.le_refl _, fun q h3 hq => hI q h3 (by omega), Or.inr ⟨rfl, g_97⟩⟩, rfl⟩
      · have g_97 := n_eq (by omega) (by omega) c_97
        refine tq_bipush (v := (-9)) (dget dX5_firstFaultBehindHead 53 rfl) rfl ?_
        refine tq_goto (tgt := 107) (dget dX5_firstFaultBehindHead 54 rfl) (by decide) ?_
        exact tq_iret rfl (dget dX5_firstFaultBehindHead 56 rfl) ⟨_, rfl, Or.inl ⟨rfl, g_97, fun q h3 hq => (hI q h3 (by omega)).2⟩, rfl⟩
    · have g_21 := knle (by omega) (by omega) c_21
      refine tq_iload 2 (dget dX5_firstFaultBehindHead 14 rfl) rfl ?_
      refine tq_iload_n 7 (dget dX5_firstFaultBehindHead 15 rfl) rfl rfl ?_
      refine tq_icmp_ge (tgt := 34) (dget dX5_firstFaultBehindHead 16 rfl) (by decide) (fun c_27 => ?_) (fun c_27 => ?_)
      · have g_27 := kle (by omega) (by omega) c_27
        refine tq_iconst (v := 0) (dget dX5_firstFaultBehindHead 19 rfl) rfl ?_
        refine tq_istore (ls2 := [(8, .int 0), (7, .int (nI pl)), (6, .int (nI i)), (5, .int (nI part)), (4, .int (nI (endT S M))), (0, .ref 33), (1, .int (nI N)), (2, .int (nI S)), (3, .int (nI M))]) (dget dX5_firstFaultBehindHead 20 rfl) (by decide) rfl ?_
        refine tq_iload 1 (dget dX5_firstFaultBehindHead 21 rfl) rfl ?_
        refine tq_iload_n 6 (dget dX5_firstFaultBehindHead 22 rfl) rfl rfl ?_
        refine tq_icmp_ge (tgt := 57) (dget dX5_firstFaultBehindHead 23 rfl) (by decide) (fun c_40 => ?_) (fun c_40 => ?_)
        · have g_40 := kle (by omega) (by omega) c_40
          refine tq_iload 1 (dget dX5_firstFaultBehindHead 31 rfl) rfl ?_
          exact tq_iret rfl (dget dX5_firstFaultBehindHead 32 rfl) ⟨_, rfl, Or.inr ⟨pl, rfl, by omega, by omega, hI, Or.inl ⟨g_21, fun q => by omega⟩⟩, rfl⟩
        · have g_40 := knle (by omega) (by omega) c_40
          refine tq_iload 0 (dget dX5_firstFaultBehindHead 24 rfl) rfl ?_
          refine tq_iload 2 (dget dX5_firstFaultBehindHead 25 rfl) rfl ?_
          refine tq_aload_n 5 (dget dX5_firstFaultBehindHead 26 rfl) rfl rfl ?_
          refine tq_iload 1 (dget dX5_firstFaultBehindHead 27 rfl) rfl ?_
          refine tq_ialdN pl (dget dX5_firstFaultBehindHead 28 rfl) rfl (by decide) rfl (by omega) ?_
          refine mq_Si (As := [.int 0, .int (nI i), .int (σ 33 pl)]) (rest := []) (dget dX5_firstFaultBehindHead 29 rfl) lX5_23 miX5_fitsPart (c_fitsPart σ False 0 i (σ 33 pl) (BP.n id) (by omega) d (by omega)) rfl rfl (Nat.le_of_ble_eq_true rfl) (Nat.le_of_ble_eq_true rfl) (fun r_51 σ_51 h_51 => ?_)
          obtain ⟨b_51, e_51⟩ := h_51
          obtain rfl := e_51.symm
          refine tq_if_ne (tgt := 60) (dget dX5_firstFaultBehindHead 30 rfl) (by decide) (fun c_54 => ?_) (fun c_54 => ?_)
          · refine tq_iinc (v := (nI (i + 1))) (ls2 := [(6, .int (nI (i + 1))), (8, .int 0), (7, .int (nI pl)), (5, .int (nI part)), (4, .int (nI (endT S M))), (0, .ref 33), (1, .int (nI N)), (2, .int (nI S)), (3, .int (nI M))]) 2 (dget dX5_firstFaultBehindHead 33 rfl) rfl (nI_1 i) (by decide) rfl ?_
            refine tq_iload 0 (dget dX5_firstFaultBehindHead 34 rfl) rfl ?_
            refine tq_iload 1 (dget dX5_firstFaultBehindHead 35 rfl) rfl ?_
            refine tq_if_eq (tgt := 76) (dget dX5_firstFaultBehindHead 36 rfl) (by decide) (fun c_67 => ?_) (fun c_67 => ?_)
            · refine tq_iload_n 8 (dget dX5_firstFaultBehindHead 41 rfl) rfl rfl ?_
              refine tq_iconst (v := 1) (dget dX5_firstFaultBehindHead 42 rfl) rfl ?_
              refine tq_iadd (dget dX5_firstFaultBehindHead 43 rfl) ?_
              refine tq_eqi (y := (nI (M + 1))) (nI_add M 1) ?_
              refine tq_icmp_ne (tgt := 88) (dget dX5_firstFaultBehindHead 44 rfl) (by decide) (fun c_79 => ?_) (fun c_79 => ?_)
              · have g_79 := n_ne c_79
                refine tq_iinc (v := (nI (pl + 1))) (ls2 := [(7, .int (nI (pl + 1))), (6, .int (nI (i + 1))), (8, .int 0), (5, .int (nI part)), (4, .int (nI (endT S M))), (0, .ref 33), (1, .int (nI N)), (2, .int (nI S)), (3, .int (nI M))]) 2 (dget dX5_firstFaultBehindHead 48 rfl) rfl (nI_1 pl) (by decide) rfl ?_
                refine tq_goto (tgt := 17) (dget dX5_firstFaultBehindHead 49 rfl) (by decide) ?_
                refine tq_sub [0, 1, 3, 4, 5, 6, 7, 8] (ls' := [(7, .int (nI (pl + 1))), (6, .int (nI (i + 1))), (5, .int (nI part)), (4, .int (nI (endT S M))), (0, .ref 33), (1, .int (nI N)), (2, .int (nI S)), (3, .int (nI M))]) rfl ?_
                refine ih part (i + 1) (pl + 1) (by omega) (by omega) (by omega) (by omega) (tpos_n2 hT g_27 g_79) (fun q h3 hq => ?_)
                by_cases e : q = pl
                · rw [e]; exact ⟨g_40, (tpos_fit2 hT g_27).mpr (b_51.t c_54)⟩
                · exact hI q h3 (by omega)
              · have g_79 := n_eq (by omega) (by omega) c_79
                refine tq_iinc (v := (nI (part + 1))) (ls2 := [(5, .int (nI (part + 1))), (6, .int (nI (i + 1))), (8, .int 0), (7, .int (nI pl)), (4, .int (nI (endT S M))), (0, .ref 33), (1, .int (nI N)), (2, .int (nI S)), (3, .int (nI M))]) 3 (dget dX5_firstFaultBehindHead 45 rfl) rfl (nI_1 part) (by decide) rfl ?_
                refine tq_iconst (v := 0) (dget dX5_firstFaultBehindHead 46 rfl) rfl ?_
                refine tq_istore (ls2 := [(6, .int 0), (5, .int (nI (part + 1))), (8, .int 0), (7, .int (nI pl)), (4, .int (nI (endT S M))), (0, .ref 33), (1, .int (nI N)), (2, .int (nI S)), (3, .int (nI M))]) (dget dX5_firstFaultBehindHead 47 rfl) (by decide) rfl ?_
                refine tq_iinc (v := (nI (pl + 1))) (ls2 := [(7, .int (nI (pl + 1))), (6, .int 0), (5, .int (nI (part + 1))), (8, .int 0), (4, .int (nI (endT S M))), (0, .ref 33), (1, .int (nI N)), (2, .int (nI S)), (3, .int (nI M))]) 3 (dget dX5_firstFaultBehindHead 48 rfl) rfl (nI_1 pl) (by decide) rfl ?_
                refine tq_goto (tgt := 17) (dget dX5_firstFaultBehindHead 49 rfl) (by decide) ?_
                refine tq_sub [0, 1, 2, 4, 5, 6, 7, 8] (ls' := [(7, .int (nI (pl + 1))), (6, .int 0), (5, .int (nI (part + 1))), (4, .int (nI (endT S M))), (0, .ref 33), (1, .int (nI N)), (2, .int (nI S)), (3, .int (nI M))]) rfl ?_
                rw [show (0 : Int32) = nI 0 from rfl]
                refine ih (part + 1) 0 (pl + 1) (by omega) (by omega) (by omega) (by omega) (tpos_w2 hT g_27 g_79) (fun q h3 hq => ?_)
                by_cases e : q = pl
                · rw [e]; exact ⟨g_40, (tpos_fit2 hT g_27).mpr (b_51.t c_54)⟩
                · exact hI q h3 (by omega)
            · exact absurd c_67 (by decide)
          · refine tq_iload 1 (dget dX5_firstFaultBehindHead 31 rfl) rfl ?_
            exact tq_iret rfl (dget dX5_firstFaultBehindHead 32 rfl) ⟨_, rfl, Or.inr ⟨pl, rfl, by omega, by omega, hI, Or.inl ⟨g_21, fun q => b_51.f c_54 ((tpos_fit2 hT g_27).mp q.2)⟩⟩, rfl⟩
      · have g_27 := knle (by omega) (by omega) c_27
        refine tq_iconst (v := 1) (dget dX5_firstFaultBehindHead 17 rfl) rfl ?_
        refine tq_goto (tgt := 35) (dget dX5_firstFaultBehindHead 18 rfl) (by decide) ?_
        refine tq_istore (ls2 := [(8, .int 1), (7, .int (nI pl)), (6, .int (nI i)), (5, .int (nI part)), (4, .int (nI (endT S M))), (0, .ref 33), (1, .int (nI N)), (2, .int (nI S)), (3, .int (nI M))]) (dget dX5_firstFaultBehindHead 20 rfl) (by decide) rfl ?_
        refine tq_iload 1 (dget dX5_firstFaultBehindHead 21 rfl) rfl ?_
        refine tq_iload_n 6 (dget dX5_firstFaultBehindHead 22 rfl) rfl rfl ?_
        refine tq_icmp_ge (tgt := 57) (dget dX5_firstFaultBehindHead 23 rfl) (by decide) (fun c_40 => ?_) (fun c_40 => ?_)
        · have g_40 := kle (by omega) (by omega) c_40
          refine tq_iload 1 (dget dX5_firstFaultBehindHead 31 rfl) rfl ?_
          exact tq_iret rfl (dget dX5_firstFaultBehindHead 32 rfl) ⟨_, rfl, Or.inr ⟨pl, rfl, by omega, by omega, hI, Or.inl ⟨g_21, fun q => by omega⟩⟩, rfl⟩
        · have g_40 := knle (by omega) (by omega) c_40
          refine tq_iload 0 (dget dX5_firstFaultBehindHead 24 rfl) rfl ?_
          refine tq_iload 2 (dget dX5_firstFaultBehindHead 25 rfl) rfl ?_
          refine tq_aload_n 5 (dget dX5_firstFaultBehindHead 26 rfl) rfl rfl ?_
          refine tq_iload 1 (dget dX5_firstFaultBehindHead 27 rfl) rfl ?_
          refine tq_ialdN pl (dget dX5_firstFaultBehindHead 28 rfl) rfl (by decide) rfl (by omega) ?_
          refine mq_Si (As := [.int 1, .int (nI i), .int (σ 33 pl)]) (rest := []) (dget dX5_firstFaultBehindHead 29 rfl) lX5_23 miX5_fitsPart (c_fitsPart σ True 1 i (σ 33 pl) (BP.y trivial) (by omega) d (by omega)) rfl rfl (Nat.le_of_ble_eq_true rfl) (Nat.le_of_ble_eq_true rfl) (fun r_51 σ_51 h_51 => ?_)
          obtain ⟨b_51, e_51⟩ := h_51
          obtain rfl := e_51.symm
          refine tq_if_ne (tgt := 60) (dget dX5_firstFaultBehindHead 30 rfl) (by decide) (fun c_54 => ?_) (fun c_54 => ?_)
          · refine tq_iinc (v := (nI (i + 1))) (ls2 := [(6, .int (nI (i + 1))), (8, .int 1), (7, .int (nI pl)), (5, .int (nI part)), (4, .int (nI (endT S M))), (0, .ref 33), (1, .int (nI N)), (2, .int (nI S)), (3, .int (nI M))]) 2 (dget dX5_firstFaultBehindHead 33 rfl) rfl (nI_1 i) (by decide) rfl ?_
            refine tq_iload 0 (dget dX5_firstFaultBehindHead 34 rfl) rfl ?_
            refine tq_iload 1 (dget dX5_firstFaultBehindHead 35 rfl) rfl ?_
            refine tq_if_eq (tgt := 76) (dget dX5_firstFaultBehindHead 36 rfl) (by decide) (fun c_67 => ?_) (fun c_67 => ?_)
            · exact absurd c_67 (by decide)
            · refine tq_iload_n 7 (dget dX5_firstFaultBehindHead 37 rfl) rfl rfl ?_
              refine tq_iconst (v := 2) (dget dX5_firstFaultBehindHead 38 rfl) rfl ?_
              refine tq_iadd (dget dX5_firstFaultBehindHead 39 rfl) ?_
              refine tq_eqi (y := (nI (S + 2))) (nI_add S 2) ?_
              refine tq_goto (tgt := 79) (dget dX5_firstFaultBehindHead 40 rfl) (by decide) ?_
              refine tq_icmp_ne (tgt := 88) (dget dX5_firstFaultBehindHead 44 rfl) (by decide) (fun c_79 => ?_) (fun c_79 => ?_)
              · have g_79 := n_ne c_79
                refine tq_iinc (v := (nI (pl + 1))) (ls2 := [(7, .int (nI (pl + 1))), (6, .int (nI (i + 1))), (8, .int 1), (5, .int (nI part)), (4, .int (nI (endT S M))), (0, .ref 33), (1, .int (nI N)), (2, .int (nI S)), (3, .int (nI M))]) 2 (dget dX5_firstFaultBehindHead 48 rfl) rfl (nI_1 pl) (by decide) rfl ?_
                refine tq_goto (tgt := 17) (dget dX5_firstFaultBehindHead 49 rfl) (by decide) ?_
                refine tq_sub [0, 1, 3, 4, 5, 6, 7, 8] (ls' := [(7, .int (nI (pl + 1))), (6, .int (nI (i + 1))), (5, .int (nI part)), (4, .int (nI (endT S M))), (0, .ref 33), (1, .int (nI N)), (2, .int (nI S)), (3, .int (nI M))]) rfl ?_
                refine ih part (i + 1) (pl + 1) (by omega) (by omega) (by omega) (by omega) (tpos_n1 hT g_27 g_79) (fun q h3 hq => ?_)
                by_cases e : q = pl
                · rw [e]; exact ⟨g_40, (tpos_fit1 hT g_27).mpr (b_51.t c_54)⟩
                · exact hI q h3 (by omega)
              · have g_79 := n_eq (by omega) (by omega) c_79
                refine tq_iinc (v := (nI (part + 1))) (ls2 := [(5, .int (nI (part + 1))), (6, .int (nI (i + 1))), (8, .int 1), (7, .int (nI pl)), (4, .int (nI (endT S M))), (0, .ref 33), (1, .int (nI N)), (2, .int (nI S)), (3, .int (nI M))]) 3 (dget dX5_firstFaultBehindHead 45 rfl) rfl (nI_1 part) (by decide) rfl ?_
                refine tq_iconst (v := 0) (dget dX5_firstFaultBehindHead 46 rfl) rfl ?_
                refine tq_istore (ls2 := [(6, .int 0), (5, .int (nI (part + 1))), (8, .int 1), (7, .int (nI pl)), (4, .int (nI (endT S M))), (0, .ref 33), (1, .int (nI N)), (2, .int (nI S)), (3, .int (nI M))]) (dget dX5_firstFaultBehindHead 47 rfl) (by decide) rfl ?_
                refine tq_iinc (v := (nI (pl + 1))) (ls2 := [(7, .int (nI (pl + 1))), (6, .int 0), (5, .int (nI (part + 1))), (8, .int 1), (4, .int (nI (endT S M))), (0, .ref 33), (1, .int (nI N)), (2, .int (nI S)), (3, .int (nI M))]) 3 (dget dX5_firstFaultBehindHead 48 rfl) rfl (nI_1 pl) (by decide) rfl ?_
                refine tq_goto (tgt := 17) (dget dX5_firstFaultBehindHead 49 rfl) (by decide) ?_
                refine tq_sub [0, 1, 2, 4, 5, 6, 7, 8] (ls' := [(7, .int (nI (pl + 1))), (6, .int 0), (5, .int (nI (part + 1))), (4, .int (nI (endT S M))), (0, .ref 33), (1, .int (nI N)), (2, .int (nI S)), (3, .int (nI M))]) rfl ?_
                rw [show (0 : Int32) = nI 0 from rfl]
                refine ih (part + 1) 0 (pl + 1) (by omega) (by omega) (by omega) (by omega) (tpos_w1 hT g_27 g_79) (fun q h3 hq => ?_)
                by_cases e : q = pl
                · rw [e]; exact ⟨g_40, (tpos_fit1 hT g_27).mpr (b_51.t c_54)⟩
                · exact hI q h3 (by omega)
          · refine tq_iload 1 (dget dX5_firstFaultBehindHead 31 rfl) rfl ?_
            exact tq_iret rfl (dget dX5_firstFaultBehindHead 32 rfl) ⟨_, rfl, Or.inr ⟨pl, rfl, by omega, by omega, hI, Or.inl ⟨g_21, fun q => b_51.f c_54 ((tpos_fit1 hT g_27).mp q.2)⟩⟩, rfl⟩
set_option maxHeartbeats 4000000 in
set_option maxRecDepth 20000 in
theorem c_behind (σ : Mem) (S M N : Nat) (hS : S ≤ 6) (hM : M ≤ 4) (hN : N ≤ 100) (d : Nat) (hd : 2 ≤ d) : PMet d mX5_firstFaultBehindHead [.ref 33, .int (nI N), .int (nI S), .int (nI M)] σ (Pi (fun v σ2 => tbP S M (σ 33) N v ∧ σ2 = σ)) := by
  obtain ⟨d, rfl⟩ : ∃ e, d = e + 1 := ⟨d - 1, by omega⟩
  refine PMet.start (ls0 := [(0, .ref 33), (1, .int (nI N)), (2, .int (nI S)), (3, .int (nI M))]) miX5_firstFaultBehindHead.1 (Nat.le_of_ble_eq_true rfl) rfl ?_
  have he := endT_le hS hM
  refine tq_iload_n 2 (dget dX5_firstFaultBehindHead 0 rfl) rfl rfl ?_
  refine tq_iload_n 3 (dget dX5_firstFaultBehindHead 1 rfl) rfl rfl ?_
  refine tq_iload_n 2 (dget dX5_firstFaultBehindHead 2 rfl) rfl rfl ?_
  refine mq_Si (As := [.int (nI S), .int (nI M), .int (nI S)]) (rest := []) (dget dX5_firstFaultBehindHead 3 rfl) lX5_19 miX5_suitorPlace (c_suitorPlace σ S M S d (by omega)) rfl rfl (Nat.le_of_ble_eq_true rfl) (Nat.le_of_ble_eq_true rfl) (fun r_3 σ_3 h_3 => ?_)
  obtain ⟨a_3, e_3⟩ := h_3
  obtain rfl := a_3.symm
  obtain rfl := e_3.symm
  refine tq_istore (ls2 := [(4, .int (nI (3 + M * (S + 2) + S * (M + 1)))), (0, .ref 33), (1, .int (nI N)), (2, .int (nI S)), (3, .int (nI M))]) (dget dX5_firstFaultBehindHead 4 rfl) (by decide) rfl ?_
  refine tq_iconst (v := 0) (dget dX5_firstFaultBehindHead 5 rfl) rfl ?_
  refine tq_istore (ls2 := [(5, .int 0), (4, .int (nI (3 + M * (S + 2) + S * (M + 1)))), (0, .ref 33), (1, .int (nI N)), (2, .int (nI S)), (3, .int (nI M))]) (dget dX5_firstFaultBehindHead 6 rfl) (by decide) rfl ?_
  refine tq_iconst (v := 0) (dget dX5_firstFaultBehindHead 7 rfl) rfl ?_
  refine tq_istore (ls2 := [(6, .int 0), (5, .int 0), (4, .int (nI (3 + M * (S + 2) + S * (M + 1)))), (0, .ref 33), (1, .int (nI N)), (2, .int (nI S)), (3, .int (nI M))]) (dget dX5_firstFaultBehindHead 8 rfl) (by decide) rfl ?_
  refine tq_iconst (v := 3) (dget dX5_firstFaultBehindHead 9 rfl) rfl ?_
  refine tq_istore (ls2 := [(7, .int 3), (6, .int 0), (5, .int 0), (4, .int (nI (3 + M * (S + 2) + S * (M + 1)))), (0, .ref 33), (1, .int (nI N)), (2, .int (nI S)), (3, .int (nI M))]) (dget dX5_firstFaultBehindHead 10 rfl) (by decide) rfl ?_
  refine tq_sub [0, 1, 2, 3, 4, 5, 6, 7] (ls' := [(7, .int 3), (6, .int 0), (5, .int 0), (4, .int (nI (3 + M * (S + 2) + S * (M + 1)))), (0, .ref 33), (1, .int (nI N)), (2, .int (nI S)), (3, .int (nI M))]) rfl ?_
  exact c_behind_loop σ S M N hS hM hN (d + 1) (by omega) (endT S M + 1) 0 0 3 (by omega) (by omega) (by unfold endT; omega) (by omega) (by by_cases q : 0 < M; exact Or.inl ⟨q, by omega, by omega⟩; exact Or.inr ⟨by omega, by rw [show M = 0 by omega]; simp, by omega⟩) (fun q h3 hq => absurd hq (by omega))
end
section
/-! ===== a text's first fault; a text taken ===== -/
theorem dig {c : Int32} {a b : Nat} (ha : a < 2 ^ 31) (hb : b < 2 ^ 31) (h1 : nI a ≤ c) (h2 : c < nI b) : ∃ j, c = nI j ∧ a ≤ j ∧ j < b := by
  have h0 : ¬ c < 0 := Int32.not_lt.mpr (Int32.le_trans (nI_pos' ha) h1)
  obtain ⟨j, hj, rfl⟩ := nI_of h0
  exact ⟨j, rfl, kle ha hj h1, klt hj hb h2⟩
def dS (c : Nat → Int32) : Nat := (c 1 - 48).toNatClampNeg
def dM (c : Nat → Int32) : Nat := (c 2 - 48).toNatClampNeg
theorem dS_of {c : Nat → Int32} (h : hdP 1 (c 1)) : c 1 - 48 = nI (dS c) ∧ 1 ≤ dS c ∧ dS c ≤ 6 := by
  unfold hdP at h
  rw [if_neg (by decide), if_pos rfl] at h
  obtain ⟨j, hj, h1, h2⟩ := dig (a := 49) (b := 55) (by decide) (by decide) h.1 h.2
  have e : c 1 - 48 = nI (j - 48) := by rw [hj]; exact nI_subN (a := j) (b := 48) (by omega)
  unfold dS
  rw [e, nI_clamp (by omega)]
  exact ⟨rfl, by omega, by omega⟩
theorem dM_of {c : Nat → Int32} (h : hdP 2 (c 2)) : c 2 - 48 = nI (dM c) ∧ 1 ≤ dM c ∧ dM c ≤ 4 := by
  unfold hdP at h
  rw [if_neg (by decide), if_neg (by decide)] at h
  obtain ⟨j, hj, h1, h2⟩ := dig (a := 49) (b := 53) (by decide) (by decide) h.1 h.2
  have e : c 2 - 48 = nI (j - 48) := by rw [hj]; exact nI_subN (a := j) (b := 48) (by omega)
  unfold dM
  rw [e, nI_clamp (by omega)]
  exact ⟨rfl, by omega, by omega⟩
def fitC (c : Nat → Int32) (q : Nat) : Prop := (q < 3 ∧ hdP q (c q)) ∨ (3 ≤ q ∧ q < endT (dS c) (dM c) ∧ fitB (dS c) (dM c) q (c q))
/-- p is the first place (of N codes) that doesn't go on a text -/
def fstP (c : Nat → Int32) (N p : Nat) : Prop := (∀ q, q < p → q < N ∧ fitC c q) ∧ ¬ (p < N ∧ fitC c p)
theorem fstP_uniq {c : Nat → Int32} {N p q : Nat} (h1 : fstP c N p) (h2 : fstP c N q) : p = q := by
  rcases Nat.lt_trichotomy p q with h | h | h
  · exact absurd (h2.1 p h) h1.2
  · exact h
  · exact absurd (h1.1 q h) h2.2
def tkn (c : Nat → Int32) (N p : Nat) : Prop := 3 ≤ p ∧ p = N ∧ N = endT (dS c) (dM c)
def ffP (c : Nat → Int32) (N : Nat) (v : Int32) : Prop := ∃ p, fstP c N p ∧ p ≤ 65 ∧ ((v = -9 ∧ tkn c N p) ∨ (v = nI p ∧ ¬ tkn c N p))
theorem ff_head {c : Nat → Int32} {N p : Nat} (hp : p < 3) (hI : ∀ j, j < p → j < N ∧ hdP j (c j)) (h : ¬ (p < N ∧ hdP p (c p))) : ffP c N (nI p) := by
  refine ⟨p, ⟨fun q hq => ⟨(hI q hq).1, Or.inl ⟨by omega, (hI q hq).2⟩⟩, fun q => ?_⟩, by omega, Or.inr ⟨rfl, fun q => by have := q.1; omega⟩⟩
  rcases q.2 with z | z
  · exact h ⟨q.1, z.2⟩
  · omega
theorem ff_behind {c : Nat → Int32} {N : Nat} {v : Int32} (hI : ∀ j, j < 3 → j < N ∧ hdP j (c j)) (h : tbP (dS c) (dM c) c N v) : ffP c N v := by
  have h65 := endT_le (dS_of (hI 1 (by omega)).2).2.2 (dM_of (hI 2 (by omega)).2).2.2
  have h3 : 3 ≤ endT (dS c) (dM c) := by unfold endT; omega
  rcases h with ⟨hv, hN, hA⟩ | ⟨p, hv, hp3, hpE, hA, hB⟩
  · refine ⟨N, ⟨fun q hq => ⟨hq, ?_⟩, fun q => absurd q.1 (Nat.lt_irrefl _)⟩, by omega, Or.inl ⟨hv, by omega, rfl, hN⟩⟩
    by_cases q3 : q < 3
    · exact Or.inl ⟨q3, (hI q q3).2⟩
    · exact Or.inr ⟨by omega, by omega, hA q (by omega) (by omega)⟩
  · refine ⟨p, ⟨fun q hq => ?_, fun q => ?_⟩, by omega, Or.inr ⟨hv, fun z => ?_⟩⟩
    · by_cases q3 : q < 3
      · exact ⟨(hI q q3).1, Or.inl ⟨q3, (hI q q3).2⟩⟩
      · have h9 := hA q (by omega) hq
        exact ⟨h9.1, Or.inr ⟨by omega, by omega, h9.2⟩⟩
    · rcases q.2 with z | z
      · omega
      · rcases hB with hB | hB
        · exact hB.2 ⟨q.1, z.2.2⟩
        · omega
    · obtain ⟨_, z1, z2⟩ := z
      rcases hB with hB | hB
      · omega
      · exact hB.2 z2
/-- the valley, as far as maid number k, out of a text -/
def stI (σ1 σ2 : Mem) (c : Nat → Int32) (S M k : Nat) : Prop := (∀ a b, a ≠ 2 → ¬ (4 ≤ a ∧ a < 8) → ¬ (9 ≤ a ∧ a < 13) → σ2 a b = σ1 a b) ∧ ∀ m, m < k → σ2 2 m = kdF (c (4 + m * (S + 2))) ∧ ∀ s, s < S → σ2 (4 + m) s = c (5 + m * (S + 2) + s) - 48 ∧ σ2 (9 + m) s = c (4 + M * (S + 2) + s * (M + 1) + m) - 48
def stJ (σ1 σ2 : Mem) (c : Nat → Int32) (S M k j : Nat) : Prop := stI σ1 σ2 c S M k ∧ σ2 2 k = kdF (c (4 + k * (S + 2))) ∧ ∀ s, s < j → σ2 (4 + k) s = c (5 + k * (S + 2) + s) - 48 ∧ σ2 (9 + k) s = c (4 + M * (S + 2) + s * (M + 1) + k) - 48
theorem up_n {σ : Mem} {i k a b : Nat} {v : Int32} (h : ¬ (a = i ∧ b = k)) : up σ i k v a b = σ a b := by
  unfold up
  by_cases e : a = i
  · subst e
    rw [upR_s]
    show (if b = k then v else σ a b) = σ a b
    rw [if_neg (fun q => h ⟨rfl, q⟩)]
  · rw [upR_n e]
theorem up_s {σ : Mem} {i k : Nat} {v : Int32} : up σ i k v i k = v := by
  unfold up
  rw [upR_s]
  show (if k = k then v else σ i k) = v
  rw [if_pos rfl]
theorem stJ_0 {σ1 σ2 : Mem} {c : Nat → Int32} {S M k : Nat} (hk : k < 4) (h : stI σ1 σ2 c S M k) : stJ σ1 (up σ2 2 k (kdF (c (4 + k * (S + 2))))) c S M k 0 := by
  refine ⟨⟨fun a b h1 h2 h3 => ?_, fun m hm => ?_⟩, up_s, fun s hs => absurd hs (by omega)⟩
  · rw [up_n (by omega)]; exact h.1 a b h1 h2 h3
  · obtain ⟨h1, h2⟩ := h.2 m hm
    refine ⟨by rw [up_n (by omega)]; exact h1, fun s hs => ?_⟩
    rw [up_n (by omega), up_n (by omega)]
    exact h2 s hs
theorem stJ_s {σ1 σ2 : Mem} {c : Nat → Int32} {S M k j : Nat} (hk : k < 4) (h : stJ σ1 σ2 c S M k j) : stJ σ1 (up (up σ2 (4 + k) j (c (5 + k * (S + 2) + j) - 48)) (9 + k) j (c (4 + M * (S + 2) + j * (M + 1) + k) - 48)) c S M k (j + 1) := by
  obtain ⟨⟨h1, h2⟩, h3, h4⟩ := h
  refine ⟨⟨fun a b e1 e2 e3 => ?_, fun m hm => ?_⟩, ?_, fun s hs => ?_⟩
  · rw [up_n (by omega), up_n (by omega)]; exact h1 a b e1 e2 e3
  · obtain ⟨g1, g2⟩ := h2 m hm
    refine ⟨by rw [up_n (by omega), up_n (by omega)]; exact g1, fun s hs => ?_⟩
    rw [up_n (by omega), up_n (by omega), up_n (by omega), up_n (by omega)]
    exact g2 s hs
  · rw [up_n (by omega), up_n (by omega)]; exact h3
  · by_cases e : s = j
    · subst e
      exact ⟨by rw [up_n (by omega), up_s], up_s⟩
    · rw [up_n (by omega), up_n (by omega), up_n (by omega), up_n (by omega)]
      exact h4 s (by omega)
theorem stJ_e {σ1 σ2 : Mem} {c : Nat → Int32} {S M k : Nat} (h : stJ σ1 σ2 c S M k S) : stI σ1 σ2 c S M (k + 1) := by
  refine ⟨h.1.1, fun m hm => ?_⟩
  by_cases e : m = k
  · subst e; exact ⟨h.2.1, h.2.2⟩
  · exact h.1.2 m (by omega)
theorem stI_33 {σ1 σ2 : Mem} {c : Nat → Int32} {S M k : Nat} (h : stI σ1 σ2 c S M k) (hc : ∀ j, σ1 33 j = c j) (j : Nat) : σ2 33 j = c j := (h.1 33 j (by omega) (by omega) (by omega)).trans (hc j)

set_option maxHeartbeats 4000000 in
set_option maxRecDepth 20000 in
theorem c_firstFault_loop (σ : Mem) (N : Nat) (hN : N ≤ 100) (d : Nat) (hd : 3 ≤ d) : ∀ (n : Nat) (k : Nat) (hm : 3 < k + n) (hk : k ≤ 3) (hI : ∀ j, j < k → j < N ∧ hdP j (σ 33 j)), PAt (EM d (Pi (fun v σ2 => ffP (σ 33) N v ∧ σ2 = σ))) mX5_firstFault 2 [(2, .int (nI k)), (0, .ref 33), (1, .int (nI N))] [] σ := by
  obtain ⟨d, rfl⟩ : ∃ e, d = e + 1 := ⟨d - 1, by omega⟩
  intro n
  induction n with
  | zero => intro k hm hk hI; exact absurd hm (by omega)
  | succ n ih =>
    intro k hm hk hI
    refine tq_iload_n 0 (dget dX5_firstFault 2 rfl) rfl rfl ?_
    refine tq_iconst (v := 3) (dget dX5_firstFault 3 rfl) rfl ?_
    refine tq_icmp_ge (tgt := 30) (dget dX5_firstFault 4 rfl) (by decide) (fun c_4 => ?_) (fun c_4 => ?_)
    · have g_4 := kle (a := 3) (b := k) (by omega) (by omega) c_4
      have g_5 : k = 3 := by omega
      have hI3 : ∀ j, j < 3 → j < N ∧ hdP j (σ 33 j) := fun j hj => hI j (by omega)
      have q1 := dS_of (hI3 1 (by omega)).2
      have q2 := dM_of (hI3 2 (by omega)).2
      refine tq_aload_n 1 (dget dX5_firstFault 18 rfl) rfl rfl ?_
      refine tq_iload_n 2 (dget dX5_firstFault 19 rfl) rfl rfl ?_
      refine tq_aload_n 1 (dget dX5_firstFault 20 rfl) rfl rfl ?_
      refine tq_iconst (v := 1) (dget dX5_firstFault 21 rfl) rfl ?_
      refine tq_ialdN 1 (dget dX5_firstFault 22 rfl) rfl (by decide) rfl (by decide) ?_
      refine tq_bipush (v := 48) (dget dX5_firstFault 23 rfl) rfl ?_
      refine tq_isub (dget dX5_firstFault 24 rfl) ?_
      refine tq_eqi (y := (nI (dS (σ 33)))) q1.1 ?_
      refine tq_aload_n 1 (dget dX5_firstFault 25 rfl) rfl rfl ?_
      refine tq_iconst (v := 2) (dget dX5_firstFault 26 rfl) rfl ?_
      refine tq_ialdN 2 (dget dX5_firstFault 27 rfl) rfl (by decide) rfl (by decide) ?_
      refine tq_bipush (v := 48) (dget dX5_firstFault 28 rfl) rfl ?_
      refine tq_isub (dget dX5_firstFault 29 rfl) ?_
      refine tq_eqi (y := (nI (dM (σ 33)))) q2.1 ?_
      refine mq_Si (As := [.ref 33, .int (nI N), .int (nI (dS (σ 33))), .int (nI (dM (σ 33)))]) (rest := []) (dget dX5_firstFault 30 rfl) lX5_15 miX5_firstFaultBehindHead (c_behind σ (dS (σ 33)) (dM (σ 33)) N q1.2.2 q2.2.2 hN d (by omega)) rfl rfl (Nat.le_of_ble_eq_true rfl) (Nat.le_of_ble_eq_true rfl) (fun r_44 σ_44 h_44 => ?_)
      exact tq_iret rfl (dget dX5_firstFault 31 rfl) ⟨_, rfl, ff_behind hI3 h_44.1, h_44.2⟩
    · have g_4 := knle (b := k) (a := 3) (by omega) (by omega) c_4
      refine tq_iload_n 0 (dget dX5_firstFault 5 rfl) rfl rfl ?_
      refine tq_iload_n 2 (dget dX5_firstFault 6 rfl) rfl rfl ?_
      refine tq_icmp_ge (tgt := 22) (dget dX5_firstFault 7 rfl) (by decide) (fun c_9 => ?_) (fun c_9 => ?_)
      · have g_9 := kle (by omega) (by omega) c_9
        refine tq_iload_n 0 (dget dX5_firstFault 14 rfl) rfl rfl ?_
        exact tq_iret rfl (dget dX5_firstFault 15 rfl) ⟨_, rfl, ff_head g_4 hI (fun q => by omega), rfl⟩
      · have g_9 := knle (by omega) (by omega) c_9
        refine tq_iload_n 0 (dget dX5_firstFault 8 rfl) rfl rfl ?_
        refine tq_aload_n 1 (dget dX5_firstFault 9 rfl) rfl rfl ?_
        refine tq_iload_n 0 (dget dX5_firstFault 10 rfl) rfl rfl ?_
        refine tq_ialdN k (dget dX5_firstFault 11 rfl) rfl (by decide) rfl (by omega) ?_
        refine mq_Si (As := [.int (nI k), .int (σ 33 k)]) (rest := []) (dget dX5_firstFault 12 rfl) lX5_11 miX5_fitsHead (c_fitsHead σ k (σ 33 k) d (by omega) (by omega)) rfl rfl (Nat.le_of_ble_eq_true rfl) (Nat.le_of_ble_eq_true rfl) (fun r_16 σ_16 h_16 => ?_)
        obtain ⟨b_16, e_16⟩ := h_16
        obtain rfl := e_16.symm
        refine tq_if_ne (tgt := 24) (dget dX5_firstFault 13 rfl) (by decide) (fun c_19 => ?_) (fun c_19 => ?_)
        · refine tq_iinc (v := (nI (k + 1))) (ls2 := [(2, .int (nI (k + 1))), (0, .ref 33), (1, .int (nI N))]) 0 (dget dX5_firstFault 16 rfl) rfl (nI_1 k) (by decide) rfl ?_
          refine tq_goto (tgt := 2) (dget dX5_firstFault 17 rfl) (by decide) ?_
          refine tq_sub [0, 1, 2] (ls' := [(2, .int (nI (k + 1))), (0, .ref 33), (1, .int (nI N))]) rfl ?_
          refine ih (k + 1) (by omega) (by omega) (fun j hj => ?_)
          by_cases e : j = k
          · rw [e]; exact ⟨g_9, b_16.t c_19⟩
          · exact hI j (by omega)
        · refine tq_iload_n 0 (dget dX5_firstFault 14 rfl) rfl rfl ?_
          exact tq_iret rfl (dget dX5_firstFault 15 rfl) ⟨_, rfl, ff_head g_4 hI (fun q => b_16.f c_19 q.2), rfl⟩
set_option maxHeartbeats 4000000 in
set_option maxRecDepth 20000 in
theorem c_firstFault (σ : Mem) (N : Nat) (hN : N ≤ 100) (d : Nat) (hd : 3 ≤ d) : PMet d mX5_firstFault [.ref 33, .int (nI N)] σ (Pi (fun v σ2 => ffP (σ 33) N v ∧ σ2 = σ)) := by
  obtain ⟨d, rfl⟩ : ∃ e, d = e + 1 := ⟨d - 1, by omega⟩
  refine PMet.start (ls0 := [(0, .ref 33), (1, .int (nI N))]) miX5_firstFault.1 (Nat.le_of_ble_eq_true rfl) rfl ?_
  refine tq_iconst (v := 0) (dget dX5_firstFault 0 rfl) rfl ?_
  refine tq_istore_n (ls2 := [(2, .int 0), (0, .ref 33), (1, .int (nI N))]) (dget dX5_firstFault 1 rfl) rfl (by decide) rfl ?_
  refine tq_sub [0, 1, 2] (ls' := [(2, .int 0), (0, .ref 33), (1, .int (nI N))]) rfl ?_
  exact c_firstFault_loop σ N hN (d + 1) (by omega) 4 0 (by omega) (by omega) (fun j hj => absurd hj (by omega))
set_option maxHeartbeats 4000000 in
set_option maxRecDepth 20000 in
theorem c_settle_inner (σ1 : Mem) (c : Nat → Int32) (S M : Nat) (hS : S ≤ 6) (hM : M ≤ 4) (hc : ∀ j, σ1 33 j = c j) (hV : σ1 1 0 = nI S ∧ σ1 1 1 = nI M) (k : Nat) (hk4 : k < M) (d : Nat) (hd : 2 ≤ d) : ∀ (n : Nat) (j : Nat) (σ2 : Mem) (hm : S < j + n) (hj : j ≤ S) (hJ : stJ σ1 σ2 c S M k j) (hout : ∀ σ3, stI σ1 σ3 c S M (k + 1) → PAt (EM d (Pv (fun σ3 => stI σ1 σ3 c S M M))) mX6_settle 27 [(2, .int (nI (k + 1))), (0, .ref 1), (1, .ref 33)] [] σ3), PAt (EM d (Pv (fun σ3 => stI σ1 σ3 c S M M))) mX6_settle 61 [(4, .int (nI j)), (3, .int (nI (3 + k * (S + 2)))), (2, .int (nI k)), (0, .ref 1), (1, .ref 33)] [] σ2 := by
  obtain ⟨d, rfl⟩ : ∃ e, d = e + 1 := ⟨d - 1, by omega⟩
  intro n
  induction n with
  | zero => intro j σ2 hm hj hJ hout; exact absurd hm (by omega)
  | succ n ih =>
    intro j σ2 hm hj hJ hout
    have hb1 : k * (S + 2) ≤ 3 * 8 := Nat.mul_le_mul (by omega) (by omega)
    have hb2 : M * (S + 2) ≤ 4 * 8 := Nat.mul_le_mul (by omega) (by omega)
    have hb3 : j * (M + 1) ≤ 6 * 5 := Nat.mul_le_mul (by omega) (by omega)
    refine tq_iload 0 (dget dX6_settle 40 rfl) rfl ?_
    refine tq_aload_n 3 (dget dX6_settle 41 rfl) rfl rfl ?_
    refine tq_getI (dget dX6_settle 42 rfl) fX6_27 rfl rfl ?_
    refine tq_eqi (y := (nI S)) ((hJ.1.1 1 0 (by omega) (by omega) (by omega)).trans hV.1) ?_
    refine tq_icmp_ge (tgt := 127) (dget dX6_settle 43 rfl) (by decide) (fun c_67 => ?_) (fun c_67 => ?_)
    · have g_67 := kle (by omega) (by omega) c_67
      have g_68 : j = S := by omega
      refine tq_iinc (v := (nI (k + 1))) (ls2 := [(2, .int (nI (k + 1))), (4, .int (nI j)), (3, .int (nI (3 + k * (S + 2)))), (0, .ref 1), (1, .ref 33)]) 2 (dget dX6_settle 81 rfl) rfl (nI_1 k) (by decide) rfl ?_
      refine tq_goto (tgt := 27) (dget dX6_settle 82 rfl) (by decide) ?_
      refine tq_sub [0, 3, 4] (ls' := [(2, .int (nI (k + 1))), (0, .ref 1), (1, .ref 33)]) rfl ?_
      exact hout _ (by rw [g_68] at hJ; exact stJ_e hJ)
    · have g_67 := knle (by omega) (by omega) c_67
      refine tq_aload_n 3 (dget dX6_settle 44 rfl) rfl rfl ?_
      refine tq_getR (dget dX6_settle 45 rfl) fX6_17 rfl rfl ?_
      refine tq_iload_n 2 (dget dX6_settle 46 rfl) rfl rfl ?_
      refine tq_hers k (dget dX6_settle 47 rfl) rfl (by omega) ?_
      refine tq_iload 0 (dget dX6_settle 48 rfl) rfl ?_
      refine tq_aload_n 4 (dget dX6_settle 49 rfl) rfl rfl ?_
      refine tq_iload_n 1 (dget dX6_settle 50 rfl) rfl rfl ?_
      refine tq_iconst (v := 2) (dget dX6_settle 51 rfl) rfl ?_
      refine tq_iadd (dget dX6_settle 52 rfl) ?_
      refine tq_eqi (y := (nI (5 + k * (S + 2)))) (by rw [show (2 : Int32) = nI 2 from rfl, nI_add, show 3 + k * (S + 2) + 2 = 5 + k * (S + 2) by omega]) ?_
      refine tq_iload 0 (dget dX6_settle 53 rfl) rfl ?_
      refine tq_iadd (dget dX6_settle 54 rfl) ?_
      refine tq_eqi (y := (nI (5 + k * (S + 2) + j))) (nI_add _ _) ?_
      refine tq_ialdN (5 + k * (S + 2) + j) (dget dX6_settle 55 rfl) rfl (by decide) rfl (by omega) ?_
      refine tq_eqi (y := (c (5 + k * (S + 2) + j))) (stI_33 hJ.1 hc _) ?_
      refine tq_bipush (v := 48) (dget dX6_settle 56 rfl) rfl ?_
      refine tq_isub (dget dX6_settle 57 rfl) ?_
      refine tq_iastN j (dget dX6_settle 58 rfl) (SH_hers (by omega)) (by decide) rfl (by omega) ?_
      refine tq_aload_n 3 (dget dX6_settle 59 rfl) rfl rfl ?_
      refine tq_getR (dget dX6_settle 60 rfl) fX6_20 rfl rfl ?_
      refine tq_iload_n 2 (dget dX6_settle 61 rfl) rfl rfl ?_
      refine tq_his k (dget dX6_settle 62 rfl) rfl (by omega) ?_
      refine tq_iload 0 (dget dX6_settle 63 rfl) rfl ?_
      refine tq_aload_n 4 (dget dX6_settle 64 rfl) rfl rfl ?_
      refine tq_aload_n 3 (dget dX6_settle 65 rfl) rfl rfl ?_
      refine tq_getI (dget dX6_settle 66 rfl) fX6_27 rfl rfl ?_
      refine tq_eqi (y := (nI S)) (by rw [up_n (by omega)]; exact (hJ.1.1 1 0 (by omega) (by omega) (by omega)).trans hV.1) ?_
      refine tq_aload_n 3 (dget dX6_settle 67 rfl) rfl rfl ?_
      refine tq_getI (dget dX6_settle 68 rfl) fX6_23 rfl rfl ?_
      refine tq_eqi (y := (nI M)) (by rw [up_n (by omega)]; exact (hJ.1.1 1 1 (by omega) (by omega) (by omega)).trans hV.2) ?_
      refine tq_iload 0 (dget dX6_settle 69 rfl) rfl ?_
      refine mq_Si (As := [.int (nI S), .int (nI M), .int (nI j)]) (rest := [.ref 33, .int (nI j), .ref (9 + k)]) (dget dX6_settle 70 rfl) lX6_47 miX5_suitorPlace (c_suitorPlace (up σ2 (4 + k) j ((c (5 + k * (S + 2) + j)) - 48)) S M j d (by omega)) rfl rfl (Nat.le_of_ble_eq_true rfl) (Nat.le_of_ble_eq_true rfl) (fun r_109 σ_109 h_109 => ?_)
      obtain ⟨a_109, e_109⟩ := h_109
      obtain rfl := a_109.symm
      obtain rfl := e_109.symm
      refine tq_iconst (v := 1) (dget dX6_settle 71 rfl) rfl ?_
      refine tq_iadd (dget dX6_settle 72 rfl) ?_
      refine tq_eqi (y := (nI (4 + M * (S + 2) + j * (M + 1)))) (by rw [show (1 : Int32) = nI 1 from rfl, nI_add, show 3 + M * (S + 2) + j * (M + 1) + 1 = 4 + M * (S + 2) + j * (M + 1) by omega]) ?_
      refine tq_iload_n 2 (dget dX6_settle 73 rfl) rfl rfl ?_
      refine tq_iadd (dget dX6_settle 74 rfl) ?_
      refine tq_eqi (y := (nI (4 + M * (S + 2) + j * (M + 1) + k))) (nI_add _ _) ?_
      refine tq_ialdN (4 + M * (S + 2) + j * (M + 1) + k) (dget dX6_settle 75 rfl) rfl (by decide) rfl (by omega) ?_
      refine tq_eqi (y := (c (4 + M * (S + 2) + j * (M + 1) + k))) (by rw [up_n (by omega)]; exact stI_33 hJ.1 hc _) ?_
      refine tq_bipush (v := 48) (dget dX6_settle 76 rfl) rfl ?_
      refine tq_isub (dget dX6_settle 77 rfl) ?_
      refine tq_iastN j (dget dX6_settle 78 rfl) (SH_his (by omega)) (by decide) rfl (by omega) ?_
      refine tq_iinc (v := (nI (j + 1))) (ls2 := [(4, .int (nI (j + 1))), (3, .int (nI (3 + k * (S + 2)))), (2, .int (nI k)), (0, .ref 1), (1, .ref 33)]) 0 (dget dX6_settle 79 rfl) rfl (nI_1 j) (by decide) rfl ?_
      refine tq_goto (tgt := 61) (dget dX6_settle 80 rfl) (by decide) ?_
      refine tq_sub [0, 1, 2, 3, 4] (ls' := [(4, .int (nI (j + 1))), (3, .int (nI (3 + k * (S + 2)))), (2, .int (nI k)), (0, .ref 1), (1, .ref 33)]) rfl ?_
      exact ih (j + 1) _ (by omega) (by omega) (stJ_s (by omega) hJ) hout
set_option maxHeartbeats 4000000 in
set_option maxRecDepth 20000 in
theorem c_settle_outer (σ1 : Mem) (c : Nat → Int32) (S M : Nat) (hS : S ≤ 6) (hM : M ≤ 4) (hc : ∀ j, σ1 33 j = c j) (hV : σ1 1 0 = nI S ∧ σ1 1 1 = nI M) (d : Nat) (hd : 2 ≤ d) : ∀ (n : Nat) (k : Nat) (σ2 : Mem) (hm : M < k + n) (hk : k ≤ M) (hI : stI σ1 σ2 c S M k), PAt (EM d (Pv (fun σ3 => stI σ1 σ3 c S M M))) mX6_settle 27 [(2, .int (nI k)), (0, .ref 1), (1, .ref 33)] [] σ2 := by
  obtain ⟨d, rfl⟩ : ∃ e, d = e + 1 := ⟨d - 1, by omega⟩
  intro n
  induction n with
  | zero => intro k σ2 hm hk hI; exact absurd hm (by omega)
  | succ n ih =>
    intro k σ2 hm hk hI
    have hb1 : k * (S + 2) ≤ 4 * 8 := Nat.mul_le_mul (by omega) (by omega)
    refine tq_iload_n 0 (dget dX6_settle 19 rfl) rfl rfl ?_
    refine tq_aload_n 1 (dget dX6_settle 20 rfl) rfl rfl ?_
    refine tq_getI (dget dX6_settle 21 rfl) fX6_23 rfl rfl ?_
    refine tq_eqi (y := (nI M)) ((hI.1 1 1 (by omega) (by omega) (by omega)).trans hV.2) ?_
    refine tq_icmp_ge (tgt := 133) (dget dX6_settle 22 rfl) (by decide) (fun c_32 => ?_) (fun c_32 => ?_)
    · have g_32 := kle (by omega) (by omega) c_32
      have g_33 : k = M := by omega
      exact tq_vret rfl (dget dX6_settle 83 rfl) ⟨rfl, by rw [g_33] at hI; exact hI⟩
    · have g_32 := knle (by omega) (by omega) c_32
      refine tq_aload_n 1 (dget dX6_settle 23 rfl) rfl rfl ?_
      refine tq_getI (dget dX6_settle 24 rfl) fX6_27 rfl rfl ?_
      refine tq_eqi (y := (nI S)) ((hI.1 1 0 (by omega) (by omega) (by omega)).trans hV.1) ?_
      refine tq_iload_n 0 (dget dX6_settle 25 rfl) rfl rfl ?_
      refine mq_Si (As := [.int (nI S), .int (nI k)]) (rest := []) (dget dX6_settle 26 rfl) lX6_37 miX5_maidPlace (c_maidPlace σ2 S k d (by omega)) rfl rfl (Nat.le_of_ble_eq_true rfl) (Nat.le_of_ble_eq_true rfl) (fun r_40 σ_40 h_40 => ?_)
      obtain ⟨a_40, e_40⟩ := h_40
      obtain rfl := a_40.symm
      obtain rfl := e_40.symm
      refine tq_istore_n (ls2 := [(3, .int (nI (3 + k * (S + 2)))), (2, .int (nI k)), (0, .ref 1), (1, .ref 33)]) (dget dX6_settle 27 rfl) rfl (by decide) rfl ?_
      refine tq_aload_n 2 (dget dX6_settle 28 rfl) rfl rfl ?_
      refine tq_getR (dget dX6_settle 29 rfl) fX6_9 rfl rfl ?_
      refine tq_iload_n 1 (dget dX6_settle 30 rfl) rfl rfl ?_
      refine tq_aload_n 3 (dget dX6_settle 31 rfl) rfl rfl ?_
      refine tq_iload_n 0 (dget dX6_settle 32 rfl) rfl rfl ?_
      refine tq_iconst (v := 1) (dget dX6_settle 33 rfl) rfl ?_
      refine tq_iadd (dget dX6_settle 34 rfl) ?_
      refine tq_eqi (y := (nI (4 + k * (S + 2)))) (by rw [show (1 : Int32) = nI 1 from rfl, nI_add, show 3 + k * (S + 2) + 1 = 4 + k * (S + 2) by omega]) ?_
      refine tq_ialdN (4 + k * (S + 2)) (dget dX6_settle 35 rfl) rfl (by decide) rfl (by omega) ?_
      refine tq_eqi (y := (c (4 + k * (S + 2)))) (stI_33 hI hc _) ?_
      refine mq_Si (As := [.int (c (4 + k * (S + 2)))]) (rest := [.int (nI k), .ref 2]) (dget dX6_settle 36 rfl) lX6_43 miX5_kindOf (c_kindOf σ2 (c (4 + k * (S + 2))) d (by omega)) rfl rfl (Nat.le_of_ble_eq_true rfl) (Nat.le_of_ble_eq_true rfl) (fun r_54 σ_54 h_54 => ?_)
      obtain ⟨a_54, e_54⟩ := h_54
      obtain rfl := a_54.symm
      obtain rfl := e_54.symm
      refine tq_iastN k (dget dX6_settle 37 rfl) rfl (by decide) rfl (by omega) ?_
      refine tq_iconst (v := 0) (dget dX6_settle 38 rfl) rfl ?_
      refine tq_istore (ls2 := [(4, .int 0), (3, .int (nI (3 + k * (S + 2)))), (2, .int (nI k)), (0, .ref 1), (1, .ref 33)]) (dget dX6_settle 39 rfl) (by decide) rfl ?_
      refine tq_sub [0, 1, 2, 3, 4] (ls' := [(4, .int 0), (3, .int (nI (3 + k * (S + 2)))), (2, .int (nI k)), (0, .ref 1), (1, .ref 33)]) rfl ?_
      exact c_settle_inner σ1 c S M hS hM hc hV k g_32 (d + 1) (by omega) (S + 1) 0 _ (by omega) (by omega) (stJ_0 (by omega) hI) (fun σ3 h3 => ih (k + 1) σ3 (by omega) (by omega) h3)
set_option maxHeartbeats 4000000 in
set_option maxRecDepth 20000 in
theorem c_settle (σ : Mem) (h1 : hdP 1 (σ 33 1)) (h2 : hdP 2 (σ 33 2)) (d : Nat) (hd : 2 ≤ d) : PMet d mX6_settle [.ref 1, .ref 33] σ (Pv (fun σ3 => stI (up (up (up σ 1 0 (nI (dS (σ 33)))) 1 1 (nI (dM (σ 33)))) 1 2 3) σ3 (σ 33) (dS (σ 33)) (dM (σ 33)) (dM (σ 33)))) := by
  obtain ⟨d, rfl⟩ : ∃ e, d = e + 1 := ⟨d - 1, by omega⟩
  refine PMet.start (ls0 := [(0, .ref 1), (1, .ref 33)]) miX6_settle.1 (Nat.le_of_ble_eq_true rfl) rfl ?_
  have q1 := dS_of h1
  have q2 := dM_of h2
  refine tq_aload_n 0 (dget dX6_settle 0 rfl) rfl rfl ?_
  refine tq_aload_n 1 (dget dX6_settle 1 rfl) rfl rfl ?_
  refine tq_iconst (v := 1) (dget dX6_settle 2 rfl) rfl ?_
  refine tq_ialdN 1 (dget dX6_settle 3 rfl) rfl (by decide) rfl (by decide) ?_
  refine tq_bipush (v := 48) (dget dX6_settle 4 rfl) rfl ?_
  refine tq_isub (dget dX6_settle 5 rfl) ?_
  refine tq_eqi (y := (nI (dS (σ 33)))) q1.1 ?_
  refine tq_putI (dget dX6_settle 6 rfl) fX6_27 rfl rfl rfl rfl ?_
  refine tq_aload_n 0 (dget dX6_settle 7 rfl) rfl rfl ?_
  refine tq_aload_n 1 (dget dX6_settle 8 rfl) rfl rfl ?_
  refine tq_iconst (v := 2) (dget dX6_settle 9 rfl) rfl ?_
  refine tq_ialdN 2 (dget dX6_settle 10 rfl) rfl (by decide) rfl (by decide) ?_
  refine tq_bipush (v := 48) (dget dX6_settle 11 rfl) rfl ?_
  refine tq_isub (dget dX6_settle 12 rfl) ?_
  refine tq_eqi (y := (nI (dM (σ 33)))) q2.1 ?_
  refine tq_putI (dget dX6_settle 13 rfl) fX6_23 rfl rfl rfl rfl ?_
  refine tq_aload_n 0 (dget dX6_settle 14 rfl) rfl rfl ?_
  refine tq_iconst (v := 3) (dget dX6_settle 15 rfl) rfl ?_
  refine tq_putI (dget dX6_settle 16 rfl) fX6_34 rfl rfl rfl rfl ?_
  refine tq_iconst (v := 0) (dget dX6_settle 17 rfl) rfl ?_
  refine tq_istore_n (ls2 := [(2, .int 0), (0, .ref 1), (1, .ref 33)]) (dget dX6_settle 18 rfl) rfl (by decide) rfl ?_
  refine tq_sub [0, 1, 2] (ls' := [(2, .int 0), (0, .ref 1), (1, .ref 33)]) rfl ?_
  exact c_settle_outer (up (up (up σ 1 0 (nI (dS (σ 33)))) 1 1 (nI (dM (σ 33)))) 1 2 3) (σ 33) (dS (σ 33)) (dM (σ 33)) q1.2.2 q2.2.2 (fun j => rfl) ⟨rfl, rfl⟩ (d + 1) (by omega) (dM (σ 33) + 1) 0 _ (by omega) (by omega) ⟨fun a b _ _ _ => rfl, fun m hm => absurd hm (by omega)⟩
end
section
/-! ===== readings ===== -/
def isoP (t kind r lk : Int32) : Prop := t = if mindF kind r ≤ lk then 1 else 0
def soL (σ : Mem) (C m s : Nat) (lk : Int32) : Prop := ∀ k, k < C → σ 22 k = nI m → σ 23 k = nI s → isoP (σ 25 k) (σ 2 m) (σ 24 k) lk
def soK (σ : Mem) (C m : Nat) (w : Nat → Nat) (kind : Int32) : Prop := ∀ k, k < C → σ 22 k = nI m → isoP (σ 25 k) kind (σ 24 k) (σ (4 + m) (w k))
def llP (P : Nat → Prop) (v : Int32) : Prop := (∃ j, j < 10 ∧ v = nI j ∧ P j ∧ ∀ i, i < j → ¬ P i) ∨ (v = -9 ∧ ∀ i, i < 10 → ¬ P i)
def glP (P : Nat → Prop) (v : Int32) : Prop := (∃ j, j < 10 ∧ v = nI j ∧ P j ∧ ∀ i, j < i → i < 10 → ¬ P i) ∨ (v = -9 ∧ ∀ i, i < 10 → ¬ P i)
noncomputable def ksF (P : Nat → Prop) : Nat → Int32
  | 0 => 0
  | k + 1 => @ite _ (P k) (Classical.propDecidable _) (ksF P k ||| (1 <<< (nI k &&& 31))) (ksF P k)
theorem ksF_y {P : Nat → Prop} {k : Nat} (h : P k) : ksF P (k + 1) = ksF P k ||| (1 <<< (nI k &&& 31)) := by rw [ksF, if_pos h]
theorem ksF_n {P : Nat → Prop} {k : Nat} (h : ¬ P k) : ksF P (k + 1) = ksF P k := by rw [ksF, if_neg h]

set_option maxHeartbeats 4000000 in
set_option maxRecDepth 20000 in
theorem c_isSo (σ : Mem) (k : Nat) (kind lk : Int32) (hk : k < 8) (d : Nat) (hd : 1 ≤ d) : PMet d mX3_isSo [.ref 21, .int (nI k), .int kind, .int lk] σ (Pi (fun v σ2 => BP (isoP (σ 25 k) kind (σ 24 k) lk) v ∧ σ2 = σ)) := by
  obtain ⟨d, rfl⟩ : ∃ e, d = e + 1 := ⟨d - 1, by omega⟩
  refine PMet.start (ls0 := [(0, .ref 21), (1, .int (nI k)), (2, .int kind), (3, .int lk)]) miX3_isSo.1 (Nat.le_of_ble_eq_true rfl) rfl ?_
  refine tq_aload_n 0 (dget dX3_isSo 0 rfl) rfl rfl ?_
  refine tq_getR (dget dX3_isSo 1 rfl) fX3_21 rfl rfl ?_
  refine tq_iload_n 1 (dget dX3_isSo 2 rfl) rfl rfl ?_
  refine tq_zaldN k (dget dX3_isSo 3 rfl) rfl (by decide) rfl (by omega) ?_
  refine tq_iload_n 3 (dget dX3_isSo 4 rfl) rfl rfl ?_
  refine tq_iload_n 2 (dget dX3_isSo 5 rfl) rfl rfl ?_
  refine tq_aload_n 0 (dget dX3_isSo 6 rfl) rfl rfl ?_
  refine tq_getR (dget dX3_isSo 7 rfl) fX3_18 rfl rfl ?_
  refine tq_iload_n 1 (dget dX3_isSo 8 rfl) rfl rfl ?_
  refine tq_ialdN k (dget dX3_isSo 9 rfl) rfl (by decide) rfl (by omega) ?_
  refine mq_Si (As := [.int kind, .int (σ 24 k)]) (rest := [.int lk, .int (σ 25 k)]) (dget dX3_isSo 10 rfl) lX3_50 miX6_mind (c_mind σ kind (σ 24 k) d (by omega)) rfl rfl (Nat.le_of_ble_eq_true rfl) (Nat.le_of_ble_eq_true rfl) (fun r_14 σ_14 h_14 => ?_)
  obtain ⟨a_14, e_14⟩ := h_14
  obtain rfl := a_14.symm
  obtain rfl := e_14.symm
  refine tq_icmp_lt (tgt := 24) (dget dX3_isSo 11 rfl) (by decide) (fun c_17 => ?_) (fun c_17 => ?_)
  · refine tq_iconst (v := 0) (dget dX3_isSo 14 rfl) rfl ?_
    refine tq_icmp_ne (tgt := 32) (dget dX3_isSo 15 rfl) (by decide) (fun c_25 => ?_) (fun c_25 => ?_)
    · refine tq_iconst (v := 0) (dget dX3_isSo 18 rfl) rfl ?_
      exact tq_zret rfl rfl (dget dX3_isSo 19 rfl) ⟨_, rfl, BP.n (by unfold isoP; rw [if_neg (Int32.not_le.mpr c_17)]; exact c_25), rfl⟩
    · refine tq_iconst (v := 1) (dget dX3_isSo 16 rfl) rfl ?_
      refine tq_goto (tgt := 33) (dget dX3_isSo 17 rfl) (by decide) ?_
      exact tq_zret rfl rfl (dget dX3_isSo 19 rfl) ⟨_, rfl, BP.y (by unfold isoP; rw [if_neg (Int32.not_le.mpr c_17)]; exact c_25), rfl⟩
  · refine tq_iconst (v := 1) (dget dX3_isSo 12 rfl) rfl ?_
    refine tq_goto (tgt := 25) (dget dX3_isSo 13 rfl) (by decide) ?_
    refine tq_icmp_ne (tgt := 32) (dget dX3_isSo 15 rfl) (by decide) (fun c_25 => ?_) (fun c_25 => ?_)
    · refine tq_iconst (v := 0) (dget dX3_isSo 18 rfl) rfl ?_
      exact tq_zret rfl rfl (dget dX3_isSo 19 rfl) ⟨_, rfl, BP.n (by unfold isoP; rw [if_pos (Int32.not_lt.mp c_17)]; exact c_25), rfl⟩
    · refine tq_iconst (v := 1) (dget dX3_isSo 16 rfl) rfl ?_
      refine tq_goto (tgt := 33) (dget dX3_isSo 17 rfl) (by decide) ?_
      exact tq_zret rfl rfl (dget dX3_isSo 19 rfl) ⟨_, rfl, BP.y (by unfold isoP; rw [if_pos (Int32.not_lt.mp c_17)]; exact c_25), rfl⟩
set_option maxHeartbeats 4000000 in
set_option maxRecDepth 20000 in
theorem c_soL_loop (σ : Mem) (C m : Nat) (hC : σ 21 4 = nI C) (hC8 : C ≤ 8) (hm4 : m < 4) (s : Nat) (lk : Int32) (d : Nat) (hd : 2 ≤ d) : ∀ (n : Nat) (k : Nat) (hm : C < k + n) (hk : k ≤ C) (hI : soL σ k m s lk), PAt (EM d (Pi (fun v σ2 => BP (soL σ C m s lk) v ∧ σ2 = σ))) mX3_areSoByLiking 3 [(5, .int (nI k)), (0, .ref 21), (1, .ref 1), (2, .int (nI m)), (3, .int (nI s)), (4, .int lk)] [] σ := by
  obtain ⟨d, rfl⟩ : ∃ e, d = e + 1 := ⟨d - 1, by omega⟩
  intro n
  induction n with
  | zero => intro k hm hk hI; exact absurd hm (by omega)
  | succ n ih =>
    intro k hm hk hI
    refine tq_iload 0 (dget dX3_areSoByLiking 2 rfl) rfl ?_
    refine tq_aload_n 1 (dget dX3_areSoByLiking 3 rfl) rfl rfl ?_
    refine tq_getI (dget dX3_areSoByLiking 4 rfl) fX3_25 rfl rfl ?_
    refine tq_icmp_ge (tgt := 59) (dget dX3_areSoByLiking 5 rfl) (by decide) (fun c_9 => ?_) (fun c_9 => ?_)
    · rw [hC] at c_9
      have g_9 := kle (by omega) (by omega) c_9
      refine tq_iconst (v := 1) (dget dX3_areSoByLiking 31 rfl) rfl ?_
      exact tq_zret rfl rfl (dget dX3_areSoByLiking 32 rfl) ⟨_, rfl, BP.y (fun j hj => hI j (by omega)), rfl⟩
    · rw [hC] at c_9
      have g_9 := knle (by omega) (by omega) c_9
      refine tq_aload_n 1 (dget dX3_areSoByLiking 6 rfl) rfl rfl ?_
      refine tq_getR (dget dX3_areSoByLiking 7 rfl) fX3_9 rfl rfl ?_
      refine tq_iload 0 (dget dX3_areSoByLiking 8 rfl) rfl ?_
      refine tq_ialdN k (dget dX3_areSoByLiking 9 rfl) rfl (by decide) rfl (by omega) ?_
      refine tq_iload_n 3 (dget dX3_areSoByLiking 10 rfl) rfl rfl ?_
      refine tq_icmp_ne (tgt := 53) (dget dX3_areSoByLiking 11 rfl) (by decide) (fun c_20 => ?_) (fun c_20 => ?_)
      · refine tq_iinc (v := (nI (k + 1))) (ls2 := [(5, .int (nI (k + 1))), (0, .ref 21), (1, .ref 1), (2, .int (nI m)), (3, .int (nI s)), (4, .int lk)]) 0 (dget dX3_areSoByLiking 29 rfl) rfl (nI_1 k) (by decide) rfl ?_
        refine tq_goto (tgt := 3) (dget dX3_areSoByLiking 30 rfl) (by decide) ?_
        refine tq_sub [0, 1, 2, 3, 4, 5] (ls' := [(5, .int (nI (k + 1))), (0, .ref 21), (1, .ref 1), (2, .int (nI m)), (3, .int (nI s)), (4, .int lk)]) rfl ?_
        refine ih (k + 1) (by omega) (by omega) (fun j hj h1 h2 => ?_)
        by_cases e1 : k = j
        · subst e1; exact absurd h1 c_20
        · exact hI j (by omega) h1 h2
      · refine tq_aload_n 1 (dget dX3_areSoByLiking 12 rfl) rfl rfl ?_
        refine tq_getR (dget dX3_areSoByLiking 13 rfl) fX3_15 rfl rfl ?_
        refine tq_iload 0 (dget dX3_areSoByLiking 14 rfl) rfl ?_
        refine tq_ialdN k (dget dX3_areSoByLiking 15 rfl) rfl (by decide) rfl (by omega) ?_
        refine tq_iload_n 4 (dget dX3_areSoByLiking 16 rfl) rfl rfl ?_
        refine tq_icmp_ne (tgt := 53) (dget dX3_areSoByLiking 17 rfl) (by decide) (fun c_31 => ?_) (fun c_31 => ?_)
        · refine tq_iinc (v := (nI (k + 1))) (ls2 := [(5, .int (nI (k + 1))), (0, .ref 21), (1, .ref 1), (2, .int (nI m)), (3, .int (nI s)), (4, .int lk)]) 0 (dget dX3_areSoByLiking 29 rfl) rfl (nI_1 k) (by decide) rfl ?_
          refine tq_goto (tgt := 3) (dget dX3_areSoByLiking 30 rfl) (by decide) ?_
          refine tq_sub [0, 1, 2, 3, 4, 5] (ls' := [(5, .int (nI (k + 1))), (0, .ref 21), (1, .ref 1), (2, .int (nI m)), (3, .int (nI s)), (4, .int lk)]) rfl ?_
          refine ih (k + 1) (by omega) (by omega) (fun j hj h1 h2 => ?_)
          by_cases e1 : k = j
          · subst e1; exact absurd h2 c_31
          · exact hI j (by omega) h1 h2
        · refine tq_aload_n 1 (dget dX3_areSoByLiking 18 rfl) rfl rfl ?_
          refine tq_iload 0 (dget dX3_areSoByLiking 19 rfl) rfl ?_
          refine tq_aload_n 2 (dget dX3_areSoByLiking 20 rfl) rfl rfl ?_
          refine tq_getR (dget dX3_areSoByLiking 21 rfl) fX3_37 rfl rfl ?_
          refine tq_iload_n 3 (dget dX3_areSoByLiking 22 rfl) rfl rfl ?_
          refine tq_ialdN m (dget dX3_areSoByLiking 23 rfl) rfl (by decide) rfl (by omega) ?_
          refine tq_iload 5 (dget dX3_areSoByLiking 24 rfl) rfl ?_
          refine mq_Vi (As := [.int (nI k), .int (σ 2 m), .int lk]) (rest := []) (dget dX3_areSoByLiking 25 rfl) lX3_42 miX3_isSo (c_isSo σ k (σ 2 m) lk (by omega) d (by omega)) rfl rfl rfl rfl (Nat.le_of_ble_eq_true rfl) (Nat.le_of_ble_eq_true rfl) (fun r_45 σ_45 h_45 => ?_)
          obtain ⟨b_45, e_45⟩ := h_45
          obtain rfl := e_45.symm
          refine tq_if_ne (tgt := 53) (dget dX3_areSoByLiking 26 rfl) (by decide) (fun c_48 => ?_) (fun c_48 => ?_)
          · refine tq_iinc (v := (nI (k + 1))) (ls2 := [(5, .int (nI (k + 1))), (0, .ref 21), (1, .ref 1), (2, .int (nI m)), (3, .int (nI s)), (4, .int lk)]) 0 (dget dX3_areSoByLiking 29 rfl) rfl (nI_1 k) (by decide) rfl ?_
            refine tq_goto (tgt := 3) (dget dX3_areSoByLiking 30 rfl) (by decide) ?_
            refine tq_sub [0, 1, 2, 3, 4, 5] (ls' := [(5, .int (nI (k + 1))), (0, .ref 21), (1, .ref 1), (2, .int (nI m)), (3, .int (nI s)), (4, .int lk)]) rfl ?_
            refine ih (k + 1) (by omega) (by omega) (fun j hj h1 h2 => ?_)
            by_cases e1 : k = j
            · subst e1; exact b_45.t c_48
            · exact hI j (by omega) h1 h2
          · refine tq_iconst (v := 0) (dget dX3_areSoByLiking 27 rfl) rfl ?_
            exact tq_zret rfl rfl (dget dX3_areSoByLiking 28 rfl) ⟨_, rfl, BP.n (fun q => b_45.f c_48 (q k g_9 c_20 c_31)), rfl⟩
set_option maxHeartbeats 4000000 in
set_option maxRecDepth 20000 in
theorem c_soL (σ : Mem) (C m : Nat) (hC : σ 21 4 = nI C) (hC8 : C ≤ 8) (hm4 : m < 4) (s : Nat) (lk : Int32) (d : Nat) (hd : 2 ≤ d) : PMet d mX3_areSoByLiking [.ref 21, .ref 1, .int (nI m), .int (nI s), .int lk] σ (Pi (fun v σ2 => BP (soL σ C m s lk) v ∧ σ2 = σ)) := by
  obtain ⟨d, rfl⟩ : ∃ e, d = e + 1 := ⟨d - 1, by omega⟩
  refine PMet.start (ls0 := [(0, .ref 21), (1, .ref 1), (2, .int (nI m)), (3, .int (nI s)), (4, .int lk)]) miX3_areSoByLiking.1 (Nat.le_of_ble_eq_true rfl) rfl ?_
  refine tq_iconst (v := 0) (dget dX3_areSoByLiking 0 rfl) rfl ?_
  refine tq_istore (ls2 := [(5, .int 0), (0, .ref 21), (1, .ref 1), (2, .int (nI m)), (3, .int (nI s)), (4, .int lk)]) (dget dX3_areSoByLiking 1 rfl) (by decide) rfl ?_
  refine tq_sub [0, 1, 2, 3, 4, 5] (ls' := [(5, .int 0), (0, .ref 21), (1, .ref 1), (2, .int (nI m)), (3, .int (nI s)), (4, .int lk)]) rfl ?_
  exact c_soL_loop σ C m hC hC8 hm4 s lk (d + 1) (by omega) (C + 1) 0 (by omega) (by omega) (fun j hj => absurd hj (by omega))
set_option maxHeartbeats 4000000 in
set_option maxRecDepth 20000 in
theorem c_soK_loop (σ : Mem) (C m : Nat) (hC : σ 21 4 = nI C) (hC8 : C ≤ 8) (hm4 : m < 4) (w : Nat → Nat) (hw : ∀ k, k < C → σ 23 k = nI (w k) ∧ w k < 6) (kind : Int32) (d : Nat) (hd : 2 ≤ d) : ∀ (n : Nat) (k : Nat) (hm : C < k + n) (hk : k ≤ C) (hI : soK σ k m w kind), PAt (EM d (Pi (fun v σ2 => BP (soK σ C m w kind) v ∧ σ2 = σ))) mX3_areSoByKind 3 [(4, .int (nI k)), (0, .ref 21), (1, .ref 1), (2, .int (nI m)), (3, .int kind)] [] σ := by
  obtain ⟨d, rfl⟩ : ∃ e, d = e + 1 := ⟨d - 1, by omega⟩
  intro n
  induction n with
  | zero => intro k hm hk hI; exact absurd hm (by omega)
  | succ n ih =>
    intro k hm hk hI
    refine tq_iload 0 (dget dX3_areSoByKind 2 rfl) rfl ?_
    refine tq_aload_n 1 (dget dX3_areSoByKind 3 rfl) rfl rfl ?_
    refine tq_getI (dget dX3_areSoByKind 4 rfl) fX3_25 rfl rfl ?_
    refine tq_icmp_ge (tgt := 55) (dget dX3_areSoByKind 5 rfl) (by decide) (fun c_9 => ?_) (fun c_9 => ?_)
    · rw [hC] at c_9
      have g_9 := kle (by omega) (by omega) c_9
      refine tq_iconst (v := 1) (dget dX3_areSoByKind 30 rfl) rfl ?_
      exact tq_zret rfl rfl (dget dX3_areSoByKind 31 rfl) ⟨_, rfl, BP.y (fun j hj => hI j (by omega)), rfl⟩
    · rw [hC] at c_9
      have g_9 := knle (by omega) (by omega) c_9
      refine tq_aload_n 1 (dget dX3_areSoByKind 6 rfl) rfl rfl ?_
      refine tq_getR (dget dX3_areSoByKind 7 rfl) fX3_9 rfl rfl ?_
      refine tq_iload 0 (dget dX3_areSoByKind 8 rfl) rfl ?_
      refine tq_ialdN k (dget dX3_areSoByKind 9 rfl) rfl (by decide) rfl (by omega) ?_
      refine tq_iload_n 3 (dget dX3_areSoByKind 10 rfl) rfl rfl ?_
      refine tq_icmp_ne (tgt := 49) (dget dX3_areSoByKind 11 rfl) (by decide) (fun c_20 => ?_) (fun c_20 => ?_)
      · refine tq_iinc (v := (nI (k + 1))) (ls2 := [(4, .int (nI (k + 1))), (0, .ref 21), (1, .ref 1), (2, .int (nI m)), (3, .int kind)]) 0 (dget dX3_areSoByKind 28 rfl) rfl (nI_1 k) (by decide) rfl ?_
        refine tq_goto (tgt := 3) (dget dX3_areSoByKind 29 rfl) (by decide) ?_
        refine tq_sub [0, 1, 2, 3, 4] (ls' := [(4, .int (nI (k + 1))), (0, .ref 21), (1, .ref 1), (2, .int (nI m)), (3, .int kind)]) rfl ?_
        refine ih (k + 1) (by omega) (by omega) (fun j hj h1 => ?_)
        by_cases e1 : k = j
        · subst e1; exact absurd h1 c_20
        · exact hI j (by omega) h1
      · refine tq_aload_n 1 (dget dX3_areSoByKind 12 rfl) rfl rfl ?_
        refine tq_iload 0 (dget dX3_areSoByKind 13 rfl) rfl ?_
        refine tq_iload_n 4 (dget dX3_areSoByKind 14 rfl) rfl rfl ?_
        refine tq_aload_n 2 (dget dX3_areSoByKind 15 rfl) rfl rfl ?_
        refine tq_getR (dget dX3_areSoByKind 16 rfl) fX3_46 rfl rfl ?_
        refine tq_iload_n 3 (dget dX3_areSoByKind 17 rfl) rfl rfl ?_
        refine tq_hers m (dget dX3_areSoByKind 18 rfl) rfl (by omega) ?_
        refine tq_aload_n 1 (dget dX3_areSoByKind 19 rfl) rfl rfl ?_
        refine tq_getR (dget dX3_areSoByKind 20 rfl) fX3_15 rfl rfl ?_
        refine tq_iload 0 (dget dX3_areSoByKind 21 rfl) rfl ?_
        refine tq_ialdN k (dget dX3_areSoByKind 22 rfl) rfl (by decide) rfl (by omega) ?_
        refine tq_ialdN (w k) (dget dX3_areSoByKind 23 rfl) (SH_hers (by omega)) (by decide) (hw k g_9).1 (hw k g_9).2 ?_
        refine mq_Vi (As := [.int (nI k), .int kind, .int (σ (4 + m) (w k))]) (rest := []) (dget dX3_areSoByKind 24 rfl) lX3_42 miX3_isSo (c_isSo σ k kind (σ (4 + m) (w k)) (by omega) d (by omega)) rfl rfl rfl rfl (Nat.le_of_ble_eq_true rfl) (Nat.le_of_ble_eq_true rfl) (fun r_41 σ_41 h_41 => ?_)
        obtain ⟨b_41, e_41⟩ := h_41
        obtain rfl := e_41.symm
        refine tq_if_ne (tgt := 49) (dget dX3_areSoByKind 25 rfl) (by decide) (fun c_44 => ?_) (fun c_44 => ?_)
        · refine tq_iinc (v := (nI (k + 1))) (ls2 := [(4, .int (nI (k + 1))), (0, .ref 21), (1, .ref 1), (2, .int (nI m)), (3, .int kind)]) 0 (dget dX3_areSoByKind 28 rfl) rfl (nI_1 k) (by decide) rfl ?_
          refine tq_goto (tgt := 3) (dget dX3_areSoByKind 29 rfl) (by decide) ?_
          refine tq_sub [0, 1, 2, 3, 4] (ls' := [(4, .int (nI (k + 1))), (0, .ref 21), (1, .ref 1), (2, .int (nI m)), (3, .int kind)]) rfl ?_
          refine ih (k + 1) (by omega) (by omega) (fun j hj h1 => ?_)
          by_cases e1 : k = j
          · subst e1; exact b_41.t c_44
          · exact hI j (by omega) h1
        · refine tq_iconst (v := 0) (dget dX3_areSoByKind 26 rfl) rfl ?_
          exact tq_zret rfl rfl (dget dX3_areSoByKind 27 rfl) ⟨_, rfl, BP.n (fun q => b_41.f c_44 (q k g_9 c_20)), rfl⟩
set_option maxHeartbeats 4000000 in
set_option maxRecDepth 20000 in
theorem c_soK (σ : Mem) (C m : Nat) (hC : σ 21 4 = nI C) (hC8 : C ≤ 8) (hm4 : m < 4) (w : Nat → Nat) (hw : ∀ k, k < C → σ 23 k = nI (w k) ∧ w k < 6) (kind : Int32) (d : Nat) (hd : 2 ≤ d) : PMet d mX3_areSoByKind [.ref 21, .ref 1, .int (nI m), .int kind] σ (Pi (fun v σ2 => BP (soK σ C m w kind) v ∧ σ2 = σ)) := by
  obtain ⟨d, rfl⟩ : ∃ e, d = e + 1 := ⟨d - 1, by omega⟩
  refine PMet.start (ls0 := [(0, .ref 21), (1, .ref 1), (2, .int (nI m)), (3, .int kind)]) miX3_areSoByKind.1 (Nat.le_of_ble_eq_true rfl) rfl ?_
  refine tq_iconst (v := 0) (dget dX3_areSoByKind 0 rfl) rfl ?_
  refine tq_istore (ls2 := [(4, .int 0), (0, .ref 21), (1, .ref 1), (2, .int (nI m)), (3, .int kind)]) (dget dX3_areSoByKind 1 rfl) (by decide) rfl ?_
  refine tq_sub [0, 1, 2, 3, 4] (ls' := [(4, .int 0), (0, .ref 21), (1, .ref 1), (2, .int (nI m)), (3, .int kind)]) rfl ?_
  exact c_soK_loop σ C m hC hC8 hm4 w hw kind (d + 1) (by omega) (C + 1) 0 (by omega) (by omega) (fun j hj => absurd hj (by omega))
set_option maxHeartbeats 4000000 in
set_option maxRecDepth 20000 in
theorem c_least_loop (σ : Mem) (C m : Nat) (hC : σ 21 4 = nI C) (hC8 : C ≤ 8) (hm4 : m < 4) (s : Nat) (d : Nat) (hd : 3 ≤ d) : ∀ (n : Nat) (k : Nat) (hm : 10 < k + n) (hk : k ≤ 10) (hI : ∀ i, i < k → ¬ (fun j => soL σ C m s (nI j)) i), PAt (EM d (Pi (fun v σ2 => llP (fun j => soL σ C m s (nI j)) v ∧ σ2 = σ))) mX3_leastLiking 3 [(4, .int (nI k)), (0, .ref 21), (1, .ref 1), (2, .int (nI m)), (3, .int (nI s))] [] σ := by
  obtain ⟨d, rfl⟩ : ∃ e, d = e + 1 := ⟨d - 1, by omega⟩
  intro n
  induction n with
  | zero => intro k hm hk hI; exact absurd hm (by omega)
  | succ n ih =>
    intro k hm hk hI
    refine tq_iload 0 (dget dX3_leastLiking 2 rfl) rfl ?_
    refine tq_bipush (v := 9) (dget dX3_leastLiking 3 rfl) rfl ?_
    refine tq_icmp_gt (tgt := 31) (dget dX3_leastLiking 4 rfl) (by decide) (fun c_7 => ?_) (fun c_7 => ?_)
    · have g_7 := klt (a := 9) (by omega) (by omega) c_7
      refine tq_bipush (v := (-9)) (dget dX3_leastLiking 16 rfl) rfl ?_
      exact tq_iret rfl (dget dX3_leastLiking 17 rfl) ⟨_, rfl, Or.inr ⟨rfl, fun i hi => hI i (by omega)⟩, rfl⟩
    · have g_7 := knlt (a := 9) (by omega) (by omega) c_7
      refine tq_aload_n 1 (dget dX3_leastLiking 5 rfl) rfl rfl ?_
      refine tq_aload_n 2 (dget dX3_leastLiking 6 rfl) rfl rfl ?_
      refine tq_iload_n 3 (dget dX3_leastLiking 7 rfl) rfl rfl ?_
      refine tq_iload_n 4 (dget dX3_leastLiking 8 rfl) rfl rfl ?_
      refine tq_iload 0 (dget dX3_leastLiking 9 rfl) rfl ?_
      refine mq_Vi (As := [.ref 1, .int (nI m), .int (nI s), .int (nI k)]) (rest := []) (dget dX3_leastLiking 10 rfl) lX3_29 miX3_areSoByLiking (c_soL σ C m hC hC8 hm4 s (nI k) d (by omega)) rfl rfl rfl rfl (Nat.le_of_ble_eq_true rfl) (Nat.le_of_ble_eq_true rfl) (fun r_16 σ_16 h_16 => ?_)
      obtain ⟨b_16, e_16⟩ := h_16
      obtain rfl := e_16.symm
      refine tq_if_eq (tgt := 25) (dget dX3_leastLiking 11 rfl) (by decide) (fun c_19 => ?_) (fun c_19 => ?_)
      · refine tq_iinc (v := (nI (k + 1))) (ls2 := [(4, .int (nI (k + 1))), (0, .ref 21), (1, .ref 1), (2, .int (nI m)), (3, .int (nI s))]) 0 (dget dX3_leastLiking 14 rfl) rfl (nI_1 k) (by decide) rfl ?_
        refine tq_goto (tgt := 3) (dget dX3_leastLiking 15 rfl) (by decide) ?_
        refine tq_sub [0, 1, 2, 3, 4] (ls' := [(4, .int (nI (k + 1))), (0, .ref 21), (1, .ref 1), (2, .int (nI m)), (3, .int (nI s))]) rfl ?_
        refine ih (k + 1) (by omega) (by omega) (fun i hi => ?_)
        by_cases e1 : k = i
        · subst e1; exact b_16.f c_19
        · exact hI i (by omega)
      · refine tq_iload 0 (dget dX3_leastLiking 12 rfl) rfl ?_
        exact tq_iret rfl (dget dX3_leastLiking 13 rfl) ⟨_, rfl, Or.inl ⟨k, by omega, rfl, b_16.t c_19, hI⟩, rfl⟩
set_option maxHeartbeats 4000000 in
set_option maxRecDepth 20000 in
theorem c_least (σ : Mem) (C m : Nat) (hC : σ 21 4 = nI C) (hC8 : C ≤ 8) (hm4 : m < 4) (s : Nat) (d : Nat) (hd : 3 ≤ d) : PMet d mX3_leastLiking [.ref 21, .ref 1, .int (nI m), .int (nI s)] σ (Pi (fun v σ2 => llP (fun j => soL σ C m s (nI j)) v ∧ σ2 = σ)) := by
  obtain ⟨d, rfl⟩ : ∃ e, d = e + 1 := ⟨d - 1, by omega⟩
  refine PMet.start (ls0 := [(0, .ref 21), (1, .ref 1), (2, .int (nI m)), (3, .int (nI s))]) miX3_leastLiking.1 (Nat.le_of_ble_eq_true rfl) rfl ?_
  refine tq_iconst (v := 0) (dget dX3_leastLiking 0 rfl) rfl ?_
  refine tq_istore (ls2 := [(4, .int 0), (0, .ref 21), (1, .ref 1), (2, .int (nI m)), (3, .int (nI s))]) (dget dX3_leastLiking 1 rfl) (by decide) rfl ?_
  refine tq_sub [0, 1, 2, 3, 4] (ls' := [(4, .int 0), (0, .ref 21), (1, .ref 1), (2, .int (nI m)), (3, .int (nI s))]) rfl ?_
  exact c_least_loop σ C m hC hC8 hm4 s (d + 1) (by omega) 11 0 (by omega) (by omega) (fun j hj => absurd hj (by omega))
set_option maxHeartbeats 4000000 in
set_option maxRecDepth 20000 in
theorem c_greatest_loop (σ : Mem) (C m : Nat) (hC : σ 21 4 = nI C) (hC8 : C ≤ 8) (hm4 : m < 4) (s : Nat) (d : Nat) (hd : 3 ≤ d) : ∀ (n : Nat) (k : Nat) (hm : k < n) (hk : k ≤ 10) (hI : ∀ i, k ≤ i → i < 10 → ¬ (fun j => soL σ C m s (nI j)) i), PAt (EM d (Pi (fun v σ2 => glP (fun j => soL σ C m s (nI j)) v ∧ σ2 = σ))) mX3_greatestLiking 4 [(4, .int (nI k - 1)), (0, .ref 21), (1, .ref 1), (2, .int (nI m)), (3, .int (nI s))] [] σ := by
  obtain ⟨d, rfl⟩ : ∃ e, d = e + 1 := ⟨d - 1, by omega⟩
  intro n
  induction n with
  | zero => intro k hm hk hI; exact absurd hm (by omega)
  | succ n ih =>
    intro k hm hk hI
    refine tq_iload 0 (dget dX3_greatestLiking 2 rfl) rfl ?_
    refine tq_if_lt (tgt := 30) (dget dX3_greatestLiking 3 rfl) (by decide) (fun c_6 => ?_) (fun c_6 => ?_)
    · have g_6 : k = 0 := by by_cases z : k = 0; exact z; exact absurd c_6 (by obtain ⟨j, rfl⟩ : ∃ j, k = j + 1 := ⟨k - 1, by omega⟩; rw [nI_pred]; exact nI_pos (by omega))
      refine tq_bipush (v := (-9)) (dget dX3_greatestLiking 15 rfl) rfl ?_
      exact tq_iret rfl (dget dX3_greatestLiking 16 rfl) ⟨_, rfl, Or.inr ⟨rfl, fun i hi => hI i (by omega) hi⟩, rfl⟩
    · have g_6 : ¬ k = 0 := fun z => c_6 (by rw [z]; decide)
      obtain ⟨j0, rfl⟩ : ∃ j, k = j + 1 := ⟨k - 1, by omega⟩
      refine tq_sub [0, 1, 2, 3, 4] (ls' := [(4, .int (nI j0)), (0, .ref 21), (1, .ref 1), (2, .int (nI m)), (3, .int (nI s))]) (by rw [nI_pred]; rfl) ?_
      refine tq_aload_n 1 (dget dX3_greatestLiking 4 rfl) rfl rfl ?_
      refine tq_aload_n 2 (dget dX3_greatestLiking 5 rfl) rfl rfl ?_
      refine tq_iload_n 3 (dget dX3_greatestLiking 6 rfl) rfl rfl ?_
      refine tq_iload_n 4 (dget dX3_greatestLiking 7 rfl) rfl rfl ?_
      refine tq_iload 0 (dget dX3_greatestLiking 8 rfl) rfl ?_
      refine mq_Vi (As := [.ref 1, .int (nI m), .int (nI s), .int (nI j0)]) (rest := []) (dget dX3_greatestLiking 9 rfl) lX3_29 miX3_areSoByLiking (c_soL σ C m hC hC8 hm4 s (nI j0) d (by omega)) rfl rfl rfl rfl (Nat.le_of_ble_eq_true rfl) (Nat.le_of_ble_eq_true rfl) (fun r_15 σ_15 h_15 => ?_)
      obtain ⟨b_15, e_15⟩ := h_15
      obtain rfl := e_15.symm
      refine tq_if_eq (tgt := 24) (dget dX3_greatestLiking 10 rfl) (by decide) (fun c_18 => ?_) (fun c_18 => ?_)
      · refine tq_iinc (v := ((nI j0) + (-1))) (ls2 := [(4, .int ((nI j0) + (-1))), (0, .ref 21), (1, .ref 1), (2, .int (nI m)), (3, .int (nI s))]) 0 (dget dX3_greatestLiking 13 rfl) rfl rfl (by decide) rfl ?_
        refine tq_goto (tgt := 4) (dget dX3_greatestLiking 14 rfl) (by decide) ?_
        refine tq_sub [0, 1, 2, 3, 4] (ls' := [(4, .int ((nI j0) + (-1))), (0, .ref 21), (1, .ref 1), (2, .int (nI m)), (3, .int (nI s))]) rfl ?_
        rw [show nI j0 + -1 = nI j0 - 1 from (Int32.sub_eq_add_neg _ _).symm]
        refine ih j0 (by omega) (by omega) (fun i hi h10 => ?_)
        by_cases e1 : j0 = i
        · subst e1; exact b_15.f c_18
        · exact hI i (by omega) h10
      · refine tq_iload 0 (dget dX3_greatestLiking 11 rfl) rfl ?_
        exact tq_iret rfl (dget dX3_greatestLiking 12 rfl) ⟨_, rfl, Or.inl ⟨j0, by omega, rfl, b_15.t c_18, fun i hi h10 => hI i (by omega) h10⟩, rfl⟩
set_option maxHeartbeats 4000000 in
set_option maxRecDepth 20000 in
theorem c_greatest (σ : Mem) (C m : Nat) (hC : σ 21 4 = nI C) (hC8 : C ≤ 8) (hm4 : m < 4) (s : Nat) (d : Nat) (hd : 3 ≤ d) : PMet d mX3_greatestLiking [.ref 21, .ref 1, .int (nI m), .int (nI s)] σ (Pi (fun v σ2 => glP (fun j => soL σ C m s (nI j)) v ∧ σ2 = σ)) := by
  obtain ⟨d, rfl⟩ : ∃ e, d = e + 1 := ⟨d - 1, by omega⟩
  refine PMet.start (ls0 := [(0, .ref 21), (1, .ref 1), (2, .int (nI m)), (3, .int (nI s))]) miX3_greatestLiking.1 (Nat.le_of_ble_eq_true rfl) rfl ?_
  refine tq_bipush (v := 9) (dget dX3_greatestLiking 0 rfl) rfl ?_
  refine tq_istore (ls2 := [(4, .int 9), (0, .ref 21), (1, .ref 1), (2, .int (nI m)), (3, .int (nI s))]) (dget dX3_greatestLiking 1 rfl) (by decide) rfl ?_
  refine tq_sub [0, 1, 2, 3, 4] (ls' := [(4, .int 9), (0, .ref 21), (1, .ref 1), (2, .int (nI m)), (3, .int (nI s))]) rfl ?_
  rw [show (9 : Int32) = nI 10 - 1 from rfl]
  exact c_greatest_loop σ C m hC hC8 hm4 s (d + 1) (by omega) 11 10 (by omega) (by omega) (fun j hj h => absurd h (by omega))
set_option maxHeartbeats 4000000 in
set_option maxRecDepth 20000 in
theorem c_kindsOf_loop (σ : Mem) (C m : Nat) (hC : σ 21 4 = nI C) (hC8 : C ≤ 8) (hm4 : m < 4) (w : Nat → Nat) (hw : ∀ k, k < C → σ 23 k = nI (w k) ∧ w k < 6) (d : Nat) (hd : 3 ≤ d) : ∀ (n : Nat) (k : Nat) (hm : 3 < k + n) (hk : k ≤ 3), PAt (EM d (Pi (fun v σ2 => v = ksF (fun j => soK σ C m w (nI j)) 3 ∧ σ2 = σ))) mX3_kindsOf 5 [(4, .int (nI k)), (3, .int (ksF (fun j => soK σ C m w (nI j)) k)), (0, .ref 21), (1, .ref 1), (2, .int (nI m))] [] σ := by
  obtain ⟨d, rfl⟩ : ∃ e, d = e + 1 := ⟨d - 1, by omega⟩
  intro n
  induction n with
  | zero => intro k hm hk; exact absurd hm (by omega)
  | succ n ih =>
    intro k hm hk
    refine tq_iload 0 (dget dX3_kindsOf 4 rfl) rfl ?_
    refine tq_iconst (v := 3) (dget dX3_kindsOf 5 rfl) rfl ?_
    refine tq_icmp_ge (tgt := 35) (dget dX3_kindsOf 6 rfl) (by decide) (fun c_8 => ?_) (fun c_8 => ?_)
    · have g_8 := kle (a := 3) (by omega) (by omega) c_8
      have g_9 : k = 3 := by omega
      refine tq_iload_n 1 (dget dX3_kindsOf 21 rfl) rfl rfl ?_
      exact tq_iret rfl (dget dX3_kindsOf 22 rfl) ⟨_, rfl, by rw [g_9], rfl⟩
    · have g_8 := knle (a := 3) (by omega) (by omega) c_8
      refine tq_aload_n 2 (dget dX3_kindsOf 7 rfl) rfl rfl ?_
      refine tq_aload_n 3 (dget dX3_kindsOf 8 rfl) rfl rfl ?_
      refine tq_iload_n 4 (dget dX3_kindsOf 9 rfl) rfl rfl ?_
      refine tq_iload 0 (dget dX3_kindsOf 10 rfl) rfl ?_
      refine mq_Vi (As := [.ref 1, .int (nI m), .int (nI k)]) (rest := []) (dget dX3_kindsOf 11 rfl) lX3_33 miX3_areSoByKind (c_soK σ C m hC hC8 hm4 w hw (nI k) d (by omega)) rfl rfl rfl rfl (Nat.le_of_ble_eq_true rfl) (Nat.le_of_ble_eq_true rfl) (fun r_16 σ_16 h_16 => ?_)
      obtain ⟨b_16, e_16⟩ := h_16
      obtain rfl := e_16.symm
      refine tq_if_eq (tgt := 29) (dget dX3_kindsOf 12 rfl) (by decide) (fun c_19 => ?_) (fun c_19 => ?_)
      · refine tq_iinc (v := (nI (k + 1))) (ls2 := [(4, .int (nI (k + 1))), (3, .int (ksF (fun j => soK σ C m w (nI j)) k)), (0, .ref 21), (1, .ref 1), (2, .int (nI m))]) 0 (dget dX3_kindsOf 19 rfl) rfl (nI_1 k) (by decide) rfl ?_
        refine tq_goto (tgt := 5) (dget dX3_kindsOf 20 rfl) (by decide) ?_
        refine tq_sub [0, 1, 2, 3, 4] (ls' := [(4, .int (nI (k + 1))), (3, .int (ksF (fun j => soK σ C m w (nI j)) k)), (0, .ref 21), (1, .ref 1), (2, .int (nI m))]) rfl ?_
        rw [show ksF (fun j => soK σ C m w (nI j)) k = ksF (fun j => soK σ C m w (nI j)) (k + 1) from (ksF_n (b_16.f c_19)).symm]
        exact ih (k + 1) (by omega) (by omega)
      · refine tq_iload_n 1 (dget dX3_kindsOf 13 rfl) rfl rfl ?_
        refine tq_iconst (v := 1) (dget dX3_kindsOf 14 rfl) rfl ?_
        refine tq_iload 0 (dget dX3_kindsOf 15 rfl) rfl ?_
        refine tq_ishl (dget dX3_kindsOf 16 rfl) ?_
        refine tq_ior (dget dX3_kindsOf 17 rfl) ?_
        refine tq_istore_n (ls2 := [(3, .int ((ksF (fun j => soK σ C m w (nI j)) k) ||| (1 <<< ((nI k) &&& 31)))), (4, .int (nI k)), (0, .ref 21), (1, .ref 1), (2, .int (nI m))]) (dget dX3_kindsOf 18 rfl) rfl (by decide) rfl ?_
        refine tq_iinc (v := (nI (k + 1))) (ls2 := [(4, .int (nI (k + 1))), (3, .int ((ksF (fun j => soK σ C m w (nI j)) k) ||| (1 <<< ((nI k) &&& 31)))), (0, .ref 21), (1, .ref 1), (2, .int (nI m))]) 1 (dget dX3_kindsOf 19 rfl) rfl (nI_1 k) (by decide) rfl ?_
        refine tq_goto (tgt := 5) (dget dX3_kindsOf 20 rfl) (by decide) ?_
        refine tq_sub [0, 1, 2, 3, 4] (ls' := [(4, .int (nI (k + 1))), (3, .int ((ksF (fun j => soK σ C m w (nI j)) k) ||| (1 <<< ((nI k) &&& 31)))), (0, .ref 21), (1, .ref 1), (2, .int (nI m))]) rfl ?_
        rw [show (ksF (fun j => soK σ C m w (nI j)) k ||| (1 <<< (nI k &&& 31))) = ksF (fun j => soK σ C m w (nI j)) (k + 1) from (ksF_y (b_16.t c_19)).symm]
        exact ih (k + 1) (by omega) (by omega)
set_option maxHeartbeats 4000000 in
set_option maxRecDepth 20000 in
theorem c_kindsOf (σ : Mem) (C m : Nat) (hC : σ 21 4 = nI C) (hC8 : C ≤ 8) (hm4 : m < 4) (w : Nat → Nat) (hw : ∀ k, k < C → σ 23 k = nI (w k) ∧ w k < 6) (d : Nat) (hd : 3 ≤ d) : PMet d mX3_kindsOf [.ref 21, .ref 1, .int (nI m)] σ (Pi (fun v σ2 => v = ksF (fun j => soK σ C m w (nI j)) 3 ∧ σ2 = σ)) := by
  obtain ⟨d, rfl⟩ : ∃ e, d = e + 1 := ⟨d - 1, by omega⟩
  refine PMet.start (ls0 := [(0, .ref 21), (1, .ref 1), (2, .int (nI m))]) miX3_kindsOf.1 (Nat.le_of_ble_eq_true rfl) rfl ?_
  refine tq_iconst (v := 0) (dget dX3_kindsOf 0 rfl) rfl ?_
  refine tq_istore_n (ls2 := [(3, .int 0), (0, .ref 21), (1, .ref 1), (2, .int (nI m))]) (dget dX3_kindsOf 1 rfl) rfl (by decide) rfl ?_
  refine tq_iconst (v := 0) (dget dX3_kindsOf 2 rfl) rfl ?_
  refine tq_istore (ls2 := [(4, .int 0), (3, .int 0), (0, .ref 21), (1, .ref 1), (2, .int (nI m))]) (dget dX3_kindsOf 3 rfl) (by decide) rfl ?_
  refine tq_sub [0, 1, 2, 3, 4] (ls' := [(4, .int 0), (3, .int 0), (0, .ref 21), (1, .ref 1), (2, .int (nI m))]) rfl ?_
  exact c_kindsOf_loop σ C m hC hC8 hm4 w hw (d + 1) (by omega) 4 0 (by omega) (by omega)
set_option maxHeartbeats 4000000 in
set_option maxRecDepth 20000 in
theorem c_Radd (σ : Mem) (C : Nat) (m s r t : Int32) (hC : σ 21 4 = nI C) (hC8 : C < 8) (d : Nat) (hd : 0 ≤ d) : PMet d mX3_add [.ref 21, .int m, .int s, .int r, .int t] σ (Pi (fun v σ2 => v = nI C ∧ σ2 = up (up (up (up (up σ 22 C m) 23 C s) 24 C r) 25 C (vp_nar .boolean t)) 21 4 (nI (C + 1)))) := by
  refine PMet.start (ls0 := [(0, .ref 21), (1, .int m), (2, .int s), (3, .int r), (4, .int t)]) miX3_add.1 (Nat.le_of_ble_eq_true rfl) rfl ?_
  refine tq_aload_n 0 (dget dX3_add 0 rfl) rfl rfl ?_
  refine tq_getI (dget dX3_add 1 rfl) fX3_25 rfl rfl ?_
  refine tq_eqi (y := (nI C)) hC ?_
  refine tq_istore (ls2 := [(5, .int (nI C)), (0, .ref 21), (1, .int m), (2, .int s), (3, .int r), (4, .int t)]) (dget dX3_add 2 rfl) (by decide) rfl ?_
  refine tq_aload_n 1 (dget dX3_add 3 rfl) rfl rfl ?_
  refine tq_getR (dget dX3_add 4 rfl) fX3_9 rfl rfl ?_
  refine tq_iload 0 (dget dX3_add 5 rfl) rfl ?_
  refine tq_iload_n 2 (dget dX3_add 6 rfl) rfl rfl ?_
  refine tq_iastN C (dget dX3_add 7 rfl) rfl (by decide) rfl (by omega) ?_
  refine tq_aload_n 1 (dget dX3_add 8 rfl) rfl rfl ?_
  refine tq_getR (dget dX3_add 9 rfl) fX3_15 rfl rfl ?_
  refine tq_iload 0 (dget dX3_add 10 rfl) rfl ?_
  refine tq_iload_n 3 (dget dX3_add 11 rfl) rfl rfl ?_
  refine tq_iastN C (dget dX3_add 12 rfl) rfl (by decide) rfl (by omega) ?_
  refine tq_aload_n 1 (dget dX3_add 13 rfl) rfl rfl ?_
  refine tq_getR (dget dX3_add 14 rfl) fX3_18 rfl rfl ?_
  refine tq_iload 0 (dget dX3_add 15 rfl) rfl ?_
  refine tq_iload_n 4 (dget dX3_add 16 rfl) rfl rfl ?_
  refine tq_iastN C (dget dX3_add 17 rfl) rfl (by decide) rfl (by omega) ?_
  refine tq_aload_n 1 (dget dX3_add 18 rfl) rfl rfl ?_
  refine tq_getR (dget dX3_add 19 rfl) fX3_21 rfl rfl ?_
  refine tq_iload 0 (dget dX3_add 20 rfl) rfl ?_
  refine tq_iload 5 (dget dX3_add 21 rfl) rfl ?_
  refine tq_zastN C (dget dX3_add 22 rfl) rfl (by decide) rfl (by omega) ?_
  refine tq_aload_n 1 (dget dX3_add 23 rfl) rfl rfl ?_
  refine tq_dup (dget dX3_add 24 rfl) rfl ?_
  refine tq_getI (dget dX3_add 25 rfl) fX3_25 rfl rfl ?_
  refine tq_eqi (y := (nI C)) hC ?_
  refine tq_iconst (v := 1) (dget dX3_add 26 rfl) rfl ?_
  refine tq_iadd (dget dX3_add 27 rfl) ?_
  refine tq_eqi (y := (nI (C + 1))) (nI_1 C) ?_
  refine tq_putI (dget dX3_add 28 rfl) fX3_25 rfl rfl rfl rfl ?_
  refine tq_iload 0 (dget dX3_add 29 rfl) rfl ?_
  exact tq_iret rfl (dget dX3_add 30 rfl) ⟨_, rfl, rfl, rfl⟩
end
section
/-! ===== days, offers ===== -/
def isD (t : Nat) : Prop := SH t = some (.inr (.inr (0, [some (t + 1), some (t + 2), some (t + 3)]))) ∧ SH (t + 1) = some (.inl (.int, 4)) ∧ SH (t + 2) = some (.inl (.int, 4)) ∧ SH (t + 3) = some (.inl (.int, 6))
theorem isD_17 : isD 17 := ⟨rfl, rfl, rfl, rfl⟩
theorem isD_27 : isD 27 := ⟨rfl, rfl, rfl, rfl⟩
def begF (t : Nat) (σ : Mem) : Mem := fillR (fillR (fillR σ (t + 1) 4 0) (t + 2) 4 (-1)) (t + 3) 6 (-1)
def wedF (t : Nat) (σ : Mem) (s m : Nat) : Mem := up (up σ (t + 3) s (nI m)) (t + 2) m (nI s)
def partF (t : Nat) (σ : Mem) (s m : Nat) : Mem := up (up σ (t + 3) s (-1)) (t + 2) m (-1)
def freeP (t : Nat) (σ : Mem) (s m : Nat) : Prop := σ (t + 3) s = -1 ∧ σ (t + 2) m = -1
def ansD (t : Nat) (σ : Mem) (s m : Nat) : Int32 := ansF (σ 1 2) (σ 2 m) (σ (4 + m) s) (σ (t + 1) m)
def askV (t : Nat) (σ : Mem) (s m : Nat) : Int32 := if σ (t + 3) s = -1 ∧ σ (t + 2) m = -1 then ansD t σ s m else 0
def askM (t : Nat) (σ : Mem) (s m : Nat) : Mem := if σ (t + 3) s = -1 ∧ σ (t + 2) m = -1 then (if ansD t σ s m = 3 then up σ (t + 1) m (σ (t + 1) m + 1) else wedF t σ s m) else σ
def unaskM (t : Nat) (σ : Mem) (s m : Nat) (v : Int32) : Mem := if v = 3 then up σ (t + 1) m (σ (t + 1) m - 1) else if v = 0 then σ else partF t σ s m
def ownH (t : Nat) (σ : Mem) (s : Nat) : Int32 := if σ (t + 3) s = -1 then -1 else σ (9 + (σ (t + 3) s).toNatClampNeg) s
def ownS (t : Nat) (σ : Mem) (m : Nat) : Int32 := if σ (t + 2) m = -1 then -1 else σ (4 + m) (σ (t + 2) m).toNatClampNeg
def wbP (t : Nat) (σ : Mem) (s m : Nat) : Prop := ownH t σ s < σ (9 + m) s ∧ ownS t σ m < σ (4 + m) s
/-- who is wed is one of the valley's (of six, of four) -/
def wfD (t : Nat) (σ : Mem) : Prop := (∀ s, s < 6 → σ (t + 3) s = -1 ∨ ∃ b, b < 4 ∧ σ (t + 3) s = nI b) ∧ ∀ m, m < 4 → σ (t + 2) m = -1 ∨ ∃ h, h < 6 ∧ σ (t + 2) m = nI h
def brkP (t : Nat) (σ : Mem) (S M k : Nat) : Prop := ∃ m, m < M ∧ (S ≤ k ∨ ¬ σ (t + 2) m = -1) ∧ ∃ s, s < k ∧ wbP t σ s m
theorem cl_sub {x : Int32} {b n : Nat} (h : x = nI b) (hb : b < n) (hn : n < 2 ^ 31) : x.toNatClampNeg = b := clN h hb hn

set_option maxHeartbeats 4000000 in
set_option maxRecDepth 20000 in
theorem c_begin (t : Nat) (hT : isD t) (σ : Mem) (d : Nat) (hd : 1 ≤ d) : PMet d mX0_begin [.ref t] σ (Pv (fun σ2 => σ2 = begF t σ)) := by
  obtain ⟨d, rfl⟩ : ∃ e, d = e + 1 := ⟨d - 1, by omega⟩
  refine PMet.start (ls0 := [(0, .ref t)]) miX0_begin.1 (Nat.le_of_ble_eq_true rfl) rfl ?_
  refine tq_aload_n 0 (dget dX0_begin 0 rfl) rfl rfl ?_
  refine tq_getR (dget dX0_begin 1 rfl) fX0_9 hT.1 rfl ?_
  refine tq_iconst (v := 0) (dget dX0_begin 2 rfl) rfl ?_
  refine mq_Sv (As := [.ref (t + 1), .int 0]) (rest := []) (dget dX0_begin 3 rfl) lX0_21 miJ7_fill_53178 (c_fill σ (t + 1) _ 0 hT.2.1 (by decide) d (by omega)) rfl rfl (Nat.le_of_ble_eq_true rfl) (Nat.le_of_ble_eq_true rfl) (fun σ_5 h_5 => ?_)
  obtain rfl := Eq.symm h_5
  refine tq_aload_n 0 (dget dX0_begin 4 rfl) rfl rfl ?_
  refine tq_getR (dget dX0_begin 5 rfl) fX0_15 hT.1 rfl ?_
  refine tq_iconst (v := (-1)) (dget dX0_begin 6 rfl) rfl ?_
  refine mq_Sv (As := [.ref (t + 2), .int (-1)]) (rest := []) (dget dX0_begin 7 rfl) lX0_21 miJ7_fill_53178 (c_fill (fillR σ (t + 1) 4 0) (t + 2) _ (-1) hT.2.2.1 (by decide) d (by omega)) rfl rfl (Nat.le_of_ble_eq_true rfl) (Nat.le_of_ble_eq_true rfl) (fun σ_13 h_13 => ?_)
  obtain rfl := Eq.symm h_13
  refine tq_aload_n 0 (dget dX0_begin 8 rfl) rfl rfl ?_
  refine tq_getR (dget dX0_begin 9 rfl) fX0_18 hT.1 rfl ?_
  refine tq_iconst (v := (-1)) (dget dX0_begin 10 rfl) rfl ?_
  refine mq_Sv (As := [.ref (t + 3), .int (-1)]) (rest := []) (dget dX0_begin 11 rfl) lX0_21 miJ7_fill_53178 (c_fill (fillR (fillR σ (t + 1) 4 0) (t + 2) 4 (-1)) (t + 3) _ (-1) hT.2.2.2 (by decide) d (by omega)) rfl rfl (Nat.le_of_ble_eq_true rfl) (Nat.le_of_ble_eq_true rfl) (fun σ_21 h_21 => ?_)
  obtain rfl := Eq.symm h_21
  exact tq_vret rfl (dget dX0_begin 12 rfl) ⟨rfl, rfl⟩
set_option maxHeartbeats 4000000 in
set_option maxRecDepth 20000 in
theorem c_wed (t : Nat) (hT : isD t) (σ : Mem) (s m : Nat) (hs6 : s < 6) (hm4 : m < 4) (d : Nat) (hd : 0 ≤ d) : PMet d mX0_wed [.ref t, .int (nI s), .int (nI m)] σ (Pv (fun σ2 => σ2 = wedF t σ s m)) := by
  refine PMet.start (ls0 := [(0, .ref t), (1, .int (nI s)), (2, .int (nI m))]) miX0_wed.1 (Nat.le_of_ble_eq_true rfl) rfl ?_
  refine tq_aload_n 0 (dget dX0_wed 0 rfl) rfl rfl ?_
  refine tq_getR (dget dX0_wed 1 rfl) fX0_18 hT.1 rfl ?_
  refine tq_iload_n 1 (dget dX0_wed 2 rfl) rfl rfl ?_
  refine tq_iload_n 2 (dget dX0_wed 3 rfl) rfl rfl ?_
  refine tq_iastN s (dget dX0_wed 4 rfl) hT.2.2.2 (by decide) rfl (by omega) ?_
  refine tq_aload_n 0 (dget dX0_wed 5 rfl) rfl rfl ?_
  refine tq_getR (dget dX0_wed 6 rfl) fX0_15 hT.1 rfl ?_
  refine tq_iload_n 2 (dget dX0_wed 7 rfl) rfl rfl ?_
  refine tq_iload_n 1 (dget dX0_wed 8 rfl) rfl rfl ?_
  refine tq_iastN m (dget dX0_wed 9 rfl) hT.2.2.1 (by decide) rfl (by omega) ?_
  exact tq_vret rfl (dget dX0_wed 10 rfl) ⟨rfl, rfl⟩
set_option maxHeartbeats 4000000 in
set_option maxRecDepth 20000 in
theorem c_part (t : Nat) (hT : isD t) (σ : Mem) (s m : Nat) (hs6 : s < 6) (hm4 : m < 4) (d : Nat) (hd : 0 ≤ d) : PMet d mX0_part [.ref t, .int (nI s), .int (nI m)] σ (Pv (fun σ2 => σ2 = partF t σ s m)) := by
  refine PMet.start (ls0 := [(0, .ref t), (1, .int (nI s)), (2, .int (nI m))]) miX0_part.1 (Nat.le_of_ble_eq_true rfl) rfl ?_
  refine tq_aload_n 0 (dget dX0_part 0 rfl) rfl rfl ?_
  refine tq_getR (dget dX0_part 1 rfl) fX0_18 hT.1 rfl ?_
  refine tq_iload_n 1 (dget dX0_part 2 rfl) rfl rfl ?_
  refine tq_iconst (v := (-1)) (dget dX0_part 3 rfl) rfl ?_
  refine tq_iastN s (dget dX0_part 4 rfl) hT.2.2.2 (by decide) rfl (by omega) ?_
  refine tq_aload_n 0 (dget dX0_part 5 rfl) rfl rfl ?_
  refine tq_getR (dget dX0_part 6 rfl) fX0_15 hT.1 rfl ?_
  refine tq_iload_n 2 (dget dX0_part 7 rfl) rfl rfl ?_
  refine tq_iconst (v := (-1)) (dget dX0_part 8 rfl) rfl ?_
  refine tq_iastN m (dget dX0_part 9 rfl) hT.2.2.1 (by decide) rfl (by omega) ?_
  exact tq_vret rfl (dget dX0_part 10 rfl) ⟨rfl, rfl⟩
set_option maxHeartbeats 4000000 in
set_option maxRecDepth 20000 in
theorem c_ask (t : Nat) (hT : isD t) (σ : Mem) (s m : Nat) (hs6 : s < 6) (hm4 : m < 4) (d : Nat) (hd : 2 ≤ d) : PMet d mX0_ask [.ref t, .ref 1, .int (nI s), .int (nI m)] σ (Pi (fun v σ2 => v = askV t σ s m ∧ σ2 = askM t σ s m)) := by
  obtain ⟨d, rfl⟩ : ∃ e, d = e + 1 := ⟨d - 1, by omega⟩
  refine PMet.start (ls0 := [(0, .ref t), (1, .ref 1), (2, .int (nI s)), (3, .int (nI m))]) miX0_ask.1 (Nat.le_of_ble_eq_true rfl) rfl ?_
  refine tq_aload_n 0 (dget dX0_ask 0 rfl) rfl rfl ?_
  refine tq_getR (dget dX0_ask 1 rfl) fX0_18 hT.1 rfl ?_
  refine tq_iload_n 2 (dget dX0_ask 2 rfl) rfl rfl ?_
  refine tq_ialdN s (dget dX0_ask 3 rfl) hT.2.2.2 (by decide) rfl (by omega) ?_
  refine tq_iconst (v := (-1)) (dget dX0_ask 4 rfl) rfl ?_
  refine tq_icmp_ne (tgt := 20) (dget dX0_ask 5 rfl) (by decide) (fun c_7 => ?_) (fun c_7 => ?_)
  · refine tq_iconst (v := 0) (dget dX0_ask 12 rfl) rfl ?_
    exact tq_iret rfl (dget dX0_ask 13 rfl) (by have f9 : ¬ (σ (t + 3) s = -1 ∧ σ (t + 2) m = -1) := fun q => c_7 q.1; exact ⟨_, rfl, (if_neg f9).symm, (if_neg f9).symm⟩)
  · refine tq_aload_n 0 (dget dX0_ask 6 rfl) rfl rfl ?_
    refine tq_getR (dget dX0_ask 7 rfl) fX0_15 hT.1 rfl ?_
    refine tq_iload_n 3 (dget dX0_ask 8 rfl) rfl rfl ?_
    refine tq_ialdN m (dget dX0_ask 9 rfl) hT.2.2.1 (by decide) rfl (by omega) ?_
    refine tq_iconst (v := (-1)) (dget dX0_ask 10 rfl) rfl ?_
    refine tq_icmp_eq (tgt := 22) (dget dX0_ask 11 rfl) (by decide) (fun c_17 => ?_) (fun c_17 => ?_)
    · refine tq_aload_n 1 (dget dX0_ask 14 rfl) rfl rfl ?_
      refine tq_iload_n 3 (dget dX0_ask 15 rfl) rfl rfl ?_
      refine tq_iload_n 2 (dget dX0_ask 16 rfl) rfl rfl ?_
      refine tq_aload_n 0 (dget dX0_ask 17 rfl) rfl rfl ?_
      refine tq_getR (dget dX0_ask 18 rfl) fX0_9 hT.1 rfl ?_
      refine tq_iload_n 3 (dget dX0_ask 19 rfl) rfl rfl ?_
      refine tq_ialdN m (dget dX0_ask 20 rfl) hT.2.1 (by decide) rfl (by omega) ?_
      refine mq_Vi (As := [.int (nI m), .int (nI s), .int (σ (t + 1) m)]) (rest := []) (dget dX0_ask 21 rfl) lX0_27 miX6_answer (c_answer σ m s (σ (t + 1) m) d (by omega) (by omega) (by omega)) rfl rfl rfl rfl (Nat.le_of_ble_eq_true rfl) (Nat.le_of_ble_eq_true rfl) (fun r_31 σ_31 h_31 => ?_)
      obtain ⟨a_31, e_31⟩ := h_31
      obtain rfl := a_31.symm
      obtain rfl := e_31.symm
      refine tq_istore (ls2 := [(4, .int (ansF (σ 1 2) (σ 2 m) (σ (4 + m) s) (σ (t + 1) m))), (0, .ref t), (1, .ref 1), (2, .int (nI s)), (3, .int (nI m))]) (dget dX0_ask 22 rfl) (by decide) rfl ?_
      refine tq_iload 0 (dget dX0_ask 23 rfl) rfl ?_
      refine tq_iconst (v := 3) (dget dX0_ask 24 rfl) rfl ?_
      refine tq_icmp_ne (tgt := 55) (dget dX0_ask 25 rfl) (by decide) (fun c_39 => ?_) (fun c_39 => ?_)
      · refine tq_aload_n 1 (dget dX0_ask 35 rfl) rfl rfl ?_
        refine tq_iload_n 3 (dget dX0_ask 36 rfl) rfl rfl ?_
        refine tq_iload_n 4 (dget dX0_ask 37 rfl) rfl rfl ?_
        refine mq_Vv (As := [.int (nI s), .int (nI m)]) (rest := []) (dget dX0_ask 38 rfl) lX0_33 miX0_wed (c_wed t hT σ s m (by omega) (by omega) d (by omega)) hT.1 rfl rfl rfl (Nat.le_of_ble_eq_true rfl) (Nat.le_of_ble_eq_true rfl) (fun σ_58 h_58 => ?_)
        obtain rfl := Eq.symm h_58
        refine tq_iload 0 (dget dX0_ask 39 rfl) rfl ?_
        exact tq_iret rfl (dget dX0_ask 40 rfl) (by have f9 : σ (t + 3) s = -1 ∧ σ (t + 2) m = -1 := ⟨c_7, c_17⟩; exact ⟨_, rfl, (if_pos f9).symm, ((if_pos f9).trans (if_neg c_39)).symm⟩)
      · refine tq_aload_n 1 (dget dX0_ask 26 rfl) rfl rfl ?_
        refine tq_getR (dget dX0_ask 27 rfl) fX0_9 hT.1 rfl ?_
        refine tq_iload_n 4 (dget dX0_ask 28 rfl) rfl rfl ?_
        refine tq_dup2 (dget dX0_ask 29 rfl) rfl rfl ?_
        refine tq_ialdN m (dget dX0_ask 30 rfl) hT.2.1 (by decide) rfl (by omega) ?_
        refine tq_iconst (v := 1) (dget dX0_ask 31 rfl) rfl ?_
        refine tq_iadd (dget dX0_ask 32 rfl) ?_
        refine tq_iastN m (dget dX0_ask 33 rfl) hT.2.1 (by decide) rfl (by omega) ?_
        refine tq_goto (tgt := 61) (dget dX0_ask 34 rfl) (by decide) ?_
        refine tq_iload 0 (dget dX0_ask 39 rfl) rfl ?_
        exact tq_iret rfl (dget dX0_ask 40 rfl) (by have f9 : σ (t + 3) s = -1 ∧ σ (t + 2) m = -1 := ⟨c_7, c_17⟩; exact ⟨_, rfl, (if_pos f9).symm, ((if_pos f9).trans (if_pos c_39)).symm⟩)
    · refine tq_iconst (v := 0) (dget dX0_ask 12 rfl) rfl ?_
      exact tq_iret rfl (dget dX0_ask 13 rfl) (by have f9 : ¬ (σ (t + 3) s = -1 ∧ σ (t + 2) m = -1) := fun q => c_17 q.2; exact ⟨_, rfl, (if_neg f9).symm, (if_neg f9).symm⟩)
set_option maxHeartbeats 4000000 in
set_option maxRecDepth 20000 in
theorem c_unask (t : Nat) (hT : isD t) (σ : Mem) (s m : Nat) (hs6 : s < 6) (hm4 : m < 4) (v : Int32) (d : Nat) (hd : 1 ≤ d) : PMet d mX0_unask [.ref t, .int (nI s), .int (nI m), .int v] σ (Pv (fun σ2 => σ2 = unaskM t σ s m v)) := by
  obtain ⟨d, rfl⟩ : ∃ e, d = e + 1 := ⟨d - 1, by omega⟩
  refine PMet.start (ls0 := [(0, .ref t), (1, .int (nI s)), (2, .int (nI m)), (3, .int v)]) miX0_unask.1 (Nat.le_of_ble_eq_true rfl) rfl ?_
  refine tq_iload_n 3 (dget dX0_unask 0 rfl) rfl rfl ?_
  refine tq_iconst (v := 3) (dget dX0_unask 1 rfl) rfl ?_
  refine tq_icmp_ne (tgt := 18) (dget dX0_unask 2 rfl) (by decide) (fun c_2 => ?_) (fun c_2 => ?_)
  · refine tq_iload_n 3 (dget dX0_unask 12 rfl) rfl rfl ?_
    refine tq_if_eq (tgt := 28) (dget dX0_unask 13 rfl) (by decide) (fun c_19 => ?_) (fun c_19 => ?_)
    · exact tq_vret rfl (dget dX0_unask 18 rfl) ⟨rfl, ((if_neg c_2).trans (if_pos c_19)).symm⟩
    · refine tq_aload_n 0 (dget dX0_unask 14 rfl) rfl rfl ?_
      refine tq_iload_n 1 (dget dX0_unask 15 rfl) rfl rfl ?_
      refine tq_iload_n 2 (dget dX0_unask 16 rfl) rfl rfl ?_
      refine mq_Vv (As := [.int (nI s), .int (nI m)]) (rest := []) (dget dX0_unask 17 rfl) lX0_37 miX0_part (c_part t hT σ s m (by omega) (by omega) d (by omega)) hT.1 rfl rfl rfl (Nat.le_of_ble_eq_true rfl) (Nat.le_of_ble_eq_true rfl) (fun σ_25 h_25 => ?_)
      obtain rfl := Eq.symm h_25
      exact tq_vret rfl (dget dX0_unask 18 rfl) ⟨rfl, ((if_neg c_2).trans (if_neg c_19)).symm⟩
  · refine tq_aload_n 0 (dget dX0_unask 3 rfl) rfl rfl ?_
    refine tq_getR (dget dX0_unask 4 rfl) fX0_9 hT.1 rfl ?_
    refine tq_iload_n 2 (dget dX0_unask 5 rfl) rfl rfl ?_
    refine tq_dup2 (dget dX0_unask 6 rfl) rfl rfl ?_
    refine tq_ialdN m (dget dX0_unask 7 rfl) hT.2.1 (by decide) rfl (by omega) ?_
    refine tq_iconst (v := 1) (dget dX0_unask 8 rfl) rfl ?_
    refine tq_isub (dget dX0_unask 9 rfl) ?_
    refine tq_iastN m (dget dX0_unask 10 rfl) hT.2.1 (by decide) rfl (by omega) ?_
    refine tq_goto (tgt := 28) (dget dX0_unask 11 rfl) (by decide) ?_
    exact tq_vret rfl (dget dX0_unask 18 rfl) ⟨rfl, (if_pos c_2).symm⟩
set_option maxHeartbeats 4000000 in
set_option maxRecDepth 20000 in
theorem c_wouldBreak (t : Nat) (hT : isD t) (σ : Mem) (s m : Nat) (hs6 : s < 6) (hm4 : m < 4) (hW : wfD t σ) (d : Nat) (hd : 0 ≤ d) : PMet d mX0_wouldBreak [.ref t, .ref 1, .int (nI s), .int (nI m)] σ (Pi (fun v σ2 => BP (wbP t σ s m) v ∧ σ2 = σ)) := by
  refine PMet.start (ls0 := [(0, .ref t), (1, .ref 1), (2, .int (nI s)), (3, .int (nI m))]) miX0_wouldBreak.1 (Nat.le_of_ble_eq_true rfl) rfl ?_
  have J27 : ∀ X1 : Int32, X1 = ownH t σ s → PAt (EM (d) (Pi (fun v σ2 => BP (wbP t σ s m) v ∧ σ2 = σ))) mX0_wouldBreak 27 [(0, .ref t), (1, .ref 1), (2, .int (nI s)), (3, .int (nI m))] [.int X1] σ := by
    intro X1 eX1
    refine tq_istore (ls2 := [(4, .int X1), (0, .ref t), (1, .ref 1), (2, .int (nI s)), (3, .int (nI m))]) (dget dX0_wouldBreak 17 rfl) (by decide) rfl ?_
    have J56 : ∀ X2 : Int32, X2 = ownS t σ m → PAt (EM (d) (Pi (fun v σ2 => BP (wbP t σ s m) v ∧ σ2 = σ))) mX0_wouldBreak 56 [(4, .int X1), (0, .ref t), (1, .ref 1), (2, .int (nI s)), (3, .int (nI m))] [.int X2] σ := by
      intro X2 eX2
      refine tq_istore (ls2 := [(5, .int X2), (4, .int X1), (0, .ref t), (1, .ref 1), (2, .int (nI s)), (3, .int (nI m))]) (dget dX0_wouldBreak 35 rfl) (by decide) rfl ?_
      refine tq_aload_n 3 (dget dX0_wouldBreak 36 rfl) rfl rfl ?_
      refine tq_getR (dget dX0_wouldBreak 37 rfl) fX0_51 rfl rfl ?_
      refine tq_iload_n 5 (dget dX0_wouldBreak 38 rfl) rfl rfl ?_
      refine tq_his m (dget dX0_wouldBreak 39 rfl) rfl (by omega) ?_
      refine tq_iload_n 4 (dget dX0_wouldBreak 40 rfl) rfl rfl ?_
      refine tq_ialdN s (dget dX0_wouldBreak 41 rfl) (SH_his (by omega)) (by decide) rfl (by omega) ?_
      refine tq_iload 1 (dget dX0_wouldBreak 42 rfl) rfl ?_
      refine tq_icmp_le (tgt := 88) (dget dX0_wouldBreak 43 rfl) (by decide) (fun c_68 => ?_) (fun c_68 => ?_)
      · refine tq_iconst (v := 0) (dget dX0_wouldBreak 54 rfl) rfl ?_
        exact tq_zret rfl rfl (dget dX0_wouldBreak 55 rfl) ⟨_, rfl, BP.n (fun q => by exact absurd q.1 (by rw [← eX1]; exact Int32.not_lt.mpr c_68)), rfl⟩
      · refine tq_aload_n 3 (dget dX0_wouldBreak 44 rfl) rfl rfl ?_
        refine tq_getR (dget dX0_wouldBreak 45 rfl) fX0_55 rfl rfl ?_
        refine tq_iload_n 5 (dget dX0_wouldBreak 46 rfl) rfl rfl ?_
        refine tq_hers m (dget dX0_wouldBreak 47 rfl) rfl (by omega) ?_
        refine tq_iload_n 4 (dget dX0_wouldBreak 48 rfl) rfl rfl ?_
        refine tq_ialdN s (dget dX0_wouldBreak 49 rfl) (SH_hers (by omega)) (by decide) rfl (by omega) ?_
        refine tq_iload 0 (dget dX0_wouldBreak 50 rfl) rfl ?_
        refine tq_icmp_le (tgt := 88) (dget dX0_wouldBreak 51 rfl) (by decide) (fun c_81 => ?_) (fun c_81 => ?_)
        · refine tq_iconst (v := 0) (dget dX0_wouldBreak 54 rfl) rfl ?_
          exact tq_zret rfl rfl (dget dX0_wouldBreak 55 rfl) ⟨_, rfl, BP.n (fun q => by exact absurd q.2 (by rw [← eX2]; exact Int32.not_lt.mpr c_81)), rfl⟩
        · refine tq_iconst (v := 1) (dget dX0_wouldBreak 52 rfl) rfl ?_
          refine tq_goto (tgt := 89) (dget dX0_wouldBreak 53 rfl) (by decide) ?_
          exact tq_zret rfl rfl (dget dX0_wouldBreak 55 rfl) ⟨_, rfl, BP.y ⟨by rw [← eX1]; exact Int32.not_le.mp c_68, by rw [← eX2]; exact Int32.not_le.mp c_81⟩, rfl⟩
    refine tq_aload_n 1 (dget dX0_wouldBreak 18 rfl) rfl rfl ?_
    refine tq_getR (dget dX0_wouldBreak 19 rfl) fX0_15 hT.1 rfl ?_
    refine tq_iload_n 4 (dget dX0_wouldBreak 20 rfl) rfl rfl ?_
    refine tq_ialdN m (dget dX0_wouldBreak 21 rfl) hT.2.2.1 (by decide) rfl (by omega) ?_
    refine tq_iconst (v := (-1)) (dget dX0_wouldBreak 22 rfl) rfl ?_
    refine tq_icmp_ne (tgt := 43) (dget dX0_wouldBreak 23 rfl) (by decide) (fun c_36 => ?_) (fun c_36 => ?_)
    · obtain ⟨q, g_36⟩ := (hW.2 m hm4).resolve_left c_36
      refine tq_aload_n 2 (dget dX0_wouldBreak 26 rfl) rfl rfl ?_
      refine tq_getR (dget dX0_wouldBreak 27 rfl) fX0_55 rfl rfl ?_
      refine tq_iload_n 4 (dget dX0_wouldBreak 28 rfl) rfl rfl ?_
      refine tq_hers m (dget dX0_wouldBreak 29 rfl) rfl (by omega) ?_
      refine tq_aload_n 1 (dget dX0_wouldBreak 30 rfl) rfl rfl ?_
      refine tq_getR (dget dX0_wouldBreak 31 rfl) fX0_15 hT.1 rfl ?_
      refine tq_iload_n 4 (dget dX0_wouldBreak 32 rfl) rfl rfl ?_
      refine tq_ialdN m (dget dX0_wouldBreak 33 rfl) hT.2.2.1 (by decide) rfl (by omega) ?_
      refine tq_ialdN q (dget dX0_wouldBreak 34 rfl) (SH_hers (by omega)) (by decide) g_36.2 g_36.1 ?_
      exact J56 _ (by unfold ownS; rw [if_neg c_36, cl_sub g_36.2 g_36.1 (by decide)])
    · refine tq_iconst (v := (-1)) (dget dX0_wouldBreak 24 rfl) rfl ?_
      refine tq_goto (tgt := 56) (dget dX0_wouldBreak 25 rfl) (by decide) ?_
      exact J56 _ (by unfold ownS; rw [if_pos c_36])
  refine tq_aload_n 0 (dget dX0_wouldBreak 0 rfl) rfl rfl ?_
  refine tq_getR (dget dX0_wouldBreak 1 rfl) fX0_18 hT.1 rfl ?_
  refine tq_iload_n 2 (dget dX0_wouldBreak 2 rfl) rfl rfl ?_
  refine tq_ialdN s (dget dX0_wouldBreak 3 rfl) hT.2.2.2 (by decide) rfl (by omega) ?_
  refine tq_iconst (v := (-1)) (dget dX0_wouldBreak 4 rfl) rfl ?_
  refine tq_icmp_ne (tgt := 14) (dget dX0_wouldBreak 5 rfl) (by decide) (fun c_7 => ?_) (fun c_7 => ?_)
  · obtain ⟨b, g_7⟩ := (hW.1 s hs6).resolve_left c_7
    refine tq_aload_n 1 (dget dX0_wouldBreak 8 rfl) rfl rfl ?_
    refine tq_getR (dget dX0_wouldBreak 9 rfl) fX0_51 rfl rfl ?_
    refine tq_aload_n 0 (dget dX0_wouldBreak 10 rfl) rfl rfl ?_
    refine tq_getR (dget dX0_wouldBreak 11 rfl) fX0_18 hT.1 rfl ?_
    refine tq_iload_n 2 (dget dX0_wouldBreak 12 rfl) rfl rfl ?_
    refine tq_ialdN s (dget dX0_wouldBreak 13 rfl) hT.2.2.2 (by decide) rfl (by omega) ?_
    refine tq_his b (dget dX0_wouldBreak 14 rfl) g_7.2 g_7.1 ?_
    refine tq_iload_n 2 (dget dX0_wouldBreak 15 rfl) rfl rfl ?_
    refine tq_ialdN s (dget dX0_wouldBreak 16 rfl) (SH_his g_7.1) (by decide) rfl (by omega) ?_
    exact J27 _ (by unfold ownH; rw [if_neg c_7, cl_sub g_7.2 g_7.1 (by decide)])
  · refine tq_iconst (v := (-1)) (dget dX0_wouldBreak 6 rfl) rfl ?_
    refine tq_goto (tgt := 27) (dget dX0_wouldBreak 7 rfl) (by decide) ?_
    exact J27 _ (by unfold ownH; rw [if_pos c_7])
end
section
/-! ===== what is broken; offers ===== -/
def brkA (t : Nat) (σ : Mem) (S k m : Nat) : Prop := (S ≤ k ∨ ¬ σ (t + 2) m = -1) ∧ ∃ s, s < k ∧ wbP t σ s m

set_option maxHeartbeats 4000000 in
set_option maxRecDepth 20000 in
theorem c_isBroken_inner (t : Nat) (hT : isD t) (σ : Mem) (S M K : Nat) (hV : VA σ S M) (hW : wfD t σ) (hK : K ≤ 6) (ov kn : Int32) (j : Nat) (hj : j < M) (Kn : Prop) (bk : BP Kn kn) (hKn : Kn → (S ≤ K ∨ ¬ σ (t + 2) j = -1)) (d : Nat) (hd : 2 ≤ d) : ∀ (n : Nat) (i : Nat) (hm : K < i + n) (hi : i ≤ K) (hI : ∀ s, s < i → ¬ wbP t σ s j) (hout : ¬ (Kn ∧ ∃ s, s < K ∧ wbP t σ s j) → PAt (EM d (Pi (fun v σ2 => BP (brkP t σ S M K) v ∧ σ2 = σ))) mX0_isBroken 82 [(4, .int (nI j)), (3, .int ov), (0, .ref t), (1, .ref 1), (2, .int (nI K))] [] σ), PAt (EM d (Pi (fun v σ2 => BP (brkP t σ S M K) v ∧ σ2 = σ))) mX0_isBroken 51 [(6, .int (nI i)), (5, .int kn), (4, .int (nI j)), (3, .int ov), (0, .ref t), (1, .ref 1), (2, .int (nI K))] [] σ := by
  obtain ⟨d, rfl⟩ : ∃ e, d = e + 1 := ⟨d - 1, by omega⟩
  intro n
  induction n with
  | zero => intro i hm hi hI hout; exact absurd hm (by omega)
  | succ n ih =>
    intro i hm hi hI hout
    have v4 := hV.2.2.2
    refine tq_iload 0 (dget dX0_isBroken 28 rfl) rfl ?_
    refine tq_iload_n 6 (dget dX0_isBroken 29 rfl) rfl rfl ?_
    refine tq_icmp_ge (tgt := 82) (dget dX0_isBroken 30 rfl) (by decide) (fun c_54 => ?_) (fun c_54 => ?_)
    · have g_54 := kle (by omega) (by omega) c_54
      refine tq_sub [2, 3, 4, 5, 6] (ls' := [(4, .int (nI j)), (3, .int ov), (0, .ref t), (1, .ref 1), (2, .int (nI K))]) rfl ?_
      exact hout (fun q => by obtain ⟨_, s, h1, h2⟩ := q; exact hI s (by omega) h2)
    · have g_54 := knle (by omega) (by omega) c_54
      refine tq_iload 1 (dget dX0_isBroken 31 rfl) rfl ?_
      refine tq_if_eq (tgt := 82) (dget dX0_isBroken 32 rfl) (by decide) (fun c_59 => ?_) (fun c_59 => ?_)
      · refine tq_sub [2, 3, 4, 5, 6] (ls' := [(4, .int (nI j)), (3, .int ov), (0, .ref t), (1, .ref 1), (2, .int (nI K))]) rfl ?_
        exact hout (fun q => bk.f c_59 q.1)
      · refine tq_aload_n 4 (dget dX0_isBroken 33 rfl) rfl rfl ?_
        refine tq_aload_n 5 (dget dX0_isBroken 34 rfl) rfl rfl ?_
        refine tq_iload 0 (dget dX0_isBroken 35 rfl) rfl ?_
        refine tq_iload 2 (dget dX0_isBroken 36 rfl) rfl ?_
        refine mq_Vi (As := [.ref 1, .int (nI i), .int (nI j)]) (rest := []) (dget dX0_isBroken 37 rfl) lX0_47 miX0_wouldBreak (c_wouldBreak t hT σ i j (by omega) (by omega) hW d (by omega)) hT.1 rfl rfl rfl (Nat.le_of_ble_eq_true rfl) (Nat.le_of_ble_eq_true rfl) (fun r_68 σ_68 h_68 => ?_)
        obtain ⟨b_68, e_68⟩ := h_68
        obtain rfl := e_68.symm
        refine tq_if_eq (tgt := 76) (dget dX0_isBroken 38 rfl) (by decide) (fun c_71 => ?_) (fun c_71 => ?_)
        · refine tq_iinc (v := (nI (i + 1))) (ls2 := [(6, .int (nI (i + 1))), (5, .int kn), (4, .int (nI j)), (3, .int ov), (0, .ref t), (1, .ref 1), (2, .int (nI K))]) 0 (dget dX0_isBroken 41 rfl) rfl (nI_1 i) (by decide) rfl ?_
          refine tq_goto (tgt := 51) (dget dX0_isBroken 42 rfl) (by decide) ?_
          refine tq_sub [0, 1, 2, 3, 4, 5, 6] (ls' := [(6, .int (nI (i + 1))), (5, .int kn), (4, .int (nI j)), (3, .int ov), (0, .ref t), (1, .ref 1), (2, .int (nI K))]) rfl ?_
          exact ih (i + 1) (by omega) (by omega) (fun s hs => if e : s = i then e ▸ b_68.f c_71 else hI s (by omega)) hout
        · refine tq_iconst (v := 1) (dget dX0_isBroken 39 rfl) rfl ?_
          exact tq_zret rfl rfl (dget dX0_isBroken 40 rfl) ⟨_, rfl, BP.y ⟨j, hj, hKn (bk.t c_59), i, g_54, b_68.t c_71⟩, rfl⟩
set_option maxHeartbeats 4000000 in
set_option maxRecDepth 20000 in
theorem c_isBroken_outer (t : Nat) (hT : isD t) (σ : Mem) (S M K : Nat) (hV : VA σ S M) (hW : wfD t σ) (hK : K ≤ 6) (ov : Int32) (bo : BP (S ≤ K) ov) (d : Nat) (hd : 2 ≤ d) : ∀ (n : Nat) (j : Nat) (hm : M < j + n) (hj : j ≤ M) (hI : ∀ m, m < j → ¬ brkA t σ S K m), PAt (EM d (Pi (fun v σ2 => BP (brkP t σ S M K) v ∧ σ2 = σ))) mX0_isBroken 17 [(4, .int (nI j)), (3, .int ov), (0, .ref t), (1, .ref 1), (2, .int (nI K))] [] σ := by
  obtain ⟨d, rfl⟩ : ∃ e, d = e + 1 := ⟨d - 1, by omega⟩
  intro n
  induction n with
  | zero => intro j hm hj hI; exact absurd hm (by omega)
  | succ n ih =>
    intro j hm hj hI
    have v2 := hV.2.1
    have v4 := hV.2.2.2
    refine tq_iload 0 (dget dX0_isBroken 10 rfl) rfl ?_
    refine tq_aload_n 3 (dget dX0_isBroken 11 rfl) rfl rfl ?_
    refine tq_getI (dget dX0_isBroken 12 rfl) fX0_44 rfl rfl ?_
    refine tq_icmp_ge (tgt := 88) (dget dX0_isBroken 13 rfl) (by decide) (fun c_23 => ?_) (fun c_23 => ?_)
    · rw [v2] at c_23
      have g_23 := kle (by omega) (by omega) c_23
      refine tq_iconst (v := 0) (dget dX0_isBroken 45 rfl) rfl ?_
      exact tq_zret rfl rfl (dget dX0_isBroken 46 rfl) ⟨_, rfl, BP.n (fun q => by obtain ⟨m, h1, h2⟩ := q; exact hI m (by omega) h2), rfl⟩
    · rw [v2] at c_23
      have g_23 := knle (by omega) (by omega) c_23
      have hnext : ¬ brkA t σ S K j → PAt (EM (d + 1) (Pi (fun v σ2 => BP (brkP t σ S M K) v ∧ σ2 = σ))) mX0_isBroken 82 [(4, .int (nI j)), (3, .int ov), (0, .ref t), (1, .ref 1), (2, .int (nI K))] [] σ := by
        intro hz
        refine tq_iinc (v := (nI (j + 1))) (ls2 := [(4, .int (nI (j + 1))), (3, .int ov), (0, .ref t), (1, .ref 1), (2, .int (nI K))]) 0 (dget dX0_isBroken 43 rfl) rfl (nI_1 j) (by decide) rfl ?_
        refine tq_goto (tgt := 17) (dget dX0_isBroken 44 rfl) (by decide) ?_
        refine tq_sub [0, 1, 2, 3, 4] (ls' := [(4, .int (nI (j + 1))), (3, .int ov), (0, .ref t), (1, .ref 1), (2, .int (nI K))]) rfl ?_
        exact ih (j + 1) (by omega) (by omega) (fun m hm9 => if e : m = j then e ▸ hz else hI m (by omega))
      refine tq_iload_n 1 (dget dX0_isBroken 14 rfl) rfl rfl ?_
      refine tq_if_ne (tgt := 41) (dget dX0_isBroken 15 rfl) (by decide) (fun c_27 => ?_) (fun c_27 => ?_)
      · refine tq_iconst (v := 1) (dget dX0_isBroken 22 rfl) rfl ?_
        refine tq_goto (tgt := 46) (dget dX0_isBroken 23 rfl) (by decide) ?_
        refine tq_istore (ls2 := [(5, .int 1), (4, .int (nI j)), (3, .int ov), (0, .ref t), (1, .ref 1), (2, .int (nI K))]) (dget dX0_isBroken 25 rfl) (by decide) rfl ?_
        refine tq_iconst (v := 0) (dget dX0_isBroken 26 rfl) rfl ?_
        refine tq_istore (ls2 := [(6, .int 0), (5, .int 1), (4, .int (nI j)), (3, .int ov), (0, .ref t), (1, .ref 1), (2, .int (nI K))]) (dget dX0_isBroken 27 rfl) (by decide) rfl ?_
        refine tq_sub [0, 1, 2, 3, 4, 5, 6] (ls' := [(6, .int 0), (5, .int 1), (4, .int (nI j)), (3, .int ov), (0, .ref t), (1, .ref 1), (2, .int (nI K))]) rfl ?_
        exact c_isBroken_inner t hT σ S M K hV hW hK ov 1 j g_23 (S ≤ K) (BP.y (bo.t c_27)) (fun q => Or.inl q) (d + 1) (by omega) (K + 1) 0 (by omega) (by omega) (fun s hs => absurd hs (by omega)) (fun hz => hnext (fun q => hz ⟨bo.t c_27, q.2⟩))
      · refine tq_aload_n 2 (dget dX0_isBroken 16 rfl) rfl rfl ?_
        refine tq_getR (dget dX0_isBroken 17 rfl) fX0_15 hT.1 rfl ?_
        refine tq_iload 0 (dget dX0_isBroken 18 rfl) rfl ?_
        refine tq_ialdN j (dget dX0_isBroken 19 rfl) hT.2.2.1 (by decide) rfl (by omega) ?_
        refine tq_iconst (v := (-1)) (dget dX0_isBroken 20 rfl) rfl ?_
        refine tq_icmp_eq (tgt := 45) (dget dX0_isBroken 21 rfl) (by decide) (fun c_38 => ?_) (fun c_38 => ?_)
        · refine tq_iconst (v := 0) (dget dX0_isBroken 24 rfl) rfl ?_
          refine tq_istore (ls2 := [(5, .int 0), (4, .int (nI j)), (3, .int ov), (0, .ref t), (1, .ref 1), (2, .int (nI K))]) (dget dX0_isBroken 25 rfl) (by decide) rfl ?_
          refine tq_iconst (v := 0) (dget dX0_isBroken 26 rfl) rfl ?_
          refine tq_istore (ls2 := [(6, .int 0), (5, .int 0), (4, .int (nI j)), (3, .int ov), (0, .ref t), (1, .ref 1), (2, .int (nI K))]) (dget dX0_isBroken 27 rfl) (by decide) rfl ?_
          refine tq_sub [0, 1, 2, 3, 4, 5, 6] (ls' := [(6, .int 0), (5, .int 0), (4, .int (nI j)), (3, .int ov), (0, .ref t), (1, .ref 1), (2, .int (nI K))]) rfl ?_
          exact c_isBroken_inner t hT σ S M K hV hW hK ov 0 j g_23 False (BP.n id) (fun q => absurd q id) (d + 1) (by omega) (K + 1) 0 (by omega) (by omega) (fun s hs => absurd hs (by omega)) (fun hz => hnext (fun q => q.1.elim (fun z => bo.f c_27 z) (fun z => z c_38)))
        · refine tq_iconst (v := 1) (dget dX0_isBroken 22 rfl) rfl ?_
          refine tq_goto (tgt := 46) (dget dX0_isBroken 23 rfl) (by decide) ?_
          refine tq_istore (ls2 := [(5, .int 1), (4, .int (nI j)), (3, .int ov), (0, .ref t), (1, .ref 1), (2, .int (nI K))]) (dget dX0_isBroken 25 rfl) (by decide) rfl ?_
          refine tq_iconst (v := 0) (dget dX0_isBroken 26 rfl) rfl ?_
          refine tq_istore (ls2 := [(6, .int 0), (5, .int 1), (4, .int (nI j)), (3, .int ov), (0, .ref t), (1, .ref 1), (2, .int (nI K))]) (dget dX0_isBroken 27 rfl) (by decide) rfl ?_
          refine tq_sub [0, 1, 2, 3, 4, 5, 6] (ls' := [(6, .int 0), (5, .int 1), (4, .int (nI j)), (3, .int ov), (0, .ref t), (1, .ref 1), (2, .int (nI K))]) rfl ?_
          exact c_isBroken_inner t hT σ S M K hV hW hK ov 1 j g_23 (¬ σ (t + 2) j = -1) (BP.y c_38) (fun q => Or.inr q) (d + 1) (by omega) (K + 1) 0 (by omega) (by omega) (fun s hs => absurd hs (by omega)) (fun hz => hnext (fun q => hz ⟨c_38, q.2⟩))
set_option maxHeartbeats 4000000 in
set_option maxRecDepth 20000 in
theorem c_isBroken (t : Nat) (hT : isD t) (σ : Mem) (S M K : Nat) (hV : VA σ S M) (hW : wfD t σ) (hK : K ≤ 6) (d : Nat) (hd : 2 ≤ d) : PMet d mX0_isBroken [.ref t, .ref 1, .int (nI K)] σ (Pi (fun v σ2 => BP (brkP t σ S M K) v ∧ σ2 = σ)) := by
  obtain ⟨d, rfl⟩ : ∃ e, d = e + 1 := ⟨d - 1, by omega⟩
  refine PMet.start (ls0 := [(0, .ref t), (1, .ref 1), (2, .int (nI K))]) miX0_isBroken.1 (Nat.le_of_ble_eq_true rfl) rfl ?_
  have v1 := hV.1
  have v3 := hV.2.2.1
  refine tq_iload_n 2 (dget dX0_isBroken 0 rfl) rfl rfl ?_
  refine tq_aload_n 1 (dget dX0_isBroken 1 rfl) rfl rfl ?_
  refine tq_getI (dget dX0_isBroken 2 rfl) fX0_40 rfl rfl ?_
  refine tq_icmp_lt (tgt := 12) (dget dX0_isBroken 3 rfl) (by decide) (fun c_5 => ?_) (fun c_5 => ?_)
  · rw [v1] at c_5
    have g_5 : ¬ S ≤ K := Nat.not_le.mpr (klt (by omega) (by omega) c_5)
    refine tq_iconst (v := 0) (dget dX0_isBroken 6 rfl) rfl ?_
    refine tq_istore_n (ls2 := [(3, .int 0), (0, .ref t), (1, .ref 1), (2, .int (nI K))]) (dget dX0_isBroken 7 rfl) rfl (by decide) rfl ?_
    refine tq_iconst (v := 0) (dget dX0_isBroken 8 rfl) rfl ?_
    refine tq_istore (ls2 := [(4, .int 0), (3, .int 0), (0, .ref t), (1, .ref 1), (2, .int (nI K))]) (dget dX0_isBroken 9 rfl) (by decide) rfl ?_
    refine tq_sub [0, 1, 2, 3, 4] (ls' := [(4, .int 0), (3, .int 0), (0, .ref t), (1, .ref 1), (2, .int (nI K))]) rfl ?_
    exact c_isBroken_outer t hT σ S M K hV hW hK 0 (BP.n g_5) (d + 1) (by omega) (M + 1) 0 (by omega) (by omega) (fun m hm9 => absurd hm9 (by omega))
  · rw [v1] at c_5
    have g_5 : S ≤ K := knlt (by omega) (by omega) c_5
    refine tq_iconst (v := 1) (dget dX0_isBroken 4 rfl) rfl ?_
    refine tq_goto (tgt := 13) (dget dX0_isBroken 5 rfl) (by decide) ?_
    refine tq_istore_n (ls2 := [(3, .int 1), (0, .ref t), (1, .ref 1), (2, .int (nI K))]) (dget dX0_isBroken 7 rfl) rfl (by decide) rfl ?_
    refine tq_iconst (v := 0) (dget dX0_isBroken 8 rfl) rfl ?_
    refine tq_istore (ls2 := [(4, .int 0), (3, .int 1), (0, .ref t), (1, .ref 1), (2, .int (nI K))]) (dget dX0_isBroken 9 rfl) (by decide) rfl ?_
    refine tq_sub [0, 1, 2, 3, 4] (ls' := [(4, .int 0), (3, .int 1), (0, .ref t), (1, .ref 1), (2, .int (nI K))]) rfl ?_
    exact c_isBroken_outer t hT σ S M K hV hW hK 1 (BP.y g_5) (d + 1) (by omega) (M + 1) 0 (by omega) (by omega) (fun m hm9 => absurd hm9 (by omega))
def forgF (σ : Mem) : Mem := begF 17 (up σ 13 4 0)
def addO (σ : Mem) (C s m : Nat) : Mem := up (up σ 14 C (nI s)) 15 C (nI m)
def addF (σ : Mem) (C s m : Nat) : Mem := up (up (askM 17 (addO σ C s m) s m) 16 C (askV 17 (addO σ C s m) s m)) 13 4 (nI (C + 1))
def goF (σ : Mem) (s m : Nat → Nat) : Nat → Mem
  | 0 => begF 17 σ
  | k + 1 => up (askM 17 (goF σ s m k) (s k) (m k)) 16 k (askV 17 (goF σ s m k) (s k) (m k))
theorem askM_row {t : Nat} {σ : Mem} {s m a : Nat} (h1 : a ≠ t + 1) (h2 : a ≠ t + 2) (h3 : a ≠ t + 3) : askM t σ s m a = σ a := by
  unfold askM wedF
  split
  · split
    · exact upR_n h1
    · exact (upR_n h2).trans (upR_n h3)
  · rfl
theorem begF_row {t : Nat} {σ : Mem} {a : Nat} (h1 : a ≠ t + 1) (h2 : a ≠ t + 2) (h3 : a ≠ t + 3) : begF t σ a = σ a := (upR_n h3).trans ((upR_n h2).trans (upR_n h1))
theorem goF_row (σ : Mem) (s m : Nat → Nat) {a : Nat} (h1 : a ≠ 18) (h2 : a ≠ 19) (h3 : a ≠ 20) (h4 : a ≠ 16) : ∀ k, goF σ s m k a = σ a
  | 0 => begF_row h1 h2 h3
  | k + 1 => (upR_n h4).trans ((askM_row h1 h2 h3).trans (goF_row σ s m h1 h2 h3 h4 k))

set_option maxHeartbeats 4000000 in
set_option maxRecDepth 20000 in
theorem c_forget (σ : Mem) (d : Nat) (hd : 2 ≤ d) : PMet d mX2_forget [.ref 13] σ (Pv (fun σ2 => σ2 = forgF σ)) := by
  obtain ⟨d, rfl⟩ : ∃ e, d = e + 1 := ⟨d - 1, by omega⟩
  refine PMet.start (ls0 := [(0, .ref 13)]) miX2_forget.1 (Nat.le_of_ble_eq_true rfl) rfl ?_
  refine tq_aload_n 0 (dget dX2_forget 0 rfl) rfl rfl ?_
  refine tq_iconst (v := 0) (dget dX2_forget 1 rfl) rfl ?_
  refine tq_putI (dget dX2_forget 2 rfl) fX2_28 rfl rfl rfl rfl ?_
  refine tq_aload_n 0 (dget dX2_forget 3 rfl) rfl rfl ?_
  refine tq_getR (dget dX2_forget 4 rfl) fX2_24 rfl rfl ?_
  refine mq_Vv (As := []) (rest := []) (dget dX2_forget 5 rfl) lX2_32 miX0_begin (c_begin 17 isD_17 (up σ 13 4 0) d (by omega)) rfl rfl rfl rfl (Nat.le_of_ble_eq_true rfl) (Nat.le_of_ble_eq_true rfl) (fun σ_9 h_9 => ?_)
  obtain rfl := Eq.symm h_9
  exact tq_vret rfl (dget dX2_forget 6 rfl) ⟨rfl, rfl⟩
set_option maxHeartbeats 4000000 in
set_option maxRecDepth 20000 in
theorem c_Oadd (σ : Mem) (C s m : Nat) (hC : σ 13 4 = nI C) (hC8 : C < 24) (hs6 : s < 6) (hm4 : m < 4) (d : Nat) (hd : 3 ≤ d) : PMet d mX2_add [.ref 13, .ref 1, .int (nI s), .int (nI m)] σ (Pi (fun v σ2 => v = nI C ∧ σ2 = addF σ C s m)) := by
  obtain ⟨d, rfl⟩ : ∃ e, d = e + 1 := ⟨d - 1, by omega⟩
  refine PMet.start (ls0 := [(0, .ref 13), (1, .ref 1), (2, .int (nI s)), (3, .int (nI m))]) miX2_add.1 (Nat.le_of_ble_eq_true rfl) rfl ?_
  refine tq_aload_n 0 (dget dX2_add 0 rfl) rfl rfl ?_
  refine tq_getI (dget dX2_add 1 rfl) fX2_28 rfl rfl ?_
  refine tq_eqi (y := (nI C)) hC ?_
  refine tq_istore (ls2 := [(4, .int (nI C)), (0, .ref 13), (1, .ref 1), (2, .int (nI s)), (3, .int (nI m))]) (dget dX2_add 2 rfl) (by decide) rfl ?_
  refine tq_aload_n 1 (dget dX2_add 3 rfl) rfl rfl ?_
  refine tq_getR (dget dX2_add 4 rfl) fX2_9 rfl rfl ?_
  refine tq_iload 0 (dget dX2_add 5 rfl) rfl ?_
  refine tq_iload_n 3 (dget dX2_add 6 rfl) rfl rfl ?_
  refine tq_iastN C (dget dX2_add 7 rfl) rfl (by decide) rfl (by omega) ?_
  refine tq_aload_n 1 (dget dX2_add 8 rfl) rfl rfl ?_
  refine tq_getR (dget dX2_add 9 rfl) fX2_15 rfl rfl ?_
  refine tq_iload 0 (dget dX2_add 10 rfl) rfl ?_
  refine tq_iload_n 4 (dget dX2_add 11 rfl) rfl rfl ?_
  refine tq_iastN C (dget dX2_add 12 rfl) rfl (by decide) rfl (by omega) ?_
  refine tq_aload_n 1 (dget dX2_add 13 rfl) rfl rfl ?_
  refine tq_getR (dget dX2_add 14 rfl) fX2_18 rfl rfl ?_
  refine tq_iload 0 (dget dX2_add 15 rfl) rfl ?_
  refine tq_aload_n 1 (dget dX2_add 16 rfl) rfl rfl ?_
  refine tq_getR (dget dX2_add 17 rfl) fX2_24 rfl rfl ?_
  refine tq_aload_n 2 (dget dX2_add 18 rfl) rfl rfl ?_
  refine tq_iload_n 3 (dget dX2_add 19 rfl) rfl rfl ?_
  refine tq_iload_n 4 (dget dX2_add 20 rfl) rfl rfl ?_
  refine mq_Vi (As := [.ref 1, .int (nI s), .int (nI m)]) (rest := [.int (nI C), .ref 16]) (dget dX2_add 21 rfl) lX2_35 miX0_ask (c_ask 17 isD_17 (up (up σ 14 C (nI s)) 15 C (nI m)) s m (by omega) (by omega) d (by omega)) rfl rfl rfl rfl (Nat.le_of_ble_eq_true rfl) (Nat.le_of_ble_eq_true rfl) (fun r_35 σ_35 h_35 => ?_)
  obtain ⟨a_35, e_35⟩ := h_35
  obtain rfl := a_35.symm
  obtain rfl := e_35.symm
  refine tq_iastN C (dget dX2_add 22 rfl) rfl (by decide) rfl (by omega) ?_
  refine tq_aload_n 1 (dget dX2_add 23 rfl) rfl rfl ?_
  refine tq_dup (dget dX2_add 24 rfl) rfl ?_
  refine tq_getI (dget dX2_add 25 rfl) fX2_28 rfl rfl ?_
  refine tq_eqi (y := (nI C)) ((congrFun (upR_n (by decide)) 4).trans ((congrFun (askM_row (by decide) (by decide) (by decide)) 4).trans hC)) ?_
  refine tq_iconst (v := 1) (dget dX2_add 26 rfl) rfl ?_
  refine tq_iadd (dget dX2_add 27 rfl) ?_
  refine tq_eqi (y := (nI (C + 1))) (nI_1 C) ?_
  refine tq_putI (dget dX2_add 28 rfl) fX2_28 rfl rfl rfl rfl ?_
  refine tq_iload 0 (dget dX2_add 29 rfl) rfl ?_
  exact tq_iret rfl (dget dX2_add 30 rfl) ⟨_, rfl, rfl, rfl⟩
set_option maxHeartbeats 4000000 in
set_option maxRecDepth 20000 in
theorem c_goThrough_loop (σ : Mem) (C : Nat) (s m : Nat → Nat) (hC : σ 13 4 = nI C) (hC8 : C ≤ 24) (hw : ∀ k, k < C → σ 14 k = nI (s k) ∧ s k < 6 ∧ σ 15 k = nI (m k) ∧ m k < 4) (d : Nat) (hd : 3 ≤ d) : ∀ (n : Nat) (k : Nat) (hm : C < k + n) (hk : k ≤ C), PAt (EM d (Pv (fun σ2 => σ2 = goF σ s m C))) mX2_goThrough 9 [(2, .int (nI k)), (0, .ref 13), (1, .ref 1)] [] (goF σ s m k) := by
  obtain ⟨d, rfl⟩ : ∃ e, d = e + 1 := ⟨d - 1, by omega⟩
  intro n
  induction n with
  | zero => intro k hm hk; exact absurd hm (by omega)
  | succ n ih =>
    intro k hm hk
    refine tq_iload_n 0 (dget dX2_goThrough 5 rfl) rfl rfl ?_
    refine tq_aload_n 1 (dget dX2_goThrough 6 rfl) rfl rfl ?_
    refine tq_getI (dget dX2_goThrough 7 rfl) fX2_28 rfl rfl ?_
    refine tq_eqi (y := (nI C)) ((congrFun (goF_row σ s m (by decide) (by decide) (by decide) (by decide) k) 4).trans hC) ?_
    refine tq_icmp_ge (tgt := 49) (dget dX2_goThrough 8 rfl) (by decide) (fun c_14 => ?_) (fun c_14 => ?_)
    · have g_14 := kle (by omega) (by omega) c_14
      have g_15 : k = C := by omega
      exact tq_vret rfl (dget dX2_goThrough 27 rfl) ⟨rfl, by rw [g_15]⟩
    · have g_14 := knle (by omega) (by omega) c_14
      have w1 := (hw k g_14).2.1
      have w2 := (hw k g_14).2.2.2
      refine tq_aload_n 1 (dget dX2_goThrough 9 rfl) rfl rfl ?_
      refine tq_getR (dget dX2_goThrough 10 rfl) fX2_18 rfl rfl ?_
      refine tq_iload_n 0 (dget dX2_goThrough 11 rfl) rfl rfl ?_
      refine tq_aload_n 1 (dget dX2_goThrough 12 rfl) rfl rfl ?_
      refine tq_getR (dget dX2_goThrough 13 rfl) fX2_24 rfl rfl ?_
      refine tq_aload_n 2 (dget dX2_goThrough 14 rfl) rfl rfl ?_
      refine tq_aload_n 1 (dget dX2_goThrough 15 rfl) rfl rfl ?_
      refine tq_getR (dget dX2_goThrough 16 rfl) fX2_9 rfl rfl ?_
      refine tq_iload_n 0 (dget dX2_goThrough 17 rfl) rfl rfl ?_
      refine tq_ialdN k (dget dX2_goThrough 18 rfl) rfl (by decide) rfl (by omega) ?_
      refine tq_eqi (y := (nI (s k))) ((congrFun (goF_row σ s m (by decide) (by decide) (by decide) (by decide) k) k).trans (hw k g_14).1) ?_
      refine tq_aload_n 1 (dget dX2_goThrough 19 rfl) rfl rfl ?_
      refine tq_getR (dget dX2_goThrough 20 rfl) fX2_15 rfl rfl ?_
      refine tq_iload_n 0 (dget dX2_goThrough 21 rfl) rfl rfl ?_
      refine tq_ialdN k (dget dX2_goThrough 22 rfl) rfl (by decide) rfl (by omega) ?_
      refine tq_eqi (y := (nI (m k))) ((congrFun (goF_row σ s m (by decide) (by decide) (by decide) (by decide) k) k).trans (hw k g_14).2.2.1) ?_
      refine mq_Vi (As := [.ref 1, .int (nI (s k)), .int (nI (m k))]) (rest := [.int (nI k), .ref 16]) (dget dX2_goThrough 23 rfl) lX2_35 miX0_ask (c_ask 17 isD_17 (goF σ s m k) (s k) (m k) (by omega) (by omega) d (by omega)) rfl rfl rfl rfl (Nat.le_of_ble_eq_true rfl) (Nat.le_of_ble_eq_true rfl) (fun r_39 σ_39 h_39 => ?_)
      obtain ⟨a_39, e_39⟩ := h_39
      obtain rfl := a_39.symm
      obtain rfl := e_39.symm
      refine tq_iastN k (dget dX2_goThrough 24 rfl) rfl (by decide) rfl (by omega) ?_
      refine tq_iinc (v := (nI (k + 1))) (ls2 := [(2, .int (nI (k + 1))), (0, .ref 13), (1, .ref 1)]) 0 (dget dX2_goThrough 25 rfl) rfl (nI_1 k) (by decide) rfl ?_
      refine tq_goto (tgt := 9) (dget dX2_goThrough 26 rfl) (by decide) ?_
      refine tq_sub [0, 1, 2] (ls' := [(2, .int (nI (k + 1))), (0, .ref 13), (1, .ref 1)]) rfl ?_
      exact ih (k + 1) (by omega) (by omega)
set_option maxHeartbeats 4000000 in
set_option maxRecDepth 20000 in
theorem c_goThrough (σ : Mem) (C : Nat) (s m : Nat → Nat) (hC : σ 13 4 = nI C) (hC8 : C ≤ 24) (hw : ∀ k, k < C → σ 14 k = nI (s k) ∧ s k < 6 ∧ σ 15 k = nI (m k) ∧ m k < 4) (d : Nat) (hd : 3 ≤ d) : PMet d mX2_goThrough [.ref 13, .ref 1] σ (Pv (fun σ2 => σ2 = goF σ s m C)) := by
  obtain ⟨d, rfl⟩ : ∃ e, d = e + 1 := ⟨d - 1, by omega⟩
  refine PMet.start (ls0 := [(0, .ref 13), (1, .ref 1)]) miX2_goThrough.1 (Nat.le_of_ble_eq_true rfl) rfl ?_
  refine tq_aload_n 0 (dget dX2_goThrough 0 rfl) rfl rfl ?_
  refine tq_getR (dget dX2_goThrough 1 rfl) fX2_24 rfl rfl ?_
  refine mq_Vv (As := []) (rest := []) (dget dX2_goThrough 2 rfl) lX2_32 miX0_begin (c_begin 17 isD_17 σ d (by omega)) rfl rfl rfl rfl (Nat.le_of_ble_eq_true rfl) (Nat.le_of_ble_eq_true rfl) (fun σ_4 h_4 => ?_)
  obtain rfl := Eq.symm h_4
  refine tq_iconst (v := 0) (dget dX2_goThrough 3 rfl) rfl ?_
  refine tq_istore_n (ls2 := [(2, .int 0), (0, .ref 13), (1, .ref 1)]) (dget dX2_goThrough 4 rfl) rfl (by decide) rfl ?_
  refine tq_sub [0, 1, 2] (ls' := [(2, .int 0), (0, .ref 13), (1, .ref 1)]) rfl ?_
  exact c_goThrough_loop σ C s m hC hC8 hw (d + 1) (by omega) (C + 1) 0 (by omega) (by omega)
end
section
/-! ===== matches: the class's two searches, as they go ===== -/
def keepF (σ : Mem) : Mem := up (if σ 26 2 = 0 then upR σ 31 (va_cpy (σ 30) (σ 31) 0 0 6) else σ) 26 2 ((if σ 26 2 = 0 then upR σ 31 (va_cpy (σ 30) (σ 31) 0 0 6) else σ) 26 2 + 1)
def foldM (f : Mem → Nat → Mem) : Nat → Mem → Mem
  | 0, σ => σ
  | k + 1, σ => f (foldM f k σ) k
def mfS (g : Mem → Mem) (s : Nat) (τ : Mem) (m : Nat) : Mem := if τ 29 m = -1 then partF 27 (g (wedF 27 τ s m)) s m else τ
noncomputable def mfP (S M : Nat) : Nat → Mem → Mem
  | 0 => fun σ => @ite _ (brkP 27 σ S M S) (Classical.propDecidable _) σ (keepF σ)
  | r + 1 => fun σ => @ite _ (brkP 27 σ S M (S - (r + 1))) (Classical.propDecidable _) σ (mfP S M r (foldM (mfS (mfP S M r) (S - (r + 1))) M σ))
def foldB (f : Int32 × Mem → Nat → Int32 × Mem) : Nat → Int32 × Mem → Int32 × Mem
  | 0, σ => σ
  | k + 1, σ => f (foldB f k σ) k
def bfS (g : Mem → Int32 × Mem) (s : Nat) (τ : Int32 × Mem) (m : Nat) : Int32 × Mem := (τ.1 + (g (askM 27 τ.2 s m)).1, unaskM 27 (g (askM 27 τ.2 s m)).2 s m (askV 27 τ.2 s m))
noncomputable def bfP (S M : Nat) : Nat → Mem → Int32 × Mem
  | 0 => fun σ => @ite _ (brkP 27 σ S M S) (Classical.propDecidable _) (0, σ) (1, σ)
  | r + 1 => fun σ => @ite _ (brkP 27 σ S M (S - (r + 1))) (Classical.propDecidable _) (0, σ) (foldB (bfS (bfP S M r) (S - (r + 1))) M (0, σ))
/-- the valley stands, who is wed is one of it -/
def okM (S M : Nat) (σ : Mem) : Prop := VA σ S M ∧ wfD 27 σ
theorem VA_row {σ τ : Mem} {S M : Nat} (h : VA σ S M) (e : τ 1 = σ 1) : VA τ S M := by
  unfold VA
  rw [e]
  exact h
theorem up_row {σ : Mem} {i k a : Nat} {v : Int32} (h : a ≠ i) : up σ i k v a = σ a := upR_n h
theorem wedF_row {t : Nat} {σ : Mem} {s m a : Nat} (h1 : a ≠ t + 2) (h2 : a ≠ t + 3) : wedF t σ s m a = σ a := by
  unfold wedF
  rw [up_row h1, up_row h2]
theorem partF_row {t : Nat} {σ : Mem} {s m a : Nat} (h1 : a ≠ t + 2) (h2 : a ≠ t + 3) : partF t σ s m a = σ a := by
  unfold partF
  rw [up_row h1, up_row h2]
theorem okM_wed {S M s m : Nat} {σ : Mem} (h : okM S M σ) (hs : s < 6) (hm : m < 4) : okM S M (wedF 27 σ s m) := by
  refine ⟨VA_row h.1 (wedF_row (by decide) (by decide)), fun a ha => ?_, fun a ha => ?_⟩
  · show wedF 27 σ s m 30 a = -1 ∨ _
    by_cases e : a = s
    · subst e
      exact Or.inr ⟨m, hm, (up_n (by omega)).trans up_s⟩
    · rw [show wedF 27 σ s m 30 a = σ 30 a from (up_n (by omega)).trans (up_n (by omega))]
      exact h.2.1 a ha
  · show wedF 27 σ s m 29 a = -1 ∨ _
    by_cases e : a = m
    · subst e
      exact Or.inr ⟨s, hs, up_s⟩
    · rw [show wedF 27 σ s m 29 a = σ 29 a from (up_n (by omega)).trans (up_n (by omega))]
      exact h.2.2 a ha
theorem okM_part {S M s m : Nat} {σ : Mem} (h : okM S M σ) : okM S M (partF 27 σ s m) := by
  refine ⟨VA_row h.1 (partF_row (by decide) (by decide)), fun a ha => ?_, fun a ha => ?_⟩
  · show partF 27 σ s m 30 a = -1 ∨ _
    by_cases e : a = s
    · subst e
      exact Or.inl ((up_n (by omega)).trans up_s)
    · rw [show partF 27 σ s m 30 a = σ 30 a from (up_n (by omega)).trans (up_n (by omega))]
      exact h.2.1 a ha
  · show partF 27 σ s m 29 a = -1 ∨ _
    by_cases e : a = m
    · subst e
      exact Or.inl up_s
    · rw [show partF 27 σ s m 29 a = σ 29 a from (up_n (by omega)).trans (up_n (by omega))]
      exact h.2.2 a ha
theorem okM_rows {S M : Nat} {σ τ : Mem} (h : okM S M σ) (h1 : τ 1 = σ 1) (h2 : τ 29 = σ 29) (h3 : τ 30 = σ 30) : okM S M τ := by
  refine ⟨VA_row h.1 h1, ?_⟩
  unfold wfD
  show (∀ s, s < 6 → τ 30 s = -1 ∨ ∃ b, b < 4 ∧ τ 30 s = nI b) ∧ ∀ m, m < 4 → τ 29 m = -1 ∨ ∃ h, h < 6 ∧ τ 29 m = nI h
  rw [h2, h3]
  exact h.2
theorem keepF_row {σ : Mem} {a : Nat} (h1 : a ≠ 26) (h2 : a ≠ 31) : keepF σ a = σ a := by
  refine (upR_n h1).trans ?_
  split
  · exact upR_n h2
  · rfl
theorem okM_ask {S M s m : Nat} {σ : Mem} (h : okM S M σ) (hs : s < 6) (hm : m < 4) : okM S M (askM 27 σ s m) := by
  unfold askM
  split
  · split
    · exact okM_rows h (up_row (by decide)) (up_row (by decide)) (up_row (by decide))
    · exact okM_wed h hs hm
  · exact h
theorem okM_unask {S M s m : Nat} {v : Int32} {σ : Mem} (h : okM S M σ) : okM S M (unaskM 27 σ s m v) := by
  unfold unaskM
  split
  · exact okM_rows h (up_row (by decide)) (up_row (by decide)) (up_row (by decide))
  · split
    · exact h
    · exact okM_part h
theorem foldM_ok {S M : Nat} {f : Mem → Nat → Mem} (hf : ∀ τ m, m < M → okM S M τ → okM S M (f τ m)) {σ : Mem} (h : okM S M σ) : ∀ k, k ≤ M → okM S M (foldM f k σ)
  | 0, _ => h
  | k + 1, hk => hf _ k (by omega) (foldM_ok hf h k (by omega))
theorem mfP_ok {S M : Nat} (hS : S ≤ 6) (hM : M ≤ 4) : ∀ r, r ≤ S → ∀ σ, okM S M σ → okM S M (mfP S M r σ)
  | 0, _, σ, h => by
    unfold mfP
    split
    · exact h
    · exact okM_rows h (keepF_row (by decide) (by decide)) (keepF_row (by decide) (by decide)) (keepF_row (by decide) (by decide))
  | r + 1, hr, σ, h => by
    unfold mfP
    split
    · exact h
    · refine mfP_ok hS hM r (by omega) _ (foldM_ok (fun τ m hm hτ => ?_) h M (Nat.le_refl _))
      unfold mfS
      split
      · exact okM_part (mfP_ok hS hM r (by omega) _ (okM_wed hτ (by omega) (by omega)))
      · exact hτ
theorem mfS_ok {S M r s : Nat} (hS : S ≤ 6) (hM : M ≤ 4) (hr : r ≤ S) (hs : s < 6) {τ : Mem} {m : Nat} (hm : m < M) (hτ : okM S M τ) : okM S M (mfS (mfP S M r) s τ m) := by
  unfold mfS
  split
  · exact okM_part (mfP_ok hS hM r hr _ (okM_wed hτ hs (by omega)))
  · exact hτ
theorem foldB_ok {S M : Nat} {f : Int32 × Mem → Nat → Int32 × Mem} (hf : ∀ τ m, m < M → okM S M τ.2 → okM S M (f τ m).2) {σ : Int32 × Mem} (h : okM S M σ.2) : ∀ k, k ≤ M → okM S M (foldB f k σ).2
  | 0, _ => h
  | k + 1, hk => hf _ k (by omega) (foldB_ok hf h k (by omega))
theorem bfP_ok {S M : Nat} (hS : S ≤ 6) (hM : M ≤ 4) : ∀ r, r ≤ S → ∀ σ, okM S M σ → okM S M (bfP S M r σ).2
  | 0, _, σ, h => by
    unfold bfP
    split <;> exact h
  | r + 1, hr, σ, h => by
    unfold bfP
    split
    · exact h
    · refine foldB_ok (fun τ m hm hτ => ?_) h M (Nat.le_refl _)
      exact okM_unask (bfP_ok hS hM r (by omega) _ (okM_ask hτ (by omega) (by omega)))
theorem bfS_ok {S M r s : Nat} (hS : S ≤ 6) (hM : M ≤ 4) (hr : r ≤ S) (hs : s < 6) {τ : Int32 × Mem} {m : Nat} (hm : m < M) (hτ : okM S M τ.2) : okM S M (bfS (bfP S M r) s τ m).2 :=
  okM_unask (bfP_ok hS hM r hr _ (okM_ask hτ hs (by omega)))
theorem begF_h {t : Nat} {σ : Mem} {a : Nat} (ha : a < 6) : begF t σ (t + 3) a = -1 := by
  unfold begF fillR
  rw [upR_s]
  exact if_pos ha
theorem begF_w {t : Nat} {σ : Mem} {a : Nat} (ha : a < 4) : begF t σ (t + 2) a = -1 := by
  unfold begF fillR
  rw [upR_n (by omega), upR_s]
  exact if_pos ha
theorem begF_r {t : Nat} {σ : Mem} {a : Nat} (ha : a < 4) : begF t σ (t + 1) a = 0 := by
  unfold begF fillR
  rw [upR_n (by omega), upR_n (by omega), upR_s]
  exact if_pos ha
theorem begF_ok {S M : Nat} {σ : Mem} (h : VA σ S M) : okM S M (begF 27 σ) := by
  exact ⟨VA_row h (begF_row (by decide) (by decide) (by decide)), fun a ha => Or.inl (begF_h ha), fun a ha => Or.inl (begF_w ha)⟩

set_option maxHeartbeats 4000000 in
set_option maxRecDepth 20000 in
theorem c_keep (σ : Mem) (d : Nat) (hd : 1 ≤ d) : PMet d mX1_keep [.ref 26] σ (Pv (fun σ2 => σ2 = keepF σ)) := by
  obtain ⟨d, rfl⟩ : ∃ e, d = e + 1 := ⟨d - 1, by omega⟩
  refine PMet.start (ls0 := [(0, .ref 26)]) miX1_keep.1 (Nat.le_of_ble_eq_true rfl) rfl ?_
  refine tq_aload_n 0 (dget dX1_keep 0 rfl) rfl rfl ?_
  refine tq_getI (dget dX1_keep 1 rfl) fX1_25 rfl rfl ?_
  refine tq_if_ne (tgt := 25) (dget dX1_keep 2 rfl) (by decide) (fun c_4 => ?_) (fun c_4 => ?_)
  · refine tq_aload_n 0 (dget dX1_keep 12 rfl) rfl rfl ?_
    refine tq_dup (dget dX1_keep 13 rfl) rfl ?_
    refine tq_getI (dget dX1_keep 14 rfl) fX1_25 rfl rfl ?_
    refine tq_iconst (v := 1) (dget dX1_keep 15 rfl) rfl ?_
    refine tq_iadd (dget dX1_keep 16 rfl) ?_
    refine tq_putI (dget dX1_keep 17 rfl) fX1_25 rfl rfl rfl rfl ?_
    exact tq_vret rfl (dget dX1_keep 18 rfl) ⟨rfl, by unfold keepF; rw [if_neg c_4]⟩
  · refine tq_aload_n 0 (dget dX1_keep 3 rfl) rfl rfl ?_
    refine tq_getR (dget dX1_keep 4 rfl) fX1_12 rfl rfl ?_
    refine tq_getR (dget dX1_keep 5 rfl) fX1_58 rfl rfl ?_
    refine tq_iconst (v := 0) (dget dX1_keep 6 rfl) rfl ?_
    refine tq_aload_n 0 (dget dX1_keep 7 rfl) rfl rfl ?_
    refine tq_getR (dget dX1_keep 8 rfl) fX1_18 rfl rfl ?_
    refine tq_iconst (v := 0) (dget dX1_keep 9 rfl) rfl ?_
    refine tq_bipush (v := 6) (dget dX1_keep 10 rfl) rfl ?_
    refine tq_copy (dget dX1_keep 11 rfl) (tblG_2 178 rfl rfl) (tblG_1 237 rfl rfl) (tblG_1 236 rfl rfl) (tblG_1 9 rfl rfl) rfl rfl (by decide) (by decide) (by decide) (by decide) (by decide) (by show 1 ≤ d + 1; omega) (by show _ ≤ 40 * (d + 1); have h0 : 40 ≤ 40 * (d + 1) := (by omega); exact Nat.le_trans (Nat.le_of_ble_eq_true rfl) h0) ?_
    refine tq_aload_n 0 (dget dX1_keep 12 rfl) rfl rfl ?_
    refine tq_dup (dget dX1_keep 13 rfl) rfl ?_
    refine tq_getI (dget dX1_keep 14 rfl) fX1_25 rfl rfl ?_
    refine tq_iconst (v := 1) (dget dX1_keep 15 rfl) rfl ?_
    refine tq_iadd (dget dX1_keep 16 rfl) ?_
    refine tq_putI (dget dX1_keep 17 rfl) fX1_25 rfl rfl rfl rfl ?_
    exact tq_vret rfl (dget dX1_keep 18 rfl) ⟨rfl, by unfold keepF; rw [if_pos c_4]; rfl⟩
set_option maxHeartbeats 4000000 in
set_option maxRecDepth 20000 in
theorem c_matchFrom_base (S M : Nat) (σ : Mem) (hok : okM S M σ) (d : Nat) (hd : 3 ≤ d) : PMet d mX1_matchFrom [.ref 26, .ref 1, .int (nI S)] σ (Pv (fun σ2 => σ2 = mfP S M 0 σ)) := by
  obtain ⟨d, rfl⟩ : ∃ e, d = e + 1 := ⟨d - 1, by omega⟩
  refine PMet.start (ls0 := [(0, .ref 26), (1, .ref 1), (2, .int (nI S))]) miX1_matchFrom.1 (Nat.le_of_ble_eq_true rfl) rfl ?_
  have v1 := hok.1.1
  have v3 := hok.1.2.2.1
  refine tq_aload_n 0 (dget dX1_matchFrom 0 rfl) rfl rfl ?_
  refine tq_getR (dget dX1_matchFrom 1 rfl) fX1_12 rfl rfl ?_
  refine tq_aload_n 1 (dget dX1_matchFrom 2 rfl) rfl rfl ?_
  refine tq_iload_n 2 (dget dX1_matchFrom 3 rfl) rfl rfl ?_
  refine mq_Vi (As := [.ref 1, .int (nI S)]) (rest := []) (dget dX1_matchFrom 4 rfl) lX1_33 miX0_isBroken (c_isBroken 27 isD_27 σ S M S hok.1 hok.2 (by omega) d (by omega)) rfl rfl rfl rfl (Nat.le_of_ble_eq_true rfl) (Nat.le_of_ble_eq_true rfl) (fun r_6 σ_6 h_6 => ?_)
  obtain ⟨b_6, e_6⟩ := h_6
  obtain rfl := e_6.symm
  refine tq_if_eq (tgt := 13) (dget dX1_matchFrom 5 rfl) (by decide) (fun c_9 => ?_) (fun c_9 => ?_)
  · refine tq_iload_n 2 (dget dX1_matchFrom 7 rfl) rfl rfl ?_
    refine tq_aload_n 1 (dget dX1_matchFrom 8 rfl) rfl rfl ?_
    refine tq_getI (dget dX1_matchFrom 9 rfl) fX1_37 rfl rfl ?_
    refine tq_icmp_lt (tgt := 26) (dget dX1_matchFrom 10 rfl) (by decide) (fun c_18 => ?_) (fun c_18 => ?_)
    · rw [v1] at c_18
      exact absurd (klt (by omega) (by omega) c_18) (by omega)
    · refine tq_aload_n 0 (dget dX1_matchFrom 11 rfl) rfl rfl ?_
      refine mq_Vv (As := []) (rest := []) (dget dX1_matchFrom 12 rfl) lX1_42 miX1_keep (c_keep σ d (by omega)) rfl rfl rfl rfl (Nat.le_of_ble_eq_true rfl) (Nat.le_of_ble_eq_true rfl) (fun σ_22 h_22 => ?_)
      obtain rfl := Eq.symm h_22
      exact tq_vret rfl (dget dX1_matchFrom 13 rfl) ⟨rfl, by unfold mfP; rw [if_neg (b_6.f c_9)]⟩
  · exact tq_vret rfl (dget dX1_matchFrom 6 rfl) ⟨rfl, by unfold mfP; rw [if_pos (b_6.t c_9)]⟩
set_option maxHeartbeats 4000000 in
set_option maxRecDepth 20000 in
theorem c_matchFrom_loop (S M r s : Nat) (hr : s + (r + 1) = S) (σ : Mem) (hok : okM S M σ) (hrec : ∀ (d : Nat), 3 + r ≤ d → ∀ τ, okM S M τ → PMet d mX1_matchFrom [.ref 26, .ref 1, .int (nI (s + 1))] τ (Pv (fun σ2 => σ2 = mfP S M r τ))) (d : Nat) (hd : 3 + r + 1 ≤ d) : ∀ (n : Nat) (k : Nat) (hm : M < k + n) (hk : k ≤ M), PAt (EM d (Pv (fun σ2 => σ2 = mfP S M r (foldM (mfS (mfP S M r) s) M σ)))) mX1_matchFrom 28 [(3, .int (nI k)), (0, .ref 26), (1, .ref 1), (2, .int (nI s))] [] (foldM (mfS (mfP S M r) s) k σ) := by
  obtain ⟨d, rfl⟩ : ∃ e, d = e + 1 := ⟨d - 1, by omega⟩
  intro n
  induction n with
  | zero => intro k hm hk; exact absurd hm (by omega)
  | succ n ih =>
    intro k hm hk
    have v3 := hok.1.2.2.1
    have v4 := hok.1.2.2.2
    have hk5 : okM S M (foldM (mfS (mfP S M r) s) k σ) := foldM_ok (fun τ m hm hτ => mfS_ok v3 v4 (by omega) (by omega) hm hτ) hok k hk
    have v2 := hk5.1.2.1
    refine tq_iload_n 0 (dget dX1_matchFrom 16 rfl) rfl rfl ?_
    refine tq_aload_n 2 (dget dX1_matchFrom 17 rfl) rfl rfl ?_
    refine tq_getI (dget dX1_matchFrom 18 rfl) fX1_45 rfl rfl ?_
    refine tq_icmp_ge (tgt := 81) (dget dX1_matchFrom 19 rfl) (by decide) (fun c_33 => ?_) (fun c_33 => ?_)
    · rw [v2] at c_33
      have g_33 := kle (by omega) (by omega) c_33
      have g_34 : k = M := by omega
      refine tq_aload_n 1 (dget dX1_matchFrom 45 rfl) rfl rfl ?_
      refine tq_aload_n 2 (dget dX1_matchFrom 46 rfl) rfl rfl ?_
      refine tq_iload_n 3 (dget dX1_matchFrom 47 rfl) rfl rfl ?_
      refine tq_iconst (v := 1) (dget dX1_matchFrom 48 rfl) rfl ?_
      refine tq_iadd (dget dX1_matchFrom 49 rfl) ?_
      refine tq_eqi (y := (nI (s + 1))) (nI_1 s) ?_
      refine mq_Sv (As := [.ref 26, .ref 1, .int (nI (s + 1))]) (rest := []) (dget dX1_matchFrom 50 rfl) lX1_29 miX1_matchFrom (hrec d (by omega) (foldM (mfS (mfP S M r) s) k σ) hk5) rfl rfl (Nat.le_of_ble_eq_true rfl) (Nat.le_of_ble_eq_true rfl) (fun σ_86 h_86 => ?_)
      obtain rfl := Eq.symm h_86
      exact tq_vret rfl (dget dX1_matchFrom 51 rfl) ⟨rfl, by rw [g_34]⟩
    · rw [v2] at c_33
      have g_33 := knle (by omega) (by omega) c_33
      refine tq_aload_n 1 (dget dX1_matchFrom 20 rfl) rfl rfl ?_
      refine tq_getR (dget dX1_matchFrom 21 rfl) fX1_12 rfl rfl ?_
      refine tq_getR (dget dX1_matchFrom 22 rfl) fX1_48 rfl rfl ?_
      refine tq_iload_n 0 (dget dX1_matchFrom 23 rfl) rfl rfl ?_
      refine tq_ialdN k (dget dX1_matchFrom 24 rfl) rfl (by decide) rfl (by omega) ?_
      refine tq_iconst (v := (-1)) (dget dX1_matchFrom 25 rfl) rfl ?_
      refine tq_icmp_ne (tgt := 75) (dget dX1_matchFrom 26 rfl) (by decide) (fun c_46 => ?_) (fun c_46 => ?_)
      · refine tq_iinc (v := (nI (k + 1))) (ls2 := [(3, .int (nI (k + 1))), (0, .ref 26), (1, .ref 1), (2, .int (nI s))]) 0 (dget dX1_matchFrom 43 rfl) rfl (nI_1 k) (by decide) rfl ?_
        refine tq_goto (tgt := 28) (dget dX1_matchFrom 44 rfl) (by decide) ?_
        refine tq_sub [0, 1, 2, 3] (ls' := [(3, .int (nI (k + 1))), (0, .ref 26), (1, .ref 1), (2, .int (nI s))]) rfl ?_
        rw [show (foldM (mfS (mfP S M r) s) k σ) = foldM (mfS (mfP S M r) s) (k + 1) σ from (if_neg c_46).symm]
        exact ih (k + 1) (by omega) (by omega)
      · refine tq_aload_n 1 (dget dX1_matchFrom 27 rfl) rfl rfl ?_
        refine tq_getR (dget dX1_matchFrom 28 rfl) fX1_12 rfl rfl ?_
        refine tq_iload_n 3 (dget dX1_matchFrom 29 rfl) rfl rfl ?_
        refine tq_iload_n 0 (dget dX1_matchFrom 30 rfl) rfl rfl ?_
        refine mq_Vv (As := [.int (nI s), .int (nI k)]) (rest := []) (dget dX1_matchFrom 31 rfl) lX1_51 miX0_wed (c_wed 27 isD_27 (foldM (mfS (mfP S M r) s) k σ) s k (by omega) (by omega) d (by omega)) rfl rfl rfl rfl (Nat.le_of_ble_eq_true rfl) (Nat.le_of_ble_eq_true rfl) (fun σ_55 h_55 => ?_)
        obtain rfl := Eq.symm h_55
        refine tq_aload_n 1 (dget dX1_matchFrom 32 rfl) rfl rfl ?_
        refine tq_aload_n 2 (dget dX1_matchFrom 33 rfl) rfl rfl ?_
        refine tq_iload_n 3 (dget dX1_matchFrom 34 rfl) rfl rfl ?_
        refine tq_iconst (v := 1) (dget dX1_matchFrom 35 rfl) rfl ?_
        refine tq_iadd (dget dX1_matchFrom 36 rfl) ?_
        refine tq_eqi (y := (nI (s + 1))) (nI_1 s) ?_
        refine mq_Sv (As := [.ref 26, .ref 1, .int (nI (s + 1))]) (rest := []) (dget dX1_matchFrom 37 rfl) lX1_29 miX1_matchFrom (hrec d (by omega) (wedF 27 (foldM (mfS (mfP S M r) s) k σ) s k) (okM_wed hk5 (by omega) (by omega))) rfl rfl (Nat.le_of_ble_eq_true rfl) (Nat.le_of_ble_eq_true rfl) (fun σ_63 h_63 => ?_)
        obtain rfl := Eq.symm h_63
        refine tq_aload_n 1 (dget dX1_matchFrom 38 rfl) rfl rfl ?_
        refine tq_getR (dget dX1_matchFrom 39 rfl) fX1_12 rfl rfl ?_
        refine tq_iload_n 3 (dget dX1_matchFrom 40 rfl) rfl rfl ?_
        refine tq_iload_n 0 (dget dX1_matchFrom 41 rfl) rfl rfl ?_
        refine mq_Vv (As := [.int (nI s), .int (nI k)]) (rest := []) (dget dX1_matchFrom 42 rfl) lX1_55 miX0_part (c_part 27 isD_27 (mfP S M r (wedF 27 (foldM (mfS (mfP S M r) s) k σ) s k)) s k (by omega) (by omega) d (by omega)) rfl rfl rfl rfl (Nat.le_of_ble_eq_true rfl) (Nat.le_of_ble_eq_true rfl) (fun σ_72 h_72 => ?_)
        obtain rfl := Eq.symm h_72
        refine tq_iinc (v := (nI (k + 1))) (ls2 := [(3, .int (nI (k + 1))), (0, .ref 26), (1, .ref 1), (2, .int (nI s))]) 0 (dget dX1_matchFrom 43 rfl) rfl (nI_1 k) (by decide) rfl ?_
        refine tq_goto (tgt := 28) (dget dX1_matchFrom 44 rfl) (by decide) ?_
        refine tq_sub [0, 1, 2, 3] (ls' := [(3, .int (nI (k + 1))), (0, .ref 26), (1, .ref 1), (2, .int (nI s))]) rfl ?_
        refine tq_mem (σ' := foldM (mfS (mfP S M r) s) (k + 1) σ) (if_pos c_46).symm ?_
        exact ih (k + 1) (by omega) (by omega)
set_option maxHeartbeats 4000000 in
set_option maxRecDepth 20000 in
theorem c_matchFrom_step (S M r s : Nat) (hr : s + (r + 1) = S) (σ : Mem) (hok : okM S M σ) (hrec : ∀ (d : Nat), 3 + r ≤ d → ∀ τ, okM S M τ → PMet d mX1_matchFrom [.ref 26, .ref 1, .int (nI (s + 1))] τ (Pv (fun σ2 => σ2 = mfP S M r τ))) (d : Nat) (hd : 3 + r + 1 ≤ d) : PMet d mX1_matchFrom [.ref 26, .ref 1, .int (nI s)] σ (Pv (fun σ2 => σ2 = mfP S M (r + 1) σ)) := by
  obtain ⟨d, rfl⟩ : ∃ e, d = e + 1 := ⟨d - 1, by omega⟩
  refine PMet.start (ls0 := [(0, .ref 26), (1, .ref 1), (2, .int (nI s))]) miX1_matchFrom.1 (Nat.le_of_ble_eq_true rfl) rfl ?_
  have v1 := hok.1.1
  have v3 := hok.1.2.2.1
  have hsr : S - (r + 1) = s := by omega
  refine tq_aload_n 0 (dget dX1_matchFrom 0 rfl) rfl rfl ?_
  refine tq_getR (dget dX1_matchFrom 1 rfl) fX1_12 rfl rfl ?_
  refine tq_aload_n 1 (dget dX1_matchFrom 2 rfl) rfl rfl ?_
  refine tq_iload_n 2 (dget dX1_matchFrom 3 rfl) rfl rfl ?_
  refine mq_Vi (As := [.ref 1, .int (nI s)]) (rest := []) (dget dX1_matchFrom 4 rfl) lX1_33 miX0_isBroken (c_isBroken 27 isD_27 σ S M s hok.1 hok.2 (by omega) d (by omega)) rfl rfl rfl rfl (Nat.le_of_ble_eq_true rfl) (Nat.le_of_ble_eq_true rfl) (fun r_6 σ_6 h_6 => ?_)
  obtain ⟨b_6, e_6⟩ := h_6
  obtain rfl := e_6.symm
  refine tq_if_eq (tgt := 13) (dget dX1_matchFrom 5 rfl) (by decide) (fun c_9 => ?_) (fun c_9 => ?_)
  · have hE : mfP S M (r + 1) σ = mfP S M r (foldM (mfS (mfP S M r) s) M σ) := by rw [mfP, hsr]; exact if_neg (b_6.f c_9)
    refine tq_iload_n 2 (dget dX1_matchFrom 7 rfl) rfl rfl ?_
    refine tq_aload_n 1 (dget dX1_matchFrom 8 rfl) rfl rfl ?_
    refine tq_getI (dget dX1_matchFrom 9 rfl) fX1_37 rfl rfl ?_
    refine tq_icmp_lt (tgt := 26) (dget dX1_matchFrom 10 rfl) (by decide) (fun c_18 => ?_) (fun c_18 => ?_)
    · refine tq_iconst (v := 0) (dget dX1_matchFrom 14 rfl) rfl ?_
      refine tq_istore_n (ls2 := [(3, .int 0), (0, .ref 26), (1, .ref 1), (2, .int (nI s))]) (dget dX1_matchFrom 15 rfl) rfl (by decide) rfl ?_
      refine tq_sub [0, 1, 2, 3] (ls' := [(3, .int 0), (0, .ref 26), (1, .ref 1), (2, .int (nI s))]) rfl ?_
      rw [hE]
      exact c_matchFrom_loop S M r s hr σ hok hrec (d + 1) (by omega) (M + 1) 0 (by omega) (by omega)
    · rw [v1] at c_18
      exact absurd (knlt (by omega) (by omega) c_18) (by omega)
  · have hE : mfP S M (r + 1) σ = σ := by unfold mfP; rw [hsr, if_pos (b_6.t c_9)]
    exact tq_vret rfl (dget dX1_matchFrom 6 rfl) ⟨rfl, hE.symm⟩
theorem c_matchFrom (S M : Nat) : ∀ (r s : Nat), s + r = S → ∀ (d : Nat), 3 + r ≤ d → ∀ σ, okM S M σ → PMet d mX1_matchFrom [.ref 26, .ref 1, .int (nI s)] σ (Pv (fun σ2 => σ2 = mfP S M r σ))
  | 0, s, h, d, hd, σ, hok => by
    rw [show s = S by omega]
    exact c_matchFrom_base S M σ hok d hd
  | r + 1, s, h, d, hd, σ, hok => c_matchFrom_step S M r s h σ hok (fun d hd τ hτ => c_matchFrom S M r (s + 1) (by omega) d hd τ hτ) d hd

set_option maxHeartbeats 4000000 in
set_option maxRecDepth 20000 in
theorem c_countFirm (σ : Mem) (S M : Nat) (hV : VA σ S M) (d : Nat) (hd : 10 ≤ d) : PMet d mX1_countFirm [.ref 26, .ref 1] σ (Pi (fun v σ2 => σ2 = mfP S M S (up (begF 27 σ) 26 2 0) ∧ v = σ2 26 2)) := by
  obtain ⟨d, rfl⟩ : ∃ e, d = e + 1 := ⟨d - 1, by omega⟩
  refine PMet.start (ls0 := [(0, .ref 26), (1, .ref 1)]) miX1_countFirm.1 (Nat.le_of_ble_eq_true rfl) rfl ?_
  have v3 := hV.2.2.1
  refine tq_aload_n 0 (dget dX1_countFirm 0 rfl) rfl rfl ?_
  refine tq_getR (dget dX1_countFirm 1 rfl) fX1_12 rfl rfl ?_
  refine mq_Vv (As := []) (rest := []) (dget dX1_countFirm 2 rfl) lX1_22 miX0_begin (c_begin 27 isD_27 σ d (by omega)) rfl rfl rfl rfl (Nat.le_of_ble_eq_true rfl) (Nat.le_of_ble_eq_true rfl) (fun σ_4 h_4 => ?_)
  obtain rfl := Eq.symm h_4
  refine tq_aload_n 0 (dget dX1_countFirm 3 rfl) rfl rfl ?_
  refine tq_iconst (v := 0) (dget dX1_countFirm 4 rfl) rfl ?_
  refine tq_putI (dget dX1_countFirm 5 rfl) fX1_25 rfl rfl rfl rfl ?_
  refine tq_aload_n 0 (dget dX1_countFirm 6 rfl) rfl rfl ?_
  refine tq_aload_n 1 (dget dX1_countFirm 7 rfl) rfl rfl ?_
  refine tq_iconst (v := 0) (dget dX1_countFirm 8 rfl) rfl ?_
  refine mq_Sv (As := [.ref 26, .ref 1, .int 0]) (rest := []) (dget dX1_countFirm 9 rfl) lX1_29 miX1_matchFrom (c_matchFrom S M S 0 (by omega) d (by omega) (up (begF 27 σ) 26 2 0) (okM_rows (begF_ok hV) (up_row (by decide)) (up_row (by decide)) (up_row (by decide)))) rfl rfl (Nat.le_of_ble_eq_true rfl) (Nat.le_of_ble_eq_true rfl) (fun σ_15 h_15 => ?_)
  obtain rfl := Eq.symm h_15
  refine tq_aload_n 0 (dget dX1_countFirm 10 rfl) rfl rfl ?_
  refine tq_getI (dget dX1_countFirm 11 rfl) fX1_25 rfl rfl ?_
  exact tq_iret rfl (dget dX1_countFirm 12 rfl) ⟨_, rfl, rfl, rfl⟩
set_option maxHeartbeats 4000000 in
set_option maxRecDepth 20000 in
theorem c_bringing_base (S M : Nat) (σ : Mem) (hok : okM S M σ) (d : Nat) (hd : 3 ≤ d) : PMet d mX1_bringingFrom [.ref 27, .ref 1, .int (nI S)] σ (Pi (fun v σ2 => v = (bfP S M 0 σ).1 ∧ σ2 = (bfP S M 0 σ).2)) := by
  obtain ⟨d, rfl⟩ : ∃ e, d = e + 1 := ⟨d - 1, by omega⟩
  refine PMet.start (ls0 := [(0, .ref 27), (1, .ref 1), (2, .int (nI S))]) miX1_bringingFrom.1 (Nat.le_of_ble_eq_true rfl) rfl ?_
  have v1 := hok.1.1
  have v3 := hok.1.2.2.1
  refine tq_aload_n 0 (dget dX1_bringingFrom 0 rfl) rfl rfl ?_
  refine tq_aload_n 1 (dget dX1_bringingFrom 1 rfl) rfl rfl ?_
  refine tq_iload_n 2 (dget dX1_bringingFrom 2 rfl) rfl rfl ?_
  refine mq_Vi (As := [.ref 1, .int (nI S)]) (rest := []) (dget dX1_bringingFrom 3 rfl) lX1_33 miX0_isBroken (c_isBroken 27 isD_27 σ S M S hok.1 hok.2 (by omega) d (by omega)) rfl rfl rfl rfl (Nat.le_of_ble_eq_true rfl) (Nat.le_of_ble_eq_true rfl) (fun r_3 σ_3 h_3 => ?_)
  obtain ⟨b_3, e_3⟩ := h_3
  obtain rfl := e_3.symm
  refine tq_if_eq (tgt := 11) (dget dX1_bringingFrom 4 rfl) (by decide) (fun c_6 => ?_) (fun c_6 => ?_)
  · refine tq_iload_n 2 (dget dX1_bringingFrom 7 rfl) rfl rfl ?_
    refine tq_aload_n 1 (dget dX1_bringingFrom 8 rfl) rfl rfl ?_
    refine tq_getI (dget dX1_bringingFrom 9 rfl) fX1_37 rfl rfl ?_
    refine tq_icmp_lt (tgt := 21) (dget dX1_bringingFrom 10 rfl) (by decide) (fun c_16 => ?_) (fun c_16 => ?_)
    · rw [v1] at c_16
      exact absurd (klt (by omega) (by omega) c_16) (by omega)
    · refine tq_iconst (v := 1) (dget dX1_bringingFrom 11 rfl) rfl ?_
      exact tq_iret rfl (dget dX1_bringingFrom 12 rfl) ⟨_, rfl, by unfold bfP; rw [if_neg (b_3.f c_6)], by unfold bfP; rw [if_neg (b_3.f c_6)]⟩
  · refine tq_iconst (v := 0) (dget dX1_bringingFrom 5 rfl) rfl ?_
    exact tq_iret rfl (dget dX1_bringingFrom 6 rfl) ⟨_, rfl, by unfold bfP; rw [if_pos (b_3.t c_6)], by unfold bfP; rw [if_pos (b_3.t c_6)]⟩
set_option maxHeartbeats 4000000 in
set_option maxRecDepth 20000 in
theorem c_bringing_loop (S M r s : Nat) (hr : s + (r + 1) = S) (σ : Mem) (hok : okM S M σ) (hrec : ∀ (d : Nat), 3 + r ≤ d → ∀ τ, okM S M τ → PMet d mX1_bringingFrom [.ref 27, .ref 1, .int (nI (s + 1))] τ (Pi (fun v σ2 => v = (bfP S M r τ).1 ∧ σ2 = (bfP S M r τ).2))) (d : Nat) (hd : 3 + r + 1 ≤ d) : ∀ (n : Nat) (k : Nat) (hm : M < k + n) (hk : k ≤ M), PAt (EM d (Pi (fun v σ2 => v = (foldB (bfS (bfP S M r) s) M (0, σ)).1 ∧ σ2 = (foldB (bfS (bfP S M r) s) M (0, σ)).2))) mX1_bringingFrom 26 [(4, .int (nI k)), (3, .int (foldB (bfS (bfP S M r) s) k (0, σ)).1), (0, .ref 27), (1, .ref 1), (2, .int (nI s))] [] (foldB (bfS (bfP S M r) s) k (0, σ)).2 := by
  obtain ⟨d, rfl⟩ : ∃ e, d = e + 1 := ⟨d - 1, by omega⟩
  intro n
  induction n with
  | zero => intro k hm hk; exact absurd hm (by omega)
  | succ n ih =>
    intro k hm hk
    have v3 := hok.1.2.2.1
    have v4 := hok.1.2.2.2
    have hk5 : okM S M (foldB (bfS (bfP S M r) s) k (0, σ)).2 := foldB_ok (fun τ m hm hτ => bfS_ok v3 v4 (by omega) (by omega) hm hτ) hok k hk
    have v2 := hk5.1.2.1
    refine tq_iload 0 (dget dX1_bringingFrom 17 rfl) rfl ?_
    refine tq_aload_n 3 (dget dX1_bringingFrom 18 rfl) rfl rfl ?_
    refine tq_getI (dget dX1_bringingFrom 19 rfl) fX1_45 rfl rfl ?_
    refine tq_icmp_ge (tgt := 71) (dget dX1_bringingFrom 20 rfl) (by decide) (fun c_32 => ?_) (fun c_32 => ?_)
    · rw [v2] at c_32
      have g_32 := kle (by omega) (by omega) c_32
      have g_33 : k = M := by omega
      refine tq_iload_n 1 (dget dX1_bringingFrom 43 rfl) rfl rfl ?_
      exact tq_iret rfl (dget dX1_bringingFrom 44 rfl) ⟨_, rfl, by rw [g_33], by rw [g_33]⟩
    · rw [v2] at c_32
      have g_32 := knle (by omega) (by omega) c_32
      refine tq_aload_n 2 (dget dX1_bringingFrom 21 rfl) rfl rfl ?_
      refine tq_aload_n 3 (dget dX1_bringingFrom 22 rfl) rfl rfl ?_
      refine tq_iload_n 4 (dget dX1_bringingFrom 23 rfl) rfl rfl ?_
      refine tq_iload 0 (dget dX1_bringingFrom 24 rfl) rfl ?_
      refine mq_Vi (As := [.ref 1, .int (nI s), .int (nI k)]) (rest := []) (dget dX1_bringingFrom 25 rfl) lX1_71 miX0_ask (c_ask 27 isD_27 (foldB (bfS (bfP S M r) s) k (0, σ)).2 s k (by omega) (by omega) d (by omega)) rfl rfl rfl rfl (Nat.le_of_ble_eq_true rfl) (Nat.le_of_ble_eq_true rfl) (fun r_40 σ_40 h_40 => ?_)
      obtain ⟨a_40, e_40⟩ := h_40
      obtain rfl := a_40.symm
      obtain rfl := e_40.symm
      refine tq_istore (ls2 := [(5, .int (askV 27 (foldB (bfS (bfP S M r) s) k (0, σ)).2 s k)), (4, .int (nI k)), (3, .int (foldB (bfS (bfP S M r) s) k (0, σ)).1), (0, .ref 27), (1, .ref 1), (2, .int (nI s))]) (dget dX1_bringingFrom 26 rfl) (by decide) rfl ?_
      refine tq_iload_n 2 (dget dX1_bringingFrom 27 rfl) rfl rfl ?_
      refine tq_aload_n 3 (dget dX1_bringingFrom 28 rfl) rfl rfl ?_
      refine tq_aload_n 4 (dget dX1_bringingFrom 29 rfl) rfl rfl ?_
      refine tq_iload_n 5 (dget dX1_bringingFrom 30 rfl) rfl rfl ?_
      refine tq_iconst (v := 1) (dget dX1_bringingFrom 31 rfl) rfl ?_
      refine tq_iadd (dget dX1_bringingFrom 32 rfl) ?_
      refine tq_eqi (y := (nI (s + 1))) (nI_1 s) ?_
      refine mq_Si (As := [.ref 27, .ref 1, .int (nI (s + 1))]) (rest := [.int (foldB (bfS (bfP S M r) s) k (0, σ)).1]) (dget dX1_bringingFrom 33 rfl) lX1_67 miX1_bringingFrom (hrec d (by omega) (askM 27 (foldB (bfS (bfP S M r) s) k (0, σ)).2 s k) (okM_ask hk5 (by omega) (by omega))) rfl rfl (Nat.le_of_ble_eq_true rfl) (Nat.le_of_ble_eq_true rfl) (fun r_51 σ_51 h_51 => ?_)
      obtain ⟨a_51, e_51⟩ := h_51
      obtain rfl := a_51.symm
      obtain rfl := e_51.symm
      refine tq_iadd (dget dX1_bringingFrom 34 rfl) ?_
      refine tq_istore_n (ls2 := [(3, .int ((foldB (bfS (bfP S M r) s) k (0, σ)).1 + (bfP S M r (askM 27 (foldB (bfS (bfP S M r) s) k (0, σ)).2 s k)).1)), (5, .int (askV 27 (foldB (bfS (bfP S M r) s) k (0, σ)).2 s k)), (4, .int (nI k)), (0, .ref 27), (1, .ref 1), (2, .int (nI s))]) (dget dX1_bringingFrom 35 rfl) rfl (by decide) rfl ?_
      refine tq_aload_n 3 (dget dX1_bringingFrom 36 rfl) rfl rfl ?_
      refine tq_iload_n 5 (dget dX1_bringingFrom 37 rfl) rfl rfl ?_
      refine tq_iload 2 (dget dX1_bringingFrom 38 rfl) rfl ?_
      refine tq_iload 1 (dget dX1_bringingFrom 39 rfl) rfl ?_
      refine mq_Vv (As := [.int (nI s), .int (nI k), .int (askV 27 (foldB (bfS (bfP S M r) s) k (0, σ)).2 s k)]) (rest := []) (dget dX1_bringingFrom 40 rfl) lX1_75 miX0_unask (c_unask 27 isD_27 (bfP S M r (askM 27 (foldB (bfS (bfP S M r) s) k (0, σ)).2 s k)).2 s k (by omega) (by omega) (askV 27 (foldB (bfS (bfP S M r) s) k (0, σ)).2 s k) d (by omega)) rfl rfl rfl rfl (Nat.le_of_ble_eq_true rfl) (Nat.le_of_ble_eq_true rfl) (fun σ_62 h_62 => ?_)
      obtain rfl := Eq.symm h_62
      refine tq_iinc (v := (nI (k + 1))) (ls2 := [(4, .int (nI (k + 1))), (3, .int ((foldB (bfS (bfP S M r) s) k (0, σ)).1 + (bfP S M r (askM 27 (foldB (bfS (bfP S M r) s) k (0, σ)).2 s k)).1)), (5, .int (askV 27 (foldB (bfS (bfP S M r) s) k (0, σ)).2 s k)), (0, .ref 27), (1, .ref 1), (2, .int (nI s))]) 2 (dget dX1_bringingFrom 41 rfl) rfl (nI_1 k) (by decide) rfl ?_
      refine tq_goto (tgt := 26) (dget dX1_bringingFrom 42 rfl) (by decide) ?_
      refine tq_sub [0, 1, 3, 4, 5] (ls' := [(4, .int (nI (k + 1))), (3, .int ((foldB (bfS (bfP S M r) s) k (0, σ)).1 + (bfP S M r (askM 27 (foldB (bfS (bfP S M r) s) k (0, σ)).2 s k)).1)), (0, .ref 27), (1, .ref 1), (2, .int (nI s))]) rfl ?_
      exact ih (k + 1) (by omega) (by omega)
set_option maxHeartbeats 4000000 in
set_option maxRecDepth 20000 in
theorem c_bringing_step (S M r s : Nat) (hr : s + (r + 1) = S) (σ : Mem) (hok : okM S M σ) (hrec : ∀ (d : Nat), 3 + r ≤ d → ∀ τ, okM S M τ → PMet d mX1_bringingFrom [.ref 27, .ref 1, .int (nI (s + 1))] τ (Pi (fun v σ2 => v = (bfP S M r τ).1 ∧ σ2 = (bfP S M r τ).2))) (d : Nat) (hd : 3 + r + 1 ≤ d) : PMet d mX1_bringingFrom [.ref 27, .ref 1, .int (nI s)] σ (Pi (fun v σ2 => v = (bfP S M (r + 1) σ).1 ∧ σ2 = (bfP S M (r + 1) σ).2)) := by
  obtain ⟨d, rfl⟩ : ∃ e, d = e + 1 := ⟨d - 1, by omega⟩
  refine PMet.start (ls0 := [(0, .ref 27), (1, .ref 1), (2, .int (nI s))]) miX1_bringingFrom.1 (Nat.le_of_ble_eq_true rfl) rfl ?_
  have v1 := hok.1.1
  have v3 := hok.1.2.2.1
  have hsr : S - (r + 1) = s := by omega
  refine tq_aload_n 0 (dget dX1_bringingFrom 0 rfl) rfl rfl ?_
  refine tq_aload_n 1 (dget dX1_bringingFrom 1 rfl) rfl rfl ?_
  refine tq_iload_n 2 (dget dX1_bringingFrom 2 rfl) rfl rfl ?_
  refine mq_Vi (As := [.ref 1, .int (nI s)]) (rest := []) (dget dX1_bringingFrom 3 rfl) lX1_33 miX0_isBroken (c_isBroken 27 isD_27 σ S M s hok.1 hok.2 (by omega) d (by omega)) rfl rfl rfl rfl (Nat.le_of_ble_eq_true rfl) (Nat.le_of_ble_eq_true rfl) (fun r_3 σ_3 h_3 => ?_)
  obtain ⟨b_3, e_3⟩ := h_3
  obtain rfl := e_3.symm
  refine tq_if_eq (tgt := 11) (dget dX1_bringingFrom 4 rfl) (by decide) (fun c_6 => ?_) (fun c_6 => ?_)
  · have hE : bfP S M (r + 1) σ = foldB (bfS (bfP S M r) s) M (0, σ) := by rw [bfP, hsr]; exact if_neg (b_3.f c_6)
    refine tq_iload_n 2 (dget dX1_bringingFrom 7 rfl) rfl rfl ?_
    refine tq_aload_n 1 (dget dX1_bringingFrom 8 rfl) rfl rfl ?_
    refine tq_getI (dget dX1_bringingFrom 9 rfl) fX1_37 rfl rfl ?_
    refine tq_icmp_lt (tgt := 21) (dget dX1_bringingFrom 10 rfl) (by decide) (fun c_16 => ?_) (fun c_16 => ?_)
    · refine tq_iconst (v := 0) (dget dX1_bringingFrom 13 rfl) rfl ?_
      refine tq_istore_n (ls2 := [(3, .int 0), (0, .ref 27), (1, .ref 1), (2, .int (nI s))]) (dget dX1_bringingFrom 14 rfl) rfl (by decide) rfl ?_
      refine tq_iconst (v := 0) (dget dX1_bringingFrom 15 rfl) rfl ?_
      refine tq_istore (ls2 := [(4, .int 0), (3, .int 0), (0, .ref 27), (1, .ref 1), (2, .int (nI s))]) (dget dX1_bringingFrom 16 rfl) (by decide) rfl ?_
      refine tq_sub [0, 1, 2, 3, 4] (ls' := [(4, .int 0), (3, .int 0), (0, .ref 27), (1, .ref 1), (2, .int (nI s))]) rfl ?_
      rw [hE]
      exact c_bringing_loop S M r s hr σ hok hrec (d + 1) (by omega) (M + 1) 0 (by omega) (by omega)
    · rw [v1] at c_16
      exact absurd (knlt (by omega) (by omega) c_16) (by omega)
  · have hE : bfP S M (r + 1) σ = (0, σ) := by unfold bfP; rw [hsr, if_pos (b_3.t c_6)]
    refine tq_iconst (v := 0) (dget dX1_bringingFrom 5 rfl) rfl ?_
    exact tq_iret rfl (dget dX1_bringingFrom 6 rfl) ⟨_, rfl, by rw [hE], by rw [hE]⟩
theorem c_bringing (S M : Nat) : ∀ (r s : Nat), s + r = S → ∀ (d : Nat), 3 + r ≤ d → ∀ σ, okM S M σ → PMet d mX1_bringingFrom [.ref 27, .ref 1, .int (nI s)] σ (Pi (fun v σ2 => v = (bfP S M r σ).1 ∧ σ2 = (bfP S M r σ).2))
  | 0, s, h, d, hd, σ, hok => by
    rw [show s = S by omega]
    exact c_bringing_base S M σ hok d hd
  | r + 1, s, h, d, hd, σ, hok => c_bringing_step S M r s h σ hok (fun d hd τ hτ => c_bringing S M r (s + 1) (by omega) d hd τ hτ) d hd

set_option maxHeartbeats 4000000 in
set_option maxRecDepth 20000 in
theorem c_countBringing (σ : Mem) (S M : Nat) (hV : VA σ S M) (d : Nat) (hd : 10 ≤ d) : PMet d mX1_countBringing [.ref 26, .ref 1] σ (Pi (fun v σ2 => v = (bfP S M S (begF 27 σ)).1 ∧ σ2 = (bfP S M S (begF 27 σ)).2)) := by
  obtain ⟨d, rfl⟩ : ∃ e, d = e + 1 := ⟨d - 1, by omega⟩
  refine PMet.start (ls0 := [(0, .ref 26), (1, .ref 1)]) miX1_countBringing.1 (Nat.le_of_ble_eq_true rfl) rfl ?_
  have v3 := hV.2.2.1
  refine tq_aload_n 0 (dget dX1_countBringing 0 rfl) rfl rfl ?_
  refine tq_getR (dget dX1_countBringing 1 rfl) fX1_12 rfl rfl ?_
  refine mq_Vv (As := []) (rest := []) (dget dX1_countBringing 2 rfl) lX1_22 miX0_begin (c_begin 27 isD_27 σ d (by omega)) rfl rfl rfl rfl (Nat.le_of_ble_eq_true rfl) (Nat.le_of_ble_eq_true rfl) (fun σ_4 h_4 => ?_)
  obtain rfl := Eq.symm h_4
  refine tq_aload_n 0 (dget dX1_countBringing 3 rfl) rfl rfl ?_
  refine tq_getR (dget dX1_countBringing 4 rfl) fX1_12 rfl rfl ?_
  refine tq_aload_n 1 (dget dX1_countBringing 5 rfl) rfl rfl ?_
  refine tq_iconst (v := 0) (dget dX1_countBringing 6 rfl) rfl ?_
  refine mq_Si (As := [.ref 27, .ref 1, .int 0]) (rest := []) (dget dX1_countBringing 7 rfl) lX1_67 miX1_bringingFrom (c_bringing S M S 0 (by omega) d (by omega) (begF 27 σ) (begF_ok hV)) rfl rfl (Nat.le_of_ble_eq_true rfl) (Nat.le_of_ble_eq_true rfl) (fun r_13 σ_13 h_13 => ?_)
  obtain ⟨a_13, e_13⟩ := h_13
  obtain rfl := a_13.symm
  obtain rfl := e_13.symm
  exact tq_iret rfl (dget dX1_countBringing 8 rfl) ⟨_, rfl, rfl, rfl⟩
end
section
/-! ===== the class's public calls (1): words, small helpers, the valley's questions ===== -/
theorem tq_aret {d : Nat} {Post : Option Value → Mem → Prop} {M : MT} {pc : Nat} {ls : List (Nat × Value)} {σ : Mem} {i : Nat} {ty : FieldType} (hr : M.2.2.2 = some (.array ty)) (hd : decode M.2.1 pc = .ok (.areturn, 1)) (hp : Post (some (.ref i)) σ) : PAt (EM d Post) M pc ls [.ref i] σ :=
  fun p l e s m args below meth c G A H locs lsr C hX hA hP hD hS hl => W.aret (v := .ref (G.2.2 i)) C.1 C.2.1 (C.2.2.2.2.2.1.trans hr) (Or.inr ⟨_, rfl⟩) (Or.inr ⟨_, rfl⟩) (fun t ht hW => PQ_of (some (.ref i)) hp hP C.2.2.2.2.2.2.2 hD hS ht hW) hS.2.2 hd C.2.2.2.2.2.2.1
noncomputable def cnd {α : Type} (P : Prop) (a b : α) : α := @ite α P (Classical.propDecidable P) a b
theorem cnd_t {α : Type} {P : Prop} (h : P) (a b : α) : cnd P a b = a := by unfold cnd; exact if_pos h
theorem cnd_f {α : Type} {P : Prop} (h : ¬ P) (a b : α) : cnd P a b = b := by unfold cnd; exact if_neg h
theorem cnd_cg {α : Type} {P Q : Prop} {a a' b b' : α} (e : P ↔ Q) (h1 : P → a = a') (h2 : ¬ P → b = b') : cnd P a b = cnd Q a' b' := by
  by_cases h : P
  · rw [cnd_t h, cnd_t (e.mp h)]; exact h1 h
  · rw [cnd_f h, cnd_f (fun q => h (e.mpr q))]; exact h2 h
theorem cnd_in {α : Type} {P : Prop} {a b : α} (I : α → Prop) (h1 : P → I a) (h2 : ¬ P → I b) : I (cnd P a b) := by
  by_cases h : P
  · rw [cnd_t h]; exact h1 h
  · rw [cnd_f h]; exact h2 h
def hM (σ : Mem) (x : Int32) : Prop := 0 ≤ x ∧ x < σ 1 1
def hS (σ : Mem) (x : Int32) : Prop := 0 ≤ x ∧ x < σ 1 0
def isSh (k : Int32) : Prop := 0 ≤ k ∧ k < 4
def isLn (k : Int32) : Prop := 0 ≤ k ∧ k ≤ 2
abbrev cl (x : Int32) : Nat := x.toNatClampNeg
theorem hM_n {σ : Mem} {S M : Nat} {x : Int32} (hV : VA σ S M) (h : hM σ x) : ∃ m, x = nI m ∧ m < M ∧ m < 4 := by
  have h4 := hV.2.2.2
  have h2 := h.2
  rw [hV.2.1] at h2
  obtain ⟨j, e, _, h3⟩ := dig (a := 0) (b := M) (by decide) (by omega) h.1 h2
  exact ⟨j, e, h3, by omega⟩
theorem hS_n {σ : Mem} {S M : Nat} {x : Int32} (hV : VA σ S M) (h : hS σ x) : ∃ m, x = nI m ∧ m < S ∧ m < 6 := by
  have h4 := hV.2.2.1
  have h2 := h.2
  rw [hV.1] at h2
  obtain ⟨j, e, _, h3⟩ := dig (a := 0) (b := S) (by decide) (by omega) h.1 h2
  exact ⟨j, e, h3, by omega⟩
theorem isSh_n {x : Int32} (h : isSh x) : ∃ k, x = nI k ∧ k < 4 := by
  obtain ⟨j, e, _, h3⟩ := dig (a := 0) (b := 4) (by decide) (by decide) h.1 h.2
  exact ⟨j, e, h3⟩
theorem in9_n {x : Int32} (h : 0 ≤ x ∧ x ≤ 9) : ∃ k, x = nI k ∧ k < 10 := by
  obtain ⟨j, e, _, h3⟩ := dig (a := 0) (b := 10) (c := x) (by decide) (by decide) h.1 (by rw [show nI 10 = (9 : Int32) + 1 by decide]; exact Int32.lt_of_le_of_lt h.2 (by decide))
  exact ⟨j, e, h3⟩
theorem nI_divN {a b : Nat} (ha : a < 2 ^ 31) (hb : b < 2 ^ 31) : nI a / nI b = nI (a / b) := by
  have h3 : a / b ≤ a := Nat.div_le_self a b
  apply Int32.toInt_inj.mp
  rw [Int32.toInt_div, nI_toInt ha, nI_toInt hb, nI_toInt (by omega), ← Int.ofNat_tdiv]
  generalize a / b = c at h3 ⊢
  exact Int.bmod_eq_of_le (by omega) (by omega)
theorem nI_modN {a b : Nat} (ha : a < 2 ^ 31) (hb : b < 2 ^ 31) : nI a - nI a / nI b * nI b = nI (a % b) := by
  have h3 : a / b * b ≤ a := Nat.div_mul_le_self a b
  rw [nI_divN ha hb, nI_mulN, nI_subN h3]
  congr 1
  have := Nat.div_add_mod a b
  rw [Nat.mul_comm] at this
  omega
def gdF : Nat → Nat → Nat → Nat
  | 0, a, _ => a
  | n + 1, a, b => if b = 0 then a else gdF n b (a % b)
def figF (x : Int32) : Int32 := if x = -1 then 9 else x
/-- offers as the memory has them -/
def OF (σ : Mem) (C : Nat) (so mo : Nat → Nat) : Prop := σ 13 4 = nI C ∧ C ≤ 24 ∧ ∀ k, k < C → σ 14 k = nI (so k) ∧ so k < 6 ∧ σ 15 k = nI (mo k) ∧ mo k < 4
def RD (σ : Mem) (R : Nat) (rs : Nat → Nat) : Prop := σ 21 4 = nI R ∧ R ≤ 8 ∧ ∀ k, k < R → σ 23 k = nI (rs k) ∧ rs k < 6
def SHT (σ : Mem) : Prop := ∀ k, k < 4 → ∃ l, l ≤ 100 ∧ σ (34 + 2 * k) 3 = nI l
theorem OF_rows {σ τ : Mem} {C : Nat} {so mo : Nat → Nat} (h : OF σ C so mo) (h1 : τ 13 = σ 13) (h2 : τ 14 = σ 14) (h3 : τ 15 = σ 15) : OF τ C so mo := by
  unfold OF
  rw [h1, h2, h3]
  exact h
noncomputable def mndR (P : Nat → Prop) (f : Nat → Int32) : Nat → Nat → Int32
  | 0, _ => 0
  | n + 1, k => cnd (P k) (f k) (mndR P f n (k + 1))
theorem mndR_t {P : Nat → Prop} {f : Nat → Int32} {j : Nat} : ∀ (n k : Nat), k ≤ j → j < k + n → P j → (∀ i, k ≤ i → i < j → ¬ P i) → mndR P f n k = f j
  | 0, k, h1, h2, _, _ => by omega
  | n + 1, k, h1, h2, h3, h4 => by
    unfold mndR
    by_cases e : k = j
    · subst e; exact cnd_t h3 _ _
    · rw [cnd_f (h4 k (Nat.le_refl _) (by omega))]
      exact mndR_t n (k + 1) (by omega) (by omega) h3 (fun i h5 h6 => h4 i (by omega) h6)
theorem mndR_0 {P : Nat → Prop} {f : Nat → Int32} : ∀ (n k : Nat), (∀ i, k ≤ i → i < k + n → ¬ P i) → mndR P f n k = 0
  | 0, k, _ => rfl
  | n + 1, k, h => by
    unfold mndR
    rw [cnd_f (h k (Nat.le_refl _) (by omega))]
    exact mndR_0 n (k + 1) (fun i h1 h2 => h i (by omega) (by omega))
theorem mnd_eq {P : Nat → Prop} {f : Nat → Int32} {L : Nat} {v : Int32} (h : mndP P f L v) : v = mndR P f L 0 := by
  rcases h with ⟨k, h1, h2, h3, rfl⟩ | ⟨h1, rfl⟩
  · exact (mndR_t L 0 (Nat.zero_le _) (by omega) h2 (fun i _ h5 => h3 i h5)).symm
  · exact (mndR_0 L 0 (fun i _ h5 => h1 i (by omega))).symm

set_option maxHeartbeats 4000000 in
set_option maxRecDepth 20000 in
theorem c_faultless (σ : Mem) (x : Int32) (d : Nat) (hd : 0 ≤ d) : PMet d mX7_faultless [.ref 0, .int x] σ (Pi (fun v σ2 => v = x ∧ σ2 = up σ 0 7 0)) := by
  refine PMet.start (ls0 := [(0, .ref 0), (1, .int x)]) miX7_faultless.1 (Nat.le_of_ble_eq_true rfl) rfl ?_
  refine tq_aload_n 0 (dget dX7_faultless 0 rfl) rfl rfl ?_
  refine tq_iconst (v := 0) (dget dX7_faultless 1 rfl) rfl ?_
  refine tq_putI (dget dX7_faultless 2 rfl) fX7_223 rfl rfl rfl rfl ?_
  refine tq_iload_n 1 (dget dX7_faultless 3 rfl) rfl rfl ?_
  exact tq_iret rfl (dget dX7_faultless 4 rfl) ⟨_, rfl, rfl, rfl⟩
set_option maxHeartbeats 4000000 in
set_option maxRecDepth 20000 in
theorem c_faulted (σ : Mem) (x : Int32) (d : Nat) (hd : 0 ≤ d) : PMet d mX7_faulted [.ref 0, .int x] σ (Pi (fun v σ2 => v = -10 - x ∧ σ2 = up σ 0 7 x)) := by
  refine PMet.start (ls0 := [(0, .ref 0), (1, .int x)]) miX7_faulted.1 (Nat.le_of_ble_eq_true rfl) rfl ?_
  refine tq_aload_n 0 (dget dX7_faulted 0 rfl) rfl rfl ?_
  refine tq_iload_n 1 (dget dX7_faulted 1 rfl) rfl rfl ?_
  refine tq_putI (dget dX7_faulted 2 rfl) fX7_223 rfl rfl rfl rfl ?_
  refine tq_bipush (v := (-10)) (dget dX7_faulted 3 rfl) rfl ?_
  refine tq_iload_n 1 (dget dX7_faulted 4 rfl) rfl rfl ?_
  refine tq_isub (dget dX7_faulted 5 rfl) ?_
  exact tq_iret rfl (dget dX7_faulted 6 rfl) ⟨_, rfl, rfl, rfl⟩
set_option maxHeartbeats 4000000 in
set_option maxRecDepth 20000 in
theorem c_lost (σ : Mem) (x : Int32) (d : Nat) (hd : 0 ≤ d) : PMet d mX7_lost [.ref 0, .int x] σ (Pl (fun v σ2 => v = (-9223372036854775808) ∧ σ2 = up σ 0 7 x)) := by
  refine PMet.start (ls0 := [(0, .ref 0), (1, .int x)]) miX7_lost.1 (Nat.le_of_ble_eq_true rfl) rfl ?_
  refine tq_aload_n 0 (dget dX7_lost 0 rfl) rfl rfl ?_
  refine tq_iload_n 1 (dget dX7_lost 1 rfl) rfl rfl ?_
  refine tq_putI (dget dX7_lost 2 rfl) fX7_223 rfl rfl rfl rfl ?_
  refine tq_ldc2 (v := (-9223372036854775808)) (dget dX7_lost 3 rfl) (tblG_2 110 rfl rfl) ?_
  exact tq_lret rfl (dget dX7_lost 4 rfl) ⟨_, rfl, rfl, rfl⟩
set_option maxHeartbeats 4000000 in
set_option maxRecDepth 20000 in
theorem c_isSheet (σ : Mem) (x : Int32) (d : Nat) (hd : 0 ≤ d) : PMet d mX7_isSheet [.int x] σ (Pi (fun v σ2 => BP (isSh x) v ∧ σ2 = σ)) := by
  refine PMet.start (ls0 := [(0, .int x)]) miX7_isSheet.1 (Nat.le_of_ble_eq_true rfl) rfl ?_
  refine tq_iload_n 0 (dget dX7_isSheet 0 rfl) rfl rfl ?_
  refine tq_if_lt (tgt := 13) (dget dX7_isSheet 1 rfl) (by decide) (fun c_1 => ?_) (fun c_1 => ?_)
  · refine tq_iconst (v := 0) (dget dX7_isSheet 7 rfl) rfl ?_
    exact tq_zret rfl rfl (dget dX7_isSheet 8 rfl) ⟨_, rfl, BP.n (fun q => by first | exact absurd q.1 (Int32.not_le.mpr c_1) | exact absurd q.2 (Int32.not_lt.mpr c_6)), rfl⟩
  · refine tq_iload_n 0 (dget dX7_isSheet 2 rfl) rfl rfl ?_
    refine tq_iconst (v := 4) (dget dX7_isSheet 3 rfl) rfl ?_
    refine tq_icmp_ge (tgt := 13) (dget dX7_isSheet 4 rfl) (by decide) (fun c_6 => ?_) (fun c_6 => ?_)
    · refine tq_iconst (v := 0) (dget dX7_isSheet 7 rfl) rfl ?_
      exact tq_zret rfl rfl (dget dX7_isSheet 8 rfl) ⟨_, rfl, BP.n (fun q => by first | exact absurd q.1 (Int32.not_le.mpr c_1) | exact absurd q.2 (Int32.not_lt.mpr c_6)), rfl⟩
    · refine tq_iconst (v := 1) (dget dX7_isSheet 5 rfl) rfl ?_
      refine tq_goto (tgt := 14) (dget dX7_isSheet 6 rfl) (by decide) ?_
      exact tq_zret rfl rfl (dget dX7_isSheet 8 rfl) ⟨_, rfl, BP.y ⟨Int32.not_lt.mp c_1, Int32.not_le.mp c_6⟩, rfl⟩
set_option maxHeartbeats 4000000 in
set_option maxRecDepth 20000 in
theorem c_isLane (σ : Mem) (x : Int32) (d : Nat) (hd : 0 ≤ d) : PMet d mX7_isLane [.int x] σ (Pi (fun v σ2 => BP (isLn x) v ∧ σ2 = σ)) := by
  refine PMet.start (ls0 := [(0, .int x)]) miX7_isLane.1 (Nat.le_of_ble_eq_true rfl) rfl ?_
  refine tq_iload_n 0 (dget dX7_isLane 0 rfl) rfl rfl ?_
  refine tq_if_lt (tgt := 13) (dget dX7_isLane 1 rfl) (by decide) (fun c_1 => ?_) (fun c_1 => ?_)
  · refine tq_iconst (v := 0) (dget dX7_isLane 7 rfl) rfl ?_
    exact tq_zret rfl rfl (dget dX7_isLane 8 rfl) ⟨_, rfl, BP.n (fun q => by first | exact absurd q.1 (Int32.not_le.mpr c_1) | exact absurd q.2 (Int32.not_le.mpr c_6)), rfl⟩
  · refine tq_iload_n 0 (dget dX7_isLane 2 rfl) rfl rfl ?_
    refine tq_iconst (v := 2) (dget dX7_isLane 3 rfl) rfl ?_
    refine tq_icmp_gt (tgt := 13) (dget dX7_isLane 4 rfl) (by decide) (fun c_6 => ?_) (fun c_6 => ?_)
    · refine tq_iconst (v := 0) (dget dX7_isLane 7 rfl) rfl ?_
      exact tq_zret rfl rfl (dget dX7_isLane 8 rfl) ⟨_, rfl, BP.n (fun q => by first | exact absurd q.1 (Int32.not_le.mpr c_1) | exact absurd q.2 (Int32.not_le.mpr c_6)), rfl⟩
    · refine tq_iconst (v := 1) (dget dX7_isLane 5 rfl) rfl ?_
      refine tq_goto (tgt := 14) (dget dX7_isLane 6 rfl) (by decide) ?_
      exact tq_zret rfl rfl (dget dX7_isLane 8 rfl) ⟨_, rfl, BP.y ⟨Int32.not_lt.mp c_1, Int32.not_lt.mp c_6⟩, rfl⟩
set_option maxHeartbeats 4000000 in
set_option maxRecDepth 20000 in
theorem c_figure (σ : Mem) (x : Int32) (d : Nat) (hd : 0 ≤ d) : PMet d mX7_figure [.int x] σ (Pi (fun v σ2 => v = figF x ∧ σ2 = σ)) := by
  refine PMet.start (ls0 := [(0, .int x)]) miX7_figure.1 (Nat.le_of_ble_eq_true rfl) rfl ?_
  refine tq_iload_n 0 (dget dX7_figure 0 rfl) rfl rfl ?_
  refine tq_iconst (v := (-1)) (dget dX7_figure 1 rfl) rfl ?_
  refine tq_icmp_ne (tgt := 10) (dget dX7_figure 2 rfl) (by decide) (fun c_2 => ?_) (fun c_2 => ?_)
  · refine tq_iload_n 0 (dget dX7_figure 5 rfl) rfl rfl ?_
    exact tq_iret rfl (dget dX7_figure 6 rfl) ⟨_, rfl, by simp [figF, c_2], rfl⟩
  · refine tq_bipush (v := 9) (dget dX7_figure 3 rfl) rfl ?_
    refine tq_goto (tgt := 11) (dget dX7_figure 4 rfl) (by decide) ?_
    exact tq_iret rfl (dget dX7_figure 6 rfl) ⟨_, rfl, by simp [figF, c_2], rfl⟩
set_option maxHeartbeats 4000000 in
set_option maxRecDepth 20000 in
theorem c_likings0 (σ : Mem) (z : Int32) (hz : z = 0) (d : Nat) (hd : 0 ≤ d) : PMet d mX7_likings [.ref 0, .int z] σ (Pa (fun v σ2 => v = 3 ∧ σ2 = σ)) := by
  refine PMet.start (ls0 := [(0, .ref 0), (1, .int z)]) miX7_likings.1 (Nat.le_of_ble_eq_true rfl) rfl ?_
  refine tq_iload_n 1 (dget dX7_likings 0 rfl) rfl rfl ?_
  refine tq_if_ne (tgt := 14) (dget dX7_likings 1 rfl) (by decide) (fun c_1 => ?_) (fun c_1 => ?_)
  · exact absurd hz c_1
  · refine tq_aload_n 0 (dget dX7_likings 2 rfl) rfl rfl ?_
    refine tq_getR (dget dX7_likings 3 rfl) fX7_12 rfl rfl ?_
    refine tq_getR (dget dX7_likings 4 rfl) fX7_261 rfl rfl ?_
    refine tq_goto (tgt := 21) (dget dX7_likings 5 rfl) (by decide) ?_
    exact tq_aret rfl (dget dX7_likings 9 rfl) ⟨_, rfl, rfl, rfl⟩
set_option maxHeartbeats 4000000 in
set_option maxRecDepth 20000 in
theorem c_likings1 (σ : Mem) (z : Int32) (hz : ¬ z = 0) (d : Nat) (hd : 0 ≤ d) : PMet d mX7_likings [.ref 0, .int z] σ (Pa (fun v σ2 => v = 8 ∧ σ2 = σ)) := by
  refine PMet.start (ls0 := [(0, .ref 0), (1, .int z)]) miX7_likings.1 (Nat.le_of_ble_eq_true rfl) rfl ?_
  refine tq_iload_n 1 (dget dX7_likings 0 rfl) rfl rfl ?_
  refine tq_if_ne (tgt := 14) (dget dX7_likings 1 rfl) (by decide) (fun c_1 => ?_) (fun c_1 => ?_)
  · refine tq_aload_n 0 (dget dX7_likings 6 rfl) rfl rfl ?_
    refine tq_getR (dget dX7_likings 7 rfl) fX7_12 rfl rfl ?_
    refine tq_getR (dget dX7_likings 8 rfl) fX7_265 rfl rfl ?_
    exact tq_aret rfl (dget dX7_likings 9 rfl) ⟨_, rfl, rfl, rfl⟩
  · exact absurd c_1 hz
set_option maxHeartbeats 4000000 in
set_option maxRecDepth 20000 in
theorem c_gd_loop (σ : Mem) (A B : Nat) (d : Nat) (hd : 0 ≤ d) : ∀ (n : Nat) (k : Nat) (a : Nat) (b : Nat) (hm : 50 < k + n) (hk : k ≤ 50) (ha : a < 2 ^ 31) (hb : b < 2 ^ 31) (hg : gdF (50 - k) a b = gdF 50 A B), PAt (EM d (Pi (fun v σ2 => v = nI (gdF 50 A B) ∧ σ2 = σ))) mX7_greatestDivisor 7 [(4, .int (nI k)), (2, .int (nI a)), (3, .int (nI b)), (0, .int (nI A)), (1, .int (nI B))] [] σ := by
  intro n
  induction n with
  | zero => intro k a b hm hk ha hb hg; exact absurd hm (by omega)
  | succ n ih =>
    intro k a b hm hk ha hb hg
    refine tq_iload 0 (dget dX7_greatestDivisor 6 rfl) rfl ?_
    refine tq_bipush (v := 50) (dget dX7_greatestDivisor 7 rfl) rfl ?_
    refine tq_icmp_ge (tgt := 34) (dget dX7_greatestDivisor 8 rfl) (by decide) (fun c_11 => ?_) (fun c_11 => ?_)
    · have g_11 := kle (a := 50) (b := k) (by omega) (by omega) c_11
      have g_12 : 50 - k = 0 := by omega
      refine tq_iload_n 1 (dget dX7_greatestDivisor 21 rfl) rfl rfl ?_
      exact tq_iret rfl (dget dX7_greatestDivisor 22 rfl) ⟨_, rfl, by rw [← hg, g_12]; rfl, rfl⟩
    · have g_11 := knle (b := k) (a := 50) (by omega) (by omega) c_11
      refine tq_iload_n 2 (dget dX7_greatestDivisor 9 rfl) rfl rfl ?_
      refine tq_if_le (tgt := 34) (dget dX7_greatestDivisor 10 rfl) (by decide) (fun c_15 => ?_) (fun c_15 => ?_)
      · have g_15 : b = 0 := Nat.le_zero.mp (kle (b := 0) hb (by omega) c_15)
        refine tq_iload_n 1 (dget dX7_greatestDivisor 21 rfl) rfl rfl ?_
        exact tq_iret rfl (dget dX7_greatestDivisor 22 rfl) ⟨_, rfl, by rw [← hg, g_15, show 50 - k = (49 - k) + 1 by omega, gdF, if_pos rfl], rfl⟩
      · have g_15 : ¬ b = 0 := fun e => c_15 (by rw [e]; decide)
        refine tq_iload_n 1 (dget dX7_greatestDivisor 11 rfl) rfl rfl ?_
        refine tq_iload_n 2 (dget dX7_greatestDivisor 12 rfl) rfl rfl ?_
        refine tq_irem (dget dX7_greatestDivisor 13 rfl) (fun e => g_15 (n_eq (b := 0) hb (by omega) e)) ?_
        refine tq_eqi (y := (nI (a % b))) (nI_modN ha hb) ?_
        refine tq_istore (ls2 := [(5, .int (nI (a % b))), (4, .int (nI k)), (2, .int (nI a)), (3, .int (nI b)), (0, .int (nI A)), (1, .int (nI B))]) (dget dX7_greatestDivisor 14 rfl) (by decide) rfl ?_
        refine tq_iload_n 3 (dget dX7_greatestDivisor 15 rfl) rfl rfl ?_
        refine tq_istore_n (ls2 := [(2, .int (nI b)), (5, .int (nI (a % b))), (4, .int (nI k)), (3, .int (nI b)), (0, .int (nI A)), (1, .int (nI B))]) (dget dX7_greatestDivisor 16 rfl) rfl (by decide) rfl ?_
        refine tq_iload 1 (dget dX7_greatestDivisor 17 rfl) rfl ?_
        refine tq_istore_n (ls2 := [(3, .int (nI (a % b))), (2, .int (nI b)), (5, .int (nI (a % b))), (4, .int (nI k)), (0, .int (nI A)), (1, .int (nI B))]) (dget dX7_greatestDivisor 18 rfl) rfl (by decide) rfl ?_
        refine tq_iinc (v := (nI (k + 1))) (ls2 := [(4, .int (nI (k + 1))), (3, .int (nI (a % b))), (2, .int (nI b)), (5, .int (nI (a % b))), (0, .int (nI A)), (1, .int (nI B))]) 3 (dget dX7_greatestDivisor 19 rfl) rfl (nI_1 k) (by decide) rfl ?_
        refine tq_goto (tgt := 7) (dget dX7_greatestDivisor 20 rfl) (by decide) ?_
        refine tq_sub [0, 2, 1, 4, 5] (ls' := [(4, .int (nI (k + 1))), (2, .int (nI b)), (3, .int (nI (a % b))), (0, .int (nI A)), (1, .int (nI B))]) rfl ?_
        refine ih (k + 1) b (a % b) (by omega) (by omega) hb (Nat.lt_of_le_of_lt (Nat.mod_le a b) ha) ?_
        rw [show 50 - k = (50 - (k + 1)) + 1 by omega, gdF, if_neg g_15] at hg
        exact hg
set_option maxHeartbeats 4000000 in
set_option maxRecDepth 20000 in
theorem c_gd (σ : Mem) (A B : Nat) (hA : A < 2 ^ 31) (hB : B < 2 ^ 31) (d : Nat) (hd : 0 ≤ d) : PMet d mX7_greatestDivisor [.int (nI A), .int (nI B)] σ (Pi (fun v σ2 => v = nI (gdF 50 A B) ∧ σ2 = σ)) := by
  refine PMet.start (ls0 := [(0, .int (nI A)), (1, .int (nI B))]) miX7_greatestDivisor.1 (Nat.le_of_ble_eq_true rfl) rfl ?_
  refine tq_iload_n 0 (dget dX7_greatestDivisor 0 rfl) rfl rfl ?_
  refine tq_istore_n (ls2 := [(2, .int (nI A)), (0, .int (nI A)), (1, .int (nI B))]) (dget dX7_greatestDivisor 1 rfl) rfl (by decide) rfl ?_
  refine tq_iload_n 2 (dget dX7_greatestDivisor 2 rfl) rfl rfl ?_
  refine tq_istore_n (ls2 := [(3, .int (nI B)), (2, .int (nI A)), (0, .int (nI A)), (1, .int (nI B))]) (dget dX7_greatestDivisor 3 rfl) rfl (by decide) rfl ?_
  refine tq_iconst (v := 0) (dget dX7_greatestDivisor 4 rfl) rfl ?_
  refine tq_istore (ls2 := [(4, .int 0), (3, .int (nI B)), (2, .int (nI A)), (0, .int (nI A)), (1, .int (nI B))]) (dget dX7_greatestDivisor 5 rfl) (by decide) rfl ?_
  refine tq_sub [0, 2, 1, 3, 4] (ls' := [(4, .int 0), (2, .int (nI A)), (3, .int (nI B)), (0, .int (nI A)), (1, .int (nI B))]) rfl ?_
  rw [show (0 : Int32) = nI 0 from rfl]
  exact c_gd_loop σ A B d (by omega) 51 0 A B (by omega) (by omega) hA hB rfl
set_option maxHeartbeats 4000000 in
set_option maxRecDepth 20000 in
theorem c_likes (σ : Mem) (S M : Nat) (hV : VA σ S M) (x y z : Int32) (d : Nat) (hd : 1 ≤ d) : PMet d mX7_likes [.ref 0, .int x, .int y, .int z] σ (Pi (fun v σ2 => v = cnd (hM σ x) (cnd (hS σ y) (cnd (z = 0) (σ (4 + cl x) (cl y)) (cnd (z = 1) (σ (9 + cl x) (cl y)) (-2))) (-1)) (-1) ∧ σ2 = σ)) := by
  obtain ⟨d, rfl⟩ : ∃ e, d = e + 1 := ⟨d - 1, by omega⟩
  refine PMet.start (ls0 := [(0, .ref 0), (1, .int x), (2, .int y), (3, .int z)]) miX7_likes.1 (Nat.le_of_ble_eq_true rfl) rfl ?_
  refine tq_aload_n 0 (dget dX7_likes 0 rfl) rfl rfl ?_
  refine tq_getR (dget dX7_likes 1 rfl) fX7_12 rfl rfl ?_
  refine tq_iload_n 1 (dget dX7_likes 2 rfl) rfl rfl ?_
  refine mq_Vi (As := [.int x]) (rest := []) (dget dX7_likes 3 rfl) lX7_92 miX6_hasMaid (c_hasMaid σ x d (by omega)) rfl rfl rfl rfl (Nat.le_of_ble_eq_true rfl) (Nat.le_of_ble_eq_true rfl) (fun r_5 σ_5 h_5 => ?_)
  obtain ⟨b_5, e_5⟩ := h_5
  obtain rfl := e_5.symm
  refine tq_if_eq (tgt := 22) (dget dX7_likes 4 rfl) (by decide) (fun c_8 => ?_) (fun c_8 => ?_)
  · refine tq_iconst (v := (-1)) (dget dX7_likes 10 rfl) rfl ?_
    exact tq_iret rfl (dget dX7_likes 11 rfl) ⟨_, rfl, by simp only [cnd_f (P := hM σ x) (b_5.f c_8)], rfl⟩
  · refine tq_aload_n 0 (dget dX7_likes 5 rfl) rfl rfl ?_
    refine tq_getR (dget dX7_likes 6 rfl) fX7_12 rfl rfl ?_
    refine tq_iload_n 2 (dget dX7_likes 7 rfl) rfl rfl ?_
    refine mq_Vi (As := [.int y]) (rest := []) (dget dX7_likes 8 rfl) lX7_95 miX6_hasSuitor (c_hasSuitor σ y d (by omega)) rfl rfl rfl rfl (Nat.le_of_ble_eq_true rfl) (Nat.le_of_ble_eq_true rfl) (fun r_16 σ_16 h_16 => ?_)
    obtain ⟨b_16, e_16⟩ := h_16
    obtain rfl := e_16.symm
    refine tq_if_ne (tgt := 24) (dget dX7_likes 9 rfl) (by decide) (fun c_19 => ?_) (fun c_19 => ?_)
    · obtain ⟨m, e_m, hm, hm4⟩ := hM_n hV (b_5.t c_8)
      subst e_m
      obtain ⟨s, e_s, hs, hs6⟩ := hS_n hV (b_16.t c_19)
      subst e_s
      refine tq_iload_n 3 (dget dX7_likes 12 rfl) rfl rfl ?_
      refine tq_if_eq (tgt := 36) (dget dX7_likes 13 rfl) (by decide) (fun c_25 => ?_) (fun c_25 => ?_)
      · refine tq_aload_n 0 (dget dX7_likes 19 rfl) rfl rfl ?_
        refine tq_iload_n 3 (dget dX7_likes 20 rfl) rfl rfl ?_
        refine mq_Va (As := [.int z]) (rest := []) (dget dX7_likes 21 rfl) lX7_98 miX7_likings (c_likings0 σ z c_25 d (by omega)) rfl rfl rfl rfl (Nat.le_of_ble_eq_true rfl) (Nat.le_of_ble_eq_true rfl) (fun r_38 σ_38 h_38 => ?_)
        obtain ⟨a_38, e_38⟩ := h_38
        obtain rfl := a_38.symm
        obtain rfl := e_38.symm
        refine tq_iload_n 1 (dget dX7_likes 22 rfl) rfl rfl ?_
        refine tq_hers m (dget dX7_likes 23 rfl) rfl (by omega) ?_
        refine tq_iload_n 2 (dget dX7_likes 24 rfl) rfl rfl ?_
        refine tq_ialdN s (dget dX7_likes 25 rfl) (SH_hers (by omega)) (by decide) rfl (by omega) ?_
        exact tq_iret rfl (dget dX7_likes 26 rfl) ⟨_, rfl, by simp only [cnd_t (P := hM σ (nI m)) (b_5.t c_8), cnd_t (P := hS σ (nI s)) (b_16.t c_19), nI_clamp (show m < 2 ^ 31 by omega), nI_clamp (show s < 2 ^ 31 by omega), cnd_t c_25], rfl⟩
      · refine tq_iload_n 3 (dget dX7_likes 14 rfl) rfl rfl ?_
        refine tq_iconst (v := 1) (dget dX7_likes 15 rfl) rfl ?_
        refine tq_icmp_eq (tgt := 36) (dget dX7_likes 16 rfl) (by decide) (fun c_30 => ?_) (fun c_30 => ?_)
        · refine tq_aload_n 0 (dget dX7_likes 19 rfl) rfl rfl ?_
          refine tq_iload_n 3 (dget dX7_likes 20 rfl) rfl rfl ?_
          refine mq_Va (As := [.int z]) (rest := []) (dget dX7_likes 21 rfl) lX7_98 miX7_likings (c_likings1 σ z c_25 d (by omega)) rfl rfl rfl rfl (Nat.le_of_ble_eq_true rfl) (Nat.le_of_ble_eq_true rfl) (fun r_38 σ_38 h_38 => ?_)
          obtain ⟨a_38, e_38⟩ := h_38
          obtain rfl := a_38.symm
          obtain rfl := e_38.symm
          refine tq_iload_n 1 (dget dX7_likes 22 rfl) rfl rfl ?_
          refine tq_his m (dget dX7_likes 23 rfl) rfl (by omega) ?_
          refine tq_iload_n 2 (dget dX7_likes 24 rfl) rfl rfl ?_
          refine tq_ialdN s (dget dX7_likes 25 rfl) (SH_his (by omega)) (by decide) rfl (by omega) ?_
          exact tq_iret rfl (dget dX7_likes 26 rfl) ⟨_, rfl, by simp only [cnd_t (P := hM σ (nI m)) (b_5.t c_8), cnd_t (P := hS σ (nI s)) (b_16.t c_19), nI_clamp (show m < 2 ^ 31 by omega), nI_clamp (show s < 2 ^ 31 by omega), cnd_f c_25, cnd_t c_30], rfl⟩
        · refine tq_bipush (v := (-2)) (dget dX7_likes 17 rfl) rfl ?_
          exact tq_iret rfl (dget dX7_likes 18 rfl) ⟨_, rfl, by simp only [cnd_t (P := hM σ (nI m)) (b_5.t c_8), cnd_t (P := hS σ (nI s)) (b_16.t c_19), nI_clamp (show m < 2 ^ 31 by omega), nI_clamp (show s < 2 ^ 31 by omega), cnd_f c_25, cnd_f c_30], rfl⟩
    · refine tq_iconst (v := (-1)) (dget dX7_likes 10 rfl) rfl ?_
      exact tq_iret rfl (dget dX7_likes 11 rfl) ⟨_, rfl, by simp only [cnd_t (P := hM σ x) (b_5.t c_8), cnd_f (P := hS σ y) (b_16.f c_19)], rfl⟩
end
section
/-! ===== the class's public calls (2): the valley, offers ===== -/
noncomputable def likesF (σ : Mem) (x y z : Int32) : Int32 := cnd (hM σ x) (cnd (hS σ y) (cnd (z = 0) (σ (4 + cl x) (cl y)) (cnd (z = 1) (σ (9 + cl x) (cl y)) (-2))) (-1)) (-1)
theorem likesF_ok {σ : Mem} {x y z : Int32} (h : ¬ likesF σ x y z < 0) : hM σ x ∧ hS σ y ∧ (z = 0 ∨ z = 1) := by
  unfold likesF at h
  by_cases h1 : hM σ x
  · rw [cnd_t h1] at h
    by_cases h2 : hS σ y
    · rw [cnd_t h2] at h
      by_cases h3 : z = 0
      · exact ⟨h1, h2, Or.inl h3⟩
      · rw [cnd_f h3] at h
        by_cases h4 : z = 1
        · exact ⟨h1, h2, Or.inr h4⟩
        · rw [cnd_f h4] at h
          exact absurd (by decide) h
    · rw [cnd_f h2] at h
      exact absurd (by decide) h
  · rw [cnd_f h1] at h
    exact absurd (by decide) h
def goX (σ : Mem) (C : Nat) (so mo : Nat → Nat) : Mem := goF σ so mo C
theorem OF_up {σ : Mem} {C i k : Nat} {v : Int32} {so mo : Nat → Nat} (h : OF σ C so mo) (h1 : i ≠ 13) (h2 : i ≠ 14) (h3 : i ≠ 15) : OF (up σ i k v) C so mo := OF_rows h (up_row (Ne.symm h1)) (up_row (Ne.symm h2)) (up_row (Ne.symm h3))

set_option maxHeartbeats 4000000 in
set_option maxRecDepth 20000 in
theorem c_like (σ : Mem) (S M C : Nat) (so mo : Nat → Nat) (hV : VA σ S M) (hO : OF σ C so mo) (x y z v : Int32) (d : Nat) (hd : 4 ≤ d) : PMet d mX7_like [.ref 0, .int x, .int y, .int z, .int v] σ (Pi (fun r σ2 => r = cnd (likesF σ x y z < 0) (likesF σ x y z) (cnd (0 ≤ v ∧ v ≤ 9) (likesF σ x y z) (-2)) ∧ σ2 = cnd (likesF σ x y z < 0) σ (cnd (0 ≤ v ∧ v ≤ 9) (goF (up σ (cnd (z = 0) (4 + cl x) (9 + cl x)) (cl y) v) so mo C) σ))) := by
  obtain ⟨d, rfl⟩ : ∃ e, d = e + 1 := ⟨d - 1, by omega⟩
  refine PMet.start (ls0 := [(0, .ref 0), (1, .int x), (2, .int y), (3, .int z), (4, .int v)]) miX7_like.1 (Nat.le_of_ble_eq_true rfl) rfl ?_
  refine tq_aload_n 0 (dget dX7_like 0 rfl) rfl rfl ?_
  refine tq_iload_n 1 (dget dX7_like 1 rfl) rfl rfl ?_
  refine tq_iload_n 2 (dget dX7_like 2 rfl) rfl rfl ?_
  refine tq_iload_n 3 (dget dX7_like 3 rfl) rfl rfl ?_
  refine mq_Vi (As := [.int x, .int y, .int z]) (rest := []) (dget dX7_like 4 rfl) lX7_102 miX7_likes (c_likes σ S M hV x y z d (by omega)) rfl rfl rfl rfl (Nat.le_of_ble_eq_true rfl) (Nat.le_of_ble_eq_true rfl) (fun r_4 σ_4 h_4 => ?_)
  obtain ⟨a_4, e_4⟩ := h_4
  obtain rfl := a_4.symm
  obtain rfl := e_4.symm
  rw [show cnd (hM σ x) (cnd (hS σ y) (cnd (z = 0) (σ (4 + cl x) (cl y)) (cnd (z = 1) (σ (9 + cl x) (cl y)) (-2))) (-1)) (-1) = likesF σ x y z from rfl]
  refine tq_istore (ls2 := [(5, .int (likesF σ x y z)), (0, .ref 0), (1, .int x), (2, .int y), (3, .int z), (4, .int v)]) (dget dX7_like 5 rfl) (by decide) rfl ?_
  refine tq_iload 0 (dget dX7_like 6 rfl) rfl ?_
  refine tq_if_ge (tgt := 17) (dget dX7_like 7 rfl) (by decide) (fun c_11 => ?_) (fun c_11 => ?_)
  · have g_11 := likesF_ok (Int32.not_lt.mpr c_11)
    refine tq_iload 5 (dget dX7_like 10 rfl) rfl ?_
    refine tq_if_lt (tgt := 29) (dget dX7_like 11 rfl) (by decide) (fun c_19 => ?_) (fun c_19 => ?_)
    · refine tq_bipush (v := (-2)) (dget dX7_like 15 rfl) rfl ?_
      exact tq_iret rfl (dget dX7_like 16 rfl) ⟨_, rfl, by simp only [cnd_f (P := likesF σ x y z < 0) (Int32.not_lt.mpr c_11), cnd_f (P := 0 ≤ v ∧ v ≤ 9) (fun q => by first | exact absurd q.1 (Int32.not_le.mpr c_19) | exact c_26 q.2)], by simp only [cnd_f (P := likesF σ x y z < 0) (Int32.not_lt.mpr c_11), cnd_f (P := 0 ≤ v ∧ v ≤ 9) (fun q => by first | exact absurd q.1 (Int32.not_le.mpr c_19) | exact c_26 q.2)]⟩
    · refine tq_iload 5 (dget dX7_like 12 rfl) rfl ?_
      refine tq_bipush (v := 9) (dget dX7_like 13 rfl) rfl ?_
      refine tq_icmp_le (tgt := 32) (dget dX7_like 14 rfl) (by decide) (fun c_26 => ?_) (fun c_26 => ?_)
      · obtain ⟨m, e_m, hm, hm4⟩ := hM_n hV g_11.1
        subst e_m
        obtain ⟨s, e_s, hs, hs6⟩ := hS_n hV g_11.2.1
        subst e_s
        rcases g_11.2.2 with rfl | rfl
        · refine tq_aload_n 1 (dget dX7_like 17 rfl) rfl rfl ?_
          refine tq_iload_n 4 (dget dX7_like 18 rfl) rfl rfl ?_
          refine mq_Va (As := [.int 0]) (rest := []) (dget dX7_like 19 rfl) lX7_98 miX7_likings (c_likings0 σ 0 rfl d (by omega)) rfl rfl rfl rfl (Nat.le_of_ble_eq_true rfl) (Nat.le_of_ble_eq_true rfl) (fun r_34 σ_34 h_34 => ?_)
          obtain ⟨a_34, e_34⟩ := h_34
          obtain rfl := a_34.symm
          obtain rfl := e_34.symm
          refine tq_iload_n 2 (dget dX7_like 20 rfl) rfl rfl ?_
          refine tq_hers m (dget dX7_like 21 rfl) rfl (by omega) ?_
          refine tq_iload_n 3 (dget dX7_like 22 rfl) rfl rfl ?_
          refine tq_iload 5 (dget dX7_like 23 rfl) rfl ?_
          refine tq_iastN s (dget dX7_like 24 rfl) (SH_hers (by omega)) (by decide) rfl (by omega) ?_
          refine tq_aload_n 1 (dget dX7_like 25 rfl) rfl rfl ?_
          refine tq_getR (dget dX7_like 26 rfl) fX7_21 rfl rfl ?_
          refine tq_aload_n 1 (dget dX7_like 27 rfl) rfl rfl ?_
          refine tq_getR (dget dX7_like 28 rfl) fX7_12 rfl rfl ?_
          refine mq_Vv (As := [.ref 1]) (rest := []) (dget dX7_like 29 rfl) lX7_105 miX2_goThrough (c_goThrough (up σ (4 + m) s v) C so mo (OF_up hO (by omega) (by omega) (by omega)).1 (OF_up (i := 4 + m) (k := s) (v := v) hO (by omega) (by omega) (by omega)).2.1 (OF_up hO (by omega) (by omega) (by omega)).2.2 d (by omega)) rfl rfl rfl rfl (Nat.le_of_ble_eq_true rfl) (Nat.le_of_ble_eq_true rfl) (fun σ_51 h_51 => ?_)
          obtain rfl := Eq.symm h_51
          refine tq_iload 0 (dget dX7_like 30 rfl) rfl ?_
          exact tq_iret rfl (dget dX7_like 31 rfl) ⟨_, rfl, by simp only [cnd_f (P := likesF σ (nI m) (nI s) 0 < 0) (Int32.not_lt.mpr c_11), cnd_t (P := 0 ≤ v ∧ v ≤ 9) ⟨Int32.not_lt.mp c_19, c_26⟩], by simp only [cnd_f (P := likesF σ (nI m) (nI s) 0 < 0) (Int32.not_lt.mpr c_11), cnd_t (P := 0 ≤ v ∧ v ≤ 9) ⟨Int32.not_lt.mp c_19, c_26⟩, cnd_t (P := True) trivial, nI_clamp (show m < 2 ^ 31 by omega), nI_clamp (show s < 2 ^ 31 by omega)]⟩
        · refine tq_aload_n 1 (dget dX7_like 17 rfl) rfl rfl ?_
          refine tq_iload_n 4 (dget dX7_like 18 rfl) rfl rfl ?_
          refine mq_Va (As := [.int 1]) (rest := []) (dget dX7_like 19 rfl) lX7_98 miX7_likings (c_likings1 σ 1 (by decide) d (by omega)) rfl rfl rfl rfl (Nat.le_of_ble_eq_true rfl) (Nat.le_of_ble_eq_true rfl) (fun r_34 σ_34 h_34 => ?_)
          obtain ⟨a_34, e_34⟩ := h_34
          obtain rfl := a_34.symm
          obtain rfl := e_34.symm
          refine tq_iload_n 2 (dget dX7_like 20 rfl) rfl rfl ?_
          refine tq_his m (dget dX7_like 21 rfl) rfl (by omega) ?_
          refine tq_iload_n 3 (dget dX7_like 22 rfl) rfl rfl ?_
          refine tq_iload 5 (dget dX7_like 23 rfl) rfl ?_
          refine tq_iastN s (dget dX7_like 24 rfl) (SH_his (by omega)) (by decide) rfl (by omega) ?_
          refine tq_aload_n 1 (dget dX7_like 25 rfl) rfl rfl ?_
          refine tq_getR (dget dX7_like 26 rfl) fX7_21 rfl rfl ?_
          refine tq_aload_n 1 (dget dX7_like 27 rfl) rfl rfl ?_
          refine tq_getR (dget dX7_like 28 rfl) fX7_12 rfl rfl ?_
          refine mq_Vv (As := [.ref 1]) (rest := []) (dget dX7_like 29 rfl) lX7_105 miX2_goThrough (c_goThrough (up σ (9 + m) s v) C so mo (OF_up hO (by omega) (by omega) (by omega)).1 (OF_up (i := 9 + m) (k := s) (v := v) hO (by omega) (by omega) (by omega)).2.1 (OF_up hO (by omega) (by omega) (by omega)).2.2 d (by omega)) rfl rfl rfl rfl (Nat.le_of_ble_eq_true rfl) (Nat.le_of_ble_eq_true rfl) (fun σ_51 h_51 => ?_)
          obtain rfl := Eq.symm h_51
          refine tq_iload 0 (dget dX7_like 30 rfl) rfl ?_
          exact tq_iret rfl (dget dX7_like 31 rfl) ⟨_, rfl, by simp only [cnd_f (P := likesF σ (nI m) (nI s) 1 < 0) (Int32.not_lt.mpr c_11), cnd_t (P := 0 ≤ v ∧ v ≤ 9) ⟨Int32.not_lt.mp c_19, c_26⟩], by simp only [cnd_f (P := likesF σ (nI m) (nI s) 1 < 0) (Int32.not_lt.mpr c_11), cnd_t (P := 0 ≤ v ∧ v ≤ 9) ⟨Int32.not_lt.mp c_19, c_26⟩, cnd_f (P := (1 : Int32) = 0) (by decide), nI_clamp (show m < 2 ^ 31 by omega), nI_clamp (show s < 2 ^ 31 by omega)]⟩
      · refine tq_bipush (v := (-2)) (dget dX7_like 15 rfl) rfl ?_
        exact tq_iret rfl (dget dX7_like 16 rfl) ⟨_, rfl, by simp only [cnd_f (P := likesF σ x y z < 0) (Int32.not_lt.mpr c_11), cnd_f (P := 0 ≤ v ∧ v ≤ 9) (fun q => by first | exact absurd q.1 (Int32.not_le.mpr c_19) | exact c_26 q.2)], by simp only [cnd_f (P := likesF σ x y z < 0) (Int32.not_lt.mpr c_11), cnd_f (P := 0 ≤ v ∧ v ≤ 9) (fun q => by first | exact absurd q.1 (Int32.not_le.mpr c_19) | exact c_26 q.2)]⟩
  · refine tq_iload 0 (dget dX7_like 8 rfl) rfl ?_
    exact tq_iret rfl (dget dX7_like 9 rfl) ⟨_, rfl, by simp only [cnd_t (P := likesF σ x y z < 0) (Int32.not_le.mp c_11)], by simp only [cnd_t (P := likesF σ x y z < 0) (Int32.not_le.mp c_11)]⟩
theorem tab_no0 {z : Int32} {hi : Int} (h : z.toInt < 0 ∨ hi < z.toInt) (hh : 0 ≤ hi := by decide) : ¬ z = 0 := by
  intro e
  have h2 : ((0 : Int32).toInt) = 0 := by decide
  rw [e, h2] at h
  omega
theorem tab_no1 {z : Int32} {hi : Int} (h : z.toInt < 0 ∨ hi < z.toInt) (hh : 1 ≤ hi := by decide) : ¬ z = 1 := by
  intro e
  have h2 : ((1 : Int32).toInt) = 1 := by decide
  rw [e, h2] at h
  omega
theorem tab_no2 {z : Int32} {hi : Int} (h : z.toInt < 0 ∨ hi < z.toInt) (hh : 2 ≤ hi := by decide) : ¬ z = 2 := by
  intro e
  have h2 : ((2 : Int32).toInt) = 2 := by decide
  rw [e, h2] at h
  omega
theorem tab_no3 {z : Int32} {hi : Int} (h : z.toInt < 0 ∨ hi < z.toInt) (hh : 3 ≤ hi := by decide) : ¬ z = 3 := by
  intro e
  have h2 : ((3 : Int32).toInt) = 3 := by decide
  rw [e, h2] at h
  omega
theorem tab_no4 {z : Int32} {hi : Int} (h : z.toInt < 0 ∨ hi < z.toInt) (hh : 4 ≤ hi := by decide) : ¬ z = 4 := by
  intro e
  have h2 : ((4 : Int32).toInt) = 4 := by decide
  rw [e, h2] at h
  omega
set_option maxHeartbeats 4000000 in
set_option maxRecDepth 20000 in
theorem c_ofMaid (σ : Mem) (S M : Nat) (hV : VA σ S M) (x z : Int32) (d : Nat) (hd : 1 ≤ d) : PMet d mX7_ofMaid [.ref 0, .int x, .int z] σ (Pi (fun v σ2 => v = cnd (hM σ x) (cnd (z = 0) (σ 2 (cl x)) (cnd (z = 1) (mindF (σ 2 (cl x)) (σ 18 (cl x))) (cnd (z = 2) (σ 18 (cl x)) (cnd (z = 3) (cnd (σ 19 (cl x) = -1) (-9) (σ 19 (cl x))) (-2))))) (-1) ∧ σ2 = σ)) := by
  obtain ⟨d, rfl⟩ : ∃ e, d = e + 1 := ⟨d - 1, by omega⟩
  refine PMet.start (ls0 := [(0, .ref 0), (1, .int x), (2, .int z)]) miX7_ofMaid.1 (Nat.le_of_ble_eq_true rfl) rfl ?_
  refine tq_aload_n 0 (dget dX7_ofMaid 0 rfl) rfl rfl ?_
  refine tq_getR (dget dX7_ofMaid 1 rfl) fX7_12 rfl rfl ?_
  refine tq_iload_n 1 (dget dX7_ofMaid 2 rfl) rfl rfl ?_
  refine mq_Vi (As := [.int x]) (rest := []) (dget dX7_ofMaid 3 rfl) lX7_92 miX6_hasMaid (c_hasMaid σ x d (by omega)) rfl rfl rfl rfl (Nat.le_of_ble_eq_true rfl) (Nat.le_of_ble_eq_true rfl) (fun r_5 σ_5 h_5 => ?_)
  obtain ⟨b_5, e_5⟩ := h_5
  obtain rfl := e_5.symm
  refine tq_if_ne (tgt := 13) (dget dX7_ofMaid 4 rfl) (by decide) (fun c_8 => ?_) (fun c_8 => ?_)
  · obtain ⟨m, e_m, hm, hm4⟩ := hM_n hV (b_5.t c_8)
    subst e_m
    refine tq_aload_n 0 (dget dX7_ofMaid 7 rfl) rfl rfl ?_
    refine tq_getR (dget dX7_ofMaid 8 rfl) fX7_21 rfl rfl ?_
    refine tq_getR (dget dX7_ofMaid 9 rfl) fX7_109 rfl rfl ?_
    refine tq_getR (dget dX7_ofMaid 10 rfl) fX7_113 rfl rfl ?_
    refine tq_iload_n 1 (dget dX7_ofMaid 11 rfl) rfl rfl ?_
    refine tq_ialdN m (dget dX7_ofMaid 12 rfl) rfl (by decide) rfl (by omega) ?_
    refine tq_istore_n (ls2 := [(3, .int (σ 18 m)), (0, .ref 0), (1, .int (nI m)), (2, .int z)]) (dget dX7_ofMaid 13 rfl) rfl (by decide) rfl ?_
    refine tq_aload_n 1 (dget dX7_ofMaid 14 rfl) rfl rfl ?_
    refine tq_getR (dget dX7_ofMaid 15 rfl) fX7_21 rfl rfl ?_
    refine tq_getR (dget dX7_ofMaid 16 rfl) fX7_109 rfl rfl ?_
    refine tq_getR (dget dX7_ofMaid 17 rfl) fX7_118 rfl rfl ?_
    refine tq_iload_n 2 (dget dX7_ofMaid 18 rfl) rfl rfl ?_
    refine tq_ialdN m (dget dX7_ofMaid 19 rfl) rfl (by decide) rfl (by omega) ?_
    refine tq_istore (ls2 := [(4, .int (σ 19 m)), (3, .int (σ 18 m)), (0, .ref 0), (1, .int (nI m)), (2, .int z)]) (dget dX7_ofMaid 20 rfl) (by decide) rfl ?_
    refine tq_iload_n 4 (dget dX7_ofMaid 21 rfl) rfl rfl ?_
    by_cases c_41 : (z).toInt < 0 ∨ 3 < (z).toInt
    · refine tq_tableOut (tgt := 112) (dget dX7_ofMaid 22 rfl) c_41 (by decide) ?_
      refine tq_bipush (v := (-2)) (dget dX7_ofMaid 46 rfl) rfl ?_
      exact tq_iret rfl (dget dX7_ofMaid 47 rfl) ⟨_, rfl, by simp only [cnd_t (P := hM σ (nI m)) (b_5.t c_8), nI_clamp (show m < 2 ^ 31 by omega), cnd_f (P := z = 0) (tab_no0 c_41), cnd_f (P := z = 1) (tab_no1 c_41), cnd_f (P := z = 2) (tab_no2 c_41), cnd_f (P := z = 3) (tab_no3 c_41)], rfl⟩
    · have c_41 := sw_in c_41
      by_cases s_41_0 : z = 0
      · refine tq_tableIn (tgt := 72) (off := 31) (dget dX7_ofMaid 22 rfl) (by rw [s_41_0]; decide) (by rw [s_41_0]; decide) (by rw [s_41_0]; rfl) (by decide) ?_
        refine tq_aload_n 2 (dget dX7_ofMaid 23 rfl) rfl rfl ?_
        refine tq_getR (dget dX7_ofMaid 24 rfl) fX7_12 rfl rfl ?_
        refine tq_getR (dget dX7_ofMaid 25 rfl) fX7_121 rfl rfl ?_
        refine tq_iload_n 3 (dget dX7_ofMaid 26 rfl) rfl rfl ?_
        refine tq_ialdN m (dget dX7_ofMaid 27 rfl) rfl (by decide) rfl (by omega) ?_
        exact tq_iret rfl (dget dX7_ofMaid 28 rfl) ⟨_, rfl, by simp only [cnd_t (P := hM σ (nI m)) (b_5.t c_8), nI_clamp (show m < 2 ^ 31 by omega), cnd_t (P := z = 0) s_41_0], rfl⟩
      by_cases s_41_1 : z = 1
      · refine tq_tableIn (tgt := 82) (off := 41) (dget dX7_ofMaid 22 rfl) (by rw [s_41_1]; decide) (by rw [s_41_1]; decide) (by rw [s_41_1]; rfl) (by decide) ?_
        refine tq_aload_n 2 (dget dX7_ofMaid 29 rfl) rfl rfl ?_
        refine tq_getR (dget dX7_ofMaid 30 rfl) fX7_12 rfl rfl ?_
        refine tq_getR (dget dX7_ofMaid 31 rfl) fX7_121 rfl rfl ?_
        refine tq_iload_n 3 (dget dX7_ofMaid 32 rfl) rfl rfl ?_
        refine tq_ialdN m (dget dX7_ofMaid 33 rfl) rfl (by decide) rfl (by omega) ?_
        refine tq_iload_n 1 (dget dX7_ofMaid 34 rfl) rfl rfl ?_
        refine mq_Si (As := [.int (σ 2 m), .int (σ 18 m)]) (rest := []) (dget dX7_ofMaid 35 rfl) lX7_124 miX6_mind (c_mind σ (σ 2 m) (σ 18 m) d (by omega)) rfl rfl (Nat.le_of_ble_eq_true rfl) (Nat.le_of_ble_eq_true rfl) (fun r_92 σ_92 h_92 => ?_)
        obtain ⟨a_92, e_92⟩ := h_92
        obtain rfl := a_92.symm
        obtain rfl := e_92.symm
        exact tq_iret rfl (dget dX7_ofMaid 36 rfl) ⟨_, rfl, by simp only [cnd_t (P := hM σ (nI m)) (b_5.t c_8), nI_clamp (show m < 2 ^ 31 by omega), cnd_f (P := z = 0) s_41_0, cnd_t (P := z = 1) s_41_1], rfl⟩
      by_cases s_41_2 : z = 2
      · refine tq_tableIn (tgt := 96) (off := 55) (dget dX7_ofMaid 22 rfl) (by rw [s_41_2]; decide) (by rw [s_41_2]; decide) (by rw [s_41_2]; rfl) (by decide) ?_
        refine tq_iload_n 1 (dget dX7_ofMaid 37 rfl) rfl rfl ?_
        exact tq_iret rfl (dget dX7_ofMaid 38 rfl) ⟨_, rfl, by simp only [cnd_t (P := hM σ (nI m)) (b_5.t c_8), nI_clamp (show m < 2 ^ 31 by omega), cnd_f (P := z = 0) s_41_0, cnd_f (P := z = 1) s_41_1, cnd_t (P := z = 2) s_41_2], rfl⟩
      have s_41_3 : z = 3 := sw_last4 c_41 s_41_0 s_41_1 s_41_2
      refine tq_tableIn (tgt := 98) (off := 57) (dget dX7_ofMaid 22 rfl) (by rw [s_41_3]; decide) (by rw [s_41_3]; decide) (by rw [s_41_3]; rfl) (by decide) ?_
      refine tq_iload 0 (dget dX7_ofMaid 39 rfl) rfl ?_
      refine tq_iconst (v := (-1)) (dget dX7_ofMaid 40 rfl) rfl ?_
      refine tq_icmp_ne (tgt := 109) (dget dX7_ofMaid 41 rfl) (by decide) (fun c_101 => ?_) (fun c_101 => ?_)
      · refine tq_iload 0 (dget dX7_ofMaid 44 rfl) rfl ?_
        exact tq_iret rfl (dget dX7_ofMaid 45 rfl) ⟨_, rfl, by simp only [cnd_t (P := hM σ (nI m)) (b_5.t c_8), nI_clamp (show m < 2 ^ 31 by omega), cnd_f (P := z = 0) s_41_0, cnd_f (P := z = 1) s_41_1, cnd_f (P := z = 2) s_41_2, cnd_t (P := z = 3) s_41_3, cnd_f c_101], rfl⟩
      · refine tq_bipush (v := (-9)) (dget dX7_ofMaid 42 rfl) rfl ?_
        refine tq_goto (tgt := 111) (dget dX7_ofMaid 43 rfl) (by decide) ?_
        exact tq_iret rfl (dget dX7_ofMaid 45 rfl) ⟨_, rfl, by simp only [cnd_t (P := hM σ (nI m)) (b_5.t c_8), nI_clamp (show m < 2 ^ 31 by omega), cnd_f (P := z = 0) s_41_0, cnd_f (P := z = 1) s_41_1, cnd_f (P := z = 2) s_41_2, cnd_t (P := z = 3) s_41_3, cnd_t c_101], rfl⟩
  · refine tq_iconst (v := (-1)) (dget dX7_ofMaid 5 rfl) rfl ?_
    exact tq_iret rfl (dget dX7_ofMaid 6 rfl) ⟨_, rfl, by simp only [cnd_f (P := hM σ x) (b_5.f c_8)], rfl⟩
set_option maxHeartbeats 4000000 in
set_option maxRecDepth 20000 in
theorem c_law (σ : Mem) (S M C : Nat) (so mo : Nat → Nat) (hV : VA σ S M) (hO : OF σ C so mo) (v : Int32) (d : Nat) (hd : 4 ≤ d) : PMet d mX7_law [.ref 0, .int v] σ (Pi (fun r σ2 => r = cnd (0 ≤ v ∧ v ≤ 9) (cnd (0 < σ 1 1) (σ 1 2) (-3)) (-2) ∧ σ2 = cnd (0 ≤ v ∧ v ≤ 9) (cnd (0 < σ 1 1) (goF (up σ 1 2 v) so mo C) σ) σ)) := by
  obtain ⟨d, rfl⟩ : ∃ e, d = e + 1 := ⟨d - 1, by omega⟩
  refine PMet.start (ls0 := [(0, .ref 0), (1, .int v)]) miX7_law.1 (Nat.le_of_ble_eq_true rfl) rfl ?_
  have hO1 := OF_up (i := 1) (k := 2) (v := v) hO (by decide) (by decide) (by decide)
  refine tq_iload_n 1 (dget dX7_law 0 rfl) rfl rfl ?_
  refine tq_if_lt (tgt := 10) (dget dX7_law 1 rfl) (by decide) (fun c_1 => ?_) (fun c_1 => ?_)
  · refine tq_bipush (v := (-2)) (dget dX7_law 5 rfl) rfl ?_
    exact tq_iret rfl (dget dX7_law 6 rfl) ⟨_, rfl, by simp only [cnd_f (P := 0 ≤ v ∧ v ≤ 9) (fun q => by first | exact absurd q.1 (Int32.not_le.mpr c_1) | exact c_7 q.2)], by simp only [cnd_f (P := 0 ≤ v ∧ v ≤ 9) (fun q => by first | exact absurd q.1 (Int32.not_le.mpr c_1) | exact c_7 q.2)]⟩
  · refine tq_iload_n 1 (dget dX7_law 2 rfl) rfl rfl ?_
    refine tq_bipush (v := 9) (dget dX7_law 3 rfl) rfl ?_
    refine tq_icmp_le (tgt := 13) (dget dX7_law 4 rfl) (by decide) (fun c_7 => ?_) (fun c_7 => ?_)
    · refine tq_aload_n 0 (dget dX7_law 7 rfl) rfl rfl ?_
      refine tq_getR (dget dX7_law 8 rfl) fX7_12 rfl rfl ?_
      refine mq_Vi (As := []) (rest := []) (dget dX7_law 9 rfl) lX7_128 miX6_stands (c_stands σ d (by omega)) rfl rfl rfl rfl (Nat.le_of_ble_eq_true rfl) (Nat.le_of_ble_eq_true rfl) (fun r_17 σ_17 h_17 => ?_)
      obtain ⟨b_17, e_17⟩ := h_17
      obtain rfl := e_17.symm
      refine tq_if_ne (tgt := 26) (dget dX7_law 10 rfl) (by decide) (fun c_20 => ?_) (fun c_20 => ?_)
      · refine tq_aload_n 0 (dget dX7_law 13 rfl) rfl rfl ?_
        refine tq_getR (dget dX7_law 14 rfl) fX7_12 rfl rfl ?_
        refine tq_getI (dget dX7_law 15 rfl) fX7_132 rfl rfl ?_
        refine tq_istore_n (ls2 := [(2, .int (σ 1 2)), (0, .ref 0), (1, .int v)]) (dget dX7_law 16 rfl) rfl (by decide) rfl ?_
        refine tq_aload_n 1 (dget dX7_law 17 rfl) rfl rfl ?_
        refine tq_getR (dget dX7_law 18 rfl) fX7_12 rfl rfl ?_
        refine tq_iload_n 2 (dget dX7_law 19 rfl) rfl rfl ?_
        refine tq_putI (dget dX7_law 20 rfl) fX7_132 rfl rfl rfl rfl ?_
        refine tq_aload_n 1 (dget dX7_law 21 rfl) rfl rfl ?_
        refine tq_getR (dget dX7_law 22 rfl) fX7_21 rfl rfl ?_
        refine tq_aload_n 1 (dget dX7_law 23 rfl) rfl rfl ?_
        refine tq_getR (dget dX7_law 24 rfl) fX7_12 rfl rfl ?_
        refine mq_Vv (As := [.ref 1]) (rest := []) (dget dX7_law 25 rfl) lX7_105 miX2_goThrough (c_goThrough (up σ 1 2 v) C so mo hO1.1 hO1.2.1 hO1.2.2 d (by omega)) rfl rfl rfl rfl (Nat.le_of_ble_eq_true rfl) (Nat.le_of_ble_eq_true rfl) (fun σ_50 h_50 => ?_)
        obtain rfl := Eq.symm h_50
        refine tq_iload_n 0 (dget dX7_law 26 rfl) rfl rfl ?_
        exact tq_iret rfl (dget dX7_law 27 rfl) ⟨_, rfl, by simp only [cnd_t (P := 0 ≤ v ∧ v ≤ 9) ⟨Int32.not_lt.mp c_1, c_7⟩, cnd_t (P := 0 < σ 1 1) (b_17.t c_20)], by simp only [cnd_t (P := 0 ≤ v ∧ v ≤ 9) ⟨Int32.not_lt.mp c_1, c_7⟩, cnd_t (P := 0 < σ 1 1) (b_17.t c_20)]⟩
      · refine tq_bipush (v := (-3)) (dget dX7_law 11 rfl) rfl ?_
        exact tq_iret rfl (dget dX7_law 12 rfl) ⟨_, rfl, by simp only [cnd_t (P := 0 ≤ v ∧ v ≤ 9) ⟨Int32.not_lt.mp c_1, c_7⟩, cnd_f (P := 0 < σ 1 1) (b_17.f c_20)], by simp only [cnd_t (P := 0 ≤ v ∧ v ≤ 9) ⟨Int32.not_lt.mp c_1, c_7⟩, cnd_f (P := 0 < σ 1 1) (b_17.f c_20)]⟩
    · refine tq_bipush (v := (-2)) (dget dX7_law 5 rfl) rfl ?_
      exact tq_iret rfl (dget dX7_law 6 rfl) ⟨_, rfl, by simp only [cnd_f (P := 0 ≤ v ∧ v ≤ 9) (fun q => by first | exact absurd q.1 (Int32.not_le.mpr c_1) | exact c_7 q.2)], by simp only [cnd_f (P := 0 ≤ v ∧ v ≤ 9) (fun q => by first | exact absurd q.1 (Int32.not_le.mpr c_1) | exact c_7 q.2)]⟩
set_option maxHeartbeats 4000000 in
set_option maxRecDepth 20000 in
theorem c_offer (σ : Mem) (S M C : Nat) (so mo : Nat → Nat) (hV : VA σ S M) (hO : OF σ C so mo) (y x : Int32) (d : Nat) (hd : 4 ≤ d) : PMet d mX7_offer [.ref 0, .int y, .int x] σ (Pi (fun r σ2 => r = cnd (hS σ y) (cnd (hM σ x) (cnd (C < 24) (nI C) (-4)) (-1)) (-1) ∧ σ2 = cnd (hS σ y) (cnd (hM σ x) (cnd (C < 24) (addF σ C (cl y) (cl x)) σ) σ) σ)) := by
  obtain ⟨d, rfl⟩ : ∃ e, d = e + 1 := ⟨d - 1, by omega⟩
  refine PMet.start (ls0 := [(0, .ref 0), (1, .int y), (2, .int x)]) miX7_offer.1 (Nat.le_of_ble_eq_true rfl) rfl ?_
  refine tq_aload_n 0 (dget dX7_offer 0 rfl) rfl rfl ?_
  refine tq_getR (dget dX7_offer 1 rfl) fX7_12 rfl rfl ?_
  refine tq_iload_n 1 (dget dX7_offer 2 rfl) rfl rfl ?_
  refine mq_Vi (As := [.int y]) (rest := []) (dget dX7_offer 3 rfl) lX7_95 miX6_hasSuitor (c_hasSuitor σ y d (by omega)) rfl rfl rfl rfl (Nat.le_of_ble_eq_true rfl) (Nat.le_of_ble_eq_true rfl) (fun r_5 σ_5 h_5 => ?_)
  obtain ⟨b_5, e_5⟩ := h_5
  obtain rfl := e_5.symm
  refine tq_if_eq (tgt := 22) (dget dX7_offer 4 rfl) (by decide) (fun c_8 => ?_) (fun c_8 => ?_)
  · refine tq_iconst (v := (-1)) (dget dX7_offer 10 rfl) rfl ?_
    exact tq_iret rfl (dget dX7_offer 11 rfl) ⟨_, rfl, by simp only [cnd_f (P := hS σ y) (b_5.f c_8)], by simp only [cnd_f (P := hS σ y) (b_5.f c_8)]⟩
  · refine tq_aload_n 0 (dget dX7_offer 5 rfl) rfl rfl ?_
    refine tq_getR (dget dX7_offer 6 rfl) fX7_12 rfl rfl ?_
    refine tq_iload_n 2 (dget dX7_offer 7 rfl) rfl rfl ?_
    refine mq_Vi (As := [.int x]) (rest := []) (dget dX7_offer 8 rfl) lX7_92 miX6_hasMaid (c_hasMaid σ x d (by omega)) rfl rfl rfl rfl (Nat.le_of_ble_eq_true rfl) (Nat.le_of_ble_eq_true rfl) (fun r_16 σ_16 h_16 => ?_)
    obtain ⟨b_16, e_16⟩ := h_16
    obtain rfl := e_16.symm
    refine tq_if_ne (tgt := 24) (dget dX7_offer 9 rfl) (by decide) (fun c_19 => ?_) (fun c_19 => ?_)
    · obtain ⟨s, e_s, hs, hs6⟩ := hS_n hV (b_5.t c_8)
      subst e_s
      obtain ⟨m, e_m, hm, hm4⟩ := hM_n hV (b_16.t c_19)
      subst e_m
      refine tq_aload_n 0 (dget dX7_offer 12 rfl) rfl rfl ?_
      refine tq_getR (dget dX7_offer 13 rfl) fX7_21 rfl rfl ?_
      refine tq_getI (dget dX7_offer 14 rfl) fX7_135 rfl rfl ?_
      refine tq_bipush (v := 24) (dget dX7_offer 15 rfl) rfl ?_
      refine tq_icmp_lt (tgt := 39) (dget dX7_offer 16 rfl) (by decide) (fun c_33 => ?_) (fun c_33 => ?_)
      · rw [hO.1] at c_33
        have g_33 : C < 24 := klt (b := 24) (by have := hO.2.1; omega) (by decide) c_33
        refine tq_aload_n 0 (dget dX7_offer 19 rfl) rfl rfl ?_
        refine tq_getR (dget dX7_offer 20 rfl) fX7_21 rfl rfl ?_
        refine tq_aload_n 0 (dget dX7_offer 21 rfl) rfl rfl ?_
        refine tq_getR (dget dX7_offer 22 rfl) fX7_12 rfl rfl ?_
        refine tq_iload_n 1 (dget dX7_offer 23 rfl) rfl rfl ?_
        refine tq_iload_n 2 (dget dX7_offer 24 rfl) rfl rfl ?_
        refine mq_Vi (As := [.ref 1, .int (nI s), .int (nI m)]) (rest := []) (dget dX7_offer 25 rfl) lX7_136 miX2_add (c_Oadd σ C s m hO.1 g_33 (by omega) (by omega) d (by omega)) rfl rfl rfl rfl (Nat.le_of_ble_eq_true rfl) (Nat.le_of_ble_eq_true rfl) (fun r_49 σ_49 h_49 => ?_)
        obtain ⟨a_49, e_49⟩ := h_49
        obtain rfl := a_49.symm
        obtain rfl := e_49.symm
        exact tq_iret rfl (dget dX7_offer 26 rfl) ⟨_, rfl, by simp only [cnd_t (P := hS σ (nI s)) (b_5.t c_8), cnd_t (P := hM σ (nI m)) (b_16.t c_19), nI_clamp (show m < 2 ^ 31 by omega), nI_clamp (show s < 2 ^ 31 by omega), cnd_t (P := C < 24) g_33], by simp only [cnd_t (P := hS σ (nI s)) (b_5.t c_8), cnd_t (P := hM σ (nI m)) (b_16.t c_19), nI_clamp (show m < 2 ^ 31 by omega), nI_clamp (show s < 2 ^ 31 by omega), cnd_t (P := C < 24) g_33]⟩
      · rw [hO.1] at c_33
        have g_33 : ¬ C < 24 := Nat.not_lt.mpr (knlt (b := 24) (by have := hO.2.1; omega) (by decide) c_33)
        refine tq_bipush (v := (-4)) (dget dX7_offer 17 rfl) rfl ?_
        exact tq_iret rfl (dget dX7_offer 18 rfl) ⟨_, rfl, by simp only [cnd_t (P := hS σ (nI s)) (b_5.t c_8), cnd_t (P := hM σ (nI m)) (b_16.t c_19), nI_clamp (show m < 2 ^ 31 by omega), nI_clamp (show s < 2 ^ 31 by omega), cnd_f (P := C < 24) g_33], by simp only [cnd_t (P := hS σ (nI s)) (b_5.t c_8), cnd_t (P := hM σ (nI m)) (b_16.t c_19), nI_clamp (show m < 2 ^ 31 by omega), nI_clamp (show s < 2 ^ 31 by omega), cnd_f (P := C < 24) g_33]⟩
    · refine tq_iconst (v := (-1)) (dget dX7_offer 10 rfl) rfl ?_
      exact tq_iret rfl (dget dX7_offer 11 rfl) ⟨_, rfl, by simp only [cnd_t (P := hS σ y) (b_5.t c_8), cnd_f (P := hM σ x) (b_16.f c_19)], by simp only [cnd_t (P := hS σ y) (b_5.t c_8), cnd_f (P := hM σ x) (b_16.f c_19)]⟩
theorem kC_n {x : Int32} {C : Nat} (hC : C < 2 ^ 31) (h1 : 0 ≤ x) (h2 : x < nI C) : ∃ k, x = nI k ∧ k < C := by
  obtain ⟨j, e, _, h3⟩ := dig (a := 0) (b := C) (by decide) hC h1 h2
  exact ⟨j, e, h3⟩
theorem kC_n2 {x : Int32} {C : Nat} (hC : C < 2 ^ 30) (h1 : 0 ≤ x) (h2 : x ≤ nI C) : ∃ k, x = nI k ∧ k ≤ C := by
  have h0 : ¬ x < 0 := Int32.not_lt.mpr h1
  obtain ⟨j, hj, rfl⟩ := nI_of h0
  exact ⟨j, rfl, kle hj (by omega) h2⟩

set_option maxHeartbeats 4000000 in
set_option maxRecDepth 20000 in
theorem c_comes (σ : Mem) (S M C : Nat) (so mo : Nat → Nat) (hV : VA σ S M) (hO : OF σ C so mo) (x : Int32) (d : Nat) (hd : 0 ≤ d) : PMet d mX7_comes [.ref 0, .int x] σ (Pi (fun r σ2 => r = cnd (0 ≤ x ∧ x < σ 13 4) (σ 16 (cl x)) (-1) ∧ σ2 = σ)) := by
  refine PMet.start (ls0 := [(0, .ref 0), (1, .int x)]) miX7_comes.1 (Nat.le_of_ble_eq_true rfl) rfl ?_
  have hC8 := hO.2.1
  refine tq_iload_n 1 (dget dX7_comes 0 rfl) rfl rfl ?_
  refine tq_if_lt (tgt := 15) (dget dX7_comes 1 rfl) (by decide) (fun c_1 => ?_) (fun c_1 => ?_)
  · refine tq_iconst (v := (-1)) (dget dX7_comes 7 rfl) rfl ?_
    exact tq_iret rfl (dget dX7_comes 8 rfl) ⟨_, rfl, by simp only [cnd_f (P := 0 ≤ x ∧ x < σ 13 4) (fun q => by first | exact absurd q.1 (Int32.not_le.mpr c_1) | exact c_12 q.2)], rfl⟩
  · refine tq_iload_n 1 (dget dX7_comes 2 rfl) rfl rfl ?_
    refine tq_aload_n 0 (dget dX7_comes 3 rfl) rfl rfl ?_
    refine tq_getR (dget dX7_comes 4 rfl) fX7_21 rfl rfl ?_
    refine tq_getI (dget dX7_comes 5 rfl) fX7_135 rfl rfl ?_
    refine tq_icmp_lt (tgt := 17) (dget dX7_comes 6 rfl) (by decide) (fun c_12 => ?_) (fun c_12 => ?_)
    · obtain ⟨k, e_k, hk⟩ := kC_n (C := C) (by omega) (Int32.not_lt.mp c_1) (by rw [← hO.1]; exact c_12)
      subst e_k
      refine tq_aload_n 0 (dget dX7_comes 9 rfl) rfl rfl ?_
      refine tq_getR (dget dX7_comes 10 rfl) fX7_21 rfl rfl ?_
      refine tq_getR (dget dX7_comes 11 rfl) fX7_140 rfl rfl ?_
      refine tq_iload_n 1 (dget dX7_comes 12 rfl) rfl rfl ?_
      refine tq_ialdN k (dget dX7_comes 13 rfl) rfl (by decide) rfl (by omega) ?_
      exact tq_iret rfl (dget dX7_comes 14 rfl) ⟨_, rfl, by simp only [cnd_t (P := 0 ≤ nI k ∧ nI k < σ 13 4) ⟨Int32.not_lt.mp c_1, c_12⟩, nI_clamp (show k < 2 ^ 31 by omega)], rfl⟩
    · refine tq_iconst (v := (-1)) (dget dX7_comes 7 rfl) rfl ?_
      exact tq_iret rfl (dget dX7_comes 8 rfl) ⟨_, rfl, by simp only [cnd_f (P := 0 ≤ x ∧ x < σ 13 4) (fun q => by first | exact absurd q.1 (Int32.not_le.mpr c_1) | exact c_12 q.2)], rfl⟩
set_option maxHeartbeats 4000000 in
set_option maxRecDepth 20000 in
theorem c_undo (σ : Mem) (S M C : Nat) (so mo : Nat → Nat) (hV : VA σ S M) (hO : OF σ C so mo) (x : Int32) (d : Nat) (hd : 4 ≤ d) : PMet d mX7_undo [.ref 0, .int x] σ (Pi (fun r σ2 => r = cnd (0 ≤ x ∧ x ≤ nI C) (nI (C - cl x)) (-2) ∧ σ2 = cnd (0 ≤ x ∧ x ≤ nI C) (goF (up σ 13 4 (nI (C - cl x))) so mo (C - cl x)) σ)) := by
  obtain ⟨d, rfl⟩ : ∃ e, d = e + 1 := ⟨d - 1, by omega⟩
  refine PMet.start (ls0 := [(0, .ref 0), (1, .int x)]) miX7_undo.1 (Nat.le_of_ble_eq_true rfl) rfl ?_
  have hC8 := hO.2.1
  refine tq_iload_n 1 (dget dX7_undo 0 rfl) rfl rfl ?_
  refine tq_if_lt (tgt := 15) (dget dX7_undo 1 rfl) (by decide) (fun c_1 => ?_) (fun c_1 => ?_)
  · refine tq_bipush (v := (-2)) (dget dX7_undo 7 rfl) rfl ?_
    exact tq_iret rfl (dget dX7_undo 8 rfl) ⟨_, rfl, by simp only [cnd_f (P := 0 ≤ x ∧ x ≤ nI C) (fun q => by first | exact absurd q.1 (Int32.not_le.mpr c_1) | exact absurd (by rw [hO.1]; exact q.2) c_12)], by simp only [cnd_f (P := 0 ≤ x ∧ x ≤ nI C) (fun q => by first | exact absurd q.1 (Int32.not_le.mpr c_1) | exact absurd (by rw [hO.1]; exact q.2) c_12)]⟩
  · refine tq_iload_n 1 (dget dX7_undo 2 rfl) rfl rfl ?_
    refine tq_aload_n 0 (dget dX7_undo 3 rfl) rfl rfl ?_
    refine tq_getR (dget dX7_undo 4 rfl) fX7_21 rfl rfl ?_
    refine tq_getI (dget dX7_undo 5 rfl) fX7_135 rfl rfl ?_
    refine tq_icmp_le (tgt := 18) (dget dX7_undo 6 rfl) (by decide) (fun c_12 => ?_) (fun c_12 => ?_)
    · obtain ⟨k, e_k, hk⟩ := kC_n2 (C := C) (by omega) (Int32.not_lt.mp c_1) (by rw [← hO.1]; exact c_12)
      subst e_k
      refine tq_aload_n 0 (dget dX7_undo 9 rfl) rfl rfl ?_
      refine tq_getR (dget dX7_undo 10 rfl) fX7_21 rfl rfl ?_
      refine tq_dup (dget dX7_undo 11 rfl) rfl ?_
      refine tq_getI (dget dX7_undo 12 rfl) fX7_135 rfl rfl ?_
      refine tq_iload_n 1 (dget dX7_undo 13 rfl) rfl rfl ?_
      refine tq_isub (dget dX7_undo 14 rfl) ?_
      refine tq_eqi (y := (nI (C - k))) (by rw [hO.1]; exact nI_subN hk) ?_
      refine tq_putI (dget dX7_undo 15 rfl) fX7_135 rfl rfl rfl rfl ?_
      refine tq_aload_n 0 (dget dX7_undo 16 rfl) rfl rfl ?_
      refine tq_getR (dget dX7_undo 17 rfl) fX7_21 rfl rfl ?_
      refine tq_aload_n 0 (dget dX7_undo 18 rfl) rfl rfl ?_
      refine tq_getR (dget dX7_undo 19 rfl) fX7_12 rfl rfl ?_
      refine mq_Vv (As := [.ref 1]) (rest := []) (dget dX7_undo 20 rfl) lX7_105 miX2_goThrough (c_goThrough (up σ 13 4 (nI (C - k))) (C - k) so mo up_s (by omega) (fun j hj => by rw [up_row (by decide), up_row (by decide)]; exact hO.2.2 j (by omega)) d (by omega)) rfl rfl rfl rfl (Nat.le_of_ble_eq_true rfl) (Nat.le_of_ble_eq_true rfl) (fun σ_39 h_39 => ?_)
      obtain rfl := Eq.symm h_39
      refine tq_aload_n 0 (dget dX7_undo 21 rfl) rfl rfl ?_
      refine tq_getR (dget dX7_undo 22 rfl) fX7_21 rfl rfl ?_
      refine tq_getI (dget dX7_undo 23 rfl) fX7_135 rfl rfl ?_
      refine tq_eqi (y := (nI (C - k))) ((congrFun (goF_row (up σ 13 4 (nI (C - k))) so mo (a := 13) (by decide) (by decide) (by decide) (by decide) (C - k)) 4).trans up_s) ?_
      exact tq_iret rfl (dget dX7_undo 24 rfl) ⟨_, rfl, by simp only [cnd_t (P := 0 ≤ nI k ∧ nI k ≤ nI C) ⟨Int32.not_lt.mp c_1, by rw [← hO.1]; exact c_12⟩, nI_clamp (show k < 2 ^ 31 by omega)], by simp only [cnd_t (P := 0 ≤ nI k ∧ nI k ≤ nI C) ⟨Int32.not_lt.mp c_1, by rw [← hO.1]; exact c_12⟩, nI_clamp (show k < 2 ^ 31 by omega)]⟩
    · refine tq_bipush (v := (-2)) (dget dX7_undo 7 rfl) rfl ?_
      exact tq_iret rfl (dget dX7_undo 8 rfl) ⟨_, rfl, by simp only [cnd_f (P := 0 ≤ x ∧ x ≤ nI C) (fun q => by first | exact absurd q.1 (Int32.not_le.mpr c_1) | exact absurd (by rw [hO.1]; exact q.2) c_12)], by simp only [cnd_f (P := 0 ≤ x ∧ x ≤ nI C) (fun q => by first | exact absurd q.1 (Int32.not_le.mpr c_1) | exact absurd (by rw [hO.1]; exact q.2) c_12)]⟩
def prF (f : Nat → Int32) (S : Nat) : Nat → Int64
  | 0 => 0
  | j + 1 => prF f S j * 10 + (figF (f (S - 1 - j))).toInt64

set_option maxHeartbeats 4000000 in
set_option maxRecDepth 20000 in
theorem c_pairs_loop (σ : Mem) (S M : Nat) (hV : VA σ S M) (hst : 0 < σ 1 1) (d : Nat) (hd : 1 ≤ d) : ∀ (n : Nat) (k : Nat) (hm : k < n) (hk : k ≤ S), PAt (EM d (Pl (fun v σ2 => v = cnd (0 < σ 1 1) (prF (σ 20) S S) (-9223372036854775808) ∧ σ2 = σ))) mX7_pairs 26 [(3, .int (nI k - 1)), (1, .long (prF (σ 20) S (S - k))), (0, .ref 0)] [] σ := by
  obtain ⟨d, rfl⟩ : ∃ e, d = e + 1 := ⟨d - 1, by omega⟩
  intro n
  induction n with
  | zero => intro k hm hk; exact absurd hm (by omega)
  | succ n ih =>
    intro k hm hk
    have v3 := hV.2.2.1
    refine tq_iload_n 0 (dget dX7_pairs 14 rfl) rfl rfl ?_
    refine tq_if_lt (tgt := 59) (dget dX7_pairs 15 rfl) (by decide) (fun c_27 => ?_) (fun c_27 => ?_)
    · have g_27 : k = 0 := by by_cases z : k = 0; exact z; exact absurd c_27 (by obtain ⟨j, rfl⟩ : ∃ j, k = j + 1 := ⟨k - 1, by omega⟩; rw [nI_pred]; exact nI_pos (by omega))
      refine tq_lload_n 1 (dget dX7_pairs 31 rfl) rfl rfl ?_
      exact tq_lret rfl (dget dX7_pairs 32 rfl) ⟨_, rfl, by simp only [cnd_t hst, g_27, Nat.sub_zero], rfl⟩
    · have g_27 : ¬ k = 0 := fun z => c_27 (by rw [z]; decide)
      obtain ⟨j0, rfl⟩ : ∃ j, k = j + 1 := ⟨k - 1, by omega⟩
      refine tq_sub [0, 1, 2] (ls' := [(3, .int (nI j0)), (1, .long (prF (σ 20) S (S - (j0 + 1)))), (0, .ref 0)]) (by rw [nI_pred]; rfl) ?_
      refine tq_lload_n 1 (dget dX7_pairs 16 rfl) rfl rfl ?_
      refine tq_ldc2 (v := 10) (dget dX7_pairs 17 rfl) (tblG_2 111 rfl rfl) ?_
      refine tq_lmul (dget dX7_pairs 18 rfl) ?_
      refine tq_aload_n 2 (dget dX7_pairs 19 rfl) rfl rfl ?_
      refine tq_getR (dget dX7_pairs 20 rfl) fX7_21 rfl rfl ?_
      refine tq_getR (dget dX7_pairs 21 rfl) fX7_109 rfl rfl ?_
      refine tq_getR (dget dX7_pairs 22 rfl) fX7_150 rfl rfl ?_
      refine tq_iload_n 0 (dget dX7_pairs 23 rfl) rfl rfl ?_
      refine tq_ialdN j0 (dget dX7_pairs 24 rfl) rfl (by decide) rfl (by omega) ?_
      refine mq_Si (As := [.int (σ 20 j0)]) (rest := [.long ((prF (σ 20) S (S - (j0 + 1))) * 10)]) (dget dX7_pairs 25 rfl) lX7_153 miX7_figure (c_figure σ (σ 20 j0) d (by omega)) rfl rfl (Nat.le_of_ble_eq_true rfl) (Nat.le_of_ble_eq_true rfl) (fun r_47 σ_47 h_47 => ?_)
      obtain ⟨a_47, e_47⟩ := h_47
      obtain rfl := a_47.symm
      obtain rfl := e_47.symm
      refine tq_i2l (dget dX7_pairs 26 rfl) ?_
      refine tq_ladd (dget dX7_pairs 27 rfl) ?_
      refine tq_lstore_n (ls2 := [(1, .long (((prF (σ 20) S (S - (j0 + 1))) * 10) + ((figF (σ 20 j0))).toInt64)), (3, .int (nI j0)), (0, .ref 0)]) (dget dX7_pairs 28 rfl) rfl (by decide) rfl ?_
      refine tq_iinc (v := ((nI j0) + (-1))) (ls2 := [(3, .int ((nI j0) + (-1))), (1, .long (((prF (σ 20) S (S - (j0 + 1))) * 10) + ((figF (σ 20 j0))).toInt64)), (0, .ref 0)]) 1 (dget dX7_pairs 29 rfl) rfl rfl (by decide) rfl ?_
      refine tq_goto (tgt := 26) (dget dX7_pairs 30 rfl) (by decide) ?_
      refine tq_sub [0, 1, 2] (ls' := [(3, .int ((nI j0) + (-1))), (1, .long (((prF (σ 20) S (S - (j0 + 1))) * 10) + ((figF (σ 20 j0))).toInt64)), (0, .ref 0)]) rfl ?_
      rw [show nI j0 + -1 = nI j0 - 1 from (Int32.sub_eq_add_neg _ _).symm]
      rw [show prF (σ 20) S (S - (j0 + 1)) * 10 + (figF (σ 20 j0)).toInt64 = prF (σ 20) S (S - j0) by rw [show S - j0 = (S - (j0 + 1)) + 1 by omega, prF, show S - 1 - (S - (j0 + 1)) = j0 by omega]]
      exact ih j0 (by omega) (by omega)
set_option maxHeartbeats 4000000 in
set_option maxRecDepth 20000 in
theorem c_pairs (σ : Mem) (S M : Nat) (hV : VA σ S M) (d : Nat) (hd : 1 ≤ d) : PMet d mX7_pairs [.ref 0] σ (Pl (fun v σ2 => v = cnd (0 < σ 1 1) (prF (σ 20) S S) (-9223372036854775808) ∧ σ2 = σ)) := by
  obtain ⟨d, rfl⟩ : ∃ e, d = e + 1 := ⟨d - 1, by omega⟩
  refine PMet.start (ls0 := [(0, .ref 0)]) miX7_pairs.1 (Nat.le_of_ble_eq_true rfl) rfl ?_
  refine tq_aload_n 0 (dget dX7_pairs 0 rfl) rfl rfl ?_
  refine tq_getR (dget dX7_pairs 1 rfl) fX7_12 rfl rfl ?_
  refine mq_Vi (As := []) (rest := []) (dget dX7_pairs 2 rfl) lX7_128 miX6_stands (c_stands σ d (by omega)) rfl rfl rfl rfl (Nat.le_of_ble_eq_true rfl) (Nat.le_of_ble_eq_true rfl) (fun r_4 σ_4 h_4 => ?_)
  obtain ⟨b_4, e_4⟩ := h_4
  obtain rfl := e_4.symm
  refine tq_if_ne (tgt := 14) (dget dX7_pairs 3 rfl) (by decide) (fun c_7 => ?_) (fun c_7 => ?_)
  · refine tq_lconst (v := 0) (dget dX7_pairs 6 rfl) rfl ?_
    refine tq_lstore_n (ls2 := [(1, .long 0), (0, .ref 0)]) (dget dX7_pairs 7 rfl) rfl (by decide) rfl ?_
    refine tq_aload_n 1 (dget dX7_pairs 8 rfl) rfl rfl ?_
    refine tq_getR (dget dX7_pairs 9 rfl) fX7_12 rfl rfl ?_
    refine tq_getI (dget dX7_pairs 10 rfl) fX7_145 rfl rfl ?_
    refine tq_iconst (v := 1) (dget dX7_pairs 11 rfl) rfl ?_
    refine tq_isub (dget dX7_pairs 12 rfl) ?_
    refine tq_istore_n (ls2 := [(3, .int ((σ 1 0) - 1)), (1, .long 0), (0, .ref 0)]) (dget dX7_pairs 13 rfl) rfl (by decide) rfl ?_
    refine tq_sub [0, 1, 2] (ls' := [(3, .int ((σ 1 0) - 1)), (1, .long 0), (0, .ref 0)]) rfl ?_
    rw [hV.1, show (0 : Int64) = prF (σ 20) S (S - S) by rw [Nat.sub_self]; rfl]
    exact c_pairs_loop σ S M hV (b_4.t c_7) (d + 1) (by omega) (S + 1) S (by omega) (Nat.le_refl _)
  · refine tq_ldc2 (v := (-9223372036854775808)) (dget dX7_pairs 4 rfl) (tblG_2 110 rfl rfl) ?_
    exact tq_lret rfl (dget dX7_pairs 5 rfl) ⟨_, rfl, by simp only [cnd_f (P := 0 < σ 1 1) (b_4.f c_7)], rfl⟩
end
section
/-! ===== the class's public calls (3): one maid, matches, worth, what is learnt ===== -/
theorem nI_nm1 {s : Nat} (h : s < 2 ^ 31) : ¬ nI s = -1 := fun e => by
  have h2 := nI_pos h
  rw [e] at h2
  exact h2 (by decide)
theorem gdF_pos : ∀ (n a b : Nat), 0 < a → 0 < gdF n a b
  | 0, a, b, h => h
  | n + 1, a, b, h => by
    unfold gdF
    split
    · exact h
    · exact gdF_pos n b (a % b) (by omega)
theorem gdF_pos2 {n a b : Nat} (h : 0 < b) : 0 < gdF (n + 1) a b := by
  unfold gdF
  rw [if_neg (by omega)]
  exact gdF_pos n b (a % b) h
noncomputable def lsR (P : Nat → Prop) : Nat → Nat → Int32
  | 0, _ => -9
  | n + 1, k => cnd (P k) (nI k) (lsR P n (k + 1))
noncomputable def gsR (P : Nat → Prop) : Nat → Int32
  | 0 => -9
  | n + 1 => cnd (P n) (nI n) (gsR P n)
theorem lsR_t {P : Nat → Prop} {j : Nat} : ∀ (n k : Nat), k ≤ j → j < k + n → P j → (∀ i, k ≤ i → i < j → ¬ P i) → lsR P n k = nI j
  | 0, k, h1, h2, _, _ => by omega
  | n + 1, k, h1, h2, h3, h4 => by
    unfold lsR
    by_cases e : k = j
    · subst e; exact cnd_t h3 _ _
    · rw [cnd_f (h4 k (Nat.le_refl _) (by omega))]
      exact lsR_t n (k + 1) (by omega) (by omega) h3 (fun i h5 h6 => h4 i (by omega) h6)
theorem lsR_0 {P : Nat → Prop} : ∀ (n k : Nat), (∀ i, k ≤ i → i < k + n → ¬ P i) → lsR P n k = -9
  | 0, k, _ => rfl
  | n + 1, k, h => by
    unfold lsR
    rw [cnd_f (h k (Nat.le_refl _) (by omega))]
    exact lsR_0 n (k + 1) (fun i h1 h2 => h i (by omega) (by omega))
theorem ll_eq {P : Nat → Prop} {v : Int32} (h : llP P v) : v = lsR P 10 0 := by
  rcases h with ⟨k, h1, rfl, h2, h3⟩ | ⟨rfl, h1⟩
  · exact (lsR_t 10 0 (Nat.zero_le _) (by omega) h2 (fun i _ h5 => h3 i h5)).symm
  · exact (lsR_0 10 0 (fun i _ h5 => h1 i (by omega))).symm
theorem gsR_t {P : Nat → Prop} {j : Nat} : ∀ (n : Nat), j < n → P j → (∀ i, j < i → i < n → ¬ P i) → gsR P n = nI j
  | 0, h, _, _ => by omega
  | n + 1, h1, h2, h3 => by
    unfold gsR
    by_cases e : n = j
    · subst e; exact cnd_t h2 _ _
    · rw [cnd_f (h3 n (by omega) (by omega))]
      exact gsR_t n (by omega) h2 (fun i h5 h6 => h3 i h5 (by omega))
theorem gsR_0 {P : Nat → Prop} : ∀ (n : Nat), (∀ i, i < n → ¬ P i) → gsR P n = -9
  | 0, _ => rfl
  | n + 1, h => by
    unfold gsR
    rw [cnd_f (h n (by omega))]
    exact gsR_0 n (fun i h1 => h i (by omega))
theorem gl_eq {P : Nat → Prop} {v : Int32} (h : glP P v) : v = gsR P 10 := by
  rcases h with ⟨k, h1, rfl, h2, h3⟩ | ⟨rfl, h1⟩
  · exact (gsR_t 10 h1 h2 h3).symm
  · exact (gsR_0 10 h1).symm
def brS (σ : Mem) (S m told : Nat) : Nat → Prop := fun set => brP (σ 1 2) (σ 2 m) (fun s => σ (4 + m) s) S told set
noncomputable def firmM (σ : Mem) (S M : Nat) : Mem := mfP S M S (up (begF 27 σ) 26 2 0)
noncomputable def brgP (σ : Mem) (S M : Nat) : Int32 × Mem := bfP S M S (begF 27 σ)
def herN (σ : Mem) (m : Nat) : Nat → Nat := fun s => cl (σ (4 + m) s)
def lkOK (σ : Mem) (S M : Nat) : Prop := ∀ m, m < M → ∀ s, s < S → ∃ j, j ≤ 9 ∧ σ (4 + m) s = nI j
theorem herN_ok {σ : Mem} {S M m : Nat} (h : lkOK σ S M) (hm : m < M) : ∀ s, s < S → σ (4 + m) s = nI (herN σ m s) ∧ herN σ m s ≤ 9 := by
  intro s hs
  obtain ⟨j, h1, h2⟩ := h m hm s hs
  unfold herN
  have e : cl (nI j) = j := nI_clamp (by omega)
  rw [h2, e]
  exact ⟨rfl, h1⟩

set_option maxHeartbeats 4000000 in
set_option maxRecDepth 20000 in
theorem c_sent (σ : Mem) (S M : Nat) (hV : VA σ S M) (x y : Int32) (d : Nat) (hd : 4 ≤ d) : PMet d mX7_sent [.ref 0, .int x, .int y] σ (Pi (fun v σ2 => v = cnd (hM σ x) (cnd (hS σ y) (fwV (fwF (brS σ S (cl x) (cl y)) (cl y) (2 ^ S))) (-1)) (-1) ∧ σ2 = σ)) := by
  obtain ⟨d, rfl⟩ : ∃ e, d = e + 1 := ⟨d - 1, by omega⟩
  refine PMet.start (ls0 := [(0, .ref 0), (1, .int x), (2, .int y)]) miX7_sent.1 (Nat.le_of_ble_eq_true rfl) rfl ?_
  refine tq_aload_n 0 (dget dX7_sent 0 rfl) rfl rfl ?_
  refine tq_getR (dget dX7_sent 1 rfl) fX7_12 rfl rfl ?_
  refine tq_iload_n 1 (dget dX7_sent 2 rfl) rfl rfl ?_
  refine mq_Vi (As := [.int x]) (rest := []) (dget dX7_sent 3 rfl) lX7_92 miX6_hasMaid (c_hasMaid σ x d (by omega)) rfl rfl rfl rfl (Nat.le_of_ble_eq_true rfl) (Nat.le_of_ble_eq_true rfl) (fun r_5 σ_5 h_5 => ?_)
  obtain ⟨b_5, e_5⟩ := h_5
  obtain rfl := e_5.symm
  refine tq_if_eq (tgt := 22) (dget dX7_sent 4 rfl) (by decide) (fun c_8 => ?_) (fun c_8 => ?_)
  · refine tq_iconst (v := (-1)) (dget dX7_sent 10 rfl) rfl ?_
    exact tq_iret rfl (dget dX7_sent 11 rfl) ⟨_, rfl, by simp only [cnd_f (P := hM σ x) (b_5.f c_8)]; try rfl, rfl⟩
  · refine tq_aload_n 0 (dget dX7_sent 5 rfl) rfl rfl ?_
    refine tq_getR (dget dX7_sent 6 rfl) fX7_12 rfl rfl ?_
    refine tq_iload_n 2 (dget dX7_sent 7 rfl) rfl rfl ?_
    refine mq_Vi (As := [.int y]) (rest := []) (dget dX7_sent 8 rfl) lX7_95 miX6_hasSuitor (c_hasSuitor σ y d (by omega)) rfl rfl rfl rfl (Nat.le_of_ble_eq_true rfl) (Nat.le_of_ble_eq_true rfl) (fun r_16 σ_16 h_16 => ?_)
    obtain ⟨b_16, e_16⟩ := h_16
    obtain rfl := e_16.symm
    refine tq_if_ne (tgt := 24) (dget dX7_sent 9 rfl) (by decide) (fun c_19 => ?_) (fun c_19 => ?_)
    · obtain ⟨m, e_m, hm, hm4⟩ := hM_n hV (b_5.t c_8)
      subst e_m
      obtain ⟨s, e_s, hs, hs6⟩ := hS_n hV (b_16.t c_19)
      subst e_s
      refine tq_aload_n 0 (dget dX7_sent 12 rfl) rfl rfl ?_
      refine tq_getR (dget dX7_sent 13 rfl) fX7_12 rfl rfl ?_
      refine tq_iload_n 1 (dget dX7_sent 14 rfl) rfl rfl ?_
      refine tq_iload_n 2 (dget dX7_sent 15 rfl) rfl rfl ?_
      refine mq_Vi (As := [.int (nI m), .int (nI s)]) (rest := []) (dget dX7_sent 16 rfl) lX7_167 miX6_fewestAhead (c_fewestAhead σ S M m s hV hm4 hs6 d (by omega)) rfl rfl rfl rfl (Nat.le_of_ble_eq_true rfl) (Nat.le_of_ble_eq_true rfl) (fun r_30 σ_30 h_30 => ?_)
      obtain ⟨a_30, e_30⟩ := h_30
      obtain rfl := a_30.symm
      obtain rfl := e_30.symm
      exact tq_iret rfl (dget dX7_sent 17 rfl) ⟨_, rfl, by simp only [cnd_t (P := hM σ (nI m)) (b_5.t c_8), cnd_t (P := hS σ (nI s)) (b_16.t c_19), nI_clamp (show m < 2 ^ 31 by omega), nI_clamp (show s < 2 ^ 31 by omega)]; try rfl, rfl⟩
    · refine tq_iconst (v := (-1)) (dget dX7_sent 10 rfl) rfl ?_
      exact tq_iret rfl (dget dX7_sent 11 rfl) ⟨_, rfl, by simp only [cnd_t (P := hM σ x) (b_5.t c_8), cnd_f (P := hS σ y) (b_16.f c_19)]; try rfl, rfl⟩
set_option maxHeartbeats 4000000 in
set_option maxRecDepth 20000 in
theorem c_firm (σ : Mem) (S M : Nat) (hV : VA σ S M) (y : Int32) (d : Nat) (hd : 11 ≤ d) : PMet d mX7_firm [.ref 0, .int y] σ (Pi (fun v σ2 => v = cnd (y = -1 ∨ hS σ y) (cnd (0 < σ 1 1) (cnd (y = -1) (firmM σ S M 26 2) (figF (firmM σ S M 31 (cl y)))) (-3)) (-1) ∧ σ2 = cnd (y = -1 ∨ hS σ y) (cnd (0 < σ 1 1) (firmM σ S M) σ) σ)) := by
  obtain ⟨d, rfl⟩ : ∃ e, d = e + 1 := ⟨d - 1, by omega⟩
  refine PMet.start (ls0 := [(0, .ref 0), (1, .int y)]) miX7_firm.1 (Nat.le_of_ble_eq_true rfl) rfl ?_
  refine tq_iload_n 1 (dget dX7_firm 0 rfl) rfl rfl ?_
  refine tq_iconst (v := (-1)) (dget dX7_firm 1 rfl) rfl ?_
  refine tq_icmp_eq (tgt := 18) (dget dX7_firm 2 rfl) (by decide) (fun c_2 => ?_) (fun c_2 => ?_)
  · refine tq_aload_n 0 (dget dX7_firm 10 rfl) rfl rfl ?_
    refine tq_getR (dget dX7_firm 11 rfl) fX7_12 rfl rfl ?_
    refine mq_Vi (As := []) (rest := []) (dget dX7_firm 12 rfl) lX7_128 miX6_stands (c_stands σ d (by omega)) rfl rfl rfl rfl (Nat.le_of_ble_eq_true rfl) (Nat.le_of_ble_eq_true rfl) (fun r_22 σ_22 h_22 => ?_)
    obtain ⟨b_22, e_22⟩ := h_22
    obtain rfl := e_22.symm
    refine tq_if_ne (tgt := 31) (dget dX7_firm 13 rfl) (by decide) (fun c_25 => ?_) (fun c_25 => ?_)
    · refine tq_aload_n 0 (dget dX7_firm 16 rfl) rfl rfl ?_
      refine tq_getR (dget dX7_firm 17 rfl) fX7_35 rfl rfl ?_
      refine tq_aload_n 0 (dget dX7_firm 18 rfl) rfl rfl ?_
      refine tq_getR (dget dX7_firm 19 rfl) fX7_12 rfl rfl ?_
      refine mq_Vi (As := [.ref 1]) (rest := []) (dget dX7_firm 20 rfl) lX7_170 miX1_countFirm (c_countFirm σ S M hV d (by omega)) rfl rfl rfl rfl (Nat.le_of_ble_eq_true rfl) (Nat.le_of_ble_eq_true rfl) (fun r_39 σ_39 h_39 => ?_)
      obtain ⟨e_39, a_39⟩ := h_39
      change σ_39 = firmM σ S M at e_39
      rw [a_39]
      obtain rfl := e_39.symm
      refine tq_istore_n (ls2 := [(2, .int (firmM σ S M 26 2)), (0, .ref 0), (1, .int y)]) (dget dX7_firm 21 rfl) rfl (by decide) rfl ?_
      refine tq_iload_n 2 (dget dX7_firm 22 rfl) rfl rfl ?_
      refine tq_iconst (v := (-1)) (dget dX7_firm 23 rfl) rfl ?_
      refine tq_icmp_ne (tgt := 52) (dget dX7_firm 24 rfl) (by decide) (fun c_45 => ?_) (fun c_45 => ?_)
      · exact absurd c_2 c_45
      · refine tq_iload_n 0 (dget dX7_firm 25 rfl) rfl rfl ?_
        refine tq_goto (tgt := 64) (dget dX7_firm 26 rfl) (by decide) ?_
        exact tq_iret rfl (dget dX7_firm 33 rfl) ⟨_, rfl, by simp only [cnd_t (P := y = -1 ∨ hS σ y) (Or.inl c_2), cnd_t (P := 0 < σ 1 1) (b_22.t c_25), cnd_t c_2], by simp only [cnd_t (P := y = -1 ∨ hS σ y) (Or.inl c_2), cnd_t (P := 0 < σ 1 1) (b_22.t c_25), cnd_t c_2]⟩
    · refine tq_bipush (v := (-3)) (dget dX7_firm 14 rfl) rfl ?_
      exact tq_iret rfl (dget dX7_firm 15 rfl) ⟨_, rfl, by simp only [cnd_t (P := y = -1 ∨ hS σ y) (Or.inl c_2), cnd_f (P := 0 < σ 1 1) (b_22.f c_25)], by simp only [cnd_t (P := y = -1 ∨ hS σ y) (Or.inl c_2), cnd_f (P := 0 < σ 1 1) (b_22.f c_25)]⟩
  · refine tq_aload_n 0 (dget dX7_firm 3 rfl) rfl rfl ?_
    refine tq_getR (dget dX7_firm 4 rfl) fX7_12 rfl rfl ?_
    refine tq_iload_n 1 (dget dX7_firm 5 rfl) rfl rfl ?_
    refine mq_Vi (As := [.int y]) (rest := []) (dget dX7_firm 6 rfl) lX7_95 miX6_hasSuitor (c_hasSuitor σ y d (by omega)) rfl rfl rfl rfl (Nat.le_of_ble_eq_true rfl) (Nat.le_of_ble_eq_true rfl) (fun r_10 σ_10 h_10 => ?_)
    obtain ⟨b_10, e_10⟩ := h_10
    obtain rfl := e_10.symm
    refine tq_if_ne (tgt := 18) (dget dX7_firm 7 rfl) (by decide) (fun c_13 => ?_) (fun c_13 => ?_)
    · obtain ⟨s, e_s, hs, hs6⟩ := hS_n hV (b_10.t c_13)
      subst e_s
      refine tq_aload_n 0 (dget dX7_firm 10 rfl) rfl rfl ?_
      refine tq_getR (dget dX7_firm 11 rfl) fX7_12 rfl rfl ?_
      refine mq_Vi (As := []) (rest := []) (dget dX7_firm 12 rfl) lX7_128 miX6_stands (c_stands σ d (by omega)) rfl rfl rfl rfl (Nat.le_of_ble_eq_true rfl) (Nat.le_of_ble_eq_true rfl) (fun r_22 σ_22 h_22 => ?_)
      obtain ⟨b_22, e_22⟩ := h_22
      obtain rfl := e_22.symm
      refine tq_if_ne (tgt := 31) (dget dX7_firm 13 rfl) (by decide) (fun c_25 => ?_) (fun c_25 => ?_)
      · refine tq_aload_n 0 (dget dX7_firm 16 rfl) rfl rfl ?_
        refine tq_getR (dget dX7_firm 17 rfl) fX7_35 rfl rfl ?_
        refine tq_aload_n 0 (dget dX7_firm 18 rfl) rfl rfl ?_
        refine tq_getR (dget dX7_firm 19 rfl) fX7_12 rfl rfl ?_
        refine mq_Vi (As := [.ref 1]) (rest := []) (dget dX7_firm 20 rfl) lX7_170 miX1_countFirm (c_countFirm σ S M hV d (by omega)) rfl rfl rfl rfl (Nat.le_of_ble_eq_true rfl) (Nat.le_of_ble_eq_true rfl) (fun r_39 σ_39 h_39 => ?_)
        obtain ⟨e_39, a_39⟩ := h_39
        change σ_39 = firmM σ S M at e_39
        rw [a_39]
        obtain rfl := e_39.symm
        refine tq_istore_n (ls2 := [(2, .int (firmM σ S M 26 2)), (0, .ref 0), (1, .int (nI s))]) (dget dX7_firm 21 rfl) rfl (by decide) rfl ?_
        refine tq_iload_n 2 (dget dX7_firm 22 rfl) rfl rfl ?_
        refine tq_iconst (v := (-1)) (dget dX7_firm 23 rfl) rfl ?_
        refine tq_icmp_ne (tgt := 52) (dget dX7_firm 24 rfl) (by decide) (fun c_45 => ?_) (fun c_45 => ?_)
        · refine tq_aload_n 1 (dget dX7_firm 27 rfl) rfl rfl ?_
          refine tq_getR (dget dX7_firm 28 rfl) fX7_35 rfl rfl ?_
          refine tq_getR (dget dX7_firm 29 rfl) fX7_174 rfl rfl ?_
          refine tq_iload_n 2 (dget dX7_firm 30 rfl) rfl rfl ?_
          refine tq_ialdN s (dget dX7_firm 31 rfl) rfl (by decide) rfl (by omega) ?_
          refine mq_Si (As := [.int ((firmM σ S M) 31 s)]) (rest := []) (dget dX7_firm 32 rfl) lX7_153 miX7_figure (c_figure (firmM σ S M) ((firmM σ S M) 31 s) d (by omega)) rfl rfl (Nat.le_of_ble_eq_true rfl) (Nat.le_of_ble_eq_true rfl) (fun r_61 σ_61 h_61 => ?_)
          obtain ⟨a_61, e_61⟩ := h_61
          obtain rfl := a_61.symm
          obtain rfl := e_61.symm
          exact tq_iret rfl (dget dX7_firm 33 rfl) ⟨_, rfl, by simp only [cnd_t (P := nI s = -1 ∨ hS σ (nI s)) (Or.inr (b_10.t c_13)), nI_clamp (show s < 2 ^ 31 by omega), cnd_t (P := 0 < σ 1 1) (b_22.t c_25), cnd_f c_45], by simp only [cnd_t (P := nI s = -1 ∨ hS σ (nI s)) (Or.inr (b_10.t c_13)), nI_clamp (show s < 2 ^ 31 by omega), cnd_t (P := 0 < σ 1 1) (b_22.t c_25), cnd_f c_45]⟩
        · exact absurd c_45 (nI_nm1 (by omega))
      · refine tq_bipush (v := (-3)) (dget dX7_firm 14 rfl) rfl ?_
        exact tq_iret rfl (dget dX7_firm 15 rfl) ⟨_, rfl, by simp only [cnd_t (P := nI s = -1 ∨ hS σ (nI s)) (Or.inr (b_10.t c_13)), nI_clamp (show s < 2 ^ 31 by omega), cnd_f (P := 0 < σ 1 1) (b_22.f c_25)], by simp only [cnd_t (P := nI s = -1 ∨ hS σ (nI s)) (Or.inr (b_10.t c_13)), nI_clamp (show s < 2 ^ 31 by omega), cnd_f (P := 0 < σ 1 1) (b_22.f c_25)]⟩
    · refine tq_iconst (v := (-1)) (dget dX7_firm 8 rfl) rfl ?_
      exact tq_iret rfl (dget dX7_firm 9 rfl) ⟨_, rfl, by simp only [cnd_f (P := y = -1 ∨ hS σ y) (fun q => q.elim c_2 (b_10.f c_13))], by simp only [cnd_f (P := y = -1 ∨ hS σ y) (fun q => q.elim c_2 (b_10.f c_13))]⟩
set_option maxHeartbeats 4000000 in
set_option maxRecDepth 20000 in
theorem c_brought (σ : Mem) (S M : Nat) (hV : VA σ S M) (d : Nat) (hd : 11 ≤ d) : PMet d mX7_brought [.ref 0] σ (Pi (fun v σ2 => v = cnd (0 < σ 1 1) (brgP σ S M).1 (-3) ∧ σ2 = cnd (0 < σ 1 1) (brgP σ S M).2 σ)) := by
  obtain ⟨d, rfl⟩ : ∃ e, d = e + 1 := ⟨d - 1, by omega⟩
  refine PMet.start (ls0 := [(0, .ref 0)]) miX7_brought.1 (Nat.le_of_ble_eq_true rfl) rfl ?_
  refine tq_aload_n 0 (dget dX7_brought 0 rfl) rfl rfl ?_
  refine tq_getR (dget dX7_brought 1 rfl) fX7_12 rfl rfl ?_
  refine mq_Vi (As := []) (rest := []) (dget dX7_brought 2 rfl) lX7_128 miX6_stands (c_stands σ d (by omega)) rfl rfl rfl rfl (Nat.le_of_ble_eq_true rfl) (Nat.le_of_ble_eq_true rfl) (fun r_4 σ_4 h_4 => ?_)
  obtain ⟨b_4, e_4⟩ := h_4
  obtain rfl := e_4.symm
  refine tq_if_ne (tgt := 13) (dget dX7_brought 3 rfl) (by decide) (fun c_7 => ?_) (fun c_7 => ?_)
  · refine tq_aload_n 0 (dget dX7_brought 6 rfl) rfl rfl ?_
    refine tq_getR (dget dX7_brought 7 rfl) fX7_35 rfl rfl ?_
    refine tq_aload_n 0 (dget dX7_brought 8 rfl) rfl rfl ?_
    refine tq_getR (dget dX7_brought 9 rfl) fX7_12 rfl rfl ?_
    refine mq_Vi (As := [.ref 1]) (rest := []) (dget dX7_brought 10 rfl) lX7_177 miX1_countBringing (c_countBringing σ S M hV d (by omega)) rfl rfl rfl rfl (Nat.le_of_ble_eq_true rfl) (Nat.le_of_ble_eq_true rfl) (fun r_21 σ_21 h_21 => ?_)
    obtain ⟨a_21, e_21⟩ := h_21
    obtain rfl := a_21.symm
    obtain rfl := e_21.symm
    exact tq_iret rfl (dget dX7_brought 11 rfl) ⟨_, rfl, by simp only [cnd_t (P := 0 < σ 1 1) (b_4.t c_7)]; rfl, by simp only [cnd_t (P := 0 < σ 1 1) (b_4.t c_7)]; rfl⟩
  · refine tq_bipush (v := (-3)) (dget dX7_brought 4 rfl) rfl ?_
    exact tq_iret rfl (dget dX7_brought 5 rfl) ⟨_, rfl, by simp only [cnd_f (P := 0 < σ 1 1) (b_4.f c_7)], by simp only [cnd_f (P := 0 < σ 1 1) (b_4.f c_7)]⟩
theorem gdF_le : ∀ (n a b : Nat), gdF n a b ≤ a + b
  | 0, a, b => Nat.le_add_right a b
  | n + 1, a, b => by
    unfold gdF
    split
    · omega
    · have h1 := gdF_le n b (a % b)
      have h2 := Nat.mod_le a b
      omega

set_option maxHeartbeats 4000000 in
set_option maxRecDepth 20000 in
theorem c_worth (σ : Mem) (S M : Nat) (hV : VA σ S M) (hL : lkOK σ S M) (hSp : 0 < M → 0 < S) (x n r z : Int32) (d : Nat) (hd : 3 ≤ d) : PMet d mX7_worth [.ref 0, .int x, .int n, .int r, .int z] σ (Pl (fun v σ2 => v = cnd (hM σ x) (cnd (1 ≤ n ∧ n ≤ 4 ∧ 0 ≤ r ∧ r ≤ 3 ∧ (z = 0 ∨ z = 1)) (cnd (z = 0) (lN (sorF (herN σ (cl x)) S (cl n) (cl r) (cl n) / gdF 50 (sorF (herN σ (cl x)) S (cl n) (cl r) (cl n)) (S ^ cl n))) (lN (S ^ cl n / gdF 50 (sorF (herN σ (cl x)) S (cl n) (cl r) (cl n)) (S ^ cl n)))) (-9223372036854775808)) (-9223372036854775808) ∧ σ2 = σ)) := by
  obtain ⟨d, rfl⟩ : ∃ e, d = e + 1 := ⟨d - 1, by omega⟩
  refine PMet.start (ls0 := [(0, .ref 0), (1, .int x), (2, .int n), (3, .int r), (4, .int z)]) miX7_worth.1 (Nat.le_of_ble_eq_true rfl) rfl ?_
  refine tq_aload_n 0 (dget dX7_worth 0 rfl) rfl rfl ?_
  refine tq_getR (dget dX7_worth 1 rfl) fX7_12 rfl rfl ?_
  refine tq_iload_n 1 (dget dX7_worth 2 rfl) rfl rfl ?_
  refine mq_Vi (As := [.int x]) (rest := []) (dget dX7_worth 3 rfl) lX7_92 miX6_hasMaid (c_hasMaid σ x d (by omega)) rfl rfl rfl rfl (Nat.le_of_ble_eq_true rfl) (Nat.le_of_ble_eq_true rfl) (fun r_5 σ_5 h_5 => ?_)
  obtain ⟨b_5, e_5⟩ := h_5
  obtain rfl := e_5.symm
  refine tq_if_ne (tgt := 15) (dget dX7_worth 4 rfl) (by decide) (fun c_8 => ?_) (fun c_8 => ?_)
  · refine tq_iload_n 2 (dget dX7_worth 7 rfl) rfl rfl ?_
    refine tq_iconst (v := 1) (dget dX7_worth 8 rfl) rfl ?_
    refine tq_icmp_lt (tgt := 45) (dget dX7_worth 9 rfl) (by decide) (fun c_17 => ?_) (fun c_17 => ?_)
    · refine tq_ldc2 (v := (-9223372036854775808)) (dget dX7_worth 23 rfl) (tblG_2 110 rfl rfl) ?_
      exact tq_lret rfl (dget dX7_worth 24 rfl) ⟨_, rfl, by simp only [cnd_t (P := hM σ x) (b_5.t c_8), cnd_f (P := 1 ≤ n ∧ n ≤ 4 ∧ 0 ≤ r ∧ r ≤ 3 ∧ (z = 0 ∨ z = 1)) (fun q => by first | exact absurd q.1 (Int32.not_le.mpr c_17) | exact absurd q.2.1 (Int32.not_le.mpr c_22) | exact absurd q.2.2.1 (Int32.not_le.mpr c_26) | exact absurd q.2.2.2.1 (Int32.not_le.mpr c_31) | exact q.2.2.2.2.elim c_36 c_42)], rfl⟩
    · refine tq_iload_n 2 (dget dX7_worth 10 rfl) rfl rfl ?_
      refine tq_iconst (v := 4) (dget dX7_worth 11 rfl) rfl ?_
      refine tq_icmp_gt (tgt := 45) (dget dX7_worth 12 rfl) (by decide) (fun c_22 => ?_) (fun c_22 => ?_)
      · refine tq_ldc2 (v := (-9223372036854775808)) (dget dX7_worth 23 rfl) (tblG_2 110 rfl rfl) ?_
        exact tq_lret rfl (dget dX7_worth 24 rfl) ⟨_, rfl, by simp only [cnd_t (P := hM σ x) (b_5.t c_8), cnd_f (P := 1 ≤ n ∧ n ≤ 4 ∧ 0 ≤ r ∧ r ≤ 3 ∧ (z = 0 ∨ z = 1)) (fun q => by first | exact absurd q.1 (Int32.not_le.mpr c_17) | exact absurd q.2.1 (Int32.not_le.mpr c_22) | exact absurd q.2.2.1 (Int32.not_le.mpr c_26) | exact absurd q.2.2.2.1 (Int32.not_le.mpr c_31) | exact q.2.2.2.2.elim c_36 c_42)], rfl⟩
      · refine tq_iload_n 3 (dget dX7_worth 13 rfl) rfl rfl ?_
        refine tq_if_lt (tgt := 45) (dget dX7_worth 14 rfl) (by decide) (fun c_26 => ?_) (fun c_26 => ?_)
        · refine tq_ldc2 (v := (-9223372036854775808)) (dget dX7_worth 23 rfl) (tblG_2 110 rfl rfl) ?_
          exact tq_lret rfl (dget dX7_worth 24 rfl) ⟨_, rfl, by simp only [cnd_t (P := hM σ x) (b_5.t c_8), cnd_f (P := 1 ≤ n ∧ n ≤ 4 ∧ 0 ≤ r ∧ r ≤ 3 ∧ (z = 0 ∨ z = 1)) (fun q => by first | exact absurd q.1 (Int32.not_le.mpr c_17) | exact absurd q.2.1 (Int32.not_le.mpr c_22) | exact absurd q.2.2.1 (Int32.not_le.mpr c_26) | exact absurd q.2.2.2.1 (Int32.not_le.mpr c_31) | exact q.2.2.2.2.elim c_36 c_42)], rfl⟩
        · refine tq_iload_n 3 (dget dX7_worth 15 rfl) rfl rfl ?_
          refine tq_iconst (v := 3) (dget dX7_worth 16 rfl) rfl ?_
          refine tq_icmp_gt (tgt := 45) (dget dX7_worth 17 rfl) (by decide) (fun c_31 => ?_) (fun c_31 => ?_)
          · refine tq_ldc2 (v := (-9223372036854775808)) (dget dX7_worth 23 rfl) (tblG_2 110 rfl rfl) ?_
            exact tq_lret rfl (dget dX7_worth 24 rfl) ⟨_, rfl, by simp only [cnd_t (P := hM σ x) (b_5.t c_8), cnd_f (P := 1 ≤ n ∧ n ≤ 4 ∧ 0 ≤ r ∧ r ≤ 3 ∧ (z = 0 ∨ z = 1)) (fun q => by first | exact absurd q.1 (Int32.not_le.mpr c_17) | exact absurd q.2.1 (Int32.not_le.mpr c_22) | exact absurd q.2.2.1 (Int32.not_le.mpr c_26) | exact absurd q.2.2.2.1 (Int32.not_le.mpr c_31) | exact q.2.2.2.2.elim c_36 c_42)], rfl⟩
          · refine tq_iload 4 (dget dX7_worth 18 rfl) rfl ?_
            refine tq_if_eq (tgt := 49) (dget dX7_worth 19 rfl) (by decide) (fun c_36 => ?_) (fun c_36 => ?_)
            · obtain ⟨m, e_m, hm, hm4⟩ := hM_n hV (b_5.t c_8)
              subst e_m
              have hS1 := hSp (by omega)
              have v3 := hV.2.2.1
              obtain ⟨N, e_N, hN1, hN5⟩ := dig (a := 1) (b := 5) (c := n) (by decide) (by decide) (Int32.not_lt.mp c_17) (Int32.lt_of_le_of_lt (Int32.not_lt.mp c_22) (by decide))
              subst e_N
              obtain ⟨q, e_q, hq0, hq4⟩ := dig (a := 0) (b := 4) (c := r) (by decide) (by decide) (Int32.not_lt.mp c_26) (Int32.lt_of_le_of_lt (Int32.not_lt.mp c_31) (by decide))
              subst e_q
              have hh := herN_ok hL hm
              have hp6 := pow6 (k := N) v3 (by omega)
              have hp1 : 0 < S ^ N := Nat.pow_pos hS1
              have hso := sorF_le (herN σ m) S N q (fun s hs => (hh s hs).2) N
              have hg : 0 < gdF 50 (sorF (herN σ m) S N q N) (S ^ N) := gdF_pos2 (n := 49) hp1
              have hgl := gdF_le 50 (sorF (herN σ m) S N q N) (S ^ N)
              refine tq_aload_n 0 (dget dX7_worth 25 rfl) rfl rfl ?_
              refine tq_getR (dget dX7_worth 26 rfl) fX7_12 rfl rfl ?_
              refine tq_iload_n 2 (dget dX7_worth 27 rfl) rfl rfl ?_
              refine mq_Vi (As := [.int (nI N)]) (rest := []) (dget dX7_worth 28 rfl) lX7_180 miX6_rowsOf (c_rowsOf σ S M N hV (by omega) d (by omega)) rfl rfl rfl rfl (Nat.le_of_ble_eq_true rfl) (Nat.le_of_ble_eq_true rfl) (fun r_54 σ_54 h_54 => ?_)
              obtain ⟨a_54, e_54⟩ := h_54
              obtain rfl := a_54.symm
              obtain rfl := e_54.symm
              refine tq_istore (ls2 := [(5, .int (nI (S ^ N))), (0, .ref 0), (1, .int (nI m)), (2, .int (nI N)), (3, .int (nI q)), (4, .int z)]) (dget dX7_worth 29 rfl) (by decide) rfl ?_
              refine tq_aload_n 1 (dget dX7_worth 30 rfl) rfl rfl ?_
              refine tq_getR (dget dX7_worth 31 rfl) fX7_12 rfl rfl ?_
              refine tq_iload_n 2 (dget dX7_worth 32 rfl) rfl rfl ?_
              refine tq_iload_n 3 (dget dX7_worth 33 rfl) rfl rfl ?_
              refine tq_iload_n 4 (dget dX7_worth 34 rfl) rfl rfl ?_
              refine mq_Vi (As := [.int (nI m), .int (nI N), .int (nI q)]) (rest := []) (dget dX7_worth 35 rfl) lX7_183 miX6_sumOverRows (c_sumOverRows σ S M m N q (herN σ m) hV hm4 hh (by omega) (by omega) d (by omega)) rfl rfl rfl rfl (Nat.le_of_ble_eq_true rfl) (Nat.le_of_ble_eq_true rfl) (fun r_66 σ_66 h_66 => ?_)
              obtain ⟨a_66, e_66⟩ := h_66
              obtain rfl := a_66.symm
              obtain rfl := e_66.symm
              refine tq_istore (ls2 := [(6, .int (nI (sorF (herN σ m) S N q N))), (5, .int (nI (S ^ N))), (0, .ref 0), (1, .int (nI m)), (2, .int (nI N)), (3, .int (nI q)), (4, .int z)]) (dget dX7_worth 36 rfl) (by decide) rfl ?_
              refine tq_iload 0 (dget dX7_worth 37 rfl) rfl ?_
              refine tq_iload 1 (dget dX7_worth 38 rfl) rfl ?_
              refine mq_Si (As := [.int (nI (sorF (herN σ m) S N q N)), .int (nI (S ^ N))]) (rest := []) (dget dX7_worth 39 rfl) lX7_186 miX7_greatestDivisor (c_gd σ (sorF (herN σ m) S N q N) (S ^ N) (by omega) (by omega) d (by omega)) rfl rfl (Nat.le_of_ble_eq_true rfl) (Nat.le_of_ble_eq_true rfl) (fun r_75 σ_75 h_75 => ?_)
              obtain ⟨a_75, e_75⟩ := h_75
              obtain rfl := a_75.symm
              obtain rfl := e_75.symm
              refine tq_istore (ls2 := [(7, .int (nI (gdF 50 (sorF (herN σ m) S N q N) (S ^ N)))), (6, .int (nI (sorF (herN σ m) S N q N))), (5, .int (nI (S ^ N))), (0, .ref 0), (1, .int (nI m)), (2, .int (nI N)), (3, .int (nI q)), (4, .int z)]) (dget dX7_worth 40 rfl) (by decide) rfl ?_
              refine tq_iload 0 (dget dX7_worth 41 rfl) rfl ?_
              refine tq_if_gt (tgt := 89) (dget dX7_worth 42 rfl) (by decide) (fun c_82 => ?_) (fun c_82 => ?_)
              · refine tq_iload 7 (dget dX7_worth 45 rfl) rfl ?_
                refine tq_if_ne (tgt := 103) (dget dX7_worth 46 rfl) (by decide) (fun c_91 => ?_) (fun c_91 => ?_)
                · exact absurd c_36 c_91
                · refine tq_iload 1 (dget dX7_worth 47 rfl) rfl ?_
                  refine tq_iload 0 (dget dX7_worth 48 rfl) rfl ?_
                  refine tq_idiv (dget dX7_worth 49 rfl) (fun e => nI_ne0 hg (by omega) e) ?_
                  refine tq_eqi (y := (nI (sorF (herN σ m) S N q N / (gdF 50 (sorF (herN σ m) S N q N) (S ^ N))))) (nI_divN (by omega) (by omega)) ?_
                  refine tq_i2l (dget dX7_worth 50 rfl) ?_
                  refine tq_goto (tgt := 109) (dget dX7_worth 51 rfl) (by decide) ?_
                  rw [nI_l (Nat.lt_of_le_of_lt (Nat.div_le_self _ _) (by omega))]
                  exact tq_lret rfl (dget dX7_worth 56 rfl) ⟨_, rfl, by simp only [cnd_t (P := hM σ (nI m)) (b_5.t c_8), cnd_t (P := 1 ≤ nI N ∧ nI N ≤ 4 ∧ 0 ≤ nI q ∧ nI q ≤ 3 ∧ (z = 0 ∨ z = 1)) ⟨Int32.not_lt.mp c_17, Int32.not_lt.mp c_22, Int32.not_lt.mp c_26, Int32.not_lt.mp c_31, Or.inl c_36⟩, nI_clamp (show m < 2 ^ 31 by omega), nI_clamp (show N < 2 ^ 31 by omega), nI_clamp (show q < 2 ^ 31 by omega), cnd_t c_91], rfl⟩
              · exact absurd (show (0 : Int32) < nI (gdF 50 (sorF (herN σ m) S N q N) (S ^ N)) from nI_lt (a := 0) hg (by omega)) c_82
            · refine tq_iload 4 (dget dX7_worth 20 rfl) rfl ?_
              refine tq_iconst (v := 1) (dget dX7_worth 21 rfl) rfl ?_
              refine tq_icmp_eq (tgt := 49) (dget dX7_worth 22 rfl) (by decide) (fun c_42 => ?_) (fun c_42 => ?_)
              · obtain ⟨m, e_m, hm, hm4⟩ := hM_n hV (b_5.t c_8)
                subst e_m
                have hS1 := hSp (by omega)
                have v3 := hV.2.2.1
                obtain ⟨N, e_N, hN1, hN5⟩ := dig (a := 1) (b := 5) (c := n) (by decide) (by decide) (Int32.not_lt.mp c_17) (Int32.lt_of_le_of_lt (Int32.not_lt.mp c_22) (by decide))
                subst e_N
                obtain ⟨q, e_q, hq0, hq4⟩ := dig (a := 0) (b := 4) (c := r) (by decide) (by decide) (Int32.not_lt.mp c_26) (Int32.lt_of_le_of_lt (Int32.not_lt.mp c_31) (by decide))
                subst e_q
                have hh := herN_ok hL hm
                have hp6 := pow6 (k := N) v3 (by omega)
                have hp1 : 0 < S ^ N := Nat.pow_pos hS1
                have hso := sorF_le (herN σ m) S N q (fun s hs => (hh s hs).2) N
                have hg : 0 < gdF 50 (sorF (herN σ m) S N q N) (S ^ N) := gdF_pos2 (n := 49) hp1
                have hgl := gdF_le 50 (sorF (herN σ m) S N q N) (S ^ N)
                refine tq_aload_n 0 (dget dX7_worth 25 rfl) rfl rfl ?_
                refine tq_getR (dget dX7_worth 26 rfl) fX7_12 rfl rfl ?_
                refine tq_iload_n 2 (dget dX7_worth 27 rfl) rfl rfl ?_
                refine mq_Vi (As := [.int (nI N)]) (rest := []) (dget dX7_worth 28 rfl) lX7_180 miX6_rowsOf (c_rowsOf σ S M N hV (by omega) d (by omega)) rfl rfl rfl rfl (Nat.le_of_ble_eq_true rfl) (Nat.le_of_ble_eq_true rfl) (fun r_54 σ_54 h_54 => ?_)
                obtain ⟨a_54, e_54⟩ := h_54
                obtain rfl := a_54.symm
                obtain rfl := e_54.symm
                refine tq_istore (ls2 := [(5, .int (nI (S ^ N))), (0, .ref 0), (1, .int (nI m)), (2, .int (nI N)), (3, .int (nI q)), (4, .int z)]) (dget dX7_worth 29 rfl) (by decide) rfl ?_
                refine tq_aload_n 1 (dget dX7_worth 30 rfl) rfl rfl ?_
                refine tq_getR (dget dX7_worth 31 rfl) fX7_12 rfl rfl ?_
                refine tq_iload_n 2 (dget dX7_worth 32 rfl) rfl rfl ?_
                refine tq_iload_n 3 (dget dX7_worth 33 rfl) rfl rfl ?_
                refine tq_iload_n 4 (dget dX7_worth 34 rfl) rfl rfl ?_
                refine mq_Vi (As := [.int (nI m), .int (nI N), .int (nI q)]) (rest := []) (dget dX7_worth 35 rfl) lX7_183 miX6_sumOverRows (c_sumOverRows σ S M m N q (herN σ m) hV hm4 hh (by omega) (by omega) d (by omega)) rfl rfl rfl rfl (Nat.le_of_ble_eq_true rfl) (Nat.le_of_ble_eq_true rfl) (fun r_66 σ_66 h_66 => ?_)
                obtain ⟨a_66, e_66⟩ := h_66
                obtain rfl := a_66.symm
                obtain rfl := e_66.symm
                refine tq_istore (ls2 := [(6, .int (nI (sorF (herN σ m) S N q N))), (5, .int (nI (S ^ N))), (0, .ref 0), (1, .int (nI m)), (2, .int (nI N)), (3, .int (nI q)), (4, .int z)]) (dget dX7_worth 36 rfl) (by decide) rfl ?_
                refine tq_iload 0 (dget dX7_worth 37 rfl) rfl ?_
                refine tq_iload 1 (dget dX7_worth 38 rfl) rfl ?_
                refine mq_Si (As := [.int (nI (sorF (herN σ m) S N q N)), .int (nI (S ^ N))]) (rest := []) (dget dX7_worth 39 rfl) lX7_186 miX7_greatestDivisor (c_gd σ (sorF (herN σ m) S N q N) (S ^ N) (by omega) (by omega) d (by omega)) rfl rfl (Nat.le_of_ble_eq_true rfl) (Nat.le_of_ble_eq_true rfl) (fun r_75 σ_75 h_75 => ?_)
                obtain ⟨a_75, e_75⟩ := h_75
                obtain rfl := a_75.symm
                obtain rfl := e_75.symm
                refine tq_istore (ls2 := [(7, .int (nI (gdF 50 (sorF (herN σ m) S N q N) (S ^ N)))), (6, .int (nI (sorF (herN σ m) S N q N))), (5, .int (nI (S ^ N))), (0, .ref 0), (1, .int (nI m)), (2, .int (nI N)), (3, .int (nI q)), (4, .int z)]) (dget dX7_worth 40 rfl) (by decide) rfl ?_
                refine tq_iload 0 (dget dX7_worth 41 rfl) rfl ?_
                refine tq_if_gt (tgt := 89) (dget dX7_worth 42 rfl) (by decide) (fun c_82 => ?_) (fun c_82 => ?_)
                · refine tq_iload 7 (dget dX7_worth 45 rfl) rfl ?_
                  refine tq_if_ne (tgt := 103) (dget dX7_worth 46 rfl) (by decide) (fun c_91 => ?_) (fun c_91 => ?_)
                  · refine tq_iload 2 (dget dX7_worth 52 rfl) rfl ?_
                    refine tq_iload 0 (dget dX7_worth 53 rfl) rfl ?_
                    refine tq_idiv (dget dX7_worth 54 rfl) (fun e => nI_ne0 hg (by omega) e) ?_
                    refine tq_eqi (y := (nI (S ^ N / (gdF 50 (sorF (herN σ m) S N q N) (S ^ N))))) (nI_divN (by omega) (by omega)) ?_
                    refine tq_i2l (dget dX7_worth 55 rfl) ?_
                    rw [nI_l (Nat.lt_of_le_of_lt (Nat.div_le_self _ _) (by omega))]
                    exact tq_lret rfl (dget dX7_worth 56 rfl) ⟨_, rfl, by simp only [cnd_t (P := hM σ (nI m)) (b_5.t c_8), cnd_t (P := 1 ≤ nI N ∧ nI N ≤ 4 ∧ 0 ≤ nI q ∧ nI q ≤ 3 ∧ (z = 0 ∨ z = 1)) ⟨Int32.not_lt.mp c_17, Int32.not_lt.mp c_22, Int32.not_lt.mp c_26, Int32.not_lt.mp c_31, Or.inr c_42⟩, nI_clamp (show m < 2 ^ 31 by omega), nI_clamp (show N < 2 ^ 31 by omega), nI_clamp (show q < 2 ^ 31 by omega), cnd_f c_91], rfl⟩
                  · exact absurd c_91 c_36
                · exact absurd (show (0 : Int32) < nI (gdF 50 (sorF (herN σ m) S N q N) (S ^ N)) from nI_lt (a := 0) hg (by omega)) c_82
              · refine tq_ldc2 (v := (-9223372036854775808)) (dget dX7_worth 23 rfl) (tblG_2 110 rfl rfl) ?_
                exact tq_lret rfl (dget dX7_worth 24 rfl) ⟨_, rfl, by simp only [cnd_t (P := hM σ x) (b_5.t c_8), cnd_f (P := 1 ≤ n ∧ n ≤ 4 ∧ 0 ≤ r ∧ r ≤ 3 ∧ (z = 0 ∨ z = 1)) (fun q => by first | exact absurd q.1 (Int32.not_le.mpr c_17) | exact absurd q.2.1 (Int32.not_le.mpr c_22) | exact absurd q.2.2.1 (Int32.not_le.mpr c_26) | exact absurd q.2.2.2.1 (Int32.not_le.mpr c_31) | exact q.2.2.2.2.elim c_36 c_42)], rfl⟩
  · refine tq_ldc2 (v := (-9223372036854775808)) (dget dX7_worth 5 rfl) (tblG_2 110 rfl rfl) ?_
    exact tq_lret rfl (dget dX7_worth 6 rfl) ⟨_, rfl, by simp only [cnd_f (P := hM σ x) (b_5.f c_8)], rfl⟩
set_option maxHeartbeats 4000000 in
set_option maxRecDepth 20000 in
theorem c_reading (σ : Mem) (S M R : Nat) (rs : Nat → Nat) (hV : VA σ S M) (hR : RD σ R rs) (x y r t : Int32) (d : Nat) (hd : 1 ≤ d) : PMet d mX7_reading [.ref 0, .int x, .int y, .int r, .int t] σ (Pi (fun v σ2 => v = cnd (hM σ x) (cnd (hS σ y) (cnd (0 ≤ r ∧ r ≤ 9) (cnd (R < 8) (nI R) (-4)) (-2)) (-1)) (-1) ∧ σ2 = cnd (hM σ x) (cnd (hS σ y) (cnd (0 ≤ r ∧ r ≤ 9) (cnd (R < 8) (up (up (up (up (up σ 22 R (nI (cl x))) 23 R (nI (cl y))) 24 R r) 25 R (vp_nar .boolean t)) 21 4 (nI (R + 1))) σ) σ) σ) σ)) := by
  obtain ⟨d, rfl⟩ : ∃ e, d = e + 1 := ⟨d - 1, by omega⟩
  refine PMet.start (ls0 := [(0, .ref 0), (1, .int x), (2, .int y), (3, .int r), (4, .int t)]) miX7_reading.1 (Nat.le_of_ble_eq_true rfl) rfl ?_
  refine tq_aload_n 0 (dget dX7_reading 0 rfl) rfl rfl ?_
  refine tq_getR (dget dX7_reading 1 rfl) fX7_12 rfl rfl ?_
  refine tq_iload_n 1 (dget dX7_reading 2 rfl) rfl rfl ?_
  refine mq_Vi (As := [.int x]) (rest := []) (dget dX7_reading 3 rfl) lX7_92 miX6_hasMaid (c_hasMaid σ x d (by omega)) rfl rfl rfl rfl (Nat.le_of_ble_eq_true rfl) (Nat.le_of_ble_eq_true rfl) (fun r_5 σ_5 h_5 => ?_)
  obtain ⟨b_5, e_5⟩ := h_5
  obtain rfl := e_5.symm
  refine tq_if_eq (tgt := 22) (dget dX7_reading 4 rfl) (by decide) (fun c_8 => ?_) (fun c_8 => ?_)
  · refine tq_iconst (v := (-1)) (dget dX7_reading 10 rfl) rfl ?_
    exact tq_iret rfl (dget dX7_reading 11 rfl) ⟨_, rfl, by simp only [cnd_f (P := hM σ x) (b_5.f c_8)], by simp only [cnd_f (P := hM σ x) (b_5.f c_8)]⟩
  · refine tq_aload_n 0 (dget dX7_reading 5 rfl) rfl rfl ?_
    refine tq_getR (dget dX7_reading 6 rfl) fX7_12 rfl rfl ?_
    refine tq_iload_n 2 (dget dX7_reading 7 rfl) rfl rfl ?_
    refine mq_Vi (As := [.int y]) (rest := []) (dget dX7_reading 8 rfl) lX7_95 miX6_hasSuitor (c_hasSuitor σ y d (by omega)) rfl rfl rfl rfl (Nat.le_of_ble_eq_true rfl) (Nat.le_of_ble_eq_true rfl) (fun r_16 σ_16 h_16 => ?_)
    obtain ⟨b_16, e_16⟩ := h_16
    obtain rfl := e_16.symm
    refine tq_if_ne (tgt := 24) (dget dX7_reading 9 rfl) (by decide) (fun c_19 => ?_) (fun c_19 => ?_)
    · obtain ⟨m, e_m, hm, hm4⟩ := hM_n hV (b_5.t c_8)
      subst e_m
      obtain ⟨s, e_s, hs, hs6⟩ := hS_n hV (b_16.t c_19)
      subst e_s
      refine tq_iload_n 3 (dget dX7_reading 12 rfl) rfl rfl ?_
      refine tq_if_lt (tgt := 34) (dget dX7_reading 13 rfl) (by decide) (fun c_25 => ?_) (fun c_25 => ?_)
      · refine tq_bipush (v := (-2)) (dget dX7_reading 17 rfl) rfl ?_
        exact tq_iret rfl (dget dX7_reading 18 rfl) ⟨_, rfl, by simp only [cnd_t (P := hM σ (nI m)) (b_5.t c_8), cnd_t (P := hS σ (nI s)) (b_16.t c_19), nI_clamp (show m < 2 ^ 31 by omega), nI_clamp (show s < 2 ^ 31 by omega), cnd_f (P := 0 ≤ r ∧ r ≤ 9) (fun q => by first | exact absurd q.1 (Int32.not_le.mpr c_25) | exact c_31 q.2)], by simp only [cnd_t (P := hM σ (nI m)) (b_5.t c_8), cnd_t (P := hS σ (nI s)) (b_16.t c_19), nI_clamp (show m < 2 ^ 31 by omega), nI_clamp (show s < 2 ^ 31 by omega), cnd_f (P := 0 ≤ r ∧ r ≤ 9) (fun q => by first | exact absurd q.1 (Int32.not_le.mpr c_25) | exact c_31 q.2)]⟩
      · refine tq_iload_n 3 (dget dX7_reading 14 rfl) rfl rfl ?_
        refine tq_bipush (v := 9) (dget dX7_reading 15 rfl) rfl ?_
        refine tq_icmp_le (tgt := 37) (dget dX7_reading 16 rfl) (by decide) (fun c_31 => ?_) (fun c_31 => ?_)
        · refine tq_aload_n 0 (dget dX7_reading 19 rfl) rfl rfl ?_
          refine tq_getR (dget dX7_reading 20 rfl) fX7_28 rfl rfl ?_
          refine tq_getI (dget dX7_reading 21 rfl) fX7_85 rfl rfl ?_
          refine tq_bipush (v := 8) (dget dX7_reading 22 rfl) rfl ?_
          refine tq_icmp_lt (tgt := 52) (dget dX7_reading 23 rfl) (by decide) (fun c_46 => ?_) (fun c_46 => ?_)
          · rw [hR.1] at c_46
            have g_46 : R < 8 := klt (b := 8) (by have := hR.2.1; omega) (by decide) c_46
            refine tq_aload_n 0 (dget dX7_reading 26 rfl) rfl rfl ?_
            refine tq_getR (dget dX7_reading 27 rfl) fX7_28 rfl rfl ?_
            refine tq_iload_n 1 (dget dX7_reading 28 rfl) rfl rfl ?_
            refine tq_iload_n 2 (dget dX7_reading 29 rfl) rfl rfl ?_
            refine tq_iload_n 3 (dget dX7_reading 30 rfl) rfl rfl ?_
            refine tq_iload 4 (dget dX7_reading 31 rfl) rfl ?_
            refine mq_Vi (As := [.int (nI m), .int (nI s), .int r, .int t]) (rest := []) (dget dX7_reading 32 rfl) lX7_189 miX3_add (c_Radd σ R (nI m) (nI s) r t hR.1 g_46 d (by omega)) rfl rfl rfl rfl (Nat.le_of_ble_eq_true rfl) (Nat.le_of_ble_eq_true rfl) (fun r_61 σ_61 h_61 => ?_)
            obtain ⟨a_61, e_61⟩ := h_61
            obtain rfl := a_61.symm
            obtain rfl := e_61.symm
            exact tq_iret rfl (dget dX7_reading 33 rfl) ⟨_, rfl, by simp only [cnd_t (P := hM σ (nI m)) (b_5.t c_8), cnd_t (P := hS σ (nI s)) (b_16.t c_19), nI_clamp (show m < 2 ^ 31 by omega), nI_clamp (show s < 2 ^ 31 by omega), cnd_t (P := 0 ≤ r ∧ r ≤ 9) ⟨Int32.not_lt.mp c_25, c_31⟩, cnd_t (P := R < 8) g_46], by simp only [cnd_t (P := hM σ (nI m)) (b_5.t c_8), cnd_t (P := hS σ (nI s)) (b_16.t c_19), nI_clamp (show m < 2 ^ 31 by omega), nI_clamp (show s < 2 ^ 31 by omega), cnd_t (P := 0 ≤ r ∧ r ≤ 9) ⟨Int32.not_lt.mp c_25, c_31⟩, cnd_t (P := R < 8) g_46]⟩
          · rw [hR.1] at c_46
            have g_46 : ¬ R < 8 := Nat.not_lt.mpr (knlt (b := 8) (by have := hR.2.1; omega) (by decide) c_46)
            refine tq_bipush (v := (-4)) (dget dX7_reading 24 rfl) rfl ?_
            exact tq_iret rfl (dget dX7_reading 25 rfl) ⟨_, rfl, by simp only [cnd_t (P := hM σ (nI m)) (b_5.t c_8), cnd_t (P := hS σ (nI s)) (b_16.t c_19), nI_clamp (show m < 2 ^ 31 by omega), nI_clamp (show s < 2 ^ 31 by omega), cnd_t (P := 0 ≤ r ∧ r ≤ 9) ⟨Int32.not_lt.mp c_25, c_31⟩, cnd_f (P := R < 8) g_46], by simp only [cnd_t (P := hM σ (nI m)) (b_5.t c_8), cnd_t (P := hS σ (nI s)) (b_16.t c_19), nI_clamp (show m < 2 ^ 31 by omega), nI_clamp (show s < 2 ^ 31 by omega), cnd_t (P := 0 ≤ r ∧ r ≤ 9) ⟨Int32.not_lt.mp c_25, c_31⟩, cnd_f (P := R < 8) g_46]⟩
        · refine tq_bipush (v := (-2)) (dget dX7_reading 17 rfl) rfl ?_
          exact tq_iret rfl (dget dX7_reading 18 rfl) ⟨_, rfl, by simp only [cnd_t (P := hM σ (nI m)) (b_5.t c_8), cnd_t (P := hS σ (nI s)) (b_16.t c_19), nI_clamp (show m < 2 ^ 31 by omega), nI_clamp (show s < 2 ^ 31 by omega), cnd_f (P := 0 ≤ r ∧ r ≤ 9) (fun q => by first | exact absurd q.1 (Int32.not_le.mpr c_25) | exact c_31 q.2)], by simp only [cnd_t (P := hM σ (nI m)) (b_5.t c_8), cnd_t (P := hS σ (nI s)) (b_16.t c_19), nI_clamp (show m < 2 ^ 31 by omega), nI_clamp (show s < 2 ^ 31 by omega), cnd_f (P := 0 ≤ r ∧ r ≤ 9) (fun q => by first | exact absurd q.1 (Int32.not_le.mpr c_25) | exact c_31 q.2)]⟩
    · refine tq_iconst (v := (-1)) (dget dX7_reading 10 rfl) rfl ?_
      exact tq_iret rfl (dget dX7_reading 11 rfl) ⟨_, rfl, by simp only [cnd_t (P := hM σ x) (b_5.t c_8), cnd_f (P := hS σ y) (b_16.f c_19)], by simp only [cnd_t (P := hM σ x) (b_5.t c_8), cnd_f (P := hS σ y) (b_16.f c_19)]⟩
set_option maxHeartbeats 4000000 in
set_option maxRecDepth 20000 in
theorem c_back (σ : Mem) (S M R : Nat) (rs : Nat → Nat) (hV : VA σ S M) (hR : RD σ R rs) (x : Int32) (d : Nat) (hd : 0 ≤ d) : PMet d mX7_back [.ref 0, .int x] σ (Pi (fun r σ2 => r = cnd (0 ≤ x ∧ x ≤ nI R) (nI (R - cl x)) (-2) ∧ σ2 = cnd (0 ≤ x ∧ x ≤ nI R) (up σ 21 4 (nI (R - cl x))) σ)) := by
  refine PMet.start (ls0 := [(0, .ref 0), (1, .int x)]) miX7_back.1 (Nat.le_of_ble_eq_true rfl) rfl ?_
  have hR8 := hR.2.1
  refine tq_iload_n 1 (dget dX7_back 0 rfl) rfl rfl ?_
  refine tq_if_lt (tgt := 15) (dget dX7_back 1 rfl) (by decide) (fun c_1 => ?_) (fun c_1 => ?_)
  · refine tq_bipush (v := (-2)) (dget dX7_back 7 rfl) rfl ?_
    exact tq_iret rfl (dget dX7_back 8 rfl) ⟨_, rfl, by simp only [cnd_f (P := 0 ≤ x ∧ x ≤ nI R) (fun q => by first | exact absurd q.1 (Int32.not_le.mpr c_1) | exact absurd (by rw [hR.1]; exact q.2) c_12)], by simp only [cnd_f (P := 0 ≤ x ∧ x ≤ nI R) (fun q => by first | exact absurd q.1 (Int32.not_le.mpr c_1) | exact absurd (by rw [hR.1]; exact q.2) c_12)]⟩
  · refine tq_iload_n 1 (dget dX7_back 2 rfl) rfl rfl ?_
    refine tq_aload_n 0 (dget dX7_back 3 rfl) rfl rfl ?_
    refine tq_getR (dget dX7_back 4 rfl) fX7_28 rfl rfl ?_
    refine tq_getI (dget dX7_back 5 rfl) fX7_85 rfl rfl ?_
    refine tq_icmp_le (tgt := 18) (dget dX7_back 6 rfl) (by decide) (fun c_12 => ?_) (fun c_12 => ?_)
    · obtain ⟨k, e_k, hk⟩ := kC_n2 (C := R) (by omega) (Int32.not_lt.mp c_1) (by rw [← hR.1]; exact c_12)
      subst e_k
      refine tq_aload_n 0 (dget dX7_back 9 rfl) rfl rfl ?_
      refine tq_getR (dget dX7_back 10 rfl) fX7_28 rfl rfl ?_
      refine tq_dup (dget dX7_back 11 rfl) rfl ?_
      refine tq_getI (dget dX7_back 12 rfl) fX7_85 rfl rfl ?_
      refine tq_iload_n 1 (dget dX7_back 13 rfl) rfl rfl ?_
      refine tq_isub (dget dX7_back 14 rfl) ?_
      refine tq_eqi (y := (nI (R - k))) (by rw [hR.1]; exact nI_subN hk) ?_
      refine tq_putI (dget dX7_back 15 rfl) fX7_85 rfl rfl rfl rfl ?_
      refine tq_aload_n 0 (dget dX7_back 16 rfl) rfl rfl ?_
      refine tq_getR (dget dX7_back 17 rfl) fX7_28 rfl rfl ?_
      refine tq_getI (dget dX7_back 18 rfl) fX7_85 rfl rfl ?_
      refine tq_eqi (y := (nI (R - k))) up_s ?_
      exact tq_iret rfl (dget dX7_back 19 rfl) ⟨_, rfl, by simp only [cnd_t (P := 0 ≤ nI k ∧ nI k ≤ nI R) ⟨Int32.not_lt.mp c_1, by rw [← hR.1]; exact c_12⟩, nI_clamp (show k < 2 ^ 31 by omega)], by simp only [cnd_t (P := 0 ≤ nI k ∧ nI k ≤ nI R) ⟨Int32.not_lt.mp c_1, by rw [← hR.1]; exact c_12⟩, nI_clamp (show k < 2 ^ 31 by omega)]⟩
    · refine tq_bipush (v := (-2)) (dget dX7_back 7 rfl) rfl ?_
      exact tq_iret rfl (dget dX7_back 8 rfl) ⟨_, rfl, by simp only [cnd_f (P := 0 ≤ x ∧ x ≤ nI R) (fun q => by first | exact absurd q.1 (Int32.not_le.mpr c_1) | exact absurd (by rw [hR.1]; exact q.2) c_12)], by simp only [cnd_f (P := 0 ≤ x ∧ x ≤ nI R) (fun q => by first | exact absurd q.1 (Int32.not_le.mpr c_1) | exact absurd (by rw [hR.1]; exact q.2) c_12)]⟩
set_option maxHeartbeats 4000000 in
set_option maxRecDepth 20000 in
theorem c_learnt (σ : Mem) (S M R : Nat) (rs : Nat → Nat) (hV : VA σ S M) (hR : RD σ R rs) (x y z : Int32) (d : Nat) (hd : 4 ≤ d) : PMet d mX7_learnt [.ref 0, .int x, .int y, .int z] σ (Pi (fun v σ2 => v = cnd (hM σ x) (cnd (hS σ y) (cnd (z = 0) (lsR (fun j => soL σ R (cl x) (cl y) (nI j)) 10 0) (cnd (z = 1) (gsR (fun j => soL σ R (cl x) (cl y) (nI j)) 10) (-2))) (-1)) (-1) ∧ σ2 = σ)) := by
  obtain ⟨d, rfl⟩ : ∃ e, d = e + 1 := ⟨d - 1, by omega⟩
  refine PMet.start (ls0 := [(0, .ref 0), (1, .int x), (2, .int y), (3, .int z)]) miX7_learnt.1 (Nat.le_of_ble_eq_true rfl) rfl ?_
  refine tq_aload_n 0 (dget dX7_learnt 0 rfl) rfl rfl ?_
  refine tq_getR (dget dX7_learnt 1 rfl) fX7_12 rfl rfl ?_
  refine tq_iload_n 1 (dget dX7_learnt 2 rfl) rfl rfl ?_
  refine mq_Vi (As := [.int x]) (rest := []) (dget dX7_learnt 3 rfl) lX7_92 miX6_hasMaid (c_hasMaid σ x d (by omega)) rfl rfl rfl rfl (Nat.le_of_ble_eq_true rfl) (Nat.le_of_ble_eq_true rfl) (fun r_5 σ_5 h_5 => ?_)
  obtain ⟨b_5, e_5⟩ := h_5
  obtain rfl := e_5.symm
  refine tq_if_eq (tgt := 22) (dget dX7_learnt 4 rfl) (by decide) (fun c_8 => ?_) (fun c_8 => ?_)
  · refine tq_iconst (v := (-1)) (dget dX7_learnt 10 rfl) rfl ?_
    exact tq_iret rfl (dget dX7_learnt 11 rfl) ⟨_, rfl, by simp only [cnd_f (P := hM σ x) (b_5.f c_8)], rfl⟩
  · refine tq_aload_n 0 (dget dX7_learnt 5 rfl) rfl rfl ?_
    refine tq_getR (dget dX7_learnt 6 rfl) fX7_12 rfl rfl ?_
    refine tq_iload_n 2 (dget dX7_learnt 7 rfl) rfl rfl ?_
    refine mq_Vi (As := [.int y]) (rest := []) (dget dX7_learnt 8 rfl) lX7_95 miX6_hasSuitor (c_hasSuitor σ y d (by omega)) rfl rfl rfl rfl (Nat.le_of_ble_eq_true rfl) (Nat.le_of_ble_eq_true rfl) (fun r_16 σ_16 h_16 => ?_)
    obtain ⟨b_16, e_16⟩ := h_16
    obtain rfl := e_16.symm
    refine tq_if_ne (tgt := 24) (dget dX7_learnt 9 rfl) (by decide) (fun c_19 => ?_) (fun c_19 => ?_)
    · obtain ⟨m, e_m, hm, hm4⟩ := hM_n hV (b_5.t c_8)
      subst e_m
      obtain ⟨s, e_s, hs, hs6⟩ := hS_n hV (b_16.t c_19)
      subst e_s
      refine tq_iload_n 3 (dget dX7_learnt 12 rfl) rfl rfl ?_
      refine tq_if_eq (tgt := 36) (dget dX7_learnt 13 rfl) (by decide) (fun c_25 => ?_) (fun c_25 => ?_)
      · refine tq_iload_n 3 (dget dX7_learnt 19 rfl) rfl rfl ?_
        refine tq_if_ne (tgt := 56) (dget dX7_learnt 20 rfl) (by decide) (fun c_37 => ?_) (fun c_37 => ?_)
        · exact absurd c_25 c_37
        · refine tq_aload_n 0 (dget dX7_learnt 21 rfl) rfl rfl ?_
          refine tq_getR (dget dX7_learnt 22 rfl) fX7_28 rfl rfl ?_
          refine tq_aload_n 0 (dget dX7_learnt 23 rfl) rfl rfl ?_
          refine tq_getR (dget dX7_learnt 24 rfl) fX7_12 rfl rfl ?_
          refine tq_iload_n 1 (dget dX7_learnt 25 rfl) rfl rfl ?_
          refine tq_iload_n 2 (dget dX7_learnt 26 rfl) rfl rfl ?_
          refine mq_Vi (As := [.ref 1, .int (nI m), .int (nI s)]) (rest := []) (dget dX7_learnt 27 rfl) lX7_192 miX3_leastLiking (c_least σ R m hR.1 hR.2.1 hm4 s d (by omega)) rfl rfl rfl rfl (Nat.le_of_ble_eq_true rfl) (Nat.le_of_ble_eq_true rfl) (fun r_50 σ_50 h_50 => ?_)
          obtain ⟨a_50, e_50⟩ := h_50
          obtain rfl := e_50.symm
          rw [ll_eq a_50]
          refine tq_goto (tgt := 69) (dget dX7_learnt 28 rfl) (by decide) ?_
          exact tq_iret rfl (dget dX7_learnt 36 rfl) ⟨_, rfl, by simp only [cnd_t (P := hM σ (nI m)) (b_5.t c_8), cnd_t (P := hS σ (nI s)) (b_16.t c_19), nI_clamp (show m < 2 ^ 31 by omega), nI_clamp (show s < 2 ^ 31 by omega), cnd_t c_25], rfl⟩
      · refine tq_iload_n 3 (dget dX7_learnt 14 rfl) rfl rfl ?_
        refine tq_iconst (v := 1) (dget dX7_learnt 15 rfl) rfl ?_
        refine tq_icmp_eq (tgt := 36) (dget dX7_learnt 16 rfl) (by decide) (fun c_30 => ?_) (fun c_30 => ?_)
        · refine tq_iload_n 3 (dget dX7_learnt 19 rfl) rfl rfl ?_
          refine tq_if_ne (tgt := 56) (dget dX7_learnt 20 rfl) (by decide) (fun c_37 => ?_) (fun c_37 => ?_)
          · refine tq_aload_n 0 (dget dX7_learnt 29 rfl) rfl rfl ?_
            refine tq_getR (dget dX7_learnt 30 rfl) fX7_28 rfl rfl ?_
            refine tq_aload_n 0 (dget dX7_learnt 31 rfl) rfl rfl ?_
            refine tq_getR (dget dX7_learnt 32 rfl) fX7_12 rfl rfl ?_
            refine tq_iload_n 1 (dget dX7_learnt 33 rfl) rfl rfl ?_
            refine tq_iload_n 2 (dget dX7_learnt 34 rfl) rfl rfl ?_
            refine mq_Vi (As := [.ref 1, .int (nI m), .int (nI s)]) (rest := []) (dget dX7_learnt 35 rfl) lX7_195 miX3_greatestLiking (c_greatest σ R m hR.1 hR.2.1 hm4 s d (by omega)) rfl rfl rfl rfl (Nat.le_of_ble_eq_true rfl) (Nat.le_of_ble_eq_true rfl) (fun r_66 σ_66 h_66 => ?_)
            obtain ⟨a_66, e_66⟩ := h_66
            obtain rfl := e_66.symm
            rw [gl_eq a_66]
            exact tq_iret rfl (dget dX7_learnt 36 rfl) ⟨_, rfl, by simp only [cnd_t (P := hM σ (nI m)) (b_5.t c_8), cnd_t (P := hS σ (nI s)) (b_16.t c_19), nI_clamp (show m < 2 ^ 31 by omega), nI_clamp (show s < 2 ^ 31 by omega), cnd_f c_25, cnd_t c_30], rfl⟩
          · exact absurd c_37 c_25
        · refine tq_bipush (v := (-2)) (dget dX7_learnt 17 rfl) rfl ?_
          exact tq_iret rfl (dget dX7_learnt 18 rfl) ⟨_, rfl, by simp only [cnd_t (P := hM σ (nI m)) (b_5.t c_8), cnd_t (P := hS σ (nI s)) (b_16.t c_19), nI_clamp (show m < 2 ^ 31 by omega), nI_clamp (show s < 2 ^ 31 by omega), cnd_f c_25, cnd_f c_30], rfl⟩
    · refine tq_iconst (v := (-1)) (dget dX7_learnt 10 rfl) rfl ?_
      exact tq_iret rfl (dget dX7_learnt 11 rfl) ⟨_, rfl, by simp only [cnd_t (P := hM σ x) (b_5.t c_8), cnd_f (P := hS σ y) (b_16.f c_19)], rfl⟩
set_option maxHeartbeats 4000000 in
set_option maxRecDepth 20000 in
theorem c_kinds (σ : Mem) (S M R : Nat) (rs : Nat → Nat) (hV : VA σ S M) (hR : RD σ R rs) (x : Int32) (d : Nat) (hd : 4 ≤ d) : PMet d mX7_kinds [.ref 0, .int x] σ (Pi (fun v σ2 => v = cnd (hM σ x) (ksF (fun j => soK σ R (cl x) rs (nI j)) 3) (-1) ∧ σ2 = σ)) := by
  obtain ⟨d, rfl⟩ : ∃ e, d = e + 1 := ⟨d - 1, by omega⟩
  refine PMet.start (ls0 := [(0, .ref 0), (1, .int x)]) miX7_kinds.1 (Nat.le_of_ble_eq_true rfl) rfl ?_
  refine tq_aload_n 0 (dget dX7_kinds 0 rfl) rfl rfl ?_
  refine tq_getR (dget dX7_kinds 1 rfl) fX7_12 rfl rfl ?_
  refine tq_iload_n 1 (dget dX7_kinds 2 rfl) rfl rfl ?_
  refine mq_Vi (As := [.int x]) (rest := []) (dget dX7_kinds 3 rfl) lX7_92 miX6_hasMaid (c_hasMaid σ x d (by omega)) rfl rfl rfl rfl (Nat.le_of_ble_eq_true rfl) (Nat.le_of_ble_eq_true rfl) (fun r_5 σ_5 h_5 => ?_)
  obtain ⟨b_5, e_5⟩ := h_5
  obtain rfl := e_5.symm
  refine tq_if_ne (tgt := 13) (dget dX7_kinds 4 rfl) (by decide) (fun c_8 => ?_) (fun c_8 => ?_)
  · obtain ⟨m, e_m, hm, hm4⟩ := hM_n hV (b_5.t c_8)
    subst e_m
    refine tq_aload_n 0 (dget dX7_kinds 7 rfl) rfl rfl ?_
    refine tq_getR (dget dX7_kinds 8 rfl) fX7_28 rfl rfl ?_
    refine tq_aload_n 0 (dget dX7_kinds 9 rfl) rfl rfl ?_
    refine tq_getR (dget dX7_kinds 10 rfl) fX7_12 rfl rfl ?_
    refine tq_iload_n 1 (dget dX7_kinds 11 rfl) rfl rfl ?_
    refine mq_Vi (As := [.ref 1, .int (nI m)]) (rest := []) (dget dX7_kinds 12 rfl) lX7_198 miX3_kindsOf (c_kindsOf σ R m hR.1 hR.2.1 hm4 rs hR.2.2 d (by omega)) rfl rfl rfl rfl (Nat.le_of_ble_eq_true rfl) (Nat.le_of_ble_eq_true rfl) (fun r_22 σ_22 h_22 => ?_)
    obtain ⟨a_22, e_22⟩ := h_22
    obtain rfl := a_22.symm
    obtain rfl := e_22.symm
    exact tq_iret rfl (dget dX7_kinds 13 rfl) ⟨_, rfl, by simp only [cnd_t (P := hM σ (nI m)) (b_5.t c_8), nI_clamp (show m < 2 ^ 31 by omega)], rfl⟩
  · refine tq_iconst (v := (-1)) (dget dX7_kinds 5 rfl) rfl ?_
    exact tq_iret rfl (dget dX7_kinds 6 rfl) ⟨_, rfl, by simp only [cnd_f (P := hM σ x) (b_5.f c_8)], rfl⟩
def mkF (σ : Mem) (b : Int32) : Mem := up σ 0 6 (31 * σ 0 6 + b)

set_option maxHeartbeats 4000000 in
set_option maxRecDepth 20000 in
theorem c_mark (σ : Mem) (b : Int32) (d : Nat) (hd : 0 ≤ d) : PMet d mX7_mark [.ref 0, .int b] σ (Pv (fun σ2 => σ2 = mkF σ b)) := by
  refine PMet.start (ls0 := [(0, .ref 0), (1, .int b)]) miX7_mark.1 (Nat.le_of_ble_eq_true rfl) rfl ?_
  refine tq_aload_n 0 (dget dX7_mark 0 rfl) rfl rfl ?_
  refine tq_bipush (v := 31) (dget dX7_mark 1 rfl) rfl ?_
  refine tq_aload_n 0 (dget dX7_mark 2 rfl) rfl rfl ?_
  refine tq_getI (dget dX7_mark 3 rfl) fX7_258 rfl rfl ?_
  refine tq_imul (dget dX7_mark 4 rfl) ?_
  refine tq_iload_n 1 (dget dX7_mark 5 rfl) rfl rfl ?_
  refine tq_iadd (dget dX7_mark 6 rfl) ?_
  refine tq_putI (dget dX7_mark 7 rfl) fX7_258 rfl rfl rfl rfl ?_
  exact tq_vret rfl (dget dX7_mark 8 rfl) ⟨rfl, rfl⟩
set_option maxHeartbeats 4000000 in
set_option maxRecDepth 20000 in
theorem c_tellAsMaid (σ : Mem) (x : Int32) (d : Nat) (hd : 1 ≤ d) : PMet d mX7_tellAsMaid [.ref 0, .int x] σ (Pi (fun v σ2 => v = x ∧ σ2 = mkF σ 1)) := by
  obtain ⟨d, rfl⟩ : ∃ e, d = e + 1 := ⟨d - 1, by omega⟩
  refine PMet.start (ls0 := [(0, .ref 0), (1, .int x)]) miX7_tellAsMaid.1 (Nat.le_of_ble_eq_true rfl) rfl ?_
  refine tq_aload_n 0 (dget dX7_tellAsMaid 0 rfl) rfl rfl ?_
  refine tq_iconst (v := 1) (dget dX7_tellAsMaid 1 rfl) rfl ?_
  refine mq_Vv (As := [.int 1]) (rest := []) (dget dX7_tellAsMaid 2 rfl) lX7_268 miX7_mark (c_mark σ 1 d (by omega)) rfl rfl rfl rfl (Nat.le_of_ble_eq_true rfl) (Nat.le_of_ble_eq_true rfl) (fun σ_2 h_2 => ?_)
  obtain rfl := Eq.symm h_2
  refine tq_iload_n 1 (dget dX7_tellAsMaid 3 rfl) rfl rfl ?_
  exact tq_iret rfl (dget dX7_tellAsMaid 4 rfl) ⟨_, rfl, rfl, rfl⟩
set_option maxHeartbeats 4000000 in
set_option maxRecDepth 20000 in
theorem c_tellAsProud (σ : Mem) (x : Int32) (d : Nat) (hd : 2 ≤ d) : PMet d mX7_tellAsProud [.ref 0, .int x] σ (Pi (fun v σ2 => v = x + 100 ∧ σ2 = mkF (mkF σ 2) 1)) := by
  obtain ⟨d, rfl⟩ : ∃ e, d = e + 1 := ⟨d - 1, by omega⟩
  refine PMet.start (ls0 := [(0, .ref 0), (1, .int x)]) miX7_tellAsProud.1 (Nat.le_of_ble_eq_true rfl) rfl ?_
  refine tq_aload_n 0 (dget dX7_tellAsProud 0 rfl) rfl rfl ?_
  refine tq_iconst (v := 2) (dget dX7_tellAsProud 1 rfl) rfl ?_
  refine mq_Vv (As := [.int 2]) (rest := []) (dget dX7_tellAsProud 2 rfl) lX7_268 miX7_mark (c_mark σ 2 d (by omega)) rfl rfl rfl rfl (Nat.le_of_ble_eq_true rfl) (Nat.le_of_ble_eq_true rfl) (fun σ_2 h_2 => ?_)
  obtain rfl := Eq.symm h_2
  refine tq_aload_n 0 (dget dX7_tellAsProud 3 rfl) rfl rfl ?_
  refine tq_iload_n 1 (dget dX7_tellAsProud 4 rfl) rfl rfl ?_
  refine mq_Vi (As := [.int x]) (rest := []) (dget dX7_tellAsProud 5 rfl) lX7_248 miX7_tellAsMaid (c_tellAsMaid (mkF σ 2) x d (by omega)) rfl rfl rfl rfl (Nat.le_of_ble_eq_true rfl) (Nat.le_of_ble_eq_true rfl) (fun r_7 σ_7 h_7 => ?_)
  obtain ⟨a_7, e_7⟩ := h_7
  rw [a_7]
  obtain rfl := e_7.symm
  refine tq_bipush (v := 100) (dget dX7_tellAsProud 6 rfl) rfl ?_
  refine tq_iadd (dget dX7_tellAsProud 7 rfl) ?_
  exact tq_iret rfl (dget dX7_tellAsProud 8 rfl) ⟨_, rfl, rfl, rfl⟩
set_option maxHeartbeats 4000000 in
set_option maxRecDepth 20000 in
theorem c_tellAsHeiress (σ : Mem) (x : Int32) (d : Nat) (hd : 3 ≤ d) : PMet d mX7_tellAsHeiress [.ref 0, .int x] σ (Pi (fun v σ2 => v = x + 100 + x ∧ σ2 = mkF (mkF (mkF (mkF σ 3) 2) 1) 1)) := by
  obtain ⟨d, rfl⟩ : ∃ e, d = e + 1 := ⟨d - 1, by omega⟩
  refine PMet.start (ls0 := [(0, .ref 0), (1, .int x)]) miX7_tellAsHeiress.1 (Nat.le_of_ble_eq_true rfl) rfl ?_
  refine tq_aload_n 0 (dget dX7_tellAsHeiress 0 rfl) rfl rfl ?_
  refine tq_iconst (v := 3) (dget dX7_tellAsHeiress 1 rfl) rfl ?_
  refine mq_Vv (As := [.int 3]) (rest := []) (dget dX7_tellAsHeiress 2 rfl) lX7_268 miX7_mark (c_mark σ 3 d (by omega)) rfl rfl rfl rfl (Nat.le_of_ble_eq_true rfl) (Nat.le_of_ble_eq_true rfl) (fun σ_2 h_2 => ?_)
  obtain rfl := Eq.symm h_2
  refine tq_aload_n 0 (dget dX7_tellAsHeiress 3 rfl) rfl rfl ?_
  refine tq_iload_n 1 (dget dX7_tellAsHeiress 4 rfl) rfl rfl ?_
  refine mq_Vi (As := [.int x]) (rest := []) (dget dX7_tellAsHeiress 5 rfl) lX7_242 miX7_tellAsProud (c_tellAsProud (mkF σ 3) x d (by omega)) rfl rfl rfl rfl (Nat.le_of_ble_eq_true rfl) (Nat.le_of_ble_eq_true rfl) (fun r_7 σ_7 h_7 => ?_)
  obtain ⟨a_7, e_7⟩ := h_7
  rw [a_7]
  obtain rfl := e_7.symm
  refine tq_istore_n (ls2 := [(2, .int (x + 100)), (0, .ref 0), (1, .int x)]) (dget dX7_tellAsHeiress 6 rfl) rfl (by decide) rfl ?_
  refine tq_iload_n 0 (dget dX7_tellAsHeiress 7 rfl) rfl rfl ?_
  refine tq_aload_n 1 (dget dX7_tellAsHeiress 8 rfl) rfl rfl ?_
  refine tq_iload_n 2 (dget dX7_tellAsHeiress 9 rfl) rfl rfl ?_
  refine mq_Vi (As := [.int x]) (rest := [.int (x + 100)]) (dget dX7_tellAsHeiress 10 rfl) lX7_248 miX7_tellAsMaid (c_tellAsMaid (mkF (mkF (mkF σ 3) 2) 1) x d (by omega)) rfl rfl rfl rfl (Nat.le_of_ble_eq_true rfl) (Nat.le_of_ble_eq_true rfl) (fun r_14 σ_14 h_14 => ?_)
  obtain ⟨a_14, e_14⟩ := h_14
  rw [a_14]
  obtain rfl := e_14.symm
  refine tq_iadd (dget dX7_tellAsHeiress 11 rfl) ?_
  exact tq_iret rfl (dget dX7_tellAsHeiress 12 rfl) ⟨_, rfl, rfl, rfl⟩
set_option maxHeartbeats 4000000 in
set_option maxRecDepth 20000 in
theorem c_greetAsAnyone (σ : Mem) (x : Int32) (d : Nat) (hd : 1 ≤ d) : PMet d mX7_greetAsAnyone [.ref 0, .int x] σ (Pi (fun v σ2 => v = x ∧ σ2 = mkF σ 4)) := by
  obtain ⟨d, rfl⟩ : ∃ e, d = e + 1 := ⟨d - 1, by omega⟩
  refine PMet.start (ls0 := [(0, .ref 0), (1, .int x)]) miX7_greetAsAnyone.1 (Nat.le_of_ble_eq_true rfl) rfl ?_
  refine tq_aload_n 0 (dget dX7_greetAsAnyone 0 rfl) rfl rfl ?_
  refine tq_iconst (v := 4) (dget dX7_greetAsAnyone 1 rfl) rfl ?_
  refine mq_Vv (As := [.int 4]) (rest := []) (dget dX7_greetAsAnyone 2 rfl) lX7_268 miX7_mark (c_mark σ 4 d (by omega)) rfl rfl rfl rfl (Nat.le_of_ble_eq_true rfl) (Nat.le_of_ble_eq_true rfl) (fun σ_2 h_2 => ?_)
  obtain rfl := Eq.symm h_2
  refine tq_iload_n 1 (dget dX7_greetAsAnyone 3 rfl) rfl rfl ?_
  exact tq_iret rfl (dget dX7_greetAsAnyone 4 rfl) ⟨_, rfl, rfl, rfl⟩
set_option maxHeartbeats 4000000 in
set_option maxRecDepth 20000 in
theorem c_greetAsHeiress (σ : Mem) (d : Nat) (hd : 1 ≤ d) : PMet d mX7_greetAsHeiress [.ref 0] σ (Pi (fun v σ2 => v = 70 ∧ σ2 = mkF σ 5)) := by
  obtain ⟨d, rfl⟩ : ∃ e, d = e + 1 := ⟨d - 1, by omega⟩
  refine PMet.start (ls0 := [(0, .ref 0)]) miX7_greetAsHeiress.1 (Nat.le_of_ble_eq_true rfl) rfl ?_
  refine tq_aload_n 0 (dget dX7_greetAsHeiress 0 rfl) rfl rfl ?_
  refine tq_iconst (v := 5) (dget dX7_greetAsHeiress 1 rfl) rfl ?_
  refine mq_Vv (As := [.int 5]) (rest := []) (dget dX7_greetAsHeiress 2 rfl) lX7_268 miX7_mark (c_mark σ 5 d (by omega)) rfl rfl rfl rfl (Nat.le_of_ble_eq_true rfl) (Nat.le_of_ble_eq_true rfl) (fun σ_2 h_2 => ?_)
  obtain rfl := Eq.symm h_2
  refine tq_bipush (v := 70) (dget dX7_greetAsHeiress 3 rfl) rfl ?_
  exact tq_iret rfl (dget dX7_greetAsHeiress 4 rfl) ⟨_, rfl, rfl, rfl⟩
set_option maxHeartbeats 4000000 in
set_option maxRecDepth 20000 in
theorem c_tell (σ : Mem) (S M : Nat) (hV : VA σ S M) (x : Int32) (d : Nat) (hd : 4 ≤ d) : PMet d mX7_tell [.ref 0, .int x] σ (Pi (fun v σ2 => v = cnd (hM σ x) (cnd (σ 2 (cl x) = 1) (x + 100) (cnd (σ 2 (cl x) = 2) (x + 100 + x) x)) (-1) ∧ σ2 = cnd (hM σ x) (cnd (σ 2 (cl x) = 1) (mkF (mkF σ 2) 1) (cnd (σ 2 (cl x) = 2) (mkF (mkF (mkF (mkF σ 3) 2) 1) 1) (mkF σ 1))) σ)) := by
  obtain ⟨d, rfl⟩ : ∃ e, d = e + 1 := ⟨d - 1, by omega⟩
  refine PMet.start (ls0 := [(0, .ref 0), (1, .int x)]) miX7_tell.1 (Nat.le_of_ble_eq_true rfl) rfl ?_
  refine tq_aload_n 0 (dget dX7_tell 0 rfl) rfl rfl ?_
  refine tq_getR (dget dX7_tell 1 rfl) fX7_12 rfl rfl ?_
  refine tq_iload_n 1 (dget dX7_tell 2 rfl) rfl rfl ?_
  refine mq_Vi (As := [.int x]) (rest := []) (dget dX7_tell 3 rfl) lX7_92 miX6_hasMaid (c_hasMaid σ x d (by omega)) rfl rfl rfl rfl (Nat.le_of_ble_eq_true rfl) (Nat.le_of_ble_eq_true rfl) (fun r_5 σ_5 h_5 => ?_)
  obtain ⟨b_5, e_5⟩ := h_5
  obtain rfl := e_5.symm
  refine tq_if_ne (tgt := 13) (dget dX7_tell 4 rfl) (by decide) (fun c_8 => ?_) (fun c_8 => ?_)
  · obtain ⟨m, e_m, hm, hm4⟩ := hM_n hV (b_5.t c_8)
    subst e_m
    refine tq_aload_n 0 (dget dX7_tell 7 rfl) rfl rfl ?_
    refine tq_getR (dget dX7_tell 8 rfl) fX7_12 rfl rfl ?_
    refine tq_getR (dget dX7_tell 9 rfl) fX7_121 rfl rfl ?_
    refine tq_iload_n 1 (dget dX7_tell 10 rfl) rfl rfl ?_
    refine tq_ialdN m (dget dX7_tell 11 rfl) rfl (by decide) rfl (by omega) ?_
    by_cases s_22_1 : (σ 2 m) = 1
    · refine tq_lookup (tgt := 48) (off := 26) (dget dX7_tell 12 rfl) (by decide) (by rw [s_22_1]; decide) (by decide) ?_
      refine tq_aload_n 0 (dget dX7_tell 13 rfl) rfl rfl ?_
      refine tq_iload_n 1 (dget dX7_tell 14 rfl) rfl rfl ?_
      refine mq_Vi (As := [.int (nI m)]) (rest := []) (dget dX7_tell 15 rfl) lX7_242 miX7_tellAsProud (c_tellAsProud σ (nI m) d (by omega)) rfl rfl rfl rfl (Nat.le_of_ble_eq_true rfl) (Nat.le_of_ble_eq_true rfl) (fun r_50 σ_50 h_50 => ?_)
      obtain ⟨a_50, e_50⟩ := h_50
      rw [a_50]
      obtain rfl := e_50.symm
      exact tq_iret rfl (dget dX7_tell 16 rfl) ⟨_, rfl, by simp only [cnd_t (P := hM σ (nI m)) (b_5.t c_8), nI_clamp (show m < 2 ^ 31 by omega), cnd_t s_22_1], by simp only [cnd_t (P := hM σ (nI m)) (b_5.t c_8), nI_clamp (show m < 2 ^ 31 by omega), cnd_t s_22_1]⟩
    by_cases s_22_2 : (σ 2 m) = 2
    · refine tq_lookup (tgt := 54) (off := 32) (dget dX7_tell 12 rfl) (by decide) (by rw [s_22_2]; decide) (by decide) ?_
      refine tq_aload_n 0 (dget dX7_tell 17 rfl) rfl rfl ?_
      refine tq_iload_n 1 (dget dX7_tell 18 rfl) rfl rfl ?_
      refine mq_Vi (As := [.int (nI m)]) (rest := []) (dget dX7_tell 19 rfl) lX7_245 miX7_tellAsHeiress (c_tellAsHeiress σ (nI m) d (by omega)) rfl rfl rfl rfl (Nat.le_of_ble_eq_true rfl) (Nat.le_of_ble_eq_true rfl) (fun r_56 σ_56 h_56 => ?_)
      obtain ⟨a_56, e_56⟩ := h_56
      rw [a_56]
      obtain rfl := e_56.symm
      exact tq_iret rfl (dget dX7_tell 20 rfl) ⟨_, rfl, by simp only [cnd_t (P := hM σ (nI m)) (b_5.t c_8), nI_clamp (show m < 2 ^ 31 by omega), cnd_f s_22_1, cnd_t s_22_2], by simp only [cnd_t (P := hM σ (nI m)) (b_5.t c_8), nI_clamp (show m < 2 ^ 31 by omega), cnd_f s_22_1, cnd_t s_22_2]⟩
    refine tq_lookup (tgt := 60) (off := 38) (dget dX7_tell 12 rfl) (by decide) ((lv_osw s_22_1 (by decide)).trans ((lv_osw s_22_2 (by decide)).trans (rfl))) (by decide) ?_
    refine tq_aload_n 0 (dget dX7_tell 21 rfl) rfl rfl ?_
    refine tq_iload_n 1 (dget dX7_tell 22 rfl) rfl rfl ?_
    refine mq_Vi (As := [.int (nI m)]) (rest := []) (dget dX7_tell 23 rfl) lX7_248 miX7_tellAsMaid (c_tellAsMaid σ (nI m) d (by omega)) rfl rfl rfl rfl (Nat.le_of_ble_eq_true rfl) (Nat.le_of_ble_eq_true rfl) (fun r_62 σ_62 h_62 => ?_)
    obtain ⟨a_62, e_62⟩ := h_62
    rw [a_62]
    obtain rfl := e_62.symm
    exact tq_iret rfl (dget dX7_tell 24 rfl) ⟨_, rfl, by simp only [cnd_t (P := hM σ (nI m)) (b_5.t c_8), nI_clamp (show m < 2 ^ 31 by omega), cnd_f s_22_1, cnd_f s_22_2], by simp only [cnd_t (P := hM σ (nI m)) (b_5.t c_8), nI_clamp (show m < 2 ^ 31 by omega), cnd_f s_22_1, cnd_f s_22_2]⟩
  · refine tq_iconst (v := (-1)) (dget dX7_tell 5 rfl) rfl ?_
    exact tq_iret rfl (dget dX7_tell 6 rfl) ⟨_, rfl, by simp only [cnd_f (P := hM σ x) (b_5.f c_8)], by simp only [cnd_f (P := hM σ x) (b_5.f c_8)]⟩
set_option maxHeartbeats 4000000 in
set_option maxRecDepth 20000 in
theorem c_greet (σ : Mem) (S M : Nat) (hV : VA σ S M) (x : Int32) (d : Nat) (hd : 2 ≤ d) : PMet d mX7_greet [.ref 0, .int x] σ (Pi (fun v σ2 => v = cnd (hM σ x) (cnd (σ 2 (cl x) = 2) 70 x) (-1) ∧ σ2 = cnd (hM σ x) (cnd (σ 2 (cl x) = 2) (mkF σ 5) (mkF σ 4)) σ)) := by
  obtain ⟨d, rfl⟩ : ∃ e, d = e + 1 := ⟨d - 1, by omega⟩
  refine PMet.start (ls0 := [(0, .ref 0), (1, .int x)]) miX7_greet.1 (Nat.le_of_ble_eq_true rfl) rfl ?_
  refine tq_aload_n 0 (dget dX7_greet 0 rfl) rfl rfl ?_
  refine tq_getR (dget dX7_greet 1 rfl) fX7_12 rfl rfl ?_
  refine tq_iload_n 1 (dget dX7_greet 2 rfl) rfl rfl ?_
  refine mq_Vi (As := [.int x]) (rest := []) (dget dX7_greet 3 rfl) lX7_92 miX6_hasMaid (c_hasMaid σ x d (by omega)) rfl rfl rfl rfl (Nat.le_of_ble_eq_true rfl) (Nat.le_of_ble_eq_true rfl) (fun r_5 σ_5 h_5 => ?_)
  obtain ⟨b_5, e_5⟩ := h_5
  obtain rfl := e_5.symm
  refine tq_if_ne (tgt := 13) (dget dX7_greet 4 rfl) (by decide) (fun c_8 => ?_) (fun c_8 => ?_)
  · obtain ⟨m, e_m, hm, hm4⟩ := hM_n hV (b_5.t c_8)
    subst e_m
    refine tq_aload_n 0 (dget dX7_greet 7 rfl) rfl rfl ?_
    refine tq_getR (dget dX7_greet 8 rfl) fX7_12 rfl rfl ?_
    refine tq_getR (dget dX7_greet 9 rfl) fX7_121 rfl rfl ?_
    refine tq_iload_n 1 (dget dX7_greet 10 rfl) rfl rfl ?_
    refine tq_ialdN m (dget dX7_greet 11 rfl) rfl (by decide) rfl (by omega) ?_
    refine tq_iconst (v := 2) (dget dX7_greet 12 rfl) rfl ?_
    refine tq_icmp_ne (tgt := 33) (dget dX7_greet 13 rfl) (by decide) (fun c_23 => ?_) (fun c_23 => ?_)
    · refine tq_aload_n 0 (dget dX7_greet 17 rfl) rfl rfl ?_
      refine tq_iload_n 1 (dget dX7_greet 18 rfl) rfl rfl ?_
      refine mq_Vi (As := [.int (nI m)]) (rest := []) (dget dX7_greet 19 rfl) lX7_255 miX7_greetAsAnyone (c_greetAsAnyone σ (nI m) d (by omega)) rfl rfl rfl rfl (Nat.le_of_ble_eq_true rfl) (Nat.le_of_ble_eq_true rfl) (fun r_35 σ_35 h_35 => ?_)
      obtain ⟨a_35, e_35⟩ := h_35
      rw [a_35]
      obtain rfl := e_35.symm
      exact tq_iret rfl (dget dX7_greet 20 rfl) ⟨_, rfl, by simp only [cnd_t (P := hM σ (nI m)) (b_5.t c_8), nI_clamp (show m < 2 ^ 31 by omega), cnd_f c_23], by simp only [cnd_t (P := hM σ (nI m)) (b_5.t c_8), nI_clamp (show m < 2 ^ 31 by omega), cnd_f c_23]⟩
    · refine tq_aload_n 0 (dget dX7_greet 14 rfl) rfl rfl ?_
      refine mq_Vi (As := []) (rest := []) (dget dX7_greet 15 rfl) lX7_251 miX7_greetAsHeiress (c_greetAsHeiress σ  d (by omega)) rfl rfl rfl rfl (Nat.le_of_ble_eq_true rfl) (Nat.le_of_ble_eq_true rfl) (fun r_27 σ_27 h_27 => ?_)
      obtain ⟨a_27, e_27⟩ := h_27
      rw [a_27]
      obtain rfl := e_27.symm
      refine tq_goto (tgt := 38) (dget dX7_greet 16 rfl) (by decide) ?_
      exact tq_iret rfl (dget dX7_greet 20 rfl) ⟨_, rfl, by simp only [cnd_t (P := hM σ (nI m)) (b_5.t c_8), nI_clamp (show m < 2 ^ 31 by omega), cnd_t c_23], by simp only [cnd_t (P := hM σ (nI m)) (b_5.t c_8), nI_clamp (show m < 2 ^ 31 by omega), cnd_t c_23]⟩
  · refine tq_iconst (v := (-1)) (dget dX7_greet 5 rfl) rfl ?_
    exact tq_iret rfl (dget dX7_greet 6 rfl) ⟨_, rfl, by simp only [cnd_f (P := hM σ x) (b_5.f c_8)], by simp only [cnd_f (P := hM σ x) (b_5.f c_8)]⟩
set_option maxHeartbeats 4000000 in
set_option maxRecDepth 20000 in
theorem c_as (σ : Mem) (S M : Nat) (hV : VA σ S M) (x k : Int32) (d : Nat) (hd : 1 ≤ d) : PMet d mX7_as [.ref 0, .int x, .int k] σ (Pi (fun v σ2 => v = cnd (hM σ x) (cnd (0 ≤ k ∧ k < 3) (cnd (k ≤ σ 2 (cl x)) 1 (-12)) (-2)) (-1) ∧ σ2 = up σ 0 7 (cnd (hM σ x) (cnd (0 ≤ k ∧ k < 3) (cnd (k ≤ σ 2 (cl x)) 0 2) 0) 0))) := by
  obtain ⟨d, rfl⟩ : ∃ e, d = e + 1 := ⟨d - 1, by omega⟩
  refine PMet.start (ls0 := [(0, .ref 0), (1, .int x), (2, .int k)]) miX7_as.1 (Nat.le_of_ble_eq_true rfl) rfl ?_
  refine tq_aload_n 0 (dget dX7_as 0 rfl) rfl rfl ?_
  refine tq_getR (dget dX7_as 1 rfl) fX7_12 rfl rfl ?_
  refine tq_iload_n 1 (dget dX7_as 2 rfl) rfl rfl ?_
  refine mq_Vi (As := [.int x]) (rest := []) (dget dX7_as 3 rfl) lX7_92 miX6_hasMaid (c_hasMaid σ x d (by omega)) rfl rfl rfl rfl (Nat.le_of_ble_eq_true rfl) (Nat.le_of_ble_eq_true rfl) (fun r_5 σ_5 h_5 => ?_)
  obtain ⟨b_5, e_5⟩ := h_5
  obtain rfl := e_5.symm
  refine tq_if_ne (tgt := 17) (dget dX7_as 4 rfl) (by decide) (fun c_8 => ?_) (fun c_8 => ?_)
  · obtain ⟨m, e_m, hm, hm4⟩ := hM_n hV (b_5.t c_8)
    subst e_m
    refine tq_iload_n 2 (dget dX7_as 9 rfl) rfl rfl ?_
    refine tq_if_lt (tgt := 26) (dget dX7_as 10 rfl) (by decide) (fun c_18 => ?_) (fun c_18 => ?_)
    · refine tq_aload_n 0 (dget dX7_as 14 rfl) rfl rfl ?_
      refine tq_bipush (v := (-2)) (dget dX7_as 15 rfl) rfl ?_
      refine mq_Vi (As := [.int (-2)]) (rest := []) (dget dX7_as 16 rfl) lX7_54 miX7_faultless (c_faultless σ (-2) d (by omega)) rfl rfl rfl rfl (Nat.le_of_ble_eq_true rfl) (Nat.le_of_ble_eq_true rfl) (fun r_29 σ_29 h_29 => ?_)
      obtain ⟨a_29, e_29⟩ := h_29
      rw [a_29]
      obtain rfl := e_29.symm
      exact tq_iret rfl (dget dX7_as 17 rfl) ⟨_, rfl, by simp only [cnd_t (P := hM σ (nI m)) (b_5.t c_8), nI_clamp (show m < 2 ^ 31 by omega), cnd_f (P := 0 ≤ k ∧ k < 3) (fun q => by first | exact absurd q.1 (Int32.not_le.mpr c_18) | exact c_23 q.2)], by simp only [cnd_t (P := hM σ (nI m)) (b_5.t c_8), nI_clamp (show m < 2 ^ 31 by omega), cnd_f (P := 0 ≤ k ∧ k < 3) (fun q => by first | exact absurd q.1 (Int32.not_le.mpr c_18) | exact c_23 q.2)]⟩
    · refine tq_iload_n 2 (dget dX7_as 11 rfl) rfl rfl ?_
      refine tq_iconst (v := 3) (dget dX7_as 12 rfl) rfl ?_
      refine tq_icmp_lt (tgt := 33) (dget dX7_as 13 rfl) (by decide) (fun c_23 => ?_) (fun c_23 => ?_)
      · refine tq_iload_n 2 (dget dX7_as 18 rfl) rfl rfl ?_
        refine tq_aload_n 0 (dget dX7_as 19 rfl) rfl rfl ?_
        refine tq_getR (dget dX7_as 20 rfl) fX7_12 rfl rfl ?_
        refine tq_getR (dget dX7_as 21 rfl) fX7_121 rfl rfl ?_
        refine tq_iload_n 1 (dget dX7_as 22 rfl) rfl rfl ?_
        refine tq_ialdN m (dget dX7_as 23 rfl) rfl (by decide) rfl (by omega) ?_
        refine tq_icmp_le (tgt := 52) (dget dX7_as 24 rfl) (by decide) (fun c_43 => ?_) (fun c_43 => ?_)
        · refine tq_aload_n 0 (dget dX7_as 29 rfl) rfl rfl ?_
          refine tq_iconst (v := 1) (dget dX7_as 30 rfl) rfl ?_
          refine mq_Vi (As := [.int 1]) (rest := []) (dget dX7_as 31 rfl) lX7_54 miX7_faultless (c_faultless σ 1 d (by omega)) rfl rfl rfl rfl (Nat.le_of_ble_eq_true rfl) (Nat.le_of_ble_eq_true rfl) (fun r_54 σ_54 h_54 => ?_)
          obtain ⟨a_54, e_54⟩ := h_54
          rw [a_54]
          obtain rfl := e_54.symm
          exact tq_iret rfl (dget dX7_as 32 rfl) ⟨_, rfl, by simp only [cnd_t (P := hM σ (nI m)) (b_5.t c_8), nI_clamp (show m < 2 ^ 31 by omega), cnd_t (P := 0 ≤ k ∧ k < 3) ⟨Int32.not_lt.mp c_18, c_23⟩, cnd_t c_43], by simp only [cnd_t (P := hM σ (nI m)) (b_5.t c_8), nI_clamp (show m < 2 ^ 31 by omega), cnd_t (P := 0 ≤ k ∧ k < 3) ⟨Int32.not_lt.mp c_18, c_23⟩, cnd_t c_43]⟩
        · refine tq_aload_n 0 (dget dX7_as 25 rfl) rfl rfl ?_
          refine tq_iconst (v := 2) (dget dX7_as 26 rfl) rfl ?_
          refine mq_Vi (As := [.int 2]) (rest := []) (dget dX7_as 27 rfl) lX7_65 miX7_faulted (c_faulted σ 2 d (by omega)) rfl rfl rfl rfl (Nat.le_of_ble_eq_true rfl) (Nat.le_of_ble_eq_true rfl) (fun r_48 σ_48 h_48 => ?_)
          obtain ⟨a_48, e_48⟩ := h_48
          rw [a_48]
          obtain rfl := e_48.symm
          exact tq_iret rfl (dget dX7_as 28 rfl) ⟨_, rfl, by simp only [cnd_t (P := hM σ (nI m)) (b_5.t c_8), nI_clamp (show m < 2 ^ 31 by omega), cnd_t (P := 0 ≤ k ∧ k < 3) ⟨Int32.not_lt.mp c_18, c_23⟩, cnd_f c_43]; try rfl, by simp only [cnd_t (P := hM σ (nI m)) (b_5.t c_8), nI_clamp (show m < 2 ^ 31 by omega), cnd_t (P := 0 ≤ k ∧ k < 3) ⟨Int32.not_lt.mp c_18, c_23⟩, cnd_f c_43]⟩
      · refine tq_aload_n 0 (dget dX7_as 14 rfl) rfl rfl ?_
        refine tq_bipush (v := (-2)) (dget dX7_as 15 rfl) rfl ?_
        refine mq_Vi (As := [.int (-2)]) (rest := []) (dget dX7_as 16 rfl) lX7_54 miX7_faultless (c_faultless σ (-2) d (by omega)) rfl rfl rfl rfl (Nat.le_of_ble_eq_true rfl) (Nat.le_of_ble_eq_true rfl) (fun r_29 σ_29 h_29 => ?_)
        obtain ⟨a_29, e_29⟩ := h_29
        rw [a_29]
        obtain rfl := e_29.symm
        exact tq_iret rfl (dget dX7_as 17 rfl) ⟨_, rfl, by simp only [cnd_t (P := hM σ (nI m)) (b_5.t c_8), nI_clamp (show m < 2 ^ 31 by omega), cnd_f (P := 0 ≤ k ∧ k < 3) (fun q => by first | exact absurd q.1 (Int32.not_le.mpr c_18) | exact c_23 q.2)], by simp only [cnd_t (P := hM σ (nI m)) (b_5.t c_8), nI_clamp (show m < 2 ^ 31 by omega), cnd_f (P := 0 ≤ k ∧ k < 3) (fun q => by first | exact absurd q.1 (Int32.not_le.mpr c_18) | exact c_23 q.2)]⟩
  · refine tq_aload_n 0 (dget dX7_as 5 rfl) rfl rfl ?_
    refine tq_iconst (v := (-1)) (dget dX7_as 6 rfl) rfl ?_
    refine mq_Vi (As := [.int (-1)]) (rest := []) (dget dX7_as 7 rfl) lX7_54 miX7_faultless (c_faultless σ (-1) d (by omega)) rfl rfl rfl rfl (Nat.le_of_ble_eq_true rfl) (Nat.le_of_ble_eq_true rfl) (fun r_13 σ_13 h_13 => ?_)
    obtain ⟨a_13, e_13⟩ := h_13
    rw [a_13]
    obtain rfl := e_13.symm
    exact tq_iret rfl (dget dX7_as 8 rfl) ⟨_, rfl, by simp only [cnd_f (P := hM σ x) (b_5.f c_8)], by simp only [cnd_f (P := hM σ x) (b_5.f c_8)]⟩
set_option maxHeartbeats 4000000 in
set_option maxRecDepth 20000 in
theorem c_trace (σ : Mem) (d : Nat) (hd : 0 ≤ d) : PMet d mX7_trace [.ref 0] σ (Pi (fun v σ2 => v = σ 0 6 ∧ σ2 = σ)) := by
  refine PMet.start (ls0 := [(0, .ref 0)]) miX7_trace.1 (Nat.le_of_ble_eq_true rfl) rfl ?_
  refine tq_aload_n 0 (dget dX7_trace 0 rfl) rfl rfl ?_
  refine tq_getI (dget dX7_trace 1 rfl) fX7_258 rfl rfl ?_
  exact tq_iret rfl (dget dX7_trace 2 rfl) ⟨_, rfl, rfl, rfl⟩
set_option maxHeartbeats 4000000 in
set_option maxRecDepth 20000 in
theorem c_fault (σ : Mem) (d : Nat) (hd : 0 ≤ d) : PMet d mX7_fault [.ref 0] σ (Pi (fun v σ2 => v = σ 0 7 ∧ σ2 = σ)) := by
  refine PMet.start (ls0 := [(0, .ref 0)]) miX7_fault.1 (Nat.le_of_ble_eq_true rfl) rfl ?_
  refine tq_aload_n 0 (dget dX7_fault 0 rfl) rfl rfl ?_
  refine tq_getI (dget dX7_fault 1 rfl) fX7_223 rfl rfl ?_
  exact tq_iret rfl (dget dX7_fault 2 rfl) ⟨_, rfl, rfl, rfl⟩
set_option maxHeartbeats 4000000 in
set_option maxRecDepth 20000 in
theorem c_many (σ : Mem) (z : Int32) (d : Nat) (hd : 0 ≤ d) : PMet d mX7_many [.ref 0, .int z] σ (Pi (fun v σ2 => v = cnd (z = 0) (σ 1 0) (cnd (z = 1) (σ 1 1) (cnd (z = 2) (σ 13 4) (cnd (z = 3) (σ 21 4) (cnd (z = 4) (σ 1 2) (-2))))) ∧ σ2 = σ)) := by
  refine PMet.start (ls0 := [(0, .ref 0), (1, .int z)]) miX7_many.1 (Nat.le_of_ble_eq_true rfl) rfl ?_
  refine tq_iload_n 1 (dget dX7_many 0 rfl) rfl rfl ?_
  by_cases c_1 : (z).toInt < 0 ∨ 4 < (z).toInt
  · refine tq_tableOut (tgt := 76) (dget dX7_many 1 rfl) c_1 (by decide) ?_
    refine tq_bipush (v := (-2)) (dget dX7_many 22 rfl) rfl ?_
    exact tq_iret rfl (dget dX7_many 23 rfl) ⟨_, rfl, by simp only [cnd_f (P := z = 0) (tab_no0 c_1), cnd_f (P := z = 1) (tab_no1 c_1), cnd_f (P := z = 2) (tab_no2 c_1), cnd_f (P := z = 3) (tab_no3 c_1), cnd_f (P := z = 4) (tab_no4 c_1)], rfl⟩
  · have c_1 := sw_in c_1
    by_cases s_1_0 : z = 0
    · refine tq_tableIn (tgt := 36) (off := 35) (dget dX7_many 1 rfl) (by rw [s_1_0]; decide) (by rw [s_1_0]; decide) (by rw [s_1_0]; rfl) (by decide) ?_
      refine tq_aload_n 0 (dget dX7_many 2 rfl) rfl rfl ?_
      refine tq_getR (dget dX7_many 3 rfl) fX7_12 rfl rfl ?_
      refine tq_getI (dget dX7_many 4 rfl) fX7_145 rfl rfl ?_
      exact tq_iret rfl (dget dX7_many 5 rfl) ⟨_, rfl, by simp only [cnd_t (P := z = 0) s_1_0], rfl⟩
    by_cases s_1_1 : z = 1
    · refine tq_tableIn (tgt := 44) (off := 43) (dget dX7_many 1 rfl) (by rw [s_1_1]; decide) (by rw [s_1_1]; decide) (by rw [s_1_1]; rfl) (by decide) ?_
      refine tq_aload_n 0 (dget dX7_many 6 rfl) rfl rfl ?_
      refine tq_getR (dget dX7_many 7 rfl) fX7_12 rfl rfl ?_
      refine tq_getI (dget dX7_many 8 rfl) fX7_89 rfl rfl ?_
      exact tq_iret rfl (dget dX7_many 9 rfl) ⟨_, rfl, by simp only [cnd_f (P := z = 0) s_1_0, cnd_t (P := z = 1) s_1_1], rfl⟩
    by_cases s_1_2 : z = 2
    · refine tq_tableIn (tgt := 52) (off := 51) (dget dX7_many 1 rfl) (by rw [s_1_2]; decide) (by rw [s_1_2]; decide) (by rw [s_1_2]; rfl) (by decide) ?_
      refine tq_aload_n 0 (dget dX7_many 10 rfl) rfl rfl ?_
      refine tq_getR (dget dX7_many 11 rfl) fX7_21 rfl rfl ?_
      refine tq_getI (dget dX7_many 12 rfl) fX7_135 rfl rfl ?_
      exact tq_iret rfl (dget dX7_many 13 rfl) ⟨_, rfl, by simp only [cnd_f (P := z = 0) s_1_0, cnd_f (P := z = 1) s_1_1, cnd_t (P := z = 2) s_1_2], rfl⟩
    by_cases s_1_3 : z = 3
    · refine tq_tableIn (tgt := 60) (off := 59) (dget dX7_many 1 rfl) (by rw [s_1_3]; decide) (by rw [s_1_3]; decide) (by rw [s_1_3]; rfl) (by decide) ?_
      refine tq_aload_n 0 (dget dX7_many 14 rfl) rfl rfl ?_
      refine tq_getR (dget dX7_many 15 rfl) fX7_28 rfl rfl ?_
      refine tq_getI (dget dX7_many 16 rfl) fX7_85 rfl rfl ?_
      exact tq_iret rfl (dget dX7_many 17 rfl) ⟨_, rfl, by simp only [cnd_f (P := z = 0) s_1_0, cnd_f (P := z = 1) s_1_1, cnd_f (P := z = 2) s_1_2, cnd_t (P := z = 3) s_1_3], rfl⟩
    have s_1_4 : z = 4 := sw_last5 c_1 s_1_0 s_1_1 s_1_2 s_1_3
    refine tq_tableIn (tgt := 68) (off := 67) (dget dX7_many 1 rfl) (by rw [s_1_4]; decide) (by rw [s_1_4]; decide) (by rw [s_1_4]; rfl) (by decide) ?_
    refine tq_aload_n 0 (dget dX7_many 18 rfl) rfl rfl ?_
    refine tq_getR (dget dX7_many 19 rfl) fX7_12 rfl rfl ?_
    refine tq_getI (dget dX7_many 20 rfl) fX7_132 rfl rfl ?_
    exact tq_iret rfl (dget dX7_many 21 rfl) ⟨_, rfl, by simp only [cnd_f (P := z = 0) s_1_0, cnd_f (P := z = 1) s_1_1, cnd_f (P := z = 2) s_1_2, cnd_f (P := z = 3) s_1_3, cnd_t (P := z = 4) s_1_4], rfl⟩
end
section
/-! ===== the class's public calls (4): sheets, a row asked, a text ===== -/
def shH (σ : Mem) (k : Int32) : Int32 := σ (34 + 2 * cl k) 1
def shV (σ : Mem) (k : Int32) : Int32 := σ (34 + 2 * cl k) 2
def shN (σ : Mem) (k : Int32) : Int32 := σ (34 + 2 * cl k) 3
def newF (σ : Mem) (k : Nat) (lane n : Int32) : Mem := up (up (up (fillR σ (35 + 2 * k) 100 0) (34 + 2 * k) 1 1) (34 + 2 * k) 2 lane) (34 + 2 * k) 3 n

set_option maxHeartbeats 4000000 in
set_option maxRecDepth 20000 in
theorem c_sheet (σ : Mem) (k l n : Int32) (d : Nat) (hd : 2 ≤ d) : PMet d mX7_sheet [.ref 0, .int k, .int l, .int n] σ (Pi (fun v σ2 => v = cnd (isSh k) (cnd (isLn l) (cnd (n ≤ 100) (cnd (0 ≤ n) 1 (-14)) (-2)) (-2)) (-1) ∧ σ2 = cnd (isSh k) (cnd (isLn l) (cnd (n ≤ 100) (cnd (0 ≤ n) (up (newF σ (cl k) l n) 0 7 0) (up σ 0 7 4)) (up σ 0 7 0)) (up σ 0 7 0)) (up σ 0 7 0))) := by
  obtain ⟨d, rfl⟩ : ∃ e, d = e + 1 := ⟨d - 1, by omega⟩
  refine PMet.start (ls0 := [(0, .ref 0), (1, .int k), (2, .int l), (3, .int n)]) miX7_sheet.1 (Nat.le_of_ble_eq_true rfl) rfl ?_
  refine tq_iload_n 1 (dget dX7_sheet 0 rfl) rfl rfl ?_
  refine mq_Si (As := [.int k]) (rest := []) (dget dX7_sheet 1 rfl) lX7_50 miX7_isSheet (c_isSheet σ k d (by omega)) rfl rfl (Nat.le_of_ble_eq_true rfl) (Nat.le_of_ble_eq_true rfl) (fun r_1 σ_1 h_1 => ?_)
  obtain ⟨b_1, e_1⟩ := h_1
  obtain rfl := e_1.symm
  refine tq_if_ne (tgt := 13) (dget dX7_sheet 2 rfl) (by decide) (fun c_4 => ?_) (fun c_4 => ?_)
  · refine tq_iload_n 2 (dget dX7_sheet 7 rfl) rfl rfl ?_
    refine mq_Si (As := [.int l]) (rest := []) (dget dX7_sheet 8 rfl) lX7_58 miX7_isLane (c_isLane σ l d (by omega)) rfl rfl (Nat.le_of_ble_eq_true rfl) (Nat.le_of_ble_eq_true rfl) (fun r_14 σ_14 h_14 => ?_)
    obtain ⟨b_14, e_14⟩ := h_14
    obtain rfl := e_14.symm
    refine tq_if_eq (tgt := 26) (dget dX7_sheet 9 rfl) (by decide) (fun c_17 => ?_) (fun c_17 => ?_)
    · refine tq_aload_n 0 (dget dX7_sheet 13 rfl) rfl rfl ?_
      refine tq_bipush (v := (-2)) (dget dX7_sheet 14 rfl) rfl ?_
      refine mq_Vi (As := [.int (-2)]) (rest := []) (dget dX7_sheet 15 rfl) lX7_54 miX7_faultless (c_faultless σ (-2) d (by omega)) rfl rfl rfl rfl (Nat.le_of_ble_eq_true rfl) (Nat.le_of_ble_eq_true rfl) (fun r_29 σ_29 h_29 => ?_)
      obtain ⟨a_29, e_29⟩ := h_29
      rw [a_29]
      obtain rfl := e_29.symm
      exact tq_iret rfl (dget dX7_sheet 16 rfl) ⟨_, rfl, by simp only [shH, shN, shV, cnd_t (P := isSh k) (b_1.t c_4), cnd_f (P := isLn l) (b_14.f c_17)], by simp only [shH, shN, shV, cnd_t (P := isSh k) (b_1.t c_4), cnd_f (P := isLn l) (b_14.f c_17)]⟩
    · refine tq_iload_n 3 (dget dX7_sheet 10 rfl) rfl rfl ?_
      refine tq_bipush (v := 100) (dget dX7_sheet 11 rfl) rfl ?_
      refine tq_icmp_le (tgt := 33) (dget dX7_sheet 12 rfl) (by decide) (fun c_23 => ?_) (fun c_23 => ?_)
      · refine tq_iload_n 3 (dget dX7_sheet 17 rfl) rfl rfl ?_
        refine tq_if_ge (tgt := 43) (dget dX7_sheet 18 rfl) (by decide) (fun c_34 => ?_) (fun c_34 => ?_)
        · obtain ⟨kk, e_kk, hkk⟩ := isSh_n (b_1.t c_4)
          subst e_kk
          refine tq_aload_n 0 (dget dX7_sheet 23 rfl) rfl rfl ?_
          refine tq_getR (dget dX7_sheet 24 rfl) fX7_41 rfl rfl ?_
          refine tq_iload_n 1 (dget dX7_sheet 25 rfl) rfl rfl ?_
          refine tq_sheets kk (dget dX7_sheet 26 rfl) rfl (by omega) ?_
          refine tq_iload_n 2 (dget dX7_sheet 27 rfl) rfl rfl ?_
          refine tq_iload_n 3 (dget dX7_sheet 28 rfl) rfl rfl ?_
          refine mq_Vv (As := [.int l, .int n]) (rest := []) (dget dX7_sheet 29 rfl) lX7_202 miX4_renew (c_renew σ kk hkk l n d (by omega)) (SH_sheet (by omega)) rfl rfl rfl (Nat.le_of_ble_eq_true rfl) (Nat.le_of_ble_eq_true rfl) (fun σ_51 h_51 => ?_)
          obtain rfl := Eq.symm h_51
          refine tq_aload_n 0 (dget dX7_sheet 30 rfl) rfl rfl ?_
          refine tq_iconst (v := 1) (dget dX7_sheet 31 rfl) rfl ?_
          refine mq_Vi (As := [.int 1]) (rest := []) (dget dX7_sheet 32 rfl) lX7_54 miX7_faultless (c_faultless (up (up (up (fillR σ (35 + 2 * kk) 100 0) (34 + 2 * kk) 1 1) (34 + 2 * kk) 2 l) (34 + 2 * kk) 3 n) 1 d (by omega)) rfl rfl rfl rfl (Nat.le_of_ble_eq_true rfl) (Nat.le_of_ble_eq_true rfl) (fun r_56 σ_56 h_56 => ?_)
          obtain ⟨a_56, e_56⟩ := h_56
          rw [a_56]
          obtain rfl := e_56.symm
          exact tq_iret rfl (dget dX7_sheet 33 rfl) ⟨_, rfl, by simp only [shH, shN, shV, cnd_t (P := isSh (nI kk)) (b_1.t c_4), cnd_t (P := isLn l) (b_14.t c_17), cnd_t (P := n ≤ 100) c_23, cnd_t (P := 0 ≤ n) c_34, nI_clamp (show kk < 2 ^ 31 by omega)], by simp only [shH, shN, shV, cnd_t (P := isSh (nI kk)) (b_1.t c_4), cnd_t (P := isLn l) (b_14.t c_17), cnd_t (P := n ≤ 100) c_23, cnd_t (P := 0 ≤ n) c_34, nI_clamp (show kk < 2 ^ 31 by omega)]; rfl⟩
        · refine tq_aload_n 0 (dget dX7_sheet 19 rfl) rfl rfl ?_
          refine tq_iconst (v := 4) (dget dX7_sheet 20 rfl) rfl ?_
          refine mq_Vi (As := [.int 4]) (rest := []) (dget dX7_sheet 21 rfl) lX7_65 miX7_faulted (c_faulted σ 4 d (by omega)) rfl rfl rfl rfl (Nat.le_of_ble_eq_true rfl) (Nat.le_of_ble_eq_true rfl) (fun r_39 σ_39 h_39 => ?_)
          obtain ⟨a_39, e_39⟩ := h_39
          rw [a_39]
          obtain rfl := e_39.symm
          exact tq_iret rfl (dget dX7_sheet 22 rfl) ⟨_, rfl, by simp only [shH, shN, shV, cnd_t (P := isSh k) (b_1.t c_4), cnd_t (P := isLn l) (b_14.t c_17), cnd_t (P := n ≤ 100) c_23, cnd_f (P := 0 ≤ n) c_34]; try rfl, by simp only [shH, shN, shV, cnd_t (P := isSh k) (b_1.t c_4), cnd_t (P := isLn l) (b_14.t c_17), cnd_t (P := n ≤ 100) c_23, cnd_f (P := 0 ≤ n) c_34]⟩
      · refine tq_aload_n 0 (dget dX7_sheet 13 rfl) rfl rfl ?_
        refine tq_bipush (v := (-2)) (dget dX7_sheet 14 rfl) rfl ?_
        refine mq_Vi (As := [.int (-2)]) (rest := []) (dget dX7_sheet 15 rfl) lX7_54 miX7_faultless (c_faultless σ (-2) d (by omega)) rfl rfl rfl rfl (Nat.le_of_ble_eq_true rfl) (Nat.le_of_ble_eq_true rfl) (fun r_29 σ_29 h_29 => ?_)
        obtain ⟨a_29, e_29⟩ := h_29
        rw [a_29]
        obtain rfl := e_29.symm
        exact tq_iret rfl (dget dX7_sheet 16 rfl) ⟨_, rfl, by simp only [shH, shN, shV, cnd_t (P := isSh k) (b_1.t c_4), cnd_t (P := isLn l) (b_14.t c_17), cnd_f (P := n ≤ 100) c_23], by simp only [shH, shN, shV, cnd_t (P := isSh k) (b_1.t c_4), cnd_t (P := isLn l) (b_14.t c_17), cnd_f (P := n ≤ 100) c_23]⟩
  · refine tq_aload_n 0 (dget dX7_sheet 3 rfl) rfl rfl ?_
    refine tq_iconst (v := (-1)) (dget dX7_sheet 4 rfl) rfl ?_
    refine mq_Vi (As := [.int (-1)]) (rest := []) (dget dX7_sheet 5 rfl) lX7_54 miX7_faultless (c_faultless σ (-1) d (by omega)) rfl rfl rfl rfl (Nat.le_of_ble_eq_true rfl) (Nat.le_of_ble_eq_true rfl) (fun r_9 σ_9 h_9 => ?_)
    obtain ⟨a_9, e_9⟩ := h_9
    rw [a_9]
    obtain rfl := e_9.symm
    exact tq_iret rfl (dget dX7_sheet 6 rfl) ⟨_, rfl, by simp only [shH, shN, shV, cnd_f (P := isSh k) (b_1.f c_4)], by simp only [shH, shN, shV, cnd_f (P := isSh k) (b_1.f c_4)]⟩
set_option maxHeartbeats 4000000 in
set_option maxRecDepth 20000 in
theorem c_lose (σ : Mem) (k : Int32) (d : Nat) (hd : 1 ≤ d) : PMet d mX7_lose [.ref 0, .int k] σ (Pi (fun v σ2 => v = cnd (isSh k) (cnd (shH σ k = 0) 0 1) (-1) ∧ σ2 = cnd (isSh k) (up σ (34 + 2 * cl k) 1 0) σ)) := by
  obtain ⟨d, rfl⟩ : ∃ e, d = e + 1 := ⟨d - 1, by omega⟩
  refine PMet.start (ls0 := [(0, .ref 0), (1, .int k)]) miX7_lose.1 (Nat.le_of_ble_eq_true rfl) rfl ?_
  refine tq_iload_n 1 (dget dX7_lose 0 rfl) rfl rfl ?_
  refine mq_Si (As := [.int k]) (rest := []) (dget dX7_lose 1 rfl) lX7_50 miX7_isSheet (c_isSheet σ k d (by omega)) rfl rfl (Nat.le_of_ble_eq_true rfl) (Nat.le_of_ble_eq_true rfl) (fun r_1 σ_1 h_1 => ?_)
  obtain ⟨b_1, e_1⟩ := h_1
  obtain rfl := e_1.symm
  refine tq_if_ne (tgt := 9) (dget dX7_lose 2 rfl) (by decide) (fun c_4 => ?_) (fun c_4 => ?_)
  · obtain ⟨kk, e_kk, hkk⟩ := isSh_n (b_1.t c_4)
    subst e_kk
    refine tq_aload_n 0 (dget dX7_lose 5 rfl) rfl rfl ?_
    refine tq_getR (dget dX7_lose 6 rfl) fX7_41 rfl rfl ?_
    refine tq_iload_n 1 (dget dX7_lose 7 rfl) rfl rfl ?_
    refine tq_sheets kk (dget dX7_lose 8 rfl) rfl (by omega) ?_
    refine tq_getI (dget dX7_lose 9 rfl) fX7_206 (SH_sheet (by omega)) rfl ?_
    refine tq_if_eq (tgt := 25) (dget dX7_lose 10 rfl) (by decide) (fun c_18 => ?_) (fun c_18 => ?_)
    · refine tq_iconst (v := 0) (dget dX7_lose 13 rfl) rfl ?_
      refine tq_istore_n (ls2 := [(2, .int 0), (0, .ref 0), (1, .int (nI kk))]) (dget dX7_lose 14 rfl) rfl (by decide) rfl ?_
      refine tq_aload_n 1 (dget dX7_lose 15 rfl) rfl rfl ?_
      refine tq_getR (dget dX7_lose 16 rfl) fX7_41 rfl rfl ?_
      refine tq_iload_n 2 (dget dX7_lose 17 rfl) rfl rfl ?_
      refine tq_sheets kk (dget dX7_lose 18 rfl) rfl (by omega) ?_
      refine tq_iconst (v := 0) (dget dX7_lose 19 rfl) rfl ?_
      refine tq_putI (dget dX7_lose 20 rfl) fX7_206 (SH_sheet (by omega)) rfl rfl rfl ?_
      refine tq_iload_n 0 (dget dX7_lose 21 rfl) rfl rfl ?_
      exact tq_iret rfl (dget dX7_lose 22 rfl) ⟨_, rfl, by simp only [shH, nI_clamp (show kk < 2 ^ 31 by omega), cnd_t (P := isSh (nI kk)) (b_1.t c_4), cnd_t c_18, nI_clamp (show kk < 2 ^ 31 by omega)], by simp only [shH, shN, shV, cnd_t (P := isSh (nI kk)) (b_1.t c_4), cnd_t c_18, nI_clamp (show kk < 2 ^ 31 by omega)]⟩
    · refine tq_iconst (v := 1) (dget dX7_lose 11 rfl) rfl ?_
      refine tq_goto (tgt := 26) (dget dX7_lose 12 rfl) (by decide) ?_
      refine tq_istore_n (ls2 := [(2, .int 1), (0, .ref 0), (1, .int (nI kk))]) (dget dX7_lose 14 rfl) rfl (by decide) rfl ?_
      refine tq_aload_n 1 (dget dX7_lose 15 rfl) rfl rfl ?_
      refine tq_getR (dget dX7_lose 16 rfl) fX7_41 rfl rfl ?_
      refine tq_iload_n 2 (dget dX7_lose 17 rfl) rfl rfl ?_
      refine tq_sheets kk (dget dX7_lose 18 rfl) rfl (by omega) ?_
      refine tq_iconst (v := 0) (dget dX7_lose 19 rfl) rfl ?_
      refine tq_putI (dget dX7_lose 20 rfl) fX7_206 (SH_sheet (by omega)) rfl rfl rfl ?_
      refine tq_iload_n 0 (dget dX7_lose 21 rfl) rfl rfl ?_
      exact tq_iret rfl (dget dX7_lose 22 rfl) ⟨_, rfl, by simp only [shH, nI_clamp (show kk < 2 ^ 31 by omega), cnd_t (P := isSh (nI kk)) (b_1.t c_4), cnd_f c_18, nI_clamp (show kk < 2 ^ 31 by omega)], by simp only [shH, shN, shV, cnd_t (P := isSh (nI kk)) (b_1.t c_4), cnd_f c_18, nI_clamp (show kk < 2 ^ 31 by omega)]⟩
  · refine tq_iconst (v := (-1)) (dget dX7_lose 3 rfl) rfl ?_
    exact tq_iret rfl (dget dX7_lose 4 rfl) ⟨_, rfl, by simp only [shH, cnd_f (P := isSh k) (b_1.f c_4)], by simp only [shH, shN, shV, cnd_f (P := isSh k) (b_1.f c_4)]⟩
set_option maxHeartbeats 4000000 in
set_option maxRecDepth 20000 in
theorem c_put (σ : Mem) (hSh : SHT σ) (k i v : Int32) (d : Nat) (hd : 1 ≤ d) : PMet d mX7_put [.ref 0, .int k, .int i, .int v] σ (Pi (fun r σ2 => r = cnd (isSh k) (cnd (shH σ k = 0) (-11) (cnd (0 ≤ i ∧ i < shN σ k) 1 (-13))) (-1) ∧ σ2 = cnd (isSh k) (cnd (shH σ k = 0) (up σ 0 7 1) (cnd (0 ≤ i ∧ i < shN σ k) (up (up σ (35 + 2 * cl k) (cl i) (cutF (shV σ k) v)) 0 7 0) (up σ 0 7 3))) (up σ 0 7 0))) := by
  obtain ⟨d, rfl⟩ : ∃ e, d = e + 1 := ⟨d - 1, by omega⟩
  refine PMet.start (ls0 := [(0, .ref 0), (1, .int k), (2, .int i), (3, .int v)]) miX7_put.1 (Nat.le_of_ble_eq_true rfl) rfl ?_
  refine tq_iload_n 1 (dget dX7_put 0 rfl) rfl rfl ?_
  refine mq_Si (As := [.int k]) (rest := []) (dget dX7_put 1 rfl) lX7_50 miX7_isSheet (c_isSheet σ k d (by omega)) rfl rfl (Nat.le_of_ble_eq_true rfl) (Nat.le_of_ble_eq_true rfl) (fun r_1 σ_1 h_1 => ?_)
  obtain ⟨b_1, e_1⟩ := h_1
  obtain rfl := e_1.symm
  refine tq_if_ne (tgt := 13) (dget dX7_put 2 rfl) (by decide) (fun c_4 => ?_) (fun c_4 => ?_)
  · obtain ⟨kk, e_kk, hkk⟩ := isSh_n (b_1.t c_4)
    subst e_kk
    refine tq_aload_n 0 (dget dX7_put 7 rfl) rfl rfl ?_
    refine tq_getR (dget dX7_put 8 rfl) fX7_41 rfl rfl ?_
    refine tq_iload_n 1 (dget dX7_put 9 rfl) rfl rfl ?_
    refine tq_sheets kk (dget dX7_put 10 rfl) rfl (by omega) ?_
    refine tq_getI (dget dX7_put 11 rfl) fX7_206 (SH_sheet (by omega)) rfl ?_
    refine tq_if_ne (tgt := 31) (dget dX7_put 12 rfl) (by decide) (fun c_22 => ?_) (fun c_22 => ?_)
    · refine tq_aload_n 0 (dget dX7_put 17 rfl) rfl rfl ?_
      refine tq_getR (dget dX7_put 18 rfl) fX7_41 rfl rfl ?_
      refine tq_iload_n 1 (dget dX7_put 19 rfl) rfl rfl ?_
      refine tq_sheets kk (dget dX7_put 20 rfl) rfl (by omega) ?_
      refine tq_iload_n 2 (dget dX7_put 21 rfl) rfl rfl ?_
      refine mq_Vi (As := [.int i]) (rest := []) (dget dX7_put 22 rfl) lX7_210 miX4_hasCell (c_hasCell σ kk (by omega) i d (by omega)) (SH_sheet (by omega)) rfl rfl rfl (Nat.le_of_ble_eq_true rfl) (Nat.le_of_ble_eq_true rfl) (fun r_38 σ_38 h_38 => ?_)
      obtain ⟨b_38, e_38⟩ := h_38
      obtain rfl := e_38.symm
      refine tq_if_ne (tgt := 50) (dget dX7_put 23 rfl) (by decide) (fun c_41 => ?_) (fun c_41 => ?_)
      · obtain ⟨l0, hl, el⟩ := hSh kk hkk
        obtain ⟨a, e_a, ha⟩ := kC_n (C := l0) (by omega) (b_38.t c_41).1 (by rw [← el]; exact (b_38.t c_41).2)
        subst e_a
        refine tq_aload_n 0 (dget dX7_put 28 rfl) rfl rfl ?_
        refine tq_getR (dget dX7_put 29 rfl) fX7_41 rfl rfl ?_
        refine tq_iload_n 1 (dget dX7_put 30 rfl) rfl rfl ?_
        refine tq_sheets kk (dget dX7_put 31 rfl) rfl (by omega) ?_
        refine tq_iload_n 2 (dget dX7_put 32 rfl) rfl rfl ?_
        refine tq_iload_n 3 (dget dX7_put 33 rfl) rfl rfl ?_
        refine mq_Vv (As := [.int (nI a), .int v]) (rest := []) (dget dX7_put 34 rfl) lX7_213 miX4_write (c_write σ kk hkk a (by omega) v d (by omega)) (SH_sheet (by omega)) rfl rfl rfl (Nat.le_of_ble_eq_true rfl) (Nat.le_of_ble_eq_true rfl) (fun σ_58 h_58 => ?_)
        obtain rfl := Eq.symm h_58
        refine tq_aload_n 0 (dget dX7_put 35 rfl) rfl rfl ?_
        refine tq_iconst (v := 1) (dget dX7_put 36 rfl) rfl ?_
        refine mq_Vi (As := [.int 1]) (rest := []) (dget dX7_put 37 rfl) lX7_54 miX7_faultless (c_faultless (up σ (35 + 2 * kk) a (cutF (σ (34 + 2 * kk) 2) v)) 1 d (by omega)) rfl rfl rfl rfl (Nat.le_of_ble_eq_true rfl) (Nat.le_of_ble_eq_true rfl) (fun r_63 σ_63 h_63 => ?_)
        obtain ⟨a_63, e_63⟩ := h_63
        rw [a_63]
        obtain rfl := e_63.symm
        exact tq_iret rfl (dget dX7_put 38 rfl) ⟨_, rfl, by simp only [shH, shN, shV, nI_clamp (show kk < 2 ^ 31 by omega), cnd_t (P := isSh (nI kk)) (b_1.t c_4), cnd_f (P := σ (34 + 2 * kk) 1 = 0) c_22, nI_clamp (show a < 2 ^ 31 by omega), cnd_t (P := 0 ≤ nI a ∧ nI a < σ (34 + 2 * kk) 3) (b_38.t c_41)], by simp only [shH, shN, shV, nI_clamp (show kk < 2 ^ 31 by omega), cnd_t (P := isSh (nI kk)) (b_1.t c_4), cnd_f (P := σ (34 + 2 * kk) 1 = 0) c_22, nI_clamp (show a < 2 ^ 31 by omega), cnd_t (P := 0 ≤ nI a ∧ nI a < σ (34 + 2 * kk) 3) (b_38.t c_41)]⟩
      · refine tq_aload_n 0 (dget dX7_put 24 rfl) rfl rfl ?_
        refine tq_iconst (v := 3) (dget dX7_put 25 rfl) rfl ?_
        refine mq_Vi (As := [.int 3]) (rest := []) (dget dX7_put 26 rfl) lX7_65 miX7_faulted (c_faulted σ 3 d (by omega)) rfl rfl rfl rfl (Nat.le_of_ble_eq_true rfl) (Nat.le_of_ble_eq_true rfl) (fun r_46 σ_46 h_46 => ?_)
        obtain ⟨a_46, e_46⟩ := h_46
        rw [a_46]
        obtain rfl := e_46.symm
        exact tq_iret rfl (dget dX7_put 27 rfl) ⟨_, rfl, by simp only [shH, shN, shV, nI_clamp (show kk < 2 ^ 31 by omega), cnd_t (P := isSh (nI kk)) (b_1.t c_4), cnd_f (P := σ (34 + 2 * kk) 1 = 0) c_22, cnd_f (P := 0 ≤ i ∧ i < σ (34 + 2 * kk) 3) (b_38.f c_41)]; try rfl, by simp only [shH, shN, shV, nI_clamp (show kk < 2 ^ 31 by omega), cnd_t (P := isSh (nI kk)) (b_1.t c_4), cnd_f (P := σ (34 + 2 * kk) 1 = 0) c_22, cnd_f (P := 0 ≤ i ∧ i < σ (34 + 2 * kk) 3) (b_38.f c_41)]⟩
    · refine tq_aload_n 0 (dget dX7_put 13 rfl) rfl rfl ?_
      refine tq_iconst (v := 1) (dget dX7_put 14 rfl) rfl ?_
      refine mq_Vi (As := [.int 1]) (rest := []) (dget dX7_put 15 rfl) lX7_65 miX7_faulted (c_faulted σ 1 d (by omega)) rfl rfl rfl rfl (Nat.le_of_ble_eq_true rfl) (Nat.le_of_ble_eq_true rfl) (fun r_27 σ_27 h_27 => ?_)
      obtain ⟨a_27, e_27⟩ := h_27
      rw [a_27]
      obtain rfl := e_27.symm
      exact tq_iret rfl (dget dX7_put 16 rfl) ⟨_, rfl, by simp only [shH, shN, shV, nI_clamp (show kk < 2 ^ 31 by omega), cnd_t (P := isSh (nI kk)) (b_1.t c_4), cnd_t (P := σ (34 + 2 * kk) 1 = 0) c_22]; try rfl, by simp only [shH, shN, shV, nI_clamp (show kk < 2 ^ 31 by omega), cnd_t (P := isSh (nI kk)) (b_1.t c_4), cnd_t (P := σ (34 + 2 * kk) 1 = 0) c_22]⟩
  · refine tq_aload_n 0 (dget dX7_put 3 rfl) rfl rfl ?_
    refine tq_iconst (v := (-1)) (dget dX7_put 4 rfl) rfl ?_
    refine mq_Vi (As := [.int (-1)]) (rest := []) (dget dX7_put 5 rfl) lX7_54 miX7_faultless (c_faultless σ (-1) d (by omega)) rfl rfl rfl rfl (Nat.le_of_ble_eq_true rfl) (Nat.le_of_ble_eq_true rfl) (fun r_9 σ_9 h_9 => ?_)
    obtain ⟨a_9, e_9⟩ := h_9
    rw [a_9]
    obtain rfl := e_9.symm
    exact tq_iret rfl (dget dX7_put 6 rfl) ⟨_, rfl, by simp only [shH, shN, shV, cnd_f (P := isSh k) (b_1.f c_4)], by simp only [shH, shN, shV, cnd_f (P := isSh k) (b_1.f c_4)]⟩
set_option maxHeartbeats 4000000 in
set_option maxRecDepth 20000 in
theorem c_cell (σ : Mem) (hSh : SHT σ) (k i l : Int32) (d : Nat) (hd : 1 ≤ d) : PMet d mX7_cell [.ref 0, .int k, .int i, .int l] σ (Pl (fun r σ2 => r = cnd (isSh k) (cnd (isLn l) (cnd (frF (shH σ k) (shV σ k) l = 0) (cnd (0 ≤ i ∧ i < shN σ k) (σ (35 + 2 * cl k) (cl i)).toInt64 (-9223372036854775808)) (-9223372036854775808)) (-9223372036854775808)) (-9223372036854775808) ∧ σ2 = cnd (isSh k) (cnd (isLn l) (cnd (frF (shH σ k) (shV σ k) l = 0) (cnd (0 ≤ i ∧ i < shN σ k) (up σ 0 7 0) (up σ 0 7 3)) (up σ 0 7 (frF (shH σ k) (shV σ k) l))) (up σ 0 7 0)) (up σ 0 7 0))) := by
  obtain ⟨d, rfl⟩ : ∃ e, d = e + 1 := ⟨d - 1, by omega⟩
  refine PMet.start (ls0 := [(0, .ref 0), (1, .int k), (2, .int i), (3, .int l)]) miX7_cell.1 (Nat.le_of_ble_eq_true rfl) rfl ?_
  refine tq_iload_n 1 (dget dX7_cell 0 rfl) rfl rfl ?_
  refine mq_Si (As := [.int k]) (rest := []) (dget dX7_cell 1 rfl) lX7_50 miX7_isSheet (c_isSheet σ k d (by omega)) rfl rfl (Nat.le_of_ble_eq_true rfl) (Nat.le_of_ble_eq_true rfl) (fun r_1 σ_1 h_1 => ?_)
  obtain ⟨b_1, e_1⟩ := h_1
  obtain rfl := e_1.symm
  refine tq_if_eq (tgt := 14) (dget dX7_cell 2 rfl) (by decide) (fun c_4 => ?_) (fun c_4 => ?_)
  · refine tq_aload_n 0 (dget dX7_cell 6 rfl) rfl rfl ?_
    refine tq_iconst (v := 0) (dget dX7_cell 7 rfl) rfl ?_
    refine mq_Vl (As := [.int 0]) (rest := []) (dget dX7_cell 8 rfl) lX7_216 miX7_lost (c_lost σ 0 d (by omega)) rfl rfl rfl rfl (Nat.le_of_ble_eq_true rfl) (Nat.le_of_ble_eq_true rfl) (fun r_16 σ_16 h_16 => ?_)
    obtain ⟨a_16, e_16⟩ := h_16
    rw [a_16]
    obtain rfl := e_16.symm
    exact tq_lret rfl (dget dX7_cell 9 rfl) ⟨_, rfl, by simp only [shH, shN, shV, cnd_f (P := isSh k) (b_1.f c_4)], by simp only [shH, shN, shV, cnd_f (P := isSh k) (b_1.f c_4)]⟩
  · refine tq_iload_n 3 (dget dX7_cell 3 rfl) rfl rfl ?_
    refine mq_Si (As := [.int l]) (rest := []) (dget dX7_cell 4 rfl) lX7_58 miX7_isLane (c_isLane σ l d (by omega)) rfl rfl (Nat.le_of_ble_eq_true rfl) (Nat.le_of_ble_eq_true rfl) (fun r_8 σ_8 h_8 => ?_)
    obtain ⟨b_8, e_8⟩ := h_8
    obtain rfl := e_8.symm
    refine tq_if_ne (tgt := 20) (dget dX7_cell 5 rfl) (by decide) (fun c_11 => ?_) (fun c_11 => ?_)
    · obtain ⟨kk, e_kk, hkk⟩ := isSh_n (b_1.t c_4)
      subst e_kk
      refine tq_aload_n 0 (dget dX7_cell 10 rfl) rfl rfl ?_
      refine tq_getR (dget dX7_cell 11 rfl) fX7_41 rfl rfl ?_
      refine tq_iload_n 1 (dget dX7_cell 12 rfl) rfl rfl ?_
      refine tq_sheets kk (dget dX7_cell 13 rfl) rfl (by omega) ?_
      refine tq_iload_n 3 (dget dX7_cell 14 rfl) rfl rfl ?_
      refine mq_Vi (As := [.int l]) (rest := []) (dget dX7_cell 15 rfl) lX7_220 miX4_faultOfRow (c_faultOfRow σ kk (by omega) l d (by omega)) (SH_sheet (by omega)) rfl rfl rfl (Nat.le_of_ble_eq_true rfl) (Nat.le_of_ble_eq_true rfl) (fun r_27 σ_27 h_27 => ?_)
      obtain ⟨a_27, e_27⟩ := h_27
      obtain rfl := a_27.symm
      obtain rfl := e_27.symm
      refine tq_istore (ls2 := [(4, .int (frF (σ (34 + 2 * kk) 1) (σ (34 + 2 * kk) 2) l)), (0, .ref 0), (1, .int (nI kk)), (2, .int i), (3, .int l)]) (dget dX7_cell 16 rfl) (by decide) rfl ?_
      refine tq_iload 0 (dget dX7_cell 17 rfl) rfl ?_
      refine tq_if_eq (tgt := 44) (dget dX7_cell 18 rfl) (by decide) (fun c_34 => ?_) (fun c_34 => ?_)
      · refine tq_aload_n 1 (dget dX7_cell 23 rfl) rfl rfl ?_
        refine tq_getR (dget dX7_cell 24 rfl) fX7_41 rfl rfl ?_
        refine tq_iload_n 2 (dget dX7_cell 25 rfl) rfl rfl ?_
        refine tq_sheets kk (dget dX7_cell 26 rfl) rfl (by omega) ?_
        refine tq_iload_n 3 (dget dX7_cell 27 rfl) rfl rfl ?_
        refine mq_Vi (As := [.int i]) (rest := []) (dget dX7_cell 28 rfl) lX7_210 miX4_hasCell (c_hasCell σ kk (by omega) i d (by omega)) (SH_sheet (by omega)) rfl rfl rfl (Nat.le_of_ble_eq_true rfl) (Nat.le_of_ble_eq_true rfl) (fun r_51 σ_51 h_51 => ?_)
        obtain ⟨b_51, e_51⟩ := h_51
        obtain rfl := e_51.symm
        refine tq_if_ne (tgt := 63) (dget dX7_cell 29 rfl) (by decide) (fun c_54 => ?_) (fun c_54 => ?_)
        · obtain ⟨l0, hl, el⟩ := hSh kk hkk
          obtain ⟨a, e_a, ha⟩ := kC_n (C := l0) (by omega) (b_51.t c_54).1 (by rw [← el]; exact (b_51.t c_54).2)
          subst e_a
          refine tq_aload_n 1 (dget dX7_cell 34 rfl) rfl rfl ?_
          refine tq_iconst (v := 0) (dget dX7_cell 35 rfl) rfl ?_
          refine tq_putI (dget dX7_cell 36 rfl) fX7_223 rfl rfl rfl rfl ?_
          refine tq_aload_n 1 (dget dX7_cell 37 rfl) rfl rfl ?_
          refine tq_getR (dget dX7_cell 38 rfl) fX7_41 rfl rfl ?_
          refine tq_iload_n 2 (dget dX7_cell 39 rfl) rfl rfl ?_
          refine tq_sheets kk (dget dX7_cell 40 rfl) rfl (by omega) ?_
          refine tq_getR (dget dX7_cell 41 rfl) fX7_226 (SH_sheet (by omega)) rfl ?_
          refine tq_iload_n 3 (dget dX7_cell 42 rfl) rfl rfl ?_
          refine tq_ialdN a (dget dX7_cell 43 rfl) (SH_cells (by omega)) (by decide) rfl (by omega) ?_
          refine tq_i2l (dget dX7_cell 44 rfl) ?_
          exact tq_lret rfl (dget dX7_cell 45 rfl) ⟨_, rfl, by simp only [shH, shN, shV, nI_clamp (show kk < 2 ^ 31 by omega), cnd_t (P := isSh (nI kk)) (b_1.t c_4), cnd_t (P := isLn l) (b_8.t c_11), cnd_t (P := frF (σ (34 + 2 * kk) 1) (σ (34 + 2 * kk) 2) l = 0) c_34, nI_clamp (show a < 2 ^ 31 by omega), cnd_t (P := 0 ≤ nI a ∧ nI a < σ (34 + 2 * kk) 3) (b_51.t c_54)]; exact congrArg Int32.toInt64 (congrFun (up_row (by omega)) a), by simp only [shH, shN, shV, nI_clamp (show kk < 2 ^ 31 by omega), cnd_t (P := isSh (nI kk)) (b_1.t c_4), cnd_t (P := isLn l) (b_8.t c_11), cnd_t (P := frF (σ (34 + 2 * kk) 1) (σ (34 + 2 * kk) 2) l = 0) c_34, nI_clamp (show a < 2 ^ 31 by omega), cnd_t (P := 0 ≤ nI a ∧ nI a < σ (34 + 2 * kk) 3) (b_51.t c_54)]⟩
        · refine tq_aload_n 1 (dget dX7_cell 30 rfl) rfl rfl ?_
          refine tq_iconst (v := 3) (dget dX7_cell 31 rfl) rfl ?_
          refine mq_Vl (As := [.int 3]) (rest := []) (dget dX7_cell 32 rfl) lX7_216 miX7_lost (c_lost σ 3 d (by omega)) rfl rfl rfl rfl (Nat.le_of_ble_eq_true rfl) (Nat.le_of_ble_eq_true rfl) (fun r_59 σ_59 h_59 => ?_)
          obtain ⟨a_59, e_59⟩ := h_59
          rw [a_59]
          obtain rfl := e_59.symm
          exact tq_lret rfl (dget dX7_cell 33 rfl) ⟨_, rfl, by simp only [shH, shN, shV, nI_clamp (show kk < 2 ^ 31 by omega), cnd_t (P := isSh (nI kk)) (b_1.t c_4), cnd_t (P := isLn l) (b_8.t c_11), cnd_t (P := frF (σ (34 + 2 * kk) 1) (σ (34 + 2 * kk) 2) l = 0) c_34, cnd_f (P := 0 ≤ i ∧ i < σ (34 + 2 * kk) 3) (b_51.f c_54)], by simp only [shH, shN, shV, nI_clamp (show kk < 2 ^ 31 by omega), cnd_t (P := isSh (nI kk)) (b_1.t c_4), cnd_t (P := isLn l) (b_8.t c_11), cnd_t (P := frF (σ (34 + 2 * kk) 1) (σ (34 + 2 * kk) 2) l = 0) c_34, cnd_f (P := 0 ≤ i ∧ i < σ (34 + 2 * kk) 3) (b_51.f c_54)]⟩
      · refine tq_aload_n 1 (dget dX7_cell 19 rfl) rfl rfl ?_
        refine tq_iload 0 (dget dX7_cell 20 rfl) rfl ?_
        refine mq_Vl (As := [.int (frF (σ (34 + 2 * kk) 1) (σ (34 + 2 * kk) 2) l)]) (rest := []) (dget dX7_cell 21 rfl) lX7_216 miX7_lost (c_lost σ (frF (σ (34 + 2 * kk) 1) (σ (34 + 2 * kk) 2) l) d (by omega)) rfl rfl rfl rfl (Nat.le_of_ble_eq_true rfl) (Nat.le_of_ble_eq_true rfl) (fun r_40 σ_40 h_40 => ?_)
        obtain ⟨a_40, e_40⟩ := h_40
        rw [a_40]
        obtain rfl := e_40.symm
        exact tq_lret rfl (dget dX7_cell 22 rfl) ⟨_, rfl, by simp only [shH, shN, shV, nI_clamp (show kk < 2 ^ 31 by omega), cnd_t (P := isSh (nI kk)) (b_1.t c_4), cnd_t (P := isLn l) (b_8.t c_11), cnd_f (P := frF (σ (34 + 2 * kk) 1) (σ (34 + 2 * kk) 2) l = 0) c_34], by simp only [shH, shN, shV, nI_clamp (show kk < 2 ^ 31 by omega), cnd_t (P := isSh (nI kk)) (b_1.t c_4), cnd_t (P := isLn l) (b_8.t c_11), cnd_f (P := frF (σ (34 + 2 * kk) 1) (σ (34 + 2 * kk) 2) l = 0) c_34]⟩
    · refine tq_aload_n 0 (dget dX7_cell 6 rfl) rfl rfl ?_
      refine tq_iconst (v := 0) (dget dX7_cell 7 rfl) rfl ?_
      refine mq_Vl (As := [.int 0]) (rest := []) (dget dX7_cell 8 rfl) lX7_216 miX7_lost (c_lost σ 0 d (by omega)) rfl rfl rfl rfl (Nat.le_of_ble_eq_true rfl) (Nat.le_of_ble_eq_true rfl) (fun r_16 σ_16 h_16 => ?_)
      obtain ⟨a_16, e_16⟩ := h_16
      rw [a_16]
      obtain rfl := e_16.symm
      exact tq_lret rfl (dget dX7_cell 9 rfl) ⟨_, rfl, by simp only [shH, shN, shV, cnd_t (P := isSh k) (b_1.t c_4), cnd_f (P := isLn l) (b_8.f c_11)], by simp only [shH, shN, shV, cnd_t (P := isSh k) (b_1.t c_4), cnd_f (P := isLn l) (b_8.f c_11)]⟩
theorem cells_n {x n len : Int32} {l : Nat} (h : 0 ≤ x ∧ x ≤ len ∧ 0 ≤ n ∧ n ≤ len - x) (e : len = nI l) (hl : l ≤ 100) : ∃ a N, x = nI a ∧ n = nI N ∧ a + N ≤ l := by
  subst e
  obtain ⟨a, rfl, ha⟩ := kC_n2 (C := l) (by omega) h.1 h.2.1
  have h2 := h.2.2.2
  rw [nI_subN ha] at h2
  obtain ⟨N, rfl, hN⟩ := kC_n2 (C := l - a) (by omega) h.2.2.1 h2
  exact ⟨a, N, rfl, rfl, by omega⟩
theorem copy_n {i j n len len2 : Int32} {l l2 : Nat} (h1 : 0 ≤ i ∧ i ≤ len ∧ 0 ≤ n ∧ n ≤ len - i) (h2 : 0 ≤ j ∧ j ≤ len2 ∧ 0 ≤ n ∧ n ≤ len2 - j) (e1 : len = nI l) (e2 : len2 = nI l2) (hl : l ≤ 100) (hl2 : l2 ≤ 100) : ∃ a b N, i = nI a ∧ j = nI b ∧ n = nI N ∧ a + N ≤ 100 ∧ b + N ≤ 100 := by
  obtain ⟨a, N, ha, hN, h3⟩ := cells_n h1 e1 hl
  obtain ⟨b, N2, hb, hN2, h4⟩ := cells_n h2 e2 hl2
  have e : N = N2 := n_eq (by omega) (by omega) (hN.symm.trans hN2)
  subst e
  exact ⟨a, b, N, ha, hb, hN, by omega, by omega⟩

set_option maxHeartbeats 4000000 in
set_option maxRecDepth 20000 in
theorem c_copy (σ : Mem) (hSh : SHT σ) (k i o j n : Int32) (d : Nat) (hd : 1 ≤ d) : PMet d mX7_copy [.ref 0, .int k, .int i, .int o, .int j, .int n] σ (Pi (fun r σ2 => r = cnd (isSh k) (cnd (isSh o) (cnd (shH σ k = 0) (-11) (cnd (shH σ o = 0) (-11) (cnd (shV σ k = shV σ o) (cnd (0 ≤ i ∧ i ≤ shN σ k ∧ 0 ≤ n ∧ n ≤ shN σ k - i) (cnd (0 ≤ j ∧ j ≤ shN σ o ∧ 0 ≤ n ∧ n ≤ shN σ o - j) n (-13)) (-13)) (-12)))) (-1)) (-1) ∧ σ2 = cnd (isSh k) (cnd (isSh o) (cnd (shH σ k = 0) (up σ 0 7 1) (cnd (shH σ o = 0) (up σ 0 7 1) (cnd (shV σ k = shV σ o) (cnd (0 ≤ i ∧ i ≤ shN σ k ∧ 0 ≤ n ∧ n ≤ shN σ k - i) (cnd (0 ≤ j ∧ j ≤ shN σ o ∧ 0 ≤ n ∧ n ≤ shN σ o - j) (up (upR σ (35 + 2 * cl o) (va_cpy (σ (35 + 2 * cl k)) (σ (35 + 2 * cl o)) (cl i) (cl j) (cl n))) 0 7 0) (up σ 0 7 3)) (up σ 0 7 3)) (up σ 0 7 2)))) (up σ 0 7 0)) (up σ 0 7 0))) := by
  obtain ⟨d, rfl⟩ : ∃ e, d = e + 1 := ⟨d - 1, by omega⟩
  refine PMet.start (ls0 := [(0, .ref 0), (1, .int k), (2, .int i), (3, .int o), (4, .int j), (5, .int n)]) miX7_copy.1 (Nat.le_of_ble_eq_true rfl) rfl ?_
  refine tq_iload_n 1 (dget dX7_copy 0 rfl) rfl rfl ?_
  refine mq_Si (As := [.int k]) (rest := []) (dget dX7_copy 1 rfl) lX7_50 miX7_isSheet (c_isSheet σ k d (by omega)) rfl rfl (Nat.le_of_ble_eq_true rfl) (Nat.le_of_ble_eq_true rfl) (fun r_1 σ_1 h_1 => ?_)
  obtain ⟨b_1, e_1⟩ := h_1
  obtain rfl := e_1.symm
  refine tq_if_eq (tgt := 14) (dget dX7_copy 2 rfl) (by decide) (fun c_4 => ?_) (fun c_4 => ?_)
  · refine tq_aload_n 0 (dget dX7_copy 6 rfl) rfl rfl ?_
    refine tq_iconst (v := (-1)) (dget dX7_copy 7 rfl) rfl ?_
    refine mq_Vi (As := [.int (-1)]) (rest := []) (dget dX7_copy 8 rfl) lX7_54 miX7_faultless (c_faultless σ (-1) d (by omega)) rfl rfl rfl rfl (Nat.le_of_ble_eq_true rfl) (Nat.le_of_ble_eq_true rfl) (fun r_16 σ_16 h_16 => ?_)
    obtain ⟨a_16, e_16⟩ := h_16
    rw [a_16]
    obtain rfl := e_16.symm
    exact tq_iret rfl (dget dX7_copy 9 rfl) ⟨_, rfl, by simp only [shH, shN, shV, cnd_f (P := isSh k) (b_1.f c_4)], by simp only [shH, shN, shV, cnd_f (P := isSh k) (b_1.f c_4)]⟩
  · refine tq_iload_n 3 (dget dX7_copy 3 rfl) rfl rfl ?_
    refine mq_Si (As := [.int o]) (rest := []) (dget dX7_copy 4 rfl) lX7_50 miX7_isSheet (c_isSheet σ o d (by omega)) rfl rfl (Nat.le_of_ble_eq_true rfl) (Nat.le_of_ble_eq_true rfl) (fun r_8 σ_8 h_8 => ?_)
    obtain ⟨b_8, e_8⟩ := h_8
    obtain rfl := e_8.symm
    refine tq_if_ne (tgt := 20) (dget dX7_copy 5 rfl) (by decide) (fun c_11 => ?_) (fun c_11 => ?_)
    · obtain ⟨kk, e_kk, hkk⟩ := isSh_n (b_1.t c_4)
      subst e_kk
      obtain ⟨oo, e_oo, hoo⟩ := isSh_n (b_8.t c_11)
      subst e_oo
      refine tq_aload_n 0 (dget dX7_copy 10 rfl) rfl rfl ?_
      refine tq_getR (dget dX7_copy 11 rfl) fX7_41 rfl rfl ?_
      refine tq_iload_n 1 (dget dX7_copy 12 rfl) rfl rfl ?_
      refine tq_sheets kk (dget dX7_copy 13 rfl) rfl (by omega) ?_
      refine tq_getI (dget dX7_copy 14 rfl) fX7_206 (SH_sheet (by omega)) rfl ?_
      refine tq_if_eq (tgt := 44) (dget dX7_copy 15 rfl) (by decide) (fun c_29 => ?_) (fun c_29 => ?_)
      · refine tq_aload_n 0 (dget dX7_copy 22 rfl) rfl rfl ?_
        refine tq_iconst (v := 1) (dget dX7_copy 23 rfl) rfl ?_
        refine mq_Vi (As := [.int 1]) (rest := []) (dget dX7_copy 24 rfl) lX7_65 miX7_faulted (c_faulted σ 1 d (by omega)) rfl rfl rfl rfl (Nat.le_of_ble_eq_true rfl) (Nat.le_of_ble_eq_true rfl) (fun r_46 σ_46 h_46 => ?_)
        obtain ⟨a_46, e_46⟩ := h_46
        rw [a_46]
        obtain rfl := e_46.symm
        exact tq_iret rfl (dget dX7_copy 25 rfl) ⟨_, rfl, by simp only [shH, shN, shV, nI_clamp (show kk < 2 ^ 31 by omega), nI_clamp (show oo < 2 ^ 31 by omega), cnd_t (P := isSh (nI kk)) (b_1.t c_4), cnd_t (P := isSh (nI oo)) (b_8.t c_11), cnd_t (P := σ (34 + 2 * kk) 1 = 0) c_29]; try rfl, by simp only [shH, shN, shV, nI_clamp (show kk < 2 ^ 31 by omega), nI_clamp (show oo < 2 ^ 31 by omega), cnd_t (P := isSh (nI kk)) (b_1.t c_4), cnd_t (P := isSh (nI oo)) (b_8.t c_11), cnd_t (P := σ (34 + 2 * kk) 1 = 0) c_29]⟩
      · refine tq_aload_n 0 (dget dX7_copy 16 rfl) rfl rfl ?_
        refine tq_getR (dget dX7_copy 17 rfl) fX7_41 rfl rfl ?_
        refine tq_iload_n 3 (dget dX7_copy 18 rfl) rfl rfl ?_
        refine tq_sheets oo (dget dX7_copy 19 rfl) rfl (by omega) ?_
        refine tq_getI (dget dX7_copy 20 rfl) fX7_206 (SH_sheet (by omega)) rfl ?_
        refine tq_if_ne (tgt := 50) (dget dX7_copy 21 rfl) (by decide) (fun c_41 => ?_) (fun c_41 => ?_)
        · refine tq_aload_n 0 (dget dX7_copy 26 rfl) rfl rfl ?_
          refine tq_getR (dget dX7_copy 27 rfl) fX7_41 rfl rfl ?_
          refine tq_iload_n 1 (dget dX7_copy 28 rfl) rfl rfl ?_
          refine tq_sheets kk (dget dX7_copy 29 rfl) rfl (by omega) ?_
          refine tq_getI (dget dX7_copy 30 rfl) fX7_229 (SH_sheet (by omega)) rfl ?_
          refine tq_aload_n 0 (dget dX7_copy 31 rfl) rfl rfl ?_
          refine tq_getR (dget dX7_copy 32 rfl) fX7_41 rfl rfl ?_
          refine tq_iload_n 3 (dget dX7_copy 33 rfl) rfl rfl ?_
          refine tq_sheets oo (dget dX7_copy 34 rfl) rfl (by omega) ?_
          refine tq_getI (dget dX7_copy 35 rfl) fX7_229 (SH_sheet (by omega)) rfl ?_
          refine tq_icmp_eq (tgt := 77) (dget dX7_copy 36 rfl) (by decide) (fun c_68 => ?_) (fun c_68 => ?_)
          · refine tq_aload_n 0 (dget dX7_copy 41 rfl) rfl rfl ?_
            refine tq_getR (dget dX7_copy 42 rfl) fX7_41 rfl rfl ?_
            refine tq_iload_n 1 (dget dX7_copy 43 rfl) rfl rfl ?_
            refine tq_sheets kk (dget dX7_copy 44 rfl) rfl (by omega) ?_
            refine tq_iload_n 2 (dget dX7_copy 45 rfl) rfl rfl ?_
            refine tq_iload 5 (dget dX7_copy 46 rfl) rfl ?_
            refine mq_Vi (As := [.int i, .int n]) (rest := []) (dget dX7_copy 47 rfl) lX7_232 miX4_hasCells (c_hasCells σ kk (by omega) i n d (by omega)) (SH_sheet (by omega)) rfl rfl rfl (Nat.le_of_ble_eq_true rfl) (Nat.le_of_ble_eq_true rfl) (fun r_86 σ_86 h_86 => ?_)
            obtain ⟨b_86, e_86⟩ := h_86
            obtain rfl := e_86.symm
            refine tq_if_eq (tgt := 108) (dget dX7_copy 48 rfl) (by decide) (fun c_89 => ?_) (fun c_89 => ?_)
            · refine tq_aload_n 0 (dget dX7_copy 57 rfl) rfl rfl ?_
              refine tq_iconst (v := 3) (dget dX7_copy 58 rfl) rfl ?_
              refine mq_Vi (As := [.int 3]) (rest := []) (dget dX7_copy 59 rfl) lX7_65 miX7_faulted (c_faulted σ 3 d (by omega)) rfl rfl rfl rfl (Nat.le_of_ble_eq_true rfl) (Nat.le_of_ble_eq_true rfl) (fun r_110 σ_110 h_110 => ?_)
              obtain ⟨a_110, e_110⟩ := h_110
              rw [a_110]
              obtain rfl := e_110.symm
              exact tq_iret rfl (dget dX7_copy 60 rfl) ⟨_, rfl, by simp only [shH, shN, shV, nI_clamp (show kk < 2 ^ 31 by omega), nI_clamp (show oo < 2 ^ 31 by omega), cnd_t (P := isSh (nI kk)) (b_1.t c_4), cnd_t (P := isSh (nI oo)) (b_8.t c_11), cnd_f (P := σ (34 + 2 * kk) 1 = 0) c_29, cnd_f (P := σ (34 + 2 * oo) 1 = 0) c_41, cnd_t (P := σ (34 + 2 * kk) 2 = σ (34 + 2 * oo) 2) c_68, cnd_f (P := 0 ≤ i ∧ i ≤ σ (34 + 2 * kk) 3 ∧ 0 ≤ n ∧ n ≤ σ (34 + 2 * kk) 3 - i) (b_86.f c_89)]; try rfl, by simp only [shH, shN, shV, nI_clamp (show kk < 2 ^ 31 by omega), nI_clamp (show oo < 2 ^ 31 by omega), cnd_t (P := isSh (nI kk)) (b_1.t c_4), cnd_t (P := isSh (nI oo)) (b_8.t c_11), cnd_f (P := σ (34 + 2 * kk) 1 = 0) c_29, cnd_f (P := σ (34 + 2 * oo) 1 = 0) c_41, cnd_t (P := σ (34 + 2 * kk) 2 = σ (34 + 2 * oo) 2) c_68, cnd_f (P := 0 ≤ i ∧ i ≤ σ (34 + 2 * kk) 3 ∧ 0 ≤ n ∧ n ≤ σ (34 + 2 * kk) 3 - i) (b_86.f c_89)]⟩
            · refine tq_aload_n 0 (dget dX7_copy 49 rfl) rfl rfl ?_
              refine tq_getR (dget dX7_copy 50 rfl) fX7_41 rfl rfl ?_
              refine tq_iload_n 3 (dget dX7_copy 51 rfl) rfl rfl ?_
              refine tq_sheets oo (dget dX7_copy 52 rfl) rfl (by omega) ?_
              refine tq_iload 4 (dget dX7_copy 53 rfl) rfl ?_
              refine tq_iload 5 (dget dX7_copy 54 rfl) rfl ?_
              refine mq_Vi (As := [.int j, .int n]) (rest := []) (dget dX7_copy 55 rfl) lX7_232 miX4_hasCells (c_hasCells σ oo (by omega) j n d (by omega)) (SH_sheet (by omega)) rfl rfl rfl (Nat.le_of_ble_eq_true rfl) (Nat.le_of_ble_eq_true rfl) (fun r_102 σ_102 h_102 => ?_)
              obtain ⟨b_102, e_102⟩ := h_102
              obtain rfl := e_102.symm
              refine tq_if_ne (tgt := 114) (dget dX7_copy 56 rfl) (by decide) (fun c_105 => ?_) (fun c_105 => ?_)
              · obtain ⟨l, hl, el⟩ := hSh kk hkk
                obtain ⟨l2, hl2, el2⟩ := hSh oo hoo
                obtain ⟨a, b, N, e_a, e_b, e_N, h_a, h_b⟩ := copy_n (b_86.t c_89) (b_102.t c_105) el el2 hl hl2
                subst e_a
                subst e_b
                subst e_N
                refine tq_aload_n 0 (dget dX7_copy 61 rfl) rfl rfl ?_
                refine tq_getR (dget dX7_copy 62 rfl) fX7_41 rfl rfl ?_
                refine tq_iload_n 1 (dget dX7_copy 63 rfl) rfl rfl ?_
                refine tq_sheets kk (dget dX7_copy 64 rfl) rfl (by omega) ?_
                refine tq_getR (dget dX7_copy 65 rfl) fX7_226 (SH_sheet (by omega)) rfl ?_
                refine tq_iload_n 2 (dget dX7_copy 66 rfl) rfl rfl ?_
                refine tq_aload_n 0 (dget dX7_copy 67 rfl) rfl rfl ?_
                refine tq_getR (dget dX7_copy 68 rfl) fX7_41 rfl rfl ?_
                refine tq_iload_n 3 (dget dX7_copy 69 rfl) rfl rfl ?_
                refine tq_sheets oo (dget dX7_copy 70 rfl) rfl (by omega) ?_
                refine tq_getR (dget dX7_copy 71 rfl) fX7_226 (SH_sheet (by omega)) rfl ?_
                refine tq_iload 4 (dget dX7_copy 72 rfl) rfl ?_
                refine tq_iload 5 (dget dX7_copy 73 rfl) rfl ?_
                refine tq_copy (dget dX7_copy 74 rfl) (tblG_3 65 rfl rfl) (tblG_1 237 rfl rfl) (tblG_1 236 rfl rfl) (tblG_1 9 rfl rfl) (SH_cells (by omega)) (SH_cells (by omega)) (nI_pos (by omega)) (nI_pos (by omega)) (nI_pos (by omega)) (by rw [nI_clamp (by omega), nI_clamp (by omega)]; exact h_a) (by rw [nI_clamp (by omega), nI_clamp (by omega)]; exact h_b) (by show 1 ≤ d + 1; omega) (by show _ ≤ 40 * (d + 1); have h0 : 40 ≤ 40 * (d + 1) := (by omega); exact Nat.le_trans (Nat.le_of_ble_eq_true rfl) h0) ?_
                refine tq_aload_n 0 (dget dX7_copy 75 rfl) rfl rfl ?_
                refine tq_iload 5 (dget dX7_copy 76 rfl) rfl ?_
                refine mq_Vi (As := [.int (nI N)]) (rest := []) (dget dX7_copy 77 rfl) lX7_54 miX7_faultless (c_faultless (upR σ (35 + 2 * oo) (va_cpy (σ (35 + 2 * kk)) (σ (35 + 2 * oo)) (nI a).toNatClampNeg (nI b).toNatClampNeg (nI N).toNatClampNeg)) (nI N) d (by omega)) rfl rfl rfl rfl (Nat.le_of_ble_eq_true rfl) (Nat.le_of_ble_eq_true rfl) (fun r_143 σ_143 h_143 => ?_)
                obtain ⟨a_143, e_143⟩ := h_143
                rw [a_143]
                obtain rfl := e_143.symm
                exact tq_iret rfl (dget dX7_copy 78 rfl) ⟨_, rfl, by simp only [shH, shN, shV, nI_clamp (show kk < 2 ^ 31 by omega), nI_clamp (show oo < 2 ^ 31 by omega), cnd_t (P := isSh (nI kk)) (b_1.t c_4), cnd_t (P := isSh (nI oo)) (b_8.t c_11), cnd_f (P := σ (34 + 2 * kk) 1 = 0) c_29, cnd_f (P := σ (34 + 2 * oo) 1 = 0) c_41, cnd_t (P := σ (34 + 2 * kk) 2 = σ (34 + 2 * oo) 2) c_68, nI_clamp (show a < 2 ^ 31 by omega), nI_clamp (show b < 2 ^ 31 by omega), nI_clamp (show N < 2 ^ 31 by omega), cnd_t (P := 0 ≤ nI a ∧ nI a ≤ σ (34 + 2 * kk) 3 ∧ 0 ≤ nI N ∧ nI N ≤ σ (34 + 2 * kk) 3 - nI a) (b_86.t c_89), cnd_t (P := 0 ≤ nI b ∧ nI b ≤ σ (34 + 2 * oo) 3 ∧ 0 ≤ nI N ∧ nI N ≤ σ (34 + 2 * oo) 3 - nI b) (b_102.t c_105)], by simp only [shH, shN, shV, nI_clamp (show kk < 2 ^ 31 by omega), nI_clamp (show oo < 2 ^ 31 by omega), cnd_t (P := isSh (nI kk)) (b_1.t c_4), cnd_t (P := isSh (nI oo)) (b_8.t c_11), cnd_f (P := σ (34 + 2 * kk) 1 = 0) c_29, cnd_f (P := σ (34 + 2 * oo) 1 = 0) c_41, cnd_t (P := σ (34 + 2 * kk) 2 = σ (34 + 2 * oo) 2) c_68, nI_clamp (show a < 2 ^ 31 by omega), nI_clamp (show b < 2 ^ 31 by omega), nI_clamp (show N < 2 ^ 31 by omega), cnd_t (P := 0 ≤ nI a ∧ nI a ≤ σ (34 + 2 * kk) 3 ∧ 0 ≤ nI N ∧ nI N ≤ σ (34 + 2 * kk) 3 - nI a) (b_86.t c_89), cnd_t (P := 0 ≤ nI b ∧ nI b ≤ σ (34 + 2 * oo) 3 ∧ 0 ≤ nI N ∧ nI N ≤ σ (34 + 2 * oo) 3 - nI b) (b_102.t c_105)]⟩
              · refine tq_aload_n 0 (dget dX7_copy 57 rfl) rfl rfl ?_
                refine tq_iconst (v := 3) (dget dX7_copy 58 rfl) rfl ?_
                refine mq_Vi (As := [.int 3]) (rest := []) (dget dX7_copy 59 rfl) lX7_65 miX7_faulted (c_faulted σ 3 d (by omega)) rfl rfl rfl rfl (Nat.le_of_ble_eq_true rfl) (Nat.le_of_ble_eq_true rfl) (fun r_110 σ_110 h_110 => ?_)
                obtain ⟨a_110, e_110⟩ := h_110
                rw [a_110]
                obtain rfl := e_110.symm
                exact tq_iret rfl (dget dX7_copy 60 rfl) ⟨_, rfl, by simp only [shH, shN, shV, nI_clamp (show kk < 2 ^ 31 by omega), nI_clamp (show oo < 2 ^ 31 by omega), cnd_t (P := isSh (nI kk)) (b_1.t c_4), cnd_t (P := isSh (nI oo)) (b_8.t c_11), cnd_f (P := σ (34 + 2 * kk) 1 = 0) c_29, cnd_f (P := σ (34 + 2 * oo) 1 = 0) c_41, cnd_t (P := σ (34 + 2 * kk) 2 = σ (34 + 2 * oo) 2) c_68, cnd_t (P := 0 ≤ i ∧ i ≤ σ (34 + 2 * kk) 3 ∧ 0 ≤ n ∧ n ≤ σ (34 + 2 * kk) 3 - i) (b_86.t c_89), cnd_f (P := 0 ≤ j ∧ j ≤ σ (34 + 2 * oo) 3 ∧ 0 ≤ n ∧ n ≤ σ (34 + 2 * oo) 3 - j) (b_102.f c_105)]; try rfl, by simp only [shH, shN, shV, nI_clamp (show kk < 2 ^ 31 by omega), nI_clamp (show oo < 2 ^ 31 by omega), cnd_t (P := isSh (nI kk)) (b_1.t c_4), cnd_t (P := isSh (nI oo)) (b_8.t c_11), cnd_f (P := σ (34 + 2 * kk) 1 = 0) c_29, cnd_f (P := σ (34 + 2 * oo) 1 = 0) c_41, cnd_t (P := σ (34 + 2 * kk) 2 = σ (34 + 2 * oo) 2) c_68, cnd_t (P := 0 ≤ i ∧ i ≤ σ (34 + 2 * kk) 3 ∧ 0 ≤ n ∧ n ≤ σ (34 + 2 * kk) 3 - i) (b_86.t c_89), cnd_f (P := 0 ≤ j ∧ j ≤ σ (34 + 2 * oo) 3 ∧ 0 ≤ n ∧ n ≤ σ (34 + 2 * oo) 3 - j) (b_102.f c_105)]⟩
          · refine tq_aload_n 0 (dget dX7_copy 37 rfl) rfl rfl ?_
            refine tq_iconst (v := 2) (dget dX7_copy 38 rfl) rfl ?_
            refine mq_Vi (As := [.int 2]) (rest := []) (dget dX7_copy 39 rfl) lX7_65 miX7_faulted (c_faulted σ 2 d (by omega)) rfl rfl rfl rfl (Nat.le_of_ble_eq_true rfl) (Nat.le_of_ble_eq_true rfl) (fun r_73 σ_73 h_73 => ?_)
            obtain ⟨a_73, e_73⟩ := h_73
            rw [a_73]
            obtain rfl := e_73.symm
            exact tq_iret rfl (dget dX7_copy 40 rfl) ⟨_, rfl, by simp only [shH, shN, shV, nI_clamp (show kk < 2 ^ 31 by omega), nI_clamp (show oo < 2 ^ 31 by omega), cnd_t (P := isSh (nI kk)) (b_1.t c_4), cnd_t (P := isSh (nI oo)) (b_8.t c_11), cnd_f (P := σ (34 + 2 * kk) 1 = 0) c_29, cnd_f (P := σ (34 + 2 * oo) 1 = 0) c_41, cnd_f (P := σ (34 + 2 * kk) 2 = σ (34 + 2 * oo) 2) c_68]; try rfl, by simp only [shH, shN, shV, nI_clamp (show kk < 2 ^ 31 by omega), nI_clamp (show oo < 2 ^ 31 by omega), cnd_t (P := isSh (nI kk)) (b_1.t c_4), cnd_t (P := isSh (nI oo)) (b_8.t c_11), cnd_f (P := σ (34 + 2 * kk) 1 = 0) c_29, cnd_f (P := σ (34 + 2 * oo) 1 = 0) c_41, cnd_f (P := σ (34 + 2 * kk) 2 = σ (34 + 2 * oo) 2) c_68]⟩
        · refine tq_aload_n 0 (dget dX7_copy 22 rfl) rfl rfl ?_
          refine tq_iconst (v := 1) (dget dX7_copy 23 rfl) rfl ?_
          refine mq_Vi (As := [.int 1]) (rest := []) (dget dX7_copy 24 rfl) lX7_65 miX7_faulted (c_faulted σ 1 d (by omega)) rfl rfl rfl rfl (Nat.le_of_ble_eq_true rfl) (Nat.le_of_ble_eq_true rfl) (fun r_46 σ_46 h_46 => ?_)
          obtain ⟨a_46, e_46⟩ := h_46
          rw [a_46]
          obtain rfl := e_46.symm
          exact tq_iret rfl (dget dX7_copy 25 rfl) ⟨_, rfl, by simp only [shH, shN, shV, nI_clamp (show kk < 2 ^ 31 by omega), nI_clamp (show oo < 2 ^ 31 by omega), cnd_t (P := isSh (nI kk)) (b_1.t c_4), cnd_t (P := isSh (nI oo)) (b_8.t c_11), cnd_f (P := σ (34 + 2 * kk) 1 = 0) c_29, cnd_t (P := σ (34 + 2 * oo) 1 = 0) c_41]; try rfl, by simp only [shH, shN, shV, nI_clamp (show kk < 2 ^ 31 by omega), nI_clamp (show oo < 2 ^ 31 by omega), cnd_t (P := isSh (nI kk)) (b_1.t c_4), cnd_t (P := isSh (nI oo)) (b_8.t c_11), cnd_f (P := σ (34 + 2 * kk) 1 = 0) c_29, cnd_t (P := σ (34 + 2 * oo) 1 = 0) c_41]⟩
    · refine tq_aload_n 0 (dget dX7_copy 6 rfl) rfl rfl ?_
      refine tq_iconst (v := (-1)) (dget dX7_copy 7 rfl) rfl ?_
      refine mq_Vi (As := [.int (-1)]) (rest := []) (dget dX7_copy 8 rfl) lX7_54 miX7_faultless (c_faultless σ (-1) d (by omega)) rfl rfl rfl rfl (Nat.le_of_ble_eq_true rfl) (Nat.le_of_ble_eq_true rfl) (fun r_16 σ_16 h_16 => ?_)
      obtain ⟨a_16, e_16⟩ := h_16
      rw [a_16]
      obtain rfl := e_16.symm
      exact tq_iret rfl (dget dX7_copy 9 rfl) ⟨_, rfl, by simp only [shH, shN, shV, cnd_t (P := isSh k) (b_1.t c_4), cnd_f (P := isSh o) (b_8.f c_11)], by simp only [shH, shN, shV, cnd_t (P := isSh k) (b_1.t c_4), cnd_f (P := isSh o) (b_8.f c_11)]⟩
end
section
/-! ===== the class's public calls (5): a row asked, a text ===== -/
def fcS (σ : Mem) (k l i n : Int32) : Int32 := fcF (shH σ k) (shV σ k) (shN σ k) l i n
def ceS (σ : Mem) (k i : Int32) (j : Nat) : Int32 := σ (35 + 2 * cl k) (cl i + j)
def aqP (σ : Mem) (x k i : Int32) : Nat → Prop := fun j => ¬ ansF (σ 1 2) (σ 2 (cl x)) (σ (4 + cl x) (cl (ceS σ k i j))) (nI j) = 3
def aqF (σ : Mem) (x k i : Int32) : Nat → Int32 := fun j => σ (4 + cl x) (cl (ceS σ k i j))
theorem fc_0 {σ : Mem} {k l i n : Int32} (h : fcS σ k l i n = 0) : 0 ≤ i ∧ i ≤ shN σ k ∧ 0 ≤ n ∧ n ≤ shN σ k - i := by
  unfold fcS fcF at h
  by_cases h1 : frF (shH σ k) (shV σ k) l = 0
  · rw [if_neg (fun q => q h1)] at h
    by_cases h2 : n < 0
    · rw [if_pos h2] at h; exact absurd h (by decide)
    · rw [if_neg h2] at h
      by_cases h3 : 0 ≤ i ∧ i ≤ shN σ k ∧ 0 ≤ n ∧ n ≤ shN σ k - i
      · exact h3
      · rw [if_neg h3] at h; exact absurd h (by decide)
  · rw [if_pos h1] at h; exact absurd h h1
theorem mem_33 {σ τ : Mem} {f : Nat → Int32} (h : upR σ 33 f = τ) : τ = upR σ 33 (τ 33) := by rw [← h, upR_s]

set_option maxHeartbeats 4000000 in
set_option maxRecDepth 20000 in
theorem c_asked (σ : Mem) (S M : Nat) (hV : VA σ S M) (hSh : SHT σ) (x k l i n z : Int32) (d : Nat) (hd : 3 ≤ d) : PMet d mX7_asked [.ref 0, .int x, .int k, .int l, .int i, .int n, .int z] σ (Pi (fun v σ2 => v = cnd (hM σ x) (cnd (isSh k) (cnd (isLn l) (cnd (z = 0 ∨ z = 1) (cnd (fcS σ k l i n = 0) (cnd (1 ≤ n ∧ n ≤ 8) (cnd (∀ j, j < cl n → hS σ (ceS σ k i j)) (cnd (z = 0) (bestF (σ 1 2) (aqF σ x k i) (cl n)) (mndR (aqP σ x k i) (aqF σ x k i) (cl n) 0)) (-1)) (-2)) (-10 - fcS σ k l i n)) (-2)) (-2)) (-1)) (-1) ∧ ∃ ρ, σ2 = up (upR σ 33 ρ) 0 7 (cnd (hM σ x) (cnd (isSh k) (cnd (isLn l) (cnd (z = 0 ∨ z = 1) (fcS σ k l i n) 0) 0) 0) 0))) := by
  obtain ⟨d, rfl⟩ : ∃ e, d = e + 1 := ⟨d - 1, by omega⟩
  refine PMet.start (ls0 := [(0, .ref 0), (1, .int x), (2, .int k), (3, .int l), (4, .int i), (5, .int n), (6, .int z)]) miX7_asked.1 (Nat.le_of_ble_eq_true rfl) rfl ?_
  refine tq_aload_n 0 (dget dX7_asked 0 rfl) rfl rfl ?_
  refine tq_getR (dget dX7_asked 1 rfl) fX7_12 rfl rfl ?_
  refine tq_iload_n 1 (dget dX7_asked 2 rfl) rfl rfl ?_
  refine mq_Vi (As := [.int x]) (rest := []) (dget dX7_asked 3 rfl) lX7_92 miX6_hasMaid (c_hasMaid σ x d (by omega)) rfl rfl rfl rfl (Nat.le_of_ble_eq_true rfl) (Nat.le_of_ble_eq_true rfl) (fun r_5 σ_5 h_5 => ?_)
  obtain ⟨b_5, e_5⟩ := h_5
  obtain rfl := e_5.symm
  refine tq_if_eq (tgt := 18) (dget dX7_asked 4 rfl) (by decide) (fun c_8 => ?_) (fun c_8 => ?_)
  · refine tq_aload_n 0 (dget dX7_asked 8 rfl) rfl rfl ?_
    refine tq_iconst (v := (-1)) (dget dX7_asked 9 rfl) rfl ?_
    refine mq_Vi (As := [.int (-1)]) (rest := []) (dget dX7_asked 10 rfl) lX7_54 miX7_faultless (c_faultless σ (-1) d (by omega)) rfl rfl rfl rfl (Nat.le_of_ble_eq_true rfl) (Nat.le_of_ble_eq_true rfl) (fun r_20 σ_20 h_20 => ?_)
    obtain ⟨a_20, e_20⟩ := h_20
    rw [a_20]
    obtain rfl := e_20.symm
    exact tq_iret rfl (dget dX7_asked 11 rfl) ⟨_, rfl, by simp only [cnd_f (P := hM σ x) (b_5.f c_8)], σ 33, by simp only [cnd_f (P := hM σ x) (b_5.f c_8)]; rw [upR_self]⟩
  · refine tq_iload_n 2 (dget dX7_asked 5 rfl) rfl rfl ?_
    refine mq_Si (As := [.int k]) (rest := []) (dget dX7_asked 6 rfl) lX7_50 miX7_isSheet (c_isSheet σ k d (by omega)) rfl rfl (Nat.le_of_ble_eq_true rfl) (Nat.le_of_ble_eq_true rfl) (fun r_12 σ_12 h_12 => ?_)
    obtain ⟨b_12, e_12⟩ := h_12
    obtain rfl := e_12.symm
    refine tq_if_ne (tgt := 24) (dget dX7_asked 7 rfl) (by decide) (fun c_15 => ?_) (fun c_15 => ?_)
    · obtain ⟨m, e_m, hm, hm4⟩ := hM_n hV (b_5.t c_8)
      subst e_m
      obtain ⟨kk, e_kk, hkk⟩ := isSh_n (b_12.t c_15)
      subst e_kk
      refine tq_iload_n 3 (dget dX7_asked 12 rfl) rfl rfl ?_
      refine mq_Si (As := [.int l]) (rest := []) (dget dX7_asked 13 rfl) lX7_58 miX7_isLane (c_isLane σ l d (by omega)) rfl rfl (Nat.le_of_ble_eq_true rfl) (Nat.le_of_ble_eq_true rfl) (fun r_25 σ_25 h_25 => ?_)
      obtain ⟨b_25, e_25⟩ := h_25
      obtain rfl := e_25.symm
      refine tq_if_eq (tgt := 42) (dget dX7_asked 14 rfl) (by decide) (fun c_28 => ?_) (fun c_28 => ?_)
      · refine tq_aload_n 0 (dget dX7_asked 20 rfl) rfl rfl ?_
        refine tq_bipush (v := (-2)) (dget dX7_asked 21 rfl) rfl ?_
        refine mq_Vi (As := [.int (-2)]) (rest := []) (dget dX7_asked 22 rfl) lX7_54 miX7_faultless (c_faultless σ (-2) d (by omega)) rfl rfl rfl rfl (Nat.le_of_ble_eq_true rfl) (Nat.le_of_ble_eq_true rfl) (fun r_45 σ_45 h_45 => ?_)
        obtain ⟨a_45, e_45⟩ := h_45
        rw [a_45]
        obtain rfl := e_45.symm
        exact tq_iret rfl (dget dX7_asked 23 rfl) ⟨_, rfl, by simp only [cnd_t (P := hM σ (nI m)) (b_5.t c_8), cnd_t (P := isSh (nI kk)) (b_12.t c_15), cnd_f (P := isLn l) (b_25.f c_28)], σ 33, by simp only [cnd_t (P := hM σ (nI m)) (b_5.t c_8), cnd_t (P := isSh (nI kk)) (b_12.t c_15), cnd_f (P := isLn l) (b_25.f c_28)]; rw [upR_self]⟩
      · refine tq_iload 6 (dget dX7_asked 15 rfl) rfl ?_
        refine tq_if_eq (tgt := 49) (dget dX7_asked 16 rfl) (by decide) (fun c_33 => ?_) (fun c_33 => ?_)
        · refine tq_aload_n 0 (dget dX7_asked 24 rfl) rfl rfl ?_
          refine tq_getR (dget dX7_asked 25 rfl) fX7_41 rfl rfl ?_
          refine tq_iload_n 2 (dget dX7_asked 26 rfl) rfl rfl ?_
          refine tq_sheets kk (dget dX7_asked 27 rfl) rfl (by omega) ?_
          refine tq_iload_n 3 (dget dX7_asked 28 rfl) rfl rfl ?_
          refine tq_iload 4 (dget dX7_asked 29 rfl) rfl ?_
          refine tq_iload 5 (dget dX7_asked 30 rfl) rfl ?_
          refine mq_Vi (As := [.int l, .int i, .int n]) (rest := []) (dget dX7_asked 31 rfl) lX7_61 miX4_faultOfCells (c_faultOfCells σ kk (by omega) l i n d (by omega)) (SH_sheet (by omega)) rfl rfl rfl (Nat.le_of_ble_eq_true rfl) (Nat.le_of_ble_eq_true rfl) (fun r_60 σ_60 h_60 => ?_)
          obtain ⟨a_60, e_60⟩ := h_60
          obtain rfl := a_60.symm
          obtain rfl := e_60.symm
          refine tq_istore (ls2 := [(7, .int (fcF (σ (34 + 2 * kk) 1) (σ (34 + 2 * kk) 2) (σ (34 + 2 * kk) 3) l i n)), (0, .ref 0), (1, .int (nI m)), (2, .int (nI kk)), (3, .int l), (4, .int i), (5, .int n), (6, .int z)]) (dget dX7_asked 32 rfl) (by decide) rfl ?_
          refine tq_iload 0 (dget dX7_asked 33 rfl) rfl ?_
          refine tq_if_eq (tgt := 77) (dget dX7_asked 34 rfl) (by decide) (fun c_67 => ?_) (fun c_67 => ?_)
          · have gF : fcS σ (nI kk) l i n = 0 := by unfold fcS shH shV shN; rw [show cl (nI kk) = kk from nI_clamp (by omega)]; exact c_67
            obtain ⟨l0, hl, el⟩ := hSh kk hkk
            obtain ⟨a, N, e_a, e_N, haN⟩ := cells_n (fc_0 gF) (by unfold shN; rw [show cl (nI kk) = kk from nI_clamp (by omega)]; exact el) hl
            subst e_a
            subst e_N
            refine tq_iload 6 (dget dX7_asked 39 rfl) rfl ?_
            refine tq_iconst (v := 1) (dget dX7_asked 40 rfl) rfl ?_
            refine tq_icmp_lt (tgt := 90) (dget dX7_asked 41 rfl) (by decide) (fun c_80 => ?_) (fun c_80 => ?_)
            · refine tq_aload_n 1 (dget dX7_asked 45 rfl) rfl rfl ?_
              refine tq_bipush (v := (-2)) (dget dX7_asked 46 rfl) rfl ?_
              refine mq_Vi (As := [.int (-2)]) (rest := []) (dget dX7_asked 47 rfl) lX7_54 miX7_faultless (c_faultless σ (-2) d (by omega)) rfl rfl rfl rfl (Nat.le_of_ble_eq_true rfl) (Nat.le_of_ble_eq_true rfl) (fun r_93 σ_93 h_93 => ?_)
              obtain ⟨a_93, e_93⟩ := h_93
              rw [a_93]
              obtain rfl := e_93.symm
              exact tq_iret rfl (dget dX7_asked 48 rfl) ⟨_, rfl, by simp only [cnd_t (P := hM σ (nI m)) (b_5.t c_8), cnd_t (P := isSh (nI kk)) (b_12.t c_15), cnd_t (P := isLn l) (b_25.t c_28), cnd_t (P := z = 0 ∨ z = 1) (Or.inl c_33), cnd_t (P := fcS σ (nI kk) l (nI a) (nI N) = 0) gF, cnd_f (P := 1 ≤ nI N ∧ nI N ≤ 8) (fun q => by first | exact absurd q.1 (Int32.not_le.mpr c_80) | exact c_87 q.2)], σ 33, by simp only [cnd_t (P := hM σ (nI m)) (b_5.t c_8), cnd_t (P := isSh (nI kk)) (b_12.t c_15), cnd_t (P := isLn l) (b_25.t c_28), cnd_t (P := z = 0 ∨ z = 1) (Or.inl c_33), cnd_t (P := fcS σ (nI kk) l (nI a) (nI N) = 0) gF, cnd_f (P := 1 ≤ nI N ∧ nI N ≤ 8) (fun q => by first | exact absurd q.1 (Int32.not_le.mpr c_80) | exact c_87 q.2), gF]; rw [upR_self]⟩
            · refine tq_iload 6 (dget dX7_asked 42 rfl) rfl ?_
              refine tq_bipush (v := 8) (dget dX7_asked 43 rfl) rfl ?_
              refine tq_icmp_le (tgt := 97) (dget dX7_asked 44 rfl) (by decide) (fun c_87 => ?_) (fun c_87 => ?_)
              · refine tq_aload_n 1 (dget dX7_asked 49 rfl) rfl rfl ?_
                refine tq_getR (dget dX7_asked 50 rfl) fX7_41 rfl rfl ?_
                refine tq_iload_n 3 (dget dX7_asked 51 rfl) rfl rfl ?_
                refine tq_sheets kk (dget dX7_asked 52 rfl) rfl (by omega) ?_
                refine tq_aload_n 1 (dget dX7_asked 53 rfl) rfl rfl ?_
                refine tq_getR (dget dX7_asked 54 rfl) fX7_45 rfl rfl ?_
                refine tq_iload 5 (dget dX7_asked 55 rfl) rfl ?_
                refine tq_iload 6 (dget dX7_asked 56 rfl) rfl ?_
                refine mq_Vv (As := [.ref 33, .int (nI a), .int (nI N)]) (rest := []) (dget dX7_asked 57 rfl) lX7_68 miX4_readInto (c_readInto σ kk hkk a N (by omega) d (by omega)) (SH_sheet (by omega)) rfl rfl rfl (Nat.le_of_ble_eq_true rfl) (Nat.le_of_ble_eq_true rfl) (fun σ_111 h_111 => ?_)
                obtain rfl := Eq.symm h_111
                generalize hτ : upR σ 33 (va_cpy (σ (35 + 2 * kk)) (σ 33) a 0 N) = τ
                have t0 := mem_33 hτ
                have t1 : τ 1 = σ 1 := by rw [← hτ]; exact upR_n (by decide)
                have t2 : τ 2 = σ 2 := by rw [← hτ]; exact upR_n (by decide)
                have t4 : τ (4 + m) = σ (4 + m) := by rw [← hτ]; exact upR_n (by omega)
                have t33 : ∀ j, j < N → τ 33 j = σ (35 + 2 * kk) (a + j) := fun j hj => by rw [← hτ, upR_s]; unfold va_cpy; rw [if_pos ⟨Nat.zero_le _, by omega⟩, Nat.sub_zero]
                refine tq_aload_n 1 (dget dX7_asked 58 rfl) rfl rfl ?_
                refine tq_getR (dget dX7_asked 59 rfl) fX7_12 rfl rfl ?_
                refine tq_aload_n 1 (dget dX7_asked 60 rfl) rfl rfl ?_
                refine tq_getR (dget dX7_asked 61 rfl) fX7_45 rfl rfl ?_
                refine tq_iload 6 (dget dX7_asked 62 rfl) rfl ?_
                refine mq_Vi (As := [.ref 33, .int (nI N)]) (rest := []) (dget dX7_asked 63 rfl) lX7_156 miX6_areSuitors (c_areSuitors τ N (by omega) d (by omega)) rfl rfl rfl rfl (Nat.le_of_ble_eq_true rfl) (Nat.le_of_ble_eq_true rfl) (fun r_124 σ_124 h_124 => ?_)
                obtain ⟨b0_124, e_124⟩ := h_124
                obtain rfl := e_124.symm
                have gE : (∀ j, j < N → 0 ≤ τ 33 j ∧ τ 33 j < τ 1 0) ↔ ∀ j, j < N → hS σ (ceS σ (nI kk) (nI a) j) := by
                  constructor
                  all_goals intro q j hj
                  all_goals have q1 := q j hj
                  all_goals unfold hS ceS at *
                  all_goals simp only [show cl (nI kk) = kk from nI_clamp (by omega), show cl (nI a) = a from nI_clamp (by omega), t33 j hj, t1] at q1 ⊢
                  all_goals exact q1
                have b_124 := b0_124.iff gE
                refine tq_if_ne (tgt := 136) (dget dX7_asked 64 rfl) (by decide) (fun c_127 => ?_) (fun c_127 => ?_)
                · have gA := b_124.t c_127
                  have hw : ∀ j, j < N → τ 33 j = nI (cl (ceS σ (nI kk) (nI a) j)) ∧ cl (ceS σ (nI kk) (nI a) j) < 6 := fun j hj => by
                    obtain ⟨s, e1, e2, e3⟩ := hS_n hV (gA j hj)
                    rw [t33 j hj]
                    have e4 : ceS σ (nI kk) (nI a) j = σ (35 + 2 * kk) (a + j) := by unfold ceS; rw [show cl (nI kk) = kk from nI_clamp (by omega), show cl (nI a) = a from nI_clamp (by omega)]
                    rw [e4] at e1 ⊢
                    rw [e1, show cl (nI s) = s from nI_clamp (by omega)]
                    exact ⟨rfl, e3⟩
                  refine tq_aload_n 1 (dget dX7_asked 69 rfl) rfl rfl ?_
                  refine tq_iload 7 (dget dX7_asked 70 rfl) rfl ?_
                  refine tq_if_ne (tgt := 159) (dget dX7_asked 71 rfl) (by decide) (fun c_139 => ?_) (fun c_139 => ?_)
                  · refine tq_aload_n 1 (dget dX7_asked 80 rfl) rfl rfl ?_
                    refine tq_getR (dget dX7_asked 81 rfl) fX7_12 rfl rfl ?_
                    refine tq_iload_n 2 (dget dX7_asked 82 rfl) rfl rfl ?_
                    refine tq_aload_n 1 (dget dX7_asked 83 rfl) rfl rfl ?_
                    refine tq_getR (dget dX7_asked 84 rfl) fX7_45 rfl rfl ?_
                    refine tq_iload 6 (dget dX7_asked 85 rfl) rfl ?_
                    refine mq_Vi (As := [.int (nI m), .ref 33, .int (nI N)]) (rest := [.ref 0]) (dget dX7_asked 86 rfl) lX7_164 miX6_minded (c_minded τ m N (fun j => cl (ceS σ (nI kk) (nI a) j)) hm4 (by omega) hw d (by omega)) rfl rfl rfl rfl (Nat.le_of_ble_eq_true rfl) (Nat.le_of_ble_eq_true rfl) (fun r_170 σ_170 h_170 => ?_)
                    obtain ⟨a_170, e_170⟩ := h_170
                    obtain rfl := e_170.symm
                    rw [t1, t2, t4] at a_170
                    have a_q : r_170 = mndR (aqP σ (nI m) (nI kk) (nI a)) (aqF σ (nI m) (nI kk) (nI a)) N 0 := mnd_eq (by unfold aqP aqF; rw [show cl (nI m) = m from nI_clamp (by omega)]; exact a_170)
                    rw [a_q]
                    refine mq_Vi (As := [.int (mndR (aqP σ (nI m) (nI kk) (nI a)) (aqF σ (nI m) (nI kk) (nI a)) N 0)]) (rest := []) (dget dX7_asked 87 rfl) lX7_54 miX7_faultless (c_faultless τ (mndR (aqP σ (nI m) (nI kk) (nI a)) (aqF σ (nI m) (nI kk) (nI a)) N 0) d (by omega)) rfl rfl rfl rfl (Nat.le_of_ble_eq_true rfl) (Nat.le_of_ble_eq_true rfl) (fun r_173 σ_173 h_173 => ?_)
                    obtain ⟨a_173, e_173⟩ := h_173
                    rw [a_173]
                    obtain rfl := e_173.symm
                    exact tq_iret rfl (dget dX7_asked 88 rfl) ⟨_, rfl, by simp only [cnd_t (P := hM σ (nI m)) (b_5.t c_8), cnd_t (P := isSh (nI kk)) (b_12.t c_15), cnd_t (P := isLn l) (b_25.t c_28), cnd_t (P := z = 0 ∨ z = 1) (Or.inl c_33), cnd_t (P := fcS σ (nI kk) l (nI a) (nI N) = 0) gF, cnd_t (P := 1 ≤ nI N ∧ nI N ≤ 8) ⟨Int32.not_lt.mp c_80, c_87⟩, nI_clamp (show N < 2 ^ 31 by omega), cnd_t (P := ∀ j, j < N → hS σ (ceS σ (nI kk) (nI a) j)) gA, cnd_f c_139], τ 33, by simp only [cnd_t (P := hM σ (nI m)) (b_5.t c_8), cnd_t (P := isSh (nI kk)) (b_12.t c_15), cnd_t (P := isLn l) (b_25.t c_28), cnd_t (P := z = 0 ∨ z = 1) (Or.inl c_33), cnd_t (P := fcS σ (nI kk) l (nI a) (nI N) = 0) gF, cnd_t (P := 1 ≤ nI N ∧ nI N ≤ 8) ⟨Int32.not_lt.mp c_80, c_87⟩, nI_clamp (show N < 2 ^ 31 by omega), cnd_t (P := ∀ j, j < N → hS σ (ceS σ (nI kk) (nI a) j)) gA, cnd_f c_139, gF]; rw [← t0]⟩
                  · refine tq_aload_n 1 (dget dX7_asked 72 rfl) rfl rfl ?_
                    refine tq_getR (dget dX7_asked 73 rfl) fX7_12 rfl rfl ?_
                    refine tq_iload_n 2 (dget dX7_asked 74 rfl) rfl rfl ?_
                    refine tq_aload_n 1 (dget dX7_asked 75 rfl) rfl rfl ?_
                    refine tq_getR (dget dX7_asked 76 rfl) fX7_45 rfl rfl ?_
                    refine tq_iload 6 (dget dX7_asked 77 rfl) rfl ?_
                    refine mq_Vi (As := [.int (nI m), .ref 33, .int (nI N)]) (rest := [.ref 0]) (dget dX7_asked 78 rfl) lX7_160 miX6_best (c_best τ m N (fun j => cl (ceS σ (nI kk) (nI a) j)) hm4 (by omega) hw d (by omega)) rfl rfl rfl rfl (Nat.le_of_ble_eq_true rfl) (Nat.le_of_ble_eq_true rfl) (fun r_153 σ_153 h_153 => ?_)
                    obtain ⟨a_153, e_153⟩ := h_153
                    obtain rfl := e_153.symm
                    rw [a_153, show bestF (τ 1 2) (fun j => τ (4 + m) (cl (ceS σ (nI kk) (nI a) j))) N = bestF (σ 1 2) (aqF σ (nI m) (nI kk) (nI a)) N by rw [t1, t4]; unfold aqF; rw [show cl (nI m) = m from nI_clamp (by omega)]]
                    refine tq_goto (tgt := 173) (dget dX7_asked 79 rfl) (by decide) ?_
                    refine mq_Vi (As := [.int (bestF (σ 1 2) (aqF σ (nI m) (nI kk) (nI a)) N)]) (rest := []) (dget dX7_asked 87 rfl) lX7_54 miX7_faultless (c_faultless τ (bestF (σ 1 2) (aqF σ (nI m) (nI kk) (nI a)) N) d (by omega)) rfl rfl rfl rfl (Nat.le_of_ble_eq_true rfl) (Nat.le_of_ble_eq_true rfl) (fun r_173 σ_173 h_173 => ?_)
                    obtain ⟨a_173, e_173⟩ := h_173
                    rw [a_173]
                    obtain rfl := e_173.symm
                    exact tq_iret rfl (dget dX7_asked 88 rfl) ⟨_, rfl, by simp only [cnd_t (P := hM σ (nI m)) (b_5.t c_8), cnd_t (P := isSh (nI kk)) (b_12.t c_15), cnd_t (P := isLn l) (b_25.t c_28), cnd_t (P := z = 0 ∨ z = 1) (Or.inl c_33), cnd_t (P := fcS σ (nI kk) l (nI a) (nI N) = 0) gF, cnd_t (P := 1 ≤ nI N ∧ nI N ≤ 8) ⟨Int32.not_lt.mp c_80, c_87⟩, nI_clamp (show N < 2 ^ 31 by omega), cnd_t (P := ∀ j, j < N → hS σ (ceS σ (nI kk) (nI a) j)) gA, cnd_t c_139], τ 33, by simp only [cnd_t (P := hM σ (nI m)) (b_5.t c_8), cnd_t (P := isSh (nI kk)) (b_12.t c_15), cnd_t (P := isLn l) (b_25.t c_28), cnd_t (P := z = 0 ∨ z = 1) (Or.inl c_33), cnd_t (P := fcS σ (nI kk) l (nI a) (nI N) = 0) gF, cnd_t (P := 1 ≤ nI N ∧ nI N ≤ 8) ⟨Int32.not_lt.mp c_80, c_87⟩, nI_clamp (show N < 2 ^ 31 by omega), cnd_t (P := ∀ j, j < N → hS σ (ceS σ (nI kk) (nI a) j)) gA, cnd_t c_139, gF]; rw [← t0]⟩
                · have gA := b_124.f c_127
                  refine tq_aload_n 1 (dget dX7_asked 65 rfl) rfl rfl ?_
                  refine tq_iconst (v := (-1)) (dget dX7_asked 66 rfl) rfl ?_
                  refine mq_Vi (As := [.int (-1)]) (rest := []) (dget dX7_asked 67 rfl) lX7_54 miX7_faultless (c_faultless τ (-1) d (by omega)) rfl rfl rfl rfl (Nat.le_of_ble_eq_true rfl) (Nat.le_of_ble_eq_true rfl) (fun r_132 σ_132 h_132 => ?_)
                  obtain ⟨a_132, e_132⟩ := h_132
                  rw [a_132]
                  obtain rfl := e_132.symm
                  exact tq_iret rfl (dget dX7_asked 68 rfl) ⟨_, rfl, by simp only [cnd_t (P := hM σ (nI m)) (b_5.t c_8), cnd_t (P := isSh (nI kk)) (b_12.t c_15), cnd_t (P := isLn l) (b_25.t c_28), cnd_t (P := z = 0 ∨ z = 1) (Or.inl c_33), cnd_t (P := fcS σ (nI kk) l (nI a) (nI N) = 0) gF, cnd_t (P := 1 ≤ nI N ∧ nI N ≤ 8) ⟨Int32.not_lt.mp c_80, c_87⟩, nI_clamp (show N < 2 ^ 31 by omega), cnd_f (P := ∀ j, j < N → hS σ (ceS σ (nI kk) (nI a) j)) gA], τ 33, by simp only [cnd_t (P := hM σ (nI m)) (b_5.t c_8), cnd_t (P := isSh (nI kk)) (b_12.t c_15), cnd_t (P := isLn l) (b_25.t c_28), cnd_t (P := z = 0 ∨ z = 1) (Or.inl c_33), cnd_t (P := fcS σ (nI kk) l (nI a) (nI N) = 0) gF, cnd_t (P := 1 ≤ nI N ∧ nI N ≤ 8) ⟨Int32.not_lt.mp c_80, c_87⟩, nI_clamp (show N < 2 ^ 31 by omega), cnd_f (P := ∀ j, j < N → hS σ (ceS σ (nI kk) (nI a) j)) gA, gF]; rw [← t0]⟩
              · refine tq_aload_n 1 (dget dX7_asked 45 rfl) rfl rfl ?_
                refine tq_bipush (v := (-2)) (dget dX7_asked 46 rfl) rfl ?_
                refine mq_Vi (As := [.int (-2)]) (rest := []) (dget dX7_asked 47 rfl) lX7_54 miX7_faultless (c_faultless σ (-2) d (by omega)) rfl rfl rfl rfl (Nat.le_of_ble_eq_true rfl) (Nat.le_of_ble_eq_true rfl) (fun r_93 σ_93 h_93 => ?_)
                obtain ⟨a_93, e_93⟩ := h_93
                rw [a_93]
                obtain rfl := e_93.symm
                exact tq_iret rfl (dget dX7_asked 48 rfl) ⟨_, rfl, by simp only [cnd_t (P := hM σ (nI m)) (b_5.t c_8), cnd_t (P := isSh (nI kk)) (b_12.t c_15), cnd_t (P := isLn l) (b_25.t c_28), cnd_t (P := z = 0 ∨ z = 1) (Or.inl c_33), cnd_t (P := fcS σ (nI kk) l (nI a) (nI N) = 0) gF, cnd_f (P := 1 ≤ nI N ∧ nI N ≤ 8) (fun q => by first | exact absurd q.1 (Int32.not_le.mpr c_80) | exact c_87 q.2)], σ 33, by simp only [cnd_t (P := hM σ (nI m)) (b_5.t c_8), cnd_t (P := isSh (nI kk)) (b_12.t c_15), cnd_t (P := isLn l) (b_25.t c_28), cnd_t (P := z = 0 ∨ z = 1) (Or.inl c_33), cnd_t (P := fcS σ (nI kk) l (nI a) (nI N) = 0) gF, cnd_f (P := 1 ≤ nI N ∧ nI N ≤ 8) (fun q => by first | exact absurd q.1 (Int32.not_le.mpr c_80) | exact c_87 q.2), gF]; rw [upR_self]⟩
          · have gFe : fcS σ (nI kk) l i n = fcF (σ (34 + 2 * kk) 1) (σ (34 + 2 * kk) 2) (σ (34 + 2 * kk) 3) l i n := by unfold fcS shH shV shN; rw [show cl (nI kk) = kk from nI_clamp (by omega)]
            have gF : ¬ fcS σ (nI kk) l i n = 0 := by rw [gFe]; exact c_67
            refine tq_aload_n 1 (dget dX7_asked 35 rfl) rfl rfl ?_
            refine tq_iload 0 (dget dX7_asked 36 rfl) rfl ?_
            refine mq_Vi (As := [.int (fcF (σ (34 + 2 * kk) 1) (σ (34 + 2 * kk) 2) (σ (34 + 2 * kk) 3) l i n)]) (rest := []) (dget dX7_asked 37 rfl) lX7_65 miX7_faulted (c_faulted σ (fcF (σ (34 + 2 * kk) 1) (σ (34 + 2 * kk) 2) (σ (34 + 2 * kk) 3) l i n) d (by omega)) rfl rfl rfl rfl (Nat.le_of_ble_eq_true rfl) (Nat.le_of_ble_eq_true rfl) (fun r_73 σ_73 h_73 => ?_)
            obtain ⟨a_73, e_73⟩ := h_73
            rw [a_73]
            obtain rfl := e_73.symm
            exact tq_iret rfl (dget dX7_asked 38 rfl) ⟨_, rfl, by simp only [cnd_t (P := hM σ (nI m)) (b_5.t c_8), cnd_t (P := isSh (nI kk)) (b_12.t c_15), cnd_t (P := isLn l) (b_25.t c_28), cnd_t (P := z = 0 ∨ z = 1) (Or.inl c_33), cnd_f (P := fcS σ (nI kk) l i n = 0) gF]; rw [gFe], σ 33, by simp only [cnd_t (P := hM σ (nI m)) (b_5.t c_8), cnd_t (P := isSh (nI kk)) (b_12.t c_15), cnd_t (P := isLn l) (b_25.t c_28), cnd_t (P := z = 0 ∨ z = 1) (Or.inl c_33), cnd_f (P := fcS σ (nI kk) l i n = 0) gF]; rw [upR_self, gFe]⟩
        · refine tq_iload 6 (dget dX7_asked 17 rfl) rfl ?_
          refine tq_iconst (v := 1) (dget dX7_asked 18 rfl) rfl ?_
          refine tq_icmp_eq (tgt := 49) (dget dX7_asked 19 rfl) (by decide) (fun c_39 => ?_) (fun c_39 => ?_)
          · refine tq_aload_n 0 (dget dX7_asked 24 rfl) rfl rfl ?_
            refine tq_getR (dget dX7_asked 25 rfl) fX7_41 rfl rfl ?_
            refine tq_iload_n 2 (dget dX7_asked 26 rfl) rfl rfl ?_
            refine tq_sheets kk (dget dX7_asked 27 rfl) rfl (by omega) ?_
            refine tq_iload_n 3 (dget dX7_asked 28 rfl) rfl rfl ?_
            refine tq_iload 4 (dget dX7_asked 29 rfl) rfl ?_
            refine tq_iload 5 (dget dX7_asked 30 rfl) rfl ?_
            refine mq_Vi (As := [.int l, .int i, .int n]) (rest := []) (dget dX7_asked 31 rfl) lX7_61 miX4_faultOfCells (c_faultOfCells σ kk (by omega) l i n d (by omega)) (SH_sheet (by omega)) rfl rfl rfl (Nat.le_of_ble_eq_true rfl) (Nat.le_of_ble_eq_true rfl) (fun r_60 σ_60 h_60 => ?_)
            obtain ⟨a_60, e_60⟩ := h_60
            obtain rfl := a_60.symm
            obtain rfl := e_60.symm
            refine tq_istore (ls2 := [(7, .int (fcF (σ (34 + 2 * kk) 1) (σ (34 + 2 * kk) 2) (σ (34 + 2 * kk) 3) l i n)), (0, .ref 0), (1, .int (nI m)), (2, .int (nI kk)), (3, .int l), (4, .int i), (5, .int n), (6, .int z)]) (dget dX7_asked 32 rfl) (by decide) rfl ?_
            refine tq_iload 0 (dget dX7_asked 33 rfl) rfl ?_
            refine tq_if_eq (tgt := 77) (dget dX7_asked 34 rfl) (by decide) (fun c_67 => ?_) (fun c_67 => ?_)
            · have gF : fcS σ (nI kk) l i n = 0 := by unfold fcS shH shV shN; rw [show cl (nI kk) = kk from nI_clamp (by omega)]; exact c_67
              obtain ⟨l0, hl, el⟩ := hSh kk hkk
              obtain ⟨a, N, e_a, e_N, haN⟩ := cells_n (fc_0 gF) (by unfold shN; rw [show cl (nI kk) = kk from nI_clamp (by omega)]; exact el) hl
              subst e_a
              subst e_N
              refine tq_iload 6 (dget dX7_asked 39 rfl) rfl ?_
              refine tq_iconst (v := 1) (dget dX7_asked 40 rfl) rfl ?_
              refine tq_icmp_lt (tgt := 90) (dget dX7_asked 41 rfl) (by decide) (fun c_80 => ?_) (fun c_80 => ?_)
              · refine tq_aload_n 1 (dget dX7_asked 45 rfl) rfl rfl ?_
                refine tq_bipush (v := (-2)) (dget dX7_asked 46 rfl) rfl ?_
                refine mq_Vi (As := [.int (-2)]) (rest := []) (dget dX7_asked 47 rfl) lX7_54 miX7_faultless (c_faultless σ (-2) d (by omega)) rfl rfl rfl rfl (Nat.le_of_ble_eq_true rfl) (Nat.le_of_ble_eq_true rfl) (fun r_93 σ_93 h_93 => ?_)
                obtain ⟨a_93, e_93⟩ := h_93
                rw [a_93]
                obtain rfl := e_93.symm
                exact tq_iret rfl (dget dX7_asked 48 rfl) ⟨_, rfl, by simp only [cnd_t (P := hM σ (nI m)) (b_5.t c_8), cnd_t (P := isSh (nI kk)) (b_12.t c_15), cnd_t (P := isLn l) (b_25.t c_28), cnd_t (P := z = 0 ∨ z = 1) (Or.inr c_39), cnd_t (P := fcS σ (nI kk) l (nI a) (nI N) = 0) gF, cnd_f (P := 1 ≤ nI N ∧ nI N ≤ 8) (fun q => by first | exact absurd q.1 (Int32.not_le.mpr c_80) | exact c_87 q.2)], σ 33, by simp only [cnd_t (P := hM σ (nI m)) (b_5.t c_8), cnd_t (P := isSh (nI kk)) (b_12.t c_15), cnd_t (P := isLn l) (b_25.t c_28), cnd_t (P := z = 0 ∨ z = 1) (Or.inr c_39), cnd_t (P := fcS σ (nI kk) l (nI a) (nI N) = 0) gF, cnd_f (P := 1 ≤ nI N ∧ nI N ≤ 8) (fun q => by first | exact absurd q.1 (Int32.not_le.mpr c_80) | exact c_87 q.2), gF]; rw [upR_self]⟩
              · refine tq_iload 6 (dget dX7_asked 42 rfl) rfl ?_
                refine tq_bipush (v := 8) (dget dX7_asked 43 rfl) rfl ?_
                refine tq_icmp_le (tgt := 97) (dget dX7_asked 44 rfl) (by decide) (fun c_87 => ?_) (fun c_87 => ?_)
                · refine tq_aload_n 1 (dget dX7_asked 49 rfl) rfl rfl ?_
                  refine tq_getR (dget dX7_asked 50 rfl) fX7_41 rfl rfl ?_
                  refine tq_iload_n 3 (dget dX7_asked 51 rfl) rfl rfl ?_
                  refine tq_sheets kk (dget dX7_asked 52 rfl) rfl (by omega) ?_
                  refine tq_aload_n 1 (dget dX7_asked 53 rfl) rfl rfl ?_
                  refine tq_getR (dget dX7_asked 54 rfl) fX7_45 rfl rfl ?_
                  refine tq_iload 5 (dget dX7_asked 55 rfl) rfl ?_
                  refine tq_iload 6 (dget dX7_asked 56 rfl) rfl ?_
                  refine mq_Vv (As := [.ref 33, .int (nI a), .int (nI N)]) (rest := []) (dget dX7_asked 57 rfl) lX7_68 miX4_readInto (c_readInto σ kk hkk a N (by omega) d (by omega)) (SH_sheet (by omega)) rfl rfl rfl (Nat.le_of_ble_eq_true rfl) (Nat.le_of_ble_eq_true rfl) (fun σ_111 h_111 => ?_)
                  obtain rfl := Eq.symm h_111
                  generalize hτ : upR σ 33 (va_cpy (σ (35 + 2 * kk)) (σ 33) a 0 N) = τ
                  have t0 := mem_33 hτ
                  have t1 : τ 1 = σ 1 := by rw [← hτ]; exact upR_n (by decide)
                  have t2 : τ 2 = σ 2 := by rw [← hτ]; exact upR_n (by decide)
                  have t4 : τ (4 + m) = σ (4 + m) := by rw [← hτ]; exact upR_n (by omega)
                  have t33 : ∀ j, j < N → τ 33 j = σ (35 + 2 * kk) (a + j) := fun j hj => by rw [← hτ, upR_s]; unfold va_cpy; rw [if_pos ⟨Nat.zero_le _, by omega⟩, Nat.sub_zero]
                  refine tq_aload_n 1 (dget dX7_asked 58 rfl) rfl rfl ?_
                  refine tq_getR (dget dX7_asked 59 rfl) fX7_12 rfl rfl ?_
                  refine tq_aload_n 1 (dget dX7_asked 60 rfl) rfl rfl ?_
                  refine tq_getR (dget dX7_asked 61 rfl) fX7_45 rfl rfl ?_
                  refine tq_iload 6 (dget dX7_asked 62 rfl) rfl ?_
                  refine mq_Vi (As := [.ref 33, .int (nI N)]) (rest := []) (dget dX7_asked 63 rfl) lX7_156 miX6_areSuitors (c_areSuitors τ N (by omega) d (by omega)) rfl rfl rfl rfl (Nat.le_of_ble_eq_true rfl) (Nat.le_of_ble_eq_true rfl) (fun r_124 σ_124 h_124 => ?_)
                  obtain ⟨b0_124, e_124⟩ := h_124
                  obtain rfl := e_124.symm
                  have gE : (∀ j, j < N → 0 ≤ τ 33 j ∧ τ 33 j < τ 1 0) ↔ ∀ j, j < N → hS σ (ceS σ (nI kk) (nI a) j) := by
                    constructor
                    all_goals intro q j hj
                    all_goals have q1 := q j hj
                    all_goals unfold hS ceS at *
                    all_goals simp only [show cl (nI kk) = kk from nI_clamp (by omega), show cl (nI a) = a from nI_clamp (by omega), t33 j hj, t1] at q1 ⊢
                    all_goals exact q1
                  have b_124 := b0_124.iff gE
                  refine tq_if_ne (tgt := 136) (dget dX7_asked 64 rfl) (by decide) (fun c_127 => ?_) (fun c_127 => ?_)
                  · have gA := b_124.t c_127
                    have hw : ∀ j, j < N → τ 33 j = nI (cl (ceS σ (nI kk) (nI a) j)) ∧ cl (ceS σ (nI kk) (nI a) j) < 6 := fun j hj => by
                      obtain ⟨s, e1, e2, e3⟩ := hS_n hV (gA j hj)
                      rw [t33 j hj]
                      have e4 : ceS σ (nI kk) (nI a) j = σ (35 + 2 * kk) (a + j) := by unfold ceS; rw [show cl (nI kk) = kk from nI_clamp (by omega), show cl (nI a) = a from nI_clamp (by omega)]
                      rw [e4] at e1 ⊢
                      rw [e1, show cl (nI s) = s from nI_clamp (by omega)]
                      exact ⟨rfl, e3⟩
                    refine tq_aload_n 1 (dget dX7_asked 69 rfl) rfl rfl ?_
                    refine tq_iload 7 (dget dX7_asked 70 rfl) rfl ?_
                    refine tq_if_ne (tgt := 159) (dget dX7_asked 71 rfl) (by decide) (fun c_139 => ?_) (fun c_139 => ?_)
                    · refine tq_aload_n 1 (dget dX7_asked 80 rfl) rfl rfl ?_
                      refine tq_getR (dget dX7_asked 81 rfl) fX7_12 rfl rfl ?_
                      refine tq_iload_n 2 (dget dX7_asked 82 rfl) rfl rfl ?_
                      refine tq_aload_n 1 (dget dX7_asked 83 rfl) rfl rfl ?_
                      refine tq_getR (dget dX7_asked 84 rfl) fX7_45 rfl rfl ?_
                      refine tq_iload 6 (dget dX7_asked 85 rfl) rfl ?_
                      refine mq_Vi (As := [.int (nI m), .ref 33, .int (nI N)]) (rest := [.ref 0]) (dget dX7_asked 86 rfl) lX7_164 miX6_minded (c_minded τ m N (fun j => cl (ceS σ (nI kk) (nI a) j)) hm4 (by omega) hw d (by omega)) rfl rfl rfl rfl (Nat.le_of_ble_eq_true rfl) (Nat.le_of_ble_eq_true rfl) (fun r_170 σ_170 h_170 => ?_)
                      obtain ⟨a_170, e_170⟩ := h_170
                      obtain rfl := e_170.symm
                      rw [t1, t2, t4] at a_170
                      have a_q : r_170 = mndR (aqP σ (nI m) (nI kk) (nI a)) (aqF σ (nI m) (nI kk) (nI a)) N 0 := mnd_eq (by unfold aqP aqF; rw [show cl (nI m) = m from nI_clamp (by omega)]; exact a_170)
                      rw [a_q]
                      refine mq_Vi (As := [.int (mndR (aqP σ (nI m) (nI kk) (nI a)) (aqF σ (nI m) (nI kk) (nI a)) N 0)]) (rest := []) (dget dX7_asked 87 rfl) lX7_54 miX7_faultless (c_faultless τ (mndR (aqP σ (nI m) (nI kk) (nI a)) (aqF σ (nI m) (nI kk) (nI a)) N 0) d (by omega)) rfl rfl rfl rfl (Nat.le_of_ble_eq_true rfl) (Nat.le_of_ble_eq_true rfl) (fun r_173 σ_173 h_173 => ?_)
                      obtain ⟨a_173, e_173⟩ := h_173
                      rw [a_173]
                      obtain rfl := e_173.symm
                      exact tq_iret rfl (dget dX7_asked 88 rfl) ⟨_, rfl, by simp only [cnd_t (P := hM σ (nI m)) (b_5.t c_8), cnd_t (P := isSh (nI kk)) (b_12.t c_15), cnd_t (P := isLn l) (b_25.t c_28), cnd_t (P := z = 0 ∨ z = 1) (Or.inr c_39), cnd_t (P := fcS σ (nI kk) l (nI a) (nI N) = 0) gF, cnd_t (P := 1 ≤ nI N ∧ nI N ≤ 8) ⟨Int32.not_lt.mp c_80, c_87⟩, nI_clamp (show N < 2 ^ 31 by omega), cnd_t (P := ∀ j, j < N → hS σ (ceS σ (nI kk) (nI a) j)) gA, cnd_f c_139], τ 33, by simp only [cnd_t (P := hM σ (nI m)) (b_5.t c_8), cnd_t (P := isSh (nI kk)) (b_12.t c_15), cnd_t (P := isLn l) (b_25.t c_28), cnd_t (P := z = 0 ∨ z = 1) (Or.inr c_39), cnd_t (P := fcS σ (nI kk) l (nI a) (nI N) = 0) gF, cnd_t (P := 1 ≤ nI N ∧ nI N ≤ 8) ⟨Int32.not_lt.mp c_80, c_87⟩, nI_clamp (show N < 2 ^ 31 by omega), cnd_t (P := ∀ j, j < N → hS σ (ceS σ (nI kk) (nI a) j)) gA, cnd_f c_139, gF]; rw [← t0]⟩
                    · refine tq_aload_n 1 (dget dX7_asked 72 rfl) rfl rfl ?_
                      refine tq_getR (dget dX7_asked 73 rfl) fX7_12 rfl rfl ?_
                      refine tq_iload_n 2 (dget dX7_asked 74 rfl) rfl rfl ?_
                      refine tq_aload_n 1 (dget dX7_asked 75 rfl) rfl rfl ?_
                      refine tq_getR (dget dX7_asked 76 rfl) fX7_45 rfl rfl ?_
                      refine tq_iload 6 (dget dX7_asked 77 rfl) rfl ?_
                      refine mq_Vi (As := [.int (nI m), .ref 33, .int (nI N)]) (rest := [.ref 0]) (dget dX7_asked 78 rfl) lX7_160 miX6_best (c_best τ m N (fun j => cl (ceS σ (nI kk) (nI a) j)) hm4 (by omega) hw d (by omega)) rfl rfl rfl rfl (Nat.le_of_ble_eq_true rfl) (Nat.le_of_ble_eq_true rfl) (fun r_153 σ_153 h_153 => ?_)
                      obtain ⟨a_153, e_153⟩ := h_153
                      obtain rfl := e_153.symm
                      rw [a_153, show bestF (τ 1 2) (fun j => τ (4 + m) (cl (ceS σ (nI kk) (nI a) j))) N = bestF (σ 1 2) (aqF σ (nI m) (nI kk) (nI a)) N by rw [t1, t4]; unfold aqF; rw [show cl (nI m) = m from nI_clamp (by omega)]]
                      refine tq_goto (tgt := 173) (dget dX7_asked 79 rfl) (by decide) ?_
                      refine mq_Vi (As := [.int (bestF (σ 1 2) (aqF σ (nI m) (nI kk) (nI a)) N)]) (rest := []) (dget dX7_asked 87 rfl) lX7_54 miX7_faultless (c_faultless τ (bestF (σ 1 2) (aqF σ (nI m) (nI kk) (nI a)) N) d (by omega)) rfl rfl rfl rfl (Nat.le_of_ble_eq_true rfl) (Nat.le_of_ble_eq_true rfl) (fun r_173 σ_173 h_173 => ?_)
                      obtain ⟨a_173, e_173⟩ := h_173
                      rw [a_173]
                      obtain rfl := e_173.symm
                      exact tq_iret rfl (dget dX7_asked 88 rfl) ⟨_, rfl, by simp only [cnd_t (P := hM σ (nI m)) (b_5.t c_8), cnd_t (P := isSh (nI kk)) (b_12.t c_15), cnd_t (P := isLn l) (b_25.t c_28), cnd_t (P := z = 0 ∨ z = 1) (Or.inr c_39), cnd_t (P := fcS σ (nI kk) l (nI a) (nI N) = 0) gF, cnd_t (P := 1 ≤ nI N ∧ nI N ≤ 8) ⟨Int32.not_lt.mp c_80, c_87⟩, nI_clamp (show N < 2 ^ 31 by omega), cnd_t (P := ∀ j, j < N → hS σ (ceS σ (nI kk) (nI a) j)) gA, cnd_t c_139], τ 33, by simp only [cnd_t (P := hM σ (nI m)) (b_5.t c_8), cnd_t (P := isSh (nI kk)) (b_12.t c_15), cnd_t (P := isLn l) (b_25.t c_28), cnd_t (P := z = 0 ∨ z = 1) (Or.inr c_39), cnd_t (P := fcS σ (nI kk) l (nI a) (nI N) = 0) gF, cnd_t (P := 1 ≤ nI N ∧ nI N ≤ 8) ⟨Int32.not_lt.mp c_80, c_87⟩, nI_clamp (show N < 2 ^ 31 by omega), cnd_t (P := ∀ j, j < N → hS σ (ceS σ (nI kk) (nI a) j)) gA, cnd_t c_139, gF]; rw [← t0]⟩
                  · have gA := b_124.f c_127
                    refine tq_aload_n 1 (dget dX7_asked 65 rfl) rfl rfl ?_
                    refine tq_iconst (v := (-1)) (dget dX7_asked 66 rfl) rfl ?_
                    refine mq_Vi (As := [.int (-1)]) (rest := []) (dget dX7_asked 67 rfl) lX7_54 miX7_faultless (c_faultless τ (-1) d (by omega)) rfl rfl rfl rfl (Nat.le_of_ble_eq_true rfl) (Nat.le_of_ble_eq_true rfl) (fun r_132 σ_132 h_132 => ?_)
                    obtain ⟨a_132, e_132⟩ := h_132
                    rw [a_132]
                    obtain rfl := e_132.symm
                    exact tq_iret rfl (dget dX7_asked 68 rfl) ⟨_, rfl, by simp only [cnd_t (P := hM σ (nI m)) (b_5.t c_8), cnd_t (P := isSh (nI kk)) (b_12.t c_15), cnd_t (P := isLn l) (b_25.t c_28), cnd_t (P := z = 0 ∨ z = 1) (Or.inr c_39), cnd_t (P := fcS σ (nI kk) l (nI a) (nI N) = 0) gF, cnd_t (P := 1 ≤ nI N ∧ nI N ≤ 8) ⟨Int32.not_lt.mp c_80, c_87⟩, nI_clamp (show N < 2 ^ 31 by omega), cnd_f (P := ∀ j, j < N → hS σ (ceS σ (nI kk) (nI a) j)) gA], τ 33, by simp only [cnd_t (P := hM σ (nI m)) (b_5.t c_8), cnd_t (P := isSh (nI kk)) (b_12.t c_15), cnd_t (P := isLn l) (b_25.t c_28), cnd_t (P := z = 0 ∨ z = 1) (Or.inr c_39), cnd_t (P := fcS σ (nI kk) l (nI a) (nI N) = 0) gF, cnd_t (P := 1 ≤ nI N ∧ nI N ≤ 8) ⟨Int32.not_lt.mp c_80, c_87⟩, nI_clamp (show N < 2 ^ 31 by omega), cnd_f (P := ∀ j, j < N → hS σ (ceS σ (nI kk) (nI a) j)) gA, gF]; rw [← t0]⟩
                · refine tq_aload_n 1 (dget dX7_asked 45 rfl) rfl rfl ?_
                  refine tq_bipush (v := (-2)) (dget dX7_asked 46 rfl) rfl ?_
                  refine mq_Vi (As := [.int (-2)]) (rest := []) (dget dX7_asked 47 rfl) lX7_54 miX7_faultless (c_faultless σ (-2) d (by omega)) rfl rfl rfl rfl (Nat.le_of_ble_eq_true rfl) (Nat.le_of_ble_eq_true rfl) (fun r_93 σ_93 h_93 => ?_)
                  obtain ⟨a_93, e_93⟩ := h_93
                  rw [a_93]
                  obtain rfl := e_93.symm
                  exact tq_iret rfl (dget dX7_asked 48 rfl) ⟨_, rfl, by simp only [cnd_t (P := hM σ (nI m)) (b_5.t c_8), cnd_t (P := isSh (nI kk)) (b_12.t c_15), cnd_t (P := isLn l) (b_25.t c_28), cnd_t (P := z = 0 ∨ z = 1) (Or.inr c_39), cnd_t (P := fcS σ (nI kk) l (nI a) (nI N) = 0) gF, cnd_f (P := 1 ≤ nI N ∧ nI N ≤ 8) (fun q => by first | exact absurd q.1 (Int32.not_le.mpr c_80) | exact c_87 q.2)], σ 33, by simp only [cnd_t (P := hM σ (nI m)) (b_5.t c_8), cnd_t (P := isSh (nI kk)) (b_12.t c_15), cnd_t (P := isLn l) (b_25.t c_28), cnd_t (P := z = 0 ∨ z = 1) (Or.inr c_39), cnd_t (P := fcS σ (nI kk) l (nI a) (nI N) = 0) gF, cnd_f (P := 1 ≤ nI N ∧ nI N ≤ 8) (fun q => by first | exact absurd q.1 (Int32.not_le.mpr c_80) | exact c_87 q.2), gF]; rw [upR_self]⟩
            · have gFe : fcS σ (nI kk) l i n = fcF (σ (34 + 2 * kk) 1) (σ (34 + 2 * kk) 2) (σ (34 + 2 * kk) 3) l i n := by unfold fcS shH shV shN; rw [show cl (nI kk) = kk from nI_clamp (by omega)]
              have gF : ¬ fcS σ (nI kk) l i n = 0 := by rw [gFe]; exact c_67
              refine tq_aload_n 1 (dget dX7_asked 35 rfl) rfl rfl ?_
              refine tq_iload 0 (dget dX7_asked 36 rfl) rfl ?_
              refine mq_Vi (As := [.int (fcF (σ (34 + 2 * kk) 1) (σ (34 + 2 * kk) 2) (σ (34 + 2 * kk) 3) l i n)]) (rest := []) (dget dX7_asked 37 rfl) lX7_65 miX7_faulted (c_faulted σ (fcF (σ (34 + 2 * kk) 1) (σ (34 + 2 * kk) 2) (σ (34 + 2 * kk) 3) l i n) d (by omega)) rfl rfl rfl rfl (Nat.le_of_ble_eq_true rfl) (Nat.le_of_ble_eq_true rfl) (fun r_73 σ_73 h_73 => ?_)
              obtain ⟨a_73, e_73⟩ := h_73
              rw [a_73]
              obtain rfl := e_73.symm
              exact tq_iret rfl (dget dX7_asked 38 rfl) ⟨_, rfl, by simp only [cnd_t (P := hM σ (nI m)) (b_5.t c_8), cnd_t (P := isSh (nI kk)) (b_12.t c_15), cnd_t (P := isLn l) (b_25.t c_28), cnd_t (P := z = 0 ∨ z = 1) (Or.inr c_39), cnd_f (P := fcS σ (nI kk) l i n = 0) gF]; rw [gFe], σ 33, by simp only [cnd_t (P := hM σ (nI m)) (b_5.t c_8), cnd_t (P := isSh (nI kk)) (b_12.t c_15), cnd_t (P := isLn l) (b_25.t c_28), cnd_t (P := z = 0 ∨ z = 1) (Or.inr c_39), cnd_f (P := fcS σ (nI kk) l i n = 0) gF]; rw [upR_self, gFe]⟩
          · refine tq_aload_n 0 (dget dX7_asked 20 rfl) rfl rfl ?_
            refine tq_bipush (v := (-2)) (dget dX7_asked 21 rfl) rfl ?_
            refine mq_Vi (As := [.int (-2)]) (rest := []) (dget dX7_asked 22 rfl) lX7_54 miX7_faultless (c_faultless σ (-2) d (by omega)) rfl rfl rfl rfl (Nat.le_of_ble_eq_true rfl) (Nat.le_of_ble_eq_true rfl) (fun r_45 σ_45 h_45 => ?_)
            obtain ⟨a_45, e_45⟩ := h_45
            rw [a_45]
            obtain rfl := e_45.symm
            exact tq_iret rfl (dget dX7_asked 23 rfl) ⟨_, rfl, by simp only [cnd_t (P := hM σ (nI m)) (b_5.t c_8), cnd_t (P := isSh (nI kk)) (b_12.t c_15), cnd_t (P := isLn l) (b_25.t c_28), cnd_f (P := z = 0 ∨ z = 1) (fun q => q.elim c_33 c_39)], σ 33, by simp only [cnd_t (P := hM σ (nI m)) (b_5.t c_8), cnd_t (P := isSh (nI kk)) (b_12.t c_15), cnd_t (P := isLn l) (b_25.t c_28), cnd_f (P := z = 0 ∨ z = 1) (fun q => q.elim c_33 c_39)]; rw [upR_self]⟩
    · refine tq_aload_n 0 (dget dX7_asked 8 rfl) rfl rfl ?_
      refine tq_iconst (v := (-1)) (dget dX7_asked 9 rfl) rfl ?_
      refine mq_Vi (As := [.int (-1)]) (rest := []) (dget dX7_asked 10 rfl) lX7_54 miX7_faultless (c_faultless σ (-1) d (by omega)) rfl rfl rfl rfl (Nat.le_of_ble_eq_true rfl) (Nat.le_of_ble_eq_true rfl) (fun r_20 σ_20 h_20 => ?_)
      obtain ⟨a_20, e_20⟩ := h_20
      rw [a_20]
      obtain rfl := e_20.symm
      exact tq_iret rfl (dget dX7_asked 11 rfl) ⟨_, rfl, by simp only [cnd_t (P := hM σ x) (b_5.t c_8), cnd_f (P := isSh k) (b_12.f c_15)], σ 33, by simp only [cnd_t (P := hM σ x) (b_5.t c_8), cnd_f (P := isSh k) (b_12.f c_15)]; rw [upR_self]⟩
/-- a text that is read, what comes of it -/
def txtP (σ τ σ2 : Mem) (N : Nat) (v : Int32) : Prop := ∃ p, fstP (τ 33) N p ∧ p ≤ 65 ∧ ((tkn (τ 33) N p ∧ (∃ ω, stI (up (up (up τ 1 0 (nI (dS (τ 33)))) 1 1 (nI (dM (τ 33)))) 1 2 3) ω (τ 33) (dS (τ 33)) (dM (τ 33)) (dM (τ 33)) ∧ v = nI (dM (τ 33)) ∧ σ2 = up (up (forgF ω) 21 4 0) 0 7 0)) ∨ (¬ tkn (τ 33) N p ∧ v = -100 - nI p ∧ σ2 = up τ 0 7 0))
def valP (σ : Mem) (k l i n v : Int32) (σ2 : Mem) : Prop := (¬ (isSh k ∧ isLn l ∧ fcS σ k l i n = 0) ∧ v = cnd (isSh k) (cnd (isLn l) (-10 - fcS σ k l i n) (-2)) (-1) ∧ σ2 = up σ 0 7 (cnd (isSh k) (cnd (isLn l) (fcS σ k l i n) 0) 0)) ∨ (isSh k ∧ isLn l ∧ fcS σ k l i n = 0 ∧ ∃ τ, τ = upR σ 33 (τ 33) ∧ (∀ j, j < cl n → τ 33 j = ceS σ k i j) ∧ txtP σ τ σ2 (cl n) v)
theorem nI_nm9 {s : Nat} (h : s < 2 ^ 31) : ¬ nI s = -9 := fun e => by
  have h2 := nI_pos h
  rw [e] at h2
  exact h2 (by decide)
theorem dM_hd {c : Nat → Int32} {N p : Nat} (h : fstP c N p) (h3 : 3 ≤ p) : hdP 1 (c 1) ∧ hdP 2 (c 2) := by
  have h1 := (h.1 1 (by omega)).2
  have h2 := (h.1 2 (by omega)).2
  constructor
  · rcases h1 with q | q
    · exact q.2
    · omega
  · rcases h2 with q | q
    · exact q.2
    · omega

set_option maxHeartbeats 4000000 in
set_option maxRecDepth 20000 in
theorem c_valley (σ : Mem) (hSh : SHT σ) (k l i n : Int32) (d : Nat) (hd : 4 ≤ d) : PMet d mX7_valley [.ref 0, .int k, .int l, .int i, .int n] σ (Pi (fun v σ2 => valP σ k l i n v σ2)) := by
  obtain ⟨d, rfl⟩ : ∃ e, d = e + 1 := ⟨d - 1, by omega⟩
  refine PMet.start (ls0 := [(0, .ref 0), (1, .int k), (2, .int l), (3, .int i), (4, .int n)]) miX7_valley.1 (Nat.le_of_ble_eq_true rfl) rfl ?_
  refine tq_iload_n 1 (dget dX7_valley 0 rfl) rfl rfl ?_
  refine mq_Si (As := [.int k]) (rest := []) (dget dX7_valley 1 rfl) lX7_50 miX7_isSheet (c_isSheet σ k d (by omega)) rfl rfl (Nat.le_of_ble_eq_true rfl) (Nat.le_of_ble_eq_true rfl) (fun r_1 σ_1 h_1 => ?_)
  obtain ⟨b_1, e_1⟩ := h_1
  obtain rfl := e_1.symm
  refine tq_if_ne (tgt := 13) (dget dX7_valley 2 rfl) (by decide) (fun c_4 => ?_) (fun c_4 => ?_)
  · refine tq_iload_n 2 (dget dX7_valley 7 rfl) rfl rfl ?_
    refine mq_Si (As := [.int l]) (rest := []) (dget dX7_valley 8 rfl) lX7_58 miX7_isLane (c_isLane σ l d (by omega)) rfl rfl (Nat.le_of_ble_eq_true rfl) (Nat.le_of_ble_eq_true rfl) (fun r_14 σ_14 h_14 => ?_)
    obtain ⟨b_14, e_14⟩ := h_14
    obtain rfl := e_14.symm
    refine tq_if_ne (tgt := 27) (dget dX7_valley 9 rfl) (by decide) (fun c_17 => ?_) (fun c_17 => ?_)
    · obtain ⟨kk, e_kk, hkk⟩ := isSh_n (b_1.t c_4)
      subst e_kk
      refine tq_aload_n 0 (dget dX7_valley 14 rfl) rfl rfl ?_
      refine tq_getR (dget dX7_valley 15 rfl) fX7_41 rfl rfl ?_
      refine tq_iload_n 1 (dget dX7_valley 16 rfl) rfl rfl ?_
      refine tq_sheets kk (dget dX7_valley 17 rfl) rfl (by omega) ?_
      refine tq_iload_n 2 (dget dX7_valley 18 rfl) rfl rfl ?_
      refine tq_iload_n 3 (dget dX7_valley 19 rfl) rfl rfl ?_
      refine tq_iload 4 (dget dX7_valley 20 rfl) rfl ?_
      refine mq_Vi (As := [.int l, .int i, .int n]) (rest := []) (dget dX7_valley 21 rfl) lX7_61 miX4_faultOfCells (c_faultOfCells σ kk (by omega) l i n d (by omega)) (SH_sheet (by omega)) rfl rfl rfl (Nat.le_of_ble_eq_true rfl) (Nat.le_of_ble_eq_true rfl) (fun r_37 σ_37 h_37 => ?_)
      obtain ⟨a_37, e_37⟩ := h_37
      obtain rfl := a_37.symm
      obtain rfl := e_37.symm
      refine tq_istore (ls2 := [(5, .int (fcF (σ (34 + 2 * kk) 1) (σ (34 + 2 * kk) 2) (σ (34 + 2 * kk) 3) l i n)), (0, .ref 0), (1, .int (nI kk)), (2, .int l), (3, .int i), (4, .int n)]) (dget dX7_valley 22 rfl) (by decide) rfl ?_
      refine tq_iload 0 (dget dX7_valley 23 rfl) rfl ?_
      refine tq_if_eq (tgt := 54) (dget dX7_valley 24 rfl) (by decide) (fun c_44 => ?_) (fun c_44 => ?_)
      · have gF : fcS σ (nI kk) l i n = 0 := by unfold fcS shH shV shN; rw [show cl (nI kk) = kk from nI_clamp (by omega)]; exact c_44
        obtain ⟨l0, hl, el⟩ := hSh kk hkk
        obtain ⟨a, N, e_a, e_N, haN⟩ := cells_n (fc_0 gF) (by unfold shN; rw [show cl (nI kk) = kk from nI_clamp (by omega)]; exact el) hl
        subst e_a
        subst e_N
        refine tq_aload_n 1 (dget dX7_valley 29 rfl) rfl rfl ?_
        refine tq_getR (dget dX7_valley 30 rfl) fX7_41 rfl rfl ?_
        refine tq_iload_n 2 (dget dX7_valley 31 rfl) rfl rfl ?_
        refine tq_sheets kk (dget dX7_valley 32 rfl) rfl (by omega) ?_
        refine tq_aload_n 1 (dget dX7_valley 33 rfl) rfl rfl ?_
        refine tq_getR (dget dX7_valley 34 rfl) fX7_45 rfl rfl ?_
        refine tq_iload_n 4 (dget dX7_valley 35 rfl) rfl rfl ?_
        refine tq_iload 5 (dget dX7_valley 36 rfl) rfl ?_
        refine mq_Vv (As := [.ref 33, .int (nI a), .int (nI N)]) (rest := []) (dget dX7_valley 37 rfl) lX7_68 miX4_readInto (c_readInto σ kk hkk a N (by omega) d (by omega)) (SH_sheet (by omega)) rfl rfl rfl (Nat.le_of_ble_eq_true rfl) (Nat.le_of_ble_eq_true rfl) (fun σ_67 h_67 => ?_)
        obtain rfl := Eq.symm h_67
        generalize hτ : upR σ 33 (va_cpy (σ (35 + 2 * kk)) (σ 33) a 0 N) = τ
        have t0 := mem_33 hτ
        have t1 : τ 1 = σ 1 := by rw [← hτ]; exact upR_n (by decide)
        have t2 : τ 2 = σ 2 := by rw [← hτ]; exact upR_n (by decide)
        have t33 : ∀ j, j < N → τ 33 j = σ (35 + 2 * kk) (a + j) := fun j hj => by rw [← hτ, upR_s]; unfold va_cpy; rw [if_pos ⟨Nat.zero_le _, by omega⟩, Nat.sub_zero]
        have cN : cl (nI N) = N := nI_clamp (by omega)
        have tq : ∀ j, j < cl (nI N) → τ 33 j = ceS σ (nI kk) (nI a) j := fun j hj => by
          rw [cN] at hj
          unfold ceS
          rw [show cl (nI kk) = kk from nI_clamp (by omega), show cl (nI a) = a from nI_clamp (by omega)]
          exact t33 j hj
        refine tq_aload_n 1 (dget dX7_valley 38 rfl) rfl rfl ?_
        refine tq_getR (dget dX7_valley 39 rfl) fX7_45 rfl rfl ?_
        refine tq_iload 5 (dget dX7_valley 40 rfl) rfl ?_
        refine mq_Si (As := [.ref 33, .int (nI N)]) (rest := []) (dget dX7_valley 41 rfl) lX7_72 miX5_firstFault (c_firstFault τ N (by omega) d (by omega)) rfl rfl (Nat.le_of_ble_eq_true rfl) (Nat.le_of_ble_eq_true rfl) (fun r_76 σ_76 h_76 => ?_)
        obtain ⟨a_76, e_76⟩ := h_76
        obtain rfl := e_76.symm
        refine tq_istore (ls2 := [(6, .int r_76), (5, .int (fcF (σ (34 + 2 * kk) 1) (σ (34 + 2 * kk) 2) (σ (34 + 2 * kk) 3) l (nI a) (nI N))), (0, .ref 0), (1, .int (nI kk)), (2, .int l), (3, .int (nI a)), (4, .int (nI N))]) (dget dX7_valley 42 rfl) (by decide) rfl ?_
        refine tq_iload 0 (dget dX7_valley 43 rfl) rfl ?_
        refine tq_bipush (v := (-9)) (dget dX7_valley 44 rfl) rfl ?_
        refine tq_icmp_eq (tgt := 98) (dget dX7_valley 45 rfl) (by decide) (fun c_85 => ?_) (fun c_85 => ?_)
        · obtain ⟨p, f1, f2, f3⟩ := a_76
          have f4 : tkn (τ 33) N p := by rcases f3 with q | q; exact q.2; exact absurd (q.1.symm.trans c_85) (nI_nm9 (by omega))
          have f5 := dM_hd f1 f4.1
          refine tq_aload_n 2 (dget dX7_valley 52 rfl) rfl rfl ?_
          refine tq_getR (dget dX7_valley 53 rfl) fX7_12 rfl rfl ?_
          refine tq_aload_n 2 (dget dX7_valley 54 rfl) rfl rfl ?_
          refine tq_getR (dget dX7_valley 55 rfl) fX7_45 rfl rfl ?_
          refine mq_Vv (As := [.ref 33]) (rest := []) (dget dX7_valley 56 rfl) lX7_78 miX6_settle (c_settle τ f5.1 f5.2 d (by omega)) rfl rfl rfl rfl (Nat.le_of_ble_eq_true rfl) (Nat.le_of_ble_eq_true rfl) (fun σ_106 h_106 => ?_)
          generalize σ_106 = ω at *
          refine tq_aload_n 2 (dget dX7_valley 57 rfl) rfl rfl ?_
          refine tq_getR (dget dX7_valley 58 rfl) fX7_21 rfl rfl ?_
          refine mq_Vv (As := []) (rest := []) (dget dX7_valley 59 rfl) lX7_82 miX2_forget (c_forget ω d (by omega)) rfl rfl rfl rfl (Nat.le_of_ble_eq_true rfl) (Nat.le_of_ble_eq_true rfl) (fun σ_113 h_113 => ?_)
          obtain rfl := Eq.symm h_113
          have hm1 : up (forgF ω) 21 4 0 1 1 = nI (dM (τ 33)) := by
            rw [up_row (by decide)]
            show begF 17 (up ω 13 4 0) 1 1 = _
            rw [begF_row (by decide) (by decide) (by decide), up_row (by decide), h_106.1 1 1 (by decide) (by omega) (by omega)]
            exact (up_n (by omega)).trans up_s
          refine tq_aload_n 2 (dget dX7_valley 60 rfl) rfl rfl ?_
          refine tq_getR (dget dX7_valley 61 rfl) fX7_28 rfl rfl ?_
          refine tq_iconst (v := 0) (dget dX7_valley 62 rfl) rfl ?_
          refine tq_putI (dget dX7_valley 63 rfl) fX7_85 rfl rfl rfl rfl ?_
          refine tq_aload_n 2 (dget dX7_valley 64 rfl) rfl rfl ?_
          refine tq_aload_n 2 (dget dX7_valley 65 rfl) rfl rfl ?_
          refine tq_getR (dget dX7_valley 66 rfl) fX7_12 rfl rfl ?_
          refine tq_getI (dget dX7_valley 67 rfl) fX7_89 rfl rfl ?_
          refine tq_eqi (y := (nI (dM (τ 33)))) hm1 ?_
          refine mq_Vi (As := [.int (nI (dM (τ 33)))]) (rest := []) (dget dX7_valley 68 rfl) lX7_54 miX7_faultless (c_faultless (up (forgF ω) 21 4 0) (nI (dM (τ 33))) d (by omega)) rfl rfl rfl rfl (Nat.le_of_ble_eq_true rfl) (Nat.le_of_ble_eq_true rfl) (fun r_132 σ_132 h_132 => ?_)
          obtain ⟨a_132, e_132⟩ := h_132
          rw [a_132]
          obtain rfl := e_132.symm
          exact tq_iret rfl (dget dX7_valley 69 rfl) (by refine ⟨_, rfl, Or.inr ⟨b_1.t c_4, b_14.t c_17, gF, τ, t0, fun j hj => tq j hj, p, by rw [cN]; exact f1, f2, Or.inl ⟨by rw [cN]; exact f4, ω, h_106, rfl, rfl⟩⟩⟩)
        · obtain ⟨p, f1, f2, f3⟩ := a_76
          have f4 : ¬ tkn (τ 33) N p := by rcases f3 with q | q; exact absurd q.1 c_85; exact q.2
          have f3 : r_76 = nI p := by rcases f3 with q | q; exact absurd q.1 c_85; exact q.1
          refine tq_aload_n 2 (dget dX7_valley 46 rfl) rfl rfl ?_
          refine tq_bipush (v := (-100)) (dget dX7_valley 47 rfl) rfl ?_
          refine tq_iload 0 (dget dX7_valley 48 rfl) rfl ?_
          refine tq_isub (dget dX7_valley 49 rfl) ?_
          refine mq_Vi (As := [.int ((-100) - r_76)]) (rest := []) (dget dX7_valley 50 rfl) lX7_54 miX7_faultless (c_faultless τ ((-100) - r_76) d (by omega)) rfl rfl rfl rfl (Nat.le_of_ble_eq_true rfl) (Nat.le_of_ble_eq_true rfl) (fun r_94 σ_94 h_94 => ?_)
          obtain ⟨a_94, e_94⟩ := h_94
          rw [a_94]
          obtain rfl := e_94.symm
          exact tq_iret rfl (dget dX7_valley 51 rfl) (by refine ⟨_, rfl, Or.inr ⟨b_1.t c_4, b_14.t c_17, gF, τ, t0, fun j hj => tq j hj, p, by rw [cN]; exact f1, f2, Or.inr ⟨by rw [cN]; exact f4, by rw [f3], rfl⟩⟩⟩)
      · have gFe : fcS σ (nI kk) l i n = fcF (σ (34 + 2 * kk) 1) (σ (34 + 2 * kk) 2) (σ (34 + 2 * kk) 3) l i n := by unfold fcS shH shV shN; rw [show cl (nI kk) = kk from nI_clamp (by omega)]
        have gF : ¬ fcS σ (nI kk) l i n = 0 := by rw [gFe]; exact c_44
        refine tq_aload_n 1 (dget dX7_valley 25 rfl) rfl rfl ?_
        refine tq_iload 0 (dget dX7_valley 26 rfl) rfl ?_
        refine mq_Vi (As := [.int (fcF (σ (34 + 2 * kk) 1) (σ (34 + 2 * kk) 2) (σ (34 + 2 * kk) 3) l i n)]) (rest := []) (dget dX7_valley 27 rfl) lX7_65 miX7_faulted (c_faulted σ (fcF (σ (34 + 2 * kk) 1) (σ (34 + 2 * kk) 2) (σ (34 + 2 * kk) 3) l i n) d (by omega)) rfl rfl rfl rfl (Nat.le_of_ble_eq_true rfl) (Nat.le_of_ble_eq_true rfl) (fun r_50 σ_50 h_50 => ?_)
        obtain ⟨a_50, e_50⟩ := h_50
        rw [a_50]
        obtain rfl := e_50.symm
        exact tq_iret rfl (dget dX7_valley 28 rfl) ⟨_, rfl, Or.inl ⟨fun q => gF q.2.2, by simp only [cnd_t (P := isSh (nI kk)) (b_1.t c_4), cnd_t (P := isLn l) (b_14.t c_17)]; rw [gFe], by simp only [cnd_t (P := isSh (nI kk)) (b_1.t c_4), cnd_t (P := isLn l) (b_14.t c_17)]; rw [gFe]⟩⟩
    · refine tq_aload_n 0 (dget dX7_valley 10 rfl) rfl rfl ?_
      refine tq_bipush (v := (-2)) (dget dX7_valley 11 rfl) rfl ?_
      refine mq_Vi (As := [.int (-2)]) (rest := []) (dget dX7_valley 12 rfl) lX7_54 miX7_faultless (c_faultless σ (-2) d (by omega)) rfl rfl rfl rfl (Nat.le_of_ble_eq_true rfl) (Nat.le_of_ble_eq_true rfl) (fun r_23 σ_23 h_23 => ?_)
      obtain ⟨a_23, e_23⟩ := h_23
      rw [a_23]
      obtain rfl := e_23.symm
      exact tq_iret rfl (dget dX7_valley 13 rfl) ⟨_, rfl, Or.inl ⟨fun q => b_14.f c_17 q.2.1, by simp only [cnd_t (P := isSh k) (b_1.t c_4), cnd_f (P := isLn l) (b_14.f c_17)], by simp only [cnd_t (P := isSh k) (b_1.t c_4), cnd_f (P := isLn l) (b_14.f c_17)]⟩⟩
  · refine tq_aload_n 0 (dget dX7_valley 3 rfl) rfl rfl ?_
    refine tq_iconst (v := (-1)) (dget dX7_valley 4 rfl) rfl ?_
    refine mq_Vi (As := [.int (-1)]) (rest := []) (dget dX7_valley 5 rfl) lX7_54 miX7_faultless (c_faultless σ (-1) d (by omega)) rfl rfl rfl rfl (Nat.le_of_ble_eq_true rfl) (Nat.le_of_ble_eq_true rfl) (fun r_9 σ_9 h_9 => ?_)
    obtain ⟨a_9, e_9⟩ := h_9
    rw [a_9]
    obtain rfl := e_9.symm
    exact tq_iret rfl (dget dX7_valley 6 rfl) ⟨_, rfl, Or.inl ⟨fun q => b_1.f c_4 q.1, by simp only [cnd_f (P := isSh k) (b_1.f c_4)], by simp only [cnd_f (P := isSh k) (b_1.f c_4)]⟩⟩
end
section
/-! ===== the reference (1): numbers, small helpers, days ===== -/
theorem w_le (a b : Int32) : a.toInt64 ≤ b.toInt64 ↔ a ≤ b := by
  rw [Int64.le_iff_toInt_le, Int32.toInt_toInt64, Int32.toInt_toInt64, Int32.le_iff_toInt_le]
theorem w_0 (a : Int32) : (0 : Int64) ≤ a.toInt64 ↔ 0 ≤ a := w_le 0 a
theorem w_lt1 {a : Int32} {M : Nat} (hM : M < 2 ^ 31) : a.toInt64 ≤ (nI M).toInt64 - 1 ↔ a < nI M := by
  have e1 : ((nI M).toInt64 - 1).toInt = (nI M).toInt - (1 : Int32).toInt := lg_i2l_sub (nI M) 1
  rw [Int64.le_iff_toInt_le, e1, Int32.toInt_toInt64, Int32.lt_iff_toInt_lt, nI_toInt hM, show (1 : Int32).toInt = 1 from rfl]
  omega
def hMm (σ : Mem) (x : Int32) : Prop := 0 ≤ x ∧ x < σ 42 2
def hSm (σ : Mem) (x : Int32) : Prop := 0 ≤ x ∧ x < σ 42 1
def VM (σ : Mem) (S M : Nat) : Prop := σ 42 1 = nI S ∧ σ 42 2 = nI M ∧ S ≤ 6 ∧ M ≤ 4
theorem hMm_n {σ : Mem} {S M : Nat} {x : Int32} (hV : VM σ S M) (h : hMm σ x) : ∃ m, x = nI m ∧ m < M ∧ m < 4 := by
  have h4 := hV.2.2.2
  have h2 := h.2
  rw [hV.2.1] at h2
  obtain ⟨j, e, _, h3⟩ := dig (a := 0) (b := M) (by decide) (by omega) h.1 h2
  exact ⟨j, e, h3, by omega⟩
theorem hSm_n {σ : Mem} {S M : Nat} {x : Int32} (hV : VM σ S M) (h : hSm σ x) : ∃ m, x = nI m ∧ m < S ∧ m < 6 := by
  have h4 := hV.2.2.1
  have h2 := h.2
  rw [hV.1] at h2
  obtain ⟨j, e, _, h3⟩ := dig (a := 0) (b := S) (by decide) (by omega) h.1 h2
  exact ⟨j, e, h3, by omega⟩
theorem BP.not {P Q : Prop} {v : Int32} (h : BP P v) (e : P ↔ Q) : BP Q v := h.iff e
theorem mind_m {k r : Int32} {j : Nat} (hk : k = nI j) (hj : j < 3) : (if k = 0 then 5 else if k = 1 then 7 else 3 + r) = mindF k r := by
  subst hk
  rcases (show j = 0 ∨ j = 1 ∨ j = 2 by omega) with rfl | rfl | rfl
  · rfl
  · rfl
  · rfl
theorem up_self (σ : Mem) (i k : Nat) : up σ i k (σ i k) = σ := by
  unfold up
  rw [show upd (σ i) k (σ i k) = σ i by funext j; unfold upd; split <;> simp_all]
  exact upR_self σ i
theorem upR_comm {σ : Mem} {i j : Nat} {f g : Nat → Int32} (h : i ≠ j) : upR (upR σ i f) j g = upR (upR σ j g) i f := by
  funext a
  by_cases h1 : a = j
  · subst h1; rw [upR_s, upR_n (Ne.symm h), upR_s]
  · rw [upR_n h1]
    by_cases h2 : a = i
    · subst h2; rw [upR_s, upR_s]
    · rw [upR_n h2, upR_n h2, upR_n h1]
def kOK (σ : Mem) (M : Nat) : Prop := ∀ m, m < M → ∃ j, j < 3 ∧ σ 43 m = nI j
def ansM (σ : Mem) (m s : Nat) : Int32 := ansF (σ 42 6) (σ 43 m) (σ 44 (6 * m + s)) (σ 52 m)
def begM (σ : Mem) : Mem := fillR (fillR (fillR σ 52 4 0) 53 4 (-9)) 54 6 (-9)
def askVm (σ : Mem) (s m : Nat) : Int32 := if σ 53 m < 0 ∧ σ 54 s < 0 then ansM σ m s else 0
def askMm (σ : Mem) (s m : Nat) : Mem := if σ 53 m < 0 ∧ σ 54 s < 0 then (if ansM σ m s = 3 then up σ 52 m (σ 52 m + 1) else up (up σ 53 m (nI s)) 54 s (nI m)) else σ
def goFm (σ : Mem) (s m : Nat → Nat) : Nat → Mem
  | 0 => begM σ
  | k + 1 => up (askMm (goFm σ s m k) (s k) (m k)) 51 k (askVm (goFm σ s m k) (s k) (m k))
theorem askMm_row {σ : Mem} {s m a : Nat} (h1 : a ≠ 52) (h2 : a ≠ 53) (h3 : a ≠ 54) : askMm σ s m a = σ a := by
  unfold askMm
  split
  · split
    · exact up_row h1
    · exact (up_row h3).trans (up_row h2)
  · rfl
theorem fillR_row {σ : Mem} {i n a : Nat} {v : Int32} (h : a ≠ i) : fillR σ i n v a = σ a := upR_n h
theorem begM_row {σ : Mem} {a : Nat} (h1 : a ≠ 52) (h2 : a ≠ 53) (h3 : a ≠ 54) : begM σ a = σ a := (fillR_row h3).trans ((fillR_row h2).trans (fillR_row h1))
theorem goFm_row (σ : Mem) (s m : Nat → Nat) {a : Nat} (h1 : a ≠ 52) (h2 : a ≠ 53) (h3 : a ≠ 54) (h4 : a ≠ 51) : ∀ k, goFm σ s m k a = σ a
  | 0 => begM_row h1 h2 h3
  | k + 1 => (up_row h4).trans ((askMm_row h1 h2 h3).trans (goFm_row σ s m h1 h2 h3 h4 k))
theorem beg_step (σ : Mem) (k : Nat) : up (up (fillR (fillR σ 52 k 0) 53 k (-9)) 52 k 0) 53 k (-9) = fillR (fillR σ 52 (k + 1) 0) 53 (k + 1) (-9) := by
  have e1 : up (fillR (fillR σ 52 k 0) 53 k (-9)) 52 k 0 = fillR (fillR σ 52 (k + 1) 0) 53 k (-9) := by
    rw [← fillR_succ σ 52 k 0]
    have e2 : fillR (fillR σ 52 k 0) 53 k (-9) 52 = fillR σ 52 k 0 52 := fillR_row (by decide)
    have e3 : up (fillR σ 52 k 0) 52 k 0 53 = fillR σ 52 k 0 53 := up_row (by decide)
    show upR (fillR (fillR σ 52 k 0) 53 k (-9)) 52 (upd (fillR (fillR σ 52 k 0) 53 k (-9) 52) k 0) = upR (up (fillR σ 52 k 0) 52 k 0) 53 (fun j => if j < k then -9 else up (fillR σ 52 k 0) 52 k 0 53 j)
    rw [e2, e3]
    exact upR_comm (by decide)
  rw [e1]
  exact fillR_succ _ 53 k (-9)

set_option maxHeartbeats 4000000 in
set_option maxRecDepth 20000 in
theorem k_in (σ : Mem) (a l h : Int64) (d : Nat) (hd : 0 ≤ d) : PMet d mX8_in [.long a, .long l, .long h] σ (Pi (fun v σ2 => BP (l ≤ a ∧ a ≤ h) v ∧ σ2 = σ)) := by
  refine PMet.start (ls0 := [(0, .long a), (2, .long l), (4, .long h)]) miX8_in.1 (Nat.le_of_ble_eq_true rfl) rfl ?_
  refine tq_lload_n 0 (dget dX8_in 0 rfl) rfl rfl ?_
  refine tq_lload_n 1 (dget dX8_in 1 rfl) rfl rfl ?_
  refine tq_lcmp (dget dX8_in 2 rfl) ?_
  refine tq_if_lt (tgt := 17) (dget dX8_in 3 rfl) (by decide) (fun c_3 => ?_) (fun c_3 => ?_)
  · refine tq_iconst (v := 0) (dget dX8_in 10 rfl) rfl ?_
    exact tq_zret rfl rfl (dget dX8_in 11 rfl) ⟨_, rfl, BP.n (fun q => by first | exact absurd ((lg_cmp_ge a l).mpr q.1) (Int32.not_le.mpr c_3) | exact absurd ((lg_cmp_le a h).mpr q.2) (Int32.not_le.mpr c_10)), rfl⟩
  · refine tq_lload_n 0 (dget dX8_in 4 rfl) rfl rfl ?_
    refine tq_lload 2 (dget dX8_in 5 rfl) rfl ?_
    refine tq_lcmp (dget dX8_in 6 rfl) ?_
    refine tq_if_gt (tgt := 17) (dget dX8_in 7 rfl) (by decide) (fun c_10 => ?_) (fun c_10 => ?_)
    · refine tq_iconst (v := 0) (dget dX8_in 10 rfl) rfl ?_
      exact tq_zret rfl rfl (dget dX8_in 11 rfl) ⟨_, rfl, BP.n (fun q => by first | exact absurd ((lg_cmp_ge a l).mpr q.1) (Int32.not_le.mpr c_3) | exact absurd ((lg_cmp_le a h).mpr q.2) (Int32.not_le.mpr c_10)), rfl⟩
    · refine tq_iconst (v := 1) (dget dX8_in 8 rfl) rfl ?_
      refine tq_goto (tgt := 18) (dget dX8_in 9 rfl) (by decide) ?_
      exact tq_zret rfl rfl (dget dX8_in 11 rfl) ⟨_, rfl, BP.y ⟨(lg_cmp_ge a l).mp (Int32.not_lt.mp c_3), (lg_cmp_le a h).mp (Int32.not_lt.mp c_10)⟩, rfl⟩
set_option maxHeartbeats 4000000 in
set_option maxRecDepth 20000 in
theorem k_lost (σ : Mem) (d : Nat) (hd : 0 ≤ d) : PMet d mX8_lost [] σ (Pl (fun v σ2 => v = (-9223372036854775808) ∧ σ2 = σ)) := by
  refine PMet.start (ls0 := []) miX8_lost.1 (Nat.le_of_ble_eq_true rfl) rfl ?_
  refine tq_ldc2 (v := (-9223372036854775808)) (dget dX8_lost 0 rfl) (tblG_4 85 rfl rfl) ?_
  exact tq_lret rfl (dget dX8_lost 1 rfl) ⟨_, rfl, rfl, rfl⟩
set_option maxHeartbeats 4000000 in
set_option maxRecDepth 20000 in
theorem k_refused (σ : Mem) (x : Int32) (d : Nat) (hd : 0 ≤ d) : PMet d mX8_refused [.ref 42, .int x] σ (Pi (fun v σ2 => v = x ∧ σ2 = up σ 42 0 0)) := by
  refine PMet.start (ls0 := [(0, .ref 42), (1, .int x)]) miX8_refused.1 (Nat.le_of_ble_eq_true rfl) rfl ?_
  refine tq_aload_n 0 (dget dX8_refused 0 rfl) rfl rfl ?_
  refine tq_iconst (v := 0) (dget dX8_refused 1 rfl) rfl ?_
  refine tq_putI (dget dX8_refused 2 rfl) fX8_73 rfl rfl rfl rfl ?_
  refine tq_iload_n 1 (dget dX8_refused 3 rfl) rfl rfl ?_
  exact tq_iret rfl (dget dX8_refused 4 rfl) ⟨_, rfl, rfl, rfl⟩
set_option maxHeartbeats 4000000 in
set_option maxRecDepth 20000 in
theorem k_failed (σ : Mem) (x : Int32) (d : Nat) (hd : 0 ≤ d) : PMet d mX8_failed [.ref 42, .int x] σ (Pi (fun v σ2 => v = -10 - x ∧ σ2 = up σ 42 0 x)) := by
  refine PMet.start (ls0 := [(0, .ref 42), (1, .int x)]) miX8_failed.1 (Nat.le_of_ble_eq_true rfl) rfl ?_
  refine tq_aload_n 0 (dget dX8_failed 0 rfl) rfl rfl ?_
  refine tq_iload_n 1 (dget dX8_failed 1 rfl) rfl rfl ?_
  refine tq_putI (dget dX8_failed 2 rfl) fX8_73 rfl rfl rfl rfl ?_
  refine tq_bipush (v := (-10)) (dget dX8_failed 3 rfl) rfl ?_
  refine tq_iload_n 1 (dget dX8_failed 4 rfl) rfl rfl ?_
  refine tq_isub (dget dX8_failed 5 rfl) ?_
  exact tq_iret rfl (dget dX8_failed 6 rfl) ⟨_, rfl, rfl, rfl⟩
set_option maxHeartbeats 4000000 in
set_option maxRecDepth 20000 in
theorem k_failedLong (σ : Mem) (x : Int32) (d : Nat) (hd : 1 ≤ d) : PMet d mX8_failedLong [.ref 42, .int x] σ (Pl (fun v σ2 => v = (-9223372036854775808) ∧ σ2 = up σ 42 0 x)) := by
  obtain ⟨d, rfl⟩ : ∃ e, d = e + 1 := ⟨d - 1, by omega⟩
  refine PMet.start (ls0 := [(0, .ref 42), (1, .int x)]) miX8_failedLong.1 (Nat.le_of_ble_eq_true rfl) rfl ?_
  refine tq_aload_n 0 (dget dX8_failedLong 0 rfl) rfl rfl ?_
  refine tq_iload_n 1 (dget dX8_failedLong 1 rfl) rfl rfl ?_
  refine tq_putI (dget dX8_failedLong 2 rfl) fX8_73 rfl rfl rfl rfl ?_
  refine mq_Sl (As := []) (rest := []) (dget dX8_failedLong 3 rfl) lX8_77 miX8_lost (k_lost (up σ 42 0 x) d (by omega)) rfl rfl (Nat.le_of_ble_eq_true rfl) (Nat.le_of_ble_eq_true rfl) (fun r_5 σ_5 h_5 => ?_)
  obtain ⟨a_5, e_5⟩ := h_5
  obtain rfl := a_5.symm
  obtain rfl := e_5.symm
  exact tq_lret rfl (dget dX8_failedLong 4 rfl) ⟨_, rfl, rfl, rfl⟩
set_option maxHeartbeats 4000000 in
set_option maxRecDepth 20000 in
theorem k_noMaid (σ : Mem) (S M : Nat) (hV : VM σ S M) (x : Int32) (d : Nat) (hd : 1 ≤ d) : PMet d mX8_noMaid [.ref 42, .int x] σ (Pi (fun v σ2 => BP (¬ hMm σ x) v ∧ σ2 = σ)) := by
  obtain ⟨d, rfl⟩ : ∃ e, d = e + 1 := ⟨d - 1, by omega⟩
  refine PMet.start (ls0 := [(0, .ref 42), (1, .int x)]) miX8_noMaid.1 (Nat.le_of_ble_eq_true rfl) rfl ?_
  have v3 := hV.2.2.1
  have v4 := hV.2.2.2
  have hE : ((0 : Int64) ≤ x.toInt64 ∧ x.toInt64 ≤ (σ 42 2).toInt64 - 1) ↔ hMm σ x := by unfold hMm; rw [hV.2.1, w_0, w_lt1 (by omega)]
  refine tq_iload_n 1 (dget dX8_noMaid 0 rfl) rfl rfl ?_
  refine tq_i2l (dget dX8_noMaid 1 rfl) ?_
  refine tq_lconst (v := 0) (dget dX8_noMaid 2 rfl) rfl ?_
  refine tq_aload_n 0 (dget dX8_noMaid 3 rfl) rfl rfl ?_
  refine tq_getI (dget dX8_noMaid 4 rfl) fX8_88 rfl rfl ?_
  refine tq_i2l (dget dX8_noMaid 5 rfl) ?_
  refine tq_lconst (v := 1) (dget dX8_noMaid 6 rfl) rfl ?_
  refine tq_lsub (dget dX8_noMaid 7 rfl) ?_
  refine mq_Si (As := [.long (x).toInt64, .long 0, .long (((σ 42 2)).toInt64 - 1)]) (rest := []) (dget dX8_noMaid 8 rfl) lX8_84 miX8_in (k_in σ (x).toInt64 0 (((σ 42 2)).toInt64 - 1) d (by omega)) rfl rfl (Nat.le_of_ble_eq_true rfl) (Nat.le_of_ble_eq_true rfl) (fun r_10 σ_10 h_10 => ?_)
  obtain ⟨b_10, e_10⟩ := h_10
  obtain rfl := e_10.symm
  have b_10 := b_10.iff hE
  refine tq_if_ne (tgt := 20) (dget dX8_noMaid 9 rfl) (by decide) (fun c_13 => ?_) (fun c_13 => ?_)
  · refine tq_iconst (v := 0) (dget dX8_noMaid 12 rfl) rfl ?_
    exact tq_zret rfl rfl (dget dX8_noMaid 13 rfl) ⟨_, rfl, BP.n (fun q => q (b_10.t c_13)), rfl⟩
  · refine tq_iconst (v := 1) (dget dX8_noMaid 10 rfl) rfl ?_
    refine tq_goto (tgt := 21) (dget dX8_noMaid 11 rfl) (by decide) ?_
    exact tq_zret rfl rfl (dget dX8_noMaid 13 rfl) ⟨_, rfl, BP.y (b_10.f c_13), rfl⟩
set_option maxHeartbeats 4000000 in
set_option maxRecDepth 20000 in
theorem k_noSuitor (σ : Mem) (S M : Nat) (hV : VM σ S M) (x : Int32) (d : Nat) (hd : 1 ≤ d) : PMet d mX8_noSuitor [.ref 42, .int x] σ (Pi (fun v σ2 => BP (¬ hSm σ x) v ∧ σ2 = σ)) := by
  obtain ⟨d, rfl⟩ : ∃ e, d = e + 1 := ⟨d - 1, by omega⟩
  refine PMet.start (ls0 := [(0, .ref 42), (1, .int x)]) miX8_noSuitor.1 (Nat.le_of_ble_eq_true rfl) rfl ?_
  have v3 := hV.2.2.1
  have v4 := hV.2.2.2
  have hE : ((0 : Int64) ≤ x.toInt64 ∧ x.toInt64 ≤ (σ 42 1).toInt64 - 1) ↔ hSm σ x := by unfold hSm; rw [hV.1, w_0, w_lt1 (by omega)]
  refine tq_iload_n 1 (dget dX8_noSuitor 0 rfl) rfl rfl ?_
  refine tq_i2l (dget dX8_noSuitor 1 rfl) ?_
  refine tq_lconst (v := 0) (dget dX8_noSuitor 2 rfl) rfl ?_
  refine tq_aload_n 0 (dget dX8_noSuitor 3 rfl) rfl rfl ?_
  refine tq_getI (dget dX8_noSuitor 4 rfl) fX8_81 rfl rfl ?_
  refine tq_i2l (dget dX8_noSuitor 5 rfl) ?_
  refine tq_lconst (v := 1) (dget dX8_noSuitor 6 rfl) rfl ?_
  refine tq_lsub (dget dX8_noSuitor 7 rfl) ?_
  refine mq_Si (As := [.long (x).toInt64, .long 0, .long (((σ 42 1)).toInt64 - 1)]) (rest := []) (dget dX8_noSuitor 8 rfl) lX8_84 miX8_in (k_in σ (x).toInt64 0 (((σ 42 1)).toInt64 - 1) d (by omega)) rfl rfl (Nat.le_of_ble_eq_true rfl) (Nat.le_of_ble_eq_true rfl) (fun r_10 σ_10 h_10 => ?_)
  obtain ⟨b_10, e_10⟩ := h_10
  obtain rfl := e_10.symm
  have b_10 := b_10.iff hE
  refine tq_if_ne (tgt := 20) (dget dX8_noSuitor 9 rfl) (by decide) (fun c_13 => ?_) (fun c_13 => ?_)
  · refine tq_iconst (v := 0) (dget dX8_noSuitor 12 rfl) rfl ?_
    exact tq_zret rfl rfl (dget dX8_noSuitor 13 rfl) ⟨_, rfl, BP.n (fun q => q (b_10.t c_13)), rfl⟩
  · refine tq_iconst (v := 1) (dget dX8_noSuitor 10 rfl) rfl ?_
    refine tq_goto (tgt := 21) (dget dX8_noSuitor 11 rfl) (by decide) ?_
    exact tq_zret rfl rfl (dget dX8_noSuitor 13 rfl) ⟨_, rfl, BP.y (b_10.f c_13), rfl⟩
set_option maxHeartbeats 4000000 in
set_option maxRecDepth 20000 in
theorem k_noSheet (σ : Mem) (x : Int32) (d : Nat) (hd : 1 ≤ d) : PMet d mX8_noSheet [.int x] σ (Pi (fun v σ2 => BP (¬ isSh x) v ∧ σ2 = σ)) := by
  obtain ⟨d, rfl⟩ : ∃ e, d = e + 1 := ⟨d - 1, by omega⟩
  refine PMet.start (ls0 := [(0, .int x)]) miX8_noSheet.1 (Nat.le_of_ble_eq_true rfl) rfl ?_
  have hE : ((0 : Int64) ≤ x.toInt64 ∧ x.toInt64 ≤ 3) ↔ isSh x := by unfold isSh; rw [w_0]; have h3 := w_le x 3; constructor; intro q; exact ⟨q.1, by have := h3.mp q.2; exact Int32.lt_of_le_of_lt this (by decide)⟩; intro q; exact ⟨q.1, h3.mpr (by obtain ⟨j, rfl, hj⟩ := isSh_n q; exact nI_le (b := 3) (by omega) (by decide))⟩
  refine tq_iload_n 0 (dget dX8_noSheet 0 rfl) rfl rfl ?_
  refine tq_i2l (dget dX8_noSheet 1 rfl) ?_
  refine tq_lconst (v := 0) (dget dX8_noSheet 2 rfl) rfl ?_
  refine tq_ldc2 (v := 3) (dget dX8_noSheet 3 rfl) (tblG_3 218 rfl rfl) ?_
  refine mq_Si (As := [.long (x).toInt64, .long 0, .long 3]) (rest := []) (dget dX8_noSheet 4 rfl) lX8_84 miX8_in (k_in σ (x).toInt64 0 3 d (by omega)) rfl rfl (Nat.le_of_ble_eq_true rfl) (Nat.le_of_ble_eq_true rfl) (fun r_6 σ_6 h_6 => ?_)
  obtain ⟨b_6, e_6⟩ := h_6
  obtain rfl := e_6.symm
  have b_6 := b_6.iff hE
  refine tq_if_ne (tgt := 16) (dget dX8_noSheet 5 rfl) (by decide) (fun c_9 => ?_) (fun c_9 => ?_)
  · refine tq_iconst (v := 0) (dget dX8_noSheet 8 rfl) rfl ?_
    exact tq_zret rfl rfl (dget dX8_noSheet 9 rfl) ⟨_, rfl, BP.n (fun q => q (b_6.t c_9)), rfl⟩
  · refine tq_iconst (v := 1) (dget dX8_noSheet 6 rfl) rfl ?_
    refine tq_goto (tgt := 17) (dget dX8_noSheet 7 rfl) (by decide) ?_
    exact tq_zret rfl rfl (dget dX8_noSheet 9 rfl) ⟨_, rfl, BP.y (b_6.f c_9), rfl⟩
set_option maxHeartbeats 4000000 in
set_option maxRecDepth 20000 in
theorem k_mindOf (σ : Mem) (k r : Int32) (j : Nat) (hk : k = nI j) (hj : j < 3) (d : Nat) (hd : 0 ≤ d) : PMet d mX8_mindOf [.int k, .int r] σ (Pi (fun v σ2 => v = mindF k r ∧ σ2 = σ)) := by
  refine PMet.start (ls0 := [(0, .int k), (1, .int r)]) miX8_mindOf.1 (Nat.le_of_ble_eq_true rfl) rfl ?_
  refine tq_iload_n 0 (dget dX8_mindOf 0 rfl) rfl rfl ?_
  refine tq_if_ne (tgt := 8) (dget dX8_mindOf 1 rfl) (by decide) (fun c_1 => ?_) (fun c_1 => ?_)
  · refine tq_iload_n 0 (dget dX8_mindOf 4 rfl) rfl rfl ?_
    refine tq_iconst (v := 1) (dget dX8_mindOf 5 rfl) rfl ?_
    refine tq_icmp_ne (tgt := 18) (dget dX8_mindOf 6 rfl) (by decide) (fun c_10 => ?_) (fun c_10 => ?_)
    · refine tq_iconst (v := 3) (dget dX8_mindOf 9 rfl) rfl ?_
      refine tq_iload_n 1 (dget dX8_mindOf 10 rfl) rfl rfl ?_
      refine tq_iadd (dget dX8_mindOf 11 rfl) ?_
      exact tq_iret rfl (dget dX8_mindOf 12 rfl) ⟨_, rfl, by rw [← mind_m hk hj]; simp [c_1, c_10], rfl⟩
    · refine tq_bipush (v := 7) (dget dX8_mindOf 7 rfl) rfl ?_
      refine tq_goto (tgt := 21) (dget dX8_mindOf 8 rfl) (by decide) ?_
      exact tq_iret rfl (dget dX8_mindOf 12 rfl) ⟨_, rfl, by rw [← mind_m hk hj]; simp [c_1, c_10], rfl⟩
  · refine tq_iconst (v := 5) (dget dX8_mindOf 2 rfl) rfl ?_
    refine tq_goto (tgt := 21) (dget dX8_mindOf 3 rfl) (by decide) ?_
    exact tq_iret rfl (dget dX8_mindOf 12 rfl) ⟨_, rfl, by rw [← mind_m hk hj]; simp [c_1], rfl⟩
set_option maxHeartbeats 4000000 in
set_option maxRecDepth 20000 in
theorem k_begin2 (σ : Mem) (d : Nat) (hd : 0 ≤ d) : ∀ (n : Nat) (k : Nat) (hm : 6 < k + n) (hk : k ≤ 6), PAt (EM d (Pv (fun σ2 => σ2 = fillR σ 54 6 (-9)))) mX8_begin 30 [(1, .int (nI k)), (0, .ref 42)] [] (fillR σ 54 k (-9)) := by
  intro n
  induction n with
  | zero => intro k hm hk; exact absurd hm (by omega)
  | succ n ih =>
    intro k hm hk
    refine tq_iload_n 0 (dget dX8_begin 19 rfl) rfl rfl ?_
    refine tq_bipush (v := 6) (dget dX8_begin 20 rfl) rfl ?_
    refine tq_icmp_ge (tgt := 50) (dget dX8_begin 21 rfl) (by decide) (fun c_33 => ?_) (fun c_33 => ?_)
    · have g_33 := kle (a := 6) (b := k) (by omega) (by omega) c_33
      exact tq_vret rfl (dget dX8_begin 29 rfl) ⟨rfl, by rw [show k = 6 by omega]⟩
    · have g_33 := knle (b := k) (a := 6) (by omega) (by omega) c_33
      refine tq_aload_n 1 (dget dX8_begin 22 rfl) rfl rfl ?_
      refine tq_getR (dget dX8_begin 23 rfl) fX8_43 rfl rfl ?_
      refine tq_iload_n 0 (dget dX8_begin 24 rfl) rfl rfl ?_
      refine tq_bipush (v := (-9)) (dget dX8_begin 25 rfl) rfl ?_
      refine tq_iastN k (dget dX8_begin 26 rfl) rfl (by decide) rfl (by omega) ?_
      refine tq_iinc (v := (nI (k + 1))) (ls2 := [(1, .int (nI (k + 1))), (0, .ref 42)]) 0 (dget dX8_begin 27 rfl) rfl (nI_1 k) (by decide) rfl ?_
      refine tq_goto (tgt := 30) (dget dX8_begin 28 rfl) (by decide) ?_
      refine tq_sub [0, 1] (ls' := [(1, .int (nI (k + 1))), (0, .ref 42)]) rfl ?_
      refine tq_mem (fillR_succ σ 54 k (-9)) ?_
      exact ih (k + 1) (by omega) (by omega)
set_option maxHeartbeats 4000000 in
set_option maxRecDepth 20000 in
theorem k_begin1 (σ : Mem) (d : Nat) (hd : 0 ≤ d) : ∀ (n : Nat) (k : Nat) (hm : 4 < k + n) (hk : k ≤ 4), PAt (EM d (Pv (fun σ2 => σ2 = begM σ))) mX8_begin 2 [(1, .int (nI k)), (0, .ref 42)] [] (fillR (fillR σ 52 k 0) 53 k (-9)) := by
  intro n
  induction n with
  | zero => intro k hm hk; exact absurd hm (by omega)
  | succ n ih =>
    intro k hm hk
    refine tq_iload_n 0 (dget dX8_begin 2 rfl) rfl rfl ?_
    refine tq_iconst (v := 4) (dget dX8_begin 3 rfl) rfl ?_
    refine tq_icmp_ge (tgt := 28) (dget dX8_begin 4 rfl) (by decide) (fun c_4 => ?_) (fun c_4 => ?_)
    · have g_4 := kle (a := 4) (b := k) (by omega) (by omega) c_4
      refine tq_iconst (v := 0) (dget dX8_begin 17 rfl) rfl ?_
      refine tq_istore_n (ls2 := [(1, .int 0), (0, .ref 42)]) (dget dX8_begin 18 rfl) rfl (by decide) rfl ?_
      refine tq_sub [0, 1] (ls' := [(1, .int 0), (0, .ref 42)]) rfl ?_
      rw [show k = 4 by omega, show (0 : Int32) = nI 0 from rfl]
      refine tq_mem (fillR_0 _ 54 (-9)) ?_
      exact k_begin2 _ d (by omega) 7 0 (by omega) (by omega)
    · have g_4 := knle (b := k) (a := 4) (by omega) (by omega) c_4
      refine tq_aload_n 1 (dget dX8_begin 5 rfl) rfl rfl ?_
      refine tq_getR (dget dX8_begin 6 rfl) fX8_37 rfl rfl ?_
      refine tq_iload_n 0 (dget dX8_begin 7 rfl) rfl rfl ?_
      refine tq_iconst (v := 0) (dget dX8_begin 8 rfl) rfl ?_
      refine tq_iastN k (dget dX8_begin 9 rfl) rfl (by decide) rfl (by omega) ?_
      refine tq_aload_n 1 (dget dX8_begin 10 rfl) rfl rfl ?_
      refine tq_getR (dget dX8_begin 11 rfl) fX8_40 rfl rfl ?_
      refine tq_iload_n 0 (dget dX8_begin 12 rfl) rfl rfl ?_
      refine tq_bipush (v := (-9)) (dget dX8_begin 13 rfl) rfl ?_
      refine tq_iastN k (dget dX8_begin 14 rfl) rfl (by decide) rfl (by omega) ?_
      refine tq_iinc (v := (nI (k + 1))) (ls2 := [(1, .int (nI (k + 1))), (0, .ref 42)]) 0 (dget dX8_begin 15 rfl) rfl (nI_1 k) (by decide) rfl ?_
      refine tq_goto (tgt := 2) (dget dX8_begin 16 rfl) (by decide) ?_
      refine tq_sub [0, 1] (ls' := [(1, .int (nI (k + 1))), (0, .ref 42)]) rfl ?_
      refine tq_mem (beg_step σ k) ?_
      exact ih (k + 1) (by omega) (by omega)
set_option maxHeartbeats 4000000 in
set_option maxRecDepth 20000 in
theorem k_begin (σ : Mem) (d : Nat) (hd : 0 ≤ d) : PMet d mX8_begin [.ref 42] σ (Pv (fun σ2 => σ2 = begM σ)) := by
  refine PMet.start (ls0 := [(0, .ref 42)]) miX8_begin.1 (Nat.le_of_ble_eq_true rfl) rfl ?_
  refine tq_iconst (v := 0) (dget dX8_begin 0 rfl) rfl ?_
  refine tq_istore_n (ls2 := [(1, .int 0), (0, .ref 42)]) (dget dX8_begin 1 rfl) rfl (by decide) rfl ?_
  refine tq_sub [0, 1] (ls' := [(1, .int 0), (0, .ref 42)]) rfl ?_
  rw [show (0 : Int32) = nI 0 from rfl]
  refine tq_mem (show σ = fillR (fillR σ 52 0 (nI 0)) 53 0 (-9) by rw [← fillR_0, ← fillR_0]) ?_
  exact k_begin1 σ d (by omega) 5 0 (by omega) (by omega)
set_option maxHeartbeats 4000000 in
set_option maxRecDepth 20000 in
theorem k_doesWith (σ : Mem) (m s : Nat) (hm4 : m < 4) (hs6 : s < 6) (j : Nat) (hk : σ 43 m = nI j) (hj : j < 3) (d : Nat) (hd : 1 ≤ d) : PMet d mX8_doesWith [.ref 42, .int (nI m), .int (nI s)] σ (Pi (fun v σ2 => v = ansM σ m s ∧ σ2 = σ)) := by
  obtain ⟨d, rfl⟩ : ∃ e, d = e + 1 := ⟨d - 1, by omega⟩
  refine PMet.start (ls0 := [(0, .ref 42), (1, .int (nI m)), (2, .int (nI s))]) miX8_doesWith.1 (Nat.le_of_ble_eq_true rfl) rfl ?_
  refine tq_aload_n 0 (dget dX8_doesWith 0 rfl) rfl rfl ?_
  refine tq_getR (dget dX8_doesWith 1 rfl) fX8_37 rfl rfl ?_
  refine tq_iload_n 1 (dget dX8_doesWith 2 rfl) rfl rfl ?_
  refine tq_ialdN m (dget dX8_doesWith 3 rfl) rfl (by decide) rfl (by omega) ?_
  refine tq_aload_n 0 (dget dX8_doesWith 4 rfl) rfl rfl ?_
  refine tq_getI (dget dX8_doesWith 5 rfl) fX8_143 rfl rfl ?_
  refine tq_icmp_lt (tgt := 15) (dget dX8_doesWith 6 rfl) (by decide) (fun c_10 => ?_) (fun c_10 => ?_)
  · refine tq_aload_n 0 (dget dX8_doesWith 9 rfl) rfl rfl ?_
    refine tq_getR (dget dX8_doesWith 10 rfl) fX8_13 rfl rfl ?_
    refine tq_bipush (v := 6) (dget dX8_doesWith 11 rfl) rfl ?_
    refine tq_iload_n 1 (dget dX8_doesWith 12 rfl) rfl rfl ?_
    refine tq_imul (dget dX8_doesWith 13 rfl) ?_
    refine tq_eqi (y := (nI (6 * m))) (nI_mulN (6) (m)) ?_
    refine tq_iload_n 2 (dget dX8_doesWith 14 rfl) rfl rfl ?_
    refine tq_iadd (dget dX8_doesWith 15 rfl) ?_
    refine tq_eqi (y := (nI ((6 * m) + s))) (nI_add ((6 * m)) (s)) ?_
    refine tq_ialdN ((6 * m) + s) (dget dX8_doesWith 16 rfl) rfl (by decide) rfl (by omega) ?_
    refine tq_aload_n 0 (dget dX8_doesWith 17 rfl) rfl rfl ?_
    refine tq_getR (dget dX8_doesWith 18 rfl) fX8_7 rfl rfl ?_
    refine tq_iload_n 1 (dget dX8_doesWith 19 rfl) rfl rfl ?_
    refine tq_ialdN m (dget dX8_doesWith 20 rfl) rfl (by decide) rfl (by omega) ?_
    refine tq_aload_n 0 (dget dX8_doesWith 21 rfl) rfl rfl ?_
    refine tq_getR (dget dX8_doesWith 22 rfl) fX8_37 rfl rfl ?_
    refine tq_iload_n 1 (dget dX8_doesWith 23 rfl) rfl rfl ?_
    refine tq_ialdN m (dget dX8_doesWith 24 rfl) rfl (by decide) rfl (by omega) ?_
    refine mq_Si (As := [.int (σ 43 m), .int (σ 52 m)]) (rest := [.int (σ 44 ((6 * m) + s))]) (dget dX8_doesWith 25 rfl) lX8_163 miX8_mindOf (k_mindOf σ (σ 43 m) (σ 52 m) j hk hj d (by omega)) rfl rfl (Nat.le_of_ble_eq_true rfl) (Nat.le_of_ble_eq_true rfl) (fun r_38 σ_38 h_38 => ?_)
    obtain ⟨a_38, e_38⟩ := h_38
    obtain rfl := a_38.symm
    obtain rfl := e_38.symm
    refine tq_icmp_lt (tgt := 48) (dget dX8_doesWith 26 rfl) (by decide) (fun c_41 => ?_) (fun c_41 => ?_)
    · refine tq_iconst (v := 3) (dget dX8_doesWith 29 rfl) rfl ?_
      exact tq_iret rfl (dget dX8_doesWith 30 rfl) ⟨_, rfl, by simp [ansM, ansF, c_10, Int32.not_le.mpr c_10, c_41, Int32.not_le.mpr c_41], rfl⟩
    · refine tq_iconst (v := 1) (dget dX8_doesWith 27 rfl) rfl ?_
      refine tq_goto (tgt := 49) (dget dX8_doesWith 28 rfl) (by decide) ?_
      exact tq_iret rfl (dget dX8_doesWith 30 rfl) ⟨_, rfl, by simp [ansM, ansF, c_10, Int32.not_le.mpr c_10, c_41, Int32.not_lt.mp c_41], rfl⟩
  · refine tq_iconst (v := 2) (dget dX8_doesWith 7 rfl) rfl ?_
    exact tq_iret rfl (dget dX8_doesWith 8 rfl) ⟨_, rfl, by simp [ansM, ansF, c_10, Int32.not_lt.mp c_10], rfl⟩
set_option maxHeartbeats 4000000 in
set_option maxRecDepth 20000 in
theorem k_ask (σ : Mem) (m s : Nat) (hm4 : m < 4) (hs6 : s < 6) (j : Nat) (hk : σ 43 m = nI j) (hj : j < 3) (d : Nat) (hd : 2 ≤ d) : PMet d mX8_ask [.ref 42, .int (nI s), .int (nI m)] σ (Pi (fun v σ2 => v = askVm σ s m ∧ σ2 = askMm σ s m)) := by
  obtain ⟨d, rfl⟩ : ∃ e, d = e + 1 := ⟨d - 1, by omega⟩
  refine PMet.start (ls0 := [(0, .ref 42), (1, .int (nI s)), (2, .int (nI m))]) miX8_ask.1 (Nat.le_of_ble_eq_true rfl) rfl ?_
  refine tq_aload_n 0 (dget dX8_ask 0 rfl) rfl rfl ?_
  refine tq_getR (dget dX8_ask 1 rfl) fX8_40 rfl rfl ?_
  refine tq_iload_n 2 (dget dX8_ask 2 rfl) rfl rfl ?_
  refine tq_ialdN m (dget dX8_ask 3 rfl) rfl (by decide) rfl (by omega) ?_
  refine tq_if_ge (tgt := 18) (dget dX8_ask 4 rfl) (by decide) (fun c_6 => ?_) (fun c_6 => ?_)
  · refine tq_iconst (v := 0) (dget dX8_ask 10 rfl) rfl ?_
    exact tq_iret rfl (dget dX8_ask 11 rfl) (by have f9 : ¬ (σ 53 m < 0 ∧ σ 54 s < 0) := fun q => absurd q.1 (Int32.not_lt.mpr c_6); exact ⟨_, rfl, (if_neg f9).symm, (if_neg f9).symm⟩)
  · refine tq_aload_n 0 (dget dX8_ask 5 rfl) rfl rfl ?_
    refine tq_getR (dget dX8_ask 6 rfl) fX8_43 rfl rfl ?_
    refine tq_iload_n 1 (dget dX8_ask 7 rfl) rfl rfl ?_
    refine tq_ialdN s (dget dX8_ask 8 rfl) rfl (by decide) rfl (by omega) ?_
    refine tq_if_lt (tgt := 20) (dget dX8_ask 9 rfl) (by decide) (fun c_15 => ?_) (fun c_15 => ?_)
    · refine tq_aload_n 0 (dget dX8_ask 12 rfl) rfl rfl ?_
      refine tq_iload_n 2 (dget dX8_ask 13 rfl) rfl rfl ?_
      refine tq_iload_n 1 (dget dX8_ask 14 rfl) rfl rfl ?_
      refine mq_Vi (As := [.int (nI m), .int (nI s)]) (rest := []) (dget dX8_ask 15 rfl) lX8_166 miX8_doesWith (k_doesWith σ m s (by omega) (by omega) j hk hj d (by omega)) rfl rfl rfl rfl (Nat.le_of_ble_eq_true rfl) (Nat.le_of_ble_eq_true rfl) (fun r_23 σ_23 h_23 => ?_)
      obtain ⟨a_23, e_23⟩ := h_23
      obtain rfl := a_23.symm
      obtain rfl := e_23.symm
      refine tq_istore_n (ls2 := [(3, .int (ansM σ m s)), (0, .ref 42), (1, .int (nI s)), (2, .int (nI m))]) (dget dX8_ask 16 rfl) rfl (by decide) rfl ?_
      refine tq_iload_n 0 (dget dX8_ask 17 rfl) rfl rfl ?_
      refine tq_iconst (v := 3) (dget dX8_ask 18 rfl) rfl ?_
      refine tq_icmp_ne (tgt := 45) (dget dX8_ask 19 rfl) (by decide) (fun c_29 => ?_) (fun c_29 => ?_)
      · refine tq_aload_n 1 (dget dX8_ask 29 rfl) rfl rfl ?_
        refine tq_getR (dget dX8_ask 30 rfl) fX8_40 rfl rfl ?_
        refine tq_iload_n 3 (dget dX8_ask 31 rfl) rfl rfl ?_
        refine tq_iload_n 2 (dget dX8_ask 32 rfl) rfl rfl ?_
        refine tq_iastN m (dget dX8_ask 33 rfl) rfl (by decide) rfl (by omega) ?_
        refine tq_aload_n 1 (dget dX8_ask 34 rfl) rfl rfl ?_
        refine tq_getR (dget dX8_ask 35 rfl) fX8_43 rfl rfl ?_
        refine tq_iload_n 2 (dget dX8_ask 36 rfl) rfl rfl ?_
        refine tq_iload_n 3 (dget dX8_ask 37 rfl) rfl rfl ?_
        refine tq_iastN s (dget dX8_ask 38 rfl) rfl (by decide) rfl (by omega) ?_
        refine tq_iload_n 0 (dget dX8_ask 39 rfl) rfl rfl ?_
        exact tq_iret rfl (dget dX8_ask 40 rfl) (by have f9 : σ 53 m < 0 ∧ σ 54 s < 0 := ⟨Int32.not_le.mp c_6, c_15⟩; exact ⟨_, rfl, (if_pos f9).symm, ((if_pos f9).trans (if_neg c_29)).symm⟩)
      · refine tq_aload_n 1 (dget dX8_ask 20 rfl) rfl rfl ?_
        refine tq_getR (dget dX8_ask 21 rfl) fX8_37 rfl rfl ?_
        refine tq_iload_n 3 (dget dX8_ask 22 rfl) rfl rfl ?_
        refine tq_dup2 (dget dX8_ask 23 rfl) rfl rfl ?_
        refine tq_ialdN m (dget dX8_ask 24 rfl) rfl (by decide) rfl (by omega) ?_
        refine tq_iconst (v := 1) (dget dX8_ask 25 rfl) rfl ?_
        refine tq_iadd (dget dX8_ask 26 rfl) ?_
        refine tq_iastN m (dget dX8_ask 27 rfl) rfl (by decide) rfl (by omega) ?_
        refine tq_goto (tgt := 59) (dget dX8_ask 28 rfl) (by decide) ?_
        refine tq_iload_n 0 (dget dX8_ask 39 rfl) rfl rfl ?_
        exact tq_iret rfl (dget dX8_ask 40 rfl) (by have f9 : σ 53 m < 0 ∧ σ 54 s < 0 := ⟨Int32.not_le.mp c_6, c_15⟩; exact ⟨_, rfl, (if_pos f9).symm, ((if_pos f9).trans (if_pos c_29)).symm⟩)
    · refine tq_iconst (v := 0) (dget dX8_ask 10 rfl) rfl ?_
      exact tq_iret rfl (dget dX8_ask 11 rfl) (by have f9 : ¬ (σ 53 m < 0 ∧ σ 54 s < 0) := fun q => c_15 q.2; exact ⟨_, rfl, (if_neg f9).symm, (if_neg f9).symm⟩)
def OFm (σ : Mem) (C : Nat) (s m : Nat → Nat) : Prop := σ 42 13 = nI C ∧ C ≤ 24 ∧ ∀ k, k < C → σ 49 k = nI (s k) ∧ s k < 6 ∧ σ 50 k = nI (m k) ∧ m k < 4 ∧ ∃ j, j < 3 ∧ σ 43 (m k) = nI j
set_option maxHeartbeats 4000000 in
set_option maxRecDepth 20000 in
theorem k_goOffers_loop (σ : Mem) (C : Nat) (s m : Nat → Nat) (hO : OFm σ C s m) (d : Nat) (hd : 3 ≤ d) : ∀ (n : Nat) (k : Nat) (hm : C < k + n) (hk : k ≤ C), PAt (EM d (Pv (fun σ2 => σ2 = goFm σ s m C))) mX8_goOffers 6 [(1, .int (nI k)), (0, .ref 42)] [] (goFm σ s m k) := by
  obtain ⟨d, rfl⟩ : ∃ e, d = e + 1 := ⟨d - 1, by omega⟩
  intro n
  induction n with
  | zero => intro k hm hk; exact absurd hm (by omega)
  | succ n ih =>
    intro k hm hk
    have hC := hO.2.1
    refine tq_iload_n 0 (dget dX8_goOffers 4 rfl) rfl rfl ?_
    refine tq_aload_n 1 (dget dX8_goOffers 5 rfl) rfl rfl ?_
    refine tq_getI (dget dX8_goOffers 6 rfl) fX8_146 rfl rfl ?_
    refine tq_eqi (y := (nI C)) ((congrFun (goFm_row σ s m (a := 42) (by decide) (by decide) (by decide) (by decide) k) 13).trans hO.1) ?_
    refine tq_icmp_ge (tgt := 42) (dget dX8_goOffers 7 rfl) (by decide) (fun c_11 => ?_) (fun c_11 => ?_)
    · have g_11 := kle (by omega) (by omega) c_11
      have g_12 : k = C := by omega
      exact tq_vret rfl (dget dX8_goOffers 24 rfl) ⟨rfl, by rw [g_12]⟩
    · have g_11 := knle (by omega) (by omega) c_11
      obtain ⟨w1, w2, w3, w4, j, hj, hkd⟩ := hO.2.2 k g_11
      refine tq_aload_n 1 (dget dX8_goOffers 8 rfl) rfl rfl ?_
      refine tq_getR (dget dX8_goOffers 9 rfl) fX8_34 rfl rfl ?_
      refine tq_iload_n 0 (dget dX8_goOffers 10 rfl) rfl rfl ?_
      refine tq_aload_n 1 (dget dX8_goOffers 11 rfl) rfl rfl ?_
      refine tq_aload_n 1 (dget dX8_goOffers 12 rfl) rfl rfl ?_
      refine tq_getR (dget dX8_goOffers 13 rfl) fX8_28 rfl rfl ?_
      refine tq_iload_n 0 (dget dX8_goOffers 14 rfl) rfl rfl ?_
      refine tq_ialdN k (dget dX8_goOffers 15 rfl) rfl (by decide) rfl (by omega) ?_
      refine tq_eqi (y := (nI (s k))) ((congrFun (goFm_row σ s m (a := 49) (by decide) (by decide) (by decide) (by decide) k) k).trans w1) ?_
      refine tq_aload_n 1 (dget dX8_goOffers 16 rfl) rfl rfl ?_
      refine tq_getR (dget dX8_goOffers 17 rfl) fX8_31 rfl rfl ?_
      refine tq_iload_n 0 (dget dX8_goOffers 18 rfl) rfl rfl ?_
      refine tq_ialdN k (dget dX8_goOffers 19 rfl) rfl (by decide) rfl (by omega) ?_
      refine tq_eqi (y := (nI (m k))) ((congrFun (goFm_row σ s m (a := 50) (by decide) (by decide) (by decide) (by decide) k) k).trans w3) ?_
      refine mq_Vi (As := [.int (nI (s k)), .int (nI (m k))]) (rest := [.int (nI k), .ref 51]) (dget dX8_goOffers 20 rfl) lX8_172 miX8_ask (k_ask (goFm σ s m k) (m k) (s k) (by omega) (by omega) j ((congrFun (goFm_row σ s m (a := 43) (by decide) (by decide) (by decide) (by decide) k) (m k)).trans hkd) hj d (by omega)) rfl rfl rfl rfl (Nat.le_of_ble_eq_true rfl) (Nat.le_of_ble_eq_true rfl) (fun r_32 σ_32 h_32 => ?_)
      obtain ⟨a_32, e_32⟩ := h_32
      obtain rfl := a_32.symm
      obtain rfl := e_32.symm
      refine tq_iastN k (dget dX8_goOffers 21 rfl) rfl (by decide) rfl (by omega) ?_
      refine tq_iinc (v := (nI (k + 1))) (ls2 := [(1, .int (nI (k + 1))), (0, .ref 42)]) 0 (dget dX8_goOffers 22 rfl) rfl (nI_1 k) (by decide) rfl ?_
      refine tq_goto (tgt := 6) (dget dX8_goOffers 23 rfl) (by decide) ?_
      refine tq_sub [0, 1] (ls' := [(1, .int (nI (k + 1))), (0, .ref 42)]) rfl ?_
      exact ih (k + 1) (by omega) (by omega)
set_option maxHeartbeats 4000000 in
set_option maxRecDepth 20000 in
theorem k_goOffers (σ : Mem) (C : Nat) (s m : Nat → Nat) (hO : OFm σ C s m) (d : Nat) (hd : 3 ≤ d) : PMet d mX8_goOffers [.ref 42] σ (Pv (fun σ2 => σ2 = goFm σ s m C)) := by
  obtain ⟨d, rfl⟩ : ∃ e, d = e + 1 := ⟨d - 1, by omega⟩
  refine PMet.start (ls0 := [(0, .ref 42)]) miX8_goOffers.1 (Nat.le_of_ble_eq_true rfl) rfl ?_
  refine tq_aload_n 0 (dget dX8_goOffers 0 rfl) rfl rfl ?_
  refine mq_Vv (As := []) (rest := []) (dget dX8_goOffers 1 rfl) lX8_169 miX8_begin (k_begin σ d (by omega)) rfl rfl rfl rfl (Nat.le_of_ble_eq_true rfl) (Nat.le_of_ble_eq_true rfl) (fun σ_1 h_1 => ?_)
  obtain rfl := Eq.symm h_1
  refine tq_iconst (v := 0) (dget dX8_goOffers 2 rfl) rfl ?_
  refine tq_istore_n (ls2 := [(1, .int 0), (0, .ref 42)]) (dget dX8_goOffers 3 rfl) rfl (by decide) rfl ?_
  refine tq_sub [0, 1] (ls' := [(1, .int 0), (0, .ref 42)]) rfl ?_
  exact k_goOffers_loop σ C s m hO (d + 1) (by omega) (C + 1) 0 (by omega) (by omega)
end
section
/-! ===== the reference (2): the valley, offers ===== -/
theorem in01 {z : Int32} : ((0 : Int64) ≤ z.toInt64 ∧ z.toInt64 ≤ 1) ↔ (z = 0 ∨ z = 1) := by
  have h1 := w_0 z
  have h2 : z.toInt64 ≤ 1 ↔ z ≤ 1 := w_le z 1
  rw [h1, h2]
  constructor
  · intro q
    obtain ⟨j, rfl, _, hj⟩ := dig (a := 0) (b := 2) (c := z) (by decide) (by decide) q.1 (Int32.lt_of_le_of_lt q.2 (by decide))
    rcases (show j = 0 ∨ j = 1 by omega) with rfl | rfl
    · exact Or.inl rfl
    · exact Or.inr rfl
  · rintro (rfl | rfl) <;> decide
theorem inK {z : Int32} (c : Nat) (hc : c < 2 ^ 31) : ((0 : Int64) ≤ z.toInt64 ∧ z.toInt64 ≤ (nI c).toInt64) ↔ (0 ≤ z ∧ z ≤ nI c) := by
  rw [w_0, w_le]
theorem in9 {z : Int32} : ((0 : Int64) ≤ z.toInt64 ∧ z.toInt64 ≤ 9) ↔ (0 ≤ z ∧ z ≤ 9) := by
  have h2 : z.toInt64 ≤ 9 ↔ z ≤ 9 := w_le z 9
  rw [w_0, h2]
theorem in2 {z : Int32} : ((0 : Int64) ≤ z.toInt64 ∧ z.toInt64 ≤ 2) ↔ isLn z := by
  have h2 : z.toInt64 ≤ 2 ↔ z ≤ 2 := w_le z 2
  rw [w_0, h2]
  rfl

set_option maxHeartbeats 4000000 in
set_option maxRecDepth 20000 in
theorem k_likes (σ : Mem) (S M : Nat) (hV : VM σ S M) (x y z : Int32) (d : Nat) (hd : 2 ≤ d) : PMet d mX8_likes [.ref 42, .int x, .int y, .int z] σ (Pi (fun v σ2 => v = cnd (hMm σ x) (cnd (hSm σ y) (cnd (z = 0) (σ 44 (6 * cl x + cl y)) (cnd (z = 1) (σ 45 (6 * cl x + cl y)) (-2))) (-1)) (-1) ∧ σ2 = σ)) := by
  obtain ⟨d, rfl⟩ : ∃ e, d = e + 1 := ⟨d - 1, by omega⟩
  refine PMet.start (ls0 := [(0, .ref 42), (1, .int x), (2, .int y), (3, .int z)]) miX8_likes.1 (Nat.le_of_ble_eq_true rfl) rfl ?_
  refine tq_aload_n 0 (dget dX8_likes 0 rfl) rfl rfl ?_
  refine tq_iload_n 1 (dget dX8_likes 1 rfl) rfl rfl ?_
  refine mq_Vi (As := [.int x]) (rest := []) (dget dX8_likes 2 rfl) lX8_152 miX8_noMaid (k_noMaid σ S M hV x d (by omega)) rfl rfl rfl rfl (Nat.le_of_ble_eq_true rfl) (Nat.le_of_ble_eq_true rfl) (fun r_2 σ_2 h_2 => ?_)
  obtain ⟨b_2, e_2⟩ := h_2
  obtain rfl := e_2.symm
  refine tq_if_ne (tgt := 16) (dget dX8_likes 3 rfl) (by decide) (fun c_5 => ?_) (fun c_5 => ?_)
  · refine tq_iconst (v := (-1)) (dget dX8_likes 8 rfl) rfl ?_
    exact tq_iret rfl (dget dX8_likes 9 rfl) ⟨_, rfl, by simp only [cnd_f (P := hMm σ x) (b_2.t c_5)], rfl⟩
  · refine tq_aload_n 0 (dget dX8_likes 4 rfl) rfl rfl ?_
    refine tq_iload_n 2 (dget dX8_likes 5 rfl) rfl rfl ?_
    refine mq_Vi (As := [.int y]) (rest := []) (dget dX8_likes 6 rfl) lX8_155 miX8_noSuitor (k_noSuitor σ S M hV y d (by omega)) rfl rfl rfl rfl (Nat.le_of_ble_eq_true rfl) (Nat.le_of_ble_eq_true rfl) (fun r_10 σ_10 h_10 => ?_)
    obtain ⟨b_10, e_10⟩ := h_10
    obtain rfl := e_10.symm
    refine tq_if_eq (tgt := 18) (dget dX8_likes 7 rfl) (by decide) (fun c_13 => ?_) (fun c_13 => ?_)
    · obtain ⟨m, e_m, hm, hm4⟩ := hMm_n hV (Classical.not_not.mp (b_2.f c_5))
      subst e_m
      obtain ⟨s, e_s, hs, hs6⟩ := hSm_n hV (Classical.not_not.mp (b_10.f c_13))
      subst e_s
      refine tq_iload_n 3 (dget dX8_likes 10 rfl) rfl rfl ?_
      refine tq_if_ne (tgt := 36) (dget dX8_likes 11 rfl) (by decide) (fun c_19 => ?_) (fun c_19 => ?_)
      · refine tq_iload_n 3 (dget dX8_likes 21 rfl) rfl rfl ?_
        refine tq_iconst (v := 1) (dget dX8_likes 22 rfl) rfl ?_
        refine tq_icmp_ne (tgt := 55) (dget dX8_likes 23 rfl) (by decide) (fun c_38 => ?_) (fun c_38 => ?_)
        · refine tq_bipush (v := (-2)) (dget dX8_likes 33 rfl) rfl ?_
          exact tq_iret rfl (dget dX8_likes 34 rfl) ⟨_, rfl, by simp only [cnd_t (P := hMm σ (nI m)) (Classical.not_not.mp (b_2.f c_5)), cnd_t (P := hSm σ (nI s)) (Classical.not_not.mp (b_10.f c_13)), nI_clamp (show m < 2 ^ 31 by omega), nI_clamp (show s < 2 ^ 31 by omega), cnd_f c_19, cnd_f c_38], rfl⟩
        · refine tq_aload_n 0 (dget dX8_likes 24 rfl) rfl rfl ?_
          refine tq_getR (dget dX8_likes 25 rfl) fX8_16 rfl rfl ?_
          refine tq_bipush (v := 6) (dget dX8_likes 26 rfl) rfl ?_
          refine tq_iload_n 1 (dget dX8_likes 27 rfl) rfl rfl ?_
          refine tq_imul (dget dX8_likes 28 rfl) ?_
          refine tq_eqi (y := (nI (6 * m))) (nI_mulN (6) (m)) ?_
          refine tq_iload_n 2 (dget dX8_likes 29 rfl) rfl rfl ?_
          refine tq_iadd (dget dX8_likes 30 rfl) ?_
          refine tq_eqi (y := (nI ((6 * m) + s))) (nI_add ((6 * m)) (s)) ?_
          refine tq_ialdN ((6 * m) + s) (dget dX8_likes 31 rfl) rfl (by decide) rfl (by omega) ?_
          refine tq_goto (tgt := 57) (dget dX8_likes 32 rfl) (by decide) ?_
          exact tq_iret rfl (dget dX8_likes 34 rfl) ⟨_, rfl, by simp only [cnd_t (P := hMm σ (nI m)) (Classical.not_not.mp (b_2.f c_5)), cnd_t (P := hSm σ (nI s)) (Classical.not_not.mp (b_10.f c_13)), nI_clamp (show m < 2 ^ 31 by omega), nI_clamp (show s < 2 ^ 31 by omega), cnd_f c_19, cnd_t c_38], rfl⟩
      · refine tq_aload_n 0 (dget dX8_likes 12 rfl) rfl rfl ?_
        refine tq_getR (dget dX8_likes 13 rfl) fX8_13 rfl rfl ?_
        refine tq_bipush (v := 6) (dget dX8_likes 14 rfl) rfl ?_
        refine tq_iload_n 1 (dget dX8_likes 15 rfl) rfl rfl ?_
        refine tq_imul (dget dX8_likes 16 rfl) ?_
        refine tq_eqi (y := (nI (6 * m))) (nI_mulN (6) (m)) ?_
        refine tq_iload_n 2 (dget dX8_likes 17 rfl) rfl rfl ?_
        refine tq_iadd (dget dX8_likes 18 rfl) ?_
        refine tq_eqi (y := (nI ((6 * m) + s))) (nI_add ((6 * m)) (s)) ?_
        refine tq_ialdN ((6 * m) + s) (dget dX8_likes 19 rfl) rfl (by decide) rfl (by omega) ?_
        refine tq_goto (tgt := 57) (dget dX8_likes 20 rfl) (by decide) ?_
        exact tq_iret rfl (dget dX8_likes 34 rfl) ⟨_, rfl, by simp only [cnd_t (P := hMm σ (nI m)) (Classical.not_not.mp (b_2.f c_5)), cnd_t (P := hSm σ (nI s)) (Classical.not_not.mp (b_10.f c_13)), nI_clamp (show m < 2 ^ 31 by omega), nI_clamp (show s < 2 ^ 31 by omega), cnd_t c_19], rfl⟩
    · refine tq_iconst (v := (-1)) (dget dX8_likes 8 rfl) rfl ?_
      exact tq_iret rfl (dget dX8_likes 9 rfl) ⟨_, rfl, by simp only [cnd_t (P := hMm σ x) (Classical.not_not.mp (b_2.f c_5)), cnd_f (P := hSm σ y) (b_10.t c_13)], rfl⟩
set_option maxHeartbeats 4000000 in
set_option maxRecDepth 20000 in
theorem k_like (σ : Mem) (S M : Nat) (hV : VM σ S M) (x y z v : Int32) (d : Nat) (hd : 2 ≤ d) : PMet d mX8_like [.ref 42, .int x, .int y, .int z, .int v] σ (Pi (fun r σ2 => r = cnd (hMm σ x) (cnd (hSm σ y) (cnd (z = 0 ∨ z = 1) (cnd (0 ≤ v ∧ v ≤ 9) (cnd (z = 0) (σ 44 (6 * cl x + cl y)) (σ 45 (6 * cl x + cl y))) (-2)) (-2)) (-1)) (-1) ∧ σ2 = cnd (hMm σ x) (cnd (hSm σ y) (cnd (z = 0 ∨ z = 1) (cnd (0 ≤ v ∧ v ≤ 9) (cnd (z = 0) (up σ 44 (6 * cl x + cl y) v) (up σ 45 (6 * cl x + cl y) v)) σ) σ) σ) σ)) := by
  obtain ⟨d, rfl⟩ : ∃ e, d = e + 1 := ⟨d - 1, by omega⟩
  refine PMet.start (ls0 := [(0, .ref 42), (1, .int x), (2, .int y), (3, .int z), (4, .int v)]) miX8_like.1 (Nat.le_of_ble_eq_true rfl) rfl ?_
  refine tq_aload_n 0 (dget dX8_like 0 rfl) rfl rfl ?_
  refine tq_iload_n 1 (dget dX8_like 1 rfl) rfl rfl ?_
  refine mq_Vi (As := [.int x]) (rest := []) (dget dX8_like 2 rfl) lX8_152 miX8_noMaid (k_noMaid σ S M hV x d (by omega)) rfl rfl rfl rfl (Nat.le_of_ble_eq_true rfl) (Nat.le_of_ble_eq_true rfl) (fun r_2 σ_2 h_2 => ?_)
  obtain ⟨b_2, e_2⟩ := h_2
  obtain rfl := e_2.symm
  refine tq_if_ne (tgt := 16) (dget dX8_like 3 rfl) (by decide) (fun c_5 => ?_) (fun c_5 => ?_)
  · refine tq_iconst (v := (-1)) (dget dX8_like 8 rfl) rfl ?_
    exact tq_iret rfl (dget dX8_like 9 rfl) ⟨_, rfl, by simp only [cnd_f (P := hMm σ x) (b_2.t c_5)], by simp only [cnd_f (P := hMm σ x) (b_2.t c_5)]⟩
  · refine tq_aload_n 0 (dget dX8_like 4 rfl) rfl rfl ?_
    refine tq_iload_n 2 (dget dX8_like 5 rfl) rfl rfl ?_
    refine mq_Vi (As := [.int y]) (rest := []) (dget dX8_like 6 rfl) lX8_155 miX8_noSuitor (k_noSuitor σ S M hV y d (by omega)) rfl rfl rfl rfl (Nat.le_of_ble_eq_true rfl) (Nat.le_of_ble_eq_true rfl) (fun r_10 σ_10 h_10 => ?_)
    obtain ⟨b_10, e_10⟩ := h_10
    obtain rfl := e_10.symm
    refine tq_if_eq (tgt := 18) (dget dX8_like 7 rfl) (by decide) (fun c_13 => ?_) (fun c_13 => ?_)
    · obtain ⟨m, e_m, hm, hm4⟩ := hMm_n hV (Classical.not_not.mp (b_2.f c_5))
      subst e_m
      obtain ⟨s, e_s, hs, hs6⟩ := hSm_n hV (Classical.not_not.mp (b_10.f c_13))
      subst e_s
      refine tq_iload_n 3 (dget dX8_like 10 rfl) rfl rfl ?_
      refine tq_i2l (dget dX8_like 11 rfl) ?_
      refine tq_lconst (v := 0) (dget dX8_like 12 rfl) rfl ?_
      refine tq_lconst (v := 1) (dget dX8_like 13 rfl) rfl ?_
      refine mq_Si (As := [.long (z).toInt64, .long 0, .long 1]) (rest := []) (dget dX8_like 14 rfl) lX8_84 miX8_in (k_in σ (z).toInt64 0 1 d (by omega)) rfl rfl (Nat.le_of_ble_eq_true rfl) (Nat.le_of_ble_eq_true rfl) (fun r_22 σ_22 h_22 => ?_)
      obtain ⟨b_22, e_22⟩ := h_22
      obtain rfl := e_22.symm
      have b_22 := b_22.iff in01
      refine tq_if_eq (tgt := 41) (dget dX8_like 15 rfl) (by decide) (fun c_25 => ?_) (fun c_25 => ?_)
      · refine tq_bipush (v := (-2)) (dget dX8_like 22 rfl) rfl ?_
        exact tq_iret rfl (dget dX8_like 23 rfl) ⟨_, rfl, by simp only [cnd_t (P := hMm σ (nI m)) (Classical.not_not.mp (b_2.f c_5)), cnd_t (P := hSm σ (nI s)) (Classical.not_not.mp (b_10.f c_13)), nI_clamp (show m < 2 ^ 31 by omega), nI_clamp (show s < 2 ^ 31 by omega), cnd_f (P := z = 0 ∨ z = 1) (b_22.f c_25)], by simp only [cnd_t (P := hMm σ (nI m)) (Classical.not_not.mp (b_2.f c_5)), cnd_t (P := hSm σ (nI s)) (Classical.not_not.mp (b_10.f c_13)), nI_clamp (show m < 2 ^ 31 by omega), nI_clamp (show s < 2 ^ 31 by omega), cnd_f (P := z = 0 ∨ z = 1) (b_22.f c_25)]⟩
      · refine tq_iload 4 (dget dX8_like 16 rfl) rfl ?_
        refine tq_i2l (dget dX8_like 17 rfl) ?_
        refine tq_lconst (v := 0) (dget dX8_like 18 rfl) rfl ?_
        refine tq_ldc2 (v := 9) (dget dX8_like 19 rfl) (tblG_4 38 rfl rfl) ?_
        refine mq_Si (As := [.long (v).toInt64, .long 0, .long 9]) (rest := []) (dget dX8_like 20 rfl) lX8_84 miX8_in (k_in σ (v).toInt64 0 9 d (by omega)) rfl rfl (Nat.le_of_ble_eq_true rfl) (Nat.le_of_ble_eq_true rfl) (fun r_35 σ_35 h_35 => ?_)
        obtain ⟨b_35, e_35⟩ := h_35
        obtain rfl := e_35.symm
        have b_35 := b_35.iff in9
        refine tq_if_ne (tgt := 44) (dget dX8_like 21 rfl) (by decide) (fun c_38 => ?_) (fun c_38 => ?_)
        · refine tq_bipush (v := 6) (dget dX8_like 24 rfl) rfl ?_
          refine tq_iload_n 1 (dget dX8_like 25 rfl) rfl rfl ?_
          refine tq_imul (dget dX8_like 26 rfl) ?_
          refine tq_eqi (y := (nI (6 * m))) (nI_mulN (6) (m)) ?_
          refine tq_iload_n 2 (dget dX8_like 27 rfl) rfl rfl ?_
          refine tq_iadd (dget dX8_like 28 rfl) ?_
          refine tq_eqi (y := (nI ((6 * m) + s))) (nI_add ((6 * m)) (s)) ?_
          refine tq_istore (ls2 := [(5, .int (nI ((6 * m) + s))), (0, .ref 42), (1, .int (nI m)), (2, .int (nI s)), (3, .int z), (4, .int v)]) (dget dX8_like 29 rfl) (by decide) rfl ?_
          refine tq_iload_n 4 (dget dX8_like 30 rfl) rfl rfl ?_
          refine tq_if_ne (tgt := 66) (dget dX8_like 31 rfl) (by decide) (fun c_53 => ?_) (fun c_53 => ?_)
          · refine tq_aload_n 1 (dget dX8_like 37 rfl) rfl rfl ?_
            refine tq_getR (dget dX8_like 38 rfl) fX8_16 rfl rfl ?_
            refine tq_iload 0 (dget dX8_like 39 rfl) rfl ?_
            refine tq_ialdN ((6 * m) + s) (dget dX8_like 40 rfl) rfl (by decide) rfl (by omega) ?_
            refine tq_istore (ls2 := [(6, .int (σ 45 ((6 * m) + s))), (5, .int (nI ((6 * m) + s))), (0, .ref 42), (1, .int (nI m)), (2, .int (nI s)), (3, .int z), (4, .int v)]) (dget dX8_like 41 rfl) (by decide) rfl ?_
            refine tq_iload_n 5 (dget dX8_like 42 rfl) rfl rfl ?_
            refine tq_if_ne (tgt := 91) (dget dX8_like 43 rfl) (by decide) (fun c_76 => ?_) (fun c_76 => ?_)
            · refine tq_aload_n 2 (dget dX8_like 50 rfl) rfl rfl ?_
              refine tq_getR (dget dX8_like 51 rfl) fX8_16 rfl rfl ?_
              refine tq_iload 1 (dget dX8_like 52 rfl) rfl ?_
              refine tq_iload 6 (dget dX8_like 53 rfl) rfl ?_
              refine tq_iastN ((6 * m) + s) (dget dX8_like 54 rfl) rfl (by decide) rfl (by omega) ?_
              refine tq_iload 0 (dget dX8_like 55 rfl) rfl ?_
              exact tq_iret rfl (dget dX8_like 56 rfl) ⟨_, rfl, by simp only [cnd_t (P := hMm σ (nI m)) (Classical.not_not.mp (b_2.f c_5)), cnd_t (P := hSm σ (nI s)) (Classical.not_not.mp (b_10.f c_13)), nI_clamp (show m < 2 ^ 31 by omega), nI_clamp (show s < 2 ^ 31 by omega), cnd_t (P := z = 0 ∨ z = 1) (b_22.t c_25), cnd_t (P := 0 ≤ v ∧ v ≤ 9) (b_35.t c_38), cnd_f c_53], by simp only [cnd_t (P := hMm σ (nI m)) (Classical.not_not.mp (b_2.f c_5)), cnd_t (P := hSm σ (nI s)) (Classical.not_not.mp (b_10.f c_13)), nI_clamp (show m < 2 ^ 31 by omega), nI_clamp (show s < 2 ^ 31 by omega), cnd_t (P := z = 0 ∨ z = 1) (b_22.t c_25), cnd_t (P := 0 ≤ v ∧ v ≤ 9) (b_35.t c_38), cnd_f c_53]⟩
            · exact absurd c_76 c_53
          · refine tq_aload_n 1 (dget dX8_like 32 rfl) rfl rfl ?_
            refine tq_getR (dget dX8_like 33 rfl) fX8_13 rfl rfl ?_
            refine tq_iload 0 (dget dX8_like 34 rfl) rfl ?_
            refine tq_ialdN ((6 * m) + s) (dget dX8_like 35 rfl) rfl (by decide) rfl (by omega) ?_
            refine tq_goto (tgt := 73) (dget dX8_like 36 rfl) (by decide) ?_
            refine tq_istore (ls2 := [(6, .int (σ 44 ((6 * m) + s))), (5, .int (nI ((6 * m) + s))), (0, .ref 42), (1, .int (nI m)), (2, .int (nI s)), (3, .int z), (4, .int v)]) (dget dX8_like 41 rfl) (by decide) rfl ?_
            refine tq_iload_n 5 (dget dX8_like 42 rfl) rfl rfl ?_
            refine tq_if_ne (tgt := 91) (dget dX8_like 43 rfl) (by decide) (fun c_76 => ?_) (fun c_76 => ?_)
            · exact absurd c_53 c_76
            · refine tq_aload_n 2 (dget dX8_like 44 rfl) rfl rfl ?_
              refine tq_getR (dget dX8_like 45 rfl) fX8_13 rfl rfl ?_
              refine tq_iload 1 (dget dX8_like 46 rfl) rfl ?_
              refine tq_iload 6 (dget dX8_like 47 rfl) rfl ?_
              refine tq_iastN ((6 * m) + s) (dget dX8_like 48 rfl) rfl (by decide) rfl (by omega) ?_
              refine tq_goto (tgt := 100) (dget dX8_like 49 rfl) (by decide) ?_
              refine tq_iload 0 (dget dX8_like 55 rfl) rfl ?_
              exact tq_iret rfl (dget dX8_like 56 rfl) ⟨_, rfl, by simp only [cnd_t (P := hMm σ (nI m)) (Classical.not_not.mp (b_2.f c_5)), cnd_t (P := hSm σ (nI s)) (Classical.not_not.mp (b_10.f c_13)), nI_clamp (show m < 2 ^ 31 by omega), nI_clamp (show s < 2 ^ 31 by omega), cnd_t (P := z = 0 ∨ z = 1) (b_22.t c_25), cnd_t (P := 0 ≤ v ∧ v ≤ 9) (b_35.t c_38), cnd_t c_53], by simp only [cnd_t (P := hMm σ (nI m)) (Classical.not_not.mp (b_2.f c_5)), cnd_t (P := hSm σ (nI s)) (Classical.not_not.mp (b_10.f c_13)), nI_clamp (show m < 2 ^ 31 by omega), nI_clamp (show s < 2 ^ 31 by omega), cnd_t (P := z = 0 ∨ z = 1) (b_22.t c_25), cnd_t (P := 0 ≤ v ∧ v ≤ 9) (b_35.t c_38), cnd_t c_53]⟩
        · refine tq_bipush (v := (-2)) (dget dX8_like 22 rfl) rfl ?_
          exact tq_iret rfl (dget dX8_like 23 rfl) ⟨_, rfl, by simp only [cnd_t (P := hMm σ (nI m)) (Classical.not_not.mp (b_2.f c_5)), cnd_t (P := hSm σ (nI s)) (Classical.not_not.mp (b_10.f c_13)), nI_clamp (show m < 2 ^ 31 by omega), nI_clamp (show s < 2 ^ 31 by omega), cnd_t (P := z = 0 ∨ z = 1) (b_22.t c_25), cnd_f (P := 0 ≤ v ∧ v ≤ 9) (b_35.f c_38)], by simp only [cnd_t (P := hMm σ (nI m)) (Classical.not_not.mp (b_2.f c_5)), cnd_t (P := hSm σ (nI s)) (Classical.not_not.mp (b_10.f c_13)), nI_clamp (show m < 2 ^ 31 by omega), nI_clamp (show s < 2 ^ 31 by omega), cnd_t (P := z = 0 ∨ z = 1) (b_22.t c_25), cnd_f (P := 0 ≤ v ∧ v ≤ 9) (b_35.f c_38)]⟩
    · refine tq_iconst (v := (-1)) (dget dX8_like 8 rfl) rfl ?_
      exact tq_iret rfl (dget dX8_like 9 rfl) ⟨_, rfl, by simp only [cnd_t (P := hMm σ x) (Classical.not_not.mp (b_2.f c_5)), cnd_f (P := hSm σ y) (b_10.t c_13)], by simp only [cnd_t (P := hMm σ x) (Classical.not_not.mp (b_2.f c_5)), cnd_f (P := hSm σ y) (b_10.t c_13)]⟩
set_option maxHeartbeats 4000000 in
set_option maxRecDepth 20000 in
theorem k_ofMaid (σ : Mem) (S M C : Nat) (so mo : Nat → Nat) (hV : VM σ S M) (hO : OFm σ C so mo) (hkd : kOK σ M) (x z : Int32) (d : Nat) (hd : 4 ≤ d) : PMet d mX8_ofMaid [.ref 42, .int x, .int z] σ (Pi (fun v σ2 => v = cnd (hMm σ x) (cnd (z = 0) (σ 43 (cl x)) (cnd (z = 1) (mindF (σ 43 (cl x)) (goFm σ so mo C 52 (cl x))) (cnd (z = 2) (goFm σ so mo C 52 (cl x)) (cnd (z = 3) (goFm σ so mo C 53 (cl x)) (-2))))) (-1) ∧ σ2 = cnd (hMm σ x) (goFm σ so mo C) σ)) := by
  obtain ⟨d, rfl⟩ : ∃ e, d = e + 1 := ⟨d - 1, by omega⟩
  refine PMet.start (ls0 := [(0, .ref 42), (1, .int x), (2, .int z)]) miX8_ofMaid.1 (Nat.le_of_ble_eq_true rfl) rfl ?_
  refine tq_aload_n 0 (dget dX8_ofMaid 0 rfl) rfl rfl ?_
  refine tq_iload_n 1 (dget dX8_ofMaid 1 rfl) rfl rfl ?_
  refine mq_Vi (As := [.int x]) (rest := []) (dget dX8_ofMaid 2 rfl) lX8_152 miX8_noMaid (k_noMaid σ S M hV x d (by omega)) rfl rfl rfl rfl (Nat.le_of_ble_eq_true rfl) (Nat.le_of_ble_eq_true rfl) (fun r_2 σ_2 h_2 => ?_)
  obtain ⟨b_2, e_2⟩ := h_2
  obtain rfl := e_2.symm
  refine tq_if_eq (tgt := 10) (dget dX8_ofMaid 3 rfl) (by decide) (fun c_5 => ?_) (fun c_5 => ?_)
  · obtain ⟨m, e_m, hm, hm4⟩ := hMm_n hV (Classical.not_not.mp (b_2.f c_5))
    subst e_m
    obtain ⟨j, hj, hk⟩ := hkd m hm
    refine tq_aload_n 0 (dget dX8_ofMaid 6 rfl) rfl rfl ?_
    refine mq_Vv (As := []) (rest := []) (dget dX8_ofMaid 7 rfl) lX8_160 miX8_goOffers (k_goOffers σ C so mo hO d (by omega)) rfl rfl rfl rfl (Nat.le_of_ble_eq_true rfl) (Nat.le_of_ble_eq_true rfl) (fun σ_11 h_11 => ?_)
    obtain rfl := Eq.symm h_11
    refine tq_iload_n 2 (dget dX8_ofMaid 8 rfl) rfl rfl ?_
    by_cases c_15 : (z).toInt < 0 ∨ 3 < (z).toInt
    · refine tq_tableOut (tgt := 81) (dget dX8_ofMaid 9 rfl) c_15 (by decide) ?_
      refine tq_bipush (v := (-2)) (dget dX8_ofMaid 35 rfl) rfl ?_
      exact tq_iret rfl (dget dX8_ofMaid 36 rfl) ⟨_, rfl, by simp only [cnd_t (P := hMm σ (nI m)) (Classical.not_not.mp (b_2.f c_5)), nI_clamp (show m < 2 ^ 31 by omega), cnd_f (P := z = 0) (tab_no0 c_15), cnd_f (P := z = 1) (tab_no1 c_15), cnd_f (P := z = 2) (tab_no2 c_15), cnd_f (P := z = 3) (tab_no3 c_15)], by simp only [cnd_t (P := hMm σ (nI m)) (Classical.not_not.mp (b_2.f c_5)), nI_clamp (show m < 2 ^ 31 by omega), cnd_f (P := z = 0) (tab_no0 c_15), cnd_f (P := z = 1) (tab_no1 c_15), cnd_f (P := z = 2) (tab_no2 c_15), cnd_f (P := z = 3) (tab_no3 c_15)]⟩
    · have c_15 := sw_in c_15
      by_cases s_15_0 : z = 0
      · refine tq_tableIn (tgt := 44) (off := 29) (dget dX8_ofMaid 9 rfl) (by rw [s_15_0]; decide) (by rw [s_15_0]; decide) (by rw [s_15_0]; rfl) (by decide) ?_
        refine tq_aload_n 0 (dget dX8_ofMaid 10 rfl) rfl rfl ?_
        refine tq_getR (dget dX8_ofMaid 11 rfl) fX8_7 rfl rfl ?_
        refine tq_iload_n 1 (dget dX8_ofMaid 12 rfl) rfl rfl ?_
        refine tq_ialdN m (dget dX8_ofMaid 13 rfl) rfl (by decide) rfl (by omega) ?_
        refine tq_eqi (y := (σ 43 m)) (congrFun (goFm_row σ so mo (a := 43) (by decide) (by decide) (by decide) (by decide) C) m) ?_
        exact tq_iret rfl (dget dX8_ofMaid 14 rfl) ⟨_, rfl, by simp only [cnd_t (P := hMm σ (nI m)) (Classical.not_not.mp (b_2.f c_5)), nI_clamp (show m < 2 ^ 31 by omega), cnd_t (P := z = 0) s_15_0], by simp only [cnd_t (P := hMm σ (nI m)) (Classical.not_not.mp (b_2.f c_5)), nI_clamp (show m < 2 ^ 31 by omega), cnd_t (P := z = 0) s_15_0]⟩
      by_cases s_15_1 : z = 1
      · refine tq_tableIn (tgt := 51) (off := 36) (dget dX8_ofMaid 9 rfl) (by rw [s_15_1]; decide) (by rw [s_15_1]; decide) (by rw [s_15_1]; rfl) (by decide) ?_
        refine tq_aload_n 0 (dget dX8_ofMaid 15 rfl) rfl rfl ?_
        refine tq_getR (dget dX8_ofMaid 16 rfl) fX8_7 rfl rfl ?_
        refine tq_iload_n 1 (dget dX8_ofMaid 17 rfl) rfl rfl ?_
        refine tq_ialdN m (dget dX8_ofMaid 18 rfl) rfl (by decide) rfl (by omega) ?_
        refine tq_eqi (y := (σ 43 m)) (congrFun (goFm_row σ so mo (a := 43) (by decide) (by decide) (by decide) (by decide) C) m) ?_
        refine tq_aload_n 0 (dget dX8_ofMaid 19 rfl) rfl rfl ?_
        refine tq_getR (dget dX8_ofMaid 20 rfl) fX8_37 rfl rfl ?_
        refine tq_iload_n 1 (dget dX8_ofMaid 21 rfl) rfl rfl ?_
        refine tq_ialdN m (dget dX8_ofMaid 22 rfl) rfl (by decide) rfl (by omega) ?_
        refine mq_Si (As := [.int (σ 43 m), .int ((goFm σ so mo C) 52 m)]) (rest := []) (dget dX8_ofMaid 23 rfl) lX8_163 miX8_mindOf (k_mindOf (goFm σ so mo C) (σ 43 m) (goFm σ so mo C 52 m) j hk hj d (by omega)) rfl rfl (Nat.le_of_ble_eq_true rfl) (Nat.le_of_ble_eq_true rfl) (fun r_63 σ_63 h_63 => ?_)
        obtain ⟨a_63, e_63⟩ := h_63
        obtain rfl := a_63.symm
        obtain rfl := e_63.symm
        exact tq_iret rfl (dget dX8_ofMaid 24 rfl) ⟨_, rfl, by simp only [cnd_t (P := hMm σ (nI m)) (Classical.not_not.mp (b_2.f c_5)), nI_clamp (show m < 2 ^ 31 by omega), cnd_f (P := z = 0) s_15_0, cnd_t (P := z = 1) s_15_1], by simp only [cnd_t (P := hMm σ (nI m)) (Classical.not_not.mp (b_2.f c_5)), nI_clamp (show m < 2 ^ 31 by omega), cnd_f (P := z = 0) s_15_0, cnd_t (P := z = 1) s_15_1]⟩
      by_cases s_15_2 : z = 2
      · refine tq_tableIn (tgt := 67) (off := 52) (dget dX8_ofMaid 9 rfl) (by rw [s_15_2]; decide) (by rw [s_15_2]; decide) (by rw [s_15_2]; rfl) (by decide) ?_
        refine tq_aload_n 0 (dget dX8_ofMaid 25 rfl) rfl rfl ?_
        refine tq_getR (dget dX8_ofMaid 26 rfl) fX8_37 rfl rfl ?_
        refine tq_iload_n 1 (dget dX8_ofMaid 27 rfl) rfl rfl ?_
        refine tq_ialdN m (dget dX8_ofMaid 28 rfl) rfl (by decide) rfl (by omega) ?_
        exact tq_iret rfl (dget dX8_ofMaid 29 rfl) ⟨_, rfl, by simp only [cnd_t (P := hMm σ (nI m)) (Classical.not_not.mp (b_2.f c_5)), nI_clamp (show m < 2 ^ 31 by omega), cnd_f (P := z = 0) s_15_0, cnd_f (P := z = 1) s_15_1, cnd_t (P := z = 2) s_15_2], by simp only [cnd_t (P := hMm σ (nI m)) (Classical.not_not.mp (b_2.f c_5)), nI_clamp (show m < 2 ^ 31 by omega), cnd_f (P := z = 0) s_15_0, cnd_f (P := z = 1) s_15_1, cnd_t (P := z = 2) s_15_2]⟩
      have s_15_3 : z = 3 := sw_last4 c_15 s_15_0 s_15_1 s_15_2
      refine tq_tableIn (tgt := 74) (off := 59) (dget dX8_ofMaid 9 rfl) (by rw [s_15_3]; decide) (by rw [s_15_3]; decide) (by rw [s_15_3]; rfl) (by decide) ?_
      refine tq_aload_n 0 (dget dX8_ofMaid 30 rfl) rfl rfl ?_
      refine tq_getR (dget dX8_ofMaid 31 rfl) fX8_40 rfl rfl ?_
      refine tq_iload_n 1 (dget dX8_ofMaid 32 rfl) rfl rfl ?_
      refine tq_ialdN m (dget dX8_ofMaid 33 rfl) rfl (by decide) rfl (by omega) ?_
      exact tq_iret rfl (dget dX8_ofMaid 34 rfl) ⟨_, rfl, by simp only [cnd_t (P := hMm σ (nI m)) (Classical.not_not.mp (b_2.f c_5)), nI_clamp (show m < 2 ^ 31 by omega), cnd_f (P := z = 0) s_15_0, cnd_f (P := z = 1) s_15_1, cnd_f (P := z = 2) s_15_2, cnd_t (P := z = 3) s_15_3], by simp only [cnd_t (P := hMm σ (nI m)) (Classical.not_not.mp (b_2.f c_5)), nI_clamp (show m < 2 ^ 31 by omega), cnd_f (P := z = 0) s_15_0, cnd_f (P := z = 1) s_15_1, cnd_f (P := z = 2) s_15_2, cnd_t (P := z = 3) s_15_3]⟩
  · refine tq_iconst (v := (-1)) (dget dX8_ofMaid 4 rfl) rfl ?_
    exact tq_iret rfl (dget dX8_ofMaid 5 rfl) ⟨_, rfl, by simp only [cnd_f (P := hMm σ x) (b_2.t c_5)], by simp only [cnd_f (P := hMm σ x) (b_2.t c_5)]⟩
set_option maxHeartbeats 4000000 in
set_option maxRecDepth 20000 in
theorem k_law (σ : Mem) (v : Int32) (d : Nat) (hd : 1 ≤ d) : PMet d mX8_law [.ref 42, .int v] σ (Pi (fun r σ2 => r = cnd (0 ≤ v ∧ v ≤ 9) (cnd (σ 42 2 = 0) (-3) (σ 42 6)) (-2) ∧ σ2 = cnd (0 ≤ v ∧ v ≤ 9) (cnd (σ 42 2 = 0) σ (up σ 42 6 v)) σ)) := by
  obtain ⟨d, rfl⟩ : ∃ e, d = e + 1 := ⟨d - 1, by omega⟩
  refine PMet.start (ls0 := [(0, .ref 42), (1, .int v)]) miX8_law.1 (Nat.le_of_ble_eq_true rfl) rfl ?_
  refine tq_iload_n 1 (dget dX8_law 0 rfl) rfl rfl ?_
  refine tq_i2l (dget dX8_law 1 rfl) ?_
  refine tq_lconst (v := 0) (dget dX8_law 2 rfl) rfl ?_
  refine tq_ldc2 (v := 9) (dget dX8_law 3 rfl) (tblG_4 38 rfl rfl) ?_
  refine mq_Si (As := [.long (v).toInt64, .long 0, .long 9]) (rest := []) (dget dX8_law 4 rfl) lX8_84 miX8_in (k_in σ (v).toInt64 0 9 d (by omega)) rfl rfl (Nat.le_of_ble_eq_true rfl) (Nat.le_of_ble_eq_true rfl) (fun r_6 σ_6 h_6 => ?_)
  obtain ⟨b_6, e_6⟩ := h_6
  obtain rfl := e_6.symm
  have b_6 := b_6.iff in9
  refine tq_if_ne (tgt := 15) (dget dX8_law 5 rfl) (by decide) (fun c_9 => ?_) (fun c_9 => ?_)
  · refine tq_aload_n 0 (dget dX8_law 8 rfl) rfl rfl ?_
    refine tq_getI (dget dX8_law 9 rfl) fX8_88 rfl rfl ?_
    refine tq_if_ne (tgt := 25) (dget dX8_law 10 rfl) (by decide) (fun c_19 => ?_) (fun c_19 => ?_)
    · refine tq_aload_n 0 (dget dX8_law 13 rfl) rfl rfl ?_
      refine tq_getI (dget dX8_law 14 rfl) fX8_143 rfl rfl ?_
      refine tq_istore_n (ls2 := [(2, .int (σ 42 6)), (0, .ref 42), (1, .int v)]) (dget dX8_law 15 rfl) rfl (by decide) rfl ?_
      refine tq_aload_n 1 (dget dX8_law 16 rfl) rfl rfl ?_
      refine tq_iload_n 2 (dget dX8_law 17 rfl) rfl rfl ?_
      refine tq_putI (dget dX8_law 18 rfl) fX8_143 rfl rfl rfl rfl ?_
      refine tq_iload_n 0 (dget dX8_law 19 rfl) rfl rfl ?_
      exact tq_iret rfl (dget dX8_law 20 rfl) ⟨_, rfl, by simp only [cnd_t (P := 0 ≤ v ∧ v ≤ 9) (b_6.t c_9), cnd_f c_19], by simp only [cnd_t (P := 0 ≤ v ∧ v ≤ 9) (b_6.t c_9), cnd_f c_19]⟩
    · refine tq_bipush (v := (-3)) (dget dX8_law 11 rfl) rfl ?_
      exact tq_iret rfl (dget dX8_law 12 rfl) ⟨_, rfl, by simp only [cnd_t (P := 0 ≤ v ∧ v ≤ 9) (b_6.t c_9), cnd_t c_19], by simp only [cnd_t (P := 0 ≤ v ∧ v ≤ 9) (b_6.t c_9), cnd_t c_19]⟩
  · refine tq_bipush (v := (-2)) (dget dX8_law 6 rfl) rfl ?_
    exact tq_iret rfl (dget dX8_law 7 rfl) ⟨_, rfl, by simp only [cnd_f (P := 0 ≤ v ∧ v ≤ 9) (b_6.f c_9)], by simp only [cnd_f (P := 0 ≤ v ∧ v ≤ 9) (b_6.f c_9)]⟩
set_option maxHeartbeats 4000000 in
set_option maxRecDepth 20000 in
theorem k_offer (σ : Mem) (S M C : Nat) (so mo : Nat → Nat) (hV : VM σ S M) (hO : OFm σ C so mo) (y x : Int32) (d : Nat) (hd : 2 ≤ d) : PMet d mX8_offer [.ref 42, .int y, .int x] σ (Pi (fun r σ2 => r = cnd (hSm σ y) (cnd (hMm σ x) (cnd (C = 24) (-4) (nI C)) (-1)) (-1) ∧ σ2 = cnd (hSm σ y) (cnd (hMm σ x) (cnd (C = 24) σ (up (up (up σ 49 C (nI (cl y))) 50 C (nI (cl x))) 42 13 (nI (C + 1)))) σ) σ)) := by
  obtain ⟨d, rfl⟩ : ∃ e, d = e + 1 := ⟨d - 1, by omega⟩
  refine PMet.start (ls0 := [(0, .ref 42), (1, .int y), (2, .int x)]) miX8_offer.1 (Nat.le_of_ble_eq_true rfl) rfl ?_
  have hC24 := hO.2.1
  refine tq_aload_n 0 (dget dX8_offer 0 rfl) rfl rfl ?_
  refine tq_iload_n 1 (dget dX8_offer 1 rfl) rfl rfl ?_
  refine mq_Vi (As := [.int y]) (rest := []) (dget dX8_offer 2 rfl) lX8_155 miX8_noSuitor (k_noSuitor σ S M hV y d (by omega)) rfl rfl rfl rfl (Nat.le_of_ble_eq_true rfl) (Nat.le_of_ble_eq_true rfl) (fun r_2 σ_2 h_2 => ?_)
  obtain ⟨b_2, e_2⟩ := h_2
  obtain rfl := e_2.symm
  refine tq_if_ne (tgt := 16) (dget dX8_offer 3 rfl) (by decide) (fun c_5 => ?_) (fun c_5 => ?_)
  · refine tq_iconst (v := (-1)) (dget dX8_offer 8 rfl) rfl ?_
    exact tq_iret rfl (dget dX8_offer 9 rfl) ⟨_, rfl, by simp only [cnd_f (P := hSm σ y) (b_2.t c_5)], by simp only [cnd_f (P := hSm σ y) (b_2.t c_5)]⟩
  · refine tq_aload_n 0 (dget dX8_offer 4 rfl) rfl rfl ?_
    refine tq_iload_n 2 (dget dX8_offer 5 rfl) rfl rfl ?_
    refine mq_Vi (As := [.int x]) (rest := []) (dget dX8_offer 6 rfl) lX8_152 miX8_noMaid (k_noMaid σ S M hV x d (by omega)) rfl rfl rfl rfl (Nat.le_of_ble_eq_true rfl) (Nat.le_of_ble_eq_true rfl) (fun r_10 σ_10 h_10 => ?_)
    obtain ⟨b_10, e_10⟩ := h_10
    obtain rfl := e_10.symm
    refine tq_if_eq (tgt := 18) (dget dX8_offer 7 rfl) (by decide) (fun c_13 => ?_) (fun c_13 => ?_)
    · obtain ⟨s, e_s, hs, hs6⟩ := hSm_n hV (Classical.not_not.mp (b_2.f c_5))
      subst e_s
      obtain ⟨m, e_m, hm, hm4⟩ := hMm_n hV (Classical.not_not.mp (b_10.f c_13))
      subst e_m
      refine tq_aload_n 0 (dget dX8_offer 10 rfl) rfl rfl ?_
      refine tq_getI (dget dX8_offer 11 rfl) fX8_146 rfl rfl ?_
      refine tq_eqi (y := (nI C)) hO.1 ?_
      refine tq_bipush (v := 24) (dget dX8_offer 12 rfl) rfl ?_
      refine tq_icmp_ne (tgt := 30) (dget dX8_offer 13 rfl) (by decide) (fun c_24 => ?_) (fun c_24 => ?_)
      · have g_24 : ¬ C = 24 := fun e => c_24 (by rw [e]; rfl)
        refine tq_aload_n 0 (dget dX8_offer 16 rfl) rfl rfl ?_
        refine tq_getR (dget dX8_offer 17 rfl) fX8_28 rfl rfl ?_
        refine tq_aload_n 0 (dget dX8_offer 18 rfl) rfl rfl ?_
        refine tq_getI (dget dX8_offer 19 rfl) fX8_146 rfl rfl ?_
        refine tq_eqi (y := (nI C)) hO.1 ?_
        refine tq_iload_n 1 (dget dX8_offer 20 rfl) rfl rfl ?_
        refine tq_iastN C (dget dX8_offer 21 rfl) rfl (by decide) rfl (by omega) ?_
        refine tq_aload_n 0 (dget dX8_offer 22 rfl) rfl rfl ?_
        refine tq_getR (dget dX8_offer 23 rfl) fX8_31 rfl rfl ?_
        refine tq_aload_n 0 (dget dX8_offer 24 rfl) rfl rfl ?_
        refine tq_getI (dget dX8_offer 25 rfl) fX8_146 rfl rfl ?_
        refine tq_eqi (y := (nI C)) hO.1 ?_
        refine tq_iload_n 2 (dget dX8_offer 26 rfl) rfl rfl ?_
        refine tq_iastN C (dget dX8_offer 27 rfl) rfl (by decide) rfl (by omega) ?_
        refine tq_aload_n 0 (dget dX8_offer 28 rfl) rfl rfl ?_
        refine tq_dup (dget dX8_offer 29 rfl) rfl ?_
        refine tq_getI (dget dX8_offer 30 rfl) fX8_146 rfl rfl ?_
        refine tq_eqi (y := (nI C)) hO.1 ?_
        refine tq_iconst (v := 1) (dget dX8_offer 31 rfl) rfl ?_
        refine tq_iadd (dget dX8_offer 32 rfl) ?_
        refine tq_eqi (y := (nI (C + 1))) (nI_1 C) ?_
        refine tq_putI (dget dX8_offer 33 rfl) fX8_146 rfl rfl rfl rfl ?_
        refine tq_aload_n 0 (dget dX8_offer 34 rfl) rfl rfl ?_
        refine tq_getI (dget dX8_offer 35 rfl) fX8_146 rfl rfl ?_
        refine tq_eqi (y := (nI (C + 1))) up_s ?_
        refine tq_iconst (v := 1) (dget dX8_offer 36 rfl) rfl ?_
        refine tq_isub (dget dX8_offer 37 rfl) ?_
        refine tq_eqi (y := (nI C)) (nI_pred C) ?_
        exact tq_iret rfl (dget dX8_offer 38 rfl) ⟨_, rfl, by simp only [cnd_t (P := hSm σ (nI s)) (Classical.not_not.mp (b_2.f c_5)), cnd_t (P := hMm σ (nI m)) (Classical.not_not.mp (b_10.f c_13)), nI_clamp (show m < 2 ^ 31 by omega), nI_clamp (show s < 2 ^ 31 by omega), cnd_f (P := C = 24) g_24], by simp only [cnd_t (P := hSm σ (nI s)) (Classical.not_not.mp (b_2.f c_5)), cnd_t (P := hMm σ (nI m)) (Classical.not_not.mp (b_10.f c_13)), nI_clamp (show m < 2 ^ 31 by omega), nI_clamp (show s < 2 ^ 31 by omega), cnd_f (P := C = 24) g_24]⟩
      · have g_24 : C = 24 := n_eq (b := 24) (by omega) (by decide) c_24
        refine tq_bipush (v := (-4)) (dget dX8_offer 14 rfl) rfl ?_
        exact tq_iret rfl (dget dX8_offer 15 rfl) ⟨_, rfl, by simp only [cnd_t (P := hSm σ (nI s)) (Classical.not_not.mp (b_2.f c_5)), cnd_t (P := hMm σ (nI m)) (Classical.not_not.mp (b_10.f c_13)), nI_clamp (show m < 2 ^ 31 by omega), nI_clamp (show s < 2 ^ 31 by omega), cnd_t (P := C = 24) g_24], by simp only [cnd_t (P := hSm σ (nI s)) (Classical.not_not.mp (b_2.f c_5)), cnd_t (P := hMm σ (nI m)) (Classical.not_not.mp (b_10.f c_13)), nI_clamp (show m < 2 ^ 31 by omega), nI_clamp (show s < 2 ^ 31 by omega), cnd_t (P := C = 24) g_24]⟩
    · refine tq_iconst (v := (-1)) (dget dX8_offer 8 rfl) rfl ?_
      exact tq_iret rfl (dget dX8_offer 9 rfl) ⟨_, rfl, by simp only [cnd_t (P := hSm σ y) (Classical.not_not.mp (b_2.f c_5)), cnd_f (P := hMm σ x) (b_10.t c_13)], by simp only [cnd_t (P := hSm σ y) (Classical.not_not.mp (b_2.f c_5)), cnd_f (P := hMm σ x) (b_10.t c_13)]⟩
set_option maxHeartbeats 4000000 in
set_option maxRecDepth 20000 in
theorem k_comes (σ : Mem) (S M C : Nat) (so mo : Nat → Nat) (hV : VM σ S M) (hO : OFm σ C so mo) (x : Int32) (d : Nat) (hd : 4 ≤ d) : PMet d mX8_comes [.ref 42, .int x] σ (Pi (fun r σ2 => r = cnd (0 ≤ x ∧ x < nI C) (goFm σ so mo C 51 (cl x)) (-1) ∧ σ2 = cnd (0 ≤ x ∧ x < nI C) (goFm σ so mo C) σ)) := by
  obtain ⟨d, rfl⟩ : ∃ e, d = e + 1 := ⟨d - 1, by omega⟩
  refine PMet.start (ls0 := [(0, .ref 42), (1, .int x)]) miX8_comes.1 (Nat.le_of_ble_eq_true rfl) rfl ?_
  have hC24 := hO.2.1
  have hE : ((0 : Int64) ≤ x.toInt64 ∧ x.toInt64 ≤ (σ 42 13).toInt64 - 1) ↔ (0 ≤ x ∧ x < nI C) := by rw [hO.1, w_0, w_lt1 (by omega)]
  refine tq_iload_n 1 (dget dX8_comes 0 rfl) rfl rfl ?_
  refine tq_i2l (dget dX8_comes 1 rfl) ?_
  refine tq_lconst (v := 0) (dget dX8_comes 2 rfl) rfl ?_
  refine tq_aload_n 0 (dget dX8_comes 3 rfl) rfl rfl ?_
  refine tq_getI (dget dX8_comes 4 rfl) fX8_146 rfl rfl ?_
  refine tq_i2l (dget dX8_comes 5 rfl) ?_
  refine tq_lconst (v := 1) (dget dX8_comes 6 rfl) rfl ?_
  refine tq_lsub (dget dX8_comes 7 rfl) ?_
  refine mq_Si (As := [.long (x).toInt64, .long 0, .long (((σ 42 13)).toInt64 - 1)]) (rest := []) (dget dX8_comes 8 rfl) lX8_84 miX8_in (k_in σ (x).toInt64 0 (((σ 42 13)).toInt64 - 1) d (by omega)) rfl rfl (Nat.le_of_ble_eq_true rfl) (Nat.le_of_ble_eq_true rfl) (fun r_10 σ_10 h_10 => ?_)
  obtain ⟨b_10, e_10⟩ := h_10
  obtain rfl := e_10.symm
  have b_10 := b_10.iff hE
  refine tq_if_ne (tgt := 18) (dget dX8_comes 9 rfl) (by decide) (fun c_13 => ?_) (fun c_13 => ?_)
  · obtain ⟨k, e_k, hk⟩ := kC_n (C := C) (by omega) (b_10.t c_13).1 (b_10.t c_13).2
    subst e_k
    refine tq_aload_n 0 (dget dX8_comes 12 rfl) rfl rfl ?_
    refine mq_Vv (As := []) (rest := []) (dget dX8_comes 13 rfl) lX8_160 miX8_goOffers (k_goOffers σ C so mo hO d (by omega)) rfl rfl rfl rfl (Nat.le_of_ble_eq_true rfl) (Nat.le_of_ble_eq_true rfl) (fun σ_19 h_19 => ?_)
    obtain rfl := Eq.symm h_19
    refine tq_aload_n 0 (dget dX8_comes 14 rfl) rfl rfl ?_
    refine tq_getR (dget dX8_comes 15 rfl) fX8_34 rfl rfl ?_
    refine tq_iload_n 1 (dget dX8_comes 16 rfl) rfl rfl ?_
    refine tq_ialdN k (dget dX8_comes 17 rfl) rfl (by decide) rfl (by omega) ?_
    exact tq_iret rfl (dget dX8_comes 18 rfl) ⟨_, rfl, by simp only [cnd_t (P := 0 ≤ nI k ∧ nI k < nI C) (b_10.t c_13), nI_clamp (show k < 2 ^ 31 by omega)], by simp only [cnd_t (P := 0 ≤ nI k ∧ nI k < nI C) (b_10.t c_13), nI_clamp (show k < 2 ^ 31 by omega)]⟩
  · refine tq_iconst (v := (-1)) (dget dX8_comes 10 rfl) rfl ?_
    exact tq_iret rfl (dget dX8_comes 11 rfl) ⟨_, rfl, by simp only [cnd_f (P := 0 ≤ x ∧ x < nI C) (b_10.f c_13)], by simp only [cnd_f (P := 0 ≤ x ∧ x < nI C) (b_10.f c_13)]⟩
set_option maxHeartbeats 4000000 in
set_option maxRecDepth 20000 in
theorem k_undo (σ : Mem) (S M C : Nat) (so mo : Nat → Nat) (hV : VM σ S M) (hO : OFm σ C so mo) (x : Int32) (d : Nat) (hd : 1 ≤ d) : PMet d mX8_undo [.ref 42, .int x] σ (Pi (fun r σ2 => r = cnd (0 ≤ x ∧ x ≤ nI C) (nI (C - cl x)) (-2) ∧ σ2 = cnd (0 ≤ x ∧ x ≤ nI C) (up σ 42 13 (nI (C - cl x))) σ)) := by
  obtain ⟨d, rfl⟩ : ∃ e, d = e + 1 := ⟨d - 1, by omega⟩
  refine PMet.start (ls0 := [(0, .ref 42), (1, .int x)]) miX8_undo.1 (Nat.le_of_ble_eq_true rfl) rfl ?_
  have hC24 := hO.2.1
  have hE : ((0 : Int64) ≤ x.toInt64 ∧ x.toInt64 ≤ (σ 42 13).toInt64) ↔ (0 ≤ x ∧ x ≤ nI C) := by rw [hO.1, w_0, w_le]
  refine tq_iload_n 1 (dget dX8_undo 0 rfl) rfl rfl ?_
  refine tq_i2l (dget dX8_undo 1 rfl) ?_
  refine tq_lconst (v := 0) (dget dX8_undo 2 rfl) rfl ?_
  refine tq_aload_n 0 (dget dX8_undo 3 rfl) rfl rfl ?_
  refine tq_getI (dget dX8_undo 4 rfl) fX8_146 rfl rfl ?_
  refine tq_i2l (dget dX8_undo 5 rfl) ?_
  refine mq_Si (As := [.long (x).toInt64, .long 0, .long ((σ 42 13)).toInt64]) (rest := []) (dget dX8_undo 6 rfl) lX8_84 miX8_in (k_in σ (x).toInt64 0 ((σ 42 13)).toInt64 d (by omega)) rfl rfl (Nat.le_of_ble_eq_true rfl) (Nat.le_of_ble_eq_true rfl) (fun r_8 σ_8 h_8 => ?_)
  obtain ⟨b_8, e_8⟩ := h_8
  obtain rfl := e_8.symm
  have b_8 := b_8.iff hE
  refine tq_if_ne (tgt := 17) (dget dX8_undo 7 rfl) (by decide) (fun c_11 => ?_) (fun c_11 => ?_)
  · obtain ⟨k, e_k, hk⟩ := kC_n2 (C := C) (by omega) (b_8.t c_11).1 (b_8.t c_11).2
    subst e_k
    refine tq_aload_n 0 (dget dX8_undo 10 rfl) rfl rfl ?_
    refine tq_dup (dget dX8_undo 11 rfl) rfl ?_
    refine tq_getI (dget dX8_undo 12 rfl) fX8_146 rfl rfl ?_
    refine tq_iload_n 1 (dget dX8_undo 13 rfl) rfl rfl ?_
    refine tq_isub (dget dX8_undo 14 rfl) ?_
    refine tq_eqi (y := (nI (C - k))) (by rw [hO.1]; exact nI_subN hk) ?_
    refine tq_putI (dget dX8_undo 15 rfl) fX8_146 rfl rfl rfl rfl ?_
    refine tq_aload_n 0 (dget dX8_undo 16 rfl) rfl rfl ?_
    refine tq_getI (dget dX8_undo 17 rfl) fX8_146 rfl rfl ?_
    refine tq_eqi (y := (nI (C - k))) up_s ?_
    exact tq_iret rfl (dget dX8_undo 18 rfl) ⟨_, rfl, by simp only [cnd_t (P := 0 ≤ nI k ∧ nI k ≤ nI C) (b_8.t c_11), nI_clamp (show k < 2 ^ 31 by omega)], by simp only [cnd_t (P := 0 ≤ nI k ∧ nI k ≤ nI C) (b_8.t c_11), nI_clamp (show k < 2 ^ 31 by omega)]⟩
  · refine tq_bipush (v := (-2)) (dget dX8_undo 8 rfl) rfl ?_
    exact tq_iret rfl (dget dX8_undo 9 rfl) ⟨_, rfl, by simp only [cnd_f (P := 0 ≤ x ∧ x ≤ nI C) (b_8.f c_11)], by simp only [cnd_f (P := 0 ≤ x ∧ x ≤ nI C) (b_8.f c_11)]⟩
def figM (x : Int32) : Int32 := if x < 0 then 9 else x
def prM (f : Nat → Int32) (S : Nat) : Nat → Int64
  | 0 => 0
  | j + 1 => 10 * prM f S j + (figM (f (S - 1 - j))).toInt64

set_option maxHeartbeats 4000000 in
set_option maxRecDepth 20000 in
theorem k_pairs_loop (τ : Mem) (S M : Nat) (hV : VM τ S M) (hst : ¬ τ 42 2 = 0) (d : Nat) (hd : 4 ≤ d) : ∀ (n : Nat) (k : Nat) (hm : k < n) (hk : k ≤ S), PAt (EM d (Pl (fun v σ2 => v = cnd (τ 42 2 = 0) (-9223372036854775808) (prM (τ 54) S S) ∧ σ2 = τ))) mX8_pairs 24 [(3, .int (nI k - 1)), (1, .long (prM (τ 54) S (S - k))), (0, .ref 42)] [] τ := by
  obtain ⟨d, rfl⟩ : ∃ e, d = e + 1 := ⟨d - 1, by omega⟩
  intro n
  induction n with
  | zero => intro k hm hk; exact absurd hm (by omega)
  | succ n ih =>
    intro k hm hk
    have v3 := hV.2.2.1
    refine tq_iload_n 0 (dget dX8_pairs 14 rfl) rfl rfl ?_
    refine tq_if_lt (tgt := 62) (dget dX8_pairs 15 rfl) (by decide) (fun c_25 => ?_) (fun c_25 => ?_)
    · have g_25 : k = 0 := by by_cases z : k = 0; exact z; exact absurd c_25 (by obtain ⟨j, rfl⟩ : ∃ j, k = j + 1 := ⟨k - 1, by omega⟩; rw [nI_pred]; exact nI_pos (by omega))
      refine tq_lload_n 1 (dget dX8_pairs 35 rfl) rfl rfl ?_
      exact tq_lret rfl (dget dX8_pairs 36 rfl) ⟨_, rfl, by simp only [cnd_f hst, g_25, Nat.sub_zero], rfl⟩
    · have g_25 : ¬ k = 0 := fun z => c_25 (by rw [z]; decide)
      obtain ⟨j0, rfl⟩ : ∃ j, k = j + 1 := ⟨k - 1, by omega⟩
      refine tq_sub [0, 1, 2] (ls' := [(3, .int (nI j0)), (1, .long (prM (τ 54) S (S - (j0 + 1)))), (0, .ref 42)]) (by rw [nI_pred]; rfl) ?_
      refine tq_ldc2 (v := 10) (dget dX8_pairs 16 rfl) (tblG_4 86 rfl rfl) ?_
      refine tq_lload_n 1 (dget dX8_pairs 17 rfl) rfl rfl ?_
      refine tq_lmul (dget dX8_pairs 18 rfl) ?_
      refine tq_aload_n 2 (dget dX8_pairs 19 rfl) rfl rfl ?_
      refine tq_getR (dget dX8_pairs 20 rfl) fX8_43 rfl rfl ?_
      refine tq_iload_n 0 (dget dX8_pairs 21 rfl) rfl rfl ?_
      refine tq_ialdN j0 (dget dX8_pairs 22 rfl) rfl (by decide) rfl (by omega) ?_
      refine tq_if_ge (tgt := 47) (dget dX8_pairs 23 rfl) (by decide) (fun c_39 => ?_) (fun c_39 => ?_)
      · refine tq_aload_n 2 (dget dX8_pairs 26 rfl) rfl rfl ?_
        refine tq_getR (dget dX8_pairs 27 rfl) fX8_43 rfl rfl ?_
        refine tq_iload_n 0 (dget dX8_pairs 28 rfl) rfl rfl ?_
        refine tq_ialdN j0 (dget dX8_pairs 29 rfl) rfl (by decide) rfl (by omega) ?_
        refine tq_i2l (dget dX8_pairs 30 rfl) ?_
        refine tq_ladd (dget dX8_pairs 31 rfl) ?_
        refine tq_lstore_n (ls2 := [(1, .long ((10 * (prM (τ 54) S (S - (j0 + 1)))) + ((τ 54 j0)).toInt64)), (3, .int (nI j0)), (0, .ref 42)]) (dget dX8_pairs 32 rfl) rfl (by decide) rfl ?_
        refine tq_iinc (v := ((nI j0) + (-1))) (ls2 := [(3, .int ((nI j0) + (-1))), (1, .long ((10 * (prM (τ 54) S (S - (j0 + 1)))) + ((τ 54 j0)).toInt64)), (0, .ref 42)]) 1 (dget dX8_pairs 33 rfl) rfl rfl (by decide) rfl ?_
        refine tq_goto (tgt := 24) (dget dX8_pairs 34 rfl) (by decide) ?_
        refine tq_sub [0, 1, 2] (ls' := [(3, .int ((nI j0) + (-1))), (1, .long ((10 * (prM (τ 54) S (S - (j0 + 1)))) + ((τ 54 j0)).toInt64)), (0, .ref 42)]) rfl ?_
        rw [show nI j0 + -1 = nI j0 - 1 from (Int32.sub_eq_add_neg _ _).symm]
        rw [show 10 * prM (τ 54) S (S - (j0 + 1)) + (τ 54 j0 : Int32).toInt64 = prM (τ 54) S (S - j0) by rw [show S - j0 = (S - (j0 + 1)) + 1 by omega, prM, show S - 1 - (S - (j0 + 1)) = j0 by omega]; simp [figM, Int32.not_lt.mpr c_39]]
        exact ih j0 (by omega) (by omega)
      · refine tq_bipush (v := 9) (dget dX8_pairs 24 rfl) rfl ?_
        refine tq_goto (tgt := 53) (dget dX8_pairs 25 rfl) (by decide) ?_
        refine tq_i2l (dget dX8_pairs 30 rfl) ?_
        refine tq_ladd (dget dX8_pairs 31 rfl) ?_
        refine tq_lstore_n (ls2 := [(1, .long ((10 * (prM (τ 54) S (S - (j0 + 1)))) + (9 : Int32).toInt64)), (3, .int (nI j0)), (0, .ref 42)]) (dget dX8_pairs 32 rfl) rfl (by decide) rfl ?_
        refine tq_iinc (v := ((nI j0) + (-1))) (ls2 := [(3, .int ((nI j0) + (-1))), (1, .long ((10 * (prM (τ 54) S (S - (j0 + 1)))) + (9 : Int32).toInt64)), (0, .ref 42)]) 1 (dget dX8_pairs 33 rfl) rfl rfl (by decide) rfl ?_
        refine tq_goto (tgt := 24) (dget dX8_pairs 34 rfl) (by decide) ?_
        refine tq_sub [0, 1, 2] (ls' := [(3, .int ((nI j0) + (-1))), (1, .long ((10 * (prM (τ 54) S (S - (j0 + 1)))) + (9 : Int32).toInt64)), (0, .ref 42)]) rfl ?_
        rw [show nI j0 + -1 = nI j0 - 1 from (Int32.sub_eq_add_neg _ _).symm]
        rw [show 10 * prM (τ 54) S (S - (j0 + 1)) + (9 : Int32).toInt64 = prM (τ 54) S (S - j0) by rw [show S - j0 = (S - (j0 + 1)) + 1 by omega, prM, show S - 1 - (S - (j0 + 1)) = j0 by omega]; simp [figM, Int32.not_le.mp c_39]]
        exact ih j0 (by omega) (by omega)
set_option maxHeartbeats 4000000 in
set_option maxRecDepth 20000 in
theorem k_pairs (σ : Mem) (S M C : Nat) (so mo : Nat → Nat) (hV : VM σ S M) (hO : OFm σ C so mo) (d : Nat) (hd : 4 ≤ d) : PMet d mX8_pairs [.ref 42] σ (Pl (fun v σ2 => v = cnd (σ 42 2 = 0) (-9223372036854775808) (prM (goFm σ so mo C 54) S S) ∧ σ2 = cnd (σ 42 2 = 0) σ (goFm σ so mo C))) := by
  obtain ⟨d, rfl⟩ : ∃ e, d = e + 1 := ⟨d - 1, by omega⟩
  refine PMet.start (ls0 := [(0, .ref 42)]) miX8_pairs.1 (Nat.le_of_ble_eq_true rfl) rfl ?_
  refine tq_aload_n 0 (dget dX8_pairs 0 rfl) rfl rfl ?_
  refine tq_getI (dget dX8_pairs 1 rfl) fX8_88 rfl rfl ?_
  refine tq_if_ne (tgt := 11) (dget dX8_pairs 2 rfl) (by decide) (fun c_4 => ?_) (fun c_4 => ?_)
  · have hr : goFm σ so mo C 42 = σ 42 := goFm_row σ so mo (by decide) (by decide) (by decide) (by decide) C
    have hV2 : VM (goFm σ so mo C) S M := by unfold VM; rw [hr]; exact hV
    have hc2 : ¬ goFm σ so mo C 42 2 = 0 := by rw [hr]; exact c_4
    refine tq_aload_n 0 (dget dX8_pairs 5 rfl) rfl rfl ?_
    refine mq_Vv (As := []) (rest := []) (dget dX8_pairs 6 rfl) lX8_160 miX8_goOffers (k_goOffers σ C so mo hO d (by omega)) rfl rfl rfl rfl (Nat.le_of_ble_eq_true rfl) (Nat.le_of_ble_eq_true rfl) (fun σ_12 h_12 => ?_)
    obtain rfl := Eq.symm h_12
    refine tq_lconst (v := 0) (dget dX8_pairs 7 rfl) rfl ?_
    refine tq_lstore_n (ls2 := [(1, .long 0), (0, .ref 42)]) (dget dX8_pairs 8 rfl) rfl (by decide) rfl ?_
    refine tq_aload_n 1 (dget dX8_pairs 9 rfl) rfl rfl ?_
    refine tq_getI (dget dX8_pairs 10 rfl) fX8_81 rfl rfl ?_
    refine tq_iconst (v := 1) (dget dX8_pairs 11 rfl) rfl ?_
    refine tq_isub (dget dX8_pairs 12 rfl) ?_
    refine tq_istore_n (ls2 := [(3, .int (((goFm σ so mo C) 42 1) - 1)), (1, .long 0), (0, .ref 42)]) (dget dX8_pairs 13 rfl) rfl (by decide) rfl ?_
    refine tq_sub [0, 1, 2] (ls' := [(3, .int (((goFm σ so mo C) 42 1) - 1)), (1, .long 0), (0, .ref 42)]) rfl ?_
    rw [hV2.1, show (0 : Int64) = prM (goFm σ so mo C 54) S (S - S) by rw [Nat.sub_self]; rfl]
    have hX := k_pairs_loop (goFm σ so mo C) S M hV2 hc2 (d + 1) (by omega) (S + 1) S (by omega) (Nat.le_refl _)
    rw [hr] at hX
    simp only [cnd_f c_4] at hX ⊢
    exact hX
  · refine mq_Sl (As := []) (rest := []) (dget dX8_pairs 3 rfl) lX8_77 miX8_lost (k_lost σ d (by omega)) rfl rfl (Nat.le_of_ble_eq_true rfl) (Nat.le_of_ble_eq_true rfl) (fun r_7 σ_7 h_7 => ?_)
    obtain ⟨a_7, e_7⟩ := h_7
    obtain rfl := a_7.symm
    obtain rfl := e_7.symm
    exact tq_lret rfl (dget dX8_pairs 4 rfl) ⟨_, rfl, by simp only [cnd_t (P := σ 42 2 = 0) c_4], by simp only [cnd_t (P := σ 42 2 = 0) c_4]⟩
end
section
/-! ===== the reference (3): sent, matches ===== -/
/-- all but the three scratch rows is as it was; of those, what lies behind the valley's places -/
def SC (σ τ : Mem) : Prop := (∀ r, r ≠ 52 → r ≠ 53 → r ≠ 54 → τ r = σ r) ∧ (∀ j, 4 ≤ j → τ 52 j = σ 52 j) ∧ (∀ j, 4 ≤ j → τ 53 j = σ 53 j) ∧ ∀ j, 6 ≤ j → τ 54 j = σ 54 j
theorem SC.rf (σ : Mem) : SC σ σ := ⟨fun _ _ _ _ => rfl, fun _ _ => rfl, fun _ _ => rfl, fun _ _ => rfl⟩
theorem SC.tr {σ τ ω : Mem} (h : SC σ τ) (g : SC τ ω) : SC σ ω := ⟨fun r a b c => (g.1 r a b c).trans (h.1 r a b c), fun j a => (g.2.1 j a).trans (h.2.1 j a), fun j a => (g.2.2.1 j a).trans (h.2.2.1 j a), fun j a => (g.2.2.2 j a).trans (h.2.2.2 j a)⟩
theorem SC.up52 {σ τ : Mem} (h : SC σ τ) {k : Nat} (hk : k < 4) (v : Int32) : SC σ (up τ 52 k v) := h.tr ⟨fun r a b c => up_row a, fun j a => up_n (by omega), fun j a => up_n (by omega), fun j a => up_n (by omega)⟩
theorem SC.up53 {σ τ : Mem} (h : SC σ τ) {k : Nat} (hk : k < 4) (v : Int32) : SC σ (up τ 53 k v) := h.tr ⟨fun r a b c => up_row b, fun j a => up_n (by omega), fun j a => up_n (by omega), fun j a => up_n (by omega)⟩
theorem SC.up54 {σ τ : Mem} (h : SC σ τ) {k : Nat} (hk : k < 6) (v : Int32) : SC σ (up τ 54 k v) := h.tr ⟨fun r a b c => up_row c, fun j a => up_n (by omega), fun j a => up_n (by omega), fun j a => up_n (by omega)⟩
theorem fillR_at {σ : Mem} {i n j : Nat} {v : Int32} : fillR σ i n v i j = if j < n then v else σ i j := by unfold fillR; rw [upR_s]
theorem begM_52 (σ : Mem) : begM σ 52 = fun j => if j < 4 then 0 else σ 52 j := by
  funext j
  unfold begM
  rw [fillR_row (by decide), fillR_row (by decide), fillR_at]
theorem begM_53 (σ : Mem) : begM σ 53 = fun j => if j < 4 then -9 else σ 53 j := by
  funext j
  unfold begM
  rw [fillR_row (by decide), fillR_at, fillR_row (by decide)]
theorem begM_54 (σ : Mem) : begM σ 54 = fun j => if j < 6 then -9 else σ 54 j := by
  funext j
  unfold begM
  rw [fillR_at, fillR_row (by decide), fillR_row (by decide)]
theorem SC.beg (σ : Mem) : SC σ (begM σ) := ⟨fun r a b c => begM_row a b c, fun j a => by rw [begM_52]; exact if_neg (by omega), fun j a => by rw [begM_53]; exact if_neg (by omega), fun j a => by rw [begM_54]; exact if_neg (by omega)⟩
/-- what begins anew begins alike -/
theorem beg_SC {σ τ : Mem} (h : SC σ τ) : begM τ = begM σ := by
  funext r
  by_cases h1 : r = 52
  · subst h1
    rw [begM_52, begM_52]
    funext j
    by_cases c : j < 4
    · rw [if_pos c, if_pos c]
    · rw [if_neg c, if_neg c]; exact h.2.1 j (by omega)
  by_cases h2 : r = 53
  · subst h2
    rw [begM_53, begM_53]
    funext j
    by_cases c : j < 4
    · rw [if_pos c, if_pos c]
    · rw [if_neg c, if_neg c]; exact h.2.2.1 j (by omega)
  by_cases h3 : r = 54
  · subst h3
    rw [begM_54, begM_54]
    funext j
    by_cases c : j < 6
    · rw [if_pos c, if_pos c]
    · rw [if_neg c, if_neg c]; exact h.2.2.2 j (by omega)
  rw [begM_row h1 h2 h3, begM_row h1 h2 h3]
  exact h.1 r h1 h2 h3
theorem VM_SC {σ τ : Mem} {S M : Nat} (hV : VM σ S M) (h : SC σ τ) : VM τ S M := by
  unfold VM
  rw [h.1 42 (by decide) (by decide) (by decide)]
  exact hV
theorem bcM {L : Nat} (h : L < 64) : cntN L 6 = L % 2 + cntN (L / 2) 6 ∧ (nI L &&& 1) = nI (L % 2) ∧ (nI L >>> ((1 : Int32) &&& 31)) = nI (L / 2) := by
  have h2 : ∀ a, a < 64 → cntN a 6 = a % 2 + cntN (a / 2) 6 ∧ (nI a &&& 1) = nI (a % 2) ∧ (nI a >>> ((1 : Int32) &&& 31)) = nI (a / 2) := by decide +kernel
  exact h2 L h
theorem cnt0 : cntN 0 6 = 0 := by decide +kernel
def brSm (σ : Mem) (S m told : Nat) : Nat → Prop := fun set => brP (σ 42 6) (σ 43 m) (fun s => σ 44 (6 * m + s)) S told set

set_option maxHeartbeats 4000000 in
set_option maxRecDepth 20000 in
theorem k_isIn (σ : Mem) (a b : Nat) (ha : a < 64) (hb : b < 6) (d : Nat) (hd : 0 ≤ d) : PMet d mX8_isIn [.int (nI a), .int (nI b)] σ (Pi (fun v σ2 => BP (bitN a b = true) v ∧ σ2 = σ)) := by
  refine PMet.start (ls0 := [(0, .int (nI a)), (1, .int (nI b))]) miX8_isIn.1 (Nat.le_of_ble_eq_true rfl) rfl ?_
  refine tq_iload_n 0 (dget dX8_isIn 0 rfl) rfl rfl ?_
  refine tq_iload_n 1 (dget dX8_isIn 1 rfl) rfl rfl ?_
  refine tq_ishr (dget dX8_isIn 2 rfl) ?_
  refine tq_iconst (v := 1) (dget dX8_isIn 3 rfl) rfl ?_
  refine tq_iand (dget dX8_isIn 4 rfl) ?_
  refine tq_eqi (y := (if bitN a b then 1 else 0)) (bit_and ha hb) ?_
  refine tq_iconst (v := 1) (dget dX8_isIn 5 rfl) rfl ?_
  refine tq_icmp_ne (tgt := 13) (dget dX8_isIn 6 rfl) (by decide) (fun c_6 => ?_) (fun c_6 => ?_)
  · refine tq_iconst (v := 0) (dget dX8_isIn 9 rfl) rfl ?_
    exact tq_zret rfl rfl (dget dX8_isIn 10 rfl) ⟨_, rfl, BP.n (fun q => c_6 (by rw [q]; rfl)), rfl⟩
  · refine tq_iconst (v := 1) (dget dX8_isIn 7 rfl) rfl ?_
    refine tq_goto (tgt := 14) (dget dX8_isIn 8 rfl) (by decide) ?_
    exact tq_zret rfl rfl (dget dX8_isIn 10 rfl) ⟨_, rfl, BP.y (by simpa using c_6), rfl⟩
set_option maxHeartbeats 4000000 in
set_option maxRecDepth 20000 in
theorem k_bits_loop (σ : Mem) (a : Nat) (ha : a < 64) (d : Nat) (hd : 0 ≤ d) : ∀ (n : Nat) (L : Nat) (c : Nat) (hm : L < n) (hL : L < 64) (hc : c + cntN L 6 = cntN a 6), PAt (EM d (Pi (fun v σ2 => v = nI (cntN a 6) ∧ σ2 = σ))) mX8_bits 4 [(2, .int (nI L)), (1, .int (nI c)), (0, .int (nI a))] [] σ := by
  intro n
  induction n with
  | zero => intro L c hm hL hc; exact absurd hm (by omega)
  | succ n ih =>
    intro L c hm hL hc
    obtain ⟨b1, b2, b3⟩ := bcM hL
    refine tq_iload_n 0 (dget dX8_bits 4 rfl) rfl rfl ?_
    refine tq_if_le (tgt := 21) (dget dX8_bits 5 rfl) (by decide) (fun c_5 => ?_) (fun c_5 => ?_)
    · have g_5 : L = 0 := Nat.le_zero.mp (kle (b := 0) (by omega) (by decide) c_5)
      refine tq_iload_n 1 (dget dX8_bits 17 rfl) rfl rfl ?_
      exact tq_iret rfl (dget dX8_bits 18 rfl) ⟨_, rfl, by rw [← hc, g_5, cnt0]; rfl, rfl⟩
    · have g_5 : ¬ L = 0 := fun e => c_5 (by rw [e]; decide)
      refine tq_iload_n 1 (dget dX8_bits 6 rfl) rfl rfl ?_
      refine tq_iload_n 0 (dget dX8_bits 7 rfl) rfl rfl ?_
      refine tq_iconst (v := 1) (dget dX8_bits 8 rfl) rfl ?_
      refine tq_iand (dget dX8_bits 9 rfl) ?_
      refine tq_eqi (y := (nI (L % 2))) b2 ?_
      refine tq_iadd (dget dX8_bits 10 rfl) ?_
      refine tq_eqi (y := (nI (c + L % 2))) (nI_add _ _) ?_
      refine tq_istore_n (ls2 := [(1, .int (nI (c + L % 2))), (2, .int (nI L)), (0, .int (nI a))]) (dget dX8_bits 11 rfl) rfl (by decide) rfl ?_
      refine tq_iload_n 1 (dget dX8_bits 12 rfl) rfl rfl ?_
      refine tq_iconst (v := 1) (dget dX8_bits 13 rfl) rfl ?_
      refine tq_ishr (dget dX8_bits 14 rfl) ?_
      refine tq_eqi (y := (nI (L / 2))) b3 ?_
      refine tq_istore_n (ls2 := [(2, .int (nI (L / 2))), (1, .int (nI (c + L % 2))), (0, .int (nI a))]) (dget dX8_bits 15 rfl) rfl (by decide) rfl ?_
      refine tq_goto (tgt := 4) (dget dX8_bits 16 rfl) (by decide) ?_
      refine tq_sub [0, 1, 2] (ls' := [(2, .int (nI (L / 2))), (1, .int (nI (c + L % 2))), (0, .int (nI a))]) rfl ?_
      exact ih (L / 2) (c + L % 2) (by omega) (by omega) (by omega)
set_option maxHeartbeats 4000000 in
set_option maxRecDepth 20000 in
theorem k_bits (σ : Mem) (a : Nat) (ha : a < 64) (d : Nat) (hd : 0 ≤ d) : PMet d mX8_bits [.int (nI a)] σ (Pi (fun v σ2 => v = nI (cntN a 6) ∧ σ2 = σ)) := by
  refine PMet.start (ls0 := [(0, .int (nI a))]) miX8_bits.1 (Nat.le_of_ble_eq_true rfl) rfl ?_
  refine tq_iconst (v := 0) (dget dX8_bits 0 rfl) rfl ?_
  refine tq_istore_n (ls2 := [(1, .int 0), (0, .int (nI a))]) (dget dX8_bits 1 rfl) rfl (by decide) rfl ?_
  refine tq_iload_n 1 (dget dX8_bits 2 rfl) rfl rfl ?_
  refine tq_istore_n (ls2 := [(2, .int (nI a)), (1, .int 0), (0, .int (nI a))]) (dget dX8_bits 3 rfl) rfl (by decide) rfl ?_
  refine tq_sub [0, 1, 2] (ls' := [(2, .int (nI a)), (1, .int 0), (0, .int (nI a))]) rfl ?_
  rw [show (0 : Int32) = nI 0 from rfl]
  exact k_bits_loop σ a ha d (by omega) (a + 1) a 0 (by omega) ha (by omega)
set_option maxHeartbeats 4000000 in
set_option maxRecDepth 20000 in
theorem k_doBring_loop (σ : Mem) (S M m told set : Nat) (hV : VM σ S M) (hm4 : m < 4) (ht : told < 6) (hset : set < 64) (j : Nat) (hk : σ 43 m = nI j) (hj : j < 3) (d : Nat) (hd : 2 ≤ d) : ∀ (n : Nat) (k : Nat) (are : Int32) (τ : Mem) (hm : S < k + n) (hk9 : k ≤ S) (hT : SC σ τ) (hA : BP (∀ j2, j2 < k → bitN set j2 = true → ansF (σ 42 6) (σ 43 m) (σ 44 (6 * m + j2)) (nI (cntN set j2)) = 3) are) (hI : (¬ are = 0 → τ 52 m = nI (cntN set k)) ∧ (are = 0 → are = 0)), PAt (EM d (Pi (fun v σ2 => BP (brSm σ S m told set) v ∧ SC σ σ2))) mX8_doBring 10 [(5, .int (nI k)), (4, .int are), (0, .ref 42), (1, .int (nI m)), (2, .int (nI set)), (3, .int (nI told))] [] τ := by
  obtain ⟨d, rfl⟩ : ∃ e, d = e + 1 := ⟨d - 1, by omega⟩
  intro n
  induction n with
  | zero => intro k are τ hm hk9 hT hA hI; exact absurd hm (by omega)
  | succ n ih =>
    intro k are τ hm hk9 hT hA hI
    obtain ⟨v1, v2, v3, v4⟩ := VM_SC hV hT
    have hc6 := cntN_le set k
    refine tq_iload 0 (dget dX8_doBring 6 rfl) rfl ?_
    refine tq_aload_n 2 (dget dX8_doBring 7 rfl) rfl rfl ?_
    refine tq_getI (dget dX8_doBring 8 rfl) fX8_81 rfl rfl ?_
    refine tq_icmp_ge (tgt := 67) (dget dX8_doBring 9 rfl) (by decide) (fun c_16 => ?_) (fun c_16 => ?_)
    · rw [v1] at c_16
      have g_16 := kle (by omega) (by omega) c_16
      have g_17 : k = S := by omega
      refine tq_iload 1 (dget dX8_doBring 36 rfl) rfl ?_
      refine tq_if_eq (tgt := 86) (dget dX8_doBring 37 rfl) (by decide) (fun c_69 => ?_) (fun c_69 => ?_)
      · refine tq_iconst (v := 0) (dget dX8_doBring 46 rfl) rfl ?_
        exact tq_zret rfl rfl (dget dX8_doBring 47 rfl) ⟨_, rfl, BP.n (fun q => hA.f c_69 (fun j2 h2 hb => q.1 j2 (by omega) hb)), hT⟩
      · have g_21 := c_69
        refine tq_aload_n 2 (dget dX8_doBring 38 rfl) rfl rfl ?_
        refine tq_iload_n 3 (dget dX8_doBring 39 rfl) rfl rfl ?_
        refine tq_iload_n 5 (dget dX8_doBring 40 rfl) rfl rfl ?_
        refine mq_Vi (As := [.int (nI m), .int (nI told)]) (rest := []) (dget dX8_doBring 41 rfl) lX8_166 miX8_doesWith (k_doesWith τ m told hm4 (by omega) j ((congrFun (hT.1 43 (by decide) (by decide) (by decide)) m).trans hk) hj d (by omega)) rfl rfl rfl rfl (Nat.le_of_ble_eq_true rfl) (Nat.le_of_ble_eq_true rfl) (fun r_75 σ_75 h_75 => ?_)
        obtain ⟨a_75, e_75⟩ := h_75
        obtain rfl := a_75.symm
        obtain rfl := e_75.symm
        rw [show ansM τ m told = ansF (σ 42 6) (σ 43 m) (σ 44 (6 * m + told)) (nI (cntN set k)) by unfold ansM; rw [hT.1 42 (by decide) (by decide) (by decide), hT.1 43 (by decide) (by decide) (by decide), hT.1 44 (by decide) (by decide) (by decide), hI.1 g_21]]
        refine tq_iconst (v := 3) (dget dX8_doBring 42 rfl) rfl ?_
        refine tq_icmp_eq (tgt := 86) (dget dX8_doBring 43 rfl) (by decide) (fun c_79 => ?_) (fun c_79 => ?_)
        · refine tq_iconst (v := 0) (dget dX8_doBring 46 rfl) rfl ?_
          exact tq_zret rfl rfl (dget dX8_doBring 47 rfl) ⟨_, rfl, BP.n (fun q => q.2 (by rw [← g_17]; exact c_79)), hT⟩
        · refine tq_iconst (v := 1) (dget dX8_doBring 44 rfl) rfl ?_
          refine tq_goto (tgt := 87) (dget dX8_doBring 45 rfl) (by decide) ?_
          exact tq_zret rfl rfl (dget dX8_doBring 47 rfl) ⟨_, rfl, BP.y ⟨fun s hs hb => hA.t g_21 s (by omega) hb, by rw [← g_17]; exact c_79⟩, hT⟩
    · rw [v1] at c_16
      have g_16 := knle (by omega) (by omega) c_16
      refine tq_iload 1 (dget dX8_doBring 10 rfl) rfl ?_
      refine tq_if_eq (tgt := 67) (dget dX8_doBring 11 rfl) (by decide) (fun c_21 => ?_) (fun c_21 => ?_)
      · refine tq_iload 1 (dget dX8_doBring 36 rfl) rfl ?_
        refine tq_if_eq (tgt := 86) (dget dX8_doBring 37 rfl) (by decide) (fun c_69 => ?_) (fun c_69 => ?_)
        · refine tq_iconst (v := 0) (dget dX8_doBring 46 rfl) rfl ?_
          exact tq_zret rfl rfl (dget dX8_doBring 47 rfl) ⟨_, rfl, BP.n (fun q => hA.f c_69 (fun j2 h2 hb => q.1 j2 (by omega) hb)), hT⟩
        · have g_21 := c_69
          exact absurd c_21 c_69
      · have g_21 := c_21
        refine tq_iload_n 4 (dget dX8_doBring 12 rfl) rfl rfl ?_
        refine tq_iload 0 (dget dX8_doBring 13 rfl) rfl ?_
        refine mq_Si (As := [.int (nI set), .int (nI k)]) (rest := []) (dget dX8_doBring 14 rfl) lX8_179 miX8_isIn (k_isIn τ set k hset (by omega) d (by omega)) rfl rfl (Nat.le_of_ble_eq_true rfl) (Nat.le_of_ble_eq_true rfl) (fun r_27 σ_27 h_27 => ?_)
        obtain ⟨b_27, e_27⟩ := h_27
        obtain rfl := e_27.symm
        refine tq_if_eq (tgt := 61) (dget dX8_doBring 15 rfl) (by decide) (fun c_30 => ?_) (fun c_30 => ?_)
        · refine tq_iinc (v := (nI (k + 1))) (ls2 := [(5, .int (nI (k + 1))), (4, .int are), (0, .ref 42), (1, .int (nI m)), (2, .int (nI set)), (3, .int (nI told))]) 0 (dget dX8_doBring 34 rfl) rfl (nI_1 k) (by decide) rfl ?_
          refine tq_goto (tgt := 10) (dget dX8_doBring 35 rfl) (by decide) ?_
          refine tq_sub [0, 1, 2, 3, 4, 5] (ls' := [(5, .int (nI (k + 1))), (4, .int are), (0, .ref 42), (1, .int (nI m)), (2, .int (nI set)), (3, .int (nI told))]) rfl ?_
          refine ih (k + 1) are τ (by omega) (by omega) hT (hA.iff ⟨fun q j2 h2 hb => ?_, fun q j2 h2 hb => q j2 (by omega) hb⟩) ⟨fun q => ?_, fun q => hI.2 q⟩
          · by_cases e : j2 = k
            · subst e; exact absurd hb (b_27.f c_30)
            · exact q j2 (by omega) hb
          · rw [hI.1 q, cntN, if_neg (b_27.f c_30)]; rfl
        · refine tq_aload_n 2 (dget dX8_doBring 16 rfl) rfl rfl ?_
          refine tq_iload_n 3 (dget dX8_doBring 17 rfl) rfl rfl ?_
          refine tq_iload 0 (dget dX8_doBring 18 rfl) rfl ?_
          refine mq_Vi (As := [.int (nI m), .int (nI k)]) (rest := []) (dget dX8_doBring 19 rfl) lX8_166 miX8_doesWith (k_doesWith τ m k hm4 (by omega) j ((congrFun (hT.1 43 (by decide) (by decide) (by decide)) m).trans hk) hj d (by omega)) rfl rfl rfl rfl (Nat.le_of_ble_eq_true rfl) (Nat.le_of_ble_eq_true rfl) (fun r_37 σ_37 h_37 => ?_)
          obtain ⟨a_37, e_37⟩ := h_37
          obtain rfl := a_37.symm
          obtain rfl := e_37.symm
          rw [show ansM τ m k = ansF (σ 42 6) (σ 43 m) (σ 44 (6 * m + k)) (nI (cntN set k)) by unfold ansM; rw [hT.1 42 (by decide) (by decide) (by decide), hT.1 43 (by decide) (by decide) (by decide), hT.1 44 (by decide) (by decide) (by decide), hI.1 g_21]]
          refine tq_iconst (v := 3) (dget dX8_doBring 20 rfl) rfl ?_
          refine tq_icmp_ne (tgt := 48) (dget dX8_doBring 21 rfl) (by decide) (fun c_41 => ?_) (fun c_41 => ?_)
          · refine tq_iconst (v := 0) (dget dX8_doBring 24 rfl) rfl ?_
            refine tq_istore (ls2 := [(4, .int 0), (5, .int (nI k)), (0, .ref 42), (1, .int (nI m)), (2, .int (nI set)), (3, .int (nI told))]) (dget dX8_doBring 25 rfl) (by decide) rfl ?_
            refine tq_aload_n 2 (dget dX8_doBring 26 rfl) rfl rfl ?_
            refine tq_getR (dget dX8_doBring 27 rfl) fX8_37 rfl rfl ?_
            refine tq_iload_n 3 (dget dX8_doBring 28 rfl) rfl rfl ?_
            refine tq_dup2 (dget dX8_doBring 29 rfl) rfl rfl ?_
            refine tq_ialdN m (dget dX8_doBring 30 rfl) rfl (by decide) rfl (by omega) ?_
            refine tq_iconst (v := 1) (dget dX8_doBring 31 rfl) rfl ?_
            refine tq_iadd (dget dX8_doBring 32 rfl) ?_
            refine tq_iastN m (dget dX8_doBring 33 rfl) rfl (by decide) rfl (by omega) ?_
            refine tq_iinc (v := (nI (k + 1))) (ls2 := [(5, .int (nI (k + 1))), (4, .int 0), (0, .ref 42), (1, .int (nI m)), (2, .int (nI set)), (3, .int (nI told))]) 1 (dget dX8_doBring 34 rfl) rfl (nI_1 k) (by decide) rfl ?_
            refine tq_goto (tgt := 10) (dget dX8_doBring 35 rfl) (by decide) ?_
            refine tq_sub [0, 1, 2, 3, 4, 5] (ls' := [(5, .int (nI (k + 1))), (4, .int 0), (0, .ref 42), (1, .int (nI m)), (2, .int (nI set)), (3, .int (nI told))]) rfl ?_
            refine ih (k + 1) 0 _ (by omega) (by omega) (hT.up52 hm4 _) (BP.n (fun q => c_41 (q k (by omega) (b_27.t c_30)))) ⟨fun q => ?_, fun q => ?_⟩
            · exact absurd rfl q
            · exact rfl
          · refine tq_iconst (v := 1) (dget dX8_doBring 22 rfl) rfl ?_
            refine tq_goto (tgt := 49) (dget dX8_doBring 23 rfl) (by decide) ?_
            refine tq_istore (ls2 := [(4, .int 1), (5, .int (nI k)), (0, .ref 42), (1, .int (nI m)), (2, .int (nI set)), (3, .int (nI told))]) (dget dX8_doBring 25 rfl) (by decide) rfl ?_
            refine tq_aload_n 2 (dget dX8_doBring 26 rfl) rfl rfl ?_
            refine tq_getR (dget dX8_doBring 27 rfl) fX8_37 rfl rfl ?_
            refine tq_iload_n 3 (dget dX8_doBring 28 rfl) rfl rfl ?_
            refine tq_dup2 (dget dX8_doBring 29 rfl) rfl rfl ?_
            refine tq_ialdN m (dget dX8_doBring 30 rfl) rfl (by decide) rfl (by omega) ?_
            refine tq_iconst (v := 1) (dget dX8_doBring 31 rfl) rfl ?_
            refine tq_iadd (dget dX8_doBring 32 rfl) ?_
            refine tq_iastN m (dget dX8_doBring 33 rfl) rfl (by decide) rfl (by omega) ?_
            refine tq_iinc (v := (nI (k + 1))) (ls2 := [(5, .int (nI (k + 1))), (4, .int 1), (0, .ref 42), (1, .int (nI m)), (2, .int (nI set)), (3, .int (nI told))]) 1 (dget dX8_doBring 34 rfl) rfl (nI_1 k) (by decide) rfl ?_
            refine tq_goto (tgt := 10) (dget dX8_doBring 35 rfl) (by decide) ?_
            refine tq_sub [0, 1, 2, 3, 4, 5] (ls' := [(5, .int (nI (k + 1))), (4, .int 1), (0, .ref 42), (1, .int (nI m)), (2, .int (nI set)), (3, .int (nI told))]) rfl ?_
            refine ih (k + 1) 1 _ (by omega) (by omega) (hT.up52 hm4 _) (BP.y (fun j2 h2 hb => ?_)) ⟨fun q => ?_, fun q => ?_⟩
            · by_cases e : j2 = k
              · subst e; exact c_41
              · exact hA.t g_21 j2 (by omega) hb
            · rw [up_s, hI.1 g_21, cntN, if_pos (b_27.t c_30)]; exact nI_1 _
            · exact absurd q (by decide)
set_option maxHeartbeats 4000000 in
set_option maxRecDepth 20000 in
theorem k_doBring (σ : Mem) (S M m told set : Nat) (hV : VM σ S M) (hm4 : m < 4) (ht : told < 6) (hset : set < 64) (j : Nat) (hk : σ 43 m = nI j) (hj : j < 3) (d : Nat) (hd : 2 ≤ d) : PMet d mX8_doBring [.ref 42, .int (nI m), .int (nI set), .int (nI told)] σ (Pi (fun v σ2 => BP (brSm σ S m told set) v ∧ SC σ σ2)) := by
  obtain ⟨d, rfl⟩ : ∃ e, d = e + 1 := ⟨d - 1, by omega⟩
  refine PMet.start (ls0 := [(0, .ref 42), (1, .int (nI m)), (2, .int (nI set)), (3, .int (nI told))]) miX8_doBring.1 (Nat.le_of_ble_eq_true rfl) rfl ?_
  refine tq_aload_n 0 (dget dX8_doBring 0 rfl) rfl rfl ?_
  refine mq_Vv (As := []) (rest := []) (dget dX8_doBring 1 rfl) lX8_169 miX8_begin (k_begin σ d (by omega)) rfl rfl rfl rfl (Nat.le_of_ble_eq_true rfl) (Nat.le_of_ble_eq_true rfl) (fun σ_1 h_1 => ?_)
  obtain rfl := Eq.symm h_1
  refine tq_iconst (v := 1) (dget dX8_doBring 2 rfl) rfl ?_
  refine tq_istore (ls2 := [(4, .int 1), (0, .ref 42), (1, .int (nI m)), (2, .int (nI set)), (3, .int (nI told))]) (dget dX8_doBring 3 rfl) (by decide) rfl ?_
  refine tq_iconst (v := 0) (dget dX8_doBring 4 rfl) rfl ?_
  refine tq_istore (ls2 := [(5, .int 0), (4, .int 1), (0, .ref 42), (1, .int (nI m)), (2, .int (nI set)), (3, .int (nI told))]) (dget dX8_doBring 5 rfl) (by decide) rfl ?_
  refine tq_sub [0, 1, 2, 3, 4, 5] (ls' := [(5, .int 0), (4, .int 1), (0, .ref 42), (1, .int (nI m)), (2, .int (nI set)), (3, .int (nI told))]) rfl ?_
  exact k_doBring_loop σ S M m told set hV hm4 ht hset j hk hj (d + 1) (by omega) (S + 1) 0 1 (begM σ) (by omega) (by omega) (SC.beg σ) (BP.y (fun j2 h2 _ => absurd h2 (by omega))) ⟨fun _ => by rw [begM_52]; exact if_pos hm4, fun q => q⟩
theorem brSm_SC {σ τ : Mem} {S m told set : Nat} (h : SC σ τ) : brSm τ S m told set ↔ brSm σ S m told set := by
  unfold brSm
  rw [h.1 42 (by decide) (by decide) (by decide), h.1 43 (by decide) (by decide) (by decide), h.1 44 (by decide) (by decide) (by decide)]
theorem fwV_neg {o : Option Nat} (hb : ∀ b, o = some b → b < 64) (h : fwV o < 0) : o = none := by
  cases o with
  | none => rfl
  | some b => exact absurd h (nI_pos (by have := hb b rfl; omega))
theorem fwV_nn {o : Option Nat} (h : ¬ fwV o < 0) : ∃ b, o = some b := by
  cases o with
  | none => exact absurd (by decide) h
  | some b => exact ⟨b, rfl⟩

set_option maxHeartbeats 4000000 in
set_option maxRecDepth 20000 in
theorem k_sent_loop (σ : Mem) (S M m told : Nat) (hV : VM σ S M) (hm4 : m < 4) (ht : told < 6) (j : Nat) (hk : σ 43 m = nI j) (hj : j < 3) (Q1 : Int32 → Mem → Prop) (d : Nat) (hd : 3 ≤ d) : ∀ (n : Nat) (k : Nat) (τ : Mem) (hm : 2 ^ S < k + n) (hk9 : k ≤ 2 ^ S) (hT : SC σ τ) (hQ : ∀ τ2, SC σ τ2 → Q1 (fwV (fwF (brSm σ S m told) told (2 ^ S))) τ2), PAt (EM d (Pi Q1)) mX8_sent 24 [(4, .int (nI k)), (3, .int (fwV (fwF (brSm σ S m told) told k))), (0, .ref 42), (1, .int (nI m)), (2, .int (nI told))] [] τ := by
  obtain ⟨d, rfl⟩ : ∃ e, d = e + 1 := ⟨d - 1, by omega⟩
  intro n
  induction n with
  | zero => intro k τ hm hk9 hT hQ; exact absurd hm (by omega)
  | succ n ih =>
    intro k τ hm hk9 hT hQ
    obtain ⟨v1, v2, v3, v4⟩ := id (VM_SC hV hT)
    have hp6 := pow_S v3
    have hlt : ∀ b, (fwF (brSm σ S m told) told k) = some b → b < k := fun b hb => fwF_lt k b hb
    refine tq_iload 0 (dget dX8_sent 14 rfl) rfl ?_
    refine tq_iconst (v := 1) (dget dX8_sent 15 rfl) rfl ?_
    refine tq_aload_n 2 (dget dX8_sent 16 rfl) rfl rfl ?_
    refine tq_getI (dget dX8_sent 17 rfl) fX8_81 rfl rfl ?_
    refine tq_ishl (dget dX8_sent 18 rfl) ?_
    refine tq_eqi (y := (nI (2 ^ S))) (by rw [v1]; exact shl_S v3) ?_
    refine tq_icmp_ge (tgt := 96) (dget dX8_sent 19 rfl) (by decide) (fun c_32 => ?_) (fun c_32 => ?_)
    · have g_32 := kle (by omega) (by omega) c_32
      have g_33 : k = 2 ^ S := by omega
      refine tq_iload_n 1 (dget dX8_sent 49 rfl) rfl rfl ?_
      exact tq_iret rfl (dget dX8_sent 50 rfl) ⟨_, rfl, by rw [g_33]; exact hQ τ hT⟩
    · have g_32 := knle (by omega) (by omega) c_32
      refine tq_iload_n 1 (dget dX8_sent 20 rfl) rfl rfl ?_
      refine tq_if_lt (tgt := 51) (dget dX8_sent 21 rfl) (by decide) (fun c_36 => ?_) (fun c_36 => ?_)
      · have g_36 := fwV_neg (fun b hb => by have := hlt b hb; omega) c_36
        refine tq_iconst (v := 1) (dget dX8_sent 27 rfl) rfl ?_
        refine tq_goto (tgt := 56) (dget dX8_sent 28 rfl) (by decide) ?_
        refine tq_istore (ls2 := [(5, .int 1), (4, .int (nI k)), (3, .int (fwV (fwF (brSm σ S m told) told k))), (0, .ref 42), (1, .int (nI m)), (2, .int (nI told))]) (dget dX8_sent 30 rfl) (by decide) rfl ?_
        refine tq_iload 0 (dget dX8_sent 31 rfl) rfl ?_
        refine tq_if_eq (tgt := 88) (dget dX8_sent 32 rfl) (by decide) (fun c_60 => ?_) (fun c_60 => ?_)
        · exact absurd c_60 (by decide)
        · refine tq_iload 1 (dget dX8_sent 33 rfl) rfl ?_
          refine tq_iload_n 5 (dget dX8_sent 34 rfl) rfl rfl ?_
          refine mq_Si (As := [.int (nI k), .int (nI told)]) (rest := []) (dget dX8_sent 35 rfl) lX8_179 miX8_isIn (k_isIn τ k told (by omega) ht d (by omega)) rfl rfl (Nat.le_of_ble_eq_true rfl) (Nat.le_of_ble_eq_true rfl) (fun r_66 σ_66 h_66 => ?_)
          obtain ⟨b_66, e_66⟩ := h_66
          obtain rfl := e_66.symm
          refine tq_if_ne (tgt := 88) (dget dX8_sent 36 rfl) (by decide) (fun c_69 => ?_) (fun c_69 => ?_)
          · have g_69 : ¬ bitN k told = false := fun q => absurd (b_66.t c_69) (by rw [q]; decide)
            refine tq_iload_n 2 (dget dX8_sent 45 rfl) rfl rfl ?_
            refine tq_istore_n (ls2 := [(3, .int (fwV (fwF (brSm σ S m told) told k))), (5, .int 1), (4, .int (nI k)), (0, .ref 42), (1, .int (nI m)), (2, .int (nI told))]) (dget dX8_sent 46 rfl) rfl (by decide) rfl ?_
            refine tq_iinc (v := (nI (k + 1))) (ls2 := [(4, .int (nI (k + 1))), (3, .int (fwV (fwF (brSm σ S m told) told k))), (5, .int 1), (0, .ref 42), (1, .int (nI m)), (2, .int (nI told))]) 2 (dget dX8_sent 47 rfl) rfl (nI_1 k) (by decide) rfl ?_
            refine tq_goto (tgt := 24) (dget dX8_sent 48 rfl) (by decide) ?_
            refine tq_sub [0, 1, 3, 4, 5] (ls' := [(4, .int (nI (k + 1))), (3, .int (fwV (fwF (brSm σ S m told) told k))), (0, .ref 42), (1, .int (nI m)), (2, .int (nI told))]) rfl ?_
            have hc : ¬ fwc (brSm σ S m told) told k (fwF (brSm σ S m told) told k) := fun hc => g_69 hc.2.1
            rw [show fwV (fwF (brSm σ S m told) told k) = fwV (fwF (brSm σ S m told) told (k + 1)) by rw [fwF_n hc]]
            exact ih (k + 1) _ (by omega) (by omega) hT hQ
          · have g_69 : bitN k told = false := by cases h9 : bitN k told; rfl; exact absurd h9 (b_66.f c_69)
            refine tq_aload_n 3 (dget dX8_sent 37 rfl) rfl rfl ?_
            refine tq_iload_n 4 (dget dX8_sent 38 rfl) rfl rfl ?_
            refine tq_iload 1 (dget dX8_sent 39 rfl) rfl ?_
            refine tq_iload_n 5 (dget dX8_sent 40 rfl) rfl rfl ?_
            refine mq_Vi (As := [.int (nI m), .int (nI k), .int (nI told)]) (rest := []) (dget dX8_sent 41 rfl) lX8_185 miX8_doBring (k_doBring τ S M m told k (VM_SC hV hT) hm4 ht (by omega) j ((congrFun (hT.1 43 (by decide) (by decide) (by decide)) m).trans hk) hj d (by omega)) rfl rfl rfl rfl (Nat.le_of_ble_eq_true rfl) (Nat.le_of_ble_eq_true rfl) (fun r_77 σ_77 h_77 => ?_)
            obtain ⟨b_77, s_77⟩ := h_77
            refine tq_if_eq (tgt := 88) (dget dX8_sent 42 rfl) (by decide) (fun c_80 => ?_) (fun c_80 => ?_)
            · refine tq_iload_n 2 (dget dX8_sent 45 rfl) rfl rfl ?_
              refine tq_istore_n (ls2 := [(3, .int (fwV (fwF (brSm σ S m told) told k))), (5, .int 1), (4, .int (nI k)), (0, .ref 42), (1, .int (nI m)), (2, .int (nI told))]) (dget dX8_sent 46 rfl) rfl (by decide) rfl ?_
              refine tq_iinc (v := (nI (k + 1))) (ls2 := [(4, .int (nI (k + 1))), (3, .int (fwV (fwF (brSm σ S m told) told k))), (5, .int 1), (0, .ref 42), (1, .int (nI m)), (2, .int (nI told))]) 2 (dget dX8_sent 47 rfl) rfl (nI_1 k) (by decide) rfl ?_
              refine tq_goto (tgt := 24) (dget dX8_sent 48 rfl) (by decide) ?_
              refine tq_sub [0, 1, 3, 4, 5] (ls' := [(4, .int (nI (k + 1))), (3, .int (fwV (fwF (brSm σ S m told) told k))), (0, .ref 42), (1, .int (nI m)), (2, .int (nI told))]) rfl ?_
              have hc : ¬ fwc (brSm σ S m told) told k (fwF (brSm σ S m told) told k) := fun hc => b_77.f c_80 ((brSm_SC hT).mpr hc.2.2)
              rw [show fwV (fwF (brSm σ S m told) told k) = fwV (fwF (brSm σ S m told) told (k + 1)) by rw [fwF_n hc]]
              exact ih (k + 1) _ (by omega) (by omega) (hT.tr s_77) hQ
            · refine tq_iload 1 (dget dX8_sent 43 rfl) rfl ?_
              refine tq_goto (tgt := 89) (dget dX8_sent 44 rfl) (by decide) ?_
              refine tq_istore_n (ls2 := [(3, .int (nI k)), (5, .int 1), (4, .int (nI k)), (0, .ref 42), (1, .int (nI m)), (2, .int (nI told))]) (dget dX8_sent 46 rfl) rfl (by decide) rfl ?_
              refine tq_iinc (v := (nI (k + 1))) (ls2 := [(4, .int (nI (k + 1))), (3, .int (nI k)), (5, .int 1), (0, .ref 42), (1, .int (nI m)), (2, .int (nI told))]) 2 (dget dX8_sent 47 rfl) rfl (nI_1 k) (by decide) rfl ?_
              refine tq_goto (tgt := 24) (dget dX8_sent 48 rfl) (by decide) ?_
              refine tq_sub [0, 1, 3, 4, 5] (ls' := [(4, .int (nI (k + 1))), (3, .int (nI k)), (0, .ref 42), (1, .int (nI m)), (2, .int (nI told))]) rfl ?_
              have hc : fwc (brSm σ S m told) told k (fwF (brSm σ S m told) told k) := ⟨fun b hb => absurd (g_36.symm.trans hb) (by simp), g_69, (brSm_SC hT).mp (b_77.t c_80)⟩
              rw [show nI k = fwV (fwF (brSm σ S m told) told (k + 1)) by rw [fwF_y hc]; rfl]
              exact ih (k + 1) _ (by omega) (by omega) (hT.tr s_77) hQ
      · obtain ⟨b, g_36⟩ := fwV_nn c_36
        have hb64 := hlt b g_36
        refine tq_iload 0 (dget dX8_sent 22 rfl) rfl ?_
        refine mq_Si (As := [.int (nI k)]) (rest := []) (dget dX8_sent 23 rfl) lX8_182 miX8_bits (k_bits τ k (by omega) d (by omega)) rfl rfl (Nat.le_of_ble_eq_true rfl) (Nat.le_of_ble_eq_true rfl) (fun r_41 σ_41 h_41 => ?_)
        have hck := cntN_le k 6
        have hcb := cntN_le b 6
        obtain ⟨a_41, e_41⟩ := h_41
        obtain rfl := a_41.symm
        obtain rfl := e_41.symm
        refine tq_iload_n 1 (dget dX8_sent 24 rfl) rfl rfl ?_
        refine mq_Si (As := [.int (fwV (fwF (brSm σ S m told) told k))]) (rest := [.int (nI (cntN k 6))]) (dget dX8_sent 25 rfl) lX8_182 miX8_bits (by rw [g_36]; exact k_bits τ b (by omega) d (by omega)) rfl rfl (Nat.le_of_ble_eq_true rfl) (Nat.le_of_ble_eq_true rfl) (fun r_45 σ_45 h_45 => ?_)
        obtain ⟨a_45, e_45⟩ := h_45
        obtain rfl := a_45.symm
        obtain rfl := e_45.symm
        refine tq_icmp_ge (tgt := 55) (dget dX8_sent 26 rfl) (by decide) (fun c_48 => ?_) (fun c_48 => ?_)
        · have g_48 : ¬ cntN k 6 < cntN b 6 := Nat.not_lt.mpr (kle (by omega) (by omega) c_48)
          refine tq_iconst (v := 0) (dget dX8_sent 29 rfl) rfl ?_
          refine tq_istore (ls2 := [(5, .int 0), (4, .int (nI k)), (3, .int (fwV (fwF (brSm σ S m told) told k))), (0, .ref 42), (1, .int (nI m)), (2, .int (nI told))]) (dget dX8_sent 30 rfl) (by decide) rfl ?_
          refine tq_iload 0 (dget dX8_sent 31 rfl) rfl ?_
          refine tq_if_eq (tgt := 88) (dget dX8_sent 32 rfl) (by decide) (fun c_60 => ?_) (fun c_60 => ?_)
          · refine tq_iload_n 2 (dget dX8_sent 45 rfl) rfl rfl ?_
            refine tq_istore_n (ls2 := [(3, .int (fwV (fwF (brSm σ S m told) told k))), (5, .int 0), (4, .int (nI k)), (0, .ref 42), (1, .int (nI m)), (2, .int (nI told))]) (dget dX8_sent 46 rfl) rfl (by decide) rfl ?_
            refine tq_iinc (v := (nI (k + 1))) (ls2 := [(4, .int (nI (k + 1))), (3, .int (fwV (fwF (brSm σ S m told) told k))), (5, .int 0), (0, .ref 42), (1, .int (nI m)), (2, .int (nI told))]) 2 (dget dX8_sent 47 rfl) rfl (nI_1 k) (by decide) rfl ?_
            refine tq_goto (tgt := 24) (dget dX8_sent 48 rfl) (by decide) ?_
            refine tq_sub [0, 1, 3, 4, 5] (ls' := [(4, .int (nI (k + 1))), (3, .int (fwV (fwF (brSm σ S m told) told k))), (0, .ref 42), (1, .int (nI m)), (2, .int (nI told))]) rfl ?_
            have hc : ¬ fwc (brSm σ S m told) told k (fwF (brSm σ S m told) told k) := fun hc => g_48 (hc.1 _ g_36)
            rw [show fwV (fwF (brSm σ S m told) told k) = fwV (fwF (brSm σ S m told) told (k + 1)) by rw [fwF_n hc]]
            exact ih (k + 1) _ (by omega) (by omega) hT hQ
          · exact absurd c_60 (by decide)
        · have g_48 : cntN k 6 < cntN b 6 := knle (by omega) (by omega) c_48
          refine tq_iconst (v := 1) (dget dX8_sent 27 rfl) rfl ?_
          refine tq_goto (tgt := 56) (dget dX8_sent 28 rfl) (by decide) ?_
          refine tq_istore (ls2 := [(5, .int 1), (4, .int (nI k)), (3, .int (fwV (fwF (brSm σ S m told) told k))), (0, .ref 42), (1, .int (nI m)), (2, .int (nI told))]) (dget dX8_sent 30 rfl) (by decide) rfl ?_
          refine tq_iload 0 (dget dX8_sent 31 rfl) rfl ?_
          refine tq_if_eq (tgt := 88) (dget dX8_sent 32 rfl) (by decide) (fun c_60 => ?_) (fun c_60 => ?_)
          · exact absurd c_60 (by decide)
          · refine tq_iload 1 (dget dX8_sent 33 rfl) rfl ?_
            refine tq_iload_n 5 (dget dX8_sent 34 rfl) rfl rfl ?_
            refine mq_Si (As := [.int (nI k), .int (nI told)]) (rest := []) (dget dX8_sent 35 rfl) lX8_179 miX8_isIn (k_isIn τ k told (by omega) ht d (by omega)) rfl rfl (Nat.le_of_ble_eq_true rfl) (Nat.le_of_ble_eq_true rfl) (fun r_66 σ_66 h_66 => ?_)
            obtain ⟨b_66, e_66⟩ := h_66
            obtain rfl := e_66.symm
            refine tq_if_ne (tgt := 88) (dget dX8_sent 36 rfl) (by decide) (fun c_69 => ?_) (fun c_69 => ?_)
            · have g_69 : ¬ bitN k told = false := fun q => absurd (b_66.t c_69) (by rw [q]; decide)
              refine tq_iload_n 2 (dget dX8_sent 45 rfl) rfl rfl ?_
              refine tq_istore_n (ls2 := [(3, .int (fwV (fwF (brSm σ S m told) told k))), (5, .int 1), (4, .int (nI k)), (0, .ref 42), (1, .int (nI m)), (2, .int (nI told))]) (dget dX8_sent 46 rfl) rfl (by decide) rfl ?_
              refine tq_iinc (v := (nI (k + 1))) (ls2 := [(4, .int (nI (k + 1))), (3, .int (fwV (fwF (brSm σ S m told) told k))), (5, .int 1), (0, .ref 42), (1, .int (nI m)), (2, .int (nI told))]) 2 (dget dX8_sent 47 rfl) rfl (nI_1 k) (by decide) rfl ?_
              refine tq_goto (tgt := 24) (dget dX8_sent 48 rfl) (by decide) ?_
              refine tq_sub [0, 1, 3, 4, 5] (ls' := [(4, .int (nI (k + 1))), (3, .int (fwV (fwF (brSm σ S m told) told k))), (0, .ref 42), (1, .int (nI m)), (2, .int (nI told))]) rfl ?_
              have hc : ¬ fwc (brSm σ S m told) told k (fwF (brSm σ S m told) told k) := fun hc => g_69 hc.2.1
              rw [show fwV (fwF (brSm σ S m told) told k) = fwV (fwF (brSm σ S m told) told (k + 1)) by rw [fwF_n hc]]
              exact ih (k + 1) _ (by omega) (by omega) hT hQ
            · have g_69 : bitN k told = false := by cases h9 : bitN k told; rfl; exact absurd h9 (b_66.f c_69)
              refine tq_aload_n 3 (dget dX8_sent 37 rfl) rfl rfl ?_
              refine tq_iload_n 4 (dget dX8_sent 38 rfl) rfl rfl ?_
              refine tq_iload 1 (dget dX8_sent 39 rfl) rfl ?_
              refine tq_iload_n 5 (dget dX8_sent 40 rfl) rfl rfl ?_
              refine mq_Vi (As := [.int (nI m), .int (nI k), .int (nI told)]) (rest := []) (dget dX8_sent 41 rfl) lX8_185 miX8_doBring (k_doBring τ S M m told k (VM_SC hV hT) hm4 ht (by omega) j ((congrFun (hT.1 43 (by decide) (by decide) (by decide)) m).trans hk) hj d (by omega)) rfl rfl rfl rfl (Nat.le_of_ble_eq_true rfl) (Nat.le_of_ble_eq_true rfl) (fun r_77 σ_77 h_77 => ?_)
              obtain ⟨b_77, s_77⟩ := h_77
              refine tq_if_eq (tgt := 88) (dget dX8_sent 42 rfl) (by decide) (fun c_80 => ?_) (fun c_80 => ?_)
              · refine tq_iload_n 2 (dget dX8_sent 45 rfl) rfl rfl ?_
                refine tq_istore_n (ls2 := [(3, .int (fwV (fwF (brSm σ S m told) told k))), (5, .int 1), (4, .int (nI k)), (0, .ref 42), (1, .int (nI m)), (2, .int (nI told))]) (dget dX8_sent 46 rfl) rfl (by decide) rfl ?_
                refine tq_iinc (v := (nI (k + 1))) (ls2 := [(4, .int (nI (k + 1))), (3, .int (fwV (fwF (brSm σ S m told) told k))), (5, .int 1), (0, .ref 42), (1, .int (nI m)), (2, .int (nI told))]) 2 (dget dX8_sent 47 rfl) rfl (nI_1 k) (by decide) rfl ?_
                refine tq_goto (tgt := 24) (dget dX8_sent 48 rfl) (by decide) ?_
                refine tq_sub [0, 1, 3, 4, 5] (ls' := [(4, .int (nI (k + 1))), (3, .int (fwV (fwF (brSm σ S m told) told k))), (0, .ref 42), (1, .int (nI m)), (2, .int (nI told))]) rfl ?_
                have hc : ¬ fwc (brSm σ S m told) told k (fwF (brSm σ S m told) told k) := fun hc => b_77.f c_80 ((brSm_SC hT).mpr hc.2.2)
                rw [show fwV (fwF (brSm σ S m told) told k) = fwV (fwF (brSm σ S m told) told (k + 1)) by rw [fwF_n hc]]
                exact ih (k + 1) _ (by omega) (by omega) (hT.tr s_77) hQ
              · refine tq_iload 1 (dget dX8_sent 43 rfl) rfl ?_
                refine tq_goto (tgt := 89) (dget dX8_sent 44 rfl) (by decide) ?_
                refine tq_istore_n (ls2 := [(3, .int (nI k)), (5, .int 1), (4, .int (nI k)), (0, .ref 42), (1, .int (nI m)), (2, .int (nI told))]) (dget dX8_sent 46 rfl) rfl (by decide) rfl ?_
                refine tq_iinc (v := (nI (k + 1))) (ls2 := [(4, .int (nI (k + 1))), (3, .int (nI k)), (5, .int 1), (0, .ref 42), (1, .int (nI m)), (2, .int (nI told))]) 2 (dget dX8_sent 47 rfl) rfl (nI_1 k) (by decide) rfl ?_
                refine tq_goto (tgt := 24) (dget dX8_sent 48 rfl) (by decide) ?_
                refine tq_sub [0, 1, 3, 4, 5] (ls' := [(4, .int (nI (k + 1))), (3, .int (nI k)), (0, .ref 42), (1, .int (nI m)), (2, .int (nI told))]) rfl ?_
                have hc : fwc (brSm σ S m told) told k (fwF (brSm σ S m told) told k) := ⟨fun b2 hb2 => by cases g_36.symm.trans hb2; exact g_48, g_69, (brSm_SC hT).mp (b_77.t c_80)⟩
                rw [show nI k = fwV (fwF (brSm σ S m told) told (k + 1)) by rw [fwF_y hc]; rfl]
                exact ih (k + 1) _ (by omega) (by omega) (hT.tr s_77) hQ
set_option maxHeartbeats 4000000 in
set_option maxRecDepth 20000 in
theorem k_sent (σ : Mem) (S M : Nat) (hV : VM σ S M) (hkd : kOK σ M) (x y : Int32) (d : Nat) (hd : 3 ≤ d) : PMet d mX8_sent [.ref 42, .int x, .int y] σ (Pi (fun v σ2 => v = cnd (hMm σ x) (cnd (hSm σ y) (fwV (fwF (brSm σ S (cl x) (cl y)) (cl y) (2 ^ S))) (-1)) (-1) ∧ SC σ σ2)) := by
  obtain ⟨d, rfl⟩ : ∃ e, d = e + 1 := ⟨d - 1, by omega⟩
  refine PMet.start (ls0 := [(0, .ref 42), (1, .int x), (2, .int y)]) miX8_sent.1 (Nat.le_of_ble_eq_true rfl) rfl ?_
  refine tq_aload_n 0 (dget dX8_sent 0 rfl) rfl rfl ?_
  refine tq_iload_n 1 (dget dX8_sent 1 rfl) rfl rfl ?_
  refine mq_Vi (As := [.int x]) (rest := []) (dget dX8_sent 2 rfl) lX8_152 miX8_noMaid (k_noMaid σ S M hV x d (by omega)) rfl rfl rfl rfl (Nat.le_of_ble_eq_true rfl) (Nat.le_of_ble_eq_true rfl) (fun r_2 σ_2 h_2 => ?_)
  obtain ⟨b_2, e_2⟩ := h_2
  obtain rfl := e_2.symm
  refine tq_if_ne (tgt := 16) (dget dX8_sent 3 rfl) (by decide) (fun c_5 => ?_) (fun c_5 => ?_)
  · refine tq_iconst (v := (-1)) (dget dX8_sent 8 rfl) rfl ?_
    exact tq_iret rfl (dget dX8_sent 9 rfl) ⟨_, rfl, by simp only [cnd_f (P := hMm σ x) (b_2.t c_5)], SC.rf σ⟩
  · refine tq_aload_n 0 (dget dX8_sent 4 rfl) rfl rfl ?_
    refine tq_iload_n 2 (dget dX8_sent 5 rfl) rfl rfl ?_
    refine mq_Vi (As := [.int y]) (rest := []) (dget dX8_sent 6 rfl) lX8_155 miX8_noSuitor (k_noSuitor σ S M hV y d (by omega)) rfl rfl rfl rfl (Nat.le_of_ble_eq_true rfl) (Nat.le_of_ble_eq_true rfl) (fun r_10 σ_10 h_10 => ?_)
    obtain ⟨b_10, e_10⟩ := h_10
    obtain rfl := e_10.symm
    refine tq_if_eq (tgt := 18) (dget dX8_sent 7 rfl) (by decide) (fun c_13 => ?_) (fun c_13 => ?_)
    · obtain ⟨m, e_m, hm, hm4⟩ := hMm_n hV (Classical.not_not.mp (b_2.f c_5))
      subst e_m
      obtain ⟨s, e_s, hs, hs6⟩ := hSm_n hV (Classical.not_not.mp (b_10.f c_13))
      subst e_s
      obtain ⟨j, hj, hk⟩ := hkd m hm
      refine tq_bipush (v := (-9)) (dget dX8_sent 10 rfl) rfl ?_
      refine tq_istore_n (ls2 := [(3, .int (-9)), (0, .ref 42), (1, .int (nI m)), (2, .int (nI s))]) (dget dX8_sent 11 rfl) rfl (by decide) rfl ?_
      refine tq_iconst (v := 0) (dget dX8_sent 12 rfl) rfl ?_
      refine tq_istore (ls2 := [(4, .int 0), (3, .int (-9)), (0, .ref 42), (1, .int (nI m)), (2, .int (nI s))]) (dget dX8_sent 13 rfl) (by decide) rfl ?_
      refine tq_sub [0, 1, 2, 3, 4] (ls' := [(4, .int 0), (3, .int (-9)), (0, .ref 42), (1, .int (nI m)), (2, .int (nI s))]) rfl ?_
      exact k_sent_loop σ S M m s hV hm4 hs6 j hk hj _ (d + 1) (by omega) (2 ^ S + 1) 0 σ (by omega) (Nat.zero_le _) (SC.rf σ) (fun τ2 h2 => ⟨by simp only [cnd_t (P := hMm σ (nI m)) (Classical.not_not.mp (b_2.f c_5)), cnd_t (P := hSm σ (nI s)) (Classical.not_not.mp (b_10.f c_13)), nI_clamp (show m < 2 ^ 31 by omega), nI_clamp (show s < 2 ^ 31 by omega)], h2⟩)
    · refine tq_iconst (v := (-1)) (dget dX8_sent 8 rfl) rfl ?_
      exact tq_iret rfl (dget dX8_sent 9 rfl) ⟨_, rfl, by simp only [cnd_t (P := hMm σ x) (Classical.not_not.mp (b_2.f c_5)), cnd_f (P := hSm σ y) (b_10.t c_13)], SC.rf σ⟩
end
section
/-! ===== the reference (4): matches ===== -/
def wfM (σ : Mem) : Prop := (∀ s, s < 6 → σ 54 s < 0 ∨ ∃ b, b < 4 ∧ σ 54 s = nI b) ∧ ∀ m, m < 4 → σ 53 m < 0 ∨ ∃ h, h < 6 ∧ σ 53 m = nI h
def ownHm (σ : Mem) (s : Nat) : Int32 := if σ 54 s < 0 then -1 else σ 45 (6 * (σ 54 s).toNatClampNeg + s)
def ownSm (σ : Mem) (m : Nat) : Int32 := if σ 53 m < 0 then -1 else σ 44 (6 * m + (σ 53 m).toNatClampNeg)
def wbm (σ : Mem) (m s : Nat) : Prop := ownHm σ s < σ 45 (6 * m + s) ∧ ownSm σ m < σ 44 (6 * m + s)
def frmP (σ : Mem) (S M : Nat) : Prop := ∀ m, m < M → ∀ s, s < S → ¬ wbm σ m s
def digN (R B k : Nat) : Nat := R / B ^ k % B
def layF (τ : Mem) (R S M : Nat) : Nat → Mem
  | 0 => τ
  | k + 1 => if digN R (M + 1) k < M then up (up (layF τ R S M k) 53 (digN R (M + 1) k) (nI (S - 1 - k))) 54 (S - 1 - k) (nI (digN R (M + 1) k)) else layF τ R S M k
def layOK (τ : Mem) (R S M n : Nat) : Prop := ∀ k, k < n → digN R (M + 1) k < M → layF τ R S M k 53 (digN R (M + 1) k) < 0
def brF (τ : Mem) (R M : Nat) : Nat → Mem
  | 0 => τ
  | k + 1 => askMm (brF τ R M k) k (digN R M k)
noncomputable def cntG (P : Nat → Prop) : Nat → Nat
  | 0 => 0
  | k + 1 => cntG P k + cnd (P k) 1 0
theorem cntG_le (P : Nat → Prop) : ∀ k, cntG P k ≤ k
  | 0 => Nat.le_refl _
  | k + 1 => by
    have h := cntG_le P k
    unfold cntG
    by_cases c : P k
    · rw [cnd_t c]; omega
    · rw [cnd_f c]; omega
noncomputable def fstG (P : Nat → Prop) : Nat → Option Nat
  | 0 => none
  | k + 1 => match fstG P k with
    | some r => some r
    | none => cnd (P k) (some k) none
theorem fstG_none {P : Nat → Prop} : ∀ k, (∀ r, r < k → ¬ P r) → fstG P k = none
  | 0, _ => rfl
  | k + 1, h => by
    unfold fstG
    rw [fstG_none k (fun r hr => h r (by omega))]
    exact cnd_f (h k (by omega)) _ _
theorem fstG_stay {P : Nat → Prop} {k r : Nat} (h : fstG P k = some r) : ∀ n, fstG P (k + n) = some r
  | 0 => h
  | n + 1 => by
    show fstG P ((k + n) + 1) = some r
    unfold fstG
    rw [fstG_stay h n]
def goodM (σ : Mem) (S M R : Nat) : Prop := layOK (begM σ) R S M S ∧ frmP (layF (begM σ) R S M S) S M
def brG (σ : Mem) (S M R : Nat) : Prop := frmP (brF (begM σ) R M S) S M
def fsV (σ : Mem) (S M : Nat) (y : Int32) : Option Nat → Int32
  | none => 0
  | some R => figM (layF (begM σ) R S M S 54 (cl y))
theorem wfM_beg (σ : Mem) : wfM (begM σ) := ⟨fun s hs => Or.inl (by rw [begM_54]; simp [hs]), fun m hm => Or.inl (by rw [begM_53]; simp [hm])⟩
theorem wfM_up53 {σ : Mem} {m s : Nat} (h : wfM σ) (hm : m < 4) (hs : s < 6) : wfM (up σ 53 m (nI s)) := by
  refine ⟨fun a ha => ?_, fun a ha => ?_⟩
  · rw [up_row (by decide)]; exact h.1 a ha
  · by_cases e : a = m
    · subst e; exact Or.inr ⟨s, hs, up_s⟩
    · rw [up_n (by omega)]; exact h.2 a ha
theorem wfM_up54 {σ : Mem} {m s : Nat} (h : wfM σ) (hm : m < 4) (hs : s < 6) : wfM (up σ 54 s (nI m)) := by
  refine ⟨fun a ha => ?_, fun a ha => ?_⟩
  · by_cases e : a = s
    · subst e; exact Or.inr ⟨m, hm, up_s⟩
    · rw [up_n (by omega)]; exact h.1 a ha
  · rw [up_row (by decide)]; exact h.2 a ha
theorem layF_ok {σ τ : Mem} {R S M : Nat} (hS : S ≤ 6) (hM : M ≤ 4) (h : SC σ τ) (hw : wfM τ) : ∀ k, k ≤ S → SC σ (layF τ R S M k) ∧ wfM (layF τ R S M k)
  | 0, _ => ⟨h, hw⟩
  | k + 1, hk => by
    obtain ⟨h1, h2⟩ := layF_ok (R := R) hS hM h hw k (by omega)
    unfold layF
    split
    · exact ⟨(h1.up53 (by omega) _).up54 (by omega) _, wfM_up54 (wfM_up53 h2 (by omega) (by omega)) (by omega) (by omega)⟩
    · exact ⟨h1, h2⟩
theorem askMm_ok {σ τ : Mem} {s m : Nat} (hs : s < 6) (hm : m < 4) (h : SC σ τ) (hw : wfM τ) : SC σ (askMm τ s m) ∧ wfM (askMm τ s m) := by
  unfold askMm
  split
  · split
    · refine ⟨h.up52 hm _, ?_⟩
      unfold wfM
      rw [up_row (by decide), up_row (by decide)]
      exact hw
    · exact ⟨(h.up53 hm _).up54 hs _, wfM_up54 (wfM_up53 hw hm hs) hm hs⟩
  · exact ⟨h, hw⟩
theorem brF_ok {σ τ : Mem} {R S M : Nat} (hS : S ≤ 6) (hM : M ≤ 4) (hM0 : 0 < M) (h : SC σ τ) (hw : wfM τ) : ∀ k, k ≤ S → SC σ (brF τ R M k) ∧ wfM (brF τ R M k)
  | 0, _ => ⟨h, hw⟩
  | k + 1, hk => by
    obtain ⟨h1, h2⟩ := brF_ok (R := R) hS hM hM0 h hw k (by omega)
    have h3 : digN R M k < M := Nat.mod_lt _ hM0
    exact askMm_ok (by omega) (by omega) h1 h2
theorem digN_div (R B k : Nat) : R / B ^ k / B = R / B ^ (k + 1) := by rw [Nat.div_div_eq_div_mul, Nat.pow_succ]
theorem pow5 {a S : Nat} (ha : a ≤ 5) (hS : S ≤ 6) : a ^ S ≤ 15625 := by
  have h2 : ∀ x, x < 6 → ∀ y, y < 7 → x ^ y ≤ 15625 := by decide +kernel
  exact h2 a (by omega) S (by omega)

set_option maxHeartbeats 4000000 in
set_option maxRecDepth 20000 in
theorem k_likesHer (σ : Mem) (hW : wfM σ) (s : Nat) (hs6 : s < 6) (d : Nat) (hd : 0 ≤ d) : PMet d mX8_likesHer [.ref 42, .int (nI s)] σ (Pi (fun v σ2 => v = ownHm σ s ∧ σ2 = σ)) := by
  refine PMet.start (ls0 := [(0, .ref 42), (1, .int (nI s))]) miX8_likesHer.1 (Nat.le_of_ble_eq_true rfl) rfl ?_
  refine tq_aload_n 0 (dget dX8_likesHer 0 rfl) rfl rfl ?_
  refine tq_getR (dget dX8_likesHer 1 rfl) fX8_43 rfl rfl ?_
  refine tq_iload_n 1 (dget dX8_likesHer 2 rfl) rfl rfl ?_
  refine tq_ialdN s (dget dX8_likesHer 3 rfl) rfl (by decide) rfl (by omega) ?_
  refine tq_if_ge (tgt := 13) (dget dX8_likesHer 4 rfl) (by decide) (fun c_6 => ?_) (fun c_6 => ?_)
  · obtain ⟨b, hb, e_b⟩ := (hW.1 s hs6).resolve_left (Int32.not_lt.mpr c_6)
    refine tq_aload_n 0 (dget dX8_likesHer 7 rfl) rfl rfl ?_
    refine tq_getR (dget dX8_likesHer 8 rfl) fX8_16 rfl rfl ?_
    refine tq_bipush (v := 6) (dget dX8_likesHer 9 rfl) rfl ?_
    refine tq_aload_n 0 (dget dX8_likesHer 10 rfl) rfl rfl ?_
    refine tq_getR (dget dX8_likesHer 11 rfl) fX8_43 rfl rfl ?_
    refine tq_iload_n 1 (dget dX8_likesHer 12 rfl) rfl rfl ?_
    refine tq_ialdN s (dget dX8_likesHer 13 rfl) rfl (by decide) rfl (by omega) ?_
    refine tq_eqi (y := (nI b)) e_b ?_
    refine tq_imul (dget dX8_likesHer 14 rfl) ?_
    refine tq_eqi (y := (nI (6 * b))) (nI_mulN (6) (b)) ?_
    refine tq_iload_n 1 (dget dX8_likesHer 15 rfl) rfl rfl ?_
    refine tq_iadd (dget dX8_likesHer 16 rfl) ?_
    refine tq_eqi (y := (nI ((6 * b) + s))) (nI_add ((6 * b)) (s)) ?_
    refine tq_ialdN ((6 * b) + s) (dget dX8_likesHer 17 rfl) rfl (by decide) rfl (by omega) ?_
    exact tq_iret rfl (dget dX8_likesHer 18 rfl) ⟨_, rfl, by unfold ownHm; rw [if_neg (Int32.not_lt.mpr c_6), e_b, nI_clamp (by omega)], rfl⟩
  · have g_6 := c_6
    refine tq_iconst (v := (-1)) (dget dX8_likesHer 5 rfl) rfl ?_
    refine tq_goto (tgt := 29) (dget dX8_likesHer 6 rfl) (by decide) ?_
    exact tq_iret rfl (dget dX8_likesHer 18 rfl) ⟨_, rfl, by unfold ownHm; rw [if_pos (Int32.not_le.mp c_6)], rfl⟩
set_option maxHeartbeats 4000000 in
set_option maxRecDepth 20000 in
theorem k_likesHim (σ : Mem) (hW : wfM σ) (m : Nat) (hm4 : m < 4) (d : Nat) (hd : 0 ≤ d) : PMet d mX8_likesHim [.ref 42, .int (nI m)] σ (Pi (fun v σ2 => v = ownSm σ m ∧ σ2 = σ)) := by
  refine PMet.start (ls0 := [(0, .ref 42), (1, .int (nI m))]) miX8_likesHim.1 (Nat.le_of_ble_eq_true rfl) rfl ?_
  refine tq_aload_n 0 (dget dX8_likesHim 0 rfl) rfl rfl ?_
  refine tq_getR (dget dX8_likesHim 1 rfl) fX8_40 rfl rfl ?_
  refine tq_iload_n 1 (dget dX8_likesHim 2 rfl) rfl rfl ?_
  refine tq_ialdN m (dget dX8_likesHim 3 rfl) rfl (by decide) rfl (by omega) ?_
  refine tq_if_ge (tgt := 13) (dget dX8_likesHim 4 rfl) (by decide) (fun c_6 => ?_) (fun c_6 => ?_)
  · obtain ⟨b, hb, e_b⟩ := (hW.2 m hm4).resolve_left (Int32.not_lt.mpr c_6)
    refine tq_aload_n 0 (dget dX8_likesHim 7 rfl) rfl rfl ?_
    refine tq_getR (dget dX8_likesHim 8 rfl) fX8_13 rfl rfl ?_
    refine tq_bipush (v := 6) (dget dX8_likesHim 9 rfl) rfl ?_
    refine tq_iload_n 1 (dget dX8_likesHim 10 rfl) rfl rfl ?_
    refine tq_imul (dget dX8_likesHim 11 rfl) ?_
    refine tq_eqi (y := (nI (6 * m))) (nI_mulN (6) (m)) ?_
    refine tq_aload_n 0 (dget dX8_likesHim 12 rfl) rfl rfl ?_
    refine tq_getR (dget dX8_likesHim 13 rfl) fX8_40 rfl rfl ?_
    refine tq_iload_n 1 (dget dX8_likesHim 14 rfl) rfl rfl ?_
    refine tq_ialdN m (dget dX8_likesHim 15 rfl) rfl (by decide) rfl (by omega) ?_
    refine tq_eqi (y := (nI b)) e_b ?_
    refine tq_iadd (dget dX8_likesHim 16 rfl) ?_
    refine tq_eqi (y := (nI ((6 * m) + b))) (nI_add ((6 * m)) (b)) ?_
    refine tq_ialdN ((6 * m) + b) (dget dX8_likesHim 17 rfl) rfl (by decide) rfl (by omega) ?_
    exact tq_iret rfl (dget dX8_likesHim 18 rfl) ⟨_, rfl, by unfold ownSm; rw [if_neg (Int32.not_lt.mpr c_6), e_b, nI_clamp (by omega)], rfl⟩
  · refine tq_iconst (v := (-1)) (dget dX8_likesHim 5 rfl) rfl ?_
    refine tq_goto (tgt := 29) (dget dX8_likesHim 6 rfl) (by decide) ?_
    exact tq_iret rfl (dget dX8_likesHim 18 rfl) ⟨_, rfl, by unfold ownSm; rw [if_pos (Int32.not_le.mp c_6)], rfl⟩
set_option maxHeartbeats 4000000 in
set_option maxRecDepth 20000 in
theorem k_isFirm_inner (σ : Mem) (S M : Nat) (hV : VM σ S M) (hW : wfM σ) (j : Nat) (hj : j < M) (d : Nat) (hd : 1 ≤ d) : ∀ (n : Nat) (i : Nat) (is : Int32) (hm : S < i + n) (hi : i ≤ S) (hA : BP ((∀ m, m < j → ∀ s, s < S → ¬ wbm σ m s) ∧ ∀ s, s < i → ¬ wbm σ j s) is) (hout : ∀ is2, BP (∀ m, m < j + 1 → ∀ s, s < S → ¬ wbm σ m s) is2 → PAt (EM d (Pi (fun v σ2 => BP (frmP σ S M) v ∧ σ2 = σ))) mX8_isFirm 4 [(2, .int (nI (j + 1))), (1, .int is2), (0, .ref 42)] [] σ), PAt (EM d (Pi (fun v σ2 => BP (frmP σ S M) v ∧ σ2 = σ))) mX8_isFirm 14 [(3, .int (nI i)), (2, .int (nI j)), (1, .int is), (0, .ref 42)] [] σ := by
  obtain ⟨d, rfl⟩ : ∃ e, d = e + 1 := ⟨d - 1, by omega⟩
  intro n
  induction n with
  | zero => intro i is hm hi hA hout; exact absurd hm (by omega)
  | succ n ih =>
    intro i is hm hi hA hout
    obtain ⟨v1, v2, v3, v4⟩ := hV
    refine tq_iload_n 0 (dget dX8_isFirm 10 rfl) rfl rfl ?_
    refine tq_aload_n 3 (dget dX8_isFirm 11 rfl) rfl rfl ?_
    refine tq_getI (dget dX8_isFirm 12 rfl) fX8_81 rfl rfl ?_
    refine tq_icmp_ge (tgt := 88) (dget dX8_isFirm 13 rfl) (by decide) (fun c_19 => ?_) (fun c_19 => ?_)
    · rw [v1] at c_19
      have g_19 := kle (by omega) (by omega) c_19
      have g_20 : i = S := by omega
      refine tq_iinc (v := (nI (j + 1))) (ls2 := [(2, .int (nI (j + 1))), (3, .int (nI i)), (1, .int is), (0, .ref 42)]) 1 (dget dX8_isFirm 52 rfl) rfl (nI_1 j) (by decide) rfl ?_
      refine tq_goto (tgt := 4) (dget dX8_isFirm 53 rfl) (by decide) ?_
      refine tq_sub [0, 2, 3] (ls' := [(2, .int (nI (j + 1))), (1, .int is), (0, .ref 42)]) rfl ?_
      exact hout is (hA.iff ⟨fun q m h1 s h2 => if e : m = j then e ▸ q.2 s (by omega) else q.1 m (by omega) s h2, fun q => ⟨fun m h1 => q m (by omega), fun s h2 => q j (by omega) s (by omega)⟩⟩)
    · rw [v1] at c_19
      have g_19 := knle (by omega) (by omega) c_19
      refine tq_aload_n 3 (dget dX8_isFirm 14 rfl) rfl rfl ?_
      refine tq_getR (dget dX8_isFirm 15 rfl) fX8_16 rfl rfl ?_
      refine tq_bipush (v := 6) (dget dX8_isFirm 16 rfl) rfl ?_
      refine tq_iload_n 1 (dget dX8_isFirm 17 rfl) rfl rfl ?_
      refine tq_imul (dget dX8_isFirm 18 rfl) ?_
      refine tq_eqi (y := (nI (6 * j))) (nI_mulN (6) (j)) ?_
      refine tq_iload_n 0 (dget dX8_isFirm 19 rfl) rfl rfl ?_
      refine tq_iadd (dget dX8_isFirm 20 rfl) ?_
      refine tq_eqi (y := (nI ((6 * j) + i))) (nI_add ((6 * j)) (i)) ?_
      refine tq_ialdN ((6 * j) + i) (dget dX8_isFirm 21 rfl) rfl (by decide) rfl (by omega) ?_
      refine tq_aload_n 3 (dget dX8_isFirm 22 rfl) rfl rfl ?_
      refine tq_iload_n 0 (dget dX8_isFirm 23 rfl) rfl rfl ?_
      refine mq_Vi (As := [.int (nI i)]) (rest := [.int (σ 45 ((6 * j) + i))]) (dget dX8_isFirm 24 rfl) lX8_188 miX8_likesHer (k_likesHer σ hW i (by omega) d (by omega)) rfl rfl rfl rfl (Nat.le_of_ble_eq_true rfl) (Nat.le_of_ble_eq_true rfl) (fun r_35 σ_35 h_35 => ?_)
      obtain ⟨a_35, e_35⟩ := h_35
      obtain rfl := a_35.symm
      obtain rfl := e_35.symm
      refine tq_icmp_le (tgt := 64) (dget dX8_isFirm 25 rfl) (by decide) (fun c_38 => ?_) (fun c_38 => ?_)
      · refine tq_iconst (v := 0) (dget dX8_isFirm 40 rfl) rfl ?_
        refine tq_istore (ls2 := [(4, .int 0), (3, .int (nI i)), (2, .int (nI j)), (1, .int is), (0, .ref 42)]) (dget dX8_isFirm 41 rfl) (by decide) rfl ?_
        refine tq_iload_n 3 (dget dX8_isFirm 42 rfl) rfl rfl ?_
        refine tq_if_eq (tgt := 80) (dget dX8_isFirm 43 rfl) (by decide) (fun c_68 => ?_) (fun c_68 => ?_)
        · refine tq_iconst (v := 0) (dget dX8_isFirm 48 rfl) rfl ?_
          refine tq_istore_n (ls2 := [(1, .int 0), (4, .int 0), (3, .int (nI i)), (2, .int (nI j)), (0, .ref 42)]) (dget dX8_isFirm 49 rfl) rfl (by decide) rfl ?_
          refine tq_iinc (v := (nI (i + 1))) (ls2 := [(3, .int (nI (i + 1))), (1, .int 0), (4, .int 0), (2, .int (nI j)), (0, .ref 42)]) 2 (dget dX8_isFirm 50 rfl) rfl (nI_1 i) (by decide) rfl ?_
          refine tq_goto (tgt := 14) (dget dX8_isFirm 51 rfl) (by decide) ?_
          refine tq_sub [0, 3, 1, 4] (ls' := [(3, .int (nI (i + 1))), (2, .int (nI j)), (1, .int 0), (0, .ref 42)]) rfl ?_
          exact ih (i + 1) 0 (by omega) (by omega) (BP.n (fun q => hA.f c_68 ⟨q.1, fun s hs => q.2 s (by omega)⟩)) hout
        · refine tq_iload 0 (dget dX8_isFirm 44 rfl) rfl ?_
          refine tq_if_ne (tgt := 80) (dget dX8_isFirm 45 rfl) (by decide) (fun c_73 => ?_) (fun c_73 => ?_)
          · exact absurd c_73 (by decide)
          · refine tq_iconst (v := 1) (dget dX8_isFirm 46 rfl) rfl ?_
            refine tq_goto (tgt := 81) (dget dX8_isFirm 47 rfl) (by decide) ?_
            refine tq_istore_n (ls2 := [(1, .int 1), (4, .int 0), (3, .int (nI i)), (2, .int (nI j)), (0, .ref 42)]) (dget dX8_isFirm 49 rfl) rfl (by decide) rfl ?_
            refine tq_iinc (v := (nI (i + 1))) (ls2 := [(3, .int (nI (i + 1))), (1, .int 1), (4, .int 0), (2, .int (nI j)), (0, .ref 42)]) 2 (dget dX8_isFirm 50 rfl) rfl (nI_1 i) (by decide) rfl ?_
            refine tq_goto (tgt := 14) (dget dX8_isFirm 51 rfl) (by decide) ?_
            refine tq_sub [0, 3, 1, 4] (ls' := [(3, .int (nI (i + 1))), (2, .int (nI j)), (1, .int 1), (0, .ref 42)]) rfl ?_
            exact ih (i + 1) 1 (by omega) (by omega) (BP.y ⟨(hA.t c_68).1, fun s hs => if e : s = i then e ▸ (fun q => absurd q.1 (Int32.not_lt.mpr c_38)) else (hA.t c_68).2 s (by omega)⟩) hout
      · refine tq_aload_n 3 (dget dX8_isFirm 26 rfl) rfl rfl ?_
        refine tq_getR (dget dX8_isFirm 27 rfl) fX8_13 rfl rfl ?_
        refine tq_bipush (v := 6) (dget dX8_isFirm 28 rfl) rfl ?_
        refine tq_iload_n 1 (dget dX8_isFirm 29 rfl) rfl rfl ?_
        refine tq_imul (dget dX8_isFirm 30 rfl) ?_
        refine tq_eqi (y := (nI (6 * j))) (nI_mulN (6) (j)) ?_
        refine tq_iload_n 0 (dget dX8_isFirm 31 rfl) rfl rfl ?_
        refine tq_iadd (dget dX8_isFirm 32 rfl) ?_
        refine tq_eqi (y := (nI ((6 * j) + i))) (nI_add ((6 * j)) (i)) ?_
        refine tq_ialdN ((6 * j) + i) (dget dX8_isFirm 33 rfl) rfl (by decide) rfl (by omega) ?_
        refine tq_aload_n 3 (dget dX8_isFirm 34 rfl) rfl rfl ?_
        refine tq_iload_n 1 (dget dX8_isFirm 35 rfl) rfl rfl ?_
        refine mq_Vi (As := [.int (nI j)]) (rest := [.int (σ 44 ((6 * j) + i))]) (dget dX8_isFirm 36 rfl) lX8_191 miX8_likesHim (k_likesHim σ hW j (by omega) d (by omega)) rfl rfl rfl rfl (Nat.le_of_ble_eq_true rfl) (Nat.le_of_ble_eq_true rfl) (fun r_54 σ_54 h_54 => ?_)
        obtain ⟨a_54, e_54⟩ := h_54
        obtain rfl := a_54.symm
        obtain rfl := e_54.symm
        refine tq_icmp_le (tgt := 64) (dget dX8_isFirm 37 rfl) (by decide) (fun c_57 => ?_) (fun c_57 => ?_)
        · refine tq_iconst (v := 0) (dget dX8_isFirm 40 rfl) rfl ?_
          refine tq_istore (ls2 := [(4, .int 0), (3, .int (nI i)), (2, .int (nI j)), (1, .int is), (0, .ref 42)]) (dget dX8_isFirm 41 rfl) (by decide) rfl ?_
          refine tq_iload_n 3 (dget dX8_isFirm 42 rfl) rfl rfl ?_
          refine tq_if_eq (tgt := 80) (dget dX8_isFirm 43 rfl) (by decide) (fun c_68 => ?_) (fun c_68 => ?_)
          · refine tq_iconst (v := 0) (dget dX8_isFirm 48 rfl) rfl ?_
            refine tq_istore_n (ls2 := [(1, .int 0), (4, .int 0), (3, .int (nI i)), (2, .int (nI j)), (0, .ref 42)]) (dget dX8_isFirm 49 rfl) rfl (by decide) rfl ?_
            refine tq_iinc (v := (nI (i + 1))) (ls2 := [(3, .int (nI (i + 1))), (1, .int 0), (4, .int 0), (2, .int (nI j)), (0, .ref 42)]) 2 (dget dX8_isFirm 50 rfl) rfl (nI_1 i) (by decide) rfl ?_
            refine tq_goto (tgt := 14) (dget dX8_isFirm 51 rfl) (by decide) ?_
            refine tq_sub [0, 3, 1, 4] (ls' := [(3, .int (nI (i + 1))), (2, .int (nI j)), (1, .int 0), (0, .ref 42)]) rfl ?_
            exact ih (i + 1) 0 (by omega) (by omega) (BP.n (fun q => hA.f c_68 ⟨q.1, fun s hs => q.2 s (by omega)⟩)) hout
          · refine tq_iload 0 (dget dX8_isFirm 44 rfl) rfl ?_
            refine tq_if_ne (tgt := 80) (dget dX8_isFirm 45 rfl) (by decide) (fun c_73 => ?_) (fun c_73 => ?_)
            · exact absurd c_73 (by decide)
            · refine tq_iconst (v := 1) (dget dX8_isFirm 46 rfl) rfl ?_
              refine tq_goto (tgt := 81) (dget dX8_isFirm 47 rfl) (by decide) ?_
              refine tq_istore_n (ls2 := [(1, .int 1), (4, .int 0), (3, .int (nI i)), (2, .int (nI j)), (0, .ref 42)]) (dget dX8_isFirm 49 rfl) rfl (by decide) rfl ?_
              refine tq_iinc (v := (nI (i + 1))) (ls2 := [(3, .int (nI (i + 1))), (1, .int 1), (4, .int 0), (2, .int (nI j)), (0, .ref 42)]) 2 (dget dX8_isFirm 50 rfl) rfl (nI_1 i) (by decide) rfl ?_
              refine tq_goto (tgt := 14) (dget dX8_isFirm 51 rfl) (by decide) ?_
              refine tq_sub [0, 3, 1, 4] (ls' := [(3, .int (nI (i + 1))), (2, .int (nI j)), (1, .int 1), (0, .ref 42)]) rfl ?_
              exact ih (i + 1) 1 (by omega) (by omega) (BP.y ⟨(hA.t c_68).1, fun s hs => if e : s = i then e ▸ (fun q => absurd q.2 (Int32.not_lt.mpr c_57)) else (hA.t c_68).2 s (by omega)⟩) hout
        · refine tq_iconst (v := 1) (dget dX8_isFirm 38 rfl) rfl ?_
          refine tq_goto (tgt := 65) (dget dX8_isFirm 39 rfl) (by decide) ?_
          refine tq_istore (ls2 := [(4, .int 1), (3, .int (nI i)), (2, .int (nI j)), (1, .int is), (0, .ref 42)]) (dget dX8_isFirm 41 rfl) (by decide) rfl ?_
          refine tq_iload_n 3 (dget dX8_isFirm 42 rfl) rfl rfl ?_
          refine tq_if_eq (tgt := 80) (dget dX8_isFirm 43 rfl) (by decide) (fun c_68 => ?_) (fun c_68 => ?_)
          · refine tq_iconst (v := 0) (dget dX8_isFirm 48 rfl) rfl ?_
            refine tq_istore_n (ls2 := [(1, .int 0), (4, .int 1), (3, .int (nI i)), (2, .int (nI j)), (0, .ref 42)]) (dget dX8_isFirm 49 rfl) rfl (by decide) rfl ?_
            refine tq_iinc (v := (nI (i + 1))) (ls2 := [(3, .int (nI (i + 1))), (1, .int 0), (4, .int 1), (2, .int (nI j)), (0, .ref 42)]) 2 (dget dX8_isFirm 50 rfl) rfl (nI_1 i) (by decide) rfl ?_
            refine tq_goto (tgt := 14) (dget dX8_isFirm 51 rfl) (by decide) ?_
            refine tq_sub [0, 3, 1, 4] (ls' := [(3, .int (nI (i + 1))), (2, .int (nI j)), (1, .int 0), (0, .ref 42)]) rfl ?_
            exact ih (i + 1) 0 (by omega) (by omega) (BP.n (fun q => hA.f c_68 ⟨q.1, fun s hs => q.2 s (by omega)⟩)) hout
          · refine tq_iload 0 (dget dX8_isFirm 44 rfl) rfl ?_
            refine tq_if_ne (tgt := 80) (dget dX8_isFirm 45 rfl) (by decide) (fun c_73 => ?_) (fun c_73 => ?_)
            · refine tq_iconst (v := 0) (dget dX8_isFirm 48 rfl) rfl ?_
              refine tq_istore_n (ls2 := [(1, .int 0), (4, .int 1), (3, .int (nI i)), (2, .int (nI j)), (0, .ref 42)]) (dget dX8_isFirm 49 rfl) rfl (by decide) rfl ?_
              refine tq_iinc (v := (nI (i + 1))) (ls2 := [(3, .int (nI (i + 1))), (1, .int 0), (4, .int 1), (2, .int (nI j)), (0, .ref 42)]) 2 (dget dX8_isFirm 50 rfl) rfl (nI_1 i) (by decide) rfl ?_
              refine tq_goto (tgt := 14) (dget dX8_isFirm 51 rfl) (by decide) ?_
              refine tq_sub [0, 3, 1, 4] (ls' := [(3, .int (nI (i + 1))), (2, .int (nI j)), (1, .int 0), (0, .ref 42)]) rfl ?_
              exact ih (i + 1) 0 (by omega) (by omega) (BP.n (fun q => q.2 i (by omega) ⟨Int32.not_le.mp c_38, Int32.not_le.mp c_57⟩)) hout
            · exact absurd c_73 (by decide)
set_option maxHeartbeats 4000000 in
set_option maxRecDepth 20000 in
theorem k_isFirm_outer (σ : Mem) (S M : Nat) (hV : VM σ S M) (hW : wfM σ) (d : Nat) (hd : 1 ≤ d) : ∀ (n : Nat) (j : Nat) (is : Int32) (hm : M < j + n) (hj : j ≤ M) (hA : BP (∀ m, m < j → ∀ s, s < S → ¬ wbm σ m s) is), PAt (EM d (Pi (fun v σ2 => BP (frmP σ S M) v ∧ σ2 = σ))) mX8_isFirm 4 [(2, .int (nI j)), (1, .int is), (0, .ref 42)] [] σ := by
  obtain ⟨d, rfl⟩ : ∃ e, d = e + 1 := ⟨d - 1, by omega⟩
  intro n
  induction n with
  | zero => intro j is hm hj hA; exact absurd hm (by omega)
  | succ n ih =>
    intro j is hm hj hA
    obtain ⟨v1, v2, v3, v4⟩ := id hV
    refine tq_iload_n 0 (dget dX8_isFirm 4 rfl) rfl rfl ?_
    refine tq_aload_n 2 (dget dX8_isFirm 5 rfl) rfl rfl ?_
    refine tq_getI (dget dX8_isFirm 6 rfl) fX8_88 rfl rfl ?_
    refine tq_icmp_ge (tgt := 94) (dget dX8_isFirm 7 rfl) (by decide) (fun c_9 => ?_) (fun c_9 => ?_)
    · rw [v2] at c_9
      have g_9 := kle (by omega) (by omega) c_9
      have g_10 : j = M := by omega
      refine tq_iload_n 1 (dget dX8_isFirm 54 rfl) rfl rfl ?_
      exact tq_zret rfl (by rcases hA with q | q <;> rw [q.1] <;> rfl) (dget dX8_isFirm 55 rfl) ⟨_, rfl, by rw [g_10] at hA; exact hA, rfl⟩
    · rw [v2] at c_9
      have g_9 := knle (by omega) (by omega) c_9
      refine tq_iconst (v := 0) (dget dX8_isFirm 8 rfl) rfl ?_
      refine tq_istore_n (ls2 := [(3, .int 0), (2, .int (nI j)), (1, .int is), (0, .ref 42)]) (dget dX8_isFirm 9 rfl) rfl (by decide) rfl ?_
      refine tq_sub [0, 1, 2, 3] (ls' := [(3, .int 0), (2, .int (nI j)), (1, .int is), (0, .ref 42)]) rfl ?_
      exact k_isFirm_inner σ S M hV hW j g_9 (d + 1) (by omega) (S + 1) 0 is (by omega) (by omega) (hA.iff ⟨fun q => ⟨q, fun s hs => absurd hs (by omega)⟩, fun q => q.1⟩) (fun is2 h2 => ih (j + 1) is2 (by omega) (by omega) h2)
set_option maxHeartbeats 4000000 in
set_option maxRecDepth 20000 in
theorem k_isFirm (σ : Mem) (S M : Nat) (hV : VM σ S M) (hW : wfM σ) (d : Nat) (hd : 1 ≤ d) : PMet d mX8_isFirm [.ref 42] σ (Pi (fun v σ2 => BP (frmP σ S M) v ∧ σ2 = σ)) := by
  obtain ⟨d, rfl⟩ : ∃ e, d = e + 1 := ⟨d - 1, by omega⟩
  refine PMet.start (ls0 := [(0, .ref 42)]) miX8_isFirm.1 (Nat.le_of_ble_eq_true rfl) rfl ?_
  refine tq_iconst (v := 1) (dget dX8_isFirm 0 rfl) rfl ?_
  refine tq_istore_n (ls2 := [(1, .int 1), (0, .ref 42)]) (dget dX8_isFirm 1 rfl) rfl (by decide) rfl ?_
  refine tq_iconst (v := 0) (dget dX8_isFirm 2 rfl) rfl ?_
  refine tq_istore_n (ls2 := [(2, .int 0), (1, .int 1), (0, .ref 42)]) (dget dX8_isFirm 3 rfl) rfl (by decide) rfl ?_
  refine tq_sub [0, 1, 2] (ls' := [(2, .int 0), (1, .int 1), (0, .ref 42)]) rfl ?_
  exact k_isFirm_outer σ S M hV hW (d + 1) (by omega) (M + 1) 0 1 (by omega) (by omega) (BP.y (fun m hm => absurd hm (by omega)))
set_option maxHeartbeats 4000000 in
set_option maxRecDepth 20000 in
theorem k_lays_loop (σ : Mem) (S M R : Nat) (hV : VM σ S M) (hR : R < 2 ^ 31) (d : Nat) (hd : 1 ≤ d) : ∀ (n : Nat) (j : Nat) (is : Int32) (hm : j < n) (hj : j ≤ S) (hA : BP (layOK (begM σ) R S M (S - j)) is), PAt (EM d (Pi (fun v σ2 => BP (layOK (begM σ) R S M S) v ∧ σ2 = layF (begM σ) R S M S))) mX8_laysMatch 16 [(4, .int (nI j - 1)), (2, .int (nI (R / (M + 1) ^ (S - j)))), (3, .int is), (0, .ref 42), (1, .int (nI R))] [] (layF (begM σ) R S M (S - j)) := by
  obtain ⟨d, rfl⟩ : ∃ e, d = e + 1 := ⟨d - 1, by omega⟩
  intro n
  induction n with
  | zero => intro j is hm hj hA; exact absurd hm (by omega)
  | succ n ih =>
    intro j is hm hj hA
    have hT := (layF_ok (R := R) hV.2.2.1 hV.2.2.2 (SC.beg σ) (wfM_beg σ) (S - j) (by omega)).1
    obtain ⟨v1, v2, v3, v4⟩ := VM_SC hV hT
    have hdl := Nat.div_le_self R ((M + 1) ^ (S - j))
    refine tq_iload 0 (dget dX8_laysMatch 11 rfl) rfl ?_
    refine tq_if_lt (tgt := 93) (dget dX8_laysMatch 12 rfl) (by decide) (fun c_18 => ?_) (fun c_18 => ?_)
    · have g_18 : j = 0 := by by_cases z : j = 0; exact z; exact absurd c_18 (by obtain ⟨i, rfl⟩ : ∃ i, j = i + 1 := ⟨j - 1, by omega⟩; rw [nI_pred]; exact nI_pos (by omega))
      refine tq_iload_n 2 (dget dX8_laysMatch 54 rfl) rfl rfl ?_
      exact tq_zret rfl (by rcases hA with q | q <;> rw [q.1] <;> rfl) (dget dX8_laysMatch 55 rfl) ⟨_, rfl, by rw [g_18] at hA; exact hA, by rw [g_18]; rfl⟩
    · have g_18 : ¬ j = 0 := fun z => c_18 (by rw [z]; decide)
      obtain ⟨j0, rfl⟩ : ∃ i, j = i + 1 := ⟨j - 1, by omega⟩
      refine tq_sub [0, 1, 2, 3, 4] (ls' := [(4, .int (nI j0)), (2, .int (nI (R / (M + 1) ^ (S - (j0 + 1))))), (3, .int is), (0, .ref 42), (1, .int (nI R))]) (by rw [nI_pred]; rfl) ?_
      have hdg : digN R (M + 1) (S - (j0 + 1)) ≤ M := Nat.le_of_lt_succ (Nat.mod_lt _ (by omega))
      refine tq_iload_n 1 (dget dX8_laysMatch 13 rfl) rfl rfl ?_
      refine tq_aload_n 3 (dget dX8_laysMatch 14 rfl) rfl rfl ?_
      refine tq_getI (dget dX8_laysMatch 15 rfl) fX8_88 rfl rfl ?_
      refine tq_eqi (y := (nI M)) v2 ?_
      refine tq_iconst (v := 1) (dget dX8_laysMatch 16 rfl) rfl ?_
      refine tq_iadd (dget dX8_laysMatch 17 rfl) ?_
      refine tq_eqi (y := (nI (M + 1))) (nI_add (M) (1)) ?_
      refine tq_irem (dget dX8_laysMatch 18 rfl) (nI_ne0 (by omega) (by omega)) ?_
      refine tq_eqi (y := (nI (digN R (M + 1) (S - (j0 + 1))))) (nI_modN (by omega) (by omega)) ?_
      refine tq_istore (ls2 := [(5, .int (nI (digN R (M + 1) (S - (j0 + 1))))), (4, .int (nI j0)), (2, .int (nI (R / (M + 1) ^ (S - (j0 + 1))))), (3, .int is), (0, .ref 42), (1, .int (nI R))]) (dget dX8_laysMatch 19 rfl) (by decide) rfl ?_
      refine tq_iload_n 2 (dget dX8_laysMatch 20 rfl) rfl rfl ?_
      refine tq_aload_n 4 (dget dX8_laysMatch 21 rfl) rfl rfl ?_
      refine tq_getI (dget dX8_laysMatch 22 rfl) fX8_88 rfl rfl ?_
      refine tq_eqi (y := (nI M)) v2 ?_
      refine tq_iconst (v := 1) (dget dX8_laysMatch 23 rfl) rfl ?_
      refine tq_iadd (dget dX8_laysMatch 24 rfl) ?_
      refine tq_eqi (y := (nI (M + 1))) (nI_add (M) (1)) ?_
      refine tq_idiv (dget dX8_laysMatch 25 rfl) (nI_ne0 (by omega) (by omega)) ?_
      refine tq_eqi (y := (nI (R / (M + 1) ^ (S - (j0 + 1)) / (M + 1)))) (nI_divN (by omega) (by omega)) ?_
      refine tq_istore_n (ls2 := [(2, .int (nI (R / (M + 1) ^ (S - (j0 + 1)) / (M + 1)))), (5, .int (nI (digN R (M + 1) (S - (j0 + 1))))), (4, .int (nI j0)), (3, .int is), (0, .ref 42), (1, .int (nI R))]) (dget dX8_laysMatch 26 rfl) rfl (by decide) rfl ?_
      refine tq_iload 1 (dget dX8_laysMatch 27 rfl) rfl ?_
      refine tq_aload_n 4 (dget dX8_laysMatch 28 rfl) rfl rfl ?_
      refine tq_getI (dget dX8_laysMatch 29 rfl) fX8_88 rfl rfl ?_
      refine tq_eqi (y := (nI M)) v2 ?_
      refine tq_icmp_ge (tgt := 87) (dget dX8_laysMatch 30 rfl) (by decide) (fun c_46 => ?_) (fun c_46 => ?_)
      · have g_46 := kle (by omega) (by omega) c_46
        refine tq_iinc (v := ((nI j0) + (-1))) (ls2 := [(4, .int ((nI j0) + (-1))), (2, .int (nI (R / (M + 1) ^ (S - (j0 + 1)) / (M + 1)))), (5, .int (nI (digN R (M + 1) (S - (j0 + 1))))), (3, .int is), (0, .ref 42), (1, .int (nI R))]) 2 (dget dX8_laysMatch 52 rfl) rfl rfl (by decide) rfl ?_
        refine tq_goto (tgt := 16) (dget dX8_laysMatch 53 rfl) (by decide) ?_
        refine tq_sub [0, 1, 3, 4, 5] (ls' := [(4, .int ((nI j0) + (-1))), (2, .int (nI (R / (M + 1) ^ (S - (j0 + 1)) / (M + 1)))), (3, .int is), (0, .ref 42), (1, .int (nI R))]) rfl ?_
        rw [show nI j0 + -1 = nI j0 - 1 from (Int32.sub_eq_add_neg _ _).symm]
        have ej : S - j0 = (S - (j0 + 1)) + 1 := by omega
        have es : S - 1 - (S - (j0 + 1)) = j0 := by omega
        rw [digN_div, ← ej]
        refine tq_mem (σ' := layF (begM σ) R S M (S - j0)) (by rw [ej, layF, if_neg (show ¬ digN R (M + 1) (S - (j0 + 1)) < M from Nat.not_lt.mpr g_46)]) ?_
        exact ih j0 is (by omega) (by omega) (hA.iff ⟨fun q k h1 h2 => if e : k = S - (j0 + 1) then absurd (e ▸ h2) (Nat.not_lt.mpr g_46) else q k (by omega) h2, fun q k h1 h2 => q k (by omega) h2⟩)
      · have g_46 := knle (by omega) (by omega) c_46
        refine tq_iload_n 3 (dget dX8_laysMatch 31 rfl) rfl rfl ?_
        refine tq_if_eq (tgt := 67) (dget dX8_laysMatch 32 rfl) (by decide) (fun c_50 => ?_) (fun c_50 => ?_)
        · refine tq_iconst (v := 0) (dget dX8_laysMatch 40 rfl) rfl ?_
          refine tq_istore_n (ls2 := [(3, .int 0), (2, .int (nI (R / (M + 1) ^ (S - (j0 + 1)) / (M + 1)))), (5, .int (nI (digN R (M + 1) (S - (j0 + 1))))), (4, .int (nI j0)), (0, .ref 42), (1, .int (nI R))]) (dget dX8_laysMatch 41 rfl) rfl (by decide) rfl ?_
          refine tq_aload_n 4 (dget dX8_laysMatch 42 rfl) rfl rfl ?_
          refine tq_getR (dget dX8_laysMatch 43 rfl) fX8_40 rfl rfl ?_
          refine tq_iload 2 (dget dX8_laysMatch 44 rfl) rfl ?_
          refine tq_iload 3 (dget dX8_laysMatch 45 rfl) rfl ?_
          refine tq_iastN (digN R (M + 1) (S - (j0 + 1))) (dget dX8_laysMatch 46 rfl) rfl (by decide) rfl (by omega) ?_
          refine tq_aload_n 4 (dget dX8_laysMatch 47 rfl) rfl rfl ?_
          refine tq_getR (dget dX8_laysMatch 48 rfl) fX8_43 rfl rfl ?_
          refine tq_iload 3 (dget dX8_laysMatch 49 rfl) rfl ?_
          refine tq_iload 2 (dget dX8_laysMatch 50 rfl) rfl ?_
          refine tq_iastN j0 (dget dX8_laysMatch 51 rfl) rfl (by decide) rfl (by omega) ?_
          refine tq_iinc (v := ((nI j0) + (-1))) (ls2 := [(4, .int ((nI j0) + (-1))), (3, .int 0), (2, .int (nI (R / (M + 1) ^ (S - (j0 + 1)) / (M + 1)))), (5, .int (nI (digN R (M + 1) (S - (j0 + 1))))), (0, .ref 42), (1, .int (nI R))]) 3 (dget dX8_laysMatch 52 rfl) rfl rfl (by decide) rfl ?_
          refine tq_goto (tgt := 16) (dget dX8_laysMatch 53 rfl) (by decide) ?_
          refine tq_sub [0, 2, 1, 4, 5] (ls' := [(4, .int ((nI j0) + (-1))), (2, .int (nI (R / (M + 1) ^ (S - (j0 + 1)) / (M + 1)))), (3, .int 0), (0, .ref 42), (1, .int (nI R))]) rfl ?_
          rw [show nI j0 + -1 = nI j0 - 1 from (Int32.sub_eq_add_neg _ _).symm]
          have ej : S - j0 = (S - (j0 + 1)) + 1 := by omega
          have es : S - 1 - (S - (j0 + 1)) = j0 := by omega
          rw [digN_div, ← ej]
          refine tq_mem (σ' := layF (begM σ) R S M (S - j0)) (by rw [ej, layF, if_pos (show digN R (M + 1) (S - (j0 + 1)) < M from g_46), es]) ?_
          exact ih j0 0 (by omega) (by omega) (BP.n (fun q => hA.f c_50 (fun k h1 h2 => q k (by omega) h2)))
        · refine tq_aload_n 4 (dget dX8_laysMatch 33 rfl) rfl rfl ?_
          refine tq_getR (dget dX8_laysMatch 34 rfl) fX8_40 rfl rfl ?_
          refine tq_iload 1 (dget dX8_laysMatch 35 rfl) rfl ?_
          refine tq_ialdN (digN R (M + 1) (S - (j0 + 1))) (dget dX8_laysMatch 36 rfl) rfl (by decide) rfl (by omega) ?_
          refine tq_if_ge (tgt := 67) (dget dX8_laysMatch 37 rfl) (by decide) (fun c_60 => ?_) (fun c_60 => ?_)
          · refine tq_iconst (v := 0) (dget dX8_laysMatch 40 rfl) rfl ?_
            refine tq_istore_n (ls2 := [(3, .int 0), (2, .int (nI (R / (M + 1) ^ (S - (j0 + 1)) / (M + 1)))), (5, .int (nI (digN R (M + 1) (S - (j0 + 1))))), (4, .int (nI j0)), (0, .ref 42), (1, .int (nI R))]) (dget dX8_laysMatch 41 rfl) rfl (by decide) rfl ?_
            refine tq_aload_n 4 (dget dX8_laysMatch 42 rfl) rfl rfl ?_
            refine tq_getR (dget dX8_laysMatch 43 rfl) fX8_40 rfl rfl ?_
            refine tq_iload 2 (dget dX8_laysMatch 44 rfl) rfl ?_
            refine tq_iload 3 (dget dX8_laysMatch 45 rfl) rfl ?_
            refine tq_iastN (digN R (M + 1) (S - (j0 + 1))) (dget dX8_laysMatch 46 rfl) rfl (by decide) rfl (by omega) ?_
            refine tq_aload_n 4 (dget dX8_laysMatch 47 rfl) rfl rfl ?_
            refine tq_getR (dget dX8_laysMatch 48 rfl) fX8_43 rfl rfl ?_
            refine tq_iload 3 (dget dX8_laysMatch 49 rfl) rfl ?_
            refine tq_iload 2 (dget dX8_laysMatch 50 rfl) rfl ?_
            refine tq_iastN j0 (dget dX8_laysMatch 51 rfl) rfl (by decide) rfl (by omega) ?_
            refine tq_iinc (v := ((nI j0) + (-1))) (ls2 := [(4, .int ((nI j0) + (-1))), (3, .int 0), (2, .int (nI (R / (M + 1) ^ (S - (j0 + 1)) / (M + 1)))), (5, .int (nI (digN R (M + 1) (S - (j0 + 1))))), (0, .ref 42), (1, .int (nI R))]) 3 (dget dX8_laysMatch 52 rfl) rfl rfl (by decide) rfl ?_
            refine tq_goto (tgt := 16) (dget dX8_laysMatch 53 rfl) (by decide) ?_
            refine tq_sub [0, 2, 1, 4, 5] (ls' := [(4, .int ((nI j0) + (-1))), (2, .int (nI (R / (M + 1) ^ (S - (j0 + 1)) / (M + 1)))), (3, .int 0), (0, .ref 42), (1, .int (nI R))]) rfl ?_
            rw [show nI j0 + -1 = nI j0 - 1 from (Int32.sub_eq_add_neg _ _).symm]
            have ej : S - j0 = (S - (j0 + 1)) + 1 := by omega
            have es : S - 1 - (S - (j0 + 1)) = j0 := by omega
            rw [digN_div, ← ej]
            refine tq_mem (σ' := layF (begM σ) R S M (S - j0)) (by rw [ej, layF, if_pos (show digN R (M + 1) (S - (j0 + 1)) < M from g_46), es]) ?_
            exact ih j0 0 (by omega) (by omega) (BP.n (fun q => absurd (q (S - (j0 + 1)) (by omega) g_46) (Int32.not_lt.mpr c_60)))
          · refine tq_iconst (v := 1) (dget dX8_laysMatch 38 rfl) rfl ?_
            refine tq_goto (tgt := 68) (dget dX8_laysMatch 39 rfl) (by decide) ?_
            refine tq_istore_n (ls2 := [(3, .int 1), (2, .int (nI (R / (M + 1) ^ (S - (j0 + 1)) / (M + 1)))), (5, .int (nI (digN R (M + 1) (S - (j0 + 1))))), (4, .int (nI j0)), (0, .ref 42), (1, .int (nI R))]) (dget dX8_laysMatch 41 rfl) rfl (by decide) rfl ?_
            refine tq_aload_n 4 (dget dX8_laysMatch 42 rfl) rfl rfl ?_
            refine tq_getR (dget dX8_laysMatch 43 rfl) fX8_40 rfl rfl ?_
            refine tq_iload 2 (dget dX8_laysMatch 44 rfl) rfl ?_
            refine tq_iload 3 (dget dX8_laysMatch 45 rfl) rfl ?_
            refine tq_iastN (digN R (M + 1) (S - (j0 + 1))) (dget dX8_laysMatch 46 rfl) rfl (by decide) rfl (by omega) ?_
            refine tq_aload_n 4 (dget dX8_laysMatch 47 rfl) rfl rfl ?_
            refine tq_getR (dget dX8_laysMatch 48 rfl) fX8_43 rfl rfl ?_
            refine tq_iload 3 (dget dX8_laysMatch 49 rfl) rfl ?_
            refine tq_iload 2 (dget dX8_laysMatch 50 rfl) rfl ?_
            refine tq_iastN j0 (dget dX8_laysMatch 51 rfl) rfl (by decide) rfl (by omega) ?_
            refine tq_iinc (v := ((nI j0) + (-1))) (ls2 := [(4, .int ((nI j0) + (-1))), (3, .int 1), (2, .int (nI (R / (M + 1) ^ (S - (j0 + 1)) / (M + 1)))), (5, .int (nI (digN R (M + 1) (S - (j0 + 1))))), (0, .ref 42), (1, .int (nI R))]) 3 (dget dX8_laysMatch 52 rfl) rfl rfl (by decide) rfl ?_
            refine tq_goto (tgt := 16) (dget dX8_laysMatch 53 rfl) (by decide) ?_
            refine tq_sub [0, 2, 1, 4, 5] (ls' := [(4, .int ((nI j0) + (-1))), (2, .int (nI (R / (M + 1) ^ (S - (j0 + 1)) / (M + 1)))), (3, .int 1), (0, .ref 42), (1, .int (nI R))]) rfl ?_
            rw [show nI j0 + -1 = nI j0 - 1 from (Int32.sub_eq_add_neg _ _).symm]
            have ej : S - j0 = (S - (j0 + 1)) + 1 := by omega
            have es : S - 1 - (S - (j0 + 1)) = j0 := by omega
            rw [digN_div, ← ej]
            refine tq_mem (σ' := layF (begM σ) R S M (S - j0)) (by rw [ej, layF, if_pos (show digN R (M + 1) (S - (j0 + 1)) < M from g_46), es]) ?_
            exact ih j0 1 (by omega) (by omega) (BP.y (fun k h1 h2 => if e : k = S - (j0 + 1) then e ▸ (Int32.not_le.mp c_60) else hA.t c_50 k (by omega) h2))
set_option maxHeartbeats 4000000 in
set_option maxRecDepth 20000 in
theorem k_lays (σ : Mem) (S M R : Nat) (hV : VM σ S M) (hR : R < 2 ^ 31) (d : Nat) (hd : 1 ≤ d) : PMet d mX8_laysMatch [.ref 42, .int (nI R)] σ (Pi (fun v σ2 => BP (layOK (begM σ) R S M S) v ∧ σ2 = layF (begM σ) R S M S)) := by
  obtain ⟨d, rfl⟩ : ∃ e, d = e + 1 := ⟨d - 1, by omega⟩
  refine PMet.start (ls0 := [(0, .ref 42), (1, .int (nI R))]) miX8_laysMatch.1 (Nat.le_of_ble_eq_true rfl) rfl ?_
  have v1 := (VM_SC hV (SC.beg σ)).1
  refine tq_aload_n 0 (dget dX8_laysMatch 0 rfl) rfl rfl ?_
  refine mq_Vv (As := []) (rest := []) (dget dX8_laysMatch 1 rfl) lX8_169 miX8_begin (k_begin σ d (by omega)) rfl rfl rfl rfl (Nat.le_of_ble_eq_true rfl) (Nat.le_of_ble_eq_true rfl) (fun σ_1 h_1 => ?_)
  obtain rfl := Eq.symm h_1
  refine tq_iload_n 1 (dget dX8_laysMatch 2 rfl) rfl rfl ?_
  refine tq_istore_n (ls2 := [(2, .int (nI R)), (0, .ref 42), (1, .int (nI R))]) (dget dX8_laysMatch 3 rfl) rfl (by decide) rfl ?_
  refine tq_iconst (v := 1) (dget dX8_laysMatch 4 rfl) rfl ?_
  refine tq_istore_n (ls2 := [(3, .int 1), (2, .int (nI R)), (0, .ref 42), (1, .int (nI R))]) (dget dX8_laysMatch 5 rfl) rfl (by decide) rfl ?_
  refine tq_aload_n 2 (dget dX8_laysMatch 6 rfl) rfl rfl ?_
  refine tq_getI (dget dX8_laysMatch 7 rfl) fX8_81 rfl rfl ?_
  refine tq_eqi (y := (nI S)) v1 ?_
  refine tq_iconst (v := 1) (dget dX8_laysMatch 8 rfl) rfl ?_
  refine tq_isub (dget dX8_laysMatch 9 rfl) ?_
  refine tq_istore (ls2 := [(4, .int ((nI S) - 1)), (3, .int 1), (2, .int (nI R)), (0, .ref 42), (1, .int (nI R))]) (dget dX8_laysMatch 10 rfl) (by decide) rfl ?_
  refine tq_sub [0, 2, 1, 3, 4] (ls' := [(4, .int ((nI S) - 1)), (2, .int (nI R)), (3, .int 1), (0, .ref 42), (1, .int (nI R))]) rfl ?_
  rw [show nI R = nI (R / (M + 1) ^ (S - S)) by rw [Nat.sub_self, Nat.pow_zero, Nat.div_one]]
  refine tq_mem (σ' := layF (begM σ) R S M (S - S)) (by rw [Nat.sub_self]; rfl) ?_
  have hX := k_lays_loop σ S M R hV hR (d + 1) (by omega) (S + 1) S 1 (by omega) (Nat.le_refl _) (BP.y (fun k hk => absurd hk (by omega)))
  rw [show R / (M + 1) ^ (S - S) = R by rw [Nat.sub_self, Nat.pow_zero, Nat.div_one]] at hX ⊢
  exact hX
set_option maxHeartbeats 4000000 in
set_option maxRecDepth 20000 in
theorem k_power_loop (σ : Mem) (S M B : Nat) (hV : VM σ S M) (hB : B ≤ 5) (d : Nat) (hd : 0 ≤ d) : ∀ (n : Nat) (k : Nat) (hm : S < k + n) (hk : k ≤ S), PAt (EM d (Pi (fun v σ2 => v = nI (B ^ S) ∧ σ2 = σ))) mX8_power 4 [(3, .int (nI k)), (2, .int (nI (B ^ k))), (0, .ref 42), (1, .int (nI B))] [] σ := by
  intro n
  induction n with
  | zero => intro k hm hk; exact absurd hm (by omega)
  | succ n ih =>
    intro k hm hk
    obtain ⟨v1, v2, v3, v4⟩ := id hV
    refine tq_iload_n 0 (dget dX8_power 4 rfl) rfl rfl ?_
    refine tq_aload_n 2 (dget dX8_power 5 rfl) rfl rfl ?_
    refine tq_getI (dget dX8_power 6 rfl) fX8_81 rfl rfl ?_
    refine tq_icmp_ge (tgt := 22) (dget dX8_power 7 rfl) (by decide) (fun c_9 => ?_) (fun c_9 => ?_)
    · rw [v1] at c_9
      have g_9 := kle (by omega) (by omega) c_9
      refine tq_iload_n 1 (dget dX8_power 14 rfl) rfl rfl ?_
      exact tq_iret rfl (dget dX8_power 15 rfl) ⟨_, rfl, by rw [show k = S by omega], rfl⟩
    · rw [v1] at c_9
      have g_9 := knle (by omega) (by omega) c_9
      refine tq_iload_n 1 (dget dX8_power 8 rfl) rfl rfl ?_
      refine tq_iload_n 3 (dget dX8_power 9 rfl) rfl rfl ?_
      refine tq_imul (dget dX8_power 10 rfl) ?_
      refine tq_eqi (y := (nI (B ^ k * B))) (nI_mulN _ _) ?_
      refine tq_istore_n (ls2 := [(2, .int (nI (B ^ k * B))), (3, .int (nI k)), (0, .ref 42), (1, .int (nI B))]) (dget dX8_power 11 rfl) rfl (by decide) rfl ?_
      refine tq_iinc (v := (nI (k + 1))) (ls2 := [(3, .int (nI (k + 1))), (2, .int (nI (B ^ k * B))), (0, .ref 42), (1, .int (nI B))]) 1 (dget dX8_power 12 rfl) rfl (nI_1 k) (by decide) rfl ?_
      refine tq_goto (tgt := 4) (dget dX8_power 13 rfl) (by decide) ?_
      refine tq_sub [0, 1, 2, 3] (ls' := [(3, .int (nI (k + 1))), (2, .int (nI (B ^ k * B))), (0, .ref 42), (1, .int (nI B))]) rfl ?_
      rw [← Nat.pow_succ]
      exact ih (k + 1) (by omega) (by omega)
set_option maxHeartbeats 4000000 in
set_option maxRecDepth 20000 in
theorem k_power (σ : Mem) (S M B : Nat) (hV : VM σ S M) (hB : B ≤ 5) (d : Nat) (hd : 0 ≤ d) : PMet d mX8_power [.ref 42, .int (nI B)] σ (Pi (fun v σ2 => v = nI (B ^ S) ∧ σ2 = σ)) := by
  refine PMet.start (ls0 := [(0, .ref 42), (1, .int (nI B))]) miX8_power.1 (Nat.le_of_ble_eq_true rfl) rfl ?_
  refine tq_iconst (v := 1) (dget dX8_power 0 rfl) rfl ?_
  refine tq_istore_n (ls2 := [(2, .int 1), (0, .ref 42), (1, .int (nI B))]) (dget dX8_power 1 rfl) rfl (by decide) rfl ?_
  refine tq_iconst (v := 0) (dget dX8_power 2 rfl) rfl ?_
  refine tq_istore_n (ls2 := [(3, .int 0), (2, .int 1), (0, .ref 42), (1, .int (nI B))]) (dget dX8_power 3 rfl) rfl (by decide) rfl ?_
  refine tq_sub [0, 1, 2, 3] (ls' := [(3, .int 0), (2, .int 1), (0, .ref 42), (1, .int (nI B))]) rfl ?_
  rw [show (1 : Int32) = nI (B ^ 0) from rfl, show (0 : Int32) = nI 0 from rfl]
  exact k_power_loop σ S M B hV hB d (by omega) (S + 1) 0 (by omega) (by omega)
end
section
/-! ===== the reference (5): firm, brought ===== -/
theorem fsV_some (σ : Mem) (S M : Nat) (y : Int32) (R : Nat) : fsV σ S M y (some R) = figM (layF (begM σ) R S M S 54 (cl y)) := rfl
theorem goodM_y {σ : Mem} {S M R : Nat} (h1 : layOK (begM σ) R S M S) (h2 : frmP (layF (begM σ) R S M S) S M) : goodM σ S M R := ⟨h1, h2⟩
theorem cntG_y {P : Nat → Prop} {k : Nat} (h : P k) : cntG P (k + 1) = cntG P k + 1 := by
  show cntG P k + cnd (P k) 1 0 = _
  rw [cnd_t h]
theorem cntG_n {P : Nat → Prop} {k : Nat} (h : ¬ P k) : cntG P (k + 1) = cntG P k := by
  show cntG P k + cnd (P k) 1 0 = _
  rw [cnd_f h, Nat.add_zero]
theorem cntG_0 {P : Nat → Prop} : ∀ k, (∀ r, r < k → ¬ P r) → cntG P k = 0
  | 0, _ => rfl
  | k + 1, h => by rw [cntG_n (h k (by omega))]; exact cntG_0 k (fun r hr => h r (by omega))
theorem fstG_y {P : Nat → Prop} {k K : Nat} (h : ∀ r, r < k → ¬ P r) (hk : P k) (hK : k < K) : fstG P K = some k := by
  have h1 : fstG P (k + 1) = some k := by
    unfold fstG
    rw [fstG_none k h]
    exact cnd_t hk _ _
  have h2 := fstG_stay h1 (K - (k + 1))
  rw [show k + 1 + (K - (k + 1)) = K by omega] at h2
  exact h2
noncomputable def frmV (σ : Mem) (S M : Nat) (y : Int32) : Int32 := cnd (y = -1) (nI (cntG (goodM σ S M) ((M + 1) ^ S))) (fsV σ S M y (fstG (goodM σ S M) ((M + 1) ^ S)))

set_option maxHeartbeats 4000000 in
set_option maxRecDepth 20000 in
theorem k_firm_loop (σ : Mem) (S M : Nat) (hV : VM σ S M) (y : Int32) (hy : y = -1 ∨ ∃ s, s < 6 ∧ y = nI s) (d : Nat) (hd : 2 ≤ d) : ∀ (n : Nat) (k : Nat) (τ : Mem) (hm : (M + 1) ^ S < k + n) (hk : k ≤ (M + 1) ^ S) (hT : SC σ τ) (hI : ¬ y = -1 → ∀ r, r < k → ¬ goodM σ S M r), PAt (EM d (Pi (fun v σ2 => v = frmV σ S M y ∧ SC σ σ2))) mX8_firm 29 [(3, .int (nI k)), (2, .int (nI (cntG (goodM σ S M) k))), (0, .ref 42), (1, .int y)] [] τ := by
  obtain ⟨d, rfl⟩ : ∃ e, d = e + 1 := ⟨d - 1, by omega⟩
  intro n
  induction n with
  | zero => intro k τ hm hk hT hI; exact absurd hm (by omega)
  | succ n ih =>
    intro k τ hm hk hT hI
    obtain ⟨v1, v2, v3, v4⟩ := id (VM_SC hV hT)
    have hp := pow5 (a := M + 1) (S := S) (by omega) v3
    have hcl := cntG_le (goodM σ S M) k
    refine tq_iload_n 0 (dget dX8_firm 18 rfl) rfl rfl ?_
    refine tq_aload_n 2 (dget dX8_firm 19 rfl) rfl rfl ?_
    refine tq_aload_n 2 (dget dX8_firm 20 rfl) rfl rfl ?_
    refine tq_getI (dget dX8_firm 21 rfl) fX8_88 rfl rfl ?_
    refine tq_eqi (y := (nI M)) v2 ?_
    refine tq_iconst (v := 1) (dget dX8_firm 22 rfl) rfl ?_
    refine tq_iadd (dget dX8_firm 23 rfl) ?_
    refine tq_eqi (y := (nI (M + 1))) (nI_add (M) (1)) ?_
    refine mq_Vi (As := [.int (nI (M + 1))]) (rest := [.int (nI k)]) (dget dX8_firm 24 rfl) lX8_194 miX8_power (k_power τ S M (M + 1) (VM_SC hV hT) (by omega) d (by omega)) rfl rfl rfl rfl (Nat.le_of_ble_eq_true rfl) (Nat.le_of_ble_eq_true rfl) (fun r_37 σ_37 h_37 => ?_)
    obtain ⟨a_37, e_37⟩ := h_37
    obtain rfl := a_37.symm
    obtain rfl := e_37.symm
    refine tq_icmp_ge (tgt := 96) (dget dX8_firm 25 rfl) (by decide) (fun c_40 => ?_) (fun c_40 => ?_)
    · have g_40 := kle (by omega) (by omega) c_40
      have g_41 : k = (M + 1) ^ S := by omega
      refine tq_iload_n 1 (dget dX8_firm 52 rfl) rfl rfl ?_
      exact tq_iret rfl (dget dX8_firm 53 rfl) (by refine ⟨_, rfl, ?_, hT⟩; unfold frmV; by_cases q : y = -1; rw [cnd_t q, g_41]; rw [cnd_f q, fstG_none _ (fun r hr => hI q r (by omega)), cntG_0 k (hI q)]; rfl)
    · have g_40 := knle (by omega) (by omega) c_40
      refine tq_aload_n 2 (dget dX8_firm 26 rfl) rfl rfl ?_
      refine tq_iload_n 0 (dget dX8_firm 27 rfl) rfl rfl ?_
      refine mq_Vi (As := [.int (nI k)]) (rest := []) (dget dX8_firm 28 rfl) lX8_197 miX8_laysMatch (k_lays τ S M k (VM_SC hV hT) (by omega) d (by omega)) rfl rfl rfl rfl (Nat.le_of_ble_eq_true rfl) (Nat.le_of_ble_eq_true rfl) (fun r_45 σ_45 h_45 => ?_)
      obtain ⟨b_45, e_45⟩ := h_45
      rw [beg_SC hT] at b_45 e_45
      obtain rfl := e_45.symm
      have hT2 := layF_ok (R := k) v3 v4 (SC.beg σ) (wfM_beg σ) S (Nat.le_refl _)
      have hT3 := hT2.1
      refine tq_if_eq (tgt := 90) (dget dX8_firm 29 rfl) (by decide) (fun c_48 => ?_) (fun c_48 => ?_)
      · refine tq_iinc (v := (nI (k + 1))) (ls2 := [(3, .int (nI (k + 1))), (2, .int (nI (cntG (goodM σ S M) k))), (0, .ref 42), (1, .int y)]) 0 (dget dX8_firm 50 rfl) rfl (nI_1 k) (by decide) rfl ?_
        refine tq_goto (tgt := 29) (dget dX8_firm 51 rfl) (by decide) ?_
        refine tq_sub [0, 1, 2, 3] (ls' := [(3, .int (nI (k + 1))), (2, .int (nI (cntG (goodM σ S M) k))), (0, .ref 42), (1, .int y)]) rfl ?_
        have hng : ¬ goodM σ S M k := fun q => b_45.f c_48 q.1
        rw [show cntG (goodM σ S M) k = cntG (goodM σ S M) (k + 1) from (cntG_n hng).symm]
        exact ih (k + 1) _ (by omega) (by omega) hT3 (fun hq r hr => if e : r = k then e ▸ hng else hI hq r (by omega))
      · refine tq_aload_n 2 (dget dX8_firm 30 rfl) rfl rfl ?_
        refine mq_Vi (As := []) (rest := []) (dget dX8_firm 31 rfl) lX8_200 miX8_isFirm (k_isFirm (layF (begM σ) k S M S) S M (VM_SC hV hT3) hT2.2 d (by omega)) rfl rfl rfl rfl (Nat.le_of_ble_eq_true rfl) (Nat.le_of_ble_eq_true rfl) (fun r_52 σ_52 h_52 => ?_)
        obtain ⟨b_52, e_52⟩ := h_52
        obtain rfl := e_52.symm
        refine tq_if_eq (tgt := 90) (dget dX8_firm 32 rfl) (by decide) (fun c_55 => ?_) (fun c_55 => ?_)
        · refine tq_iinc (v := (nI (k + 1))) (ls2 := [(3, .int (nI (k + 1))), (2, .int (nI (cntG (goodM σ S M) k))), (0, .ref 42), (1, .int y)]) 0 (dget dX8_firm 50 rfl) rfl (nI_1 k) (by decide) rfl ?_
          refine tq_goto (tgt := 29) (dget dX8_firm 51 rfl) (by decide) ?_
          refine tq_sub [0, 1, 2, 3] (ls' := [(3, .int (nI (k + 1))), (2, .int (nI (cntG (goodM σ S M) k))), (0, .ref 42), (1, .int y)]) rfl ?_
          have hng : ¬ goodM σ S M k := fun q => b_52.f c_55 q.2
          rw [show cntG (goodM σ S M) k = cntG (goodM σ S M) (k + 1) from (cntG_n hng).symm]
          exact ih (k + 1) _ (by omega) (by omega) hT3 (fun hq r hr => if e : r = k then e ▸ hng else hI hq r (by omega))
        · refine tq_iload_n 1 (dget dX8_firm 33 rfl) rfl rfl ?_
          refine tq_if_ne (tgt := 87) (dget dX8_firm 34 rfl) (by decide) (fun c_59 => ?_) (fun c_59 => ?_)
          · refine tq_iinc (v := (nI (cntG (goodM σ S M) k + 1))) (ls2 := [(2, .int (nI (cntG (goodM σ S M) k + 1))), (3, .int (nI k)), (0, .ref 42), (1, .int y)]) 1 (dget dX8_firm 49 rfl) rfl (nI_1 _) (by decide) rfl ?_
            refine tq_iinc (v := (nI (k + 1))) (ls2 := [(3, .int (nI (k + 1))), (2, .int (nI (cntG (goodM σ S M) k + 1))), (0, .ref 42), (1, .int y)]) 1 (dget dX8_firm 50 rfl) rfl (nI_1 k) (by decide) rfl ?_
            refine tq_goto (tgt := 29) (dget dX8_firm 51 rfl) (by decide) ?_
            refine tq_sub [0, 1, 2, 3] (ls' := [(3, .int (nI (k + 1))), (2, .int (nI (cntG (goodM σ S M) k + 1))), (0, .ref 42), (1, .int y)]) rfl ?_
            have hg : goodM σ S M k := goodM_y (b_45.t c_48) (b_52.t c_55)
            have hy1 : y = -1 := by
              rcases hy with q | ⟨s, hs, q⟩
              · exact q
              · exact absurd (by rw [cntG_0 k (hI (by rw [q]; exact nI_nm1 (by omega)))]; rfl) c_59
            rw [show cntG (goodM σ S M) k + 1 = cntG (goodM σ S M) (k + 1) from (cntG_y hg).symm]
            exact ih (k + 1) _ (by omega) (by omega) hT3 (fun hq => absurd hy1 hq)
          · refine tq_iload_n 3 (dget dX8_firm 35 rfl) rfl rfl ?_
            refine tq_if_lt (tgt := 87) (dget dX8_firm 36 rfl) (by decide) (fun c_63 => ?_) (fun c_63 => ?_)
            · refine tq_iinc (v := (nI (cntG (goodM σ S M) k + 1))) (ls2 := [(2, .int (nI (cntG (goodM σ S M) k + 1))), (3, .int (nI k)), (0, .ref 42), (1, .int y)]) 1 (dget dX8_firm 49 rfl) rfl (nI_1 _) (by decide) rfl ?_
              refine tq_iinc (v := (nI (k + 1))) (ls2 := [(3, .int (nI (k + 1))), (2, .int (nI (cntG (goodM σ S M) k + 1))), (0, .ref 42), (1, .int y)]) 1 (dget dX8_firm 50 rfl) rfl (nI_1 k) (by decide) rfl ?_
              refine tq_goto (tgt := 29) (dget dX8_firm 51 rfl) (by decide) ?_
              refine tq_sub [0, 1, 2, 3] (ls' := [(3, .int (nI (k + 1))), (2, .int (nI (cntG (goodM σ S M) k + 1))), (0, .ref 42), (1, .int y)]) rfl ?_
              have hg : goodM σ S M k := goodM_y (b_45.t c_48) (b_52.t c_55)
              have hy1 : y = -1 := by
                rcases hy with q | ⟨s, hs, q⟩
                · exact q
                · rw [q] at c_63; exact absurd c_63 (nI_pos (by omega))
              rw [show cntG (goodM σ S M) k + 1 = cntG (goodM σ S M) (k + 1) from (cntG_y hg).symm]
              exact ih (k + 1) _ (by omega) (by omega) hT3 (fun hq => absurd hy1 hq)
            · obtain ⟨s, hs6, e_s⟩ : ∃ s, s < 6 ∧ y = nI s := by
                rcases hy with q | q
                · exact absurd (by rw [q]; decide) c_63
                · exact q
              subst e_s
              refine tq_aload_n 2 (dget dX8_firm 37 rfl) rfl rfl ?_
              refine tq_getR (dget dX8_firm 38 rfl) fX8_43 rfl rfl ?_
              refine tq_iload_n 3 (dget dX8_firm 39 rfl) rfl rfl ?_
              refine tq_ialdN s (dget dX8_firm 40 rfl) rfl (by decide) rfl (by omega) ?_
              refine tq_if_ge (tgt := 80) (dget dX8_firm 41 rfl) (by decide) (fun c_72 => ?_) (fun c_72 => ?_)
              · refine tq_aload_n 2 (dget dX8_firm 44 rfl) rfl rfl ?_
                refine tq_getR (dget dX8_firm 45 rfl) fX8_43 rfl rfl ?_
                refine tq_iload_n 3 (dget dX8_firm 46 rfl) rfl rfl ?_
                refine tq_ialdN s (dget dX8_firm 47 rfl) rfl (by decide) rfl (by omega) ?_
                exact tq_iret rfl (dget dX8_firm 48 rfl) (by refine ⟨_, rfl, ?_, hT3⟩; have hq : ¬ nI s = -1 := nI_nm1 (by omega); unfold frmV; rw [cnd_f hq, fstG_y (hI hq) (goodM_y (b_45.t c_48) (b_52.t c_55)) g_40, fsV_some, show cl (nI s) = s from nI_clamp (by omega)]; unfold figM; rw [if_neg (Int32.not_lt.mpr c_72)])
              · refine tq_bipush (v := 9) (dget dX8_firm 42 rfl) rfl ?_
                refine tq_goto (tgt := 86) (dget dX8_firm 43 rfl) (by decide) ?_
                exact tq_iret rfl (dget dX8_firm 48 rfl) (by refine ⟨_, rfl, ?_, hT3⟩; have hq : ¬ nI s = -1 := nI_nm1 (by omega); unfold frmV; rw [cnd_f hq, fstG_y (hI hq) (goodM_y (b_45.t c_48) (b_52.t c_55)) g_40, fsV_some, show cl (nI s) = s from nI_clamp (by omega)]; unfold figM; rw [if_pos (Int32.not_le.mp c_72)])
set_option maxHeartbeats 4000000 in
set_option maxRecDepth 20000 in
theorem k_firm (σ : Mem) (S M : Nat) (hV : VM σ S M) (y : Int32) (d : Nat) (hd : 2 ≤ d) : PMet d mX8_firm [.ref 42, .int y] σ (Pi (fun v σ2 => v = cnd (y = -1 ∨ hSm σ y) (cnd (σ 42 2 = 0) (-3) (frmV σ S M y)) (-1) ∧ SC σ σ2)) := by
  obtain ⟨d, rfl⟩ : ∃ e, d = e + 1 := ⟨d - 1, by omega⟩
  refine PMet.start (ls0 := [(0, .ref 42), (1, .int y)]) miX8_firm.1 (Nat.le_of_ble_eq_true rfl) rfl ?_
  refine tq_iload_n 1 (dget dX8_firm 0 rfl) rfl rfl ?_
  refine tq_iconst (v := (-1)) (dget dX8_firm 1 rfl) rfl ?_
  refine tq_icmp_eq (tgt := 15) (dget dX8_firm 2 rfl) (by decide) (fun c_2 => ?_) (fun c_2 => ?_)
  · refine tq_aload_n 0 (dget dX8_firm 9 rfl) rfl rfl ?_
    refine tq_getI (dget dX8_firm 10 rfl) fX8_88 rfl rfl ?_
    refine tq_if_ne (tgt := 25) (dget dX8_firm 11 rfl) (by decide) (fun c_19 => ?_) (fun c_19 => ?_)
    · refine tq_iconst (v := 0) (dget dX8_firm 14 rfl) rfl ?_
      refine tq_istore_n (ls2 := [(2, .int 0), (0, .ref 42), (1, .int y)]) (dget dX8_firm 15 rfl) rfl (by decide) rfl ?_
      refine tq_iconst (v := 0) (dget dX8_firm 16 rfl) rfl ?_
      refine tq_istore_n (ls2 := [(3, .int 0), (2, .int 0), (0, .ref 42), (1, .int y)]) (dget dX8_firm 17 rfl) rfl (by decide) rfl ?_
      refine tq_sub [0, 1, 2, 3] (ls' := [(3, .int 0), (2, .int 0), (0, .ref 42), (1, .int y)]) rfl ?_
      simp only [cnd_t (P := y = -1 ∨ hSm σ y) (Or.inl c_2), cnd_f (P := σ 42 2 = 0) c_19]
      exact k_firm_loop σ S M hV y (Or.inl c_2) (d + 1) (by omega) ((M + 1) ^ S + 1) 0 σ (by omega) (Nat.zero_le _) (SC.rf σ) (fun _ r hr => absurd hr (by omega))
    · refine tq_bipush (v := (-3)) (dget dX8_firm 12 rfl) rfl ?_
      exact tq_iret rfl (dget dX8_firm 13 rfl) ⟨_, rfl, by simp only [cnd_t (P := y = -1 ∨ hSm σ y) (Or.inl c_2), cnd_t (P := σ 42 2 = 0) c_19], SC.rf σ⟩
  · refine tq_aload_n 0 (dget dX8_firm 3 rfl) rfl rfl ?_
    refine tq_iload_n 1 (dget dX8_firm 4 rfl) rfl rfl ?_
    refine mq_Vi (As := [.int y]) (rest := []) (dget dX8_firm 5 rfl) lX8_155 miX8_noSuitor (k_noSuitor σ S M hV y d (by omega)) rfl rfl rfl rfl (Nat.le_of_ble_eq_true rfl) (Nat.le_of_ble_eq_true rfl) (fun r_7 σ_7 h_7 => ?_)
    obtain ⟨b_7, e_7⟩ := h_7
    obtain rfl := e_7.symm
    refine tq_if_eq (tgt := 15) (dget dX8_firm 6 rfl) (by decide) (fun c_10 => ?_) (fun c_10 => ?_)
    · refine tq_aload_n 0 (dget dX8_firm 9 rfl) rfl rfl ?_
      refine tq_getI (dget dX8_firm 10 rfl) fX8_88 rfl rfl ?_
      refine tq_if_ne (tgt := 25) (dget dX8_firm 11 rfl) (by decide) (fun c_19 => ?_) (fun c_19 => ?_)
      · refine tq_iconst (v := 0) (dget dX8_firm 14 rfl) rfl ?_
        refine tq_istore_n (ls2 := [(2, .int 0), (0, .ref 42), (1, .int y)]) (dget dX8_firm 15 rfl) rfl (by decide) rfl ?_
        refine tq_iconst (v := 0) (dget dX8_firm 16 rfl) rfl ?_
        refine tq_istore_n (ls2 := [(3, .int 0), (2, .int 0), (0, .ref 42), (1, .int y)]) (dget dX8_firm 17 rfl) rfl (by decide) rfl ?_
        refine tq_sub [0, 1, 2, 3] (ls' := [(3, .int 0), (2, .int 0), (0, .ref 42), (1, .int y)]) rfl ?_
        simp only [cnd_t (P := y = -1 ∨ hSm σ y) (Or.inr (Classical.not_not.mp (b_7.f c_10))), cnd_f (P := σ 42 2 = 0) c_19]
        exact k_firm_loop σ S M hV y (Or.inr (by obtain ⟨s, e, _, h6⟩ := hSm_n hV (Classical.not_not.mp (b_7.f c_10)); exact ⟨s, h6, e⟩)) (d + 1) (by omega) ((M + 1) ^ S + 1) 0 σ (by omega) (Nat.zero_le _) (SC.rf σ) (fun _ r hr => absurd hr (by omega))
      · refine tq_bipush (v := (-3)) (dget dX8_firm 12 rfl) rfl ?_
        exact tq_iret rfl (dget dX8_firm 13 rfl) ⟨_, rfl, by simp only [cnd_t (P := y = -1 ∨ hSm σ y) (Or.inr (Classical.not_not.mp (b_7.f c_10))), cnd_t (P := σ 42 2 = 0) c_19], SC.rf σ⟩
    · refine tq_iconst (v := (-1)) (dget dX8_firm 7 rfl) rfl ?_
      exact tq_iret rfl (dget dX8_firm 8 rfl) ⟨_, rfl, by simp only [cnd_f (P := y = -1 ∨ hSm σ y) (fun q => q.elim c_2 (b_7.t c_10))], SC.rf σ⟩
set_option maxHeartbeats 4000000 in
set_option maxRecDepth 20000 in
theorem k_brought_inner (σ : Mem) (S M : Nat) (hV : VM σ S M) (hM0 : 0 < M) (hkd : kOK σ M) (R c : Nat) (hR : R < 2 ^ 31) (d : Nat) (hd : 3 ≤ d) : ∀ (n : Nat) (k : Nat) (hm : S < k + n) (hk : k ≤ S) (hout : PAt (EM d (Pi (fun v σ2 => v = nI (cntG (brG σ S M) (M ^ S)) ∧ SC σ σ2))) mX8_brought 70 [(1, .int (nI c)), (2, .int (nI R)), (0, .ref 42)] [] (brF (begM σ) R M S)), PAt (EM d (Pi (fun v σ2 => v = nI (cntG (brG σ S M) (M ^ S)) ∧ SC σ σ2))) mX8_brought 35 [(4, .int (nI k)), (3, .int (nI (R / M ^ k))), (1, .int (nI c)), (2, .int (nI R)), (0, .ref 42)] [] (brF (begM σ) R M k) := by
  obtain ⟨d, rfl⟩ : ∃ e, d = e + 1 := ⟨d - 1, by omega⟩
  intro n
  induction n with
  | zero => intro k hm hk hout; exact absurd hm (by omega)
  | succ n ih =>
    intro k hm hk hout
    obtain ⟨hT, hW⟩ := brF_ok (R := R) (S := S) hV.2.2.1 hV.2.2.2 hM0 (SC.beg σ) (wfM_beg σ) k hk
    obtain ⟨v1, v2, v3, v4⟩ := id (VM_SC hV hT)
    have hdl := Nat.div_le_self R (M ^ k)
    have hdg : digN R M k < M := Nat.mod_lt _ hM0
    obtain ⟨j, hj, hk2⟩ := hkd (digN R M k) hdg
    refine tq_iload 0 (dget dX8_brought 21 rfl) rfl ?_
    refine tq_aload_n 4 (dget dX8_brought 22 rfl) rfl rfl ?_
    refine tq_getI (dget dX8_brought 23 rfl) fX8_81 rfl rfl ?_
    refine tq_icmp_ge (tgt := 70) (dget dX8_brought 24 rfl) (by decide) (fun c_41 => ?_) (fun c_41 => ?_)
    · rw [v1] at c_41
      have g_41 := kle (by omega) (by omega) c_41
      have g_42 : k = S := by omega
      refine tq_sub [2, 3, 4] (ls' := [(1, .int (nI c)), (2, .int (nI R)), (0, .ref 42)]) rfl ?_
      rw [g_42]
      exact hout
    · rw [v1] at c_41
      have g_41 := knle (by omega) (by omega) c_41
      refine tq_aload_n 4 (dget dX8_brought 25 rfl) rfl rfl ?_
      refine tq_iload 0 (dget dX8_brought 26 rfl) rfl ?_
      refine tq_iload_n 1 (dget dX8_brought 27 rfl) rfl rfl ?_
      refine tq_aload_n 4 (dget dX8_brought 28 rfl) rfl rfl ?_
      refine tq_getI (dget dX8_brought 29 rfl) fX8_88 rfl rfl ?_
      refine tq_eqi (y := (nI M)) v2 ?_
      refine tq_irem (dget dX8_brought 30 rfl) (nI_ne0 (by omega) (by omega)) ?_
      refine tq_eqi (y := (nI (digN R M k))) (nI_modN (by omega) (by omega)) ?_
      refine mq_Vi (As := [.int (nI k), .int (nI (digN R M k))]) (rest := []) (dget dX8_brought 31 rfl) lX8_172 miX8_ask (k_ask (brF (begM σ) R M k) (digN R M k) k (by omega) (by omega) j ((congrFun (hT.1 43 (by decide) (by decide) (by decide)) (digN R M k)).trans hk2) hj d (by omega)) rfl rfl rfl rfl (Nat.le_of_ble_eq_true rfl) (Nat.le_of_ble_eq_true rfl) (fun r_53 σ_53 h_53 => ?_)
      obtain ⟨a_53, e_53⟩ := h_53
      obtain rfl := a_53.symm
      obtain rfl := e_53.symm
      refine tq_pop (dget dX8_brought 32 rfl) rfl ?_
      refine tq_iload_n 1 (dget dX8_brought 33 rfl) rfl rfl ?_
      refine tq_aload_n 4 (dget dX8_brought 34 rfl) rfl rfl ?_
      refine tq_getI (dget dX8_brought 35 rfl) fX8_88 rfl rfl ?_
      refine tq_eqi (y := (nI M)) ((congrFun ((askMm_ok (s := k) (m := digN R M k) (by omega) (by omega) hT hW).1.1 42 (by decide) (by decide) (by decide)) 2).trans hV.2.1) ?_
      refine tq_idiv (dget dX8_brought 36 rfl) (nI_ne0 (by omega) (by omega)) ?_
      refine tq_eqi (y := (nI (R / M ^ k / M))) (nI_divN (by omega) (by omega)) ?_
      refine tq_istore_n (ls2 := [(3, .int (nI (R / M ^ k / M))), (4, .int (nI k)), (1, .int (nI c)), (2, .int (nI R)), (0, .ref 42)]) (dget dX8_brought 37 rfl) rfl (by decide) rfl ?_
      refine tq_iinc (v := (nI (k + 1))) (ls2 := [(4, .int (nI (k + 1))), (3, .int (nI (R / M ^ k / M))), (1, .int (nI c)), (2, .int (nI R)), (0, .ref 42)]) 1 (dget dX8_brought 38 rfl) rfl (nI_1 k) (by decide) rfl ?_
      refine tq_goto (tgt := 35) (dget dX8_brought 39 rfl) (by decide) ?_
      refine tq_sub [0, 1, 2, 3, 4] (ls' := [(4, .int (nI (k + 1))), (3, .int (nI (R / M ^ k / M))), (1, .int (nI c)), (2, .int (nI R)), (0, .ref 42)]) rfl ?_
      rw [digN_div]
      exact ih (k + 1) (by omega) (by omega) hout
set_option maxHeartbeats 4000000 in
set_option maxRecDepth 20000 in
theorem k_brought_outer (σ : Mem) (S M : Nat) (hV : VM σ S M) (hM0 : 0 < M) (hkd : kOK σ M) (d : Nat) (hd : 3 ≤ d) : ∀ (n : Nat) (k : Nat) (τ : Mem) (hm : M ^ S < k + n) (hk : k ≤ M ^ S) (hT : SC σ τ), PAt (EM d (Pi (fun v σ2 => v = nI (cntG (brG σ S M) (M ^ S)) ∧ SC σ σ2))) mX8_brought 14 [(2, .int (nI k)), (1, .int (nI (cntG (brG σ S M) k))), (0, .ref 42)] [] τ := by
  obtain ⟨d, rfl⟩ : ∃ e, d = e + 1 := ⟨d - 1, by omega⟩
  intro n
  induction n with
  | zero => intro k τ hm hk hT; exact absurd hm (by omega)
  | succ n ih =>
    intro k τ hm hk hT
    obtain ⟨v1, v2, v3, v4⟩ := id (VM_SC hV hT)
    have hp := pow5 (a := M) (S := S) (by omega) v3
    have hcl := cntG_le (brG σ S M) k
    refine tq_iload_n 0 (dget dX8_brought 9 rfl) rfl rfl ?_
    refine tq_aload_n 2 (dget dX8_brought 10 rfl) rfl rfl ?_
    refine tq_aload_n 2 (dget dX8_brought 11 rfl) rfl rfl ?_
    refine tq_getI (dget dX8_brought 12 rfl) fX8_88 rfl rfl ?_
    refine tq_eqi (y := (nI M)) v2 ?_
    refine mq_Vi (As := [.int (nI M)]) (rest := [.int (nI k)]) (dget dX8_brought 13 rfl) lX8_194 miX8_power (k_power τ S M M (VM_SC hV hT) (by omega) d (by omega)) rfl rfl rfl rfl (Nat.le_of_ble_eq_true rfl) (Nat.le_of_ble_eq_true rfl) (fun r_20 σ_20 h_20 => ?_)
    obtain ⟨a_20, e_20⟩ := h_20
    obtain rfl := a_20.symm
    obtain rfl := e_20.symm
    refine tq_icmp_ge (tgt := 91) (dget dX8_brought 14 rfl) (by decide) (fun c_23 => ?_) (fun c_23 => ?_)
    · have g_23 := kle (by omega) (by omega) c_23
      have g_24 : k = M ^ S := by omega
      refine tq_iload_n 1 (dget dX8_brought 51 rfl) rfl rfl ?_
      exact tq_iret rfl (dget dX8_brought 52 rfl) ⟨_, rfl, by rw [g_24], hT⟩
    · have g_23 := knle (by omega) (by omega) c_23
      refine tq_aload_n 2 (dget dX8_brought 15 rfl) rfl rfl ?_
      refine mq_Vv (As := []) (rest := []) (dget dX8_brought 16 rfl) lX8_169 miX8_begin (k_begin τ d (by omega)) rfl rfl rfl rfl (Nat.le_of_ble_eq_true rfl) (Nat.le_of_ble_eq_true rfl) (fun σ_27 h_27 => ?_)
      obtain rfl := Eq.symm h_27
      rw [beg_SC hT]
      refine tq_iload_n 0 (dget dX8_brought 17 rfl) rfl rfl ?_
      refine tq_istore_n (ls2 := [(3, .int (nI k)), (2, .int (nI k)), (1, .int (nI (cntG (brG σ S M) k))), (0, .ref 42)]) (dget dX8_brought 18 rfl) rfl (by decide) rfl ?_
      refine tq_iconst (v := 0) (dget dX8_brought 19 rfl) rfl ?_
      refine tq_istore (ls2 := [(4, .int 0), (3, .int (nI k)), (2, .int (nI k)), (1, .int (nI (cntG (brG σ S M) k))), (0, .ref 42)]) (dget dX8_brought 20 rfl) (by decide) rfl ?_
      have hT2 := brF_ok (R := k) (S := S) hV.2.2.1 hV.2.2.2 hM0 (SC.beg σ) (wfM_beg σ) S (Nat.le_refl _)
      have hout : PAt (EM (d + 1) (Pi (fun v σ2 => v = nI (cntG (brG σ S M) (M ^ S)) ∧ SC σ σ2))) mX8_brought 70 [(1, .int (nI (cntG (brG σ S M) k))), (2, .int (nI k)), (0, .ref 42)] [] (brF (begM σ) k M S) := by
        refine tq_iload_n 0 (dget dX8_brought 40 rfl) rfl rfl ?_
        refine tq_aload_n 2 (dget dX8_brought 41 rfl) rfl rfl ?_
        refine mq_Vi (As := []) (rest := [.int (nI (cntG (brG σ S M) k))]) (dget dX8_brought 42 rfl) lX8_200 miX8_isFirm (k_isFirm (brF (begM σ) k M S) S M (VM_SC hV hT2.1) hT2.2 d (by omega)) rfl rfl rfl rfl (Nat.le_of_ble_eq_true rfl) (Nat.le_of_ble_eq_true rfl) (fun r_72 σ_72 h_72 => ?_)
        obtain ⟨b_72, e_72⟩ := h_72
        obtain rfl := e_72.symm
        refine tq_if_eq (tgt := 82) (dget dX8_brought 43 rfl) (by decide) (fun c_75 => ?_) (fun c_75 => ?_)
        · refine tq_iconst (v := 0) (dget dX8_brought 46 rfl) rfl ?_
          refine tq_iadd (dget dX8_brought 47 rfl) ?_
          refine tq_eqi (y := (nI ((cntG (brG σ S M) k) + 0))) (nI_add ((cntG (brG σ S M) k)) (0)) ?_
          refine tq_istore_n (ls2 := [(1, .int (nI ((cntG (brG σ S M) k) + 0))), (2, .int (nI k)), (0, .ref 42)]) (dget dX8_brought 48 rfl) rfl (by decide) rfl ?_
          refine tq_iinc (v := (nI (k + 1))) (ls2 := [(2, .int (nI (k + 1))), (1, .int (nI ((cntG (brG σ S M) k) + 0))), (0, .ref 42)]) 1 (dget dX8_brought 49 rfl) rfl (nI_1 k) (by decide) rfl ?_
          refine tq_goto (tgt := 14) (dget dX8_brought 50 rfl) (by decide) ?_
          refine tq_sub [0, 1, 2] (ls' := [(2, .int (nI (k + 1))), (1, .int (nI ((cntG (brG σ S M) k) + 0))), (0, .ref 42)]) rfl ?_
          have hng : ¬ brG σ S M k := b_72.f c_75
          rw [show cntG (brG σ S M) k + 0 = cntG (brG σ S M) (k + 1) from (cntG_n hng).symm]
          exact ih (k + 1) _ (by omega) (by omega) hT2.1
        · refine tq_iconst (v := 1) (dget dX8_brought 44 rfl) rfl ?_
          refine tq_goto (tgt := 83) (dget dX8_brought 45 rfl) (by decide) ?_
          refine tq_iadd (dget dX8_brought 47 rfl) ?_
          refine tq_eqi (y := (nI ((cntG (brG σ S M) k) + 1))) (nI_add ((cntG (brG σ S M) k)) (1)) ?_
          refine tq_istore_n (ls2 := [(1, .int (nI ((cntG (brG σ S M) k) + 1))), (2, .int (nI k)), (0, .ref 42)]) (dget dX8_brought 48 rfl) rfl (by decide) rfl ?_
          refine tq_iinc (v := (nI (k + 1))) (ls2 := [(2, .int (nI (k + 1))), (1, .int (nI ((cntG (brG σ S M) k) + 1))), (0, .ref 42)]) 1 (dget dX8_brought 49 rfl) rfl (nI_1 k) (by decide) rfl ?_
          refine tq_goto (tgt := 14) (dget dX8_brought 50 rfl) (by decide) ?_
          refine tq_sub [0, 1, 2] (ls' := [(2, .int (nI (k + 1))), (1, .int (nI ((cntG (brG σ S M) k) + 1))), (0, .ref 42)]) rfl ?_
          have hg : brG σ S M k := b_72.t c_75
          rw [show cntG (brG σ S M) k + 1 = cntG (brG σ S M) (k + 1) from (cntG_y hg).symm]
          exact ih (k + 1) _ (by omega) (by omega) hT2.1
      refine tq_sub [0, 1, 3, 2, 4] (ls' := [(4, .int 0), (3, .int (nI k)), (1, .int (nI (cntG (brG σ S M) k))), (2, .int (nI k)), (0, .ref 42)]) rfl ?_
      have hX := k_brought_inner σ S M hV hM0 hkd k (cntG (brG σ S M) k) (by omega) (d + 1) (by omega) (S + 1) 0 (by omega) (by omega) hout
      rw [show k / M ^ 0 = k by rw [Nat.pow_zero, Nat.div_one]] at hX
      exact hX
set_option maxHeartbeats 4000000 in
set_option maxRecDepth 20000 in
theorem k_brought (σ : Mem) (S M : Nat) (hV : VM σ S M) (hkd : kOK σ M) (d : Nat) (hd : 3 ≤ d) : PMet d mX8_brought [.ref 42] σ (Pi (fun v σ2 => v = cnd (σ 42 2 = 0) (-3) (nI (cntG (brG σ S M) (M ^ S))) ∧ SC σ σ2)) := by
  obtain ⟨d, rfl⟩ : ∃ e, d = e + 1 := ⟨d - 1, by omega⟩
  refine PMet.start (ls0 := [(0, .ref 42)]) miX8_brought.1 (Nat.le_of_ble_eq_true rfl) rfl ?_
  refine tq_aload_n 0 (dget dX8_brought 0 rfl) rfl rfl ?_
  refine tq_getI (dget dX8_brought 1 rfl) fX8_88 rfl rfl ?_
  refine tq_if_ne (tgt := 10) (dget dX8_brought 2 rfl) (by decide) (fun c_4 => ?_) (fun c_4 => ?_)
  · have hM0 : 0 < M := by rw [hV.2.1] at c_4; exact Nat.pos_of_ne_zero (fun e => c_4 (by rw [e]; rfl))
    refine tq_iconst (v := 0) (dget dX8_brought 5 rfl) rfl ?_
    refine tq_istore_n (ls2 := [(1, .int 0), (0, .ref 42)]) (dget dX8_brought 6 rfl) rfl (by decide) rfl ?_
    refine tq_iconst (v := 0) (dget dX8_brought 7 rfl) rfl ?_
    refine tq_istore_n (ls2 := [(2, .int 0), (1, .int 0), (0, .ref 42)]) (dget dX8_brought 8 rfl) rfl (by decide) rfl ?_
    refine tq_sub [0, 1, 2] (ls' := [(2, .int 0), (1, .int 0), (0, .ref 42)]) rfl ?_
    simp only [cnd_f (P := σ 42 2 = 0) c_4]
    exact k_brought_outer σ S M hV hM0 hkd (d + 1) (by omega) (M ^ S + 1) 0 σ (by omega) (Nat.zero_le _) (SC.rf σ)
  · refine tq_bipush (v := (-3)) (dget dX8_brought 3 rfl) rfl ?_
    exact tq_iret rfl (dget dX8_brought 4 rfl) ⟨_, rfl, by simp only [cnd_t (P := σ 42 2 = 0) c_4], SC.rf σ⟩
end
