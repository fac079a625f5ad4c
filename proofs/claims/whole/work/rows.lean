section
-- ===== PART A: goes FIRST, ahead of the names: the tables' words, and 'selects' of the private methods out of them =====
/-- a private method of a class that the tables say can be made, by its rows of tables_1 -/
def lw_okq (q : MethodName × Nat) : Prop := (q.1.cls ≠ "java/lang/invoke/MethodHandle" ∧ q.1.cls ≠ "java/lang/invoke/VarHandle") ∧ Cond.instantiable q.1.cls q.2 ∈ tables_1 ∧ Cond.privateMethod q.1 ∈ tables_1 ∧ Cond.instanceMethod q.1 ∈ tables_1
theorem lw_p0 : lw_okq (⟨"WallTrumpets$Text", "readItem", "(ILWallTrumpets$Plan;)I"⟩, 3) := ⟨⟨by decide +kernel, by decide +kernel⟩, List.mem_of_getElem? (i := 26) (by decide +kernel), List.mem_of_getElem? (i := 261) (by decide +kernel), List.mem_of_getElem? (i := 262) (by decide +kernel)⟩
theorem lw_p1 : lw_okq (⟨"WallTrumpets$Text", "letterAt", "(I)C"⟩, 3) := ⟨⟨by decide +kernel, by decide +kernel⟩, List.mem_of_getElem? (i := 26) (by decide +kernel), List.mem_of_getElem? (i := 265) (by decide +kernel), List.mem_of_getElem? (i := 266) (by decide +kernel)⟩
theorem lw_p2 : lw_okq (⟨"WallTrumpets$Text", "figuresAt", "(I)I"⟩, 3) := ⟨⟨by decide +kernel, by decide +kernel⟩, List.mem_of_getElem? (i := 26) (by decide +kernel), List.mem_of_getElem? (i := 269) (by decide +kernel), List.mem_of_getElem? (i := 270) (by decide +kernel)⟩
theorem lw_p3 : lw_okq (⟨"WallTrumpets$Text", "isFigure", "(I)Z"⟩, 3) := ⟨⟨by decide +kernel, by decide +kernel⟩, List.mem_of_getElem? (i := 26) (by decide +kernel), List.mem_of_getElem? (i := 273) (by decide +kernel), List.mem_of_getElem? (i := 274) (by decide +kernel)⟩
theorem lw_p4 : lw_okq (⟨"WallTrumpets$Text", "numberAt", "(II)I"⟩, 3) := ⟨⟨by decide +kernel, by decide +kernel⟩, List.mem_of_getElem? (i := 26) (by decide +kernel), List.mem_of_getElem? (i := 277) (by decide +kernel), List.mem_of_getElem? (i := 278) (by decide +kernel)⟩
theorem lw_p5 : lw_okq (⟨"WallTrumpets$Plan", "takeWall", "(III)Z"⟩, 6) := ⟨⟨by decide +kernel, by decide +kernel⟩, List.mem_of_getElem? (i := 45) (by decide +kernel), List.mem_of_getElem? (i := 285) (by decide +kernel), List.mem_of_getElem? (i := 286) (by decide +kernel)⟩
theorem lw_p6 : lw_okq (⟨"WallTrumpets$Plan", "takeProp", "(III)Z"⟩, 6) := ⟨⟨by decide +kernel, by decide +kernel⟩, List.mem_of_getElem? (i := 45) (by decide +kernel), List.mem_of_getElem? (i := 292) (by decide +kernel), List.mem_of_getElem? (i := 293) (by decide +kernel)⟩
theorem lw_p7 : lw_okq (⟨"WallTrumpets", "isNoWall", "(I)Z"⟩, 10) := ⟨⟨by decide +kernel, by decide +kernel⟩, List.mem_of_getElem? (i := 18) (by decide +kernel), List.mem_of_getElem? (i := 356) (by decide +kernel), List.mem_of_getElem? (i := 357) (by decide +kernel)⟩
theorem lw_p8 : lw_okq (⟨"WallTrumpets", "isNoPair", "(II)Z"⟩, 10) := ⟨⟨by decide +kernel, by decide +kernel⟩, List.mem_of_getElem? (i := 18) (by decide +kernel), List.mem_of_getElem? (i := 369) (by decide +kernel), List.mem_of_getElem? (i := 370) (by decide +kernel)⟩
theorem lw_p9 : lw_okq (⟨"WallTrumpets$Town", "fallWithAll", "(III)V"⟩, 8) := ⟨⟨by decide +kernel, by decide +kernel⟩, List.mem_of_getElem? (i := 81) (by decide +kernel), List.mem_of_getElem? (i := 417) (by decide +kernel), List.mem_of_getElem? (i := 418) (by decide +kernel)⟩
theorem lw_p10 : lw_okq (⟨"WallTrumpets", "othersDownBy", "(I)I"⟩, 10) := ⟨⟨by decide +kernel, by decide +kernel⟩, List.mem_of_getElem? (i := 18) (by decide +kernel), List.mem_of_getElem? (i := 473) (by decide +kernel), List.mem_of_getElem? (i := 474) (by decide +kernel)⟩
theorem lw_p11 : lw_okq (⟨"WallTrumpets$OrderSearch", "goOn", "(II)V"⟩, 8) := ⟨⟨by decide +kernel, by decide +kernel⟩, List.mem_of_getElem? (i := 160) (by decide +kernel), List.mem_of_getElem? (i := 494) (by decide +kernel), List.mem_of_getElem? (i := 495) (by decide +kernel)⟩
theorem lw_p12 : lw_okq (⟨"WallTrumpets$OrderSearch", "keepBest", "(II)V"⟩, 8) := ⟨⟨by decide +kernel, by decide +kernel⟩, List.mem_of_getElem? (i := 160) (by decide +kernel), List.mem_of_getElem? (i := 499) (by decide +kernel), List.mem_of_getElem? (i := 500) (by decide +kernel)⟩
theorem lw_p13 : lw_okq (⟨"WallTrumpets$OrderSearch", "markOf", "(LWallTrumpets$Town;)J"⟩, 8) := ⟨⟨by decide +kernel, by decide +kernel⟩, List.mem_of_getElem? (i := 160) (by decide +kernel), List.mem_of_getElem? (i := 504) (by decide +kernel), List.mem_of_getElem? (i := 505) (by decide +kernel)⟩
theorem lw_p14 : lw_okq (⟨"WallTrumpets$OrderSearch", "wasSeen", "(JI)Z"⟩, 8) := ⟨⟨by decide +kernel, by decide +kernel⟩, List.mem_of_getElem? (i := 160) (by decide +kernel), List.mem_of_getElem? (i := 508) (by decide +kernel), List.mem_of_getElem? (i := 509) (by decide +kernel)⟩
theorem lw_p15 : lw_okq (⟨"WallTrumpets", "standsWithout", "(III)Z"⟩, 10) := ⟨⟨by decide +kernel, by decide +kernel⟩, List.mem_of_getElem? (i := 18) (by decide +kernel), List.mem_of_getElem? (i := 530) (by decide +kernel), List.mem_of_getElem? (i := 531) (by decide +kernel)⟩
def lw_privs_1 : List (MethodName × Nat) := [(⟨"WallTrumpets$Text", "readItem", "(ILWallTrumpets$Plan;)I"⟩, 3), (⟨"WallTrumpets$Text", "letterAt", "(I)C"⟩, 3), (⟨"WallTrumpets$Text", "figuresAt", "(I)I"⟩, 3), (⟨"WallTrumpets$Text", "isFigure", "(I)Z"⟩, 3), (⟨"WallTrumpets$Text", "numberAt", "(II)I"⟩, 3), (⟨"WallTrumpets$Plan", "takeWall", "(III)Z"⟩, 6), (⟨"WallTrumpets$Plan", "takeProp", "(III)Z"⟩, 6), (⟨"WallTrumpets", "isNoWall", "(I)Z"⟩, 10), (⟨"WallTrumpets", "isNoPair", "(II)Z"⟩, 10), (⟨"WallTrumpets$Town", "fallWithAll", "(III)V"⟩, 8), (⟨"WallTrumpets", "othersDownBy", "(I)I"⟩, 10), (⟨"WallTrumpets$OrderSearch", "goOn", "(II)V"⟩, 8), (⟨"WallTrumpets$OrderSearch", "keepBest", "(II)V"⟩, 8), (⟨"WallTrumpets$OrderSearch", "markOf", "(LWallTrumpets$Town;)J"⟩, 8), (⟨"WallTrumpets$OrderSearch", "wasSeen", "(JI)Z"⟩, 8), (⟨"WallTrumpets", "standsWithout", "(III)Z"⟩, 10)]
theorem lw_r1 : ∀ q ∈ lw_privs_1, lw_okq q := List.forall_mem_cons.mpr ⟨lw_p0, List.forall_mem_cons.mpr ⟨lw_p1, List.forall_mem_cons.mpr ⟨lw_p2, List.forall_mem_cons.mpr ⟨lw_p3, List.forall_mem_cons.mpr ⟨lw_p4, List.forall_mem_cons.mpr ⟨lw_p5, List.forall_mem_cons.mpr ⟨lw_p6, List.forall_mem_cons.mpr ⟨lw_p7, List.forall_mem_cons.mpr ⟨lw_p8, List.forall_mem_cons.mpr ⟨lw_p9, List.forall_mem_cons.mpr ⟨lw_p10, List.forall_mem_cons.mpr ⟨lw_p11, List.forall_mem_cons.mpr ⟨lw_p12, List.forall_mem_cons.mpr ⟨lw_p13, List.forall_mem_cons.mpr ⟨lw_p14, List.forall_mem_cons.mpr ⟨lw_p15, fun _ h => absurd h List.not_mem_nil⟩⟩⟩⟩⟩⟩⟩⟩⟩⟩⟩⟩⟩⟩⟩⟩
theorem lw_p16 : lw_okq (⟨"WallTrumpets", "drawAhead", "(II)V"⟩, 10) := ⟨⟨by decide +kernel, by decide +kernel⟩, List.mem_of_getElem? (i := 18) (by decide +kernel), List.mem_of_getElem? (i := 577) (by decide +kernel), List.mem_of_getElem? (i := 578) (by decide +kernel)⟩
theorem lw_p17 : lw_okq (⟨"WallTrumpetsModel", "starts", "()V"⟩, 25) := ⟨⟨by decide +kernel, by decide +kernel⟩, List.mem_of_getElem? (i := 604) (by decide +kernel), List.mem_of_getElem? (i := 610) (by decide +kernel), List.mem_of_getElem? (i := 611) (by decide +kernel)⟩
theorem lw_p18 : lw_okq (⟨"WallTrumpetsModel", "addsWall", "(III)V"⟩, 25) := ⟨⟨by decide +kernel, by decide +kernel⟩, List.mem_of_getElem? (i := 604) (by decide +kernel), List.mem_of_getElem? (i := 614) (by decide +kernel), List.mem_of_getElem? (i := 615) (by decide +kernel)⟩
theorem lw_p19 : lw_okq (⟨"WallTrumpetsModel", "begins", "()V"⟩, 25) := ⟨⟨by decide +kernel, by decide +kernel⟩, List.mem_of_getElem? (i := 604) (by decide +kernel), List.mem_of_getElem? (i := 618) (by decide +kernel), List.mem_of_getElem? (i := 619) (by decide +kernel)⟩
theorem lw_p20 : lw_okq (⟨"WallTrumpetsModel", "faultOf", "()I"⟩, 25) := ⟨⟨by decide +kernel, by decide +kernel⟩, List.mem_of_getElem? (i := 604) (by decide +kernel), List.mem_of_getElem? (i := 715) (by decide +kernel), List.mem_of_getElem? (i := 716) (by decide +kernel)⟩
theorem lw_p21 : lw_okq (⟨"WallTrumpetsModel", "takesItem", "()Z"⟩, 25) := ⟨⟨by decide +kernel, by decide +kernel⟩, List.mem_of_getElem? (i := 604) (by decide +kernel), List.mem_of_getElem? (i := 719) (by decide +kernel), List.mem_of_getElem? (i := 720) (by decide +kernel)⟩
theorem lw_p22 : lw_okq (⟨"WallTrumpetsModel", "letterAt", "(I)I"⟩, 25) := ⟨⟨by decide +kernel, by decide +kernel⟩, List.mem_of_getElem? (i := 604) (by decide +kernel), List.mem_of_getElem? (i := 723) (by decide +kernel), List.mem_of_getElem? (i := 724) (by decide +kernel)⟩
theorem lw_p23 : lw_okq (⟨"WallTrumpetsModel", "takesWall", "()Z"⟩, 25) := ⟨⟨by decide +kernel, by decide +kernel⟩, List.mem_of_getElem? (i := 604) (by decide +kernel), List.mem_of_getElem? (i := 727) (by decide +kernel), List.mem_of_getElem? (i := 728) (by decide +kernel)⟩
theorem lw_p24 : lw_okq (⟨"WallTrumpetsModel", "takesNumber", "(III)Z"⟩, 25) := ⟨⟨by decide +kernel, by decide +kernel⟩, List.mem_of_getElem? (i := 604) (by decide +kernel), List.mem_of_getElem? (i := 731) (by decide +kernel), List.mem_of_getElem? (i := 732) (by decide +kernel)⟩
theorem lw_p25 : lw_okq (⟨"WallTrumpetsModel", "takesProp", "()Z"⟩, 25) := ⟨⟨by decide +kernel, by decide +kernel⟩, List.mem_of_getElem? (i := 604) (by decide +kernel), List.mem_of_getElem? (i := 737) (by decide +kernel), List.mem_of_getElem? (i := 738) (by decide +kernel)⟩
theorem lw_p26 : lw_okq (⟨"WallTrumpetsModel", "takesStones", "()Z"⟩, 25) := ⟨⟨by decide +kernel, by decide +kernel⟩, List.mem_of_getElem? (i := 604) (by decide +kernel), List.mem_of_getElem? (i := 741) (by decide +kernel), List.mem_of_getElem? (i := 742) (by decide +kernel)⟩
theorem lw_p27 : lw_okq (⟨"WallTrumpetsModel", "isWall", "(I)Z"⟩, 25) := ⟨⟨by decide +kernel, by decide +kernel⟩, List.mem_of_getElem? (i := 604) (by decide +kernel), List.mem_of_getElem? (i := 753) (by decide +kernel), List.mem_of_getElem? (i := 754) (by decide +kernel)⟩
theorem lw_p28 : lw_okq (⟨"WallTrumpetsModel", "stands", "(II)Z"⟩, 25) := ⟨⟨by decide +kernel, by decide +kernel⟩, List.mem_of_getElem? (i := 604) (by decide +kernel), List.mem_of_getElem? (i := 767) (by decide +kernel), List.mem_of_getElem? (i := 768) (by decide +kernel)⟩
theorem lw_p29 : lw_okq (⟨"WallTrumpetsModel", "minds", "()V"⟩, 25) := ⟨⟨by decide +kernel, by decide +kernel⟩, List.mem_of_getElem? (i := 604) (by decide +kernel), List.mem_of_getElem? (i := 771) (by decide +kernel), List.mem_of_getElem? (i := 772) (by decide +kernel)⟩
theorem lw_p30 : lw_okq (⟨"WallTrumpetsModel", "copy", "(II)V"⟩, 25) := ⟨⟨by decide +kernel, by decide +kernel⟩, List.mem_of_getElem? (i := 604) (by decide +kernel), List.mem_of_getElem? (i := 775) (by decide +kernel), List.mem_of_getElem? (i := 776) (by decide +kernel)⟩
theorem lw_p31 : lw_okq (⟨"WallTrumpetsModel", "roundsOne", "(II)V"⟩, 25) := ⟨⟨by decide +kernel, by decide +kernel⟩, List.mem_of_getElem? (i := 604) (by decide +kernel), List.mem_of_getElem? (i := 779) (by decide +kernel), List.mem_of_getElem? (i := 780) (by decide +kernel)⟩
def lw_privs_2 : List (MethodName × Nat) := [(⟨"WallTrumpets", "drawAhead", "(II)V"⟩, 10), (⟨"WallTrumpetsModel", "starts", "()V"⟩, 25), (⟨"WallTrumpetsModel", "addsWall", "(III)V"⟩, 25), (⟨"WallTrumpetsModel", "begins", "()V"⟩, 25), (⟨"WallTrumpetsModel", "faultOf", "()I"⟩, 25), (⟨"WallTrumpetsModel", "takesItem", "()Z"⟩, 25), (⟨"WallTrumpetsModel", "letterAt", "(I)I"⟩, 25), (⟨"WallTrumpetsModel", "takesWall", "()Z"⟩, 25), (⟨"WallTrumpetsModel", "takesNumber", "(III)Z"⟩, 25), (⟨"WallTrumpetsModel", "takesProp", "()Z"⟩, 25), (⟨"WallTrumpetsModel", "takesStones", "()Z"⟩, 25), (⟨"WallTrumpetsModel", "isWall", "(I)Z"⟩, 25), (⟨"WallTrumpetsModel", "stands", "(II)Z"⟩, 25), (⟨"WallTrumpetsModel", "minds", "()V"⟩, 25), (⟨"WallTrumpetsModel", "copy", "(II)V"⟩, 25), (⟨"WallTrumpetsModel", "roundsOne", "(II)V"⟩, 25)]
theorem lw_r2 : ∀ q ∈ lw_privs_2, lw_okq q := List.forall_mem_cons.mpr ⟨lw_p16, List.forall_mem_cons.mpr ⟨lw_p17, List.forall_mem_cons.mpr ⟨lw_p18, List.forall_mem_cons.mpr ⟨lw_p19, List.forall_mem_cons.mpr ⟨lw_p20, List.forall_mem_cons.mpr ⟨lw_p21, List.forall_mem_cons.mpr ⟨lw_p22, List.forall_mem_cons.mpr ⟨lw_p23, List.forall_mem_cons.mpr ⟨lw_p24, List.forall_mem_cons.mpr ⟨lw_p25, List.forall_mem_cons.mpr ⟨lw_p26, List.forall_mem_cons.mpr ⟨lw_p27, List.forall_mem_cons.mpr ⟨lw_p28, List.forall_mem_cons.mpr ⟨lw_p29, List.forall_mem_cons.mpr ⟨lw_p30, List.forall_mem_cons.mpr ⟨lw_p31, fun _ h => absurd h List.not_mem_nil⟩⟩⟩⟩⟩⟩⟩⟩⟩⟩⟩⟩⟩⟩⟩⟩
theorem lw_p32 : lw_okq (⟨"WallTrumpetsModel", "blasts", "(III)I"⟩, 25) := ⟨⟨by decide +kernel, by decide +kernel⟩, List.mem_of_getElem? (i := 604) (by decide +kernel), List.mem_of_getElem? (i := 788) (by decide +kernel), List.mem_of_getElem? (i := 789) (by decide +kernel)⟩
theorem lw_p33 : lw_okq (⟨"WallTrumpetsModel", "wouldFall", "(III)Z"⟩, 25) := ⟨⟨by decide +kernel, by decide +kernel⟩, List.mem_of_getElem? (i := 604) (by decide +kernel), List.mem_of_getElem? (i := 792) (by decide +kernel), List.mem_of_getElem? (i := 793) (by decide +kernel)⟩
theorem lw_p34 : lw_okq (⟨"WallTrumpetsModel", "falls", "(IIZ)V"⟩, 25) := ⟨⟨by decide +kernel, by decide +kernel⟩, List.mem_of_getElem? (i := 604) (by decide +kernel), List.mem_of_getElem? (i := 796) (by decide +kernel), List.mem_of_getElem? (i := 797) (by decide +kernel)⟩
theorem lw_p35 : lw_okq (⟨"WallTrumpetsModel", "fellsOne", "(IIZ)Z"⟩, 25) := ⟨⟨by decide +kernel, by decide +kernel⟩, List.mem_of_getElem? (i := 604) (by decide +kernel), List.mem_of_getElem? (i := 800) (by decide +kernel), List.mem_of_getElem? (i := 801) (by decide +kernel)⟩
theorem lw_p36 : lw_okq (⟨"WallTrumpetsModel", "passes", "(I)V"⟩, 25) := ⟨⟨by decide +kernel, by decide +kernel⟩, List.mem_of_getElem? (i := 604) (by decide +kernel), List.mem_of_getElem? (i := 809) (by decide +kernel), List.mem_of_getElem? (i := 810) (by decide +kernel)⟩
theorem lw_p37 : lw_okq (⟨"WallTrumpetsModel", "callsIn", "(II)I"⟩, 25) := ⟨⟨by decide +kernel, by decide +kernel⟩, List.mem_of_getElem? (i := 604) (by decide +kernel), List.mem_of_getElem? (i := 831) (by decide +kernel), List.mem_of_getElem? (i := 832) (by decide +kernel)⟩
theorem lw_p38 : lw_okq (⟨"WallTrumpetsModel", "tries", "()V"⟩, 25) := ⟨⟨by decide +kernel, by decide +kernel⟩, List.mem_of_getElem? (i := 604) (by decide +kernel), List.mem_of_getElem? (i := 839) (by decide +kernel), List.mem_of_getElem? (i := 840) (by decide +kernel)⟩
theorem lw_p39 : lw_okq (⟨"WallTrumpetsModel", "downOnes", "(I)I"⟩, 25) := ⟨⟨by decide +kernel, by decide +kernel⟩, List.mem_of_getElem? (i := 604) (by decide +kernel), List.mem_of_getElem? (i := 847) (by decide +kernel), List.mem_of_getElem? (i := 848) (by decide +kernel)⟩
theorem lw_p40 : lw_okq (⟨"WallTrumpetsModel", "bestOrder", "()I"⟩, 25) := ⟨⟨by decide +kernel, by decide +kernel⟩, List.mem_of_getElem? (i := 604) (by decide +kernel), List.mem_of_getElem? (i := 859) (by decide +kernel), List.mem_of_getElem? (i := 860) (by decide +kernel)⟩
theorem lw_p41 : lw_okq (⟨"WallTrumpetsModel", "isSo", "(I)Z"⟩, 25) := ⟨⟨by decide +kernel, by decide +kernel⟩, List.mem_of_getElem? (i := 604) (by decide +kernel), List.mem_of_getElem? (i := 887) (by decide +kernel), List.mem_of_getElem? (i := 888) (by decide +kernel)⟩
theorem lw_p42 : lw_okq (⟨"WallTrumpetsModel", "hurtAll", "(I)I"⟩, 25) := ⟨⟨by decide +kernel, by decide +kernel⟩, List.mem_of_getElem? (i := 604) (by decide +kernel), List.mem_of_getElem? (i := 905) (by decide +kernel), List.mem_of_getElem? (i := 906) (by decide +kernel)⟩
theorem lw_p43 : lw_okq (⟨"WallTrumpetsModel", "propsThere", "()I"⟩, 25) := ⟨⟨by decide +kernel, by decide +kernel⟩, List.mem_of_getElem? (i := 604) (by decide +kernel), List.mem_of_getElem? (i := 921) (by decide +kernel), List.mem_of_getElem? (i := 922) (by decide +kernel)⟩
def lw_privs_3 : List (MethodName × Nat) := [(⟨"WallTrumpetsModel", "blasts", "(III)I"⟩, 25), (⟨"WallTrumpetsModel", "wouldFall", "(III)Z"⟩, 25), (⟨"WallTrumpetsModel", "falls", "(IIZ)V"⟩, 25), (⟨"WallTrumpetsModel", "fellsOne", "(IIZ)Z"⟩, 25), (⟨"WallTrumpetsModel", "passes", "(I)V"⟩, 25), (⟨"WallTrumpetsModel", "callsIn", "(II)I"⟩, 25), (⟨"WallTrumpetsModel", "tries", "()V"⟩, 25), (⟨"WallTrumpetsModel", "downOnes", "(I)I"⟩, 25), (⟨"WallTrumpetsModel", "bestOrder", "()I"⟩, 25), (⟨"WallTrumpetsModel", "isSo", "(I)Z"⟩, 25), (⟨"WallTrumpetsModel", "hurtAll", "(I)I"⟩, 25), (⟨"WallTrumpetsModel", "propsThere", "()I"⟩, 25)]
theorem lw_r3 : ∀ q ∈ lw_privs_3, lw_okq q := List.forall_mem_cons.mpr ⟨lw_p32, List.forall_mem_cons.mpr ⟨lw_p33, List.forall_mem_cons.mpr ⟨lw_p34, List.forall_mem_cons.mpr ⟨lw_p35, List.forall_mem_cons.mpr ⟨lw_p36, List.forall_mem_cons.mpr ⟨lw_p37, List.forall_mem_cons.mpr ⟨lw_p38, List.forall_mem_cons.mpr ⟨lw_p39, List.forall_mem_cons.mpr ⟨lw_p40, List.forall_mem_cons.mpr ⟨lw_p41, List.forall_mem_cons.mpr ⟨lw_p42, List.forall_mem_cons.mpr ⟨lw_p43, fun _ h => absurd h List.not_mem_nil⟩⟩⟩⟩⟩⟩⟩⟩⟩⟩⟩⟩
def lw_privs : List (MethodName × Nat) := lw_privs_1 ++ (lw_privs_2 ++ (lw_privs_3))
def lw_tbl : List Cond := k2_sels lw_privs ++ tables_1
theorem lw_privs_ok : ∀ q ∈ lw_privs, lw_okq q := by
  show ∀ q ∈ lw_privs_1 ++ (lw_privs_2 ++ (lw_privs_3)), lw_okq q
  exact List.forall_mem_append.mpr ⟨lw_r1, List.forall_mem_append.mpr ⟨lw_r2, lw_r3⟩⟩
end
section
def RX0 : String := "WallTrumpets$Notes"
def TX0 : u_T := fun k => match k with
  | 0 => ("WallTrumpets$Notes", "trumpets", "[I", true)
  | 1 => ("WallTrumpets$Notes", "rounded", "[I", true)
  | 2 => ("WallTrumpets$Notes", "felled", "[I", true)
  | _ => ("WallTrumpets$Notes", "count", "I", false)
def tyX0 : Nat → FieldType := fun k => match k with
  | 0 => .array .int
  | 1 => .array .int
  | 2 => .array .int
  | _ => .int
abbrev wsX00 : List Cond := u_ws RX0 TX0 4
theorem nmX0 : ∀ a, a < 4 → ∀ b, b < 4 → a ≠ b → (TX0 a).2.1 ≠ (TX0 b).2.1 := by decide +kernel
theorem tyX0_ok : ∀ k, k < 4 → parseFieldDescriptor (TX0 k).2.2.1 = some (tyX0 k) := by decide +kernel
abbrev cX0_init : ByteArray := prog_2_method_1_code
def yX0_init : MethodName := ⟨RX0, "<init>", "()V"⟩
abbrev cX0_isEnded : ByteArray := prog_2_method_2_code
def yX0_isEnded : MethodName := ⟨RX0, "isEnded", "()Z"⟩
abbrev cX0_add : ByteArray := prog_2_method_3_code
def yX0_add : MethodName := ⟨RX0, "add", "(III)V"⟩
abbrev cX0_couldBe : ByteArray := prog_2_method_4_code
def yX0_couldBe : MethodName := ⟨RX0, "couldBe", "(I)Z"⟩
def RX1 : String := "WallTrumpets$OrderSearch"
def TX1 : u_T := fun k => match k with
  | 0 => ("WallTrumpets$OrderSearch", "plan", "LWallTrumpets$Plan;", true)
  | 1 => ("WallTrumpets$OrderSearch", "towns", "[LWallTrumpets$Town;", true)
  | 2 => ("WallTrumpets$OrderSearch", "path", "[I", true)
  | 3 => ("WallTrumpets$OrderSearch", "best", "[I", true)
  | 4 => ("WallTrumpets$OrderSearch", "seen", "[J", true)
  | 5 => ("WallTrumpets$OrderSearch", "seenBy", "[I", true)
  | 6 => ("WallTrumpets$OrderSearch", "length", "I", false)
  | _ => ("WallTrumpets$OrderSearch", "fewest", "I", false)
def tyX1 : Nat → FieldType := fun k => match k with
  | 0 => .object "WallTrumpets$Plan"
  | 1 => .array (.object "WallTrumpets$Town")
  | 2 => .array .int
  | 3 => .array .int
  | 4 => .array .long
  | 5 => .array .int
  | 6 => .int
  | _ => .int
abbrev wsX10 : List Cond := u_ws RX1 TX1 8
theorem nmX1 : ∀ a, a < 8 → ∀ b, b < 8 → a ≠ b → (TX1 a).2.1 ≠ (TX1 b).2.1 := by decide +kernel
theorem tyX1_ok : ∀ k, k < 8 → parseFieldDescriptor (TX1 k).2.2.1 = some (tyX1 k) := by decide +kernel
abbrev cX1_init : ByteArray := prog_3_method_1_code
def yX1_init : MethodName := ⟨RX1, "<init>", "(LWallTrumpets$Plan;)V"⟩
abbrev cX1_run : ByteArray := prog_3_method_2_code
def yX1_run : MethodName := ⟨RX1, "run", "(LWallTrumpets$Town;)V"⟩
abbrev cX1_goOn : ByteArray := prog_3_method_3_code
def yX1_goOn : MethodName := ⟨RX1, "goOn", "(II)V"⟩
abbrev cX1_keepBest : ByteArray := prog_3_method_4_code
def yX1_keepBest : MethodName := ⟨RX1, "keepBest", "(II)V"⟩
abbrev cX1_markOf : ByteArray := prog_3_method_5_code
def yX1_markOf : MethodName := ⟨RX1, "markOf", "(LWallTrumpets$Town;)J"⟩
abbrev cX1_wasSeen : ByteArray := prog_3_method_6_code
def yX1_wasSeen : MethodName := ⟨RX1, "wasSeen", "(JI)Z"⟩
def RX2 : String := "WallTrumpets$Past"
def TX2 : u_T := fun k => match k with
  | 0 => ("WallTrumpets$Past", "towns", "[LWallTrumpets$Town;", true)
  | 1 => ("WallTrumpets$Past", "next", "I", false)
  | _ => ("WallTrumpets$Past", "count", "I", false)
def tyX2 : Nat → FieldType := fun k => match k with
  | 0 => .array (.object "WallTrumpets$Town")
  | 1 => .int
  | _ => .int
abbrev wsX20 : List Cond := u_ws RX2 TX2 3
theorem nmX2 : ∀ a, a < 3 → ∀ b, b < 3 → a ≠ b → (TX2 a).2.1 ≠ (TX2 b).2.1 := by decide +kernel
theorem tyX2_ok : ∀ k, k < 3 → parseFieldDescriptor (TX2 k).2.2.1 = some (tyX2 k) := by decide +kernel
abbrev cX2_init : ByteArray := prog_4_method_1_code
def yX2_init : MethodName := ⟨RX2, "<init>", "(LWallTrumpets$Plan;)V"⟩
abbrev cX2_push : ByteArray := prog_4_method_2_code
def yX2_push : MethodName := ⟨RX2, "push", "(LWallTrumpets$Town;)V"⟩
abbrev cX2_pop : ByteArray := prog_4_method_3_code
def yX2_pop : MethodName := ⟨RX2, "pop", "(LWallTrumpets$Town;)Z"⟩
def RX3 : String := "WallTrumpets$Plan"
def TX3 : u_T := fun k => match k with
  | 0 => ("WallTrumpets$Plan", "persons", "I", false)
  | 1 => ("WallTrumpets$Plan", "stones", "I", false)
  | 2 => ("WallTrumpets$Plan", "kind", "[I", true)
  | 3 => ("WallTrumpets$Plan", "thick", "[I", true)
  | 4 => ("WallTrumpets$Plan", "lean", "[I", true)
  | _ => ("WallTrumpets$Plan", "held", "[I", true)
def tyX3 : Nat → FieldType := fun k => match k with
  | 0 => .int
  | 1 => .int
  | 2 => .array .int
  | 3 => .array .int
  | 4 => .array .int
  | _ => .array .int
abbrev wsX30 : List Cond := u_ws RX3 TX3 6
theorem nmX3 : ∀ a, a < 6 → ∀ b, b < 6 → a ≠ b → (TX3 a).2.1 ≠ (TX3 b).2.1 := by decide +kernel
theorem tyX3_ok : ∀ k, k < 6 → parseFieldDescriptor (TX3 k).2.2.1 = some (tyX3 k) := by decide +kernel
abbrev cX3_init : ByteArray := prog_5_method_1_code
def yX3_init : MethodName := ⟨RX3, "<init>", "()V"⟩
abbrev cX3_clear : ByteArray := prog_5_method_2_code
def yX3_clear : MethodName := ⟨RX3, "clear", "()V"⟩
abbrev cX3_take : ByteArray := prog_5_method_3_code
def yX3_take : MethodName := ⟨RX3, "take", "(CIII)Z"⟩
abbrev cX3_takeWall : ByteArray := prog_5_method_4_code
def yX3_takeWall : MethodName := ⟨RX3, "takeWall", "(III)Z"⟩
abbrev cX3_takeProp : ByteArray := prog_5_method_5_code
def yX3_takeProp : MethodName := ⟨RX3, "takeProp", "(III)Z"⟩
def RX4 : String := "WallTrumpets$Text"
def TX4 : u_T := fun k => match k with
  | 0 => ("WallTrumpets$Text", "letters", "[C", true)
  | 1 => ("WallTrumpets$Text", "numbers", "[I", true)
  | _ => ("WallTrumpets$Text", "length", "I", false)
def tyX4 : Nat → FieldType := fun k => match k with
  | 0 => .array .char
  | 1 => .array .int
  | _ => .int
abbrev wsX40 : List Cond := u_ws RX4 TX4 3
theorem nmX4 : ∀ a, a < 3 → ∀ b, b < 3 → a ≠ b → (TX4 a).2.1 ≠ (TX4 b).2.1 := by decide +kernel
theorem tyX4_ok : ∀ k, k < 3 → parseFieldDescriptor (TX4 k).2.2.1 = some (tyX4 k) := by decide +kernel
abbrev cX4_init : ByteArray := prog_6_method_1_code
def yX4_init : MethodName := ⟨RX4, "<init>", "()V"⟩
abbrev cX4_add : ByteArray := prog_6_method_2_code
def yX4_add : MethodName := ⟨RX4, "add", "(C)V"⟩
abbrev cX4_readInto : ByteArray := prog_6_method_3_code
def yX4_readInto : MethodName := ⟨RX4, "readInto", "(LWallTrumpets$Plan;)I"⟩
abbrev cX4_readItem : ByteArray := prog_6_method_4_code
def yX4_readItem : MethodName := ⟨RX4, "readItem", "(ILWallTrumpets$Plan;)I"⟩
abbrev cX4_letterAt : ByteArray := prog_6_method_5_code
def yX4_letterAt : MethodName := ⟨RX4, "letterAt", "(I)C"⟩
abbrev cX4_isFigure : ByteArray := prog_6_method_6_code
def yX4_isFigure : MethodName := ⟨RX4, "isFigure", "(I)Z"⟩
abbrev cX4_figuresAt : ByteArray := prog_6_method_7_code
def yX4_figuresAt : MethodName := ⟨RX4, "figuresAt", "(I)I"⟩
abbrev cX4_numberAt : ByteArray := prog_6_method_8_code
def yX4_numberAt : MethodName := ⟨RX4, "numberAt", "(II)I"⟩
def RX5 : String := "WallTrumpets$Town"
def TX5 : u_T := fun k => match k with
  | 0 => ("WallTrumpets$Town", "plan", "LWallTrumpets$Plan;", true)
  | 1 => ("WallTrumpets$Town", "thick", "[I", true)
  | 2 => ("WallTrumpets$Town", "rounded", "[I", true)
  | 3 => ("WallTrumpets$Town", "hurt", "[I", true)
  | 4 => ("WallTrumpets$Town", "fell", "[I", true)
  | 5 => ("WallTrumpets$Town", "held", "[I", true)
  | 6 => ("WallTrumpets$Town", "stones", "I", false)
  | _ => ("WallTrumpets$Town", "days", "I", false)
def tyX5 : Nat → FieldType := fun k => match k with
  | 0 => .object "WallTrumpets$Plan"
  | 1 => .array .int
  | 2 => .array .int
  | 3 => .array .int
  | 4 => .array .int
  | 5 => .array .int
  | 6 => .int
  | _ => .int
abbrev wsX50 : List Cond := u_ws RX5 TX5 8
theorem nmX5 : ∀ a, a < 8 → ∀ b, b < 8 → a ≠ b → (TX5 a).2.1 ≠ (TX5 b).2.1 := by decide +kernel
theorem tyX5_ok : ∀ k, k < 8 → parseFieldDescriptor (TX5 k).2.2.1 = some (tyX5 k) := by decide +kernel
abbrev cX5_init : ByteArray := prog_7_method_1_code
def yX5_init : MethodName := ⟨RX5, "<init>", "(LWallTrumpets$Plan;)V"⟩
abbrev cX5_layOut : ByteArray := prog_7_method_2_code
def yX5_layOut : MethodName := ⟨RX5, "layOut", "()V"⟩
abbrev cX5_copyFrom : ByteArray := prog_7_method_3_code
def yX5_copyFrom : MethodName := ⟨RX5, "copyFrom", "(LWallTrumpets$Town;)V"⟩
abbrev cX5_stands : ByteArray := prog_7_method_4_code
def yX5_stands : MethodName := ⟨RX5, "stands", "(I)Z"⟩
abbrev cX5_heldBy : ByteArray := prog_7_method_5_code
def yX5_heldBy : MethodName := ⟨RX5, "heldBy", "(II)I"⟩
abbrev cX5_setProp : ByteArray := prog_7_method_6_code
def yX5_setProp : MethodName := ⟨RX5, "setProp", "(III)V"⟩
abbrev cX5_holdersOf : ByteArray := prog_7_method_7_code
def yX5_holdersOf : MethodName := ⟨RX5, "holdersOf", "(I)I"⟩
abbrev cX5_goRound : ByteArray := prog_7_method_8_code
def yX5_goRound : MethodName := ⟨RX5, "goRound", "(I)V"⟩
abbrev cX5_wouldFall : ByteArray := prog_7_method_9_code
def yX5_wouldFall : MethodName := ⟨RX5, "wouldFall", "(II)Z"⟩
abbrev cX5_leansInward : ByteArray := prog_7_method_10_code
def yX5_leansInward : MethodName := ⟨RX5, "leansInward", "(I)Z"⟩
abbrev cX5_fewestTrumpets : ByteArray := prog_7_method_11_code
def yX5_fewestTrumpets : MethodName := ⟨RX5, "fewestTrumpets", "(I)I"⟩
abbrev cX5_blow : ByteArray := prog_7_method_12_code
def yX5_blow : MethodName := ⟨RX5, "blow", "(II)I"⟩
abbrev cX5_comeDown : ByteArray := prog_7_method_13_code
def yX5_comeDown : MethodName := ⟨RX5, "comeDown", "(II)V"⟩
abbrev cX5_fallWithAll : ByteArray := prog_7_method_14_code
def yX5_fallWithAll : MethodName := ⟨RX5, "fallWithAll", "(III)V"⟩
abbrev cX5_dayGoesBy : ByteArray := prog_7_method_15_code
def yX5_dayGoesBy : MethodName := ⟨RX5, "dayGoesBy", "()V"⟩
abbrev cX5_countDown : ByteArray := prog_7_method_16_code
def yX5_countDown : MethodName := ⟨RX5, "countDown", "()I"⟩
abbrev cX5_countHurt : ByteArray := prog_7_method_17_code
def yX5_countHurt : MethodName := ⟨RX5, "countHurt", "()I"⟩
abbrev cX5_countProps : ByteArray := prog_7_method_18_code
def yX5_countProps : MethodName := ⟨RX5, "countProps", "()I"⟩
def RX6 : String := "WallTrumpets"
def TX6 : u_T := fun k => match k with
  | 0 => ("WallTrumpets", "text", "LWallTrumpets$Text;", true)
  | 1 => ("WallTrumpets", "draft", "LWallTrumpets$Plan;", true)
  | 2 => ("WallTrumpets", "plan", "LWallTrumpets$Plan;", true)
  | 3 => ("WallTrumpets", "now", "LWallTrumpets$Town;", true)
  | 4 => ("WallTrumpets", "trial", "LWallTrumpets$Town;", true)
  | 5 => ("WallTrumpets", "past", "LWallTrumpets$Past;", true)
  | 6 => ("WallTrumpets", "kept", "[LWallTrumpets$Town;", true)
  | 7 => ("WallTrumpets", "keptCount", "I", false)
  | 8 => ("WallTrumpets", "notes", "LWallTrumpets$Notes;", true)
  | _ => ("WallTrumpets", "search", "LWallTrumpets$OrderSearch;", true)
def tyX6 : Nat → FieldType := fun k => match k with
  | 0 => .object "WallTrumpets$Text"
  | 1 => .object "WallTrumpets$Plan"
  | 2 => .object "WallTrumpets$Plan"
  | 3 => .object "WallTrumpets$Town"
  | 4 => .object "WallTrumpets$Town"
  | 5 => .object "WallTrumpets$Past"
  | 6 => .array (.object "WallTrumpets$Town")
  | 7 => .int
  | 8 => .object "WallTrumpets$Notes"
  | _ => .object "WallTrumpets$OrderSearch"
abbrev wsX60 : List Cond := u_ws RX6 TX6 10
theorem nmX6 : ∀ a, a < 10 → ∀ b, b < 10 → a ≠ b → (TX6 a).2.1 ≠ (TX6 b).2.1 := by decide +kernel
theorem tyX6_ok : ∀ k, k < 10 → parseFieldDescriptor (TX6 k).2.2.1 = some (tyX6 k) := by decide +kernel
abbrev cX6_init : ByteArray := prog_1_method_1_code
def yX6_init : MethodName := ⟨RX6, "<init>", "()V"⟩
abbrev cX6_write : ByteArray := prog_1_method_2_code
def yX6_write : MethodName := ⟨RX6, "write", "(I)I"⟩
abbrev cX6_wipe : ByteArray := prog_1_method_3_code
def yX6_wipe : MethodName := ⟨RX6, "wipe", "()I"⟩
abbrev cX6_fault : ByteArray := prog_1_method_4_code
def yX6_fault : MethodName := ⟨RX6, "fault", "()I"⟩
abbrev cX6_lay : ByteArray := prog_1_method_5_code
def yX6_lay : MethodName := ⟨RX6, "lay", "()I"⟩
abbrev cX6_wall : ByteArray := prog_1_method_6_code
def yX6_wall : MethodName := ⟨RX6, "wall", "(II)I"⟩
abbrev cX6_holds : ByteArray := prog_1_method_7_code
def yX6_holds : MethodName := ⟨RX6, "holds", "(II)I"⟩
abbrev cX6_round : ByteArray := prog_1_method_8_code
def yX6_round : MethodName := ⟨RX6, "round", "(I)I"⟩
abbrev cX6_blast : ByteArray := prog_1_method_9_code
def yX6_blast : MethodName := ⟨RX6, "blast", "(II)I"⟩
abbrev cX6_pass : ByteArray := prog_1_method_10_code
def yX6_pass : MethodName := ⟨RX6, "pass", "(I)I"⟩
abbrev cX6_prop : ByteArray := prog_1_method_11_code
def yX6_prop : MethodName := ⟨RX6, "prop", "(III)I"⟩
abbrev cX6_use : ByteArray := prog_1_method_12_code
def yX6_use : MethodName := ⟨RX6, "use", "(I)I"⟩
abbrev cX6_undo : ByteArray := prog_1_method_13_code
def yX6_undo : MethodName := ⟨RX6, "undo", "()I"⟩
abbrev cX6_calls : ByteArray := prog_1_method_14_code
def yX6_calls : MethodName := ⟨RX6, "calls", "(I)I"⟩
abbrev cX6_rounds : ByteArray := prog_1_method_15_code
def yX6_rounds : MethodName := ⟨RX6, "rounds", "(II)I"⟩
abbrev cX6_key : ByteArray := prog_1_method_16_code
def yX6_key : MethodName := ⟨RX6, "key", "(I)I"⟩
abbrev cX6_order : ByteArray := prog_1_method_17_code
def yX6_order : MethodName := ⟨RX6, "order", "(I)I"⟩
abbrev cX6_save : ByteArray := prog_1_method_18_code
def yX6_save : MethodName := ⟨RX6, "save", "(II)I"⟩
abbrev cX6_built : ByteArray := prog_1_method_19_code
def yX6_built : MethodName := ⟨RX6, "built", "(I)I"⟩
abbrev cX6_note : ByteArray := prog_1_method_20_code
def yX6_note : MethodName := ⟨RX6, "note", "(III)I"⟩
abbrev cX6_forget : ByteArray := prog_1_method_21_code
def yX6_forget : MethodName := ⟨RX6, "forget", "()I"⟩
abbrev cX6_thick : ByteArray := prog_1_method_22_code
def yX6_thick : MethodName := ⟨RX6, "thick", "(I)I"⟩
abbrev cX6_fail : ByteArray := prog_1_method_23_code
def yX6_fail : MethodName := ⟨RX6, "fail", "(IIII)I"⟩
abbrev cX6_year : ByteArray := prog_1_method_24_code
def yX6_year : MethodName := ⟨RX6, "year", "(III)I"⟩
abbrev cX6_keep : ByteArray := prog_1_method_25_code
def yX6_keep : MethodName := ⟨RX6, "keep", "()I"⟩
abbrev cX6_back : ByteArray := prog_1_method_26_code
def yX6_back : MethodName := ⟨RX6, "back", "()I"⟩
abbrev cX6_count : ByteArray := prog_1_method_27_code
def yX6_count : MethodName := ⟨RX6, "count", "(I)I"⟩
abbrev cX6_isOutside : ByteArray := prog_1_method_28_code
def yX6_isOutside : MethodName := ⟨RX6, "isOutside", "(III)Z"⟩
abbrev cX6_isNoWall : ByteArray := prog_1_method_29_code
def yX6_isNoWall : MethodName := ⟨RX6, "isNoWall", "(I)Z"⟩
abbrev cX6_isNoPair : ByteArray := prog_1_method_30_code
def yX6_isNoPair : MethodName := ⟨RX6, "isNoPair", "(II)Z"⟩
abbrev cX6_othersDownBy : ByteArray := prog_1_method_31_code
def yX6_othersDownBy : MethodName := ⟨RX6, "othersDownBy", "(I)I"⟩
abbrev cX6_standsWithout : ByteArray := prog_1_method_32_code
def yX6_standsWithout : MethodName := ⟨RX6, "standsWithout", "(III)Z"⟩
abbrev cX6_drawAhead : ByteArray := prog_1_method_33_code
def yX6_drawAhead : MethodName := ⟨RX6, "drawAhead", "(II)V"⟩
abbrev cX6_power : ByteArray := prog_1_method_34_code
def yX6_power : MethodName := ⟨RX6, "power", "(II)J"⟩
abbrev cX6_greatestShared : ByteArray := prog_1_method_35_code
def yX6_greatestShared : MethodName := ⟨RX6, "greatestShared", "(JJ)J"⟩
def RX7 : String := "WallTrumpetsModel"
def TX7 : u_T := fun k => match k with
  | 0 => ("WallTrumpetsModel", "w", "[I", true)
  | 1 => ("WallTrumpetsModel", "undoes", "I", false)
  | 2 => ("WallTrumpetsModel", "kept", "I", false)
  | 3 => ("WallTrumpetsModel", "walls", "I", false)
  | 4 => ("WallTrumpetsModel", "kind", "[I", true)
  | 5 => ("WallTrumpetsModel", "laid", "[I", true)
  | 6 => ("WallTrumpetsModel", "leans", "[I", true)
  | 7 => ("WallTrumpetsModel", "noted", "I", false)
  | 8 => ("WallTrumpetsModel", "noteMany", "[I", true)
  | 9 => ("WallTrumpetsModel", "noteRound", "[I", true)
  | 10 => ("WallTrumpetsModel", "noteFelled", "[I", true)
  | 11 => ("WallTrumpetsModel", "text", "[I", true)
  | 12 => ("WallTrumpetsModel", "texted", "I", false)
  | 13 => ("WallTrumpetsModel", "place", "I", false)
  | 14 => ("WallTrumpetsModel", "number", "I", false)
  | 15 => ("WallTrumpetsModel", "readWalls", "I", false)
  | 16 => ("WallTrumpetsModel", "readWall", "[I", true)
  | 17 => ("WallTrumpetsModel", "readProp", "[I", true)
  | 18 => ("WallTrumpetsModel", "readStones", "I", false)
  | 19 => ("WallTrumpetsModel", "fallen", "[I", true)
  | 20 => ("WallTrumpetsModel", "next", "[I", true)
  | 21 => ("WallTrumpetsModel", "blasted", "[I", true)
  | 22 => ("WallTrumpetsModel", "sums", "[I", true)
  | 23 => ("WallTrumpetsModel", "best", "[I", true)
  | _ => ("WallTrumpetsModel", "bestMany", "I", false)
def tyX7 : Nat → FieldType := fun k => match k with
  | 0 => .array .int
  | 1 => .int
  | 2 => .int
  | 3 => .int
  | 4 => .array .int
  | 5 => .array .int
  | 6 => .array .int
  | 7 => .int
  | 8 => .array .int
  | 9 => .array .int
  | 10 => .array .int
  | 11 => .array .int
  | 12 => .int
  | 13 => .int
  | 14 => .int
  | 15 => .int
  | 16 => .array .int
  | 17 => .array .int
  | 18 => .int
  | 19 => .array .int
  | 20 => .array .int
  | 21 => .array .int
  | 22 => .array .int
  | 23 => .array .int
  | _ => .int
abbrev wsX70 : List Cond := u_ws RX7 TX7 25
theorem nmX7 : ∀ a, a < 25 → ∀ b, b < 25 → a ≠ b → (TX7 a).2.1 ≠ (TX7 b).2.1 := by decide +kernel
theorem tyX7_ok : ∀ k, k < 25 → parseFieldDescriptor (TX7 k).2.2.1 = some (tyX7 k) := by decide +kernel
abbrev cX7_init : ByteArray := prog_9_method_1_code
def yX7_init : MethodName := ⟨RX7, "<init>", "()V"⟩
abbrev cX7_in : ByteArray := prog_9_method_3_code
def yX7_in : MethodName := ⟨RX7, "in", "(JJJ)Z"⟩
abbrev cX7_has : ByteArray := prog_9_method_4_code
def yX7_has : MethodName := ⟨RX7, "has", "(II)Z"⟩
abbrev cX7_ones : ByteArray := prog_9_method_5_code
def yX7_ones : MethodName := ⟨RX7, "ones", "(I)I"⟩
abbrev cX7_copy : ByteArray := prog_9_method_6_code
def yX7_copy : MethodName := ⟨RX7, "copy", "(II)V"⟩
abbrev cX7_isWall : ByteArray := prog_9_method_7_code
def yX7_isWall : MethodName := ⟨RX7, "isWall", "(I)Z"⟩
abbrev cX7_starts : ByteArray := prog_9_method_8_code
def yX7_starts : MethodName := ⟨RX7, "starts", "()V"⟩
abbrev cX7_addsWall : ByteArray := prog_9_method_9_code
def yX7_addsWall : MethodName := ⟨RX7, "addsWall", "(III)V"⟩
abbrev cX7_begins : ByteArray := prog_9_method_10_code
def yX7_begins : MethodName := ⟨RX7, "begins", "()V"⟩
abbrev cX7_write : ByteArray := prog_9_method_11_code
def yX7_write : MethodName := ⟨RX7, "write", "(I)I"⟩
abbrev cX7_wipe : ByteArray := prog_9_method_12_code
def yX7_wipe : MethodName := ⟨RX7, "wipe", "()I"⟩
abbrev cX7_letterAt : ByteArray := prog_9_method_13_code
def yX7_letterAt : MethodName := ⟨RX7, "letterAt", "(I)I"⟩
abbrev cX7_takesNumber : ByteArray := prog_9_method_14_code
def yX7_takesNumber : MethodName := ⟨RX7, "takesNumber", "(III)Z"⟩
abbrev cX7_takesWall : ByteArray := prog_9_method_15_code
def yX7_takesWall : MethodName := ⟨RX7, "takesWall", "()Z"⟩
abbrev cX7_takesProp : ByteArray := prog_9_method_16_code
def yX7_takesProp : MethodName := ⟨RX7, "takesProp", "()Z"⟩
abbrev cX7_takesStones : ByteArray := prog_9_method_17_code
def yX7_takesStones : MethodName := ⟨RX7, "takesStones", "()Z"⟩
abbrev cX7_takesItem : ByteArray := prog_9_method_18_code
def yX7_takesItem : MethodName := ⟨RX7, "takesItem", "()Z"⟩
abbrev cX7_faultOf : ByteArray := prog_9_method_19_code
def yX7_faultOf : MethodName := ⟨RX7, "faultOf", "()I"⟩
abbrev cX7_fault : ByteArray := prog_9_method_20_code
def yX7_fault : MethodName := ⟨RX7, "fault", "()I"⟩
abbrev cX7_lay : ByteArray := prog_9_method_21_code
def yX7_lay : MethodName := ⟨RX7, "lay", "()I"⟩
abbrev cX7_wall : ByteArray := prog_9_method_22_code
def yX7_wall : MethodName := ⟨RX7, "wall", "(II)I"⟩
abbrev cX7_holds : ByteArray := prog_9_method_23_code
def yX7_holds : MethodName := ⟨RX7, "holds", "(II)I"⟩
abbrev cX7_stands : ByteArray := prog_9_method_24_code
def yX7_stands : MethodName := ⟨RX7, "stands", "(II)Z"⟩
abbrev cX7_fellsOne : ByteArray := prog_9_method_25_code
def yX7_fellsOne : MethodName := ⟨RX7, "fellsOne", "(IIZ)Z"⟩
abbrev cX7_falls : ByteArray := prog_9_method_26_code
def yX7_falls : MethodName := ⟨RX7, "falls", "(IIZ)V"⟩
abbrev cX7_wouldFall : ByteArray := prog_9_method_27_code
def yX7_wouldFall : MethodName := ⟨RX7, "wouldFall", "(III)Z"⟩
abbrev cX7_blasts : ByteArray := prog_9_method_28_code
def yX7_blasts : MethodName := ⟨RX7, "blasts", "(III)I"⟩
abbrev cX7_roundsOne : ByteArray := prog_9_method_29_code
def yX7_roundsOne : MethodName := ⟨RX7, "roundsOne", "(II)V"⟩
abbrev cX7_passes : ByteArray := prog_9_method_30_code
def yX7_passes : MethodName := ⟨RX7, "passes", "(I)V"⟩
abbrev cX7_minds : ByteArray := prog_9_method_31_code
def yX7_minds : MethodName := ⟨RX7, "minds", "()V"⟩
abbrev cX7_round : ByteArray := prog_9_method_32_code
def yX7_round : MethodName := ⟨RX7, "round", "(I)I"⟩
abbrev cX7_blast : ByteArray := prog_9_method_33_code
def yX7_blast : MethodName := ⟨RX7, "blast", "(II)I"⟩
abbrev cX7_pass : ByteArray := prog_9_method_34_code
def yX7_pass : MethodName := ⟨RX7, "pass", "(I)I"⟩
abbrev cX7_prop : ByteArray := prog_9_method_35_code
def yX7_prop : MethodName := ⟨RX7, "prop", "(III)I"⟩
abbrev cX7_use : ByteArray := prog_9_method_36_code
def yX7_use : MethodName := ⟨RX7, "use", "(I)I"⟩
abbrev cX7_undo : ByteArray := prog_9_method_37_code
def yX7_undo : MethodName := ⟨RX7, "undo", "()I"⟩
abbrev cX7_callsIn : ByteArray := prog_9_method_38_code
def yX7_callsIn : MethodName := ⟨RX7, "callsIn", "(II)I"⟩
abbrev cX7_calls : ByteArray := prog_9_method_39_code
def yX7_calls : MethodName := ⟨RX7, "calls", "(I)I"⟩
abbrev cX7_tries : ByteArray := prog_9_method_40_code
def yX7_tries : MethodName := ⟨RX7, "tries", "()V"⟩
abbrev cX7_rounds : ByteArray := prog_9_method_41_code
def yX7_rounds : MethodName := ⟨RX7, "rounds", "(II)I"⟩
abbrev cX7_downOnes : ByteArray := prog_9_method_42_code
def yX7_downOnes : MethodName := ⟨RX7, "downOnes", "(I)I"⟩
abbrev cX7_key : ByteArray := prog_9_method_43_code
def yX7_key : MethodName := ⟨RX7, "key", "(I)I"⟩
abbrev cX7_bestOrder : ByteArray := prog_9_method_44_code
def yX7_bestOrder : MethodName := ⟨RX7, "bestOrder", "()I"⟩
abbrev cX7_order : ByteArray := prog_9_method_45_code
def yX7_order : MethodName := ⟨RX7, "order", "(I)I"⟩
abbrev cX7_save : ByteArray := prog_9_method_46_code
def yX7_save : MethodName := ⟨RX7, "save", "(II)I"⟩
abbrev cX7_built : ByteArray := prog_9_method_47_code
def yX7_built : MethodName := ⟨RX7, "built", "(I)I"⟩
abbrev cX7_note : ByteArray := prog_9_method_48_code
def yX7_note : MethodName := ⟨RX7, "note", "(III)I"⟩
abbrev cX7_forget : ByteArray := prog_9_method_49_code
def yX7_forget : MethodName := ⟨RX7, "forget", "()I"⟩
abbrev cX7_isSo : ByteArray := prog_9_method_50_code
def yX7_isSo : MethodName := ⟨RX7, "isSo", "(I)Z"⟩
abbrev cX7_thick : ByteArray := prog_9_method_51_code
def yX7_thick : MethodName := ⟨RX7, "thick", "(I)I"⟩
abbrev cX7_fail : ByteArray := prog_9_method_52_code
def yX7_fail : MethodName := ⟨RX7, "fail", "(IIII)I"⟩
abbrev cX7_hurtAll : ByteArray := prog_9_method_53_code
def yX7_hurtAll : MethodName := ⟨RX7, "hurtAll", "(I)I"⟩
abbrev cX7_year : ByteArray := prog_9_method_54_code
def yX7_year : MethodName := ⟨RX7, "year", "(III)I"⟩
abbrev cX7_keep : ByteArray := prog_9_method_55_code
def yX7_keep : MethodName := ⟨RX7, "keep", "()I"⟩
abbrev cX7_back : ByteArray := prog_9_method_56_code
def yX7_back : MethodName := ⟨RX7, "back", "()I"⟩
abbrev cX7_propsThere : ByteArray := prog_9_method_57_code
def yX7_propsThere : MethodName := ⟨RX7, "propsThere", "()I"⟩
abbrev cX7_count : ByteArray := prog_9_method_58_code
def yX7_count : MethodName := ⟨RX7, "count", "(I)I"⟩
def RJx145de : String := "java/io/Serializable"
def TJx145de : u_T := fun k => match k with
  | _ => ("", "", "", false)
def tyJx145de : Nat → FieldType := fun k => match k with
  | _ => .int
abbrev wsJx145de0 : List Cond := u_ws RJx145de TJx145de 0
theorem nmJx145de : ∀ a, a < 0 → ∀ b, b < 0 → a ≠ b → (TJx145de a).2.1 ≠ (TJx145de b).2.1 := by decide +kernel
theorem tyJx145de_ok : ∀ k, k < 0 → parseFieldDescriptor (TJx145de k).2.2.1 = some (tyJx145de k) := by decide +kernel
def RJx9f9b0 : String := "java/lang/CharSequence"
def TJx9f9b0 : u_T := fun k => match k with
  | _ => ("", "", "", false)
def tyJx9f9b0 : Nat → FieldType := fun k => match k with
  | _ => .int
abbrev wsJx9f9b00 : List Cond := u_ws RJx9f9b0 TJx9f9b0 0
theorem nmJx9f9b0 : ∀ a, a < 0 → ∀ b, b < 0 → a ≠ b → (TJx9f9b0 a).2.1 ≠ (TJx9f9b0 b).2.1 := by decide +kernel
theorem tyJx9f9b0_ok : ∀ k, k < 0 → parseFieldDescriptor (TJx9f9b0 k).2.2.1 = some (tyJx9f9b0 k) := by decide +kernel
def RJxb160c : String := "java/lang/Comparable"
def TJxb160c : u_T := fun k => match k with
  | _ => ("", "", "", false)
def tyJxb160c : Nat → FieldType := fun k => match k with
  | _ => .int
abbrev wsJxb160c0 : List Cond := u_ws RJxb160c TJxb160c 0
theorem nmJxb160c : ∀ a, a < 0 → ∀ b, b < 0 → a ≠ b → (TJxb160c a).2.1 ≠ (TJxb160c b).2.1 := by decide +kernel
theorem tyJxb160c_ok : ∀ k, k < 0 → parseFieldDescriptor (TJxb160c k).2.2.1 = some (tyJxb160c k) := by decide +kernel
def RJ6 : String := "java/lang/Integer"
def TJ6 : u_T := fun k => match k with
  | _ => ("", "", "", false)
def tyJ6 : Nat → FieldType := fun k => match k with
  | _ => .int
abbrev wsJ60 : List Cond := u_ws RJ6 TJ6 0
theorem nmJ6 : ∀ a, a < 0 → ∀ b, b < 0 → a ≠ b → (TJ6 a).2.1 ≠ (TJ6 b).2.1 := by decide +kernel
theorem tyJ6_ok : ∀ k, k < 0 → parseFieldDescriptor (TJ6 k).2.2.1 = some (tyJ6 k) := by decide +kernel
abbrev cJ6_bitCount_0f7a4 : ByteArray := prog_10_method_49_code
def yJ6_bitCount_0f7a4 : MethodName := ⟨RJ6, "bitCount", "(I)I"⟩
def RJ9 : String := "java/lang/Math"
def TJ9 : u_T := fun k => match k with
  | _ => ("", "", "", false)
def tyJ9 : Nat → FieldType := fun k => match k with
  | _ => .int
abbrev wsJ90 : List Cond := u_ws RJ9 TJ9 0
theorem nmJ9 : ∀ a, a < 0 → ∀ b, b < 0 → a ≠ b → (TJ9 a).2.1 ≠ (TJ9 b).2.1 := by decide +kernel
theorem tyJ9_ok : ∀ k, k < 0 → parseFieldDescriptor (TJ9 k).2.2.1 = some (tyJ9 k) := by decide +kernel
abbrev cJ9_max_7cf53 : ByteArray := prog_11_method_65_code
def yJ9_max_7cf53 : MethodName := ⟨RJ9, "max", "(II)I"⟩
abbrev cJ9_min_7cf53 : ByteArray := prog_11_method_69_code
def yJ9_min_7cf53 : MethodName := ⟨RJ9, "min", "(II)I"⟩
def RJ0 : String := "java/lang/String"
def TJ0 : u_T := fun k => match k with
  | _ => ("", "", "", false)
def tyJ0 : Nat → FieldType := fun k => match k with
  | _ => .int
abbrev wsJ00 : List Cond := u_ws RJ0 TJ0 0
theorem nmJ0 : ∀ a, a < 0 → ∀ b, b < 0 → a ≠ b → (TJ0 a).2.1 ≠ (TJ0 b).2.1 := by decide +kernel
theorem tyJ0_ok : ∀ k, k < 0 → parseFieldDescriptor (TJ0 k).2.2.1 = some (tyJ0 k) := by decide +kernel
abbrev cJ0_length_8abf5 : ByteArray := prog_12_method_54_code
def yJ0_length_8abf5 : MethodName := ⟨RJ0, "length", "()I"⟩
abbrev cJ0_charAt_5068e : ByteArray := prog_12_method_56_code
def yJ0_charAt_5068e : MethodName := ⟨RJ0, "charAt", "(I)C"⟩
abbrev cJ0_coder_7d493 : ByteArray := prog_12_method_152_code
def yJ0_coder_7d493 : MethodName := ⟨RJ0, "coder", "()B"⟩
abbrev cJ0_isLatin1_aae02 : ByteArray := prog_12_method_154_code
def yJ0_isLatin1_aae02 : MethodName := ⟨RJ0, "isLatin1", "()Z"⟩
abbrev cJ0_checkIndex_df160 : ByteArray := prog_12_method_155_code
def yJ0_checkIndex_df160 : MethodName := ⟨RJ0, "checkIndex", "(II)V"⟩
def RJ1 : String := "java/lang/StringLatin1"
def TJ1 : u_T := fun k => match k with
  | _ => ("", "", "", false)
def tyJ1 : Nat → FieldType := fun k => match k with
  | _ => .int
abbrev wsJ10 : List Cond := u_ws RJ1 TJ1 0
theorem nmJ1 : ∀ a, a < 0 → ∀ b, b < 0 → a ≠ b → (TJ1 a).2.1 ≠ (TJ1 b).2.1 := by decide +kernel
theorem tyJ1_ok : ∀ k, k < 0 → parseFieldDescriptor (TJ1 k).2.2.1 = some (tyJ1 k) := by decide +kernel
abbrev cJ1_charAt_3b067 : ByteArray := prog_13_method_2_code
def yJ1_charAt_3b067 : MethodName := ⟨RJ1, "charAt", "([BI)C"⟩
def RJ2 : String := "java/lang/StringUTF16"
def TJ2 : u_T := fun k => match k with
  | _ => ("", "", "", false)
def tyJ2 : Nat → FieldType := fun k => match k with
  | _ => .int
abbrev wsJ20 : List Cond := u_ws RJ2 TJ2 0
theorem nmJ2 : ∀ a, a < 0 → ∀ b, b < 0 → a ≠ b → (TJ2 a).2.1 ≠ (TJ2 b).2.1 := by decide +kernel
theorem tyJ2_ok : ∀ k, k < 0 → parseFieldDescriptor (TJ2 k).2.2.1 = some (tyJ2 k) := by decide +kernel
abbrev cJ2_getChar_3b067 : ByteArray := prog_14_method_5_code
def yJ2_getChar_3b067 : MethodName := ⟨RJ2, "getChar", "([BI)C"⟩
abbrev cJ2_length_9d52b : ByteArray := prog_14_method_6_code
def yJ2_length_9d52b : MethodName := ⟨RJ2, "length", "([B)I"⟩
abbrev cJ2_charAt_3b067 : ByteArray := prog_14_method_83_code
def yJ2_charAt_3b067 : MethodName := ⟨RJ2, "charAt", "([BI)C"⟩
abbrev cJ2_checkIndex_2214a : ByteArray := prog_14_method_91_code
def yJ2_checkIndex_2214a : MethodName := ⟨RJ2, "checkIndex", "(I[B)V"⟩
def RJ10 : String := "java/lang/System"
def TJ10 : u_T := fun k => match k with
  | _ => ("", "", "", false)
def tyJ10 : Nat → FieldType := fun k => match k with
  | _ => .int
abbrev wsJ100 : List Cond := u_ws RJ10 TJ10 0
theorem nmJ10 : ∀ a, a < 0 → ∀ b, b < 0 → a ≠ b → (TJ10 a).2.1 ≠ (TJ10 b).2.1 := by decide +kernel
theorem tyJ10_ok : ∀ k, k < 0 → parseFieldDescriptor (TJ10 k).2.2.1 = some (tyJ10 k) := by decide +kernel
def RJxfd54e : String := "java/lang/constant/Constable"
def TJxfd54e : u_T := fun k => match k with
  | _ => ("", "", "", false)
def tyJxfd54e : Nat → FieldType := fun k => match k with
  | _ => .int
abbrev wsJxfd54e0 : List Cond := u_ws RJxfd54e TJxfd54e 0
theorem nmJxfd54e : ∀ a, a < 0 → ∀ b, b < 0 → a ≠ b → (TJxfd54e a).2.1 ≠ (TJxfd54e b).2.1 := by decide +kernel
theorem tyJxfd54e_ok : ∀ k, k < 0 → parseFieldDescriptor (TJxfd54e k).2.2.1 = some (tyJxfd54e k) := by decide +kernel
def RJx3cf43 : String := "java/lang/constant/ConstantDesc"
def TJx3cf43 : u_T := fun k => match k with
  | _ => ("", "", "", false)
def tyJx3cf43 : Nat → FieldType := fun k => match k with
  | _ => .int
abbrev wsJx3cf430 : List Cond := u_ws RJx3cf43 TJx3cf43 0
theorem nmJx3cf43 : ∀ a, a < 0 → ∀ b, b < 0 → a ≠ b → (TJx3cf43 a).2.1 ≠ (TJx3cf43 b).2.1 := by decide +kernel
theorem tyJx3cf43_ok : ∀ k, k < 0 → parseFieldDescriptor (TJx3cf43 k).2.2.1 = some (tyJx3cf43 k) := by decide +kernel
def RJ7 : String := "java/util/Arrays"
def TJ7 : u_T := fun k => match k with
  | _ => ("", "", "", false)
def tyJ7 : Nat → FieldType := fun k => match k with
  | _ => .int
abbrev wsJ70 : List Cond := u_ws RJ7 TJ7 0
theorem nmJ7 : ∀ a, a < 0 → ∀ b, b < 0 → a ≠ b → (TJ7 a).2.1 ≠ (TJ7 b).2.1 := by decide +kernel
theorem tyJ7_ok : ∀ k, k < 0 → parseFieldDescriptor (TJ7 k).2.2.1 = some (tyJ7 k) := by decide +kernel
abbrev cJ7_fill_d0a16 : ByteArray := prog_16_method_101_code
def yJ7_fill_d0a16 : MethodName := ⟨RJ7, "fill", "([JJ)V"⟩
abbrev cJ7_fill_53178 : ByteArray := prog_16_method_103_code
def yJ7_fill_53178 : MethodName := ⟨RJ7, "fill", "([II)V"⟩
def RJ3 : String := "jdk/internal/util/Preconditions"
def TJ3 : u_T := fun k => match k with
  | _ => ("", "", "", false)
def tyJ3 : Nat → FieldType := fun k => match k with
  | _ => .int
abbrev wsJ30 : List Cond := u_ws RJ3 TJ3 0
theorem nmJ3 : ∀ a, a < 0 → ∀ b, b < 0 → a ≠ b → (TJ3 a).2.1 ≠ (TJ3 b).2.1 := by decide +kernel
theorem tyJ3_ok : ∀ k, k < 0 → parseFieldDescriptor (TJ3 k).2.2.1 = some (tyJ3 k) := by decide +kernel
abbrev cJ3_checkIndex_8e157 : ByteArray := prog_17_method_11_code
def yJ3_checkIndex_8e157 : MethodName := ⟨RJ3, "checkIndex", "(IILjava/util/function/BiFunction;)I"⟩
def RL : String := "WallTrumpetsLaw"
abbrev cL_law : ByteArray := code
def yL_law : MethodName := ⟨RL, "law", "([I)Z"⟩
abbrev vwCl : List vw_C := [(RX0, TX0, 4), (RX1, TX1, 8), (RX2, TX2, 3), (RX3, TX3, 6), (RX4, TX4, 3), (RX5, TX5, 8), (RX6, TX6, 10), (RX7, TX7, 25)]
end
section
/-- the words that every method may use: those of the tables that calls keep -/
def jTs : List Cond := lw_tbl.filter goodWord
theorem jTs_of {w : Cond} (i : Nat) (h : tables_1[i]? = some w) (g : goodWord w = true) : w ∈ jTs := List.mem_filter.mpr ⟨List.mem_append_right _ (List.mem_of_getElem? h), g⟩
theorem jTs_sel {w : Cond} (i : Nat) (h : (k2_sels lw_privs)[i]? = some w) (g : goodWord w = true) : w ∈ jTs := List.mem_filter.mpr ⟨List.mem_append_left _ (List.mem_of_getElem? h), g⟩
theorem jTs_tbl {w : Cond} (h : w ∈ jTs) : w ∈ lw_tbl := (List.mem_filter.mp h).1
theorem jTs_good : GoodIn jTs jTs := fun w h => ⟨h, good_of_word (List.mem_filter.mp h).2⟩
theorem tw_0 : Cond.initialized RL ∈ jTs := jTs_of 0 (by decide +kernel) (by decide +kernel)
theorem tw_1 : Cond.initialized RX6 ∈ jTs := jTs_of 1 (by decide +kernel) (by decide +kernel)
theorem tw_2 : Cond.initialized RX4 ∈ jTs := jTs_of 2 (by decide +kernel) (by decide +kernel)
theorem tw_3 : Cond.initialized RX3 ∈ jTs := jTs_of 3 (by decide +kernel) (by decide +kernel)
theorem tw_4 : Cond.initialized RX5 ∈ jTs := jTs_of 4 (by decide +kernel) (by decide +kernel)
theorem tw_5 : Cond.initialized RX2 ∈ jTs := jTs_of 5 (by decide +kernel) (by decide +kernel)
theorem tw_6 : Cond.initialized RX0 ∈ jTs := jTs_of 6 (by decide +kernel) (by decide +kernel)
theorem tw_7 : Cond.initialized RX1 ∈ jTs := jTs_of 7 (by decide +kernel) (by decide +kernel)
theorem tw_8 : Cond.initialized RJ0 ∈ jTs := jTs_of 8 (by decide +kernel) (by decide +kernel)
theorem tw_9 : Cond.initialized RJ1 ∈ jTs := jTs_of 9 (by decide +kernel) (by decide +kernel)
theorem tw_10 : Cond.initialized RJ3 ∈ jTs := jTs_of 10 (by decide +kernel) (by decide +kernel)
theorem tw_11 : Cond.initialized RJ2 ∈ jTs := jTs_of 11 (by decide +kernel) (by decide +kernel)
theorem tw_12 : Cond.initialized RJ7 ∈ jTs := jTs_of 12 (by decide +kernel) (by decide +kernel)
theorem tw_13 : Cond.initialized RJ10 ∈ jTs := jTs_of 13 (by decide +kernel) (by decide +kernel)
theorem tw_14 : Cond.initialized RX7 ∈ jTs := jTs_of 14 (by decide +kernel) (by decide +kernel)
theorem tw_15 : Cond.initialized RJ9 ∈ jTs := jTs_of 15 (by decide +kernel) (by decide +kernel)
theorem tw_16 : Cond.initialized RJ6 ∈ jTs := jTs_of 16 (by decide +kernel) (by decide +kernel)
theorem tw_17 : Cond.classLink RL 7 RX6 ∈ jTs := jTs_of 17 (by decide +kernel) (by decide +kernel)
theorem tw_18 : Cond.instantiable RX6 10 ∈ jTs := jTs_of 18 (by decide +kernel) (by decide +kernel)
theorem tw_19 : Cond.methodLink RL 9 yX6_init ∈ jTs := jTs_of 19 (by decide +kernel) (by decide +kernel)
theorem tw_20 : Cond.instanceMethod yX6_init ∈ jTs := jTs_of 20 (by decide +kernel) (by decide +kernel)
theorem tw_21 : Cond.code yX6_init cX6_init 2 none ∈ jTs := jTs_of 21 (by decide +kernel) (by decide +kernel)
theorem tw_22 : Cond.methodLink RX6 3 objectInit ∈ jTs := jTs_of 22 (by decide +kernel) (by decide +kernel)
theorem tw_23 : Cond.instanceMethod objectInit ∈ jTs := jTs_of 23 (by decide +kernel) (by decide +kernel)
theorem tw_24 : Cond.code objectInit ⟨#[0xb1]⟩ 1 none ∈ jTs := jTs_of 24 (by decide +kernel) (by decide +kernel)
theorem tw_25 : Cond.classLink RX6 9 RX4 ∈ jTs := jTs_of 25 (by decide +kernel) (by decide +kernel)
theorem tw_26 : Cond.instantiable RX4 3 ∈ jTs := jTs_of 26 (by decide +kernel) (by decide +kernel)
theorem tw_28 : Cond.instanceMethod yX4_init ∈ jTs := jTs_of 28 (by decide +kernel) (by decide +kernel)
theorem tw_29 : Cond.code yX4_init cX4_init 1 none ∈ jTs := jTs_of 29 (by decide +kernel) (by decide +kernel)
theorem tw_30 : Cond.methodLink RX4 3 objectInit ∈ jTs := jTs_of 30 (by decide +kernel) (by decide +kernel)
theorem tw_31 : Cond.fieldLink RX4 9 "WallTrumpets$Text" "letters" "[C" ∈ jTs := jTs_of 31 (by decide +kernel) (by decide +kernel)
theorem tw_32 : Cond.fieldLink RX4 15 "WallTrumpets$Text" "numbers" "[I" ∈ jTs := jTs_of 32 (by decide +kernel) (by decide +kernel)
theorem tw_33 : Cond.fieldLink RX4 19 "WallTrumpets$Text" "length" "I" ∈ jTs := jTs_of 33 (by decide +kernel) (by decide +kernel)
theorem tw_34 : Cond.fieldLink RX6 90 "WallTrumpets$Text" "length" "I" ∈ jTs := jTs_of 34 (by decide +kernel) (by decide +kernel)
theorem tw_35 : Cond.laysFinal RX4 "WallTrumpets$Text" "letters" "[C" ∈ jTs := jTs_of 35 (by decide +kernel) (by decide +kernel)
theorem tw_37 : Cond.laysFinal RX4 "WallTrumpets$Text" "numbers" "[I" ∈ jTs := jTs_of 37 (by decide +kernel) (by decide +kernel)
theorem tw_39 : Cond.lays RX4 "WallTrumpets$Text" "length" "I" ∈ jTs := jTs_of 39 (by decide +kernel) (by decide +kernel)
theorem tw_42 : Cond.arrayClass .char ∈ jTs := jTs_of 42 (by decide +kernel) (by decide +kernel)
theorem tw_43 : Cond.arrayClass .int ∈ jTs := jTs_of 43 (by decide +kernel) (by decide +kernel)
theorem tw_44 : Cond.classLink RX6 16 RX3 ∈ jTs := jTs_of 44 (by decide +kernel) (by decide +kernel)
theorem tw_45 : Cond.instantiable RX3 6 ∈ jTs := jTs_of 45 (by decide +kernel) (by decide +kernel)
theorem tw_47 : Cond.instanceMethod yX3_init ∈ jTs := jTs_of 47 (by decide +kernel) (by decide +kernel)
theorem tw_48 : Cond.code yX3_init cX3_init 1 none ∈ jTs := jTs_of 48 (by decide +kernel) (by decide +kernel)
theorem tw_49 : Cond.methodLink RX3 3 objectInit ∈ jTs := jTs_of 49 (by decide +kernel) (by decide +kernel)
theorem tw_50 : Cond.fieldLink RX3 9 "WallTrumpets$Plan" "persons" "I" ∈ jTs := jTs_of 50 (by decide +kernel) (by decide +kernel)
theorem tw_51 : Cond.fieldLink RX1 63 "WallTrumpets$Plan" "persons" "I" ∈ jTs := jTs_of 51 (by decide +kernel) (by decide +kernel)
theorem tw_52 : Cond.fieldLink RX6 92 "WallTrumpets$Plan" "persons" "I" ∈ jTs := jTs_of 52 (by decide +kernel) (by decide +kernel)
theorem tw_53 : Cond.fieldLink RX5 58 "WallTrumpets$Plan" "persons" "I" ∈ jTs := jTs_of 53 (by decide +kernel) (by decide +kernel)
theorem tw_54 : Cond.fieldLink RX3 15 "WallTrumpets$Plan" "stones" "I" ∈ jTs := jTs_of 54 (by decide +kernel) (by decide +kernel)
theorem tw_55 : Cond.fieldLink RX5 54 "WallTrumpets$Plan" "stones" "I" ∈ jTs := jTs_of 55 (by decide +kernel) (by decide +kernel)
theorem tw_56 : Cond.fieldLink RX3 18 "WallTrumpets$Plan" "kind" "[I" ∈ jTs := jTs_of 56 (by decide +kernel) (by decide +kernel)
theorem tw_57 : Cond.fieldLink RX5 55 "WallTrumpets$Plan" "kind" "[I" ∈ jTs := jTs_of 57 (by decide +kernel) (by decide +kernel)
theorem tw_58 : Cond.fieldLink RX6 103 "WallTrumpets$Plan" "kind" "[I" ∈ jTs := jTs_of 58 (by decide +kernel) (by decide +kernel)
theorem tw_59 : Cond.fieldLink RX3 22 "WallTrumpets$Plan" "thick" "[I" ∈ jTs := jTs_of 59 (by decide +kernel) (by decide +kernel)
theorem tw_60 : Cond.fieldLink RX5 38 "WallTrumpets$Plan" "thick" "[I" ∈ jTs := jTs_of 60 (by decide +kernel) (by decide +kernel)
theorem tw_61 : Cond.fieldLink RX6 107 "WallTrumpets$Plan" "thick" "[I" ∈ jTs := jTs_of 61 (by decide +kernel) (by decide +kernel)
theorem tw_62 : Cond.fieldLink RX3 25 "WallTrumpets$Plan" "lean" "[I" ∈ jTs := jTs_of 62 (by decide +kernel) (by decide +kernel)
theorem tw_63 : Cond.fieldLink RX6 110 "WallTrumpets$Plan" "lean" "[I" ∈ jTs := jTs_of 63 (by decide +kernel) (by decide +kernel)
theorem tw_64 : Cond.fieldLink RX5 70 "WallTrumpets$Plan" "lean" "[I" ∈ jTs := jTs_of 64 (by decide +kernel) (by decide +kernel)
theorem tw_65 : Cond.fieldLink RX3 28 "WallTrumpets$Plan" "held" "[I" ∈ jTs := jTs_of 65 (by decide +kernel) (by decide +kernel)
theorem tw_66 : Cond.fieldLink RX5 47 "WallTrumpets$Plan" "held" "[I" ∈ jTs := jTs_of 66 (by decide +kernel) (by decide +kernel)
theorem tw_67 : Cond.lays RX3 "WallTrumpets$Plan" "persons" "I" ∈ jTs := jTs_of 67 (by decide +kernel) (by decide +kernel)
theorem tw_69 : Cond.lays RX3 "WallTrumpets$Plan" "stones" "I" ∈ jTs := jTs_of 69 (by decide +kernel) (by decide +kernel)
theorem tw_71 : Cond.laysFinal RX3 "WallTrumpets$Plan" "kind" "[I" ∈ jTs := jTs_of 71 (by decide +kernel) (by decide +kernel)
theorem tw_73 : Cond.laysFinal RX3 "WallTrumpets$Plan" "thick" "[I" ∈ jTs := jTs_of 73 (by decide +kernel) (by decide +kernel)
theorem tw_75 : Cond.laysFinal RX3 "WallTrumpets$Plan" "lean" "[I" ∈ jTs := jTs_of 75 (by decide +kernel) (by decide +kernel)
theorem tw_77 : Cond.laysFinal RX3 "WallTrumpets$Plan" "held" "[I" ∈ jTs := jTs_of 77 (by decide +kernel) (by decide +kernel)
theorem tw_80 : Cond.classLink RX6 26 RX5 ∈ jTs := jTs_of 80 (by decide +kernel) (by decide +kernel)
theorem tw_81 : Cond.instantiable RX5 8 ∈ jTs := jTs_of 81 (by decide +kernel) (by decide +kernel)
theorem tw_82 : Cond.methodLink RX6 28 yX5_init ∈ jTs := jTs_of 82 (by decide +kernel) (by decide +kernel)
theorem tw_83 : Cond.instanceMethod yX5_init ∈ jTs := jTs_of 83 (by decide +kernel) (by decide +kernel)
theorem tw_84 : Cond.code yX5_init cX5_init 2 none ∈ jTs := jTs_of 84 (by decide +kernel) (by decide +kernel)
theorem tw_85 : Cond.methodLink RX5 3 objectInit ∈ jTs := jTs_of 85 (by decide +kernel) (by decide +kernel)
theorem tw_86 : Cond.fieldLink RX5 34 "WallTrumpets$Town" "plan" "LWallTrumpets$Plan;" ∈ jTs := jTs_of 86 (by decide +kernel) (by decide +kernel)
theorem tw_87 : Cond.fieldLink RX5 9 "WallTrumpets$Town" "thick" "[I" ∈ jTs := jTs_of 87 (by decide +kernel) (by decide +kernel)
theorem tw_88 : Cond.fieldLink RX1 100 "WallTrumpets$Town" "thick" "[I" ∈ jTs := jTs_of 88 (by decide +kernel) (by decide +kernel)
theorem tw_89 : Cond.fieldLink RX6 113 "WallTrumpets$Town" "thick" "[I" ∈ jTs := jTs_of 89 (by decide +kernel) (by decide +kernel)
theorem tw_90 : Cond.fieldLink RX5 15 "WallTrumpets$Town" "rounded" "[I" ∈ jTs := jTs_of 90 (by decide +kernel) (by decide +kernel)
theorem tw_91 : Cond.fieldLink RX6 117 "WallTrumpets$Town" "rounded" "[I" ∈ jTs := jTs_of 91 (by decide +kernel) (by decide +kernel)
theorem tw_92 : Cond.fieldLink RX5 18 "WallTrumpets$Town" "hurt" "[I" ∈ jTs := jTs_of 92 (by decide +kernel) (by decide +kernel)
theorem tw_93 : Cond.fieldLink RX6 120 "WallTrumpets$Town" "hurt" "[I" ∈ jTs := jTs_of 93 (by decide +kernel) (by decide +kernel)
theorem tw_94 : Cond.fieldLink RX5 21 "WallTrumpets$Town" "fell" "[I" ∈ jTs := jTs_of 94 (by decide +kernel) (by decide +kernel)
theorem tw_95 : Cond.fieldLink RX1 97 "WallTrumpets$Town" "fell" "[I" ∈ jTs := jTs_of 95 (by decide +kernel) (by decide +kernel)
theorem tw_96 : Cond.fieldLink RX6 123 "WallTrumpets$Town" "fell" "[I" ∈ jTs := jTs_of 96 (by decide +kernel) (by decide +kernel)
theorem tw_97 : Cond.fieldLink RX5 24 "WallTrumpets$Town" "held" "[I" ∈ jTs := jTs_of 97 (by decide +kernel) (by decide +kernel)
theorem tw_98 : Cond.fieldLink RX5 27 "WallTrumpets$Town" "stones" "I" ∈ jTs := jTs_of 98 (by decide +kernel) (by decide +kernel)
theorem tw_99 : Cond.fieldLink RX6 159 "WallTrumpets$Town" "stones" "I" ∈ jTs := jTs_of 99 (by decide +kernel) (by decide +kernel)
theorem tw_100 : Cond.fieldLink RX5 31 "WallTrumpets$Town" "days" "I" ∈ jTs := jTs_of 100 (by decide +kernel) (by decide +kernel)
theorem tw_101 : Cond.fieldLink RX6 152 "WallTrumpets$Town" "days" "I" ∈ jTs := jTs_of 101 (by decide +kernel) (by decide +kernel)
theorem tw_102 : Cond.laysFinal RX5 "WallTrumpets$Town" "plan" "LWallTrumpets$Plan;" ∈ jTs := jTs_of 102 (by decide +kernel) (by decide +kernel)
theorem tw_104 : Cond.laysFinal RX5 "WallTrumpets$Town" "thick" "[I" ∈ jTs := jTs_of 104 (by decide +kernel) (by decide +kernel)
theorem tw_106 : Cond.laysFinal RX5 "WallTrumpets$Town" "rounded" "[I" ∈ jTs := jTs_of 106 (by decide +kernel) (by decide +kernel)
theorem tw_108 : Cond.laysFinal RX5 "WallTrumpets$Town" "hurt" "[I" ∈ jTs := jTs_of 108 (by decide +kernel) (by decide +kernel)
theorem tw_110 : Cond.laysFinal RX5 "WallTrumpets$Town" "fell" "[I" ∈ jTs := jTs_of 110 (by decide +kernel) (by decide +kernel)
theorem tw_112 : Cond.laysFinal RX5 "WallTrumpets$Town" "held" "[I" ∈ jTs := jTs_of 112 (by decide +kernel) (by decide +kernel)
theorem tw_114 : Cond.lays RX5 "WallTrumpets$Town" "stones" "I" ∈ jTs := jTs_of 114 (by decide +kernel) (by decide +kernel)
theorem tw_116 : Cond.lays RX5 "WallTrumpets$Town" "days" "I" ∈ jTs := jTs_of 116 (by decide +kernel) (by decide +kernel)
theorem tw_119 : Cond.classLink RX6 38 RX2 ∈ jTs := jTs_of 119 (by decide +kernel) (by decide +kernel)
theorem tw_120 : Cond.instantiable RX2 3 ∈ jTs := jTs_of 120 (by decide +kernel) (by decide +kernel)
theorem tw_121 : Cond.methodLink RX6 40 yX2_init ∈ jTs := jTs_of 121 (by decide +kernel) (by decide +kernel)
theorem tw_122 : Cond.instanceMethod yX2_init ∈ jTs := jTs_of 122 (by decide +kernel) (by decide +kernel)
theorem tw_123 : Cond.code yX2_init cX2_init 3 none ∈ jTs := jTs_of 123 (by decide +kernel) (by decide +kernel)
theorem tw_124 : Cond.methodLink RX2 3 objectInit ∈ jTs := jTs_of 124 (by decide +kernel) (by decide +kernel)
theorem tw_125 : Cond.classLink RX2 9 RX5 ∈ jTs := jTs_of 125 (by decide +kernel) (by decide +kernel)
theorem tw_127 : Cond.methodLink RX2 24 yX5_init ∈ jTs := jTs_of 127 (by decide +kernel) (by decide +kernel)
theorem tw_128 : Cond.fieldLink RX2 11 "WallTrumpets$Past" "towns" "[LWallTrumpets$Town;" ∈ jTs := jTs_of 128 (by decide +kernel) (by decide +kernel)
theorem tw_129 : Cond.fieldLink RX2 17 "WallTrumpets$Past" "next" "I" ∈ jTs := jTs_of 129 (by decide +kernel) (by decide +kernel)
theorem tw_130 : Cond.fieldLink RX2 21 "WallTrumpets$Past" "count" "I" ∈ jTs := jTs_of 130 (by decide +kernel) (by decide +kernel)
theorem tw_131 : Cond.fieldLink RX6 95 "WallTrumpets$Past" "count" "I" ∈ jTs := jTs_of 131 (by decide +kernel) (by decide +kernel)
theorem tw_132 : Cond.laysFinal RX2 "WallTrumpets$Past" "towns" "[LWallTrumpets$Town;" ∈ jTs := jTs_of 132 (by decide +kernel) (by decide +kernel)
theorem tw_134 : Cond.lays RX2 "WallTrumpets$Past" "next" "I" ∈ jTs := jTs_of 134 (by decide +kernel) (by decide +kernel)
theorem tw_136 : Cond.lays RX2 "WallTrumpets$Past" "count" "I" ∈ jTs := jTs_of 136 (by decide +kernel) (by decide +kernel)
theorem tw_139 : Cond.classLink RX6 53 RX0 ∈ jTs := jTs_of 139 (by decide +kernel) (by decide +kernel)
theorem tw_140 : Cond.instantiable RX0 4 ∈ jTs := jTs_of 140 (by decide +kernel) (by decide +kernel)
theorem tw_142 : Cond.instanceMethod yX0_init ∈ jTs := jTs_of 142 (by decide +kernel) (by decide +kernel)
theorem tw_143 : Cond.code yX0_init cX0_init 1 none ∈ jTs := jTs_of 143 (by decide +kernel) (by decide +kernel)
theorem tw_144 : Cond.methodLink RX0 3 objectInit ∈ jTs := jTs_of 144 (by decide +kernel) (by decide +kernel)
theorem tw_145 : Cond.fieldLink RX0 9 "WallTrumpets$Notes" "trumpets" "[I" ∈ jTs := jTs_of 145 (by decide +kernel) (by decide +kernel)
theorem tw_146 : Cond.fieldLink RX0 15 "WallTrumpets$Notes" "rounded" "[I" ∈ jTs := jTs_of 146 (by decide +kernel) (by decide +kernel)
theorem tw_147 : Cond.fieldLink RX0 18 "WallTrumpets$Notes" "felled" "[I" ∈ jTs := jTs_of 147 (by decide +kernel) (by decide +kernel)
theorem tw_148 : Cond.fieldLink RX0 21 "WallTrumpets$Notes" "count" "I" ∈ jTs := jTs_of 148 (by decide +kernel) (by decide +kernel)
theorem tw_149 : Cond.fieldLink RX6 98 "WallTrumpets$Notes" "count" "I" ∈ jTs := jTs_of 149 (by decide +kernel) (by decide +kernel)
theorem tw_150 : Cond.laysFinal RX0 "WallTrumpets$Notes" "trumpets" "[I" ∈ jTs := jTs_of 150 (by decide +kernel) (by decide +kernel)
theorem tw_152 : Cond.laysFinal RX0 "WallTrumpets$Notes" "rounded" "[I" ∈ jTs := jTs_of 152 (by decide +kernel) (by decide +kernel)
theorem tw_154 : Cond.laysFinal RX0 "WallTrumpets$Notes" "felled" "[I" ∈ jTs := jTs_of 154 (by decide +kernel) (by decide +kernel)
theorem tw_156 : Cond.lays RX0 "WallTrumpets$Notes" "count" "I" ∈ jTs := jTs_of 156 (by decide +kernel) (by decide +kernel)
theorem tw_159 : Cond.classLink RX6 60 RX1 ∈ jTs := jTs_of 159 (by decide +kernel) (by decide +kernel)
theorem tw_160 : Cond.instantiable RX1 8 ∈ jTs := jTs_of 160 (by decide +kernel) (by decide +kernel)
theorem tw_161 : Cond.methodLink RX6 62 yX1_init ∈ jTs := jTs_of 161 (by decide +kernel) (by decide +kernel)
theorem tw_162 : Cond.instanceMethod yX1_init ∈ jTs := jTs_of 162 (by decide +kernel) (by decide +kernel)
theorem tw_163 : Cond.code yX1_init cX1_init 3 none ∈ jTs := jTs_of 163 (by decide +kernel) (by decide +kernel)
theorem tw_164 : Cond.methodLink RX1 3 objectInit ∈ jTs := jTs_of 164 (by decide +kernel) (by decide +kernel)
theorem tw_165 : Cond.classLink RX1 9 RX5 ∈ jTs := jTs_of 165 (by decide +kernel) (by decide +kernel)
theorem tw_166 : Cond.methodLink RX1 42 yX5_init ∈ jTs := jTs_of 166 (by decide +kernel) (by decide +kernel)
theorem tw_167 : Cond.fieldLink RX1 38 "WallTrumpets$OrderSearch" "plan" "LWallTrumpets$Plan;" ∈ jTs := jTs_of 167 (by decide +kernel) (by decide +kernel)
theorem tw_168 : Cond.fieldLink RX1 11 "WallTrumpets$OrderSearch" "towns" "[LWallTrumpets$Town;" ∈ jTs := jTs_of 168 (by decide +kernel) (by decide +kernel)
theorem tw_169 : Cond.fieldLink RX1 17 "WallTrumpets$OrderSearch" "path" "[I" ∈ jTs := jTs_of 169 (by decide +kernel) (by decide +kernel)
theorem tw_170 : Cond.fieldLink RX1 21 "WallTrumpets$OrderSearch" "best" "[I" ∈ jTs := jTs_of 170 (by decide +kernel) (by decide +kernel)
theorem tw_171 : Cond.fieldLink RX6 189 "WallTrumpets$OrderSearch" "best" "[I" ∈ jTs := jTs_of 171 (by decide +kernel) (by decide +kernel)
theorem tw_172 : Cond.fieldLink RX1 24 "WallTrumpets$OrderSearch" "seen" "[J" ∈ jTs := jTs_of 172 (by decide +kernel) (by decide +kernel)
theorem tw_173 : Cond.fieldLink RX1 28 "WallTrumpets$OrderSearch" "seenBy" "[I" ∈ jTs := jTs_of 173 (by decide +kernel) (by decide +kernel)
theorem tw_174 : Cond.fieldLink RX1 31 "WallTrumpets$OrderSearch" "length" "I" ∈ jTs := jTs_of 174 (by decide +kernel) (by decide +kernel)
theorem tw_175 : Cond.fieldLink RX6 188 "WallTrumpets$OrderSearch" "length" "I" ∈ jTs := jTs_of 175 (by decide +kernel) (by decide +kernel)
theorem tw_176 : Cond.fieldLink RX1 35 "WallTrumpets$OrderSearch" "fewest" "I" ∈ jTs := jTs_of 176 (by decide +kernel) (by decide +kernel)
theorem tw_177 : Cond.fieldLink RX6 185 "WallTrumpets$OrderSearch" "fewest" "I" ∈ jTs := jTs_of 177 (by decide +kernel) (by decide +kernel)
theorem tw_178 : Cond.laysFinal RX1 "WallTrumpets$OrderSearch" "plan" "LWallTrumpets$Plan;" ∈ jTs := jTs_of 178 (by decide +kernel) (by decide +kernel)
theorem tw_180 : Cond.laysFinal RX1 "WallTrumpets$OrderSearch" "towns" "[LWallTrumpets$Town;" ∈ jTs := jTs_of 180 (by decide +kernel) (by decide +kernel)
theorem tw_182 : Cond.laysFinal RX1 "WallTrumpets$OrderSearch" "path" "[I" ∈ jTs := jTs_of 182 (by decide +kernel) (by decide +kernel)
theorem tw_184 : Cond.laysFinal RX1 "WallTrumpets$OrderSearch" "best" "[I" ∈ jTs := jTs_of 184 (by decide +kernel) (by decide +kernel)
theorem tw_186 : Cond.laysFinal RX1 "WallTrumpets$OrderSearch" "seen" "[J" ∈ jTs := jTs_of 186 (by decide +kernel) (by decide +kernel)
theorem tw_188 : Cond.laysFinal RX1 "WallTrumpets$OrderSearch" "seenBy" "[I" ∈ jTs := jTs_of 188 (by decide +kernel) (by decide +kernel)
theorem tw_190 : Cond.lays RX1 "WallTrumpets$OrderSearch" "length" "I" ∈ jTs := jTs_of 190 (by decide +kernel) (by decide +kernel)
theorem tw_192 : Cond.lays RX1 "WallTrumpets$OrderSearch" "fewest" "I" ∈ jTs := jTs_of 192 (by decide +kernel) (by decide +kernel)
theorem tw_195 : Cond.arrayClass .long ∈ jTs := jTs_of 195 (by decide +kernel) (by decide +kernel)
theorem tw_197 : Cond.methodLink RX6 69 yJ0_length_8abf5 ∈ jTs := jTs_of 197 (by decide +kernel) (by decide +kernel)
theorem tw_198 : Cond.instanceMethod yJ0_length_8abf5 ∈ jTs := jTs_of 198 (by decide +kernel) (by decide +kernel)
theorem tw_199 : Cond.selects RJ0 yJ0_length_8abf5 yJ0_length_8abf5 ∈ jTs := jTs_of 199 (by decide +kernel) (by decide +kernel)
theorem tw_200 : Cond.code yJ0_length_8abf5 cJ0_length_8abf5 1 (some .int) ∈ jTs := jTs_of 200 (by decide +kernel) (by decide +kernel)
theorem tw_201 : Cond.methodLink RJ0 335 yJ0_coder_7d493 ∈ jTs := jTs_of 201 (by decide +kernel) (by decide +kernel)
theorem tw_202 : Cond.instanceMethod yJ0_coder_7d493 ∈ jTs := jTs_of 202 (by decide +kernel) (by decide +kernel)
theorem tw_203 : Cond.selects RJ0 yJ0_coder_7d493 yJ0_coder_7d493 ∈ jTs := jTs_of 203 (by decide +kernel) (by decide +kernel)
theorem tw_204 : Cond.code yJ0_coder_7d493 cJ0_coder_7d493 1 (some .byte) ∈ jTs := jTs_of 204 (by decide +kernel) (by decide +kernel)
theorem tw_205 : Cond.fieldLink RJ0 38 "java/lang/String" "COMPACT_STRINGS" "Z" ∈ jTs := jTs_of 205 (by decide +kernel) (by decide +kernel)
theorem tw_207 : Cond.methodLink RX6 75 yJ0_charAt_5068e ∈ jTs := jTs_of 207 (by decide +kernel) (by decide +kernel)
theorem tw_208 : Cond.instanceMethod yJ0_charAt_5068e ∈ jTs := jTs_of 208 (by decide +kernel) (by decide +kernel)
theorem tw_209 : Cond.selects RJ0 yJ0_charAt_5068e yJ0_charAt_5068e ∈ jTs := jTs_of 209 (by decide +kernel) (by decide +kernel)
theorem tw_210 : Cond.code yJ0_charAt_5068e cJ0_charAt_5068e 2 (some .char) ∈ jTs := jTs_of 210 (by decide +kernel) (by decide +kernel)
theorem tw_211 : Cond.methodLink RJ0 492 yJ0_isLatin1_aae02 ∈ jTs := jTs_of 211 (by decide +kernel) (by decide +kernel)
theorem tw_212 : Cond.instanceMethod yJ0_isLatin1_aae02 ∈ jTs := jTs_of 212 (by decide +kernel) (by decide +kernel)
theorem tw_213 : Cond.selects RJ0 yJ0_isLatin1_aae02 yJ0_isLatin1_aae02 ∈ jTs := jTs_of 213 (by decide +kernel) (by decide +kernel)
theorem tw_214 : Cond.code yJ0_isLatin1_aae02 cJ0_isLatin1_aae02 1 (some .boolean) ∈ jTs := jTs_of 214 (by decide +kernel) (by decide +kernel)
theorem tw_215 : Cond.methodLink RJ0 495 yJ1_charAt_3b067 ∈ jTs := jTs_of 215 (by decide +kernel) (by decide +kernel)
theorem tw_216 : Cond.static yJ1_charAt_3b067 ∈ jTs := jTs_of 216 (by decide +kernel) (by decide +kernel)
theorem tw_217 : Cond.code yJ1_charAt_3b067 cJ1_charAt_3b067 2 (some .char) ∈ jTs := jTs_of 217 (by decide +kernel) (by decide +kernel)
theorem tw_218 : Cond.methodLink RJ1 9 yJ0_checkIndex_df160 ∈ jTs := jTs_of 218 (by decide +kernel) (by decide +kernel)
theorem tw_219 : Cond.static yJ0_checkIndex_df160 ∈ jTs := jTs_of 219 (by decide +kernel) (by decide +kernel)
theorem tw_220 : Cond.code yJ0_checkIndex_df160 cJ0_checkIndex_df160 2 none ∈ jTs := jTs_of 220 (by decide +kernel) (by decide +kernel)
theorem tw_221 : Cond.fieldLink RJ0 1053 "jdk/internal/util/Preconditions" "SIOOBE_FORMATTER" "Ljava/util/function/BiFunction;" ∈ jTs := jTs_of 221 (by decide +kernel) (by decide +kernel)
theorem tw_223 : Cond.methodLink RJ0 1059 yJ3_checkIndex_8e157 ∈ jTs := jTs_of 223 (by decide +kernel) (by decide +kernel)
theorem tw_224 : Cond.static yJ3_checkIndex_8e157 ∈ jTs := jTs_of 224 (by decide +kernel) (by decide +kernel)
theorem tw_225 : Cond.code yJ3_checkIndex_8e157 cJ3_checkIndex_8e157 3 (some .int) ∈ jTs := jTs_of 225 (by decide +kernel) (by decide +kernel)
theorem tw_226 : Cond.methodLink RJ0 498 yJ2_charAt_3b067 ∈ jTs := jTs_of 226 (by decide +kernel) (by decide +kernel)
theorem tw_227 : Cond.static yJ2_charAt_3b067 ∈ jTs := jTs_of 227 (by decide +kernel) (by decide +kernel)
theorem tw_228 : Cond.code yJ2_charAt_3b067 cJ2_charAt_3b067 2 (some .char) ∈ jTs := jTs_of 228 (by decide +kernel) (by decide +kernel)
theorem tw_229 : Cond.methodLink RJ2 67 yJ2_checkIndex_2214a ∈ jTs := jTs_of 229 (by decide +kernel) (by decide +kernel)
theorem tw_230 : Cond.static yJ2_checkIndex_2214a ∈ jTs := jTs_of 230 (by decide +kernel) (by decide +kernel)
theorem tw_231 : Cond.code yJ2_checkIndex_2214a cJ2_checkIndex_2214a 2 none ∈ jTs := jTs_of 231 (by decide +kernel) (by decide +kernel)
theorem tw_232 : Cond.methodLink RJ2 48 yJ2_length_9d52b ∈ jTs := jTs_of 232 (by decide +kernel) (by decide +kernel)
theorem tw_233 : Cond.static yJ2_length_9d52b ∈ jTs := jTs_of 233 (by decide +kernel) (by decide +kernel)
theorem tw_234 : Cond.code yJ2_length_9d52b cJ2_length_9d52b 1 (some .int) ∈ jTs := jTs_of 234 (by decide +kernel) (by decide +kernel)
theorem tw_235 : Cond.methodLink RJ2 414 yJ0_checkIndex_df160 ∈ jTs := jTs_of 235 (by decide +kernel) (by decide +kernel)
theorem tw_236 : Cond.methodLink RJ2 71 yJ2_getChar_3b067 ∈ jTs := jTs_of 236 (by decide +kernel) (by decide +kernel)
theorem tw_237 : Cond.static yJ2_getChar_3b067 ∈ jTs := jTs_of 237 (by decide +kernel) (by decide +kernel)
theorem tw_238 : Cond.code yJ2_getChar_3b067 cJ2_getChar_3b067 2 (some .char) ∈ jTs := jTs_of 238 (by decide +kernel) (by decide +kernel)
theorem tw_239 : Cond.fieldLink RJ2 44 "java/lang/StringUTF16" "$assertionsDisabled" "Z" ∈ jTs := jTs_of 239 (by decide +kernel) (by decide +kernel)
theorem tw_241 : Cond.fieldLink RJ2 59 "java/lang/StringUTF16" "HI_BYTE_SHIFT" "I" ∈ jTs := jTs_of 241 (by decide +kernel) (by decide +kernel)
theorem tw_243 : Cond.fieldLink RJ2 63 "java/lang/StringUTF16" "LO_BYTE_SHIFT" "I" ∈ jTs := jTs_of 243 (by decide +kernel) (by decide +kernel)
theorem tw_245 : Cond.methodLink RX6 79 yX4_add ∈ jTs := jTs_of 245 (by decide +kernel) (by decide +kernel)
theorem tw_246 : Cond.instanceMethod yX4_add ∈ jTs := jTs_of 246 (by decide +kernel) (by decide +kernel)
theorem tw_247 : Cond.selects RX4 yX4_add yX4_add ∈ jTs := jTs_of 247 (by decide +kernel) (by decide +kernel)
theorem tw_248 : Cond.code yX4_add cX4_add 2 none ∈ jTs := jTs_of 248 (by decide +kernel) (by decide +kernel)
theorem tw_249 : Cond.methodLink RX6 83 yX4_readInto ∈ jTs := jTs_of 249 (by decide +kernel) (by decide +kernel)
theorem tw_250 : Cond.instanceMethod yX4_readInto ∈ jTs := jTs_of 250 (by decide +kernel) (by decide +kernel)
theorem tw_251 : Cond.selects RX4 yX4_readInto yX4_readInto ∈ jTs := jTs_of 251 (by decide +kernel) (by decide +kernel)
theorem tw_252 : Cond.code yX4_readInto cX4_readInto 5 (some .int) ∈ jTs := jTs_of 252 (by decide +kernel) (by decide +kernel)
theorem tw_253 : Cond.methodLink RX4 23 yX3_clear ∈ jTs := jTs_of 253 (by decide +kernel) (by decide +kernel)
theorem tw_254 : Cond.instanceMethod yX3_clear ∈ jTs := jTs_of 254 (by decide +kernel) (by decide +kernel)
theorem tw_255 : Cond.selects RX3 yX3_clear yX3_clear ∈ jTs := jTs_of 255 (by decide +kernel) (by decide +kernel)
theorem tw_256 : Cond.code yX3_clear cX3_clear 1 none ∈ jTs := jTs_of 256 (by decide +kernel) (by decide +kernel)
theorem tw_257 : Cond.methodLink RX3 31 yJ7_fill_53178 ∈ jTs := jTs_of 257 (by decide +kernel) (by decide +kernel)
theorem tw_258 : Cond.static yJ7_fill_53178 ∈ jTs := jTs_of 258 (by decide +kernel) (by decide +kernel)
theorem tw_259 : Cond.code yJ7_fill_53178 cJ7_fill_53178 4 none ∈ jTs := jTs_of 259 (by decide +kernel) (by decide +kernel)
theorem tw_260 : Cond.methodLink RX4 28 yX4_readItem ∈ jTs := jTs_of 260 (by decide +kernel) (by decide +kernel)
theorem tw_262 : Cond.instanceMethod yX4_readItem ∈ jTs := jTs_of 262 (by decide +kernel) (by decide +kernel)
theorem tw_263 : Cond.code yX4_readItem cX4_readItem 8 (some .int) ∈ jTs := jTs_of 263 (by decide +kernel) (by decide +kernel)
theorem tw_264 : Cond.methodLink RX4 32 yX4_letterAt ∈ jTs := jTs_of 264 (by decide +kernel) (by decide +kernel)
theorem tw_266 : Cond.instanceMethod yX4_letterAt ∈ jTs := jTs_of 266 (by decide +kernel) (by decide +kernel)
theorem tw_267 : Cond.code yX4_letterAt cX4_letterAt 2 (some .char) ∈ jTs := jTs_of 267 (by decide +kernel) (by decide +kernel)
theorem tw_268 : Cond.methodLink RX4 36 yX4_figuresAt ∈ jTs := jTs_of 268 (by decide +kernel) (by decide +kernel)
theorem tw_270 : Cond.instanceMethod yX4_figuresAt ∈ jTs := jTs_of 270 (by decide +kernel) (by decide +kernel)
theorem tw_271 : Cond.code yX4_figuresAt cX4_figuresAt 2 (some .int) ∈ jTs := jTs_of 271 (by decide +kernel) (by decide +kernel)
theorem tw_272 : Cond.methodLink RX4 48 yX4_isFigure ∈ jTs := jTs_of 272 (by decide +kernel) (by decide +kernel)
theorem tw_274 : Cond.instanceMethod yX4_isFigure ∈ jTs := jTs_of 274 (by decide +kernel) (by decide +kernel)
theorem tw_275 : Cond.code yX4_isFigure cX4_isFigure 2 (some .boolean) ∈ jTs := jTs_of 275 (by decide +kernel) (by decide +kernel)
theorem tw_276 : Cond.methodLink RX4 40 yX4_numberAt ∈ jTs := jTs_of 276 (by decide +kernel) (by decide +kernel)
theorem tw_278 : Cond.instanceMethod yX4_numberAt ∈ jTs := jTs_of 278 (by decide +kernel) (by decide +kernel)
theorem tw_279 : Cond.code yX4_numberAt cX4_numberAt 4 (some .int) ∈ jTs := jTs_of 279 (by decide +kernel) (by decide +kernel)
theorem tw_280 : Cond.methodLink RX4 44 yX3_take ∈ jTs := jTs_of 280 (by decide +kernel) (by decide +kernel)
theorem tw_281 : Cond.instanceMethod yX3_take ∈ jTs := jTs_of 281 (by decide +kernel) (by decide +kernel)
theorem tw_282 : Cond.selects RX3 yX3_take yX3_take ∈ jTs := jTs_of 282 (by decide +kernel) (by decide +kernel)
theorem tw_283 : Cond.code yX3_take cX3_take 5 (some .boolean) ∈ jTs := jTs_of 283 (by decide +kernel) (by decide +kernel)
theorem tw_284 : Cond.methodLink RX3 37 yX3_takeWall ∈ jTs := jTs_of 284 (by decide +kernel) (by decide +kernel)
theorem tw_286 : Cond.instanceMethod yX3_takeWall ∈ jTs := jTs_of 286 (by decide +kernel) (by decide +kernel)
theorem tw_287 : Cond.code yX3_takeWall cX3_takeWall 4 (some .boolean) ∈ jTs := jTs_of 287 (by decide +kernel) (by decide +kernel)
theorem tw_289 : Cond.static yX6_isOutside ∈ jTs := jTs_of 289 (by decide +kernel) (by decide +kernel)
theorem tw_290 : Cond.code yX6_isOutside cX6_isOutside 3 (some .boolean) ∈ jTs := jTs_of 290 (by decide +kernel) (by decide +kernel)
theorem tw_291 : Cond.methodLink RX3 41 yX3_takeProp ∈ jTs := jTs_of 291 (by decide +kernel) (by decide +kernel)
theorem tw_293 : Cond.instanceMethod yX3_takeProp ∈ jTs := jTs_of 293 (by decide +kernel) (by decide +kernel)
theorem tw_294 : Cond.code yX3_takeProp cX3_takeProp 4 (some .boolean) ∈ jTs := jTs_of 294 (by decide +kernel) (by decide +kernel)
theorem tw_295 : Cond.methodLink RX6 87 yX5_layOut ∈ jTs := jTs_of 295 (by decide +kernel) (by decide +kernel)
theorem tw_296 : Cond.instanceMethod yX5_layOut ∈ jTs := jTs_of 296 (by decide +kernel) (by decide +kernel)
theorem tw_297 : Cond.selects RX5 yX5_layOut yX5_layOut ∈ jTs := jTs_of 297 (by decide +kernel) (by decide +kernel)
theorem tw_298 : Cond.code yX5_layOut cX5_layOut 1 none ∈ jTs := jTs_of 298 (by decide +kernel) (by decide +kernel)
theorem tw_299 : Cond.methodLink RX5 41 arraycopyName ∈ jTs := jTs_of 299 (by decide +kernel) (by decide +kernel)
theorem tw_300 : Cond.static arraycopyName ∈ jTs := jTs_of 300 (by decide +kernel) (by decide +kernel)
theorem tw_301 : Cond.native arraycopyName ∈ jTs := jTs_of 301 (by decide +kernel) (by decide +kernel)
theorem tw_302 : Cond.methodLink RX5 48 yJ7_fill_53178 ∈ jTs := jTs_of 302 (by decide +kernel) (by decide +kernel)
theorem tw_303 : Cond.fieldLink RX6 12 "WallTrumpets" "text" "LWallTrumpets$Text;" ∈ jTs := jTs_of 303 (by decide +kernel) (by decide +kernel)
theorem tw_304 : Cond.fieldLink RX6 19 "WallTrumpets" "draft" "LWallTrumpets$Plan;" ∈ jTs := jTs_of 304 (by decide +kernel) (by decide +kernel)
theorem tw_305 : Cond.fieldLink RX6 23 "WallTrumpets" "plan" "LWallTrumpets$Plan;" ∈ jTs := jTs_of 305 (by decide +kernel) (by decide +kernel)
theorem tw_306 : Cond.fieldLink RX6 31 "WallTrumpets" "now" "LWallTrumpets$Town;" ∈ jTs := jTs_of 306 (by decide +kernel) (by decide +kernel)
theorem tw_307 : Cond.fieldLink RX6 35 "WallTrumpets" "trial" "LWallTrumpets$Town;" ∈ jTs := jTs_of 307 (by decide +kernel) (by decide +kernel)
theorem tw_308 : Cond.fieldLink RX6 41 "WallTrumpets" "past" "LWallTrumpets$Past;" ∈ jTs := jTs_of 308 (by decide +kernel) (by decide +kernel)
theorem tw_309 : Cond.fieldLink RX6 45 "WallTrumpets" "kept" "[LWallTrumpets$Town;" ∈ jTs := jTs_of 309 (by decide +kernel) (by decide +kernel)
theorem tw_310 : Cond.fieldLink RX6 49 "WallTrumpets" "keptCount" "I" ∈ jTs := jTs_of 310 (by decide +kernel) (by decide +kernel)
theorem tw_311 : Cond.fieldLink RX6 56 "WallTrumpets" "notes" "LWallTrumpets$Notes;" ∈ jTs := jTs_of 311 (by decide +kernel) (by decide +kernel)
theorem tw_312 : Cond.fieldLink RX6 63 "WallTrumpets" "search" "LWallTrumpets$OrderSearch;" ∈ jTs := jTs_of 312 (by decide +kernel) (by decide +kernel)
theorem tw_313 : Cond.laysFinal RX6 "WallTrumpets" "text" "LWallTrumpets$Text;" ∈ jTs := jTs_of 313 (by decide +kernel) (by decide +kernel)
theorem tw_315 : Cond.laysFinal RX6 "WallTrumpets" "draft" "LWallTrumpets$Plan;" ∈ jTs := jTs_of 315 (by decide +kernel) (by decide +kernel)
theorem tw_317 : Cond.laysFinal RX6 "WallTrumpets" "plan" "LWallTrumpets$Plan;" ∈ jTs := jTs_of 317 (by decide +kernel) (by decide +kernel)
theorem tw_319 : Cond.laysFinal RX6 "WallTrumpets" "now" "LWallTrumpets$Town;" ∈ jTs := jTs_of 319 (by decide +kernel) (by decide +kernel)
theorem tw_321 : Cond.laysFinal RX6 "WallTrumpets" "trial" "LWallTrumpets$Town;" ∈ jTs := jTs_of 321 (by decide +kernel) (by decide +kernel)
theorem tw_323 : Cond.laysFinal RX6 "WallTrumpets" "past" "LWallTrumpets$Past;" ∈ jTs := jTs_of 323 (by decide +kernel) (by decide +kernel)
theorem tw_325 : Cond.laysFinal RX6 "WallTrumpets" "kept" "[LWallTrumpets$Town;" ∈ jTs := jTs_of 325 (by decide +kernel) (by decide +kernel)
theorem tw_327 : Cond.lays RX6 "WallTrumpets" "keptCount" "I" ∈ jTs := jTs_of 327 (by decide +kernel) (by decide +kernel)
theorem tw_329 : Cond.laysFinal RX6 "WallTrumpets" "notes" "LWallTrumpets$Notes;" ∈ jTs := jTs_of 329 (by decide +kernel) (by decide +kernel)
theorem tw_331 : Cond.laysFinal RX6 "WallTrumpets" "search" "LWallTrumpets$OrderSearch;" ∈ jTs := jTs_of 331 (by decide +kernel) (by decide +kernel)
theorem tw_334 : Cond.arrayClass .byte ∈ jTs := jTs_of 334 (by decide +kernel) (by decide +kernel)
theorem tw_335 : Cond.methodLink RL 13 yX6_write ∈ jTs := jTs_of 335 (by decide +kernel) (by decide +kernel)
theorem tw_336 : Cond.instanceMethod yX6_write ∈ jTs := jTs_of 336 (by decide +kernel) (by decide +kernel)
theorem tw_337 : Cond.selects RX6 yX6_write yX6_write ∈ jTs := jTs_of 337 (by decide +kernel) (by decide +kernel)
theorem tw_338 : Cond.code yX6_write cX6_write 2 (some .int) ∈ jTs := jTs_of 338 (by decide +kernel) (by decide +kernel)
theorem tw_339 : Cond.methodLink RL 18 yX6_wipe ∈ jTs := jTs_of 339 (by decide +kernel) (by decide +kernel)
theorem tw_340 : Cond.instanceMethod yX6_wipe ∈ jTs := jTs_of 340 (by decide +kernel) (by decide +kernel)
theorem tw_341 : Cond.selects RX6 yX6_wipe yX6_wipe ∈ jTs := jTs_of 341 (by decide +kernel) (by decide +kernel)
theorem tw_342 : Cond.code yX6_wipe cX6_wipe 2 (some .int) ∈ jTs := jTs_of 342 (by decide +kernel) (by decide +kernel)
theorem tw_343 : Cond.methodLink RL 23 yX6_fault ∈ jTs := jTs_of 343 (by decide +kernel) (by decide +kernel)
theorem tw_344 : Cond.instanceMethod yX6_fault ∈ jTs := jTs_of 344 (by decide +kernel) (by decide +kernel)
theorem tw_345 : Cond.selects RX6 yX6_fault yX6_fault ∈ jTs := jTs_of 345 (by decide +kernel) (by decide +kernel)
theorem tw_346 : Cond.code yX6_fault cX6_fault 1 (some .int) ∈ jTs := jTs_of 346 (by decide +kernel) (by decide +kernel)
theorem tw_347 : Cond.methodLink RL 27 yX6_lay ∈ jTs := jTs_of 347 (by decide +kernel) (by decide +kernel)
theorem tw_348 : Cond.instanceMethod yX6_lay ∈ jTs := jTs_of 348 (by decide +kernel) (by decide +kernel)
theorem tw_349 : Cond.selects RX6 yX6_lay yX6_lay ∈ jTs := jTs_of 349 (by decide +kernel) (by decide +kernel)
theorem tw_350 : Cond.code yX6_lay cX6_lay 1 (some .int) ∈ jTs := jTs_of 350 (by decide +kernel) (by decide +kernel)
theorem tw_351 : Cond.methodLink RL 31 yX6_wall ∈ jTs := jTs_of 351 (by decide +kernel) (by decide +kernel)
theorem tw_352 : Cond.instanceMethod yX6_wall ∈ jTs := jTs_of 352 (by decide +kernel) (by decide +kernel)
theorem tw_353 : Cond.selects RX6 yX6_wall yX6_wall ∈ jTs := jTs_of 353 (by decide +kernel) (by decide +kernel)
theorem tw_354 : Cond.code yX6_wall cX6_wall 3 (some .int) ∈ jTs := jTs_of 354 (by decide +kernel) (by decide +kernel)
theorem tw_355 : Cond.methodLink RX6 99 yX6_isNoWall ∈ jTs := jTs_of 355 (by decide +kernel) (by decide +kernel)
theorem tw_357 : Cond.instanceMethod yX6_isNoWall ∈ jTs := jTs_of 357 (by decide +kernel) (by decide +kernel)
theorem tw_358 : Cond.code yX6_isNoWall cX6_isNoWall 2 (some .boolean) ∈ jTs := jTs_of 358 (by decide +kernel) (by decide +kernel)
theorem tw_359 : Cond.methodLink RX6 142 yX6_isOutside ∈ jTs := jTs_of 359 (by decide +kernel) (by decide +kernel)
theorem tw_360 : Cond.methodLink RX6 114 yX5_stands ∈ jTs := jTs_of 360 (by decide +kernel) (by decide +kernel)
theorem tw_361 : Cond.instanceMethod yX5_stands ∈ jTs := jTs_of 361 (by decide +kernel) (by decide +kernel)
theorem tw_362 : Cond.selects RX5 yX5_stands yX5_stands ∈ jTs := jTs_of 362 (by decide +kernel) (by decide +kernel)
theorem tw_363 : Cond.code yX5_stands cX5_stands 2 (some .boolean) ∈ jTs := jTs_of 363 (by decide +kernel) (by decide +kernel)
theorem tw_364 : Cond.methodLink RL 36 yX6_holds ∈ jTs := jTs_of 364 (by decide +kernel) (by decide +kernel)
theorem tw_365 : Cond.instanceMethod yX6_holds ∈ jTs := jTs_of 365 (by decide +kernel) (by decide +kernel)
theorem tw_366 : Cond.selects RX6 yX6_holds yX6_holds ∈ jTs := jTs_of 366 (by decide +kernel) (by decide +kernel)
theorem tw_367 : Cond.code yX6_holds cX6_holds 3 (some .int) ∈ jTs := jTs_of 367 (by decide +kernel) (by decide +kernel)
theorem tw_368 : Cond.methodLink RX6 126 yX6_isNoPair ∈ jTs := jTs_of 368 (by decide +kernel) (by decide +kernel)
theorem tw_370 : Cond.instanceMethod yX6_isNoPair ∈ jTs := jTs_of 370 (by decide +kernel) (by decide +kernel)
theorem tw_371 : Cond.code yX6_isNoPair cX6_isNoPair 3 (some .boolean) ∈ jTs := jTs_of 371 (by decide +kernel) (by decide +kernel)
theorem tw_372 : Cond.methodLink RX6 130 yX5_heldBy ∈ jTs := jTs_of 372 (by decide +kernel) (by decide +kernel)
theorem tw_373 : Cond.instanceMethod yX5_heldBy ∈ jTs := jTs_of 373 (by decide +kernel) (by decide +kernel)
theorem tw_374 : Cond.selects RX5 yX5_heldBy yX5_heldBy ∈ jTs := jTs_of 374 (by decide +kernel) (by decide +kernel)
theorem tw_375 : Cond.code yX5_heldBy cX5_heldBy 3 (some .int) ∈ jTs := jTs_of 375 (by decide +kernel) (by decide +kernel)
theorem tw_376 : Cond.methodLink RL 40 yX6_round ∈ jTs := jTs_of 376 (by decide +kernel) (by decide +kernel)
theorem tw_377 : Cond.instanceMethod yX6_round ∈ jTs := jTs_of 377 (by decide +kernel) (by decide +kernel)
theorem tw_378 : Cond.selects RX6 yX6_round yX6_round ∈ jTs := jTs_of 378 (by decide +kernel) (by decide +kernel)
theorem tw_379 : Cond.code yX6_round cX6_round 2 (some .int) ∈ jTs := jTs_of 379 (by decide +kernel) (by decide +kernel)
theorem tw_380 : Cond.methodLink RX6 134 yX2_push ∈ jTs := jTs_of 380 (by decide +kernel) (by decide +kernel)
theorem tw_381 : Cond.instanceMethod yX2_push ∈ jTs := jTs_of 381 (by decide +kernel) (by decide +kernel)
theorem tw_382 : Cond.selects RX2 yX2_push yX2_push ∈ jTs := jTs_of 382 (by decide +kernel) (by decide +kernel)
theorem tw_383 : Cond.code yX2_push cX2_push 2 none ∈ jTs := jTs_of 383 (by decide +kernel) (by decide +kernel)
theorem tw_384 : Cond.methodLink RX2 27 yX5_copyFrom ∈ jTs := jTs_of 384 (by decide +kernel) (by decide +kernel)
theorem tw_385 : Cond.instanceMethod yX5_copyFrom ∈ jTs := jTs_of 385 (by decide +kernel) (by decide +kernel)
theorem tw_386 : Cond.selects RX5 yX5_copyFrom yX5_copyFrom ∈ jTs := jTs_of 386 (by decide +kernel) (by decide +kernel)
theorem tw_387 : Cond.code yX5_copyFrom cX5_copyFrom 2 none ∈ jTs := jTs_of 387 (by decide +kernel) (by decide +kernel)
theorem tw_388 : Cond.methodLink RX2 31 yJ9_min_7cf53 ∈ jTs := jTs_of 388 (by decide +kernel) (by decide +kernel)
theorem tw_389 : Cond.static yJ9_min_7cf53 ∈ jTs := jTs_of 389 (by decide +kernel) (by decide +kernel)
theorem tw_390 : Cond.code yJ9_min_7cf53 cJ9_min_7cf53 2 (some .int) ∈ jTs := jTs_of 390 (by decide +kernel) (by decide +kernel)
theorem tw_391 : Cond.methodLink RX6 138 yX5_goRound ∈ jTs := jTs_of 391 (by decide +kernel) (by decide +kernel)
theorem tw_392 : Cond.instanceMethod yX5_goRound ∈ jTs := jTs_of 392 (by decide +kernel) (by decide +kernel)
theorem tw_393 : Cond.selects RX5 yX5_goRound yX5_goRound ∈ jTs := jTs_of 393 (by decide +kernel) (by decide +kernel)
theorem tw_394 : Cond.code yX5_goRound cX5_goRound 3 none ∈ jTs := jTs_of 394 (by decide +kernel) (by decide +kernel)
theorem tw_395 : Cond.methodLink RX5 65 yJ9_min_7cf53 ∈ jTs := jTs_of 395 (by decide +kernel) (by decide +kernel)
theorem tw_396 : Cond.methodLink RL 44 yX6_blast ∈ jTs := jTs_of 396 (by decide +kernel) (by decide +kernel)
theorem tw_397 : Cond.instanceMethod yX6_blast ∈ jTs := jTs_of 397 (by decide +kernel) (by decide +kernel)
theorem tw_398 : Cond.selects RX6 yX6_blast yX6_blast ∈ jTs := jTs_of 398 (by decide +kernel) (by decide +kernel)
theorem tw_399 : Cond.code yX6_blast cX6_blast 3 (some .int) ∈ jTs := jTs_of 399 (by decide +kernel) (by decide +kernel)
theorem tw_400 : Cond.methodLink RX6 146 yX5_blow ∈ jTs := jTs_of 400 (by decide +kernel) (by decide +kernel)
theorem tw_401 : Cond.instanceMethod yX5_blow ∈ jTs := jTs_of 401 (by decide +kernel) (by decide +kernel)
theorem tw_402 : Cond.selects RX5 yX5_blow yX5_blow ∈ jTs := jTs_of 402 (by decide +kernel) (by decide +kernel)
theorem tw_403 : Cond.code yX5_blow cX5_blow 4 (some .int) ∈ jTs := jTs_of 403 (by decide +kernel) (by decide +kernel)
theorem tw_404 : Cond.methodLink RX5 73 yX5_wouldFall ∈ jTs := jTs_of 404 (by decide +kernel) (by decide +kernel)
theorem tw_405 : Cond.instanceMethod yX5_wouldFall ∈ jTs := jTs_of 405 (by decide +kernel) (by decide +kernel)
theorem tw_406 : Cond.selects RX5 yX5_wouldFall yX5_wouldFall ∈ jTs := jTs_of 406 (by decide +kernel) (by decide +kernel)
theorem tw_407 : Cond.code yX5_wouldFall cX5_wouldFall 3 (some .boolean) ∈ jTs := jTs_of 407 (by decide +kernel) (by decide +kernel)
theorem tw_408 : Cond.methodLink RX5 77 yX5_leansInward ∈ jTs := jTs_of 408 (by decide +kernel) (by decide +kernel)
theorem tw_409 : Cond.instanceMethod yX5_leansInward ∈ jTs := jTs_of 409 (by decide +kernel) (by decide +kernel)
theorem tw_410 : Cond.selects RX5 yX5_leansInward yX5_leansInward ∈ jTs := jTs_of 410 (by decide +kernel) (by decide +kernel)
theorem tw_411 : Cond.code yX5_leansInward cX5_leansInward 2 (some .boolean) ∈ jTs := jTs_of 411 (by decide +kernel) (by decide +kernel)
theorem tw_412 : Cond.methodLink RX5 81 yX5_comeDown ∈ jTs := jTs_of 412 (by decide +kernel) (by decide +kernel)
theorem tw_413 : Cond.instanceMethod yX5_comeDown ∈ jTs := jTs_of 413 (by decide +kernel) (by decide +kernel)
theorem tw_414 : Cond.selects RX5 yX5_comeDown yX5_comeDown ∈ jTs := jTs_of 414 (by decide +kernel) (by decide +kernel)
theorem tw_415 : Cond.code yX5_comeDown cX5_comeDown 3 none ∈ jTs := jTs_of 415 (by decide +kernel) (by decide +kernel)
theorem tw_416 : Cond.methodLink RX5 88 yX5_fallWithAll ∈ jTs := jTs_of 416 (by decide +kernel) (by decide +kernel)
theorem tw_418 : Cond.instanceMethod yX5_fallWithAll ∈ jTs := jTs_of 418 (by decide +kernel) (by decide +kernel)
theorem tw_419 : Cond.code yX5_fallWithAll cX5_fallWithAll 5 none ∈ jTs := jTs_of 419 (by decide +kernel) (by decide +kernel)
theorem tw_420 : Cond.methodLink RX5 92 yX5_stands ∈ jTs := jTs_of 420 (by decide +kernel) (by decide +kernel)
theorem tw_421 : Cond.methodLink RX5 61 yX5_heldBy ∈ jTs := jTs_of 421 (by decide +kernel) (by decide +kernel)
theorem tw_422 : Cond.methodLink RX5 85 yJ9_max_7cf53 ∈ jTs := jTs_of 422 (by decide +kernel) (by decide +kernel)
theorem tw_423 : Cond.static yJ9_max_7cf53 ∈ jTs := jTs_of 423 (by decide +kernel) (by decide +kernel)
theorem tw_424 : Cond.code yJ9_max_7cf53 cJ9_max_7cf53 2 (some .int) ∈ jTs := jTs_of 424 (by decide +kernel) (by decide +kernel)
theorem tw_425 : Cond.methodLink RL 48 yX6_pass ∈ jTs := jTs_of 425 (by decide +kernel) (by decide +kernel)
theorem tw_426 : Cond.instanceMethod yX6_pass ∈ jTs := jTs_of 426 (by decide +kernel) (by decide +kernel)
theorem tw_427 : Cond.selects RX6 yX6_pass yX6_pass ∈ jTs := jTs_of 427 (by decide +kernel) (by decide +kernel)
theorem tw_428 : Cond.code yX6_pass cX6_pass 3 (some .int) ∈ jTs := jTs_of 428 (by decide +kernel) (by decide +kernel)
theorem tw_429 : Cond.methodLink RX6 149 yX5_dayGoesBy ∈ jTs := jTs_of 429 (by decide +kernel) (by decide +kernel)
theorem tw_430 : Cond.instanceMethod yX5_dayGoesBy ∈ jTs := jTs_of 430 (by decide +kernel) (by decide +kernel)
theorem tw_431 : Cond.selects RX5 yX5_dayGoesBy yX5_dayGoesBy ∈ jTs := jTs_of 431 (by decide +kernel) (by decide +kernel)
theorem tw_432 : Cond.code yX5_dayGoesBy cX5_dayGoesBy 2 none ∈ jTs := jTs_of 432 (by decide +kernel) (by decide +kernel)
theorem tw_433 : Cond.methodLink RL 52 yX6_prop ∈ jTs := jTs_of 433 (by decide +kernel) (by decide +kernel)
theorem tw_434 : Cond.instanceMethod yX6_prop ∈ jTs := jTs_of 434 (by decide +kernel) (by decide +kernel)
theorem tw_435 : Cond.selects RX6 yX6_prop yX6_prop ∈ jTs := jTs_of 435 (by decide +kernel) (by decide +kernel)
theorem tw_436 : Cond.code yX6_prop cX6_prop 5 (some .int) ∈ jTs := jTs_of 436 (by decide +kernel) (by decide +kernel)
theorem tw_437 : Cond.methodLink RX6 155 yX5_setProp ∈ jTs := jTs_of 437 (by decide +kernel) (by decide +kernel)
theorem tw_438 : Cond.instanceMethod yX5_setProp ∈ jTs := jTs_of 438 (by decide +kernel) (by decide +kernel)
theorem tw_439 : Cond.selects RX5 yX5_setProp yX5_setProp ∈ jTs := jTs_of 439 (by decide +kernel) (by decide +kernel)
theorem tw_440 : Cond.code yX5_setProp cX5_setProp 4 none ∈ jTs := jTs_of 440 (by decide +kernel) (by decide +kernel)
theorem tw_441 : Cond.methodLink RL 57 yX6_use ∈ jTs := jTs_of 441 (by decide +kernel) (by decide +kernel)
theorem tw_442 : Cond.instanceMethod yX6_use ∈ jTs := jTs_of 442 (by decide +kernel) (by decide +kernel)
theorem tw_443 : Cond.selects RX6 yX6_use yX6_use ∈ jTs := jTs_of 443 (by decide +kernel) (by decide +kernel)
theorem tw_444 : Cond.code yX6_use cX6_use 2 (some .int) ∈ jTs := jTs_of 444 (by decide +kernel) (by decide +kernel)
theorem tw_445 : Cond.methodLink RL 61 yX6_undo ∈ jTs := jTs_of 445 (by decide +kernel) (by decide +kernel)
theorem tw_446 : Cond.instanceMethod yX6_undo ∈ jTs := jTs_of 446 (by decide +kernel) (by decide +kernel)
theorem tw_447 : Cond.selects RX6 yX6_undo yX6_undo ∈ jTs := jTs_of 447 (by decide +kernel) (by decide +kernel)
theorem tw_448 : Cond.code yX6_undo cX6_undo 1 (some .int) ∈ jTs := jTs_of 448 (by decide +kernel) (by decide +kernel)
theorem tw_449 : Cond.methodLink RX6 162 yX2_pop ∈ jTs := jTs_of 449 (by decide +kernel) (by decide +kernel)
theorem tw_450 : Cond.instanceMethod yX2_pop ∈ jTs := jTs_of 450 (by decide +kernel) (by decide +kernel)
theorem tw_451 : Cond.selects RX2 yX2_pop yX2_pop ∈ jTs := jTs_of 451 (by decide +kernel) (by decide +kernel)
theorem tw_452 : Cond.code yX2_pop cX2_pop 2 (some .boolean) ∈ jTs := jTs_of 452 (by decide +kernel) (by decide +kernel)
theorem tw_453 : Cond.methodLink RL 65 yX6_calls ∈ jTs := jTs_of 453 (by decide +kernel) (by decide +kernel)
theorem tw_454 : Cond.instanceMethod yX6_calls ∈ jTs := jTs_of 454 (by decide +kernel) (by decide +kernel)
theorem tw_455 : Cond.selects RX6 yX6_calls yX6_calls ∈ jTs := jTs_of 455 (by decide +kernel) (by decide +kernel)
theorem tw_456 : Cond.code yX6_calls cX6_calls 2 (some .int) ∈ jTs := jTs_of 456 (by decide +kernel) (by decide +kernel)
theorem tw_457 : Cond.methodLink RX6 166 yX5_fewestTrumpets ∈ jTs := jTs_of 457 (by decide +kernel) (by decide +kernel)
theorem tw_458 : Cond.instanceMethod yX5_fewestTrumpets ∈ jTs := jTs_of 458 (by decide +kernel) (by decide +kernel)
theorem tw_459 : Cond.selects RX5 yX5_fewestTrumpets yX5_fewestTrumpets ∈ jTs := jTs_of 459 (by decide +kernel) (by decide +kernel)
theorem tw_460 : Cond.code yX5_fewestTrumpets cX5_fewestTrumpets 3 (some .int) ∈ jTs := jTs_of 460 (by decide +kernel) (by decide +kernel)
theorem tw_461 : Cond.methodLink RL 69 yX6_rounds ∈ jTs := jTs_of 461 (by decide +kernel) (by decide +kernel)
theorem tw_462 : Cond.instanceMethod yX6_rounds ∈ jTs := jTs_of 462 (by decide +kernel) (by decide +kernel)
theorem tw_463 : Cond.selects RX6 yX6_rounds yX6_rounds ∈ jTs := jTs_of 463 (by decide +kernel) (by decide +kernel)
theorem tw_464 : Cond.code yX6_rounds cX6_rounds 4 (some .int) ∈ jTs := jTs_of 464 (by decide +kernel) (by decide +kernel)
theorem tw_465 : Cond.methodLink RX6 170 yX5_copyFrom ∈ jTs := jTs_of 465 (by decide +kernel) (by decide +kernel)
theorem tw_466 : Cond.methodLink RX6 173 yX5_wouldFall ∈ jTs := jTs_of 466 (by decide +kernel) (by decide +kernel)
theorem tw_467 : Cond.methodLink RX6 176 yX5_leansInward ∈ jTs := jTs_of 467 (by decide +kernel) (by decide +kernel)
theorem tw_468 : Cond.methodLink RL 73 yX6_key ∈ jTs := jTs_of 468 (by decide +kernel) (by decide +kernel)
theorem tw_469 : Cond.instanceMethod yX6_key ∈ jTs := jTs_of 469 (by decide +kernel) (by decide +kernel)
theorem tw_470 : Cond.selects RX6 yX6_key yX6_key ∈ jTs := jTs_of 470 (by decide +kernel) (by decide +kernel)
theorem tw_471 : Cond.code yX6_key cX6_key 6 (some .int) ∈ jTs := jTs_of 471 (by decide +kernel) (by decide +kernel)
theorem tw_472 : Cond.methodLink RX6 179 yX6_othersDownBy ∈ jTs := jTs_of 472 (by decide +kernel) (by decide +kernel)
theorem tw_474 : Cond.instanceMethod yX6_othersDownBy ∈ jTs := jTs_of 474 (by decide +kernel) (by decide +kernel)
theorem tw_475 : Cond.code yX6_othersDownBy cX6_othersDownBy 3 (some .int) ∈ jTs := jTs_of 475 (by decide +kernel) (by decide +kernel)
theorem tw_476 : Cond.methodLink RX6 233 yX5_comeDown ∈ jTs := jTs_of 476 (by decide +kernel) (by decide +kernel)
theorem tw_477 : Cond.methodLink RX6 224 yX5_countDown ∈ jTs := jTs_of 477 (by decide +kernel) (by decide +kernel)
theorem tw_478 : Cond.instanceMethod yX5_countDown ∈ jTs := jTs_of 478 (by decide +kernel) (by decide +kernel)
theorem tw_479 : Cond.selects RX5 yX5_countDown yX5_countDown ∈ jTs := jTs_of 479 (by decide +kernel) (by decide +kernel)
theorem tw_480 : Cond.code yX5_countDown cX5_countDown 3 (some .int) ∈ jTs := jTs_of 480 (by decide +kernel) (by decide +kernel)
theorem tw_481 : Cond.methodLink RL 77 yX6_order ∈ jTs := jTs_of 481 (by decide +kernel) (by decide +kernel)
theorem tw_482 : Cond.instanceMethod yX6_order ∈ jTs := jTs_of 482 (by decide +kernel) (by decide +kernel)
theorem tw_483 : Cond.selects RX6 yX6_order yX6_order ∈ jTs := jTs_of 483 (by decide +kernel) (by decide +kernel)
theorem tw_484 : Cond.code yX6_order cX6_order 2 (some .int) ∈ jTs := jTs_of 484 (by decide +kernel) (by decide +kernel)
theorem tw_485 : Cond.methodLink RX6 182 yX1_run ∈ jTs := jTs_of 485 (by decide +kernel) (by decide +kernel)
theorem tw_486 : Cond.instanceMethod yX1_run ∈ jTs := jTs_of 486 (by decide +kernel) (by decide +kernel)
theorem tw_487 : Cond.selects RX1 yX1_run yX1_run ∈ jTs := jTs_of 487 (by decide +kernel) (by decide +kernel)
theorem tw_488 : Cond.code yX1_run cX1_run 2 none ∈ jTs := jTs_of 488 (by decide +kernel) (by decide +kernel)
theorem tw_489 : Cond.methodLink RX1 45 yJ7_fill_d0a16 ∈ jTs := jTs_of 489 (by decide +kernel) (by decide +kernel)
theorem tw_490 : Cond.static yJ7_fill_d0a16 ∈ jTs := jTs_of 490 (by decide +kernel) (by decide +kernel)
theorem tw_491 : Cond.code yJ7_fill_d0a16 cJ7_fill_d0a16 5 none ∈ jTs := jTs_of 491 (by decide +kernel) (by decide +kernel)
theorem tw_492 : Cond.methodLink RX1 51 yX5_copyFrom ∈ jTs := jTs_of 492 (by decide +kernel) (by decide +kernel)
theorem tw_493 : Cond.methodLink RX1 55 yX1_goOn ∈ jTs := jTs_of 493 (by decide +kernel) (by decide +kernel)
theorem tw_495 : Cond.instanceMethod yX1_goOn ∈ jTs := jTs_of 495 (by decide +kernel) (by decide +kernel)
theorem tw_496 : Cond.code yX1_goOn cX1_goOn 6 none ∈ jTs := jTs_of 496 (by decide +kernel) (by decide +kernel)
theorem tw_497 : Cond.methodLink RX1 59 yX5_countDown ∈ jTs := jTs_of 497 (by decide +kernel) (by decide +kernel)
theorem tw_498 : Cond.methodLink RX1 68 yX1_keepBest ∈ jTs := jTs_of 498 (by decide +kernel) (by decide +kernel)
theorem tw_500 : Cond.instanceMethod yX1_keepBest ∈ jTs := jTs_of 500 (by decide +kernel) (by decide +kernel)
theorem tw_501 : Cond.code yX1_keepBest cX1_keepBest 3 none ∈ jTs := jTs_of 501 (by decide +kernel) (by decide +kernel)
theorem tw_502 : Cond.methodLink RX1 91 arraycopyName ∈ jTs := jTs_of 502 (by decide +kernel) (by decide +kernel)
theorem tw_503 : Cond.methodLink RX1 71 yX1_markOf ∈ jTs := jTs_of 503 (by decide +kernel) (by decide +kernel)
theorem tw_505 : Cond.instanceMethod yX1_markOf ∈ jTs := jTs_of 505 (by decide +kernel) (by decide +kernel)
theorem tw_506 : Cond.code yX1_markOf cX1_markOf 5 (some .long) ∈ jTs := jTs_of 506 (by decide +kernel) (by decide +kernel)
theorem tw_507 : Cond.methodLink RX1 75 yX1_wasSeen ∈ jTs := jTs_of 507 (by decide +kernel) (by decide +kernel)
theorem tw_509 : Cond.instanceMethod yX1_wasSeen ∈ jTs := jTs_of 509 (by decide +kernel) (by decide +kernel)
theorem tw_510 : Cond.code yX1_wasSeen cX1_wasSeen 7 (some .boolean) ∈ jTs := jTs_of 510 (by decide +kernel) (by decide +kernel)
theorem tw_511 : Cond.constantLong RX1 103 (-7046029254386353131) ∈ jTs := jTs_of 511 (by decide +kernel) (by decide +kernel)
theorem tw_512 : Cond.methodLink RX1 79 yX5_stands ∈ jTs := jTs_of 512 (by decide +kernel) (by decide +kernel)
theorem tw_513 : Cond.methodLink RX1 83 yX5_fewestTrumpets ∈ jTs := jTs_of 513 (by decide +kernel) (by decide +kernel)
theorem tw_514 : Cond.methodLink RX1 87 yX5_blow ∈ jTs := jTs_of 514 (by decide +kernel) (by decide +kernel)
theorem tw_515 : Cond.methodLink RL 81 yX6_save ∈ jTs := jTs_of 515 (by decide +kernel) (by decide +kernel)
theorem tw_516 : Cond.instanceMethod yX6_save ∈ jTs := jTs_of 516 (by decide +kernel) (by decide +kernel)
theorem tw_517 : Cond.selects RX6 yX6_save yX6_save ∈ jTs := jTs_of 517 (by decide +kernel) (by decide +kernel)
theorem tw_518 : Cond.code yX6_save cX6_save 7 (some .int) ∈ jTs := jTs_of 518 (by decide +kernel) (by decide +kernel)
theorem tw_519 : Cond.methodLink RX6 192 yX5_holdersOf ∈ jTs := jTs_of 519 (by decide +kernel) (by decide +kernel)
theorem tw_520 : Cond.instanceMethod yX5_holdersOf ∈ jTs := jTs_of 520 (by decide +kernel) (by decide +kernel)
theorem tw_521 : Cond.selects RX5 yX5_holdersOf yX5_holdersOf ∈ jTs := jTs_of 521 (by decide +kernel) (by decide +kernel)
theorem tw_522 : Cond.code yX5_holdersOf cX5_holdersOf 4 (some .int) ∈ jTs := jTs_of 522 (by decide +kernel) (by decide +kernel)
theorem tw_523 : Cond.methodLink RX6 195 yJ6_bitCount_0f7a4 ∈ jTs := jTs_of 523 (by decide +kernel) (by decide +kernel)
theorem tw_524 : Cond.static yJ6_bitCount_0f7a4 ∈ jTs := jTs_of 524 (by decide +kernel) (by decide +kernel)
theorem tw_525 : Cond.code yJ6_bitCount_0f7a4 cJ6_bitCount_0f7a4 1 (some .int) ∈ jTs := jTs_of 525 (by decide +kernel) (by decide +kernel)
theorem tw_526 : Cond.constant RJ6 265 (1431655765) ∈ jTs := jTs_of 526 (by decide +kernel) (by decide +kernel)
theorem tw_527 : Cond.constant RJ6 266 (858993459) ∈ jTs := jTs_of 527 (by decide +kernel) (by decide +kernel)
theorem tw_528 : Cond.constant RJ6 267 (252645135) ∈ jTs := jTs_of 528 (by decide +kernel) (by decide +kernel)
theorem tw_529 : Cond.methodLink RX6 200 yX6_standsWithout ∈ jTs := jTs_of 529 (by decide +kernel) (by decide +kernel)
theorem tw_531 : Cond.instanceMethod yX6_standsWithout ∈ jTs := jTs_of 531 (by decide +kernel) (by decide +kernel)
theorem tw_532 : Cond.code yX6_standsWithout cX6_standsWithout 5 (some .boolean) ∈ jTs := jTs_of 532 (by decide +kernel) (by decide +kernel)
theorem tw_533 : Cond.methodLink RL 85 yX6_built ∈ jTs := jTs_of 533 (by decide +kernel) (by decide +kernel)
theorem tw_534 : Cond.instanceMethod yX6_built ∈ jTs := jTs_of 534 (by decide +kernel) (by decide +kernel)
theorem tw_535 : Cond.selects RX6 yX6_built yX6_built ∈ jTs := jTs_of 535 (by decide +kernel) (by decide +kernel)
theorem tw_536 : Cond.code yX6_built cX6_built 9 (some .int) ∈ jTs := jTs_of 536 (by decide +kernel) (by decide +kernel)
theorem tw_537 : Cond.methodLink RL 89 yX6_note ∈ jTs := jTs_of 537 (by decide +kernel) (by decide +kernel)
theorem tw_538 : Cond.instanceMethod yX6_note ∈ jTs := jTs_of 538 (by decide +kernel) (by decide +kernel)
theorem tw_539 : Cond.selects RX6 yX6_note yX6_note ∈ jTs := jTs_of 539 (by decide +kernel) (by decide +kernel)
theorem tw_540 : Cond.code yX6_note cX6_note 5 (some .int) ∈ jTs := jTs_of 540 (by decide +kernel) (by decide +kernel)
theorem tw_541 : Cond.methodLink RX6 203 yX0_isEnded ∈ jTs := jTs_of 541 (by decide +kernel) (by decide +kernel)
theorem tw_542 : Cond.instanceMethod yX0_isEnded ∈ jTs := jTs_of 542 (by decide +kernel) (by decide +kernel)
theorem tw_543 : Cond.selects RX0 yX0_isEnded yX0_isEnded ∈ jTs := jTs_of 543 (by decide +kernel) (by decide +kernel)
theorem tw_544 : Cond.code yX0_isEnded cX0_isEnded 1 (some .boolean) ∈ jTs := jTs_of 544 (by decide +kernel) (by decide +kernel)
theorem tw_545 : Cond.methodLink RX6 207 yX0_add ∈ jTs := jTs_of 545 (by decide +kernel) (by decide +kernel)
theorem tw_546 : Cond.instanceMethod yX0_add ∈ jTs := jTs_of 546 (by decide +kernel) (by decide +kernel)
theorem tw_547 : Cond.selects RX0 yX0_add yX0_add ∈ jTs := jTs_of 547 (by decide +kernel) (by decide +kernel)
theorem tw_548 : Cond.code yX0_add cX0_add 4 none ∈ jTs := jTs_of 548 (by decide +kernel) (by decide +kernel)
theorem tw_549 : Cond.methodLink RL 93 yX6_forget ∈ jTs := jTs_of 549 (by decide +kernel) (by decide +kernel)
theorem tw_550 : Cond.instanceMethod yX6_forget ∈ jTs := jTs_of 550 (by decide +kernel) (by decide +kernel)
theorem tw_551 : Cond.selects RX6 yX6_forget yX6_forget ∈ jTs := jTs_of 551 (by decide +kernel) (by decide +kernel)
theorem tw_552 : Cond.code yX6_forget cX6_forget 2 (some .int) ∈ jTs := jTs_of 552 (by decide +kernel) (by decide +kernel)
theorem tw_553 : Cond.methodLink RL 97 yX6_thick ∈ jTs := jTs_of 553 (by decide +kernel) (by decide +kernel)
theorem tw_554 : Cond.instanceMethod yX6_thick ∈ jTs := jTs_of 554 (by decide +kernel) (by decide +kernel)
theorem tw_555 : Cond.selects RX6 yX6_thick yX6_thick ∈ jTs := jTs_of 555 (by decide +kernel) (by decide +kernel)
theorem tw_556 : Cond.code yX6_thick cX6_thick 5 (some .int) ∈ jTs := jTs_of 556 (by decide +kernel) (by decide +kernel)
theorem tw_557 : Cond.methodLink RX6 209 yX0_couldBe ∈ jTs := jTs_of 557 (by decide +kernel) (by decide +kernel)
theorem tw_558 : Cond.instanceMethod yX0_couldBe ∈ jTs := jTs_of 558 (by decide +kernel) (by decide +kernel)
theorem tw_559 : Cond.selects RX0 yX0_couldBe yX0_couldBe ∈ jTs := jTs_of 559 (by decide +kernel) (by decide +kernel)
theorem tw_560 : Cond.code yX0_couldBe cX0_couldBe 5 (some .boolean) ∈ jTs := jTs_of 560 (by decide +kernel) (by decide +kernel)
theorem tw_561 : Cond.methodLink RX0 25 yJ9_max_7cf53 ∈ jTs := jTs_of 561 (by decide +kernel) (by decide +kernel)
theorem tw_562 : Cond.methodLink RL 101 yX6_fail ∈ jTs := jTs_of 562 (by decide +kernel) (by decide +kernel)
theorem tw_563 : Cond.instanceMethod yX6_fail ∈ jTs := jTs_of 563 (by decide +kernel) (by decide +kernel)
theorem tw_564 : Cond.selects RX6 yX6_fail yX6_fail ∈ jTs := jTs_of 564 (by decide +kernel) (by decide +kernel)
theorem tw_565 : Cond.code yX6_fail cX6_fail 14 (some .int) ∈ jTs := jTs_of 565 (by decide +kernel) (by decide +kernel)
theorem tw_566 : Cond.methodLink RX6 212 yX6_power ∈ jTs := jTs_of 566 (by decide +kernel) (by decide +kernel)
theorem tw_567 : Cond.static yX6_power ∈ jTs := jTs_of 567 (by decide +kernel) (by decide +kernel)
theorem tw_568 : Cond.code yX6_power cX6_power 5 (some .long) ∈ jTs := jTs_of 568 (by decide +kernel) (by decide +kernel)
theorem tw_569 : Cond.methodLink RX6 216 yX6_greatestShared ∈ jTs := jTs_of 569 (by decide +kernel) (by decide +kernel)
theorem tw_570 : Cond.static yX6_greatestShared ∈ jTs := jTs_of 570 (by decide +kernel) (by decide +kernel)
theorem tw_571 : Cond.code yX6_greatestShared cX6_greatestShared 7 (some .long) ∈ jTs := jTs_of 571 (by decide +kernel) (by decide +kernel)
theorem tw_572 : Cond.methodLink RL 106 yX6_year ∈ jTs := jTs_of 572 (by decide +kernel) (by decide +kernel)
theorem tw_573 : Cond.instanceMethod yX6_year ∈ jTs := jTs_of 573 (by decide +kernel) (by decide +kernel)
theorem tw_574 : Cond.selects RX6 yX6_year yX6_year ∈ jTs := jTs_of 574 (by decide +kernel) (by decide +kernel)
theorem tw_575 : Cond.code yX6_year cX6_year 5 (some .int) ∈ jTs := jTs_of 575 (by decide +kernel) (by decide +kernel)
theorem tw_576 : Cond.methodLink RX6 220 yX6_drawAhead ∈ jTs := jTs_of 576 (by decide +kernel) (by decide +kernel)
theorem tw_578 : Cond.instanceMethod yX6_drawAhead ∈ jTs := jTs_of 578 (by decide +kernel) (by decide +kernel)
theorem tw_579 : Cond.code yX6_drawAhead cX6_drawAhead 8 none ∈ jTs := jTs_of 579 (by decide +kernel) (by decide +kernel)
theorem tw_580 : Cond.constantLong RX6 236 (7919) ∈ jTs := jTs_of 580 (by decide +kernel) (by decide +kernel)
theorem tw_581 : Cond.constantLong RX6 238 (6151) ∈ jTs := jTs_of 581 (by decide +kernel) (by decide +kernel)
theorem tw_582 : Cond.constantLong RX6 240 (65521) ∈ jTs := jTs_of 582 (by decide +kernel) (by decide +kernel)
theorem tw_583 : Cond.methodLink RX6 227 yX5_countHurt ∈ jTs := jTs_of 583 (by decide +kernel) (by decide +kernel)
theorem tw_584 : Cond.instanceMethod yX5_countHurt ∈ jTs := jTs_of 584 (by decide +kernel) (by decide +kernel)
theorem tw_585 : Cond.selects RX5 yX5_countHurt yX5_countHurt ∈ jTs := jTs_of 585 (by decide +kernel) (by decide +kernel)
theorem tw_586 : Cond.code yX5_countHurt cX5_countHurt 3 (some .int) ∈ jTs := jTs_of 586 (by decide +kernel) (by decide +kernel)
theorem tw_587 : Cond.methodLink RL 110 yX6_keep ∈ jTs := jTs_of 587 (by decide +kernel) (by decide +kernel)
theorem tw_588 : Cond.instanceMethod yX6_keep ∈ jTs := jTs_of 588 (by decide +kernel) (by decide +kernel)
theorem tw_589 : Cond.selects RX6 yX6_keep yX6_keep ∈ jTs := jTs_of 589 (by decide +kernel) (by decide +kernel)
theorem tw_590 : Cond.code yX6_keep cX6_keep 1 (some .int) ∈ jTs := jTs_of 590 (by decide +kernel) (by decide +kernel)
theorem tw_591 : Cond.methodLink RL 114 yX6_back ∈ jTs := jTs_of 591 (by decide +kernel) (by decide +kernel)
theorem tw_592 : Cond.instanceMethod yX6_back ∈ jTs := jTs_of 592 (by decide +kernel) (by decide +kernel)
theorem tw_593 : Cond.selects RX6 yX6_back yX6_back ∈ jTs := jTs_of 593 (by decide +kernel) (by decide +kernel)
theorem tw_594 : Cond.code yX6_back cX6_back 1 (some .int) ∈ jTs := jTs_of 594 (by decide +kernel) (by decide +kernel)
theorem tw_595 : Cond.methodLink RL 118 yX6_count ∈ jTs := jTs_of 595 (by decide +kernel) (by decide +kernel)
theorem tw_596 : Cond.instanceMethod yX6_count ∈ jTs := jTs_of 596 (by decide +kernel) (by decide +kernel)
theorem tw_597 : Cond.selects RX6 yX6_count yX6_count ∈ jTs := jTs_of 597 (by decide +kernel) (by decide +kernel)
theorem tw_598 : Cond.code yX6_count cX6_count 2 (some .int) ∈ jTs := jTs_of 598 (by decide +kernel) (by decide +kernel)
theorem tw_599 : Cond.methodLink RX6 230 yX5_countProps ∈ jTs := jTs_of 599 (by decide +kernel) (by decide +kernel)
theorem tw_600 : Cond.instanceMethod yX5_countProps ∈ jTs := jTs_of 600 (by decide +kernel) (by decide +kernel)
theorem tw_601 : Cond.selects RX5 yX5_countProps yX5_countProps ∈ jTs := jTs_of 601 (by decide +kernel) (by decide +kernel)
theorem tw_602 : Cond.code yX5_countProps cX5_countProps 6 (some .int) ∈ jTs := jTs_of 602 (by decide +kernel) (by decide +kernel)
theorem tw_603 : Cond.classLink RL 10 RX7 ∈ jTs := jTs_of 603 (by decide +kernel) (by decide +kernel)
theorem tw_604 : Cond.instantiable RX7 25 ∈ jTs := jTs_of 604 (by decide +kernel) (by decide +kernel)
theorem tw_605 : Cond.methodLink RL 12 yX7_init ∈ jTs := jTs_of 605 (by decide +kernel) (by decide +kernel)
theorem tw_606 : Cond.instanceMethod yX7_init ∈ jTs := jTs_of 606 (by decide +kernel) (by decide +kernel)
theorem tw_607 : Cond.code yX7_init cX7_init 1 none ∈ jTs := jTs_of 607 (by decide +kernel) (by decide +kernel)
theorem tw_608 : Cond.methodLink RX7 1 objectInit ∈ jTs := jTs_of 608 (by decide +kernel) (by decide +kernel)
theorem tw_609 : Cond.methodLink RX7 55 yX7_starts ∈ jTs := jTs_of 609 (by decide +kernel) (by decide +kernel)
theorem tw_611 : Cond.instanceMethod yX7_starts ∈ jTs := jTs_of 611 (by decide +kernel) (by decide +kernel)
theorem tw_612 : Cond.code yX7_starts cX7_starts 2 none ∈ jTs := jTs_of 612 (by decide +kernel) (by decide +kernel)
theorem tw_613 : Cond.methodLink RX7 58 yX7_addsWall ∈ jTs := jTs_of 613 (by decide +kernel) (by decide +kernel)
theorem tw_615 : Cond.instanceMethod yX7_addsWall ∈ jTs := jTs_of 615 (by decide +kernel) (by decide +kernel)
theorem tw_616 : Cond.code yX7_addsWall cX7_addsWall 4 none ∈ jTs := jTs_of 616 (by decide +kernel) (by decide +kernel)
theorem tw_617 : Cond.methodLink RX7 66 yX7_begins ∈ jTs := jTs_of 617 (by decide +kernel) (by decide +kernel)
theorem tw_619 : Cond.instanceMethod yX7_begins ∈ jTs := jTs_of 619 (by decide +kernel) (by decide +kernel)
theorem tw_620 : Cond.code yX7_begins cX7_begins 2 none ∈ jTs := jTs_of 620 (by decide +kernel) (by decide +kernel)
theorem tw_621 : Cond.fieldLink RX7 7 "WallTrumpetsModel" "w" "[I" ∈ jTs := jTs_of 621 (by decide +kernel) (by decide +kernel)
theorem tw_622 : Cond.fieldLink RX7 79 "WallTrumpetsModel" "undoes" "I" ∈ jTs := jTs_of 622 (by decide +kernel) (by decide +kernel)
theorem tw_623 : Cond.fieldLink RX7 82 "WallTrumpetsModel" "kept" "I" ∈ jTs := jTs_of 623 (by decide +kernel) (by decide +kernel)
theorem tw_624 : Cond.fieldLink RX7 69 "WallTrumpetsModel" "walls" "I" ∈ jTs := jTs_of 624 (by decide +kernel) (by decide +kernel)
theorem tw_625 : Cond.fieldLink RX7 13 "WallTrumpetsModel" "kind" "[I" ∈ jTs := jTs_of 625 (by decide +kernel) (by decide +kernel)
theorem tw_626 : Cond.fieldLink RX7 16 "WallTrumpetsModel" "laid" "[I" ∈ jTs := jTs_of 626 (by decide +kernel) (by decide +kernel)
theorem tw_627 : Cond.fieldLink RX7 19 "WallTrumpetsModel" "leans" "[I" ∈ jTs := jTs_of 627 (by decide +kernel) (by decide +kernel)
theorem tw_628 : Cond.fieldLink RX7 85 "WallTrumpetsModel" "noted" "I" ∈ jTs := jTs_of 628 (by decide +kernel) (by decide +kernel)
theorem tw_629 : Cond.fieldLink RX7 22 "WallTrumpetsModel" "noteMany" "[I" ∈ jTs := jTs_of 629 (by decide +kernel) (by decide +kernel)
theorem tw_630 : Cond.fieldLink RX7 25 "WallTrumpetsModel" "noteRound" "[I" ∈ jTs := jTs_of 630 (by decide +kernel) (by decide +kernel)
theorem tw_631 : Cond.fieldLink RX7 28 "WallTrumpetsModel" "noteFelled" "[I" ∈ jTs := jTs_of 631 (by decide +kernel) (by decide +kernel)
theorem tw_632 : Cond.fieldLink RX7 31 "WallTrumpetsModel" "text" "[I" ∈ jTs := jTs_of 632 (by decide +kernel) (by decide +kernel)
theorem tw_633 : Cond.fieldLink RX7 92 "WallTrumpetsModel" "texted" "I" ∈ jTs := jTs_of 633 (by decide +kernel) (by decide +kernel)
theorem tw_634 : Cond.fieldLink RX7 95 "WallTrumpetsModel" "place" "I" ∈ jTs := jTs_of 634 (by decide +kernel) (by decide +kernel)
theorem tw_635 : Cond.fieldLink RX7 98 "WallTrumpetsModel" "number" "I" ∈ jTs := jTs_of 635 (by decide +kernel) (by decide +kernel)
theorem tw_636 : Cond.fieldLink RX7 76 "WallTrumpetsModel" "readWalls" "I" ∈ jTs := jTs_of 636 (by decide +kernel) (by decide +kernel)
theorem tw_637 : Cond.fieldLink RX7 34 "WallTrumpetsModel" "readWall" "[I" ∈ jTs := jTs_of 637 (by decide +kernel) (by decide +kernel)
theorem tw_638 : Cond.fieldLink RX7 37 "WallTrumpetsModel" "readProp" "[I" ∈ jTs := jTs_of 638 (by decide +kernel) (by decide +kernel)
theorem tw_639 : Cond.fieldLink RX7 62 "WallTrumpetsModel" "readStones" "I" ∈ jTs := jTs_of 639 (by decide +kernel) (by decide +kernel)
theorem tw_640 : Cond.fieldLink RX7 40 "WallTrumpetsModel" "fallen" "[I" ∈ jTs := jTs_of 640 (by decide +kernel) (by decide +kernel)
theorem tw_641 : Cond.fieldLink RX7 43 "WallTrumpetsModel" "next" "[I" ∈ jTs := jTs_of 641 (by decide +kernel) (by decide +kernel)
theorem tw_642 : Cond.fieldLink RX7 46 "WallTrumpetsModel" "blasted" "[I" ∈ jTs := jTs_of 642 (by decide +kernel) (by decide +kernel)
theorem tw_643 : Cond.fieldLink RX7 49 "WallTrumpetsModel" "sums" "[I" ∈ jTs := jTs_of 643 (by decide +kernel) (by decide +kernel)
theorem tw_644 : Cond.fieldLink RX7 52 "WallTrumpetsModel" "best" "[I" ∈ jTs := jTs_of 644 (by decide +kernel) (by decide +kernel)
theorem tw_645 : Cond.fieldLink RX7 193 "WallTrumpetsModel" "bestMany" "I" ∈ jTs := jTs_of 645 (by decide +kernel) (by decide +kernel)
theorem tw_646 : Cond.laysFinal RX7 "WallTrumpetsModel" "w" "[I" ∈ jTs := jTs_of 646 (by decide +kernel) (by decide +kernel)
theorem tw_648 : Cond.lays RX7 "WallTrumpetsModel" "undoes" "I" ∈ jTs := jTs_of 648 (by decide +kernel) (by decide +kernel)
theorem tw_650 : Cond.lays RX7 "WallTrumpetsModel" "kept" "I" ∈ jTs := jTs_of 650 (by decide +kernel) (by decide +kernel)
theorem tw_652 : Cond.lays RX7 "WallTrumpetsModel" "walls" "I" ∈ jTs := jTs_of 652 (by decide +kernel) (by decide +kernel)
theorem tw_654 : Cond.laysFinal RX7 "WallTrumpetsModel" "kind" "[I" ∈ jTs := jTs_of 654 (by decide +kernel) (by decide +kernel)
theorem tw_656 : Cond.laysFinal RX7 "WallTrumpetsModel" "laid" "[I" ∈ jTs := jTs_of 656 (by decide +kernel) (by decide +kernel)
theorem tw_658 : Cond.laysFinal RX7 "WallTrumpetsModel" "leans" "[I" ∈ jTs := jTs_of 658 (by decide +kernel) (by decide +kernel)
theorem tw_660 : Cond.lays RX7 "WallTrumpetsModel" "noted" "I" ∈ jTs := jTs_of 660 (by decide +kernel) (by decide +kernel)
theorem tw_662 : Cond.laysFinal RX7 "WallTrumpetsModel" "noteMany" "[I" ∈ jTs := jTs_of 662 (by decide +kernel) (by decide +kernel)
theorem tw_664 : Cond.laysFinal RX7 "WallTrumpetsModel" "noteRound" "[I" ∈ jTs := jTs_of 664 (by decide +kernel) (by decide +kernel)
theorem tw_666 : Cond.laysFinal RX7 "WallTrumpetsModel" "noteFelled" "[I" ∈ jTs := jTs_of 666 (by decide +kernel) (by decide +kernel)
theorem tw_668 : Cond.laysFinal RX7 "WallTrumpetsModel" "text" "[I" ∈ jTs := jTs_of 668 (by decide +kernel) (by decide +kernel)
theorem tw_670 : Cond.lays RX7 "WallTrumpetsModel" "texted" "I" ∈ jTs := jTs_of 670 (by decide +kernel) (by decide +kernel)
theorem tw_672 : Cond.lays RX7 "WallTrumpetsModel" "place" "I" ∈ jTs := jTs_of 672 (by decide +kernel) (by decide +kernel)
theorem tw_674 : Cond.lays RX7 "WallTrumpetsModel" "number" "I" ∈ jTs := jTs_of 674 (by decide +kernel) (by decide +kernel)
theorem tw_676 : Cond.lays RX7 "WallTrumpetsModel" "readWalls" "I" ∈ jTs := jTs_of 676 (by decide +kernel) (by decide +kernel)
theorem tw_678 : Cond.laysFinal RX7 "WallTrumpetsModel" "readWall" "[I" ∈ jTs := jTs_of 678 (by decide +kernel) (by decide +kernel)
theorem tw_680 : Cond.laysFinal RX7 "WallTrumpetsModel" "readProp" "[I" ∈ jTs := jTs_of 680 (by decide +kernel) (by decide +kernel)
theorem tw_682 : Cond.lays RX7 "WallTrumpetsModel" "readStones" "I" ∈ jTs := jTs_of 682 (by decide +kernel) (by decide +kernel)
theorem tw_684 : Cond.laysFinal RX7 "WallTrumpetsModel" "fallen" "[I" ∈ jTs := jTs_of 684 (by decide +kernel) (by decide +kernel)
theorem tw_686 : Cond.laysFinal RX7 "WallTrumpetsModel" "next" "[I" ∈ jTs := jTs_of 686 (by decide +kernel) (by decide +kernel)
theorem tw_688 : Cond.laysFinal RX7 "WallTrumpetsModel" "blasted" "[I" ∈ jTs := jTs_of 688 (by decide +kernel) (by decide +kernel)
theorem tw_690 : Cond.laysFinal RX7 "WallTrumpetsModel" "sums" "[I" ∈ jTs := jTs_of 690 (by decide +kernel) (by decide +kernel)
theorem tw_692 : Cond.laysFinal RX7 "WallTrumpetsModel" "best" "[I" ∈ jTs := jTs_of 692 (by decide +kernel) (by decide +kernel)
theorem tw_694 : Cond.lays RX7 "WallTrumpetsModel" "bestMany" "I" ∈ jTs := jTs_of 694 (by decide +kernel) (by decide +kernel)
theorem tw_697 : Cond.methodLink RL 17 yX7_write ∈ jTs := jTs_of 697 (by decide +kernel) (by decide +kernel)
theorem tw_698 : Cond.instanceMethod yX7_write ∈ jTs := jTs_of 698 (by decide +kernel) (by decide +kernel)
theorem tw_699 : Cond.selects RX7 yX7_write yX7_write ∈ jTs := jTs_of 699 (by decide +kernel) (by decide +kernel)
theorem tw_700 : Cond.code yX7_write cX7_write 2 (some .int) ∈ jTs := jTs_of 700 (by decide +kernel) (by decide +kernel)
theorem tw_701 : Cond.constantLong RX7 88 (32) ∈ jTs := jTs_of 701 (by decide +kernel) (by decide +kernel)
theorem tw_702 : Cond.constantLong RX7 90 (126) ∈ jTs := jTs_of 702 (by decide +kernel) (by decide +kernel)
theorem tw_703 : Cond.methodLink RX7 72 yX7_in ∈ jTs := jTs_of 703 (by decide +kernel) (by decide +kernel)
theorem tw_704 : Cond.static yX7_in ∈ jTs := jTs_of 704 (by decide +kernel) (by decide +kernel)
theorem tw_705 : Cond.code yX7_in cX7_in 6 (some .boolean) ∈ jTs := jTs_of 705 (by decide +kernel) (by decide +kernel)
theorem tw_706 : Cond.methodLink RL 22 yX7_wipe ∈ jTs := jTs_of 706 (by decide +kernel) (by decide +kernel)
theorem tw_707 : Cond.instanceMethod yX7_wipe ∈ jTs := jTs_of 707 (by decide +kernel) (by decide +kernel)
theorem tw_708 : Cond.selects RX7 yX7_wipe yX7_wipe ∈ jTs := jTs_of 708 (by decide +kernel) (by decide +kernel)
theorem tw_709 : Cond.code yX7_wipe cX7_wipe 2 (some .int) ∈ jTs := jTs_of 709 (by decide +kernel) (by decide +kernel)
theorem tw_710 : Cond.methodLink RL 26 yX7_fault ∈ jTs := jTs_of 710 (by decide +kernel) (by decide +kernel)
theorem tw_711 : Cond.instanceMethod yX7_fault ∈ jTs := jTs_of 711 (by decide +kernel) (by decide +kernel)
theorem tw_712 : Cond.selects RX7 yX7_fault yX7_fault ∈ jTs := jTs_of 712 (by decide +kernel) (by decide +kernel)
theorem tw_713 : Cond.code yX7_fault cX7_fault 1 (some .int) ∈ jTs := jTs_of 713 (by decide +kernel) (by decide +kernel)
theorem tw_714 : Cond.methodLink RX7 126 yX7_faultOf ∈ jTs := jTs_of 714 (by decide +kernel) (by decide +kernel)
theorem tw_716 : Cond.instanceMethod yX7_faultOf ∈ jTs := jTs_of 716 (by decide +kernel) (by decide +kernel)
theorem tw_717 : Cond.code yX7_faultOf cX7_faultOf 2 (some .int) ∈ jTs := jTs_of 717 (by decide +kernel) (by decide +kernel)
theorem tw_718 : Cond.methodLink RX7 123 yX7_takesItem ∈ jTs := jTs_of 718 (by decide +kernel) (by decide +kernel)
theorem tw_720 : Cond.instanceMethod yX7_takesItem ∈ jTs := jTs_of 720 (by decide +kernel) (by decide +kernel)
theorem tw_721 : Cond.code yX7_takesItem cX7_takesItem 2 (some .boolean) ∈ jTs := jTs_of 721 (by decide +kernel) (by decide +kernel)
theorem tw_722 : Cond.methodLink RX7 101 yX7_letterAt ∈ jTs := jTs_of 722 (by decide +kernel) (by decide +kernel)
theorem tw_724 : Cond.instanceMethod yX7_letterAt ∈ jTs := jTs_of 724 (by decide +kernel) (by decide +kernel)
theorem tw_725 : Cond.code yX7_letterAt cX7_letterAt 2 (some .int) ∈ jTs := jTs_of 725 (by decide +kernel) (by decide +kernel)
theorem tw_726 : Cond.methodLink RX7 113 yX7_takesWall ∈ jTs := jTs_of 726 (by decide +kernel) (by decide +kernel)
theorem tw_728 : Cond.instanceMethod yX7_takesWall ∈ jTs := jTs_of 728 (by decide +kernel) (by decide +kernel)
theorem tw_729 : Cond.code yX7_takesWall cX7_takesWall 3 (some .boolean) ∈ jTs := jTs_of 729 (by decide +kernel) (by decide +kernel)
theorem tw_730 : Cond.methodLink RX7 109 yX7_takesNumber ∈ jTs := jTs_of 730 (by decide +kernel) (by decide +kernel)
theorem tw_732 : Cond.instanceMethod yX7_takesNumber ∈ jTs := jTs_of 732 (by decide +kernel) (by decide +kernel)
theorem tw_733 : Cond.code yX7_takesNumber cX7_takesNumber 5 (some .boolean) ∈ jTs := jTs_of 733 (by decide +kernel) (by decide +kernel)
theorem tw_734 : Cond.constantLong RX7 105 (48) ∈ jTs := jTs_of 734 (by decide +kernel) (by decide +kernel)
theorem tw_735 : Cond.constantLong RX7 107 (57) ∈ jTs := jTs_of 735 (by decide +kernel) (by decide +kernel)
theorem tw_736 : Cond.methodLink RX7 117 yX7_takesProp ∈ jTs := jTs_of 736 (by decide +kernel) (by decide +kernel)
theorem tw_738 : Cond.instanceMethod yX7_takesProp ∈ jTs := jTs_of 738 (by decide +kernel) (by decide +kernel)
theorem tw_739 : Cond.code yX7_takesProp cX7_takesProp 3 (some .boolean) ∈ jTs := jTs_of 739 (by decide +kernel) (by decide +kernel)
theorem tw_740 : Cond.methodLink RX7 120 yX7_takesStones ∈ jTs := jTs_of 740 (by decide +kernel) (by decide +kernel)
theorem tw_742 : Cond.instanceMethod yX7_takesStones ∈ jTs := jTs_of 742 (by decide +kernel) (by decide +kernel)
theorem tw_743 : Cond.code yX7_takesStones cX7_takesStones 1 (some .boolean) ∈ jTs := jTs_of 743 (by decide +kernel) (by decide +kernel)
theorem tw_744 : Cond.methodLink RL 30 yX7_lay ∈ jTs := jTs_of 744 (by decide +kernel) (by decide +kernel)
theorem tw_745 : Cond.instanceMethod yX7_lay ∈ jTs := jTs_of 745 (by decide +kernel) (by decide +kernel)
theorem tw_746 : Cond.selects RX7 yX7_lay yX7_lay ∈ jTs := jTs_of 746 (by decide +kernel) (by decide +kernel)
theorem tw_747 : Cond.code yX7_lay cX7_lay 1 (some .int) ∈ jTs := jTs_of 747 (by decide +kernel) (by decide +kernel)
theorem tw_748 : Cond.methodLink RL 35 yX7_wall ∈ jTs := jTs_of 748 (by decide +kernel) (by decide +kernel)
theorem tw_749 : Cond.instanceMethod yX7_wall ∈ jTs := jTs_of 749 (by decide +kernel) (by decide +kernel)
theorem tw_750 : Cond.selects RX7 yX7_wall yX7_wall ∈ jTs := jTs_of 750 (by decide +kernel) (by decide +kernel)
theorem tw_751 : Cond.code yX7_wall cX7_wall 3 (some .int) ∈ jTs := jTs_of 751 (by decide +kernel) (by decide +kernel)
theorem tw_752 : Cond.methodLink RX7 130 yX7_isWall ∈ jTs := jTs_of 752 (by decide +kernel) (by decide +kernel)
theorem tw_754 : Cond.instanceMethod yX7_isWall ∈ jTs := jTs_of 754 (by decide +kernel) (by decide +kernel)
theorem tw_755 : Cond.code yX7_isWall cX7_isWall 2 (some .boolean) ∈ jTs := jTs_of 755 (by decide +kernel) (by decide +kernel)
theorem tw_756 : Cond.constantLong RX7 134 (3) ∈ jTs := jTs_of 756 (by decide +kernel) (by decide +kernel)
theorem tw_757 : Cond.constantLong RX7 136 (7) ∈ jTs := jTs_of 757 (by decide +kernel) (by decide +kernel)
theorem tw_758 : Cond.methodLink RL 39 yX7_holds ∈ jTs := jTs_of 758 (by decide +kernel) (by decide +kernel)
theorem tw_759 : Cond.instanceMethod yX7_holds ∈ jTs := jTs_of 759 (by decide +kernel) (by decide +kernel)
theorem tw_760 : Cond.selects RX7 yX7_holds yX7_holds ∈ jTs := jTs_of 760 (by decide +kernel) (by decide +kernel)
theorem tw_761 : Cond.code yX7_holds cX7_holds 3 (some .int) ∈ jTs := jTs_of 761 (by decide +kernel) (by decide +kernel)
theorem tw_762 : Cond.methodLink RL 43 yX7_round ∈ jTs := jTs_of 762 (by decide +kernel) (by decide +kernel)
theorem tw_763 : Cond.instanceMethod yX7_round ∈ jTs := jTs_of 763 (by decide +kernel) (by decide +kernel)
theorem tw_764 : Cond.selects RX7 yX7_round yX7_round ∈ jTs := jTs_of 764 (by decide +kernel) (by decide +kernel)
theorem tw_765 : Cond.code yX7_round cX7_round 2 (some .int) ∈ jTs := jTs_of 765 (by decide +kernel) (by decide +kernel)
theorem tw_766 : Cond.methodLink RX7 138 yX7_stands ∈ jTs := jTs_of 766 (by decide +kernel) (by decide +kernel)
theorem tw_768 : Cond.instanceMethod yX7_stands ∈ jTs := jTs_of 768 (by decide +kernel) (by decide +kernel)
theorem tw_769 : Cond.code yX7_stands cX7_stands 3 (some .boolean) ∈ jTs := jTs_of 769 (by decide +kernel) (by decide +kernel)
theorem tw_770 : Cond.methodLink RX7 157 yX7_minds ∈ jTs := jTs_of 770 (by decide +kernel) (by decide +kernel)
theorem tw_772 : Cond.instanceMethod yX7_minds ∈ jTs := jTs_of 772 (by decide +kernel) (by decide +kernel)
theorem tw_773 : Cond.code yX7_minds cX7_minds 2 none ∈ jTs := jTs_of 773 (by decide +kernel) (by decide +kernel)
theorem tw_774 : Cond.methodLink RX7 153 yX7_copy ∈ jTs := jTs_of 774 (by decide +kernel) (by decide +kernel)
theorem tw_776 : Cond.instanceMethod yX7_copy ∈ jTs := jTs_of 776 (by decide +kernel) (by decide +kernel)
theorem tw_777 : Cond.code yX7_copy cX7_copy 4 none ∈ jTs := jTs_of 777 (by decide +kernel) (by decide +kernel)
theorem tw_778 : Cond.methodLink RX7 160 yX7_roundsOne ∈ jTs := jTs_of 778 (by decide +kernel) (by decide +kernel)
theorem tw_780 : Cond.instanceMethod yX7_roundsOne ∈ jTs := jTs_of 780 (by decide +kernel) (by decide +kernel)
theorem tw_781 : Cond.code yX7_roundsOne cX7_roundsOne 4 none ∈ jTs := jTs_of 781 (by decide +kernel) (by decide +kernel)
theorem tw_782 : Cond.methodLink RL 47 yX7_blast ∈ jTs := jTs_of 782 (by decide +kernel) (by decide +kernel)
theorem tw_783 : Cond.instanceMethod yX7_blast ∈ jTs := jTs_of 783 (by decide +kernel) (by decide +kernel)
theorem tw_784 : Cond.selects RX7 yX7_blast yX7_blast ∈ jTs := jTs_of 784 (by decide +kernel) (by decide +kernel)
theorem tw_785 : Cond.code yX7_blast cX7_blast 3 (some .int) ∈ jTs := jTs_of 785 (by decide +kernel) (by decide +kernel)
theorem tw_786 : Cond.constantLong RX7 163 (9) ∈ jTs := jTs_of 786 (by decide +kernel) (by decide +kernel)
theorem tw_787 : Cond.methodLink RX7 165 yX7_blasts ∈ jTs := jTs_of 787 (by decide +kernel) (by decide +kernel)
theorem tw_789 : Cond.instanceMethod yX7_blasts ∈ jTs := jTs_of 789 (by decide +kernel) (by decide +kernel)
theorem tw_790 : Cond.code yX7_blasts cX7_blasts 5 (some .int) ∈ jTs := jTs_of 790 (by decide +kernel) (by decide +kernel)
theorem tw_791 : Cond.methodLink RX7 146 yX7_wouldFall ∈ jTs := jTs_of 791 (by decide +kernel) (by decide +kernel)
theorem tw_793 : Cond.instanceMethod yX7_wouldFall ∈ jTs := jTs_of 793 (by decide +kernel) (by decide +kernel)
theorem tw_794 : Cond.code yX7_wouldFall cX7_wouldFall 4 (some .boolean) ∈ jTs := jTs_of 794 (by decide +kernel) (by decide +kernel)
theorem tw_795 : Cond.methodLink RX7 149 yX7_falls ∈ jTs := jTs_of 795 (by decide +kernel) (by decide +kernel)
theorem tw_797 : Cond.instanceMethod yX7_falls ∈ jTs := jTs_of 797 (by decide +kernel) (by decide +kernel)
theorem tw_798 : Cond.code yX7_falls cX7_falls 7 none ∈ jTs := jTs_of 798 (by decide +kernel) (by decide +kernel)
theorem tw_799 : Cond.methodLink RX7 142 yX7_fellsOne ∈ jTs := jTs_of 799 (by decide +kernel) (by decide +kernel)
theorem tw_801 : Cond.instanceMethod yX7_fellsOne ∈ jTs := jTs_of 801 (by decide +kernel) (by decide +kernel)
theorem tw_802 : Cond.code yX7_fellsOne cX7_fellsOne 5 (some .boolean) ∈ jTs := jTs_of 802 (by decide +kernel) (by decide +kernel)
theorem tw_803 : Cond.methodLink RL 51 yX7_pass ∈ jTs := jTs_of 803 (by decide +kernel) (by decide +kernel)
theorem tw_804 : Cond.instanceMethod yX7_pass ∈ jTs := jTs_of 804 (by decide +kernel) (by decide +kernel)
theorem tw_805 : Cond.selects RX7 yX7_pass yX7_pass ∈ jTs := jTs_of 805 (by decide +kernel) (by decide +kernel)
theorem tw_806 : Cond.code yX7_pass cX7_pass 3 (some .int) ∈ jTs := jTs_of 806 (by decide +kernel) (by decide +kernel)
theorem tw_807 : Cond.constantLong RX7 169 (24) ∈ jTs := jTs_of 807 (by decide +kernel) (by decide +kernel)
theorem tw_808 : Cond.methodLink RX7 171 yX7_passes ∈ jTs := jTs_of 808 (by decide +kernel) (by decide +kernel)
theorem tw_810 : Cond.instanceMethod yX7_passes ∈ jTs := jTs_of 810 (by decide +kernel) (by decide +kernel)
theorem tw_811 : Cond.code yX7_passes cX7_passes 3 none ∈ jTs := jTs_of 811 (by decide +kernel) (by decide +kernel)
theorem tw_812 : Cond.methodLink RL 56 yX7_prop ∈ jTs := jTs_of 812 (by decide +kernel) (by decide +kernel)
theorem tw_813 : Cond.instanceMethod yX7_prop ∈ jTs := jTs_of 813 (by decide +kernel) (by decide +kernel)
theorem tw_814 : Cond.selects RX7 yX7_prop yX7_prop ∈ jTs := jTs_of 814 (by decide +kernel) (by decide +kernel)
theorem tw_815 : Cond.code yX7_prop cX7_prop 5 (some .int) ∈ jTs := jTs_of 815 (by decide +kernel) (by decide +kernel)
theorem tw_816 : Cond.constantLong RX7 175 (40) ∈ jTs := jTs_of 816 (by decide +kernel) (by decide +kernel)
theorem tw_817 : Cond.methodLink RL 60 yX7_use ∈ jTs := jTs_of 817 (by decide +kernel) (by decide +kernel)
theorem tw_818 : Cond.instanceMethod yX7_use ∈ jTs := jTs_of 818 (by decide +kernel) (by decide +kernel)
theorem tw_819 : Cond.selects RX7 yX7_use yX7_use ∈ jTs := jTs_of 819 (by decide +kernel) (by decide +kernel)
theorem tw_820 : Cond.code yX7_use cX7_use 2 (some .int) ∈ jTs := jTs_of 820 (by decide +kernel) (by decide +kernel)
theorem tw_821 : Cond.constantLong RX7 177 (60) ∈ jTs := jTs_of 821 (by decide +kernel) (by decide +kernel)
theorem tw_822 : Cond.methodLink RL 64 yX7_undo ∈ jTs := jTs_of 822 (by decide +kernel) (by decide +kernel)
theorem tw_823 : Cond.instanceMethod yX7_undo ∈ jTs := jTs_of 823 (by decide +kernel) (by decide +kernel)
theorem tw_824 : Cond.selects RX7 yX7_undo yX7_undo ∈ jTs := jTs_of 824 (by decide +kernel) (by decide +kernel)
theorem tw_825 : Cond.code yX7_undo cX7_undo 1 (some .int) ∈ jTs := jTs_of 825 (by decide +kernel) (by decide +kernel)
theorem tw_826 : Cond.methodLink RL 68 yX7_calls ∈ jTs := jTs_of 826 (by decide +kernel) (by decide +kernel)
theorem tw_827 : Cond.instanceMethod yX7_calls ∈ jTs := jTs_of 827 (by decide +kernel) (by decide +kernel)
theorem tw_828 : Cond.selects RX7 yX7_calls yX7_calls ∈ jTs := jTs_of 828 (by decide +kernel) (by decide +kernel)
theorem tw_829 : Cond.code yX7_calls cX7_calls 2 (some .int) ∈ jTs := jTs_of 829 (by decide +kernel) (by decide +kernel)
theorem tw_830 : Cond.methodLink RX7 179 yX7_callsIn ∈ jTs := jTs_of 830 (by decide +kernel) (by decide +kernel)
theorem tw_832 : Cond.instanceMethod yX7_callsIn ∈ jTs := jTs_of 832 (by decide +kernel) (by decide +kernel)
theorem tw_833 : Cond.code yX7_callsIn cX7_callsIn 4 (some .int) ∈ jTs := jTs_of 833 (by decide +kernel) (by decide +kernel)
theorem tw_834 : Cond.methodLink RL 72 yX7_rounds ∈ jTs := jTs_of 834 (by decide +kernel) (by decide +kernel)
theorem tw_835 : Cond.instanceMethod yX7_rounds ∈ jTs := jTs_of 835 (by decide +kernel) (by decide +kernel)
theorem tw_836 : Cond.selects RX7 yX7_rounds yX7_rounds ∈ jTs := jTs_of 836 (by decide +kernel) (by decide +kernel)
theorem tw_837 : Cond.code yX7_rounds cX7_rounds 4 (some .int) ∈ jTs := jTs_of 837 (by decide +kernel) (by decide +kernel)
theorem tw_838 : Cond.methodLink RX7 183 yX7_tries ∈ jTs := jTs_of 838 (by decide +kernel) (by decide +kernel)
theorem tw_840 : Cond.instanceMethod yX7_tries ∈ jTs := jTs_of 840 (by decide +kernel) (by decide +kernel)
theorem tw_841 : Cond.code yX7_tries cX7_tries 1 none ∈ jTs := jTs_of 841 (by decide +kernel) (by decide +kernel)
theorem tw_842 : Cond.methodLink RL 76 yX7_key ∈ jTs := jTs_of 842 (by decide +kernel) (by decide +kernel)
theorem tw_843 : Cond.instanceMethod yX7_key ∈ jTs := jTs_of 843 (by decide +kernel) (by decide +kernel)
theorem tw_844 : Cond.selects RX7 yX7_key yX7_key ∈ jTs := jTs_of 844 (by decide +kernel) (by decide +kernel)
theorem tw_845 : Cond.code yX7_key cX7_key 6 (some .int) ∈ jTs := jTs_of 845 (by decide +kernel) (by decide +kernel)
theorem tw_846 : Cond.methodLink RX7 186 yX7_downOnes ∈ jTs := jTs_of 846 (by decide +kernel) (by decide +kernel)
theorem tw_848 : Cond.instanceMethod yX7_downOnes ∈ jTs := jTs_of 848 (by decide +kernel) (by decide +kernel)
theorem tw_849 : Cond.code yX7_downOnes cX7_downOnes 4 (some .int) ∈ jTs := jTs_of 849 (by decide +kernel) (by decide +kernel)
theorem tw_850 : Cond.methodLink RX7 189 yX7_ones ∈ jTs := jTs_of 850 (by decide +kernel) (by decide +kernel)
theorem tw_851 : Cond.static yX7_ones ∈ jTs := jTs_of 851 (by decide +kernel) (by decide +kernel)
theorem tw_852 : Cond.code yX7_ones cX7_ones 3 (some .int) ∈ jTs := jTs_of 852 (by decide +kernel) (by decide +kernel)
theorem tw_853 : Cond.methodLink RL 80 yX7_order ∈ jTs := jTs_of 853 (by decide +kernel) (by decide +kernel)
theorem tw_854 : Cond.instanceMethod yX7_order ∈ jTs := jTs_of 854 (by decide +kernel) (by decide +kernel)
theorem tw_855 : Cond.selects RX7 yX7_order yX7_order ∈ jTs := jTs_of 855 (by decide +kernel) (by decide +kernel)
theorem tw_856 : Cond.code yX7_order cX7_order 3 (some .int) ∈ jTs := jTs_of 856 (by decide +kernel) (by decide +kernel)
theorem tw_857 : Cond.constantLong RX7 196 (-1) ∈ jTs := jTs_of 857 (by decide +kernel) (by decide +kernel)
theorem tw_858 : Cond.methodLink RX7 198 yX7_bestOrder ∈ jTs := jTs_of 858 (by decide +kernel) (by decide +kernel)
theorem tw_860 : Cond.instanceMethod yX7_bestOrder ∈ jTs := jTs_of 860 (by decide +kernel) (by decide +kernel)
theorem tw_861 : Cond.code yX7_bestOrder cX7_bestOrder 7 (some .int) ∈ jTs := jTs_of 861 (by decide +kernel) (by decide +kernel)
theorem tw_862 : Cond.constant RX7 192 (1000000) ∈ jTs := jTs_of 862 (by decide +kernel) (by decide +kernel)
theorem tw_863 : Cond.methodLink RL 84 yX7_save ∈ jTs := jTs_of 863 (by decide +kernel) (by decide +kernel)
theorem tw_864 : Cond.instanceMethod yX7_save ∈ jTs := jTs_of 864 (by decide +kernel) (by decide +kernel)
theorem tw_865 : Cond.selects RX7 yX7_save yX7_save ∈ jTs := jTs_of 865 (by decide +kernel) (by decide +kernel)
theorem tw_866 : Cond.code yX7_save cX7_save 8 (some .int) ∈ jTs := jTs_of 866 (by decide +kernel) (by decide +kernel)
theorem tw_867 : Cond.methodLink RX7 201 yX7_has ∈ jTs := jTs_of 867 (by decide +kernel) (by decide +kernel)
theorem tw_868 : Cond.static yX7_has ∈ jTs := jTs_of 868 (by decide +kernel) (by decide +kernel)
theorem tw_869 : Cond.code yX7_has cX7_has 2 (some .boolean) ∈ jTs := jTs_of 869 (by decide +kernel) (by decide +kernel)
theorem tw_870 : Cond.methodLink RL 88 yX7_built ∈ jTs := jTs_of 870 (by decide +kernel) (by decide +kernel)
theorem tw_871 : Cond.instanceMethod yX7_built ∈ jTs := jTs_of 871 (by decide +kernel) (by decide +kernel)
theorem tw_872 : Cond.selects RX7 yX7_built yX7_built ∈ jTs := jTs_of 872 (by decide +kernel) (by decide +kernel)
theorem tw_873 : Cond.code yX7_built cX7_built 9 (some .int) ∈ jTs := jTs_of 873 (by decide +kernel) (by decide +kernel)
theorem tw_874 : Cond.methodLink RL 92 yX7_note ∈ jTs := jTs_of 874 (by decide +kernel) (by decide +kernel)
theorem tw_875 : Cond.instanceMethod yX7_note ∈ jTs := jTs_of 875 (by decide +kernel) (by decide +kernel)
theorem tw_876 : Cond.selects RX7 yX7_note yX7_note ∈ jTs := jTs_of 876 (by decide +kernel) (by decide +kernel)
theorem tw_877 : Cond.code yX7_note cX7_note 4 (some .int) ∈ jTs := jTs_of 877 (by decide +kernel) (by decide +kernel)
theorem tw_878 : Cond.methodLink RL 96 yX7_forget ∈ jTs := jTs_of 878 (by decide +kernel) (by decide +kernel)
theorem tw_879 : Cond.instanceMethod yX7_forget ∈ jTs := jTs_of 879 (by decide +kernel) (by decide +kernel)
theorem tw_880 : Cond.selects RX7 yX7_forget yX7_forget ∈ jTs := jTs_of 880 (by decide +kernel) (by decide +kernel)
theorem tw_881 : Cond.code yX7_forget cX7_forget 2 (some .int) ∈ jTs := jTs_of 881 (by decide +kernel) (by decide +kernel)
theorem tw_882 : Cond.methodLink RL 100 yX7_thick ∈ jTs := jTs_of 882 (by decide +kernel) (by decide +kernel)
theorem tw_883 : Cond.instanceMethod yX7_thick ∈ jTs := jTs_of 883 (by decide +kernel) (by decide +kernel)
theorem tw_884 : Cond.selects RX7 yX7_thick yX7_thick ∈ jTs := jTs_of 884 (by decide +kernel) (by decide +kernel)
theorem tw_885 : Cond.code yX7_thick cX7_thick 6 (some .int) ∈ jTs := jTs_of 885 (by decide +kernel) (by decide +kernel)
theorem tw_886 : Cond.methodLink RX7 204 yX7_isSo ∈ jTs := jTs_of 886 (by decide +kernel) (by decide +kernel)
theorem tw_888 : Cond.instanceMethod yX7_isSo ∈ jTs := jTs_of 888 (by decide +kernel) (by decide +kernel)
theorem tw_889 : Cond.code yX7_isSo cX7_isSo 6 (some .boolean) ∈ jTs := jTs_of 889 (by decide +kernel) (by decide +kernel)
theorem tw_890 : Cond.methodLink RL 105 yX7_fail ∈ jTs := jTs_of 890 (by decide +kernel) (by decide +kernel)
theorem tw_891 : Cond.instanceMethod yX7_fail ∈ jTs := jTs_of 891 (by decide +kernel) (by decide +kernel)
theorem tw_892 : Cond.selects RX7 yX7_fail yX7_fail ∈ jTs := jTs_of 892 (by decide +kernel) (by decide +kernel)
theorem tw_893 : Cond.code yX7_fail cX7_fail 15 (some .int) ∈ jTs := jTs_of 893 (by decide +kernel) (by decide +kernel)
theorem tw_894 : Cond.constantLong RX7 207 (10) ∈ jTs := jTs_of 894 (by decide +kernel) (by decide +kernel)
theorem tw_895 : Cond.methodLink RL 109 yX7_year ∈ jTs := jTs_of 895 (by decide +kernel) (by decide +kernel)
theorem tw_896 : Cond.instanceMethod yX7_year ∈ jTs := jTs_of 896 (by decide +kernel) (by decide +kernel)
theorem tw_897 : Cond.selects RX7 yX7_year yX7_year ∈ jTs := jTs_of 897 (by decide +kernel) (by decide +kernel)
theorem tw_898 : Cond.code yX7_year cX7_year 9 (some .int) ∈ jTs := jTs_of 898 (by decide +kernel) (by decide +kernel)
theorem tw_899 : Cond.constantLong RX7 209 (9999) ∈ jTs := jTs_of 899 (by decide +kernel) (by decide +kernel)
theorem tw_900 : Cond.constantLong RX7 211 (2) ∈ jTs := jTs_of 900 (by decide +kernel) (by decide +kernel)
theorem tw_901 : Cond.constantLong RX7 213 (7919) ∈ jTs := jTs_of 901 (by decide +kernel) (by decide +kernel)
theorem tw_902 : Cond.constantLong RX7 215 (6151) ∈ jTs := jTs_of 902 (by decide +kernel) (by decide +kernel)
theorem tw_903 : Cond.constantLong RX7 217 (65521) ∈ jTs := jTs_of 903 (by decide +kernel) (by decide +kernel)
theorem tw_904 : Cond.methodLink RX7 219 yX7_hurtAll ∈ jTs := jTs_of 904 (by decide +kernel) (by decide +kernel)
theorem tw_906 : Cond.instanceMethod yX7_hurtAll ∈ jTs := jTs_of 906 (by decide +kernel) (by decide +kernel)
theorem tw_907 : Cond.code yX7_hurtAll cX7_hurtAll 4 (some .int) ∈ jTs := jTs_of 907 (by decide +kernel) (by decide +kernel)
theorem tw_908 : Cond.methodLink RL 113 yX7_keep ∈ jTs := jTs_of 908 (by decide +kernel) (by decide +kernel)
theorem tw_909 : Cond.instanceMethod yX7_keep ∈ jTs := jTs_of 909 (by decide +kernel) (by decide +kernel)
theorem tw_910 : Cond.selects RX7 yX7_keep yX7_keep ∈ jTs := jTs_of 910 (by decide +kernel) (by decide +kernel)
theorem tw_911 : Cond.code yX7_keep cX7_keep 1 (some .int) ∈ jTs := jTs_of 911 (by decide +kernel) (by decide +kernel)
theorem tw_912 : Cond.methodLink RL 117 yX7_back ∈ jTs := jTs_of 912 (by decide +kernel) (by decide +kernel)
theorem tw_913 : Cond.instanceMethod yX7_back ∈ jTs := jTs_of 913 (by decide +kernel) (by decide +kernel)
theorem tw_914 : Cond.selects RX7 yX7_back yX7_back ∈ jTs := jTs_of 914 (by decide +kernel) (by decide +kernel)
theorem tw_915 : Cond.code yX7_back cX7_back 1 (some .int) ∈ jTs := jTs_of 915 (by decide +kernel) (by decide +kernel)
theorem tw_916 : Cond.methodLink RL 121 yX7_count ∈ jTs := jTs_of 916 (by decide +kernel) (by decide +kernel)
theorem tw_917 : Cond.instanceMethod yX7_count ∈ jTs := jTs_of 917 (by decide +kernel) (by decide +kernel)
theorem tw_918 : Cond.selects RX7 yX7_count yX7_count ∈ jTs := jTs_of 918 (by decide +kernel) (by decide +kernel)
theorem tw_919 : Cond.code yX7_count cX7_count 2 (some .int) ∈ jTs := jTs_of 919 (by decide +kernel) (by decide +kernel)
theorem tw_920 : Cond.methodLink RX7 222 yX7_propsThere ∈ jTs := jTs_of 920 (by decide +kernel) (by decide +kernel)
theorem tw_922 : Cond.instanceMethod yX7_propsThere ∈ jTs := jTs_of 922 (by decide +kernel) (by decide +kernel)
theorem tw_923 : Cond.code yX7_propsThere cX7_propsThere 3 (some .int) ∈ jTs := jTs_of 923 (by decide +kernel) (by decide +kernel)
theorem tw_924 : Cond.fieldLink RJ0 9 "java/lang/String" "value" "[B" ∈ jTs := jTs_of 924 (by decide +kernel) (by decide +kernel)
theorem tw_925 : Cond.fieldLink RJ0 15 "java/lang/String" "coder" "B" ∈ jTs := jTs_of 925 (by decide +kernel) (by decide +kernel)
theorem tws_0 : Cond.selects RX4 yX4_readItem yX4_readItem ∈ jTs := jTs_sel 0 (by decide +kernel) (by decide +kernel)
theorem tws_1 : Cond.selects RX4 yX4_letterAt yX4_letterAt ∈ jTs := jTs_sel 1 (by decide +kernel) (by decide +kernel)
theorem tws_2 : Cond.selects RX4 yX4_figuresAt yX4_figuresAt ∈ jTs := jTs_sel 2 (by decide +kernel) (by decide +kernel)
theorem tws_3 : Cond.selects RX4 yX4_isFigure yX4_isFigure ∈ jTs := jTs_sel 3 (by decide +kernel) (by decide +kernel)
theorem tws_4 : Cond.selects RX4 yX4_numberAt yX4_numberAt ∈ jTs := jTs_sel 4 (by decide +kernel) (by decide +kernel)
theorem tws_5 : Cond.selects RX3 yX3_takeWall yX3_takeWall ∈ jTs := jTs_sel 5 (by decide +kernel) (by decide +kernel)
theorem tws_6 : Cond.selects RX3 yX3_takeProp yX3_takeProp ∈ jTs := jTs_sel 6 (by decide +kernel) (by decide +kernel)
theorem tws_7 : Cond.selects RX6 yX6_isNoWall yX6_isNoWall ∈ jTs := jTs_sel 7 (by decide +kernel) (by decide +kernel)
theorem tws_8 : Cond.selects RX6 yX6_isNoPair yX6_isNoPair ∈ jTs := jTs_sel 8 (by decide +kernel) (by decide +kernel)
theorem tws_9 : Cond.selects RX5 yX5_fallWithAll yX5_fallWithAll ∈ jTs := jTs_sel 9 (by decide +kernel) (by decide +kernel)
theorem tws_10 : Cond.selects RX6 yX6_othersDownBy yX6_othersDownBy ∈ jTs := jTs_sel 10 (by decide +kernel) (by decide +kernel)
theorem tws_11 : Cond.selects RX1 yX1_goOn yX1_goOn ∈ jTs := jTs_sel 11 (by decide +kernel) (by decide +kernel)
theorem tws_12 : Cond.selects RX1 yX1_keepBest yX1_keepBest ∈ jTs := jTs_sel 12 (by decide +kernel) (by decide +kernel)
theorem tws_13 : Cond.selects RX1 yX1_markOf yX1_markOf ∈ jTs := jTs_sel 13 (by decide +kernel) (by decide +kernel)
theorem tws_14 : Cond.selects RX1 yX1_wasSeen yX1_wasSeen ∈ jTs := jTs_sel 14 (by decide +kernel) (by decide +kernel)
theorem tws_15 : Cond.selects RX6 yX6_standsWithout yX6_standsWithout ∈ jTs := jTs_sel 15 (by decide +kernel) (by decide +kernel)
theorem tws_16 : Cond.selects RX6 yX6_drawAhead yX6_drawAhead ∈ jTs := jTs_sel 16 (by decide +kernel) (by decide +kernel)
theorem tws_17 : Cond.selects RX7 yX7_starts yX7_starts ∈ jTs := jTs_sel 17 (by decide +kernel) (by decide +kernel)
theorem tws_18 : Cond.selects RX7 yX7_addsWall yX7_addsWall ∈ jTs := jTs_sel 18 (by decide +kernel) (by decide +kernel)
theorem tws_19 : Cond.selects RX7 yX7_begins yX7_begins ∈ jTs := jTs_sel 19 (by decide +kernel) (by decide +kernel)
theorem tws_20 : Cond.selects RX7 yX7_faultOf yX7_faultOf ∈ jTs := jTs_sel 20 (by decide +kernel) (by decide +kernel)
theorem tws_21 : Cond.selects RX7 yX7_takesItem yX7_takesItem ∈ jTs := jTs_sel 21 (by decide +kernel) (by decide +kernel)
theorem tws_22 : Cond.selects RX7 yX7_letterAt yX7_letterAt ∈ jTs := jTs_sel 22 (by decide +kernel) (by decide +kernel)
theorem tws_23 : Cond.selects RX7 yX7_takesWall yX7_takesWall ∈ jTs := jTs_sel 23 (by decide +kernel) (by decide +kernel)
theorem tws_24 : Cond.selects RX7 yX7_takesNumber yX7_takesNumber ∈ jTs := jTs_sel 24 (by decide +kernel) (by decide +kernel)
theorem tws_25 : Cond.selects RX7 yX7_takesProp yX7_takesProp ∈ jTs := jTs_sel 25 (by decide +kernel) (by decide +kernel)
theorem tws_26 : Cond.selects RX7 yX7_takesStones yX7_takesStones ∈ jTs := jTs_sel 26 (by decide +kernel) (by decide +kernel)
theorem tws_27 : Cond.selects RX7 yX7_isWall yX7_isWall ∈ jTs := jTs_sel 27 (by decide +kernel) (by decide +kernel)
theorem tws_28 : Cond.selects RX7 yX7_stands yX7_stands ∈ jTs := jTs_sel 28 (by decide +kernel) (by decide +kernel)
theorem tws_29 : Cond.selects RX7 yX7_minds yX7_minds ∈ jTs := jTs_sel 29 (by decide +kernel) (by decide +kernel)
theorem tws_30 : Cond.selects RX7 yX7_copy yX7_copy ∈ jTs := jTs_sel 30 (by decide +kernel) (by decide +kernel)
theorem tws_31 : Cond.selects RX7 yX7_roundsOne yX7_roundsOne ∈ jTs := jTs_sel 31 (by decide +kernel) (by decide +kernel)
theorem tws_32 : Cond.selects RX7 yX7_blasts yX7_blasts ∈ jTs := jTs_sel 32 (by decide +kernel) (by decide +kernel)
theorem tws_33 : Cond.selects RX7 yX7_wouldFall yX7_wouldFall ∈ jTs := jTs_sel 33 (by decide +kernel) (by decide +kernel)
theorem tws_34 : Cond.selects RX7 yX7_falls yX7_falls ∈ jTs := jTs_sel 34 (by decide +kernel) (by decide +kernel)
theorem tws_35 : Cond.selects RX7 yX7_fellsOne yX7_fellsOne ∈ jTs := jTs_sel 35 (by decide +kernel) (by decide +kernel)
theorem tws_36 : Cond.selects RX7 yX7_passes yX7_passes ∈ jTs := jTs_sel 36 (by decide +kernel) (by decide +kernel)
theorem tws_37 : Cond.selects RX7 yX7_callsIn yX7_callsIn ∈ jTs := jTs_sel 37 (by decide +kernel) (by decide +kernel)
theorem tws_38 : Cond.selects RX7 yX7_tries yX7_tries ∈ jTs := jTs_sel 38 (by decide +kernel) (by decide +kernel)
theorem tws_39 : Cond.selects RX7 yX7_downOnes yX7_downOnes ∈ jTs := jTs_sel 39 (by decide +kernel) (by decide +kernel)
theorem tws_40 : Cond.selects RX7 yX7_bestOrder yX7_bestOrder ∈ jTs := jTs_sel 40 (by decide +kernel) (by decide +kernel)
theorem tws_41 : Cond.selects RX7 yX7_isSo yX7_isSo ∈ jTs := jTs_sel 41 (by decide +kernel) (by decide +kernel)
theorem tws_42 : Cond.selects RX7 yX7_hurtAll yX7_hurtAll ∈ jTs := jTs_sel 42 (by decide +kernel) (by decide +kernel)
theorem tws_43 : Cond.selects RX7 yX7_propsThere yX7_propsThere ∈ jTs := jTs_sel 43 (by decide +kernel) (by decide +kernel)
theorem jinX0 : ∀ w ∈ wsX00, w ∈ jTs := List.forall_mem_cons.mpr ⟨tw_150, List.forall_mem_cons.mpr ⟨tw_152, List.forall_mem_cons.mpr ⟨tw_154, List.forall_mem_cons.mpr ⟨tw_156, fun _ h => absurd h List.not_mem_nil⟩⟩⟩⟩
theorem jinX1 : ∀ w ∈ wsX10, w ∈ jTs := List.forall_mem_cons.mpr ⟨tw_178, List.forall_mem_cons.mpr ⟨tw_180, List.forall_mem_cons.mpr ⟨tw_182, List.forall_mem_cons.mpr ⟨tw_184, List.forall_mem_cons.mpr ⟨tw_186, List.forall_mem_cons.mpr ⟨tw_188, List.forall_mem_cons.mpr ⟨tw_190, List.forall_mem_cons.mpr ⟨tw_192, fun _ h => absurd h List.not_mem_nil⟩⟩⟩⟩⟩⟩⟩⟩
theorem jinX2 : ∀ w ∈ wsX20, w ∈ jTs := List.forall_mem_cons.mpr ⟨tw_132, List.forall_mem_cons.mpr ⟨tw_134, List.forall_mem_cons.mpr ⟨tw_136, fun _ h => absurd h List.not_mem_nil⟩⟩⟩
theorem jinX3 : ∀ w ∈ wsX30, w ∈ jTs := List.forall_mem_cons.mpr ⟨tw_67, List.forall_mem_cons.mpr ⟨tw_69, List.forall_mem_cons.mpr ⟨tw_71, List.forall_mem_cons.mpr ⟨tw_73, List.forall_mem_cons.mpr ⟨tw_75, List.forall_mem_cons.mpr ⟨tw_77, fun _ h => absurd h List.not_mem_nil⟩⟩⟩⟩⟩⟩
theorem jinX4 : ∀ w ∈ wsX40, w ∈ jTs := List.forall_mem_cons.mpr ⟨tw_35, List.forall_mem_cons.mpr ⟨tw_37, List.forall_mem_cons.mpr ⟨tw_39, fun _ h => absurd h List.not_mem_nil⟩⟩⟩
theorem jinX5 : ∀ w ∈ wsX50, w ∈ jTs := List.forall_mem_cons.mpr ⟨tw_102, List.forall_mem_cons.mpr ⟨tw_104, List.forall_mem_cons.mpr ⟨tw_106, List.forall_mem_cons.mpr ⟨tw_108, List.forall_mem_cons.mpr ⟨tw_110, List.forall_mem_cons.mpr ⟨tw_112, List.forall_mem_cons.mpr ⟨tw_114, List.forall_mem_cons.mpr ⟨tw_116, fun _ h => absurd h List.not_mem_nil⟩⟩⟩⟩⟩⟩⟩⟩
theorem jinX6 : ∀ w ∈ wsX60, w ∈ jTs := List.forall_mem_cons.mpr ⟨tw_313, List.forall_mem_cons.mpr ⟨tw_315, List.forall_mem_cons.mpr ⟨tw_317, List.forall_mem_cons.mpr ⟨tw_319, List.forall_mem_cons.mpr ⟨tw_321, List.forall_mem_cons.mpr ⟨tw_323, List.forall_mem_cons.mpr ⟨tw_325, List.forall_mem_cons.mpr ⟨tw_327, List.forall_mem_cons.mpr ⟨tw_329, List.forall_mem_cons.mpr ⟨tw_331, fun _ h => absurd h List.not_mem_nil⟩⟩⟩⟩⟩⟩⟩⟩⟩⟩
theorem jinX7 : ∀ w ∈ wsX70, w ∈ jTs := List.forall_mem_cons.mpr ⟨tw_646, List.forall_mem_cons.mpr ⟨tw_648, List.forall_mem_cons.mpr ⟨tw_650, List.forall_mem_cons.mpr ⟨tw_652, List.forall_mem_cons.mpr ⟨tw_654, List.forall_mem_cons.mpr ⟨tw_656, List.forall_mem_cons.mpr ⟨tw_658, List.forall_mem_cons.mpr ⟨tw_660, List.forall_mem_cons.mpr ⟨tw_662, List.forall_mem_cons.mpr ⟨tw_664, List.forall_mem_cons.mpr ⟨tw_666, List.forall_mem_cons.mpr ⟨tw_668, List.forall_mem_cons.mpr ⟨tw_670, List.forall_mem_cons.mpr ⟨tw_672, List.forall_mem_cons.mpr ⟨tw_674, List.forall_mem_cons.mpr ⟨tw_676, List.forall_mem_cons.mpr ⟨tw_678, List.forall_mem_cons.mpr ⟨tw_680, List.forall_mem_cons.mpr ⟨tw_682, List.forall_mem_cons.mpr ⟨tw_684, List.forall_mem_cons.mpr ⟨tw_686, List.forall_mem_cons.mpr ⟨tw_688, List.forall_mem_cons.mpr ⟨tw_690, List.forall_mem_cons.mpr ⟨tw_692, List.forall_mem_cons.mpr ⟨tw_694, fun _ h => absurd h List.not_mem_nil⟩⟩⟩⟩⟩⟩⟩⟩⟩⟩⟩⟩⟩⟩⟩⟩⟩⟩⟩⟩⟩⟩⟩⟩⟩
/-- the field of a class behind a place of a pool -/
def jFL (own : String) (idx ci j : Nat) (fin : Bool) (ty : FieldType) : Prop := ∃ (C : String) (T : u_T) (N : Nat), vwCl[ci]? = some (C, T, N) ∧ (∀ w ∈ u_ws C T N, w ∈ jTs) ∧ j < N ∧ Cond.fieldLink own idx (T j).1 (T j).2.1 (T j).2.2.1 ∈ jTs ∧ (T j).1 = C ∧ (T j).2.2.2 = fin ∧ ∃ ty0 : Nat → FieldType, (∀ k, k < N → parseFieldDescriptor (T k).2.2.1 = some (ty0 k)) ∧ ty0 j = ty ∧ ∀ a, a < N → ∀ b, b < N → a ≠ b → (T a).2.1 ≠ (T b).2.1
theorem fl_X4_9 : jFL RX4 9 4 0 true (tyX4 0) := ⟨RX4, TX4, 3, rfl, jinX4, by decide, tw_31, rfl, rfl, tyX4, tyX4_ok, rfl, nmX4⟩
theorem fl_X4_15 : jFL RX4 15 4 1 true (tyX4 1) := ⟨RX4, TX4, 3, rfl, jinX4, by decide, tw_32, rfl, rfl, tyX4, tyX4_ok, rfl, nmX4⟩
theorem fl_X4_19 : jFL RX4 19 4 2 false (tyX4 2) := ⟨RX4, TX4, 3, rfl, jinX4, by decide, tw_33, rfl, rfl, tyX4, tyX4_ok, rfl, nmX4⟩
theorem fl_X6_90 : jFL RX6 90 4 2 false (tyX4 2) := ⟨RX4, TX4, 3, rfl, jinX4, by decide, tw_34, rfl, rfl, tyX4, tyX4_ok, rfl, nmX4⟩
theorem fl_X3_9 : jFL RX3 9 3 0 false (tyX3 0) := ⟨RX3, TX3, 6, rfl, jinX3, by decide, tw_50, rfl, rfl, tyX3, tyX3_ok, rfl, nmX3⟩
theorem fl_X1_63 : jFL RX1 63 3 0 false (tyX3 0) := ⟨RX3, TX3, 6, rfl, jinX3, by decide, tw_51, rfl, rfl, tyX3, tyX3_ok, rfl, nmX3⟩
theorem fl_X6_92 : jFL RX6 92 3 0 false (tyX3 0) := ⟨RX3, TX3, 6, rfl, jinX3, by decide, tw_52, rfl, rfl, tyX3, tyX3_ok, rfl, nmX3⟩
theorem fl_X5_58 : jFL RX5 58 3 0 false (tyX3 0) := ⟨RX3, TX3, 6, rfl, jinX3, by decide, tw_53, rfl, rfl, tyX3, tyX3_ok, rfl, nmX3⟩
theorem fl_X3_15 : jFL RX3 15 3 1 false (tyX3 1) := ⟨RX3, TX3, 6, rfl, jinX3, by decide, tw_54, rfl, rfl, tyX3, tyX3_ok, rfl, nmX3⟩
theorem fl_X5_54 : jFL RX5 54 3 1 false (tyX3 1) := ⟨RX3, TX3, 6, rfl, jinX3, by decide, tw_55, rfl, rfl, tyX3, tyX3_ok, rfl, nmX3⟩
theorem fl_X3_18 : jFL RX3 18 3 2 true (tyX3 2) := ⟨RX3, TX3, 6, rfl, jinX3, by decide, tw_56, rfl, rfl, tyX3, tyX3_ok, rfl, nmX3⟩
theorem fl_X5_55 : jFL RX5 55 3 2 true (tyX3 2) := ⟨RX3, TX3, 6, rfl, jinX3, by decide, tw_57, rfl, rfl, tyX3, tyX3_ok, rfl, nmX3⟩
theorem fl_X6_103 : jFL RX6 103 3 2 true (tyX3 2) := ⟨RX3, TX3, 6, rfl, jinX3, by decide, tw_58, rfl, rfl, tyX3, tyX3_ok, rfl, nmX3⟩
theorem fl_X3_22 : jFL RX3 22 3 3 true (tyX3 3) := ⟨RX3, TX3, 6, rfl, jinX3, by decide, tw_59, rfl, rfl, tyX3, tyX3_ok, rfl, nmX3⟩
theorem fl_X5_38 : jFL RX5 38 3 3 true (tyX3 3) := ⟨RX3, TX3, 6, rfl, jinX3, by decide, tw_60, rfl, rfl, tyX3, tyX3_ok, rfl, nmX3⟩
theorem fl_X6_107 : jFL RX6 107 3 3 true (tyX3 3) := ⟨RX3, TX3, 6, rfl, jinX3, by decide, tw_61, rfl, rfl, tyX3, tyX3_ok, rfl, nmX3⟩
theorem fl_X3_25 : jFL RX3 25 3 4 true (tyX3 4) := ⟨RX3, TX3, 6, rfl, jinX3, by decide, tw_62, rfl, rfl, tyX3, tyX3_ok, rfl, nmX3⟩
theorem fl_X6_110 : jFL RX6 110 3 4 true (tyX3 4) := ⟨RX3, TX3, 6, rfl, jinX3, by decide, tw_63, rfl, rfl, tyX3, tyX3_ok, rfl, nmX3⟩
theorem fl_X5_70 : jFL RX5 70 3 4 true (tyX3 4) := ⟨RX3, TX3, 6, rfl, jinX3, by decide, tw_64, rfl, rfl, tyX3, tyX3_ok, rfl, nmX3⟩
theorem fl_X3_28 : jFL RX3 28 3 5 true (tyX3 5) := ⟨RX3, TX3, 6, rfl, jinX3, by decide, tw_65, rfl, rfl, tyX3, tyX3_ok, rfl, nmX3⟩
theorem fl_X5_47 : jFL RX5 47 3 5 true (tyX3 5) := ⟨RX3, TX3, 6, rfl, jinX3, by decide, tw_66, rfl, rfl, tyX3, tyX3_ok, rfl, nmX3⟩
theorem fl_X5_34 : jFL RX5 34 5 0 true (tyX5 0) := ⟨RX5, TX5, 8, rfl, jinX5, by decide, tw_86, rfl, rfl, tyX5, tyX5_ok, rfl, nmX5⟩
theorem fl_X5_9 : jFL RX5 9 5 1 true (tyX5 1) := ⟨RX5, TX5, 8, rfl, jinX5, by decide, tw_87, rfl, rfl, tyX5, tyX5_ok, rfl, nmX5⟩
theorem fl_X1_100 : jFL RX1 100 5 1 true (tyX5 1) := ⟨RX5, TX5, 8, rfl, jinX5, by decide, tw_88, rfl, rfl, tyX5, tyX5_ok, rfl, nmX5⟩
theorem fl_X6_113 : jFL RX6 113 5 1 true (tyX5 1) := ⟨RX5, TX5, 8, rfl, jinX5, by decide, tw_89, rfl, rfl, tyX5, tyX5_ok, rfl, nmX5⟩
theorem fl_X5_15 : jFL RX5 15 5 2 true (tyX5 2) := ⟨RX5, TX5, 8, rfl, jinX5, by decide, tw_90, rfl, rfl, tyX5, tyX5_ok, rfl, nmX5⟩
theorem fl_X6_117 : jFL RX6 117 5 2 true (tyX5 2) := ⟨RX5, TX5, 8, rfl, jinX5, by decide, tw_91, rfl, rfl, tyX5, tyX5_ok, rfl, nmX5⟩
theorem fl_X5_18 : jFL RX5 18 5 3 true (tyX5 3) := ⟨RX5, TX5, 8, rfl, jinX5, by decide, tw_92, rfl, rfl, tyX5, tyX5_ok, rfl, nmX5⟩
theorem fl_X6_120 : jFL RX6 120 5 3 true (tyX5 3) := ⟨RX5, TX5, 8, rfl, jinX5, by decide, tw_93, rfl, rfl, tyX5, tyX5_ok, rfl, nmX5⟩
theorem fl_X5_21 : jFL RX5 21 5 4 true (tyX5 4) := ⟨RX5, TX5, 8, rfl, jinX5, by decide, tw_94, rfl, rfl, tyX5, tyX5_ok, rfl, nmX5⟩
theorem fl_X1_97 : jFL RX1 97 5 4 true (tyX5 4) := ⟨RX5, TX5, 8, rfl, jinX5, by decide, tw_95, rfl, rfl, tyX5, tyX5_ok, rfl, nmX5⟩
theorem fl_X6_123 : jFL RX6 123 5 4 true (tyX5 4) := ⟨RX5, TX5, 8, rfl, jinX5, by decide, tw_96, rfl, rfl, tyX5, tyX5_ok, rfl, nmX5⟩
theorem fl_X5_24 : jFL RX5 24 5 5 true (tyX5 5) := ⟨RX5, TX5, 8, rfl, jinX5, by decide, tw_97, rfl, rfl, tyX5, tyX5_ok, rfl, nmX5⟩
theorem fl_X5_27 : jFL RX5 27 5 6 false (tyX5 6) := ⟨RX5, TX5, 8, rfl, jinX5, by decide, tw_98, rfl, rfl, tyX5, tyX5_ok, rfl, nmX5⟩
theorem fl_X6_159 : jFL RX6 159 5 6 false (tyX5 6) := ⟨RX5, TX5, 8, rfl, jinX5, by decide, tw_99, rfl, rfl, tyX5, tyX5_ok, rfl, nmX5⟩
theorem fl_X5_31 : jFL RX5 31 5 7 false (tyX5 7) := ⟨RX5, TX5, 8, rfl, jinX5, by decide, tw_100, rfl, rfl, tyX5, tyX5_ok, rfl, nmX5⟩
theorem fl_X6_152 : jFL RX6 152 5 7 false (tyX5 7) := ⟨RX5, TX5, 8, rfl, jinX5, by decide, tw_101, rfl, rfl, tyX5, tyX5_ok, rfl, nmX5⟩
theorem fl_X2_11 : jFL RX2 11 2 0 true (tyX2 0) := ⟨RX2, TX2, 3, rfl, jinX2, by decide, tw_128, rfl, rfl, tyX2, tyX2_ok, rfl, nmX2⟩
theorem fl_X2_17 : jFL RX2 17 2 1 false (tyX2 1) := ⟨RX2, TX2, 3, rfl, jinX2, by decide, tw_129, rfl, rfl, tyX2, tyX2_ok, rfl, nmX2⟩
theorem fl_X2_21 : jFL RX2 21 2 2 false (tyX2 2) := ⟨RX2, TX2, 3, rfl, jinX2, by decide, tw_130, rfl, rfl, tyX2, tyX2_ok, rfl, nmX2⟩
theorem fl_X6_95 : jFL RX6 95 2 2 false (tyX2 2) := ⟨RX2, TX2, 3, rfl, jinX2, by decide, tw_131, rfl, rfl, tyX2, tyX2_ok, rfl, nmX2⟩
theorem fl_X0_9 : jFL RX0 9 0 0 true (tyX0 0) := ⟨RX0, TX0, 4, rfl, jinX0, by decide, tw_145, rfl, rfl, tyX0, tyX0_ok, rfl, nmX0⟩
theorem fl_X0_15 : jFL RX0 15 0 1 true (tyX0 1) := ⟨RX0, TX0, 4, rfl, jinX0, by decide, tw_146, rfl, rfl, tyX0, tyX0_ok, rfl, nmX0⟩
theorem fl_X0_18 : jFL RX0 18 0 2 true (tyX0 2) := ⟨RX0, TX0, 4, rfl, jinX0, by decide, tw_147, rfl, rfl, tyX0, tyX0_ok, rfl, nmX0⟩
theorem fl_X0_21 : jFL RX0 21 0 3 false (tyX0 3) := ⟨RX0, TX0, 4, rfl, jinX0, by decide, tw_148, rfl, rfl, tyX0, tyX0_ok, rfl, nmX0⟩
theorem fl_X6_98 : jFL RX6 98 0 3 false (tyX0 3) := ⟨RX0, TX0, 4, rfl, jinX0, by decide, tw_149, rfl, rfl, tyX0, tyX0_ok, rfl, nmX0⟩
theorem fl_X1_38 : jFL RX1 38 1 0 true (tyX1 0) := ⟨RX1, TX1, 8, rfl, jinX1, by decide, tw_167, rfl, rfl, tyX1, tyX1_ok, rfl, nmX1⟩
theorem fl_X1_11 : jFL RX1 11 1 1 true (tyX1 1) := ⟨RX1, TX1, 8, rfl, jinX1, by decide, tw_168, rfl, rfl, tyX1, tyX1_ok, rfl, nmX1⟩
theorem fl_X1_17 : jFL RX1 17 1 2 true (tyX1 2) := ⟨RX1, TX1, 8, rfl, jinX1, by decide, tw_169, rfl, rfl, tyX1, tyX1_ok, rfl, nmX1⟩
theorem fl_X1_21 : jFL RX1 21 1 3 true (tyX1 3) := ⟨RX1, TX1, 8, rfl, jinX1, by decide, tw_170, rfl, rfl, tyX1, tyX1_ok, rfl, nmX1⟩
theorem fl_X6_189 : jFL RX6 189 1 3 true (tyX1 3) := ⟨RX1, TX1, 8, rfl, jinX1, by decide, tw_171, rfl, rfl, tyX1, tyX1_ok, rfl, nmX1⟩
theorem fl_X1_24 : jFL RX1 24 1 4 true (tyX1 4) := ⟨RX1, TX1, 8, rfl, jinX1, by decide, tw_172, rfl, rfl, tyX1, tyX1_ok, rfl, nmX1⟩
theorem fl_X1_28 : jFL RX1 28 1 5 true (tyX1 5) := ⟨RX1, TX1, 8, rfl, jinX1, by decide, tw_173, rfl, rfl, tyX1, tyX1_ok, rfl, nmX1⟩
theorem fl_X1_31 : jFL RX1 31 1 6 false (tyX1 6) := ⟨RX1, TX1, 8, rfl, jinX1, by decide, tw_174, rfl, rfl, tyX1, tyX1_ok, rfl, nmX1⟩
theorem fl_X6_188 : jFL RX6 188 1 6 false (tyX1 6) := ⟨RX1, TX1, 8, rfl, jinX1, by decide, tw_175, rfl, rfl, tyX1, tyX1_ok, rfl, nmX1⟩
theorem fl_X1_35 : jFL RX1 35 1 7 false (tyX1 7) := ⟨RX1, TX1, 8, rfl, jinX1, by decide, tw_176, rfl, rfl, tyX1, tyX1_ok, rfl, nmX1⟩
theorem fl_X6_185 : jFL RX6 185 1 7 false (tyX1 7) := ⟨RX1, TX1, 8, rfl, jinX1, by decide, tw_177, rfl, rfl, tyX1, tyX1_ok, rfl, nmX1⟩
theorem fl_X6_12 : jFL RX6 12 6 0 true (tyX6 0) := ⟨RX6, TX6, 10, rfl, jinX6, by decide, tw_303, rfl, rfl, tyX6, tyX6_ok, rfl, nmX6⟩
theorem fl_X6_19 : jFL RX6 19 6 1 true (tyX6 1) := ⟨RX6, TX6, 10, rfl, jinX6, by decide, tw_304, rfl, rfl, tyX6, tyX6_ok, rfl, nmX6⟩
theorem fl_X6_23 : jFL RX6 23 6 2 true (tyX6 2) := ⟨RX6, TX6, 10, rfl, jinX6, by decide, tw_305, rfl, rfl, tyX6, tyX6_ok, rfl, nmX6⟩
theorem fl_X6_31 : jFL RX6 31 6 3 true (tyX6 3) := ⟨RX6, TX6, 10, rfl, jinX6, by decide, tw_306, rfl, rfl, tyX6, tyX6_ok, rfl, nmX6⟩
theorem fl_X6_35 : jFL RX6 35 6 4 true (tyX6 4) := ⟨RX6, TX6, 10, rfl, jinX6, by decide, tw_307, rfl, rfl, tyX6, tyX6_ok, rfl, nmX6⟩
theorem fl_X6_41 : jFL RX6 41 6 5 true (tyX6 5) := ⟨RX6, TX6, 10, rfl, jinX6, by decide, tw_308, rfl, rfl, tyX6, tyX6_ok, rfl, nmX6⟩
theorem fl_X6_45 : jFL RX6 45 6 6 true (tyX6 6) := ⟨RX6, TX6, 10, rfl, jinX6, by decide, tw_309, rfl, rfl, tyX6, tyX6_ok, rfl, nmX6⟩
theorem fl_X6_49 : jFL RX6 49 6 7 false (tyX6 7) := ⟨RX6, TX6, 10, rfl, jinX6, by decide, tw_310, rfl, rfl, tyX6, tyX6_ok, rfl, nmX6⟩
theorem fl_X6_56 : jFL RX6 56 6 8 true (tyX6 8) := ⟨RX6, TX6, 10, rfl, jinX6, by decide, tw_311, rfl, rfl, tyX6, tyX6_ok, rfl, nmX6⟩
theorem fl_X6_63 : jFL RX6 63 6 9 true (tyX6 9) := ⟨RX6, TX6, 10, rfl, jinX6, by decide, tw_312, rfl, rfl, tyX6, tyX6_ok, rfl, nmX6⟩
theorem fl_X7_7 : jFL RX7 7 7 0 true (tyX7 0) := ⟨RX7, TX7, 25, rfl, jinX7, by decide, tw_621, rfl, rfl, tyX7, tyX7_ok, rfl, nmX7⟩
theorem fl_X7_79 : jFL RX7 79 7 1 false (tyX7 1) := ⟨RX7, TX7, 25, rfl, jinX7, by decide, tw_622, rfl, rfl, tyX7, tyX7_ok, rfl, nmX7⟩
theorem fl_X7_82 : jFL RX7 82 7 2 false (tyX7 2) := ⟨RX7, TX7, 25, rfl, jinX7, by decide, tw_623, rfl, rfl, tyX7, tyX7_ok, rfl, nmX7⟩
theorem fl_X7_69 : jFL RX7 69 7 3 false (tyX7 3) := ⟨RX7, TX7, 25, rfl, jinX7, by decide, tw_624, rfl, rfl, tyX7, tyX7_ok, rfl, nmX7⟩
theorem fl_X7_13 : jFL RX7 13 7 4 true (tyX7 4) := ⟨RX7, TX7, 25, rfl, jinX7, by decide, tw_625, rfl, rfl, tyX7, tyX7_ok, rfl, nmX7⟩
theorem fl_X7_16 : jFL RX7 16 7 5 true (tyX7 5) := ⟨RX7, TX7, 25, rfl, jinX7, by decide, tw_626, rfl, rfl, tyX7, tyX7_ok, rfl, nmX7⟩
theorem fl_X7_19 : jFL RX7 19 7 6 true (tyX7 6) := ⟨RX7, TX7, 25, rfl, jinX7, by decide, tw_627, rfl, rfl, tyX7, tyX7_ok, rfl, nmX7⟩
theorem fl_X7_85 : jFL RX7 85 7 7 false (tyX7 7) := ⟨RX7, TX7, 25, rfl, jinX7, by decide, tw_628, rfl, rfl, tyX7, tyX7_ok, rfl, nmX7⟩
theorem fl_X7_22 : jFL RX7 22 7 8 true (tyX7 8) := ⟨RX7, TX7, 25, rfl, jinX7, by decide, tw_629, rfl, rfl, tyX7, tyX7_ok, rfl, nmX7⟩
theorem fl_X7_25 : jFL RX7 25 7 9 true (tyX7 9) := ⟨RX7, TX7, 25, rfl, jinX7, by decide, tw_630, rfl, rfl, tyX7, tyX7_ok, rfl, nmX7⟩
theorem fl_X7_28 : jFL RX7 28 7 10 true (tyX7 10) := ⟨RX7, TX7, 25, rfl, jinX7, by decide, tw_631, rfl, rfl, tyX7, tyX7_ok, rfl, nmX7⟩
theorem fl_X7_31 : jFL RX7 31 7 11 true (tyX7 11) := ⟨RX7, TX7, 25, rfl, jinX7, by decide, tw_632, rfl, rfl, tyX7, tyX7_ok, rfl, nmX7⟩
theorem fl_X7_92 : jFL RX7 92 7 12 false (tyX7 12) := ⟨RX7, TX7, 25, rfl, jinX7, by decide, tw_633, rfl, rfl, tyX7, tyX7_ok, rfl, nmX7⟩
theorem fl_X7_95 : jFL RX7 95 7 13 false (tyX7 13) := ⟨RX7, TX7, 25, rfl, jinX7, by decide, tw_634, rfl, rfl, tyX7, tyX7_ok, rfl, nmX7⟩
theorem fl_X7_98 : jFL RX7 98 7 14 false (tyX7 14) := ⟨RX7, TX7, 25, rfl, jinX7, by decide, tw_635, rfl, rfl, tyX7, tyX7_ok, rfl, nmX7⟩
theorem fl_X7_76 : jFL RX7 76 7 15 false (tyX7 15) := ⟨RX7, TX7, 25, rfl, jinX7, by decide, tw_636, rfl, rfl, tyX7, tyX7_ok, rfl, nmX7⟩
theorem fl_X7_34 : jFL RX7 34 7 16 true (tyX7 16) := ⟨RX7, TX7, 25, rfl, jinX7, by decide, tw_637, rfl, rfl, tyX7, tyX7_ok, rfl, nmX7⟩
theorem fl_X7_37 : jFL RX7 37 7 17 true (tyX7 17) := ⟨RX7, TX7, 25, rfl, jinX7, by decide, tw_638, rfl, rfl, tyX7, tyX7_ok, rfl, nmX7⟩
theorem fl_X7_62 : jFL RX7 62 7 18 false (tyX7 18) := ⟨RX7, TX7, 25, rfl, jinX7, by decide, tw_639, rfl, rfl, tyX7, tyX7_ok, rfl, nmX7⟩
theorem fl_X7_40 : jFL RX7 40 7 19 true (tyX7 19) := ⟨RX7, TX7, 25, rfl, jinX7, by decide, tw_640, rfl, rfl, tyX7, tyX7_ok, rfl, nmX7⟩
theorem fl_X7_43 : jFL RX7 43 7 20 true (tyX7 20) := ⟨RX7, TX7, 25, rfl, jinX7, by decide, tw_641, rfl, rfl, tyX7, tyX7_ok, rfl, nmX7⟩
theorem fl_X7_46 : jFL RX7 46 7 21 true (tyX7 21) := ⟨RX7, TX7, 25, rfl, jinX7, by decide, tw_642, rfl, rfl, tyX7, tyX7_ok, rfl, nmX7⟩
theorem fl_X7_49 : jFL RX7 49 7 22 true (tyX7 22) := ⟨RX7, TX7, 25, rfl, jinX7, by decide, tw_643, rfl, rfl, tyX7, tyX7_ok, rfl, nmX7⟩
theorem fl_X7_52 : jFL RX7 52 7 23 true (tyX7 23) := ⟨RX7, TX7, 25, rfl, jinX7, by decide, tw_644, rfl, rfl, tyX7, tyX7_ok, rfl, nmX7⟩
theorem fl_X7_193 : jFL RX7 193 7 24 false (tyX7 24) := ⟨RX7, TX7, 25, rfl, jinX7, by decide, tw_645, rfl, rfl, tyX7, tyX7_ok, rfl, nmX7⟩
/-- a method: its code, its class made ready, its parameters -/
def jMY (y : MethodName) (cc : ByteArray) (nL : Nat) (ret : Option FieldType) (n : Nat) : Prop := Cond.code y cc nL ret ∈ jTs ∧ Cond.initialized y.cls ∈ jTs ∧ (y.cls ≠ "java/lang/invoke/MethodHandle" ∧ y.cls ≠ "java/lang/invoke/VarHandle" ∧ (parseMethodDescriptor y.desc).map (fun d => d.parameters.length) = some n) ∧ plainName y.cls = true
theorem my_X0_init : jMY yX0_init cX0_init 1 none 0 := ⟨tw_143, tw_6, by decide +kernel, by decide +kernel⟩
theorem mk_X0_init : Cond.instanceMethod yX0_init ∈ jTs := tw_142
theorem my_X0_isEnded : jMY yX0_isEnded cX0_isEnded 1 (some .boolean) 0 := ⟨tw_544, tw_6, by decide +kernel, by decide +kernel⟩
theorem mi_X0_isEnded : Cond.instanceMethod yX0_isEnded ∈ jTs ∧ Cond.selects yX0_isEnded.cls yX0_isEnded yX0_isEnded ∈ jTs := ⟨tw_542, tw_543⟩
theorem my_X0_add : jMY yX0_add cX0_add 4 none 3 := ⟨tw_548, tw_6, by decide +kernel, by decide +kernel⟩
theorem mi_X0_add : Cond.instanceMethod yX0_add ∈ jTs ∧ Cond.selects yX0_add.cls yX0_add yX0_add ∈ jTs := ⟨tw_546, tw_547⟩
theorem my_X0_couldBe : jMY yX0_couldBe cX0_couldBe 5 (some .boolean) 1 := ⟨tw_560, tw_6, by decide +kernel, by decide +kernel⟩
theorem mi_X0_couldBe : Cond.instanceMethod yX0_couldBe ∈ jTs ∧ Cond.selects yX0_couldBe.cls yX0_couldBe yX0_couldBe ∈ jTs := ⟨tw_558, tw_559⟩
theorem my_X1_init : jMY yX1_init cX1_init 3 none 1 := ⟨tw_163, tw_7, by decide +kernel, by decide +kernel⟩
theorem mk_X1_init : Cond.instanceMethod yX1_init ∈ jTs := tw_162
theorem my_X1_run : jMY yX1_run cX1_run 2 none 1 := ⟨tw_488, tw_7, by decide +kernel, by decide +kernel⟩
theorem mi_X1_run : Cond.instanceMethod yX1_run ∈ jTs ∧ Cond.selects yX1_run.cls yX1_run yX1_run ∈ jTs := ⟨tw_486, tw_487⟩
theorem my_X1_goOn : jMY yX1_goOn cX1_goOn 6 none 2 := ⟨tw_496, tw_7, by decide +kernel, by decide +kernel⟩
theorem mi_X1_goOn : Cond.instanceMethod yX1_goOn ∈ jTs ∧ Cond.selects yX1_goOn.cls yX1_goOn yX1_goOn ∈ jTs := ⟨tw_495, tws_11⟩
theorem my_X1_keepBest : jMY yX1_keepBest cX1_keepBest 3 none 2 := ⟨tw_501, tw_7, by decide +kernel, by decide +kernel⟩
theorem mi_X1_keepBest : Cond.instanceMethod yX1_keepBest ∈ jTs ∧ Cond.selects yX1_keepBest.cls yX1_keepBest yX1_keepBest ∈ jTs := ⟨tw_500, tws_12⟩
theorem my_X1_markOf : jMY yX1_markOf cX1_markOf 5 (some .long) 1 := ⟨tw_506, tw_7, by decide +kernel, by decide +kernel⟩
theorem mi_X1_markOf : Cond.instanceMethod yX1_markOf ∈ jTs ∧ Cond.selects yX1_markOf.cls yX1_markOf yX1_markOf ∈ jTs := ⟨tw_505, tws_13⟩
theorem my_X1_wasSeen : jMY yX1_wasSeen cX1_wasSeen 7 (some .boolean) 2 := ⟨tw_510, tw_7, by decide +kernel, by decide +kernel⟩
theorem mi_X1_wasSeen : Cond.instanceMethod yX1_wasSeen ∈ jTs ∧ Cond.selects yX1_wasSeen.cls yX1_wasSeen yX1_wasSeen ∈ jTs := ⟨tw_509, tws_14⟩
theorem my_X2_init : jMY yX2_init cX2_init 3 none 1 := ⟨tw_123, tw_5, by decide +kernel, by decide +kernel⟩
theorem mk_X2_init : Cond.instanceMethod yX2_init ∈ jTs := tw_122
theorem my_X2_push : jMY yX2_push cX2_push 2 none 1 := ⟨tw_383, tw_5, by decide +kernel, by decide +kernel⟩
theorem mi_X2_push : Cond.instanceMethod yX2_push ∈ jTs ∧ Cond.selects yX2_push.cls yX2_push yX2_push ∈ jTs := ⟨tw_381, tw_382⟩
theorem my_X2_pop : jMY yX2_pop cX2_pop 2 (some .boolean) 1 := ⟨tw_452, tw_5, by decide +kernel, by decide +kernel⟩
theorem mi_X2_pop : Cond.instanceMethod yX2_pop ∈ jTs ∧ Cond.selects yX2_pop.cls yX2_pop yX2_pop ∈ jTs := ⟨tw_450, tw_451⟩
theorem my_X3_init : jMY yX3_init cX3_init 1 none 0 := ⟨tw_48, tw_3, by decide +kernel, by decide +kernel⟩
theorem mk_X3_init : Cond.instanceMethod yX3_init ∈ jTs := tw_47
theorem my_X3_clear : jMY yX3_clear cX3_clear 1 none 0 := ⟨tw_256, tw_3, by decide +kernel, by decide +kernel⟩
theorem mi_X3_clear : Cond.instanceMethod yX3_clear ∈ jTs ∧ Cond.selects yX3_clear.cls yX3_clear yX3_clear ∈ jTs := ⟨tw_254, tw_255⟩
theorem my_X3_take : jMY yX3_take cX3_take 5 (some .boolean) 4 := ⟨tw_283, tw_3, by decide +kernel, by decide +kernel⟩
theorem mi_X3_take : Cond.instanceMethod yX3_take ∈ jTs ∧ Cond.selects yX3_take.cls yX3_take yX3_take ∈ jTs := ⟨tw_281, tw_282⟩
theorem my_X3_takeWall : jMY yX3_takeWall cX3_takeWall 4 (some .boolean) 3 := ⟨tw_287, tw_3, by decide +kernel, by decide +kernel⟩
theorem mi_X3_takeWall : Cond.instanceMethod yX3_takeWall ∈ jTs ∧ Cond.selects yX3_takeWall.cls yX3_takeWall yX3_takeWall ∈ jTs := ⟨tw_286, tws_5⟩
theorem my_X3_takeProp : jMY yX3_takeProp cX3_takeProp 4 (some .boolean) 3 := ⟨tw_294, tw_3, by decide +kernel, by decide +kernel⟩
theorem mi_X3_takeProp : Cond.instanceMethod yX3_takeProp ∈ jTs ∧ Cond.selects yX3_takeProp.cls yX3_takeProp yX3_takeProp ∈ jTs := ⟨tw_293, tws_6⟩
theorem my_X4_init : jMY yX4_init cX4_init 1 none 0 := ⟨tw_29, tw_2, by decide +kernel, by decide +kernel⟩
theorem mk_X4_init : Cond.instanceMethod yX4_init ∈ jTs := tw_28
theorem my_X4_add : jMY yX4_add cX4_add 2 none 1 := ⟨tw_248, tw_2, by decide +kernel, by decide +kernel⟩
theorem mi_X4_add : Cond.instanceMethod yX4_add ∈ jTs ∧ Cond.selects yX4_add.cls yX4_add yX4_add ∈ jTs := ⟨tw_246, tw_247⟩
theorem my_X4_readInto : jMY yX4_readInto cX4_readInto 5 (some .int) 1 := ⟨tw_252, tw_2, by decide +kernel, by decide +kernel⟩
theorem mi_X4_readInto : Cond.instanceMethod yX4_readInto ∈ jTs ∧ Cond.selects yX4_readInto.cls yX4_readInto yX4_readInto ∈ jTs := ⟨tw_250, tw_251⟩
theorem my_X4_readItem : jMY yX4_readItem cX4_readItem 8 (some .int) 2 := ⟨tw_263, tw_2, by decide +kernel, by decide +kernel⟩
theorem mi_X4_readItem : Cond.instanceMethod yX4_readItem ∈ jTs ∧ Cond.selects yX4_readItem.cls yX4_readItem yX4_readItem ∈ jTs := ⟨tw_262, tws_0⟩
theorem my_X4_letterAt : jMY yX4_letterAt cX4_letterAt 2 (some .char) 1 := ⟨tw_267, tw_2, by decide +kernel, by decide +kernel⟩
theorem mi_X4_letterAt : Cond.instanceMethod yX4_letterAt ∈ jTs ∧ Cond.selects yX4_letterAt.cls yX4_letterAt yX4_letterAt ∈ jTs := ⟨tw_266, tws_1⟩
theorem my_X4_isFigure : jMY yX4_isFigure cX4_isFigure 2 (some .boolean) 1 := ⟨tw_275, tw_2, by decide +kernel, by decide +kernel⟩
theorem mi_X4_isFigure : Cond.instanceMethod yX4_isFigure ∈ jTs ∧ Cond.selects yX4_isFigure.cls yX4_isFigure yX4_isFigure ∈ jTs := ⟨tw_274, tws_3⟩
theorem my_X4_figuresAt : jMY yX4_figuresAt cX4_figuresAt 2 (some .int) 1 := ⟨tw_271, tw_2, by decide +kernel, by decide +kernel⟩
theorem mi_X4_figuresAt : Cond.instanceMethod yX4_figuresAt ∈ jTs ∧ Cond.selects yX4_figuresAt.cls yX4_figuresAt yX4_figuresAt ∈ jTs := ⟨tw_270, tws_2⟩
theorem my_X4_numberAt : jMY yX4_numberAt cX4_numberAt 4 (some .int) 2 := ⟨tw_279, tw_2, by decide +kernel, by decide +kernel⟩
theorem mi_X4_numberAt : Cond.instanceMethod yX4_numberAt ∈ jTs ∧ Cond.selects yX4_numberAt.cls yX4_numberAt yX4_numberAt ∈ jTs := ⟨tw_278, tws_4⟩
theorem my_X5_init : jMY yX5_init cX5_init 2 none 1 := ⟨tw_84, tw_4, by decide +kernel, by decide +kernel⟩
theorem mk_X5_init : Cond.instanceMethod yX5_init ∈ jTs := tw_83
theorem my_X5_layOut : jMY yX5_layOut cX5_layOut 1 none 0 := ⟨tw_298, tw_4, by decide +kernel, by decide +kernel⟩
theorem mi_X5_layOut : Cond.instanceMethod yX5_layOut ∈ jTs ∧ Cond.selects yX5_layOut.cls yX5_layOut yX5_layOut ∈ jTs := ⟨tw_296, tw_297⟩
theorem my_X5_copyFrom : jMY yX5_copyFrom cX5_copyFrom 2 none 1 := ⟨tw_387, tw_4, by decide +kernel, by decide +kernel⟩
theorem mi_X5_copyFrom : Cond.instanceMethod yX5_copyFrom ∈ jTs ∧ Cond.selects yX5_copyFrom.cls yX5_copyFrom yX5_copyFrom ∈ jTs := ⟨tw_385, tw_386⟩
theorem my_X5_stands : jMY yX5_stands cX5_stands 2 (some .boolean) 1 := ⟨tw_363, tw_4, by decide +kernel, by decide +kernel⟩
theorem mi_X5_stands : Cond.instanceMethod yX5_stands ∈ jTs ∧ Cond.selects yX5_stands.cls yX5_stands yX5_stands ∈ jTs := ⟨tw_361, tw_362⟩
theorem my_X5_heldBy : jMY yX5_heldBy cX5_heldBy 3 (some .int) 2 := ⟨tw_375, tw_4, by decide +kernel, by decide +kernel⟩
theorem mi_X5_heldBy : Cond.instanceMethod yX5_heldBy ∈ jTs ∧ Cond.selects yX5_heldBy.cls yX5_heldBy yX5_heldBy ∈ jTs := ⟨tw_373, tw_374⟩
theorem my_X5_setProp : jMY yX5_setProp cX5_setProp 4 none 3 := ⟨tw_440, tw_4, by decide +kernel, by decide +kernel⟩
theorem mi_X5_setProp : Cond.instanceMethod yX5_setProp ∈ jTs ∧ Cond.selects yX5_setProp.cls yX5_setProp yX5_setProp ∈ jTs := ⟨tw_438, tw_439⟩
theorem my_X5_holdersOf : jMY yX5_holdersOf cX5_holdersOf 4 (some .int) 1 := ⟨tw_522, tw_4, by decide +kernel, by decide +kernel⟩
theorem mi_X5_holdersOf : Cond.instanceMethod yX5_holdersOf ∈ jTs ∧ Cond.selects yX5_holdersOf.cls yX5_holdersOf yX5_holdersOf ∈ jTs := ⟨tw_520, tw_521⟩
theorem my_X5_goRound : jMY yX5_goRound cX5_goRound 3 none 1 := ⟨tw_394, tw_4, by decide +kernel, by decide +kernel⟩
theorem mi_X5_goRound : Cond.instanceMethod yX5_goRound ∈ jTs ∧ Cond.selects yX5_goRound.cls yX5_goRound yX5_goRound ∈ jTs := ⟨tw_392, tw_393⟩
theorem my_X5_wouldFall : jMY yX5_wouldFall cX5_wouldFall 3 (some .boolean) 2 := ⟨tw_407, tw_4, by decide +kernel, by decide +kernel⟩
theorem mi_X5_wouldFall : Cond.instanceMethod yX5_wouldFall ∈ jTs ∧ Cond.selects yX5_wouldFall.cls yX5_wouldFall yX5_wouldFall ∈ jTs := ⟨tw_405, tw_406⟩
theorem my_X5_leansInward : jMY yX5_leansInward cX5_leansInward 2 (some .boolean) 1 := ⟨tw_411, tw_4, by decide +kernel, by decide +kernel⟩
theorem mi_X5_leansInward : Cond.instanceMethod yX5_leansInward ∈ jTs ∧ Cond.selects yX5_leansInward.cls yX5_leansInward yX5_leansInward ∈ jTs := ⟨tw_409, tw_410⟩
theorem my_X5_fewestTrumpets : jMY yX5_fewestTrumpets cX5_fewestTrumpets 3 (some .int) 1 := ⟨tw_460, tw_4, by decide +kernel, by decide +kernel⟩
theorem mi_X5_fewestTrumpets : Cond.instanceMethod yX5_fewestTrumpets ∈ jTs ∧ Cond.selects yX5_fewestTrumpets.cls yX5_fewestTrumpets yX5_fewestTrumpets ∈ jTs := ⟨tw_458, tw_459⟩
theorem my_X5_blow : jMY yX5_blow cX5_blow 4 (some .int) 2 := ⟨tw_403, tw_4, by decide +kernel, by decide +kernel⟩
theorem mi_X5_blow : Cond.instanceMethod yX5_blow ∈ jTs ∧ Cond.selects yX5_blow.cls yX5_blow yX5_blow ∈ jTs := ⟨tw_401, tw_402⟩
theorem my_X5_comeDown : jMY yX5_comeDown cX5_comeDown 3 none 2 := ⟨tw_415, tw_4, by decide +kernel, by decide +kernel⟩
theorem mi_X5_comeDown : Cond.instanceMethod yX5_comeDown ∈ jTs ∧ Cond.selects yX5_comeDown.cls yX5_comeDown yX5_comeDown ∈ jTs := ⟨tw_413, tw_414⟩
theorem my_X5_fallWithAll : jMY yX5_fallWithAll cX5_fallWithAll 5 none 3 := ⟨tw_419, tw_4, by decide +kernel, by decide +kernel⟩
theorem mi_X5_fallWithAll : Cond.instanceMethod yX5_fallWithAll ∈ jTs ∧ Cond.selects yX5_fallWithAll.cls yX5_fallWithAll yX5_fallWithAll ∈ jTs := ⟨tw_418, tws_9⟩
theorem my_X5_dayGoesBy : jMY yX5_dayGoesBy cX5_dayGoesBy 2 none 0 := ⟨tw_432, tw_4, by decide +kernel, by decide +kernel⟩
theorem mi_X5_dayGoesBy : Cond.instanceMethod yX5_dayGoesBy ∈ jTs ∧ Cond.selects yX5_dayGoesBy.cls yX5_dayGoesBy yX5_dayGoesBy ∈ jTs := ⟨tw_430, tw_431⟩
theorem my_X5_countDown : jMY yX5_countDown cX5_countDown 3 (some .int) 0 := ⟨tw_480, tw_4, by decide +kernel, by decide +kernel⟩
theorem mi_X5_countDown : Cond.instanceMethod yX5_countDown ∈ jTs ∧ Cond.selects yX5_countDown.cls yX5_countDown yX5_countDown ∈ jTs := ⟨tw_478, tw_479⟩
theorem my_X5_countHurt : jMY yX5_countHurt cX5_countHurt 3 (some .int) 0 := ⟨tw_586, tw_4, by decide +kernel, by decide +kernel⟩
theorem mi_X5_countHurt : Cond.instanceMethod yX5_countHurt ∈ jTs ∧ Cond.selects yX5_countHurt.cls yX5_countHurt yX5_countHurt ∈ jTs := ⟨tw_584, tw_585⟩
theorem my_X5_countProps : jMY yX5_countProps cX5_countProps 6 (some .int) 0 := ⟨tw_602, tw_4, by decide +kernel, by decide +kernel⟩
theorem mi_X5_countProps : Cond.instanceMethod yX5_countProps ∈ jTs ∧ Cond.selects yX5_countProps.cls yX5_countProps yX5_countProps ∈ jTs := ⟨tw_600, tw_601⟩
theorem my_X6_init : jMY yX6_init cX6_init 2 none 0 := ⟨tw_21, tw_1, by decide +kernel, by decide +kernel⟩
theorem mk_X6_init : Cond.instanceMethod yX6_init ∈ jTs := tw_20
theorem my_X6_write : jMY yX6_write cX6_write 2 (some .int) 1 := ⟨tw_338, tw_1, by decide +kernel, by decide +kernel⟩
theorem mi_X6_write : Cond.instanceMethod yX6_write ∈ jTs ∧ Cond.selects yX6_write.cls yX6_write yX6_write ∈ jTs := ⟨tw_336, tw_337⟩
theorem my_X6_wipe : jMY yX6_wipe cX6_wipe 2 (some .int) 0 := ⟨tw_342, tw_1, by decide +kernel, by decide +kernel⟩
theorem mi_X6_wipe : Cond.instanceMethod yX6_wipe ∈ jTs ∧ Cond.selects yX6_wipe.cls yX6_wipe yX6_wipe ∈ jTs := ⟨tw_340, tw_341⟩
theorem my_X6_fault : jMY yX6_fault cX6_fault 1 (some .int) 0 := ⟨tw_346, tw_1, by decide +kernel, by decide +kernel⟩
theorem mi_X6_fault : Cond.instanceMethod yX6_fault ∈ jTs ∧ Cond.selects yX6_fault.cls yX6_fault yX6_fault ∈ jTs := ⟨tw_344, tw_345⟩
theorem my_X6_lay : jMY yX6_lay cX6_lay 1 (some .int) 0 := ⟨tw_350, tw_1, by decide +kernel, by decide +kernel⟩
theorem mi_X6_lay : Cond.instanceMethod yX6_lay ∈ jTs ∧ Cond.selects yX6_lay.cls yX6_lay yX6_lay ∈ jTs := ⟨tw_348, tw_349⟩
theorem my_X6_wall : jMY yX6_wall cX6_wall 3 (some .int) 2 := ⟨tw_354, tw_1, by decide +kernel, by decide +kernel⟩
theorem mi_X6_wall : Cond.instanceMethod yX6_wall ∈ jTs ∧ Cond.selects yX6_wall.cls yX6_wall yX6_wall ∈ jTs := ⟨tw_352, tw_353⟩
theorem my_X6_holds : jMY yX6_holds cX6_holds 3 (some .int) 2 := ⟨tw_367, tw_1, by decide +kernel, by decide +kernel⟩
theorem mi_X6_holds : Cond.instanceMethod yX6_holds ∈ jTs ∧ Cond.selects yX6_holds.cls yX6_holds yX6_holds ∈ jTs := ⟨tw_365, tw_366⟩
theorem my_X6_round : jMY yX6_round cX6_round 2 (some .int) 1 := ⟨tw_379, tw_1, by decide +kernel, by decide +kernel⟩
theorem mi_X6_round : Cond.instanceMethod yX6_round ∈ jTs ∧ Cond.selects yX6_round.cls yX6_round yX6_round ∈ jTs := ⟨tw_377, tw_378⟩
theorem my_X6_blast : jMY yX6_blast cX6_blast 3 (some .int) 2 := ⟨tw_399, tw_1, by decide +kernel, by decide +kernel⟩
theorem mi_X6_blast : Cond.instanceMethod yX6_blast ∈ jTs ∧ Cond.selects yX6_blast.cls yX6_blast yX6_blast ∈ jTs := ⟨tw_397, tw_398⟩
theorem my_X6_pass : jMY yX6_pass cX6_pass 3 (some .int) 1 := ⟨tw_428, tw_1, by decide +kernel, by decide +kernel⟩
theorem mi_X6_pass : Cond.instanceMethod yX6_pass ∈ jTs ∧ Cond.selects yX6_pass.cls yX6_pass yX6_pass ∈ jTs := ⟨tw_426, tw_427⟩
theorem my_X6_prop : jMY yX6_prop cX6_prop 5 (some .int) 3 := ⟨tw_436, tw_1, by decide +kernel, by decide +kernel⟩
theorem mi_X6_prop : Cond.instanceMethod yX6_prop ∈ jTs ∧ Cond.selects yX6_prop.cls yX6_prop yX6_prop ∈ jTs := ⟨tw_434, tw_435⟩
theorem my_X6_use : jMY yX6_use cX6_use 2 (some .int) 1 := ⟨tw_444, tw_1, by decide +kernel, by decide +kernel⟩
theorem mi_X6_use : Cond.instanceMethod yX6_use ∈ jTs ∧ Cond.selects yX6_use.cls yX6_use yX6_use ∈ jTs := ⟨tw_442, tw_443⟩
theorem my_X6_undo : jMY yX6_undo cX6_undo 1 (some .int) 0 := ⟨tw_448, tw_1, by decide +kernel, by decide +kernel⟩
theorem mi_X6_undo : Cond.instanceMethod yX6_undo ∈ jTs ∧ Cond.selects yX6_undo.cls yX6_undo yX6_undo ∈ jTs := ⟨tw_446, tw_447⟩
theorem my_X6_calls : jMY yX6_calls cX6_calls 2 (some .int) 1 := ⟨tw_456, tw_1, by decide +kernel, by decide +kernel⟩
theorem mi_X6_calls : Cond.instanceMethod yX6_calls ∈ jTs ∧ Cond.selects yX6_calls.cls yX6_calls yX6_calls ∈ jTs := ⟨tw_454, tw_455⟩
theorem my_X6_rounds : jMY yX6_rounds cX6_rounds 4 (some .int) 2 := ⟨tw_464, tw_1, by decide +kernel, by decide +kernel⟩
theorem mi_X6_rounds : Cond.instanceMethod yX6_rounds ∈ jTs ∧ Cond.selects yX6_rounds.cls yX6_rounds yX6_rounds ∈ jTs := ⟨tw_462, tw_463⟩
theorem my_X6_key : jMY yX6_key cX6_key 6 (some .int) 1 := ⟨tw_471, tw_1, by decide +kernel, by decide +kernel⟩
theorem mi_X6_key : Cond.instanceMethod yX6_key ∈ jTs ∧ Cond.selects yX6_key.cls yX6_key yX6_key ∈ jTs := ⟨tw_469, tw_470⟩
theorem my_X6_order : jMY yX6_order cX6_order 2 (some .int) 1 := ⟨tw_484, tw_1, by decide +kernel, by decide +kernel⟩
theorem mi_X6_order : Cond.instanceMethod yX6_order ∈ jTs ∧ Cond.selects yX6_order.cls yX6_order yX6_order ∈ jTs := ⟨tw_482, tw_483⟩
theorem my_X6_save : jMY yX6_save cX6_save 7 (some .int) 2 := ⟨tw_518, tw_1, by decide +kernel, by decide +kernel⟩
theorem mi_X6_save : Cond.instanceMethod yX6_save ∈ jTs ∧ Cond.selects yX6_save.cls yX6_save yX6_save ∈ jTs := ⟨tw_516, tw_517⟩
theorem my_X6_built : jMY yX6_built cX6_built 9 (some .int) 1 := ⟨tw_536, tw_1, by decide +kernel, by decide +kernel⟩
theorem mi_X6_built : Cond.instanceMethod yX6_built ∈ jTs ∧ Cond.selects yX6_built.cls yX6_built yX6_built ∈ jTs := ⟨tw_534, tw_535⟩
theorem my_X6_note : jMY yX6_note cX6_note 5 (some .int) 3 := ⟨tw_540, tw_1, by decide +kernel, by decide +kernel⟩
theorem mi_X6_note : Cond.instanceMethod yX6_note ∈ jTs ∧ Cond.selects yX6_note.cls yX6_note yX6_note ∈ jTs := ⟨tw_538, tw_539⟩
theorem my_X6_forget : jMY yX6_forget cX6_forget 2 (some .int) 0 := ⟨tw_552, tw_1, by decide +kernel, by decide +kernel⟩
theorem mi_X6_forget : Cond.instanceMethod yX6_forget ∈ jTs ∧ Cond.selects yX6_forget.cls yX6_forget yX6_forget ∈ jTs := ⟨tw_550, tw_551⟩
theorem my_X6_thick : jMY yX6_thick cX6_thick 5 (some .int) 1 := ⟨tw_556, tw_1, by decide +kernel, by decide +kernel⟩
theorem mi_X6_thick : Cond.instanceMethod yX6_thick ∈ jTs ∧ Cond.selects yX6_thick.cls yX6_thick yX6_thick ∈ jTs := ⟨tw_554, tw_555⟩
theorem my_X6_fail : jMY yX6_fail cX6_fail 14 (some .int) 4 := ⟨tw_565, tw_1, by decide +kernel, by decide +kernel⟩
theorem mi_X6_fail : Cond.instanceMethod yX6_fail ∈ jTs ∧ Cond.selects yX6_fail.cls yX6_fail yX6_fail ∈ jTs := ⟨tw_563, tw_564⟩
theorem my_X6_year : jMY yX6_year cX6_year 5 (some .int) 3 := ⟨tw_575, tw_1, by decide +kernel, by decide +kernel⟩
theorem mi_X6_year : Cond.instanceMethod yX6_year ∈ jTs ∧ Cond.selects yX6_year.cls yX6_year yX6_year ∈ jTs := ⟨tw_573, tw_574⟩
theorem my_X6_keep : jMY yX6_keep cX6_keep 1 (some .int) 0 := ⟨tw_590, tw_1, by decide +kernel, by decide +kernel⟩
theorem mi_X6_keep : Cond.instanceMethod yX6_keep ∈ jTs ∧ Cond.selects yX6_keep.cls yX6_keep yX6_keep ∈ jTs := ⟨tw_588, tw_589⟩
theorem my_X6_back : jMY yX6_back cX6_back 1 (some .int) 0 := ⟨tw_594, tw_1, by decide +kernel, by decide +kernel⟩
theorem mi_X6_back : Cond.instanceMethod yX6_back ∈ jTs ∧ Cond.selects yX6_back.cls yX6_back yX6_back ∈ jTs := ⟨tw_592, tw_593⟩
theorem my_X6_count : jMY yX6_count cX6_count 2 (some .int) 1 := ⟨tw_598, tw_1, by decide +kernel, by decide +kernel⟩
theorem mi_X6_count : Cond.instanceMethod yX6_count ∈ jTs ∧ Cond.selects yX6_count.cls yX6_count yX6_count ∈ jTs := ⟨tw_596, tw_597⟩
theorem my_X6_isOutside : jMY yX6_isOutside cX6_isOutside 3 (some .boolean) 3 := ⟨tw_290, tw_1, by decide +kernel, by decide +kernel⟩
theorem ms_X6_isOutside : Cond.static yX6_isOutside ∈ jTs := tw_289
theorem my_X6_isNoWall : jMY yX6_isNoWall cX6_isNoWall 2 (some .boolean) 1 := ⟨tw_358, tw_1, by decide +kernel, by decide +kernel⟩
theorem mi_X6_isNoWall : Cond.instanceMethod yX6_isNoWall ∈ jTs ∧ Cond.selects yX6_isNoWall.cls yX6_isNoWall yX6_isNoWall ∈ jTs := ⟨tw_357, tws_7⟩
theorem my_X6_isNoPair : jMY yX6_isNoPair cX6_isNoPair 3 (some .boolean) 2 := ⟨tw_371, tw_1, by decide +kernel, by decide +kernel⟩
theorem mi_X6_isNoPair : Cond.instanceMethod yX6_isNoPair ∈ jTs ∧ Cond.selects yX6_isNoPair.cls yX6_isNoPair yX6_isNoPair ∈ jTs := ⟨tw_370, tws_8⟩
theorem my_X6_othersDownBy : jMY yX6_othersDownBy cX6_othersDownBy 3 (some .int) 1 := ⟨tw_475, tw_1, by decide +kernel, by decide +kernel⟩
theorem mi_X6_othersDownBy : Cond.instanceMethod yX6_othersDownBy ∈ jTs ∧ Cond.selects yX6_othersDownBy.cls yX6_othersDownBy yX6_othersDownBy ∈ jTs := ⟨tw_474, tws_10⟩
theorem my_X6_standsWithout : jMY yX6_standsWithout cX6_standsWithout 5 (some .boolean) 3 := ⟨tw_532, tw_1, by decide +kernel, by decide +kernel⟩
theorem mi_X6_standsWithout : Cond.instanceMethod yX6_standsWithout ∈ jTs ∧ Cond.selects yX6_standsWithout.cls yX6_standsWithout yX6_standsWithout ∈ jTs := ⟨tw_531, tws_15⟩
theorem my_X6_drawAhead : jMY yX6_drawAhead cX6_drawAhead 8 none 2 := ⟨tw_579, tw_1, by decide +kernel, by decide +kernel⟩
theorem mi_X6_drawAhead : Cond.instanceMethod yX6_drawAhead ∈ jTs ∧ Cond.selects yX6_drawAhead.cls yX6_drawAhead yX6_drawAhead ∈ jTs := ⟨tw_578, tws_16⟩
theorem my_X6_power : jMY yX6_power cX6_power 5 (some .long) 2 := ⟨tw_568, tw_1, by decide +kernel, by decide +kernel⟩
theorem ms_X6_power : Cond.static yX6_power ∈ jTs := tw_567
theorem my_X6_greatestShared : jMY yX6_greatestShared cX6_greatestShared 7 (some .long) 2 := ⟨tw_571, tw_1, by decide +kernel, by decide +kernel⟩
theorem ms_X6_greatestShared : Cond.static yX6_greatestShared ∈ jTs := tw_570
theorem my_X7_init : jMY yX7_init cX7_init 1 none 0 := ⟨tw_607, tw_14, by decide +kernel, by decide +kernel⟩
theorem mk_X7_init : Cond.instanceMethod yX7_init ∈ jTs := tw_606
theorem my_X7_in : jMY yX7_in cX7_in 6 (some .boolean) 3 := ⟨tw_705, tw_14, by decide +kernel, by decide +kernel⟩
theorem ms_X7_in : Cond.static yX7_in ∈ jTs := tw_704
theorem my_X7_has : jMY yX7_has cX7_has 2 (some .boolean) 2 := ⟨tw_869, tw_14, by decide +kernel, by decide +kernel⟩
theorem ms_X7_has : Cond.static yX7_has ∈ jTs := tw_868
theorem my_X7_ones : jMY yX7_ones cX7_ones 3 (some .int) 1 := ⟨tw_852, tw_14, by decide +kernel, by decide +kernel⟩
theorem ms_X7_ones : Cond.static yX7_ones ∈ jTs := tw_851
theorem my_X7_copy : jMY yX7_copy cX7_copy 4 none 2 := ⟨tw_777, tw_14, by decide +kernel, by decide +kernel⟩
theorem mi_X7_copy : Cond.instanceMethod yX7_copy ∈ jTs ∧ Cond.selects yX7_copy.cls yX7_copy yX7_copy ∈ jTs := ⟨tw_776, tws_30⟩
theorem my_X7_isWall : jMY yX7_isWall cX7_isWall 2 (some .boolean) 1 := ⟨tw_755, tw_14, by decide +kernel, by decide +kernel⟩
theorem mi_X7_isWall : Cond.instanceMethod yX7_isWall ∈ jTs ∧ Cond.selects yX7_isWall.cls yX7_isWall yX7_isWall ∈ jTs := ⟨tw_754, tws_27⟩
theorem my_X7_starts : jMY yX7_starts cX7_starts 2 none 0 := ⟨tw_612, tw_14, by decide +kernel, by decide +kernel⟩
theorem mi_X7_starts : Cond.instanceMethod yX7_starts ∈ jTs ∧ Cond.selects yX7_starts.cls yX7_starts yX7_starts ∈ jTs := ⟨tw_611, tws_17⟩
theorem my_X7_addsWall : jMY yX7_addsWall cX7_addsWall 4 none 3 := ⟨tw_616, tw_14, by decide +kernel, by decide +kernel⟩
theorem mi_X7_addsWall : Cond.instanceMethod yX7_addsWall ∈ jTs ∧ Cond.selects yX7_addsWall.cls yX7_addsWall yX7_addsWall ∈ jTs := ⟨tw_615, tws_18⟩
theorem my_X7_begins : jMY yX7_begins cX7_begins 2 none 0 := ⟨tw_620, tw_14, by decide +kernel, by decide +kernel⟩
theorem mi_X7_begins : Cond.instanceMethod yX7_begins ∈ jTs ∧ Cond.selects yX7_begins.cls yX7_begins yX7_begins ∈ jTs := ⟨tw_619, tws_19⟩
theorem my_X7_write : jMY yX7_write cX7_write 2 (some .int) 1 := ⟨tw_700, tw_14, by decide +kernel, by decide +kernel⟩
theorem mi_X7_write : Cond.instanceMethod yX7_write ∈ jTs ∧ Cond.selects yX7_write.cls yX7_write yX7_write ∈ jTs := ⟨tw_698, tw_699⟩
theorem my_X7_wipe : jMY yX7_wipe cX7_wipe 2 (some .int) 0 := ⟨tw_709, tw_14, by decide +kernel, by decide +kernel⟩
theorem mi_X7_wipe : Cond.instanceMethod yX7_wipe ∈ jTs ∧ Cond.selects yX7_wipe.cls yX7_wipe yX7_wipe ∈ jTs := ⟨tw_707, tw_708⟩
theorem my_X7_letterAt : jMY yX7_letterAt cX7_letterAt 2 (some .int) 1 := ⟨tw_725, tw_14, by decide +kernel, by decide +kernel⟩
theorem mi_X7_letterAt : Cond.instanceMethod yX7_letterAt ∈ jTs ∧ Cond.selects yX7_letterAt.cls yX7_letterAt yX7_letterAt ∈ jTs := ⟨tw_724, tws_22⟩
theorem my_X7_takesNumber : jMY yX7_takesNumber cX7_takesNumber 5 (some .boolean) 3 := ⟨tw_733, tw_14, by decide +kernel, by decide +kernel⟩
theorem mi_X7_takesNumber : Cond.instanceMethod yX7_takesNumber ∈ jTs ∧ Cond.selects yX7_takesNumber.cls yX7_takesNumber yX7_takesNumber ∈ jTs := ⟨tw_732, tws_24⟩
theorem my_X7_takesWall : jMY yX7_takesWall cX7_takesWall 3 (some .boolean) 0 := ⟨tw_729, tw_14, by decide +kernel, by decide +kernel⟩
theorem mi_X7_takesWall : Cond.instanceMethod yX7_takesWall ∈ jTs ∧ Cond.selects yX7_takesWall.cls yX7_takesWall yX7_takesWall ∈ jTs := ⟨tw_728, tws_23⟩
theorem my_X7_takesProp : jMY yX7_takesProp cX7_takesProp 3 (some .boolean) 0 := ⟨tw_739, tw_14, by decide +kernel, by decide +kernel⟩
theorem mi_X7_takesProp : Cond.instanceMethod yX7_takesProp ∈ jTs ∧ Cond.selects yX7_takesProp.cls yX7_takesProp yX7_takesProp ∈ jTs := ⟨tw_738, tws_25⟩
theorem my_X7_takesStones : jMY yX7_takesStones cX7_takesStones 1 (some .boolean) 0 := ⟨tw_743, tw_14, by decide +kernel, by decide +kernel⟩
theorem mi_X7_takesStones : Cond.instanceMethod yX7_takesStones ∈ jTs ∧ Cond.selects yX7_takesStones.cls yX7_takesStones yX7_takesStones ∈ jTs := ⟨tw_742, tws_26⟩
theorem my_X7_takesItem : jMY yX7_takesItem cX7_takesItem 2 (some .boolean) 0 := ⟨tw_721, tw_14, by decide +kernel, by decide +kernel⟩
theorem mi_X7_takesItem : Cond.instanceMethod yX7_takesItem ∈ jTs ∧ Cond.selects yX7_takesItem.cls yX7_takesItem yX7_takesItem ∈ jTs := ⟨tw_720, tws_21⟩
theorem my_X7_faultOf : jMY yX7_faultOf cX7_faultOf 2 (some .int) 0 := ⟨tw_717, tw_14, by decide +kernel, by decide +kernel⟩
theorem mi_X7_faultOf : Cond.instanceMethod yX7_faultOf ∈ jTs ∧ Cond.selects yX7_faultOf.cls yX7_faultOf yX7_faultOf ∈ jTs := ⟨tw_716, tws_20⟩
theorem my_X7_fault : jMY yX7_fault cX7_fault 1 (some .int) 0 := ⟨tw_713, tw_14, by decide +kernel, by decide +kernel⟩
theorem mi_X7_fault : Cond.instanceMethod yX7_fault ∈ jTs ∧ Cond.selects yX7_fault.cls yX7_fault yX7_fault ∈ jTs := ⟨tw_711, tw_712⟩
theorem my_X7_lay : jMY yX7_lay cX7_lay 1 (some .int) 0 := ⟨tw_747, tw_14, by decide +kernel, by decide +kernel⟩
theorem mi_X7_lay : Cond.instanceMethod yX7_lay ∈ jTs ∧ Cond.selects yX7_lay.cls yX7_lay yX7_lay ∈ jTs := ⟨tw_745, tw_746⟩
theorem my_X7_wall : jMY yX7_wall cX7_wall 3 (some .int) 2 := ⟨tw_751, tw_14, by decide +kernel, by decide +kernel⟩
theorem mi_X7_wall : Cond.instanceMethod yX7_wall ∈ jTs ∧ Cond.selects yX7_wall.cls yX7_wall yX7_wall ∈ jTs := ⟨tw_749, tw_750⟩
theorem my_X7_holds : jMY yX7_holds cX7_holds 3 (some .int) 2 := ⟨tw_761, tw_14, by decide +kernel, by decide +kernel⟩
theorem mi_X7_holds : Cond.instanceMethod yX7_holds ∈ jTs ∧ Cond.selects yX7_holds.cls yX7_holds yX7_holds ∈ jTs := ⟨tw_759, tw_760⟩
theorem my_X7_stands : jMY yX7_stands cX7_stands 3 (some .boolean) 2 := ⟨tw_769, tw_14, by decide +kernel, by decide +kernel⟩
theorem mi_X7_stands : Cond.instanceMethod yX7_stands ∈ jTs ∧ Cond.selects yX7_stands.cls yX7_stands yX7_stands ∈ jTs := ⟨tw_768, tws_28⟩
theorem my_X7_fellsOne : jMY yX7_fellsOne cX7_fellsOne 5 (some .boolean) 3 := ⟨tw_802, tw_14, by decide +kernel, by decide +kernel⟩
theorem mi_X7_fellsOne : Cond.instanceMethod yX7_fellsOne ∈ jTs ∧ Cond.selects yX7_fellsOne.cls yX7_fellsOne yX7_fellsOne ∈ jTs := ⟨tw_801, tws_35⟩
theorem my_X7_falls : jMY yX7_falls cX7_falls 7 none 3 := ⟨tw_798, tw_14, by decide +kernel, by decide +kernel⟩
theorem mi_X7_falls : Cond.instanceMethod yX7_falls ∈ jTs ∧ Cond.selects yX7_falls.cls yX7_falls yX7_falls ∈ jTs := ⟨tw_797, tws_34⟩
theorem my_X7_wouldFall : jMY yX7_wouldFall cX7_wouldFall 4 (some .boolean) 3 := ⟨tw_794, tw_14, by decide +kernel, by decide +kernel⟩
theorem mi_X7_wouldFall : Cond.instanceMethod yX7_wouldFall ∈ jTs ∧ Cond.selects yX7_wouldFall.cls yX7_wouldFall yX7_wouldFall ∈ jTs := ⟨tw_793, tws_33⟩
theorem my_X7_blasts : jMY yX7_blasts cX7_blasts 5 (some .int) 3 := ⟨tw_790, tw_14, by decide +kernel, by decide +kernel⟩
theorem mi_X7_blasts : Cond.instanceMethod yX7_blasts ∈ jTs ∧ Cond.selects yX7_blasts.cls yX7_blasts yX7_blasts ∈ jTs := ⟨tw_789, tws_32⟩
theorem my_X7_roundsOne : jMY yX7_roundsOne cX7_roundsOne 4 none 2 := ⟨tw_781, tw_14, by decide +kernel, by decide +kernel⟩
theorem mi_X7_roundsOne : Cond.instanceMethod yX7_roundsOne ∈ jTs ∧ Cond.selects yX7_roundsOne.cls yX7_roundsOne yX7_roundsOne ∈ jTs := ⟨tw_780, tws_31⟩
theorem my_X7_passes : jMY yX7_passes cX7_passes 3 none 1 := ⟨tw_811, tw_14, by decide +kernel, by decide +kernel⟩
theorem mi_X7_passes : Cond.instanceMethod yX7_passes ∈ jTs ∧ Cond.selects yX7_passes.cls yX7_passes yX7_passes ∈ jTs := ⟨tw_810, tws_36⟩
theorem my_X7_minds : jMY yX7_minds cX7_minds 2 none 0 := ⟨tw_773, tw_14, by decide +kernel, by decide +kernel⟩
theorem mi_X7_minds : Cond.instanceMethod yX7_minds ∈ jTs ∧ Cond.selects yX7_minds.cls yX7_minds yX7_minds ∈ jTs := ⟨tw_772, tws_29⟩
theorem my_X7_round : jMY yX7_round cX7_round 2 (some .int) 1 := ⟨tw_765, tw_14, by decide +kernel, by decide +kernel⟩
theorem mi_X7_round : Cond.instanceMethod yX7_round ∈ jTs ∧ Cond.selects yX7_round.cls yX7_round yX7_round ∈ jTs := ⟨tw_763, tw_764⟩
theorem my_X7_blast : jMY yX7_blast cX7_blast 3 (some .int) 2 := ⟨tw_785, tw_14, by decide +kernel, by decide +kernel⟩
theorem mi_X7_blast : Cond.instanceMethod yX7_blast ∈ jTs ∧ Cond.selects yX7_blast.cls yX7_blast yX7_blast ∈ jTs := ⟨tw_783, tw_784⟩
theorem my_X7_pass : jMY yX7_pass cX7_pass 3 (some .int) 1 := ⟨tw_806, tw_14, by decide +kernel, by decide +kernel⟩
theorem mi_X7_pass : Cond.instanceMethod yX7_pass ∈ jTs ∧ Cond.selects yX7_pass.cls yX7_pass yX7_pass ∈ jTs := ⟨tw_804, tw_805⟩
theorem my_X7_prop : jMY yX7_prop cX7_prop 5 (some .int) 3 := ⟨tw_815, tw_14, by decide +kernel, by decide +kernel⟩
theorem mi_X7_prop : Cond.instanceMethod yX7_prop ∈ jTs ∧ Cond.selects yX7_prop.cls yX7_prop yX7_prop ∈ jTs := ⟨tw_813, tw_814⟩
theorem my_X7_use : jMY yX7_use cX7_use 2 (some .int) 1 := ⟨tw_820, tw_14, by decide +kernel, by decide +kernel⟩
theorem mi_X7_use : Cond.instanceMethod yX7_use ∈ jTs ∧ Cond.selects yX7_use.cls yX7_use yX7_use ∈ jTs := ⟨tw_818, tw_819⟩
theorem my_X7_undo : jMY yX7_undo cX7_undo 1 (some .int) 0 := ⟨tw_825, tw_14, by decide +kernel, by decide +kernel⟩
theorem mi_X7_undo : Cond.instanceMethod yX7_undo ∈ jTs ∧ Cond.selects yX7_undo.cls yX7_undo yX7_undo ∈ jTs := ⟨tw_823, tw_824⟩
theorem my_X7_callsIn : jMY yX7_callsIn cX7_callsIn 4 (some .int) 2 := ⟨tw_833, tw_14, by decide +kernel, by decide +kernel⟩
theorem mi_X7_callsIn : Cond.instanceMethod yX7_callsIn ∈ jTs ∧ Cond.selects yX7_callsIn.cls yX7_callsIn yX7_callsIn ∈ jTs := ⟨tw_832, tws_37⟩
theorem my_X7_calls : jMY yX7_calls cX7_calls 2 (some .int) 1 := ⟨tw_829, tw_14, by decide +kernel, by decide +kernel⟩
theorem mi_X7_calls : Cond.instanceMethod yX7_calls ∈ jTs ∧ Cond.selects yX7_calls.cls yX7_calls yX7_calls ∈ jTs := ⟨tw_827, tw_828⟩
theorem my_X7_tries : jMY yX7_tries cX7_tries 1 none 0 := ⟨tw_841, tw_14, by decide +kernel, by decide +kernel⟩
theorem mi_X7_tries : Cond.instanceMethod yX7_tries ∈ jTs ∧ Cond.selects yX7_tries.cls yX7_tries yX7_tries ∈ jTs := ⟨tw_840, tws_38⟩
theorem my_X7_rounds : jMY yX7_rounds cX7_rounds 4 (some .int) 2 := ⟨tw_837, tw_14, by decide +kernel, by decide +kernel⟩
theorem mi_X7_rounds : Cond.instanceMethod yX7_rounds ∈ jTs ∧ Cond.selects yX7_rounds.cls yX7_rounds yX7_rounds ∈ jTs := ⟨tw_835, tw_836⟩
theorem my_X7_downOnes : jMY yX7_downOnes cX7_downOnes 4 (some .int) 1 := ⟨tw_849, tw_14, by decide +kernel, by decide +kernel⟩
theorem mi_X7_downOnes : Cond.instanceMethod yX7_downOnes ∈ jTs ∧ Cond.selects yX7_downOnes.cls yX7_downOnes yX7_downOnes ∈ jTs := ⟨tw_848, tws_39⟩
theorem my_X7_key : jMY yX7_key cX7_key 6 (some .int) 1 := ⟨tw_845, tw_14, by decide +kernel, by decide +kernel⟩
theorem mi_X7_key : Cond.instanceMethod yX7_key ∈ jTs ∧ Cond.selects yX7_key.cls yX7_key yX7_key ∈ jTs := ⟨tw_843, tw_844⟩
theorem my_X7_bestOrder : jMY yX7_bestOrder cX7_bestOrder 7 (some .int) 0 := ⟨tw_861, tw_14, by decide +kernel, by decide +kernel⟩
theorem mi_X7_bestOrder : Cond.instanceMethod yX7_bestOrder ∈ jTs ∧ Cond.selects yX7_bestOrder.cls yX7_bestOrder yX7_bestOrder ∈ jTs := ⟨tw_860, tws_40⟩
theorem my_X7_order : jMY yX7_order cX7_order 3 (some .int) 1 := ⟨tw_856, tw_14, by decide +kernel, by decide +kernel⟩
theorem mi_X7_order : Cond.instanceMethod yX7_order ∈ jTs ∧ Cond.selects yX7_order.cls yX7_order yX7_order ∈ jTs := ⟨tw_854, tw_855⟩
theorem my_X7_save : jMY yX7_save cX7_save 8 (some .int) 2 := ⟨tw_866, tw_14, by decide +kernel, by decide +kernel⟩
theorem mi_X7_save : Cond.instanceMethod yX7_save ∈ jTs ∧ Cond.selects yX7_save.cls yX7_save yX7_save ∈ jTs := ⟨tw_864, tw_865⟩
theorem my_X7_built : jMY yX7_built cX7_built 9 (some .int) 1 := ⟨tw_873, tw_14, by decide +kernel, by decide +kernel⟩
theorem mi_X7_built : Cond.instanceMethod yX7_built ∈ jTs ∧ Cond.selects yX7_built.cls yX7_built yX7_built ∈ jTs := ⟨tw_871, tw_872⟩
theorem my_X7_note : jMY yX7_note cX7_note 4 (some .int) 3 := ⟨tw_877, tw_14, by decide +kernel, by decide +kernel⟩
theorem mi_X7_note : Cond.instanceMethod yX7_note ∈ jTs ∧ Cond.selects yX7_note.cls yX7_note yX7_note ∈ jTs := ⟨tw_875, tw_876⟩
theorem my_X7_forget : jMY yX7_forget cX7_forget 2 (some .int) 0 := ⟨tw_881, tw_14, by decide +kernel, by decide +kernel⟩
theorem mi_X7_forget : Cond.instanceMethod yX7_forget ∈ jTs ∧ Cond.selects yX7_forget.cls yX7_forget yX7_forget ∈ jTs := ⟨tw_879, tw_880⟩
theorem my_X7_isSo : jMY yX7_isSo cX7_isSo 6 (some .boolean) 1 := ⟨tw_889, tw_14, by decide +kernel, by decide +kernel⟩
theorem mi_X7_isSo : Cond.instanceMethod yX7_isSo ∈ jTs ∧ Cond.selects yX7_isSo.cls yX7_isSo yX7_isSo ∈ jTs := ⟨tw_888, tws_41⟩
theorem my_X7_thick : jMY yX7_thick cX7_thick 6 (some .int) 1 := ⟨tw_885, tw_14, by decide +kernel, by decide +kernel⟩
theorem mi_X7_thick : Cond.instanceMethod yX7_thick ∈ jTs ∧ Cond.selects yX7_thick.cls yX7_thick yX7_thick ∈ jTs := ⟨tw_883, tw_884⟩
theorem my_X7_fail : jMY yX7_fail cX7_fail 15 (some .int) 4 := ⟨tw_893, tw_14, by decide +kernel, by decide +kernel⟩
theorem mi_X7_fail : Cond.instanceMethod yX7_fail ∈ jTs ∧ Cond.selects yX7_fail.cls yX7_fail yX7_fail ∈ jTs := ⟨tw_891, tw_892⟩
theorem my_X7_hurtAll : jMY yX7_hurtAll cX7_hurtAll 4 (some .int) 1 := ⟨tw_907, tw_14, by decide +kernel, by decide +kernel⟩
theorem mi_X7_hurtAll : Cond.instanceMethod yX7_hurtAll ∈ jTs ∧ Cond.selects yX7_hurtAll.cls yX7_hurtAll yX7_hurtAll ∈ jTs := ⟨tw_906, tws_42⟩
theorem my_X7_year : jMY yX7_year cX7_year 9 (some .int) 3 := ⟨tw_898, tw_14, by decide +kernel, by decide +kernel⟩
theorem mi_X7_year : Cond.instanceMethod yX7_year ∈ jTs ∧ Cond.selects yX7_year.cls yX7_year yX7_year ∈ jTs := ⟨tw_896, tw_897⟩
theorem my_X7_keep : jMY yX7_keep cX7_keep 1 (some .int) 0 := ⟨tw_911, tw_14, by decide +kernel, by decide +kernel⟩
theorem mi_X7_keep : Cond.instanceMethod yX7_keep ∈ jTs ∧ Cond.selects yX7_keep.cls yX7_keep yX7_keep ∈ jTs := ⟨tw_909, tw_910⟩
theorem my_X7_back : jMY yX7_back cX7_back 1 (some .int) 0 := ⟨tw_915, tw_14, by decide +kernel, by decide +kernel⟩
theorem mi_X7_back : Cond.instanceMethod yX7_back ∈ jTs ∧ Cond.selects yX7_back.cls yX7_back yX7_back ∈ jTs := ⟨tw_913, tw_914⟩
theorem my_X7_propsThere : jMY yX7_propsThere cX7_propsThere 3 (some .int) 0 := ⟨tw_923, tw_14, by decide +kernel, by decide +kernel⟩
theorem mi_X7_propsThere : Cond.instanceMethod yX7_propsThere ∈ jTs ∧ Cond.selects yX7_propsThere.cls yX7_propsThere yX7_propsThere ∈ jTs := ⟨tw_922, tws_43⟩
theorem my_X7_count : jMY yX7_count cX7_count 2 (some .int) 1 := ⟨tw_919, tw_14, by decide +kernel, by decide +kernel⟩
theorem mi_X7_count : Cond.instanceMethod yX7_count ∈ jTs ∧ Cond.selects yX7_count.cls yX7_count yX7_count ∈ jTs := ⟨tw_917, tw_918⟩
theorem my_J6_bitCount_0f7a4 : jMY yJ6_bitCount_0f7a4 cJ6_bitCount_0f7a4 1 (some .int) 1 := ⟨tw_525, tw_16, by decide +kernel, by decide +kernel⟩
theorem ms_J6_bitCount_0f7a4 : Cond.static yJ6_bitCount_0f7a4 ∈ jTs := tw_524
theorem my_J0_length_8abf5 : jMY yJ0_length_8abf5 cJ0_length_8abf5 1 (some .int) 0 := ⟨tw_200, tw_8, by decide +kernel, by decide +kernel⟩
theorem mi_J0_length_8abf5 : Cond.instanceMethod yJ0_length_8abf5 ∈ jTs ∧ Cond.selects yJ0_length_8abf5.cls yJ0_length_8abf5 yJ0_length_8abf5 ∈ jTs := ⟨tw_198, tw_199⟩
theorem my_J0_charAt_5068e : jMY yJ0_charAt_5068e cJ0_charAt_5068e 2 (some .char) 1 := ⟨tw_210, tw_8, by decide +kernel, by decide +kernel⟩
theorem mi_J0_charAt_5068e : Cond.instanceMethod yJ0_charAt_5068e ∈ jTs ∧ Cond.selects yJ0_charAt_5068e.cls yJ0_charAt_5068e yJ0_charAt_5068e ∈ jTs := ⟨tw_208, tw_209⟩
theorem my_J0_coder_7d493 : jMY yJ0_coder_7d493 cJ0_coder_7d493 1 (some .byte) 0 := ⟨tw_204, tw_8, by decide +kernel, by decide +kernel⟩
theorem mi_J0_coder_7d493 : Cond.instanceMethod yJ0_coder_7d493 ∈ jTs ∧ Cond.selects yJ0_coder_7d493.cls yJ0_coder_7d493 yJ0_coder_7d493 ∈ jTs := ⟨tw_202, tw_203⟩
theorem my_J0_isLatin1_aae02 : jMY yJ0_isLatin1_aae02 cJ0_isLatin1_aae02 1 (some .boolean) 0 := ⟨tw_214, tw_8, by decide +kernel, by decide +kernel⟩
theorem mi_J0_isLatin1_aae02 : Cond.instanceMethod yJ0_isLatin1_aae02 ∈ jTs ∧ Cond.selects yJ0_isLatin1_aae02.cls yJ0_isLatin1_aae02 yJ0_isLatin1_aae02 ∈ jTs := ⟨tw_212, tw_213⟩
theorem my_J0_checkIndex_df160 : jMY yJ0_checkIndex_df160 cJ0_checkIndex_df160 2 none 2 := ⟨tw_220, tw_8, by decide +kernel, by decide +kernel⟩
theorem ms_J0_checkIndex_df160 : Cond.static yJ0_checkIndex_df160 ∈ jTs := tw_219
theorem my_J1_charAt_3b067 : jMY yJ1_charAt_3b067 cJ1_charAt_3b067 2 (some .char) 2 := ⟨tw_217, tw_9, by decide +kernel, by decide +kernel⟩
theorem ms_J1_charAt_3b067 : Cond.static yJ1_charAt_3b067 ∈ jTs := tw_216
theorem my_J2_getChar_3b067 : jMY yJ2_getChar_3b067 cJ2_getChar_3b067 2 (some .char) 2 := ⟨tw_238, tw_11, by decide +kernel, by decide +kernel⟩
theorem ms_J2_getChar_3b067 : Cond.static yJ2_getChar_3b067 ∈ jTs := tw_237
theorem my_J2_length_9d52b : jMY yJ2_length_9d52b cJ2_length_9d52b 1 (some .int) 1 := ⟨tw_234, tw_11, by decide +kernel, by decide +kernel⟩
theorem ms_J2_length_9d52b : Cond.static yJ2_length_9d52b ∈ jTs := tw_233
theorem my_J2_charAt_3b067 : jMY yJ2_charAt_3b067 cJ2_charAt_3b067 2 (some .char) 2 := ⟨tw_228, tw_11, by decide +kernel, by decide +kernel⟩
theorem ms_J2_charAt_3b067 : Cond.static yJ2_charAt_3b067 ∈ jTs := tw_227
theorem my_J2_checkIndex_2214a : jMY yJ2_checkIndex_2214a cJ2_checkIndex_2214a 2 none 2 := ⟨tw_231, tw_11, by decide +kernel, by decide +kernel⟩
theorem ms_J2_checkIndex_2214a : Cond.static yJ2_checkIndex_2214a ∈ jTs := tw_230
theorem my_J7_fill_d0a16 : jMY yJ7_fill_d0a16 cJ7_fill_d0a16 5 none 2 := ⟨tw_491, tw_12, by decide +kernel, by decide +kernel⟩
theorem ms_J7_fill_d0a16 : Cond.static yJ7_fill_d0a16 ∈ jTs := tw_490
theorem my_J7_fill_53178 : jMY yJ7_fill_53178 cJ7_fill_53178 4 none 2 := ⟨tw_259, tw_12, by decide +kernel, by decide +kernel⟩
theorem ms_J7_fill_53178 : Cond.static yJ7_fill_53178 ∈ jTs := tw_258
theorem my_J3_checkIndex_8e157 : jMY yJ3_checkIndex_8e157 cJ3_checkIndex_8e157 3 (some .int) 3 := ⟨tw_225, tw_10, by decide +kernel, by decide +kernel⟩
theorem ms_J3_checkIndex_8e157 : Cond.static yJ3_checkIndex_8e157 ∈ jTs := tw_224
end
section
abbrev ms_J9_min := tw_389
abbrev co_J9_min := tw_390
abbrev ms_J9_max := tw_423
abbrev co_J9_max := tw_424
abbrev in_J9 := tw_15
abbrev mk_obj := tw_23
abbrev co_obj := tw_24
abbrev an_cpy := tw_301
abbrev as_cpy := tw_300
abbrev in_sys := tw_13
abbrev in_L := tw_0
abbrev in_X6 := tw_1
abbrev in_X4 := tw_2
abbrev in_X3 := tw_3
abbrev in_X5 := tw_4
abbrev in_X2 := tw_5
abbrev in_X0 := tw_6
abbrev in_X1 := tw_7
abbrev in_J0 := tw_8
abbrev in_J1 := tw_9
abbrev in_J3 := tw_10
abbrev in_J2 := tw_11
abbrev in_J7 := tw_12
abbrev in_J10 := tw_13
abbrev in_X7 := tw_14
abbrev in_J6 := tw_16
abbrev cl_L_7 := tw_17
abbrev is_X6 := tw_18
abbrev ml_L_9 := tw_19
abbrev ml_X6_3 := tw_22
abbrev cl_X6_9 := tw_25
abbrev is_X4 := tw_26
abbrev ml_X4_3 := tw_30
abbrev ac_char := tw_42
abbrev ac_int := tw_43
abbrev cl_X6_16 := tw_44
abbrev is_X3 := tw_45
abbrev ml_X3_3 := tw_49
abbrev cl_X6_26 := tw_80
abbrev is_X5 := tw_81
abbrev ml_X6_28 := tw_82
abbrev ml_X5_3 := tw_85
abbrev cl_X6_38 := tw_119
abbrev is_X2 := tw_120
abbrev ml_X6_40 := tw_121
abbrev ml_X2_3 := tw_124
abbrev cl_X2_9 := tw_125
abbrev ml_X2_24 := tw_127
abbrev cl_X6_53 := tw_139
abbrev is_X0 := tw_140
abbrev ml_X0_3 := tw_144
abbrev cl_X6_60 := tw_159
abbrev is_X1 := tw_160
abbrev ml_X6_62 := tw_161
abbrev ml_X1_3 := tw_164
abbrev cl_X1_9 := tw_165
abbrev ml_X1_42 := tw_166
abbrev ac_long := tw_195
abbrev ml_X6_69 := tw_197
abbrev ml_J0_335 := tw_201
abbrev ml_X6_75 := tw_207
abbrev ml_J0_492 := tw_211
abbrev ml_J0_495 := tw_215
abbrev ml_J1_9 := tw_218
abbrev ml_J0_1059 := tw_223
abbrev ml_J0_498 := tw_226
abbrev ml_J2_67 := tw_229
abbrev ml_J2_48 := tw_232
abbrev ml_J2_414 := tw_235
abbrev ml_J2_71 := tw_236
abbrev ml_X6_79 := tw_245
abbrev ml_X6_83 := tw_249
abbrev ml_X4_23 := tw_253
abbrev ml_X3_31 := tw_257
abbrev ml_X4_28 := tw_260
abbrev ml_X4_32 := tw_264
abbrev ml_X4_36 := tw_268
abbrev ml_X4_48 := tw_272
abbrev ml_X4_40 := tw_276
abbrev ml_X4_44 := tw_280
abbrev ml_X3_37 := tw_284
abbrev ml_X3_41 := tw_291
abbrev ml_X6_87 := tw_295
abbrev ml_X5_41 := tw_299
abbrev ml_X5_48 := tw_302
abbrev ac_byte := tw_334
abbrev ml_L_13 := tw_335
abbrev ml_L_18 := tw_339
abbrev ml_L_23 := tw_343
abbrev ml_L_27 := tw_347
abbrev ml_L_31 := tw_351
abbrev ml_X6_99 := tw_355
abbrev ml_X6_142 := tw_359
abbrev ml_X6_114 := tw_360
abbrev ml_L_36 := tw_364
abbrev ml_X6_126 := tw_368
abbrev ml_X6_130 := tw_372
abbrev ml_L_40 := tw_376
abbrev ml_X6_134 := tw_380
abbrev ml_X2_27 := tw_384
abbrev ml_X2_31 := tw_388
abbrev ml_X6_138 := tw_391
abbrev ml_X5_65 := tw_395
abbrev ml_L_44 := tw_396
abbrev ml_X6_146 := tw_400
abbrev ml_X5_73 := tw_404
abbrev ml_X5_77 := tw_408
abbrev ml_X5_81 := tw_412
abbrev ml_X5_88 := tw_416
abbrev ml_X5_92 := tw_420
abbrev ml_X5_61 := tw_421
abbrev ml_X5_85 := tw_422
abbrev ml_L_48 := tw_425
abbrev ml_X6_149 := tw_429
abbrev ml_L_52 := tw_433
abbrev ml_X6_155 := tw_437
abbrev ml_L_57 := tw_441
abbrev ml_L_61 := tw_445
abbrev ml_X6_162 := tw_449
abbrev ml_L_65 := tw_453
abbrev ml_X6_166 := tw_457
abbrev ml_L_69 := tw_461
abbrev ml_X6_170 := tw_465
abbrev ml_X6_173 := tw_466
abbrev ml_X6_176 := tw_467
abbrev ml_L_73 := tw_468
abbrev ml_X6_179 := tw_472
abbrev ml_X6_233 := tw_476
abbrev ml_X6_224 := tw_477
abbrev ml_L_77 := tw_481
abbrev ml_X6_182 := tw_485
abbrev ml_X1_45 := tw_489
abbrev ml_X1_51 := tw_492
abbrev ml_X1_55 := tw_493
abbrev ml_X1_59 := tw_497
abbrev ml_X1_68 := tw_498
abbrev ml_X1_91 := tw_502
abbrev ml_X1_71 := tw_503
abbrev ml_X1_75 := tw_507
abbrev ct_X1_103 := tw_511
abbrev ml_X1_79 := tw_512
abbrev ml_X1_83 := tw_513
abbrev ml_X1_87 := tw_514
abbrev ml_L_81 := tw_515
abbrev ml_X6_192 := tw_519
abbrev ml_X6_195 := tw_523
abbrev ct_J6_265 := tw_526
abbrev ct_J6_266 := tw_527
abbrev ct_J6_267 := tw_528
abbrev ml_X6_200 := tw_529
abbrev ml_L_85 := tw_533
abbrev ml_L_89 := tw_537
abbrev ml_X6_203 := tw_541
abbrev ml_X6_207 := tw_545
abbrev ml_L_93 := tw_549
abbrev ml_L_97 := tw_553
abbrev ml_X6_209 := tw_557
abbrev ml_X0_25 := tw_561
abbrev ml_L_101 := tw_562
abbrev ml_X6_212 := tw_566
abbrev ml_X6_216 := tw_569
abbrev ml_L_106 := tw_572
abbrev ml_X6_220 := tw_576
abbrev ct_X6_236 := tw_580
abbrev ct_X6_238 := tw_581
abbrev ct_X6_240 := tw_582
abbrev ml_X6_227 := tw_583
abbrev ml_L_110 := tw_587
abbrev ml_L_114 := tw_591
abbrev ml_L_118 := tw_595
abbrev ml_X6_230 := tw_599
abbrev cl_L_10 := tw_603
abbrev is_X7 := tw_604
abbrev ml_L_12 := tw_605
abbrev ml_X7_1 := tw_608
abbrev ml_X7_55 := tw_609
abbrev ml_X7_58 := tw_613
abbrev ml_X7_66 := tw_617
abbrev ml_L_17 := tw_697
abbrev ct_X7_88 := tw_701
abbrev ct_X7_90 := tw_702
abbrev ml_X7_72 := tw_703
abbrev ml_L_22 := tw_706
abbrev ml_L_26 := tw_710
abbrev ml_X7_126 := tw_714
abbrev ml_X7_123 := tw_718
abbrev ml_X7_101 := tw_722
abbrev ml_X7_113 := tw_726
abbrev ml_X7_109 := tw_730
abbrev ct_X7_105 := tw_734
abbrev ct_X7_107 := tw_735
abbrev ml_X7_117 := tw_736
abbrev ml_X7_120 := tw_740
abbrev ml_L_30 := tw_744
abbrev ml_L_35 := tw_748
abbrev ml_X7_130 := tw_752
abbrev ct_X7_134 := tw_756
abbrev ct_X7_136 := tw_757
abbrev ml_L_39 := tw_758
abbrev ml_L_43 := tw_762
abbrev ml_X7_138 := tw_766
abbrev ml_X7_157 := tw_770
abbrev ml_X7_153 := tw_774
abbrev ml_X7_160 := tw_778
abbrev ml_L_47 := tw_782
abbrev ct_X7_163 := tw_786
abbrev ml_X7_165 := tw_787
abbrev ml_X7_146 := tw_791
abbrev ml_X7_149 := tw_795
abbrev ml_X7_142 := tw_799
abbrev ml_L_51 := tw_803
abbrev ct_X7_169 := tw_807
abbrev ml_X7_171 := tw_808
abbrev ml_L_56 := tw_812
abbrev ct_X7_175 := tw_816
abbrev ml_L_60 := tw_817
abbrev ct_X7_177 := tw_821
abbrev ml_L_64 := tw_822
abbrev ml_L_68 := tw_826
abbrev ml_X7_179 := tw_830
abbrev ml_L_72 := tw_834
abbrev ml_X7_183 := tw_838
abbrev ml_L_76 := tw_842
abbrev ml_X7_186 := tw_846
abbrev ml_X7_189 := tw_850
abbrev ml_L_80 := tw_853
abbrev ct_X7_196 := tw_857
abbrev ml_X7_198 := tw_858
abbrev ct_X7_192 := tw_862
abbrev ml_L_84 := tw_863
abbrev ml_X7_201 := tw_867
abbrev ml_L_88 := tw_870
abbrev ml_L_92 := tw_874
abbrev ml_L_96 := tw_878
abbrev ml_L_100 := tw_882
abbrev ml_X7_204 := tw_886
abbrev ml_L_105 := tw_890
abbrev ct_X7_207 := tw_894
abbrev ml_L_109 := tw_895
abbrev ct_X7_209 := tw_899
abbrev ct_X7_211 := tw_900
abbrev ct_X7_213 := tw_901
abbrev ct_X7_215 := tw_902
abbrev ct_X7_217 := tw_903
abbrev ml_X7_219 := tw_904
abbrev ml_L_113 := tw_908
abbrev ml_L_117 := tw_912
abbrev ml_L_121 := tw_916
abbrev ml_X7_222 := tw_920
end
section
/-! THE ABSTRACT HEAP: how many cells, their kinds (an object of a class by its number, or an array by type and length), references, ints, longs -/
abbrev jK : Type := Nat ⊕ (FieldType × Nat)
abbrev jH : Type := Nat × (Nat → jK) × (Nat → Nat → Option Nat) × (Nat → Nat → Int32) × (Nat → Nat → Int64)
/-- the ground: the heap at the law's entry; class ids and slots; the script (cell, length, values); the text constant's cell; what else is known -/
abbrev jG : Type := Heap × (Nat → ClassId) × (Nat → Nat → Nat) × (Nat × Nat × (Nat → Int32)) × Nat × (State → Prop)
abbrev jB (G : jG) : Nat := G.1.size
abbrev jD (G : jG) : va_G := (G.2.1, G.2.2.1)
abbrev jsc (G : jG) : Nat := G.2.2.2.1.1
abbrev jsL (G : jG) : Nat := G.2.2.2.1.2.1
abbrev jsx (G : jG) : Nat → Int32 := G.2.2.2.1.2.2
abbrev jaS (G : jG) : Nat := G.2.2.2.2.1
abbrev jE (G : jG) : State → Prop := G.2.2.2.2.2
/-- an abstract value's own: cells count from the ground on; .float 0 is the script, any other float the text constant -/
def jtr (G : jG) : Value → Value
  | .ref k => .ref (jB G + k)
  | .float u => .ref (if u = 0 then jsc G else jaS G)
  | v => v
theorem jtr_cat (G : jG) (v : Value) : (jtr G v).category = v.category := by cases v <;> rfl
/-- which fields of a class are references -/
def jrfl : List (List Bool) := [[true, true, true, false], [true, true, true, true, true, true, false, false], [true, false, false], [false, false, true, true, true, true], [true, true, false], [true, true, true, true, true, true, false, false], [true, true, true, true, true, true, true, false, true, true], [true, false, false, false, true, true, true, false, true, true, true, true, false, false, false, false, true, true, false, true, true, true, true, true, false]]
def jrf (ci j : Nat) : Bool := (jrfl.getD ci []).getD j false
def jfv (G : jG) (ci : Nat) (r : Nat → Option Nat) (mu : Nat → Int32) (j : Nat) : Value := if jrf ci j = true then va_rf ((r j).map (fun x => jB G + x)) else .int (mu j)
def jav (G : jG) (ty : FieldType) (r : Nat → Option Nat) (mu : Nat → Int32) (nu : Nat → Int64) (j : Nat) : Value := match ty with
  | .long => .long (nu j)
  | .object _ => va_rf ((r j).map (fun x => jB G + x))
  | _ => .int (mu j)
/-- a cell of the world -/
def jcell (G : jG) (U : State) (k : Nat) (kd : jK) (r : Nat → Option Nat) (mu : Nat → Int32) (nu : Nat → Int64) (H : Heap) : Prop := match kd with
  | .inl ci => ∃ q : vw_C, vwCl[ci]? = some q ∧ t_OB (jB G + k) (G.2.1 ci) q.2.2 (G.2.2.1 ci) H (jfv G ci r mu)
  | .inr (ty, n) => ∃ cA : ClassId, ArrOfT U cA ty ∧ va_RA U cA ty ∧ H[jB G + k]? = some (arrV cA n (jav G ty r mu nu))
/-- the world: what the heap holds -/
def jWD (G : jG) (U : State) (h : jH) (H : Heap) : Prop :=
  H.size = jB G + h.1 ∧ (∀ q, q < jB G → H[q]? = G.1[q]?) ∧ ∀ k, k < h.1 → jcell G U k (h.2.1 k) (h.2.2.1 k) (h.2.2.2.1 k) (h.2.2.2.2 k) H
theorem jcell.moved {G : jG} {u U : State} (hvm : u.vm.Alike U.vm) {k : Nat} {kd : jK} {r : Nat → Option Nat} {mu : Nat → Int32} {nu : Nat → Int64} {H : Heap} (h : jcell G u k kd r mu nu H) : jcell G U k kd r mu nu H := by
  cases kd with
  | inl ci => exact h
  | inr q =>
    obtain ⟨cA, h1, h2, h3⟩ := h
    exact ⟨cA, arrOfT_moved hvm h1, h2.moved hvm, h3⟩
theorem jcell.kept {G : jG} {U : State} {k : Nat} {kd : jK} {r : Nat → Option Nat} {mu : Nat → Int32} {nu : Nat → Int64} {H H1 : Heap} (h : jcell G U k kd r mu nu H) (hq : H1[jB G + k]? = H[jB G + k]?) : jcell G U k kd r mu nu H1 := by
  cases kd with
  | inl ci =>
    obtain ⟨q, h1, h2⟩ := h
    exact ⟨q, h1, h2.kept hq⟩
  | inr q =>
    obtain ⟨cA, h1, h2, h3⟩ := h
    exact ⟨cA, h1, h2, by rw [hq]; exact h3⟩
theorem jWD.moved {G : jG} {u U : State} (hvm : u.vm.Alike U.vm) {h : jH} {H : Heap} (w : jWD G u h H) : jWD G U h H := ⟨w.1, w.2.1, fun k hk => (w.2.2 k hk).moved hvm⟩
/-- one cell is written -/
theorem jWD.write {G : jG} {U : State} {h h' : jH} {H H' : Heap} {a : Nat} (w : jWD G U h H) (hz : H'.size = H.size) (ho : ∀ q, q ≠ jB G + a → H'[q]? = H[q]?) (hn : h'.1 = h.1)
    (hk : ∀ k, k ≠ a → h'.2.1 k = h.2.1 k ∧ h'.2.2.1 k = h.2.2.1 k ∧ h'.2.2.2.1 k = h.2.2.2.1 k ∧ h'.2.2.2.2 k = h.2.2.2.2 k) (hc : jcell G U a (h'.2.1 a) (h'.2.2.1 a) (h'.2.2.2.1 a) (h'.2.2.2.2 a) H') : jWD G U h' H' := by
  refine ⟨by rw [hz, hn]; exact w.1, fun q hq => by rw [ho q (by omega)]; exact w.2.1 q hq, fun k hkn => ?_⟩
  by_cases e : k = a
  · subst e; exact hc
  · obtain ⟨e1, e2, e3, e4⟩ := hk k e
    rw [e1, e2, e3, e4]
    exact (w.2.2 k (by rw [← hn]; exact hkn)).kept (ho _ (by omega))
/-- one cell is made -/
theorem jWD.push {G : jG} {U : State} {h h' : jH} {H H' : Heap} (w : jWD G U h H) (hz : H'.size = H.size + 1) (ho : ∀ q, q < H.size → H'[q]? = H[q]?) (hn : h'.1 = h.1 + 1)
    (hk : ∀ k, k < h.1 → h'.2.1 k = h.2.1 k ∧ h'.2.2.1 k = h.2.2.1 k ∧ h'.2.2.2.1 k = h.2.2.2.1 k ∧ h'.2.2.2.2 k = h.2.2.2.2 k) (hc : jcell G U h.1 (h'.2.1 h.1) (h'.2.2.1 h.1) (h'.2.2.2.1 h.1) (h'.2.2.2.2 h.1) H') : jWD G U h' H' := by
  have w1 := w.1
  refine ⟨by rw [hz, hn, w1]; omega, fun q hq => by rw [ho q (by omega)]; exact w.2.1 q hq, fun k hkn => ?_⟩
  by_cases e : k = h.1
  · subst e; exact hc
  · have hlt : k < h.1 := by omega
    obtain ⟨e1, e2, e3, e4⟩ := hk k hlt
    rw [e1, e2, e3, e4]
    exact (w.2.2 k hlt).kept (ho _ (by omega))
/-- updates -/
def jup {α : Type} (f : Nat → Nat → α) (a j : Nat) (v : α) : Nat → Nat → α := fun a' => if a' = a then (fun j' => if j' = j then v else f a j') else f a'
/-- a whole row is laid -/
def jrow {α : Type} (f : Nat → Nat → α) (a : Nat) (g : Nat → α) : Nat → Nat → α := fun a' => if a' = a then g else f a'
theorem jup_ne {α : Type} {f : Nat → Nat → α} {a j k : Nat} {v : α} (h : k ≠ a) : jup f a j v k = f k := if_neg h
theorem jrow_ne {α : Type} {f : Nat → Nat → α} {a k : Nat} {g : Nat → α} (h : k ≠ a) : jrow f a g k = f k := if_neg h
theorem jrow_eq {α : Type} (f : Nat → Nat → α) (a : Nat) (g : Nat → α) : jrow f a g a = g := if_pos rfl
theorem jup_eq {α : Type} (f : Nat → Nat → α) (a j : Nat) (v : α) : jup f a j v a = fun j' => if j' = j then v else f a j' := if_pos rfl
/-! the locals -/
def jLH (G : jG) (ls : Array Slot) (nL : Nat) (lo : List (Option Value)) : Prop := lo.length ≤ nL ∧ ls.size = nL ∧ lv_wf ls ∧ ∀ (i : Nat) (v : Value), lo[i]? = some (some v) → ls[i]? = some (.val (jtr G v))
def jlist (G : jG) : Nat → List (Option Value) → List (Nat × Value)
  | _, [] => []
  | i, none :: r => jlist G (i + 1) r
  | i, some v :: r => (i, jtr G v) :: jlist G (i + 1) r
theorem jlist_mem {G : jG} : ∀ (lo : List (Option Value)) (i : Nat) (q : Nat × Value), q ∈ jlist G i lo ↔ ∃ (j : Nat) (v : Value), lo[j]? = some (some v) ∧ q = (i + j, jtr G v)
  | [], i, q => by simp [jlist]
  | none :: r, i, q => by
    rw [jlist, jlist_mem r (i + 1) q]
    constructor
    · rintro ⟨j, v, h1, h2⟩
      exact ⟨j + 1, v, by simpa using h1, by rw [h2]; congr 1; omega⟩
    · rintro ⟨j, v, h1, h2⟩
      cases j with
      | zero => simp at h1
      | succ j => exact ⟨j, v, by simpa using h1, by rw [h2]; congr 1; omega⟩
  | some w :: r, i, q => by
    rw [jlist, List.mem_cons, jlist_mem r (i + 1) q]
    constructor
    · rintro (h | ⟨j, v, h1, h2⟩)
      · exact ⟨0, w, by simp, by rw [h]; simp⟩
      · exact ⟨j + 1, v, by simpa using h1, by rw [h2]; congr 1; omega⟩
    · rintro ⟨j, v, h1, h2⟩
      cases j with
      | zero => left; simp at h1; rw [h2, ← h1]; simp
      | succ j => right; exact ⟨j, v, by simpa using h1, by rw [h2]; congr 1; omega⟩
theorem jLH.has {G : jG} {ls : Array Slot} {nL : Nat} {lo : List (Option Value)} (h : jLH G ls nL lo) : lv_has ls nL (jlist G 0 lo) := by
  refine ⟨h.2.1, h.2.2.1, fun q hq => ?_⟩
  obtain ⟨j, v, h1, h2⟩ := (jlist_mem lo 0 q).mp hq
  rw [h2]
  simpa using h.2.2.2 j v h1
/-- what a store of one slot leaves -/
def jput1 (lo lo' : List (Option Value)) (i : Nat) (v : Value) : Prop := lo'.length = lo.length ∧ ∀ (j : Nat) (w : Value), lo'[j]? = some (some w) → (j = i ∧ w = v) ∨ (j ≠ i ∧ lo[j]? = some (some w) ∧ ¬ (j + 1 = i ∧ w.category = 2))
theorem jLH.put1 {G : jG} {ls' : Array Slot} {nL i : Nat} {lo lo' : List (Option Value)} {v : Value} (hn : lo.length ≤ nL) (hp : jput1 lo lo' i v) (h : lv_has ls' nL ((i, jtr G v) :: (jlist G 0 lo).filter (fun q => !(q.1 == i) && !(q.1 + 1 == i && q.2.category == 2)))) : jLH G ls' nL lo' := by
  refine ⟨by rw [hp.1]; exact hn, h.1, h.2.1, fun j w hj => ?_⟩
  rcases hp.2 j w hj with ⟨e1, e2⟩ | ⟨e1, e2, e3⟩
  · subst e1; subst e2
    exact h.2.2 _ List.mem_cons_self
  · refine h.2.2 (j, jtr G w) (List.mem_cons_of_mem _ (List.mem_filter.mpr ⟨(jlist_mem lo 0 _).mpr ⟨j, w, e2, by simp⟩, ?_⟩))
    simp only [jtr_cat, Bool.and_eq_true, Bool.not_eq_true', Bool.and_eq_false_iff, beq_eq_false_iff_ne, ne_eq]
    refine ⟨e1, ?_⟩
    by_cases c : j + 1 = i
    · right; exact fun z => e3 ⟨c, z⟩
    · left; exact c
/-- what a store of two slots leaves -/
def jput2 (lo lo' : List (Option Value)) (i : Nat) (v : Value) : Prop := lo'.length = lo.length ∧ ∀ (j : Nat) (w : Value), lo'[j]? = some (some w) → (j = i ∧ w = v) ∨ (j ≠ i ∧ j ≠ i + 1 ∧ lo[j]? = some (some w) ∧ ¬ (j + 1 = i ∧ w.category = 2))
theorem jLH.put2 {G : jG} {ls' : Array Slot} {nL i : Nat} {lo lo' : List (Option Value)} {v : Value} (hn : lo.length ≤ nL) (hp : jput2 lo lo' i v) (h : lv_has ls' nL ((i, jtr G v) :: (jlist G 0 lo).filter (fun q => !(q.1 == i) && (!(q.1 == i + 1) && !(q.1 + 1 == i && q.2.category == 2))))) : jLH G ls' nL lo' := by
  refine ⟨by rw [hp.1]; exact hn, h.1, h.2.1, fun j w hj => ?_⟩
  rcases hp.2 j w hj with ⟨e1, e2⟩ | ⟨e1, e1', e2, e3⟩
  · subst e1; subst e2
    exact h.2.2 _ List.mem_cons_self
  · refine h.2.2 (j, jtr G w) (List.mem_cons_of_mem _ (List.mem_filter.mpr ⟨(jlist_mem lo 0 _).mpr ⟨j, w, e2, by simp⟩, ?_⟩))
    simp only [jtr_cat, Bool.and_eq_true, Bool.not_eq_true', Bool.and_eq_false_iff, beq_eq_false_iff_ne, ne_eq]
    refine ⟨e1, e1', ?_⟩
    by_cases c : j + 1 = i
    · right; exact fun z => e3 ⟨c, z⟩
    · left; exact c
/-- the locals at a method's entry -/
def jargs : List Value → List (Option Value)
  | [] => []
  | v :: vs => if v.category = 2 then some v :: none :: jargs vs else some v :: jargs vs
theorem jargs_mem (G : jG) : ∀ (vs : List Value) (i j : Nat) (v : Value), (jargs vs)[j]? = some (some v) → (i + j, jtr G v) ∈ lv_args i (vs.map (jtr G))
  | [], i, j, v, h => by simp [jargs] at h
  | w :: vs, i, j, v, h => by
    rw [jargs] at h
    rw [List.map_cons, lv_args, jtr_cat]
    by_cases c : w.category = 2
    · rw [if_pos c] at h ⊢
      match j, h with
      | 0, h =>
        simp at h
        rw [← h]
        exact List.mem_cons_self
      | 1, h => simp at h
      | j + 2, h =>
        have := jargs_mem G vs (i + 2) j v (by simpa using h)
        rw [show i + (j + 2) = i + 2 + j by omega]
        exact List.mem_cons_of_mem _ this
    · rw [if_neg c] at h ⊢
      match j, h with
      | 0, h =>
        simp at h
        rw [← h]
        exact List.mem_cons_self
      | j + 1, h =>
        have := jargs_mem G vs (i + 1) j v (by simpa using h)
        rw [show i + (j + 1) = i + 1 + j by omega]
        exact List.mem_cons_of_mem _ this
theorem jargs_len (G : jG) : ∀ (vs : List Value), (lg_sl (vs.map (jtr G))).length = (jargs vs).length
  | [] => rfl
  | w :: vs => by
    have ih := jargs_len G vs
    rw [jargs, List.map_cons]
    unfold lg_sl at ih ⊢
    rw [List.flatMap_cons, List.length_append, ih, jtr_cat]
    by_cases c : w.category = 2
    · rw [if_pos c, if_pos c]; simp; omega
    · rw [if_neg c, if_neg c]; simp; omega
end
section
/-! THE JUDGEMENT -/
/-- what is known of the machine's tables at a state -/
def jS (G : jG) (U : State) : Prop :=
  va_K (jD G) vwCl [] U ∧ va_X (jsc G) (jsL G) (jsx G) U G.1 ∧ jsc G < jB G ∧ va_AO RX5 U ∧
  (va_Nw (.methodLinkNest RX6 11 yX4_init RX6) U ∧ va_Nw (.methodLinkNest RX6 18 yX3_init RX6) U ∧ va_Nw (.methodLinkNest RX6 55 yX0_init RX6) U ∧ va_Nw (.methodLinkNest RX3 44 yX6_isOutside RX6) U) ∧
  (∀ (s U' : State), s.WarmedH U'.vm → jE G s → jE G U') ∧ jE G U
theorem jS.moved {G : jG} {s U : State} (hW : s.WarmedH U.vm) (h : jS G s) : jS G U := by
  obtain ⟨h1, h2, h3, h4, ⟨n1, n2, n3, n4⟩, h6, h7⟩ := h
  exact ⟨va_K.moved hW.alike h1, h2.moved hW.alike, h3, h4.moved hW.alike, ⟨va_Nw.warmM hW n1, va_Nw.warmM hW n2, va_Nw.warmM hW n3, va_Nw.warmM hW n4⟩, h6, h6 s U hW h7⟩
/-- a method's start and end -/
def jPc (G : jG) (av : List Value) (h : jH) : Array Value → State → Prop := fun v U => v = (av.map (jtr G)).toArray ∧ jWD G U h U.heap ∧ jS G U
def jQc (G : jG) (v : Option Value) (h' : jH) : Array Value → State → Outcome → State → Prop := fun _ _ oc t => oc = .returned (v.map (jtr G)) ∧ jWD G t h' t.heap
theorem jPc_blind (G : jG) (av : List Value) (h : jH) : FrameBlind (jPc G av h) := by
  intro a U g mk q
  obtain ⟨q1, q2, q3⟩ := q
  exact ⟨q1, jWD.moved (u := U) (U := U.calling g mk a) (Vm.Alike.refl U.vm) q2, jS.moved (s := U) (U := U.calling g mk a) (State.WarmedH.refl U) q3⟩
/-- A METHOD, called at a heap with arguments: it returns, with that answer and that heap -/
def MT (G : jG) (y : MethodName) (cc : ByteArray) (nL : Nat) (ret : Option FieldType) (d mc ms : Nat) (av : List Value) (h : jH) (v : Option Value) (h' : jH) : Prop :=
  ∀ l : Launch, Met l y (Cond.code y cc nL ret :: jTs) ({ frames := d, cells := mc, slots := ms, locals := 64 * d }) (jPc G av h) (jQc G v h') mc ms (fun q => jB G ≤ q)
def jRet (cc : ByteArray) (pc : Nat) (v : Option Value) : Prop := match v with
  | none => decode cc pc = .ok (.return_, 1)
  | some (.int _) => decode cc pc = .ok (.ireturn, 1)
  | some (.long _) => decode cc pc = .ok (.lreturn, 1)
  | _ => False
/-- what holds in a method's activation -/
def jM (G : jG) (own : String) (cc : ByteArray) (nL : Nat) (ini : Bool) (d : Nat) (p : Program) (R : Room) (s : State) (m : MethodId) (args : Array Value) (meth : Method) (c : Code) : Prop :=
  p.tables.exec = Jvm.exec ∧ c.code = cc ∧ c.maxLocals = nL ∧ s.vm.findClass own = some m.cls ∧ (∀ w ∈ jTs, w.before args s = true) ∧ jS G s ∧ d ≤ R.frames ∧ 64 * d ≤ R.locals ∧ (ini = true → meth.name = "<init>")
def J (G : jG) (own : String) (cc : ByteArray) (nL : Nat) (ini : Bool) (d : Nat) (Q : Option Value → jH → Prop) (ac sc : Nat) (h : jH) (pc : Nat) (lo : List (Option Value)) (st : List Value) : Prop :=
  ∀ (p : Program) (l : Launch) (e : Env) (R : Room) (s : State) (m : MethodId) (args : Array Value) (below : List Frame) (meth : Method) (c : Code) (Z : State → Prop), jM G own cc nL ini d p R s m args meth c →
    (∀ (v : Option Value) (h' : jH) (H' : Heap) (locs' : List Loc) (cells' slots' pc' : Nat) (ls' : Array Slot), Q v h' → jRet cc pc' v → jWD G s h' H' → (∀ q ∈ locs', jB G ≤ q.base) → cells' ≤ R.cells → slots' ≤ R.slots → W p l e R s m args below meth c H' locs' cells' slots' Z (F0 m pc' ls' (v.map (jtr G)).toList)) →
    ∀ (H : Heap) (locs : List Loc) (cells slots : Nat) (ls : Array Slot), jWD G s h H → (∀ q ∈ locs, jB G ≤ q.base) → cells + ac ≤ R.cells → slots + sc ≤ R.slots → jLH G ls nL lo → W p l e R s m args below meth c H locs cells slots Z (F0 m pc ls (st.map (jtr G)))
/-- which answers a return type takes -/
def jRv (ret : Option FieldType) (v : Option Value) : Prop := (ret = none ∧ v = none) ∨ (ret = some .long ∧ ∃ x, v = some (.long x)) ∨ ∃ (ty : FieldType) (x : Int32), ret = some ty ∧ v = some (.int x) ∧ narrow ty (.int x) = .int x
theorem jRv_v : jRv none none := Or.inl ⟨rfl, rfl⟩
theorem jRv_l (x : Int64) : jRv (some .long) (some (.long x)) := Or.inr (Or.inl ⟨rfl, x, rfl⟩)
theorem jRv_i (x : Int32) : jRv (some .int) (some (.int x)) := Or.inr (Or.inr ⟨.int, x, rfl, rfl, rfl⟩)
theorem jRv_z {x : Int32} (h : x = 0 ∨ x = 1) : jRv (some .boolean) (some (.int x)) := Or.inr (Or.inr ⟨.boolean, x, rfl, rfl, by rcases h with rfl | rfl <;> decide⟩)
theorem jRv_b (b : Bool) : jRv (some .boolean) (some (.int (if b then 1 else 0))) := jRv_z (by cases b <;> simp)
theorem jMT {G : jG} {y : MethodName} {cc : ByteArray} {nL : Nat} {ret : Option FieldType} {n d mc ms : Nat} {ini : Bool} {av : List Value} {h h' : jH} {v : Option Value} (hy : jMY y cc nL ret n) (hini : ini = true → y.name = "<init>") (hr : jRv ret v) (hn : (jargs av).length ≤ nL)
    (hJ : J G y.cls cc nL ini d (fun v' h'' => v' = v ∧ h'' = h') mc ms h 0 (jargs av ++ List.replicate (nL - (jargs av).length) none) []) : MT G y cc nL ret d mc ms av h v h' := by
  intro l
  refine Met.ofW (cc := cc) (maxL := nL) (ret := ret) hy.2.2.2 rfl ?_
  intro p e s m args below meth c s₁ B hml hv
  obtain ⟨rfl, hWD, hS⟩ := hv
  have hts := atoms_spec (ws := Cond.code y cc nL ret :: jTs) B.pre
  have hown : s.vm.findClass y.cls = some m.cls := findClass_of_methodNamed B.named
  have hlocks := B.notSynchronized
  have hret := B.returns
  have hE := lv_entry (av.map (jtr G)) (n := nL) (by rw [jargs_len]; exact hn)
  rw [lg_entry_eq]
  refine hJ p l e _ s m _ below meth c _ ⟨B.exec, B.bytes, hml, hown, fun w hw => hts w (List.mem_cons_of_mem _ hw), hS, Nat.le_refl _, Nat.le_refl _, fun hi => by rw [(name_of_methodNamed B.named B.method).1]; exact hini hi⟩ ?_ s.heap [] 0 0 _ hWD (fun _ h => absurd h List.not_mem_nil) (by simp [headSpec]) (by simp [headSpec]) ?_
  · intro v' h'' H' locs' cells' slots' pc' ls' hQ hd hW' hl' hc' hs'
    obtain ⟨rfl, rfl⟩ := hQ
    refine W.widen (k := mc) (n := ms) hc' hs' ?_
    have hq : ∀ t : State, t.heap = H' → s.WarmedH t.vm → jQc G v' h'' (List.map (jtr G) av).toArray s (.returned (v'.map (jtr G))) t := fun t ht hw => ⟨rfl, by rw [ht]; exact hW'.moved hw.alike⟩
    rcases hr with ⟨rfl, rfl⟩ | ⟨rfl, x, rfl⟩ | ⟨ty, x, rfl, rfl, hr'⟩
    · exact W.vret B.exec B.bytes hret hq hl' hd
    · exact W.lret B.exec B.bytes hret hq hl' hd
    · exact W.zret B.exec B.bytes hret hr' hq hl' hd
  · refine ⟨by simp; omega, hE.1, hE.2.1, fun i w hi => ?_⟩
    by_cases hlt : i < (jargs av).length
    · rw [List.getElem?_append_left hlt] at hi
      have := hE.2.2 _ (jargs_mem G av 0 i w hi)
      simpa using this
    · rw [List.getElem?_append_right (by omega)] at hi
      have := List.eq_of_mem_replicate (List.mem_of_getElem? hi)
      cases this
section JR
variable {G : jG} {own : String} {cc : ByteArray} {nL : Nat} {ini : Bool} {d : Nat} {Q : Option Value → jH → Prop} {ac sc : Nat} {h : jH} {pc : Nat} {lo : List (Option Value)} {st : List Value}
/-- a step that touches neither heap nor locals -/
theorem J.go {pc' : Nat} {st' : List Value} (r : ∀ (p : Program) (l : Launch) (e : Env) (R : Room) (s : State) (m : MethodId) (args : Array Value) (below : List Frame) (meth : Method) (c : Code) (Z : State → Prop) (H : Heap) (locs : List Loc) (cells slots : Nat) (ls : Array Slot), jM G own cc nL ini d p R s m args meth c → W p l e R s m args below meth c H locs cells slots Z (F0 m pc' ls (st'.map (jtr G))) → W p l e R s m args below meth c H locs cells slots Z (F0 m pc ls (st.map (jtr G))))
    (k : J G own cc nL ini d Q ac sc h pc' lo st') : J G own cc nL ini d Q ac sc h pc lo st := by
  intro p l e R s m args below meth c Z hM hK H locs cells slots ls hW hL hc hs hl
  exact r p l e R s m args below meth c Z H locs cells slots ls hM (k p l e R s m args below meth c Z hM hK H locs cells slots ls hW hL hc hs hl)
theorem j_iret {v : Int32} (hd : decode cc pc = .ok (.ireturn, 1)) (hq : Q (some (.int v)) h) : J G own cc nL ini d Q ac sc h pc lo [.int v] := by
  intro p l e R s m args below meth c Z hM hK H locs cells slots ls hW hL hc hs hl
  exact hK (some (.int v)) h H locs cells slots pc ls hq hd hW hL (by omega) (by omega)
theorem j_lret {v : Int64} (hd : decode cc pc = .ok (.lreturn, 1)) (hq : Q (some (.long v)) h) : J G own cc nL ini d Q ac sc h pc lo [.long v] := by
  intro p l e R s m args below meth c Z hM hK H locs cells slots ls hW hL hc hs hl
  exact hK (some (.long v)) h H locs cells slots pc ls hq hd hW hL (by omega) (by omega)
theorem j_vret (hd : decode cc pc = .ok (.return_, 1)) (hq : Q none h) : J G own cc nL ini d Q ac sc h pc lo [] := by
  intro p l e R s m args below meth c Z hM hK H locs cells slots ls hW hL hc hs hl
  exact hK none h H locs cells slots pc ls hq hd hW hL (by omega) (by omega)
/-! constants -/
theorem j_iconst {n : Int} {v : Int32} (hd : decode cc pc = .ok (.iconst n, 1)) (hv : Int32.ofInt n = v) (k : J G own cc nL ini d Q ac sc h (pc + 1) lo (.int v :: st)) : J G own cc nL ini d Q ac sc h pc lo st := J.go (fun p l e R s m args below meth c Z H locs cells slots ls hM w => lv_iconst hM.1 hM.2.1 hd hv w) k
theorem j_bipush {n : Int} {v : Int32} (hd : decode cc pc = .ok (.bipush n, 2)) (hv : (Int8.ofInt n).toInt32 = v) (k : J G own cc nL ini d Q ac sc h (pc + 2) lo (.int v :: st)) : J G own cc nL ini d Q ac sc h pc lo st := J.go (fun p l e R s m args below meth c Z H locs cells slots ls hM w => lv_bipush hM.1 hM.2.1 hd hv w) k
theorem j_sipush {n : Int} {v : Int32} (hd : decode cc pc = .ok (.sipush n, 3)) (hv : (Int16.ofInt n).toInt32 = v) (k : J G own cc nL ini d Q ac sc h (pc + 3) lo (.int v :: st)) : J G own cc nL ini d Q ac sc h pc lo st := J.go (fun p l e R s m args below meth c Z H locs cells slots ls hM w => lv_sipush hM.1 hM.2.1 hd hv w) k
theorem j_lconst {n : Fin 2} {v : Int64} (hd : decode cc pc = .ok (.lconst n, 1)) (hv : Int64.ofNat (n : Nat) = v) (k : J G own cc nL ini d Q ac sc h (pc + 1) lo (.long v :: st)) : J G own cc nL ini d Q ac sc h pc lo st := J.go (fun p l e R s m args below meth c Z H locs cells slots ls hM w => lv_lconst hM.1 hM.2.1 hd hv w) k
theorem j_ldc {index : Nat} {v : Int32} (hd : decode cc pc = .ok (.ldc index, 2)) (hw : Cond.constant own index v ∈ jTs) (k : J G own cc nL ini d Q ac sc h (pc + 2) lo (.int v :: st)) : J G own cc nL ini d Q ac sc h pc lo st := J.go (fun p l e R s m args below meth c Z H locs cells slots ls hM w => lv_ldc hM.1 hM.2.1 hM.2.2.2.1 (hM.2.2.2.2.1 _ hw) hd w) k
theorem j_ldcw {index : Nat} {v : Int32} (hd : decode cc pc = .ok (.ldc_w index, 3)) (hw : Cond.constant own index v ∈ jTs) (k : J G own cc nL ini d Q ac sc h (pc + 3) lo (.int v :: st)) : J G own cc nL ini d Q ac sc h pc lo st := J.go (fun p l e R s m args below meth c Z H locs cells slots ls hM w => lv_ldcw hM.1 hM.2.1 hM.2.2.2.1 (hM.2.2.2.2.1 _ hw) hd w) k
theorem j_ldc2 {index : Nat} {v : Int64} (hd : decode cc pc = .ok (.ldc2_w index, 3)) (hw : Cond.constantLong own index v ∈ jTs) (k : J G own cc nL ini d Q ac sc h (pc + 3) lo (.long v :: st)) : J G own cc nL ini d Q ac sc h pc lo st := J.go (fun p l e R s m args below meth c Z H locs cells slots ls hM w => lv_ldc2 hM.1 hM.2.1 hM.2.2.2.1 (hM.2.2.2.2.1 _ hw) hd w) k
theorem j_iadd {x y : Int32} (hd : decode cc pc = .ok (.iadd, 1)) (k : J G own cc nL ini d Q ac sc h (pc + 1) lo (.int (x + y) :: st)) : J G own cc nL ini d Q ac sc h pc lo (.int y :: .int x :: st) := J.go (fun p l e R s m args below meth c Z H locs cells slots ls hM w => lv_iadd hM.1 hM.2.1 hd w) k
theorem j_isub {x y : Int32} (hd : decode cc pc = .ok (.isub, 1)) (k : J G own cc nL ini d Q ac sc h (pc + 1) lo (.int (x - y) :: st)) : J G own cc nL ini d Q ac sc h pc lo (.int y :: .int x :: st) := J.go (fun p l e R s m args below meth c Z H locs cells slots ls hM w => lv_isub hM.1 hM.2.1 hd w) k
theorem j_imul {x y : Int32} (hd : decode cc pc = .ok (.imul, 1)) (k : J G own cc nL ini d Q ac sc h (pc + 1) lo (.int (x * y) :: st)) : J G own cc nL ini d Q ac sc h pc lo (.int y :: .int x :: st) := J.go (fun p l e R s m args below meth c Z H locs cells slots ls hM w => lv_imul hM.1 hM.2.1 hd w) k
theorem j_iand {x y : Int32} (hd : decode cc pc = .ok (.iand, 1)) (k : J G own cc nL ini d Q ac sc h (pc + 1) lo (.int (x &&& y) :: st)) : J G own cc nL ini d Q ac sc h pc lo (.int y :: .int x :: st) := J.go (fun p l e R s m args below meth c Z H locs cells slots ls hM w => lv_iand hM.1 hM.2.1 hd w) k
theorem j_ior {x y : Int32} (hd : decode cc pc = .ok (.ior, 1)) (k : J G own cc nL ini d Q ac sc h (pc + 1) lo (.int (x ||| y) :: st)) : J G own cc nL ini d Q ac sc h pc lo (.int y :: .int x :: st) := J.go (fun p l e R s m args below meth c Z H locs cells slots ls hM w => lv_ior hM.1 hM.2.1 hd w) k
theorem j_ixor {x y : Int32} (hd : decode cc pc = .ok (.ixor, 1)) (k : J G own cc nL ini d Q ac sc h (pc + 1) lo (.int (x ^^^ y) :: st)) : J G own cc nL ini d Q ac sc h pc lo (.int y :: .int x :: st) := J.go (fun p l e R s m args below meth c Z H locs cells slots ls hM w => lv_ixor hM.1 hM.2.1 hd w) k
theorem j_ishl {x y : Int32} (hd : decode cc pc = .ok (.ishl, 1)) (k : J G own cc nL ini d Q ac sc h (pc + 1) lo (.int (x <<< (y &&& 31)) :: st)) : J G own cc nL ini d Q ac sc h pc lo (.int y :: .int x :: st) := J.go (fun p l e R s m args below meth c Z H locs cells slots ls hM w => lv_ishl hM.1 hM.2.1 hd w) k
theorem j_ishr {x y : Int32} (hd : decode cc pc = .ok (.ishr, 1)) (k : J G own cc nL ini d Q ac sc h (pc + 1) lo (.int (x >>> (y &&& 31)) :: st)) : J G own cc nL ini d Q ac sc h pc lo (.int y :: .int x :: st) := J.go (fun p l e R s m args below meth c Z H locs cells slots ls hM w => lv_ishr hM.1 hM.2.1 hd w) k
theorem j_idiv {x y : Int32} (hd : decode cc pc = .ok (.idiv, 1)) (hne : ¬ y = 0) (k : J G own cc nL ini d Q ac sc h (pc + 1) lo (.int (x / y) :: st)) : J G own cc nL ini d Q ac sc h pc lo (.int y :: .int x :: st) := J.go (fun p l e R s m args below meth c Z H locs cells slots ls hM w => lv_idiv hM.1 hM.2.1 hd hne w) k
theorem j_irem {x y : Int32} (hd : decode cc pc = .ok (.irem, 1)) (hne : ¬ y = 0) (k : J G own cc nL ini d Q ac sc h (pc + 1) lo (.int (x - x / y * y) :: st)) : J G own cc nL ini d Q ac sc h pc lo (.int y :: .int x :: st) := J.go (fun p l e R s m args below meth c Z H locs cells slots ls hM w => lv_irem hM.1 hM.2.1 hd hne w) k
theorem j_iushr {x y : Int32} (hd : decode cc pc = .ok (.iushr, 1)) (k : J G own cc nL ini d Q ac sc h (pc + 1) lo (.int ((x.toUInt32 >>> (y.toUInt32 &&& Int32.toUInt32 31)).toInt32) :: st)) : J G own cc nL ini d Q ac sc h pc lo (.int y :: .int x :: st) := J.go (fun p l e R s m args below meth c Z H locs cells slots ls hM w => lv_iushr hM.1 hM.2.1 hd rfl w) k
theorem j_ladd {x y : Int64} (hd : decode cc pc = .ok (.ladd, 1)) (k : J G own cc nL ini d Q ac sc h (pc + 1) lo (.long (x + y) :: st)) : J G own cc nL ini d Q ac sc h pc lo (.long y :: .long x :: st) := J.go (fun p l e R s m args below meth c Z H locs cells slots ls hM w => lv_ladd hM.1 hM.2.1 hd w) k
theorem j_lmul {x y : Int64} (hd : decode cc pc = .ok (.lmul, 1)) (k : J G own cc nL ini d Q ac sc h (pc + 1) lo (.long (x * y) :: st)) : J G own cc nL ini d Q ac sc h pc lo (.long y :: .long x :: st) := J.go (fun p l e R s m args below meth c Z H locs cells slots ls hM w => lv_lmul hM.1 hM.2.1 hd w) k
theorem j_lor {x y : Int64} (hd : decode cc pc = .ok (.lor, 1)) (k : J G own cc nL ini d Q ac sc h (pc + 1) lo (.long (x ||| y) :: st)) : J G own cc nL ini d Q ac sc h pc lo (.long y :: .long x :: st) := J.go (fun p l e R s m args below meth c Z H locs cells slots ls hM w => lv_lor hM.1 hM.2.1 hd w) k
theorem j_lsub {x y : Int64} (hd : decode cc pc = .ok (.lsub, 1)) (k : J G own cc nL ini d Q ac sc h (pc + 1) lo (.long (x - y) :: st)) : J G own cc nL ini d Q ac sc h pc lo (.long y :: .long x :: st) := J.go (fun p l e R s m args below meth c Z H locs cells slots ls hM w => lv_lsub hM.1 hM.2.1 hd w) k
theorem j_ldiv {x y : Int64} (hd : decode cc pc = .ok (.ldiv, 1)) (hne : ¬ y = 0) (k : J G own cc nL ini d Q ac sc h (pc + 1) lo (.long (x / y) :: st)) : J G own cc nL ini d Q ac sc h pc lo (.long y :: .long x :: st) := J.go (fun p l e R s m args below meth c Z H locs cells slots ls hM w => lv_ldiv hM.1 hM.2.1 hd hne w) k
theorem j_lrem {x y : Int64} (hd : decode cc pc = .ok (.lrem, 1)) (hne : ¬ y = 0) (k : J G own cc nL ini d Q ac sc h (pc + 1) lo (.long (x - x / y * y) :: st)) : J G own cc nL ini d Q ac sc h pc lo (.long y :: .long x :: st) := J.go (fun p l e R s m args below meth c Z H locs cells slots ls hM w => lv_lrem hM.1 hM.2.1 hd hne w) k
theorem j_lushr {x : Int64} {y : Int32} (hd : decode cc pc = .ok (.lushr, 1)) (k : J G own cc nL ini d Q ac sc h (pc + 1) lo (.long ((x.toUInt64 >>> (y.toInt64.toUInt64 &&& Int64.toUInt64 63)).toInt64) :: st)) : J G own cc nL ini d Q ac sc h pc lo (.int y :: .long x :: st) := J.go (fun p l e R s m args below meth c Z H locs cells slots ls hM w => lv_lushr hM.1 hM.2.1 hd rfl w) k
theorem j_lshl {x : Int64} {y : Int32} (hd : decode cc pc = .ok (.lshl, 1)) (k : J G own cc nL ini d Q ac sc h (pc + 1) lo (.long (x <<< (y.toInt64 &&& 63)) :: st)) : J G own cc nL ini d Q ac sc h pc lo (.int y :: .long x :: st) := J.go (fun p l e R s m args below meth c Z H locs cells slots ls hM w => lv_lshl hM.1 hM.2.1 hd rfl w) k
theorem j_lcmp {x y : Int64} (hd : decode cc pc = .ok (.lcmp, 1)) (k : J G own cc nL ini d Q ac sc h (pc + 1) lo (.int (lg_cmp x y) :: st)) : J G own cc nL ini d Q ac sc h pc lo (.long y :: .long x :: st) := J.go (fun p l e R s m args below meth c Z H locs cells slots ls hM w => W.lcmp hM.1 hM.2.1 hd w) k
theorem j_i2l {x : Int32} (hd : decode cc pc = .ok (.i2l, 1)) (k : J G own cc nL ini d Q ac sc h (pc + 1) lo (.long (x.toInt64) :: st)) : J G own cc nL ini d Q ac sc h pc lo (.int x :: st) := J.go (fun p l e R s m args below meth c Z H locs cells slots ls hM w => lv_i2l hM.1 hM.2.1 hd rfl w) k
theorem j_l2i {x : Int64} (hd : decode cc pc = .ok (.l2i, 1)) (k : J G own cc nL ini d Q ac sc h (pc + 1) lo (.int (x.toInt32) :: st)) : J G own cc nL ini d Q ac sc h pc lo (.long x :: st) := J.go (fun p l e R s m args below meth c Z H locs cells slots ls hM w => lv_l2i hM.1 hM.2.1 hd rfl w) k
theorem j_i2c {x : Int32} (hd : decode cc pc = .ok (.i2c, 1)) (k : J G own cc nL ini d Q ac sc h (pc + 1) lo (.int ((x.toUInt32 % 65536).toInt32) :: st)) : J G own cc nL ini d Q ac sc h pc lo (.int x :: st) := J.go (fun p l e R s m args below meth c Z H locs cells slots ls hM w => lv_i2c hM.1 hM.2.1 hd rfl w) k
theorem j_dup {v : Value} (hd : decode cc pc = .ok (.dup, 1)) (hv : v.category = 1) (k : J G own cc nL ini d Q ac sc h (pc + 1) lo (v :: v :: st)) : J G own cc nL ini d Q ac sc h pc lo (v :: st) := J.go (fun p l e R s m args below meth c Z H locs cells slots ls hM w => lv_dup hM.1 hM.2.1 hd (by rw [jtr_cat]; exact hv) w) k
theorem j_dup2 {v u : Value} (hd : decode cc pc = .ok (.dup2, 1)) (hv : v.category = 1) (hu : u.category = 1) (k : J G own cc nL ini d Q ac sc h (pc + 1) lo (v :: u :: v :: u :: st)) : J G own cc nL ini d Q ac sc h pc lo (v :: u :: st) := J.go (fun p l e R s m args below meth c Z H locs cells slots ls hM w => lv_dup2_11 hM.1 hM.2.1 hd (by rw [jtr_cat]; exact hv) (by rw [jtr_cat]; exact hu) w) k
theorem j_pop {v : Value} (hd : decode cc pc = .ok (.pop, 1)) (hv : v.category = 1) (k : J G own cc nL ini d Q ac sc h (pc + 1) lo st) : J G own cc nL ini d Q ac sc h pc lo (v :: st) := J.go (fun p l e R s m args below meth c Z H locs cells slots ls hM w => lv_pop hM.1 hM.2.1 hd (by rw [jtr_cat]; exact hv) w) k
theorem j_goto {off : Int} {tgt : Nat} (hd : decode cc pc = .ok (.goto off, 3)) (ht : (pc : Int) + off = (tgt : Int)) (k : J G own cc nL ini d Q ac sc h tgt lo st) : J G own cc nL ini d Q ac sc h pc lo st := J.go (fun p l e R s m args below meth c Z H locs cells slots ls hM w => lv_goto hM.1 hM.2.1 hd ht w) k
theorem j_if_eq {x : Int32} {off : Int} {tgt : Nat} (hd : decode cc pc = .ok (.ifCond .eq off, 3)) (ht : (pc : Int) + off = (tgt : Int)) (kt : x = 0 → J G own cc nL ini d Q ac sc h tgt lo st) (kf : ¬ x = 0 → J G own cc nL ini d Q ac sc h (pc + 3) lo st) : J G own cc nL ini d Q ac sc h pc lo (.int x :: st) := by
  intro p l e R s m args below meth c Z hM hK H locs cells slots ls hW hL hc hs hl
  exact lv_if_eq hM.1 hM.2.1 hd ht (fun z => kt z p l e R s m args below meth c Z hM hK H locs cells slots ls hW hL hc hs hl) (fun z => kf z p l e R s m args below meth c Z hM hK H locs cells slots ls hW hL hc hs hl)
theorem j_icmp_eq {x y : Int32} {off : Int} {tgt : Nat} (hd : decode cc pc = .ok (.if_icmp .eq off, 3)) (ht : (pc : Int) + off = (tgt : Int)) (kt : x = y → J G own cc nL ini d Q ac sc h tgt lo st) (kf : ¬ x = y → J G own cc nL ini d Q ac sc h (pc + 3) lo st) : J G own cc nL ini d Q ac sc h pc lo (.int y :: .int x :: st) := by
  intro p l e R s m args below meth c Z hM hK H locs cells slots ls hW hL hc hs hl
  exact lv_icmp_eq hM.1 hM.2.1 hd ht (fun z => kt z p l e R s m args below meth c Z hM hK H locs cells slots ls hW hL hc hs hl) (fun z => kf z p l e R s m args below meth c Z hM hK H locs cells slots ls hW hL hc hs hl)
theorem j_if_ne {x : Int32} {off : Int} {tgt : Nat} (hd : decode cc pc = .ok (.ifCond .ne off, 3)) (ht : (pc : Int) + off = (tgt : Int)) (kt : ¬ x = 0 → J G own cc nL ini d Q ac sc h tgt lo st) (kf : x = 0 → J G own cc nL ini d Q ac sc h (pc + 3) lo st) : J G own cc nL ini d Q ac sc h pc lo (.int x :: st) := by
  intro p l e R s m args below meth c Z hM hK H locs cells slots ls hW hL hc hs hl
  exact lv_if_ne hM.1 hM.2.1 hd ht (fun z => kt z p l e R s m args below meth c Z hM hK H locs cells slots ls hW hL hc hs hl) (fun z => kf z p l e R s m args below meth c Z hM hK H locs cells slots ls hW hL hc hs hl)
theorem j_icmp_ne {x y : Int32} {off : Int} {tgt : Nat} (hd : decode cc pc = .ok (.if_icmp .ne off, 3)) (ht : (pc : Int) + off = (tgt : Int)) (kt : ¬ x = y → J G own cc nL ini d Q ac sc h tgt lo st) (kf : x = y → J G own cc nL ini d Q ac sc h (pc + 3) lo st) : J G own cc nL ini d Q ac sc h pc lo (.int y :: .int x :: st) := by
  intro p l e R s m args below meth c Z hM hK H locs cells slots ls hW hL hc hs hl
  exact lv_icmp_ne hM.1 hM.2.1 hd ht (fun z => kt z p l e R s m args below meth c Z hM hK H locs cells slots ls hW hL hc hs hl) (fun z => kf z p l e R s m args below meth c Z hM hK H locs cells slots ls hW hL hc hs hl)
theorem j_if_lt {x : Int32} {off : Int} {tgt : Nat} (hd : decode cc pc = .ok (.ifCond .lt off, 3)) (ht : (pc : Int) + off = (tgt : Int)) (kt : x < 0 → J G own cc nL ini d Q ac sc h tgt lo st) (kf : ¬ x < 0 → J G own cc nL ini d Q ac sc h (pc + 3) lo st) : J G own cc nL ini d Q ac sc h pc lo (.int x :: st) := by
  intro p l e R s m args below meth c Z hM hK H locs cells slots ls hW hL hc hs hl
  exact lv_if_lt hM.1 hM.2.1 hd ht (fun z => kt z p l e R s m args below meth c Z hM hK H locs cells slots ls hW hL hc hs hl) (fun z => kf z p l e R s m args below meth c Z hM hK H locs cells slots ls hW hL hc hs hl)
theorem j_icmp_lt {x y : Int32} {off : Int} {tgt : Nat} (hd : decode cc pc = .ok (.if_icmp .lt off, 3)) (ht : (pc : Int) + off = (tgt : Int)) (kt : x < y → J G own cc nL ini d Q ac sc h tgt lo st) (kf : ¬ x < y → J G own cc nL ini d Q ac sc h (pc + 3) lo st) : J G own cc nL ini d Q ac sc h pc lo (.int y :: .int x :: st) := by
  intro p l e R s m args below meth c Z hM hK H locs cells slots ls hW hL hc hs hl
  exact lv_icmp_lt hM.1 hM.2.1 hd ht (fun z => kt z p l e R s m args below meth c Z hM hK H locs cells slots ls hW hL hc hs hl) (fun z => kf z p l e R s m args below meth c Z hM hK H locs cells slots ls hW hL hc hs hl)
theorem j_if_ge {x : Int32} {off : Int} {tgt : Nat} (hd : decode cc pc = .ok (.ifCond .ge off, 3)) (ht : (pc : Int) + off = (tgt : Int)) (kt : 0 ≤ x → J G own cc nL ini d Q ac sc h tgt lo st) (kf : ¬ 0 ≤ x → J G own cc nL ini d Q ac sc h (pc + 3) lo st) : J G own cc nL ini d Q ac sc h pc lo (.int x :: st) := by
  intro p l e R s m args below meth c Z hM hK H locs cells slots ls hW hL hc hs hl
  exact lv_if_ge hM.1 hM.2.1 hd ht (fun z => kt z p l e R s m args below meth c Z hM hK H locs cells slots ls hW hL hc hs hl) (fun z => kf z p l e R s m args below meth c Z hM hK H locs cells slots ls hW hL hc hs hl)
theorem j_icmp_ge {x y : Int32} {off : Int} {tgt : Nat} (hd : decode cc pc = .ok (.if_icmp .ge off, 3)) (ht : (pc : Int) + off = (tgt : Int)) (kt : y ≤ x → J G own cc nL ini d Q ac sc h tgt lo st) (kf : ¬ y ≤ x → J G own cc nL ini d Q ac sc h (pc + 3) lo st) : J G own cc nL ini d Q ac sc h pc lo (.int y :: .int x :: st) := by
  intro p l e R s m args below meth c Z hM hK H locs cells slots ls hW hL hc hs hl
  exact lv_icmp_ge hM.1 hM.2.1 hd ht (fun z => kt z p l e R s m args below meth c Z hM hK H locs cells slots ls hW hL hc hs hl) (fun z => kf z p l e R s m args below meth c Z hM hK H locs cells slots ls hW hL hc hs hl)
theorem j_if_gt {x : Int32} {off : Int} {tgt : Nat} (hd : decode cc pc = .ok (.ifCond .gt off, 3)) (ht : (pc : Int) + off = (tgt : Int)) (kt : 0 < x → J G own cc nL ini d Q ac sc h tgt lo st) (kf : ¬ 0 < x → J G own cc nL ini d Q ac sc h (pc + 3) lo st) : J G own cc nL ini d Q ac sc h pc lo (.int x :: st) := by
  intro p l e R s m args below meth c Z hM hK H locs cells slots ls hW hL hc hs hl
  exact lv_if_gt hM.1 hM.2.1 hd ht (fun z => kt z p l e R s m args below meth c Z hM hK H locs cells slots ls hW hL hc hs hl) (fun z => kf z p l e R s m args below meth c Z hM hK H locs cells slots ls hW hL hc hs hl)
theorem j_icmp_gt {x y : Int32} {off : Int} {tgt : Nat} (hd : decode cc pc = .ok (.if_icmp .gt off, 3)) (ht : (pc : Int) + off = (tgt : Int)) (kt : y < x → J G own cc nL ini d Q ac sc h tgt lo st) (kf : ¬ y < x → J G own cc nL ini d Q ac sc h (pc + 3) lo st) : J G own cc nL ini d Q ac sc h pc lo (.int y :: .int x :: st) := by
  intro p l e R s m args below meth c Z hM hK H locs cells slots ls hW hL hc hs hl
  exact lv_icmp_gt hM.1 hM.2.1 hd ht (fun z => kt z p l e R s m args below meth c Z hM hK H locs cells slots ls hW hL hc hs hl) (fun z => kf z p l e R s m args below meth c Z hM hK H locs cells slots ls hW hL hc hs hl)
theorem j_if_le {x : Int32} {off : Int} {tgt : Nat} (hd : decode cc pc = .ok (.ifCond .le off, 3)) (ht : (pc : Int) + off = (tgt : Int)) (kt : x ≤ 0 → J G own cc nL ini d Q ac sc h tgt lo st) (kf : ¬ x ≤ 0 → J G own cc nL ini d Q ac sc h (pc + 3) lo st) : J G own cc nL ini d Q ac sc h pc lo (.int x :: st) := by
  intro p l e R s m args below meth c Z hM hK H locs cells slots ls hW hL hc hs hl
  exact lv_if_le hM.1 hM.2.1 hd ht (fun z => kt z p l e R s m args below meth c Z hM hK H locs cells slots ls hW hL hc hs hl) (fun z => kf z p l e R s m args below meth c Z hM hK H locs cells slots ls hW hL hc hs hl)
theorem j_icmp_le {x y : Int32} {off : Int} {tgt : Nat} (hd : decode cc pc = .ok (.if_icmp .le off, 3)) (ht : (pc : Int) + off = (tgt : Int)) (kt : x ≤ y → J G own cc nL ini d Q ac sc h tgt lo st) (kf : ¬ x ≤ y → J G own cc nL ini d Q ac sc h (pc + 3) lo st) : J G own cc nL ini d Q ac sc h pc lo (.int y :: .int x :: st) := by
  intro p l e R s m args below meth c Z hM hK H locs cells slots ls hW hL hc hs hl
  exact lv_icmp_le hM.1 hM.2.1 hd ht (fun z => kt z p l e R s m args below meth c Z hM hK H locs cells slots ls hW hL hc hs hl) (fun z => kf z p l e R s m args below meth c Z hM hK H locs cells slots ls hW hL hc hs hl)
theorem j_tableIn {dflt low hi : Int} {offs : Array Int} {len : Nat} {x : Int32} {off : Int} {tgt : Nat} (hd : decode cc pc = .ok (.tableswitch dflt low hi offs, len)) (h1 : ¬ x.toInt < low) (h2 : ¬ hi < x.toInt) (ho : offs[(x.toInt - low).toNat]? = some off) (ht : (pc : Int) + off = (tgt : Int)) (k : J G own cc nL ini d Q ac sc h tgt lo st) : J G own cc nL ini d Q ac sc h pc lo (.int x :: st) := J.go (fun p l e R s m args below meth c Z H locs cells slots ls hM w => lv_tableIn hM.1 hM.2.1 hd h1 h2 ho ht w) k
theorem j_tableOut {dflt low hi : Int} {offs : Array Int} {len : Nat} {x : Int32} {tgt : Nat} (hd : decode cc pc = .ok (.tableswitch dflt low hi offs, len)) (h1 : x.toInt < low ∨ hi < x.toInt) (ht : (pc : Int) + dflt = (tgt : Int)) (k : J G own cc nL ini d Q ac sc h tgt lo st) : J G own cc nL ini d Q ac sc h pc lo (.int x :: st) := J.go (fun p l e R s m args below meth c Z H locs cells slots ls hM w => lv_tableOut hM.1 hM.2.1 hd h1 ht w) k
theorem j_iload_n {i : Fin 4} {x : Int32} (hd : decode cc pc = .ok (.iload_n i, 1)) (hl : lo[(i : Nat)]? = some (some (.int x))) (k : J G own cc nL ini d Q ac sc h (pc + 1) lo (.int x :: st)) : J G own cc nL ini d Q ac sc h pc lo st := by
  intro p l e R s m args below meth c Z hM hK H locs cells slots ls hW hL hc hs hls
  exact lv_iload_n hM.1 hM.2.1 hd rfl (hls.2.2.2 _ _ hl) (k p l e R s m args below meth c Z hM hK H locs cells slots ls hW hL hc hs hls)
theorem j_iload {i : Nat} {x : Int32} (hd : decode cc pc = .ok (.iload i, 2)) (hl : lo[i]? = some (some (.int x))) (k : J G own cc nL ini d Q ac sc h (pc + 2) lo (.int x :: st)) : J G own cc nL ini d Q ac sc h pc lo st := by
  intro p l e R s m args below meth c Z hM hK H locs cells slots ls hW hL hc hs hls
  exact lv_iload hM.1 hM.2.1 hd (hls.2.2.2 _ _ hl) (k p l e R s m args below meth c Z hM hK H locs cells slots ls hW hL hc hs hls)
theorem j_lload_n {i : Fin 4} {x : Int64} (hd : decode cc pc = .ok (.lload_n i, 1)) (hl : lo[(i : Nat)]? = some (some (.long x))) (k : J G own cc nL ini d Q ac sc h (pc + 1) lo (.long x :: st)) : J G own cc nL ini d Q ac sc h pc lo st := by
  intro p l e R s m args below meth c Z hM hK H locs cells slots ls hW hL hc hs hls
  exact lv_lload_n hM.1 hM.2.1 hd rfl (hls.2.2.2 _ _ hl) (k p l e R s m args below meth c Z hM hK H locs cells slots ls hW hL hc hs hls)
theorem j_lload {i : Nat} {x : Int64} (hd : decode cc pc = .ok (.lload i, 2)) (hl : lo[i]? = some (some (.long x))) (k : J G own cc nL ini d Q ac sc h (pc + 2) lo (.long x :: st)) : J G own cc nL ini d Q ac sc h pc lo st := by
  intro p l e R s m args below meth c Z hM hK H locs cells slots ls hW hL hc hs hls
  exact lv_lload hM.1 hM.2.1 hd (hls.2.2.2 _ _ hl) (k p l e R s m args below meth c Z hM hK H locs cells slots ls hW hL hc hs hls)
theorem j_aload_n {i : Fin 4} {a : Nat} (hd : decode cc pc = .ok (.aload_n i, 1)) (hl : lo[(i : Nat)]? = some (some (.ref a))) (k : J G own cc nL ini d Q ac sc h (pc + 1) lo (.ref a :: st)) : J G own cc nL ini d Q ac sc h pc lo st := by
  intro p l e R s m args below meth c Z hM hK H locs cells slots ls hW hL hc hs hls
  exact lv_aload_n hM.1 hM.2.1 hd rfl (hls.2.2.2 _ _ hl) (k p l e R s m args below meth c Z hM hK H locs cells slots ls hW hL hc hs hls)
theorem j_aload {i : Nat} {a : Nat} (hd : decode cc pc = .ok (.aload i, 2)) (hl : lo[i]? = some (some (.ref a))) (k : J G own cc nL ini d Q ac sc h (pc + 2) lo (.ref a :: st)) : J G own cc nL ini d Q ac sc h pc lo st := by
  intro p l e R s m args below meth c Z hM hK H locs cells slots ls hW hL hc hs hls
  exact lv_aload hM.1 hM.2.1 hd (hls.2.2.2 _ _ hl) (k p l e R s m args below meth c Z hM hK H locs cells slots ls hW hL hc hs hls)
theorem j_aload_nF {i : Fin 4} {u : UInt32} (hd : decode cc pc = .ok (.aload_n i, 1)) (hl : lo[(i : Nat)]? = some (some (.float u))) (k : J G own cc nL ini d Q ac sc h (pc + 1) lo (.float u :: st)) : J G own cc nL ini d Q ac sc h pc lo st := by
  intro p l e R s m args below meth c Z hM hK H locs cells slots ls hW hL hc hs hls
  exact lv_aload_n hM.1 hM.2.1 hd rfl (hls.2.2.2 _ _ hl) (k p l e R s m args below meth c Z hM hK H locs cells slots ls hW hL hc hs hls)
theorem jg_istore_n {i : Fin 4} {x : Int32} {lo' : List (Option Value)} (hd : decode cc pc = .ok (.istore_n i, 1)) (hi : (i : Nat) < lo.length) (hp : jput1 lo lo' i (.int x)) (k : J G own cc nL ini d Q ac sc h (pc + 1) lo' st) : J G own cc nL ini d Q ac sc h pc lo (.int x :: st) := by
  intro p l e R s m args below meth c Z hM hK H locs cells slots ls hW hL hc hs hls
  exact lv_istore_n hM.1 hM.2.1 hd rfl hls.has (Nat.lt_of_lt_of_le hi hls.1) rfl (fun ls' h' => k p l e R s m args below meth c Z hM hK H locs cells slots ls' hW hL hc hs (jLH.put1 hls.1 hp h'))
theorem jg_istore {i : Nat} {x : Int32} {lo' : List (Option Value)} (hd : decode cc pc = .ok (.istore i, 2)) (hi : i < lo.length) (hp : jput1 lo lo' i (.int x)) (k : J G own cc nL ini d Q ac sc h (pc + 2) lo' st) : J G own cc nL ini d Q ac sc h pc lo (.int x :: st) := by
  intro p l e R s m args below meth c Z hM hK H locs cells slots ls hW hL hc hs hls
  exact lv_istore hM.1 hM.2.1 hd hls.has (Nat.lt_of_lt_of_le hi hls.1) rfl (fun ls' h' => k p l e R s m args below meth c Z hM hK H locs cells slots ls' hW hL hc hs (jLH.put1 hls.1 hp h'))
theorem jg_lstore_n {i : Fin 4} {x : Int64} {lo' : List (Option Value)} (hd : decode cc pc = .ok (.lstore_n i, 1)) (hi : (i : Nat) + 1 < lo.length) (hp : jput2 lo lo' i (.long x)) (k : J G own cc nL ini d Q ac sc h (pc + 1) lo' st) : J G own cc nL ini d Q ac sc h pc lo (.long x :: st) := by
  intro p l e R s m args below meth c Z hM hK H locs cells slots ls hW hL hc hs hls
  exact lv_lstore_n hM.1 hM.2.1 hd rfl hls.has (Nat.lt_of_lt_of_le hi hls.1) rfl (fun ls' h' => k p l e R s m args below meth c Z hM hK H locs cells slots ls' hW hL hc hs (jLH.put2 hls.1 hp h'))
theorem jg_lstore {i : Nat} {x : Int64} {lo' : List (Option Value)} (hd : decode cc pc = .ok (.lstore i, 2)) (hi : i + 1 < lo.length) (hp : jput2 lo lo' i (.long x)) (k : J G own cc nL ini d Q ac sc h (pc + 2) lo' st) : J G own cc nL ini d Q ac sc h pc lo (.long x :: st) := by
  intro p l e R s m args below meth c Z hM hK H locs cells slots ls hW hL hc hs hls
  exact lv_lstore hM.1 hM.2.1 hd hls.has (Nat.lt_of_lt_of_le hi hls.1) rfl (fun ls' h' => k p l e R s m args below meth c Z hM hK H locs cells slots ls' hW hL hc hs (jLH.put2 hls.1 hp h'))
theorem jg_astore_n {i : Fin 4} {a : Nat} {lo' : List (Option Value)} (hd : decode cc pc = .ok (.astore_n i, 1)) (hi : (i : Nat) < lo.length) (hp : jput1 lo lo' i (.ref a)) (k : J G own cc nL ini d Q ac sc h (pc + 1) lo' st) : J G own cc nL ini d Q ac sc h pc lo (.ref a :: st) := by
  intro p l e R s m args below meth c Z hM hK H locs cells slots ls hW hL hc hs hls
  exact lv_astore_n hM.1 hM.2.1 hd rfl hls.has (Nat.lt_of_lt_of_le hi hls.1) rfl (fun ls' h' => k p l e R s m args below meth c Z hM hK H locs cells slots ls' hW hL hc hs (jLH.put1 (v := .ref a) hls.1 hp h'))
theorem jg_iinc {i : Nat} {n : Int} {x v : Int32} {lo' : List (Option Value)} (hd : decode cc pc = .ok (.iinc i n, 3)) (hl : lo[i]? = some (some (.int x))) (hv : x + Int32.ofInt n = v) (hp : jput1 lo lo' i (.int v)) (k : J G own cc nL ini d Q ac sc h (pc + 3) lo' st) : J G own cc nL ini d Q ac sc h pc lo st := by
  intro p l e R s m args below meth c Z hM hK H locs cells slots ls hW hL hc hs hls
  have hm : (i, jtr G (.int x)) ∈ jlist G 0 lo := (jlist_mem lo 0 _).mpr ⟨i, _, hl, by simp⟩
  obtain ⟨q, hq⟩ := List.getElem?_of_mem hm
  have hi : i < lo.length := (List.getElem?_eq_some_iff.mp hl).1
  exact lv_iinc hM.1 hM.2.1 hd hls.has hq hv (Nat.lt_of_lt_of_le hi hls.1) rfl (fun ls' h' => k p l e R s m args below meth c Z hM hK H locs cells slots ls' hW hL hc hs (jLH.put1 (v := .int v) hls.1 hp h'))
theorem j_forget {lo' : List (Option Value)} (hp : lo'.length = lo.length ∧ ∀ (j : Nat) (w : Value), lo'[j]? = some (some w) → lo[j]? = some (some w)) (k : J G own cc nL ini d Q ac sc h pc lo' st) : J G own cc nL ini d Q ac sc h pc lo st := by
  intro p l e R s m args below meth c Z hM hK H locs cells slots ls hW hL hc hs hls
  exact k p l e R s m args below meth c Z hM hK H locs cells slots ls hW hL hc hs ⟨by rw [hp.1]; exact hls.1, hls.2.1, hls.2.2.1, fun j w hj => hls.2.2.2 j w (hp.2 j w hj)⟩
end JR
end
section
/-! HEAP RULES -/
def jO (N : Nat) (κ : Nat → jK) (a ci : Nat) : Prop := a < N ∧ κ a = .inl ci
def jA (N : Nat) (κ : Nat → jK) (a : Nat) (ty : FieldType) (n : Nat) : Prop := a < N ∧ κ a = .inr (ty, n) ∧ n < 2 ^ 31
theorem jclamp {i : Int32} {k n : Nat} (hi : i = nI k) (hk : k < n) (hn : n < 2 ^ 31) : i.toNatClampNeg = k ∧ ¬ (i < 0 ∨ n ≤ i.toNatClampNeg) := by
  subst hi
  have e := nI_clamp (n := k) (by omega)
  refine ⟨e, ?_⟩
  rw [e]
  rintro (q | q)
  · exact nI_pos (by omega) q
  · omega
section JW
variable {G : jG} {own : String} {cc : ByteArray} {nL : Nat} {ini : Bool} {d : Nat} {h : jH} {pc : Nat}
variable {p : Program} {l : Launch} {e : Env} {R : Room} {s : State} {m : MethodId} {args : Array Value} {below : List Frame} {meth : Method} {c : Code} {H : Heap} {locs : List Loc} {cells slots : Nat} {Z : State → Prop} {ls : Array Slot} {rest : List Value}
theorem jW_get {a ci j idx : Nat} {fin : Bool} {ty : FieldType} (hM : jM G own cc nL ini d p R s m args meth c) (hW : jWD G s h H) (ho : jO h.1 h.2.1 a ci) (hF : jFL own idx ci j fin ty) (hd : decode cc pc = .ok (.getfield idx, 3))
    (kk : W p l e R s m args below meth c H locs cells slots Z (F0 m (pc + 3) ls (jfv G ci (h.2.2.1 a) (h.2.2.2.1 a) j :: rest))) : W p l e R s m args below meth c H locs cells slots Z (F0 m pc ls (.ref (jB G + a) :: rest)) := by
  obtain ⟨hx, hb, hml, hown, hts, hS, -⟩ := hM
  obtain ⟨C, T, N, hc, hin, hj, hlk, hC, -, -⟩ := hF
  have hcl := hW.2.2 a ho.1
  rw [ho.2] at hcl
  obtain ⟨q, hq, cell, q1, q2, q3, q4⟩ := hcl
  have hq' : q = (C, T, N) := Option.some.inj (hq.symm.trans hc)
  subst hq'
  obtain ⟨hSl, hfc, kC, hkC, hkind⟩ := hS.1.1 ci _ hc
  obtain ⟨cf, kf, fi, f, hi, hsl⟩ := hSl j hj
  refine W.getf hx hb hown (hts _ hlk) hi (u_facts hfc hkC (u_lays hts hin hj) hi).1 q1 (by rw [q3]; exact fun h => by cases h) (v := jfv G ci (h.2.2.1 a) (h.2.2.2.1 a) j) ?_ rfl rfl hd kk
  rw [hsl]
  exact q4 j hj
theorem jloc {a : Nat} {k : Nat} (hL : ∀ q ∈ locs, jB G ≤ q.base) : ∀ q ∈ locs ++ [(⟨jB G + a, k⟩ : Loc)], jB G ≤ q.base := by
  intro q hq
  rcases List.mem_append.mp hq with h | h
  · exact hL q h
  · rw [List.mem_singleton.mp h]; exact Nat.le_add_right _ _
/-- a field is put: any of its values, final or not -/
theorem jW_put {a ci j idx : Nat} {fin : Bool} {ty : FieldType} {v : Value} {h' : jH} (hM : jM G own cc nL ini d p R s m args meth c) (hW : jWD G s h H) (ho : jO h.1 h.2.1 a ci) (hF : jFL own idx ci j fin ty) (hfin : fin = true → ini = true ∧ vwCl[ci]?.map (fun q => q.1) = some own) (hnw : narrow ty v = v) (hft : fits ty v = true) (hL : ∀ q ∈ locs, jB G ≤ q.base)
    (hd : decode cc pc = .ok (.putfield idx, 3)) (hn : h'.1 = h.1) (hk : ∀ k, k ≠ a → h'.2.1 k = h.2.1 k ∧ h'.2.2.1 k = h.2.2.1 k ∧ h'.2.2.2.1 k = h.2.2.2.1 k ∧ h'.2.2.2.2 k = h.2.2.2.2 k) (hka : h'.2.1 a = h.2.1 a)
    (hv : ∀ i, updV (jfv G ci (h.2.2.1 a) (h.2.2.2.1 a)) j v i = jfv G ci (h'.2.2.1 a) (h'.2.2.2.1 a) i)
    (kk : ∀ (H1 : Heap) (locs1 : List Loc), jWD G s h' H1 → (∀ q ∈ locs1, jB G ≤ q.base) → W p l e R s m args below meth c H1 locs1 cells slots Z (F0 m (pc + 3) ls rest)) : W p l e R s m args below meth c H locs cells slots Z (F0 m pc ls (v :: .ref (jB G + a) :: rest)) := by
  obtain ⟨hx, hb, hml, hown, hts, hS, -, -, hin2⟩ := hM
  obtain ⟨C, T, N, hc, hin, hj, hlk, hC, hfe, ty0, hty, hty1, hnm⟩ := hF
  have hcl := hW.2.2 a ho.1
  rw [ho.2] at hcl
  obtain ⟨q, hq, cell, q1, q2, q3, q4⟩ := hcl
  have hq' : q = (C, T, N) := Option.some.inj (hq.symm.trans hc)
  subst hq'
  have hap := va_apart (own := own) hts hin ty0 hty hnm hS.1 hc
  obtain ⟨hSl, hfc, kC, hkC, hkind⟩ := hS.1.1 ci _ hc
  obtain ⟨cf, kf, fi, f, hi, hsl⟩ := hSl j hj
  have hst := (u_facts hfc hkC (u_lays hts hin hj) hi).1
  have hd1 : parseFieldDescriptor (T j).2.2.1 = some ty := by rw [hty j hj, hty1]
  have hlay := hts _ (hin _ (u_in_lay hj))
  unfold u_lay at hlay
  have fin' : ∀ H' : Heap, H'[jB G + a]? = some (cell.setSlot f.slot v) → H'.size = H.size → (∀ q, q ≠ jB G + a → H'[q]? = H[q]?) → W p l e R s m args below meth c H' (locs ++ [⟨jB G + a, f.slot⟩]) cells slots Z (F0 m (pc + 3) ls rest) := by
    intro H' e1 e2 e3
    rw [hsl] at e1 ⊢
    refine kk H' _ (hW.write e2 e3 hn hk ?_) (jloc hL)
    rw [hka, ho.2]
    exact ⟨_, hc, t_OB.to (V := updV (jfv G ci (h.2.2.1 a) (h.2.2.2.1 a)) j v) ⟨_, e1, q2, q3, t_set q4 hap hj v⟩ (fun i _ => hv i)⟩
  cases fin with
  | false =>
    rw [if_neg (by rw [hfe]; decide)] at hlay
    have h6 := u_store hfc hkC hkind hlay hi hd1 hnw hft
    exact W.putK hx hb (f := f) ⟨hown, hts _ hlk, ⟨_, _, _, hi⟩, hst⟩ (by rw [q2]; exact h6) q1 q3 (by rw [hsl]; exact k2_hasslot (q4 j hj)) rfl rfl hd fin'
  | true =>
    rw [if_pos hfe] at hlay
    obtain ⟨f1, f2⟩ := hfin rfl
    have hCo : C = own := by rw [hc] at f2; exact Option.some.inj f2
    have hcf : m.cls = cf := by
      obtain ⟨_, _, c', _, _, _, -, -, hf', -, -, -, hown2, -⟩ := Cond.laysFinal_spec hlay
      have e1 : c' = cf := by have := hi.symm.trans hf'; simp at this; exact this.1.symm
      rw [hC, hCo] at hown2
      rw [← e1]; exact Option.some.inj (hown.symm.trans hown2)
    have h6 := u_fits hfc hkC hkind (Or.inr hlay) hi hd1 hnw hft
    exact W.putFinK hx hb hown (hts _ hlk) hi hst hcf (hin2 f1) (by rw [q2]; exact h6) q1 q3 (by rw [hsl]; exact k2_hasslot (q4 j hj)) rfl rfl hd fin'
end JW
section JR2
variable {G : jG} {own : String} {cc : ByteArray} {nL : Nat} {ini : Bool} {d : Nat} {Q : Option Value → jH → Prop} {ac sc : Nat} {pc : Nat} {lo : List (Option Value)} {st : List Value}
variable {N : Nat} {κ : Nat → jK} {ρ : Nat → Nat → Option Nat} {μ : Nat → Nat → Int32} {ν : Nat → Nat → Int64}
theorem j_geti {a ci j idx : Nat} {fin : Bool} {ty : FieldType} (hd : decode cc pc = .ok (.getfield idx, 3)) (hF : jFL own idx ci j fin ty) (hr : jrf ci j = false) (ho : jO N κ a ci) (k : J G own cc nL ini d Q ac sc (N, κ, ρ, μ, ν) (pc + 3) lo (.int (μ a j) :: st)) : J G own cc nL ini d Q ac sc (N, κ, ρ, μ, ν) pc lo (.ref a :: st) := by
  intro p l e R s m args below meth c Z hM hK H locs cells slots ls hW hL hc hs hl
  refine jW_get hM hW ho hF hd ?_
  have := k p l e R s m args below meth c Z hM hK H locs cells slots ls hW hL hc hs hl
  simp only [jfv, hr]
  exact this
theorem j_getr {a b ci j idx : Nat} {fin : Bool} {ty : FieldType} (hd : decode cc pc = .ok (.getfield idx, 3)) (hF : jFL own idx ci j fin ty) (hr : jrf ci j = true) (ho : jO N κ a ci) (hb : ρ a j = some b) (k : J G own cc nL ini d Q ac sc (N, κ, ρ, μ, ν) (pc + 3) lo (.ref b :: st)) : J G own cc nL ini d Q ac sc (N, κ, ρ, μ, ν) pc lo (.ref a :: st) := by
  intro p l e R s m args below meth c Z hM hK H locs cells slots ls hW hL hc hs hl
  refine jW_get hM hW ho hF hd ?_
  have := k p l e R s m args below meth c Z hM hK H locs cells slots ls hW hL hc hs hl
  simp only [jfv, hr, hb]
  exact this
theorem j_puti {a ci j idx : Nat} {v : Int32} (hd : decode cc pc = .ok (.putfield idx, 3)) (hF : jFL own idx ci j false .int) (hr : jrf ci j = false) (ho : jO N κ a ci) (k : J G own cc nL ini d Q ac sc (N, κ, ρ, jup μ a j v, ν) (pc + 3) lo st) : J G own cc nL ini d Q ac sc (N, κ, ρ, μ, ν) pc lo (.int v :: .ref a :: st) := by
  intro p l e R s m args below meth c Z hM hK H locs cells slots ls hW hL hc hs hl
  refine jW_put (h' := (N, κ, ρ, jup μ a j v, ν)) hM hW ho hF (fun h => by cases h) rfl rfl hL hd rfl (fun k hk => ⟨rfl, rfl, jup_ne hk, rfl⟩) rfl (fun i => ?_) (fun H1 locs1 hW1 hL1 => k p l e R s m args below meth c Z hM hK H1 locs1 cells slots ls hW1 hL1 hc hs hl)
  simp only [updV, jfv, jup_eq]
  by_cases hi : i = j
  · subst hi; simp [hr, jtr]
  · simp [hi]
theorem j_putF {a b ci j idx : Nat} {ty : FieldType} (hd : decode cc pc = .ok (.putfield idx, 3)) (hF : jFL own idx ci j true ty) (hr : jrf ci j = true) (ho : jO N κ a ci) (hi : ini = true) (hown : vwCl[ci]?.map (fun q => q.1) = some own) (hnw : narrow ty (.ref (jB G + b)) = .ref (jB G + b)) (hft : fits ty (.ref (jB G + b)) = true) (k : J G own cc nL ini d Q ac sc (N, κ, jup ρ a j (some b), μ, ν) (pc + 3) lo st) : J G own cc nL ini d Q ac sc (N, κ, ρ, μ, ν) pc lo (.ref b :: .ref a :: st) := by
  intro p l e R s m args below meth c Z hM hK H locs cells slots ls hW hL hc hs hl
  refine jW_put (h' := (N, κ, jup ρ a j (some b), μ, ν)) hM hW ho hF (fun _ => ⟨hi, hown⟩) hnw hft hL hd rfl (fun k hk => ⟨rfl, jup_ne hk, rfl, rfl⟩) rfl (fun i => ?_) (fun H1 locs1 hW1 hL1 => k p l e R s m args below meth c Z hM hK H1 locs1 cells slots ls hW1 hL1 hc hs hl)
  simp only [updV, jfv, jup_eq]
  by_cases hi : i = j
  · subst hi; simp [hr, va_rf, jtr]
  · simp [hi]
/-! arrays -/
theorem jarr {s : State} {H : Heap} {h : jH} {a n : Nat} {ty : FieldType} (hW : jWD G s h H) (hA : jA h.1 h.2.1 a ty n) : ∃ cA : ClassId, ArrOfT s cA ty ∧ va_RA s cA ty ∧ H[jB G + a]? = some (arrV cA n (jav G ty (h.2.2.1 a) (h.2.2.2.1 a) (h.2.2.2.2 a))) := by
  have := hW.2.2 a hA.1
  rw [hA.2.1] at this
  exact this
theorem j_iald {a n k : Nat} {i : Int32} (hd : decode cc pc = .ok (.iaload, 1)) (hA : jA N κ a .int n) (hi : i = nI k) (hk : k < n) (kk : J G own cc nL ini d Q ac sc (N, κ, ρ, μ, ν) (pc + 1) lo (.int (μ a k) :: st)) : J G own cc nL ini d Q ac sc (N, κ, ρ, μ, ν) pc lo (.int i :: .ref a :: st) := by
  intro p l e R s m args below meth c Z hM hK H locs cells slots ls hW hL hc hs hl
  obtain ⟨cA, hAr, -, hH⟩ := jarr hW hA
  obtain ⟨e1, e2⟩ := jclamp hi hk hA.2.2
  exact W.iald (v := .int (μ a k)) hM.1 hM.2.1 hH (hAr n _) (fun q => by cases q) (by rw [arrV_size]; exact e2) (by rw [e1, arrV_read _ _ hk]; rfl) rfl rfl hd (kk p l e R s m args below meth c Z hM hK H locs cells slots ls hW hL hc hs hl)
theorem j_cald {a n k : Nat} {i : Int32} (hd : decode cc pc = .ok (.caload, 1)) (hA : jA N κ a .char n) (hi : i = nI k) (hk : k < n) (kk : J G own cc nL ini d Q ac sc (N, κ, ρ, μ, ν) (pc + 1) lo (.int (μ a k) :: st)) : J G own cc nL ini d Q ac sc (N, κ, ρ, μ, ν) pc lo (.int i :: .ref a :: st) := by
  intro p l e R s m args below meth c Z hM hK H locs cells slots ls hW hL hc hs hl
  obtain ⟨cA, hAr, -, hH⟩ := jarr hW hA
  obtain ⟨e1, e2⟩ := jclamp hi hk hA.2.2
  exact W.cald (v := .int (μ a k)) hM.1 hM.2.1 hH (hAr n _) (fun q => by cases q) (by rw [arrV_size]; exact e2) (by rw [e1, arrV_read _ _ hk]; rfl) rfl rfl hd (kk p l e R s m args below meth c Z hM hK H locs cells slots ls hW hL hc hs hl)
theorem j_lald {a n k : Nat} {i : Int32} (hd : decode cc pc = .ok (.laload, 1)) (hA : jA N κ a .long n) (hi : i = nI k) (hk : k < n) (kk : J G own cc nL ini d Q ac sc (N, κ, ρ, μ, ν) (pc + 1) lo (.long (ν a k) :: st)) : J G own cc nL ini d Q ac sc (N, κ, ρ, μ, ν) pc lo (.int i :: .ref a :: st) := by
  intro p l e R s m args below meth c Z hM hK H locs cells slots ls hW hL hc hs hl
  obtain ⟨cA, hAr, -, hH⟩ := jarr hW hA
  obtain ⟨e1, e2⟩ := jclamp hi hk hA.2.2
  exact W.lald (v := .long (ν a k)) hM.1 hM.2.1 hH (hAr n _) (fun q => by cases q) (by rw [arrV_size]; exact e2) (by rw [e1, arrV_read _ _ hk]; rfl) rfl rfl hd (kk p l e R s m args below meth c Z hM hK H locs cells slots ls hW hL hc hs hl)
theorem j_aald {a b n k : Nat} {i : Int32} {C : String} (hd : decode cc pc = .ok (.aaload, 1)) (hA : jA N κ a (.object C) n) (hi : i = nI k) (hk : k < n) (hb : ρ a k = some b) (kk : J G own cc nL ini d Q ac sc (N, κ, ρ, μ, ν) (pc + 1) lo (.ref b :: st)) : J G own cc nL ini d Q ac sc (N, κ, ρ, μ, ν) pc lo (.int i :: .ref a :: st) := by
  intro p l e R s m args below meth c Z hM hK H locs cells slots ls hW hL hc hs hl
  obtain ⟨cA, hAr, -, hH⟩ := jarr hW hA
  obtain ⟨e1, e2⟩ := jclamp hi hk hA.2.2
  exact W.aald (v := .ref (jB G + b)) (ty := .object C) hM.1 hM.2.1 hH (hAr n _) rfl (fun q => by cases q) (by rw [arrV_size]; exact e2) (by rw [e1, arrV_read _ _ hk]; simp only [jav, hb]; rfl) rfl rfl hd (kk p l e R s m args below meth c Z hM hK H locs cells slots ls hW hL hc hs hl)
theorem j_alen {a n : Nat} {ty : FieldType} (hd : decode cc pc = .ok (.arraylength, 1)) (hA : jA N κ a ty n) (kk : J G own cc nL ini d Q ac sc (N, κ, ρ, μ, ν) (pc + 1) lo (.int (nI n) :: st)) : J G own cc nL ini d Q ac sc (N, κ, ρ, μ, ν) pc lo (.ref a :: st) := by
  intro p l e R s m args below meth c Z hM hK H locs cells slots ls hW hL hc hs hl
  obtain ⟨cA, hAr, -, hH⟩ := jarr hW hA
  exact W.alen (n := nI n) hM.1 hM.2.1 hH (hAr n _) (by rw [arrV_size]; rfl) rfl rfl hd (kk p l e R s m args below meth c Z hM hK H locs cells slots ls hW hL hc hs hl)
theorem j_iast {a n k : Nat} {i x : Int32} (hd : decode cc pc = .ok (.iastore, 1)) (hA : jA N κ a .int n) (hi : i = nI k) (hk : k < n) (kk : J G own cc nL ini d Q ac sc (N, κ, ρ, jup μ a k x, ν) (pc + 1) lo st) : J G own cc nL ini d Q ac sc (N, κ, ρ, μ, ν) pc lo (.int x :: .int i :: .ref a :: st) := by
  intro p l e R s m args below meth c Z hM hK H locs cells slots ls hW hL hc hs hl
  obtain ⟨cA, hAr, hRA, hH⟩ := jarr hW hA
  obtain ⟨e1, e2⟩ := jclamp hi hk hA.2.2
  refine W.iast hM.1 hM.2.1 hH (hAr n _) (fun q => by cases q) (by rw [arrV_size]; exact e2) rfl rfl hd (fun H' f1 f2 f3 => ?_)
  refine kk p l e R s m args below meth c Z hM hK H' _ cells slots ls (hW.write f2 f3 rfl (fun k hk => ⟨rfl, rfl, jup_ne hk, rfl⟩) ?_) (jloc hL) hc hs hl
  show jcell G s a (κ a) _ _ _ _
  rw [show κ a = .inr (.int, n) from hA.2.1]
  refine ⟨cA, hAr, hRA, ?_⟩
  rw [f1, arrV_store, e1]
  congr 2
  funext q
  simp only [updV, jav, jup_eq]
  by_cases hq : q = k <;> simp [hq]
theorem j_cast {a n k : Nat} {i x : Int32} (hd : decode cc pc = .ok (.castore, 1)) (hA : jA N κ a .char n) (hi : i = nI k) (hk : k < n) (hx : narrow .char (.int x) = .int x) (kk : J G own cc nL ini d Q ac sc (N, κ, ρ, jup μ a k x, ν) (pc + 1) lo st) : J G own cc nL ini d Q ac sc (N, κ, ρ, μ, ν) pc lo (.int x :: .int i :: .ref a :: st) := by
  intro p l e R s m args below meth c Z hM hK H locs cells slots ls hW hL hc hs hl
  obtain ⟨cA, hAr, hRA, hH⟩ := jarr hW hA
  obtain ⟨e1, e2⟩ := jclamp hi hk hA.2.2
  refine W.cast hM.1 hM.2.1 hH (hAr n _) (fun q => by cases q) (by rw [arrV_size]; exact e2) rfl rfl hd (fun H' f1 f2 f3 => ?_)
  refine kk p l e R s m args below meth c Z hM hK H' _ cells slots ls (hW.write f2 f3 rfl (fun k hk => ⟨rfl, rfl, jup_ne hk, rfl⟩) ?_) (jloc hL) hc hs hl
  show jcell G s a (κ a) _ _ _ _
  rw [show κ a = .inr (.char, n) from hA.2.1]
  refine ⟨cA, hAr, hRA, ?_⟩
  rw [f1, arrV_store, e1, hx]
  congr 2
  funext q
  simp only [updV, jav, jup_eq]
  by_cases hq : q = k <;> simp [hq]
theorem j_last {a n k : Nat} {i : Int32} {x : Int64} (hd : decode cc pc = .ok (.lastore, 1)) (hA : jA N κ a .long n) (hi : i = nI k) (hk : k < n) (kk : J G own cc nL ini d Q ac sc (N, κ, ρ, μ, jup ν a k x) (pc + 1) lo st) : J G own cc nL ini d Q ac sc (N, κ, ρ, μ, ν) pc lo (.long x :: .int i :: .ref a :: st) := by
  intro p l e R s m args below meth c Z hM hK H locs cells slots ls hW hL hc hs hl
  obtain ⟨cA, hAr, hRA, hH⟩ := jarr hW hA
  obtain ⟨e1, e2⟩ := jclamp hi hk hA.2.2
  refine W.last hM.1 hM.2.1 hH (hAr n _) (fun q => by cases q) (by rw [arrV_size]; exact e2) rfl rfl hd (fun H' f1 f2 f3 => ?_)
  refine kk p l e R s m args below meth c Z hM hK H' _ cells slots ls (hW.write f2 f3 rfl (fun k hk => ⟨rfl, rfl, rfl, jup_ne hk⟩) ?_) (jloc hL) hc hs hl
  show jcell G s a (κ a) _ _ _ _
  rw [show κ a = .inr (.long, n) from hA.2.1]
  refine ⟨cA, hAr, hRA, ?_⟩
  rw [f1, arrV_store, e1]
  congr 2
  funext q
  simp only [updV, jav, jup_eq]
  by_cases hq : q = k <;> simp [hq]
theorem j_aast {a b n k ci : Nat} {i : Int32} {C : String} {T : u_T} {nf : Nat} (hd : decode cc pc = .ok (.aastore, 1)) (hA : jA N κ a (.object C) n) (hi : i = nI k) (hk : k < n) (ho : jO N κ b ci) (hc0 : vwCl[ci]? = some (C, T, nf)) (kk : J G own cc nL ini d Q ac sc (N, κ, jup ρ a k (some b), μ, ν) (pc + 1) lo st) : J G own cc nL ini d Q ac sc (N, κ, ρ, μ, ν) pc lo (.ref b :: .int i :: .ref a :: st) := by
  intro p l e R s m args below meth c Z hM hK H locs cells slots ls hW hL hc hs hl
  obtain ⟨cA, hAr, hRA, hH⟩ := jarr hW hA
  obtain ⟨e1, e2⟩ := jclamp hi hk hA.2.2
  have hcl := hW.2.2 b ho.1
  dsimp only at hcl
  rw [ho.2] at hcl
  obtain ⟨q, hq, cellV, g1, g2, g3, -⟩ := hcl
  have hcls := (hM.2.2.2.2.2.1.1.1 ci _ hc0).2
  obtain ⟨kA, comp, k1, k2, k3, -⟩ := id hRA
  have hcomp : comp = G.2.1 ci := Option.some.inj (k3.symm.trans hcls.1)
  subst hcomp
  obtain ⟨kC, hkC, -⟩ := id hcls.2
  refine W.aast hM.1 hM.2.1 hH (fun q h => by cases h) (fun h => by cases h) k1 k2 rfl hkC ⟨fun z => e2 (Or.inl z), by rw [arrV_size, e1]; exact hk⟩ g1 (fun q h => by rw [g3] at h; cases h) (by rw [g2]; exact hkC) (by rw [g2]; exact va_assign hcls) rfl rfl hd (fun H' f1 f2 f3 => ?_)
  refine kk p l e R s m args below meth c Z hM hK H' _ cells slots ls (hW.write f2 f3 rfl (fun k hk => ⟨rfl, jup_ne hk, rfl, rfl⟩) ?_) (jloc hL) hc hs hl
  show jcell G s a (κ a) _ _ _ _
  rw [show κ a = .inr (.object C, n) from hA.2.1]
  refine ⟨cA, hAr, hRA, ?_⟩
  rw [f1, arrV_store, e1]
  congr 2
  funext q
  simp only [updV, jav, jup_eq]
  by_cases hq : q = k <;> simp [hq, va_rf]
/-! the script -/
theorem jscr {s : State} {H : Heap} {h : jH} (hS : jS G s) (hW : jWD G s h H) : va_X (jsc G) (jsL G) (jsx G) s H := hS.2.1.kept (hW.2.1 _ hS.2.2.1)
theorem j_sld {k : Nat} {i : Int32} {h : jH} (hd : decode cc pc = .ok (.iaload, 1)) (hi : i = nI k) (hk : k < jsL G) (hn : jsL G < 2 ^ 31) (kk : J G own cc nL ini d Q ac sc h (pc + 1) lo (.int (jsx G k) :: st)) : J G own cc nL ini d Q ac sc h pc lo (.int i :: .float 0 :: st) := by
  intro p l e R s m args below meth c Z hM hK H locs cells slots ls hW hL hc hs hl
  obtain ⟨scr, h1, h2, h3, h4, h5⟩ := jscr hM.2.2.2.2.2.1 hW
  obtain ⟨e1, e2⟩ := jclamp hi hk hn
  exact W.iald (v := .int (jsx G k)) hM.1 hM.2.1 h1 h2 h3 (by rw [h4]; exact e2) (by rw [e1]; exact h5 k hk) rfl rfl hd (kk p l e R s m args below meth c Z hM hK H locs cells slots ls hW hL hc hs hl)
theorem j_slen {h : jH} (hd : decode cc pc = .ok (.arraylength, 1)) (kk : J G own cc nL ini d Q ac sc h (pc + 1) lo (.int (nI (jsL G)) :: st)) : J G own cc nL ini d Q ac sc h pc lo (.float 0 :: st) := by
  intro p l e R s m args below meth c Z hM hK H locs cells slots ls hW hL hc hs hl
  obtain ⟨scr, h1, h2, h3, h4, h5⟩ := jscr hM.2.2.2.2.2.1 hW
  exact W.alen (n := nI (jsL G)) hM.1 hM.2.1 h1 h2 (by rw [h4]; rfl) rfl rfl hd (kk p l e R s m args below meth c Z hM hK H locs cells slots ls hW hL hc hs hl)
end JR2
end
section
/-! CALLS -/
section JC
variable {G : jG} {own : String} {cc : ByteArray} {nL : Nat} {ini : Bool} {d : Nat} {h h' : jH} {pc : Nat}
variable {p : Program} {l : Launch} {e : Env} {R : Room} {s : State} {m : MethodId} {args : Array Value} {below : List Frame} {meth : Method} {c : Code} {H : Heap} {locs : List Loc} {cells slots : Nat} {Z : State → Prop} {ls : Array Slot} {rest st0 : List Value} {v : Option Value} {a : Array Value} {mc ms : Nat}
/-- behind a call -/
theorem jW_run (hr : va_Run p l e R s m args below meth c H locs cells slots mc ms (F0 m pc ls st0) rest (jQc G v h' a) (fun q => jB G ≤ q)) (hL : ∀ q ∈ locs, jB G ≤ q.base)
    (kk : ∀ (H1 : Heap) (locs1 : List Loc), jWD G s h' H1 → (∀ q ∈ locs1, jB G ≤ q.base) → W p l e R s m args below meth c H1 locs1 (cells + mc) (slots + ms) Z (F0 m (pc + 3) ls ((v.map (jtr G)).toList ++ rest))) : W p l e R s m args below meth c H locs cells slots Z (F0 m pc ls st0) := by
  intro T hT X
  obtain ⟨v', st₀, t, T', L, h0, X', hL', e1, e2, hq, st⟩ := hr T hT X
  obtain ⟨hv, hw⟩ := hq
  have hv' : v' = v.map (jtr G) := Outcome.returned.inj hv
  subst hv'
  have hal : s.vm.Alike t.vm := by rw [← e2]; exact X'.warmed.alike
  obtain ⟨t2, a1, b1⟩ := kk T'.heap (locs ++ L) (by rw [e1]; exact hw.moved hal.symm) (fun q hq => by
    rcases List.mem_append.mp hq with z | z
    · exact hL q z
    · exact hL' q z) T' rfl X'
  exact ⟨t2, st t2 a1, b1⟩
/-- the callee's start, out of the caller's world -/
theorem jpreS (hM : jM G own cc nL ini d p R s m args meth c) (hW : jWD G s h H) (av : List Value) : PreS s H (jPc G av h) (av.map (jtr G)) := ⟨jPc_blind G av h, fun U hU hWd => ⟨rfl, by rw [hU]; exact hW.moved hWd.alike, jS.moved hWd hM.2.2.2.2.2.1⟩⟩
theorem jgood {y : MethodName} {bytes : ByteArray} {maxL n : Nat} {ret : Option FieldType} (hy : jMY y bytes maxL ret n) : GoodIn jTs (Cond.code y bytes maxL ret :: jTs) := fun w hw => (List.mem_cons.mp hw).elim (fun e => by rw [e]; exact jTs_good _ hy.1) (fun z => jTs_good w z)
theorem jroom {d' maxL : Nat} {mc ms : Nat} (hM : jM G own cc nL ini d p R s m args meth c) (hd : d' + 1 ≤ d) (hm : maxL ≤ 45) : (({ frames := d', cells := mc, slots := ms, locals := 64 * d' } : Room).frames + 1 ≤ R.frames ∧ 8 + (maxL + 11) + ({ frames := d', cells := mc, slots := ms, locals := 64 * d' } : Room).locals ≤ R.locals) := by
  obtain ⟨-, -, -, -, -, -, h1, h2, -⟩ := hM
  exact ⟨by show d' + 1 ≤ R.frames; omega, by show 8 + (maxL + 11) + 64 * d' ≤ R.locals; omega⟩
end JC
section JR3
variable {G : jG} {own : String} {cc : ByteArray} {nL : Nat} {ini : Bool} {d : Nat} {Q : Option Value → jH → Prop} {ac sc : Nat} {pc : Nat} {lo : List (Option Value)} {st : List Value} {h h' : jH} {v : Option Value}
variable {y : MethodName} {cc' : ByteArray} {nL' n d' mc ms idx : Nat} {ret' : Option FieldType}
theorem jcat (G : jG) (st : List Value) : ((st.map (jtr G)).map fun v => v.category).sum = (st.map fun v => v.category).sum := by
  rw [List.map_map]
  congr 1
  apply List.map_congr_left
  intro v _
  exact jtr_cat G v
theorem jg_callV {a ci : Nat} {As : List Value} {stk : List Value} (hd : decode cc pc = .ok (.invokevirtual idx, 3)) (hM' : MT G y cc' nL' ret' d' mc ms (.ref a :: As) h v h') (hl : Cond.methodLink own idx y ∈ jTs) (hy : jMY y cc' nL' ret' n) (hi : Cond.instanceMethod y ∈ jTs ∧ Cond.selects y.cls y y ∈ jTs) (ho : jO h.1 h.2.1 a ci) (hc0 : vwCl[ci]?.map (fun q => q.1) = some y.cls) (hn : As.length = n) (hdd : d' + 1 ≤ d) (hm : nL' ≤ 45) (hst : (st.map fun v => v.category).sum ≤ 8) (hstk : stk = As.reverse ++ .ref a :: st)
    (k : J G own cc nL ini d Q ac sc h' (pc + 3) lo (v.toList ++ st)) : J G own cc nL ini d Q (ac + mc) (sc + ms) h pc lo stk := by
  subst hstk
  intro p l e R s m args below meth c Z hM hK H locs cells slots ls hW hL hc hs hls
  have hM0 := hM
  obtain ⟨hx, hb, hml, hown, hts, hS, -⟩ := hM0
  have hcl := hW.2.2 a ho.1
  rw [ho.2] at hcl
  obtain ⟨q, hq, cell, q1, q2, q3, -⟩ := hcl
  have hqc : q.1 = y.cls := by rw [hq] at hc0; exact Option.some.inj hc0
  have hrecv : ∃ cell : Cell, H[jB G + a]? = some cell ∧ cell.vm.isStatics = false ∧ s.vm.findClass y.cls = some cell.cls := ⟨cell, q1, by rw [q3]; rfl, by rw [q2, ← hqc]; exact (hS.1.1 ci q hq).2.1⟩
  have hG : GoodIn jTs (wsV own idx y.cls y (Cond.code y cc' nL' ret' :: jTs)) := by
    intro w hw
    rcases List.mem_append.mp hw with z | z
    · simp only [List.mem_cons, List.not_mem_nil, or_false] at z
      rcases z with rfl | rfl | rfl | rfl
      · exact jTs_good _ hl
      · exact jTs_good _ hi.1
      · exact jTs_good _ hi.2
      · exact jTs_good _ hy.2.1
    · exact jgood hy w z
  have hrun := va_runV (l := l) (e := e) (below := below) (meth := meth) (locs := locs) (cells := cells) (slots := slots) (As := As.map (jtr G)) (rest := st.map (jtr G)) (b := jB G + a) (C := y.cls) (g := F0 m pc ls ((As.reverse ++ .ref a :: st).map (jtr G))) ⟨hx, hb, hml, hown, hts⟩ (hM' l) (cwV n hts hG rfl rfl rfl ⟨rfl, hy.2.2.1⟩ (jroom hM hdd hm)) ⟨jPc_blind G _ h, hrecv, (jpreS hM hW (.ref a :: As)).2⟩ rfl (by rw [List.length_map]; exact hn) hls.2.1 (by simp [jtr]) (lv_room (by rw [jcat]; exact hst)) hd ⟨by omega, by omega⟩
  refine jW_run hrun hL (fun H1 locs1 hW1 hL1 => ?_)
  have := k p l e R s m args below meth c Z hM hK H1 locs1 (cells + mc) (slots + ms) ls hW1 hL1 (by omega) (by omega) hls
  rw [List.map_append] at this
  cases v <;> exact this
theorem jg_callS {As : List Value} {stk : List Value} (hd : decode cc pc = .ok (.invokestatic idx, 3)) (hM' : MT G y cc' nL' ret' d' mc ms As h v h') (hl : Cond.methodLink own idx y ∈ jTs) (hy : jMY y cc' nL' ret' n) (hi : Cond.static y ∈ jTs) (hn : As.length = n) (hdd : d' + 1 ≤ d) (hm : nL' ≤ 45) (hst : (st.map fun v => v.category).sum ≤ 8) (hstk : stk = As.reverse ++ st)
    (k : J G own cc nL ini d Q ac sc h' (pc + 3) lo (v.toList ++ st)) : J G own cc nL ini d Q (ac + mc) (sc + ms) h pc lo stk := by
  subst hstk
  intro p l e R s m args below meth c Z hM hK H locs cells slots ls hW hL hc hs hls
  have hM0 := hM
  obtain ⟨hx, hb, hml, hown, hts, hS, -⟩ := hM0
  have hrun := va_runS (l := l) (e := e) (below := below) (meth := meth) (locs := locs) (cells := cells) (slots := slots) (As := As.map (jtr G)) (rest := st.map (jtr G)) (g := F0 m pc ls ((As.reverse ++ st).map (jtr G))) ⟨hx, hb, hml, hown, hts⟩ (hM' l) ⟨callB_of n hts (jgood hy) rfl rfl rfl (hts _ hy.2.1) (hts _ hl) hy.2.2.1 (jroom hM hdd hm), hts _ hi⟩ (jpreS hM hW As) rfl (by rw [List.length_map]; exact hn) hls.2.1 (by simp) (lv_room (by rw [jcat]; exact hst)) hd ⟨by omega, by omega⟩
  refine jW_run hrun hL (fun H1 locs1 hW1 hL1 => ?_)
  have := k p l e R s m args below meth c Z hM hK H1 locs1 (cells + mc) (slots + ms) ls hW1 hL1 (by omega) (by omega) hls
  rw [List.map_append] at this
  cases v <;> exact this
theorem jg_callSN {As : List Value} {stk : List Value} {host : String} (hd : decode cc pc = .ok (.invokestatic idx, 3)) (hM' : MT G y cc' nL' ret' d' mc ms As h v h') (hl : ∀ s : State, jS G s → va_Nw (.methodLinkNest own idx y host) s) (hy : jMY y cc' nL' ret' n) (hi : Cond.static y ∈ jTs) (hn : As.length = n) (hdd : d' + 1 ≤ d) (hm : nL' ≤ 45) (hst : (st.map fun v => v.category).sum ≤ 8) (hstk : stk = As.reverse ++ st)
    (k : J G own cc nL ini d Q ac sc h' (pc + 3) lo (v.toList ++ st)) : J G own cc nL ini d Q (ac + mc) (sc + ms) h pc lo stk := by
  subst hstk
  intro p l e R s m args below meth c Z hM hK H locs cells slots ls hW hL hc hs hls
  have hM0 := hM
  obtain ⟨hx, hb, hml, hown, hts, hS, -⟩ := hM0
  have hrun := va_runSN (l := l) (e := e) (below := below) (meth := meth) (locs := locs) (cells := cells) (slots := slots) (As := As.map (jtr G)) (rest := st.map (jtr G)) (g := F0 m pc ls ((As.reverse ++ st).map (jtr G))) ⟨hx, hb, hml, hown, hts⟩ (hM' l) ⟨va_cnB n hts (jgood hy) rfl rfl rfl (hl s hS) (hts _ hy.2.1) hy.2.2.1 (jroom hM hdd hm), hts _ hi, trivial⟩ (jpreS hM hW As) rfl (by rw [List.length_map]; exact hn) hls.2.1 (by simp) (lv_room (by rw [jcat]; exact hst)) hd ⟨by omega, by omega⟩
  refine jW_run hrun hL (fun H1 locs1 hW1 hL1 => ?_)
  have := k p l e R s m args below meth c Z hM hK H1 locs1 (cells + mc) (slots + ms) ls hW1 hL1 (by omega) (by omega) hls
  rw [List.map_append] at this
  cases v <;> exact this
theorem jg_callI {a : Nat} {As : List Value} {stk : List Value} (hd : decode cc pc = .ok (.invokespecial idx, 3)) (hM' : MT G y cc' nL' none d' mc ms (.ref a :: As) h v h') (hl : Cond.methodLink own idx y ∈ jTs) (hy : jMY y cc' nL' none n) (hi : Cond.instanceMethod y ∈ jTs) (hyn : y.name = "<init>") (hn : As.length = n) (hdd : d' + 1 ≤ d) (hm : nL' ≤ 45) (hst : (st.map fun v => v.category).sum ≤ 8) (hstk : stk = As.reverse ++ .ref a :: st)
    (k : J G own cc nL ini d Q ac sc h' (pc + 3) lo (v.toList ++ st)) : J G own cc nL ini d Q (ac + mc) (sc + ms) h pc lo stk := by
  subst hstk
  intro p l e R s m args below meth c Z hM hK H locs cells slots ls hW hL hc hs hls
  have hM0 := hM
  obtain ⟨hx, hb, hml, hown, hts, hS, -⟩ := hM0
  have hrun := va_runI (l := l) (e := e) (below := below) (meth := meth) (locs := locs) (cells := cells) (slots := slots) (As := As.map (jtr G)) (rest := st.map (jtr G)) (b := jB G + a) (g := F0 m pc ls ((As.reverse ++ .ref a :: st).map (jtr G))) ⟨hx, hb, hml, hown, hts⟩ (hM' l) (cwI n hts (jgood hy) rfl rfl rfl (hts _ hy.2.1) (hts _ hl) (hts _ hi) hyn hy.2.2.1 (jroom hM hdd hm)) (jpreS hM hW (.ref a :: As)) rfl (by rw [List.length_map]; exact hn) hls.2.1 (by simp [jtr]) (lv_room (by rw [jcat]; exact hst)) hd ⟨by omega, by omega⟩
  refine jW_run hrun hL (fun H1 locs1 hW1 hL1 => ?_)
  have := k p l e R s m args below meth c Z hM hK H1 locs1 (cells + mc) (slots + ms) ls hW1 hL1 (by omega) (by omega) hls
  rw [List.map_append] at this
  cases v <;> exact this
theorem jg_callIN {a : Nat} {As : List Value} {stk : List Value} {host : String} (hd : decode cc pc = .ok (.invokespecial idx, 3)) (hM' : MT G y cc' nL' none d' mc ms (.ref a :: As) h v h') (hl : ∀ s : State, jS G s → va_Nw (.methodLinkNest own idx y host) s) (hy : jMY y cc' nL' none n) (hi : Cond.instanceMethod y ∈ jTs) (hyn : y.name = "<init>") (hn : As.length = n) (hdd : d' + 1 ≤ d) (hm : nL' ≤ 45) (hst : (st.map fun v => v.category).sum ≤ 8) (hstk : stk = As.reverse ++ .ref a :: st)
    (k : J G own cc nL ini d Q ac sc h' (pc + 3) lo (v.toList ++ st)) : J G own cc nL ini d Q (ac + mc) (sc + ms) h pc lo stk := by
  subst hstk
  intro p l e R s m args below meth c Z hM hK H locs cells slots ls hW hL hc hs hls
  have hM0 := hM
  obtain ⟨hx, hb, hml, hown, hts, hS, -⟩ := hM0
  have hrun := va_runIN (l := l) (e := e) (below := below) (meth := meth) (locs := locs) (cells := cells) (slots := slots) (As := As.map (jtr G)) (rest := st.map (jtr G)) (b := jB G + a) (g := F0 m pc ls ((As.reverse ++ .ref a :: st).map (jtr G))) ⟨hx, hb, hml, hown, hts⟩ (hM' l) ⟨va_cnB n hts (jgood hy) rfl rfl rfl (hl s hS) (hts _ hy.2.1) hy.2.2.1 (jroom hM hdd hm), hyn, hts _ hi⟩ (jpreS hM hW (.ref a :: As)) rfl (by rw [List.length_map]; exact hn) hls.2.1 (by simp [jtr]) (lv_room (by rw [jcat]; exact hst)) hd ⟨by omega, by omega⟩
  refine jW_run hrun hL (fun H1 locs1 hW1 hL1 => ?_)
  have := k p l e R s m args below meth c Z hM hK H1 locs1 (cells + mc) (slots + ms) ls hW1 hL1 (by omega) (by omega) hls
  rw [List.map_append] at this
  cases v <;> exact this
/-- Object's own constructor -/
theorem j_objInit {a : Nat} (hd : decode cc pc = .ok (.invokespecial idx, 3)) (hl : Cond.methodLink own idx objectInit ∈ jTs) (hi : Cond.instanceMethod objectInit ∈ jTs) (hco : Cond.code objectInit ⟨#[0xb1]⟩ 1 none ∈ jTs) (hdd : 1 ≤ d) (hst : (st.map fun v => v.category).sum ≤ 8) (k : J G own cc nL ini d Q ac sc h (pc + 3) lo st) : J G own cc nL ini d Q ac sc h pc lo (.ref a :: st) := by
  intro p l e R s m args below meth c Z hM hK H locs cells slots ls hW hL hc hs hls
  have hM0 := hM
  obtain ⟨hx, hb, hml, hown, hts, hS, hf, hlo, -⟩ := hM0
  refine W.objInit hx hb hown (hts _ hl) (hts _ hi) (hts _ hco) rfl (by rw [hml]; exact hls.2.1) rfl hd (by omega) ?_ (k p l e R s m args below meth c Z hM hK H locs cells slots ls hW hL hc hs hls)
  show 2 * 0 + ((st.map (jtr G)).map fun v => v.category).sum + 12 ≤ R.locals
  rw [jcat]
  omega
theorem j_mmin {x z : Int32} (hd : decode cc pc = .ok (.invokestatic idx, 3)) (hl : Cond.methodLink own idx yJ9_min_7cf53 ∈ jTs) (hdd : 1 ≤ d) (hst : (st.map fun v => v.category).sum ≤ 8) (k : J G own cc nL ini d Q ac sc h (pc + 3) lo (.int (if z < x then z else x) :: st)) : J G own cc nL ini d Q ac sc h pc lo (.int z :: .int x :: st) := by
  intro p l e R s m args below meth c Z hM hK H locs cells slots ls hW hL hc hs hls
  have hM0 := hM
  obtain ⟨hx, hb, hml, hown, hts, hS, hf, hlo, -⟩ := hM0
  exact va_mmin hx hb (by rw [hml]; exact hls.2.1.symm) hown (hts _ hl) (hts _ ms_J9_min) (hts _ in_J9) (hts _ co_J9_min) (by omega) (by rw [jcat]; omega) (by omega) (by omega) hd (k p l e R s m args below meth c Z hM hK H locs cells slots ls hW hL hc hs hls)
theorem j_mmax {x z : Int32} (hd : decode cc pc = .ok (.invokestatic idx, 3)) (hl : Cond.methodLink own idx yJ9_max_7cf53 ∈ jTs) (hdd : 1 ≤ d) (hst : (st.map fun v => v.category).sum ≤ 8) (k : J G own cc nL ini d Q ac sc h (pc + 3) lo (.int (if x < z then z else x) :: st)) : J G own cc nL ini d Q ac sc h pc lo (.int z :: .int x :: st) := by
  intro p l e R s m args below meth c Z hM hK H locs cells slots ls hW hL hc hs hls
  have hM0 := hM
  obtain ⟨hx, hb, hml, hown, hts, hS, hf, hlo, -⟩ := hM0
  exact va_mmax hx hb (by rw [hml]; exact hls.2.1.symm) hown (hts _ hl) (hts _ ms_J9_max) (hts _ in_J9) (hts _ co_J9_max) (by omega) (by rw [jcat]; omega) (by omega) (by omega) hd (k p l e R s m args below meth c Z hM hK H locs cells slots ls hW hL hc hs hls)
end JR3
end
section
/-! MAKING CELLS, COPYING ROWS -/
def jkd (κ : Nat → jK) (N : Nat) (x : jK) : Nat → jK := fun k => if k = N then x else κ k
theorem jkd_ne {κ : Nat → jK} {N k : Nat} {x : jK} (h : k ≠ N) : jkd κ N x k = κ k := if_neg h
theorem jkd_eq (κ : Nat → jK) (N : Nat) (x : jK) : jkd κ N x N = x := if_pos rfl
def jCF (ci : Nat) (C : String) (T : u_T) (n : Nat) : Prop := vwCl[ci]? = some (C, T, n) ∧ (∀ w ∈ u_ws C T n, w ∈ jTs) ∧ Cond.instantiable C n ∈ jTs ∧ Cond.initialized C ∈ jTs ∧ ∃ ty0 : Nat → FieldType, (∀ k, k < n → parseFieldDescriptor (T k).2.2.1 = some (ty0 k)) ∧ ∀ k, k < n → defaultValue (ty0 k) = if jrf ci k = true then .null else .int 0
theorem jcf_0 : jCF 0 RX0 TX0 4 := ⟨rfl, jinX0, is_X0, in_X0, tyX0, tyX0_ok, by decide +kernel⟩
theorem jcf_1 : jCF 1 RX1 TX1 8 := ⟨rfl, jinX1, is_X1, in_X1, tyX1, tyX1_ok, by decide +kernel⟩
theorem jcf_2 : jCF 2 RX2 TX2 3 := ⟨rfl, jinX2, is_X2, in_X2, tyX2, tyX2_ok, by decide +kernel⟩
theorem jcf_3 : jCF 3 RX3 TX3 6 := ⟨rfl, jinX3, is_X3, in_X3, tyX3, tyX3_ok, by decide +kernel⟩
theorem jcf_4 : jCF 4 RX4 TX4 3 := ⟨rfl, jinX4, is_X4, in_X4, tyX4, tyX4_ok, by decide +kernel⟩
theorem jcf_5 : jCF 5 RX5 TX5 8 := ⟨rfl, jinX5, is_X5, in_X5, tyX5, tyX5_ok, by decide +kernel⟩
theorem jcf_6 : jCF 6 RX6 TX6 10 := ⟨rfl, jinX6, is_X6, in_X6, tyX6, tyX6_ok, by decide +kernel⟩
theorem jcf_7 : jCF 7 RX7 TX7 25 := ⟨rfl, jinX7, is_X7, in_X7, tyX7, tyX7_ok, by decide +kernel⟩
section JR4
variable {G : jG} {own : String} {cc : ByteArray} {nL : Nat} {ini : Bool} {d : Nat} {Q : Option Value → jH → Prop} {ac sc : Nat} {pc : Nat} {lo : List (Option Value)} {st : List Value}
variable {N : Nat} {κ : Nat → jK} {ρ : Nat → Nat → Option Nat} {μ : Nat → Nat → Int32} {ν : Nat → Nat → Int64}
theorem j_new {ci idx n : Nat} {C : String} {T : u_T} (hd : decode cc pc = .ok (.new idx, 3)) (hcl : Cond.classLink own idx C ∈ jTs) (hC : jCF ci C T n) (k : J G own cc nL ini d Q ac sc (N + 1, jkd κ N (.inl ci), jrow ρ N (fun _ => none), jrow μ N (fun _ => 0), ν) (pc + 3) lo (.ref N :: st)) : J G own cc nL ini d Q (ac + 1) (sc + n) (N, κ, ρ, μ, ν) pc lo st := by
  intro p l e R s m args below meth c Z hM hK H locs cells slots ls hW hL hc hs hls
  have hM0 := hM
  obtain ⟨hx, hb, hml, hown, hts, hS, -⟩ := hM0
  obtain ⟨hvc, hin, hinst, hini, ty0, hty, hdef⟩ := hC
  have hKn := hS.1.1 ci _ hvc
  refine W.newcK hx hb hown (hts _ hcl) (hts _ hinst) (hts _ hini) rfl hd (by omega) (by omega) hKn.2.1 (h := jB G + N) hW.1 (fun H' kC hkC e1 z1 o1 => ?_)
  have hz : H.size = jB G + N := hW.1
  refine k p l e R s m args below meth c Z hM hK H' locs (cells + 1) (slots + n) ls (hW.push (by rw [z1, hz]) (fun q hq => o1 q (by rw [← hz]; exact hq)) rfl (fun k hk => ⟨jkd_ne (Nat.ne_of_lt hk), jrow_ne (Nat.ne_of_lt hk), jrow_ne (Nat.ne_of_lt hk), rfl⟩) ?_) hL (by omega) (by omega) hls
  show jcell G s N (jkd κ N (.inl ci) N) (jrow ρ N (fun _ => none) N) (jrow μ N (fun _ => 0) N) (ν N) H'
  rw [jkd_eq, jrow_eq, jrow_eq]
  refine ⟨_, hvc, (u_born ty0 hts hin hKn hkC e1 hty).to (fun j hj => ?_)⟩
  rw [hdef j hj]
  rfl
theorem j_newa {idx len : Nat} {x : Int32} {atype : ArrayType} (hd : decode cc pc = .ok (.newarray atype, 2)) (hac : Cond.arrayClass (newarray.typeOf atype) ∈ jTs) (hx : x = nI len) (hl : len ≤ 100000) (hat : atype = .int ∨ atype = .char ∨ atype = .long) (k : J G own cc nL ini d Q ac sc (N + 1, jkd κ N (.inr (newarray.typeOf atype, len)), jrow ρ N (fun _ => none), jrow μ N (fun _ => 0), jrow ν N (fun _ => 0)) (pc + 2) lo (.ref N :: st)) : J G own cc nL ini d Q (ac + 1) (sc + len) (N, κ, ρ, μ, ν) pc lo (.int x :: st) := by
  intro p l e R s m args below meth c Z hM hK H locs cells slots ls hW hL hc hs hls
  have hM0 := hM
  obtain ⟨hx0, hb, hml, hown, hts, hS, -⟩ := hM0
  have hz : H.size = jB G + N := hW.1
  have hb8 : componentBytes (newarray.typeOf atype) ≤ 8 := by rcases hat with rfl | rfl | rfl <;> decide
  have hbm : len * componentBytes (newarray.typeOf atype) ≤ len * 8 := Nat.mul_le_mul_left _ hb8
  refine va_newaK hx0 hb (hts _ hac) rfl hd rfl (by rw [hx]; exact nI_pos (by omega)) (N := len) (by rw [hx]; exact nI_clamp (by omega)) (by omega) (by omega) (by omega) hz (fun H1 cA e1 z1 o1 hAr hNm => ?_)
  refine k p l e R s m args below meth c Z hM hK H1 locs (cells + 1) (slots + len) ls (hW.push (by rw [z1, hz]) (fun q hq => o1 q (by rw [← hz]; exact hq)) rfl (fun k hk => ⟨jkd_ne (Nat.ne_of_lt hk), jrow_ne (Nat.ne_of_lt hk), jrow_ne (Nat.ne_of_lt hk), jrow_ne (Nat.ne_of_lt hk)⟩) ?_) hL (by omega) (by omega) hls
  show jcell G s N (jkd κ N (.inr (newarray.typeOf atype, len)) N) (jrow ρ N (fun _ => none) N) (jrow μ N (fun _ => 0) N) (jrow ν N (fun _ => 0) N) H1
  rw [jkd_eq, jrow_eq, jrow_eq, jrow_eq]
  refine ⟨cA, hAr, by rcases hat with rfl | rfl | rfl <;> exact hNm, ?_⟩
  rw [e1]
  rcases hat with rfl | rfl | rfl <;> rfl
theorem j_anew {idx len : Nat} {x : Int32} (hd : decode cc pc = .ok (.anewarray idx, 3)) (hcl : Cond.classLink own idx RX5 ∈ jTs) (hx : x = nI len) (hl : len ≤ 100000) (k : J G own cc nL ini d Q ac sc (N + 1, jkd κ N (.inr (.object RX5, len)), jrow ρ N (fun _ => none), jrow μ N (fun _ => 0), jrow ν N (fun _ => 0)) (pc + 3) lo (.ref N :: st)) : J G own cc nL ini d Q (ac + 1) (sc + len) (N, κ, ρ, μ, ν) pc lo (.int x :: st) := by
  intro p l e R s m args below meth c Z hM hK H locs cells slots ls hW hL hc hs hls
  have hM0 := hM
  obtain ⟨hx0, hb, hml, hown, hts, hS, -⟩ := hM0
  have hz : H.size = jB G + N := hW.1
  have hlc : x.toNatClampNeg = len := by rw [hx]; exact nI_clamp (by omega)
  refine W.anew hx0 hb hown (hts _ hcl) (va_AO.use hS.2.2.2.1) rfl hd rfl (by rw [hx]; exact nI_pos (by omega)) (by omega) (by omega) (by omega) (fun cA kA comp f1 f2 f3 f4 => ?_)
  rw [hlc, hz]
  generalize hH1 : H.push ({ cls := cA, slots := Array.replicate len .null, vm := .none } : Cell) = H1
  have z1 : H1.size = H.size + 1 := by rw [← hH1, Array.size_push]
  have e1 : H1[H.size]? = some (arrV cA len (fun _ => .null)) := by rw [← hH1, Array.getElem?_push_size, ← arrV_new]
  have o1 : ∀ q : Nat, q < H.size → H1[q]? = H[q]? := fun q hq => by rw [← hH1, Array.getElem?_push, if_neg (Nat.ne_of_lt hq)]
  have hAr : ArrOfT s cA (.object RX5) := fun N z => ⟨(fun k h => by cases h), kA, f2, comp, f3⟩
  refine k p l e R s m args below meth c Z hM hK H1 locs (cells + 1) (slots + len) ls (hW.push z1 o1 rfl (fun k hk => ⟨jkd_ne (Nat.ne_of_lt hk), jrow_ne (Nat.ne_of_lt hk), jrow_ne (Nat.ne_of_lt hk), jrow_ne (Nat.ne_of_lt hk)⟩) ?_) hL (by omega) (by omega) hls
  show jcell G s N (jkd κ N (.inr (.object RX5, len)) N) (jrow ρ N (fun _ => none) N) (jrow μ N (fun _ => 0) N) (jrow ν N (fun _ => 0) N) H1
  rw [jkd_eq, jrow_eq, jrow_eq, jrow_eq]
  refine ⟨cA, hAr, ⟨kA, comp, f2, f3, f4, f1⟩, ?_⟩
  rw [← hz, e1]
  rfl
theorem j_copyi {src dst n0 n1 k idx : Nat} {x : Int32} (hd : decode cc pc = .ok (.invokestatic idx, 3)) (hl : Cond.methodLink own idx arraycopyName ∈ jTs) (hA0 : jA N κ src .int n0) (hA1 : jA N κ dst .int n1) (hx : x = nI k) (h0 : k ≤ n0) (h1 : k ≤ n1) (hdd : 1 ≤ d) (hst : (st.map fun v => v.category).sum ≤ 8) (kk : J G own cc nL ini d Q ac sc (N, κ, ρ, jrow μ dst (fun j => if j < k then μ src j else μ dst j), ν) (pc + 3) lo st) : J G own cc nL ini d Q ac sc (N, κ, ρ, μ, ν) pc lo (.int x :: .int 0 :: .ref dst :: .int 0 :: .ref src :: st) := by
  intro p l e R s m args below meth c Z hM hK H locs cells slots ls hW hL hc hs hls
  have hM0 := hM
  obtain ⟨hx0, hb, hml, hown, hts, hS, hf, hlo, -⟩ := hM0
  obtain ⟨c0, hAr0, -, hH0⟩ := jarr hW hA0
  obtain ⟨c1, hAr1, hRA1, hH1⟩ := jarr hW hA1
  have hk31 : k < 2 ^ 31 := Nat.lt_of_le_of_lt h0 hA0.2.2
  have ek : x.toNatClampNeg = k := by rw [hx]; exact nI_clamp hk31
  have ei : x.toInt = (k : Int) := by rw [hx]; exact nI_toInt hk31
  obtain ⟨-, k0, hk0, cm0, hkk0⟩ := hAr0 n0 (fun j => .int (μ src j))
  obtain ⟨-, k1, hk1, cm1, hkk1⟩ := hAr1 n1 (fun j => .int (μ dst j))
  intro T hT X
  obtain ⟨vm', X', step⟩ := X.arraycopy hx0 hown (hts _ hl) (hts _ an_cpy) (hts _ as_cpy) (hts _ in_sys) (src := jB G + src) (dst := jB G + dst) (cs := arrV c0 n0 (fun j => .int (μ src j))) (cd := arrV c1 n1 (fun j => .int (μ dst j))) (srcPos := 0) (destPos := 0) (n := x) (by rw [hT]; exact hH0) (by rw [hT]; exact hH1)
    (fun _ h => by cases h) (fun _ h => by cases h) (fun h => by cases h) (fun h => by cases h) hk0 hk1 hkk0 hkk1 (by decide) (by decide) (by decide) (by rw [hx]; exact nI_pos hk31)
    (by rw [ei, arrV_size]; simp; omega) (by rw [ei, arrV_size]; simp; omega)
    (fun vm₁ _ i hi => by
      have e1 : (arrV c0 n0 (fun j => .int (μ src j))).slots.getD ((0 : Int32).toNatClampNeg + i) .null = .int (μ src ((0 : Int32).toNatClampNeg + i)) := by
        have z0 : (0 : Int32).toNatClampNeg = 0 := by decide
        rw [Array.getD_eq_getD_getElem?, arrV_read _ _ (by rw [z0]; omega)]
        rfl
      rw [e1]
      exact ⟨rfl, trivial⟩)
    (g := F0 m pc ls (.int x :: .int 0 :: .ref (jB G + dst) :: .int 0 :: .ref (jB G + src) :: st.map (jtr G))) rfl (by rw [hml]; exact hls.2.1) (rest := st.map (jtr G)) rfl (by rw [hb]; exact hd) (by omega) (by
      show 2 * 0 + ((st.map (jtr G)).map fun v => v.category).sum + (nativeFrameWords "java/lang/System" "arraycopy" 5 + 11) ≤ R.locals
      rw [jcat]
      have : nativeFrameWords "java/lang/System" "arraycopy" 5 + 11 ≤ 50 := by decide
      omega)
  have z0 : (0 : Int32).toNatClampNeg = 0 := by decide
  have e1 : copied (arrV c0 n0 (fun j => .int (μ src j))) (arrV c1 n1 (fun j => .int (μ dst j))) 0 0 x = arrV c1 n1 (fun j => .int (va_cpy (μ src) (μ dst) 0 0 k j)) := by
    have := va_copied (fun z => Value.int z) c0 c1 (n0 := n0) (n1 := n1) (sp := 0) (dp := 0) (n := k) (μ src) (μ dst) (by omega)
    rw [← this, ← ek, ← z0]
  rw [e1] at X' step
  have hlt : jB G + dst < H.size := (Array.getElem?_eq_some_iff.mp hH1).1
  have hheap : ((T.setVm vm').setCell (jB G + dst) (arrV c1 n1 (fun j => .int (va_cpy (μ src) (μ dst) 0 0 k j)))).heap = H.setIfInBounds (jB G + dst) (arrV c1 n1 (fun j => .int (va_cpy (μ src) (μ dst) 0 0 k j))) := by rw [← hT]; rfl
  have oq : ∀ q : Nat, q ≠ jB G + dst → (H.setIfInBounds (jB G + dst) (arrV c1 n1 (fun j => .int (va_cpy (μ src) (μ dst) 0 0 k j))))[q]? = H[q]? := fun q hq => by simp [Array.getElem?_setIfInBounds, Ne.symm hq]
  obtain ⟨t, a1, b1⟩ := kk p l e R s m args below meth c Z hM hK _ _ cells slots ls (hW.write (H' := H.setIfInBounds (jB G + dst) (arrV c1 n1 (fun j => .int (va_cpy (μ src) (μ dst) 0 0 k j)))) (h' := (N, κ, ρ, jrow μ dst (fun j => if j < k then μ src j else μ dst j), ν)) (by simp) oq rfl (fun k hk => ⟨rfl, rfl, jrow_ne hk, rfl⟩) (by
      show jcell G s dst (κ dst) (ρ dst) (jrow μ dst (fun j => if j < k then μ src j else μ dst j) dst) (ν dst) _
      rw [show κ dst = .inr (.int, n1) from hA1.2.1, jrow_eq]
      refine ⟨c1, hAr1, hRA1, ?_⟩
      rw [Array.getElem?_setIfInBounds_self_of_lt hlt]
      congr 2
      funext j
      simp [jav, va_cpy])) (fun q hq => by
      rcases List.mem_append.mp hq with z | z
      · exact hL q z
      · obtain ⟨w, -, hw⟩ := List.mem_map.mp z
        rw [← hw]
        exact Nat.le_add_right _ _) hc hs hls _ hheap X'
  exact ⟨t, step t a1, b1⟩
end JR4
end
section
/-! STORES BY THEIR PLACE, BRANCHES IN BOTH FORMS, CALLS BY THEIR ARITY -/
/-- not a long -/
def jnl : Option Value → Bool
  | some (.long _) => false
  | some (.double _) => false
  | _ => true
theorem jnl_cat {w : Value} (h : jnl (some w) = true) : ¬ w.category = 2 := by
  cases w <;> simp [jnl, Value.category] at h ⊢
theorem jnl_at {a : Option Value} {w : Value} (hn : jnl a = true) (hw : some a = some (some w)) : ¬ w.category = 2 := by
  have : a = some w := Option.some.inj hw
  subst this
  exact jnl_cat hn
section JR5
variable {G : jG} {own : String} {cc : ByteArray} {nL : Nat} {ini : Bool} {d : Nat} {Q : Option Value → jH → Prop} {ac sc : Nat} {pc : Nat} {st : List Value} {h : jH} {r : List (Option Value)}
theorem jput_set {lo : List (Option Value)} {i : Nat} {v : Value} (hi : i < lo.length) (hp : ∀ w, i ≠ 0 → lo[i - 1]? = some (some w) → ¬ w.category = 2) : jput1 lo (lo.set i (some v)) i v := by
  refine ⟨List.length_set, fun j w hj => ?_⟩
  by_cases e : j = i
  · subst e
    rw [List.getElem?_set_self hi] at hj
    exact Or.inl ⟨rfl, (Option.some.inj (Option.some.inj hj)).symm⟩
  · rw [List.getElem?_set_ne (Ne.symm e)] at hj
    refine Or.inr ⟨e, hj, fun z => ?_⟩
    have : i - 1 = j := by omega
    exact hp w (by omega) (by rw [this]; exact hj) z.2
theorem jput_set2 {lo : List (Option Value)} {i : Nat} {v : Value} (hi : i + 1 < lo.length) (hp : ∀ w, i ≠ 0 → lo[i - 1]? = some (some w) → ¬ w.category = 2) : jput2 lo ((lo.set i (some v)).set (i + 1) none) i v := by
  refine ⟨by rw [List.length_set, List.length_set], fun j w hj => ?_⟩
  by_cases e1 : j = i + 1
  · subst e1
    rw [List.getElem?_set_self (by rw [List.length_set]; exact hi)] at hj
    cases hj
  rw [List.getElem?_set_ne (Ne.symm e1)] at hj
  by_cases e : j = i
  · subst e
    rw [List.getElem?_set_self (by omega)] at hj
    exact Or.inl ⟨rfl, (Option.some.inj (Option.some.inj hj)).symm⟩
  · rw [List.getElem?_set_ne (Ne.symm e)] at hj
    refine Or.inr ⟨e, e1, hj, fun z => ?_⟩
    have : i - 1 = j := by omega
    exact hp w (by omega) (by rw [this]; exact hj) z.2
theorem j_istore_0 {a0 : Option Value} {x : Int32} (hd : decode cc pc = .ok (.istore_n 0, 1)) (k : J G own cc nL ini d Q ac sc h (pc + 1) (some (.int x) :: r) st) : J G own cc nL ini d Q ac sc h pc (a0 :: r) (.int x :: st) :=
  jg_istore_n hd (by show 0 < _; simp only [List.length_cons]; omega) (jput_set (lo := (a0 :: r)) (v := .int x) (by show 0 < _; simp only [List.length_cons]; omega) (fun w hz => absurd rfl hz)) k
theorem j_astore_0 {a0 : Option Value} {x : Nat} (hd : decode cc pc = .ok (.astore_n 0, 1)) (k : J G own cc nL ini d Q ac sc h (pc + 1) (some (.ref x) :: r) st) : J G own cc nL ini d Q ac sc h pc (a0 :: r) (.ref x :: st) :=
  jg_astore_n hd (by show 0 < _; simp only [List.length_cons]; omega) (jput_set (lo := (a0 :: r)) (v := .ref x) (by show 0 < _; simp only [List.length_cons]; omega) (fun w hz => absurd rfl hz)) k
theorem j_lstore_0 {a0 a1 : Option Value} {x : Int64} (hd : decode cc pc = .ok (.lstore_n 0, 1)) (k : J G own cc nL ini d Q ac sc h (pc + 1) (some (.long x) :: none :: r) st) : J G own cc nL ini d Q ac sc h pc (a0 :: a1 :: r) (.long x :: st) :=
  jg_lstore_n hd (by show 0 + 1 < _; simp only [List.length_cons]; omega) (jput_set2 (lo := (a0 :: a1 :: r)) (v := .long x) (by show 0 + 1 < _; simp only [List.length_cons]; omega) (fun w hz => absurd rfl hz)) k
theorem j_iinc_0 {n : Int} {x v : Int32} (hd : decode cc pc = .ok (.iinc 0 n, 3)) (hv : x + Int32.ofInt n = v) (k : J G own cc nL ini d Q ac sc h (pc + 3) (some (.int v) :: r) st) : J G own cc nL ini d Q ac sc h pc (some (.int x) :: r) st :=
  jg_iinc hd rfl hv (jput_set (lo := (some (.int x) :: r)) (v := .int v) (by simp) (fun w hz => absurd rfl hz)) k
theorem j_forget_0 {a0 : Option Value} (k : J G own cc nL ini d Q ac sc h pc (none :: r) st) : J G own cc nL ini d Q ac sc h pc (a0 :: r) st :=
  j_forget ⟨by simp, fun j w hj => by
    have e : (none :: r) = ((a0 :: r) : List (Option Value)).set 0 none := rfl
    rw [e] at hj
    by_cases z : j = 0
    · subst z; simp at hj
    · rwa [List.getElem?_set_ne (Ne.symm z)] at hj⟩ k
theorem j_istore_1 {a0 a1 : Option Value} {x : Int32} (hd : decode cc pc = .ok (.istore_n 1, 1)) (hn : jnl a0 = true) (k : J G own cc nL ini d Q ac sc h (pc + 1) (a0 :: some (.int x) :: r) st) : J G own cc nL ini d Q ac sc h pc (a0 :: a1 :: r) (.int x :: st) :=
  jg_istore_n hd (by show 1 < _; simp only [List.length_cons]; omega) (jput_set (lo := (a0 :: a1 :: r)) (v := .int x) (by show 1 < _; simp only [List.length_cons]; omega) (fun w _ hw => jnl_at hn hw)) k
theorem j_astore_1 {a0 a1 : Option Value} {x : Nat} (hd : decode cc pc = .ok (.astore_n 1, 1)) (hn : jnl a0 = true) (k : J G own cc nL ini d Q ac sc h (pc + 1) (a0 :: some (.ref x) :: r) st) : J G own cc nL ini d Q ac sc h pc (a0 :: a1 :: r) (.ref x :: st) :=
  jg_astore_n hd (by show 1 < _; simp only [List.length_cons]; omega) (jput_set (lo := (a0 :: a1 :: r)) (v := .ref x) (by show 1 < _; simp only [List.length_cons]; omega) (fun w _ hw => jnl_at hn hw)) k
theorem j_lstore_1 {a0 a1 a2 : Option Value} {x : Int64} (hd : decode cc pc = .ok (.lstore_n 1, 1)) (hn : jnl a0 = true) (k : J G own cc nL ini d Q ac sc h (pc + 1) (a0 :: some (.long x) :: none :: r) st) : J G own cc nL ini d Q ac sc h pc (a0 :: a1 :: a2 :: r) (.long x :: st) :=
  jg_lstore_n hd (by show 1 + 1 < _; simp only [List.length_cons]; omega) (jput_set2 (lo := (a0 :: a1 :: a2 :: r)) (v := .long x) (by show 1 + 1 < _; simp only [List.length_cons]; omega) (fun w _ hw => jnl_at hn hw)) k
theorem j_iinc_1 {a0 : Option Value} {n : Int} {x v : Int32} (hd : decode cc pc = .ok (.iinc 1 n, 3)) (hv : x + Int32.ofInt n = v) (hn : jnl a0 = true) (k : J G own cc nL ini d Q ac sc h (pc + 3) (a0 :: some (.int v) :: r) st) : J G own cc nL ini d Q ac sc h pc (a0 :: some (.int x) :: r) st :=
  jg_iinc hd rfl hv (jput_set (lo := (a0 :: some (.int x) :: r)) (v := .int v) (by simp) (fun w _ hw => jnl_at hn hw)) k
theorem j_forget_1 {a0 a1 : Option Value} (k : J G own cc nL ini d Q ac sc h pc (a0 :: none :: r) st) : J G own cc nL ini d Q ac sc h pc (a0 :: a1 :: r) st :=
  j_forget ⟨by simp, fun j w hj => by
    have e : (a0 :: none :: r) = ((a0 :: a1 :: r) : List (Option Value)).set 1 none := rfl
    rw [e] at hj
    by_cases z : j = 1
    · subst z; simp at hj
    · rwa [List.getElem?_set_ne (Ne.symm z)] at hj⟩ k
theorem j_istore_2 {a0 a1 a2 : Option Value} {x : Int32} (hd : decode cc pc = .ok (.istore_n 2, 1)) (hn : jnl a1 = true) (k : J G own cc nL ini d Q ac sc h (pc + 1) (a0 :: a1 :: some (.int x) :: r) st) : J G own cc nL ini d Q ac sc h pc (a0 :: a1 :: a2 :: r) (.int x :: st) :=
  jg_istore_n hd (by show 2 < _; simp only [List.length_cons]; omega) (jput_set (lo := (a0 :: a1 :: a2 :: r)) (v := .int x) (by show 2 < _; simp only [List.length_cons]; omega) (fun w _ hw => jnl_at hn hw)) k
theorem j_astore_2 {a0 a1 a2 : Option Value} {x : Nat} (hd : decode cc pc = .ok (.astore_n 2, 1)) (hn : jnl a1 = true) (k : J G own cc nL ini d Q ac sc h (pc + 1) (a0 :: a1 :: some (.ref x) :: r) st) : J G own cc nL ini d Q ac sc h pc (a0 :: a1 :: a2 :: r) (.ref x :: st) :=
  jg_astore_n hd (by show 2 < _; simp only [List.length_cons]; omega) (jput_set (lo := (a0 :: a1 :: a2 :: r)) (v := .ref x) (by show 2 < _; simp only [List.length_cons]; omega) (fun w _ hw => jnl_at hn hw)) k
theorem j_lstore_2 {a0 a1 a2 a3 : Option Value} {x : Int64} (hd : decode cc pc = .ok (.lstore_n 2, 1)) (hn : jnl a1 = true) (k : J G own cc nL ini d Q ac sc h (pc + 1) (a0 :: a1 :: some (.long x) :: none :: r) st) : J G own cc nL ini d Q ac sc h pc (a0 :: a1 :: a2 :: a3 :: r) (.long x :: st) :=
  jg_lstore_n hd (by show 2 + 1 < _; simp only [List.length_cons]; omega) (jput_set2 (lo := (a0 :: a1 :: a2 :: a3 :: r)) (v := .long x) (by show 2 + 1 < _; simp only [List.length_cons]; omega) (fun w _ hw => jnl_at hn hw)) k
theorem j_iinc_2 {a0 a1 : Option Value} {n : Int} {x v : Int32} (hd : decode cc pc = .ok (.iinc 2 n, 3)) (hv : x + Int32.ofInt n = v) (hn : jnl a1 = true) (k : J G own cc nL ini d Q ac sc h (pc + 3) (a0 :: a1 :: some (.int v) :: r) st) : J G own cc nL ini d Q ac sc h pc (a0 :: a1 :: some (.int x) :: r) st :=
  jg_iinc hd rfl hv (jput_set (lo := (a0 :: a1 :: some (.int x) :: r)) (v := .int v) (by simp) (fun w _ hw => jnl_at hn hw)) k
theorem j_forget_2 {a0 a1 a2 : Option Value} (k : J G own cc nL ini d Q ac sc h pc (a0 :: a1 :: none :: r) st) : J G own cc nL ini d Q ac sc h pc (a0 :: a1 :: a2 :: r) st :=
  j_forget ⟨by simp, fun j w hj => by
    have e : (a0 :: a1 :: none :: r) = ((a0 :: a1 :: a2 :: r) : List (Option Value)).set 2 none := rfl
    rw [e] at hj
    by_cases z : j = 2
    · subst z; simp at hj
    · rwa [List.getElem?_set_ne (Ne.symm z)] at hj⟩ k
theorem j_istore_3 {a0 a1 a2 a3 : Option Value} {x : Int32} (hd : decode cc pc = .ok (.istore_n 3, 1)) (hn : jnl a2 = true) (k : J G own cc nL ini d Q ac sc h (pc + 1) (a0 :: a1 :: a2 :: some (.int x) :: r) st) : J G own cc nL ini d Q ac sc h pc (a0 :: a1 :: a2 :: a3 :: r) (.int x :: st) :=
  jg_istore_n hd (by show 3 < _; simp only [List.length_cons]; omega) (jput_set (lo := (a0 :: a1 :: a2 :: a3 :: r)) (v := .int x) (by show 3 < _; simp only [List.length_cons]; omega) (fun w _ hw => jnl_at hn hw)) k
theorem j_astore_3 {a0 a1 a2 a3 : Option Value} {x : Nat} (hd : decode cc pc = .ok (.astore_n 3, 1)) (hn : jnl a2 = true) (k : J G own cc nL ini d Q ac sc h (pc + 1) (a0 :: a1 :: a2 :: some (.ref x) :: r) st) : J G own cc nL ini d Q ac sc h pc (a0 :: a1 :: a2 :: a3 :: r) (.ref x :: st) :=
  jg_astore_n hd (by show 3 < _; simp only [List.length_cons]; omega) (jput_set (lo := (a0 :: a1 :: a2 :: a3 :: r)) (v := .ref x) (by show 3 < _; simp only [List.length_cons]; omega) (fun w _ hw => jnl_at hn hw)) k
theorem j_lstore_3 {a0 a1 a2 a3 a4 : Option Value} {x : Int64} (hd : decode cc pc = .ok (.lstore_n 3, 1)) (hn : jnl a2 = true) (k : J G own cc nL ini d Q ac sc h (pc + 1) (a0 :: a1 :: a2 :: some (.long x) :: none :: r) st) : J G own cc nL ini d Q ac sc h pc (a0 :: a1 :: a2 :: a3 :: a4 :: r) (.long x :: st) :=
  jg_lstore_n hd (by show 3 + 1 < _; simp only [List.length_cons]; omega) (jput_set2 (lo := (a0 :: a1 :: a2 :: a3 :: a4 :: r)) (v := .long x) (by show 3 + 1 < _; simp only [List.length_cons]; omega) (fun w _ hw => jnl_at hn hw)) k
theorem j_iinc_3 {a0 a1 a2 : Option Value} {n : Int} {x v : Int32} (hd : decode cc pc = .ok (.iinc 3 n, 3)) (hv : x + Int32.ofInt n = v) (hn : jnl a2 = true) (k : J G own cc nL ini d Q ac sc h (pc + 3) (a0 :: a1 :: a2 :: some (.int v) :: r) st) : J G own cc nL ini d Q ac sc h pc (a0 :: a1 :: a2 :: some (.int x) :: r) st :=
  jg_iinc hd rfl hv (jput_set (lo := (a0 :: a1 :: a2 :: some (.int x) :: r)) (v := .int v) (by simp) (fun w _ hw => jnl_at hn hw)) k
theorem j_forget_3 {a0 a1 a2 a3 : Option Value} (k : J G own cc nL ini d Q ac sc h pc (a0 :: a1 :: a2 :: none :: r) st) : J G own cc nL ini d Q ac sc h pc (a0 :: a1 :: a2 :: a3 :: r) st :=
  j_forget ⟨by simp, fun j w hj => by
    have e : (a0 :: a1 :: a2 :: none :: r) = ((a0 :: a1 :: a2 :: a3 :: r) : List (Option Value)).set 3 none := rfl
    rw [e] at hj
    by_cases z : j = 3
    · subst z; simp at hj
    · rwa [List.getElem?_set_ne (Ne.symm z)] at hj⟩ k
theorem j_istore_4 {a0 a1 a2 a3 a4 : Option Value} {x : Int32} (hd : decode cc pc = .ok (.istore 4, 2)) (hn : jnl a3 = true) (k : J G own cc nL ini d Q ac sc h (pc + 2) (a0 :: a1 :: a2 :: a3 :: some (.int x) :: r) st) : J G own cc nL ini d Q ac sc h pc (a0 :: a1 :: a2 :: a3 :: a4 :: r) (.int x :: st) :=
  jg_istore hd (by show 4 < _; simp only [List.length_cons]; omega) (jput_set (lo := (a0 :: a1 :: a2 :: a3 :: a4 :: r)) (v := .int x) (by show 4 < _; simp only [List.length_cons]; omega) (fun w _ hw => jnl_at hn hw)) k
theorem j_lstore_4 {a0 a1 a2 a3 a4 a5 : Option Value} {x : Int64} (hd : decode cc pc = .ok (.lstore 4, 2)) (hn : jnl a3 = true) (k : J G own cc nL ini d Q ac sc h (pc + 2) (a0 :: a1 :: a2 :: a3 :: some (.long x) :: none :: r) st) : J G own cc nL ini d Q ac sc h pc (a0 :: a1 :: a2 :: a3 :: a4 :: a5 :: r) (.long x :: st) :=
  jg_lstore hd (by show 4 + 1 < _; simp only [List.length_cons]; omega) (jput_set2 (lo := (a0 :: a1 :: a2 :: a3 :: a4 :: a5 :: r)) (v := .long x) (by show 4 + 1 < _; simp only [List.length_cons]; omega) (fun w _ hw => jnl_at hn hw)) k
theorem j_iinc_4 {a0 a1 a2 a3 : Option Value} {n : Int} {x v : Int32} (hd : decode cc pc = .ok (.iinc 4 n, 3)) (hv : x + Int32.ofInt n = v) (hn : jnl a3 = true) (k : J G own cc nL ini d Q ac sc h (pc + 3) (a0 :: a1 :: a2 :: a3 :: some (.int v) :: r) st) : J G own cc nL ini d Q ac sc h pc (a0 :: a1 :: a2 :: a3 :: some (.int x) :: r) st :=
  jg_iinc hd rfl hv (jput_set (lo := (a0 :: a1 :: a2 :: a3 :: some (.int x) :: r)) (v := .int v) (by simp) (fun w _ hw => jnl_at hn hw)) k
theorem j_forget_4 {a0 a1 a2 a3 a4 : Option Value} (k : J G own cc nL ini d Q ac sc h pc (a0 :: a1 :: a2 :: a3 :: none :: r) st) : J G own cc nL ini d Q ac sc h pc (a0 :: a1 :: a2 :: a3 :: a4 :: r) st :=
  j_forget ⟨by simp, fun j w hj => by
    have e : (a0 :: a1 :: a2 :: a3 :: none :: r) = ((a0 :: a1 :: a2 :: a3 :: a4 :: r) : List (Option Value)).set 4 none := rfl
    rw [e] at hj
    by_cases z : j = 4
    · subst z; simp at hj
    · rwa [List.getElem?_set_ne (Ne.symm z)] at hj⟩ k
theorem j_istore_5 {a0 a1 a2 a3 a4 a5 : Option Value} {x : Int32} (hd : decode cc pc = .ok (.istore 5, 2)) (hn : jnl a4 = true) (k : J G own cc nL ini d Q ac sc h (pc + 2) (a0 :: a1 :: a2 :: a3 :: a4 :: some (.int x) :: r) st) : J G own cc nL ini d Q ac sc h pc (a0 :: a1 :: a2 :: a3 :: a4 :: a5 :: r) (.int x :: st) :=
  jg_istore hd (by show 5 < _; simp only [List.length_cons]; omega) (jput_set (lo := (a0 :: a1 :: a2 :: a3 :: a4 :: a5 :: r)) (v := .int x) (by show 5 < _; simp only [List.length_cons]; omega) (fun w _ hw => jnl_at hn hw)) k
theorem j_lstore_5 {a0 a1 a2 a3 a4 a5 a6 : Option Value} {x : Int64} (hd : decode cc pc = .ok (.lstore 5, 2)) (hn : jnl a4 = true) (k : J G own cc nL ini d Q ac sc h (pc + 2) (a0 :: a1 :: a2 :: a3 :: a4 :: some (.long x) :: none :: r) st) : J G own cc nL ini d Q ac sc h pc (a0 :: a1 :: a2 :: a3 :: a4 :: a5 :: a6 :: r) (.long x :: st) :=
  jg_lstore hd (by show 5 + 1 < _; simp only [List.length_cons]; omega) (jput_set2 (lo := (a0 :: a1 :: a2 :: a3 :: a4 :: a5 :: a6 :: r)) (v := .long x) (by show 5 + 1 < _; simp only [List.length_cons]; omega) (fun w _ hw => jnl_at hn hw)) k
theorem j_iinc_5 {a0 a1 a2 a3 a4 : Option Value} {n : Int} {x v : Int32} (hd : decode cc pc = .ok (.iinc 5 n, 3)) (hv : x + Int32.ofInt n = v) (hn : jnl a4 = true) (k : J G own cc nL ini d Q ac sc h (pc + 3) (a0 :: a1 :: a2 :: a3 :: a4 :: some (.int v) :: r) st) : J G own cc nL ini d Q ac sc h pc (a0 :: a1 :: a2 :: a3 :: a4 :: some (.int x) :: r) st :=
  jg_iinc hd rfl hv (jput_set (lo := (a0 :: a1 :: a2 :: a3 :: a4 :: some (.int x) :: r)) (v := .int v) (by simp) (fun w _ hw => jnl_at hn hw)) k
theorem j_forget_5 {a0 a1 a2 a3 a4 a5 : Option Value} (k : J G own cc nL ini d Q ac sc h pc (a0 :: a1 :: a2 :: a3 :: a4 :: none :: r) st) : J G own cc nL ini d Q ac sc h pc (a0 :: a1 :: a2 :: a3 :: a4 :: a5 :: r) st :=
  j_forget ⟨by simp, fun j w hj => by
    have e : (a0 :: a1 :: a2 :: a3 :: a4 :: none :: r) = ((a0 :: a1 :: a2 :: a3 :: a4 :: a5 :: r) : List (Option Value)).set 5 none := rfl
    rw [e] at hj
    by_cases z : j = 5
    · subst z; simp at hj
    · rwa [List.getElem?_set_ne (Ne.symm z)] at hj⟩ k
theorem j_istore_6 {a0 a1 a2 a3 a4 a5 a6 : Option Value} {x : Int32} (hd : decode cc pc = .ok (.istore 6, 2)) (hn : jnl a5 = true) (k : J G own cc nL ini d Q ac sc h (pc + 2) (a0 :: a1 :: a2 :: a3 :: a4 :: a5 :: some (.int x) :: r) st) : J G own cc nL ini d Q ac sc h pc (a0 :: a1 :: a2 :: a3 :: a4 :: a5 :: a6 :: r) (.int x :: st) :=
  jg_istore hd (by show 6 < _; simp only [List.length_cons]; omega) (jput_set (lo := (a0 :: a1 :: a2 :: a3 :: a4 :: a5 :: a6 :: r)) (v := .int x) (by show 6 < _; simp only [List.length_cons]; omega) (fun w _ hw => jnl_at hn hw)) k
theorem j_lstore_6 {a0 a1 a2 a3 a4 a5 a6 a7 : Option Value} {x : Int64} (hd : decode cc pc = .ok (.lstore 6, 2)) (hn : jnl a5 = true) (k : J G own cc nL ini d Q ac sc h (pc + 2) (a0 :: a1 :: a2 :: a3 :: a4 :: a5 :: some (.long x) :: none :: r) st) : J G own cc nL ini d Q ac sc h pc (a0 :: a1 :: a2 :: a3 :: a4 :: a5 :: a6 :: a7 :: r) (.long x :: st) :=
  jg_lstore hd (by show 6 + 1 < _; simp only [List.length_cons]; omega) (jput_set2 (lo := (a0 :: a1 :: a2 :: a3 :: a4 :: a5 :: a6 :: a7 :: r)) (v := .long x) (by show 6 + 1 < _; simp only [List.length_cons]; omega) (fun w _ hw => jnl_at hn hw)) k
theorem j_iinc_6 {a0 a1 a2 a3 a4 a5 : Option Value} {n : Int} {x v : Int32} (hd : decode cc pc = .ok (.iinc 6 n, 3)) (hv : x + Int32.ofInt n = v) (hn : jnl a5 = true) (k : J G own cc nL ini d Q ac sc h (pc + 3) (a0 :: a1 :: a2 :: a3 :: a4 :: a5 :: some (.int v) :: r) st) : J G own cc nL ini d Q ac sc h pc (a0 :: a1 :: a2 :: a3 :: a4 :: a5 :: some (.int x) :: r) st :=
  jg_iinc hd rfl hv (jput_set (lo := (a0 :: a1 :: a2 :: a3 :: a4 :: a5 :: some (.int x) :: r)) (v := .int v) (by simp) (fun w _ hw => jnl_at hn hw)) k
theorem j_forget_6 {a0 a1 a2 a3 a4 a5 a6 : Option Value} (k : J G own cc nL ini d Q ac sc h pc (a0 :: a1 :: a2 :: a3 :: a4 :: a5 :: none :: r) st) : J G own cc nL ini d Q ac sc h pc (a0 :: a1 :: a2 :: a3 :: a4 :: a5 :: a6 :: r) st :=
  j_forget ⟨by simp, fun j w hj => by
    have e : (a0 :: a1 :: a2 :: a3 :: a4 :: a5 :: none :: r) = ((a0 :: a1 :: a2 :: a3 :: a4 :: a5 :: a6 :: r) : List (Option Value)).set 6 none := rfl
    rw [e] at hj
    by_cases z : j = 6
    · subst z; simp at hj
    · rwa [List.getElem?_set_ne (Ne.symm z)] at hj⟩ k
theorem j_istore_7 {a0 a1 a2 a3 a4 a5 a6 a7 : Option Value} {x : Int32} (hd : decode cc pc = .ok (.istore 7, 2)) (hn : jnl a6 = true) (k : J G own cc nL ini d Q ac sc h (pc + 2) (a0 :: a1 :: a2 :: a3 :: a4 :: a5 :: a6 :: some (.int x) :: r) st) : J G own cc nL ini d Q ac sc h pc (a0 :: a1 :: a2 :: a3 :: a4 :: a5 :: a6 :: a7 :: r) (.int x :: st) :=
  jg_istore hd (by show 7 < _; simp only [List.length_cons]; omega) (jput_set (lo := (a0 :: a1 :: a2 :: a3 :: a4 :: a5 :: a6 :: a7 :: r)) (v := .int x) (by show 7 < _; simp only [List.length_cons]; omega) (fun w _ hw => jnl_at hn hw)) k
theorem j_lstore_7 {a0 a1 a2 a3 a4 a5 a6 a7 a8 : Option Value} {x : Int64} (hd : decode cc pc = .ok (.lstore 7, 2)) (hn : jnl a6 = true) (k : J G own cc nL ini d Q ac sc h (pc + 2) (a0 :: a1 :: a2 :: a3 :: a4 :: a5 :: a6 :: some (.long x) :: none :: r) st) : J G own cc nL ini d Q ac sc h pc (a0 :: a1 :: a2 :: a3 :: a4 :: a5 :: a6 :: a7 :: a8 :: r) (.long x :: st) :=
  jg_lstore hd (by show 7 + 1 < _; simp only [List.length_cons]; omega) (jput_set2 (lo := (a0 :: a1 :: a2 :: a3 :: a4 :: a5 :: a6 :: a7 :: a8 :: r)) (v := .long x) (by show 7 + 1 < _; simp only [List.length_cons]; omega) (fun w _ hw => jnl_at hn hw)) k
theorem j_iinc_7 {a0 a1 a2 a3 a4 a5 a6 : Option Value} {n : Int} {x v : Int32} (hd : decode cc pc = .ok (.iinc 7 n, 3)) (hv : x + Int32.ofInt n = v) (hn : jnl a6 = true) (k : J G own cc nL ini d Q ac sc h (pc + 3) (a0 :: a1 :: a2 :: a3 :: a4 :: a5 :: a6 :: some (.int v) :: r) st) : J G own cc nL ini d Q ac sc h pc (a0 :: a1 :: a2 :: a3 :: a4 :: a5 :: a6 :: some (.int x) :: r) st :=
  jg_iinc hd rfl hv (jput_set (lo := (a0 :: a1 :: a2 :: a3 :: a4 :: a5 :: a6 :: some (.int x) :: r)) (v := .int v) (by simp) (fun w _ hw => jnl_at hn hw)) k
theorem j_forget_7 {a0 a1 a2 a3 a4 a5 a6 a7 : Option Value} (k : J G own cc nL ini d Q ac sc h pc (a0 :: a1 :: a2 :: a3 :: a4 :: a5 :: a6 :: none :: r) st) : J G own cc nL ini d Q ac sc h pc (a0 :: a1 :: a2 :: a3 :: a4 :: a5 :: a6 :: a7 :: r) st :=
  j_forget ⟨by simp, fun j w hj => by
    have e : (a0 :: a1 :: a2 :: a3 :: a4 :: a5 :: a6 :: none :: r) = ((a0 :: a1 :: a2 :: a3 :: a4 :: a5 :: a6 :: a7 :: r) : List (Option Value)).set 7 none := rfl
    rw [e] at hj
    by_cases z : j = 7
    · subst z; simp at hj
    · rwa [List.getElem?_set_ne (Ne.symm z)] at hj⟩ k
theorem j_istore_8 {a0 a1 a2 a3 a4 a5 a6 a7 a8 : Option Value} {x : Int32} (hd : decode cc pc = .ok (.istore 8, 2)) (hn : jnl a7 = true) (k : J G own cc nL ini d Q ac sc h (pc + 2) (a0 :: a1 :: a2 :: a3 :: a4 :: a5 :: a6 :: a7 :: some (.int x) :: r) st) : J G own cc nL ini d Q ac sc h pc (a0 :: a1 :: a2 :: a3 :: a4 :: a5 :: a6 :: a7 :: a8 :: r) (.int x :: st) :=
  jg_istore hd (by show 8 < _; simp only [List.length_cons]; omega) (jput_set (lo := (a0 :: a1 :: a2 :: a3 :: a4 :: a5 :: a6 :: a7 :: a8 :: r)) (v := .int x) (by show 8 < _; simp only [List.length_cons]; omega) (fun w _ hw => jnl_at hn hw)) k
theorem j_lstore_8 {a0 a1 a2 a3 a4 a5 a6 a7 a8 a9 : Option Value} {x : Int64} (hd : decode cc pc = .ok (.lstore 8, 2)) (hn : jnl a7 = true) (k : J G own cc nL ini d Q ac sc h (pc + 2) (a0 :: a1 :: a2 :: a3 :: a4 :: a5 :: a6 :: a7 :: some (.long x) :: none :: r) st) : J G own cc nL ini d Q ac sc h pc (a0 :: a1 :: a2 :: a3 :: a4 :: a5 :: a6 :: a7 :: a8 :: a9 :: r) (.long x :: st) :=
  jg_lstore hd (by show 8 + 1 < _; simp only [List.length_cons]; omega) (jput_set2 (lo := (a0 :: a1 :: a2 :: a3 :: a4 :: a5 :: a6 :: a7 :: a8 :: a9 :: r)) (v := .long x) (by show 8 + 1 < _; simp only [List.length_cons]; omega) (fun w _ hw => jnl_at hn hw)) k
theorem j_iinc_8 {a0 a1 a2 a3 a4 a5 a6 a7 : Option Value} {n : Int} {x v : Int32} (hd : decode cc pc = .ok (.iinc 8 n, 3)) (hv : x + Int32.ofInt n = v) (hn : jnl a7 = true) (k : J G own cc nL ini d Q ac sc h (pc + 3) (a0 :: a1 :: a2 :: a3 :: a4 :: a5 :: a6 :: a7 :: some (.int v) :: r) st) : J G own cc nL ini d Q ac sc h pc (a0 :: a1 :: a2 :: a3 :: a4 :: a5 :: a6 :: a7 :: some (.int x) :: r) st :=
  jg_iinc hd rfl hv (jput_set (lo := (a0 :: a1 :: a2 :: a3 :: a4 :: a5 :: a6 :: a7 :: some (.int x) :: r)) (v := .int v) (by simp) (fun w _ hw => jnl_at hn hw)) k
theorem j_forget_8 {a0 a1 a2 a3 a4 a5 a6 a7 a8 : Option Value} (k : J G own cc nL ini d Q ac sc h pc (a0 :: a1 :: a2 :: a3 :: a4 :: a5 :: a6 :: a7 :: none :: r) st) : J G own cc nL ini d Q ac sc h pc (a0 :: a1 :: a2 :: a3 :: a4 :: a5 :: a6 :: a7 :: a8 :: r) st :=
  j_forget ⟨by simp, fun j w hj => by
    have e : (a0 :: a1 :: a2 :: a3 :: a4 :: a5 :: a6 :: a7 :: none :: r) = ((a0 :: a1 :: a2 :: a3 :: a4 :: a5 :: a6 :: a7 :: a8 :: r) : List (Option Value)).set 8 none := rfl
    rw [e] at hj
    by_cases z : j = 8
    · subst z; simp at hj
    · rwa [List.getElem?_set_ne (Ne.symm z)] at hj⟩ k
theorem j_istore_9 {a0 a1 a2 a3 a4 a5 a6 a7 a8 a9 : Option Value} {x : Int32} (hd : decode cc pc = .ok (.istore 9, 2)) (hn : jnl a8 = true) (k : J G own cc nL ini d Q ac sc h (pc + 2) (a0 :: a1 :: a2 :: a3 :: a4 :: a5 :: a6 :: a7 :: a8 :: some (.int x) :: r) st) : J G own cc nL ini d Q ac sc h pc (a0 :: a1 :: a2 :: a3 :: a4 :: a5 :: a6 :: a7 :: a8 :: a9 :: r) (.int x :: st) :=
  jg_istore hd (by show 9 < _; simp only [List.length_cons]; omega) (jput_set (lo := (a0 :: a1 :: a2 :: a3 :: a4 :: a5 :: a6 :: a7 :: a8 :: a9 :: r)) (v := .int x) (by show 9 < _; simp only [List.length_cons]; omega) (fun w _ hw => jnl_at hn hw)) k
theorem j_lstore_9 {a0 a1 a2 a3 a4 a5 a6 a7 a8 a9 a10 : Option Value} {x : Int64} (hd : decode cc pc = .ok (.lstore 9, 2)) (hn : jnl a8 = true) (k : J G own cc nL ini d Q ac sc h (pc + 2) (a0 :: a1 :: a2 :: a3 :: a4 :: a5 :: a6 :: a7 :: a8 :: some (.long x) :: none :: r) st) : J G own cc nL ini d Q ac sc h pc (a0 :: a1 :: a2 :: a3 :: a4 :: a5 :: a6 :: a7 :: a8 :: a9 :: a10 :: r) (.long x :: st) :=
  jg_lstore hd (by show 9 + 1 < _; simp only [List.length_cons]; omega) (jput_set2 (lo := (a0 :: a1 :: a2 :: a3 :: a4 :: a5 :: a6 :: a7 :: a8 :: a9 :: a10 :: r)) (v := .long x) (by show 9 + 1 < _; simp only [List.length_cons]; omega) (fun w _ hw => jnl_at hn hw)) k
theorem j_iinc_9 {a0 a1 a2 a3 a4 a5 a6 a7 a8 : Option Value} {n : Int} {x v : Int32} (hd : decode cc pc = .ok (.iinc 9 n, 3)) (hv : x + Int32.ofInt n = v) (hn : jnl a8 = true) (k : J G own cc nL ini d Q ac sc h (pc + 3) (a0 :: a1 :: a2 :: a3 :: a4 :: a5 :: a6 :: a7 :: a8 :: some (.int v) :: r) st) : J G own cc nL ini d Q ac sc h pc (a0 :: a1 :: a2 :: a3 :: a4 :: a5 :: a6 :: a7 :: a8 :: some (.int x) :: r) st :=
  jg_iinc hd rfl hv (jput_set (lo := (a0 :: a1 :: a2 :: a3 :: a4 :: a5 :: a6 :: a7 :: a8 :: some (.int x) :: r)) (v := .int v) (by simp) (fun w _ hw => jnl_at hn hw)) k
theorem j_forget_9 {a0 a1 a2 a3 a4 a5 a6 a7 a8 a9 : Option Value} (k : J G own cc nL ini d Q ac sc h pc (a0 :: a1 :: a2 :: a3 :: a4 :: a5 :: a6 :: a7 :: a8 :: none :: r) st) : J G own cc nL ini d Q ac sc h pc (a0 :: a1 :: a2 :: a3 :: a4 :: a5 :: a6 :: a7 :: a8 :: a9 :: r) st :=
  j_forget ⟨by simp, fun j w hj => by
    have e : (a0 :: a1 :: a2 :: a3 :: a4 :: a5 :: a6 :: a7 :: a8 :: none :: r) = ((a0 :: a1 :: a2 :: a3 :: a4 :: a5 :: a6 :: a7 :: a8 :: a9 :: r) : List (Option Value)).set 9 none := rfl
    rw [e] at hj
    by_cases z : j = 9
    · subst z; simp at hj
    · rwa [List.getElem?_set_ne (Ne.symm z)] at hj⟩ k
theorem j_istore_10 {a0 a1 a2 a3 a4 a5 a6 a7 a8 a9 a10 : Option Value} {x : Int32} (hd : decode cc pc = .ok (.istore 10, 2)) (hn : jnl a9 = true) (k : J G own cc nL ini d Q ac sc h (pc + 2) (a0 :: a1 :: a2 :: a3 :: a4 :: a5 :: a6 :: a7 :: a8 :: a9 :: some (.int x) :: r) st) : J G own cc nL ini d Q ac sc h pc (a0 :: a1 :: a2 :: a3 :: a4 :: a5 :: a6 :: a7 :: a8 :: a9 :: a10 :: r) (.int x :: st) :=
  jg_istore hd (by show 10 < _; simp only [List.length_cons]; omega) (jput_set (lo := (a0 :: a1 :: a2 :: a3 :: a4 :: a5 :: a6 :: a7 :: a8 :: a9 :: a10 :: r)) (v := .int x) (by show 10 < _; simp only [List.length_cons]; omega) (fun w _ hw => jnl_at hn hw)) k
theorem j_lstore_10 {a0 a1 a2 a3 a4 a5 a6 a7 a8 a9 a10 a11 : Option Value} {x : Int64} (hd : decode cc pc = .ok (.lstore 10, 2)) (hn : jnl a9 = true) (k : J G own cc nL ini d Q ac sc h (pc + 2) (a0 :: a1 :: a2 :: a3 :: a4 :: a5 :: a6 :: a7 :: a8 :: a9 :: some (.long x) :: none :: r) st) : J G own cc nL ini d Q ac sc h pc (a0 :: a1 :: a2 :: a3 :: a4 :: a5 :: a6 :: a7 :: a8 :: a9 :: a10 :: a11 :: r) (.long x :: st) :=
  jg_lstore hd (by show 10 + 1 < _; simp only [List.length_cons]; omega) (jput_set2 (lo := (a0 :: a1 :: a2 :: a3 :: a4 :: a5 :: a6 :: a7 :: a8 :: a9 :: a10 :: a11 :: r)) (v := .long x) (by show 10 + 1 < _; simp only [List.length_cons]; omega) (fun w _ hw => jnl_at hn hw)) k
theorem j_iinc_10 {a0 a1 a2 a3 a4 a5 a6 a7 a8 a9 : Option Value} {n : Int} {x v : Int32} (hd : decode cc pc = .ok (.iinc 10 n, 3)) (hv : x + Int32.ofInt n = v) (hn : jnl a9 = true) (k : J G own cc nL ini d Q ac sc h (pc + 3) (a0 :: a1 :: a2 :: a3 :: a4 :: a5 :: a6 :: a7 :: a8 :: a9 :: some (.int v) :: r) st) : J G own cc nL ini d Q ac sc h pc (a0 :: a1 :: a2 :: a3 :: a4 :: a5 :: a6 :: a7 :: a8 :: a9 :: some (.int x) :: r) st :=
  jg_iinc hd rfl hv (jput_set (lo := (a0 :: a1 :: a2 :: a3 :: a4 :: a5 :: a6 :: a7 :: a8 :: a9 :: some (.int x) :: r)) (v := .int v) (by simp) (fun w _ hw => jnl_at hn hw)) k
theorem j_forget_10 {a0 a1 a2 a3 a4 a5 a6 a7 a8 a9 a10 : Option Value} (k : J G own cc nL ini d Q ac sc h pc (a0 :: a1 :: a2 :: a3 :: a4 :: a5 :: a6 :: a7 :: a8 :: a9 :: none :: r) st) : J G own cc nL ini d Q ac sc h pc (a0 :: a1 :: a2 :: a3 :: a4 :: a5 :: a6 :: a7 :: a8 :: a9 :: a10 :: r) st :=
  j_forget ⟨by simp, fun j w hj => by
    have e : (a0 :: a1 :: a2 :: a3 :: a4 :: a5 :: a6 :: a7 :: a8 :: a9 :: none :: r) = ((a0 :: a1 :: a2 :: a3 :: a4 :: a5 :: a6 :: a7 :: a8 :: a9 :: a10 :: r) : List (Option Value)).set 10 none := rfl
    rw [e] at hj
    by_cases z : j = 10
    · subst z; simp at hj
    · rwa [List.getElem?_set_ne (Ne.symm z)] at hj⟩ k
theorem j_istore_11 {a0 a1 a2 a3 a4 a5 a6 a7 a8 a9 a10 a11 : Option Value} {x : Int32} (hd : decode cc pc = .ok (.istore 11, 2)) (hn : jnl a10 = true) (k : J G own cc nL ini d Q ac sc h (pc + 2) (a0 :: a1 :: a2 :: a3 :: a4 :: a5 :: a6 :: a7 :: a8 :: a9 :: a10 :: some (.int x) :: r) st) : J G own cc nL ini d Q ac sc h pc (a0 :: a1 :: a2 :: a3 :: a4 :: a5 :: a6 :: a7 :: a8 :: a9 :: a10 :: a11 :: r) (.int x :: st) :=
  jg_istore hd (by show 11 < _; simp only [List.length_cons]; omega) (jput_set (lo := (a0 :: a1 :: a2 :: a3 :: a4 :: a5 :: a6 :: a7 :: a8 :: a9 :: a10 :: a11 :: r)) (v := .int x) (by show 11 < _; simp only [List.length_cons]; omega) (fun w _ hw => jnl_at hn hw)) k
theorem j_lstore_11 {a0 a1 a2 a3 a4 a5 a6 a7 a8 a9 a10 a11 a12 : Option Value} {x : Int64} (hd : decode cc pc = .ok (.lstore 11, 2)) (hn : jnl a10 = true) (k : J G own cc nL ini d Q ac sc h (pc + 2) (a0 :: a1 :: a2 :: a3 :: a4 :: a5 :: a6 :: a7 :: a8 :: a9 :: a10 :: some (.long x) :: none :: r) st) : J G own cc nL ini d Q ac sc h pc (a0 :: a1 :: a2 :: a3 :: a4 :: a5 :: a6 :: a7 :: a8 :: a9 :: a10 :: a11 :: a12 :: r) (.long x :: st) :=
  jg_lstore hd (by show 11 + 1 < _; simp only [List.length_cons]; omega) (jput_set2 (lo := (a0 :: a1 :: a2 :: a3 :: a4 :: a5 :: a6 :: a7 :: a8 :: a9 :: a10 :: a11 :: a12 :: r)) (v := .long x) (by show 11 + 1 < _; simp only [List.length_cons]; omega) (fun w _ hw => jnl_at hn hw)) k
theorem j_iinc_11 {a0 a1 a2 a3 a4 a5 a6 a7 a8 a9 a10 : Option Value} {n : Int} {x v : Int32} (hd : decode cc pc = .ok (.iinc 11 n, 3)) (hv : x + Int32.ofInt n = v) (hn : jnl a10 = true) (k : J G own cc nL ini d Q ac sc h (pc + 3) (a0 :: a1 :: a2 :: a3 :: a4 :: a5 :: a6 :: a7 :: a8 :: a9 :: a10 :: some (.int v) :: r) st) : J G own cc nL ini d Q ac sc h pc (a0 :: a1 :: a2 :: a3 :: a4 :: a5 :: a6 :: a7 :: a8 :: a9 :: a10 :: some (.int x) :: r) st :=
  jg_iinc hd rfl hv (jput_set (lo := (a0 :: a1 :: a2 :: a3 :: a4 :: a5 :: a6 :: a7 :: a8 :: a9 :: a10 :: some (.int x) :: r)) (v := .int v) (by simp) (fun w _ hw => jnl_at hn hw)) k
theorem j_forget_11 {a0 a1 a2 a3 a4 a5 a6 a7 a8 a9 a10 a11 : Option Value} (k : J G own cc nL ini d Q ac sc h pc (a0 :: a1 :: a2 :: a3 :: a4 :: a5 :: a6 :: a7 :: a8 :: a9 :: a10 :: none :: r) st) : J G own cc nL ini d Q ac sc h pc (a0 :: a1 :: a2 :: a3 :: a4 :: a5 :: a6 :: a7 :: a8 :: a9 :: a10 :: a11 :: r) st :=
  j_forget ⟨by simp, fun j w hj => by
    have e : (a0 :: a1 :: a2 :: a3 :: a4 :: a5 :: a6 :: a7 :: a8 :: a9 :: a10 :: none :: r) = ((a0 :: a1 :: a2 :: a3 :: a4 :: a5 :: a6 :: a7 :: a8 :: a9 :: a10 :: a11 :: r) : List (Option Value)).set 11 none := rfl
    rw [e] at hj
    by_cases z : j = 11
    · subst z; simp at hj
    · rwa [List.getElem?_set_ne (Ne.symm z)] at hj⟩ k
theorem j_istore_12 {a0 a1 a2 a3 a4 a5 a6 a7 a8 a9 a10 a11 a12 : Option Value} {x : Int32} (hd : decode cc pc = .ok (.istore 12, 2)) (hn : jnl a11 = true) (k : J G own cc nL ini d Q ac sc h (pc + 2) (a0 :: a1 :: a2 :: a3 :: a4 :: a5 :: a6 :: a7 :: a8 :: a9 :: a10 :: a11 :: some (.int x) :: r) st) : J G own cc nL ini d Q ac sc h pc (a0 :: a1 :: a2 :: a3 :: a4 :: a5 :: a6 :: a7 :: a8 :: a9 :: a10 :: a11 :: a12 :: r) (.int x :: st) :=
  jg_istore hd (by show 12 < _; simp only [List.length_cons]; omega) (jput_set (lo := (a0 :: a1 :: a2 :: a3 :: a4 :: a5 :: a6 :: a7 :: a8 :: a9 :: a10 :: a11 :: a12 :: r)) (v := .int x) (by show 12 < _; simp only [List.length_cons]; omega) (fun w _ hw => jnl_at hn hw)) k
theorem j_lstore_12 {a0 a1 a2 a3 a4 a5 a6 a7 a8 a9 a10 a11 a12 a13 : Option Value} {x : Int64} (hd : decode cc pc = .ok (.lstore 12, 2)) (hn : jnl a11 = true) (k : J G own cc nL ini d Q ac sc h (pc + 2) (a0 :: a1 :: a2 :: a3 :: a4 :: a5 :: a6 :: a7 :: a8 :: a9 :: a10 :: a11 :: some (.long x) :: none :: r) st) : J G own cc nL ini d Q ac sc h pc (a0 :: a1 :: a2 :: a3 :: a4 :: a5 :: a6 :: a7 :: a8 :: a9 :: a10 :: a11 :: a12 :: a13 :: r) (.long x :: st) :=
  jg_lstore hd (by show 12 + 1 < _; simp only [List.length_cons]; omega) (jput_set2 (lo := (a0 :: a1 :: a2 :: a3 :: a4 :: a5 :: a6 :: a7 :: a8 :: a9 :: a10 :: a11 :: a12 :: a13 :: r)) (v := .long x) (by show 12 + 1 < _; simp only [List.length_cons]; omega) (fun w _ hw => jnl_at hn hw)) k
theorem j_iinc_12 {a0 a1 a2 a3 a4 a5 a6 a7 a8 a9 a10 a11 : Option Value} {n : Int} {x v : Int32} (hd : decode cc pc = .ok (.iinc 12 n, 3)) (hv : x + Int32.ofInt n = v) (hn : jnl a11 = true) (k : J G own cc nL ini d Q ac sc h (pc + 3) (a0 :: a1 :: a2 :: a3 :: a4 :: a5 :: a6 :: a7 :: a8 :: a9 :: a10 :: a11 :: some (.int v) :: r) st) : J G own cc nL ini d Q ac sc h pc (a0 :: a1 :: a2 :: a3 :: a4 :: a5 :: a6 :: a7 :: a8 :: a9 :: a10 :: a11 :: some (.int x) :: r) st :=
  jg_iinc hd rfl hv (jput_set (lo := (a0 :: a1 :: a2 :: a3 :: a4 :: a5 :: a6 :: a7 :: a8 :: a9 :: a10 :: a11 :: some (.int x) :: r)) (v := .int v) (by simp) (fun w _ hw => jnl_at hn hw)) k
theorem j_forget_12 {a0 a1 a2 a3 a4 a5 a6 a7 a8 a9 a10 a11 a12 : Option Value} (k : J G own cc nL ini d Q ac sc h pc (a0 :: a1 :: a2 :: a3 :: a4 :: a5 :: a6 :: a7 :: a8 :: a9 :: a10 :: a11 :: none :: r) st) : J G own cc nL ini d Q ac sc h pc (a0 :: a1 :: a2 :: a3 :: a4 :: a5 :: a6 :: a7 :: a8 :: a9 :: a10 :: a11 :: a12 :: r) st :=
  j_forget ⟨by simp, fun j w hj => by
    have e : (a0 :: a1 :: a2 :: a3 :: a4 :: a5 :: a6 :: a7 :: a8 :: a9 :: a10 :: a11 :: none :: r) = ((a0 :: a1 :: a2 :: a3 :: a4 :: a5 :: a6 :: a7 :: a8 :: a9 :: a10 :: a11 :: a12 :: r) : List (Option Value)).set 12 none := rfl
    rw [e] at hj
    by_cases z : j = 12
    · subst z; simp at hj
    · rwa [List.getElem?_set_ne (Ne.symm z)] at hj⟩ k
theorem j_istore_13 {a0 a1 a2 a3 a4 a5 a6 a7 a8 a9 a10 a11 a12 a13 : Option Value} {x : Int32} (hd : decode cc pc = .ok (.istore 13, 2)) (hn : jnl a12 = true) (k : J G own cc nL ini d Q ac sc h (pc + 2) (a0 :: a1 :: a2 :: a3 :: a4 :: a5 :: a6 :: a7 :: a8 :: a9 :: a10 :: a11 :: a12 :: some (.int x) :: r) st) : J G own cc nL ini d Q ac sc h pc (a0 :: a1 :: a2 :: a3 :: a4 :: a5 :: a6 :: a7 :: a8 :: a9 :: a10 :: a11 :: a12 :: a13 :: r) (.int x :: st) :=
  jg_istore hd (by show 13 < _; simp only [List.length_cons]; omega) (jput_set (lo := (a0 :: a1 :: a2 :: a3 :: a4 :: a5 :: a6 :: a7 :: a8 :: a9 :: a10 :: a11 :: a12 :: a13 :: r)) (v := .int x) (by show 13 < _; simp only [List.length_cons]; omega) (fun w _ hw => jnl_at hn hw)) k
theorem j_lstore_13 {a0 a1 a2 a3 a4 a5 a6 a7 a8 a9 a10 a11 a12 a13 a14 : Option Value} {x : Int64} (hd : decode cc pc = .ok (.lstore 13, 2)) (hn : jnl a12 = true) (k : J G own cc nL ini d Q ac sc h (pc + 2) (a0 :: a1 :: a2 :: a3 :: a4 :: a5 :: a6 :: a7 :: a8 :: a9 :: a10 :: a11 :: a12 :: some (.long x) :: none :: r) st) : J G own cc nL ini d Q ac sc h pc (a0 :: a1 :: a2 :: a3 :: a4 :: a5 :: a6 :: a7 :: a8 :: a9 :: a10 :: a11 :: a12 :: a13 :: a14 :: r) (.long x :: st) :=
  jg_lstore hd (by show 13 + 1 < _; simp only [List.length_cons]; omega) (jput_set2 (lo := (a0 :: a1 :: a2 :: a3 :: a4 :: a5 :: a6 :: a7 :: a8 :: a9 :: a10 :: a11 :: a12 :: a13 :: a14 :: r)) (v := .long x) (by show 13 + 1 < _; simp only [List.length_cons]; omega) (fun w _ hw => jnl_at hn hw)) k
theorem j_iinc_13 {a0 a1 a2 a3 a4 a5 a6 a7 a8 a9 a10 a11 a12 : Option Value} {n : Int} {x v : Int32} (hd : decode cc pc = .ok (.iinc 13 n, 3)) (hv : x + Int32.ofInt n = v) (hn : jnl a12 = true) (k : J G own cc nL ini d Q ac sc h (pc + 3) (a0 :: a1 :: a2 :: a3 :: a4 :: a5 :: a6 :: a7 :: a8 :: a9 :: a10 :: a11 :: a12 :: some (.int v) :: r) st) : J G own cc nL ini d Q ac sc h pc (a0 :: a1 :: a2 :: a3 :: a4 :: a5 :: a6 :: a7 :: a8 :: a9 :: a10 :: a11 :: a12 :: some (.int x) :: r) st :=
  jg_iinc hd rfl hv (jput_set (lo := (a0 :: a1 :: a2 :: a3 :: a4 :: a5 :: a6 :: a7 :: a8 :: a9 :: a10 :: a11 :: a12 :: some (.int x) :: r)) (v := .int v) (by simp) (fun w _ hw => jnl_at hn hw)) k
theorem j_forget_13 {a0 a1 a2 a3 a4 a5 a6 a7 a8 a9 a10 a11 a12 a13 : Option Value} (k : J G own cc nL ini d Q ac sc h pc (a0 :: a1 :: a2 :: a3 :: a4 :: a5 :: a6 :: a7 :: a8 :: a9 :: a10 :: a11 :: a12 :: none :: r) st) : J G own cc nL ini d Q ac sc h pc (a0 :: a1 :: a2 :: a3 :: a4 :: a5 :: a6 :: a7 :: a8 :: a9 :: a10 :: a11 :: a12 :: a13 :: r) st :=
  j_forget ⟨by simp, fun j w hj => by
    have e : (a0 :: a1 :: a2 :: a3 :: a4 :: a5 :: a6 :: a7 :: a8 :: a9 :: a10 :: a11 :: a12 :: none :: r) = ((a0 :: a1 :: a2 :: a3 :: a4 :: a5 :: a6 :: a7 :: a8 :: a9 :: a10 :: a11 :: a12 :: a13 :: r) : List (Option Value)).set 13 none := rfl
    rw [e] at hj
    by_cases z : j = 13
    · subst z; simp at hj
    · rwa [List.getElem?_set_ne (Ne.symm z)] at hj⟩ k
theorem j_istore_14 {a0 a1 a2 a3 a4 a5 a6 a7 a8 a9 a10 a11 a12 a13 a14 : Option Value} {x : Int32} (hd : decode cc pc = .ok (.istore 14, 2)) (hn : jnl a13 = true) (k : J G own cc nL ini d Q ac sc h (pc + 2) (a0 :: a1 :: a2 :: a3 :: a4 :: a5 :: a6 :: a7 :: a8 :: a9 :: a10 :: a11 :: a12 :: a13 :: some (.int x) :: r) st) : J G own cc nL ini d Q ac sc h pc (a0 :: a1 :: a2 :: a3 :: a4 :: a5 :: a6 :: a7 :: a8 :: a9 :: a10 :: a11 :: a12 :: a13 :: a14 :: r) (.int x :: st) :=
  jg_istore hd (by show 14 < _; simp only [List.length_cons]; omega) (jput_set (lo := (a0 :: a1 :: a2 :: a3 :: a4 :: a5 :: a6 :: a7 :: a8 :: a9 :: a10 :: a11 :: a12 :: a13 :: a14 :: r)) (v := .int x) (by show 14 < _; simp only [List.length_cons]; omega) (fun w _ hw => jnl_at hn hw)) k
theorem j_lstore_14 {a0 a1 a2 a3 a4 a5 a6 a7 a8 a9 a10 a11 a12 a13 a14 a15 : Option Value} {x : Int64} (hd : decode cc pc = .ok (.lstore 14, 2)) (hn : jnl a13 = true) (k : J G own cc nL ini d Q ac sc h (pc + 2) (a0 :: a1 :: a2 :: a3 :: a4 :: a5 :: a6 :: a7 :: a8 :: a9 :: a10 :: a11 :: a12 :: a13 :: some (.long x) :: none :: r) st) : J G own cc nL ini d Q ac sc h pc (a0 :: a1 :: a2 :: a3 :: a4 :: a5 :: a6 :: a7 :: a8 :: a9 :: a10 :: a11 :: a12 :: a13 :: a14 :: a15 :: r) (.long x :: st) :=
  jg_lstore hd (by show 14 + 1 < _; simp only [List.length_cons]; omega) (jput_set2 (lo := (a0 :: a1 :: a2 :: a3 :: a4 :: a5 :: a6 :: a7 :: a8 :: a9 :: a10 :: a11 :: a12 :: a13 :: a14 :: a15 :: r)) (v := .long x) (by show 14 + 1 < _; simp only [List.length_cons]; omega) (fun w _ hw => jnl_at hn hw)) k
theorem j_iinc_14 {a0 a1 a2 a3 a4 a5 a6 a7 a8 a9 a10 a11 a12 a13 : Option Value} {n : Int} {x v : Int32} (hd : decode cc pc = .ok (.iinc 14 n, 3)) (hv : x + Int32.ofInt n = v) (hn : jnl a13 = true) (k : J G own cc nL ini d Q ac sc h (pc + 3) (a0 :: a1 :: a2 :: a3 :: a4 :: a5 :: a6 :: a7 :: a8 :: a9 :: a10 :: a11 :: a12 :: a13 :: some (.int v) :: r) st) : J G own cc nL ini d Q ac sc h pc (a0 :: a1 :: a2 :: a3 :: a4 :: a5 :: a6 :: a7 :: a8 :: a9 :: a10 :: a11 :: a12 :: a13 :: some (.int x) :: r) st :=
  jg_iinc hd rfl hv (jput_set (lo := (a0 :: a1 :: a2 :: a3 :: a4 :: a5 :: a6 :: a7 :: a8 :: a9 :: a10 :: a11 :: a12 :: a13 :: some (.int x) :: r)) (v := .int v) (by simp) (fun w _ hw => jnl_at hn hw)) k
theorem j_forget_14 {a0 a1 a2 a3 a4 a5 a6 a7 a8 a9 a10 a11 a12 a13 a14 : Option Value} (k : J G own cc nL ini d Q ac sc h pc (a0 :: a1 :: a2 :: a3 :: a4 :: a5 :: a6 :: a7 :: a8 :: a9 :: a10 :: a11 :: a12 :: a13 :: none :: r) st) : J G own cc nL ini d Q ac sc h pc (a0 :: a1 :: a2 :: a3 :: a4 :: a5 :: a6 :: a7 :: a8 :: a9 :: a10 :: a11 :: a12 :: a13 :: a14 :: r) st :=
  j_forget ⟨by simp, fun j w hj => by
    have e : (a0 :: a1 :: a2 :: a3 :: a4 :: a5 :: a6 :: a7 :: a8 :: a9 :: a10 :: a11 :: a12 :: a13 :: none :: r) = ((a0 :: a1 :: a2 :: a3 :: a4 :: a5 :: a6 :: a7 :: a8 :: a9 :: a10 :: a11 :: a12 :: a13 :: a14 :: r) : List (Option Value)).set 14 none := rfl
    rw [e] at hj
    by_cases z : j = 14
    · subst z; simp at hj
    · rwa [List.getElem?_set_ne (Ne.symm z)] at hj⟩ k
/-- a truth value as an int -/
def jb (b : Bool) : Int32 := if b then 1 else 0
theorem jb_0 {b : Bool} : jb b = 0 ↔ b = false := by cases b <;> decide
theorem jb_1 {b : Bool} : ¬ jb b = 0 ↔ b = true := by cases b <;> decide
theorem jRv_jb (b : Bool) : jRv (some .boolean) (some (.int (jb b))) := jRv_b b
variable {lo : List (Option Value)}
theorem j_if_eqB {b : Bool} {off : Int} {tgt : Nat} (hd : decode cc pc = .ok (.ifCond .eq off, 3)) (ht : (pc : Int) + off = (tgt : Int)) (kt : b = false → J G own cc nL ini d Q ac sc h tgt lo st) (kf : b = true → J G own cc nL ini d Q ac sc h (pc + 3) lo st) : J G own cc nL ini d Q ac sc h pc lo (.int (jb b) :: st) := j_if_eq hd ht (fun z => kt (jb_0.mp z)) (fun z => kf (jb_1.mp z))
theorem j_if_neB {b : Bool} {off : Int} {tgt : Nat} (hd : decode cc pc = .ok (.ifCond .ne off, 3)) (ht : (pc : Int) + off = (tgt : Int)) (kt : b = true → J G own cc nL ini d Q ac sc h tgt lo st) (kf : b = false → J G own cc nL ini d Q ac sc h (pc + 3) lo st) : J G own cc nL ini d Q ac sc h pc lo (.int (jb b) :: st) := j_if_ne hd ht (fun z => kt (jb_1.mp z)) (fun z => kf (jb_0.mp z))
theorem k_if_lt {x : Int32} {off : Int} {tgt : Nat} (hd : decode cc pc = .ok (.ifCond .lt off, 3)) (ht : (pc : Int) + off = (tgt : Int)) (kt : x < 0 → ¬ 0 ≤ x → J G own cc nL ini d Q ac sc h tgt lo st) (kf : ¬ x < 0 → 0 ≤ x → J G own cc nL ini d Q ac sc h (pc + 3) lo st) : J G own cc nL ini d Q ac sc h pc lo (.int x :: st) := j_if_lt hd ht (fun z => kt z (Int32.not_le.mpr z)) (fun z => kf z (Int32.not_lt.mp z))
theorem k_if_ge {x : Int32} {off : Int} {tgt : Nat} (hd : decode cc pc = .ok (.ifCond .ge off, 3)) (ht : (pc : Int) + off = (tgt : Int)) (kt : 0 ≤ x → ¬ x < 0 → J G own cc nL ini d Q ac sc h tgt lo st) (kf : ¬ 0 ≤ x → x < 0 → J G own cc nL ini d Q ac sc h (pc + 3) lo st) : J G own cc nL ini d Q ac sc h pc lo (.int x :: st) := j_if_ge hd ht (fun z => kt z (Int32.not_lt.mpr z)) (fun z => kf z (Int32.not_le.mp z))
theorem k_if_gt {x : Int32} {off : Int} {tgt : Nat} (hd : decode cc pc = .ok (.ifCond .gt off, 3)) (ht : (pc : Int) + off = (tgt : Int)) (kt : 0 < x → ¬ x ≤ 0 → J G own cc nL ini d Q ac sc h tgt lo st) (kf : ¬ 0 < x → x ≤ 0 → J G own cc nL ini d Q ac sc h (pc + 3) lo st) : J G own cc nL ini d Q ac sc h pc lo (.int x :: st) := j_if_gt hd ht (fun z => kt z (Int32.not_le.mpr z)) (fun z => kf z (Int32.not_lt.mp z))
theorem k_if_le {x : Int32} {off : Int} {tgt : Nat} (hd : decode cc pc = .ok (.ifCond .le off, 3)) (ht : (pc : Int) + off = (tgt : Int)) (kt : x ≤ 0 → ¬ 0 < x → J G own cc nL ini d Q ac sc h tgt lo st) (kf : ¬ x ≤ 0 → 0 < x → J G own cc nL ini d Q ac sc h (pc + 3) lo st) : J G own cc nL ini d Q ac sc h pc lo (.int x :: st) := j_if_le hd ht (fun z => kt z (Int32.not_lt.mpr z)) (fun z => kf z (Int32.not_le.mp z))
theorem k_icmp_lt {x y : Int32} {off : Int} {tgt : Nat} (hd : decode cc pc = .ok (.if_icmp .lt off, 3)) (ht : (pc : Int) + off = (tgt : Int)) (kt : x < y → ¬ y ≤ x → J G own cc nL ini d Q ac sc h tgt lo st) (kf : ¬ x < y → y ≤ x → J G own cc nL ini d Q ac sc h (pc + 3) lo st) : J G own cc nL ini d Q ac sc h pc lo (.int y :: .int x :: st) := j_icmp_lt hd ht (fun z => kt z (Int32.not_le.mpr z)) (fun z => kf z (Int32.not_lt.mp z))
theorem k_icmp_ge {x y : Int32} {off : Int} {tgt : Nat} (hd : decode cc pc = .ok (.if_icmp .ge off, 3)) (ht : (pc : Int) + off = (tgt : Int)) (kt : y ≤ x → ¬ x < y → J G own cc nL ini d Q ac sc h tgt lo st) (kf : ¬ y ≤ x → x < y → J G own cc nL ini d Q ac sc h (pc + 3) lo st) : J G own cc nL ini d Q ac sc h pc lo (.int y :: .int x :: st) := j_icmp_ge hd ht (fun z => kt z (Int32.not_lt.mpr z)) (fun z => kf z (Int32.not_le.mp z))
theorem k_icmp_gt {x y : Int32} {off : Int} {tgt : Nat} (hd : decode cc pc = .ok (.if_icmp .gt off, 3)) (ht : (pc : Int) + off = (tgt : Int)) (kt : y < x → ¬ x ≤ y → J G own cc nL ini d Q ac sc h tgt lo st) (kf : ¬ y < x → x ≤ y → J G own cc nL ini d Q ac sc h (pc + 3) lo st) : J G own cc nL ini d Q ac sc h pc lo (.int y :: .int x :: st) := j_icmp_gt hd ht (fun z => kt z (Int32.not_le.mpr z)) (fun z => kf z (Int32.not_lt.mp z))
theorem k_icmp_le {x y : Int32} {off : Int} {tgt : Nat} (hd : decode cc pc = .ok (.if_icmp .le off, 3)) (ht : (pc : Int) + off = (tgt : Int)) (kt : x ≤ y → ¬ y < x → J G own cc nL ini d Q ac sc h tgt lo st) (kf : ¬ x ≤ y → y < x → J G own cc nL ini d Q ac sc h (pc + 3) lo st) : J G own cc nL ini d Q ac sc h pc lo (.int y :: .int x :: st) := j_icmp_le hd ht (fun z => kt z (Int32.not_lt.mpr z)) (fun z => kf z (Int32.not_le.mp z))
end JR5
section JR6
variable {G : jG} {own : String} {cc : ByteArray} {nL : Nat} {ini : Bool} {d : Nat} {Q : Option Value → jH → Prop} {ac sc : Nat} {pc : Nat} {lo : List (Option Value)} {st : List Value} {h h' : jH} {v : Option Value}
variable {y : MethodName} {cc' : ByteArray} {nL' d' mc ms idx : Nat} {ret' : Option FieldType}
theorem j_callV0 {a ci : Nat} (hd : decode cc pc = .ok (.invokevirtual idx, 3)) (hM' : MT G y cc' nL' ret' d' mc ms (.ref a :: []) h v h') (hl : Cond.methodLink own idx y ∈ jTs) (hy : jMY y cc' nL' ret' 0) (hi : Cond.instanceMethod y ∈ jTs ∧ Cond.selects y.cls y y ∈ jTs) (ho : jO h.1 h.2.1 a ci) (hc0 : vwCl[ci]?.map (fun q => q.1) = some y.cls) (hdd : d' + 1 ≤ d) (hm : nL' ≤ 45) (hst : (st.map fun v => v.category).sum ≤ 8) (k : J G own cc nL ini d Q ac sc h' (pc + 3) lo (v.toList ++ st)) : J G own cc nL ini d Q (ac + mc) (sc + ms) h pc lo (.ref a :: st) := jg_callV (As := []) hd hM' hl hy hi ho hc0 rfl hdd hm hst rfl k
theorem j_callI0 {a : Nat} (hd : decode cc pc = .ok (.invokespecial idx, 3)) (hM' : MT G y cc' nL' none d' mc ms (.ref a :: []) h v h') (hl : Cond.methodLink own idx y ∈ jTs) (hy : jMY y cc' nL' none 0) (hi : Cond.instanceMethod y ∈ jTs) (hyn : y.name = "<init>") (hdd : d' + 1 ≤ d) (hm : nL' ≤ 45) (hst : (st.map fun v => v.category).sum ≤ 8) (k : J G own cc nL ini d Q ac sc h' (pc + 3) lo (v.toList ++ st)) : J G own cc nL ini d Q (ac + mc) (sc + ms) h pc lo (.ref a :: st) := jg_callI (As := []) hd hM' hl hy hi hyn rfl hdd hm hst rfl k
theorem j_callIN0 {a : Nat} {host : String} (hd : decode cc pc = .ok (.invokespecial idx, 3)) (hM' : MT G y cc' nL' none d' mc ms (.ref a :: []) h v h') (hl : ∀ s : State, jS G s → va_Nw (.methodLinkNest own idx y host) s) (hy : jMY y cc' nL' none 0) (hi : Cond.instanceMethod y ∈ jTs) (hyn : y.name = "<init>") (hdd : d' + 1 ≤ d) (hm : nL' ≤ 45) (hst : (st.map fun v => v.category).sum ≤ 8) (k : J G own cc nL ini d Q ac sc h' (pc + 3) lo (v.toList ++ st)) : J G own cc nL ini d Q (ac + mc) (sc + ms) h pc lo (.ref a :: st) := jg_callIN (As := []) hd hM' hl hy hi hyn rfl hdd hm hst rfl k
theorem j_callV1 {a ci : Nat} {x1 : Value} (hd : decode cc pc = .ok (.invokevirtual idx, 3)) (hM' : MT G y cc' nL' ret' d' mc ms (.ref a :: [x1]) h v h') (hl : Cond.methodLink own idx y ∈ jTs) (hy : jMY y cc' nL' ret' 1) (hi : Cond.instanceMethod y ∈ jTs ∧ Cond.selects y.cls y y ∈ jTs) (ho : jO h.1 h.2.1 a ci) (hc0 : vwCl[ci]?.map (fun q => q.1) = some y.cls) (hdd : d' + 1 ≤ d) (hm : nL' ≤ 45) (hst : (st.map fun v => v.category).sum ≤ 8) (k : J G own cc nL ini d Q ac sc h' (pc + 3) lo (v.toList ++ st)) : J G own cc nL ini d Q (ac + mc) (sc + ms) h pc lo (x1 :: .ref a :: st) := jg_callV (As := [x1]) hd hM' hl hy hi ho hc0 rfl hdd hm hst rfl k
theorem j_callS1 {x1 : Value} (hd : decode cc pc = .ok (.invokestatic idx, 3)) (hM' : MT G y cc' nL' ret' d' mc ms [x1] h v h') (hl : Cond.methodLink own idx y ∈ jTs) (hy : jMY y cc' nL' ret' 1) (hi : Cond.static y ∈ jTs) (hdd : d' + 1 ≤ d) (hm : nL' ≤ 45) (hst : (st.map fun v => v.category).sum ≤ 8) (k : J G own cc nL ini d Q ac sc h' (pc + 3) lo (v.toList ++ st)) : J G own cc nL ini d Q (ac + mc) (sc + ms) h pc lo (x1 :: st) := jg_callS (As := [x1]) hd hM' hl hy hi rfl hdd hm hst rfl k
theorem j_callI1 {a : Nat} {x1 : Value} (hd : decode cc pc = .ok (.invokespecial idx, 3)) (hM' : MT G y cc' nL' none d' mc ms (.ref a :: [x1]) h v h') (hl : Cond.methodLink own idx y ∈ jTs) (hy : jMY y cc' nL' none 1) (hi : Cond.instanceMethod y ∈ jTs) (hyn : y.name = "<init>") (hdd : d' + 1 ≤ d) (hm : nL' ≤ 45) (hst : (st.map fun v => v.category).sum ≤ 8) (k : J G own cc nL ini d Q ac sc h' (pc + 3) lo (v.toList ++ st)) : J G own cc nL ini d Q (ac + mc) (sc + ms) h pc lo (x1 :: .ref a :: st) := jg_callI (As := [x1]) hd hM' hl hy hi hyn rfl hdd hm hst rfl k
theorem j_callIN1 {a : Nat} {host : String} {x1 : Value} (hd : decode cc pc = .ok (.invokespecial idx, 3)) (hM' : MT G y cc' nL' none d' mc ms (.ref a :: [x1]) h v h') (hl : ∀ s : State, jS G s → va_Nw (.methodLinkNest own idx y host) s) (hy : jMY y cc' nL' none 1) (hi : Cond.instanceMethod y ∈ jTs) (hyn : y.name = "<init>") (hdd : d' + 1 ≤ d) (hm : nL' ≤ 45) (hst : (st.map fun v => v.category).sum ≤ 8) (k : J G own cc nL ini d Q ac sc h' (pc + 3) lo (v.toList ++ st)) : J G own cc nL ini d Q (ac + mc) (sc + ms) h pc lo (x1 :: .ref a :: st) := jg_callIN (As := [x1]) hd hM' hl hy hi hyn rfl hdd hm hst rfl k
theorem j_callV2 {a ci : Nat} {x1 x2 : Value} (hd : decode cc pc = .ok (.invokevirtual idx, 3)) (hM' : MT G y cc' nL' ret' d' mc ms (.ref a :: [x1, x2]) h v h') (hl : Cond.methodLink own idx y ∈ jTs) (hy : jMY y cc' nL' ret' 2) (hi : Cond.instanceMethod y ∈ jTs ∧ Cond.selects y.cls y y ∈ jTs) (ho : jO h.1 h.2.1 a ci) (hc0 : vwCl[ci]?.map (fun q => q.1) = some y.cls) (hdd : d' + 1 ≤ d) (hm : nL' ≤ 45) (hst : (st.map fun v => v.category).sum ≤ 8) (k : J G own cc nL ini d Q ac sc h' (pc + 3) lo (v.toList ++ st)) : J G own cc nL ini d Q (ac + mc) (sc + ms) h pc lo (x2 :: x1 :: .ref a :: st) := jg_callV (As := [x1, x2]) hd hM' hl hy hi ho hc0 rfl hdd hm hst rfl k
theorem j_callS2 {x1 x2 : Value} (hd : decode cc pc = .ok (.invokestatic idx, 3)) (hM' : MT G y cc' nL' ret' d' mc ms [x1, x2] h v h') (hl : Cond.methodLink own idx y ∈ jTs) (hy : jMY y cc' nL' ret' 2) (hi : Cond.static y ∈ jTs) (hdd : d' + 1 ≤ d) (hm : nL' ≤ 45) (hst : (st.map fun v => v.category).sum ≤ 8) (k : J G own cc nL ini d Q ac sc h' (pc + 3) lo (v.toList ++ st)) : J G own cc nL ini d Q (ac + mc) (sc + ms) h pc lo (x2 :: x1 :: st) := jg_callS (As := [x1, x2]) hd hM' hl hy hi rfl hdd hm hst rfl k
theorem j_callV3 {a ci : Nat} {x1 x2 x3 : Value} (hd : decode cc pc = .ok (.invokevirtual idx, 3)) (hM' : MT G y cc' nL' ret' d' mc ms (.ref a :: [x1, x2, x3]) h v h') (hl : Cond.methodLink own idx y ∈ jTs) (hy : jMY y cc' nL' ret' 3) (hi : Cond.instanceMethod y ∈ jTs ∧ Cond.selects y.cls y y ∈ jTs) (ho : jO h.1 h.2.1 a ci) (hc0 : vwCl[ci]?.map (fun q => q.1) = some y.cls) (hdd : d' + 1 ≤ d) (hm : nL' ≤ 45) (hst : (st.map fun v => v.category).sum ≤ 8) (k : J G own cc nL ini d Q ac sc h' (pc + 3) lo (v.toList ++ st)) : J G own cc nL ini d Q (ac + mc) (sc + ms) h pc lo (x3 :: x2 :: x1 :: .ref a :: st) := jg_callV (As := [x1, x2, x3]) hd hM' hl hy hi ho hc0 rfl hdd hm hst rfl k
theorem j_callS3 {x1 x2 x3 : Value} (hd : decode cc pc = .ok (.invokestatic idx, 3)) (hM' : MT G y cc' nL' ret' d' mc ms [x1, x2, x3] h v h') (hl : Cond.methodLink own idx y ∈ jTs) (hy : jMY y cc' nL' ret' 3) (hi : Cond.static y ∈ jTs) (hdd : d' + 1 ≤ d) (hm : nL' ≤ 45) (hst : (st.map fun v => v.category).sum ≤ 8) (k : J G own cc nL ini d Q ac sc h' (pc + 3) lo (v.toList ++ st)) : J G own cc nL ini d Q (ac + mc) (sc + ms) h pc lo (x3 :: x2 :: x1 :: st) := jg_callS (As := [x1, x2, x3]) hd hM' hl hy hi rfl hdd hm hst rfl k
theorem j_callSN3 {host : String} {x1 x2 x3 : Value} (hd : decode cc pc = .ok (.invokestatic idx, 3)) (hM' : MT G y cc' nL' ret' d' mc ms [x1, x2, x3] h v h') (hl : ∀ s : State, jS G s → va_Nw (.methodLinkNest own idx y host) s) (hy : jMY y cc' nL' ret' 3) (hi : Cond.static y ∈ jTs) (hdd : d' + 1 ≤ d) (hm : nL' ≤ 45) (hst : (st.map fun v => v.category).sum ≤ 8) (k : J G own cc nL ini d Q ac sc h' (pc + 3) lo (v.toList ++ st)) : J G own cc nL ini d Q (ac + mc) (sc + ms) h pc lo (x3 :: x2 :: x1 :: st) := jg_callSN (As := [x1, x2, x3]) hd hM' hl hy hi rfl hdd hm hst rfl k
theorem j_callV4 {a ci : Nat} {x1 x2 x3 x4 : Value} (hd : decode cc pc = .ok (.invokevirtual idx, 3)) (hM' : MT G y cc' nL' ret' d' mc ms (.ref a :: [x1, x2, x3, x4]) h v h') (hl : Cond.methodLink own idx y ∈ jTs) (hy : jMY y cc' nL' ret' 4) (hi : Cond.instanceMethod y ∈ jTs ∧ Cond.selects y.cls y y ∈ jTs) (ho : jO h.1 h.2.1 a ci) (hc0 : vwCl[ci]?.map (fun q => q.1) = some y.cls) (hdd : d' + 1 ≤ d) (hm : nL' ≤ 45) (hst : (st.map fun v => v.category).sum ≤ 8) (k : J G own cc nL ini d Q ac sc h' (pc + 3) lo (v.toList ++ st)) : J G own cc nL ini d Q (ac + mc) (sc + ms) h pc lo (x4 :: x3 :: x2 :: x1 :: .ref a :: st) := jg_callV (As := [x1, x2, x3, x4]) hd hM' hl hy hi ho hc0 rfl hdd hm hst rfl k
theorem j_callS4 {x1 x2 x3 x4 : Value} (hd : decode cc pc = .ok (.invokestatic idx, 3)) (hM' : MT G y cc' nL' ret' d' mc ms [x1, x2, x3, x4] h v h') (hl : Cond.methodLink own idx y ∈ jTs) (hy : jMY y cc' nL' ret' 4) (hi : Cond.static y ∈ jTs) (hdd : d' + 1 ≤ d) (hm : nL' ≤ 45) (hst : (st.map fun v => v.category).sum ≤ 8) (k : J G own cc nL ini d Q ac sc h' (pc + 3) lo (v.toList ++ st)) : J G own cc nL ini d Q (ac + mc) (sc + ms) h pc lo (x4 :: x3 :: x2 :: x1 :: st) := jg_callS (As := [x1, x2, x3, x4]) hd hM' hl hy hi rfl hdd hm hst rfl k
theorem j_callV5 {a ci : Nat} {x1 x2 x3 x4 x5 : Value} (hd : decode cc pc = .ok (.invokevirtual idx, 3)) (hM' : MT G y cc' nL' ret' d' mc ms (.ref a :: [x1, x2, x3, x4, x5]) h v h') (hl : Cond.methodLink own idx y ∈ jTs) (hy : jMY y cc' nL' ret' 5) (hi : Cond.instanceMethod y ∈ jTs ∧ Cond.selects y.cls y y ∈ jTs) (ho : jO h.1 h.2.1 a ci) (hc0 : vwCl[ci]?.map (fun q => q.1) = some y.cls) (hdd : d' + 1 ≤ d) (hm : nL' ≤ 45) (hst : (st.map fun v => v.category).sum ≤ 8) (k : J G own cc nL ini d Q ac sc h' (pc + 3) lo (v.toList ++ st)) : J G own cc nL ini d Q (ac + mc) (sc + ms) h pc lo (x5 :: x4 :: x3 :: x2 :: x1 :: .ref a :: st) := jg_callV (As := [x1, x2, x3, x4, x5]) hd hM' hl hy hi ho hc0 rfl hdd hm hst rfl k
theorem j_callS5 {x1 x2 x3 x4 x5 : Value} (hd : decode cc pc = .ok (.invokestatic idx, 3)) (hM' : MT G y cc' nL' ret' d' mc ms [x1, x2, x3, x4, x5] h v h') (hl : Cond.methodLink own idx y ∈ jTs) (hy : jMY y cc' nL' ret' 5) (hi : Cond.static y ∈ jTs) (hdd : d' + 1 ≤ d) (hm : nL' ≤ 45) (hst : (st.map fun v => v.category).sum ≤ 8) (k : J G own cc nL ini d Q ac sc h' (pc + 3) lo (v.toList ++ st)) : J G own cc nL ini d Q (ac + mc) (sc + ms) h pc lo (x5 :: x4 :: x3 :: x2 :: x1 :: st) := jg_callS (As := [x1, x2, x3, x4, x5]) hd hM' hl hy hi rfl hdd hm hst rfl k
end JR6
end
