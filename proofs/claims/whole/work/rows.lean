section
-- ===== PART A: goes FIRST, ahead of the names: the tables' words, and 'selects' of the private methods out of them =====
/-- a private method of a class that the tables say can be made, by its rows of tables_1 -/
def lw_okq (q : MethodName × Nat) : Prop := (q.1.cls ≠ "java/lang/invoke/MethodHandle" ∧ q.1.cls ≠ "java/lang/invoke/VarHandle") ∧ Cond.instantiable q.1.cls q.2 ∈ tables_1 ∧ Cond.privateMethod q.1 ∈ tables_1 ∧ Cond.instanceMethod q.1 ∈ tables_1
theorem lw_p0 : lw_okq (⟨"WallTrumpets$Text", "readItem", "(ILWallTrumpets$Plan;)I"⟩, 3) := ⟨⟨by decide +kernel, by decide +kernel⟩, List.mem_of_getElem? (i := 26) (by decide +kernel), List.mem_of_getElem? (i := 261) (by decide +kernel), List.mem_of_getElem? (i := 262) (by decide +kernel)⟩
theorem lw_p1 : lw_okq (⟨"WallTrumpets$Text", "letterAt", "(I)C"⟩, 3) := ⟨⟨by decide +kernel, by decide +kernel⟩, List.mem_of_getElem? (i := 26) (by decide +kernel), List.mem_of_getElem? (i := 265) (by decide +kernel), List.mem_of_getElem? (i := 266) (by decide +kernel)⟩
theorem lw_p2 : lw_okq (⟨"WallTrumpets$Text", "figuresAt", "(I)I"⟩, 3) := ⟨⟨by decide +kernel, by decide +kernel⟩, List.mem_of_getElem? (i := 26) (by decide +kernel), List.mem_of_getElem? (i := 269) (by decide +kernel), List.mem_of_getElem? (i := 270) (by decide +kernel)⟩
theorem lw_p3 : lw_okq (⟨"WallTrumpets$Text", "isFigure", "(I)Z"⟩, 3) := ⟨⟨by decide +kernel, by decide +kernel⟩, List.mem_of_getElem? (i := 26) (by decide +kernel), List.mem_of_getElem? (i := 273) (by decide +kernel), List.mem_of_getElem? (i := 274) (by decide +kernel)⟩
theorem lw_p4 : lw_okq (⟨"WallTrumpets$Text", "numberAt", "(II)I"⟩, 3) := ⟨⟨by decide +kernel, by decide +kernel⟩, List.mem_of_getElem? (i := 26) (by decide +kernel), List.mem_of_getElem? (i := 277) (by decide +kernel), List.mem_of_getElem? (i := 278) (by decide +kernel)⟩
theorem lw_p5 : lw_okq (⟨"WallTrumpets$Plan", "takeWall", "(III)Z"⟩, 6) := ⟨⟨by decide +kernel, by decide +kernel⟩, List.mem_of_getElem? (i := 45) (by decide +kernel), List.mem_of_getElem? (i := 285) (by decide +kernel), List.mem_of_getElem? (i := 286) (by decide +kernel)⟩
theorem lw_p6 : lw_okq (⟨"WallTrumpets$Plan", "takeProp", "(III)Z"⟩, 6) := ⟨⟨by decide +kernel, by decide +kernel⟩, List.mem_of_getElem? (i := 45) (by decide +kernel), List.mem_of_getElem? (i := 292) (by decide +kernel), List.mem_of_getElem? (i := 293) (by decide +kernel)⟩
theorem lw_p7 : lw_okq (⟨"WallTrumpets", "isNoWall", "(I)Z"⟩, 10) := ⟨⟨by decide +kernel, by decide +kernel⟩, List.mem_of_getElem? (i := 18) (by decide +kernel), List.mem_of_getElem? (i := 356) (by decide +kernel), List.mem_of_getElem? (i := 357) (by decide +kernel)⟩
theorem lw_p8 : lw_okq (⟨"WallTrumpets", "isNoPair", "(II)Z"⟩, 10) := ⟨⟨by decide +kernel, by decide +kernel⟩, List.mem_of_getElem? (i := 18) (by decide +kernel), List.mem_of_getElem? (i := 369) (by decide +kernel), List.mem_of_getElem? (i := 370) (by decide +kernel)⟩
theorem lw_p9 : lw_okq (⟨"WallTrumpets$Town", "fallWithAll", "(III)V"⟩, 8) := ⟨⟨by decide +kernel, by decide +kernel⟩, List.mem_of_getElem? (i := 81) (by decide +kernel), List.mem_of_getElem? (i := 417) (by decide +kernel), List.mem_of_getElem? (i := 418) (by decide +kernel)⟩
theorem lw_p10 : lw_okq (⟨"WallTrumpets", "othersDownBy", "(I)I"⟩, 10) := ⟨⟨by decide +kernel, by decide +kernel⟩, List.mem_of_getElem? (i := 18) (by decide +kernel), List.mem_of_getElem? (i := 473) (by decide +kernel), List.mem_of_getElem? (i := 474) (by decide +kernel)⟩
theorem lw_p11 : lw_okq (⟨"WallTrumpets$OrderSearch", "goOn", "(II)V"⟩, 8) := ⟨⟨by decide +kernel, by decide +kernel⟩, List.mem_of_getElem? (i := 160) (by decide +kernel), List.mem_of_getElem? (i := 494) (by decide +kernel), List.mem_of_getElem? (i := 495) (by decide +kernel)⟩
theorem lw_p12 : lw_okq (⟨"WallTrumpets$OrderSearch", "keepBest", "(II)V"⟩, 8) := ⟨⟨by decide +kernel, by decide +kernel⟩, List.mem_of_getElem? (i := 160) (by decide +kernel), List.mem_of_getElem? (i := 499) (by decide +kernel), List.mem_of_getElem? (i := 500) (by decide +kernel)⟩
theorem lw_p13 : lw_okq (⟨"WallTrumpets$OrderSearch", "markOf", "(LWallTrumpets$Town;)J"⟩, 8) := ⟨⟨by decide +kernel, by decide +kernel⟩, List.mem_of_getElem? (i := 160) (by decide +kernel), List.mem_of_getElem? (i := 504) (by decide +kernel), List.mem_of_getElem? (i := 505) (by decide +kernel)⟩
theorem lw_p14 : lw_okq (⟨"WallTrumpets$OrderSearch", "wasSeen", "(JI)Z"⟩, 8) := ⟨⟨by decide +kernel, by decide +kernel⟩, List.mem_of_getElem? (i := 160) (by decide +kernel), List.mem_of_getElem? (i := 508) (by decide +kernel), List.mem_of_getElem? (i := 509) (by decide +kernel)⟩
theorem lw_p15 : lw_okq (⟨"WallTrumpets", "standsWithout", "(III)Z"⟩, 10) := ⟨⟨by decide +kernel, by decide +kernel⟩, List.mem_of_getElem? (i := 18) (by decide +kernel), List.mem_of_getElem? (i := 530) (by decide +kernel), List.mem_of_getElem? (i := 531) (by decide +kernel)⟩
def lw_privs_1 : List (MethodName × Nat) := [(⟨"WallTrumpets$Text", "readItem", "(ILWallTrumpets$Plan;)I"⟩, 3), (⟨"WallTrumpets$Text", "letterAt", "(I)C"⟩, 3), (⟨"WallTrumpets$Text", "figuresAt", "(I)I"⟩, 3), (⟨"WallTrumpets$Text", "isFigure", "(I)Z"⟩, 3), (⟨"WallTrumpets$Text", "numberAt", "(II)I"⟩, 3), (⟨"WallTrumpets$Plan", "takeWall", "(III)Z"⟩, 6), (⟨"WallTrumpets$Plan", "takeProp", "(III)Z"⟩, 6), (⟨"WallTrumpets", "isNoWall", "(I)Z"⟩, 10), (⟨"WallTrumpets", "isNoPair", "(II)Z"⟩, 10), (⟨"WallTrumpets$Town", "fallWithAll", "(III)V"⟩, 8), (⟨"WallTrumpets", "othersDownBy", "(I)I"⟩, 10), (⟨"WallTrumpets$OrderSearch", "goOn", "(II)V"⟩, 8), (⟨"WallTrumpets$OrderSearch", "keepBest", "(II)V"⟩, 8), (⟨"WallTrumpets$OrderSearch", "markOf", "(LWallTrumpets$Town;)J"⟩, 8), (⟨"WallTrumpets$OrderSearch", "wasSeen", "(JI)Z"⟩, 8), (⟨"WallTrumpets", "standsWithout", "(III)Z"⟩, 10)]
theorem lw_r1 : ∀ q ∈ lw_privs_1, lw_okq q := List.forall_mem_cons.mpr ⟨lw_p0, List.forall_mem_cons.mpr ⟨lw_p1, List.forall_mem_cons.mpr ⟨lw_p2, List.forall_mem_cons.mpr ⟨lw_p3, List.forall_mem_cons.mpr ⟨lw_p4, List.forall_mem_cons.mpr ⟨lw_p5, List.forall_mem_cons.mpr ⟨lw_p6, List.forall_mem_cons.mpr ⟨lw_p7, List.forall_mem_cons.mpr ⟨lw_p8, List.forall_mem_cons.mpr ⟨lw_p9, List.forall_mem_cons.mpr ⟨lw_p10, List.forall_mem_cons.mpr ⟨lw_p11, List.forall_mem_cons.mpr ⟨lw_p12, List.forall_mem_cons.mpr ⟨lw_p13, List.forall_mem_cons.mpr ⟨lw_p14, List.forall_mem_cons.mpr ⟨lw_p15, fun _ h => absurd h List.not_mem_nil⟩⟩⟩⟩⟩⟩⟩⟩⟩⟩⟩⟩⟩⟩⟩⟩
theorem lw_p16 : lw_okq (⟨"WallTrumpets", "drawAhead", "(II)V"⟩, 10) := ⟨⟨by decide +kernel, by decide +kernel⟩, List.mem_of_getElem? (i := 18) (by decide +kernel), List.mem_of_getElem? (i := 577) (by decide +kernel), List.mem_of_getElem? (i := 578) (by decide +kernel)⟩
theorem lw_p17 : lw_okq (⟨"WallTrumpetsModel", "starts", "()V"⟩, 25) := ⟨⟨by decide +kernel, by decide +kernel⟩, List.mem_of_getElem? (i := 604) (by decide +kernel), List.mem_of_getElem? (i := 610) (by decide +kernel), List.mem_of_getElem? (i := 611) (by decide +kernel)⟩
theorem lw_p18 : lw_okq (⟨"WallTrumpetsModel", "addsWall", "(III)V"⟩, 25) := ⟨⟨by decide +kernel, by decide +kernel⟩, List.mem_of_getElem? (i := 604) (by decide +kernel), List.mem_of_getElem? (i := 614) (by decide +kernel), List.mem_of_getElem? (i := 615) (by decide +kernel)⟩
theorem lw_p19 : lw_okq (⟨"WallTrumpetsModel", "begins", "()V"⟩, 25) := ⟨⟨by decide +kernel, by decide +kernel⟩, List.mem_of_getElem? (i := 604) (by decide +kernel), List.mem_of_getElem? (i := 618) (by decide +kernel), List.mem_of_getElem? (i := 619) (by decide +kernel)⟩
theorem lw_p20 : lw_okq (⟨"WallTrumpetsModel", "faultOf", "()I"⟩, 25) := ⟨⟨by decide +kernel, by decide +kernel⟩, List.mem_of_getElem? (i := 604) (by decide +kernel), List.mem_of_getElem? (i := 715) (by decide +kernel), List.mem_of_getElem? (i := 716) (by decide +kernel)⟩
theorem lw_p21 : lw_okq (⟨"WallTrumpetsModel", "takesItem", "()Z"⟩, 25) := ⟨⟨by decide +kernel, by decide +kernel⟩, List.mem_of_getElem? (i := 604) (by decide +kernel), List.mem_of_getElem? (i := 719) (by decide +kernel), List.mem_of_getElem? (i := 720) (by decide +kernel)⟩
theorem lw_p22 : lw_okq (⟨"WallTrumpetsModel", "letterAt", "(I)I"⟩, 25) := ⟨⟨by decide +kernel, by decide +kernel⟩, List.mem_of_getElem? (i := 604) (by decide +kernel), List.mem_of_getElem? (i := 723) (by decide +kernel), List.mem_of_getElem? (i := 724) (by decide +kernel)⟩
theorem lw_p23 : lw_okq (⟨"WallTrumpetsModel", "takesWall", "()Z"⟩, 25) := ⟨⟨by decide +kernel, by decide +kernel⟩, List.mem_of_getElem? (i := 604) (by decide +kernel), List.mem_of_getElem? (i := 727) (by decide +kernel), List.mem_of_getElem? (i := 728) (by decide +kernel)⟩
theorem lw_p24 : lw_okq (⟨"WallTrumpetsModel", "takesNumber", "(III)Z"⟩, 25) := ⟨⟨by decide +kernel, by decide +kernel⟩, List.mem_of_getElem? (i := 604) (by decide +kernel), List.mem_of_getElem? (i := 731) (by decide +kernel), List.mem_of_getElem? (i := 732) (by decide +kernel)⟩
theorem lw_p25 : lw_okq (⟨"WallTrumpetsModel", "takesProp", "()Z"⟩, 25) := ⟨⟨by decide +kernel, by decide +kernel⟩, List.mem_of_getElem? (i := 604) (by decide +kernel), List.mem_of_getElem? (i := 737) (by decide +kernel), List.mem_of_getElem? (i := 738) (by decide +kernel)⟩
theorem lw_p26 : lw_okq (⟨"WallTrumpetsModel", "takesStones", "()Z"⟩, 25) := ⟨⟨by decide +kernel, by decide +kernel⟩, List.mem_of_getElem? (i := 604) (by decide +kernel), List.mem_of_getElem? (i := 741) (by decide +kernel), List.mem_of_getElem? (i := 742) (by decide +kernel)⟩
theorem lw_p27 : lw_okq (⟨"WallTrumpetsModel", "isWall", "(I)Z"⟩, 25) := ⟨⟨by decide +kernel, by decide +kernel⟩, List.mem_of_getElem? (i := 604) (by decide +kernel), List.mem_of_getElem? (i := 753) (by decide +kernel), List.mem_of_getElem? (i := 754) (by decide +kernel)⟩
theorem lw_p28 : lw_okq (⟨"WallTrumpetsModel", "stands", "(II)Z"⟩, 25) := ⟨⟨by decide +kernel, by decide +kernel⟩, List.mem_of_getElem? (i := 604) (by decide +kernel), List.mem_of_getElem? (i := 767) (by decide +kernel), List.mem_of_getElem? (i := 768) (by decide +kernel)⟩
theorem lw_p29 : lw_okq (⟨"WallTrumpetsModel", "minds", "()V"⟩, 25) := ⟨⟨by decide +kernel, by decide +kernel⟩, List.mem_of_getElem? (i := 604) (by decide +kernel), List.mem_of_getElem? (i := 771) (by decide +kernel), List.mem_of_getElem? (i := 772) (by decide +kernel)⟩
theorem lw_p30 : lw_okq (⟨"WallTrumpetsModel", "copy", "(II)V"⟩, 25) := ⟨⟨by decide +kernel, by decide +kernel⟩, List.mem_of_getElem? (i := 604) (by decide +kernel), List.mem_of_getElem? (i := 775) (by decide +kernel), List.mem_of_getElem? (i := 776) (by decide +kernel)⟩
theorem lw_p31 : lw_okq (⟨"WallTrumpetsModel", "roundsOne", "(II)V"⟩, 25) := ⟨⟨by decide +kernel, by decide +kernel⟩, List.mem_of_getElem? (i := 604) (by decide +kernel), List.mem_of_getElem? (i := 779) (by decide +kernel), List.mem_of_getElem? (i := 780) (by decide +kernel)⟩
def lw_privs_2 : List (MethodName × Nat) := [(⟨"WallTrumpets", "drawAhead", "(II)V"⟩, 10), (⟨"WallTrumpetsModel", "starts", "()V"⟩, 25), (⟨"WallTrumpetsModel", "addsWall", "(III)V"⟩, 25), (⟨"WallTrumpetsModel", "begins", "()V"⟩, 25), (⟨"WallTrumpetsModel", "faultOf", "()I"⟩, 25), (⟨"WallTrumpetsModel", "takesItem", "()Z"⟩, 25), (⟨"WallTrumpetsModel", "letterAt", "(I)I"⟩, 25), (⟨"WallTrumpetsModel", "takesWall", "()Z"⟩, 25), (⟨"WallTrumpetsModel", "takesNumber", "(III)Z"⟩, 25), (⟨"WallTrumpetsModel", "takesProp", "()Z"⟩, 25), (⟨"WallTrumpetsModel", "takesStones", "()Z"⟩, 25), (⟨"WallTrumpetsModel", "isWall", "(I)Z"⟩, 25), (⟨"WallTrumpetsModel", "stands", "(II)Z"⟩, 25), (⟨"WallTrumpetsModel", "minds", "()V"⟩, 25), (⟨"WallTrumpetsModel", "copy", "(II)V"⟩, 25), (⟨"WallTrumpetsModel", "roundsOne", "(II)V"⟩, 25)]
theorem lw_r2 : ∀ q ∈ lw_privs_2, lw_okq q := List.forall_mem_cons.mpr ⟨lw_p16, List.forall_mem_cons.mpr ⟨lw_p17, List.forall_mem_cons.mpr ⟨lw_p18, List.forall_mem_cons.mpr ⟨lw_p19, List.forall_mem_cons.mpr ⟨lw_p20, List.forall_mem_cons.mpr ⟨lw_p21, List.forall_mem_cons.mpr ⟨lw_p22, List.forall_mem_cons.mpr ⟨lw_p23, List.forall_mem_cons.mpr ⟨lw_p24, List.forall_mem_cons.mpr ⟨lw_p25, List.forall_mem_cons.mpr ⟨lw_p26, List.forall_mem_cons.mpr ⟨lw_p27, List.forall_mem_cons.mpr ⟨lw_p28, List.forall_mem_cons.mpr ⟨lw_p29, List.forall_mem_cons.mpr ⟨lw_p30, List.forall_mem_cons.mpr ⟨lw_p31, fun _ h => absurd h List.not_mem_nil⟩⟩⟩⟩⟩⟩⟩⟩⟩⟩⟩⟩⟩⟩⟩⟩
theorem lw_p32 : lw_okq (⟨"WallTrumpetsModel", "blasts", "(III)I"⟩, 25) := ⟨⟨by decide +kernel, by decide +kernel⟩, List.mem_of_getElem? (i := 604) (by decide +kernel), List.mem_of_getElem? (i := 788) (by decide +kernel), List.mem_of_getElem? (i := 789) (by decide +kernel)⟩
theorem lw_p33 : lw_okq (⟨"WallTrumpetsModel", "wouldFall", "(III)Z"⟩, 25) := ⟨⟨by decide +kernel, by decide +kernel⟩, List.mem_of_getElem? (i := 604) (by decide +kernel), List.mem_of_getElem? (i := 792) (by decide +kernel), List.mem_of_getElem? (i := 793) (by decide +kernel)⟩
theorem lw_p34 : lw_okq (⟨"WallTrumpetsModel", "falls", "(IIZ)V"⟩, 25) := ⟨⟨by decide +kernel, by decide +kernel⟩, List.mem_of_getElem? (i := 604) (by decide +kernel), List.mem_of_getElem? (i := 796) (by decide +kernel), List.mem_of_getElem? (i := 797) (by decide +kernel)⟩
theorem lw_p35 : lw_okq (⟨"WallTrumpetsModel", "fellsOne", "(IIZ)Z"⟩, 25) := ⟨⟨by decide +kernel, by decide +kernel⟩, List.mem_of_getElem? (i := 604) (by decide +kernel), List.mem_of_getElem? (i := 800) (by decide +kernel), List.mem_of_getElem? (i := 801) (by decide +kernel)⟩
theorem lw_p36 : lw_okq (⟨"WallTrumpetsModel", "passes", "(I)V"⟩, 25) := ⟨⟨by decide +kernel, by decide +kernel⟩, List.mem_of_getElem? (i := 604) (by decide +kernel), List.mem_of_getElem? (i := 809) (by decide +kernel), List.mem_of_getElem? (i := 810) (by decide +kernel)⟩
theorem lw_p37 : lw_okq (⟨"WallTrumpetsModel", "callsIn", "(II)I"⟩, 25) := ⟨⟨by decide +kernel, by decide +kernel⟩, List.mem_of_getElem? (i := 604) (by decide +kernel), List.mem_of_getElem? (i := 831) (by decide +kernel), List.mem_of_getElem? (i := 832) (by decide +kernel)⟩
theorem lw_p38 : lw_okq (⟨"WallTrumpetsModel", "tries", "()V"⟩, 25) := ⟨⟨by decide +kernel, by decide +kernel⟩, List.mem_of_getElem? (i := 604) (by decide +kernel), List.mem_of_getElem? (i := 839) (by decide +kernel), List.mem_of_getElem? (i := 840) (by decide +kernel)⟩
theorem lw_p39 : lw_okq (⟨"WallTrumpetsModel", "downOnes", "(I)I"⟩, 25) := ⟨⟨by decide +kernel, by decide +kernel⟩, List.mem_of_getElem? (i := 604) (by decide +kernel), List.mem_of_getElem? (i := 847) (by decide +kernel), List.mem_of_getElem? (i := 848) (by decide +kernel)⟩
theorem lw_p40 : lw_okq (⟨"WallTrumpetsModel", "bestOrder", "()I"⟩, 25) := ⟨⟨by decide +kernel, by decide +kernel⟩, List.mem_of_getElem? (i := 604) (by decide +kernel), List.mem_of_getElem? (i := 859) (by decide +kernel), List.mem_of_getElem? (i := 860) (by decide +kernel)⟩
theorem lw_p41 : lw_okq (⟨"WallTrumpetsModel", "isSo", "(I)Z"⟩, 25) := ⟨⟨by decide +kernel, by decide +kernel⟩, List.mem_of_getElem? (i := 604) (by decide +kernel), List.mem_of_getElem? (i := 887) (by decide +kernel), List.mem_of_getElem? (i := 888) (by decide +kernel)⟩
theorem lw_p42 : lw_okq (⟨"WallTrumpetsModel", "hurtAll", "(I)I"⟩, 25) := ⟨⟨by decide +kernel, by decide +kernel⟩, List.mem_of_getElem? (i := 604) (by decide +kernel), List.mem_of_getElem? (i := 905) (by decide +kernel), List.mem_of_getElem? (i := 906) (by decide +kernel)⟩
theorem lw_p43 : lw_okq (⟨"WallTrumpetsModel", "propsThere", "()I"⟩, 25) := ⟨⟨by decide +kernel, by decide +kernel⟩, List.mem_of_getElem? (i := 604) (by decide +kernel), List.mem_of_getElem? (i := 921) (by decide +kernel), List.mem_of_getElem? (i := 922) (by decide +kernel)⟩
def lw_privs_3 : List (MethodName × Nat) := [(⟨"WallTrumpetsModel", "blasts", "(III)I"⟩, 25), (⟨"WallTrumpetsModel", "wouldFall", "(III)Z"⟩, 25), (⟨"WallTrumpetsModel", "falls", "(IIZ)V"⟩, 25), (⟨"WallTrumpetsModel", "fellsOne", "(IIZ)Z"⟩, 25), (⟨"WallTrumpetsModel", "passes", "(I)V"⟩, 25), (⟨"WallTrumpetsModel", "callsIn", "(II)I"⟩, 25), (⟨"WallTrumpetsModel", "tries", "()V"⟩, 25), (⟨"WallTrumpetsModel", "downOnes", "(I)I"⟩, 25), (⟨"WallTrumpetsModel", "bestOrder", "()I"⟩, 25), (⟨"WallTrumpetsModel", "isSo", "(I)Z"⟩, 25), (⟨"WallTrumpetsModel", "hurtAll", "(I)I"⟩, 25), (⟨"WallTrumpetsModel", "propsThere", "()I"⟩, 25)]
theorem lw_r3 : ∀ q ∈ lw_privs_3, lw_okq q := List.forall_mem_cons.mpr ⟨lw_p32, List.forall_mem_cons.mpr ⟨lw_p33, List.forall_mem_cons.mpr ⟨lw_p34, List.forall_mem_cons.mpr ⟨lw_p35, List.forall_mem_cons.mpr ⟨lw_p36, List.forall_mem_cons.mpr ⟨lw_p37, List.forall_mem_cons.mpr ⟨lw_p38, List.forall_mem_cons.mpr ⟨lw_p39, List.forall_mem_cons.mpr ⟨lw_p40, List.forall_mem_cons.mpr ⟨lw_p41, List.forall_mem_cons.mpr ⟨lw_p42, List.forall_mem_cons.mpr ⟨lw_p43, fun _ h => absurd h List.not_mem_nil⟩⟩⟩⟩⟩⟩⟩⟩⟩⟩⟩⟩
def lw_privs : List (MethodName × Nat) := lw_privs_1 ++ (lw_privs_2 ++ (lw_privs_3))
def lw_tbl : List Cond := k2_sels lw_privs ++ tables_1
theorem lw_privs_ok : ∀ q ∈ lw_privs, lw_okq q := by
  show ∀ q ∈ lw_privs_1 ++ (lw_privs_2 ++ (lw_privs_3)), lw_okq q
  exact List.forall_mem_append.mpr ⟨lw_r1, List.forall_mem_append.mpr ⟨lw_r2, lw_r3⟩⟩
end
section
def RX0 : String := "WallTrumpets$Notes"
def TX0 : u_T := fun k => match k with
  | 0 => ("WallTrumpets$Notes", "trumpets", "[I", true)
  | 1 => ("WallTrumpets$Notes", "rounded", "[I", true)
  | 2 => ("WallTrumpets$Notes", "felled", "[I", true)
  | _ => ("WallTrumpets$Notes", "count", "I", false)
def tyX0 : Nat → FieldType := fun k => match k with
  | 0 => .array .int
  | 1 => .array .int
  | 2 => .array .int
  | _ => .int
abbrev wsX00 : List Cond := u_ws RX0 TX0 4
theorem nmX0 : ∀ a, a < 4 → ∀ b, b < 4 → a ≠ b → (TX0 a).2.1 ≠ (TX0 b).2.1 := by decide +kernel
theorem tyX0_ok : ∀ k, k < 4 → parseFieldDescriptor (TX0 k).2.2.1 = some (tyX0 k) := by decide +kernel
abbrev cX0_init : ByteArray := prog_2_method_1_code
def yX0_init : MethodName := ⟨RX0, "<init>", "()V"⟩
abbrev cX0_isEnded : ByteArray := prog_2_method_2_code
def yX0_isEnded : MethodName := ⟨RX0, "isEnded", "()Z"⟩
abbrev cX0_add : ByteArray := prog_2_method_3_code
def yX0_add : MethodName := ⟨RX0, "add", "(III)V"⟩
abbrev cX0_couldBe : ByteArray := prog_2_method_4_code
def yX0_couldBe : MethodName := ⟨RX0, "couldBe", "(I)Z"⟩
def RX1 : String := "WallTrumpets$OrderSearch"
def TX1 : u_T := fun k => match k with
  | 0 => ("WallTrumpets$OrderSearch", "plan", "LWallTrumpets$Plan;", true)
  | 1 => ("WallTrumpets$OrderSearch", "towns", "[LWallTrumpets$Town;", true)
  | 2 => ("WallTrumpets$OrderSearch", "path", "[I", true)
  | 3 => ("WallTrumpets$OrderSearch", "best", "[I", true)
  | 4 => ("WallTrumpets$OrderSearch", "seen", "[J", true)
  | 5 => ("WallTrumpets$OrderSearch", "seenBy", "[I", true)
  | 6 => ("WallTrumpets$OrderSearch", "length", "I", false)
  | _ => ("WallTrumpets$OrderSearch", "fewest", "I", false)
def tyX1 : Nat → FieldType := fun k => match k with
  | 0 => .object "WallTrumpets$Plan"
  | 1 => .array (.object "WallTrumpets$Town")
  | 2 => .array .int
  | 3 => .array .int
  | 4 => .array .long
  | 5 => .array .int
  | 6 => .int
  | _ => .int
abbrev wsX10 : List Cond := u_ws RX1 TX1 8
theorem nmX1 : ∀ a, a < 8 → ∀ b, b < 8 → a ≠ b → (TX1 a).2.1 ≠ (TX1 b).2.1 := by decide +kernel
theorem tyX1_ok : ∀ k, k < 8 → parseFieldDescriptor (TX1 k).2.2.1 = some (tyX1 k) := by decide +kernel
abbrev cX1_init : ByteArray := prog_3_method_1_code
def yX1_init : MethodName := ⟨RX1, "<init>", "(LWallTrumpets$Plan;)V"⟩
abbrev cX1_run : ByteArray := prog_3_method_2_code
def yX1_run : MethodName := ⟨RX1, "run", "(LWallTrumpets$Town;)V"⟩
abbrev cX1_goOn : ByteArray := prog_3_method_3_code
def yX1_goOn : MethodName := ⟨RX1, "goOn", "(II)V"⟩
abbrev cX1_keepBest : ByteArray := prog_3_method_4_code
def yX1_keepBest : MethodName := ⟨RX1, "keepBest", "(II)V"⟩
abbrev cX1_markOf : ByteArray := prog_3_method_5_code
def yX1_markOf : MethodName := ⟨RX1, "markOf", "(LWallTrumpets$Town;)J"⟩
abbrev cX1_wasSeen : ByteArray := prog_3_method_6_code
def yX1_wasSeen : MethodName := ⟨RX1, "wasSeen", "(JI)Z"⟩
def RX2 : String := "WallTrumpets$Past"
def TX2 : u_T := fun k => match k with
  | 0 => ("WallTrumpets$Past", "towns", "[LWallTrumpets$Town;", true)
  | 1 => ("WallTrumpets$Past", "next", "I", false)
  | _ => ("WallTrumpets$Past", "count", "I", false)
def tyX2 : Nat → FieldType := fun k => match k with
  | 0 => .array (.object "WallTrumpets$Town")
  | 1 => .int
  | _ => .int
abbrev wsX20 : List Cond := u_ws RX2 TX2 3
theorem nmX2 : ∀ a, a < 3 → ∀ b, b < 3 → a ≠ b → (TX2 a).2.1 ≠ (TX2 b).2.1 := by decide +kernel
theorem tyX2_ok : ∀ k, k < 3 → parseFieldDescriptor (TX2 k).2.2.1 = some (tyX2 k) := by decide +kernel
abbrev cX2_init : ByteArray := prog_4_method_1_code
def yX2_init : MethodName := ⟨RX2, "<init>", "(LWallTrumpets$Plan;)V"⟩
abbrev cX2_push : ByteArray := prog_4_method_2_code
def yX2_push : MethodName := ⟨RX2, "push", "(LWallTrumpets$Town;)V"⟩
abbrev cX2_pop : ByteArray := prog_4_method_3_code
def yX2_pop : MethodName := ⟨RX2, "pop", "(LWallTrumpets$Town;)Z"⟩
def RX3 : String := "WallTrumpets$Plan"
def TX3 : u_T := fun k => match k with
  | 0 => ("WallTrumpets$Plan", "persons", "I", false)
  | 1 => ("WallTrumpets$Plan", "stones", "I", false)
  | 2 => ("WallTrumpets$Plan", "kind", "[I", true)
  | 3 => ("WallTrumpets$Plan", "thick", "[I", true)
  | 4 => ("WallTrumpets$Plan", "lean", "[I", true)
  | _ => ("WallTrumpets$Plan", "held", "[I", true)
def tyX3 : Nat → FieldType := fun k => match k with
  | 0 => .int
  | 1 => .int
  | 2 => .array .int
  | 3 => .array .int
  | 4 => .array .int
  | _ => .array .int
abbrev wsX30 : List Cond := u_ws RX3 TX3 6
theorem nmX3 : ∀ a, a < 6 → ∀ b, b < 6 → a ≠ b → (TX3 a).2.1 ≠ (TX3 b).2.1 := by decide +kernel
theorem tyX3_ok : ∀ k, k < 6 → parseFieldDescriptor (TX3 k).2.2.1 = some (tyX3 k) := by decide +kernel
abbrev cX3_init : ByteArray := prog_5_method_1_code
def yX3_init : MethodName := ⟨RX3, "<init>", "()V"⟩
abbrev cX3_clear : ByteArray := prog_5_method_2_code
def yX3_clear : MethodName := ⟨RX3, "clear", "()V"⟩
abbrev cX3_take : ByteArray := prog_5_method_3_code
def yX3_take : MethodName := ⟨RX3, "take", "(CIII)Z"⟩
abbrev cX3_takeWall : ByteArray := prog_5_method_4_code
def yX3_takeWall : MethodName := ⟨RX3, "takeWall", "(III)Z"⟩
abbrev cX3_takeProp : ByteArray := prog_5_method_5_code
def yX3_takeProp : MethodName := ⟨RX3, "takeProp", "(III)Z"⟩
def RX4 : String := "WallTrumpets$Text"
def TX4 : u_T := fun k => match k with
  | 0 => ("WallTrumpets$Text", "letters", "[C", true)
  | 1 => ("WallTrumpets$Text", "numbers", "[I", true)
  | _ => ("WallTrumpets$Text", "length", "I", false)
def tyX4 : Nat → FieldType := fun k => match k with
  | 0 => .array .char
  | 1 => .array .int
  | _ => .int
abbrev wsX40 : List Cond := u_ws RX4 TX4 3
theorem nmX4 : ∀ a, a < 3 → ∀ b, b < 3 → a ≠ b → (TX4 a).2.1 ≠ (TX4 b).2.1 := by decide +kernel
theorem tyX4_ok : ∀ k, k < 3 → parseFieldDescriptor (TX4 k).2.2.1 = some (tyX4 k) := by decide +kernel
abbrev cX4_init : ByteArray := prog_6_method_1_code
def yX4_init : MethodName := ⟨RX4, "<init>", "()V"⟩
abbrev cX4_add : ByteArray := prog_6_method_2_code
def yX4_add : MethodName := ⟨RX4, "add", "(C)V"⟩
abbrev cX4_readInto : ByteArray := prog_6_method_3_code
def yX4_readInto : MethodName := ⟨RX4, "readInto", "(LWallTrumpets$Plan;)I"⟩
abbrev cX4_readItem : ByteArray := prog_6_method_4_code
def yX4_readItem : MethodName := ⟨RX4, "readItem", "(ILWallTrumpets$Plan;)I"⟩
abbrev cX4_letterAt : ByteArray := prog_6_method_5_code
def yX4_letterAt : MethodName := ⟨RX4, "letterAt", "(I)C"⟩
abbrev cX4_isFigure : ByteArray := prog_6_method_6_code
def yX4_isFigure : MethodName := ⟨RX4, "isFigure", "(I)Z"⟩
abbrev cX4_figuresAt : ByteArray := prog_6_method_7_code
def yX4_figuresAt : MethodName := ⟨RX4, "figuresAt", "(I)I"⟩
abbrev cX4_numberAt : ByteArray := prog_6_method_8_code
def yX4_numberAt : MethodName := ⟨RX4, "numberAt", "(II)I"⟩
def RX5 : String := "WallTrumpets$Town"
def TX5 : u_T := fun k => match k with
  | 0 => ("WallTrumpets$Town", "plan", "LWallTrumpets$Plan;", true)
  | 1 => ("WallTrumpets$Town", "thick", "[I", true)
  | 2 => ("WallTrumpets$Town", "rounded", "[I", true)
  | 3 => ("WallTrumpets$Town", "hurt", "[I", true)
  | 4 => ("WallTrumpets$Town", "fell", "[I", true)
  | 5 => ("WallTrumpets$Town", "held", "[I", true)
  | 6 => ("WallTrumpets$Town", "stones", "I", false)
  | _ => ("WallTrumpets$Town", "days", "I", false)
def tyX5 : Nat → FieldType := fun k => match k with
  | 0 => .object "WallTrumpets$Plan"
  | 1 => .array .int
  | 2 => .array .int
  | 3 => .array .int
  | 4 => .array .int
  | 5 => .array .int
  | 6 => .int
  | _ => .int
abbrev wsX50 : List Cond := u_ws RX5 TX5 8
theorem nmX5 : ∀ a, a < 8 → ∀ b, b < 8 → a ≠ b → (TX5 a).2.1 ≠ (TX5 b).2.1 := by decide +kernel
theorem tyX5_ok : ∀ k, k < 8 → parseFieldDescriptor (TX5 k).2.2.1 = some (tyX5 k) := by decide +kernel
abbrev cX5_init : ByteArray := prog_7_method_1_code
def yX5_init : MethodName := ⟨RX5, "<init>", "(LWallTrumpets$Plan;)V"⟩
abbrev cX5_layOut : ByteArray := prog_7_method_2_code
def yX5_layOut : MethodName := ⟨RX5, "layOut", "()V"⟩
abbrev cX5_copyFrom : ByteArray := prog_7_method_3_code
def yX5_copyFrom : MethodName := ⟨RX5, "copyFrom", "(LWallTrumpets$Town;)V"⟩
abbrev cX5_stands : ByteArray := prog_7_method_4_code
def yX5_stands : MethodName := ⟨RX5, "stands", "(I)Z"⟩
abbrev cX5_heldBy : ByteArray := prog_7_method_5_code
def yX5_heldBy : MethodName := ⟨RX5, "heldBy", "(II)I"⟩
abbrev cX5_setProp : ByteArray := prog_7_method_6_code
def yX5_setProp : MethodName := ⟨RX5, "setProp", "(III)V"⟩
abbrev cX5_holdersOf : ByteArray := prog_7_method_7_code
def yX5_holdersOf : MethodName := ⟨RX5, "holdersOf", "(I)I"⟩
abbrev cX5_goRound : ByteArray := prog_7_method_8_code
def yX5_goRound : MethodName := ⟨RX5, "goRound", "(I)V"⟩
abbrev cX5_wouldFall : ByteArray := prog_7_method_9_code
def yX5_wouldFall : MethodName := ⟨RX5, "wouldFall", "(II)Z"⟩
abbrev cX5_leansInward : ByteArray := prog_7_method_10_code
def yX5_leansInward : MethodName := ⟨RX5, "leansInward", "(I)Z"⟩
abbrev cX5_fewestTrumpets : ByteArray := prog_7_method_11_code
def yX5_fewestTrumpets : MethodName := ⟨RX5, "fewestTrumpets", "(I)I"⟩
abbrev cX5_blow : ByteArray := prog_7_method_12_code
def yX5_blow : MethodName := ⟨RX5, "blow", "(II)I"⟩
abbrev cX5_comeDown : ByteArray := prog_7_method_13_code
def yX5_comeDown : MethodName := ⟨RX5, "comeDown", "(II)V"⟩
abbrev cX5_fallWithAll : ByteArray := prog_7_method_14_code
def yX5_fallWithAll : MethodName := ⟨RX5, "fallWithAll", "(III)V"⟩
abbrev cX5_dayGoesBy : ByteArray := prog_7_method_15_code
def yX5_dayGoesBy : MethodName := ⟨RX5, "dayGoesBy", "()V"⟩
abbrev cX5_countDown : ByteArray := prog_7_method_16_code
def yX5_countDown : MethodName := ⟨RX5, "countDown", "()I"⟩
abbrev cX5_countHurt : ByteArray := prog_7_method_17_code
def yX5_countHurt : MethodName := ⟨RX5, "countHurt", "()I"⟩
abbrev cX5_countProps : ByteArray := prog_7_method_18_code
def yX5_countProps : MethodName := ⟨RX5, "countProps", "()I"⟩
def RX6 : String := "WallTrumpets"
def TX6 : u_T := fun k => match k with
  | 0 => ("WallTrumpets", "text", "LWallTrumpets$Text;", true)
  | 1 => ("WallTrumpets", "draft", "LWallTrumpets$Plan;", true)
  | 2 => ("WallTrumpets", "plan", "LWallTrumpets$Plan;", true)
  | 3 => ("WallTrumpets", "now", "LWallTrumpets$Town;", true)
  | 4 => ("WallTrumpets", "trial", "LWallTrumpets$Town;", true)
  | 5 => ("WallTrumpets", "past", "LWallTrumpets$Past;", true)
  | 6 => ("WallTrumpets", "kept", "[LWallTrumpets$Town;", true)
  | 7 => ("WallTrumpets", "keptCount", "I", false)
  | 8 => ("WallTrumpets", "notes", "LWallTrumpets$Notes;", true)
  | _ => ("WallTrumpets", "search", "LWallTrumpets$OrderSearch;", true)
def tyX6 : Nat → FieldType := fun k => match k with
  | 0 => .object "WallTrumpets$Text"
  | 1 => .object "WallTrumpets$Plan"
  | 2 => .object "WallTrumpets$Plan"
  | 3 => .object "WallTrumpets$Town"
  | 4 => .object "WallTrumpets$Town"
  | 5 => .object "WallTrumpets$Past"
  | 6 => .array (.object "WallTrumpets$Town")
  | 7 => .int
  | 8 => .object "WallTrumpets$Notes"
  | _ => .object "WallTrumpets$OrderSearch"
abbrev wsX60 : List Cond := u_ws RX6 TX6 10
theorem nmX6 : ∀ a, a < 10 → ∀ b, b < 10 → a ≠ b → (TX6 a).2.1 ≠ (TX6 b).2.1 := by decide +kernel
theorem tyX6_ok : ∀ k, k < 10 → parseFieldDescriptor (TX6 k).2.2.1 = some (tyX6 k) := by decide +kernel
abbrev cX6_init : ByteArray := prog_1_method_1_code
def yX6_init : MethodName := ⟨RX6, "<init>", "()V"⟩
abbrev cX6_write : ByteArray := prog_1_method_2_code
def yX6_write : MethodName := ⟨RX6, "write", "(I)I"⟩
abbrev cX6_wipe : ByteArray := prog_1_method_3_code
def yX6_wipe : MethodName := ⟨RX6, "wipe", "()I"⟩
abbrev cX6_fault : ByteArray := prog_1_method_4_code
def yX6_fault : MethodName := ⟨RX6, "fault", "()I"⟩
abbrev cX6_lay : ByteArray := prog_1_method_5_code
def yX6_lay : MethodName := ⟨RX6, "lay", "()I"⟩
abbrev cX6_wall : ByteArray := prog_1_method_6_code
def yX6_wall : MethodName := ⟨RX6, "wall", "(II)I"⟩
abbrev cX6_holds : ByteArray := prog_1_method_7_code
def yX6_holds : MethodName := ⟨RX6, "holds", "(II)I"⟩
abbrev cX6_round : ByteArray := prog_1_method_8_code
def yX6_round : MethodName := ⟨RX6, "round", "(I)I"⟩
abbrev cX6_blast : ByteArray := prog_1_method_9_code
def yX6_blast : MethodName := ⟨RX6, "blast", "(II)I"⟩
abbrev cX6_pass : ByteArray := prog_1_method_10_code
def yX6_pass : MethodName := ⟨RX6, "pass", "(I)I"⟩
abbrev cX6_prop : ByteArray := prog_1_method_11_code
def yX6_prop : MethodName := ⟨RX6, "prop", "(III)I"⟩
abbrev cX6_use : ByteArray := prog_1_method_12_code
def yX6_use : MethodName := ⟨RX6, "use", "(I)I"⟩
abbrev cX6_undo : ByteArray := prog_1_method_13_code
def yX6_undo : MethodName := ⟨RX6, "undo", "()I"⟩
abbrev cX6_calls : ByteArray := prog_1_method_14_code
def yX6_calls : MethodName := ⟨RX6, "calls", "(I)I"⟩
abbrev cX6_rounds : ByteArray := prog_1_method_15_code
def yX6_rounds : MethodName := ⟨RX6, "rounds", "(II)I"⟩
abbrev cX6_key : ByteArray := prog_1_method_16_code
def yX6_key : MethodName := ⟨RX6, "key", "(I)I"⟩
abbrev cX6_order : ByteArray := prog_1_method_17_code
def yX6_order : MethodName := ⟨RX6, "order", "(I)I"⟩
abbrev cX6_save : ByteArray := prog_1_method_18_code
def yX6_save : MethodName := ⟨RX6, "save", "(II)I"⟩
abbrev cX6_built : ByteArray := prog_1_method_19_code
def yX6_built : MethodName := ⟨RX6, "built", "(I)I"⟩
abbrev cX6_note : ByteArray := prog_1_method_20_code
def yX6_note : MethodName := ⟨RX6, "note", "(III)I"⟩
abbrev cX6_forget : ByteArray := prog_1_method_21_code
def yX6_forget : MethodName := ⟨RX6, "forget", "()I"⟩
abbrev cX6_thick : ByteArray := prog_1_method_22_code
def yX6_thick : MethodName := ⟨RX6, "thick", "(I)I"⟩
abbrev cX6_fail : ByteArray := prog_1_method_23_code
def yX6_fail : MethodName := ⟨RX6, "fail", "(IIII)I"⟩
abbrev cX6_year : ByteArray := prog_1_method_24_code
def yX6_year : MethodName := ⟨RX6, "year", "(III)I"⟩
abbrev cX6_keep : ByteArray := prog_1_method_25_code
def yX6_keep : MethodName := ⟨RX6, "keep", "()I"⟩
abbrev cX6_back : ByteArray := prog_1_method_26_code
def yX6_back : MethodName := ⟨RX6, "back", "()I"⟩
abbrev cX6_count : ByteArray := prog_1_method_27_code
def yX6_count : MethodName := ⟨RX6, "count", "(I)I"⟩
abbrev cX6_isOutside : ByteArray := prog_1_method_28_code
def yX6_isOutside : MethodName := ⟨RX6, "isOutside", "(III)Z"⟩
abbrev cX6_isNoWall : ByteArray := prog_1_method_29_code
def yX6_isNoWall : MethodName := ⟨RX6, "isNoWall", "(I)Z"⟩
abbrev cX6_isNoPair : ByteArray := prog_1_method_30_code
def yX6_isNoPair : MethodName := ⟨RX6, "isNoPair", "(II)Z"⟩
abbrev cX6_othersDownBy : ByteArray := prog_1_method_31_code
def yX6_othersDownBy : MethodName := ⟨RX6, "othersDownBy", "(I)I"⟩
abbrev cX6_standsWithout : ByteArray := prog_1_method_32_code
def yX6_standsWithout : MethodName := ⟨RX6, "standsWithout", "(III)Z"⟩
abbrev cX6_drawAhead : ByteArray := prog_1_method_33_code
def yX6_drawAhead : MethodName := ⟨RX6, "drawAhead", "(II)V"⟩
abbrev cX6_power : ByteArray := prog_1_method_34_code
def yX6_power : MethodName := ⟨RX6, "power", "(II)J"⟩
abbrev cX6_greatestShared : ByteArray := prog_1_method_35_code
def yX6_greatestShared : MethodName := ⟨RX6, "greatestShared", "(JJ)J"⟩
def RX7 : String := "WallTrumpetsModel"
def TX7 : u_T := fun k => match k with
  | 0 => ("WallTrumpetsModel", "w", "[I", true)
  | 1 => ("WallTrumpetsModel", "undoes", "I", false)
  | 2 => ("WallTrumpetsModel", "kept", "I", false)
  | 3 => ("WallTrumpetsModel", "walls", "I", false)
  | 4 => ("WallTrumpetsModel", "kind", "[I", true)
  | 5 => ("WallTrumpetsModel", "laid", "[I", true)
  | 6 => ("WallTrumpetsModel", "leans", "[I", true)
  | 7 => ("WallTrumpetsModel", "noted", "I", false)
  | 8 => ("WallTrumpetsModel", "noteMany", "[I", true)
  | 9 => ("WallTrumpetsModel", "noteRound", "[I", true)
  | 10 => ("WallTrumpetsModel", "noteFelled", "[I", true)
  | 11 => ("WallTrumpetsModel", "text", "[I", true)
  | 12 => ("WallTrumpetsModel", "texted", "I", false)
  | 13 => ("WallTrumpetsModel", "place", "I", false)
  | 14 => ("WallTrumpetsModel", "number", "I", false)
  | 15 => ("WallTrumpetsModel", "readWalls", "I", false)
  | 16 => ("WallTrumpetsModel", "readWall", "[I", true)
  | 17 => ("WallTrumpetsModel", "readProp", "[I", true)
  | 18 => ("WallTrumpetsModel", "readStones", "I", false)
  | 19 => ("WallTrumpetsModel", "fallen", "[I", true)
  | 20 => ("WallTrumpetsModel", "next", "[I", true)
  | 21 => ("WallTrumpetsModel", "blasted", "[I", true)
  | 22 => ("WallTrumpetsModel", "sums", "[I", true)
  | 23 => ("WallTrumpetsModel", "best", "[I", true)
  | _ => ("WallTrumpetsModel", "bestMany", "I", false)
def tyX7 : Nat → FieldType := fun k => match k with
  | 0 => .array .int
  | 1 => .int
  | 2 => .int
  | 3 => .int
  | 4 => .array .int
  | 5 => .array .int
  | 6 => .array .int
  | 7 => .int
  | 8 => .array .int
  | 9 => .array .int
  | 10 => .array .int
  | 11 => .array .int
  | 12 => .int
  | 13 => .int
  | 14 => .int
  | 15 => .int
  | 16 => .array .int
  | 17 => .array .int
  | 18 => .int
  | 19 => .array .int
  | 20 => .array .int
  | 21 => .array .int
  | 22 => .array .int
  | 23 => .array .int
  | _ => .int
abbrev wsX70 : List Cond := u_ws RX7 TX7 25
theorem nmX7 : ∀ a, a < 25 → ∀ b, b < 25 → a ≠ b → (TX7 a).2.1 ≠ (TX7 b).2.1 := by decide +kernel
theorem tyX7_ok : ∀ k, k < 25 → parseFieldDescriptor (TX7 k).2.2.1 = some (tyX7 k) := by decide +kernel
abbrev cX7_init : ByteArray := prog_9_method_1_code
def yX7_init : MethodName := ⟨RX7, "<init>", "()V"⟩
abbrev cX7_in : ByteArray := prog_9_method_3_code
def yX7_in : MethodName := ⟨RX7, "in", "(JJJ)Z"⟩
abbrev cX7_has : ByteArray := prog_9_method_4_code
def yX7_has : MethodName := ⟨RX7, "has", "(II)Z"⟩
abbrev cX7_ones : ByteArray := prog_9_method_5_code
def yX7_ones : MethodName := ⟨RX7, "ones", "(I)I"⟩
abbrev cX7_copy : ByteArray := prog_9_method_6_code
def yX7_copy : MethodName := ⟨RX7, "copy", "(II)V"⟩
abbrev cX7_isWall : ByteArray := prog_9_method_7_code
def yX7_isWall : MethodName := ⟨RX7, "isWall", "(I)Z"⟩
abbrev cX7_starts : ByteArray := prog_9_method_8_code
def yX7_starts : MethodName := ⟨RX7, "starts", "()V"⟩
abbrev cX7_addsWall : ByteArray := prog_9_method_9_code
def yX7_addsWall : MethodName := ⟨RX7, "addsWall", "(III)V"⟩
abbrev cX7_begins : ByteArray := prog_9_method_10_code
def yX7_begins : MethodName := ⟨RX7, "begins", "()V"⟩
abbrev cX7_write : ByteArray := prog_9_method_11_code
def yX7_write : MethodName := ⟨RX7, "write", "(I)I"⟩
abbrev cX7_wipe : ByteArray := prog_9_method_12_code
def yX7_wipe : MethodName := ⟨RX7, "wipe", "()I"⟩
abbrev cX7_letterAt : ByteArray := prog_9_method_13_code
def yX7_letterAt : MethodName := ⟨RX7, "letterAt", "(I)I"⟩
abbrev cX7_takesNumber : ByteArray := prog_9_method_14_code
def yX7_takesNumber : MethodName := ⟨RX7, "takesNumber", "(III)Z"⟩
abbrev cX7_takesWall : ByteArray := prog_9_method_15_code
def yX7_takesWall : MethodName := ⟨RX7, "takesWall", "()Z"⟩
abbrev cX7_takesProp : ByteArray := prog_9_method_16_code
def yX7_takesProp : MethodName := ⟨RX7, "takesProp", "()Z"⟩
abbrev cX7_takesStones : ByteArray := prog_9_method_17_code
def yX7_takesStones : MethodName := ⟨RX7, "takesStones", "()Z"⟩
abbrev cX7_takesItem : ByteArray := prog_9_method_18_code
def yX7_takesItem : MethodName := ⟨RX7, "takesItem", "()Z"⟩
abbrev cX7_faultOf : ByteArray := prog_9_method_19_code
def yX7_faultOf : MethodName := ⟨RX7, "faultOf", "()I"⟩
abbrev cX7_fault : ByteArray := prog_9_method_20_code
def yX7_fault : MethodName := ⟨RX7, "fault", "()I"⟩
abbrev cX7_lay : ByteArray := prog_9_method_21_code
def yX7_lay : MethodName := ⟨RX7, "lay", "()I"⟩
abbrev cX7_wall : ByteArray := prog_9_method_22_code
def yX7_wall : MethodName := ⟨RX7, "wall", "(II)I"⟩
abbrev cX7_holds : ByteArray := prog_9_method_23_code
def yX7_holds : MethodName := ⟨RX7, "holds", "(II)I"⟩
abbrev cX7_stands : ByteArray := prog_9_method_24_code
def yX7_stands : MethodName := ⟨RX7, "stands", "(II)Z"⟩
abbrev cX7_fellsOne : ByteArray := prog_9_method_25_code
def yX7_fellsOne : MethodName := ⟨RX7, "fellsOne", "(IIZ)Z"⟩
abbrev cX7_falls : ByteArray := prog_9_method_26_code
def yX7_falls : MethodName := ⟨RX7, "falls", "(IIZ)V"⟩
abbrev cX7_wouldFall : ByteArray := prog_9_method_27_code
def yX7_wouldFall : MethodName := ⟨RX7, "wouldFall", "(III)Z"⟩
abbrev cX7_blasts : ByteArray := prog_9_method_28_code
def yX7_blasts : MethodName := ⟨RX7, "blasts", "(III)I"⟩
abbrev cX7_roundsOne : ByteArray := prog_9_method_29_code
def yX7_roundsOne : MethodName := ⟨RX7, "roundsOne", "(II)V"⟩
abbrev cX7_passes : ByteArray := prog_9_method_30_code
def yX7_passes : MethodName := ⟨RX7, "passes", "(I)V"⟩
abbrev cX7_minds : ByteArray := prog_9_method_31_code
def yX7_minds : MethodName := ⟨RX7, "minds", "()V"⟩
abbrev cX7_round : ByteArray := prog_9_method_32_code
def yX7_round : MethodName := ⟨RX7, "round", "(I)I"⟩
abbrev cX7_blast : ByteArray := prog_9_method_33_code
def yX7_blast : MethodName := ⟨RX7, "blast", "(II)I"⟩
abbrev cX7_pass : ByteArray := prog_9_method_34_code
def yX7_pass : MethodName := ⟨RX7, "pass", "(I)I"⟩
abbrev cX7_prop : ByteArray := prog_9_method_35_code
def yX7_prop : MethodName := ⟨RX7, "prop", "(III)I"⟩
abbrev cX7_use : ByteArray := prog_9_method_36_code
def yX7_use : MethodName := ⟨RX7, "use", "(I)I"⟩
abbrev cX7_undo : ByteArray := prog_9_method_37_code
def yX7_undo : MethodName := ⟨RX7, "undo", "()I"⟩
abbrev cX7_callsIn : ByteArray := prog_9_method_38_code
def yX7_callsIn : MethodName := ⟨RX7, "callsIn", "(II)I"⟩
abbrev cX7_calls : ByteArray := prog_9_method_39_code
def yX7_calls : MethodName := ⟨RX7, "calls", "(I)I"⟩
abbrev cX7_tries : ByteArray := prog_9_method_40_code
def yX7_tries : MethodName := ⟨RX7, "tries", "()V"⟩
abbrev cX7_rounds : ByteArray := prog_9_method_41_code
def yX7_rounds : MethodName := ⟨RX7, "rounds", "(II)I"⟩
abbrev cX7_downOnes : ByteArray := prog_9_method_42_code
def yX7_downOnes : MethodName := ⟨RX7, "downOnes", "(I)I"⟩
abbrev cX7_key : ByteArray := prog_9_method_43_code
def yX7_key : MethodName := ⟨RX7, "key", "(I)I"⟩
abbrev cX7_bestOrder : ByteArray := prog_9_method_44_code
def yX7_bestOrder : MethodName := ⟨RX7, "bestOrder", "()I"⟩
abbrev cX7_order : ByteArray := prog_9_method_45_code
def yX7_order : MethodName := ⟨RX7, "order", "(I)I"⟩
abbrev cX7_save : ByteArray := prog_9_method_46_code
def yX7_save : MethodName := ⟨RX7, "save", "(II)I"⟩
abbrev cX7_built : ByteArray := prog_9_method_47_code
def yX7_built : MethodName := ⟨RX7, "built", "(I)I"⟩
abbrev cX7_note : ByteArray := prog_9_method_48_code
def yX7_note : MethodName := ⟨RX7, "note", "(III)I"⟩
abbrev cX7_forget : ByteArray := prog_9_method_49_code
def yX7_forget : MethodName := ⟨RX7, "forget", "()I"⟩
abbrev cX7_isSo : ByteArray := prog_9_method_50_code
def yX7_isSo : MethodName := ⟨RX7, "isSo", "(I)Z"⟩
abbrev cX7_thick : ByteArray := prog_9_method_51_code
def yX7_thick : MethodName := ⟨RX7, "thick", "(I)I"⟩
abbrev cX7_fail : ByteArray := prog_9_method_52_code
def yX7_fail : MethodName := ⟨RX7, "fail", "(IIII)I"⟩
abbrev cX7_hurtAll : ByteArray := prog_9_method_53_code
def yX7_hurtAll : MethodName := ⟨RX7, "hurtAll", "(I)I"⟩
abbrev cX7_year : ByteArray := prog_9_method_54_code
def yX7_year : MethodName := ⟨RX7, "year", "(III)I"⟩
abbrev cX7_keep : ByteArray := prog_9_method_55_code
def yX7_keep : MethodName := ⟨RX7, "keep", "()I"⟩
abbrev cX7_back : ByteArray := prog_9_method_56_code
def yX7_back : MethodName := ⟨RX7, "back", "()I"⟩
abbrev cX7_propsThere : ByteArray := prog_9_method_57_code
def yX7_propsThere : MethodName := ⟨RX7, "propsThere", "()I"⟩
abbrev cX7_count : ByteArray := prog_9_method_58_code
def yX7_count : MethodName := ⟨RX7, "count", "(I)I"⟩
def RJx145de : String := "java/io/Serializable"
def TJx145de : u_T := fun k => match k with
  | _ => ("", "", "", false)
def tyJx145de : Nat → FieldType := fun k => match k with
  | _ => .int
abbrev wsJx145de0 : List Cond := u_ws RJx145de TJx145de 0
theorem nmJx145de : ∀ a, a < 0 → ∀ b, b < 0 → a ≠ b → (TJx145de a).2.1 ≠ (TJx145de b).2.1 := by decide +kernel
theorem tyJx145de_ok : ∀ k, k < 0 → parseFieldDescriptor (TJx145de k).2.2.1 = some (tyJx145de k) := by decide +kernel
def RJx9f9b0 : String := "java/lang/CharSequence"
def TJx9f9b0 : u_T := fun k => match k with
  | _ => ("", "", "", false)
def tyJx9f9b0 : Nat → FieldType := fun k => match k with
  | _ => .int
abbrev wsJx9f9b00 : List Cond := u_ws RJx9f9b0 TJx9f9b0 0
theorem nmJx9f9b0 : ∀ a, a < 0 → ∀ b, b < 0 → a ≠ b → (TJx9f9b0 a).2.1 ≠ (TJx9f9b0 b).2.1 := by decide +kernel
theorem tyJx9f9b0_ok : ∀ k, k < 0 → parseFieldDescriptor (TJx9f9b0 k).2.2.1 = some (tyJx9f9b0 k) := by decide +kernel
def RJxb160c : String := "java/lang/Comparable"
def TJxb160c : u_T := fun k => match k with
  | _ => ("", "", "", false)
def tyJxb160c : Nat → FieldType := fun k => match k with
  | _ => .int
abbrev wsJxb160c0 : List Cond := u_ws RJxb160c TJxb160c 0
theorem nmJxb160c : ∀ a, a < 0 → ∀ b, b < 0 → a ≠ b → (TJxb160c a).2.1 ≠ (TJxb160c b).2.1 := by decide +kernel
theorem tyJxb160c_ok : ∀ k, k < 0 → parseFieldDescriptor (TJxb160c k).2.2.1 = some (tyJxb160c k) := by decide +kernel
def RJ6 : String := "java/lang/Integer"
def TJ6 : u_T := fun k => match k with
  | _ => ("", "", "", false)
def tyJ6 : Nat → FieldType := fun k => match k with
  | _ => .int
abbrev wsJ60 : List Cond := u_ws RJ6 TJ6 0
theorem nmJ6 : ∀ a, a < 0 → ∀ b, b < 0 → a ≠ b → (TJ6 a).2.1 ≠ (TJ6 b).2.1 := by decide +kernel
theorem tyJ6_ok : ∀ k, k < 0 → parseFieldDescriptor (TJ6 k).2.2.1 = some (tyJ6 k) := by decide +kernel
abbrev cJ6_bitCount_0f7a4 : ByteArray := prog_10_method_49_code
def yJ6_bitCount_0f7a4 : MethodName := ⟨RJ6, "bitCount", "(I)I"⟩
def RJ9 : String := "java/lang/Math"
def TJ9 : u_T := fun k => match k with
  | _ => ("", "", "", false)
def tyJ9 : Nat → FieldType := fun k => match k with
  | _ => .int
abbrev wsJ90 : List Cond := u_ws RJ9 TJ9 0
theorem nmJ9 : ∀ a, a < 0 → ∀ b, b < 0 → a ≠ b → (TJ9 a).2.1 ≠ (TJ9 b).2.1 := by decide +kernel
theorem tyJ9_ok : ∀ k, k < 0 → parseFieldDescriptor (TJ9 k).2.2.1 = some (tyJ9 k) := by decide +kernel
abbrev cJ9_max_7cf53 : ByteArray := prog_11_method_65_code
def yJ9_max_7cf53 : MethodName := ⟨RJ9, "max", "(II)I"⟩
abbrev cJ9_min_7cf53 : ByteArray := prog_11_method_69_code
def yJ9_min_7cf53 : MethodName := ⟨RJ9, "min", "(II)I"⟩
def RJ0 : String := "java/lang/String"
def TJ0 : u_T := fun k => match k with
  | _ => ("", "", "", false)
def tyJ0 : Nat → FieldType := fun k => match k with
  | _ => .int
abbrev wsJ00 : List Cond := u_ws RJ0 TJ0 0
theorem nmJ0 : ∀ a, a < 0 → ∀ b, b < 0 → a ≠ b → (TJ0 a).2.1 ≠ (TJ0 b).2.1 := by decide +kernel
theorem tyJ0_ok : ∀ k, k < 0 → parseFieldDescriptor (TJ0 k).2.2.1 = some (tyJ0 k) := by decide +kernel
abbrev cJ0_length_8abf5 : ByteArray := prog_12_method_54_code
def yJ0_length_8abf5 : MethodName := ⟨RJ0, "length", "()I"⟩
abbrev cJ0_charAt_5068e : ByteArray := prog_12_method_56_code
def yJ0_charAt_5068e : MethodName := ⟨RJ0, "charAt", "(I)C"⟩
abbrev cJ0_coder_7d493 : ByteArray := prog_12_method_152_code
def yJ0_coder_7d493 : MethodName := ⟨RJ0, "coder", "()B"⟩
abbrev cJ0_isLatin1_aae02 : ByteArray := prog_12_method_154_code
def yJ0_isLatin1_aae02 : MethodName := ⟨RJ0, "isLatin1", "()Z"⟩
abbrev cJ0_checkIndex_df160 : ByteArray := prog_12_method_155_code
def yJ0_checkIndex_df160 : MethodName := ⟨RJ0, "checkIndex", "(II)V"⟩
def RJ1 : String := "java/lang/StringLatin1"
def TJ1 : u_T := fun k => match k with
  | _ => ("", "", "", false)
def tyJ1 : Nat → FieldType := fun k => match k with
  | _ => .int
abbrev wsJ10 : List Cond := u_ws RJ1 TJ1 0
theorem nmJ1 : ∀ a, a < 0 → ∀ b, b < 0 → a ≠ b → (TJ1 a).2.1 ≠ (TJ1 b).2.1 := by decide +kernel
theorem tyJ1_ok : ∀ k, k < 0 → parseFieldDescriptor (TJ1 k).2.2.1 = some (tyJ1 k) := by decide +kernel
abbrev cJ1_charAt_3b067 : ByteArray := prog_13_method_2_code
def yJ1_charAt_3b067 : MethodName := ⟨RJ1, "charAt", "([BI)C"⟩
def RJ2 : String := "java/lang/StringUTF16"
def TJ2 : u_T := fun k => match k with
  | _ => ("", "", "", false)
def tyJ2 : Nat → FieldType := fun k => match k with
  | _ => .int
abbrev wsJ20 : List Cond := u_ws RJ2 TJ2 0
theorem nmJ2 : ∀ a, a < 0 → ∀ b, b < 0 → a ≠ b → (TJ2 a).2.1 ≠ (TJ2 b).2.1 := by decide +kernel
theorem tyJ2_ok : ∀ k, k < 0 → parseFieldDescriptor (TJ2 k).2.2.1 = some (tyJ2 k) := by decide +kernel
abbrev cJ2_getChar_3b067 : ByteArray := prog_14_method_5_code
def yJ2_getChar_3b067 : MethodName := ⟨RJ2, "getChar", "([BI)C"⟩
abbrev cJ2_length_9d52b : ByteArray := prog_14_method_6_code
def yJ2_length_9d52b : MethodName := ⟨RJ2, "length", "([B)I"⟩
abbrev cJ2_charAt_3b067 : ByteArray := prog_14_method_83_code
def yJ2_charAt_3b067 : MethodName := ⟨RJ2, "charAt", "([BI)C"⟩
abbrev cJ2_checkIndex_2214a : ByteArray := prog_14_method_91_code
def yJ2_checkIndex_2214a : MethodName := ⟨RJ2, "checkIndex", "(I[B)V"⟩
def RJ10 : String := "java/lang/System"
def TJ10 : u_T := fun k => match k with
  | _ => ("", "", "", false)
def tyJ10 : Nat → FieldType := fun k => match k with
  | _ => .int
abbrev wsJ100 : List Cond := u_ws RJ10 TJ10 0
theorem nmJ10 : ∀ a, a < 0 → ∀ b, b < 0 → a ≠ b → (TJ10 a).2.1 ≠ (TJ10 b).2.1 := by decide +kernel
theorem tyJ10_ok : ∀ k, k < 0 → parseFieldDescriptor (TJ10 k).2.2.1 = some (tyJ10 k) := by decide +kernel
def RJxfd54e : String := "java/lang/constant/Constable"
def TJxfd54e : u_T := fun k => match k with
  | _ => ("", "", "", false)
def tyJxfd54e : Nat → FieldType := fun k => match k with
  | _ => .int
abbrev wsJxfd54e0 : List Cond := u_ws RJxfd54e TJxfd54e 0
theorem nmJxfd54e : ∀ a, a < 0 → ∀ b, b < 0 → a ≠ b → (TJxfd54e a).2.1 ≠ (TJxfd54e b).2.1 := by decide +kernel
theorem tyJxfd54e_ok : ∀ k, k < 0 → parseFieldDescriptor (TJxfd54e k).2.2.1 = some (tyJxfd54e k) := by decide +kernel
def RJx3cf43 : String := "java/lang/constant/ConstantDesc"
def TJx3cf43 : u_T := fun k => match k with
  | _ => ("", "", "", false)
def tyJx3cf43 : Nat → FieldType := fun k => match k with
  | _ => .int
abbrev wsJx3cf430 : List Cond := u_ws RJx3cf43 TJx3cf43 0
theorem nmJx3cf43 : ∀ a, a < 0 → ∀ b, b < 0 → a ≠ b → (TJx3cf43 a).2.1 ≠ (TJx3cf43 b).2.1 := by decide +kernel
theorem tyJx3cf43_ok : ∀ k, k < 0 → parseFieldDescriptor (TJx3cf43 k).2.2.1 = some (tyJx3cf43 k) := by decide +kernel
def RJ7 : String := "java/util/Arrays"
def TJ7 : u_T := fun k => match k with
  | _ => ("", "", "", false)
def tyJ7 : Nat → FieldType := fun k => match k with
  | _ => .int
abbrev wsJ70 : List Cond := u_ws RJ7 TJ7 0
theorem nmJ7 : ∀ a, a < 0 → ∀ b, b < 0 → a ≠ b → (TJ7 a).2.1 ≠ (TJ7 b).2.1 := by decide +kernel
theorem tyJ7_ok : ∀ k, k < 0 → parseFieldDescriptor (TJ7 k).2.2.1 = some (tyJ7 k) := by decide +kernel
abbrev cJ7_fill_d0a16 : ByteArray := prog_16_method_101_code
def yJ7_fill_d0a16 : MethodName := ⟨RJ7, "fill", "([JJ)V"⟩
abbrev cJ7_fill_53178 : ByteArray := prog_16_method_103_code
def yJ7_fill_53178 : MethodName := ⟨RJ7, "fill", "([II)V"⟩
def RJ3 : String := "jdk/internal/util/Preconditions"
def TJ3 : u_T := fun k => match k with
  | _ => ("", "", "", false)
def tyJ3 : Nat → FieldType := fun k => match k with
  | _ => .int
abbrev wsJ30 : List Cond := u_ws RJ3 TJ3 0
theorem nmJ3 : ∀ a, a < 0 → ∀ b, b < 0 → a ≠ b → (TJ3 a).2.1 ≠ (TJ3 b).2.1 := by decide +kernel
theorem tyJ3_ok : ∀ k, k < 0 → parseFieldDescriptor (TJ3 k).2.2.1 = some (tyJ3 k) := by decide +kernel
abbrev cJ3_checkIndex_8e157 : ByteArray := prog_17_method_11_code
def yJ3_checkIndex_8e157 : MethodName := ⟨RJ3, "checkIndex", "(IILjava/util/function/BiFunction;)I"⟩
def RL : String := "WallTrumpetsLaw"
abbrev cL_law : ByteArray := code
def yL_law : MethodName := ⟨RL, "law", "([I)Z"⟩
abbrev vwCl : List vw_C := [(RX0, TX0, 4), (RX1, TX1, 8), (RX2, TX2, 3), (RX3, TX3, 6), (RX4, TX4, 3), (RX5, TX5, 8), (RX6, TX6, 10), (RX7, TX7, 25)]
end
section
/-- the words that every method may use: those of the tables that calls keep -/
def jTs : List Cond := lw_tbl.filter goodWord
theorem jTs_of {w : Cond} (i : Nat) (h : tables_1[i]? = some w) (g : goodWord w = true) : w ∈ jTs := List.mem_filter.mpr ⟨List.mem_append_right _ (List.mem_of_getElem? h), g⟩
theorem jTs_sel {w : Cond} (i : Nat) (h : (k2_sels lw_privs)[i]? = some w) (g : goodWord w = true) : w ∈ jTs := List.mem_filter.mpr ⟨List.mem_append_left _ (List.mem_of_getElem? h), g⟩
theorem jTs_tbl {w : Cond} (h : w ∈ jTs) : w ∈ lw_tbl := (List.mem_filter.mp h).1
theorem jTs_good : GoodIn jTs jTs := fun w h => ⟨h, good_of_word (List.mem_filter.mp h).2⟩
theorem tw_0 : Cond.initialized RL ∈ jTs := jTs_of 0 (by decide +kernel) (by decide +kernel)
theorem tw_1 : Cond.initialized RX6 ∈ jTs := jTs_of 1 (by decide +kernel) (by decide +kernel)
theorem tw_2 : Cond.initialized RX4 ∈ jTs := jTs_of 2 (by decide +kernel) (by decide +kernel)
theorem tw_3 : Cond.initialized RX3 ∈ jTs := jTs_of 3 (by decide +kernel) (by decide +kernel)
theorem tw_4 : Cond.initialized RX5 ∈ jTs := jTs_of 4 (by decide +kernel) (by decide +kernel)
theorem tw_5 : Cond.initialized RX2 ∈ jTs := jTs_of 5 (by decide +kernel) (by decide +kernel)
theorem tw_6 : Cond.initialized RX0 ∈ jTs := jTs_of 6 (by decide +kernel) (by decide +kernel)
theorem tw_7 : Cond.initialized RX1 ∈ jTs := jTs_of 7 (by decide +kernel) (by decide +kernel)
theorem tw_8 : Cond.initialized RJ0 ∈ jTs := jTs_of 8 (by decide +kernel) (by decide +kernel)
theorem tw_9 : Cond.initialized RJ1 ∈ jTs := jTs_of 9 (by decide +kernel) (by decide +kernel)
theorem tw_10 : Cond.initialized RJ3 ∈ jTs := jTs_of 10 (by decide +kernel) (by decide +kernel)
theorem tw_11 : Cond.initialized RJ2 ∈ jTs := jTs_of 11 (by decide +kernel) (by decide +kernel)
theorem tw_12 : Cond.initialized RJ7 ∈ jTs := jTs_of 12 (by decide +kernel) (by decide +kernel)
theorem tw_13 : Cond.initialized RJ10 ∈ jTs := jTs_of 13 (by decide +kernel) (by decide +kernel)
theorem tw_14 : Cond.initialized RX7 ∈ jTs := jTs_of 14 (by decide +kernel) (by decide +kernel)
theorem tw_15 : Cond.initialized RJ9 ∈ jTs := jTs_of 15 (by decide +kernel) (by decide +kernel)
theorem tw_16 : Cond.initialized RJ6 ∈ jTs := jTs_of 16 (by decide +kernel) (by decide +kernel)
theorem tw_17 : Cond.classLink RL 7 RX6 ∈ jTs := jTs_of 17 (by decide +kernel) (by decide +kernel)
theorem tw_18 : Cond.instantiable RX6 10 ∈ jTs := jTs_of 18 (by decide +kernel) (by decide +kernel)
theorem tw_19 : Cond.methodLink RL 9 yX6_init ∈ jTs := jTs_of 19 (by decide +kernel) (by decide +kernel)
theorem tw_20 : Cond.instanceMethod yX6_init ∈ jTs := jTs_of 20 (by decide +kernel) (by decide +kernel)
theorem tw_21 : Cond.code yX6_init cX6_init 2 none ∈ jTs := jTs_of 21 (by decide +kernel) (by decide +kernel)
theorem tw_22 : Cond.methodLink RX6 3 objectInit ∈ jTs := jTs_of 22 (by decide +kernel) (by decide +kernel)
theorem tw_23 : Cond.instanceMethod objectInit ∈ jTs := jTs_of 23 (by decide +kernel) (by decide +kernel)
theorem tw_24 : Cond.code objectInit ⟨#[0xb1]⟩ 1 none ∈ jTs := jTs_of 24 (by decide +kernel) (by decide +kernel)
theorem tw_25 : Cond.classLink RX6 9 RX4 ∈ jTs := jTs_of 25 (by decide +kernel) (by decide +kernel)
theorem tw_26 : Cond.instantiable RX4 3 ∈ jTs := jTs_of 26 (by decide +kernel) (by decide +kernel)
theorem tw_28 : Cond.instanceMethod yX4_init ∈ jTs := jTs_of 28 (by decide +kernel) (by decide +kernel)
theorem tw_29 : Cond.code yX4_init cX4_init 1 none ∈ jTs := jTs_of 29 (by decide +kernel) (by decide +kernel)
theorem tw_30 : Cond.methodLink RX4 3 objectInit ∈ jTs := jTs_of 30 (by decide +kernel) (by decide +kernel)
theorem tw_31 : Cond.fieldLink RX4 9 "WallTrumpets$Text" "letters" "[C" ∈ jTs := jTs_of 31 (by decide +kernel) (by decide +kernel)
theorem tw_32 : Cond.fieldLink RX4 15 "WallTrumpets$Text" "numbers" "[I" ∈ jTs := jTs_of 32 (by decide +kernel) (by decide +kernel)
theorem tw_33 : Cond.fieldLink RX4 19 "WallTrumpets$Text" "length" "I" ∈ jTs := jTs_of 33 (by decide +kernel) (by decide +kernel)
theorem tw_34 : Cond.fieldLink RX6 90 "WallTrumpets$Text" "length" "I" ∈ jTs := jTs_of 34 (by decide +kernel) (by decide +kernel)
theorem tw_35 : Cond.laysFinal RX4 "WallTrumpets$Text" "letters" "[C" ∈ jTs := jTs_of 35 (by decide +kernel) (by decide +kernel)
theorem tw_37 : Cond.laysFinal RX4 "WallTrumpets$Text" "numbers" "[I" ∈ jTs := jTs_of 37 (by decide +kernel) (by decide +kernel)
theorem tw_39 : Cond.lays RX4 "WallTrumpets$Text" "length" "I" ∈ jTs := jTs_of 39 (by decide +kernel) (by decide +kernel)
theorem tw_42 : Cond.arrayClass .char ∈ jTs := jTs_of 42 (by decide +kernel) (by decide +kernel)
theorem tw_43 : Cond.arrayClass .int ∈ jTs := jTs_of 43 (by decide +kernel) (by decide +kernel)
theorem tw_44 : Cond.classLink RX6 16 RX3 ∈ jTs := jTs_of 44 (by decide +kernel) (by decide +kernel)
theorem tw_45 : Cond.instantiable RX3 6 ∈ jTs := jTs_of 45 (by decide +kernel) (by decide +kernel)
theorem tw_47 : Cond.instanceMethod yX3_init ∈ jTs := jTs_of 47 (by decide +kernel) (by decide +kernel)
theorem tw_48 : Cond.code yX3_init cX3_init 1 none ∈ jTs := jTs_of 48 (by decide +kernel) (by decide +kernel)
theorem tw_49 : Cond.methodLink RX3 3 objectInit ∈ jTs := jTs_of 49 (by decide +kernel) (by decide +kernel)
theorem tw_50 : Cond.fieldLink RX3 9 "WallTrumpets$Plan" "persons" "I" ∈ jTs := jTs_of 50 (by decide +kernel) (by decide +kernel)
theorem tw_51 : Cond.fieldLink RX1 63 "WallTrumpets$Plan" "persons" "I" ∈ jTs := jTs_of 51 (by decide +kernel) (by decide +kernel)
theorem tw_52 : Cond.fieldLink RX6 92 "WallTrumpets$Plan" "persons" "I" ∈ jTs := jTs_of 52 (by decide +kernel) (by decide +kernel)
theorem tw_53 : Cond.fieldLink RX5 58 "WallTrumpets$Plan" "persons" "I" ∈ jTs := jTs_of 53 (by decide +kernel) (by decide +kernel)
theorem tw_54 : Cond.fieldLink RX3 15 "WallTrumpets$Plan" "stones" "I" ∈ jTs := jTs_of 54 (by decide +kernel) (by decide +kernel)
theorem tw_55 : Cond.fieldLink RX5 54 "WallTrumpets$Plan" "stones" "I" ∈ jTs := jTs_of 55 (by decide +kernel) (by decide +kernel)
theorem tw_56 : Cond.fieldLink RX3 18 "WallTrumpets$Plan" "kind" "[I" ∈ jTs := jTs_of 56 (by decide +kernel) (by decide +kernel)
theorem tw_57 : Cond.fieldLink RX5 55 "WallTrumpets$Plan" "kind" "[I" ∈ jTs := jTs_of 57 (by decide +kernel) (by decide +kernel)
theorem tw_58 : Cond.fieldLink RX6 103 "WallTrumpets$Plan" "kind" "[I" ∈ jTs := jTs_of 58 (by decide +kernel) (by decide +kernel)
theorem tw_59 : Cond.fieldLink RX3 22 "WallTrumpets$Plan" "thick" "[I" ∈ jTs := jTs_of 59 (by decide +kernel) (by decide +kernel)
theorem tw_60 : Cond.fieldLink RX5 38 "WallTrumpets$Plan" "thick" "[I" ∈ jTs := jTs_of 60 (by decide +kernel) (by decide +kernel)
theorem tw_61 : Cond.fieldLink RX6 107 "WallTrumpets$Plan" "thick" "[I" ∈ jTs := jTs_of 61 (by decide +kernel) (by decide +kernel)
theorem tw_62 : Cond.fieldLink RX3 25 "WallTrumpets$Plan" "lean" "[I" ∈ jTs := jTs_of 62 (by decide +kernel) (by decide +kernel)
theorem tw_63 : Cond.fieldLink RX6 110 "WallTrumpets$Plan" "lean" "[I" ∈ jTs := jTs_of 63 (by decide +kernel) (by decide +kernel)
theorem tw_64 : Cond.fieldLink RX5 70 "WallTrumpets$Plan" "lean" "[I" ∈ jTs := jTs_of 64 (by decide +kernel) (by decide +kernel)
theorem tw_65 : Cond.fieldLink RX3 28 "WallTrumpets$Plan" "held" "[I" ∈ jTs := jTs_of 65 (by decide +kernel) (by decide +kernel)
theorem tw_66 : Cond.fieldLink RX5 47 "WallTrumpets$Plan" "held" "[I" ∈ jTs := jTs_of 66 (by decide +kernel) (by decide +kernel)
theorem tw_67 : Cond.lays RX3 "WallTrumpets$Plan" "persons" "I" ∈ jTs := jTs_of 67 (by decide +kernel) (by decide +kernel)
theorem tw_69 : Cond.lays RX3 "WallTrumpets$Plan" "stones" "I" ∈ jTs := jTs_of 69 (by decide +kernel) (by decide +kernel)
theorem tw_71 : Cond.laysFinal RX3 "WallTrumpets$Plan" "kind" "[I" ∈ jTs := jTs_of 71 (by decide +kernel) (by decide +kernel)
theorem tw_73 : Cond.laysFinal RX3 "WallTrumpets$Plan" "thick" "[I" ∈ jTs := jTs_of 73 (by decide +kernel) (by decide +kernel)
theorem tw_75 : Cond.laysFinal RX3 "WallTrumpets$Plan" "lean" "[I" ∈ jTs := jTs_of 75 (by decide +kernel) (by decide +kernel)
theorem tw_77 : Cond.laysFinal RX3 "WallTrumpets$Plan" "held" "[I" ∈ jTs := jTs_of 77 (by decide +kernel) (by decide +kernel)
theorem tw_80 : Cond.classLink RX6 26 RX5 ∈ jTs := jTs_of 80 (by decide +kernel) (by decide +kernel)
theorem tw_81 : Cond.instantiable RX5 8 ∈ jTs := jTs_of 81 (by decide +kernel) (by decide +kernel)
theorem tw_82 : Cond.methodLink RX6 28 yX5_init ∈ jTs := jTs_of 82 (by decide +kernel) (by decide +kernel)
theorem tw_83 : Cond.instanceMethod yX5_init ∈ jTs := jTs_of 83 (by decide +kernel) (by decide +kernel)
theorem tw_84 : Cond.code yX5_init cX5_init 2 none ∈ jTs := jTs_of 84 (by decide +kernel) (by decide +kernel)
theorem tw_85 : Cond.methodLink RX5 3 objectInit ∈ jTs := jTs_of 85 (by decide +kernel) (by decide +kernel)
theorem tw_86 : Cond.fieldLink RX5 34 "WallTrumpets$Town" "plan" "LWallTrumpets$Plan;" ∈ jTs := jTs_of 86 (by decide +kernel) (by decide +kernel)
theorem tw_87 : Cond.fieldLink RX5 9 "WallTrumpets$Town" "thick" "[I" ∈ jTs := jTs_of 87 (by decide +kernel) (by decide +kernel)
theorem tw_88 : Cond.fieldLink RX1 100 "WallTrumpets$Town" "thick" "[I" ∈ jTs := jTs_of 88 (by decide +kernel) (by decide +kernel)
theorem tw_89 : Cond.fieldLink RX6 113 "WallTrumpets$Town" "thick" "[I" ∈ jTs := jTs_of 89 (by decide +kernel) (by decide +kernel)
theorem tw_90 : Cond.fieldLink RX5 15 "WallTrumpets$Town" "rounded" "[I" ∈ jTs := jTs_of 90 (by decide +kernel) (by decide +kernel)
theorem tw_91 : Cond.fieldLink RX6 117 "WallTrumpets$Town" "rounded" "[I" ∈ jTs := jTs_of 91 (by decide +kernel) (by decide +kernel)
theorem tw_92 : Cond.fieldLink RX5 18 "WallTrumpets$Town" "hurt" "[I" ∈ jTs := jTs_of 92 (by decide +kernel) (by decide +kernel)
theorem tw_93 : Cond.fieldLink RX6 120 "WallTrumpets$Town" "hurt" "[I" ∈ jTs := jTs_of 93 (by decide +kernel) (by decide +kernel)
theorem tw_94 : Cond.fieldLink RX5 21 "WallTrumpets$Town" "fell" "[I" ∈ jTs := jTs_of 94 (by decide +kernel) (by decide +kernel)
theorem tw_95 : Cond.fieldLink RX1 97 "WallTrumpets$Town" "fell" "[I" ∈ jTs := jTs_of 95 (by decide +kernel) (by decide +kernel)
theorem tw_96 : Cond.fieldLink RX6 123 "WallTrumpets$Town" "fell" "[I" ∈ jTs := jTs_of 96 (by decide +kernel) (by decide +kernel)
theorem tw_97 : Cond.fieldLink RX5 24 "WallTrumpets$Town" "held" "[I" ∈ jTs := jTs_of 97 (by decide +kernel) (by decide +kernel)
theorem tw_98 : Cond.fieldLink RX5 27 "WallTrumpets$Town" "stones" "I" ∈ jTs := jTs_of 98 (by decide +kernel) (by decide +kernel)
theorem tw_99 : Cond.fieldLink RX6 159 "WallTrumpets$Town" "stones" "I" ∈ jTs := jTs_of 99 (by decide +kernel) (by decide +kernel)
theorem tw_100 : Cond.fieldLink RX5 31 "WallTrumpets$Town" "days" "I" ∈ jTs := jTs_of 100 (by decide +kernel) (by decide +kernel)
theorem tw_101 : Cond.fieldLink RX6 152 "WallTrumpets$Town" "days" "I" ∈ jTs := jTs_of 101 (by decide +kernel) (by decide +kernel)
theorem tw_102 : Cond.laysFinal RX5 "WallTrumpets$Town" "plan" "LWallTrumpets$Plan;" ∈ jTs := jTs_of 102 (by decide +kernel) (by decide +kernel)
theorem tw_104 : Cond.laysFinal RX5 "WallTrumpets$Town" "thick" "[I" ∈ jTs := jTs_of 104 (by decide +kernel) (by decide +kernel)
theorem tw_106 : Cond.laysFinal RX5 "WallTrumpets$Town" "rounded" "[I" ∈ jTs := jTs_of 106 (by decide +kernel) (by decide +kernel)
theorem tw_108 : Cond.laysFinal RX5 "WallTrumpets$Town" "hurt" "[I" ∈ jTs := jTs_of 108 (by decide +kernel) (by decide +kernel)
theorem tw_110 : Cond.laysFinal RX5 "WallTrumpets$Town" "fell" "[I" ∈ jTs := jTs_of 110 (by decide +kernel) (by decide +kernel)
theorem tw_112 : Cond.laysFinal RX5 "WallTrumpets$Town" "held" "[I" ∈ jTs := jTs_of 112 (by decide +kernel) (by decide +kernel)
theorem tw_114 : Cond.lays RX5 "WallTrumpets$Town" "stones" "I" ∈ jTs := jTs_of 114 (by decide +kernel) (by decide +kernel)
theorem tw_116 : Cond.lays RX5 "WallTrumpets$Town" "days" "I" ∈ jTs := jTs_of 116 (by decide +kernel) (by decide +kernel)
theorem tw_119 : Cond.classLink RX6 38 RX2 ∈ jTs := jTs_of 119 (by decide +kernel) (by decide +kernel)
theorem tw_120 : Cond.instantiable RX2 3 ∈ jTs := jTs_of 120 (by decide +kernel) (by decide +kernel)
theorem tw_121 : Cond.methodLink RX6 40 yX2_init ∈ jTs := jTs_of 121 (by decide +kernel) (by decide +kernel)
theorem tw_122 : Cond.instanceMethod yX2_init ∈ jTs := jTs_of 122 (by decide +kernel) (by decide +kernel)
theorem tw_123 : Cond.code yX2_init cX2_init 3 none ∈ jTs := jTs_of 123 (by decide +kernel) (by decide +kernel)
theorem tw_124 : Cond.methodLink RX2 3 objectInit ∈ jTs := jTs_of 124 (by decide +kernel) (by decide +kernel)
theorem tw_125 : Cond.classLink RX2 9 RX5 ∈ jTs := jTs_of 125 (by decide +kernel) (by decide +kernel)
theorem tw_127 : Cond.methodLink RX2 24 yX5_init ∈ jTs := jTs_of 127 (by decide +kernel) (by decide +kernel)
theorem tw_128 : Cond.fieldLink RX2 11 "WallTrumpets$Past" "towns" "[LWallTrumpets$Town;" ∈ jTs := jTs_of 128 (by decide +kernel) (by decide +kernel)
theorem tw_129 : Cond.fieldLink RX2 17 "WallTrumpets$Past" "next" "I" ∈ jTs := jTs_of 129 (by decide +kernel) (by decide +kernel)
theorem tw_130 : Cond.fieldLink RX2 21 "WallTrumpets$Past" "count" "I" ∈ jTs := jTs_of 130 (by decide +kernel) (by decide +kernel)
theorem tw_131 : Cond.fieldLink RX6 95 "WallTrumpets$Past" "count" "I" ∈ jTs := jTs_of 131 (by decide +kernel) (by decide +kernel)
theorem tw_132 : Cond.laysFinal RX2 "WallTrumpets$Past" "towns" "[LWallTrumpets$Town;" ∈ jTs := jTs_of 132 (by decide +kernel) (by decide +kernel)
theorem tw_134 : Cond.lays RX2 "WallTrumpets$Past" "next" "I" ∈ jTs := jTs_of 134 (by decide +kernel) (by decide +kernel)
theorem tw_136 : Cond.lays RX2 "WallTrumpets$Past" "count" "I" ∈ jTs := jTs_of 136 (by decide +kernel) (by decide +kernel)
theorem tw_139 : Cond.classLink RX6 53 RX0 ∈ jTs := jTs_of 139 (by decide +kernel) (by decide +kernel)
theorem tw_140 : Cond.instantiable RX0 4 ∈ jTs := jTs_of 140 (by decide +kernel) (by decide +kernel)
theorem tw_142 : Cond.instanceMethod yX0_init ∈ jTs := jTs_of 142 (by decide +kernel) (by decide +kernel)
theorem tw_143 : Cond.code yX0_init cX0_init 1 none ∈ jTs := jTs_of 143 (by decide +kernel) (by decide +kernel)
theorem tw_144 : Cond.methodLink RX0 3 objectInit ∈ jTs := jTs_of 144 (by decide +kernel) (by decide +kernel)
theorem tw_145 : Cond.fieldLink RX0 9 "WallTrumpets$Notes" "trumpets" "[I" ∈ jTs := jTs_of 145 (by decide +kernel) (by decide +kernel)
theorem tw_146 : Cond.fieldLink RX0 15 "WallTrumpets$Notes" "rounded" "[I" ∈ jTs := jTs_of 146 (by decide +kernel) (by decide +kernel)
theorem tw_147 : Cond.fieldLink RX0 18 "WallTrumpets$Notes" "felled" "[I" ∈ jTs := jTs_of 147 (by decide +kernel) (by decide +kernel)
theorem tw_148 : Cond.fieldLink RX0 21 "WallTrumpets$Notes" "count" "I" ∈ jTs := jTs_of 148 (by decide +kernel) (by decide +kernel)
theorem tw_149 : Cond.fieldLink RX6 98 "WallTrumpets$Notes" "count" "I" ∈ jTs := jTs_of 149 (by decide +kernel) (by decide +kernel)
theorem tw_150 : Cond.laysFinal RX0 "WallTrumpets$Notes" "trumpets" "[I" ∈ jTs := jTs_of 150 (by decide +kernel) (by decide +kernel)
theorem tw_152 : Cond.laysFinal RX0 "WallTrumpets$Notes" "rounded" "[I" ∈ jTs := jTs_of 152 (by decide +kernel) (by decide +kernel)
theorem tw_154 : Cond.laysFinal RX0 "WallTrumpets$Notes" "felled" "[I" ∈ jTs := jTs_of 154 (by decide +kernel) (by decide +kernel)
theorem tw_156 : Cond.lays RX0 "WallTrumpets$Notes" "count" "I" ∈ jTs := jTs_of 156 (by decide +kernel) (by decide +kernel)
theorem tw_159 : Cond.classLink RX6 60 RX1 ∈ jTs := jTs_of 159 (by decide +kernel) (by decide +kernel)
theorem tw_160 : Cond.instantiable RX1 8 ∈ jTs := jTs_of 160 (by decide +kernel) (by decide +kernel)
theorem tw_161 : Cond.methodLink RX6 62 yX1_init ∈ jTs := jTs_of 161 (by decide +kernel) (by decide +kernel)
theorem tw_162 : Cond.instanceMethod yX1_init ∈ jTs := jTs_of 162 (by decide +kernel) (by decide +kernel)
theorem tw_163 : Cond.code yX1_init cX1_init 3 none ∈ jTs := jTs_of 163 (by decide +kernel) (by decide +kernel)
theorem tw_164 : Cond.methodLink RX1 3 objectInit ∈ jTs := jTs_of 164 (by decide +kernel) (by decide +kernel)
theorem tw_165 : Cond.classLink RX1 9 RX5 ∈ jTs := jTs_of 165 (by decide +kernel) (by decide +kernel)
theorem tw_166 : Cond.methodLink RX1 42 yX5_init ∈ jTs := jTs_of 166 (by decide +kernel) (by decide +kernel)
theorem tw_167 : Cond.fieldLink RX1 38 "WallTrumpets$OrderSearch" "plan" "LWallTrumpets$Plan;" ∈ jTs := jTs_of 167 (by decide +kernel) (by decide +kernel)
theorem tw_168 : Cond.fieldLink RX1 11 "WallTrumpets$OrderSearch" "towns" "[LWallTrumpets$Town;" ∈ jTs := jTs_of 168 (by decide +kernel) (by decide +kernel)
theorem tw_169 : Cond.fieldLink RX1 17 "WallTrumpets$OrderSearch" "path" "[I" ∈ jTs := jTs_of 169 (by decide +kernel) (by decide +kernel)
theorem tw_170 : Cond.fieldLink RX1 21 "WallTrumpets$OrderSearch" "best" "[I" ∈ jTs := jTs_of 170 (by decide +kernel) (by decide +kernel)
theorem tw_171 : Cond.fieldLink RX6 189 "WallTrumpets$OrderSearch" "best" "[I" ∈ jTs := jTs_of 171 (by decide +kernel) (by decide +kernel)
theorem tw_172 : Cond.fieldLink RX1 24 "WallTrumpets$OrderSearch" "seen" "[J" ∈ jTs := jTs_of 172 (by decide +kernel) (by decide +kernel)
theorem tw_173 : Cond.fieldLink RX1 28 "WallTrumpets$OrderSearch" "seenBy" "[I" ∈ jTs := jTs_of 173 (by decide +kernel) (by decide +kernel)
theorem tw_174 : Cond.fieldLink RX1 31 "WallTrumpets$OrderSearch" "length" "I" ∈ jTs := jTs_of 174 (by decide +kernel) (by decide +kernel)
theorem tw_175 : Cond.fieldLink RX6 188 "WallTrumpets$OrderSearch" "length" "I" ∈ jTs := jTs_of 175 (by decide +kernel) (by decide +kernel)
theorem tw_176 : Cond.fieldLink RX1 35 "WallTrumpets$OrderSearch" "fewest" "I" ∈ jTs := jTs_of 176 (by decide +kernel) (by decide +kernel)
theorem tw_177 : Cond.fieldLink RX6 185 "WallTrumpets$OrderSearch" "fewest" "I" ∈ jTs := jTs_of 177 (by decide +kernel) (by decide +kernel)
theorem tw_178 : Cond.laysFinal RX1 "WallTrumpets$OrderSearch" "plan" "LWallTrumpets$Plan;" ∈ jTs := jTs_of 178 (by decide +kernel) (by decide +kernel)
theorem tw_180 : Cond.laysFinal RX1 "WallTrumpets$OrderSearch" "towns" "[LWallTrumpets$Town;" ∈ jTs := jTs_of 180 (by decide +kernel) (by decide +kernel)
theorem tw_182 : Cond.laysFinal RX1 "WallTrumpets$OrderSearch" "path" "[I" ∈ jTs := jTs_of 182 (by decide +kernel) (by decide +kernel)
theorem tw_184 : Cond.laysFinal RX1 "WallTrumpets$OrderSearch" "best" "[I" ∈ jTs := jTs_of 184 (by decide +kernel) (by decide +kernel)
theorem tw_186 : Cond.laysFinal RX1 "WallTrumpets$OrderSearch" "seen" "[J" ∈ jTs := jTs_of 186 (by decide +kernel) (by decide +kernel)
theorem tw_188 : Cond.laysFinal RX1 "WallTrumpets$OrderSearch" "seenBy" "[I" ∈ jTs := jTs_of 188 (by decide +kernel) (by decide +kernel)
theorem tw_190 : Cond.lays RX1 "WallTrumpets$OrderSearch" "length" "I" ∈ jTs := jTs_of 190 (by decide +kernel) (by decide +kernel)
theorem tw_192 : Cond.lays RX1 "WallTrumpets$OrderSearch" "fewest" "I" ∈ jTs := jTs_of 192 (by decide +kernel) (by decide +kernel)
theorem tw_195 : Cond.arrayClass .long ∈ jTs := jTs_of 195 (by decide +kernel) (by decide +kernel)
theorem tw_197 : Cond.methodLink RX6 69 yJ0_length_8abf5 ∈ jTs := jTs_of 197 (by decide +kernel) (by decide +kernel)
theorem tw_198 : Cond.instanceMethod yJ0_length_8abf5 ∈ jTs := jTs_of 198 (by decide +kernel) (by decide +kernel)
theorem tw_199 : Cond.selects RJ0 yJ0_length_8abf5 yJ0_length_8abf5 ∈ jTs := jTs_of 199 (by decide +kernel) (by decide +kernel)
theorem tw_200 : Cond.code yJ0_length_8abf5 cJ0_length_8abf5 1 (some .int) ∈ jTs := jTs_of 200 (by decide +kernel) (by decide +kernel)
theorem tw_201 : Cond.methodLink RJ0 335 yJ0_coder_7d493 ∈ jTs := jTs_of 201 (by decide +kernel) (by decide +kernel)
theorem tw_202 : Cond.instanceMethod yJ0_coder_7d493 ∈ jTs := jTs_of 202 (by decide +kernel) (by decide +kernel)
theorem tw_203 : Cond.selects RJ0 yJ0_coder_7d493 yJ0_coder_7d493 ∈ jTs := jTs_of 203 (by decide +kernel) (by decide +kernel)
theorem tw_204 : Cond.code yJ0_coder_7d493 cJ0_coder_7d493 1 (some .byte) ∈ jTs := jTs_of 204 (by decide +kernel) (by decide +kernel)
theorem tw_205 : Cond.fieldLink RJ0 38 "java/lang/String" "COMPACT_STRINGS" "Z" ∈ jTs := jTs_of 205 (by decide +kernel) (by decide +kernel)
theorem tw_207 : Cond.methodLink RX6 75 yJ0_charAt_5068e ∈ jTs := jTs_of 207 (by decide +kernel) (by decide +kernel)
theorem tw_208 : Cond.instanceMethod yJ0_charAt_5068e ∈ jTs := jTs_of 208 (by decide +kernel) (by decide +kernel)
theorem tw_209 : Cond.selects RJ0 yJ0_charAt_5068e yJ0_charAt_5068e ∈ jTs := jTs_of 209 (by decide +kernel) (by decide +kernel)
theorem tw_210 : Cond.code yJ0_charAt_5068e cJ0_charAt_5068e 2 (some .char) ∈ jTs := jTs_of 210 (by decide +kernel) (by decide +kernel)
theorem tw_211 : Cond.methodLink RJ0 492 yJ0_isLatin1_aae02 ∈ jTs := jTs_of 211 (by decide +kernel) (by decide +kernel)
theorem tw_212 : Cond.instanceMethod yJ0_isLatin1_aae02 ∈ jTs := jTs_of 212 (by decide +kernel) (by decide +kernel)
theorem tw_213 : Cond.selects RJ0 yJ0_isLatin1_aae02 yJ0_isLatin1_aae02 ∈ jTs := jTs_of 213 (by decide +kernel) (by decide +kernel)
theorem tw_214 : Cond.code yJ0_isLatin1_aae02 cJ0_isLatin1_aae02 1 (some .boolean) ∈ jTs := jTs_of 214 (by decide +kernel) (by decide +kernel)
theorem tw_215 : Cond.methodLink RJ0 495 yJ1_charAt_3b067 ∈ jTs := jTs_of 215 (by decide +kernel) (by decide +kernel)
theorem tw_216 : Cond.static yJ1_charAt_3b067 ∈ jTs := jTs_of 216 (by decide +kernel) (by decide +kernel)
theorem tw_217 : Cond.code yJ1_charAt_3b067 cJ1_charAt_3b067 2 (some .char) ∈ jTs := jTs_of 217 (by decide +kernel) (by decide +kernel)
theorem tw_218 : Cond.methodLink RJ1 9 yJ0_checkIndex_df160 ∈ jTs := jTs_of 218 (by decide +kernel) (by decide +kernel)
theorem tw_219 : Cond.static yJ0_checkIndex_df160 ∈ jTs := jTs_of 219 (by decide +kernel) (by decide +kernel)
theorem tw_220 : Cond.code yJ0_checkIndex_df160 cJ0_checkIndex_df160 2 none ∈ jTs := jTs_of 220 (by decide +kernel) (by decide +kernel)
theorem tw_221 : Cond.fieldLink RJ0 1053 "jdk/internal/util/Preconditions" "SIOOBE_FORMATTER" "Ljava/util/function/BiFunction;" ∈ jTs := jTs_of 221 (by decide +kernel) (by decide +kernel)
theorem tw_223 : Cond.methodLink RJ0 1059 yJ3_checkIndex_8e157 ∈ jTs := jTs_of 223 (by decide +kernel) (by decide +kernel)
theorem tw_224 : Cond.static yJ3_checkIndex_8e157 ∈ jTs := jTs_of 224 (by decide +kernel) (by decide +kernel)
theorem tw_225 : Cond.code yJ3_checkIndex_8e157 cJ3_checkIndex_8e157 3 (some .int) ∈ jTs := jTs_of 225 (by decide +kernel) (by decide +kernel)
theorem tw_226 : Cond.methodLink RJ0 498 yJ2_charAt_3b067 ∈ jTs := jTs_of 226 (by decide +kernel) (by decide +kernel)
theorem tw_227 : Cond.static yJ2_charAt_3b067 ∈ jTs := jTs_of 227 (by decide +kernel) (by decide +kernel)
theorem tw_228 : Cond.code yJ2_charAt_3b067 cJ2_charAt_3b067 2 (some .char) ∈ jTs := jTs_of 228 (by decide +kernel) (by decide +kernel)
theorem tw_229 : Cond.methodLink RJ2 67 yJ2_checkIndex_2214a ∈ jTs := jTs_of 229 (by decide +kernel) (by decide +kernel)
theorem tw_230 : Cond.static yJ2_checkIndex_2214a ∈ jTs := jTs_of 230 (by decide +kernel) (by decide +kernel)
theorem tw_231 : Cond.code yJ2_checkIndex_2214a cJ2_checkIndex_2214a 2 none ∈ jTs := jTs_of 231 (by decide +kernel) (by decide +kernel)
theorem tw_232 : Cond.methodLink RJ2 48 yJ2_length_9d52b ∈ jTs := jTs_of 232 (by decide +kernel) (by decide +kernel)
theorem tw_233 : Cond.static yJ2_length_9d52b ∈ jTs := jTs_of 233 (by decide +kernel) (by decide +kernel)
theorem tw_234 : Cond.code yJ2_length_9d52b cJ2_length_9d52b 1 (some .int) ∈ jTs := jTs_of 234 (by decide +kernel) (by decide +kernel)
theorem tw_235 : Cond.methodLink RJ2 414 yJ0_checkIndex_df160 ∈ jTs := jTs_of 235 (by decide +kernel) (by decide +kernel)
theorem tw_236 : Cond.methodLink RJ2 71 yJ2_getChar_3b067 ∈ jTs := jTs_of 236 (by decide +kernel) (by decide +kernel)
theorem tw_237 : Cond.static yJ2_getChar_3b067 ∈ jTs := jTs_of 237 (by decide +kernel) (by decide +kernel)
theorem tw_238 : Cond.code yJ2_getChar_3b067 cJ2_getChar_3b067 2 (some .char) ∈ jTs := jTs_of 238 (by decide +kernel) (by decide +kernel)
theorem tw_239 : Cond.fieldLink RJ2 44 "java/lang/StringUTF16" "$assertionsDisabled" "Z" ∈ jTs := jTs_of 239 (by decide +kernel) (by decide +kernel)
theorem tw_241 : Cond.fieldLink RJ2 59 "java/lang/StringUTF16" "HI_BYTE_SHIFT" "I" ∈ jTs := jTs_of 241 (by decide +kernel) (by decide +kernel)
theorem tw_243 : Cond.fieldLink RJ2 63 "java/lang/StringUTF16" "LO_BYTE_SHIFT" "I" ∈ jTs := jTs_of 243 (by decide +kernel) (by decide +kernel)
theorem tw_245 : Cond.methodLink RX6 79 yX4_add ∈ jTs := jTs_of 245 (by decide +kernel) (by decide +kernel)
theorem tw_246 : Cond.instanceMethod yX4_add ∈ jTs := jTs_of 246 (by decide +kernel) (by decide +kernel)
theorem tw_247 : Cond.selects RX4 yX4_add yX4_add ∈ jTs := jTs_of 247 (by decide +kernel) (by decide +kernel)
theorem tw_248 : Cond.code yX4_add cX4_add 2 none ∈ jTs := jTs_of 248 (by decide +kernel) (by decide +kernel)
theorem tw_249 : Cond.methodLink RX6 83 yX4_readInto ∈ jTs := jTs_of 249 (by decide +kernel) (by decide +kernel)
theorem tw_250 : Cond.instanceMethod yX4_readInto ∈ jTs := jTs_of 250 (by decide +kernel) (by decide +kernel)
theorem tw_251 : Cond.selects RX4 yX4_readInto yX4_readInto ∈ jTs := jTs_of 251 (by decide +kernel) (by decide +kernel)
theorem tw_252 : Cond.code yX4_readInto cX4_readInto 5 (some .int) ∈ jTs := jTs_of 252 (by decide +kernel) (by decide +kernel)
theorem tw_253 : Cond.methodLink RX4 23 yX3_clear ∈ jTs := jTs_of 253 (by decide +kernel) (by decide +kernel)
theorem tw_254 : Cond.instanceMethod yX3_clear ∈ jTs := jTs_of 254 (by decide +kernel) (by decide +kernel)
theorem tw_255 : Cond.selects RX3 yX3_clear yX3_clear ∈ jTs := jTs_of 255 (by decide +kernel) (by decide +kernel)
theorem tw_256 : Cond.code yX3_clear cX3_clear 1 none ∈ jTs := jTs_of 256 (by decide +kernel) (by decide +kernel)
theorem tw_257 : Cond.methodLink RX3 31 yJ7_fill_53178 ∈ jTs := jTs_of 257 (by decide +kernel) (by decide +kernel)
theorem tw_258 : Cond.static yJ7_fill_53178 ∈ jTs := jTs_of 258 (by decide +kernel) (by decide +kernel)
theorem tw_259 : Cond.code yJ7_fill_53178 cJ7_fill_53178 4 none ∈ jTs := jTs_of 259 (by decide +kernel) (by decide +kernel)
theorem tw_260 : Cond.methodLink RX4 28 yX4_readItem ∈ jTs := jTs_of 260 (by decide +kernel) (by decide +kernel)
theorem tw_262 : Cond.instanceMethod yX4_readItem ∈ jTs := jTs_of 262 (by decide +kernel) (by decide +kernel)
theorem tw_263 : Cond.code yX4_readItem cX4_readItem 8 (some .int) ∈ jTs := jTs_of 263 (by decide +kernel) (by decide +kernel)
theorem tw_264 : Cond.methodLink RX4 32 yX4_letterAt ∈ jTs := jTs_of 264 (by decide +kernel) (by decide +kernel)
theorem tw_266 : Cond.instanceMethod yX4_letterAt ∈ jTs := jTs_of 266 (by decide +kernel) (by decide +kernel)
theorem tw_267 : Cond.code yX4_letterAt cX4_letterAt 2 (some .char) ∈ jTs := jTs_of 267 (by decide +kernel) (by decide +kernel)
theorem tw_268 : Cond.methodLink RX4 36 yX4_figuresAt ∈ jTs := jTs_of 268 (by decide +kernel) (by decide +kernel)
theorem tw_270 : Cond.instanceMethod yX4_figuresAt ∈ jTs := jTs_of 270 (by decide +kernel) (by decide +kernel)
theorem tw_271 : Cond.code yX4_figuresAt cX4_figuresAt 2 (some .int) ∈ jTs := jTs_of 271 (by decide +kernel) (by decide +kernel)
theorem tw_272 : Cond.methodLink RX4 48 yX4_isFigure ∈ jTs := jTs_of 272 (by decide +kernel) (by decide +kernel)
theorem tw_274 : Cond.instanceMethod yX4_isFigure ∈ jTs := jTs_of 274 (by decide +kernel) (by decide +kernel)
theorem tw_275 : Cond.code yX4_isFigure cX4_isFigure 2 (some .boolean) ∈ jTs := jTs_of 275 (by decide +kernel) (by decide +kernel)
theorem tw_276 : Cond.methodLink RX4 40 yX4_numberAt ∈ jTs := jTs_of 276 (by decide +kernel) (by decide +kernel)
theorem tw_278 : Cond.instanceMethod yX4_numberAt ∈ jTs := jTs_of 278 (by decide +kernel) (by decide +kernel)
theorem tw_279 : Cond.code yX4_numberAt cX4_numberAt 4 (some .int) ∈ jTs := jTs_of 279 (by decide +kernel) (by decide +kernel)
theorem tw_280 : Cond.methodLink RX4 44 yX3_take ∈ jTs := jTs_of 280 (by decide +kernel) (by decide +kernel)
theorem tw_281 : Cond.instanceMethod yX3_take ∈ jTs := jTs_of 281 (by decide +kernel) (by decide +kernel)
theorem tw_282 : Cond.selects RX3 yX3_take yX3_take ∈ jTs := jTs_of 282 (by decide +kernel) (by decide +kernel)
theorem tw_283 : Cond.code yX3_take cX3_take 5 (some .boolean) ∈ jTs := jTs_of 283 (by decide +kernel) (by decide +kernel)
theorem tw_284 : Cond.methodLink RX3 37 yX3_takeWall ∈ jTs := jTs_of 284 (by decide +kernel) (by decide +kernel)
theorem tw_286 : Cond.instanceMethod yX3_takeWall ∈ jTs := jTs_of 286 (by decide +kernel) (by decide +kernel)
theorem tw_287 : Cond.code yX3_takeWall cX3_takeWall 4 (some .boolean) ∈ jTs := jTs_of 287 (by decide +kernel) (by decide +kernel)
theorem tw_289 : Cond.static yX6_isOutside ∈ jTs := jTs_of 289 (by decide +kernel) (by decide +kernel)
theorem tw_290 : Cond.code yX6_isOutside cX6_isOutside 3 (some .boolean) ∈ jTs := jTs_of 290 (by decide +kernel) (by decide +kernel)
theorem tw_291 : Cond.methodLink RX3 41 yX3_takeProp ∈ jTs := jTs_of 291 (by decide +kernel) (by decide +kernel)
theorem tw_293 : Cond.instanceMethod yX3_takeProp ∈ jTs := jTs_of 293 (by decide +kernel) (by decide +kernel)
theorem tw_294 : Cond.code yX3_takeProp cX3_takeProp 4 (some .boolean) ∈ jTs := jTs_of 294 (by decide +kernel) (by decide +kernel)
theorem tw_295 : Cond.methodLink RX6 87 yX5_layOut ∈ jTs := jTs_of 295 (by decide +kernel) (by decide +kernel)
theorem tw_296 : Cond.instanceMethod yX5_layOut ∈ jTs := jTs_of 296 (by decide +kernel) (by decide +kernel)
theorem tw_297 : Cond.selects RX5 yX5_layOut yX5_layOut ∈ jTs := jTs_of 297 (by decide +kernel) (by decide +kernel)
theorem tw_298 : Cond.code yX5_layOut cX5_layOut 1 none ∈ jTs := jTs_of 298 (by decide +kernel) (by decide +kernel)
theorem tw_299 : Cond.methodLink RX5 41 arraycopyName ∈ jTs := jTs_of 299 (by decide +kernel) (by decide +kernel)
theorem tw_300 : Cond.static arraycopyName ∈ jTs := jTs_of 300 (by decide +kernel) (by decide +kernel)
theorem tw_301 : Cond.native arraycopyName ∈ jTs := jTs_of 301 (by decide +kernel) (by decide +kernel)
theorem tw_302 : Cond.methodLink RX5 48 yJ7_fill_53178 ∈ jTs := jTs_of 302 (by decide +kernel) (by decide +kernel)
theorem tw_303 : Cond.fieldLink RX6 12 "WallTrumpets" "text" "LWallTrumpets$Text;" ∈ jTs := jTs_of 303 (by decide +kernel) (by decide +kernel)
theorem tw_304 : Cond.fieldLink RX6 19 "WallTrumpets" "draft" "LWallTrumpets$Plan;" ∈ jTs := jTs_of 304 (by decide +kernel) (by decide +kernel)
theorem tw_305 : Cond.fieldLink RX6 23 "WallTrumpets" "plan" "LWallTrumpets$Plan;" ∈ jTs := jTs_of 305 (by decide +kernel) (by decide +kernel)
theorem tw_306 : Cond.fieldLink RX6 31 "WallTrumpets" "now" "LWallTrumpets$Town;" ∈ jTs := jTs_of 306 (by decide +kernel) (by decide +kernel)
theorem tw_307 : Cond.fieldLink RX6 35 "WallTrumpets" "trial" "LWallTrumpets$Town;" ∈ jTs := jTs_of 307 (by decide +kernel) (by decide +kernel)
theorem tw_308 : Cond.fieldLink RX6 41 "WallTrumpets" "past" "LWallTrumpets$Past;" ∈ jTs := jTs_of 308 (by decide +kernel) (by decide +kernel)
theorem tw_309 : Cond.fieldLink RX6 45 "WallTrumpets" "kept" "[LWallTrumpets$Town;" ∈ jTs := jTs_of 309 (by decide +kernel) (by decide +kernel)
theorem tw_310 : Cond.fieldLink RX6 49 "WallTrumpets" "keptCount" "I" ∈ jTs := jTs_of 310 (by decide +kernel) (by decide +kernel)
theorem tw_311 : Cond.fieldLink RX6 56 "WallTrumpets" "notes" "LWallTrumpets$Notes;" ∈ jTs := jTs_of 311 (by decide +kernel) (by decide +kernel)
theorem tw_312 : Cond.fieldLink RX6 63 "WallTrumpets" "search" "LWallTrumpets$OrderSearch;" ∈ jTs := jTs_of 312 (by decide +kernel) (by decide +kernel)
theorem tw_313 : Cond.laysFinal RX6 "WallTrumpets" "text" "LWallTrumpets$Text;" ∈ jTs := jTs_of 313 (by decide +kernel) (by decide +kernel)
theorem tw_315 : Cond.laysFinal RX6 "WallTrumpets" "draft" "LWallTrumpets$Plan;" ∈ jTs := jTs_of 315 (by decide +kernel) (by decide +kernel)
theorem tw_317 : Cond.laysFinal RX6 "WallTrumpets" "plan" "LWallTrumpets$Plan;" ∈ jTs := jTs_of 317 (by decide +kernel) (by decide +kernel)
theorem tw_319 : Cond.laysFinal RX6 "WallTrumpets" "now" "LWallTrumpets$Town;" ∈ jTs := jTs_of 319 (by decide +kernel) (by decide +kernel)
theorem tw_321 : Cond.laysFinal RX6 "WallTrumpets" "trial" "LWallTrumpets$Town;" ∈ jTs := jTs_of 321 (by decide +kernel) (by decide +kernel)
theorem tw_323 : Cond.laysFinal RX6 "WallTrumpets" "past" "LWallTrumpets$Past;" ∈ jTs := jTs_of 323 (by decide +kernel) (by decide +kernel)
theorem tw_325 : Cond.laysFinal RX6 "WallTrumpets" "kept" "[LWallTrumpets$Town;" ∈ jTs := jTs_of 325 (by decide +kernel) (by decide +kernel)
theorem tw_327 : Cond.lays RX6 "WallTrumpets" "keptCount" "I" ∈ jTs := jTs_of 327 (by decide +kernel) (by decide +kernel)
theorem tw_329 : Cond.laysFinal RX6 "WallTrumpets" "notes" "LWallTrumpets$Notes;" ∈ jTs := jTs_of 329 (by decide +kernel) (by decide +kernel)
theorem tw_331 : Cond.laysFinal RX6 "WallTrumpets" "search" "LWallTrumpets$OrderSearch;" ∈ jTs := jTs_of 331 (by decide +kernel) (by decide +kernel)
theorem tw_334 : Cond.arrayClass .byte ∈ jTs := jTs_of 334 (by decide +kernel) (by decide +kernel)
theorem tw_335 : Cond.methodLink RL 13 yX6_write ∈ jTs := jTs_of 335 (by decide +kernel) (by decide +kernel)
theorem tw_336 : Cond.instanceMethod yX6_write ∈ jTs := jTs_of 336 (by decide +kernel) (by decide +kernel)
theorem tw_337 : Cond.selects RX6 yX6_write yX6_write ∈ jTs := jTs_of 337 (by decide +kernel) (by decide +kernel)
theorem tw_338 : Cond.code yX6_write cX6_write 2 (some .int) ∈ jTs := jTs_of 338 (by decide +kernel) (by decide +kernel)
theorem tw_339 : Cond.methodLink RL 18 yX6_wipe ∈ jTs := jTs_of 339 (by decide +kernel) (by decide +kernel)
theorem tw_340 : Cond.instanceMethod yX6_wipe ∈ jTs := jTs_of 340 (by decide +kernel) (by decide +kernel)
theorem tw_341 : Cond.selects RX6 yX6_wipe yX6_wipe ∈ jTs := jTs_of 341 (by decide +kernel) (by decide +kernel)
theorem tw_342 : Cond.code yX6_wipe cX6_wipe 2 (some .int) ∈ jTs := jTs_of 342 (by decide +kernel) (by decide +kernel)
theorem tw_343 : Cond.methodLink RL 23 yX6_fault ∈ jTs := jTs_of 343 (by decide +kernel) (by decide +kernel)
theorem tw_344 : Cond.instanceMethod yX6_fault ∈ jTs := jTs_of 344 (by decide +kernel) (by decide +kernel)
theorem tw_345 : Cond.selects RX6 yX6_fault yX6_fault ∈ jTs := jTs_of 345 (by decide +kernel) (by decide +kernel)
theorem tw_346 : Cond.code yX6_fault cX6_fault 1 (some .int) ∈ jTs := jTs_of 346 (by decide +kernel) (by decide +kernel)
theorem tw_347 : Cond.methodLink RL 27 yX6_lay ∈ jTs := jTs_of 347 (by decide +kernel) (by decide +kernel)
theorem tw_348 : Cond.instanceMethod yX6_lay ∈ jTs := jTs_of 348 (by decide +kernel) (by decide +kernel)
theorem tw_349 : Cond.selects RX6 yX6_lay yX6_lay ∈ jTs := jTs_of 349 (by decide +kernel) (by decide +kernel)
theorem tw_350 : Cond.code yX6_lay cX6_lay 1 (some .int) ∈ jTs := jTs_of 350 (by decide +kernel) (by decide +kernel)
theorem tw_351 : Cond.methodLink RL 31 yX6_wall ∈ jTs := jTs_of 351 (by decide +kernel) (by decide +kernel)
theorem tw_352 : Cond.instanceMethod yX6_wall ∈ jTs := jTs_of 352 (by decide +kernel) (by decide +kernel)
theorem tw_353 : Cond.selects RX6 yX6_wall yX6_wall ∈ jTs := jTs_of 353 (by decide +kernel) (by decide +kernel)
theorem tw_354 : Cond.code yX6_wall cX6_wall 3 (some .int) ∈ jTs := jTs_of 354 (by decide +kernel) (by decide +kernel)
theorem tw_355 : Cond.methodLink RX6 99 yX6_isNoWall ∈ jTs := jTs_of 355 (by decide +kernel) (by decide +kernel)
theorem tw_357 : Cond.instanceMethod yX6_isNoWall ∈ jTs := jTs_of 357 (by decide +kernel) (by decide +kernel)
theorem tw_358 : Cond.code yX6_isNoWall cX6_isNoWall 2 (some .boolean) ∈ jTs := jTs_of 358 (by decide +kernel) (by decide +kernel)
theorem tw_359 : Cond.methodLink RX6 142 yX6_isOutside ∈ jTs := jTs_of 359 (by decide +kernel) (by decide +kernel)
theorem tw_360 : Cond.methodLink RX6 114 yX5_stands ∈ jTs := jTs_of 360 (by decide +kernel) (by decide +kernel)
theorem tw_361 : Cond.instanceMethod yX5_stands ∈ jTs := jTs_of 361 (by decide +kernel) (by decide +kernel)
theorem tw_362 : Cond.selects RX5 yX5_stands yX5_stands ∈ jTs := jTs_of 362 (by decide +kernel) (by decide +kernel)
theorem tw_363 : Cond.code yX5_stands cX5_stands 2 (some .boolean) ∈ jTs := jTs_of 363 (by decide +kernel) (by decide +kernel)
theorem tw_364 : Cond.methodLink RL 36 yX6_holds ∈ jTs := jTs_of 364 (by decide +kernel) (by decide +kernel)
theorem tw_365 : Cond.instanceMethod yX6_holds ∈ jTs := jTs_of 365 (by decide +kernel) (by decide +kernel)
theorem tw_366 : Cond.selects RX6 yX6_holds yX6_holds ∈ jTs := jTs_of 366 (by decide +kernel) (by decide +kernel)
theorem tw_367 : Cond.code yX6_holds cX6_holds 3 (some .int) ∈ jTs := jTs_of 367 (by decide +kernel) (by decide +kernel)
theorem tw_368 : Cond.methodLink RX6 126 yX6_isNoPair ∈ jTs := jTs_of 368 (by decide +kernel) (by decide +kernel)
theorem tw_370 : Cond.instanceMethod yX6_isNoPair ∈ jTs := jTs_of 370 (by decide +kernel) (by decide +kernel)
theorem tw_371 : Cond.code yX6_isNoPair cX6_isNoPair 3 (some .boolean) ∈ jTs := jTs_of 371 (by decide +kernel) (by decide +kernel)
theorem tw_372 : Cond.methodLink RX6 130 yX5_heldBy ∈ jTs := jTs_of 372 (by decide +kernel) (by decide +kernel)
theorem tw_373 : Cond.instanceMethod yX5_heldBy ∈ jTs := jTs_of 373 (by decide +kernel) (by decide +kernel)
theorem tw_374 : Cond.selects RX5 yX5_heldBy yX5_heldBy ∈ jTs := jTs_of 374 (by decide +kernel) (by decide +kernel)
theorem tw_375 : Cond.code yX5_heldBy cX5_heldBy 3 (some .int) ∈ jTs := jTs_of 375 (by decide +kernel) (by decide +kernel)
theorem tw_376 : Cond.methodLink RL 40 yX6_round ∈ jTs := jTs_of 376 (by decide +kernel) (by decide +kernel)
theorem tw_377 : Cond.instanceMethod yX6_round ∈ jTs := jTs_of 377 (by decide +kernel) (by decide +kernel)
theorem tw_378 : Cond.selects RX6 yX6_round yX6_round ∈ jTs := jTs_of 378 (by decide +kernel) (by decide +kernel)
theorem tw_379 : Cond.code yX6_round cX6_round 2 (some .int) ∈ jTs := jTs_of 379 (by decide +kernel) (by decide +kernel)
theorem tw_380 : Cond.methodLink RX6 134 yX2_push ∈ jTs := jTs_of 380 (by decide +kernel) (by decide +kernel)
theorem tw_381 : Cond.instanceMethod yX2_push ∈ jTs := jTs_of 381 (by decide +kernel) (by decide +kernel)
theorem tw_382 : Cond.selects RX2 yX2_push yX2_push ∈ jTs := jTs_of 382 (by decide +kernel) (by decide +kernel)
theorem tw_383 : Cond.code yX2_push cX2_push 2 none ∈ jTs := jTs_of 383 (by decide +kernel) (by decide +kernel)
theorem tw_384 : Cond.methodLink RX2 27 yX5_copyFrom ∈ jTs := jTs_of 384 (by decide +kernel) (by decide +kernel)
theorem tw_385 : Cond.instanceMethod yX5_copyFrom ∈ jTs := jTs_of 385 (by decide +kernel) (by decide +kernel)
theorem tw_386 : Cond.selects RX5 yX5_copyFrom yX5_copyFrom ∈ jTs := jTs_of 386 (by decide +kernel) (by decide +kernel)
theorem tw_387 : Cond.code yX5_copyFrom cX5_copyFrom 2 none ∈ jTs := jTs_of 387 (by decide +kernel) (by decide +kernel)
theorem tw_388 : Cond.methodLink RX2 31 yJ9_min_7cf53 ∈ jTs := jTs_of 388 (by decide +kernel) (by decide +kernel)
theorem tw_389 : Cond.static yJ9_min_7cf53 ∈ jTs := jTs_of 389 (by decide +kernel) (by decide +kernel)
theorem tw_390 : Cond.code yJ9_min_7cf53 cJ9_min_7cf53 2 (some .int) ∈ jTs := jTs_of 390 (by decide +kernel) (by decide +kernel)
theorem tw_391 : Cond.methodLink RX6 138 yX5_goRound ∈ jTs := jTs_of 391 (by decide +kernel) (by decide +kernel)
theorem tw_392 : Cond.instanceMethod yX5_goRound ∈ jTs := jTs_of 392 (by decide +kernel) (by decide +kernel)
theorem tw_393 : Cond.selects RX5 yX5_goRound yX5_goRound ∈ jTs := jTs_of 393 (by decide +kernel) (by decide +kernel)
theorem tw_394 : Cond.code yX5_goRound cX5_goRound 3 none ∈ jTs := jTs_of 394 (by decide +kernel) (by decide +kernel)
theorem tw_395 : Cond.methodLink RX5 65 yJ9_min_7cf53 ∈ jTs := jTs_of 395 (by decide +kernel) (by decide +kernel)
theorem tw_396 : Cond.methodLink RL 44 yX6_blast ∈ jTs := jTs_of 396 (by decide +kernel) (by decide +kernel)
theorem tw_397 : Cond.instanceMethod yX6_blast ∈ jTs := jTs_of 397 (by decide +kernel) (by decide +kernel)
theorem tw_398 : Cond.selects RX6 yX6_blast yX6_blast ∈ jTs := jTs_of 398 (by decide +kernel) (by decide +kernel)
theorem tw_399 : Cond.code yX6_blast cX6_blast 3 (some .int) ∈ jTs := jTs_of 399 (by decide +kernel) (by decide +kernel)
theorem tw_400 : Cond.methodLink RX6 146 yX5_blow ∈ jTs := jTs_of 400 (by decide +kernel) (by decide +kernel)
theorem tw_401 : Cond.instanceMethod yX5_blow ∈ jTs := jTs_of 401 (by decide +kernel) (by decide +kernel)
theorem tw_402 : Cond.selects RX5 yX5_blow yX5_blow ∈ jTs := jTs_of 402 (by decide +kernel) (by decide +kernel)
theorem tw_403 : Cond.code yX5_blow cX5_blow 4 (some .int) ∈ jTs := jTs_of 403 (by decide +kernel) (by decide +kernel)
theorem tw_404 : Cond.methodLink RX5 73 yX5_wouldFall ∈ jTs := jTs_of 404 (by decide +kernel) (by decide +kernel)
theorem tw_405 : Cond.instanceMethod yX5_wouldFall ∈ jTs := jTs_of 405 (by decide +kernel) (by decide +kernel)
theorem tw_406 : Cond.selects RX5 yX5_wouldFall yX5_wouldFall ∈ jTs := jTs_of 406 (by decide +kernel) (by decide +kernel)
theorem tw_407 : Cond.code yX5_wouldFall cX5_wouldFall 3 (some .boolean) ∈ jTs := jTs_of 407 (by decide +kernel) (by decide +kernel)
theorem tw_408 : Cond.methodLink RX5 77 yX5_leansInward ∈ jTs := jTs_of 408 (by decide +kernel) (by decide +kernel)
theorem tw_409 : Cond.instanceMethod yX5_leansInward ∈ jTs := jTs_of 409 (by decide +kernel) (by decide +kernel)
theorem tw_410 : Cond.selects RX5 yX5_leansInward yX5_leansInward ∈ jTs := jTs_of 410 (by decide +kernel) (by decide +kernel)
theorem tw_411 : Cond.code yX5_leansInward cX5_leansInward 2 (some .boolean) ∈ jTs := jTs_of 411 (by decide +kernel) (by decide +kernel)
theorem tw_412 : Cond.methodLink RX5 81 yX5_comeDown ∈ jTs := jTs_of 412 (by decide +kernel) (by decide +kernel)
theorem tw_413 : Cond.instanceMethod yX5_comeDown ∈ jTs := jTs_of 413 (by decide +kernel) (by decide +kernel)
theorem tw_414 : Cond.selects RX5 yX5_comeDown yX5_comeDown ∈ jTs := jTs_of 414 (by decide +kernel) (by decide +kernel)
theorem tw_415 : Cond.code yX5_comeDown cX5_comeDown 3 none ∈ jTs := jTs_of 415 (by decide +kernel) (by decide +kernel)
theorem tw_416 : Cond.methodLink RX5 88 yX5_fallWithAll ∈ jTs := jTs_of 416 (by decide +kernel) (by decide +kernel)
theorem tw_418 : Cond.instanceMethod yX5_fallWithAll ∈ jTs := jTs_of 418 (by decide +kernel) (by decide +kernel)
theorem tw_419 : Cond.code yX5_fallWithAll cX5_fallWithAll 5 none ∈ jTs := jTs_of 419 (by decide +kernel) (by decide +kernel)
theorem tw_420 : Cond.methodLink RX5 92 yX5_stands ∈ jTs := jTs_of 420 (by decide +kernel) (by decide +kernel)
theorem tw_421 : Cond.methodLink RX5 61 yX5_heldBy ∈ jTs := jTs_of 421 (by decide +kernel) (by decide +kernel)
theorem tw_422 : Cond.methodLink RX5 85 yJ9_max_7cf53 ∈ jTs := jTs_of 422 (by decide +kernel) (by decide +kernel)
theorem tw_423 : Cond.static yJ9_max_7cf53 ∈ jTs := jTs_of 423 (by decide +kernel) (by decide +kernel)
theorem tw_424 : Cond.code yJ9_max_7cf53 cJ9_max_7cf53 2 (some .int) ∈ jTs := jTs_of 424 (by decide +kernel) (by decide +kernel)
theorem tw_425 : Cond.methodLink RL 48 yX6_pass ∈ jTs := jTs_of 425 (by decide +kernel) (by decide +kernel)
theorem tw_426 : Cond.instanceMethod yX6_pass ∈ jTs := jTs_of 426 (by decide +kernel) (by decide +kernel)
theorem tw_427 : Cond.selects RX6 yX6_pass yX6_pass ∈ jTs := jTs_of 427 (by decide +kernel) (by decide +kernel)
theorem tw_428 : Cond.code yX6_pass cX6_pass 3 (some .int) ∈ jTs := jTs_of 428 (by decide +kernel) (by decide +kernel)
theorem tw_429 : Cond.methodLink RX6 149 yX5_dayGoesBy ∈ jTs := jTs_of 429 (by decide +kernel) (by decide +kernel)
theorem tw_430 : Cond.instanceMethod yX5_dayGoesBy ∈ jTs := jTs_of 430 (by decide +kernel) (by decide +kernel)
theorem tw_431 : Cond.selects RX5 yX5_dayGoesBy yX5_dayGoesBy ∈ jTs := jTs_of 431 (by decide +kernel) (by decide +kernel)
theorem tw_432 : Cond.code yX5_dayGoesBy cX5_dayGoesBy 2 none ∈ jTs := jTs_of 432 (by decide +kernel) (by decide +kernel)
theorem tw_433 : Cond.methodLink RL 52 yX6_prop ∈ jTs := jTs_of 433 (by decide +kernel) (by decide +kernel)
theorem tw_434 : Cond.instanceMethod yX6_prop ∈ jTs := jTs_of 434 (by decide +kernel) (by decide +kernel)
theorem tw_435 : Cond.selects RX6 yX6_prop yX6_prop ∈ jTs := jTs_of 435 (by decide +kernel) (by decide +kernel)
theorem tw_436 : Cond.code yX6_prop cX6_prop 5 (some .int) ∈ jTs := jTs_of 436 (by decide +kernel) (by decide +kernel)
theorem tw_437 : Cond.methodLink RX6 155 yX5_setProp ∈ jTs := jTs_of 437 (by decide +kernel) (by decide +kernel)
theorem tw_438 : Cond.instanceMethod yX5_setProp ∈ jTs := jTs_of 438 (by decide +kernel) (by decide +kernel)
theorem tw_439 : Cond.selects RX5 yX5_setProp yX5_setProp ∈ jTs := jTs_of 439 (by decide +kernel) (by decide +kernel)
theorem tw_440 : Cond.code yX5_setProp cX5_setProp 4 none ∈ jTs := jTs_of 440 (by decide +kernel) (by decide +kernel)
theorem tw_441 : Cond.methodLink RL 57 yX6_use ∈ jTs := jTs_of 441 (by decide +kernel) (by decide +kernel)
theorem tw_442 : Cond.instanceMethod yX6_use ∈ jTs := jTs_of 442 (by decide +kernel) (by decide +kernel)
theorem tw_443 : Cond.selects RX6 yX6_use yX6_use ∈ jTs := jTs_of 443 (by decide +kernel) (by decide +kernel)
theorem tw_444 : Cond.code yX6_use cX6_use 2 (some .int) ∈ jTs := jTs_of 444 (by decide +kernel) (by decide +kernel)
theorem tw_445 : Cond.methodLink RL 61 yX6_undo ∈ jTs := jTs_of 445 (by decide +kernel) (by decide +kernel)
theorem tw_446 : Cond.instanceMethod yX6_undo ∈ jTs := jTs_of 446 (by decide +kernel) (by decide +kernel)
theorem tw_447 : Cond.selects RX6 yX6_undo yX6_undo ∈ jTs := jTs_of 447 (by decide +kernel) (by decide +kernel)
theorem tw_448 : Cond.code yX6_undo cX6_undo 1 (some .int) ∈ jTs := jTs_of 448 (by decide +kernel) (by decide +kernel)
theorem tw_449 : Cond.methodLink RX6 162 yX2_pop ∈ jTs := jTs_of 449 (by decide +kernel) (by decide +kernel)
theorem tw_450 : Cond.instanceMethod yX2_pop ∈ jTs := jTs_of 450 (by decide +kernel) (by decide +kernel)
theorem tw_451 : Cond.selects RX2 yX2_pop yX2_pop ∈ jTs := jTs_of 451 (by decide +kernel) (by decide +kernel)
theorem tw_452 : Cond.code yX2_pop cX2_pop 2 (some .boolean) ∈ jTs := jTs_of 452 (by decide +kernel) (by decide +kernel)
theorem tw_453 : Cond.methodLink RL 65 yX6_calls ∈ jTs := jTs_of 453 (by decide +kernel) (by decide +kernel)
theorem tw_454 : Cond.instanceMethod yX6_calls ∈ jTs := jTs_of 454 (by decide +kernel) (by decide +kernel)
theorem tw_455 : Cond.selects RX6 yX6_calls yX6_calls ∈ jTs := jTs_of 455 (by decide +kernel) (by decide +kernel)
theorem tw_456 : Cond.code yX6_calls cX6_calls 2 (some .int) ∈ jTs := jTs_of 456 (by decide +kernel) (by decide +kernel)
theorem tw_457 : Cond.methodLink RX6 166 yX5_fewestTrumpets ∈ jTs := jTs_of 457 (by decide +kernel) (by decide +kernel)
theorem tw_458 : Cond.instanceMethod yX5_fewestTrumpets ∈ jTs := jTs_of 458 (by decide +kernel) (by decide +kernel)
theorem tw_459 : Cond.selects RX5 yX5_fewestTrumpets yX5_fewestTrumpets ∈ jTs := jTs_of 459 (by decide +kernel) (by decide +kernel)
theorem tw_460 : Cond.code yX5_fewestTrumpets cX5_fewestTrumpets 3 (some .int) ∈ jTs := jTs_of 460 (by decide +kernel) (by decide +kernel)
theorem tw_461 : Cond.methodLink RL 69 yX6_rounds ∈ jTs := jTs_of 461 (by decide +kernel) (by decide +kernel)
theorem tw_462 : Cond.instanceMethod yX6_rounds ∈ jTs := jTs_of 462 (by decide +kernel) (by decide +kernel)
theorem tw_463 : Cond.selects RX6 yX6_rounds yX6_rounds ∈ jTs := jTs_of 463 (by decide +kernel) (by decide +kernel)
theorem tw_464 : Cond.code yX6_rounds cX6_rounds 4 (some .int) ∈ jTs := jTs_of 464 (by decide +kernel) (by decide +kernel)
theorem tw_465 : Cond.methodLink RX6 170 yX5_copyFrom ∈ jTs := jTs_of 465 (by decide +kernel) (by decide +kernel)
theorem tw_466 : Cond.methodLink RX6 173 yX5_wouldFall ∈ jTs := jTs_of 466 (by decide +kernel) (by decide +kernel)
theorem tw_467 : Cond.methodLink RX6 176 yX5_leansInward ∈ jTs := jTs_of 467 (by decide +kernel) (by decide +kernel)
theorem tw_468 : Cond.methodLink RL 73 yX6_key ∈ jTs := jTs_of 468 (by decide +kernel) (by decide +kernel)
theorem tw_469 : Cond.instanceMethod yX6_key ∈ jTs := jTs_of 469 (by decide +kernel) (by decide +kernel)
theorem tw_470 : Cond.selects RX6 yX6_key yX6_key ∈ jTs := jTs_of 470 (by decide +kernel) (by decide +kernel)
theorem tw_471 : Cond.code yX6_key cX6_key 6 (some .int) ∈ jTs := jTs_of 471 (by decide +kernel) (by decide +kernel)
theorem tw_472 : Cond.methodLink RX6 179 yX6_othersDownBy ∈ jTs := jTs_of 472 (by decide +kernel) (by decide +kernel)
theorem tw_474 : Cond.instanceMethod yX6_othersDownBy ∈ jTs := jTs_of 474 (by decide +kernel) (by decide +kernel)
theorem tw_475 : Cond.code yX6_othersDownBy cX6_othersDownBy 3 (some .int) ∈ jTs := jTs_of 475 (by decide +kernel) (by decide +kernel)
theorem tw_476 : Cond.methodLink RX6 233 yX5_comeDown ∈ jTs := jTs_of 476 (by decide +kernel) (by decide +kernel)
theorem tw_477 : Cond.methodLink RX6 224 yX5_countDown ∈ jTs := jTs_of 477 (by decide +kernel) (by decide +kernel)
theorem tw_478 : Cond.instanceMethod yX5_countDown ∈ jTs := jTs_of 478 (by decide +kernel) (by decide +kernel)
theorem tw_479 : Cond.selects RX5 yX5_countDown yX5_countDown ∈ jTs := jTs_of 479 (by decide +kernel) (by decide +kernel)
theorem tw_480 : Cond.code yX5_countDown cX5_countDown 3 (some .int) ∈ jTs := jTs_of 480 (by decide +kernel) (by decide +kernel)
theorem tw_481 : Cond.methodLink RL 77 yX6_order ∈ jTs := jTs_of 481 (by decide +kernel) (by decide +kernel)
theorem tw_482 : Cond.instanceMethod yX6_order ∈ jTs := jTs_of 482 (by decide +kernel) (by decide +kernel)
theorem tw_483 : Cond.selects RX6 yX6_order yX6_order ∈ jTs := jTs_of 483 (by decide +kernel) (by decide +kernel)
theorem tw_484 : Cond.code yX6_order cX6_order 2 (some .int) ∈ jTs := jTs_of 484 (by decide +kernel) (by decide +kernel)
theorem tw_485 : Cond.methodLink RX6 182 yX1_run ∈ jTs := jTs_of 485 (by decide +kernel) (by decide +kernel)
theorem tw_486 : Cond.instanceMethod yX1_run ∈ jTs := jTs_of 486 (by decide +kernel) (by decide +kernel)
theorem tw_487 : Cond.selects RX1 yX1_run yX1_run ∈ jTs := jTs_of 487 (by decide +kernel) (by decide +kernel)
theorem tw_488 : Cond.code yX1_run cX1_run 2 none ∈ jTs := jTs_of 488 (by decide +kernel) (by decide +kernel)
theorem tw_489 : Cond.methodLink RX1 45 yJ7_fill_d0a16 ∈ jTs := jTs_of 489 (by decide +kernel) (by decide +kernel)
theorem tw_490 : Cond.static yJ7_fill_d0a16 ∈ jTs := jTs_of 490 (by decide +kernel) (by decide +kernel)
theorem tw_491 : Cond.code yJ7_fill_d0a16 cJ7_fill_d0a16 5 none ∈ jTs := jTs_of 491 (by decide +kernel) (by decide +kernel)
theorem tw_492 : Cond.methodLink RX1 51 yX5_copyFrom ∈ jTs := jTs_of 492 (by decide +kernel) (by decide +kernel)
theorem tw_493 : Cond.methodLink RX1 55 yX1_goOn ∈ jTs := jTs_of 493 (by decide +kernel) (by decide +kernel)
theorem tw_495 : Cond.instanceMethod yX1_goOn ∈ jTs := jTs_of 495 (by decide +kernel) (by decide +kernel)
theorem tw_496 : Cond.code yX1_goOn cX1_goOn 6 none ∈ jTs := jTs_of 496 (by decide +kernel) (by decide +kernel)
theorem tw_497 : Cond.methodLink RX1 59 yX5_countDown ∈ jTs := jTs_of 497 (by decide +kernel) (by decide +kernel)
theorem tw_498 : Cond.methodLink RX1 68 yX1_keepBest ∈ jTs := jTs_of 498 (by decide +kernel) (by decide +kernel)
theorem tw_500 : Cond.instanceMethod yX1_keepBest ∈ jTs := jTs_of 500 (by decide +kernel) (by decide +kernel)
theorem tw_501 : Cond.code yX1_keepBest cX1_keepBest 3 none ∈ jTs := jTs_of 501 (by decide +kernel) (by decide +kernel)
theorem tw_502 : Cond.methodLink RX1 91 arraycopyName ∈ jTs := jTs_of 502 (by decide +kernel) (by decide +kernel)
theorem tw_503 : Cond.methodLink RX1 71 yX1_markOf ∈ jTs := jTs_of 503 (by decide +kernel) (by decide +kernel)
theorem tw_505 : Cond.instanceMethod yX1_markOf ∈ jTs := jTs_of 505 (by decide +kernel) (by decide +kernel)
theorem tw_506 : Cond.code yX1_markOf cX1_markOf 5 (some .long) ∈ jTs := jTs_of 506 (by decide +kernel) (by decide +kernel)
theorem tw_507 : Cond.methodLink RX1 75 yX1_wasSeen ∈ jTs := jTs_of 507 (by decide +kernel) (by decide +kernel)
theorem tw_509 : Cond.instanceMethod yX1_wasSeen ∈ jTs := jTs_of 509 (by decide +kernel) (by decide +kernel)
theorem tw_510 : Cond.code yX1_wasSeen cX1_wasSeen 7 (some .boolean) ∈ jTs := jTs_of 510 (by decide +kernel) (by decide +kernel)
theorem tw_511 : Cond.constantLong RX1 103 (-7046029254386353131) ∈ jTs := jTs_of 511 (by decide +kernel) (by decide +kernel)
theorem tw_512 : Cond.methodLink RX1 79 yX5_stands ∈ jTs := jTs_of 512 (by decide +kernel) (by decide +kernel)
theorem tw_513 : Cond.methodLink RX1 83 yX5_fewestTrumpets ∈ jTs := jTs_of 513 (by decide +kernel) (by decide +kernel)
theorem tw_514 : Cond.methodLink RX1 87 yX5_blow ∈ jTs := jTs_of 514 (by decide +kernel) (by decide +kernel)
theorem tw_515 : Cond.methodLink RL 81 yX6_save ∈ jTs := jTs_of 515 (by decide +kernel) (by decide +kernel)
theorem tw_516 : Cond.instanceMethod yX6_save ∈ jTs := jTs_of 516 (by decide +kernel) (by decide +kernel)
theorem tw_517 : Cond.selects RX6 yX6_save yX6_save ∈ jTs := jTs_of 517 (by decide +kernel) (by decide +kernel)
theorem tw_518 : Cond.code yX6_save cX6_save 7 (some .int) ∈ jTs := jTs_of 518 (by decide +kernel) (by decide +kernel)
theorem tw_519 : Cond.methodLink RX6 192 yX5_holdersOf ∈ jTs := jTs_of 519 (by decide +kernel) (by decide +kernel)
theorem tw_520 : Cond.instanceMethod yX5_holdersOf ∈ jTs := jTs_of 520 (by decide +kernel) (by decide +kernel)
theorem tw_521 : Cond.selects RX5 yX5_holdersOf yX5_holdersOf ∈ jTs := jTs_of 521 (by decide +kernel) (by decide +kernel)
theorem tw_522 : Cond.code yX5_holdersOf cX5_holdersOf 4 (some .int) ∈ jTs := jTs_of 522 (by decide +kernel) (by decide +kernel)
theorem tw_523 : Cond.methodLink RX6 195 yJ6_bitCount_0f7a4 ∈ jTs := jTs_of 523 (by decide +kernel) (by decide +kernel)
theorem tw_524 : Cond.static yJ6_bitCount_0f7a4 ∈ jTs := jTs_of 524 (by decide +kernel) (by decide +kernel)
theorem tw_525 : Cond.code yJ6_bitCount_0f7a4 cJ6_bitCount_0f7a4 1 (some .int) ∈ jTs := jTs_of 525 (by decide +kernel) (by decide +kernel)
theorem tw_526 : Cond.constant RJ6 265 (1431655765) ∈ jTs := jTs_of 526 (by decide +kernel) (by decide +kernel)
theorem tw_527 : Cond.constant RJ6 266 (858993459) ∈ jTs := jTs_of 527 (by decide +kernel) (by decide +kernel)
theorem tw_528 : Cond.constant RJ6 267 (252645135) ∈ jTs := jTs_of 528 (by decide +kernel) (by decide +kernel)
theorem tw_529 : Cond.methodLink RX6 200 yX6_standsWithout ∈ jTs := jTs_of 529 (by decide +kernel) (by decide +kernel)
theorem tw_531 : Cond.instanceMethod yX6_standsWithout ∈ jTs := jTs_of 531 (by decide +kernel) (by decide +kernel)
theorem tw_532 : Cond.code yX6_standsWithout cX6_standsWithout 5 (some .boolean) ∈ jTs := jTs_of 532 (by decide +kernel) (by decide +kernel)
theorem tw_533 : Cond.methodLink RL 85 yX6_built ∈ jTs := jTs_of 533 (by decide +kernel) (by decide +kernel)
theorem tw_534 : Cond.instanceMethod yX6_built ∈ jTs := jTs_of 534 (by decide +kernel) (by decide +kernel)
theorem tw_535 : Cond.selects RX6 yX6_built yX6_built ∈ jTs := jTs_of 535 (by decide +kernel) (by decide +kernel)
theorem tw_536 : Cond.code yX6_built cX6_built 9 (some .int) ∈ jTs := jTs_of 536 (by decide +kernel) (by decide +kernel)
theorem tw_537 : Cond.methodLink RL 89 yX6_note ∈ jTs := jTs_of 537 (by decide +kernel) (by decide +kernel)
theorem tw_538 : Cond.instanceMethod yX6_note ∈ jTs := jTs_of 538 (by decide +kernel) (by decide +kernel)
theorem tw_539 : Cond.selects RX6 yX6_note yX6_note ∈ jTs := jTs_of 539 (by decide +kernel) (by decide +kernel)
theorem tw_540 : Cond.code yX6_note cX6_note 5 (some .int) ∈ jTs := jTs_of 540 (by decide +kernel) (by decide +kernel)
theorem tw_541 : Cond.methodLink RX6 203 yX0_isEnded ∈ jTs := jTs_of 541 (by decide +kernel) (by decide +kernel)
theorem tw_542 : Cond.instanceMethod yX0_isEnded ∈ jTs := jTs_of 542 (by decide +kernel) (by decide +kernel)
theorem tw_543 : Cond.selects RX0 yX0_isEnded yX0_isEnded ∈ jTs := jTs_of 543 (by decide +kernel) (by decide +kernel)
theorem tw_544 : Cond.code yX0_isEnded cX0_isEnded 1 (some .boolean) ∈ jTs := jTs_of 544 (by decide +kernel) (by decide +kernel)
theorem tw_545 : Cond.methodLink RX6 207 yX0_add ∈ jTs := jTs_of 545 (by decide +kernel) (by decide +kernel)
theorem tw_546 : Cond.instanceMethod yX0_add ∈ jTs := jTs_of 546 (by decide +kernel) (by decide +kernel)
theorem tw_547 : Cond.selects RX0 yX0_add yX0_add ∈ jTs := jTs_of 547 (by decide +kernel) (by decide +kernel)
theorem tw_548 : Cond.code yX0_add cX0_add 4 none ∈ jTs := jTs_of 548 (by decide +kernel) (by decide +kernel)
theorem tw_549 : Cond.methodLink RL 93 yX6_forget ∈ jTs := jTs_of 549 (by decide +kernel) (by decide +kernel)
theorem tw_550 : Cond.instanceMethod yX6_forget ∈ jTs := jTs_of 550 (by decide +kernel) (by decide +kernel)
theorem tw_551 : Cond.selects RX6 yX6_forget yX6_forget ∈ jTs := jTs_of 551 (by decide +kernel) (by decide +kernel)
theorem tw_552 : Cond.code yX6_forget cX6_forget 2 (some .int) ∈ jTs := jTs_of 552 (by decide +kernel) (by decide +kernel)
theorem tw_553 : Cond.methodLink RL 97 yX6_thick ∈ jTs := jTs_of 553 (by decide +kernel) (by decide +kernel)
theorem tw_554 : Cond.instanceMethod yX6_thick ∈ jTs := jTs_of 554 (by decide +kernel) (by decide +kernel)
theorem tw_555 : Cond.selects RX6 yX6_thick yX6_thick ∈ jTs := jTs_of 555 (by decide +kernel) (by decide +kernel)
theorem tw_556 : Cond.code yX6_thick cX6_thick 5 (some .int) ∈ jTs := jTs_of 556 (by decide +kernel) (by decide +kernel)
theorem tw_557 : Cond.methodLink RX6 209 yX0_couldBe ∈ jTs := jTs_of 557 (by decide +kernel) (by decide +kernel)
theorem tw_558 : Cond.instanceMethod yX0_couldBe ∈ jTs := jTs_of 558 (by decide +kernel) (by decide +kernel)
theorem tw_559 : Cond.selects RX0 yX0_couldBe yX0_couldBe ∈ jTs := jTs_of 559 (by decide +kernel) (by decide +kernel)
theorem tw_560 : Cond.code yX0_couldBe cX0_couldBe 5 (some .boolean) ∈ jTs := jTs_of 560 (by decide +kernel) (by decide +kernel)
theorem tw_561 : Cond.methodLink RX0 25 yJ9_max_7cf53 ∈ jTs := jTs_of 561 (by decide +kernel) (by decide +kernel)
theorem tw_562 : Cond.methodLink RL 101 yX6_fail ∈ jTs := jTs_of 562 (by decide +kernel) (by decide +kernel)
theorem tw_563 : Cond.instanceMethod yX6_fail ∈ jTs := jTs_of 563 (by decide +kernel) (by decide +kernel)
theorem tw_564 : Cond.selects RX6 yX6_fail yX6_fail ∈ jTs := jTs_of 564 (by decide +kernel) (by decide +kernel)
theorem tw_565 : Cond.code yX6_fail cX6_fail 14 (some .int) ∈ jTs := jTs_of 565 (by decide +kernel) (by decide +kernel)
theorem tw_566 : Cond.methodLink RX6 212 yX6_power ∈ jTs := jTs_of 566 (by decide +kernel) (by decide +kernel)
theorem tw_567 : Cond.static yX6_power ∈ jTs := jTs_of 567 (by decide +kernel) (by decide +kernel)
theorem tw_568 : Cond.code yX6_power cX6_power 5 (some .long) ∈ jTs := jTs_of 568 (by decide +kernel) (by decide +kernel)
theorem tw_569 : Cond.methodLink RX6 216 yX6_greatestShared ∈ jTs := jTs_of 569 (by decide +kernel) (by decide +kernel)
theorem tw_570 : Cond.static yX6_greatestShared ∈ jTs := jTs_of 570 (by decide +kernel) (by decide +kernel)
theorem tw_571 : Cond.code yX6_greatestShared cX6_greatestShared 7 (some .long) ∈ jTs := jTs_of 571 (by decide +kernel) (by decide +kernel)
theorem tw_572 : Cond.methodLink RL 106 yX6_year ∈ jTs := jTs_of 572 (by decide +kernel) (by decide +kernel)
theorem tw_573 : Cond.instanceMethod yX6_year ∈ jTs := jTs_of 573 (by decide +kernel) (by decide +kernel)
theorem tw_574 : Cond.selects RX6 yX6_year yX6_year ∈ jTs := jTs_of 574 (by decide +kernel) (by decide +kernel)
theorem tw_575 : Cond.code yX6_year cX6_year 5 (some .int) ∈ jTs := jTs_of 575 (by decide +kernel) (by decide +kernel)
theorem tw_576 : Cond.methodLink RX6 220 yX6_drawAhead ∈ jTs := jTs_of 576 (by decide +kernel) (by decide +kernel)
theorem tw_578 : Cond.instanceMethod yX6_drawAhead ∈ jTs := jTs_of 578 (by decide +kernel) (by decide +kernel)
theorem tw_579 : Cond.code yX6_drawAhead cX6_drawAhead 8 none ∈ jTs := jTs_of 579 (by decide +kernel) (by decide +kernel)
theorem tw_580 : Cond.constantLong RX6 236 (7919) ∈ jTs := jTs_of 580 (by decide +kernel) (by decide +kernel)
theorem tw_581 : Cond.constantLong RX6 238 (6151) ∈ jTs := jTs_of 581 (by decide +kernel) (by decide +kernel)
theorem tw_582 : Cond.constantLong RX6 240 (65521) ∈ jTs := jTs_of 582 (by decide +kernel) (by decide +kernel)
theorem tw_583 : Cond.methodLink RX6 227 yX5_countHurt ∈ jTs := jTs_of 583 (by decide +kernel) (by decide +kernel)
theorem tw_584 : Cond.instanceMethod yX5_countHurt ∈ jTs := jTs_of 584 (by decide +kernel) (by decide +kernel)
theorem tw_585 : Cond.selects RX5 yX5_countHurt yX5_countHurt ∈ jTs := jTs_of 585 (by decide +kernel) (by decide +kernel)
theorem tw_586 : Cond.code yX5_countHurt cX5_countHurt 3 (some .int) ∈ jTs := jTs_of 586 (by decide +kernel) (by decide +kernel)
theorem tw_587 : Cond.methodLink RL 110 yX6_keep ∈ jTs := jTs_of 587 (by decide +kernel) (by decide +kernel)
theorem tw_588 : Cond.instanceMethod yX6_keep ∈ jTs := jTs_of 588 (by decide +kernel) (by decide +kernel)
theorem tw_589 : Cond.selects RX6 yX6_keep yX6_keep ∈ jTs := jTs_of 589 (by decide +kernel) (by decide +kernel)
theorem tw_590 : Cond.code yX6_keep cX6_keep 1 (some .int) ∈ jTs := jTs_of 590 (by decide +kernel) (by decide +kernel)
theorem tw_591 : Cond.methodLink RL 114 yX6_back ∈ jTs := jTs_of 591 (by decide +kernel) (by decide +kernel)
theorem tw_592 : Cond.instanceMethod yX6_back ∈ jTs := jTs_of 592 (by decide +kernel) (by decide +kernel)
theorem tw_593 : Cond.selects RX6 yX6_back yX6_back ∈ jTs := jTs_of 593 (by decide +kernel) (by decide +kernel)
theorem tw_594 : Cond.code yX6_back cX6_back 1 (some .int) ∈ jTs := jTs_of 594 (by decide +kernel) (by decide +kernel)
theorem tw_595 : Cond.methodLink RL 118 yX6_count ∈ jTs := jTs_of 595 (by decide +kernel) (by decide +kernel)
theorem tw_596 : Cond.instanceMethod yX6_count ∈ jTs := jTs_of 596 (by decide +kernel) (by decide +kernel)
theorem tw_597 : Cond.selects RX6 yX6_count yX6_count ∈ jTs := jTs_of 597 (by decide +kernel) (by decide +kernel)
theorem tw_598 : Cond.code yX6_count cX6_count 2 (some .int) ∈ jTs := jTs_of 598 (by decide +kernel) (by decide +kernel)
theorem tw_599 : Cond.methodLink RX6 230 yX5_countProps ∈ jTs := jTs_of 599 (by decide +kernel) (by decide +kernel)
theorem tw_600 : Cond.instanceMethod yX5_countProps ∈ jTs := jTs_of 600 (by decide +kernel) (by decide +kernel)
theorem tw_601 : Cond.selects RX5 yX5_countProps yX5_countProps ∈ jTs := jTs_of 601 (by decide +kernel) (by decide +kernel)
theorem tw_602 : Cond.code yX5_countProps cX5_countProps 6 (some .int) ∈ jTs := jTs_of 602 (by decide +kernel) (by decide +kernel)
theorem tw_603 : Cond.classLink RL 10 RX7 ∈ jTs := jTs_of 603 (by decide +kernel) (by decide +kernel)
theorem tw_604 : Cond.instantiable RX7 25 ∈ jTs := jTs_of 604 (by decide +kernel) (by decide +kernel)
theorem tw_605 : Cond.methodLink RL 12 yX7_init ∈ jTs := jTs_of 605 (by decide +kernel) (by decide +kernel)
theorem tw_606 : Cond.instanceMethod yX7_init ∈ jTs := jTs_of 606 (by decide +kernel) (by decide +kernel)
theorem tw_607 : Cond.code yX7_init cX7_init 1 none ∈ jTs := jTs_of 607 (by decide +kernel) (by decide +kernel)
theorem tw_608 : Cond.methodLink RX7 1 objectInit ∈ jTs := jTs_of 608 (by decide +kernel) (by decide +kernel)
theorem tw_609 : Cond.methodLink RX7 55 yX7_starts ∈ jTs := jTs_of 609 (by decide +kernel) (by decide +kernel)
theorem tw_611 : Cond.instanceMethod yX7_starts ∈ jTs := jTs_of 611 (by decide +kernel) (by decide +kernel)
theorem tw_612 : Cond.code yX7_starts cX7_starts 2 none ∈ jTs := jTs_of 612 (by decide +kernel) (by decide +kernel)
theorem tw_613 : Cond.methodLink RX7 58 yX7_addsWall ∈ jTs := jTs_of 613 (by decide +kernel) (by decide +kernel)
theorem tw_615 : Cond.instanceMethod yX7_addsWall ∈ jTs := jTs_of 615 (by decide +kernel) (by decide +kernel)
theorem tw_616 : Cond.code yX7_addsWall cX7_addsWall 4 none ∈ jTs := jTs_of 616 (by decide +kernel) (by decide +kernel)
theorem tw_617 : Cond.methodLink RX7 66 yX7_begins ∈ jTs := jTs_of 617 (by decide +kernel) (by decide +kernel)
theorem tw_619 : Cond.instanceMethod yX7_begins ∈ jTs := jTs_of 619 (by decide +kernel) (by decide +kernel)
theorem tw_620 : Cond.code yX7_begins cX7_begins 2 none ∈ jTs := jTs_of 620 (by decide +kernel) (by decide +kernel)
theorem tw_621 : Cond.fieldLink RX7 7 "WallTrumpetsModel" "w" "[I" ∈ jTs := jTs_of 621 (by decide +kernel) (by decide +kernel)
theorem tw_622 : Cond.fieldLink RX7 79 "WallTrumpetsModel" "undoes" "I" ∈ jTs := jTs_of 622 (by decide +kernel) (by decide +kernel)
theorem tw_623 : Cond.fieldLink RX7 82 "WallTrumpetsModel" "kept" "I" ∈ jTs := jTs_of 623 (by decide +kernel) (by decide +kernel)
theorem tw_624 : Cond.fieldLink RX7 69 "WallTrumpetsModel" "walls" "I" ∈ jTs := jTs_of 624 (by decide +kernel) (by decide +kernel)
theorem tw_625 : Cond.fieldLink RX7 13 "WallTrumpetsModel" "kind" "[I" ∈ jTs := jTs_of 625 (by decide +kernel) (by decide +kernel)
theorem tw_626 : Cond.fieldLink RX7 16 "WallTrumpetsModel" "laid" "[I" ∈ jTs := jTs_of 626 (by decide +kernel) (by decide +kernel)
theorem tw_627 : Cond.fieldLink RX7 19 "WallTrumpetsModel" "leans" "[I" ∈ jTs := jTs_of 627 (by decide +kernel) (by decide +kernel)
theorem tw_628 : Cond.fieldLink RX7 85 "WallTrumpetsModel" "noted" "I" ∈ jTs := jTs_of 628 (by decide +kernel) (by decide +kernel)
theorem tw_629 : Cond.fieldLink RX7 22 "WallTrumpetsModel" "noteMany" "[I" ∈ jTs := jTs_of 629 (by decide +kernel) (by decide +kernel)
theorem tw_630 : Cond.fieldLink RX7 25 "WallTrumpetsModel" "noteRound" "[I" ∈ jTs := jTs_of 630 (by decide +kernel) (by decide +kernel)
theorem tw_631 : Cond.fieldLink RX7 28 "WallTrumpetsModel" "noteFelled" "[I" ∈ jTs := jTs_of 631 (by decide +kernel) (by decide +kernel)
theorem tw_632 : Cond.fieldLink RX7 31 "WallTrumpetsModel" "text" "[I" ∈ jTs := jTs_of 632 (by decide +kernel) (by decide +kernel)
theorem tw_633 : Cond.fieldLink RX7 92 "WallTrumpetsModel" "texted" "I" ∈ jTs := jTs_of 633 (by decide +kernel) (by decide +kernel)
theorem tw_634 : Cond.fieldLink RX7 95 "WallTrumpetsModel" "place" "I" ∈ jTs := jTs_of 634 (by decide +kernel) (by decide +kernel)
theorem tw_635 : Cond.fieldLink RX7 98 "WallTrumpetsModel" "number" "I" ∈ jTs := jTs_of 635 (by decide +kernel) (by decide +kernel)
theorem tw_636 : Cond.fieldLink RX7 76 "WallTrumpetsModel" "readWalls" "I" ∈ jTs := jTs_of 636 (by decide +kernel) (by decide +kernel)
theorem tw_637 : Cond.fieldLink RX7 34 "WallTrumpetsModel" "readWall" "[I" ∈ jTs := jTs_of 637 (by decide +kernel) (by decide +kernel)
theorem tw_638 : Cond.fieldLink RX7 37 "WallTrumpetsModel" "readProp" "[I" ∈ jTs := jTs_of 638 (by decide +kernel) (by decide +kernel)
theorem tw_639 : Cond.fieldLink RX7 62 "WallTrumpetsModel" "readStones" "I" ∈ jTs := jTs_of 639 (by decide +kernel) (by decide +kernel)
theorem tw_640 : Cond.fieldLink RX7 40 "WallTrumpetsModel" "fallen" "[I" ∈ jTs := jTs_of 640 (by decide +kernel) (by decide +kernel)
theorem tw_641 : Cond.fieldLink RX7 43 "WallTrumpetsModel" "next" "[I" ∈ jTs := jTs_of 641 (by decide +kernel) (by decide +kernel)
theorem tw_642 : Cond.fieldLink RX7 46 "WallTrumpetsModel" "blasted" "[I" ∈ jTs := jTs_of 642 (by decide +kernel) (by decide +kernel)
theorem tw_643 : Cond.fieldLink RX7 49 "WallTrumpetsModel" "sums" "[I" ∈ jTs := jTs_of 643 (by decide +kernel) (by decide +kernel)
theorem tw_644 : Cond.fieldLink RX7 52 "WallTrumpetsModel" "best" "[I" ∈ jTs := jTs_of 644 (by decide +kernel) (by decide +kernel)
theorem tw_645 : Cond.fieldLink RX7 193 "WallTrumpetsModel" "bestMany" "I" ∈ jTs := jTs_of 645 (by decide +kernel) (by decide +kernel)
theorem tw_646 : Cond.laysFinal RX7 "WallTrumpetsModel" "w" "[I" ∈ jTs := jTs_of 646 (by decide +kernel) (by decide +kernel)
theorem tw_648 : Cond.lays RX7 "WallTrumpetsModel" "undoes" "I" ∈ jTs := jTs_of 648 (by decide +kernel) (by decide +kernel)
theorem tw_650 : Cond.lays RX7 "WallTrumpetsModel" "kept" "I" ∈ jTs := jTs_of 650 (by decide +kernel) (by decide +kernel)
theorem tw_652 : Cond.lays RX7 "WallTrumpetsModel" "walls" "I" ∈ jTs := jTs_of 652 (by decide +kernel) (by decide +kernel)
theorem tw_654 : Cond.laysFinal RX7 "WallTrumpetsModel" "kind" "[I" ∈ jTs := jTs_of 654 (by decide +kernel) (by decide +kernel)
theorem tw_656 : Cond.laysFinal RX7 "WallTrumpetsModel" "laid" "[I" ∈ jTs := jTs_of 656 (by decide +kernel) (by decide +kernel)
theorem tw_658 : Cond.laysFinal RX7 "WallTrumpetsModel" "leans" "[I" ∈ jTs := jTs_of 658 (by decide +kernel) (by decide +kernel)
theorem tw_660 : Cond.lays RX7 "WallTrumpetsModel" "noted" "I" ∈ jTs := jTs_of 660 (by decide +kernel) (by decide +kernel)
theorem tw_662 : Cond.laysFinal RX7 "WallTrumpetsModel" "noteMany" "[I" ∈ jTs := jTs_of 662 (by decide +kernel) (by decide +kernel)
theorem tw_664 : Cond.laysFinal RX7 "WallTrumpetsModel" "noteRound" "[I" ∈ jTs := jTs_of 664 (by decide +kernel) (by decide +kernel)
theorem tw_666 : Cond.laysFinal RX7 "WallTrumpetsModel" "noteFelled" "[I" ∈ jTs := jTs_of 666 (by decide +kernel) (by decide +kernel)
theorem tw_668 : Cond.laysFinal RX7 "WallTrumpetsModel" "text" "[I" ∈ jTs := jTs_of 668 (by decide +kernel) (by decide +kernel)
theorem tw_670 : Cond.lays RX7 "WallTrumpetsModel" "texted" "I" ∈ jTs := jTs_of 670 (by decide +kernel) (by decide +kernel)
theorem tw_672 : Cond.lays RX7 "WallTrumpetsModel" "place" "I" ∈ jTs := jTs_of 672 (by decide +kernel) (by decide +kernel)
theorem tw_674 : Cond.lays RX7 "WallTrumpetsModel" "number" "I" ∈ jTs := jTs_of 674 (by decide +kernel) (by decide +kernel)
theorem tw_676 : Cond.lays RX7 "WallTrumpetsModel" "readWalls" "I" ∈ jTs := jTs_of 676 (by decide +kernel) (by decide +kernel)
theorem tw_678 : Cond.laysFinal RX7 "WallTrumpetsModel" "readWall" "[I" ∈ jTs := jTs_of 678 (by decide +kernel) (by decide +kernel)
theorem tw_680 : Cond.laysFinal RX7 "WallTrumpetsModel" "readProp" "[I" ∈ jTs := jTs_of 680 (by decide +kernel) (by decide +kernel)
theorem tw_682 : Cond.lays RX7 "WallTrumpetsModel" "readStones" "I" ∈ jTs := jTs_of 682 (by decide +kernel) (by decide +kernel)
theorem tw_684 : Cond.laysFinal RX7 "WallTrumpetsModel" "fallen" "[I" ∈ jTs := jTs_of 684 (by decide +kernel) (by decide +kernel)
theorem tw_686 : Cond.laysFinal RX7 "WallTrumpetsModel" "next" "[I" ∈ jTs := jTs_of 686 (by decide +kernel) (by decide +kernel)
theorem tw_688 : Cond.laysFinal RX7 "WallTrumpetsModel" "blasted" "[I" ∈ jTs := jTs_of 688 (by decide +kernel) (by decide +kernel)
theorem tw_690 : Cond.laysFinal RX7 "WallTrumpetsModel" "sums" "[I" ∈ jTs := jTs_of 690 (by decide +kernel) (by decide +kernel)
theorem tw_692 : Cond.laysFinal RX7 "WallTrumpetsModel" "best" "[I" ∈ jTs := jTs_of 692 (by decide +kernel) (by decide +kernel)
theorem tw_694 : Cond.lays RX7 "WallTrumpetsModel" "bestMany" "I" ∈ jTs := jTs_of 694 (by decide +kernel) (by decide +kernel)
theorem tw_697 : Cond.methodLink RL 17 yX7_write ∈ jTs := jTs_of 697 (by decide +kernel) (by decide +kernel)
theorem tw_698 : Cond.instanceMethod yX7_write ∈ jTs := jTs_of 698 (by decide +kernel) (by decide +kernel)
theorem tw_699 : Cond.selects RX7 yX7_write yX7_write ∈ jTs := jTs_of 699 (by decide +kernel) (by decide +kernel)
theorem tw_700 : Cond.code yX7_write cX7_write 2 (some .int) ∈ jTs := jTs_of 700 (by decide +kernel) (by decide +kernel)
theorem tw_701 : Cond.constantLong RX7 88 (32) ∈ jTs := jTs_of 701 (by decide +kernel) (by decide +kernel)
theorem tw_702 : Cond.constantLong RX7 90 (126) ∈ jTs := jTs_of 702 (by decide +kernel) (by decide +kernel)
theorem tw_703 : Cond.methodLink RX7 72 yX7_in ∈ jTs := jTs_of 703 (by decide +kernel) (by decide +kernel)
theorem tw_704 : Cond.static yX7_in ∈ jTs := jTs_of 704 (by decide +kernel) (by decide +kernel)
theorem tw_705 : Cond.code yX7_in cX7_in 6 (some .boolean) ∈ jTs := jTs_of 705 (by decide +kernel) (by decide +kernel)
theorem tw_706 : Cond.methodLink RL 22 yX7_wipe ∈ jTs := jTs_of 706 (by decide +kernel) (by decide +kernel)
theorem tw_707 : Cond.instanceMethod yX7_wipe ∈ jTs := jTs_of 707 (by decide +kernel) (by decide +kernel)
theorem tw_708 : Cond.selects RX7 yX7_wipe yX7_wipe ∈ jTs := jTs_of 708 (by decide +kernel) (by decide +kernel)
theorem tw_709 : Cond.code yX7_wipe cX7_wipe 2 (some .int) ∈ jTs := jTs_of 709 (by decide +kernel) (by decide +kernel)
theorem tw_710 : Cond.methodLink RL 26 yX7_fault ∈ jTs := jTs_of 710 (by decide +kernel) (by decide +kernel)
theorem tw_711 : Cond.instanceMethod yX7_fault ∈ jTs := jTs_of 711 (by decide +kernel) (by decide +kernel)
theorem tw_712 : Cond.selects RX7 yX7_fault yX7_fault ∈ jTs := jTs_of 712 (by decide +kernel) (by decide +kernel)
theorem tw_713 : Cond.code yX7_fault cX7_fault 1 (some .int) ∈ jTs := jTs_of 713 (by decide +kernel) (by decide +kernel)
theorem tw_714 : Cond.methodLink RX7 126 yX7_faultOf ∈ jTs := jTs_of 714 (by decide +kernel) (by decide +kernel)
theorem tw_716 : Cond.instanceMethod yX7_faultOf ∈ jTs := jTs_of 716 (by decide +kernel) (by decide +kernel)
theorem tw_717 : Cond.code yX7_faultOf cX7_faultOf 2 (some .int) ∈ jTs := jTs_of 717 (by decide +kernel) (by decide +kernel)
theorem tw_718 : Cond.methodLink RX7 123 yX7_takesItem ∈ jTs := jTs_of 718 (by decide +kernel) (by decide +kernel)
theorem tw_720 : Cond.instanceMethod yX7_takesItem ∈ jTs := jTs_of 720 (by decide +kernel) (by decide +kernel)
theorem tw_721 : Cond.code yX7_takesItem cX7_takesItem 2 (some .boolean) ∈ jTs := jTs_of 721 (by decide +kernel) (by decide +kernel)
theorem tw_722 : Cond.methodLink RX7 101 yX7_letterAt ∈ jTs := jTs_of 722 (by decide +kernel) (by decide +kernel)
theorem tw_724 : Cond.instanceMethod yX7_letterAt ∈ jTs := jTs_of 724 (by decide +kernel) (by decide +kernel)
theorem tw_725 : Cond.code yX7_letterAt cX7_letterAt 2 (some .int) ∈ jTs := jTs_of 725 (by decide +kernel) (by decide +kernel)
theorem tw_726 : Cond.methodLink RX7 113 yX7_takesWall ∈ jTs := jTs_of 726 (by decide +kernel) (by decide +kernel)
theorem tw_728 : Cond.instanceMethod yX7_takesWall ∈ jTs := jTs_of 728 (by decide +kernel) (by decide +kernel)
theorem tw_729 : Cond.code yX7_takesWall cX7_takesWall 3 (some .boolean) ∈ jTs := jTs_of 729 (by decide +kernel) (by decide +kernel)
theorem tw_730 : Cond.methodLink RX7 109 yX7_takesNumber ∈ jTs := jTs_of 730 (by decide +kernel) (by decide +kernel)
theorem tw_732 : Cond.instanceMethod yX7_takesNumber ∈ jTs := jTs_of 732 (by decide +kernel) (by decide +kernel)
theorem tw_733 : Cond.code yX7_takesNumber cX7_takesNumber 5 (some .boolean) ∈ jTs := jTs_of 733 (by decide +kernel) (by decide +kernel)
theorem tw_734 : Cond.constantLong RX7 105 (48) ∈ jTs := jTs_of 734 (by decide +kernel) (by decide +kernel)
theorem tw_735 : Cond.constantLong RX7 107 (57) ∈ jTs := jTs_of 735 (by decide +kernel) (by decide +kernel)
theorem tw_736 : Cond.methodLink RX7 117 yX7_takesProp ∈ jTs := jTs_of 736 (by decide +kernel) (by decide +kernel)
theorem tw_738 : Cond.instanceMethod yX7_takesProp ∈ jTs := jTs_of 738 (by decide +kernel) (by decide +kernel)
theorem tw_739 : Cond.code yX7_takesProp cX7_takesProp 3 (some .boolean) ∈ jTs := jTs_of 739 (by decide +kernel) (by decide +kernel)
theorem tw_740 : Cond.methodLink RX7 120 yX7_takesStones ∈ jTs := jTs_of 740 (by decide +kernel) (by decide +kernel)
theorem tw_742 : Cond.instanceMethod yX7_takesStones ∈ jTs := jTs_of 742 (by decide +kernel) (by decide +kernel)
theorem tw_743 : Cond.code yX7_takesStones cX7_takesStones 1 (some .boolean) ∈ jTs := jTs_of 743 (by decide +kernel) (by decide +kernel)
theorem tw_744 : Cond.methodLink RL 30 yX7_lay ∈ jTs := jTs_of 744 (by decide +kernel) (by decide +kernel)
theorem tw_745 : Cond.instanceMethod yX7_lay ∈ jTs := jTs_of 745 (by decide +kernel) (by decide +kernel)
theorem tw_746 : Cond.selects RX7 yX7_lay yX7_lay ∈ jTs := jTs_of 746 (by decide +kernel) (by decide +kernel)
theorem tw_747 : Cond.code yX7_lay cX7_lay 1 (some .int) ∈ jTs := jTs_of 747 (by decide +kernel) (by decide +kernel)
theorem tw_748 : Cond.methodLink RL 35 yX7_wall ∈ jTs := jTs_of 748 (by decide +kernel) (by decide +kernel)
theorem tw_749 : Cond.instanceMethod yX7_wall ∈ jTs := jTs_of 749 (by decide +kernel) (by decide +kernel)
theorem tw_750 : Cond.selects RX7 yX7_wall yX7_wall ∈ jTs := jTs_of 750 (by decide +kernel) (by decide +kernel)
theorem tw_751 : Cond.code yX7_wall cX7_wall 3 (some .int) ∈ jTs := jTs_of 751 (by decide +kernel) (by decide +kernel)
theorem tw_752 : Cond.methodLink RX7 130 yX7_isWall ∈ jTs := jTs_of 752 (by decide +kernel) (by decide +kernel)
theorem tw_754 : Cond.instanceMethod yX7_isWall ∈ jTs := jTs_of 754 (by decide +kernel) (by decide +kernel)
theorem tw_755 : Cond.code yX7_isWall cX7_isWall 2 (some .boolean) ∈ jTs := jTs_of 755 (by decide +kernel) (by decide +kernel)
theorem tw_756 : Cond.constantLong RX7 134 (3) ∈ jTs := jTs_of 756 (by decide +kernel) (by decide +kernel)
theorem tw_757 : Cond.constantLong RX7 136 (7) ∈ jTs := jTs_of 757 (by decide +kernel) (by decide +kernel)
theorem tw_758 : Cond.methodLink RL 39 yX7_holds ∈ jTs := jTs_of 758 (by decide +kernel) (by decide +kernel)
theorem tw_759 : Cond.instanceMethod yX7_holds ∈ jTs := jTs_of 759 (by decide +kernel) (by decide +kernel)
theorem tw_760 : Cond.selects RX7 yX7_holds yX7_holds ∈ jTs := jTs_of 760 (by decide +kernel) (by decide +kernel)
theorem tw_761 : Cond.code yX7_holds cX7_holds 3 (some .int) ∈ jTs := jTs_of 761 (by decide +kernel) (by decide +kernel)
theorem tw_762 : Cond.methodLink RL 43 yX7_round ∈ jTs := jTs_of 762 (by decide +kernel) (by decide +kernel)
theorem tw_763 : Cond.instanceMethod yX7_round ∈ jTs := jTs_of 763 (by decide +kernel) (by decide +kernel)
theorem tw_764 : Cond.selects RX7 yX7_round yX7_round ∈ jTs := jTs_of 764 (by decide +kernel) (by decide +kernel)
theorem tw_765 : Cond.code yX7_round cX7_round 2 (some .int) ∈ jTs := jTs_of 765 (by decide +kernel) (by decide +kernel)
theorem tw_766 : Cond.methodLink RX7 138 yX7_stands ∈ jTs := jTs_of 766 (by decide +kernel) (by decide +kernel)
theorem tw_768 : Cond.instanceMethod yX7_stands ∈ jTs := jTs_of 768 (by decide +kernel) (by decide +kernel)
theorem tw_769 : Cond.code yX7_stands cX7_stands 3 (some .boolean) ∈ jTs := jTs_of 769 (by decide +kernel) (by decide +kernel)
theorem tw_770 : Cond.methodLink RX7 157 yX7_minds ∈ jTs := jTs_of 770 (by decide +kernel) (by decide +kernel)
theorem tw_772 : Cond.instanceMethod yX7_minds ∈ jTs := jTs_of 772 (by decide +kernel) (by decide +kernel)
theorem tw_773 : Cond.code yX7_minds cX7_minds 2 none ∈ jTs := jTs_of 773 (by decide +kernel) (by decide +kernel)
theorem tw_774 : Cond.methodLink RX7 153 yX7_copy ∈ jTs := jTs_of 774 (by decide +kernel) (by decide +kernel)
theorem tw_776 : Cond.instanceMethod yX7_copy ∈ jTs := jTs_of 776 (by decide +kernel) (by decide +kernel)
theorem tw_777 : Cond.code yX7_copy cX7_copy 4 none ∈ jTs := jTs_of 777 (by decide +kernel) (by decide +kernel)
theorem tw_778 : Cond.methodLink RX7 160 yX7_roundsOne ∈ jTs := jTs_of 778 (by decide +kernel) (by decide +kernel)
theorem tw_780 : Cond.instanceMethod yX7_roundsOne ∈ jTs := jTs_of 780 (by decide +kernel) (by decide +kernel)
theorem tw_781 : Cond.code yX7_roundsOne cX7_roundsOne 4 none ∈ jTs := jTs_of 781 (by decide +kernel) (by decide +kernel)
theorem tw_782 : Cond.methodLink RL 47 yX7_blast ∈ jTs := jTs_of 782 (by decide +kernel) (by decide +kernel)
theorem tw_783 : Cond.instanceMethod yX7_blast ∈ jTs := jTs_of 783 (by decide +kernel) (by decide +kernel)
theorem tw_784 : Cond.selects RX7 yX7_blast yX7_blast ∈ jTs := jTs_of 784 (by decide +kernel) (by decide +kernel)
theorem tw_785 : Cond.code yX7_blast cX7_blast 3 (some .int) ∈ jTs := jTs_of 785 (by decide +kernel) (by decide +kernel)
theorem tw_786 : Cond.constantLong RX7 163 (9) ∈ jTs := jTs_of 786 (by decide +kernel) (by decide +kernel)
theorem tw_787 : Cond.methodLink RX7 165 yX7_blasts ∈ jTs := jTs_of 787 (by decide +kernel) (by decide +kernel)
theorem tw_789 : Cond.instanceMethod yX7_blasts ∈ jTs := jTs_of 789 (by decide +kernel) (by decide +kernel)
theorem tw_790 : Cond.code yX7_blasts cX7_blasts 5 (some .int) ∈ jTs := jTs_of 790 (by decide +kernel) (by decide +kernel)
theorem tw_791 : Cond.methodLink RX7 146 yX7_wouldFall ∈ jTs := jTs_of 791 (by decide +kernel) (by decide +kernel)
theorem tw_793 : Cond.instanceMethod yX7_wouldFall ∈ jTs := jTs_of 793 (by decide +kernel) (by decide +kernel)
theorem tw_794 : Cond.code yX7_wouldFall cX7_wouldFall 4 (some .boolean) ∈ jTs := jTs_of 794 (by decide +kernel) (by decide +kernel)
theorem tw_795 : Cond.methodLink RX7 149 yX7_falls ∈ jTs := jTs_of 795 (by decide +kernel) (by decide +kernel)
theorem tw_797 : Cond.instanceMethod yX7_falls ∈ jTs := jTs_of 797 (by decide +kernel) (by decide +kernel)
theorem tw_798 : Cond.code yX7_falls cX7_falls 7 none ∈ jTs := jTs_of 798 (by decide +kernel) (by decide +kernel)
theorem tw_799 : Cond.methodLink RX7 142 yX7_fellsOne ∈ jTs := jTs_of 799 (by decide +kernel) (by decide +kernel)
theorem tw_801 : Cond.instanceMethod yX7_fellsOne ∈ jTs := jTs_of 801 (by decide +kernel) (by decide +kernel)
theorem tw_802 : Cond.code yX7_fellsOne cX7_fellsOne 5 (some .boolean) ∈ jTs := jTs_of 802 (by decide +kernel) (by decide +kernel)
theorem tw_803 : Cond.methodLink RL 51 yX7_pass ∈ jTs := jTs_of 803 (by decide +kernel) (by decide +kernel)
theorem tw_804 : Cond.instanceMethod yX7_pass ∈ jTs := jTs_of 804 (by decide +kernel) (by decide +kernel)
theorem tw_805 : Cond.selects RX7 yX7_pass yX7_pass ∈ jTs := jTs_of 805 (by decide +kernel) (by decide +kernel)
theorem tw_806 : Cond.code yX7_pass cX7_pass 3 (some .int) ∈ jTs := jTs_of 806 (by decide +kernel) (by decide +kernel)
theorem tw_807 : Cond.constantLong RX7 169 (24) ∈ jTs := jTs_of 807 (by decide +kernel) (by decide +kernel)
theorem tw_808 : Cond.methodLink RX7 171 yX7_passes ∈ jTs := jTs_of 808 (by decide +kernel) (by decide +kernel)
theorem tw_810 : Cond.instanceMethod yX7_passes ∈ jTs := jTs_of 810 (by decide +kernel) (by decide +kernel)
theorem tw_811 : Cond.code yX7_passes cX7_passes 3 none ∈ jTs := jTs_of 811 (by decide +kernel) (by decide +kernel)
theorem tw_812 : Cond.methodLink RL 56 yX7_prop ∈ jTs := jTs_of 812 (by decide +kernel) (by decide +kernel)
theorem tw_813 : Cond.instanceMethod yX7_prop ∈ jTs := jTs_of 813 (by decide +kernel) (by decide +kernel)
theorem tw_814 : Cond.selects RX7 yX7_prop yX7_prop ∈ jTs := jTs_of 814 (by decide +kernel) (by decide +kernel)
theorem tw_815 : Cond.code yX7_prop cX7_prop 5 (some .int) ∈ jTs := jTs_of 815 (by decide +kernel) (by decide +kernel)
theorem tw_816 : Cond.constantLong RX7 175 (40) ∈ jTs := jTs_of 816 (by decide +kernel) (by decide +kernel)
theorem tw_817 : Cond.methodLink RL 60 yX7_use ∈ jTs := jTs_of 817 (by decide +kernel) (by decide +kernel)
theorem tw_818 : Cond.instanceMethod yX7_use ∈ jTs := jTs_of 818 (by decide +kernel) (by decide +kernel)
theorem tw_819 : Cond.selects RX7 yX7_use yX7_use ∈ jTs := jTs_of 819 (by decide +kernel) (by decide +kernel)
theorem tw_820 : Cond.code yX7_use cX7_use 2 (some .int) ∈ jTs := jTs_of 820 (by decide +kernel) (by decide +kernel)
theorem tw_821 : Cond.constantLong RX7 177 (60) ∈ jTs := jTs_of 821 (by decide +kernel) (by decide +kernel)
theorem tw_822 : Cond.methodLink RL 64 yX7_undo ∈ jTs := jTs_of 822 (by decide +kernel) (by decide +kernel)
theorem tw_823 : Cond.instanceMethod yX7_undo ∈ jTs := jTs_of 823 (by decide +kernel) (by decide +kernel)
theorem tw_824 : Cond.selects RX7 yX7_undo yX7_undo ∈ jTs := jTs_of 824 (by decide +kernel) (by decide +kernel)
theorem tw_825 : Cond.code yX7_undo cX7_undo 1 (some .int) ∈ jTs := jTs_of 825 (by decide +kernel) (by decide +kernel)
theorem tw_826 : Cond.methodLink RL 68 yX7_calls ∈ jTs := jTs_of 826 (by decide +kernel) (by decide +kernel)
theorem tw_827 : Cond.instanceMethod yX7_calls ∈ jTs := jTs_of 827 (by decide +kernel) (by decide +kernel)
theorem tw_828 : Cond.selects RX7 yX7_calls yX7_calls ∈ jTs := jTs_of 828 (by decide +kernel) (by decide +kernel)
theorem tw_829 : Cond.code yX7_calls cX7_calls 2 (some .int) ∈ jTs := jTs_of 829 (by decide +kernel) (by decide +kernel)
theorem tw_830 : Cond.methodLink RX7 179 yX7_callsIn ∈ jTs := jTs_of 830 (by decide +kernel) (by decide +kernel)
theorem tw_832 : Cond.instanceMethod yX7_callsIn ∈ jTs := jTs_of 832 (by decide +kernel) (by decide +kernel)
theorem tw_833 : Cond.code yX7_callsIn cX7_callsIn 4 (some .int) ∈ jTs := jTs_of 833 (by decide +kernel) (by decide +kernel)
theorem tw_834 : Cond.methodLink RL 72 yX7_rounds ∈ jTs := jTs_of 834 (by decide +kernel) (by decide +kernel)
theorem tw_835 : Cond.instanceMethod yX7_rounds ∈ jTs := jTs_of 835 (by decide +kernel) (by decide +kernel)
theorem tw_836 : Cond.selects RX7 yX7_rounds yX7_rounds ∈ jTs := jTs_of 836 (by decide +kernel) (by decide +kernel)
theorem tw_837 : Cond.code yX7_rounds cX7_rounds 4 (some .int) ∈ jTs := jTs_of 837 (by decide +kernel) (by decide +kernel)
theorem tw_838 : Cond.methodLink RX7 183 yX7_tries ∈ jTs := jTs_of 838 (by decide +kernel) (by decide +kernel)
theorem tw_840 : Cond.instanceMethod yX7_tries ∈ jTs := jTs_of 840 (by decide +kernel) (by decide +kernel)
theorem tw_841 : Cond.code yX7_tries cX7_tries 1 none ∈ jTs := jTs_of 841 (by decide +kernel) (by decide +kernel)
theorem tw_842 : Cond.methodLink RL 76 yX7_key ∈ jTs := jTs_of 842 (by decide +kernel) (by decide +kernel)
theorem tw_843 : Cond.instanceMethod yX7_key ∈ jTs := jTs_of 843 (by decide +kernel) (by decide +kernel)
theorem tw_844 : Cond.selects RX7 yX7_key yX7_key ∈ jTs := jTs_of 844 (by decide +kernel) (by decide +kernel)
theorem tw_845 : Cond.code yX7_key cX7_key 6 (some .int) ∈ jTs := jTs_of 845 (by decide +kernel) (by decide +kernel)
theorem tw_846 : Cond.methodLink RX7 186 yX7_downOnes ∈ jTs := jTs_of 846 (by decide +kernel) (by decide +kernel)
theorem tw_848 : Cond.instanceMethod yX7_downOnes ∈ jTs := jTs_of 848 (by decide +kernel) (by decide +kernel)
theorem tw_849 : Cond.code yX7_downOnes cX7_downOnes 4 (some .int) ∈ jTs := jTs_of 849 (by decide +kernel) (by decide +kernel)
theorem tw_850 : Cond.methodLink RX7 189 yX7_ones ∈ jTs := jTs_of 850 (by decide +kernel) (by decide +kernel)
theorem tw_851 : Cond.static yX7_ones ∈ jTs := jTs_of 851 (by decide +kernel) (by decide +kernel)
theorem tw_852 : Cond.code yX7_ones cX7_ones 3 (some .int) ∈ jTs := jTs_of 852 (by decide +kernel) (by decide +kernel)
theorem tw_853 : Cond.methodLink RL 80 yX7_order ∈ jTs := jTs_of 853 (by decide +kernel) (by decide +kernel)
theorem tw_854 : Cond.instanceMethod yX7_order ∈ jTs := jTs_of 854 (by decide +kernel) (by decide +kernel)
theorem tw_855 : Cond.selects RX7 yX7_order yX7_order ∈ jTs := jTs_of 855 (by decide +kernel) (by decide +kernel)
theorem tw_856 : Cond.code yX7_order cX7_order 3 (some .int) ∈ jTs := jTs_of 856 (by decide +kernel) (by decide +kernel)
theorem tw_857 : Cond.constantLong RX7 196 (-1) ∈ jTs := jTs_of 857 (by decide +kernel) (by decide +kernel)
theorem tw_858 : Cond.methodLink RX7 198 yX7_bestOrder ∈ jTs := jTs_of 858 (by decide +kernel) (by decide +kernel)
theorem tw_860 : Cond.instanceMethod yX7_bestOrder ∈ jTs := jTs_of 860 (by decide +kernel) (by decide +kernel)
theorem tw_861 : Cond.code yX7_bestOrder cX7_bestOrder 7 (some .int) ∈ jTs := jTs_of 861 (by decide +kernel) (by decide +kernel)
theorem tw_862 : Cond.constant RX7 192 (1000000) ∈ jTs := jTs_of 862 (by decide +kernel) (by decide +kernel)
theorem tw_863 : Cond.methodLink RL 84 yX7_save ∈ jTs := jTs_of 863 (by decide +kernel) (by decide +kernel)
theorem tw_864 : Cond.instanceMethod yX7_save ∈ jTs := jTs_of 864 (by decide +kernel) (by decide +kernel)
theorem tw_865 : Cond.selects RX7 yX7_save yX7_save ∈ jTs := jTs_of 865 (by decide +kernel) (by decide +kernel)
theorem tw_866 : Cond.code yX7_save cX7_save 8 (some .int) ∈ jTs := jTs_of 866 (by decide +kernel) (by decide +kernel)
theorem tw_867 : Cond.methodLink RX7 201 yX7_has ∈ jTs := jTs_of 867 (by decide +kernel) (by decide +kernel)
theorem tw_868 : Cond.static yX7_has ∈ jTs := jTs_of 868 (by decide +kernel) (by decide +kernel)
theorem tw_869 : Cond.code yX7_has cX7_has 2 (some .boolean) ∈ jTs := jTs_of 869 (by decide +kernel) (by decide +kernel)
theorem tw_870 : Cond.methodLink RL 88 yX7_built ∈ jTs := jTs_of 870 (by decide +kernel) (by decide +kernel)
theorem tw_871 : Cond.instanceMethod yX7_built ∈ jTs := jTs_of 871 (by decide +kernel) (by decide +kernel)
theorem tw_872 : Cond.selects RX7 yX7_built yX7_built ∈ jTs := jTs_of 872 (by decide +kernel) (by decide +kernel)
theorem tw_873 : Cond.code yX7_built cX7_built 9 (some .int) ∈ jTs := jTs_of 873 (by decide +kernel) (by decide +kernel)
theorem tw_874 : Cond.methodLink RL 92 yX7_note ∈ jTs := jTs_of 874 (by decide +kernel) (by decide +kernel)
theorem tw_875 : Cond.instanceMethod yX7_note ∈ jTs := jTs_of 875 (by decide +kernel) (by decide +kernel)
theorem tw_876 : Cond.selects RX7 yX7_note yX7_note ∈ jTs := jTs_of 876 (by decide +kernel) (by decide +kernel)
theorem tw_877 : Cond.code yX7_note cX7_note 4 (some .int) ∈ jTs := jTs_of 877 (by decide +kernel) (by decide +kernel)
theorem tw_878 : Cond.methodLink RL 96 yX7_forget ∈ jTs := jTs_of 878 (by decide +kernel) (by decide +kernel)
theorem tw_879 : Cond.instanceMethod yX7_forget ∈ jTs := jTs_of 879 (by decide +kernel) (by decide +kernel)
theorem tw_880 : Cond.selects RX7 yX7_forget yX7_forget ∈ jTs := jTs_of 880 (by decide +kernel) (by decide +kernel)
theorem tw_881 : Cond.code yX7_forget cX7_forget 2 (some .int) ∈ jTs := jTs_of 881 (by decide +kernel) (by decide +kernel)
theorem tw_882 : Cond.methodLink RL 100 yX7_thick ∈ jTs := jTs_of 882 (by decide +kernel) (by decide +kernel)
theorem tw_883 : Cond.instanceMethod yX7_thick ∈ jTs := jTs_of 883 (by decide +kernel) (by decide +kernel)
theorem tw_884 : Cond.selects RX7 yX7_thick yX7_thick ∈ jTs := jTs_of 884 (by decide +kernel) (by decide +kernel)
theorem tw_885 : Cond.code yX7_thick cX7_thick 6 (some .int) ∈ jTs := jTs_of 885 (by decide +kernel) (by decide +kernel)
theorem tw_886 : Cond.methodLink RX7 204 yX7_isSo ∈ jTs := jTs_of 886 (by decide +kernel) (by decide +kernel)
theorem tw_888 : Cond.instanceMethod yX7_isSo ∈ jTs := jTs_of 888 (by decide +kernel) (by decide +kernel)
theorem tw_889 : Cond.code yX7_isSo cX7_isSo 6 (some .boolean) ∈ jTs := jTs_of 889 (by decide +kernel) (by decide +kernel)
theorem tw_890 : Cond.methodLink RL 105 yX7_fail ∈ jTs := jTs_of 890 (by decide +kernel) (by decide +kernel)
theorem tw_891 : Cond.instanceMethod yX7_fail ∈ jTs := jTs_of 891 (by decide +kernel) (by decide +kernel)
theorem tw_892 : Cond.selects RX7 yX7_fail yX7_fail ∈ jTs := jTs_of 892 (by decide +kernel) (by decide +kernel)
theorem tw_893 : Cond.code yX7_fail cX7_fail 15 (some .int) ∈ jTs := jTs_of 893 (by decide +kernel) (by decide +kernel)
theorem tw_894 : Cond.constantLong RX7 207 (10) ∈ jTs := jTs_of 894 (by decide +kernel) (by decide +kernel)
theorem tw_895 : Cond.methodLink RL 109 yX7_year ∈ jTs := jTs_of 895 (by decide +kernel) (by decide +kernel)
theorem tw_896 : Cond.instanceMethod yX7_year ∈ jTs := jTs_of 896 (by decide +kernel) (by decide +kernel)
theorem tw_897 : Cond.selects RX7 yX7_year yX7_year ∈ jTs := jTs_of 897 (by decide +kernel) (by decide +kernel)
theorem tw_898 : Cond.code yX7_year cX7_year 9 (some .int) ∈ jTs := jTs_of 898 (by decide +kernel) (by decide +kernel)
theorem tw_899 : Cond.constantLong RX7 209 (9999) ∈ jTs := jTs_of 899 (by decide +kernel) (by decide +kernel)
theorem tw_900 : Cond.constantLong RX7 211 (2) ∈ jTs := jTs_of 900 (by decide +kernel) (by decide +kernel)
theorem tw_901 : Cond.constantLong RX7 213 (7919) ∈ jTs := jTs_of 901 (by decide +kernel) (by decide +kernel)
theorem tw_902 : Cond.constantLong RX7 215 (6151) ∈ jTs := jTs_of 902 (by decide +kernel) (by decide +kernel)
theorem tw_903 : Cond.constantLong RX7 217 (65521) ∈ jTs := jTs_of 903 (by decide +kernel) (by decide +kernel)
theorem tw_904 : Cond.methodLink RX7 219 yX7_hurtAll ∈ jTs := jTs_of 904 (by decide +kernel) (by decide +kernel)
theorem tw_906 : Cond.instanceMethod yX7_hurtAll ∈ jTs := jTs_of 906 (by decide +kernel) (by decide +kernel)
theorem tw_907 : Cond.code yX7_hurtAll cX7_hurtAll 4 (some .int) ∈ jTs := jTs_of 907 (by decide +kernel) (by decide +kernel)
theorem tw_908 : Cond.methodLink RL 113 yX7_keep ∈ jTs := jTs_of 908 (by decide +kernel) (by decide +kernel)
theorem tw_909 : Cond.instanceMethod yX7_keep ∈ jTs := jTs_of 909 (by decide +kernel) (by decide +kernel)
theorem tw_910 : Cond.selects RX7 yX7_keep yX7_keep ∈ jTs := jTs_of 910 (by decide +kernel) (by decide +kernel)
theorem tw_911 : Cond.code yX7_keep cX7_keep 1 (some .int) ∈ jTs := jTs_of 911 (by decide +kernel) (by decide +kernel)
theorem tw_912 : Cond.methodLink RL 117 yX7_back ∈ jTs := jTs_of 912 (by decide +kernel) (by decide +kernel)
theorem tw_913 : Cond.instanceMethod yX7_back ∈ jTs := jTs_of 913 (by decide +kernel) (by decide +kernel)
theorem tw_914 : Cond.selects RX7 yX7_back yX7_back ∈ jTs := jTs_of 914 (by decide +kernel) (by decide +kernel)
theorem tw_915 : Cond.code yX7_back cX7_back 1 (some .int) ∈ jTs := jTs_of 915 (by decide +kernel) (by decide +kernel)
theorem tw_916 : Cond.methodLink RL 121 yX7_count ∈ jTs := jTs_of 916 (by decide +kernel) (by decide +kernel)
theorem tw_917 : Cond.instanceMethod yX7_count ∈ jTs := jTs_of 917 (by decide +kernel) (by decide +kernel)
theorem tw_918 : Cond.selects RX7 yX7_count yX7_count ∈ jTs := jTs_of 918 (by decide +kernel) (by decide +kernel)
theorem tw_919 : Cond.code yX7_count cX7_count 2 (some .int) ∈ jTs := jTs_of 919 (by decide +kernel) (by decide +kernel)
theorem tw_920 : Cond.methodLink RX7 222 yX7_propsThere ∈ jTs := jTs_of 920 (by decide +kernel) (by decide +kernel)
theorem tw_922 : Cond.instanceMethod yX7_propsThere ∈ jTs := jTs_of 922 (by decide +kernel) (by decide +kernel)
theorem tw_923 : Cond.code yX7_propsThere cX7_propsThere 3 (some .int) ∈ jTs := jTs_of 923 (by decide +kernel) (by decide +kernel)
theorem tw_924 : Cond.fieldLink RJ0 9 "java/lang/String" "value" "[B" ∈ jTs := jTs_of 924 (by decide +kernel) (by decide +kernel)
theorem tw_925 : Cond.fieldLink RJ0 15 "java/lang/String" "coder" "B" ∈ jTs := jTs_of 925 (by decide +kernel) (by decide +kernel)
theorem tws_0 : Cond.selects RX4 yX4_readItem yX4_readItem ∈ jTs := jTs_sel 0 (by decide +kernel) (by decide +kernel)
theorem tws_1 : Cond.selects RX4 yX4_letterAt yX4_letterAt ∈ jTs := jTs_sel 1 (by decide +kernel) (by decide +kernel)
theorem tws_2 : Cond.selects RX4 yX4_figuresAt yX4_figuresAt ∈ jTs := jTs_sel 2 (by decide +kernel) (by decide +kernel)
theorem tws_3 : Cond.selects RX4 yX4_isFigure yX4_isFigure ∈ jTs := jTs_sel 3 (by decide +kernel) (by decide +kernel)
theorem tws_4 : Cond.selects RX4 yX4_numberAt yX4_numberAt ∈ jTs := jTs_sel 4 (by decide +kernel) (by decide +kernel)
theorem tws_5 : Cond.selects RX3 yX3_takeWall yX3_takeWall ∈ jTs := jTs_sel 5 (by decide +kernel) (by decide +kernel)
theorem tws_6 : Cond.selects RX3 yX3_takeProp yX3_takeProp ∈ jTs := jTs_sel 6 (by decide +kernel) (by decide +kernel)
theorem tws_7 : Cond.selects RX6 yX6_isNoWall yX6_isNoWall ∈ jTs := jTs_sel 7 (by decide +kernel) (by decide +kernel)
theorem tws_8 : Cond.selects RX6 yX6_isNoPair yX6_isNoPair ∈ jTs := jTs_sel 8 (by decide +kernel) (by decide +kernel)
theorem tws_9 : Cond.selects RX5 yX5_fallWithAll yX5_fallWithAll ∈ jTs := jTs_sel 9 (by decide +kernel) (by decide +kernel)
theorem tws_10 : Cond.selects RX6 yX6_othersDownBy yX6_othersDownBy ∈ jTs := jTs_sel 10 (by decide +kernel) (by decide +kernel)
theorem tws_11 : Cond.selects RX1 yX1_goOn yX1_goOn ∈ jTs := jTs_sel 11 (by decide +kernel) (by decide +kernel)
theorem tws_12 : Cond.selects RX1 yX1_keepBest yX1_keepBest ∈ jTs := jTs_sel 12 (by decide +kernel) (by decide +kernel)
theorem tws_13 : Cond.selects RX1 yX1_markOf yX1_markOf ∈ jTs := jTs_sel 13 (by decide +kernel) (by decide +kernel)
theorem tws_14 : Cond.selects RX1 yX1_wasSeen yX1_wasSeen ∈ jTs := jTs_sel 14 (by decide +kernel) (by decide +kernel)
theorem tws_15 : Cond.selects RX6 yX6_standsWithout yX6_standsWithout ∈ jTs := jTs_sel 15 (by decide +kernel) (by decide +kernel)
theorem tws_16 : Cond.selects RX6 yX6_drawAhead yX6_drawAhead ∈ jTs := jTs_sel 16 (by decide +kernel) (by decide +kernel)
theorem tws_17 : Cond.selects RX7 yX7_starts yX7_starts ∈ jTs := jTs_sel 17 (by decide +kernel) (by decide +kernel)
theorem tws_18 : Cond.selects RX7 yX7_addsWall yX7_addsWall ∈ jTs := jTs_sel 18 (by decide +kernel) (by decide +kernel)
theorem tws_19 : Cond.selects RX7 yX7_begins yX7_begins ∈ jTs := jTs_sel 19 (by decide +kernel) (by decide +kernel)
theorem tws_20 : Cond.selects RX7 yX7_faultOf yX7_faultOf ∈ jTs := jTs_sel 20 (by decide +kernel) (by decide +kernel)
theorem tws_21 : Cond.selects RX7 yX7_takesItem yX7_takesItem ∈ jTs := jTs_sel 21 (by decide +kernel) (by decide +kernel)
theorem tws_22 : Cond.selects RX7 yX7_letterAt yX7_letterAt ∈ jTs := jTs_sel 22 (by decide +kernel) (by decide +kernel)
theorem tws_23 : Cond.selects RX7 yX7_takesWall yX7_takesWall ∈ jTs := jTs_sel 23 (by decide +kernel) (by decide +kernel)
theorem tws_24 : Cond.selects RX7 yX7_takesNumber yX7_takesNumber ∈ jTs := jTs_sel 24 (by decide +kernel) (by decide +kernel)
theorem tws_25 : Cond.selects RX7 yX7_takesProp yX7_takesProp ∈ jTs := jTs_sel 25 (by decide +kernel) (by decide +kernel)
theorem tws_26 : Cond.selects RX7 yX7_takesStones yX7_takesStones ∈ jTs := jTs_sel 26 (by decide +kernel) (by decide +kernel)
theorem tws_27 : Cond.selects RX7 yX7_isWall yX7_isWall ∈ jTs := jTs_sel 27 (by decide +kernel) (by decide +kernel)
theorem tws_28 : Cond.selects RX7 yX7_stands yX7_stands ∈ jTs := jTs_sel 28 (by decide +kernel) (by decide +kernel)
theorem tws_29 : Cond.selects RX7 yX7_minds yX7_minds ∈ jTs := jTs_sel 29 (by decide +kernel) (by decide +kernel)
theorem tws_30 : Cond.selects RX7 yX7_copy yX7_copy ∈ jTs := jTs_sel 30 (by decide +kernel) (by decide +kernel)
theorem tws_31 : Cond.selects RX7 yX7_roundsOne yX7_roundsOne ∈ jTs := jTs_sel 31 (by decide +kernel) (by decide +kernel)
theorem tws_32 : Cond.selects RX7 yX7_blasts yX7_blasts ∈ jTs := jTs_sel 32 (by decide +kernel) (by decide +kernel)
theorem tws_33 : Cond.selects RX7 yX7_wouldFall yX7_wouldFall ∈ jTs := jTs_sel 33 (by decide +kernel) (by decide +kernel)
theorem tws_34 : Cond.selects RX7 yX7_falls yX7_falls ∈ jTs := jTs_sel 34 (by decide +kernel) (by decide +kernel)
theorem tws_35 : Cond.selects RX7 yX7_fellsOne yX7_fellsOne ∈ jTs := jTs_sel 35 (by decide +kernel) (by decide +kernel)
theorem tws_36 : Cond.selects RX7 yX7_passes yX7_passes ∈ jTs := jTs_sel 36 (by decide +kernel) (by decide +kernel)
theorem tws_37 : Cond.selects RX7 yX7_callsIn yX7_callsIn ∈ jTs := jTs_sel 37 (by decide +kernel) (by decide +kernel)
theorem tws_38 : Cond.selects RX7 yX7_tries yX7_tries ∈ jTs := jTs_sel 38 (by decide +kernel) (by decide +kernel)
theorem tws_39 : Cond.selects RX7 yX7_downOnes yX7_downOnes ∈ jTs := jTs_sel 39 (by decide +kernel) (by decide +kernel)
theorem tws_40 : Cond.selects RX7 yX7_bestOrder yX7_bestOrder ∈ jTs := jTs_sel 40 (by decide +kernel) (by decide +kernel)
theorem tws_41 : Cond.selects RX7 yX7_isSo yX7_isSo ∈ jTs := jTs_sel 41 (by decide +kernel) (by decide +kernel)
theorem tws_42 : Cond.selects RX7 yX7_hurtAll yX7_hurtAll ∈ jTs := jTs_sel 42 (by decide +kernel) (by decide +kernel)
theorem tws_43 : Cond.selects RX7 yX7_propsThere yX7_propsThere ∈ jTs := jTs_sel 43 (by decide +kernel) (by decide +kernel)
theorem jinX0 : ∀ w ∈ wsX00, w ∈ jTs := List.forall_mem_cons.mpr ⟨tw_150, List.forall_mem_cons.mpr ⟨tw_152, List.forall_mem_cons.mpr ⟨tw_154, List.forall_mem_cons.mpr ⟨tw_156, fun _ h => absurd h List.not_mem_nil⟩⟩⟩⟩
theorem jinX1 : ∀ w ∈ wsX10, w ∈ jTs := List.forall_mem_cons.mpr ⟨tw_178, List.forall_mem_cons.mpr ⟨tw_180, List.forall_mem_cons.mpr ⟨tw_182, List.forall_mem_cons.mpr ⟨tw_184, List.forall_mem_cons.mpr ⟨tw_186, List.forall_mem_cons.mpr ⟨tw_188, List.forall_mem_cons.mpr ⟨tw_190, List.forall_mem_cons.mpr ⟨tw_192, fun _ h => absurd h List.not_mem_nil⟩⟩⟩⟩⟩⟩⟩⟩
theorem jinX2 : ∀ w ∈ wsX20, w ∈ jTs := List.forall_mem_cons.mpr ⟨tw_132, List.forall_mem_cons.mpr ⟨tw_134, List.forall_mem_cons.mpr ⟨tw_136, fun _ h => absurd h List.not_mem_nil⟩⟩⟩
theorem jinX3 : ∀ w ∈ wsX30, w ∈ jTs := List.forall_mem_cons.mpr ⟨tw_67, List.forall_mem_cons.mpr ⟨tw_69, List.forall_mem_cons.mpr ⟨tw_71, List.forall_mem_cons.mpr ⟨tw_73, List.forall_mem_cons.mpr ⟨tw_75, List.forall_mem_cons.mpr ⟨tw_77, fun _ h => absurd h List.not_mem_nil⟩⟩⟩⟩⟩⟩
theorem jinX4 : ∀ w ∈ wsX40, w ∈ jTs := List.forall_mem_cons.mpr ⟨tw_35, List.forall_mem_cons.mpr ⟨tw_37, List.forall_mem_cons.mpr ⟨tw_39, fun _ h => absurd h List.not_mem_nil⟩⟩⟩
theorem jinX5 : ∀ w ∈ wsX50, w ∈ jTs := List.forall_mem_cons.mpr ⟨tw_102, List.forall_mem_cons.mpr ⟨tw_104, List.forall_mem_cons.mpr ⟨tw_106, List.forall_mem_cons.mpr ⟨tw_108, List.forall_mem_cons.mpr ⟨tw_110, List.forall_mem_cons.mpr ⟨tw_112, List.forall_mem_cons.mpr ⟨tw_114, List.forall_mem_cons.mpr ⟨tw_116, fun _ h => absurd h List.not_mem_nil⟩⟩⟩⟩⟩⟩⟩⟩
theorem jinX6 : ∀ w ∈ wsX60, w ∈ jTs := List.forall_mem_cons.mpr ⟨tw_313, List.forall_mem_cons.mpr ⟨tw_315, List.forall_mem_cons.mpr ⟨tw_317, List.forall_mem_cons.mpr ⟨tw_319, List.forall_mem_cons.mpr ⟨tw_321, List.forall_mem_cons.mpr ⟨tw_323, List.forall_mem_cons.mpr ⟨tw_325, List.forall_mem_cons.mpr ⟨tw_327, List.forall_mem_cons.mpr ⟨tw_329, List.forall_mem_cons.mpr ⟨tw_331, fun _ h => absurd h List.not_mem_nil⟩⟩⟩⟩⟩⟩⟩⟩⟩⟩
theorem jinX7 : ∀ w ∈ wsX70, w ∈ jTs := List.forall_mem_cons.mpr ⟨tw_646, List.forall_mem_cons.mpr ⟨tw_648, List.forall_mem_cons.mpr ⟨tw_650, List.forall_mem_cons.mpr ⟨tw_652, List.forall_mem_cons.mpr ⟨tw_654, List.forall_mem_cons.mpr ⟨tw_656, List.forall_mem_cons.mpr ⟨tw_658, List.forall_mem_cons.mpr ⟨tw_660, List.forall_mem_cons.mpr ⟨tw_662, List.forall_mem_cons.mpr ⟨tw_664, List.forall_mem_cons.mpr ⟨tw_666, List.forall_mem_cons.mpr ⟨tw_668, List.forall_mem_cons.mpr ⟨tw_670, List.forall_mem_cons.mpr ⟨tw_672, List.forall_mem_cons.mpr ⟨tw_674, List.forall_mem_cons.mpr ⟨tw_676, List.forall_mem_cons.mpr ⟨tw_678, List.forall_mem_cons.mpr ⟨tw_680, List.forall_mem_cons.mpr ⟨tw_682, List.forall_mem_cons.mpr ⟨tw_684, List.forall_mem_cons.mpr ⟨tw_686, List.forall_mem_cons.mpr ⟨tw_688, List.forall_mem_cons.mpr ⟨tw_690, List.forall_mem_cons.mpr ⟨tw_692, List.forall_mem_cons.mpr ⟨tw_694, fun _ h => absurd h List.not_mem_nil⟩⟩⟩⟩⟩⟩⟩⟩⟩⟩⟩⟩⟩⟩⟩⟩⟩⟩⟩⟩⟩⟩⟩⟩⟩
/-- the field of a class behind a place of a pool -/
def jFL (own : String) (idx ci j : Nat) (fin : Bool) (ty : FieldType) : Prop := ∃ (C : String) (T : u_T) (N : Nat), vwCl[ci]? = some (C, T, N) ∧ (∀ w ∈ u_ws C T N, w ∈ jTs) ∧ j < N ∧ Cond.fieldLink own idx (T j).1 (T j).2.1 (T j).2.2.1 ∈ jTs ∧ (T j).1 = C ∧ (T j).2.2.2 = fin ∧ ∃ ty0 : Nat → FieldType, (∀ k, k < N → parseFieldDescriptor (T k).2.2.1 = some (ty0 k)) ∧ ty0 j = ty ∧ ∀ a, a < N → ∀ b, b < N → a ≠ b → (T a).2.1 ≠ (T b).2.1
theorem fl_X4_9 : jFL RX4 9 4 0 true (tyX4 0) := ⟨RX4, TX4, 3, rfl, jinX4, by decide, tw_31, rfl, rfl, tyX4, tyX4_ok, rfl, nmX4⟩
theorem fl_X4_15 : jFL RX4 15 4 1 true (tyX4 1) := ⟨RX4, TX4, 3, rfl, jinX4, by decide, tw_32, rfl, rfl, tyX4, tyX4_ok, rfl, nmX4⟩
theorem fl_X4_19 : jFL RX4 19 4 2 false (tyX4 2) := ⟨RX4, TX4, 3, rfl, jinX4, by decide, tw_33, rfl, rfl, tyX4, tyX4_ok, rfl, nmX4⟩
theorem fl_X6_90 : jFL RX6 90 4 2 false (tyX4 2) := ⟨RX4, TX4, 3, rfl, jinX4, by decide, tw_34, rfl, rfl, tyX4, tyX4_ok, rfl, nmX4⟩
theorem fl_X3_9 : jFL RX3 9 3 0 false (tyX3 0) := ⟨RX3, TX3, 6, rfl, jinX3, by decide, tw_50, rfl, rfl, tyX3, tyX3_ok, rfl, nmX3⟩
theorem fl_X1_63 : jFL RX1 63 3 0 false (tyX3 0) := ⟨RX3, TX3, 6, rfl, jinX3, by decide, tw_51, rfl, rfl, tyX3, tyX3_ok, rfl, nmX3⟩
theorem fl_X6_92 : jFL RX6 92 3 0 false (tyX3 0) := ⟨RX3, TX3, 6, rfl, jinX3, by decide, tw_52, rfl, rfl, tyX3, tyX3_ok, rfl, nmX3⟩
theorem fl_X5_58 : jFL RX5 58 3 0 false (tyX3 0) := ⟨RX3, TX3, 6, rfl, jinX3, by decide, tw_53, rfl, rfl, tyX3, tyX3_ok, rfl, nmX3⟩
theorem fl_X3_15 : jFL RX3 15 3 1 false (tyX3 1) := ⟨RX3, TX3, 6, rfl, jinX3, by decide, tw_54, rfl, rfl, tyX3, tyX3_ok, rfl, nmX3⟩
theorem fl_X5_54 : jFL RX5 54 3 1 false (tyX3 1) := ⟨RX3, TX3, 6, rfl, jinX3, by decide, tw_55, rfl, rfl, tyX3, tyX3_ok, rfl, nmX3⟩
theorem fl_X3_18 : jFL RX3 18 3 2 true (tyX3 2) := ⟨RX3, TX3, 6, rfl, jinX3, by decide, tw_56, rfl, rfl, tyX3, tyX3_ok, rfl, nmX3⟩
theorem fl_X5_55 : jFL RX5 55 3 2 true (tyX3 2) := ⟨RX3, TX3, 6, rfl, jinX3, by decide, tw_57, rfl, rfl, tyX3, tyX3_ok, rfl, nmX3⟩
theorem fl_X6_103 : jFL RX6 103 3 2 true (tyX3 2) := ⟨RX3, TX3, 6, rfl, jinX3, by decide, tw_58, rfl, rfl, tyX3, tyX3_ok, rfl, nmX3⟩
theorem fl_X3_22 : jFL RX3 22 3 3 true (tyX3 3) := ⟨RX3, TX3, 6, rfl, jinX3, by decide, tw_59, rfl, rfl, tyX3, tyX3_ok, rfl, nmX3⟩
theorem fl_X5_38 : jFL RX5 38 3 3 true (tyX3 3) := ⟨RX3, TX3, 6, rfl, jinX3, by decide, tw_60, rfl, rfl, tyX3, tyX3_ok, rfl, nmX3⟩
theorem fl_X6_107 : jFL RX6 107 3 3 true (tyX3 3) := ⟨RX3, TX3, 6, rfl, jinX3, by decide, tw_61, rfl, rfl, tyX3, tyX3_ok, rfl, nmX3⟩
theorem fl_X3_25 : jFL RX3 25 3 4 true (tyX3 4) := ⟨RX3, TX3, 6, rfl, jinX3, by decide, tw_62, rfl, rfl, tyX3, tyX3_ok, rfl, nmX3⟩
theorem fl_X6_110 : jFL RX6 110 3 4 true (tyX3 4) := ⟨RX3, TX3, 6, rfl, jinX3, by decide, tw_63, rfl, rfl, tyX3, tyX3_ok, rfl, nmX3⟩
theorem fl_X5_70 : jFL RX5 70 3 4 true (tyX3 4) := ⟨RX3, TX3, 6, rfl, jinX3, by decide, tw_64, rfl, rfl, tyX3, tyX3_ok, rfl, nmX3⟩
theorem fl_X3_28 : jFL RX3 28 3 5 true (tyX3 5) := ⟨RX3, TX3, 6, rfl, jinX3, by decide, tw_65, rfl, rfl, tyX3, tyX3_ok, rfl, nmX3⟩
theorem fl_X5_47 : jFL RX5 47 3 5 true (tyX3 5) := ⟨RX3, TX3, 6, rfl, jinX3, by decide, tw_66, rfl, rfl, tyX3, tyX3_ok, rfl, nmX3⟩
theorem fl_X5_34 : jFL RX5 34 5 0 true (tyX5 0) := ⟨RX5, TX5, 8, rfl, jinX5, by decide, tw_86, rfl, rfl, tyX5, tyX5_ok, rfl, nmX5⟩
theorem fl_X5_9 : jFL RX5 9 5 1 true (tyX5 1) := ⟨RX5, TX5, 8, rfl, jinX5, by decide, tw_87, rfl, rfl, tyX5, tyX5_ok, rfl, nmX5⟩
theorem fl_X1_100 : jFL RX1 100 5 1 true (tyX5 1) := ⟨RX5, TX5, 8, rfl, jinX5, by decide, tw_88, rfl, rfl, tyX5, tyX5_ok, rfl, nmX5⟩
theorem fl_X6_113 : jFL RX6 113 5 1 true (tyX5 1) := ⟨RX5, TX5, 8, rfl, jinX5, by decide, tw_89, rfl, rfl, tyX5, tyX5_ok, rfl, nmX5⟩
theorem fl_X5_15 : jFL RX5 15 5 2 true (tyX5 2) := ⟨RX5, TX5, 8, rfl, jinX5, by decide, tw_90, rfl, rfl, tyX5, tyX5_ok, rfl, nmX5⟩
theorem fl_X6_117 : jFL RX6 117 5 2 true (tyX5 2) := ⟨RX5, TX5, 8, rfl, jinX5, by decide, tw_91, rfl, rfl, tyX5, tyX5_ok, rfl, nmX5⟩
theorem fl_X5_18 : jFL RX5 18 5 3 true (tyX5 3) := ⟨RX5, TX5, 8, rfl, jinX5, by decide, tw_92, rfl, rfl, tyX5, tyX5_ok, rfl, nmX5⟩
theorem fl_X6_120 : jFL RX6 120 5 3 true (tyX5 3) := ⟨RX5, TX5, 8, rfl, jinX5, by decide, tw_93, rfl, rfl, tyX5, tyX5_ok, rfl, nmX5⟩
theorem fl_X5_21 : jFL RX5 21 5 4 true (tyX5 4) := ⟨RX5, TX5, 8, rfl, jinX5, by decide, tw_94, rfl, rfl, tyX5, tyX5_ok, rfl, nmX5⟩
theorem fl_X1_97 : jFL RX1 97 5 4 true (tyX5 4) := ⟨RX5, TX5, 8, rfl, jinX5, by decide, tw_95, rfl, rfl, tyX5, tyX5_ok, rfl, nmX5⟩
theorem fl_X6_123 : jFL RX6 123 5 4 true (tyX5 4) := ⟨RX5, TX5, 8, rfl, jinX5, by decide, tw_96, rfl, rfl, tyX5, tyX5_ok, rfl, nmX5⟩
theorem fl_X5_24 : jFL RX5 24 5 5 true (tyX5 5) := ⟨RX5, TX5, 8, rfl, jinX5, by decide, tw_97, rfl, rfl, tyX5, tyX5_ok, rfl, nmX5⟩
theorem fl_X5_27 : jFL RX5 27 5 6 false (tyX5 6) := ⟨RX5, TX5, 8, rfl, jinX5, by decide, tw_98, rfl, rfl, tyX5, tyX5_ok, rfl, nmX5⟩
theorem fl_X6_159 : jFL RX6 159 5 6 false (tyX5 6) := ⟨RX5, TX5, 8, rfl, jinX5, by decide, tw_99, rfl, rfl, tyX5, tyX5_ok, rfl, nmX5⟩
theorem fl_X5_31 : jFL RX5 31 5 7 false (tyX5 7) := ⟨RX5, TX5, 8, rfl, jinX5, by decide, tw_100, rfl, rfl, tyX5, tyX5_ok, rfl, nmX5⟩
theorem fl_X6_152 : jFL RX6 152 5 7 false (tyX5 7) := ⟨RX5, TX5, 8, rfl, jinX5, by decide, tw_101, rfl, rfl, tyX5, tyX5_ok, rfl, nmX5⟩
theorem fl_X2_11 : jFL RX2 11 2 0 true (tyX2 0) := ⟨RX2, TX2, 3, rfl, jinX2, by decide, tw_128, rfl, rfl, tyX2, tyX2_ok, rfl, nmX2⟩
theorem fl_X2_17 : jFL RX2 17 2 1 false (tyX2 1) := ⟨RX2, TX2, 3, rfl, jinX2, by decide, tw_129, rfl, rfl, tyX2, tyX2_ok, rfl, nmX2⟩
theorem fl_X2_21 : jFL RX2 21 2 2 false (tyX2 2) := ⟨RX2, TX2, 3, rfl, jinX2, by decide, tw_130, rfl, rfl, tyX2, tyX2_ok, rfl, nmX2⟩
theorem fl_X6_95 : jFL RX6 95 2 2 false (tyX2 2) := ⟨RX2, TX2, 3, rfl, jinX2, by decide, tw_131, rfl, rfl, tyX2, tyX2_ok, rfl, nmX2⟩
theorem fl_X0_9 : jFL RX0 9 0 0 true (tyX0 0) := ⟨RX0, TX0, 4, rfl, jinX0, by decide, tw_145, rfl, rfl, tyX0, tyX0_ok, rfl, nmX0⟩
theorem fl_X0_15 : jFL RX0 15 0 1 true (tyX0 1) := ⟨RX0, TX0, 4, rfl, jinX0, by decide, tw_146, rfl, rfl, tyX0, tyX0_ok, rfl, nmX0⟩
theorem fl_X0_18 : jFL RX0 18 0 2 true (tyX0 2) := ⟨RX0, TX0, 4, rfl, jinX0, by decide, tw_147, rfl, rfl, tyX0, tyX0_ok, rfl, nmX0⟩
theorem fl_X0_21 : jFL RX0 21 0 3 false (tyX0 3) := ⟨RX0, TX0, 4, rfl, jinX0, by decide, tw_148, rfl, rfl, tyX0, tyX0_ok, rfl, nmX0⟩
theorem fl_X6_98 : jFL RX6 98 0 3 false (tyX0 3) := ⟨RX0, TX0, 4, rfl, jinX0, by decide, tw_149, rfl, rfl, tyX0, tyX0_ok, rfl, nmX0⟩
theorem fl_X1_38 : jFL RX1 38 1 0 true (tyX1 0) := ⟨RX1, TX1, 8, rfl, jinX1, by decide, tw_167, rfl, rfl, tyX1, tyX1_ok, rfl, nmX1⟩
theorem fl_X1_11 : jFL RX1 11 1 1 true (tyX1 1) := ⟨RX1, TX1, 8, rfl, jinX1, by decide, tw_168, rfl, rfl, tyX1, tyX1_ok, rfl, nmX1⟩
theorem fl_X1_17 : jFL RX1 17 1 2 true (tyX1 2) := ⟨RX1, TX1, 8, rfl, jinX1, by decide, tw_169, rfl, rfl, tyX1, tyX1_ok, rfl, nmX1⟩
theorem fl_X1_21 : jFL RX1 21 1 3 true (tyX1 3) := ⟨RX1, TX1, 8, rfl, jinX1, by decide, tw_170, rfl, rfl, tyX1, tyX1_ok, rfl, nmX1⟩
theorem fl_X6_189 : jFL RX6 189 1 3 true (tyX1 3) := ⟨RX1, TX1, 8, rfl, jinX1, by decide, tw_171, rfl, rfl, tyX1, tyX1_ok, rfl, nmX1⟩
theorem fl_X1_24 : jFL RX1 24 1 4 true (tyX1 4) := ⟨RX1, TX1, 8, rfl, jinX1, by decide, tw_172, rfl, rfl, tyX1, tyX1_ok, rfl, nmX1⟩
theorem fl_X1_28 : jFL RX1 28 1 5 true (tyX1 5) := ⟨RX1, TX1, 8, rfl, jinX1, by decide, tw_173, rfl, rfl, tyX1, tyX1_ok, rfl, nmX1⟩
theorem fl_X1_31 : jFL RX1 31 1 6 false (tyX1 6) := ⟨RX1, TX1, 8, rfl, jinX1, by decide, tw_174, rfl, rfl, tyX1, tyX1_ok, rfl, nmX1⟩
theorem fl_X6_188 : jFL RX6 188 1 6 false (tyX1 6) := ⟨RX1, TX1, 8, rfl, jinX1, by decide, tw_175, rfl, rfl, tyX1, tyX1_ok, rfl, nmX1⟩
theorem fl_X1_35 : jFL RX1 35 1 7 false (tyX1 7) := ⟨RX1, TX1, 8, rfl, jinX1, by decide, tw_176, rfl, rfl, tyX1, tyX1_ok, rfl, nmX1⟩
theorem fl_X6_185 : jFL RX6 185 1 7 false (tyX1 7) := ⟨RX1, TX1, 8, rfl, jinX1, by decide, tw_177, rfl, rfl, tyX1, tyX1_ok, rfl, nmX1⟩
theorem fl_X6_12 : jFL RX6 12 6 0 true (tyX6 0) := ⟨RX6, TX6, 10, rfl, jinX6, by decide, tw_303, rfl, rfl, tyX6, tyX6_ok, rfl, nmX6⟩
theorem fl_X6_19 : jFL RX6 19 6 1 true (tyX6 1) := ⟨RX6, TX6, 10, rfl, jinX6, by decide, tw_304, rfl, rfl, tyX6, tyX6_ok, rfl, nmX6⟩
theorem fl_X6_23 : jFL RX6 23 6 2 true (tyX6 2) := ⟨RX6, TX6, 10, rfl, jinX6, by decide, tw_305, rfl, rfl, tyX6, tyX6_ok, rfl, nmX6⟩
theorem fl_X6_31 : jFL RX6 31 6 3 true (tyX6 3) := ⟨RX6, TX6, 10, rfl, jinX6, by decide, tw_306, rfl, rfl, tyX6, tyX6_ok, rfl, nmX6⟩
theorem fl_X6_35 : jFL RX6 35 6 4 true (tyX6 4) := ⟨RX6, TX6, 10, rfl, jinX6, by decide, tw_307, rfl, rfl, tyX6, tyX6_ok, rfl, nmX6⟩
theorem fl_X6_41 : jFL RX6 41 6 5 true (tyX6 5) := ⟨RX6, TX6, 10, rfl, jinX6, by decide, tw_308, rfl, rfl, tyX6, tyX6_ok, rfl, nmX6⟩
theorem fl_X6_45 : jFL RX6 45 6 6 true (tyX6 6) := ⟨RX6, TX6, 10, rfl, jinX6, by decide, tw_309, rfl, rfl, tyX6, tyX6_ok, rfl, nmX6⟩
theorem fl_X6_49 : jFL RX6 49 6 7 false (tyX6 7) := ⟨RX6, TX6, 10, rfl, jinX6, by decide, tw_310, rfl, rfl, tyX6, tyX6_ok, rfl, nmX6⟩
theorem fl_X6_56 : jFL RX6 56 6 8 true (tyX6 8) := ⟨RX6, TX6, 10, rfl, jinX6, by decide, tw_311, rfl, rfl, tyX6, tyX6_ok, rfl, nmX6⟩
theorem fl_X6_63 : jFL RX6 63 6 9 true (tyX6 9) := ⟨RX6, TX6, 10, rfl, jinX6, by decide, tw_312, rfl, rfl, tyX6, tyX6_ok, rfl, nmX6⟩
theorem fl_X7_7 : jFL RX7 7 7 0 true (tyX7 0) := ⟨RX7, TX7, 25, rfl, jinX7, by decide, tw_621, rfl, rfl, tyX7, tyX7_ok, rfl, nmX7⟩
theorem fl_X7_79 : jFL RX7 79 7 1 false (tyX7 1) := ⟨RX7, TX7, 25, rfl, jinX7, by decide, tw_622, rfl, rfl, tyX7, tyX7_ok, rfl, nmX7⟩
theorem fl_X7_82 : jFL RX7 82 7 2 false (tyX7 2) := ⟨RX7, TX7, 25, rfl, jinX7, by decide, tw_623, rfl, rfl, tyX7, tyX7_ok, rfl, nmX7⟩
theorem fl_X7_69 : jFL RX7 69 7 3 false (tyX7 3) := ⟨RX7, TX7, 25, rfl, jinX7, by decide, tw_624, rfl, rfl, tyX7, tyX7_ok, rfl, nmX7⟩
theorem fl_X7_13 : jFL RX7 13 7 4 true (tyX7 4) := ⟨RX7, TX7, 25, rfl, jinX7, by decide, tw_625, rfl, rfl, tyX7, tyX7_ok, rfl, nmX7⟩
theorem fl_X7_16 : jFL RX7 16 7 5 true (tyX7 5) := ⟨RX7, TX7, 25, rfl, jinX7, by decide, tw_626, rfl, rfl, tyX7, tyX7_ok, rfl, nmX7⟩
theorem fl_X7_19 : jFL RX7 19 7 6 true (tyX7 6) := ⟨RX7, TX7, 25, rfl, jinX7, by decide, tw_627, rfl, rfl, tyX7, tyX7_ok, rfl, nmX7⟩
theorem fl_X7_85 : jFL RX7 85 7 7 false (tyX7 7) := ⟨RX7, TX7, 25, rfl, jinX7, by decide, tw_628, rfl, rfl, tyX7, tyX7_ok, rfl, nmX7⟩
theorem fl_X7_22 : jFL RX7 22 7 8 true (tyX7 8) := ⟨RX7, TX7, 25, rfl, jinX7, by decide, tw_629, rfl, rfl, tyX7, tyX7_ok, rfl, nmX7⟩
theorem fl_X7_25 : jFL RX7 25 7 9 true (tyX7 9) := ⟨RX7, TX7, 25, rfl, jinX7, by decide, tw_630, rfl, rfl, tyX7, tyX7_ok, rfl, nmX7⟩
theorem fl_X7_28 : jFL RX7 28 7 10 true (tyX7 10) := ⟨RX7, TX7, 25, rfl, jinX7, by decide, tw_631, rfl, rfl, tyX7, tyX7_ok, rfl, nmX7⟩
theorem fl_X7_31 : jFL RX7 31 7 11 true (tyX7 11) := ⟨RX7, TX7, 25, rfl, jinX7, by decide, tw_632, rfl, rfl, tyX7, tyX7_ok, rfl, nmX7⟩
theorem fl_X7_92 : jFL RX7 92 7 12 false (tyX7 12) := ⟨RX7, TX7, 25, rfl, jinX7, by decide, tw_633, rfl, rfl, tyX7, tyX7_ok, rfl, nmX7⟩
theorem fl_X7_95 : jFL RX7 95 7 13 false (tyX7 13) := ⟨RX7, TX7, 25, rfl, jinX7, by decide, tw_634, rfl, rfl, tyX7, tyX7_ok, rfl, nmX7⟩
theorem fl_X7_98 : jFL RX7 98 7 14 false (tyX7 14) := ⟨RX7, TX7, 25, rfl, jinX7, by decide, tw_635, rfl, rfl, tyX7, tyX7_ok, rfl, nmX7⟩
theorem fl_X7_76 : jFL RX7 76 7 15 false (tyX7 15) := ⟨RX7, TX7, 25, rfl, jinX7, by decide, tw_636, rfl, rfl, tyX7, tyX7_ok, rfl, nmX7⟩
theorem fl_X7_34 : jFL RX7 34 7 16 true (tyX7 16) := ⟨RX7, TX7, 25, rfl, jinX7, by decide, tw_637, rfl, rfl, tyX7, tyX7_ok, rfl, nmX7⟩
theorem fl_X7_37 : jFL RX7 37 7 17 true (tyX7 17) := ⟨RX7, TX7, 25, rfl, jinX7, by decide, tw_638, rfl, rfl, tyX7, tyX7_ok, rfl, nmX7⟩
theorem fl_X7_62 : jFL RX7 62 7 18 false (tyX7 18) := ⟨RX7, TX7, 25, rfl, jinX7, by decide, tw_639, rfl, rfl, tyX7, tyX7_ok, rfl, nmX7⟩
theorem fl_X7_40 : jFL RX7 40 7 19 true (tyX7 19) := ⟨RX7, TX7, 25, rfl, jinX7, by decide, tw_640, rfl, rfl, tyX7, tyX7_ok, rfl, nmX7⟩
theorem fl_X7_43 : jFL RX7 43 7 20 true (tyX7 20) := ⟨RX7, TX7, 25, rfl, jinX7, by decide, tw_641, rfl, rfl, tyX7, tyX7_ok, rfl, nmX7⟩
theorem fl_X7_46 : jFL RX7 46 7 21 true (tyX7 21) := ⟨RX7, TX7, 25, rfl, jinX7, by decide, tw_642, rfl, rfl, tyX7, tyX7_ok, rfl, nmX7⟩
theorem fl_X7_49 : jFL RX7 49 7 22 true (tyX7 22) := ⟨RX7, TX7, 25, rfl, jinX7, by decide, tw_643, rfl, rfl, tyX7, tyX7_ok, rfl, nmX7⟩
theorem fl_X7_52 : jFL RX7 52 7 23 true (tyX7 23) := ⟨RX7, TX7, 25, rfl, jinX7, by decide, tw_644, rfl, rfl, tyX7, tyX7_ok, rfl, nmX7⟩
theorem fl_X7_193 : jFL RX7 193 7 24 false (tyX7 24) := ⟨RX7, TX7, 25, rfl, jinX7, by decide, tw_645, rfl, rfl, tyX7, tyX7_ok, rfl, nmX7⟩
/-- a method: its code, its class made ready, its parameters -/
def jMY (y : MethodName) (cc : ByteArray) (nL : Nat) (ret : Option FieldType) (n : Nat) : Prop := Cond.code y cc nL ret ∈ jTs ∧ Cond.initialized y.cls ∈ jTs ∧ (y.cls ≠ "java/lang/invoke/MethodHandle" ∧ y.cls ≠ "java/lang/invoke/VarHandle" ∧ (parseMethodDescriptor y.desc).map (fun d => d.parameters.length) = some n) ∧ plainName y.cls = true
theorem my_X0_init : jMY yX0_init cX0_init 1 none 0 := ⟨tw_143, tw_6, by decide +kernel, by decide +kernel⟩
theorem mk_X0_init : Cond.instanceMethod yX0_init ∈ jTs := tw_142
theorem my_X0_isEnded : jMY yX0_isEnded cX0_isEnded 1 (some .boolean) 0 := ⟨tw_544, tw_6, by decide +kernel, by decide +kernel⟩
theorem mi_X0_isEnded : Cond.instanceMethod yX0_isEnded ∈ jTs ∧ Cond.selects yX0_isEnded.cls yX0_isEnded yX0_isEnded ∈ jTs := ⟨tw_542, tw_543⟩
theorem my_X0_add : jMY yX0_add cX0_add 4 none 3 := ⟨tw_548, tw_6, by decide +kernel, by decide +kernel⟩
theorem mi_X0_add : Cond.instanceMethod yX0_add ∈ jTs ∧ Cond.selects yX0_add.cls yX0_add yX0_add ∈ jTs := ⟨tw_546, tw_547⟩
theorem my_X0_couldBe : jMY yX0_couldBe cX0_couldBe 5 (some .boolean) 1 := ⟨tw_560, tw_6, by decide +kernel, by decide +kernel⟩
theorem mi_X0_couldBe : Cond.instanceMethod yX0_couldBe ∈ jTs ∧ Cond.selects yX0_couldBe.cls yX0_couldBe yX0_couldBe ∈ jTs := ⟨tw_558, tw_559⟩
theorem my_X1_init : jMY yX1_init cX1_init 3 none 1 := ⟨tw_163, tw_7, by decide +kernel, by decide +kernel⟩
theorem mk_X1_init : Cond.instanceMethod yX1_init ∈ jTs := tw_162
theorem my_X1_run : jMY yX1_run cX1_run 2 none 1 := ⟨tw_488, tw_7, by decide +kernel, by decide +kernel⟩
theorem mi_X1_run : Cond.instanceMethod yX1_run ∈ jTs ∧ Cond.selects yX1_run.cls yX1_run yX1_run ∈ jTs := ⟨tw_486, tw_487⟩
theorem my_X1_goOn : jMY yX1_goOn cX1_goOn 6 none 2 := ⟨tw_496, tw_7, by decide +kernel, by decide +kernel⟩
theorem mi_X1_goOn : Cond.instanceMethod yX1_goOn ∈ jTs ∧ Cond.selects yX1_goOn.cls yX1_goOn yX1_goOn ∈ jTs := ⟨tw_495, tws_11⟩
theorem my_X1_keepBest : jMY yX1_keepBest cX1_keepBest 3 none 2 := ⟨tw_501, tw_7, by decide +kernel, by decide +kernel⟩
theorem mi_X1_keepBest : Cond.instanceMethod yX1_keepBest ∈ jTs ∧ Cond.selects yX1_keepBest.cls yX1_keepBest yX1_keepBest ∈ jTs := ⟨tw_500, tws_12⟩
theorem my_X1_markOf : jMY yX1_markOf cX1_markOf 5 (some .long) 1 := ⟨tw_506, tw_7, by decide +kernel, by decide +kernel⟩
theorem mi_X1_markOf : Cond.instanceMethod yX1_markOf ∈ jTs ∧ Cond.selects yX1_markOf.cls yX1_markOf yX1_markOf ∈ jTs := ⟨tw_505, tws_13⟩
theorem my_X1_wasSeen : jMY yX1_wasSeen cX1_wasSeen 7 (some .boolean) 2 := ⟨tw_510, tw_7, by decide +kernel, by decide +kernel⟩
theorem mi_X1_wasSeen : Cond.instanceMethod yX1_wasSeen ∈ jTs ∧ Cond.selects yX1_wasSeen.cls yX1_wasSeen yX1_wasSeen ∈ jTs := ⟨tw_509, tws_14⟩
theorem my_X2_init : jMY yX2_init cX2_init 3 none 1 := ⟨tw_123, tw_5, by decide +kernel, by decide +kernel⟩
theorem mk_X2_init : Cond.instanceMethod yX2_init ∈ jTs := tw_122
theorem my_X2_push : jMY yX2_push cX2_push 2 none 1 := ⟨tw_383, tw_5, by decide +kernel, by decide +kernel⟩
theorem mi_X2_push : Cond.instanceMethod yX2_push ∈ jTs ∧ Cond.selects yX2_push.cls yX2_push yX2_push ∈ jTs := ⟨tw_381, tw_382⟩
theorem my_X2_pop : jMY yX2_pop cX2_pop 2 (some .boolean) 1 := ⟨tw_452, tw_5, by decide +kernel, by decide +kernel⟩
theorem mi_X2_pop : Cond.instanceMethod yX2_pop ∈ jTs ∧ Cond.selects yX2_pop.cls yX2_pop yX2_pop ∈ jTs := ⟨tw_450, tw_451⟩
theorem my_X3_init : jMY yX3_init cX3_init 1 none 0 := ⟨tw_48, tw_3, by decide +kernel, by decide +kernel⟩
theorem mk_X3_init : Cond.instanceMethod yX3_init ∈ jTs := tw_47
theorem my_X3_clear : jMY yX3_clear cX3_clear 1 none 0 := ⟨tw_256, tw_3, by decide +kernel, by decide +kernel⟩
theorem mi_X3_clear : Cond.instanceMethod yX3_clear ∈ jTs ∧ Cond.selects yX3_clear.cls yX3_clear yX3_clear ∈ jTs := ⟨tw_254, tw_255⟩
theorem my_X3_take : jMY yX3_take cX3_take 5 (some .boolean) 4 := ⟨tw_283, tw_3, by decide +kernel, by decide +kernel⟩
theorem mi_X3_take : Cond.instanceMethod yX3_take ∈ jTs ∧ Cond.selects yX3_take.cls yX3_take yX3_take ∈ jTs := ⟨tw_281, tw_282⟩
theorem my_X3_takeWall : jMY yX3_takeWall cX3_takeWall 4 (some .boolean) 3 := ⟨tw_287, tw_3, by decide +kernel, by decide +kernel⟩
theorem mi_X3_takeWall : Cond.instanceMethod yX3_takeWall ∈ jTs ∧ Cond.selects yX3_takeWall.cls yX3_takeWall yX3_takeWall ∈ jTs := ⟨tw_286, tws_5⟩
theorem my_X3_takeProp : jMY yX3_takeProp cX3_takeProp 4 (some .boolean) 3 := ⟨tw_294, tw_3, by decide +kernel, by decide +kernel⟩
theorem mi_X3_takeProp : Cond.instanceMethod yX3_takeProp ∈ jTs ∧ Cond.selects yX3_takeProp.cls yX3_takeProp yX3_takeProp ∈ jTs := ⟨tw_293, tws_6⟩
theorem my_X4_init : jMY yX4_init cX4_init 1 none 0 := ⟨tw_29, tw_2, by decide +kernel, by decide +kernel⟩
theorem mk_X4_init : Cond.instanceMethod yX4_init ∈ jTs := tw_28
theorem my_X4_add : jMY yX4_add cX4_add 2 none 1 := ⟨tw_248, tw_2, by decide +kernel, by decide +kernel⟩
theorem mi_X4_add : Cond.instanceMethod yX4_add ∈ jTs ∧ Cond.selects yX4_add.cls yX4_add yX4_add ∈ jTs := ⟨tw_246, tw_247⟩
theorem my_X4_readInto : jMY yX4_readInto cX4_readInto 5 (some .int) 1 := ⟨tw_252, tw_2, by decide +kernel, by decide +kernel⟩
theorem mi_X4_readInto : Cond.instanceMethod yX4_readInto ∈ jTs ∧ Cond.selects yX4_readInto.cls yX4_readInto yX4_readInto ∈ jTs := ⟨tw_250, tw_251⟩
theorem my_X4_readItem : jMY yX4_readItem cX4_readItem 8 (some .int) 2 := ⟨tw_263, tw_2, by decide +kernel, by decide +kernel⟩
theorem mi_X4_readItem : Cond.instanceMethod yX4_readItem ∈ jTs ∧ Cond.selects yX4_readItem.cls yX4_readItem yX4_readItem ∈ jTs := ⟨tw_262, tws_0⟩
theorem my_X4_letterAt : jMY yX4_letterAt cX4_letterAt 2 (some .char) 1 := ⟨tw_267, tw_2, by decide +kernel, by decide +kernel⟩
theorem mi_X4_letterAt : Cond.instanceMethod yX4_letterAt ∈ jTs ∧ Cond.selects yX4_letterAt.cls yX4_letterAt yX4_letterAt ∈ jTs := ⟨tw_266, tws_1⟩
theorem my_X4_isFigure : jMY yX4_isFigure cX4_isFigure 2 (some .boolean) 1 := ⟨tw_275, tw_2, by decide +kernel, by decide +kernel⟩
theorem mi_X4_isFigure : Cond.instanceMethod yX4_isFigure ∈ jTs ∧ Cond.selects yX4_isFigure.cls yX4_isFigure yX4_isFigure ∈ jTs := ⟨tw_274, tws_3⟩
theorem my_X4_figuresAt : jMY yX4_figuresAt cX4_figuresAt 2 (some .int) 1 := ⟨tw_271, tw_2, by decide +kernel, by decide +kernel⟩
theorem mi_X4_figuresAt : Cond.instanceMethod yX4_figuresAt ∈ jTs ∧ Cond.selects yX4_figuresAt.cls yX4_figuresAt yX4_figuresAt ∈ jTs := ⟨tw_270, tws_2⟩
theorem my_X4_numberAt : jMY yX4_numberAt cX4_numberAt 4 (some .int) 2 := ⟨tw_279, tw_2, by decide +kernel, by decide +kernel⟩
theorem mi_X4_numberAt : Cond.instanceMethod yX4_numberAt ∈ jTs ∧ Cond.selects yX4_numberAt.cls yX4_numberAt yX4_numberAt ∈ jTs := ⟨tw_278, tws_4⟩
theorem my_X5_init : jMY yX5_init cX5_init 2 none 1 := ⟨tw_84, tw_4, by decide +kernel, by decide +kernel⟩
theorem mk_X5_init : Cond.instanceMethod yX5_init ∈ jTs := tw_83
theorem my_X5_layOut : jMY yX5_layOut cX5_layOut 1 none 0 := ⟨tw_298, tw_4, by decide +kernel, by decide +kernel⟩
theorem mi_X5_layOut : Cond.instanceMethod yX5_layOut ∈ jTs ∧ Cond.selects yX5_layOut.cls yX5_layOut yX5_layOut ∈ jTs := ⟨tw_296, tw_297⟩
theorem my_X5_copyFrom : jMY yX5_copyFrom cX5_copyFrom 2 none 1 := ⟨tw_387, tw_4, by decide +kernel, by decide +kernel⟩
theorem mi_X5_copyFrom : Cond.instanceMethod yX5_copyFrom ∈ jTs ∧ Cond.selects yX5_copyFrom.cls yX5_copyFrom yX5_copyFrom ∈ jTs := ⟨tw_385, tw_386⟩
theorem my_X5_stands : jMY yX5_stands cX5_stands 2 (some .boolean) 1 := ⟨tw_363, tw_4, by decide +kernel, by decide +kernel⟩
theorem mi_X5_stands : Cond.instanceMethod yX5_stands ∈ jTs ∧ Cond.selects yX5_stands.cls yX5_stands yX5_stands ∈ jTs := ⟨tw_361, tw_362⟩
theorem my_X5_heldBy : jMY yX5_heldBy cX5_heldBy 3 (some .int) 2 := ⟨tw_375, tw_4, by decide +kernel, by decide +kernel⟩
theorem mi_X5_heldBy : Cond.instanceMethod yX5_heldBy ∈ jTs ∧ Cond.selects yX5_heldBy.cls yX5_heldBy yX5_heldBy ∈ jTs := ⟨tw_373, tw_374⟩
theorem my_X5_setProp : jMY yX5_setProp cX5_setProp 4 none 3 := ⟨tw_440, tw_4, by decide +kernel, by decide +kernel⟩
theorem mi_X5_setProp : Cond.instanceMethod yX5_setProp ∈ jTs ∧ Cond.selects yX5_setProp.cls yX5_setProp yX5_setProp ∈ jTs := ⟨tw_438, tw_439⟩
theorem my_X5_holdersOf : jMY yX5_holdersOf cX5_holdersOf 4 (some .int) 1 := ⟨tw_522, tw_4, by decide +kernel, by decide +kernel⟩
theorem mi_X5_holdersOf : Cond.instanceMethod yX5_holdersOf ∈ jTs ∧ Cond.selects yX5_holdersOf.cls yX5_holdersOf yX5_holdersOf ∈ jTs := ⟨tw_520, tw_521⟩
theorem my_X5_goRound : jMY yX5_goRound cX5_goRound 3 none 1 := ⟨tw_394, tw_4, by decide +kernel, by decide +kernel⟩
theorem mi_X5_goRound : Cond.instanceMethod yX5_goRound ∈ jTs ∧ Cond.selects yX5_goRound.cls yX5_goRound yX5_goRound ∈ jTs := ⟨tw_392, tw_393⟩
theorem my_X5_wouldFall : jMY yX5_wouldFall cX5_wouldFall 3 (some .boolean) 2 := ⟨tw_407, tw_4, by decide +kernel, by decide +kernel⟩
theorem mi_X5_wouldFall : Cond.instanceMethod yX5_wouldFall ∈ jTs ∧ Cond.selects yX5_wouldFall.cls yX5_wouldFall yX5_wouldFall ∈ jTs := ⟨tw_405, tw_406⟩
theorem my_X5_leansInward : jMY yX5_leansInward cX5_leansInward 2 (some .boolean) 1 := ⟨tw_411, tw_4, by decide +kernel, by decide +kernel⟩
theorem mi_X5_leansInward : Cond.instanceMethod yX5_leansInward ∈ jTs ∧ Cond.selects yX5_leansInward.cls yX5_leansInward yX5_leansInward ∈ jTs := ⟨tw_409, tw_410⟩
theorem my_X5_fewestTrumpets : jMY yX5_fewestTrumpets cX5_fewestTrumpets 3 (some .int) 1 := ⟨tw_460, tw_4, by decide +kernel, by decide +kernel⟩
theorem mi_X5_fewestTrumpets : Cond.instanceMethod yX5_fewestTrumpets ∈ jTs ∧ Cond.selects yX5_fewestTrumpets.cls yX5_fewestTrumpets yX5_fewestTrumpets ∈ jTs := ⟨tw_458, tw_459⟩
theorem my_X5_blow : jMY yX5_blow cX5_blow 4 (some .int) 2 := ⟨tw_403, tw_4, by decide +kernel, by decide +kernel⟩
theorem mi_X5_blow : Cond.instanceMethod yX5_blow ∈ jTs ∧ Cond.selects yX5_blow.cls yX5_blow yX5_blow ∈ jTs := ⟨tw_401, tw_402⟩
theorem my_X5_comeDown : jMY yX5_comeDown cX5_comeDown 3 none 2 := ⟨tw_415, tw_4, by decide +kernel, by decide +kernel⟩
theorem mi_X5_comeDown : Cond.instanceMethod yX5_comeDown ∈ jTs ∧ Cond.selects yX5_comeDown.cls yX5_comeDown yX5_comeDown ∈ jTs := ⟨tw_413, tw_414⟩
theorem my_X5_fallWithAll : jMY yX5_fallWithAll cX5_fallWithAll 5 none 3 := ⟨tw_419, tw_4, by decide +kernel, by decide +kernel⟩
theorem mi_X5_fallWithAll : Cond.instanceMethod yX5_fallWithAll ∈ jTs ∧ Cond.selects yX5_fallWithAll.cls yX5_fallWithAll yX5_fallWithAll ∈ jTs := ⟨tw_418, tws_9⟩
theorem my_X5_dayGoesBy : jMY yX5_dayGoesBy cX5_dayGoesBy 2 none 0 := ⟨tw_432, tw_4, by decide +kernel, by decide +kernel⟩
theorem mi_X5_dayGoesBy : Cond.instanceMethod yX5_dayGoesBy ∈ jTs ∧ Cond.selects yX5_dayGoesBy.cls yX5_dayGoesBy yX5_dayGoesBy ∈ jTs := ⟨tw_430, tw_431⟩
theorem my_X5_countDown : jMY yX5_countDown cX5_countDown 3 (some .int) 0 := ⟨tw_480, tw_4, by decide +kernel, by decide +kernel⟩
theorem mi_X5_countDown : Cond.instanceMethod yX5_countDown ∈ jTs ∧ Cond.selects yX5_countDown.cls yX5_countDown yX5_countDown ∈ jTs := ⟨tw_478, tw_479⟩
theorem my_X5_countHurt : jMY yX5_countHurt cX5_countHurt 3 (some .int) 0 := ⟨tw_586, tw_4, by decide +kernel, by decide +kernel⟩
theorem mi_X5_countHurt : Cond.instanceMethod yX5_countHurt ∈ jTs ∧ Cond.selects yX5_countHurt.cls yX5_countHurt yX5_countHurt ∈ jTs := ⟨tw_584, tw_585⟩
theorem my_X5_countProps : jMY yX5_countProps cX5_countProps 6 (some .int) 0 := ⟨tw_602, tw_4, by decide +kernel, by decide +kernel⟩
theorem mi_X5_countProps : Cond.instanceMethod yX5_countProps ∈ jTs ∧ Cond.selects yX5_countProps.cls yX5_countProps yX5_countProps ∈ jTs := ⟨tw_600, tw_601⟩
theorem my_X6_init : jMY yX6_init cX6_init 2 none 0 := ⟨tw_21, tw_1, by decide +kernel, by decide +kernel⟩
theorem mk_X6_init : Cond.instanceMethod yX6_init ∈ jTs := tw_20
theorem my_X6_write : jMY yX6_write cX6_write 2 (some .int) 1 := ⟨tw_338, tw_1, by decide +kernel, by decide +kernel⟩
theorem mi_X6_write : Cond.instanceMethod yX6_write ∈ jTs ∧ Cond.selects yX6_write.cls yX6_write yX6_write ∈ jTs := ⟨tw_336, tw_337⟩
theorem my_X6_wipe : jMY yX6_wipe cX6_wipe 2 (some .int) 0 := ⟨tw_342, tw_1, by decide +kernel, by decide +kernel⟩
theorem mi_X6_wipe : Cond.instanceMethod yX6_wipe ∈ jTs ∧ Cond.selects yX6_wipe.cls yX6_wipe yX6_wipe ∈ jTs := ⟨tw_340, tw_341⟩
theorem my_X6_fault : jMY yX6_fault cX6_fault 1 (some .int) 0 := ⟨tw_346, tw_1, by decide +kernel, by decide +kernel⟩
theorem mi_X6_fault : Cond.instanceMethod yX6_fault ∈ jTs ∧ Cond.selects yX6_fault.cls yX6_fault yX6_fault ∈ jTs := ⟨tw_344, tw_345⟩
theorem my_X6_lay : jMY yX6_lay cX6_lay 1 (some .int) 0 := ⟨tw_350, tw_1, by decide +kernel, by decide +kernel⟩
theorem mi_X6_lay : Cond.instanceMethod yX6_lay ∈ jTs ∧ Cond.selects yX6_lay.cls yX6_lay yX6_lay ∈ jTs := ⟨tw_348, tw_349⟩
theorem my_X6_wall : jMY yX6_wall cX6_wall 3 (some .int) 2 := ⟨tw_354, tw_1, by decide +kernel, by decide +kernel⟩
theorem mi_X6_wall : Cond.instanceMethod yX6_wall ∈ jTs ∧ Cond.selects yX6_wall.cls yX6_wall yX6_wall ∈ jTs := ⟨tw_352, tw_353⟩
theorem my_X6_holds : jMY yX6_holds cX6_holds 3 (some .int) 2 := ⟨tw_367, tw_1, by decide +kernel, by decide +kernel⟩
theorem mi_X6_holds : Cond.instanceMethod yX6_holds ∈ jTs ∧ Cond.selects yX6_holds.cls yX6_holds yX6_holds ∈ jTs := ⟨tw_365, tw_366⟩
theorem my_X6_round : jMY yX6_round cX6_round 2 (some .int) 1 := ⟨tw_379, tw_1, by decide +kernel, by decide +kernel⟩
theorem mi_X6_round : Cond.instanceMethod yX6_round ∈ jTs ∧ Cond.selects yX6_round.cls yX6_round yX6_round ∈ jTs := ⟨tw_377, tw_378⟩
theorem my_X6_blast : jMY yX6_blast cX6_blast 3 (some .int) 2 := ⟨tw_399, tw_1, by decide +kernel, by decide +kernel⟩
theorem mi_X6_blast : Cond.instanceMethod yX6_blast ∈ jTs ∧ Cond.selects yX6_blast.cls yX6_blast yX6_blast ∈ jTs := ⟨tw_397, tw_398⟩
theorem my_X6_pass : jMY yX6_pass cX6_pass 3 (some .int) 1 := ⟨tw_428, tw_1, by decide +kernel, by decide +kernel⟩
theorem mi_X6_pass : Cond.instanceMethod yX6_pass ∈ jTs ∧ Cond.selects yX6_pass.cls yX6_pass yX6_pass ∈ jTs := ⟨tw_426, tw_427⟩
theorem my_X6_prop : jMY yX6_prop cX6_prop 5 (some .int) 3 := ⟨tw_436, tw_1, by decide +kernel, by decide +kernel⟩
theorem mi_X6_prop : Cond.instanceMethod yX6_prop ∈ jTs ∧ Cond.selects yX6_prop.cls yX6_prop yX6_prop ∈ jTs := ⟨tw_434, tw_435⟩
theorem my_X6_use : jMY yX6_use cX6_use 2 (some .int) 1 := ⟨tw_444, tw_1, by decide +kernel, by decide +kernel⟩
theorem mi_X6_use : Cond.instanceMethod yX6_use ∈ jTs ∧ Cond.selects yX6_use.cls yX6_use yX6_use ∈ jTs := ⟨tw_442, tw_443⟩
theorem my_X6_undo : jMY yX6_undo cX6_undo 1 (some .int) 0 := ⟨tw_448, tw_1, by decide +kernel, by decide +kernel⟩
theorem mi_X6_undo : Cond.instanceMethod yX6_undo ∈ jTs ∧ Cond.selects yX6_undo.cls yX6_undo yX6_undo ∈ jTs := ⟨tw_446, tw_447⟩
theorem my_X6_calls : jMY yX6_calls cX6_calls 2 (some .int) 1 := ⟨tw_456, tw_1, by decide +kernel, by decide +kernel⟩
theorem mi_X6_calls : Cond.instanceMethod yX6_calls ∈ jTs ∧ Cond.selects yX6_calls.cls yX6_calls yX6_calls ∈ jTs := ⟨tw_454, tw_455⟩
theorem my_X6_rounds : jMY yX6_rounds cX6_rounds 4 (some .int) 2 := ⟨tw_464, tw_1, by decide +kernel, by decide +kernel⟩
theorem mi_X6_rounds : Cond.instanceMethod yX6_rounds ∈ jTs ∧ Cond.selects yX6_rounds.cls yX6_rounds yX6_rounds ∈ jTs := ⟨tw_462, tw_463⟩
theorem my_X6_key : jMY yX6_key cX6_key 6 (some .int) 1 := ⟨tw_471, tw_1, by decide +kernel, by decide +kernel⟩
theorem mi_X6_key : Cond.instanceMethod yX6_key ∈ jTs ∧ Cond.selects yX6_key.cls yX6_key yX6_key ∈ jTs := ⟨tw_469, tw_470⟩
theorem my_X6_order : jMY yX6_order cX6_order 2 (some .int) 1 := ⟨tw_484, tw_1, by decide +kernel, by decide +kernel⟩
theorem mi_X6_order : Cond.instanceMethod yX6_order ∈ jTs ∧ Cond.selects yX6_order.cls yX6_order yX6_order ∈ jTs := ⟨tw_482, tw_483⟩
theorem my_X6_save : jMY yX6_save cX6_save 7 (some .int) 2 := ⟨tw_518, tw_1, by decide +kernel, by decide +kernel⟩
theorem mi_X6_save : Cond.instanceMethod yX6_save ∈ jTs ∧ Cond.selects yX6_save.cls yX6_save yX6_save ∈ jTs := ⟨tw_516, tw_517⟩
theorem my_X6_built : jMY yX6_built cX6_built 9 (some .int) 1 := ⟨tw_536, tw_1, by decide +kernel, by decide +kernel⟩
theorem mi_X6_built : Cond.instanceMethod yX6_built ∈ jTs ∧ Cond.selects yX6_built.cls yX6_built yX6_built ∈ jTs := ⟨tw_534, tw_535⟩
theorem my_X6_note : jMY yX6_note cX6_note 5 (some .int) 3 := ⟨tw_540, tw_1, by decide +kernel, by decide +kernel⟩
theorem mi_X6_note : Cond.instanceMethod yX6_note ∈ jTs ∧ Cond.selects yX6_note.cls yX6_note yX6_note ∈ jTs := ⟨tw_538, tw_539⟩
theorem my_X6_forget : jMY yX6_forget cX6_forget 2 (some .int) 0 := ⟨tw_552, tw_1, by decide +kernel, by decide +kernel⟩
theorem mi_X6_forget : Cond.instanceMethod yX6_forget ∈ jTs ∧ Cond.selects yX6_forget.cls yX6_forget yX6_forget ∈ jTs := ⟨tw_550, tw_551⟩
theorem my_X6_thick : jMY yX6_thick cX6_thick 5 (some .int) 1 := ⟨tw_556, tw_1, by decide +kernel, by decide +kernel⟩
theorem mi_X6_thick : Cond.instanceMethod yX6_thick ∈ jTs ∧ Cond.selects yX6_thick.cls yX6_thick yX6_thick ∈ jTs := ⟨tw_554, tw_555⟩
theorem my_X6_fail : jMY yX6_fail cX6_fail 14 (some .int) 4 := ⟨tw_565, tw_1, by decide +kernel, by decide +kernel⟩
theorem mi_X6_fail : Cond.instanceMethod yX6_fail ∈ jTs ∧ Cond.selects yX6_fail.cls yX6_fail yX6_fail ∈ jTs := ⟨tw_563, tw_564⟩
theorem my_X6_year : jMY yX6_year cX6_year 5 (some .int) 3 := ⟨tw_575, tw_1, by decide +kernel, by decide +kernel⟩
theorem mi_X6_year : Cond.instanceMethod yX6_year ∈ jTs ∧ Cond.selects yX6_year.cls yX6_year yX6_year ∈ jTs := ⟨tw_573, tw_574⟩
theorem my_X6_keep : jMY yX6_keep cX6_keep 1 (some .int) 0 := ⟨tw_590, tw_1, by decide +kernel, by decide +kernel⟩
theorem mi_X6_keep : Cond.instanceMethod yX6_keep ∈ jTs ∧ Cond.selects yX6_keep.cls yX6_keep yX6_keep ∈ jTs := ⟨tw_588, tw_589⟩
theorem my_X6_back : jMY yX6_back cX6_back 1 (some .int) 0 := ⟨tw_594, tw_1, by decide +kernel, by decide +kernel⟩
theorem mi_X6_back : Cond.instanceMethod yX6_back ∈ jTs ∧ Cond.selects yX6_back.cls yX6_back yX6_back ∈ jTs := ⟨tw_592, tw_593⟩
theorem my_X6_count : jMY yX6_count cX6_count 2 (some .int) 1 := ⟨tw_598, tw_1, by decide +kernel, by decide +kernel⟩
theorem mi_X6_count : Cond.instanceMethod yX6_count ∈ jTs ∧ Cond.selects yX6_count.cls yX6_count yX6_count ∈ jTs := ⟨tw_596, tw_597⟩
theorem my_X6_isOutside : jMY yX6_isOutside cX6_isOutside 3 (some .boolean) 3 := ⟨tw_290, tw_1, by decide +kernel, by decide +kernel⟩
theorem ms_X6_isOutside : Cond.static yX6_isOutside ∈ jTs := tw_289
theorem my_X6_isNoWall : jMY yX6_isNoWall cX6_isNoWall 2 (some .boolean) 1 := ⟨tw_358, tw_1, by decide +kernel, by decide +kernel⟩
theorem mi_X6_isNoWall : Cond.instanceMethod yX6_isNoWall ∈ jTs ∧ Cond.selects yX6_isNoWall.cls yX6_isNoWall yX6_isNoWall ∈ jTs := ⟨tw_357, tws_7⟩
theorem my_X6_isNoPair : jMY yX6_isNoPair cX6_isNoPair 3 (some .boolean) 2 := ⟨tw_371, tw_1, by decide +kernel, by decide +kernel⟩
theorem mi_X6_isNoPair : Cond.instanceMethod yX6_isNoPair ∈ jTs ∧ Cond.selects yX6_isNoPair.cls yX6_isNoPair yX6_isNoPair ∈ jTs := ⟨tw_370, tws_8⟩
theorem my_X6_othersDownBy : jMY yX6_othersDownBy cX6_othersDownBy 3 (some .int) 1 := ⟨tw_475, tw_1, by decide +kernel, by decide +kernel⟩
theorem mi_X6_othersDownBy : Cond.instanceMethod yX6_othersDownBy ∈ jTs ∧ Cond.selects yX6_othersDownBy.cls yX6_othersDownBy yX6_othersDownBy ∈ jTs := ⟨tw_474, tws_10⟩
theorem my_X6_standsWithout : jMY yX6_standsWithout cX6_standsWithout 5 (some .boolean) 3 := ⟨tw_532, tw_1, by decide +kernel, by decide +kernel⟩
theorem mi_X6_standsWithout : Cond.instanceMethod yX6_standsWithout ∈ jTs ∧ Cond.selects yX6_standsWithout.cls yX6_standsWithout yX6_standsWithout ∈ jTs := ⟨tw_531, tws_15⟩
theorem my_X6_drawAhead : jMY yX6_drawAhead cX6_drawAhead 8 none 2 := ⟨tw_579, tw_1, by decide +kernel, by decide +kernel⟩
theorem mi_X6_drawAhead : Cond.instanceMethod yX6_drawAhead ∈ jTs ∧ Cond.selects yX6_drawAhead.cls yX6_drawAhead yX6_drawAhead ∈ jTs := ⟨tw_578, tws_16⟩
theorem my_X6_power : jMY yX6_power cX6_power 5 (some .long) 2 := ⟨tw_568, tw_1, by decide +kernel, by decide +kernel⟩
theorem ms_X6_power : Cond.static yX6_power ∈ jTs := tw_567
theorem my_X6_greatestShared : jMY yX6_greatestShared cX6_greatestShared 7 (some .long) 2 := ⟨tw_571, tw_1, by decide +kernel, by decide +kernel⟩
theorem ms_X6_greatestShared : Cond.static yX6_greatestShared ∈ jTs := tw_570
theorem my_X7_init : jMY yX7_init cX7_init 1 none 0 := ⟨tw_607, tw_14, by decide +kernel, by decide +kernel⟩
theorem mk_X7_init : Cond.instanceMethod yX7_init ∈ jTs := tw_606
theorem my_X7_in : jMY yX7_in cX7_in 6 (some .boolean) 3 := ⟨tw_705, tw_14, by decide +kernel, by decide +kernel⟩
theorem ms_X7_in : Cond.static yX7_in ∈ jTs := tw_704
theorem my_X7_has : jMY yX7_has cX7_has 2 (some .boolean) 2 := ⟨tw_869, tw_14, by decide +kernel, by decide +kernel⟩
theorem ms_X7_has : Cond.static yX7_has ∈ jTs := tw_868
theorem my_X7_ones : jMY yX7_ones cX7_ones 3 (some .int) 1 := ⟨tw_852, tw_14, by decide +kernel, by decide +kernel⟩
theorem ms_X7_ones : Cond.static yX7_ones ∈ jTs := tw_851
theorem my_X7_copy : jMY yX7_copy cX7_copy 4 none 2 := ⟨tw_777, tw_14, by decide +kernel, by decide +kernel⟩
theorem mi_X7_copy : Cond.instanceMethod yX7_copy ∈ jTs ∧ Cond.selects yX7_copy.cls yX7_copy yX7_copy ∈ jTs := ⟨tw_776, tws_30⟩
theorem my_X7_isWall : jMY yX7_isWall cX7_isWall 2 (some .boolean) 1 := ⟨tw_755, tw_14, by decide +kernel, by decide +kernel⟩
theorem mi_X7_isWall : Cond.instanceMethod yX7_isWall ∈ jTs ∧ Cond.selects yX7_isWall.cls yX7_isWall yX7_isWall ∈ jTs := ⟨tw_754, tws_27⟩
theorem my_X7_starts : jMY yX7_starts cX7_starts 2 none 0 := ⟨tw_612, tw_14, by decide +kernel, by decide +kernel⟩
theorem mi_X7_starts : Cond.instanceMethod yX7_starts ∈ jTs ∧ Cond.selects yX7_starts.cls yX7_starts yX7_starts ∈ jTs := ⟨tw_611, tws_17⟩
theorem my_X7_addsWall : jMY yX7_addsWall cX7_addsWall 4 none 3 := ⟨tw_616, tw_14, by decide +kernel, by decide +kernel⟩
theorem mi_X7_addsWall : Cond.instanceMethod yX7_addsWall ∈ jTs ∧ Cond.selects yX7_addsWall.cls yX7_addsWall yX7_addsWall ∈ jTs := ⟨tw_615, tws_18⟩
theorem my_X7_begins : jMY yX7_begins cX7_begins 2 none 0 := ⟨tw_620, tw_14, by decide +kernel, by decide +kernel⟩
theorem mi_X7_begins : Cond.instanceMethod yX7_begins ∈ jTs ∧ Cond.selects yX7_begins.cls yX7_begins yX7_begins ∈ jTs := ⟨tw_619, tws_19⟩
theorem my_X7_write : jMY yX7_write cX7_write 2 (some .int) 1 := ⟨tw_700, tw_14, by decide +kernel, by decide +kernel⟩
theorem mi_X7_write : Cond.instanceMethod yX7_write ∈ jTs ∧ Cond.selects yX7_write.cls yX7_write yX7_write ∈ jTs := ⟨tw_698, tw_699⟩
theorem my_X7_wipe : jMY yX7_wipe cX7_wipe 2 (some .int) 0 := ⟨tw_709, tw_14, by decide +kernel, by decide +kernel⟩
theorem mi_X7_wipe : Cond.instanceMethod yX7_wipe ∈ jTs ∧ Cond.selects yX7_wipe.cls yX7_wipe yX7_wipe ∈ jTs := ⟨tw_707, tw_708⟩
theorem my_X7_letterAt : jMY yX7_letterAt cX7_letterAt 2 (some .int) 1 := ⟨tw_725, tw_14, by decide +kernel, by decide +kernel⟩
theorem mi_X7_letterAt : Cond.instanceMethod yX7_letterAt ∈ jTs ∧ Cond.selects yX7_letterAt.cls yX7_letterAt yX7_letterAt ∈ jTs := ⟨tw_724, tws_22⟩
theorem my_X7_takesNumber : jMY yX7_takesNumber cX7_takesNumber 5 (some .boolean) 3 := ⟨tw_733, tw_14, by decide +kernel, by decide +kernel⟩
theorem mi_X7_takesNumber : Cond.instanceMethod yX7_takesNumber ∈ jTs ∧ Cond.selects yX7_takesNumber.cls yX7_takesNumber yX7_takesNumber ∈ jTs := ⟨tw_732, tws_24⟩
theorem my_X7_takesWall : jMY yX7_takesWall cX7_takesWall 3 (some .boolean) 0 := ⟨tw_729, tw_14, by decide +kernel, by decide +kernel⟩
theorem mi_X7_takesWall : Cond.instanceMethod yX7_takesWall ∈ jTs ∧ Cond.selects yX7_takesWall.cls yX7_takesWall yX7_takesWall ∈ jTs := ⟨tw_728, tws_23⟩
theorem my_X7_takesProp : jMY yX7_takesProp cX7_takesProp 3 (some .boolean) 0 := ⟨tw_739, tw_14, by decide +kernel, by decide +kernel⟩
theorem mi_X7_takesProp : Cond.instanceMethod yX7_takesProp ∈ jTs ∧ Cond.selects yX7_takesProp.cls yX7_takesProp yX7_takesProp ∈ jTs := ⟨tw_738, tws_25⟩
theorem my_X7_takesStones : jMY yX7_takesStones cX7_takesStones 1 (some .boolean) 0 := ⟨tw_743, tw_14, by decide +kernel, by decide +kernel⟩
theorem mi_X7_takesStones : Cond.instanceMethod yX7_takesStones ∈ jTs ∧ Cond.selects yX7_takesStones.cls yX7_takesStones yX7_takesStones ∈ jTs := ⟨tw_742, tws_26⟩
theorem my_X7_takesItem : jMY yX7_takesItem cX7_takesItem 2 (some .boolean) 0 := ⟨tw_721, tw_14, by decide +kernel, by decide +kernel⟩
theorem mi_X7_takesItem : Cond.instanceMethod yX7_takesItem ∈ jTs ∧ Cond.selects yX7_takesItem.cls yX7_takesItem yX7_takesItem ∈ jTs := ⟨tw_720, tws_21⟩
theorem my_X7_faultOf : jMY yX7_faultOf cX7_faultOf 2 (some .int) 0 := ⟨tw_717, tw_14, by decide +kernel, by decide +kernel⟩
theorem mi_X7_faultOf : Cond.instanceMethod yX7_faultOf ∈ jTs ∧ Cond.selects yX7_faultOf.cls yX7_faultOf yX7_faultOf ∈ jTs := ⟨tw_716, tws_20⟩
theorem my_X7_fault : jMY yX7_fault cX7_fault 1 (some .int) 0 := ⟨tw_713, tw_14, by decide +kernel, by decide +kernel⟩
theorem mi_X7_fault : Cond.instanceMethod yX7_fault ∈ jTs ∧ Cond.selects yX7_fault.cls yX7_fault yX7_fault ∈ jTs := ⟨tw_711, tw_712⟩
theorem my_X7_lay : jMY yX7_lay cX7_lay 1 (some .int) 0 := ⟨tw_747, tw_14, by decide +kernel, by decide +kernel⟩
theorem mi_X7_lay : Cond.instanceMethod yX7_lay ∈ jTs ∧ Cond.selects yX7_lay.cls yX7_lay yX7_lay ∈ jTs := ⟨tw_745, tw_746⟩
theorem my_X7_wall : jMY yX7_wall cX7_wall 3 (some .int) 2 := ⟨tw_751, tw_14, by decide +kernel, by decide +kernel⟩
theorem mi_X7_wall : Cond.instanceMethod yX7_wall ∈ jTs ∧ Cond.selects yX7_wall.cls yX7_wall yX7_wall ∈ jTs := ⟨tw_749, tw_750⟩
theorem my_X7_holds : jMY yX7_holds cX7_holds 3 (some .int) 2 := ⟨tw_761, tw_14, by decide +kernel, by decide +kernel⟩
theorem mi_X7_holds : Cond.instanceMethod yX7_holds ∈ jTs ∧ Cond.selects yX7_holds.cls yX7_holds yX7_holds ∈ jTs := ⟨tw_759, tw_760⟩
theorem my_X7_stands : jMY yX7_stands cX7_stands 3 (some .boolean) 2 := ⟨tw_769, tw_14, by decide +kernel, by decide +kernel⟩
theorem mi_X7_stands : Cond.instanceMethod yX7_stands ∈ jTs ∧ Cond.selects yX7_stands.cls yX7_stands yX7_stands ∈ jTs := ⟨tw_768, tws_28⟩
theorem my_X7_fellsOne : jMY yX7_fellsOne cX7_fellsOne 5 (some .boolean) 3 := ⟨tw_802, tw_14, by decide +kernel, by decide +kernel⟩
theorem mi_X7_fellsOne : Cond.instanceMethod yX7_fellsOne ∈ jTs ∧ Cond.selects yX7_fellsOne.cls yX7_fellsOne yX7_fellsOne ∈ jTs := ⟨tw_801, tws_35⟩
theorem my_X7_falls : jMY yX7_falls cX7_falls 7 none 3 := ⟨tw_798, tw_14, by decide +kernel, by decide +kernel⟩
theorem mi_X7_falls : Cond.instanceMethod yX7_falls ∈ jTs ∧ Cond.selects yX7_falls.cls yX7_falls yX7_falls ∈ jTs := ⟨tw_797, tws_34⟩
theorem my_X7_wouldFall : jMY yX7_wouldFall cX7_wouldFall 4 (some .boolean) 3 := ⟨tw_794, tw_14, by decide +kernel, by decide +kernel⟩
theorem mi_X7_wouldFall : Cond.instanceMethod yX7_wouldFall ∈ jTs ∧ Cond.selects yX7_wouldFall.cls yX7_wouldFall yX7_wouldFall ∈ jTs := ⟨tw_793, tws_33⟩
theorem my_X7_blasts : jMY yX7_blasts cX7_blasts 5 (some .int) 3 := ⟨tw_790, tw_14, by decide +kernel, by decide +kernel⟩
theorem mi_X7_blasts : Cond.instanceMethod yX7_blasts ∈ jTs ∧ Cond.selects yX7_blasts.cls yX7_blasts yX7_blasts ∈ jTs := ⟨tw_789, tws_32⟩
theorem my_X7_roundsOne : jMY yX7_roundsOne cX7_roundsOne 4 none 2 := ⟨tw_781, tw_14, by decide +kernel, by decide +kernel⟩
theorem mi_X7_roundsOne : Cond.instanceMethod yX7_roundsOne ∈ jTs ∧ Cond.selects yX7_roundsOne.cls yX7_roundsOne yX7_roundsOne ∈ jTs := ⟨tw_780, tws_31⟩
theorem my_X7_passes : jMY yX7_passes cX7_passes 3 none 1 := ⟨tw_811, tw_14, by decide +kernel, by decide +kernel⟩
theorem mi_X7_passes : Cond.instanceMethod yX7_passes ∈ jTs ∧ Cond.selects yX7_passes.cls yX7_passes yX7_passes ∈ jTs := ⟨tw_810, tws_36⟩
theorem my_X7_minds : jMY yX7_minds cX7_minds 2 none 0 := ⟨tw_773, tw_14, by decide +kernel, by decide +kernel⟩
theorem mi_X7_minds : Cond.instanceMethod yX7_minds ∈ jTs ∧ Cond.selects yX7_minds.cls yX7_minds yX7_minds ∈ jTs := ⟨tw_772, tws_29⟩
theorem my_X7_round : jMY yX7_round cX7_round 2 (some .int) 1 := ⟨tw_765, tw_14, by decide +kernel, by decide +kernel⟩
theorem mi_X7_round : Cond.instanceMethod yX7_round ∈ jTs ∧ Cond.selects yX7_round.cls yX7_round yX7_round ∈ jTs := ⟨tw_763, tw_764⟩
theorem my_X7_blast : jMY yX7_blast cX7_blast 3 (some .int) 2 := ⟨tw_785, tw_14, by decide +kernel, by decide +kernel⟩
theorem mi_X7_blast : Cond.instanceMethod yX7_blast ∈ jTs ∧ Cond.selects yX7_blast.cls yX7_blast yX7_blast ∈ jTs := ⟨tw_783, tw_784⟩
theorem my_X7_pass : jMY yX7_pass cX7_pass 3 (some .int) 1 := ⟨tw_806, tw_14, by decide +kernel, by decide +kernel⟩
theorem mi_X7_pass : Cond.instanceMethod yX7_pass ∈ jTs ∧ Cond.selects yX7_pass.cls yX7_pass yX7_pass ∈ jTs := ⟨tw_804, tw_805⟩
theorem my_X7_prop : jMY yX7_prop cX7_prop 5 (some .int) 3 := ⟨tw_815, tw_14, by decide +kernel, by decide +kernel⟩
theorem mi_X7_prop : Cond.instanceMethod yX7_prop ∈ jTs ∧ Cond.selects yX7_prop.cls yX7_prop yX7_prop ∈ jTs := ⟨tw_813, tw_814⟩
theorem my_X7_use : jMY yX7_use cX7_use 2 (some .int) 1 := ⟨tw_820, tw_14, by decide +kernel, by decide +kernel⟩
theorem mi_X7_use : Cond.instanceMethod yX7_use ∈ jTs ∧ Cond.selects yX7_use.cls yX7_use yX7_use ∈ jTs := ⟨tw_818, tw_819⟩
theorem my_X7_undo : jMY yX7_undo cX7_undo 1 (some .int) 0 := ⟨tw_825, tw_14, by decide +kernel, by decide +kernel⟩
theorem mi_X7_undo : Cond.instanceMethod yX7_undo ∈ jTs ∧ Cond.selects yX7_undo.cls yX7_undo yX7_undo ∈ jTs := ⟨tw_823, tw_824⟩
theorem my_X7_callsIn : jMY yX7_callsIn cX7_callsIn 4 (some .int) 2 := ⟨tw_833, tw_14, by decide +kernel, by decide +kernel⟩
theorem mi_X7_callsIn : Cond.instanceMethod yX7_callsIn ∈ jTs ∧ Cond.selects yX7_callsIn.cls yX7_callsIn yX7_callsIn ∈ jTs := ⟨tw_832, tws_37⟩
theorem my_X7_calls : jMY yX7_calls cX7_calls 2 (some .int) 1 := ⟨tw_829, tw_14, by decide +kernel, by decide +kernel⟩
theorem mi_X7_calls : Cond.instanceMethod yX7_calls ∈ jTs ∧ Cond.selects yX7_calls.cls yX7_calls yX7_calls ∈ jTs := ⟨tw_827, tw_828⟩
theorem my_X7_tries : jMY yX7_tries cX7_tries 1 none 0 := ⟨tw_841, tw_14, by decide +kernel, by decide +kernel⟩
theorem mi_X7_tries : Cond.instanceMethod yX7_tries ∈ jTs ∧ Cond.selects yX7_tries.cls yX7_tries yX7_tries ∈ jTs := ⟨tw_840, tws_38⟩
theorem my_X7_rounds : jMY yX7_rounds cX7_rounds 4 (some .int) 2 := ⟨tw_837, tw_14, by decide +kernel, by decide +kernel⟩
theorem mi_X7_rounds : Cond.instanceMethod yX7_rounds ∈ jTs ∧ Cond.selects yX7_rounds.cls yX7_rounds yX7_rounds ∈ jTs := ⟨tw_835, tw_836⟩
theorem my_X7_downOnes : jMY yX7_downOnes cX7_downOnes 4 (some .int) 1 := ⟨tw_849, tw_14, by decide +kernel, by decide +kernel⟩
theorem mi_X7_downOnes : Cond.instanceMethod yX7_downOnes ∈ jTs ∧ Cond.selects yX7_downOnes.cls yX7_downOnes yX7_downOnes ∈ jTs := ⟨tw_848, tws_39⟩
theorem my_X7_key : jMY yX7_key cX7_key 6 (some .int) 1 := ⟨tw_845, tw_14, by decide +kernel, by decide +kernel⟩
theorem mi_X7_key : Cond.instanceMethod yX7_key ∈ jTs ∧ Cond.selects yX7_key.cls yX7_key yX7_key ∈ jTs := ⟨tw_843, tw_844⟩
theorem my_X7_bestOrder : jMY yX7_bestOrder cX7_bestOrder 7 (some .int) 0 := ⟨tw_861, tw_14, by decide +kernel, by decide +kernel⟩
theorem mi_X7_bestOrder : Cond.instanceMethod yX7_bestOrder ∈ jTs ∧ Cond.selects yX7_bestOrder.cls yX7_bestOrder yX7_bestOrder ∈ jTs := ⟨tw_860, tws_40⟩
theorem my_X7_order : jMY yX7_order cX7_order 3 (some .int) 1 := ⟨tw_856, tw_14, by decide +kernel, by decide +kernel⟩
theorem mi_X7_order : Cond.instanceMethod yX7_order ∈ jTs ∧ Cond.selects yX7_order.cls yX7_order yX7_order ∈ jTs := ⟨tw_854, tw_855⟩
theorem my_X7_save : jMY yX7_save cX7_save 8 (some .int) 2 := ⟨tw_866, tw_14, by decide +kernel, by decide +kernel⟩
theorem mi_X7_save : Cond.instanceMethod yX7_save ∈ jTs ∧ Cond.selects yX7_save.cls yX7_save yX7_save ∈ jTs := ⟨tw_864, tw_865⟩
theorem my_X7_built : jMY yX7_built cX7_built 9 (some .int) 1 := ⟨tw_873, tw_14, by decide +kernel, by decide +kernel⟩
theorem mi_X7_built : Cond.instanceMethod yX7_built ∈ jTs ∧ Cond.selects yX7_built.cls yX7_built yX7_built ∈ jTs := ⟨tw_871, tw_872⟩
theorem my_X7_note : jMY yX7_note cX7_note 4 (some .int) 3 := ⟨tw_877, tw_14, by decide +kernel, by decide +kernel⟩
theorem mi_X7_note : Cond.instanceMethod yX7_note ∈ jTs ∧ Cond.selects yX7_note.cls yX7_note yX7_note ∈ jTs := ⟨tw_875, tw_876⟩
theorem my_X7_forget : jMY yX7_forget cX7_forget 2 (some .int) 0 := ⟨tw_881, tw_14, by decide +kernel, by decide +kernel⟩
theorem mi_X7_forget : Cond.instanceMethod yX7_forget ∈ jTs ∧ Cond.selects yX7_forget.cls yX7_forget yX7_forget ∈ jTs := ⟨tw_879, tw_880⟩
theorem my_X7_isSo : jMY yX7_isSo cX7_isSo 6 (some .boolean) 1 := ⟨tw_889, tw_14, by decide +kernel, by decide +kernel⟩
theorem mi_X7_isSo : Cond.instanceMethod yX7_isSo ∈ jTs ∧ Cond.selects yX7_isSo.cls yX7_isSo yX7_isSo ∈ jTs := ⟨tw_888, tws_41⟩
theorem my_X7_thick : jMY yX7_thick cX7_thick 6 (some .int) 1 := ⟨tw_885, tw_14, by decide +kernel, by decide +kernel⟩
theorem mi_X7_thick : Cond.instanceMethod yX7_thick ∈ jTs ∧ Cond.selects yX7_thick.cls yX7_thick yX7_thick ∈ jTs := ⟨tw_883, tw_884⟩
theorem my_X7_fail : jMY yX7_fail cX7_fail 15 (some .int) 4 := ⟨tw_893, tw_14, by decide +kernel, by decide +kernel⟩
theorem mi_X7_fail : Cond.instanceMethod yX7_fail ∈ jTs ∧ Cond.selects yX7_fail.cls yX7_fail yX7_fail ∈ jTs := ⟨tw_891, tw_892⟩
theorem my_X7_hurtAll : jMY yX7_hurtAll cX7_hurtAll 4 (some .int) 1 := ⟨tw_907, tw_14, by decide +kernel, by decide +kernel⟩
theorem mi_X7_hurtAll : Cond.instanceMethod yX7_hurtAll ∈ jTs ∧ Cond.selects yX7_hurtAll.cls yX7_hurtAll yX7_hurtAll ∈ jTs := ⟨tw_906, tws_42⟩
theorem my_X7_year : jMY yX7_year cX7_year 9 (some .int) 3 := ⟨tw_898, tw_14, by decide +kernel, by decide +kernel⟩
theorem mi_X7_year : Cond.instanceMethod yX7_year ∈ jTs ∧ Cond.selects yX7_year.cls yX7_year yX7_year ∈ jTs := ⟨tw_896, tw_897⟩
theorem my_X7_keep : jMY yX7_keep cX7_keep 1 (some .int) 0 := ⟨tw_911, tw_14, by decide +kernel, by decide +kernel⟩
theorem mi_X7_keep : Cond.instanceMethod yX7_keep ∈ jTs ∧ Cond.selects yX7_keep.cls yX7_keep yX7_keep ∈ jTs := ⟨tw_909, tw_910⟩
theorem my_X7_back : jMY yX7_back cX7_back 1 (some .int) 0 := ⟨tw_915, tw_14, by decide +kernel, by decide +kernel⟩
theorem mi_X7_back : Cond.instanceMethod yX7_back ∈ jTs ∧ Cond.selects yX7_back.cls yX7_back yX7_back ∈ jTs := ⟨tw_913, tw_914⟩
theorem my_X7_propsThere : jMY yX7_propsThere cX7_propsThere 3 (some .int) 0 := ⟨tw_923, tw_14, by decide +kernel, by decide +kernel⟩
theorem mi_X7_propsThere : Cond.instanceMethod yX7_propsThere ∈ jTs ∧ Cond.selects yX7_propsThere.cls yX7_propsThere yX7_propsThere ∈ jTs := ⟨tw_922, tws_43⟩
theorem my_X7_count : jMY yX7_count cX7_count 2 (some .int) 1 := ⟨tw_919, tw_14, by decide +kernel, by decide +kernel⟩
theorem mi_X7_count : Cond.instanceMethod yX7_count ∈ jTs ∧ Cond.selects yX7_count.cls yX7_count yX7_count ∈ jTs := ⟨tw_917, tw_918⟩
theorem my_J6_bitCount_0f7a4 : jMY yJ6_bitCount_0f7a4 cJ6_bitCount_0f7a4 1 (some .int) 1 := ⟨tw_525, tw_16, by decide +kernel, by decide +kernel⟩
theorem ms_J6_bitCount_0f7a4 : Cond.static yJ6_bitCount_0f7a4 ∈ jTs := tw_524
theorem my_J0_length_8abf5 : jMY yJ0_length_8abf5 cJ0_length_8abf5 1 (some .int) 0 := ⟨tw_200, tw_8, by decide +kernel, by decide +kernel⟩
theorem mi_J0_length_8abf5 : Cond.instanceMethod yJ0_length_8abf5 ∈ jTs ∧ Cond.selects yJ0_length_8abf5.cls yJ0_length_8abf5 yJ0_length_8abf5 ∈ jTs := ⟨tw_198, tw_199⟩
theorem my_J0_charAt_5068e : jMY yJ0_charAt_5068e cJ0_charAt_5068e 2 (some .char) 1 := ⟨tw_210, tw_8, by decide +kernel, by decide +kernel⟩
theorem mi_J0_charAt_5068e : Cond.instanceMethod yJ0_charAt_5068e ∈ jTs ∧ Cond.selects yJ0_charAt_5068e.cls yJ0_charAt_5068e yJ0_charAt_5068e ∈ jTs := ⟨tw_208, tw_209⟩
theorem my_J0_coder_7d493 : jMY yJ0_coder_7d493 cJ0_coder_7d493 1 (some .byte) 0 := ⟨tw_204, tw_8, by decide +kernel, by decide +kernel⟩
theorem mi_J0_coder_7d493 : Cond.instanceMethod yJ0_coder_7d493 ∈ jTs ∧ Cond.selects yJ0_coder_7d493.cls yJ0_coder_7d493 yJ0_coder_7d493 ∈ jTs := ⟨tw_202, tw_203⟩
theorem my_J0_isLatin1_aae02 : jMY yJ0_isLatin1_aae02 cJ0_isLatin1_aae02 1 (some .boolean) 0 := ⟨tw_214, tw_8, by decide +kernel, by decide +kernel⟩
theorem mi_J0_isLatin1_aae02 : Cond.instanceMethod yJ0_isLatin1_aae02 ∈ jTs ∧ Cond.selects yJ0_isLatin1_aae02.cls yJ0_isLatin1_aae02 yJ0_isLatin1_aae02 ∈ jTs := ⟨tw_212, tw_213⟩
theorem my_J0_checkIndex_df160 : jMY yJ0_checkIndex_df160 cJ0_checkIndex_df160 2 none 2 := ⟨tw_220, tw_8, by decide +kernel, by decide +kernel⟩
theorem ms_J0_checkIndex_df160 : Cond.static yJ0_checkIndex_df160 ∈ jTs := tw_219
theorem my_J1_charAt_3b067 : jMY yJ1_charAt_3b067 cJ1_charAt_3b067 2 (some .char) 2 := ⟨tw_217, tw_9, by decide +kernel, by decide +kernel⟩
theorem ms_J1_charAt_3b067 : Cond.static yJ1_charAt_3b067 ∈ jTs := tw_216
theorem my_J2_getChar_3b067 : jMY yJ2_getChar_3b067 cJ2_getChar_3b067 2 (some .char) 2 := ⟨tw_238, tw_11, by decide +kernel, by decide +kernel⟩
theorem ms_J2_getChar_3b067 : Cond.static yJ2_getChar_3b067 ∈ jTs := tw_237
theorem my_J2_length_9d52b : jMY yJ2_length_9d52b cJ2_length_9d52b 1 (some .int) 1 := ⟨tw_234, tw_11, by decide +kernel, by decide +kernel⟩
theorem ms_J2_length_9d52b : Cond.static yJ2_length_9d52b ∈ jTs := tw_233
theorem my_J2_charAt_3b067 : jMY yJ2_charAt_3b067 cJ2_charAt_3b067 2 (some .char) 2 := ⟨tw_228, tw_11, by decide +kernel, by decide +kernel⟩
theorem ms_J2_charAt_3b067 : Cond.static yJ2_charAt_3b067 ∈ jTs := tw_227
theorem my_J2_checkIndex_2214a : jMY yJ2_checkIndex_2214a cJ2_checkIndex_2214a 2 none 2 := ⟨tw_231, tw_11, by decide +kernel, by decide +kernel⟩
theorem ms_J2_checkIndex_2214a : Cond.static yJ2_checkIndex_2214a ∈ jTs := tw_230
theorem my_J7_fill_d0a16 : jMY yJ7_fill_d0a16 cJ7_fill_d0a16 5 none 2 := ⟨tw_491, tw_12, by decide +kernel, by decide +kernel⟩
theorem ms_J7_fill_d0a16 : Cond.static yJ7_fill_d0a16 ∈ jTs := tw_490
theorem my_J7_fill_53178 : jMY yJ7_fill_53178 cJ7_fill_53178 4 none 2 := ⟨tw_259, tw_12, by decide +kernel, by decide +kernel⟩
theorem ms_J7_fill_53178 : Cond.static yJ7_fill_53178 ∈ jTs := tw_258
theorem my_J3_checkIndex_8e157 : jMY yJ3_checkIndex_8e157 cJ3_checkIndex_8e157 3 (some .int) 3 := ⟨tw_225, tw_10, by decide +kernel, by decide +kernel⟩
theorem ms_J3_checkIndex_8e157 : Cond.static yJ3_checkIndex_8e157 ∈ jTs := tw_224
end
section
abbrev ms_J9_min := tw_389
abbrev co_J9_min := tw_390
abbrev ms_J9_max := tw_423
abbrev co_J9_max := tw_424
abbrev in_J9 := tw_15
abbrev mk_obj := tw_23
abbrev co_obj := tw_24
abbrev an_cpy := tw_301
abbrev as_cpy := tw_300
abbrev in_sys := tw_13
abbrev in_L := tw_0
abbrev in_X6 := tw_1
abbrev in_X4 := tw_2
abbrev in_X3 := tw_3
abbrev in_X5 := tw_4
abbrev in_X2 := tw_5
abbrev in_X0 := tw_6
abbrev in_X1 := tw_7
abbrev in_J0 := tw_8
abbrev in_J1 := tw_9
abbrev in_J3 := tw_10
abbrev in_J2 := tw_11
abbrev in_J7 := tw_12
abbrev in_J10 := tw_13
abbrev in_X7 := tw_14
abbrev in_J6 := tw_16
abbrev cl_L_7 := tw_17
abbrev is_X6 := tw_18
abbrev ml_L_9 := tw_19
abbrev ml_X6_3 := tw_22
abbrev cl_X6_9 := tw_25
abbrev is_X4 := tw_26
abbrev ml_X4_3 := tw_30
abbrev ac_char := tw_42
abbrev ac_int := tw_43
abbrev cl_X6_16 := tw_44
abbrev is_X3 := tw_45
abbrev ml_X3_3 := tw_49
abbrev cl_X6_26 := tw_80
abbrev is_X5 := tw_81
abbrev ml_X6_28 := tw_82
abbrev ml_X5_3 := tw_85
abbrev cl_X6_38 := tw_119
abbrev is_X2 := tw_120
abbrev ml_X6_40 := tw_121
abbrev ml_X2_3 := tw_124
abbrev cl_X2_9 := tw_125
abbrev ml_X2_24 := tw_127
abbrev cl_X6_53 := tw_139
abbrev is_X0 := tw_140
abbrev ml_X0_3 := tw_144
abbrev cl_X6_60 := tw_159
abbrev is_X1 := tw_160
abbrev ml_X6_62 := tw_161
abbrev ml_X1_3 := tw_164
abbrev cl_X1_9 := tw_165
abbrev ml_X1_42 := tw_166
abbrev ac_long := tw_195
abbrev ml_X6_69 := tw_197
abbrev ml_J0_335 := tw_201
abbrev ml_X6_75 := tw_207
abbrev ml_J0_492 := tw_211
abbrev ml_J0_495 := tw_215
abbrev ml_J1_9 := tw_218
abbrev ml_J0_1059 := tw_223
abbrev ml_J0_498 := tw_226
abbrev ml_J2_67 := tw_229
abbrev ml_J2_48 := tw_232
abbrev ml_J2_414 := tw_235
abbrev ml_J2_71 := tw_236
abbrev ml_X6_79 := tw_245
abbrev ml_X6_83 := tw_249
abbrev ml_X4_23 := tw_253
abbrev ml_X3_31 := tw_257
abbrev ml_X4_28 := tw_260
abbrev ml_X4_32 := tw_264
abbrev ml_X4_36 := tw_268
abbrev ml_X4_48 := tw_272
abbrev ml_X4_40 := tw_276
abbrev ml_X4_44 := tw_280
abbrev ml_X3_37 := tw_284
abbrev ml_X3_41 := tw_291
abbrev ml_X6_87 := tw_295
abbrev ml_X5_41 := tw_299
abbrev ml_X5_48 := tw_302
abbrev ac_byte := tw_334
abbrev ml_L_13 := tw_335
abbrev ml_L_18 := tw_339
abbrev ml_L_23 := tw_343
abbrev ml_L_27 := tw_347
abbrev ml_L_31 := tw_351
abbrev ml_X6_99 := tw_355
abbrev ml_X6_142 := tw_359
abbrev ml_X6_114 := tw_360
abbrev ml_L_36 := tw_364
abbrev ml_X6_126 := tw_368
abbrev ml_X6_130 := tw_372
abbrev ml_L_40 := tw_376
abbrev ml_X6_134 := tw_380
abbrev ml_X2_27 := tw_384
abbrev ml_X2_31 := tw_388
abbrev ml_X6_138 := tw_391
abbrev ml_X5_65 := tw_395
abbrev ml_L_44 := tw_396
abbrev ml_X6_146 := tw_400
abbrev ml_X5_73 := tw_404
abbrev ml_X5_77 := tw_408
abbrev ml_X5_81 := tw_412
abbrev ml_X5_88 := tw_416
abbrev ml_X5_92 := tw_420
abbrev ml_X5_61 := tw_421
abbrev ml_X5_85 := tw_422
abbrev ml_L_48 := tw_425
abbrev ml_X6_149 := tw_429
abbrev ml_L_52 := tw_433
abbrev ml_X6_155 := tw_437
abbrev ml_L_57 := tw_441
abbrev ml_L_61 := tw_445
abbrev ml_X6_162 := tw_449
abbrev ml_L_65 := tw_453
abbrev ml_X6_166 := tw_457
abbrev ml_L_69 := tw_461
abbrev ml_X6_170 := tw_465
abbrev ml_X6_173 := tw_466
abbrev ml_X6_176 := tw_467
abbrev ml_L_73 := tw_468
abbrev ml_X6_179 := tw_472
abbrev ml_X6_233 := tw_476
abbrev ml_X6_224 := tw_477
abbrev ml_L_77 := tw_481
abbrev ml_X6_182 := tw_485
abbrev ml_X1_45 := tw_489
abbrev ml_X1_51 := tw_492
abbrev ml_X1_55 := tw_493
abbrev ml_X1_59 := tw_497
abbrev ml_X1_68 := tw_498
abbrev ml_X1_91 := tw_502
abbrev ml_X1_71 := tw_503
abbrev ml_X1_75 := tw_507
abbrev ct_X1_103 := tw_511
abbrev ml_X1_79 := tw_512
abbrev ml_X1_83 := tw_513
abbrev ml_X1_87 := tw_514
abbrev ml_L_81 := tw_515
abbrev ml_X6_192 := tw_519
abbrev ml_X6_195 := tw_523
abbrev ct_J6_265 := tw_526
abbrev ct_J6_266 := tw_527
abbrev ct_J6_267 := tw_528
abbrev ml_X6_200 := tw_529
abbrev ml_L_85 := tw_533
abbrev ml_L_89 := tw_537
abbrev ml_X6_203 := tw_541
abbrev ml_X6_207 := tw_545
abbrev ml_L_93 := tw_549
abbrev ml_L_97 := tw_553
abbrev ml_X6_209 := tw_557
abbrev ml_X0_25 := tw_561
abbrev ml_L_101 := tw_562
abbrev ml_X6_212 := tw_566
abbrev ml_X6_216 := tw_569
abbrev ml_L_106 := tw_572
abbrev ml_X6_220 := tw_576
abbrev ct_X6_236 := tw_580
abbrev ct_X6_238 := tw_581
abbrev ct_X6_240 := tw_582
abbrev ml_X6_227 := tw_583
abbrev ml_L_110 := tw_587
abbrev ml_L_114 := tw_591
abbrev ml_L_118 := tw_595
abbrev ml_X6_230 := tw_599
abbrev cl_L_10 := tw_603
abbrev is_X7 := tw_604
abbrev ml_L_12 := tw_605
abbrev ml_X7_1 := tw_608
abbrev ml_X7_55 := tw_609
abbrev ml_X7_58 := tw_613
abbrev ml_X7_66 := tw_617
abbrev ml_L_17 := tw_697
abbrev ct_X7_88 := tw_701
abbrev ct_X7_90 := tw_702
abbrev ml_X7_72 := tw_703
abbrev ml_L_22 := tw_706
abbrev ml_L_26 := tw_710
abbrev ml_X7_126 := tw_714
abbrev ml_X7_123 := tw_718
abbrev ml_X7_101 := tw_722
abbrev ml_X7_113 := tw_726
abbrev ml_X7_109 := tw_730
abbrev ct_X7_105 := tw_734
abbrev ct_X7_107 := tw_735
abbrev ml_X7_117 := tw_736
abbrev ml_X7_120 := tw_740
abbrev ml_L_30 := tw_744
abbrev ml_L_35 := tw_748
abbrev ml_X7_130 := tw_752
abbrev ct_X7_134 := tw_756
abbrev ct_X7_136 := tw_757
abbrev ml_L_39 := tw_758
abbrev ml_L_43 := tw_762
abbrev ml_X7_138 := tw_766
abbrev ml_X7_157 := tw_770
abbrev ml_X7_153 := tw_774
abbrev ml_X7_160 := tw_778
abbrev ml_L_47 := tw_782
abbrev ct_X7_163 := tw_786
abbrev ml_X7_165 := tw_787
abbrev ml_X7_146 := tw_791
abbrev ml_X7_149 := tw_795
abbrev ml_X7_142 := tw_799
abbrev ml_L_51 := tw_803
abbrev ct_X7_169 := tw_807
abbrev ml_X7_171 := tw_808
abbrev ml_L_56 := tw_812
abbrev ct_X7_175 := tw_816
abbrev ml_L_60 := tw_817
abbrev ct_X7_177 := tw_821
abbrev ml_L_64 := tw_822
abbrev ml_L_68 := tw_826
abbrev ml_X7_179 := tw_830
abbrev ml_L_72 := tw_834
abbrev ml_X7_183 := tw_838
abbrev ml_L_76 := tw_842
abbrev ml_X7_186 := tw_846
abbrev ml_X7_189 := tw_850
abbrev ml_L_80 := tw_853
abbrev ct_X7_196 := tw_857
abbrev ml_X7_198 := tw_858
abbrev ct_X7_192 := tw_862
abbrev ml_L_84 := tw_863
abbrev ml_X7_201 := tw_867
abbrev ml_L_88 := tw_870
abbrev ml_L_92 := tw_874
abbrev ml_L_96 := tw_878
abbrev ml_L_100 := tw_882
abbrev ml_X7_204 := tw_886
abbrev ml_L_105 := tw_890
abbrev ct_X7_207 := tw_894
abbrev ml_L_109 := tw_895
abbrev ct_X7_209 := tw_899
abbrev ct_X7_211 := tw_900
abbrev ct_X7_213 := tw_901
abbrev ct_X7_215 := tw_902
abbrev ct_X7_217 := tw_903
abbrev ml_X7_219 := tw_904
abbrev ml_L_113 := tw_908
abbrev ml_L_117 := tw_912
abbrev ml_L_121 := tw_916
abbrev ml_X7_222 := tw_920
end
section
/-! THE ABSTRACT HEAP: how many cells, their kinds (an object of a class by its number, or an array by type and length), references, ints, longs -/
abbrev jK : Type := Nat ⊕ (FieldType × Nat)
abbrev jH : Type := Nat × (Nat → jK) × (Nat → Nat → Option Nat) × (Nat → Nat → Int32) × (Nat → Nat → Int64)
/-- the ground: the heap at the law's entry; class ids and slots; the script (cell, length, values); the text constant's cell; what else is known -/
abbrev jG : Type := Heap × (Nat → ClassId) × (Nat → Nat → Nat) × (Nat × Nat × (Nat → Int32)) × Nat × (State → Prop)
abbrev jB (G : jG) : Nat := G.1.size
abbrev jD (G : jG) : va_G := (G.2.1, G.2.2.1)
abbrev jsc (G : jG) : Nat := G.2.2.2.1.1
abbrev jsL (G : jG) : Nat := G.2.2.2.1.2.1
abbrev jsx (G : jG) : Nat → Int32 := G.2.2.2.1.2.2
abbrev jaS (G : jG) : Nat := G.2.2.2.2.1
abbrev jE (G : jG) : State → Prop := G.2.2.2.2.2
/-- an abstract value's own: cells count from the ground on; .float 0 is the script, any other float the text constant -/
def jtr (G : jG) : Value → Value
  | .ref k => .ref (jB G + k)
  | .float u => .ref (if u = 0 then jsc G else jaS G)
  | v => v
theorem jtr_cat (G : jG) (v : Value) : (jtr G v).category = v.category := by cases v <;> rfl
/-- which fields of a class are references -/
def jrfl : List (List Bool) := [[true, true, true, false], [true, true, true, true, true, true, false, false], [true, false, false], [false, false, true, true, true, true], [true, true, false], [true, true, true, true, true, true, false, false], [true, true, true, true, true, true, true, false, true, true], [true, false, false, false, true, true, true, false, true, true, true, true, false, false, false, false, true, true, false, true, true, true, true, true, false]]
def jrf (ci j : Nat) : Bool := (jrfl.getD ci []).getD j false
def jfv (G : jG) (ci : Nat) (r : Nat → Option Nat) (mu : Nat → Int32) (j : Nat) : Value := if jrf ci j = true then va_rf ((r j).map (fun x => jB G + x)) else .int (mu j)
def jav (G : jG) (ty : FieldType) (r : Nat → Option Nat) (mu : Nat → Int32) (nu : Nat → Int64) (j : Nat) : Value := match ty with
  | .long => .long (nu j)
  | .object _ => va_rf ((r j).map (fun x => jB G + x))
  | _ => .int (mu j)
/-- a cell of the world -/
def jcell (G : jG) (U : State) (k : Nat) (kd : jK) (r : Nat → Option Nat) (mu : Nat → Int32) (nu : Nat → Int64) (H : Heap) : Prop := match kd with
  | .inl ci => ∃ q : vw_C, vwCl[ci]? = some q ∧ t_OB (jB G + k) (G.2.1 ci) q.2.2 (G.2.2.1 ci) H (jfv G ci r mu)
  | .inr (ty, n) => ∃ cA : ClassId, ArrOfT U cA ty ∧ va_RA U cA ty ∧ H[jB G + k]? = some (arrV cA n (jav G ty r mu nu))
/-- the world: what the heap holds -/
def jWD (G : jG) (U : State) (h : jH) (H : Heap) : Prop :=
  H.size = jB G + h.1 ∧ (∀ q, q < jB G → H[q]? = G.1[q]?) ∧ ∀ k, k < h.1 → jcell G U k (h.2.1 k) (h.2.2.1 k) (h.2.2.2.1 k) (h.2.2.2.2 k) H
theorem jcell.moved {G : jG} {u U : State} (hvm : u.vm.Alike U.vm) {k : Nat} {kd : jK} {r : Nat → Option Nat} {mu : Nat → Int32} {nu : Nat → Int64} {H : Heap} (h : jcell G u k kd r mu nu H) : jcell G U k kd r mu nu H := by
  cases kd with
  | inl ci => exact h
  | inr q =>
    obtain ⟨cA, h1, h2, h3⟩ := h
    exact ⟨cA, arrOfT_moved hvm h1, h2.moved hvm, h3⟩
theorem jcell.kept {G : jG} {U : State} {k : Nat} {kd : jK} {r : Nat → Option Nat} {mu : Nat → Int32} {nu : Nat → Int64} {H H1 : Heap} (h : jcell G U k kd r mu nu H) (hq : H1[jB G + k]? = H[jB G + k]?) : jcell G U k kd r mu nu H1 := by
  cases kd with
  | inl ci =>
    obtain ⟨q, h1, h2⟩ := h
    exact ⟨q, h1, h2.kept hq⟩
  | inr q =>
    obtain ⟨cA, h1, h2, h3⟩ := h
    exact ⟨cA, h1, h2, by rw [hq]; exact h3⟩
theorem jWD.moved {G : jG} {u U : State} (hvm : u.vm.Alike U.vm) {h : jH} {H : Heap} (w : jWD G u h H) : jWD G U h H := ⟨w.1, w.2.1, fun k hk => (w.2.2 k hk).moved hvm⟩
/-- one cell is written -/
theorem jWD.write {G : jG} {U : State} {h h' : jH} {H H' : Heap} {a : Nat} (w : jWD G U h H) (hz : H'.size = H.size) (ho : ∀ q, q ≠ jB G + a → H'[q]? = H[q]?) (hn : h'.1 = h.1)
    (hk : ∀ k, k ≠ a → h'.2.1 k = h.2.1 k ∧ h'.2.2.1 k = h.2.2.1 k ∧ h'.2.2.2.1 k = h.2.2.2.1 k ∧ h'.2.2.2.2 k = h.2.2.2.2 k) (hc : jcell G U a (h'.2.1 a) (h'.2.2.1 a) (h'.2.2.2.1 a) (h'.2.2.2.2 a) H') : jWD G U h' H' := by
  refine ⟨by rw [hz, hn]; exact w.1, fun q hq => by rw [ho q (by omega)]; exact w.2.1 q hq, fun k hkn => ?_⟩
  by_cases e : k = a
  · subst e; exact hc
  · obtain ⟨e1, e2, e3, e4⟩ := hk k e
    rw [e1, e2, e3, e4]
    exact (w.2.2 k (by rw [← hn]; exact hkn)).kept (ho _ (by omega))
/-- one cell is made -/
theorem jWD.push {G : jG} {U : State} {h h' : jH} {H H' : Heap} (w : jWD G U h H) (hz : H'.size = H.size + 1) (ho : ∀ q, q < H.size → H'[q]? = H[q]?) (hn : h'.1 = h.1 + 1)
    (hk : ∀ k, k < h.1 → h'.2.1 k = h.2.1 k ∧ h'.2.2.1 k = h.2.2.1 k ∧ h'.2.2.2.1 k = h.2.2.2.1 k ∧ h'.2.2.2.2 k = h.2.2.2.2 k) (hc : jcell G U h.1 (h'.2.1 h.1) (h'.2.2.1 h.1) (h'.2.2.2.1 h.1) (h'.2.2.2.2 h.1) H') : jWD G U h' H' := by
  have w1 := w.1
  refine ⟨by rw [hz, hn, w1]; omega, fun q hq => by rw [ho q (by omega)]; exact w.2.1 q hq, fun k hkn => ?_⟩
  by_cases e : k = h.1
  · subst e; exact hc
  · have hlt : k < h.1 := by omega
    obtain ⟨e1, e2, e3, e4⟩ := hk k hlt
    rw [e1, e2, e3, e4]
    exact (w.2.2 k hlt).kept (ho _ (by omega))
/-- updates -/
def jup {α : Type} (f : Nat → Nat → α) (a j : Nat) (v : α) : Nat → Nat → α := fun a' => if a' = a then (fun j' => if j' = j then v else f a j') else f a'
/-- a whole row is laid -/
def jrow {α : Type} (f : Nat → Nat → α) (a : Nat) (g : Nat → α) : Nat → Nat → α := fun a' => if a' = a then g else f a'
theorem jup_ne {α : Type} {f : Nat → Nat → α} {a j k : Nat} {v : α} (h : k ≠ a) : jup f a j v k = f k := if_neg h
theorem jrow_ne {α : Type} {f : Nat → Nat → α} {a k : Nat} {g : Nat → α} (h : k ≠ a) : jrow f a g k = f k := if_neg h
theorem jrow_eq {α : Type} (f : Nat → Nat → α) (a : Nat) (g : Nat → α) : jrow f a g a = g := if_pos rfl
theorem jup_eq {α : Type} (f : Nat → Nat → α) (a j : Nat) (v : α) : jup f a j v a = fun j' => if j' = j then v else f a j' := if_pos rfl
/-! the locals -/
def jLH (G : jG) (ls : Array Slot) (nL : Nat) (lo : List (Option Value)) : Prop := lo.length ≤ nL ∧ ls.size = nL ∧ lv_wf ls ∧ ∀ (i : Nat) (v : Value), lo[i]? = some (some v) → ls[i]? = some (.val (jtr G v))
def jlist (G : jG) : Nat → List (Option Value) → List (Nat × Value)
  | _, [] => []
  | i, none :: r => jlist G (i + 1) r
  | i, some v :: r => (i, jtr G v) :: jlist G (i + 1) r
theorem jlist_mem {G : jG} : ∀ (lo : List (Option Value)) (i : Nat) (q : Nat × Value), q ∈ jlist G i lo ↔ ∃ (j : Nat) (v : Value), lo[j]? = some (some v) ∧ q = (i + j, jtr G v)
  | [], i, q => by simp [jlist]
  | none :: r, i, q => by
    rw [jlist, jlist_mem r (i + 1) q]
    constructor
    · rintro ⟨j, v, h1, h2⟩
      exact ⟨j + 1, v, by simpa using h1, by rw [h2]; congr 1; omega⟩
    · rintro ⟨j, v, h1, h2⟩
      cases j with
      | zero => simp at h1
      | succ j => exact ⟨j, v, by simpa using h1, by rw [h2]; congr 1; omega⟩
  | some w :: r, i, q => by
    rw [jlist, List.mem_cons, jlist_mem r (i + 1) q]
    constructor
    · rintro (h | ⟨j, v, h1, h2⟩)
      · exact ⟨0, w, by simp, by rw [h]; simp⟩
      · exact ⟨j + 1, v, by simpa using h1, by rw [h2]; congr 1; omega⟩
    · rintro ⟨j, v, h1, h2⟩
      cases j with
      | zero => left; simp at h1; rw [h2, ← h1]; simp
      | succ j => right; exact ⟨j, v, by simpa using h1, by rw [h2]; congr 1; omega⟩
theorem jLH.has {G : jG} {ls : Array Slot} {nL : Nat} {lo : List (Option Value)} (h : jLH G ls nL lo) : lv_has ls nL (jlist G 0 lo) := by
  refine ⟨h.2.1, h.2.2.1, fun q hq => ?_⟩
  obtain ⟨j, v, h1, h2⟩ := (jlist_mem lo 0 q).mp hq
  rw [h2]
  simpa using h.2.2.2 j v h1
/-- what a store of one slot leaves -/
def jput1 (lo lo' : List (Option Value)) (i : Nat) (v : Value) : Prop := lo'.length = lo.length ∧ ∀ (j : Nat) (w : Value), lo'[j]? = some (some w) → (j = i ∧ w = v) ∨ (j ≠ i ∧ lo[j]? = some (some w) ∧ ¬ (j + 1 = i ∧ w.category = 2))
theorem jLH.put1 {G : jG} {ls' : Array Slot} {nL i : Nat} {lo lo' : List (Option Value)} {v : Value} (hn : lo.length ≤ nL) (hp : jput1 lo lo' i v) (h : lv_has ls' nL ((i, jtr G v) :: (jlist G 0 lo).filter (fun q => !(q.1 == i) && !(q.1 + 1 == i && q.2.category == 2)))) : jLH G ls' nL lo' := by
  refine ⟨by rw [hp.1]; exact hn, h.1, h.2.1, fun j w hj => ?_⟩
  rcases hp.2 j w hj with ⟨e1, e2⟩ | ⟨e1, e2, e3⟩
  · subst e1; subst e2
    exact h.2.2 _ List.mem_cons_self
  · refine h.2.2 (j, jtr G w) (List.mem_cons_of_mem _ (List.mem_filter.mpr ⟨(jlist_mem lo 0 _).mpr ⟨j, w, e2, by simp⟩, ?_⟩))
    simp only [jtr_cat, Bool.and_eq_true, Bool.not_eq_true', Bool.and_eq_false_iff, beq_eq_false_iff_ne, ne_eq]
    refine ⟨e1, ?_⟩
    by_cases c : j + 1 = i
    · right; exact fun z => e3 ⟨c, z⟩
    · left; exact c
/-- what a store of two slots leaves -/
def jput2 (lo lo' : List (Option Value)) (i : Nat) (v : Value) : Prop := lo'.length = lo.length ∧ ∀ (j : Nat) (w : Value), lo'[j]? = some (some w) → (j = i ∧ w = v) ∨ (j ≠ i ∧ j ≠ i + 1 ∧ lo[j]? = some (some w) ∧ ¬ (j + 1 = i ∧ w.category = 2))
theorem jLH.put2 {G : jG} {ls' : Array Slot} {nL i : Nat} {lo lo' : List (Option Value)} {v : Value} (hn : lo.length ≤ nL) (hp : jput2 lo lo' i v) (h : lv_has ls' nL ((i, jtr G v) :: (jlist G 0 lo).filter (fun q => !(q.1 == i) && (!(q.1 == i + 1) && !(q.1 + 1 == i && q.2.category == 2))))) : jLH G ls' nL lo' := by
  refine ⟨by rw [hp.1]; exact hn, h.1, h.2.1, fun j w hj => ?_⟩
  rcases hp.2 j w hj with ⟨e1, e2⟩ | ⟨e1, e1', e2, e3⟩
  · subst e1; subst e2
    exact h.2.2 _ List.mem_cons_self
  · refine h.2.2 (j, jtr G w) (List.mem_cons_of_mem _ (List.mem_filter.mpr ⟨(jlist_mem lo 0 _).mpr ⟨j, w, e2, by simp⟩, ?_⟩))
    simp only [jtr_cat, Bool.and_eq_true, Bool.not_eq_true', Bool.and_eq_false_iff, beq_eq_false_iff_ne, ne_eq]
    refine ⟨e1, e1', ?_⟩
    by_cases c : j + 1 = i
    · right; exact fun z => e3 ⟨c, z⟩
    · left; exact c
/-- the locals at a method's entry -/
def jargs : List Value → List (Option Value)
  | [] => []
  | v :: vs => if v.category = 2 then some v :: none :: jargs vs else some v :: jargs vs
theorem jargs_mem (G : jG) : ∀ (vs : List Value) (i j : Nat) (v : Value), (jargs vs)[j]? = some (some v) → (i + j, jtr G v) ∈ lv_args i (vs.map (jtr G))
  | [], i, j, v, h => by simp [jargs] at h
  | w :: vs, i, j, v, h => by
    rw [jargs] at h
    rw [List.map_cons, lv_args, jtr_cat]
    by_cases c : w.category = 2
    · rw [if_pos c] at h ⊢
      match j, h with
      | 0, h =>
        simp at h
        rw [← h]
        exact List.mem_cons_self
      | 1, h => simp at h
      | j + 2, h =>
        have := jargs_mem G vs (i + 2) j v (by simpa using h)
        rw [show i + (j + 2) = i + 2 + j by omega]
        exact List.mem_cons_of_mem _ this
    · rw [if_neg c] at h ⊢
      match j, h with
      | 0, h =>
        simp at h
        rw [← h]
        exact List.mem_cons_self
      | j + 1, h =>
        have := jargs_mem G vs (i + 1) j v (by simpa using h)
        rw [show i + (j + 1) = i + 1 + j by omega]
        exact List.mem_cons_of_mem _ this
theorem jargs_len (G : jG) : ∀ (vs : List Value), (lg_sl (vs.map (jtr G))).length = (jargs vs).length
  | [] => rfl
  | w :: vs => by
    have ih := jargs_len G vs
    rw [jargs, List.map_cons]
    unfold lg_sl at ih ⊢
    rw [List.flatMap_cons, List.length_append, ih, jtr_cat]
    by_cases c : w.category = 2
    · rw [if_pos c, if_pos c]; simp; omega
    · rw [if_neg c, if_neg c]; simp; omega
end
section
/-! THE JUDGEMENT -/
/-- what is known of the machine's tables at a state -/
def jS (G : jG) (U : State) : Prop :=
  va_K (jD G) vwCl [] U ∧ va_X (jsc G) (jsL G) (jsx G) U G.1 ∧ jsc G < jB G ∧ va_AO RX5 U ∧
  (va_Nw (.methodLinkNest RX6 11 yX4_init RX6) U ∧ va_Nw (.methodLinkNest RX6 18 yX3_init RX6) U ∧ va_Nw (.methodLinkNest RX6 55 yX0_init RX6) U ∧ va_Nw (.methodLinkNest RX3 44 yX6_isOutside RX6) U) ∧
  (∀ (s U' : State), s.WarmedH U'.vm → jE G s → jE G U') ∧ jE G U
theorem jS.moved {G : jG} {s U : State} (hW : s.WarmedH U.vm) (h : jS G s) : jS G U := by
  obtain ⟨h1, h2, h3, h4, ⟨n1, n2, n3, n4⟩, h6, h7⟩ := h
  exact ⟨va_K.moved hW.alike h1, h2.moved hW.alike, h3, h4.moved hW.alike, ⟨va_Nw.warmM hW n1, va_Nw.warmM hW n2, va_Nw.warmM hW n3, va_Nw.warmM hW n4⟩, h6, h6 s U hW h7⟩
/-- a method's start and end -/
def jPc (G : jG) (av : List Value) (h : jH) : Array Value → State → Prop := fun v U => v = (av.map (jtr G)).toArray ∧ jWD G U h U.heap ∧ jS G U
def jQc (G : jG) (v : Option Value) (h' : jH) : Array Value → State → Outcome → State → Prop := fun _ _ oc t => oc = .returned (v.map (jtr G)) ∧ jWD G t h' t.heap
theorem jPc_blind (G : jG) (av : List Value) (h : jH) : FrameBlind (jPc G av h) := by
  intro a U g mk q
  obtain ⟨q1, q2, q3⟩ := q
  exact ⟨q1, jWD.moved (u := U) (U := U.calling g mk a) (Vm.Alike.refl U.vm) q2, jS.moved (s := U) (U := U.calling g mk a) (State.WarmedH.refl U) q3⟩
/-- A METHOD, called at a heap with arguments: it returns, with that answer and that heap -/
def MT (G : jG) (y : MethodName) (cc : ByteArray) (nL : Nat) (ret : Option FieldType) (d mc ms : Nat) (av : List Value) (h : jH) (v : Option Value) (h' : jH) : Prop :=
  ∀ l : Launch, Met l y (Cond.code y cc nL ret :: jTs) ({ frames := d, cells := mc, slots := ms, locals := 64 * d }) (jPc G av h) (jQc G v h') mc ms (fun q => jB G ≤ q)
def jRet (cc : ByteArray) (pc : Nat) (v : Option Value) : Prop := match v with
  | none => decode cc pc = .ok (.return_, 1)
  | some (.int _) => decode cc pc = .ok (.ireturn, 1)
  | some (.long _) => decode cc pc = .ok (.lreturn, 1)
  | _ => False
/-- what holds in a method's activation -/
def jM (G : jG) (own : String) (cc : ByteArray) (nL : Nat) (ini : Bool) (d : Nat) (p : Program) (R : Room) (s : State) (m : MethodId) (args : Array Value) (meth : Method) (c : Code) : Prop :=
  p.tables.exec = Jvm.exec ∧ c.code = cc ∧ c.maxLocals = nL ∧ s.vm.findClass own = some m.cls ∧ (∀ w ∈ jTs, w.before args s = true) ∧ jS G s ∧ d ≤ R.frames ∧ 64 * d ≤ R.locals ∧ (ini = true → meth.name = "<init>")
def J (G : jG) (own : String) (cc : ByteArray) (nL : Nat) (ini : Bool) (d : Nat) (Q : Option Value → jH → Prop) (ac sc : Nat) (h : jH) (pc : Nat) (lo : List (Option Value)) (st : List Value) : Prop :=
  ∀ (p : Program) (l : Launch) (e : Env) (R : Room) (s : State) (m : MethodId) (args : Array Value) (below : List Frame) (meth : Method) (c : Code) (Z : State → Prop), jM G own cc nL ini d p R s m args meth c →
    (∀ (v : Option Value) (h' : jH) (H' : Heap) (locs' : List Loc) (cells' slots' pc' : Nat) (ls' : Array Slot), Q v h' → jRet cc pc' v → jWD G s h' H' → (∀ q ∈ locs', jB G ≤ q.base) → cells' ≤ R.cells → slots' ≤ R.slots → W p l e R s m args below meth c H' locs' cells' slots' Z (F0 m pc' ls' (v.map (jtr G)).toList)) →
    ∀ (H : Heap) (locs : List Loc) (cells slots : Nat) (ls : Array Slot), jWD G s h H → (∀ q ∈ locs, jB G ≤ q.base) → cells + ac ≤ R.cells → slots + sc ≤ R.slots → jLH G ls nL lo → W p l e R s m args below meth c H locs cells slots Z (F0 m pc ls (st.map (jtr G)))
/-- which answers a return type takes -/
def jRv (ret : Option FieldType) (v : Option Value) : Prop := (ret = none ∧ v = none) ∨ (ret = some .long ∧ ∃ x, v = some (.long x)) ∨ ∃ (ty : FieldType) (x : Int32), ret = some ty ∧ v = some (.int x) ∧ narrow ty (.int x) = .int x
theorem jRv_v : jRv none none := Or.inl ⟨rfl, rfl⟩
theorem jRv_l (x : Int64) : jRv (some .long) (some (.long x)) := Or.inr (Or.inl ⟨rfl, x, rfl⟩)
theorem jRv_i (x : Int32) : jRv (some .int) (some (.int x)) := Or.inr (Or.inr ⟨.int, x, rfl, rfl, rfl⟩)
theorem jRv_z {x : Int32} (h : x = 0 ∨ x = 1) : jRv (some .boolean) (some (.int x)) := Or.inr (Or.inr ⟨.boolean, x, rfl, rfl, by rcases h with rfl | rfl <;> decide⟩)
theorem jRv_b (b : Bool) : jRv (some .boolean) (some (.int (if b then 1 else 0))) := jRv_z (by cases b <;> simp)
theorem jMT {G : jG} {y : MethodName} {cc : ByteArray} {nL : Nat} {ret : Option FieldType} {n d mc ms : Nat} {ini : Bool} {av : List Value} {h h' : jH} {v : Option Value} (hy : jMY y cc nL ret n) (hini : ini = true → y.name = "<init>") (hr : jRv ret v) (hn : (jargs av).length ≤ nL)
    (hJ : J G y.cls cc nL ini d (fun v' h'' => v' = v ∧ h'' = h') mc ms h 0 (jargs av ++ List.replicate (nL - (jargs av).length) none) []) : MT G y cc nL ret d mc ms av h v h' := by
  intro l
  refine Met.ofW (cc := cc) (maxL := nL) (ret := ret) hy.2.2.2 rfl ?_
  intro p e s m args below meth c s₁ B hml hv
  obtain ⟨rfl, hWD, hS⟩ := hv
  have hts := atoms_spec (ws := Cond.code y cc nL ret :: jTs) B.pre
  have hown : s.vm.findClass y.cls = some m.cls := findClass_of_methodNamed B.named
  have hlocks := B.notSynchronized
  have hret := B.returns
  have hE := lv_entry (av.map (jtr G)) (n := nL) (by rw [jargs_len]; exact hn)
  rw [lg_entry_eq]
  refine hJ p l e _ s m _ below meth c _ ⟨B.exec, B.bytes, hml, hown, fun w hw => hts w (List.mem_cons_of_mem _ hw), hS, Nat.le_refl _, Nat.le_refl _, fun hi => by rw [(name_of_methodNamed B.named B.method).1]; exact hini hi⟩ ?_ s.heap [] 0 0 _ hWD (fun _ h => absurd h List.not_mem_nil) (by simp [headSpec]) (by simp [headSpec]) ?_
  · intro v' h'' H' locs' cells' slots' pc' ls' hQ hd hW' hl' hc' hs'
    obtain ⟨rfl, rfl⟩ := hQ
    refine W.widen (k := mc) (n := ms) hc' hs' ?_
    have hq : ∀ t : State, t.heap = H' → s.WarmedH t.vm → jQc G v' h'' (List.map (jtr G) av).toArray s (.returned (v'.map (jtr G))) t := fun t ht hw => ⟨rfl, by rw [ht]; exact hW'.moved hw.alike⟩
    rcases hr with ⟨rfl, rfl⟩ | ⟨rfl, x, rfl⟩ | ⟨ty, x, rfl, rfl, hr'⟩
    · exact W.vret B.exec B.bytes hret hq hl' hd
    · exact W.lret B.exec B.bytes hret hq hl' hd
    · exact W.zret B.exec B.bytes hret hr' hq hl' hd
  · refine ⟨by simp; omega, hE.1, hE.2.1, fun i w hi => ?_⟩
    by_cases hlt : i < (jargs av).length
    · rw [List.getElem?_append_left hlt] at hi
      have := hE.2.2 _ (jargs_mem G av 0 i w hi)
      simpa using this
    · rw [List.getElem?_append_right (by omega)] at hi
      have := List.eq_of_mem_replicate (List.mem_of_getElem? hi)
      cases this
section JR
variable {G : jG} {own : String} {cc : ByteArray} {nL : Nat} {ini : Bool} {d : Nat} {Q : Option Value → jH → Prop} {ac sc : Nat} {h : jH} {pc : Nat} {lo : List (Option Value)} {st : List Value}
/-- a step that touches neither heap nor locals -/
theorem J.go {pc' : Nat} {st' : List Value} (r : ∀ (p : Program) (l : Launch) (e : Env) (R : Room) (s : State) (m : MethodId) (args : Array Value) (below : List Frame) (meth : Method) (c : Code) (Z : State → Prop) (H : Heap) (locs : List Loc) (cells slots : Nat) (ls : Array Slot), jM G own cc nL ini d p R s m args meth c → W p l e R s m args below meth c H locs cells slots Z (F0 m pc' ls (st'.map (jtr G))) → W p l e R s m args below meth c H locs cells slots Z (F0 m pc ls (st.map (jtr G))))
    (k : J G own cc nL ini d Q ac sc h pc' lo st') : J G own cc nL ini d Q ac sc h pc lo st := by
  intro p l e R s m args below meth c Z hM hK H locs cells slots ls hW hL hc hs hl
  exact r p l e R s m args below meth c Z H locs cells slots ls hM (k p l e R s m args below meth c Z hM hK H locs cells slots ls hW hL hc hs hl)
theorem j_iret {v : Int32} (hd : decode cc pc = .ok (.ireturn, 1)) (hq : Q (some (.int v)) h) : J G own cc nL ini d Q ac sc h pc lo [.int v] := by
  intro p l e R s m args below meth c Z hM hK H locs cells slots ls hW hL hc hs hl
  exact hK (some (.int v)) h H locs cells slots pc ls hq hd hW hL (by omega) (by omega)
theorem j_lret {v : Int64} (hd : decode cc pc = .ok (.lreturn, 1)) (hq : Q (some (.long v)) h) : J G own cc nL ini d Q ac sc h pc lo [.long v] := by
  intro p l e R s m args below meth c Z hM hK H locs cells slots ls hW hL hc hs hl
  exact hK (some (.long v)) h H locs cells slots pc ls hq hd hW hL (by omega) (by omega)
theorem j_vret (hd : decode cc pc = .ok (.return_, 1)) (hq : Q none h) : J G own cc nL ini d Q ac sc h pc lo [] := by
  intro p l e R s m args below meth c Z hM hK H locs cells slots ls hW hL hc hs hl
  exact hK none h H locs cells slots pc ls hq hd hW hL (by omega) (by omega)
/-! constants -/
theorem j_iconst {n : Int} {v : Int32} (hd : decode cc pc = .ok (.iconst n, 1)) (hv : Int32.ofInt n = v) (k : J G own cc nL ini d Q ac sc h (pc + 1) lo (.int v :: st)) : J G own cc nL ini d Q ac sc h pc lo st := J.go (fun p l e R s m args below meth c Z H locs cells slots ls hM w => lv_iconst hM.1 hM.2.1 hd hv w) k
theorem j_bipush {n : Int} {v : Int32} (hd : decode cc pc = .ok (.bipush n, 2)) (hv : (Int8.ofInt n).toInt32 = v) (k : J G own cc nL ini d Q ac sc h (pc + 2) lo (.int v :: st)) : J G own cc nL ini d Q ac sc h pc lo st := J.go (fun p l e R s m args below meth c Z H locs cells slots ls hM w => lv_bipush hM.1 hM.2.1 hd hv w) k
theorem j_sipush {n : Int} {v : Int32} (hd : decode cc pc = .ok (.sipush n, 3)) (hv : (Int16.ofInt n).toInt32 = v) (k : J G own cc nL ini d Q ac sc h (pc + 3) lo (.int v :: st)) : J G own cc nL ini d Q ac sc h pc lo st := J.go (fun p l e R s m args below meth c Z H locs cells slots ls hM w => lv_sipush hM.1 hM.2.1 hd hv w) k
theorem j_lconst {n : Fin 2} {v : Int64} (hd : decode cc pc = .ok (.lconst n, 1)) (hv : Int64.ofNat (n : Nat) = v) (k : J G own cc nL ini d Q ac sc h (pc + 1) lo (.long v :: st)) : J G own cc nL ini d Q ac sc h pc lo st := J.go (fun p l e R s m args below meth c Z H locs cells slots ls hM w => lv_lconst hM.1 hM.2.1 hd hv w) k
theorem j_ldc {index : Nat} {v : Int32} (hd : decode cc pc = .ok (.ldc index, 2)) (hw : Cond.constant own index v ∈ jTs) (k : J G own cc nL ini d Q ac sc h (pc + 2) lo (.int v :: st)) : J G own cc nL ini d Q ac sc h pc lo st := J.go (fun p l e R s m args below meth c Z H locs cells slots ls hM w => lv_ldc hM.1 hM.2.1 hM.2.2.2.1 (hM.2.2.2.2.1 _ hw) hd w) k
theorem j_ldcw {index : Nat} {v : Int32} (hd : decode cc pc = .ok (.ldc_w index, 3)) (hw : Cond.constant own index v ∈ jTs) (k : J G own cc nL ini d Q ac sc h (pc + 3) lo (.int v :: st)) : J G own cc nL ini d Q ac sc h pc lo st := J.go (fun p l e R s m args below meth c Z H locs cells slots ls hM w => lv_ldcw hM.1 hM.2.1 hM.2.2.2.1 (hM.2.2.2.2.1 _ hw) hd w) k
theorem j_ldc2 {index : Nat} {v : Int64} (hd : decode cc pc = .ok (.ldc2_w index, 3)) (hw : Cond.constantLong own index v ∈ jTs) (k : J G own cc nL ini d Q ac sc h (pc + 3) lo (.long v :: st)) : J G own cc nL ini d Q ac sc h pc lo st := J.go (fun p l e R s m args below meth c Z H locs cells slots ls hM w => lv_ldc2 hM.1 hM.2.1 hM.2.2.2.1 (hM.2.2.2.2.1 _ hw) hd w) k
theorem j_iadd {x y : Int32} (hd : decode cc pc = .ok (.iadd, 1)) (k : J G own cc nL ini d Q ac sc h (pc + 1) lo (.int (x + y) :: st)) : J G own cc nL ini d Q ac sc h pc lo (.int y :: .int x :: st) := J.go (fun p l e R s m args below meth c Z H locs cells slots ls hM w => lv_iadd hM.1 hM.2.1 hd w) k
theorem j_isub {x y : Int32} (hd : decode cc pc = .ok (.isub, 1)) (k : J G own cc nL ini d Q ac sc h (pc + 1) lo (.int (x - y) :: st)) : J G own cc nL ini d Q ac sc h pc lo (.int y :: .int x :: st) := J.go (fun p l e R s m args below meth c Z H locs cells slots ls hM w => lv_isub hM.1 hM.2.1 hd w) k
theorem j_imul {x y : Int32} (hd : decode cc pc = .ok (.imul, 1)) (k : J G own cc nL ini d Q ac sc h (pc + 1) lo (.int (x * y) :: st)) : J G own cc nL ini d Q ac sc h pc lo (.int y :: .int x :: st) := J.go (fun p l e R s m args below meth c Z H locs cells slots ls hM w => lv_imul hM.1 hM.2.1 hd w) k
theorem j_iand {x y : Int32} (hd : decode cc pc = .ok (.iand, 1)) (k : J G own cc nL ini d Q ac sc h (pc + 1) lo (.int (x &&& y) :: st)) : J G own cc nL ini d Q ac sc h pc lo (.int y :: .int x :: st) := J.go (fun p l e R s m args below meth c Z H locs cells slots ls hM w => lv_iand hM.1 hM.2.1 hd w) k
theorem j_ior {x y : Int32} (hd : decode cc pc = .ok (.ior, 1)) (k : J G own cc nL ini d Q ac sc h (pc + 1) lo (.int (x ||| y) :: st)) : J G own cc nL ini d Q ac sc h pc lo (.int y :: .int x :: st) := J.go (fun p l e R s m args below meth c Z H locs cells slots ls hM w => lv_ior hM.1 hM.2.1 hd w) k
theorem j_ixor {x y : Int32} (hd : decode cc pc = .ok (.ixor, 1)) (k : J G own cc nL ini d Q ac sc h (pc + 1) lo (.int (x ^^^ y) :: st)) : J G own cc nL ini d Q ac sc h pc lo (.int y :: .int x :: st) := J.go (fun p l e R s m args below meth c Z H locs cells slots ls hM w => lv_ixor hM.1 hM.2.1 hd w) k
theorem j_ishl {x y : Int32} (hd : decode cc pc = .ok (.ishl, 1)) (k : J G own cc nL ini d Q ac sc h (pc + 1) lo (.int (x <<< (y &&& 31)) :: st)) : J G own cc nL ini d Q ac sc h pc lo (.int y :: .int x :: st) := J.go (fun p l e R s m args below meth c Z H locs cells slots ls hM w => lv_ishl hM.1 hM.2.1 hd w) k
theorem j_ishr {x y : Int32} (hd : decode cc pc = .ok (.ishr, 1)) (k : J G own cc nL ini d Q ac sc h (pc + 1) lo (.int (x >>> (y &&& 31)) :: st)) : J G own cc nL ini d Q ac sc h pc lo (.int y :: .int x :: st) := J.go (fun p l e R s m args below meth c Z H locs cells slots ls hM w => lv_ishr hM.1 hM.2.1 hd w) k
theorem j_idiv {x y : Int32} (hd : decode cc pc = .ok (.idiv, 1)) (hne : ¬ y = 0) (k : J G own cc nL ini d Q ac sc h (pc + 1) lo (.int (x / y) :: st)) : J G own cc nL ini d Q ac sc h pc lo (.int y :: .int x :: st) := J.go (fun p l e R s m args below meth c Z H locs cells slots ls hM w => lv_idiv hM.1 hM.2.1 hd hne w) k
theorem j_irem {x y : Int32} (hd : decode cc pc = .ok (.irem, 1)) (hne : ¬ y = 0) (k : J G own cc nL ini d Q ac sc h (pc + 1) lo (.int (x - x / y * y) :: st)) : J G own cc nL ini d Q ac sc h pc lo (.int y :: .int x :: st) := J.go (fun p l e R s m args below meth c Z H locs cells slots ls hM w => lv_irem hM.1 hM.2.1 hd hne w) k
theorem j_iushr {x y : Int32} (hd : decode cc pc = .ok (.iushr, 1)) (k : J G own cc nL ini d Q ac sc h (pc + 1) lo (.int ((x.toUInt32 >>> (y.toUInt32 &&& Int32.toUInt32 31)).toInt32) :: st)) : J G own cc nL ini d Q ac sc h pc lo (.int y :: .int x :: st) := J.go (fun p l e R s m args below meth c Z H locs cells slots ls hM w => lv_iushr hM.1 hM.2.1 hd rfl w) k
theorem j_ladd {x y : Int64} (hd : decode cc pc = .ok (.ladd, 1)) (k : J G own cc nL ini d Q ac sc h (pc + 1) lo (.long (x + y) :: st)) : J G own cc nL ini d Q ac sc h pc lo (.long y :: .long x :: st) := J.go (fun p l e R s m args below meth c Z H locs cells slots ls hM w => lv_ladd hM.1 hM.2.1 hd w) k
theorem j_lmul {x y : Int64} (hd : decode cc pc = .ok (.lmul, 1)) (k : J G own cc nL ini d Q ac sc h (pc + 1) lo (.long (x * y) :: st)) : J G own cc nL ini d Q ac sc h pc lo (.long y :: .long x :: st) := J.go (fun p l e R s m args below meth c Z H locs cells slots ls hM w => lv_lmul hM.1 hM.2.1 hd w) k
theorem j_lor {x y : Int64} (hd : decode cc pc = .ok (.lor, 1)) (k : J G own cc nL ini d Q ac sc h (pc + 1) lo (.long (x ||| y) :: st)) : J G own cc nL ini d Q ac sc h pc lo (.long y :: .long x :: st) := J.go (fun p l e R s m args below meth c Z H locs cells slots ls hM w => lv_lor hM.1 hM.2.1 hd w) k
theorem j_lsub {x y : Int64} (hd : decode cc pc = .ok (.lsub, 1)) (k : J G own cc nL ini d Q ac sc h (pc + 1) lo (.long (x - y) :: st)) : J G own cc nL ini d Q ac sc h pc lo (.long y :: .long x :: st) := J.go (fun p l e R s m args below meth c Z H locs cells slots ls hM w => lv_lsub hM.1 hM.2.1 hd w) k
theorem j_ldiv {x y : Int64} (hd : decode cc pc = .ok (.ldiv, 1)) (hne : ¬ y = 0) (k : J G own cc nL ini d Q ac sc h (pc + 1) lo (.long (x / y) :: st)) : J G own cc nL ini d Q ac sc h pc lo (.long y :: .long x :: st) := J.go (fun p l e R s m args below meth c Z H locs cells slots ls hM w => lv_ldiv hM.1 hM.2.1 hd hne w) k
theorem j_lrem {x y : Int64} (hd : decode cc pc = .ok (.lrem, 1)) (hne : ¬ y = 0) (k : J G own cc nL ini d Q ac sc h (pc + 1) lo (.long (x - x / y * y) :: st)) : J G own cc nL ini d Q ac sc h pc lo (.long y :: .long x :: st) := J.go (fun p l e R s m args below meth c Z H locs cells slots ls hM w => lv_lrem hM.1 hM.2.1 hd hne w) k
theorem j_lushr {x : Int64} {y : Int32} (hd : decode cc pc = .ok (.lushr, 1)) (k : J G own cc nL ini d Q ac sc h (pc + 1) lo (.long ((x.toUInt64 >>> (y.toInt64.toUInt64 &&& Int64.toUInt64 63)).toInt64) :: st)) : J G own cc nL ini d Q ac sc h pc lo (.int y :: .long x :: st) := J.go (fun p l e R s m args below meth c Z H locs cells slots ls hM w => lv_lushr hM.1 hM.2.1 hd rfl w) k
theorem j_lshl {x : Int64} {y : Int32} (hd : decode cc pc = .ok (.lshl, 1)) (k : J G own cc nL ini d Q ac sc h (pc + 1) lo (.long (x <<< (y.toInt64 &&& 63)) :: st)) : J G own cc nL ini d Q ac sc h pc lo (.int y :: .long x :: st) := J.go (fun p l e R s m args below meth c Z H locs cells slots ls hM w => lv_lshl hM.1 hM.2.1 hd rfl w) k
theorem j_lcmp {x y : Int64} (hd : decode cc pc = .ok (.lcmp, 1)) (k : J G own cc nL ini d Q ac sc h (pc + 1) lo (.int (lg_cmp x y) :: st)) : J G own cc nL ini d Q ac sc h pc lo (.long y :: .long x :: st) := J.go (fun p l e R s m args below meth c Z H locs cells slots ls hM w => W.lcmp hM.1 hM.2.1 hd w) k
theorem j_i2l {x : Int32} (hd : decode cc pc = .ok (.i2l, 1)) (k : J G own cc nL ini d Q ac sc h (pc + 1) lo (.long (x.toInt64) :: st)) : J G own cc nL ini d Q ac sc h pc lo (.int x :: st) := J.go (fun p l e R s m args below meth c Z H locs cells slots ls hM w => lv_i2l hM.1 hM.2.1 hd rfl w) k
theorem j_l2i {x : Int64} (hd : decode cc pc = .ok (.l2i, 1)) (k : J G own cc nL ini d Q ac sc h (pc + 1) lo (.int (x.toInt32) :: st)) : J G own cc nL ini d Q ac sc h pc lo (.long x :: st) := J.go (fun p l e R s m args below meth c Z H locs cells slots ls hM w => lv_l2i hM.1 hM.2.1 hd rfl w) k
theorem j_i2c {x : Int32} (hd : decode cc pc = .ok (.i2c, 1)) (k : J G own cc nL ini d Q ac sc h (pc + 1) lo (.int ((x.toUInt32 % 65536).toInt32) :: st)) : J G own cc nL ini d Q ac sc h pc lo (.int x :: st) := J.go (fun p l e R s m args below meth c Z H locs cells slots ls hM w => lv_i2c hM.1 hM.2.1 hd rfl w) k
theorem j_dup {v : Value} (hd : decode cc pc = .ok (.dup, 1)) (hv : v.category = 1) (k : J G own cc nL ini d Q ac sc h (pc + 1) lo (v :: v :: st)) : J G own cc nL ini d Q ac sc h pc lo (v :: st) := J.go (fun p l e R s m args below meth c Z H locs cells slots ls hM w => lv_dup hM.1 hM.2.1 hd (by rw [jtr_cat]; exact hv) w) k
theorem j_dup2 {v u : Value} (hd : decode cc pc = .ok (.dup2, 1)) (hv : v.category = 1) (hu : u.category = 1) (k : J G own cc nL ini d Q ac sc h (pc + 1) lo (v :: u :: v :: u :: st)) : J G own cc nL ini d Q ac sc h pc lo (v :: u :: st) := J.go (fun p l e R s m args below meth c Z H locs cells slots ls hM w => lv_dup2_11 hM.1 hM.2.1 hd (by rw [jtr_cat]; exact hv) (by rw [jtr_cat]; exact hu) w) k
theorem j_pop {v : Value} (hd : decode cc pc = .ok (.pop, 1)) (hv : v.category = 1) (k : J G own cc nL ini d Q ac sc h (pc + 1) lo st) : J G own cc nL ini d Q ac sc h pc lo (v :: st) := J.go (fun p l e R s m args below meth c Z H locs cells slots ls hM w => lv_pop hM.1 hM.2.1 hd (by rw [jtr_cat]; exact hv) w) k
theorem j_goto {off : Int} {tgt : Nat} (hd : decode cc pc = .ok (.goto off, 3)) (ht : (pc : Int) + off = (tgt : Int)) (k : J G own cc nL ini d Q ac sc h tgt lo st) : J G own cc nL ini d Q ac sc h pc lo st := J.go (fun p l e R s m args below meth c Z H locs cells slots ls hM w => lv_goto hM.1 hM.2.1 hd ht w) k
theorem j_if_eq {x : Int32} {off : Int} {tgt : Nat} (hd : decode cc pc = .ok (.ifCond .eq off, 3)) (ht : (pc : Int) + off = (tgt : Int)) (kt : x = 0 → J G own cc nL ini d Q ac sc h tgt lo st) (kf : ¬ x = 0 → J G own cc nL ini d Q ac sc h (pc + 3) lo st) : J G own cc nL ini d Q ac sc h pc lo (.int x :: st) := by
  intro p l e R s m args below meth c Z hM hK H locs cells slots ls hW hL hc hs hl
  exact lv_if_eq hM.1 hM.2.1 hd ht (fun z => kt z p l e R s m args below meth c Z hM hK H locs cells slots ls hW hL hc hs hl) (fun z => kf z p l e R s m args below meth c Z hM hK H locs cells slots ls hW hL hc hs hl)
theorem j_icmp_eq {x y : Int32} {off : Int} {tgt : Nat} (hd : decode cc pc = .ok (.if_icmp .eq off, 3)) (ht : (pc : Int) + off = (tgt : Int)) (kt : x = y → J G own cc nL ini d Q ac sc h tgt lo st) (kf : ¬ x = y → J G own cc nL ini d Q ac sc h (pc + 3) lo st) : J G own cc nL ini d Q ac sc h pc lo (.int y :: .int x :: st) := by
  intro p l e R s m args below meth c Z hM hK H locs cells slots ls hW hL hc hs hl
  exact lv_icmp_eq hM.1 hM.2.1 hd ht (fun z => kt z p l e R s m args below meth c Z hM hK H locs cells slots ls hW hL hc hs hl) (fun z => kf z p l e R s m args below meth c Z hM hK H locs cells slots ls hW hL hc hs hl)
theorem j_if_ne {x : Int32} {off : Int} {tgt : Nat} (hd : decode cc pc = .ok (.ifCond .ne off, 3)) (ht : (pc : Int) + off = (tgt : Int)) (kt : ¬ x = 0 → J G own cc nL ini d Q ac sc h tgt lo st) (kf : x = 0 → J G own cc nL ini d Q ac sc h (pc + 3) lo st) : J G own cc nL ini d Q ac sc h pc lo (.int x :: st) := by
  intro p l e R s m args below meth c Z hM hK H locs cells slots ls hW hL hc hs hl
  exact lv_if_ne hM.1 hM.2.1 hd ht (fun z => kt z p l e R s m args below meth c Z hM hK H locs cells slots ls hW hL hc hs hl) (fun z => kf z p l e R s m args below meth c Z hM hK H locs cells slots ls hW hL hc hs hl)
theorem j_icmp_ne {x y : Int32} {off : Int} {tgt : Nat} (hd : decode cc pc = .ok (.if_icmp .ne off, 3)) (ht : (pc : Int) + off = (tgt : Int)) (kt : ¬ x = y → J G own cc nL ini d Q ac sc h tgt lo st) (kf : x = y → J G own cc nL ini d Q ac sc h (pc + 3) lo st) : J G own cc nL ini d Q ac sc h pc lo (.int y :: .int x :: st) := by
  intro p l e R s m args below meth c Z hM hK H locs cells slots ls hW hL hc hs hl
  exact lv_icmp_ne hM.1 hM.2.1 hd ht (fun z => kt z p l e R s m args below meth c Z hM hK H locs cells slots ls hW hL hc hs hl) (fun z => kf z p l e R s m args below meth c Z hM hK H locs cells slots ls hW hL hc hs hl)
theorem j_if_lt {x : Int32} {off : Int} {tgt : Nat} (hd : decode cc pc = .ok (.ifCond .lt off, 3)) (ht : (pc : Int) + off = (tgt : Int)) (kt : x < 0 → J G own cc nL ini d Q ac sc h tgt lo st) (kf : ¬ x < 0 → J G own cc nL ini d Q ac sc h (pc + 3) lo st) : J G own cc nL ini d Q ac sc h pc lo (.int x :: st) := by
  intro p l e R s m args below meth c Z hM hK H locs cells slots ls hW hL hc hs hl
  exact lv_if_lt hM.1 hM.2.1 hd ht (fun z => kt z p l e R s m args below meth c Z hM hK H locs cells slots ls hW hL hc hs hl) (fun z => kf z p l e R s m args below meth c Z hM hK H locs cells slots ls hW hL hc hs hl)
theorem j_icmp_lt {x y : Int32} {off : Int} {tgt : Nat} (hd : decode cc pc = .ok (.if_icmp .lt off, 3)) (ht : (pc : Int) + off = (tgt : Int)) (kt : x < y → J G own cc nL ini d Q ac sc h tgt lo st) (kf : ¬ x < y → J G own cc nL ini d Q ac sc h (pc + 3) lo st) : J G own cc nL ini d Q ac sc h pc lo (.int y :: .int x :: st) := by
  intro p l e R s m args below meth c Z hM hK H locs cells slots ls hW hL hc hs hl
  exact lv_icmp_lt hM.1 hM.2.1 hd ht (fun z => kt z p l e R s m args below meth c Z hM hK H locs cells slots ls hW hL hc hs hl) (fun z => kf z p l e R s m args below meth c Z hM hK H locs cells slots ls hW hL hc hs hl)
theorem j_if_ge {x : Int32} {off : Int} {tgt : Nat} (hd : decode cc pc = .ok (.ifCond .ge off, 3)) (ht : (pc : Int) + off = (tgt : Int)) (kt : 0 ≤ x → J G own cc nL ini d Q ac sc h tgt lo st) (kf : ¬ 0 ≤ x → J G own cc nL ini d Q ac sc h (pc + 3) lo st) : J G own cc nL ini d Q ac sc h pc lo (.int x :: st) := by
  intro p l e R s m args below meth c Z hM hK H locs cells slots ls hW hL hc hs hl
  exact lv_if_ge hM.1 hM.2.1 hd ht (fun z => kt z p l e R s m args below meth c Z hM hK H locs cells slots ls hW hL hc hs hl) (fun z => kf z p l e R s m args below meth c Z hM hK H locs cells slots ls hW hL hc hs hl)
theorem j_icmp_ge {x y : Int32} {off : Int} {tgt : Nat} (hd : decode cc pc = .ok (.if_icmp .ge off, 3)) (ht : (pc : Int) + off = (tgt : Int)) (kt : y ≤ x → J G own cc nL ini d Q ac sc h tgt lo st) (kf : ¬ y ≤ x → J G own cc nL ini d Q ac sc h (pc + 3) lo st) : J G own cc nL ini d Q ac sc h pc lo (.int y :: .int x :: st) := by
  intro p l e R s m args below meth c Z hM hK H locs cells slots ls hW hL hc hs hl
  exact lv_icmp_ge hM.1 hM.2.1 hd ht (fun z => kt z p l e R s m args below meth c Z hM hK H locs cells slots ls hW hL hc hs hl) (fun z => kf z p l e R s m args below meth c Z hM hK H locs cells slots ls hW hL hc hs hl)
theorem j_if_gt {x : Int32} {off : Int} {tgt : Nat} (hd : decode cc pc = .ok (.ifCond .gt off, 3)) (ht : (pc : Int) + off = (tgt : Int)) (kt : 0 < x → J G own cc nL ini d Q ac sc h tgt lo st) (kf : ¬ 0 < x → J G own cc nL ini d Q ac sc h (pc + 3) lo st) : J G own cc nL ini d Q ac sc h pc lo (.int x :: st) := by
  intro p l e R s m args below meth c Z hM hK H locs cells slots ls hW hL hc hs hl
  exact lv_if_gt hM.1 hM.2.1 hd ht (fun z => kt z p l e R s m args below meth c Z hM hK H locs cells slots ls hW hL hc hs hl) (fun z => kf z p l e R s m args below meth c Z hM hK H locs cells slots ls hW hL hc hs hl)
theorem j_icmp_gt {x y : Int32} {off : Int} {tgt : Nat} (hd : decode cc pc = .ok (.if_icmp .gt off, 3)) (ht : (pc : Int) + off = (tgt : Int)) (kt : y < x → J G own cc nL ini d Q ac sc h tgt lo st) (kf : ¬ y < x → J G own cc nL ini d Q ac sc h (pc + 3) lo st) : J G own cc nL ini d Q ac sc h pc lo (.int y :: .int x :: st) := by
  intro p l e R s m args below meth c Z hM hK H locs cells slots ls hW hL hc hs hl
  exact lv_icmp_gt hM.1 hM.2.1 hd ht (fun z => kt z p l e R s m args below meth c Z hM hK H locs cells slots ls hW hL hc hs hl) (fun z => kf z p l e R s m args below meth c Z hM hK H locs cells slots ls hW hL hc hs hl)
theorem j_if_le {x : Int32} {off : Int} {tgt : Nat} (hd : decode cc pc = .ok (.ifCond .le off, 3)) (ht : (pc : Int) + off = (tgt : Int)) (kt : x ≤ 0 → J G own cc nL ini d Q ac sc h tgt lo st) (kf : ¬ x ≤ 0 → J G own cc nL ini d Q ac sc h (pc + 3) lo st) : J G own cc nL ini d Q ac sc h pc lo (.int x :: st) := by
  intro p l e R s m args below meth c Z hM hK H locs cells slots ls hW hL hc hs hl
  exact lv_if_le hM.1 hM.2.1 hd ht (fun z => kt z p l e R s m args below meth c Z hM hK H locs cells slots ls hW hL hc hs hl) (fun z => kf z p l e R s m args below meth c Z hM hK H locs cells slots ls hW hL hc hs hl)
theorem j_icmp_le {x y : Int32} {off : Int} {tgt : Nat} (hd : decode cc pc = .ok (.if_icmp .le off, 3)) (ht : (pc : Int) + off = (tgt : Int)) (kt : x ≤ y → J G own cc nL ini d Q ac sc h tgt lo st) (kf : ¬ x ≤ y → J G own cc nL ini d Q ac sc h (pc + 3) lo st) : J G own cc nL ini d Q ac sc h pc lo (.int y :: .int x :: st) := by
  intro p l e R s m args below meth c Z hM hK H locs cells slots ls hW hL hc hs hl
  exact lv_icmp_le hM.1 hM.2.1 hd ht (fun z => kt z p l e R s m args below meth c Z hM hK H locs cells slots ls hW hL hc hs hl) (fun z => kf z p l e R s m args below meth c Z hM hK H locs cells slots ls hW hL hc hs hl)
theorem j_tableIn {dflt low hi : Int} {offs : Array Int} {len : Nat} {x : Int32} {off : Int} {tgt : Nat} (hd : decode cc pc = .ok (.tableswitch dflt low hi offs, len)) (h1 : ¬ x.toInt < low) (h2 : ¬ hi < x.toInt) (ho : offs[(x.toInt - low).toNat]? = some off) (ht : (pc : Int) + off = (tgt : Int)) (k : J G own cc nL ini d Q ac sc h tgt lo st) : J G own cc nL ini d Q ac sc h pc lo (.int x :: st) := J.go (fun p l e R s m args below meth c Z H locs cells slots ls hM w => lv_tableIn hM.1 hM.2.1 hd h1 h2 ho ht w) k
theorem j_tableOut {dflt low hi : Int} {offs : Array Int} {len : Nat} {x : Int32} {tgt : Nat} (hd : decode cc pc = .ok (.tableswitch dflt low hi offs, len)) (h1 : x.toInt < low ∨ hi < x.toInt) (ht : (pc : Int) + dflt = (tgt : Int)) (k : J G own cc nL ini d Q ac sc h tgt lo st) : J G own cc nL ini d Q ac sc h pc lo (.int x :: st) := J.go (fun p l e R s m args below meth c Z H locs cells slots ls hM w => lv_tableOut hM.1 hM.2.1 hd h1 ht w) k
theorem j_iload_n {i : Fin 4} {x : Int32} (hd : decode cc pc = .ok (.iload_n i, 1)) (hl : lo[(i : Nat)]? = some (some (.int x))) (k : J G own cc nL ini d Q ac sc h (pc + 1) lo (.int x :: st)) : J G own cc nL ini d Q ac sc h pc lo st := by
  intro p l e R s m args below meth c Z hM hK H locs cells slots ls hW hL hc hs hls
  exact lv_iload_n hM.1 hM.2.1 hd rfl (hls.2.2.2 _ _ hl) (k p l e R s m args below meth c Z hM hK H locs cells slots ls hW hL hc hs hls)
theorem j_iload {i : Nat} {x : Int32} (hd : decode cc pc = .ok (.iload i, 2)) (hl : lo[i]? = some (some (.int x))) (k : J G own cc nL ini d Q ac sc h (pc + 2) lo (.int x :: st)) : J G own cc nL ini d Q ac sc h pc lo st := by
  intro p l e R s m args below meth c Z hM hK H locs cells slots ls hW hL hc hs hls
  exact lv_iload hM.1 hM.2.1 hd (hls.2.2.2 _ _ hl) (k p l e R s m args below meth c Z hM hK H locs cells slots ls hW hL hc hs hls)
theorem j_lload_n {i : Fin 4} {x : Int64} (hd : decode cc pc = .ok (.lload_n i, 1)) (hl : lo[(i : Nat)]? = some (some (.long x))) (k : J G own cc nL ini d Q ac sc h (pc + 1) lo (.long x :: st)) : J G own cc nL ini d Q ac sc h pc lo st := by
  intro p l e R s m args below meth c Z hM hK H locs cells slots ls hW hL hc hs hls
  exact lv_lload_n hM.1 hM.2.1 hd rfl (hls.2.2.2 _ _ hl) (k p l e R s m args below meth c Z hM hK H locs cells slots ls hW hL hc hs hls)
theorem j_lload {i : Nat} {x : Int64} (hd : decode cc pc = .ok (.lload i, 2)) (hl : lo[i]? = some (some (.long x))) (k : J G own cc nL ini d Q ac sc h (pc + 2) lo (.long x :: st)) : J G own cc nL ini d Q ac sc h pc lo st := by
  intro p l e R s m args below meth c Z hM hK H locs cells slots ls hW hL hc hs hls
  exact lv_lload hM.1 hM.2.1 hd (hls.2.2.2 _ _ hl) (k p l e R s m args below meth c Z hM hK H locs cells slots ls hW hL hc hs hls)
theorem j_aload_n {i : Fin 4} {a : Nat} (hd : decode cc pc = .ok (.aload_n i, 1)) (hl : lo[(i : Nat)]? = some (some (.ref a))) (k : J G own cc nL ini d Q ac sc h (pc + 1) lo (.ref a :: st)) : J G own cc nL ini d Q ac sc h pc lo st := by
  intro p l e R s m args below meth c Z hM hK H locs cells slots ls hW hL hc hs hls
  exact lv_aload_n hM.1 hM.2.1 hd rfl (hls.2.2.2 _ _ hl) (k p l e R s m args below meth c Z hM hK H locs cells slots ls hW hL hc hs hls)
theorem j_aload {i : Nat} {a : Nat} (hd : decode cc pc = .ok (.aload i, 2)) (hl : lo[i]? = some (some (.ref a))) (k : J G own cc nL ini d Q ac sc h (pc + 2) lo (.ref a :: st)) : J G own cc nL ini d Q ac sc h pc lo st := by
  intro p l e R s m args below meth c Z hM hK H locs cells slots ls hW hL hc hs hls
  exact lv_aload hM.1 hM.2.1 hd (hls.2.2.2 _ _ hl) (k p l e R s m args below meth c Z hM hK H locs cells slots ls hW hL hc hs hls)
theorem j_aload_nF {i : Fin 4} {u : UInt32} (hd : decode cc pc = .ok (.aload_n i, 1)) (hl : lo[(i : Nat)]? = some (some (.float u))) (k : J G own cc nL ini d Q ac sc h (pc + 1) lo (.float u :: st)) : J G own cc nL ini d Q ac sc h pc lo st := by
  intro p l e R s m args below meth c Z hM hK H locs cells slots ls hW hL hc hs hls
  exact lv_aload_n hM.1 hM.2.1 hd rfl (hls.2.2.2 _ _ hl) (k p l e R s m args below meth c Z hM hK H locs cells slots ls hW hL hc hs hls)
theorem jg_istore_n {i : Fin 4} {x : Int32} {lo' : List (Option Value)} (hd : decode cc pc = .ok (.istore_n i, 1)) (hi : (i : Nat) < lo.length) (hp : jput1 lo lo' i (.int x)) (k : J G own cc nL ini d Q ac sc h (pc + 1) lo' st) : J G own cc nL ini d Q ac sc h pc lo (.int x :: st) := by
  intro p l e R s m args below meth c Z hM hK H locs cells slots ls hW hL hc hs hls
  exact lv_istore_n hM.1 hM.2.1 hd rfl hls.has (Nat.lt_of_lt_of_le hi hls.1) rfl (fun ls' h' => k p l e R s m args below meth c Z hM hK H locs cells slots ls' hW hL hc hs (jLH.put1 hls.1 hp h'))
theorem jg_istore {i : Nat} {x : Int32} {lo' : List (Option Value)} (hd : decode cc pc = .ok (.istore i, 2)) (hi : i < lo.length) (hp : jput1 lo lo' i (.int x)) (k : J G own cc nL ini d Q ac sc h (pc + 2) lo' st) : J G own cc nL ini d Q ac sc h pc lo (.int x :: st) := by
  intro p l e R s m args below meth c Z hM hK H locs cells slots ls hW hL hc hs hls
  exact lv_istore hM.1 hM.2.1 hd hls.has (Nat.lt_of_lt_of_le hi hls.1) rfl (fun ls' h' => k p l e R s m args below meth c Z hM hK H locs cells slots ls' hW hL hc hs (jLH.put1 hls.1 hp h'))
theorem jg_lstore_n {i : Fin 4} {x : Int64} {lo' : List (Option Value)} (hd : decode cc pc = .ok (.lstore_n i, 1)) (hi : (i : Nat) + 1 < lo.length) (hp : jput2 lo lo' i (.long x)) (k : J G own cc nL ini d Q ac sc h (pc + 1) lo' st) : J G own cc nL ini d Q ac sc h pc lo (.long x :: st) := by
  intro p l e R s m args below meth c Z hM hK H locs cells slots ls hW hL hc hs hls
  exact lv_lstore_n hM.1 hM.2.1 hd rfl hls.has (Nat.lt_of_lt_of_le hi hls.1) rfl (fun ls' h' => k p l e R s m args below meth c Z hM hK H locs cells slots ls' hW hL hc hs (jLH.put2 hls.1 hp h'))
theorem jg_lstore {i : Nat} {x : Int64} {lo' : List (Option Value)} (hd : decode cc pc = .ok (.lstore i, 2)) (hi : i + 1 < lo.length) (hp : jput2 lo lo' i (.long x)) (k : J G own cc nL ini d Q ac sc h (pc + 2) lo' st) : J G own cc nL ini d Q ac sc h pc lo (.long x :: st) := by
  intro p l e R s m args below meth c Z hM hK H locs cells slots ls hW hL hc hs hls
  exact lv_lstore hM.1 hM.2.1 hd hls.has (Nat.lt_of_lt_of_le hi hls.1) rfl (fun ls' h' => k p l e R s m args below meth c Z hM hK H locs cells slots ls' hW hL hc hs (jLH.put2 hls.1 hp h'))
theorem jg_astore_n {i : Fin 4} {a : Nat} {lo' : List (Option Value)} (hd : decode cc pc = .ok (.astore_n i, 1)) (hi : (i : Nat) < lo.length) (hp : jput1 lo lo' i (.ref a)) (k : J G own cc nL ini d Q ac sc h (pc + 1) lo' st) : J G own cc nL ini d Q ac sc h pc lo (.ref a :: st) := by
  intro p l e R s m args below meth c Z hM hK H locs cells slots ls hW hL hc hs hls
  exact lv_astore_n hM.1 hM.2.1 hd rfl hls.has (Nat.lt_of_lt_of_le hi hls.1) rfl (fun ls' h' => k p l e R s m args below meth c Z hM hK H locs cells slots ls' hW hL hc hs (jLH.put1 (v := .ref a) hls.1 hp h'))
theorem jg_iinc {i : Nat} {n : Int} {x v : Int32} {lo' : List (Option Value)} (hd : decode cc pc = .ok (.iinc i n, 3)) (hl : lo[i]? = some (some (.int x))) (hv : x + Int32.ofInt n = v) (hp : jput1 lo lo' i (.int v)) (k : J G own cc nL ini d Q ac sc h (pc + 3) lo' st) : J G own cc nL ini d Q ac sc h pc lo st := by
  intro p l e R s m args below meth c Z hM hK H locs cells slots ls hW hL hc hs hls
  have hm : (i, jtr G (.int x)) ∈ jlist G 0 lo := (jlist_mem lo 0 _).mpr ⟨i, _, hl, by simp⟩
  obtain ⟨q, hq⟩ := List.getElem?_of_mem hm
  have hi : i < lo.length := (List.getElem?_eq_some_iff.mp hl).1
  exact lv_iinc hM.1 hM.2.1 hd hls.has hq hv (Nat.lt_of_lt_of_le hi hls.1) rfl (fun ls' h' => k p l e R s m args below meth c Z hM hK H locs cells slots ls' hW hL hc hs (jLH.put1 (v := .int v) hls.1 hp h'))
theorem j_forget {lo' : List (Option Value)} (hp : lo'.length = lo.length ∧ ∀ (j : Nat) (w : Value), lo'[j]? = some (some w) → lo[j]? = some (some w)) (k : J G own cc nL ini d Q ac sc h pc lo' st) : J G own cc nL ini d Q ac sc h pc lo st := by
  intro p l e R s m args below meth c Z hM hK H locs cells slots ls hW hL hc hs hls
  exact k p l e R s m args below meth c Z hM hK H locs cells slots ls hW hL hc hs ⟨by rw [hp.1]; exact hls.1, hls.2.1, hls.2.2.1, fun j w hj => hls.2.2.2 j w (hp.2 j w hj)⟩
end JR
end
section
/-! HEAP RULES -/
def jO (N : Nat) (κ : Nat → jK) (a ci : Nat) : Prop := a < N ∧ κ a = .inl ci
def jA (N : Nat) (κ : Nat → jK) (a : Nat) (ty : FieldType) (n : Nat) : Prop := a < N ∧ κ a = .inr (ty, n) ∧ n < 2 ^ 31
theorem jclamp {i : Int32} {k n : Nat} (hi : i = nI k) (hk : k < n) (hn : n < 2 ^ 31) : i.toNatClampNeg = k ∧ ¬ (i < 0 ∨ n ≤ i.toNatClampNeg) := by
  subst hi
  have e := nI_clamp (n := k) (by omega)
  refine ⟨e, ?_⟩
  rw [e]
  rintro (q | q)
  · exact nI_pos (by omega) q
  · omega
section JW
variable {G : jG} {own : String} {cc : ByteArray} {nL : Nat} {ini : Bool} {d : Nat} {h : jH} {pc : Nat}
variable {p : Program} {l : Launch} {e : Env} {R : Room} {s : State} {m : MethodId} {args : Array Value} {below : List Frame} {meth : Method} {c : Code} {H : Heap} {locs : List Loc} {cells slots : Nat} {Z : State → Prop} {ls : Array Slot} {rest : List Value}
theorem jW_get {a ci j idx : Nat} {fin : Bool} {ty : FieldType} (hM : jM G own cc nL ini d p R s m args meth c) (hW : jWD G s h H) (ho : jO h.1 h.2.1 a ci) (hF : jFL own idx ci j fin ty) (hd : decode cc pc = .ok (.getfield idx, 3))
    (kk : W p l e R s m args below meth c H locs cells slots Z (F0 m (pc + 3) ls (jfv G ci (h.2.2.1 a) (h.2.2.2.1 a) j :: rest))) : W p l e R s m args below meth c H locs cells slots Z (F0 m pc ls (.ref (jB G + a) :: rest)) := by
  obtain ⟨hx, hb, hml, hown, hts, hS, -⟩ := hM
  obtain ⟨C, T, N, hc, hin, hj, hlk, hC, -, -⟩ := hF
  have hcl := hW.2.2 a ho.1
  rw [ho.2] at hcl
  obtain ⟨q, hq, cell, q1, q2, q3, q4⟩ := hcl
  have hq' : q = (C, T, N) := Option.some.inj (hq.symm.trans hc)
  subst hq'
  obtain ⟨hSl, hfc, kC, hkC, hkind⟩ := hS.1.1 ci _ hc
  obtain ⟨cf, kf, fi, f, hi, hsl⟩ := hSl j hj
  refine W.getf hx hb hown (hts _ hlk) hi (u_facts hfc hkC (u_lays hts hin hj) hi).1 q1 (by rw [q3]; exact fun h => by cases h) (v := jfv G ci (h.2.2.1 a) (h.2.2.2.1 a) j) ?_ rfl rfl hd kk
  rw [hsl]
  exact q4 j hj
theorem jloc {a : Nat} {k : Nat} (hL : ∀ q ∈ locs, jB G ≤ q.base) : ∀ q ∈ locs ++ [(⟨jB G + a, k⟩ : Loc)], jB G ≤ q.base := by
  intro q hq
  rcases List.mem_append.mp hq with h | h
  · exact hL q h
  · rw [List.mem_singleton.mp h]; exact Nat.le_add_right _ _
/-- a field is put: any of its values, final or not -/
theorem jW_put {a ci j idx : Nat} {fin : Bool} {ty : FieldType} {v : Value} {h' : jH} (hM : jM G own cc nL ini d p R s m args meth c) (hW : jWD G s h H) (ho : jO h.1 h.2.1 a ci) (hF : jFL own idx ci j fin ty) (hfin : fin = true → ini = true ∧ vwCl[ci]?.map (fun q => q.1) = some own) (hnw : narrow ty v = v) (hft : fits ty v = true) (hL : ∀ q ∈ locs, jB G ≤ q.base)
    (hd : decode cc pc = .ok (.putfield idx, 3)) (hn : h'.1 = h.1) (hk : ∀ k, k ≠ a → h'.2.1 k = h.2.1 k ∧ h'.2.2.1 k = h.2.2.1 k ∧ h'.2.2.2.1 k = h.2.2.2.1 k ∧ h'.2.2.2.2 k = h.2.2.2.2 k) (hka : h'.2.1 a = h.2.1 a)
    (hv : ∀ i, updV (jfv G ci (h.2.2.1 a) (h.2.2.2.1 a)) j v i = jfv G ci (h'.2.2.1 a) (h'.2.2.2.1 a) i)
    (kk : ∀ (H1 : Heap) (locs1 : List Loc), jWD G s h' H1 → (∀ q ∈ locs1, jB G ≤ q.base) → W p l e R s m args below meth c H1 locs1 cells slots Z (F0 m (pc + 3) ls rest)) : W p l e R s m args below meth c H locs cells slots Z (F0 m pc ls (v :: .ref (jB G + a) :: rest)) := by
  obtain ⟨hx, hb, hml, hown, hts, hS, -, -, hin2⟩ := hM
  obtain ⟨C, T, N, hc, hin, hj, hlk, hC, hfe, ty0, hty, hty1, hnm⟩ := hF
  have hcl := hW.2.2 a ho.1
  rw [ho.2] at hcl
  obtain ⟨q, hq, cell, q1, q2, q3, q4⟩ := hcl
  have hq' : q = (C, T, N) := Option.some.inj (hq.symm.trans hc)
  subst hq'
  have hap := va_apart (own := own) hts hin ty0 hty hnm hS.1 hc
  obtain ⟨hSl, hfc, kC, hkC, hkind⟩ := hS.1.1 ci _ hc
  obtain ⟨cf, kf, fi, f, hi, hsl⟩ := hSl j hj
  have hst := (u_facts hfc hkC (u_lays hts hin hj) hi).1
  have hd1 : parseFieldDescriptor (T j).2.2.1 = some ty := by rw [hty j hj, hty1]
  have hlay := hts _ (hin _ (u_in_lay hj))
  unfold u_lay at hlay
  have fin' : ∀ H' : Heap, H'[jB G + a]? = some (cell.setSlot f.slot v) → H'.size = H.size → (∀ q, q ≠ jB G + a → H'[q]? = H[q]?) → W p l e R s m args below meth c H' (locs ++ [⟨jB G + a, f.slot⟩]) cells slots Z (F0 m (pc + 3) ls rest) := by
    intro H' e1 e2 e3
    rw [hsl] at e1 ⊢
    refine kk H' _ (hW.write e2 e3 hn hk ?_) (jloc hL)
    rw [hka, ho.2]
    exact ⟨_, hc, t_OB.to (V := updV (jfv G ci (h.2.2.1 a) (h.2.2.2.1 a)) j v) ⟨_, e1, q2, q3, t_set q4 hap hj v⟩ (fun i _ => hv i)⟩
  cases fin with
  | false =>
    rw [if_neg (by rw [hfe]; decide)] at hlay
    have h6 := u_store hfc hkC hkind hlay hi hd1 hnw hft
    exact W.putK hx hb (f := f) ⟨hown, hts _ hlk, ⟨_, _, _, hi⟩, hst⟩ (by rw [q2]; exact h6) q1 q3 (by rw [hsl]; exact k2_hasslot (q4 j hj)) rfl rfl hd fin'
  | true =>
    rw [if_pos hfe] at hlay
    obtain ⟨f1, f2⟩ := hfin rfl
    have hCo : C = own := by rw [hc] at f2; exact Option.some.inj f2
    have hcf : m.cls = cf := by
      obtain ⟨_, _, c', _, _, _, -, -, hf', -, -, -, hown2, -⟩ := Cond.laysFinal_spec hlay
      have e1 : c' = cf := by have := hi.symm.trans hf'; simp at this; exact this.1.symm
      rw [hC, hCo] at hown2
      rw [← e1]; exact Option.some.inj (hown.symm.trans hown2)
    have h6 := u_fits hfc hkC hkind (Or.inr hlay) hi hd1 hnw hft
    exact W.putFinK hx hb hown (hts _ hlk) hi hst hcf (hin2 f1) (by rw [q2]; exact h6) q1 q3 (by rw [hsl]; exact k2_hasslot (q4 j hj)) rfl rfl hd fin'
end JW
section JR2
variable {G : jG} {own : String} {cc : ByteArray} {nL : Nat} {ini : Bool} {d : Nat} {Q : Option Value → jH → Prop} {ac sc : Nat} {pc : Nat} {lo : List (Option Value)} {st : List Value}
variable {N : Nat} {κ : Nat → jK} {ρ : Nat → Nat → Option Nat} {μ : Nat → Nat → Int32} {ν : Nat → Nat → Int64}
theorem j_geti {a ci j idx : Nat} {fin : Bool} {ty : FieldType} (hd : decode cc pc = .ok (.getfield idx, 3)) (hF : jFL own idx ci j fin ty) (hr : jrf ci j = false) (ho : jO N κ a ci) (k : J G own cc nL ini d Q ac sc (N, κ, ρ, μ, ν) (pc + 3) lo (.int (μ a j) :: st)) : J G own cc nL ini d Q ac sc (N, κ, ρ, μ, ν) pc lo (.ref a :: st) := by
  intro p l e R s m args below meth c Z hM hK H locs cells slots ls hW hL hc hs hl
  refine jW_get hM hW ho hF hd ?_
  have := k p l e R s m args below meth c Z hM hK H locs cells slots ls hW hL hc hs hl
  simp only [jfv, hr]
  exact this
theorem j_getr {a b ci j idx : Nat} {fin : Bool} {ty : FieldType} (hd : decode cc pc = .ok (.getfield idx, 3)) (hF : jFL own idx ci j fin ty) (hr : jrf ci j = true) (ho : jO N κ a ci) (hb : ρ a j = some b) (k : J G own cc nL ini d Q ac sc (N, κ, ρ, μ, ν) (pc + 3) lo (.ref b :: st)) : J G own cc nL ini d Q ac sc (N, κ, ρ, μ, ν) pc lo (.ref a :: st) := by
  intro p l e R s m args below meth c Z hM hK H locs cells slots ls hW hL hc hs hl
  refine jW_get hM hW ho hF hd ?_
  have := k p l e R s m args below meth c Z hM hK H locs cells slots ls hW hL hc hs hl
  simp only [jfv, hr, hb]
  exact this
theorem j_puti {a ci j idx : Nat} {v : Int32} (hd : decode cc pc = .ok (.putfield idx, 3)) (hF : jFL own idx ci j false .int) (hr : jrf ci j = false) (ho : jO N κ a ci) (k : J G own cc nL ini d Q ac sc (N, κ, ρ, jup μ a j v, ν) (pc + 3) lo st) : J G own cc nL ini d Q ac sc (N, κ, ρ, μ, ν) pc lo (.int v :: .ref a :: st) := by
  intro p l e R s m args below meth c Z hM hK H locs cells slots ls hW hL hc hs hl
  refine jW_put (h' := (N, κ, ρ, jup μ a j v, ν)) hM hW ho hF (fun h => by cases h) rfl rfl hL hd rfl (fun k hk => ⟨rfl, rfl, jup_ne hk, rfl⟩) rfl (fun i => ?_) (fun H1 locs1 hW1 hL1 => k p l e R s m args below meth c Z hM hK H1 locs1 cells slots ls hW1 hL1 hc hs hl)
  simp only [updV, jfv, jup_eq]
  by_cases hi : i = j
  · subst hi; simp [hr, jtr]
  · simp [hi]
theorem j_putF {a b ci j idx : Nat} {ty : FieldType} (hd : decode cc pc = .ok (.putfield idx, 3)) (hF : jFL own idx ci j true ty) (hr : jrf ci j = true) (ho : jO N κ a ci) (hi : ini = true) (hown : vwCl[ci]?.map (fun q => q.1) = some own) (hnw : narrow ty (.ref (jB G + b)) = .ref (jB G + b)) (hft : fits ty (.ref (jB G + b)) = true) (k : J G own cc nL ini d Q ac sc (N, κ, jup ρ a j (some b), μ, ν) (pc + 3) lo st) : J G own cc nL ini d Q ac sc (N, κ, ρ, μ, ν) pc lo (.ref b :: .ref a :: st) := by
  intro p l e R s m args below meth c Z hM hK H locs cells slots ls hW hL hc hs hl
  refine jW_put (h' := (N, κ, jup ρ a j (some b), μ, ν)) hM hW ho hF (fun _ => ⟨hi, hown⟩) hnw hft hL hd rfl (fun k hk => ⟨rfl, jup_ne hk, rfl, rfl⟩) rfl (fun i => ?_) (fun H1 locs1 hW1 hL1 => k p l e R s m args below meth c Z hM hK H1 locs1 cells slots ls hW1 hL1 hc hs hl)
  simp only [updV, jfv, jup_eq]
  by_cases hi : i = j
  · subst hi; simp [hr, va_rf, jtr]
  · simp [hi]
/-! arrays -/
theorem jarr {s : State} {H : Heap} {h : jH} {a n : Nat} {ty : FieldType} (hW : jWD G s h H) (hA : jA h.1 h.2.1 a ty n) : ∃ cA : ClassId, ArrOfT s cA ty ∧ va_RA s cA ty ∧ H[jB G + a]? = some (arrV cA n (jav G ty (h.2.2.1 a) (h.2.2.2.1 a) (h.2.2.2.2 a))) := by
  have := hW.2.2 a hA.1
  rw [hA.2.1] at this
  exact this
theorem j_iald {a n k : Nat} {i : Int32} (hd : decode cc pc = .ok (.iaload, 1)) (hA : jA N κ a .int n) (hi : i = nI k) (hk : k < n) (kk : J G own cc nL ini d Q ac sc (N, κ, ρ, μ, ν) (pc + 1) lo (.int (μ a k) :: st)) : J G own cc nL ini d Q ac sc (N, κ, ρ, μ, ν) pc lo (.int i :: .ref a :: st) := by
  intro p l e R s m args below meth c Z hM hK H locs cells slots ls hW hL hc hs hl
  obtain ⟨cA, hAr, -, hH⟩ := jarr hW hA
  obtain ⟨e1, e2⟩ := jclamp hi hk hA.2.2
  exact W.iald (v := .int (μ a k)) hM.1 hM.2.1 hH (hAr n _) (fun q => by cases q) (by rw [arrV_size]; exact e2) (by rw [e1, arrV_read _ _ hk]; rfl) rfl rfl hd (kk p l e R s m args below meth c Z hM hK H locs cells slots ls hW hL hc hs hl)
theorem j_cald {a n k : Nat} {i : Int32} (hd : decode cc pc = .ok (.caload, 1)) (hA : jA N κ a .char n) (hi : i = nI k) (hk : k < n) (kk : J G own cc nL ini d Q ac sc (N, κ, ρ, μ, ν) (pc + 1) lo (.int (μ a k) :: st)) : J G own cc nL ini d Q ac sc (N, κ, ρ, μ, ν) pc lo (.int i :: .ref a :: st) := by
  intro p l e R s m args below meth c Z hM hK H locs cells slots ls hW hL hc hs hl
  obtain ⟨cA, hAr, -, hH⟩ := jarr hW hA
  obtain ⟨e1, e2⟩ := jclamp hi hk hA.2.2
  exact W.cald (v := .int (μ a k)) hM.1 hM.2.1 hH (hAr n _) (fun q => by cases q) (by rw [arrV_size]; exact e2) (by rw [e1, arrV_read _ _ hk]; rfl) rfl rfl hd (kk p l e R s m args below meth c Z hM hK H locs cells slots ls hW hL hc hs hl)
theorem j_lald {a n k : Nat} {i : Int32} (hd : decode cc pc = .ok (.laload, 1)) (hA : jA N κ a .long n) (hi : i = nI k) (hk : k < n) (kk : J G own cc nL ini d Q ac sc (N, κ, ρ, μ, ν) (pc + 1) lo (.long (ν a k) :: st)) : J G own cc nL ini d Q ac sc (N, κ, ρ, μ, ν) pc lo (.int i :: .ref a :: st) := by
  intro p l e R s m args below meth c Z hM hK H locs cells slots ls hW hL hc hs hl
  obtain ⟨cA, hAr, -, hH⟩ := jarr hW hA
  obtain ⟨e1, e2⟩ := jclamp hi hk hA.2.2
  exact W.lald (v := .long (ν a k)) hM.1 hM.2.1 hH (hAr n _) (fun q => by cases q) (by rw [arrV_size]; exact e2) (by rw [e1, arrV_read _ _ hk]; rfl) rfl rfl hd (kk p l e R s m args below meth c Z hM hK H locs cells slots ls hW hL hc hs hl)
theorem j_aald {a b n k : Nat} {i : Int32} {C : String} (hd : decode cc pc = .ok (.aaload, 1)) (hA : jA N κ a (.object C) n) (hi : i = nI k) (hk : k < n) (hb : ρ a k = some b) (kk : J G own cc nL ini d Q ac sc (N, κ, ρ, μ, ν) (pc + 1) lo (.ref b :: st)) : J G own cc nL ini d Q ac sc (N, κ, ρ, μ, ν) pc lo (.int i :: .ref a :: st) := by
  intro p l e R s m args below meth c Z hM hK H locs cells slots ls hW hL hc hs hl
  obtain ⟨cA, hAr, -, hH⟩ := jarr hW hA
  obtain ⟨e1, e2⟩ := jclamp hi hk hA.2.2
  exact W.aald (v := .ref (jB G + b)) (ty := .object C) hM.1 hM.2.1 hH (hAr n _) rfl (fun q => by cases q) (by rw [arrV_size]; exact e2) (by rw [e1, arrV_read _ _ hk]; simp only [jav, hb]; rfl) rfl rfl hd (kk p l e R s m args below meth c Z hM hK H locs cells slots ls hW hL hc hs hl)
theorem j_alen {a n : Nat} {ty : FieldType} (hd : decode cc pc = .ok (.arraylength, 1)) (hA : jA N κ a ty n) (kk : J G own cc nL ini d Q ac sc (N, κ, ρ, μ, ν) (pc + 1) lo (.int (nI n) :: st)) : J G own cc nL ini d Q ac sc (N, κ, ρ, μ, ν) pc lo (.ref a :: st) := by
  intro p l e R s m args below meth c Z hM hK H locs cells slots ls hW hL hc hs hl
  obtain ⟨cA, hAr, -, hH⟩ := jarr hW hA
  exact W.alen (n := nI n) hM.1 hM.2.1 hH (hAr n _) (by rw [arrV_size]; rfl) rfl rfl hd (kk p l e R s m args below meth c Z hM hK H locs cells slots ls hW hL hc hs hl)
theorem j_iast {a n k : Nat} {i x : Int32} (hd : decode cc pc = .ok (.iastore, 1)) (hA : jA N κ a .int n) (hi : i = nI k) (hk : k < n) (kk : J G own cc nL ini d Q ac sc (N, κ, ρ, jup μ a k x, ν) (pc + 1) lo st) : J G own cc nL ini d Q ac sc (N, κ, ρ, μ, ν) pc lo (.int x :: .int i :: .ref a :: st) := by
  intro p l e R s m args below meth c Z hM hK H locs cells slots ls hW hL hc hs hl
  obtain ⟨cA, hAr, hRA, hH⟩ := jarr hW hA
  obtain ⟨e1, e2⟩ := jclamp hi hk hA.2.2
  refine W.iast hM.1 hM.2.1 hH (hAr n _) (fun q => by cases q) (by rw [arrV_size]; exact e2) rfl rfl hd (fun H' f1 f2 f3 => ?_)
  refine kk p l e R s m args below meth c Z hM hK H' _ cells slots ls (hW.write f2 f3 rfl (fun k hk => ⟨rfl, rfl, jup_ne hk, rfl⟩) ?_) (jloc hL) hc hs hl
  show jcell G s a (κ a) _ _ _ _
  rw [show κ a = .inr (.int, n) from hA.2.1]
  refine ⟨cA, hAr, hRA, ?_⟩
  rw [f1, arrV_store, e1]
  congr 2
  funext q
  simp only [updV, jav, jup_eq]
  by_cases hq : q = k <;> simp [hq]
theorem j_cast {a n k : Nat} {i x : Int32} (hd : decode cc pc = .ok (.castore, 1)) (hA : jA N κ a .char n) (hi : i = nI k) (hk : k < n) (hx : narrow .char (.int x) = .int x) (kk : J G own cc nL ini d Q ac sc (N, κ, ρ, jup μ a k x, ν) (pc + 1) lo st) : J G own cc nL ini d Q ac sc (N, κ, ρ, μ, ν) pc lo (.int x :: .int i :: .ref a :: st) := by
  intro p l e R s m args below meth c Z hM hK H locs cells slots ls hW hL hc hs hl
  obtain ⟨cA, hAr, hRA, hH⟩ := jarr hW hA
  obtain ⟨e1, e2⟩ := jclamp hi hk hA.2.2
  refine W.cast hM.1 hM.2.1 hH (hAr n _) (fun q => by cases q) (by rw [arrV_size]; exact e2) rfl rfl hd (fun H' f1 f2 f3 => ?_)
  refine kk p l e R s m args below meth c Z hM hK H' _ cells slots ls (hW.write f2 f3 rfl (fun k hk => ⟨rfl, rfl, jup_ne hk, rfl⟩) ?_) (jloc hL) hc hs hl
  show jcell G s a (κ a) _ _ _ _
  rw [show κ a = .inr (.char, n) from hA.2.1]
  refine ⟨cA, hAr, hRA, ?_⟩
  rw [f1, arrV_store, e1, hx]
  congr 2
  funext q
  simp only [updV, jav, jup_eq]
  by_cases hq : q = k <;> simp [hq]
theorem j_last {a n k : Nat} {i : Int32} {x : Int64} (hd : decode cc pc = .ok (.lastore, 1)) (hA : jA N κ a .long n) (hi : i = nI k) (hk : k < n) (kk : J G own cc nL ini d Q ac sc (N, κ, ρ, μ, jup ν a k x) (pc + 1) lo st) : J G own cc nL ini d Q ac sc (N, κ, ρ, μ, ν) pc lo (.long x :: .int i :: .ref a :: st) := by
  intro p l e R s m args below meth c Z hM hK H locs cells slots ls hW hL hc hs hl
  obtain ⟨cA, hAr, hRA, hH⟩ := jarr hW hA
  obtain ⟨e1, e2⟩ := jclamp hi hk hA.2.2
  refine W.last hM.1 hM.2.1 hH (hAr n _) (fun q => by cases q) (by rw [arrV_size]; exact e2) rfl rfl hd (fun H' f1 f2 f3 => ?_)
  refine kk p l e R s m args below meth c Z hM hK H' _ cells slots ls (hW.write f2 f3 rfl (fun k hk => ⟨rfl, rfl, rfl, jup_ne hk⟩) ?_) (jloc hL) hc hs hl
  show jcell G s a (κ a) _ _ _ _
  rw [show κ a = .inr (.long, n) from hA.2.1]
  refine ⟨cA, hAr, hRA, ?_⟩
  rw [f1, arrV_store, e1]
  congr 2
  funext q
  simp only [updV, jav, jup_eq]
  by_cases hq : q = k <;> simp [hq]
theorem j_aast {a b n k ci : Nat} {i : Int32} {C : String} {T : u_T} {nf : Nat} (hd : decode cc pc = .ok (.aastore, 1)) (hA : jA N κ a (.object C) n) (hi : i = nI k) (hk : k < n) (ho : jO N κ b ci) (hc0 : vwCl[ci]? = some (C, T, nf)) (kk : J G own cc nL ini d Q ac sc (N, κ, jup ρ a k (some b), μ, ν) (pc + 1) lo st) : J G own cc nL ini d Q ac sc (N, κ, ρ, μ, ν) pc lo (.ref b :: .int i :: .ref a :: st) := by
  intro p l e R s m args below meth c Z hM hK H locs cells slots ls hW hL hc hs hl
  obtain ⟨cA, hAr, hRA, hH⟩ := jarr hW hA
  obtain ⟨e1, e2⟩ := jclamp hi hk hA.2.2
  have hcl := hW.2.2 b ho.1
  dsimp only at hcl
  rw [ho.2] at hcl
  obtain ⟨q, hq, cellV, g1, g2, g3, -⟩ := hcl
  have hcls := (hM.2.2.2.2.2.1.1.1 ci _ hc0).2
  obtain ⟨kA, comp, k1, k2, k3, -⟩ := id hRA
  have hcomp : comp = G.2.1 ci := Option.some.inj (k3.symm.trans hcls.1)
  subst hcomp
  obtain ⟨kC, hkC, -⟩ := id hcls.2
  refine W.aast hM.1 hM.2.1 hH (fun q h => by cases h) (fun h => by cases h) k1 k2 rfl hkC ⟨fun z => e2 (Or.inl z), by rw [arrV_size, e1]; exact hk⟩ g1 (fun q h => by rw [g3] at h; cases h) (by rw [g2]; exact hkC) (by rw [g2]; exact va_assign hcls) rfl rfl hd (fun H' f1 f2 f3 => ?_)
  refine kk p l e R s m args below meth c Z hM hK H' _ cells slots ls (hW.write f2 f3 rfl (fun k hk => ⟨rfl, jup_ne hk, rfl, rfl⟩) ?_) (jloc hL) hc hs hl
  show jcell G s a (κ a) _ _ _ _
  rw [show κ a = .inr (.object C, n) from hA.2.1]
  refine ⟨cA, hAr, hRA, ?_⟩
  rw [f1, arrV_store, e1]
  congr 2
  funext q
  simp only [updV, jav, jup_eq]
  by_cases hq : q = k <;> simp [hq, va_rf]
/-! the script -/
theorem jscr {s : State} {H : Heap} {h : jH} (hS : jS G s) (hW : jWD G s h H) : va_X (jsc G) (jsL G) (jsx G) s H := hS.2.1.kept (hW.2.1 _ hS.2.2.1)
theorem j_sld {k : Nat} {i : Int32} {h : jH} (hd : decode cc pc = .ok (.iaload, 1)) (hi : i = nI k) (hk : k < jsL G) (hn : jsL G < 2 ^ 31) (kk : J G own cc nL ini d Q ac sc h (pc + 1) lo (.int (jsx G k) :: st)) : J G own cc nL ini d Q ac sc h pc lo (.int i :: .float 0 :: st) := by
  intro p l e R s m args below meth c Z hM hK H locs cells slots ls hW hL hc hs hl
  obtain ⟨scr, h1, h2, h3, h4, h5⟩ := jscr hM.2.2.2.2.2.1 hW
  obtain ⟨e1, e2⟩ := jclamp hi hk hn
  exact W.iald (v := .int (jsx G k)) hM.1 hM.2.1 h1 h2 h3 (by rw [h4]; exact e2) (by rw [e1]; exact h5 k hk) rfl rfl hd (kk p l e R s m args below meth c Z hM hK H locs cells slots ls hW hL hc hs hl)
theorem j_slen {h : jH} (hd : decode cc pc = .ok (.arraylength, 1)) (kk : J G own cc nL ini d Q ac sc h (pc + 1) lo (.int (nI (jsL G)) :: st)) : J G own cc nL ini d Q ac sc h pc lo (.float 0 :: st) := by
  intro p l e R s m args below meth c Z hM hK H locs cells slots ls hW hL hc hs hl
  obtain ⟨scr, h1, h2, h3, h4, h5⟩ := jscr hM.2.2.2.2.2.1 hW
  exact W.alen (n := nI (jsL G)) hM.1 hM.2.1 h1 h2 (by rw [h4]; rfl) rfl rfl hd (kk p l e R s m args below meth c Z hM hK H locs cells slots ls hW hL hc hs hl)
end JR2
end
section
/-! CALLS -/
section JC
variable {G : jG} {own : String} {cc : ByteArray} {nL : Nat} {ini : Bool} {d : Nat} {h h' : jH} {pc : Nat}
variable {p : Program} {l : Launch} {e : Env} {R : Room} {s : State} {m : MethodId} {args : Array Value} {below : List Frame} {meth : Method} {c : Code} {H : Heap} {locs : List Loc} {cells slots : Nat} {Z : State → Prop} {ls : Array Slot} {rest st0 : List Value} {v : Option Value} {a : Array Value} {mc ms : Nat}
/-- behind a call -/
theorem jW_run (hr : va_Run p l e R s m args below meth c H locs cells slots mc ms (F0 m pc ls st0) rest (jQc G v h' a) (fun q => jB G ≤ q)) (hL : ∀ q ∈ locs, jB G ≤ q.base)
    (kk : ∀ (H1 : Heap) (locs1 : List Loc), jWD G s h' H1 → (∀ q ∈ locs1, jB G ≤ q.base) → W p l e R s m args below meth c H1 locs1 (cells + mc) (slots + ms) Z (F0 m (pc + 3) ls ((v.map (jtr G)).toList ++ rest))) : W p l e R s m args below meth c H locs cells slots Z (F0 m pc ls st0) := by
  intro T hT X
  obtain ⟨v', st₀, t, T', L, h0, X', hL', e1, e2, hq, st⟩ := hr T hT X
  obtain ⟨hv, hw⟩ := hq
  have hv' : v' = v.map (jtr G) := Outcome.returned.inj hv
  subst hv'
  have hal : s.vm.Alike t.vm := by rw [← e2]; exact X'.warmed.alike
  obtain ⟨t2, a1, b1⟩ := kk T'.heap (locs ++ L) (by rw [e1]; exact hw.moved hal.symm) (fun q hq => by
    rcases List.mem_append.mp hq with z | z
    · exact hL q z
    · exact hL' q z) T' rfl X'
  exact ⟨t2, st t2 a1, b1⟩
/-- the callee's start, out of the caller's world -/
theorem jpreS (hM : jM G own cc nL ini d p R s m args meth c) (hW : jWD G s h H) (av : List Value) : PreS s H (jPc G av h) (av.map (jtr G)) := ⟨jPc_blind G av h, fun U hU hWd => ⟨rfl, by rw [hU]; exact hW.moved hWd.alike, jS.moved hWd hM.2.2.2.2.2.1⟩⟩
theorem jgood {y : MethodName} {bytes : ByteArray} {maxL n : Nat} {ret : Option FieldType} (hy : jMY y bytes maxL ret n) : GoodIn jTs (Cond.code y bytes maxL ret :: jTs) := fun w hw => (List.mem_cons.mp hw).elim (fun e => by rw [e]; exact jTs_good _ hy.1) (fun z => jTs_good w z)
theorem jroom {d' maxL : Nat} {mc ms : Nat} (hM : jM G own cc nL ini d p R s m args meth c) (hd : d' + 1 ≤ d) (hm : maxL ≤ 45) : (({ frames := d', cells := mc, slots := ms, locals := 64 * d' } : Room).frames + 1 ≤ R.frames ∧ 8 + (maxL + 11) + ({ frames := d', cells := mc, slots := ms, locals := 64 * d' } : Room).locals ≤ R.locals) := by
  obtain ⟨-, -, -, -, -, -, h1, h2, -⟩ := hM
  exact ⟨by show d' + 1 ≤ R.frames; omega, by show 8 + (maxL + 11) + 64 * d' ≤ R.locals; omega⟩
end JC
section JR3
variable {G : jG} {own : String} {cc : ByteArray} {nL : Nat} {ini : Bool} {d : Nat} {Q : Option Value → jH → Prop} {ac sc : Nat} {pc : Nat} {lo : List (Option Value)} {st : List Value} {h h' : jH} {v : Option Value}
variable {y : MethodName} {cc' : ByteArray} {nL' n d' mc ms idx : Nat} {ret' : Option FieldType}
theorem jcat (G : jG) (st : List Value) : ((st.map (jtr G)).map fun v => v.category).sum = (st.map fun v => v.category).sum := by
  rw [List.map_map]
  congr 1
  apply List.map_congr_left
  intro v _
  exact jtr_cat G v
theorem jg_callV {a ci : Nat} {As : List Value} {stk : List Value} (hd : decode cc pc = .ok (.invokevirtual idx, 3)) (hM' : MT G y cc' nL' ret' d' mc ms (.ref a :: As) h v h') (hl : Cond.methodLink own idx y ∈ jTs) (hy : jMY y cc' nL' ret' n) (hi : Cond.instanceMethod y ∈ jTs ∧ Cond.selects y.cls y y ∈ jTs) (ho : jO h.1 h.2.1 a ci) (hc0 : vwCl[ci]?.map (fun q => q.1) = some y.cls) (hn : As.length = n) (hdd : d' + 1 ≤ d) (hm : nL' ≤ 45) (hst : (st.map fun v => v.category).sum ≤ 8) (hstk : stk = As.reverse ++ .ref a :: st)
    (k : J G own cc nL ini d Q ac sc h' (pc + 3) lo (v.toList ++ st)) : J G own cc nL ini d Q (ac + mc) (sc + ms) h pc lo stk := by
  subst hstk
  intro p l e R s m args below meth c Z hM hK H locs cells slots ls hW hL hc hs hls
  have hM0 := hM
  obtain ⟨hx, hb, hml, hown, hts, hS, -⟩ := hM0
  have hcl := hW.2.2 a ho.1
  rw [ho.2] at hcl
  obtain ⟨q, hq, cell, q1, q2, q3, -⟩ := hcl
  have hqc : q.1 = y.cls := by rw [hq] at hc0; exact Option.some.inj hc0
  have hrecv : ∃ cell : Cell, H[jB G + a]? = some cell ∧ cell.vm.isStatics = false ∧ s.vm.findClass y.cls = some cell.cls := ⟨cell, q1, by rw [q3]; rfl, by rw [q2, ← hqc]; exact (hS.1.1 ci q hq).2.1⟩
  have hG : GoodIn jTs (wsV own idx y.cls y (Cond.code y cc' nL' ret' :: jTs)) := by
    intro w hw
    rcases List.mem_append.mp hw with z | z
    · simp only [List.mem_cons, List.not_mem_nil, or_false] at z
      rcases z with rfl | rfl | rfl | rfl
      · exact jTs_good _ hl
      · exact jTs_good _ hi.1
      · exact jTs_good _ hi.2
      · exact jTs_good _ hy.2.1
    · exact jgood hy w z
  have hrun := va_runV (l := l) (e := e) (below := below) (meth := meth) (locs := locs) (cells := cells) (slots := slots) (As := As.map (jtr G)) (rest := st.map (jtr G)) (b := jB G + a) (C := y.cls) (g := F0 m pc ls ((As.reverse ++ .ref a :: st).map (jtr G))) ⟨hx, hb, hml, hown, hts⟩ (hM' l) (cwV n hts hG rfl rfl rfl ⟨rfl, hy.2.2.1⟩ (jroom hM hdd hm)) ⟨jPc_blind G _ h, hrecv, (jpreS hM hW (.ref a :: As)).2⟩ rfl (by rw [List.length_map]; exact hn) hls.2.1 (by simp [jtr]) (lv_room (by rw [jcat]; exact hst)) hd ⟨by omega, by omega⟩
  refine jW_run hrun hL (fun H1 locs1 hW1 hL1 => ?_)
  have := k p l e R s m args below meth c Z hM hK H1 locs1 (cells + mc) (slots + ms) ls hW1 hL1 (by omega) (by omega) hls
  rw [List.map_append] at this
  cases v <;> exact this
theorem jg_callS {As : List Value} {stk : List Value} (hd : decode cc pc = .ok (.invokestatic idx, 3)) (hM' : MT G y cc' nL' ret' d' mc ms As h v h') (hl : Cond.methodLink own idx y ∈ jTs) (hy : jMY y cc' nL' ret' n) (hi : Cond.static y ∈ jTs) (hn : As.length = n) (hdd : d' + 1 ≤ d) (hm : nL' ≤ 45) (hst : (st.map fun v => v.category).sum ≤ 8) (hstk : stk = As.reverse ++ st)
    (k : J G own cc nL ini d Q ac sc h' (pc + 3) lo (v.toList ++ st)) : J G own cc nL ini d Q (ac + mc) (sc + ms) h pc lo stk := by
  subst hstk
  intro p l e R s m args below meth c Z hM hK H locs cells slots ls hW hL hc hs hls
  have hM0 := hM
  obtain ⟨hx, hb, hml, hown, hts, hS, -⟩ := hM0
  have hrun := va_runS (l := l) (e := e) (below := below) (meth := meth) (locs := locs) (cells := cells) (slots := slots) (As := As.map (jtr G)) (rest := st.map (jtr G)) (g := F0 m pc ls ((As.reverse ++ st).map (jtr G))) ⟨hx, hb, hml, hown, hts⟩ (hM' l) ⟨callB_of n hts (jgood hy) rfl rfl rfl (hts _ hy.2.1) (hts _ hl) hy.2.2.1 (jroom hM hdd hm), hts _ hi⟩ (jpreS hM hW As) rfl (by rw [List.length_map]; exact hn) hls.2.1 (by simp) (lv_room (by rw [jcat]; exact hst)) hd ⟨by omega, by omega⟩
  refine jW_run hrun hL (fun H1 locs1 hW1 hL1 => ?_)
  have := k p l e R s m args below meth c Z hM hK H1 locs1 (cells + mc) (slots + ms) ls hW1 hL1 (by omega) (by omega) hls
  rw [List.map_append] at this
  cases v <;> exact this
theorem jg_callSN {As : List Value} {stk : List Value} {host : String} (hd : decode cc pc = .ok (.invokestatic idx, 3)) (hM' : MT G y cc' nL' ret' d' mc ms As h v h') (hl : ∀ s : State, jS G s → va_Nw (.methodLinkNest own idx y host) s) (hy : jMY y cc' nL' ret' n) (hi : Cond.static y ∈ jTs) (hn : As.length = n) (hdd : d' + 1 ≤ d) (hm : nL' ≤ 45) (hst : (st.map fun v => v.category).sum ≤ 8) (hstk : stk = As.reverse ++ st)
    (k : J G own cc nL ini d Q ac sc h' (pc + 3) lo (v.toList ++ st)) : J G own cc nL ini d Q (ac + mc) (sc + ms) h pc lo stk := by
  subst hstk
  intro p l e R s m args below meth c Z hM hK H locs cells slots ls hW hL hc hs hls
  have hM0 := hM
  obtain ⟨hx, hb, hml, hown, hts, hS, -⟩ := hM0
  have hrun := va_runSN (l := l) (e := e) (below := below) (meth := meth) (locs := locs) (cells := cells) (slots := slots) (As := As.map (jtr G)) (rest := st.map (jtr G)) (g := F0 m pc ls ((As.reverse ++ st).map (jtr G))) ⟨hx, hb, hml, hown, hts⟩ (hM' l) ⟨va_cnB n hts (jgood hy) rfl rfl rfl (hl s hS) (hts _ hy.2.1) hy.2.2.1 (jroom hM hdd hm), hts _ hi, trivial⟩ (jpreS hM hW As) rfl (by rw [List.length_map]; exact hn) hls.2.1 (by simp) (lv_room (by rw [jcat]; exact hst)) hd ⟨by omega, by omega⟩
  refine jW_run hrun hL (fun H1 locs1 hW1 hL1 => ?_)
  have := k p l e R s m args below meth c Z hM hK H1 locs1 (cells + mc) (slots + ms) ls hW1 hL1 (by omega) (by omega) hls
  rw [List.map_append] at this
  cases v <;> exact this
theorem jg_callI {a : Nat} {As : List Value} {stk : List Value} (hd : decode cc pc = .ok (.invokespecial idx, 3)) (hM' : MT G y cc' nL' none d' mc ms (.ref a :: As) h v h') (hl : Cond.methodLink own idx y ∈ jTs) (hy : jMY y cc' nL' none n) (hi : Cond.instanceMethod y ∈ jTs) (hyn : y.name = "<init>") (hn : As.length = n) (hdd : d' + 1 ≤ d) (hm : nL' ≤ 45) (hst : (st.map fun v => v.category).sum ≤ 8) (hstk : stk = As.reverse ++ .ref a :: st)
    (k : J G own cc nL ini d Q ac sc h' (pc + 3) lo (v.toList ++ st)) : J G own cc nL ini d Q (ac + mc) (sc + ms) h pc lo stk := by
  subst hstk
  intro p l e R s m args below meth c Z hM hK H locs cells slots ls hW hL hc hs hls
  have hM0 := hM
  obtain ⟨hx, hb, hml, hown, hts, hS, -⟩ := hM0
  have hrun := va_runI (l := l) (e := e) (below := below) (meth := meth) (locs := locs) (cells := cells) (slots := slots) (As := As.map (jtr G)) (rest := st.map (jtr G)) (b := jB G + a) (g := F0 m pc ls ((As.reverse ++ .ref a :: st).map (jtr G))) ⟨hx, hb, hml, hown, hts⟩ (hM' l) (cwI n hts (jgood hy) rfl rfl rfl (hts _ hy.2.1) (hts _ hl) (hts _ hi) hyn hy.2.2.1 (jroom hM hdd hm)) (jpreS hM hW (.ref a :: As)) rfl (by rw [List.length_map]; exact hn) hls.2.1 (by simp [jtr]) (lv_room (by rw [jcat]; exact hst)) hd ⟨by omega, by omega⟩
  refine jW_run hrun hL (fun H1 locs1 hW1 hL1 => ?_)
  have := k p l e R s m args below meth c Z hM hK H1 locs1 (cells + mc) (slots + ms) ls hW1 hL1 (by omega) (by omega) hls
  rw [List.map_append] at this
  cases v <;> exact this
theorem jg_callIN {a : Nat} {As : List Value} {stk : List Value} {host : String} (hd : decode cc pc = .ok (.invokespecial idx, 3)) (hM' : MT G y cc' nL' none d' mc ms (.ref a :: As) h v h') (hl : ∀ s : State, jS G s → va_Nw (.methodLinkNest own idx y host) s) (hy : jMY y cc' nL' none n) (hi : Cond.instanceMethod y ∈ jTs) (hyn : y.name = "<init>") (hn : As.length = n) (hdd : d' + 1 ≤ d) (hm : nL' ≤ 45) (hst : (st.map fun v => v.category).sum ≤ 8) (hstk : stk = As.reverse ++ .ref a :: st)
    (k : J G own cc nL ini d Q ac sc h' (pc + 3) lo (v.toList ++ st)) : J G own cc nL ini d Q (ac + mc) (sc + ms) h pc lo stk := by
  subst hstk
  intro p l e R s m args below meth c Z hM hK H locs cells slots ls hW hL hc hs hls
  have hM0 := hM
  obtain ⟨hx, hb, hml, hown, hts, hS, -⟩ := hM0
  have hrun := va_runIN (l := l) (e := e) (below := below) (meth := meth) (locs := locs) (cells := cells) (slots := slots) (As := As.map (jtr G)) (rest := st.map (jtr G)) (b := jB G + a) (g := F0 m pc ls ((As.reverse ++ .ref a :: st).map (jtr G))) ⟨hx, hb, hml, hown, hts⟩ (hM' l) ⟨va_cnB n hts (jgood hy) rfl rfl rfl (hl s hS) (hts _ hy.2.1) hy.2.2.1 (jroom hM hdd hm), hyn, hts _ hi⟩ (jpreS hM hW (.ref a :: As)) rfl (by rw [List.length_map]; exact hn) hls.2.1 (by simp [jtr]) (lv_room (by rw [jcat]; exact hst)) hd ⟨by omega, by omega⟩
  refine jW_run hrun hL (fun H1 locs1 hW1 hL1 => ?_)
  have := k p l e R s m args below meth c Z hM hK H1 locs1 (cells + mc) (slots + ms) ls hW1 hL1 (by omega) (by omega) hls
  rw [List.map_append] at this
  cases v <;> exact this
/-- Object's own constructor -/
theorem j_objInit {a : Nat} (hd : decode cc pc = .ok (.invokespecial idx, 3)) (hl : Cond.methodLink own idx objectInit ∈ jTs) (hi : Cond.instanceMethod objectInit ∈ jTs) (hco : Cond.code objectInit ⟨#[0xb1]⟩ 1 none ∈ jTs) (hdd : 1 ≤ d) (hst : (st.map fun v => v.category).sum ≤ 8) (k : J G own cc nL ini d Q ac sc h (pc + 3) lo st) : J G own cc nL ini d Q ac sc h pc lo (.ref a :: st) := by
  intro p l e R s m args below meth c Z hM hK H locs cells slots ls hW hL hc hs hls
  have hM0 := hM
  obtain ⟨hx, hb, hml, hown, hts, hS, hf, hlo, -⟩ := hM0
  refine W.objInit hx hb hown (hts _ hl) (hts _ hi) (hts _ hco) rfl (by rw [hml]; exact hls.2.1) rfl hd (by omega) ?_ (k p l e R s m args below meth c Z hM hK H locs cells slots ls hW hL hc hs hls)
  show 2 * 0 + ((st.map (jtr G)).map fun v => v.category).sum + 12 ≤ R.locals
  rw [jcat]
  omega
theorem j_mmin {x z : Int32} (hd : decode cc pc = .ok (.invokestatic idx, 3)) (hl : Cond.methodLink own idx yJ9_min_7cf53 ∈ jTs) (hdd : 1 ≤ d) (hst : (st.map fun v => v.category).sum ≤ 8) (k : J G own cc nL ini d Q ac sc h (pc + 3) lo (.int (if z < x then z else x) :: st)) : J G own cc nL ini d Q ac sc h pc lo (.int z :: .int x :: st) := by
  intro p l e R s m args below meth c Z hM hK H locs cells slots ls hW hL hc hs hls
  have hM0 := hM
  obtain ⟨hx, hb, hml, hown, hts, hS, hf, hlo, -⟩ := hM0
  exact va_mmin hx hb (by rw [hml]; exact hls.2.1.symm) hown (hts _ hl) (hts _ ms_J9_min) (hts _ in_J9) (hts _ co_J9_min) (by omega) (by rw [jcat]; omega) (by omega) (by omega) hd (k p l e R s m args below meth c Z hM hK H locs cells slots ls hW hL hc hs hls)
theorem j_mmax {x z : Int32} (hd : decode cc pc = .ok (.invokestatic idx, 3)) (hl : Cond.methodLink own idx yJ9_max_7cf53 ∈ jTs) (hdd : 1 ≤ d) (hst : (st.map fun v => v.category).sum ≤ 8) (k : J G own cc nL ini d Q ac sc h (pc + 3) lo (.int (if x < z then z else x) :: st)) : J G own cc nL ini d Q ac sc h pc lo (.int z :: .int x :: st) := by
  intro p l e R s m args below meth c Z hM hK H locs cells slots ls hW hL hc hs hls
  have hM0 := hM
  obtain ⟨hx, hb, hml, hown, hts, hS, hf, hlo, -⟩ := hM0
  exact va_mmax hx hb (by rw [hml]; exact hls.2.1.symm) hown (hts _ hl) (hts _ ms_J9_max) (hts _ in_J9) (hts _ co_J9_max) (by omega) (by rw [jcat]; omega) (by omega) (by omega) hd (k p l e R s m args below meth c Z hM hK H locs cells slots ls hW hL hc hs hls)
end JR3
end
section
/-! MAKING CELLS, COPYING ROWS -/
def jkd (κ : Nat → jK) (N : Nat) (x : jK) : Nat → jK := fun k => if k = N then x else κ k
theorem jkd_ne {κ : Nat → jK} {N k : Nat} {x : jK} (h : k ≠ N) : jkd κ N x k = κ k := if_neg h
theorem jkd_eq (κ : Nat → jK) (N : Nat) (x : jK) : jkd κ N x N = x := if_pos rfl
def jCF (ci : Nat) (C : String) (T : u_T) (n : Nat) : Prop := vwCl[ci]? = some (C, T, n) ∧ (∀ w ∈ u_ws C T n, w ∈ jTs) ∧ Cond.instantiable C n ∈ jTs ∧ Cond.initialized C ∈ jTs ∧ ∃ ty0 : Nat → FieldType, (∀ k, k < n → parseFieldDescriptor (T k).2.2.1 = some (ty0 k)) ∧ ∀ k, k < n → defaultValue (ty0 k) = if jrf ci k = true then .null else .int 0
theorem jcf_0 : jCF 0 RX0 TX0 4 := ⟨rfl, jinX0, is_X0, in_X0, tyX0, tyX0_ok, by decide +kernel⟩
theorem jcf_1 : jCF 1 RX1 TX1 8 := ⟨rfl, jinX1, is_X1, in_X1, tyX1, tyX1_ok, by decide +kernel⟩
theorem jcf_2 : jCF 2 RX2 TX2 3 := ⟨rfl, jinX2, is_X2, in_X2, tyX2, tyX2_ok, by decide +kernel⟩
theorem jcf_3 : jCF 3 RX3 TX3 6 := ⟨rfl, jinX3, is_X3, in_X3, tyX3, tyX3_ok, by decide +kernel⟩
theorem jcf_4 : jCF 4 RX4 TX4 3 := ⟨rfl, jinX4, is_X4, in_X4, tyX4, tyX4_ok, by decide +kernel⟩
theorem jcf_5 : jCF 5 RX5 TX5 8 := ⟨rfl, jinX5, is_X5, in_X5, tyX5, tyX5_ok, by decide +kernel⟩
theorem jcf_6 : jCF 6 RX6 TX6 10 := ⟨rfl, jinX6, is_X6, in_X6, tyX6, tyX6_ok, by decide +kernel⟩
theorem jcf_7 : jCF 7 RX7 TX7 25 := ⟨rfl, jinX7, is_X7, in_X7, tyX7, tyX7_ok, by decide +kernel⟩
section JR4
variable {G : jG} {own : String} {cc : ByteArray} {nL : Nat} {ini : Bool} {d : Nat} {Q : Option Value → jH → Prop} {ac sc : Nat} {pc : Nat} {lo : List (Option Value)} {st : List Value}
variable {N : Nat} {κ : Nat → jK} {ρ : Nat → Nat → Option Nat} {μ : Nat → Nat → Int32} {ν : Nat → Nat → Int64}
theorem j_new {ci idx n : Nat} {C : String} {T : u_T} (hd : decode cc pc = .ok (.new idx, 3)) (hcl : Cond.classLink own idx C ∈ jTs) (hC : jCF ci C T n) (k : J G own cc nL ini d Q ac sc (N + 1, jkd κ N (.inl ci), jrow ρ N (fun _ => none), jrow μ N (fun _ => 0), ν) (pc + 3) lo (.ref N :: st)) : J G own cc nL ini d Q (ac + 1) (sc + n) (N, κ, ρ, μ, ν) pc lo st := by
  intro p l e R s m args below meth c Z hM hK H locs cells slots ls hW hL hc hs hls
  have hM0 := hM
  obtain ⟨hx, hb, hml, hown, hts, hS, -⟩ := hM0
  obtain ⟨hvc, hin, hinst, hini, ty0, hty, hdef⟩ := hC
  have hKn := hS.1.1 ci _ hvc
  refine W.newcK hx hb hown (hts _ hcl) (hts _ hinst) (hts _ hini) rfl hd (by omega) (by omega) hKn.2.1 (h := jB G + N) hW.1 (fun H' kC hkC e1 z1 o1 => ?_)
  have hz : H.size = jB G + N := hW.1
  refine k p l e R s m args below meth c Z hM hK H' locs (cells + 1) (slots + n) ls (hW.push (by rw [z1, hz]) (fun q hq => o1 q (by rw [← hz]; exact hq)) rfl (fun k hk => ⟨jkd_ne (Nat.ne_of_lt hk), jrow_ne (Nat.ne_of_lt hk), jrow_ne (Nat.ne_of_lt hk), rfl⟩) ?_) hL (by omega) (by omega) hls
  show jcell G s N (jkd κ N (.inl ci) N) (jrow ρ N (fun _ => none) N) (jrow μ N (fun _ => 0) N) (ν N) H'
  rw [jkd_eq, jrow_eq, jrow_eq]
  refine ⟨_, hvc, (u_born ty0 hts hin hKn hkC e1 hty).to (fun j hj => ?_)⟩
  rw [hdef j hj]
  rfl
theorem j_newa {idx len : Nat} {x : Int32} {atype : ArrayType} (hd : decode cc pc = .ok (.newarray atype, 2)) (hac : Cond.arrayClass (newarray.typeOf atype) ∈ jTs) (hx : x = nI len) (hl : len ≤ 100000) (hat : atype = .int ∨ atype = .char ∨ atype = .long) (k : J G own cc nL ini d Q ac sc (N + 1, jkd κ N (.inr (newarray.typeOf atype, len)), jrow ρ N (fun _ => none), jrow μ N (fun _ => 0), jrow ν N (fun _ => 0)) (pc + 2) lo (.ref N :: st)) : J G own cc nL ini d Q (ac + 1) (sc + len) (N, κ, ρ, μ, ν) pc lo (.int x :: st) := by
  intro p l e R s m args below meth c Z hM hK H locs cells slots ls hW hL hc hs hls
  have hM0 := hM
  obtain ⟨hx0, hb, hml, hown, hts, hS, -⟩ := hM0
  have hz : H.size = jB G + N := hW.1
  have hb8 : componentBytes (newarray.typeOf atype) ≤ 8 := by rcases hat with rfl | rfl | rfl <;> decide
  have hbm : len * componentBytes (newarray.typeOf atype) ≤ len * 8 := Nat.mul_le_mul_left _ hb8
  refine va_newaK hx0 hb (hts _ hac) rfl hd rfl (by rw [hx]; exact nI_pos (by omega)) (N := len) (by rw [hx]; exact nI_clamp (by omega)) (by omega) (by omega) (by omega) hz (fun H1 cA e1 z1 o1 hAr hNm => ?_)
  refine k p l e R s m args below meth c Z hM hK H1 locs (cells + 1) (slots + len) ls (hW.push (by rw [z1, hz]) (fun q hq => o1 q (by rw [← hz]; exact hq)) rfl (fun k hk => ⟨jkd_ne (Nat.ne_of_lt hk), jrow_ne (Nat.ne_of_lt hk), jrow_ne (Nat.ne_of_lt hk), jrow_ne (Nat.ne_of_lt hk)⟩) ?_) hL (by omega) (by omega) hls
  show jcell G s N (jkd κ N (.inr (newarray.typeOf atype, len)) N) (jrow ρ N (fun _ => none) N) (jrow μ N (fun _ => 0) N) (jrow ν N (fun _ => 0) N) H1
  rw [jkd_eq, jrow_eq, jrow_eq, jrow_eq]
  refine ⟨cA, hAr, by rcases hat with rfl | rfl | rfl <;> exact hNm, ?_⟩
  rw [e1]
  rcases hat with rfl | rfl | rfl <;> rfl
theorem j_anew {idx len : Nat} {x : Int32} (hd : decode cc pc = .ok (.anewarray idx, 3)) (hcl : Cond.classLink own idx RX5 ∈ jTs) (hx : x = nI len) (hl : len ≤ 100000) (k : J G own cc nL ini d Q ac sc (N + 1, jkd κ N (.inr (.object RX5, len)), jrow ρ N (fun _ => none), jrow μ N (fun _ => 0), jrow ν N (fun _ => 0)) (pc + 3) lo (.ref N :: st)) : J G own cc nL ini d Q (ac + 1) (sc + len) (N, κ, ρ, μ, ν) pc lo (.int x :: st) := by
  intro p l e R s m args below meth c Z hM hK H locs cells slots ls hW hL hc hs hls
  have hM0 := hM
  obtain ⟨hx0, hb, hml, hown, hts, hS, -⟩ := hM0
  have hz : H.size = jB G + N := hW.1
  have hlc : x.toNatClampNeg = len := by rw [hx]; exact nI_clamp (by omega)
  refine W.anew hx0 hb hown (hts _ hcl) (va_AO.use hS.2.2.2.1) rfl hd rfl (by rw [hx]; exact nI_pos (by omega)) (by omega) (by omega) (by omega) (fun cA kA comp f1 f2 f3 f4 => ?_)
  rw [hlc, hz]
  generalize hH1 : H.push ({ cls := cA, slots := Array.replicate len .null, vm := .none } : Cell) = H1
  have z1 : H1.size = H.size + 1 := by rw [← hH1, Array.size_push]
  have e1 : H1[H.size]? = some (arrV cA len (fun _ => .null)) := by rw [← hH1, Array.getElem?_push_size, ← arrV_new]
  have o1 : ∀ q : Nat, q < H.size → H1[q]? = H[q]? := fun q hq => by rw [← hH1, Array.getElem?_push, if_neg (Nat.ne_of_lt hq)]
  have hAr : ArrOfT s cA (.object RX5) := fun N z => ⟨(fun k h => by cases h), kA, f2, comp, f3⟩
  refine k p l e R s m args below meth c Z hM hK H1 locs (cells + 1) (slots + len) ls (hW.push z1 o1 rfl (fun k hk => ⟨jkd_ne (Nat.ne_of_lt hk), jrow_ne (Nat.ne_of_lt hk), jrow_ne (Nat.ne_of_lt hk), jrow_ne (Nat.ne_of_lt hk)⟩) ?_) hL (by omega) (by omega) hls
  show jcell G s N (jkd κ N (.inr (.object RX5, len)) N) (jrow ρ N (fun _ => none) N) (jrow μ N (fun _ => 0) N) (jrow ν N (fun _ => 0) N) H1
  rw [jkd_eq, jrow_eq, jrow_eq, jrow_eq]
  refine ⟨cA, hAr, ⟨kA, comp, f2, f3, f4, f1⟩, ?_⟩
  rw [← hz, e1]
  rfl
theorem j_copyi {src dst n0 n1 k idx : Nat} {x : Int32} (hd : decode cc pc = .ok (.invokestatic idx, 3)) (hl : Cond.methodLink own idx arraycopyName ∈ jTs) (hA0 : jA N κ src .int n0) (hA1 : jA N κ dst .int n1) (hx : x = nI k) (h0 : k ≤ n0) (h1 : k ≤ n1) (hdd : 1 ≤ d) (hst : (st.map fun v => v.category).sum ≤ 8) (kk : J G own cc nL ini d Q ac sc (N, κ, ρ, jrow μ dst (fun j => if j < k then μ src j else μ dst j), ν) (pc + 3) lo st) : J G own cc nL ini d Q ac sc (N, κ, ρ, μ, ν) pc lo (.int x :: .int 0 :: .ref dst :: .int 0 :: .ref src :: st) := by
  intro p l e R s m args below meth c Z hM hK H locs cells slots ls hW hL hc hs hls
  have hM0 := hM
  obtain ⟨hx0, hb, hml, hown, hts, hS, hf, hlo, -⟩ := hM0
  obtain ⟨c0, hAr0, -, hH0⟩ := jarr hW hA0
  obtain ⟨c1, hAr1, hRA1, hH1⟩ := jarr hW hA1
  have hk31 : k < 2 ^ 31 := Nat.lt_of_le_of_lt h0 hA0.2.2
  have ek : x.toNatClampNeg = k := by rw [hx]; exact nI_clamp hk31
  have ei : x.toInt = (k : Int) := by rw [hx]; exact nI_toInt hk31
  obtain ⟨-, k0, hk0, cm0, hkk0⟩ := hAr0 n0 (fun j => .int (μ src j))
  obtain ⟨-, k1, hk1, cm1, hkk1⟩ := hAr1 n1 (fun j => .int (μ dst j))
  intro T hT X
  obtain ⟨vm', X', step⟩ := X.arraycopy hx0 hown (hts _ hl) (hts _ an_cpy) (hts _ as_cpy) (hts _ in_sys) (src := jB G + src) (dst := jB G + dst) (cs := arrV c0 n0 (fun j => .int (μ src j))) (cd := arrV c1 n1 (fun j => .int (μ dst j))) (srcPos := 0) (destPos := 0) (n := x) (by rw [hT]; exact hH0) (by rw [hT]; exact hH1)
    (fun _ h => by cases h) (fun _ h => by cases h) (fun h => by cases h) (fun h => by cases h) hk0 hk1 hkk0 hkk1 (by decide) (by decide) (by decide) (by rw [hx]; exact nI_pos hk31)
    (by rw [ei, arrV_size]; simp; omega) (by rw [ei, arrV_size]; simp; omega)
    (fun vm₁ _ i hi => by
      have e1 : (arrV c0 n0 (fun j => .int (μ src j))).slots.getD ((0 : Int32).toNatClampNeg + i) .null = .int (μ src ((0 : Int32).toNatClampNeg + i)) := by
        have z0 : (0 : Int32).toNatClampNeg = 0 := by decide
        rw [Array.getD_eq_getD_getElem?, arrV_read _ _ (by rw [z0]; omega)]
        rfl
      rw [e1]
      exact ⟨rfl, trivial⟩)
    (g := F0 m pc ls (.int x :: .int 0 :: .ref (jB G + dst) :: .int 0 :: .ref (jB G + src) :: st.map (jtr G))) rfl (by rw [hml]; exact hls.2.1) (rest := st.map (jtr G)) rfl (by rw [hb]; exact hd) (by omega) (by
      show 2 * 0 + ((st.map (jtr G)).map fun v => v.category).sum + (nativeFrameWords "java/lang/System" "arraycopy" 5 + 11) ≤ R.locals
      rw [jcat]
      have : nativeFrameWords "java/lang/System" "arraycopy" 5 + 11 ≤ 50 := by decide
      omega)
  have z0 : (0 : Int32).toNatClampNeg = 0 := by decide
  have e1 : copied (arrV c0 n0 (fun j => .int (μ src j))) (arrV c1 n1 (fun j => .int (μ dst j))) 0 0 x = arrV c1 n1 (fun j => .int (va_cpy (μ src) (μ dst) 0 0 k j)) := by
    have := va_copied (fun z => Value.int z) c0 c1 (n0 := n0) (n1 := n1) (sp := 0) (dp := 0) (n := k) (μ src) (μ dst) (by omega)
    rw [← this, ← ek, ← z0]
  rw [e1] at X' step
  have hlt : jB G + dst < H.size := (Array.getElem?_eq_some_iff.mp hH1).1
  have hheap : ((T.setVm vm').setCell (jB G + dst) (arrV c1 n1 (fun j => .int (va_cpy (μ src) (μ dst) 0 0 k j)))).heap = H.setIfInBounds (jB G + dst) (arrV c1 n1 (fun j => .int (va_cpy (μ src) (μ dst) 0 0 k j))) := by rw [← hT]; rfl
  have oq : ∀ q : Nat, q ≠ jB G + dst → (H.setIfInBounds (jB G + dst) (arrV c1 n1 (fun j => .int (va_cpy (μ src) (μ dst) 0 0 k j))))[q]? = H[q]? := fun q hq => by simp [Array.getElem?_setIfInBounds, Ne.symm hq]
  obtain ⟨t, a1, b1⟩ := kk p l e R s m args below meth c Z hM hK _ _ cells slots ls (hW.write (H' := H.setIfInBounds (jB G + dst) (arrV c1 n1 (fun j => .int (va_cpy (μ src) (μ dst) 0 0 k j)))) (h' := (N, κ, ρ, jrow μ dst (fun j => if j < k then μ src j else μ dst j), ν)) (by simp) oq rfl (fun k hk => ⟨rfl, rfl, jrow_ne hk, rfl⟩) (by
      show jcell G s dst (κ dst) (ρ dst) (jrow μ dst (fun j => if j < k then μ src j else μ dst j) dst) (ν dst) _
      rw [show κ dst = .inr (.int, n1) from hA1.2.1, jrow_eq]
      refine ⟨c1, hAr1, hRA1, ?_⟩
      rw [Array.getElem?_setIfInBounds_self_of_lt hlt]
      congr 2
      funext j
      simp [jav, va_cpy])) (fun q hq => by
      rcases List.mem_append.mp hq with z | z
      · exact hL q z
      · obtain ⟨w, -, hw⟩ := List.mem_map.mp z
        rw [← hw]
        exact Nat.le_add_right _ _) hc hs hls _ hheap X'
  exact ⟨t, step t a1, b1⟩
end JR4
end
section
/-! STORES BY THEIR PLACE, BRANCHES IN BOTH FORMS, CALLS BY THEIR ARITY -/
/-- not a long -/
def jnl : Option Value → Bool
  | some (.long _) => false
  | some (.double _) => false
  | _ => true
theorem jnl_cat {w : Value} (h : jnl (some w) = true) : ¬ w.category = 2 := by
  cases w <;> simp [jnl, Value.category] at h ⊢
theorem jnl_at {a : Option Value} {w : Value} (hn : jnl a = true) (hw : some a = some (some w)) : ¬ w.category = 2 := by
  have : a = some w := Option.some.inj hw
  subst this
  exact jnl_cat hn
section JR5
variable {G : jG} {own : String} {cc : ByteArray} {nL : Nat} {ini : Bool} {d : Nat} {Q : Option Value → jH → Prop} {ac sc : Nat} {pc : Nat} {st : List Value} {h : jH} {r : List (Option Value)}
theorem jput_set {lo : List (Option Value)} {i : Nat} {v : Value} (hi : i < lo.length) (hp : ∀ w, i ≠ 0 → lo[i - 1]? = some (some w) → ¬ w.category = 2) : jput1 lo (lo.set i (some v)) i v := by
  refine ⟨List.length_set, fun j w hj => ?_⟩
  by_cases e : j = i
  · subst e
    rw [List.getElem?_set_self hi] at hj
    exact Or.inl ⟨rfl, (Option.some.inj (Option.some.inj hj)).symm⟩
  · rw [List.getElem?_set_ne (Ne.symm e)] at hj
    refine Or.inr ⟨e, hj, fun z => ?_⟩
    have : i - 1 = j := by omega
    exact hp w (by omega) (by rw [this]; exact hj) z.2
theorem jput_set2 {lo : List (Option Value)} {i : Nat} {v : Value} (hi : i + 1 < lo.length) (hp : ∀ w, i ≠ 0 → lo[i - 1]? = some (some w) → ¬ w.category = 2) : jput2 lo ((lo.set i (some v)).set (i + 1) none) i v := by
  refine ⟨by rw [List.length_set, List.length_set], fun j w hj => ?_⟩
  by_cases e1 : j = i + 1
  · subst e1
    rw [List.getElem?_set_self (by rw [List.length_set]; exact hi)] at hj
    cases hj
  rw [List.getElem?_set_ne (Ne.symm e1)] at hj
  by_cases e : j = i
  · subst e
    rw [List.getElem?_set_self (by omega)] at hj
    exact Or.inl ⟨rfl, (Option.some.inj (Option.some.inj hj)).symm⟩
  · rw [List.getElem?_set_ne (Ne.symm e)] at hj
    refine Or.inr ⟨e, e1, hj, fun z => ?_⟩
    have : i - 1 = j := by omega
    exact hp w (by omega) (by rw [this]; exact hj) z.2
theorem j_istore_0 {a0 : Option Value} {x : Int32} (hd : decode cc pc = .ok (.istore_n 0, 1)) (k : J G own cc nL ini d Q ac sc h (pc + 1) (some (.int x) :: r) st) : J G own cc nL ini d Q ac sc h pc (a0 :: r) (.int x :: st) :=
  jg_istore_n hd (by show 0 < _; simp only [List.length_cons]; omega) (jput_set (lo := (a0 :: r)) (v := .int x) (by show 0 < _; simp only [List.length_cons]; omega) (fun w hz => absurd rfl hz)) k
theorem j_astore_0 {a0 : Option Value} {x : Nat} (hd : decode cc pc = .ok (.astore_n 0, 1)) (k : J G own cc nL ini d Q ac sc h (pc + 1) (some (.ref x) :: r) st) : J G own cc nL ini d Q ac sc h pc (a0 :: r) (.ref x :: st) :=
  jg_astore_n hd (by show 0 < _; simp only [List.length_cons]; omega) (jput_set (lo := (a0 :: r)) (v := .ref x) (by show 0 < _; simp only [List.length_cons]; omega) (fun w hz => absurd rfl hz)) k
theorem j_lstore_0 {a0 a1 : Option Value} {x : Int64} (hd : decode cc pc = .ok (.lstore_n 0, 1)) (k : J G own cc nL ini d Q ac sc h (pc + 1) (some (.long x) :: none :: r) st) : J G own cc nL ini d Q ac sc h pc (a0 :: a1 :: r) (.long x :: st) :=
  jg_lstore_n hd (by show 0 + 1 < _; simp only [List.length_cons]; omega) (jput_set2 (lo := (a0 :: a1 :: r)) (v := .long x) (by show 0 + 1 < _; simp only [List.length_cons]; omega) (fun w hz => absurd rfl hz)) k
theorem j_iinc_0 {n : Int} {x v : Int32} (hd : decode cc pc = .ok (.iinc 0 n, 3)) (hv : x + Int32.ofInt n = v) (k : J G own cc nL ini d Q ac sc h (pc + 3) (some (.int v) :: r) st) : J G own cc nL ini d Q ac sc h pc (some (.int x) :: r) st :=
  jg_iinc hd rfl hv (jput_set (lo := (some (.int x) :: r)) (v := .int v) (by simp) (fun w hz => absurd rfl hz)) k
theorem j_forget_0 {a0 : Option Value} (k : J G own cc nL ini d Q ac sc h pc (none :: r) st) : J G own cc nL ini d Q ac sc h pc (a0 :: r) st :=
  j_forget ⟨by simp, fun j w hj => by
    have e : (none :: r) = ((a0 :: r) : List (Option Value)).set 0 none := rfl
    rw [e] at hj
    by_cases z : j = 0
    · subst z; simp at hj
    · rwa [List.getElem?_set_ne (Ne.symm z)] at hj⟩ k
theorem j_istore_1 {a0 a1 : Option Value} {x : Int32} (hd : decode cc pc = .ok (.istore_n 1, 1)) (hn : jnl a0 = true) (k : J G own cc nL ini d Q ac sc h (pc + 1) (a0 :: some (.int x) :: r) st) : J G own cc nL ini d Q ac sc h pc (a0 :: a1 :: r) (.int x :: st) :=
  jg_istore_n hd (by show 1 < _; simp only [List.length_cons]; omega) (jput_set (lo := (a0 :: a1 :: r)) (v := .int x) (by show 1 < _; simp only [List.length_cons]; omega) (fun w _ hw => jnl_at hn hw)) k
theorem j_astore_1 {a0 a1 : Option Value} {x : Nat} (hd : decode cc pc = .ok (.astore_n 1, 1)) (hn : jnl a0 = true) (k : J G own cc nL ini d Q ac sc h (pc + 1) (a0 :: some (.ref x) :: r) st) : J G own cc nL ini d Q ac sc h pc (a0 :: a1 :: r) (.ref x :: st) :=
  jg_astore_n hd (by show 1 < _; simp only [List.length_cons]; omega) (jput_set (lo := (a0 :: a1 :: r)) (v := .ref x) (by show 1 < _; simp only [List.length_cons]; omega) (fun w _ hw => jnl_at hn hw)) k
theorem j_lstore_1 {a0 a1 a2 : Option Value} {x : Int64} (hd : decode cc pc = .ok (.lstore_n 1, 1)) (hn : jnl a0 = true) (k : J G own cc nL ini d Q ac sc h (pc + 1) (a0 :: some (.long x) :: none :: r) st) : J G own cc nL ini d Q ac sc h pc (a0 :: a1 :: a2 :: r) (.long x :: st) :=
  jg_lstore_n hd (by show 1 + 1 < _; simp only [List.length_cons]; omega) (jput_set2 (lo := (a0 :: a1 :: a2 :: r)) (v := .long x) (by show 1 + 1 < _; simp only [List.length_cons]; omega) (fun w _ hw => jnl_at hn hw)) k
theorem j_iinc_1 {a0 : Option Value} {n : Int} {x v : Int32} (hd : decode cc pc = .ok (.iinc 1 n, 3)) (hv : x + Int32.ofInt n = v) (hn : jnl a0 = true) (k : J G own cc nL ini d Q ac sc h (pc + 3) (a0 :: some (.int v) :: r) st) : J G own cc nL ini d Q ac sc h pc (a0 :: some (.int x) :: r) st :=
  jg_iinc hd rfl hv (jput_set (lo := (a0 :: some (.int x) :: r)) (v := .int v) (by simp) (fun w _ hw => jnl_at hn hw)) k
theorem j_forget_1 {a0 a1 : Option Value} (k : J G own cc nL ini d Q ac sc h pc (a0 :: none :: r) st) : J G own cc nL ini d Q ac sc h pc (a0 :: a1 :: r) st :=
  j_forget ⟨by simp, fun j w hj => by
    have e : (a0 :: none :: r) = ((a0 :: a1 :: r) : List (Option Value)).set 1 none := rfl
    rw [e] at hj
    by_cases z : j = 1
    · subst z; simp at hj
    · rwa [List.getElem?_set_ne (Ne.symm z)] at hj⟩ k
theorem j_istore_2 {a0 a1 a2 : Option Value} {x : Int32} (hd : decode cc pc = .ok (.istore_n 2, 1)) (hn : jnl a1 = true) (k : J G own cc nL ini d Q ac sc h (pc + 1) (a0 :: a1 :: some (.int x) :: r) st) : J G own cc nL ini d Q ac sc h pc (a0 :: a1 :: a2 :: r) (.int x :: st) :=
  jg_istore_n hd (by show 2 < _; simp only [List.length_cons]; omega) (jput_set (lo := (a0 :: a1 :: a2 :: r)) (v := .int x) (by show 2 < _; simp only [List.length_cons]; omega) (fun w _ hw => jnl_at hn hw)) k
theorem j_astore_2 {a0 a1 a2 : Option Value} {x : Nat} (hd : decode cc pc = .ok (.astore_n 2, 1)) (hn : jnl a1 = true) (k : J G own cc nL ini d Q ac sc h (pc + 1) (a0 :: a1 :: some (.ref x) :: r) st) : J G own cc nL ini d Q ac sc h pc (a0 :: a1 :: a2 :: r) (.ref x :: st) :=
  jg_astore_n hd (by show 2 < _; simp only [List.length_cons]; omega) (jput_set (lo := (a0 :: a1 :: a2 :: r)) (v := .ref x) (by show 2 < _; simp only [List.length_cons]; omega) (fun w _ hw => jnl_at hn hw)) k
theorem j_lstore_2 {a0 a1 a2 a3 : Option Value} {x : Int64} (hd : decode cc pc = .ok (.lstore_n 2, 1)) (hn : jnl a1 = true) (k : J G own cc nL ini d Q ac sc h (pc + 1) (a0 :: a1 :: some (.long x) :: none :: r) st) : J G own cc nL ini d Q ac sc h pc (a0 :: a1 :: a2 :: a3 :: r) (.long x :: st) :=
  jg_lstore_n hd (by show 2 + 1 < _; simp only [List.length_cons]; omega) (jput_set2 (lo := (a0 :: a1 :: a2 :: a3 :: r)) (v := .long x) (by show 2 + 1 < _; simp only [List.length_cons]; omega) (fun w _ hw => jnl_at hn hw)) k
theorem j_iinc_2 {a0 a1 : Option Value} {n : Int} {x v : Int32} (hd : decode cc pc = .ok (.iinc 2 n, 3)) (hv : x + Int32.ofInt n = v) (hn : jnl a1 = true) (k : J G own cc nL ini d Q ac sc h (pc + 3) (a0 :: a1 :: some (.int v) :: r) st) : J G own cc nL ini d Q ac sc h pc (a0 :: a1 :: some (.int x) :: r) st :=
  jg_iinc hd rfl hv (jput_set (lo := (a0 :: a1 :: some (.int x) :: r)) (v := .int v) (by simp) (fun w _ hw => jnl_at hn hw)) k
theorem j_forget_2 {a0 a1 a2 : Option Value} (k : J G own cc nL ini d Q ac sc h pc (a0 :: a1 :: none :: r) st) : J G own cc nL ini d Q ac sc h pc (a0 :: a1 :: a2 :: r) st :=
  j_forget ⟨by simp, fun j w hj => by
    have e : (a0 :: a1 :: none :: r) = ((a0 :: a1 :: a2 :: r) : List (Option Value)).set 2 none := rfl
    rw [e] at hj
    by_cases z : j = 2
    · subst z; simp at hj
    · rwa [List.getElem?_set_ne (Ne.symm z)] at hj⟩ k
theorem j_istore_3 {a0 a1 a2 a3 : Option Value} {x : Int32} (hd : decode cc pc = .ok (.istore_n 3, 1)) (hn : jnl a2 = true) (k : J G own cc nL ini d Q ac sc h (pc + 1) (a0 :: a1 :: a2 :: some (.int x) :: r) st) : J G own cc nL ini d Q ac sc h pc (a0 :: a1 :: a2 :: a3 :: r) (.int x :: st) :=
  jg_istore_n hd (by show 3 < _; simp only [List.length_cons]; omega) (jput_set (lo := (a0 :: a1 :: a2 :: a3 :: r)) (v := .int x) (by show 3 < _; simp only [List.length_cons]; omega) (fun w _ hw => jnl_at hn hw)) k
theorem j_astore_3 {a0 a1 a2 a3 : Option Value} {x : Nat} (hd : decode cc pc = .ok (.astore_n 3, 1)) (hn : jnl a2 = true) (k : J G own cc nL ini d Q ac sc h (pc + 1) (a0 :: a1 :: a2 :: some (.ref x) :: r) st) : J G own cc nL ini d Q ac sc h pc (a0 :: a1 :: a2 :: a3 :: r) (.ref x :: st) :=
  jg_astore_n hd (by show 3 < _; simp only [List.length_cons]; omega) (jput_set (lo := (a0 :: a1 :: a2 :: a3 :: r)) (v := .ref x) (by show 3 < _; simp only [List.length_cons]; omega) (fun w _ hw => jnl_at hn hw)) k
theorem j_lstore_3 {a0 a1 a2 a3 a4 : Option Value} {x : Int64} (hd : decode cc pc = .ok (.lstore_n 3, 1)) (hn : jnl a2 = true) (k : J G own cc nL ini d Q ac sc h (pc + 1) (a0 :: a1 :: a2 :: some (.long x) :: none :: r) st) : J G own cc nL ini d Q ac sc h pc (a0 :: a1 :: a2 :: a3 :: a4 :: r) (.long x :: st) :=
  jg_lstore_n hd (by show 3 + 1 < _; simp only [List.length_cons]; omega) (jput_set2 (lo := (a0 :: a1 :: a2 :: a3 :: a4 :: r)) (v := .long x) (by show 3 + 1 < _; simp only [List.length_cons]; omega) (fun w _ hw => jnl_at hn hw)) k
theorem j_iinc_3 {a0 a1 a2 : Option Value} {n : Int} {x v : Int32} (hd : decode cc pc = .ok (.iinc 3 n, 3)) (hv : x + Int32.ofInt n = v) (hn : jnl a2 = true) (k : J G own cc nL ini d Q ac sc h (pc + 3) (a0 :: a1 :: a2 :: some (.int v) :: r) st) : J G own cc nL ini d Q ac sc h pc (a0 :: a1 :: a2 :: some (.int x) :: r) st :=
  jg_iinc hd rfl hv (jput_set (lo := (a0 :: a1 :: a2 :: some (.int x) :: r)) (v := .int v) (by simp) (fun w _ hw => jnl_at hn hw)) k
theorem j_forget_3 {a0 a1 a2 a3 : Option Value} (k : J G own cc nL ini d Q ac sc h pc (a0 :: a1 :: a2 :: none :: r) st) : J G own cc nL ini d Q ac sc h pc (a0 :: a1 :: a2 :: a3 :: r) st :=
  j_forget ⟨by simp, fun j w hj => by
    have e : (a0 :: a1 :: a2 :: none :: r) = ((a0 :: a1 :: a2 :: a3 :: r) : List (Option Value)).set 3 none := rfl
    rw [e] at hj
    by_cases z : j = 3
    · subst z; simp at hj
    · rwa [List.getElem?_set_ne (Ne.symm z)] at hj⟩ k
theorem j_istore_4 {a0 a1 a2 a3 a4 : Option Value} {x : Int32} (hd : decode cc pc = .ok (.istore 4, 2)) (hn : jnl a3 = true) (k : J G own cc nL ini d Q ac sc h (pc + 2) (a0 :: a1 :: a2 :: a3 :: some (.int x) :: r) st) : J G own cc nL ini d Q ac sc h pc (a0 :: a1 :: a2 :: a3 :: a4 :: r) (.int x :: st) :=
  jg_istore hd (by show 4 < _; simp only [List.length_cons]; omega) (jput_set (lo := (a0 :: a1 :: a2 :: a3 :: a4 :: r)) (v := .int x) (by show 4 < _; simp only [List.length_cons]; omega) (fun w _ hw => jnl_at hn hw)) k
theorem j_lstore_4 {a0 a1 a2 a3 a4 a5 : Option Value} {x : Int64} (hd : decode cc pc = .ok (.lstore 4, 2)) (hn : jnl a3 = true) (k : J G own cc nL ini d Q ac sc h (pc + 2) (a0 :: a1 :: a2 :: a3 :: some (.long x) :: none :: r) st) : J G own cc nL ini d Q ac sc h pc (a0 :: a1 :: a2 :: a3 :: a4 :: a5 :: r) (.long x :: st) :=
  jg_lstore hd (by show 4 + 1 < _; simp only [List.length_cons]; omega) (jput_set2 (lo := (a0 :: a1 :: a2 :: a3 :: a4 :: a5 :: r)) (v := .long x) (by show 4 + 1 < _; simp only [List.length_cons]; omega) (fun w _ hw => jnl_at hn hw)) k
theorem j_iinc_4 {a0 a1 a2 a3 : Option Value} {n : Int} {x v : Int32} (hd : decode cc pc = .ok (.iinc 4 n, 3)) (hv : x + Int32.ofInt n = v) (hn : jnl a3 = true) (k : J G own cc nL ini d Q ac sc h (pc + 3) (a0 :: a1 :: a2 :: a3 :: some (.int v) :: r) st) : J G own cc nL ini d Q ac sc h pc (a0 :: a1 :: a2 :: a3 :: some (.int x) :: r) st :=
  jg_iinc hd rfl hv (jput_set (lo := (a0 :: a1 :: a2 :: a3 :: some (.int x) :: r)) (v := .int v) (by simp) (fun w _ hw => jnl_at hn hw)) k
theorem j_forget_4 {a0 a1 a2 a3 a4 : Option Value} (k : J G own cc nL ini d Q ac sc h pc (a0 :: a1 :: a2 :: a3 :: none :: r) st) : J G own cc nL ini d Q ac sc h pc (a0 :: a1 :: a2 :: a3 :: a4 :: r) st :=
  j_forget ⟨by simp, fun j w hj => by
    have e : (a0 :: a1 :: a2 :: a3 :: none :: r) = ((a0 :: a1 :: a2 :: a3 :: a4 :: r) : List (Option Value)).set 4 none := rfl
    rw [e] at hj
    by_cases z : j = 4
    · subst z; simp at hj
    · rwa [List.getElem?_set_ne (Ne.symm z)] at hj⟩ k
theorem j_istore_5 {a0 a1 a2 a3 a4 a5 : Option Value} {x : Int32} (hd : decode cc pc = .ok (.istore 5, 2)) (hn : jnl a4 = true) (k : J G own cc nL ini d Q ac sc h (pc + 2) (a0 :: a1 :: a2 :: a3 :: a4 :: some (.int x) :: r) st) : J G own cc nL ini d Q ac sc h pc (a0 :: a1 :: a2 :: a3 :: a4 :: a5 :: r) (.int x :: st) :=
  jg_istore hd (by show 5 < _; simp only [List.length_cons]; omega) (jput_set (lo := (a0 :: a1 :: a2 :: a3 :: a4 :: a5 :: r)) (v := .int x) (by show 5 < _; simp only [List.length_cons]; omega) (fun w _ hw => jnl_at hn hw)) k
theorem j_lstore_5 {a0 a1 a2 a3 a4 a5 a6 : Option Value} {x : Int64} (hd : decode cc pc = .ok (.lstore 5, 2)) (hn : jnl a4 = true) (k : J G own cc nL ini d Q ac sc h (pc + 2) (a0 :: a1 :: a2 :: a3 :: a4 :: some (.long x) :: none :: r) st) : J G own cc nL ini d Q ac sc h pc (a0 :: a1 :: a2 :: a3 :: a4 :: a5 :: a6 :: r) (.long x :: st) :=
  jg_lstore hd (by show 5 + 1 < _; simp only [List.length_cons]; omega) (jput_set2 (lo := (a0 :: a1 :: a2 :: a3 :: a4 :: a5 :: a6 :: r)) (v := .long x) (by show 5 + 1 < _; simp only [List.length_cons]; omega) (fun w _ hw => jnl_at hn hw)) k
theorem j_iinc_5 {a0 a1 a2 a3 a4 : Option Value} {n : Int} {x v : Int32} (hd : decode cc pc = .ok (.iinc 5 n, 3)) (hv : x + Int32.ofInt n = v) (hn : jnl a4 = true) (k : J G own cc nL ini d Q ac sc h (pc + 3) (a0 :: a1 :: a2 :: a3 :: a4 :: some (.int v) :: r) st) : J G own cc nL ini d Q ac sc h pc (a0 :: a1 :: a2 :: a3 :: a4 :: some (.int x) :: r) st :=
  jg_iinc hd rfl hv (jput_set (lo := (a0 :: a1 :: a2 :: a3 :: a4 :: some (.int x) :: r)) (v := .int v) (by simp) (fun w _ hw => jnl_at hn hw)) k
theorem j_forget_5 {a0 a1 a2 a3 a4 a5 : Option Value} (k : J G own cc nL ini d Q ac sc h pc (a0 :: a1 :: a2 :: a3 :: a4 :: none :: r) st) : J G own cc nL ini d Q ac sc h pc (a0 :: a1 :: a2 :: a3 :: a4 :: a5 :: r) st :=
  j_forget ⟨by simp, fun j w hj => by
    have e : (a0 :: a1 :: a2 :: a3 :: a4 :: none :: r) = ((a0 :: a1 :: a2 :: a3 :: a4 :: a5 :: r) : List (Option Value)).set 5 none := rfl
    rw [e] at hj
    by_cases z : j = 5
    · subst z; simp at hj
    · rwa [List.getElem?_set_ne (Ne.symm z)] at hj⟩ k
theorem j_istore_6 {a0 a1 a2 a3 a4 a5 a6 : Option Value} {x : Int32} (hd : decode cc pc = .ok (.istore 6, 2)) (hn : jnl a5 = true) (k : J G own cc nL ini d Q ac sc h (pc + 2) (a0 :: a1 :: a2 :: a3 :: a4 :: a5 :: some (.int x) :: r) st) : J G own cc nL ini d Q ac sc h pc (a0 :: a1 :: a2 :: a3 :: a4 :: a5 :: a6 :: r) (.int x :: st) :=
  jg_istore hd (by show 6 < _; simp only [List.length_cons]; omega) (jput_set (lo := (a0 :: a1 :: a2 :: a3 :: a4 :: a5 :: a6 :: r)) (v := .int x) (by show 6 < _; simp only [List.length_cons]; omega) (fun w _ hw => jnl_at hn hw)) k
theorem j_lstore_6 {a0 a1 a2 a3 a4 a5 a6 a7 : Option Value} {x : Int64} (hd : decode cc pc = .ok (.lstore 6, 2)) (hn : jnl a5 = true) (k : J G own cc nL ini d Q ac sc h (pc + 2) (a0 :: a1 :: a2 :: a3 :: a4 :: a5 :: some (.long x) :: none :: r) st) : J G own cc nL ini d Q ac sc h pc (a0 :: a1 :: a2 :: a3 :: a4 :: a5 :: a6 :: a7 :: r) (.long x :: st) :=
  jg_lstore hd (by show 6 + 1 < _; simp only [List.length_cons]; omega) (jput_set2 (lo := (a0 :: a1 :: a2 :: a3 :: a4 :: a5 :: a6 :: a7 :: r)) (v := .long x) (by show 6 + 1 < _; simp only [List.length_cons]; omega) (fun w _ hw => jnl_at hn hw)) k
theorem j_iinc_6 {a0 a1 a2 a3 a4 a5 : Option Value} {n : Int} {x v : Int32} (hd : decode cc pc = .ok (.iinc 6 n, 3)) (hv : x + Int32.ofInt n = v) (hn : jnl a5 = true) (k : J G own cc nL ini d Q ac sc h (pc + 3) (a0 :: a1 :: a2 :: a3 :: a4 :: a5 :: some (.int v) :: r) st) : J G own cc nL ini d Q ac sc h pc (a0 :: a1 :: a2 :: a3 :: a4 :: a5 :: some (.int x) :: r) st :=
  jg_iinc hd rfl hv (jput_set (lo := (a0 :: a1 :: a2 :: a3 :: a4 :: a5 :: some (.int x) :: r)) (v := .int v) (by simp) (fun w _ hw => jnl_at hn hw)) k
theorem j_forget_6 {a0 a1 a2 a3 a4 a5 a6 : Option Value} (k : J G own cc nL ini d Q ac sc h pc (a0 :: a1 :: a2 :: a3 :: a4 :: a5 :: none :: r) st) : J G own cc nL ini d Q ac sc h pc (a0 :: a1 :: a2 :: a3 :: a4 :: a5 :: a6 :: r) st :=
  j_forget ⟨by simp, fun j w hj => by
    have e : (a0 :: a1 :: a2 :: a3 :: a4 :: a5 :: none :: r) = ((a0 :: a1 :: a2 :: a3 :: a4 :: a5 :: a6 :: r) : List (Option Value)).set 6 none := rfl
    rw [e] at hj
    by_cases z : j = 6
    · subst z; simp at hj
    · rwa [List.getElem?_set_ne (Ne.symm z)] at hj⟩ k
theorem j_istore_7 {a0 a1 a2 a3 a4 a5 a6 a7 : Option Value} {x : Int32} (hd : decode cc pc = .ok (.istore 7, 2)) (hn : jnl a6 = true) (k : J G own cc nL ini d Q ac sc h (pc + 2) (a0 :: a1 :: a2 :: a3 :: a4 :: a5 :: a6 :: some (.int x) :: r) st) : J G own cc nL ini d Q ac sc h pc (a0 :: a1 :: a2 :: a3 :: a4 :: a5 :: a6 :: a7 :: r) (.int x :: st) :=
  jg_istore hd (by show 7 < _; simp only [List.length_cons]; omega) (jput_set (lo := (a0 :: a1 :: a2 :: a3 :: a4 :: a5 :: a6 :: a7 :: r)) (v := .int x) (by show 7 < _; simp only [List.length_cons]; omega) (fun w _ hw => jnl_at hn hw)) k
theorem j_lstore_7 {a0 a1 a2 a3 a4 a5 a6 a7 a8 : Option Value} {x : Int64} (hd : decode cc pc = .ok (.lstore 7, 2)) (hn : jnl a6 = true) (k : J G own cc nL ini d Q ac sc h (pc + 2) (a0 :: a1 :: a2 :: a3 :: a4 :: a5 :: a6 :: some (.long x) :: none :: r) st) : J G own cc nL ini d Q ac sc h pc (a0 :: a1 :: a2 :: a3 :: a4 :: a5 :: a6 :: a7 :: a8 :: r) (.long x :: st) :=
  jg_lstore hd (by show 7 + 1 < _; simp only [List.length_cons]; omega) (jput_set2 (lo := (a0 :: a1 :: a2 :: a3 :: a4 :: a5 :: a6 :: a7 :: a8 :: r)) (v := .long x) (by show 7 + 1 < _; simp only [List.length_cons]; omega) (fun w _ hw => jnl_at hn hw)) k
theorem j_iinc_7 {a0 a1 a2 a3 a4 a5 a6 : Option Value} {n : Int} {x v : Int32} (hd : decode cc pc = .ok (.iinc 7 n, 3)) (hv : x + Int32.ofInt n = v) (hn : jnl a6 = true) (k : J G own cc nL ini d Q ac sc h (pc + 3) (a0 :: a1 :: a2 :: a3 :: a4 :: a5 :: a6 :: some (.int v) :: r) st) : J G own cc nL ini d Q ac sc h pc (a0 :: a1 :: a2 :: a3 :: a4 :: a5 :: a6 :: some (.int x) :: r) st :=
  jg_iinc hd rfl hv (jput_set (lo := (a0 :: a1 :: a2 :: a3 :: a4 :: a5 :: a6 :: some (.int x) :: r)) (v := .int v) (by simp) (fun w _ hw => jnl_at hn hw)) k
theorem j_forget_7 {a0 a1 a2 a3 a4 a5 a6 a7 : Option Value} (k : J G own cc nL ini d Q ac sc h pc (a0 :: a1 :: a2 :: a3 :: a4 :: a5 :: a6 :: none :: r) st) : J G own cc nL ini d Q ac sc h pc (a0 :: a1 :: a2 :: a3 :: a4 :: a5 :: a6 :: a7 :: r) st :=
  j_forget ⟨by simp, fun j w hj => by
    have e : (a0 :: a1 :: a2 :: a3 :: a4 :: a5 :: a6 :: none :: r) = ((a0 :: a1 :: a2 :: a3 :: a4 :: a5 :: a6 :: a7 :: r) : List (Option Value)).set 7 none := rfl
    rw [e] at hj
    by_cases z : j = 7
    · subst z; simp at hj
    · rwa [List.getElem?_set_ne (Ne.symm z)] at hj⟩ k
theorem j_istore_8 {a0 a1 a2 a3 a4 a5 a6 a7 a8 : Option Value} {x : Int32} (hd : decode cc pc = .ok (.istore 8, 2)) (hn : jnl a7 = true) (k : J G own cc nL ini d Q ac sc h (pc + 2) (a0 :: a1 :: a2 :: a3 :: a4 :: a5 :: a6 :: a7 :: some (.int x) :: r) st) : J G own cc nL ini d Q ac sc h pc (a0 :: a1 :: a2 :: a3 :: a4 :: a5 :: a6 :: a7 :: a8 :: r) (.int x :: st) :=
  jg_istore hd (by show 8 < _; simp only [List.length_cons]; omega) (jput_set (lo := (a0 :: a1 :: a2 :: a3 :: a4 :: a5 :: a6 :: a7 :: a8 :: r)) (v := .int x) (by show 8 < _; simp only [List.length_cons]; omega) (fun w _ hw => jnl_at hn hw)) k
theorem j_lstore_8 {a0 a1 a2 a3 a4 a5 a6 a7 a8 a9 : Option Value} {x : Int64} (hd : decode cc pc = .ok (.lstore 8, 2)) (hn : jnl a7 = true) (k : J G own cc nL ini d Q ac sc h (pc + 2) (a0 :: a1 :: a2 :: a3 :: a4 :: a5 :: a6 :: a7 :: some (.long x) :: none :: r) st) : J G own cc nL ini d Q ac sc h pc (a0 :: a1 :: a2 :: a3 :: a4 :: a5 :: a6 :: a7 :: a8 :: a9 :: r) (.long x :: st) :=
  jg_lstore hd (by show 8 + 1 < _; simp only [List.length_cons]; omega) (jput_set2 (lo := (a0 :: a1 :: a2 :: a3 :: a4 :: a5 :: a6 :: a7 :: a8 :: a9 :: r)) (v := .long x) (by show 8 + 1 < _; simp only [List.length_cons]; omega) (fun w _ hw => jnl_at hn hw)) k
theorem j_iinc_8 {a0 a1 a2 a3 a4 a5 a6 a7 : Option Value} {n : Int} {x v : Int32} (hd : decode cc pc = .ok (.iinc 8 n, 3)) (hv : x + Int32.ofInt n = v) (hn : jnl a7 = true) (k : J G own cc nL ini d Q ac sc h (pc + 3) (a0 :: a1 :: a2 :: a3 :: a4 :: a5 :: a6 :: a7 :: some (.int v) :: r) st) : J G own cc nL ini d Q ac sc h pc (a0 :: a1 :: a2 :: a3 :: a4 :: a5 :: a6 :: a7 :: some (.int x) :: r) st :=
  jg_iinc hd rfl hv (jput_set (lo := (a0 :: a1 :: a2 :: a3 :: a4 :: a5 :: a6 :: a7 :: some (.int x) :: r)) (v := .int v) (by simp) (fun w _ hw => jnl_at hn hw)) k
theorem j_forget_8 {a0 a1 a2 a3 a4 a5 a6 a7 a8 : Option Value} (k : J G own cc nL ini d Q ac sc h pc (a0 :: a1 :: a2 :: a3 :: a4 :: a5 :: a6 :: a7 :: none :: r) st) : J G own cc nL ini d Q ac sc h pc (a0 :: a1 :: a2 :: a3 :: a4 :: a5 :: a6 :: a7 :: a8 :: r) st :=
  j_forget ⟨by simp, fun j w hj => by
    have e : (a0 :: a1 :: a2 :: a3 :: a4 :: a5 :: a6 :: a7 :: none :: r) = ((a0 :: a1 :: a2 :: a3 :: a4 :: a5 :: a6 :: a7 :: a8 :: r) : List (Option Value)).set 8 none := rfl
    rw [e] at hj
    by_cases z : j = 8
    · subst z; simp at hj
    · rwa [List.getElem?_set_ne (Ne.symm z)] at hj⟩ k
theorem j_istore_9 {a0 a1 a2 a3 a4 a5 a6 a7 a8 a9 : Option Value} {x : Int32} (hd : decode cc pc = .ok (.istore 9, 2)) (hn : jnl a8 = true) (k : J G own cc nL ini d Q ac sc h (pc + 2) (a0 :: a1 :: a2 :: a3 :: a4 :: a5 :: a6 :: a7 :: a8 :: some (.int x) :: r) st) : J G own cc nL ini d Q ac sc h pc (a0 :: a1 :: a2 :: a3 :: a4 :: a5 :: a6 :: a7 :: a8 :: a9 :: r) (.int x :: st) :=
  jg_istore hd (by show 9 < _; simp only [List.length_cons]; omega) (jput_set (lo := (a0 :: a1 :: a2 :: a3 :: a4 :: a5 :: a6 :: a7 :: a8 :: a9 :: r)) (v := .int x) (by show 9 < _; simp only [List.length_cons]; omega) (fun w _ hw => jnl_at hn hw)) k
theorem j_lstore_9 {a0 a1 a2 a3 a4 a5 a6 a7 a8 a9 a10 : Option Value} {x : Int64} (hd : decode cc pc = .ok (.lstore 9, 2)) (hn : jnl a8 = true) (k : J G own cc nL ini d Q ac sc h (pc + 2) (a0 :: a1 :: a2 :: a3 :: a4 :: a5 :: a6 :: a7 :: a8 :: some (.long x) :: none :: r) st) : J G own cc nL ini d Q ac sc h pc (a0 :: a1 :: a2 :: a3 :: a4 :: a5 :: a6 :: a7 :: a8 :: a9 :: a10 :: r) (.long x :: st) :=
  jg_lstore hd (by show 9 + 1 < _; simp only [List.length_cons]; omega) (jput_set2 (lo := (a0 :: a1 :: a2 :: a3 :: a4 :: a5 :: a6 :: a7 :: a8 :: a9 :: a10 :: r)) (v := .long x) (by show 9 + 1 < _; simp only [List.length_cons]; omega) (fun w _ hw => jnl_at hn hw)) k
theorem j_iinc_9 {a0 a1 a2 a3 a4 a5 a6 a7 a8 : Option Value} {n : Int} {x v : Int32} (hd : decode cc pc = .ok (.iinc 9 n, 3)) (hv : x + Int32.ofInt n = v) (hn : jnl a8 = true) (k : J G own cc nL ini d Q ac sc h (pc + 3) (a0 :: a1 :: a2 :: a3 :: a4 :: a5 :: a6 :: a7 :: a8 :: some (.int v) :: r) st) : J G own cc nL ini d Q ac sc h pc (a0 :: a1 :: a2 :: a3 :: a4 :: a5 :: a6 :: a7 :: a8 :: some (.int x) :: r) st :=
  jg_iinc hd rfl hv (jput_set (lo := (a0 :: a1 :: a2 :: a3 :: a4 :: a5 :: a6 :: a7 :: a8 :: some (.int x) :: r)) (v := .int v) (by simp) (fun w _ hw => jnl_at hn hw)) k
theorem j_forget_9 {a0 a1 a2 a3 a4 a5 a6 a7 a8 a9 : Option Value} (k : J G own cc nL ini d Q ac sc h pc (a0 :: a1 :: a2 :: a3 :: a4 :: a5 :: a6 :: a7 :: a8 :: none :: r) st) : J G own cc nL ini d Q ac sc h pc (a0 :: a1 :: a2 :: a3 :: a4 :: a5 :: a6 :: a7 :: a8 :: a9 :: r) st :=
  j_forget ⟨by simp, fun j w hj => by
    have e : (a0 :: a1 :: a2 :: a3 :: a4 :: a5 :: a6 :: a7 :: a8 :: none :: r) = ((a0 :: a1 :: a2 :: a3 :: a4 :: a5 :: a6 :: a7 :: a8 :: a9 :: r) : List (Option Value)).set 9 none := rfl
    rw [e] at hj
    by_cases z : j = 9
    · subst z; simp at hj
    · rwa [List.getElem?_set_ne (Ne.symm z)] at hj⟩ k
theorem j_istore_10 {a0 a1 a2 a3 a4 a5 a6 a7 a8 a9 a10 : Option Value} {x : Int32} (hd : decode cc pc = .ok (.istore 10, 2)) (hn : jnl a9 = true) (k : J G own cc nL ini d Q ac sc h (pc + 2) (a0 :: a1 :: a2 :: a3 :: a4 :: a5 :: a6 :: a7 :: a8 :: a9 :: some (.int x) :: r) st) : J G own cc nL ini d Q ac sc h pc (a0 :: a1 :: a2 :: a3 :: a4 :: a5 :: a6 :: a7 :: a8 :: a9 :: a10 :: r) (.int x :: st) :=
  jg_istore hd (by show 10 < _; simp only [List.length_cons]; omega) (jput_set (lo := (a0 :: a1 :: a2 :: a3 :: a4 :: a5 :: a6 :: a7 :: a8 :: a9 :: a10 :: r)) (v := .int x) (by show 10 < _; simp only [List.length_cons]; omega) (fun w _ hw => jnl_at hn hw)) k
theorem j_lstore_10 {a0 a1 a2 a3 a4 a5 a6 a7 a8 a9 a10 a11 : Option Value} {x : Int64} (hd : decode cc pc = .ok (.lstore 10, 2)) (hn : jnl a9 = true) (k : J G own cc nL ini d Q ac sc h (pc + 2) (a0 :: a1 :: a2 :: a3 :: a4 :: a5 :: a6 :: a7 :: a8 :: a9 :: some (.long x) :: none :: r) st) : J G own cc nL ini d Q ac sc h pc (a0 :: a1 :: a2 :: a3 :: a4 :: a5 :: a6 :: a7 :: a8 :: a9 :: a10 :: a11 :: r) (.long x :: st) :=
  jg_lstore hd (by show 10 + 1 < _; simp only [List.length_cons]; omega) (jput_set2 (lo := (a0 :: a1 :: a2 :: a3 :: a4 :: a5 :: a6 :: a7 :: a8 :: a9 :: a10 :: a11 :: r)) (v := .long x) (by show 10 + 1 < _; simp only [List.length_cons]; omega) (fun w _ hw => jnl_at hn hw)) k
theorem j_iinc_10 {a0 a1 a2 a3 a4 a5 a6 a7 a8 a9 : Option Value} {n : Int} {x v : Int32} (hd : decode cc pc = .ok (.iinc 10 n, 3)) (hv : x + Int32.ofInt n = v) (hn : jnl a9 = true) (k : J G own cc nL ini d Q ac sc h (pc + 3) (a0 :: a1 :: a2 :: a3 :: a4 :: a5 :: a6 :: a7 :: a8 :: a9 :: some (.int v) :: r) st) : J G own cc nL ini d Q ac sc h pc (a0 :: a1 :: a2 :: a3 :: a4 :: a5 :: a6 :: a7 :: a8 :: a9 :: some (.int x) :: r) st :=
  jg_iinc hd rfl hv (jput_set (lo := (a0 :: a1 :: a2 :: a3 :: a4 :: a5 :: a6 :: a7 :: a8 :: a9 :: some (.int x) :: r)) (v := .int v) (by simp) (fun w _ hw => jnl_at hn hw)) k
theorem j_forget_10 {a0 a1 a2 a3 a4 a5 a6 a7 a8 a9 a10 : Option Value} (k : J G own cc nL ini d Q ac sc h pc (a0 :: a1 :: a2 :: a3 :: a4 :: a5 :: a6 :: a7 :: a8 :: a9 :: none :: r) st) : J G own cc nL ini d Q ac sc h pc (a0 :: a1 :: a2 :: a3 :: a4 :: a5 :: a6 :: a7 :: a8 :: a9 :: a10 :: r) st :=
  j_forget ⟨by simp, fun j w hj => by
    have e : (a0 :: a1 :: a2 :: a3 :: a4 :: a5 :: a6 :: a7 :: a8 :: a9 :: none :: r) = ((a0 :: a1 :: a2 :: a3 :: a4 :: a5 :: a6 :: a7 :: a8 :: a9 :: a10 :: r) : List (Option Value)).set 10 none := rfl
    rw [e] at hj
    by_cases z : j = 10
    · subst z; simp at hj
    · rwa [List.getElem?_set_ne (Ne.symm z)] at hj⟩ k
theorem j_istore_11 {a0 a1 a2 a3 a4 a5 a6 a7 a8 a9 a10 a11 : Option Value} {x : Int32} (hd : decode cc pc = .ok (.istore 11, 2)) (hn : jnl a10 = true) (k : J G own cc nL ini d Q ac sc h (pc + 2) (a0 :: a1 :: a2 :: a3 :: a4 :: a5 :: a6 :: a7 :: a8 :: a9 :: a10 :: some (.int x) :: r) st) : J G own cc nL ini d Q ac sc h pc (a0 :: a1 :: a2 :: a3 :: a4 :: a5 :: a6 :: a7 :: a8 :: a9 :: a10 :: a11 :: r) (.int x :: st) :=
  jg_istore hd (by show 11 < _; simp only [List.length_cons]; omega) (jput_set (lo := (a0 :: a1 :: a2 :: a3 :: a4 :: a5 :: a6 :: a7 :: a8 :: a9 :: a10 :: a11 :: r)) (v := .int x) (by show 11 < _; simp only [List.length_cons]; omega) (fun w _ hw => jnl_at hn hw)) k
theorem j_lstore_11 {a0 a1 a2 a3 a4 a5 a6 a7 a8 a9 a10 a11 a12 : Option Value} {x : Int64} (hd : decode cc pc = .ok (.lstore 11, 2)) (hn : jnl a10 = true) (k : J G own cc nL ini d Q ac sc h (pc + 2) (a0 :: a1 :: a2 :: a3 :: a4 :: a5 :: a6 :: a7 :: a8 :: a9 :: a10 :: some (.long x) :: none :: r) st) : J G own cc nL ini d Q ac sc h pc (a0 :: a1 :: a2 :: a3 :: a4 :: a5 :: a6 :: a7 :: a8 :: a9 :: a10 :: a11 :: a12 :: r) (.long x :: st) :=
  jg_lstore hd (by show 11 + 1 < _; simp only [List.length_cons]; omega) (jput_set2 (lo := (a0 :: a1 :: a2 :: a3 :: a4 :: a5 :: a6 :: a7 :: a8 :: a9 :: a10 :: a11 :: a12 :: r)) (v := .long x) (by show 11 + 1 < _; simp only [List.length_cons]; omega) (fun w _ hw => jnl_at hn hw)) k
theorem j_iinc_11 {a0 a1 a2 a3 a4 a5 a6 a7 a8 a9 a10 : Option Value} {n : Int} {x v : Int32} (hd : decode cc pc = .ok (.iinc 11 n, 3)) (hv : x + Int32.ofInt n = v) (hn : jnl a10 = true) (k : J G own cc nL ini d Q ac sc h (pc + 3) (a0 :: a1 :: a2 :: a3 :: a4 :: a5 :: a6 :: a7 :: a8 :: a9 :: a10 :: some (.int v) :: r) st) : J G own cc nL ini d Q ac sc h pc (a0 :: a1 :: a2 :: a3 :: a4 :: a5 :: a6 :: a7 :: a8 :: a9 :: a10 :: some (.int x) :: r) st :=
  jg_iinc hd rfl hv (jput_set (lo := (a0 :: a1 :: a2 :: a3 :: a4 :: a5 :: a6 :: a7 :: a8 :: a9 :: a10 :: some (.int x) :: r)) (v := .int v) (by simp) (fun w _ hw => jnl_at hn hw)) k
theorem j_forget_11 {a0 a1 a2 a3 a4 a5 a6 a7 a8 a9 a10 a11 : Option Value} (k : J G own cc nL ini d Q ac sc h pc (a0 :: a1 :: a2 :: a3 :: a4 :: a5 :: a6 :: a7 :: a8 :: a9 :: a10 :: none :: r) st) : J G own cc nL ini d Q ac sc h pc (a0 :: a1 :: a2 :: a3 :: a4 :: a5 :: a6 :: a7 :: a8 :: a9 :: a10 :: a11 :: r) st :=
  j_forget ⟨by simp, fun j w hj => by
    have e : (a0 :: a1 :: a2 :: a3 :: a4 :: a5 :: a6 :: a7 :: a8 :: a9 :: a10 :: none :: r) = ((a0 :: a1 :: a2 :: a3 :: a4 :: a5 :: a6 :: a7 :: a8 :: a9 :: a10 :: a11 :: r) : List (Option Value)).set 11 none := rfl
    rw [e] at hj
    by_cases z : j = 11
    · subst z; simp at hj
    · rwa [List.getElem?_set_ne (Ne.symm z)] at hj⟩ k
theorem j_istore_12 {a0 a1 a2 a3 a4 a5 a6 a7 a8 a9 a10 a11 a12 : Option Value} {x : Int32} (hd : decode cc pc = .ok (.istore 12, 2)) (hn : jnl a11 = true) (k : J G own cc nL ini d Q ac sc h (pc + 2) (a0 :: a1 :: a2 :: a3 :: a4 :: a5 :: a6 :: a7 :: a8 :: a9 :: a10 :: a11 :: some (.int x) :: r) st) : J G own cc nL ini d Q ac sc h pc (a0 :: a1 :: a2 :: a3 :: a4 :: a5 :: a6 :: a7 :: a8 :: a9 :: a10 :: a11 :: a12 :: r) (.int x :: st) :=
  jg_istore hd (by show 12 < _; simp only [List.length_cons]; omega) (jput_set (lo := (a0 :: a1 :: a2 :: a3 :: a4 :: a5 :: a6 :: a7 :: a8 :: a9 :: a10 :: a11 :: a12 :: r)) (v := .int x) (by show 12 < _; simp only [List.length_cons]; omega) (fun w _ hw => jnl_at hn hw)) k
theorem j_lstore_12 {a0 a1 a2 a3 a4 a5 a6 a7 a8 a9 a10 a11 a12 a13 : Option Value} {x : Int64} (hd : decode cc pc = .ok (.lstore 12, 2)) (hn : jnl a11 = true) (k : J G own cc nL ini d Q ac sc h (pc + 2) (a0 :: a1 :: a2 :: a3 :: a4 :: a5 :: a6 :: a7 :: a8 :: a9 :: a10 :: a11 :: some (.long x) :: none :: r) st) : J G own cc nL ini d Q ac sc h pc (a0 :: a1 :: a2 :: a3 :: a4 :: a5 :: a6 :: a7 :: a8 :: a9 :: a10 :: a11 :: a12 :: a13 :: r) (.long x :: st) :=
  jg_lstore hd (by show 12 + 1 < _; simp only [List.length_cons]; omega) (jput_set2 (lo := (a0 :: a1 :: a2 :: a3 :: a4 :: a5 :: a6 :: a7 :: a8 :: a9 :: a10 :: a11 :: a12 :: a13 :: r)) (v := .long x) (by show 12 + 1 < _; simp only [List.length_cons]; omega) (fun w _ hw => jnl_at hn hw)) k
theorem j_iinc_12 {a0 a1 a2 a3 a4 a5 a6 a7 a8 a9 a10 a11 : Option Value} {n : Int} {x v : Int32} (hd : decode cc pc = .ok (.iinc 12 n, 3)) (hv : x + Int32.ofInt n = v) (hn : jnl a11 = true) (k : J G own cc nL ini d Q ac sc h (pc + 3) (a0 :: a1 :: a2 :: a3 :: a4 :: a5 :: a6 :: a7 :: a8 :: a9 :: a10 :: a11 :: some (.int v) :: r) st) : J G own cc nL ini d Q ac sc h pc (a0 :: a1 :: a2 :: a3 :: a4 :: a5 :: a6 :: a7 :: a8 :: a9 :: a10 :: a11 :: some (.int x) :: r) st :=
  jg_iinc hd rfl hv (jput_set (lo := (a0 :: a1 :: a2 :: a3 :: a4 :: a5 :: a6 :: a7 :: a8 :: a9 :: a10 :: a11 :: some (.int x) :: r)) (v := .int v) (by simp) (fun w _ hw => jnl_at hn hw)) k
theorem j_forget_12 {a0 a1 a2 a3 a4 a5 a6 a7 a8 a9 a10 a11 a12 : Option Value} (k : J G own cc nL ini d Q ac sc h pc (a0 :: a1 :: a2 :: a3 :: a4 :: a5 :: a6 :: a7 :: a8 :: a9 :: a10 :: a11 :: none :: r) st) : J G own cc nL ini d Q ac sc h pc (a0 :: a1 :: a2 :: a3 :: a4 :: a5 :: a6 :: a7 :: a8 :: a9 :: a10 :: a11 :: a12 :: r) st :=
  j_forget ⟨by simp, fun j w hj => by
    have e : (a0 :: a1 :: a2 :: a3 :: a4 :: a5 :: a6 :: a7 :: a8 :: a9 :: a10 :: a11 :: none :: r) = ((a0 :: a1 :: a2 :: a3 :: a4 :: a5 :: a6 :: a7 :: a8 :: a9 :: a10 :: a11 :: a12 :: r) : List (Option Value)).set 12 none := rfl
    rw [e] at hj
    by_cases z : j = 12
    · subst z; simp at hj
    · rwa [List.getElem?_set_ne (Ne.symm z)] at hj⟩ k
theorem j_istore_13 {a0 a1 a2 a3 a4 a5 a6 a7 a8 a9 a10 a11 a12 a13 : Option Value} {x : Int32} (hd : decode cc pc = .ok (.istore 13, 2)) (hn : jnl a12 = true) (k : J G own cc nL ini d Q ac sc h (pc + 2) (a0 :: a1 :: a2 :: a3 :: a4 :: a5 :: a6 :: a7 :: a8 :: a9 :: a10 :: a11 :: a12 :: some (.int x) :: r) st) : J G own cc nL ini d Q ac sc h pc (a0 :: a1 :: a2 :: a3 :: a4 :: a5 :: a6 :: a7 :: a8 :: a9 :: a10 :: a11 :: a12 :: a13 :: r) (.int x :: st) :=
  jg_istore hd (by show 13 < _; simp only [List.length_cons]; omega) (jput_set (lo := (a0 :: a1 :: a2 :: a3 :: a4 :: a5 :: a6 :: a7 :: a8 :: a9 :: a10 :: a11 :: a12 :: a13 :: r)) (v := .int x) (by show 13 < _; simp only [List.length_cons]; omega) (fun w _ hw => jnl_at hn hw)) k
theorem j_lstore_13 {a0 a1 a2 a3 a4 a5 a6 a7 a8 a9 a10 a11 a12 a13 a14 : Option Value} {x : Int64} (hd : decode cc pc = .ok (.lstore 13, 2)) (hn : jnl a12 = true) (k : J G own cc nL ini d Q ac sc h (pc + 2) (a0 :: a1 :: a2 :: a3 :: a4 :: a5 :: a6 :: a7 :: a8 :: a9 :: a10 :: a11 :: a12 :: some (.long x) :: none :: r) st) : J G own cc nL ini d Q ac sc h pc (a0 :: a1 :: a2 :: a3 :: a4 :: a5 :: a6 :: a7 :: a8 :: a9 :: a10 :: a11 :: a12 :: a13 :: a14 :: r) (.long x :: st) :=
  jg_lstore hd (by show 13 + 1 < _; simp only [List.length_cons]; omega) (jput_set2 (lo := (a0 :: a1 :: a2 :: a3 :: a4 :: a5 :: a6 :: a7 :: a8 :: a9 :: a10 :: a11 :: a12 :: a13 :: a14 :: r)) (v := .long x) (by show 13 + 1 < _; simp only [List.length_cons]; omega) (fun w _ hw => jnl_at hn hw)) k
theorem j_iinc_13 {a0 a1 a2 a3 a4 a5 a6 a7 a8 a9 a10 a11 a12 : Option Value} {n : Int} {x v : Int32} (hd : decode cc pc = .ok (.iinc 13 n, 3)) (hv : x + Int32.ofInt n = v) (hn : jnl a12 = true) (k : J G own cc nL ini d Q ac sc h (pc + 3) (a0 :: a1 :: a2 :: a3 :: a4 :: a5 :: a6 :: a7 :: a8 :: a9 :: a10 :: a11 :: a12 :: some (.int v) :: r) st) : J G own cc nL ini d Q ac sc h pc (a0 :: a1 :: a2 :: a3 :: a4 :: a5 :: a6 :: a7 :: a8 :: a9 :: a10 :: a11 :: a12 :: some (.int x) :: r) st :=
  jg_iinc hd rfl hv (jput_set (lo := (a0 :: a1 :: a2 :: a3 :: a4 :: a5 :: a6 :: a7 :: a8 :: a9 :: a10 :: a11 :: a12 :: some (.int x) :: r)) (v := .int v) (by simp) (fun w _ hw => jnl_at hn hw)) k
theorem j_forget_13 {a0 a1 a2 a3 a4 a5 a6 a7 a8 a9 a10 a11 a12 a13 : Option Value} (k : J G own cc nL ini d Q ac sc h pc (a0 :: a1 :: a2 :: a3 :: a4 :: a5 :: a6 :: a7 :: a8 :: a9 :: a10 :: a11 :: a12 :: none :: r) st) : J G own cc nL ini d Q ac sc h pc (a0 :: a1 :: a2 :: a3 :: a4 :: a5 :: a6 :: a7 :: a8 :: a9 :: a10 :: a11 :: a12 :: a13 :: r) st :=
  j_forget ⟨by simp, fun j w hj => by
    have e : (a0 :: a1 :: a2 :: a3 :: a4 :: a5 :: a6 :: a7 :: a8 :: a9 :: a10 :: a11 :: a12 :: none :: r) = ((a0 :: a1 :: a2 :: a3 :: a4 :: a5 :: a6 :: a7 :: a8 :: a9 :: a10 :: a11 :: a12 :: a13 :: r) : List (Option Value)).set 13 none := rfl
    rw [e] at hj
    by_cases z : j = 13
    · subst z; simp at hj
    · rwa [List.getElem?_set_ne (Ne.symm z)] at hj⟩ k
theorem j_istore_14 {a0 a1 a2 a3 a4 a5 a6 a7 a8 a9 a10 a11 a12 a13 a14 : Option Value} {x : Int32} (hd : decode cc pc = .ok (.istore 14, 2)) (hn : jnl a13 = true) (k : J G own cc nL ini d Q ac sc h (pc + 2) (a0 :: a1 :: a2 :: a3 :: a4 :: a5 :: a6 :: a7 :: a8 :: a9 :: a10 :: a11 :: a12 :: a13 :: some (.int x) :: r) st) : J G own cc nL ini d Q ac sc h pc (a0 :: a1 :: a2 :: a3 :: a4 :: a5 :: a6 :: a7 :: a8 :: a9 :: a10 :: a11 :: a12 :: a13 :: a14 :: r) (.int x :: st) :=
  jg_istore hd (by show 14 < _; simp only [List.length_cons]; omega) (jput_set (lo := (a0 :: a1 :: a2 :: a3 :: a4 :: a5 :: a6 :: a7 :: a8 :: a9 :: a10 :: a11 :: a12 :: a13 :: a14 :: r)) (v := .int x) (by show 14 < _; simp only [List.length_cons]; omega) (fun w _ hw => jnl_at hn hw)) k
theorem j_lstore_14 {a0 a1 a2 a3 a4 a5 a6 a7 a8 a9 a10 a11 a12 a13 a14 a15 : Option Value} {x : Int64} (hd : decode cc pc = .ok (.lstore 14, 2)) (hn : jnl a13 = true) (k : J G own cc nL ini d Q ac sc h (pc + 2) (a0 :: a1 :: a2 :: a3 :: a4 :: a5 :: a6 :: a7 :: a8 :: a9 :: a10 :: a11 :: a12 :: a13 :: some (.long x) :: none :: r) st) : J G own cc nL ini d Q ac sc h pc (a0 :: a1 :: a2 :: a3 :: a4 :: a5 :: a6 :: a7 :: a8 :: a9 :: a10 :: a11 :: a12 :: a13 :: a14 :: a15 :: r) (.long x :: st) :=
  jg_lstore hd (by show 14 + 1 < _; simp only [List.length_cons]; omega) (jput_set2 (lo := (a0 :: a1 :: a2 :: a3 :: a4 :: a5 :: a6 :: a7 :: a8 :: a9 :: a10 :: a11 :: a12 :: a13 :: a14 :: a15 :: r)) (v := .long x) (by show 14 + 1 < _; simp only [List.length_cons]; omega) (fun w _ hw => jnl_at hn hw)) k
theorem j_iinc_14 {a0 a1 a2 a3 a4 a5 a6 a7 a8 a9 a10 a11 a12 a13 : Option Value} {n : Int} {x v : Int32} (hd : decode cc pc = .ok (.iinc 14 n, 3)) (hv : x + Int32.ofInt n = v) (hn : jnl a13 = true) (k : J G own cc nL ini d Q ac sc h (pc + 3) (a0 :: a1 :: a2 :: a3 :: a4 :: a5 :: a6 :: a7 :: a8 :: a9 :: a10 :: a11 :: a12 :: a13 :: some (.int v) :: r) st) : J G own cc nL ini d Q ac sc h pc (a0 :: a1 :: a2 :: a3 :: a4 :: a5 :: a6 :: a7 :: a8 :: a9 :: a10 :: a11 :: a12 :: a13 :: some (.int x) :: r) st :=
  jg_iinc hd rfl hv (jput_set (lo := (a0 :: a1 :: a2 :: a3 :: a4 :: a5 :: a6 :: a7 :: a8 :: a9 :: a10 :: a11 :: a12 :: a13 :: some (.int x) :: r)) (v := .int v) (by simp) (fun w _ hw => jnl_at hn hw)) k
theorem j_forget_14 {a0 a1 a2 a3 a4 a5 a6 a7 a8 a9 a10 a11 a12 a13 a14 : Option Value} (k : J G own cc nL ini d Q ac sc h pc (a0 :: a1 :: a2 :: a3 :: a4 :: a5 :: a6 :: a7 :: a8 :: a9 :: a10 :: a11 :: a12 :: a13 :: none :: r) st) : J G own cc nL ini d Q ac sc h pc (a0 :: a1 :: a2 :: a3 :: a4 :: a5 :: a6 :: a7 :: a8 :: a9 :: a10 :: a11 :: a12 :: a13 :: a14 :: r) st :=
  j_forget ⟨by simp, fun j w hj => by
    have e : (a0 :: a1 :: a2 :: a3 :: a4 :: a5 :: a6 :: a7 :: a8 :: a9 :: a10 :: a11 :: a12 :: a13 :: none :: r) = ((a0 :: a1 :: a2 :: a3 :: a4 :: a5 :: a6 :: a7 :: a8 :: a9 :: a10 :: a11 :: a12 :: a13 :: a14 :: r) : List (Option Value)).set 14 none := rfl
    rw [e] at hj
    by_cases z : j = 14
    · subst z; simp at hj
    · rwa [List.getElem?_set_ne (Ne.symm z)] at hj⟩ k
/-- a truth value as an int -/
def jb (b : Bool) : Int32 := if b then 1 else 0
theorem jb_0 {b : Bool} : jb b = 0 ↔ b = false := by cases b <;> decide
theorem jb_1 {b : Bool} : ¬ jb b = 0 ↔ b = true := by cases b <;> decide
theorem jRv_jb (b : Bool) : jRv (some .boolean) (some (.int (jb b))) := jRv_b b
variable {lo : List (Option Value)}
theorem j_if_eqB {b : Bool} {off : Int} {tgt : Nat} (hd : decode cc pc = .ok (.ifCond .eq off, 3)) (ht : (pc : Int) + off = (tgt : Int)) (kt : b = false → J G own cc nL ini d Q ac sc h tgt lo st) (kf : b = true → J G own cc nL ini d Q ac sc h (pc + 3) lo st) : J G own cc nL ini d Q ac sc h pc lo (.int (jb b) :: st) := j_if_eq hd ht (fun z => kt (jb_0.mp z)) (fun z => kf (jb_1.mp z))
theorem j_if_neB {b : Bool} {off : Int} {tgt : Nat} (hd : decode cc pc = .ok (.ifCond .ne off, 3)) (ht : (pc : Int) + off = (tgt : Int)) (kt : b = true → J G own cc nL ini d Q ac sc h tgt lo st) (kf : b = false → J G own cc nL ini d Q ac sc h (pc + 3) lo st) : J G own cc nL ini d Q ac sc h pc lo (.int (jb b) :: st) := j_if_ne hd ht (fun z => kt (jb_1.mp z)) (fun z => kf (jb_0.mp z))
theorem k_if_lt {x : Int32} {off : Int} {tgt : Nat} (hd : decode cc pc = .ok (.ifCond .lt off, 3)) (ht : (pc : Int) + off = (tgt : Int)) (kt : x < 0 → ¬ 0 ≤ x → J G own cc nL ini d Q ac sc h tgt lo st) (kf : ¬ x < 0 → 0 ≤ x → J G own cc nL ini d Q ac sc h (pc + 3) lo st) : J G own cc nL ini d Q ac sc h pc lo (.int x :: st) := j_if_lt hd ht (fun z => kt z (Int32.not_le.mpr z)) (fun z => kf z (Int32.not_lt.mp z))
theorem k_if_ge {x : Int32} {off : Int} {tgt : Nat} (hd : decode cc pc = .ok (.ifCond .ge off, 3)) (ht : (pc : Int) + off = (tgt : Int)) (kt : 0 ≤ x → ¬ x < 0 → J G own cc nL ini d Q ac sc h tgt lo st) (kf : ¬ 0 ≤ x → x < 0 → J G own cc nL ini d Q ac sc h (pc + 3) lo st) : J G own cc nL ini d Q ac sc h pc lo (.int x :: st) := j_if_ge hd ht (fun z => kt z (Int32.not_lt.mpr z)) (fun z => kf z (Int32.not_le.mp z))
theorem k_if_gt {x : Int32} {off : Int} {tgt : Nat} (hd : decode cc pc = .ok (.ifCond .gt off, 3)) (ht : (pc : Int) + off = (tgt : Int)) (kt : 0 < x → ¬ x ≤ 0 → J G own cc nL ini d Q ac sc h tgt lo st) (kf : ¬ 0 < x → x ≤ 0 → J G own cc nL ini d Q ac sc h (pc + 3) lo st) : J G own cc nL ini d Q ac sc h pc lo (.int x :: st) := j_if_gt hd ht (fun z => kt z (Int32.not_le.mpr z)) (fun z => kf z (Int32.not_lt.mp z))
theorem k_if_le {x : Int32} {off : Int} {tgt : Nat} (hd : decode cc pc = .ok (.ifCond .le off, 3)) (ht : (pc : Int) + off = (tgt : Int)) (kt : x ≤ 0 → ¬ 0 < x → J G own cc nL ini d Q ac sc h tgt lo st) (kf : ¬ x ≤ 0 → 0 < x → J G own cc nL ini d Q ac sc h (pc + 3) lo st) : J G own cc nL ini d Q ac sc h pc lo (.int x :: st) := j_if_le hd ht (fun z => kt z (Int32.not_lt.mpr z)) (fun z => kf z (Int32.not_le.mp z))
theorem k_icmp_lt {x y : Int32} {off : Int} {tgt : Nat} (hd : decode cc pc = .ok (.if_icmp .lt off, 3)) (ht : (pc : Int) + off = (tgt : Int)) (kt : x < y → ¬ y ≤ x → J G own cc nL ini d Q ac sc h tgt lo st) (kf : ¬ x < y → y ≤ x → J G own cc nL ini d Q ac sc h (pc + 3) lo st) : J G own cc nL ini d Q ac sc h pc lo (.int y :: .int x :: st) := j_icmp_lt hd ht (fun z => kt z (Int32.not_le.mpr z)) (fun z => kf z (Int32.not_lt.mp z))
theorem k_icmp_ge {x y : Int32} {off : Int} {tgt : Nat} (hd : decode cc pc = .ok (.if_icmp .ge off, 3)) (ht : (pc : Int) + off = (tgt : Int)) (kt : y ≤ x → ¬ x < y → J G own cc nL ini d Q ac sc h tgt lo st) (kf : ¬ y ≤ x → x < y → J G own cc nL ini d Q ac sc h (pc + 3) lo st) : J G own cc nL ini d Q ac sc h pc lo (.int y :: .int x :: st) := j_icmp_ge hd ht (fun z => kt z (Int32.not_lt.mpr z)) (fun z => kf z (Int32.not_le.mp z))
theorem k_icmp_gt {x y : Int32} {off : Int} {tgt : Nat} (hd : decode cc pc = .ok (.if_icmp .gt off, 3)) (ht : (pc : Int) + off = (tgt : Int)) (kt : y < x → ¬ x ≤ y → J G own cc nL ini d Q ac sc h tgt lo st) (kf : ¬ y < x → x ≤ y → J G own cc nL ini d Q ac sc h (pc + 3) lo st) : J G own cc nL ini d Q ac sc h pc lo (.int y :: .int x :: st) := j_icmp_gt hd ht (fun z => kt z (Int32.not_le.mpr z)) (fun z => kf z (Int32.not_lt.mp z))
theorem k_icmp_le {x y : Int32} {off : Int} {tgt : Nat} (hd : decode cc pc = .ok (.if_icmp .le off, 3)) (ht : (pc : Int) + off = (tgt : Int)) (kt : x ≤ y → ¬ y < x → J G own cc nL ini d Q ac sc h tgt lo st) (kf : ¬ x ≤ y → y < x → J G own cc nL ini d Q ac sc h (pc + 3) lo st) : J G own cc nL ini d Q ac sc h pc lo (.int y :: .int x :: st) := j_icmp_le hd ht (fun z => kt z (Int32.not_lt.mpr z)) (fun z => kf z (Int32.not_le.mp z))
end JR5
section JR6
variable {G : jG} {own : String} {cc : ByteArray} {nL : Nat} {ini : Bool} {d : Nat} {Q : Option Value → jH → Prop} {ac sc : Nat} {pc : Nat} {lo : List (Option Value)} {st : List Value} {h h' : jH} {v : Option Value}
variable {y : MethodName} {cc' : ByteArray} {nL' d' mc ms idx : Nat} {ret' : Option FieldType}
theorem j_callV0 {a ci : Nat} (hd : decode cc pc = .ok (.invokevirtual idx, 3)) (hM' : MT G y cc' nL' ret' d' mc ms (.ref a :: []) h v h') (hl : Cond.methodLink own idx y ∈ jTs) (hy : jMY y cc' nL' ret' 0) (hi : Cond.instanceMethod y ∈ jTs ∧ Cond.selects y.cls y y ∈ jTs) (ho : jO h.1 h.2.1 a ci) (hc0 : vwCl[ci]?.map (fun q => q.1) = some y.cls) (hdd : d' + 1 ≤ d) (hm : nL' ≤ 45) (hst : (st.map fun v => v.category).sum ≤ 8) (k : J G own cc nL ini d Q ac sc h' (pc + 3) lo (v.toList ++ st)) : J G own cc nL ini d Q (ac + mc) (sc + ms) h pc lo (.ref a :: st) := jg_callV (As := []) hd hM' hl hy hi ho hc0 rfl hdd hm hst rfl k
theorem j_callI0 {a : Nat} (hd : decode cc pc = .ok (.invokespecial idx, 3)) (hM' : MT G y cc' nL' none d' mc ms (.ref a :: []) h v h') (hl : Cond.methodLink own idx y ∈ jTs) (hy : jMY y cc' nL' none 0) (hi : Cond.instanceMethod y ∈ jTs) (hyn : y.name = "<init>") (hdd : d' + 1 ≤ d) (hm : nL' ≤ 45) (hst : (st.map fun v => v.category).sum ≤ 8) (k : J G own cc nL ini d Q ac sc h' (pc + 3) lo (v.toList ++ st)) : J G own cc nL ini d Q (ac + mc) (sc + ms) h pc lo (.ref a :: st) := jg_callI (As := []) hd hM' hl hy hi hyn rfl hdd hm hst rfl k
theorem j_callIN0 {a : Nat} {host : String} (hd : decode cc pc = .ok (.invokespecial idx, 3)) (hM' : MT G y cc' nL' none d' mc ms (.ref a :: []) h v h') (hl : ∀ s : State, jS G s → va_Nw (.methodLinkNest own idx y host) s) (hy : jMY y cc' nL' none 0) (hi : Cond.instanceMethod y ∈ jTs) (hyn : y.name = "<init>") (hdd : d' + 1 ≤ d) (hm : nL' ≤ 45) (hst : (st.map fun v => v.category).sum ≤ 8) (k : J G own cc nL ini d Q ac sc h' (pc + 3) lo (v.toList ++ st)) : J G own cc nL ini d Q (ac + mc) (sc + ms) h pc lo (.ref a :: st) := jg_callIN (As := []) hd hM' hl hy hi hyn rfl hdd hm hst rfl k
theorem j_callV1 {a ci : Nat} {x1 : Value} (hd : decode cc pc = .ok (.invokevirtual idx, 3)) (hM' : MT G y cc' nL' ret' d' mc ms (.ref a :: [x1]) h v h') (hl : Cond.methodLink own idx y ∈ jTs) (hy : jMY y cc' nL' ret' 1) (hi : Cond.instanceMethod y ∈ jTs ∧ Cond.selects y.cls y y ∈ jTs) (ho : jO h.1 h.2.1 a ci) (hc0 : vwCl[ci]?.map (fun q => q.1) = some y.cls) (hdd : d' + 1 ≤ d) (hm : nL' ≤ 45) (hst : (st.map fun v => v.category).sum ≤ 8) (k : J G own cc nL ini d Q ac sc h' (pc + 3) lo (v.toList ++ st)) : J G own cc nL ini d Q (ac + mc) (sc + ms) h pc lo (x1 :: .ref a :: st) := jg_callV (As := [x1]) hd hM' hl hy hi ho hc0 rfl hdd hm hst rfl k
theorem j_callS1 {x1 : Value} (hd : decode cc pc = .ok (.invokestatic idx, 3)) (hM' : MT G y cc' nL' ret' d' mc ms [x1] h v h') (hl : Cond.methodLink own idx y ∈ jTs) (hy : jMY y cc' nL' ret' 1) (hi : Cond.static y ∈ jTs) (hdd : d' + 1 ≤ d) (hm : nL' ≤ 45) (hst : (st.map fun v => v.category).sum ≤ 8) (k : J G own cc nL ini d Q ac sc h' (pc + 3) lo (v.toList ++ st)) : J G own cc nL ini d Q (ac + mc) (sc + ms) h pc lo (x1 :: st) := jg_callS (As := [x1]) hd hM' hl hy hi rfl hdd hm hst rfl k
theorem j_callI1 {a : Nat} {x1 : Value} (hd : decode cc pc = .ok (.invokespecial idx, 3)) (hM' : MT G y cc' nL' none d' mc ms (.ref a :: [x1]) h v h') (hl : Cond.methodLink own idx y ∈ jTs) (hy : jMY y cc' nL' none 1) (hi : Cond.instanceMethod y ∈ jTs) (hyn : y.name = "<init>") (hdd : d' + 1 ≤ d) (hm : nL' ≤ 45) (hst : (st.map fun v => v.category).sum ≤ 8) (k : J G own cc nL ini d Q ac sc h' (pc + 3) lo (v.toList ++ st)) : J G own cc nL ini d Q (ac + mc) (sc + ms) h pc lo (x1 :: .ref a :: st) := jg_callI (As := [x1]) hd hM' hl hy hi hyn rfl hdd hm hst rfl k
theorem j_callIN1 {a : Nat} {host : String} {x1 : Value} (hd : decode cc pc = .ok (.invokespecial idx, 3)) (hM' : MT G y cc' nL' none d' mc ms (.ref a :: [x1]) h v h') (hl : ∀ s : State, jS G s → va_Nw (.methodLinkNest own idx y host) s) (hy : jMY y cc' nL' none 1) (hi : Cond.instanceMethod y ∈ jTs) (hyn : y.name = "<init>") (hdd : d' + 1 ≤ d) (hm : nL' ≤ 45) (hst : (st.map fun v => v.category).sum ≤ 8) (k : J G own cc nL ini d Q ac sc h' (pc + 3) lo (v.toList ++ st)) : J G own cc nL ini d Q (ac + mc) (sc + ms) h pc lo (x1 :: .ref a :: st) := jg_callIN (As := [x1]) hd hM' hl hy hi hyn rfl hdd hm hst rfl k
theorem j_callV2 {a ci : Nat} {x1 x2 : Value} (hd : decode cc pc = .ok (.invokevirtual idx, 3)) (hM' : MT G y cc' nL' ret' d' mc ms (.ref a :: [x1, x2]) h v h') (hl : Cond.methodLink own idx y ∈ jTs) (hy : jMY y cc' nL' ret' 2) (hi : Cond.instanceMethod y ∈ jTs ∧ Cond.selects y.cls y y ∈ jTs) (ho : jO h.1 h.2.1 a ci) (hc0 : vwCl[ci]?.map (fun q => q.1) = some y.cls) (hdd : d' + 1 ≤ d) (hm : nL' ≤ 45) (hst : (st.map fun v => v.category).sum ≤ 8) (k : J G own cc nL ini d Q ac sc h' (pc + 3) lo (v.toList ++ st)) : J G own cc nL ini d Q (ac + mc) (sc + ms) h pc lo (x2 :: x1 :: .ref a :: st) := jg_callV (As := [x1, x2]) hd hM' hl hy hi ho hc0 rfl hdd hm hst rfl k
theorem j_callS2 {x1 x2 : Value} (hd : decode cc pc = .ok (.invokestatic idx, 3)) (hM' : MT G y cc' nL' ret' d' mc ms [x1, x2] h v h') (hl : Cond.methodLink own idx y ∈ jTs) (hy : jMY y cc' nL' ret' 2) (hi : Cond.static y ∈ jTs) (hdd : d' + 1 ≤ d) (hm : nL' ≤ 45) (hst : (st.map fun v => v.category).sum ≤ 8) (k : J G own cc nL ini d Q ac sc h' (pc + 3) lo (v.toList ++ st)) : J G own cc nL ini d Q (ac + mc) (sc + ms) h pc lo (x2 :: x1 :: st) := jg_callS (As := [x1, x2]) hd hM' hl hy hi rfl hdd hm hst rfl k
theorem j_callV3 {a ci : Nat} {x1 x2 x3 : Value} (hd : decode cc pc = .ok (.invokevirtual idx, 3)) (hM' : MT G y cc' nL' ret' d' mc ms (.ref a :: [x1, x2, x3]) h v h') (hl : Cond.methodLink own idx y ∈ jTs) (hy : jMY y cc' nL' ret' 3) (hi : Cond.instanceMethod y ∈ jTs ∧ Cond.selects y.cls y y ∈ jTs) (ho : jO h.1 h.2.1 a ci) (hc0 : vwCl[ci]?.map (fun q => q.1) = some y.cls) (hdd : d' + 1 ≤ d) (hm : nL' ≤ 45) (hst : (st.map fun v => v.category).sum ≤ 8) (k : J G own cc nL ini d Q ac sc h' (pc + 3) lo (v.toList ++ st)) : J G own cc nL ini d Q (ac + mc) (sc + ms) h pc lo (x3 :: x2 :: x1 :: .ref a :: st) := jg_callV (As := [x1, x2, x3]) hd hM' hl hy hi ho hc0 rfl hdd hm hst rfl k
theorem j_callS3 {x1 x2 x3 : Value} (hd : decode cc pc = .ok (.invokestatic idx, 3)) (hM' : MT G y cc' nL' ret' d' mc ms [x1, x2, x3] h v h') (hl : Cond.methodLink own idx y ∈ jTs) (hy : jMY y cc' nL' ret' 3) (hi : Cond.static y ∈ jTs) (hdd : d' + 1 ≤ d) (hm : nL' ≤ 45) (hst : (st.map fun v => v.category).sum ≤ 8) (k : J G own cc nL ini d Q ac sc h' (pc + 3) lo (v.toList ++ st)) : J G own cc nL ini d Q (ac + mc) (sc + ms) h pc lo (x3 :: x2 :: x1 :: st) := jg_callS (As := [x1, x2, x3]) hd hM' hl hy hi rfl hdd hm hst rfl k
theorem j_callSN3 {host : String} {x1 x2 x3 : Value} (hd : decode cc pc = .ok (.invokestatic idx, 3)) (hM' : MT G y cc' nL' ret' d' mc ms [x1, x2, x3] h v h') (hl : ∀ s : State, jS G s → va_Nw (.methodLinkNest own idx y host) s) (hy : jMY y cc' nL' ret' 3) (hi : Cond.static y ∈ jTs) (hdd : d' + 1 ≤ d) (hm : nL' ≤ 45) (hst : (st.map fun v => v.category).sum ≤ 8) (k : J G own cc nL ini d Q ac sc h' (pc + 3) lo (v.toList ++ st)) : J G own cc nL ini d Q (ac + mc) (sc + ms) h pc lo (x3 :: x2 :: x1 :: st) := jg_callSN (As := [x1, x2, x3]) hd hM' hl hy hi rfl hdd hm hst rfl k
theorem j_callV4 {a ci : Nat} {x1 x2 x3 x4 : Value} (hd : decode cc pc = .ok (.invokevirtual idx, 3)) (hM' : MT G y cc' nL' ret' d' mc ms (.ref a :: [x1, x2, x3, x4]) h v h') (hl : Cond.methodLink own idx y ∈ jTs) (hy : jMY y cc' nL' ret' 4) (hi : Cond.instanceMethod y ∈ jTs ∧ Cond.selects y.cls y y ∈ jTs) (ho : jO h.1 h.2.1 a ci) (hc0 : vwCl[ci]?.map (fun q => q.1) = some y.cls) (hdd : d' + 1 ≤ d) (hm : nL' ≤ 45) (hst : (st.map fun v => v.category).sum ≤ 8) (k : J G own cc nL ini d Q ac sc h' (pc + 3) lo (v.toList ++ st)) : J G own cc nL ini d Q (ac + mc) (sc + ms) h pc lo (x4 :: x3 :: x2 :: x1 :: .ref a :: st) := jg_callV (As := [x1, x2, x3, x4]) hd hM' hl hy hi ho hc0 rfl hdd hm hst rfl k
theorem j_callS4 {x1 x2 x3 x4 : Value} (hd : decode cc pc = .ok (.invokestatic idx, 3)) (hM' : MT G y cc' nL' ret' d' mc ms [x1, x2, x3, x4] h v h') (hl : Cond.methodLink own idx y ∈ jTs) (hy : jMY y cc' nL' ret' 4) (hi : Cond.static y ∈ jTs) (hdd : d' + 1 ≤ d) (hm : nL' ≤ 45) (hst : (st.map fun v => v.category).sum ≤ 8) (k : J G own cc nL ini d Q ac sc h' (pc + 3) lo (v.toList ++ st)) : J G own cc nL ini d Q (ac + mc) (sc + ms) h pc lo (x4 :: x3 :: x2 :: x1 :: st) := jg_callS (As := [x1, x2, x3, x4]) hd hM' hl hy hi rfl hdd hm hst rfl k
theorem j_callV5 {a ci : Nat} {x1 x2 x3 x4 x5 : Value} (hd : decode cc pc = .ok (.invokevirtual idx, 3)) (hM' : MT G y cc' nL' ret' d' mc ms (.ref a :: [x1, x2, x3, x4, x5]) h v h') (hl : Cond.methodLink own idx y ∈ jTs) (hy : jMY y cc' nL' ret' 5) (hi : Cond.instanceMethod y ∈ jTs ∧ Cond.selects y.cls y y ∈ jTs) (ho : jO h.1 h.2.1 a ci) (hc0 : vwCl[ci]?.map (fun q => q.1) = some y.cls) (hdd : d' + 1 ≤ d) (hm : nL' ≤ 45) (hst : (st.map fun v => v.category).sum ≤ 8) (k : J G own cc nL ini d Q ac sc h' (pc + 3) lo (v.toList ++ st)) : J G own cc nL ini d Q (ac + mc) (sc + ms) h pc lo (x5 :: x4 :: x3 :: x2 :: x1 :: .ref a :: st) := jg_callV (As := [x1, x2, x3, x4, x5]) hd hM' hl hy hi ho hc0 rfl hdd hm hst rfl k
theorem j_callS5 {x1 x2 x3 x4 x5 : Value} (hd : decode cc pc = .ok (.invokestatic idx, 3)) (hM' : MT G y cc' nL' ret' d' mc ms [x1, x2, x3, x4, x5] h v h') (hl : Cond.methodLink own idx y ∈ jTs) (hy : jMY y cc' nL' ret' 5) (hi : Cond.static y ∈ jTs) (hdd : d' + 1 ≤ d) (hm : nL' ≤ 45) (hst : (st.map fun v => v.category).sum ≤ 8) (k : J G own cc nL ini d Q ac sc h' (pc + 3) lo (v.toList ++ st)) : J G own cc nL ini d Q (ac + mc) (sc + ms) h pc lo (x5 :: x4 :: x3 :: x2 :: x1 :: st) := jg_callS (As := [x1, x2, x3, x4, x5]) hd hM' hl hy hi rfl hdd hm hst rfl k
end JR6
end
section
theorem dX6_init_0 : decode cX6_init 0 = .ok (.aload_n 0, 1) := by decide +kernel
theorem dX6_init_1 : decode cX6_init 1 = .ok (.invokespecial 3, 3) := by decide +kernel
theorem dX6_init_4 : decode cX6_init 4 = .ok (.aload_n 0, 1) := by decide +kernel
theorem dX6_init_5 : decode cX6_init 5 = .ok (.new 9, 3) := by decide +kernel
theorem dX6_init_8 : decode cX6_init 8 = .ok (.dup, 1) := by decide +kernel
theorem dX6_init_9 : decode cX6_init 9 = .ok (.invokespecial 11, 3) := by decide +kernel
theorem dX6_init_12 : decode cX6_init 12 = .ok (.putfield 12, 3) := by decide +kernel
theorem dX6_init_15 : decode cX6_init 15 = .ok (.aload_n 0, 1) := by decide +kernel
theorem dX6_init_16 : decode cX6_init 16 = .ok (.new 16, 3) := by decide +kernel
theorem dX6_init_19 : decode cX6_init 19 = .ok (.dup, 1) := by decide +kernel
theorem dX6_init_20 : decode cX6_init 20 = .ok (.invokespecial 18, 3) := by decide +kernel
theorem dX6_init_23 : decode cX6_init 23 = .ok (.putfield 19, 3) := by decide +kernel
theorem dX6_init_26 : decode cX6_init 26 = .ok (.aload_n 0, 1) := by decide +kernel
theorem dX6_init_27 : decode cX6_init 27 = .ok (.new 16, 3) := by decide +kernel
theorem dX6_init_30 : decode cX6_init 30 = .ok (.dup, 1) := by decide +kernel
theorem dX6_init_31 : decode cX6_init 31 = .ok (.invokespecial 18, 3) := by decide +kernel
theorem dX6_init_34 : decode cX6_init 34 = .ok (.putfield 23, 3) := by decide +kernel
theorem dX6_init_37 : decode cX6_init 37 = .ok (.aload_n 0, 1) := by decide +kernel
theorem dX6_init_38 : decode cX6_init 38 = .ok (.new 26, 3) := by decide +kernel
theorem dX6_init_41 : decode cX6_init 41 = .ok (.dup, 1) := by decide +kernel
theorem dX6_init_42 : decode cX6_init 42 = .ok (.aload_n 0, 1) := by decide +kernel
theorem dX6_init_43 : decode cX6_init 43 = .ok (.getfield 23, 3) := by decide +kernel
theorem dX6_init_46 : decode cX6_init 46 = .ok (.invokespecial 28, 3) := by decide +kernel
theorem dX6_init_49 : decode cX6_init 49 = .ok (.putfield 31, 3) := by decide +kernel
theorem dX6_init_52 : decode cX6_init 52 = .ok (.aload_n 0, 1) := by decide +kernel
theorem dX6_init_53 : decode cX6_init 53 = .ok (.new 26, 3) := by decide +kernel
theorem dX6_init_56 : decode cX6_init 56 = .ok (.dup, 1) := by decide +kernel
theorem dX6_init_57 : decode cX6_init 57 = .ok (.aload_n 0, 1) := by decide +kernel
theorem dX6_init_58 : decode cX6_init 58 = .ok (.getfield 23, 3) := by decide +kernel
theorem dX6_init_61 : decode cX6_init 61 = .ok (.invokespecial 28, 3) := by decide +kernel
theorem dX6_init_64 : decode cX6_init 64 = .ok (.putfield 35, 3) := by decide +kernel
theorem dX6_init_67 : decode cX6_init 67 = .ok (.aload_n 0, 1) := by decide +kernel
theorem dX6_init_68 : decode cX6_init 68 = .ok (.new 38, 3) := by decide +kernel
theorem dX6_init_71 : decode cX6_init 71 = .ok (.dup, 1) := by decide +kernel
theorem dX6_init_72 : decode cX6_init 72 = .ok (.aload_n 0, 1) := by decide +kernel
theorem dX6_init_73 : decode cX6_init 73 = .ok (.getfield 23, 3) := by decide +kernel
theorem dX6_init_76 : decode cX6_init 76 = .ok (.invokespecial 40, 3) := by decide +kernel
theorem dX6_init_79 : decode cX6_init 79 = .ok (.putfield 41, 3) := by decide +kernel
theorem dX6_init_82 : decode cX6_init 82 = .ok (.aload_n 0, 1) := by decide +kernel
theorem dX6_init_83 : decode cX6_init 83 = .ok (.iconst 2, 1) := by decide +kernel
theorem dX6_init_84 : decode cX6_init 84 = .ok (.anewarray 26, 3) := by decide +kernel
theorem dX6_init_87 : decode cX6_init 87 = .ok (.putfield 45, 3) := by decide +kernel
theorem dX6_init_90 : decode cX6_init 90 = .ok (.aload_n 0, 1) := by decide +kernel
theorem dX6_init_91 : decode cX6_init 91 = .ok (.iconst 0, 1) := by decide +kernel
theorem dX6_init_92 : decode cX6_init 92 = .ok (.putfield 49, 3) := by decide +kernel
theorem dX6_init_95 : decode cX6_init 95 = .ok (.aload_n 0, 1) := by decide +kernel
theorem dX6_init_96 : decode cX6_init 96 = .ok (.new 53, 3) := by decide +kernel
theorem dX6_init_99 : decode cX6_init 99 = .ok (.dup, 1) := by decide +kernel
theorem dX6_init_100 : decode cX6_init 100 = .ok (.invokespecial 55, 3) := by decide +kernel
theorem dX6_init_103 : decode cX6_init 103 = .ok (.putfield 56, 3) := by decide +kernel
theorem dX6_init_106 : decode cX6_init 106 = .ok (.aload_n 0, 1) := by decide +kernel
theorem dX6_init_107 : decode cX6_init 107 = .ok (.new 60, 3) := by decide +kernel
theorem dX6_init_110 : decode cX6_init 110 = .ok (.dup, 1) := by decide +kernel
theorem dX6_init_111 : decode cX6_init 111 = .ok (.aload_n 0, 1) := by decide +kernel
theorem dX6_init_112 : decode cX6_init 112 = .ok (.getfield 23, 3) := by decide +kernel
theorem dX6_init_115 : decode cX6_init 115 = .ok (.invokespecial 62, 3) := by decide +kernel
theorem dX6_init_118 : decode cX6_init 118 = .ok (.putfield 63, 3) := by decide +kernel
theorem dX6_init_121 : decode cX6_init 121 = .ok (.iconst 0, 1) := by decide +kernel
theorem dX6_init_122 : decode cX6_init 122 = .ok (.istore_n 1, 1) := by decide +kernel
theorem dX6_init_123 : decode cX6_init 123 = .ok (.iload_n 1, 1) := by decide +kernel
theorem dX6_init_124 : decode cX6_init 124 = .ok (.iconst 2, 1) := by decide +kernel
theorem dX6_init_125 : decode cX6_init 125 = .ok (.if_icmp .ge 26, 3) := by decide +kernel
theorem dX6_init_128 : decode cX6_init 128 = .ok (.aload_n 0, 1) := by decide +kernel
theorem dX6_init_129 : decode cX6_init 129 = .ok (.getfield 45, 3) := by decide +kernel
theorem dX6_init_132 : decode cX6_init 132 = .ok (.iload_n 1, 1) := by decide +kernel
theorem dX6_init_133 : decode cX6_init 133 = .ok (.new 26, 3) := by decide +kernel
theorem dX6_init_136 : decode cX6_init 136 = .ok (.dup, 1) := by decide +kernel
theorem dX6_init_137 : decode cX6_init 137 = .ok (.aload_n 0, 1) := by decide +kernel
theorem dX6_init_138 : decode cX6_init 138 = .ok (.getfield 23, 3) := by decide +kernel
theorem dX6_init_141 : decode cX6_init 141 = .ok (.invokespecial 28, 3) := by decide +kernel
theorem dX6_init_144 : decode cX6_init 144 = .ok (.aastore, 1) := by decide +kernel
theorem dX6_init_145 : decode cX6_init 145 = .ok (.iinc 1 1, 3) := by decide +kernel
theorem dX6_init_148 : decode cX6_init 148 = .ok (.goto (-25), 3) := by decide +kernel
theorem dX6_init_151 : decode cX6_init 151 = .ok (.iconst 0, 1) := by decide +kernel
theorem dX6_init_152 : decode cX6_init 152 = .ok (.istore_n 1, 1) := by decide +kernel
theorem dX6_init_153 : decode cX6_init 153 = .ok (.iload_n 1, 1) := by decide +kernel
theorem dX6_init_154 : decode cX6_init 154 = .ok (.ldc 67, 2) := by decide +kernel
theorem dX6_init_156 : decode cX6_init 156 = .ok (.invokevirtual 69, 3) := by decide +kernel
theorem dX6_init_159 : decode cX6_init 159 = .ok (.if_icmp .ge 22, 3) := by decide +kernel
theorem dX6_init_162 : decode cX6_init 162 = .ok (.aload_n 0, 1) := by decide +kernel
theorem dX6_init_163 : decode cX6_init 163 = .ok (.getfield 12, 3) := by decide +kernel
theorem dX6_init_166 : decode cX6_init 166 = .ok (.ldc 67, 2) := by decide +kernel
theorem dX6_init_168 : decode cX6_init 168 = .ok (.iload_n 1, 1) := by decide +kernel
theorem dX6_init_169 : decode cX6_init 169 = .ok (.invokevirtual 75, 3) := by decide +kernel
theorem dX6_init_172 : decode cX6_init 172 = .ok (.invokevirtual 79, 3) := by decide +kernel
theorem dX6_init_175 : decode cX6_init 175 = .ok (.iinc 1 1, 3) := by decide +kernel
theorem dX6_init_178 : decode cX6_init 178 = .ok (.goto (-25), 3) := by decide +kernel
theorem dX6_init_181 : decode cX6_init 181 = .ok (.aload_n 0, 1) := by decide +kernel
theorem dX6_init_182 : decode cX6_init 182 = .ok (.getfield 12, 3) := by decide +kernel
theorem dX6_init_185 : decode cX6_init 185 = .ok (.aload_n 0, 1) := by decide +kernel
theorem dX6_init_186 : decode cX6_init 186 = .ok (.getfield 23, 3) := by decide +kernel
theorem dX6_init_189 : decode cX6_init 189 = .ok (.invokevirtual 83, 3) := by decide +kernel
theorem dX6_init_192 : decode cX6_init 192 = .ok (.pop, 1) := by decide +kernel
theorem dX6_init_193 : decode cX6_init 193 = .ok (.aload_n 0, 1) := by decide +kernel
theorem dX6_init_194 : decode cX6_init 194 = .ok (.getfield 31, 3) := by decide +kernel
theorem dX6_init_197 : decode cX6_init 197 = .ok (.invokevirtual 87, 3) := by decide +kernel
theorem dX6_init_200 : decode cX6_init 200 = .ok (.aload_n 0, 1) := by decide +kernel
theorem dX6_init_201 : decode cX6_init 201 = .ok (.getfield 12, 3) := by decide +kernel
theorem dX6_init_204 : decode cX6_init 204 = .ok (.iconst 0, 1) := by decide +kernel
theorem dX6_init_205 : decode cX6_init 205 = .ok (.putfield 90, 3) := by decide +kernel
theorem dX6_init_208 : decode cX6_init 208 = .ok (.return_, 1) := by decide +kernel
theorem dX6_write_0 : decode cX6_write 0 = .ok (.iload_n 1, 1) := by decide +kernel
theorem dX6_write_1 : decode cX6_write 1 = .ok (.bipush 32, 2) := by decide +kernel
theorem dX6_write_3 : decode cX6_write 3 = .ok (.if_icmp .lt 9, 3) := by decide +kernel
theorem dX6_write_6 : decode cX6_write 6 = .ok (.iload_n 1, 1) := by decide +kernel
theorem dX6_write_7 : decode cX6_write 7 = .ok (.bipush 126, 2) := by decide +kernel
theorem dX6_write_9 : decode cX6_write 9 = .ok (.if_icmp .le 5, 3) := by decide +kernel
theorem dX6_write_12 : decode cX6_write 12 = .ok (.iconst (-1), 1) := by decide +kernel
theorem dX6_write_13 : decode cX6_write 13 = .ok (.ireturn, 1) := by decide +kernel
theorem dX6_write_14 : decode cX6_write 14 = .ok (.aload_n 0, 1) := by decide +kernel
theorem dX6_write_15 : decode cX6_write 15 = .ok (.getfield 12, 3) := by decide +kernel
theorem dX6_write_18 : decode cX6_write 18 = .ok (.getfield 90, 3) := by decide +kernel
theorem dX6_write_21 : decode cX6_write 21 = .ok (.sipush 200, 3) := by decide +kernel
theorem dX6_write_24 : decode cX6_write 24 = .ok (.if_icmp .lt 6, 3) := by decide +kernel
theorem dX6_write_27 : decode cX6_write 27 = .ok (.bipush (-3), 2) := by decide +kernel
theorem dX6_write_29 : decode cX6_write 29 = .ok (.ireturn, 1) := by decide +kernel
theorem dX6_write_30 : decode cX6_write 30 = .ok (.aload_n 0, 1) := by decide +kernel
theorem dX6_write_31 : decode cX6_write 31 = .ok (.getfield 12, 3) := by decide +kernel
theorem dX6_write_34 : decode cX6_write 34 = .ok (.iload_n 1, 1) := by decide +kernel
theorem dX6_write_35 : decode cX6_write 35 = .ok (.i2c, 1) := by decide +kernel
theorem dX6_write_36 : decode cX6_write 36 = .ok (.invokevirtual 79, 3) := by decide +kernel
theorem dX6_write_39 : decode cX6_write 39 = .ok (.aload_n 0, 1) := by decide +kernel
theorem dX6_write_40 : decode cX6_write 40 = .ok (.getfield 12, 3) := by decide +kernel
theorem dX6_write_43 : decode cX6_write 43 = .ok (.getfield 90, 3) := by decide +kernel
theorem dX6_write_46 : decode cX6_write 46 = .ok (.ireturn, 1) := by decide +kernel
theorem dX6_wipe_0 : decode cX6_wipe 0 = .ok (.aload_n 0, 1) := by decide +kernel
theorem dX6_wipe_1 : decode cX6_wipe 1 = .ok (.getfield 12, 3) := by decide +kernel
theorem dX6_wipe_4 : decode cX6_wipe 4 = .ok (.getfield 90, 3) := by decide +kernel
theorem dX6_wipe_7 : decode cX6_wipe 7 = .ok (.istore_n 1, 1) := by decide +kernel
theorem dX6_wipe_8 : decode cX6_wipe 8 = .ok (.aload_n 0, 1) := by decide +kernel
theorem dX6_wipe_9 : decode cX6_wipe 9 = .ok (.getfield 12, 3) := by decide +kernel
theorem dX6_wipe_12 : decode cX6_wipe 12 = .ok (.iconst 0, 1) := by decide +kernel
theorem dX6_wipe_13 : decode cX6_wipe 13 = .ok (.putfield 90, 3) := by decide +kernel
theorem dX6_wipe_16 : decode cX6_wipe 16 = .ok (.iload_n 1, 1) := by decide +kernel
theorem dX6_wipe_17 : decode cX6_wipe 17 = .ok (.ireturn, 1) := by decide +kernel
theorem dX6_fault_0 : decode cX6_fault 0 = .ok (.aload_n 0, 1) := by decide +kernel
theorem dX6_fault_1 : decode cX6_fault 1 = .ok (.getfield 12, 3) := by decide +kernel
theorem dX6_fault_4 : decode cX6_fault 4 = .ok (.aload_n 0, 1) := by decide +kernel
theorem dX6_fault_5 : decode cX6_fault 5 = .ok (.getfield 19, 3) := by decide +kernel
theorem dX6_fault_8 : decode cX6_fault 8 = .ok (.invokevirtual 83, 3) := by decide +kernel
theorem dX6_fault_11 : decode cX6_fault 11 = .ok (.ireturn, 1) := by decide +kernel
theorem dX6_lay_0 : decode cX6_lay 0 = .ok (.aload_n 0, 1) := by decide +kernel
theorem dX6_lay_1 : decode cX6_lay 1 = .ok (.getfield 12, 3) := by decide +kernel
theorem dX6_lay_4 : decode cX6_lay 4 = .ok (.aload_n 0, 1) := by decide +kernel
theorem dX6_lay_5 : decode cX6_lay 5 = .ok (.getfield 19, 3) := by decide +kernel
theorem dX6_lay_8 : decode cX6_lay 8 = .ok (.invokevirtual 83, 3) := by decide +kernel
theorem dX6_lay_11 : decode cX6_lay 11 = .ok (.bipush (-4), 2) := by decide +kernel
theorem dX6_lay_13 : decode cX6_lay 13 = .ok (.if_icmp .ne 13, 3) := by decide +kernel
theorem dX6_lay_16 : decode cX6_lay 16 = .ok (.aload_n 0, 1) := by decide +kernel
theorem dX6_lay_17 : decode cX6_lay 17 = .ok (.getfield 19, 3) := by decide +kernel
theorem dX6_lay_20 : decode cX6_lay 20 = .ok (.getfield 92, 3) := by decide +kernel
theorem dX6_lay_23 : decode cX6_lay 23 = .ok (.ifCond .ne 6, 3) := by decide +kernel
theorem dX6_lay_26 : decode cX6_lay 26 = .ok (.bipush (-2), 2) := by decide +kernel
theorem dX6_lay_28 : decode cX6_lay 28 = .ok (.ireturn, 1) := by decide +kernel
theorem dX6_lay_29 : decode cX6_lay 29 = .ok (.aload_n 0, 1) := by decide +kernel
theorem dX6_lay_30 : decode cX6_lay 30 = .ok (.getfield 12, 3) := by decide +kernel
theorem dX6_lay_33 : decode cX6_lay 33 = .ok (.aload_n 0, 1) := by decide +kernel
theorem dX6_lay_34 : decode cX6_lay 34 = .ok (.getfield 23, 3) := by decide +kernel
theorem dX6_lay_37 : decode cX6_lay 37 = .ok (.invokevirtual 83, 3) := by decide +kernel
theorem dX6_lay_40 : decode cX6_lay 40 = .ok (.pop, 1) := by decide +kernel
theorem dX6_lay_41 : decode cX6_lay 41 = .ok (.aload_n 0, 1) := by decide +kernel
theorem dX6_lay_42 : decode cX6_lay 42 = .ok (.getfield 31, 3) := by decide +kernel
theorem dX6_lay_45 : decode cX6_lay 45 = .ok (.invokevirtual 87, 3) := by decide +kernel
theorem dX6_lay_48 : decode cX6_lay 48 = .ok (.aload_n 0, 1) := by decide +kernel
theorem dX6_lay_49 : decode cX6_lay 49 = .ok (.getfield 41, 3) := by decide +kernel
theorem dX6_lay_52 : decode cX6_lay 52 = .ok (.iconst 0, 1) := by decide +kernel
theorem dX6_lay_53 : decode cX6_lay 53 = .ok (.putfield 95, 3) := by decide +kernel
theorem dX6_lay_56 : decode cX6_lay 56 = .ok (.aload_n 0, 1) := by decide +kernel
theorem dX6_lay_57 : decode cX6_lay 57 = .ok (.iconst 0, 1) := by decide +kernel
theorem dX6_lay_58 : decode cX6_lay 58 = .ok (.putfield 49, 3) := by decide +kernel
theorem dX6_lay_61 : decode cX6_lay 61 = .ok (.aload_n 0, 1) := by decide +kernel
theorem dX6_lay_62 : decode cX6_lay 62 = .ok (.getfield 56, 3) := by decide +kernel
theorem dX6_lay_65 : decode cX6_lay 65 = .ok (.iconst 0, 1) := by decide +kernel
theorem dX6_lay_66 : decode cX6_lay 66 = .ok (.putfield 98, 3) := by decide +kernel
theorem dX6_lay_69 : decode cX6_lay 69 = .ok (.aload_n 0, 1) := by decide +kernel
theorem dX6_lay_70 : decode cX6_lay 70 = .ok (.getfield 23, 3) := by decide +kernel
theorem dX6_lay_73 : decode cX6_lay 73 = .ok (.getfield 92, 3) := by decide +kernel
theorem dX6_lay_76 : decode cX6_lay 76 = .ok (.ireturn, 1) := by decide +kernel
theorem dX6_wall_0 : decode cX6_wall 0 = .ok (.aload_n 0, 1) := by decide +kernel
theorem dX6_wall_1 : decode cX6_wall 1 = .ok (.iload_n 1, 1) := by decide +kernel
theorem dX6_wall_2 : decode cX6_wall 2 = .ok (.invokevirtual 99, 3) := by decide +kernel
theorem dX6_wall_5 : decode cX6_wall 5 = .ok (.ifCond .eq 5, 3) := by decide +kernel
theorem dX6_wall_8 : decode cX6_wall 8 = .ok (.iconst (-1), 1) := by decide +kernel
theorem dX6_wall_9 : decode cX6_wall 9 = .ok (.ireturn, 1) := by decide +kernel
theorem dX6_wall_10 : decode cX6_wall 10 = .ok (.iload_n 2, 1) := by decide +kernel
theorem dX6_wall_11 : decode cX6_wall 11 = .ok (.tableswitch 153 0 7 #[45, 55, 65, 75, 85, 102, 112, 122], 45) := by decide +kernel
theorem dX6_wall_56 : decode cX6_wall 56 = .ok (.aload_n 0, 1) := by decide +kernel
theorem dX6_wall_57 : decode cX6_wall 57 = .ok (.getfield 23, 3) := by decide +kernel
theorem dX6_wall_60 : decode cX6_wall 60 = .ok (.getfield 103, 3) := by decide +kernel
theorem dX6_wall_63 : decode cX6_wall 63 = .ok (.iload_n 1, 1) := by decide +kernel
theorem dX6_wall_64 : decode cX6_wall 64 = .ok (.iaload, 1) := by decide +kernel
theorem dX6_wall_65 : decode cX6_wall 65 = .ok (.ireturn, 1) := by decide +kernel
theorem dX6_wall_66 : decode cX6_wall 66 = .ok (.aload_n 0, 1) := by decide +kernel
theorem dX6_wall_67 : decode cX6_wall 67 = .ok (.getfield 23, 3) := by decide +kernel
theorem dX6_wall_70 : decode cX6_wall 70 = .ok (.getfield 107, 3) := by decide +kernel
theorem dX6_wall_73 : decode cX6_wall 73 = .ok (.iload_n 1, 1) := by decide +kernel
theorem dX6_wall_74 : decode cX6_wall 74 = .ok (.iaload, 1) := by decide +kernel
theorem dX6_wall_75 : decode cX6_wall 75 = .ok (.ireturn, 1) := by decide +kernel
theorem dX6_wall_76 : decode cX6_wall 76 = .ok (.aload_n 0, 1) := by decide +kernel
theorem dX6_wall_77 : decode cX6_wall 77 = .ok (.getfield 23, 3) := by decide +kernel
theorem dX6_wall_80 : decode cX6_wall 80 = .ok (.getfield 110, 3) := by decide +kernel
theorem dX6_wall_83 : decode cX6_wall 83 = .ok (.iload_n 1, 1) := by decide +kernel
theorem dX6_wall_84 : decode cX6_wall 84 = .ok (.iaload, 1) := by decide +kernel
theorem dX6_wall_85 : decode cX6_wall 85 = .ok (.ireturn, 1) := by decide +kernel
theorem dX6_wall_86 : decode cX6_wall 86 = .ok (.aload_n 0, 1) := by decide +kernel
theorem dX6_wall_87 : decode cX6_wall 87 = .ok (.getfield 31, 3) := by decide +kernel
theorem dX6_wall_90 : decode cX6_wall 90 = .ok (.getfield 113, 3) := by decide +kernel
theorem dX6_wall_93 : decode cX6_wall 93 = .ok (.iload_n 1, 1) := by decide +kernel
theorem dX6_wall_94 : decode cX6_wall 94 = .ok (.iaload, 1) := by decide +kernel
theorem dX6_wall_95 : decode cX6_wall 95 = .ok (.ireturn, 1) := by decide +kernel
theorem dX6_wall_96 : decode cX6_wall 96 = .ok (.aload_n 0, 1) := by decide +kernel
theorem dX6_wall_97 : decode cX6_wall 97 = .ok (.getfield 31, 3) := by decide +kernel
theorem dX6_wall_100 : decode cX6_wall 100 = .ok (.iload_n 1, 1) := by decide +kernel
theorem dX6_wall_101 : decode cX6_wall 101 = .ok (.invokevirtual 114, 3) := by decide +kernel
theorem dX6_wall_104 : decode cX6_wall 104 = .ok (.ifCond .eq 7, 3) := by decide +kernel
theorem dX6_wall_107 : decode cX6_wall 107 = .ok (.iconst 0, 1) := by decide +kernel
theorem dX6_wall_108 : decode cX6_wall 108 = .ok (.goto 4, 3) := by decide +kernel
theorem dX6_wall_111 : decode cX6_wall 111 = .ok (.iconst 1, 1) := by decide +kernel
theorem dX6_wall_112 : decode cX6_wall 112 = .ok (.ireturn, 1) := by decide +kernel
theorem dX6_wall_113 : decode cX6_wall 113 = .ok (.aload_n 0, 1) := by decide +kernel
theorem dX6_wall_114 : decode cX6_wall 114 = .ok (.getfield 31, 3) := by decide +kernel
theorem dX6_wall_117 : decode cX6_wall 117 = .ok (.getfield 117, 3) := by decide +kernel
theorem dX6_wall_120 : decode cX6_wall 120 = .ok (.iload_n 1, 1) := by decide +kernel
theorem dX6_wall_121 : decode cX6_wall 121 = .ok (.iaload, 1) := by decide +kernel
theorem dX6_wall_122 : decode cX6_wall 122 = .ok (.ireturn, 1) := by decide +kernel
theorem dX6_wall_123 : decode cX6_wall 123 = .ok (.aload_n 0, 1) := by decide +kernel
theorem dX6_wall_124 : decode cX6_wall 124 = .ok (.getfield 31, 3) := by decide +kernel
theorem dX6_wall_127 : decode cX6_wall 127 = .ok (.getfield 120, 3) := by decide +kernel
theorem dX6_wall_130 : decode cX6_wall 130 = .ok (.iload_n 1, 1) := by decide +kernel
theorem dX6_wall_131 : decode cX6_wall 131 = .ok (.iaload, 1) := by decide +kernel
theorem dX6_wall_132 : decode cX6_wall 132 = .ok (.ireturn, 1) := by decide +kernel
theorem dX6_wall_133 : decode cX6_wall 133 = .ok (.aload_n 0, 1) := by decide +kernel
theorem dX6_wall_134 : decode cX6_wall 134 = .ok (.getfield 23, 3) := by decide +kernel
theorem dX6_wall_137 : decode cX6_wall 137 = .ok (.getfield 103, 3) := by decide +kernel
theorem dX6_wall_140 : decode cX6_wall 140 = .ok (.iload_n 1, 1) := by decide +kernel
theorem dX6_wall_141 : decode cX6_wall 141 = .ok (.iaload, 1) := by decide +kernel
theorem dX6_wall_142 : decode cX6_wall 142 = .ok (.iconst 3, 1) := by decide +kernel
theorem dX6_wall_143 : decode cX6_wall 143 = .ok (.if_icmp .ne 19, 3) := by decide +kernel
theorem dX6_wall_146 : decode cX6_wall 146 = .ok (.aload_n 0, 1) := by decide +kernel
theorem dX6_wall_147 : decode cX6_wall 147 = .ok (.getfield 31, 3) := by decide +kernel
theorem dX6_wall_150 : decode cX6_wall 150 = .ok (.getfield 123, 3) := by decide +kernel
theorem dX6_wall_153 : decode cX6_wall 153 = .ok (.iload_n 1, 1) := by decide +kernel
theorem dX6_wall_154 : decode cX6_wall 154 = .ok (.iaload, 1) := by decide +kernel
theorem dX6_wall_155 : decode cX6_wall 155 = .ok (.ifCond .le 7, 3) := by decide +kernel
theorem dX6_wall_158 : decode cX6_wall 158 = .ok (.iconst 1, 1) := by decide +kernel
theorem dX6_wall_159 : decode cX6_wall 159 = .ok (.goto 4, 3) := by decide +kernel
theorem dX6_wall_162 : decode cX6_wall 162 = .ok (.iconst 0, 1) := by decide +kernel
theorem dX6_wall_163 : decode cX6_wall 163 = .ok (.ireturn, 1) := by decide +kernel
theorem dX6_wall_164 : decode cX6_wall 164 = .ok (.iconst (-1), 1) := by decide +kernel
theorem dX6_wall_165 : decode cX6_wall 165 = .ok (.ireturn, 1) := by decide +kernel
theorem dX6_holds_0 : decode cX6_holds 0 = .ok (.aload_n 0, 1) := by decide +kernel
theorem dX6_holds_1 : decode cX6_holds 1 = .ok (.iload_n 1, 1) := by decide +kernel
theorem dX6_holds_2 : decode cX6_holds 2 = .ok (.iload_n 2, 1) := by decide +kernel
theorem dX6_holds_3 : decode cX6_holds 3 = .ok (.invokevirtual 126, 3) := by decide +kernel
theorem dX6_holds_6 : decode cX6_holds 6 = .ok (.ifCond .eq 7, 3) := by decide +kernel
theorem dX6_holds_9 : decode cX6_holds 9 = .ok (.iconst (-1), 1) := by decide +kernel
theorem dX6_holds_10 : decode cX6_holds 10 = .ok (.goto 12, 3) := by decide +kernel
theorem dX6_holds_13 : decode cX6_holds 13 = .ok (.aload_n 0, 1) := by decide +kernel
theorem dX6_holds_14 : decode cX6_holds 14 = .ok (.getfield 31, 3) := by decide +kernel
theorem dX6_holds_17 : decode cX6_holds 17 = .ok (.iload_n 1, 1) := by decide +kernel
theorem dX6_holds_18 : decode cX6_holds 18 = .ok (.iload_n 2, 1) := by decide +kernel
theorem dX6_holds_19 : decode cX6_holds 19 = .ok (.invokevirtual 130, 3) := by decide +kernel
theorem dX6_holds_22 : decode cX6_holds 22 = .ok (.ireturn, 1) := by decide +kernel
theorem dX6_round_0 : decode cX6_round 0 = .ok (.aload_n 0, 1) := by decide +kernel
theorem dX6_round_1 : decode cX6_round 1 = .ok (.iload_n 1, 1) := by decide +kernel
theorem dX6_round_2 : decode cX6_round 2 = .ok (.invokevirtual 99, 3) := by decide +kernel
theorem dX6_round_5 : decode cX6_round 5 = .ok (.ifCond .eq 5, 3) := by decide +kernel
theorem dX6_round_8 : decode cX6_round 8 = .ok (.iconst (-1), 1) := by decide +kernel
theorem dX6_round_9 : decode cX6_round 9 = .ok (.ireturn, 1) := by decide +kernel
theorem dX6_round_10 : decode cX6_round 10 = .ok (.aload_n 0, 1) := by decide +kernel
theorem dX6_round_11 : decode cX6_round 11 = .ok (.getfield 31, 3) := by decide +kernel
theorem dX6_round_14 : decode cX6_round 14 = .ok (.iload_n 1, 1) := by decide +kernel
theorem dX6_round_15 : decode cX6_round 15 = .ok (.invokevirtual 114, 3) := by decide +kernel
theorem dX6_round_18 : decode cX6_round 18 = .ok (.ifCond .ne 6, 3) := by decide +kernel
theorem dX6_round_21 : decode cX6_round 21 = .ok (.bipush (-2), 2) := by decide +kernel
theorem dX6_round_23 : decode cX6_round 23 = .ok (.ireturn, 1) := by decide +kernel
theorem dX6_round_24 : decode cX6_round 24 = .ok (.aload_n 0, 1) := by decide +kernel
theorem dX6_round_25 : decode cX6_round 25 = .ok (.getfield 31, 3) := by decide +kernel
theorem dX6_round_28 : decode cX6_round 28 = .ok (.getfield 117, 3) := by decide +kernel
theorem dX6_round_31 : decode cX6_round 31 = .ok (.iload_n 1, 1) := by decide +kernel
theorem dX6_round_32 : decode cX6_round 32 = .ok (.iaload, 1) := by decide +kernel
theorem dX6_round_33 : decode cX6_round 33 = .ok (.bipush 7, 2) := by decide +kernel
theorem dX6_round_35 : decode cX6_round 35 = .ok (.if_icmp .lt 6, 3) := by decide +kernel
theorem dX6_round_38 : decode cX6_round 38 = .ok (.bipush (-3), 2) := by decide +kernel
theorem dX6_round_40 : decode cX6_round 40 = .ok (.ireturn, 1) := by decide +kernel
theorem dX6_round_41 : decode cX6_round 41 = .ok (.aload_n 0, 1) := by decide +kernel
theorem dX6_round_42 : decode cX6_round 42 = .ok (.getfield 41, 3) := by decide +kernel
theorem dX6_round_45 : decode cX6_round 45 = .ok (.aload_n 0, 1) := by decide +kernel
theorem dX6_round_46 : decode cX6_round 46 = .ok (.getfield 31, 3) := by decide +kernel
theorem dX6_round_49 : decode cX6_round 49 = .ok (.invokevirtual 134, 3) := by decide +kernel
theorem dX6_round_52 : decode cX6_round 52 = .ok (.aload_n 0, 1) := by decide +kernel
theorem dX6_round_53 : decode cX6_round 53 = .ok (.getfield 31, 3) := by decide +kernel
theorem dX6_round_56 : decode cX6_round 56 = .ok (.iload_n 1, 1) := by decide +kernel
theorem dX6_round_57 : decode cX6_round 57 = .ok (.invokevirtual 138, 3) := by decide +kernel
theorem dX6_round_60 : decode cX6_round 60 = .ok (.aload_n 0, 1) := by decide +kernel
theorem dX6_round_61 : decode cX6_round 61 = .ok (.getfield 31, 3) := by decide +kernel
theorem dX6_round_64 : decode cX6_round 64 = .ok (.getfield 117, 3) := by decide +kernel
theorem dX6_round_67 : decode cX6_round 67 = .ok (.iload_n 1, 1) := by decide +kernel
theorem dX6_round_68 : decode cX6_round 68 = .ok (.iaload, 1) := by decide +kernel
theorem dX6_round_69 : decode cX6_round 69 = .ok (.ireturn, 1) := by decide +kernel
theorem dX6_blast_0 : decode cX6_blast 0 = .ok (.aload_n 0, 1) := by decide +kernel
theorem dX6_blast_1 : decode cX6_blast 1 = .ok (.iload_n 1, 1) := by decide +kernel
theorem dX6_blast_2 : decode cX6_blast 2 = .ok (.invokevirtual 99, 3) := by decide +kernel
theorem dX6_blast_5 : decode cX6_blast 5 = .ok (.ifCond .ne 13, 3) := by decide +kernel
theorem dX6_blast_8 : decode cX6_blast 8 = .ok (.iload_n 2, 1) := by decide +kernel
theorem dX6_blast_9 : decode cX6_blast 9 = .ok (.iconst 1, 1) := by decide +kernel
theorem dX6_blast_10 : decode cX6_blast 10 = .ok (.bipush 9, 2) := by decide +kernel
theorem dX6_blast_12 : decode cX6_blast 12 = .ok (.invokestatic 142, 3) := by decide +kernel
theorem dX6_blast_15 : decode cX6_blast 15 = .ok (.ifCond .eq 5, 3) := by decide +kernel
theorem dX6_blast_18 : decode cX6_blast 18 = .ok (.iconst (-1), 1) := by decide +kernel
theorem dX6_blast_19 : decode cX6_blast 19 = .ok (.ireturn, 1) := by decide +kernel
theorem dX6_blast_20 : decode cX6_blast 20 = .ok (.aload_n 0, 1) := by decide +kernel
theorem dX6_blast_21 : decode cX6_blast 21 = .ok (.getfield 31, 3) := by decide +kernel
theorem dX6_blast_24 : decode cX6_blast 24 = .ok (.iload_n 1, 1) := by decide +kernel
theorem dX6_blast_25 : decode cX6_blast 25 = .ok (.invokevirtual 114, 3) := by decide +kernel
theorem dX6_blast_28 : decode cX6_blast 28 = .ok (.ifCond .ne 6, 3) := by decide +kernel
theorem dX6_blast_31 : decode cX6_blast 31 = .ok (.bipush (-2), 2) := by decide +kernel
theorem dX6_blast_33 : decode cX6_blast 33 = .ok (.ireturn, 1) := by decide +kernel
theorem dX6_blast_34 : decode cX6_blast 34 = .ok (.aload_n 0, 1) := by decide +kernel
theorem dX6_blast_35 : decode cX6_blast 35 = .ok (.getfield 41, 3) := by decide +kernel
theorem dX6_blast_38 : decode cX6_blast 38 = .ok (.aload_n 0, 1) := by decide +kernel
theorem dX6_blast_39 : decode cX6_blast 39 = .ok (.getfield 31, 3) := by decide +kernel
theorem dX6_blast_42 : decode cX6_blast 42 = .ok (.invokevirtual 134, 3) := by decide +kernel
theorem dX6_blast_45 : decode cX6_blast 45 = .ok (.aload_n 0, 1) := by decide +kernel
theorem dX6_blast_46 : decode cX6_blast 46 = .ok (.getfield 31, 3) := by decide +kernel
theorem dX6_blast_49 : decode cX6_blast 49 = .ok (.iload_n 1, 1) := by decide +kernel
theorem dX6_blast_50 : decode cX6_blast 50 = .ok (.iload_n 2, 1) := by decide +kernel
theorem dX6_blast_51 : decode cX6_blast 51 = .ok (.invokevirtual 146, 3) := by decide +kernel
theorem dX6_blast_54 : decode cX6_blast 54 = .ok (.ireturn, 1) := by decide +kernel
theorem dX6_pass_0 : decode cX6_pass 0 = .ok (.iload_n 1, 1) := by decide +kernel
theorem dX6_pass_1 : decode cX6_pass 1 = .ok (.iconst 1, 1) := by decide +kernel
theorem dX6_pass_2 : decode cX6_pass 2 = .ok (.bipush 24, 2) := by decide +kernel
theorem dX6_pass_4 : decode cX6_pass 4 = .ok (.invokestatic 142, 3) := by decide +kernel
theorem dX6_pass_7 : decode cX6_pass 7 = .ok (.ifCond .eq 5, 3) := by decide +kernel
theorem dX6_pass_10 : decode cX6_pass 10 = .ok (.iconst (-1), 1) := by decide +kernel
theorem dX6_pass_11 : decode cX6_pass 11 = .ok (.ireturn, 1) := by decide +kernel
theorem dX6_pass_12 : decode cX6_pass 12 = .ok (.aload_n 0, 1) := by decide +kernel
theorem dX6_pass_13 : decode cX6_pass 13 = .ok (.getfield 41, 3) := by decide +kernel
theorem dX6_pass_16 : decode cX6_pass 16 = .ok (.aload_n 0, 1) := by decide +kernel
theorem dX6_pass_17 : decode cX6_pass 17 = .ok (.getfield 31, 3) := by decide +kernel
theorem dX6_pass_20 : decode cX6_pass 20 = .ok (.invokevirtual 134, 3) := by decide +kernel
theorem dX6_pass_23 : decode cX6_pass 23 = .ok (.iconst 0, 1) := by decide +kernel
theorem dX6_pass_24 : decode cX6_pass 24 = .ok (.istore_n 2, 1) := by decide +kernel
theorem dX6_pass_25 : decode cX6_pass 25 = .ok (.iload_n 2, 1) := by decide +kernel
theorem dX6_pass_26 : decode cX6_pass 26 = .ok (.iload_n 1, 1) := by decide +kernel
theorem dX6_pass_27 : decode cX6_pass 27 = .ok (.if_icmp .ge 16, 3) := by decide +kernel
theorem dX6_pass_30 : decode cX6_pass 30 = .ok (.aload_n 0, 1) := by decide +kernel
theorem dX6_pass_31 : decode cX6_pass 31 = .ok (.getfield 31, 3) := by decide +kernel
theorem dX6_pass_34 : decode cX6_pass 34 = .ok (.invokevirtual 149, 3) := by decide +kernel
theorem dX6_pass_37 : decode cX6_pass 37 = .ok (.iinc 2 1, 3) := by decide +kernel
theorem dX6_pass_40 : decode cX6_pass 40 = .ok (.goto (-15), 3) := by decide +kernel
theorem dX6_pass_43 : decode cX6_pass 43 = .ok (.aload_n 0, 1) := by decide +kernel
theorem dX6_pass_44 : decode cX6_pass 44 = .ok (.getfield 31, 3) := by decide +kernel
theorem dX6_pass_47 : decode cX6_pass 47 = .ok (.getfield 152, 3) := by decide +kernel
theorem dX6_pass_50 : decode cX6_pass 50 = .ok (.ireturn, 1) := by decide +kernel
theorem dX6_prop_0 : decode cX6_prop 0 = .ok (.aload_n 0, 1) := by decide +kernel
theorem dX6_prop_1 : decode cX6_prop 1 = .ok (.iload_n 1, 1) := by decide +kernel
theorem dX6_prop_2 : decode cX6_prop 2 = .ok (.iload_n 2, 1) := by decide +kernel
theorem dX6_prop_3 : decode cX6_prop 3 = .ok (.invokevirtual 126, 3) := by decide +kernel
theorem dX6_prop_6 : decode cX6_prop 6 = .ok (.ifCond .ne 13, 3) := by decide +kernel
theorem dX6_prop_9 : decode cX6_prop 9 = .ok (.iload_n 3, 1) := by decide +kernel
theorem dX6_prop_10 : decode cX6_prop 10 = .ok (.iconst 0, 1) := by decide +kernel
theorem dX6_prop_11 : decode cX6_prop 11 = .ok (.bipush 40, 2) := by decide +kernel
theorem dX6_prop_13 : decode cX6_prop 13 = .ok (.invokestatic 142, 3) := by decide +kernel
theorem dX6_prop_16 : decode cX6_prop 16 = .ok (.ifCond .eq 5, 3) := by decide +kernel
theorem dX6_prop_19 : decode cX6_prop 19 = .ok (.iconst (-1), 1) := by decide +kernel
theorem dX6_prop_20 : decode cX6_prop 20 = .ok (.ireturn, 1) := by decide +kernel
theorem dX6_prop_21 : decode cX6_prop 21 = .ok (.aload_n 0, 1) := by decide +kernel
theorem dX6_prop_22 : decode cX6_prop 22 = .ok (.getfield 31, 3) := by decide +kernel
theorem dX6_prop_25 : decode cX6_prop 25 = .ok (.iload_n 1, 1) := by decide +kernel
theorem dX6_prop_26 : decode cX6_prop 26 = .ok (.iload_n 2, 1) := by decide +kernel
theorem dX6_prop_27 : decode cX6_prop 27 = .ok (.invokevirtual 130, 3) := by decide +kernel
theorem dX6_prop_30 : decode cX6_prop 30 = .ok (.istore 4, 2) := by decide +kernel
theorem dX6_prop_32 : decode cX6_prop 32 = .ok (.iload 4, 2) := by decide +kernel
theorem dX6_prop_34 : decode cX6_prop 34 = .ok (.iload_n 3, 1) := by decide +kernel
theorem dX6_prop_35 : decode cX6_prop 35 = .ok (.if_icmp .ne 6, 3) := by decide +kernel
theorem dX6_prop_38 : decode cX6_prop 38 = .ok (.bipush (-2), 2) := by decide +kernel
theorem dX6_prop_40 : decode cX6_prop 40 = .ok (.ireturn, 1) := by decide +kernel
theorem dX6_prop_41 : decode cX6_prop 41 = .ok (.aload_n 0, 1) := by decide +kernel
theorem dX6_prop_42 : decode cX6_prop 42 = .ok (.getfield 41, 3) := by decide +kernel
theorem dX6_prop_45 : decode cX6_prop 45 = .ok (.aload_n 0, 1) := by decide +kernel
theorem dX6_prop_46 : decode cX6_prop 46 = .ok (.getfield 31, 3) := by decide +kernel
theorem dX6_prop_49 : decode cX6_prop 49 = .ok (.invokevirtual 134, 3) := by decide +kernel
theorem dX6_prop_52 : decode cX6_prop 52 = .ok (.aload_n 0, 1) := by decide +kernel
theorem dX6_prop_53 : decode cX6_prop 53 = .ok (.getfield 31, 3) := by decide +kernel
theorem dX6_prop_56 : decode cX6_prop 56 = .ok (.iload_n 1, 1) := by decide +kernel
theorem dX6_prop_57 : decode cX6_prop 57 = .ok (.iload_n 2, 1) := by decide +kernel
theorem dX6_prop_58 : decode cX6_prop 58 = .ok (.iload_n 3, 1) := by decide +kernel
theorem dX6_prop_59 : decode cX6_prop 59 = .ok (.invokevirtual 155, 3) := by decide +kernel
theorem dX6_prop_62 : decode cX6_prop 62 = .ok (.iload 4, 2) := by decide +kernel
theorem dX6_prop_64 : decode cX6_prop 64 = .ok (.ireturn, 1) := by decide +kernel
theorem dX6_use_0 : decode cX6_use 0 = .ok (.iload_n 1, 1) := by decide +kernel
theorem dX6_use_1 : decode cX6_use 1 = .ok (.iconst 1, 1) := by decide +kernel
theorem dX6_use_2 : decode cX6_use 2 = .ok (.bipush 60, 2) := by decide +kernel
theorem dX6_use_4 : decode cX6_use 4 = .ok (.invokestatic 142, 3) := by decide +kernel
theorem dX6_use_7 : decode cX6_use 7 = .ok (.ifCond .eq 5, 3) := by decide +kernel
theorem dX6_use_10 : decode cX6_use 10 = .ok (.iconst (-1), 1) := by decide +kernel
theorem dX6_use_11 : decode cX6_use 11 = .ok (.ireturn, 1) := by decide +kernel
theorem dX6_use_12 : decode cX6_use 12 = .ok (.aload_n 0, 1) := by decide +kernel
theorem dX6_use_13 : decode cX6_use 13 = .ok (.getfield 31, 3) := by decide +kernel
theorem dX6_use_16 : decode cX6_use 16 = .ok (.getfield 159, 3) := by decide +kernel
theorem dX6_use_19 : decode cX6_use 19 = .ok (.iload_n 1, 1) := by decide +kernel
theorem dX6_use_20 : decode cX6_use 20 = .ok (.if_icmp .ge 6, 3) := by decide +kernel
theorem dX6_use_23 : decode cX6_use 23 = .ok (.bipush (-2), 2) := by decide +kernel
theorem dX6_use_25 : decode cX6_use 25 = .ok (.ireturn, 1) := by decide +kernel
theorem dX6_use_26 : decode cX6_use 26 = .ok (.aload_n 0, 1) := by decide +kernel
theorem dX6_use_27 : decode cX6_use 27 = .ok (.getfield 41, 3) := by decide +kernel
theorem dX6_use_30 : decode cX6_use 30 = .ok (.aload_n 0, 1) := by decide +kernel
theorem dX6_use_31 : decode cX6_use 31 = .ok (.getfield 31, 3) := by decide +kernel
theorem dX6_use_34 : decode cX6_use 34 = .ok (.invokevirtual 134, 3) := by decide +kernel
theorem dX6_use_37 : decode cX6_use 37 = .ok (.aload_n 0, 1) := by decide +kernel
theorem dX6_use_38 : decode cX6_use 38 = .ok (.getfield 31, 3) := by decide +kernel
theorem dX6_use_41 : decode cX6_use 41 = .ok (.dup, 1) := by decide +kernel
theorem dX6_use_42 : decode cX6_use 42 = .ok (.getfield 159, 3) := by decide +kernel
theorem dX6_use_45 : decode cX6_use 45 = .ok (.iload_n 1, 1) := by decide +kernel
theorem dX6_use_46 : decode cX6_use 46 = .ok (.isub, 1) := by decide +kernel
theorem dX6_use_47 : decode cX6_use 47 = .ok (.putfield 159, 3) := by decide +kernel
theorem dX6_use_50 : decode cX6_use 50 = .ok (.aload_n 0, 1) := by decide +kernel
theorem dX6_use_51 : decode cX6_use 51 = .ok (.getfield 31, 3) := by decide +kernel
theorem dX6_use_54 : decode cX6_use 54 = .ok (.getfield 159, 3) := by decide +kernel
theorem dX6_use_57 : decode cX6_use 57 = .ok (.ireturn, 1) := by decide +kernel
theorem dX6_undo_0 : decode cX6_undo 0 = .ok (.aload_n 0, 1) := by decide +kernel
theorem dX6_undo_1 : decode cX6_undo 1 = .ok (.getfield 41, 3) := by decide +kernel
theorem dX6_undo_4 : decode cX6_undo 4 = .ok (.aload_n 0, 1) := by decide +kernel
theorem dX6_undo_5 : decode cX6_undo 5 = .ok (.getfield 31, 3) := by decide +kernel
theorem dX6_undo_8 : decode cX6_undo 8 = .ok (.invokevirtual 162, 3) := by decide +kernel
theorem dX6_undo_11 : decode cX6_undo 11 = .ok (.ifCond .eq 13, 3) := by decide +kernel
theorem dX6_undo_14 : decode cX6_undo 14 = .ok (.aload_n 0, 1) := by decide +kernel
theorem dX6_undo_15 : decode cX6_undo 15 = .ok (.getfield 41, 3) := by decide +kernel
theorem dX6_undo_18 : decode cX6_undo 18 = .ok (.getfield 95, 3) := by decide +kernel
theorem dX6_undo_21 : decode cX6_undo 21 = .ok (.goto 5, 3) := by decide +kernel
theorem dX6_undo_24 : decode cX6_undo 24 = .ok (.bipush (-2), 2) := by decide +kernel
theorem dX6_undo_26 : decode cX6_undo 26 = .ok (.ireturn, 1) := by decide +kernel
theorem dX6_calls_0 : decode cX6_calls 0 = .ok (.aload_n 0, 1) := by decide +kernel
theorem dX6_calls_1 : decode cX6_calls 1 = .ok (.iload_n 1, 1) := by decide +kernel
theorem dX6_calls_2 : decode cX6_calls 2 = .ok (.invokevirtual 99, 3) := by decide +kernel
theorem dX6_calls_5 : decode cX6_calls 5 = .ok (.ifCond .eq 5, 3) := by decide +kernel
theorem dX6_calls_8 : decode cX6_calls 8 = .ok (.iconst (-1), 1) := by decide +kernel
theorem dX6_calls_9 : decode cX6_calls 9 = .ok (.ireturn, 1) := by decide +kernel
theorem dX6_calls_10 : decode cX6_calls 10 = .ok (.aload_n 0, 1) := by decide +kernel
theorem dX6_calls_11 : decode cX6_calls 11 = .ok (.getfield 31, 3) := by decide +kernel
theorem dX6_calls_14 : decode cX6_calls 14 = .ok (.iload_n 1, 1) := by decide +kernel
theorem dX6_calls_15 : decode cX6_calls 15 = .ok (.invokevirtual 114, 3) := by decide +kernel
theorem dX6_calls_18 : decode cX6_calls 18 = .ok (.ifCond .ne 6, 3) := by decide +kernel
theorem dX6_calls_21 : decode cX6_calls 21 = .ok (.bipush (-2), 2) := by decide +kernel
theorem dX6_calls_23 : decode cX6_calls 23 = .ok (.ireturn, 1) := by decide +kernel
theorem dX6_calls_24 : decode cX6_calls 24 = .ok (.aload_n 0, 1) := by decide +kernel
theorem dX6_calls_25 : decode cX6_calls 25 = .ok (.getfield 31, 3) := by decide +kernel
theorem dX6_calls_28 : decode cX6_calls 28 = .ok (.iload_n 1, 1) := by decide +kernel
theorem dX6_calls_29 : decode cX6_calls 29 = .ok (.invokevirtual 166, 3) := by decide +kernel
theorem dX6_calls_32 : decode cX6_calls 32 = .ok (.ireturn, 1) := by decide +kernel
theorem dX6_rounds_0 : decode cX6_rounds 0 = .ok (.aload_n 0, 1) := by decide +kernel
theorem dX6_rounds_1 : decode cX6_rounds 1 = .ok (.iload_n 1, 1) := by decide +kernel
theorem dX6_rounds_2 : decode cX6_rounds 2 = .ok (.invokevirtual 99, 3) := by decide +kernel
theorem dX6_rounds_5 : decode cX6_rounds 5 = .ok (.ifCond .ne 13, 3) := by decide +kernel
theorem dX6_rounds_8 : decode cX6_rounds 8 = .ok (.iload_n 2, 1) := by decide +kernel
theorem dX6_rounds_9 : decode cX6_rounds 9 = .ok (.iconst 1, 1) := by decide +kernel
theorem dX6_rounds_10 : decode cX6_rounds 10 = .ok (.bipush 9, 2) := by decide +kernel
theorem dX6_rounds_12 : decode cX6_rounds 12 = .ok (.invokestatic 142, 3) := by decide +kernel
theorem dX6_rounds_15 : decode cX6_rounds 15 = .ok (.ifCond .eq 5, 3) := by decide +kernel
theorem dX6_rounds_18 : decode cX6_rounds 18 = .ok (.iconst (-1), 1) := by decide +kernel
theorem dX6_rounds_19 : decode cX6_rounds 19 = .ok (.ireturn, 1) := by decide +kernel
theorem dX6_rounds_20 : decode cX6_rounds 20 = .ok (.aload_n 0, 1) := by decide +kernel
theorem dX6_rounds_21 : decode cX6_rounds 21 = .ok (.getfield 31, 3) := by decide +kernel
theorem dX6_rounds_24 : decode cX6_rounds 24 = .ok (.iload_n 1, 1) := by decide +kernel
theorem dX6_rounds_25 : decode cX6_rounds 25 = .ok (.invokevirtual 114, 3) := by decide +kernel
theorem dX6_rounds_28 : decode cX6_rounds 28 = .ok (.ifCond .ne 6, 3) := by decide +kernel
theorem dX6_rounds_31 : decode cX6_rounds 31 = .ok (.bipush (-2), 2) := by decide +kernel
theorem dX6_rounds_33 : decode cX6_rounds 33 = .ok (.ireturn, 1) := by decide +kernel
theorem dX6_rounds_34 : decode cX6_rounds 34 = .ok (.aload_n 0, 1) := by decide +kernel
theorem dX6_rounds_35 : decode cX6_rounds 35 = .ok (.getfield 35, 3) := by decide +kernel
theorem dX6_rounds_38 : decode cX6_rounds 38 = .ok (.aload_n 0, 1) := by decide +kernel
theorem dX6_rounds_39 : decode cX6_rounds 39 = .ok (.getfield 31, 3) := by decide +kernel
theorem dX6_rounds_42 : decode cX6_rounds 42 = .ok (.invokevirtual 170, 3) := by decide +kernel
theorem dX6_rounds_45 : decode cX6_rounds 45 = .ok (.iconst 0, 1) := by decide +kernel
theorem dX6_rounds_46 : decode cX6_rounds 46 = .ok (.istore_n 3, 1) := by decide +kernel
theorem dX6_rounds_47 : decode cX6_rounds 47 = .ok (.iload_n 3, 1) := by decide +kernel
theorem dX6_rounds_48 : decode cX6_rounds 48 = .ok (.bipush 7, 2) := by decide +kernel
theorem dX6_rounds_50 : decode cX6_rounds 50 = .ok (.if_icmp .gt 42, 3) := by decide +kernel
theorem dX6_rounds_53 : decode cX6_rounds 53 = .ok (.aload_n 0, 1) := by decide +kernel
theorem dX6_rounds_54 : decode cX6_rounds 54 = .ok (.getfield 35, 3) := by decide +kernel
theorem dX6_rounds_57 : decode cX6_rounds 57 = .ok (.iload_n 1, 1) := by decide +kernel
theorem dX6_rounds_58 : decode cX6_rounds 58 = .ok (.iload_n 2, 1) := by decide +kernel
theorem dX6_rounds_59 : decode cX6_rounds 59 = .ok (.invokevirtual 173, 3) := by decide +kernel
theorem dX6_rounds_62 : decode cX6_rounds 62 = .ok (.ifCond .eq 16, 3) := by decide +kernel
theorem dX6_rounds_65 : decode cX6_rounds 65 = .ok (.aload_n 0, 1) := by decide +kernel
theorem dX6_rounds_66 : decode cX6_rounds 66 = .ok (.getfield 35, 3) := by decide +kernel
theorem dX6_rounds_69 : decode cX6_rounds 69 = .ok (.iload_n 1, 1) := by decide +kernel
theorem dX6_rounds_70 : decode cX6_rounds 70 = .ok (.invokevirtual 176, 3) := by decide +kernel
theorem dX6_rounds_73 : decode cX6_rounds 73 = .ok (.ifCond .eq 5, 3) := by decide +kernel
theorem dX6_rounds_76 : decode cX6_rounds 76 = .ok (.iload_n 3, 1) := by decide +kernel
theorem dX6_rounds_77 : decode cX6_rounds 77 = .ok (.ireturn, 1) := by decide +kernel
theorem dX6_rounds_78 : decode cX6_rounds 78 = .ok (.aload_n 0, 1) := by decide +kernel
theorem dX6_rounds_79 : decode cX6_rounds 79 = .ok (.getfield 35, 3) := by decide +kernel
theorem dX6_rounds_82 : decode cX6_rounds 82 = .ok (.iload_n 1, 1) := by decide +kernel
theorem dX6_rounds_83 : decode cX6_rounds 83 = .ok (.invokevirtual 138, 3) := by decide +kernel
theorem dX6_rounds_86 : decode cX6_rounds 86 = .ok (.iinc 3 1, 3) := by decide +kernel
theorem dX6_rounds_89 : decode cX6_rounds 89 = .ok (.goto (-42), 3) := by decide +kernel
theorem dX6_rounds_92 : decode cX6_rounds 92 = .ok (.bipush (-4), 2) := by decide +kernel
theorem dX6_rounds_94 : decode cX6_rounds 94 = .ok (.ireturn, 1) := by decide +kernel
theorem dX6_key_0 : decode cX6_key 0 = .ok (.iload_n 1, 1) := by decide +kernel
theorem dX6_key_1 : decode cX6_key 1 = .ok (.iconst 0, 1) := by decide +kernel
theorem dX6_key_2 : decode cX6_key 2 = .ok (.iconst 1, 1) := by decide +kernel
theorem dX6_key_3 : decode cX6_key 3 = .ok (.invokestatic 142, 3) := by decide +kernel
theorem dX6_key_6 : decode cX6_key 6 = .ok (.ifCond .eq 5, 3) := by decide +kernel
theorem dX6_key_9 : decode cX6_key 9 = .ok (.iconst (-1), 1) := by decide +kernel
theorem dX6_key_10 : decode cX6_key 10 = .ok (.ireturn, 1) := by decide +kernel
theorem dX6_key_11 : decode cX6_key 11 = .ok (.bipush (-4), 2) := by decide +kernel
theorem dX6_key_13 : decode cX6_key 13 = .ok (.istore_n 2, 1) := by decide +kernel
theorem dX6_key_14 : decode cX6_key 14 = .ok (.bipush (-4), 2) := by decide +kernel
theorem dX6_key_16 : decode cX6_key 16 = .ok (.istore_n 3, 1) := by decide +kernel
theorem dX6_key_17 : decode cX6_key 17 = .ok (.iconst 0, 1) := by decide +kernel
theorem dX6_key_18 : decode cX6_key 18 = .ok (.istore 4, 2) := by decide +kernel
theorem dX6_key_20 : decode cX6_key 20 = .ok (.iload 4, 2) := by decide +kernel
theorem dX6_key_22 : decode cX6_key 22 = .ok (.aload_n 0, 1) := by decide +kernel
theorem dX6_key_23 : decode cX6_key 23 = .ok (.getfield 23, 3) := by decide +kernel
theorem dX6_key_26 : decode cX6_key 26 = .ok (.getfield 92, 3) := by decide +kernel
theorem dX6_key_29 : decode cX6_key 29 = .ok (.if_icmp .ge 50, 3) := by decide +kernel
theorem dX6_key_32 : decode cX6_key 32 = .ok (.aload_n 0, 1) := by decide +kernel
theorem dX6_key_33 : decode cX6_key 33 = .ok (.getfield 31, 3) := by decide +kernel
theorem dX6_key_36 : decode cX6_key 36 = .ok (.iload 4, 2) := by decide +kernel
theorem dX6_key_38 : decode cX6_key 38 = .ok (.invokevirtual 114, 3) := by decide +kernel
theorem dX6_key_41 : decode cX6_key 41 = .ok (.ifCond .ne 6, 3) := by decide +kernel
theorem dX6_key_44 : decode cX6_key 44 = .ok (.goto 29, 3) := by decide +kernel
theorem dX6_key_47 : decode cX6_key 47 = .ok (.aload_n 0, 1) := by decide +kernel
theorem dX6_key_48 : decode cX6_key 48 = .ok (.iload 4, 2) := by decide +kernel
theorem dX6_key_50 : decode cX6_key 50 = .ok (.invokevirtual 179, 3) := by decide +kernel
theorem dX6_key_53 : decode cX6_key 53 = .ok (.istore 5, 2) := by decide +kernel
theorem dX6_key_55 : decode cX6_key 55 = .ok (.iload_n 2, 1) := by decide +kernel
theorem dX6_key_56 : decode cX6_key 56 = .ok (.bipush (-4), 2) := by decide +kernel
theorem dX6_key_58 : decode cX6_key 58 = .ok (.if_icmp .eq 9, 3) := by decide +kernel
theorem dX6_key_61 : decode cX6_key 61 = .ok (.iload 5, 2) := by decide +kernel
theorem dX6_key_63 : decode cX6_key 63 = .ok (.iload_n 3, 1) := by decide +kernel
theorem dX6_key_64 : decode cX6_key 64 = .ok (.if_icmp .le 9, 3) := by decide +kernel
theorem dX6_key_67 : decode cX6_key 67 = .ok (.iload 4, 2) := by decide +kernel
theorem dX6_key_69 : decode cX6_key 69 = .ok (.istore_n 2, 1) := by decide +kernel
theorem dX6_key_70 : decode cX6_key 70 = .ok (.iload 5, 2) := by decide +kernel
theorem dX6_key_72 : decode cX6_key 72 = .ok (.istore_n 3, 1) := by decide +kernel
theorem dX6_key_73 : decode cX6_key 73 = .ok (.iinc 4 1, 3) := by decide +kernel
theorem dX6_key_76 : decode cX6_key 76 = .ok (.goto (-56), 3) := by decide +kernel
theorem dX6_key_79 : decode cX6_key 79 = .ok (.iload_n 1, 1) := by decide +kernel
theorem dX6_key_80 : decode cX6_key 80 = .ok (.ifCond .ne 7, 3) := by decide +kernel
theorem dX6_key_83 : decode cX6_key 83 = .ok (.iload_n 2, 1) := by decide +kernel
theorem dX6_key_84 : decode cX6_key 84 = .ok (.goto 4, 3) := by decide +kernel
theorem dX6_key_87 : decode cX6_key 87 = .ok (.iload_n 3, 1) := by decide +kernel
theorem dX6_key_88 : decode cX6_key 88 = .ok (.ireturn, 1) := by decide +kernel
theorem dX6_order_0 : decode cX6_order 0 = .ok (.iload_n 1, 1) := by decide +kernel
theorem dX6_order_1 : decode cX6_order 1 = .ok (.iconst (-1), 1) := by decide +kernel
theorem dX6_order_2 : decode cX6_order 2 = .ok (.bipush 9, 2) := by decide +kernel
theorem dX6_order_4 : decode cX6_order 4 = .ok (.invokestatic 142, 3) := by decide +kernel
theorem dX6_order_7 : decode cX6_order 7 = .ok (.ifCond .eq 5, 3) := by decide +kernel
theorem dX6_order_10 : decode cX6_order 10 = .ok (.iconst (-1), 1) := by decide +kernel
theorem dX6_order_11 : decode cX6_order 11 = .ok (.ireturn, 1) := by decide +kernel
theorem dX6_order_12 : decode cX6_order 12 = .ok (.aload_n 0, 1) := by decide +kernel
theorem dX6_order_13 : decode cX6_order 13 = .ok (.getfield 63, 3) := by decide +kernel
theorem dX6_order_16 : decode cX6_order 16 = .ok (.aload_n 0, 1) := by decide +kernel
theorem dX6_order_17 : decode cX6_order 17 = .ok (.getfield 31, 3) := by decide +kernel
theorem dX6_order_20 : decode cX6_order 20 = .ok (.invokevirtual 182, 3) := by decide +kernel
theorem dX6_order_23 : decode cX6_order 23 = .ok (.aload_n 0, 1) := by decide +kernel
theorem dX6_order_24 : decode cX6_order 24 = .ok (.getfield 63, 3) := by decide +kernel
theorem dX6_order_27 : decode cX6_order 27 = .ok (.getfield 185, 3) := by decide +kernel
theorem dX6_order_30 : decode cX6_order 30 = .ok (.sipush 1000, 3) := by decide +kernel
theorem dX6_order_33 : decode cX6_order 33 = .ok (.if_icmp .ne 6, 3) := by decide +kernel
theorem dX6_order_36 : decode cX6_order 36 = .ok (.bipush (-4), 2) := by decide +kernel
theorem dX6_order_38 : decode cX6_order 38 = .ok (.ireturn, 1) := by decide +kernel
theorem dX6_order_39 : decode cX6_order 39 = .ok (.iload_n 1, 1) := by decide +kernel
theorem dX6_order_40 : decode cX6_order 40 = .ok (.iconst (-1), 1) := by decide +kernel
theorem dX6_order_41 : decode cX6_order 41 = .ok (.if_icmp .ne 11, 3) := by decide +kernel
theorem dX6_order_44 : decode cX6_order 44 = .ok (.aload_n 0, 1) := by decide +kernel
theorem dX6_order_45 : decode cX6_order 45 = .ok (.getfield 63, 3) := by decide +kernel
theorem dX6_order_48 : decode cX6_order 48 = .ok (.getfield 185, 3) := by decide +kernel
theorem dX6_order_51 : decode cX6_order 51 = .ok (.ireturn, 1) := by decide +kernel
theorem dX6_order_52 : decode cX6_order 52 = .ok (.iload_n 1, 1) := by decide +kernel
theorem dX6_order_53 : decode cX6_order 53 = .ok (.aload_n 0, 1) := by decide +kernel
theorem dX6_order_54 : decode cX6_order 54 = .ok (.getfield 63, 3) := by decide +kernel
theorem dX6_order_57 : decode cX6_order 57 = .ok (.getfield 188, 3) := by decide +kernel
theorem dX6_order_60 : decode cX6_order 60 = .ok (.if_icmp .ge 15, 3) := by decide +kernel
theorem dX6_order_63 : decode cX6_order 63 = .ok (.aload_n 0, 1) := by decide +kernel
theorem dX6_order_64 : decode cX6_order 64 = .ok (.getfield 63, 3) := by decide +kernel
theorem dX6_order_67 : decode cX6_order 67 = .ok (.getfield 189, 3) := by decide +kernel
theorem dX6_order_70 : decode cX6_order 70 = .ok (.iload_n 1, 1) := by decide +kernel
theorem dX6_order_71 : decode cX6_order 71 = .ok (.iaload, 1) := by decide +kernel
theorem dX6_order_72 : decode cX6_order 72 = .ok (.goto 5, 3) := by decide +kernel
theorem dX6_order_75 : decode cX6_order 75 = .ok (.bipush (-4), 2) := by decide +kernel
theorem dX6_order_77 : decode cX6_order 77 = .ok (.ireturn, 1) := by decide +kernel
theorem dX6_save_0 : decode cX6_save 0 = .ok (.aload_n 0, 1) := by decide +kernel
theorem dX6_save_1 : decode cX6_save 1 = .ok (.iload_n 1, 1) := by decide +kernel
theorem dX6_save_2 : decode cX6_save 2 = .ok (.iload_n 2, 1) := by decide +kernel
theorem dX6_save_3 : decode cX6_save 3 = .ok (.invokevirtual 126, 3) := by decide +kernel
theorem dX6_save_6 : decode cX6_save 6 = .ok (.ifCond .eq 5, 3) := by decide +kernel
theorem dX6_save_9 : decode cX6_save 9 = .ok (.iconst (-1), 1) := by decide +kernel
theorem dX6_save_10 : decode cX6_save 10 = .ok (.ireturn, 1) := by decide +kernel
theorem dX6_save_11 : decode cX6_save 11 = .ok (.aload_n 0, 1) := by decide +kernel
theorem dX6_save_12 : decode cX6_save 12 = .ok (.getfield 31, 3) := by decide +kernel
theorem dX6_save_15 : decode cX6_save 15 = .ok (.iload_n 1, 1) := by decide +kernel
theorem dX6_save_16 : decode cX6_save 16 = .ok (.invokevirtual 114, 3) := by decide +kernel
theorem dX6_save_19 : decode cX6_save 19 = .ok (.ifCond .eq 14, 3) := by decide +kernel
theorem dX6_save_22 : decode cX6_save 22 = .ok (.aload_n 0, 1) := by decide +kernel
theorem dX6_save_23 : decode cX6_save 23 = .ok (.getfield 31, 3) := by decide +kernel
theorem dX6_save_26 : decode cX6_save 26 = .ok (.iload_n 2, 1) := by decide +kernel
theorem dX6_save_27 : decode cX6_save 27 = .ok (.invokevirtual 114, 3) := by decide +kernel
theorem dX6_save_30 : decode cX6_save 30 = .ok (.ifCond .ne 6, 3) := by decide +kernel
theorem dX6_save_33 : decode cX6_save 33 = .ok (.bipush (-2), 2) := by decide +kernel
theorem dX6_save_35 : decode cX6_save 35 = .ok (.ireturn, 1) := by decide +kernel
theorem dX6_save_36 : decode cX6_save 36 = .ok (.aload_n 0, 1) := by decide +kernel
theorem dX6_save_37 : decode cX6_save 37 = .ok (.getfield 31, 3) := by decide +kernel
theorem dX6_save_40 : decode cX6_save 40 = .ok (.iload_n 1, 1) := by decide +kernel
theorem dX6_save_41 : decode cX6_save 41 = .ok (.invokevirtual 192, 3) := by decide +kernel
theorem dX6_save_44 : decode cX6_save 44 = .ok (.istore_n 3, 1) := by decide +kernel
theorem dX6_save_45 : decode cX6_save 45 = .ok (.iload_n 3, 1) := by decide +kernel
theorem dX6_save_46 : decode cX6_save 46 = .ok (.istore 4, 2) := by decide +kernel
theorem dX6_save_48 : decode cX6_save 48 = .ok (.iconst 0, 1) := by decide +kernel
theorem dX6_save_49 : decode cX6_save 49 = .ok (.istore 5, 2) := by decide +kernel
theorem dX6_save_51 : decode cX6_save 51 = .ok (.iload 5, 2) := by decide +kernel
theorem dX6_save_53 : decode cX6_save 53 = .ok (.iload_n 3, 1) := by decide +kernel
theorem dX6_save_54 : decode cX6_save 54 = .ok (.if_icmp .ge 58, 3) := by decide +kernel
theorem dX6_save_57 : decode cX6_save 57 = .ok (.iload 5, 2) := by decide +kernel
theorem dX6_save_59 : decode cX6_save 59 = .ok (.invokestatic 195, 3) := by decide +kernel
theorem dX6_save_62 : decode cX6_save 62 = .ok (.iload 4, 2) := by decide +kernel
theorem dX6_save_64 : decode cX6_save 64 = .ok (.invokestatic 195, 3) := by decide +kernel
theorem dX6_save_67 : decode cX6_save 67 = .ok (.if_icmp .ge 7, 3) := by decide +kernel
theorem dX6_save_70 : decode cX6_save 70 = .ok (.iconst 1, 1) := by decide +kernel
theorem dX6_save_71 : decode cX6_save 71 = .ok (.goto 4, 3) := by decide +kernel
theorem dX6_save_74 : decode cX6_save 74 = .ok (.iconst 0, 1) := by decide +kernel
theorem dX6_save_75 : decode cX6_save 75 = .ok (.istore 6, 2) := by decide +kernel
theorem dX6_save_77 : decode cX6_save 77 = .ok (.iload 6, 2) := by decide +kernel
theorem dX6_save_79 : decode cX6_save 79 = .ok (.ifCond .eq 27, 3) := by decide +kernel
theorem dX6_save_82 : decode cX6_save 82 = .ok (.iload 5, 2) := by decide +kernel
theorem dX6_save_84 : decode cX6_save 84 = .ok (.iload_n 3, 1) := by decide +kernel
theorem dX6_save_85 : decode cX6_save 85 = .ok (.iconst (-1), 1) := by decide +kernel
theorem dX6_save_86 : decode cX6_save 86 = .ok (.ixor, 1) := by decide +kernel
theorem dX6_save_87 : decode cX6_save 87 = .ok (.iand, 1) := by decide +kernel
theorem dX6_save_88 : decode cX6_save 88 = .ok (.ifCond .ne 18, 3) := by decide +kernel
theorem dX6_save_91 : decode cX6_save 91 = .ok (.aload_n 0, 1) := by decide +kernel
theorem dX6_save_92 : decode cX6_save 92 = .ok (.iload 5, 2) := by decide +kernel
theorem dX6_save_94 : decode cX6_save 94 = .ok (.iload_n 1, 1) := by decide +kernel
theorem dX6_save_95 : decode cX6_save 95 = .ok (.iload_n 2, 1) := by decide +kernel
theorem dX6_save_96 : decode cX6_save 96 = .ok (.invokevirtual 200, 3) := by decide +kernel
theorem dX6_save_99 : decode cX6_save 99 = .ok (.ifCond .eq 7, 3) := by decide +kernel
theorem dX6_save_102 : decode cX6_save 102 = .ok (.iload 5, 2) := by decide +kernel
theorem dX6_save_104 : decode cX6_save 104 = .ok (.istore 4, 2) := by decide +kernel
theorem dX6_save_106 : decode cX6_save 106 = .ok (.iinc 5 1, 3) := by decide +kernel
theorem dX6_save_109 : decode cX6_save 109 = .ok (.goto (-58), 3) := by decide +kernel
theorem dX6_save_112 : decode cX6_save 112 = .ok (.iload 4, 2) := by decide +kernel
theorem dX6_save_114 : decode cX6_save 114 = .ok (.ireturn, 1) := by decide +kernel
theorem dX6_built_0 : decode cX6_built 0 = .ok (.iload_n 1, 1) := by decide +kernel
theorem dX6_built_1 : decode cX6_built 1 = .ok (.iconst 0, 1) := by decide +kernel
theorem dX6_built_2 : decode cX6_built 2 = .ok (.iconst 1, 1) := by decide +kernel
theorem dX6_built_3 : decode cX6_built 3 = .ok (.invokestatic 142, 3) := by decide +kernel
theorem dX6_built_6 : decode cX6_built 6 = .ok (.ifCond .eq 5, 3) := by decide +kernel
theorem dX6_built_9 : decode cX6_built 9 = .ok (.iconst (-1), 1) := by decide +kernel
theorem dX6_built_10 : decode cX6_built 10 = .ok (.ireturn, 1) := by decide +kernel
theorem dX6_built_11 : decode cX6_built 11 = .ok (.iconst 0, 1) := by decide +kernel
theorem dX6_built_12 : decode cX6_built 12 = .ok (.istore_n 2, 1) := by decide +kernel
theorem dX6_built_13 : decode cX6_built 13 = .ok (.bipush (-4), 2) := by decide +kernel
theorem dX6_built_15 : decode cX6_built 15 = .ok (.istore_n 3, 1) := by decide +kernel
theorem dX6_built_16 : decode cX6_built 16 = .ok (.iconst 0, 1) := by decide +kernel
theorem dX6_built_17 : decode cX6_built 17 = .ok (.istore 4, 2) := by decide +kernel
theorem dX6_built_19 : decode cX6_built 19 = .ok (.iload 4, 2) := by decide +kernel
theorem dX6_built_21 : decode cX6_built 21 = .ok (.bipush 8, 2) := by decide +kernel
theorem dX6_built_23 : decode cX6_built 23 = .ok (.imul, 1) := by decide +kernel
theorem dX6_built_24 : decode cX6_built 24 = .ok (.aload_n 0, 1) := by decide +kernel
theorem dX6_built_25 : decode cX6_built 25 = .ok (.getfield 31, 3) := by decide +kernel
theorem dX6_built_28 : decode cX6_built 28 = .ok (.getfield 159, 3) := by decide +kernel
theorem dX6_built_31 : decode cX6_built 31 = .ok (.if_icmp .gt 91, 3) := by decide +kernel
theorem dX6_built_34 : decode cX6_built 34 = .ok (.aload_n 0, 1) := by decide +kernel
theorem dX6_built_35 : decode cX6_built 35 = .ok (.getfield 31, 3) := by decide +kernel
theorem dX6_built_38 : decode cX6_built 38 = .ok (.getfield 159, 3) := by decide +kernel
theorem dX6_built_41 : decode cX6_built 41 = .ok (.iload 4, 2) := by decide +kernel
theorem dX6_built_43 : decode cX6_built 43 = .ok (.bipush 8, 2) := by decide +kernel
theorem dX6_built_45 : decode cX6_built 45 = .ok (.imul, 1) := by decide +kernel
theorem dX6_built_46 : decode cX6_built 46 = .ok (.isub, 1) := by decide +kernel
theorem dX6_built_47 : decode cX6_built 47 = .ok (.istore 5, 2) := by decide +kernel
theorem dX6_built_49 : decode cX6_built 49 = .ok (.iconst 0, 1) := by decide +kernel
theorem dX6_built_50 : decode cX6_built 50 = .ok (.istore 6, 2) := by decide +kernel
theorem dX6_built_52 : decode cX6_built 52 = .ok (.iload 6, 2) := by decide +kernel
theorem dX6_built_54 : decode cX6_built 54 = .ok (.iconst 5, 1) := by decide +kernel
theorem dX6_built_55 : decode cX6_built 55 = .ok (.imul, 1) := by decide +kernel
theorem dX6_built_56 : decode cX6_built 56 = .ok (.iload 5, 2) := by decide +kernel
theorem dX6_built_58 : decode cX6_built 58 = .ok (.if_icmp .gt 58, 3) := by decide +kernel
theorem dX6_built_61 : decode cX6_built 61 = .ok (.iload 5, 2) := by decide +kernel
theorem dX6_built_63 : decode cX6_built 63 = .ok (.iload 6, 2) := by decide +kernel
theorem dX6_built_65 : decode cX6_built 65 = .ok (.iconst 5, 1) := by decide +kernel
theorem dX6_built_66 : decode cX6_built 66 = .ok (.imul, 1) := by decide +kernel
theorem dX6_built_67 : decode cX6_built 67 = .ok (.isub, 1) := by decide +kernel
theorem dX6_built_68 : decode cX6_built 68 = .ok (.istore 7, 2) := by decide +kernel
theorem dX6_built_70 : decode cX6_built 70 = .ok (.iload 7, 2) := by decide +kernel
theorem dX6_built_72 : decode cX6_built 72 = .ok (.iconst 3, 1) := by decide +kernel
theorem dX6_built_73 : decode cX6_built 73 = .ok (.irem, 1) := by decide +kernel
theorem dX6_built_74 : decode cX6_built 74 = .ok (.ifCond .eq 6, 3) := by decide +kernel
theorem dX6_built_77 : decode cX6_built 77 = .ok (.goto 33, 3) := by decide +kernel
theorem dX6_built_80 : decode cX6_built 80 = .ok (.iload 4, 2) := by decide +kernel
theorem dX6_built_82 : decode cX6_built 82 = .ok (.iload 6, 2) := by decide +kernel
theorem dX6_built_84 : decode cX6_built 84 = .ok (.iadd, 1) := by decide +kernel
theorem dX6_built_85 : decode cX6_built 85 = .ok (.iload 7, 2) := by decide +kernel
theorem dX6_built_87 : decode cX6_built 87 = .ok (.iconst 3, 1) := by decide +kernel
theorem dX6_built_88 : decode cX6_built 88 = .ok (.idiv, 1) := by decide +kernel
theorem dX6_built_89 : decode cX6_built 89 = .ok (.iadd, 1) := by decide +kernel
theorem dX6_built_90 : decode cX6_built 90 = .ok (.istore 8, 2) := by decide +kernel
theorem dX6_built_92 : decode cX6_built 92 = .ok (.iinc 2 1, 3) := by decide +kernel
end
section
theorem dX6_built_95 : decode cX6_built 95 = .ok (.iload_n 3, 1) := by decide +kernel
theorem dX6_built_96 : decode cX6_built 96 = .ok (.bipush (-4), 2) := by decide +kernel
theorem dX6_built_98 : decode cX6_built 98 = .ok (.if_icmp .eq 9, 3) := by decide +kernel
theorem dX6_built_101 : decode cX6_built 101 = .ok (.iload 8, 2) := by decide +kernel
theorem dX6_built_103 : decode cX6_built 103 = .ok (.iload_n 3, 1) := by decide +kernel
theorem dX6_built_104 : decode cX6_built 104 = .ok (.if_icmp .ge 6, 3) := by decide +kernel
theorem dX6_built_107 : decode cX6_built 107 = .ok (.iload 8, 2) := by decide +kernel
theorem dX6_built_109 : decode cX6_built 109 = .ok (.istore_n 3, 1) := by decide +kernel
theorem dX6_built_110 : decode cX6_built 110 = .ok (.iinc 6 1, 3) := by decide +kernel
theorem dX6_built_113 : decode cX6_built 113 = .ok (.goto (-61), 3) := by decide +kernel
theorem dX6_built_116 : decode cX6_built 116 = .ok (.iinc 4 1, 3) := by decide +kernel
theorem dX6_built_119 : decode cX6_built 119 = .ok (.goto (-100), 3) := by decide +kernel
theorem dX6_built_122 : decode cX6_built 122 = .ok (.iload_n 1, 1) := by decide +kernel
theorem dX6_built_123 : decode cX6_built 123 = .ok (.ifCond .ne 7, 3) := by decide +kernel
theorem dX6_built_126 : decode cX6_built 126 = .ok (.iload_n 2, 1) := by decide +kernel
theorem dX6_built_127 : decode cX6_built 127 = .ok (.goto 4, 3) := by decide +kernel
theorem dX6_built_130 : decode cX6_built 130 = .ok (.iload_n 3, 1) := by decide +kernel
theorem dX6_built_131 : decode cX6_built 131 = .ok (.ireturn, 1) := by decide +kernel
theorem dX6_note_0 : decode cX6_note 0 = .ok (.iload_n 1, 1) := by decide +kernel
theorem dX6_note_1 : decode cX6_note 1 = .ok (.iconst 1, 1) := by decide +kernel
theorem dX6_note_2 : decode cX6_note 2 = .ok (.bipush 9, 2) := by decide +kernel
theorem dX6_note_4 : decode cX6_note 4 = .ok (.invokestatic 142, 3) := by decide +kernel
theorem dX6_note_7 : decode cX6_note 7 = .ok (.ifCond .ne 13, 3) := by decide +kernel
theorem dX6_note_10 : decode cX6_note 10 = .ok (.iload_n 2, 1) := by decide +kernel
theorem dX6_note_11 : decode cX6_note 11 = .ok (.iconst 0, 1) := by decide +kernel
theorem dX6_note_12 : decode cX6_note 12 = .ok (.bipush 7, 2) := by decide +kernel
theorem dX6_note_14 : decode cX6_note 14 = .ok (.invokestatic 142, 3) := by decide +kernel
theorem dX6_note_17 : decode cX6_note 17 = .ok (.ifCond .eq 7, 3) := by decide +kernel
theorem dX6_note_20 : decode cX6_note 20 = .ok (.iconst 1, 1) := by decide +kernel
theorem dX6_note_21 : decode cX6_note 21 = .ok (.goto 4, 3) := by decide +kernel
theorem dX6_note_24 : decode cX6_note 24 = .ok (.iconst 0, 1) := by decide +kernel
theorem dX6_note_25 : decode cX6_note 25 = .ok (.istore 4, 2) := by decide +kernel
theorem dX6_note_27 : decode cX6_note 27 = .ok (.iload 4, 2) := by decide +kernel
theorem dX6_note_29 : decode cX6_note 29 = .ok (.ifCond .ne 12, 3) := by decide +kernel
theorem dX6_note_32 : decode cX6_note 32 = .ok (.iload_n 3, 1) := by decide +kernel
theorem dX6_note_33 : decode cX6_note 33 = .ok (.iconst 0, 1) := by decide +kernel
theorem dX6_note_34 : decode cX6_note 34 = .ok (.iconst 1, 1) := by decide +kernel
theorem dX6_note_35 : decode cX6_note 35 = .ok (.invokestatic 142, 3) := by decide +kernel
theorem dX6_note_38 : decode cX6_note 38 = .ok (.ifCond .eq 5, 3) := by decide +kernel
theorem dX6_note_41 : decode cX6_note 41 = .ok (.iconst (-1), 1) := by decide +kernel
theorem dX6_note_42 : decode cX6_note 42 = .ok (.ireturn, 1) := by decide +kernel
theorem dX6_note_43 : decode cX6_note 43 = .ok (.aload_n 0, 1) := by decide +kernel
theorem dX6_note_44 : decode cX6_note 44 = .ok (.getfield 56, 3) := by decide +kernel
theorem dX6_note_47 : decode cX6_note 47 = .ok (.getfield 98, 3) := by decide +kernel
theorem dX6_note_50 : decode cX6_note 50 = .ok (.bipush 6, 2) := by decide +kernel
theorem dX6_note_52 : decode cX6_note 52 = .ok (.if_icmp .lt 6, 3) := by decide +kernel
theorem dX6_note_55 : decode cX6_note 55 = .ok (.bipush (-3), 2) := by decide +kernel
theorem dX6_note_57 : decode cX6_note 57 = .ok (.ireturn, 1) := by decide +kernel
theorem dX6_note_58 : decode cX6_note 58 = .ok (.aload_n 0, 1) := by decide +kernel
theorem dX6_note_59 : decode cX6_note 59 = .ok (.getfield 56, 3) := by decide +kernel
theorem dX6_note_62 : decode cX6_note 62 = .ok (.invokevirtual 203, 3) := by decide +kernel
theorem dX6_note_65 : decode cX6_note 65 = .ok (.ifCond .eq 6, 3) := by decide +kernel
theorem dX6_note_68 : decode cX6_note 68 = .ok (.bipush (-2), 2) := by decide +kernel
theorem dX6_note_70 : decode cX6_note 70 = .ok (.ireturn, 1) := by decide +kernel
theorem dX6_note_71 : decode cX6_note 71 = .ok (.aload_n 0, 1) := by decide +kernel
theorem dX6_note_72 : decode cX6_note 72 = .ok (.getfield 56, 3) := by decide +kernel
theorem dX6_note_75 : decode cX6_note 75 = .ok (.iload_n 1, 1) := by decide +kernel
theorem dX6_note_76 : decode cX6_note 76 = .ok (.iload_n 2, 1) := by decide +kernel
theorem dX6_note_77 : decode cX6_note 77 = .ok (.iload_n 3, 1) := by decide +kernel
theorem dX6_note_78 : decode cX6_note 78 = .ok (.invokevirtual 207, 3) := by decide +kernel
theorem dX6_note_81 : decode cX6_note 81 = .ok (.aload_n 0, 1) := by decide +kernel
theorem dX6_note_82 : decode cX6_note 82 = .ok (.getfield 56, 3) := by decide +kernel
theorem dX6_note_85 : decode cX6_note 85 = .ok (.getfield 98, 3) := by decide +kernel
theorem dX6_note_88 : decode cX6_note 88 = .ok (.ireturn, 1) := by decide +kernel
theorem dX6_forget_0 : decode cX6_forget 0 = .ok (.aload_n 0, 1) := by decide +kernel
theorem dX6_forget_1 : decode cX6_forget 1 = .ok (.getfield 56, 3) := by decide +kernel
theorem dX6_forget_4 : decode cX6_forget 4 = .ok (.getfield 98, 3) := by decide +kernel
theorem dX6_forget_7 : decode cX6_forget 7 = .ok (.istore_n 1, 1) := by decide +kernel
theorem dX6_forget_8 : decode cX6_forget 8 = .ok (.aload_n 0, 1) := by decide +kernel
theorem dX6_forget_9 : decode cX6_forget 9 = .ok (.getfield 56, 3) := by decide +kernel
theorem dX6_forget_12 : decode cX6_forget 12 = .ok (.iconst 0, 1) := by decide +kernel
theorem dX6_forget_13 : decode cX6_forget 13 = .ok (.putfield 98, 3) := by decide +kernel
theorem dX6_forget_16 : decode cX6_forget 16 = .ok (.iload_n 1, 1) := by decide +kernel
theorem dX6_forget_17 : decode cX6_forget 17 = .ok (.ireturn, 1) := by decide +kernel
theorem dX6_thick_0 : decode cX6_thick 0 = .ok (.iload_n 1, 1) := by decide +kernel
theorem dX6_thick_1 : decode cX6_thick 1 = .ok (.iconst 0, 1) := by decide +kernel
theorem dX6_thick_2 : decode cX6_thick 2 = .ok (.iconst 1, 1) := by decide +kernel
theorem dX6_thick_3 : decode cX6_thick 3 = .ok (.invokestatic 142, 3) := by decide +kernel
theorem dX6_thick_6 : decode cX6_thick 6 = .ok (.ifCond .eq 5, 3) := by decide +kernel
theorem dX6_thick_9 : decode cX6_thick 9 = .ok (.iconst (-1), 1) := by decide +kernel
theorem dX6_thick_10 : decode cX6_thick 10 = .ok (.ireturn, 1) := by decide +kernel
theorem dX6_thick_11 : decode cX6_thick 11 = .ok (.iconst 0, 1) := by decide +kernel
theorem dX6_thick_12 : decode cX6_thick 12 = .ok (.istore_n 2, 1) := by decide +kernel
theorem dX6_thick_13 : decode cX6_thick 13 = .ok (.bipush (-4), 2) := by decide +kernel
theorem dX6_thick_15 : decode cX6_thick 15 = .ok (.istore_n 3, 1) := by decide +kernel
theorem dX6_thick_16 : decode cX6_thick 16 = .ok (.bipush 60, 2) := by decide +kernel
theorem dX6_thick_18 : decode cX6_thick 18 = .ok (.istore 4, 2) := by decide +kernel
theorem dX6_thick_20 : decode cX6_thick 20 = .ok (.iload 4, 2) := by decide +kernel
theorem dX6_thick_22 : decode cX6_thick 22 = .ok (.iconst 1, 1) := by decide +kernel
theorem dX6_thick_23 : decode cX6_thick 23 = .ok (.if_icmp .lt 30, 3) := by decide +kernel
theorem dX6_thick_26 : decode cX6_thick 26 = .ok (.aload_n 0, 1) := by decide +kernel
theorem dX6_thick_27 : decode cX6_thick 27 = .ok (.getfield 56, 3) := by decide +kernel
theorem dX6_thick_30 : decode cX6_thick 30 = .ok (.iload 4, 2) := by decide +kernel
theorem dX6_thick_32 : decode cX6_thick 32 = .ok (.invokevirtual 209, 3) := by decide +kernel
theorem dX6_thick_35 : decode cX6_thick 35 = .ok (.ifCond .ne 6, 3) := by decide +kernel
theorem dX6_thick_38 : decode cX6_thick 38 = .ok (.goto 9, 3) := by decide +kernel
theorem dX6_thick_41 : decode cX6_thick 41 = .ok (.iinc 2 1, 3) := by decide +kernel
theorem dX6_thick_44 : decode cX6_thick 44 = .ok (.iload 4, 2) := by decide +kernel
theorem dX6_thick_46 : decode cX6_thick 46 = .ok (.istore_n 3, 1) := by decide +kernel
theorem dX6_thick_47 : decode cX6_thick 47 = .ok (.iinc 4 (-1), 3) := by decide +kernel
theorem dX6_thick_50 : decode cX6_thick 50 = .ok (.goto (-30), 3) := by decide +kernel
theorem dX6_thick_53 : decode cX6_thick 53 = .ok (.iload_n 1, 1) := by decide +kernel
theorem dX6_thick_54 : decode cX6_thick 54 = .ok (.ifCond .ne 7, 3) := by decide +kernel
theorem dX6_thick_57 : decode cX6_thick 57 = .ok (.iload_n 2, 1) := by decide +kernel
theorem dX6_thick_58 : decode cX6_thick 58 = .ok (.goto 4, 3) := by decide +kernel
theorem dX6_thick_61 : decode cX6_thick 61 = .ok (.iload_n 3, 1) := by decide +kernel
theorem dX6_thick_62 : decode cX6_thick 62 = .ok (.ireturn, 1) := by decide +kernel
theorem dX6_fail_0 : decode cX6_fail 0 = .ok (.aload_n 0, 1) := by decide +kernel
theorem dX6_fail_1 : decode cX6_fail 1 = .ok (.iload_n 1, 1) := by decide +kernel
theorem dX6_fail_2 : decode cX6_fail 2 = .ok (.invokevirtual 99, 3) := by decide +kernel
theorem dX6_fail_5 : decode cX6_fail 5 = .ok (.ifCond .ne 13, 3) := by decide +kernel
theorem dX6_fail_8 : decode cX6_fail 8 = .ok (.iload_n 2, 1) := by decide +kernel
theorem dX6_fail_9 : decode cX6_fail 9 = .ok (.iconst 1, 1) := by decide +kernel
theorem dX6_fail_10 : decode cX6_fail 10 = .ok (.bipush 9, 2) := by decide +kernel
theorem dX6_fail_12 : decode cX6_fail 12 = .ok (.invokestatic 142, 3) := by decide +kernel
theorem dX6_fail_15 : decode cX6_fail 15 = .ok (.ifCond .eq 7, 3) := by decide +kernel
theorem dX6_fail_18 : decode cX6_fail 18 = .ok (.iconst 1, 1) := by decide +kernel
theorem dX6_fail_19 : decode cX6_fail 19 = .ok (.goto 4, 3) := by decide +kernel
theorem dX6_fail_22 : decode cX6_fail 22 = .ok (.iconst 0, 1) := by decide +kernel
theorem dX6_fail_23 : decode cX6_fail 23 = .ok (.istore 5, 2) := by decide +kernel
theorem dX6_fail_25 : decode cX6_fail 25 = .ok (.iload 5, 2) := by decide +kernel
theorem dX6_fail_27 : decode cX6_fail 27 = .ok (.ifCond .ne 23, 3) := by decide +kernel
theorem dX6_fail_30 : decode cX6_fail 30 = .ok (.iload_n 3, 1) := by decide +kernel
theorem dX6_fail_31 : decode cX6_fail 31 = .ok (.iconst 0, 1) := by decide +kernel
theorem dX6_fail_32 : decode cX6_fail 32 = .ok (.bipush 10, 2) := by decide +kernel
theorem dX6_fail_34 : decode cX6_fail 34 = .ok (.invokestatic 142, 3) := by decide +kernel
theorem dX6_fail_37 : decode cX6_fail 37 = .ok (.ifCond .ne 13, 3) := by decide +kernel
theorem dX6_fail_40 : decode cX6_fail 40 = .ok (.iload 4, 2) := by decide +kernel
theorem dX6_fail_42 : decode cX6_fail 42 = .ok (.iconst 0, 1) := by decide +kernel
theorem dX6_fail_43 : decode cX6_fail 43 = .ok (.iconst 1, 1) := by decide +kernel
theorem dX6_fail_44 : decode cX6_fail 44 = .ok (.invokestatic 142, 3) := by decide +kernel
theorem dX6_fail_47 : decode cX6_fail 47 = .ok (.ifCond .eq 5, 3) := by decide +kernel
theorem dX6_fail_50 : decode cX6_fail 50 = .ok (.iconst (-1), 1) := by decide +kernel
theorem dX6_fail_51 : decode cX6_fail 51 = .ok (.ireturn, 1) := by decide +kernel
theorem dX6_fail_52 : decode cX6_fail 52 = .ok (.aload_n 0, 1) := by decide +kernel
theorem dX6_fail_53 : decode cX6_fail 53 = .ok (.getfield 31, 3) := by decide +kernel
theorem dX6_fail_56 : decode cX6_fail 56 = .ok (.iload_n 1, 1) := by decide +kernel
theorem dX6_fail_57 : decode cX6_fail 57 = .ok (.invokevirtual 114, 3) := by decide +kernel
theorem dX6_fail_60 : decode cX6_fail 60 = .ok (.ifCond .ne 6, 3) := by decide +kernel
theorem dX6_fail_63 : decode cX6_fail 63 = .ok (.bipush (-2), 2) := by decide +kernel
theorem dX6_fail_65 : decode cX6_fail 65 = .ok (.ireturn, 1) := by decide +kernel
theorem dX6_fail_66 : decode cX6_fail 66 = .ok (.lconst 0, 1) := by decide +kernel
theorem dX6_fail_67 : decode cX6_fail 67 = .ok (.lstore 6, 2) := by decide +kernel
theorem dX6_fail_69 : decode cX6_fail 69 = .ok (.lconst 1, 1) := by decide +kernel
theorem dX6_fail_70 : decode cX6_fail 70 = .ok (.lstore 8, 2) := by decide +kernel
theorem dX6_fail_72 : decode cX6_fail 72 = .ok (.iconst 1, 1) := by decide +kernel
theorem dX6_fail_73 : decode cX6_fail 73 = .ok (.istore 10, 2) := by decide +kernel
theorem dX6_fail_75 : decode cX6_fail 75 = .ok (.iload 10, 2) := by decide +kernel
theorem dX6_fail_77 : decode cX6_fail 77 = .ok (.iload_n 2, 1) := by decide +kernel
theorem dX6_fail_78 : decode cX6_fail 78 = .ok (.if_icmp .gt 64, 3) := by decide +kernel
theorem dX6_fail_81 : decode cX6_fail 81 = .ok (.lload 8, 2) := by decide +kernel
theorem dX6_fail_83 : decode cX6_fail 83 = .ok (.iload_n 2, 1) := by decide +kernel
theorem dX6_fail_84 : decode cX6_fail 84 = .ok (.iload 10, 2) := by decide +kernel
theorem dX6_fail_86 : decode cX6_fail 86 = .ok (.isub, 1) := by decide +kernel
theorem dX6_fail_87 : decode cX6_fail 87 = .ok (.iconst 1, 1) := by decide +kernel
theorem dX6_fail_88 : decode cX6_fail 88 = .ok (.iadd, 1) := by decide +kernel
theorem dX6_fail_89 : decode cX6_fail 89 = .ok (.i2l, 1) := by decide +kernel
theorem dX6_fail_90 : decode cX6_fail 90 = .ok (.lmul, 1) := by decide +kernel
theorem dX6_fail_91 : decode cX6_fail 91 = .ok (.iload 10, 2) := by decide +kernel
theorem dX6_fail_93 : decode cX6_fail 93 = .ok (.i2l, 1) := by decide +kernel
theorem dX6_fail_94 : decode cX6_fail 94 = .ok (.ldiv, 1) := by decide +kernel
theorem dX6_fail_95 : decode cX6_fail 95 = .ok (.lstore 8, 2) := by decide +kernel
theorem dX6_fail_97 : decode cX6_fail 97 = .ok (.aload_n 0, 1) := by decide +kernel
theorem dX6_fail_98 : decode cX6_fail 98 = .ok (.getfield 31, 3) := by decide +kernel
theorem dX6_fail_101 : decode cX6_fail 101 = .ok (.iload_n 1, 1) := by decide +kernel
theorem dX6_fail_102 : decode cX6_fail 102 = .ok (.iload 10, 2) := by decide +kernel
theorem dX6_fail_104 : decode cX6_fail 104 = .ok (.invokevirtual 173, 3) := by decide +kernel
theorem dX6_fail_107 : decode cX6_fail 107 = .ok (.ifCond .eq 29, 3) := by decide +kernel
theorem dX6_fail_110 : decode cX6_fail 110 = .ok (.lload 6, 2) := by decide +kernel
theorem dX6_fail_112 : decode cX6_fail 112 = .ok (.lload 8, 2) := by decide +kernel
theorem dX6_fail_114 : decode cX6_fail 114 = .ok (.bipush 10, 2) := by decide +kernel
theorem dX6_fail_116 : decode cX6_fail 116 = .ok (.iload_n 3, 1) := by decide +kernel
theorem dX6_fail_117 : decode cX6_fail 117 = .ok (.isub, 1) := by decide +kernel
theorem dX6_fail_118 : decode cX6_fail 118 = .ok (.iload 10, 2) := by decide +kernel
theorem dX6_fail_120 : decode cX6_fail 120 = .ok (.invokestatic 212, 3) := by decide +kernel
theorem dX6_fail_123 : decode cX6_fail 123 = .ok (.lmul, 1) := by decide +kernel
theorem dX6_fail_124 : decode cX6_fail 124 = .ok (.iload_n 3, 1) := by decide +kernel
theorem dX6_fail_125 : decode cX6_fail 125 = .ok (.iload_n 2, 1) := by decide +kernel
theorem dX6_fail_126 : decode cX6_fail 126 = .ok (.iload 10, 2) := by decide +kernel
theorem dX6_fail_128 : decode cX6_fail 128 = .ok (.isub, 1) := by decide +kernel
theorem dX6_fail_129 : decode cX6_fail 129 = .ok (.invokestatic 212, 3) := by decide +kernel
theorem dX6_fail_132 : decode cX6_fail 132 = .ok (.lmul, 1) := by decide +kernel
theorem dX6_fail_133 : decode cX6_fail 133 = .ok (.ladd, 1) := by decide +kernel
theorem dX6_fail_134 : decode cX6_fail 134 = .ok (.lstore 6, 2) := by decide +kernel
theorem dX6_fail_136 : decode cX6_fail 136 = .ok (.iinc 10 1, 3) := by decide +kernel
theorem dX6_fail_139 : decode cX6_fail 139 = .ok (.goto (-64), 3) := by decide +kernel
theorem dX6_fail_142 : decode cX6_fail 142 = .ok (.bipush 10, 2) := by decide +kernel
theorem dX6_fail_144 : decode cX6_fail 144 = .ok (.iload_n 2, 1) := by decide +kernel
theorem dX6_fail_145 : decode cX6_fail 145 = .ok (.invokestatic 212, 3) := by decide +kernel
theorem dX6_fail_148 : decode cX6_fail 148 = .ok (.lstore 10, 2) := by decide +kernel
theorem dX6_fail_150 : decode cX6_fail 150 = .ok (.lload 6, 2) := by decide +kernel
theorem dX6_fail_152 : decode cX6_fail 152 = .ok (.lload 10, 2) := by decide +kernel
theorem dX6_fail_154 : decode cX6_fail 154 = .ok (.invokestatic 216, 3) := by decide +kernel
theorem dX6_fail_157 : decode cX6_fail 157 = .ok (.lstore 12, 2) := by decide +kernel
theorem dX6_fail_159 : decode cX6_fail 159 = .ok (.lload 12, 2) := by decide +kernel
theorem dX6_fail_161 : decode cX6_fail 161 = .ok (.lconst 1, 1) := by decide +kernel
theorem dX6_fail_162 : decode cX6_fail 162 = .ok (.lcmp, 1) := by decide +kernel
theorem dX6_fail_163 : decode cX6_fail 163 = .ok (.ifCond .ge 6, 3) := by decide +kernel
theorem dX6_fail_166 : decode cX6_fail 166 = .ok (.bipush (-4), 2) := by decide +kernel
theorem dX6_fail_168 : decode cX6_fail 168 = .ok (.ireturn, 1) := by decide +kernel
theorem dX6_fail_169 : decode cX6_fail 169 = .ok (.iload 4, 2) := by decide +kernel
theorem dX6_fail_171 : decode cX6_fail 171 = .ok (.ifCond .ne 8, 3) := by decide +kernel
theorem dX6_fail_174 : decode cX6_fail 174 = .ok (.lload 6, 2) := by decide +kernel
theorem dX6_fail_176 : decode cX6_fail 176 = .ok (.goto 5, 3) := by decide +kernel
theorem dX6_fail_179 : decode cX6_fail 179 = .ok (.lload 10, 2) := by decide +kernel
theorem dX6_fail_181 : decode cX6_fail 181 = .ok (.lload 12, 2) := by decide +kernel
theorem dX6_fail_183 : decode cX6_fail 183 = .ok (.ldiv, 1) := by decide +kernel
theorem dX6_fail_184 : decode cX6_fail 184 = .ok (.l2i, 1) := by decide +kernel
theorem dX6_fail_185 : decode cX6_fail 185 = .ok (.ireturn, 1) := by decide +kernel
theorem dX6_year_0 : decode cX6_year 0 = .ok (.iload_n 1, 1) := by decide +kernel
theorem dX6_year_1 : decode cX6_year 1 = .ok (.iconst 0, 1) := by decide +kernel
theorem dX6_year_2 : decode cX6_year 2 = .ok (.sipush 9999, 3) := by decide +kernel
theorem dX6_year_5 : decode cX6_year 5 = .ok (.invokestatic 142, 3) := by decide +kernel
theorem dX6_year_8 : decode cX6_year 8 = .ok (.ifCond .ne 22, 3) := by decide +kernel
theorem dX6_year_11 : decode cX6_year 11 = .ok (.iload_n 2, 1) := by decide +kernel
theorem dX6_year_12 : decode cX6_year 12 = .ok (.iconst 1, 1) := by decide +kernel
theorem dX6_year_13 : decode cX6_year 13 = .ok (.bipush 60, 2) := by decide +kernel
theorem dX6_year_15 : decode cX6_year 15 = .ok (.invokestatic 142, 3) := by decide +kernel
theorem dX6_year_18 : decode cX6_year 18 = .ok (.ifCond .ne 12, 3) := by decide +kernel
theorem dX6_year_21 : decode cX6_year 21 = .ok (.iload_n 3, 1) := by decide +kernel
theorem dX6_year_22 : decode cX6_year 22 = .ok (.iconst 0, 1) := by decide +kernel
theorem dX6_year_23 : decode cX6_year 23 = .ok (.iconst 2, 1) := by decide +kernel
theorem dX6_year_24 : decode cX6_year 24 = .ok (.invokestatic 142, 3) := by decide +kernel
theorem dX6_year_27 : decode cX6_year 27 = .ok (.ifCond .eq 5, 3) := by decide +kernel
theorem dX6_year_30 : decode cX6_year 30 = .ok (.iconst (-1), 1) := by decide +kernel
theorem dX6_year_31 : decode cX6_year 31 = .ok (.ireturn, 1) := by decide +kernel
theorem dX6_year_32 : decode cX6_year 32 = .ok (.aload_n 0, 1) := by decide +kernel
theorem dX6_year_33 : decode cX6_year 33 = .ok (.getfield 35, 3) := by decide +kernel
theorem dX6_year_36 : decode cX6_year 36 = .ok (.aload_n 0, 1) := by decide +kernel
theorem dX6_year_37 : decode cX6_year 37 = .ok (.getfield 31, 3) := by decide +kernel
theorem dX6_year_40 : decode cX6_year 40 = .ok (.invokevirtual 170, 3) := by decide +kernel
theorem dX6_year_43 : decode cX6_year 43 = .ok (.iconst 0, 1) := by decide +kernel
theorem dX6_year_44 : decode cX6_year 44 = .ok (.istore 4, 2) := by decide +kernel
theorem dX6_year_46 : decode cX6_year 46 = .ok (.iload 4, 2) := by decide +kernel
theorem dX6_year_48 : decode cX6_year 48 = .ok (.iload_n 2, 1) := by decide +kernel
theorem dX6_year_49 : decode cX6_year 49 = .ok (.if_icmp .ge 23, 3) := by decide +kernel
theorem dX6_year_52 : decode cX6_year 52 = .ok (.aload_n 0, 1) := by decide +kernel
theorem dX6_year_53 : decode cX6_year 53 = .ok (.iload_n 1, 1) := by decide +kernel
theorem dX6_year_54 : decode cX6_year 54 = .ok (.iload 4, 2) := by decide +kernel
theorem dX6_year_56 : decode cX6_year 56 = .ok (.invokevirtual 220, 3) := by decide +kernel
theorem dX6_year_59 : decode cX6_year 59 = .ok (.aload_n 0, 1) := by decide +kernel
theorem dX6_year_60 : decode cX6_year 60 = .ok (.getfield 35, 3) := by decide +kernel
theorem dX6_year_63 : decode cX6_year 63 = .ok (.invokevirtual 149, 3) := by decide +kernel
theorem dX6_year_66 : decode cX6_year 66 = .ok (.iinc 4 1, 3) := by decide +kernel
theorem dX6_year_69 : decode cX6_year 69 = .ok (.goto (-23), 3) := by decide +kernel
theorem dX6_year_72 : decode cX6_year 72 = .ok (.iload_n 3, 1) := by decide +kernel
theorem dX6_year_73 : decode cX6_year 73 = .ok (.ifCond .ne 11, 3) := by decide +kernel
theorem dX6_year_76 : decode cX6_year 76 = .ok (.aload_n 0, 1) := by decide +kernel
theorem dX6_year_77 : decode cX6_year 77 = .ok (.getfield 35, 3) := by decide +kernel
theorem dX6_year_80 : decode cX6_year 80 = .ok (.invokevirtual 224, 3) := by decide +kernel
theorem dX6_year_83 : decode cX6_year 83 = .ok (.ireturn, 1) := by decide +kernel
theorem dX6_year_84 : decode cX6_year 84 = .ok (.iload_n 3, 1) := by decide +kernel
theorem dX6_year_85 : decode cX6_year 85 = .ok (.iconst 1, 1) := by decide +kernel
theorem dX6_year_86 : decode cX6_year 86 = .ok (.if_icmp .ne 13, 3) := by decide +kernel
theorem dX6_year_89 : decode cX6_year 89 = .ok (.aload_n 0, 1) := by decide +kernel
theorem dX6_year_90 : decode cX6_year 90 = .ok (.getfield 35, 3) := by decide +kernel
theorem dX6_year_93 : decode cX6_year 93 = .ok (.getfield 159, 3) := by decide +kernel
theorem dX6_year_96 : decode cX6_year 96 = .ok (.goto 10, 3) := by decide +kernel
theorem dX6_year_99 : decode cX6_year 99 = .ok (.aload_n 0, 1) := by decide +kernel
theorem dX6_year_100 : decode cX6_year 100 = .ok (.getfield 35, 3) := by decide +kernel
theorem dX6_year_103 : decode cX6_year 103 = .ok (.invokevirtual 227, 3) := by decide +kernel
theorem dX6_year_106 : decode cX6_year 106 = .ok (.ireturn, 1) := by decide +kernel
theorem dX6_keep_0 : decode cX6_keep 0 = .ok (.aload_n 0, 1) := by decide +kernel
theorem dX6_keep_1 : decode cX6_keep 1 = .ok (.getfield 49, 3) := by decide +kernel
theorem dX6_keep_4 : decode cX6_keep 4 = .ok (.iconst 2, 1) := by decide +kernel
theorem dX6_keep_5 : decode cX6_keep 5 = .ok (.if_icmp .lt 6, 3) := by decide +kernel
theorem dX6_keep_8 : decode cX6_keep 8 = .ok (.bipush (-3), 2) := by decide +kernel
theorem dX6_keep_10 : decode cX6_keep 10 = .ok (.ireturn, 1) := by decide +kernel
theorem dX6_keep_11 : decode cX6_keep 11 = .ok (.aload_n 0, 1) := by decide +kernel
theorem dX6_keep_12 : decode cX6_keep 12 = .ok (.getfield 45, 3) := by decide +kernel
theorem dX6_keep_15 : decode cX6_keep 15 = .ok (.aload_n 0, 1) := by decide +kernel
theorem dX6_keep_16 : decode cX6_keep 16 = .ok (.getfield 49, 3) := by decide +kernel
theorem dX6_keep_19 : decode cX6_keep 19 = .ok (.aaload, 1) := by decide +kernel
theorem dX6_keep_20 : decode cX6_keep 20 = .ok (.aload_n 0, 1) := by decide +kernel
theorem dX6_keep_21 : decode cX6_keep 21 = .ok (.getfield 31, 3) := by decide +kernel
theorem dX6_keep_24 : decode cX6_keep 24 = .ok (.invokevirtual 170, 3) := by decide +kernel
theorem dX6_keep_27 : decode cX6_keep 27 = .ok (.aload_n 0, 1) := by decide +kernel
theorem dX6_keep_28 : decode cX6_keep 28 = .ok (.dup, 1) := by decide +kernel
theorem dX6_keep_29 : decode cX6_keep 29 = .ok (.getfield 49, 3) := by decide +kernel
theorem dX6_keep_32 : decode cX6_keep 32 = .ok (.iconst 1, 1) := by decide +kernel
theorem dX6_keep_33 : decode cX6_keep 33 = .ok (.iadd, 1) := by decide +kernel
theorem dX6_keep_34 : decode cX6_keep 34 = .ok (.putfield 49, 3) := by decide +kernel
theorem dX6_keep_37 : decode cX6_keep 37 = .ok (.aload_n 0, 1) := by decide +kernel
theorem dX6_keep_38 : decode cX6_keep 38 = .ok (.getfield 49, 3) := by decide +kernel
theorem dX6_keep_41 : decode cX6_keep 41 = .ok (.ireturn, 1) := by decide +kernel
theorem dX6_back_0 : decode cX6_back 0 = .ok (.aload_n 0, 1) := by decide +kernel
theorem dX6_back_1 : decode cX6_back 1 = .ok (.getfield 49, 3) := by decide +kernel
theorem dX6_back_4 : decode cX6_back 4 = .ok (.iconst 1, 1) := by decide +kernel
theorem dX6_back_5 : decode cX6_back 5 = .ok (.if_icmp .ge 6, 3) := by decide +kernel
theorem dX6_back_8 : decode cX6_back 8 = .ok (.bipush (-2), 2) := by decide +kernel
theorem dX6_back_10 : decode cX6_back 10 = .ok (.ireturn, 1) := by decide +kernel
theorem dX6_back_11 : decode cX6_back 11 = .ok (.aload_n 0, 1) := by decide +kernel
theorem dX6_back_12 : decode cX6_back 12 = .ok (.dup, 1) := by decide +kernel
theorem dX6_back_13 : decode cX6_back 13 = .ok (.getfield 49, 3) := by decide +kernel
theorem dX6_back_16 : decode cX6_back 16 = .ok (.iconst 1, 1) := by decide +kernel
theorem dX6_back_17 : decode cX6_back 17 = .ok (.isub, 1) := by decide +kernel
theorem dX6_back_18 : decode cX6_back 18 = .ok (.putfield 49, 3) := by decide +kernel
theorem dX6_back_21 : decode cX6_back 21 = .ok (.aload_n 0, 1) := by decide +kernel
theorem dX6_back_22 : decode cX6_back 22 = .ok (.getfield 31, 3) := by decide +kernel
theorem dX6_back_25 : decode cX6_back 25 = .ok (.aload_n 0, 1) := by decide +kernel
theorem dX6_back_26 : decode cX6_back 26 = .ok (.getfield 45, 3) := by decide +kernel
theorem dX6_back_29 : decode cX6_back 29 = .ok (.aload_n 0, 1) := by decide +kernel
theorem dX6_back_30 : decode cX6_back 30 = .ok (.getfield 49, 3) := by decide +kernel
theorem dX6_back_33 : decode cX6_back 33 = .ok (.aaload, 1) := by decide +kernel
theorem dX6_back_34 : decode cX6_back 34 = .ok (.invokevirtual 170, 3) := by decide +kernel
theorem dX6_back_37 : decode cX6_back 37 = .ok (.aload_n 0, 1) := by decide +kernel
theorem dX6_back_38 : decode cX6_back 38 = .ok (.getfield 41, 3) := by decide +kernel
theorem dX6_back_41 : decode cX6_back 41 = .ok (.iconst 0, 1) := by decide +kernel
theorem dX6_back_42 : decode cX6_back 42 = .ok (.putfield 95, 3) := by decide +kernel
theorem dX6_back_45 : decode cX6_back 45 = .ok (.aload_n 0, 1) := by decide +kernel
theorem dX6_back_46 : decode cX6_back 46 = .ok (.getfield 49, 3) := by decide +kernel
theorem dX6_back_49 : decode cX6_back 49 = .ok (.ireturn, 1) := by decide +kernel
theorem dX6_count_0 : decode cX6_count 0 = .ok (.iload_n 1, 1) := by decide +kernel
theorem dX6_count_1 : decode cX6_count 1 = .ok (.tableswitch 132 0 9 #[55, 63, 71, 79, 87, 95, 103, 111, 119, 124], 55) := by decide +kernel
theorem dX6_count_56 : decode cX6_count 56 = .ok (.aload_n 0, 1) := by decide +kernel
theorem dX6_count_57 : decode cX6_count 57 = .ok (.getfield 23, 3) := by decide +kernel
theorem dX6_count_60 : decode cX6_count 60 = .ok (.getfield 92, 3) := by decide +kernel
theorem dX6_count_63 : decode cX6_count 63 = .ok (.ireturn, 1) := by decide +kernel
theorem dX6_count_64 : decode cX6_count 64 = .ok (.aload_n 0, 1) := by decide +kernel
theorem dX6_count_65 : decode cX6_count 65 = .ok (.getfield 31, 3) := by decide +kernel
theorem dX6_count_68 : decode cX6_count 68 = .ok (.getfield 152, 3) := by decide +kernel
theorem dX6_count_71 : decode cX6_count 71 = .ok (.ireturn, 1) := by decide +kernel
theorem dX6_count_72 : decode cX6_count 72 = .ok (.aload_n 0, 1) := by decide +kernel
theorem dX6_count_73 : decode cX6_count 73 = .ok (.getfield 31, 3) := by decide +kernel
theorem dX6_count_76 : decode cX6_count 76 = .ok (.invokevirtual 224, 3) := by decide +kernel
theorem dX6_count_79 : decode cX6_count 79 = .ok (.ireturn, 1) := by decide +kernel
theorem dX6_count_80 : decode cX6_count 80 = .ok (.aload_n 0, 1) := by decide +kernel
theorem dX6_count_81 : decode cX6_count 81 = .ok (.getfield 31, 3) := by decide +kernel
theorem dX6_count_84 : decode cX6_count 84 = .ok (.getfield 159, 3) := by decide +kernel
theorem dX6_count_87 : decode cX6_count 87 = .ok (.ireturn, 1) := by decide +kernel
theorem dX6_count_88 : decode cX6_count 88 = .ok (.aload_n 0, 1) := by decide +kernel
theorem dX6_count_89 : decode cX6_count 89 = .ok (.getfield 31, 3) := by decide +kernel
theorem dX6_count_92 : decode cX6_count 92 = .ok (.invokevirtual 227, 3) := by decide +kernel
theorem dX6_count_95 : decode cX6_count 95 = .ok (.ireturn, 1) := by decide +kernel
theorem dX6_count_96 : decode cX6_count 96 = .ok (.aload_n 0, 1) := by decide +kernel
theorem dX6_count_97 : decode cX6_count 97 = .ok (.getfield 31, 3) := by decide +kernel
theorem dX6_count_100 : decode cX6_count 100 = .ok (.invokevirtual 230, 3) := by decide +kernel
theorem dX6_count_103 : decode cX6_count 103 = .ok (.ireturn, 1) := by decide +kernel
theorem dX6_count_104 : decode cX6_count 104 = .ok (.aload_n 0, 1) := by decide +kernel
theorem dX6_count_105 : decode cX6_count 105 = .ok (.getfield 56, 3) := by decide +kernel
theorem dX6_count_108 : decode cX6_count 108 = .ok (.getfield 98, 3) := by decide +kernel
theorem dX6_count_111 : decode cX6_count 111 = .ok (.ireturn, 1) := by decide +kernel
theorem dX6_count_112 : decode cX6_count 112 = .ok (.aload_n 0, 1) := by decide +kernel
theorem dX6_count_113 : decode cX6_count 113 = .ok (.getfield 41, 3) := by decide +kernel
theorem dX6_count_116 : decode cX6_count 116 = .ok (.getfield 95, 3) := by decide +kernel
theorem dX6_count_119 : decode cX6_count 119 = .ok (.ireturn, 1) := by decide +kernel
theorem dX6_count_120 : decode cX6_count 120 = .ok (.aload_n 0, 1) := by decide +kernel
theorem dX6_count_121 : decode cX6_count 121 = .ok (.getfield 49, 3) := by decide +kernel
theorem dX6_count_124 : decode cX6_count 124 = .ok (.ireturn, 1) := by decide +kernel
theorem dX6_count_125 : decode cX6_count 125 = .ok (.aload_n 0, 1) := by decide +kernel
theorem dX6_count_126 : decode cX6_count 126 = .ok (.getfield 12, 3) := by decide +kernel
theorem dX6_count_129 : decode cX6_count 129 = .ok (.getfield 90, 3) := by decide +kernel
theorem dX6_count_132 : decode cX6_count 132 = .ok (.ireturn, 1) := by decide +kernel
theorem dX6_count_133 : decode cX6_count 133 = .ok (.iconst (-1), 1) := by decide +kernel
theorem dX6_count_134 : decode cX6_count 134 = .ok (.ireturn, 1) := by decide +kernel
theorem dX6_isOutside_0 : decode cX6_isOutside 0 = .ok (.iload_n 0, 1) := by decide +kernel
theorem dX6_isOutside_1 : decode cX6_isOutside 1 = .ok (.iload_n 1, 1) := by decide +kernel
theorem dX6_isOutside_2 : decode cX6_isOutside 2 = .ok (.if_icmp .lt 8, 3) := by decide +kernel
theorem dX6_isOutside_5 : decode cX6_isOutside 5 = .ok (.iload_n 0, 1) := by decide +kernel
theorem dX6_isOutside_6 : decode cX6_isOutside 6 = .ok (.iload_n 2, 1) := by decide +kernel
theorem dX6_isOutside_7 : decode cX6_isOutside 7 = .ok (.if_icmp .le 7, 3) := by decide +kernel
theorem dX6_isOutside_10 : decode cX6_isOutside 10 = .ok (.iconst 1, 1) := by decide +kernel
theorem dX6_isOutside_11 : decode cX6_isOutside 11 = .ok (.goto 4, 3) := by decide +kernel
theorem dX6_isOutside_14 : decode cX6_isOutside 14 = .ok (.iconst 0, 1) := by decide +kernel
theorem dX6_isOutside_15 : decode cX6_isOutside 15 = .ok (.ireturn, 1) := by decide +kernel
theorem dX6_isNoWall_0 : decode cX6_isNoWall 0 = .ok (.iload_n 1, 1) := by decide +kernel
theorem dX6_isNoWall_1 : decode cX6_isNoWall 1 = .ok (.iconst 0, 1) := by decide +kernel
theorem dX6_isNoWall_2 : decode cX6_isNoWall 2 = .ok (.aload_n 0, 1) := by decide +kernel
theorem dX6_isNoWall_3 : decode cX6_isNoWall 3 = .ok (.getfield 23, 3) := by decide +kernel
theorem dX6_isNoWall_6 : decode cX6_isNoWall 6 = .ok (.getfield 92, 3) := by decide +kernel
theorem dX6_isNoWall_9 : decode cX6_isNoWall 9 = .ok (.iconst 1, 1) := by decide +kernel
theorem dX6_isNoWall_10 : decode cX6_isNoWall 10 = .ok (.isub, 1) := by decide +kernel
theorem dX6_isNoWall_11 : decode cX6_isNoWall 11 = .ok (.invokestatic 142, 3) := by decide +kernel
theorem dX6_isNoWall_14 : decode cX6_isNoWall 14 = .ok (.ireturn, 1) := by decide +kernel
theorem dX6_isNoPair_0 : decode cX6_isNoPair 0 = .ok (.aload_n 0, 1) := by decide +kernel
theorem dX6_isNoPair_1 : decode cX6_isNoPair 1 = .ok (.iload_n 1, 1) := by decide +kernel
theorem dX6_isNoPair_2 : decode cX6_isNoPair 2 = .ok (.invokevirtual 99, 3) := by decide +kernel
theorem dX6_isNoPair_5 : decode cX6_isNoPair 5 = .ok (.ifCond .ne 16, 3) := by decide +kernel
theorem dX6_isNoPair_8 : decode cX6_isNoPair 8 = .ok (.aload_n 0, 1) := by decide +kernel
theorem dX6_isNoPair_9 : decode cX6_isNoPair 9 = .ok (.iload_n 2, 1) := by decide +kernel
theorem dX6_isNoPair_10 : decode cX6_isNoPair 10 = .ok (.invokevirtual 99, 3) := by decide +kernel
theorem dX6_isNoPair_13 : decode cX6_isNoPair 13 = .ok (.ifCond .ne 8, 3) := by decide +kernel
theorem dX6_isNoPair_16 : decode cX6_isNoPair 16 = .ok (.iload_n 1, 1) := by decide +kernel
theorem dX6_isNoPair_17 : decode cX6_isNoPair 17 = .ok (.iload_n 2, 1) := by decide +kernel
theorem dX6_isNoPair_18 : decode cX6_isNoPair 18 = .ok (.if_icmp .ne 7, 3) := by decide +kernel
theorem dX6_isNoPair_21 : decode cX6_isNoPair 21 = .ok (.iconst 1, 1) := by decide +kernel
theorem dX6_isNoPair_22 : decode cX6_isNoPair 22 = .ok (.goto 4, 3) := by decide +kernel
theorem dX6_isNoPair_25 : decode cX6_isNoPair 25 = .ok (.iconst 0, 1) := by decide +kernel
theorem dX6_isNoPair_26 : decode cX6_isNoPair 26 = .ok (.ireturn, 1) := by decide +kernel
theorem dX6_othersDownBy_0 : decode cX6_othersDownBy 0 = .ok (.aload_n 0, 1) := by decide +kernel
theorem dX6_othersDownBy_1 : decode cX6_othersDownBy 1 = .ok (.getfield 35, 3) := by decide +kernel
theorem dX6_othersDownBy_4 : decode cX6_othersDownBy 4 = .ok (.aload_n 0, 1) := by decide +kernel
theorem dX6_othersDownBy_5 : decode cX6_othersDownBy 5 = .ok (.getfield 31, 3) := by decide +kernel
theorem dX6_othersDownBy_8 : decode cX6_othersDownBy 8 = .ok (.invokevirtual 170, 3) := by decide +kernel
theorem dX6_othersDownBy_11 : decode cX6_othersDownBy 11 = .ok (.aload_n 0, 1) := by decide +kernel
theorem dX6_othersDownBy_12 : decode cX6_othersDownBy 12 = .ok (.getfield 35, 3) := by decide +kernel
theorem dX6_othersDownBy_15 : decode cX6_othersDownBy 15 = .ok (.iload_n 1, 1) := by decide +kernel
theorem dX6_othersDownBy_16 : decode cX6_othersDownBy 16 = .ok (.iconst 1, 1) := by decide +kernel
theorem dX6_othersDownBy_17 : decode cX6_othersDownBy 17 = .ok (.invokevirtual 233, 3) := by decide +kernel
theorem dX6_othersDownBy_20 : decode cX6_othersDownBy 20 = .ok (.aload_n 0, 1) := by decide +kernel
theorem dX6_othersDownBy_21 : decode cX6_othersDownBy 21 = .ok (.getfield 35, 3) := by decide +kernel
theorem dX6_othersDownBy_24 : decode cX6_othersDownBy 24 = .ok (.iload_n 1, 1) := by decide +kernel
theorem dX6_othersDownBy_25 : decode cX6_othersDownBy 25 = .ok (.invokevirtual 114, 3) := by decide +kernel
theorem dX6_othersDownBy_28 : decode cX6_othersDownBy 28 = .ok (.ifCond .eq 7, 3) := by decide +kernel
theorem dX6_othersDownBy_31 : decode cX6_othersDownBy 31 = .ok (.iconst 0, 1) := by decide +kernel
theorem dX6_othersDownBy_32 : decode cX6_othersDownBy 32 = .ok (.goto 4, 3) := by decide +kernel
theorem dX6_othersDownBy_35 : decode cX6_othersDownBy 35 = .ok (.iconst 1, 1) := by decide +kernel
theorem dX6_othersDownBy_36 : decode cX6_othersDownBy 36 = .ok (.istore_n 2, 1) := by decide +kernel
theorem dX6_othersDownBy_37 : decode cX6_othersDownBy 37 = .ok (.aload_n 0, 1) := by decide +kernel
theorem dX6_othersDownBy_38 : decode cX6_othersDownBy 38 = .ok (.getfield 35, 3) := by decide +kernel
theorem dX6_othersDownBy_41 : decode cX6_othersDownBy 41 = .ok (.invokevirtual 224, 3) := by decide +kernel
theorem dX6_othersDownBy_44 : decode cX6_othersDownBy 44 = .ok (.aload_n 0, 1) := by decide +kernel
theorem dX6_othersDownBy_45 : decode cX6_othersDownBy 45 = .ok (.getfield 31, 3) := by decide +kernel
theorem dX6_othersDownBy_48 : decode cX6_othersDownBy 48 = .ok (.invokevirtual 224, 3) := by decide +kernel
theorem dX6_othersDownBy_51 : decode cX6_othersDownBy 51 = .ok (.isub, 1) := by decide +kernel
theorem dX6_othersDownBy_52 : decode cX6_othersDownBy 52 = .ok (.iload_n 2, 1) := by decide +kernel
theorem dX6_othersDownBy_53 : decode cX6_othersDownBy 53 = .ok (.isub, 1) := by decide +kernel
theorem dX6_othersDownBy_54 : decode cX6_othersDownBy 54 = .ok (.ireturn, 1) := by decide +kernel
theorem dX6_standsWithout_0 : decode cX6_standsWithout 0 = .ok (.aload_n 0, 1) := by decide +kernel
theorem dX6_standsWithout_1 : decode cX6_standsWithout 1 = .ok (.getfield 35, 3) := by decide +kernel
theorem dX6_standsWithout_4 : decode cX6_standsWithout 4 = .ok (.aload_n 0, 1) := by decide +kernel
theorem dX6_standsWithout_5 : decode cX6_standsWithout 5 = .ok (.getfield 31, 3) := by decide +kernel
theorem dX6_standsWithout_8 : decode cX6_standsWithout 8 = .ok (.invokevirtual 170, 3) := by decide +kernel
theorem dX6_standsWithout_11 : decode cX6_standsWithout 11 = .ok (.iconst 0, 1) := by decide +kernel
theorem dX6_standsWithout_12 : decode cX6_standsWithout 12 = .ok (.istore 4, 2) := by decide +kernel
theorem dX6_standsWithout_14 : decode cX6_standsWithout 14 = .ok (.iload 4, 2) := by decide +kernel
theorem dX6_standsWithout_16 : decode cX6_standsWithout 16 = .ok (.aload_n 0, 1) := by decide +kernel
theorem dX6_standsWithout_17 : decode cX6_standsWithout 17 = .ok (.getfield 23, 3) := by decide +kernel
theorem dX6_standsWithout_20 : decode cX6_standsWithout 20 = .ok (.getfield 92, 3) := by decide +kernel
theorem dX6_standsWithout_23 : decode cX6_standsWithout 23 = .ok (.if_icmp .ge 30, 3) := by decide +kernel
theorem dX6_standsWithout_26 : decode cX6_standsWithout 26 = .ok (.iload_n 1, 1) := by decide +kernel
theorem dX6_standsWithout_27 : decode cX6_standsWithout 27 = .ok (.iload 4, 2) := by decide +kernel
theorem dX6_standsWithout_29 : decode cX6_standsWithout 29 = .ok (.ishr, 1) := by decide +kernel
theorem dX6_standsWithout_30 : decode cX6_standsWithout 30 = .ok (.iconst 1, 1) := by decide +kernel
theorem dX6_standsWithout_31 : decode cX6_standsWithout 31 = .ok (.iand, 1) := by decide +kernel
theorem dX6_standsWithout_32 : decode cX6_standsWithout 32 = .ok (.iconst 1, 1) := by decide +kernel
theorem dX6_standsWithout_33 : decode cX6_standsWithout 33 = .ok (.if_icmp .ne 14, 3) := by decide +kernel
theorem dX6_standsWithout_36 : decode cX6_standsWithout 36 = .ok (.aload_n 0, 1) := by decide +kernel
theorem dX6_standsWithout_37 : decode cX6_standsWithout 37 = .ok (.getfield 35, 3) := by decide +kernel
theorem dX6_standsWithout_40 : decode cX6_standsWithout 40 = .ok (.iload 4, 2) := by decide +kernel
theorem dX6_standsWithout_42 : decode cX6_standsWithout 42 = .ok (.iload_n 2, 1) := by decide +kernel
theorem dX6_standsWithout_43 : decode cX6_standsWithout 43 = .ok (.iconst 0, 1) := by decide +kernel
theorem dX6_standsWithout_44 : decode cX6_standsWithout 44 = .ok (.invokevirtual 155, 3) := by decide +kernel
theorem dX6_standsWithout_47 : decode cX6_standsWithout 47 = .ok (.iinc 4 1, 3) := by decide +kernel
theorem dX6_standsWithout_50 : decode cX6_standsWithout 50 = .ok (.goto (-36), 3) := by decide +kernel
theorem dX6_standsWithout_53 : decode cX6_standsWithout 53 = .ok (.aload_n 0, 1) := by decide +kernel
theorem dX6_standsWithout_54 : decode cX6_standsWithout 54 = .ok (.getfield 35, 3) := by decide +kernel
theorem dX6_standsWithout_57 : decode cX6_standsWithout 57 = .ok (.iload_n 3, 1) := by decide +kernel
theorem dX6_standsWithout_58 : decode cX6_standsWithout 58 = .ok (.iconst 1, 1) := by decide +kernel
theorem dX6_standsWithout_59 : decode cX6_standsWithout 59 = .ok (.invokevirtual 233, 3) := by decide +kernel
theorem dX6_standsWithout_62 : decode cX6_standsWithout 62 = .ok (.aload_n 0, 1) := by decide +kernel
theorem dX6_standsWithout_63 : decode cX6_standsWithout 63 = .ok (.getfield 35, 3) := by decide +kernel
theorem dX6_standsWithout_66 : decode cX6_standsWithout 66 = .ok (.iload_n 2, 1) := by decide +kernel
theorem dX6_standsWithout_67 : decode cX6_standsWithout 67 = .ok (.invokevirtual 114, 3) := by decide +kernel
theorem dX6_standsWithout_70 : decode cX6_standsWithout 70 = .ok (.ireturn, 1) := by decide +kernel
theorem dX6_drawAhead_0 : decode cX6_drawAhead 0 = .ok (.aload_n 0, 1) := by decide +kernel
theorem dX6_drawAhead_1 : decode cX6_drawAhead 1 = .ok (.getfield 23, 3) := by decide +kernel
theorem dX6_drawAhead_4 : decode cX6_drawAhead 4 = .ok (.getfield 92, 3) := by decide +kernel
theorem dX6_drawAhead_7 : decode cX6_drawAhead 7 = .ok (.iconst 1, 1) := by decide +kernel
theorem dX6_drawAhead_8 : decode cX6_drawAhead 8 = .ok (.if_icmp .ge 4, 3) := by decide +kernel
theorem dX6_drawAhead_11 : decode cX6_drawAhead 11 = .ok (.return_, 1) := by decide +kernel
theorem dX6_drawAhead_12 : decode cX6_drawAhead 12 = .ok (.ldc2_w 236, 3) := by decide +kernel
theorem dX6_drawAhead_15 : decode cX6_drawAhead 15 = .ok (.iload_n 1, 1) := by decide +kernel
theorem dX6_drawAhead_16 : decode cX6_drawAhead 16 = .ok (.i2l, 1) := by decide +kernel
theorem dX6_drawAhead_17 : decode cX6_drawAhead 17 = .ok (.lmul, 1) := by decide +kernel
theorem dX6_drawAhead_18 : decode cX6_drawAhead 18 = .ok (.ldc2_w 238, 3) := by decide +kernel
theorem dX6_drawAhead_21 : decode cX6_drawAhead 21 = .ok (.iload_n 2, 1) := by decide +kernel
theorem dX6_drawAhead_22 : decode cX6_drawAhead 22 = .ok (.i2l, 1) := by decide +kernel
theorem dX6_drawAhead_23 : decode cX6_drawAhead 23 = .ok (.lmul, 1) := by decide +kernel
theorem dX6_drawAhead_24 : decode cX6_drawAhead 24 = .ok (.ladd, 1) := by decide +kernel
theorem dX6_drawAhead_25 : decode cX6_drawAhead 25 = .ok (.lconst 1, 1) := by decide +kernel
theorem dX6_drawAhead_26 : decode cX6_drawAhead 26 = .ok (.ladd, 1) := by decide +kernel
theorem dX6_drawAhead_27 : decode cX6_drawAhead 27 = .ok (.lstore_n 3, 1) := by decide +kernel
theorem dX6_drawAhead_28 : decode cX6_drawAhead 28 = .ok (.lload_n 3, 1) := by decide +kernel
theorem dX6_drawAhead_29 : decode cX6_drawAhead 29 = .ok (.lload_n 3, 1) := by decide +kernel
theorem dX6_drawAhead_30 : decode cX6_drawAhead 30 = .ok (.lmul, 1) := by decide +kernel
theorem dX6_drawAhead_31 : decode cX6_drawAhead 31 = .ok (.ldc2_w 240, 3) := by decide +kernel
theorem dX6_drawAhead_34 : decode cX6_drawAhead 34 = .ok (.lrem, 1) := by decide +kernel
theorem dX6_drawAhead_35 : decode cX6_drawAhead 35 = .ok (.l2i, 1) := by decide +kernel
theorem dX6_drawAhead_36 : decode cX6_drawAhead 36 = .ok (.istore 5, 2) := by decide +kernel
theorem dX6_drawAhead_38 : decode cX6_drawAhead 38 = .ok (.iload 5, 2) := by decide +kernel
theorem dX6_drawAhead_40 : decode cX6_drawAhead 40 = .ok (.bipush 8, 2) := by decide +kernel
theorem dX6_drawAhead_42 : decode cX6_drawAhead 42 = .ok (.idiv, 1) := by decide +kernel
theorem dX6_drawAhead_43 : decode cX6_drawAhead 43 = .ok (.aload_n 0, 1) := by decide +kernel
theorem dX6_drawAhead_44 : decode cX6_drawAhead 44 = .ok (.getfield 23, 3) := by decide +kernel
theorem dX6_drawAhead_47 : decode cX6_drawAhead 47 = .ok (.getfield 92, 3) := by decide +kernel
theorem dX6_drawAhead_50 : decode cX6_drawAhead 50 = .ok (.irem, 1) := by decide +kernel
theorem dX6_drawAhead_51 : decode cX6_drawAhead 51 = .ok (.istore 6, 2) := by decide +kernel
theorem dX6_drawAhead_53 : decode cX6_drawAhead 53 = .ok (.aload_n 0, 1) := by decide +kernel
theorem dX6_drawAhead_54 : decode cX6_drawAhead 54 = .ok (.getfield 35, 3) := by decide +kernel
theorem dX6_drawAhead_57 : decode cX6_drawAhead 57 = .ok (.iload 6, 2) := by decide +kernel
theorem dX6_drawAhead_59 : decode cX6_drawAhead 59 = .ok (.invokevirtual 114, 3) := by decide +kernel
theorem dX6_drawAhead_62 : decode cX6_drawAhead 62 = .ok (.ifCond .ne 4, 3) := by decide +kernel
theorem dX6_drawAhead_65 : decode cX6_drawAhead 65 = .ok (.return_, 1) := by decide +kernel
theorem dX6_drawAhead_66 : decode cX6_drawAhead 66 = .ok (.iload 5, 2) := by decide +kernel
theorem dX6_drawAhead_68 : decode cX6_drawAhead 68 = .ok (.bipush 8, 2) := by decide +kernel
theorem dX6_drawAhead_70 : decode cX6_drawAhead 70 = .ok (.irem, 1) := by decide +kernel
theorem dX6_drawAhead_71 : decode cX6_drawAhead 71 = .ok (.istore 7, 2) := by decide +kernel
theorem dX6_drawAhead_73 : decode cX6_drawAhead 73 = .ok (.iload 7, 2) := by decide +kernel
theorem dX6_drawAhead_75 : decode cX6_drawAhead 75 = .ok (.iconst 3, 1) := by decide +kernel
theorem dX6_drawAhead_76 : decode cX6_drawAhead 76 = .ok (.if_icmp .gt 12, 3) := by decide +kernel
theorem dX6_drawAhead_79 : decode cX6_drawAhead 79 = .ok (.aload_n 0, 1) := by decide +kernel
theorem dX6_drawAhead_80 : decode cX6_drawAhead 80 = .ok (.getfield 35, 3) := by decide +kernel
theorem dX6_drawAhead_83 : decode cX6_drawAhead 83 = .ok (.iload 6, 2) := by decide +kernel
theorem dX6_drawAhead_85 : decode cX6_drawAhead 85 = .ok (.invokevirtual 138, 3) := by decide +kernel
theorem dX6_drawAhead_88 : decode cX6_drawAhead 88 = .ok (.iload 7, 2) := by decide +kernel
theorem dX6_drawAhead_90 : decode cX6_drawAhead 90 = .ok (.iconst 4, 1) := by decide +kernel
theorem dX6_drawAhead_91 : decode cX6_drawAhead 91 = .ok (.if_icmp .ne 23, 3) := by decide +kernel
theorem dX6_drawAhead_94 : decode cX6_drawAhead 94 = .ok (.aload_n 0, 1) := by decide +kernel
theorem dX6_drawAhead_95 : decode cX6_drawAhead 95 = .ok (.getfield 35, 3) := by decide +kernel
theorem dX6_drawAhead_98 : decode cX6_drawAhead 98 = .ok (.iload 6, 2) := by decide +kernel
theorem dX6_drawAhead_100 : decode cX6_drawAhead 100 = .ok (.iload 5, 2) := by decide +kernel
theorem dX6_drawAhead_102 : decode cX6_drawAhead 102 = .ok (.bipush 64, 2) := by decide +kernel
theorem dX6_drawAhead_104 : decode cX6_drawAhead 104 = .ok (.idiv, 1) := by decide +kernel
theorem dX6_drawAhead_105 : decode cX6_drawAhead 105 = .ok (.bipush 9, 2) := by decide +kernel
theorem dX6_drawAhead_107 : decode cX6_drawAhead 107 = .ok (.irem, 1) := by decide +kernel
theorem dX6_drawAhead_108 : decode cX6_drawAhead 108 = .ok (.iconst 1, 1) := by decide +kernel
theorem dX6_drawAhead_109 : decode cX6_drawAhead 109 = .ok (.iadd, 1) := by decide +kernel
theorem dX6_drawAhead_110 : decode cX6_drawAhead 110 = .ok (.invokevirtual 146, 3) := by decide +kernel
theorem dX6_drawAhead_113 : decode cX6_drawAhead 113 = .ok (.pop, 1) := by decide +kernel
theorem dX6_drawAhead_114 : decode cX6_drawAhead 114 = .ok (.return_, 1) := by decide +kernel
theorem dX6_power_0 : decode cX6_power 0 = .ok (.lconst 1, 1) := by decide +kernel
theorem dX6_power_1 : decode cX6_power 1 = .ok (.lstore_n 2, 1) := by decide +kernel
theorem dX6_power_2 : decode cX6_power 2 = .ok (.iconst 0, 1) := by decide +kernel
theorem dX6_power_3 : decode cX6_power 3 = .ok (.istore 4, 2) := by decide +kernel
theorem dX6_power_5 : decode cX6_power 5 = .ok (.iload 4, 2) := by decide +kernel
theorem dX6_power_7 : decode cX6_power 7 = .ok (.iload_n 1, 1) := by decide +kernel
theorem dX6_power_8 : decode cX6_power 8 = .ok (.if_icmp .ge 14, 3) := by decide +kernel
theorem dX6_power_11 : decode cX6_power 11 = .ok (.lload_n 2, 1) := by decide +kernel
theorem dX6_power_12 : decode cX6_power 12 = .ok (.iload_n 0, 1) := by decide +kernel
theorem dX6_power_13 : decode cX6_power 13 = .ok (.i2l, 1) := by decide +kernel
theorem dX6_power_14 : decode cX6_power 14 = .ok (.lmul, 1) := by decide +kernel
theorem dX6_power_15 : decode cX6_power 15 = .ok (.lstore_n 2, 1) := by decide +kernel
theorem dX6_power_16 : decode cX6_power 16 = .ok (.iinc 4 1, 3) := by decide +kernel
theorem dX6_power_19 : decode cX6_power 19 = .ok (.goto (-14), 3) := by decide +kernel
theorem dX6_power_22 : decode cX6_power 22 = .ok (.lload_n 2, 1) := by decide +kernel
theorem dX6_power_23 : decode cX6_power 23 = .ok (.lreturn, 1) := by decide +kernel
theorem dX6_greatestShared_0 : decode cX6_greatestShared 0 = .ok (.iconst 0, 1) := by decide +kernel
theorem dX6_greatestShared_1 : decode cX6_greatestShared 1 = .ok (.istore 4, 2) := by decide +kernel
theorem dX6_greatestShared_3 : decode cX6_greatestShared 3 = .ok (.iload 4, 2) := by decide +kernel
theorem dX6_greatestShared_5 : decode cX6_greatestShared 5 = .ok (.bipush 100, 2) := by decide +kernel
theorem dX6_greatestShared_7 : decode cX6_greatestShared 7 = .ok (.if_icmp .ge 25, 3) := by decide +kernel
theorem dX6_greatestShared_10 : decode cX6_greatestShared 10 = .ok (.lload_n 2, 1) := by decide +kernel
theorem dX6_greatestShared_11 : decode cX6_greatestShared 11 = .ok (.lconst 0, 1) := by decide +kernel
theorem dX6_greatestShared_12 : decode cX6_greatestShared 12 = .ok (.lcmp, 1) := by decide +kernel
theorem dX6_greatestShared_13 : decode cX6_greatestShared 13 = .ok (.ifCond .eq 19, 3) := by decide +kernel
theorem dX6_greatestShared_16 : decode cX6_greatestShared 16 = .ok (.lload_n 0, 1) := by decide +kernel
theorem dX6_greatestShared_17 : decode cX6_greatestShared 17 = .ok (.lload_n 2, 1) := by decide +kernel
theorem dX6_greatestShared_18 : decode cX6_greatestShared 18 = .ok (.lrem, 1) := by decide +kernel
theorem dX6_greatestShared_19 : decode cX6_greatestShared 19 = .ok (.lstore 5, 2) := by decide +kernel
theorem dX6_greatestShared_21 : decode cX6_greatestShared 21 = .ok (.lload_n 2, 1) := by decide +kernel
theorem dX6_greatestShared_22 : decode cX6_greatestShared 22 = .ok (.lstore_n 0, 1) := by decide +kernel
theorem dX6_greatestShared_23 : decode cX6_greatestShared 23 = .ok (.lload 5, 2) := by decide +kernel
theorem dX6_greatestShared_25 : decode cX6_greatestShared 25 = .ok (.lstore_n 2, 1) := by decide +kernel
theorem dX6_greatestShared_26 : decode cX6_greatestShared 26 = .ok (.iinc 4 1, 3) := by decide +kernel
theorem dX6_greatestShared_29 : decode cX6_greatestShared 29 = .ok (.goto (-26), 3) := by decide +kernel
theorem dX6_greatestShared_32 : decode cX6_greatestShared 32 = .ok (.lload_n 0, 1) := by decide +kernel
theorem dX6_greatestShared_33 : decode cX6_greatestShared 33 = .ok (.lreturn, 1) := by decide +kernel
end
section
theorem dX7_init_0 : decode cX7_init 0 = .ok (.aload_n 0, 1) := by decide +kernel
theorem dX7_init_1 : decode cX7_init 1 = .ok (.invokespecial 1, 3) := by decide +kernel
theorem dX7_init_4 : decode cX7_init 4 = .ok (.aload_n 0, 1) := by decide +kernel
theorem dX7_init_5 : decode cX7_init 5 = .ok (.sipush 1196, 3) := by decide +kernel
theorem dX7_init_8 : decode cX7_init 8 = .ok (.newarray .int, 2) := by decide +kernel
theorem dX7_init_10 : decode cX7_init 10 = .ok (.putfield 7, 3) := by decide +kernel
theorem dX7_init_13 : decode cX7_init 13 = .ok (.aload_n 0, 1) := by decide +kernel
theorem dX7_init_14 : decode cX7_init 14 = .ok (.iconst 5, 1) := by decide +kernel
theorem dX7_init_15 : decode cX7_init 15 = .ok (.newarray .int, 2) := by decide +kernel
theorem dX7_init_17 : decode cX7_init 17 = .ok (.putfield 13, 3) := by decide +kernel
theorem dX7_init_20 : decode cX7_init 20 = .ok (.aload_n 0, 1) := by decide +kernel
theorem dX7_init_21 : decode cX7_init 21 = .ok (.iconst 5, 1) := by decide +kernel
theorem dX7_init_22 : decode cX7_init 22 = .ok (.newarray .int, 2) := by decide +kernel
theorem dX7_init_24 : decode cX7_init 24 = .ok (.putfield 16, 3) := by decide +kernel
theorem dX7_init_27 : decode cX7_init 27 = .ok (.aload_n 0, 1) := by decide +kernel
theorem dX7_init_28 : decode cX7_init 28 = .ok (.iconst 5, 1) := by decide +kernel
theorem dX7_init_29 : decode cX7_init 29 = .ok (.newarray .int, 2) := by decide +kernel
theorem dX7_init_31 : decode cX7_init 31 = .ok (.putfield 19, 3) := by decide +kernel
theorem dX7_init_34 : decode cX7_init 34 = .ok (.aload_n 0, 1) := by decide +kernel
theorem dX7_init_35 : decode cX7_init 35 = .ok (.bipush 6, 2) := by decide +kernel
theorem dX7_init_37 : decode cX7_init 37 = .ok (.newarray .int, 2) := by decide +kernel
theorem dX7_init_39 : decode cX7_init 39 = .ok (.putfield 22, 3) := by decide +kernel
theorem dX7_init_42 : decode cX7_init 42 = .ok (.aload_n 0, 1) := by decide +kernel
theorem dX7_init_43 : decode cX7_init 43 = .ok (.bipush 6, 2) := by decide +kernel
theorem dX7_init_45 : decode cX7_init 45 = .ok (.newarray .int, 2) := by decide +kernel
theorem dX7_init_47 : decode cX7_init 47 = .ok (.putfield 25, 3) := by decide +kernel
theorem dX7_init_50 : decode cX7_init 50 = .ok (.aload_n 0, 1) := by decide +kernel
theorem dX7_init_51 : decode cX7_init 51 = .ok (.bipush 6, 2) := by decide +kernel
theorem dX7_init_53 : decode cX7_init 53 = .ok (.newarray .int, 2) := by decide +kernel
theorem dX7_init_55 : decode cX7_init 55 = .ok (.putfield 28, 3) := by decide +kernel
theorem dX7_init_58 : decode cX7_init 58 = .ok (.aload_n 0, 1) := by decide +kernel
theorem dX7_init_59 : decode cX7_init 59 = .ok (.sipush 200, 3) := by decide +kernel
theorem dX7_init_62 : decode cX7_init 62 = .ok (.newarray .int, 2) := by decide +kernel
theorem dX7_init_64 : decode cX7_init 64 = .ok (.putfield 31, 3) := by decide +kernel
theorem dX7_init_67 : decode cX7_init 67 = .ok (.aload_n 0, 1) := by decide +kernel
theorem dX7_init_68 : decode cX7_init 68 = .ok (.bipush 15, 2) := by decide +kernel
theorem dX7_init_70 : decode cX7_init 70 = .ok (.newarray .int, 2) := by decide +kernel
theorem dX7_init_72 : decode cX7_init 72 = .ok (.putfield 34, 3) := by decide +kernel
theorem dX7_init_75 : decode cX7_init 75 = .ok (.aload_n 0, 1) := by decide +kernel
theorem dX7_init_76 : decode cX7_init 76 = .ok (.bipush 25, 2) := by decide +kernel
theorem dX7_init_78 : decode cX7_init 78 = .ok (.newarray .int, 2) := by decide +kernel
theorem dX7_init_80 : decode cX7_init 80 = .ok (.putfield 37, 3) := by decide +kernel
theorem dX7_init_83 : decode cX7_init 83 = .ok (.aload_n 0, 1) := by decide +kernel
theorem dX7_init_84 : decode cX7_init 84 = .ok (.bipush 16, 2) := by decide +kernel
theorem dX7_init_86 : decode cX7_init 86 = .ok (.newarray .int, 2) := by decide +kernel
theorem dX7_init_88 : decode cX7_init 88 = .ok (.putfield 40, 3) := by decide +kernel
theorem dX7_init_91 : decode cX7_init 91 = .ok (.aload_n 0, 1) := by decide +kernel
theorem dX7_init_92 : decode cX7_init 92 = .ok (.bipush 16, 2) := by decide +kernel
theorem dX7_init_94 : decode cX7_init 94 = .ok (.newarray .int, 2) := by decide +kernel
theorem dX7_init_96 : decode cX7_init 96 = .ok (.putfield 43, 3) := by decide +kernel
theorem dX7_init_99 : decode cX7_init 99 = .ok (.aload_n 0, 1) := by decide +kernel
theorem dX7_init_100 : decode cX7_init 100 = .ok (.bipush 11, 2) := by decide +kernel
theorem dX7_init_102 : decode cX7_init 102 = .ok (.newarray .int, 2) := by decide +kernel
theorem dX7_init_104 : decode cX7_init 104 = .ok (.putfield 46, 3) := by decide +kernel
theorem dX7_init_107 : decode cX7_init 107 = .ok (.aload_n 0, 1) := by decide +kernel
theorem dX7_init_108 : decode cX7_init 108 = .ok (.bipush 11, 2) := by decide +kernel
theorem dX7_init_110 : decode cX7_init 110 = .ok (.newarray .int, 2) := by decide +kernel
theorem dX7_init_112 : decode cX7_init 112 = .ok (.putfield 49, 3) := by decide +kernel
theorem dX7_init_115 : decode cX7_init 115 = .ok (.aload_n 0, 1) := by decide +kernel
theorem dX7_init_116 : decode cX7_init 116 = .ok (.bipush 10, 2) := by decide +kernel
theorem dX7_init_118 : decode cX7_init 118 = .ok (.newarray .int, 2) := by decide +kernel
theorem dX7_init_120 : decode cX7_init 120 = .ok (.putfield 52, 3) := by decide +kernel
theorem dX7_init_123 : decode cX7_init 123 = .ok (.aload_n 0, 1) := by decide +kernel
theorem dX7_init_124 : decode cX7_init 124 = .ok (.invokevirtual 55, 3) := by decide +kernel
theorem dX7_init_127 : decode cX7_init 127 = .ok (.aload_n 0, 1) := by decide +kernel
theorem dX7_init_128 : decode cX7_init 128 = .ok (.iconst 0, 1) := by decide +kernel
theorem dX7_init_129 : decode cX7_init 129 = .ok (.bipush 12, 2) := by decide +kernel
theorem dX7_init_131 : decode cX7_init 131 = .ok (.iconst 1, 1) := by decide +kernel
theorem dX7_init_132 : decode cX7_init 132 = .ok (.invokevirtual 58, 3) := by decide +kernel
theorem dX7_init_135 : decode cX7_init 135 = .ok (.aload_n 0, 1) := by decide +kernel
theorem dX7_init_136 : decode cX7_init 136 = .ok (.iconst 1, 1) := by decide +kernel
theorem dX7_init_137 : decode cX7_init 137 = .ok (.bipush 20, 2) := by decide +kernel
theorem dX7_init_139 : decode cX7_init 139 = .ok (.iconst 0, 1) := by decide +kernel
theorem dX7_init_140 : decode cX7_init 140 = .ok (.invokevirtual 58, 3) := by decide +kernel
theorem dX7_init_143 : decode cX7_init 143 = .ok (.aload_n 0, 1) := by decide +kernel
theorem dX7_init_144 : decode cX7_init 144 = .ok (.iconst 2, 1) := by decide +kernel
theorem dX7_init_145 : decode cX7_init 145 = .ok (.bipush 8, 2) := by decide +kernel
theorem dX7_init_147 : decode cX7_init 147 = .ok (.iconst 3, 1) := by decide +kernel
theorem dX7_init_148 : decode cX7_init 148 = .ok (.invokevirtual 58, 3) := by decide +kernel
theorem dX7_init_151 : decode cX7_init 151 = .ok (.aload_n 0, 1) := by decide +kernel
theorem dX7_init_152 : decode cX7_init 152 = .ok (.iconst 3, 1) := by decide +kernel
theorem dX7_init_153 : decode cX7_init 153 = .ok (.bipush 15, 2) := by decide +kernel
theorem dX7_init_155 : decode cX7_init 155 = .ok (.iconst 2, 1) := by decide +kernel
theorem dX7_init_156 : decode cX7_init 156 = .ok (.invokevirtual 58, 3) := by decide +kernel
theorem dX7_init_159 : decode cX7_init 159 = .ok (.aload_n 0, 1) := by decide +kernel
theorem dX7_init_160 : decode cX7_init 160 = .ok (.iconst 0, 1) := by decide +kernel
theorem dX7_init_161 : decode cX7_init 161 = .ok (.bipush 30, 2) := by decide +kernel
theorem dX7_init_163 : decode cX7_init 163 = .ok (.iconst 4, 1) := by decide +kernel
theorem dX7_init_164 : decode cX7_init 164 = .ok (.invokevirtual 58, 3) := by decide +kernel
theorem dX7_init_167 : decode cX7_init 167 = .ok (.aload_n 0, 1) := by decide +kernel
theorem dX7_init_168 : decode cX7_init 168 = .ok (.getfield 37, 3) := by decide +kernel
theorem dX7_init_171 : decode cX7_init 171 = .ok (.iconst 1, 1) := by decide +kernel
theorem dX7_init_172 : decode cX7_init 172 = .ok (.bipush 9, 2) := by decide +kernel
theorem dX7_init_174 : decode cX7_init 174 = .ok (.iastore, 1) := by decide +kernel
theorem dX7_init_175 : decode cX7_init 175 = .ok (.aload_n 0, 1) := by decide +kernel
theorem dX7_init_176 : decode cX7_init 176 = .ok (.getfield 37, 3) := by decide +kernel
theorem dX7_init_179 : decode cX7_init 179 = .ok (.bipush 9, 2) := by decide +kernel
theorem dX7_init_181 : decode cX7_init 181 = .ok (.bipush 12, 2) := by decide +kernel
theorem dX7_init_183 : decode cX7_init 183 = .ok (.iastore, 1) := by decide +kernel
theorem dX7_init_184 : decode cX7_init 184 = .ok (.aload_n 0, 1) := by decide +kernel
theorem dX7_init_185 : decode cX7_init 185 = .ok (.getfield 37, 3) := by decide +kernel
theorem dX7_init_188 : decode cX7_init 188 = .ok (.bipush 22, 2) := by decide +kernel
theorem dX7_init_190 : decode cX7_init 190 = .ok (.iconst 5, 1) := by decide +kernel
theorem dX7_init_191 : decode cX7_init 191 = .ok (.iastore, 1) := by decide +kernel
theorem dX7_init_192 : decode cX7_init 192 = .ok (.aload_n 0, 1) := by decide +kernel
theorem dX7_init_193 : decode cX7_init 193 = .ok (.getfield 37, 3) := by decide +kernel
theorem dX7_init_196 : decode cX7_init 196 = .ok (.bipush 19, 2) := by decide +kernel
theorem dX7_init_198 : decode cX7_init 198 = .ok (.bipush 10, 2) := by decide +kernel
theorem dX7_init_200 : decode cX7_init 200 = .ok (.iastore, 1) := by decide +kernel
theorem dX7_init_201 : decode cX7_init 201 = .ok (.aload_n 0, 1) := by decide +kernel
theorem dX7_init_202 : decode cX7_init 202 = .ok (.getfield 37, 3) := by decide +kernel
theorem dX7_init_205 : decode cX7_init 205 = .ok (.bipush 10, 2) := by decide +kernel
theorem dX7_init_207 : decode cX7_init 207 = .ok (.bipush 6, 2) := by decide +kernel
theorem dX7_init_209 : decode cX7_init 209 = .ok (.iastore, 1) := by decide +kernel
theorem dX7_init_210 : decode cX7_init 210 = .ok (.aload_n 0, 1) := by decide +kernel
theorem dX7_init_211 : decode cX7_init 211 = .ok (.iconst 4, 1) := by decide +kernel
theorem dX7_init_212 : decode cX7_init 212 = .ok (.putfield 62, 3) := by decide +kernel
theorem dX7_init_215 : decode cX7_init 215 = .ok (.aload_n 0, 1) := by decide +kernel
theorem dX7_init_216 : decode cX7_init 216 = .ok (.invokevirtual 66, 3) := by decide +kernel
theorem dX7_init_219 : decode cX7_init 219 = .ok (.return_, 1) := by decide +kernel
theorem dX7_in_0 : decode cX7_in 0 = .ok (.lload_n 0, 1) := by decide +kernel
theorem dX7_in_1 : decode cX7_in 1 = .ok (.lload_n 2, 1) := by decide +kernel
theorem dX7_in_2 : decode cX7_in 2 = .ok (.lcmp, 1) := by decide +kernel
theorem dX7_in_3 : decode cX7_in 3 = .ok (.ifCond .lt 14, 3) := by decide +kernel
theorem dX7_in_6 : decode cX7_in 6 = .ok (.lload_n 0, 1) := by decide +kernel
theorem dX7_in_7 : decode cX7_in 7 = .ok (.lload 4, 2) := by decide +kernel
theorem dX7_in_9 : decode cX7_in 9 = .ok (.lcmp, 1) := by decide +kernel
theorem dX7_in_10 : decode cX7_in 10 = .ok (.ifCond .gt 7, 3) := by decide +kernel
theorem dX7_in_13 : decode cX7_in 13 = .ok (.iconst 1, 1) := by decide +kernel
theorem dX7_in_14 : decode cX7_in 14 = .ok (.goto 4, 3) := by decide +kernel
theorem dX7_in_17 : decode cX7_in 17 = .ok (.iconst 0, 1) := by decide +kernel
theorem dX7_in_18 : decode cX7_in 18 = .ok (.ireturn, 1) := by decide +kernel
theorem dX7_has_0 : decode cX7_has 0 = .ok (.iload_n 0, 1) := by decide +kernel
theorem dX7_has_1 : decode cX7_has 1 = .ok (.iload_n 1, 1) := by decide +kernel
theorem dX7_has_2 : decode cX7_has 2 = .ok (.ishr, 1) := by decide +kernel
theorem dX7_has_3 : decode cX7_has 3 = .ok (.iconst 1, 1) := by decide +kernel
theorem dX7_has_4 : decode cX7_has 4 = .ok (.iand, 1) := by decide +kernel
theorem dX7_has_5 : decode cX7_has 5 = .ok (.iconst 1, 1) := by decide +kernel
theorem dX7_has_6 : decode cX7_has 6 = .ok (.if_icmp .ne 7, 3) := by decide +kernel
theorem dX7_has_9 : decode cX7_has 9 = .ok (.iconst 1, 1) := by decide +kernel
theorem dX7_has_10 : decode cX7_has 10 = .ok (.goto 4, 3) := by decide +kernel
theorem dX7_has_13 : decode cX7_has 13 = .ok (.iconst 0, 1) := by decide +kernel
theorem dX7_has_14 : decode cX7_has 14 = .ok (.ireturn, 1) := by decide +kernel
theorem dX7_ones_0 : decode cX7_ones 0 = .ok (.iconst 0, 1) := by decide +kernel
theorem dX7_ones_1 : decode cX7_ones 1 = .ok (.istore_n 1, 1) := by decide +kernel
theorem dX7_ones_2 : decode cX7_ones 2 = .ok (.iconst 0, 1) := by decide +kernel
theorem dX7_ones_3 : decode cX7_ones 3 = .ok (.istore_n 2, 1) := by decide +kernel
theorem dX7_ones_4 : decode cX7_ones 4 = .ok (.iload_n 2, 1) := by decide +kernel
theorem dX7_ones_5 : decode cX7_ones 5 = .ok (.iconst 5, 1) := by decide +kernel
theorem dX7_ones_6 : decode cX7_ones 6 = .ok (.if_icmp .ge 17, 3) := by decide +kernel
theorem dX7_ones_9 : decode cX7_ones 9 = .ok (.iload_n 1, 1) := by decide +kernel
theorem dX7_ones_10 : decode cX7_ones 10 = .ok (.iload_n 0, 1) := by decide +kernel
theorem dX7_ones_11 : decode cX7_ones 11 = .ok (.iload_n 2, 1) := by decide +kernel
theorem dX7_ones_12 : decode cX7_ones 12 = .ok (.ishr, 1) := by decide +kernel
theorem dX7_ones_13 : decode cX7_ones 13 = .ok (.iconst 1, 1) := by decide +kernel
theorem dX7_ones_14 : decode cX7_ones 14 = .ok (.iand, 1) := by decide +kernel
theorem dX7_ones_15 : decode cX7_ones 15 = .ok (.iadd, 1) := by decide +kernel
theorem dX7_ones_16 : decode cX7_ones 16 = .ok (.istore_n 1, 1) := by decide +kernel
theorem dX7_ones_17 : decode cX7_ones 17 = .ok (.iinc 2 1, 3) := by decide +kernel
theorem dX7_ones_20 : decode cX7_ones 20 = .ok (.goto (-16), 3) := by decide +kernel
theorem dX7_ones_23 : decode cX7_ones 23 = .ok (.iload_n 1, 1) := by decide +kernel
theorem dX7_ones_24 : decode cX7_ones 24 = .ok (.ireturn, 1) := by decide +kernel
theorem dX7_copy_0 : decode cX7_copy 0 = .ok (.iconst 0, 1) := by decide +kernel
theorem dX7_copy_1 : decode cX7_copy 1 = .ok (.istore_n 3, 1) := by decide +kernel
theorem dX7_copy_2 : decode cX7_copy 2 = .ok (.iload_n 3, 1) := by decide +kernel
theorem dX7_copy_3 : decode cX7_copy 3 = .ok (.bipush 52, 2) := by decide +kernel
theorem dX7_copy_5 : decode cX7_copy 5 = .ok (.if_icmp .ge 25, 3) := by decide +kernel
theorem dX7_copy_8 : decode cX7_copy 8 = .ok (.aload_n 0, 1) := by decide +kernel
theorem dX7_copy_9 : decode cX7_copy 9 = .ok (.getfield 7, 3) := by decide +kernel
theorem dX7_copy_12 : decode cX7_copy 12 = .ok (.iload_n 2, 1) := by decide +kernel
theorem dX7_copy_13 : decode cX7_copy 13 = .ok (.iload_n 3, 1) := by decide +kernel
theorem dX7_copy_14 : decode cX7_copy 14 = .ok (.iadd, 1) := by decide +kernel
theorem dX7_copy_15 : decode cX7_copy 15 = .ok (.aload_n 0, 1) := by decide +kernel
theorem dX7_copy_16 : decode cX7_copy 16 = .ok (.getfield 7, 3) := by decide +kernel
theorem dX7_copy_19 : decode cX7_copy 19 = .ok (.iload_n 1, 1) := by decide +kernel
theorem dX7_copy_20 : decode cX7_copy 20 = .ok (.iload_n 3, 1) := by decide +kernel
theorem dX7_copy_21 : decode cX7_copy 21 = .ok (.iadd, 1) := by decide +kernel
theorem dX7_copy_22 : decode cX7_copy 22 = .ok (.iaload, 1) := by decide +kernel
theorem dX7_copy_23 : decode cX7_copy 23 = .ok (.iastore, 1) := by decide +kernel
theorem dX7_copy_24 : decode cX7_copy 24 = .ok (.iinc 3 1, 3) := by decide +kernel
theorem dX7_copy_27 : decode cX7_copy 27 = .ok (.goto (-25), 3) := by decide +kernel
theorem dX7_copy_30 : decode cX7_copy 30 = .ok (.return_, 1) := by decide +kernel
theorem dX7_isWall_0 : decode cX7_isWall 0 = .ok (.iload_n 1, 1) := by decide +kernel
theorem dX7_isWall_1 : decode cX7_isWall 1 = .ok (.i2l, 1) := by decide +kernel
theorem dX7_isWall_2 : decode cX7_isWall 2 = .ok (.lconst 0, 1) := by decide +kernel
theorem dX7_isWall_3 : decode cX7_isWall 3 = .ok (.aload_n 0, 1) := by decide +kernel
theorem dX7_isWall_4 : decode cX7_isWall 4 = .ok (.getfield 69, 3) := by decide +kernel
theorem dX7_isWall_7 : decode cX7_isWall 7 = .ok (.iconst 1, 1) := by decide +kernel
theorem dX7_isWall_8 : decode cX7_isWall 8 = .ok (.isub, 1) := by decide +kernel
theorem dX7_isWall_9 : decode cX7_isWall 9 = .ok (.i2l, 1) := by decide +kernel
theorem dX7_isWall_10 : decode cX7_isWall 10 = .ok (.invokestatic 72, 3) := by decide +kernel
theorem dX7_isWall_13 : decode cX7_isWall 13 = .ok (.ireturn, 1) := by decide +kernel
theorem dX7_starts_0 : decode cX7_starts 0 = .ok (.aload_n 0, 1) := by decide +kernel
theorem dX7_starts_1 : decode cX7_starts 1 = .ok (.iconst 0, 1) := by decide +kernel
theorem dX7_starts_2 : decode cX7_starts 2 = .ok (.putfield 76, 3) := by decide +kernel
theorem dX7_starts_5 : decode cX7_starts 5 = .ok (.aload_n 0, 1) := by decide +kernel
theorem dX7_starts_6 : decode cX7_starts 6 = .ok (.iconst 0, 1) := by decide +kernel
theorem dX7_starts_7 : decode cX7_starts 7 = .ok (.putfield 62, 3) := by decide +kernel
theorem dX7_starts_10 : decode cX7_starts 10 = .ok (.iconst 0, 1) := by decide +kernel
theorem dX7_starts_11 : decode cX7_starts 11 = .ok (.istore_n 1, 1) := by decide +kernel
theorem dX7_starts_12 : decode cX7_starts 12 = .ok (.iload_n 1, 1) := by decide +kernel
theorem dX7_starts_13 : decode cX7_starts 13 = .ok (.bipush 25, 2) := by decide +kernel
theorem dX7_starts_15 : decode cX7_starts 15 = .ok (.if_icmp .ge 16, 3) := by decide +kernel
theorem dX7_starts_18 : decode cX7_starts 18 = .ok (.aload_n 0, 1) := by decide +kernel
theorem dX7_starts_19 : decode cX7_starts 19 = .ok (.getfield 37, 3) := by decide +kernel
theorem dX7_starts_22 : decode cX7_starts 22 = .ok (.iload_n 1, 1) := by decide +kernel
theorem dX7_starts_23 : decode cX7_starts 23 = .ok (.iconst 0, 1) := by decide +kernel
theorem dX7_starts_24 : decode cX7_starts 24 = .ok (.iastore, 1) := by decide +kernel
theorem dX7_starts_25 : decode cX7_starts 25 = .ok (.iinc 1 1, 3) := by decide +kernel
theorem dX7_starts_28 : decode cX7_starts 28 = .ok (.goto (-16), 3) := by decide +kernel
theorem dX7_starts_31 : decode cX7_starts 31 = .ok (.return_, 1) := by decide +kernel
theorem dX7_addsWall_0 : decode cX7_addsWall 0 = .ok (.aload_n 0, 1) := by decide +kernel
theorem dX7_addsWall_1 : decode cX7_addsWall 1 = .ok (.getfield 34, 3) := by decide +kernel
theorem dX7_addsWall_4 : decode cX7_addsWall 4 = .ok (.iconst 3, 1) := by decide +kernel
theorem dX7_addsWall_5 : decode cX7_addsWall 5 = .ok (.aload_n 0, 1) := by decide +kernel
theorem dX7_addsWall_6 : decode cX7_addsWall 6 = .ok (.getfield 76, 3) := by decide +kernel
theorem dX7_addsWall_9 : decode cX7_addsWall 9 = .ok (.imul, 1) := by decide +kernel
theorem dX7_addsWall_10 : decode cX7_addsWall 10 = .ok (.iload_n 1, 1) := by decide +kernel
theorem dX7_addsWall_11 : decode cX7_addsWall 11 = .ok (.iastore, 1) := by decide +kernel
theorem dX7_addsWall_12 : decode cX7_addsWall 12 = .ok (.aload_n 0, 1) := by decide +kernel
theorem dX7_addsWall_13 : decode cX7_addsWall 13 = .ok (.getfield 34, 3) := by decide +kernel
theorem dX7_addsWall_16 : decode cX7_addsWall 16 = .ok (.iconst 3, 1) := by decide +kernel
theorem dX7_addsWall_17 : decode cX7_addsWall 17 = .ok (.aload_n 0, 1) := by decide +kernel
theorem dX7_addsWall_18 : decode cX7_addsWall 18 = .ok (.getfield 76, 3) := by decide +kernel
theorem dX7_addsWall_21 : decode cX7_addsWall 21 = .ok (.imul, 1) := by decide +kernel
theorem dX7_addsWall_22 : decode cX7_addsWall 22 = .ok (.iconst 1, 1) := by decide +kernel
theorem dX7_addsWall_23 : decode cX7_addsWall 23 = .ok (.iadd, 1) := by decide +kernel
theorem dX7_addsWall_24 : decode cX7_addsWall 24 = .ok (.iload_n 2, 1) := by decide +kernel
theorem dX7_addsWall_25 : decode cX7_addsWall 25 = .ok (.iastore, 1) := by decide +kernel
theorem dX7_addsWall_26 : decode cX7_addsWall 26 = .ok (.aload_n 0, 1) := by decide +kernel
theorem dX7_addsWall_27 : decode cX7_addsWall 27 = .ok (.getfield 34, 3) := by decide +kernel
theorem dX7_addsWall_30 : decode cX7_addsWall 30 = .ok (.iconst 3, 1) := by decide +kernel
theorem dX7_addsWall_31 : decode cX7_addsWall 31 = .ok (.aload_n 0, 1) := by decide +kernel
theorem dX7_addsWall_32 : decode cX7_addsWall 32 = .ok (.getfield 76, 3) := by decide +kernel
theorem dX7_addsWall_35 : decode cX7_addsWall 35 = .ok (.imul, 1) := by decide +kernel
theorem dX7_addsWall_36 : decode cX7_addsWall 36 = .ok (.iconst 2, 1) := by decide +kernel
theorem dX7_addsWall_37 : decode cX7_addsWall 37 = .ok (.iadd, 1) := by decide +kernel
theorem dX7_addsWall_38 : decode cX7_addsWall 38 = .ok (.iload_n 3, 1) := by decide +kernel
theorem dX7_addsWall_39 : decode cX7_addsWall 39 = .ok (.iastore, 1) := by decide +kernel
theorem dX7_addsWall_40 : decode cX7_addsWall 40 = .ok (.aload_n 0, 1) := by decide +kernel
theorem dX7_addsWall_41 : decode cX7_addsWall 41 = .ok (.dup, 1) := by decide +kernel
theorem dX7_addsWall_42 : decode cX7_addsWall 42 = .ok (.getfield 76, 3) := by decide +kernel
theorem dX7_addsWall_45 : decode cX7_addsWall 45 = .ok (.iconst 1, 1) := by decide +kernel
theorem dX7_addsWall_46 : decode cX7_addsWall 46 = .ok (.iadd, 1) := by decide +kernel
theorem dX7_addsWall_47 : decode cX7_addsWall 47 = .ok (.putfield 76, 3) := by decide +kernel
theorem dX7_addsWall_50 : decode cX7_addsWall 50 = .ok (.return_, 1) := by decide +kernel
theorem dX7_begins_0 : decode cX7_begins 0 = .ok (.aload_n 0, 1) := by decide +kernel
theorem dX7_begins_1 : decode cX7_begins 1 = .ok (.aload_n 0, 1) := by decide +kernel
theorem dX7_begins_2 : decode cX7_begins 2 = .ok (.getfield 76, 3) := by decide +kernel
theorem dX7_begins_5 : decode cX7_begins 5 = .ok (.putfield 69, 3) := by decide +kernel
theorem dX7_begins_8 : decode cX7_begins 8 = .ok (.iconst 0, 1) := by decide +kernel
theorem dX7_begins_9 : decode cX7_begins 9 = .ok (.istore_n 1, 1) := by decide +kernel
theorem dX7_begins_10 : decode cX7_begins 10 = .ok (.iload_n 1, 1) := by decide +kernel
theorem dX7_begins_11 : decode cX7_begins 11 = .ok (.bipush 52, 2) := by decide +kernel
theorem dX7_begins_13 : decode cX7_begins 13 = .ok (.if_icmp .ge 16, 3) := by decide +kernel
theorem dX7_begins_16 : decode cX7_begins 16 = .ok (.aload_n 0, 1) := by decide +kernel
theorem dX7_begins_17 : decode cX7_begins 17 = .ok (.getfield 7, 3) := by decide +kernel
theorem dX7_begins_20 : decode cX7_begins 20 = .ok (.iload_n 1, 1) := by decide +kernel
theorem dX7_begins_21 : decode cX7_begins 21 = .ok (.iconst 0, 1) := by decide +kernel
theorem dX7_begins_22 : decode cX7_begins 22 = .ok (.iastore, 1) := by decide +kernel
theorem dX7_begins_23 : decode cX7_begins 23 = .ok (.iinc 1 1, 3) := by decide +kernel
theorem dX7_begins_26 : decode cX7_begins 26 = .ok (.goto (-16), 3) := by decide +kernel
theorem dX7_begins_29 : decode cX7_begins 29 = .ok (.iconst 0, 1) := by decide +kernel
theorem dX7_begins_30 : decode cX7_begins 30 = .ok (.istore_n 1, 1) := by decide +kernel
theorem dX7_begins_31 : decode cX7_begins 31 = .ok (.iload_n 1, 1) := by decide +kernel
theorem dX7_begins_32 : decode cX7_begins 32 = .ok (.aload_n 0, 1) := by decide +kernel
theorem dX7_begins_33 : decode cX7_begins 33 = .ok (.getfield 69, 3) := by decide +kernel
theorem dX7_begins_36 : decode cX7_begins 36 = .ok (.if_icmp .ge 69, 3) := by decide +kernel
theorem dX7_begins_39 : decode cX7_begins 39 = .ok (.aload_n 0, 1) := by decide +kernel
theorem dX7_begins_40 : decode cX7_begins 40 = .ok (.getfield 13, 3) := by decide +kernel
theorem dX7_begins_43 : decode cX7_begins 43 = .ok (.iload_n 1, 1) := by decide +kernel
theorem dX7_begins_44 : decode cX7_begins 44 = .ok (.aload_n 0, 1) := by decide +kernel
theorem dX7_begins_45 : decode cX7_begins 45 = .ok (.getfield 34, 3) := by decide +kernel
theorem dX7_begins_48 : decode cX7_begins 48 = .ok (.iconst 3, 1) := by decide +kernel
theorem dX7_begins_49 : decode cX7_begins 49 = .ok (.iload_n 1, 1) := by decide +kernel
theorem dX7_begins_50 : decode cX7_begins 50 = .ok (.imul, 1) := by decide +kernel
theorem dX7_begins_51 : decode cX7_begins 51 = .ok (.iaload, 1) := by decide +kernel
theorem dX7_begins_52 : decode cX7_begins 52 = .ok (.iastore, 1) := by decide +kernel
theorem dX7_begins_53 : decode cX7_begins 53 = .ok (.aload_n 0, 1) := by decide +kernel
theorem dX7_begins_54 : decode cX7_begins 54 = .ok (.getfield 16, 3) := by decide +kernel
theorem dX7_begins_57 : decode cX7_begins 57 = .ok (.iload_n 1, 1) := by decide +kernel
theorem dX7_begins_58 : decode cX7_begins 58 = .ok (.aload_n 0, 1) := by decide +kernel
theorem dX7_begins_59 : decode cX7_begins 59 = .ok (.getfield 34, 3) := by decide +kernel
theorem dX7_begins_62 : decode cX7_begins 62 = .ok (.iconst 3, 1) := by decide +kernel
theorem dX7_begins_63 : decode cX7_begins 63 = .ok (.iload_n 1, 1) := by decide +kernel
theorem dX7_begins_64 : decode cX7_begins 64 = .ok (.imul, 1) := by decide +kernel
theorem dX7_begins_65 : decode cX7_begins 65 = .ok (.iconst 1, 1) := by decide +kernel
theorem dX7_begins_66 : decode cX7_begins 66 = .ok (.iadd, 1) := by decide +kernel
theorem dX7_begins_67 : decode cX7_begins 67 = .ok (.iaload, 1) := by decide +kernel
theorem dX7_begins_68 : decode cX7_begins 68 = .ok (.iastore, 1) := by decide +kernel
theorem dX7_begins_69 : decode cX7_begins 69 = .ok (.aload_n 0, 1) := by decide +kernel
theorem dX7_begins_70 : decode cX7_begins 70 = .ok (.getfield 19, 3) := by decide +kernel
theorem dX7_begins_73 : decode cX7_begins 73 = .ok (.iload_n 1, 1) := by decide +kernel
theorem dX7_begins_74 : decode cX7_begins 74 = .ok (.aload_n 0, 1) := by decide +kernel
theorem dX7_begins_75 : decode cX7_begins 75 = .ok (.getfield 34, 3) := by decide +kernel
theorem dX7_begins_78 : decode cX7_begins 78 = .ok (.iconst 3, 1) := by decide +kernel
theorem dX7_begins_79 : decode cX7_begins 79 = .ok (.iload_n 1, 1) := by decide +kernel
theorem dX7_begins_80 : decode cX7_begins 80 = .ok (.imul, 1) := by decide +kernel
theorem dX7_begins_81 : decode cX7_begins 81 = .ok (.iconst 2, 1) := by decide +kernel
theorem dX7_begins_82 : decode cX7_begins 82 = .ok (.iadd, 1) := by decide +kernel
theorem dX7_begins_83 : decode cX7_begins 83 = .ok (.iaload, 1) := by decide +kernel
theorem dX7_begins_84 : decode cX7_begins 84 = .ok (.iastore, 1) := by decide +kernel
theorem dX7_begins_85 : decode cX7_begins 85 = .ok (.aload_n 0, 1) := by decide +kernel
theorem dX7_begins_86 : decode cX7_begins 86 = .ok (.getfield 7, 3) := by decide +kernel
theorem dX7_begins_89 : decode cX7_begins 89 = .ok (.iconst 2, 1) := by decide +kernel
theorem dX7_begins_90 : decode cX7_begins 90 = .ok (.iload_n 1, 1) := by decide +kernel
theorem dX7_begins_91 : decode cX7_begins 91 = .ok (.iadd, 1) := by decide +kernel
theorem dX7_begins_92 : decode cX7_begins 92 = .ok (.aload_n 0, 1) := by decide +kernel
theorem dX7_begins_93 : decode cX7_begins 93 = .ok (.getfield 16, 3) := by decide +kernel
theorem dX7_begins_96 : decode cX7_begins 96 = .ok (.iload_n 1, 1) := by decide +kernel
theorem dX7_begins_97 : decode cX7_begins 97 = .ok (.iaload, 1) := by decide +kernel
theorem dX7_begins_98 : decode cX7_begins 98 = .ok (.iastore, 1) := by decide +kernel
theorem dX7_begins_99 : decode cX7_begins 99 = .ok (.iinc 1 1, 3) := by decide +kernel
theorem dX7_begins_102 : decode cX7_begins 102 = .ok (.goto (-71), 3) := by decide +kernel
theorem dX7_begins_105 : decode cX7_begins 105 = .ok (.iconst 0, 1) := by decide +kernel
theorem dX7_begins_106 : decode cX7_begins 106 = .ok (.istore_n 1, 1) := by decide +kernel
theorem dX7_begins_107 : decode cX7_begins 107 = .ok (.iload_n 1, 1) := by decide +kernel
theorem dX7_begins_108 : decode cX7_begins 108 = .ok (.bipush 25, 2) := by decide +kernel
theorem dX7_begins_110 : decode cX7_begins 110 = .ok (.if_icmp .ge 24, 3) := by decide +kernel
theorem dX7_begins_113 : decode cX7_begins 113 = .ok (.aload_n 0, 1) := by decide +kernel
theorem dX7_begins_114 : decode cX7_begins 114 = .ok (.getfield 7, 3) := by decide +kernel
theorem dX7_begins_117 : decode cX7_begins 117 = .ok (.bipush 27, 2) := by decide +kernel
theorem dX7_begins_119 : decode cX7_begins 119 = .ok (.iload_n 1, 1) := by decide +kernel
theorem dX7_begins_120 : decode cX7_begins 120 = .ok (.iadd, 1) := by decide +kernel
theorem dX7_begins_121 : decode cX7_begins 121 = .ok (.aload_n 0, 1) := by decide +kernel
theorem dX7_begins_122 : decode cX7_begins 122 = .ok (.getfield 37, 3) := by decide +kernel
theorem dX7_begins_125 : decode cX7_begins 125 = .ok (.iload_n 1, 1) := by decide +kernel
theorem dX7_begins_126 : decode cX7_begins 126 = .ok (.iaload, 1) := by decide +kernel
theorem dX7_begins_127 : decode cX7_begins 127 = .ok (.iastore, 1) := by decide +kernel
theorem dX7_begins_128 : decode cX7_begins 128 = .ok (.iinc 1 1, 3) := by decide +kernel
theorem dX7_begins_131 : decode cX7_begins 131 = .ok (.goto (-24), 3) := by decide +kernel
theorem dX7_begins_134 : decode cX7_begins 134 = .ok (.aload_n 0, 1) := by decide +kernel
theorem dX7_begins_135 : decode cX7_begins 135 = .ok (.getfield 7, 3) := by decide +kernel
theorem dX7_begins_138 : decode cX7_begins 138 = .ok (.iconst 0, 1) := by decide +kernel
theorem dX7_begins_139 : decode cX7_begins 139 = .ok (.aload_n 0, 1) := by decide +kernel
theorem dX7_begins_140 : decode cX7_begins 140 = .ok (.getfield 62, 3) := by decide +kernel
theorem dX7_begins_143 : decode cX7_begins 143 = .ok (.iastore, 1) := by decide +kernel
theorem dX7_begins_144 : decode cX7_begins 144 = .ok (.aload_n 0, 1) := by decide +kernel
theorem dX7_begins_145 : decode cX7_begins 145 = .ok (.iconst 0, 1) := by decide +kernel
theorem dX7_begins_146 : decode cX7_begins 146 = .ok (.putfield 79, 3) := by decide +kernel
theorem dX7_begins_149 : decode cX7_begins 149 = .ok (.aload_n 0, 1) := by decide +kernel
theorem dX7_begins_150 : decode cX7_begins 150 = .ok (.iconst 0, 1) := by decide +kernel
theorem dX7_begins_151 : decode cX7_begins 151 = .ok (.putfield 82, 3) := by decide +kernel
theorem dX7_begins_154 : decode cX7_begins 154 = .ok (.aload_n 0, 1) := by decide +kernel
theorem dX7_begins_155 : decode cX7_begins 155 = .ok (.iconst 0, 1) := by decide +kernel
theorem dX7_begins_156 : decode cX7_begins 156 = .ok (.putfield 85, 3) := by decide +kernel
theorem dX7_begins_159 : decode cX7_begins 159 = .ok (.return_, 1) := by decide +kernel
theorem dX7_write_0 : decode cX7_write 0 = .ok (.iload_n 1, 1) := by decide +kernel
theorem dX7_write_1 : decode cX7_write 1 = .ok (.i2l, 1) := by decide +kernel
theorem dX7_write_2 : decode cX7_write 2 = .ok (.ldc2_w 88, 3) := by decide +kernel
theorem dX7_write_5 : decode cX7_write 5 = .ok (.ldc2_w 90, 3) := by decide +kernel
theorem dX7_write_8 : decode cX7_write 8 = .ok (.invokestatic 72, 3) := by decide +kernel
theorem dX7_write_11 : decode cX7_write 11 = .ok (.ifCond .ne 5, 3) := by decide +kernel
theorem dX7_write_14 : decode cX7_write 14 = .ok (.iconst (-1), 1) := by decide +kernel
theorem dX7_write_15 : decode cX7_write 15 = .ok (.ireturn, 1) := by decide +kernel
theorem dX7_write_16 : decode cX7_write 16 = .ok (.aload_n 0, 1) := by decide +kernel
theorem dX7_write_17 : decode cX7_write 17 = .ok (.getfield 92, 3) := by decide +kernel
theorem dX7_write_20 : decode cX7_write 20 = .ok (.sipush 200, 3) := by decide +kernel
theorem dX7_write_23 : decode cX7_write 23 = .ok (.if_icmp .ne 6, 3) := by decide +kernel
theorem dX7_write_26 : decode cX7_write 26 = .ok (.bipush (-3), 2) := by decide +kernel
theorem dX7_write_28 : decode cX7_write 28 = .ok (.ireturn, 1) := by decide +kernel
theorem dX7_write_29 : decode cX7_write 29 = .ok (.aload_n 0, 1) := by decide +kernel
theorem dX7_write_30 : decode cX7_write 30 = .ok (.getfield 31, 3) := by decide +kernel
theorem dX7_write_33 : decode cX7_write 33 = .ok (.aload_n 0, 1) := by decide +kernel
theorem dX7_write_34 : decode cX7_write 34 = .ok (.getfield 92, 3) := by decide +kernel
theorem dX7_write_37 : decode cX7_write 37 = .ok (.iload_n 1, 1) := by decide +kernel
theorem dX7_write_38 : decode cX7_write 38 = .ok (.iastore, 1) := by decide +kernel
theorem dX7_write_39 : decode cX7_write 39 = .ok (.aload_n 0, 1) := by decide +kernel
theorem dX7_write_40 : decode cX7_write 40 = .ok (.dup, 1) := by decide +kernel
theorem dX7_write_41 : decode cX7_write 41 = .ok (.getfield 92, 3) := by decide +kernel
theorem dX7_write_44 : decode cX7_write 44 = .ok (.iconst 1, 1) := by decide +kernel
theorem dX7_write_45 : decode cX7_write 45 = .ok (.iadd, 1) := by decide +kernel
theorem dX7_write_46 : decode cX7_write 46 = .ok (.putfield 92, 3) := by decide +kernel
theorem dX7_write_49 : decode cX7_write 49 = .ok (.aload_n 0, 1) := by decide +kernel
theorem dX7_write_50 : decode cX7_write 50 = .ok (.getfield 92, 3) := by decide +kernel
theorem dX7_write_53 : decode cX7_write 53 = .ok (.ireturn, 1) := by decide +kernel
theorem dX7_wipe_0 : decode cX7_wipe 0 = .ok (.aload_n 0, 1) := by decide +kernel
theorem dX7_wipe_1 : decode cX7_wipe 1 = .ok (.getfield 92, 3) := by decide +kernel
theorem dX7_wipe_4 : decode cX7_wipe 4 = .ok (.istore_n 1, 1) := by decide +kernel
theorem dX7_wipe_5 : decode cX7_wipe 5 = .ok (.aload_n 0, 1) := by decide +kernel
theorem dX7_wipe_6 : decode cX7_wipe 6 = .ok (.iconst 0, 1) := by decide +kernel
theorem dX7_wipe_7 : decode cX7_wipe 7 = .ok (.putfield 92, 3) := by decide +kernel
theorem dX7_wipe_10 : decode cX7_wipe 10 = .ok (.iload_n 1, 1) := by decide +kernel
theorem dX7_wipe_11 : decode cX7_wipe 11 = .ok (.ireturn, 1) := by decide +kernel
theorem dX7_letterAt_0 : decode cX7_letterAt 0 = .ok (.iload_n 1, 1) := by decide +kernel
theorem dX7_letterAt_1 : decode cX7_letterAt 1 = .ok (.aload_n 0, 1) := by decide +kernel
theorem dX7_letterAt_2 : decode cX7_letterAt 2 = .ok (.getfield 92, 3) := by decide +kernel
theorem dX7_letterAt_5 : decode cX7_letterAt 5 = .ok (.if_icmp .ge 12, 3) := by decide +kernel
theorem dX7_letterAt_8 : decode cX7_letterAt 8 = .ok (.aload_n 0, 1) := by decide +kernel
theorem dX7_letterAt_9 : decode cX7_letterAt 9 = .ok (.getfield 31, 3) := by decide +kernel
theorem dX7_letterAt_12 : decode cX7_letterAt 12 = .ok (.iload_n 1, 1) := by decide +kernel
theorem dX7_letterAt_13 : decode cX7_letterAt 13 = .ok (.iaload, 1) := by decide +kernel
theorem dX7_letterAt_14 : decode cX7_letterAt 14 = .ok (.goto 4, 3) := by decide +kernel
theorem dX7_letterAt_17 : decode cX7_letterAt 17 = .ok (.iconst (-1), 1) := by decide +kernel
theorem dX7_letterAt_18 : decode cX7_letterAt 18 = .ok (.ireturn, 1) := by decide +kernel
theorem dX7_takesNumber_0 : decode cX7_takesNumber 0 = .ok (.aload_n 0, 1) := by decide +kernel
theorem dX7_takesNumber_1 : decode cX7_takesNumber 1 = .ok (.getfield 95, 3) := by decide +kernel
theorem dX7_takesNumber_4 : decode cX7_takesNumber 4 = .ok (.istore 4, 2) := by decide +kernel
theorem dX7_takesNumber_6 : decode cX7_takesNumber 6 = .ok (.aload_n 0, 1) := by decide +kernel
theorem dX7_takesNumber_7 : decode cX7_takesNumber 7 = .ok (.iconst 0, 1) := by decide +kernel
theorem dX7_takesNumber_8 : decode cX7_takesNumber 8 = .ok (.putfield 98, 3) := by decide +kernel
theorem dX7_takesNumber_11 : decode cX7_takesNumber 11 = .ok (.aload_n 0, 1) := by decide +kernel
theorem dX7_takesNumber_12 : decode cX7_takesNumber 12 = .ok (.getfield 95, 3) := by decide +kernel
theorem dX7_takesNumber_15 : decode cX7_takesNumber 15 = .ok (.iload 4, 2) := by decide +kernel
theorem dX7_takesNumber_17 : decode cX7_takesNumber 17 = .ok (.isub, 1) := by decide +kernel
theorem dX7_takesNumber_18 : decode cX7_takesNumber 18 = .ok (.iconst 2, 1) := by decide +kernel
theorem dX7_takesNumber_19 : decode cX7_takesNumber 19 = .ok (.if_icmp .ge 60, 3) := by decide +kernel
theorem dX7_takesNumber_22 : decode cX7_takesNumber 22 = .ok (.aload_n 0, 1) := by decide +kernel
theorem dX7_takesNumber_23 : decode cX7_takesNumber 23 = .ok (.aload_n 0, 1) := by decide +kernel
theorem dX7_takesNumber_24 : decode cX7_takesNumber 24 = .ok (.getfield 95, 3) := by decide +kernel
theorem dX7_takesNumber_27 : decode cX7_takesNumber 27 = .ok (.invokevirtual 101, 3) := by decide +kernel
theorem dX7_takesNumber_30 : decode cX7_takesNumber 30 = .ok (.i2l, 1) := by decide +kernel
theorem dX7_takesNumber_31 : decode cX7_takesNumber 31 = .ok (.ldc2_w 105, 3) := by decide +kernel
theorem dX7_takesNumber_34 : decode cX7_takesNumber 34 = .ok (.ldc2_w 107, 3) := by decide +kernel
theorem dX7_takesNumber_37 : decode cX7_takesNumber 37 = .ok (.invokestatic 72, 3) := by decide +kernel
theorem dX7_takesNumber_40 : decode cX7_takesNumber 40 = .ok (.ifCond .eq 39, 3) := by decide +kernel
theorem dX7_takesNumber_43 : decode cX7_takesNumber 43 = .ok (.aload_n 0, 1) := by decide +kernel
theorem dX7_takesNumber_44 : decode cX7_takesNumber 44 = .ok (.bipush 10, 2) := by decide +kernel
theorem dX7_takesNumber_46 : decode cX7_takesNumber 46 = .ok (.aload_n 0, 1) := by decide +kernel
theorem dX7_takesNumber_47 : decode cX7_takesNumber 47 = .ok (.getfield 98, 3) := by decide +kernel
theorem dX7_takesNumber_50 : decode cX7_takesNumber 50 = .ok (.imul, 1) := by decide +kernel
theorem dX7_takesNumber_51 : decode cX7_takesNumber 51 = .ok (.aload_n 0, 1) := by decide +kernel
theorem dX7_takesNumber_52 : decode cX7_takesNumber 52 = .ok (.aload_n 0, 1) := by decide +kernel
theorem dX7_takesNumber_53 : decode cX7_takesNumber 53 = .ok (.getfield 95, 3) := by decide +kernel
theorem dX7_takesNumber_56 : decode cX7_takesNumber 56 = .ok (.invokevirtual 101, 3) := by decide +kernel
theorem dX7_takesNumber_59 : decode cX7_takesNumber 59 = .ok (.iadd, 1) := by decide +kernel
theorem dX7_takesNumber_60 : decode cX7_takesNumber 60 = .ok (.bipush 48, 2) := by decide +kernel
theorem dX7_takesNumber_62 : decode cX7_takesNumber 62 = .ok (.isub, 1) := by decide +kernel
theorem dX7_takesNumber_63 : decode cX7_takesNumber 63 = .ok (.putfield 98, 3) := by decide +kernel
theorem dX7_takesNumber_66 : decode cX7_takesNumber 66 = .ok (.aload_n 0, 1) := by decide +kernel
theorem dX7_takesNumber_67 : decode cX7_takesNumber 67 = .ok (.dup, 1) := by decide +kernel
theorem dX7_takesNumber_68 : decode cX7_takesNumber 68 = .ok (.getfield 95, 3) := by decide +kernel
theorem dX7_takesNumber_71 : decode cX7_takesNumber 71 = .ok (.iconst 1, 1) := by decide +kernel
theorem dX7_takesNumber_72 : decode cX7_takesNumber 72 = .ok (.iadd, 1) := by decide +kernel
theorem dX7_takesNumber_73 : decode cX7_takesNumber 73 = .ok (.putfield 95, 3) := by decide +kernel
theorem dX7_takesNumber_76 : decode cX7_takesNumber 76 = .ok (.goto (-65), 3) := by decide +kernel
theorem dX7_takesNumber_79 : decode cX7_takesNumber 79 = .ok (.aload_n 0, 1) := by decide +kernel
theorem dX7_takesNumber_80 : decode cX7_takesNumber 80 = .ok (.getfield 95, 3) := by decide +kernel
theorem dX7_takesNumber_83 : decode cX7_takesNumber 83 = .ok (.iload 4, 2) := by decide +kernel
theorem dX7_takesNumber_85 : decode cX7_takesNumber 85 = .ok (.if_icmp .eq 30, 3) := by decide +kernel
theorem dX7_takesNumber_88 : decode cX7_takesNumber 88 = .ok (.aload_n 0, 1) := by decide +kernel
theorem dX7_takesNumber_89 : decode cX7_takesNumber 89 = .ok (.getfield 98, 3) := by decide +kernel
theorem dX7_takesNumber_92 : decode cX7_takesNumber 92 = .ok (.i2l, 1) := by decide +kernel
theorem dX7_takesNumber_93 : decode cX7_takesNumber 93 = .ok (.iload_n 1, 1) := by decide +kernel
theorem dX7_takesNumber_94 : decode cX7_takesNumber 94 = .ok (.i2l, 1) := by decide +kernel
theorem dX7_takesNumber_95 : decode cX7_takesNumber 95 = .ok (.iload_n 2, 1) := by decide +kernel
theorem dX7_takesNumber_96 : decode cX7_takesNumber 96 = .ok (.i2l, 1) := by decide +kernel
theorem dX7_takesNumber_97 : decode cX7_takesNumber 97 = .ok (.invokestatic 72, 3) := by decide +kernel
theorem dX7_takesNumber_100 : decode cX7_takesNumber 100 = .ok (.ifCond .eq 15, 3) := by decide +kernel
theorem dX7_takesNumber_103 : decode cX7_takesNumber 103 = .ok (.aload_n 0, 1) := by decide +kernel
theorem dX7_takesNumber_104 : decode cX7_takesNumber 104 = .ok (.aload_n 0, 1) := by decide +kernel
theorem dX7_takesNumber_105 : decode cX7_takesNumber 105 = .ok (.getfield 95, 3) := by decide +kernel
theorem dX7_takesNumber_108 : decode cX7_takesNumber 108 = .ok (.invokevirtual 101, 3) := by decide +kernel
theorem dX7_takesNumber_111 : decode cX7_takesNumber 111 = .ok (.iload_n 3, 1) := by decide +kernel
theorem dX7_takesNumber_112 : decode cX7_takesNumber 112 = .ok (.if_icmp .eq 5, 3) := by decide +kernel
theorem dX7_takesNumber_115 : decode cX7_takesNumber 115 = .ok (.iconst 0, 1) := by decide +kernel
theorem dX7_takesNumber_116 : decode cX7_takesNumber 116 = .ok (.ireturn, 1) := by decide +kernel
theorem dX7_takesNumber_117 : decode cX7_takesNumber 117 = .ok (.aload_n 0, 1) := by decide +kernel
theorem dX7_takesNumber_118 : decode cX7_takesNumber 118 = .ok (.dup, 1) := by decide +kernel
theorem dX7_takesNumber_119 : decode cX7_takesNumber 119 = .ok (.getfield 95, 3) := by decide +kernel
theorem dX7_takesNumber_122 : decode cX7_takesNumber 122 = .ok (.iconst 1, 1) := by decide +kernel
theorem dX7_takesNumber_123 : decode cX7_takesNumber 123 = .ok (.iadd, 1) := by decide +kernel
theorem dX7_takesNumber_124 : decode cX7_takesNumber 124 = .ok (.putfield 95, 3) := by decide +kernel
theorem dX7_takesNumber_127 : decode cX7_takesNumber 127 = .ok (.iconst 1, 1) := by decide +kernel
theorem dX7_takesNumber_128 : decode cX7_takesNumber 128 = .ok (.ireturn, 1) := by decide +kernel
theorem dX7_takesWall_0 : decode cX7_takesWall 0 = .ok (.aload_n 0, 1) := by decide +kernel
theorem dX7_takesWall_1 : decode cX7_takesWall 1 = .ok (.getfield 76, 3) := by decide +kernel
theorem dX7_takesWall_4 : decode cX7_takesWall 4 = .ok (.iconst 5, 1) := by decide +kernel
theorem dX7_takesWall_5 : decode cX7_takesWall 5 = .ok (.if_icmp .eq 14, 3) := by decide +kernel
theorem dX7_takesWall_8 : decode cX7_takesWall 8 = .ok (.aload_n 0, 1) := by decide +kernel
theorem dX7_takesWall_9 : decode cX7_takesWall 9 = .ok (.iconst 0, 1) := by decide +kernel
theorem dX7_takesWall_10 : decode cX7_takesWall 10 = .ok (.iconst 3, 1) := by decide +kernel
theorem dX7_takesWall_11 : decode cX7_takesWall 11 = .ok (.bipush 44, 2) := by decide +kernel
theorem dX7_takesWall_13 : decode cX7_takesWall 13 = .ok (.invokevirtual 109, 3) := by decide +kernel
theorem dX7_takesWall_16 : decode cX7_takesWall 16 = .ok (.ifCond .ne 5, 3) := by decide +kernel
theorem dX7_takesWall_19 : decode cX7_takesWall 19 = .ok (.iconst 0, 1) := by decide +kernel
theorem dX7_takesWall_20 : decode cX7_takesWall 20 = .ok (.ireturn, 1) := by decide +kernel
theorem dX7_takesWall_21 : decode cX7_takesWall 21 = .ok (.aload_n 0, 1) := by decide +kernel
theorem dX7_takesWall_22 : decode cX7_takesWall 22 = .ok (.getfield 98, 3) := by decide +kernel
theorem dX7_takesWall_25 : decode cX7_takesWall 25 = .ok (.istore_n 1, 1) := by decide +kernel
theorem dX7_takesWall_26 : decode cX7_takesWall 26 = .ok (.aload_n 0, 1) := by decide +kernel
theorem dX7_takesWall_27 : decode cX7_takesWall 27 = .ok (.iconst 1, 1) := by decide +kernel
theorem dX7_takesWall_28 : decode cX7_takesWall 28 = .ok (.bipush 60, 2) := by decide +kernel
theorem dX7_takesWall_30 : decode cX7_takesWall 30 = .ok (.bipush 44, 2) := by decide +kernel
theorem dX7_takesWall_32 : decode cX7_takesWall 32 = .ok (.invokevirtual 109, 3) := by decide +kernel
theorem dX7_takesWall_35 : decode cX7_takesWall 35 = .ok (.ifCond .ne 5, 3) := by decide +kernel
theorem dX7_takesWall_38 : decode cX7_takesWall 38 = .ok (.iconst 0, 1) := by decide +kernel
theorem dX7_takesWall_39 : decode cX7_takesWall 39 = .ok (.ireturn, 1) := by decide +kernel
theorem dX7_takesWall_40 : decode cX7_takesWall 40 = .ok (.aload_n 0, 1) := by decide +kernel
theorem dX7_takesWall_41 : decode cX7_takesWall 41 = .ok (.getfield 98, 3) := by decide +kernel
theorem dX7_takesWall_44 : decode cX7_takesWall 44 = .ok (.istore_n 2, 1) := by decide +kernel
theorem dX7_takesWall_45 : decode cX7_takesWall 45 = .ok (.aload_n 0, 1) := by decide +kernel
theorem dX7_takesWall_46 : decode cX7_takesWall 46 = .ok (.iconst 0, 1) := by decide +kernel
theorem dX7_takesWall_47 : decode cX7_takesWall 47 = .ok (.bipush 7, 2) := by decide +kernel
theorem dX7_takesWall_49 : decode cX7_takesWall 49 = .ok (.bipush 59, 2) := by decide +kernel
theorem dX7_takesWall_51 : decode cX7_takesWall 51 = .ok (.invokevirtual 109, 3) := by decide +kernel
theorem dX7_takesWall_54 : decode cX7_takesWall 54 = .ok (.ifCond .ne 5, 3) := by decide +kernel
theorem dX7_takesWall_57 : decode cX7_takesWall 57 = .ok (.iconst 0, 1) := by decide +kernel
theorem dX7_takesWall_58 : decode cX7_takesWall 58 = .ok (.ireturn, 1) := by decide +kernel
theorem dX7_takesWall_59 : decode cX7_takesWall 59 = .ok (.aload_n 0, 1) := by decide +kernel
theorem dX7_takesWall_60 : decode cX7_takesWall 60 = .ok (.iload_n 1, 1) := by decide +kernel
theorem dX7_takesWall_61 : decode cX7_takesWall 61 = .ok (.iload_n 2, 1) := by decide +kernel
theorem dX7_takesWall_62 : decode cX7_takesWall 62 = .ok (.aload_n 0, 1) := by decide +kernel
theorem dX7_takesWall_63 : decode cX7_takesWall 63 = .ok (.getfield 98, 3) := by decide +kernel
theorem dX7_takesWall_66 : decode cX7_takesWall 66 = .ok (.invokevirtual 58, 3) := by decide +kernel
theorem dX7_takesWall_69 : decode cX7_takesWall 69 = .ok (.iconst 1, 1) := by decide +kernel
theorem dX7_takesWall_70 : decode cX7_takesWall 70 = .ok (.ireturn, 1) := by decide +kernel
theorem dX7_takesProp_0 : decode cX7_takesProp 0 = .ok (.aload_n 0, 1) := by decide +kernel
theorem dX7_takesProp_1 : decode cX7_takesProp 1 = .ok (.iconst 0, 1) := by decide +kernel
theorem dX7_takesProp_2 : decode cX7_takesProp 2 = .ok (.aload_n 0, 1) := by decide +kernel
theorem dX7_takesProp_3 : decode cX7_takesProp 3 = .ok (.getfield 76, 3) := by decide +kernel
theorem dX7_takesProp_6 : decode cX7_takesProp 6 = .ok (.iconst 1, 1) := by decide +kernel
theorem dX7_takesProp_7 : decode cX7_takesProp 7 = .ok (.isub, 1) := by decide +kernel
theorem dX7_takesProp_8 : decode cX7_takesProp 8 = .ok (.bipush 44, 2) := by decide +kernel
theorem dX7_takesProp_10 : decode cX7_takesProp 10 = .ok (.invokevirtual 109, 3) := by decide +kernel
theorem dX7_takesProp_13 : decode cX7_takesProp 13 = .ok (.ifCond .ne 5, 3) := by decide +kernel
theorem dX7_takesProp_16 : decode cX7_takesProp 16 = .ok (.iconst 0, 1) := by decide +kernel
theorem dX7_takesProp_17 : decode cX7_takesProp 17 = .ok (.ireturn, 1) := by decide +kernel
theorem dX7_takesProp_18 : decode cX7_takesProp 18 = .ok (.aload_n 0, 1) := by decide +kernel
theorem dX7_takesProp_19 : decode cX7_takesProp 19 = .ok (.getfield 98, 3) := by decide +kernel
theorem dX7_takesProp_22 : decode cX7_takesProp 22 = .ok (.istore_n 1, 1) := by decide +kernel
theorem dX7_takesProp_23 : decode cX7_takesProp 23 = .ok (.aload_n 0, 1) := by decide +kernel
theorem dX7_takesProp_24 : decode cX7_takesProp 24 = .ok (.iconst 0, 1) := by decide +kernel
theorem dX7_takesProp_25 : decode cX7_takesProp 25 = .ok (.aload_n 0, 1) := by decide +kernel
theorem dX7_takesProp_26 : decode cX7_takesProp 26 = .ok (.getfield 76, 3) := by decide +kernel
theorem dX7_takesProp_29 : decode cX7_takesProp 29 = .ok (.iconst 1, 1) := by decide +kernel
theorem dX7_takesProp_30 : decode cX7_takesProp 30 = .ok (.isub, 1) := by decide +kernel
theorem dX7_takesProp_31 : decode cX7_takesProp 31 = .ok (.bipush 44, 2) := by decide +kernel
theorem dX7_takesProp_33 : decode cX7_takesProp 33 = .ok (.invokevirtual 109, 3) := by decide +kernel
theorem dX7_takesProp_36 : decode cX7_takesProp 36 = .ok (.ifCond .eq 11, 3) := by decide +kernel
theorem dX7_takesProp_39 : decode cX7_takesProp 39 = .ok (.aload_n 0, 1) := by decide +kernel
theorem dX7_takesProp_40 : decode cX7_takesProp 40 = .ok (.getfield 98, 3) := by decide +kernel
theorem dX7_takesProp_43 : decode cX7_takesProp 43 = .ok (.iload_n 1, 1) := by decide +kernel
theorem dX7_takesProp_44 : decode cX7_takesProp 44 = .ok (.if_icmp .ne 5, 3) := by decide +kernel
theorem dX7_takesProp_47 : decode cX7_takesProp 47 = .ok (.iconst 0, 1) := by decide +kernel
theorem dX7_takesProp_48 : decode cX7_takesProp 48 = .ok (.ireturn, 1) := by decide +kernel
theorem dX7_takesProp_49 : decode cX7_takesProp 49 = .ok (.aload_n 0, 1) := by decide +kernel
theorem dX7_takesProp_50 : decode cX7_takesProp 50 = .ok (.getfield 98, 3) := by decide +kernel
theorem dX7_takesProp_53 : decode cX7_takesProp 53 = .ok (.istore_n 2, 1) := by decide +kernel
theorem dX7_takesProp_54 : decode cX7_takesProp 54 = .ok (.aload_n 0, 1) := by decide +kernel
theorem dX7_takesProp_55 : decode cX7_takesProp 55 = .ok (.iconst 1, 1) := by decide +kernel
theorem dX7_takesProp_56 : decode cX7_takesProp 56 = .ok (.bipush 40, 2) := by decide +kernel
theorem dX7_takesProp_58 : decode cX7_takesProp 58 = .ok (.bipush 59, 2) := by decide +kernel
theorem dX7_takesProp_60 : decode cX7_takesProp 60 = .ok (.invokevirtual 109, 3) := by decide +kernel
theorem dX7_takesProp_63 : decode cX7_takesProp 63 = .ok (.ifCond .ne 5, 3) := by decide +kernel
theorem dX7_takesProp_66 : decode cX7_takesProp 66 = .ok (.iconst 0, 1) := by decide +kernel
theorem dX7_takesProp_67 : decode cX7_takesProp 67 = .ok (.ireturn, 1) := by decide +kernel
theorem dX7_takesProp_68 : decode cX7_takesProp 68 = .ok (.aload_n 0, 1) := by decide +kernel
theorem dX7_takesProp_69 : decode cX7_takesProp 69 = .ok (.getfield 37, 3) := by decide +kernel
theorem dX7_takesProp_72 : decode cX7_takesProp 72 = .ok (.iconst 5, 1) := by decide +kernel
theorem dX7_takesProp_73 : decode cX7_takesProp 73 = .ok (.iload_n 1, 1) := by decide +kernel
theorem dX7_takesProp_74 : decode cX7_takesProp 74 = .ok (.imul, 1) := by decide +kernel
theorem dX7_takesProp_75 : decode cX7_takesProp 75 = .ok (.iload_n 2, 1) := by decide +kernel
theorem dX7_takesProp_76 : decode cX7_takesProp 76 = .ok (.iadd, 1) := by decide +kernel
theorem dX7_takesProp_77 : decode cX7_takesProp 77 = .ok (.aload_n 0, 1) := by decide +kernel
theorem dX7_takesProp_78 : decode cX7_takesProp 78 = .ok (.getfield 98, 3) := by decide +kernel
theorem dX7_takesProp_81 : decode cX7_takesProp 81 = .ok (.iastore, 1) := by decide +kernel
theorem dX7_takesProp_82 : decode cX7_takesProp 82 = .ok (.iconst 1, 1) := by decide +kernel
theorem dX7_takesProp_83 : decode cX7_takesProp 83 = .ok (.ireturn, 1) := by decide +kernel
theorem dX7_takesStones_0 : decode cX7_takesStones 0 = .ok (.aload_n 0, 1) := by decide +kernel
theorem dX7_takesStones_1 : decode cX7_takesStones 1 = .ok (.iconst 0, 1) := by decide +kernel
theorem dX7_takesStones_2 : decode cX7_takesStones 2 = .ok (.bipush 60, 2) := by decide +kernel
theorem dX7_takesStones_4 : decode cX7_takesStones 4 = .ok (.bipush 59, 2) := by decide +kernel
theorem dX7_takesStones_6 : decode cX7_takesStones 6 = .ok (.invokevirtual 109, 3) := by decide +kernel
theorem dX7_takesStones_9 : decode cX7_takesStones 9 = .ok (.ifCond .ne 5, 3) := by decide +kernel
theorem dX7_takesStones_12 : decode cX7_takesStones 12 = .ok (.iconst 0, 1) := by decide +kernel
theorem dX7_takesStones_13 : decode cX7_takesStones 13 = .ok (.ireturn, 1) := by decide +kernel
theorem dX7_takesStones_14 : decode cX7_takesStones 14 = .ok (.aload_n 0, 1) := by decide +kernel
theorem dX7_takesStones_15 : decode cX7_takesStones 15 = .ok (.aload_n 0, 1) := by decide +kernel
theorem dX7_takesStones_16 : decode cX7_takesStones 16 = .ok (.getfield 98, 3) := by decide +kernel
theorem dX7_takesStones_19 : decode cX7_takesStones 19 = .ok (.putfield 62, 3) := by decide +kernel
theorem dX7_takesStones_22 : decode cX7_takesStones 22 = .ok (.iconst 1, 1) := by decide +kernel
theorem dX7_takesStones_23 : decode cX7_takesStones 23 = .ok (.ireturn, 1) := by decide +kernel
theorem dX7_takesItem_0 : decode cX7_takesItem 0 = .ok (.aload_n 0, 1) := by decide +kernel
theorem dX7_takesItem_1 : decode cX7_takesItem 1 = .ok (.aload_n 0, 1) := by decide +kernel
theorem dX7_takesItem_2 : decode cX7_takesItem 2 = .ok (.getfield 95, 3) := by decide +kernel
theorem dX7_takesItem_5 : decode cX7_takesItem 5 = .ok (.invokevirtual 101, 3) := by decide +kernel
theorem dX7_takesItem_8 : decode cX7_takesItem 8 = .ok (.istore_n 1, 1) := by decide +kernel
theorem dX7_takesItem_9 : decode cX7_takesItem 9 = .ok (.aload_n 0, 1) := by decide +kernel
theorem dX7_takesItem_10 : decode cX7_takesItem 10 = .ok (.dup, 1) := by decide +kernel
theorem dX7_takesItem_11 : decode cX7_takesItem 11 = .ok (.getfield 95, 3) := by decide +kernel
theorem dX7_takesItem_14 : decode cX7_takesItem 14 = .ok (.iconst 1, 1) := by decide +kernel
theorem dX7_takesItem_15 : decode cX7_takesItem 15 = .ok (.iadd, 1) := by decide +kernel
theorem dX7_takesItem_16 : decode cX7_takesItem 16 = .ok (.putfield 95, 3) := by decide +kernel
theorem dX7_takesItem_19 : decode cX7_takesItem 19 = .ok (.iload_n 1, 1) := by decide +kernel
theorem dX7_takesItem_20 : decode cX7_takesItem 20 = .ok (.bipush 119, 2) := by decide +kernel
theorem dX7_takesItem_22 : decode cX7_takesItem 22 = .ok (.if_icmp .ne 10, 3) := by decide +kernel
theorem dX7_takesItem_25 : decode cX7_takesItem 25 = .ok (.aload_n 0, 1) := by decide +kernel
theorem dX7_takesItem_26 : decode cX7_takesItem 26 = .ok (.invokevirtual 113, 3) := by decide +kernel
theorem dX7_takesItem_29 : decode cX7_takesItem 29 = .ok (.goto 34, 3) := by decide +kernel
theorem dX7_takesItem_32 : decode cX7_takesItem 32 = .ok (.iload_n 1, 1) := by decide +kernel
theorem dX7_takesItem_33 : decode cX7_takesItem 33 = .ok (.bipush 104, 2) := by decide +kernel
theorem dX7_takesItem_35 : decode cX7_takesItem 35 = .ok (.if_icmp .ne 10, 3) := by decide +kernel
theorem dX7_takesItem_38 : decode cX7_takesItem 38 = .ok (.aload_n 0, 1) := by decide +kernel
theorem dX7_takesItem_39 : decode cX7_takesItem 39 = .ok (.invokevirtual 117, 3) := by decide +kernel
theorem dX7_takesItem_42 : decode cX7_takesItem 42 = .ok (.goto 21, 3) := by decide +kernel
theorem dX7_takesItem_45 : decode cX7_takesItem 45 = .ok (.iload_n 1, 1) := by decide +kernel
theorem dX7_takesItem_46 : decode cX7_takesItem 46 = .ok (.bipush 115, 2) := by decide +kernel
theorem dX7_takesItem_48 : decode cX7_takesItem 48 = .ok (.if_icmp .ne 14, 3) := by decide +kernel
theorem dX7_takesItem_51 : decode cX7_takesItem 51 = .ok (.aload_n 0, 1) := by decide +kernel
theorem dX7_takesItem_52 : decode cX7_takesItem 52 = .ok (.invokevirtual 120, 3) := by decide +kernel
theorem dX7_takesItem_55 : decode cX7_takesItem 55 = .ok (.ifCond .eq 7, 3) := by decide +kernel
theorem dX7_takesItem_58 : decode cX7_takesItem 58 = .ok (.iconst 1, 1) := by decide +kernel
theorem dX7_takesItem_59 : decode cX7_takesItem 59 = .ok (.goto 4, 3) := by decide +kernel
theorem dX7_takesItem_62 : decode cX7_takesItem 62 = .ok (.iconst 0, 1) := by decide +kernel
theorem dX7_takesItem_63 : decode cX7_takesItem 63 = .ok (.ireturn, 1) := by decide +kernel
theorem dX7_faultOf_0 : decode cX7_faultOf 0 = .ok (.aload_n 0, 1) := by decide +kernel
theorem dX7_faultOf_1 : decode cX7_faultOf 1 = .ok (.invokevirtual 55, 3) := by decide +kernel
theorem dX7_faultOf_4 : decode cX7_faultOf 4 = .ok (.aload_n 0, 1) := by decide +kernel
theorem dX7_faultOf_5 : decode cX7_faultOf 5 = .ok (.iconst 0, 1) := by decide +kernel
theorem dX7_faultOf_6 : decode cX7_faultOf 6 = .ok (.putfield 95, 3) := by decide +kernel
theorem dX7_faultOf_9 : decode cX7_faultOf 9 = .ok (.aload_n 0, 1) := by decide +kernel
theorem dX7_faultOf_10 : decode cX7_faultOf 10 = .ok (.getfield 95, 3) := by decide +kernel
theorem dX7_faultOf_13 : decode cX7_faultOf 13 = .ok (.aload_n 0, 1) := by decide +kernel
theorem dX7_faultOf_14 : decode cX7_faultOf 14 = .ok (.getfield 92, 3) := by decide +kernel
theorem dX7_faultOf_17 : decode cX7_faultOf 17 = .ok (.if_icmp .ge 20, 3) := by decide +kernel
theorem dX7_faultOf_20 : decode cX7_faultOf 20 = .ok (.aload_n 0, 1) := by decide +kernel
theorem dX7_faultOf_21 : decode cX7_faultOf 21 = .ok (.getfield 95, 3) := by decide +kernel
theorem dX7_faultOf_24 : decode cX7_faultOf 24 = .ok (.istore_n 1, 1) := by decide +kernel
theorem dX7_faultOf_25 : decode cX7_faultOf 25 = .ok (.aload_n 0, 1) := by decide +kernel
theorem dX7_faultOf_26 : decode cX7_faultOf 26 = .ok (.invokevirtual 123, 3) := by decide +kernel
theorem dX7_faultOf_29 : decode cX7_faultOf 29 = .ok (.ifCond .ne 5, 3) := by decide +kernel
theorem dX7_faultOf_32 : decode cX7_faultOf 32 = .ok (.iload_n 1, 1) := by decide +kernel
theorem dX7_faultOf_33 : decode cX7_faultOf 33 = .ok (.ireturn, 1) := by decide +kernel
theorem dX7_faultOf_34 : decode cX7_faultOf 34 = .ok (.goto (-25), 3) := by decide +kernel
theorem dX7_faultOf_37 : decode cX7_faultOf 37 = .ok (.bipush (-4), 2) := by decide +kernel
theorem dX7_faultOf_39 : decode cX7_faultOf 39 = .ok (.ireturn, 1) := by decide +kernel
theorem dX7_fault_0 : decode cX7_fault 0 = .ok (.aload_n 0, 1) := by decide +kernel
theorem dX7_fault_1 : decode cX7_fault 1 = .ok (.invokevirtual 126, 3) := by decide +kernel
theorem dX7_fault_4 : decode cX7_fault 4 = .ok (.ireturn, 1) := by decide +kernel
theorem dX7_lay_0 : decode cX7_lay 0 = .ok (.aload_n 0, 1) := by decide +kernel
theorem dX7_lay_1 : decode cX7_lay 1 = .ok (.invokevirtual 126, 3) := by decide +kernel
theorem dX7_lay_4 : decode cX7_lay 4 = .ok (.bipush (-4), 2) := by decide +kernel
theorem dX7_lay_6 : decode cX7_lay 6 = .ok (.if_icmp .ne 10, 3) := by decide +kernel
theorem dX7_lay_9 : decode cX7_lay 9 = .ok (.aload_n 0, 1) := by decide +kernel
theorem dX7_lay_10 : decode cX7_lay 10 = .ok (.getfield 76, 3) := by decide +kernel
theorem dX7_lay_13 : decode cX7_lay 13 = .ok (.ifCond .ne 6, 3) := by decide +kernel
theorem dX7_lay_16 : decode cX7_lay 16 = .ok (.bipush (-2), 2) := by decide +kernel
theorem dX7_lay_18 : decode cX7_lay 18 = .ok (.ireturn, 1) := by decide +kernel
theorem dX7_lay_19 : decode cX7_lay 19 = .ok (.aload_n 0, 1) := by decide +kernel
theorem dX7_lay_20 : decode cX7_lay 20 = .ok (.invokevirtual 66, 3) := by decide +kernel
theorem dX7_lay_23 : decode cX7_lay 23 = .ok (.aload_n 0, 1) := by decide +kernel
theorem dX7_lay_24 : decode cX7_lay 24 = .ok (.getfield 69, 3) := by decide +kernel
theorem dX7_lay_27 : decode cX7_lay 27 = .ok (.ireturn, 1) := by decide +kernel
theorem dX7_wall_0 : decode cX7_wall 0 = .ok (.aload_n 0, 1) := by decide +kernel
theorem dX7_wall_1 : decode cX7_wall 1 = .ok (.iload_n 1, 1) := by decide +kernel
theorem dX7_wall_2 : decode cX7_wall 2 = .ok (.invokevirtual 130, 3) := by decide +kernel
theorem dX7_wall_5 : decode cX7_wall 5 = .ok (.ifCond .ne 5, 3) := by decide +kernel
theorem dX7_wall_8 : decode cX7_wall 8 = .ok (.iconst (-1), 1) := by decide +kernel
theorem dX7_wall_9 : decode cX7_wall 9 = .ok (.ireturn, 1) := by decide +kernel
theorem dX7_wall_10 : decode cX7_wall 10 = .ok (.iload_n 2, 1) := by decide +kernel
theorem dX7_wall_11 : decode cX7_wall 11 = .ok (.ifCond .ne 12, 3) := by decide +kernel
theorem dX7_wall_14 : decode cX7_wall 14 = .ok (.aload_n 0, 1) := by decide +kernel
theorem dX7_wall_15 : decode cX7_wall 15 = .ok (.getfield 13, 3) := by decide +kernel
theorem dX7_wall_18 : decode cX7_wall 18 = .ok (.iload_n 1, 1) := by decide +kernel
theorem dX7_wall_19 : decode cX7_wall 19 = .ok (.iaload, 1) := by decide +kernel
theorem dX7_wall_20 : decode cX7_wall 20 = .ok (.goto 63, 3) := by decide +kernel
theorem dX7_wall_23 : decode cX7_wall 23 = .ok (.iload_n 2, 1) := by decide +kernel
theorem dX7_wall_24 : decode cX7_wall 24 = .ok (.iconst 1, 1) := by decide +kernel
theorem dX7_wall_25 : decode cX7_wall 25 = .ok (.if_icmp .ne 12, 3) := by decide +kernel
theorem dX7_wall_28 : decode cX7_wall 28 = .ok (.aload_n 0, 1) := by decide +kernel
theorem dX7_wall_29 : decode cX7_wall 29 = .ok (.getfield 16, 3) := by decide +kernel
theorem dX7_wall_32 : decode cX7_wall 32 = .ok (.iload_n 1, 1) := by decide +kernel
theorem dX7_wall_33 : decode cX7_wall 33 = .ok (.iaload, 1) := by decide +kernel
theorem dX7_wall_34 : decode cX7_wall 34 = .ok (.goto 49, 3) := by decide +kernel
theorem dX7_wall_37 : decode cX7_wall 37 = .ok (.iload_n 2, 1) := by decide +kernel
theorem dX7_wall_38 : decode cX7_wall 38 = .ok (.iconst 2, 1) := by decide +kernel
theorem dX7_wall_39 : decode cX7_wall 39 = .ok (.if_icmp .ne 12, 3) := by decide +kernel
theorem dX7_wall_42 : decode cX7_wall 42 = .ok (.aload_n 0, 1) := by decide +kernel
theorem dX7_wall_43 : decode cX7_wall 43 = .ok (.getfield 19, 3) := by decide +kernel
theorem dX7_wall_46 : decode cX7_wall 46 = .ok (.iload_n 1, 1) := by decide +kernel
theorem dX7_wall_47 : decode cX7_wall 47 = .ok (.iaload, 1) := by decide +kernel
theorem dX7_wall_48 : decode cX7_wall 48 = .ok (.goto 35, 3) := by decide +kernel
theorem dX7_wall_51 : decode cX7_wall 51 = .ok (.iload_n 2, 1) := by decide +kernel
theorem dX7_wall_52 : decode cX7_wall 52 = .ok (.i2l, 1) := by decide +kernel
theorem dX7_wall_53 : decode cX7_wall 53 = .ok (.ldc2_w 134, 3) := by decide +kernel
theorem dX7_wall_56 : decode cX7_wall 56 = .ok (.ldc2_w 136, 3) := by decide +kernel
theorem dX7_wall_59 : decode cX7_wall 59 = .ok (.invokestatic 72, 3) := by decide +kernel
theorem dX7_wall_62 : decode cX7_wall 62 = .ok (.ifCond .eq 20, 3) := by decide +kernel
theorem dX7_wall_65 : decode cX7_wall 65 = .ok (.aload_n 0, 1) := by decide +kernel
theorem dX7_wall_66 : decode cX7_wall 66 = .ok (.getfield 7, 3) := by decide +kernel
theorem dX7_wall_69 : decode cX7_wall 69 = .ok (.iconst 2, 1) := by decide +kernel
theorem dX7_wall_70 : decode cX7_wall 70 = .ok (.iconst 5, 1) := by decide +kernel
theorem dX7_wall_71 : decode cX7_wall 71 = .ok (.iload_n 2, 1) := by decide +kernel
theorem dX7_wall_72 : decode cX7_wall 72 = .ok (.iconst 3, 1) := by decide +kernel
theorem dX7_wall_73 : decode cX7_wall 73 = .ok (.isub, 1) := by decide +kernel
theorem dX7_wall_74 : decode cX7_wall 74 = .ok (.imul, 1) := by decide +kernel
theorem dX7_wall_75 : decode cX7_wall 75 = .ok (.iadd, 1) := by decide +kernel
theorem dX7_wall_76 : decode cX7_wall 76 = .ok (.iload_n 1, 1) := by decide +kernel
theorem dX7_wall_77 : decode cX7_wall 77 = .ok (.iadd, 1) := by decide +kernel
theorem dX7_wall_78 : decode cX7_wall 78 = .ok (.iaload, 1) := by decide +kernel
theorem dX7_wall_79 : decode cX7_wall 79 = .ok (.goto 4, 3) := by decide +kernel
theorem dX7_wall_82 : decode cX7_wall 82 = .ok (.iconst (-1), 1) := by decide +kernel
theorem dX7_wall_83 : decode cX7_wall 83 = .ok (.ireturn, 1) := by decide +kernel
theorem dX7_holds_0 : decode cX7_holds 0 = .ok (.aload_n 0, 1) := by decide +kernel
theorem dX7_holds_1 : decode cX7_holds 1 = .ok (.iload_n 1, 1) := by decide +kernel
theorem dX7_holds_2 : decode cX7_holds 2 = .ok (.invokevirtual 130, 3) := by decide +kernel
theorem dX7_holds_5 : decode cX7_holds 5 = .ok (.ifCond .eq 32, 3) := by decide +kernel
theorem dX7_holds_8 : decode cX7_holds 8 = .ok (.aload_n 0, 1) := by decide +kernel
theorem dX7_holds_9 : decode cX7_holds 9 = .ok (.iload_n 2, 1) := by decide +kernel
end
section
theorem dX7_holds_10 : decode cX7_holds 10 = .ok (.invokevirtual 130, 3) := by decide +kernel
theorem dX7_holds_13 : decode cX7_holds 13 = .ok (.ifCond .eq 24, 3) := by decide +kernel
theorem dX7_holds_16 : decode cX7_holds 16 = .ok (.iload_n 1, 1) := by decide +kernel
theorem dX7_holds_17 : decode cX7_holds 17 = .ok (.iload_n 2, 1) := by decide +kernel
theorem dX7_holds_18 : decode cX7_holds 18 = .ok (.if_icmp .eq 19, 3) := by decide +kernel
theorem dX7_holds_21 : decode cX7_holds 21 = .ok (.aload_n 0, 1) := by decide +kernel
theorem dX7_holds_22 : decode cX7_holds 22 = .ok (.getfield 7, 3) := by decide +kernel
theorem dX7_holds_25 : decode cX7_holds 25 = .ok (.bipush 27, 2) := by decide +kernel
theorem dX7_holds_27 : decode cX7_holds 27 = .ok (.iconst 5, 1) := by decide +kernel
theorem dX7_holds_28 : decode cX7_holds 28 = .ok (.iload_n 1, 1) := by decide +kernel
theorem dX7_holds_29 : decode cX7_holds 29 = .ok (.imul, 1) := by decide +kernel
theorem dX7_holds_30 : decode cX7_holds 30 = .ok (.iadd, 1) := by decide +kernel
theorem dX7_holds_31 : decode cX7_holds 31 = .ok (.iload_n 2, 1) := by decide +kernel
theorem dX7_holds_32 : decode cX7_holds 32 = .ok (.iadd, 1) := by decide +kernel
theorem dX7_holds_33 : decode cX7_holds 33 = .ok (.iaload, 1) := by decide +kernel
theorem dX7_holds_34 : decode cX7_holds 34 = .ok (.goto 4, 3) := by decide +kernel
theorem dX7_holds_37 : decode cX7_holds 37 = .ok (.iconst (-1), 1) := by decide +kernel
theorem dX7_holds_38 : decode cX7_holds 38 = .ok (.ireturn, 1) := by decide +kernel
theorem dX7_stands_0 : decode cX7_stands 0 = .ok (.aload_n 0, 1) := by decide +kernel
theorem dX7_stands_1 : decode cX7_stands 1 = .ok (.getfield 7, 3) := by decide +kernel
theorem dX7_stands_4 : decode cX7_stands 4 = .ok (.iload_n 1, 1) := by decide +kernel
theorem dX7_stands_5 : decode cX7_stands 5 = .ok (.bipush 7, 2) := by decide +kernel
theorem dX7_stands_7 : decode cX7_stands 7 = .ok (.iadd, 1) := by decide +kernel
theorem dX7_stands_8 : decode cX7_stands 8 = .ok (.iload_n 2, 1) := by decide +kernel
theorem dX7_stands_9 : decode cX7_stands 9 = .ok (.iadd, 1) := by decide +kernel
theorem dX7_stands_10 : decode cX7_stands 10 = .ok (.iaload, 1) := by decide +kernel
theorem dX7_stands_11 : decode cX7_stands 11 = .ok (.ifCond .ne 7, 3) := by decide +kernel
theorem dX7_stands_14 : decode cX7_stands 14 = .ok (.iconst 1, 1) := by decide +kernel
theorem dX7_stands_15 : decode cX7_stands 15 = .ok (.goto 4, 3) := by decide +kernel
theorem dX7_stands_18 : decode cX7_stands 18 = .ok (.iconst 0, 1) := by decide +kernel
theorem dX7_stands_19 : decode cX7_stands 19 = .ok (.ireturn, 1) := by decide +kernel
theorem dX7_fellsOne_0 : decode cX7_fellsOne 0 = .ok (.iload_n 3, 1) := by decide +kernel
theorem dX7_fellsOne_1 : decode cX7_fellsOne 1 = .ok (.ifCond .eq 23, 3) := by decide +kernel
theorem dX7_fellsOne_4 : decode cX7_fellsOne 4 = .ok (.aload_n 0, 1) := by decide +kernel
theorem dX7_fellsOne_5 : decode cX7_fellsOne 5 = .ok (.getfield 7, 3) := by decide +kernel
theorem dX7_fellsOne_8 : decode cX7_fellsOne 8 = .ok (.iload_n 1, 1) := by decide +kernel
theorem dX7_fellsOne_9 : decode cX7_fellsOne 9 = .ok (.iconst 0, 1) := by decide +kernel
theorem dX7_fellsOne_10 : decode cX7_fellsOne 10 = .ok (.iadd, 1) := by decide +kernel
theorem dX7_fellsOne_11 : decode cX7_fellsOne 11 = .ok (.dup2, 1) := by decide +kernel
theorem dX7_fellsOne_12 : decode cX7_fellsOne 12 = .ok (.iaload, 1) := by decide +kernel
theorem dX7_fellsOne_13 : decode cX7_fellsOne 13 = .ok (.aload_n 0, 1) := by decide +kernel
theorem dX7_fellsOne_14 : decode cX7_fellsOne 14 = .ok (.getfield 16, 3) := by decide +kernel
theorem dX7_fellsOne_17 : decode cX7_fellsOne 17 = .ok (.iload_n 2, 1) := by decide +kernel
theorem dX7_fellsOne_18 : decode cX7_fellsOne 18 = .ok (.iaload, 1) := by decide +kernel
theorem dX7_fellsOne_19 : decode cX7_fellsOne 19 = .ok (.iadd, 1) := by decide +kernel
theorem dX7_fellsOne_20 : decode cX7_fellsOne 20 = .ok (.iastore, 1) := by decide +kernel
theorem dX7_fellsOne_21 : decode cX7_fellsOne 21 = .ok (.goto 30, 3) := by decide +kernel
theorem dX7_fellsOne_24 : decode cX7_fellsOne 24 = .ok (.iload_n 2, 1) := by decide +kernel
theorem dX7_fellsOne_25 : decode cX7_fellsOne 25 = .ok (.iconst 1, 1) := by decide +kernel
theorem dX7_fellsOne_26 : decode cX7_fellsOne 26 = .ok (.iadd, 1) := by decide +kernel
theorem dX7_fellsOne_27 : decode cX7_fellsOne 27 = .ok (.aload_n 0, 1) := by decide +kernel
theorem dX7_fellsOne_28 : decode cX7_fellsOne 28 = .ok (.getfield 69, 3) := by decide +kernel
theorem dX7_fellsOne_31 : decode cX7_fellsOne 31 = .ok (.if_icmp .ge 20, 3) := by decide +kernel
theorem dX7_fellsOne_34 : decode cX7_fellsOne 34 = .ok (.aload_n 0, 1) := by decide +kernel
theorem dX7_fellsOne_35 : decode cX7_fellsOne 35 = .ok (.getfield 7, 3) := by decide +kernel
theorem dX7_fellsOne_38 : decode cX7_fellsOne 38 = .ok (.iload_n 1, 1) := by decide +kernel
theorem dX7_fellsOne_39 : decode cX7_fellsOne 39 = .ok (.bipush 17, 2) := by decide +kernel
theorem dX7_fellsOne_41 : decode cX7_fellsOne 41 = .ok (.iadd, 1) := by decide +kernel
theorem dX7_fellsOne_42 : decode cX7_fellsOne 42 = .ok (.iload_n 2, 1) := by decide +kernel
theorem dX7_fellsOne_43 : decode cX7_fellsOne 43 = .ok (.iadd, 1) := by decide +kernel
theorem dX7_fellsOne_44 : decode cX7_fellsOne 44 = .ok (.iconst 1, 1) := by decide +kernel
theorem dX7_fellsOne_45 : decode cX7_fellsOne 45 = .ok (.iadd, 1) := by decide +kernel
theorem dX7_fellsOne_46 : decode cX7_fellsOne 46 = .ok (.dup2, 1) := by decide +kernel
theorem dX7_fellsOne_47 : decode cX7_fellsOne 47 = .ok (.iaload, 1) := by decide +kernel
theorem dX7_fellsOne_48 : decode cX7_fellsOne 48 = .ok (.iconst 1, 1) := by decide +kernel
theorem dX7_fellsOne_49 : decode cX7_fellsOne 49 = .ok (.iadd, 1) := by decide +kernel
theorem dX7_fellsOne_50 : decode cX7_fellsOne 50 = .ok (.iastore, 1) := by decide +kernel
theorem dX7_fellsOne_51 : decode cX7_fellsOne 51 = .ok (.aload_n 0, 1) := by decide +kernel
theorem dX7_fellsOne_52 : decode cX7_fellsOne 52 = .ok (.getfield 7, 3) := by decide +kernel
theorem dX7_fellsOne_55 : decode cX7_fellsOne 55 = .ok (.iload_n 1, 1) := by decide +kernel
theorem dX7_fellsOne_56 : decode cX7_fellsOne 56 = .ok (.bipush 12, 2) := by decide +kernel
theorem dX7_fellsOne_58 : decode cX7_fellsOne 58 = .ok (.iadd, 1) := by decide +kernel
theorem dX7_fellsOne_59 : decode cX7_fellsOne 59 = .ok (.iload_n 2, 1) := by decide +kernel
theorem dX7_fellsOne_60 : decode cX7_fellsOne 60 = .ok (.iadd, 1) := by decide +kernel
theorem dX7_fellsOne_61 : decode cX7_fellsOne 61 = .ok (.iconst 0, 1) := by decide +kernel
theorem dX7_fellsOne_62 : decode cX7_fellsOne 62 = .ok (.iastore, 1) := by decide +kernel
theorem dX7_fellsOne_63 : decode cX7_fellsOne 63 = .ok (.aload_n 0, 1) := by decide +kernel
theorem dX7_fellsOne_64 : decode cX7_fellsOne 64 = .ok (.getfield 13, 3) := by decide +kernel
theorem dX7_fellsOne_67 : decode cX7_fellsOne 67 = .ok (.iload_n 2, 1) := by decide +kernel
theorem dX7_fellsOne_68 : decode cX7_fellsOne 68 = .ok (.iaload, 1) := by decide +kernel
theorem dX7_fellsOne_69 : decode cX7_fellsOne 69 = .ok (.iconst 3, 1) := by decide +kernel
theorem dX7_fellsOne_70 : decode cX7_fellsOne 70 = .ok (.if_icmp .ne 51, 3) := by decide +kernel
theorem dX7_fellsOne_73 : decode cX7_fellsOne 73 = .ok (.aload_n 0, 1) := by decide +kernel
theorem dX7_fellsOne_74 : decode cX7_fellsOne 74 = .ok (.getfield 7, 3) := by decide +kernel
theorem dX7_fellsOne_77 : decode cX7_fellsOne 77 = .ok (.iload_n 1, 1) := by decide +kernel
theorem dX7_fellsOne_78 : decode cX7_fellsOne 78 = .ok (.bipush 22, 2) := by decide +kernel
theorem dX7_fellsOne_80 : decode cX7_fellsOne 80 = .ok (.iadd, 1) := by decide +kernel
theorem dX7_fellsOne_81 : decode cX7_fellsOne 81 = .ok (.iload_n 2, 1) := by decide +kernel
theorem dX7_fellsOne_82 : decode cX7_fellsOne 82 = .ok (.iadd, 1) := by decide +kernel
theorem dX7_fellsOne_83 : decode cX7_fellsOne 83 = .ok (.iaload, 1) := by decide +kernel
theorem dX7_fellsOne_84 : decode cX7_fellsOne 84 = .ok (.ifCond .ne 37, 3) := by decide +kernel
theorem dX7_fellsOne_87 : decode cX7_fellsOne 87 = .ok (.aload_n 0, 1) := by decide +kernel
theorem dX7_fellsOne_88 : decode cX7_fellsOne 88 = .ok (.getfield 7, 3) := by decide +kernel
theorem dX7_fellsOne_91 : decode cX7_fellsOne 91 = .ok (.iload_n 1, 1) := by decide +kernel
theorem dX7_fellsOne_92 : decode cX7_fellsOne 92 = .ok (.bipush 22, 2) := by decide +kernel
theorem dX7_fellsOne_94 : decode cX7_fellsOne 94 = .ok (.iadd, 1) := by decide +kernel
theorem dX7_fellsOne_95 : decode cX7_fellsOne 95 = .ok (.iload_n 2, 1) := by decide +kernel
theorem dX7_fellsOne_96 : decode cX7_fellsOne 96 = .ok (.iadd, 1) := by decide +kernel
theorem dX7_fellsOne_97 : decode cX7_fellsOne 97 = .ok (.iconst 1, 1) := by decide +kernel
theorem dX7_fellsOne_98 : decode cX7_fellsOne 98 = .ok (.iastore, 1) := by decide +kernel
theorem dX7_fellsOne_99 : decode cX7_fellsOne 99 = .ok (.aload_n 0, 1) := by decide +kernel
theorem dX7_fellsOne_100 : decode cX7_fellsOne 100 = .ok (.getfield 7, 3) := by decide +kernel
theorem dX7_fellsOne_103 : decode cX7_fellsOne 103 = .ok (.iload_n 1, 1) := by decide +kernel
theorem dX7_fellsOne_104 : decode cX7_fellsOne 104 = .ok (.iconst 2, 1) := by decide +kernel
theorem dX7_fellsOne_105 : decode cX7_fellsOne 105 = .ok (.iadd, 1) := by decide +kernel
theorem dX7_fellsOne_106 : decode cX7_fellsOne 106 = .ok (.iload_n 2, 1) := by decide +kernel
theorem dX7_fellsOne_107 : decode cX7_fellsOne 107 = .ok (.iadd, 1) := by decide +kernel
theorem dX7_fellsOne_108 : decode cX7_fellsOne 108 = .ok (.aload_n 0, 1) := by decide +kernel
theorem dX7_fellsOne_109 : decode cX7_fellsOne 109 = .ok (.getfield 16, 3) := by decide +kernel
theorem dX7_fellsOne_112 : decode cX7_fellsOne 112 = .ok (.iload_n 2, 1) := by decide +kernel
theorem dX7_fellsOne_113 : decode cX7_fellsOne 113 = .ok (.iaload, 1) := by decide +kernel
theorem dX7_fellsOne_114 : decode cX7_fellsOne 114 = .ok (.iconst 2, 1) := by decide +kernel
theorem dX7_fellsOne_115 : decode cX7_fellsOne 115 = .ok (.idiv, 1) := by decide +kernel
theorem dX7_fellsOne_116 : decode cX7_fellsOne 116 = .ok (.iconst 1, 1) := by decide +kernel
theorem dX7_fellsOne_117 : decode cX7_fellsOne 117 = .ok (.iadd, 1) := by decide +kernel
theorem dX7_fellsOne_118 : decode cX7_fellsOne 118 = .ok (.iastore, 1) := by decide +kernel
theorem dX7_fellsOne_119 : decode cX7_fellsOne 119 = .ok (.iconst 0, 1) := by decide +kernel
theorem dX7_fellsOne_120 : decode cX7_fellsOne 120 = .ok (.ireturn, 1) := by decide +kernel
theorem dX7_fellsOne_121 : decode cX7_fellsOne 121 = .ok (.aload_n 0, 1) := by decide +kernel
theorem dX7_fellsOne_122 : decode cX7_fellsOne 122 = .ok (.getfield 7, 3) := by decide +kernel
theorem dX7_fellsOne_125 : decode cX7_fellsOne 125 = .ok (.iload_n 1, 1) := by decide +kernel
theorem dX7_fellsOne_126 : decode cX7_fellsOne 126 = .ok (.bipush 7, 2) := by decide +kernel
theorem dX7_fellsOne_128 : decode cX7_fellsOne 128 = .ok (.iadd, 1) := by decide +kernel
theorem dX7_fellsOne_129 : decode cX7_fellsOne 129 = .ok (.iload_n 2, 1) := by decide +kernel
theorem dX7_fellsOne_130 : decode cX7_fellsOne 130 = .ok (.iadd, 1) := by decide +kernel
theorem dX7_fellsOne_131 : decode cX7_fellsOne 131 = .ok (.iconst 1, 1) := by decide +kernel
theorem dX7_fellsOne_132 : decode cX7_fellsOne 132 = .ok (.iastore, 1) := by decide +kernel
theorem dX7_fellsOne_133 : decode cX7_fellsOne 133 = .ok (.aload_n 0, 1) := by decide +kernel
theorem dX7_fellsOne_134 : decode cX7_fellsOne 134 = .ok (.getfield 7, 3) := by decide +kernel
theorem dX7_fellsOne_137 : decode cX7_fellsOne 137 = .ok (.iload_n 1, 1) := by decide +kernel
theorem dX7_fellsOne_138 : decode cX7_fellsOne 138 = .ok (.iconst 2, 1) := by decide +kernel
theorem dX7_fellsOne_139 : decode cX7_fellsOne 139 = .ok (.iadd, 1) := by decide +kernel
theorem dX7_fellsOne_140 : decode cX7_fellsOne 140 = .ok (.iload_n 2, 1) := by decide +kernel
theorem dX7_fellsOne_141 : decode cX7_fellsOne 141 = .ok (.iadd, 1) := by decide +kernel
theorem dX7_fellsOne_142 : decode cX7_fellsOne 142 = .ok (.iconst 0, 1) := by decide +kernel
theorem dX7_fellsOne_143 : decode cX7_fellsOne 143 = .ok (.iastore, 1) := by decide +kernel
theorem dX7_fellsOne_144 : decode cX7_fellsOne 144 = .ok (.iconst 0, 1) := by decide +kernel
theorem dX7_fellsOne_145 : decode cX7_fellsOne 145 = .ok (.istore 4, 2) := by decide +kernel
theorem dX7_fellsOne_147 : decode cX7_fellsOne 147 = .ok (.iload 4, 2) := by decide +kernel
theorem dX7_fellsOne_149 : decode cX7_fellsOne 149 = .ok (.aload_n 0, 1) := by decide +kernel
theorem dX7_fellsOne_150 : decode cX7_fellsOne 150 = .ok (.getfield 69, 3) := by decide +kernel
theorem dX7_fellsOne_153 : decode cX7_fellsOne 153 = .ok (.if_icmp .ge 53, 3) := by decide +kernel
theorem dX7_fellsOne_156 : decode cX7_fellsOne 156 = .ok (.aload_n 0, 1) := by decide +kernel
theorem dX7_fellsOne_157 : decode cX7_fellsOne 157 = .ok (.getfield 7, 3) := by decide +kernel
theorem dX7_fellsOne_160 : decode cX7_fellsOne 160 = .ok (.iload_n 1, 1) := by decide +kernel
theorem dX7_fellsOne_161 : decode cX7_fellsOne 161 = .ok (.iconst 2, 1) := by decide +kernel
theorem dX7_fellsOne_162 : decode cX7_fellsOne 162 = .ok (.iadd, 1) := by decide +kernel
theorem dX7_fellsOne_163 : decode cX7_fellsOne 163 = .ok (.iload 4, 2) := by decide +kernel
theorem dX7_fellsOne_165 : decode cX7_fellsOne 165 = .ok (.iadd, 1) := by decide +kernel
theorem dX7_fellsOne_166 : decode cX7_fellsOne 166 = .ok (.dup2, 1) := by decide +kernel
theorem dX7_fellsOne_167 : decode cX7_fellsOne 167 = .ok (.iaload, 1) := by decide +kernel
theorem dX7_fellsOne_168 : decode cX7_fellsOne 168 = .ok (.aload_n 0, 1) := by decide +kernel
theorem dX7_fellsOne_169 : decode cX7_fellsOne 169 = .ok (.iload_n 1, 1) := by decide +kernel
theorem dX7_fellsOne_170 : decode cX7_fellsOne 170 = .ok (.iload 4, 2) := by decide +kernel
theorem dX7_fellsOne_172 : decode cX7_fellsOne 172 = .ok (.invokevirtual 138, 3) := by decide +kernel
theorem dX7_fellsOne_175 : decode cX7_fellsOne 175 = .ok (.ifCond .eq 22, 3) := by decide +kernel
theorem dX7_fellsOne_178 : decode cX7_fellsOne 178 = .ok (.aload_n 0, 1) := by decide +kernel
theorem dX7_fellsOne_179 : decode cX7_fellsOne 179 = .ok (.getfield 7, 3) := by decide +kernel
theorem dX7_fellsOne_182 : decode cX7_fellsOne 182 = .ok (.iload_n 1, 1) := by decide +kernel
theorem dX7_fellsOne_183 : decode cX7_fellsOne 183 = .ok (.bipush 27, 2) := by decide +kernel
theorem dX7_fellsOne_185 : decode cX7_fellsOne 185 = .ok (.iadd, 1) := by decide +kernel
theorem dX7_fellsOne_186 : decode cX7_fellsOne 186 = .ok (.iconst 5, 1) := by decide +kernel
theorem dX7_fellsOne_187 : decode cX7_fellsOne 187 = .ok (.iload_n 2, 1) := by decide +kernel
theorem dX7_fellsOne_188 : decode cX7_fellsOne 188 = .ok (.imul, 1) := by decide +kernel
theorem dX7_fellsOne_189 : decode cX7_fellsOne 189 = .ok (.iadd, 1) := by decide +kernel
theorem dX7_fellsOne_190 : decode cX7_fellsOne 190 = .ok (.iload 4, 2) := by decide +kernel
theorem dX7_fellsOne_192 : decode cX7_fellsOne 192 = .ok (.iadd, 1) := by decide +kernel
theorem dX7_fellsOne_193 : decode cX7_fellsOne 193 = .ok (.iaload, 1) := by decide +kernel
theorem dX7_fellsOne_194 : decode cX7_fellsOne 194 = .ok (.goto 4, 3) := by decide +kernel
theorem dX7_fellsOne_197 : decode cX7_fellsOne 197 = .ok (.iconst 0, 1) := by decide +kernel
theorem dX7_fellsOne_198 : decode cX7_fellsOne 198 = .ok (.isub, 1) := by decide +kernel
theorem dX7_fellsOne_199 : decode cX7_fellsOne 199 = .ok (.iastore, 1) := by decide +kernel
theorem dX7_fellsOne_200 : decode cX7_fellsOne 200 = .ok (.iinc 4 1, 3) := by decide +kernel
theorem dX7_fellsOne_203 : decode cX7_fellsOne 203 = .ok (.goto (-56), 3) := by decide +kernel
theorem dX7_fellsOne_206 : decode cX7_fellsOne 206 = .ok (.iconst 1, 1) := by decide +kernel
theorem dX7_fellsOne_207 : decode cX7_fellsOne 207 = .ok (.ireturn, 1) := by decide +kernel
theorem dX7_falls_0 : decode cX7_falls 0 = .ok (.iconst 0, 1) := by decide +kernel
theorem dX7_falls_1 : decode cX7_falls 1 = .ok (.istore 4, 2) := by decide +kernel
theorem dX7_falls_3 : decode cX7_falls 3 = .ok (.aload_n 0, 1) := by decide +kernel
theorem dX7_falls_4 : decode cX7_falls 4 = .ok (.iload_n 1, 1) := by decide +kernel
theorem dX7_falls_5 : decode cX7_falls 5 = .ok (.iload_n 2, 1) := by decide +kernel
theorem dX7_falls_6 : decode cX7_falls 6 = .ok (.iload_n 3, 1) := by decide +kernel
theorem dX7_falls_7 : decode cX7_falls 7 = .ok (.invokevirtual 142, 3) := by decide +kernel
theorem dX7_falls_10 : decode cX7_falls 10 = .ok (.ifCond .eq 20, 3) := by decide +kernel
theorem dX7_falls_13 : decode cX7_falls 13 = .ok (.aload_n 0, 1) := by decide +kernel
theorem dX7_falls_14 : decode cX7_falls 14 = .ok (.getfield 40, 3) := by decide +kernel
theorem dX7_falls_17 : decode cX7_falls 17 = .ok (.iconst 0, 1) := by decide +kernel
theorem dX7_falls_18 : decode cX7_falls 18 = .ok (.iload_n 2, 1) := by decide +kernel
theorem dX7_falls_19 : decode cX7_falls 19 = .ok (.iastore, 1) := by decide +kernel
theorem dX7_falls_20 : decode cX7_falls 20 = .ok (.aload_n 0, 1) := by decide +kernel
theorem dX7_falls_21 : decode cX7_falls 21 = .ok (.getfield 43, 3) := by decide +kernel
theorem dX7_falls_24 : decode cX7_falls 24 = .ok (.iconst 0, 1) := by decide +kernel
theorem dX7_falls_25 : decode cX7_falls 25 = .ok (.iconst 0, 1) := by decide +kernel
theorem dX7_falls_26 : decode cX7_falls 26 = .ok (.iastore, 1) := by decide +kernel
theorem dX7_falls_27 : decode cX7_falls 27 = .ok (.iconst 1, 1) := by decide +kernel
theorem dX7_falls_28 : decode cX7_falls 28 = .ok (.istore 4, 2) := by decide +kernel
theorem dX7_falls_30 : decode cX7_falls 30 = .ok (.iload 4, 2) := by decide +kernel
theorem dX7_falls_32 : decode cX7_falls 32 = .ok (.ifCond .le 131, 3) := by decide +kernel
theorem dX7_falls_35 : decode cX7_falls 35 = .ok (.aload_n 0, 1) := by decide +kernel
theorem dX7_falls_36 : decode cX7_falls 36 = .ok (.getfield 40, 3) := by decide +kernel
theorem dX7_falls_39 : decode cX7_falls 39 = .ok (.iload 4, 2) := by decide +kernel
theorem dX7_falls_41 : decode cX7_falls 41 = .ok (.iconst 1, 1) := by decide +kernel
theorem dX7_falls_42 : decode cX7_falls 42 = .ok (.isub, 1) := by decide +kernel
theorem dX7_falls_43 : decode cX7_falls 43 = .ok (.iaload, 1) := by decide +kernel
theorem dX7_falls_44 : decode cX7_falls 44 = .ok (.istore 5, 2) := by decide +kernel
theorem dX7_falls_46 : decode cX7_falls 46 = .ok (.aload_n 0, 1) := by decide +kernel
theorem dX7_falls_47 : decode cX7_falls 47 = .ok (.getfield 43, 3) := by decide +kernel
theorem dX7_falls_50 : decode cX7_falls 50 = .ok (.iload 4, 2) := by decide +kernel
theorem dX7_falls_52 : decode cX7_falls 52 = .ok (.iconst 1, 1) := by decide +kernel
theorem dX7_falls_53 : decode cX7_falls 53 = .ok (.isub, 1) := by decide +kernel
theorem dX7_falls_54 : decode cX7_falls 54 = .ok (.iaload, 1) := by decide +kernel
theorem dX7_falls_55 : decode cX7_falls 55 = .ok (.istore 6, 2) := by decide +kernel
theorem dX7_falls_57 : decode cX7_falls 57 = .ok (.iload 6, 2) := by decide +kernel
theorem dX7_falls_59 : decode cX7_falls 59 = .ok (.aload_n 0, 1) := by decide +kernel
theorem dX7_falls_60 : decode cX7_falls 60 = .ok (.getfield 69, 3) := by decide +kernel
theorem dX7_falls_63 : decode cX7_falls 63 = .ok (.if_icmp .ne 9, 3) := by decide +kernel
theorem dX7_falls_66 : decode cX7_falls 66 = .ok (.iinc 4 (-1), 3) := by decide +kernel
theorem dX7_falls_69 : decode cX7_falls 69 = .ok (.goto 91, 3) := by decide +kernel
theorem dX7_falls_72 : decode cX7_falls 72 = .ok (.aload_n 0, 1) := by decide +kernel
theorem dX7_falls_73 : decode cX7_falls 73 = .ok (.getfield 43, 3) := by decide +kernel
theorem dX7_falls_76 : decode cX7_falls 76 = .ok (.iload 4, 2) := by decide +kernel
theorem dX7_falls_78 : decode cX7_falls 78 = .ok (.iconst 1, 1) := by decide +kernel
theorem dX7_falls_79 : decode cX7_falls 79 = .ok (.isub, 1) := by decide +kernel
theorem dX7_falls_80 : decode cX7_falls 80 = .ok (.dup2, 1) := by decide +kernel
theorem dX7_falls_81 : decode cX7_falls 81 = .ok (.iaload, 1) := by decide +kernel
theorem dX7_falls_82 : decode cX7_falls 82 = .ok (.iconst 1, 1) := by decide +kernel
theorem dX7_falls_83 : decode cX7_falls 83 = .ok (.iadd, 1) := by decide +kernel
theorem dX7_falls_84 : decode cX7_falls 84 = .ok (.iastore, 1) := by decide +kernel
theorem dX7_falls_85 : decode cX7_falls 85 = .ok (.aload_n 0, 1) := by decide +kernel
theorem dX7_falls_86 : decode cX7_falls 86 = .ok (.getfield 7, 3) := by decide +kernel
theorem dX7_falls_89 : decode cX7_falls 89 = .ok (.iload_n 1, 1) := by decide +kernel
theorem dX7_falls_90 : decode cX7_falls 90 = .ok (.bipush 27, 2) := by decide +kernel
theorem dX7_falls_92 : decode cX7_falls 92 = .ok (.iadd, 1) := by decide +kernel
theorem dX7_falls_93 : decode cX7_falls 93 = .ok (.iconst 5, 1) := by decide +kernel
theorem dX7_falls_94 : decode cX7_falls 94 = .ok (.iload 5, 2) := by decide +kernel
theorem dX7_falls_96 : decode cX7_falls 96 = .ok (.imul, 1) := by decide +kernel
theorem dX7_falls_97 : decode cX7_falls 97 = .ok (.iadd, 1) := by decide +kernel
theorem dX7_falls_98 : decode cX7_falls 98 = .ok (.iload 6, 2) := by decide +kernel
theorem dX7_falls_100 : decode cX7_falls 100 = .ok (.iadd, 1) := by decide +kernel
theorem dX7_falls_101 : decode cX7_falls 101 = .ok (.iaload, 1) := by decide +kernel
theorem dX7_falls_102 : decode cX7_falls 102 = .ok (.ifCond .le 58, 3) := by decide +kernel
theorem dX7_falls_105 : decode cX7_falls 105 = .ok (.aload_n 0, 1) := by decide +kernel
theorem dX7_falls_106 : decode cX7_falls 106 = .ok (.iload_n 1, 1) := by decide +kernel
theorem dX7_falls_107 : decode cX7_falls 107 = .ok (.iload 6, 2) := by decide +kernel
theorem dX7_falls_109 : decode cX7_falls 109 = .ok (.invokevirtual 138, 3) := by decide +kernel
theorem dX7_falls_112 : decode cX7_falls 112 = .ok (.ifCond .eq 48, 3) := by decide +kernel
theorem dX7_falls_115 : decode cX7_falls 115 = .ok (.aload_n 0, 1) := by decide +kernel
theorem dX7_falls_116 : decode cX7_falls 116 = .ok (.getfield 7, 3) := by decide +kernel
theorem dX7_falls_119 : decode cX7_falls 119 = .ok (.iload_n 1, 1) := by decide +kernel
theorem dX7_falls_120 : decode cX7_falls 120 = .ok (.iconst 2, 1) := by decide +kernel
theorem dX7_falls_121 : decode cX7_falls 121 = .ok (.iadd, 1) := by decide +kernel
theorem dX7_falls_122 : decode cX7_falls 122 = .ok (.iload 6, 2) := by decide +kernel
theorem dX7_falls_124 : decode cX7_falls 124 = .ok (.iadd, 1) := by decide +kernel
theorem dX7_falls_125 : decode cX7_falls 125 = .ok (.iaload, 1) := by decide +kernel
theorem dX7_falls_126 : decode cX7_falls 126 = .ok (.ifCond .gt 34, 3) := by decide +kernel
theorem dX7_falls_129 : decode cX7_falls 129 = .ok (.aload_n 0, 1) := by decide +kernel
theorem dX7_falls_130 : decode cX7_falls 130 = .ok (.iload_n 1, 1) := by decide +kernel
theorem dX7_falls_131 : decode cX7_falls 131 = .ok (.iload 6, 2) := by decide +kernel
theorem dX7_falls_133 : decode cX7_falls 133 = .ok (.iconst 1, 1) := by decide +kernel
theorem dX7_falls_134 : decode cX7_falls 134 = .ok (.invokevirtual 142, 3) := by decide +kernel
theorem dX7_falls_137 : decode cX7_falls 137 = .ok (.ifCond .eq 23, 3) := by decide +kernel
theorem dX7_falls_140 : decode cX7_falls 140 = .ok (.aload_n 0, 1) := by decide +kernel
theorem dX7_falls_141 : decode cX7_falls 141 = .ok (.getfield 40, 3) := by decide +kernel
theorem dX7_falls_144 : decode cX7_falls 144 = .ok (.iload 4, 2) := by decide +kernel
theorem dX7_falls_146 : decode cX7_falls 146 = .ok (.iload 6, 2) := by decide +kernel
theorem dX7_falls_148 : decode cX7_falls 148 = .ok (.iastore, 1) := by decide +kernel
theorem dX7_falls_149 : decode cX7_falls 149 = .ok (.aload_n 0, 1) := by decide +kernel
theorem dX7_falls_150 : decode cX7_falls 150 = .ok (.getfield 43, 3) := by decide +kernel
theorem dX7_falls_153 : decode cX7_falls 153 = .ok (.iload 4, 2) := by decide +kernel
theorem dX7_falls_155 : decode cX7_falls 155 = .ok (.iconst 0, 1) := by decide +kernel
theorem dX7_falls_156 : decode cX7_falls 156 = .ok (.iastore, 1) := by decide +kernel
theorem dX7_falls_157 : decode cX7_falls 157 = .ok (.iinc 4 1, 3) := by decide +kernel
theorem dX7_falls_160 : decode cX7_falls 160 = .ok (.goto (-130), 3) := by decide +kernel
theorem dX7_falls_163 : decode cX7_falls 163 = .ok (.return_, 1) := by decide +kernel
theorem dX7_wouldFall_0 : decode cX7_wouldFall 0 = .ok (.iload_n 3, 1) := by decide +kernel
theorem dX7_wouldFall_1 : decode cX7_wouldFall 1 = .ok (.aload_n 0, 1) := by decide +kernel
theorem dX7_wouldFall_2 : decode cX7_wouldFall 2 = .ok (.getfield 7, 3) := by decide +kernel
theorem dX7_wouldFall_5 : decode cX7_wouldFall 5 = .ok (.iload_n 1, 1) := by decide +kernel
theorem dX7_wouldFall_6 : decode cX7_wouldFall 6 = .ok (.bipush 12, 2) := by decide +kernel
theorem dX7_wouldFall_8 : decode cX7_wouldFall 8 = .ok (.iadd, 1) := by decide +kernel
theorem dX7_wouldFall_9 : decode cX7_wouldFall 9 = .ok (.iload_n 2, 1) := by decide +kernel
theorem dX7_wouldFall_10 : decode cX7_wouldFall 10 = .ok (.iadd, 1) := by decide +kernel
theorem dX7_wouldFall_11 : decode cX7_wouldFall 11 = .ok (.iaload, 1) := by decide +kernel
theorem dX7_wouldFall_12 : decode cX7_wouldFall 12 = .ok (.iconst 1, 1) := by decide +kernel
theorem dX7_wouldFall_13 : decode cX7_wouldFall 13 = .ok (.iadd, 1) := by decide +kernel
theorem dX7_wouldFall_14 : decode cX7_wouldFall 14 = .ok (.imul, 1) := by decide +kernel
theorem dX7_wouldFall_15 : decode cX7_wouldFall 15 = .ok (.aload_n 0, 1) := by decide +kernel
theorem dX7_wouldFall_16 : decode cX7_wouldFall 16 = .ok (.getfield 7, 3) := by decide +kernel
theorem dX7_wouldFall_19 : decode cX7_wouldFall 19 = .ok (.iload_n 1, 1) := by decide +kernel
theorem dX7_wouldFall_20 : decode cX7_wouldFall 20 = .ok (.iconst 2, 1) := by decide +kernel
theorem dX7_wouldFall_21 : decode cX7_wouldFall 21 = .ok (.iadd, 1) := by decide +kernel
theorem dX7_wouldFall_22 : decode cX7_wouldFall 22 = .ok (.iload_n 2, 1) := by decide +kernel
theorem dX7_wouldFall_23 : decode cX7_wouldFall 23 = .ok (.iadd, 1) := by decide +kernel
theorem dX7_wouldFall_24 : decode cX7_wouldFall 24 = .ok (.iaload, 1) := by decide +kernel
theorem dX7_wouldFall_25 : decode cX7_wouldFall 25 = .ok (.if_icmp .lt 7, 3) := by decide +kernel
theorem dX7_wouldFall_28 : decode cX7_wouldFall 28 = .ok (.iconst 1, 1) := by decide +kernel
theorem dX7_wouldFall_29 : decode cX7_wouldFall 29 = .ok (.goto 4, 3) := by decide +kernel
theorem dX7_wouldFall_32 : decode cX7_wouldFall 32 = .ok (.iconst 0, 1) := by decide +kernel
theorem dX7_wouldFall_33 : decode cX7_wouldFall 33 = .ok (.ireturn, 1) := by decide +kernel
theorem dX7_blasts_0 : decode cX7_blasts 0 = .ok (.aload_n 0, 1) := by decide +kernel
theorem dX7_blasts_1 : decode cX7_blasts 1 = .ok (.iload_n 1, 1) := by decide +kernel
theorem dX7_blasts_2 : decode cX7_blasts 2 = .ok (.iload_n 2, 1) := by decide +kernel
theorem dX7_blasts_3 : decode cX7_blasts 3 = .ok (.iload_n 3, 1) := by decide +kernel
theorem dX7_blasts_4 : decode cX7_blasts 4 = .ok (.invokevirtual 146, 3) := by decide +kernel
theorem dX7_blasts_7 : decode cX7_blasts 7 = .ok (.ifCond .ne 59, 3) := by decide +kernel
theorem dX7_blasts_10 : decode cX7_blasts 10 = .ok (.aload_n 0, 1) := by decide +kernel
theorem dX7_blasts_11 : decode cX7_blasts 11 = .ok (.getfield 7, 3) := by decide +kernel
theorem dX7_blasts_14 : decode cX7_blasts 14 = .ok (.iload_n 1, 1) := by decide +kernel
theorem dX7_blasts_15 : decode cX7_blasts 15 = .ok (.iconst 2, 1) := by decide +kernel
theorem dX7_blasts_16 : decode cX7_blasts 16 = .ok (.iadd, 1) := by decide +kernel
theorem dX7_blasts_17 : decode cX7_blasts 17 = .ok (.iload_n 2, 1) := by decide +kernel
theorem dX7_blasts_18 : decode cX7_blasts 18 = .ok (.iadd, 1) := by decide +kernel
theorem dX7_blasts_19 : decode cX7_blasts 19 = .ok (.aload_n 0, 1) := by decide +kernel
theorem dX7_blasts_20 : decode cX7_blasts 20 = .ok (.getfield 7, 3) := by decide +kernel
theorem dX7_blasts_23 : decode cX7_blasts 23 = .ok (.iload_n 1, 1) := by decide +kernel
theorem dX7_blasts_24 : decode cX7_blasts 24 = .ok (.iconst 2, 1) := by decide +kernel
theorem dX7_blasts_25 : decode cX7_blasts 25 = .ok (.iadd, 1) := by decide +kernel
theorem dX7_blasts_26 : decode cX7_blasts 26 = .ok (.iload_n 2, 1) := by decide +kernel
theorem dX7_blasts_27 : decode cX7_blasts 27 = .ok (.iadd, 1) := by decide +kernel
theorem dX7_blasts_28 : decode cX7_blasts 28 = .ok (.iaload, 1) := by decide +kernel
theorem dX7_blasts_29 : decode cX7_blasts 29 = .ok (.iload_n 3, 1) := by decide +kernel
theorem dX7_blasts_30 : decode cX7_blasts 30 = .ok (.isub, 1) := by decide +kernel
theorem dX7_blasts_31 : decode cX7_blasts 31 = .ok (.iconst 1, 1) := by decide +kernel
theorem dX7_blasts_32 : decode cX7_blasts 32 = .ok (.if_icmp .ge 7, 3) := by decide +kernel
theorem dX7_blasts_35 : decode cX7_blasts 35 = .ok (.iconst 1, 1) := by decide +kernel
theorem dX7_blasts_36 : decode cX7_blasts 36 = .ok (.goto 15, 3) := by decide +kernel
theorem dX7_blasts_39 : decode cX7_blasts 39 = .ok (.aload_n 0, 1) := by decide +kernel
theorem dX7_blasts_40 : decode cX7_blasts 40 = .ok (.getfield 7, 3) := by decide +kernel
theorem dX7_blasts_43 : decode cX7_blasts 43 = .ok (.iload_n 1, 1) := by decide +kernel
theorem dX7_blasts_44 : decode cX7_blasts 44 = .ok (.iconst 2, 1) := by decide +kernel
theorem dX7_blasts_45 : decode cX7_blasts 45 = .ok (.iadd, 1) := by decide +kernel
theorem dX7_blasts_46 : decode cX7_blasts 46 = .ok (.iload_n 2, 1) := by decide +kernel
theorem dX7_blasts_47 : decode cX7_blasts 47 = .ok (.iadd, 1) := by decide +kernel
theorem dX7_blasts_48 : decode cX7_blasts 48 = .ok (.iaload, 1) := by decide +kernel
theorem dX7_blasts_49 : decode cX7_blasts 49 = .ok (.iload_n 3, 1) := by decide +kernel
theorem dX7_blasts_50 : decode cX7_blasts 50 = .ok (.isub, 1) := by decide +kernel
theorem dX7_blasts_51 : decode cX7_blasts 51 = .ok (.iastore, 1) := by decide +kernel
theorem dX7_blasts_52 : decode cX7_blasts 52 = .ok (.aload_n 0, 1) := by decide +kernel
theorem dX7_blasts_53 : decode cX7_blasts 53 = .ok (.getfield 7, 3) := by decide +kernel
theorem dX7_blasts_56 : decode cX7_blasts 56 = .ok (.iload_n 1, 1) := by decide +kernel
theorem dX7_blasts_57 : decode cX7_blasts 57 = .ok (.bipush 12, 2) := by decide +kernel
theorem dX7_blasts_59 : decode cX7_blasts 59 = .ok (.iadd, 1) := by decide +kernel
theorem dX7_blasts_60 : decode cX7_blasts 60 = .ok (.iload_n 2, 1) := by decide +kernel
theorem dX7_blasts_61 : decode cX7_blasts 61 = .ok (.iadd, 1) := by decide +kernel
theorem dX7_blasts_62 : decode cX7_blasts 62 = .ok (.iconst 0, 1) := by decide +kernel
theorem dX7_blasts_63 : decode cX7_blasts 63 = .ok (.iastore, 1) := by decide +kernel
theorem dX7_blasts_64 : decode cX7_blasts 64 = .ok (.iconst 0, 1) := by decide +kernel
theorem dX7_blasts_65 : decode cX7_blasts 65 = .ok (.ireturn, 1) := by decide +kernel
theorem dX7_blasts_66 : decode cX7_blasts 66 = .ok (.aload_n 0, 1) := by decide +kernel
theorem dX7_blasts_67 : decode cX7_blasts 67 = .ok (.getfield 7, 3) := by decide +kernel
theorem dX7_blasts_70 : decode cX7_blasts 70 = .ok (.iload_n 1, 1) := by decide +kernel
theorem dX7_blasts_71 : decode cX7_blasts 71 = .ok (.bipush 12, 2) := by decide +kernel
theorem dX7_blasts_73 : decode cX7_blasts 73 = .ok (.iadd, 1) := by decide +kernel
theorem dX7_blasts_74 : decode cX7_blasts 74 = .ok (.iload_n 2, 1) := by decide +kernel
theorem dX7_blasts_75 : decode cX7_blasts 75 = .ok (.iadd, 1) := by decide +kernel
theorem dX7_blasts_76 : decode cX7_blasts 76 = .ok (.iaload, 1) := by decide +kernel
theorem dX7_blasts_77 : decode cX7_blasts 77 = .ok (.aload_n 0, 1) := by decide +kernel
theorem dX7_blasts_78 : decode cX7_blasts 78 = .ok (.getfield 19, 3) := by decide +kernel
theorem dX7_blasts_81 : decode cX7_blasts 81 = .ok (.iload_n 2, 1) := by decide +kernel
theorem dX7_blasts_82 : decode cX7_blasts 82 = .ok (.iaload, 1) := by decide +kernel
theorem dX7_blasts_83 : decode cX7_blasts 83 = .ok (.if_icmp .lt 7, 3) := by decide +kernel
theorem dX7_blasts_86 : decode cX7_blasts 86 = .ok (.iconst 1, 1) := by decide +kernel
theorem dX7_blasts_87 : decode cX7_blasts 87 = .ok (.goto 4, 3) := by decide +kernel
theorem dX7_blasts_90 : decode cX7_blasts 90 = .ok (.iconst 0, 1) := by decide +kernel
theorem dX7_blasts_91 : decode cX7_blasts 91 = .ok (.istore 4, 2) := by decide +kernel
theorem dX7_blasts_93 : decode cX7_blasts 93 = .ok (.aload_n 0, 1) := by decide +kernel
theorem dX7_blasts_94 : decode cX7_blasts 94 = .ok (.iload_n 1, 1) := by decide +kernel
theorem dX7_blasts_95 : decode cX7_blasts 95 = .ok (.iload_n 2, 1) := by decide +kernel
theorem dX7_blasts_96 : decode cX7_blasts 96 = .ok (.iload 4, 2) := by decide +kernel
theorem dX7_blasts_98 : decode cX7_blasts 98 = .ok (.invokevirtual 149, 3) := by decide +kernel
theorem dX7_blasts_101 : decode cX7_blasts 101 = .ok (.iload 4, 2) := by decide +kernel
theorem dX7_blasts_103 : decode cX7_blasts 103 = .ok (.ifCond .eq 7, 3) := by decide +kernel
theorem dX7_blasts_106 : decode cX7_blasts 106 = .ok (.iconst 1, 1) := by decide +kernel
theorem dX7_blasts_107 : decode cX7_blasts 107 = .ok (.goto 4, 3) := by decide +kernel
theorem dX7_blasts_110 : decode cX7_blasts 110 = .ok (.iconst 2, 1) := by decide +kernel
theorem dX7_blasts_111 : decode cX7_blasts 111 = .ok (.ireturn, 1) := by decide +kernel
theorem dX7_roundsOne_0 : decode cX7_roundsOne 0 = .ok (.aload_n 0, 1) := by decide +kernel
theorem dX7_roundsOne_1 : decode cX7_roundsOne 1 = .ok (.getfield 7, 3) := by decide +kernel
theorem dX7_roundsOne_4 : decode cX7_roundsOne 4 = .ok (.iload_n 1, 1) := by decide +kernel
theorem dX7_roundsOne_5 : decode cX7_roundsOne 5 = .ok (.bipush 12, 2) := by decide +kernel
theorem dX7_roundsOne_7 : decode cX7_roundsOne 7 = .ok (.iadd, 1) := by decide +kernel
theorem dX7_roundsOne_8 : decode cX7_roundsOne 8 = .ok (.iload_n 2, 1) := by decide +kernel
theorem dX7_roundsOne_9 : decode cX7_roundsOne 9 = .ok (.iadd, 1) := by decide +kernel
theorem dX7_roundsOne_10 : decode cX7_roundsOne 10 = .ok (.iaload, 1) := by decide +kernel
theorem dX7_roundsOne_11 : decode cX7_roundsOne 11 = .ok (.aload_n 0, 1) := by decide +kernel
theorem dX7_roundsOne_12 : decode cX7_roundsOne 12 = .ok (.getfield 13, 3) := by decide +kernel
theorem dX7_roundsOne_15 : decode cX7_roundsOne 15 = .ok (.iload_n 2, 1) := by decide +kernel
theorem dX7_roundsOne_16 : decode cX7_roundsOne 16 = .ok (.iaload, 1) := by decide +kernel
theorem dX7_roundsOne_17 : decode cX7_roundsOne 17 = .ok (.iconst 2, 1) := by decide +kernel
theorem dX7_roundsOne_18 : decode cX7_roundsOne 18 = .ok (.if_icmp .ne 7, 3) := by decide +kernel
theorem dX7_roundsOne_21 : decode cX7_roundsOne 21 = .ok (.iconst 2, 1) := by decide +kernel
theorem dX7_roundsOne_22 : decode cX7_roundsOne 22 = .ok (.goto 4, 3) := by decide +kernel
theorem dX7_roundsOne_25 : decode cX7_roundsOne 25 = .ok (.iconst 1, 1) := by decide +kernel
theorem dX7_roundsOne_26 : decode cX7_roundsOne 26 = .ok (.iadd, 1) := by decide +kernel
theorem dX7_roundsOne_27 : decode cX7_roundsOne 27 = .ok (.istore_n 3, 1) := by decide +kernel
theorem dX7_roundsOne_28 : decode cX7_roundsOne 28 = .ok (.aload_n 0, 1) := by decide +kernel
theorem dX7_roundsOne_29 : decode cX7_roundsOne 29 = .ok (.getfield 7, 3) := by decide +kernel
theorem dX7_roundsOne_32 : decode cX7_roundsOne 32 = .ok (.iload_n 1, 1) := by decide +kernel
theorem dX7_roundsOne_33 : decode cX7_roundsOne 33 = .ok (.bipush 12, 2) := by decide +kernel
theorem dX7_roundsOne_35 : decode cX7_roundsOne 35 = .ok (.iadd, 1) := by decide +kernel
theorem dX7_roundsOne_36 : decode cX7_roundsOne 36 = .ok (.iload_n 2, 1) := by decide +kernel
theorem dX7_roundsOne_37 : decode cX7_roundsOne 37 = .ok (.iadd, 1) := by decide +kernel
theorem dX7_roundsOne_38 : decode cX7_roundsOne 38 = .ok (.iload_n 3, 1) := by decide +kernel
theorem dX7_roundsOne_39 : decode cX7_roundsOne 39 = .ok (.bipush 7, 2) := by decide +kernel
theorem dX7_roundsOne_41 : decode cX7_roundsOne 41 = .ok (.if_icmp .le 8, 3) := by decide +kernel
theorem dX7_roundsOne_44 : decode cX7_roundsOne 44 = .ok (.bipush 7, 2) := by decide +kernel
theorem dX7_roundsOne_46 : decode cX7_roundsOne 46 = .ok (.goto 4, 3) := by decide +kernel
theorem dX7_roundsOne_49 : decode cX7_roundsOne 49 = .ok (.iload_n 3, 1) := by decide +kernel
theorem dX7_roundsOne_50 : decode cX7_roundsOne 50 = .ok (.iastore, 1) := by decide +kernel
theorem dX7_roundsOne_51 : decode cX7_roundsOne 51 = .ok (.return_, 1) := by decide +kernel
theorem dX7_passes_0 : decode cX7_passes 0 = .ok (.iconst 0, 1) := by decide +kernel
theorem dX7_passes_1 : decode cX7_passes 1 = .ok (.istore_n 2, 1) := by decide +kernel
theorem dX7_passes_2 : decode cX7_passes 2 = .ok (.iload_n 2, 1) := by decide +kernel
theorem dX7_passes_3 : decode cX7_passes 3 = .ok (.aload_n 0, 1) := by decide +kernel
theorem dX7_passes_4 : decode cX7_passes 4 = .ok (.getfield 69, 3) := by decide +kernel
theorem dX7_passes_7 : decode cX7_passes 7 = .ok (.if_icmp .ge 61, 3) := by decide +kernel
theorem dX7_passes_10 : decode cX7_passes 10 = .ok (.aload_n 0, 1) := by decide +kernel
theorem dX7_passes_11 : decode cX7_passes 11 = .ok (.getfield 7, 3) := by decide +kernel
theorem dX7_passes_14 : decode cX7_passes 14 = .ok (.iload_n 1, 1) := by decide +kernel
theorem dX7_passes_15 : decode cX7_passes 15 = .ok (.iconst 2, 1) := by decide +kernel
theorem dX7_passes_16 : decode cX7_passes 16 = .ok (.iadd, 1) := by decide +kernel
theorem dX7_passes_17 : decode cX7_passes 17 = .ok (.iload_n 2, 1) := by decide +kernel
theorem dX7_passes_18 : decode cX7_passes 18 = .ok (.iadd, 1) := by decide +kernel
theorem dX7_passes_19 : decode cX7_passes 19 = .ok (.dup2, 1) := by decide +kernel
theorem dX7_passes_20 : decode cX7_passes 20 = .ok (.iaload, 1) := by decide +kernel
theorem dX7_passes_21 : decode cX7_passes 21 = .ok (.aload_n 0, 1) := by decide +kernel
theorem dX7_passes_22 : decode cX7_passes 22 = .ok (.getfield 13, 3) := by decide +kernel
theorem dX7_passes_25 : decode cX7_passes 25 = .ok (.iload_n 2, 1) := by decide +kernel
theorem dX7_passes_26 : decode cX7_passes 26 = .ok (.iaload, 1) := by decide +kernel
theorem dX7_passes_27 : decode cX7_passes 27 = .ok (.iconst 1, 1) := by decide +kernel
theorem dX7_passes_28 : decode cX7_passes 28 = .ok (.if_icmp .ne 31, 3) := by decide +kernel
theorem dX7_passes_31 : decode cX7_passes 31 = .ok (.aload_n 0, 1) := by decide +kernel
theorem dX7_passes_32 : decode cX7_passes 32 = .ok (.iload_n 1, 1) := by decide +kernel
theorem dX7_passes_33 : decode cX7_passes 33 = .ok (.iload_n 2, 1) := by decide +kernel
theorem dX7_passes_34 : decode cX7_passes 34 = .ok (.invokevirtual 138, 3) := by decide +kernel
theorem dX7_passes_37 : decode cX7_passes 37 = .ok (.ifCond .eq 22, 3) := by decide +kernel
theorem dX7_passes_40 : decode cX7_passes 40 = .ok (.aload_n 0, 1) := by decide +kernel
theorem dX7_passes_41 : decode cX7_passes 41 = .ok (.getfield 7, 3) := by decide +kernel
theorem dX7_passes_44 : decode cX7_passes 44 = .ok (.iload_n 1, 1) := by decide +kernel
theorem dX7_passes_45 : decode cX7_passes 45 = .ok (.iconst 2, 1) := by decide +kernel
theorem dX7_passes_46 : decode cX7_passes 46 = .ok (.iadd, 1) := by decide +kernel
theorem dX7_passes_47 : decode cX7_passes 47 = .ok (.iload_n 2, 1) := by decide +kernel
theorem dX7_passes_48 : decode cX7_passes 48 = .ok (.iadd, 1) := by decide +kernel
theorem dX7_passes_49 : decode cX7_passes 49 = .ok (.iaload, 1) := by decide +kernel
theorem dX7_passes_50 : decode cX7_passes 50 = .ok (.bipush 99, 2) := by decide +kernel
theorem dX7_passes_52 : decode cX7_passes 52 = .ok (.if_icmp .ge 7, 3) := by decide +kernel
theorem dX7_passes_55 : decode cX7_passes 55 = .ok (.iconst 1, 1) := by decide +kernel
theorem dX7_passes_56 : decode cX7_passes 56 = .ok (.goto 4, 3) := by decide +kernel
theorem dX7_passes_59 : decode cX7_passes 59 = .ok (.iconst 0, 1) := by decide +kernel
theorem dX7_passes_60 : decode cX7_passes 60 = .ok (.iadd, 1) := by decide +kernel
theorem dX7_passes_61 : decode cX7_passes 61 = .ok (.iastore, 1) := by decide +kernel
theorem dX7_passes_62 : decode cX7_passes 62 = .ok (.iinc 2 1, 3) := by decide +kernel
theorem dX7_passes_65 : decode cX7_passes 65 = .ok (.goto (-63), 3) := by decide +kernel
theorem dX7_passes_68 : decode cX7_passes 68 = .ok (.aload_n 0, 1) := by decide +kernel
theorem dX7_passes_69 : decode cX7_passes 69 = .ok (.getfield 7, 3) := by decide +kernel
theorem dX7_passes_72 : decode cX7_passes 72 = .ok (.iload_n 1, 1) := by decide +kernel
theorem dX7_passes_73 : decode cX7_passes 73 = .ok (.iconst 1, 1) := by decide +kernel
theorem dX7_passes_74 : decode cX7_passes 74 = .ok (.iadd, 1) := by decide +kernel
theorem dX7_passes_75 : decode cX7_passes 75 = .ok (.dup2, 1) := by decide +kernel
theorem dX7_passes_76 : decode cX7_passes 76 = .ok (.iaload, 1) := by decide +kernel
theorem dX7_passes_77 : decode cX7_passes 77 = .ok (.iconst 1, 1) := by decide +kernel
theorem dX7_passes_78 : decode cX7_passes 78 = .ok (.iadd, 1) := by decide +kernel
theorem dX7_passes_79 : decode cX7_passes 79 = .ok (.iastore, 1) := by decide +kernel
theorem dX7_passes_80 : decode cX7_passes 80 = .ok (.return_, 1) := by decide +kernel
theorem dX7_minds_0 : decode cX7_minds 0 = .ok (.aload_n 0, 1) := by decide +kernel
theorem dX7_minds_1 : decode cX7_minds 1 = .ok (.getfield 79, 3) := by decide +kernel
theorem dX7_minds_4 : decode cX7_minds 4 = .ok (.bipush 8, 2) := by decide +kernel
theorem dX7_minds_6 : decode cX7_minds 6 = .ok (.if_icmp .ne 51, 3) := by decide +kernel
theorem dX7_minds_9 : decode cX7_minds 9 = .ok (.iconst 0, 1) := by decide +kernel
theorem dX7_minds_10 : decode cX7_minds 10 = .ok (.istore_n 1, 1) := by decide +kernel
theorem dX7_minds_11 : decode cX7_minds 11 = .ok (.iload_n 1, 1) := by decide +kernel
theorem dX7_minds_12 : decode cX7_minds 12 = .ok (.sipush 364, 3) := by decide +kernel
theorem dX7_minds_15 : decode cX7_minds 15 = .ok (.if_icmp .ge 32, 3) := by decide +kernel
theorem dX7_minds_18 : decode cX7_minds 18 = .ok (.aload_n 0, 1) := by decide +kernel
theorem dX7_minds_19 : decode cX7_minds 19 = .ok (.getfield 7, 3) := by decide +kernel
theorem dX7_minds_22 : decode cX7_minds 22 = .ok (.sipush 208, 3) := by decide +kernel
theorem dX7_minds_25 : decode cX7_minds 25 = .ok (.iload_n 1, 1) := by decide +kernel
theorem dX7_minds_26 : decode cX7_minds 26 = .ok (.iadd, 1) := by decide +kernel
theorem dX7_minds_27 : decode cX7_minds 27 = .ok (.aload_n 0, 1) := by decide +kernel
theorem dX7_minds_28 : decode cX7_minds 28 = .ok (.getfield 7, 3) := by decide +kernel
theorem dX7_minds_31 : decode cX7_minds 31 = .ok (.sipush 208, 3) := by decide +kernel
theorem dX7_minds_34 : decode cX7_minds 34 = .ok (.iload_n 1, 1) := by decide +kernel
theorem dX7_minds_35 : decode cX7_minds 35 = .ok (.iadd, 1) := by decide +kernel
theorem dX7_minds_36 : decode cX7_minds 36 = .ok (.bipush 52, 2) := by decide +kernel
theorem dX7_minds_38 : decode cX7_minds 38 = .ok (.iadd, 1) := by decide +kernel
theorem dX7_minds_39 : decode cX7_minds 39 = .ok (.iaload, 1) := by decide +kernel
theorem dX7_minds_40 : decode cX7_minds 40 = .ok (.iastore, 1) := by decide +kernel
theorem dX7_minds_41 : decode cX7_minds 41 = .ok (.iinc 1 1, 3) := by decide +kernel
theorem dX7_minds_44 : decode cX7_minds 44 = .ok (.goto (-33), 3) := by decide +kernel
theorem dX7_minds_47 : decode cX7_minds 47 = .ok (.aload_n 0, 1) := by decide +kernel
theorem dX7_minds_48 : decode cX7_minds 48 = .ok (.dup, 1) := by decide +kernel
theorem dX7_minds_49 : decode cX7_minds 49 = .ok (.getfield 79, 3) := by decide +kernel
theorem dX7_minds_52 : decode cX7_minds 52 = .ok (.iconst 1, 1) := by decide +kernel
theorem dX7_minds_53 : decode cX7_minds 53 = .ok (.isub, 1) := by decide +kernel
theorem dX7_minds_54 : decode cX7_minds 54 = .ok (.putfield 79, 3) := by decide +kernel
theorem dX7_minds_57 : decode cX7_minds 57 = .ok (.aload_n 0, 1) := by decide +kernel
theorem dX7_minds_58 : decode cX7_minds 58 = .ok (.iconst 0, 1) := by decide +kernel
theorem dX7_minds_59 : decode cX7_minds 59 = .ok (.sipush 208, 3) := by decide +kernel
theorem dX7_minds_62 : decode cX7_minds 62 = .ok (.bipush 52, 2) := by decide +kernel
theorem dX7_minds_64 : decode cX7_minds 64 = .ok (.aload_n 0, 1) := by decide +kernel
theorem dX7_minds_65 : decode cX7_minds 65 = .ok (.getfield 79, 3) := by decide +kernel
theorem dX7_minds_68 : decode cX7_minds 68 = .ok (.imul, 1) := by decide +kernel
theorem dX7_minds_69 : decode cX7_minds 69 = .ok (.iadd, 1) := by decide +kernel
theorem dX7_minds_70 : decode cX7_minds 70 = .ok (.invokevirtual 153, 3) := by decide +kernel
theorem dX7_minds_73 : decode cX7_minds 73 = .ok (.aload_n 0, 1) := by decide +kernel
theorem dX7_minds_74 : decode cX7_minds 74 = .ok (.dup, 1) := by decide +kernel
theorem dX7_minds_75 : decode cX7_minds 75 = .ok (.getfield 79, 3) := by decide +kernel
theorem dX7_minds_78 : decode cX7_minds 78 = .ok (.iconst 1, 1) := by decide +kernel
theorem dX7_minds_79 : decode cX7_minds 79 = .ok (.iadd, 1) := by decide +kernel
theorem dX7_minds_80 : decode cX7_minds 80 = .ok (.putfield 79, 3) := by decide +kernel
theorem dX7_minds_83 : decode cX7_minds 83 = .ok (.return_, 1) := by decide +kernel
theorem dX7_round_0 : decode cX7_round 0 = .ok (.aload_n 0, 1) := by decide +kernel
theorem dX7_round_1 : decode cX7_round 1 = .ok (.iload_n 1, 1) := by decide +kernel
theorem dX7_round_2 : decode cX7_round 2 = .ok (.invokevirtual 130, 3) := by decide +kernel
theorem dX7_round_5 : decode cX7_round 5 = .ok (.ifCond .ne 5, 3) := by decide +kernel
theorem dX7_round_8 : decode cX7_round 8 = .ok (.iconst (-1), 1) := by decide +kernel
theorem dX7_round_9 : decode cX7_round 9 = .ok (.ireturn, 1) := by decide +kernel
theorem dX7_round_10 : decode cX7_round 10 = .ok (.aload_n 0, 1) := by decide +kernel
theorem dX7_round_11 : decode cX7_round 11 = .ok (.iconst 0, 1) := by decide +kernel
theorem dX7_round_12 : decode cX7_round 12 = .ok (.iload_n 1, 1) := by decide +kernel
theorem dX7_round_13 : decode cX7_round 13 = .ok (.invokevirtual 138, 3) := by decide +kernel
theorem dX7_round_16 : decode cX7_round 16 = .ok (.ifCond .ne 6, 3) := by decide +kernel
theorem dX7_round_19 : decode cX7_round 19 = .ok (.bipush (-2), 2) := by decide +kernel
theorem dX7_round_21 : decode cX7_round 21 = .ok (.ireturn, 1) := by decide +kernel
theorem dX7_round_22 : decode cX7_round 22 = .ok (.aload_n 0, 1) := by decide +kernel
theorem dX7_round_23 : decode cX7_round 23 = .ok (.getfield 7, 3) := by decide +kernel
theorem dX7_round_26 : decode cX7_round 26 = .ok (.bipush 12, 2) := by decide +kernel
theorem dX7_round_28 : decode cX7_round 28 = .ok (.iload_n 1, 1) := by decide +kernel
theorem dX7_round_29 : decode cX7_round 29 = .ok (.iadd, 1) := by decide +kernel
theorem dX7_round_30 : decode cX7_round 30 = .ok (.iaload, 1) := by decide +kernel
theorem dX7_round_31 : decode cX7_round 31 = .ok (.bipush 7, 2) := by decide +kernel
theorem dX7_round_33 : decode cX7_round 33 = .ok (.if_icmp .ne 6, 3) := by decide +kernel
theorem dX7_round_36 : decode cX7_round 36 = .ok (.bipush (-3), 2) := by decide +kernel
theorem dX7_round_38 : decode cX7_round 38 = .ok (.ireturn, 1) := by decide +kernel
theorem dX7_round_39 : decode cX7_round 39 = .ok (.aload_n 0, 1) := by decide +kernel
theorem dX7_round_40 : decode cX7_round 40 = .ok (.invokevirtual 157, 3) := by decide +kernel
theorem dX7_round_43 : decode cX7_round 43 = .ok (.aload_n 0, 1) := by decide +kernel
theorem dX7_round_44 : decode cX7_round 44 = .ok (.iconst 0, 1) := by decide +kernel
theorem dX7_round_45 : decode cX7_round 45 = .ok (.iload_n 1, 1) := by decide +kernel
theorem dX7_round_46 : decode cX7_round 46 = .ok (.invokevirtual 160, 3) := by decide +kernel
theorem dX7_round_49 : decode cX7_round 49 = .ok (.aload_n 0, 1) := by decide +kernel
theorem dX7_round_50 : decode cX7_round 50 = .ok (.getfield 7, 3) := by decide +kernel
theorem dX7_round_53 : decode cX7_round 53 = .ok (.bipush 12, 2) := by decide +kernel
theorem dX7_round_55 : decode cX7_round 55 = .ok (.iload_n 1, 1) := by decide +kernel
theorem dX7_round_56 : decode cX7_round 56 = .ok (.iadd, 1) := by decide +kernel
theorem dX7_round_57 : decode cX7_round 57 = .ok (.iaload, 1) := by decide +kernel
theorem dX7_round_58 : decode cX7_round 58 = .ok (.ireturn, 1) := by decide +kernel
theorem dX7_blast_0 : decode cX7_blast 0 = .ok (.aload_n 0, 1) := by decide +kernel
theorem dX7_blast_1 : decode cX7_blast 1 = .ok (.iload_n 1, 1) := by decide +kernel
theorem dX7_blast_2 : decode cX7_blast 2 = .ok (.invokevirtual 130, 3) := by decide +kernel
theorem dX7_blast_5 : decode cX7_blast 5 = .ok (.ifCond .eq 15, 3) := by decide +kernel
theorem dX7_blast_8 : decode cX7_blast 8 = .ok (.iload_n 2, 1) := by decide +kernel
theorem dX7_blast_9 : decode cX7_blast 9 = .ok (.i2l, 1) := by decide +kernel
theorem dX7_blast_10 : decode cX7_blast 10 = .ok (.lconst 1, 1) := by decide +kernel
theorem dX7_blast_11 : decode cX7_blast 11 = .ok (.ldc2_w 163, 3) := by decide +kernel
theorem dX7_blast_14 : decode cX7_blast 14 = .ok (.invokestatic 72, 3) := by decide +kernel
theorem dX7_blast_17 : decode cX7_blast 17 = .ok (.ifCond .ne 5, 3) := by decide +kernel
theorem dX7_blast_20 : decode cX7_blast 20 = .ok (.iconst (-1), 1) := by decide +kernel
theorem dX7_blast_21 : decode cX7_blast 21 = .ok (.ireturn, 1) := by decide +kernel
theorem dX7_blast_22 : decode cX7_blast 22 = .ok (.aload_n 0, 1) := by decide +kernel
theorem dX7_blast_23 : decode cX7_blast 23 = .ok (.iconst 0, 1) := by decide +kernel
theorem dX7_blast_24 : decode cX7_blast 24 = .ok (.iload_n 1, 1) := by decide +kernel
theorem dX7_blast_25 : decode cX7_blast 25 = .ok (.invokevirtual 138, 3) := by decide +kernel
theorem dX7_blast_28 : decode cX7_blast 28 = .ok (.ifCond .ne 6, 3) := by decide +kernel
theorem dX7_blast_31 : decode cX7_blast 31 = .ok (.bipush (-2), 2) := by decide +kernel
theorem dX7_blast_33 : decode cX7_blast 33 = .ok (.ireturn, 1) := by decide +kernel
theorem dX7_blast_34 : decode cX7_blast 34 = .ok (.aload_n 0, 1) := by decide +kernel
theorem dX7_blast_35 : decode cX7_blast 35 = .ok (.invokevirtual 157, 3) := by decide +kernel
theorem dX7_blast_38 : decode cX7_blast 38 = .ok (.aload_n 0, 1) := by decide +kernel
theorem dX7_blast_39 : decode cX7_blast 39 = .ok (.iconst 0, 1) := by decide +kernel
theorem dX7_blast_40 : decode cX7_blast 40 = .ok (.iload_n 1, 1) := by decide +kernel
theorem dX7_blast_41 : decode cX7_blast 41 = .ok (.iload_n 2, 1) := by decide +kernel
theorem dX7_blast_42 : decode cX7_blast 42 = .ok (.invokevirtual 165, 3) := by decide +kernel
theorem dX7_blast_45 : decode cX7_blast 45 = .ok (.ireturn, 1) := by decide +kernel
theorem dX7_pass_0 : decode cX7_pass 0 = .ok (.iload_n 1, 1) := by decide +kernel
theorem dX7_pass_1 : decode cX7_pass 1 = .ok (.i2l, 1) := by decide +kernel
theorem dX7_pass_2 : decode cX7_pass 2 = .ok (.lconst 1, 1) := by decide +kernel
theorem dX7_pass_3 : decode cX7_pass 3 = .ok (.ldc2_w 169, 3) := by decide +kernel
theorem dX7_pass_6 : decode cX7_pass 6 = .ok (.invokestatic 72, 3) := by decide +kernel
theorem dX7_pass_9 : decode cX7_pass 9 = .ok (.ifCond .ne 5, 3) := by decide +kernel
theorem dX7_pass_12 : decode cX7_pass 12 = .ok (.iconst (-1), 1) := by decide +kernel
theorem dX7_pass_13 : decode cX7_pass 13 = .ok (.ireturn, 1) := by decide +kernel
theorem dX7_pass_14 : decode cX7_pass 14 = .ok (.aload_n 0, 1) := by decide +kernel
theorem dX7_pass_15 : decode cX7_pass 15 = .ok (.invokevirtual 157, 3) := by decide +kernel
theorem dX7_pass_18 : decode cX7_pass 18 = .ok (.iconst 0, 1) := by decide +kernel
theorem dX7_pass_19 : decode cX7_pass 19 = .ok (.istore_n 2, 1) := by decide +kernel
theorem dX7_pass_20 : decode cX7_pass 20 = .ok (.iload_n 2, 1) := by decide +kernel
theorem dX7_pass_21 : decode cX7_pass 21 = .ok (.iload_n 1, 1) := by decide +kernel
theorem dX7_pass_22 : decode cX7_pass 22 = .ok (.if_icmp .ge 14, 3) := by decide +kernel
theorem dX7_pass_25 : decode cX7_pass 25 = .ok (.aload_n 0, 1) := by decide +kernel
theorem dX7_pass_26 : decode cX7_pass 26 = .ok (.iconst 0, 1) := by decide +kernel
theorem dX7_pass_27 : decode cX7_pass 27 = .ok (.invokevirtual 171, 3) := by decide +kernel
theorem dX7_pass_30 : decode cX7_pass 30 = .ok (.iinc 2 1, 3) := by decide +kernel
theorem dX7_pass_33 : decode cX7_pass 33 = .ok (.goto (-13), 3) := by decide +kernel
theorem dX7_pass_36 : decode cX7_pass 36 = .ok (.aload_n 0, 1) := by decide +kernel
theorem dX7_pass_37 : decode cX7_pass 37 = .ok (.getfield 7, 3) := by decide +kernel
theorem dX7_pass_40 : decode cX7_pass 40 = .ok (.iconst 1, 1) := by decide +kernel
theorem dX7_pass_41 : decode cX7_pass 41 = .ok (.iaload, 1) := by decide +kernel
theorem dX7_pass_42 : decode cX7_pass 42 = .ok (.ireturn, 1) := by decide +kernel
theorem dX7_prop_0 : decode cX7_prop 0 = .ok (.aload_n 0, 1) := by decide +kernel
theorem dX7_prop_1 : decode cX7_prop 1 = .ok (.iload_n 1, 1) := by decide +kernel
theorem dX7_prop_2 : decode cX7_prop 2 = .ok (.invokevirtual 130, 3) := by decide +kernel
theorem dX7_prop_5 : decode cX7_prop 5 = .ok (.ifCond .eq 28, 3) := by decide +kernel
theorem dX7_prop_8 : decode cX7_prop 8 = .ok (.aload_n 0, 1) := by decide +kernel
theorem dX7_prop_9 : decode cX7_prop 9 = .ok (.iload_n 2, 1) := by decide +kernel
theorem dX7_prop_10 : decode cX7_prop 10 = .ok (.invokevirtual 130, 3) := by decide +kernel
theorem dX7_prop_13 : decode cX7_prop 13 = .ok (.ifCond .eq 20, 3) := by decide +kernel
theorem dX7_prop_16 : decode cX7_prop 16 = .ok (.iload_n 1, 1) := by decide +kernel
theorem dX7_prop_17 : decode cX7_prop 17 = .ok (.iload_n 2, 1) := by decide +kernel
theorem dX7_prop_18 : decode cX7_prop 18 = .ok (.if_icmp .eq 15, 3) := by decide +kernel
theorem dX7_prop_21 : decode cX7_prop 21 = .ok (.iload_n 3, 1) := by decide +kernel
theorem dX7_prop_22 : decode cX7_prop 22 = .ok (.i2l, 1) := by decide +kernel
theorem dX7_prop_23 : decode cX7_prop 23 = .ok (.lconst 0, 1) := by decide +kernel
theorem dX7_prop_24 : decode cX7_prop 24 = .ok (.ldc2_w 175, 3) := by decide +kernel
theorem dX7_prop_27 : decode cX7_prop 27 = .ok (.invokestatic 72, 3) := by decide +kernel
theorem dX7_prop_30 : decode cX7_prop 30 = .ok (.ifCond .ne 5, 3) := by decide +kernel
theorem dX7_prop_33 : decode cX7_prop 33 = .ok (.iconst (-1), 1) := by decide +kernel
theorem dX7_prop_34 : decode cX7_prop 34 = .ok (.ireturn, 1) := by decide +kernel
theorem dX7_prop_35 : decode cX7_prop 35 = .ok (.aload_n 0, 1) := by decide +kernel
theorem dX7_prop_36 : decode cX7_prop 36 = .ok (.getfield 7, 3) := by decide +kernel
theorem dX7_prop_39 : decode cX7_prop 39 = .ok (.bipush 27, 2) := by decide +kernel
theorem dX7_prop_41 : decode cX7_prop 41 = .ok (.iconst 5, 1) := by decide +kernel
theorem dX7_prop_42 : decode cX7_prop 42 = .ok (.iload_n 1, 1) := by decide +kernel
theorem dX7_prop_43 : decode cX7_prop 43 = .ok (.imul, 1) := by decide +kernel
theorem dX7_prop_44 : decode cX7_prop 44 = .ok (.iadd, 1) := by decide +kernel
theorem dX7_prop_45 : decode cX7_prop 45 = .ok (.iload_n 2, 1) := by decide +kernel
theorem dX7_prop_46 : decode cX7_prop 46 = .ok (.iadd, 1) := by decide +kernel
theorem dX7_prop_47 : decode cX7_prop 47 = .ok (.iaload, 1) := by decide +kernel
theorem dX7_prop_48 : decode cX7_prop 48 = .ok (.istore 4, 2) := by decide +kernel
theorem dX7_prop_50 : decode cX7_prop 50 = .ok (.iload 4, 2) := by decide +kernel
theorem dX7_prop_52 : decode cX7_prop 52 = .ok (.iload_n 3, 1) := by decide +kernel
theorem dX7_prop_53 : decode cX7_prop 53 = .ok (.if_icmp .ne 6, 3) := by decide +kernel
theorem dX7_prop_56 : decode cX7_prop 56 = .ok (.bipush (-2), 2) := by decide +kernel
theorem dX7_prop_58 : decode cX7_prop 58 = .ok (.ireturn, 1) := by decide +kernel
theorem dX7_prop_59 : decode cX7_prop 59 = .ok (.aload_n 0, 1) := by decide +kernel
theorem dX7_prop_60 : decode cX7_prop 60 = .ok (.invokevirtual 157, 3) := by decide +kernel
theorem dX7_prop_63 : decode cX7_prop 63 = .ok (.aload_n 0, 1) := by decide +kernel
theorem dX7_prop_64 : decode cX7_prop 64 = .ok (.getfield 7, 3) := by decide +kernel
theorem dX7_prop_67 : decode cX7_prop 67 = .ok (.bipush 27, 2) := by decide +kernel
theorem dX7_prop_69 : decode cX7_prop 69 = .ok (.iconst 5, 1) := by decide +kernel
theorem dX7_prop_70 : decode cX7_prop 70 = .ok (.iload_n 1, 1) := by decide +kernel
theorem dX7_prop_71 : decode cX7_prop 71 = .ok (.imul, 1) := by decide +kernel
theorem dX7_prop_72 : decode cX7_prop 72 = .ok (.iadd, 1) := by decide +kernel
theorem dX7_prop_73 : decode cX7_prop 73 = .ok (.iload_n 2, 1) := by decide +kernel
theorem dX7_prop_74 : decode cX7_prop 74 = .ok (.iadd, 1) := by decide +kernel
theorem dX7_prop_75 : decode cX7_prop 75 = .ok (.iload_n 3, 1) := by decide +kernel
theorem dX7_prop_76 : decode cX7_prop 76 = .ok (.iastore, 1) := by decide +kernel
theorem dX7_prop_77 : decode cX7_prop 77 = .ok (.iload 4, 2) := by decide +kernel
theorem dX7_prop_79 : decode cX7_prop 79 = .ok (.ireturn, 1) := by decide +kernel
theorem dX7_use_0 : decode cX7_use 0 = .ok (.iload_n 1, 1) := by decide +kernel
theorem dX7_use_1 : decode cX7_use 1 = .ok (.i2l, 1) := by decide +kernel
theorem dX7_use_2 : decode cX7_use 2 = .ok (.lconst 1, 1) := by decide +kernel
theorem dX7_use_3 : decode cX7_use 3 = .ok (.ldc2_w 177, 3) := by decide +kernel
theorem dX7_use_6 : decode cX7_use 6 = .ok (.invokestatic 72, 3) := by decide +kernel
theorem dX7_use_9 : decode cX7_use 9 = .ok (.ifCond .ne 5, 3) := by decide +kernel
theorem dX7_use_12 : decode cX7_use 12 = .ok (.iconst (-1), 1) := by decide +kernel
theorem dX7_use_13 : decode cX7_use 13 = .ok (.ireturn, 1) := by decide +kernel
theorem dX7_use_14 : decode cX7_use 14 = .ok (.aload_n 0, 1) := by decide +kernel
theorem dX7_use_15 : decode cX7_use 15 = .ok (.getfield 7, 3) := by decide +kernel
theorem dX7_use_18 : decode cX7_use 18 = .ok (.iconst 0, 1) := by decide +kernel
theorem dX7_use_19 : decode cX7_use 19 = .ok (.iaload, 1) := by decide +kernel
theorem dX7_use_20 : decode cX7_use 20 = .ok (.iload_n 1, 1) := by decide +kernel
theorem dX7_use_21 : decode cX7_use 21 = .ok (.if_icmp .ge 6, 3) := by decide +kernel
theorem dX7_use_24 : decode cX7_use 24 = .ok (.bipush (-2), 2) := by decide +kernel
theorem dX7_use_26 : decode cX7_use 26 = .ok (.ireturn, 1) := by decide +kernel
theorem dX7_use_27 : decode cX7_use 27 = .ok (.aload_n 0, 1) := by decide +kernel
theorem dX7_use_28 : decode cX7_use 28 = .ok (.invokevirtual 157, 3) := by decide +kernel
theorem dX7_use_31 : decode cX7_use 31 = .ok (.aload_n 0, 1) := by decide +kernel
theorem dX7_use_32 : decode cX7_use 32 = .ok (.getfield 7, 3) := by decide +kernel
theorem dX7_use_35 : decode cX7_use 35 = .ok (.iconst 0, 1) := by decide +kernel
theorem dX7_use_36 : decode cX7_use 36 = .ok (.dup2, 1) := by decide +kernel
theorem dX7_use_37 : decode cX7_use 37 = .ok (.iaload, 1) := by decide +kernel
theorem dX7_use_38 : decode cX7_use 38 = .ok (.iload_n 1, 1) := by decide +kernel
theorem dX7_use_39 : decode cX7_use 39 = .ok (.isub, 1) := by decide +kernel
theorem dX7_use_40 : decode cX7_use 40 = .ok (.iastore, 1) := by decide +kernel
theorem dX7_use_41 : decode cX7_use 41 = .ok (.aload_n 0, 1) := by decide +kernel
theorem dX7_use_42 : decode cX7_use 42 = .ok (.getfield 7, 3) := by decide +kernel
theorem dX7_use_45 : decode cX7_use 45 = .ok (.iconst 0, 1) := by decide +kernel
theorem dX7_use_46 : decode cX7_use 46 = .ok (.iaload, 1) := by decide +kernel
theorem dX7_use_47 : decode cX7_use 47 = .ok (.ireturn, 1) := by decide +kernel
theorem dX7_undo_0 : decode cX7_undo 0 = .ok (.aload_n 0, 1) := by decide +kernel
theorem dX7_undo_1 : decode cX7_undo 1 = .ok (.getfield 79, 3) := by decide +kernel
theorem dX7_undo_4 : decode cX7_undo 4 = .ok (.ifCond .ne 6, 3) := by decide +kernel
theorem dX7_undo_7 : decode cX7_undo 7 = .ok (.bipush (-2), 2) := by decide +kernel
theorem dX7_undo_9 : decode cX7_undo 9 = .ok (.ireturn, 1) := by decide +kernel
theorem dX7_undo_10 : decode cX7_undo 10 = .ok (.aload_n 0, 1) := by decide +kernel
theorem dX7_undo_11 : decode cX7_undo 11 = .ok (.dup, 1) := by decide +kernel
theorem dX7_undo_12 : decode cX7_undo 12 = .ok (.getfield 79, 3) := by decide +kernel
theorem dX7_undo_15 : decode cX7_undo 15 = .ok (.iconst 1, 1) := by decide +kernel
theorem dX7_undo_16 : decode cX7_undo 16 = .ok (.isub, 1) := by decide +kernel
theorem dX7_undo_17 : decode cX7_undo 17 = .ok (.putfield 79, 3) := by decide +kernel
theorem dX7_undo_20 : decode cX7_undo 20 = .ok (.aload_n 0, 1) := by decide +kernel
theorem dX7_undo_21 : decode cX7_undo 21 = .ok (.sipush 208, 3) := by decide +kernel
theorem dX7_undo_24 : decode cX7_undo 24 = .ok (.bipush 52, 2) := by decide +kernel
theorem dX7_undo_26 : decode cX7_undo 26 = .ok (.aload_n 0, 1) := by decide +kernel
theorem dX7_undo_27 : decode cX7_undo 27 = .ok (.getfield 79, 3) := by decide +kernel
theorem dX7_undo_30 : decode cX7_undo 30 = .ok (.imul, 1) := by decide +kernel
theorem dX7_undo_31 : decode cX7_undo 31 = .ok (.iadd, 1) := by decide +kernel
theorem dX7_undo_32 : decode cX7_undo 32 = .ok (.iconst 0, 1) := by decide +kernel
theorem dX7_undo_33 : decode cX7_undo 33 = .ok (.invokevirtual 153, 3) := by decide +kernel
end
section
theorem dX7_undo_36 : decode cX7_undo 36 = .ok (.aload_n 0, 1) := by decide +kernel
theorem dX7_undo_37 : decode cX7_undo 37 = .ok (.getfield 79, 3) := by decide +kernel
theorem dX7_undo_40 : decode cX7_undo 40 = .ok (.ireturn, 1) := by decide +kernel
theorem dX7_callsIn_0 : decode cX7_callsIn 0 = .ok (.iconst 1, 1) := by decide +kernel
theorem dX7_callsIn_1 : decode cX7_callsIn 1 = .ok (.istore_n 3, 1) := by decide +kernel
theorem dX7_callsIn_2 : decode cX7_callsIn 2 = .ok (.iload_n 3, 1) := by decide +kernel
theorem dX7_callsIn_3 : decode cX7_callsIn 3 = .ok (.bipush 10, 2) := by decide +kernel
theorem dX7_callsIn_5 : decode cX7_callsIn 5 = .ok (.if_icmp .ge 21, 3) := by decide +kernel
theorem dX7_callsIn_8 : decode cX7_callsIn 8 = .ok (.aload_n 0, 1) := by decide +kernel
theorem dX7_callsIn_9 : decode cX7_callsIn 9 = .ok (.iload_n 1, 1) := by decide +kernel
theorem dX7_callsIn_10 : decode cX7_callsIn 10 = .ok (.iload_n 2, 1) := by decide +kernel
theorem dX7_callsIn_11 : decode cX7_callsIn 11 = .ok (.iload_n 3, 1) := by decide +kernel
theorem dX7_callsIn_12 : decode cX7_callsIn 12 = .ok (.invokevirtual 146, 3) := by decide +kernel
theorem dX7_callsIn_15 : decode cX7_callsIn 15 = .ok (.ifCond .eq 5, 3) := by decide +kernel
theorem dX7_callsIn_18 : decode cX7_callsIn 18 = .ok (.iload_n 3, 1) := by decide +kernel
theorem dX7_callsIn_19 : decode cX7_callsIn 19 = .ok (.ireturn, 1) := by decide +kernel
theorem dX7_callsIn_20 : decode cX7_callsIn 20 = .ok (.iinc 3 1, 3) := by decide +kernel
theorem dX7_callsIn_23 : decode cX7_callsIn 23 = .ok (.goto (-21), 3) := by decide +kernel
theorem dX7_callsIn_26 : decode cX7_callsIn 26 = .ok (.bipush (-4), 2) := by decide +kernel
theorem dX7_callsIn_28 : decode cX7_callsIn 28 = .ok (.ireturn, 1) := by decide +kernel
theorem dX7_calls_0 : decode cX7_calls 0 = .ok (.aload_n 0, 1) := by decide +kernel
theorem dX7_calls_1 : decode cX7_calls 1 = .ok (.iload_n 1, 1) := by decide +kernel
theorem dX7_calls_2 : decode cX7_calls 2 = .ok (.invokevirtual 130, 3) := by decide +kernel
theorem dX7_calls_5 : decode cX7_calls 5 = .ok (.ifCond .ne 7, 3) := by decide +kernel
theorem dX7_calls_8 : decode cX7_calls 8 = .ok (.iconst (-1), 1) := by decide +kernel
theorem dX7_calls_9 : decode cX7_calls 9 = .ok (.goto 23, 3) := by decide +kernel
theorem dX7_calls_12 : decode cX7_calls 12 = .ok (.aload_n 0, 1) := by decide +kernel
theorem dX7_calls_13 : decode cX7_calls 13 = .ok (.iconst 0, 1) := by decide +kernel
theorem dX7_calls_14 : decode cX7_calls 14 = .ok (.iload_n 1, 1) := by decide +kernel
theorem dX7_calls_15 : decode cX7_calls 15 = .ok (.invokevirtual 138, 3) := by decide +kernel
theorem dX7_calls_18 : decode cX7_calls 18 = .ok (.ifCond .ne 8, 3) := by decide +kernel
theorem dX7_calls_21 : decode cX7_calls 21 = .ok (.bipush (-2), 2) := by decide +kernel
theorem dX7_calls_23 : decode cX7_calls 23 = .ok (.goto 9, 3) := by decide +kernel
theorem dX7_calls_26 : decode cX7_calls 26 = .ok (.aload_n 0, 1) := by decide +kernel
theorem dX7_calls_27 : decode cX7_calls 27 = .ok (.iconst 0, 1) := by decide +kernel
theorem dX7_calls_28 : decode cX7_calls 28 = .ok (.iload_n 1, 1) := by decide +kernel
theorem dX7_calls_29 : decode cX7_calls 29 = .ok (.invokevirtual 179, 3) := by decide +kernel
theorem dX7_calls_32 : decode cX7_calls 32 = .ok (.ireturn, 1) := by decide +kernel
theorem dX7_tries_0 : decode cX7_tries 0 = .ok (.aload_n 0, 1) := by decide +kernel
theorem dX7_tries_1 : decode cX7_tries 1 = .ok (.iconst 0, 1) := by decide +kernel
theorem dX7_tries_2 : decode cX7_tries 2 = .ok (.bipush 52, 2) := by decide +kernel
theorem dX7_tries_4 : decode cX7_tries 4 = .ok (.invokevirtual 153, 3) := by decide +kernel
theorem dX7_tries_7 : decode cX7_tries 7 = .ok (.return_, 1) := by decide +kernel
theorem dX7_rounds_0 : decode cX7_rounds 0 = .ok (.aload_n 0, 1) := by decide +kernel
theorem dX7_rounds_1 : decode cX7_rounds 1 = .ok (.iload_n 1, 1) := by decide +kernel
theorem dX7_rounds_2 : decode cX7_rounds 2 = .ok (.invokevirtual 130, 3) := by decide +kernel
theorem dX7_rounds_5 : decode cX7_rounds 5 = .ok (.ifCond .eq 15, 3) := by decide +kernel
theorem dX7_rounds_8 : decode cX7_rounds 8 = .ok (.iload_n 2, 1) := by decide +kernel
theorem dX7_rounds_9 : decode cX7_rounds 9 = .ok (.i2l, 1) := by decide +kernel
theorem dX7_rounds_10 : decode cX7_rounds 10 = .ok (.lconst 1, 1) := by decide +kernel
theorem dX7_rounds_11 : decode cX7_rounds 11 = .ok (.ldc2_w 163, 3) := by decide +kernel
theorem dX7_rounds_14 : decode cX7_rounds 14 = .ok (.invokestatic 72, 3) := by decide +kernel
theorem dX7_rounds_17 : decode cX7_rounds 17 = .ok (.ifCond .ne 5, 3) := by decide +kernel
theorem dX7_rounds_20 : decode cX7_rounds 20 = .ok (.iconst (-1), 1) := by decide +kernel
theorem dX7_rounds_21 : decode cX7_rounds 21 = .ok (.ireturn, 1) := by decide +kernel
theorem dX7_rounds_22 : decode cX7_rounds 22 = .ok (.aload_n 0, 1) := by decide +kernel
theorem dX7_rounds_23 : decode cX7_rounds 23 = .ok (.iconst 0, 1) := by decide +kernel
theorem dX7_rounds_24 : decode cX7_rounds 24 = .ok (.iload_n 1, 1) := by decide +kernel
theorem dX7_rounds_25 : decode cX7_rounds 25 = .ok (.invokevirtual 138, 3) := by decide +kernel
theorem dX7_rounds_28 : decode cX7_rounds 28 = .ok (.ifCond .ne 6, 3) := by decide +kernel
theorem dX7_rounds_31 : decode cX7_rounds 31 = .ok (.bipush (-2), 2) := by decide +kernel
theorem dX7_rounds_33 : decode cX7_rounds 33 = .ok (.ireturn, 1) := by decide +kernel
theorem dX7_rounds_34 : decode cX7_rounds 34 = .ok (.aload_n 0, 1) := by decide +kernel
theorem dX7_rounds_35 : decode cX7_rounds 35 = .ok (.invokevirtual 183, 3) := by decide +kernel
theorem dX7_rounds_38 : decode cX7_rounds 38 = .ok (.iconst 0, 1) := by decide +kernel
theorem dX7_rounds_39 : decode cX7_rounds 39 = .ok (.istore_n 3, 1) := by decide +kernel
theorem dX7_rounds_40 : decode cX7_rounds 40 = .ok (.iload_n 3, 1) := by decide +kernel
theorem dX7_rounds_41 : decode cX7_rounds 41 = .ok (.bipush 8, 2) := by decide +kernel
theorem dX7_rounds_43 : decode cX7_rounds 43 = .ok (.if_icmp .ge 64, 3) := by decide +kernel
theorem dX7_rounds_46 : decode cX7_rounds 46 = .ok (.aload_n 0, 1) := by decide +kernel
theorem dX7_rounds_47 : decode cX7_rounds 47 = .ok (.bipush 52, 2) := by decide +kernel
theorem dX7_rounds_49 : decode cX7_rounds 49 = .ok (.iload_n 1, 1) := by decide +kernel
theorem dX7_rounds_50 : decode cX7_rounds 50 = .ok (.iload_n 2, 1) := by decide +kernel
theorem dX7_rounds_51 : decode cX7_rounds 51 = .ok (.invokevirtual 146, 3) := by decide +kernel
theorem dX7_rounds_54 : decode cX7_rounds 54 = .ok (.ifCond .eq 23, 3) := by decide +kernel
theorem dX7_rounds_57 : decode cX7_rounds 57 = .ok (.aload_n 0, 1) := by decide +kernel
theorem dX7_rounds_58 : decode cX7_rounds 58 = .ok (.getfield 7, 3) := by decide +kernel
theorem dX7_rounds_61 : decode cX7_rounds 61 = .ok (.bipush 64, 2) := by decide +kernel
theorem dX7_rounds_63 : decode cX7_rounds 63 = .ok (.iload_n 1, 1) := by decide +kernel
theorem dX7_rounds_64 : decode cX7_rounds 64 = .ok (.iadd, 1) := by decide +kernel
theorem dX7_rounds_65 : decode cX7_rounds 65 = .ok (.iaload, 1) := by decide +kernel
theorem dX7_rounds_66 : decode cX7_rounds 66 = .ok (.aload_n 0, 1) := by decide +kernel
theorem dX7_rounds_67 : decode cX7_rounds 67 = .ok (.getfield 19, 3) := by decide +kernel
theorem dX7_rounds_70 : decode cX7_rounds 70 = .ok (.iload_n 1, 1) := by decide +kernel
theorem dX7_rounds_71 : decode cX7_rounds 71 = .ok (.iaload, 1) := by decide +kernel
theorem dX7_rounds_72 : decode cX7_rounds 72 = .ok (.if_icmp .lt 5, 3) := by decide +kernel
theorem dX7_rounds_75 : decode cX7_rounds 75 = .ok (.iload_n 3, 1) := by decide +kernel
theorem dX7_rounds_76 : decode cX7_rounds 76 = .ok (.ireturn, 1) := by decide +kernel
theorem dX7_rounds_77 : decode cX7_rounds 77 = .ok (.aload_n 0, 1) := by decide +kernel
theorem dX7_rounds_78 : decode cX7_rounds 78 = .ok (.getfield 7, 3) := by decide +kernel
theorem dX7_rounds_81 : decode cX7_rounds 81 = .ok (.bipush 64, 2) := by decide +kernel
theorem dX7_rounds_83 : decode cX7_rounds 83 = .ok (.iload_n 1, 1) := by decide +kernel
theorem dX7_rounds_84 : decode cX7_rounds 84 = .ok (.iadd, 1) := by decide +kernel
theorem dX7_rounds_85 : decode cX7_rounds 85 = .ok (.iaload, 1) := by decide +kernel
theorem dX7_rounds_86 : decode cX7_rounds 86 = .ok (.bipush 7, 2) := by decide +kernel
theorem dX7_rounds_88 : decode cX7_rounds 88 = .ok (.if_icmp .ne 6, 3) := by decide +kernel
theorem dX7_rounds_91 : decode cX7_rounds 91 = .ok (.bipush (-4), 2) := by decide +kernel
theorem dX7_rounds_93 : decode cX7_rounds 93 = .ok (.ireturn, 1) := by decide +kernel
theorem dX7_rounds_94 : decode cX7_rounds 94 = .ok (.aload_n 0, 1) := by decide +kernel
theorem dX7_rounds_95 : decode cX7_rounds 95 = .ok (.bipush 52, 2) := by decide +kernel
theorem dX7_rounds_97 : decode cX7_rounds 97 = .ok (.iload_n 1, 1) := by decide +kernel
theorem dX7_rounds_98 : decode cX7_rounds 98 = .ok (.invokevirtual 160, 3) := by decide +kernel
theorem dX7_rounds_101 : decode cX7_rounds 101 = .ok (.iinc 3 1, 3) := by decide +kernel
theorem dX7_rounds_104 : decode cX7_rounds 104 = .ok (.goto (-64), 3) := by decide +kernel
theorem dX7_rounds_107 : decode cX7_rounds 107 = .ok (.bipush (-4), 2) := by decide +kernel
theorem dX7_rounds_109 : decode cX7_rounds 109 = .ok (.ireturn, 1) := by decide +kernel
theorem dX7_downOnes_0 : decode cX7_downOnes 0 = .ok (.iconst 0, 1) := by decide +kernel
theorem dX7_downOnes_1 : decode cX7_downOnes 1 = .ok (.istore_n 2, 1) := by decide +kernel
theorem dX7_downOnes_2 : decode cX7_downOnes 2 = .ok (.iconst 0, 1) := by decide +kernel
theorem dX7_downOnes_3 : decode cX7_downOnes 3 = .ok (.istore_n 3, 1) := by decide +kernel
theorem dX7_downOnes_4 : decode cX7_downOnes 4 = .ok (.iload_n 3, 1) := by decide +kernel
theorem dX7_downOnes_5 : decode cX7_downOnes 5 = .ok (.aload_n 0, 1) := by decide +kernel
theorem dX7_downOnes_6 : decode cX7_downOnes 6 = .ok (.getfield 69, 3) := by decide +kernel
theorem dX7_downOnes_9 : decode cX7_downOnes 9 = .ok (.if_icmp .ge 28, 3) := by decide +kernel
theorem dX7_downOnes_12 : decode cX7_downOnes 12 = .ok (.iload_n 2, 1) := by decide +kernel
theorem dX7_downOnes_13 : decode cX7_downOnes 13 = .ok (.aload_n 0, 1) := by decide +kernel
theorem dX7_downOnes_14 : decode cX7_downOnes 14 = .ok (.iload_n 1, 1) := by decide +kernel
theorem dX7_downOnes_15 : decode cX7_downOnes 15 = .ok (.iload_n 3, 1) := by decide +kernel
theorem dX7_downOnes_16 : decode cX7_downOnes 16 = .ok (.invokevirtual 138, 3) := by decide +kernel
theorem dX7_downOnes_19 : decode cX7_downOnes 19 = .ok (.ifCond .eq 7, 3) := by decide +kernel
theorem dX7_downOnes_22 : decode cX7_downOnes 22 = .ok (.iconst 0, 1) := by decide +kernel
theorem dX7_downOnes_23 : decode cX7_downOnes 23 = .ok (.goto 6, 3) := by decide +kernel
theorem dX7_downOnes_26 : decode cX7_downOnes 26 = .ok (.iconst 1, 1) := by decide +kernel
theorem dX7_downOnes_27 : decode cX7_downOnes 27 = .ok (.iload_n 3, 1) := by decide +kernel
theorem dX7_downOnes_28 : decode cX7_downOnes 28 = .ok (.ishl, 1) := by decide +kernel
theorem dX7_downOnes_29 : decode cX7_downOnes 29 = .ok (.ior, 1) := by decide +kernel
theorem dX7_downOnes_30 : decode cX7_downOnes 30 = .ok (.istore_n 2, 1) := by decide +kernel
theorem dX7_downOnes_31 : decode cX7_downOnes 31 = .ok (.iinc 3 1, 3) := by decide +kernel
theorem dX7_downOnes_34 : decode cX7_downOnes 34 = .ok (.goto (-30), 3) := by decide +kernel
theorem dX7_downOnes_37 : decode cX7_downOnes 37 = .ok (.iload_n 2, 1) := by decide +kernel
theorem dX7_downOnes_38 : decode cX7_downOnes 38 = .ok (.ireturn, 1) := by decide +kernel
theorem dX7_key_0 : decode cX7_key 0 = .ok (.iload_n 1, 1) := by decide +kernel
theorem dX7_key_1 : decode cX7_key 1 = .ok (.i2l, 1) := by decide +kernel
theorem dX7_key_2 : decode cX7_key 2 = .ok (.lconst 0, 1) := by decide +kernel
theorem dX7_key_3 : decode cX7_key 3 = .ok (.lconst 1, 1) := by decide +kernel
theorem dX7_key_4 : decode cX7_key 4 = .ok (.invokestatic 72, 3) := by decide +kernel
theorem dX7_key_7 : decode cX7_key 7 = .ok (.ifCond .ne 5, 3) := by decide +kernel
theorem dX7_key_10 : decode cX7_key 10 = .ok (.iconst (-1), 1) := by decide +kernel
theorem dX7_key_11 : decode cX7_key 11 = .ok (.ireturn, 1) := by decide +kernel
theorem dX7_key_12 : decode cX7_key 12 = .ok (.bipush (-4), 2) := by decide +kernel
theorem dX7_key_14 : decode cX7_key 14 = .ok (.istore_n 2, 1) := by decide +kernel
theorem dX7_key_15 : decode cX7_key 15 = .ok (.bipush (-4), 2) := by decide +kernel
theorem dX7_key_17 : decode cX7_key 17 = .ok (.istore_n 3, 1) := by decide +kernel
theorem dX7_key_18 : decode cX7_key 18 = .ok (.iconst 0, 1) := by decide +kernel
theorem dX7_key_19 : decode cX7_key 19 = .ok (.istore 4, 2) := by decide +kernel
theorem dX7_key_21 : decode cX7_key 21 = .ok (.iload 4, 2) := by decide +kernel
theorem dX7_key_23 : decode cX7_key 23 = .ok (.aload_n 0, 1) := by decide +kernel
theorem dX7_key_24 : decode cX7_key 24 = .ok (.getfield 69, 3) := by decide +kernel
theorem dX7_key_27 : decode cX7_key 27 = .ok (.if_icmp .ge 84, 3) := by decide +kernel
theorem dX7_key_30 : decode cX7_key 30 = .ok (.aload_n 0, 1) := by decide +kernel
theorem dX7_key_31 : decode cX7_key 31 = .ok (.iconst 0, 1) := by decide +kernel
theorem dX7_key_32 : decode cX7_key 32 = .ok (.iload 4, 2) := by decide +kernel
theorem dX7_key_34 : decode cX7_key 34 = .ok (.invokevirtual 138, 3) := by decide +kernel
theorem dX7_key_37 : decode cX7_key 37 = .ok (.ifCond .eq 68, 3) := by decide +kernel
theorem dX7_key_40 : decode cX7_key 40 = .ok (.aload_n 0, 1) := by decide +kernel
theorem dX7_key_41 : decode cX7_key 41 = .ok (.invokevirtual 183, 3) := by decide +kernel
theorem dX7_key_44 : decode cX7_key 44 = .ok (.aload_n 0, 1) := by decide +kernel
theorem dX7_key_45 : decode cX7_key 45 = .ok (.bipush 52, 2) := by decide +kernel
theorem dX7_key_47 : decode cX7_key 47 = .ok (.iload 4, 2) := by decide +kernel
theorem dX7_key_49 : decode cX7_key 49 = .ok (.iconst 1, 1) := by decide +kernel
theorem dX7_key_50 : decode cX7_key 50 = .ok (.invokevirtual 149, 3) := by decide +kernel
theorem dX7_key_53 : decode cX7_key 53 = .ok (.aload_n 0, 1) := by decide +kernel
theorem dX7_key_54 : decode cX7_key 54 = .ok (.bipush 52, 2) := by decide +kernel
theorem dX7_key_56 : decode cX7_key 56 = .ok (.invokevirtual 186, 3) := by decide +kernel
theorem dX7_key_59 : decode cX7_key 59 = .ok (.aload_n 0, 1) := by decide +kernel
theorem dX7_key_60 : decode cX7_key 60 = .ok (.iconst 0, 1) := by decide +kernel
theorem dX7_key_61 : decode cX7_key 61 = .ok (.invokevirtual 186, 3) := by decide +kernel
theorem dX7_key_64 : decode cX7_key 64 = .ok (.iconst (-1), 1) := by decide +kernel
theorem dX7_key_65 : decode cX7_key 65 = .ok (.ixor, 1) := by decide +kernel
theorem dX7_key_66 : decode cX7_key 66 = .ok (.iand, 1) := by decide +kernel
theorem dX7_key_67 : decode cX7_key 67 = .ok (.iconst 1, 1) := by decide +kernel
theorem dX7_key_68 : decode cX7_key 68 = .ok (.iload 4, 2) := by decide +kernel
theorem dX7_key_70 : decode cX7_key 70 = .ok (.ishl, 1) := by decide +kernel
theorem dX7_key_71 : decode cX7_key 71 = .ok (.iconst (-1), 1) := by decide +kernel
theorem dX7_key_72 : decode cX7_key 72 = .ok (.ixor, 1) := by decide +kernel
theorem dX7_key_73 : decode cX7_key 73 = .ok (.iand, 1) := by decide +kernel
theorem dX7_key_74 : decode cX7_key 74 = .ok (.invokestatic 189, 3) := by decide +kernel
theorem dX7_key_77 : decode cX7_key 77 = .ok (.istore 5, 2) := by decide +kernel
theorem dX7_key_79 : decode cX7_key 79 = .ok (.iload 5, 2) := by decide +kernel
theorem dX7_key_81 : decode cX7_key 81 = .ok (.iload_n 3, 1) := by decide +kernel
theorem dX7_key_82 : decode cX7_key 82 = .ok (.if_icmp .le 8, 3) := by decide +kernel
theorem dX7_key_85 : decode cX7_key 85 = .ok (.iload 4, 2) := by decide +kernel
theorem dX7_key_87 : decode cX7_key 87 = .ok (.goto 4, 3) := by decide +kernel
theorem dX7_key_90 : decode cX7_key 90 = .ok (.iload_n 2, 1) := by decide +kernel
theorem dX7_key_91 : decode cX7_key 91 = .ok (.istore_n 2, 1) := by decide +kernel
theorem dX7_key_92 : decode cX7_key 92 = .ok (.iload 5, 2) := by decide +kernel
theorem dX7_key_94 : decode cX7_key 94 = .ok (.iload_n 3, 1) := by decide +kernel
theorem dX7_key_95 : decode cX7_key 95 = .ok (.if_icmp .le 8, 3) := by decide +kernel
theorem dX7_key_98 : decode cX7_key 98 = .ok (.iload 5, 2) := by decide +kernel
theorem dX7_key_100 : decode cX7_key 100 = .ok (.goto 4, 3) := by decide +kernel
theorem dX7_key_103 : decode cX7_key 103 = .ok (.iload_n 3, 1) := by decide +kernel
theorem dX7_key_104 : decode cX7_key 104 = .ok (.istore_n 3, 1) := by decide +kernel
theorem dX7_key_105 : decode cX7_key 105 = .ok (.iinc 4 1, 3) := by decide +kernel
theorem dX7_key_108 : decode cX7_key 108 = .ok (.goto (-87), 3) := by decide +kernel
theorem dX7_key_111 : decode cX7_key 111 = .ok (.iload_n 1, 1) := by decide +kernel
theorem dX7_key_112 : decode cX7_key 112 = .ok (.ifCond .ne 7, 3) := by decide +kernel
theorem dX7_key_115 : decode cX7_key 115 = .ok (.iload_n 2, 1) := by decide +kernel
theorem dX7_key_116 : decode cX7_key 116 = .ok (.goto 4, 3) := by decide +kernel
theorem dX7_key_119 : decode cX7_key 119 = .ok (.iload_n 3, 1) := by decide +kernel
theorem dX7_key_120 : decode cX7_key 120 = .ok (.ireturn, 1) := by decide +kernel
theorem dX7_bestOrder_0 : decode cX7_bestOrder 0 = .ok (.ldc 192, 2) := by decide +kernel
theorem dX7_bestOrder_2 : decode cX7_bestOrder 2 = .ok (.istore_n 1, 1) := by decide +kernel
theorem dX7_bestOrder_3 : decode cX7_bestOrder 3 = .ok (.aload_n 0, 1) := by decide +kernel
theorem dX7_bestOrder_4 : decode cX7_bestOrder 4 = .ok (.iconst 0, 1) := by decide +kernel
theorem dX7_bestOrder_5 : decode cX7_bestOrder 5 = .ok (.putfield 193, 3) := by decide +kernel
theorem dX7_bestOrder_8 : decode cX7_bestOrder 8 = .ok (.iconst 0, 1) := by decide +kernel
theorem dX7_bestOrder_9 : decode cX7_bestOrder 9 = .ok (.istore_n 2, 1) := by decide +kernel
theorem dX7_bestOrder_10 : decode cX7_bestOrder 10 = .ok (.aload_n 0, 1) := by decide +kernel
theorem dX7_bestOrder_11 : decode cX7_bestOrder 11 = .ok (.iconst 0, 1) := by decide +kernel
theorem dX7_bestOrder_12 : decode cX7_bestOrder 12 = .ok (.sipush 624, 3) := by decide +kernel
theorem dX7_bestOrder_15 : decode cX7_bestOrder 15 = .ok (.invokevirtual 153, 3) := by decide +kernel
theorem dX7_bestOrder_18 : decode cX7_bestOrder 18 = .ok (.aload_n 0, 1) := by decide +kernel
theorem dX7_bestOrder_19 : decode cX7_bestOrder 19 = .ok (.getfield 46, 3) := by decide +kernel
theorem dX7_bestOrder_22 : decode cX7_bestOrder 22 = .ok (.iconst 0, 1) := by decide +kernel
theorem dX7_bestOrder_23 : decode cX7_bestOrder 23 = .ok (.iconst (-1), 1) := by decide +kernel
theorem dX7_bestOrder_24 : decode cX7_bestOrder 24 = .ok (.iastore, 1) := by decide +kernel
theorem dX7_bestOrder_25 : decode cX7_bestOrder 25 = .ok (.aload_n 0, 1) := by decide +kernel
theorem dX7_bestOrder_26 : decode cX7_bestOrder 26 = .ok (.getfield 49, 3) := by decide +kernel
theorem dX7_bestOrder_29 : decode cX7_bestOrder 29 = .ok (.iconst 0, 1) := by decide +kernel
theorem dX7_bestOrder_30 : decode cX7_bestOrder 30 = .ok (.iconst 0, 1) := by decide +kernel
theorem dX7_bestOrder_31 : decode cX7_bestOrder 31 = .ok (.iastore, 1) := by decide +kernel
theorem dX7_bestOrder_32 : decode cX7_bestOrder 32 = .ok (.iload_n 2, 1) := by decide +kernel
theorem dX7_bestOrder_33 : decode cX7_bestOrder 33 = .ok (.ifCond .lt 253, 3) := by decide +kernel
theorem dX7_bestOrder_36 : decode cX7_bestOrder 36 = .ok (.sipush 624, 3) := by decide +kernel
theorem dX7_bestOrder_39 : decode cX7_bestOrder 39 = .ok (.bipush 52, 2) := by decide +kernel
theorem dX7_bestOrder_41 : decode cX7_bestOrder 41 = .ok (.iload_n 2, 1) := by decide +kernel
theorem dX7_bestOrder_42 : decode cX7_bestOrder 42 = .ok (.imul, 1) := by decide +kernel
theorem dX7_bestOrder_43 : decode cX7_bestOrder 43 = .ok (.iadd, 1) := by decide +kernel
theorem dX7_bestOrder_44 : decode cX7_bestOrder 44 = .ok (.istore_n 3, 1) := by decide +kernel
theorem dX7_bestOrder_45 : decode cX7_bestOrder 45 = .ok (.aload_n 0, 1) := by decide +kernel
theorem dX7_bestOrder_46 : decode cX7_bestOrder 46 = .ok (.getfield 46, 3) := by decide +kernel
theorem dX7_bestOrder_49 : decode cX7_bestOrder 49 = .ok (.iload_n 2, 1) := by decide +kernel
theorem dX7_bestOrder_50 : decode cX7_bestOrder 50 = .ok (.iaload, 1) := by decide +kernel
theorem dX7_bestOrder_51 : decode cX7_bestOrder 51 = .ok (.ifCond .ge 75, 3) := by decide +kernel
theorem dX7_bestOrder_54 : decode cX7_bestOrder 54 = .ok (.aload_n 0, 1) := by decide +kernel
theorem dX7_bestOrder_55 : decode cX7_bestOrder 55 = .ok (.iload_n 3, 1) := by decide +kernel
theorem dX7_bestOrder_56 : decode cX7_bestOrder 56 = .ok (.invokevirtual 186, 3) := by decide +kernel
theorem dX7_bestOrder_59 : decode cX7_bestOrder 59 = .ok (.invokestatic 189, 3) := by decide +kernel
theorem dX7_bestOrder_62 : decode cX7_bestOrder 62 = .ok (.aload_n 0, 1) := by decide +kernel
theorem dX7_bestOrder_63 : decode cX7_bestOrder 63 = .ok (.getfield 69, 3) := by decide +kernel
theorem dX7_bestOrder_66 : decode cX7_bestOrder 66 = .ok (.if_icmp .ne 60, 3) := by decide +kernel
theorem dX7_bestOrder_69 : decode cX7_bestOrder 69 = .ok (.aload_n 0, 1) := by decide +kernel
theorem dX7_bestOrder_70 : decode cX7_bestOrder 70 = .ok (.getfield 49, 3) := by decide +kernel
theorem dX7_bestOrder_73 : decode cX7_bestOrder 73 = .ok (.iload_n 2, 1) := by decide +kernel
theorem dX7_bestOrder_74 : decode cX7_bestOrder 74 = .ok (.iaload, 1) := by decide +kernel
theorem dX7_bestOrder_75 : decode cX7_bestOrder 75 = .ok (.iload_n 1, 1) := by decide +kernel
theorem dX7_bestOrder_76 : decode cX7_bestOrder 76 = .ok (.if_icmp .ge 44, 3) := by decide +kernel
theorem dX7_bestOrder_79 : decode cX7_bestOrder 79 = .ok (.aload_n 0, 1) := by decide +kernel
theorem dX7_bestOrder_80 : decode cX7_bestOrder 80 = .ok (.getfield 49, 3) := by decide +kernel
theorem dX7_bestOrder_83 : decode cX7_bestOrder 83 = .ok (.iload_n 2, 1) := by decide +kernel
theorem dX7_bestOrder_84 : decode cX7_bestOrder 84 = .ok (.iaload, 1) := by decide +kernel
theorem dX7_bestOrder_85 : decode cX7_bestOrder 85 = .ok (.istore_n 1, 1) := by decide +kernel
theorem dX7_bestOrder_86 : decode cX7_bestOrder 86 = .ok (.aload_n 0, 1) := by decide +kernel
theorem dX7_bestOrder_87 : decode cX7_bestOrder 87 = .ok (.iload_n 2, 1) := by decide +kernel
theorem dX7_bestOrder_88 : decode cX7_bestOrder 88 = .ok (.putfield 193, 3) := by decide +kernel
theorem dX7_bestOrder_91 : decode cX7_bestOrder 91 = .ok (.iconst 0, 1) := by decide +kernel
theorem dX7_bestOrder_92 : decode cX7_bestOrder 92 = .ok (.istore 4, 2) := by decide +kernel
theorem dX7_bestOrder_94 : decode cX7_bestOrder 94 = .ok (.iload 4, 2) := by decide +kernel
theorem dX7_bestOrder_96 : decode cX7_bestOrder 96 = .ok (.iload_n 2, 1) := by decide +kernel
theorem dX7_bestOrder_97 : decode cX7_bestOrder 97 = .ok (.if_icmp .ge 23, 3) := by decide +kernel
theorem dX7_bestOrder_100 : decode cX7_bestOrder 100 = .ok (.aload_n 0, 1) := by decide +kernel
theorem dX7_bestOrder_101 : decode cX7_bestOrder 101 = .ok (.getfield 52, 3) := by decide +kernel
theorem dX7_bestOrder_104 : decode cX7_bestOrder 104 = .ok (.iload 4, 2) := by decide +kernel
theorem dX7_bestOrder_106 : decode cX7_bestOrder 106 = .ok (.aload_n 0, 1) := by decide +kernel
theorem dX7_bestOrder_107 : decode cX7_bestOrder 107 = .ok (.getfield 46, 3) := by decide +kernel
theorem dX7_bestOrder_110 : decode cX7_bestOrder 110 = .ok (.iload 4, 2) := by decide +kernel
theorem dX7_bestOrder_112 : decode cX7_bestOrder 112 = .ok (.iaload, 1) := by decide +kernel
theorem dX7_bestOrder_113 : decode cX7_bestOrder 113 = .ok (.iastore, 1) := by decide +kernel
theorem dX7_bestOrder_114 : decode cX7_bestOrder 114 = .ok (.iinc 4 1, 3) := by decide +kernel
theorem dX7_bestOrder_117 : decode cX7_bestOrder 117 = .ok (.goto (-23), 3) := by decide +kernel
theorem dX7_bestOrder_120 : decode cX7_bestOrder 120 = .ok (.iinc 2 (-1), 3) := by decide +kernel
theorem dX7_bestOrder_123 : decode cX7_bestOrder 123 = .ok (.goto 160, 3) := by decide +kernel
theorem dX7_bestOrder_126 : decode cX7_bestOrder 126 = .ok (.aload_n 0, 1) := by decide +kernel
theorem dX7_bestOrder_127 : decode cX7_bestOrder 127 = .ok (.getfield 46, 3) := by decide +kernel
theorem dX7_bestOrder_130 : decode cX7_bestOrder 130 = .ok (.iload_n 2, 1) := by decide +kernel
theorem dX7_bestOrder_131 : decode cX7_bestOrder 131 = .ok (.iaload, 1) := by decide +kernel
theorem dX7_bestOrder_132 : decode cX7_bestOrder 132 = .ok (.iconst 1, 1) := by decide +kernel
theorem dX7_bestOrder_133 : decode cX7_bestOrder 133 = .ok (.iadd, 1) := by decide +kernel
theorem dX7_bestOrder_134 : decode cX7_bestOrder 134 = .ok (.istore 4, 2) := by decide +kernel
theorem dX7_bestOrder_136 : decode cX7_bestOrder 136 = .ok (.iload 4, 2) := by decide +kernel
theorem dX7_bestOrder_138 : decode cX7_bestOrder 138 = .ok (.aload_n 0, 1) := by decide +kernel
theorem dX7_bestOrder_139 : decode cX7_bestOrder 139 = .ok (.getfield 69, 3) := by decide +kernel
theorem dX7_bestOrder_142 : decode cX7_bestOrder 142 = .ok (.if_icmp .ge 49, 3) := by decide +kernel
theorem dX7_bestOrder_145 : decode cX7_bestOrder 145 = .ok (.aload_n 0, 1) := by decide +kernel
theorem dX7_bestOrder_146 : decode cX7_bestOrder 146 = .ok (.iload_n 3, 1) := by decide +kernel
theorem dX7_bestOrder_147 : decode cX7_bestOrder 147 = .ok (.iload 4, 2) := by decide +kernel
theorem dX7_bestOrder_149 : decode cX7_bestOrder 149 = .ok (.invokevirtual 138, 3) := by decide +kernel
theorem dX7_bestOrder_152 : decode cX7_bestOrder 152 = .ok (.ifCond .eq 33, 3) := by decide +kernel
theorem dX7_bestOrder_155 : decode cX7_bestOrder 155 = .ok (.aload_n 0, 1) := by decide +kernel
theorem dX7_bestOrder_156 : decode cX7_bestOrder 156 = .ok (.iload_n 3, 1) := by decide +kernel
theorem dX7_bestOrder_157 : decode cX7_bestOrder 157 = .ok (.iload 4, 2) := by decide +kernel
theorem dX7_bestOrder_159 : decode cX7_bestOrder 159 = .ok (.invokevirtual 179, 3) := by decide +kernel
theorem dX7_bestOrder_162 : decode cX7_bestOrder 162 = .ok (.bipush (-4), 2) := by decide +kernel
theorem dX7_bestOrder_164 : decode cX7_bestOrder 164 = .ok (.if_icmp .eq 21, 3) := by decide +kernel
theorem dX7_bestOrder_167 : decode cX7_bestOrder 167 = .ok (.aload_n 0, 1) := by decide +kernel
theorem dX7_bestOrder_168 : decode cX7_bestOrder 168 = .ok (.getfield 49, 3) := by decide +kernel
theorem dX7_bestOrder_171 : decode cX7_bestOrder 171 = .ok (.iload_n 2, 1) := by decide +kernel
theorem dX7_bestOrder_172 : decode cX7_bestOrder 172 = .ok (.iaload, 1) := by decide +kernel
theorem dX7_bestOrder_173 : decode cX7_bestOrder 173 = .ok (.aload_n 0, 1) := by decide +kernel
theorem dX7_bestOrder_174 : decode cX7_bestOrder 174 = .ok (.iload_n 3, 1) := by decide +kernel
theorem dX7_bestOrder_175 : decode cX7_bestOrder 175 = .ok (.iload 4, 2) := by decide +kernel
theorem dX7_bestOrder_177 : decode cX7_bestOrder 177 = .ok (.invokevirtual 179, 3) := by decide +kernel
theorem dX7_bestOrder_180 : decode cX7_bestOrder 180 = .ok (.iadd, 1) := by decide +kernel
theorem dX7_bestOrder_181 : decode cX7_bestOrder 181 = .ok (.iload_n 1, 1) := by decide +kernel
theorem dX7_bestOrder_182 : decode cX7_bestOrder 182 = .ok (.if_icmp .lt 9, 3) := by decide +kernel
theorem dX7_bestOrder_185 : decode cX7_bestOrder 185 = .ok (.iinc 4 1, 3) := by decide +kernel
theorem dX7_bestOrder_188 : decode cX7_bestOrder 188 = .ok (.goto (-52), 3) := by decide +kernel
theorem dX7_bestOrder_191 : decode cX7_bestOrder 191 = .ok (.aload_n 0, 1) := by decide +kernel
theorem dX7_bestOrder_192 : decode cX7_bestOrder 192 = .ok (.getfield 46, 3) := by decide +kernel
theorem dX7_bestOrder_195 : decode cX7_bestOrder 195 = .ok (.iload_n 2, 1) := by decide +kernel
theorem dX7_bestOrder_196 : decode cX7_bestOrder 196 = .ok (.iload 4, 2) := by decide +kernel
theorem dX7_bestOrder_198 : decode cX7_bestOrder 198 = .ok (.iastore, 1) := by decide +kernel
theorem dX7_bestOrder_199 : decode cX7_bestOrder 199 = .ok (.iload 4, 2) := by decide +kernel
theorem dX7_bestOrder_201 : decode cX7_bestOrder 201 = .ok (.aload_n 0, 1) := by decide +kernel
theorem dX7_bestOrder_202 : decode cX7_bestOrder 202 = .ok (.getfield 69, 3) := by decide +kernel
theorem dX7_bestOrder_205 : decode cX7_bestOrder 205 = .ok (.if_icmp .ne 9, 3) := by decide +kernel
theorem dX7_bestOrder_208 : decode cX7_bestOrder 208 = .ok (.iinc 2 (-1), 3) := by decide +kernel
theorem dX7_bestOrder_211 : decode cX7_bestOrder 211 = .ok (.goto 72, 3) := by decide +kernel
theorem dX7_bestOrder_214 : decode cX7_bestOrder 214 = .ok (.aload_n 0, 1) := by decide +kernel
theorem dX7_bestOrder_215 : decode cX7_bestOrder 215 = .ok (.iload_n 3, 1) := by decide +kernel
theorem dX7_bestOrder_216 : decode cX7_bestOrder 216 = .ok (.iload 4, 2) := by decide +kernel
theorem dX7_bestOrder_218 : decode cX7_bestOrder 218 = .ok (.invokevirtual 179, 3) := by decide +kernel
theorem dX7_bestOrder_221 : decode cX7_bestOrder 221 = .ok (.istore 5, 2) := by decide +kernel
theorem dX7_bestOrder_223 : decode cX7_bestOrder 223 = .ok (.aload_n 0, 1) := by decide +kernel
theorem dX7_bestOrder_224 : decode cX7_bestOrder 224 = .ok (.iload_n 3, 1) := by decide +kernel
theorem dX7_bestOrder_225 : decode cX7_bestOrder 225 = .ok (.iload_n 3, 1) := by decide +kernel
theorem dX7_bestOrder_226 : decode cX7_bestOrder 226 = .ok (.bipush 52, 2) := by decide +kernel
theorem dX7_bestOrder_228 : decode cX7_bestOrder 228 = .ok (.iadd, 1) := by decide +kernel
theorem dX7_bestOrder_229 : decode cX7_bestOrder 229 = .ok (.invokevirtual 153, 3) := by decide +kernel
theorem dX7_bestOrder_232 : decode cX7_bestOrder 232 = .ok (.aload_n 0, 1) := by decide +kernel
theorem dX7_bestOrder_233 : decode cX7_bestOrder 233 = .ok (.iload_n 3, 1) := by decide +kernel
theorem dX7_bestOrder_234 : decode cX7_bestOrder 234 = .ok (.bipush 52, 2) := by decide +kernel
theorem dX7_bestOrder_236 : decode cX7_bestOrder 236 = .ok (.iadd, 1) := by decide +kernel
theorem dX7_bestOrder_237 : decode cX7_bestOrder 237 = .ok (.iload 4, 2) := by decide +kernel
theorem dX7_bestOrder_239 : decode cX7_bestOrder 239 = .ok (.iload 5, 2) := by decide +kernel
theorem dX7_bestOrder_241 : decode cX7_bestOrder 241 = .ok (.invokevirtual 165, 3) := by decide +kernel
theorem dX7_bestOrder_244 : decode cX7_bestOrder 244 = .ok (.istore 6, 2) := by decide +kernel
theorem dX7_bestOrder_246 : decode cX7_bestOrder 246 = .ok (.aload_n 0, 1) := by decide +kernel
theorem dX7_bestOrder_247 : decode cX7_bestOrder 247 = .ok (.getfield 49, 3) := by decide +kernel
theorem dX7_bestOrder_250 : decode cX7_bestOrder 250 = .ok (.iload_n 2, 1) := by decide +kernel
theorem dX7_bestOrder_251 : decode cX7_bestOrder 251 = .ok (.iconst 1, 1) := by decide +kernel
theorem dX7_bestOrder_252 : decode cX7_bestOrder 252 = .ok (.iadd, 1) := by decide +kernel
theorem dX7_bestOrder_253 : decode cX7_bestOrder 253 = .ok (.aload_n 0, 1) := by decide +kernel
theorem dX7_bestOrder_254 : decode cX7_bestOrder 254 = .ok (.getfield 49, 3) := by decide +kernel
theorem dX7_bestOrder_257 : decode cX7_bestOrder 257 = .ok (.iload_n 2, 1) := by decide +kernel
theorem dX7_bestOrder_258 : decode cX7_bestOrder 258 = .ok (.iaload, 1) := by decide +kernel
theorem dX7_bestOrder_259 : decode cX7_bestOrder 259 = .ok (.iload 6, 2) := by decide +kernel
theorem dX7_bestOrder_261 : decode cX7_bestOrder 261 = .ok (.ifCond .le 8, 3) := by decide +kernel
theorem dX7_bestOrder_264 : decode cX7_bestOrder 264 = .ok (.iload 5, 2) := by decide +kernel
theorem dX7_bestOrder_266 : decode cX7_bestOrder 266 = .ok (.goto 5, 3) := by decide +kernel
theorem dX7_bestOrder_269 : decode cX7_bestOrder 269 = .ok (.ldc 192, 2) := by decide +kernel
theorem dX7_bestOrder_271 : decode cX7_bestOrder 271 = .ok (.iadd, 1) := by decide +kernel
theorem dX7_bestOrder_272 : decode cX7_bestOrder 272 = .ok (.iastore, 1) := by decide +kernel
theorem dX7_bestOrder_273 : decode cX7_bestOrder 273 = .ok (.iinc 2 1, 3) := by decide +kernel
theorem dX7_bestOrder_276 : decode cX7_bestOrder 276 = .ok (.aload_n 0, 1) := by decide +kernel
theorem dX7_bestOrder_277 : decode cX7_bestOrder 277 = .ok (.getfield 46, 3) := by decide +kernel
theorem dX7_bestOrder_280 : decode cX7_bestOrder 280 = .ok (.iload_n 2, 1) := by decide +kernel
theorem dX7_bestOrder_281 : decode cX7_bestOrder 281 = .ok (.iconst (-1), 1) := by decide +kernel
theorem dX7_bestOrder_282 : decode cX7_bestOrder 282 = .ok (.iastore, 1) := by decide +kernel
theorem dX7_bestOrder_283 : decode cX7_bestOrder 283 = .ok (.goto (-251), 3) := by decide +kernel
theorem dX7_bestOrder_286 : decode cX7_bestOrder 286 = .ok (.iload_n 1, 1) := by decide +kernel
theorem dX7_bestOrder_287 : decode cX7_bestOrder 287 = .ok (.ireturn, 1) := by decide +kernel
theorem dX7_order_0 : decode cX7_order 0 = .ok (.iload_n 1, 1) := by decide +kernel
theorem dX7_order_1 : decode cX7_order 1 = .ok (.i2l, 1) := by decide +kernel
theorem dX7_order_2 : decode cX7_order 2 = .ok (.ldc2_w 196, 3) := by decide +kernel
theorem dX7_order_5 : decode cX7_order 5 = .ok (.ldc2_w 163, 3) := by decide +kernel
theorem dX7_order_8 : decode cX7_order 8 = .ok (.invokestatic 72, 3) := by decide +kernel
theorem dX7_order_11 : decode cX7_order 11 = .ok (.ifCond .ne 5, 3) := by decide +kernel
theorem dX7_order_14 : decode cX7_order 14 = .ok (.iconst (-1), 1) := by decide +kernel
theorem dX7_order_15 : decode cX7_order 15 = .ok (.ireturn, 1) := by decide +kernel
theorem dX7_order_16 : decode cX7_order 16 = .ok (.aload_n 0, 1) := by decide +kernel
theorem dX7_order_17 : decode cX7_order 17 = .ok (.invokevirtual 198, 3) := by decide +kernel
theorem dX7_order_20 : decode cX7_order 20 = .ok (.istore_n 2, 1) := by decide +kernel
theorem dX7_order_21 : decode cX7_order 21 = .ok (.iload_n 2, 1) := by decide +kernel
theorem dX7_order_22 : decode cX7_order 22 = .ok (.ldc 192, 2) := by decide +kernel
theorem dX7_order_24 : decode cX7_order 24 = .ok (.if_icmp .lt 6, 3) := by decide +kernel
theorem dX7_order_27 : decode cX7_order 27 = .ok (.bipush (-4), 2) := by decide +kernel
theorem dX7_order_29 : decode cX7_order 29 = .ok (.ireturn, 1) := by decide +kernel
theorem dX7_order_30 : decode cX7_order 30 = .ok (.iload_n 1, 1) := by decide +kernel
theorem dX7_order_31 : decode cX7_order 31 = .ok (.ifCond .ge 7, 3) := by decide +kernel
theorem dX7_order_34 : decode cX7_order 34 = .ok (.iload_n 2, 1) := by decide +kernel
theorem dX7_order_35 : decode cX7_order 35 = .ok (.goto 22, 3) := by decide +kernel
theorem dX7_order_38 : decode cX7_order 38 = .ok (.iload_n 1, 1) := by decide +kernel
theorem dX7_order_39 : decode cX7_order 39 = .ok (.aload_n 0, 1) := by decide +kernel
theorem dX7_order_40 : decode cX7_order 40 = .ok (.getfield 193, 3) := by decide +kernel
theorem dX7_order_43 : decode cX7_order 43 = .ok (.if_icmp .ge 12, 3) := by decide +kernel
theorem dX7_order_46 : decode cX7_order 46 = .ok (.aload_n 0, 1) := by decide +kernel
theorem dX7_order_47 : decode cX7_order 47 = .ok (.getfield 52, 3) := by decide +kernel
theorem dX7_order_50 : decode cX7_order 50 = .ok (.iload_n 1, 1) := by decide +kernel
theorem dX7_order_51 : decode cX7_order 51 = .ok (.iaload, 1) := by decide +kernel
theorem dX7_order_52 : decode cX7_order 52 = .ok (.goto 5, 3) := by decide +kernel
theorem dX7_order_55 : decode cX7_order 55 = .ok (.bipush (-4), 2) := by decide +kernel
theorem dX7_order_57 : decode cX7_order 57 = .ok (.ireturn, 1) := by decide +kernel
theorem dX7_save_0 : decode cX7_save 0 = .ok (.aload_n 0, 1) := by decide +kernel
theorem dX7_save_1 : decode cX7_save 1 = .ok (.iload_n 1, 1) := by decide +kernel
theorem dX7_save_2 : decode cX7_save 2 = .ok (.invokevirtual 130, 3) := by decide +kernel
theorem dX7_save_5 : decode cX7_save 5 = .ok (.ifCond .eq 16, 3) := by decide +kernel
theorem dX7_save_8 : decode cX7_save 8 = .ok (.aload_n 0, 1) := by decide +kernel
theorem dX7_save_9 : decode cX7_save 9 = .ok (.iload_n 2, 1) := by decide +kernel
theorem dX7_save_10 : decode cX7_save 10 = .ok (.invokevirtual 130, 3) := by decide +kernel
theorem dX7_save_13 : decode cX7_save 13 = .ok (.ifCond .eq 8, 3) := by decide +kernel
theorem dX7_save_16 : decode cX7_save 16 = .ok (.iload_n 1, 1) := by decide +kernel
theorem dX7_save_17 : decode cX7_save 17 = .ok (.iload_n 2, 1) := by decide +kernel
theorem dX7_save_18 : decode cX7_save 18 = .ok (.if_icmp .ne 5, 3) := by decide +kernel
theorem dX7_save_21 : decode cX7_save 21 = .ok (.iconst (-1), 1) := by decide +kernel
theorem dX7_save_22 : decode cX7_save 22 = .ok (.ireturn, 1) := by decide +kernel
theorem dX7_save_23 : decode cX7_save 23 = .ok (.aload_n 0, 1) := by decide +kernel
theorem dX7_save_24 : decode cX7_save 24 = .ok (.iconst 0, 1) := by decide +kernel
theorem dX7_save_25 : decode cX7_save 25 = .ok (.iload_n 1, 1) := by decide +kernel
theorem dX7_save_26 : decode cX7_save 26 = .ok (.invokevirtual 138, 3) := by decide +kernel
theorem dX7_save_29 : decode cX7_save 29 = .ok (.ifCond .eq 12, 3) := by decide +kernel
theorem dX7_save_32 : decode cX7_save 32 = .ok (.aload_n 0, 1) := by decide +kernel
theorem dX7_save_33 : decode cX7_save 33 = .ok (.iconst 0, 1) := by decide +kernel
theorem dX7_save_34 : decode cX7_save 34 = .ok (.iload_n 2, 1) := by decide +kernel
theorem dX7_save_35 : decode cX7_save 35 = .ok (.invokevirtual 138, 3) := by decide +kernel
theorem dX7_save_38 : decode cX7_save 38 = .ok (.ifCond .ne 6, 3) := by decide +kernel
theorem dX7_save_41 : decode cX7_save 41 = .ok (.bipush (-2), 2) := by decide +kernel
theorem dX7_save_43 : decode cX7_save 43 = .ok (.ireturn, 1) := by decide +kernel
theorem dX7_save_44 : decode cX7_save 44 = .ok (.iconst 0, 1) := by decide +kernel
theorem dX7_save_45 : decode cX7_save 45 = .ok (.istore_n 3, 1) := by decide +kernel
theorem dX7_save_46 : decode cX7_save 46 = .ok (.iconst 0, 1) := by decide +kernel
theorem dX7_save_47 : decode cX7_save 47 = .ok (.istore 4, 2) := by decide +kernel
theorem dX7_save_49 : decode cX7_save 49 = .ok (.iload 4, 2) := by decide +kernel
theorem dX7_save_51 : decode cX7_save 51 = .ok (.aload_n 0, 1) := by decide +kernel
theorem dX7_save_52 : decode cX7_save 52 = .ok (.getfield 69, 3) := by decide +kernel
theorem dX7_save_55 : decode cX7_save 55 = .ok (.if_icmp .ge 37, 3) := by decide +kernel
theorem dX7_save_58 : decode cX7_save 58 = .ok (.iload_n 3, 1) := by decide +kernel
theorem dX7_save_59 : decode cX7_save 59 = .ok (.aload_n 0, 1) := by decide +kernel
theorem dX7_save_60 : decode cX7_save 60 = .ok (.getfield 7, 3) := by decide +kernel
theorem dX7_save_63 : decode cX7_save 63 = .ok (.bipush 27, 2) := by decide +kernel
theorem dX7_save_65 : decode cX7_save 65 = .ok (.iconst 5, 1) := by decide +kernel
theorem dX7_save_66 : decode cX7_save 66 = .ok (.iload 4, 2) := by decide +kernel
theorem dX7_save_68 : decode cX7_save 68 = .ok (.imul, 1) := by decide +kernel
theorem dX7_save_69 : decode cX7_save 69 = .ok (.iadd, 1) := by decide +kernel
theorem dX7_save_70 : decode cX7_save 70 = .ok (.iload_n 1, 1) := by decide +kernel
theorem dX7_save_71 : decode cX7_save 71 = .ok (.iadd, 1) := by decide +kernel
theorem dX7_save_72 : decode cX7_save 72 = .ok (.iaload, 1) := by decide +kernel
theorem dX7_save_73 : decode cX7_save 73 = .ok (.ifCond .le 10, 3) := by decide +kernel
theorem dX7_save_76 : decode cX7_save 76 = .ok (.iconst 1, 1) := by decide +kernel
theorem dX7_save_77 : decode cX7_save 77 = .ok (.iload 4, 2) := by decide +kernel
theorem dX7_save_79 : decode cX7_save 79 = .ok (.ishl, 1) := by decide +kernel
theorem dX7_save_80 : decode cX7_save 80 = .ok (.goto 4, 3) := by decide +kernel
theorem dX7_save_83 : decode cX7_save 83 = .ok (.iconst 0, 1) := by decide +kernel
theorem dX7_save_84 : decode cX7_save 84 = .ok (.ior, 1) := by decide +kernel
theorem dX7_save_85 : decode cX7_save 85 = .ok (.istore_n 3, 1) := by decide +kernel
theorem dX7_save_86 : decode cX7_save 86 = .ok (.iinc 4 1, 3) := by decide +kernel
theorem dX7_save_89 : decode cX7_save 89 = .ok (.goto (-40), 3) := by decide +kernel
theorem dX7_save_92 : decode cX7_save 92 = .ok (.iload_n 3, 1) := by decide +kernel
theorem dX7_save_93 : decode cX7_save 93 = .ok (.istore 4, 2) := by decide +kernel
theorem dX7_save_95 : decode cX7_save 95 = .ok (.ldc 192, 2) := by decide +kernel
theorem dX7_save_97 : decode cX7_save 97 = .ok (.istore 5, 2) := by decide +kernel
theorem dX7_save_99 : decode cX7_save 99 = .ok (.iconst 0, 1) := by decide +kernel
theorem dX7_save_100 : decode cX7_save 100 = .ok (.istore 6, 2) := by decide +kernel
theorem dX7_save_102 : decode cX7_save 102 = .ok (.iload 6, 2) := by decide +kernel
theorem dX7_save_104 : decode cX7_save 104 = .ok (.iconst 1, 1) := by decide +kernel
theorem dX7_save_105 : decode cX7_save 105 = .ok (.aload_n 0, 1) := by decide +kernel
theorem dX7_save_106 : decode cX7_save 106 = .ok (.getfield 69, 3) := by decide +kernel
theorem dX7_save_109 : decode cX7_save 109 = .ok (.ishl, 1) := by decide +kernel
theorem dX7_save_110 : decode cX7_save 110 = .ok (.if_icmp .ge 121, 3) := by decide +kernel
theorem dX7_save_113 : decode cX7_save 113 = .ok (.iload 6, 2) := by decide +kernel
theorem dX7_save_115 : decode cX7_save 115 = .ok (.iload_n 3, 1) := by decide +kernel
theorem dX7_save_116 : decode cX7_save 116 = .ok (.iconst (-1), 1) := by decide +kernel
theorem dX7_save_117 : decode cX7_save 117 = .ok (.ixor, 1) := by decide +kernel
theorem dX7_save_118 : decode cX7_save 118 = .ok (.iand, 1) := by decide +kernel
theorem dX7_save_119 : decode cX7_save 119 = .ok (.ifCond .ne 106, 3) := by decide +kernel
theorem dX7_save_122 : decode cX7_save 122 = .ok (.iload 6, 2) := by decide +kernel
theorem dX7_save_124 : decode cX7_save 124 = .ok (.invokestatic 189, 3) := by decide +kernel
theorem dX7_save_127 : decode cX7_save 127 = .ok (.iload 5, 2) := by decide +kernel
theorem dX7_save_129 : decode cX7_save 129 = .ok (.if_icmp .ge 96, 3) := by decide +kernel
theorem dX7_save_132 : decode cX7_save 132 = .ok (.aload_n 0, 1) := by decide +kernel
theorem dX7_save_133 : decode cX7_save 133 = .ok (.invokevirtual 183, 3) := by decide +kernel
theorem dX7_save_136 : decode cX7_save 136 = .ok (.iconst 0, 1) := by decide +kernel
theorem dX7_save_137 : decode cX7_save 137 = .ok (.istore 7, 2) := by decide +kernel
theorem dX7_save_139 : decode cX7_save 139 = .ok (.iload 7, 2) := by decide +kernel
theorem dX7_save_141 : decode cX7_save 141 = .ok (.aload_n 0, 1) := by decide +kernel
theorem dX7_save_142 : decode cX7_save 142 = .ok (.getfield 69, 3) := by decide +kernel
theorem dX7_save_145 : decode cX7_save 145 = .ok (.if_icmp .ge 51, 3) := by decide +kernel
theorem dX7_save_148 : decode cX7_save 148 = .ok (.aload_n 0, 1) := by decide +kernel
theorem dX7_save_149 : decode cX7_save 149 = .ok (.getfield 7, 3) := by decide +kernel
theorem dX7_save_152 : decode cX7_save 152 = .ok (.bipush 79, 2) := by decide +kernel
theorem dX7_save_154 : decode cX7_save 154 = .ok (.iconst 5, 1) := by decide +kernel
theorem dX7_save_155 : decode cX7_save 155 = .ok (.iload 7, 2) := by decide +kernel
theorem dX7_save_157 : decode cX7_save 157 = .ok (.imul, 1) := by decide +kernel
theorem dX7_save_158 : decode cX7_save 158 = .ok (.iadd, 1) := by decide +kernel
theorem dX7_save_159 : decode cX7_save 159 = .ok (.iload_n 1, 1) := by decide +kernel
theorem dX7_save_160 : decode cX7_save 160 = .ok (.iadd, 1) := by decide +kernel
theorem dX7_save_161 : decode cX7_save 161 = .ok (.iload 6, 2) := by decide +kernel
theorem dX7_save_163 : decode cX7_save 163 = .ok (.iload 7, 2) := by decide +kernel
theorem dX7_save_165 : decode cX7_save 165 = .ok (.invokestatic 201, 3) := by decide +kernel
theorem dX7_save_168 : decode cX7_save 168 = .ok (.ifCond .eq 7, 3) := by decide +kernel
theorem dX7_save_171 : decode cX7_save 171 = .ok (.iconst 0, 1) := by decide +kernel
theorem dX7_save_172 : decode cX7_save 172 = .ok (.goto 17, 3) := by decide +kernel
theorem dX7_save_175 : decode cX7_save 175 = .ok (.aload_n 0, 1) := by decide +kernel
theorem dX7_save_176 : decode cX7_save 176 = .ok (.getfield 7, 3) := by decide +kernel
theorem dX7_save_179 : decode cX7_save 179 = .ok (.bipush 27, 2) := by decide +kernel
theorem dX7_save_181 : decode cX7_save 181 = .ok (.iconst 5, 1) := by decide +kernel
theorem dX7_save_182 : decode cX7_save 182 = .ok (.iload 7, 2) := by decide +kernel
theorem dX7_save_184 : decode cX7_save 184 = .ok (.imul, 1) := by decide +kernel
theorem dX7_save_185 : decode cX7_save 185 = .ok (.iadd, 1) := by decide +kernel
theorem dX7_save_186 : decode cX7_save 186 = .ok (.iload_n 1, 1) := by decide +kernel
theorem dX7_save_187 : decode cX7_save 187 = .ok (.iadd, 1) := by decide +kernel
theorem dX7_save_188 : decode cX7_save 188 = .ok (.iaload, 1) := by decide +kernel
theorem dX7_save_189 : decode cX7_save 189 = .ok (.iastore, 1) := by decide +kernel
theorem dX7_save_190 : decode cX7_save 190 = .ok (.iinc 7 1, 3) := by decide +kernel
theorem dX7_save_193 : decode cX7_save 193 = .ok (.goto (-54), 3) := by decide +kernel
theorem dX7_save_196 : decode cX7_save 196 = .ok (.aload_n 0, 1) := by decide +kernel
theorem dX7_save_197 : decode cX7_save 197 = .ok (.bipush 52, 2) := by decide +kernel
theorem dX7_save_199 : decode cX7_save 199 = .ok (.iload_n 2, 1) := by decide +kernel
theorem dX7_save_200 : decode cX7_save 200 = .ok (.iconst 1, 1) := by decide +kernel
theorem dX7_save_201 : decode cX7_save 201 = .ok (.invokevirtual 149, 3) := by decide +kernel
theorem dX7_save_204 : decode cX7_save 204 = .ok (.aload_n 0, 1) := by decide +kernel
theorem dX7_save_205 : decode cX7_save 205 = .ok (.bipush 52, 2) := by decide +kernel
theorem dX7_save_207 : decode cX7_save 207 = .ok (.iload_n 1, 1) := by decide +kernel
theorem dX7_save_208 : decode cX7_save 208 = .ok (.invokevirtual 138, 3) := by decide +kernel
theorem dX7_save_211 : decode cX7_save 211 = .ok (.ifCond .eq 14, 3) := by decide +kernel
theorem dX7_save_214 : decode cX7_save 214 = .ok (.iload 6, 2) := by decide +kernel
theorem dX7_save_216 : decode cX7_save 216 = .ok (.istore 4, 2) := by decide +kernel
theorem dX7_save_218 : decode cX7_save 218 = .ok (.iload 6, 2) := by decide +kernel
theorem dX7_save_220 : decode cX7_save 220 = .ok (.invokestatic 189, 3) := by decide +kernel
theorem dX7_save_223 : decode cX7_save 223 = .ok (.istore 5, 2) := by decide +kernel
theorem dX7_save_225 : decode cX7_save 225 = .ok (.iinc 6 1, 3) := by decide +kernel
theorem dX7_save_228 : decode cX7_save 228 = .ok (.goto (-126), 3) := by decide +kernel
theorem dX7_save_231 : decode cX7_save 231 = .ok (.iload 4, 2) := by decide +kernel
theorem dX7_save_233 : decode cX7_save 233 = .ok (.ireturn, 1) := by decide +kernel
theorem dX7_built_0 : decode cX7_built 0 = .ok (.iload_n 1, 1) := by decide +kernel
theorem dX7_built_1 : decode cX7_built 1 = .ok (.i2l, 1) := by decide +kernel
theorem dX7_built_2 : decode cX7_built 2 = .ok (.lconst 0, 1) := by decide +kernel
theorem dX7_built_3 : decode cX7_built 3 = .ok (.lconst 1, 1) := by decide +kernel
theorem dX7_built_4 : decode cX7_built 4 = .ok (.invokestatic 72, 3) := by decide +kernel
theorem dX7_built_7 : decode cX7_built 7 = .ok (.ifCond .ne 5, 3) := by decide +kernel
theorem dX7_built_10 : decode cX7_built 10 = .ok (.iconst (-1), 1) := by decide +kernel
theorem dX7_built_11 : decode cX7_built 11 = .ok (.ireturn, 1) := by decide +kernel
theorem dX7_built_12 : decode cX7_built 12 = .ok (.aload_n 0, 1) := by decide +kernel
theorem dX7_built_13 : decode cX7_built 13 = .ok (.getfield 7, 3) := by decide +kernel
theorem dX7_built_16 : decode cX7_built 16 = .ok (.iconst 0, 1) := by decide +kernel
theorem dX7_built_17 : decode cX7_built 17 = .ok (.iaload, 1) := by decide +kernel
theorem dX7_built_18 : decode cX7_built 18 = .ok (.istore_n 2, 1) := by decide +kernel
theorem dX7_built_19 : decode cX7_built 19 = .ok (.iconst 0, 1) := by decide +kernel
theorem dX7_built_20 : decode cX7_built 20 = .ok (.istore_n 3, 1) := by decide +kernel
theorem dX7_built_21 : decode cX7_built 21 = .ok (.ldc 192, 2) := by decide +kernel
theorem dX7_built_23 : decode cX7_built 23 = .ok (.istore 4, 2) := by decide +kernel
theorem dX7_built_25 : decode cX7_built 25 = .ok (.iconst 0, 1) := by decide +kernel
theorem dX7_built_26 : decode cX7_built 26 = .ok (.istore 5, 2) := by decide +kernel
theorem dX7_built_28 : decode cX7_built 28 = .ok (.bipush 8, 2) := by decide +kernel
theorem dX7_built_30 : decode cX7_built 30 = .ok (.iload 5, 2) := by decide +kernel
theorem dX7_built_32 : decode cX7_built 32 = .ok (.imul, 1) := by decide +kernel
theorem dX7_built_33 : decode cX7_built 33 = .ok (.iload_n 2, 1) := by decide +kernel
theorem dX7_built_34 : decode cX7_built 34 = .ok (.if_icmp .gt 84, 3) := by decide +kernel
theorem dX7_built_37 : decode cX7_built 37 = .ok (.iconst 0, 1) := by decide +kernel
theorem dX7_built_38 : decode cX7_built 38 = .ok (.istore 6, 2) := by decide +kernel
theorem dX7_built_40 : decode cX7_built 40 = .ok (.bipush 8, 2) := by decide +kernel
theorem dX7_built_42 : decode cX7_built 42 = .ok (.iload 5, 2) := by decide +kernel
theorem dX7_built_44 : decode cX7_built 44 = .ok (.imul, 1) := by decide +kernel
theorem dX7_built_45 : decode cX7_built 45 = .ok (.iconst 5, 1) := by decide +kernel
theorem dX7_built_46 : decode cX7_built 46 = .ok (.iload 6, 2) := by decide +kernel
theorem dX7_built_48 : decode cX7_built 48 = .ok (.imul, 1) := by decide +kernel
theorem dX7_built_49 : decode cX7_built 49 = .ok (.iadd, 1) := by decide +kernel
theorem dX7_built_50 : decode cX7_built 50 = .ok (.iload_n 2, 1) := by decide +kernel
theorem dX7_built_51 : decode cX7_built 51 = .ok (.if_icmp .gt 61, 3) := by decide +kernel
theorem dX7_built_54 : decode cX7_built 54 = .ok (.iload_n 2, 1) := by decide +kernel
theorem dX7_built_55 : decode cX7_built 55 = .ok (.bipush 8, 2) := by decide +kernel
theorem dX7_built_57 : decode cX7_built 57 = .ok (.iload 5, 2) := by decide +kernel
theorem dX7_built_59 : decode cX7_built 59 = .ok (.imul, 1) := by decide +kernel
theorem dX7_built_60 : decode cX7_built 60 = .ok (.isub, 1) := by decide +kernel
theorem dX7_built_61 : decode cX7_built 61 = .ok (.iconst 5, 1) := by decide +kernel
theorem dX7_built_62 : decode cX7_built 62 = .ok (.iload 6, 2) := by decide +kernel
theorem dX7_built_64 : decode cX7_built 64 = .ok (.imul, 1) := by decide +kernel
theorem dX7_built_65 : decode cX7_built 65 = .ok (.isub, 1) := by decide +kernel
theorem dX7_built_66 : decode cX7_built 66 = .ok (.istore 7, 2) := by decide +kernel
theorem dX7_built_68 : decode cX7_built 68 = .ok (.iload 7, 2) := by decide +kernel
theorem dX7_built_70 : decode cX7_built 70 = .ok (.iconst 3, 1) := by decide +kernel
theorem dX7_built_71 : decode cX7_built 71 = .ok (.irem, 1) := by decide +kernel
theorem dX7_built_72 : decode cX7_built 72 = .ok (.ifCond .ne 34, 3) := by decide +kernel
theorem dX7_built_75 : decode cX7_built 75 = .ok (.iload 5, 2) := by decide +kernel
theorem dX7_built_77 : decode cX7_built 77 = .ok (.iload 6, 2) := by decide +kernel
theorem dX7_built_79 : decode cX7_built 79 = .ok (.iadd, 1) := by decide +kernel
theorem dX7_built_80 : decode cX7_built 80 = .ok (.iload 7, 2) := by decide +kernel
theorem dX7_built_82 : decode cX7_built 82 = .ok (.iconst 3, 1) := by decide +kernel
theorem dX7_built_83 : decode cX7_built 83 = .ok (.idiv, 1) := by decide +kernel
theorem dX7_built_84 : decode cX7_built 84 = .ok (.iadd, 1) := by decide +kernel
theorem dX7_built_85 : decode cX7_built 85 = .ok (.istore 8, 2) := by decide +kernel
theorem dX7_built_87 : decode cX7_built 87 = .ok (.iinc 3 1, 3) := by decide +kernel
theorem dX7_built_90 : decode cX7_built 90 = .ok (.iload 8, 2) := by decide +kernel
theorem dX7_built_92 : decode cX7_built 92 = .ok (.iload 4, 2) := by decide +kernel
theorem dX7_built_94 : decode cX7_built 94 = .ok (.if_icmp .ge 8, 3) := by decide +kernel
theorem dX7_built_97 : decode cX7_built 97 = .ok (.iload 8, 2) := by decide +kernel
theorem dX7_built_99 : decode cX7_built 99 = .ok (.goto 5, 3) := by decide +kernel
theorem dX7_built_102 : decode cX7_built 102 = .ok (.iload 4, 2) := by decide +kernel
theorem dX7_built_104 : decode cX7_built 104 = .ok (.istore 4, 2) := by decide +kernel
theorem dX7_built_106 : decode cX7_built 106 = .ok (.iinc 6 1, 3) := by decide +kernel
theorem dX7_built_109 : decode cX7_built 109 = .ok (.goto (-69), 3) := by decide +kernel
theorem dX7_built_112 : decode cX7_built 112 = .ok (.iinc 5 1, 3) := by decide +kernel
theorem dX7_built_115 : decode cX7_built 115 = .ok (.goto (-87), 3) := by decide +kernel
theorem dX7_built_118 : decode cX7_built 118 = .ok (.iload_n 1, 1) := by decide +kernel
theorem dX7_built_119 : decode cX7_built 119 = .ok (.ifCond .ne 7, 3) := by decide +kernel
theorem dX7_built_122 : decode cX7_built 122 = .ok (.iload_n 3, 1) := by decide +kernel
theorem dX7_built_123 : decode cX7_built 123 = .ok (.goto 14, 3) := by decide +kernel
theorem dX7_built_126 : decode cX7_built 126 = .ok (.iload_n 3, 1) := by decide +kernel
theorem dX7_built_127 : decode cX7_built 127 = .ok (.ifCond .ne 8, 3) := by decide +kernel
theorem dX7_built_130 : decode cX7_built 130 = .ok (.bipush (-4), 2) := by decide +kernel
theorem dX7_built_132 : decode cX7_built 132 = .ok (.goto 5, 3) := by decide +kernel
theorem dX7_built_135 : decode cX7_built 135 = .ok (.iload 4, 2) := by decide +kernel
theorem dX7_built_137 : decode cX7_built 137 = .ok (.ireturn, 1) := by decide +kernel
theorem dX7_note_0 : decode cX7_note 0 = .ok (.iload_n 1, 1) := by decide +kernel
theorem dX7_note_1 : decode cX7_note 1 = .ok (.i2l, 1) := by decide +kernel
theorem dX7_note_2 : decode cX7_note 2 = .ok (.lconst 1, 1) := by decide +kernel
theorem dX7_note_3 : decode cX7_note 3 = .ok (.ldc2_w 163, 3) := by decide +kernel
theorem dX7_note_6 : decode cX7_note 6 = .ok (.invokestatic 72, 3) := by decide +kernel
theorem dX7_note_9 : decode cX7_note 9 = .ok (.ifCond .eq 25, 3) := by decide +kernel
theorem dX7_note_12 : decode cX7_note 12 = .ok (.iload_n 2, 1) := by decide +kernel
theorem dX7_note_13 : decode cX7_note 13 = .ok (.i2l, 1) := by decide +kernel
theorem dX7_note_14 : decode cX7_note 14 = .ok (.lconst 0, 1) := by decide +kernel
theorem dX7_note_15 : decode cX7_note 15 = .ok (.ldc2_w 136, 3) := by decide +kernel
theorem dX7_note_18 : decode cX7_note 18 = .ok (.invokestatic 72, 3) := by decide +kernel
theorem dX7_note_21 : decode cX7_note 21 = .ok (.ifCond .eq 13, 3) := by decide +kernel
theorem dX7_note_24 : decode cX7_note 24 = .ok (.iload_n 3, 1) := by decide +kernel
theorem dX7_note_25 : decode cX7_note 25 = .ok (.i2l, 1) := by decide +kernel
theorem dX7_note_26 : decode cX7_note 26 = .ok (.lconst 0, 1) := by decide +kernel
theorem dX7_note_27 : decode cX7_note 27 = .ok (.lconst 1, 1) := by decide +kernel
theorem dX7_note_28 : decode cX7_note 28 = .ok (.invokestatic 72, 3) := by decide +kernel
theorem dX7_note_31 : decode cX7_note 31 = .ok (.ifCond .ne 5, 3) := by decide +kernel
theorem dX7_note_34 : decode cX7_note 34 = .ok (.iconst (-1), 1) := by decide +kernel
theorem dX7_note_35 : decode cX7_note 35 = .ok (.ireturn, 1) := by decide +kernel
theorem dX7_note_36 : decode cX7_note 36 = .ok (.aload_n 0, 1) := by decide +kernel
theorem dX7_note_37 : decode cX7_note 37 = .ok (.getfield 85, 3) := by decide +kernel
theorem dX7_note_40 : decode cX7_note 40 = .ok (.bipush 6, 2) := by decide +kernel
theorem dX7_note_42 : decode cX7_note 42 = .ok (.if_icmp .ne 6, 3) := by decide +kernel
theorem dX7_note_45 : decode cX7_note 45 = .ok (.bipush (-3), 2) := by decide +kernel
theorem dX7_note_47 : decode cX7_note 47 = .ok (.ireturn, 1) := by decide +kernel
theorem dX7_note_48 : decode cX7_note 48 = .ok (.aload_n 0, 1) := by decide +kernel
theorem dX7_note_49 : decode cX7_note 49 = .ok (.getfield 85, 3) := by decide +kernel
theorem dX7_note_52 : decode cX7_note 52 = .ok (.ifCond .le 21, 3) := by decide +kernel
theorem dX7_note_55 : decode cX7_note 55 = .ok (.aload_n 0, 1) := by decide +kernel
theorem dX7_note_56 : decode cX7_note 56 = .ok (.getfield 28, 3) := by decide +kernel
theorem dX7_note_59 : decode cX7_note 59 = .ok (.aload_n 0, 1) := by decide +kernel
theorem dX7_note_60 : decode cX7_note 60 = .ok (.getfield 85, 3) := by decide +kernel
theorem dX7_note_63 : decode cX7_note 63 = .ok (.iconst 1, 1) := by decide +kernel
theorem dX7_note_64 : decode cX7_note 64 = .ok (.isub, 1) := by decide +kernel
theorem dX7_note_65 : decode cX7_note 65 = .ok (.iaload, 1) := by decide +kernel
theorem dX7_note_66 : decode cX7_note 66 = .ok (.iconst 1, 1) := by decide +kernel
theorem dX7_note_67 : decode cX7_note 67 = .ok (.if_icmp .ne 6, 3) := by decide +kernel
theorem dX7_note_70 : decode cX7_note 70 = .ok (.bipush (-2), 2) := by decide +kernel
theorem dX7_note_72 : decode cX7_note 72 = .ok (.ireturn, 1) := by decide +kernel
theorem dX7_note_73 : decode cX7_note 73 = .ok (.aload_n 0, 1) := by decide +kernel
theorem dX7_note_74 : decode cX7_note 74 = .ok (.getfield 22, 3) := by decide +kernel
theorem dX7_note_77 : decode cX7_note 77 = .ok (.aload_n 0, 1) := by decide +kernel
theorem dX7_note_78 : decode cX7_note 78 = .ok (.getfield 85, 3) := by decide +kernel
theorem dX7_note_81 : decode cX7_note 81 = .ok (.iload_n 1, 1) := by decide +kernel
theorem dX7_note_82 : decode cX7_note 82 = .ok (.iastore, 1) := by decide +kernel
theorem dX7_note_83 : decode cX7_note 83 = .ok (.aload_n 0, 1) := by decide +kernel
theorem dX7_note_84 : decode cX7_note 84 = .ok (.getfield 25, 3) := by decide +kernel
theorem dX7_note_87 : decode cX7_note 87 = .ok (.aload_n 0, 1) := by decide +kernel
theorem dX7_note_88 : decode cX7_note 88 = .ok (.getfield 85, 3) := by decide +kernel
theorem dX7_note_91 : decode cX7_note 91 = .ok (.iload_n 2, 1) := by decide +kernel
theorem dX7_note_92 : decode cX7_note 92 = .ok (.iastore, 1) := by decide +kernel
theorem dX7_note_93 : decode cX7_note 93 = .ok (.aload_n 0, 1) := by decide +kernel
theorem dX7_note_94 : decode cX7_note 94 = .ok (.getfield 28, 3) := by decide +kernel
theorem dX7_note_97 : decode cX7_note 97 = .ok (.aload_n 0, 1) := by decide +kernel
theorem dX7_note_98 : decode cX7_note 98 = .ok (.getfield 85, 3) := by decide +kernel
theorem dX7_note_101 : decode cX7_note 101 = .ok (.iload_n 3, 1) := by decide +kernel
theorem dX7_note_102 : decode cX7_note 102 = .ok (.iastore, 1) := by decide +kernel
theorem dX7_note_103 : decode cX7_note 103 = .ok (.aload_n 0, 1) := by decide +kernel
theorem dX7_note_104 : decode cX7_note 104 = .ok (.dup, 1) := by decide +kernel
theorem dX7_note_105 : decode cX7_note 105 = .ok (.getfield 85, 3) := by decide +kernel
theorem dX7_note_108 : decode cX7_note 108 = .ok (.iconst 1, 1) := by decide +kernel
theorem dX7_note_109 : decode cX7_note 109 = .ok (.iadd, 1) := by decide +kernel
theorem dX7_note_110 : decode cX7_note 110 = .ok (.putfield 85, 3) := by decide +kernel
theorem dX7_note_113 : decode cX7_note 113 = .ok (.aload_n 0, 1) := by decide +kernel
theorem dX7_note_114 : decode cX7_note 114 = .ok (.getfield 85, 3) := by decide +kernel
theorem dX7_note_117 : decode cX7_note 117 = .ok (.ireturn, 1) := by decide +kernel
theorem dX7_forget_0 : decode cX7_forget 0 = .ok (.aload_n 0, 1) := by decide +kernel
theorem dX7_forget_1 : decode cX7_forget 1 = .ok (.getfield 85, 3) := by decide +kernel
theorem dX7_forget_4 : decode cX7_forget 4 = .ok (.istore_n 1, 1) := by decide +kernel
theorem dX7_forget_5 : decode cX7_forget 5 = .ok (.aload_n 0, 1) := by decide +kernel
theorem dX7_forget_6 : decode cX7_forget 6 = .ok (.iconst 0, 1) := by decide +kernel
theorem dX7_forget_7 : decode cX7_forget 7 = .ok (.putfield 85, 3) := by decide +kernel
theorem dX7_forget_10 : decode cX7_forget 10 = .ok (.iload_n 1, 1) := by decide +kernel
theorem dX7_forget_11 : decode cX7_forget 11 = .ok (.ireturn, 1) := by decide +kernel
theorem dX7_isSo_0 : decode cX7_isSo 0 = .ok (.iload_n 1, 1) := by decide +kernel
theorem dX7_isSo_1 : decode cX7_isSo 1 = .ok (.istore_n 2, 1) := by decide +kernel
theorem dX7_isSo_2 : decode cX7_isSo 2 = .ok (.iconst 1, 1) := by decide +kernel
theorem dX7_isSo_3 : decode cX7_isSo 3 = .ok (.istore_n 3, 1) := by decide +kernel
theorem dX7_isSo_4 : decode cX7_isSo 4 = .ok (.iconst 0, 1) := by decide +kernel
theorem dX7_isSo_5 : decode cX7_isSo 5 = .ok (.istore 4, 2) := by decide +kernel
theorem dX7_isSo_7 : decode cX7_isSo 7 = .ok (.iload 4, 2) := by decide +kernel
theorem dX7_isSo_9 : decode cX7_isSo 9 = .ok (.aload_n 0, 1) := by decide +kernel
theorem dX7_isSo_10 : decode cX7_isSo 10 = .ok (.getfield 85, 3) := by decide +kernel
theorem dX7_isSo_13 : decode cX7_isSo 13 = .ok (.if_icmp .ge 95, 3) := by decide +kernel
theorem dX7_isSo_16 : decode cX7_isSo 16 = .ok (.aload_n 0, 1) := by decide +kernel
theorem dX7_isSo_17 : decode cX7_isSo 17 = .ok (.getfield 22, 3) := by decide +kernel
theorem dX7_isSo_20 : decode cX7_isSo 20 = .ok (.iload 4, 2) := by decide +kernel
theorem dX7_isSo_22 : decode cX7_isSo 22 = .ok (.iaload, 1) := by decide +kernel
theorem dX7_isSo_23 : decode cX7_isSo 23 = .ok (.aload_n 0, 1) := by decide +kernel
theorem dX7_isSo_24 : decode cX7_isSo 24 = .ok (.getfield 25, 3) := by decide +kernel
theorem dX7_isSo_27 : decode cX7_isSo 27 = .ok (.iload 4, 2) := by decide +kernel
theorem dX7_isSo_29 : decode cX7_isSo 29 = .ok (.iaload, 1) := by decide +kernel
theorem dX7_isSo_30 : decode cX7_isSo 30 = .ok (.iconst 1, 1) := by decide +kernel
theorem dX7_isSo_31 : decode cX7_isSo 31 = .ok (.iadd, 1) := by decide +kernel
theorem dX7_isSo_32 : decode cX7_isSo 32 = .ok (.imul, 1) := by decide +kernel
theorem dX7_isSo_33 : decode cX7_isSo 33 = .ok (.iload_n 2, 1) := by decide +kernel
end
section
theorem dX7_isSo_34 : decode cX7_isSo 34 = .ok (.if_icmp .lt 7, 3) := by decide +kernel
theorem dX7_isSo_37 : decode cX7_isSo 37 = .ok (.iconst 1, 1) := by decide +kernel
theorem dX7_isSo_38 : decode cX7_isSo 38 = .ok (.goto 4, 3) := by decide +kernel
theorem dX7_isSo_41 : decode cX7_isSo 41 = .ok (.iconst 0, 1) := by decide +kernel
theorem dX7_isSo_42 : decode cX7_isSo 42 = .ok (.istore 5, 2) := by decide +kernel
theorem dX7_isSo_44 : decode cX7_isSo 44 = .ok (.iload_n 3, 1) := by decide +kernel
theorem dX7_isSo_45 : decode cX7_isSo 45 = .ok (.ifCond .eq 28, 3) := by decide +kernel
theorem dX7_isSo_48 : decode cX7_isSo 48 = .ok (.iload 5, 2) := by decide +kernel
theorem dX7_isSo_50 : decode cX7_isSo 50 = .ok (.aload_n 0, 1) := by decide +kernel
theorem dX7_isSo_51 : decode cX7_isSo 51 = .ok (.getfield 28, 3) := by decide +kernel
theorem dX7_isSo_54 : decode cX7_isSo 54 = .ok (.iload 4, 2) := by decide +kernel
theorem dX7_isSo_56 : decode cX7_isSo 56 = .ok (.iaload, 1) := by decide +kernel
theorem dX7_isSo_57 : decode cX7_isSo 57 = .ok (.iconst 1, 1) := by decide +kernel
theorem dX7_isSo_58 : decode cX7_isSo 58 = .ok (.if_icmp .ne 7, 3) := by decide +kernel
theorem dX7_isSo_61 : decode cX7_isSo 61 = .ok (.iconst 1, 1) := by decide +kernel
theorem dX7_isSo_62 : decode cX7_isSo 62 = .ok (.goto 4, 3) := by decide +kernel
theorem dX7_isSo_65 : decode cX7_isSo 65 = .ok (.iconst 0, 1) := by decide +kernel
theorem dX7_isSo_66 : decode cX7_isSo 66 = .ok (.if_icmp .ne 7, 3) := by decide +kernel
theorem dX7_isSo_69 : decode cX7_isSo 69 = .ok (.iconst 1, 1) := by decide +kernel
theorem dX7_isSo_70 : decode cX7_isSo 70 = .ok (.goto 4, 3) := by decide +kernel
theorem dX7_isSo_73 : decode cX7_isSo 73 = .ok (.iconst 0, 1) := by decide +kernel
theorem dX7_isSo_74 : decode cX7_isSo 74 = .ok (.istore_n 3, 1) := by decide +kernel
theorem dX7_isSo_75 : decode cX7_isSo 75 = .ok (.iload_n 2, 1) := by decide +kernel
theorem dX7_isSo_76 : decode cX7_isSo 76 = .ok (.aload_n 0, 1) := by decide +kernel
theorem dX7_isSo_77 : decode cX7_isSo 77 = .ok (.getfield 22, 3) := by decide +kernel
theorem dX7_isSo_80 : decode cX7_isSo 80 = .ok (.iload 4, 2) := by decide +kernel
theorem dX7_isSo_82 : decode cX7_isSo 82 = .ok (.iaload, 1) := by decide +kernel
theorem dX7_isSo_83 : decode cX7_isSo 83 = .ok (.isub, 1) := by decide +kernel
theorem dX7_isSo_84 : decode cX7_isSo 84 = .ok (.iconst 1, 1) := by decide +kernel
theorem dX7_isSo_85 : decode cX7_isSo 85 = .ok (.if_icmp .ge 7, 3) := by decide +kernel
theorem dX7_isSo_88 : decode cX7_isSo 88 = .ok (.iconst 1, 1) := by decide +kernel
theorem dX7_isSo_89 : decode cX7_isSo 89 = .ok (.goto 12, 3) := by decide +kernel
theorem dX7_isSo_92 : decode cX7_isSo 92 = .ok (.iload_n 2, 1) := by decide +kernel
theorem dX7_isSo_93 : decode cX7_isSo 93 = .ok (.aload_n 0, 1) := by decide +kernel
theorem dX7_isSo_94 : decode cX7_isSo 94 = .ok (.getfield 22, 3) := by decide +kernel
theorem dX7_isSo_97 : decode cX7_isSo 97 = .ok (.iload 4, 2) := by decide +kernel
theorem dX7_isSo_99 : decode cX7_isSo 99 = .ok (.iaload, 1) := by decide +kernel
theorem dX7_isSo_100 : decode cX7_isSo 100 = .ok (.isub, 1) := by decide +kernel
theorem dX7_isSo_101 : decode cX7_isSo 101 = .ok (.istore_n 2, 1) := by decide +kernel
theorem dX7_isSo_102 : decode cX7_isSo 102 = .ok (.iinc 4 1, 3) := by decide +kernel
theorem dX7_isSo_105 : decode cX7_isSo 105 = .ok (.goto (-98), 3) := by decide +kernel
theorem dX7_isSo_108 : decode cX7_isSo 108 = .ok (.iload_n 3, 1) := by decide +kernel
theorem dX7_isSo_109 : decode cX7_isSo 109 = .ok (.ireturn, 1) := by decide +kernel
theorem dX7_thick_0 : decode cX7_thick 0 = .ok (.iload_n 1, 1) := by decide +kernel
theorem dX7_thick_1 : decode cX7_thick 1 = .ok (.i2l, 1) := by decide +kernel
theorem dX7_thick_2 : decode cX7_thick 2 = .ok (.lconst 0, 1) := by decide +kernel
theorem dX7_thick_3 : decode cX7_thick 3 = .ok (.lconst 1, 1) := by decide +kernel
theorem dX7_thick_4 : decode cX7_thick 4 = .ok (.invokestatic 72, 3) := by decide +kernel
theorem dX7_thick_7 : decode cX7_thick 7 = .ok (.ifCond .ne 5, 3) := by decide +kernel
theorem dX7_thick_10 : decode cX7_thick 10 = .ok (.iconst (-1), 1) := by decide +kernel
theorem dX7_thick_11 : decode cX7_thick 11 = .ok (.ireturn, 1) := by decide +kernel
theorem dX7_thick_12 : decode cX7_thick 12 = .ok (.iconst 0, 1) := by decide +kernel
theorem dX7_thick_13 : decode cX7_thick 13 = .ok (.istore_n 2, 1) := by decide +kernel
theorem dX7_thick_14 : decode cX7_thick 14 = .ok (.bipush (-4), 2) := by decide +kernel
theorem dX7_thick_16 : decode cX7_thick 16 = .ok (.istore_n 3, 1) := by decide +kernel
theorem dX7_thick_17 : decode cX7_thick 17 = .ok (.bipush 60, 2) := by decide +kernel
theorem dX7_thick_19 : decode cX7_thick 19 = .ok (.istore 4, 2) := by decide +kernel
theorem dX7_thick_21 : decode cX7_thick 21 = .ok (.iload 4, 2) := by decide +kernel
theorem dX7_thick_23 : decode cX7_thick 23 = .ok (.ifCond .le 42, 3) := by decide +kernel
theorem dX7_thick_26 : decode cX7_thick 26 = .ok (.aload_n 0, 1) := by decide +kernel
theorem dX7_thick_27 : decode cX7_thick 27 = .ok (.iload 4, 2) := by decide +kernel
theorem dX7_thick_29 : decode cX7_thick 29 = .ok (.invokevirtual 204, 3) := by decide +kernel
theorem dX7_thick_32 : decode cX7_thick 32 = .ok (.istore 5, 2) := by decide +kernel
theorem dX7_thick_34 : decode cX7_thick 34 = .ok (.iload_n 2, 1) := by decide +kernel
theorem dX7_thick_35 : decode cX7_thick 35 = .ok (.iload 5, 2) := by decide +kernel
theorem dX7_thick_37 : decode cX7_thick 37 = .ok (.ifCond .eq 7, 3) := by decide +kernel
theorem dX7_thick_40 : decode cX7_thick 40 = .ok (.iconst 1, 1) := by decide +kernel
theorem dX7_thick_41 : decode cX7_thick 41 = .ok (.goto 4, 3) := by decide +kernel
theorem dX7_thick_44 : decode cX7_thick 44 = .ok (.iconst 0, 1) := by decide +kernel
theorem dX7_thick_45 : decode cX7_thick 45 = .ok (.iadd, 1) := by decide +kernel
theorem dX7_thick_46 : decode cX7_thick 46 = .ok (.istore_n 2, 1) := by decide +kernel
theorem dX7_thick_47 : decode cX7_thick 47 = .ok (.iload 5, 2) := by decide +kernel
theorem dX7_thick_49 : decode cX7_thick 49 = .ok (.ifCond .eq 8, 3) := by decide +kernel
theorem dX7_thick_52 : decode cX7_thick 52 = .ok (.iload 4, 2) := by decide +kernel
theorem dX7_thick_54 : decode cX7_thick 54 = .ok (.goto 4, 3) := by decide +kernel
theorem dX7_thick_57 : decode cX7_thick 57 = .ok (.iload_n 3, 1) := by decide +kernel
theorem dX7_thick_58 : decode cX7_thick 58 = .ok (.istore_n 3, 1) := by decide +kernel
theorem dX7_thick_59 : decode cX7_thick 59 = .ok (.iinc 4 (-1), 3) := by decide +kernel
theorem dX7_thick_62 : decode cX7_thick 62 = .ok (.goto (-41), 3) := by decide +kernel
theorem dX7_thick_65 : decode cX7_thick 65 = .ok (.iload_n 1, 1) := by decide +kernel
theorem dX7_thick_66 : decode cX7_thick 66 = .ok (.ifCond .ne 7, 3) := by decide +kernel
theorem dX7_thick_69 : decode cX7_thick 69 = .ok (.iload_n 2, 1) := by decide +kernel
theorem dX7_thick_70 : decode cX7_thick 70 = .ok (.goto 4, 3) := by decide +kernel
theorem dX7_thick_73 : decode cX7_thick 73 = .ok (.iload_n 3, 1) := by decide +kernel
theorem dX7_thick_74 : decode cX7_thick 74 = .ok (.ireturn, 1) := by decide +kernel
theorem dX7_fail_0 : decode cX7_fail 0 = .ok (.aload_n 0, 1) := by decide +kernel
theorem dX7_fail_1 : decode cX7_fail 1 = .ok (.iload_n 1, 1) := by decide +kernel
theorem dX7_fail_2 : decode cX7_fail 2 = .ok (.invokevirtual 130, 3) := by decide +kernel
theorem dX7_fail_5 : decode cX7_fail 5 = .ok (.ifCond .eq 38, 3) := by decide +kernel
theorem dX7_fail_8 : decode cX7_fail 8 = .ok (.iload_n 2, 1) := by decide +kernel
theorem dX7_fail_9 : decode cX7_fail 9 = .ok (.i2l, 1) := by decide +kernel
theorem dX7_fail_10 : decode cX7_fail 10 = .ok (.lconst 1, 1) := by decide +kernel
theorem dX7_fail_11 : decode cX7_fail 11 = .ok (.ldc2_w 163, 3) := by decide +kernel
theorem dX7_fail_14 : decode cX7_fail 14 = .ok (.invokestatic 72, 3) := by decide +kernel
theorem dX7_fail_17 : decode cX7_fail 17 = .ok (.ifCond .eq 26, 3) := by decide +kernel
theorem dX7_fail_20 : decode cX7_fail 20 = .ok (.iload_n 3, 1) := by decide +kernel
theorem dX7_fail_21 : decode cX7_fail 21 = .ok (.i2l, 1) := by decide +kernel
theorem dX7_fail_22 : decode cX7_fail 22 = .ok (.lconst 0, 1) := by decide +kernel
theorem dX7_fail_23 : decode cX7_fail 23 = .ok (.ldc2_w 207, 3) := by decide +kernel
theorem dX7_fail_26 : decode cX7_fail 26 = .ok (.invokestatic 72, 3) := by decide +kernel
theorem dX7_fail_29 : decode cX7_fail 29 = .ok (.ifCond .eq 14, 3) := by decide +kernel
theorem dX7_fail_32 : decode cX7_fail 32 = .ok (.iload 4, 2) := by decide +kernel
theorem dX7_fail_34 : decode cX7_fail 34 = .ok (.i2l, 1) := by decide +kernel
theorem dX7_fail_35 : decode cX7_fail 35 = .ok (.lconst 0, 1) := by decide +kernel
theorem dX7_fail_36 : decode cX7_fail 36 = .ok (.lconst 1, 1) := by decide +kernel
theorem dX7_fail_37 : decode cX7_fail 37 = .ok (.invokestatic 72, 3) := by decide +kernel
theorem dX7_fail_40 : decode cX7_fail 40 = .ok (.ifCond .ne 5, 3) := by decide +kernel
theorem dX7_fail_43 : decode cX7_fail 43 = .ok (.iconst (-1), 1) := by decide +kernel
theorem dX7_fail_44 : decode cX7_fail 44 = .ok (.ireturn, 1) := by decide +kernel
theorem dX7_fail_45 : decode cX7_fail 45 = .ok (.aload_n 0, 1) := by decide +kernel
theorem dX7_fail_46 : decode cX7_fail 46 = .ok (.iconst 0, 1) := by decide +kernel
theorem dX7_fail_47 : decode cX7_fail 47 = .ok (.iload_n 1, 1) := by decide +kernel
theorem dX7_fail_48 : decode cX7_fail 48 = .ok (.invokevirtual 138, 3) := by decide +kernel
theorem dX7_fail_51 : decode cX7_fail 51 = .ok (.ifCond .ne 6, 3) := by decide +kernel
theorem dX7_fail_54 : decode cX7_fail 54 = .ok (.bipush (-2), 2) := by decide +kernel
theorem dX7_fail_56 : decode cX7_fail 56 = .ok (.ireturn, 1) := by decide +kernel
theorem dX7_fail_57 : decode cX7_fail 57 = .ok (.lconst 0, 1) := by decide +kernel
theorem dX7_fail_58 : decode cX7_fail 58 = .ok (.lstore 5, 2) := by decide +kernel
theorem dX7_fail_60 : decode cX7_fail 60 = .ok (.lconst 1, 1) := by decide +kernel
theorem dX7_fail_61 : decode cX7_fail 61 = .ok (.lstore 7, 2) := by decide +kernel
theorem dX7_fail_63 : decode cX7_fail 63 = .ok (.iconst 0, 1) := by decide +kernel
theorem dX7_fail_64 : decode cX7_fail 64 = .ok (.istore 9, 2) := by decide +kernel
theorem dX7_fail_66 : decode cX7_fail 66 = .ok (.iload 9, 2) := by decide +kernel
theorem dX7_fail_68 : decode cX7_fail 68 = .ok (.iload_n 2, 1) := by decide +kernel
theorem dX7_fail_69 : decode cX7_fail 69 = .ok (.if_icmp .ge 17, 3) := by decide +kernel
theorem dX7_fail_72 : decode cX7_fail 72 = .ok (.lload 7, 2) := by decide +kernel
theorem dX7_fail_74 : decode cX7_fail 74 = .ok (.ldc2_w 207, 3) := by decide +kernel
theorem dX7_fail_77 : decode cX7_fail 77 = .ok (.lmul, 1) := by decide +kernel
theorem dX7_fail_78 : decode cX7_fail 78 = .ok (.lstore 7, 2) := by decide +kernel
theorem dX7_fail_80 : decode cX7_fail 80 = .ok (.iinc 9 1, 3) := by decide +kernel
theorem dX7_fail_83 : decode cX7_fail 83 = .ok (.goto (-17), 3) := by decide +kernel
theorem dX7_fail_86 : decode cX7_fail 86 = .ok (.iconst 0, 1) := by decide +kernel
theorem dX7_fail_87 : decode cX7_fail 87 = .ok (.istore 9, 2) := by decide +kernel
theorem dX7_fail_89 : decode cX7_fail 89 = .ok (.iload 9, 2) := by decide +kernel
theorem dX7_fail_91 : decode cX7_fail 91 = .ok (.iconst 1, 1) := by decide +kernel
theorem dX7_fail_92 : decode cX7_fail 92 = .ok (.iload_n 2, 1) := by decide +kernel
theorem dX7_fail_93 : decode cX7_fail 93 = .ok (.ishl, 1) := by decide +kernel
theorem dX7_fail_94 : decode cX7_fail 94 = .ok (.if_icmp .ge 102, 3) := by decide +kernel
theorem dX7_fail_97 : decode cX7_fail 97 = .ok (.lconst 1, 1) := by decide +kernel
theorem dX7_fail_98 : decode cX7_fail 98 = .ok (.lstore 10, 2) := by decide +kernel
theorem dX7_fail_100 : decode cX7_fail 100 = .ok (.iconst 0, 1) := by decide +kernel
theorem dX7_fail_101 : decode cX7_fail 101 = .ok (.istore 12, 2) := by decide +kernel
theorem dX7_fail_103 : decode cX7_fail 103 = .ok (.iconst 0, 1) := by decide +kernel
theorem dX7_fail_104 : decode cX7_fail 104 = .ok (.istore 13, 2) := by decide +kernel
theorem dX7_fail_106 : decode cX7_fail 106 = .ok (.iload 13, 2) := by decide +kernel
theorem dX7_fail_108 : decode cX7_fail 108 = .ok (.iload_n 2, 1) := by decide +kernel
theorem dX7_fail_109 : decode cX7_fail 109 = .ok (.if_icmp .ge 54, 3) := by decide +kernel
theorem dX7_fail_112 : decode cX7_fail 112 = .ok (.lload 10, 2) := by decide +kernel
theorem dX7_fail_114 : decode cX7_fail 114 = .ok (.iload 9, 2) := by decide +kernel
theorem dX7_fail_116 : decode cX7_fail 116 = .ok (.iload 13, 2) := by decide +kernel
theorem dX7_fail_118 : decode cX7_fail 118 = .ok (.invokestatic 201, 3) := by decide +kernel
theorem dX7_fail_121 : decode cX7_fail 121 = .ok (.ifCond .eq 11, 3) := by decide +kernel
theorem dX7_fail_124 : decode cX7_fail 124 = .ok (.bipush 10, 2) := by decide +kernel
theorem dX7_fail_126 : decode cX7_fail 126 = .ok (.iload_n 3, 1) := by decide +kernel
theorem dX7_fail_127 : decode cX7_fail 127 = .ok (.isub, 1) := by decide +kernel
theorem dX7_fail_128 : decode cX7_fail 128 = .ok (.i2l, 1) := by decide +kernel
theorem dX7_fail_129 : decode cX7_fail 129 = .ok (.goto 5, 3) := by decide +kernel
theorem dX7_fail_132 : decode cX7_fail 132 = .ok (.iload_n 3, 1) := by decide +kernel
theorem dX7_fail_133 : decode cX7_fail 133 = .ok (.i2l, 1) := by decide +kernel
theorem dX7_fail_134 : decode cX7_fail 134 = .ok (.lmul, 1) := by decide +kernel
theorem dX7_fail_135 : decode cX7_fail 135 = .ok (.lstore 10, 2) := by decide +kernel
theorem dX7_fail_137 : decode cX7_fail 137 = .ok (.iload 12, 2) := by decide +kernel
theorem dX7_fail_139 : decode cX7_fail 139 = .ok (.iload 9, 2) := by decide +kernel
theorem dX7_fail_141 : decode cX7_fail 141 = .ok (.iload 13, 2) := by decide +kernel
theorem dX7_fail_143 : decode cX7_fail 143 = .ok (.invokestatic 201, 3) := by decide +kernel
theorem dX7_fail_146 : decode cX7_fail 146 = .ok (.ifCond .eq 7, 3) := by decide +kernel
theorem dX7_fail_149 : decode cX7_fail 149 = .ok (.iconst 1, 1) := by decide +kernel
theorem dX7_fail_150 : decode cX7_fail 150 = .ok (.goto 4, 3) := by decide +kernel
theorem dX7_fail_153 : decode cX7_fail 153 = .ok (.iconst 0, 1) := by decide +kernel
theorem dX7_fail_154 : decode cX7_fail 154 = .ok (.iadd, 1) := by decide +kernel
theorem dX7_fail_155 : decode cX7_fail 155 = .ok (.istore 12, 2) := by decide +kernel
theorem dX7_fail_157 : decode cX7_fail 157 = .ok (.iinc 13 1, 3) := by decide +kernel
theorem dX7_fail_160 : decode cX7_fail 160 = .ok (.goto (-54), 3) := by decide +kernel
theorem dX7_fail_163 : decode cX7_fail 163 = .ok (.lload 5, 2) := by decide +kernel
theorem dX7_fail_165 : decode cX7_fail 165 = .ok (.iload 12, 2) := by decide +kernel
theorem dX7_fail_167 : decode cX7_fail 167 = .ok (.ifCond .le 19, 3) := by decide +kernel
theorem dX7_fail_170 : decode cX7_fail 170 = .ok (.aload_n 0, 1) := by decide +kernel
theorem dX7_fail_171 : decode cX7_fail 171 = .ok (.iconst 0, 1) := by decide +kernel
theorem dX7_fail_172 : decode cX7_fail 172 = .ok (.iload_n 1, 1) := by decide +kernel
theorem dX7_fail_173 : decode cX7_fail 173 = .ok (.iload 12, 2) := by decide +kernel
theorem dX7_fail_175 : decode cX7_fail 175 = .ok (.invokevirtual 146, 3) := by decide +kernel
theorem dX7_fail_178 : decode cX7_fail 178 = .ok (.ifCond .eq 8, 3) := by decide +kernel
theorem dX7_fail_181 : decode cX7_fail 181 = .ok (.lload 10, 2) := by decide +kernel
theorem dX7_fail_183 : decode cX7_fail 183 = .ok (.goto 4, 3) := by decide +kernel
theorem dX7_fail_186 : decode cX7_fail 186 = .ok (.lconst 0, 1) := by decide +kernel
theorem dX7_fail_187 : decode cX7_fail 187 = .ok (.ladd, 1) := by decide +kernel
theorem dX7_fail_188 : decode cX7_fail 188 = .ok (.lstore 5, 2) := by decide +kernel
theorem dX7_fail_190 : decode cX7_fail 190 = .ok (.iinc 9 1, 3) := by decide +kernel
theorem dX7_fail_193 : decode cX7_fail 193 = .ok (.goto (-104), 3) := by decide +kernel
theorem dX7_fail_196 : decode cX7_fail 196 = .ok (.lload 5, 2) := by decide +kernel
theorem dX7_fail_198 : decode cX7_fail 198 = .ok (.lstore 9, 2) := by decide +kernel
theorem dX7_fail_200 : decode cX7_fail 200 = .ok (.lload 7, 2) := by decide +kernel
theorem dX7_fail_202 : decode cX7_fail 202 = .ok (.lstore 11, 2) := by decide +kernel
theorem dX7_fail_204 : decode cX7_fail 204 = .ok (.lload 11, 2) := by decide +kernel
theorem dX7_fail_206 : decode cX7_fail 206 = .ok (.lconst 0, 1) := by decide +kernel
theorem dX7_fail_207 : decode cX7_fail 207 = .ok (.lcmp, 1) := by decide +kernel
theorem dX7_fail_208 : decode cX7_fail 208 = .ok (.ifCond .eq 21, 3) := by decide +kernel
theorem dX7_fail_211 : decode cX7_fail 211 = .ok (.lload 9, 2) := by decide +kernel
theorem dX7_fail_213 : decode cX7_fail 213 = .ok (.lload 11, 2) := by decide +kernel
theorem dX7_fail_215 : decode cX7_fail 215 = .ok (.lrem, 1) := by decide +kernel
theorem dX7_fail_216 : decode cX7_fail 216 = .ok (.lstore 13, 2) := by decide +kernel
theorem dX7_fail_218 : decode cX7_fail 218 = .ok (.lload 11, 2) := by decide +kernel
theorem dX7_fail_220 : decode cX7_fail 220 = .ok (.lstore 9, 2) := by decide +kernel
theorem dX7_fail_222 : decode cX7_fail 222 = .ok (.lload 13, 2) := by decide +kernel
theorem dX7_fail_224 : decode cX7_fail 224 = .ok (.lstore 11, 2) := by decide +kernel
theorem dX7_fail_226 : decode cX7_fail 226 = .ok (.goto (-22), 3) := by decide +kernel
theorem dX7_fail_229 : decode cX7_fail 229 = .ok (.iload 4, 2) := by decide +kernel
theorem dX7_fail_231 : decode cX7_fail 231 = .ok (.ifCond .ne 11, 3) := by decide +kernel
theorem dX7_fail_234 : decode cX7_fail 234 = .ok (.lload 5, 2) := by decide +kernel
theorem dX7_fail_236 : decode cX7_fail 236 = .ok (.lload 9, 2) := by decide +kernel
theorem dX7_fail_238 : decode cX7_fail 238 = .ok (.ldiv, 1) := by decide +kernel
theorem dX7_fail_239 : decode cX7_fail 239 = .ok (.goto 8, 3) := by decide +kernel
theorem dX7_fail_242 : decode cX7_fail 242 = .ok (.lload 7, 2) := by decide +kernel
theorem dX7_fail_244 : decode cX7_fail 244 = .ok (.lload 9, 2) := by decide +kernel
theorem dX7_fail_246 : decode cX7_fail 246 = .ok (.ldiv, 1) := by decide +kernel
theorem dX7_fail_247 : decode cX7_fail 247 = .ok (.l2i, 1) := by decide +kernel
theorem dX7_fail_248 : decode cX7_fail 248 = .ok (.ireturn, 1) := by decide +kernel
theorem dX7_hurtAll_0 : decode cX7_hurtAll 0 = .ok (.iconst 0, 1) := by decide +kernel
theorem dX7_hurtAll_1 : decode cX7_hurtAll 1 = .ok (.istore_n 2, 1) := by decide +kernel
theorem dX7_hurtAll_2 : decode cX7_hurtAll 2 = .ok (.iconst 0, 1) := by decide +kernel
theorem dX7_hurtAll_3 : decode cX7_hurtAll 3 = .ok (.istore_n 3, 1) := by decide +kernel
theorem dX7_hurtAll_4 : decode cX7_hurtAll 4 = .ok (.iload_n 3, 1) := by decide +kernel
theorem dX7_hurtAll_5 : decode cX7_hurtAll 5 = .ok (.aload_n 0, 1) := by decide +kernel
theorem dX7_hurtAll_6 : decode cX7_hurtAll 6 = .ok (.getfield 69, 3) := by decide +kernel
theorem dX7_hurtAll_9 : decode cX7_hurtAll 9 = .ok (.if_icmp .ge 23, 3) := by decide +kernel
theorem dX7_hurtAll_12 : decode cX7_hurtAll 12 = .ok (.iload_n 2, 1) := by decide +kernel
theorem dX7_hurtAll_13 : decode cX7_hurtAll 13 = .ok (.aload_n 0, 1) := by decide +kernel
theorem dX7_hurtAll_14 : decode cX7_hurtAll 14 = .ok (.getfield 7, 3) := by decide +kernel
theorem dX7_hurtAll_17 : decode cX7_hurtAll 17 = .ok (.iload_n 1, 1) := by decide +kernel
theorem dX7_hurtAll_18 : decode cX7_hurtAll 18 = .ok (.bipush 17, 2) := by decide +kernel
theorem dX7_hurtAll_20 : decode cX7_hurtAll 20 = .ok (.iadd, 1) := by decide +kernel
theorem dX7_hurtAll_21 : decode cX7_hurtAll 21 = .ok (.iload_n 3, 1) := by decide +kernel
theorem dX7_hurtAll_22 : decode cX7_hurtAll 22 = .ok (.iadd, 1) := by decide +kernel
theorem dX7_hurtAll_23 : decode cX7_hurtAll 23 = .ok (.iaload, 1) := by decide +kernel
theorem dX7_hurtAll_24 : decode cX7_hurtAll 24 = .ok (.iadd, 1) := by decide +kernel
theorem dX7_hurtAll_25 : decode cX7_hurtAll 25 = .ok (.istore_n 2, 1) := by decide +kernel
theorem dX7_hurtAll_26 : decode cX7_hurtAll 26 = .ok (.iinc 3 1, 3) := by decide +kernel
theorem dX7_hurtAll_29 : decode cX7_hurtAll 29 = .ok (.goto (-25), 3) := by decide +kernel
theorem dX7_hurtAll_32 : decode cX7_hurtAll 32 = .ok (.iload_n 2, 1) := by decide +kernel
theorem dX7_hurtAll_33 : decode cX7_hurtAll 33 = .ok (.ireturn, 1) := by decide +kernel
theorem dX7_year_0 : decode cX7_year 0 = .ok (.iload_n 1, 1) := by decide +kernel
theorem dX7_year_1 : decode cX7_year 1 = .ok (.i2l, 1) := by decide +kernel
theorem dX7_year_2 : decode cX7_year 2 = .ok (.lconst 0, 1) := by decide +kernel
theorem dX7_year_3 : decode cX7_year 3 = .ok (.ldc2_w 209, 3) := by decide +kernel
theorem dX7_year_6 : decode cX7_year 6 = .ok (.invokestatic 72, 3) := by decide +kernel
theorem dX7_year_9 : decode cX7_year 9 = .ok (.ifCond .eq 27, 3) := by decide +kernel
theorem dX7_year_12 : decode cX7_year 12 = .ok (.iload_n 2, 1) := by decide +kernel
theorem dX7_year_13 : decode cX7_year 13 = .ok (.i2l, 1) := by decide +kernel
theorem dX7_year_14 : decode cX7_year 14 = .ok (.lconst 1, 1) := by decide +kernel
theorem dX7_year_15 : decode cX7_year 15 = .ok (.ldc2_w 177, 3) := by decide +kernel
theorem dX7_year_18 : decode cX7_year 18 = .ok (.invokestatic 72, 3) := by decide +kernel
theorem dX7_year_21 : decode cX7_year 21 = .ok (.ifCond .eq 15, 3) := by decide +kernel
theorem dX7_year_24 : decode cX7_year 24 = .ok (.iload_n 3, 1) := by decide +kernel
theorem dX7_year_25 : decode cX7_year 25 = .ok (.i2l, 1) := by decide +kernel
theorem dX7_year_26 : decode cX7_year 26 = .ok (.lconst 0, 1) := by decide +kernel
theorem dX7_year_27 : decode cX7_year 27 = .ok (.ldc2_w 211, 3) := by decide +kernel
theorem dX7_year_30 : decode cX7_year 30 = .ok (.invokestatic 72, 3) := by decide +kernel
theorem dX7_year_33 : decode cX7_year 33 = .ok (.ifCond .ne 5, 3) := by decide +kernel
theorem dX7_year_36 : decode cX7_year 36 = .ok (.iconst (-1), 1) := by decide +kernel
theorem dX7_year_37 : decode cX7_year 37 = .ok (.ireturn, 1) := by decide +kernel
theorem dX7_year_38 : decode cX7_year 38 = .ok (.aload_n 0, 1) := by decide +kernel
theorem dX7_year_39 : decode cX7_year 39 = .ok (.invokevirtual 183, 3) := by decide +kernel
theorem dX7_year_42 : decode cX7_year 42 = .ok (.iconst 0, 1) := by decide +kernel
theorem dX7_year_43 : decode cX7_year 43 = .ok (.istore 4, 2) := by decide +kernel
theorem dX7_year_45 : decode cX7_year 45 = .ok (.iload 4, 2) := by decide +kernel
theorem dX7_year_47 : decode cX7_year 47 = .ok (.iload_n 2, 1) := by decide +kernel
theorem dX7_year_48 : decode cX7_year 48 = .ok (.if_icmp .ge 131, 3) := by decide +kernel
theorem dX7_year_51 : decode cX7_year 51 = .ok (.ldc2_w 213, 3) := by decide +kernel
theorem dX7_year_54 : decode cX7_year 54 = .ok (.iload_n 1, 1) := by decide +kernel
theorem dX7_year_55 : decode cX7_year 55 = .ok (.i2l, 1) := by decide +kernel
theorem dX7_year_56 : decode cX7_year 56 = .ok (.lmul, 1) := by decide +kernel
theorem dX7_year_57 : decode cX7_year 57 = .ok (.ldc2_w 215, 3) := by decide +kernel
theorem dX7_year_60 : decode cX7_year 60 = .ok (.iload 4, 2) := by decide +kernel
theorem dX7_year_62 : decode cX7_year 62 = .ok (.i2l, 1) := by decide +kernel
theorem dX7_year_63 : decode cX7_year 63 = .ok (.lmul, 1) := by decide +kernel
theorem dX7_year_64 : decode cX7_year 64 = .ok (.ladd, 1) := by decide +kernel
theorem dX7_year_65 : decode cX7_year 65 = .ok (.lconst 1, 1) := by decide +kernel
theorem dX7_year_66 : decode cX7_year 66 = .ok (.ladd, 1) := by decide +kernel
theorem dX7_year_67 : decode cX7_year 67 = .ok (.lstore 5, 2) := by decide +kernel
theorem dX7_year_69 : decode cX7_year 69 = .ok (.lload 5, 2) := by decide +kernel
theorem dX7_year_71 : decode cX7_year 71 = .ok (.lload 5, 2) := by decide +kernel
theorem dX7_year_73 : decode cX7_year 73 = .ok (.lmul, 1) := by decide +kernel
theorem dX7_year_74 : decode cX7_year 74 = .ok (.ldc2_w 217, 3) := by decide +kernel
theorem dX7_year_77 : decode cX7_year 77 = .ok (.lrem, 1) := by decide +kernel
theorem dX7_year_78 : decode cX7_year 78 = .ok (.l2i, 1) := by decide +kernel
theorem dX7_year_79 : decode cX7_year 79 = .ok (.istore 7, 2) := by decide +kernel
theorem dX7_year_81 : decode cX7_year 81 = .ok (.iload 7, 2) := by decide +kernel
theorem dX7_year_83 : decode cX7_year 83 = .ok (.bipush 8, 2) := by decide +kernel
theorem dX7_year_85 : decode cX7_year 85 = .ok (.idiv, 1) := by decide +kernel
theorem dX7_year_86 : decode cX7_year 86 = .ok (.aload_n 0, 1) := by decide +kernel
theorem dX7_year_87 : decode cX7_year 87 = .ok (.getfield 69, 3) := by decide +kernel
theorem dX7_year_90 : decode cX7_year 90 = .ok (.irem, 1) := by decide +kernel
theorem dX7_year_91 : decode cX7_year 91 = .ok (.istore 8, 2) := by decide +kernel
theorem dX7_year_93 : decode cX7_year 93 = .ok (.aload_n 0, 1) := by decide +kernel
theorem dX7_year_94 : decode cX7_year 94 = .ok (.bipush 52, 2) := by decide +kernel
theorem dX7_year_96 : decode cX7_year 96 = .ok (.iload 8, 2) := by decide +kernel
theorem dX7_year_98 : decode cX7_year 98 = .ok (.invokevirtual 138, 3) := by decide +kernel
theorem dX7_year_101 : decode cX7_year 101 = .ok (.ifCond .eq 66, 3) := by decide +kernel
theorem dX7_year_104 : decode cX7_year 104 = .ok (.iload 7, 2) := by decide +kernel
theorem dX7_year_106 : decode cX7_year 106 = .ok (.bipush 8, 2) := by decide +kernel
theorem dX7_year_108 : decode cX7_year 108 = .ok (.irem, 1) := by decide +kernel
theorem dX7_year_109 : decode cX7_year 109 = .ok (.iconst 4, 1) := by decide +kernel
theorem dX7_year_110 : decode cX7_year 110 = .ok (.if_icmp .ge 29, 3) := by decide +kernel
theorem dX7_year_113 : decode cX7_year 113 = .ok (.aload_n 0, 1) := by decide +kernel
theorem dX7_year_114 : decode cX7_year 114 = .ok (.getfield 7, 3) := by decide +kernel
theorem dX7_year_117 : decode cX7_year 117 = .ok (.bipush 64, 2) := by decide +kernel
theorem dX7_year_119 : decode cX7_year 119 = .ok (.iload 8, 2) := by decide +kernel
theorem dX7_year_121 : decode cX7_year 121 = .ok (.iadd, 1) := by decide +kernel
theorem dX7_year_122 : decode cX7_year 122 = .ok (.iaload, 1) := by decide +kernel
theorem dX7_year_123 : decode cX7_year 123 = .ok (.bipush 7, 2) := by decide +kernel
theorem dX7_year_125 : decode cX7_year 125 = .ok (.if_icmp .ge 14, 3) := by decide +kernel
theorem dX7_year_128 : decode cX7_year 128 = .ok (.aload_n 0, 1) := by decide +kernel
theorem dX7_year_129 : decode cX7_year 129 = .ok (.bipush 52, 2) := by decide +kernel
theorem dX7_year_131 : decode cX7_year 131 = .ok (.iload 8, 2) := by decide +kernel
theorem dX7_year_133 : decode cX7_year 133 = .ok (.invokevirtual 160, 3) := by decide +kernel
theorem dX7_year_136 : decode cX7_year 136 = .ok (.goto 31, 3) := by decide +kernel
theorem dX7_year_139 : decode cX7_year 139 = .ok (.iload 7, 2) := by decide +kernel
theorem dX7_year_141 : decode cX7_year 141 = .ok (.bipush 8, 2) := by decide +kernel
theorem dX7_year_143 : decode cX7_year 143 = .ok (.irem, 1) := by decide +kernel
theorem dX7_year_144 : decode cX7_year 144 = .ok (.iconst 4, 1) := by decide +kernel
theorem dX7_year_145 : decode cX7_year 145 = .ok (.if_icmp .ne 22, 3) := by decide +kernel
theorem dX7_year_148 : decode cX7_year 148 = .ok (.aload_n 0, 1) := by decide +kernel
theorem dX7_year_149 : decode cX7_year 149 = .ok (.bipush 52, 2) := by decide +kernel
theorem dX7_year_151 : decode cX7_year 151 = .ok (.iload 8, 2) := by decide +kernel
theorem dX7_year_153 : decode cX7_year 153 = .ok (.iload 7, 2) := by decide +kernel
theorem dX7_year_155 : decode cX7_year 155 = .ok (.bipush 64, 2) := by decide +kernel
theorem dX7_year_157 : decode cX7_year 157 = .ok (.idiv, 1) := by decide +kernel
theorem dX7_year_158 : decode cX7_year 158 = .ok (.bipush 9, 2) := by decide +kernel
theorem dX7_year_160 : decode cX7_year 160 = .ok (.irem, 1) := by decide +kernel
theorem dX7_year_161 : decode cX7_year 161 = .ok (.iconst 1, 1) := by decide +kernel
theorem dX7_year_162 : decode cX7_year 162 = .ok (.iadd, 1) := by decide +kernel
theorem dX7_year_163 : decode cX7_year 163 = .ok (.invokevirtual 165, 3) := by decide +kernel
theorem dX7_year_166 : decode cX7_year 166 = .ok (.pop, 1) := by decide +kernel
theorem dX7_year_167 : decode cX7_year 167 = .ok (.aload_n 0, 1) := by decide +kernel
theorem dX7_year_168 : decode cX7_year 168 = .ok (.bipush 52, 2) := by decide +kernel
theorem dX7_year_170 : decode cX7_year 170 = .ok (.invokevirtual 171, 3) := by decide +kernel
theorem dX7_year_173 : decode cX7_year 173 = .ok (.iinc 4 1, 3) := by decide +kernel
theorem dX7_year_176 : decode cX7_year 176 = .ok (.goto (-131), 3) := by decide +kernel
theorem dX7_year_179 : decode cX7_year 179 = .ok (.iload_n 3, 1) := by decide +kernel
theorem dX7_year_180 : decode cX7_year 180 = .ok (.ifCond .ne 15, 3) := by decide +kernel
theorem dX7_year_183 : decode cX7_year 183 = .ok (.aload_n 0, 1) := by decide +kernel
theorem dX7_year_184 : decode cX7_year 184 = .ok (.bipush 52, 2) := by decide +kernel
theorem dX7_year_186 : decode cX7_year 186 = .ok (.invokevirtual 186, 3) := by decide +kernel
theorem dX7_year_189 : decode cX7_year 189 = .ok (.invokestatic 189, 3) := by decide +kernel
theorem dX7_year_192 : decode cX7_year 192 = .ok (.goto 24, 3) := by decide +kernel
theorem dX7_year_195 : decode cX7_year 195 = .ok (.iload_n 3, 1) := by decide +kernel
theorem dX7_year_196 : decode cX7_year 196 = .ok (.iconst 1, 1) := by decide +kernel
theorem dX7_year_197 : decode cX7_year 197 = .ok (.if_icmp .ne 13, 3) := by decide +kernel
theorem dX7_year_200 : decode cX7_year 200 = .ok (.aload_n 0, 1) := by decide +kernel
theorem dX7_year_201 : decode cX7_year 201 = .ok (.getfield 7, 3) := by decide +kernel
theorem dX7_year_204 : decode cX7_year 204 = .ok (.bipush 52, 2) := by decide +kernel
theorem dX7_year_206 : decode cX7_year 206 = .ok (.iaload, 1) := by decide +kernel
theorem dX7_year_207 : decode cX7_year 207 = .ok (.goto 9, 3) := by decide +kernel
theorem dX7_year_210 : decode cX7_year 210 = .ok (.aload_n 0, 1) := by decide +kernel
theorem dX7_year_211 : decode cX7_year 211 = .ok (.bipush 52, 2) := by decide +kernel
theorem dX7_year_213 : decode cX7_year 213 = .ok (.invokevirtual 219, 3) := by decide +kernel
theorem dX7_year_216 : decode cX7_year 216 = .ok (.ireturn, 1) := by decide +kernel
theorem dX7_keep_0 : decode cX7_keep 0 = .ok (.aload_n 0, 1) := by decide +kernel
theorem dX7_keep_1 : decode cX7_keep 1 = .ok (.getfield 82, 3) := by decide +kernel
theorem dX7_keep_4 : decode cX7_keep 4 = .ok (.iconst 2, 1) := by decide +kernel
theorem dX7_keep_5 : decode cX7_keep 5 = .ok (.if_icmp .ne 6, 3) := by decide +kernel
theorem dX7_keep_8 : decode cX7_keep 8 = .ok (.bipush (-3), 2) := by decide +kernel
theorem dX7_keep_10 : decode cX7_keep 10 = .ok (.ireturn, 1) := by decide +kernel
theorem dX7_keep_11 : decode cX7_keep 11 = .ok (.aload_n 0, 1) := by decide +kernel
theorem dX7_keep_12 : decode cX7_keep 12 = .ok (.iconst 0, 1) := by decide +kernel
theorem dX7_keep_13 : decode cX7_keep 13 = .ok (.bipush 104, 2) := by decide +kernel
theorem dX7_keep_15 : decode cX7_keep 15 = .ok (.bipush 52, 2) := by decide +kernel
theorem dX7_keep_17 : decode cX7_keep 17 = .ok (.aload_n 0, 1) := by decide +kernel
theorem dX7_keep_18 : decode cX7_keep 18 = .ok (.getfield 82, 3) := by decide +kernel
theorem dX7_keep_21 : decode cX7_keep 21 = .ok (.imul, 1) := by decide +kernel
theorem dX7_keep_22 : decode cX7_keep 22 = .ok (.iadd, 1) := by decide +kernel
theorem dX7_keep_23 : decode cX7_keep 23 = .ok (.invokevirtual 153, 3) := by decide +kernel
theorem dX7_keep_26 : decode cX7_keep 26 = .ok (.aload_n 0, 1) := by decide +kernel
theorem dX7_keep_27 : decode cX7_keep 27 = .ok (.dup, 1) := by decide +kernel
theorem dX7_keep_28 : decode cX7_keep 28 = .ok (.getfield 82, 3) := by decide +kernel
theorem dX7_keep_31 : decode cX7_keep 31 = .ok (.iconst 1, 1) := by decide +kernel
theorem dX7_keep_32 : decode cX7_keep 32 = .ok (.iadd, 1) := by decide +kernel
theorem dX7_keep_33 : decode cX7_keep 33 = .ok (.putfield 82, 3) := by decide +kernel
theorem dX7_keep_36 : decode cX7_keep 36 = .ok (.aload_n 0, 1) := by decide +kernel
theorem dX7_keep_37 : decode cX7_keep 37 = .ok (.getfield 82, 3) := by decide +kernel
theorem dX7_keep_40 : decode cX7_keep 40 = .ok (.ireturn, 1) := by decide +kernel
theorem dX7_back_0 : decode cX7_back 0 = .ok (.aload_n 0, 1) := by decide +kernel
theorem dX7_back_1 : decode cX7_back 1 = .ok (.getfield 82, 3) := by decide +kernel
theorem dX7_back_4 : decode cX7_back 4 = .ok (.ifCond .ne 6, 3) := by decide +kernel
theorem dX7_back_7 : decode cX7_back 7 = .ok (.bipush (-2), 2) := by decide +kernel
theorem dX7_back_9 : decode cX7_back 9 = .ok (.ireturn, 1) := by decide +kernel
theorem dX7_back_10 : decode cX7_back 10 = .ok (.aload_n 0, 1) := by decide +kernel
theorem dX7_back_11 : decode cX7_back 11 = .ok (.dup, 1) := by decide +kernel
theorem dX7_back_12 : decode cX7_back 12 = .ok (.getfield 82, 3) := by decide +kernel
theorem dX7_back_15 : decode cX7_back 15 = .ok (.iconst 1, 1) := by decide +kernel
theorem dX7_back_16 : decode cX7_back 16 = .ok (.isub, 1) := by decide +kernel
theorem dX7_back_17 : decode cX7_back 17 = .ok (.putfield 82, 3) := by decide +kernel
theorem dX7_back_20 : decode cX7_back 20 = .ok (.aload_n 0, 1) := by decide +kernel
theorem dX7_back_21 : decode cX7_back 21 = .ok (.bipush 104, 2) := by decide +kernel
theorem dX7_back_23 : decode cX7_back 23 = .ok (.bipush 52, 2) := by decide +kernel
theorem dX7_back_25 : decode cX7_back 25 = .ok (.aload_n 0, 1) := by decide +kernel
theorem dX7_back_26 : decode cX7_back 26 = .ok (.getfield 82, 3) := by decide +kernel
theorem dX7_back_29 : decode cX7_back 29 = .ok (.imul, 1) := by decide +kernel
theorem dX7_back_30 : decode cX7_back 30 = .ok (.iadd, 1) := by decide +kernel
theorem dX7_back_31 : decode cX7_back 31 = .ok (.iconst 0, 1) := by decide +kernel
theorem dX7_back_32 : decode cX7_back 32 = .ok (.invokevirtual 153, 3) := by decide +kernel
theorem dX7_back_35 : decode cX7_back 35 = .ok (.aload_n 0, 1) := by decide +kernel
theorem dX7_back_36 : decode cX7_back 36 = .ok (.iconst 0, 1) := by decide +kernel
theorem dX7_back_37 : decode cX7_back 37 = .ok (.putfield 79, 3) := by decide +kernel
theorem dX7_back_40 : decode cX7_back 40 = .ok (.aload_n 0, 1) := by decide +kernel
theorem dX7_back_41 : decode cX7_back 41 = .ok (.getfield 82, 3) := by decide +kernel
theorem dX7_back_44 : decode cX7_back 44 = .ok (.ireturn, 1) := by decide +kernel
theorem dX7_propsThere_0 : decode cX7_propsThere 0 = .ok (.iconst 0, 1) := by decide +kernel
theorem dX7_propsThere_1 : decode cX7_propsThere 1 = .ok (.istore_n 1, 1) := by decide +kernel
theorem dX7_propsThere_2 : decode cX7_propsThere 2 = .ok (.iconst 0, 1) := by decide +kernel
theorem dX7_propsThere_3 : decode cX7_propsThere 3 = .ok (.istore_n 2, 1) := by decide +kernel
theorem dX7_propsThere_4 : decode cX7_propsThere 4 = .ok (.iload_n 2, 1) := by decide +kernel
theorem dX7_propsThere_5 : decode cX7_propsThere 5 = .ok (.bipush 25, 2) := by decide +kernel
theorem dX7_propsThere_7 : decode cX7_propsThere 7 = .ok (.if_icmp .ge 29, 3) := by decide +kernel
theorem dX7_propsThere_10 : decode cX7_propsThere 10 = .ok (.iload_n 1, 1) := by decide +kernel
theorem dX7_propsThere_11 : decode cX7_propsThere 11 = .ok (.aload_n 0, 1) := by decide +kernel
theorem dX7_propsThere_12 : decode cX7_propsThere 12 = .ok (.getfield 7, 3) := by decide +kernel
theorem dX7_propsThere_15 : decode cX7_propsThere 15 = .ok (.bipush 27, 2) := by decide +kernel
theorem dX7_propsThere_17 : decode cX7_propsThere 17 = .ok (.iload_n 2, 1) := by decide +kernel
theorem dX7_propsThere_18 : decode cX7_propsThere 18 = .ok (.iadd, 1) := by decide +kernel
theorem dX7_propsThere_19 : decode cX7_propsThere 19 = .ok (.iaload, 1) := by decide +kernel
theorem dX7_propsThere_20 : decode cX7_propsThere 20 = .ok (.ifCond .le 7, 3) := by decide +kernel
theorem dX7_propsThere_23 : decode cX7_propsThere 23 = .ok (.iconst 1, 1) := by decide +kernel
theorem dX7_propsThere_24 : decode cX7_propsThere 24 = .ok (.goto 4, 3) := by decide +kernel
theorem dX7_propsThere_27 : decode cX7_propsThere 27 = .ok (.iconst 0, 1) := by decide +kernel
theorem dX7_propsThere_28 : decode cX7_propsThere 28 = .ok (.iadd, 1) := by decide +kernel
theorem dX7_propsThere_29 : decode cX7_propsThere 29 = .ok (.istore_n 1, 1) := by decide +kernel
theorem dX7_propsThere_30 : decode cX7_propsThere 30 = .ok (.iinc 2 1, 3) := by decide +kernel
theorem dX7_propsThere_33 : decode cX7_propsThere 33 = .ok (.goto (-29), 3) := by decide +kernel
theorem dX7_propsThere_36 : decode cX7_propsThere 36 = .ok (.iload_n 1, 1) := by decide +kernel
theorem dX7_propsThere_37 : decode cX7_propsThere 37 = .ok (.ireturn, 1) := by decide +kernel
theorem dX7_count_0 : decode cX7_count 0 = .ok (.iload_n 1, 1) := by decide +kernel
theorem dX7_count_1 : decode cX7_count 1 = .ok (.tableswitch 114 0 9 #[55, 60, 67, 76, 83, 89, 94, 99, 104, 109], 55) := by decide +kernel
theorem dX7_count_56 : decode cX7_count 56 = .ok (.aload_n 0, 1) := by decide +kernel
theorem dX7_count_57 : decode cX7_count 57 = .ok (.getfield 69, 3) := by decide +kernel
theorem dX7_count_60 : decode cX7_count 60 = .ok (.ireturn, 1) := by decide +kernel
theorem dX7_count_61 : decode cX7_count 61 = .ok (.aload_n 0, 1) := by decide +kernel
theorem dX7_count_62 : decode cX7_count 62 = .ok (.getfield 7, 3) := by decide +kernel
theorem dX7_count_65 : decode cX7_count 65 = .ok (.iconst 1, 1) := by decide +kernel
theorem dX7_count_66 : decode cX7_count 66 = .ok (.iaload, 1) := by decide +kernel
theorem dX7_count_67 : decode cX7_count 67 = .ok (.ireturn, 1) := by decide +kernel
theorem dX7_count_68 : decode cX7_count 68 = .ok (.aload_n 0, 1) := by decide +kernel
theorem dX7_count_69 : decode cX7_count 69 = .ok (.iconst 0, 1) := by decide +kernel
theorem dX7_count_70 : decode cX7_count 70 = .ok (.invokevirtual 186, 3) := by decide +kernel
theorem dX7_count_73 : decode cX7_count 73 = .ok (.invokestatic 189, 3) := by decide +kernel
theorem dX7_count_76 : decode cX7_count 76 = .ok (.ireturn, 1) := by decide +kernel
theorem dX7_count_77 : decode cX7_count 77 = .ok (.aload_n 0, 1) := by decide +kernel
theorem dX7_count_78 : decode cX7_count 78 = .ok (.getfield 7, 3) := by decide +kernel
theorem dX7_count_81 : decode cX7_count 81 = .ok (.iconst 0, 1) := by decide +kernel
theorem dX7_count_82 : decode cX7_count 82 = .ok (.iaload, 1) := by decide +kernel
theorem dX7_count_83 : decode cX7_count 83 = .ok (.ireturn, 1) := by decide +kernel
theorem dX7_count_84 : decode cX7_count 84 = .ok (.aload_n 0, 1) := by decide +kernel
theorem dX7_count_85 : decode cX7_count 85 = .ok (.iconst 0, 1) := by decide +kernel
theorem dX7_count_86 : decode cX7_count 86 = .ok (.invokevirtual 219, 3) := by decide +kernel
theorem dX7_count_89 : decode cX7_count 89 = .ok (.ireturn, 1) := by decide +kernel
theorem dX7_count_90 : decode cX7_count 90 = .ok (.aload_n 0, 1) := by decide +kernel
theorem dX7_count_91 : decode cX7_count 91 = .ok (.invokevirtual 222, 3) := by decide +kernel
theorem dX7_count_94 : decode cX7_count 94 = .ok (.ireturn, 1) := by decide +kernel
theorem dX7_count_95 : decode cX7_count 95 = .ok (.aload_n 0, 1) := by decide +kernel
theorem dX7_count_96 : decode cX7_count 96 = .ok (.getfield 85, 3) := by decide +kernel
theorem dX7_count_99 : decode cX7_count 99 = .ok (.ireturn, 1) := by decide +kernel
theorem dX7_count_100 : decode cX7_count 100 = .ok (.aload_n 0, 1) := by decide +kernel
theorem dX7_count_101 : decode cX7_count 101 = .ok (.getfield 79, 3) := by decide +kernel
theorem dX7_count_104 : decode cX7_count 104 = .ok (.ireturn, 1) := by decide +kernel
theorem dX7_count_105 : decode cX7_count 105 = .ok (.aload_n 0, 1) := by decide +kernel
theorem dX7_count_106 : decode cX7_count 106 = .ok (.getfield 82, 3) := by decide +kernel
theorem dX7_count_109 : decode cX7_count 109 = .ok (.ireturn, 1) := by decide +kernel
theorem dX7_count_110 : decode cX7_count 110 = .ok (.aload_n 0, 1) := by decide +kernel
theorem dX7_count_111 : decode cX7_count 111 = .ok (.getfield 92, 3) := by decide +kernel
theorem dX7_count_114 : decode cX7_count 114 = .ok (.ireturn, 1) := by decide +kernel
theorem dX7_count_115 : decode cX7_count 115 = .ok (.iconst (-1), 1) := by decide +kernel
theorem dX7_count_116 : decode cX7_count 116 = .ok (.ireturn, 1) := by decide +kernel
end
section
theorem dL_law_0 : decode cL_law 0 = .ok (.new 7, 3) := by decide +kernel
theorem dL_law_3 : decode cL_law 3 = .ok (.dup, 1) := by decide +kernel
theorem dL_law_4 : decode cL_law 4 = .ok (.invokespecial 9, 3) := by decide +kernel
theorem dL_law_7 : decode cL_law 7 = .ok (.astore_n 1, 1) := by decide +kernel
theorem dL_law_8 : decode cL_law 8 = .ok (.new 10, 3) := by decide +kernel
theorem dL_law_11 : decode cL_law 11 = .ok (.dup, 1) := by decide +kernel
theorem dL_law_12 : decode cL_law 12 = .ok (.invokespecial 12, 3) := by decide +kernel
theorem dL_law_15 : decode cL_law 15 = .ok (.astore_n 2, 1) := by decide +kernel
theorem dL_law_16 : decode cL_law 16 = .ok (.iconst 0, 1) := by decide +kernel
theorem dL_law_17 : decode cL_law 17 = .ok (.istore_n 3, 1) := by decide +kernel
theorem dL_law_18 : decode cL_law 18 = .ok (.iload_n 3, 1) := by decide +kernel
theorem dL_law_19 : decode cL_law 19 = .ok (.aload_n 0, 1) := by decide +kernel
theorem dL_law_20 : decode cL_law 20 = .ok (.arraylength, 1) := by decide +kernel
theorem dL_law_21 : decode cL_law 21 = .ok (.iconst 5, 1) := by decide +kernel
theorem dL_law_22 : decode cL_law 22 = .ok (.isub, 1) := by decide +kernel
theorem dL_law_23 : decode cL_law 23 = .ok (.if_icmp .gt 803, 3) := by decide +kernel
theorem dL_law_26 : decode cL_law 26 = .ok (.aload_n 0, 1) := by decide +kernel
theorem dL_law_27 : decode cL_law 27 = .ok (.iload_n 3, 1) := by decide +kernel
theorem dL_law_28 : decode cL_law 28 = .ok (.iaload, 1) := by decide +kernel
theorem dL_law_29 : decode cL_law 29 = .ok (.bipush 31, 2) := by decide +kernel
theorem dL_law_31 : decode cL_law 31 = .ok (.iand, 1) := by decide +kernel
theorem dL_law_32 : decode cL_law 32 = .ok (.tableswitch 788 0 25 #[120, 143, 156, 169, 182, 215, 248, 271, 304, 327, 370, 393, 406, 429, 462, 485, 508, 541, 564, 607, 620, 643, 696, 739, 752, 765], 120) := by decide +kernel
theorem dL_law_152 : decode cL_law 152 = .ok (.aload_n 1, 1) := by decide +kernel
theorem dL_law_153 : decode cL_law 153 = .ok (.aload_n 0, 1) := by decide +kernel
theorem dL_law_154 : decode cL_law 154 = .ok (.iload_n 3, 1) := by decide +kernel
theorem dL_law_155 : decode cL_law 155 = .ok (.iconst 1, 1) := by decide +kernel
theorem dL_law_156 : decode cL_law 156 = .ok (.iadd, 1) := by decide +kernel
theorem dL_law_157 : decode cL_law 157 = .ok (.iaload, 1) := by decide +kernel
theorem dL_law_158 : decode cL_law 158 = .ok (.invokevirtual 13, 3) := by decide +kernel
theorem dL_law_161 : decode cL_law 161 = .ok (.aload_n 2, 1) := by decide +kernel
theorem dL_law_162 : decode cL_law 162 = .ok (.aload_n 0, 1) := by decide +kernel
theorem dL_law_163 : decode cL_law 163 = .ok (.iload_n 3, 1) := by decide +kernel
theorem dL_law_164 : decode cL_law 164 = .ok (.iconst 1, 1) := by decide +kernel
theorem dL_law_165 : decode cL_law 165 = .ok (.iadd, 1) := by decide +kernel
theorem dL_law_166 : decode cL_law 166 = .ok (.iaload, 1) := by decide +kernel
theorem dL_law_167 : decode cL_law 167 = .ok (.invokevirtual 17, 3) := by decide +kernel
theorem dL_law_170 : decode cL_law 170 = .ok (.if_icmp .eq 650, 3) := by decide +kernel
theorem dL_law_173 : decode cL_law 173 = .ok (.iconst 0, 1) := by decide +kernel
theorem dL_law_174 : decode cL_law 174 = .ok (.ireturn, 1) := by decide +kernel
theorem dL_law_175 : decode cL_law 175 = .ok (.aload_n 1, 1) := by decide +kernel
theorem dL_law_176 : decode cL_law 176 = .ok (.invokevirtual 18, 3) := by decide +kernel
theorem dL_law_179 : decode cL_law 179 = .ok (.aload_n 2, 1) := by decide +kernel
theorem dL_law_180 : decode cL_law 180 = .ok (.invokevirtual 22, 3) := by decide +kernel
theorem dL_law_183 : decode cL_law 183 = .ok (.if_icmp .eq 637, 3) := by decide +kernel
theorem dL_law_186 : decode cL_law 186 = .ok (.iconst 0, 1) := by decide +kernel
theorem dL_law_187 : decode cL_law 187 = .ok (.ireturn, 1) := by decide +kernel
theorem dL_law_188 : decode cL_law 188 = .ok (.aload_n 1, 1) := by decide +kernel
theorem dL_law_189 : decode cL_law 189 = .ok (.invokevirtual 23, 3) := by decide +kernel
theorem dL_law_192 : decode cL_law 192 = .ok (.aload_n 2, 1) := by decide +kernel
theorem dL_law_193 : decode cL_law 193 = .ok (.invokevirtual 26, 3) := by decide +kernel
theorem dL_law_196 : decode cL_law 196 = .ok (.if_icmp .eq 624, 3) := by decide +kernel
theorem dL_law_199 : decode cL_law 199 = .ok (.iconst 0, 1) := by decide +kernel
theorem dL_law_200 : decode cL_law 200 = .ok (.ireturn, 1) := by decide +kernel
theorem dL_law_201 : decode cL_law 201 = .ok (.aload_n 1, 1) := by decide +kernel
theorem dL_law_202 : decode cL_law 202 = .ok (.invokevirtual 27, 3) := by decide +kernel
theorem dL_law_205 : decode cL_law 205 = .ok (.aload_n 2, 1) := by decide +kernel
theorem dL_law_206 : decode cL_law 206 = .ok (.invokevirtual 30, 3) := by decide +kernel
theorem dL_law_209 : decode cL_law 209 = .ok (.if_icmp .eq 611, 3) := by decide +kernel
theorem dL_law_212 : decode cL_law 212 = .ok (.iconst 0, 1) := by decide +kernel
theorem dL_law_213 : decode cL_law 213 = .ok (.ireturn, 1) := by decide +kernel
theorem dL_law_214 : decode cL_law 214 = .ok (.aload_n 1, 1) := by decide +kernel
theorem dL_law_215 : decode cL_law 215 = .ok (.aload_n 0, 1) := by decide +kernel
theorem dL_law_216 : decode cL_law 216 = .ok (.iload_n 3, 1) := by decide +kernel
theorem dL_law_217 : decode cL_law 217 = .ok (.iconst 1, 1) := by decide +kernel
theorem dL_law_218 : decode cL_law 218 = .ok (.iadd, 1) := by decide +kernel
theorem dL_law_219 : decode cL_law 219 = .ok (.iaload, 1) := by decide +kernel
theorem dL_law_220 : decode cL_law 220 = .ok (.aload_n 0, 1) := by decide +kernel
theorem dL_law_221 : decode cL_law 221 = .ok (.iload_n 3, 1) := by decide +kernel
theorem dL_law_222 : decode cL_law 222 = .ok (.iconst 2, 1) := by decide +kernel
theorem dL_law_223 : decode cL_law 223 = .ok (.iadd, 1) := by decide +kernel
theorem dL_law_224 : decode cL_law 224 = .ok (.iaload, 1) := by decide +kernel
theorem dL_law_225 : decode cL_law 225 = .ok (.invokevirtual 31, 3) := by decide +kernel
theorem dL_law_228 : decode cL_law 228 = .ok (.aload_n 2, 1) := by decide +kernel
theorem dL_law_229 : decode cL_law 229 = .ok (.aload_n 0, 1) := by decide +kernel
theorem dL_law_230 : decode cL_law 230 = .ok (.iload_n 3, 1) := by decide +kernel
theorem dL_law_231 : decode cL_law 231 = .ok (.iconst 1, 1) := by decide +kernel
theorem dL_law_232 : decode cL_law 232 = .ok (.iadd, 1) := by decide +kernel
theorem dL_law_233 : decode cL_law 233 = .ok (.iaload, 1) := by decide +kernel
theorem dL_law_234 : decode cL_law 234 = .ok (.aload_n 0, 1) := by decide +kernel
theorem dL_law_235 : decode cL_law 235 = .ok (.iload_n 3, 1) := by decide +kernel
theorem dL_law_236 : decode cL_law 236 = .ok (.iconst 2, 1) := by decide +kernel
theorem dL_law_237 : decode cL_law 237 = .ok (.iadd, 1) := by decide +kernel
theorem dL_law_238 : decode cL_law 238 = .ok (.iaload, 1) := by decide +kernel
theorem dL_law_239 : decode cL_law 239 = .ok (.invokevirtual 35, 3) := by decide +kernel
theorem dL_law_242 : decode cL_law 242 = .ok (.if_icmp .eq 578, 3) := by decide +kernel
theorem dL_law_245 : decode cL_law 245 = .ok (.iconst 0, 1) := by decide +kernel
theorem dL_law_246 : decode cL_law 246 = .ok (.ireturn, 1) := by decide +kernel
theorem dL_law_247 : decode cL_law 247 = .ok (.aload_n 1, 1) := by decide +kernel
theorem dL_law_248 : decode cL_law 248 = .ok (.aload_n 0, 1) := by decide +kernel
theorem dL_law_249 : decode cL_law 249 = .ok (.iload_n 3, 1) := by decide +kernel
theorem dL_law_250 : decode cL_law 250 = .ok (.iconst 1, 1) := by decide +kernel
theorem dL_law_251 : decode cL_law 251 = .ok (.iadd, 1) := by decide +kernel
theorem dL_law_252 : decode cL_law 252 = .ok (.iaload, 1) := by decide +kernel
theorem dL_law_253 : decode cL_law 253 = .ok (.aload_n 0, 1) := by decide +kernel
theorem dL_law_254 : decode cL_law 254 = .ok (.iload_n 3, 1) := by decide +kernel
theorem dL_law_255 : decode cL_law 255 = .ok (.iconst 2, 1) := by decide +kernel
theorem dL_law_256 : decode cL_law 256 = .ok (.iadd, 1) := by decide +kernel
theorem dL_law_257 : decode cL_law 257 = .ok (.iaload, 1) := by decide +kernel
theorem dL_law_258 : decode cL_law 258 = .ok (.invokevirtual 36, 3) := by decide +kernel
theorem dL_law_261 : decode cL_law 261 = .ok (.aload_n 2, 1) := by decide +kernel
theorem dL_law_262 : decode cL_law 262 = .ok (.aload_n 0, 1) := by decide +kernel
theorem dL_law_263 : decode cL_law 263 = .ok (.iload_n 3, 1) := by decide +kernel
theorem dL_law_264 : decode cL_law 264 = .ok (.iconst 1, 1) := by decide +kernel
theorem dL_law_265 : decode cL_law 265 = .ok (.iadd, 1) := by decide +kernel
theorem dL_law_266 : decode cL_law 266 = .ok (.iaload, 1) := by decide +kernel
theorem dL_law_267 : decode cL_law 267 = .ok (.aload_n 0, 1) := by decide +kernel
theorem dL_law_268 : decode cL_law 268 = .ok (.iload_n 3, 1) := by decide +kernel
theorem dL_law_269 : decode cL_law 269 = .ok (.iconst 2, 1) := by decide +kernel
theorem dL_law_270 : decode cL_law 270 = .ok (.iadd, 1) := by decide +kernel
theorem dL_law_271 : decode cL_law 271 = .ok (.iaload, 1) := by decide +kernel
theorem dL_law_272 : decode cL_law 272 = .ok (.invokevirtual 39, 3) := by decide +kernel
theorem dL_law_275 : decode cL_law 275 = .ok (.if_icmp .eq 545, 3) := by decide +kernel
theorem dL_law_278 : decode cL_law 278 = .ok (.iconst 0, 1) := by decide +kernel
theorem dL_law_279 : decode cL_law 279 = .ok (.ireturn, 1) := by decide +kernel
theorem dL_law_280 : decode cL_law 280 = .ok (.aload_n 1, 1) := by decide +kernel
theorem dL_law_281 : decode cL_law 281 = .ok (.aload_n 0, 1) := by decide +kernel
theorem dL_law_282 : decode cL_law 282 = .ok (.iload_n 3, 1) := by decide +kernel
theorem dL_law_283 : decode cL_law 283 = .ok (.iconst 1, 1) := by decide +kernel
theorem dL_law_284 : decode cL_law 284 = .ok (.iadd, 1) := by decide +kernel
theorem dL_law_285 : decode cL_law 285 = .ok (.iaload, 1) := by decide +kernel
theorem dL_law_286 : decode cL_law 286 = .ok (.invokevirtual 40, 3) := by decide +kernel
theorem dL_law_289 : decode cL_law 289 = .ok (.aload_n 2, 1) := by decide +kernel
theorem dL_law_290 : decode cL_law 290 = .ok (.aload_n 0, 1) := by decide +kernel
theorem dL_law_291 : decode cL_law 291 = .ok (.iload_n 3, 1) := by decide +kernel
theorem dL_law_292 : decode cL_law 292 = .ok (.iconst 1, 1) := by decide +kernel
theorem dL_law_293 : decode cL_law 293 = .ok (.iadd, 1) := by decide +kernel
theorem dL_law_294 : decode cL_law 294 = .ok (.iaload, 1) := by decide +kernel
theorem dL_law_295 : decode cL_law 295 = .ok (.invokevirtual 43, 3) := by decide +kernel
theorem dL_law_298 : decode cL_law 298 = .ok (.if_icmp .eq 522, 3) := by decide +kernel
theorem dL_law_301 : decode cL_law 301 = .ok (.iconst 0, 1) := by decide +kernel
theorem dL_law_302 : decode cL_law 302 = .ok (.ireturn, 1) := by decide +kernel
theorem dL_law_303 : decode cL_law 303 = .ok (.aload_n 1, 1) := by decide +kernel
theorem dL_law_304 : decode cL_law 304 = .ok (.aload_n 0, 1) := by decide +kernel
theorem dL_law_305 : decode cL_law 305 = .ok (.iload_n 3, 1) := by decide +kernel
theorem dL_law_306 : decode cL_law 306 = .ok (.iconst 1, 1) := by decide +kernel
theorem dL_law_307 : decode cL_law 307 = .ok (.iadd, 1) := by decide +kernel
theorem dL_law_308 : decode cL_law 308 = .ok (.iaload, 1) := by decide +kernel
theorem dL_law_309 : decode cL_law 309 = .ok (.aload_n 0, 1) := by decide +kernel
theorem dL_law_310 : decode cL_law 310 = .ok (.iload_n 3, 1) := by decide +kernel
theorem dL_law_311 : decode cL_law 311 = .ok (.iconst 2, 1) := by decide +kernel
theorem dL_law_312 : decode cL_law 312 = .ok (.iadd, 1) := by decide +kernel
theorem dL_law_313 : decode cL_law 313 = .ok (.iaload, 1) := by decide +kernel
theorem dL_law_314 : decode cL_law 314 = .ok (.invokevirtual 44, 3) := by decide +kernel
theorem dL_law_317 : decode cL_law 317 = .ok (.aload_n 2, 1) := by decide +kernel
theorem dL_law_318 : decode cL_law 318 = .ok (.aload_n 0, 1) := by decide +kernel
theorem dL_law_319 : decode cL_law 319 = .ok (.iload_n 3, 1) := by decide +kernel
theorem dL_law_320 : decode cL_law 320 = .ok (.iconst 1, 1) := by decide +kernel
theorem dL_law_321 : decode cL_law 321 = .ok (.iadd, 1) := by decide +kernel
theorem dL_law_322 : decode cL_law 322 = .ok (.iaload, 1) := by decide +kernel
theorem dL_law_323 : decode cL_law 323 = .ok (.aload_n 0, 1) := by decide +kernel
theorem dL_law_324 : decode cL_law 324 = .ok (.iload_n 3, 1) := by decide +kernel
theorem dL_law_325 : decode cL_law 325 = .ok (.iconst 2, 1) := by decide +kernel
theorem dL_law_326 : decode cL_law 326 = .ok (.iadd, 1) := by decide +kernel
theorem dL_law_327 : decode cL_law 327 = .ok (.iaload, 1) := by decide +kernel
theorem dL_law_328 : decode cL_law 328 = .ok (.invokevirtual 47, 3) := by decide +kernel
theorem dL_law_331 : decode cL_law 331 = .ok (.if_icmp .eq 489, 3) := by decide +kernel
theorem dL_law_334 : decode cL_law 334 = .ok (.iconst 0, 1) := by decide +kernel
theorem dL_law_335 : decode cL_law 335 = .ok (.ireturn, 1) := by decide +kernel
theorem dL_law_336 : decode cL_law 336 = .ok (.aload_n 1, 1) := by decide +kernel
theorem dL_law_337 : decode cL_law 337 = .ok (.aload_n 0, 1) := by decide +kernel
theorem dL_law_338 : decode cL_law 338 = .ok (.iload_n 3, 1) := by decide +kernel
theorem dL_law_339 : decode cL_law 339 = .ok (.iconst 1, 1) := by decide +kernel
theorem dL_law_340 : decode cL_law 340 = .ok (.iadd, 1) := by decide +kernel
theorem dL_law_341 : decode cL_law 341 = .ok (.iaload, 1) := by decide +kernel
theorem dL_law_342 : decode cL_law 342 = .ok (.invokevirtual 48, 3) := by decide +kernel
theorem dL_law_345 : decode cL_law 345 = .ok (.aload_n 2, 1) := by decide +kernel
theorem dL_law_346 : decode cL_law 346 = .ok (.aload_n 0, 1) := by decide +kernel
theorem dL_law_347 : decode cL_law 347 = .ok (.iload_n 3, 1) := by decide +kernel
theorem dL_law_348 : decode cL_law 348 = .ok (.iconst 1, 1) := by decide +kernel
theorem dL_law_349 : decode cL_law 349 = .ok (.iadd, 1) := by decide +kernel
theorem dL_law_350 : decode cL_law 350 = .ok (.iaload, 1) := by decide +kernel
theorem dL_law_351 : decode cL_law 351 = .ok (.invokevirtual 51, 3) := by decide +kernel
theorem dL_law_354 : decode cL_law 354 = .ok (.if_icmp .eq 466, 3) := by decide +kernel
theorem dL_law_357 : decode cL_law 357 = .ok (.iconst 0, 1) := by decide +kernel
theorem dL_law_358 : decode cL_law 358 = .ok (.ireturn, 1) := by decide +kernel
theorem dL_law_359 : decode cL_law 359 = .ok (.aload_n 1, 1) := by decide +kernel
theorem dL_law_360 : decode cL_law 360 = .ok (.aload_n 0, 1) := by decide +kernel
theorem dL_law_361 : decode cL_law 361 = .ok (.iload_n 3, 1) := by decide +kernel
theorem dL_law_362 : decode cL_law 362 = .ok (.iconst 1, 1) := by decide +kernel
theorem dL_law_363 : decode cL_law 363 = .ok (.iadd, 1) := by decide +kernel
theorem dL_law_364 : decode cL_law 364 = .ok (.iaload, 1) := by decide +kernel
theorem dL_law_365 : decode cL_law 365 = .ok (.aload_n 0, 1) := by decide +kernel
theorem dL_law_366 : decode cL_law 366 = .ok (.iload_n 3, 1) := by decide +kernel
theorem dL_law_367 : decode cL_law 367 = .ok (.iconst 2, 1) := by decide +kernel
theorem dL_law_368 : decode cL_law 368 = .ok (.iadd, 1) := by decide +kernel
theorem dL_law_369 : decode cL_law 369 = .ok (.iaload, 1) := by decide +kernel
theorem dL_law_370 : decode cL_law 370 = .ok (.aload_n 0, 1) := by decide +kernel
theorem dL_law_371 : decode cL_law 371 = .ok (.iload_n 3, 1) := by decide +kernel
theorem dL_law_372 : decode cL_law 372 = .ok (.iconst 3, 1) := by decide +kernel
theorem dL_law_373 : decode cL_law 373 = .ok (.iadd, 1) := by decide +kernel
theorem dL_law_374 : decode cL_law 374 = .ok (.iaload, 1) := by decide +kernel
theorem dL_law_375 : decode cL_law 375 = .ok (.invokevirtual 52, 3) := by decide +kernel
theorem dL_law_378 : decode cL_law 378 = .ok (.aload_n 2, 1) := by decide +kernel
theorem dL_law_379 : decode cL_law 379 = .ok (.aload_n 0, 1) := by decide +kernel
theorem dL_law_380 : decode cL_law 380 = .ok (.iload_n 3, 1) := by decide +kernel
theorem dL_law_381 : decode cL_law 381 = .ok (.iconst 1, 1) := by decide +kernel
theorem dL_law_382 : decode cL_law 382 = .ok (.iadd, 1) := by decide +kernel
theorem dL_law_383 : decode cL_law 383 = .ok (.iaload, 1) := by decide +kernel
theorem dL_law_384 : decode cL_law 384 = .ok (.aload_n 0, 1) := by decide +kernel
theorem dL_law_385 : decode cL_law 385 = .ok (.iload_n 3, 1) := by decide +kernel
theorem dL_law_386 : decode cL_law 386 = .ok (.iconst 2, 1) := by decide +kernel
theorem dL_law_387 : decode cL_law 387 = .ok (.iadd, 1) := by decide +kernel
theorem dL_law_388 : decode cL_law 388 = .ok (.iaload, 1) := by decide +kernel
theorem dL_law_389 : decode cL_law 389 = .ok (.aload_n 0, 1) := by decide +kernel
theorem dL_law_390 : decode cL_law 390 = .ok (.iload_n 3, 1) := by decide +kernel
theorem dL_law_391 : decode cL_law 391 = .ok (.iconst 3, 1) := by decide +kernel
theorem dL_law_392 : decode cL_law 392 = .ok (.iadd, 1) := by decide +kernel
theorem dL_law_393 : decode cL_law 393 = .ok (.iaload, 1) := by decide +kernel
theorem dL_law_394 : decode cL_law 394 = .ok (.invokevirtual 56, 3) := by decide +kernel
theorem dL_law_397 : decode cL_law 397 = .ok (.if_icmp .eq 423, 3) := by decide +kernel
theorem dL_law_400 : decode cL_law 400 = .ok (.iconst 0, 1) := by decide +kernel
theorem dL_law_401 : decode cL_law 401 = .ok (.ireturn, 1) := by decide +kernel
theorem dL_law_402 : decode cL_law 402 = .ok (.aload_n 1, 1) := by decide +kernel
theorem dL_law_403 : decode cL_law 403 = .ok (.aload_n 0, 1) := by decide +kernel
theorem dL_law_404 : decode cL_law 404 = .ok (.iload_n 3, 1) := by decide +kernel
theorem dL_law_405 : decode cL_law 405 = .ok (.iconst 1, 1) := by decide +kernel
theorem dL_law_406 : decode cL_law 406 = .ok (.iadd, 1) := by decide +kernel
theorem dL_law_407 : decode cL_law 407 = .ok (.iaload, 1) := by decide +kernel
theorem dL_law_408 : decode cL_law 408 = .ok (.invokevirtual 57, 3) := by decide +kernel
theorem dL_law_411 : decode cL_law 411 = .ok (.aload_n 2, 1) := by decide +kernel
theorem dL_law_412 : decode cL_law 412 = .ok (.aload_n 0, 1) := by decide +kernel
theorem dL_law_413 : decode cL_law 413 = .ok (.iload_n 3, 1) := by decide +kernel
theorem dL_law_414 : decode cL_law 414 = .ok (.iconst 1, 1) := by decide +kernel
theorem dL_law_415 : decode cL_law 415 = .ok (.iadd, 1) := by decide +kernel
theorem dL_law_416 : decode cL_law 416 = .ok (.iaload, 1) := by decide +kernel
theorem dL_law_417 : decode cL_law 417 = .ok (.invokevirtual 60, 3) := by decide +kernel
theorem dL_law_420 : decode cL_law 420 = .ok (.if_icmp .eq 400, 3) := by decide +kernel
theorem dL_law_423 : decode cL_law 423 = .ok (.iconst 0, 1) := by decide +kernel
theorem dL_law_424 : decode cL_law 424 = .ok (.ireturn, 1) := by decide +kernel
theorem dL_law_425 : decode cL_law 425 = .ok (.aload_n 1, 1) := by decide +kernel
theorem dL_law_426 : decode cL_law 426 = .ok (.invokevirtual 61, 3) := by decide +kernel
theorem dL_law_429 : decode cL_law 429 = .ok (.aload_n 2, 1) := by decide +kernel
theorem dL_law_430 : decode cL_law 430 = .ok (.invokevirtual 64, 3) := by decide +kernel
theorem dL_law_433 : decode cL_law 433 = .ok (.if_icmp .eq 387, 3) := by decide +kernel
theorem dL_law_436 : decode cL_law 436 = .ok (.iconst 0, 1) := by decide +kernel
theorem dL_law_437 : decode cL_law 437 = .ok (.ireturn, 1) := by decide +kernel
theorem dL_law_438 : decode cL_law 438 = .ok (.aload_n 1, 1) := by decide +kernel
theorem dL_law_439 : decode cL_law 439 = .ok (.aload_n 0, 1) := by decide +kernel
theorem dL_law_440 : decode cL_law 440 = .ok (.iload_n 3, 1) := by decide +kernel
theorem dL_law_441 : decode cL_law 441 = .ok (.iconst 1, 1) := by decide +kernel
theorem dL_law_442 : decode cL_law 442 = .ok (.iadd, 1) := by decide +kernel
theorem dL_law_443 : decode cL_law 443 = .ok (.iaload, 1) := by decide +kernel
theorem dL_law_444 : decode cL_law 444 = .ok (.invokevirtual 65, 3) := by decide +kernel
theorem dL_law_447 : decode cL_law 447 = .ok (.aload_n 2, 1) := by decide +kernel
theorem dL_law_448 : decode cL_law 448 = .ok (.aload_n 0, 1) := by decide +kernel
theorem dL_law_449 : decode cL_law 449 = .ok (.iload_n 3, 1) := by decide +kernel
theorem dL_law_450 : decode cL_law 450 = .ok (.iconst 1, 1) := by decide +kernel
theorem dL_law_451 : decode cL_law 451 = .ok (.iadd, 1) := by decide +kernel
theorem dL_law_452 : decode cL_law 452 = .ok (.iaload, 1) := by decide +kernel
theorem dL_law_453 : decode cL_law 453 = .ok (.invokevirtual 68, 3) := by decide +kernel
theorem dL_law_456 : decode cL_law 456 = .ok (.if_icmp .eq 364, 3) := by decide +kernel
theorem dL_law_459 : decode cL_law 459 = .ok (.iconst 0, 1) := by decide +kernel
theorem dL_law_460 : decode cL_law 460 = .ok (.ireturn, 1) := by decide +kernel
theorem dL_law_461 : decode cL_law 461 = .ok (.aload_n 1, 1) := by decide +kernel
theorem dL_law_462 : decode cL_law 462 = .ok (.aload_n 0, 1) := by decide +kernel
theorem dL_law_463 : decode cL_law 463 = .ok (.iload_n 3, 1) := by decide +kernel
theorem dL_law_464 : decode cL_law 464 = .ok (.iconst 1, 1) := by decide +kernel
theorem dL_law_465 : decode cL_law 465 = .ok (.iadd, 1) := by decide +kernel
theorem dL_law_466 : decode cL_law 466 = .ok (.iaload, 1) := by decide +kernel
theorem dL_law_467 : decode cL_law 467 = .ok (.aload_n 0, 1) := by decide +kernel
theorem dL_law_468 : decode cL_law 468 = .ok (.iload_n 3, 1) := by decide +kernel
theorem dL_law_469 : decode cL_law 469 = .ok (.iconst 2, 1) := by decide +kernel
theorem dL_law_470 : decode cL_law 470 = .ok (.iadd, 1) := by decide +kernel
theorem dL_law_471 : decode cL_law 471 = .ok (.iaload, 1) := by decide +kernel
theorem dL_law_472 : decode cL_law 472 = .ok (.invokevirtual 69, 3) := by decide +kernel
theorem dL_law_475 : decode cL_law 475 = .ok (.aload_n 2, 1) := by decide +kernel
theorem dL_law_476 : decode cL_law 476 = .ok (.aload_n 0, 1) := by decide +kernel
theorem dL_law_477 : decode cL_law 477 = .ok (.iload_n 3, 1) := by decide +kernel
theorem dL_law_478 : decode cL_law 478 = .ok (.iconst 1, 1) := by decide +kernel
theorem dL_law_479 : decode cL_law 479 = .ok (.iadd, 1) := by decide +kernel
theorem dL_law_480 : decode cL_law 480 = .ok (.iaload, 1) := by decide +kernel
theorem dL_law_481 : decode cL_law 481 = .ok (.aload_n 0, 1) := by decide +kernel
theorem dL_law_482 : decode cL_law 482 = .ok (.iload_n 3, 1) := by decide +kernel
theorem dL_law_483 : decode cL_law 483 = .ok (.iconst 2, 1) := by decide +kernel
theorem dL_law_484 : decode cL_law 484 = .ok (.iadd, 1) := by decide +kernel
theorem dL_law_485 : decode cL_law 485 = .ok (.iaload, 1) := by decide +kernel
theorem dL_law_486 : decode cL_law 486 = .ok (.invokevirtual 72, 3) := by decide +kernel
theorem dL_law_489 : decode cL_law 489 = .ok (.if_icmp .eq 331, 3) := by decide +kernel
theorem dL_law_492 : decode cL_law 492 = .ok (.iconst 0, 1) := by decide +kernel
theorem dL_law_493 : decode cL_law 493 = .ok (.ireturn, 1) := by decide +kernel
theorem dL_law_494 : decode cL_law 494 = .ok (.aload_n 1, 1) := by decide +kernel
theorem dL_law_495 : decode cL_law 495 = .ok (.aload_n 0, 1) := by decide +kernel
theorem dL_law_496 : decode cL_law 496 = .ok (.iload_n 3, 1) := by decide +kernel
theorem dL_law_497 : decode cL_law 497 = .ok (.iconst 1, 1) := by decide +kernel
theorem dL_law_498 : decode cL_law 498 = .ok (.iadd, 1) := by decide +kernel
theorem dL_law_499 : decode cL_law 499 = .ok (.iaload, 1) := by decide +kernel
theorem dL_law_500 : decode cL_law 500 = .ok (.invokevirtual 73, 3) := by decide +kernel
theorem dL_law_503 : decode cL_law 503 = .ok (.aload_n 2, 1) := by decide +kernel
theorem dL_law_504 : decode cL_law 504 = .ok (.aload_n 0, 1) := by decide +kernel
theorem dL_law_505 : decode cL_law 505 = .ok (.iload_n 3, 1) := by decide +kernel
theorem dL_law_506 : decode cL_law 506 = .ok (.iconst 1, 1) := by decide +kernel
theorem dL_law_507 : decode cL_law 507 = .ok (.iadd, 1) := by decide +kernel
theorem dL_law_508 : decode cL_law 508 = .ok (.iaload, 1) := by decide +kernel
theorem dL_law_509 : decode cL_law 509 = .ok (.invokevirtual 76, 3) := by decide +kernel
theorem dL_law_512 : decode cL_law 512 = .ok (.if_icmp .eq 308, 3) := by decide +kernel
theorem dL_law_515 : decode cL_law 515 = .ok (.iconst 0, 1) := by decide +kernel
theorem dL_law_516 : decode cL_law 516 = .ok (.ireturn, 1) := by decide +kernel
theorem dL_law_517 : decode cL_law 517 = .ok (.aload_n 1, 1) := by decide +kernel
theorem dL_law_518 : decode cL_law 518 = .ok (.aload_n 0, 1) := by decide +kernel
theorem dL_law_519 : decode cL_law 519 = .ok (.iload_n 3, 1) := by decide +kernel
theorem dL_law_520 : decode cL_law 520 = .ok (.iconst 1, 1) := by decide +kernel
theorem dL_law_521 : decode cL_law 521 = .ok (.iadd, 1) := by decide +kernel
theorem dL_law_522 : decode cL_law 522 = .ok (.iaload, 1) := by decide +kernel
theorem dL_law_523 : decode cL_law 523 = .ok (.invokevirtual 77, 3) := by decide +kernel
theorem dL_law_526 : decode cL_law 526 = .ok (.aload_n 2, 1) := by decide +kernel
theorem dL_law_527 : decode cL_law 527 = .ok (.aload_n 0, 1) := by decide +kernel
theorem dL_law_528 : decode cL_law 528 = .ok (.iload_n 3, 1) := by decide +kernel
theorem dL_law_529 : decode cL_law 529 = .ok (.iconst 1, 1) := by decide +kernel
theorem dL_law_530 : decode cL_law 530 = .ok (.iadd, 1) := by decide +kernel
theorem dL_law_531 : decode cL_law 531 = .ok (.iaload, 1) := by decide +kernel
theorem dL_law_532 : decode cL_law 532 = .ok (.invokevirtual 80, 3) := by decide +kernel
theorem dL_law_535 : decode cL_law 535 = .ok (.if_icmp .eq 285, 3) := by decide +kernel
theorem dL_law_538 : decode cL_law 538 = .ok (.iconst 0, 1) := by decide +kernel
theorem dL_law_539 : decode cL_law 539 = .ok (.ireturn, 1) := by decide +kernel
theorem dL_law_540 : decode cL_law 540 = .ok (.aload_n 1, 1) := by decide +kernel
theorem dL_law_541 : decode cL_law 541 = .ok (.aload_n 0, 1) := by decide +kernel
theorem dL_law_542 : decode cL_law 542 = .ok (.iload_n 3, 1) := by decide +kernel
theorem dL_law_543 : decode cL_law 543 = .ok (.iconst 1, 1) := by decide +kernel
theorem dL_law_544 : decode cL_law 544 = .ok (.iadd, 1) := by decide +kernel
theorem dL_law_545 : decode cL_law 545 = .ok (.iaload, 1) := by decide +kernel
theorem dL_law_546 : decode cL_law 546 = .ok (.aload_n 0, 1) := by decide +kernel
theorem dL_law_547 : decode cL_law 547 = .ok (.iload_n 3, 1) := by decide +kernel
theorem dL_law_548 : decode cL_law 548 = .ok (.iconst 2, 1) := by decide +kernel
theorem dL_law_549 : decode cL_law 549 = .ok (.iadd, 1) := by decide +kernel
theorem dL_law_550 : decode cL_law 550 = .ok (.iaload, 1) := by decide +kernel
theorem dL_law_551 : decode cL_law 551 = .ok (.invokevirtual 81, 3) := by decide +kernel
theorem dL_law_554 : decode cL_law 554 = .ok (.aload_n 2, 1) := by decide +kernel
theorem dL_law_555 : decode cL_law 555 = .ok (.aload_n 0, 1) := by decide +kernel
theorem dL_law_556 : decode cL_law 556 = .ok (.iload_n 3, 1) := by decide +kernel
theorem dL_law_557 : decode cL_law 557 = .ok (.iconst 1, 1) := by decide +kernel
theorem dL_law_558 : decode cL_law 558 = .ok (.iadd, 1) := by decide +kernel
theorem dL_law_559 : decode cL_law 559 = .ok (.iaload, 1) := by decide +kernel
theorem dL_law_560 : decode cL_law 560 = .ok (.aload_n 0, 1) := by decide +kernel
theorem dL_law_561 : decode cL_law 561 = .ok (.iload_n 3, 1) := by decide +kernel
theorem dL_law_562 : decode cL_law 562 = .ok (.iconst 2, 1) := by decide +kernel
theorem dL_law_563 : decode cL_law 563 = .ok (.iadd, 1) := by decide +kernel
theorem dL_law_564 : decode cL_law 564 = .ok (.iaload, 1) := by decide +kernel
theorem dL_law_565 : decode cL_law 565 = .ok (.invokevirtual 84, 3) := by decide +kernel
theorem dL_law_568 : decode cL_law 568 = .ok (.if_icmp .eq 252, 3) := by decide +kernel
theorem dL_law_571 : decode cL_law 571 = .ok (.iconst 0, 1) := by decide +kernel
theorem dL_law_572 : decode cL_law 572 = .ok (.ireturn, 1) := by decide +kernel
theorem dL_law_573 : decode cL_law 573 = .ok (.aload_n 1, 1) := by decide +kernel
theorem dL_law_574 : decode cL_law 574 = .ok (.aload_n 0, 1) := by decide +kernel
theorem dL_law_575 : decode cL_law 575 = .ok (.iload_n 3, 1) := by decide +kernel
theorem dL_law_576 : decode cL_law 576 = .ok (.iconst 1, 1) := by decide +kernel
theorem dL_law_577 : decode cL_law 577 = .ok (.iadd, 1) := by decide +kernel
theorem dL_law_578 : decode cL_law 578 = .ok (.iaload, 1) := by decide +kernel
theorem dL_law_579 : decode cL_law 579 = .ok (.invokevirtual 85, 3) := by decide +kernel
theorem dL_law_582 : decode cL_law 582 = .ok (.aload_n 2, 1) := by decide +kernel
theorem dL_law_583 : decode cL_law 583 = .ok (.aload_n 0, 1) := by decide +kernel
theorem dL_law_584 : decode cL_law 584 = .ok (.iload_n 3, 1) := by decide +kernel
theorem dL_law_585 : decode cL_law 585 = .ok (.iconst 1, 1) := by decide +kernel
theorem dL_law_586 : decode cL_law 586 = .ok (.iadd, 1) := by decide +kernel
theorem dL_law_587 : decode cL_law 587 = .ok (.iaload, 1) := by decide +kernel
theorem dL_law_588 : decode cL_law 588 = .ok (.invokevirtual 88, 3) := by decide +kernel
theorem dL_law_591 : decode cL_law 591 = .ok (.if_icmp .eq 229, 3) := by decide +kernel
theorem dL_law_594 : decode cL_law 594 = .ok (.iconst 0, 1) := by decide +kernel
theorem dL_law_595 : decode cL_law 595 = .ok (.ireturn, 1) := by decide +kernel
theorem dL_law_596 : decode cL_law 596 = .ok (.aload_n 1, 1) := by decide +kernel
theorem dL_law_597 : decode cL_law 597 = .ok (.aload_n 0, 1) := by decide +kernel
theorem dL_law_598 : decode cL_law 598 = .ok (.iload_n 3, 1) := by decide +kernel
theorem dL_law_599 : decode cL_law 599 = .ok (.iconst 1, 1) := by decide +kernel
theorem dL_law_600 : decode cL_law 600 = .ok (.iadd, 1) := by decide +kernel
theorem dL_law_601 : decode cL_law 601 = .ok (.iaload, 1) := by decide +kernel
theorem dL_law_602 : decode cL_law 602 = .ok (.aload_n 0, 1) := by decide +kernel
theorem dL_law_603 : decode cL_law 603 = .ok (.iload_n 3, 1) := by decide +kernel
theorem dL_law_604 : decode cL_law 604 = .ok (.iconst 2, 1) := by decide +kernel
theorem dL_law_605 : decode cL_law 605 = .ok (.iadd, 1) := by decide +kernel
theorem dL_law_606 : decode cL_law 606 = .ok (.iaload, 1) := by decide +kernel
theorem dL_law_607 : decode cL_law 607 = .ok (.aload_n 0, 1) := by decide +kernel
theorem dL_law_608 : decode cL_law 608 = .ok (.iload_n 3, 1) := by decide +kernel
theorem dL_law_609 : decode cL_law 609 = .ok (.iconst 3, 1) := by decide +kernel
theorem dL_law_610 : decode cL_law 610 = .ok (.iadd, 1) := by decide +kernel
theorem dL_law_611 : decode cL_law 611 = .ok (.iaload, 1) := by decide +kernel
theorem dL_law_612 : decode cL_law 612 = .ok (.invokevirtual 89, 3) := by decide +kernel
theorem dL_law_615 : decode cL_law 615 = .ok (.aload_n 2, 1) := by decide +kernel
theorem dL_law_616 : decode cL_law 616 = .ok (.aload_n 0, 1) := by decide +kernel
theorem dL_law_617 : decode cL_law 617 = .ok (.iload_n 3, 1) := by decide +kernel
theorem dL_law_618 : decode cL_law 618 = .ok (.iconst 1, 1) := by decide +kernel
theorem dL_law_619 : decode cL_law 619 = .ok (.iadd, 1) := by decide +kernel
theorem dL_law_620 : decode cL_law 620 = .ok (.iaload, 1) := by decide +kernel
theorem dL_law_621 : decode cL_law 621 = .ok (.aload_n 0, 1) := by decide +kernel
theorem dL_law_622 : decode cL_law 622 = .ok (.iload_n 3, 1) := by decide +kernel
theorem dL_law_623 : decode cL_law 623 = .ok (.iconst 2, 1) := by decide +kernel
theorem dL_law_624 : decode cL_law 624 = .ok (.iadd, 1) := by decide +kernel
theorem dL_law_625 : decode cL_law 625 = .ok (.iaload, 1) := by decide +kernel
theorem dL_law_626 : decode cL_law 626 = .ok (.aload_n 0, 1) := by decide +kernel
theorem dL_law_627 : decode cL_law 627 = .ok (.iload_n 3, 1) := by decide +kernel
theorem dL_law_628 : decode cL_law 628 = .ok (.iconst 3, 1) := by decide +kernel
theorem dL_law_629 : decode cL_law 629 = .ok (.iadd, 1) := by decide +kernel
theorem dL_law_630 : decode cL_law 630 = .ok (.iaload, 1) := by decide +kernel
theorem dL_law_631 : decode cL_law 631 = .ok (.invokevirtual 92, 3) := by decide +kernel
theorem dL_law_634 : decode cL_law 634 = .ok (.if_icmp .eq 186, 3) := by decide +kernel
theorem dL_law_637 : decode cL_law 637 = .ok (.iconst 0, 1) := by decide +kernel
theorem dL_law_638 : decode cL_law 638 = .ok (.ireturn, 1) := by decide +kernel
theorem dL_law_639 : decode cL_law 639 = .ok (.aload_n 1, 1) := by decide +kernel
theorem dL_law_640 : decode cL_law 640 = .ok (.invokevirtual 93, 3) := by decide +kernel
theorem dL_law_643 : decode cL_law 643 = .ok (.aload_n 2, 1) := by decide +kernel
theorem dL_law_644 : decode cL_law 644 = .ok (.invokevirtual 96, 3) := by decide +kernel
theorem dL_law_647 : decode cL_law 647 = .ok (.if_icmp .eq 173, 3) := by decide +kernel
theorem dL_law_650 : decode cL_law 650 = .ok (.iconst 0, 1) := by decide +kernel
theorem dL_law_651 : decode cL_law 651 = .ok (.ireturn, 1) := by decide +kernel
theorem dL_law_652 : decode cL_law 652 = .ok (.aload_n 1, 1) := by decide +kernel
theorem dL_law_653 : decode cL_law 653 = .ok (.aload_n 0, 1) := by decide +kernel
theorem dL_law_654 : decode cL_law 654 = .ok (.iload_n 3, 1) := by decide +kernel
theorem dL_law_655 : decode cL_law 655 = .ok (.iconst 1, 1) := by decide +kernel
theorem dL_law_656 : decode cL_law 656 = .ok (.iadd, 1) := by decide +kernel
theorem dL_law_657 : decode cL_law 657 = .ok (.iaload, 1) := by decide +kernel
theorem dL_law_658 : decode cL_law 658 = .ok (.invokevirtual 97, 3) := by decide +kernel
theorem dL_law_661 : decode cL_law 661 = .ok (.aload_n 2, 1) := by decide +kernel
theorem dL_law_662 : decode cL_law 662 = .ok (.aload_n 0, 1) := by decide +kernel
theorem dL_law_663 : decode cL_law 663 = .ok (.iload_n 3, 1) := by decide +kernel
theorem dL_law_664 : decode cL_law 664 = .ok (.iconst 1, 1) := by decide +kernel
theorem dL_law_665 : decode cL_law 665 = .ok (.iadd, 1) := by decide +kernel
theorem dL_law_666 : decode cL_law 666 = .ok (.iaload, 1) := by decide +kernel
theorem dL_law_667 : decode cL_law 667 = .ok (.invokevirtual 100, 3) := by decide +kernel
theorem dL_law_670 : decode cL_law 670 = .ok (.if_icmp .eq 150, 3) := by decide +kernel
theorem dL_law_673 : decode cL_law 673 = .ok (.iconst 0, 1) := by decide +kernel
theorem dL_law_674 : decode cL_law 674 = .ok (.ireturn, 1) := by decide +kernel
theorem dL_law_675 : decode cL_law 675 = .ok (.aload_n 1, 1) := by decide +kernel
theorem dL_law_676 : decode cL_law 676 = .ok (.aload_n 0, 1) := by decide +kernel
theorem dL_law_677 : decode cL_law 677 = .ok (.iload_n 3, 1) := by decide +kernel
theorem dL_law_678 : decode cL_law 678 = .ok (.iconst 1, 1) := by decide +kernel
theorem dL_law_679 : decode cL_law 679 = .ok (.iadd, 1) := by decide +kernel
theorem dL_law_680 : decode cL_law 680 = .ok (.iaload, 1) := by decide +kernel
theorem dL_law_681 : decode cL_law 681 = .ok (.aload_n 0, 1) := by decide +kernel
theorem dL_law_682 : decode cL_law 682 = .ok (.iload_n 3, 1) := by decide +kernel
theorem dL_law_683 : decode cL_law 683 = .ok (.iconst 2, 1) := by decide +kernel
theorem dL_law_684 : decode cL_law 684 = .ok (.iadd, 1) := by decide +kernel
theorem dL_law_685 : decode cL_law 685 = .ok (.iaload, 1) := by decide +kernel
theorem dL_law_686 : decode cL_law 686 = .ok (.aload_n 0, 1) := by decide +kernel
theorem dL_law_687 : decode cL_law 687 = .ok (.iload_n 3, 1) := by decide +kernel
theorem dL_law_688 : decode cL_law 688 = .ok (.iconst 3, 1) := by decide +kernel
theorem dL_law_689 : decode cL_law 689 = .ok (.iadd, 1) := by decide +kernel
theorem dL_law_690 : decode cL_law 690 = .ok (.iaload, 1) := by decide +kernel
theorem dL_law_691 : decode cL_law 691 = .ok (.aload_n 0, 1) := by decide +kernel
theorem dL_law_692 : decode cL_law 692 = .ok (.iload_n 3, 1) := by decide +kernel
theorem dL_law_693 : decode cL_law 693 = .ok (.iconst 4, 1) := by decide +kernel
theorem dL_law_694 : decode cL_law 694 = .ok (.iadd, 1) := by decide +kernel
theorem dL_law_695 : decode cL_law 695 = .ok (.iaload, 1) := by decide +kernel
theorem dL_law_696 : decode cL_law 696 = .ok (.invokevirtual 101, 3) := by decide +kernel
theorem dL_law_699 : decode cL_law 699 = .ok (.aload_n 2, 1) := by decide +kernel
theorem dL_law_700 : decode cL_law 700 = .ok (.aload_n 0, 1) := by decide +kernel
theorem dL_law_701 : decode cL_law 701 = .ok (.iload_n 3, 1) := by decide +kernel
theorem dL_law_702 : decode cL_law 702 = .ok (.iconst 1, 1) := by decide +kernel
theorem dL_law_703 : decode cL_law 703 = .ok (.iadd, 1) := by decide +kernel
theorem dL_law_704 : decode cL_law 704 = .ok (.iaload, 1) := by decide +kernel
theorem dL_law_705 : decode cL_law 705 = .ok (.aload_n 0, 1) := by decide +kernel
theorem dL_law_706 : decode cL_law 706 = .ok (.iload_n 3, 1) := by decide +kernel
theorem dL_law_707 : decode cL_law 707 = .ok (.iconst 2, 1) := by decide +kernel
theorem dL_law_708 : decode cL_law 708 = .ok (.iadd, 1) := by decide +kernel
theorem dL_law_709 : decode cL_law 709 = .ok (.iaload, 1) := by decide +kernel
theorem dL_law_710 : decode cL_law 710 = .ok (.aload_n 0, 1) := by decide +kernel
theorem dL_law_711 : decode cL_law 711 = .ok (.iload_n 3, 1) := by decide +kernel
theorem dL_law_712 : decode cL_law 712 = .ok (.iconst 3, 1) := by decide +kernel
theorem dL_law_713 : decode cL_law 713 = .ok (.iadd, 1) := by decide +kernel
theorem dL_law_714 : decode cL_law 714 = .ok (.iaload, 1) := by decide +kernel
theorem dL_law_715 : decode cL_law 715 = .ok (.aload_n 0, 1) := by decide +kernel
theorem dL_law_716 : decode cL_law 716 = .ok (.iload_n 3, 1) := by decide +kernel
theorem dL_law_717 : decode cL_law 717 = .ok (.iconst 4, 1) := by decide +kernel
theorem dL_law_718 : decode cL_law 718 = .ok (.iadd, 1) := by decide +kernel
theorem dL_law_719 : decode cL_law 719 = .ok (.iaload, 1) := by decide +kernel
theorem dL_law_720 : decode cL_law 720 = .ok (.invokevirtual 105, 3) := by decide +kernel
theorem dL_law_723 : decode cL_law 723 = .ok (.if_icmp .eq 97, 3) := by decide +kernel
theorem dL_law_726 : decode cL_law 726 = .ok (.iconst 0, 1) := by decide +kernel
theorem dL_law_727 : decode cL_law 727 = .ok (.ireturn, 1) := by decide +kernel
theorem dL_law_728 : decode cL_law 728 = .ok (.aload_n 1, 1) := by decide +kernel
theorem dL_law_729 : decode cL_law 729 = .ok (.aload_n 0, 1) := by decide +kernel
theorem dL_law_730 : decode cL_law 730 = .ok (.iload_n 3, 1) := by decide +kernel
theorem dL_law_731 : decode cL_law 731 = .ok (.iconst 1, 1) := by decide +kernel
theorem dL_law_732 : decode cL_law 732 = .ok (.iadd, 1) := by decide +kernel
theorem dL_law_733 : decode cL_law 733 = .ok (.iaload, 1) := by decide +kernel
theorem dL_law_734 : decode cL_law 734 = .ok (.aload_n 0, 1) := by decide +kernel
theorem dL_law_735 : decode cL_law 735 = .ok (.iload_n 3, 1) := by decide +kernel
theorem dL_law_736 : decode cL_law 736 = .ok (.iconst 2, 1) := by decide +kernel
theorem dL_law_737 : decode cL_law 737 = .ok (.iadd, 1) := by decide +kernel
theorem dL_law_738 : decode cL_law 738 = .ok (.iaload, 1) := by decide +kernel
theorem dL_law_739 : decode cL_law 739 = .ok (.aload_n 0, 1) := by decide +kernel
theorem dL_law_740 : decode cL_law 740 = .ok (.iload_n 3, 1) := by decide +kernel
theorem dL_law_741 : decode cL_law 741 = .ok (.iconst 3, 1) := by decide +kernel
theorem dL_law_742 : decode cL_law 742 = .ok (.iadd, 1) := by decide +kernel
theorem dL_law_743 : decode cL_law 743 = .ok (.iaload, 1) := by decide +kernel
theorem dL_law_744 : decode cL_law 744 = .ok (.invokevirtual 106, 3) := by decide +kernel
theorem dL_law_747 : decode cL_law 747 = .ok (.aload_n 2, 1) := by decide +kernel
theorem dL_law_748 : decode cL_law 748 = .ok (.aload_n 0, 1) := by decide +kernel
theorem dL_law_749 : decode cL_law 749 = .ok (.iload_n 3, 1) := by decide +kernel
theorem dL_law_750 : decode cL_law 750 = .ok (.iconst 1, 1) := by decide +kernel
theorem dL_law_751 : decode cL_law 751 = .ok (.iadd, 1) := by decide +kernel
theorem dL_law_752 : decode cL_law 752 = .ok (.iaload, 1) := by decide +kernel
theorem dL_law_753 : decode cL_law 753 = .ok (.aload_n 0, 1) := by decide +kernel
theorem dL_law_754 : decode cL_law 754 = .ok (.iload_n 3, 1) := by decide +kernel
theorem dL_law_755 : decode cL_law 755 = .ok (.iconst 2, 1) := by decide +kernel
theorem dL_law_756 : decode cL_law 756 = .ok (.iadd, 1) := by decide +kernel
theorem dL_law_757 : decode cL_law 757 = .ok (.iaload, 1) := by decide +kernel
theorem dL_law_758 : decode cL_law 758 = .ok (.aload_n 0, 1) := by decide +kernel
theorem dL_law_759 : decode cL_law 759 = .ok (.iload_n 3, 1) := by decide +kernel
theorem dL_law_760 : decode cL_law 760 = .ok (.iconst 3, 1) := by decide +kernel
theorem dL_law_761 : decode cL_law 761 = .ok (.iadd, 1) := by decide +kernel
theorem dL_law_762 : decode cL_law 762 = .ok (.iaload, 1) := by decide +kernel
theorem dL_law_763 : decode cL_law 763 = .ok (.invokevirtual 109, 3) := by decide +kernel
theorem dL_law_766 : decode cL_law 766 = .ok (.if_icmp .eq 54, 3) := by decide +kernel
theorem dL_law_769 : decode cL_law 769 = .ok (.iconst 0, 1) := by decide +kernel
theorem dL_law_770 : decode cL_law 770 = .ok (.ireturn, 1) := by decide +kernel
theorem dL_law_771 : decode cL_law 771 = .ok (.aload_n 1, 1) := by decide +kernel
theorem dL_law_772 : decode cL_law 772 = .ok (.invokevirtual 110, 3) := by decide +kernel
theorem dL_law_775 : decode cL_law 775 = .ok (.aload_n 2, 1) := by decide +kernel
theorem dL_law_776 : decode cL_law 776 = .ok (.invokevirtual 113, 3) := by decide +kernel
theorem dL_law_779 : decode cL_law 779 = .ok (.if_icmp .eq 41, 3) := by decide +kernel
theorem dL_law_782 : decode cL_law 782 = .ok (.iconst 0, 1) := by decide +kernel
theorem dL_law_783 : decode cL_law 783 = .ok (.ireturn, 1) := by decide +kernel
theorem dL_law_784 : decode cL_law 784 = .ok (.aload_n 1, 1) := by decide +kernel
theorem dL_law_785 : decode cL_law 785 = .ok (.invokevirtual 114, 3) := by decide +kernel
theorem dL_law_788 : decode cL_law 788 = .ok (.aload_n 2, 1) := by decide +kernel
theorem dL_law_789 : decode cL_law 789 = .ok (.invokevirtual 117, 3) := by decide +kernel
theorem dL_law_792 : decode cL_law 792 = .ok (.if_icmp .eq 28, 3) := by decide +kernel
theorem dL_law_795 : decode cL_law 795 = .ok (.iconst 0, 1) := by decide +kernel
theorem dL_law_796 : decode cL_law 796 = .ok (.ireturn, 1) := by decide +kernel
theorem dL_law_797 : decode cL_law 797 = .ok (.aload_n 1, 1) := by decide +kernel
theorem dL_law_798 : decode cL_law 798 = .ok (.aload_n 0, 1) := by decide +kernel
theorem dL_law_799 : decode cL_law 799 = .ok (.iload_n 3, 1) := by decide +kernel
theorem dL_law_800 : decode cL_law 800 = .ok (.iconst 1, 1) := by decide +kernel
theorem dL_law_801 : decode cL_law 801 = .ok (.iadd, 1) := by decide +kernel
theorem dL_law_802 : decode cL_law 802 = .ok (.iaload, 1) := by decide +kernel
theorem dL_law_803 : decode cL_law 803 = .ok (.invokevirtual 118, 3) := by decide +kernel
theorem dL_law_806 : decode cL_law 806 = .ok (.aload_n 2, 1) := by decide +kernel
theorem dL_law_807 : decode cL_law 807 = .ok (.aload_n 0, 1) := by decide +kernel
theorem dL_law_808 : decode cL_law 808 = .ok (.iload_n 3, 1) := by decide +kernel
theorem dL_law_809 : decode cL_law 809 = .ok (.iconst 1, 1) := by decide +kernel
theorem dL_law_810 : decode cL_law 810 = .ok (.iadd, 1) := by decide +kernel
theorem dL_law_811 : decode cL_law 811 = .ok (.iaload, 1) := by decide +kernel
theorem dL_law_812 : decode cL_law 812 = .ok (.invokevirtual 121, 3) := by decide +kernel
theorem dL_law_815 : decode cL_law 815 = .ok (.if_icmp .eq 5, 3) := by decide +kernel
theorem dL_law_818 : decode cL_law 818 = .ok (.iconst 0, 1) := by decide +kernel
theorem dL_law_819 : decode cL_law 819 = .ok (.ireturn, 1) := by decide +kernel
theorem dL_law_820 : decode cL_law 820 = .ok (.iinc 3 5, 3) := by decide +kernel
theorem dL_law_823 : decode cL_law 823 = .ok (.goto (-805), 3) := by decide +kernel
theorem dL_law_826 : decode cL_law 826 = .ok (.iconst 1, 1) := by decide +kernel
theorem dL_law_827 : decode cL_law 827 = .ok (.ireturn, 1) := by decide +kernel
end
section
theorem dX0_init_0 : decode cX0_init 0 = .ok (.aload_n 0, 1) := by decide +kernel
theorem dX0_init_1 : decode cX0_init 1 = .ok (.invokespecial 3, 3) := by decide +kernel
theorem dX0_init_4 : decode cX0_init 4 = .ok (.aload_n 0, 1) := by decide +kernel
theorem dX0_init_5 : decode cX0_init 5 = .ok (.bipush 6, 2) := by decide +kernel
theorem dX0_init_7 : decode cX0_init 7 = .ok (.newarray .int, 2) := by decide +kernel
theorem dX0_init_9 : decode cX0_init 9 = .ok (.putfield 9, 3) := by decide +kernel
theorem dX0_init_12 : decode cX0_init 12 = .ok (.aload_n 0, 1) := by decide +kernel
theorem dX0_init_13 : decode cX0_init 13 = .ok (.bipush 6, 2) := by decide +kernel
theorem dX0_init_15 : decode cX0_init 15 = .ok (.newarray .int, 2) := by decide +kernel
theorem dX0_init_17 : decode cX0_init 17 = .ok (.putfield 15, 3) := by decide +kernel
theorem dX0_init_20 : decode cX0_init 20 = .ok (.aload_n 0, 1) := by decide +kernel
theorem dX0_init_21 : decode cX0_init 21 = .ok (.bipush 6, 2) := by decide +kernel
theorem dX0_init_23 : decode cX0_init 23 = .ok (.newarray .int, 2) := by decide +kernel
theorem dX0_init_25 : decode cX0_init 25 = .ok (.putfield 18, 3) := by decide +kernel
theorem dX0_init_28 : decode cX0_init 28 = .ok (.aload_n 0, 1) := by decide +kernel
theorem dX0_init_29 : decode cX0_init 29 = .ok (.iconst 0, 1) := by decide +kernel
theorem dX0_init_30 : decode cX0_init 30 = .ok (.putfield 21, 3) := by decide +kernel
theorem dX0_init_33 : decode cX0_init 33 = .ok (.return_, 1) := by decide +kernel
theorem dX0_isEnded_0 : decode cX0_isEnded 0 = .ok (.aload_n 0, 1) := by decide +kernel
theorem dX0_isEnded_1 : decode cX0_isEnded 1 = .ok (.getfield 21, 3) := by decide +kernel
theorem dX0_isEnded_4 : decode cX0_isEnded 4 = .ok (.ifCond .le 22, 3) := by decide +kernel
theorem dX0_isEnded_7 : decode cX0_isEnded 7 = .ok (.aload_n 0, 1) := by decide +kernel
theorem dX0_isEnded_8 : decode cX0_isEnded 8 = .ok (.getfield 18, 3) := by decide +kernel
theorem dX0_isEnded_11 : decode cX0_isEnded 11 = .ok (.aload_n 0, 1) := by decide +kernel
theorem dX0_isEnded_12 : decode cX0_isEnded 12 = .ok (.getfield 21, 3) := by decide +kernel
theorem dX0_isEnded_15 : decode cX0_isEnded 15 = .ok (.iconst 1, 1) := by decide +kernel
theorem dX0_isEnded_16 : decode cX0_isEnded 16 = .ok (.isub, 1) := by decide +kernel
theorem dX0_isEnded_17 : decode cX0_isEnded 17 = .ok (.iaload, 1) := by decide +kernel
theorem dX0_isEnded_18 : decode cX0_isEnded 18 = .ok (.iconst 1, 1) := by decide +kernel
theorem dX0_isEnded_19 : decode cX0_isEnded 19 = .ok (.if_icmp .ne 7, 3) := by decide +kernel
theorem dX0_isEnded_22 : decode cX0_isEnded 22 = .ok (.iconst 1, 1) := by decide +kernel
theorem dX0_isEnded_23 : decode cX0_isEnded 23 = .ok (.goto 4, 3) := by decide +kernel
theorem dX0_isEnded_26 : decode cX0_isEnded 26 = .ok (.iconst 0, 1) := by decide +kernel
theorem dX0_isEnded_27 : decode cX0_isEnded 27 = .ok (.ireturn, 1) := by decide +kernel
theorem dX0_add_0 : decode cX0_add 0 = .ok (.aload_n 0, 1) := by decide +kernel
theorem dX0_add_1 : decode cX0_add 1 = .ok (.getfield 21, 3) := by decide +kernel
theorem dX0_add_4 : decode cX0_add 4 = .ok (.bipush 6, 2) := by decide +kernel
theorem dX0_add_6 : decode cX0_add 6 = .ok (.if_icmp .lt 4, 3) := by decide +kernel
theorem dX0_add_9 : decode cX0_add 9 = .ok (.return_, 1) := by decide +kernel
theorem dX0_add_10 : decode cX0_add 10 = .ok (.aload_n 0, 1) := by decide +kernel
theorem dX0_add_11 : decode cX0_add 11 = .ok (.getfield 9, 3) := by decide +kernel
theorem dX0_add_14 : decode cX0_add 14 = .ok (.aload_n 0, 1) := by decide +kernel
theorem dX0_add_15 : decode cX0_add 15 = .ok (.getfield 21, 3) := by decide +kernel
theorem dX0_add_18 : decode cX0_add 18 = .ok (.iload_n 1, 1) := by decide +kernel
theorem dX0_add_19 : decode cX0_add 19 = .ok (.iastore, 1) := by decide +kernel
theorem dX0_add_20 : decode cX0_add 20 = .ok (.aload_n 0, 1) := by decide +kernel
theorem dX0_add_21 : decode cX0_add 21 = .ok (.getfield 15, 3) := by decide +kernel
theorem dX0_add_24 : decode cX0_add 24 = .ok (.aload_n 0, 1) := by decide +kernel
theorem dX0_add_25 : decode cX0_add 25 = .ok (.getfield 21, 3) := by decide +kernel
theorem dX0_add_28 : decode cX0_add 28 = .ok (.iload_n 2, 1) := by decide +kernel
theorem dX0_add_29 : decode cX0_add 29 = .ok (.iastore, 1) := by decide +kernel
theorem dX0_add_30 : decode cX0_add 30 = .ok (.aload_n 0, 1) := by decide +kernel
theorem dX0_add_31 : decode cX0_add 31 = .ok (.getfield 18, 3) := by decide +kernel
theorem dX0_add_34 : decode cX0_add 34 = .ok (.aload_n 0, 1) := by decide +kernel
theorem dX0_add_35 : decode cX0_add 35 = .ok (.getfield 21, 3) := by decide +kernel
theorem dX0_add_38 : decode cX0_add 38 = .ok (.iload_n 3, 1) := by decide +kernel
theorem dX0_add_39 : decode cX0_add 39 = .ok (.iastore, 1) := by decide +kernel
theorem dX0_add_40 : decode cX0_add 40 = .ok (.aload_n 0, 1) := by decide +kernel
theorem dX0_add_41 : decode cX0_add 41 = .ok (.dup, 1) := by decide +kernel
theorem dX0_add_42 : decode cX0_add 42 = .ok (.getfield 21, 3) := by decide +kernel
theorem dX0_add_45 : decode cX0_add 45 = .ok (.iconst 1, 1) := by decide +kernel
theorem dX0_add_46 : decode cX0_add 46 = .ok (.iadd, 1) := by decide +kernel
theorem dX0_add_47 : decode cX0_add 47 = .ok (.putfield 21, 3) := by decide +kernel
theorem dX0_add_50 : decode cX0_add 50 = .ok (.return_, 1) := by decide +kernel
theorem dX0_couldBe_0 : decode cX0_couldBe 0 = .ok (.iload_n 1, 1) := by decide +kernel
theorem dX0_couldBe_1 : decode cX0_couldBe 1 = .ok (.istore_n 2, 1) := by decide +kernel
theorem dX0_couldBe_2 : decode cX0_couldBe 2 = .ok (.iconst 0, 1) := by decide +kernel
theorem dX0_couldBe_3 : decode cX0_couldBe 3 = .ok (.istore_n 3, 1) := by decide +kernel
theorem dX0_couldBe_4 : decode cX0_couldBe 4 = .ok (.iload_n 3, 1) := by decide +kernel
theorem dX0_couldBe_5 : decode cX0_couldBe 5 = .ok (.aload_n 0, 1) := by decide +kernel
theorem dX0_couldBe_6 : decode cX0_couldBe 6 = .ok (.getfield 21, 3) := by decide +kernel
theorem dX0_couldBe_9 : decode cX0_couldBe 9 = .ok (.if_icmp .ge 61, 3) := by decide +kernel
theorem dX0_couldBe_12 : decode cX0_couldBe 12 = .ok (.aload_n 0, 1) := by decide +kernel
theorem dX0_couldBe_13 : decode cX0_couldBe 13 = .ok (.getfield 9, 3) := by decide +kernel
theorem dX0_couldBe_16 : decode cX0_couldBe 16 = .ok (.iload_n 3, 1) := by decide +kernel
theorem dX0_couldBe_17 : decode cX0_couldBe 17 = .ok (.iaload, 1) := by decide +kernel
theorem dX0_couldBe_18 : decode cX0_couldBe 18 = .ok (.aload_n 0, 1) := by decide +kernel
theorem dX0_couldBe_19 : decode cX0_couldBe 19 = .ok (.getfield 15, 3) := by decide +kernel
theorem dX0_couldBe_22 : decode cX0_couldBe 22 = .ok (.iload_n 3, 1) := by decide +kernel
theorem dX0_couldBe_23 : decode cX0_couldBe 23 = .ok (.iaload, 1) := by decide +kernel
theorem dX0_couldBe_24 : decode cX0_couldBe 24 = .ok (.iconst 1, 1) := by decide +kernel
theorem dX0_couldBe_25 : decode cX0_couldBe 25 = .ok (.iadd, 1) := by decide +kernel
theorem dX0_couldBe_26 : decode cX0_couldBe 26 = .ok (.imul, 1) := by decide +kernel
theorem dX0_couldBe_27 : decode cX0_couldBe 27 = .ok (.iload_n 2, 1) := by decide +kernel
theorem dX0_couldBe_28 : decode cX0_couldBe 28 = .ok (.if_icmp .lt 7, 3) := by decide +kernel
theorem dX0_couldBe_31 : decode cX0_couldBe 31 = .ok (.iconst 1, 1) := by decide +kernel
theorem dX0_couldBe_32 : decode cX0_couldBe 32 = .ok (.goto 4, 3) := by decide +kernel
theorem dX0_couldBe_35 : decode cX0_couldBe 35 = .ok (.iconst 0, 1) := by decide +kernel
theorem dX0_couldBe_36 : decode cX0_couldBe 36 = .ok (.istore 4, 2) := by decide +kernel
theorem dX0_couldBe_38 : decode cX0_couldBe 38 = .ok (.iload 4, 2) := by decide +kernel
theorem dX0_couldBe_40 : decode cX0_couldBe 40 = .ok (.aload_n 0, 1) := by decide +kernel
theorem dX0_couldBe_41 : decode cX0_couldBe 41 = .ok (.getfield 18, 3) := by decide +kernel
theorem dX0_couldBe_44 : decode cX0_couldBe 44 = .ok (.iload_n 3, 1) := by decide +kernel
theorem dX0_couldBe_45 : decode cX0_couldBe 45 = .ok (.iaload, 1) := by decide +kernel
theorem dX0_couldBe_46 : decode cX0_couldBe 46 = .ok (.if_icmp .eq 5, 3) := by decide +kernel
theorem dX0_couldBe_49 : decode cX0_couldBe 49 = .ok (.iconst 0, 1) := by decide +kernel
theorem dX0_couldBe_50 : decode cX0_couldBe 50 = .ok (.ireturn, 1) := by decide +kernel
theorem dX0_couldBe_51 : decode cX0_couldBe 51 = .ok (.iload_n 2, 1) := by decide +kernel
theorem dX0_couldBe_52 : decode cX0_couldBe 52 = .ok (.aload_n 0, 1) := by decide +kernel
theorem dX0_couldBe_53 : decode cX0_couldBe 53 = .ok (.getfield 9, 3) := by decide +kernel
theorem dX0_couldBe_56 : decode cX0_couldBe 56 = .ok (.iload_n 3, 1) := by decide +kernel
theorem dX0_couldBe_57 : decode cX0_couldBe 57 = .ok (.iaload, 1) := by decide +kernel
theorem dX0_couldBe_58 : decode cX0_couldBe 58 = .ok (.isub, 1) := by decide +kernel
theorem dX0_couldBe_59 : decode cX0_couldBe 59 = .ok (.iconst 1, 1) := by decide +kernel
theorem dX0_couldBe_60 : decode cX0_couldBe 60 = .ok (.invokestatic 25, 3) := by decide +kernel
theorem dX0_couldBe_63 : decode cX0_couldBe 63 = .ok (.istore_n 2, 1) := by decide +kernel
theorem dX0_couldBe_64 : decode cX0_couldBe 64 = .ok (.iinc 3 1, 3) := by decide +kernel
theorem dX0_couldBe_67 : decode cX0_couldBe 67 = .ok (.goto (-63), 3) := by decide +kernel
theorem dX0_couldBe_70 : decode cX0_couldBe 70 = .ok (.iconst 1, 1) := by decide +kernel
theorem dX0_couldBe_71 : decode cX0_couldBe 71 = .ok (.ireturn, 1) := by decide +kernel
theorem dX1_init_0 : decode cX1_init 0 = .ok (.aload_n 0, 1) := by decide +kernel
theorem dX1_init_1 : decode cX1_init 1 = .ok (.invokespecial 3, 3) := by decide +kernel
theorem dX1_init_4 : decode cX1_init 4 = .ok (.aload_n 0, 1) := by decide +kernel
theorem dX1_init_5 : decode cX1_init 5 = .ok (.bipush 11, 2) := by decide +kernel
theorem dX1_init_7 : decode cX1_init 7 = .ok (.anewarray 9, 3) := by decide +kernel
theorem dX1_init_10 : decode cX1_init 10 = .ok (.putfield 11, 3) := by decide +kernel
theorem dX1_init_13 : decode cX1_init 13 = .ok (.aload_n 0, 1) := by decide +kernel
theorem dX1_init_14 : decode cX1_init 14 = .ok (.bipush 10, 2) := by decide +kernel
theorem dX1_init_16 : decode cX1_init 16 = .ok (.newarray .int, 2) := by decide +kernel
theorem dX1_init_18 : decode cX1_init 18 = .ok (.putfield 17, 3) := by decide +kernel
theorem dX1_init_21 : decode cX1_init 21 = .ok (.aload_n 0, 1) := by decide +kernel
theorem dX1_init_22 : decode cX1_init 22 = .ok (.bipush 10, 2) := by decide +kernel
theorem dX1_init_24 : decode cX1_init 24 = .ok (.newarray .int, 2) := by decide +kernel
theorem dX1_init_26 : decode cX1_init 26 = .ok (.putfield 21, 3) := by decide +kernel
theorem dX1_init_29 : decode cX1_init 29 = .ok (.aload_n 0, 1) := by decide +kernel
theorem dX1_init_30 : decode cX1_init 30 = .ok (.sipush 1024, 3) := by decide +kernel
theorem dX1_init_33 : decode cX1_init 33 = .ok (.newarray .long, 2) := by decide +kernel
theorem dX1_init_35 : decode cX1_init 35 = .ok (.putfield 24, 3) := by decide +kernel
theorem dX1_init_38 : decode cX1_init 38 = .ok (.aload_n 0, 1) := by decide +kernel
theorem dX1_init_39 : decode cX1_init 39 = .ok (.sipush 1024, 3) := by decide +kernel
theorem dX1_init_42 : decode cX1_init 42 = .ok (.newarray .int, 2) := by decide +kernel
theorem dX1_init_44 : decode cX1_init 44 = .ok (.putfield 28, 3) := by decide +kernel
theorem dX1_init_47 : decode cX1_init 47 = .ok (.aload_n 0, 1) := by decide +kernel
theorem dX1_init_48 : decode cX1_init 48 = .ok (.iconst 0, 1) := by decide +kernel
theorem dX1_init_49 : decode cX1_init 49 = .ok (.putfield 31, 3) := by decide +kernel
theorem dX1_init_52 : decode cX1_init 52 = .ok (.aload_n 0, 1) := by decide +kernel
theorem dX1_init_53 : decode cX1_init 53 = .ok (.sipush 1000, 3) := by decide +kernel
theorem dX1_init_56 : decode cX1_init 56 = .ok (.putfield 35, 3) := by decide +kernel
theorem dX1_init_59 : decode cX1_init 59 = .ok (.aload_n 0, 1) := by decide +kernel
theorem dX1_init_60 : decode cX1_init 60 = .ok (.aload_n 1, 1) := by decide +kernel
theorem dX1_init_61 : decode cX1_init 61 = .ok (.putfield 38, 3) := by decide +kernel
theorem dX1_init_64 : decode cX1_init 64 = .ok (.iconst 0, 1) := by decide +kernel
theorem dX1_init_65 : decode cX1_init 65 = .ok (.istore_n 2, 1) := by decide +kernel
theorem dX1_init_66 : decode cX1_init 66 = .ok (.iload_n 2, 1) := by decide +kernel
theorem dX1_init_67 : decode cX1_init 67 = .ok (.bipush 10, 2) := by decide +kernel
theorem dX1_init_69 : decode cX1_init 69 = .ok (.if_icmp .gt 23, 3) := by decide +kernel
theorem dX1_init_72 : decode cX1_init 72 = .ok (.aload_n 0, 1) := by decide +kernel
theorem dX1_init_73 : decode cX1_init 73 = .ok (.getfield 11, 3) := by decide +kernel
theorem dX1_init_76 : decode cX1_init 76 = .ok (.iload_n 2, 1) := by decide +kernel
theorem dX1_init_77 : decode cX1_init 77 = .ok (.new 9, 3) := by decide +kernel
theorem dX1_init_80 : decode cX1_init 80 = .ok (.dup, 1) := by decide +kernel
theorem dX1_init_81 : decode cX1_init 81 = .ok (.aload_n 1, 1) := by decide +kernel
theorem dX1_init_82 : decode cX1_init 82 = .ok (.invokespecial 42, 3) := by decide +kernel
theorem dX1_init_85 : decode cX1_init 85 = .ok (.aastore, 1) := by decide +kernel
theorem dX1_init_86 : decode cX1_init 86 = .ok (.iinc 2 1, 3) := by decide +kernel
theorem dX1_init_89 : decode cX1_init 89 = .ok (.goto (-23), 3) := by decide +kernel
theorem dX1_init_92 : decode cX1_init 92 = .ok (.return_, 1) := by decide +kernel
theorem dX1_run_0 : decode cX1_run 0 = .ok (.aload_n 0, 1) := by decide +kernel
theorem dX1_run_1 : decode cX1_run 1 = .ok (.iconst 0, 1) := by decide +kernel
theorem dX1_run_2 : decode cX1_run 2 = .ok (.putfield 31, 3) := by decide +kernel
theorem dX1_run_5 : decode cX1_run 5 = .ok (.aload_n 0, 1) := by decide +kernel
theorem dX1_run_6 : decode cX1_run 6 = .ok (.sipush 1000, 3) := by decide +kernel
theorem dX1_run_9 : decode cX1_run 9 = .ok (.putfield 35, 3) := by decide +kernel
theorem dX1_run_12 : decode cX1_run 12 = .ok (.aload_n 0, 1) := by decide +kernel
theorem dX1_run_13 : decode cX1_run 13 = .ok (.getfield 24, 3) := by decide +kernel
theorem dX1_run_16 : decode cX1_run 16 = .ok (.lconst 0, 1) := by decide +kernel
theorem dX1_run_17 : decode cX1_run 17 = .ok (.invokestatic 45, 3) := by decide +kernel
theorem dX1_run_20 : decode cX1_run 20 = .ok (.aload_n 0, 1) := by decide +kernel
theorem dX1_run_21 : decode cX1_run 21 = .ok (.getfield 11, 3) := by decide +kernel
theorem dX1_run_24 : decode cX1_run 24 = .ok (.iconst 0, 1) := by decide +kernel
theorem dX1_run_25 : decode cX1_run 25 = .ok (.aaload, 1) := by decide +kernel
theorem dX1_run_26 : decode cX1_run 26 = .ok (.aload_n 1, 1) := by decide +kernel
theorem dX1_run_27 : decode cX1_run 27 = .ok (.invokevirtual 51, 3) := by decide +kernel
theorem dX1_run_30 : decode cX1_run 30 = .ok (.aload_n 0, 1) := by decide +kernel
theorem dX1_run_31 : decode cX1_run 31 = .ok (.iconst 0, 1) := by decide +kernel
theorem dX1_run_32 : decode cX1_run 32 = .ok (.iconst 0, 1) := by decide +kernel
theorem dX1_run_33 : decode cX1_run 33 = .ok (.invokevirtual 55, 3) := by decide +kernel
theorem dX1_run_36 : decode cX1_run 36 = .ok (.return_, 1) := by decide +kernel
theorem dX1_goOn_0 : decode cX1_goOn 0 = .ok (.aload_n 0, 1) := by decide +kernel
theorem dX1_goOn_1 : decode cX1_goOn 1 = .ok (.getfield 11, 3) := by decide +kernel
theorem dX1_goOn_4 : decode cX1_goOn 4 = .ok (.iload_n 1, 1) := by decide +kernel
theorem dX1_goOn_5 : decode cX1_goOn 5 = .ok (.aaload, 1) := by decide +kernel
theorem dX1_goOn_6 : decode cX1_goOn 6 = .ok (.astore_n 3, 1) := by decide +kernel
theorem dX1_goOn_7 : decode cX1_goOn 7 = .ok (.aload_n 3, 1) := by decide +kernel
theorem dX1_goOn_8 : decode cX1_goOn 8 = .ok (.invokevirtual 59, 3) := by decide +kernel
theorem dX1_goOn_11 : decode cX1_goOn 11 = .ok (.aload_n 0, 1) := by decide +kernel
theorem dX1_goOn_12 : decode cX1_goOn 12 = .ok (.getfield 38, 3) := by decide +kernel
theorem dX1_goOn_15 : decode cX1_goOn 15 = .ok (.getfield 63, 3) := by decide +kernel
theorem dX1_goOn_18 : decode cX1_goOn 18 = .ok (.if_icmp .ne 10, 3) := by decide +kernel
theorem dX1_goOn_21 : decode cX1_goOn 21 = .ok (.aload_n 0, 1) := by decide +kernel
theorem dX1_goOn_22 : decode cX1_goOn 22 = .ok (.iload_n 1, 1) := by decide +kernel
theorem dX1_goOn_23 : decode cX1_goOn 23 = .ok (.iload_n 2, 1) := by decide +kernel
theorem dX1_goOn_24 : decode cX1_goOn 24 = .ok (.invokevirtual 68, 3) := by decide +kernel
theorem dX1_goOn_27 : decode cX1_goOn 27 = .ok (.return_, 1) := by decide +kernel
theorem dX1_goOn_28 : decode cX1_goOn 28 = .ok (.iload_n 1, 1) := by decide +kernel
theorem dX1_goOn_29 : decode cX1_goOn 29 = .ok (.bipush 10, 2) := by decide +kernel
theorem dX1_goOn_31 : decode cX1_goOn 31 = .ok (.if_icmp .ge 16, 3) := by decide +kernel
theorem dX1_goOn_34 : decode cX1_goOn 34 = .ok (.aload_n 0, 1) := by decide +kernel
theorem dX1_goOn_35 : decode cX1_goOn 35 = .ok (.aload_n 0, 1) := by decide +kernel
theorem dX1_goOn_36 : decode cX1_goOn 36 = .ok (.aload_n 3, 1) := by decide +kernel
theorem dX1_goOn_37 : decode cX1_goOn 37 = .ok (.invokevirtual 71, 3) := by decide +kernel
theorem dX1_goOn_40 : decode cX1_goOn 40 = .ok (.iload_n 2, 1) := by decide +kernel
theorem dX1_goOn_41 : decode cX1_goOn 41 = .ok (.invokevirtual 75, 3) := by decide +kernel
theorem dX1_goOn_44 : decode cX1_goOn 44 = .ok (.ifCond .eq 4, 3) := by decide +kernel
theorem dX1_goOn_47 : decode cX1_goOn 47 = .ok (.return_, 1) := by decide +kernel
theorem dX1_goOn_48 : decode cX1_goOn 48 = .ok (.iconst 0, 1) := by decide +kernel
theorem dX1_goOn_49 : decode cX1_goOn 49 = .ok (.istore 4, 2) := by decide +kernel
theorem dX1_goOn_51 : decode cX1_goOn 51 = .ok (.iload 4, 2) := by decide +kernel
theorem dX1_goOn_53 : decode cX1_goOn 53 = .ok (.aload_n 0, 1) := by decide +kernel
theorem dX1_goOn_54 : decode cX1_goOn 54 = .ok (.getfield 38, 3) := by decide +kernel
theorem dX1_goOn_57 : decode cX1_goOn 57 = .ok (.getfield 63, 3) := by decide +kernel
theorem dX1_goOn_60 : decode cX1_goOn 60 = .ok (.if_icmp .ge 97, 3) := by decide +kernel
theorem dX1_goOn_63 : decode cX1_goOn 63 = .ok (.aload_n 3, 1) := by decide +kernel
theorem dX1_goOn_64 : decode cX1_goOn 64 = .ok (.iload 4, 2) := by decide +kernel
theorem dX1_goOn_66 : decode cX1_goOn 66 = .ok (.invokevirtual 79, 3) := by decide +kernel
theorem dX1_goOn_69 : decode cX1_goOn 69 = .ok (.ifCond .ne 6, 3) := by decide +kernel
theorem dX1_goOn_72 : decode cX1_goOn 72 = .ok (.goto 79, 3) := by decide +kernel
theorem dX1_goOn_75 : decode cX1_goOn 75 = .ok (.aload_n 3, 1) := by decide +kernel
theorem dX1_goOn_76 : decode cX1_goOn 76 = .ok (.iload 4, 2) := by decide +kernel
theorem dX1_goOn_78 : decode cX1_goOn 78 = .ok (.invokevirtual 83, 3) := by decide +kernel
theorem dX1_goOn_81 : decode cX1_goOn 81 = .ok (.istore 5, 2) := by decide +kernel
theorem dX1_goOn_83 : decode cX1_goOn 83 = .ok (.iload 5, 2) := by decide +kernel
theorem dX1_goOn_85 : decode cX1_goOn 85 = .ok (.bipush (-4), 2) := by decide +kernel
theorem dX1_goOn_87 : decode cX1_goOn 87 = .ok (.if_icmp .eq 64, 3) := by decide +kernel
theorem dX1_goOn_90 : decode cX1_goOn 90 = .ok (.iload_n 2, 1) := by decide +kernel
theorem dX1_goOn_91 : decode cX1_goOn 91 = .ok (.iload 5, 2) := by decide +kernel
theorem dX1_goOn_93 : decode cX1_goOn 93 = .ok (.iadd, 1) := by decide +kernel
theorem dX1_goOn_94 : decode cX1_goOn 94 = .ok (.aload_n 0, 1) := by decide +kernel
theorem dX1_goOn_95 : decode cX1_goOn 95 = .ok (.getfield 35, 3) := by decide +kernel
theorem dX1_goOn_98 : decode cX1_goOn 98 = .ok (.if_icmp .lt 6, 3) := by decide +kernel
theorem dX1_goOn_101 : decode cX1_goOn 101 = .ok (.goto 50, 3) := by decide +kernel
theorem dX1_goOn_104 : decode cX1_goOn 104 = .ok (.aload_n 0, 1) := by decide +kernel
theorem dX1_goOn_105 : decode cX1_goOn 105 = .ok (.getfield 17, 3) := by decide +kernel
theorem dX1_goOn_108 : decode cX1_goOn 108 = .ok (.iload_n 1, 1) := by decide +kernel
theorem dX1_goOn_109 : decode cX1_goOn 109 = .ok (.iload 4, 2) := by decide +kernel
theorem dX1_goOn_111 : decode cX1_goOn 111 = .ok (.iastore, 1) := by decide +kernel
theorem dX1_goOn_112 : decode cX1_goOn 112 = .ok (.aload_n 0, 1) := by decide +kernel
theorem dX1_goOn_113 : decode cX1_goOn 113 = .ok (.getfield 11, 3) := by decide +kernel
theorem dX1_goOn_116 : decode cX1_goOn 116 = .ok (.iload_n 1, 1) := by decide +kernel
theorem dX1_goOn_117 : decode cX1_goOn 117 = .ok (.iconst 1, 1) := by decide +kernel
theorem dX1_goOn_118 : decode cX1_goOn 118 = .ok (.iadd, 1) := by decide +kernel
theorem dX1_goOn_119 : decode cX1_goOn 119 = .ok (.aaload, 1) := by decide +kernel
theorem dX1_goOn_120 : decode cX1_goOn 120 = .ok (.aload_n 3, 1) := by decide +kernel
theorem dX1_goOn_121 : decode cX1_goOn 121 = .ok (.invokevirtual 51, 3) := by decide +kernel
theorem dX1_goOn_124 : decode cX1_goOn 124 = .ok (.aload_n 0, 1) := by decide +kernel
theorem dX1_goOn_125 : decode cX1_goOn 125 = .ok (.getfield 11, 3) := by decide +kernel
theorem dX1_goOn_128 : decode cX1_goOn 128 = .ok (.iload_n 1, 1) := by decide +kernel
theorem dX1_goOn_129 : decode cX1_goOn 129 = .ok (.iconst 1, 1) := by decide +kernel
theorem dX1_goOn_130 : decode cX1_goOn 130 = .ok (.iadd, 1) := by decide +kernel
theorem dX1_goOn_131 : decode cX1_goOn 131 = .ok (.aaload, 1) := by decide +kernel
theorem dX1_goOn_132 : decode cX1_goOn 132 = .ok (.iload 4, 2) := by decide +kernel
theorem dX1_goOn_134 : decode cX1_goOn 134 = .ok (.iload 5, 2) := by decide +kernel
theorem dX1_goOn_136 : decode cX1_goOn 136 = .ok (.invokevirtual 87, 3) := by decide +kernel
theorem dX1_goOn_139 : decode cX1_goOn 139 = .ok (.pop, 1) := by decide +kernel
theorem dX1_goOn_140 : decode cX1_goOn 140 = .ok (.aload_n 0, 1) := by decide +kernel
theorem dX1_goOn_141 : decode cX1_goOn 141 = .ok (.iload_n 1, 1) := by decide +kernel
theorem dX1_goOn_142 : decode cX1_goOn 142 = .ok (.iconst 1, 1) := by decide +kernel
theorem dX1_goOn_143 : decode cX1_goOn 143 = .ok (.iadd, 1) := by decide +kernel
theorem dX1_goOn_144 : decode cX1_goOn 144 = .ok (.iload_n 2, 1) := by decide +kernel
theorem dX1_goOn_145 : decode cX1_goOn 145 = .ok (.iload 5, 2) := by decide +kernel
theorem dX1_goOn_147 : decode cX1_goOn 147 = .ok (.iadd, 1) := by decide +kernel
theorem dX1_goOn_148 : decode cX1_goOn 148 = .ok (.invokevirtual 55, 3) := by decide +kernel
theorem dX1_goOn_151 : decode cX1_goOn 151 = .ok (.iinc 4 1, 3) := by decide +kernel
theorem dX1_goOn_154 : decode cX1_goOn 154 = .ok (.goto (-103), 3) := by decide +kernel
theorem dX1_goOn_157 : decode cX1_goOn 157 = .ok (.return_, 1) := by decide +kernel
theorem dX1_keepBest_0 : decode cX1_keepBest 0 = .ok (.iload_n 2, 1) := by decide +kernel
theorem dX1_keepBest_1 : decode cX1_keepBest 1 = .ok (.aload_n 0, 1) := by decide +kernel
theorem dX1_keepBest_2 : decode cX1_keepBest 2 = .ok (.getfield 35, 3) := by decide +kernel
theorem dX1_keepBest_5 : decode cX1_keepBest 5 = .ok (.if_icmp .lt 4, 3) := by decide +kernel
theorem dX1_keepBest_8 : decode cX1_keepBest 8 = .ok (.return_, 1) := by decide +kernel
theorem dX1_keepBest_9 : decode cX1_keepBest 9 = .ok (.aload_n 0, 1) := by decide +kernel
theorem dX1_keepBest_10 : decode cX1_keepBest 10 = .ok (.iload_n 2, 1) := by decide +kernel
theorem dX1_keepBest_11 : decode cX1_keepBest 11 = .ok (.putfield 35, 3) := by decide +kernel
theorem dX1_keepBest_14 : decode cX1_keepBest 14 = .ok (.aload_n 0, 1) := by decide +kernel
theorem dX1_keepBest_15 : decode cX1_keepBest 15 = .ok (.iload_n 1, 1) := by decide +kernel
theorem dX1_keepBest_16 : decode cX1_keepBest 16 = .ok (.putfield 31, 3) := by decide +kernel
theorem dX1_keepBest_19 : decode cX1_keepBest 19 = .ok (.aload_n 0, 1) := by decide +kernel
theorem dX1_keepBest_20 : decode cX1_keepBest 20 = .ok (.getfield 17, 3) := by decide +kernel
theorem dX1_keepBest_23 : decode cX1_keepBest 23 = .ok (.iconst 0, 1) := by decide +kernel
theorem dX1_keepBest_24 : decode cX1_keepBest 24 = .ok (.aload_n 0, 1) := by decide +kernel
theorem dX1_keepBest_25 : decode cX1_keepBest 25 = .ok (.getfield 21, 3) := by decide +kernel
theorem dX1_keepBest_28 : decode cX1_keepBest 28 = .ok (.iconst 0, 1) := by decide +kernel
theorem dX1_keepBest_29 : decode cX1_keepBest 29 = .ok (.iload_n 1, 1) := by decide +kernel
theorem dX1_keepBest_30 : decode cX1_keepBest 30 = .ok (.invokestatic 91, 3) := by decide +kernel
theorem dX1_keepBest_33 : decode cX1_keepBest 33 = .ok (.return_, 1) := by decide +kernel
theorem dX1_markOf_0 : decode cX1_markOf 0 = .ok (.lconst 0, 1) := by decide +kernel
theorem dX1_markOf_1 : decode cX1_markOf 1 = .ok (.lstore_n 2, 1) := by decide +kernel
theorem dX1_markOf_2 : decode cX1_markOf 2 = .ok (.iconst 0, 1) := by decide +kernel
theorem dX1_markOf_3 : decode cX1_markOf 3 = .ok (.istore 4, 2) := by decide +kernel
theorem dX1_markOf_5 : decode cX1_markOf 5 = .ok (.iload 4, 2) := by decide +kernel
theorem dX1_markOf_7 : decode cX1_markOf 7 = .ok (.aload_n 0, 1) := by decide +kernel
theorem dX1_markOf_8 : decode cX1_markOf 8 = .ok (.getfield 38, 3) := by decide +kernel
theorem dX1_markOf_11 : decode cX1_markOf 11 = .ok (.getfield 63, 3) := by decide +kernel
theorem dX1_markOf_14 : decode cX1_markOf 14 = .ok (.if_icmp .ge 35, 3) := by decide +kernel
theorem dX1_markOf_17 : decode cX1_markOf 17 = .ok (.lload_n 2, 1) := by decide +kernel
theorem dX1_markOf_18 : decode cX1_markOf 18 = .ok (.bipush 9, 2) := by decide +kernel
theorem dX1_markOf_20 : decode cX1_markOf 20 = .ok (.lshl, 1) := by decide +kernel
theorem dX1_markOf_21 : decode cX1_markOf 21 = .ok (.aload_n 1, 1) := by decide +kernel
theorem dX1_markOf_22 : decode cX1_markOf 22 = .ok (.getfield 97, 3) := by decide +kernel
theorem dX1_markOf_25 : decode cX1_markOf 25 = .ok (.iload 4, 2) := by decide +kernel
theorem dX1_markOf_27 : decode cX1_markOf 27 = .ok (.iaload, 1) := by decide +kernel
theorem dX1_markOf_28 : decode cX1_markOf 28 = .ok (.bipush 7, 2) := by decide +kernel
theorem dX1_markOf_30 : decode cX1_markOf 30 = .ok (.ishl, 1) := by decide +kernel
theorem dX1_markOf_31 : decode cX1_markOf 31 = .ok (.i2l, 1) := by decide +kernel
theorem dX1_markOf_32 : decode cX1_markOf 32 = .ok (.lor, 1) := by decide +kernel
theorem dX1_markOf_33 : decode cX1_markOf 33 = .ok (.aload_n 1, 1) := by decide +kernel
theorem dX1_markOf_34 : decode cX1_markOf 34 = .ok (.getfield 100, 3) := by decide +kernel
theorem dX1_markOf_37 : decode cX1_markOf 37 = .ok (.iload 4, 2) := by decide +kernel
theorem dX1_markOf_39 : decode cX1_markOf 39 = .ok (.iaload, 1) := by decide +kernel
theorem dX1_markOf_40 : decode cX1_markOf 40 = .ok (.i2l, 1) := by decide +kernel
theorem dX1_markOf_41 : decode cX1_markOf 41 = .ok (.lor, 1) := by decide +kernel
theorem dX1_markOf_42 : decode cX1_markOf 42 = .ok (.lstore_n 2, 1) := by decide +kernel
theorem dX1_markOf_43 : decode cX1_markOf 43 = .ok (.iinc 4 1, 3) := by decide +kernel
theorem dX1_markOf_46 : decode cX1_markOf 46 = .ok (.goto (-41), 3) := by decide +kernel
theorem dX1_markOf_49 : decode cX1_markOf 49 = .ok (.lload_n 2, 1) := by decide +kernel
theorem dX1_markOf_50 : decode cX1_markOf 50 = .ok (.lreturn, 1) := by decide +kernel
theorem dX1_wasSeen_0 : decode cX1_wasSeen 0 = .ok (.lload_n 1, 1) := by decide +kernel
theorem dX1_wasSeen_1 : decode cX1_wasSeen 1 = .ok (.ldc2_w 103, 3) := by decide +kernel
theorem dX1_wasSeen_4 : decode cX1_wasSeen 4 = .ok (.lmul, 1) := by decide +kernel
theorem dX1_wasSeen_5 : decode cX1_wasSeen 5 = .ok (.bipush 40, 2) := by decide +kernel
theorem dX1_wasSeen_7 : decode cX1_wasSeen 7 = .ok (.lushr, 1) := by decide +kernel
theorem dX1_wasSeen_8 : decode cX1_wasSeen 8 = .ok (.l2i, 1) := by decide +kernel
theorem dX1_wasSeen_9 : decode cX1_wasSeen 9 = .ok (.istore 4, 2) := by decide +kernel
theorem dX1_wasSeen_11 : decode cX1_wasSeen 11 = .ok (.iconst 0, 1) := by decide +kernel
theorem dX1_wasSeen_12 : decode cX1_wasSeen 12 = .ok (.istore 5, 2) := by decide +kernel
theorem dX1_wasSeen_14 : decode cX1_wasSeen 14 = .ok (.iload 5, 2) := by decide +kernel
theorem dX1_wasSeen_16 : decode cX1_wasSeen 16 = .ok (.bipush 32, 2) := by decide +kernel
theorem dX1_wasSeen_18 : decode cX1_wasSeen 18 = .ok (.if_icmp .ge 90, 3) := by decide +kernel
theorem dX1_wasSeen_21 : decode cX1_wasSeen 21 = .ok (.iload 4, 2) := by decide +kernel
theorem dX1_wasSeen_23 : decode cX1_wasSeen 23 = .ok (.iload 5, 2) := by decide +kernel
theorem dX1_wasSeen_25 : decode cX1_wasSeen 25 = .ok (.iadd, 1) := by decide +kernel
theorem dX1_wasSeen_26 : decode cX1_wasSeen 26 = .ok (.sipush 1024, 3) := by decide +kernel
theorem dX1_wasSeen_29 : decode cX1_wasSeen 29 = .ok (.irem, 1) := by decide +kernel
theorem dX1_wasSeen_30 : decode cX1_wasSeen 30 = .ok (.istore 6, 2) := by decide +kernel
theorem dX1_wasSeen_32 : decode cX1_wasSeen 32 = .ok (.aload_n 0, 1) := by decide +kernel
theorem dX1_wasSeen_33 : decode cX1_wasSeen 33 = .ok (.getfield 24, 3) := by decide +kernel
theorem dX1_wasSeen_36 : decode cX1_wasSeen 36 = .ok (.iload 6, 2) := by decide +kernel
theorem dX1_wasSeen_38 : decode cX1_wasSeen 38 = .ok (.laload, 1) := by decide +kernel
theorem dX1_wasSeen_39 : decode cX1_wasSeen 39 = .ok (.lload_n 1, 1) := by decide +kernel
theorem dX1_wasSeen_40 : decode cX1_wasSeen 40 = .ok (.lcmp, 1) := by decide +kernel
theorem dX1_wasSeen_41 : decode cX1_wasSeen 41 = .ok (.ifCond .ne 16, 3) := by decide +kernel
theorem dX1_wasSeen_44 : decode cX1_wasSeen 44 = .ok (.aload_n 0, 1) := by decide +kernel
theorem dX1_wasSeen_45 : decode cX1_wasSeen 45 = .ok (.getfield 28, 3) := by decide +kernel
theorem dX1_wasSeen_48 : decode cX1_wasSeen 48 = .ok (.iload 6, 2) := by decide +kernel
theorem dX1_wasSeen_50 : decode cX1_wasSeen 50 = .ok (.iaload, 1) := by decide +kernel
theorem dX1_wasSeen_51 : decode cX1_wasSeen 51 = .ok (.iload_n 3, 1) := by decide +kernel
theorem dX1_wasSeen_52 : decode cX1_wasSeen 52 = .ok (.if_icmp .gt 5, 3) := by decide +kernel
theorem dX1_wasSeen_55 : decode cX1_wasSeen 55 = .ok (.iconst 1, 1) := by decide +kernel
theorem dX1_wasSeen_56 : decode cX1_wasSeen 56 = .ok (.ireturn, 1) := by decide +kernel
theorem dX1_wasSeen_57 : decode cX1_wasSeen 57 = .ok (.aload_n 0, 1) := by decide +kernel
theorem dX1_wasSeen_58 : decode cX1_wasSeen 58 = .ok (.getfield 24, 3) := by decide +kernel
theorem dX1_wasSeen_61 : decode cX1_wasSeen 61 = .ok (.iload 6, 2) := by decide +kernel
theorem dX1_wasSeen_63 : decode cX1_wasSeen 63 = .ok (.laload, 1) := by decide +kernel
theorem dX1_wasSeen_64 : decode cX1_wasSeen 64 = .ok (.lload_n 1, 1) := by decide +kernel
theorem dX1_wasSeen_65 : decode cX1_wasSeen 65 = .ok (.lcmp, 1) := by decide +kernel
theorem dX1_wasSeen_66 : decode cX1_wasSeen 66 = .ok (.ifCond .eq 18, 3) := by decide +kernel
theorem dX1_wasSeen_69 : decode cX1_wasSeen 69 = .ok (.aload_n 0, 1) := by decide +kernel
theorem dX1_wasSeen_70 : decode cX1_wasSeen 70 = .ok (.getfield 24, 3) := by decide +kernel
theorem dX1_wasSeen_73 : decode cX1_wasSeen 73 = .ok (.iload 6, 2) := by decide +kernel
theorem dX1_wasSeen_75 : decode cX1_wasSeen 75 = .ok (.laload, 1) := by decide +kernel
theorem dX1_wasSeen_76 : decode cX1_wasSeen 76 = .ok (.lconst 0, 1) := by decide +kernel
theorem dX1_wasSeen_77 : decode cX1_wasSeen 77 = .ok (.lcmp, 1) := by decide +kernel
theorem dX1_wasSeen_78 : decode cX1_wasSeen 78 = .ok (.ifCond .eq 6, 3) := by decide +kernel
theorem dX1_wasSeen_81 : decode cX1_wasSeen 81 = .ok (.goto 21, 3) := by decide +kernel
theorem dX1_wasSeen_84 : decode cX1_wasSeen 84 = .ok (.aload_n 0, 1) := by decide +kernel
theorem dX1_wasSeen_85 : decode cX1_wasSeen 85 = .ok (.getfield 24, 3) := by decide +kernel
theorem dX1_wasSeen_88 : decode cX1_wasSeen 88 = .ok (.iload 6, 2) := by decide +kernel
theorem dX1_wasSeen_90 : decode cX1_wasSeen 90 = .ok (.lload_n 1, 1) := by decide +kernel
theorem dX1_wasSeen_91 : decode cX1_wasSeen 91 = .ok (.lastore, 1) := by decide +kernel
theorem dX1_wasSeen_92 : decode cX1_wasSeen 92 = .ok (.aload_n 0, 1) := by decide +kernel
theorem dX1_wasSeen_93 : decode cX1_wasSeen 93 = .ok (.getfield 28, 3) := by decide +kernel
theorem dX1_wasSeen_96 : decode cX1_wasSeen 96 = .ok (.iload 6, 2) := by decide +kernel
theorem dX1_wasSeen_98 : decode cX1_wasSeen 98 = .ok (.iload_n 3, 1) := by decide +kernel
theorem dX1_wasSeen_99 : decode cX1_wasSeen 99 = .ok (.iastore, 1) := by decide +kernel
theorem dX1_wasSeen_100 : decode cX1_wasSeen 100 = .ok (.iconst 0, 1) := by decide +kernel
theorem dX1_wasSeen_101 : decode cX1_wasSeen 101 = .ok (.ireturn, 1) := by decide +kernel
theorem dX1_wasSeen_102 : decode cX1_wasSeen 102 = .ok (.iinc 5 1, 3) := by decide +kernel
theorem dX1_wasSeen_105 : decode cX1_wasSeen 105 = .ok (.goto (-91), 3) := by decide +kernel
theorem dX1_wasSeen_108 : decode cX1_wasSeen 108 = .ok (.iconst 0, 1) := by decide +kernel
theorem dX1_wasSeen_109 : decode cX1_wasSeen 109 = .ok (.ireturn, 1) := by decide +kernel
theorem dX2_init_0 : decode cX2_init 0 = .ok (.aload_n 0, 1) := by decide +kernel
theorem dX2_init_1 : decode cX2_init 1 = .ok (.invokespecial 3, 3) := by decide +kernel
theorem dX2_init_4 : decode cX2_init 4 = .ok (.aload_n 0, 1) := by decide +kernel
theorem dX2_init_5 : decode cX2_init 5 = .ok (.bipush 8, 2) := by decide +kernel
theorem dX2_init_7 : decode cX2_init 7 = .ok (.anewarray 9, 3) := by decide +kernel
theorem dX2_init_10 : decode cX2_init 10 = .ok (.putfield 11, 3) := by decide +kernel
theorem dX2_init_13 : decode cX2_init 13 = .ok (.aload_n 0, 1) := by decide +kernel
theorem dX2_init_14 : decode cX2_init 14 = .ok (.iconst 0, 1) := by decide +kernel
theorem dX2_init_15 : decode cX2_init 15 = .ok (.putfield 17, 3) := by decide +kernel
theorem dX2_init_18 : decode cX2_init 18 = .ok (.aload_n 0, 1) := by decide +kernel
theorem dX2_init_19 : decode cX2_init 19 = .ok (.iconst 0, 1) := by decide +kernel
theorem dX2_init_20 : decode cX2_init 20 = .ok (.putfield 21, 3) := by decide +kernel
theorem dX2_init_23 : decode cX2_init 23 = .ok (.iconst 0, 1) := by decide +kernel
theorem dX2_init_24 : decode cX2_init 24 = .ok (.istore_n 2, 1) := by decide +kernel
theorem dX2_init_25 : decode cX2_init 25 = .ok (.iload_n 2, 1) := by decide +kernel
theorem dX2_init_26 : decode cX2_init 26 = .ok (.bipush 8, 2) := by decide +kernel
theorem dX2_init_28 : decode cX2_init 28 = .ok (.if_icmp .ge 23, 3) := by decide +kernel
theorem dX2_init_31 : decode cX2_init 31 = .ok (.aload_n 0, 1) := by decide +kernel
theorem dX2_init_32 : decode cX2_init 32 = .ok (.getfield 11, 3) := by decide +kernel
theorem dX2_init_35 : decode cX2_init 35 = .ok (.iload_n 2, 1) := by decide +kernel
theorem dX2_init_36 : decode cX2_init 36 = .ok (.new 9, 3) := by decide +kernel
theorem dX2_init_39 : decode cX2_init 39 = .ok (.dup, 1) := by decide +kernel
theorem dX2_init_40 : decode cX2_init 40 = .ok (.aload_n 1, 1) := by decide +kernel
theorem dX2_init_41 : decode cX2_init 41 = .ok (.invokespecial 24, 3) := by decide +kernel
theorem dX2_init_44 : decode cX2_init 44 = .ok (.aastore, 1) := by decide +kernel
theorem dX2_init_45 : decode cX2_init 45 = .ok (.iinc 2 1, 3) := by decide +kernel
theorem dX2_init_48 : decode cX2_init 48 = .ok (.goto (-23), 3) := by decide +kernel
theorem dX2_init_51 : decode cX2_init 51 = .ok (.return_, 1) := by decide +kernel
theorem dX2_push_0 : decode cX2_push 0 = .ok (.aload_n 0, 1) := by decide +kernel
theorem dX2_push_1 : decode cX2_push 1 = .ok (.getfield 11, 3) := by decide +kernel
theorem dX2_push_4 : decode cX2_push 4 = .ok (.aload_n 0, 1) := by decide +kernel
theorem dX2_push_5 : decode cX2_push 5 = .ok (.getfield 17, 3) := by decide +kernel
theorem dX2_push_8 : decode cX2_push 8 = .ok (.aaload, 1) := by decide +kernel
theorem dX2_push_9 : decode cX2_push 9 = .ok (.aload_n 1, 1) := by decide +kernel
theorem dX2_push_10 : decode cX2_push 10 = .ok (.invokevirtual 27, 3) := by decide +kernel
theorem dX2_push_13 : decode cX2_push 13 = .ok (.aload_n 0, 1) := by decide +kernel
theorem dX2_push_14 : decode cX2_push 14 = .ok (.aload_n 0, 1) := by decide +kernel
theorem dX2_push_15 : decode cX2_push 15 = .ok (.getfield 17, 3) := by decide +kernel
theorem dX2_push_18 : decode cX2_push 18 = .ok (.iconst 1, 1) := by decide +kernel
theorem dX2_push_19 : decode cX2_push 19 = .ok (.iadd, 1) := by decide +kernel
theorem dX2_push_20 : decode cX2_push 20 = .ok (.bipush 8, 2) := by decide +kernel
theorem dX2_push_22 : decode cX2_push 22 = .ok (.irem, 1) := by decide +kernel
theorem dX2_push_23 : decode cX2_push 23 = .ok (.putfield 17, 3) := by decide +kernel
theorem dX2_push_26 : decode cX2_push 26 = .ok (.aload_n 0, 1) := by decide +kernel
theorem dX2_push_27 : decode cX2_push 27 = .ok (.aload_n 0, 1) := by decide +kernel
theorem dX2_push_28 : decode cX2_push 28 = .ok (.getfield 21, 3) := by decide +kernel
theorem dX2_push_31 : decode cX2_push 31 = .ok (.iconst 1, 1) := by decide +kernel
theorem dX2_push_32 : decode cX2_push 32 = .ok (.iadd, 1) := by decide +kernel
theorem dX2_push_33 : decode cX2_push 33 = .ok (.bipush 8, 2) := by decide +kernel
theorem dX2_push_35 : decode cX2_push 35 = .ok (.invokestatic 31, 3) := by decide +kernel
theorem dX2_push_38 : decode cX2_push 38 = .ok (.putfield 21, 3) := by decide +kernel
theorem dX2_push_41 : decode cX2_push 41 = .ok (.return_, 1) := by decide +kernel
theorem dX2_pop_0 : decode cX2_pop 0 = .ok (.aload_n 0, 1) := by decide +kernel
theorem dX2_pop_1 : decode cX2_pop 1 = .ok (.getfield 21, 3) := by decide +kernel
theorem dX2_pop_4 : decode cX2_pop 4 = .ok (.iconst 1, 1) := by decide +kernel
theorem dX2_pop_5 : decode cX2_pop 5 = .ok (.if_icmp .ge 5, 3) := by decide +kernel
theorem dX2_pop_8 : decode cX2_pop 8 = .ok (.iconst 0, 1) := by decide +kernel
theorem dX2_pop_9 : decode cX2_pop 9 = .ok (.ireturn, 1) := by decide +kernel
theorem dX2_pop_10 : decode cX2_pop 10 = .ok (.aload_n 0, 1) := by decide +kernel
theorem dX2_pop_11 : decode cX2_pop 11 = .ok (.aload_n 0, 1) := by decide +kernel
theorem dX2_pop_12 : decode cX2_pop 12 = .ok (.getfield 17, 3) := by decide +kernel
theorem dX2_pop_15 : decode cX2_pop 15 = .ok (.bipush 8, 2) := by decide +kernel
theorem dX2_pop_17 : decode cX2_pop 17 = .ok (.iadd, 1) := by decide +kernel
theorem dX2_pop_18 : decode cX2_pop 18 = .ok (.iconst 1, 1) := by decide +kernel
theorem dX2_pop_19 : decode cX2_pop 19 = .ok (.isub, 1) := by decide +kernel
theorem dX2_pop_20 : decode cX2_pop 20 = .ok (.bipush 8, 2) := by decide +kernel
theorem dX2_pop_22 : decode cX2_pop 22 = .ok (.irem, 1) := by decide +kernel
theorem dX2_pop_23 : decode cX2_pop 23 = .ok (.putfield 17, 3) := by decide +kernel
theorem dX2_pop_26 : decode cX2_pop 26 = .ok (.aload_n 0, 1) := by decide +kernel
theorem dX2_pop_27 : decode cX2_pop 27 = .ok (.dup, 1) := by decide +kernel
theorem dX2_pop_28 : decode cX2_pop 28 = .ok (.getfield 21, 3) := by decide +kernel
theorem dX2_pop_31 : decode cX2_pop 31 = .ok (.iconst 1, 1) := by decide +kernel
theorem dX2_pop_32 : decode cX2_pop 32 = .ok (.isub, 1) := by decide +kernel
theorem dX2_pop_33 : decode cX2_pop 33 = .ok (.putfield 21, 3) := by decide +kernel
theorem dX2_pop_36 : decode cX2_pop 36 = .ok (.aload_n 1, 1) := by decide +kernel
theorem dX2_pop_37 : decode cX2_pop 37 = .ok (.aload_n 0, 1) := by decide +kernel
theorem dX2_pop_38 : decode cX2_pop 38 = .ok (.getfield 11, 3) := by decide +kernel
theorem dX2_pop_41 : decode cX2_pop 41 = .ok (.aload_n 0, 1) := by decide +kernel
theorem dX2_pop_42 : decode cX2_pop 42 = .ok (.getfield 17, 3) := by decide +kernel
theorem dX2_pop_45 : decode cX2_pop 45 = .ok (.aaload, 1) := by decide +kernel
theorem dX2_pop_46 : decode cX2_pop 46 = .ok (.invokevirtual 27, 3) := by decide +kernel
theorem dX2_pop_49 : decode cX2_pop 49 = .ok (.iconst 1, 1) := by decide +kernel
theorem dX2_pop_50 : decode cX2_pop 50 = .ok (.ireturn, 1) := by decide +kernel
theorem dX3_init_0 : decode cX3_init 0 = .ok (.aload_n 0, 1) := by decide +kernel
theorem dX3_init_1 : decode cX3_init 1 = .ok (.invokespecial 3, 3) := by decide +kernel
theorem dX3_init_4 : decode cX3_init 4 = .ok (.aload_n 0, 1) := by decide +kernel
theorem dX3_init_5 : decode cX3_init 5 = .ok (.iconst 0, 1) := by decide +kernel
theorem dX3_init_6 : decode cX3_init 6 = .ok (.putfield 9, 3) := by decide +kernel
theorem dX3_init_9 : decode cX3_init 9 = .ok (.aload_n 0, 1) := by decide +kernel
theorem dX3_init_10 : decode cX3_init 10 = .ok (.iconst 0, 1) := by decide +kernel
theorem dX3_init_11 : decode cX3_init 11 = .ok (.putfield 15, 3) := by decide +kernel
theorem dX3_init_14 : decode cX3_init 14 = .ok (.aload_n 0, 1) := by decide +kernel
theorem dX3_init_15 : decode cX3_init 15 = .ok (.iconst 5, 1) := by decide +kernel
theorem dX3_init_16 : decode cX3_init 16 = .ok (.newarray .int, 2) := by decide +kernel
theorem dX3_init_18 : decode cX3_init 18 = .ok (.putfield 18, 3) := by decide +kernel
theorem dX3_init_21 : decode cX3_init 21 = .ok (.aload_n 0, 1) := by decide +kernel
theorem dX3_init_22 : decode cX3_init 22 = .ok (.iconst 5, 1) := by decide +kernel
theorem dX3_init_23 : decode cX3_init 23 = .ok (.newarray .int, 2) := by decide +kernel
theorem dX3_init_25 : decode cX3_init 25 = .ok (.putfield 22, 3) := by decide +kernel
theorem dX3_init_28 : decode cX3_init 28 = .ok (.aload_n 0, 1) := by decide +kernel
theorem dX3_init_29 : decode cX3_init 29 = .ok (.iconst 5, 1) := by decide +kernel
theorem dX3_init_30 : decode cX3_init 30 = .ok (.newarray .int, 2) := by decide +kernel
theorem dX3_init_32 : decode cX3_init 32 = .ok (.putfield 25, 3) := by decide +kernel
theorem dX3_init_35 : decode cX3_init 35 = .ok (.aload_n 0, 1) := by decide +kernel
theorem dX3_init_36 : decode cX3_init 36 = .ok (.bipush 25, 2) := by decide +kernel
theorem dX3_init_38 : decode cX3_init 38 = .ok (.newarray .int, 2) := by decide +kernel
theorem dX3_init_40 : decode cX3_init 40 = .ok (.putfield 28, 3) := by decide +kernel
theorem dX3_init_43 : decode cX3_init 43 = .ok (.return_, 1) := by decide +kernel
theorem dX3_clear_0 : decode cX3_clear 0 = .ok (.aload_n 0, 1) := by decide +kernel
theorem dX3_clear_1 : decode cX3_clear 1 = .ok (.iconst 0, 1) := by decide +kernel
theorem dX3_clear_2 : decode cX3_clear 2 = .ok (.putfield 9, 3) := by decide +kernel
theorem dX3_clear_5 : decode cX3_clear 5 = .ok (.aload_n 0, 1) := by decide +kernel
theorem dX3_clear_6 : decode cX3_clear 6 = .ok (.iconst 0, 1) := by decide +kernel
theorem dX3_clear_7 : decode cX3_clear 7 = .ok (.putfield 15, 3) := by decide +kernel
theorem dX3_clear_10 : decode cX3_clear 10 = .ok (.aload_n 0, 1) := by decide +kernel
theorem dX3_clear_11 : decode cX3_clear 11 = .ok (.getfield 28, 3) := by decide +kernel
theorem dX3_clear_14 : decode cX3_clear 14 = .ok (.iconst 0, 1) := by decide +kernel
theorem dX3_clear_15 : decode cX3_clear 15 = .ok (.invokestatic 31, 3) := by decide +kernel
theorem dX3_clear_18 : decode cX3_clear 18 = .ok (.return_, 1) := by decide +kernel
theorem dX3_take_0 : decode cX3_take 0 = .ok (.iload_n 1, 1) := by decide +kernel
theorem dX3_take_1 : decode cX3_take 1 = .ok (.bipush 119, 2) := by decide +kernel
theorem dX3_take_3 : decode cX3_take 3 = .ok (.if_icmp .ne 12, 3) := by decide +kernel
theorem dX3_take_6 : decode cX3_take 6 = .ok (.aload_n 0, 1) := by decide +kernel
theorem dX3_take_7 : decode cX3_take 7 = .ok (.iload_n 2, 1) := by decide +kernel
theorem dX3_take_8 : decode cX3_take 8 = .ok (.iload_n 3, 1) := by decide +kernel
theorem dX3_take_9 : decode cX3_take 9 = .ok (.iload 4, 2) := by decide +kernel
theorem dX3_take_11 : decode cX3_take 11 = .ok (.invokevirtual 37, 3) := by decide +kernel
theorem dX3_take_14 : decode cX3_take 14 = .ok (.ireturn, 1) := by decide +kernel
theorem dX3_take_15 : decode cX3_take 15 = .ok (.iload_n 1, 1) := by decide +kernel
theorem dX3_take_16 : decode cX3_take 16 = .ok (.bipush 104, 2) := by decide +kernel
theorem dX3_take_18 : decode cX3_take 18 = .ok (.if_icmp .ne 12, 3) := by decide +kernel
theorem dX3_take_21 : decode cX3_take 21 = .ok (.aload_n 0, 1) := by decide +kernel
theorem dX3_take_22 : decode cX3_take 22 = .ok (.iload_n 2, 1) := by decide +kernel
theorem dX3_take_23 : decode cX3_take 23 = .ok (.iload_n 3, 1) := by decide +kernel
theorem dX3_take_24 : decode cX3_take 24 = .ok (.iload 4, 2) := by decide +kernel
theorem dX3_take_26 : decode cX3_take 26 = .ok (.invokevirtual 41, 3) := by decide +kernel
theorem dX3_take_29 : decode cX3_take 29 = .ok (.ireturn, 1) := by decide +kernel
theorem dX3_take_30 : decode cX3_take 30 = .ok (.iload_n 2, 1) := by decide +kernel
theorem dX3_take_31 : decode cX3_take 31 = .ok (.iconst 0, 1) := by decide +kernel
theorem dX3_take_32 : decode cX3_take 32 = .ok (.bipush 60, 2) := by decide +kernel
theorem dX3_take_34 : decode cX3_take 34 = .ok (.invokestatic 44, 3) := by decide +kernel
theorem dX3_take_37 : decode cX3_take 37 = .ok (.ifCond .eq 5, 3) := by decide +kernel
theorem dX3_take_40 : decode cX3_take 40 = .ok (.iconst 0, 1) := by decide +kernel
theorem dX3_take_41 : decode cX3_take 41 = .ok (.ireturn, 1) := by decide +kernel
theorem dX3_take_42 : decode cX3_take 42 = .ok (.aload_n 0, 1) := by decide +kernel
theorem dX3_take_43 : decode cX3_take 43 = .ok (.iload_n 2, 1) := by decide +kernel
theorem dX3_take_44 : decode cX3_take 44 = .ok (.putfield 15, 3) := by decide +kernel
theorem dX3_take_47 : decode cX3_take 47 = .ok (.iconst 1, 1) := by decide +kernel
theorem dX3_take_48 : decode cX3_take 48 = .ok (.ireturn, 1) := by decide +kernel
theorem dX3_takeWall_0 : decode cX3_takeWall 0 = .ok (.aload_n 0, 1) := by decide +kernel
theorem dX3_takeWall_1 : decode cX3_takeWall 1 = .ok (.getfield 9, 3) := by decide +kernel
theorem dX3_takeWall_4 : decode cX3_takeWall 4 = .ok (.iconst 5, 1) := by decide +kernel
theorem dX3_takeWall_5 : decode cX3_takeWall 5 = .ok (.if_icmp .lt 5, 3) := by decide +kernel
theorem dX3_takeWall_8 : decode cX3_takeWall 8 = .ok (.iconst 0, 1) := by decide +kernel
theorem dX3_takeWall_9 : decode cX3_takeWall 9 = .ok (.ireturn, 1) := by decide +kernel
theorem dX3_takeWall_10 : decode cX3_takeWall 10 = .ok (.iload_n 1, 1) := by decide +kernel
theorem dX3_takeWall_11 : decode cX3_takeWall 11 = .ok (.iconst 0, 1) := by decide +kernel
theorem dX3_takeWall_12 : decode cX3_takeWall 12 = .ok (.iconst 3, 1) := by decide +kernel
theorem dX3_takeWall_13 : decode cX3_takeWall 13 = .ok (.invokestatic 44, 3) := by decide +kernel
theorem dX3_takeWall_16 : decode cX3_takeWall 16 = .ok (.ifCond .ne 23, 3) := by decide +kernel
theorem dX3_takeWall_19 : decode cX3_takeWall 19 = .ok (.iload_n 2, 1) := by decide +kernel
theorem dX3_takeWall_20 : decode cX3_takeWall 20 = .ok (.iconst 1, 1) := by decide +kernel
theorem dX3_takeWall_21 : decode cX3_takeWall 21 = .ok (.bipush 60, 2) := by decide +kernel
theorem dX3_takeWall_23 : decode cX3_takeWall 23 = .ok (.invokestatic 44, 3) := by decide +kernel
theorem dX3_takeWall_26 : decode cX3_takeWall 26 = .ok (.ifCond .ne 13, 3) := by decide +kernel
theorem dX3_takeWall_29 : decode cX3_takeWall 29 = .ok (.iload_n 3, 1) := by decide +kernel
theorem dX3_takeWall_30 : decode cX3_takeWall 30 = .ok (.iconst 0, 1) := by decide +kernel
theorem dX3_takeWall_31 : decode cX3_takeWall 31 = .ok (.bipush 7, 2) := by decide +kernel
theorem dX3_takeWall_33 : decode cX3_takeWall 33 = .ok (.invokestatic 44, 3) := by decide +kernel
theorem dX3_takeWall_36 : decode cX3_takeWall 36 = .ok (.ifCond .eq 5, 3) := by decide +kernel
theorem dX3_takeWall_39 : decode cX3_takeWall 39 = .ok (.iconst 0, 1) := by decide +kernel
theorem dX3_takeWall_40 : decode cX3_takeWall 40 = .ok (.ireturn, 1) := by decide +kernel
theorem dX3_takeWall_41 : decode cX3_takeWall 41 = .ok (.aload_n 0, 1) := by decide +kernel
theorem dX3_takeWall_42 : decode cX3_takeWall 42 = .ok (.getfield 18, 3) := by decide +kernel
theorem dX3_takeWall_45 : decode cX3_takeWall 45 = .ok (.aload_n 0, 1) := by decide +kernel
theorem dX3_takeWall_46 : decode cX3_takeWall 46 = .ok (.getfield 9, 3) := by decide +kernel
theorem dX3_takeWall_49 : decode cX3_takeWall 49 = .ok (.iload_n 1, 1) := by decide +kernel
theorem dX3_takeWall_50 : decode cX3_takeWall 50 = .ok (.iastore, 1) := by decide +kernel
theorem dX3_takeWall_51 : decode cX3_takeWall 51 = .ok (.aload_n 0, 1) := by decide +kernel
theorem dX3_takeWall_52 : decode cX3_takeWall 52 = .ok (.getfield 22, 3) := by decide +kernel
theorem dX3_takeWall_55 : decode cX3_takeWall 55 = .ok (.aload_n 0, 1) := by decide +kernel
theorem dX3_takeWall_56 : decode cX3_takeWall 56 = .ok (.getfield 9, 3) := by decide +kernel
theorem dX3_takeWall_59 : decode cX3_takeWall 59 = .ok (.iload_n 2, 1) := by decide +kernel
theorem dX3_takeWall_60 : decode cX3_takeWall 60 = .ok (.iastore, 1) := by decide +kernel
theorem dX3_takeWall_61 : decode cX3_takeWall 61 = .ok (.aload_n 0, 1) := by decide +kernel
theorem dX3_takeWall_62 : decode cX3_takeWall 62 = .ok (.getfield 25, 3) := by decide +kernel
theorem dX3_takeWall_65 : decode cX3_takeWall 65 = .ok (.aload_n 0, 1) := by decide +kernel
theorem dX3_takeWall_66 : decode cX3_takeWall 66 = .ok (.getfield 9, 3) := by decide +kernel
theorem dX3_takeWall_69 : decode cX3_takeWall 69 = .ok (.iload_n 3, 1) := by decide +kernel
theorem dX3_takeWall_70 : decode cX3_takeWall 70 = .ok (.iastore, 1) := by decide +kernel
theorem dX3_takeWall_71 : decode cX3_takeWall 71 = .ok (.aload_n 0, 1) := by decide +kernel
theorem dX3_takeWall_72 : decode cX3_takeWall 72 = .ok (.dup, 1) := by decide +kernel
theorem dX3_takeWall_73 : decode cX3_takeWall 73 = .ok (.getfield 9, 3) := by decide +kernel
theorem dX3_takeWall_76 : decode cX3_takeWall 76 = .ok (.iconst 1, 1) := by decide +kernel
theorem dX3_takeWall_77 : decode cX3_takeWall 77 = .ok (.iadd, 1) := by decide +kernel
theorem dX3_takeWall_78 : decode cX3_takeWall 78 = .ok (.putfield 9, 3) := by decide +kernel
theorem dX3_takeWall_81 : decode cX3_takeWall 81 = .ok (.iconst 1, 1) := by decide +kernel
theorem dX3_takeWall_82 : decode cX3_takeWall 82 = .ok (.ireturn, 1) := by decide +kernel
theorem dX3_takeProp_0 : decode cX3_takeProp 0 = .ok (.iload_n 1, 1) := by decide +kernel
theorem dX3_takeProp_1 : decode cX3_takeProp 1 = .ok (.iconst 0, 1) := by decide +kernel
theorem dX3_takeProp_2 : decode cX3_takeProp 2 = .ok (.aload_n 0, 1) := by decide +kernel
theorem dX3_takeProp_3 : decode cX3_takeProp 3 = .ok (.getfield 9, 3) := by decide +kernel
theorem dX3_takeProp_6 : decode cX3_takeProp 6 = .ok (.iconst 1, 1) := by decide +kernel
theorem dX3_takeProp_7 : decode cX3_takeProp 7 = .ok (.isub, 1) := by decide +kernel
theorem dX3_takeProp_8 : decode cX3_takeProp 8 = .ok (.invokestatic 44, 3) := by decide +kernel
theorem dX3_takeProp_11 : decode cX3_takeProp 11 = .ok (.ifCond .ne 22, 3) := by decide +kernel
theorem dX3_takeProp_14 : decode cX3_takeProp 14 = .ok (.iload_n 2, 1) := by decide +kernel
theorem dX3_takeProp_15 : decode cX3_takeProp 15 = .ok (.iconst 0, 1) := by decide +kernel
theorem dX3_takeProp_16 : decode cX3_takeProp 16 = .ok (.aload_n 0, 1) := by decide +kernel
theorem dX3_takeProp_17 : decode cX3_takeProp 17 = .ok (.getfield 9, 3) := by decide +kernel
theorem dX3_takeProp_20 : decode cX3_takeProp 20 = .ok (.iconst 1, 1) := by decide +kernel
theorem dX3_takeProp_21 : decode cX3_takeProp 21 = .ok (.isub, 1) := by decide +kernel
theorem dX3_takeProp_22 : decode cX3_takeProp 22 = .ok (.invokestatic 44, 3) := by decide +kernel
theorem dX3_takeProp_25 : decode cX3_takeProp 25 = .ok (.ifCond .ne 8, 3) := by decide +kernel
theorem dX3_takeProp_28 : decode cX3_takeProp 28 = .ok (.iload_n 1, 1) := by decide +kernel
theorem dX3_takeProp_29 : decode cX3_takeProp 29 = .ok (.iload_n 2, 1) := by decide +kernel
theorem dX3_takeProp_30 : decode cX3_takeProp 30 = .ok (.if_icmp .ne 5, 3) := by decide +kernel
theorem dX3_takeProp_33 : decode cX3_takeProp 33 = .ok (.iconst 0, 1) := by decide +kernel
theorem dX3_takeProp_34 : decode cX3_takeProp 34 = .ok (.ireturn, 1) := by decide +kernel
theorem dX3_takeProp_35 : decode cX3_takeProp 35 = .ok (.iload_n 3, 1) := by decide +kernel
theorem dX3_takeProp_36 : decode cX3_takeProp 36 = .ok (.iconst 1, 1) := by decide +kernel
theorem dX3_takeProp_37 : decode cX3_takeProp 37 = .ok (.bipush 40, 2) := by decide +kernel
theorem dX3_takeProp_39 : decode cX3_takeProp 39 = .ok (.invokestatic 44, 3) := by decide +kernel
theorem dX3_takeProp_42 : decode cX3_takeProp 42 = .ok (.ifCond .eq 5, 3) := by decide +kernel
theorem dX3_takeProp_45 : decode cX3_takeProp 45 = .ok (.iconst 0, 1) := by decide +kernel
theorem dX3_takeProp_46 : decode cX3_takeProp 46 = .ok (.ireturn, 1) := by decide +kernel
theorem dX3_takeProp_47 : decode cX3_takeProp 47 = .ok (.aload_n 0, 1) := by decide +kernel
theorem dX3_takeProp_48 : decode cX3_takeProp 48 = .ok (.getfield 28, 3) := by decide +kernel
theorem dX3_takeProp_51 : decode cX3_takeProp 51 = .ok (.iload_n 1, 1) := by decide +kernel
theorem dX3_takeProp_52 : decode cX3_takeProp 52 = .ok (.iconst 5, 1) := by decide +kernel
theorem dX3_takeProp_53 : decode cX3_takeProp 53 = .ok (.imul, 1) := by decide +kernel
theorem dX3_takeProp_54 : decode cX3_takeProp 54 = .ok (.iload_n 2, 1) := by decide +kernel
theorem dX3_takeProp_55 : decode cX3_takeProp 55 = .ok (.iadd, 1) := by decide +kernel
theorem dX3_takeProp_56 : decode cX3_takeProp 56 = .ok (.iload_n 3, 1) := by decide +kernel
theorem dX3_takeProp_57 : decode cX3_takeProp 57 = .ok (.iastore, 1) := by decide +kernel
theorem dX3_takeProp_58 : decode cX3_takeProp 58 = .ok (.iconst 1, 1) := by decide +kernel
theorem dX3_takeProp_59 : decode cX3_takeProp 59 = .ok (.ireturn, 1) := by decide +kernel
theorem dX4_init_0 : decode cX4_init 0 = .ok (.aload_n 0, 1) := by decide +kernel
theorem dX4_init_1 : decode cX4_init 1 = .ok (.invokespecial 3, 3) := by decide +kernel
theorem dX4_init_4 : decode cX4_init 4 = .ok (.aload_n 0, 1) := by decide +kernel
theorem dX4_init_5 : decode cX4_init 5 = .ok (.sipush 200, 3) := by decide +kernel
theorem dX4_init_8 : decode cX4_init 8 = .ok (.newarray .char, 2) := by decide +kernel
theorem dX4_init_10 : decode cX4_init 10 = .ok (.putfield 9, 3) := by decide +kernel
theorem dX4_init_13 : decode cX4_init 13 = .ok (.aload_n 0, 1) := by decide +kernel
theorem dX4_init_14 : decode cX4_init 14 = .ok (.iconst 3, 1) := by decide +kernel
theorem dX4_init_15 : decode cX4_init 15 = .ok (.newarray .int, 2) := by decide +kernel
theorem dX4_init_17 : decode cX4_init 17 = .ok (.putfield 15, 3) := by decide +kernel
theorem dX4_init_20 : decode cX4_init 20 = .ok (.aload_n 0, 1) := by decide +kernel
theorem dX4_init_21 : decode cX4_init 21 = .ok (.iconst 0, 1) := by decide +kernel
theorem dX4_init_22 : decode cX4_init 22 = .ok (.putfield 19, 3) := by decide +kernel
theorem dX4_init_25 : decode cX4_init 25 = .ok (.return_, 1) := by decide +kernel
theorem dX4_add_0 : decode cX4_add 0 = .ok (.aload_n 0, 1) := by decide +kernel
theorem dX4_add_1 : decode cX4_add 1 = .ok (.getfield 19, 3) := by decide +kernel
theorem dX4_add_4 : decode cX4_add 4 = .ok (.sipush 200, 3) := by decide +kernel
theorem dX4_add_7 : decode cX4_add 7 = .ok (.if_icmp .lt 4, 3) := by decide +kernel
theorem dX4_add_10 : decode cX4_add 10 = .ok (.return_, 1) := by decide +kernel
theorem dX4_add_11 : decode cX4_add 11 = .ok (.aload_n 0, 1) := by decide +kernel
theorem dX4_add_12 : decode cX4_add 12 = .ok (.getfield 9, 3) := by decide +kernel
theorem dX4_add_15 : decode cX4_add 15 = .ok (.aload_n 0, 1) := by decide +kernel
theorem dX4_add_16 : decode cX4_add 16 = .ok (.getfield 19, 3) := by decide +kernel
theorem dX4_add_19 : decode cX4_add 19 = .ok (.iload_n 1, 1) := by decide +kernel
theorem dX4_add_20 : decode cX4_add 20 = .ok (.castore, 1) := by decide +kernel
theorem dX4_add_21 : decode cX4_add 21 = .ok (.aload_n 0, 1) := by decide +kernel
theorem dX4_add_22 : decode cX4_add 22 = .ok (.dup, 1) := by decide +kernel
theorem dX4_add_23 : decode cX4_add 23 = .ok (.getfield 19, 3) := by decide +kernel
theorem dX4_add_26 : decode cX4_add 26 = .ok (.iconst 1, 1) := by decide +kernel
theorem dX4_add_27 : decode cX4_add 27 = .ok (.iadd, 1) := by decide +kernel
theorem dX4_add_28 : decode cX4_add 28 = .ok (.putfield 19, 3) := by decide +kernel
theorem dX4_add_31 : decode cX4_add 31 = .ok (.return_, 1) := by decide +kernel
theorem dX4_readInto_0 : decode cX4_readInto 0 = .ok (.aload_n 1, 1) := by decide +kernel
theorem dX4_readInto_1 : decode cX4_readInto 1 = .ok (.invokevirtual 23, 3) := by decide +kernel
theorem dX4_readInto_4 : decode cX4_readInto 4 = .ok (.iconst 0, 1) := by decide +kernel
theorem dX4_readInto_5 : decode cX4_readInto 5 = .ok (.istore_n 2, 1) := by decide +kernel
theorem dX4_readInto_6 : decode cX4_readInto 6 = .ok (.iconst 0, 1) := by decide +kernel
theorem dX4_readInto_7 : decode cX4_readInto 7 = .ok (.istore_n 3, 1) := by decide +kernel
theorem dX4_readInto_8 : decode cX4_readInto 8 = .ok (.iload_n 3, 1) := by decide +kernel
theorem dX4_readInto_9 : decode cX4_readInto 9 = .ok (.sipush 200, 3) := by decide +kernel
theorem dX4_readInto_12 : decode cX4_readInto 12 = .ok (.if_icmp .ge 35, 3) := by decide +kernel
theorem dX4_readInto_15 : decode cX4_readInto 15 = .ok (.iload_n 2, 1) := by decide +kernel
theorem dX4_readInto_16 : decode cX4_readInto 16 = .ok (.aload_n 0, 1) := by decide +kernel
theorem dX4_readInto_17 : decode cX4_readInto 17 = .ok (.getfield 19, 3) := by decide +kernel
theorem dX4_readInto_20 : decode cX4_readInto 20 = .ok (.if_icmp .ge 27, 3) := by decide +kernel
theorem dX4_readInto_23 : decode cX4_readInto 23 = .ok (.aload_n 0, 1) := by decide +kernel
theorem dX4_readInto_24 : decode cX4_readInto 24 = .ok (.iload_n 2, 1) := by decide +kernel
theorem dX4_readInto_25 : decode cX4_readInto 25 = .ok (.aload_n 1, 1) := by decide +kernel
theorem dX4_readInto_26 : decode cX4_readInto 26 = .ok (.invokevirtual 28, 3) := by decide +kernel
theorem dX4_readInto_29 : decode cX4_readInto 29 = .ok (.istore 4, 2) := by decide +kernel
theorem dX4_readInto_31 : decode cX4_readInto 31 = .ok (.iload 4, 2) := by decide +kernel
theorem dX4_readInto_33 : decode cX4_readInto 33 = .ok (.ifCond .ge 5, 3) := by decide +kernel
theorem dX4_readInto_36 : decode cX4_readInto 36 = .ok (.iload_n 2, 1) := by decide +kernel
theorem dX4_readInto_37 : decode cX4_readInto 37 = .ok (.ireturn, 1) := by decide +kernel
theorem dX4_readInto_38 : decode cX4_readInto 38 = .ok (.iload 4, 2) := by decide +kernel
theorem dX4_readInto_40 : decode cX4_readInto 40 = .ok (.istore_n 2, 1) := by decide +kernel
theorem dX4_readInto_41 : decode cX4_readInto 41 = .ok (.iinc 3 1, 3) := by decide +kernel
theorem dX4_readInto_44 : decode cX4_readInto 44 = .ok (.goto (-36), 3) := by decide +kernel
theorem dX4_readInto_47 : decode cX4_readInto 47 = .ok (.bipush (-4), 2) := by decide +kernel
theorem dX4_readInto_49 : decode cX4_readInto 49 = .ok (.ireturn, 1) := by decide +kernel
theorem dX4_readItem_0 : decode cX4_readItem 0 = .ok (.aload_n 0, 1) := by decide +kernel
theorem dX4_readItem_1 : decode cX4_readItem 1 = .ok (.iload_n 1, 1) := by decide +kernel
theorem dX4_readItem_2 : decode cX4_readItem 2 = .ok (.invokevirtual 32, 3) := by decide +kernel
theorem dX4_readItem_5 : decode cX4_readItem 5 = .ok (.istore_n 3, 1) := by decide +kernel
theorem dX4_readItem_6 : decode cX4_readItem 6 = .ok (.iload_n 3, 1) := by decide +kernel
theorem dX4_readItem_7 : decode cX4_readItem 7 = .ok (.bipush 119, 2) := by decide +kernel
theorem dX4_readItem_9 : decode cX4_readItem 9 = .ok (.if_icmp .eq 9, 3) := by decide +kernel
theorem dX4_readItem_12 : decode cX4_readItem 12 = .ok (.iload_n 3, 1) := by decide +kernel
theorem dX4_readItem_13 : decode cX4_readItem 13 = .ok (.bipush 104, 2) := by decide +kernel
theorem dX4_readItem_15 : decode cX4_readItem 15 = .ok (.if_icmp .ne 7, 3) := by decide +kernel
theorem dX4_readItem_18 : decode cX4_readItem 18 = .ok (.iconst 3, 1) := by decide +kernel
theorem dX4_readItem_19 : decode cX4_readItem 19 = .ok (.goto 14, 3) := by decide +kernel
theorem dX4_readItem_22 : decode cX4_readItem 22 = .ok (.iload_n 3, 1) := by decide +kernel
theorem dX4_readItem_23 : decode cX4_readItem 23 = .ok (.bipush 115, 2) := by decide +kernel
theorem dX4_readItem_25 : decode cX4_readItem 25 = .ok (.if_icmp .ne 7, 3) := by decide +kernel
theorem dX4_readItem_28 : decode cX4_readItem 28 = .ok (.iconst 1, 1) := by decide +kernel
theorem dX4_readItem_29 : decode cX4_readItem 29 = .ok (.goto 4, 3) := by decide +kernel
theorem dX4_readItem_32 : decode cX4_readItem 32 = .ok (.iconst 0, 1) := by decide +kernel
theorem dX4_readItem_33 : decode cX4_readItem 33 = .ok (.istore 4, 2) := by decide +kernel
theorem dX4_readItem_35 : decode cX4_readItem 35 = .ok (.iload 4, 2) := by decide +kernel
theorem dX4_readItem_37 : decode cX4_readItem 37 = .ok (.ifCond .ne 5, 3) := by decide +kernel
theorem dX4_readItem_40 : decode cX4_readItem 40 = .ok (.iconst (-1), 1) := by decide +kernel
theorem dX4_readItem_41 : decode cX4_readItem 41 = .ok (.ireturn, 1) := by decide +kernel
theorem dX4_readItem_42 : decode cX4_readItem 42 = .ok (.iload_n 1, 1) := by decide +kernel
theorem dX4_readItem_43 : decode cX4_readItem 43 = .ok (.iconst 1, 1) := by decide +kernel
theorem dX4_readItem_44 : decode cX4_readItem 44 = .ok (.iadd, 1) := by decide +kernel
theorem dX4_readItem_45 : decode cX4_readItem 45 = .ok (.istore 5, 2) := by decide +kernel
theorem dX4_readItem_47 : decode cX4_readItem 47 = .ok (.iconst 0, 1) := by decide +kernel
theorem dX4_readItem_48 : decode cX4_readItem 48 = .ok (.istore 6, 2) := by decide +kernel
theorem dX4_readItem_50 : decode cX4_readItem 50 = .ok (.iload 6, 2) := by decide +kernel
theorem dX4_readItem_52 : decode cX4_readItem 52 = .ok (.iload 4, 2) := by decide +kernel
theorem dX4_readItem_54 : decode cX4_readItem 54 = .ok (.if_icmp .ge 76, 3) := by decide +kernel
theorem dX4_readItem_57 : decode cX4_readItem 57 = .ok (.aload_n 0, 1) := by decide +kernel
theorem dX4_readItem_58 : decode cX4_readItem 58 = .ok (.iload 5, 2) := by decide +kernel
theorem dX4_readItem_60 : decode cX4_readItem 60 = .ok (.invokevirtual 36, 3) := by decide +kernel
theorem dX4_readItem_63 : decode cX4_readItem 63 = .ok (.istore 7, 2) := by decide +kernel
theorem dX4_readItem_65 : decode cX4_readItem 65 = .ok (.iload 7, 2) := by decide +kernel
theorem dX4_readItem_67 : decode cX4_readItem 67 = .ok (.ifCond .ne 5, 3) := by decide +kernel
theorem dX4_readItem_70 : decode cX4_readItem 70 = .ok (.iconst (-1), 1) := by decide +kernel
theorem dX4_readItem_71 : decode cX4_readItem 71 = .ok (.ireturn, 1) := by decide +kernel
theorem dX4_readItem_72 : decode cX4_readItem 72 = .ok (.aload_n 0, 1) := by decide +kernel
theorem dX4_readItem_73 : decode cX4_readItem 73 = .ok (.getfield 15, 3) := by decide +kernel
theorem dX4_readItem_76 : decode cX4_readItem 76 = .ok (.iload 6, 2) := by decide +kernel
theorem dX4_readItem_78 : decode cX4_readItem 78 = .ok (.aload_n 0, 1) := by decide +kernel
theorem dX4_readItem_79 : decode cX4_readItem 79 = .ok (.iload 5, 2) := by decide +kernel
theorem dX4_readItem_81 : decode cX4_readItem 81 = .ok (.iload 7, 2) := by decide +kernel
theorem dX4_readItem_83 : decode cX4_readItem 83 = .ok (.invokevirtual 40, 3) := by decide +kernel
theorem dX4_readItem_86 : decode cX4_readItem 86 = .ok (.iastore, 1) := by decide +kernel
theorem dX4_readItem_87 : decode cX4_readItem 87 = .ok (.iload 5, 2) := by decide +kernel
theorem dX4_readItem_89 : decode cX4_readItem 89 = .ok (.iload 7, 2) := by decide +kernel
theorem dX4_readItem_91 : decode cX4_readItem 91 = .ok (.iadd, 1) := by decide +kernel
theorem dX4_readItem_92 : decode cX4_readItem 92 = .ok (.istore 5, 2) := by decide +kernel
theorem dX4_readItem_94 : decode cX4_readItem 94 = .ok (.aload_n 0, 1) := by decide +kernel
theorem dX4_readItem_95 : decode cX4_readItem 95 = .ok (.iload 5, 2) := by decide +kernel
theorem dX4_readItem_97 : decode cX4_readItem 97 = .ok (.invokevirtual 32, 3) := by decide +kernel
theorem dX4_readItem_100 : decode cX4_readItem 100 = .ok (.iload 6, 2) := by decide +kernel
theorem dX4_readItem_102 : decode cX4_readItem 102 = .ok (.iload 4, 2) := by decide +kernel
theorem dX4_readItem_104 : decode cX4_readItem 104 = .ok (.iconst 1, 1) := by decide +kernel
theorem dX4_readItem_105 : decode cX4_readItem 105 = .ok (.isub, 1) := by decide +kernel
theorem dX4_readItem_106 : decode cX4_readItem 106 = .ok (.if_icmp .ge 8, 3) := by decide +kernel
theorem dX4_readItem_109 : decode cX4_readItem 109 = .ok (.bipush 44, 2) := by decide +kernel
theorem dX4_readItem_111 : decode cX4_readItem 111 = .ok (.goto 5, 3) := by decide +kernel
theorem dX4_readItem_114 : decode cX4_readItem 114 = .ok (.bipush 59, 2) := by decide +kernel
theorem dX4_readItem_116 : decode cX4_readItem 116 = .ok (.if_icmp .eq 5, 3) := by decide +kernel
theorem dX4_readItem_119 : decode cX4_readItem 119 = .ok (.iconst (-1), 1) := by decide +kernel
theorem dX4_readItem_120 : decode cX4_readItem 120 = .ok (.ireturn, 1) := by decide +kernel
theorem dX4_readItem_121 : decode cX4_readItem 121 = .ok (.iinc 5 1, 3) := by decide +kernel
theorem dX4_readItem_124 : decode cX4_readItem 124 = .ok (.iinc 6 1, 3) := by decide +kernel
theorem dX4_readItem_127 : decode cX4_readItem 127 = .ok (.goto (-77), 3) := by decide +kernel
theorem dX4_readItem_130 : decode cX4_readItem 130 = .ok (.aload_n 2, 1) := by decide +kernel
theorem dX4_readItem_131 : decode cX4_readItem 131 = .ok (.iload_n 3, 1) := by decide +kernel
theorem dX4_readItem_132 : decode cX4_readItem 132 = .ok (.aload_n 0, 1) := by decide +kernel
theorem dX4_readItem_133 : decode cX4_readItem 133 = .ok (.getfield 15, 3) := by decide +kernel
theorem dX4_readItem_136 : decode cX4_readItem 136 = .ok (.iconst 0, 1) := by decide +kernel
theorem dX4_readItem_137 : decode cX4_readItem 137 = .ok (.iaload, 1) := by decide +kernel
theorem dX4_readItem_138 : decode cX4_readItem 138 = .ok (.aload_n 0, 1) := by decide +kernel
theorem dX4_readItem_139 : decode cX4_readItem 139 = .ok (.getfield 15, 3) := by decide +kernel
theorem dX4_readItem_142 : decode cX4_readItem 142 = .ok (.iconst 1, 1) := by decide +kernel
theorem dX4_readItem_143 : decode cX4_readItem 143 = .ok (.iaload, 1) := by decide +kernel
theorem dX4_readItem_144 : decode cX4_readItem 144 = .ok (.aload_n 0, 1) := by decide +kernel
theorem dX4_readItem_145 : decode cX4_readItem 145 = .ok (.getfield 15, 3) := by decide +kernel
theorem dX4_readItem_148 : decode cX4_readItem 148 = .ok (.iconst 2, 1) := by decide +kernel
theorem dX4_readItem_149 : decode cX4_readItem 149 = .ok (.iaload, 1) := by decide +kernel
theorem dX4_readItem_150 : decode cX4_readItem 150 = .ok (.invokevirtual 44, 3) := by decide +kernel
theorem dX4_readItem_153 : decode cX4_readItem 153 = .ok (.ifCond .eq 8, 3) := by decide +kernel
theorem dX4_readItem_156 : decode cX4_readItem 156 = .ok (.iload 5, 2) := by decide +kernel
theorem dX4_readItem_158 : decode cX4_readItem 158 = .ok (.goto 4, 3) := by decide +kernel
theorem dX4_readItem_161 : decode cX4_readItem 161 = .ok (.iconst (-1), 1) := by decide +kernel
theorem dX4_readItem_162 : decode cX4_readItem 162 = .ok (.ireturn, 1) := by decide +kernel
theorem dX4_letterAt_0 : decode cX4_letterAt 0 = .ok (.iload_n 1, 1) := by decide +kernel
theorem dX4_letterAt_1 : decode cX4_letterAt 1 = .ok (.ifCond .lt 20, 3) := by decide +kernel
theorem dX4_letterAt_4 : decode cX4_letterAt 4 = .ok (.iload_n 1, 1) := by decide +kernel
theorem dX4_letterAt_5 : decode cX4_letterAt 5 = .ok (.aload_n 0, 1) := by decide +kernel
theorem dX4_letterAt_6 : decode cX4_letterAt 6 = .ok (.getfield 19, 3) := by decide +kernel
theorem dX4_letterAt_9 : decode cX4_letterAt 9 = .ok (.if_icmp .ge 12, 3) := by decide +kernel
theorem dX4_letterAt_12 : decode cX4_letterAt 12 = .ok (.aload_n 0, 1) := by decide +kernel
theorem dX4_letterAt_13 : decode cX4_letterAt 13 = .ok (.getfield 9, 3) := by decide +kernel
theorem dX4_letterAt_16 : decode cX4_letterAt 16 = .ok (.iload_n 1, 1) := by decide +kernel
theorem dX4_letterAt_17 : decode cX4_letterAt 17 = .ok (.caload, 1) := by decide +kernel
theorem dX4_letterAt_18 : decode cX4_letterAt 18 = .ok (.goto 4, 3) := by decide +kernel
theorem dX4_letterAt_21 : decode cX4_letterAt 21 = .ok (.iconst 0, 1) := by decide +kernel
theorem dX4_letterAt_22 : decode cX4_letterAt 22 = .ok (.ireturn, 1) := by decide +kernel
theorem dX4_isFigure_0 : decode cX4_isFigure 0 = .ok (.aload_n 0, 1) := by decide +kernel
theorem dX4_isFigure_1 : decode cX4_isFigure 1 = .ok (.iload_n 1, 1) := by decide +kernel
theorem dX4_isFigure_2 : decode cX4_isFigure 2 = .ok (.invokevirtual 32, 3) := by decide +kernel
theorem dX4_isFigure_5 : decode cX4_isFigure 5 = .ok (.bipush 48, 2) := by decide +kernel
theorem dX4_isFigure_7 : decode cX4_isFigure 7 = .ok (.if_icmp .lt 17, 3) := by decide +kernel
theorem dX4_isFigure_10 : decode cX4_isFigure 10 = .ok (.aload_n 0, 1) := by decide +kernel
theorem dX4_isFigure_11 : decode cX4_isFigure 11 = .ok (.iload_n 1, 1) := by decide +kernel
theorem dX4_isFigure_12 : decode cX4_isFigure 12 = .ok (.invokevirtual 32, 3) := by decide +kernel
theorem dX4_isFigure_15 : decode cX4_isFigure 15 = .ok (.bipush 57, 2) := by decide +kernel
theorem dX4_isFigure_17 : decode cX4_isFigure 17 = .ok (.if_icmp .gt 7, 3) := by decide +kernel
theorem dX4_isFigure_20 : decode cX4_isFigure 20 = .ok (.iconst 1, 1) := by decide +kernel
theorem dX4_isFigure_21 : decode cX4_isFigure 21 = .ok (.goto 4, 3) := by decide +kernel
theorem dX4_isFigure_24 : decode cX4_isFigure 24 = .ok (.iconst 0, 1) := by decide +kernel
theorem dX4_isFigure_25 : decode cX4_isFigure 25 = .ok (.ireturn, 1) := by decide +kernel
theorem dX4_figuresAt_0 : decode cX4_figuresAt 0 = .ok (.aload_n 0, 1) := by decide +kernel
theorem dX4_figuresAt_1 : decode cX4_figuresAt 1 = .ok (.iload_n 1, 1) := by decide +kernel
theorem dX4_figuresAt_2 : decode cX4_figuresAt 2 = .ok (.invokevirtual 48, 3) := by decide +kernel
theorem dX4_figuresAt_5 : decode cX4_figuresAt 5 = .ok (.ifCond .ne 5, 3) := by decide +kernel
theorem dX4_figuresAt_8 : decode cX4_figuresAt 8 = .ok (.iconst 0, 1) := by decide +kernel
theorem dX4_figuresAt_9 : decode cX4_figuresAt 9 = .ok (.ireturn, 1) := by decide +kernel
theorem dX4_figuresAt_10 : decode cX4_figuresAt 10 = .ok (.aload_n 0, 1) := by decide +kernel
end
section
theorem dX4_figuresAt_11 : decode cX4_figuresAt 11 = .ok (.iload_n 1, 1) := by decide +kernel
theorem dX4_figuresAt_12 : decode cX4_figuresAt 12 = .ok (.iconst 1, 1) := by decide +kernel
theorem dX4_figuresAt_13 : decode cX4_figuresAt 13 = .ok (.iadd, 1) := by decide +kernel
theorem dX4_figuresAt_14 : decode cX4_figuresAt 14 = .ok (.invokevirtual 48, 3) := by decide +kernel
theorem dX4_figuresAt_17 : decode cX4_figuresAt 17 = .ok (.ifCond .eq 7, 3) := by decide +kernel
theorem dX4_figuresAt_20 : decode cX4_figuresAt 20 = .ok (.iconst 2, 1) := by decide +kernel
theorem dX4_figuresAt_21 : decode cX4_figuresAt 21 = .ok (.goto 4, 3) := by decide +kernel
theorem dX4_figuresAt_24 : decode cX4_figuresAt 24 = .ok (.iconst 1, 1) := by decide +kernel
theorem dX4_figuresAt_25 : decode cX4_figuresAt 25 = .ok (.ireturn, 1) := by decide +kernel
theorem dX4_numberAt_0 : decode cX4_numberAt 0 = .ok (.aload_n 0, 1) := by decide +kernel
theorem dX4_numberAt_1 : decode cX4_numberAt 1 = .ok (.iload_n 1, 1) := by decide +kernel
theorem dX4_numberAt_2 : decode cX4_numberAt 2 = .ok (.invokevirtual 32, 3) := by decide +kernel
theorem dX4_numberAt_5 : decode cX4_numberAt 5 = .ok (.bipush 48, 2) := by decide +kernel
theorem dX4_numberAt_7 : decode cX4_numberAt 7 = .ok (.isub, 1) := by decide +kernel
theorem dX4_numberAt_8 : decode cX4_numberAt 8 = .ok (.istore_n 3, 1) := by decide +kernel
theorem dX4_numberAt_9 : decode cX4_numberAt 9 = .ok (.iload_n 2, 1) := by decide +kernel
theorem dX4_numberAt_10 : decode cX4_numberAt 10 = .ok (.iconst 1, 1) := by decide +kernel
theorem dX4_numberAt_11 : decode cX4_numberAt 11 = .ok (.if_icmp .ne 7, 3) := by decide +kernel
theorem dX4_numberAt_14 : decode cX4_numberAt 14 = .ok (.iload_n 3, 1) := by decide +kernel
theorem dX4_numberAt_15 : decode cX4_numberAt 15 = .ok (.goto 18, 3) := by decide +kernel
theorem dX4_numberAt_18 : decode cX4_numberAt 18 = .ok (.iload_n 3, 1) := by decide +kernel
theorem dX4_numberAt_19 : decode cX4_numberAt 19 = .ok (.bipush 10, 2) := by decide +kernel
theorem dX4_numberAt_21 : decode cX4_numberAt 21 = .ok (.imul, 1) := by decide +kernel
theorem dX4_numberAt_22 : decode cX4_numberAt 22 = .ok (.aload_n 0, 1) := by decide +kernel
theorem dX4_numberAt_23 : decode cX4_numberAt 23 = .ok (.iload_n 1, 1) := by decide +kernel
theorem dX4_numberAt_24 : decode cX4_numberAt 24 = .ok (.iconst 1, 1) := by decide +kernel
theorem dX4_numberAt_25 : decode cX4_numberAt 25 = .ok (.iadd, 1) := by decide +kernel
theorem dX4_numberAt_26 : decode cX4_numberAt 26 = .ok (.invokevirtual 32, 3) := by decide +kernel
theorem dX4_numberAt_29 : decode cX4_numberAt 29 = .ok (.iadd, 1) := by decide +kernel
theorem dX4_numberAt_30 : decode cX4_numberAt 30 = .ok (.bipush 48, 2) := by decide +kernel
theorem dX4_numberAt_32 : decode cX4_numberAt 32 = .ok (.isub, 1) := by decide +kernel
theorem dX4_numberAt_33 : decode cX4_numberAt 33 = .ok (.ireturn, 1) := by decide +kernel
theorem dX5_init_0 : decode cX5_init 0 = .ok (.aload_n 0, 1) := by decide +kernel
theorem dX5_init_1 : decode cX5_init 1 = .ok (.invokespecial 3, 3) := by decide +kernel
theorem dX5_init_4 : decode cX5_init 4 = .ok (.aload_n 0, 1) := by decide +kernel
theorem dX5_init_5 : decode cX5_init 5 = .ok (.iconst 5, 1) := by decide +kernel
theorem dX5_init_6 : decode cX5_init 6 = .ok (.newarray .int, 2) := by decide +kernel
theorem dX5_init_8 : decode cX5_init 8 = .ok (.putfield 9, 3) := by decide +kernel
theorem dX5_init_11 : decode cX5_init 11 = .ok (.aload_n 0, 1) := by decide +kernel
theorem dX5_init_12 : decode cX5_init 12 = .ok (.iconst 5, 1) := by decide +kernel
theorem dX5_init_13 : decode cX5_init 13 = .ok (.newarray .int, 2) := by decide +kernel
theorem dX5_init_15 : decode cX5_init 15 = .ok (.putfield 15, 3) := by decide +kernel
theorem dX5_init_18 : decode cX5_init 18 = .ok (.aload_n 0, 1) := by decide +kernel
theorem dX5_init_19 : decode cX5_init 19 = .ok (.iconst 5, 1) := by decide +kernel
theorem dX5_init_20 : decode cX5_init 20 = .ok (.newarray .int, 2) := by decide +kernel
theorem dX5_init_22 : decode cX5_init 22 = .ok (.putfield 18, 3) := by decide +kernel
theorem dX5_init_25 : decode cX5_init 25 = .ok (.aload_n 0, 1) := by decide +kernel
theorem dX5_init_26 : decode cX5_init 26 = .ok (.iconst 5, 1) := by decide +kernel
theorem dX5_init_27 : decode cX5_init 27 = .ok (.newarray .int, 2) := by decide +kernel
theorem dX5_init_29 : decode cX5_init 29 = .ok (.putfield 21, 3) := by decide +kernel
theorem dX5_init_32 : decode cX5_init 32 = .ok (.aload_n 0, 1) := by decide +kernel
theorem dX5_init_33 : decode cX5_init 33 = .ok (.bipush 25, 2) := by decide +kernel
theorem dX5_init_35 : decode cX5_init 35 = .ok (.newarray .int, 2) := by decide +kernel
theorem dX5_init_37 : decode cX5_init 37 = .ok (.putfield 24, 3) := by decide +kernel
theorem dX5_init_40 : decode cX5_init 40 = .ok (.aload_n 0, 1) := by decide +kernel
theorem dX5_init_41 : decode cX5_init 41 = .ok (.iconst 0, 1) := by decide +kernel
theorem dX5_init_42 : decode cX5_init 42 = .ok (.putfield 27, 3) := by decide +kernel
theorem dX5_init_45 : decode cX5_init 45 = .ok (.aload_n 0, 1) := by decide +kernel
theorem dX5_init_46 : decode cX5_init 46 = .ok (.iconst 0, 1) := by decide +kernel
theorem dX5_init_47 : decode cX5_init 47 = .ok (.putfield 31, 3) := by decide +kernel
theorem dX5_init_50 : decode cX5_init 50 = .ok (.aload_n 0, 1) := by decide +kernel
theorem dX5_init_51 : decode cX5_init 51 = .ok (.aload_n 1, 1) := by decide +kernel
theorem dX5_init_52 : decode cX5_init 52 = .ok (.putfield 34, 3) := by decide +kernel
theorem dX5_init_55 : decode cX5_init 55 = .ok (.return_, 1) := by decide +kernel
theorem dX5_layOut_0 : decode cX5_layOut 0 = .ok (.aload_n 0, 1) := by decide +kernel
theorem dX5_layOut_1 : decode cX5_layOut 1 = .ok (.getfield 34, 3) := by decide +kernel
theorem dX5_layOut_4 : decode cX5_layOut 4 = .ok (.getfield 38, 3) := by decide +kernel
theorem dX5_layOut_7 : decode cX5_layOut 7 = .ok (.iconst 0, 1) := by decide +kernel
theorem dX5_layOut_8 : decode cX5_layOut 8 = .ok (.aload_n 0, 1) := by decide +kernel
theorem dX5_layOut_9 : decode cX5_layOut 9 = .ok (.getfield 9, 3) := by decide +kernel
theorem dX5_layOut_12 : decode cX5_layOut 12 = .ok (.iconst 0, 1) := by decide +kernel
theorem dX5_layOut_13 : decode cX5_layOut 13 = .ok (.iconst 5, 1) := by decide +kernel
theorem dX5_layOut_14 : decode cX5_layOut 14 = .ok (.invokestatic 41, 3) := by decide +kernel
theorem dX5_layOut_17 : decode cX5_layOut 17 = .ok (.aload_n 0, 1) := by decide +kernel
theorem dX5_layOut_18 : decode cX5_layOut 18 = .ok (.getfield 34, 3) := by decide +kernel
theorem dX5_layOut_21 : decode cX5_layOut 21 = .ok (.getfield 47, 3) := by decide +kernel
theorem dX5_layOut_24 : decode cX5_layOut 24 = .ok (.iconst 0, 1) := by decide +kernel
theorem dX5_layOut_25 : decode cX5_layOut 25 = .ok (.aload_n 0, 1) := by decide +kernel
theorem dX5_layOut_26 : decode cX5_layOut 26 = .ok (.getfield 24, 3) := by decide +kernel
theorem dX5_layOut_29 : decode cX5_layOut 29 = .ok (.iconst 0, 1) := by decide +kernel
theorem dX5_layOut_30 : decode cX5_layOut 30 = .ok (.aload_n 0, 1) := by decide +kernel
theorem dX5_layOut_31 : decode cX5_layOut 31 = .ok (.getfield 24, 3) := by decide +kernel
theorem dX5_layOut_34 : decode cX5_layOut 34 = .ok (.arraylength, 1) := by decide +kernel
theorem dX5_layOut_35 : decode cX5_layOut 35 = .ok (.invokestatic 41, 3) := by decide +kernel
theorem dX5_layOut_38 : decode cX5_layOut 38 = .ok (.aload_n 0, 1) := by decide +kernel
theorem dX5_layOut_39 : decode cX5_layOut 39 = .ok (.getfield 15, 3) := by decide +kernel
theorem dX5_layOut_42 : decode cX5_layOut 42 = .ok (.iconst 0, 1) := by decide +kernel
theorem dX5_layOut_43 : decode cX5_layOut 43 = .ok (.invokestatic 48, 3) := by decide +kernel
theorem dX5_layOut_46 : decode cX5_layOut 46 = .ok (.aload_n 0, 1) := by decide +kernel
theorem dX5_layOut_47 : decode cX5_layOut 47 = .ok (.getfield 18, 3) := by decide +kernel
theorem dX5_layOut_50 : decode cX5_layOut 50 = .ok (.iconst 0, 1) := by decide +kernel
theorem dX5_layOut_51 : decode cX5_layOut 51 = .ok (.invokestatic 48, 3) := by decide +kernel
theorem dX5_layOut_54 : decode cX5_layOut 54 = .ok (.aload_n 0, 1) := by decide +kernel
theorem dX5_layOut_55 : decode cX5_layOut 55 = .ok (.getfield 21, 3) := by decide +kernel
theorem dX5_layOut_58 : decode cX5_layOut 58 = .ok (.iconst 0, 1) := by decide +kernel
theorem dX5_layOut_59 : decode cX5_layOut 59 = .ok (.invokestatic 48, 3) := by decide +kernel
theorem dX5_layOut_62 : decode cX5_layOut 62 = .ok (.aload_n 0, 1) := by decide +kernel
theorem dX5_layOut_63 : decode cX5_layOut 63 = .ok (.aload_n 0, 1) := by decide +kernel
theorem dX5_layOut_64 : decode cX5_layOut 64 = .ok (.getfield 34, 3) := by decide +kernel
theorem dX5_layOut_67 : decode cX5_layOut 67 = .ok (.getfield 54, 3) := by decide +kernel
theorem dX5_layOut_70 : decode cX5_layOut 70 = .ok (.putfield 27, 3) := by decide +kernel
theorem dX5_layOut_73 : decode cX5_layOut 73 = .ok (.aload_n 0, 1) := by decide +kernel
theorem dX5_layOut_74 : decode cX5_layOut 74 = .ok (.iconst 0, 1) := by decide +kernel
theorem dX5_layOut_75 : decode cX5_layOut 75 = .ok (.putfield 31, 3) := by decide +kernel
theorem dX5_layOut_78 : decode cX5_layOut 78 = .ok (.return_, 1) := by decide +kernel
theorem dX5_copyFrom_0 : decode cX5_copyFrom 0 = .ok (.aload_n 1, 1) := by decide +kernel
theorem dX5_copyFrom_1 : decode cX5_copyFrom 1 = .ok (.getfield 9, 3) := by decide +kernel
theorem dX5_copyFrom_4 : decode cX5_copyFrom 4 = .ok (.iconst 0, 1) := by decide +kernel
theorem dX5_copyFrom_5 : decode cX5_copyFrom 5 = .ok (.aload_n 0, 1) := by decide +kernel
theorem dX5_copyFrom_6 : decode cX5_copyFrom 6 = .ok (.getfield 9, 3) := by decide +kernel
theorem dX5_copyFrom_9 : decode cX5_copyFrom 9 = .ok (.iconst 0, 1) := by decide +kernel
theorem dX5_copyFrom_10 : decode cX5_copyFrom 10 = .ok (.iconst 5, 1) := by decide +kernel
theorem dX5_copyFrom_11 : decode cX5_copyFrom 11 = .ok (.invokestatic 41, 3) := by decide +kernel
theorem dX5_copyFrom_14 : decode cX5_copyFrom 14 = .ok (.aload_n 1, 1) := by decide +kernel
theorem dX5_copyFrom_15 : decode cX5_copyFrom 15 = .ok (.getfield 15, 3) := by decide +kernel
theorem dX5_copyFrom_18 : decode cX5_copyFrom 18 = .ok (.iconst 0, 1) := by decide +kernel
theorem dX5_copyFrom_19 : decode cX5_copyFrom 19 = .ok (.aload_n 0, 1) := by decide +kernel
theorem dX5_copyFrom_20 : decode cX5_copyFrom 20 = .ok (.getfield 15, 3) := by decide +kernel
theorem dX5_copyFrom_23 : decode cX5_copyFrom 23 = .ok (.iconst 0, 1) := by decide +kernel
theorem dX5_copyFrom_24 : decode cX5_copyFrom 24 = .ok (.iconst 5, 1) := by decide +kernel
theorem dX5_copyFrom_25 : decode cX5_copyFrom 25 = .ok (.invokestatic 41, 3) := by decide +kernel
theorem dX5_copyFrom_28 : decode cX5_copyFrom 28 = .ok (.aload_n 1, 1) := by decide +kernel
theorem dX5_copyFrom_29 : decode cX5_copyFrom 29 = .ok (.getfield 18, 3) := by decide +kernel
theorem dX5_copyFrom_32 : decode cX5_copyFrom 32 = .ok (.iconst 0, 1) := by decide +kernel
theorem dX5_copyFrom_33 : decode cX5_copyFrom 33 = .ok (.aload_n 0, 1) := by decide +kernel
theorem dX5_copyFrom_34 : decode cX5_copyFrom 34 = .ok (.getfield 18, 3) := by decide +kernel
theorem dX5_copyFrom_37 : decode cX5_copyFrom 37 = .ok (.iconst 0, 1) := by decide +kernel
theorem dX5_copyFrom_38 : decode cX5_copyFrom 38 = .ok (.iconst 5, 1) := by decide +kernel
theorem dX5_copyFrom_39 : decode cX5_copyFrom 39 = .ok (.invokestatic 41, 3) := by decide +kernel
theorem dX5_copyFrom_42 : decode cX5_copyFrom 42 = .ok (.aload_n 1, 1) := by decide +kernel
theorem dX5_copyFrom_43 : decode cX5_copyFrom 43 = .ok (.getfield 21, 3) := by decide +kernel
theorem dX5_copyFrom_46 : decode cX5_copyFrom 46 = .ok (.iconst 0, 1) := by decide +kernel
theorem dX5_copyFrom_47 : decode cX5_copyFrom 47 = .ok (.aload_n 0, 1) := by decide +kernel
theorem dX5_copyFrom_48 : decode cX5_copyFrom 48 = .ok (.getfield 21, 3) := by decide +kernel
theorem dX5_copyFrom_51 : decode cX5_copyFrom 51 = .ok (.iconst 0, 1) := by decide +kernel
theorem dX5_copyFrom_52 : decode cX5_copyFrom 52 = .ok (.iconst 5, 1) := by decide +kernel
theorem dX5_copyFrom_53 : decode cX5_copyFrom 53 = .ok (.invokestatic 41, 3) := by decide +kernel
theorem dX5_copyFrom_56 : decode cX5_copyFrom 56 = .ok (.aload_n 1, 1) := by decide +kernel
theorem dX5_copyFrom_57 : decode cX5_copyFrom 57 = .ok (.getfield 24, 3) := by decide +kernel
theorem dX5_copyFrom_60 : decode cX5_copyFrom 60 = .ok (.iconst 0, 1) := by decide +kernel
theorem dX5_copyFrom_61 : decode cX5_copyFrom 61 = .ok (.aload_n 0, 1) := by decide +kernel
theorem dX5_copyFrom_62 : decode cX5_copyFrom 62 = .ok (.getfield 24, 3) := by decide +kernel
theorem dX5_copyFrom_65 : decode cX5_copyFrom 65 = .ok (.iconst 0, 1) := by decide +kernel
theorem dX5_copyFrom_66 : decode cX5_copyFrom 66 = .ok (.aload_n 0, 1) := by decide +kernel
theorem dX5_copyFrom_67 : decode cX5_copyFrom 67 = .ok (.getfield 24, 3) := by decide +kernel
theorem dX5_copyFrom_70 : decode cX5_copyFrom 70 = .ok (.arraylength, 1) := by decide +kernel
theorem dX5_copyFrom_71 : decode cX5_copyFrom 71 = .ok (.invokestatic 41, 3) := by decide +kernel
theorem dX5_copyFrom_74 : decode cX5_copyFrom 74 = .ok (.aload_n 0, 1) := by decide +kernel
theorem dX5_copyFrom_75 : decode cX5_copyFrom 75 = .ok (.aload_n 1, 1) := by decide +kernel
theorem dX5_copyFrom_76 : decode cX5_copyFrom 76 = .ok (.getfield 27, 3) := by decide +kernel
theorem dX5_copyFrom_79 : decode cX5_copyFrom 79 = .ok (.putfield 27, 3) := by decide +kernel
theorem dX5_copyFrom_82 : decode cX5_copyFrom 82 = .ok (.aload_n 0, 1) := by decide +kernel
theorem dX5_copyFrom_83 : decode cX5_copyFrom 83 = .ok (.aload_n 1, 1) := by decide +kernel
theorem dX5_copyFrom_84 : decode cX5_copyFrom 84 = .ok (.getfield 31, 3) := by decide +kernel
theorem dX5_copyFrom_87 : decode cX5_copyFrom 87 = .ok (.putfield 31, 3) := by decide +kernel
theorem dX5_copyFrom_90 : decode cX5_copyFrom 90 = .ok (.return_, 1) := by decide +kernel
theorem dX5_stands_0 : decode cX5_stands 0 = .ok (.aload_n 0, 1) := by decide +kernel
theorem dX5_stands_1 : decode cX5_stands 1 = .ok (.getfield 21, 3) := by decide +kernel
theorem dX5_stands_4 : decode cX5_stands 4 = .ok (.iload_n 1, 1) := by decide +kernel
theorem dX5_stands_5 : decode cX5_stands 5 = .ok (.iaload, 1) := by decide +kernel
theorem dX5_stands_6 : decode cX5_stands 6 = .ok (.aload_n 0, 1) := by decide +kernel
theorem dX5_stands_7 : decode cX5_stands 7 = .ok (.getfield 34, 3) := by decide +kernel
theorem dX5_stands_10 : decode cX5_stands 10 = .ok (.getfield 55, 3) := by decide +kernel
theorem dX5_stands_13 : decode cX5_stands 13 = .ok (.iload_n 1, 1) := by decide +kernel
theorem dX5_stands_14 : decode cX5_stands 14 = .ok (.iaload, 1) := by decide +kernel
theorem dX5_stands_15 : decode cX5_stands 15 = .ok (.iconst 3, 1) := by decide +kernel
theorem dX5_stands_16 : decode cX5_stands 16 = .ok (.if_icmp .ne 7, 3) := by decide +kernel
theorem dX5_stands_19 : decode cX5_stands 19 = .ok (.iconst 2, 1) := by decide +kernel
theorem dX5_stands_20 : decode cX5_stands 20 = .ok (.goto 4, 3) := by decide +kernel
theorem dX5_stands_23 : decode cX5_stands 23 = .ok (.iconst 1, 1) := by decide +kernel
theorem dX5_stands_24 : decode cX5_stands 24 = .ok (.if_icmp .ge 7, 3) := by decide +kernel
theorem dX5_stands_27 : decode cX5_stands 27 = .ok (.iconst 1, 1) := by decide +kernel
theorem dX5_stands_28 : decode cX5_stands 28 = .ok (.goto 4, 3) := by decide +kernel
theorem dX5_stands_31 : decode cX5_stands 31 = .ok (.iconst 0, 1) := by decide +kernel
theorem dX5_stands_32 : decode cX5_stands 32 = .ok (.ireturn, 1) := by decide +kernel
theorem dX5_heldBy_0 : decode cX5_heldBy 0 = .ok (.aload_n 0, 1) := by decide +kernel
theorem dX5_heldBy_1 : decode cX5_heldBy 1 = .ok (.getfield 24, 3) := by decide +kernel
theorem dX5_heldBy_4 : decode cX5_heldBy 4 = .ok (.iload_n 1, 1) := by decide +kernel
theorem dX5_heldBy_5 : decode cX5_heldBy 5 = .ok (.iconst 5, 1) := by decide +kernel
theorem dX5_heldBy_6 : decode cX5_heldBy 6 = .ok (.imul, 1) := by decide +kernel
theorem dX5_heldBy_7 : decode cX5_heldBy 7 = .ok (.iload_n 2, 1) := by decide +kernel
theorem dX5_heldBy_8 : decode cX5_heldBy 8 = .ok (.iadd, 1) := by decide +kernel
theorem dX5_heldBy_9 : decode cX5_heldBy 9 = .ok (.iaload, 1) := by decide +kernel
theorem dX5_heldBy_10 : decode cX5_heldBy 10 = .ok (.ireturn, 1) := by decide +kernel
theorem dX5_setProp_0 : decode cX5_setProp 0 = .ok (.aload_n 0, 1) := by decide +kernel
theorem dX5_setProp_1 : decode cX5_setProp 1 = .ok (.getfield 24, 3) := by decide +kernel
theorem dX5_setProp_4 : decode cX5_setProp 4 = .ok (.iload_n 1, 1) := by decide +kernel
theorem dX5_setProp_5 : decode cX5_setProp 5 = .ok (.iconst 5, 1) := by decide +kernel
theorem dX5_setProp_6 : decode cX5_setProp 6 = .ok (.imul, 1) := by decide +kernel
theorem dX5_setProp_7 : decode cX5_setProp 7 = .ok (.iload_n 2, 1) := by decide +kernel
theorem dX5_setProp_8 : decode cX5_setProp 8 = .ok (.iadd, 1) := by decide +kernel
theorem dX5_setProp_9 : decode cX5_setProp 9 = .ok (.iload_n 3, 1) := by decide +kernel
theorem dX5_setProp_10 : decode cX5_setProp 10 = .ok (.iastore, 1) := by decide +kernel
theorem dX5_setProp_11 : decode cX5_setProp 11 = .ok (.return_, 1) := by decide +kernel
theorem dX5_holdersOf_0 : decode cX5_holdersOf 0 = .ok (.iconst 0, 1) := by decide +kernel
theorem dX5_holdersOf_1 : decode cX5_holdersOf 1 = .ok (.istore_n 2, 1) := by decide +kernel
theorem dX5_holdersOf_2 : decode cX5_holdersOf 2 = .ok (.iconst 0, 1) := by decide +kernel
theorem dX5_holdersOf_3 : decode cX5_holdersOf 3 = .ok (.istore_n 3, 1) := by decide +kernel
theorem dX5_holdersOf_4 : decode cX5_holdersOf 4 = .ok (.iload_n 3, 1) := by decide +kernel
theorem dX5_holdersOf_5 : decode cX5_holdersOf 5 = .ok (.aload_n 0, 1) := by decide +kernel
theorem dX5_holdersOf_6 : decode cX5_holdersOf 6 = .ok (.getfield 34, 3) := by decide +kernel
theorem dX5_holdersOf_9 : decode cX5_holdersOf 9 = .ok (.getfield 58, 3) := by decide +kernel
theorem dX5_holdersOf_12 : decode cX5_holdersOf 12 = .ok (.if_icmp .ge 24, 3) := by decide +kernel
theorem dX5_holdersOf_15 : decode cX5_holdersOf 15 = .ok (.aload_n 0, 1) := by decide +kernel
theorem dX5_holdersOf_16 : decode cX5_holdersOf 16 = .ok (.iload_n 3, 1) := by decide +kernel
theorem dX5_holdersOf_17 : decode cX5_holdersOf 17 = .ok (.iload_n 1, 1) := by decide +kernel
theorem dX5_holdersOf_18 : decode cX5_holdersOf 18 = .ok (.invokevirtual 61, 3) := by decide +kernel
theorem dX5_holdersOf_21 : decode cX5_holdersOf 21 = .ok (.ifCond .le 9, 3) := by decide +kernel
theorem dX5_holdersOf_24 : decode cX5_holdersOf 24 = .ok (.iload_n 2, 1) := by decide +kernel
theorem dX5_holdersOf_25 : decode cX5_holdersOf 25 = .ok (.iconst 1, 1) := by decide +kernel
theorem dX5_holdersOf_26 : decode cX5_holdersOf 26 = .ok (.iload_n 3, 1) := by decide +kernel
theorem dX5_holdersOf_27 : decode cX5_holdersOf 27 = .ok (.ishl, 1) := by decide +kernel
theorem dX5_holdersOf_28 : decode cX5_holdersOf 28 = .ok (.ior, 1) := by decide +kernel
theorem dX5_holdersOf_29 : decode cX5_holdersOf 29 = .ok (.istore_n 2, 1) := by decide +kernel
theorem dX5_holdersOf_30 : decode cX5_holdersOf 30 = .ok (.iinc 3 1, 3) := by decide +kernel
theorem dX5_holdersOf_33 : decode cX5_holdersOf 33 = .ok (.goto (-29), 3) := by decide +kernel
theorem dX5_holdersOf_36 : decode cX5_holdersOf 36 = .ok (.iload_n 2, 1) := by decide +kernel
theorem dX5_holdersOf_37 : decode cX5_holdersOf 37 = .ok (.ireturn, 1) := by decide +kernel
theorem dX5_goRound_0 : decode cX5_goRound 0 = .ok (.aload_n 0, 1) := by decide +kernel
theorem dX5_goRound_1 : decode cX5_goRound 1 = .ok (.getfield 34, 3) := by decide +kernel
theorem dX5_goRound_4 : decode cX5_goRound 4 = .ok (.getfield 55, 3) := by decide +kernel
theorem dX5_goRound_7 : decode cX5_goRound 7 = .ok (.iload_n 1, 1) := by decide +kernel
theorem dX5_goRound_8 : decode cX5_goRound 8 = .ok (.iaload, 1) := by decide +kernel
theorem dX5_goRound_9 : decode cX5_goRound 9 = .ok (.iconst 2, 1) := by decide +kernel
theorem dX5_goRound_10 : decode cX5_goRound 10 = .ok (.if_icmp .ne 7, 3) := by decide +kernel
theorem dX5_goRound_13 : decode cX5_goRound 13 = .ok (.iconst 2, 1) := by decide +kernel
theorem dX5_goRound_14 : decode cX5_goRound 14 = .ok (.goto 4, 3) := by decide +kernel
theorem dX5_goRound_17 : decode cX5_goRound 17 = .ok (.iconst 1, 1) := by decide +kernel
theorem dX5_goRound_18 : decode cX5_goRound 18 = .ok (.istore_n 2, 1) := by decide +kernel
theorem dX5_goRound_19 : decode cX5_goRound 19 = .ok (.aload_n 0, 1) := by decide +kernel
theorem dX5_goRound_20 : decode cX5_goRound 20 = .ok (.getfield 15, 3) := by decide +kernel
theorem dX5_goRound_23 : decode cX5_goRound 23 = .ok (.iload_n 1, 1) := by decide +kernel
theorem dX5_goRound_24 : decode cX5_goRound 24 = .ok (.aload_n 0, 1) := by decide +kernel
theorem dX5_goRound_25 : decode cX5_goRound 25 = .ok (.getfield 15, 3) := by decide +kernel
theorem dX5_goRound_28 : decode cX5_goRound 28 = .ok (.iload_n 1, 1) := by decide +kernel
theorem dX5_goRound_29 : decode cX5_goRound 29 = .ok (.iaload, 1) := by decide +kernel
theorem dX5_goRound_30 : decode cX5_goRound 30 = .ok (.iload_n 2, 1) := by decide +kernel
theorem dX5_goRound_31 : decode cX5_goRound 31 = .ok (.iadd, 1) := by decide +kernel
theorem dX5_goRound_32 : decode cX5_goRound 32 = .ok (.bipush 7, 2) := by decide +kernel
theorem dX5_goRound_34 : decode cX5_goRound 34 = .ok (.invokestatic 65, 3) := by decide +kernel
theorem dX5_goRound_37 : decode cX5_goRound 37 = .ok (.iastore, 1) := by decide +kernel
theorem dX5_goRound_38 : decode cX5_goRound 38 = .ok (.return_, 1) := by decide +kernel
theorem dX5_wouldFall_0 : decode cX5_wouldFall 0 = .ok (.iload_n 2, 1) := by decide +kernel
theorem dX5_wouldFall_1 : decode cX5_wouldFall 1 = .ok (.aload_n 0, 1) := by decide +kernel
theorem dX5_wouldFall_2 : decode cX5_wouldFall 2 = .ok (.getfield 15, 3) := by decide +kernel
theorem dX5_wouldFall_5 : decode cX5_wouldFall 5 = .ok (.iload_n 1, 1) := by decide +kernel
theorem dX5_wouldFall_6 : decode cX5_wouldFall 6 = .ok (.iaload, 1) := by decide +kernel
theorem dX5_wouldFall_7 : decode cX5_wouldFall 7 = .ok (.iconst 1, 1) := by decide +kernel
theorem dX5_wouldFall_8 : decode cX5_wouldFall 8 = .ok (.iadd, 1) := by decide +kernel
theorem dX5_wouldFall_9 : decode cX5_wouldFall 9 = .ok (.imul, 1) := by decide +kernel
theorem dX5_wouldFall_10 : decode cX5_wouldFall 10 = .ok (.aload_n 0, 1) := by decide +kernel
theorem dX5_wouldFall_11 : decode cX5_wouldFall 11 = .ok (.getfield 9, 3) := by decide +kernel
theorem dX5_wouldFall_14 : decode cX5_wouldFall 14 = .ok (.iload_n 1, 1) := by decide +kernel
theorem dX5_wouldFall_15 : decode cX5_wouldFall 15 = .ok (.iaload, 1) := by decide +kernel
theorem dX5_wouldFall_16 : decode cX5_wouldFall 16 = .ok (.if_icmp .lt 7, 3) := by decide +kernel
theorem dX5_wouldFall_19 : decode cX5_wouldFall 19 = .ok (.iconst 1, 1) := by decide +kernel
theorem dX5_wouldFall_20 : decode cX5_wouldFall 20 = .ok (.goto 4, 3) := by decide +kernel
theorem dX5_wouldFall_23 : decode cX5_wouldFall 23 = .ok (.iconst 0, 1) := by decide +kernel
theorem dX5_wouldFall_24 : decode cX5_wouldFall 24 = .ok (.ireturn, 1) := by decide +kernel
theorem dX5_leansInward_0 : decode cX5_leansInward 0 = .ok (.aload_n 0, 1) := by decide +kernel
theorem dX5_leansInward_1 : decode cX5_leansInward 1 = .ok (.getfield 15, 3) := by decide +kernel
theorem dX5_leansInward_4 : decode cX5_leansInward 4 = .ok (.iload_n 1, 1) := by decide +kernel
theorem dX5_leansInward_5 : decode cX5_leansInward 5 = .ok (.iaload, 1) := by decide +kernel
theorem dX5_leansInward_6 : decode cX5_leansInward 6 = .ok (.aload_n 0, 1) := by decide +kernel
theorem dX5_leansInward_7 : decode cX5_leansInward 7 = .ok (.getfield 34, 3) := by decide +kernel
theorem dX5_leansInward_10 : decode cX5_leansInward 10 = .ok (.getfield 70, 3) := by decide +kernel
theorem dX5_leansInward_13 : decode cX5_leansInward 13 = .ok (.iload_n 1, 1) := by decide +kernel
theorem dX5_leansInward_14 : decode cX5_leansInward 14 = .ok (.iaload, 1) := by decide +kernel
theorem dX5_leansInward_15 : decode cX5_leansInward 15 = .ok (.if_icmp .lt 7, 3) := by decide +kernel
theorem dX5_leansInward_18 : decode cX5_leansInward 18 = .ok (.iconst 1, 1) := by decide +kernel
theorem dX5_leansInward_19 : decode cX5_leansInward 19 = .ok (.goto 4, 3) := by decide +kernel
theorem dX5_leansInward_22 : decode cX5_leansInward 22 = .ok (.iconst 0, 1) := by decide +kernel
theorem dX5_leansInward_23 : decode cX5_leansInward 23 = .ok (.ireturn, 1) := by decide +kernel
theorem dX5_fewestTrumpets_0 : decode cX5_fewestTrumpets 0 = .ok (.iconst 1, 1) := by decide +kernel
theorem dX5_fewestTrumpets_1 : decode cX5_fewestTrumpets 1 = .ok (.istore_n 2, 1) := by decide +kernel
theorem dX5_fewestTrumpets_2 : decode cX5_fewestTrumpets 2 = .ok (.iload_n 2, 1) := by decide +kernel
theorem dX5_fewestTrumpets_3 : decode cX5_fewestTrumpets 3 = .ok (.bipush 9, 2) := by decide +kernel
theorem dX5_fewestTrumpets_5 : decode cX5_fewestTrumpets 5 = .ok (.if_icmp .gt 20, 3) := by decide +kernel
theorem dX5_fewestTrumpets_8 : decode cX5_fewestTrumpets 8 = .ok (.aload_n 0, 1) := by decide +kernel
theorem dX5_fewestTrumpets_9 : decode cX5_fewestTrumpets 9 = .ok (.iload_n 1, 1) := by decide +kernel
theorem dX5_fewestTrumpets_10 : decode cX5_fewestTrumpets 10 = .ok (.iload_n 2, 1) := by decide +kernel
theorem dX5_fewestTrumpets_11 : decode cX5_fewestTrumpets 11 = .ok (.invokevirtual 73, 3) := by decide +kernel
theorem dX5_fewestTrumpets_14 : decode cX5_fewestTrumpets 14 = .ok (.ifCond .eq 5, 3) := by decide +kernel
theorem dX5_fewestTrumpets_17 : decode cX5_fewestTrumpets 17 = .ok (.iload_n 2, 1) := by decide +kernel
theorem dX5_fewestTrumpets_18 : decode cX5_fewestTrumpets 18 = .ok (.ireturn, 1) := by decide +kernel
theorem dX5_fewestTrumpets_19 : decode cX5_fewestTrumpets 19 = .ok (.iinc 2 1, 3) := by decide +kernel
theorem dX5_fewestTrumpets_22 : decode cX5_fewestTrumpets 22 = .ok (.goto (-20), 3) := by decide +kernel
theorem dX5_fewestTrumpets_25 : decode cX5_fewestTrumpets 25 = .ok (.bipush (-4), 2) := by decide +kernel
theorem dX5_fewestTrumpets_27 : decode cX5_fewestTrumpets 27 = .ok (.ireturn, 1) := by decide +kernel
theorem dX5_blow_0 : decode cX5_blow 0 = .ok (.aload_n 0, 1) := by decide +kernel
theorem dX5_blow_1 : decode cX5_blow 1 = .ok (.iload_n 1, 1) := by decide +kernel
theorem dX5_blow_2 : decode cX5_blow 2 = .ok (.iload_n 2, 1) := by decide +kernel
theorem dX5_blow_3 : decode cX5_blow 3 = .ok (.invokevirtual 73, 3) := by decide +kernel
theorem dX5_blow_6 : decode cX5_blow 6 = .ok (.ifCond .eq 25, 3) := by decide +kernel
theorem dX5_blow_9 : decode cX5_blow 9 = .ok (.aload_n 0, 1) := by decide +kernel
theorem dX5_blow_10 : decode cX5_blow 10 = .ok (.iload_n 1, 1) := by decide +kernel
theorem dX5_blow_11 : decode cX5_blow 11 = .ok (.invokevirtual 77, 3) := by decide +kernel
theorem dX5_blow_14 : decode cX5_blow 14 = .ok (.ifCond .eq 7, 3) := by decide +kernel
theorem dX5_blow_17 : decode cX5_blow 17 = .ok (.iconst 1, 1) := by decide +kernel
theorem dX5_blow_18 : decode cX5_blow 18 = .ok (.goto 4, 3) := by decide +kernel
theorem dX5_blow_21 : decode cX5_blow 21 = .ok (.iconst 2, 1) := by decide +kernel
theorem dX5_blow_22 : decode cX5_blow 22 = .ok (.istore_n 3, 1) := by decide +kernel
theorem dX5_blow_23 : decode cX5_blow 23 = .ok (.aload_n 0, 1) := by decide +kernel
theorem dX5_blow_24 : decode cX5_blow 24 = .ok (.iload_n 1, 1) := by decide +kernel
theorem dX5_blow_25 : decode cX5_blow 25 = .ok (.iload_n 3, 1) := by decide +kernel
theorem dX5_blow_26 : decode cX5_blow 26 = .ok (.invokevirtual 81, 3) := by decide +kernel
theorem dX5_blow_29 : decode cX5_blow 29 = .ok (.iload_n 3, 1) := by decide +kernel
theorem dX5_blow_30 : decode cX5_blow 30 = .ok (.ireturn, 1) := by decide +kernel
theorem dX5_blow_31 : decode cX5_blow 31 = .ok (.aload_n 0, 1) := by decide +kernel
theorem dX5_blow_32 : decode cX5_blow 32 = .ok (.getfield 9, 3) := by decide +kernel
theorem dX5_blow_35 : decode cX5_blow 35 = .ok (.iload_n 1, 1) := by decide +kernel
theorem dX5_blow_36 : decode cX5_blow 36 = .ok (.aload_n 0, 1) := by decide +kernel
theorem dX5_blow_37 : decode cX5_blow 37 = .ok (.getfield 9, 3) := by decide +kernel
theorem dX5_blow_40 : decode cX5_blow 40 = .ok (.iload_n 1, 1) := by decide +kernel
theorem dX5_blow_41 : decode cX5_blow 41 = .ok (.iaload, 1) := by decide +kernel
theorem dX5_blow_42 : decode cX5_blow 42 = .ok (.iload_n 2, 1) := by decide +kernel
theorem dX5_blow_43 : decode cX5_blow 43 = .ok (.isub, 1) := by decide +kernel
theorem dX5_blow_44 : decode cX5_blow 44 = .ok (.iconst 1, 1) := by decide +kernel
theorem dX5_blow_45 : decode cX5_blow 45 = .ok (.invokestatic 85, 3) := by decide +kernel
theorem dX5_blow_48 : decode cX5_blow 48 = .ok (.iastore, 1) := by decide +kernel
theorem dX5_blow_49 : decode cX5_blow 49 = .ok (.aload_n 0, 1) := by decide +kernel
theorem dX5_blow_50 : decode cX5_blow 50 = .ok (.getfield 15, 3) := by decide +kernel
theorem dX5_blow_53 : decode cX5_blow 53 = .ok (.iload_n 1, 1) := by decide +kernel
theorem dX5_blow_54 : decode cX5_blow 54 = .ok (.iconst 0, 1) := by decide +kernel
theorem dX5_blow_55 : decode cX5_blow 55 = .ok (.iastore, 1) := by decide +kernel
theorem dX5_blow_56 : decode cX5_blow 56 = .ok (.iconst 0, 1) := by decide +kernel
theorem dX5_blow_57 : decode cX5_blow 57 = .ok (.ireturn, 1) := by decide +kernel
theorem dX5_comeDown_0 : decode cX5_comeDown 0 = .ok (.aload_n 0, 1) := by decide +kernel
theorem dX5_comeDown_1 : decode cX5_comeDown 1 = .ok (.iload_n 1, 1) := by decide +kernel
theorem dX5_comeDown_2 : decode cX5_comeDown 2 = .ok (.iload_n 2, 1) := by decide +kernel
theorem dX5_comeDown_3 : decode cX5_comeDown 3 = .ok (.iconst 0, 1) := by decide +kernel
theorem dX5_comeDown_4 : decode cX5_comeDown 4 = .ok (.invokevirtual 88, 3) := by decide +kernel
theorem dX5_comeDown_7 : decode cX5_comeDown 7 = .ok (.return_, 1) := by decide +kernel
theorem dX5_fallWithAll_0 : decode cX5_fallWithAll 0 = .ok (.iload_n 3, 1) := by decide +kernel
theorem dX5_fallWithAll_1 : decode cX5_fallWithAll 1 = .ok (.iconst 5, 1) := by decide +kernel
theorem dX5_fallWithAll_2 : decode cX5_fallWithAll 2 = .ok (.if_icmp .le 4, 3) := by decide +kernel
theorem dX5_fallWithAll_5 : decode cX5_fallWithAll 5 = .ok (.return_, 1) := by decide +kernel
theorem dX5_fallWithAll_6 : decode cX5_fallWithAll 6 = .ok (.aload_n 0, 1) := by decide +kernel
theorem dX5_fallWithAll_7 : decode cX5_fallWithAll 7 = .ok (.getfield 21, 3) := by decide +kernel
theorem dX5_fallWithAll_10 : decode cX5_fallWithAll 10 = .ok (.iload_n 1, 1) := by decide +kernel
theorem dX5_fallWithAll_11 : decode cX5_fallWithAll 11 = .ok (.dup2, 1) := by decide +kernel
theorem dX5_fallWithAll_12 : decode cX5_fallWithAll 12 = .ok (.iaload, 1) := by decide +kernel
theorem dX5_fallWithAll_13 : decode cX5_fallWithAll 13 = .ok (.iconst 1, 1) := by decide +kernel
theorem dX5_fallWithAll_14 : decode cX5_fallWithAll 14 = .ok (.iadd, 1) := by decide +kernel
theorem dX5_fallWithAll_15 : decode cX5_fallWithAll 15 = .ok (.iastore, 1) := by decide +kernel
theorem dX5_fallWithAll_16 : decode cX5_fallWithAll 16 = .ok (.aload_n 0, 1) := by decide +kernel
theorem dX5_fallWithAll_17 : decode cX5_fallWithAll 17 = .ok (.getfield 15, 3) := by decide +kernel
theorem dX5_fallWithAll_20 : decode cX5_fallWithAll 20 = .ok (.iload_n 1, 1) := by decide +kernel
theorem dX5_fallWithAll_21 : decode cX5_fallWithAll 21 = .ok (.iconst 0, 1) := by decide +kernel
theorem dX5_fallWithAll_22 : decode cX5_fallWithAll 22 = .ok (.iastore, 1) := by decide +kernel
theorem dX5_fallWithAll_23 : decode cX5_fallWithAll 23 = .ok (.iload_n 2, 1) := by decide +kernel
theorem dX5_fallWithAll_24 : decode cX5_fallWithAll 24 = .ok (.iconst 1, 1) := by decide +kernel
theorem dX5_fallWithAll_25 : decode cX5_fallWithAll 25 = .ok (.if_icmp .ne 21, 3) := by decide +kernel
theorem dX5_fallWithAll_28 : decode cX5_fallWithAll 28 = .ok (.aload_n 0, 1) := by decide +kernel
theorem dX5_fallWithAll_29 : decode cX5_fallWithAll 29 = .ok (.dup, 1) := by decide +kernel
theorem dX5_fallWithAll_30 : decode cX5_fallWithAll 30 = .ok (.getfield 27, 3) := by decide +kernel
theorem dX5_fallWithAll_33 : decode cX5_fallWithAll 33 = .ok (.aload_n 0, 1) := by decide +kernel
theorem dX5_fallWithAll_34 : decode cX5_fallWithAll 34 = .ok (.getfield 34, 3) := by decide +kernel
theorem dX5_fallWithAll_37 : decode cX5_fallWithAll 37 = .ok (.getfield 38, 3) := by decide +kernel
theorem dX5_fallWithAll_40 : decode cX5_fallWithAll 40 = .ok (.iload_n 1, 1) := by decide +kernel
theorem dX5_fallWithAll_41 : decode cX5_fallWithAll 41 = .ok (.iaload, 1) := by decide +kernel
theorem dX5_fallWithAll_42 : decode cX5_fallWithAll 42 = .ok (.iadd, 1) := by decide +kernel
theorem dX5_fallWithAll_43 : decode cX5_fallWithAll 43 = .ok (.putfield 27, 3) := by decide +kernel
theorem dX5_fallWithAll_46 : decode cX5_fallWithAll 46 = .ok (.iload_n 2, 1) := by decide +kernel
theorem dX5_fallWithAll_47 : decode cX5_fallWithAll 47 = .ok (.iconst 2, 1) := by decide +kernel
theorem dX5_fallWithAll_48 : decode cX5_fallWithAll 48 = .ok (.if_icmp .ne 28, 3) := by decide +kernel
theorem dX5_fallWithAll_51 : decode cX5_fallWithAll 51 = .ok (.iload_n 1, 1) := by decide +kernel
theorem dX5_fallWithAll_52 : decode cX5_fallWithAll 52 = .ok (.iconst 1, 1) := by decide +kernel
theorem dX5_fallWithAll_53 : decode cX5_fallWithAll 53 = .ok (.iadd, 1) := by decide +kernel
theorem dX5_fallWithAll_54 : decode cX5_fallWithAll 54 = .ok (.aload_n 0, 1) := by decide +kernel
theorem dX5_fallWithAll_55 : decode cX5_fallWithAll 55 = .ok (.getfield 34, 3) := by decide +kernel
theorem dX5_fallWithAll_58 : decode cX5_fallWithAll 58 = .ok (.getfield 58, 3) := by decide +kernel
theorem dX5_fallWithAll_61 : decode cX5_fallWithAll 61 = .ok (.if_icmp .ge 15, 3) := by decide +kernel
theorem dX5_fallWithAll_64 : decode cX5_fallWithAll 64 = .ok (.aload_n 0, 1) := by decide +kernel
theorem dX5_fallWithAll_65 : decode cX5_fallWithAll 65 = .ok (.getfield 18, 3) := by decide +kernel
theorem dX5_fallWithAll_68 : decode cX5_fallWithAll 68 = .ok (.iload_n 1, 1) := by decide +kernel
theorem dX5_fallWithAll_69 : decode cX5_fallWithAll 69 = .ok (.iconst 1, 1) := by decide +kernel
theorem dX5_fallWithAll_70 : decode cX5_fallWithAll 70 = .ok (.iadd, 1) := by decide +kernel
theorem dX5_fallWithAll_71 : decode cX5_fallWithAll 71 = .ok (.dup2, 1) := by decide +kernel
theorem dX5_fallWithAll_72 : decode cX5_fallWithAll 72 = .ok (.iaload, 1) := by decide +kernel
theorem dX5_fallWithAll_73 : decode cX5_fallWithAll 73 = .ok (.iconst 1, 1) := by decide +kernel
theorem dX5_fallWithAll_74 : decode cX5_fallWithAll 74 = .ok (.iadd, 1) := by decide +kernel
theorem dX5_fallWithAll_75 : decode cX5_fallWithAll 75 = .ok (.iastore, 1) := by decide +kernel
theorem dX5_fallWithAll_76 : decode cX5_fallWithAll 76 = .ok (.aload_n 0, 1) := by decide +kernel
theorem dX5_fallWithAll_77 : decode cX5_fallWithAll 77 = .ok (.iload_n 1, 1) := by decide +kernel
theorem dX5_fallWithAll_78 : decode cX5_fallWithAll 78 = .ok (.invokevirtual 92, 3) := by decide +kernel
theorem dX5_fallWithAll_81 : decode cX5_fallWithAll 81 = .ok (.ifCond .eq 23, 3) := by decide +kernel
theorem dX5_fallWithAll_84 : decode cX5_fallWithAll 84 = .ok (.aload_n 0, 1) := by decide +kernel
theorem dX5_fallWithAll_85 : decode cX5_fallWithAll 85 = .ok (.getfield 9, 3) := by decide +kernel
theorem dX5_fallWithAll_88 : decode cX5_fallWithAll 88 = .ok (.iload_n 1, 1) := by decide +kernel
theorem dX5_fallWithAll_89 : decode cX5_fallWithAll 89 = .ok (.aload_n 0, 1) := by decide +kernel
theorem dX5_fallWithAll_90 : decode cX5_fallWithAll 90 = .ok (.getfield 34, 3) := by decide +kernel
theorem dX5_fallWithAll_93 : decode cX5_fallWithAll 93 = .ok (.getfield 38, 3) := by decide +kernel
theorem dX5_fallWithAll_96 : decode cX5_fallWithAll 96 = .ok (.iload_n 1, 1) := by decide +kernel
theorem dX5_fallWithAll_97 : decode cX5_fallWithAll 97 = .ok (.iaload, 1) := by decide +kernel
theorem dX5_fallWithAll_98 : decode cX5_fallWithAll 98 = .ok (.iconst 2, 1) := by decide +kernel
theorem dX5_fallWithAll_99 : decode cX5_fallWithAll 99 = .ok (.idiv, 1) := by decide +kernel
theorem dX5_fallWithAll_100 : decode cX5_fallWithAll 100 = .ok (.iconst 1, 1) := by decide +kernel
theorem dX5_fallWithAll_101 : decode cX5_fallWithAll 101 = .ok (.iadd, 1) := by decide +kernel
theorem dX5_fallWithAll_102 : decode cX5_fallWithAll 102 = .ok (.iastore, 1) := by decide +kernel
theorem dX5_fallWithAll_103 : decode cX5_fallWithAll 103 = .ok (.return_, 1) := by decide +kernel
theorem dX5_fallWithAll_104 : decode cX5_fallWithAll 104 = .ok (.aload_n 0, 1) := by decide +kernel
theorem dX5_fallWithAll_105 : decode cX5_fallWithAll 105 = .ok (.getfield 9, 3) := by decide +kernel
theorem dX5_fallWithAll_108 : decode cX5_fallWithAll 108 = .ok (.iload_n 1, 1) := by decide +kernel
theorem dX5_fallWithAll_109 : decode cX5_fallWithAll 109 = .ok (.iconst 0, 1) := by decide +kernel
theorem dX5_fallWithAll_110 : decode cX5_fallWithAll 110 = .ok (.iastore, 1) := by decide +kernel
theorem dX5_fallWithAll_111 : decode cX5_fallWithAll 111 = .ok (.iconst 0, 1) := by decide +kernel
theorem dX5_fallWithAll_112 : decode cX5_fallWithAll 112 = .ok (.istore 4, 2) := by decide +kernel
theorem dX5_fallWithAll_114 : decode cX5_fallWithAll 114 = .ok (.iload 4, 2) := by decide +kernel
theorem dX5_fallWithAll_116 : decode cX5_fallWithAll 116 = .ok (.aload_n 0, 1) := by decide +kernel
theorem dX5_fallWithAll_117 : decode cX5_fallWithAll 117 = .ok (.getfield 34, 3) := by decide +kernel
theorem dX5_fallWithAll_120 : decode cX5_fallWithAll 120 = .ok (.getfield 58, 3) := by decide +kernel
theorem dX5_fallWithAll_123 : decode cX5_fallWithAll 123 = .ok (.if_icmp .ge 35, 3) := by decide +kernel
theorem dX5_fallWithAll_126 : decode cX5_fallWithAll 126 = .ok (.aload_n 0, 1) := by decide +kernel
theorem dX5_fallWithAll_127 : decode cX5_fallWithAll 127 = .ok (.iload 4, 2) := by decide +kernel
theorem dX5_fallWithAll_129 : decode cX5_fallWithAll 129 = .ok (.invokevirtual 92, 3) := by decide +kernel
theorem dX5_fallWithAll_132 : decode cX5_fallWithAll 132 = .ok (.ifCond .eq 20, 3) := by decide +kernel
theorem dX5_fallWithAll_135 : decode cX5_fallWithAll 135 = .ok (.aload_n 0, 1) := by decide +kernel
theorem dX5_fallWithAll_136 : decode cX5_fallWithAll 136 = .ok (.getfield 9, 3) := by decide +kernel
theorem dX5_fallWithAll_139 : decode cX5_fallWithAll 139 = .ok (.iload 4, 2) := by decide +kernel
theorem dX5_fallWithAll_141 : decode cX5_fallWithAll 141 = .ok (.dup2, 1) := by decide +kernel
theorem dX5_fallWithAll_142 : decode cX5_fallWithAll 142 = .ok (.iaload, 1) := by decide +kernel
theorem dX5_fallWithAll_143 : decode cX5_fallWithAll 143 = .ok (.aload_n 0, 1) := by decide +kernel
theorem dX5_fallWithAll_144 : decode cX5_fallWithAll 144 = .ok (.iload_n 1, 1) := by decide +kernel
theorem dX5_fallWithAll_145 : decode cX5_fallWithAll 145 = .ok (.iload 4, 2) := by decide +kernel
theorem dX5_fallWithAll_147 : decode cX5_fallWithAll 147 = .ok (.invokevirtual 61, 3) := by decide +kernel
theorem dX5_fallWithAll_150 : decode cX5_fallWithAll 150 = .ok (.isub, 1) := by decide +kernel
theorem dX5_fallWithAll_151 : decode cX5_fallWithAll 151 = .ok (.iastore, 1) := by decide +kernel
theorem dX5_fallWithAll_152 : decode cX5_fallWithAll 152 = .ok (.iinc 4 1, 3) := by decide +kernel
theorem dX5_fallWithAll_155 : decode cX5_fallWithAll 155 = .ok (.goto (-41), 3) := by decide +kernel
theorem dX5_fallWithAll_158 : decode cX5_fallWithAll 158 = .ok (.iconst 0, 1) := by decide +kernel
theorem dX5_fallWithAll_159 : decode cX5_fallWithAll 159 = .ok (.istore 4, 2) := by decide +kernel
theorem dX5_fallWithAll_161 : decode cX5_fallWithAll 161 = .ok (.iload 4, 2) := by decide +kernel
theorem dX5_fallWithAll_163 : decode cX5_fallWithAll 163 = .ok (.aload_n 0, 1) := by decide +kernel
theorem dX5_fallWithAll_164 : decode cX5_fallWithAll 164 = .ok (.getfield 34, 3) := by decide +kernel
theorem dX5_fallWithAll_167 : decode cX5_fallWithAll 167 = .ok (.getfield 58, 3) := by decide +kernel
theorem dX5_fallWithAll_170 : decode cX5_fallWithAll 170 = .ok (.if_icmp .ge 48, 3) := by decide +kernel
theorem dX5_fallWithAll_173 : decode cX5_fallWithAll 173 = .ok (.aload_n 0, 1) := by decide +kernel
theorem dX5_fallWithAll_174 : decode cX5_fallWithAll 174 = .ok (.iload_n 1, 1) := by decide +kernel
theorem dX5_fallWithAll_175 : decode cX5_fallWithAll 175 = .ok (.iload 4, 2) := by decide +kernel
theorem dX5_fallWithAll_177 : decode cX5_fallWithAll 177 = .ok (.invokevirtual 61, 3) := by decide +kernel
theorem dX5_fallWithAll_180 : decode cX5_fallWithAll 180 = .ok (.ifCond .le 32, 3) := by decide +kernel
theorem dX5_fallWithAll_183 : decode cX5_fallWithAll 183 = .ok (.aload_n 0, 1) := by decide +kernel
theorem dX5_fallWithAll_184 : decode cX5_fallWithAll 184 = .ok (.iload 4, 2) := by decide +kernel
theorem dX5_fallWithAll_186 : decode cX5_fallWithAll 186 = .ok (.invokevirtual 92, 3) := by decide +kernel
theorem dX5_fallWithAll_189 : decode cX5_fallWithAll 189 = .ok (.ifCond .eq 23, 3) := by decide +kernel
theorem dX5_fallWithAll_192 : decode cX5_fallWithAll 192 = .ok (.aload_n 0, 1) := by decide +kernel
theorem dX5_fallWithAll_193 : decode cX5_fallWithAll 193 = .ok (.getfield 9, 3) := by decide +kernel
theorem dX5_fallWithAll_196 : decode cX5_fallWithAll 196 = .ok (.iload 4, 2) := by decide +kernel
theorem dX5_fallWithAll_198 : decode cX5_fallWithAll 198 = .ok (.iaload, 1) := by decide +kernel
theorem dX5_fallWithAll_199 : decode cX5_fallWithAll 199 = .ok (.ifCond .gt 13, 3) := by decide +kernel
theorem dX5_fallWithAll_202 : decode cX5_fallWithAll 202 = .ok (.aload_n 0, 1) := by decide +kernel
theorem dX5_fallWithAll_203 : decode cX5_fallWithAll 203 = .ok (.iload 4, 2) := by decide +kernel
theorem dX5_fallWithAll_205 : decode cX5_fallWithAll 205 = .ok (.iconst 1, 1) := by decide +kernel
theorem dX5_fallWithAll_206 : decode cX5_fallWithAll 206 = .ok (.iload_n 3, 1) := by decide +kernel
theorem dX5_fallWithAll_207 : decode cX5_fallWithAll 207 = .ok (.iconst 1, 1) := by decide +kernel
theorem dX5_fallWithAll_208 : decode cX5_fallWithAll 208 = .ok (.iadd, 1) := by decide +kernel
theorem dX5_fallWithAll_209 : decode cX5_fallWithAll 209 = .ok (.invokevirtual 88, 3) := by decide +kernel
theorem dX5_fallWithAll_212 : decode cX5_fallWithAll 212 = .ok (.iinc 4 1, 3) := by decide +kernel
theorem dX5_fallWithAll_215 : decode cX5_fallWithAll 215 = .ok (.goto (-54), 3) := by decide +kernel
theorem dX5_fallWithAll_218 : decode cX5_fallWithAll 218 = .ok (.return_, 1) := by decide +kernel
theorem dX5_dayGoesBy_0 : decode cX5_dayGoesBy 0 = .ok (.iconst 0, 1) := by decide +kernel
theorem dX5_dayGoesBy_1 : decode cX5_dayGoesBy 1 = .ok (.istore_n 1, 1) := by decide +kernel
theorem dX5_dayGoesBy_2 : decode cX5_dayGoesBy 2 = .ok (.iload_n 1, 1) := by decide +kernel
theorem dX5_dayGoesBy_3 : decode cX5_dayGoesBy 3 = .ok (.aload_n 0, 1) := by decide +kernel
theorem dX5_dayGoesBy_4 : decode cX5_dayGoesBy 4 = .ok (.getfield 34, 3) := by decide +kernel
theorem dX5_dayGoesBy_7 : decode cX5_dayGoesBy 7 = .ok (.getfield 58, 3) := by decide +kernel
theorem dX5_dayGoesBy_10 : decode cX5_dayGoesBy 10 = .ok (.if_icmp .ge 49, 3) := by decide +kernel
theorem dX5_dayGoesBy_13 : decode cX5_dayGoesBy 13 = .ok (.aload_n 0, 1) := by decide +kernel
theorem dX5_dayGoesBy_14 : decode cX5_dayGoesBy 14 = .ok (.getfield 34, 3) := by decide +kernel
theorem dX5_dayGoesBy_17 : decode cX5_dayGoesBy 17 = .ok (.getfield 55, 3) := by decide +kernel
theorem dX5_dayGoesBy_20 : decode cX5_dayGoesBy 20 = .ok (.iload_n 1, 1) := by decide +kernel
theorem dX5_dayGoesBy_21 : decode cX5_dayGoesBy 21 = .ok (.iaload, 1) := by decide +kernel
theorem dX5_dayGoesBy_22 : decode cX5_dayGoesBy 22 = .ok (.iconst 1, 1) := by decide +kernel
theorem dX5_dayGoesBy_23 : decode cX5_dayGoesBy 23 = .ok (.if_icmp .ne 30, 3) := by decide +kernel
theorem dX5_dayGoesBy_26 : decode cX5_dayGoesBy 26 = .ok (.aload_n 0, 1) := by decide +kernel
theorem dX5_dayGoesBy_27 : decode cX5_dayGoesBy 27 = .ok (.iload_n 1, 1) := by decide +kernel
theorem dX5_dayGoesBy_28 : decode cX5_dayGoesBy 28 = .ok (.invokevirtual 92, 3) := by decide +kernel
theorem dX5_dayGoesBy_31 : decode cX5_dayGoesBy 31 = .ok (.ifCond .eq 22, 3) := by decide +kernel
theorem dX5_dayGoesBy_34 : decode cX5_dayGoesBy 34 = .ok (.aload_n 0, 1) := by decide +kernel
theorem dX5_dayGoesBy_35 : decode cX5_dayGoesBy 35 = .ok (.getfield 9, 3) := by decide +kernel
theorem dX5_dayGoesBy_38 : decode cX5_dayGoesBy 38 = .ok (.iload_n 1, 1) := by decide +kernel
theorem dX5_dayGoesBy_39 : decode cX5_dayGoesBy 39 = .ok (.aload_n 0, 1) := by decide +kernel
theorem dX5_dayGoesBy_40 : decode cX5_dayGoesBy 40 = .ok (.getfield 9, 3) := by decide +kernel
theorem dX5_dayGoesBy_43 : decode cX5_dayGoesBy 43 = .ok (.iload_n 1, 1) := by decide +kernel
theorem dX5_dayGoesBy_44 : decode cX5_dayGoesBy 44 = .ok (.iaload, 1) := by decide +kernel
theorem dX5_dayGoesBy_45 : decode cX5_dayGoesBy 45 = .ok (.iconst 1, 1) := by decide +kernel
theorem dX5_dayGoesBy_46 : decode cX5_dayGoesBy 46 = .ok (.iadd, 1) := by decide +kernel
theorem dX5_dayGoesBy_47 : decode cX5_dayGoesBy 47 = .ok (.bipush 99, 2) := by decide +kernel
theorem dX5_dayGoesBy_49 : decode cX5_dayGoesBy 49 = .ok (.invokestatic 65, 3) := by decide +kernel
theorem dX5_dayGoesBy_52 : decode cX5_dayGoesBy 52 = .ok (.iastore, 1) := by decide +kernel
theorem dX5_dayGoesBy_53 : decode cX5_dayGoesBy 53 = .ok (.iinc 1 1, 3) := by decide +kernel
theorem dX5_dayGoesBy_56 : decode cX5_dayGoesBy 56 = .ok (.goto (-54), 3) := by decide +kernel
theorem dX5_dayGoesBy_59 : decode cX5_dayGoesBy 59 = .ok (.aload_n 0, 1) := by decide +kernel
theorem dX5_dayGoesBy_60 : decode cX5_dayGoesBy 60 = .ok (.dup, 1) := by decide +kernel
theorem dX5_dayGoesBy_61 : decode cX5_dayGoesBy 61 = .ok (.getfield 31, 3) := by decide +kernel
theorem dX5_dayGoesBy_64 : decode cX5_dayGoesBy 64 = .ok (.iconst 1, 1) := by decide +kernel
theorem dX5_dayGoesBy_65 : decode cX5_dayGoesBy 65 = .ok (.iadd, 1) := by decide +kernel
theorem dX5_dayGoesBy_66 : decode cX5_dayGoesBy 66 = .ok (.putfield 31, 3) := by decide +kernel
theorem dX5_dayGoesBy_69 : decode cX5_dayGoesBy 69 = .ok (.return_, 1) := by decide +kernel
theorem dX5_countDown_0 : decode cX5_countDown 0 = .ok (.iconst 0, 1) := by decide +kernel
theorem dX5_countDown_1 : decode cX5_countDown 1 = .ok (.istore_n 1, 1) := by decide +kernel
theorem dX5_countDown_2 : decode cX5_countDown 2 = .ok (.iconst 0, 1) := by decide +kernel
theorem dX5_countDown_3 : decode cX5_countDown 3 = .ok (.istore_n 2, 1) := by decide +kernel
theorem dX5_countDown_4 : decode cX5_countDown 4 = .ok (.iload_n 2, 1) := by decide +kernel
theorem dX5_countDown_5 : decode cX5_countDown 5 = .ok (.aload_n 0, 1) := by decide +kernel
theorem dX5_countDown_6 : decode cX5_countDown 6 = .ok (.getfield 34, 3) := by decide +kernel
theorem dX5_countDown_9 : decode cX5_countDown 9 = .ok (.getfield 58, 3) := by decide +kernel
theorem dX5_countDown_12 : decode cX5_countDown 12 = .ok (.if_icmp .ge 20, 3) := by decide +kernel
theorem dX5_countDown_15 : decode cX5_countDown 15 = .ok (.aload_n 0, 1) := by decide +kernel
theorem dX5_countDown_16 : decode cX5_countDown 16 = .ok (.iload_n 2, 1) := by decide +kernel
theorem dX5_countDown_17 : decode cX5_countDown 17 = .ok (.invokevirtual 92, 3) := by decide +kernel
theorem dX5_countDown_20 : decode cX5_countDown 20 = .ok (.ifCond .ne 6, 3) := by decide +kernel
theorem dX5_countDown_23 : decode cX5_countDown 23 = .ok (.iinc 1 1, 3) := by decide +kernel
theorem dX5_countDown_26 : decode cX5_countDown 26 = .ok (.iinc 2 1, 3) := by decide +kernel
theorem dX5_countDown_29 : decode cX5_countDown 29 = .ok (.goto (-25), 3) := by decide +kernel
theorem dX5_countDown_32 : decode cX5_countDown 32 = .ok (.iload_n 1, 1) := by decide +kernel
theorem dX5_countDown_33 : decode cX5_countDown 33 = .ok (.ireturn, 1) := by decide +kernel
theorem dX5_countHurt_0 : decode cX5_countHurt 0 = .ok (.iconst 0, 1) := by decide +kernel
theorem dX5_countHurt_1 : decode cX5_countHurt 1 = .ok (.istore_n 1, 1) := by decide +kernel
theorem dX5_countHurt_2 : decode cX5_countHurt 2 = .ok (.iconst 0, 1) := by decide +kernel
theorem dX5_countHurt_3 : decode cX5_countHurt 3 = .ok (.istore_n 2, 1) := by decide +kernel
theorem dX5_countHurt_4 : decode cX5_countHurt 4 = .ok (.iload_n 2, 1) := by decide +kernel
theorem dX5_countHurt_5 : decode cX5_countHurt 5 = .ok (.aload_n 0, 1) := by decide +kernel
theorem dX5_countHurt_6 : decode cX5_countHurt 6 = .ok (.getfield 34, 3) := by decide +kernel
theorem dX5_countHurt_9 : decode cX5_countHurt 9 = .ok (.getfield 58, 3) := by decide +kernel
theorem dX5_countHurt_12 : decode cX5_countHurt 12 = .ok (.if_icmp .ge 18, 3) := by decide +kernel
theorem dX5_countHurt_15 : decode cX5_countHurt 15 = .ok (.iload_n 1, 1) := by decide +kernel
theorem dX5_countHurt_16 : decode cX5_countHurt 16 = .ok (.aload_n 0, 1) := by decide +kernel
theorem dX5_countHurt_17 : decode cX5_countHurt 17 = .ok (.getfield 18, 3) := by decide +kernel
theorem dX5_countHurt_20 : decode cX5_countHurt 20 = .ok (.iload_n 2, 1) := by decide +kernel
theorem dX5_countHurt_21 : decode cX5_countHurt 21 = .ok (.iaload, 1) := by decide +kernel
theorem dX5_countHurt_22 : decode cX5_countHurt 22 = .ok (.iadd, 1) := by decide +kernel
theorem dX5_countHurt_23 : decode cX5_countHurt 23 = .ok (.istore_n 1, 1) := by decide +kernel
theorem dX5_countHurt_24 : decode cX5_countHurt 24 = .ok (.iinc 2 1, 3) := by decide +kernel
theorem dX5_countHurt_27 : decode cX5_countHurt 27 = .ok (.goto (-23), 3) := by decide +kernel
theorem dX5_countHurt_30 : decode cX5_countHurt 30 = .ok (.iload_n 1, 1) := by decide +kernel
theorem dX5_countHurt_31 : decode cX5_countHurt 31 = .ok (.ireturn, 1) := by decide +kernel
theorem dX5_countProps_0 : decode cX5_countProps 0 = .ok (.iconst 0, 1) := by decide +kernel
theorem dX5_countProps_1 : decode cX5_countProps 1 = .ok (.istore_n 1, 1) := by decide +kernel
theorem dX5_countProps_2 : decode cX5_countProps 2 = .ok (.aload_n 0, 1) := by decide +kernel
theorem dX5_countProps_3 : decode cX5_countProps 3 = .ok (.getfield 24, 3) := by decide +kernel
theorem dX5_countProps_6 : decode cX5_countProps 6 = .ok (.astore_n 2, 1) := by decide +kernel
theorem dX5_countProps_7 : decode cX5_countProps 7 = .ok (.aload_n 2, 1) := by decide +kernel
theorem dX5_countProps_8 : decode cX5_countProps 8 = .ok (.arraylength, 1) := by decide +kernel
theorem dX5_countProps_9 : decode cX5_countProps 9 = .ok (.istore_n 3, 1) := by decide +kernel
theorem dX5_countProps_10 : decode cX5_countProps 10 = .ok (.iconst 0, 1) := by decide +kernel
theorem dX5_countProps_11 : decode cX5_countProps 11 = .ok (.istore 4, 2) := by decide +kernel
theorem dX5_countProps_13 : decode cX5_countProps 13 = .ok (.iload 4, 2) := by decide +kernel
theorem dX5_countProps_15 : decode cX5_countProps 15 = .ok (.iload_n 3, 1) := by decide +kernel
theorem dX5_countProps_16 : decode cX5_countProps 16 = .ok (.if_icmp .ge 23, 3) := by decide +kernel
theorem dX5_countProps_19 : decode cX5_countProps 19 = .ok (.aload_n 2, 1) := by decide +kernel
theorem dX5_countProps_20 : decode cX5_countProps 20 = .ok (.iload 4, 2) := by decide +kernel
theorem dX5_countProps_22 : decode cX5_countProps 22 = .ok (.iaload, 1) := by decide +kernel
theorem dX5_countProps_23 : decode cX5_countProps 23 = .ok (.istore 5, 2) := by decide +kernel
theorem dX5_countProps_25 : decode cX5_countProps 25 = .ok (.iload 5, 2) := by decide +kernel
theorem dX5_countProps_27 : decode cX5_countProps 27 = .ok (.ifCond .le 6, 3) := by decide +kernel
theorem dX5_countProps_30 : decode cX5_countProps 30 = .ok (.iinc 1 1, 3) := by decide +kernel
theorem dX5_countProps_33 : decode cX5_countProps 33 = .ok (.iinc 4 1, 3) := by decide +kernel
theorem dX5_countProps_36 : decode cX5_countProps 36 = .ok (.goto (-23), 3) := by decide +kernel
theorem dX5_countProps_39 : decode cX5_countProps 39 = .ok (.iload_n 1, 1) := by decide +kernel
theorem dX5_countProps_40 : decode cX5_countProps 40 = .ok (.ireturn, 1) := by decide +kernel
theorem dJ6_bitCount_0f7a4_0 : decode cJ6_bitCount_0f7a4 0 = .ok (.iload_n 0, 1) := by decide +kernel
theorem dJ6_bitCount_0f7a4_1 : decode cJ6_bitCount_0f7a4 1 = .ok (.iload_n 0, 1) := by decide +kernel
theorem dJ6_bitCount_0f7a4_2 : decode cJ6_bitCount_0f7a4 2 = .ok (.iconst 1, 1) := by decide +kernel
theorem dJ6_bitCount_0f7a4_3 : decode cJ6_bitCount_0f7a4 3 = .ok (.iushr, 1) := by decide +kernel
theorem dJ6_bitCount_0f7a4_4 : decode cJ6_bitCount_0f7a4 4 = .ok (.ldc_w 265, 3) := by decide +kernel
theorem dJ6_bitCount_0f7a4_7 : decode cJ6_bitCount_0f7a4 7 = .ok (.iand, 1) := by decide +kernel
theorem dJ6_bitCount_0f7a4_8 : decode cJ6_bitCount_0f7a4 8 = .ok (.isub, 1) := by decide +kernel
theorem dJ6_bitCount_0f7a4_9 : decode cJ6_bitCount_0f7a4 9 = .ok (.istore_n 0, 1) := by decide +kernel
theorem dJ6_bitCount_0f7a4_10 : decode cJ6_bitCount_0f7a4 10 = .ok (.iload_n 0, 1) := by decide +kernel
theorem dJ6_bitCount_0f7a4_11 : decode cJ6_bitCount_0f7a4 11 = .ok (.ldc_w 266, 3) := by decide +kernel
theorem dJ6_bitCount_0f7a4_14 : decode cJ6_bitCount_0f7a4 14 = .ok (.iand, 1) := by decide +kernel
theorem dJ6_bitCount_0f7a4_15 : decode cJ6_bitCount_0f7a4 15 = .ok (.iload_n 0, 1) := by decide +kernel
theorem dJ6_bitCount_0f7a4_16 : decode cJ6_bitCount_0f7a4 16 = .ok (.iconst 2, 1) := by decide +kernel
theorem dJ6_bitCount_0f7a4_17 : decode cJ6_bitCount_0f7a4 17 = .ok (.iushr, 1) := by decide +kernel
theorem dJ6_bitCount_0f7a4_18 : decode cJ6_bitCount_0f7a4 18 = .ok (.ldc_w 266, 3) := by decide +kernel
theorem dJ6_bitCount_0f7a4_21 : decode cJ6_bitCount_0f7a4 21 = .ok (.iand, 1) := by decide +kernel
theorem dJ6_bitCount_0f7a4_22 : decode cJ6_bitCount_0f7a4 22 = .ok (.iadd, 1) := by decide +kernel
theorem dJ6_bitCount_0f7a4_23 : decode cJ6_bitCount_0f7a4 23 = .ok (.istore_n 0, 1) := by decide +kernel
theorem dJ6_bitCount_0f7a4_24 : decode cJ6_bitCount_0f7a4 24 = .ok (.iload_n 0, 1) := by decide +kernel
theorem dJ6_bitCount_0f7a4_25 : decode cJ6_bitCount_0f7a4 25 = .ok (.iload_n 0, 1) := by decide +kernel
theorem dJ6_bitCount_0f7a4_26 : decode cJ6_bitCount_0f7a4 26 = .ok (.iconst 4, 1) := by decide +kernel
theorem dJ6_bitCount_0f7a4_27 : decode cJ6_bitCount_0f7a4 27 = .ok (.iushr, 1) := by decide +kernel
theorem dJ6_bitCount_0f7a4_28 : decode cJ6_bitCount_0f7a4 28 = .ok (.iadd, 1) := by decide +kernel
theorem dJ6_bitCount_0f7a4_29 : decode cJ6_bitCount_0f7a4 29 = .ok (.ldc_w 267, 3) := by decide +kernel
theorem dJ6_bitCount_0f7a4_32 : decode cJ6_bitCount_0f7a4 32 = .ok (.iand, 1) := by decide +kernel
theorem dJ6_bitCount_0f7a4_33 : decode cJ6_bitCount_0f7a4 33 = .ok (.istore_n 0, 1) := by decide +kernel
theorem dJ6_bitCount_0f7a4_34 : decode cJ6_bitCount_0f7a4 34 = .ok (.iload_n 0, 1) := by decide +kernel
theorem dJ6_bitCount_0f7a4_35 : decode cJ6_bitCount_0f7a4 35 = .ok (.iload_n 0, 1) := by decide +kernel
theorem dJ6_bitCount_0f7a4_36 : decode cJ6_bitCount_0f7a4 36 = .ok (.bipush 8, 2) := by decide +kernel
theorem dJ6_bitCount_0f7a4_38 : decode cJ6_bitCount_0f7a4 38 = .ok (.iushr, 1) := by decide +kernel
theorem dJ6_bitCount_0f7a4_39 : decode cJ6_bitCount_0f7a4 39 = .ok (.iadd, 1) := by decide +kernel
theorem dJ6_bitCount_0f7a4_40 : decode cJ6_bitCount_0f7a4 40 = .ok (.istore_n 0, 1) := by decide +kernel
theorem dJ6_bitCount_0f7a4_41 : decode cJ6_bitCount_0f7a4 41 = .ok (.iload_n 0, 1) := by decide +kernel
theorem dJ6_bitCount_0f7a4_42 : decode cJ6_bitCount_0f7a4 42 = .ok (.iload_n 0, 1) := by decide +kernel
theorem dJ6_bitCount_0f7a4_43 : decode cJ6_bitCount_0f7a4 43 = .ok (.bipush 16, 2) := by decide +kernel
theorem dJ6_bitCount_0f7a4_45 : decode cJ6_bitCount_0f7a4 45 = .ok (.iushr, 1) := by decide +kernel
theorem dJ6_bitCount_0f7a4_46 : decode cJ6_bitCount_0f7a4 46 = .ok (.iadd, 1) := by decide +kernel
theorem dJ6_bitCount_0f7a4_47 : decode cJ6_bitCount_0f7a4 47 = .ok (.istore_n 0, 1) := by decide +kernel
theorem dJ6_bitCount_0f7a4_48 : decode cJ6_bitCount_0f7a4 48 = .ok (.iload_n 0, 1) := by decide +kernel
theorem dJ6_bitCount_0f7a4_49 : decode cJ6_bitCount_0f7a4 49 = .ok (.bipush 63, 2) := by decide +kernel
theorem dJ6_bitCount_0f7a4_51 : decode cJ6_bitCount_0f7a4 51 = .ok (.iand, 1) := by decide +kernel
theorem dJ6_bitCount_0f7a4_52 : decode cJ6_bitCount_0f7a4 52 = .ok (.ireturn, 1) := by decide +kernel
theorem dJ9_max_7cf53_0 : decode cJ9_max_7cf53 0 = .ok (.iload_n 0, 1) := by decide +kernel
theorem dJ9_max_7cf53_1 : decode cJ9_max_7cf53 1 = .ok (.iload_n 1, 1) := by decide +kernel
theorem dJ9_max_7cf53_2 : decode cJ9_max_7cf53 2 = .ok (.if_icmp .lt 7, 3) := by decide +kernel
theorem dJ9_max_7cf53_5 : decode cJ9_max_7cf53 5 = .ok (.iload_n 0, 1) := by decide +kernel
theorem dJ9_max_7cf53_6 : decode cJ9_max_7cf53 6 = .ok (.goto 4, 3) := by decide +kernel
theorem dJ9_max_7cf53_9 : decode cJ9_max_7cf53 9 = .ok (.iload_n 1, 1) := by decide +kernel
theorem dJ9_max_7cf53_10 : decode cJ9_max_7cf53 10 = .ok (.ireturn, 1) := by decide +kernel
theorem dJ9_min_7cf53_0 : decode cJ9_min_7cf53 0 = .ok (.iload_n 0, 1) := by decide +kernel
theorem dJ9_min_7cf53_1 : decode cJ9_min_7cf53 1 = .ok (.iload_n 1, 1) := by decide +kernel
theorem dJ9_min_7cf53_2 : decode cJ9_min_7cf53 2 = .ok (.if_icmp .gt 7, 3) := by decide +kernel
theorem dJ9_min_7cf53_5 : decode cJ9_min_7cf53 5 = .ok (.iload_n 0, 1) := by decide +kernel
theorem dJ9_min_7cf53_6 : decode cJ9_min_7cf53 6 = .ok (.goto 4, 3) := by decide +kernel
theorem dJ9_min_7cf53_9 : decode cJ9_min_7cf53 9 = .ok (.iload_n 1, 1) := by decide +kernel
theorem dJ9_min_7cf53_10 : decode cJ9_min_7cf53 10 = .ok (.ireturn, 1) := by decide +kernel
theorem dJ0_length_8abf5_0 : decode cJ0_length_8abf5 0 = .ok (.aload_n 0, 1) := by decide +kernel
theorem dJ0_length_8abf5_1 : decode cJ0_length_8abf5 1 = .ok (.getfield 9, 3) := by decide +kernel
theorem dJ0_length_8abf5_4 : decode cJ0_length_8abf5 4 = .ok (.arraylength, 1) := by decide +kernel
theorem dJ0_length_8abf5_5 : decode cJ0_length_8abf5 5 = .ok (.aload_n 0, 1) := by decide +kernel
theorem dJ0_length_8abf5_6 : decode cJ0_length_8abf5 6 = .ok (.invokevirtual 335, 3) := by decide +kernel
theorem dJ0_length_8abf5_9 : decode cJ0_length_8abf5 9 = .ok (.ishr, 1) := by decide +kernel
theorem dJ0_length_8abf5_10 : decode cJ0_length_8abf5 10 = .ok (.ireturn, 1) := by decide +kernel
theorem dJ0_charAt_5068e_0 : decode cJ0_charAt_5068e 0 = .ok (.aload_n 0, 1) := by decide +kernel
theorem dJ0_charAt_5068e_1 : decode cJ0_charAt_5068e 1 = .ok (.invokevirtual 492, 3) := by decide +kernel
theorem dJ0_charAt_5068e_4 : decode cJ0_charAt_5068e 4 = .ok (.ifCond .eq 12, 3) := by decide +kernel
theorem dJ0_charAt_5068e_7 : decode cJ0_charAt_5068e 7 = .ok (.aload_n 0, 1) := by decide +kernel
theorem dJ0_charAt_5068e_8 : decode cJ0_charAt_5068e 8 = .ok (.getfield 9, 3) := by decide +kernel
theorem dJ0_charAt_5068e_11 : decode cJ0_charAt_5068e 11 = .ok (.iload_n 1, 1) := by decide +kernel
theorem dJ0_charAt_5068e_12 : decode cJ0_charAt_5068e 12 = .ok (.invokestatic 495, 3) := by decide +kernel
theorem dJ0_charAt_5068e_15 : decode cJ0_charAt_5068e 15 = .ok (.ireturn, 1) := by decide +kernel
theorem dJ0_charAt_5068e_16 : decode cJ0_charAt_5068e 16 = .ok (.aload_n 0, 1) := by decide +kernel
theorem dJ0_charAt_5068e_17 : decode cJ0_charAt_5068e 17 = .ok (.getfield 9, 3) := by decide +kernel
theorem dJ0_charAt_5068e_20 : decode cJ0_charAt_5068e 20 = .ok (.iload_n 1, 1) := by decide +kernel
theorem dJ0_charAt_5068e_21 : decode cJ0_charAt_5068e 21 = .ok (.invokestatic 498, 3) := by decide +kernel
theorem dJ0_charAt_5068e_24 : decode cJ0_charAt_5068e 24 = .ok (.ireturn, 1) := by decide +kernel
theorem dJ0_coder_7d493_0 : decode cJ0_coder_7d493 0 = .ok (.getstatic 38, 3) := by decide +kernel
theorem dJ0_coder_7d493_3 : decode cJ0_coder_7d493 3 = .ok (.ifCond .eq 10, 3) := by decide +kernel
theorem dJ0_coder_7d493_6 : decode cJ0_coder_7d493 6 = .ok (.aload_n 0, 1) := by decide +kernel
theorem dJ0_coder_7d493_7 : decode cJ0_coder_7d493 7 = .ok (.getfield 15, 3) := by decide +kernel
theorem dJ0_coder_7d493_10 : decode cJ0_coder_7d493 10 = .ok (.goto 4, 3) := by decide +kernel
theorem dJ0_coder_7d493_13 : decode cJ0_coder_7d493 13 = .ok (.iconst 1, 1) := by decide +kernel
theorem dJ0_coder_7d493_14 : decode cJ0_coder_7d493 14 = .ok (.ireturn, 1) := by decide +kernel
theorem dJ0_isLatin1_aae02_0 : decode cJ0_isLatin1_aae02 0 = .ok (.getstatic 38, 3) := by decide +kernel
theorem dJ0_isLatin1_aae02_3 : decode cJ0_isLatin1_aae02 3 = .ok (.ifCond .eq 14, 3) := by decide +kernel
theorem dJ0_isLatin1_aae02_6 : decode cJ0_isLatin1_aae02 6 = .ok (.aload_n 0, 1) := by decide +kernel
theorem dJ0_isLatin1_aae02_7 : decode cJ0_isLatin1_aae02 7 = .ok (.getfield 15, 3) := by decide +kernel
theorem dJ0_isLatin1_aae02_10 : decode cJ0_isLatin1_aae02 10 = .ok (.ifCond .ne 7, 3) := by decide +kernel
theorem dJ0_isLatin1_aae02_13 : decode cJ0_isLatin1_aae02 13 = .ok (.iconst 1, 1) := by decide +kernel
theorem dJ0_isLatin1_aae02_14 : decode cJ0_isLatin1_aae02 14 = .ok (.goto 4, 3) := by decide +kernel
theorem dJ0_isLatin1_aae02_17 : decode cJ0_isLatin1_aae02 17 = .ok (.iconst 0, 1) := by decide +kernel
theorem dJ0_isLatin1_aae02_18 : decode cJ0_isLatin1_aae02 18 = .ok (.ireturn, 1) := by decide +kernel
theorem dJ0_checkIndex_df160_0 : decode cJ0_checkIndex_df160 0 = .ok (.iload_n 0, 1) := by decide +kernel
theorem dJ0_checkIndex_df160_1 : decode cJ0_checkIndex_df160 1 = .ok (.iload_n 1, 1) := by decide +kernel
theorem dJ0_checkIndex_df160_2 : decode cJ0_checkIndex_df160 2 = .ok (.getstatic 1053, 3) := by decide +kernel
theorem dJ0_checkIndex_df160_5 : decode cJ0_checkIndex_df160 5 = .ok (.invokestatic 1059, 3) := by decide +kernel
theorem dJ0_checkIndex_df160_8 : decode cJ0_checkIndex_df160 8 = .ok (.pop, 1) := by decide +kernel
theorem dJ0_checkIndex_df160_9 : decode cJ0_checkIndex_df160 9 = .ok (.return_, 1) := by decide +kernel
theorem dJ1_charAt_3b067_0 : decode cJ1_charAt_3b067 0 = .ok (.iload_n 1, 1) := by decide +kernel
theorem dJ1_charAt_3b067_1 : decode cJ1_charAt_3b067 1 = .ok (.aload_n 0, 1) := by decide +kernel
theorem dJ1_charAt_3b067_2 : decode cJ1_charAt_3b067 2 = .ok (.arraylength, 1) := by decide +kernel
theorem dJ1_charAt_3b067_3 : decode cJ1_charAt_3b067 3 = .ok (.invokestatic 9, 3) := by decide +kernel
theorem dJ1_charAt_3b067_6 : decode cJ1_charAt_3b067 6 = .ok (.aload_n 0, 1) := by decide +kernel
theorem dJ1_charAt_3b067_7 : decode cJ1_charAt_3b067 7 = .ok (.iload_n 1, 1) := by decide +kernel
theorem dJ1_charAt_3b067_8 : decode cJ1_charAt_3b067 8 = .ok (.baload, 1) := by decide +kernel
theorem dJ1_charAt_3b067_9 : decode cJ1_charAt_3b067 9 = .ok (.sipush 255, 3) := by decide +kernel
theorem dJ1_charAt_3b067_12 : decode cJ1_charAt_3b067 12 = .ok (.iand, 1) := by decide +kernel
theorem dJ1_charAt_3b067_13 : decode cJ1_charAt_3b067 13 = .ok (.i2c, 1) := by decide +kernel
theorem dJ1_charAt_3b067_14 : decode cJ1_charAt_3b067 14 = .ok (.ireturn, 1) := by decide +kernel
theorem dJ2_getChar_3b067_0 : decode cJ2_getChar_3b067 0 = .ok (.getstatic 44, 3) := by decide +kernel
theorem dJ2_getChar_3b067_3 : decode cJ2_getChar_3b067 3 = .ok (.ifCond .ne 25, 3) := by decide +kernel
theorem dJ2_getChar_3b067_6 : decode cJ2_getChar_3b067 6 = .ok (.iload_n 1, 1) := by decide +kernel
theorem dJ2_getChar_3b067_7 : decode cJ2_getChar_3b067 7 = .ok (.ifCond .lt 11, 3) := by decide +kernel
theorem dJ2_getChar_3b067_10 : decode cJ2_getChar_3b067 10 = .ok (.iload_n 1, 1) := by decide +kernel
theorem dJ2_getChar_3b067_11 : decode cJ2_getChar_3b067 11 = .ok (.aload_n 0, 1) := by decide +kernel
theorem dJ2_getChar_3b067_12 : decode cJ2_getChar_3b067 12 = .ok (.invokestatic 48, 3) := by decide +kernel
theorem dJ2_getChar_3b067_15 : decode cJ2_getChar_3b067 15 = .ok (.if_icmp .lt 13, 3) := by decide +kernel
theorem dJ2_getChar_3b067_18 : decode cJ2_getChar_3b067 18 = .ok (.new 52, 3) := by decide +kernel
theorem dJ2_getChar_3b067_21 : decode cJ2_getChar_3b067 21 = .ok (.dup, 1) := by decide +kernel
theorem dJ2_getChar_3b067_22 : decode cJ2_getChar_3b067 22 = .ok (.ldc 54, 2) := by decide +kernel
theorem dJ2_getChar_3b067_24 : decode cJ2_getChar_3b067 24 = .ok (.invokespecial 56, 3) := by decide +kernel
theorem dJ2_getChar_3b067_27 : decode cJ2_getChar_3b067 27 = .ok (.athrow, 1) := by decide +kernel
theorem dJ2_getChar_3b067_28 : decode cJ2_getChar_3b067 28 = .ok (.iload_n 1, 1) := by decide +kernel
theorem dJ2_getChar_3b067_29 : decode cJ2_getChar_3b067 29 = .ok (.iconst 1, 1) := by decide +kernel
theorem dJ2_getChar_3b067_30 : decode cJ2_getChar_3b067 30 = .ok (.ishl, 1) := by decide +kernel
theorem dJ2_getChar_3b067_31 : decode cJ2_getChar_3b067 31 = .ok (.istore_n 1, 1) := by decide +kernel
theorem dJ2_getChar_3b067_32 : decode cJ2_getChar_3b067 32 = .ok (.aload_n 0, 1) := by decide +kernel
theorem dJ2_getChar_3b067_33 : decode cJ2_getChar_3b067 33 = .ok (.iload_n 1, 1) := by decide +kernel
theorem dJ2_getChar_3b067_34 : decode cJ2_getChar_3b067 34 = .ok (.iinc 1 1, 3) := by decide +kernel
theorem dJ2_getChar_3b067_37 : decode cJ2_getChar_3b067 37 = .ok (.baload, 1) := by decide +kernel
theorem dJ2_getChar_3b067_38 : decode cJ2_getChar_3b067 38 = .ok (.sipush 255, 3) := by decide +kernel
theorem dJ2_getChar_3b067_41 : decode cJ2_getChar_3b067 41 = .ok (.iand, 1) := by decide +kernel
theorem dJ2_getChar_3b067_42 : decode cJ2_getChar_3b067 42 = .ok (.getstatic 59, 3) := by decide +kernel
theorem dJ2_getChar_3b067_45 : decode cJ2_getChar_3b067 45 = .ok (.ishl, 1) := by decide +kernel
theorem dJ2_getChar_3b067_46 : decode cJ2_getChar_3b067 46 = .ok (.aload_n 0, 1) := by decide +kernel
theorem dJ2_getChar_3b067_47 : decode cJ2_getChar_3b067 47 = .ok (.iload_n 1, 1) := by decide +kernel
theorem dJ2_getChar_3b067_48 : decode cJ2_getChar_3b067 48 = .ok (.baload, 1) := by decide +kernel
theorem dJ2_getChar_3b067_49 : decode cJ2_getChar_3b067 49 = .ok (.sipush 255, 3) := by decide +kernel
theorem dJ2_getChar_3b067_52 : decode cJ2_getChar_3b067 52 = .ok (.iand, 1) := by decide +kernel
theorem dJ2_getChar_3b067_53 : decode cJ2_getChar_3b067 53 = .ok (.getstatic 63, 3) := by decide +kernel
theorem dJ2_getChar_3b067_56 : decode cJ2_getChar_3b067 56 = .ok (.ishl, 1) := by decide +kernel
theorem dJ2_getChar_3b067_57 : decode cJ2_getChar_3b067 57 = .ok (.ior, 1) := by decide +kernel
theorem dJ2_getChar_3b067_58 : decode cJ2_getChar_3b067 58 = .ok (.i2c, 1) := by decide +kernel
theorem dJ2_getChar_3b067_59 : decode cJ2_getChar_3b067 59 = .ok (.ireturn, 1) := by decide +kernel
theorem dJ2_length_9d52b_0 : decode cJ2_length_9d52b 0 = .ok (.aload_n 0, 1) := by decide +kernel
theorem dJ2_length_9d52b_1 : decode cJ2_length_9d52b 1 = .ok (.arraylength, 1) := by decide +kernel
theorem dJ2_length_9d52b_2 : decode cJ2_length_9d52b 2 = .ok (.iconst 1, 1) := by decide +kernel
theorem dJ2_length_9d52b_3 : decode cJ2_length_9d52b 3 = .ok (.ishr, 1) := by decide +kernel
theorem dJ2_length_9d52b_4 : decode cJ2_length_9d52b 4 = .ok (.ireturn, 1) := by decide +kernel
theorem dJ2_charAt_3b067_0 : decode cJ2_charAt_3b067 0 = .ok (.iload_n 1, 1) := by decide +kernel
theorem dJ2_charAt_3b067_1 : decode cJ2_charAt_3b067 1 = .ok (.aload_n 0, 1) := by decide +kernel
theorem dJ2_charAt_3b067_2 : decode cJ2_charAt_3b067 2 = .ok (.invokestatic 67, 3) := by decide +kernel
theorem dJ2_charAt_3b067_5 : decode cJ2_charAt_3b067 5 = .ok (.aload_n 0, 1) := by decide +kernel
theorem dJ2_charAt_3b067_6 : decode cJ2_charAt_3b067 6 = .ok (.iload_n 1, 1) := by decide +kernel
theorem dJ2_charAt_3b067_7 : decode cJ2_charAt_3b067 7 = .ok (.invokestatic 71, 3) := by decide +kernel
theorem dJ2_charAt_3b067_10 : decode cJ2_charAt_3b067 10 = .ok (.ireturn, 1) := by decide +kernel
theorem dJ2_checkIndex_2214a_0 : decode cJ2_checkIndex_2214a 0 = .ok (.iload_n 0, 1) := by decide +kernel
theorem dJ2_checkIndex_2214a_1 : decode cJ2_checkIndex_2214a 1 = .ok (.aload_n 1, 1) := by decide +kernel
theorem dJ2_checkIndex_2214a_2 : decode cJ2_checkIndex_2214a 2 = .ok (.invokestatic 48, 3) := by decide +kernel
theorem dJ2_checkIndex_2214a_5 : decode cJ2_checkIndex_2214a 5 = .ok (.invokestatic 414, 3) := by decide +kernel
theorem dJ2_checkIndex_2214a_8 : decode cJ2_checkIndex_2214a 8 = .ok (.return_, 1) := by decide +kernel
theorem dJ7_fill_d0a16_0 : decode cJ7_fill_d0a16 0 = .ok (.iconst 0, 1) := by decide +kernel
theorem dJ7_fill_d0a16_1 : decode cJ7_fill_d0a16 1 = .ok (.istore_n 3, 1) := by decide +kernel
theorem dJ7_fill_d0a16_2 : decode cJ7_fill_d0a16 2 = .ok (.aload_n 0, 1) := by decide +kernel
theorem dJ7_fill_d0a16_3 : decode cJ7_fill_d0a16 3 = .ok (.arraylength, 1) := by decide +kernel
theorem dJ7_fill_d0a16_4 : decode cJ7_fill_d0a16 4 = .ok (.istore 4, 2) := by decide +kernel
theorem dJ7_fill_d0a16_6 : decode cJ7_fill_d0a16 6 = .ok (.iload_n 3, 1) := by decide +kernel
theorem dJ7_fill_d0a16_7 : decode cJ7_fill_d0a16 7 = .ok (.iload 4, 2) := by decide +kernel
theorem dJ7_fill_d0a16_9 : decode cJ7_fill_d0a16 9 = .ok (.if_icmp .ge 13, 3) := by decide +kernel
theorem dJ7_fill_d0a16_12 : decode cJ7_fill_d0a16 12 = .ok (.aload_n 0, 1) := by decide +kernel
theorem dJ7_fill_d0a16_13 : decode cJ7_fill_d0a16 13 = .ok (.iload_n 3, 1) := by decide +kernel
theorem dJ7_fill_d0a16_14 : decode cJ7_fill_d0a16 14 = .ok (.lload_n 1, 1) := by decide +kernel
theorem dJ7_fill_d0a16_15 : decode cJ7_fill_d0a16 15 = .ok (.lastore, 1) := by decide +kernel
theorem dJ7_fill_d0a16_16 : decode cJ7_fill_d0a16 16 = .ok (.iinc 3 1, 3) := by decide +kernel
theorem dJ7_fill_d0a16_19 : decode cJ7_fill_d0a16 19 = .ok (.goto (-13), 3) := by decide +kernel
theorem dJ7_fill_d0a16_22 : decode cJ7_fill_d0a16 22 = .ok (.return_, 1) := by decide +kernel
theorem dJ7_fill_53178_0 : decode cJ7_fill_53178 0 = .ok (.iconst 0, 1) := by decide +kernel
theorem dJ7_fill_53178_1 : decode cJ7_fill_53178 1 = .ok (.istore_n 2, 1) := by decide +kernel
theorem dJ7_fill_53178_2 : decode cJ7_fill_53178 2 = .ok (.aload_n 0, 1) := by decide +kernel
theorem dJ7_fill_53178_3 : decode cJ7_fill_53178 3 = .ok (.arraylength, 1) := by decide +kernel
theorem dJ7_fill_53178_4 : decode cJ7_fill_53178 4 = .ok (.istore_n 3, 1) := by decide +kernel
theorem dJ7_fill_53178_5 : decode cJ7_fill_53178 5 = .ok (.iload_n 2, 1) := by decide +kernel
theorem dJ7_fill_53178_6 : decode cJ7_fill_53178 6 = .ok (.iload_n 3, 1) := by decide +kernel
theorem dJ7_fill_53178_7 : decode cJ7_fill_53178 7 = .ok (.if_icmp .ge 13, 3) := by decide +kernel
theorem dJ7_fill_53178_10 : decode cJ7_fill_53178 10 = .ok (.aload_n 0, 1) := by decide +kernel
theorem dJ7_fill_53178_11 : decode cJ7_fill_53178 11 = .ok (.iload_n 2, 1) := by decide +kernel
theorem dJ7_fill_53178_12 : decode cJ7_fill_53178 12 = .ok (.iload_n 1, 1) := by decide +kernel
theorem dJ7_fill_53178_13 : decode cJ7_fill_53178 13 = .ok (.iastore, 1) := by decide +kernel
theorem dJ7_fill_53178_14 : decode cJ7_fill_53178 14 = .ok (.iinc 2 1, 3) := by decide +kernel
theorem dJ7_fill_53178_17 : decode cJ7_fill_53178 17 = .ok (.goto (-12), 3) := by decide +kernel
theorem dJ7_fill_53178_20 : decode cJ7_fill_53178 20 = .ok (.return_, 1) := by decide +kernel
theorem dJ3_checkIndex_8e157_0 : decode cJ3_checkIndex_8e157 0 = .ok (.iload_n 0, 1) := by decide +kernel
theorem dJ3_checkIndex_8e157_1 : decode cJ3_checkIndex_8e157 1 = .ok (.ifCond .lt 8, 3) := by decide +kernel
theorem dJ3_checkIndex_8e157_4 : decode cJ3_checkIndex_8e157 4 = .ok (.iload_n 0, 1) := by decide +kernel
theorem dJ3_checkIndex_8e157_5 : decode cJ3_checkIndex_8e157 5 = .ok (.iload_n 1, 1) := by decide +kernel
theorem dJ3_checkIndex_8e157_6 : decode cJ3_checkIndex_8e157 6 = .ok (.if_icmp .lt 10, 3) := by decide +kernel
theorem dJ3_checkIndex_8e157_9 : decode cJ3_checkIndex_8e157 9 = .ok (.aload_n 2, 1) := by decide +kernel
theorem dJ3_checkIndex_8e157_10 : decode cJ3_checkIndex_8e157 10 = .ok (.iload_n 0, 1) := by decide +kernel
theorem dJ3_checkIndex_8e157_11 : decode cJ3_checkIndex_8e157 11 = .ok (.iload_n 1, 1) := by decide +kernel
theorem dJ3_checkIndex_8e157_12 : decode cJ3_checkIndex_8e157 12 = .ok (.invokestatic 95, 3) := by decide +kernel
theorem dJ3_checkIndex_8e157_15 : decode cJ3_checkIndex_8e157 15 = .ok (.athrow, 1) := by decide +kernel
theorem dJ3_checkIndex_8e157_16 : decode cJ3_checkIndex_8e157 16 = .ok (.iload_n 0, 1) := by decide +kernel
theorem dJ3_checkIndex_8e157_17 : decode cJ3_checkIndex_8e157 17 = .ok (.ireturn, 1) := by decide +kernel
end
section
/-! CALLS BY ARITY AND ANSWER; numbers as nI -/
section JR7
variable {G : jG} {own : String} {cc : ByteArray} {nL : Nat} {ini : Bool} {d : Nat} {Q : Option Value → jH → Prop} {ac sc : Nat} {pc : Nat} {lo : List (Option Value)} {st : List Value} {h h' : jH} {x : Value}
variable {y : MethodName} {cc' : ByteArray} {nL' d' mc ms idx : Nat} {ret' : Option FieldType}
theorem j_cV0r {a ci : Nat} (hd : decode cc pc = .ok (.invokevirtual idx, 3)) (hM' : MT G y cc' nL' ret' d' mc ms (.ref a :: []) h (some x) h') (hl : Cond.methodLink own idx y ∈ jTs) (hy : jMY y cc' nL' ret' 0) (hi : Cond.instanceMethod y ∈ jTs ∧ Cond.selects y.cls y y ∈ jTs) (ho : jO h.1 h.2.1 a ci) (hc0 : vwCl[ci]?.map (fun q => q.1) = some y.cls) (hdd : d' + 1 ≤ d) (hm : nL' ≤ 45) (hst : (st.map fun v => v.category).sum ≤ 8) (k : J G own cc nL ini d Q ac sc h' (pc + 3) lo (x :: st)) : J G own cc nL ini d Q (ac + mc) (sc + ms) h pc lo (.ref a :: st) := j_callV0 hd hM' hl hy hi ho hc0 hdd hm hst k
theorem j_cV0v {a ci : Nat} (hd : decode cc pc = .ok (.invokevirtual idx, 3)) (hM' : MT G y cc' nL' ret' d' mc ms (.ref a :: []) h none h') (hl : Cond.methodLink own idx y ∈ jTs) (hy : jMY y cc' nL' ret' 0) (hi : Cond.instanceMethod y ∈ jTs ∧ Cond.selects y.cls y y ∈ jTs) (ho : jO h.1 h.2.1 a ci) (hc0 : vwCl[ci]?.map (fun q => q.1) = some y.cls) (hdd : d' + 1 ≤ d) (hm : nL' ≤ 45) (hst : (st.map fun v => v.category).sum ≤ 8) (k : J G own cc nL ini d Q ac sc h' (pc + 3) lo st) : J G own cc nL ini d Q (ac + mc) (sc + ms) h pc lo (.ref a :: st) := j_callV0 hd hM' hl hy hi ho hc0 hdd hm hst k
theorem j_cI0v {a : Nat} (hd : decode cc pc = .ok (.invokespecial idx, 3)) (hM' : MT G y cc' nL' none d' mc ms (.ref a :: []) h none h') (hl : Cond.methodLink own idx y ∈ jTs) (hy : jMY y cc' nL' none 0) (hi : Cond.instanceMethod y ∈ jTs) (hyn : y.name = "<init>") (hdd : d' + 1 ≤ d) (hm : nL' ≤ 45) (hst : (st.map fun v => v.category).sum ≤ 8) (k : J G own cc nL ini d Q ac sc h' (pc + 3) lo st) : J G own cc nL ini d Q (ac + mc) (sc + ms) h pc lo (.ref a :: st) := j_callI0 hd hM' hl hy hi hyn hdd hm hst k
theorem j_cIN0v {a : Nat} (hd : decode cc pc = .ok (.invokespecial idx, 3)) (hM' : MT G y cc' nL' none d' mc ms (.ref a :: []) h none h') {host : String} (hl : ∀ s : State, jS G s → va_Nw (.methodLinkNest own idx y host) s) (hy : jMY y cc' nL' none 0) (hi : Cond.instanceMethod y ∈ jTs) (hyn : y.name = "<init>") (hdd : d' + 1 ≤ d) (hm : nL' ≤ 45) (hst : (st.map fun v => v.category).sum ≤ 8) (k : J G own cc nL ini d Q ac sc h' (pc + 3) lo st) : J G own cc nL ini d Q (ac + mc) (sc + ms) h pc lo (.ref a :: st) := j_callIN0 hd hM' hl hy hi hyn hdd hm hst k
theorem j_cV1r {a ci : Nat} {x1 : Value} (hd : decode cc pc = .ok (.invokevirtual idx, 3)) (hM' : MT G y cc' nL' ret' d' mc ms (.ref a :: [x1]) h (some x) h') (hl : Cond.methodLink own idx y ∈ jTs) (hy : jMY y cc' nL' ret' 1) (hi : Cond.instanceMethod y ∈ jTs ∧ Cond.selects y.cls y y ∈ jTs) (ho : jO h.1 h.2.1 a ci) (hc0 : vwCl[ci]?.map (fun q => q.1) = some y.cls) (hdd : d' + 1 ≤ d) (hm : nL' ≤ 45) (hst : (st.map fun v => v.category).sum ≤ 8) (k : J G own cc nL ini d Q ac sc h' (pc + 3) lo (x :: st)) : J G own cc nL ini d Q (ac + mc) (sc + ms) h pc lo (x1 :: .ref a :: st) := j_callV1 hd hM' hl hy hi ho hc0 hdd hm hst k
theorem j_cS1r {x1 : Value} (hd : decode cc pc = .ok (.invokestatic idx, 3)) (hM' : MT G y cc' nL' ret' d' mc ms [x1] h (some x) h') (hl : Cond.methodLink own idx y ∈ jTs) (hy : jMY y cc' nL' ret' 1) (hi : Cond.static y ∈ jTs) (hdd : d' + 1 ≤ d) (hm : nL' ≤ 45) (hst : (st.map fun v => v.category).sum ≤ 8) (k : J G own cc nL ini d Q ac sc h' (pc + 3) lo (x :: st)) : J G own cc nL ini d Q (ac + mc) (sc + ms) h pc lo (x1 :: st) := j_callS1 hd hM' hl hy hi hdd hm hst k
theorem j_cV1v {a ci : Nat} {x1 : Value} (hd : decode cc pc = .ok (.invokevirtual idx, 3)) (hM' : MT G y cc' nL' ret' d' mc ms (.ref a :: [x1]) h none h') (hl : Cond.methodLink own idx y ∈ jTs) (hy : jMY y cc' nL' ret' 1) (hi : Cond.instanceMethod y ∈ jTs ∧ Cond.selects y.cls y y ∈ jTs) (ho : jO h.1 h.2.1 a ci) (hc0 : vwCl[ci]?.map (fun q => q.1) = some y.cls) (hdd : d' + 1 ≤ d) (hm : nL' ≤ 45) (hst : (st.map fun v => v.category).sum ≤ 8) (k : J G own cc nL ini d Q ac sc h' (pc + 3) lo st) : J G own cc nL ini d Q (ac + mc) (sc + ms) h pc lo (x1 :: .ref a :: st) := j_callV1 hd hM' hl hy hi ho hc0 hdd hm hst k
theorem j_cS1v {x1 : Value} (hd : decode cc pc = .ok (.invokestatic idx, 3)) (hM' : MT G y cc' nL' ret' d' mc ms [x1] h none h') (hl : Cond.methodLink own idx y ∈ jTs) (hy : jMY y cc' nL' ret' 1) (hi : Cond.static y ∈ jTs) (hdd : d' + 1 ≤ d) (hm : nL' ≤ 45) (hst : (st.map fun v => v.category).sum ≤ 8) (k : J G own cc nL ini d Q ac sc h' (pc + 3) lo st) : J G own cc nL ini d Q (ac + mc) (sc + ms) h pc lo (x1 :: st) := j_callS1 hd hM' hl hy hi hdd hm hst k
theorem j_cI1v {a : Nat} {x1 : Value} (hd : decode cc pc = .ok (.invokespecial idx, 3)) (hM' : MT G y cc' nL' none d' mc ms (.ref a :: [x1]) h none h') (hl : Cond.methodLink own idx y ∈ jTs) (hy : jMY y cc' nL' none 1) (hi : Cond.instanceMethod y ∈ jTs) (hyn : y.name = "<init>") (hdd : d' + 1 ≤ d) (hm : nL' ≤ 45) (hst : (st.map fun v => v.category).sum ≤ 8) (k : J G own cc nL ini d Q ac sc h' (pc + 3) lo st) : J G own cc nL ini d Q (ac + mc) (sc + ms) h pc lo (x1 :: .ref a :: st) := j_callI1 hd hM' hl hy hi hyn hdd hm hst k
theorem j_cIN1v {a : Nat} {x1 : Value} (hd : decode cc pc = .ok (.invokespecial idx, 3)) (hM' : MT G y cc' nL' none d' mc ms (.ref a :: [x1]) h none h') {host : String} (hl : ∀ s : State, jS G s → va_Nw (.methodLinkNest own idx y host) s) (hy : jMY y cc' nL' none 1) (hi : Cond.instanceMethod y ∈ jTs) (hyn : y.name = "<init>") (hdd : d' + 1 ≤ d) (hm : nL' ≤ 45) (hst : (st.map fun v => v.category).sum ≤ 8) (k : J G own cc nL ini d Q ac sc h' (pc + 3) lo st) : J G own cc nL ini d Q (ac + mc) (sc + ms) h pc lo (x1 :: .ref a :: st) := j_callIN1 hd hM' hl hy hi hyn hdd hm hst k
theorem j_cV2r {a ci : Nat} {x1 x2 : Value} (hd : decode cc pc = .ok (.invokevirtual idx, 3)) (hM' : MT G y cc' nL' ret' d' mc ms (.ref a :: [x1, x2]) h (some x) h') (hl : Cond.methodLink own idx y ∈ jTs) (hy : jMY y cc' nL' ret' 2) (hi : Cond.instanceMethod y ∈ jTs ∧ Cond.selects y.cls y y ∈ jTs) (ho : jO h.1 h.2.1 a ci) (hc0 : vwCl[ci]?.map (fun q => q.1) = some y.cls) (hdd : d' + 1 ≤ d) (hm : nL' ≤ 45) (hst : (st.map fun v => v.category).sum ≤ 8) (k : J G own cc nL ini d Q ac sc h' (pc + 3) lo (x :: st)) : J G own cc nL ini d Q (ac + mc) (sc + ms) h pc lo (x2 :: x1 :: .ref a :: st) := j_callV2 hd hM' hl hy hi ho hc0 hdd hm hst k
theorem j_cS2r {x1 x2 : Value} (hd : decode cc pc = .ok (.invokestatic idx, 3)) (hM' : MT G y cc' nL' ret' d' mc ms [x1, x2] h (some x) h') (hl : Cond.methodLink own idx y ∈ jTs) (hy : jMY y cc' nL' ret' 2) (hi : Cond.static y ∈ jTs) (hdd : d' + 1 ≤ d) (hm : nL' ≤ 45) (hst : (st.map fun v => v.category).sum ≤ 8) (k : J G own cc nL ini d Q ac sc h' (pc + 3) lo (x :: st)) : J G own cc nL ini d Q (ac + mc) (sc + ms) h pc lo (x2 :: x1 :: st) := j_callS2 hd hM' hl hy hi hdd hm hst k
theorem j_cV2v {a ci : Nat} {x1 x2 : Value} (hd : decode cc pc = .ok (.invokevirtual idx, 3)) (hM' : MT G y cc' nL' ret' d' mc ms (.ref a :: [x1, x2]) h none h') (hl : Cond.methodLink own idx y ∈ jTs) (hy : jMY y cc' nL' ret' 2) (hi : Cond.instanceMethod y ∈ jTs ∧ Cond.selects y.cls y y ∈ jTs) (ho : jO h.1 h.2.1 a ci) (hc0 : vwCl[ci]?.map (fun q => q.1) = some y.cls) (hdd : d' + 1 ≤ d) (hm : nL' ≤ 45) (hst : (st.map fun v => v.category).sum ≤ 8) (k : J G own cc nL ini d Q ac sc h' (pc + 3) lo st) : J G own cc nL ini d Q (ac + mc) (sc + ms) h pc lo (x2 :: x1 :: .ref a :: st) := j_callV2 hd hM' hl hy hi ho hc0 hdd hm hst k
theorem j_cS2v {x1 x2 : Value} (hd : decode cc pc = .ok (.invokestatic idx, 3)) (hM' : MT G y cc' nL' ret' d' mc ms [x1, x2] h none h') (hl : Cond.methodLink own idx y ∈ jTs) (hy : jMY y cc' nL' ret' 2) (hi : Cond.static y ∈ jTs) (hdd : d' + 1 ≤ d) (hm : nL' ≤ 45) (hst : (st.map fun v => v.category).sum ≤ 8) (k : J G own cc nL ini d Q ac sc h' (pc + 3) lo st) : J G own cc nL ini d Q (ac + mc) (sc + ms) h pc lo (x2 :: x1 :: st) := j_callS2 hd hM' hl hy hi hdd hm hst k
theorem j_cV3r {a ci : Nat} {x1 x2 x3 : Value} (hd : decode cc pc = .ok (.invokevirtual idx, 3)) (hM' : MT G y cc' nL' ret' d' mc ms (.ref a :: [x1, x2, x3]) h (some x) h') (hl : Cond.methodLink own idx y ∈ jTs) (hy : jMY y cc' nL' ret' 3) (hi : Cond.instanceMethod y ∈ jTs ∧ Cond.selects y.cls y y ∈ jTs) (ho : jO h.1 h.2.1 a ci) (hc0 : vwCl[ci]?.map (fun q => q.1) = some y.cls) (hdd : d' + 1 ≤ d) (hm : nL' ≤ 45) (hst : (st.map fun v => v.category).sum ≤ 8) (k : J G own cc nL ini d Q ac sc h' (pc + 3) lo (x :: st)) : J G own cc nL ini d Q (ac + mc) (sc + ms) h pc lo (x3 :: x2 :: x1 :: .ref a :: st) := j_callV3 hd hM' hl hy hi ho hc0 hdd hm hst k
theorem j_cS3r {x1 x2 x3 : Value} (hd : decode cc pc = .ok (.invokestatic idx, 3)) (hM' : MT G y cc' nL' ret' d' mc ms [x1, x2, x3] h (some x) h') (hl : Cond.methodLink own idx y ∈ jTs) (hy : jMY y cc' nL' ret' 3) (hi : Cond.static y ∈ jTs) (hdd : d' + 1 ≤ d) (hm : nL' ≤ 45) (hst : (st.map fun v => v.category).sum ≤ 8) (k : J G own cc nL ini d Q ac sc h' (pc + 3) lo (x :: st)) : J G own cc nL ini d Q (ac + mc) (sc + ms) h pc lo (x3 :: x2 :: x1 :: st) := j_callS3 hd hM' hl hy hi hdd hm hst k
theorem j_cV3v {a ci : Nat} {x1 x2 x3 : Value} (hd : decode cc pc = .ok (.invokevirtual idx, 3)) (hM' : MT G y cc' nL' ret' d' mc ms (.ref a :: [x1, x2, x3]) h none h') (hl : Cond.methodLink own idx y ∈ jTs) (hy : jMY y cc' nL' ret' 3) (hi : Cond.instanceMethod y ∈ jTs ∧ Cond.selects y.cls y y ∈ jTs) (ho : jO h.1 h.2.1 a ci) (hc0 : vwCl[ci]?.map (fun q => q.1) = some y.cls) (hdd : d' + 1 ≤ d) (hm : nL' ≤ 45) (hst : (st.map fun v => v.category).sum ≤ 8) (k : J G own cc nL ini d Q ac sc h' (pc + 3) lo st) : J G own cc nL ini d Q (ac + mc) (sc + ms) h pc lo (x3 :: x2 :: x1 :: .ref a :: st) := j_callV3 hd hM' hl hy hi ho hc0 hdd hm hst k
theorem j_cS3v {x1 x2 x3 : Value} (hd : decode cc pc = .ok (.invokestatic idx, 3)) (hM' : MT G y cc' nL' ret' d' mc ms [x1, x2, x3] h none h') (hl : Cond.methodLink own idx y ∈ jTs) (hy : jMY y cc' nL' ret' 3) (hi : Cond.static y ∈ jTs) (hdd : d' + 1 ≤ d) (hm : nL' ≤ 45) (hst : (st.map fun v => v.category).sum ≤ 8) (k : J G own cc nL ini d Q ac sc h' (pc + 3) lo st) : J G own cc nL ini d Q (ac + mc) (sc + ms) h pc lo (x3 :: x2 :: x1 :: st) := j_callS3 hd hM' hl hy hi hdd hm hst k
theorem j_cSN3r {host : String} {x1 x2 x3 : Value} (hd : decode cc pc = .ok (.invokestatic idx, 3)) (hM' : MT G y cc' nL' ret' d' mc ms [x1, x2, x3] h (some x) h') (hl : ∀ s : State, jS G s → va_Nw (.methodLinkNest own idx y host) s) (hy : jMY y cc' nL' ret' 3) (hi : Cond.static y ∈ jTs) (hdd : d' + 1 ≤ d) (hm : nL' ≤ 45) (hst : (st.map fun v => v.category).sum ≤ 8) (k : J G own cc nL ini d Q ac sc h' (pc + 3) lo (x :: st)) : J G own cc nL ini d Q (ac + mc) (sc + ms) h pc lo (x3 :: x2 :: x1 :: st) := j_callSN3 hd hM' hl hy hi hdd hm hst k
theorem j_cV4r {a ci : Nat} {x1 x2 x3 x4 : Value} (hd : decode cc pc = .ok (.invokevirtual idx, 3)) (hM' : MT G y cc' nL' ret' d' mc ms (.ref a :: [x1, x2, x3, x4]) h (some x) h') (hl : Cond.methodLink own idx y ∈ jTs) (hy : jMY y cc' nL' ret' 4) (hi : Cond.instanceMethod y ∈ jTs ∧ Cond.selects y.cls y y ∈ jTs) (ho : jO h.1 h.2.1 a ci) (hc0 : vwCl[ci]?.map (fun q => q.1) = some y.cls) (hdd : d' + 1 ≤ d) (hm : nL' ≤ 45) (hst : (st.map fun v => v.category).sum ≤ 8) (k : J G own cc nL ini d Q ac sc h' (pc + 3) lo (x :: st)) : J G own cc nL ini d Q (ac + mc) (sc + ms) h pc lo (x4 :: x3 :: x2 :: x1 :: .ref a :: st) := j_callV4 hd hM' hl hy hi ho hc0 hdd hm hst k
theorem j_cS4r {x1 x2 x3 x4 : Value} (hd : decode cc pc = .ok (.invokestatic idx, 3)) (hM' : MT G y cc' nL' ret' d' mc ms [x1, x2, x3, x4] h (some x) h') (hl : Cond.methodLink own idx y ∈ jTs) (hy : jMY y cc' nL' ret' 4) (hi : Cond.static y ∈ jTs) (hdd : d' + 1 ≤ d) (hm : nL' ≤ 45) (hst : (st.map fun v => v.category).sum ≤ 8) (k : J G own cc nL ini d Q ac sc h' (pc + 3) lo (x :: st)) : J G own cc nL ini d Q (ac + mc) (sc + ms) h pc lo (x4 :: x3 :: x2 :: x1 :: st) := j_callS4 hd hM' hl hy hi hdd hm hst k
theorem j_cV4v {a ci : Nat} {x1 x2 x3 x4 : Value} (hd : decode cc pc = .ok (.invokevirtual idx, 3)) (hM' : MT G y cc' nL' ret' d' mc ms (.ref a :: [x1, x2, x3, x4]) h none h') (hl : Cond.methodLink own idx y ∈ jTs) (hy : jMY y cc' nL' ret' 4) (hi : Cond.instanceMethod y ∈ jTs ∧ Cond.selects y.cls y y ∈ jTs) (ho : jO h.1 h.2.1 a ci) (hc0 : vwCl[ci]?.map (fun q => q.1) = some y.cls) (hdd : d' + 1 ≤ d) (hm : nL' ≤ 45) (hst : (st.map fun v => v.category).sum ≤ 8) (k : J G own cc nL ini d Q ac sc h' (pc + 3) lo st) : J G own cc nL ini d Q (ac + mc) (sc + ms) h pc lo (x4 :: x3 :: x2 :: x1 :: .ref a :: st) := j_callV4 hd hM' hl hy hi ho hc0 hdd hm hst k
theorem j_cS4v {x1 x2 x3 x4 : Value} (hd : decode cc pc = .ok (.invokestatic idx, 3)) (hM' : MT G y cc' nL' ret' d' mc ms [x1, x2, x3, x4] h none h') (hl : Cond.methodLink own idx y ∈ jTs) (hy : jMY y cc' nL' ret' 4) (hi : Cond.static y ∈ jTs) (hdd : d' + 1 ≤ d) (hm : nL' ≤ 45) (hst : (st.map fun v => v.category).sum ≤ 8) (k : J G own cc nL ini d Q ac sc h' (pc + 3) lo st) : J G own cc nL ini d Q (ac + mc) (sc + ms) h pc lo (x4 :: x3 :: x2 :: x1 :: st) := j_callS4 hd hM' hl hy hi hdd hm hst k
theorem j_cV5r {a ci : Nat} {x1 x2 x3 x4 x5 : Value} (hd : decode cc pc = .ok (.invokevirtual idx, 3)) (hM' : MT G y cc' nL' ret' d' mc ms (.ref a :: [x1, x2, x3, x4, x5]) h (some x) h') (hl : Cond.methodLink own idx y ∈ jTs) (hy : jMY y cc' nL' ret' 5) (hi : Cond.instanceMethod y ∈ jTs ∧ Cond.selects y.cls y y ∈ jTs) (ho : jO h.1 h.2.1 a ci) (hc0 : vwCl[ci]?.map (fun q => q.1) = some y.cls) (hdd : d' + 1 ≤ d) (hm : nL' ≤ 45) (hst : (st.map fun v => v.category).sum ≤ 8) (k : J G own cc nL ini d Q ac sc h' (pc + 3) lo (x :: st)) : J G own cc nL ini d Q (ac + mc) (sc + ms) h pc lo (x5 :: x4 :: x3 :: x2 :: x1 :: .ref a :: st) := j_callV5 hd hM' hl hy hi ho hc0 hdd hm hst k
theorem j_cS5r {x1 x2 x3 x4 x5 : Value} (hd : decode cc pc = .ok (.invokestatic idx, 3)) (hM' : MT G y cc' nL' ret' d' mc ms [x1, x2, x3, x4, x5] h (some x) h') (hl : Cond.methodLink own idx y ∈ jTs) (hy : jMY y cc' nL' ret' 5) (hi : Cond.static y ∈ jTs) (hdd : d' + 1 ≤ d) (hm : nL' ≤ 45) (hst : (st.map fun v => v.category).sum ≤ 8) (k : J G own cc nL ini d Q ac sc h' (pc + 3) lo (x :: st)) : J G own cc nL ini d Q (ac + mc) (sc + ms) h pc lo (x5 :: x4 :: x3 :: x2 :: x1 :: st) := j_callS5 hd hM' hl hy hi hdd hm hst k
theorem j_cV5v {a ci : Nat} {x1 x2 x3 x4 x5 : Value} (hd : decode cc pc = .ok (.invokevirtual idx, 3)) (hM' : MT G y cc' nL' ret' d' mc ms (.ref a :: [x1, x2, x3, x4, x5]) h none h') (hl : Cond.methodLink own idx y ∈ jTs) (hy : jMY y cc' nL' ret' 5) (hi : Cond.instanceMethod y ∈ jTs ∧ Cond.selects y.cls y y ∈ jTs) (ho : jO h.1 h.2.1 a ci) (hc0 : vwCl[ci]?.map (fun q => q.1) = some y.cls) (hdd : d' + 1 ≤ d) (hm : nL' ≤ 45) (hst : (st.map fun v => v.category).sum ≤ 8) (k : J G own cc nL ini d Q ac sc h' (pc + 3) lo st) : J G own cc nL ini d Q (ac + mc) (sc + ms) h pc lo (x5 :: x4 :: x3 :: x2 :: x1 :: .ref a :: st) := j_callV5 hd hM' hl hy hi ho hc0 hdd hm hst k
theorem j_cS5v {x1 x2 x3 x4 x5 : Value} (hd : decode cc pc = .ok (.invokestatic idx, 3)) (hM' : MT G y cc' nL' ret' d' mc ms [x1, x2, x3, x4, x5] h none h') (hl : Cond.methodLink own idx y ∈ jTs) (hy : jMY y cc' nL' ret' 5) (hi : Cond.static y ∈ jTs) (hdd : d' + 1 ≤ d) (hm : nL' ≤ 45) (hst : (st.map fun v => v.category).sum ≤ 8) (k : J G own cc nL ini d Q ac sc h' (pc + 3) lo st) : J G own cc nL ini d Q (ac + mc) (sc + ms) h pc lo (x5 :: x4 :: x3 :: x2 :: x1 :: st) := j_callS5 hd hM' hl hy hi hdd hm hst k
/-- the value on the stack under another name -/
theorem j_top {v w : Value} (e : v = w) (k : J G own cc nL ini d Q ac sc h pc lo (w :: st)) : J G own cc nL ini d Q ac sc h pc lo (v :: st) := e ▸ k
theorem j_topi {v w : Int32} (e : v = w) (k : J G own cc nL ini d Q ac sc h pc lo (.int w :: st)) : J G own cc nL ini d Q ac sc h pc lo (.int v :: st) := e ▸ k
/-- the heap under another name -/
theorem j_heap {h2 : jH} (e : h = h2) (k : J G own cc nL ini d Q ac sc h2 pc lo st) : J G own cc nL ini d Q ac sc h pc lo st := e ▸ k
/-- what is wanted at the end, under another name -/
theorem j_post {Q2 : Option Value → jH → Prop} (e : ∀ v h, Q2 v h → Q v h) (k : J G own cc nL ini d Q2 ac sc h pc lo st) : J G own cc nL ini d Q ac sc h pc lo st := by
  intro p l e' R s m args below meth c Z hM hK H locs cells slots ls hW hL hc hs hl
  exact k p l e' R s m args below meth c Z hM (fun v h' H' locs' cells' slots' pc' ls' hq => hK v h' H' locs' cells' slots' pc' ls' (e v h' hq)) H locs cells slots ls hW hL hc hs hl
/-- more room than is needed -/
theorem j_room {ac' sc' : Nat} (h1 : ac' ≤ ac) (h2 : sc' ≤ sc) (k : J G own cc nL ini d Q ac' sc' h pc lo st) : J G own cc nL ini d Q ac sc h pc lo st := by
  intro p l e' R s m args below meth c Z hM hK H locs cells slots ls hW hL hc hs hl
  exact k p l e' R s m args below meth c Z hM hK H locs cells slots ls hW hL (by omega) (by omega) hl
end JR7
theorem jl0 : (0 : Int32) = nI 0 := rfl
theorem jl1 : (1 : Int32) = nI 1 := rfl
theorem jl2 : (2 : Int32) = nI 2 := rfl
theorem jl3 : (3 : Int32) = nI 3 := rfl
theorem jl4 : (4 : Int32) = nI 4 := rfl
theorem jl5 : (5 : Int32) = nI 5 := rfl
theorem jl6 : (6 : Int32) = nI 6 := rfl
theorem jl7 : (7 : Int32) = nI 7 := rfl
theorem jl8 : (8 : Int32) = nI 8 := rfl
theorem jl9 : (9 : Int32) = nI 9 := rfl
theorem jl10 : (10 : Int32) = nI 10 := rfl
theorem jl11 : (11 : Int32) = nI 11 := rfl
theorem jl12 : (12 : Int32) = nI 12 := rfl
theorem jl13 : (13 : Int32) = nI 13 := rfl
theorem jl14 : (14 : Int32) = nI 14 := rfl
theorem jl15 : (15 : Int32) = nI 15 := rfl
theorem jl16 : (16 : Int32) = nI 16 := rfl
theorem jl17 : (17 : Int32) = nI 17 := rfl
theorem jl18 : (18 : Int32) = nI 18 := rfl
theorem jl19 : (19 : Int32) = nI 19 := rfl
theorem jl20 : (20 : Int32) = nI 20 := rfl
theorem jl21 : (21 : Int32) = nI 21 := rfl
theorem jl22 : (22 : Int32) = nI 22 := rfl
theorem jl23 : (23 : Int32) = nI 23 := rfl
theorem jl24 : (24 : Int32) = nI 24 := rfl
theorem jl25 : (25 : Int32) = nI 25 := rfl
theorem jl26 : (26 : Int32) = nI 26 := rfl
theorem jl27 : (27 : Int32) = nI 27 := rfl
theorem jl28 : (28 : Int32) = nI 28 := rfl
theorem jl29 : (29 : Int32) = nI 29 := rfl
theorem jl30 : (30 : Int32) = nI 30 := rfl
theorem jl31 : (31 : Int32) = nI 31 := rfl
theorem jl32 : (32 : Int32) = nI 32 := rfl
theorem jl33 : (33 : Int32) = nI 33 := rfl
theorem jl34 : (34 : Int32) = nI 34 := rfl
theorem jl35 : (35 : Int32) = nI 35 := rfl
theorem jl36 : (36 : Int32) = nI 36 := rfl
theorem jl37 : (37 : Int32) = nI 37 := rfl
theorem jl38 : (38 : Int32) = nI 38 := rfl
theorem jl39 : (39 : Int32) = nI 39 := rfl
theorem jl40 : (40 : Int32) = nI 40 := rfl
theorem jl41 : (41 : Int32) = nI 41 := rfl
theorem jl42 : (42 : Int32) = nI 42 := rfl
theorem jl43 : (43 : Int32) = nI 43 := rfl
theorem jl44 : (44 : Int32) = nI 44 := rfl
theorem jl45 : (45 : Int32) = nI 45 := rfl
theorem jl46 : (46 : Int32) = nI 46 := rfl
theorem jl47 : (47 : Int32) = nI 47 := rfl
theorem jl48 : (48 : Int32) = nI 48 := rfl
theorem jl49 : (49 : Int32) = nI 49 := rfl
theorem jl50 : (50 : Int32) = nI 50 := rfl
theorem jl51 : (51 : Int32) = nI 51 := rfl
theorem jl52 : (52 : Int32) = nI 52 := rfl
theorem jl53 : (53 : Int32) = nI 53 := rfl
theorem jl54 : (54 : Int32) = nI 54 := rfl
theorem jl55 : (55 : Int32) = nI 55 := rfl
theorem jl56 : (56 : Int32) = nI 56 := rfl
theorem jl57 : (57 : Int32) = nI 57 := rfl
theorem jl58 : (58 : Int32) = nI 58 := rfl
theorem jl59 : (59 : Int32) = nI 59 := rfl
theorem jl60 : (60 : Int32) = nI 60 := rfl
theorem jl61 : (61 : Int32) = nI 61 := rfl
theorem jl62 : (62 : Int32) = nI 62 := rfl
theorem jl63 : (63 : Int32) = nI 63 := rfl
theorem jl64 : (64 : Int32) = nI 64 := rfl
theorem jl99 : (99 : Int32) = nI 99 := rfl
theorem jl100 : (100 : Int32) = nI 100 := rfl
theorem jl104 : (104 : Int32) = nI 104 := rfl
theorem jl126 : (126 : Int32) = nI 126 := rfl
theorem jl200 : (200 : Int32) = nI 200 := rfl
theorem jl208 : (208 : Int32) = nI 208 := rfl
theorem jl364 : (364 : Int32) = nI 364 := rfl
theorem jl416 : (416 : Int32) = nI 416 := rfl
theorem jl520 : (520 : Int32) = nI 520 := rfl
theorem jl624 : (624 : Int32) = nI 624 := rfl
theorem jl1000 : (1000 : Int32) = nI 1000 := rfl
theorem jl1024 : (1024 : Int32) = nI 1024 := rfl
/-- a single cell's value behind a write -/
theorem jup_at {α : Type} (f : Nat → Nat → α) (a j : Nat) (v : α) (a' j' : Nat) : jup f a j v a' j' = if a' = a ∧ j' = j then v else f a' j' := by
  unfold jup
  by_cases h : a' = a
  · subst h; by_cases h2 : j' = j <;> simp [h2]
  · simp [h]
theorem jrow_at {α : Type} (f : Nat → Nat → α) (a : Nat) (g : Nat → α) (a' j' : Nat) : jrow f a g a' j' = if a' = a then g j' else f a' j' := by
  unfold jrow
  by_cases h : a' = a
  · subst h; simp
  · simp [h]
theorem jup_self {α : Type} (f : Nat → Nat → α) (a j : Nat) (v : α) : jup f a j v a j = v := by rw [jup_at]; simp
theorem jup_oth {α : Type} {f : Nat → Nat → α} {a j : Nat} {v : α} {a' j' : Nat} (h : a' ≠ a) : jup f a j v a' j' = f a' j' := by rw [jup_at]; simp [h]
theorem jup_oth2 {α : Type} {f : Nat → Nat → α} {a j : Nat} {v : α} {a' j' : Nat} (h : j' ≠ j) : jup f a j v a' j' = f a' j' := by rw [jup_at]; simp [h]
end
section
/-! THE SHAPE: kinds and references as the constructors leave them -/
def kl0 : List jK := [.inl 6, .inl 4, .inr (.char, 200), .inr (.int, 3), .inl 3, .inr (.int, 5), .inr (.int, 5), .inr (.int, 5), .inr (.int, 25), .inl 3, .inr (.int, 5), .inr (.int, 5), .inr (.int, 5), .inr (.int, 25), .inl 5, .inr (.int, 5), .inr (.int, 5), .inr (.int, 5), .inr (.int, 5), .inr (.int, 25), .inl 5, .inr (.int, 5), .inr (.int, 5), .inr (.int, 5), .inr (.int, 5), .inr (.int, 25), .inl 2, .inr (.object RX5, 8), .inl 5, .inr (.int, 5), .inr (.int, 5), .inr (.int, 5), .inr (.int, 5), .inr (.int, 25), .inl 5, .inr (.int, 5), .inr (.int, 5), .inr (.int, 5), .inr (.int, 5), .inr (.int, 25), .inl 5, .inr (.int, 5), .inr (.int, 5), .inr (.int, 5), .inr (.int, 5), .inr (.int, 25), .inl 5, .inr (.int, 5), .inr (.int, 5), .inr (.int, 5), .inr (.int, 5), .inr (.int, 25), .inl 5, .inr (.int, 5), .inr (.int, 5), .inr (.int, 5), .inr (.int, 5), .inr (.int, 25), .inl 5, .inr (.int, 5), .inr (.int, 5), .inr (.int, 5), .inr (.int, 5), .inr (.int, 25), .inl 5, .inr (.int, 5), .inr (.int, 5), .inr (.int, 5), .inr (.int, 5), .inr (.int, 25), .inl 5, .inr (.int, 5), .inr (.int, 5), .inr (.int, 5), .inr (.int, 5), .inr (.int, 25), .inr (.object RX5, 2), .inl 0, .inr (.int, 6), .inr (.int, 6), .inr (.int, 6), .inl 1, .inr (.object RX5, 11), .inr (.int, 10), .inr (.int, 10), .inr (.long, 1024), .inr (.int, 1024), .inl 5, .inr (.int, 5), .inr (.int, 5), .inr (.int, 5), .inr (.int, 5), .inr (.int, 25), .inl 5, .inr (.int, 5), .inr (.int, 5), .inr (.int, 5), .inr (.int, 5), .inr (.int, 25), .inl 5, .inr (.int, 5), .inr (.int, 5), .inr (.int, 5), .inr (.int, 5), .inr (.int, 25), .inl 5, .inr (.int, 5), .inr (.int, 5), .inr (.int, 5), .inr (.int, 5), .inr (.int, 25), .inl 5, .inr (.int, 5), .inr (.int, 5), .inr (.int, 5), .inr (.int, 5), .inr (.int, 25), .inl 5, .inr (.int, 5), .inr (.int, 5), .inr (.int, 5), .inr (.int, 5), .inr (.int, 25), .inl 5, .inr (.int, 5), .inr (.int, 5), .inr (.int, 5), .inr (.int, 5), .inr (.int, 25), .inl 5, .inr (.int, 5), .inr (.int, 5), .inr (.int, 5), .inr (.int, 5), .inr (.int, 25), .inl 5, .inr (.int, 5), .inr (.int, 5), .inr (.int, 5), .inr (.int, 5), .inr (.int, 25), .inl 5, .inr (.int, 5), .inr (.int, 5), .inr (.int, 5), .inr (.int, 5), .inr (.int, 25), .inl 5, .inr (.int, 5), .inr (.int, 5), .inr (.int, 5), .inr (.int, 5), .inr (.int, 25), .inl 5, .inr (.int, 5), .inr (.int, 5), .inr (.int, 5), .inr (.int, 5), .inr (.int, 25), .inl 5, .inr (.int, 5), .inr (.int, 5), .inr (.int, 5), .inr (.int, 5), .inr (.int, 25), .inl 7, .inr (.int, 1196), .inr (.int, 5), .inr (.int, 5), .inr (.int, 5), .inr (.int, 6), .inr (.int, 6), .inr (.int, 6), .inr (.int, 200), .inr (.int, 15), .inr (.int, 25), .inr (.int, 16), .inr (.int, 16), .inr (.int, 11), .inr (.int, 11), .inr (.int, 10)]
def rl0 : List (List (Option Nat)) := [[some 1, some 4, some 9, some 14, some 20, some 26, some 76, none, some 77, some 81], [some 2, some 3], [], [], [none, none, some 5, some 6, some 7, some 8], [], [], [], [], [none, none, some 10, some 11, some 12, some 13], [], [], [], [], [some 9, some 15, some 16, some 17, some 18, some 19], [], [], [], [], [], [some 9, some 21, some 22, some 23, some 24, some 25], [], [], [], [], [], [some 27], [some 28, some 34, some 40, some 46, some 52, some 58, some 64, some 70], [some 9, some 29, some 30, some 31, some 32, some 33], [], [], [], [], [], [some 9, some 35, some 36, some 37, some 38, some 39], [], [], [], [], [], [some 9, some 41, some 42, some 43, some 44, some 45], [], [], [], [], [], [some 9, some 47, some 48, some 49, some 50, some 51], [], [], [], [], [], [some 9, some 53, some 54, some 55, some 56, some 57], [], [], [], [], [], [some 9, some 59, some 60, some 61, some 62, some 63], [], [], [], [], [], [some 9, some 65, some 66, some 67, some 68, some 69], [], [], [], [], [], [some 9, some 71, some 72, some 73, some 74, some 75], [], [], [], [], [], [some 153, some 159], [some 78, some 79, some 80], [], [], [], [some 9, some 82, some 83, some 84, some 85, some 86], [some 87, some 93, some 99, some 105, some 111, some 117, some 123, some 129, some 135, some 141, some 147], [], [], [], [], [some 9, some 88, some 89, some 90, some 91, some 92], [], [], [], [], [], [some 9, some 94, some 95, some 96, some 97, some 98], [], [], [], [], [], [some 9, some 100, some 101, some 102, some 103, some 104], [], [], [], [], [], [some 9, some 106, some 107, some 108, some 109, some 110], [], [], [], [], [], [some 9, some 112, some 113, some 114, some 115, some 116], [], [], [], [], [], [some 9, some 118, some 119, some 120, some 121, some 122], [], [], [], [], [], [some 9, some 124, some 125, some 126, some 127, some 128], [], [], [], [], [], [some 9, some 130, some 131, some 132, some 133, some 134], [], [], [], [], [], [some 9, some 136, some 137, some 138, some 139, some 140], [], [], [], [], [], [some 9, some 142, some 143, some 144, some 145, some 146], [], [], [], [], [], [some 9, some 148, some 149, some 150, some 151, some 152], [], [], [], [], [], [some 9, some 154, some 155, some 156, some 157, some 158], [], [], [], [], [], [some 9, some 160, some 161, some 162, some 163, some 164], [], [], [], [], [], [some 166, none, none, none, some 167, some 168, some 169, none, some 170, some 171, some 172, some 173, none, none, none, none, some 174, some 175, none, some 176, some 177, some 178, some 179, some 180], [], [], [], [], [], [], [], [], [], [], [], [], [], [], []]
def κ0 (k : Nat) : jK := kl0.getD k (.inl 0)
def ρ0 (k j : Nat) : Option Nat := (rl0.getD k []).getD j none
def shC (N : Nat) (κ : Nat → jK) (ρ : Nat → Nat → Option Nat) : Prop := 165 ≤ N ∧ (∀ k, k < 165 → κ k = κ0 k) ∧ ∀ k j, k < 165 → j < 12 → ρ k j = ρ0 k j
def shR (N : Nat) (κ : Nat → jK) (ρ : Nat → Nat → Option Nat) : Prop := 181 ≤ N ∧ (∀ k, 165 ≤ k → k < 181 → κ k = κ0 k) ∧ ∀ k j, 165 ≤ k → k < 181 → j < 25 → ρ k j = ρ0 k j
def twL : List Nat := [14, 20, 28, 34, 40, 46, 52, 58, 64, 70, 87, 93, 99, 105, 111, 117, 123, 129, 135, 141, 147, 153, 159]
/-- a town -/
def tw (a : Nat) : Prop := a ∈ twL
def twF (a : Nat) : Prop := a + 5 < 165 ∧ 14 ≤ a ∧ κ0 a = .inl 5 ∧ (κ0 (a + 1) = .inr (.int, 5) ∧ κ0 (a + 2) = .inr (.int, 5) ∧ κ0 (a + 3) = .inr (.int, 5) ∧ κ0 (a + 4) = .inr (.int, 5) ∧ κ0 (a + 5) = .inr (.int, 25)) ∧ ρ0 a 0 = some 9 ∧ ρ0 a 1 = some (a + 1) ∧ ρ0 a 2 = some (a + 2) ∧ ρ0 a 3 = some (a + 3) ∧ ρ0 a 4 = some (a + 4) ∧ ρ0 a 5 = some (a + 5)
theorem twF_all : ∀ a ∈ twL, twF a := by unfold twF; decide +kernel
section SH
variable {N : Nat} {κ : Nat → jK} {ρ : Nat → Nat → Option Nat} {a : Nat}
theorem tw_lt (ht : tw a) : a + 5 < 165 := (twF_all a ht).1
theorem tw_ge (ht : tw a) : 14 ≤ a := (twF_all a ht).2.1
theorem tO (hs : shC N κ ρ) (ht : tw a) : jO N κ a 5 := ⟨by have := tw_lt ht; have := hs.1; omega, (hs.2.1 a (by have := tw_lt ht; omega)).trans (twF_all a ht).2.2.1⟩
theorem tA1 (hs : shC N κ ρ) (ht : tw a) : jA N κ (a + 1) .int 5 := ⟨by have := tw_lt ht; have := hs.1; omega, (hs.2.1 (a + 1) (by have := tw_lt ht; omega)).trans (twF_all a ht).2.2.2.1.1, by decide⟩
theorem tA2 (hs : shC N κ ρ) (ht : tw a) : jA N κ (a + 2) .int 5 := ⟨by have := tw_lt ht; have := hs.1; omega, (hs.2.1 (a + 2) (by have := tw_lt ht; omega)).trans (twF_all a ht).2.2.2.1.2.1, by decide⟩
theorem tA3 (hs : shC N κ ρ) (ht : tw a) : jA N κ (a + 3) .int 5 := ⟨by have := tw_lt ht; have := hs.1; omega, (hs.2.1 (a + 3) (by have := tw_lt ht; omega)).trans (twF_all a ht).2.2.2.1.2.2.1, by decide⟩
theorem tA4 (hs : shC N κ ρ) (ht : tw a) : jA N κ (a + 4) .int 5 := ⟨by have := tw_lt ht; have := hs.1; omega, (hs.2.1 (a + 4) (by have := tw_lt ht; omega)).trans (twF_all a ht).2.2.2.1.2.2.2.1, by decide⟩
theorem tA5 (hs : shC N κ ρ) (ht : tw a) : jA N κ (a + 5) .int 25 := ⟨by have := tw_lt ht; have := hs.1; omega, (hs.2.1 (a + 5) (by have := tw_lt ht; omega)).trans (twF_all a ht).2.2.2.1.2.2.2.2, by decide⟩
theorem tR0 (hs : shC N κ ρ) (ht : tw a) : ρ a 0 = some 9 := (hs.2.2 a 0 (by have := tw_lt ht; omega) (by decide)).trans (twF_all a ht).2.2.2.2.1
theorem tR1 (hs : shC N κ ρ) (ht : tw a) : ρ a 1 = some (a + 1) := (hs.2.2 a 1 (by have := tw_lt ht; omega) (by decide)).trans (twF_all a ht).2.2.2.2.2.1
theorem tR2 (hs : shC N κ ρ) (ht : tw a) : ρ a 2 = some (a + 2) := (hs.2.2 a 2 (by have := tw_lt ht; omega) (by decide)).trans (twF_all a ht).2.2.2.2.2.2.1
theorem tR3 (hs : shC N κ ρ) (ht : tw a) : ρ a 3 = some (a + 3) := (hs.2.2 a 3 (by have := tw_lt ht; omega) (by decide)).trans (twF_all a ht).2.2.2.2.2.2.2.1
theorem tR4 (hs : shC N κ ρ) (ht : tw a) : ρ a 4 = some (a + 4) := (hs.2.2 a 4 (by have := tw_lt ht; omega) (by decide)).trans (twF_all a ht).2.2.2.2.2.2.2.2.1
theorem tR5 (hs : shC N κ ρ) (ht : tw a) : ρ a 5 = some (a + 5) := (hs.2.2 a 5 (by have := tw_lt ht; omega) (by decide)).trans (twF_all a ht).2.2.2.2.2.2.2.2.2
theorem twn_14 : tw 14 := by unfold tw; decide
theorem twn_20 : tw 20 := by unfold tw; decide
theorem twn_28 : tw 28 := by unfold tw; decide
theorem twn_34 : tw 34 := by unfold tw; decide
theorem twn_40 : tw 40 := by unfold tw; decide
theorem twn_46 : tw 46 := by unfold tw; decide
theorem twn_52 : tw 52 := by unfold tw; decide
theorem twn_58 : tw 58 := by unfold tw; decide
theorem twn_64 : tw 64 := by unfold tw; decide
theorem twn_70 : tw 70 := by unfold tw; decide
theorem twn_87 : tw 87 := by unfold tw; decide
theorem twn_93 : tw 93 := by unfold tw; decide
theorem twn_99 : tw 99 := by unfold tw; decide
theorem twn_105 : tw 105 := by unfold tw; decide
theorem twn_111 : tw 111 := by unfold tw; decide
theorem twn_117 : tw 117 := by unfold tw; decide
theorem twn_123 : tw 123 := by unfold tw; decide
theorem twn_129 : tw 129 := by unfold tw; decide
theorem twn_135 : tw 135 := by unfold tw; decide
theorem twn_141 : tw 141 := by unfold tw; decide
theorem twn_147 : tw 147 := by unfold tw; decide
theorem twn_153 : tw 153 := by unfold tw; decide
theorem twn_159 : tw 159 := by unfold tw; decide
theorem o_0 (hs : shC N κ ρ) : jO N κ 0 6 := ⟨by have := hs.1; omega, (hs.2.1 0 (by decide))⟩
theorem r_0_0 (hs : shC N κ ρ) : ρ 0 0 = some 1 := (hs.2.2 0 0 (by decide) (by decide))
theorem r_0_1 (hs : shC N κ ρ) : ρ 0 1 = some 4 := (hs.2.2 0 1 (by decide) (by decide))
theorem r_0_2 (hs : shC N κ ρ) : ρ 0 2 = some 9 := (hs.2.2 0 2 (by decide) (by decide))
theorem r_0_3 (hs : shC N κ ρ) : ρ 0 3 = some 14 := (hs.2.2 0 3 (by decide) (by decide))
theorem r_0_4 (hs : shC N κ ρ) : ρ 0 4 = some 20 := (hs.2.2 0 4 (by decide) (by decide))
theorem r_0_5 (hs : shC N κ ρ) : ρ 0 5 = some 26 := (hs.2.2 0 5 (by decide) (by decide))
theorem r_0_6 (hs : shC N κ ρ) : ρ 0 6 = some 76 := (hs.2.2 0 6 (by decide) (by decide))
theorem r_0_8 (hs : shC N κ ρ) : ρ 0 8 = some 77 := (hs.2.2 0 8 (by decide) (by decide))
theorem r_0_9 (hs : shC N κ ρ) : ρ 0 9 = some 81 := (hs.2.2 0 9 (by decide) (by decide))
theorem o_1 (hs : shC N κ ρ) : jO N κ 1 4 := ⟨by have := hs.1; omega, (hs.2.1 1 (by decide))⟩
theorem r_1_0 (hs : shC N κ ρ) : ρ 1 0 = some 2 := (hs.2.2 1 0 (by decide) (by decide))
theorem r_1_1 (hs : shC N κ ρ) : ρ 1 1 = some 3 := (hs.2.2 1 1 (by decide) (by decide))
theorem a_2 (hs : shC N κ ρ) : jA N κ 2 .char 200 := ⟨by have := hs.1; omega, (hs.2.1 2 (by decide)), by decide⟩
theorem a_3 (hs : shC N κ ρ) : jA N κ 3 .int 3 := ⟨by have := hs.1; omega, (hs.2.1 3 (by decide)), by decide⟩
theorem o_4 (hs : shC N κ ρ) : jO N κ 4 3 := ⟨by have := hs.1; omega, (hs.2.1 4 (by decide))⟩
theorem r_4_2 (hs : shC N κ ρ) : ρ 4 2 = some 5 := (hs.2.2 4 2 (by decide) (by decide))
theorem r_4_3 (hs : shC N κ ρ) : ρ 4 3 = some 6 := (hs.2.2 4 3 (by decide) (by decide))
theorem r_4_4 (hs : shC N κ ρ) : ρ 4 4 = some 7 := (hs.2.2 4 4 (by decide) (by decide))
theorem r_4_5 (hs : shC N κ ρ) : ρ 4 5 = some 8 := (hs.2.2 4 5 (by decide) (by decide))
theorem a_5 (hs : shC N κ ρ) : jA N κ 5 .int 5 := ⟨by have := hs.1; omega, (hs.2.1 5 (by decide)), by decide⟩
theorem a_6 (hs : shC N κ ρ) : jA N κ 6 .int 5 := ⟨by have := hs.1; omega, (hs.2.1 6 (by decide)), by decide⟩
theorem a_7 (hs : shC N κ ρ) : jA N κ 7 .int 5 := ⟨by have := hs.1; omega, (hs.2.1 7 (by decide)), by decide⟩
theorem a_8 (hs : shC N κ ρ) : jA N κ 8 .int 25 := ⟨by have := hs.1; omega, (hs.2.1 8 (by decide)), by decide⟩
theorem o_9 (hs : shC N κ ρ) : jO N κ 9 3 := ⟨by have := hs.1; omega, (hs.2.1 9 (by decide))⟩
theorem r_9_2 (hs : shC N κ ρ) : ρ 9 2 = some 10 := (hs.2.2 9 2 (by decide) (by decide))
theorem r_9_3 (hs : shC N κ ρ) : ρ 9 3 = some 11 := (hs.2.2 9 3 (by decide) (by decide))
theorem r_9_4 (hs : shC N κ ρ) : ρ 9 4 = some 12 := (hs.2.2 9 4 (by decide) (by decide))
theorem r_9_5 (hs : shC N κ ρ) : ρ 9 5 = some 13 := (hs.2.2 9 5 (by decide) (by decide))
theorem a_10 (hs : shC N κ ρ) : jA N κ 10 .int 5 := ⟨by have := hs.1; omega, (hs.2.1 10 (by decide)), by decide⟩
theorem a_11 (hs : shC N κ ρ) : jA N κ 11 .int 5 := ⟨by have := hs.1; omega, (hs.2.1 11 (by decide)), by decide⟩
theorem a_12 (hs : shC N κ ρ) : jA N κ 12 .int 5 := ⟨by have := hs.1; omega, (hs.2.1 12 (by decide)), by decide⟩
theorem a_13 (hs : shC N κ ρ) : jA N κ 13 .int 25 := ⟨by have := hs.1; omega, (hs.2.1 13 (by decide)), by decide⟩
theorem o_26 (hs : shC N κ ρ) : jO N κ 26 2 := ⟨by have := hs.1; omega, (hs.2.1 26 (by decide))⟩
theorem r_26_0 (hs : shC N κ ρ) : ρ 26 0 = some 27 := (hs.2.2 26 0 (by decide) (by decide))
theorem a_27 (hs : shC N κ ρ) : jA N κ 27 (.object RX5) 8 := ⟨by have := hs.1; omega, (hs.2.1 27 (by decide)), by decide⟩
theorem a_76 (hs : shC N κ ρ) : jA N κ 76 (.object RX5) 2 := ⟨by have := hs.1; omega, (hs.2.1 76 (by decide)), by decide⟩
theorem o_77 (hs : shC N κ ρ) : jO N κ 77 0 := ⟨by have := hs.1; omega, (hs.2.1 77 (by decide))⟩
theorem r_77_0 (hs : shC N κ ρ) : ρ 77 0 = some 78 := (hs.2.2 77 0 (by decide) (by decide))
theorem r_77_1 (hs : shC N κ ρ) : ρ 77 1 = some 79 := (hs.2.2 77 1 (by decide) (by decide))
theorem r_77_2 (hs : shC N κ ρ) : ρ 77 2 = some 80 := (hs.2.2 77 2 (by decide) (by decide))
theorem a_78 (hs : shC N κ ρ) : jA N κ 78 .int 6 := ⟨by have := hs.1; omega, (hs.2.1 78 (by decide)), by decide⟩
theorem a_79 (hs : shC N κ ρ) : jA N κ 79 .int 6 := ⟨by have := hs.1; omega, (hs.2.1 79 (by decide)), by decide⟩
theorem a_80 (hs : shC N κ ρ) : jA N κ 80 .int 6 := ⟨by have := hs.1; omega, (hs.2.1 80 (by decide)), by decide⟩
theorem o_81 (hs : shC N κ ρ) : jO N κ 81 1 := ⟨by have := hs.1; omega, (hs.2.1 81 (by decide))⟩
theorem r_81_0 (hs : shC N κ ρ) : ρ 81 0 = some 9 := (hs.2.2 81 0 (by decide) (by decide))
theorem r_81_1 (hs : shC N κ ρ) : ρ 81 1 = some 82 := (hs.2.2 81 1 (by decide) (by decide))
theorem r_81_2 (hs : shC N κ ρ) : ρ 81 2 = some 83 := (hs.2.2 81 2 (by decide) (by decide))
theorem r_81_3 (hs : shC N κ ρ) : ρ 81 3 = some 84 := (hs.2.2 81 3 (by decide) (by decide))
theorem r_81_4 (hs : shC N κ ρ) : ρ 81 4 = some 85 := (hs.2.2 81 4 (by decide) (by decide))
theorem r_81_5 (hs : shC N κ ρ) : ρ 81 5 = some 86 := (hs.2.2 81 5 (by decide) (by decide))
theorem a_82 (hs : shC N κ ρ) : jA N κ 82 (.object RX5) 11 := ⟨by have := hs.1; omega, (hs.2.1 82 (by decide)), by decide⟩
theorem a_83 (hs : shC N κ ρ) : jA N κ 83 .int 10 := ⟨by have := hs.1; omega, (hs.2.1 83 (by decide)), by decide⟩
theorem a_84 (hs : shC N κ ρ) : jA N κ 84 .int 10 := ⟨by have := hs.1; omega, (hs.2.1 84 (by decide)), by decide⟩
theorem a_85 (hs : shC N κ ρ) : jA N κ 85 .long 1024 := ⟨by have := hs.1; omega, (hs.2.1 85 (by decide)), by decide⟩
theorem a_86 (hs : shC N κ ρ) : jA N κ 86 .int 1024 := ⟨by have := hs.1; omega, (hs.2.1 86 (by decide)), by decide⟩
theorem o_165 (hs : shR N κ ρ) : jO N κ 165 7 := ⟨by have := hs.1; omega, (hs.2.1 165 (by decide) (by decide))⟩
theorem r_165_0 (hs : shR N κ ρ) : ρ 165 0 = some 166 := (hs.2.2 165 0 (by decide) (by decide) (by decide))
theorem r_165_4 (hs : shR N κ ρ) : ρ 165 4 = some 167 := (hs.2.2 165 4 (by decide) (by decide) (by decide))
theorem r_165_5 (hs : shR N κ ρ) : ρ 165 5 = some 168 := (hs.2.2 165 5 (by decide) (by decide) (by decide))
theorem r_165_6 (hs : shR N κ ρ) : ρ 165 6 = some 169 := (hs.2.2 165 6 (by decide) (by decide) (by decide))
theorem r_165_8 (hs : shR N κ ρ) : ρ 165 8 = some 170 := (hs.2.2 165 8 (by decide) (by decide) (by decide))
theorem r_165_9 (hs : shR N κ ρ) : ρ 165 9 = some 171 := (hs.2.2 165 9 (by decide) (by decide) (by decide))
theorem r_165_10 (hs : shR N κ ρ) : ρ 165 10 = some 172 := (hs.2.2 165 10 (by decide) (by decide) (by decide))
theorem r_165_11 (hs : shR N κ ρ) : ρ 165 11 = some 173 := (hs.2.2 165 11 (by decide) (by decide) (by decide))
theorem r_165_16 (hs : shR N κ ρ) : ρ 165 16 = some 174 := (hs.2.2 165 16 (by decide) (by decide) (by decide))
theorem r_165_17 (hs : shR N κ ρ) : ρ 165 17 = some 175 := (hs.2.2 165 17 (by decide) (by decide) (by decide))
theorem r_165_19 (hs : shR N κ ρ) : ρ 165 19 = some 176 := (hs.2.2 165 19 (by decide) (by decide) (by decide))
theorem r_165_20 (hs : shR N κ ρ) : ρ 165 20 = some 177 := (hs.2.2 165 20 (by decide) (by decide) (by decide))
theorem r_165_21 (hs : shR N κ ρ) : ρ 165 21 = some 178 := (hs.2.2 165 21 (by decide) (by decide) (by decide))
theorem r_165_22 (hs : shR N κ ρ) : ρ 165 22 = some 179 := (hs.2.2 165 22 (by decide) (by decide) (by decide))
theorem r_165_23 (hs : shR N κ ρ) : ρ 165 23 = some 180 := (hs.2.2 165 23 (by decide) (by decide) (by decide))
theorem a_166 (hs : shR N κ ρ) : jA N κ 166 .int 1196 := ⟨by have := hs.1; omega, (hs.2.1 166 (by decide) (by decide)), by decide⟩
theorem a_167 (hs : shR N κ ρ) : jA N κ 167 .int 5 := ⟨by have := hs.1; omega, (hs.2.1 167 (by decide) (by decide)), by decide⟩
theorem a_168 (hs : shR N κ ρ) : jA N κ 168 .int 5 := ⟨by have := hs.1; omega, (hs.2.1 168 (by decide) (by decide)), by decide⟩
theorem a_169 (hs : shR N κ ρ) : jA N κ 169 .int 5 := ⟨by have := hs.1; omega, (hs.2.1 169 (by decide) (by decide)), by decide⟩
theorem a_170 (hs : shR N κ ρ) : jA N κ 170 .int 6 := ⟨by have := hs.1; omega, (hs.2.1 170 (by decide) (by decide)), by decide⟩
theorem a_171 (hs : shR N κ ρ) : jA N κ 171 .int 6 := ⟨by have := hs.1; omega, (hs.2.1 171 (by decide) (by decide)), by decide⟩
theorem a_172 (hs : shR N κ ρ) : jA N κ 172 .int 6 := ⟨by have := hs.1; omega, (hs.2.1 172 (by decide) (by decide)), by decide⟩
theorem a_173 (hs : shR N κ ρ) : jA N κ 173 .int 200 := ⟨by have := hs.1; omega, (hs.2.1 173 (by decide) (by decide)), by decide⟩
theorem a_174 (hs : shR N κ ρ) : jA N κ 174 .int 15 := ⟨by have := hs.1; omega, (hs.2.1 174 (by decide) (by decide)), by decide⟩
theorem a_175 (hs : shR N κ ρ) : jA N κ 175 .int 25 := ⟨by have := hs.1; omega, (hs.2.1 175 (by decide) (by decide)), by decide⟩
theorem a_176 (hs : shR N κ ρ) : jA N κ 176 .int 16 := ⟨by have := hs.1; omega, (hs.2.1 176 (by decide) (by decide)), by decide⟩
theorem a_177 (hs : shR N κ ρ) : jA N κ 177 .int 16 := ⟨by have := hs.1; omega, (hs.2.1 177 (by decide) (by decide)), by decide⟩
theorem a_178 (hs : shR N κ ρ) : jA N κ 178 .int 11 := ⟨by have := hs.1; omega, (hs.2.1 178 (by decide) (by decide)), by decide⟩
theorem a_179 (hs : shR N κ ρ) : jA N κ 179 .int 11 := ⟨by have := hs.1; omega, (hs.2.1 179 (by decide) (by decide)), by decide⟩
theorem a_180 (hs : shR N κ ρ) : jA N κ 180 .int 10 := ⟨by have := hs.1; omega, (hs.2.1 180 (by decide) (by decide)), by decide⟩
/-- the towns of an array of towns -/
theorem rp_27 (hs : shC N κ ρ) {i : Nat} (hi : i < 8) : ρ 27 i = some (28 + 6 * i) := (hs.2.2 27 i (by decide) (by omega)).trans (by revert hi; revert i; decide)
theorem rp_76 (hs : shC N κ ρ) {i : Nat} (hi : i < 2) : ρ 76 i = some (153 + 6 * i) := (hs.2.2 76 i (by decide) (by omega)).trans (by revert hi; revert i; decide)
theorem rp_82 (hs : shC N κ ρ) {i : Nat} (hi : i < 11) : ρ 82 i = some (87 + 6 * i) := (hs.2.2 82 i (by decide) (by omega)).trans (by revert hi; revert i; decide)
theorem tw_p {i : Nat} (hi : i < 8) : tw (28 + 6 * i) := by unfold tw; revert hi; revert i; decide
theorem tw_k {i : Nat} (hi : i < 2) : tw (153 + 6 * i) := by unfold tw; revert hi; revert i; decide
theorem tw_s {i : Nat} (hi : i < 11) : tw (87 + 6 * i) := by unfold tw; revert hi; revert i; decide
/-- two towns are one, or far from each other -/
theorem tw_apart {b : Nat} (ha : tw a) (hb : tw b) : a = b ∨ a + 5 < b ∨ b + 5 < a := by
  have : ∀ x ∈ twL, ∀ y ∈ twL, x = y ∨ x + 5 < y ∨ y + 5 < x := by decide +kernel
  exact this a ha b hb
/-- a town's cells are none of the single ones -/
theorem tw_single (ht : tw a) : (a + 5 < 26 ∨ 28 ≤ a) ∧ (a + 5 < 76 ∨ 87 ≤ a) := by
  have : ∀ x ∈ twL, (x + 5 < 26 ∨ 28 ≤ x) ∧ (x + 5 < 76 ∨ 87 ≤ x) := by decide +kernel
  exact this a ht
end SH
end
section
/-! LOOPS -/
def it {σ : Type} (f : Nat → σ → σ) : Nat → Nat → σ → σ
  | 0, _, s => s
  | n + 1, i, s => it f n (i + 1) (f i s)
theorem it_loop {σ : Type} {f : Nat → σ → σ} {p : Nat} (P : Nat → σ → Prop) (E : σ → Prop) (I : Nat → σ → Prop) (hx : ∀ s, I p s → E s → P p s) (hb : ∀ i s, i < p → I i s → P (i + 1) (f i s) → P i s) (hI : ∀ i s, i < p → I i s → I (i + 1) (f i s)) : ∀ n i s, i + n = p → I i s → E (it f n i s) → P i s
  | 0, i, s, h, hi, he => by
    have : i = p := by omega
    subst this
    exact hx s hi he
  | n + 1, i, s, h, hi, he => hb i s (by omega) hi (it_loop P E I hx hb hI n (i + 1) (f i s) (by omega) (hI i s (by omega) hi) he)
theorem it_inv {σ : Type} {f : Nat → σ → σ} {p : Nat} (I : Nat → σ → Prop) (hI : ∀ i s, i < p → I i s → I (i + 1) (f i s)) : ∀ n i s, i + n = p → I i s → I p (it f n i s)
  | 0, i, s, h, hi => by
    have : i = p := by omega
    subst this
    exact hi
  | n + 1, i, s, h, hi => it_inv I hI n (i + 1) (f i s) (by omega) (hI i s (by omega) hi)
theorem it_snoc {σ : Type} (f : Nat → σ → σ) : ∀ n i s, it f (n + 1) i s = f (i + n) (it f n i s)
  | 0, i, s => rfl
  | n + 1, i, s => by
    rw [it, it_snoc f n (i + 1) (f i s), it]
    congr 1
    omega
theorem it_congr {σ : Type} {f g : Nat → σ → σ} {p : Nat} (h : ∀ i s, i < p → f i s = g i s) : ∀ n i s, i + n = p → it f n i s = it g n i s
  | 0, i, s, _ => rfl
  | n + 1, i, s, hp => by
    rw [it, it, h i s (by omega)]
    exact it_congr h n (i + 1) (g i s) (by omega)
theorem fill_row (m : Nat → Nat → Int32) (b : Nat) (v : Int32) (n : Nat) : it (fun i (m : Nat → Nat → Int32) => jup m b i v) n 0 m = jrow m b (fun j => if j < n then v else m b j) := by
  induction n with
  | zero => funext x y; rw [jrow_at]; simp only [it]; by_cases h : x = b <;> simp [h]
  | succ n ih =>
    rw [it_snoc, ih]
    funext x y
    rw [jup_at, jrow_at, jrow_at]
    by_cases h : x = b
    · by_cases h2 : y = n
      · simp [h, h2]
      · by_cases h3 : y < n
        · simp [h, h2, h3, Nat.lt_succ_of_lt h3]
        · have : ¬ y < n + 1 := by omega
          simp [h, h2, h3, this]
    · simp [h]
set_option maxRecDepth 20000 in
theorem lp_fill {G : jG} {N : Nat} {κ : Nat → jK} {ρ : Nat → Nat → Option Nat} {ν : Nat → Nat → Int64} {Q : Option Value → jH → Prop} {d : Nat} {b n : Nat} {v : Int32} {μ : Nat → Nat → Int32} (hA : jA N κ b .int n) (K : J G RJ7 cJ7_fill_53178 4 false d Q 0 0 (N, κ, ρ, (it (fun i (m : Nat → Nat → Int32) => jup m b i v) n 0 μ), ν) 20 [some (.ref b), some (.int v), some (.int (nI n)), some (.int (nI n))] []) : J G RJ7 cJ7_fill_53178 4 false d Q 0 0 (N, κ, ρ, μ, ν) 5 [some (.ref b), some (.int v), some (.int (nI 0)), some (.int (nI n))] [] := by
  refine it_loop (f := fun i (m : Nat → Nat → Int32) => jup m b i v) (p := n) (fun i s => J G RJ7 cJ7_fill_53178 4 false d Q 0 0 (N, κ, ρ, s, ν) 5 [some (.ref b), some (.int v), some (.int (nI i)), some (.int (nI n))] []) (fun s => J G RJ7 cJ7_fill_53178 4 false d Q 0 0 (N, κ, ρ, s, ν) 20 [some (.ref b), some (.int v), some (.int (nI n)), some (.int (nI n))] []) (fun _ _ => True) ?_ ?_ (fun _ _ _ _ => trivial) n 0 μ (by omega) trivial K
  · intro s hI K
    refine j_iload_n dJ7_fill_53178_5 rfl ?_
    refine j_iload_n dJ7_fill_53178_6 rfl ?_
    refine k_icmp_ge (tgt := 20) dJ7_fill_53178_7 (by decide) (fun c7 c7' => ?_) (fun c7 c7' => ?_)
    · skip
      exact K
    · skip
      exact absurd (Int32.le_refl _) c7
  · intro i s hi hI K
    (try dsimp only at K)
    refine j_iload_n dJ7_fill_53178_5 rfl ?_
    refine j_iload_n dJ7_fill_53178_6 rfl ?_
    refine k_icmp_ge (tgt := 20) dJ7_fill_53178_7 (by decide) (fun c7 c7' => ?_) (fun c7 c7' => ?_)
    · skip
      exact absurd c7 (nI_ge hi hA.2.2)
    · skip
      refine j_aload_n dJ7_fill_53178_10 rfl ?_
      refine j_iload_n dJ7_fill_53178_11 rfl ?_
      refine j_iload_n dJ7_fill_53178_12 rfl ?_
      refine j_iast (k := i) dJ7_fill_53178_13 hA rfl hi ?_
      refine j_iinc_2 (v := nI (i + 1)) dJ7_fill_53178_14 (nI_add _ _) rfl ?_
      refine j_goto (tgt := 5) dJ7_fill_53178_17 (by decide) ?_
      (try simp only [c7, c7', reduceIte, Bool.false_eq_true, Bool.true_eq_false, and_self, and_true, true_and, and_false, false_and, not_true_eq_false, not_false_eq_true, ne_eq, decide_true, decide_false, if_true, if_false, Bool.not_eq_true, Bool.not_eq_false] at K)
      exact K

set_option maxRecDepth 20000 in
theorem t_fill {G : jG} {N : Nat} {κ : Nat → jK} {ρ : Nat → Nat → Option Nat} {μ : Nat → Nat → Int32} {ν : Nat → Nat → Int64} {b n : Nat} {v : Int32} (hA : jA N κ b .int n) : MT G yJ7_fill_53178 cJ7_fill_53178 4 none 0 0 0 [.ref b, .int v] (N, κ, ρ, μ, ν) none (N, κ, ρ, jrow μ b (fun j => if j < n then v else μ b j), ν) := by
  refine jMT (ini := false) my_J7_fill_53178 (fun h => by cases h) jRv_v (Nat.le_of_ble_eq_true rfl) ?_
  show J G RJ7 cJ7_fill_53178 4 false 0 _ 0 0 (N, κ, ρ, μ, ν) 0 [some (.ref b), some (.int v), none, none] []
  refine j_iconst (v := 0) dJ7_fill_53178_0 (by decide) ?_
  refine j_istore_2 dJ7_fill_53178_1 rfl ?_
  refine j_aload_n dJ7_fill_53178_2 rfl ?_
  refine j_alen dJ7_fill_53178_3 hA ?_
  refine j_istore_3 dJ7_fill_53178_4 rfl ?_
  refine lp_fill hA ?_
  rw [fill_row]
  exact j_vret dJ7_fill_53178_20 ⟨rfl, rfl⟩

theorem fill_rowL (m : Nat → Nat → Int64) (b : Nat) (v : Int64) (n : Nat) : it (fun i (m : Nat → Nat → Int64) => jup m b i v) n 0 m = jrow m b (fun j => if j < n then v else m b j) := by
  induction n with
  | zero => funext x y; rw [jrow_at]; simp only [it]; by_cases h : x = b <;> simp [h]
  | succ n ih =>
    rw [it_snoc, ih]
    funext x y
    rw [jup_at, jrow_at, jrow_at]
    by_cases h : x = b
    · by_cases h2 : y = n
      · simp [h, h2]
      · by_cases h3 : y < n
        · simp [h, h2, h3, Nat.lt_succ_of_lt h3]
        · have : ¬ y < n + 1 := by omega
          simp [h, h2, h3, this]
    · simp [h]
set_option maxRecDepth 20000 in
theorem lp_fillL {G : jG} {N : Nat} {κ : Nat → jK} {ρ : Nat → Nat → Option Nat} {ν : Nat → Nat → Int64} {Q : Option Value → jH → Prop} {d : Nat} {b n : Nat} {v : Int64} {μ : Nat → Nat → Int32} (hA : jA N κ b .long n) (K : J G RJ7 cJ7_fill_d0a16 5 false d Q 0 0 (N, κ, ρ, μ, (it (fun i (m : Nat → Nat → Int64) => jup m b i v) n 0 ν)) 22 [some (.ref b), some (.long v), none, some (.int (nI n)), some (.int (nI n))] []) : J G RJ7 cJ7_fill_d0a16 5 false d Q 0 0 (N, κ, ρ, μ, ν) 6 [some (.ref b), some (.long v), none, some (.int (nI 0)), some (.int (nI n))] [] := by
  refine it_loop (f := fun i (m : Nat → Nat → Int64) => jup m b i v) (p := n) (fun i s => J G RJ7 cJ7_fill_d0a16 5 false d Q 0 0 (N, κ, ρ, μ, s) 6 [some (.ref b), some (.long v), none, some (.int (nI i)), some (.int (nI n))] []) (fun s => J G RJ7 cJ7_fill_d0a16 5 false d Q 0 0 (N, κ, ρ, μ, s) 22 [some (.ref b), some (.long v), none, some (.int (nI n)), some (.int (nI n))] []) (fun _ _ => True) ?_ ?_ (fun _ _ _ _ => trivial) n 0 ν (by omega) trivial K
  · intro s hI K
    refine j_iload_n dJ7_fill_d0a16_6 rfl ?_
    refine j_iload dJ7_fill_d0a16_7 rfl ?_
    refine k_icmp_ge (tgt := 22) dJ7_fill_d0a16_9 (by decide) (fun c9 c9' => ?_) (fun c9 c9' => ?_)
    · skip
      exact K
    · skip
      exact absurd (Int32.le_refl _) c9
  · intro i s hi hI K
    (try dsimp only at K)
    refine j_iload_n dJ7_fill_d0a16_6 rfl ?_
    refine j_iload dJ7_fill_d0a16_7 rfl ?_
    refine k_icmp_ge (tgt := 22) dJ7_fill_d0a16_9 (by decide) (fun c9 c9' => ?_) (fun c9 c9' => ?_)
    · skip
      exact absurd c9 (nI_ge hi hA.2.2)
    · skip
      refine j_aload_n dJ7_fill_d0a16_12 rfl ?_
      refine j_iload_n dJ7_fill_d0a16_13 rfl ?_
      refine j_lload_n dJ7_fill_d0a16_14 rfl ?_
      refine j_last (k := i) dJ7_fill_d0a16_15 hA rfl hi ?_
      refine j_iinc_3 (v := nI (i + 1)) dJ7_fill_d0a16_16 (nI_add _ _) rfl ?_
      refine j_goto (tgt := 6) dJ7_fill_d0a16_19 (by decide) ?_
      (try simp only [c9, c9', reduceIte, Bool.false_eq_true, Bool.true_eq_false, and_self, and_true, true_and, and_false, false_and, not_true_eq_false, not_false_eq_true, ne_eq, decide_true, decide_false, if_true, if_false, Bool.not_eq_true, Bool.not_eq_false] at K)
      exact K

set_option maxRecDepth 20000 in
theorem t_fillL {G : jG} {N : Nat} {κ : Nat → jK} {ρ : Nat → Nat → Option Nat} {μ : Nat → Nat → Int32} {ν : Nat → Nat → Int64} {b n : Nat} {v : Int64} (hA : jA N κ b .long n) : MT G yJ7_fill_d0a16 cJ7_fill_d0a16 5 none 0 0 0 [.ref b, .long v] (N, κ, ρ, μ, ν) none (N, κ, ρ, μ, jrow ν b (fun j => if j < n then v else ν b j)) := by
  refine jMT (ini := false) my_J7_fill_d0a16 (fun h => by cases h) jRv_v (Nat.le_of_ble_eq_true rfl) ?_
  show J G RJ7 cJ7_fill_d0a16 5 false 0 _ 0 0 (N, κ, ρ, μ, ν) 0 [some (.ref b), some (.long v), none, none, none] []
  refine j_iconst (v := 0) dJ7_fill_d0a16_0 (by decide) ?_
  refine j_istore_3 dJ7_fill_d0a16_1 rfl ?_
  refine j_aload_n dJ7_fill_d0a16_2 rfl ?_
  refine j_alen dJ7_fill_d0a16_3 hA ?_
  refine j_istore_4 dJ7_fill_d0a16_4 rfl ?_
  refine lp_fillL hA ?_
  rw [fill_rowL]
  exact j_vret dJ7_fill_d0a16_22 ⟨rfl, rfl⟩
end
section
/-! TOWN: what its methods are, over the memory -/
abbrev jMem : Type := Nat → Nat → Int32
def tSt (μ : jMem) (a w : Nat) : Bool := decide (μ (a + 4) w < if μ 10 w = 3 then 2 else 1)
def tHeld (μ : jMem) (a x y : Nat) : Int32 := μ (a + 5) (x * 5 + y)
def tSet (μ : jMem) (a x y : Nat) (s : Int32) : jMem := jup μ (a + 5) (x * 5 + y) s
def tWF (μ : jMem) (a w : Nat) (n : Int32) : Bool := decide (μ (a + 1) w ≤ n * (μ (a + 2) w + 1))
def tLI (μ : jMem) (a w : Nat) : Bool := decide (μ 12 w ≤ μ (a + 2) w)
def tGo (μ : jMem) (a w : Nat) : jMem := jup μ (a + 2) w (if 7 < μ (a + 2) w + (if μ 10 w = 2 then 2 else 1) then 7 else μ (a + 2) w + (if μ 10 w = 2 then 2 else 1))
def rcp (μ : jMem) (s t n : Nat) : jMem := jrow μ t (fun j => if j < n then μ s j else μ t j)
def tCp (μ : jMem) (a b : Nat) : jMem :=
  let m := rcp (rcp (rcp (rcp (rcp μ (b + 1) (a + 1) 5) (b + 2) (a + 2) 5) (b + 3) (a + 3) 5) (b + 4) (a + 4) 5) (b + 5) (a + 5) 25
  let m := jup m a 6 (m b 6)
  jup m a 7 (m b 7)
def rfl5 (μ : jMem) (t n : Nat) (v : Int32) : jMem := jrow μ t (fun j => if j < n then v else μ t j)
def tLay (μ : jMem) (a : Nat) : jMem :=
  let m := rfl5 (rfl5 (rfl5 (rcp (rcp μ 11 (a + 1) 5) 13 (a + 5) 25) (a + 2) 5 0) (a + 3) 5 0) (a + 4) 5 0
  let m := jup m a 6 (m 9 1)
  jup m a 7 0
theorem five {w : Nat} (h : w < 5) : (w < 5) = True := by simp [h]
set_option maxRecDepth 20000 in
theorem t_stands {G : jG} {N : Nat} {κ : Nat → jK} {ρ : Nat → Nat → Option Nat} {μ : Nat → Nat → Int32} {ν : Nat → Nat → Int64} {a : Nat} (hs : shC N κ ρ) (ht : tw a) {w : Nat} (hw : w < 5) : MT G yX5_stands cX5_stands 2 (some .boolean) 0 0 0 [.ref a, .int (nI w)] (N, κ, ρ, μ, ν) (some (.int (jb (tSt μ a w)))) (N, κ, ρ, μ, ν) := by
  refine jMT (ini := false) my_X5_stands (fun h => by cases h) (jRv_jb _) (Nat.le_of_ble_eq_true rfl) ?_
  show J G RX5 cX5_stands 2 false 0 _ 0 0 (N, κ, ρ, μ, ν) 0 [some (.ref a), some (.int (nI w))] []
  refine j_aload_n dX5_stands_0 rfl ?_
  refine j_getr dX5_stands_1 fl_X5_21 rfl (tO hs ht) (tR4 hs ht) ?_
  refine j_iload_n dX5_stands_4 rfl ?_
  refine j_iald (k := w) dX5_stands_5 (tA4 hs ht) rfl (by omega) ?_
  refine j_aload_n dX5_stands_6 rfl ?_
  refine j_getr dX5_stands_7 fl_X5_34 rfl (tO hs ht) (tR0 hs ht) ?_
  refine j_getr dX5_stands_10 fl_X5_55 rfl (o_9 hs) (r_9_2 hs) ?_
  refine j_iload_n dX5_stands_13 rfl ?_
  refine j_iald (k := w) dX5_stands_14 (a_10 hs) rfl (by omega) ?_
  refine j_iconst (v := 3) dX5_stands_15 (by decide) ?_
  refine j_icmp_ne (tgt := 23) dX5_stands_16 (by decide) (fun c16 => ?_) (fun c16 => ?_)
  · skip
    refine j_iconst (v := 1) dX5_stands_23 (by decide) ?_
    refine k_icmp_ge (tgt := 31) dX5_stands_24 (by decide) (fun c24 c24' => ?_) (fun c24 c24' => ?_)
    · skip
      refine j_iconst (v := 0) dX5_stands_31 (by decide) ?_
      exact j_iret dX5_stands_32 ⟨by simp [tSt, jb, c16, c24, c24'], rfl⟩
    · skip
      refine j_iconst (v := 1) dX5_stands_27 (by decide) ?_
      refine j_goto (tgt := 32) dX5_stands_28 (by decide) ?_
      exact j_iret dX5_stands_32 ⟨by simp [tSt, jb, c16, c24, c24'], rfl⟩
  · skip
    refine j_iconst (v := 2) dX5_stands_19 (by decide) ?_
    refine j_goto (tgt := 24) dX5_stands_20 (by decide) ?_
    refine k_icmp_ge (tgt := 31) dX5_stands_24 (by decide) (fun c24 c24' => ?_) (fun c24 c24' => ?_)
    · skip
      refine j_iconst (v := 0) dX5_stands_31 (by decide) ?_
      exact j_iret dX5_stands_32 ⟨by simp [tSt, jb, c16, c24, c24'], rfl⟩
    · skip
      refine j_iconst (v := 1) dX5_stands_27 (by decide) ?_
      refine j_goto (tgt := 32) dX5_stands_28 (by decide) ?_
      exact j_iret dX5_stands_32 ⟨by simp [tSt, jb, c16, c24, c24'], rfl⟩

set_option maxRecDepth 20000 in
theorem t_heldBy {G : jG} {N : Nat} {κ : Nat → jK} {ρ : Nat → Nat → Option Nat} {μ : Nat → Nat → Int32} {ν : Nat → Nat → Int64} {a : Nat} (hs : shC N κ ρ) (ht : tw a) {x y : Nat} (hx : x < 5) (hy : y < 5) : MT G yX5_heldBy cX5_heldBy 3 (some .int) 0 0 0 [.ref a, .int (nI x), .int (nI y)] (N, κ, ρ, μ, ν) (some (.int (tHeld μ a x y))) (N, κ, ρ, μ, ν) := by
  refine jMT (ini := false) my_X5_heldBy (fun h => by cases h) (jRv_i _) (Nat.le_of_ble_eq_true rfl) ?_
  show J G RX5 cX5_heldBy 3 false 0 _ 0 0 (N, κ, ρ, μ, ν) 0 [some (.ref a), some (.int (nI x)), some (.int (nI y))] []
  refine j_aload_n dX5_heldBy_0 rfl ?_
  refine j_getr dX5_heldBy_1 fl_X5_24 rfl (tO hs ht) (tR5 hs ht) ?_
  refine j_iload_n dX5_heldBy_4 rfl ?_
  refine j_iconst (v := 5) dX5_heldBy_5 (by decide) ?_
  refine j_imul dX5_heldBy_6 ?_
  refine j_iload_n dX5_heldBy_7 rfl ?_
  refine j_iadd dX5_heldBy_8 ?_
  refine j_iald (k := ((x * 5) + y)) dX5_heldBy_9 (tA5 hs ht) (by simp only [jl5, nI_add, pk_mul]) (by omega) ?_
  exact j_iret dX5_heldBy_10 ⟨rfl, rfl⟩

set_option maxRecDepth 20000 in
theorem t_setProp {G : jG} {N : Nat} {κ : Nat → jK} {ρ : Nat → Nat → Option Nat} {μ : Nat → Nat → Int32} {ν : Nat → Nat → Int64} {a : Nat} (hs : shC N κ ρ) (ht : tw a) {x y : Nat} {s : Int32} (hx : x < 5) (hy : y < 5) : MT G yX5_setProp cX5_setProp 4 none 0 0 0 [.ref a, .int (nI x), .int (nI y), .int s] (N, κ, ρ, μ, ν) none (N, κ, ρ, tSet μ a x y s, ν) := by
  refine jMT (ini := false) my_X5_setProp (fun h => by cases h) jRv_v (Nat.le_of_ble_eq_true rfl) ?_
  show J G RX5 cX5_setProp 4 false 0 _ 0 0 (N, κ, ρ, μ, ν) 0 [some (.ref a), some (.int (nI x)), some (.int (nI y)), some (.int s)] []
  refine j_aload_n dX5_setProp_0 rfl ?_
  refine j_getr dX5_setProp_1 fl_X5_24 rfl (tO hs ht) (tR5 hs ht) ?_
  refine j_iload_n dX5_setProp_4 rfl ?_
  refine j_iconst (v := 5) dX5_setProp_5 (by decide) ?_
  refine j_imul dX5_setProp_6 ?_
  refine j_iload_n dX5_setProp_7 rfl ?_
  refine j_iadd dX5_setProp_8 ?_
  refine j_iload_n dX5_setProp_9 rfl ?_
  refine j_iast (k := ((x * 5) + y)) dX5_setProp_10 (tA5 hs ht) (by simp only [jl5, nI_add, pk_mul]) (by omega) ?_
  exact j_vret dX5_setProp_11 ⟨rfl, rfl⟩

set_option maxRecDepth 20000 in
theorem t_goRound {G : jG} {N : Nat} {κ : Nat → jK} {ρ : Nat → Nat → Option Nat} {μ : Nat → Nat → Int32} {ν : Nat → Nat → Int64} {a : Nat} (hs : shC N κ ρ) (ht : tw a) {w : Nat} (hw : w < 5) : MT G yX5_goRound cX5_goRound 3 none 1 0 0 [.ref a, .int (nI w)] (N, κ, ρ, μ, ν) none (N, κ, ρ, tGo μ a w, ν) := by
  refine jMT (ini := false) my_X5_goRound (fun h => by cases h) jRv_v (Nat.le_of_ble_eq_true rfl) ?_
  show J G RX5 cX5_goRound 3 false 1 _ 0 0 (N, κ, ρ, μ, ν) 0 [some (.ref a), some (.int (nI w)), none] []
  refine j_aload_n dX5_goRound_0 rfl ?_
  refine j_getr dX5_goRound_1 fl_X5_34 rfl (tO hs ht) (tR0 hs ht) ?_
  refine j_getr dX5_goRound_4 fl_X5_55 rfl (o_9 hs) (r_9_2 hs) ?_
  refine j_iload_n dX5_goRound_7 rfl ?_
  refine j_iald (k := w) dX5_goRound_8 (a_10 hs) rfl (by omega) ?_
  refine j_iconst (v := 2) dX5_goRound_9 (by decide) ?_
  refine j_icmp_ne (tgt := 17) dX5_goRound_10 (by decide) (fun c10 => ?_) (fun c10 => ?_)
  · skip
    refine j_iconst (v := 1) dX5_goRound_17 (by decide) ?_
    refine j_istore_2 dX5_goRound_18 rfl ?_
    refine j_aload_n dX5_goRound_19 rfl ?_
    refine j_getr dX5_goRound_20 fl_X5_15 rfl (tO hs ht) (tR2 hs ht) ?_
    refine j_iload_n dX5_goRound_23 rfl ?_
    refine j_aload_n dX5_goRound_24 rfl ?_
    refine j_getr dX5_goRound_25 fl_X5_15 rfl (tO hs ht) (tR2 hs ht) ?_
    refine j_iload_n dX5_goRound_28 rfl ?_
    refine j_iald (k := w) dX5_goRound_29 (tA2 hs ht) rfl (by omega) ?_
    refine j_iload_n dX5_goRound_30 rfl ?_
    refine j_iadd dX5_goRound_31 ?_
    refine j_bipush (v := 7) dX5_goRound_32 (by decide) ?_
    refine j_mmin dX5_goRound_34 ml_X5_65 (by omega) (Nat.le_of_ble_eq_true rfl) ?_
    refine j_iast (k := w) dX5_goRound_37 (tA2 hs ht) rfl (by omega) ?_
    exact j_vret dX5_goRound_38 ⟨rfl, by simp only [tGo, c10, reduceIte]⟩
  · skip
    refine j_iconst (v := 2) dX5_goRound_13 (by decide) ?_
    refine j_goto (tgt := 18) dX5_goRound_14 (by decide) ?_
    refine j_istore_2 dX5_goRound_18 rfl ?_
    refine j_aload_n dX5_goRound_19 rfl ?_
    refine j_getr dX5_goRound_20 fl_X5_15 rfl (tO hs ht) (tR2 hs ht) ?_
    refine j_iload_n dX5_goRound_23 rfl ?_
    refine j_aload_n dX5_goRound_24 rfl ?_
    refine j_getr dX5_goRound_25 fl_X5_15 rfl (tO hs ht) (tR2 hs ht) ?_
    refine j_iload_n dX5_goRound_28 rfl ?_
    refine j_iald (k := w) dX5_goRound_29 (tA2 hs ht) rfl (by omega) ?_
    refine j_iload_n dX5_goRound_30 rfl ?_
    refine j_iadd dX5_goRound_31 ?_
    refine j_bipush (v := 7) dX5_goRound_32 (by decide) ?_
    refine j_mmin dX5_goRound_34 ml_X5_65 (by omega) (Nat.le_of_ble_eq_true rfl) ?_
    refine j_iast (k := w) dX5_goRound_37 (tA2 hs ht) rfl (by omega) ?_
    exact j_vret dX5_goRound_38 ⟨rfl, by simp only [tGo, c10, reduceIte]⟩

set_option maxRecDepth 20000 in
theorem t_wouldFall {G : jG} {N : Nat} {κ : Nat → jK} {ρ : Nat → Nat → Option Nat} {μ : Nat → Nat → Int32} {ν : Nat → Nat → Int64} {a : Nat} (hs : shC N κ ρ) (ht : tw a) {w : Nat} {n : Int32} (hw : w < 5) : MT G yX5_wouldFall cX5_wouldFall 3 (some .boolean) 0 0 0 [.ref a, .int (nI w), .int n] (N, κ, ρ, μ, ν) (some (.int (jb (tWF μ a w n)))) (N, κ, ρ, μ, ν) := by
  refine jMT (ini := false) my_X5_wouldFall (fun h => by cases h) (jRv_jb _) (Nat.le_of_ble_eq_true rfl) ?_
  show J G RX5 cX5_wouldFall 3 false 0 _ 0 0 (N, κ, ρ, μ, ν) 0 [some (.ref a), some (.int (nI w)), some (.int n)] []
  refine j_iload_n dX5_wouldFall_0 rfl ?_
  refine j_aload_n dX5_wouldFall_1 rfl ?_
  refine j_getr dX5_wouldFall_2 fl_X5_15 rfl (tO hs ht) (tR2 hs ht) ?_
  refine j_iload_n dX5_wouldFall_5 rfl ?_
  refine j_iald (k := w) dX5_wouldFall_6 (tA2 hs ht) rfl (by omega) ?_
  refine j_iconst (v := 1) dX5_wouldFall_7 (by decide) ?_
  refine j_iadd dX5_wouldFall_8 ?_
  refine j_imul dX5_wouldFall_9 ?_
  refine j_aload_n dX5_wouldFall_10 rfl ?_
  refine j_getr dX5_wouldFall_11 fl_X5_9 rfl (tO hs ht) (tR1 hs ht) ?_
  refine j_iload_n dX5_wouldFall_14 rfl ?_
  refine j_iald (k := w) dX5_wouldFall_15 (tA1 hs ht) rfl (by omega) ?_
  refine k_icmp_lt (tgt := 23) dX5_wouldFall_16 (by decide) (fun c16 c16' => ?_) (fun c16 c16' => ?_)
  · skip
    refine j_iconst (v := 0) dX5_wouldFall_23 (by decide) ?_
    exact j_iret dX5_wouldFall_24 ⟨by simp [tWF, jb, c16, c16'], rfl⟩
  · skip
    refine j_iconst (v := 1) dX5_wouldFall_19 (by decide) ?_
    refine j_goto (tgt := 24) dX5_wouldFall_20 (by decide) ?_
    exact j_iret dX5_wouldFall_24 ⟨by simp [tWF, jb, c16, c16'], rfl⟩

set_option maxRecDepth 20000 in
theorem t_leansInward {G : jG} {N : Nat} {κ : Nat → jK} {ρ : Nat → Nat → Option Nat} {μ : Nat → Nat → Int32} {ν : Nat → Nat → Int64} {a : Nat} (hs : shC N κ ρ) (ht : tw a) {w : Nat} (hw : w < 5) : MT G yX5_leansInward cX5_leansInward 2 (some .boolean) 0 0 0 [.ref a, .int (nI w)] (N, κ, ρ, μ, ν) (some (.int (jb (tLI μ a w)))) (N, κ, ρ, μ, ν) := by
  refine jMT (ini := false) my_X5_leansInward (fun h => by cases h) (jRv_jb _) (Nat.le_of_ble_eq_true rfl) ?_
  show J G RX5 cX5_leansInward 2 false 0 _ 0 0 (N, κ, ρ, μ, ν) 0 [some (.ref a), some (.int (nI w))] []
  refine j_aload_n dX5_leansInward_0 rfl ?_
  refine j_getr dX5_leansInward_1 fl_X5_15 rfl (tO hs ht) (tR2 hs ht) ?_
  refine j_iload_n dX5_leansInward_4 rfl ?_
  refine j_iald (k := w) dX5_leansInward_5 (tA2 hs ht) rfl (by omega) ?_
  refine j_aload_n dX5_leansInward_6 rfl ?_
  refine j_getr dX5_leansInward_7 fl_X5_34 rfl (tO hs ht) (tR0 hs ht) ?_
  refine j_getr dX5_leansInward_10 fl_X5_70 rfl (o_9 hs) (r_9_4 hs) ?_
  refine j_iload_n dX5_leansInward_13 rfl ?_
  refine j_iald (k := w) dX5_leansInward_14 (a_12 hs) rfl (by omega) ?_
  refine k_icmp_lt (tgt := 22) dX5_leansInward_15 (by decide) (fun c15 c15' => ?_) (fun c15 c15' => ?_)
  · skip
    refine j_iconst (v := 0) dX5_leansInward_22 (by decide) ?_
    exact j_iret dX5_leansInward_23 ⟨by simp [tLI, jb, c15, c15'], rfl⟩
  · skip
    refine j_iconst (v := 1) dX5_leansInward_18 (by decide) ?_
    refine j_goto (tgt := 23) dX5_leansInward_19 (by decide) ?_
    exact j_iret dX5_leansInward_23 ⟨by simp [tLI, jb, c15, c15'], rfl⟩

set_option maxRecDepth 20000 in
theorem t_copyFrom {G : jG} {N : Nat} {κ : Nat → jK} {ρ : Nat → Nat → Option Nat} {μ : Nat → Nat → Int32} {ν : Nat → Nat → Int64} {a : Nat} (hs : shC N κ ρ) (ht : tw a) {b : Nat} (hb : tw b) : MT G yX5_copyFrom cX5_copyFrom 2 none 1 0 0 [.ref a, .ref b] (N, κ, ρ, μ, ν) none (N, κ, ρ, tCp μ a b, ν) := by
  refine jMT (ini := false) my_X5_copyFrom (fun h => by cases h) jRv_v (Nat.le_of_ble_eq_true rfl) ?_
  show J G RX5 cX5_copyFrom 2 false 1 _ 0 0 (N, κ, ρ, μ, ν) 0 [some (.ref a), some (.ref b)] []
  refine j_aload_n dX5_copyFrom_0 rfl ?_
  refine j_getr dX5_copyFrom_1 fl_X5_9 rfl (tO hs hb) (tR1 hs hb) ?_
  refine j_iconst (v := 0) dX5_copyFrom_4 (by decide) ?_
  refine j_aload_n dX5_copyFrom_5 rfl ?_
  refine j_getr dX5_copyFrom_6 fl_X5_9 rfl (tO hs ht) (tR1 hs ht) ?_
  refine j_iconst (v := 0) dX5_copyFrom_9 (by decide) ?_
  refine j_iconst (v := 5) dX5_copyFrom_10 (by decide) ?_
  refine j_copyi (k := 5) dX5_copyFrom_11 ml_X5_41 (tA1 hs hb) (tA1 hs ht) rfl (by omega) (by omega) (by omega) (Nat.le_of_ble_eq_true rfl) ?_
  refine j_aload_n dX5_copyFrom_14 rfl ?_
  refine j_getr dX5_copyFrom_15 fl_X5_15 rfl (tO hs hb) (tR2 hs hb) ?_
  refine j_iconst (v := 0) dX5_copyFrom_18 (by decide) ?_
  refine j_aload_n dX5_copyFrom_19 rfl ?_
  refine j_getr dX5_copyFrom_20 fl_X5_15 rfl (tO hs ht) (tR2 hs ht) ?_
  refine j_iconst (v := 0) dX5_copyFrom_23 (by decide) ?_
  refine j_iconst (v := 5) dX5_copyFrom_24 (by decide) ?_
  refine j_copyi (k := 5) dX5_copyFrom_25 ml_X5_41 (tA2 hs hb) (tA2 hs ht) rfl (by omega) (by omega) (by omega) (Nat.le_of_ble_eq_true rfl) ?_
  refine j_aload_n dX5_copyFrom_28 rfl ?_
  refine j_getr dX5_copyFrom_29 fl_X5_18 rfl (tO hs hb) (tR3 hs hb) ?_
  refine j_iconst (v := 0) dX5_copyFrom_32 (by decide) ?_
  refine j_aload_n dX5_copyFrom_33 rfl ?_
  refine j_getr dX5_copyFrom_34 fl_X5_18 rfl (tO hs ht) (tR3 hs ht) ?_
  refine j_iconst (v := 0) dX5_copyFrom_37 (by decide) ?_
  refine j_iconst (v := 5) dX5_copyFrom_38 (by decide) ?_
  refine j_copyi (k := 5) dX5_copyFrom_39 ml_X5_41 (tA3 hs hb) (tA3 hs ht) rfl (by omega) (by omega) (by omega) (Nat.le_of_ble_eq_true rfl) ?_
  refine j_aload_n dX5_copyFrom_42 rfl ?_
  refine j_getr dX5_copyFrom_43 fl_X5_21 rfl (tO hs hb) (tR4 hs hb) ?_
  refine j_iconst (v := 0) dX5_copyFrom_46 (by decide) ?_
  refine j_aload_n dX5_copyFrom_47 rfl ?_
  refine j_getr dX5_copyFrom_48 fl_X5_21 rfl (tO hs ht) (tR4 hs ht) ?_
  refine j_iconst (v := 0) dX5_copyFrom_51 (by decide) ?_
  refine j_iconst (v := 5) dX5_copyFrom_52 (by decide) ?_
  refine j_copyi (k := 5) dX5_copyFrom_53 ml_X5_41 (tA4 hs hb) (tA4 hs ht) rfl (by omega) (by omega) (by omega) (Nat.le_of_ble_eq_true rfl) ?_
  refine j_aload_n dX5_copyFrom_56 rfl ?_
  refine j_getr dX5_copyFrom_57 fl_X5_24 rfl (tO hs hb) (tR5 hs hb) ?_
  refine j_iconst (v := 0) dX5_copyFrom_60 (by decide) ?_
  refine j_aload_n dX5_copyFrom_61 rfl ?_
  refine j_getr dX5_copyFrom_62 fl_X5_24 rfl (tO hs ht) (tR5 hs ht) ?_
  refine j_iconst (v := 0) dX5_copyFrom_65 (by decide) ?_
  refine j_aload_n dX5_copyFrom_66 rfl ?_
  refine j_getr dX5_copyFrom_67 fl_X5_24 rfl (tO hs ht) (tR5 hs ht) ?_
  refine j_alen dX5_copyFrom_70 (tA5 hs ht) ?_
  refine j_copyi (k := 25) dX5_copyFrom_71 ml_X5_41 (tA5 hs hb) (tA5 hs ht) rfl (by omega) (by omega) (by omega) (Nat.le_of_ble_eq_true rfl) ?_
  refine j_aload_n dX5_copyFrom_74 rfl ?_
  refine j_aload_n dX5_copyFrom_75 rfl ?_
  refine j_geti dX5_copyFrom_76 fl_X5_27 rfl (tO hs hb) ?_
  refine j_puti dX5_copyFrom_79 fl_X5_27 rfl (tO hs ht) ?_
  refine j_aload_n dX5_copyFrom_82 rfl ?_
  refine j_aload_n dX5_copyFrom_83 rfl ?_
  refine j_geti dX5_copyFrom_84 fl_X5_31 rfl (tO hs hb) ?_
  refine j_puti dX5_copyFrom_87 fl_X5_31 rfl (tO hs ht) ?_
  exact j_vret dX5_copyFrom_90 ⟨rfl, rfl⟩

set_option maxRecDepth 20000 in
theorem t_layOut {G : jG} {N : Nat} {κ : Nat → jK} {ρ : Nat → Nat → Option Nat} {μ : Nat → Nat → Int32} {ν : Nat → Nat → Int64} {a : Nat} (hs : shC N κ ρ) (ht : tw a) : MT G yX5_layOut cX5_layOut 1 none 1 0 0 [.ref a] (N, κ, ρ, μ, ν) none (N, κ, ρ, tLay μ a, ν) := by
  refine jMT (ini := false) my_X5_layOut (fun h => by cases h) jRv_v (Nat.le_of_ble_eq_true rfl) ?_
  show J G RX5 cX5_layOut 1 false 1 _ 0 0 (N, κ, ρ, μ, ν) 0 [some (.ref a)] []
  refine j_aload_n dX5_layOut_0 rfl ?_
  refine j_getr dX5_layOut_1 fl_X5_34 rfl (tO hs ht) (tR0 hs ht) ?_
  refine j_getr dX5_layOut_4 fl_X5_38 rfl (o_9 hs) (r_9_3 hs) ?_
  refine j_iconst (v := 0) dX5_layOut_7 (by decide) ?_
  refine j_aload_n dX5_layOut_8 rfl ?_
  refine j_getr dX5_layOut_9 fl_X5_9 rfl (tO hs ht) (tR1 hs ht) ?_
  refine j_iconst (v := 0) dX5_layOut_12 (by decide) ?_
  refine j_iconst (v := 5) dX5_layOut_13 (by decide) ?_
  refine j_copyi (k := 5) dX5_layOut_14 ml_X5_41 (a_11 hs) (tA1 hs ht) rfl (by omega) (by omega) (by omega) (Nat.le_of_ble_eq_true rfl) ?_
  refine j_aload_n dX5_layOut_17 rfl ?_
  refine j_getr dX5_layOut_18 fl_X5_34 rfl (tO hs ht) (tR0 hs ht) ?_
  refine j_getr dX5_layOut_21 fl_X5_47 rfl (o_9 hs) (r_9_5 hs) ?_
  refine j_iconst (v := 0) dX5_layOut_24 (by decide) ?_
  refine j_aload_n dX5_layOut_25 rfl ?_
  refine j_getr dX5_layOut_26 fl_X5_24 rfl (tO hs ht) (tR5 hs ht) ?_
  refine j_iconst (v := 0) dX5_layOut_29 (by decide) ?_
  refine j_aload_n dX5_layOut_30 rfl ?_
  refine j_getr dX5_layOut_31 fl_X5_24 rfl (tO hs ht) (tR5 hs ht) ?_
  refine j_alen dX5_layOut_34 (tA5 hs ht) ?_
  refine j_copyi (k := 25) dX5_layOut_35 ml_X5_41 (a_13 hs) (tA5 hs ht) rfl (by omega) (by omega) (by omega) (Nat.le_of_ble_eq_true rfl) ?_
  refine j_aload_n dX5_layOut_38 rfl ?_
  refine j_getr dX5_layOut_39 fl_X5_15 rfl (tO hs ht) (tR2 hs ht) ?_
  refine j_iconst (v := 0) dX5_layOut_42 (by decide) ?_
  refine j_cS2v dX5_layOut_43 (t_fill (tA2 hs ht)) ml_X5_48 my_J7_fill_53178 ms_J7_fill_53178 (by omega) (Nat.le_of_ble_eq_true rfl) (Nat.le_of_ble_eq_true rfl) ?_
  refine j_aload_n dX5_layOut_46 rfl ?_
  refine j_getr dX5_layOut_47 fl_X5_18 rfl (tO hs ht) (tR3 hs ht) ?_
  refine j_iconst (v := 0) dX5_layOut_50 (by decide) ?_
  refine j_cS2v dX5_layOut_51 (t_fill (tA3 hs ht)) ml_X5_48 my_J7_fill_53178 ms_J7_fill_53178 (by omega) (Nat.le_of_ble_eq_true rfl) (Nat.le_of_ble_eq_true rfl) ?_
  refine j_aload_n dX5_layOut_54 rfl ?_
  refine j_getr dX5_layOut_55 fl_X5_21 rfl (tO hs ht) (tR4 hs ht) ?_
  refine j_iconst (v := 0) dX5_layOut_58 (by decide) ?_
  refine j_cS2v dX5_layOut_59 (t_fill (tA4 hs ht)) ml_X5_48 my_J7_fill_53178 ms_J7_fill_53178 (by omega) (Nat.le_of_ble_eq_true rfl) (Nat.le_of_ble_eq_true rfl) ?_
  refine j_aload_n dX5_layOut_62 rfl ?_
  refine j_aload_n dX5_layOut_63 rfl ?_
  refine j_getr dX5_layOut_64 fl_X5_34 rfl (tO hs ht) (tR0 hs ht) ?_
  refine j_geti dX5_layOut_67 fl_X5_54 rfl (o_9 hs) ?_
  refine j_puti dX5_layOut_70 fl_X5_27 rfl (tO hs ht) ?_
  refine j_aload_n dX5_layOut_73 rfl ?_
  refine j_iconst (v := 0) dX5_layOut_74 (by decide) ?_
  refine j_puti dX5_layOut_75 fl_X5_31 rfl (tO hs ht) ?_
  exact j_vret dX5_layOut_78 ⟨rfl, rfl⟩
end
