section
-- ===== PART A: goes FIRST, ahead of the names: the tables' words, and 'selects' of the private methods out of them =====
/-- a private method of a class that the tables say can be made, by its rows of tables_1 -/
def lw_okq (q : MethodName × Nat) : Prop := (q.1.cls ≠ "java/lang/invoke/MethodHandle" ∧ q.1.cls ≠ "java/lang/invoke/VarHandle") ∧ Cond.instantiable q.1.cls q.2 ∈ tables_1 ∧ Cond.privateMethod q.1 ∈ tables_1 ∧ Cond.instanceMethod q.1 ∈ tables_1
theorem lw_p0 : lw_okq (⟨"BallInCup$Reader", "begin", "()V"⟩, 6) := ⟨⟨by decide +kernel, by decide +kernel⟩, List.mem_of_getElem? (i := 233) (by decide +kernel), List.mem_of_getElem? (i := 394) (by decide +kernel), List.mem_of_getElem? (i := 395) (by decide +kernel)⟩
theorem lw_p1 : lw_okq (⟨"BallInCup$Reader", "takes", "(I)Z"⟩, 6) := ⟨⟨by decide +kernel, by decide +kernel⟩, List.mem_of_getElem? (i := 233) (by decide +kernel), List.mem_of_getElem? (i := 399) (by decide +kernel), List.mem_of_getElem? (i := 400) (by decide +kernel)⟩
theorem lw_p2 : lw_okq (⟨"BallInCup$Reader", "next", "()I"⟩, 6) := ⟨⟨by decide +kernel, by decide +kernel⟩, List.mem_of_getElem? (i := 233) (by decide +kernel), List.mem_of_getElem? (i := 403) (by decide +kernel), List.mem_of_getElem? (i := 404) (by decide +kernel)⟩
theorem lw_p3 : lw_okq (⟨"BallInCup$Reader", "readCup", "()V"⟩, 6) := ⟨⟨by decide +kernel, by decide +kernel⟩, List.mem_of_getElem? (i := 233) (by decide +kernel), List.mem_of_getElem? (i := 407) (by decide +kernel), List.mem_of_getElem? (i := 408) (by decide +kernel)⟩
theorem lw_p4 : lw_okq (⟨"BallInCup$Reader", "signedDigit", "()I"⟩, 6) := ⟨⟨by decide +kernel, by decide +kernel⟩, List.mem_of_getElem? (i := 233) (by decide +kernel), List.mem_of_getElem? (i := 411) (by decide +kernel), List.mem_of_getElem? (i := 412) (by decide +kernel)⟩
theorem lw_p5 : lw_okq (⟨"BallInCup$Reader", "digit", "()I"⟩, 6) := ⟨⟨by decide +kernel, by decide +kernel⟩, List.mem_of_getElem? (i := 233) (by decide +kernel), List.mem_of_getElem? (i := 415) (by decide +kernel), List.mem_of_getElem? (i := 416) (by decide +kernel)⟩
theorem lw_p6 : lw_okq (⟨"BallInCup$Reader", "faultAt", "(I)V"⟩, 6) := ⟨⟨by decide +kernel, by decide +kernel⟩, List.mem_of_getElem? (i := 233) (by decide +kernel), List.mem_of_getElem? (i := 420) (by decide +kernel), List.mem_of_getElem? (i := 421) (by decide +kernel)⟩
theorem lw_p7 : lw_okq (⟨"BallInCup$Reader", "number", "(II)I"⟩, 6) := ⟨⟨by decide +kernel, by decide +kernel⟩, List.mem_of_getElem? (i := 233) (by decide +kernel), List.mem_of_getElem? (i := 424) (by decide +kernel), List.mem_of_getElem? (i := 425) (by decide +kernel)⟩
theorem lw_p8 : lw_okq (⟨"BallInCup$Reader", "finish", "(I)I"⟩, 6) := ⟨⟨by decide +kernel, by decide +kernel⟩, List.mem_of_getElem? (i := 233) (by decide +kernel), List.mem_of_getElem? (i := 432) (by decide +kernel), List.mem_of_getElem? (i := 433) (by decide +kernel)⟩
theorem lw_p9 : lw_okq (⟨"BallInCup$Reader", "readPart", "()V"⟩, 6) := ⟨⟨by decide +kernel, by decide +kernel⟩, List.mem_of_getElem? (i := 233) (by decide +kernel), List.mem_of_getElem? (i := 450) (by decide +kernel), List.mem_of_getElem? (i := 451) (by decide +kernel)⟩
theorem lw_p10 : lw_okq (⟨"BallInCup$Try", "goStep", "()V"⟩, 17) := ⟨⟨by decide +kernel, by decide +kernel⟩, List.mem_of_getElem? (i := 87) (by decide +kernel), List.mem_of_getElem? (i := 476) (by decide +kernel), List.mem_of_getElem? (i := 477) (by decide +kernel)⟩
theorem lw_p11 : lw_okq (⟨"BallInCup$Try", "lateSide", "()I"⟩, 17) := ⟨⟨by decide +kernel, by decide +kernel⟩, List.mem_of_getElem? (i := 87) (by decide +kernel), List.mem_of_getElem? (i := 480) (by decide +kernel), List.mem_of_getElem? (i := 481) (by decide +kernel)⟩
theorem lw_p12 : lw_okq (⟨"BallInCup$Try", "holdByCord", "()V"⟩, 17) := ⟨⟨by decide +kernel, by decide +kernel⟩, List.mem_of_getElem? (i := 87) (by decide +kernel), List.mem_of_getElem? (i := 492) (by decide +kernel), List.mem_of_getElem? (i := 493) (by decide +kernel)⟩
theorem lw_p13 : lw_okq (⟨"BallInCup$Try", "wholeRoot", "(I)I"⟩, 17) := ⟨⟨by decide +kernel, by decide +kernel⟩, List.mem_of_getElem? (i := 87) (by decide +kernel), List.mem_of_getElem? (i := 499) (by decide +kernel), List.mem_of_getElem? (i := 500) (by decide +kernel)⟩
theorem lw_p14 : lw_okq (⟨"BallInCup$Try", "metCup", "(I)I"⟩, 17) := ⟨⟨by decide +kernel, by decide +kernel⟩, List.mem_of_getElem? (i := 87) (by decide +kernel), List.mem_of_getElem? (i := 505) (by decide +kernel), List.mem_of_getElem? (i := 506) (by decide +kernel)⟩
theorem lw_p15 : lw_okq (⟨"BallInCup$Try", "comeDownOn", "(I)V"⟩, 17) := ⟨⟨by decide +kernel, by decide +kernel⟩, List.mem_of_getElem? (i := 87) (by decide +kernel), List.mem_of_getElem? (i := 512) (by decide +kernel), List.mem_of_getElem? (i := 513) (by decide +kernel)⟩
def lw_privs_1 : List (MethodName × Nat) := [(⟨"BallInCup$Reader", "begin", "()V"⟩, 6), (⟨"BallInCup$Reader", "takes", "(I)Z"⟩, 6), (⟨"BallInCup$Reader", "next", "()I"⟩, 6), (⟨"BallInCup$Reader", "readCup", "()V"⟩, 6), (⟨"BallInCup$Reader", "signedDigit", "()I"⟩, 6), (⟨"BallInCup$Reader", "digit", "()I"⟩, 6), (⟨"BallInCup$Reader", "faultAt", "(I)V"⟩, 6), (⟨"BallInCup$Reader", "number", "(II)I"⟩, 6), (⟨"BallInCup$Reader", "finish", "(I)I"⟩, 6), (⟨"BallInCup$Reader", "readPart", "()V"⟩, 6), (⟨"BallInCup$Try", "goStep", "()V"⟩, 17), (⟨"BallInCup$Try", "lateSide", "()I"⟩, 17), (⟨"BallInCup$Try", "holdByCord", "()V"⟩, 17), (⟨"BallInCup$Try", "wholeRoot", "(I)I"⟩, 17), (⟨"BallInCup$Try", "metCup", "(I)I"⟩, 17), (⟨"BallInCup$Try", "comeDownOn", "(I)V"⟩, 17)]
theorem lw_r1 : ∀ q ∈ lw_privs_1, lw_okq q := List.forall_mem_cons.mpr ⟨lw_p0, List.forall_mem_cons.mpr ⟨lw_p1, List.forall_mem_cons.mpr ⟨lw_p2, List.forall_mem_cons.mpr ⟨lw_p3, List.forall_mem_cons.mpr ⟨lw_p4, List.forall_mem_cons.mpr ⟨lw_p5, List.forall_mem_cons.mpr ⟨lw_p6, List.forall_mem_cons.mpr ⟨lw_p7, List.forall_mem_cons.mpr ⟨lw_p8, List.forall_mem_cons.mpr ⟨lw_p9, List.forall_mem_cons.mpr ⟨lw_p10, List.forall_mem_cons.mpr ⟨lw_p11, List.forall_mem_cons.mpr ⟨lw_p12, List.forall_mem_cons.mpr ⟨lw_p13, List.forall_mem_cons.mpr ⟨lw_p14, List.forall_mem_cons.mpr ⟨lw_p15, fun _ h => absurd h List.not_mem_nil⟩⟩⟩⟩⟩⟩⟩⟩⟩⟩⟩⟩⟩⟩⟩⟩
theorem lw_p16 : lw_okq (⟨"BallInCup$Grid", "cellFrom", "(II)I"⟩, 5) := ⟨⟨by decide +kernel, by decide +kernel⟩, List.mem_of_getElem? (i := 197) (by decide +kernel), List.mem_of_getElem? (i := 565) (by decide +kernel), List.mem_of_getElem? (i := 566) (by decide +kernel)⟩
theorem lw_p17 : lw_okq (⟨"BallInCup$Grid", "join", "(III)I"⟩, 5) := ⟨⟨by decide +kernel, by decide +kernel⟩, List.mem_of_getElem? (i := 197) (by decide +kernel), List.mem_of_getElem? (i := 569) (by decide +kernel), List.mem_of_getElem? (i := 570) (by decide +kernel)⟩
theorem lw_p18 : lw_okq (⟨"BallInCup$Grid", "isWhole", "(IIII)Z"⟩, 5) := ⟨⟨by decide +kernel, by decide +kernel⟩, List.mem_of_getElem? (i := 197) (by decide +kernel), List.mem_of_getElem? (i := 587) (by decide +kernel), List.mem_of_getElem? (i := 588) (by decide +kernel)⟩
theorem lw_p19 : lw_okq (⟨"BallInCup$Plan", "mostFrom", "(LBallInCup$Table;II)I"⟩, 1) := ⟨⟨by decide +kernel, by decide +kernel⟩, List.mem_of_getElem? (i := 222) (by decide +kernel), List.mem_of_getElem? (i := 628) (by decide +kernel), List.mem_of_getElem? (i := 629) (by decide +kernel)⟩
theorem lw_p20 : lw_okq (⟨"BallInCup$Plan", "gainBy", "(LBallInCup$Table;III)I"⟩, 1) := ⟨⟨by decide +kernel, by decide +kernel⟩, List.mem_of_getElem? (i := 222) (by decide +kernel), List.mem_of_getElem? (i := 633) (by decide +kernel), List.mem_of_getElem? (i := 634) (by decide +kernel)⟩
theorem lw_p21 : lw_okq (⟨"BallInCup$Plan", "mostTimes", "(LBallInCup$Table;II)I"⟩, 1) := ⟨⟨by decide +kernel, by decide +kernel⟩, List.mem_of_getElem? (i := 222) (by decide +kernel), List.mem_of_getElem? (i := 646) (by decide +kernel), List.mem_of_getElem? (i := 647) (by decide +kernel)⟩
theorem lw_p22 : lw_okq (⟨"BallInCup", "isShown", "(IIII)Z"⟩, 8) := ⟨⟨by decide +kernel, by decide +kernel⟩, List.mem_of_getElem? (i := 16) (by decide +kernel), List.mem_of_getElem? (i := 694) (by decide +kernel), List.mem_of_getElem? (i := 695) (by decide +kernel)⟩
theorem lw_p23 : lw_okq (⟨"BallInCupModel", "cupIs", "(IIIIII)V"⟩, 41) := ⟨⟨by decide +kernel, by decide +kernel⟩, List.mem_of_getElem? (i := 759) (by decide +kernel), List.mem_of_getElem? (i := 908) (by decide +kernel), List.mem_of_getElem? (i := 909) (by decide +kernel)⟩
theorem lw_p24 : lw_okq (⟨"BallInCupModel", "isCup", "(I)Z"⟩, 41) := ⟨⟨by decide +kernel, by decide +kernel⟩, List.mem_of_getElem? (i := 759) (by decide +kernel), List.mem_of_getElem? (i := 916) (by decide +kernel), List.mem_of_getElem? (i := 917) (by decide +kernel)⟩
theorem lw_p25 : lw_okq (⟨"BallInCupModel", "partIs", "(IIII)V"⟩, 41) := ⟨⟨by decide +kernel, by decide +kernel⟩, List.mem_of_getElem? (i := 759) (by decide +kernel), List.mem_of_getElem? (i := 925) (by decide +kernel), List.mem_of_getElem? (i := 926) (by decide +kernel)⟩
theorem lw_p26 : lw_okq (⟨"BallInCupModel", "readAll", "(Z)I"⟩, 41) := ⟨⟨by decide +kernel, by decide +kernel⟩, List.mem_of_getElem? (i := 759) (by decide +kernel), List.mem_of_getElem? (i := 949) (by decide +kernel), List.mem_of_getElem? (i := 950) (by decide +kernel)⟩
theorem lw_p27 : lw_okq (⟨"BallInCupModel", "cupClause", "(I)V"⟩, 41) := ⟨⟨by decide +kernel, by decide +kernel⟩, List.mem_of_getElem? (i := 759) (by decide +kernel), List.mem_of_getElem? (i := 953) (by decide +kernel), List.mem_of_getElem? (i := 954) (by decide +kernel)⟩
theorem lw_p28 : lw_okq (⟨"BallInCupModel", "signed", "()I"⟩, 41) := ⟨⟨by decide +kernel, by decide +kernel⟩, List.mem_of_getElem? (i := 759) (by decide +kernel), List.mem_of_getElem? (i := 957) (by decide +kernel), List.mem_of_getElem? (i := 958) (by decide +kernel)⟩
theorem lw_p29 : lw_okq (⟨"BallInCupModel", "has", "(I)Z"⟩, 41) := ⟨⟨by decide +kernel, by decide +kernel⟩, List.mem_of_getElem? (i := 759) (by decide +kernel), List.mem_of_getElem? (i := 961) (by decide +kernel), List.mem_of_getElem? (i := 962) (by decide +kernel)⟩
theorem lw_p30 : lw_okq (⟨"BallInCupModel", "here", "()I"⟩, 41) := ⟨⟨by decide +kernel, by decide +kernel⟩, List.mem_of_getElem? (i := 759) (by decide +kernel), List.mem_of_getElem? (i := 965) (by decide +kernel), List.mem_of_getElem? (i := 966) (by decide +kernel)⟩
theorem lw_p31 : lw_okq (⟨"BallInCupModel", "digit", "()I"⟩, 41) := ⟨⟨by decide +kernel, by decide +kernel⟩, List.mem_of_getElem? (i := 759) (by decide +kernel), List.mem_of_getElem? (i := 969) (by decide +kernel), List.mem_of_getElem? (i := 970) (by decide +kernel)⟩
def lw_privs_2 : List (MethodName × Nat) := [(⟨"BallInCup$Grid", "cellFrom", "(II)I"⟩, 5), (⟨"BallInCup$Grid", "join", "(III)I"⟩, 5), (⟨"BallInCup$Grid", "isWhole", "(IIII)Z"⟩, 5), (⟨"BallInCup$Plan", "mostFrom", "(LBallInCup$Table;II)I"⟩, 1), (⟨"BallInCup$Plan", "gainBy", "(LBallInCup$Table;III)I"⟩, 1), (⟨"BallInCup$Plan", "mostTimes", "(LBallInCup$Table;II)I"⟩, 1), (⟨"BallInCup", "isShown", "(IIII)Z"⟩, 8), (⟨"BallInCupModel", "cupIs", "(IIIIII)V"⟩, 41), (⟨"BallInCupModel", "isCup", "(I)Z"⟩, 41), (⟨"BallInCupModel", "partIs", "(IIII)V"⟩, 41), (⟨"BallInCupModel", "readAll", "(Z)I"⟩, 41), (⟨"BallInCupModel", "cupClause", "(I)V"⟩, 41), (⟨"BallInCupModel", "signed", "()I"⟩, 41), (⟨"BallInCupModel", "has", "(I)Z"⟩, 41), (⟨"BallInCupModel", "here", "()I"⟩, 41), (⟨"BallInCupModel", "digit", "()I"⟩, 41)]
theorem lw_r2 : ∀ q ∈ lw_privs_2, lw_okq q := List.forall_mem_cons.mpr ⟨lw_p16, List.forall_mem_cons.mpr ⟨lw_p17, List.forall_mem_cons.mpr ⟨lw_p18, List.forall_mem_cons.mpr ⟨lw_p19, List.forall_mem_cons.mpr ⟨lw_p20, List.forall_mem_cons.mpr ⟨lw_p21, List.forall_mem_cons.mpr ⟨lw_p22, List.forall_mem_cons.mpr ⟨lw_p23, List.forall_mem_cons.mpr ⟨lw_p24, List.forall_mem_cons.mpr ⟨lw_p25, List.forall_mem_cons.mpr ⟨lw_p26, List.forall_mem_cons.mpr ⟨lw_p27, List.forall_mem_cons.mpr ⟨lw_p28, List.forall_mem_cons.mpr ⟨lw_p29, List.forall_mem_cons.mpr ⟨lw_p30, List.forall_mem_cons.mpr ⟨lw_p31, fun _ h => absurd h List.not_mem_nil⟩⟩⟩⟩⟩⟩⟩⟩⟩⟩⟩⟩⟩⟩⟩⟩
theorem lw_p32 : lw_okq (⟨"BallInCupModel", "number", "(II)I"⟩, 41) := ⟨⟨by decide +kernel, by decide +kernel⟩, List.mem_of_getElem? (i := 759) (by decide +kernel), List.mem_of_getElem? (i := 975) (by decide +kernel), List.mem_of_getElem? (i := 976) (by decide +kernel)⟩
theorem lw_p33 : lw_okq (⟨"BallInCupModel", "partClause", "(I)V"⟩, 41) := ⟨⟨by decide +kernel, by decide +kernel⟩, List.mem_of_getElem? (i := 759) (by decide +kernel), List.mem_of_getElem? (i := 979) (by decide +kernel), List.mem_of_getElem? (i := 980) (by decide +kernel)⟩
theorem lw_p34 : lw_okq (⟨"BallInCupModel", "tries", "()V"⟩, 41) := ⟨⟨by decide +kernel, by decide +kernel⟩, List.mem_of_getElem? (i := 759) (by decide +kernel), List.mem_of_getElem? (i := 995) (by decide +kernel), List.mem_of_getElem? (i := 996) (by decide +kernel)⟩
theorem lw_p35 : lw_okq (⟨"BallInCupModel", "lays", "()V"⟩, 41) := ⟨⟨by decide +kernel, by decide +kernel⟩, List.mem_of_getElem? (i := 759) (by decide +kernel), List.mem_of_getElem? (i := 999) (by decide +kernel), List.mem_of_getElem? (i := 1000) (by decide +kernel)⟩
theorem lw_p36 : lw_okq (⟨"BallInCupModel", "swings", "(I)V"⟩, 41) := ⟨⟨by decide +kernel, by decide +kernel⟩, List.mem_of_getElem? (i := 759) (by decide +kernel), List.mem_of_getElem? (i := 1003) (by decide +kernel), List.mem_of_getElem? (i := 1004) (by decide +kernel)⟩
theorem lw_p37 : lw_okq (⟨"BallInCupModel", "meets", "(III)Z"⟩, 41) := ⟨⟨by decide +kernel, by decide +kernel⟩, List.mem_of_getElem? (i := 759) (by decide +kernel), List.mem_of_getElem? (i := 1010) (by decide +kernel), List.mem_of_getElem? (i := 1011) (by decide +kernel)⟩
theorem lw_p38 : lw_okq (⟨"BallInCupModel", "endBy", "(II)I"⟩, 41) := ⟨⟨by decide +kernel, by decide +kernel⟩, List.mem_of_getElem? (i := 759) (by decide +kernel), List.mem_of_getElem? (i := 1027) (by decide +kernel), List.mem_of_getElem? (i := 1028) (by decide +kernel)⟩
theorem lw_p39 : lw_okq (⟨"BallInCupModel", "grid", "()V"⟩, 41) := ⟨⟨by decide +kernel, by decide +kernel⟩, List.mem_of_getElem? (i := 759) (by decide +kernel), List.mem_of_getElem? (i := 1035) (by decide +kernel), List.mem_of_getElem? (i := 1036) (by decide +kernel)⟩
theorem lw_p40 : lw_okq (⟨"BallInCupModel", "groups", "(I)V"⟩, 41) := ⟨⟨by decide +kernel, by decide +kernel⟩, List.mem_of_getElem? (i := 759) (by decide +kernel), List.mem_of_getElem? (i := 1039) (by decide +kernel), List.mem_of_getElem? (i := 1040) (by decide +kernel)⟩
theorem lw_p41 : lw_okq (⟨"BallInCupModel", "isRing", "(IIII)Z"⟩, 41) := ⟨⟨by decide +kernel, by decide +kernel⟩, List.mem_of_getElem? (i := 759) (by decide +kernel), List.mem_of_getElem? (i := 1048) (by decide +kernel), List.mem_of_getElem? (i := 1049) (by decide +kernel)⟩
theorem lw_p42 : lw_okq (⟨"BallInCupModel", "oddsOf", "(I)I"⟩, 41) := ⟨⟨by decide +kernel, by decide +kernel⟩, List.mem_of_getElem? (i := 759) (by decide +kernel), List.mem_of_getElem? (i := 1061) (by decide +kernel), List.mem_of_getElem? (i := 1062) (by decide +kernel)⟩
theorem lw_p43 : lw_okq (⟨"BallInCupModel", "finds", "(IIII)I"⟩, 41) := ⟨⟨by decide +kernel, by decide +kernel⟩, List.mem_of_getElem? (i := 759) (by decide +kernel), List.mem_of_getElem? (i := 1107) (by decide +kernel), List.mem_of_getElem? (i := 1108) (by decide +kernel)⟩
def lw_privs_3 : List (MethodName × Nat) := [(⟨"BallInCupModel", "number", "(II)I"⟩, 41), (⟨"BallInCupModel", "partClause", "(I)V"⟩, 41), (⟨"BallInCupModel", "tries", "()V"⟩, 41), (⟨"BallInCupModel", "lays", "()V"⟩, 41), (⟨"BallInCupModel", "swings", "(I)V"⟩, 41), (⟨"BallInCupModel", "meets", "(III)Z"⟩, 41), (⟨"BallInCupModel", "endBy", "(II)I"⟩, 41), (⟨"BallInCupModel", "grid", "()V"⟩, 41), (⟨"BallInCupModel", "groups", "(I)V"⟩, 41), (⟨"BallInCupModel", "isRing", "(IIII)Z"⟩, 41), (⟨"BallInCupModel", "oddsOf", "(I)I"⟩, 41), (⟨"BallInCupModel", "finds", "(IIII)I"⟩, 41)]
theorem lw_r3 : ∀ q ∈ lw_privs_3, lw_okq q := List.forall_mem_cons.mpr ⟨lw_p32, List.forall_mem_cons.mpr ⟨lw_p33, List.forall_mem_cons.mpr ⟨lw_p34, List.forall_mem_cons.mpr ⟨lw_p35, List.forall_mem_cons.mpr ⟨lw_p36, List.forall_mem_cons.mpr ⟨lw_p37, List.forall_mem_cons.mpr ⟨lw_p38, List.forall_mem_cons.mpr ⟨lw_p39, List.forall_mem_cons.mpr ⟨lw_p40, List.forall_mem_cons.mpr ⟨lw_p41, List.forall_mem_cons.mpr ⟨lw_p42, List.forall_mem_cons.mpr ⟨lw_p43, fun _ h => absurd h List.not_mem_nil⟩⟩⟩⟩⟩⟩⟩⟩⟩⟩⟩⟩
def lw_privs : List (MethodName × Nat) := lw_privs_1 ++ (lw_privs_2 ++ (lw_privs_3))
def lw_tbl : List Cond := k2_sels lw_privs ++ tables_1
theorem lw_privs_ok : ∀ q ∈ lw_privs, lw_okq q := by
  show ∀ q ∈ lw_privs_1 ++ (lw_privs_2 ++ (lw_privs_3)), lw_okq q
  exact List.forall_mem_append.mpr ⟨lw_r1, List.forall_mem_append.mpr ⟨lw_r2, lw_r3⟩⟩
end
section
/-! ===== BEGIN words of one list among another's, by their places ===== -/
theorem goodIn_r {big : List Cond} (ws : List Cond) (ps : List Nat) (hp : ws = ps.filterMap (fun i => big[i]?)) (h : ws.all goodWord = true) : GoodIn big ws := by
  intro w hw
  have h1 := List.all_eq_true.mp h w hw
  rw [hp] at hw
  obtain ⟨i, -, hi⟩ := List.mem_filterMap.mp hw
  have hm : w ∈ big := by first | exact List.mem_of_getElem? hi | exact List.getElem?_mem hi
  exact ⟨hm, good_of_word h1⟩
theorem goodIn_app {big a b : List Cond} (ha : GoodIn big a) (hb : GoodIn big b) : GoodIn big (a ++ b) := fun w h => (List.mem_append.mp h).elim (ha w) (hb w)
theorem goodIn_ca {big a b : List Cond} {c : Cond} (ha : GoodIn big (c :: a)) (hb : GoodIn big b) : GoodIn big (c :: (a ++ b)) := fun w h => (List.mem_cons.mp h).elim (fun e => ha w (List.mem_cons.mpr (Or.inl e))) (fun h => (List.mem_append.mp h).elim (fun h => ha w (List.mem_cons.mpr (Or.inr h))) (hb w))
theorem goodIn_sub {big ws : List Cond} (hm : ∀ w ∈ ws, w ∈ big) (h : ws.all goodWord = true) : GoodIn big ws := fun w hw => ⟨hm w hw, good_of_word (List.all_eq_true.mp h w hw)⟩
/-! ===== END ===== -/


def RX0 : String := "BallInCup$Grid"
def TX0 : u_T := fun k => match k with
  | 0 => ("BallInCup$Grid", "ends", "[I", true)
  | 1 => ("BallInCup$Grid", "isSeen", "[Z", true)
  | 2 => ("BallInCup$Grid", "queue", "[I", true)
  | 3 => ("BallInCup$Grid", "cellCount", "I", false)
  | _ => ("BallInCup$Grid", "largestCell", "I", false)
def tyX0 : Nat → FieldType := fun k => match k with
  | 0 => .array .int
  | 1 => .array .boolean
  | 2 => .array .int
  | 3 => .int
  | _ => .int
abbrev wsX00 : List Cond := u_ws RX0 TX0 5
theorem nmX0 : ∀ a, a < 5 → ∀ b, b < 5 → a ≠ b → (TX0 a).2.1 ≠ (TX0 b).2.1 := by decide +kernel
theorem tyX0_ok : ∀ k, k < 5 → parseFieldDescriptor (TX0 k).2.2.1 = some (tyX0 k) := by decide +kernel
abbrev cX0_init : ByteArray := prog_2_method_1_code
def yX0_init : MethodName := ⟨RX0, "<init>", "()V"⟩
abbrev cX0_uOf : ByteArray := prog_2_method_2_code
def yX0_uOf : MethodName := ⟨RX0, "uOf", "(I)I"⟩
abbrev cX0_vOf : ByteArray := prog_2_method_3_code
def yX0_vOf : MethodName := ⟨RX0, "vOf", "(I)I"⟩
abbrev cX0_tryAll : ByteArray := prog_2_method_4_code
def yX0_tryAll : MethodName := ⟨RX0, "tryAll", "(LBallInCup$Try;I)V"⟩
abbrev cX0_pullsInto : ByteArray := prog_2_method_5_code
def yX0_pullsInto : MethodName := ⟨RX0, "pullsInto", "(I)I"⟩
abbrev cX0_seekCells : ByteArray := prog_2_method_6_code
def yX0_seekCells : MethodName := ⟨RX0, "seekCells", "(I)V"⟩
abbrev cX0_cellFrom : ByteArray := prog_2_method_7_code
def yX0_cellFrom : MethodName := ⟨RX0, "cellFrom", "(II)I"⟩
abbrev cX0_join : ByteArray := prog_2_method_8_code
def yX0_join : MethodName := ⟨RX0, "join", "(III)I"⟩
abbrev cX0_middleOf : ByteArray := prog_2_method_9_code
def yX0_middleOf : MethodName := ⟨RX0, "middleOf", "(I)I"⟩
abbrev cX0_ringsRound : ByteArray := prog_2_method_10_code
def yX0_ringsRound : MethodName := ⟨RX0, "ringsRound", "(II)I"⟩
abbrev cX0_isWhole : ByteArray := prog_2_method_11_code
def yX0_isWhole : MethodName := ⟨RX0, "isWhole", "(IIII)Z"⟩
def RX1 : String := "BallInCup$Hand"
def TX1 : u_T := fun k => match k with
  | 0 => ("BallInCup$Hand", "parts", "LBallInCup$Table;", true)
  | 1 => ("BallInCup$Hand", "firstU", "I", false)
  | 2 => ("BallInCup$Hand", "firstV", "I", false)
  | 3 => ("BallInCup$Hand", "part", "I", false)
  | 4 => ("BallInCup$Hand", "stepsLeft", "I", false)
  | 5 => ("BallInCup$Hand", "u", "I", false)
  | 6 => ("BallInCup$Hand", "v", "I", false)
  | 7 => ("BallInCup$Hand", "x", "I", false)
  | _ => ("BallInCup$Hand", "y", "I", false)
def tyX1 : Nat → FieldType := fun k => match k with
  | 0 => .object "BallInCup$Table"
  | 1 => .int
  | 2 => .int
  | 3 => .int
  | 4 => .int
  | 5 => .int
  | 6 => .int
  | 7 => .int
  | _ => .int
abbrev wsX10 : List Cond := u_ws RX1 TX1 9
theorem nmX1 : ∀ a, a < 9 → ∀ b, b < 9 → a ≠ b → (TX1 a).2.1 ≠ (TX1 b).2.1 := by decide +kernel
theorem tyX1_ok : ∀ k, k < 9 → parseFieldDescriptor (TX1 k).2.2.1 = some (tyX1 k) := by decide +kernel
abbrev cX1_init : ByteArray := prog_3_method_1_code
def yX1_init : MethodName := ⟨RX1, "<init>", "(LBallInCup$Table;)V"⟩
abbrev cX1_begin : ByteArray := prog_3_method_2_code
def yX1_begin : MethodName := ⟨RX1, "begin", "(II)V"⟩
abbrev cX1_go : ByteArray := prog_3_method_3_code
def yX1_go : MethodName := ⟨RX1, "go", "(I)V"⟩
def RX2 : String := "BallInCup$Plan"
def TX2 : u_T := fun k => match k with
  | _ => ("BallInCup$Plan", "best", "[[I", true)
def tyX2 : Nat → FieldType := fun k => match k with
  | _ => .array (.array .int)
abbrev wsX20 : List Cond := u_ws RX2 TX2 1
theorem nmX2 : ∀ a, a < 1 → ∀ b, b < 1 → a ≠ b → (TX2 a).2.1 ≠ (TX2 b).2.1 := by decide +kernel
theorem tyX2_ok : ∀ k, k < 1 → parseFieldDescriptor (TX2 k).2.2.1 = some (tyX2 k) := by decide +kernel
abbrev cX2_init : ByteArray := prog_4_method_1_code
def yX2_init : MethodName := ⟨RX2, "<init>", "()V"⟩
abbrev cX2_weigh : ByteArray := prog_4_method_2_code
def yX2_weigh : MethodName := ⟨RX2, "weigh", "(LBallInCup$Table;I)V"⟩
abbrev cX2_mostIn : ByteArray := prog_4_method_3_code
def yX2_mostIn : MethodName := ⟨RX2, "mostIn", "(I)I"⟩
abbrev cX2_timesOf : ByteArray := prog_4_method_4_code
def yX2_timesOf : MethodName := ⟨RX2, "timesOf", "(LBallInCup$Table;II)I"⟩
abbrev cX2_mostFrom : ByteArray := prog_4_method_5_code
def yX2_mostFrom : MethodName := ⟨RX2, "mostFrom", "(LBallInCup$Table;II)I"⟩
abbrev cX2_mostTimes : ByteArray := prog_4_method_6_code
def yX2_mostTimes : MethodName := ⟨RX2, "mostTimes", "(LBallInCup$Table;II)I"⟩
abbrev cX2_gainBy : ByteArray := prog_4_method_7_code
def yX2_gainBy : MethodName := ⟨RX2, "gainBy", "(LBallInCup$Table;III)I"⟩
def RX3 : String := "BallInCup$Reader"
def TX3 : u_T := fun k => match k with
  | 0 => ("BallInCup$Reader", "bytes", "[I", true)
  | 1 => ("BallInCup$Reader", "size", "I", false)
  | 2 => ("BallInCup$Reader", "place", "I", false)
  | 3 => ("BallInCup$Reader", "fault", "I", false)
  | 4 => ("BallInCup$Reader", "cups", "LBallInCup$Table;", true)
  | _ => ("BallInCup$Reader", "parts", "LBallInCup$Table;", true)
def tyX3 : Nat → FieldType := fun k => match k with
  | 0 => .array .int
  | 1 => .int
  | 2 => .int
  | 3 => .int
  | 4 => .object "BallInCup$Table"
  | _ => .object "BallInCup$Table"
abbrev wsX30 : List Cond := u_ws RX3 TX3 6
theorem nmX3 : ∀ a, a < 6 → ∀ b, b < 6 → a ≠ b → (TX3 a).2.1 ≠ (TX3 b).2.1 := by decide +kernel
theorem tyX3_ok : ∀ k, k < 6 → parseFieldDescriptor (TX3 k).2.2.1 = some (tyX3 k) := by decide +kernel
abbrev cX3_init : ByteArray := prog_5_method_1_code
def yX3_init : MethodName := ⟨RX3, "<init>", "()V"⟩
abbrev cX3_hasRoom : ByteArray := prog_5_method_2_code
def yX3_hasRoom : MethodName := ⟨RX3, "hasRoom", "(I)Z"⟩
abbrev cX3_append : ByteArray := prog_5_method_3_code
def yX3_append : MethodName := ⟨RX3, "append", "(I)V"⟩
abbrev cX3_readCups : ByteArray := prog_5_method_4_code
def yX3_readCups : MethodName := ⟨RX3, "readCups", "()I"⟩
abbrev cX3_readParts : ByteArray := prog_5_method_5_code
def yX3_readParts : MethodName := ⟨RX3, "readParts", "()I"⟩
abbrev cX3_begin : ByteArray := prog_5_method_6_code
def yX3_begin : MethodName := ⟨RX3, "begin", "()V"⟩
abbrev cX3_finish : ByteArray := prog_5_method_7_code
def yX3_finish : MethodName := ⟨RX3, "finish", "(I)I"⟩
abbrev cX3_readCup : ByteArray := prog_5_method_8_code
def yX3_readCup : MethodName := ⟨RX3, "readCup", "()V"⟩
abbrev cX3_readPart : ByteArray := prog_5_method_9_code
def yX3_readPart : MethodName := ⟨RX3, "readPart", "()V"⟩
abbrev cX3_next : ByteArray := prog_5_method_10_code
def yX3_next : MethodName := ⟨RX3, "next", "()I"⟩
abbrev cX3_faultAt : ByteArray := prog_5_method_11_code
def yX3_faultAt : MethodName := ⟨RX3, "faultAt", "(I)V"⟩
abbrev cX3_takes : ByteArray := prog_5_method_12_code
def yX3_takes : MethodName := ⟨RX3, "takes", "(I)Z"⟩
abbrev cX3_signedDigit : ByteArray := prog_5_method_13_code
def yX3_signedDigit : MethodName := ⟨RX3, "signedDigit", "()I"⟩
abbrev cX3_digit : ByteArray := prog_5_method_14_code
def yX3_digit : MethodName := ⟨RX3, "digit", "()I"⟩
abbrev cX3_number : ByteArray := prog_5_method_15_code
def yX3_number : MethodName := ⟨RX3, "number", "(II)I"⟩
def RX4 : String := "BallInCup$Setup"
def TX4 : u_T := fun k => match k with
  | 0 => ("BallInCup$Setup", "settings", "[I", true)
  | 1 => ("BallInCup$Setup", "cups", "LBallInCup$Table;", true)
  | 2 => ("BallInCup$Setup", "parts", "LBallInCup$Table;", true)
  | _ => ("BallInCup$Setup", "tricks", "LBallInCup$Table;", true)
def tyX4 : Nat → FieldType := fun k => match k with
  | 0 => .array .int
  | 1 => .object "BallInCup$Table"
  | 2 => .object "BallInCup$Table"
  | _ => .object "BallInCup$Table"
abbrev wsX40 : List Cond := u_ws RX4 TX4 4
theorem nmX4 : ∀ a, a < 4 → ∀ b, b < 4 → a ≠ b → (TX4 a).2.1 ≠ (TX4 b).2.1 := by decide +kernel
theorem tyX4_ok : ∀ k, k < 4 → parseFieldDescriptor (TX4 k).2.2.1 = some (tyX4 k) := by decide +kernel
abbrev cX4_init : ByteArray := prog_6_method_1_code
def yX4_init : MethodName := ⟨RX4, "<init>", "()V"⟩
abbrev cX4_hasNoPart : ByteArray := prog_6_method_2_code
def yX4_hasNoPart : MethodName := ⟨RX4, "hasNoPart", "()Z"⟩
abbrev cX4_pullSteps : ByteArray := prog_6_method_3_code
def yX4_pullSteps : MethodName := ⟨RX4, "pullSteps", "()I"⟩
abbrev cX4_takeAll : ByteArray := prog_6_method_4_code
def yX4_takeAll : MethodName := ⟨RX4, "takeAll", "(LBallInCup$Setup;)V"⟩
def RX5 : String := "BallInCup$Sheets"
def TX5 : u_T := fun k => match k with
  | 0 => ("BallInCup$Sheets", "lanes", "[I", true)
  | 1 => ("BallInCup$Sheets", "sizes", "[I", true)
  | _ => ("BallInCup$Sheets", "items", "[[I", true)
def tyX5 : Nat → FieldType := fun k => match k with
  | 0 => .array .int
  | 1 => .array .int
  | _ => .array (.array .int)
abbrev wsX50 : List Cond := u_ws RX5 TX5 3
theorem nmX5 : ∀ a, a < 3 → ∀ b, b < 3 → a ≠ b → (TX5 a).2.1 ≠ (TX5 b).2.1 := by decide +kernel
theorem tyX5_ok : ∀ k, k < 3 → parseFieldDescriptor (TX5 k).2.2.1 = some (tyX5 k) := by decide +kernel
abbrev cX5_init : ByteArray := prog_7_method_1_code
def yX5_init : MethodName := ⟨RX5, "<init>", "()V"⟩
abbrev cX5_isNothing : ByteArray := prog_7_method_2_code
def yX5_isNothing : MethodName := ⟨RX5, "isNothing", "(I)Z"⟩
abbrev cX5_makeRow : ByteArray := prog_7_method_3_code
def yX5_makeRow : MethodName := ⟨RX5, "makeRow", "(III)V"⟩
abbrev cX5_letGo : ByteArray := prog_7_method_4_code
def yX5_letGo : MethodName := ⟨RX5, "letGo", "(I)I"⟩
abbrev cX5_refusalOf : ByteArray := prog_7_method_5_code
def yX5_refusalOf : MethodName := ⟨RX5, "refusalOf", "(IIII)I"⟩
abbrev cX5_fits : ByteArray := prog_7_method_6_code
def yX5_fits : MethodName := ⟨RX5, "fits", "(III)Z"⟩
abbrev cX5_get : ByteArray := prog_7_method_7_code
def yX5_get : MethodName := ⟨RX5, "get", "(II)I"⟩
abbrev cX5_put : ByteArray := prog_7_method_8_code
def yX5_put : MethodName := ⟨RX5, "put", "(III)V"⟩
abbrev cX5_cutTo : ByteArray := prog_7_method_9_code
def yX5_cutTo : MethodName := ⟨RX5, "cutTo", "(II)I"⟩
def RX6 : String := "BallInCup$Table"
def TX6 : u_T := fun k => match k with
  | 0 => ("BallInCup$Table", "rows", "[[I", true)
  | 1 => ("BallInCup$Table", "columns", "I", true)
  | _ => ("BallInCup$Table", "size", "I", false)
def tyX6 : Nat → FieldType := fun k => match k with
  | 0 => .array (.array .int)
  | 1 => .int
  | _ => .int
abbrev wsX60 : List Cond := u_ws RX6 TX6 3
theorem nmX6 : ∀ a, a < 3 → ∀ b, b < 3 → a ≠ b → (TX6 a).2.1 ≠ (TX6 b).2.1 := by decide +kernel
theorem tyX6_ok : ∀ k, k < 3 → parseFieldDescriptor (TX6 k).2.2.1 = some (tyX6 k) := by decide +kernel
abbrev cX6_init : ByteArray := prog_8_method_1_code
def yX6_init : MethodName := ⟨RX6, "<init>", "(II)V"⟩
abbrev cX6_isFull : ByteArray := prog_8_method_2_code
def yX6_isFull : MethodName := ⟨RX6, "isFull", "()Z"⟩
abbrev cX6_has : ByteArray := prog_8_method_3_code
def yX6_has : MethodName := ⟨RX6, "has", "(I)Z"⟩
abbrev cX6_get : ByteArray := prog_8_method_4_code
def yX6_get : MethodName := ⟨RX6, "get", "(II)I"⟩
abbrev cX6_put : ByteArray := prog_8_method_5_code
def yX6_put : MethodName := ⟨RX6, "put", "(III)V"⟩
abbrev cX6_grow : ByteArray := prog_8_method_6_code
def yX6_grow : MethodName := ⟨RX6, "grow", "()I"⟩
abbrev cX6_empty : ByteArray := prog_8_method_7_code
def yX6_empty : MethodName := ⟨RX6, "empty", "()I"⟩
abbrev cX6_takeAll : ByteArray := prog_8_method_8_code
def yX6_takeAll : MethodName := ⟨RX6, "takeAll", "(LBallInCup$Table;)V"⟩
def RX7 : String := "BallInCup$Try"
def TX7 : u_T := fun k => match k with
  | 0 => ("BallInCup$Try", "setup", "LBallInCup$Setup;", true)
  | 1 => ("BallInCup$Try", "hand", "LBallInCup$Hand;", true)
  | 2 => ("BallInCup$Try", "cord", "I", false)
  | 3 => ("BallInCup$Try", "isMeeting", "Z", false)
  | 4 => ("BallInCup$Try", "lateCup", "I", false)
  | 5 => ("BallInCup$Try", "lateStep", "I", false)
  | 6 => ("BallInCup$Try", "x", "I", false)
  | 7 => ("BallInCup$Try", "y", "I", false)
  | 8 => ("BallInCup$Try", "paceX", "I", false)
  | 9 => ("BallInCup$Try", "paceY", "I", false)
  | 10 => ("BallInCup$Try", "turn", "I", false)
  | 11 => ("BallInCup$Try", "spin", "I", false)
  | 12 => ("BallInCup$Try", "isTaut", "Z", false)
  | 13 => ("BallInCup$Try", "steps", "I", false)
  | 14 => ("BallInCup$Try", "caught", "I", false)
  | 15 => ("BallInCup$Try", "rims", "I", false)
  | _ => ("BallInCup$Try", "tautSteps", "I", false)
def tyX7 : Nat → FieldType := fun k => match k with
  | 0 => .object "BallInCup$Setup"
  | 1 => .object "BallInCup$Hand"
  | 2 => .int
  | 3 => .boolean
  | 4 => .int
  | 5 => .int
  | 6 => .int
  | 7 => .int
  | 8 => .int
  | 9 => .int
  | 10 => .int
  | 11 => .int
  | 12 => .boolean
  | 13 => .int
  | 14 => .int
  | 15 => .int
  | _ => .int
abbrev wsX70 : List Cond := u_ws RX7 TX7 17
theorem nmX7 : ∀ a, a < 17 → ∀ b, b < 17 → a ≠ b → (TX7 a).2.1 ≠ (TX7 b).2.1 := by decide +kernel
theorem tyX7_ok : ∀ k, k < 17 → parseFieldDescriptor (TX7 k).2.2.1 = some (tyX7 k) := by decide +kernel
abbrev cX7_init : ByteArray := prog_9_method_1_code
def yX7_init : MethodName := ⟨RX7, "<init>", "(LBallInCup$Setup;)V"⟩
abbrev cX7_begin : ByteArray := prog_9_method_2_code
def yX7_begin : MethodName := ⟨RX7, "begin", "(III)V"⟩
abbrev cX7_beginAsTold : ByteArray := prog_9_method_3_code
def yX7_beginAsTold : MethodName := ⟨RX7, "beginAsTold", "()V"⟩
abbrev cX7_meetNothing : ByteArray := prog_9_method_4_code
def yX7_meetNothing : MethodName := ⟨RX7, "meetNothing", "()V"⟩
abbrev cX7_goOn : ByteArray := prog_9_method_5_code
def yX7_goOn : MethodName := ⟨RX7, "goOn", "(I)V"⟩
abbrev cX7_endBy : ByteArray := prog_9_method_6_code
def yX7_endBy : MethodName := ⟨RX7, "endBy", "(III)I"⟩
abbrev cX7_endLate : ByteArray := prog_9_method_7_code
def yX7_endLate : MethodName := ⟨RX7, "endLate", "(IIII)I"⟩
abbrev cX7_oddsBy : ByteArray := prog_9_method_8_code
def yX7_oddsBy : MethodName := ⟨RX7, "oddsBy", "(II)I"⟩
abbrev cX7_isSoft : ByteArray := prog_9_method_9_code
def yX7_isSoft : MethodName := ⟨RX7, "isSoft", "(I)Z"⟩
abbrev cX7_goStep : ByteArray := prog_9_method_10_code
def yX7_goStep : MethodName := ⟨RX7, "goStep", "()V"⟩
abbrev cX7_lateSide : ByteArray := prog_9_method_11_code
def yX7_lateSide : MethodName := ⟨RX7, "lateSide", "()I"⟩
abbrev cX7_holdByCord : ByteArray := prog_9_method_12_code
def yX7_holdByCord : MethodName := ⟨RX7, "holdByCord", "()V"⟩
abbrev cX7_wholeRoot : ByteArray := prog_9_method_13_code
def yX7_wholeRoot : MethodName := ⟨RX7, "wholeRoot", "(I)I"⟩
abbrev cX7_metCup : ByteArray := prog_9_method_14_code
def yX7_metCup : MethodName := ⟨RX7, "metCup", "(I)I"⟩
abbrev cX7_comeDownOn : ByteArray := prog_9_method_15_code
def yX7_comeDownOn : MethodName := ⟨RX7, "comeDownOn", "(I)V"⟩
def RX8 : String := "BallInCup"
def TX8 : u_T := fun k => match k with
  | 0 => ("BallInCup", "setup", "LBallInCup$Setup;", true)
  | 1 => ("BallInCup", "kept", "LBallInCup$Setup;", true)
  | 2 => ("BallInCup", "isKept", "Z", false)
  | 3 => ("BallInCup", "tries", "LBallInCup$Try;", true)
  | 4 => ("BallInCup", "grid", "LBallInCup$Grid;", true)
  | 5 => ("BallInCup", "plan", "LBallInCup$Plan;", true)
  | 6 => ("BallInCup", "reader", "LBallInCup$Reader;", true)
  | _ => ("BallInCup", "sheets", "LBallInCup$Sheets;", true)
def tyX8 : Nat → FieldType := fun k => match k with
  | 0 => .object "BallInCup$Setup"
  | 1 => .object "BallInCup$Setup"
  | 2 => .boolean
  | 3 => .object "BallInCup$Try"
  | 4 => .object "BallInCup$Grid"
  | 5 => .object "BallInCup$Plan"
  | 6 => .object "BallInCup$Reader"
  | _ => .object "BallInCup$Sheets"
abbrev wsX80 : List Cond := u_ws RX8 TX8 8
theorem nmX8 : ∀ a, a < 8 → ∀ b, b < 8 → a ≠ b → (TX8 a).2.1 ≠ (TX8 b).2.1 := by decide +kernel
theorem tyX8_ok : ∀ k, k < 8 → parseFieldDescriptor (TX8 k).2.2.1 = some (tyX8 k) := by decide +kernel
abbrev cX8_init : ByteArray := prog_1_method_1_code
def yX8_init : MethodName := ⟨RX8, "<init>", "()V"⟩
abbrev cX8_set : ByteArray := prog_1_method_2_code
def yX8_set : MethodName := ⟨RX8, "set", "(II)I"⟩
abbrev cX8_cup : ByteArray := prog_1_method_3_code
def yX8_cup : MethodName := ⟨RX8, "cup", "(IIIIZ)I"⟩
abbrev cX8_told : ByteArray := prog_1_method_4_code
def yX8_told : MethodName := ⟨RX8, "told", "(II)I"⟩
abbrev cX8_part : ByteArray := prog_1_method_5_code
def yX8_part : MethodName := ⟨RX8, "part", "(III)I"⟩
abbrev cX8_pull : ByteArray := prog_1_method_6_code
def yX8_pull : MethodName := ⟨RX8, "pull", "(II)I"⟩
abbrev cX8_still : ByteArray := prog_1_method_7_code
def yX8_still : MethodName := ⟨RX8, "still", "()I"⟩
abbrev cX8_type : ByteArray := prog_1_method_8_code
def yX8_type : MethodName := ⟨RX8, "type", "(JI)I"⟩
abbrev cX8_toy : ByteArray := prog_1_method_9_code
def yX8_toy : MethodName := ⟨RX8, "toy", "()I"⟩
abbrev cX8_pulls : ByteArray := prog_1_method_10_code
def yX8_pulls : MethodName := ⟨RX8, "pulls", "()I"⟩
abbrev cX8_at : ByteArray := prog_1_method_11_code
def yX8_at : MethodName := ⟨RX8, "at", "(II)I"⟩
abbrev cX8_end : ByteArray := prog_1_method_12_code
def yX8_end : MethodName := ⟨RX8, "end", "(I)I"⟩
abbrev cX8_count : ByteArray := prog_1_method_13_code
def yX8_count : MethodName := ⟨RX8, "count", "(I)I"⟩
abbrev cX8_ends : ByteArray := prog_1_method_14_code
def yX8_ends : MethodName := ⟨RX8, "ends", "(II)I"⟩
abbrev cX8_cells : ByteArray := prog_1_method_15_code
def yX8_cells : MethodName := ⟨RX8, "cells", "(II)I"⟩
abbrev cX8_middle : ByteArray := prog_1_method_16_code
def yX8_middle : MethodName := ⟨RX8, "middle", "(II)I"⟩
abbrev cX8_mended : ByteArray := prog_1_method_17_code
def yX8_mended : MethodName := ⟨RX8, "mended", "(II)I"⟩
abbrev cX8_odds : ByteArray := prog_1_method_18_code
def yX8_odds : MethodName := ⟨RX8, "odds", "(I)I"⟩
abbrev cX8_which : ByteArray := prog_1_method_19_code
def yX8_which : MethodName := ⟨RX8, "which", "()I"⟩
abbrev cX8_trick : ByteArray := prog_1_method_20_code
def yX8_trick : MethodName := ⟨RX8, "trick", "(IIII)I"⟩
abbrev cX8_most : ByteArray := prog_1_method_21_code
def yX8_most : MethodName := ⟨RX8, "most", "(II)I"⟩
abbrev cX8_row : ByteArray := prog_1_method_22_code
def yX8_row : MethodName := ⟨RX8, "row", "(II)I"⟩
abbrev cX8_clear : ByteArray := prog_1_method_23_code
def yX8_clear : MethodName := ⟨RX8, "clear", "()I"⟩
abbrev cX8_cord : ByteArray := prog_1_method_24_code
def yX8_cord : MethodName := ⟨RX8, "cord", "(II)I"⟩
abbrev cX8_down : ByteArray := prog_1_method_25_code
def yX8_down : MethodName := ⟨RX8, "down", "(II)I"⟩
abbrev cX8_filmed : ByteArray := prog_1_method_26_code
def yX8_filmed : MethodName := ⟨RX8, "filmed", "(IIIII)I"⟩
abbrev cX8_image : ByteArray := prog_1_method_27_code
def yX8_image : MethodName := ⟨RX8, "image", "()I"⟩
abbrev cX8_restore : ByteArray := prog_1_method_28_code
def yX8_restore : MethodName := ⟨RX8, "restore", "()I"⟩
abbrev cX8_film : ByteArray := prog_1_method_29_code
def yX8_film : MethodName := ⟨RX8, "film", "(IIII)I"⟩
abbrev cX8_sheet : ByteArray := prog_1_method_30_code
def yX8_sheet : MethodName := ⟨RX8, "sheet", "(III)I"⟩
abbrev cX8_drop : ByteArray := prog_1_method_31_code
def yX8_drop : MethodName := ⟨RX8, "drop", "(I)I"⟩
abbrev cX8_item : ByteArray := prog_1_method_32_code
def yX8_item : MethodName := ⟨RX8, "item", "(IIII)I"⟩
abbrev cX8_copy : ByteArray := prog_1_method_33_code
def yX8_copy : MethodName := ⟨RX8, "copy", "(IIIII)I"⟩
abbrev cX8_isIn : ByteArray := prog_1_method_34_code
def yX8_isIn : MethodName := ⟨RX8, "isIn", "(III)Z"⟩
abbrev cX8_isRow : ByteArray := prog_1_method_35_code
def yX8_isRow : MethodName := ⟨RX8, "isRow", "(II)Z"⟩
abbrev cX8_byteOf : ByteArray := prog_1_method_36_code
def yX8_byteOf : MethodName := ⟨RX8, "byteOf", "(JI)I"⟩
abbrev cX8_addCup : ByteArray := prog_1_method_37_code
def yX8_addCup : MethodName := ⟨RX8, "addCup", "(LBallInCup$Table;IIIII)I"⟩
abbrev cX8_addPart : ByteArray := prog_1_method_38_code
def yX8_addPart : MethodName := ⟨RX8, "addPart", "(LBallInCup$Table;III)I"⟩
abbrev cX8_isShown : ByteArray := prog_1_method_39_code
def yX8_isShown : MethodName := ⟨RX8, "isShown", "(IIII)Z"⟩
def RX9 : String := "BallInCupModel"
def TX9 : u_T := fun k => match k with
  | 0 => ("BallInCupModel", "sets", "[I", true)
  | 1 => ("BallInCupModel", "cups", "I", false)
  | 2 => ("BallInCupModel", "cupParts", "[I", true)
  | 3 => ("BallInCupModel", "parts", "I", false)
  | 4 => ("BallInCupModel", "pullParts", "[I", true)
  | 5 => ("BallInCupModel", "tricks", "I", false)
  | 6 => ("BallInCupModel", "trickParts", "[I", true)
  | 7 => ("BallInCupModel", "tape", "[I", true)
  | 8 => ("BallInCupModel", "taped", "I", false)
  | 9 => ("BallInCupModel", "at", "I", false)
  | 10 => ("BallInCupModel", "wrong", "Z", false)
  | 11 => ("BallInCupModel", "read", "[I", true)
  | 12 => ("BallInCupModel", "rows", "[I", true)
  | 13 => ("BallInCupModel", "us", "[I", true)
  | 14 => ("BallInCupModel", "vs", "[I", true)
  | 15 => ("BallInCupModel", "lateCup", "I", false)
  | 16 => ("BallInCupModel", "lateFrom", "I", false)
  | 17 => ("BallInCupModel", "noCups", "Z", false)
  | 18 => ("BallInCupModel", "caughtBy", "I", false)
  | 19 => ("BallInCupModel", "caughtIn", "I", false)
  | 20 => ("BallInCupModel", "rims", "I", false)
  | 21 => ("BallInCupModel", "tauts", "I", false)
  | 22 => ("BallInCupModel", "ballX", "I", false)
  | 23 => ("BallInCupModel", "ballY", "I", false)
  | 24 => ("BallInCupModel", "paceX", "I", false)
  | 25 => ("BallInCupModel", "paceY", "I", false)
  | 26 => ("BallInCupModel", "turn", "I", false)
  | 27 => ("BallInCupModel", "spin", "I", false)
  | 28 => ("BallInCupModel", "handX", "I", false)
  | 29 => ("BallInCupModel", "handY", "I", false)
  | 30 => ("BallInCupModel", "taut", "I", false)
  | 31 => ("BallInCupModel", "ends", "[I", true)
  | 32 => ("BallInCupModel", "plain", "[I", true)
  | 33 => ("BallInCupModel", "cellOf", "[I", true)
  | 34 => ("BallInCupModel", "sums", "[I", true)
  | 35 => ("BallInCupModel", "image", "[I", true)
  | 36 => ("BallInCupModel", "isImage", "Z", false)
  | 37 => ("BallInCupModel", "lanes", "[I", true)
  | 38 => ("BallInCupModel", "sizes", "[I", true)
  | 39 => ("BallInCupModel", "items", "[I", true)
  | _ => ("BallInCupModel", "moved", "[I", true)
def tyX9 : Nat → FieldType := fun k => match k with
  | 0 => .array .int
  | 1 => .int
  | 2 => .array .int
  | 3 => .int
  | 4 => .array .int
  | 5 => .int
  | 6 => .array .int
  | 7 => .array .int
  | 8 => .int
  | 9 => .int
  | 10 => .boolean
  | 11 => .array .int
  | 12 => .array .int
  | 13 => .array .int
  | 14 => .array .int
  | 15 => .int
  | 16 => .int
  | 17 => .boolean
  | 18 => .int
  | 19 => .int
  | 20 => .int
  | 21 => .int
  | 22 => .int
  | 23 => .int
  | 24 => .int
  | 25 => .int
  | 26 => .int
  | 27 => .int
  | 28 => .int
  | 29 => .int
  | 30 => .int
  | 31 => .array .int
  | 32 => .array .int
  | 33 => .array .int
  | 34 => .array .int
  | 35 => .array .int
  | 36 => .boolean
  | 37 => .array .int
  | 38 => .array .int
  | 39 => .array .int
  | _ => .array .int
abbrev wsX90 : List Cond := u_ws RX9 TX9 41
theorem nmX9 : ∀ a, a < 41 → ∀ b, b < 41 → a ≠ b → (TX9 a).2.1 ≠ (TX9 b).2.1 := by decide +kernel
theorem tyX9_ok : ∀ k, k < 41 → parseFieldDescriptor (TX9 k).2.2.1 = some (tyX9 k) := by decide +kernel
abbrev cX9_in : ByteArray := prog_11_method_2_code
def yX9_in : MethodName := ⟨RX9, "in", "(JJJ)Z"⟩
abbrev cX9_init : ByteArray := prog_11_method_3_code
def yX9_init : MethodName := ⟨RX9, "<init>", "()V"⟩
abbrev cX9_isCup : ByteArray := prog_11_method_4_code
def yX9_isCup : MethodName := ⟨RX9, "isCup", "(I)Z"⟩
abbrev cX9_set : ByteArray := prog_11_method_5_code
def yX9_set : MethodName := ⟨RX9, "set", "(II)I"⟩
abbrev cX9_cupIs : ByteArray := prog_11_method_6_code
def yX9_cupIs : MethodName := ⟨RX9, "cupIs", "(IIIIII)V"⟩
abbrev cX9_cup : ByteArray := prog_11_method_7_code
def yX9_cup : MethodName := ⟨RX9, "cup", "(IIIIZ)I"⟩
abbrev cX9_told : ByteArray := prog_11_method_8_code
def yX9_told : MethodName := ⟨RX9, "told", "(II)I"⟩
abbrev cX9_partIs : ByteArray := prog_11_method_9_code
def yX9_partIs : MethodName := ⟨RX9, "partIs", "(IIII)V"⟩
abbrev cX9_part : ByteArray := prog_11_method_10_code
def yX9_part : MethodName := ⟨RX9, "part", "(III)I"⟩
abbrev cX9_pull : ByteArray := prog_11_method_11_code
def yX9_pull : MethodName := ⟨RX9, "pull", "(II)I"⟩
abbrev cX9_still : ByteArray := prog_11_method_12_code
def yX9_still : MethodName := ⟨RX9, "still", "()I"⟩
abbrev cX9_type : ByteArray := prog_11_method_13_code
def yX9_type : MethodName := ⟨RX9, "type", "(JI)I"⟩
abbrev cX9_here : ByteArray := prog_11_method_14_code
def yX9_here : MethodName := ⟨RX9, "here", "()I"⟩
abbrev cX9_has : ByteArray := prog_11_method_15_code
def yX9_has : MethodName := ⟨RX9, "has", "(I)Z"⟩
abbrev cX9_number : ByteArray := prog_11_method_16_code
def yX9_number : MethodName := ⟨RX9, "number", "(II)I"⟩
abbrev cX9_digit : ByteArray := prog_11_method_17_code
def yX9_digit : MethodName := ⟨RX9, "digit", "()I"⟩
abbrev cX9_signed : ByteArray := prog_11_method_18_code
def yX9_signed : MethodName := ⟨RX9, "signed", "()I"⟩
abbrev cX9_cupClause : ByteArray := prog_11_method_19_code
def yX9_cupClause : MethodName := ⟨RX9, "cupClause", "(I)V"⟩
abbrev cX9_partClause : ByteArray := prog_11_method_20_code
def yX9_partClause : MethodName := ⟨RX9, "partClause", "(I)V"⟩
abbrev cX9_readAll : ByteArray := prog_11_method_21_code
def yX9_readAll : MethodName := ⟨RX9, "readAll", "(Z)I"⟩
abbrev cX9_toy : ByteArray := prog_11_method_22_code
def yX9_toy : MethodName := ⟨RX9, "toy", "()I"⟩
abbrev cX9_pulls : ByteArray := prog_11_method_23_code
def yX9_pulls : MethodName := ⟨RX9, "pulls", "()I"⟩
abbrev cX9_count : ByteArray := prog_11_method_24_code
def yX9_count : MethodName := ⟨RX9, "count", "(I)I"⟩
abbrev cX9_lays : ByteArray := prog_11_method_25_code
def yX9_lays : MethodName := ⟨RX9, "lays", "()V"⟩
abbrev cX9_root : ByteArray := prog_11_method_26_code
def yX9_root : MethodName := ⟨RX9, "root", "(I)I"⟩
abbrev cX9_size : ByteArray := prog_11_method_27_code
def yX9_size : MethodName := ⟨RX9, "size", "(I)I"⟩
abbrev cX9_swings : ByteArray := prog_11_method_28_code
def yX9_swings : MethodName := ⟨RX9, "swings", "(I)V"⟩
abbrev cX9_meets : ByteArray := prog_11_method_29_code
def yX9_meets : MethodName := ⟨RX9, "meets", "(III)Z"⟩
abbrev cX9_tries : ByteArray := prog_11_method_30_code
def yX9_tries : MethodName := ⟨RX9, "tries", "()V"⟩
abbrev cX9_at : ByteArray := prog_11_method_31_code
def yX9_at : MethodName := ⟨RX9, "at", "(II)I"⟩
abbrev cX9_end : ByteArray := prog_11_method_32_code
def yX9_end : MethodName := ⟨RX9, "end", "(I)I"⟩
abbrev cX9_endBy : ByteArray := prog_11_method_33_code
def yX9_endBy : MethodName := ⟨RX9, "endBy", "(II)I"⟩
abbrev cX9_grid : ByteArray := prog_11_method_34_code
def yX9_grid : MethodName := ⟨RX9, "grid", "()V"⟩
abbrev cX9_ends : ByteArray := prog_11_method_35_code
def yX9_ends : MethodName := ⟨RX9, "ends", "(II)I"⟩
abbrev cX9_groups : ByteArray := prog_11_method_36_code
def yX9_groups : MethodName := ⟨RX9, "groups", "(I)V"⟩
abbrev cX9_cells : ByteArray := prog_11_method_37_code
def yX9_cells : MethodName := ⟨RX9, "cells", "(II)I"⟩
abbrev cX9_isRing : ByteArray := prog_11_method_38_code
def yX9_isRing : MethodName := ⟨RX9, "isRing", "(IIII)Z"⟩
abbrev cX9_middle : ByteArray := prog_11_method_39_code
def yX9_middle : MethodName := ⟨RX9, "middle", "(II)I"⟩
abbrev cX9_mended : ByteArray := prog_11_method_40_code
def yX9_mended : MethodName := ⟨RX9, "mended", "(II)I"⟩
abbrev cX9_oddsOf : ByteArray := prog_11_method_41_code
def yX9_oddsOf : MethodName := ⟨RX9, "oddsOf", "(I)I"⟩
abbrev cX9_odds : ByteArray := prog_11_method_42_code
def yX9_odds : MethodName := ⟨RX9, "odds", "(I)I"⟩
abbrev cX9_which : ByteArray := prog_11_method_43_code
def yX9_which : MethodName := ⟨RX9, "which", "()I"⟩
abbrev cX9_trick : ByteArray := prog_11_method_44_code
def yX9_trick : MethodName := ⟨RX9, "trick", "(IIII)I"⟩
abbrev cX9_most : ByteArray := prog_11_method_45_code
def yX9_most : MethodName := ⟨RX9, "most", "(II)I"⟩
abbrev cX9_row : ByteArray := prog_11_method_46_code
def yX9_row : MethodName := ⟨RX9, "row", "(II)I"⟩
abbrev cX9_clear : ByteArray := prog_11_method_47_code
def yX9_clear : MethodName := ⟨RX9, "clear", "()I"⟩
abbrev cX9_cord : ByteArray := prog_11_method_48_code
def yX9_cord : MethodName := ⟨RX9, "cord", "(II)I"⟩
abbrev cX9_down : ByteArray := prog_11_method_49_code
def yX9_down : MethodName := ⟨RX9, "down", "(II)I"⟩
abbrev cX9_filmed : ByteArray := prog_11_method_50_code
def yX9_filmed : MethodName := ⟨RX9, "filmed", "(IIIII)I"⟩
abbrev cX9_saves : ByteArray := prog_11_method_51_code
def yX9_saves : MethodName := ⟨RX9, "saves", "([I[II)I"⟩
abbrev cX9_gives : ByteArray := prog_11_method_52_code
def yX9_gives : MethodName := ⟨RX9, "gives", "([II[I)I"⟩
abbrev cX9_image : ByteArray := prog_11_method_53_code
def yX9_image : MethodName := ⟨RX9, "image", "()I"⟩
abbrev cX9_restore : ByteArray := prog_11_method_54_code
def yX9_restore : MethodName := ⟨RX9, "restore", "()I"⟩
abbrev cX9_isSheet : ByteArray := prog_11_method_55_code
def yX9_isSheet : MethodName := ⟨RX9, "isSheet", "(I)Z"⟩
abbrev cX9_isLane : ByteArray := prog_11_method_56_code
def yX9_isLane : MethodName := ⟨RX9, "isLane", "(I)Z"⟩
abbrev cX9_finds : ByteArray := prog_11_method_57_code
def yX9_finds : MethodName := ⟨RX9, "finds", "(IIII)I"⟩
abbrev cX9_cast : ByteArray := prog_11_method_58_code
def yX9_cast : MethodName := ⟨RX9, "cast", "(II)I"⟩
abbrev cX9_film : ByteArray := prog_11_method_59_code
def yX9_film : MethodName := ⟨RX9, "film", "(IIII)I"⟩
abbrev cX9_sheet : ByteArray := prog_11_method_60_code
def yX9_sheet : MethodName := ⟨RX9, "sheet", "(III)I"⟩
abbrev cX9_drop : ByteArray := prog_11_method_61_code
def yX9_drop : MethodName := ⟨RX9, "drop", "(I)I"⟩
abbrev cX9_item : ByteArray := prog_11_method_62_code
def yX9_item : MethodName := ⟨RX9, "item", "(IIII)I"⟩
abbrev cX9_copy : ByteArray := prog_11_method_63_code
def yX9_copy : MethodName := ⟨RX9, "copy", "(IIIII)I"⟩
def RJx8e188 : String := "java/lang/Cloneable"
def TJx8e188 : u_T := fun k => match k with
  | _ => ("", "", "", false)
def tyJx8e188 : Nat → FieldType := fun k => match k with
  | _ => .int
abbrev wsJx8e1880 : List Cond := u_ws RJx8e188 TJx8e188 0
theorem nmJx8e188 : ∀ a, a < 0 → ∀ b, b < 0 → a ≠ b → (TJx8e188 a).2.1 ≠ (TJx8e188 b).2.1 := by decide +kernel
theorem tyJx8e188_ok : ∀ k, k < 0 → parseFieldDescriptor (TJx8e188 k).2.2.1 = some (tyJx8e188 k) := by decide +kernel
def RJ6 : String := "java/lang/Integer"
def TJ6 : u_T := fun k => match k with
  | _ => ("", "", "", false)
def tyJ6 : Nat → FieldType := fun k => match k with
  | _ => .int
abbrev wsJ60 : List Cond := u_ws RJ6 TJ6 0
theorem nmJ6 : ∀ a, a < 0 → ∀ b, b < 0 → a ≠ b → (TJ6 a).2.1 ≠ (TJ6 b).2.1 := by decide +kernel
theorem tyJ6_ok : ∀ k, k < 0 → parseFieldDescriptor (TJ6 k).2.2.1 = some (tyJ6 k) := by decide +kernel
abbrev cJ6_compare_7cf53 : ByteArray := prog_13_method_40_code
def yJ6_compare_7cf53 : MethodName := ⟨RJ6, "compare", "(II)I"⟩
def RJ9 : String := "java/lang/Math"
def TJ9 : u_T := fun k => match k with
  | _ => ("", "", "", false)
def tyJ9 : Nat → FieldType := fun k => match k with
  | _ => .int
abbrev wsJ90 : List Cond := u_ws RJ9 TJ9 0
theorem nmJ9 : ∀ a, a < 0 → ∀ b, b < 0 → a ≠ b → (TJ9 a).2.1 ≠ (TJ9 b).2.1 := by decide +kernel
theorem tyJ9_ok : ∀ k, k < 0 → parseFieldDescriptor (TJ9 k).2.2.1 = some (tyJ9 k) := by decide +kernel
abbrev cJ9_floorMod_7cf53 : ByteArray := prog_14_method_50_code
def yJ9_floorMod_7cf53 : MethodName := ⟨RJ9, "floorMod", "(II)I"⟩
abbrev cJ9_abs_0f7a4 : ByteArray := prog_14_method_59_code
def yJ9_abs_0f7a4 : MethodName := ⟨RJ9, "abs", "(I)I"⟩
abbrev cJ9_max_7cf53 : ByteArray := prog_14_method_65_code
def yJ9_max_7cf53 : MethodName := ⟨RJ9, "max", "(II)I"⟩
abbrev cJ9_min_7cf53 : ByteArray := prog_14_method_69_code
def yJ9_min_7cf53 : MethodName := ⟨RJ9, "min", "(II)I"⟩
def RJ10 : String := "java/lang/System"
def TJ10 : u_T := fun k => match k with
  | _ => ("", "", "", false)
def tyJ10 : Nat → FieldType := fun k => match k with
  | _ => .int
abbrev wsJ100 : List Cond := u_ws RJ10 TJ10 0
theorem nmJ10 : ∀ a, a < 0 → ∀ b, b < 0 → a ≠ b → (TJ10 a).2.1 ≠ (TJ10 b).2.1 := by decide +kernel
theorem tyJ10_ok : ∀ k, k < 0 → parseFieldDescriptor (TJ10 k).2.2.1 = some (tyJ10 k) := by decide +kernel
def RJ7 : String := "java/util/Arrays"
def TJ7 : u_T := fun k => match k with
  | _ => ("", "", "", false)
def tyJ7 : Nat → FieldType := fun k => match k with
  | _ => .int
abbrev wsJ70 : List Cond := u_ws RJ7 TJ7 0
theorem nmJ7 : ∀ a, a < 0 → ∀ b, b < 0 → a ≠ b → (TJ7 a).2.1 ≠ (TJ7 b).2.1 := by decide +kernel
theorem tyJ7_ok : ∀ k, k < 0 → parseFieldDescriptor (TJ7 k).2.2.1 = some (tyJ7 k) := by decide +kernel
abbrev cJ7_fill_53178 : ByteArray := prog_16_method_103_code
def yJ7_fill_53178 : MethodName := ⟨RJ7, "fill", "([II)V"⟩
def RL : String := "BallInCupLaw"
abbrev cL_law : ByteArray := code
def yL_law : MethodName := ⟨RL, "law", "([I)Z"⟩
abbrev vwCl : List vw_C := [(RX0, TX0, 5), (RX1, TX1, 9), (RX2, TX2, 1), (RX3, TX3, 6), (RX4, TX4, 4), (RX5, TX5, 3), (RX6, TX6, 3), (RX7, TX7, 17), (RX8, TX8, 8), (RX9, TX9, 41)]
end
section
theorem dX6_init_0 : decode cX6_init 0 = .ok (.aload_n 0, 1) := by decide +kernel
theorem dX6_init_1 : decode cX6_init 1 = .ok (.invokespecial 3, 3) := by decide +kernel
theorem dX6_init_4 : decode cX6_init 4 = .ok (.aload_n 0, 1) := by decide +kernel
theorem dX6_init_5 : decode cX6_init 5 = .ok (.iload_n 1, 1) := by decide +kernel
theorem dX6_init_6 : decode cX6_init 6 = .ok (.iconst 0, 1) := by decide +kernel
theorem dX6_init_7 : decode cX6_init 7 = .ok (.invokestatic 9, 3) := by decide +kernel
theorem dX6_init_10 : decode cX6_init 10 = .ok (.iload_n 2, 1) := by decide +kernel
theorem dX6_init_11 : decode cX6_init 11 = .ok (.iconst 0, 1) := by decide +kernel
theorem dX6_init_12 : decode cX6_init 12 = .ok (.invokestatic 9, 3) := by decide +kernel
theorem dX6_init_15 : decode cX6_init 15 = .ok (.multianewarray 15 2, 4) := by decide +kernel
theorem dX6_init_19 : decode cX6_init 19 = .ok (.putfield 17, 3) := by decide +kernel
theorem dX6_init_22 : decode cX6_init 22 = .ok (.aload_n 0, 1) := by decide +kernel
theorem dX6_init_23 : decode cX6_init 23 = .ok (.iload_n 2, 1) := by decide +kernel
theorem dX6_init_24 : decode cX6_init 24 = .ok (.putfield 22, 3) := by decide +kernel
theorem dX6_init_27 : decode cX6_init 27 = .ok (.return_, 1) := by decide +kernel
theorem dX6_isFull_0 : decode cX6_isFull 0 = .ok (.aload_n 0, 1) := by decide +kernel
theorem dX6_isFull_1 : decode cX6_isFull 1 = .ok (.getfield 26, 3) := by decide +kernel
theorem dX6_isFull_4 : decode cX6_isFull 4 = .ok (.aload_n 0, 1) := by decide +kernel
theorem dX6_isFull_5 : decode cX6_isFull 5 = .ok (.getfield 17, 3) := by decide +kernel
theorem dX6_isFull_8 : decode cX6_isFull 8 = .ok (.arraylength, 1) := by decide +kernel
theorem dX6_isFull_9 : decode cX6_isFull 9 = .ok (.if_icmp .lt 7, 3) := by decide +kernel
theorem dX6_isFull_12 : decode cX6_isFull 12 = .ok (.iconst 1, 1) := by decide +kernel
theorem dX6_isFull_13 : decode cX6_isFull 13 = .ok (.goto 4, 3) := by decide +kernel
theorem dX6_isFull_16 : decode cX6_isFull 16 = .ok (.iconst 0, 1) := by decide +kernel
theorem dX6_isFull_17 : decode cX6_isFull 17 = .ok (.ireturn, 1) := by decide +kernel
theorem dX6_has_0 : decode cX6_has 0 = .ok (.iload_n 1, 1) := by decide +kernel
theorem dX6_has_1 : decode cX6_has 1 = .ok (.ifCond .lt 15, 3) := by decide +kernel
theorem dX6_has_4 : decode cX6_has 4 = .ok (.iload_n 1, 1) := by decide +kernel
theorem dX6_has_5 : decode cX6_has 5 = .ok (.aload_n 0, 1) := by decide +kernel
theorem dX6_has_6 : decode cX6_has 6 = .ok (.getfield 26, 3) := by decide +kernel
theorem dX6_has_9 : decode cX6_has 9 = .ok (.if_icmp .ge 7, 3) := by decide +kernel
theorem dX6_has_12 : decode cX6_has 12 = .ok (.iconst 1, 1) := by decide +kernel
theorem dX6_has_13 : decode cX6_has 13 = .ok (.goto 4, 3) := by decide +kernel
theorem dX6_has_16 : decode cX6_has 16 = .ok (.iconst 0, 1) := by decide +kernel
theorem dX6_has_17 : decode cX6_has 17 = .ok (.ireturn, 1) := by decide +kernel
theorem dX6_get_0 : decode cX6_get 0 = .ok (.iload_n 1, 1) := by decide +kernel
theorem dX6_get_1 : decode cX6_get 1 = .ok (.ifCond .lt 27, 3) := by decide +kernel
theorem dX6_get_4 : decode cX6_get 4 = .ok (.iload_n 1, 1) := by decide +kernel
theorem dX6_get_5 : decode cX6_get 5 = .ok (.aload_n 0, 1) := by decide +kernel
theorem dX6_get_6 : decode cX6_get 6 = .ok (.getfield 26, 3) := by decide +kernel
theorem dX6_get_9 : decode cX6_get 9 = .ok (.if_icmp .ge 19, 3) := by decide +kernel
theorem dX6_get_12 : decode cX6_get 12 = .ok (.iload_n 2, 1) := by decide +kernel
theorem dX6_get_13 : decode cX6_get 13 = .ok (.ifCond .lt 15, 3) := by decide +kernel
theorem dX6_get_16 : decode cX6_get 16 = .ok (.iload_n 2, 1) := by decide +kernel
theorem dX6_get_17 : decode cX6_get 17 = .ok (.aload_n 0, 1) := by decide +kernel
theorem dX6_get_18 : decode cX6_get 18 = .ok (.getfield 22, 3) := by decide +kernel
theorem dX6_get_21 : decode cX6_get 21 = .ok (.if_icmp .ge 7, 3) := by decide +kernel
theorem dX6_get_24 : decode cX6_get 24 = .ok (.iconst 1, 1) := by decide +kernel
theorem dX6_get_25 : decode cX6_get 25 = .ok (.goto 4, 3) := by decide +kernel
theorem dX6_get_28 : decode cX6_get 28 = .ok (.iconst 0, 1) := by decide +kernel
theorem dX6_get_29 : decode cX6_get 29 = .ok (.istore_n 3, 1) := by decide +kernel
theorem dX6_get_30 : decode cX6_get 30 = .ok (.iload_n 3, 1) := by decide +kernel
theorem dX6_get_31 : decode cX6_get 31 = .ok (.ifCond .eq 14, 3) := by decide +kernel
theorem dX6_get_34 : decode cX6_get 34 = .ok (.aload_n 0, 1) := by decide +kernel
theorem dX6_get_35 : decode cX6_get 35 = .ok (.getfield 17, 3) := by decide +kernel
theorem dX6_get_38 : decode cX6_get 38 = .ok (.iload_n 1, 1) := by decide +kernel
theorem dX6_get_39 : decode cX6_get 39 = .ok (.aaload, 1) := by decide +kernel
theorem dX6_get_40 : decode cX6_get 40 = .ok (.iload_n 2, 1) := by decide +kernel
theorem dX6_get_41 : decode cX6_get 41 = .ok (.iaload, 1) := by decide +kernel
theorem dX6_get_42 : decode cX6_get 42 = .ok (.goto 4, 3) := by decide +kernel
theorem dX6_get_45 : decode cX6_get 45 = .ok (.iconst 0, 1) := by decide +kernel
theorem dX6_get_46 : decode cX6_get 46 = .ok (.ireturn, 1) := by decide +kernel
theorem dX6_put_0 : decode cX6_put 0 = .ok (.aload_n 0, 1) := by decide +kernel
theorem dX6_put_1 : decode cX6_put 1 = .ok (.iload_n 1, 1) := by decide +kernel
theorem dX6_put_2 : decode cX6_put 2 = .ok (.invokevirtual 29, 3) := by decide +kernel
theorem dX6_put_5 : decode cX6_put 5 = .ok (.ifCond .eq 24, 3) := by decide +kernel
theorem dX6_put_8 : decode cX6_put 8 = .ok (.iload_n 2, 1) := by decide +kernel
theorem dX6_put_9 : decode cX6_put 9 = .ok (.ifCond .lt 20, 3) := by decide +kernel
theorem dX6_put_12 : decode cX6_put 12 = .ok (.iload_n 2, 1) := by decide +kernel
theorem dX6_put_13 : decode cX6_put 13 = .ok (.aload_n 0, 1) := by decide +kernel
theorem dX6_put_14 : decode cX6_put 14 = .ok (.getfield 22, 3) := by decide +kernel
theorem dX6_put_17 : decode cX6_put 17 = .ok (.if_icmp .ge 12, 3) := by decide +kernel
theorem dX6_put_20 : decode cX6_put 20 = .ok (.aload_n 0, 1) := by decide +kernel
theorem dX6_put_21 : decode cX6_put 21 = .ok (.getfield 17, 3) := by decide +kernel
theorem dX6_put_24 : decode cX6_put 24 = .ok (.iload_n 1, 1) := by decide +kernel
theorem dX6_put_25 : decode cX6_put 25 = .ok (.aaload, 1) := by decide +kernel
theorem dX6_put_26 : decode cX6_put 26 = .ok (.iload_n 2, 1) := by decide +kernel
theorem dX6_put_27 : decode cX6_put 27 = .ok (.iload_n 3, 1) := by decide +kernel
theorem dX6_put_28 : decode cX6_put 28 = .ok (.iastore, 1) := by decide +kernel
theorem dX6_put_29 : decode cX6_put 29 = .ok (.return_, 1) := by decide +kernel
theorem dX6_grow_0 : decode cX6_grow 0 = .ok (.aload_n 0, 1) := by decide +kernel
theorem dX6_grow_1 : decode cX6_grow 1 = .ok (.invokevirtual 33, 3) := by decide +kernel
theorem dX6_grow_4 : decode cX6_grow 4 = .ok (.ifCond .eq 6, 3) := by decide +kernel
theorem dX6_grow_7 : decode cX6_grow 7 = .ok (.bipush (-3), 2) := by decide +kernel
theorem dX6_grow_9 : decode cX6_grow 9 = .ok (.ireturn, 1) := by decide +kernel
theorem dX6_grow_10 : decode cX6_grow 10 = .ok (.aload_n 0, 1) := by decide +kernel
theorem dX6_grow_11 : decode cX6_grow 11 = .ok (.dup, 1) := by decide +kernel
theorem dX6_grow_12 : decode cX6_grow 12 = .ok (.getfield 26, 3) := by decide +kernel
theorem dX6_grow_15 : decode cX6_grow 15 = .ok (.iconst 1, 1) := by decide +kernel
theorem dX6_grow_16 : decode cX6_grow 16 = .ok (.iadd, 1) := by decide +kernel
theorem dX6_grow_17 : decode cX6_grow 17 = .ok (.putfield 26, 3) := by decide +kernel
theorem dX6_grow_20 : decode cX6_grow 20 = .ok (.aload_n 0, 1) := by decide +kernel
theorem dX6_grow_21 : decode cX6_grow 21 = .ok (.getfield 26, 3) := by decide +kernel
theorem dX6_grow_24 : decode cX6_grow 24 = .ok (.iconst 1, 1) := by decide +kernel
theorem dX6_grow_25 : decode cX6_grow 25 = .ok (.isub, 1) := by decide +kernel
theorem dX6_grow_26 : decode cX6_grow 26 = .ok (.ireturn, 1) := by decide +kernel
theorem dX6_empty_0 : decode cX6_empty 0 = .ok (.aload_n 0, 1) := by decide +kernel
theorem dX6_empty_1 : decode cX6_empty 1 = .ok (.getfield 26, 3) := by decide +kernel
theorem dX6_empty_4 : decode cX6_empty 4 = .ok (.istore_n 1, 1) := by decide +kernel
theorem dX6_empty_5 : decode cX6_empty 5 = .ok (.aload_n 0, 1) := by decide +kernel
theorem dX6_empty_6 : decode cX6_empty 6 = .ok (.iconst 0, 1) := by decide +kernel
theorem dX6_empty_7 : decode cX6_empty 7 = .ok (.putfield 26, 3) := by decide +kernel
theorem dX6_empty_10 : decode cX6_empty 10 = .ok (.iload_n 1, 1) := by decide +kernel
theorem dX6_empty_11 : decode cX6_empty 11 = .ok (.ireturn, 1) := by decide +kernel
theorem dX6_takeAll_0 : decode cX6_takeAll 0 = .ok (.aload_n 0, 1) := by decide +kernel
theorem dX6_takeAll_1 : decode cX6_takeAll 1 = .ok (.aload_n 1, 1) := by decide +kernel
theorem dX6_takeAll_2 : decode cX6_takeAll 2 = .ok (.getfield 26, 3) := by decide +kernel
theorem dX6_takeAll_5 : decode cX6_takeAll 5 = .ok (.aload_n 0, 1) := by decide +kernel
theorem dX6_takeAll_6 : decode cX6_takeAll 6 = .ok (.getfield 17, 3) := by decide +kernel
theorem dX6_takeAll_9 : decode cX6_takeAll 9 = .ok (.arraylength, 1) := by decide +kernel
theorem dX6_takeAll_10 : decode cX6_takeAll 10 = .ok (.invokestatic 37, 3) := by decide +kernel
theorem dX6_takeAll_13 : decode cX6_takeAll 13 = .ok (.putfield 26, 3) := by decide +kernel
theorem dX6_takeAll_16 : decode cX6_takeAll 16 = .ok (.iconst 0, 1) := by decide +kernel
theorem dX6_takeAll_17 : decode cX6_takeAll 17 = .ok (.istore_n 2, 1) := by decide +kernel
theorem dX6_takeAll_18 : decode cX6_takeAll 18 = .ok (.iload_n 2, 1) := by decide +kernel
theorem dX6_takeAll_19 : decode cX6_takeAll 19 = .ok (.aload_n 0, 1) := by decide +kernel
theorem dX6_takeAll_20 : decode cX6_takeAll 20 = .ok (.getfield 26, 3) := by decide +kernel
theorem dX6_takeAll_23 : decode cX6_takeAll 23 = .ok (.if_icmp .ge 39, 3) := by decide +kernel
theorem dX6_takeAll_26 : decode cX6_takeAll 26 = .ok (.iconst 0, 1) := by decide +kernel
theorem dX6_takeAll_27 : decode cX6_takeAll 27 = .ok (.istore_n 3, 1) := by decide +kernel
theorem dX6_takeAll_28 : decode cX6_takeAll 28 = .ok (.iload_n 3, 1) := by decide +kernel
theorem dX6_takeAll_29 : decode cX6_takeAll 29 = .ok (.aload_n 0, 1) := by decide +kernel
theorem dX6_takeAll_30 : decode cX6_takeAll 30 = .ok (.getfield 22, 3) := by decide +kernel
theorem dX6_takeAll_33 : decode cX6_takeAll 33 = .ok (.if_icmp .ge 23, 3) := by decide +kernel
theorem dX6_takeAll_36 : decode cX6_takeAll 36 = .ok (.aload_n 0, 1) := by decide +kernel
theorem dX6_takeAll_37 : decode cX6_takeAll 37 = .ok (.getfield 17, 3) := by decide +kernel
theorem dX6_takeAll_40 : decode cX6_takeAll 40 = .ok (.iload_n 2, 1) := by decide +kernel
theorem dX6_takeAll_41 : decode cX6_takeAll 41 = .ok (.aaload, 1) := by decide +kernel
theorem dX6_takeAll_42 : decode cX6_takeAll 42 = .ok (.iload_n 3, 1) := by decide +kernel
theorem dX6_takeAll_43 : decode cX6_takeAll 43 = .ok (.aload_n 1, 1) := by decide +kernel
theorem dX6_takeAll_44 : decode cX6_takeAll 44 = .ok (.iload_n 2, 1) := by decide +kernel
theorem dX6_takeAll_45 : decode cX6_takeAll 45 = .ok (.iload_n 3, 1) := by decide +kernel
theorem dX6_takeAll_46 : decode cX6_takeAll 46 = .ok (.invokevirtual 40, 3) := by decide +kernel
theorem dX6_takeAll_49 : decode cX6_takeAll 49 = .ok (.iastore, 1) := by decide +kernel
theorem dX6_takeAll_50 : decode cX6_takeAll 50 = .ok (.iinc 3 1, 3) := by decide +kernel
theorem dX6_takeAll_53 : decode cX6_takeAll 53 = .ok (.goto (-25), 3) := by decide +kernel
theorem dX6_takeAll_56 : decode cX6_takeAll 56 = .ok (.iinc 2 1, 3) := by decide +kernel
theorem dX6_takeAll_59 : decode cX6_takeAll 59 = .ok (.goto (-41), 3) := by decide +kernel
theorem dX6_takeAll_62 : decode cX6_takeAll 62 = .ok (.return_, 1) := by decide +kernel
theorem dX7_init_0 : decode cX7_init 0 = .ok (.aload_n 0, 1) := by decide +kernel
theorem dX7_init_1 : decode cX7_init 1 = .ok (.invokespecial 3, 3) := by decide +kernel
theorem dX7_init_4 : decode cX7_init 4 = .ok (.aload_n 0, 1) := by decide +kernel
theorem dX7_init_5 : decode cX7_init 5 = .ok (.aload_n 1, 1) := by decide +kernel
theorem dX7_init_6 : decode cX7_init 6 = .ok (.putfield 9, 3) := by decide +kernel
theorem dX7_init_9 : decode cX7_init 9 = .ok (.aload_n 0, 1) := by decide +kernel
theorem dX7_init_10 : decode cX7_init 10 = .ok (.new 15, 3) := by decide +kernel
theorem dX7_init_13 : decode cX7_init 13 = .ok (.dup, 1) := by decide +kernel
theorem dX7_init_14 : decode cX7_init 14 = .ok (.aload_n 1, 1) := by decide +kernel
theorem dX7_init_15 : decode cX7_init 15 = .ok (.getfield 17, 3) := by decide +kernel
theorem dX7_init_18 : decode cX7_init 18 = .ok (.invokespecial 23, 3) := by decide +kernel
theorem dX7_init_21 : decode cX7_init 21 = .ok (.putfield 26, 3) := by decide +kernel
theorem dX7_init_24 : decode cX7_init 24 = .ok (.return_, 1) := by decide +kernel
theorem dX7_begin_0 : decode cX7_begin 0 = .ok (.aload_n 0, 1) := by decide +kernel
theorem dX7_begin_1 : decode cX7_begin 1 = .ok (.getfield 26, 3) := by decide +kernel
theorem dX7_begin_4 : decode cX7_begin 4 = .ok (.iload_n 2, 1) := by decide +kernel
theorem dX7_begin_5 : decode cX7_begin 5 = .ok (.iload_n 3, 1) := by decide +kernel
theorem dX7_begin_6 : decode cX7_begin 6 = .ok (.invokevirtual 30, 3) := by decide +kernel
theorem dX7_begin_9 : decode cX7_begin 9 = .ok (.aload_n 0, 1) := by decide +kernel
theorem dX7_begin_10 : decode cX7_begin 10 = .ok (.iload_n 1, 1) := by decide +kernel
theorem dX7_begin_11 : decode cX7_begin 11 = .ok (.putfield 34, 3) := by decide +kernel
theorem dX7_begin_14 : decode cX7_begin 14 = .ok (.aload_n 0, 1) := by decide +kernel
theorem dX7_begin_15 : decode cX7_begin 15 = .ok (.iconst 1, 1) := by decide +kernel
theorem dX7_begin_16 : decode cX7_begin 16 = .ok (.putfield 38, 3) := by decide +kernel
theorem dX7_begin_19 : decode cX7_begin 19 = .ok (.aload_n 0, 1) := by decide +kernel
theorem dX7_begin_20 : decode cX7_begin 20 = .ok (.iconst (-1), 1) := by decide +kernel
theorem dX7_begin_21 : decode cX7_begin 21 = .ok (.putfield 42, 3) := by decide +kernel
theorem dX7_begin_24 : decode cX7_begin 24 = .ok (.aload_n 0, 1) := by decide +kernel
theorem dX7_begin_25 : decode cX7_begin 25 = .ok (.iconst 0, 1) := by decide +kernel
theorem dX7_begin_26 : decode cX7_begin 26 = .ok (.putfield 45, 3) := by decide +kernel
theorem dX7_begin_29 : decode cX7_begin 29 = .ok (.aload_n 0, 1) := by decide +kernel
theorem dX7_begin_30 : decode cX7_begin 30 = .ok (.iconst 0, 1) := by decide +kernel
theorem dX7_begin_31 : decode cX7_begin 31 = .ok (.putfield 48, 3) := by decide +kernel
theorem dX7_begin_34 : decode cX7_begin 34 = .ok (.aload_n 0, 1) := by decide +kernel
theorem dX7_begin_35 : decode cX7_begin 35 = .ok (.iload_n 1, 1) := by decide +kernel
theorem dX7_begin_36 : decode cX7_begin 36 = .ok (.ineg, 1) := by decide +kernel
theorem dX7_begin_37 : decode cX7_begin 37 = .ok (.putfield 51, 3) := by decide +kernel
theorem dX7_begin_40 : decode cX7_begin 40 = .ok (.aload_n 0, 1) := by decide +kernel
theorem dX7_begin_41 : decode cX7_begin 41 = .ok (.iconst 0, 1) := by decide +kernel
theorem dX7_begin_42 : decode cX7_begin 42 = .ok (.putfield 54, 3) := by decide +kernel
theorem dX7_begin_45 : decode cX7_begin 45 = .ok (.aload_n 0, 1) := by decide +kernel
theorem dX7_begin_46 : decode cX7_begin 46 = .ok (.iconst 0, 1) := by decide +kernel
theorem dX7_begin_47 : decode cX7_begin 47 = .ok (.putfield 57, 3) := by decide +kernel
theorem dX7_begin_50 : decode cX7_begin 50 = .ok (.aload_n 0, 1) := by decide +kernel
theorem dX7_begin_51 : decode cX7_begin 51 = .ok (.iconst 0, 1) := by decide +kernel
theorem dX7_begin_52 : decode cX7_begin 52 = .ok (.putfield 60, 3) := by decide +kernel
theorem dX7_begin_55 : decode cX7_begin 55 = .ok (.aload_n 0, 1) := by decide +kernel
theorem dX7_begin_56 : decode cX7_begin 56 = .ok (.iconst 0, 1) := by decide +kernel
theorem dX7_begin_57 : decode cX7_begin 57 = .ok (.putfield 63, 3) := by decide +kernel
theorem dX7_begin_60 : decode cX7_begin 60 = .ok (.aload_n 0, 1) := by decide +kernel
theorem dX7_begin_61 : decode cX7_begin 61 = .ok (.iconst 1, 1) := by decide +kernel
theorem dX7_begin_62 : decode cX7_begin 62 = .ok (.putfield 66, 3) := by decide +kernel
theorem dX7_begin_65 : decode cX7_begin 65 = .ok (.aload_n 0, 1) := by decide +kernel
theorem dX7_begin_66 : decode cX7_begin 66 = .ok (.iconst 0, 1) := by decide +kernel
theorem dX7_begin_67 : decode cX7_begin 67 = .ok (.putfield 69, 3) := by decide +kernel
theorem dX7_begin_70 : decode cX7_begin 70 = .ok (.aload_n 0, 1) := by decide +kernel
theorem dX7_begin_71 : decode cX7_begin 71 = .ok (.iconst (-1), 1) := by decide +kernel
theorem dX7_begin_72 : decode cX7_begin 72 = .ok (.putfield 72, 3) := by decide +kernel
theorem dX7_begin_75 : decode cX7_begin 75 = .ok (.aload_n 0, 1) := by decide +kernel
theorem dX7_begin_76 : decode cX7_begin 76 = .ok (.iconst 0, 1) := by decide +kernel
theorem dX7_begin_77 : decode cX7_begin 77 = .ok (.putfield 75, 3) := by decide +kernel
theorem dX7_begin_80 : decode cX7_begin 80 = .ok (.aload_n 0, 1) := by decide +kernel
theorem dX7_begin_81 : decode cX7_begin 81 = .ok (.iconst 0, 1) := by decide +kernel
theorem dX7_begin_82 : decode cX7_begin 82 = .ok (.putfield 78, 3) := by decide +kernel
theorem dX7_begin_85 : decode cX7_begin 85 = .ok (.return_, 1) := by decide +kernel
theorem dX7_beginAsTold_0 : decode cX7_beginAsTold 0 = .ok (.aload_n 0, 1) := by decide +kernel
theorem dX7_beginAsTold_1 : decode cX7_beginAsTold 1 = .ok (.aload_n 0, 1) := by decide +kernel
theorem dX7_beginAsTold_2 : decode cX7_beginAsTold 2 = .ok (.getfield 9, 3) := by decide +kernel
theorem dX7_beginAsTold_5 : decode cX7_beginAsTold 5 = .ok (.getfield 81, 3) := by decide +kernel
theorem dX7_beginAsTold_8 : decode cX7_beginAsTold 8 = .ok (.iconst 0, 1) := by decide +kernel
theorem dX7_beginAsTold_9 : decode cX7_beginAsTold 9 = .ok (.iaload, 1) := by decide +kernel
theorem dX7_beginAsTold_10 : decode cX7_beginAsTold 10 = .ok (.aload_n 0, 1) := by decide +kernel
theorem dX7_beginAsTold_11 : decode cX7_beginAsTold 11 = .ok (.getfield 9, 3) := by decide +kernel
theorem dX7_beginAsTold_14 : decode cX7_beginAsTold 14 = .ok (.getfield 17, 3) := by decide +kernel
theorem dX7_beginAsTold_17 : decode cX7_beginAsTold 17 = .ok (.iconst 0, 1) := by decide +kernel
theorem dX7_beginAsTold_18 : decode cX7_beginAsTold 18 = .ok (.iconst 1, 1) := by decide +kernel
theorem dX7_beginAsTold_19 : decode cX7_beginAsTold 19 = .ok (.invokevirtual 85, 3) := by decide +kernel
theorem dX7_beginAsTold_22 : decode cX7_beginAsTold 22 = .ok (.aload_n 0, 1) := by decide +kernel
theorem dX7_beginAsTold_23 : decode cX7_beginAsTold 23 = .ok (.getfield 9, 3) := by decide +kernel
theorem dX7_beginAsTold_26 : decode cX7_beginAsTold 26 = .ok (.getfield 17, 3) := by decide +kernel
theorem dX7_beginAsTold_29 : decode cX7_beginAsTold 29 = .ok (.iconst 0, 1) := by decide +kernel
theorem dX7_beginAsTold_30 : decode cX7_beginAsTold 30 = .ok (.iconst 2, 1) := by decide +kernel
theorem dX7_beginAsTold_31 : decode cX7_beginAsTold 31 = .ok (.invokevirtual 85, 3) := by decide +kernel
theorem dX7_beginAsTold_34 : decode cX7_beginAsTold 34 = .ok (.invokevirtual 91, 3) := by decide +kernel
theorem dX7_beginAsTold_37 : decode cX7_beginAsTold 37 = .ok (.return_, 1) := by decide +kernel
theorem dX7_meetNothing_0 : decode cX7_meetNothing 0 = .ok (.aload_n 0, 1) := by decide +kernel
theorem dX7_meetNothing_1 : decode cX7_meetNothing 1 = .ok (.iconst 0, 1) := by decide +kernel
theorem dX7_meetNothing_2 : decode cX7_meetNothing 2 = .ok (.putfield 38, 3) := by decide +kernel
theorem dX7_meetNothing_5 : decode cX7_meetNothing 5 = .ok (.return_, 1) := by decide +kernel
theorem dX7_goOn_0 : decode cX7_goOn 0 = .ok (.aload_n 0, 1) := by decide +kernel
theorem dX7_goOn_1 : decode cX7_goOn 1 = .ok (.getfield 69, 3) := by decide +kernel
theorem dX7_goOn_4 : decode cX7_goOn 4 = .ok (.istore_n 2, 1) := by decide +kernel
theorem dX7_goOn_5 : decode cX7_goOn 5 = .ok (.iload_n 2, 1) := by decide +kernel
theorem dX7_goOn_6 : decode cX7_goOn 6 = .ok (.iload_n 1, 1) := by decide +kernel
theorem dX7_goOn_7 : decode cX7_goOn 7 = .ok (.if_icmp .ge 21, 3) := by decide +kernel
theorem dX7_goOn_10 : decode cX7_goOn 10 = .ok (.aload_n 0, 1) := by decide +kernel
theorem dX7_goOn_11 : decode cX7_goOn 11 = .ok (.getfield 72, 3) := by decide +kernel
theorem dX7_goOn_14 : decode cX7_goOn 14 = .ok (.iconst (-1), 1) := by decide +kernel
theorem dX7_goOn_15 : decode cX7_goOn 15 = .ok (.if_icmp .ne 13, 3) := by decide +kernel
theorem dX7_goOn_18 : decode cX7_goOn 18 = .ok (.aload_n 0, 1) := by decide +kernel
theorem dX7_goOn_19 : decode cX7_goOn 19 = .ok (.invokevirtual 94, 3) := by decide +kernel
theorem dX7_goOn_22 : decode cX7_goOn 22 = .ok (.iinc 2 1, 3) := by decide +kernel
theorem dX7_goOn_25 : decode cX7_goOn 25 = .ok (.goto (-20), 3) := by decide +kernel
theorem dX7_goOn_28 : decode cX7_goOn 28 = .ok (.return_, 1) := by decide +kernel
theorem dX7_endBy_0 : decode cX7_endBy 0 = .ok (.aload_n 0, 1) := by decide +kernel
theorem dX7_endBy_1 : decode cX7_endBy 1 = .ok (.iload_n 1, 1) := by decide +kernel
theorem dX7_endBy_2 : decode cX7_endBy 2 = .ok (.iload_n 2, 1) := by decide +kernel
theorem dX7_endBy_3 : decode cX7_endBy 3 = .ok (.iload_n 3, 1) := by decide +kernel
theorem dX7_endBy_4 : decode cX7_endBy 4 = .ok (.invokevirtual 91, 3) := by decide +kernel
theorem dX7_endBy_7 : decode cX7_endBy 7 = .ok (.aload_n 0, 1) := by decide +kernel
theorem dX7_endBy_8 : decode cX7_endBy 8 = .ok (.bipush 100, 2) := by decide +kernel
theorem dX7_endBy_10 : decode cX7_endBy 10 = .ok (.invokevirtual 97, 3) := by decide +kernel
theorem dX7_endBy_13 : decode cX7_endBy 13 = .ok (.aload_n 0, 1) := by decide +kernel
theorem dX7_endBy_14 : decode cX7_endBy 14 = .ok (.getfield 72, 3) := by decide +kernel
theorem dX7_endBy_17 : decode cX7_endBy 17 = .ok (.ireturn, 1) := by decide +kernel
theorem dX7_endLate_0 : decode cX7_endLate 0 = .ok (.aload_n 0, 1) := by decide +kernel
theorem dX7_endLate_1 : decode cX7_endLate 1 = .ok (.aload_n 0, 1) := by decide +kernel
theorem dX7_endLate_2 : decode cX7_endLate 2 = .ok (.getfield 9, 3) := by decide +kernel
theorem dX7_endLate_5 : decode cX7_endLate 5 = .ok (.getfield 81, 3) := by decide +kernel
theorem dX7_endLate_8 : decode cX7_endLate 8 = .ok (.iconst 0, 1) := by decide +kernel
theorem dX7_endLate_9 : decode cX7_endLate 9 = .ok (.iaload, 1) := by decide +kernel
theorem dX7_endLate_10 : decode cX7_endLate 10 = .ok (.iload_n 3, 1) := by decide +kernel
theorem dX7_endLate_11 : decode cX7_endLate 11 = .ok (.iload 4, 2) := by decide +kernel
theorem dX7_endLate_13 : decode cX7_endLate 13 = .ok (.invokevirtual 91, 3) := by decide +kernel
theorem dX7_endLate_16 : decode cX7_endLate 16 = .ok (.aload_n 0, 1) := by decide +kernel
theorem dX7_endLate_17 : decode cX7_endLate 17 = .ok (.iload_n 1, 1) := by decide +kernel
theorem dX7_endLate_18 : decode cX7_endLate 18 = .ok (.putfield 42, 3) := by decide +kernel
theorem dX7_endLate_21 : decode cX7_endLate 21 = .ok (.aload_n 0, 1) := by decide +kernel
theorem dX7_endLate_22 : decode cX7_endLate 22 = .ok (.iload_n 2, 1) := by decide +kernel
theorem dX7_endLate_23 : decode cX7_endLate 23 = .ok (.putfield 45, 3) := by decide +kernel
theorem dX7_endLate_26 : decode cX7_endLate 26 = .ok (.aload_n 0, 1) := by decide +kernel
theorem dX7_endLate_27 : decode cX7_endLate 27 = .ok (.bipush 100, 2) := by decide +kernel
theorem dX7_endLate_29 : decode cX7_endLate 29 = .ok (.invokevirtual 97, 3) := by decide +kernel
theorem dX7_endLate_32 : decode cX7_endLate 32 = .ok (.aload_n 0, 1) := by decide +kernel
theorem dX7_endLate_33 : decode cX7_endLate 33 = .ok (.getfield 72, 3) := by decide +kernel
theorem dX7_endLate_36 : decode cX7_endLate 36 = .ok (.ireturn, 1) := by decide +kernel
theorem dX7_oddsBy_0 : decode cX7_oddsBy 0 = .ok (.aload_n 0, 1) := by decide +kernel
theorem dX7_oddsBy_1 : decode cX7_oddsBy 1 = .ok (.getfield 9, 3) := by decide +kernel
theorem dX7_oddsBy_4 : decode cX7_oddsBy 4 = .ok (.getfield 17, 3) := by decide +kernel
theorem dX7_oddsBy_7 : decode cX7_oddsBy 7 = .ok (.iconst 0, 1) := by decide +kernel
theorem dX7_oddsBy_8 : decode cX7_oddsBy 8 = .ok (.iconst 1, 1) := by decide +kernel
theorem dX7_oddsBy_9 : decode cX7_oddsBy 9 = .ok (.invokevirtual 85, 3) := by decide +kernel
theorem dX7_oddsBy_12 : decode cX7_oddsBy 12 = .ok (.istore_n 3, 1) := by decide +kernel
theorem dX7_oddsBy_13 : decode cX7_oddsBy 13 = .ok (.aload_n 0, 1) := by decide +kernel
theorem dX7_oddsBy_14 : decode cX7_oddsBy 14 = .ok (.getfield 9, 3) := by decide +kernel
theorem dX7_oddsBy_17 : decode cX7_oddsBy 17 = .ok (.getfield 17, 3) := by decide +kernel
theorem dX7_oddsBy_20 : decode cX7_oddsBy 20 = .ok (.iconst 0, 1) := by decide +kernel
theorem dX7_oddsBy_21 : decode cX7_oddsBy 21 = .ok (.iconst 2, 1) := by decide +kernel
theorem dX7_oddsBy_22 : decode cX7_oddsBy 22 = .ok (.invokevirtual 85, 3) := by decide +kernel
theorem dX7_oddsBy_25 : decode cX7_oddsBy 25 = .ok (.istore 4, 2) := by decide +kernel
theorem dX7_oddsBy_27 : decode cX7_oddsBy 27 = .ok (.iconst 0, 1) := by decide +kernel
theorem dX7_oddsBy_28 : decode cX7_oddsBy 28 = .ok (.istore 5, 2) := by decide +kernel
theorem dX7_oddsBy_30 : decode cX7_oddsBy 30 = .ok (.iconst (-1), 1) := by decide +kernel
theorem dX7_oddsBy_31 : decode cX7_oddsBy 31 = .ok (.istore 6, 2) := by decide +kernel
theorem dX7_oddsBy_33 : decode cX7_oddsBy 33 = .ok (.iload 6, 2) := by decide +kernel
theorem dX7_oddsBy_35 : decode cX7_oddsBy 35 = .ok (.iconst 1, 1) := by decide +kernel
theorem dX7_oddsBy_36 : decode cX7_oddsBy 36 = .ok (.if_icmp .gt 62, 3) := by decide +kernel
theorem dX7_oddsBy_39 : decode cX7_oddsBy 39 = .ok (.iconst (-1), 1) := by decide +kernel
theorem dX7_oddsBy_40 : decode cX7_oddsBy 40 = .ok (.istore 7, 2) := by decide +kernel
theorem dX7_oddsBy_42 : decode cX7_oddsBy 42 = .ok (.iload 7, 2) := by decide +kernel
theorem dX7_oddsBy_44 : decode cX7_oddsBy 44 = .ok (.iconst 1, 1) := by decide +kernel
theorem dX7_oddsBy_45 : decode cX7_oddsBy 45 = .ok (.if_icmp .gt 47, 3) := by decide +kernel
theorem dX7_oddsBy_48 : decode cX7_oddsBy 48 = .ok (.aload_n 0, 1) := by decide +kernel
theorem dX7_oddsBy_49 : decode cX7_oddsBy 49 = .ok (.iload_n 1, 1) := by decide +kernel
theorem dX7_oddsBy_50 : decode cX7_oddsBy 50 = .ok (.iload_n 3, 1) := by decide +kernel
theorem dX7_oddsBy_51 : decode cX7_oddsBy 51 = .ok (.iload 6, 2) := by decide +kernel
theorem dX7_oddsBy_53 : decode cX7_oddsBy 53 = .ok (.iadd, 1) := by decide +kernel
theorem dX7_oddsBy_54 : decode cX7_oddsBy 54 = .ok (.iload 4, 2) := by decide +kernel
theorem dX7_oddsBy_56 : decode cX7_oddsBy 56 = .ok (.iload 7, 2) := by decide +kernel
theorem dX7_oddsBy_58 : decode cX7_oddsBy 58 = .ok (.iadd, 1) := by decide +kernel
theorem dX7_oddsBy_59 : decode cX7_oddsBy 59 = .ok (.invokevirtual 101, 3) := by decide +kernel
theorem dX7_oddsBy_62 : decode cX7_oddsBy 62 = .ok (.iload_n 2, 1) := by decide +kernel
theorem dX7_oddsBy_63 : decode cX7_oddsBy 63 = .ok (.if_icmp .ne 23, 3) := by decide +kernel
theorem dX7_oddsBy_66 : decode cX7_oddsBy 66 = .ok (.iload 5, 2) := by decide +kernel
theorem dX7_oddsBy_68 : decode cX7_oddsBy 68 = .ok (.iconst 2, 1) := by decide +kernel
theorem dX7_oddsBy_69 : decode cX7_oddsBy 69 = .ok (.iload 6, 2) := by decide +kernel
theorem dX7_oddsBy_71 : decode cX7_oddsBy 71 = .ok (.invokestatic 105, 3) := by decide +kernel
theorem dX7_oddsBy_74 : decode cX7_oddsBy 74 = .ok (.isub, 1) := by decide +kernel
theorem dX7_oddsBy_75 : decode cX7_oddsBy 75 = .ok (.iconst 2, 1) := by decide +kernel
theorem dX7_oddsBy_76 : decode cX7_oddsBy 76 = .ok (.iload 7, 2) := by decide +kernel
theorem dX7_oddsBy_78 : decode cX7_oddsBy 78 = .ok (.invokestatic 105, 3) := by decide +kernel
theorem dX7_oddsBy_81 : decode cX7_oddsBy 81 = .ok (.isub, 1) := by decide +kernel
theorem dX7_oddsBy_82 : decode cX7_oddsBy 82 = .ok (.imul, 1) := by decide +kernel
theorem dX7_oddsBy_83 : decode cX7_oddsBy 83 = .ok (.iadd, 1) := by decide +kernel
theorem dX7_oddsBy_84 : decode cX7_oddsBy 84 = .ok (.istore 5, 2) := by decide +kernel
theorem dX7_oddsBy_86 : decode cX7_oddsBy 86 = .ok (.iinc 7 1, 3) := by decide +kernel
theorem dX7_oddsBy_89 : decode cX7_oddsBy 89 = .ok (.goto (-47), 3) := by decide +kernel
theorem dX7_oddsBy_92 : decode cX7_oddsBy 92 = .ok (.iinc 6 1, 3) := by decide +kernel
theorem dX7_oddsBy_95 : decode cX7_oddsBy 95 = .ok (.goto (-62), 3) := by decide +kernel
theorem dX7_oddsBy_98 : decode cX7_oddsBy 98 = .ok (.iload 5, 2) := by decide +kernel
theorem dX7_oddsBy_100 : decode cX7_oddsBy 100 = .ok (.ireturn, 1) := by decide +kernel
theorem dX7_isSoft_0 : decode cX7_isSoft 0 = .ok (.aload_n 0, 1) := by decide +kernel
theorem dX7_isSoft_1 : decode cX7_isSoft 1 = .ok (.getfield 54, 3) := by decide +kernel
theorem dX7_isSoft_4 : decode cX7_isSoft 4 = .ok (.aload_n 0, 1) := by decide +kernel
theorem dX7_isSoft_5 : decode cX7_isSoft 5 = .ok (.getfield 26, 3) := by decide +kernel
theorem dX7_isSoft_8 : decode cX7_isSoft 8 = .ok (.getfield 111, 3) := by decide +kernel
theorem dX7_isSoft_11 : decode cX7_isSoft 11 = .ok (.isub, 1) := by decide +kernel
theorem dX7_isSoft_12 : decode cX7_isSoft 12 = .ok (.invokestatic 105, 3) := by decide +kernel
theorem dX7_isSoft_15 : decode cX7_isSoft 15 = .ok (.iload_n 1, 1) := by decide +kernel
theorem dX7_isSoft_16 : decode cX7_isSoft 16 = .ok (.if_icmp .gt 26, 3) := by decide +kernel
theorem dX7_isSoft_19 : decode cX7_isSoft 19 = .ok (.aload_n 0, 1) := by decide +kernel
theorem dX7_isSoft_20 : decode cX7_isSoft 20 = .ok (.getfield 57, 3) := by decide +kernel
theorem dX7_isSoft_23 : decode cX7_isSoft 23 = .ok (.aload_n 0, 1) := by decide +kernel
theorem dX7_isSoft_24 : decode cX7_isSoft 24 = .ok (.getfield 26, 3) := by decide +kernel
theorem dX7_isSoft_27 : decode cX7_isSoft 27 = .ok (.getfield 114, 3) := by decide +kernel
theorem dX7_isSoft_30 : decode cX7_isSoft 30 = .ok (.isub, 1) := by decide +kernel
theorem dX7_isSoft_31 : decode cX7_isSoft 31 = .ok (.invokestatic 105, 3) := by decide +kernel
theorem dX7_isSoft_34 : decode cX7_isSoft 34 = .ok (.iload_n 1, 1) := by decide +kernel
theorem dX7_isSoft_35 : decode cX7_isSoft 35 = .ok (.if_icmp .gt 7, 3) := by decide +kernel
theorem dX7_isSoft_38 : decode cX7_isSoft 38 = .ok (.iconst 1, 1) := by decide +kernel
theorem dX7_isSoft_39 : decode cX7_isSoft 39 = .ok (.goto 4, 3) := by decide +kernel
theorem dX7_isSoft_42 : decode cX7_isSoft 42 = .ok (.iconst 0, 1) := by decide +kernel
theorem dX7_isSoft_43 : decode cX7_isSoft 43 = .ok (.ireturn, 1) := by decide +kernel
theorem dX7_goStep_0 : decode cX7_goStep 0 = .ok (.aload_n 0, 1) := by decide +kernel
theorem dX7_goStep_1 : decode cX7_goStep 1 = .ok (.getfield 51, 3) := by decide +kernel
theorem dX7_goStep_4 : decode cX7_goStep 4 = .ok (.aload_n 0, 1) := by decide +kernel
theorem dX7_goStep_5 : decode cX7_goStep 5 = .ok (.getfield 26, 3) := by decide +kernel
theorem dX7_goStep_8 : decode cX7_goStep 8 = .ok (.getfield 117, 3) := by decide +kernel
theorem dX7_goStep_11 : decode cX7_goStep 11 = .ok (.isub, 1) := by decide +kernel
theorem dX7_goStep_12 : decode cX7_goStep 12 = .ok (.istore_n 1, 1) := by decide +kernel
theorem dX7_goStep_13 : decode cX7_goStep 13 = .ok (.aload_n 0, 1) := by decide +kernel
theorem dX7_goStep_14 : decode cX7_goStep 14 = .ok (.getfield 26, 3) := by decide +kernel
theorem dX7_goStep_17 : decode cX7_goStep 17 = .ok (.aload_n 0, 1) := by decide +kernel
theorem dX7_goStep_18 : decode cX7_goStep 18 = .ok (.invokevirtual 118, 3) := by decide +kernel
theorem dX7_goStep_21 : decode cX7_goStep 21 = .ok (.invokevirtual 122, 3) := by decide +kernel
theorem dX7_goStep_24 : decode cX7_goStep 24 = .ok (.aload_n 0, 1) := by decide +kernel
theorem dX7_goStep_25 : decode cX7_goStep 25 = .ok (.dup, 1) := by decide +kernel
theorem dX7_goStep_26 : decode cX7_goStep 26 = .ok (.getfield 57, 3) := by decide +kernel
theorem dX7_goStep_29 : decode cX7_goStep 29 = .ok (.aload_n 0, 1) := by decide +kernel
theorem dX7_goStep_30 : decode cX7_goStep 30 = .ok (.getfield 9, 3) := by decide +kernel
theorem dX7_goStep_33 : decode cX7_goStep 33 = .ok (.getfield 81, 3) := by decide +kernel
theorem dX7_goStep_36 : decode cX7_goStep 36 = .ok (.iconst 1, 1) := by decide +kernel
theorem dX7_goStep_37 : decode cX7_goStep 37 = .ok (.iaload, 1) := by decide +kernel
theorem dX7_goStep_38 : decode cX7_goStep 38 = .ok (.isub, 1) := by decide +kernel
theorem dX7_goStep_39 : decode cX7_goStep 39 = .ok (.putfield 57, 3) := by decide +kernel
theorem dX7_goStep_42 : decode cX7_goStep 42 = .ok (.aload_n 0, 1) := by decide +kernel
theorem dX7_goStep_43 : decode cX7_goStep 43 = .ok (.dup, 1) := by decide +kernel
theorem dX7_goStep_44 : decode cX7_goStep 44 = .ok (.getfield 48, 3) := by decide +kernel
theorem dX7_goStep_47 : decode cX7_goStep 47 = .ok (.aload_n 0, 1) := by decide +kernel
theorem dX7_goStep_48 : decode cX7_goStep 48 = .ok (.getfield 54, 3) := by decide +kernel
theorem dX7_goStep_51 : decode cX7_goStep 51 = .ok (.iadd, 1) := by decide +kernel
theorem dX7_goStep_52 : decode cX7_goStep 52 = .ok (.putfield 48, 3) := by decide +kernel
theorem dX7_goStep_55 : decode cX7_goStep 55 = .ok (.aload_n 0, 1) := by decide +kernel
theorem dX7_goStep_56 : decode cX7_goStep 56 = .ok (.dup, 1) := by decide +kernel
theorem dX7_goStep_57 : decode cX7_goStep 57 = .ok (.getfield 51, 3) := by decide +kernel
theorem dX7_goStep_60 : decode cX7_goStep 60 = .ok (.aload_n 0, 1) := by decide +kernel
theorem dX7_goStep_61 : decode cX7_goStep 61 = .ok (.getfield 57, 3) := by decide +kernel
theorem dX7_goStep_64 : decode cX7_goStep 64 = .ok (.iadd, 1) := by decide +kernel
theorem dX7_goStep_65 : decode cX7_goStep 65 = .ok (.putfield 51, 3) := by decide +kernel
theorem dX7_goStep_68 : decode cX7_goStep 68 = .ok (.aload_n 0, 1) := by decide +kernel
theorem dX7_goStep_69 : decode cX7_goStep 69 = .ok (.invokevirtual 125, 3) := by decide +kernel
theorem dX7_goStep_72 : decode cX7_goStep 72 = .ok (.aload_n 0, 1) := by decide +kernel
theorem dX7_goStep_73 : decode cX7_goStep 73 = .ok (.getfield 38, 3) := by decide +kernel
theorem dX7_goStep_76 : decode cX7_goStep 76 = .ok (.ifCond .eq 11, 3) := by decide +kernel
theorem dX7_goStep_79 : decode cX7_goStep 79 = .ok (.aload_n 0, 1) := by decide +kernel
theorem dX7_goStep_80 : decode cX7_goStep 80 = .ok (.iload_n 1, 1) := by decide +kernel
theorem dX7_goStep_81 : decode cX7_goStep 81 = .ok (.invokevirtual 128, 3) := by decide +kernel
theorem dX7_goStep_84 : decode cX7_goStep 84 = .ok (.goto 4, 3) := by decide +kernel
theorem dX7_goStep_87 : decode cX7_goStep 87 = .ok (.iconst (-1), 1) := by decide +kernel
theorem dX7_goStep_88 : decode cX7_goStep 88 = .ok (.istore_n 2, 1) := by decide +kernel
theorem dX7_goStep_89 : decode cX7_goStep 89 = .ok (.iload_n 2, 1) := by decide +kernel
theorem dX7_goStep_90 : decode cX7_goStep 90 = .ok (.iconst (-1), 1) := by decide +kernel
theorem dX7_goStep_91 : decode cX7_goStep 91 = .ok (.if_icmp .eq 8, 3) := by decide +kernel
theorem dX7_goStep_94 : decode cX7_goStep 94 = .ok (.aload_n 0, 1) := by decide +kernel
theorem dX7_goStep_95 : decode cX7_goStep 95 = .ok (.iload_n 2, 1) := by decide +kernel
theorem dX7_goStep_96 : decode cX7_goStep 96 = .ok (.invokevirtual 131, 3) := by decide +kernel
theorem dX7_goStep_99 : decode cX7_goStep 99 = .ok (.aload_n 0, 1) := by decide +kernel
theorem dX7_goStep_100 : decode cX7_goStep 100 = .ok (.dup, 1) := by decide +kernel
theorem dX7_goStep_101 : decode cX7_goStep 101 = .ok (.getfield 69, 3) := by decide +kernel
theorem dX7_goStep_104 : decode cX7_goStep 104 = .ok (.iconst 1, 1) := by decide +kernel
theorem dX7_goStep_105 : decode cX7_goStep 105 = .ok (.iadd, 1) := by decide +kernel
theorem dX7_goStep_106 : decode cX7_goStep 106 = .ok (.putfield 69, 3) := by decide +kernel
theorem dX7_goStep_109 : decode cX7_goStep 109 = .ok (.return_, 1) := by decide +kernel
theorem dX7_lateSide_0 : decode cX7_lateSide 0 = .ok (.aload_n 0, 1) := by decide +kernel
theorem dX7_lateSide_1 : decode cX7_lateSide 1 = .ok (.getfield 42, 3) := by decide +kernel
theorem dX7_lateSide_4 : decode cX7_lateSide 4 = .ok (.iconst (-1), 1) := by decide +kernel
theorem dX7_lateSide_5 : decode cX7_lateSide 5 = .ok (.if_icmp .eq 21, 3) := by decide +kernel
theorem dX7_lateSide_8 : decode cX7_lateSide 8 = .ok (.aload_n 0, 1) := by decide +kernel
theorem dX7_lateSide_9 : decode cX7_lateSide 9 = .ok (.getfield 69, 3) := by decide +kernel
theorem dX7_lateSide_12 : decode cX7_lateSide 12 = .ok (.aload_n 0, 1) := by decide +kernel
theorem dX7_lateSide_13 : decode cX7_lateSide 13 = .ok (.getfield 45, 3) := by decide +kernel
theorem dX7_lateSide_16 : decode cX7_lateSide 16 = .ok (.if_icmp .lt 10, 3) := by decide +kernel
theorem dX7_lateSide_19 : decode cX7_lateSide 19 = .ok (.aload_n 0, 1) := by decide +kernel
theorem dX7_lateSide_20 : decode cX7_lateSide 20 = .ok (.getfield 66, 3) := by decide +kernel
theorem dX7_lateSide_23 : decode cX7_lateSide 23 = .ok (.ifCond .eq 5, 3) := by decide +kernel
theorem dX7_lateSide_26 : decode cX7_lateSide 26 = .ok (.iconst 0, 1) := by decide +kernel
theorem dX7_lateSide_27 : decode cX7_lateSide 27 = .ok (.ireturn, 1) := by decide +kernel
theorem dX7_lateSide_28 : decode cX7_lateSide 28 = .ok (.aload_n 0, 1) := by decide +kernel
theorem dX7_lateSide_29 : decode cX7_lateSide 29 = .ok (.getfield 48, 3) := by decide +kernel
theorem dX7_lateSide_32 : decode cX7_lateSide 32 = .ok (.aload_n 0, 1) := by decide +kernel
theorem dX7_lateSide_33 : decode cX7_lateSide 33 = .ok (.getfield 26, 3) := by decide +kernel
theorem dX7_lateSide_36 : decode cX7_lateSide 36 = .ok (.getfield 134, 3) := by decide +kernel
theorem dX7_lateSide_39 : decode cX7_lateSide 39 = .ok (.isub, 1) := by decide +kernel
theorem dX7_lateSide_40 : decode cX7_lateSide 40 = .ok (.aload_n 0, 1) := by decide +kernel
theorem dX7_lateSide_41 : decode cX7_lateSide 41 = .ok (.getfield 9, 3) := by decide +kernel
theorem dX7_lateSide_44 : decode cX7_lateSide 44 = .ok (.getfield 135, 3) := by decide +kernel
theorem dX7_lateSide_47 : decode cX7_lateSide 47 = .ok (.aload_n 0, 1) := by decide +kernel
theorem dX7_lateSide_48 : decode cX7_lateSide 48 = .ok (.getfield 42, 3) := by decide +kernel
theorem dX7_lateSide_51 : decode cX7_lateSide 51 = .ok (.iconst 0, 1) := by decide +kernel
theorem dX7_lateSide_52 : decode cX7_lateSide 52 = .ok (.invokevirtual 85, 3) := by decide +kernel
theorem dX7_lateSide_55 : decode cX7_lateSide 55 = .ok (.invokestatic 138, 3) := by decide +kernel
theorem dX7_lateSide_58 : decode cX7_lateSide 58 = .ok (.ireturn, 1) := by decide +kernel
theorem dX7_holdByCord_0 : decode cX7_holdByCord 0 = .ok (.aload_n 0, 1) := by decide +kernel
theorem dX7_holdByCord_1 : decode cX7_holdByCord 1 = .ok (.getfield 48, 3) := by decide +kernel
theorem dX7_holdByCord_4 : decode cX7_holdByCord 4 = .ok (.aload_n 0, 1) := by decide +kernel
theorem dX7_holdByCord_5 : decode cX7_holdByCord 5 = .ok (.getfield 26, 3) := by decide +kernel
theorem dX7_holdByCord_8 : decode cX7_holdByCord 8 = .ok (.getfield 134, 3) := by decide +kernel
theorem dX7_holdByCord_11 : decode cX7_holdByCord 11 = .ok (.isub, 1) := by decide +kernel
theorem dX7_holdByCord_12 : decode cX7_holdByCord 12 = .ok (.istore_n 1, 1) := by decide +kernel
theorem dX7_holdByCord_13 : decode cX7_holdByCord 13 = .ok (.aload_n 0, 1) := by decide +kernel
theorem dX7_holdByCord_14 : decode cX7_holdByCord 14 = .ok (.getfield 51, 3) := by decide +kernel
theorem dX7_holdByCord_17 : decode cX7_holdByCord 17 = .ok (.aload_n 0, 1) := by decide +kernel
theorem dX7_holdByCord_18 : decode cX7_holdByCord 18 = .ok (.getfield 26, 3) := by decide +kernel
theorem dX7_holdByCord_21 : decode cX7_holdByCord 21 = .ok (.getfield 117, 3) := by decide +kernel
theorem dX7_holdByCord_24 : decode cX7_holdByCord 24 = .ok (.isub, 1) := by decide +kernel
theorem dX7_holdByCord_25 : decode cX7_holdByCord 25 = .ok (.istore_n 2, 1) := by decide +kernel
theorem dX7_holdByCord_26 : decode cX7_holdByCord 26 = .ok (.iload_n 1, 1) := by decide +kernel
theorem dX7_holdByCord_27 : decode cX7_holdByCord 27 = .ok (.iload_n 1, 1) := by decide +kernel
theorem dX7_holdByCord_28 : decode cX7_holdByCord 28 = .ok (.imul, 1) := by decide +kernel
theorem dX7_holdByCord_29 : decode cX7_holdByCord 29 = .ok (.iload_n 2, 1) := by decide +kernel
theorem dX7_holdByCord_30 : decode cX7_holdByCord 30 = .ok (.iload_n 2, 1) := by decide +kernel
theorem dX7_holdByCord_31 : decode cX7_holdByCord 31 = .ok (.imul, 1) := by decide +kernel
theorem dX7_holdByCord_32 : decode cX7_holdByCord 32 = .ok (.iadd, 1) := by decide +kernel
theorem dX7_holdByCord_33 : decode cX7_holdByCord 33 = .ok (.istore_n 3, 1) := by decide +kernel
theorem dX7_holdByCord_34 : decode cX7_holdByCord 34 = .ok (.aload_n 0, 1) := by decide +kernel
theorem dX7_holdByCord_35 : decode cX7_holdByCord 35 = .ok (.iload_n 3, 1) := by decide +kernel
theorem dX7_holdByCord_36 : decode cX7_holdByCord 36 = .ok (.aload_n 0, 1) := by decide +kernel
theorem dX7_holdByCord_37 : decode cX7_holdByCord 37 = .ok (.getfield 34, 3) := by decide +kernel
theorem dX7_holdByCord_40 : decode cX7_holdByCord 40 = .ok (.aload_n 0, 1) := by decide +kernel
theorem dX7_holdByCord_41 : decode cX7_holdByCord 41 = .ok (.getfield 34, 3) := by decide +kernel
theorem dX7_holdByCord_44 : decode cX7_holdByCord 44 = .ok (.imul, 1) := by decide +kernel
theorem dX7_holdByCord_45 : decode cX7_holdByCord 45 = .ok (.if_icmp .le 7, 3) := by decide +kernel
theorem dX7_holdByCord_48 : decode cX7_holdByCord 48 = .ok (.iconst 1, 1) := by decide +kernel
theorem dX7_holdByCord_49 : decode cX7_holdByCord 49 = .ok (.goto 4, 3) := by decide +kernel
theorem dX7_holdByCord_52 : decode cX7_holdByCord 52 = .ok (.iconst 0, 1) := by decide +kernel
theorem dX7_holdByCord_53 : decode cX7_holdByCord 53 = .ok (.putfield 66, 3) := by decide +kernel
theorem dX7_holdByCord_56 : decode cX7_holdByCord 56 = .ok (.aload_n 0, 1) := by decide +kernel
theorem dX7_holdByCord_57 : decode cX7_holdByCord 57 = .ok (.getfield 66, 3) := by decide +kernel
theorem dX7_holdByCord_60 : decode cX7_holdByCord 60 = .ok (.ifCond .ne 22, 3) := by decide +kernel
theorem dX7_holdByCord_63 : decode cX7_holdByCord 63 = .ok (.aload_n 0, 1) := by decide +kernel
theorem dX7_holdByCord_64 : decode cX7_holdByCord 64 = .ok (.aload_n 0, 1) := by decide +kernel
theorem dX7_holdByCord_65 : decode cX7_holdByCord 65 = .ok (.getfield 60, 3) := by decide +kernel
theorem dX7_holdByCord_68 : decode cX7_holdByCord 68 = .ok (.aload_n 0, 1) := by decide +kernel
theorem dX7_holdByCord_69 : decode cX7_holdByCord 69 = .ok (.getfield 63, 3) := by decide +kernel
theorem dX7_holdByCord_72 : decode cX7_holdByCord 72 = .ok (.iadd, 1) := by decide +kernel
theorem dX7_holdByCord_73 : decode cX7_holdByCord 73 = .ok (.bipush 16, 2) := by decide +kernel
theorem dX7_holdByCord_75 : decode cX7_holdByCord 75 = .ok (.invokestatic 143, 3) := by decide +kernel
theorem dX7_holdByCord_78 : decode cX7_holdByCord 78 = .ok (.putfield 60, 3) := by decide +kernel
theorem dX7_holdByCord_81 : decode cX7_holdByCord 81 = .ok (.return_, 1) := by decide +kernel
theorem dX7_holdByCord_82 : decode cX7_holdByCord 82 = .ok (.aload_n 0, 1) := by decide +kernel
theorem dX7_holdByCord_83 : decode cX7_holdByCord 83 = .ok (.iload_n 3, 1) := by decide +kernel
theorem dX7_holdByCord_84 : decode cX7_holdByCord 84 = .ok (.invokevirtual 146, 3) := by decide +kernel
theorem dX7_holdByCord_87 : decode cX7_holdByCord 87 = .ok (.istore 4, 2) := by decide +kernel
theorem dX7_holdByCord_89 : decode cX7_holdByCord 89 = .ok (.iload_n 1, 1) := by decide +kernel
theorem dX7_holdByCord_90 : decode cX7_holdByCord 90 = .ok (.aload_n 0, 1) := by decide +kernel
theorem dX7_holdByCord_91 : decode cX7_holdByCord 91 = .ok (.getfield 34, 3) := by decide +kernel
theorem dX7_holdByCord_94 : decode cX7_holdByCord 94 = .ok (.imul, 1) := by decide +kernel
theorem dX7_holdByCord_95 : decode cX7_holdByCord 95 = .ok (.iload 4, 2) := by decide +kernel
theorem dX7_holdByCord_97 : decode cX7_holdByCord 97 = .ok (.idiv, 1) := by decide +kernel
theorem dX7_holdByCord_98 : decode cX7_holdByCord 98 = .ok (.istore 5, 2) := by decide +kernel
theorem dX7_holdByCord_100 : decode cX7_holdByCord 100 = .ok (.iload_n 2, 1) := by decide +kernel
theorem dX7_holdByCord_101 : decode cX7_holdByCord 101 = .ok (.aload_n 0, 1) := by decide +kernel
theorem dX7_holdByCord_102 : decode cX7_holdByCord 102 = .ok (.getfield 34, 3) := by decide +kernel
theorem dX7_holdByCord_105 : decode cX7_holdByCord 105 = .ok (.imul, 1) := by decide +kernel
theorem dX7_holdByCord_106 : decode cX7_holdByCord 106 = .ok (.iload 4, 2) := by decide +kernel
theorem dX7_holdByCord_108 : decode cX7_holdByCord 108 = .ok (.idiv, 1) := by decide +kernel
theorem dX7_holdByCord_109 : decode cX7_holdByCord 109 = .ok (.istore 6, 2) := by decide +kernel
theorem dX7_holdByCord_111 : decode cX7_holdByCord 111 = .ok (.aload_n 0, 1) := by decide +kernel
theorem dX7_holdByCord_112 : decode cX7_holdByCord 112 = .ok (.aload_n 0, 1) := by decide +kernel
theorem dX7_holdByCord_113 : decode cX7_holdByCord 113 = .ok (.getfield 26, 3) := by decide +kernel
theorem dX7_holdByCord_116 : decode cX7_holdByCord 116 = .ok (.getfield 134, 3) := by decide +kernel
theorem dX7_holdByCord_119 : decode cX7_holdByCord 119 = .ok (.iload 5, 2) := by decide +kernel
theorem dX7_holdByCord_121 : decode cX7_holdByCord 121 = .ok (.iadd, 1) := by decide +kernel
theorem dX7_holdByCord_122 : decode cX7_holdByCord 122 = .ok (.putfield 48, 3) := by decide +kernel
theorem dX7_holdByCord_125 : decode cX7_holdByCord 125 = .ok (.aload_n 0, 1) := by decide +kernel
theorem dX7_holdByCord_126 : decode cX7_holdByCord 126 = .ok (.aload_n 0, 1) := by decide +kernel
theorem dX7_holdByCord_127 : decode cX7_holdByCord 127 = .ok (.getfield 26, 3) := by decide +kernel
theorem dX7_holdByCord_130 : decode cX7_holdByCord 130 = .ok (.getfield 117, 3) := by decide +kernel
theorem dX7_holdByCord_133 : decode cX7_holdByCord 133 = .ok (.iload 6, 2) := by decide +kernel
theorem dX7_holdByCord_135 : decode cX7_holdByCord 135 = .ok (.iadd, 1) := by decide +kernel
theorem dX7_holdByCord_136 : decode cX7_holdByCord 136 = .ok (.putfield 51, 3) := by decide +kernel
theorem dX7_holdByCord_139 : decode cX7_holdByCord 139 = .ok (.aload_n 0, 1) := by decide +kernel
theorem dX7_holdByCord_140 : decode cX7_holdByCord 140 = .ok (.dup, 1) := by decide +kernel
theorem dX7_holdByCord_141 : decode cX7_holdByCord 141 = .ok (.getfield 54, 3) := by decide +kernel
theorem dX7_holdByCord_144 : decode cX7_holdByCord 144 = .ok (.iload 5, 2) := by decide +kernel
theorem dX7_holdByCord_146 : decode cX7_holdByCord 146 = .ok (.iload_n 1, 1) := by decide +kernel
theorem dX7_holdByCord_147 : decode cX7_holdByCord 147 = .ok (.isub, 1) := by decide +kernel
theorem dX7_holdByCord_148 : decode cX7_holdByCord 148 = .ok (.iadd, 1) := by decide +kernel
theorem dX7_holdByCord_149 : decode cX7_holdByCord 149 = .ok (.putfield 54, 3) := by decide +kernel
theorem dX7_holdByCord_152 : decode cX7_holdByCord 152 = .ok (.aload_n 0, 1) := by decide +kernel
theorem dX7_holdByCord_153 : decode cX7_holdByCord 153 = .ok (.dup, 1) := by decide +kernel
theorem dX7_holdByCord_154 : decode cX7_holdByCord 154 = .ok (.getfield 57, 3) := by decide +kernel
theorem dX7_holdByCord_157 : decode cX7_holdByCord 157 = .ok (.iload 6, 2) := by decide +kernel
theorem dX7_holdByCord_159 : decode cX7_holdByCord 159 = .ok (.iload_n 2, 1) := by decide +kernel
theorem dX7_holdByCord_160 : decode cX7_holdByCord 160 = .ok (.isub, 1) := by decide +kernel
theorem dX7_holdByCord_161 : decode cX7_holdByCord 161 = .ok (.iadd, 1) := by decide +kernel
theorem dX7_holdByCord_162 : decode cX7_holdByCord 162 = .ok (.putfield 57, 3) := by decide +kernel
theorem dX7_holdByCord_165 : decode cX7_holdByCord 165 = .ok (.aload_n 0, 1) := by decide +kernel
theorem dX7_holdByCord_166 : decode cX7_holdByCord 166 = .ok (.iconst 0, 1) := by decide +kernel
theorem dX7_holdByCord_167 : decode cX7_holdByCord 167 = .ok (.putfield 60, 3) := by decide +kernel
theorem dX7_holdByCord_170 : decode cX7_holdByCord 170 = .ok (.aload_n 0, 1) := by decide +kernel
theorem dX7_holdByCord_171 : decode cX7_holdByCord 171 = .ok (.aload_n 0, 1) := by decide +kernel
theorem dX7_holdByCord_172 : decode cX7_holdByCord 172 = .ok (.getfield 54, 3) := by decide +kernel
theorem dX7_holdByCord_175 : decode cX7_holdByCord 175 = .ok (.aload_n 0, 1) := by decide +kernel
theorem dX7_holdByCord_176 : decode cX7_holdByCord 176 = .ok (.getfield 26, 3) := by decide +kernel
theorem dX7_holdByCord_179 : decode cX7_holdByCord 179 = .ok (.getfield 111, 3) := by decide +kernel
theorem dX7_holdByCord_182 : decode cX7_holdByCord 182 = .ok (.isub, 1) := by decide +kernel
theorem dX7_holdByCord_183 : decode cX7_holdByCord 183 = .ok (.iconst 3, 1) := by decide +kernel
theorem dX7_holdByCord_184 : decode cX7_holdByCord 184 = .ok (.idiv, 1) := by decide +kernel
theorem dX7_holdByCord_185 : decode cX7_holdByCord 185 = .ok (.putfield 63, 3) := by decide +kernel
theorem dX7_holdByCord_188 : decode cX7_holdByCord 188 = .ok (.aload_n 0, 1) := by decide +kernel
theorem dX7_holdByCord_189 : decode cX7_holdByCord 189 = .ok (.dup, 1) := by decide +kernel
theorem dX7_holdByCord_190 : decode cX7_holdByCord 190 = .ok (.getfield 78, 3) := by decide +kernel
theorem dX7_holdByCord_193 : decode cX7_holdByCord 193 = .ok (.iconst 1, 1) := by decide +kernel
theorem dX7_holdByCord_194 : decode cX7_holdByCord 194 = .ok (.iadd, 1) := by decide +kernel
theorem dX7_holdByCord_195 : decode cX7_holdByCord 195 = .ok (.putfield 78, 3) := by decide +kernel
theorem dX7_holdByCord_198 : decode cX7_holdByCord 198 = .ok (.return_, 1) := by decide +kernel
theorem dX7_wholeRoot_0 : decode cX7_wholeRoot 0 = .ok (.aload_n 0, 1) := by decide +kernel
theorem dX7_wholeRoot_1 : decode cX7_wholeRoot 1 = .ok (.getfield 34, 3) := by decide +kernel
theorem dX7_wholeRoot_4 : decode cX7_wholeRoot 4 = .ok (.iconst 1, 1) := by decide +kernel
theorem dX7_wholeRoot_5 : decode cX7_wholeRoot 5 = .ok (.invokestatic 149, 3) := by decide +kernel
theorem dX7_wholeRoot_8 : decode cX7_wholeRoot 8 = .ok (.istore_n 2, 1) := by decide +kernel
theorem dX7_wholeRoot_9 : decode cX7_wholeRoot 9 = .ok (.iload_n 2, 1) := by decide +kernel
theorem dX7_wholeRoot_10 : decode cX7_wholeRoot 10 = .ok (.ldc 152, 2) := by decide +kernel
theorem dX7_wholeRoot_12 : decode cX7_wholeRoot 12 = .ok (.if_icmp .ge 20, 3) := by decide +kernel
theorem dX7_wholeRoot_15 : decode cX7_wholeRoot 15 = .ok (.iload_n 2, 1) := by decide +kernel
theorem dX7_wholeRoot_16 : decode cX7_wholeRoot 16 = .ok (.iconst 1, 1) := by decide +kernel
theorem dX7_wholeRoot_17 : decode cX7_wholeRoot 17 = .ok (.iadd, 1) := by decide +kernel
theorem dX7_wholeRoot_18 : decode cX7_wholeRoot 18 = .ok (.iload_n 2, 1) := by decide +kernel
theorem dX7_wholeRoot_19 : decode cX7_wholeRoot 19 = .ok (.iconst 1, 1) := by decide +kernel
theorem dX7_wholeRoot_20 : decode cX7_wholeRoot 20 = .ok (.iadd, 1) := by decide +kernel
theorem dX7_wholeRoot_21 : decode cX7_wholeRoot 21 = .ok (.imul, 1) := by decide +kernel
theorem dX7_wholeRoot_22 : decode cX7_wholeRoot 22 = .ok (.iload_n 1, 1) := by decide +kernel
theorem dX7_wholeRoot_23 : decode cX7_wholeRoot 23 = .ok (.if_icmp .gt 9, 3) := by decide +kernel
theorem dX7_wholeRoot_26 : decode cX7_wholeRoot 26 = .ok (.iinc 2 1, 3) := by decide +kernel
theorem dX7_wholeRoot_29 : decode cX7_wholeRoot 29 = .ok (.goto (-20), 3) := by decide +kernel
theorem dX7_wholeRoot_32 : decode cX7_wholeRoot 32 = .ok (.iload_n 2, 1) := by decide +kernel
theorem dX7_wholeRoot_33 : decode cX7_wholeRoot 33 = .ok (.ireturn, 1) := by decide +kernel
theorem dX7_metCup_0 : decode cX7_metCup 0 = .ok (.aload_n 0, 1) := by decide +kernel
theorem dX7_metCup_1 : decode cX7_metCup 1 = .ok (.getfield 9, 3) := by decide +kernel
theorem dX7_metCup_4 : decode cX7_metCup 4 = .ok (.getfield 135, 3) := by decide +kernel
theorem dX7_metCup_7 : decode cX7_metCup 7 = .ok (.astore_n 2, 1) := by decide +kernel
theorem dX7_metCup_8 : decode cX7_metCup 8 = .ok (.aload_n 0, 1) := by decide +kernel
theorem dX7_metCup_9 : decode cX7_metCup 9 = .ok (.getfield 48, 3) := by decide +kernel
theorem dX7_metCup_12 : decode cX7_metCup 12 = .ok (.aload_n 0, 1) := by decide +kernel
theorem dX7_metCup_13 : decode cX7_metCup 13 = .ok (.getfield 26, 3) := by decide +kernel
theorem dX7_metCup_16 : decode cX7_metCup 16 = .ok (.getfield 134, 3) := by decide +kernel
theorem dX7_metCup_19 : decode cX7_metCup 19 = .ok (.isub, 1) := by decide +kernel
theorem dX7_metCup_20 : decode cX7_metCup 20 = .ok (.istore_n 3, 1) := by decide +kernel
theorem dX7_metCup_21 : decode cX7_metCup 21 = .ok (.aload_n 0, 1) := by decide +kernel
theorem dX7_metCup_22 : decode cX7_metCup 22 = .ok (.getfield 51, 3) := by decide +kernel
theorem dX7_metCup_25 : decode cX7_metCup 25 = .ok (.aload_n 0, 1) := by decide +kernel
theorem dX7_metCup_26 : decode cX7_metCup 26 = .ok (.getfield 26, 3) := by decide +kernel
theorem dX7_metCup_29 : decode cX7_metCup 29 = .ok (.getfield 117, 3) := by decide +kernel
theorem dX7_metCup_32 : decode cX7_metCup 32 = .ok (.isub, 1) := by decide +kernel
theorem dX7_metCup_33 : decode cX7_metCup 33 = .ok (.istore 4, 2) := by decide +kernel
theorem dX7_metCup_35 : decode cX7_metCup 35 = .ok (.iconst 0, 1) := by decide +kernel
theorem dX7_metCup_36 : decode cX7_metCup 36 = .ok (.istore 5, 2) := by decide +kernel
theorem dX7_metCup_38 : decode cX7_metCup 38 = .ok (.iload 5, 2) := by decide +kernel
theorem dX7_metCup_40 : decode cX7_metCup 40 = .ok (.aload_n 2, 1) := by decide +kernel
theorem dX7_metCup_41 : decode cX7_metCup 41 = .ok (.getfield 153, 3) := by decide +kernel
theorem dX7_metCup_44 : decode cX7_metCup 44 = .ok (.if_icmp .ge 70, 3) := by decide +kernel
theorem dX7_metCup_47 : decode cX7_metCup 47 = .ok (.aload_n 2, 1) := by decide +kernel
theorem dX7_metCup_48 : decode cX7_metCup 48 = .ok (.iload 5, 2) := by decide +kernel
theorem dX7_metCup_50 : decode cX7_metCup 50 = .ok (.iconst 1, 1) := by decide +kernel
theorem dX7_metCup_51 : decode cX7_metCup 51 = .ok (.invokevirtual 85, 3) := by decide +kernel
theorem dX7_metCup_54 : decode cX7_metCup 54 = .ok (.istore 6, 2) := by decide +kernel
theorem dX7_metCup_56 : decode cX7_metCup 56 = .ok (.iload_n 1, 1) := by decide +kernel
theorem dX7_metCup_57 : decode cX7_metCup 57 = .ok (.iload 6, 2) := by decide +kernel
theorem dX7_metCup_59 : decode cX7_metCup 59 = .ok (.if_icmp .lt 14, 3) := by decide +kernel
theorem dX7_metCup_62 : decode cX7_metCup 62 = .ok (.iload 4, 2) := by decide +kernel
theorem dX7_metCup_64 : decode cX7_metCup 64 = .ok (.iload 6, 2) := by decide +kernel
theorem dX7_metCup_66 : decode cX7_metCup 66 = .ok (.if_icmp .ge 7, 3) := by decide +kernel
theorem dX7_metCup_69 : decode cX7_metCup 69 = .ok (.iconst 1, 1) := by decide +kernel
theorem dX7_metCup_70 : decode cX7_metCup 70 = .ok (.goto 4, 3) := by decide +kernel
theorem dX7_metCup_73 : decode cX7_metCup 73 = .ok (.iconst 0, 1) := by decide +kernel
theorem dX7_metCup_74 : decode cX7_metCup 74 = .ok (.istore 7, 2) := by decide +kernel
theorem dX7_metCup_76 : decode cX7_metCup 76 = .ok (.iload 7, 2) := by decide +kernel
theorem dX7_metCup_78 : decode cX7_metCup 78 = .ok (.ifCond .eq 30, 3) := by decide +kernel
theorem dX7_metCup_81 : decode cX7_metCup 81 = .ok (.iload_n 3, 1) := by decide +kernel
theorem dX7_metCup_82 : decode cX7_metCup 82 = .ok (.aload_n 2, 1) := by decide +kernel
theorem dX7_metCup_83 : decode cX7_metCup 83 = .ok (.iload 5, 2) := by decide +kernel
theorem dX7_metCup_85 : decode cX7_metCup 85 = .ok (.iconst 0, 1) := by decide +kernel
theorem dX7_metCup_86 : decode cX7_metCup 86 = .ok (.invokevirtual 85, 3) := by decide +kernel
theorem dX7_metCup_89 : decode cX7_metCup 89 = .ok (.isub, 1) := by decide +kernel
theorem dX7_metCup_90 : decode cX7_metCup 90 = .ok (.invokestatic 105, 3) := by decide +kernel
theorem dX7_metCup_93 : decode cX7_metCup 93 = .ok (.aload_n 2, 1) := by decide +kernel
theorem dX7_metCup_94 : decode cX7_metCup 94 = .ok (.iload 5, 2) := by decide +kernel
theorem dX7_metCup_96 : decode cX7_metCup 96 = .ok (.iconst 2, 1) := by decide +kernel
theorem dX7_metCup_97 : decode cX7_metCup 97 = .ok (.invokevirtual 85, 3) := by decide +kernel
theorem dX7_metCup_100 : decode cX7_metCup 100 = .ok (.iconst 2, 1) := by decide +kernel
theorem dX7_metCup_101 : decode cX7_metCup 101 = .ok (.iadd, 1) := by decide +kernel
theorem dX7_metCup_102 : decode cX7_metCup 102 = .ok (.if_icmp .gt 6, 3) := by decide +kernel
theorem dX7_metCup_105 : decode cX7_metCup 105 = .ok (.iload 5, 2) := by decide +kernel
theorem dX7_metCup_107 : decode cX7_metCup 107 = .ok (.ireturn, 1) := by decide +kernel
theorem dX7_metCup_108 : decode cX7_metCup 108 = .ok (.iinc 5 1, 3) := by decide +kernel
theorem dX7_metCup_111 : decode cX7_metCup 111 = .ok (.goto (-73), 3) := by decide +kernel
theorem dX7_metCup_114 : decode cX7_metCup 114 = .ok (.iconst (-1), 1) := by decide +kernel
theorem dX7_metCup_115 : decode cX7_metCup 115 = .ok (.ireturn, 1) := by decide +kernel
theorem dX7_comeDownOn_0 : decode cX7_comeDownOn 0 = .ok (.aload_n 0, 1) := by decide +kernel
theorem dX7_comeDownOn_1 : decode cX7_comeDownOn 1 = .ok (.getfield 9, 3) := by decide +kernel
theorem dX7_comeDownOn_4 : decode cX7_comeDownOn 4 = .ok (.getfield 135, 3) := by decide +kernel
theorem dX7_comeDownOn_7 : decode cX7_comeDownOn 7 = .ok (.astore_n 2, 1) := by decide +kernel
theorem dX7_comeDownOn_8 : decode cX7_comeDownOn 8 = .ok (.aload_n 0, 1) := by decide +kernel
theorem dX7_comeDownOn_9 : decode cX7_comeDownOn 9 = .ok (.getfield 48, 3) := by decide +kernel
theorem dX7_comeDownOn_12 : decode cX7_comeDownOn 12 = .ok (.aload_n 0, 1) := by decide +kernel
theorem dX7_comeDownOn_13 : decode cX7_comeDownOn 13 = .ok (.getfield 26, 3) := by decide +kernel
theorem dX7_comeDownOn_16 : decode cX7_comeDownOn 16 = .ok (.getfield 134, 3) := by decide +kernel
theorem dX7_comeDownOn_19 : decode cX7_comeDownOn 19 = .ok (.isub, 1) := by decide +kernel
theorem dX7_comeDownOn_20 : decode cX7_comeDownOn 20 = .ok (.aload_n 2, 1) := by decide +kernel
theorem dX7_comeDownOn_21 : decode cX7_comeDownOn 21 = .ok (.iload_n 1, 1) := by decide +kernel
theorem dX7_comeDownOn_22 : decode cX7_comeDownOn 22 = .ok (.iconst 0, 1) := by decide +kernel
theorem dX7_comeDownOn_23 : decode cX7_comeDownOn 23 = .ok (.invokevirtual 85, 3) := by decide +kernel
theorem dX7_comeDownOn_26 : decode cX7_comeDownOn 26 = .ok (.isub, 1) := by decide +kernel
theorem dX7_comeDownOn_27 : decode cX7_comeDownOn 27 = .ok (.invokestatic 105, 3) := by decide +kernel
theorem dX7_comeDownOn_30 : decode cX7_comeDownOn 30 = .ok (.aload_n 2, 1) := by decide +kernel
theorem dX7_comeDownOn_31 : decode cX7_comeDownOn 31 = .ok (.iload_n 1, 1) := by decide +kernel
theorem dX7_comeDownOn_32 : decode cX7_comeDownOn 32 = .ok (.iconst 2, 1) := by decide +kernel
theorem dX7_comeDownOn_33 : decode cX7_comeDownOn 33 = .ok (.invokevirtual 85, 3) := by decide +kernel
theorem dX7_comeDownOn_36 : decode cX7_comeDownOn 36 = .ok (.if_icmp .gt 7, 3) := by decide +kernel
theorem dX7_comeDownOn_39 : decode cX7_comeDownOn 39 = .ok (.iconst 1, 1) := by decide +kernel
theorem dX7_comeDownOn_40 : decode cX7_comeDownOn 40 = .ok (.goto 4, 3) := by decide +kernel
theorem dX7_comeDownOn_43 : decode cX7_comeDownOn 43 = .ok (.iconst 0, 1) := by decide +kernel
theorem dX7_comeDownOn_44 : decode cX7_comeDownOn 44 = .ok (.istore_n 3, 1) := by decide +kernel
theorem dX7_comeDownOn_45 : decode cX7_comeDownOn 45 = .ok (.aload_n 0, 1) := by decide +kernel
theorem dX7_comeDownOn_46 : decode cX7_comeDownOn 46 = .ok (.getfield 54, 3) := by decide +kernel
theorem dX7_comeDownOn_49 : decode cX7_comeDownOn 49 = .ok (.aload_n 0, 1) := by decide +kernel
theorem dX7_comeDownOn_50 : decode cX7_comeDownOn 50 = .ok (.getfield 26, 3) := by decide +kernel
theorem dX7_comeDownOn_53 : decode cX7_comeDownOn 53 = .ok (.getfield 111, 3) := by decide +kernel
theorem dX7_comeDownOn_56 : decode cX7_comeDownOn 56 = .ok (.isub, 1) := by decide +kernel
theorem dX7_comeDownOn_57 : decode cX7_comeDownOn 57 = .ok (.invokestatic 105, 3) := by decide +kernel
theorem dX7_comeDownOn_60 : decode cX7_comeDownOn 60 = .ok (.aload_n 0, 1) := by decide +kernel
theorem dX7_comeDownOn_61 : decode cX7_comeDownOn 61 = .ok (.getfield 9, 3) := by decide +kernel
theorem dX7_comeDownOn_64 : decode cX7_comeDownOn 64 = .ok (.getfield 81, 3) := by decide +kernel
theorem dX7_comeDownOn_67 : decode cX7_comeDownOn 67 = .ok (.iconst 2, 1) := by decide +kernel
theorem dX7_comeDownOn_68 : decode cX7_comeDownOn 68 = .ok (.iaload, 1) := by decide +kernel
theorem dX7_comeDownOn_69 : decode cX7_comeDownOn 69 = .ok (.if_icmp .gt 7, 3) := by decide +kernel
theorem dX7_comeDownOn_72 : decode cX7_comeDownOn 72 = .ok (.iconst 1, 1) := by decide +kernel
theorem dX7_comeDownOn_73 : decode cX7_comeDownOn 73 = .ok (.goto 4, 3) := by decide +kernel
theorem dX7_comeDownOn_76 : decode cX7_comeDownOn 76 = .ok (.iconst 0, 1) := by decide +kernel
theorem dX7_comeDownOn_77 : decode cX7_comeDownOn 77 = .ok (.istore 4, 2) := by decide +kernel
theorem dX7_comeDownOn_79 : decode cX7_comeDownOn 79 = .ok (.aload_n 0, 1) := by decide +kernel
theorem dX7_comeDownOn_80 : decode cX7_comeDownOn 80 = .ok (.getfield 60, 3) := by decide +kernel
theorem dX7_comeDownOn_83 : decode cX7_comeDownOn 83 = .ok (.bipush 15, 2) := by decide +kernel
theorem dX7_comeDownOn_85 : decode cX7_comeDownOn 85 = .ok (.if_icmp .eq 18, 3) := by decide +kernel
theorem dX7_comeDownOn_88 : decode cX7_comeDownOn 88 = .ok (.aload_n 0, 1) := by decide +kernel
theorem dX7_comeDownOn_89 : decode cX7_comeDownOn 89 = .ok (.getfield 60, 3) := by decide +kernel
theorem dX7_comeDownOn_92 : decode cX7_comeDownOn 92 = .ok (.ifCond .eq 11, 3) := by decide +kernel
theorem dX7_comeDownOn_95 : decode cX7_comeDownOn 95 = .ok (.aload_n 0, 1) := by decide +kernel
theorem dX7_comeDownOn_96 : decode cX7_comeDownOn 96 = .ok (.getfield 60, 3) := by decide +kernel
theorem dX7_comeDownOn_99 : decode cX7_comeDownOn 99 = .ok (.iconst 1, 1) := by decide +kernel
theorem dX7_comeDownOn_100 : decode cX7_comeDownOn 100 = .ok (.if_icmp .ne 7, 3) := by decide +kernel
theorem dX7_comeDownOn_103 : decode cX7_comeDownOn 103 = .ok (.iconst 1, 1) := by decide +kernel
theorem dX7_comeDownOn_104 : decode cX7_comeDownOn 104 = .ok (.goto 4, 3) := by decide +kernel
theorem dX7_comeDownOn_107 : decode cX7_comeDownOn 107 = .ok (.iconst 0, 1) := by decide +kernel
theorem dX7_comeDownOn_108 : decode cX7_comeDownOn 108 = .ok (.istore 5, 2) := by decide +kernel
theorem dX7_comeDownOn_110 : decode cX7_comeDownOn 110 = .ok (.iload_n 3, 1) := by decide +kernel
theorem dX7_comeDownOn_111 : decode cX7_comeDownOn 111 = .ok (.ifCond .eq 30, 3) := by decide +kernel
theorem dX7_comeDownOn_114 : decode cX7_comeDownOn 114 = .ok (.iload 4, 2) := by decide +kernel
theorem dX7_comeDownOn_116 : decode cX7_comeDownOn 116 = .ok (.ifCond .eq 25, 3) := by decide +kernel
theorem dX7_comeDownOn_119 : decode cX7_comeDownOn 119 = .ok (.aload_n 2, 1) := by decide +kernel
theorem dX7_comeDownOn_120 : decode cX7_comeDownOn 120 = .ok (.iload_n 1, 1) := by decide +kernel
theorem dX7_comeDownOn_121 : decode cX7_comeDownOn 121 = .ok (.iconst 4, 1) := by decide +kernel
theorem dX7_comeDownOn_122 : decode cX7_comeDownOn 122 = .ok (.invokevirtual 85, 3) := by decide +kernel
theorem dX7_comeDownOn_125 : decode cX7_comeDownOn 125 = .ok (.ifCond .eq 8, 3) := by decide +kernel
theorem dX7_comeDownOn_128 : decode cX7_comeDownOn 128 = .ok (.iload 5, 2) := by decide +kernel
theorem dX7_comeDownOn_130 : decode cX7_comeDownOn 130 = .ok (.ifCond .eq 11, 3) := by decide +kernel
theorem dX7_comeDownOn_133 : decode cX7_comeDownOn 133 = .ok (.aload_n 0, 1) := by decide +kernel
theorem dX7_comeDownOn_134 : decode cX7_comeDownOn 134 = .ok (.iload_n 1, 1) := by decide +kernel
theorem dX7_comeDownOn_135 : decode cX7_comeDownOn 135 = .ok (.putfield 72, 3) := by decide +kernel
theorem dX7_comeDownOn_138 : decode cX7_comeDownOn 138 = .ok (.goto 26, 3) := by decide +kernel
theorem dX7_comeDownOn_141 : decode cX7_comeDownOn 141 = .ok (.aload_n 0, 1) := by decide +kernel
theorem dX7_comeDownOn_142 : decode cX7_comeDownOn 142 = .ok (.dup, 1) := by decide +kernel
theorem dX7_comeDownOn_143 : decode cX7_comeDownOn 143 = .ok (.getfield 75, 3) := by decide +kernel
theorem dX7_comeDownOn_146 : decode cX7_comeDownOn 146 = .ok (.iconst 1, 1) := by decide +kernel
theorem dX7_comeDownOn_147 : decode cX7_comeDownOn 147 = .ok (.iadd, 1) := by decide +kernel
theorem dX7_comeDownOn_148 : decode cX7_comeDownOn 148 = .ok (.putfield 75, 3) := by decide +kernel
theorem dX7_comeDownOn_151 : decode cX7_comeDownOn 151 = .ok (.aload_n 0, 1) := by decide +kernel
theorem dX7_comeDownOn_152 : decode cX7_comeDownOn 152 = .ok (.aload_n 0, 1) := by decide +kernel
theorem dX7_comeDownOn_153 : decode cX7_comeDownOn 153 = .ok (.getfield 57, 3) := by decide +kernel
theorem dX7_comeDownOn_156 : decode cX7_comeDownOn 156 = .ok (.invokestatic 105, 3) := by decide +kernel
theorem dX7_comeDownOn_159 : decode cX7_comeDownOn 159 = .ok (.iconst 2, 1) := by decide +kernel
theorem dX7_comeDownOn_160 : decode cX7_comeDownOn 160 = .ok (.idiv, 1) := by decide +kernel
theorem dX7_comeDownOn_161 : decode cX7_comeDownOn 161 = .ok (.putfield 57, 3) := by decide +kernel
theorem dX7_comeDownOn_164 : decode cX7_comeDownOn 164 = .ok (.return_, 1) := by decide +kernel
end
section
theorem dX0_init_0 : decode cX0_init 0 = .ok (.aload_n 0, 1) := by decide +kernel
theorem dX0_init_1 : decode cX0_init 1 = .ok (.invokespecial 1, 3) := by decide +kernel
theorem dX0_init_4 : decode cX0_init 4 = .ok (.aload_n 0, 1) := by decide +kernel
theorem dX0_init_5 : decode cX0_init 5 = .ok (.bipush 90, 2) := by decide +kernel
theorem dX0_init_7 : decode cX0_init 7 = .ok (.newarray .int, 2) := by decide +kernel
theorem dX0_init_9 : decode cX0_init 9 = .ok (.putfield 9, 3) := by decide +kernel
theorem dX0_init_12 : decode cX0_init 12 = .ok (.aload_n 0, 1) := by decide +kernel
theorem dX0_init_13 : decode cX0_init 13 = .ok (.bipush 90, 2) := by decide +kernel
theorem dX0_init_15 : decode cX0_init 15 = .ok (.newarray .boolean, 2) := by decide +kernel
theorem dX0_init_17 : decode cX0_init 17 = .ok (.putfield 13, 3) := by decide +kernel
theorem dX0_init_20 : decode cX0_init 20 = .ok (.aload_n 0, 1) := by decide +kernel
theorem dX0_init_21 : decode cX0_init 21 = .ok (.bipush 90, 2) := by decide +kernel
theorem dX0_init_23 : decode cX0_init 23 = .ok (.newarray .int, 2) := by decide +kernel
theorem dX0_init_25 : decode cX0_init 25 = .ok (.putfield 17, 3) := by decide +kernel
theorem dX0_init_28 : decode cX0_init 28 = .ok (.return_, 1) := by decide +kernel
theorem dX0_uOf_0 : decode cX0_uOf 0 = .ok (.bipush (-4), 2) := by decide +kernel
theorem dX0_uOf_2 : decode cX0_uOf 2 = .ok (.iload_n 0, 1) := by decide +kernel
theorem dX0_uOf_3 : decode cX0_uOf 3 = .ok (.bipush 10, 2) := by decide +kernel
theorem dX0_uOf_5 : decode cX0_uOf 5 = .ok (.idiv, 1) := by decide +kernel
theorem dX0_uOf_6 : decode cX0_uOf 6 = .ok (.iadd, 1) := by decide +kernel
theorem dX0_uOf_7 : decode cX0_uOf 7 = .ok (.ireturn, 1) := by decide +kernel
theorem dX0_vOf_0 : decode cX0_vOf 0 = .ok (.iconst 0, 1) := by decide +kernel
theorem dX0_vOf_1 : decode cX0_vOf 1 = .ok (.iload_n 0, 1) := by decide +kernel
theorem dX0_vOf_2 : decode cX0_vOf 2 = .ok (.bipush 10, 2) := by decide +kernel
theorem dX0_vOf_4 : decode cX0_vOf 4 = .ok (.irem, 1) := by decide +kernel
theorem dX0_vOf_5 : decode cX0_vOf 5 = .ok (.iadd, 1) := by decide +kernel
theorem dX0_vOf_6 : decode cX0_vOf 6 = .ok (.ireturn, 1) := by decide +kernel
theorem dX0_tryAll_0 : decode cX0_tryAll 0 = .ok (.iconst 0, 1) := by decide +kernel
theorem dX0_tryAll_1 : decode cX0_tryAll 1 = .ok (.istore_n 3, 1) := by decide +kernel
theorem dX0_tryAll_2 : decode cX0_tryAll 2 = .ok (.iload_n 3, 1) := by decide +kernel
theorem dX0_tryAll_3 : decode cX0_tryAll 3 = .ok (.bipush 90, 2) := by decide +kernel
theorem dX0_tryAll_5 : decode cX0_tryAll 5 = .ok (.if_icmp .ge 28, 3) := by decide +kernel
theorem dX0_tryAll_8 : decode cX0_tryAll 8 = .ok (.aload_n 0, 1) := by decide +kernel
theorem dX0_tryAll_9 : decode cX0_tryAll 9 = .ok (.getfield 9, 3) := by decide +kernel
theorem dX0_tryAll_12 : decode cX0_tryAll 12 = .ok (.iload_n 3, 1) := by decide +kernel
theorem dX0_tryAll_13 : decode cX0_tryAll 13 = .ok (.aload_n 1, 1) := by decide +kernel
theorem dX0_tryAll_14 : decode cX0_tryAll 14 = .ok (.iload_n 2, 1) := by decide +kernel
theorem dX0_tryAll_15 : decode cX0_tryAll 15 = .ok (.iload_n 3, 1) := by decide +kernel
theorem dX0_tryAll_16 : decode cX0_tryAll 16 = .ok (.invokestatic 20, 3) := by decide +kernel
theorem dX0_tryAll_19 : decode cX0_tryAll 19 = .ok (.iload_n 3, 1) := by decide +kernel
theorem dX0_tryAll_20 : decode cX0_tryAll 20 = .ok (.invokestatic 24, 3) := by decide +kernel
theorem dX0_tryAll_23 : decode cX0_tryAll 23 = .ok (.invokevirtual 27, 3) := by decide +kernel
theorem dX0_tryAll_26 : decode cX0_tryAll 26 = .ok (.iastore, 1) := by decide +kernel
theorem dX0_tryAll_27 : decode cX0_tryAll 27 = .ok (.iinc 3 1, 3) := by decide +kernel
theorem dX0_tryAll_30 : decode cX0_tryAll 30 = .ok (.goto (-28), 3) := by decide +kernel
theorem dX0_tryAll_33 : decode cX0_tryAll 33 = .ok (.return_, 1) := by decide +kernel
theorem dX0_pullsInto_0 : decode cX0_pullsInto 0 = .ok (.iconst 0, 1) := by decide +kernel
theorem dX0_pullsInto_1 : decode cX0_pullsInto 1 = .ok (.istore_n 2, 1) := by decide +kernel
theorem dX0_pullsInto_2 : decode cX0_pullsInto 2 = .ok (.iconst 0, 1) := by decide +kernel
theorem dX0_pullsInto_3 : decode cX0_pullsInto 3 = .ok (.istore_n 3, 1) := by decide +kernel
theorem dX0_pullsInto_4 : decode cX0_pullsInto 4 = .ok (.iload_n 3, 1) := by decide +kernel
theorem dX0_pullsInto_5 : decode cX0_pullsInto 5 = .ok (.bipush 90, 2) := by decide +kernel
theorem dX0_pullsInto_7 : decode cX0_pullsInto 7 = .ok (.if_icmp .ge 27, 3) := by decide +kernel
theorem dX0_pullsInto_10 : decode cX0_pullsInto 10 = .ok (.iload_n 2, 1) := by decide +kernel
theorem dX0_pullsInto_11 : decode cX0_pullsInto 11 = .ok (.aload_n 0, 1) := by decide +kernel
theorem dX0_pullsInto_12 : decode cX0_pullsInto 12 = .ok (.getfield 9, 3) := by decide +kernel
theorem dX0_pullsInto_15 : decode cX0_pullsInto 15 = .ok (.iload_n 3, 1) := by decide +kernel
theorem dX0_pullsInto_16 : decode cX0_pullsInto 16 = .ok (.iaload, 1) := by decide +kernel
theorem dX0_pullsInto_17 : decode cX0_pullsInto 17 = .ok (.iload_n 1, 1) := by decide +kernel
theorem dX0_pullsInto_18 : decode cX0_pullsInto 18 = .ok (.if_icmp .ne 7, 3) := by decide +kernel
theorem dX0_pullsInto_21 : decode cX0_pullsInto 21 = .ok (.iconst 1, 1) := by decide +kernel
theorem dX0_pullsInto_22 : decode cX0_pullsInto 22 = .ok (.goto 4, 3) := by decide +kernel
theorem dX0_pullsInto_25 : decode cX0_pullsInto 25 = .ok (.iconst 0, 1) := by decide +kernel
theorem dX0_pullsInto_26 : decode cX0_pullsInto 26 = .ok (.iadd, 1) := by decide +kernel
theorem dX0_pullsInto_27 : decode cX0_pullsInto 27 = .ok (.istore_n 2, 1) := by decide +kernel
theorem dX0_pullsInto_28 : decode cX0_pullsInto 28 = .ok (.iinc 3 1, 3) := by decide +kernel
theorem dX0_pullsInto_31 : decode cX0_pullsInto 31 = .ok (.goto (-27), 3) := by decide +kernel
theorem dX0_pullsInto_34 : decode cX0_pullsInto 34 = .ok (.iload_n 2, 1) := by decide +kernel
theorem dX0_pullsInto_35 : decode cX0_pullsInto 35 = .ok (.ireturn, 1) := by decide +kernel
theorem dX0_seekCells_0 : decode cX0_seekCells 0 = .ok (.aload_n 0, 1) := by decide +kernel
theorem dX0_seekCells_1 : decode cX0_seekCells 1 = .ok (.iconst 0, 1) := by decide +kernel
theorem dX0_seekCells_2 : decode cX0_seekCells 2 = .ok (.putfield 33, 3) := by decide +kernel
theorem dX0_seekCells_5 : decode cX0_seekCells 5 = .ok (.aload_n 0, 1) := by decide +kernel
theorem dX0_seekCells_6 : decode cX0_seekCells 6 = .ok (.iconst 0, 1) := by decide +kernel
theorem dX0_seekCells_7 : decode cX0_seekCells 7 = .ok (.putfield 37, 3) := by decide +kernel
theorem dX0_seekCells_10 : decode cX0_seekCells 10 = .ok (.iconst 0, 1) := by decide +kernel
theorem dX0_seekCells_11 : decode cX0_seekCells 11 = .ok (.istore_n 2, 1) := by decide +kernel
theorem dX0_seekCells_12 : decode cX0_seekCells 12 = .ok (.iload_n 2, 1) := by decide +kernel
theorem dX0_seekCells_13 : decode cX0_seekCells 13 = .ok (.bipush 90, 2) := by decide +kernel
theorem dX0_seekCells_15 : decode cX0_seekCells 15 = .ok (.if_icmp .ge 16, 3) := by decide +kernel
theorem dX0_seekCells_18 : decode cX0_seekCells 18 = .ok (.aload_n 0, 1) := by decide +kernel
theorem dX0_seekCells_19 : decode cX0_seekCells 19 = .ok (.getfield 13, 3) := by decide +kernel
theorem dX0_seekCells_22 : decode cX0_seekCells 22 = .ok (.iload_n 2, 1) := by decide +kernel
theorem dX0_seekCells_23 : decode cX0_seekCells 23 = .ok (.iconst 0, 1) := by decide +kernel
theorem dX0_seekCells_24 : decode cX0_seekCells 24 = .ok (.bastore, 1) := by decide +kernel
theorem dX0_seekCells_25 : decode cX0_seekCells 25 = .ok (.iinc 2 1, 3) := by decide +kernel
theorem dX0_seekCells_28 : decode cX0_seekCells 28 = .ok (.goto (-16), 3) := by decide +kernel
theorem dX0_seekCells_31 : decode cX0_seekCells 31 = .ok (.iconst 0, 1) := by decide +kernel
theorem dX0_seekCells_32 : decode cX0_seekCells 32 = .ok (.istore_n 2, 1) := by decide +kernel
theorem dX0_seekCells_33 : decode cX0_seekCells 33 = .ok (.iload_n 2, 1) := by decide +kernel
theorem dX0_seekCells_34 : decode cX0_seekCells 34 = .ok (.bipush 90, 2) := by decide +kernel
theorem dX0_seekCells_36 : decode cX0_seekCells 36 = .ok (.if_icmp .ge 42, 3) := by decide +kernel
theorem dX0_seekCells_39 : decode cX0_seekCells 39 = .ok (.aload_n 0, 1) := by decide +kernel
theorem dX0_seekCells_40 : decode cX0_seekCells 40 = .ok (.iload_n 2, 1) := by decide +kernel
theorem dX0_seekCells_41 : decode cX0_seekCells 41 = .ok (.iload_n 1, 1) := by decide +kernel
theorem dX0_seekCells_42 : decode cX0_seekCells 42 = .ok (.invokevirtual 40, 3) := by decide +kernel
theorem dX0_seekCells_45 : decode cX0_seekCells 45 = .ok (.istore_n 3, 1) := by decide +kernel
theorem dX0_seekCells_46 : decode cX0_seekCells 46 = .ok (.iload_n 3, 1) := by decide +kernel
theorem dX0_seekCells_47 : decode cX0_seekCells 47 = .ok (.ifCond .le 25, 3) := by decide +kernel
theorem dX0_seekCells_50 : decode cX0_seekCells 50 = .ok (.aload_n 0, 1) := by decide +kernel
theorem dX0_seekCells_51 : decode cX0_seekCells 51 = .ok (.dup, 1) := by decide +kernel
theorem dX0_seekCells_52 : decode cX0_seekCells 52 = .ok (.getfield 33, 3) := by decide +kernel
theorem dX0_seekCells_55 : decode cX0_seekCells 55 = .ok (.iconst 1, 1) := by decide +kernel
theorem dX0_seekCells_56 : decode cX0_seekCells 56 = .ok (.iadd, 1) := by decide +kernel
theorem dX0_seekCells_57 : decode cX0_seekCells 57 = .ok (.putfield 33, 3) := by decide +kernel
theorem dX0_seekCells_60 : decode cX0_seekCells 60 = .ok (.aload_n 0, 1) := by decide +kernel
theorem dX0_seekCells_61 : decode cX0_seekCells 61 = .ok (.aload_n 0, 1) := by decide +kernel
theorem dX0_seekCells_62 : decode cX0_seekCells 62 = .ok (.getfield 37, 3) := by decide +kernel
theorem dX0_seekCells_65 : decode cX0_seekCells 65 = .ok (.iload_n 3, 1) := by decide +kernel
theorem dX0_seekCells_66 : decode cX0_seekCells 66 = .ok (.invokestatic 44, 3) := by decide +kernel
theorem dX0_seekCells_69 : decode cX0_seekCells 69 = .ok (.putfield 37, 3) := by decide +kernel
theorem dX0_seekCells_72 : decode cX0_seekCells 72 = .ok (.iinc 2 1, 3) := by decide +kernel
theorem dX0_seekCells_75 : decode cX0_seekCells 75 = .ok (.goto (-42), 3) := by decide +kernel
theorem dX0_seekCells_78 : decode cX0_seekCells 78 = .ok (.return_, 1) := by decide +kernel
theorem dX0_cellFrom_0 : decode cX0_cellFrom 0 = .ok (.aload_n 0, 1) := by decide +kernel
theorem dX0_cellFrom_1 : decode cX0_cellFrom 1 = .ok (.iload_n 1, 1) := by decide +kernel
theorem dX0_cellFrom_2 : decode cX0_cellFrom 2 = .ok (.iload_n 2, 1) := by decide +kernel
theorem dX0_cellFrom_3 : decode cX0_cellFrom 3 = .ok (.iconst 0, 1) := by decide +kernel
theorem dX0_cellFrom_4 : decode cX0_cellFrom 4 = .ok (.invokevirtual 49, 3) := by decide +kernel
theorem dX0_cellFrom_7 : decode cX0_cellFrom 7 = .ok (.istore_n 3, 1) := by decide +kernel
theorem dX0_cellFrom_8 : decode cX0_cellFrom 8 = .ok (.iconst 0, 1) := by decide +kernel
theorem dX0_cellFrom_9 : decode cX0_cellFrom 9 = .ok (.istore 4, 2) := by decide +kernel
theorem dX0_cellFrom_11 : decode cX0_cellFrom 11 = .ok (.iload 4, 2) := by decide +kernel
theorem dX0_cellFrom_13 : decode cX0_cellFrom 13 = .ok (.iload_n 3, 1) := by decide +kernel
theorem dX0_cellFrom_14 : decode cX0_cellFrom 14 = .ok (.if_icmp .ge 98, 3) := by decide +kernel
theorem dX0_cellFrom_17 : decode cX0_cellFrom 17 = .ok (.iload 4, 2) := by decide +kernel
theorem dX0_cellFrom_19 : decode cX0_cellFrom 19 = .ok (.bipush 90, 2) := by decide +kernel
theorem dX0_cellFrom_21 : decode cX0_cellFrom 21 = .ok (.if_icmp .ge 91, 3) := by decide +kernel
theorem dX0_cellFrom_24 : decode cX0_cellFrom 24 = .ok (.aload_n 0, 1) := by decide +kernel
theorem dX0_cellFrom_25 : decode cX0_cellFrom 25 = .ok (.getfield 17, 3) := by decide +kernel
theorem dX0_cellFrom_28 : decode cX0_cellFrom 28 = .ok (.iload 4, 2) := by decide +kernel
theorem dX0_cellFrom_30 : decode cX0_cellFrom 30 = .ok (.iaload, 1) := by decide +kernel
theorem dX0_cellFrom_31 : decode cX0_cellFrom 31 = .ok (.istore 5, 2) := by decide +kernel
theorem dX0_cellFrom_33 : decode cX0_cellFrom 33 = .ok (.iload 5, 2) := by decide +kernel
theorem dX0_cellFrom_35 : decode cX0_cellFrom 35 = .ok (.invokestatic 24, 3) := by decide +kernel
theorem dX0_cellFrom_38 : decode cX0_cellFrom 38 = .ok (.istore 6, 2) := by decide +kernel
theorem dX0_cellFrom_40 : decode cX0_cellFrom 40 = .ok (.iload 6, 2) := by decide +kernel
theorem dX0_cellFrom_42 : decode cX0_cellFrom 42 = .ok (.ifCond .le 16, 3) := by decide +kernel
theorem dX0_cellFrom_45 : decode cX0_cellFrom 45 = .ok (.aload_n 0, 1) := by decide +kernel
theorem dX0_cellFrom_46 : decode cX0_cellFrom 46 = .ok (.iload 5, 2) := by decide +kernel
theorem dX0_cellFrom_48 : decode cX0_cellFrom 48 = .ok (.iconst 1, 1) := by decide +kernel
theorem dX0_cellFrom_49 : decode cX0_cellFrom 49 = .ok (.isub, 1) := by decide +kernel
theorem dX0_cellFrom_50 : decode cX0_cellFrom 50 = .ok (.iload_n 2, 1) := by decide +kernel
theorem dX0_cellFrom_51 : decode cX0_cellFrom 51 = .ok (.iload_n 3, 1) := by decide +kernel
theorem dX0_cellFrom_52 : decode cX0_cellFrom 52 = .ok (.invokevirtual 49, 3) := by decide +kernel
theorem dX0_cellFrom_55 : decode cX0_cellFrom 55 = .ok (.goto 4, 3) := by decide +kernel
theorem dX0_cellFrom_58 : decode cX0_cellFrom 58 = .ok (.iload_n 3, 1) := by decide +kernel
theorem dX0_cellFrom_59 : decode cX0_cellFrom 59 = .ok (.istore_n 3, 1) := by decide +kernel
theorem dX0_cellFrom_60 : decode cX0_cellFrom 60 = .ok (.iload 6, 2) := by decide +kernel
theorem dX0_cellFrom_62 : decode cX0_cellFrom 62 = .ok (.bipush 9, 2) := by decide +kernel
theorem dX0_cellFrom_64 : decode cX0_cellFrom 64 = .ok (.if_icmp .ge 16, 3) := by decide +kernel
theorem dX0_cellFrom_67 : decode cX0_cellFrom 67 = .ok (.aload_n 0, 1) := by decide +kernel
theorem dX0_cellFrom_68 : decode cX0_cellFrom 68 = .ok (.iload 5, 2) := by decide +kernel
theorem dX0_cellFrom_70 : decode cX0_cellFrom 70 = .ok (.iconst 1, 1) := by decide +kernel
theorem dX0_cellFrom_71 : decode cX0_cellFrom 71 = .ok (.iadd, 1) := by decide +kernel
theorem dX0_cellFrom_72 : decode cX0_cellFrom 72 = .ok (.iload_n 2, 1) := by decide +kernel
theorem dX0_cellFrom_73 : decode cX0_cellFrom 73 = .ok (.iload_n 3, 1) := by decide +kernel
theorem dX0_cellFrom_74 : decode cX0_cellFrom 74 = .ok (.invokevirtual 49, 3) := by decide +kernel
theorem dX0_cellFrom_77 : decode cX0_cellFrom 77 = .ok (.goto 4, 3) := by decide +kernel
theorem dX0_cellFrom_80 : decode cX0_cellFrom 80 = .ok (.iload_n 3, 1) := by decide +kernel
theorem dX0_cellFrom_81 : decode cX0_cellFrom 81 = .ok (.istore_n 3, 1) := by decide +kernel
theorem dX0_cellFrom_82 : decode cX0_cellFrom 82 = .ok (.aload_n 0, 1) := by decide +kernel
theorem dX0_cellFrom_83 : decode cX0_cellFrom 83 = .ok (.iload 5, 2) := by decide +kernel
theorem dX0_cellFrom_85 : decode cX0_cellFrom 85 = .ok (.bipush 10, 2) := by decide +kernel
theorem dX0_cellFrom_87 : decode cX0_cellFrom 87 = .ok (.isub, 1) := by decide +kernel
theorem dX0_cellFrom_88 : decode cX0_cellFrom 88 = .ok (.iload_n 2, 1) := by decide +kernel
theorem dX0_cellFrom_89 : decode cX0_cellFrom 89 = .ok (.iload_n 3, 1) := by decide +kernel
theorem dX0_cellFrom_90 : decode cX0_cellFrom 90 = .ok (.invokevirtual 49, 3) := by decide +kernel
theorem dX0_cellFrom_93 : decode cX0_cellFrom 93 = .ok (.istore_n 3, 1) := by decide +kernel
theorem dX0_cellFrom_94 : decode cX0_cellFrom 94 = .ok (.aload_n 0, 1) := by decide +kernel
theorem dX0_cellFrom_95 : decode cX0_cellFrom 95 = .ok (.iload 5, 2) := by decide +kernel
theorem dX0_cellFrom_97 : decode cX0_cellFrom 97 = .ok (.bipush 10, 2) := by decide +kernel
theorem dX0_cellFrom_99 : decode cX0_cellFrom 99 = .ok (.iadd, 1) := by decide +kernel
theorem dX0_cellFrom_100 : decode cX0_cellFrom 100 = .ok (.iload_n 2, 1) := by decide +kernel
theorem dX0_cellFrom_101 : decode cX0_cellFrom 101 = .ok (.iload_n 3, 1) := by decide +kernel
theorem dX0_cellFrom_102 : decode cX0_cellFrom 102 = .ok (.invokevirtual 49, 3) := by decide +kernel
theorem dX0_cellFrom_105 : decode cX0_cellFrom 105 = .ok (.istore_n 3, 1) := by decide +kernel
theorem dX0_cellFrom_106 : decode cX0_cellFrom 106 = .ok (.iinc 4 1, 3) := by decide +kernel
theorem dX0_cellFrom_109 : decode cX0_cellFrom 109 = .ok (.goto (-98), 3) := by decide +kernel
theorem dX0_cellFrom_112 : decode cX0_cellFrom 112 = .ok (.iload_n 3, 1) := by decide +kernel
theorem dX0_cellFrom_113 : decode cX0_cellFrom 113 = .ok (.ireturn, 1) := by decide +kernel
theorem dX0_join_0 : decode cX0_join 0 = .ok (.iload_n 1, 1) := by decide +kernel
theorem dX0_join_1 : decode cX0_join 1 = .ok (.ifCond .lt 34, 3) := by decide +kernel
theorem dX0_join_4 : decode cX0_join 4 = .ok (.iload_n 1, 1) := by decide +kernel
theorem dX0_join_5 : decode cX0_join 5 = .ok (.bipush 90, 2) := by decide +kernel
theorem dX0_join_7 : decode cX0_join 7 = .ok (.if_icmp .ge 28, 3) := by decide +kernel
theorem dX0_join_10 : decode cX0_join 10 = .ok (.iload_n 3, 1) := by decide +kernel
theorem dX0_join_11 : decode cX0_join 11 = .ok (.bipush 90, 2) := by decide +kernel
theorem dX0_join_13 : decode cX0_join 13 = .ok (.if_icmp .ge 22, 3) := by decide +kernel
theorem dX0_join_16 : decode cX0_join 16 = .ok (.aload_n 0, 1) := by decide +kernel
theorem dX0_join_17 : decode cX0_join 17 = .ok (.getfield 13, 3) := by decide +kernel
theorem dX0_join_20 : decode cX0_join 20 = .ok (.iload_n 1, 1) := by decide +kernel
theorem dX0_join_21 : decode cX0_join 21 = .ok (.baload, 1) := by decide +kernel
theorem dX0_join_22 : decode cX0_join 22 = .ok (.ifCond .ne 13, 3) := by decide +kernel
theorem dX0_join_25 : decode cX0_join 25 = .ok (.aload_n 0, 1) := by decide +kernel
theorem dX0_join_26 : decode cX0_join 26 = .ok (.getfield 9, 3) := by decide +kernel
theorem dX0_join_29 : decode cX0_join 29 = .ok (.iload_n 1, 1) := by decide +kernel
theorem dX0_join_30 : decode cX0_join 30 = .ok (.iaload, 1) := by decide +kernel
theorem dX0_join_31 : decode cX0_join 31 = .ok (.iload_n 2, 1) := by decide +kernel
theorem dX0_join_32 : decode cX0_join 32 = .ok (.if_icmp .eq 5, 3) := by decide +kernel
theorem dX0_join_35 : decode cX0_join 35 = .ok (.iload_n 3, 1) := by decide +kernel
theorem dX0_join_36 : decode cX0_join 36 = .ok (.ireturn, 1) := by decide +kernel
theorem dX0_join_37 : decode cX0_join 37 = .ok (.aload_n 0, 1) := by decide +kernel
theorem dX0_join_38 : decode cX0_join 38 = .ok (.getfield 13, 3) := by decide +kernel
theorem dX0_join_41 : decode cX0_join 41 = .ok (.iload_n 1, 1) := by decide +kernel
theorem dX0_join_42 : decode cX0_join 42 = .ok (.iconst 1, 1) := by decide +kernel
theorem dX0_join_43 : decode cX0_join 43 = .ok (.bastore, 1) := by decide +kernel
theorem dX0_join_44 : decode cX0_join 44 = .ok (.aload_n 0, 1) := by decide +kernel
theorem dX0_join_45 : decode cX0_join 45 = .ok (.getfield 17, 3) := by decide +kernel
theorem dX0_join_48 : decode cX0_join 48 = .ok (.iload_n 3, 1) := by decide +kernel
theorem dX0_join_49 : decode cX0_join 49 = .ok (.iload_n 1, 1) := by decide +kernel
theorem dX0_join_50 : decode cX0_join 50 = .ok (.iastore, 1) := by decide +kernel
theorem dX0_join_51 : decode cX0_join 51 = .ok (.iload_n 3, 1) := by decide +kernel
theorem dX0_join_52 : decode cX0_join 52 = .ok (.iconst 1, 1) := by decide +kernel
theorem dX0_join_53 : decode cX0_join 53 = .ok (.iadd, 1) := by decide +kernel
theorem dX0_join_54 : decode cX0_join 54 = .ok (.ireturn, 1) := by decide +kernel
theorem dX0_middleOf_0 : decode cX0_middleOf 0 = .ok (.iconst (-1), 1) := by decide +kernel
theorem dX0_middleOf_1 : decode cX0_middleOf 1 = .ok (.istore_n 2, 1) := by decide +kernel
theorem dX0_middleOf_2 : decode cX0_middleOf 2 = .ok (.iconst (-1), 1) := by decide +kernel
theorem dX0_middleOf_3 : decode cX0_middleOf 3 = .ok (.istore_n 3, 1) := by decide +kernel
theorem dX0_middleOf_4 : decode cX0_middleOf 4 = .ok (.iconst 0, 1) := by decide +kernel
theorem dX0_middleOf_5 : decode cX0_middleOf 5 = .ok (.istore 4, 2) := by decide +kernel
theorem dX0_middleOf_7 : decode cX0_middleOf 7 = .ok (.iload 4, 2) := by decide +kernel
theorem dX0_middleOf_9 : decode cX0_middleOf 9 = .ok (.bipush 90, 2) := by decide +kernel
theorem dX0_middleOf_11 : decode cX0_middleOf 11 = .ok (.if_icmp .ge 42, 3) := by decide +kernel
theorem dX0_middleOf_14 : decode cX0_middleOf 14 = .ok (.aload_n 0, 1) := by decide +kernel
theorem dX0_middleOf_15 : decode cX0_middleOf 15 = .ok (.getfield 9, 3) := by decide +kernel
theorem dX0_middleOf_18 : decode cX0_middleOf 18 = .ok (.iload 4, 2) := by decide +kernel
theorem dX0_middleOf_20 : decode cX0_middleOf 20 = .ok (.iaload, 1) := by decide +kernel
theorem dX0_middleOf_21 : decode cX0_middleOf 21 = .ok (.iload_n 1, 1) := by decide +kernel
theorem dX0_middleOf_22 : decode cX0_middleOf 22 = .ok (.if_icmp .ne 25, 3) := by decide +kernel
theorem dX0_middleOf_25 : decode cX0_middleOf 25 = .ok (.aload_n 0, 1) := by decide +kernel
theorem dX0_middleOf_26 : decode cX0_middleOf 26 = .ok (.iload 4, 2) := by decide +kernel
theorem dX0_middleOf_28 : decode cX0_middleOf 28 = .ok (.iload_n 1, 1) := by decide +kernel
theorem dX0_middleOf_29 : decode cX0_middleOf 29 = .ok (.invokevirtual 52, 3) := by decide +kernel
theorem dX0_middleOf_32 : decode cX0_middleOf 32 = .ok (.iload_n 3, 1) := by decide +kernel
theorem dX0_middleOf_33 : decode cX0_middleOf 33 = .ok (.if_icmp .le 14, 3) := by decide +kernel
theorem dX0_middleOf_36 : decode cX0_middleOf 36 = .ok (.aload_n 0, 1) := by decide +kernel
theorem dX0_middleOf_37 : decode cX0_middleOf 37 = .ok (.iload 4, 2) := by decide +kernel
theorem dX0_middleOf_39 : decode cX0_middleOf 39 = .ok (.iload_n 1, 1) := by decide +kernel
theorem dX0_middleOf_40 : decode cX0_middleOf 40 = .ok (.invokevirtual 52, 3) := by decide +kernel
theorem dX0_middleOf_43 : decode cX0_middleOf 43 = .ok (.istore_n 3, 1) := by decide +kernel
theorem dX0_middleOf_44 : decode cX0_middleOf 44 = .ok (.iload 4, 2) := by decide +kernel
theorem dX0_middleOf_46 : decode cX0_middleOf 46 = .ok (.istore_n 2, 1) := by decide +kernel
theorem dX0_middleOf_47 : decode cX0_middleOf 47 = .ok (.iinc 4 1, 3) := by decide +kernel
theorem dX0_middleOf_50 : decode cX0_middleOf 50 = .ok (.goto (-43), 3) := by decide +kernel
theorem dX0_middleOf_53 : decode cX0_middleOf 53 = .ok (.iload_n 2, 1) := by decide +kernel
theorem dX0_middleOf_54 : decode cX0_middleOf 54 = .ok (.ireturn, 1) := by decide +kernel
theorem dX0_ringsRound_0 : decode cX0_ringsRound 0 = .ok (.iconst 0, 1) := by decide +kernel
theorem dX0_ringsRound_1 : decode cX0_ringsRound 1 = .ok (.istore_n 3, 1) := by decide +kernel
theorem dX0_ringsRound_2 : decode cX0_ringsRound 2 = .ok (.iload_n 3, 1) := by decide +kernel
theorem dX0_ringsRound_3 : decode cX0_ringsRound 3 = .ok (.iconst 4, 1) := by decide +kernel
theorem dX0_ringsRound_4 : decode cX0_ringsRound 4 = .ok (.if_icmp .ge 28, 3) := by decide +kernel
theorem dX0_ringsRound_7 : decode cX0_ringsRound 7 = .ok (.aload_n 0, 1) := by decide +kernel
theorem dX0_ringsRound_8 : decode cX0_ringsRound 8 = .ok (.iload_n 1, 1) := by decide +kernel
theorem dX0_ringsRound_9 : decode cX0_ringsRound 9 = .ok (.invokestatic 20, 3) := by decide +kernel
theorem dX0_ringsRound_12 : decode cX0_ringsRound 12 = .ok (.iload_n 1, 1) := by decide +kernel
theorem dX0_ringsRound_13 : decode cX0_ringsRound 13 = .ok (.invokestatic 24, 3) := by decide +kernel
theorem dX0_ringsRound_16 : decode cX0_ringsRound 16 = .ok (.iload_n 3, 1) := by decide +kernel
theorem dX0_ringsRound_17 : decode cX0_ringsRound 17 = .ok (.iconst 1, 1) := by decide +kernel
theorem dX0_ringsRound_18 : decode cX0_ringsRound 18 = .ok (.iadd, 1) := by decide +kernel
theorem dX0_ringsRound_19 : decode cX0_ringsRound 19 = .ok (.iload_n 2, 1) := by decide +kernel
theorem dX0_ringsRound_20 : decode cX0_ringsRound 20 = .ok (.invokevirtual 55, 3) := by decide +kernel
theorem dX0_ringsRound_23 : decode cX0_ringsRound 23 = .ok (.ifCond .eq 9, 3) := by decide +kernel
theorem dX0_ringsRound_26 : decode cX0_ringsRound 26 = .ok (.iinc 3 1, 3) := by decide +kernel
theorem dX0_ringsRound_29 : decode cX0_ringsRound 29 = .ok (.goto (-27), 3) := by decide +kernel
theorem dX0_ringsRound_32 : decode cX0_ringsRound 32 = .ok (.iload_n 3, 1) := by decide +kernel
theorem dX0_ringsRound_33 : decode cX0_ringsRound 33 = .ok (.ireturn, 1) := by decide +kernel
theorem dX0_isWhole_0 : decode cX0_isWhole 0 = .ok (.iload_n 1, 1) := by decide +kernel
theorem dX0_isWhole_1 : decode cX0_isWhole 1 = .ok (.iload_n 3, 1) := by decide +kernel
theorem dX0_isWhole_2 : decode cX0_isWhole 2 = .ok (.isub, 1) := by decide +kernel
theorem dX0_isWhole_3 : decode cX0_isWhole 3 = .ok (.bipush (-4), 2) := by decide +kernel
theorem dX0_isWhole_5 : decode cX0_isWhole 5 = .ok (.if_icmp .lt 24, 3) := by decide +kernel
theorem dX0_isWhole_8 : decode cX0_isWhole 8 = .ok (.iload_n 1, 1) := by decide +kernel
theorem dX0_isWhole_9 : decode cX0_isWhole 9 = .ok (.iload_n 3, 1) := by decide +kernel
theorem dX0_isWhole_10 : decode cX0_isWhole 10 = .ok (.iadd, 1) := by decide +kernel
theorem dX0_isWhole_11 : decode cX0_isWhole 11 = .ok (.iconst 4, 1) := by decide +kernel
theorem dX0_isWhole_12 : decode cX0_isWhole 12 = .ok (.if_icmp .gt 17, 3) := by decide +kernel
theorem dX0_isWhole_15 : decode cX0_isWhole 15 = .ok (.iload_n 2, 1) := by decide +kernel
theorem dX0_isWhole_16 : decode cX0_isWhole 16 = .ok (.iload_n 3, 1) := by decide +kernel
theorem dX0_isWhole_17 : decode cX0_isWhole 17 = .ok (.isub, 1) := by decide +kernel
theorem dX0_isWhole_18 : decode cX0_isWhole 18 = .ok (.ifCond .lt 11, 3) := by decide +kernel
theorem dX0_isWhole_21 : decode cX0_isWhole 21 = .ok (.iload_n 2, 1) := by decide +kernel
theorem dX0_isWhole_22 : decode cX0_isWhole 22 = .ok (.iload_n 3, 1) := by decide +kernel
theorem dX0_isWhole_23 : decode cX0_isWhole 23 = .ok (.iadd, 1) := by decide +kernel
theorem dX0_isWhole_24 : decode cX0_isWhole 24 = .ok (.bipush 9, 2) := by decide +kernel
theorem dX0_isWhole_26 : decode cX0_isWhole 26 = .ok (.if_icmp .le 5, 3) := by decide +kernel
theorem dX0_isWhole_29 : decode cX0_isWhole 29 = .ok (.iconst 0, 1) := by decide +kernel
theorem dX0_isWhole_30 : decode cX0_isWhole 30 = .ok (.ireturn, 1) := by decide +kernel
theorem dX0_isWhole_31 : decode cX0_isWhole 31 = .ok (.iload_n 1, 1) := by decide +kernel
theorem dX0_isWhole_32 : decode cX0_isWhole 32 = .ok (.iload_n 3, 1) := by decide +kernel
theorem dX0_isWhole_33 : decode cX0_isWhole 33 = .ok (.isub, 1) := by decide +kernel
theorem dX0_isWhole_34 : decode cX0_isWhole 34 = .ok (.istore 5, 2) := by decide +kernel
theorem dX0_isWhole_36 : decode cX0_isWhole 36 = .ok (.iload 5, 2) := by decide +kernel
theorem dX0_isWhole_38 : decode cX0_isWhole 38 = .ok (.iload_n 1, 1) := by decide +kernel
theorem dX0_isWhole_39 : decode cX0_isWhole 39 = .ok (.iload_n 3, 1) := by decide +kernel
theorem dX0_isWhole_40 : decode cX0_isWhole 40 = .ok (.iadd, 1) := by decide +kernel
theorem dX0_isWhole_41 : decode cX0_isWhole 41 = .ok (.if_icmp .gt 53, 3) := by decide +kernel
theorem dX0_isWhole_44 : decode cX0_isWhole 44 = .ok (.iload_n 2, 1) := by decide +kernel
theorem dX0_isWhole_45 : decode cX0_isWhole 45 = .ok (.iload_n 3, 1) := by decide +kernel
theorem dX0_isWhole_46 : decode cX0_isWhole 46 = .ok (.isub, 1) := by decide +kernel
theorem dX0_isWhole_47 : decode cX0_isWhole 47 = .ok (.istore 6, 2) := by decide +kernel
theorem dX0_isWhole_49 : decode cX0_isWhole 49 = .ok (.iload 6, 2) := by decide +kernel
theorem dX0_isWhole_51 : decode cX0_isWhole 51 = .ok (.iload_n 2, 1) := by decide +kernel
theorem dX0_isWhole_52 : decode cX0_isWhole 52 = .ok (.iload_n 3, 1) := by decide +kernel
theorem dX0_isWhole_53 : decode cX0_isWhole 53 = .ok (.iadd, 1) := by decide +kernel
theorem dX0_isWhole_54 : decode cX0_isWhole 54 = .ok (.if_icmp .gt 34, 3) := by decide +kernel
theorem dX0_isWhole_57 : decode cX0_isWhole 57 = .ok (.aload_n 0, 1) := by decide +kernel
theorem dX0_isWhole_58 : decode cX0_isWhole 58 = .ok (.getfield 9, 3) := by decide +kernel
theorem dX0_isWhole_61 : decode cX0_isWhole 61 = .ok (.iload 5, 2) := by decide +kernel
theorem dX0_isWhole_63 : decode cX0_isWhole 63 = .ok (.bipush (-4), 2) := by decide +kernel
theorem dX0_isWhole_65 : decode cX0_isWhole 65 = .ok (.isub, 1) := by decide +kernel
theorem dX0_isWhole_66 : decode cX0_isWhole 66 = .ok (.bipush 10, 2) := by decide +kernel
theorem dX0_isWhole_68 : decode cX0_isWhole 68 = .ok (.imul, 1) := by decide +kernel
theorem dX0_isWhole_69 : decode cX0_isWhole 69 = .ok (.iload 6, 2) := by decide +kernel
theorem dX0_isWhole_71 : decode cX0_isWhole 71 = .ok (.iadd, 1) := by decide +kernel
theorem dX0_isWhole_72 : decode cX0_isWhole 72 = .ok (.iconst 0, 1) := by decide +kernel
theorem dX0_isWhole_73 : decode cX0_isWhole 73 = .ok (.isub, 1) := by decide +kernel
theorem dX0_isWhole_74 : decode cX0_isWhole 74 = .ok (.iaload, 1) := by decide +kernel
theorem dX0_isWhole_75 : decode cX0_isWhole 75 = .ok (.iload 4, 2) := by decide +kernel
theorem dX0_isWhole_77 : decode cX0_isWhole 77 = .ok (.if_icmp .eq 5, 3) := by decide +kernel
theorem dX0_isWhole_80 : decode cX0_isWhole 80 = .ok (.iconst 0, 1) := by decide +kernel
theorem dX0_isWhole_81 : decode cX0_isWhole 81 = .ok (.ireturn, 1) := by decide +kernel
theorem dX0_isWhole_82 : decode cX0_isWhole 82 = .ok (.iinc 6 1, 3) := by decide +kernel
theorem dX0_isWhole_85 : decode cX0_isWhole 85 = .ok (.goto (-36), 3) := by decide +kernel
theorem dX0_isWhole_88 : decode cX0_isWhole 88 = .ok (.iinc 5 1, 3) := by decide +kernel
theorem dX0_isWhole_91 : decode cX0_isWhole 91 = .ok (.goto (-55), 3) := by decide +kernel
theorem dX0_isWhole_94 : decode cX0_isWhole 94 = .ok (.iconst 1, 1) := by decide +kernel
theorem dX0_isWhole_95 : decode cX0_isWhole 95 = .ok (.ireturn, 1) := by decide +kernel
theorem dX1_init_0 : decode cX1_init 0 = .ok (.aload_n 0, 1) := by decide +kernel
theorem dX1_init_1 : decode cX1_init 1 = .ok (.invokespecial 3, 3) := by decide +kernel
theorem dX1_init_4 : decode cX1_init 4 = .ok (.aload_n 0, 1) := by decide +kernel
theorem dX1_init_5 : decode cX1_init 5 = .ok (.aload_n 1, 1) := by decide +kernel
theorem dX1_init_6 : decode cX1_init 6 = .ok (.putfield 9, 3) := by decide +kernel
theorem dX1_init_9 : decode cX1_init 9 = .ok (.return_, 1) := by decide +kernel
theorem dX1_begin_0 : decode cX1_begin 0 = .ok (.aload_n 0, 1) := by decide +kernel
theorem dX1_begin_1 : decode cX1_begin 1 = .ok (.iload_n 1, 1) := by decide +kernel
theorem dX1_begin_2 : decode cX1_begin 2 = .ok (.putfield 15, 3) := by decide +kernel
theorem dX1_begin_5 : decode cX1_begin 5 = .ok (.aload_n 0, 1) := by decide +kernel
theorem dX1_begin_6 : decode cX1_begin 6 = .ok (.iload_n 2, 1) := by decide +kernel
theorem dX1_begin_7 : decode cX1_begin 7 = .ok (.putfield 19, 3) := by decide +kernel
theorem dX1_begin_10 : decode cX1_begin 10 = .ok (.aload_n 0, 1) := by decide +kernel
theorem dX1_begin_11 : decode cX1_begin 11 = .ok (.iconst (-1), 1) := by decide +kernel
theorem dX1_begin_12 : decode cX1_begin 12 = .ok (.putfield 22, 3) := by decide +kernel
theorem dX1_begin_15 : decode cX1_begin 15 = .ok (.aload_n 0, 1) := by decide +kernel
theorem dX1_begin_16 : decode cX1_begin 16 = .ok (.iconst 0, 1) := by decide +kernel
theorem dX1_begin_17 : decode cX1_begin 17 = .ok (.putfield 25, 3) := by decide +kernel
theorem dX1_begin_20 : decode cX1_begin 20 = .ok (.aload_n 0, 1) := by decide +kernel
theorem dX1_begin_21 : decode cX1_begin 21 = .ok (.iconst 0, 1) := by decide +kernel
theorem dX1_begin_22 : decode cX1_begin 22 = .ok (.putfield 28, 3) := by decide +kernel
theorem dX1_begin_25 : decode cX1_begin 25 = .ok (.aload_n 0, 1) := by decide +kernel
theorem dX1_begin_26 : decode cX1_begin 26 = .ok (.iconst 0, 1) := by decide +kernel
theorem dX1_begin_27 : decode cX1_begin 27 = .ok (.putfield 31, 3) := by decide +kernel
theorem dX1_begin_30 : decode cX1_begin 30 = .ok (.aload_n 0, 1) := by decide +kernel
theorem dX1_begin_31 : decode cX1_begin 31 = .ok (.iconst 0, 1) := by decide +kernel
theorem dX1_begin_32 : decode cX1_begin 32 = .ok (.putfield 34, 3) := by decide +kernel
theorem dX1_begin_35 : decode cX1_begin 35 = .ok (.aload_n 0, 1) := by decide +kernel
theorem dX1_begin_36 : decode cX1_begin 36 = .ok (.iconst 0, 1) := by decide +kernel
theorem dX1_begin_37 : decode cX1_begin 37 = .ok (.putfield 37, 3) := by decide +kernel
theorem dX1_begin_40 : decode cX1_begin 40 = .ok (.return_, 1) := by decide +kernel
theorem dX1_go_0 : decode cX1_go 0 = .ok (.aload_n 0, 1) := by decide +kernel
theorem dX1_go_1 : decode cX1_go 1 = .ok (.getfield 25, 3) := by decide +kernel
theorem dX1_go_4 : decode cX1_go 4 = .ok (.ifCond .ne 43, 3) := by decide +kernel
theorem dX1_go_7 : decode cX1_go 7 = .ok (.aload_n 0, 1) := by decide +kernel
theorem dX1_go_8 : decode cX1_go 8 = .ok (.getfield 22, 3) := by decide +kernel
theorem dX1_go_11 : decode cX1_go 11 = .ok (.aload_n 0, 1) := by decide +kernel
theorem dX1_go_12 : decode cX1_go 12 = .ok (.getfield 9, 3) := by decide +kernel
theorem dX1_go_15 : decode cX1_go 15 = .ok (.getfield 40, 3) := by decide +kernel
theorem dX1_go_18 : decode cX1_go 18 = .ok (.if_icmp .ge 29, 3) := by decide +kernel
theorem dX1_go_21 : decode cX1_go 21 = .ok (.aload_n 0, 1) := by decide +kernel
theorem dX1_go_22 : decode cX1_go 22 = .ok (.dup, 1) := by decide +kernel
theorem dX1_go_23 : decode cX1_go 23 = .ok (.getfield 22, 3) := by decide +kernel
theorem dX1_go_26 : decode cX1_go 26 = .ok (.iconst 1, 1) := by decide +kernel
theorem dX1_go_27 : decode cX1_go 27 = .ok (.iadd, 1) := by decide +kernel
theorem dX1_go_28 : decode cX1_go 28 = .ok (.putfield 22, 3) := by decide +kernel
theorem dX1_go_31 : decode cX1_go 31 = .ok (.aload_n 0, 1) := by decide +kernel
theorem dX1_go_32 : decode cX1_go 32 = .ok (.aload_n 0, 1) := by decide +kernel
theorem dX1_go_33 : decode cX1_go 33 = .ok (.getfield 9, 3) := by decide +kernel
theorem dX1_go_36 : decode cX1_go 36 = .ok (.aload_n 0, 1) := by decide +kernel
theorem dX1_go_37 : decode cX1_go 37 = .ok (.getfield 22, 3) := by decide +kernel
theorem dX1_go_40 : decode cX1_go 40 = .ok (.iconst 0, 1) := by decide +kernel
theorem dX1_go_41 : decode cX1_go 41 = .ok (.invokevirtual 45, 3) := by decide +kernel
theorem dX1_go_44 : decode cX1_go 44 = .ok (.putfield 25, 3) := by decide +kernel
theorem dX1_go_47 : decode cX1_go 47 = .ok (.aload_n 0, 1) := by decide +kernel
theorem dX1_go_48 : decode cX1_go 48 = .ok (.iload_n 1, 1) := by decide +kernel
theorem dX1_go_49 : decode cX1_go 49 = .ok (.putfield 28, 3) := by decide +kernel
theorem dX1_go_52 : decode cX1_go 52 = .ok (.aload_n 0, 1) := by decide +kernel
theorem dX1_go_53 : decode cX1_go 53 = .ok (.iconst 0, 1) := by decide +kernel
theorem dX1_go_54 : decode cX1_go 54 = .ok (.putfield 31, 3) := by decide +kernel
theorem dX1_go_57 : decode cX1_go 57 = .ok (.aload_n 0, 1) := by decide +kernel
theorem dX1_go_58 : decode cX1_go 58 = .ok (.getfield 25, 3) := by decide +kernel
theorem dX1_go_61 : decode cX1_go 61 = .ok (.ifCond .le 78, 3) := by decide +kernel
theorem dX1_go_64 : decode cX1_go 64 = .ok (.aload_n 0, 1) := by decide +kernel
theorem dX1_go_65 : decode cX1_go 65 = .ok (.dup, 1) := by decide +kernel
theorem dX1_go_66 : decode cX1_go 66 = .ok (.getfield 25, 3) := by decide +kernel
theorem dX1_go_69 : decode cX1_go 69 = .ok (.iconst 1, 1) := by decide +kernel
theorem dX1_go_70 : decode cX1_go 70 = .ok (.isub, 1) := by decide +kernel
theorem dX1_go_71 : decode cX1_go 71 = .ok (.putfield 25, 3) := by decide +kernel
theorem dX1_go_74 : decode cX1_go 74 = .ok (.aload_n 0, 1) := by decide +kernel
theorem dX1_go_75 : decode cX1_go 75 = .ok (.dup, 1) := by decide +kernel
theorem dX1_go_76 : decode cX1_go 76 = .ok (.getfield 28, 3) := by decide +kernel
theorem dX1_go_79 : decode cX1_go 79 = .ok (.aload_n 0, 1) := by decide +kernel
theorem dX1_go_80 : decode cX1_go 80 = .ok (.getfield 22, 3) := by decide +kernel
theorem dX1_go_83 : decode cX1_go 83 = .ok (.ifCond .ne 10, 3) := by decide +kernel
theorem dX1_go_86 : decode cX1_go 86 = .ok (.aload_n 0, 1) := by decide +kernel
theorem dX1_go_87 : decode cX1_go 87 = .ok (.getfield 15, 3) := by decide +kernel
theorem dX1_go_90 : decode cX1_go 90 = .ok (.goto 15, 3) := by decide +kernel
theorem dX1_go_93 : decode cX1_go 93 = .ok (.aload_n 0, 1) := by decide +kernel
theorem dX1_go_94 : decode cX1_go 94 = .ok (.getfield 9, 3) := by decide +kernel
theorem dX1_go_97 : decode cX1_go 97 = .ok (.aload_n 0, 1) := by decide +kernel
theorem dX1_go_98 : decode cX1_go 98 = .ok (.getfield 22, 3) := by decide +kernel
theorem dX1_go_101 : decode cX1_go 101 = .ok (.iconst 1, 1) := by decide +kernel
theorem dX1_go_102 : decode cX1_go 102 = .ok (.invokevirtual 45, 3) := by decide +kernel
theorem dX1_go_105 : decode cX1_go 105 = .ok (.iadd, 1) := by decide +kernel
theorem dX1_go_106 : decode cX1_go 106 = .ok (.putfield 28, 3) := by decide +kernel
theorem dX1_go_109 : decode cX1_go 109 = .ok (.aload_n 0, 1) := by decide +kernel
theorem dX1_go_110 : decode cX1_go 110 = .ok (.aload_n 0, 1) := by decide +kernel
theorem dX1_go_111 : decode cX1_go 111 = .ok (.getfield 22, 3) := by decide +kernel
theorem dX1_go_114 : decode cX1_go 114 = .ok (.ifCond .ne 10, 3) := by decide +kernel
theorem dX1_go_117 : decode cX1_go 117 = .ok (.aload_n 0, 1) := by decide +kernel
theorem dX1_go_118 : decode cX1_go 118 = .ok (.getfield 19, 3) := by decide +kernel
theorem dX1_go_121 : decode cX1_go 121 = .ok (.goto 15, 3) := by decide +kernel
theorem dX1_go_124 : decode cX1_go 124 = .ok (.aload_n 0, 1) := by decide +kernel
theorem dX1_go_125 : decode cX1_go 125 = .ok (.getfield 9, 3) := by decide +kernel
theorem dX1_go_128 : decode cX1_go 128 = .ok (.aload_n 0, 1) := by decide +kernel
theorem dX1_go_129 : decode cX1_go 129 = .ok (.getfield 22, 3) := by decide +kernel
theorem dX1_go_132 : decode cX1_go 132 = .ok (.iconst 2, 1) := by decide +kernel
theorem dX1_go_133 : decode cX1_go 133 = .ok (.invokevirtual 45, 3) := by decide +kernel
theorem dX1_go_136 : decode cX1_go 136 = .ok (.putfield 31, 3) := by decide +kernel
theorem dX1_go_139 : decode cX1_go 139 = .ok (.aload_n 0, 1) := by decide +kernel
theorem dX1_go_140 : decode cX1_go 140 = .ok (.dup, 1) := by decide +kernel
theorem dX1_go_141 : decode cX1_go 141 = .ok (.getfield 34, 3) := by decide +kernel
theorem dX1_go_144 : decode cX1_go 144 = .ok (.aload_n 0, 1) := by decide +kernel
theorem dX1_go_145 : decode cX1_go 145 = .ok (.getfield 28, 3) := by decide +kernel
theorem dX1_go_148 : decode cX1_go 148 = .ok (.iadd, 1) := by decide +kernel
theorem dX1_go_149 : decode cX1_go 149 = .ok (.putfield 34, 3) := by decide +kernel
theorem dX1_go_152 : decode cX1_go 152 = .ok (.aload_n 0, 1) := by decide +kernel
theorem dX1_go_153 : decode cX1_go 153 = .ok (.dup, 1) := by decide +kernel
theorem dX1_go_154 : decode cX1_go 154 = .ok (.getfield 37, 3) := by decide +kernel
theorem dX1_go_157 : decode cX1_go 157 = .ok (.aload_n 0, 1) := by decide +kernel
theorem dX1_go_158 : decode cX1_go 158 = .ok (.getfield 31, 3) := by decide +kernel
theorem dX1_go_161 : decode cX1_go 161 = .ok (.iadd, 1) := by decide +kernel
theorem dX1_go_162 : decode cX1_go 162 = .ok (.putfield 37, 3) := by decide +kernel
theorem dX1_go_165 : decode cX1_go 165 = .ok (.return_, 1) := by decide +kernel
theorem dX2_init_0 : decode cX2_init 0 = .ok (.aload_n 0, 1) := by decide +kernel
theorem dX2_init_1 : decode cX2_init 1 = .ok (.invokespecial 3, 3) := by decide +kernel
theorem dX2_init_4 : decode cX2_init 4 = .ok (.aload_n 0, 1) := by decide +kernel
theorem dX2_init_5 : decode cX2_init 5 = .ok (.bipush 9, 2) := by decide +kernel
theorem dX2_init_7 : decode cX2_init 7 = .ok (.sipush 181, 3) := by decide +kernel
theorem dX2_init_10 : decode cX2_init 10 = .ok (.multianewarray 9 2, 4) := by decide +kernel
theorem dX2_init_14 : decode cX2_init 14 = .ok (.putfield 11, 3) := by decide +kernel
theorem dX2_init_17 : decode cX2_init 17 = .ok (.return_, 1) := by decide +kernel
theorem dX2_weigh_0 : decode cX2_weigh 0 = .ok (.iconst 0, 1) := by decide +kernel
theorem dX2_weigh_1 : decode cX2_weigh 1 = .ok (.istore_n 3, 1) := by decide +kernel
theorem dX2_weigh_2 : decode cX2_weigh 2 = .ok (.iload_n 3, 1) := by decide +kernel
theorem dX2_weigh_3 : decode cX2_weigh 3 = .ok (.iload_n 2, 1) := by decide +kernel
theorem dX2_weigh_4 : decode cX2_weigh 4 = .ok (.if_icmp .gt 21, 3) := by decide +kernel
theorem dX2_weigh_7 : decode cX2_weigh 7 = .ok (.aload_n 0, 1) := by decide +kernel
theorem dX2_weigh_8 : decode cX2_weigh 8 = .ok (.getfield 11, 3) := by decide +kernel
theorem dX2_weigh_11 : decode cX2_weigh 11 = .ok (.aload_n 1, 1) := by decide +kernel
theorem dX2_weigh_12 : decode cX2_weigh 12 = .ok (.getfield 16, 3) := by decide +kernel
theorem dX2_weigh_15 : decode cX2_weigh 15 = .ok (.aaload, 1) := by decide +kernel
theorem dX2_weigh_16 : decode cX2_weigh 16 = .ok (.iload_n 3, 1) := by decide +kernel
theorem dX2_weigh_17 : decode cX2_weigh 17 = .ok (.iconst 0, 1) := by decide +kernel
theorem dX2_weigh_18 : decode cX2_weigh 18 = .ok (.iastore, 1) := by decide +kernel
theorem dX2_weigh_19 : decode cX2_weigh 19 = .ok (.iinc 3 1, 3) := by decide +kernel
theorem dX2_weigh_22 : decode cX2_weigh 22 = .ok (.goto (-20), 3) := by decide +kernel
theorem dX2_weigh_25 : decode cX2_weigh 25 = .ok (.aload_n 1, 1) := by decide +kernel
theorem dX2_weigh_26 : decode cX2_weigh 26 = .ok (.getfield 16, 3) := by decide +kernel
theorem dX2_weigh_29 : decode cX2_weigh 29 = .ok (.iconst 1, 1) := by decide +kernel
theorem dX2_weigh_30 : decode cX2_weigh 30 = .ok (.isub, 1) := by decide +kernel
theorem dX2_weigh_31 : decode cX2_weigh 31 = .ok (.istore_n 3, 1) := by decide +kernel
theorem dX2_weigh_32 : decode cX2_weigh 32 = .ok (.iload_n 3, 1) := by decide +kernel
theorem dX2_weigh_33 : decode cX2_weigh 33 = .ok (.ifCond .lt 41, 3) := by decide +kernel
theorem dX2_weigh_36 : decode cX2_weigh 36 = .ok (.iconst 0, 1) := by decide +kernel
theorem dX2_weigh_37 : decode cX2_weigh 37 = .ok (.istore 4, 2) := by decide +kernel
theorem dX2_weigh_39 : decode cX2_weigh 39 = .ok (.iload 4, 2) := by decide +kernel
theorem dX2_weigh_41 : decode cX2_weigh 41 = .ok (.iload_n 2, 1) := by decide +kernel
theorem dX2_weigh_42 : decode cX2_weigh 42 = .ok (.if_icmp .gt 26, 3) := by decide +kernel
theorem dX2_weigh_45 : decode cX2_weigh 45 = .ok (.aload_n 0, 1) := by decide +kernel
theorem dX2_weigh_46 : decode cX2_weigh 46 = .ok (.getfield 11, 3) := by decide +kernel
theorem dX2_weigh_49 : decode cX2_weigh 49 = .ok (.iload_n 3, 1) := by decide +kernel
theorem dX2_weigh_50 : decode cX2_weigh 50 = .ok (.aaload, 1) := by decide +kernel
theorem dX2_weigh_51 : decode cX2_weigh 51 = .ok (.iload 4, 2) := by decide +kernel
theorem dX2_weigh_53 : decode cX2_weigh 53 = .ok (.aload_n 0, 1) := by decide +kernel
theorem dX2_weigh_54 : decode cX2_weigh 54 = .ok (.aload_n 1, 1) := by decide +kernel
theorem dX2_weigh_55 : decode cX2_weigh 55 = .ok (.iload_n 3, 1) := by decide +kernel
theorem dX2_weigh_56 : decode cX2_weigh 56 = .ok (.iload 4, 2) := by decide +kernel
theorem dX2_weigh_58 : decode cX2_weigh 58 = .ok (.invokevirtual 22, 3) := by decide +kernel
theorem dX2_weigh_61 : decode cX2_weigh 61 = .ok (.iastore, 1) := by decide +kernel
theorem dX2_weigh_62 : decode cX2_weigh 62 = .ok (.iinc 4 1, 3) := by decide +kernel
theorem dX2_weigh_65 : decode cX2_weigh 65 = .ok (.goto (-26), 3) := by decide +kernel
theorem dX2_weigh_68 : decode cX2_weigh 68 = .ok (.iinc 3 (-1), 3) := by decide +kernel
theorem dX2_weigh_71 : decode cX2_weigh 71 = .ok (.goto (-39), 3) := by decide +kernel
theorem dX2_weigh_74 : decode cX2_weigh 74 = .ok (.return_, 1) := by decide +kernel
theorem dX2_mostIn_0 : decode cX2_mostIn 0 = .ok (.aload_n 0, 1) := by decide +kernel
theorem dX2_mostIn_1 : decode cX2_mostIn 1 = .ok (.getfield 11, 3) := by decide +kernel
theorem dX2_mostIn_4 : decode cX2_mostIn 4 = .ok (.iconst 0, 1) := by decide +kernel
theorem dX2_mostIn_5 : decode cX2_mostIn 5 = .ok (.aaload, 1) := by decide +kernel
theorem dX2_mostIn_6 : decode cX2_mostIn 6 = .ok (.iload_n 1, 1) := by decide +kernel
theorem dX2_mostIn_7 : decode cX2_mostIn 7 = .ok (.iaload, 1) := by decide +kernel
theorem dX2_mostIn_8 : decode cX2_mostIn 8 = .ok (.ireturn, 1) := by decide +kernel
theorem dX2_timesOf_0 : decode cX2_timesOf 0 = .ok (.iload_n 2, 1) := by decide +kernel
theorem dX2_timesOf_1 : decode cX2_timesOf 1 = .ok (.istore 4, 2) := by decide +kernel
theorem dX2_timesOf_3 : decode cX2_timesOf 3 = .ok (.iconst 0, 1) := by decide +kernel
theorem dX2_timesOf_4 : decode cX2_timesOf 4 = .ok (.istore 5, 2) := by decide +kernel
theorem dX2_timesOf_6 : decode cX2_timesOf 6 = .ok (.iconst 0, 1) := by decide +kernel
theorem dX2_timesOf_7 : decode cX2_timesOf 7 = .ok (.istore 6, 2) := by decide +kernel
theorem dX2_timesOf_9 : decode cX2_timesOf 9 = .ok (.iload 6, 2) := by decide +kernel
theorem dX2_timesOf_11 : decode cX2_timesOf 11 = .ok (.iload_n 3, 1) := by decide +kernel
theorem dX2_timesOf_12 : decode cX2_timesOf 12 = .ok (.if_icmp .gt 35, 3) := by decide +kernel
theorem dX2_timesOf_15 : decode cX2_timesOf 15 = .ok (.aload_n 0, 1) := by decide +kernel
theorem dX2_timesOf_16 : decode cX2_timesOf 16 = .ok (.aload_n 1, 1) := by decide +kernel
theorem dX2_timesOf_17 : decode cX2_timesOf 17 = .ok (.iload 6, 2) := by decide +kernel
theorem dX2_timesOf_19 : decode cX2_timesOf 19 = .ok (.iload 4, 2) := by decide +kernel
theorem dX2_timesOf_21 : decode cX2_timesOf 21 = .ok (.invokevirtual 26, 3) := by decide +kernel
theorem dX2_timesOf_24 : decode cX2_timesOf 24 = .ok (.istore 5, 2) := by decide +kernel
theorem dX2_timesOf_26 : decode cX2_timesOf 26 = .ok (.iload 4, 2) := by decide +kernel
theorem dX2_timesOf_28 : decode cX2_timesOf 28 = .ok (.iload 5, 2) := by decide +kernel
theorem dX2_timesOf_30 : decode cX2_timesOf 30 = .ok (.aload_n 1, 1) := by decide +kernel
theorem dX2_timesOf_31 : decode cX2_timesOf 31 = .ok (.iload 6, 2) := by decide +kernel
theorem dX2_timesOf_33 : decode cX2_timesOf 33 = .ok (.iconst 1, 1) := by decide +kernel
theorem dX2_timesOf_34 : decode cX2_timesOf 34 = .ok (.invokevirtual 29, 3) := by decide +kernel
theorem dX2_timesOf_37 : decode cX2_timesOf 37 = .ok (.imul, 1) := by decide +kernel
theorem dX2_timesOf_38 : decode cX2_timesOf 38 = .ok (.isub, 1) := by decide +kernel
theorem dX2_timesOf_39 : decode cX2_timesOf 39 = .ok (.istore 4, 2) := by decide +kernel
theorem dX2_timesOf_41 : decode cX2_timesOf 41 = .ok (.iinc 6 1, 3) := by decide +kernel
theorem dX2_timesOf_44 : decode cX2_timesOf 44 = .ok (.goto (-35), 3) := by decide +kernel
theorem dX2_timesOf_47 : decode cX2_timesOf 47 = .ok (.iload 5, 2) := by decide +kernel
theorem dX2_timesOf_49 : decode cX2_timesOf 49 = .ok (.ireturn, 1) := by decide +kernel
theorem dX2_mostFrom_0 : decode cX2_mostFrom 0 = .ok (.iconst 0, 1) := by decide +kernel
theorem dX2_mostFrom_1 : decode cX2_mostFrom 1 = .ok (.istore 4, 2) := by decide +kernel
theorem dX2_mostFrom_3 : decode cX2_mostFrom 3 = .ok (.iconst 0, 1) := by decide +kernel
theorem dX2_mostFrom_4 : decode cX2_mostFrom 4 = .ok (.istore 5, 2) := by decide +kernel
theorem dX2_mostFrom_6 : decode cX2_mostFrom 6 = .ok (.iload 5, 2) := by decide +kernel
theorem dX2_mostFrom_8 : decode cX2_mostFrom 8 = .ok (.aload_n 1, 1) := by decide +kernel
theorem dX2_mostFrom_9 : decode cX2_mostFrom 9 = .ok (.iload_n 2, 1) := by decide +kernel
theorem dX2_mostFrom_10 : decode cX2_mostFrom 10 = .ok (.iconst 3, 1) := by decide +kernel
theorem dX2_mostFrom_11 : decode cX2_mostFrom 11 = .ok (.invokevirtual 29, 3) := by decide +kernel
theorem dX2_mostFrom_14 : decode cX2_mostFrom 14 = .ok (.if_icmp .gt 25, 3) := by decide +kernel
theorem dX2_mostFrom_17 : decode cX2_mostFrom 17 = .ok (.iload 4, 2) := by decide +kernel
theorem dX2_mostFrom_19 : decode cX2_mostFrom 19 = .ok (.aload_n 0, 1) := by decide +kernel
theorem dX2_mostFrom_20 : decode cX2_mostFrom 20 = .ok (.aload_n 1, 1) := by decide +kernel
theorem dX2_mostFrom_21 : decode cX2_mostFrom 21 = .ok (.iload_n 2, 1) := by decide +kernel
theorem dX2_mostFrom_22 : decode cX2_mostFrom 22 = .ok (.iload_n 3, 1) := by decide +kernel
theorem dX2_mostFrom_23 : decode cX2_mostFrom 23 = .ok (.iload 5, 2) := by decide +kernel
theorem dX2_mostFrom_25 : decode cX2_mostFrom 25 = .ok (.invokevirtual 33, 3) := by decide +kernel
theorem dX2_mostFrom_28 : decode cX2_mostFrom 28 = .ok (.invokestatic 37, 3) := by decide +kernel
theorem dX2_mostFrom_31 : decode cX2_mostFrom 31 = .ok (.istore 4, 2) := by decide +kernel
theorem dX2_mostFrom_33 : decode cX2_mostFrom 33 = .ok (.iinc 5 1, 3) := by decide +kernel
theorem dX2_mostFrom_36 : decode cX2_mostFrom 36 = .ok (.goto (-30), 3) := by decide +kernel
theorem dX2_mostFrom_39 : decode cX2_mostFrom 39 = .ok (.iload 4, 2) := by decide +kernel
theorem dX2_mostFrom_41 : decode cX2_mostFrom 41 = .ok (.ireturn, 1) := by decide +kernel
theorem dX2_mostTimes_0 : decode cX2_mostTimes 0 = .ok (.aload_n 1, 1) := by decide +kernel
theorem dX2_mostTimes_1 : decode cX2_mostTimes 1 = .ok (.iload_n 2, 1) := by decide +kernel
theorem dX2_mostTimes_2 : decode cX2_mostTimes 2 = .ok (.iconst 3, 1) := by decide +kernel
theorem dX2_mostTimes_3 : decode cX2_mostTimes 3 = .ok (.invokevirtual 29, 3) := by decide +kernel
theorem dX2_mostTimes_6 : decode cX2_mostTimes 6 = .ok (.istore 4, 2) := by decide +kernel
theorem dX2_mostTimes_8 : decode cX2_mostTimes 8 = .ok (.iload 4, 2) := by decide +kernel
theorem dX2_mostTimes_10 : decode cX2_mostTimes 10 = .ok (.ifCond .le 29, 3) := by decide +kernel
theorem dX2_mostTimes_13 : decode cX2_mostTimes 13 = .ok (.aload_n 0, 1) := by decide +kernel
theorem dX2_mostTimes_14 : decode cX2_mostTimes 14 = .ok (.aload_n 1, 1) := by decide +kernel
theorem dX2_mostTimes_15 : decode cX2_mostTimes 15 = .ok (.iload_n 2, 1) := by decide +kernel
theorem dX2_mostTimes_16 : decode cX2_mostTimes 16 = .ok (.iload_n 3, 1) := by decide +kernel
theorem dX2_mostTimes_17 : decode cX2_mostTimes 17 = .ok (.iload 4, 2) := by decide +kernel
theorem dX2_mostTimes_19 : decode cX2_mostTimes 19 = .ok (.invokevirtual 33, 3) := by decide +kernel
theorem dX2_mostTimes_22 : decode cX2_mostTimes 22 = .ok (.aload_n 0, 1) := by decide +kernel
theorem dX2_mostTimes_23 : decode cX2_mostTimes 23 = .ok (.getfield 11, 3) := by decide +kernel
theorem dX2_mostTimes_26 : decode cX2_mostTimes 26 = .ok (.iload_n 2, 1) := by decide +kernel
theorem dX2_mostTimes_27 : decode cX2_mostTimes 27 = .ok (.aaload, 1) := by decide +kernel
theorem dX2_mostTimes_28 : decode cX2_mostTimes 28 = .ok (.iload_n 3, 1) := by decide +kernel
theorem dX2_mostTimes_29 : decode cX2_mostTimes 29 = .ok (.iaload, 1) := by decide +kernel
theorem dX2_mostTimes_30 : decode cX2_mostTimes 30 = .ok (.if_icmp .eq 9, 3) := by decide +kernel
theorem dX2_mostTimes_33 : decode cX2_mostTimes 33 = .ok (.iinc 4 (-1), 3) := by decide +kernel
theorem dX2_mostTimes_36 : decode cX2_mostTimes 36 = .ok (.goto (-28), 3) := by decide +kernel
theorem dX2_mostTimes_39 : decode cX2_mostTimes 39 = .ok (.iload 4, 2) := by decide +kernel
theorem dX2_mostTimes_41 : decode cX2_mostTimes 41 = .ok (.ireturn, 1) := by decide +kernel
theorem dX2_gainBy_0 : decode cX2_gainBy 0 = .ok (.iload_n 3, 1) := by decide +kernel
theorem dX2_gainBy_1 : decode cX2_gainBy 1 = .ok (.iload 4, 2) := by decide +kernel
theorem dX2_gainBy_3 : decode cX2_gainBy 3 = .ok (.aload_n 1, 1) := by decide +kernel
theorem dX2_gainBy_4 : decode cX2_gainBy 4 = .ok (.iload_n 2, 1) := by decide +kernel
theorem dX2_gainBy_5 : decode cX2_gainBy 5 = .ok (.iconst 1, 1) := by decide +kernel
theorem dX2_gainBy_6 : decode cX2_gainBy 6 = .ok (.invokevirtual 29, 3) := by decide +kernel
theorem dX2_gainBy_9 : decode cX2_gainBy 9 = .ok (.imul, 1) := by decide +kernel
theorem dX2_gainBy_10 : decode cX2_gainBy 10 = .ok (.isub, 1) := by decide +kernel
theorem dX2_gainBy_11 : decode cX2_gainBy 11 = .ok (.istore 5, 2) := by decide +kernel
theorem dX2_gainBy_13 : decode cX2_gainBy 13 = .ok (.iload 5, 2) := by decide +kernel
theorem dX2_gainBy_15 : decode cX2_gainBy 15 = .ok (.ifCond .ge 7, 3) := by decide +kernel
theorem dX2_gainBy_18 : decode cX2_gainBy 18 = .ok (.iconst (-1), 1) := by decide +kernel
theorem dX2_gainBy_19 : decode cX2_gainBy 19 = .ok (.goto 24, 3) := by decide +kernel
theorem dX2_gainBy_22 : decode cX2_gainBy 22 = .ok (.iload 4, 2) := by decide +kernel
theorem dX2_gainBy_24 : decode cX2_gainBy 24 = .ok (.aload_n 1, 1) := by decide +kernel
theorem dX2_gainBy_25 : decode cX2_gainBy 25 = .ok (.iload_n 2, 1) := by decide +kernel
theorem dX2_gainBy_26 : decode cX2_gainBy 26 = .ok (.iconst 2, 1) := by decide +kernel
theorem dX2_gainBy_27 : decode cX2_gainBy 27 = .ok (.invokevirtual 29, 3) := by decide +kernel
theorem dX2_gainBy_30 : decode cX2_gainBy 30 = .ok (.imul, 1) := by decide +kernel
theorem dX2_gainBy_31 : decode cX2_gainBy 31 = .ok (.aload_n 0, 1) := by decide +kernel
theorem dX2_gainBy_32 : decode cX2_gainBy 32 = .ok (.getfield 11, 3) := by decide +kernel
theorem dX2_gainBy_35 : decode cX2_gainBy 35 = .ok (.iload_n 2, 1) := by decide +kernel
theorem dX2_gainBy_36 : decode cX2_gainBy 36 = .ok (.iconst 1, 1) := by decide +kernel
theorem dX2_gainBy_37 : decode cX2_gainBy 37 = .ok (.iadd, 1) := by decide +kernel
theorem dX2_gainBy_38 : decode cX2_gainBy 38 = .ok (.aaload, 1) := by decide +kernel
theorem dX2_gainBy_39 : decode cX2_gainBy 39 = .ok (.iload 5, 2) := by decide +kernel
theorem dX2_gainBy_41 : decode cX2_gainBy 41 = .ok (.iaload, 1) := by decide +kernel
theorem dX2_gainBy_42 : decode cX2_gainBy 42 = .ok (.iadd, 1) := by decide +kernel
theorem dX2_gainBy_43 : decode cX2_gainBy 43 = .ok (.ireturn, 1) := by decide +kernel
theorem dX3_init_0 : decode cX3_init 0 = .ok (.aload_n 0, 1) := by decide +kernel
theorem dX3_init_1 : decode cX3_init 1 = .ok (.invokespecial 3, 3) := by decide +kernel
theorem dX3_init_4 : decode cX3_init 4 = .ok (.aload_n 0, 1) := by decide +kernel
theorem dX3_init_5 : decode cX3_init 5 = .ok (.bipush 60, 2) := by decide +kernel
theorem dX3_init_7 : decode cX3_init 7 = .ok (.newarray .int, 2) := by decide +kernel
theorem dX3_init_9 : decode cX3_init 9 = .ok (.putfield 9, 3) := by decide +kernel
theorem dX3_init_12 : decode cX3_init 12 = .ok (.aload_n 0, 1) := by decide +kernel
theorem dX3_init_13 : decode cX3_init 13 = .ok (.new 15, 3) := by decide +kernel
theorem dX3_init_16 : decode cX3_init 16 = .ok (.dup, 1) := by decide +kernel
theorem dX3_init_17 : decode cX3_init 17 = .ok (.iconst 4, 1) := by decide +kernel
theorem dX3_init_18 : decode cX3_init 18 = .ok (.iconst 5, 1) := by decide +kernel
theorem dX3_init_19 : decode cX3_init 19 = .ok (.invokespecial 17, 3) := by decide +kernel
theorem dX3_init_22 : decode cX3_init 22 = .ok (.putfield 20, 3) := by decide +kernel
theorem dX3_init_25 : decode cX3_init 25 = .ok (.aload_n 0, 1) := by decide +kernel
theorem dX3_init_26 : decode cX3_init 26 = .ok (.new 15, 3) := by decide +kernel
theorem dX3_init_29 : decode cX3_init 29 = .ok (.dup, 1) := by decide +kernel
theorem dX3_init_30 : decode cX3_init 30 = .ok (.bipush 6, 2) := by decide +kernel
theorem dX3_init_32 : decode cX3_init 32 = .ok (.iconst 3, 1) := by decide +kernel
theorem dX3_init_33 : decode cX3_init 33 = .ok (.invokespecial 17, 3) := by decide +kernel
theorem dX3_init_36 : decode cX3_init 36 = .ok (.putfield 24, 3) := by decide +kernel
theorem dX3_init_39 : decode cX3_init 39 = .ok (.return_, 1) := by decide +kernel
theorem dX3_hasRoom_0 : decode cX3_hasRoom 0 = .ok (.aload_n 0, 1) := by decide +kernel
theorem dX3_hasRoom_1 : decode cX3_hasRoom 1 = .ok (.getfield 27, 3) := by decide +kernel
theorem dX3_hasRoom_4 : decode cX3_hasRoom 4 = .ok (.iload_n 1, 1) := by decide +kernel
theorem dX3_hasRoom_5 : decode cX3_hasRoom 5 = .ok (.iadd, 1) := by decide +kernel
theorem dX3_hasRoom_6 : decode cX3_hasRoom 6 = .ok (.bipush 60, 2) := by decide +kernel
theorem dX3_hasRoom_8 : decode cX3_hasRoom 8 = .ok (.if_icmp .gt 7, 3) := by decide +kernel
theorem dX3_hasRoom_11 : decode cX3_hasRoom 11 = .ok (.iconst 1, 1) := by decide +kernel
theorem dX3_hasRoom_12 : decode cX3_hasRoom 12 = .ok (.goto 4, 3) := by decide +kernel
theorem dX3_hasRoom_15 : decode cX3_hasRoom 15 = .ok (.iconst 0, 1) := by decide +kernel
theorem dX3_hasRoom_16 : decode cX3_hasRoom 16 = .ok (.ireturn, 1) := by decide +kernel
theorem dX3_append_0 : decode cX3_append 0 = .ok (.aload_n 0, 1) := by decide +kernel
theorem dX3_append_1 : decode cX3_append 1 = .ok (.getfield 27, 3) := by decide +kernel
theorem dX3_append_4 : decode cX3_append 4 = .ok (.bipush 60, 2) := by decide +kernel
theorem dX3_append_6 : decode cX3_append 6 = .ok (.if_icmp .ge 23, 3) := by decide +kernel
theorem dX3_append_9 : decode cX3_append 9 = .ok (.aload_n 0, 1) := by decide +kernel
theorem dX3_append_10 : decode cX3_append 10 = .ok (.getfield 9, 3) := by decide +kernel
theorem dX3_append_13 : decode cX3_append 13 = .ok (.aload_n 0, 1) := by decide +kernel
theorem dX3_append_14 : decode cX3_append 14 = .ok (.getfield 27, 3) := by decide +kernel
theorem dX3_append_17 : decode cX3_append 17 = .ok (.iload_n 1, 1) := by decide +kernel
theorem dX3_append_18 : decode cX3_append 18 = .ok (.iastore, 1) := by decide +kernel
theorem dX3_append_19 : decode cX3_append 19 = .ok (.aload_n 0, 1) := by decide +kernel
theorem dX3_append_20 : decode cX3_append 20 = .ok (.dup, 1) := by decide +kernel
theorem dX3_append_21 : decode cX3_append 21 = .ok (.getfield 27, 3) := by decide +kernel
theorem dX3_append_24 : decode cX3_append 24 = .ok (.iconst 1, 1) := by decide +kernel
theorem dX3_append_25 : decode cX3_append 25 = .ok (.iadd, 1) := by decide +kernel
theorem dX3_append_26 : decode cX3_append 26 = .ok (.putfield 27, 3) := by decide +kernel
theorem dX3_append_29 : decode cX3_append 29 = .ok (.return_, 1) := by decide +kernel
theorem dX3_readCups_0 : decode cX3_readCups 0 = .ok (.aload_n 0, 1) := by decide +kernel
theorem dX3_readCups_1 : decode cX3_readCups 1 = .ok (.invokevirtual 31, 3) := by decide +kernel
theorem dX3_readCups_4 : decode cX3_readCups 4 = .ok (.aload_n 0, 1) := by decide +kernel
theorem dX3_readCups_5 : decode cX3_readCups 5 = .ok (.getfield 20, 3) := by decide +kernel
theorem dX3_readCups_8 : decode cX3_readCups 8 = .ok (.invokevirtual 34, 3) := by decide +kernel
theorem dX3_readCups_11 : decode cX3_readCups 11 = .ok (.pop, 1) := by decide +kernel
theorem dX3_readCups_12 : decode cX3_readCups 12 = .ok (.iconst 0, 1) := by decide +kernel
theorem dX3_readCups_13 : decode cX3_readCups 13 = .ok (.istore_n 1, 1) := by decide +kernel
theorem dX3_readCups_14 : decode cX3_readCups 14 = .ok (.iload_n 1, 1) := by decide +kernel
theorem dX3_readCups_15 : decode cX3_readCups 15 = .ok (.iconst 4, 1) := by decide +kernel
theorem dX3_readCups_16 : decode cX3_readCups 16 = .ok (.if_icmp .ge 26, 3) := by decide +kernel
theorem dX3_readCups_19 : decode cX3_readCups 19 = .ok (.iload_n 1, 1) := by decide +kernel
theorem dX3_readCups_20 : decode cX3_readCups 20 = .ok (.ifCond .eq 12, 3) := by decide +kernel
theorem dX3_readCups_23 : decode cX3_readCups 23 = .ok (.aload_n 0, 1) := by decide +kernel
theorem dX3_readCups_24 : decode cX3_readCups 24 = .ok (.bipush 59, 2) := by decide +kernel
theorem dX3_readCups_26 : decode cX3_readCups 26 = .ok (.invokevirtual 38, 3) := by decide +kernel
theorem dX3_readCups_29 : decode cX3_readCups 29 = .ok (.ifCond .eq 13, 3) := by decide +kernel
theorem dX3_readCups_32 : decode cX3_readCups 32 = .ok (.aload_n 0, 1) := by decide +kernel
theorem dX3_readCups_33 : decode cX3_readCups 33 = .ok (.invokevirtual 42, 3) := by decide +kernel
theorem dX3_readCups_36 : decode cX3_readCups 36 = .ok (.iinc 1 1, 3) := by decide +kernel
theorem dX3_readCups_39 : decode cX3_readCups 39 = .ok (.goto (-25), 3) := by decide +kernel
theorem dX3_readCups_42 : decode cX3_readCups 42 = .ok (.aload_n 0, 1) := by decide +kernel
theorem dX3_readCups_43 : decode cX3_readCups 43 = .ok (.aload_n 0, 1) := by decide +kernel
theorem dX3_readCups_44 : decode cX3_readCups 44 = .ok (.getfield 20, 3) := by decide +kernel
theorem dX3_readCups_47 : decode cX3_readCups 47 = .ok (.getfield 45, 3) := by decide +kernel
theorem dX3_readCups_50 : decode cX3_readCups 50 = .ok (.invokevirtual 46, 3) := by decide +kernel
theorem dX3_readCups_53 : decode cX3_readCups 53 = .ok (.ireturn, 1) := by decide +kernel
theorem dX3_readParts_0 : decode cX3_readParts 0 = .ok (.aload_n 0, 1) := by decide +kernel
theorem dX3_readParts_1 : decode cX3_readParts 1 = .ok (.invokevirtual 31, 3) := by decide +kernel
theorem dX3_readParts_4 : decode cX3_readParts 4 = .ok (.aload_n 0, 1) := by decide +kernel
theorem dX3_readParts_5 : decode cX3_readParts 5 = .ok (.getfield 24, 3) := by decide +kernel
theorem dX3_readParts_8 : decode cX3_readParts 8 = .ok (.invokevirtual 34, 3) := by decide +kernel
theorem dX3_readParts_11 : decode cX3_readParts 11 = .ok (.pop, 1) := by decide +kernel
theorem dX3_readParts_12 : decode cX3_readParts 12 = .ok (.iconst 0, 1) := by decide +kernel
theorem dX3_readParts_13 : decode cX3_readParts 13 = .ok (.istore_n 1, 1) := by decide +kernel
theorem dX3_readParts_14 : decode cX3_readParts 14 = .ok (.iload_n 1, 1) := by decide +kernel
theorem dX3_readParts_15 : decode cX3_readParts 15 = .ok (.bipush 6, 2) := by decide +kernel
theorem dX3_readParts_17 : decode cX3_readParts 17 = .ok (.if_icmp .ge 26, 3) := by decide +kernel
theorem dX3_readParts_20 : decode cX3_readParts 20 = .ok (.iload_n 1, 1) := by decide +kernel
theorem dX3_readParts_21 : decode cX3_readParts 21 = .ok (.ifCond .eq 12, 3) := by decide +kernel
theorem dX3_readParts_24 : decode cX3_readParts 24 = .ok (.aload_n 0, 1) := by decide +kernel
theorem dX3_readParts_25 : decode cX3_readParts 25 = .ok (.bipush 59, 2) := by decide +kernel
theorem dX3_readParts_27 : decode cX3_readParts 27 = .ok (.invokevirtual 38, 3) := by decide +kernel
theorem dX3_readParts_30 : decode cX3_readParts 30 = .ok (.ifCond .eq 13, 3) := by decide +kernel
theorem dX3_readParts_33 : decode cX3_readParts 33 = .ok (.aload_n 0, 1) := by decide +kernel
theorem dX3_readParts_34 : decode cX3_readParts 34 = .ok (.invokevirtual 50, 3) := by decide +kernel
theorem dX3_readParts_37 : decode cX3_readParts 37 = .ok (.iinc 1 1, 3) := by decide +kernel
theorem dX3_readParts_40 : decode cX3_readParts 40 = .ok (.goto (-26), 3) := by decide +kernel
theorem dX3_readParts_43 : decode cX3_readParts 43 = .ok (.aload_n 0, 1) := by decide +kernel
theorem dX3_readParts_44 : decode cX3_readParts 44 = .ok (.aload_n 0, 1) := by decide +kernel
theorem dX3_readParts_45 : decode cX3_readParts 45 = .ok (.getfield 24, 3) := by decide +kernel
theorem dX3_readParts_48 : decode cX3_readParts 48 = .ok (.getfield 45, 3) := by decide +kernel
theorem dX3_readParts_51 : decode cX3_readParts 51 = .ok (.invokevirtual 46, 3) := by decide +kernel
theorem dX3_readParts_54 : decode cX3_readParts 54 = .ok (.ireturn, 1) := by decide +kernel
theorem dX3_begin_0 : decode cX3_begin 0 = .ok (.aload_n 0, 1) := by decide +kernel
theorem dX3_begin_1 : decode cX3_begin 1 = .ok (.iconst 0, 1) := by decide +kernel
theorem dX3_begin_2 : decode cX3_begin 2 = .ok (.putfield 53, 3) := by decide +kernel
theorem dX3_begin_5 : decode cX3_begin 5 = .ok (.aload_n 0, 1) := by decide +kernel
theorem dX3_begin_6 : decode cX3_begin 6 = .ok (.iconst (-1), 1) := by decide +kernel
theorem dX3_begin_7 : decode cX3_begin 7 = .ok (.putfield 56, 3) := by decide +kernel
theorem dX3_begin_10 : decode cX3_begin 10 = .ok (.return_, 1) := by decide +kernel
theorem dX3_finish_0 : decode cX3_finish 0 = .ok (.aload_n 0, 1) := by decide +kernel
theorem dX3_finish_1 : decode cX3_finish 1 = .ok (.invokevirtual 59, 3) := by decide +kernel
theorem dX3_finish_4 : decode cX3_finish 4 = .ok (.iconst (-1), 1) := by decide +kernel
theorem dX3_finish_5 : decode cX3_finish 5 = .ok (.if_icmp .eq 11, 3) := by decide +kernel
theorem dX3_finish_8 : decode cX3_finish 8 = .ok (.aload_n 0, 1) := by decide +kernel
theorem dX3_finish_9 : decode cX3_finish 9 = .ok (.aload_n 0, 1) := by decide +kernel
theorem dX3_finish_10 : decode cX3_finish 10 = .ok (.getfield 53, 3) := by decide +kernel
theorem dX3_finish_13 : decode cX3_finish 13 = .ok (.invokevirtual 62, 3) := by decide +kernel
theorem dX3_finish_16 : decode cX3_finish 16 = .ok (.aload_n 0, 1) := by decide +kernel
theorem dX3_finish_17 : decode cX3_finish 17 = .ok (.iconst 0, 1) := by decide +kernel
theorem dX3_finish_18 : decode cX3_finish 18 = .ok (.putfield 27, 3) := by decide +kernel
theorem dX3_finish_21 : decode cX3_finish 21 = .ok (.aload_n 0, 1) := by decide +kernel
theorem dX3_finish_22 : decode cX3_finish 22 = .ok (.getfield 56, 3) := by decide +kernel
theorem dX3_finish_25 : decode cX3_finish 25 = .ok (.iconst (-1), 1) := by decide +kernel
theorem dX3_finish_26 : decode cX3_finish 26 = .ok (.if_icmp .ne 7, 3) := by decide +kernel
theorem dX3_finish_29 : decode cX3_finish 29 = .ok (.iload_n 1, 1) := by decide +kernel
theorem dX3_finish_30 : decode cX3_finish 30 = .ok (.goto 10, 3) := by decide +kernel
theorem dX3_finish_33 : decode cX3_finish 33 = .ok (.bipush (-20), 2) := by decide +kernel
theorem dX3_finish_35 : decode cX3_finish 35 = .ok (.aload_n 0, 1) := by decide +kernel
theorem dX3_finish_36 : decode cX3_finish 36 = .ok (.getfield 56, 3) := by decide +kernel
theorem dX3_finish_39 : decode cX3_finish 39 = .ok (.isub, 1) := by decide +kernel
theorem dX3_finish_40 : decode cX3_finish 40 = .ok (.ireturn, 1) := by decide +kernel
theorem dX3_readCup_0 : decode cX3_readCup 0 = .ok (.aload_n 0, 1) := by decide +kernel
theorem dX3_readCup_1 : decode cX3_readCup 1 = .ok (.invokevirtual 66, 3) := by decide +kernel
theorem dX3_readCup_4 : decode cX3_readCup 4 = .ok (.istore_n 1, 1) := by decide +kernel
theorem dX3_readCup_5 : decode cX3_readCup 5 = .ok (.aload_n 0, 1) := by decide +kernel
theorem dX3_readCup_6 : decode cX3_readCup 6 = .ok (.invokevirtual 66, 3) := by decide +kernel
theorem dX3_readCup_9 : decode cX3_readCup 9 = .ok (.istore_n 2, 1) := by decide +kernel
theorem dX3_readCup_10 : decode cX3_readCup 10 = .ok (.aload_n 0, 1) := by decide +kernel
theorem dX3_readCup_11 : decode cX3_readCup 11 = .ok (.invokevirtual 69, 3) := by decide +kernel
theorem dX3_readCup_14 : decode cX3_readCup 14 = .ok (.istore_n 3, 1) := by decide +kernel
theorem dX3_readCup_15 : decode cX3_readCup 15 = .ok (.aload_n 0, 1) := by decide +kernel
theorem dX3_readCup_16 : decode cX3_readCup 16 = .ok (.bipush 115, 2) := by decide +kernel
theorem dX3_readCup_18 : decode cX3_readCup 18 = .ok (.invokevirtual 38, 3) := by decide +kernel
theorem dX3_readCup_21 : decode cX3_readCup 21 = .ok (.ifCond .eq 7, 3) := by decide +kernel
theorem dX3_readCup_24 : decode cX3_readCup 24 = .ok (.iconst 1, 1) := by decide +kernel
theorem dX3_readCup_25 : decode cX3_readCup 25 = .ok (.goto 4, 3) := by decide +kernel
theorem dX3_readCup_28 : decode cX3_readCup 28 = .ok (.iconst 0, 1) := by decide +kernel
theorem dX3_readCup_29 : decode cX3_readCup 29 = .ok (.istore 4, 2) := by decide +kernel
theorem dX3_readCup_31 : decode cX3_readCup 31 = .ok (.aload_n 0, 1) := by decide +kernel
theorem dX3_readCup_32 : decode cX3_readCup 32 = .ok (.bipush 58, 2) := by decide +kernel
theorem dX3_readCup_34 : decode cX3_readCup 34 = .ok (.invokevirtual 38, 3) := by decide +kernel
theorem dX3_readCup_37 : decode cX3_readCup 37 = .ok (.ifCond .eq 13, 3) := by decide +kernel
theorem dX3_readCup_40 : decode cX3_readCup 40 = .ok (.aload_n 0, 1) := by decide +kernel
theorem dX3_readCup_41 : decode cX3_readCup 41 = .ok (.iconst 0, 1) := by decide +kernel
theorem dX3_readCup_42 : decode cX3_readCup 42 = .ok (.bipush 99, 2) := by decide +kernel
theorem dX3_readCup_44 : decode cX3_readCup 44 = .ok (.invokevirtual 72, 3) := by decide +kernel
theorem dX3_readCup_47 : decode cX3_readCup 47 = .ok (.goto 4, 3) := by decide +kernel
theorem dX3_readCup_50 : decode cX3_readCup 50 = .ok (.iconst 1, 1) := by decide +kernel
theorem dX3_readCup_51 : decode cX3_readCup 51 = .ok (.istore 5, 2) := by decide +kernel
theorem dX3_readCup_53 : decode cX3_readCup 53 = .ok (.aload_n 0, 1) := by decide +kernel
theorem dX3_readCup_54 : decode cX3_readCup 54 = .ok (.getfield 20, 3) := by decide +kernel
theorem dX3_readCup_57 : decode cX3_readCup 57 = .ok (.iload_n 1, 1) := by decide +kernel
theorem dX3_readCup_58 : decode cX3_readCup 58 = .ok (.iload_n 2, 1) := by decide +kernel
theorem dX3_readCup_59 : decode cX3_readCup 59 = .ok (.iload_n 3, 1) := by decide +kernel
theorem dX3_readCup_60 : decode cX3_readCup 60 = .ok (.iload 5, 2) := by decide +kernel
theorem dX3_readCup_62 : decode cX3_readCup 62 = .ok (.iload 4, 2) := by decide +kernel
theorem dX3_readCup_64 : decode cX3_readCup 64 = .ok (.invokestatic 76, 3) := by decide +kernel
theorem dX3_readCup_67 : decode cX3_readCup 67 = .ok (.pop, 1) := by decide +kernel
theorem dX3_readCup_68 : decode cX3_readCup 68 = .ok (.return_, 1) := by decide +kernel
theorem dX3_readPart_0 : decode cX3_readPart 0 = .ok (.aload_n 0, 1) := by decide +kernel
theorem dX3_readPart_1 : decode cX3_readPart 1 = .ok (.iconst 1, 1) := by decide +kernel
theorem dX3_readPart_2 : decode cX3_readPart 2 = .ok (.bipush 20, 2) := by decide +kernel
theorem dX3_readPart_4 : decode cX3_readPart 4 = .ok (.invokevirtual 72, 3) := by decide +kernel
theorem dX3_readPart_7 : decode cX3_readPart 7 = .ok (.istore_n 1, 1) := by decide +kernel
theorem dX3_readPart_8 : decode cX3_readPart 8 = .ok (.aload_n 0, 1) := by decide +kernel
theorem dX3_readPart_9 : decode cX3_readPart 9 = .ok (.invokevirtual 66, 3) := by decide +kernel
theorem dX3_readPart_12 : decode cX3_readPart 12 = .ok (.istore_n 2, 1) := by decide +kernel
theorem dX3_readPart_13 : decode cX3_readPart 13 = .ok (.aload_n 0, 1) := by decide +kernel
theorem dX3_readPart_14 : decode cX3_readPart 14 = .ok (.invokevirtual 66, 3) := by decide +kernel
theorem dX3_readPart_17 : decode cX3_readPart 17 = .ok (.istore_n 3, 1) := by decide +kernel
theorem dX3_readPart_18 : decode cX3_readPart 18 = .ok (.aload_n 0, 1) := by decide +kernel
theorem dX3_readPart_19 : decode cX3_readPart 19 = .ok (.getfield 24, 3) := by decide +kernel
theorem dX3_readPart_22 : decode cX3_readPart 22 = .ok (.iload_n 1, 1) := by decide +kernel
theorem dX3_readPart_23 : decode cX3_readPart 23 = .ok (.iload_n 2, 1) := by decide +kernel
theorem dX3_readPart_24 : decode cX3_readPart 24 = .ok (.iload_n 3, 1) := by decide +kernel
theorem dX3_readPart_25 : decode cX3_readPart 25 = .ok (.invokestatic 80, 3) := by decide +kernel
theorem dX3_readPart_28 : decode cX3_readPart 28 = .ok (.pop, 1) := by decide +kernel
theorem dX3_readPart_29 : decode cX3_readPart 29 = .ok (.return_, 1) := by decide +kernel
theorem dX3_next_0 : decode cX3_next 0 = .ok (.aload_n 0, 1) := by decide +kernel
theorem dX3_next_1 : decode cX3_next 1 = .ok (.getfield 53, 3) := by decide +kernel
theorem dX3_next_4 : decode cX3_next 4 = .ok (.aload_n 0, 1) := by decide +kernel
theorem dX3_next_5 : decode cX3_next 5 = .ok (.getfield 27, 3) := by decide +kernel
theorem dX3_next_8 : decode cX3_next 8 = .ok (.if_icmp .ge 30, 3) := by decide +kernel
theorem dX3_next_11 : decode cX3_next 11 = .ok (.aload_n 0, 1) := by decide +kernel
theorem dX3_next_12 : decode cX3_next 12 = .ok (.getfield 9, 3) := by decide +kernel
theorem dX3_next_15 : decode cX3_next 15 = .ok (.aload_n 0, 1) := by decide +kernel
theorem dX3_next_16 : decode cX3_next 16 = .ok (.getfield 53, 3) := by decide +kernel
theorem dX3_next_19 : decode cX3_next 19 = .ok (.iaload, 1) := by decide +kernel
theorem dX3_next_20 : decode cX3_next 20 = .ok (.bipush 32, 2) := by decide +kernel
theorem dX3_next_22 : decode cX3_next 22 = .ok (.if_icmp .ne 16, 3) := by decide +kernel
theorem dX3_next_25 : decode cX3_next 25 = .ok (.aload_n 0, 1) := by decide +kernel
theorem dX3_next_26 : decode cX3_next 26 = .ok (.dup, 1) := by decide +kernel
theorem dX3_next_27 : decode cX3_next 27 = .ok (.getfield 53, 3) := by decide +kernel
theorem dX3_next_30 : decode cX3_next 30 = .ok (.iconst 1, 1) := by decide +kernel
theorem dX3_next_31 : decode cX3_next 31 = .ok (.iadd, 1) := by decide +kernel
theorem dX3_next_32 : decode cX3_next 32 = .ok (.putfield 53, 3) := by decide +kernel
theorem dX3_next_35 : decode cX3_next 35 = .ok (.goto (-35), 3) := by decide +kernel
theorem dX3_next_38 : decode cX3_next 38 = .ok (.aload_n 0, 1) := by decide +kernel
theorem dX3_next_39 : decode cX3_next 39 = .ok (.getfield 53, 3) := by decide +kernel
theorem dX3_next_42 : decode cX3_next 42 = .ok (.aload_n 0, 1) := by decide +kernel
theorem dX3_next_43 : decode cX3_next 43 = .ok (.getfield 27, 3) := by decide +kernel
theorem dX3_next_46 : decode cX3_next 46 = .ok (.if_icmp .ge 15, 3) := by decide +kernel
theorem dX3_next_49 : decode cX3_next 49 = .ok (.aload_n 0, 1) := by decide +kernel
theorem dX3_next_50 : decode cX3_next 50 = .ok (.getfield 9, 3) := by decide +kernel
theorem dX3_next_53 : decode cX3_next 53 = .ok (.aload_n 0, 1) := by decide +kernel
theorem dX3_next_54 : decode cX3_next 54 = .ok (.getfield 53, 3) := by decide +kernel
theorem dX3_next_57 : decode cX3_next 57 = .ok (.iaload, 1) := by decide +kernel
theorem dX3_next_58 : decode cX3_next 58 = .ok (.goto 4, 3) := by decide +kernel
theorem dX3_next_61 : decode cX3_next 61 = .ok (.iconst (-1), 1) := by decide +kernel
theorem dX3_next_62 : decode cX3_next 62 = .ok (.ireturn, 1) := by decide +kernel
theorem dX3_faultAt_0 : decode cX3_faultAt 0 = .ok (.aload_n 0, 1) := by decide +kernel
theorem dX3_faultAt_1 : decode cX3_faultAt 1 = .ok (.getfield 56, 3) := by decide +kernel
theorem dX3_faultAt_4 : decode cX3_faultAt 4 = .ok (.iconst (-1), 1) := by decide +kernel
theorem dX3_faultAt_5 : decode cX3_faultAt 5 = .ok (.if_icmp .ne 8, 3) := by decide +kernel
theorem dX3_faultAt_8 : decode cX3_faultAt 8 = .ok (.aload_n 0, 1) := by decide +kernel
theorem dX3_faultAt_9 : decode cX3_faultAt 9 = .ok (.iload_n 1, 1) := by decide +kernel
theorem dX3_faultAt_10 : decode cX3_faultAt 10 = .ok (.putfield 56, 3) := by decide +kernel
theorem dX3_faultAt_13 : decode cX3_faultAt 13 = .ok (.return_, 1) := by decide +kernel
theorem dX3_takes_0 : decode cX3_takes 0 = .ok (.aload_n 0, 1) := by decide +kernel
theorem dX3_takes_1 : decode cX3_takes 1 = .ok (.getfield 56, 3) := by decide +kernel
theorem dX3_takes_4 : decode cX3_takes 4 = .ok (.iconst (-1), 1) := by decide +kernel
theorem dX3_takes_5 : decode cX3_takes 5 = .ok (.if_icmp .ne 11, 3) := by decide +kernel
theorem dX3_takes_8 : decode cX3_takes 8 = .ok (.aload_n 0, 1) := by decide +kernel
theorem dX3_takes_9 : decode cX3_takes 9 = .ok (.invokevirtual 59, 3) := by decide +kernel
theorem dX3_takes_12 : decode cX3_takes 12 = .ok (.iload_n 1, 1) := by decide +kernel
theorem dX3_takes_13 : decode cX3_takes 13 = .ok (.if_icmp .eq 5, 3) := by decide +kernel
theorem dX3_takes_16 : decode cX3_takes 16 = .ok (.iconst 0, 1) := by decide +kernel
theorem dX3_takes_17 : decode cX3_takes 17 = .ok (.ireturn, 1) := by decide +kernel
theorem dX3_takes_18 : decode cX3_takes 18 = .ok (.aload_n 0, 1) := by decide +kernel
theorem dX3_takes_19 : decode cX3_takes 19 = .ok (.dup, 1) := by decide +kernel
theorem dX3_takes_20 : decode cX3_takes 20 = .ok (.getfield 53, 3) := by decide +kernel
theorem dX3_takes_23 : decode cX3_takes 23 = .ok (.iconst 1, 1) := by decide +kernel
theorem dX3_takes_24 : decode cX3_takes 24 = .ok (.iadd, 1) := by decide +kernel
theorem dX3_takes_25 : decode cX3_takes 25 = .ok (.putfield 53, 3) := by decide +kernel
theorem dX3_takes_28 : decode cX3_takes 28 = .ok (.iconst 1, 1) := by decide +kernel
theorem dX3_takes_29 : decode cX3_takes 29 = .ok (.ireturn, 1) := by decide +kernel
theorem dX3_signedDigit_0 : decode cX3_signedDigit 0 = .ok (.aload_n 0, 1) := by decide +kernel
theorem dX3_signedDigit_1 : decode cX3_signedDigit 1 = .ok (.bipush 45, 2) := by decide +kernel
theorem dX3_signedDigit_3 : decode cX3_signedDigit 3 = .ok (.invokevirtual 38, 3) := by decide +kernel
theorem dX3_signedDigit_6 : decode cX3_signedDigit 6 = .ok (.ifCond .eq 9, 3) := by decide +kernel
theorem dX3_signedDigit_9 : decode cX3_signedDigit 9 = .ok (.aload_n 0, 1) := by decide +kernel
theorem dX3_signedDigit_10 : decode cX3_signedDigit 10 = .ok (.invokevirtual 69, 3) := by decide +kernel
theorem dX3_signedDigit_13 : decode cX3_signedDigit 13 = .ok (.ineg, 1) := by decide +kernel
theorem dX3_signedDigit_14 : decode cX3_signedDigit 14 = .ok (.ireturn, 1) := by decide +kernel
theorem dX3_signedDigit_15 : decode cX3_signedDigit 15 = .ok (.aload_n 0, 1) := by decide +kernel
theorem dX3_signedDigit_16 : decode cX3_signedDigit 16 = .ok (.bipush 43, 2) := by decide +kernel
theorem dX3_signedDigit_18 : decode cX3_signedDigit 18 = .ok (.invokevirtual 38, 3) := by decide +kernel
theorem dX3_signedDigit_21 : decode cX3_signedDigit 21 = .ok (.ifCond .ne 11, 3) := by decide +kernel
theorem dX3_signedDigit_24 : decode cX3_signedDigit 24 = .ok (.aload_n 0, 1) := by decide +kernel
theorem dX3_signedDigit_25 : decode cX3_signedDigit 25 = .ok (.aload_n 0, 1) := by decide +kernel
theorem dX3_signedDigit_26 : decode cX3_signedDigit 26 = .ok (.getfield 53, 3) := by decide +kernel
theorem dX3_signedDigit_29 : decode cX3_signedDigit 29 = .ok (.invokevirtual 62, 3) := by decide +kernel
theorem dX3_signedDigit_32 : decode cX3_signedDigit 32 = .ok (.aload_n 0, 1) := by decide +kernel
theorem dX3_signedDigit_33 : decode cX3_signedDigit 33 = .ok (.invokevirtual 69, 3) := by decide +kernel
theorem dX3_signedDigit_36 : decode cX3_signedDigit 36 = .ok (.ireturn, 1) := by decide +kernel
theorem dX3_digit_0 : decode cX3_digit 0 = .ok (.aload_n 0, 1) := by decide +kernel
theorem dX3_digit_1 : decode cX3_digit 1 = .ok (.invokevirtual 59, 3) := by decide +kernel
theorem dX3_digit_4 : decode cX3_digit 4 = .ok (.istore_n 1, 1) := by decide +kernel
theorem dX3_digit_5 : decode cX3_digit 5 = .ok (.aload_n 0, 1) := by decide +kernel
theorem dX3_digit_6 : decode cX3_digit 6 = .ok (.getfield 56, 3) := by decide +kernel
theorem dX3_digit_9 : decode cX3_digit 9 = .ok (.iconst (-1), 1) := by decide +kernel
theorem dX3_digit_10 : decode cX3_digit 10 = .ok (.if_icmp .ne 14, 3) := by decide +kernel
theorem dX3_digit_13 : decode cX3_digit 13 = .ok (.iload_n 1, 1) := by decide +kernel
theorem dX3_digit_14 : decode cX3_digit 14 = .ok (.bipush 48, 2) := by decide +kernel
theorem dX3_digit_16 : decode cX3_digit 16 = .ok (.bipush 57, 2) := by decide +kernel
theorem dX3_digit_18 : decode cX3_digit 18 = .ok (.invokestatic 84, 3) := by decide +kernel
theorem dX3_digit_21 : decode cX3_digit 21 = .ok (.ifCond .ne 13, 3) := by decide +kernel
theorem dX3_digit_24 : decode cX3_digit 24 = .ok (.aload_n 0, 1) := by decide +kernel
theorem dX3_digit_25 : decode cX3_digit 25 = .ok (.aload_n 0, 1) := by decide +kernel
theorem dX3_digit_26 : decode cX3_digit 26 = .ok (.getfield 53, 3) := by decide +kernel
theorem dX3_digit_29 : decode cX3_digit 29 = .ok (.invokevirtual 62, 3) := by decide +kernel
theorem dX3_digit_32 : decode cX3_digit 32 = .ok (.iconst 0, 1) := by decide +kernel
theorem dX3_digit_33 : decode cX3_digit 33 = .ok (.ireturn, 1) := by decide +kernel
theorem dX3_digit_34 : decode cX3_digit 34 = .ok (.aload_n 0, 1) := by decide +kernel
theorem dX3_digit_35 : decode cX3_digit 35 = .ok (.dup, 1) := by decide +kernel
theorem dX3_digit_36 : decode cX3_digit 36 = .ok (.getfield 53, 3) := by decide +kernel
theorem dX3_digit_39 : decode cX3_digit 39 = .ok (.iconst 1, 1) := by decide +kernel
theorem dX3_digit_40 : decode cX3_digit 40 = .ok (.iadd, 1) := by decide +kernel
theorem dX3_digit_41 : decode cX3_digit 41 = .ok (.putfield 53, 3) := by decide +kernel
theorem dX3_digit_44 : decode cX3_digit 44 = .ok (.iload_n 1, 1) := by decide +kernel
theorem dX3_digit_45 : decode cX3_digit 45 = .ok (.bipush 48, 2) := by decide +kernel
theorem dX3_digit_47 : decode cX3_digit 47 = .ok (.isub, 1) := by decide +kernel
theorem dX3_digit_48 : decode cX3_digit 48 = .ok (.ireturn, 1) := by decide +kernel
theorem dX3_number_0 : decode cX3_number 0 = .ok (.aload_n 0, 1) := by decide +kernel
theorem dX3_number_1 : decode cX3_number 1 = .ok (.invokevirtual 59, 3) := by decide +kernel
theorem dX3_number_4 : decode cX3_number 4 = .ok (.pop, 1) := by decide +kernel
theorem dX3_number_5 : decode cX3_number 5 = .ok (.aload_n 0, 1) := by decide +kernel
theorem dX3_number_6 : decode cX3_number 6 = .ok (.getfield 53, 3) := by decide +kernel
theorem dX3_number_9 : decode cX3_number 9 = .ok (.istore_n 3, 1) := by decide +kernel
theorem dX3_number_10 : decode cX3_number 10 = .ok (.aload_n 0, 1) := by decide +kernel
theorem dX3_number_11 : decode cX3_number 11 = .ok (.invokevirtual 69, 3) := by decide +kernel
theorem dX3_number_14 : decode cX3_number 14 = .ok (.istore 4, 2) := by decide +kernel
theorem dX3_number_16 : decode cX3_number 16 = .ok (.aload_n 0, 1) := by decide +kernel
theorem dX3_number_17 : decode cX3_number 17 = .ok (.getfield 56, 3) := by decide +kernel
theorem dX3_number_20 : decode cX3_number 20 = .ok (.iconst (-1), 1) := by decide +kernel
theorem dX3_number_21 : decode cX3_number 21 = .ok (.if_icmp .ne 72, 3) := by decide +kernel
theorem dX3_number_24 : decode cX3_number 24 = .ok (.aload_n 0, 1) := by decide +kernel
theorem dX3_number_25 : decode cX3_number 25 = .ok (.getfield 53, 3) := by decide +kernel
theorem dX3_number_28 : decode cX3_number 28 = .ok (.aload_n 0, 1) := by decide +kernel
theorem dX3_number_29 : decode cX3_number 29 = .ok (.getfield 27, 3) := by decide +kernel
theorem dX3_number_32 : decode cX3_number 32 = .ok (.if_icmp .ge 61, 3) := by decide +kernel
theorem dX3_number_35 : decode cX3_number 35 = .ok (.aload_n 0, 1) := by decide +kernel
theorem dX3_number_36 : decode cX3_number 36 = .ok (.getfield 9, 3) := by decide +kernel
theorem dX3_number_39 : decode cX3_number 39 = .ok (.aload_n 0, 1) := by decide +kernel
theorem dX3_number_40 : decode cX3_number 40 = .ok (.getfield 53, 3) := by decide +kernel
theorem dX3_number_43 : decode cX3_number 43 = .ok (.iaload, 1) := by decide +kernel
theorem dX3_number_44 : decode cX3_number 44 = .ok (.bipush 48, 2) := by decide +kernel
theorem dX3_number_46 : decode cX3_number 46 = .ok (.bipush 57, 2) := by decide +kernel
theorem dX3_number_48 : decode cX3_number 48 = .ok (.invokestatic 84, 3) := by decide +kernel
theorem dX3_number_51 : decode cX3_number 51 = .ok (.ifCond .eq 42, 3) := by decide +kernel
theorem dX3_number_54 : decode cX3_number 54 = .ok (.iload 4, 2) := by decide +kernel
theorem dX3_number_56 : decode cX3_number 56 = .ok (.bipush 10, 2) := by decide +kernel
theorem dX3_number_58 : decode cX3_number 58 = .ok (.imul, 1) := by decide +kernel
theorem dX3_number_59 : decode cX3_number 59 = .ok (.aload_n 0, 1) := by decide +kernel
theorem dX3_number_60 : decode cX3_number 60 = .ok (.getfield 9, 3) := by decide +kernel
theorem dX3_number_63 : decode cX3_number 63 = .ok (.aload_n 0, 1) := by decide +kernel
theorem dX3_number_64 : decode cX3_number 64 = .ok (.getfield 53, 3) := by decide +kernel
theorem dX3_number_67 : decode cX3_number 67 = .ok (.iaload, 1) := by decide +kernel
theorem dX3_number_68 : decode cX3_number 68 = .ok (.iadd, 1) := by decide +kernel
theorem dX3_number_69 : decode cX3_number 69 = .ok (.bipush 48, 2) := by decide +kernel
theorem dX3_number_71 : decode cX3_number 71 = .ok (.isub, 1) := by decide +kernel
theorem dX3_number_72 : decode cX3_number 72 = .ok (.sipush 1000, 3) := by decide +kernel
theorem dX3_number_75 : decode cX3_number 75 = .ok (.invokestatic 88, 3) := by decide +kernel
theorem dX3_number_78 : decode cX3_number 78 = .ok (.istore 4, 2) := by decide +kernel
theorem dX3_number_80 : decode cX3_number 80 = .ok (.aload_n 0, 1) := by decide +kernel
theorem dX3_number_81 : decode cX3_number 81 = .ok (.dup, 1) := by decide +kernel
theorem dX3_number_82 : decode cX3_number 82 = .ok (.getfield 53, 3) := by decide +kernel
theorem dX3_number_85 : decode cX3_number 85 = .ok (.iconst 1, 1) := by decide +kernel
theorem dX3_number_86 : decode cX3_number 86 = .ok (.iadd, 1) := by decide +kernel
theorem dX3_number_87 : decode cX3_number 87 = .ok (.putfield 53, 3) := by decide +kernel
theorem dX3_number_90 : decode cX3_number 90 = .ok (.goto (-74), 3) := by decide +kernel
theorem dX3_number_93 : decode cX3_number 93 = .ok (.iload 4, 2) := by decide +kernel
theorem dX3_number_95 : decode cX3_number 95 = .ok (.iload_n 1, 1) := by decide +kernel
theorem dX3_number_96 : decode cX3_number 96 = .ok (.iload_n 2, 1) := by decide +kernel
theorem dX3_number_97 : decode cX3_number 97 = .ok (.invokestatic 84, 3) := by decide +kernel
theorem dX3_number_100 : decode cX3_number 100 = .ok (.ifCond .ne 8, 3) := by decide +kernel
theorem dX3_number_103 : decode cX3_number 103 = .ok (.aload_n 0, 1) := by decide +kernel
theorem dX3_number_104 : decode cX3_number 104 = .ok (.iload_n 3, 1) := by decide +kernel
theorem dX3_number_105 : decode cX3_number 105 = .ok (.invokevirtual 62, 3) := by decide +kernel
theorem dX3_number_108 : decode cX3_number 108 = .ok (.iload 4, 2) := by decide +kernel
theorem dX3_number_110 : decode cX3_number 110 = .ok (.ireturn, 1) := by decide +kernel
theorem dX4_init_0 : decode cX4_init 0 = .ok (.aload_n 0, 1) := by decide +kernel
theorem dX4_init_1 : decode cX4_init 1 = .ok (.invokespecial 3, 3) := by decide +kernel
theorem dX4_init_4 : decode cX4_init 4 = .ok (.aload_n 0, 1) := by decide +kernel
theorem dX4_init_5 : decode cX4_init 5 = .ok (.getstatic 9, 3) := by decide +kernel
theorem dX4_init_8 : decode cX4_init 8 = .ok (.invokevirtual 13, 3) := by decide +kernel
theorem dX4_init_11 : decode cX4_init 11 = .ok (.checkcast 14, 3) := by decide +kernel
theorem dX4_init_14 : decode cX4_init 14 = .ok (.putfield 18, 3) := by decide +kernel
theorem dX4_init_17 : decode cX4_init 17 = .ok (.aload_n 0, 1) := by decide +kernel
theorem dX4_init_18 : decode cX4_init 18 = .ok (.new 23, 3) := by decide +kernel
theorem dX4_init_21 : decode cX4_init 21 = .ok (.dup, 1) := by decide +kernel
theorem dX4_init_22 : decode cX4_init 22 = .ok (.iconst 4, 1) := by decide +kernel
theorem dX4_init_23 : decode cX4_init 23 = .ok (.iconst 5, 1) := by decide +kernel
theorem dX4_init_24 : decode cX4_init 24 = .ok (.invokespecial 25, 3) := by decide +kernel
theorem dX4_init_27 : decode cX4_init 27 = .ok (.putfield 28, 3) := by decide +kernel
theorem dX4_init_30 : decode cX4_init 30 = .ok (.aload_n 0, 1) := by decide +kernel
theorem dX4_init_31 : decode cX4_init 31 = .ok (.new 23, 3) := by decide +kernel
theorem dX4_init_34 : decode cX4_init 34 = .ok (.dup, 1) := by decide +kernel
theorem dX4_init_35 : decode cX4_init 35 = .ok (.bipush 6, 2) := by decide +kernel
theorem dX4_init_37 : decode cX4_init 37 = .ok (.iconst 3, 1) := by decide +kernel
theorem dX4_init_38 : decode cX4_init 38 = .ok (.invokespecial 25, 3) := by decide +kernel
theorem dX4_init_41 : decode cX4_init 41 = .ok (.putfield 32, 3) := by decide +kernel
theorem dX4_init_44 : decode cX4_init 44 = .ok (.aload_n 0, 1) := by decide +kernel
theorem dX4_init_45 : decode cX4_init 45 = .ok (.new 23, 3) := by decide +kernel
theorem dX4_init_48 : decode cX4_init 48 = .ok (.dup, 1) := by decide +kernel
theorem dX4_init_49 : decode cX4_init 49 = .ok (.bipush 8, 2) := by decide +kernel
theorem dX4_init_51 : decode cX4_init 51 = .ok (.iconst 4, 1) := by decide +kernel
theorem dX4_init_52 : decode cX4_init 52 = .ok (.invokespecial 25, 3) := by decide +kernel
theorem dX4_init_55 : decode cX4_init 55 = .ok (.putfield 35, 3) := by decide +kernel
theorem dX4_init_58 : decode cX4_init 58 = .ok (.return_, 1) := by decide +kernel
theorem dX4_hasNoPart_0 : decode cX4_hasNoPart 0 = .ok (.aload_n 0, 1) := by decide +kernel
theorem dX4_hasNoPart_1 : decode cX4_hasNoPart 1 = .ok (.getfield 32, 3) := by decide +kernel
theorem dX4_hasNoPart_4 : decode cX4_hasNoPart 4 = .ok (.getfield 38, 3) := by decide +kernel
theorem dX4_hasNoPart_7 : decode cX4_hasNoPart 7 = .ok (.ifCond .ne 7, 3) := by decide +kernel
theorem dX4_hasNoPart_10 : decode cX4_hasNoPart 10 = .ok (.iconst 1, 1) := by decide +kernel
theorem dX4_hasNoPart_11 : decode cX4_hasNoPart 11 = .ok (.goto 4, 3) := by decide +kernel
theorem dX4_hasNoPart_14 : decode cX4_hasNoPart 14 = .ok (.iconst 0, 1) := by decide +kernel
theorem dX4_hasNoPart_15 : decode cX4_hasNoPart 15 = .ok (.ireturn, 1) := by decide +kernel
theorem dX4_pullSteps_0 : decode cX4_pullSteps 0 = .ok (.iconst 0, 1) := by decide +kernel
theorem dX4_pullSteps_1 : decode cX4_pullSteps 1 = .ok (.istore_n 1, 1) := by decide +kernel
theorem dX4_pullSteps_2 : decode cX4_pullSteps 2 = .ok (.iconst 0, 1) := by decide +kernel
theorem dX4_pullSteps_3 : decode cX4_pullSteps 3 = .ok (.istore_n 2, 1) := by decide +kernel
theorem dX4_pullSteps_4 : decode cX4_pullSteps 4 = .ok (.iload_n 2, 1) := by decide +kernel
theorem dX4_pullSteps_5 : decode cX4_pullSteps 5 = .ok (.aload_n 0, 1) := by decide +kernel
theorem dX4_pullSteps_6 : decode cX4_pullSteps 6 = .ok (.getfield 32, 3) := by decide +kernel
theorem dX4_pullSteps_9 : decode cX4_pullSteps 9 = .ok (.getfield 38, 3) := by decide +kernel
theorem dX4_pullSteps_12 : decode cX4_pullSteps 12 = .ok (.if_icmp .ge 21, 3) := by decide +kernel
theorem dX4_pullSteps_15 : decode cX4_pullSteps 15 = .ok (.iload_n 1, 1) := by decide +kernel
theorem dX4_pullSteps_16 : decode cX4_pullSteps 16 = .ok (.aload_n 0, 1) := by decide +kernel
theorem dX4_pullSteps_17 : decode cX4_pullSteps 17 = .ok (.getfield 32, 3) := by decide +kernel
theorem dX4_pullSteps_20 : decode cX4_pullSteps 20 = .ok (.iload_n 2, 1) := by decide +kernel
theorem dX4_pullSteps_21 : decode cX4_pullSteps 21 = .ok (.iconst 0, 1) := by decide +kernel
theorem dX4_pullSteps_22 : decode cX4_pullSteps 22 = .ok (.invokevirtual 42, 3) := by decide +kernel
theorem dX4_pullSteps_25 : decode cX4_pullSteps 25 = .ok (.iadd, 1) := by decide +kernel
theorem dX4_pullSteps_26 : decode cX4_pullSteps 26 = .ok (.istore_n 1, 1) := by decide +kernel
theorem dX4_pullSteps_27 : decode cX4_pullSteps 27 = .ok (.iinc 2 1, 3) := by decide +kernel
theorem dX4_pullSteps_30 : decode cX4_pullSteps 30 = .ok (.goto (-26), 3) := by decide +kernel
theorem dX4_pullSteps_33 : decode cX4_pullSteps 33 = .ok (.iload_n 1, 1) := by decide +kernel
theorem dX4_pullSteps_34 : decode cX4_pullSteps 34 = .ok (.ireturn, 1) := by decide +kernel
theorem dX4_takeAll_0 : decode cX4_takeAll 0 = .ok (.iconst 0, 1) := by decide +kernel
theorem dX4_takeAll_1 : decode cX4_takeAll 1 = .ok (.istore_n 2, 1) := by decide +kernel
theorem dX4_takeAll_2 : decode cX4_takeAll 2 = .ok (.iload_n 2, 1) := by decide +kernel
theorem dX4_takeAll_3 : decode cX4_takeAll 3 = .ok (.iconst 2, 1) := by decide +kernel
theorem dX4_takeAll_4 : decode cX4_takeAll 4 = .ok (.if_icmp .gt 21, 3) := by decide +kernel
theorem dX4_takeAll_7 : decode cX4_takeAll 7 = .ok (.aload_n 0, 1) := by decide +kernel
theorem dX4_takeAll_8 : decode cX4_takeAll 8 = .ok (.getfield 18, 3) := by decide +kernel
theorem dX4_takeAll_11 : decode cX4_takeAll 11 = .ok (.iload_n 2, 1) := by decide +kernel
theorem dX4_takeAll_12 : decode cX4_takeAll 12 = .ok (.aload_n 1, 1) := by decide +kernel
theorem dX4_takeAll_13 : decode cX4_takeAll 13 = .ok (.getfield 18, 3) := by decide +kernel
theorem dX4_takeAll_16 : decode cX4_takeAll 16 = .ok (.iload_n 2, 1) := by decide +kernel
theorem dX4_takeAll_17 : decode cX4_takeAll 17 = .ok (.iaload, 1) := by decide +kernel
theorem dX4_takeAll_18 : decode cX4_takeAll 18 = .ok (.iastore, 1) := by decide +kernel
theorem dX4_takeAll_19 : decode cX4_takeAll 19 = .ok (.iinc 2 1, 3) := by decide +kernel
theorem dX4_takeAll_22 : decode cX4_takeAll 22 = .ok (.goto (-20), 3) := by decide +kernel
theorem dX4_takeAll_25 : decode cX4_takeAll 25 = .ok (.aload_n 0, 1) := by decide +kernel
theorem dX4_takeAll_26 : decode cX4_takeAll 26 = .ok (.getfield 28, 3) := by decide +kernel
theorem dX4_takeAll_29 : decode cX4_takeAll 29 = .ok (.aload_n 1, 1) := by decide +kernel
theorem dX4_takeAll_30 : decode cX4_takeAll 30 = .ok (.getfield 28, 3) := by decide +kernel
theorem dX4_takeAll_33 : decode cX4_takeAll 33 = .ok (.invokevirtual 46, 3) := by decide +kernel
theorem dX4_takeAll_36 : decode cX4_takeAll 36 = .ok (.aload_n 0, 1) := by decide +kernel
theorem dX4_takeAll_37 : decode cX4_takeAll 37 = .ok (.getfield 32, 3) := by decide +kernel
theorem dX4_takeAll_40 : decode cX4_takeAll 40 = .ok (.aload_n 1, 1) := by decide +kernel
theorem dX4_takeAll_41 : decode cX4_takeAll 41 = .ok (.getfield 32, 3) := by decide +kernel
theorem dX4_takeAll_44 : decode cX4_takeAll 44 = .ok (.invokevirtual 46, 3) := by decide +kernel
theorem dX4_takeAll_47 : decode cX4_takeAll 47 = .ok (.aload_n 0, 1) := by decide +kernel
theorem dX4_takeAll_48 : decode cX4_takeAll 48 = .ok (.getfield 35, 3) := by decide +kernel
theorem dX4_takeAll_51 : decode cX4_takeAll 51 = .ok (.aload_n 1, 1) := by decide +kernel
theorem dX4_takeAll_52 : decode cX4_takeAll 52 = .ok (.getfield 35, 3) := by decide +kernel
theorem dX4_takeAll_55 : decode cX4_takeAll 55 = .ok (.invokevirtual 46, 3) := by decide +kernel
theorem dX4_takeAll_58 : decode cX4_takeAll 58 = .ok (.return_, 1) := by decide +kernel
theorem dX5_init_0 : decode cX5_init 0 = .ok (.aload_n 0, 1) := by decide +kernel
theorem dX5_init_1 : decode cX5_init 1 = .ok (.invokespecial 3, 3) := by decide +kernel
theorem dX5_init_4 : decode cX5_init 4 = .ok (.aload_n 0, 1) := by decide +kernel
theorem dX5_init_5 : decode cX5_init 5 = .ok (.iconst 4, 1) := by decide +kernel
theorem dX5_init_6 : decode cX5_init 6 = .ok (.newarray .int, 2) := by decide +kernel
theorem dX5_init_8 : decode cX5_init 8 = .ok (.putfield 9, 3) := by decide +kernel
theorem dX5_init_11 : decode cX5_init 11 = .ok (.aload_n 0, 1) := by decide +kernel
theorem dX5_init_12 : decode cX5_init 12 = .ok (.iconst 4, 1) := by decide +kernel
theorem dX5_init_13 : decode cX5_init 13 = .ok (.newarray .int, 2) := by decide +kernel
theorem dX5_init_15 : decode cX5_init 15 = .ok (.putfield 15, 3) := by decide +kernel
theorem dX5_init_18 : decode cX5_init 18 = .ok (.aload_n 0, 1) := by decide +kernel
theorem dX5_init_19 : decode cX5_init 19 = .ok (.iconst 4, 1) := by decide +kernel
theorem dX5_init_20 : decode cX5_init 20 = .ok (.bipush 24, 2) := by decide +kernel
theorem dX5_init_22 : decode cX5_init 22 = .ok (.multianewarray 18 2, 4) := by decide +kernel
theorem dX5_init_26 : decode cX5_init 26 = .ok (.putfield 20, 3) := by decide +kernel
theorem dX5_init_29 : decode cX5_init 29 = .ok (.iconst 0, 1) := by decide +kernel
theorem dX5_init_30 : decode cX5_init 30 = .ok (.istore_n 1, 1) := by decide +kernel
theorem dX5_init_31 : decode cX5_init 31 = .ok (.iload_n 1, 1) := by decide +kernel
theorem dX5_init_32 : decode cX5_init 32 = .ok (.iconst 4, 1) := by decide +kernel
theorem dX5_init_33 : decode cX5_init 33 = .ok (.if_icmp .ge 16, 3) := by decide +kernel
theorem dX5_init_36 : decode cX5_init 36 = .ok (.aload_n 0, 1) := by decide +kernel
theorem dX5_init_37 : decode cX5_init 37 = .ok (.getfield 15, 3) := by decide +kernel
theorem dX5_init_40 : decode cX5_init 40 = .ok (.iload_n 1, 1) := by decide +kernel
theorem dX5_init_41 : decode cX5_init 41 = .ok (.iconst (-1), 1) := by decide +kernel
theorem dX5_init_42 : decode cX5_init 42 = .ok (.iastore, 1) := by decide +kernel
theorem dX5_init_43 : decode cX5_init 43 = .ok (.iinc 1 1, 3) := by decide +kernel
theorem dX5_init_46 : decode cX5_init 46 = .ok (.goto (-15), 3) := by decide +kernel
theorem dX5_init_49 : decode cX5_init 49 = .ok (.return_, 1) := by decide +kernel
theorem dX5_isNothing_0 : decode cX5_isNothing 0 = .ok (.aload_n 0, 1) := by decide +kernel
theorem dX5_isNothing_1 : decode cX5_isNothing 1 = .ok (.getfield 15, 3) := by decide +kernel
theorem dX5_isNothing_4 : decode cX5_isNothing 4 = .ok (.iload_n 1, 1) := by decide +kernel
theorem dX5_isNothing_5 : decode cX5_isNothing 5 = .ok (.iaload, 1) := by decide +kernel
theorem dX5_isNothing_6 : decode cX5_isNothing 6 = .ok (.iconst (-1), 1) := by decide +kernel
theorem dX5_isNothing_7 : decode cX5_isNothing 7 = .ok (.if_icmp .ne 7, 3) := by decide +kernel
theorem dX5_isNothing_10 : decode cX5_isNothing 10 = .ok (.iconst 1, 1) := by decide +kernel
theorem dX5_isNothing_11 : decode cX5_isNothing 11 = .ok (.goto 4, 3) := by decide +kernel
theorem dX5_isNothing_14 : decode cX5_isNothing 14 = .ok (.iconst 0, 1) := by decide +kernel
theorem dX5_isNothing_15 : decode cX5_isNothing 15 = .ok (.ireturn, 1) := by decide +kernel
theorem dX5_makeRow_0 : decode cX5_makeRow 0 = .ok (.aload_n 0, 1) := by decide +kernel
theorem dX5_makeRow_1 : decode cX5_makeRow 1 = .ok (.getfield 9, 3) := by decide +kernel
theorem dX5_makeRow_4 : decode cX5_makeRow 4 = .ok (.iload_n 1, 1) := by decide +kernel
theorem dX5_makeRow_5 : decode cX5_makeRow 5 = .ok (.iload_n 2, 1) := by decide +kernel
theorem dX5_makeRow_6 : decode cX5_makeRow 6 = .ok (.iastore, 1) := by decide +kernel
theorem dX5_makeRow_7 : decode cX5_makeRow 7 = .ok (.aload_n 0, 1) := by decide +kernel
theorem dX5_makeRow_8 : decode cX5_makeRow 8 = .ok (.getfield 15, 3) := by decide +kernel
theorem dX5_makeRow_11 : decode cX5_makeRow 11 = .ok (.iload_n 1, 1) := by decide +kernel
theorem dX5_makeRow_12 : decode cX5_makeRow 12 = .ok (.iload_n 3, 1) := by decide +kernel
theorem dX5_makeRow_13 : decode cX5_makeRow 13 = .ok (.iastore, 1) := by decide +kernel
theorem dX5_makeRow_14 : decode cX5_makeRow 14 = .ok (.aload_n 0, 1) := by decide +kernel
theorem dX5_makeRow_15 : decode cX5_makeRow 15 = .ok (.getfield 20, 3) := by decide +kernel
theorem dX5_makeRow_18 : decode cX5_makeRow 18 = .ok (.iload_n 1, 1) := by decide +kernel
theorem dX5_makeRow_19 : decode cX5_makeRow 19 = .ok (.aaload, 1) := by decide +kernel
theorem dX5_makeRow_20 : decode cX5_makeRow 20 = .ok (.iconst 0, 1) := by decide +kernel
theorem dX5_makeRow_21 : decode cX5_makeRow 21 = .ok (.invokestatic 23, 3) := by decide +kernel
theorem dX5_makeRow_24 : decode cX5_makeRow 24 = .ok (.return_, 1) := by decide +kernel
theorem dX5_letGo_0 : decode cX5_letGo 0 = .ok (.aload_n 0, 1) := by decide +kernel
theorem dX5_letGo_1 : decode cX5_letGo 1 = .ok (.getfield 15, 3) := by decide +kernel
theorem dX5_letGo_4 : decode cX5_letGo 4 = .ok (.iload_n 1, 1) := by decide +kernel
theorem dX5_letGo_5 : decode cX5_letGo 5 = .ok (.iaload, 1) := by decide +kernel
theorem dX5_letGo_6 : decode cX5_letGo 6 = .ok (.istore_n 2, 1) := by decide +kernel
theorem dX5_letGo_7 : decode cX5_letGo 7 = .ok (.aload_n 0, 1) := by decide +kernel
theorem dX5_letGo_8 : decode cX5_letGo 8 = .ok (.getfield 15, 3) := by decide +kernel
theorem dX5_letGo_11 : decode cX5_letGo 11 = .ok (.iload_n 1, 1) := by decide +kernel
theorem dX5_letGo_12 : decode cX5_letGo 12 = .ok (.iconst (-1), 1) := by decide +kernel
theorem dX5_letGo_13 : decode cX5_letGo 13 = .ok (.iastore, 1) := by decide +kernel
theorem dX5_letGo_14 : decode cX5_letGo 14 = .ok (.iload_n 2, 1) := by decide +kernel
theorem dX5_letGo_15 : decode cX5_letGo 15 = .ok (.ireturn, 1) := by decide +kernel
theorem dX5_refusalOf_0 : decode cX5_refusalOf 0 = .ok (.aload_n 0, 1) := by decide +kernel
theorem dX5_refusalOf_1 : decode cX5_refusalOf 1 = .ok (.iload_n 1, 1) := by decide +kernel
theorem dX5_refusalOf_2 : decode cX5_refusalOf 2 = .ok (.invokevirtual 29, 3) := by decide +kernel
theorem dX5_refusalOf_5 : decode cX5_refusalOf 5 = .ok (.ifCond .eq 6, 3) := by decide +kernel
theorem dX5_refusalOf_8 : decode cX5_refusalOf 8 = .ok (.bipush (-11), 2) := by decide +kernel
theorem dX5_refusalOf_10 : decode cX5_refusalOf 10 = .ok (.ireturn, 1) := by decide +kernel
theorem dX5_refusalOf_11 : decode cX5_refusalOf 11 = .ok (.aload_n 0, 1) := by decide +kernel
theorem dX5_refusalOf_12 : decode cX5_refusalOf 12 = .ok (.getfield 9, 3) := by decide +kernel
theorem dX5_refusalOf_15 : decode cX5_refusalOf 15 = .ok (.iload_n 1, 1) := by decide +kernel
theorem dX5_refusalOf_16 : decode cX5_refusalOf 16 = .ok (.iaload, 1) := by decide +kernel
theorem dX5_refusalOf_17 : decode cX5_refusalOf 17 = .ok (.iload_n 2, 1) := by decide +kernel
theorem dX5_refusalOf_18 : decode cX5_refusalOf 18 = .ok (.if_icmp .eq 6, 3) := by decide +kernel
theorem dX5_refusalOf_21 : decode cX5_refusalOf 21 = .ok (.bipush (-12), 2) := by decide +kernel
theorem dX5_refusalOf_23 : decode cX5_refusalOf 23 = .ok (.ireturn, 1) := by decide +kernel
theorem dX5_refusalOf_24 : decode cX5_refusalOf 24 = .ok (.aload_n 0, 1) := by decide +kernel
theorem dX5_refusalOf_25 : decode cX5_refusalOf 25 = .ok (.iload_n 1, 1) := by decide +kernel
theorem dX5_refusalOf_26 : decode cX5_refusalOf 26 = .ok (.iload_n 3, 1) := by decide +kernel
theorem dX5_refusalOf_27 : decode cX5_refusalOf 27 = .ok (.iload 4, 2) := by decide +kernel
theorem dX5_refusalOf_29 : decode cX5_refusalOf 29 = .ok (.invokevirtual 33, 3) := by decide +kernel
theorem dX5_refusalOf_32 : decode cX5_refusalOf 32 = .ok (.ifCond .eq 7, 3) := by decide +kernel
theorem dX5_refusalOf_35 : decode cX5_refusalOf 35 = .ok (.iconst 0, 1) := by decide +kernel
theorem dX5_refusalOf_36 : decode cX5_refusalOf 36 = .ok (.goto 5, 3) := by decide +kernel
theorem dX5_refusalOf_39 : decode cX5_refusalOf 39 = .ok (.bipush (-13), 2) := by decide +kernel
theorem dX5_refusalOf_41 : decode cX5_refusalOf 41 = .ok (.ireturn, 1) := by decide +kernel
theorem dX5_fits_0 : decode cX5_fits 0 = .ok (.iload_n 2, 1) := by decide +kernel
theorem dX5_fits_1 : decode cX5_fits 1 = .ok (.ifCond .lt 33, 3) := by decide +kernel
theorem dX5_fits_4 : decode cX5_fits 4 = .ok (.iload_n 3, 1) := by decide +kernel
theorem dX5_fits_5 : decode cX5_fits 5 = .ok (.ifCond .lt 29, 3) := by decide +kernel
theorem dX5_fits_8 : decode cX5_fits 8 = .ok (.iload_n 2, 1) := by decide +kernel
theorem dX5_fits_9 : decode cX5_fits 9 = .ok (.aload_n 0, 1) := by decide +kernel
theorem dX5_fits_10 : decode cX5_fits 10 = .ok (.getfield 15, 3) := by decide +kernel
theorem dX5_fits_13 : decode cX5_fits 13 = .ok (.iload_n 1, 1) := by decide +kernel
theorem dX5_fits_14 : decode cX5_fits 14 = .ok (.iaload, 1) := by decide +kernel
theorem dX5_fits_15 : decode cX5_fits 15 = .ok (.if_icmp .gt 19, 3) := by decide +kernel
theorem dX5_fits_18 : decode cX5_fits 18 = .ok (.iload_n 3, 1) := by decide +kernel
theorem dX5_fits_19 : decode cX5_fits 19 = .ok (.aload_n 0, 1) := by decide +kernel
theorem dX5_fits_20 : decode cX5_fits 20 = .ok (.getfield 15, 3) := by decide +kernel
theorem dX5_fits_23 : decode cX5_fits 23 = .ok (.iload_n 1, 1) := by decide +kernel
theorem dX5_fits_24 : decode cX5_fits 24 = .ok (.iaload, 1) := by decide +kernel
theorem dX5_fits_25 : decode cX5_fits 25 = .ok (.iload_n 2, 1) := by decide +kernel
theorem dX5_fits_26 : decode cX5_fits 26 = .ok (.isub, 1) := by decide +kernel
theorem dX5_fits_27 : decode cX5_fits 27 = .ok (.if_icmp .gt 7, 3) := by decide +kernel
theorem dX5_fits_30 : decode cX5_fits 30 = .ok (.iconst 1, 1) := by decide +kernel
theorem dX5_fits_31 : decode cX5_fits 31 = .ok (.goto 4, 3) := by decide +kernel
theorem dX5_fits_34 : decode cX5_fits 34 = .ok (.iconst 0, 1) := by decide +kernel
theorem dX5_fits_35 : decode cX5_fits 35 = .ok (.ireturn, 1) := by decide +kernel
theorem dX5_get_0 : decode cX5_get 0 = .ok (.aload_n 0, 1) := by decide +kernel
theorem dX5_get_1 : decode cX5_get 1 = .ok (.iload_n 1, 1) := by decide +kernel
theorem dX5_get_2 : decode cX5_get 2 = .ok (.iload_n 2, 1) := by decide +kernel
theorem dX5_get_3 : decode cX5_get 3 = .ok (.iconst 1, 1) := by decide +kernel
theorem dX5_get_4 : decode cX5_get 4 = .ok (.invokevirtual 33, 3) := by decide +kernel
theorem dX5_get_7 : decode cX5_get 7 = .ok (.ifCond .eq 14, 3) := by decide +kernel
theorem dX5_get_10 : decode cX5_get 10 = .ok (.aload_n 0, 1) := by decide +kernel
theorem dX5_get_11 : decode cX5_get 11 = .ok (.getfield 20, 3) := by decide +kernel
theorem dX5_get_14 : decode cX5_get 14 = .ok (.iload_n 1, 1) := by decide +kernel
theorem dX5_get_15 : decode cX5_get 15 = .ok (.aaload, 1) := by decide +kernel
theorem dX5_get_16 : decode cX5_get 16 = .ok (.iload_n 2, 1) := by decide +kernel
theorem dX5_get_17 : decode cX5_get 17 = .ok (.iaload, 1) := by decide +kernel
theorem dX5_get_18 : decode cX5_get 18 = .ok (.goto 4, 3) := by decide +kernel
theorem dX5_get_21 : decode cX5_get 21 = .ok (.iconst 0, 1) := by decide +kernel
theorem dX5_get_22 : decode cX5_get 22 = .ok (.ireturn, 1) := by decide +kernel
theorem dX5_put_0 : decode cX5_put 0 = .ok (.aload_n 0, 1) := by decide +kernel
theorem dX5_put_1 : decode cX5_put 1 = .ok (.iload_n 1, 1) := by decide +kernel
theorem dX5_put_2 : decode cX5_put 2 = .ok (.iload_n 2, 1) := by decide +kernel
theorem dX5_put_3 : decode cX5_put 3 = .ok (.iconst 1, 1) := by decide +kernel
theorem dX5_put_4 : decode cX5_put 4 = .ok (.invokevirtual 33, 3) := by decide +kernel
theorem dX5_put_7 : decode cX5_put 7 = .ok (.ifCond .eq 21, 3) := by decide +kernel
theorem dX5_put_10 : decode cX5_put 10 = .ok (.aload_n 0, 1) := by decide +kernel
theorem dX5_put_11 : decode cX5_put 11 = .ok (.getfield 20, 3) := by decide +kernel
theorem dX5_put_14 : decode cX5_put 14 = .ok (.iload_n 1, 1) := by decide +kernel
theorem dX5_put_15 : decode cX5_put 15 = .ok (.aaload, 1) := by decide +kernel
theorem dX5_put_16 : decode cX5_put 16 = .ok (.iload_n 2, 1) := by decide +kernel
theorem dX5_put_17 : decode cX5_put 17 = .ok (.aload_n 0, 1) := by decide +kernel
theorem dX5_put_18 : decode cX5_put 18 = .ok (.getfield 9, 3) := by decide +kernel
theorem dX5_put_21 : decode cX5_put 21 = .ok (.iload_n 1, 1) := by decide +kernel
theorem dX5_put_22 : decode cX5_put 22 = .ok (.iaload, 1) := by decide +kernel
theorem dX5_put_23 : decode cX5_put 23 = .ok (.iload_n 3, 1) := by decide +kernel
theorem dX5_put_24 : decode cX5_put 24 = .ok (.invokestatic 37, 3) := by decide +kernel
theorem dX5_put_27 : decode cX5_put 27 = .ok (.iastore, 1) := by decide +kernel
theorem dX5_put_28 : decode cX5_put 28 = .ok (.return_, 1) := by decide +kernel
theorem dX5_cutTo_0 : decode cX5_cutTo 0 = .ok (.iload_n 0, 1) := by decide +kernel
theorem dX5_cutTo_1 : decode cX5_cutTo 1 = .ok (.lookupswitch 33 #[(0, 27), (1, 30)], 27) := by decide +kernel
theorem dX5_cutTo_28 : decode cX5_cutTo 28 = .ok (.iload_n 1, 1) := by decide +kernel
theorem dX5_cutTo_29 : decode cX5_cutTo 29 = .ok (.i2b, 1) := by decide +kernel
theorem dX5_cutTo_30 : decode cX5_cutTo 30 = .ok (.ireturn, 1) := by decide +kernel
theorem dX5_cutTo_31 : decode cX5_cutTo 31 = .ok (.iload_n 1, 1) := by decide +kernel
theorem dX5_cutTo_32 : decode cX5_cutTo 32 = .ok (.i2s, 1) := by decide +kernel
theorem dX5_cutTo_33 : decode cX5_cutTo 33 = .ok (.ireturn, 1) := by decide +kernel
theorem dX5_cutTo_34 : decode cX5_cutTo 34 = .ok (.iload_n 1, 1) := by decide +kernel
theorem dX5_cutTo_35 : decode cX5_cutTo 35 = .ok (.ireturn, 1) := by decide +kernel
theorem dJ6_compare_7cf53_0 : decode cJ6_compare_7cf53 0 = .ok (.iload_n 0, 1) := by decide +kernel
theorem dJ6_compare_7cf53_1 : decode cJ6_compare_7cf53 1 = .ok (.iload_n 1, 1) := by decide +kernel
theorem dJ6_compare_7cf53_2 : decode cJ6_compare_7cf53 2 = .ok (.if_icmp .ge 7, 3) := by decide +kernel
theorem dJ6_compare_7cf53_5 : decode cJ6_compare_7cf53 5 = .ok (.iconst (-1), 1) := by decide +kernel
theorem dJ6_compare_7cf53_6 : decode cJ6_compare_7cf53 6 = .ok (.goto 13, 3) := by decide +kernel
theorem dJ6_compare_7cf53_9 : decode cJ6_compare_7cf53 9 = .ok (.iload_n 0, 1) := by decide +kernel
theorem dJ6_compare_7cf53_10 : decode cJ6_compare_7cf53 10 = .ok (.iload_n 1, 1) := by decide +kernel
theorem dJ6_compare_7cf53_11 : decode cJ6_compare_7cf53 11 = .ok (.if_icmp .ne 7, 3) := by decide +kernel
theorem dJ6_compare_7cf53_14 : decode cJ6_compare_7cf53 14 = .ok (.iconst 0, 1) := by decide +kernel
theorem dJ6_compare_7cf53_15 : decode cJ6_compare_7cf53 15 = .ok (.goto 4, 3) := by decide +kernel
theorem dJ6_compare_7cf53_18 : decode cJ6_compare_7cf53 18 = .ok (.iconst 1, 1) := by decide +kernel
theorem dJ6_compare_7cf53_19 : decode cJ6_compare_7cf53 19 = .ok (.ireturn, 1) := by decide +kernel
theorem dJ9_floorMod_7cf53_0 : decode cJ9_floorMod_7cf53 0 = .ok (.iload_n 0, 1) := by decide +kernel
theorem dJ9_floorMod_7cf53_1 : decode cJ9_floorMod_7cf53 1 = .ok (.iload_n 1, 1) := by decide +kernel
theorem dJ9_floorMod_7cf53_2 : decode cJ9_floorMod_7cf53 2 = .ok (.irem, 1) := by decide +kernel
theorem dJ9_floorMod_7cf53_3 : decode cJ9_floorMod_7cf53 3 = .ok (.istore_n 2, 1) := by decide +kernel
theorem dJ9_floorMod_7cf53_4 : decode cJ9_floorMod_7cf53 4 = .ok (.iload_n 0, 1) := by decide +kernel
theorem dJ9_floorMod_7cf53_5 : decode cJ9_floorMod_7cf53 5 = .ok (.iload_n 1, 1) := by decide +kernel
theorem dJ9_floorMod_7cf53_6 : decode cJ9_floorMod_7cf53 6 = .ok (.ixor, 1) := by decide +kernel
theorem dJ9_floorMod_7cf53_7 : decode cJ9_floorMod_7cf53 7 = .ok (.ifCond .ge 11, 3) := by decide +kernel
theorem dJ9_floorMod_7cf53_10 : decode cJ9_floorMod_7cf53 10 = .ok (.iload_n 2, 1) := by decide +kernel
theorem dJ9_floorMod_7cf53_11 : decode cJ9_floorMod_7cf53 11 = .ok (.ifCond .eq 7, 3) := by decide +kernel
theorem dJ9_floorMod_7cf53_14 : decode cJ9_floorMod_7cf53 14 = .ok (.iload_n 2, 1) := by decide +kernel
theorem dJ9_floorMod_7cf53_15 : decode cJ9_floorMod_7cf53 15 = .ok (.iload_n 1, 1) := by decide +kernel
theorem dJ9_floorMod_7cf53_16 : decode cJ9_floorMod_7cf53 16 = .ok (.iadd, 1) := by decide +kernel
theorem dJ9_floorMod_7cf53_17 : decode cJ9_floorMod_7cf53 17 = .ok (.ireturn, 1) := by decide +kernel
theorem dJ9_floorMod_7cf53_18 : decode cJ9_floorMod_7cf53 18 = .ok (.iload_n 2, 1) := by decide +kernel
theorem dJ9_floorMod_7cf53_19 : decode cJ9_floorMod_7cf53 19 = .ok (.ireturn, 1) := by decide +kernel
theorem dJ9_abs_0f7a4_0 : decode cJ9_abs_0f7a4 0 = .ok (.iload_n 0, 1) := by decide +kernel
theorem dJ9_abs_0f7a4_1 : decode cJ9_abs_0f7a4 1 = .ok (.ifCond .ge 8, 3) := by decide +kernel
theorem dJ9_abs_0f7a4_4 : decode cJ9_abs_0f7a4 4 = .ok (.iload_n 0, 1) := by decide +kernel
theorem dJ9_abs_0f7a4_5 : decode cJ9_abs_0f7a4 5 = .ok (.ineg, 1) := by decide +kernel
theorem dJ9_abs_0f7a4_6 : decode cJ9_abs_0f7a4 6 = .ok (.goto 4, 3) := by decide +kernel
theorem dJ9_abs_0f7a4_9 : decode cJ9_abs_0f7a4 9 = .ok (.iload_n 0, 1) := by decide +kernel
theorem dJ9_abs_0f7a4_10 : decode cJ9_abs_0f7a4 10 = .ok (.ireturn, 1) := by decide +kernel
theorem dJ9_max_7cf53_0 : decode cJ9_max_7cf53 0 = .ok (.iload_n 0, 1) := by decide +kernel
theorem dJ9_max_7cf53_1 : decode cJ9_max_7cf53 1 = .ok (.iload_n 1, 1) := by decide +kernel
theorem dJ9_max_7cf53_2 : decode cJ9_max_7cf53 2 = .ok (.if_icmp .lt 7, 3) := by decide +kernel
theorem dJ9_max_7cf53_5 : decode cJ9_max_7cf53 5 = .ok (.iload_n 0, 1) := by decide +kernel
theorem dJ9_max_7cf53_6 : decode cJ9_max_7cf53 6 = .ok (.goto 4, 3) := by decide +kernel
theorem dJ9_max_7cf53_9 : decode cJ9_max_7cf53 9 = .ok (.iload_n 1, 1) := by decide +kernel
theorem dJ9_max_7cf53_10 : decode cJ9_max_7cf53 10 = .ok (.ireturn, 1) := by decide +kernel
theorem dJ9_min_7cf53_0 : decode cJ9_min_7cf53 0 = .ok (.iload_n 0, 1) := by decide +kernel
theorem dJ9_min_7cf53_1 : decode cJ9_min_7cf53 1 = .ok (.iload_n 1, 1) := by decide +kernel
theorem dJ9_min_7cf53_2 : decode cJ9_min_7cf53 2 = .ok (.if_icmp .gt 7, 3) := by decide +kernel
theorem dJ9_min_7cf53_5 : decode cJ9_min_7cf53 5 = .ok (.iload_n 0, 1) := by decide +kernel
theorem dJ9_min_7cf53_6 : decode cJ9_min_7cf53 6 = .ok (.goto 4, 3) := by decide +kernel
theorem dJ9_min_7cf53_9 : decode cJ9_min_7cf53 9 = .ok (.iload_n 1, 1) := by decide +kernel
theorem dJ9_min_7cf53_10 : decode cJ9_min_7cf53 10 = .ok (.ireturn, 1) := by decide +kernel
theorem dJ7_fill_53178_0 : decode cJ7_fill_53178 0 = .ok (.iconst 0, 1) := by decide +kernel
theorem dJ7_fill_53178_1 : decode cJ7_fill_53178 1 = .ok (.istore_n 2, 1) := by decide +kernel
theorem dJ7_fill_53178_2 : decode cJ7_fill_53178 2 = .ok (.aload_n 0, 1) := by decide +kernel
theorem dJ7_fill_53178_3 : decode cJ7_fill_53178 3 = .ok (.arraylength, 1) := by decide +kernel
theorem dJ7_fill_53178_4 : decode cJ7_fill_53178 4 = .ok (.istore_n 3, 1) := by decide +kernel
theorem dJ7_fill_53178_5 : decode cJ7_fill_53178 5 = .ok (.iload_n 2, 1) := by decide +kernel
theorem dJ7_fill_53178_6 : decode cJ7_fill_53178 6 = .ok (.iload_n 3, 1) := by decide +kernel
theorem dJ7_fill_53178_7 : decode cJ7_fill_53178 7 = .ok (.if_icmp .ge 13, 3) := by decide +kernel
theorem dJ7_fill_53178_10 : decode cJ7_fill_53178 10 = .ok (.aload_n 0, 1) := by decide +kernel
theorem dJ7_fill_53178_11 : decode cJ7_fill_53178 11 = .ok (.iload_n 2, 1) := by decide +kernel
theorem dJ7_fill_53178_12 : decode cJ7_fill_53178 12 = .ok (.iload_n 1, 1) := by decide +kernel
theorem dJ7_fill_53178_13 : decode cJ7_fill_53178 13 = .ok (.iastore, 1) := by decide +kernel
theorem dJ7_fill_53178_14 : decode cJ7_fill_53178 14 = .ok (.iinc 2 1, 3) := by decide +kernel
theorem dJ7_fill_53178_17 : decode cJ7_fill_53178 17 = .ok (.goto (-12), 3) := by decide +kernel
theorem dJ7_fill_53178_20 : decode cJ7_fill_53178 20 = .ok (.return_, 1) := by decide +kernel
end
section
theorem dX8_init_0 : decode cX8_init 0 = .ok (.aload_n 0, 1) := by decide +kernel
theorem dX8_init_1 : decode cX8_init 1 = .ok (.invokespecial 1, 3) := by decide +kernel
theorem dX8_init_4 : decode cX8_init 4 = .ok (.new 7, 3) := by decide +kernel
theorem dX8_init_7 : decode cX8_init 7 = .ok (.dup, 1) := by decide +kernel
theorem dX8_init_8 : decode cX8_init 8 = .ok (.invokespecial 9, 3) := by decide +kernel
theorem dX8_init_11 : decode cX8_init 11 = .ok (.astore_n 1, 1) := by decide +kernel
theorem dX8_init_12 : decode cX8_init 12 = .ok (.aload_n 0, 1) := by decide +kernel
theorem dX8_init_13 : decode cX8_init 13 = .ok (.aload_n 1, 1) := by decide +kernel
theorem dX8_init_14 : decode cX8_init 14 = .ok (.putfield 10, 3) := by decide +kernel
theorem dX8_init_17 : decode cX8_init 17 = .ok (.aload_n 0, 1) := by decide +kernel
theorem dX8_init_18 : decode cX8_init 18 = .ok (.new 7, 3) := by decide +kernel
theorem dX8_init_21 : decode cX8_init 21 = .ok (.dup, 1) := by decide +kernel
theorem dX8_init_22 : decode cX8_init 22 = .ok (.invokespecial 9, 3) := by decide +kernel
theorem dX8_init_25 : decode cX8_init 25 = .ok (.putfield 16, 3) := by decide +kernel
theorem dX8_init_28 : decode cX8_init 28 = .ok (.aload_n 0, 1) := by decide +kernel
theorem dX8_init_29 : decode cX8_init 29 = .ok (.iconst 0, 1) := by decide +kernel
theorem dX8_init_30 : decode cX8_init 30 = .ok (.putfield 19, 3) := by decide +kernel
theorem dX8_init_33 : decode cX8_init 33 = .ok (.aload_n 0, 1) := by decide +kernel
theorem dX8_init_34 : decode cX8_init 34 = .ok (.new 23, 3) := by decide +kernel
theorem dX8_init_37 : decode cX8_init 37 = .ok (.dup, 1) := by decide +kernel
theorem dX8_init_38 : decode cX8_init 38 = .ok (.aload_n 1, 1) := by decide +kernel
theorem dX8_init_39 : decode cX8_init 39 = .ok (.invokespecial 25, 3) := by decide +kernel
theorem dX8_init_42 : decode cX8_init 42 = .ok (.putfield 28, 3) := by decide +kernel
theorem dX8_init_45 : decode cX8_init 45 = .ok (.aload_n 0, 1) := by decide +kernel
theorem dX8_init_46 : decode cX8_init 46 = .ok (.new 32, 3) := by decide +kernel
theorem dX8_init_49 : decode cX8_init 49 = .ok (.dup, 1) := by decide +kernel
theorem dX8_init_50 : decode cX8_init 50 = .ok (.invokespecial 34, 3) := by decide +kernel
theorem dX8_init_53 : decode cX8_init 53 = .ok (.putfield 35, 3) := by decide +kernel
theorem dX8_init_56 : decode cX8_init 56 = .ok (.aload_n 0, 1) := by decide +kernel
theorem dX8_init_57 : decode cX8_init 57 = .ok (.new 39, 3) := by decide +kernel
theorem dX8_init_60 : decode cX8_init 60 = .ok (.dup, 1) := by decide +kernel
theorem dX8_init_61 : decode cX8_init 61 = .ok (.invokespecial 41, 3) := by decide +kernel
theorem dX8_init_64 : decode cX8_init 64 = .ok (.putfield 42, 3) := by decide +kernel
theorem dX8_init_67 : decode cX8_init 67 = .ok (.aload_n 0, 1) := by decide +kernel
theorem dX8_init_68 : decode cX8_init 68 = .ok (.new 46, 3) := by decide +kernel
theorem dX8_init_71 : decode cX8_init 71 = .ok (.dup, 1) := by decide +kernel
theorem dX8_init_72 : decode cX8_init 72 = .ok (.invokespecial 48, 3) := by decide +kernel
theorem dX8_init_75 : decode cX8_init 75 = .ok (.putfield 49, 3) := by decide +kernel
theorem dX8_init_78 : decode cX8_init 78 = .ok (.aload_n 0, 1) := by decide +kernel
theorem dX8_init_79 : decode cX8_init 79 = .ok (.new 53, 3) := by decide +kernel
theorem dX8_init_82 : decode cX8_init 82 = .ok (.dup, 1) := by decide +kernel
theorem dX8_init_83 : decode cX8_init 83 = .ok (.invokespecial 55, 3) := by decide +kernel
theorem dX8_init_86 : decode cX8_init 86 = .ok (.putfield 56, 3) := by decide +kernel
theorem dX8_init_89 : decode cX8_init 89 = .ok (.return_, 1) := by decide +kernel
theorem dX8_set_0 : decode cX8_set 0 = .ok (.iload_n 1, 1) := by decide +kernel
theorem dX8_set_1 : decode cX8_set 1 = .ok (.iconst 0, 1) := by decide +kernel
theorem dX8_set_2 : decode cX8_set 2 = .ok (.iconst 2, 1) := by decide +kernel
theorem dX8_set_3 : decode cX8_set 3 = .ok (.invokestatic 60, 3) := by decide +kernel
theorem dX8_set_6 : decode cX8_set 6 = .ok (.ifCond .eq 20, 3) := by decide +kernel
theorem dX8_set_9 : decode cX8_set 9 = .ok (.iload_n 2, 1) := by decide +kernel
theorem dX8_set_10 : decode cX8_set 10 = .ok (.getstatic 64, 3) := by decide +kernel
theorem dX8_set_13 : decode cX8_set 13 = .ok (.iload_n 1, 1) := by decide +kernel
theorem dX8_set_14 : decode cX8_set 14 = .ok (.iaload, 1) := by decide +kernel
theorem dX8_set_15 : decode cX8_set 15 = .ok (.getstatic 68, 3) := by decide +kernel
theorem dX8_set_18 : decode cX8_set 18 = .ok (.iload_n 1, 1) := by decide +kernel
theorem dX8_set_19 : decode cX8_set 19 = .ok (.iaload, 1) := by decide +kernel
theorem dX8_set_20 : decode cX8_set 20 = .ok (.invokestatic 60, 3) := by decide +kernel
theorem dX8_set_23 : decode cX8_set 23 = .ok (.ifCond .ne 5, 3) := by decide +kernel
theorem dX8_set_26 : decode cX8_set 26 = .ok (.iconst (-1), 1) := by decide +kernel
theorem dX8_set_27 : decode cX8_set 27 = .ok (.ireturn, 1) := by decide +kernel
theorem dX8_set_28 : decode cX8_set 28 = .ok (.aload_n 0, 1) := by decide +kernel
theorem dX8_set_29 : decode cX8_set 29 = .ok (.getfield 10, 3) := by decide +kernel
theorem dX8_set_32 : decode cX8_set 32 = .ok (.getfield 71, 3) := by decide +kernel
theorem dX8_set_35 : decode cX8_set 35 = .ok (.iload_n 1, 1) := by decide +kernel
theorem dX8_set_36 : decode cX8_set 36 = .ok (.iaload, 1) := by decide +kernel
theorem dX8_set_37 : decode cX8_set 37 = .ok (.istore_n 3, 1) := by decide +kernel
theorem dX8_set_38 : decode cX8_set 38 = .ok (.aload_n 0, 1) := by decide +kernel
theorem dX8_set_39 : decode cX8_set 39 = .ok (.getfield 10, 3) := by decide +kernel
theorem dX8_set_42 : decode cX8_set 42 = .ok (.getfield 71, 3) := by decide +kernel
theorem dX8_set_45 : decode cX8_set 45 = .ok (.iload_n 1, 1) := by decide +kernel
theorem dX8_set_46 : decode cX8_set 46 = .ok (.iload_n 2, 1) := by decide +kernel
theorem dX8_set_47 : decode cX8_set 47 = .ok (.iastore, 1) := by decide +kernel
theorem dX8_set_48 : decode cX8_set 48 = .ok (.iload_n 3, 1) := by decide +kernel
theorem dX8_set_49 : decode cX8_set 49 = .ok (.ireturn, 1) := by decide +kernel
theorem dX8_cup_0 : decode cX8_cup 0 = .ok (.iload_n 1, 1) := by decide +kernel
theorem dX8_cup_1 : decode cX8_cup 1 = .ok (.bipush (-9), 2) := by decide +kernel
theorem dX8_cup_3 : decode cX8_cup 3 = .ok (.bipush 9, 2) := by decide +kernel
theorem dX8_cup_5 : decode cX8_cup 5 = .ok (.invokestatic 60, 3) := by decide +kernel
theorem dX8_cup_8 : decode cX8_cup 8 = .ok (.ifCond .eq 18, 3) := by decide +kernel
theorem dX8_cup_11 : decode cX8_cup 11 = .ok (.iload_n 2, 1) := by decide +kernel
theorem dX8_cup_12 : decode cX8_cup 12 = .ok (.bipush (-9), 2) := by decide +kernel
theorem dX8_cup_14 : decode cX8_cup 14 = .ok (.bipush 9, 2) := by decide +kernel
theorem dX8_cup_16 : decode cX8_cup 16 = .ok (.invokestatic 60, 3) := by decide +kernel
theorem dX8_cup_19 : decode cX8_cup 19 = .ok (.ifCond .eq 7, 3) := by decide +kernel
theorem dX8_cup_22 : decode cX8_cup 22 = .ok (.iconst 1, 1) := by decide +kernel
theorem dX8_cup_23 : decode cX8_cup 23 = .ok (.goto 4, 3) := by decide +kernel
theorem dX8_cup_26 : decode cX8_cup 26 = .ok (.iconst 0, 1) := by decide +kernel
theorem dX8_cup_27 : decode cX8_cup 27 = .ok (.istore 6, 2) := by decide +kernel
theorem dX8_cup_29 : decode cX8_cup 29 = .ok (.iload 6, 2) := by decide +kernel
theorem dX8_cup_31 : decode cX8_cup 31 = .ok (.ifCond .eq 24, 3) := by decide +kernel
theorem dX8_cup_34 : decode cX8_cup 34 = .ok (.iload_n 3, 1) := by decide +kernel
theorem dX8_cup_35 : decode cX8_cup 35 = .ok (.iconst 0, 1) := by decide +kernel
theorem dX8_cup_36 : decode cX8_cup 36 = .ok (.bipush 9, 2) := by decide +kernel
theorem dX8_cup_38 : decode cX8_cup 38 = .ok (.invokestatic 60, 3) := by decide +kernel
theorem dX8_cup_41 : decode cX8_cup 41 = .ok (.ifCond .eq 14, 3) := by decide +kernel
theorem dX8_cup_44 : decode cX8_cup 44 = .ok (.iload 4, 2) := by decide +kernel
theorem dX8_cup_46 : decode cX8_cup 46 = .ok (.iconst 0, 1) := by decide +kernel
theorem dX8_cup_47 : decode cX8_cup 47 = .ok (.bipush 99, 2) := by decide +kernel
theorem dX8_cup_49 : decode cX8_cup 49 = .ok (.invokestatic 60, 3) := by decide +kernel
theorem dX8_cup_52 : decode cX8_cup 52 = .ok (.ifCond .ne 5, 3) := by decide +kernel
theorem dX8_cup_55 : decode cX8_cup 55 = .ok (.iconst (-1), 1) := by decide +kernel
theorem dX8_cup_56 : decode cX8_cup 56 = .ok (.ireturn, 1) := by decide +kernel
theorem dX8_cup_57 : decode cX8_cup 57 = .ok (.aload_n 0, 1) := by decide +kernel
theorem dX8_cup_58 : decode cX8_cup 58 = .ok (.getfield 10, 3) := by decide +kernel
theorem dX8_cup_61 : decode cX8_cup 61 = .ok (.getfield 74, 3) := by decide +kernel
theorem dX8_cup_64 : decode cX8_cup 64 = .ok (.invokevirtual 78, 3) := by decide +kernel
theorem dX8_cup_67 : decode cX8_cup 67 = .ok (.ifCond .eq 6, 3) := by decide +kernel
theorem dX8_cup_70 : decode cX8_cup 70 = .ok (.bipush (-3), 2) := by decide +kernel
theorem dX8_cup_72 : decode cX8_cup 72 = .ok (.ireturn, 1) := by decide +kernel
theorem dX8_cup_73 : decode cX8_cup 73 = .ok (.aload_n 0, 1) := by decide +kernel
theorem dX8_cup_74 : decode cX8_cup 74 = .ok (.getfield 10, 3) := by decide +kernel
theorem dX8_cup_77 : decode cX8_cup 77 = .ok (.getfield 74, 3) := by decide +kernel
theorem dX8_cup_80 : decode cX8_cup 80 = .ok (.iload_n 1, 1) := by decide +kernel
theorem dX8_cup_81 : decode cX8_cup 81 = .ok (.iload_n 2, 1) := by decide +kernel
theorem dX8_cup_82 : decode cX8_cup 82 = .ok (.iload_n 3, 1) := by decide +kernel
theorem dX8_cup_83 : decode cX8_cup 83 = .ok (.iload 4, 2) := by decide +kernel
theorem dX8_cup_85 : decode cX8_cup 85 = .ok (.iload 5, 2) := by decide +kernel
theorem dX8_cup_87 : decode cX8_cup 87 = .ok (.ifCond .eq 7, 3) := by decide +kernel
theorem dX8_cup_90 : decode cX8_cup 90 = .ok (.iconst 1, 1) := by decide +kernel
theorem dX8_cup_91 : decode cX8_cup 91 = .ok (.goto 4, 3) := by decide +kernel
theorem dX8_cup_94 : decode cX8_cup 94 = .ok (.iconst 0, 1) := by decide +kernel
theorem dX8_cup_95 : decode cX8_cup 95 = .ok (.invokestatic 84, 3) := by decide +kernel
theorem dX8_cup_98 : decode cX8_cup 98 = .ok (.ireturn, 1) := by decide +kernel
theorem dX8_told_0 : decode cX8_told 0 = .ok (.aload_n 0, 1) := by decide +kernel
theorem dX8_told_1 : decode cX8_told 1 = .ok (.getfield 10, 3) := by decide +kernel
theorem dX8_told_4 : decode cX8_told 4 = .ok (.getfield 74, 3) := by decide +kernel
theorem dX8_told_7 : decode cX8_told 7 = .ok (.iload_n 1, 1) := by decide +kernel
theorem dX8_told_8 : decode cX8_told 8 = .ok (.invokevirtual 88, 3) := by decide +kernel
theorem dX8_told_11 : decode cX8_told 11 = .ok (.ifCond .eq 12, 3) := by decide +kernel
theorem dX8_told_14 : decode cX8_told 14 = .ok (.iload_n 2, 1) := by decide +kernel
theorem dX8_told_15 : decode cX8_told 15 = .ok (.iconst 0, 1) := by decide +kernel
theorem dX8_told_16 : decode cX8_told 16 = .ok (.iconst 4, 1) := by decide +kernel
theorem dX8_told_17 : decode cX8_told 17 = .ok (.invokestatic 60, 3) := by decide +kernel
theorem dX8_told_20 : decode cX8_told 20 = .ok (.ifCond .ne 6, 3) := by decide +kernel
theorem dX8_told_23 : decode cX8_told 23 = .ok (.ldc 92, 2) := by decide +kernel
theorem dX8_told_25 : decode cX8_told 25 = .ok (.ireturn, 1) := by decide +kernel
theorem dX8_told_26 : decode cX8_told 26 = .ok (.aload_n 0, 1) := by decide +kernel
theorem dX8_told_27 : decode cX8_told 27 = .ok (.getfield 10, 3) := by decide +kernel
theorem dX8_told_30 : decode cX8_told 30 = .ok (.getfield 74, 3) := by decide +kernel
theorem dX8_told_33 : decode cX8_told 33 = .ok (.iload_n 1, 1) := by decide +kernel
theorem dX8_told_34 : decode cX8_told 34 = .ok (.iload_n 2, 1) := by decide +kernel
theorem dX8_told_35 : decode cX8_told 35 = .ok (.invokevirtual 93, 3) := by decide +kernel
theorem dX8_told_38 : decode cX8_told 38 = .ok (.ireturn, 1) := by decide +kernel
theorem dX8_part_0 : decode cX8_part 0 = .ok (.iload_n 2, 1) := by decide +kernel
theorem dX8_part_1 : decode cX8_part 1 = .ok (.bipush (-9), 2) := by decide +kernel
theorem dX8_part_3 : decode cX8_part 3 = .ok (.bipush 9, 2) := by decide +kernel
theorem dX8_part_5 : decode cX8_part 5 = .ok (.invokestatic 60, 3) := by decide +kernel
theorem dX8_part_8 : decode cX8_part 8 = .ok (.ifCond .eq 18, 3) := by decide +kernel
theorem dX8_part_11 : decode cX8_part 11 = .ok (.iload_n 3, 1) := by decide +kernel
theorem dX8_part_12 : decode cX8_part 12 = .ok (.bipush (-9), 2) := by decide +kernel
theorem dX8_part_14 : decode cX8_part 14 = .ok (.bipush 9, 2) := by decide +kernel
theorem dX8_part_16 : decode cX8_part 16 = .ok (.invokestatic 60, 3) := by decide +kernel
theorem dX8_part_19 : decode cX8_part 19 = .ok (.ifCond .eq 7, 3) := by decide +kernel
theorem dX8_part_22 : decode cX8_part 22 = .ok (.iconst 1, 1) := by decide +kernel
theorem dX8_part_23 : decode cX8_part 23 = .ok (.goto 4, 3) := by decide +kernel
theorem dX8_part_26 : decode cX8_part 26 = .ok (.iconst 0, 1) := by decide +kernel
theorem dX8_part_27 : decode cX8_part 27 = .ok (.istore 4, 2) := by decide +kernel
theorem dX8_part_29 : decode cX8_part 29 = .ok (.iload 4, 2) := by decide +kernel
theorem dX8_part_31 : decode cX8_part 31 = .ok (.ifCond .eq 13, 3) := by decide +kernel
theorem dX8_part_34 : decode cX8_part 34 = .ok (.iload_n 1, 1) := by decide +kernel
theorem dX8_part_35 : decode cX8_part 35 = .ok (.iconst 1, 1) := by decide +kernel
theorem dX8_part_36 : decode cX8_part 36 = .ok (.bipush 20, 2) := by decide +kernel
theorem dX8_part_38 : decode cX8_part 38 = .ok (.invokestatic 60, 3) := by decide +kernel
theorem dX8_part_41 : decode cX8_part 41 = .ok (.ifCond .ne 5, 3) := by decide +kernel
theorem dX8_part_44 : decode cX8_part 44 = .ok (.iconst (-1), 1) := by decide +kernel
theorem dX8_part_45 : decode cX8_part 45 = .ok (.ireturn, 1) := by decide +kernel
theorem dX8_part_46 : decode cX8_part 46 = .ok (.aload_n 0, 1) := by decide +kernel
theorem dX8_part_47 : decode cX8_part 47 = .ok (.getfield 10, 3) := by decide +kernel
theorem dX8_part_50 : decode cX8_part 50 = .ok (.getfield 97, 3) := by decide +kernel
theorem dX8_part_53 : decode cX8_part 53 = .ok (.invokevirtual 78, 3) := by decide +kernel
theorem dX8_part_56 : decode cX8_part 56 = .ok (.ifCond .eq 6, 3) := by decide +kernel
theorem dX8_part_59 : decode cX8_part 59 = .ok (.bipush (-3), 2) := by decide +kernel
theorem dX8_part_61 : decode cX8_part 61 = .ok (.ireturn, 1) := by decide +kernel
theorem dX8_part_62 : decode cX8_part 62 = .ok (.aload_n 0, 1) := by decide +kernel
theorem dX8_part_63 : decode cX8_part 63 = .ok (.getfield 10, 3) := by decide +kernel
theorem dX8_part_66 : decode cX8_part 66 = .ok (.getfield 97, 3) := by decide +kernel
theorem dX8_part_69 : decode cX8_part 69 = .ok (.iload_n 1, 1) := by decide +kernel
theorem dX8_part_70 : decode cX8_part 70 = .ok (.iload_n 2, 1) := by decide +kernel
theorem dX8_part_71 : decode cX8_part 71 = .ok (.iload_n 3, 1) := by decide +kernel
theorem dX8_part_72 : decode cX8_part 72 = .ok (.invokestatic 100, 3) := by decide +kernel
theorem dX8_part_75 : decode cX8_part 75 = .ok (.ireturn, 1) := by decide +kernel
theorem dX8_pull_0 : decode cX8_pull 0 = .ok (.aload_n 0, 1) := by decide +kernel
theorem dX8_pull_1 : decode cX8_pull 1 = .ok (.getfield 10, 3) := by decide +kernel
theorem dX8_pull_4 : decode cX8_pull 4 = .ok (.getfield 97, 3) := by decide +kernel
theorem dX8_pull_7 : decode cX8_pull 7 = .ok (.iload_n 1, 1) := by decide +kernel
theorem dX8_pull_8 : decode cX8_pull 8 = .ok (.invokevirtual 88, 3) := by decide +kernel
theorem dX8_pull_11 : decode cX8_pull 11 = .ok (.ifCond .eq 12, 3) := by decide +kernel
theorem dX8_pull_14 : decode cX8_pull 14 = .ok (.iload_n 2, 1) := by decide +kernel
theorem dX8_pull_15 : decode cX8_pull 15 = .ok (.iconst 0, 1) := by decide +kernel
theorem dX8_pull_16 : decode cX8_pull 16 = .ok (.iconst 2, 1) := by decide +kernel
theorem dX8_pull_17 : decode cX8_pull 17 = .ok (.invokestatic 60, 3) := by decide +kernel
theorem dX8_pull_20 : decode cX8_pull 20 = .ok (.ifCond .ne 6, 3) := by decide +kernel
theorem dX8_pull_23 : decode cX8_pull 23 = .ok (.ldc 92, 2) := by decide +kernel
theorem dX8_pull_25 : decode cX8_pull 25 = .ok (.ireturn, 1) := by decide +kernel
theorem dX8_pull_26 : decode cX8_pull 26 = .ok (.aload_n 0, 1) := by decide +kernel
theorem dX8_pull_27 : decode cX8_pull 27 = .ok (.getfield 10, 3) := by decide +kernel
theorem dX8_pull_30 : decode cX8_pull 30 = .ok (.getfield 97, 3) := by decide +kernel
theorem dX8_pull_33 : decode cX8_pull 33 = .ok (.iload_n 1, 1) := by decide +kernel
theorem dX8_pull_34 : decode cX8_pull 34 = .ok (.iload_n 2, 1) := by decide +kernel
theorem dX8_pull_35 : decode cX8_pull 35 = .ok (.invokevirtual 93, 3) := by decide +kernel
theorem dX8_pull_38 : decode cX8_pull 38 = .ok (.ireturn, 1) := by decide +kernel
theorem dX8_still_0 : decode cX8_still 0 = .ok (.aload_n 0, 1) := by decide +kernel
theorem dX8_still_1 : decode cX8_still 1 = .ok (.getfield 10, 3) := by decide +kernel
theorem dX8_still_4 : decode cX8_still 4 = .ok (.getfield 97, 3) := by decide +kernel
theorem dX8_still_7 : decode cX8_still 7 = .ok (.invokevirtual 104, 3) := by decide +kernel
theorem dX8_still_10 : decode cX8_still 10 = .ok (.ireturn, 1) := by decide +kernel
theorem dX8_type_0 : decode cX8_type 0 = .ok (.iload_n 3, 1) := by decide +kernel
theorem dX8_type_1 : decode cX8_type 1 = .ok (.iconst 1, 1) := by decide +kernel
theorem dX8_type_2 : decode cX8_type 2 = .ok (.bipush 8, 2) := by decide +kernel
theorem dX8_type_4 : decode cX8_type 4 = .ok (.invokestatic 60, 3) := by decide +kernel
theorem dX8_type_7 : decode cX8_type 7 = .ok (.ifCond .ne 5, 3) := by decide +kernel
theorem dX8_type_10 : decode cX8_type 10 = .ok (.iconst (-1), 1) := by decide +kernel
theorem dX8_type_11 : decode cX8_type 11 = .ok (.ireturn, 1) := by decide +kernel
theorem dX8_type_12 : decode cX8_type 12 = .ok (.iconst 0, 1) := by decide +kernel
theorem dX8_type_13 : decode cX8_type 13 = .ok (.istore 4, 2) := by decide +kernel
theorem dX8_type_15 : decode cX8_type 15 = .ok (.iload 4, 2) := by decide +kernel
theorem dX8_type_17 : decode cX8_type 17 = .ok (.iload_n 3, 1) := by decide +kernel
theorem dX8_type_18 : decode cX8_type 18 = .ok (.if_icmp .ge 27, 3) := by decide +kernel
theorem dX8_type_21 : decode cX8_type 21 = .ok (.lload_n 1, 1) := by decide +kernel
theorem dX8_type_22 : decode cX8_type 22 = .ok (.iload 4, 2) := by decide +kernel
theorem dX8_type_24 : decode cX8_type 24 = .ok (.invokestatic 108, 3) := by decide +kernel
theorem dX8_type_27 : decode cX8_type 27 = .ok (.bipush 32, 2) := by decide +kernel
theorem dX8_type_29 : decode cX8_type 29 = .ok (.bipush 126, 2) := by decide +kernel
theorem dX8_type_31 : decode cX8_type 31 = .ok (.invokestatic 60, 3) := by decide +kernel
theorem dX8_type_34 : decode cX8_type 34 = .ok (.ifCond .ne 5, 3) := by decide +kernel
theorem dX8_type_37 : decode cX8_type 37 = .ok (.iconst (-1), 1) := by decide +kernel
theorem dX8_type_38 : decode cX8_type 38 = .ok (.ireturn, 1) := by decide +kernel
theorem dX8_type_39 : decode cX8_type 39 = .ok (.iinc 4 1, 3) := by decide +kernel
theorem dX8_type_42 : decode cX8_type 42 = .ok (.goto (-27), 3) := by decide +kernel
theorem dX8_type_45 : decode cX8_type 45 = .ok (.aload_n 0, 1) := by decide +kernel
theorem dX8_type_46 : decode cX8_type 46 = .ok (.getfield 49, 3) := by decide +kernel
theorem dX8_type_49 : decode cX8_type 49 = .ok (.iload_n 3, 1) := by decide +kernel
theorem dX8_type_50 : decode cX8_type 50 = .ok (.invokevirtual 112, 3) := by decide +kernel
theorem dX8_type_53 : decode cX8_type 53 = .ok (.ifCond .ne 6, 3) := by decide +kernel
theorem dX8_type_56 : decode cX8_type 56 = .ok (.bipush (-3), 2) := by decide +kernel
theorem dX8_type_58 : decode cX8_type 58 = .ok (.ireturn, 1) := by decide +kernel
theorem dX8_type_59 : decode cX8_type 59 = .ok (.iload_n 3, 1) := by decide +kernel
theorem dX8_type_60 : decode cX8_type 60 = .ok (.iconst 1, 1) := by decide +kernel
theorem dX8_type_61 : decode cX8_type 61 = .ok (.isub, 1) := by decide +kernel
theorem dX8_type_62 : decode cX8_type 62 = .ok (.istore 4, 2) := by decide +kernel
theorem dX8_type_64 : decode cX8_type 64 = .ok (.iload 4, 2) := by decide +kernel
theorem dX8_type_66 : decode cX8_type 66 = .ok (.ifCond .lt 22, 3) := by decide +kernel
theorem dX8_type_69 : decode cX8_type 69 = .ok (.aload_n 0, 1) := by decide +kernel
theorem dX8_type_70 : decode cX8_type 70 = .ok (.getfield 49, 3) := by decide +kernel
theorem dX8_type_73 : decode cX8_type 73 = .ok (.lload_n 1, 1) := by decide +kernel
theorem dX8_type_74 : decode cX8_type 74 = .ok (.iload 4, 2) := by decide +kernel
theorem dX8_type_76 : decode cX8_type 76 = .ok (.invokestatic 108, 3) := by decide +kernel
theorem dX8_type_79 : decode cX8_type 79 = .ok (.invokevirtual 115, 3) := by decide +kernel
theorem dX8_type_82 : decode cX8_type 82 = .ok (.iinc 4 (-1), 3) := by decide +kernel
theorem dX8_type_85 : decode cX8_type 85 = .ok (.goto (-21), 3) := by decide +kernel
theorem dX8_type_88 : decode cX8_type 88 = .ok (.aload_n 0, 1) := by decide +kernel
theorem dX8_type_89 : decode cX8_type 89 = .ok (.getfield 49, 3) := by decide +kernel
theorem dX8_type_92 : decode cX8_type 92 = .ok (.getfield 119, 3) := by decide +kernel
theorem dX8_type_95 : decode cX8_type 95 = .ok (.ireturn, 1) := by decide +kernel
theorem dX8_toy_0 : decode cX8_toy 0 = .ok (.aload_n 0, 1) := by decide +kernel
theorem dX8_toy_1 : decode cX8_toy 1 = .ok (.getfield 49, 3) := by decide +kernel
theorem dX8_toy_4 : decode cX8_toy 4 = .ok (.invokevirtual 123, 3) := by decide +kernel
theorem dX8_toy_7 : decode cX8_toy 7 = .ok (.istore_n 1, 1) := by decide +kernel
theorem dX8_toy_8 : decode cX8_toy 8 = .ok (.iload_n 1, 1) := by decide +kernel
theorem dX8_toy_9 : decode cX8_toy 9 = .ok (.ifCond .le 20, 3) := by decide +kernel
theorem dX8_toy_12 : decode cX8_toy 12 = .ok (.aload_n 0, 1) := by decide +kernel
theorem dX8_toy_13 : decode cX8_toy 13 = .ok (.getfield 10, 3) := by decide +kernel
theorem dX8_toy_16 : decode cX8_toy 16 = .ok (.getfield 74, 3) := by decide +kernel
theorem dX8_toy_19 : decode cX8_toy 19 = .ok (.aload_n 0, 1) := by decide +kernel
theorem dX8_toy_20 : decode cX8_toy 20 = .ok (.getfield 49, 3) := by decide +kernel
theorem dX8_toy_23 : decode cX8_toy 23 = .ok (.getfield 126, 3) := by decide +kernel
theorem dX8_toy_26 : decode cX8_toy 26 = .ok (.invokevirtual 127, 3) := by decide +kernel
theorem dX8_toy_29 : decode cX8_toy 29 = .ok (.iload_n 1, 1) := by decide +kernel
theorem dX8_toy_30 : decode cX8_toy 30 = .ok (.ireturn, 1) := by decide +kernel
theorem dX8_pulls_0 : decode cX8_pulls 0 = .ok (.aload_n 0, 1) := by decide +kernel
theorem dX8_pulls_1 : decode cX8_pulls 1 = .ok (.getfield 49, 3) := by decide +kernel
theorem dX8_pulls_4 : decode cX8_pulls 4 = .ok (.invokevirtual 131, 3) := by decide +kernel
theorem dX8_pulls_7 : decode cX8_pulls 7 = .ok (.istore_n 1, 1) := by decide +kernel
theorem dX8_pulls_8 : decode cX8_pulls 8 = .ok (.iload_n 1, 1) := by decide +kernel
theorem dX8_pulls_9 : decode cX8_pulls 9 = .ok (.ifCond .le 20, 3) := by decide +kernel
theorem dX8_pulls_12 : decode cX8_pulls 12 = .ok (.aload_n 0, 1) := by decide +kernel
theorem dX8_pulls_13 : decode cX8_pulls 13 = .ok (.getfield 10, 3) := by decide +kernel
theorem dX8_pulls_16 : decode cX8_pulls 16 = .ok (.getfield 97, 3) := by decide +kernel
theorem dX8_pulls_19 : decode cX8_pulls 19 = .ok (.aload_n 0, 1) := by decide +kernel
theorem dX8_pulls_20 : decode cX8_pulls 20 = .ok (.getfield 49, 3) := by decide +kernel
theorem dX8_pulls_23 : decode cX8_pulls 23 = .ok (.getfield 134, 3) := by decide +kernel
theorem dX8_pulls_26 : decode cX8_pulls 26 = .ok (.invokevirtual 127, 3) := by decide +kernel
theorem dX8_pulls_29 : decode cX8_pulls 29 = .ok (.iload_n 1, 1) := by decide +kernel
theorem dX8_pulls_30 : decode cX8_pulls 30 = .ok (.ireturn, 1) := by decide +kernel
theorem dX8_at_0 : decode cX8_at 0 = .ok (.iload_n 1, 1) := by decide +kernel
theorem dX8_at_1 : decode cX8_at 1 = .ok (.iconst 0, 1) := by decide +kernel
theorem dX8_at_2 : decode cX8_at 2 = .ok (.bipush 99, 2) := by decide +kernel
theorem dX8_at_4 : decode cX8_at 4 = .ok (.invokestatic 60, 3) := by decide +kernel
theorem dX8_at_7 : decode cX8_at 7 = .ok (.ifCond .eq 13, 3) := by decide +kernel
theorem dX8_at_10 : decode cX8_at 10 = .ok (.iload_n 2, 1) := by decide +kernel
theorem dX8_at_11 : decode cX8_at 11 = .ok (.iconst 0, 1) := by decide +kernel
theorem dX8_at_12 : decode cX8_at 12 = .ok (.bipush 8, 2) := by decide +kernel
theorem dX8_at_14 : decode cX8_at 14 = .ok (.invokestatic 60, 3) := by decide +kernel
theorem dX8_at_17 : decode cX8_at 17 = .ok (.ifCond .ne 6, 3) := by decide +kernel
theorem dX8_at_20 : decode cX8_at 20 = .ok (.ldc 92, 2) := by decide +kernel
theorem dX8_at_22 : decode cX8_at 22 = .ok (.ireturn, 1) := by decide +kernel
theorem dX8_at_23 : decode cX8_at 23 = .ok (.aload_n 0, 1) := by decide +kernel
theorem dX8_at_24 : decode cX8_at 24 = .ok (.getfield 28, 3) := by decide +kernel
theorem dX8_at_27 : decode cX8_at 27 = .ok (.invokevirtual 135, 3) := by decide +kernel
theorem dX8_at_30 : decode cX8_at 30 = .ok (.aload_n 0, 1) := by decide +kernel
theorem dX8_at_31 : decode cX8_at 31 = .ok (.getfield 28, 3) := by decide +kernel
theorem dX8_at_34 : decode cX8_at 34 = .ok (.iload_n 1, 1) := by decide +kernel
theorem dX8_at_35 : decode cX8_at 35 = .ok (.iconst 1, 1) := by decide +kernel
theorem dX8_at_36 : decode cX8_at 36 = .ok (.iadd, 1) := by decide +kernel
theorem dX8_at_37 : decode cX8_at 37 = .ok (.invokevirtual 138, 3) := by decide +kernel
theorem dX8_at_40 : decode cX8_at 40 = .ok (.iload_n 2, 1) := by decide +kernel
theorem dX8_at_41 : decode cX8_at 41 = .ok (.tableswitch 117 0 7 #[47, 55, 63, 71, 79, 87, 95, 106], 47) := by decide +kernel
theorem dX8_at_88 : decode cX8_at 88 = .ok (.aload_n 0, 1) := by decide +kernel
theorem dX8_at_89 : decode cX8_at 89 = .ok (.getfield 28, 3) := by decide +kernel
theorem dX8_at_92 : decode cX8_at 92 = .ok (.getfield 141, 3) := by decide +kernel
theorem dX8_at_95 : decode cX8_at 95 = .ok (.ireturn, 1) := by decide +kernel
theorem dX8_at_96 : decode cX8_at 96 = .ok (.aload_n 0, 1) := by decide +kernel
theorem dX8_at_97 : decode cX8_at 97 = .ok (.getfield 28, 3) := by decide +kernel
theorem dX8_at_100 : decode cX8_at 100 = .ok (.getfield 144, 3) := by decide +kernel
theorem dX8_at_103 : decode cX8_at 103 = .ok (.ireturn, 1) := by decide +kernel
theorem dX8_at_104 : decode cX8_at 104 = .ok (.aload_n 0, 1) := by decide +kernel
theorem dX8_at_105 : decode cX8_at 105 = .ok (.getfield 28, 3) := by decide +kernel
theorem dX8_at_108 : decode cX8_at 108 = .ok (.getfield 147, 3) := by decide +kernel
theorem dX8_at_111 : decode cX8_at 111 = .ok (.ireturn, 1) := by decide +kernel
theorem dX8_at_112 : decode cX8_at 112 = .ok (.aload_n 0, 1) := by decide +kernel
theorem dX8_at_113 : decode cX8_at 113 = .ok (.getfield 28, 3) := by decide +kernel
theorem dX8_at_116 : decode cX8_at 116 = .ok (.getfield 150, 3) := by decide +kernel
theorem dX8_at_119 : decode cX8_at 119 = .ok (.ireturn, 1) := by decide +kernel
theorem dX8_at_120 : decode cX8_at 120 = .ok (.aload_n 0, 1) := by decide +kernel
theorem dX8_at_121 : decode cX8_at 121 = .ok (.getfield 28, 3) := by decide +kernel
theorem dX8_at_124 : decode cX8_at 124 = .ok (.getfield 153, 3) := by decide +kernel
theorem dX8_at_127 : decode cX8_at 127 = .ok (.ireturn, 1) := by decide +kernel
theorem dX8_at_128 : decode cX8_at 128 = .ok (.aload_n 0, 1) := by decide +kernel
theorem dX8_at_129 : decode cX8_at 129 = .ok (.getfield 28, 3) := by decide +kernel
theorem dX8_at_132 : decode cX8_at 132 = .ok (.getfield 156, 3) := by decide +kernel
theorem dX8_at_135 : decode cX8_at 135 = .ok (.ireturn, 1) := by decide +kernel
theorem dX8_at_136 : decode cX8_at 136 = .ok (.aload_n 0, 1) := by decide +kernel
theorem dX8_at_137 : decode cX8_at 137 = .ok (.getfield 28, 3) := by decide +kernel
theorem dX8_at_140 : decode cX8_at 140 = .ok (.getfield 159, 3) := by decide +kernel
theorem dX8_at_143 : decode cX8_at 143 = .ok (.getfield 163, 3) := by decide +kernel
theorem dX8_at_146 : decode cX8_at 146 = .ok (.ireturn, 1) := by decide +kernel
theorem dX8_at_147 : decode cX8_at 147 = .ok (.aload_n 0, 1) := by decide +kernel
theorem dX8_at_148 : decode cX8_at 148 = .ok (.getfield 28, 3) := by decide +kernel
theorem dX8_at_151 : decode cX8_at 151 = .ok (.getfield 159, 3) := by decide +kernel
theorem dX8_at_154 : decode cX8_at 154 = .ok (.getfield 166, 3) := by decide +kernel
theorem dX8_at_157 : decode cX8_at 157 = .ok (.ireturn, 1) := by decide +kernel
theorem dX8_at_158 : decode cX8_at 158 = .ok (.aload_n 0, 1) := by decide +kernel
theorem dX8_at_159 : decode cX8_at 159 = .ok (.getfield 28, 3) := by decide +kernel
theorem dX8_at_162 : decode cX8_at 162 = .ok (.getfield 167, 3) := by decide +kernel
theorem dX8_at_165 : decode cX8_at 165 = .ok (.ifCond .eq 7, 3) := by decide +kernel
theorem dX8_at_168 : decode cX8_at 168 = .ok (.iconst 1, 1) := by decide +kernel
theorem dX8_at_169 : decode cX8_at 169 = .ok (.goto 4, 3) := by decide +kernel
theorem dX8_at_172 : decode cX8_at 172 = .ok (.iconst 0, 1) := by decide +kernel
theorem dX8_at_173 : decode cX8_at 173 = .ok (.ireturn, 1) := by decide +kernel
theorem dX8_end_0 : decode cX8_end 0 = .ok (.iload_n 1, 1) := by decide +kernel
theorem dX8_end_1 : decode cX8_end 1 = .ok (.iconst 0, 1) := by decide +kernel
theorem dX8_end_2 : decode cX8_end 2 = .ok (.iconst 3, 1) := by decide +kernel
theorem dX8_end_3 : decode cX8_end 3 = .ok (.invokestatic 60, 3) := by decide +kernel
theorem dX8_end_6 : decode cX8_end 6 = .ok (.ifCond .ne 5, 3) := by decide +kernel
theorem dX8_end_9 : decode cX8_end 9 = .ok (.iconst (-1), 1) := by decide +kernel
theorem dX8_end_10 : decode cX8_end 10 = .ok (.ireturn, 1) := by decide +kernel
theorem dX8_end_11 : decode cX8_end 11 = .ok (.aload_n 0, 1) := by decide +kernel
theorem dX8_end_12 : decode cX8_end 12 = .ok (.getfield 28, 3) := by decide +kernel
theorem dX8_end_15 : decode cX8_end 15 = .ok (.invokevirtual 135, 3) := by decide +kernel
theorem dX8_end_18 : decode cX8_end 18 = .ok (.aload_n 0, 1) := by decide +kernel
theorem dX8_end_19 : decode cX8_end 19 = .ok (.getfield 28, 3) := by decide +kernel
theorem dX8_end_22 : decode cX8_end 22 = .ok (.bipush 100, 2) := by decide +kernel
theorem dX8_end_24 : decode cX8_end 24 = .ok (.invokevirtual 138, 3) := by decide +kernel
theorem dX8_end_27 : decode cX8_end 27 = .ok (.aload_n 0, 1) := by decide +kernel
theorem dX8_end_28 : decode cX8_end 28 = .ok (.getfield 28, 3) := by decide +kernel
theorem dX8_end_31 : decode cX8_end 31 = .ok (.getfield 170, 3) := by decide +kernel
theorem dX8_end_34 : decode cX8_end 34 = .ok (.iconst (-1), 1) := by decide +kernel
theorem dX8_end_35 : decode cX8_end 35 = .ok (.if_icmp .eq 7, 3) := by decide +kernel
theorem dX8_end_38 : decode cX8_end 38 = .ok (.iconst 1, 1) := by decide +kernel
theorem dX8_end_39 : decode cX8_end 39 = .ok (.goto 4, 3) := by decide +kernel
theorem dX8_end_42 : decode cX8_end 42 = .ok (.iconst 0, 1) := by decide +kernel
theorem dX8_end_43 : decode cX8_end 43 = .ok (.istore_n 2, 1) := by decide +kernel
theorem dX8_end_44 : decode cX8_end 44 = .ok (.iload_n 1, 1) := by decide +kernel
theorem dX8_end_45 : decode cX8_end 45 = .ok (.tableswitch 71 0 2 #[27, 44, 63], 27) := by decide +kernel
theorem dX8_end_72 : decode cX8_end 72 = .ok (.iload_n 2, 1) := by decide +kernel
theorem dX8_end_73 : decode cX8_end 73 = .ok (.ifCond .eq 13, 3) := by decide +kernel
theorem dX8_end_76 : decode cX8_end 76 = .ok (.aload_n 0, 1) := by decide +kernel
theorem dX8_end_77 : decode cX8_end 77 = .ok (.getfield 28, 3) := by decide +kernel
theorem dX8_end_80 : decode cX8_end 80 = .ok (.getfield 170, 3) := by decide +kernel
theorem dX8_end_83 : decode cX8_end 83 = .ok (.goto 5, 3) := by decide +kernel
theorem dX8_end_86 : decode cX8_end 86 = .ok (.bipush (-4), 2) := by decide +kernel
theorem dX8_end_88 : decode cX8_end 88 = .ok (.ireturn, 1) := by decide +kernel
theorem dX8_end_89 : decode cX8_end 89 = .ok (.iload_n 2, 1) := by decide +kernel
theorem dX8_end_90 : decode cX8_end 90 = .ok (.ifCond .eq 15, 3) := by decide +kernel
theorem dX8_end_93 : decode cX8_end 93 = .ok (.aload_n 0, 1) := by decide +kernel
theorem dX8_end_94 : decode cX8_end 94 = .ok (.getfield 28, 3) := by decide +kernel
theorem dX8_end_97 : decode cX8_end 97 = .ok (.getfield 173, 3) := by decide +kernel
theorem dX8_end_100 : decode cX8_end 100 = .ok (.iconst 1, 1) := by decide +kernel
theorem dX8_end_101 : decode cX8_end 101 = .ok (.isub, 1) := by decide +kernel
theorem dX8_end_102 : decode cX8_end 102 = .ok (.goto 5, 3) := by decide +kernel
theorem dX8_end_105 : decode cX8_end 105 = .ok (.bipush (-4), 2) := by decide +kernel
theorem dX8_end_107 : decode cX8_end 107 = .ok (.ireturn, 1) := by decide +kernel
theorem dX8_end_108 : decode cX8_end 108 = .ok (.aload_n 0, 1) := by decide +kernel
theorem dX8_end_109 : decode cX8_end 109 = .ok (.getfield 28, 3) := by decide +kernel
theorem dX8_end_112 : decode cX8_end 112 = .ok (.getfield 176, 3) := by decide +kernel
theorem dX8_end_115 : decode cX8_end 115 = .ok (.ireturn, 1) := by decide +kernel
theorem dX8_end_116 : decode cX8_end 116 = .ok (.aload_n 0, 1) := by decide +kernel
theorem dX8_end_117 : decode cX8_end 117 = .ok (.getfield 28, 3) := by decide +kernel
theorem dX8_end_120 : decode cX8_end 120 = .ok (.getfield 179, 3) := by decide +kernel
theorem dX8_end_123 : decode cX8_end 123 = .ok (.ireturn, 1) := by decide +kernel
theorem dX8_count_0 : decode cX8_count 0 = .ok (.iload_n 1, 1) := by decide +kernel
theorem dX8_count_1 : decode cX8_count 1 = .ok (.tableswitch 72 0 3 #[31, 42, 53, 61], 31) := by decide +kernel
theorem dX8_count_32 : decode cX8_count 32 = .ok (.aload_n 0, 1) := by decide +kernel
theorem dX8_count_33 : decode cX8_count 33 = .ok (.getfield 10, 3) := by decide +kernel
theorem dX8_count_36 : decode cX8_count 36 = .ok (.getfield 74, 3) := by decide +kernel
theorem dX8_count_39 : decode cX8_count 39 = .ok (.getfield 182, 3) := by decide +kernel
theorem dX8_count_42 : decode cX8_count 42 = .ok (.ireturn, 1) := by decide +kernel
theorem dX8_count_43 : decode cX8_count 43 = .ok (.aload_n 0, 1) := by decide +kernel
theorem dX8_count_44 : decode cX8_count 44 = .ok (.getfield 10, 3) := by decide +kernel
theorem dX8_count_47 : decode cX8_count 47 = .ok (.getfield 97, 3) := by decide +kernel
theorem dX8_count_50 : decode cX8_count 50 = .ok (.getfield 182, 3) := by decide +kernel
theorem dX8_count_53 : decode cX8_count 53 = .ok (.ireturn, 1) := by decide +kernel
theorem dX8_count_54 : decode cX8_count 54 = .ok (.aload_n 0, 1) := by decide +kernel
theorem dX8_count_55 : decode cX8_count 55 = .ok (.getfield 10, 3) := by decide +kernel
theorem dX8_count_58 : decode cX8_count 58 = .ok (.invokevirtual 183, 3) := by decide +kernel
theorem dX8_count_61 : decode cX8_count 61 = .ok (.ireturn, 1) := by decide +kernel
theorem dX8_count_62 : decode cX8_count 62 = .ok (.aload_n 0, 1) := by decide +kernel
theorem dX8_count_63 : decode cX8_count 63 = .ok (.getfield 10, 3) := by decide +kernel
theorem dX8_count_66 : decode cX8_count 66 = .ok (.getfield 186, 3) := by decide +kernel
theorem dX8_count_69 : decode cX8_count 69 = .ok (.getfield 182, 3) := by decide +kernel
theorem dX8_count_72 : decode cX8_count 72 = .ok (.ireturn, 1) := by decide +kernel
theorem dX8_count_73 : decode cX8_count 73 = .ok (.iconst (-1), 1) := by decide +kernel
theorem dX8_count_74 : decode cX8_count 74 = .ok (.ireturn, 1) := by decide +kernel
theorem dX8_ends_0 : decode cX8_ends 0 = .ok (.iload_n 1, 1) := by decide +kernel
theorem dX8_ends_1 : decode cX8_ends 1 = .ok (.bipush (-4), 2) := by decide +kernel
theorem dX8_ends_3 : decode cX8_ends 3 = .ok (.iconst 4, 1) := by decide +kernel
theorem dX8_ends_4 : decode cX8_ends 4 = .ok (.invokestatic 60, 3) := by decide +kernel
theorem dX8_ends_7 : decode cX8_ends 7 = .ok (.ifCond .eq 13, 3) := by decide +kernel
theorem dX8_ends_10 : decode cX8_ends 10 = .ok (.iload_n 2, 1) := by decide +kernel
theorem dX8_ends_11 : decode cX8_ends 11 = .ok (.iconst 0, 1) := by decide +kernel
theorem dX8_ends_12 : decode cX8_ends 12 = .ok (.bipush 9, 2) := by decide +kernel
theorem dX8_ends_14 : decode cX8_ends 14 = .ok (.invokestatic 60, 3) := by decide +kernel
theorem dX8_ends_17 : decode cX8_ends 17 = .ok (.ifCond .ne 5, 3) := by decide +kernel
theorem dX8_ends_20 : decode cX8_ends 20 = .ok (.iconst (-1), 1) := by decide +kernel
theorem dX8_ends_21 : decode cX8_ends 21 = .ok (.ireturn, 1) := by decide +kernel
theorem dX8_ends_22 : decode cX8_ends 22 = .ok (.aload_n 0, 1) := by decide +kernel
theorem dX8_ends_23 : decode cX8_ends 23 = .ok (.getfield 10, 3) := by decide +kernel
theorem dX8_ends_26 : decode cX8_ends 26 = .ok (.invokevirtual 189, 3) := by decide +kernel
theorem dX8_ends_29 : decode cX8_ends 29 = .ok (.ifCond .eq 6, 3) := by decide +kernel
theorem dX8_ends_32 : decode cX8_ends 32 = .ok (.bipush (-2), 2) := by decide +kernel
theorem dX8_ends_34 : decode cX8_ends 34 = .ok (.ireturn, 1) := by decide +kernel
theorem dX8_ends_35 : decode cX8_ends 35 = .ok (.aload_n 0, 1) := by decide +kernel
theorem dX8_ends_36 : decode cX8_ends 36 = .ok (.getfield 28, 3) := by decide +kernel
theorem dX8_ends_39 : decode cX8_ends 39 = .ok (.aload_n 0, 1) := by decide +kernel
theorem dX8_ends_40 : decode cX8_ends 40 = .ok (.getfield 10, 3) := by decide +kernel
theorem dX8_ends_43 : decode cX8_ends 43 = .ok (.getfield 71, 3) := by decide +kernel
theorem dX8_ends_46 : decode cX8_ends 46 = .ok (.iconst 0, 1) := by decide +kernel
theorem dX8_ends_47 : decode cX8_ends 47 = .ok (.iaload, 1) := by decide +kernel
theorem dX8_ends_48 : decode cX8_ends 48 = .ok (.iload_n 1, 1) := by decide +kernel
theorem dX8_ends_49 : decode cX8_ends 49 = .ok (.iload_n 2, 1) := by decide +kernel
theorem dX8_ends_50 : decode cX8_ends 50 = .ok (.invokevirtual 192, 3) := by decide +kernel
theorem dX8_ends_53 : decode cX8_ends 53 = .ok (.istore_n 3, 1) := by decide +kernel
theorem dX8_ends_54 : decode cX8_ends 54 = .ok (.iload_n 3, 1) := by decide +kernel
theorem dX8_ends_55 : decode cX8_ends 55 = .ok (.iconst (-1), 1) := by decide +kernel
theorem dX8_ends_56 : decode cX8_ends 56 = .ok (.if_icmp .ne 8, 3) := by decide +kernel
theorem dX8_ends_59 : decode cX8_ends 59 = .ok (.bipush (-4), 2) := by decide +kernel
theorem dX8_ends_61 : decode cX8_ends 61 = .ok (.goto 4, 3) := by decide +kernel
theorem dX8_ends_64 : decode cX8_ends 64 = .ok (.iload_n 3, 1) := by decide +kernel
theorem dX8_ends_65 : decode cX8_ends 65 = .ok (.ireturn, 1) := by decide +kernel
theorem dX8_cells_0 : decode cX8_cells 0 = .ok (.aload_n 0, 1) := by decide +kernel
theorem dX8_cells_1 : decode cX8_cells 1 = .ok (.getfield 10, 3) := by decide +kernel
theorem dX8_cells_4 : decode cX8_cells 4 = .ok (.getfield 74, 3) := by decide +kernel
theorem dX8_cells_7 : decode cX8_cells 7 = .ok (.iload_n 1, 1) := by decide +kernel
theorem dX8_cells_8 : decode cX8_cells 8 = .ok (.invokevirtual 88, 3) := by decide +kernel
theorem dX8_cells_11 : decode cX8_cells 11 = .ok (.ifCond .eq 12, 3) := by decide +kernel
theorem dX8_cells_14 : decode cX8_cells 14 = .ok (.iload_n 2, 1) := by decide +kernel
theorem dX8_cells_15 : decode cX8_cells 15 = .ok (.iconst 0, 1) := by decide +kernel
theorem dX8_cells_16 : decode cX8_cells 16 = .ok (.iconst 2, 1) := by decide +kernel
theorem dX8_cells_17 : decode cX8_cells 17 = .ok (.invokestatic 60, 3) := by decide +kernel
theorem dX8_cells_20 : decode cX8_cells 20 = .ok (.ifCond .ne 5, 3) := by decide +kernel
theorem dX8_cells_23 : decode cX8_cells 23 = .ok (.iconst (-1), 1) := by decide +kernel
theorem dX8_cells_24 : decode cX8_cells 24 = .ok (.ireturn, 1) := by decide +kernel
theorem dX8_cells_25 : decode cX8_cells 25 = .ok (.aload_n 0, 1) := by decide +kernel
theorem dX8_cells_26 : decode cX8_cells 26 = .ok (.getfield 10, 3) := by decide +kernel
theorem dX8_cells_29 : decode cX8_cells 29 = .ok (.invokevirtual 189, 3) := by decide +kernel
theorem dX8_cells_32 : decode cX8_cells 32 = .ok (.ifCond .eq 6, 3) := by decide +kernel
theorem dX8_cells_35 : decode cX8_cells 35 = .ok (.bipush (-2), 2) := by decide +kernel
theorem dX8_cells_37 : decode cX8_cells 37 = .ok (.ireturn, 1) := by decide +kernel
theorem dX8_cells_38 : decode cX8_cells 38 = .ok (.aload_n 0, 1) := by decide +kernel
theorem dX8_cells_39 : decode cX8_cells 39 = .ok (.getfield 35, 3) := by decide +kernel
theorem dX8_cells_42 : decode cX8_cells 42 = .ok (.aload_n 0, 1) := by decide +kernel
theorem dX8_cells_43 : decode cX8_cells 43 = .ok (.getfield 28, 3) := by decide +kernel
theorem dX8_cells_46 : decode cX8_cells 46 = .ok (.aload_n 0, 1) := by decide +kernel
theorem dX8_cells_47 : decode cX8_cells 47 = .ok (.getfield 10, 3) := by decide +kernel
theorem dX8_cells_50 : decode cX8_cells 50 = .ok (.getfield 71, 3) := by decide +kernel
theorem dX8_cells_53 : decode cX8_cells 53 = .ok (.iconst 0, 1) := by decide +kernel
theorem dX8_cells_54 : decode cX8_cells 54 = .ok (.iaload, 1) := by decide +kernel
theorem dX8_cells_55 : decode cX8_cells 55 = .ok (.invokevirtual 196, 3) := by decide +kernel
theorem dX8_cells_58 : decode cX8_cells 58 = .ok (.iload_n 2, 1) := by decide +kernel
theorem dX8_cells_59 : decode cX8_cells 59 = .ok (.ifCond .ne 12, 3) := by decide +kernel
theorem dX8_cells_62 : decode cX8_cells 62 = .ok (.aload_n 0, 1) := by decide +kernel
theorem dX8_cells_63 : decode cX8_cells 63 = .ok (.getfield 35, 3) := by decide +kernel
theorem dX8_cells_66 : decode cX8_cells 66 = .ok (.iload_n 1, 1) := by decide +kernel
theorem dX8_cells_67 : decode cX8_cells 67 = .ok (.invokevirtual 200, 3) := by decide +kernel
theorem dX8_cells_70 : decode cX8_cells 70 = .ok (.ireturn, 1) := by decide +kernel
theorem dX8_cells_71 : decode cX8_cells 71 = .ok (.aload_n 0, 1) := by decide +kernel
theorem dX8_cells_72 : decode cX8_cells 72 = .ok (.getfield 35, 3) := by decide +kernel
theorem dX8_cells_75 : decode cX8_cells 75 = .ok (.iload_n 1, 1) := by decide +kernel
theorem dX8_cells_76 : decode cX8_cells 76 = .ok (.invokevirtual 204, 3) := by decide +kernel
theorem dX8_cells_79 : decode cX8_cells 79 = .ok (.iload_n 2, 1) := by decide +kernel
theorem dX8_cells_80 : decode cX8_cells 80 = .ok (.iconst 1, 1) := by decide +kernel
theorem dX8_cells_81 : decode cX8_cells 81 = .ok (.if_icmp .ne 13, 3) := by decide +kernel
theorem dX8_cells_84 : decode cX8_cells 84 = .ok (.aload_n 0, 1) := by decide +kernel
theorem dX8_cells_85 : decode cX8_cells 85 = .ok (.getfield 35, 3) := by decide +kernel
theorem dX8_cells_88 : decode cX8_cells 88 = .ok (.getfield 207, 3) := by decide +kernel
theorem dX8_cells_91 : decode cX8_cells 91 = .ok (.goto 10, 3) := by decide +kernel
theorem dX8_cells_94 : decode cX8_cells 94 = .ok (.aload_n 0, 1) := by decide +kernel
theorem dX8_cells_95 : decode cX8_cells 95 = .ok (.getfield 35, 3) := by decide +kernel
theorem dX8_cells_98 : decode cX8_cells 98 = .ok (.getfield 210, 3) := by decide +kernel
theorem dX8_cells_101 : decode cX8_cells 101 = .ok (.ireturn, 1) := by decide +kernel
theorem dX8_middle_0 : decode cX8_middle 0 = .ok (.aload_n 0, 1) := by decide +kernel
theorem dX8_middle_1 : decode cX8_middle 1 = .ok (.getfield 10, 3) := by decide +kernel
theorem dX8_middle_4 : decode cX8_middle 4 = .ok (.getfield 74, 3) := by decide +kernel
theorem dX8_middle_7 : decode cX8_middle 7 = .ok (.iload_n 1, 1) := by decide +kernel
theorem dX8_middle_8 : decode cX8_middle 8 = .ok (.invokevirtual 88, 3) := by decide +kernel
theorem dX8_middle_11 : decode cX8_middle 11 = .ok (.ifCond .eq 12, 3) := by decide +kernel
theorem dX8_middle_14 : decode cX8_middle 14 = .ok (.iload_n 2, 1) := by decide +kernel
theorem dX8_middle_15 : decode cX8_middle 15 = .ok (.iconst 0, 1) := by decide +kernel
theorem dX8_middle_16 : decode cX8_middle 16 = .ok (.iconst 2, 1) := by decide +kernel
theorem dX8_middle_17 : decode cX8_middle 17 = .ok (.invokestatic 60, 3) := by decide +kernel
theorem dX8_middle_20 : decode cX8_middle 20 = .ok (.ifCond .ne 6, 3) := by decide +kernel
theorem dX8_middle_23 : decode cX8_middle 23 = .ok (.ldc 92, 2) := by decide +kernel
theorem dX8_middle_25 : decode cX8_middle 25 = .ok (.ireturn, 1) := by decide +kernel
theorem dX8_middle_26 : decode cX8_middle 26 = .ok (.aload_n 0, 1) := by decide +kernel
theorem dX8_middle_27 : decode cX8_middle 27 = .ok (.getfield 10, 3) := by decide +kernel
theorem dX8_middle_30 : decode cX8_middle 30 = .ok (.invokevirtual 189, 3) := by decide +kernel
theorem dX8_middle_33 : decode cX8_middle 33 = .ok (.ifCond .eq 6, 3) := by decide +kernel
theorem dX8_middle_36 : decode cX8_middle 36 = .ok (.ldc 213, 2) := by decide +kernel
theorem dX8_middle_38 : decode cX8_middle 38 = .ok (.ireturn, 1) := by decide +kernel
theorem dX8_middle_39 : decode cX8_middle 39 = .ok (.aload_n 0, 1) := by decide +kernel
theorem dX8_middle_40 : decode cX8_middle 40 = .ok (.getfield 35, 3) := by decide +kernel
theorem dX8_middle_43 : decode cX8_middle 43 = .ok (.aload_n 0, 1) := by decide +kernel
theorem dX8_middle_44 : decode cX8_middle 44 = .ok (.getfield 28, 3) := by decide +kernel
theorem dX8_middle_47 : decode cX8_middle 47 = .ok (.aload_n 0, 1) := by decide +kernel
theorem dX8_middle_48 : decode cX8_middle 48 = .ok (.getfield 10, 3) := by decide +kernel
theorem dX8_middle_51 : decode cX8_middle 51 = .ok (.getfield 71, 3) := by decide +kernel
theorem dX8_middle_54 : decode cX8_middle 54 = .ok (.iconst 0, 1) := by decide +kernel
theorem dX8_middle_55 : decode cX8_middle 55 = .ok (.iaload, 1) := by decide +kernel
theorem dX8_middle_56 : decode cX8_middle 56 = .ok (.invokevirtual 196, 3) := by decide +kernel
theorem dX8_middle_59 : decode cX8_middle 59 = .ok (.aload_n 0, 1) := by decide +kernel
theorem dX8_middle_60 : decode cX8_middle 60 = .ok (.getfield 35, 3) := by decide +kernel
theorem dX8_middle_63 : decode cX8_middle 63 = .ok (.iload_n 1, 1) := by decide +kernel
theorem dX8_middle_64 : decode cX8_middle 64 = .ok (.invokevirtual 214, 3) := by decide +kernel
theorem dX8_middle_67 : decode cX8_middle 67 = .ok (.istore_n 3, 1) := by decide +kernel
theorem dX8_middle_68 : decode cX8_middle 68 = .ok (.iload_n 3, 1) := by decide +kernel
theorem dX8_middle_69 : decode cX8_middle 69 = .ok (.iconst (-1), 1) := by decide +kernel
theorem dX8_middle_70 : decode cX8_middle 70 = .ok (.if_icmp .ne 6, 3) := by decide +kernel
theorem dX8_middle_73 : decode cX8_middle 73 = .ok (.ldc 217, 2) := by decide +kernel
theorem dX8_middle_75 : decode cX8_middle 75 = .ok (.ireturn, 1) := by decide +kernel
theorem dX8_middle_76 : decode cX8_middle 76 = .ok (.iload_n 2, 1) := by decide +kernel
theorem dX8_middle_77 : decode cX8_middle 77 = .ok (.lookupswitch 37 #[(0, 27), (1, 32)], 27) := by decide +kernel
theorem dX8_middle_104 : decode cX8_middle 104 = .ok (.iload_n 3, 1) := by decide +kernel
theorem dX8_middle_105 : decode cX8_middle 105 = .ok (.invokestatic 218, 3) := by decide +kernel
theorem dX8_middle_108 : decode cX8_middle 108 = .ok (.ireturn, 1) := by decide +kernel
theorem dX8_middle_109 : decode cX8_middle 109 = .ok (.iload_n 3, 1) := by decide +kernel
theorem dX8_middle_110 : decode cX8_middle 110 = .ok (.invokestatic 221, 3) := by decide +kernel
theorem dX8_middle_113 : decode cX8_middle 113 = .ok (.ireturn, 1) := by decide +kernel
theorem dX8_middle_114 : decode cX8_middle 114 = .ok (.aload_n 0, 1) := by decide +kernel
theorem dX8_middle_115 : decode cX8_middle 115 = .ok (.getfield 35, 3) := by decide +kernel
theorem dX8_middle_118 : decode cX8_middle 118 = .ok (.iload_n 3, 1) := by decide +kernel
theorem dX8_middle_119 : decode cX8_middle 119 = .ok (.iload_n 1, 1) := by decide +kernel
theorem dX8_middle_120 : decode cX8_middle 120 = .ok (.invokevirtual 224, 3) := by decide +kernel
theorem dX8_middle_123 : decode cX8_middle 123 = .ok (.ireturn, 1) := by decide +kernel
theorem dX8_mended_0 : decode cX8_mended 0 = .ok (.aload_n 0, 1) := by decide +kernel
theorem dX8_mended_1 : decode cX8_mended 1 = .ok (.getfield 10, 3) := by decide +kernel
theorem dX8_mended_4 : decode cX8_mended 4 = .ok (.getfield 74, 3) := by decide +kernel
theorem dX8_mended_7 : decode cX8_mended 7 = .ok (.iload_n 1, 1) := by decide +kernel
theorem dX8_mended_8 : decode cX8_mended 8 = .ok (.invokevirtual 88, 3) := by decide +kernel
theorem dX8_mended_11 : decode cX8_mended 11 = .ok (.ifCond .eq 13, 3) := by decide +kernel
theorem dX8_mended_14 : decode cX8_mended 14 = .ok (.iload_n 2, 1) := by decide +kernel
theorem dX8_mended_15 : decode cX8_mended 15 = .ok (.iconst 0, 1) := by decide +kernel
theorem dX8_mended_16 : decode cX8_mended 16 = .ok (.bipush 99, 2) := by decide +kernel
theorem dX8_mended_18 : decode cX8_mended 18 = .ok (.invokestatic 60, 3) := by decide +kernel
theorem dX8_mended_21 : decode cX8_mended 21 = .ok (.ifCond .ne 5, 3) := by decide +kernel
theorem dX8_mended_24 : decode cX8_mended 24 = .ok (.iconst (-1), 1) := by decide +kernel
theorem dX8_mended_25 : decode cX8_mended 25 = .ok (.ireturn, 1) := by decide +kernel
theorem dX8_mended_26 : decode cX8_mended 26 = .ok (.aload_n 0, 1) := by decide +kernel
theorem dX8_mended_27 : decode cX8_mended 27 = .ok (.getfield 10, 3) := by decide +kernel
theorem dX8_mended_30 : decode cX8_mended 30 = .ok (.invokevirtual 189, 3) := by decide +kernel
theorem dX8_mended_33 : decode cX8_mended 33 = .ok (.ifCond .eq 6, 3) := by decide +kernel
theorem dX8_mended_36 : decode cX8_mended 36 = .ok (.bipush (-2), 2) := by decide +kernel
theorem dX8_mended_38 : decode cX8_mended 38 = .ok (.ireturn, 1) := by decide +kernel
theorem dX8_mended_39 : decode cX8_mended 39 = .ok (.aload_n 0, 1) := by decide +kernel
theorem dX8_mended_40 : decode cX8_mended 40 = .ok (.getfield 10, 3) := by decide +kernel
theorem dX8_mended_43 : decode cX8_mended 43 = .ok (.getfield 71, 3) := by decide +kernel
theorem dX8_mended_46 : decode cX8_mended 46 = .ok (.iconst 0, 1) := by decide +kernel
theorem dX8_mended_47 : decode cX8_mended 47 = .ok (.iaload, 1) := by decide +kernel
theorem dX8_mended_48 : decode cX8_mended 48 = .ok (.istore_n 3, 1) := by decide +kernel
theorem dX8_mended_49 : decode cX8_mended 49 = .ok (.iconst 0, 1) := by decide +kernel
theorem dX8_mended_50 : decode cX8_mended 50 = .ok (.istore 4, 2) := by decide +kernel
theorem dX8_mended_52 : decode cX8_mended 52 = .ok (.iconst 0, 1) := by decide +kernel
theorem dX8_mended_53 : decode cX8_mended 53 = .ok (.istore 5, 2) := by decide +kernel
theorem dX8_mended_55 : decode cX8_mended 55 = .ok (.iload 5, 2) := by decide +kernel
theorem dX8_mended_57 : decode cX8_mended 57 = .ok (.bipush 90, 2) := by decide +kernel
theorem dX8_mended_59 : decode cX8_mended 59 = .ok (.if_icmp .ge 59, 3) := by decide +kernel
theorem dX8_mended_62 : decode cX8_mended 62 = .ok (.iload 5, 2) := by decide +kernel
theorem dX8_mended_64 : decode cX8_mended 64 = .ok (.invokestatic 218, 3) := by decide +kernel
theorem dX8_mended_67 : decode cX8_mended 67 = .ok (.istore 6, 2) := by decide +kernel
theorem dX8_mended_69 : decode cX8_mended 69 = .ok (.iload 5, 2) := by decide +kernel
theorem dX8_mended_71 : decode cX8_mended 71 = .ok (.invokestatic 221, 3) := by decide +kernel
theorem dX8_mended_74 : decode cX8_mended 74 = .ok (.istore 7, 2) := by decide +kernel
theorem dX8_mended_76 : decode cX8_mended 76 = .ok (.aload_n 0, 1) := by decide +kernel
theorem dX8_mended_77 : decode cX8_mended 77 = .ok (.getfield 28, 3) := by decide +kernel
theorem dX8_mended_80 : decode cX8_mended 80 = .ok (.iload_n 3, 1) := by decide +kernel
theorem dX8_mended_81 : decode cX8_mended 81 = .ok (.iload 6, 2) := by decide +kernel
theorem dX8_mended_83 : decode cX8_mended 83 = .ok (.iload 7, 2) := by decide +kernel
theorem dX8_mended_85 : decode cX8_mended 85 = .ok (.invokevirtual 192, 3) := by decide +kernel
theorem dX8_mended_88 : decode cX8_mended 88 = .ok (.iload_n 1, 1) := by decide +kernel
theorem dX8_mended_89 : decode cX8_mended 89 = .ok (.if_icmp .eq 23, 3) := by decide +kernel
theorem dX8_mended_92 : decode cX8_mended 92 = .ok (.aload_n 0, 1) := by decide +kernel
theorem dX8_mended_93 : decode cX8_mended 93 = .ok (.getfield 28, 3) := by decide +kernel
theorem dX8_mended_96 : decode cX8_mended 96 = .ok (.iload_n 1, 1) := by decide +kernel
theorem dX8_mended_97 : decode cX8_mended 97 = .ok (.iload_n 2, 1) := by decide +kernel
theorem dX8_mended_98 : decode cX8_mended 98 = .ok (.iload 6, 2) := by decide +kernel
theorem dX8_mended_100 : decode cX8_mended 100 = .ok (.iload 7, 2) := by decide +kernel
theorem dX8_mended_102 : decode cX8_mended 102 = .ok (.invokevirtual 227, 3) := by decide +kernel
theorem dX8_mended_105 : decode cX8_mended 105 = .ok (.iload_n 1, 1) := by decide +kernel
theorem dX8_mended_106 : decode cX8_mended 106 = .ok (.if_icmp .ne 6, 3) := by decide +kernel
theorem dX8_mended_109 : decode cX8_mended 109 = .ok (.iinc 4 1, 3) := by decide +kernel
theorem dX8_mended_112 : decode cX8_mended 112 = .ok (.iinc 5 1, 3) := by decide +kernel
theorem dX8_mended_115 : decode cX8_mended 115 = .ok (.goto (-60), 3) := by decide +kernel
theorem dX8_mended_118 : decode cX8_mended 118 = .ok (.iload 4, 2) := by decide +kernel
theorem dX8_mended_120 : decode cX8_mended 120 = .ok (.ireturn, 1) := by decide +kernel
theorem dX8_odds_0 : decode cX8_odds 0 = .ok (.aload_n 0, 1) := by decide +kernel
theorem dX8_odds_1 : decode cX8_odds 1 = .ok (.getfield 10, 3) := by decide +kernel
theorem dX8_odds_4 : decode cX8_odds 4 = .ok (.getfield 74, 3) := by decide +kernel
theorem dX8_odds_7 : decode cX8_odds 7 = .ok (.iload_n 1, 1) := by decide +kernel
theorem dX8_odds_8 : decode cX8_odds 8 = .ok (.invokevirtual 88, 3) := by decide +kernel
theorem dX8_odds_11 : decode cX8_odds 11 = .ok (.ifCond .ne 5, 3) := by decide +kernel
theorem dX8_odds_14 : decode cX8_odds 14 = .ok (.iconst (-1), 1) := by decide +kernel
theorem dX8_odds_15 : decode cX8_odds 15 = .ok (.ireturn, 1) := by decide +kernel
theorem dX8_odds_16 : decode cX8_odds 16 = .ok (.aload_n 0, 1) := by decide +kernel
theorem dX8_odds_17 : decode cX8_odds 17 = .ok (.getfield 10, 3) := by decide +kernel
theorem dX8_odds_20 : decode cX8_odds 20 = .ok (.invokevirtual 189, 3) := by decide +kernel
theorem dX8_odds_23 : decode cX8_odds 23 = .ok (.ifCond .eq 8, 3) := by decide +kernel
theorem dX8_odds_26 : decode cX8_odds 26 = .ok (.bipush (-2), 2) := by decide +kernel
theorem dX8_odds_28 : decode cX8_odds 28 = .ok (.goto 20, 3) := by decide +kernel
theorem dX8_odds_31 : decode cX8_odds 31 = .ok (.aload_n 0, 1) := by decide +kernel
theorem dX8_odds_32 : decode cX8_odds 32 = .ok (.getfield 28, 3) := by decide +kernel
theorem dX8_odds_35 : decode cX8_odds 35 = .ok (.aload_n 0, 1) := by decide +kernel
theorem dX8_odds_36 : decode cX8_odds 36 = .ok (.getfield 10, 3) := by decide +kernel
theorem dX8_odds_39 : decode cX8_odds 39 = .ok (.getfield 71, 3) := by decide +kernel
theorem dX8_odds_42 : decode cX8_odds 42 = .ok (.iconst 0, 1) := by decide +kernel
theorem dX8_odds_43 : decode cX8_odds 43 = .ok (.iaload, 1) := by decide +kernel
theorem dX8_odds_44 : decode cX8_odds 44 = .ok (.iload_n 1, 1) := by decide +kernel
theorem dX8_odds_45 : decode cX8_odds 45 = .ok (.invokevirtual 231, 3) := by decide +kernel
theorem dX8_odds_48 : decode cX8_odds 48 = .ok (.ireturn, 1) := by decide +kernel
theorem dX8_which_0 : decode cX8_which 0 = .ok (.aload_n 0, 1) := by decide +kernel
theorem dX8_which_1 : decode cX8_which 1 = .ok (.getfield 10, 3) := by decide +kernel
theorem dX8_which_4 : decode cX8_which 4 = .ok (.invokevirtual 189, 3) := by decide +kernel
theorem dX8_which_7 : decode cX8_which 7 = .ok (.ifCond .eq 6, 3) := by decide +kernel
theorem dX8_which_10 : decode cX8_which 10 = .ok (.bipush (-2), 2) := by decide +kernel
theorem dX8_which_12 : decode cX8_which 12 = .ok (.ireturn, 1) := by decide +kernel
theorem dX8_which_13 : decode cX8_which 13 = .ok (.bipush (-4), 2) := by decide +kernel
theorem dX8_which_15 : decode cX8_which 15 = .ok (.istore_n 1, 1) := by decide +kernel
theorem dX8_which_16 : decode cX8_which 16 = .ok (.iconst (-1), 1) := by decide +kernel
theorem dX8_which_17 : decode cX8_which 17 = .ok (.istore_n 2, 1) := by decide +kernel
theorem dX8_which_18 : decode cX8_which 18 = .ok (.iconst 0, 1) := by decide +kernel
theorem dX8_which_19 : decode cX8_which 19 = .ok (.istore_n 3, 1) := by decide +kernel
theorem dX8_which_20 : decode cX8_which 20 = .ok (.iload_n 3, 1) := by decide +kernel
theorem dX8_which_21 : decode cX8_which 21 = .ok (.aload_n 0, 1) := by decide +kernel
theorem dX8_which_22 : decode cX8_which 22 = .ok (.getfield 10, 3) := by decide +kernel
theorem dX8_which_25 : decode cX8_which 25 = .ok (.getfield 74, 3) := by decide +kernel
theorem dX8_which_28 : decode cX8_which 28 = .ok (.getfield 182, 3) := by decide +kernel
theorem dX8_which_31 : decode cX8_which 31 = .ok (.if_icmp .ge 52, 3) := by decide +kernel
theorem dX8_which_34 : decode cX8_which 34 = .ok (.aload_n 0, 1) := by decide +kernel
theorem dX8_which_35 : decode cX8_which 35 = .ok (.getfield 28, 3) := by decide +kernel
theorem dX8_which_38 : decode cX8_which 38 = .ok (.aload_n 0, 1) := by decide +kernel
theorem dX8_which_39 : decode cX8_which 39 = .ok (.getfield 10, 3) := by decide +kernel
theorem dX8_which_42 : decode cX8_which 42 = .ok (.getfield 71, 3) := by decide +kernel
theorem dX8_which_45 : decode cX8_which 45 = .ok (.iconst 0, 1) := by decide +kernel
theorem dX8_which_46 : decode cX8_which 46 = .ok (.iaload, 1) := by decide +kernel
theorem dX8_which_47 : decode cX8_which 47 = .ok (.iload_n 3, 1) := by decide +kernel
theorem dX8_which_48 : decode cX8_which 48 = .ok (.invokevirtual 231, 3) := by decide +kernel
theorem dX8_which_51 : decode cX8_which 51 = .ok (.aload_n 0, 1) := by decide +kernel
theorem dX8_which_52 : decode cX8_which 52 = .ok (.getfield 10, 3) := by decide +kernel
theorem dX8_which_55 : decode cX8_which 55 = .ok (.getfield 74, 3) := by decide +kernel
theorem dX8_which_58 : decode cX8_which 58 = .ok (.iload_n 3, 1) := by decide +kernel
theorem dX8_which_59 : decode cX8_which 59 = .ok (.iconst 3, 1) := by decide +kernel
theorem dX8_which_60 : decode cX8_which 60 = .ok (.invokevirtual 93, 3) := by decide +kernel
theorem dX8_which_63 : decode cX8_which 63 = .ok (.imul, 1) := by decide +kernel
theorem dX8_which_64 : decode cX8_which 64 = .ok (.istore 4, 2) := by decide +kernel
theorem dX8_which_66 : decode cX8_which 66 = .ok (.iload 4, 2) := by decide +kernel
theorem dX8_which_68 : decode cX8_which 68 = .ok (.iload_n 2, 1) := by decide +kernel
theorem dX8_which_69 : decode cX8_which 69 = .ok (.if_icmp .le 8, 3) := by decide +kernel
theorem dX8_which_72 : decode cX8_which 72 = .ok (.iload 4, 2) := by decide +kernel
theorem dX8_which_74 : decode cX8_which 74 = .ok (.istore_n 2, 1) := by decide +kernel
theorem dX8_which_75 : decode cX8_which 75 = .ok (.iload_n 3, 1) := by decide +kernel
theorem dX8_which_76 : decode cX8_which 76 = .ok (.istore_n 1, 1) := by decide +kernel
theorem dX8_which_77 : decode cX8_which 77 = .ok (.iinc 3 1, 3) := by decide +kernel
theorem dX8_which_80 : decode cX8_which 80 = .ok (.goto (-60), 3) := by decide +kernel
theorem dX8_which_83 : decode cX8_which 83 = .ok (.iload_n 1, 1) := by decide +kernel
theorem dX8_which_84 : decode cX8_which 84 = .ok (.ireturn, 1) := by decide +kernel
theorem dX8_trick_0 : decode cX8_trick 0 = .ok (.iload_n 1, 1) := by decide +kernel
theorem dX8_trick_1 : decode cX8_trick 1 = .ok (.iconst 0, 1) := by decide +kernel
theorem dX8_trick_2 : decode cX8_trick 2 = .ok (.bipush 16, 2) := by decide +kernel
theorem dX8_trick_4 : decode cX8_trick 4 = .ok (.invokestatic 60, 3) := by decide +kernel
theorem dX8_trick_7 : decode cX8_trick 7 = .ok (.ifCond .eq 17, 3) := by decide +kernel
theorem dX8_trick_10 : decode cX8_trick 10 = .ok (.iload_n 3, 1) := by decide +kernel
theorem dX8_trick_11 : decode cX8_trick 11 = .ok (.iconst 0, 1) := by decide +kernel
theorem dX8_trick_12 : decode cX8_trick 12 = .ok (.bipush 99, 2) := by decide +kernel
theorem dX8_trick_14 : decode cX8_trick 14 = .ok (.invokestatic 60, 3) := by decide +kernel
theorem dX8_trick_17 : decode cX8_trick 17 = .ok (.ifCond .eq 7, 3) := by decide +kernel
theorem dX8_trick_20 : decode cX8_trick 20 = .ok (.iconst 1, 1) := by decide +kernel
theorem dX8_trick_21 : decode cX8_trick 21 = .ok (.goto 4, 3) := by decide +kernel
theorem dX8_trick_24 : decode cX8_trick 24 = .ok (.iconst 0, 1) := by decide +kernel
theorem dX8_trick_25 : decode cX8_trick 25 = .ok (.istore 5, 2) := by decide +kernel
theorem dX8_trick_27 : decode cX8_trick 27 = .ok (.iload 5, 2) := by decide +kernel
theorem dX8_trick_29 : decode cX8_trick 29 = .ok (.ifCond .eq 24, 3) := by decide +kernel
theorem dX8_trick_32 : decode cX8_trick 32 = .ok (.iload_n 2, 1) := by decide +kernel
theorem dX8_trick_33 : decode cX8_trick 33 = .ok (.iconst 1, 1) := by decide +kernel
theorem dX8_trick_34 : decode cX8_trick 34 = .ok (.bipush 60, 2) := by decide +kernel
theorem dX8_trick_36 : decode cX8_trick 36 = .ok (.invokestatic 60, 3) := by decide +kernel
theorem dX8_trick_39 : decode cX8_trick 39 = .ok (.ifCond .eq 14, 3) := by decide +kernel
theorem dX8_trick_42 : decode cX8_trick 42 = .ok (.iload 4, 2) := by decide +kernel
theorem dX8_trick_44 : decode cX8_trick 44 = .ok (.iconst 1, 1) := by decide +kernel
theorem dX8_trick_45 : decode cX8_trick 45 = .ok (.bipush 9, 2) := by decide +kernel
theorem dX8_trick_47 : decode cX8_trick 47 = .ok (.invokestatic 60, 3) := by decide +kernel
theorem dX8_trick_50 : decode cX8_trick 50 = .ok (.ifCond .ne 5, 3) := by decide +kernel
theorem dX8_trick_53 : decode cX8_trick 53 = .ok (.iconst (-1), 1) := by decide +kernel
theorem dX8_trick_54 : decode cX8_trick 54 = .ok (.ireturn, 1) := by decide +kernel
theorem dX8_trick_55 : decode cX8_trick 55 = .ok (.aload_n 0, 1) := by decide +kernel
theorem dX8_trick_56 : decode cX8_trick 56 = .ok (.getfield 10, 3) := by decide +kernel
theorem dX8_trick_59 : decode cX8_trick 59 = .ok (.getfield 186, 3) := by decide +kernel
theorem dX8_trick_62 : decode cX8_trick 62 = .ok (.invokevirtual 78, 3) := by decide +kernel
theorem dX8_trick_65 : decode cX8_trick 65 = .ok (.ifCond .eq 6, 3) := by decide +kernel
theorem dX8_trick_68 : decode cX8_trick 68 = .ok (.bipush (-3), 2) := by decide +kernel
theorem dX8_trick_70 : decode cX8_trick 70 = .ok (.ireturn, 1) := by decide +kernel
theorem dX8_trick_71 : decode cX8_trick 71 = .ok (.aload_n 0, 1) := by decide +kernel
theorem dX8_trick_72 : decode cX8_trick 72 = .ok (.getfield 10, 3) := by decide +kernel
theorem dX8_trick_75 : decode cX8_trick 75 = .ok (.getfield 186, 3) := by decide +kernel
theorem dX8_trick_78 : decode cX8_trick 78 = .ok (.invokevirtual 234, 3) := by decide +kernel
theorem dX8_trick_81 : decode cX8_trick 81 = .ok (.istore 6, 2) := by decide +kernel
theorem dX8_trick_83 : decode cX8_trick 83 = .ok (.aload_n 0, 1) := by decide +kernel
theorem dX8_trick_84 : decode cX8_trick 84 = .ok (.getfield 10, 3) := by decide +kernel
theorem dX8_trick_87 : decode cX8_trick 87 = .ok (.getfield 186, 3) := by decide +kernel
theorem dX8_trick_90 : decode cX8_trick 90 = .ok (.iload 6, 2) := by decide +kernel
theorem dX8_trick_92 : decode cX8_trick 92 = .ok (.iconst 0, 1) := by decide +kernel
theorem dX8_trick_93 : decode cX8_trick 93 = .ok (.iload_n 1, 1) := by decide +kernel
theorem dX8_trick_94 : decode cX8_trick 94 = .ok (.invokevirtual 237, 3) := by decide +kernel
theorem dX8_trick_97 : decode cX8_trick 97 = .ok (.aload_n 0, 1) := by decide +kernel
theorem dX8_trick_98 : decode cX8_trick 98 = .ok (.getfield 10, 3) := by decide +kernel
theorem dX8_trick_101 : decode cX8_trick 101 = .ok (.getfield 186, 3) := by decide +kernel
theorem dX8_trick_104 : decode cX8_trick 104 = .ok (.iload 6, 2) := by decide +kernel
theorem dX8_trick_106 : decode cX8_trick 106 = .ok (.iconst 1, 1) := by decide +kernel
theorem dX8_trick_107 : decode cX8_trick 107 = .ok (.iload_n 2, 1) := by decide +kernel
theorem dX8_trick_108 : decode cX8_trick 108 = .ok (.invokevirtual 237, 3) := by decide +kernel
theorem dX8_trick_111 : decode cX8_trick 111 = .ok (.aload_n 0, 1) := by decide +kernel
theorem dX8_trick_112 : decode cX8_trick 112 = .ok (.getfield 10, 3) := by decide +kernel
theorem dX8_trick_115 : decode cX8_trick 115 = .ok (.getfield 186, 3) := by decide +kernel
theorem dX8_trick_118 : decode cX8_trick 118 = .ok (.iload 6, 2) := by decide +kernel
theorem dX8_trick_120 : decode cX8_trick 120 = .ok (.iconst 2, 1) := by decide +kernel
theorem dX8_trick_121 : decode cX8_trick 121 = .ok (.iload_n 1, 1) := by decide +kernel
theorem dX8_trick_122 : decode cX8_trick 122 = .ok (.iload_n 3, 1) := by decide +kernel
theorem dX8_trick_123 : decode cX8_trick 123 = .ok (.imul, 1) := by decide +kernel
theorem dX8_trick_124 : decode cX8_trick 124 = .ok (.invokevirtual 237, 3) := by decide +kernel
theorem dX8_trick_127 : decode cX8_trick 127 = .ok (.aload_n 0, 1) := by decide +kernel
theorem dX8_trick_128 : decode cX8_trick 128 = .ok (.getfield 10, 3) := by decide +kernel
theorem dX8_trick_131 : decode cX8_trick 131 = .ok (.getfield 186, 3) := by decide +kernel
theorem dX8_trick_134 : decode cX8_trick 134 = .ok (.iload 6, 2) := by decide +kernel
theorem dX8_trick_136 : decode cX8_trick 136 = .ok (.iconst 3, 1) := by decide +kernel
theorem dX8_trick_137 : decode cX8_trick 137 = .ok (.iload 4, 2) := by decide +kernel
theorem dX8_trick_139 : decode cX8_trick 139 = .ok (.invokevirtual 237, 3) := by decide +kernel
theorem dX8_trick_142 : decode cX8_trick 142 = .ok (.iload 6, 2) := by decide +kernel
theorem dX8_trick_144 : decode cX8_trick 144 = .ok (.ireturn, 1) := by decide +kernel
theorem dX8_most_0 : decode cX8_most 0 = .ok (.iload_n 1, 1) := by decide +kernel
theorem dX8_most_1 : decode cX8_most 1 = .ok (.iconst 0, 1) := by decide +kernel
theorem dX8_most_2 : decode cX8_most 2 = .ok (.sipush 180, 3) := by decide +kernel
theorem dX8_most_5 : decode cX8_most 5 = .ok (.invokestatic 60, 3) := by decide +kernel
theorem dX8_most_8 : decode cX8_most 8 = .ok (.ifCond .eq 22, 3) := by decide +kernel
theorem dX8_most_11 : decode cX8_most 11 = .ok (.iload_n 2, 1) := by decide +kernel
theorem dX8_most_12 : decode cX8_most 12 = .ok (.iconst (-1), 1) := by decide +kernel
theorem dX8_most_13 : decode cX8_most 13 = .ok (.if_icmp .eq 19, 3) := by decide +kernel
theorem dX8_most_16 : decode cX8_most 16 = .ok (.aload_n 0, 1) := by decide +kernel
theorem dX8_most_17 : decode cX8_most 17 = .ok (.getfield 10, 3) := by decide +kernel
theorem dX8_most_20 : decode cX8_most 20 = .ok (.getfield 186, 3) := by decide +kernel
theorem dX8_most_23 : decode cX8_most 23 = .ok (.iload_n 2, 1) := by decide +kernel
theorem dX8_most_24 : decode cX8_most 24 = .ok (.invokevirtual 88, 3) := by decide +kernel
theorem dX8_most_27 : decode cX8_most 27 = .ok (.ifCond .ne 5, 3) := by decide +kernel
theorem dX8_most_30 : decode cX8_most 30 = .ok (.iconst (-1), 1) := by decide +kernel
theorem dX8_most_31 : decode cX8_most 31 = .ok (.ireturn, 1) := by decide +kernel
theorem dX8_most_32 : decode cX8_most 32 = .ok (.aload_n 0, 1) := by decide +kernel
theorem dX8_most_33 : decode cX8_most 33 = .ok (.getfield 42, 3) := by decide +kernel
theorem dX8_most_36 : decode cX8_most 36 = .ok (.aload_n 0, 1) := by decide +kernel
theorem dX8_most_37 : decode cX8_most 37 = .ok (.getfield 10, 3) := by decide +kernel
theorem dX8_most_40 : decode cX8_most 40 = .ok (.getfield 186, 3) := by decide +kernel
theorem dX8_most_43 : decode cX8_most 43 = .ok (.iload_n 1, 1) := by decide +kernel
theorem dX8_most_44 : decode cX8_most 44 = .ok (.invokevirtual 241, 3) := by decide +kernel
theorem dX8_most_47 : decode cX8_most 47 = .ok (.iload_n 2, 1) := by decide +kernel
theorem dX8_most_48 : decode cX8_most 48 = .ok (.iconst (-1), 1) := by decide +kernel
theorem dX8_most_49 : decode cX8_most 49 = .ok (.if_icmp .ne 14, 3) := by decide +kernel
theorem dX8_most_52 : decode cX8_most 52 = .ok (.aload_n 0, 1) := by decide +kernel
theorem dX8_most_53 : decode cX8_most 53 = .ok (.getfield 42, 3) := by decide +kernel
theorem dX8_most_56 : decode cX8_most 56 = .ok (.iload_n 1, 1) := by decide +kernel
theorem dX8_most_57 : decode cX8_most 57 = .ok (.invokevirtual 245, 3) := by decide +kernel
theorem dX8_most_60 : decode cX8_most 60 = .ok (.goto 19, 3) := by decide +kernel
theorem dX8_most_63 : decode cX8_most 63 = .ok (.aload_n 0, 1) := by decide +kernel
theorem dX8_most_64 : decode cX8_most 64 = .ok (.getfield 42, 3) := by decide +kernel
theorem dX8_most_67 : decode cX8_most 67 = .ok (.aload_n 0, 1) := by decide +kernel
theorem dX8_most_68 : decode cX8_most 68 = .ok (.getfield 10, 3) := by decide +kernel
theorem dX8_most_71 : decode cX8_most 71 = .ok (.getfield 186, 3) := by decide +kernel
theorem dX8_most_74 : decode cX8_most 74 = .ok (.iload_n 1, 1) := by decide +kernel
theorem dX8_most_75 : decode cX8_most 75 = .ok (.iload_n 2, 1) := by decide +kernel
theorem dX8_most_76 : decode cX8_most 76 = .ok (.invokevirtual 248, 3) := by decide +kernel
theorem dX8_most_79 : decode cX8_most 79 = .ok (.ireturn, 1) := by decide +kernel
theorem dX8_row_0 : decode cX8_row 0 = .ok (.aload_n 0, 1) := by decide +kernel
theorem dX8_row_1 : decode cX8_row 1 = .ok (.getfield 10, 3) := by decide +kernel
theorem dX8_row_4 : decode cX8_row 4 = .ok (.getfield 186, 3) := by decide +kernel
theorem dX8_row_7 : decode cX8_row 7 = .ok (.iload_n 1, 1) := by decide +kernel
theorem dX8_row_8 : decode cX8_row 8 = .ok (.invokevirtual 88, 3) := by decide +kernel
theorem dX8_row_11 : decode cX8_row 11 = .ok (.ifCond .eq 13, 3) := by decide +kernel
theorem dX8_row_14 : decode cX8_row 14 = .ok (.iload_n 2, 1) := by decide +kernel
theorem dX8_row_15 : decode cX8_row 15 = .ok (.iconst 1, 1) := by decide +kernel
theorem dX8_row_16 : decode cX8_row 16 = .ok (.bipush 99, 2) := by decide +kernel
theorem dX8_row_18 : decode cX8_row 18 = .ok (.invokestatic 60, 3) := by decide +kernel
theorem dX8_row_21 : decode cX8_row 21 = .ok (.ifCond .ne 5, 3) := by decide +kernel
theorem dX8_row_24 : decode cX8_row 24 = .ok (.iconst (-1), 1) := by decide +kernel
theorem dX8_row_25 : decode cX8_row 25 = .ok (.ireturn, 1) := by decide +kernel
theorem dX8_row_26 : decode cX8_row 26 = .ok (.sipush 1000, 3) := by decide +kernel
theorem dX8_row_29 : decode cX8_row 29 = .ok (.istore_n 3, 1) := by decide +kernel
theorem dX8_row_30 : decode cX8_row 30 = .ok (.iconst 0, 1) := by decide +kernel
theorem dX8_row_31 : decode cX8_row 31 = .ok (.istore 4, 2) := by decide +kernel
theorem dX8_row_33 : decode cX8_row 33 = .ok (.iload 4, 2) := by decide +kernel
theorem dX8_row_35 : decode cX8_row 35 = .ok (.iload_n 2, 1) := by decide +kernel
theorem dX8_row_36 : decode cX8_row 36 = .ok (.if_icmp .ge 27, 3) := by decide +kernel
theorem dX8_row_39 : decode cX8_row 39 = .ok (.iload_n 3, 1) := by decide +kernel
theorem dX8_row_40 : decode cX8_row 40 = .ok (.aload_n 0, 1) := by decide +kernel
theorem dX8_row_41 : decode cX8_row 41 = .ok (.getfield 10, 3) := by decide +kernel
theorem dX8_row_44 : decode cX8_row 44 = .ok (.getfield 186, 3) := by decide +kernel
theorem dX8_row_47 : decode cX8_row 47 = .ok (.iload_n 1, 1) := by decide +kernel
theorem dX8_row_48 : decode cX8_row 48 = .ok (.iconst 0, 1) := by decide +kernel
theorem dX8_row_49 : decode cX8_row 49 = .ok (.invokevirtual 93, 3) := by decide +kernel
theorem dX8_row_52 : decode cX8_row 52 = .ok (.imul, 1) := by decide +kernel
theorem dX8_row_53 : decode cX8_row 53 = .ok (.bipush 16, 2) := by decide +kernel
theorem dX8_row_55 : decode cX8_row 55 = .ok (.idiv, 1) := by decide +kernel
theorem dX8_row_56 : decode cX8_row 56 = .ok (.istore_n 3, 1) := by decide +kernel
theorem dX8_row_57 : decode cX8_row 57 = .ok (.iinc 4 1, 3) := by decide +kernel
theorem dX8_row_60 : decode cX8_row 60 = .ok (.goto (-27), 3) := by decide +kernel
theorem dX8_row_63 : decode cX8_row 63 = .ok (.iload_n 3, 1) := by decide +kernel
theorem dX8_row_64 : decode cX8_row 64 = .ok (.ireturn, 1) := by decide +kernel
theorem dX8_clear_0 : decode cX8_clear 0 = .ok (.aload_n 0, 1) := by decide +kernel
theorem dX8_clear_1 : decode cX8_clear 1 = .ok (.getfield 10, 3) := by decide +kernel
theorem dX8_clear_4 : decode cX8_clear 4 = .ok (.getfield 186, 3) := by decide +kernel
theorem dX8_clear_7 : decode cX8_clear 7 = .ok (.invokevirtual 104, 3) := by decide +kernel
theorem dX8_clear_10 : decode cX8_clear 10 = .ok (.ireturn, 1) := by decide +kernel
theorem dX8_cord_0 : decode cX8_cord 0 = .ok (.aload_n 0, 1) := by decide +kernel
theorem dX8_cord_1 : decode cX8_cord 1 = .ok (.getfield 10, 3) := by decide +kernel
theorem dX8_cord_4 : decode cX8_cord 4 = .ok (.getfield 74, 3) := by decide +kernel
theorem dX8_cord_7 : decode cX8_cord 7 = .ok (.iload_n 1, 1) := by decide +kernel
theorem dX8_cord_8 : decode cX8_cord 8 = .ok (.invokevirtual 88, 3) := by decide +kernel
theorem dX8_cord_11 : decode cX8_cord 11 = .ok (.ifCond .eq 12, 3) := by decide +kernel
theorem dX8_cord_14 : decode cX8_cord 14 = .ok (.iload_n 2, 1) := by decide +kernel
theorem dX8_cord_15 : decode cX8_cord 15 = .ok (.iconst 0, 1) := by decide +kernel
theorem dX8_cord_16 : decode cX8_cord 16 = .ok (.iconst 1, 1) := by decide +kernel
theorem dX8_cord_17 : decode cX8_cord 17 = .ok (.invokestatic 60, 3) := by decide +kernel
theorem dX8_cord_20 : decode cX8_cord 20 = .ok (.ifCond .ne 5, 3) := by decide +kernel
theorem dX8_cord_23 : decode cX8_cord 23 = .ok (.iconst (-1), 1) := by decide +kernel
theorem dX8_cord_24 : decode cX8_cord 24 = .ok (.ireturn, 1) := by decide +kernel
theorem dX8_cord_25 : decode cX8_cord 25 = .ok (.aload_n 0, 1) := by decide +kernel
theorem dX8_cord_26 : decode cX8_cord 26 = .ok (.getfield 10, 3) := by decide +kernel
theorem dX8_cord_29 : decode cX8_cord 29 = .ok (.invokevirtual 189, 3) := by decide +kernel
theorem dX8_cord_32 : decode cX8_cord 32 = .ok (.ifCond .eq 6, 3) := by decide +kernel
theorem dX8_cord_35 : decode cX8_cord 35 = .ok (.bipush (-2), 2) := by decide +kernel
theorem dX8_cord_37 : decode cX8_cord 37 = .ok (.ireturn, 1) := by decide +kernel
theorem dX8_cord_38 : decode cX8_cord 38 = .ok (.getstatic 64, 3) := by decide +kernel
theorem dX8_cord_41 : decode cX8_cord 41 = .ok (.iconst 0, 1) := by decide +kernel
theorem dX8_cord_42 : decode cX8_cord 42 = .ok (.iaload, 1) := by decide +kernel
theorem dX8_cord_43 : decode cX8_cord 43 = .ok (.istore_n 3, 1) := by decide +kernel
theorem dX8_cord_44 : decode cX8_cord 44 = .ok (.iconst (-1), 1) := by decide +kernel
theorem dX8_cord_45 : decode cX8_cord 45 = .ok (.istore 4, 2) := by decide +kernel
theorem dX8_cord_47 : decode cX8_cord 47 = .ok (.getstatic 64, 3) := by decide +kernel
theorem dX8_cord_50 : decode cX8_cord 50 = .ok (.iconst 0, 1) := by decide +kernel
theorem dX8_cord_51 : decode cX8_cord 51 = .ok (.iaload, 1) := by decide +kernel
theorem dX8_cord_52 : decode cX8_cord 52 = .ok (.istore 5, 2) := by decide +kernel
theorem dX8_cord_54 : decode cX8_cord 54 = .ok (.iload 5, 2) := by decide +kernel
theorem dX8_cord_56 : decode cX8_cord 56 = .ok (.getstatic 68, 3) := by decide +kernel
theorem dX8_cord_59 : decode cX8_cord 59 = .ok (.iconst 0, 1) := by decide +kernel
theorem dX8_cord_60 : decode cX8_cord 60 = .ok (.iaload, 1) := by decide +kernel
theorem dX8_cord_61 : decode cX8_cord 61 = .ok (.if_icmp .gt 35, 3) := by decide +kernel
theorem dX8_cord_64 : decode cX8_cord 64 = .ok (.aload_n 0, 1) := by decide +kernel
theorem dX8_cord_65 : decode cX8_cord 65 = .ok (.getfield 28, 3) := by decide +kernel
theorem dX8_cord_68 : decode cX8_cord 68 = .ok (.iload 5, 2) := by decide +kernel
theorem dX8_cord_70 : decode cX8_cord 70 = .ok (.iload_n 1, 1) := by decide +kernel
theorem dX8_cord_71 : decode cX8_cord 71 = .ok (.invokevirtual 231, 3) := by decide +kernel
theorem dX8_cord_74 : decode cX8_cord 74 = .ok (.istore 6, 2) := by decide +kernel
theorem dX8_cord_76 : decode cX8_cord 76 = .ok (.iload 6, 2) := by decide +kernel
theorem dX8_cord_78 : decode cX8_cord 78 = .ok (.iload 4, 2) := by decide +kernel
theorem dX8_cord_80 : decode cX8_cord 80 = .ok (.if_icmp .le 10, 3) := by decide +kernel
theorem dX8_cord_83 : decode cX8_cord 83 = .ok (.iload 6, 2) := by decide +kernel
theorem dX8_cord_85 : decode cX8_cord 85 = .ok (.istore 4, 2) := by decide +kernel
theorem dX8_cord_87 : decode cX8_cord 87 = .ok (.iload 5, 2) := by decide +kernel
theorem dX8_cord_89 : decode cX8_cord 89 = .ok (.istore_n 3, 1) := by decide +kernel
theorem dX8_cord_90 : decode cX8_cord 90 = .ok (.iinc 5 1, 3) := by decide +kernel
theorem dX8_cord_93 : decode cX8_cord 93 = .ok (.goto (-39), 3) := by decide +kernel
theorem dX8_cord_96 : decode cX8_cord 96 = .ok (.iload_n 2, 1) := by decide +kernel
theorem dX8_cord_97 : decode cX8_cord 97 = .ok (.ifCond .ne 7, 3) := by decide +kernel
theorem dX8_cord_100 : decode cX8_cord 100 = .ok (.iload_n 3, 1) := by decide +kernel
theorem dX8_cord_101 : decode cX8_cord 101 = .ok (.goto 5, 3) := by decide +kernel
theorem dX8_cord_104 : decode cX8_cord 104 = .ok (.iload 4, 2) := by decide +kernel
theorem dX8_cord_106 : decode cX8_cord 106 = .ok (.ireturn, 1) := by decide +kernel
theorem dX8_down_0 : decode cX8_down 0 = .ok (.iload_n 1, 1) := by decide +kernel
theorem dX8_down_1 : decode cX8_down 1 = .ok (.iconst 0, 1) := by decide +kernel
theorem dX8_down_2 : decode cX8_down 2 = .ok (.bipush 99, 2) := by decide +kernel
theorem dX8_down_4 : decode cX8_down 4 = .ok (.invokestatic 60, 3) := by decide +kernel
theorem dX8_down_7 : decode cX8_down 7 = .ok (.ifCond .eq 13, 3) := by decide +kernel
theorem dX8_down_10 : decode cX8_down 10 = .ok (.iload_n 2, 1) := by decide +kernel
theorem dX8_down_11 : decode cX8_down 11 = .ok (.iconst 0, 1) := by decide +kernel
theorem dX8_down_12 : decode cX8_down 12 = .ok (.bipush 99, 2) := by decide +kernel
theorem dX8_down_14 : decode cX8_down 14 = .ok (.invokestatic 60, 3) := by decide +kernel
theorem dX8_down_17 : decode cX8_down 17 = .ok (.ifCond .ne 5, 3) := by decide +kernel
theorem dX8_down_20 : decode cX8_down 20 = .ok (.iconst (-1), 1) := by decide +kernel
theorem dX8_down_21 : decode cX8_down 21 = .ok (.ireturn, 1) := by decide +kernel
theorem dX8_down_22 : decode cX8_down 22 = .ok (.aload_n 0, 1) := by decide +kernel
theorem dX8_down_23 : decode cX8_down 23 = .ok (.getfield 28, 3) := by decide +kernel
theorem dX8_down_26 : decode cX8_down 26 = .ok (.invokevirtual 135, 3) := by decide +kernel
theorem dX8_down_29 : decode cX8_down 29 = .ok (.aload_n 0, 1) := by decide +kernel
theorem dX8_down_30 : decode cX8_down 30 = .ok (.getfield 28, 3) := by decide +kernel
theorem dX8_down_33 : decode cX8_down 33 = .ok (.invokevirtual 252, 3) := by decide +kernel
theorem dX8_down_36 : decode cX8_down 36 = .ok (.iconst 0, 1) := by decide +kernel
theorem dX8_down_37 : decode cX8_down 37 = .ok (.istore_n 3, 1) := by decide +kernel
theorem dX8_down_38 : decode cX8_down 38 = .ok (.iload_n 3, 1) := by decide +kernel
theorem dX8_down_39 : decode cX8_down 39 = .ok (.bipush 100, 2) := by decide +kernel
theorem dX8_down_41 : decode cX8_down 41 = .ok (.if_icmp .ge 37, 3) := by decide +kernel
theorem dX8_down_44 : decode cX8_down 44 = .ok (.aload_n 0, 1) := by decide +kernel
theorem dX8_down_45 : decode cX8_down 45 = .ok (.getfield 28, 3) := by decide +kernel
theorem dX8_down_48 : decode cX8_down 48 = .ok (.iload_n 3, 1) := by decide +kernel
theorem dX8_down_49 : decode cX8_down 49 = .ok (.iconst 1, 1) := by decide +kernel
theorem dX8_down_50 : decode cX8_down 50 = .ok (.iadd, 1) := by decide +kernel
theorem dX8_down_51 : decode cX8_down 51 = .ok (.invokevirtual 138, 3) := by decide +kernel
theorem dX8_down_54 : decode cX8_down 54 = .ok (.iload_n 3, 1) := by decide +kernel
theorem dX8_down_55 : decode cX8_down 55 = .ok (.iload_n 1, 1) := by decide +kernel
theorem dX8_down_56 : decode cX8_down 56 = .ok (.if_icmp .lt 16, 3) := by decide +kernel
theorem dX8_down_59 : decode cX8_down 59 = .ok (.aload_n 0, 1) := by decide +kernel
theorem dX8_down_60 : decode cX8_down 60 = .ok (.getfield 28, 3) := by decide +kernel
theorem dX8_down_63 : decode cX8_down 63 = .ok (.iload_n 2, 1) := by decide +kernel
theorem dX8_down_64 : decode cX8_down 64 = .ok (.invokevirtual 255, 3) := by decide +kernel
theorem dX8_down_67 : decode cX8_down 67 = .ok (.ifCond .eq 5, 3) := by decide +kernel
theorem dX8_down_70 : decode cX8_down 70 = .ok (.iload_n 3, 1) := by decide +kernel
theorem dX8_down_71 : decode cX8_down 71 = .ok (.ireturn, 1) := by decide +kernel
theorem dX8_down_72 : decode cX8_down 72 = .ok (.iinc 3 1, 3) := by decide +kernel
theorem dX8_down_75 : decode cX8_down 75 = .ok (.goto (-37), 3) := by decide +kernel
theorem dX8_down_78 : decode cX8_down 78 = .ok (.bipush (-4), 2) := by decide +kernel
theorem dX8_down_80 : decode cX8_down 80 = .ok (.ireturn, 1) := by decide +kernel
theorem dX8_filmed_0 : decode cX8_filmed 0 = .ok (.iload_n 1, 1) := by decide +kernel
theorem dX8_filmed_1 : decode cX8_filmed 1 = .ok (.iload_n 2, 1) := by decide +kernel
theorem dX8_filmed_2 : decode cX8_filmed 2 = .ok (.invokestatic 258, 3) := by decide +kernel
theorem dX8_filmed_5 : decode cX8_filmed 5 = .ok (.ifCond .eq 24, 3) := by decide +kernel
theorem dX8_filmed_8 : decode cX8_filmed 8 = .ok (.iload 4, 2) := by decide +kernel
theorem dX8_filmed_10 : decode cX8_filmed 10 = .ok (.iconst 1, 1) := by decide +kernel
theorem dX8_filmed_11 : decode cX8_filmed 11 = .ok (.bipush 12, 2) := by decide +kernel
theorem dX8_filmed_13 : decode cX8_filmed 13 = .ok (.invokestatic 60, 3) := by decide +kernel
theorem dX8_filmed_16 : decode cX8_filmed 16 = .ok (.ifCond .eq 13, 3) := by decide +kernel
theorem dX8_filmed_19 : decode cX8_filmed 19 = .ok (.iload 5, 2) := by decide +kernel
theorem dX8_filmed_21 : decode cX8_filmed 21 = .ok (.iconst 0, 1) := by decide +kernel
theorem dX8_filmed_22 : decode cX8_filmed 22 = .ok (.iconst 2, 1) := by decide +kernel
theorem dX8_filmed_23 : decode cX8_filmed 23 = .ok (.invokestatic 60, 3) := by decide +kernel
theorem dX8_filmed_26 : decode cX8_filmed 26 = .ok (.ifCond .ne 6, 3) := by decide +kernel
theorem dX8_filmed_29 : decode cX8_filmed 29 = .ok (.ldc 92, 2) := by decide +kernel
theorem dX8_filmed_31 : decode cX8_filmed 31 = .ok (.ireturn, 1) := by decide +kernel
theorem dX8_filmed_32 : decode cX8_filmed 32 = .ok (.aload_n 0, 1) := by decide +kernel
theorem dX8_filmed_33 : decode cX8_filmed 33 = .ok (.getfield 56, 3) := by decide +kernel
theorem dX8_filmed_36 : decode cX8_filmed 36 = .ok (.iload_n 1, 1) := by decide +kernel
theorem dX8_filmed_37 : decode cX8_filmed 37 = .ok (.iload_n 2, 1) := by decide +kernel
theorem dX8_filmed_38 : decode cX8_filmed 38 = .ok (.iload_n 3, 1) := by decide +kernel
theorem dX8_filmed_39 : decode cX8_filmed 39 = .ok (.iconst 2, 1) := by decide +kernel
theorem dX8_filmed_40 : decode cX8_filmed 40 = .ok (.iload 4, 2) := by decide +kernel
theorem dX8_filmed_42 : decode cX8_filmed 42 = .ok (.imul, 1) := by decide +kernel
theorem dX8_filmed_43 : decode cX8_filmed 43 = .ok (.invokevirtual 262, 3) := by decide +kernel
theorem dX8_filmed_46 : decode cX8_filmed 46 = .ok (.istore 6, 2) := by decide +kernel
theorem dX8_filmed_48 : decode cX8_filmed 48 = .ok (.iload 6, 2) := by decide +kernel
theorem dX8_filmed_50 : decode cX8_filmed 50 = .ok (.ifCond .eq 10, 3) := by decide +kernel
theorem dX8_filmed_53 : decode cX8_filmed 53 = .ok (.iload 6, 2) := by decide +kernel
theorem dX8_filmed_55 : decode cX8_filmed 55 = .ok (.ldc_w 265, 3) := by decide +kernel
theorem dX8_filmed_58 : decode cX8_filmed 58 = .ok (.isub, 1) := by decide +kernel
theorem dX8_filmed_59 : decode cX8_filmed 59 = .ok (.ireturn, 1) := by decide +kernel
theorem dX8_filmed_60 : decode cX8_filmed 60 = .ok (.aload_n 0, 1) := by decide +kernel
theorem dX8_filmed_61 : decode cX8_filmed 61 = .ok (.getfield 10, 3) := by decide +kernel
theorem dX8_filmed_64 : decode cX8_filmed 64 = .ok (.invokevirtual 189, 3) := by decide +kernel
theorem dX8_filmed_67 : decode cX8_filmed 67 = .ok (.ifCond .eq 6, 3) := by decide +kernel
theorem dX8_filmed_70 : decode cX8_filmed 70 = .ok (.ldc 213, 2) := by decide +kernel
theorem dX8_filmed_72 : decode cX8_filmed 72 = .ok (.ireturn, 1) := by decide +kernel
theorem dX8_filmed_73 : decode cX8_filmed 73 = .ok (.iconst (-1), 1) := by decide +kernel
theorem dX8_filmed_74 : decode cX8_filmed 74 = .ok (.istore 7, 2) := by decide +kernel
theorem dX8_filmed_76 : decode cX8_filmed 76 = .ok (.iconst 0, 1) := by decide +kernel
theorem dX8_filmed_77 : decode cX8_filmed 77 = .ok (.istore 8, 2) := by decide +kernel
theorem dX8_filmed_79 : decode cX8_filmed 79 = .ok (.iconst 0, 1) := by decide +kernel
theorem dX8_filmed_80 : decode cX8_filmed 80 = .ok (.istore 9, 2) := by decide +kernel
theorem dX8_filmed_82 : decode cX8_filmed 82 = .ok (.iload 9, 2) := by decide +kernel
theorem dX8_filmed_84 : decode cX8_filmed 84 = .ok (.bipush 90, 2) := by decide +kernel
theorem dX8_filmed_86 : decode cX8_filmed 86 = .ok (.if_icmp .ge 39, 3) := by decide +kernel
theorem dX8_filmed_89 : decode cX8_filmed 89 = .ok (.aload_n 0, 1) := by decide +kernel
theorem dX8_filmed_90 : decode cX8_filmed 90 = .ok (.iload 9, 2) := by decide +kernel
theorem dX8_filmed_92 : decode cX8_filmed 92 = .ok (.iload_n 1, 1) := by decide +kernel
theorem dX8_filmed_93 : decode cX8_filmed 93 = .ok (.iload_n 3, 1) := by decide +kernel
theorem dX8_filmed_94 : decode cX8_filmed 94 = .ok (.iload 4, 2) := by decide +kernel
theorem dX8_filmed_96 : decode cX8_filmed 96 = .ok (.invokevirtual 266, 3) := by decide +kernel
theorem dX8_filmed_99 : decode cX8_filmed 99 = .ok (.ifCond .eq 20, 3) := by decide +kernel
theorem dX8_filmed_102 : decode cX8_filmed 102 = .ok (.iload 8, 2) := by decide +kernel
theorem dX8_filmed_104 : decode cX8_filmed 104 = .ok (.ifCond .ne 8, 3) := by decide +kernel
theorem dX8_filmed_107 : decode cX8_filmed 107 = .ok (.iload 9, 2) := by decide +kernel
theorem dX8_filmed_109 : decode cX8_filmed 109 = .ok (.goto 5, 3) := by decide +kernel
theorem dX8_filmed_112 : decode cX8_filmed 112 = .ok (.iload 7, 2) := by decide +kernel
theorem dX8_filmed_114 : decode cX8_filmed 114 = .ok (.istore 7, 2) := by decide +kernel
theorem dX8_filmed_116 : decode cX8_filmed 116 = .ok (.iinc 8 1, 3) := by decide +kernel
theorem dX8_filmed_119 : decode cX8_filmed 119 = .ok (.iinc 9 1, 3) := by decide +kernel
theorem dX8_filmed_122 : decode cX8_filmed 122 = .ok (.goto (-40), 3) := by decide +kernel
theorem dX8_filmed_125 : decode cX8_filmed 125 = .ok (.iload 5, 2) := by decide +kernel
theorem dX8_filmed_127 : decode cX8_filmed 127 = .ok (.ifCond .ne 6, 3) := by decide +kernel
theorem dX8_filmed_130 : decode cX8_filmed 130 = .ok (.iload 8, 2) := by decide +kernel
theorem dX8_filmed_132 : decode cX8_filmed 132 = .ok (.ireturn, 1) := by decide +kernel
theorem dX8_filmed_133 : decode cX8_filmed 133 = .ok (.iload 8, 2) := by decide +kernel
theorem dX8_filmed_135 : decode cX8_filmed 135 = .ok (.ifCond .ne 6, 3) := by decide +kernel
theorem dX8_filmed_138 : decode cX8_filmed 138 = .ok (.ldc 217, 2) := by decide +kernel
theorem dX8_filmed_140 : decode cX8_filmed 140 = .ok (.ireturn, 1) := by decide +kernel
theorem dX8_filmed_141 : decode cX8_filmed 141 = .ok (.iload 5, 2) := by decide +kernel
theorem dX8_filmed_143 : decode cX8_filmed 143 = .ok (.iconst 1, 1) := by decide +kernel
theorem dX8_filmed_144 : decode cX8_filmed 144 = .ok (.if_icmp .ne 11, 3) := by decide +kernel
theorem dX8_filmed_147 : decode cX8_filmed 147 = .ok (.iload 7, 2) := by decide +kernel
theorem dX8_filmed_149 : decode cX8_filmed 149 = .ok (.invokestatic 218, 3) := by decide +kernel
theorem dX8_filmed_152 : decode cX8_filmed 152 = .ok (.goto 8, 3) := by decide +kernel
theorem dX8_filmed_155 : decode cX8_filmed 155 = .ok (.iload 7, 2) := by decide +kernel
theorem dX8_filmed_157 : decode cX8_filmed 157 = .ok (.invokestatic 221, 3) := by decide +kernel
theorem dX8_filmed_160 : decode cX8_filmed 160 = .ok (.ireturn, 1) := by decide +kernel
theorem dX8_image_0 : decode cX8_image 0 = .ok (.aload_n 0, 1) := by decide +kernel
theorem dX8_image_1 : decode cX8_image 1 = .ok (.getfield 16, 3) := by decide +kernel
theorem dX8_image_4 : decode cX8_image 4 = .ok (.aload_n 0, 1) := by decide +kernel
theorem dX8_image_5 : decode cX8_image 5 = .ok (.getfield 10, 3) := by decide +kernel
theorem dX8_image_8 : decode cX8_image 8 = .ok (.invokevirtual 270, 3) := by decide +kernel
theorem dX8_image_11 : decode cX8_image 11 = .ok (.aload_n 0, 1) := by decide +kernel
theorem dX8_image_12 : decode cX8_image 12 = .ok (.iconst 1, 1) := by decide +kernel
theorem dX8_image_13 : decode cX8_image 13 = .ok (.putfield 19, 3) := by decide +kernel
theorem dX8_image_16 : decode cX8_image 16 = .ok (.iconst 1, 1) := by decide +kernel
theorem dX8_image_17 : decode cX8_image 17 = .ok (.ireturn, 1) := by decide +kernel
theorem dX8_restore_0 : decode cX8_restore 0 = .ok (.aload_n 0, 1) := by decide +kernel
theorem dX8_restore_1 : decode cX8_restore 1 = .ok (.getfield 19, 3) := by decide +kernel
theorem dX8_restore_4 : decode cX8_restore 4 = .ok (.ifCond .ne 6, 3) := by decide +kernel
theorem dX8_restore_7 : decode cX8_restore 7 = .ok (.bipush (-4), 2) := by decide +kernel
theorem dX8_restore_9 : decode cX8_restore 9 = .ok (.ireturn, 1) := by decide +kernel
theorem dX8_restore_10 : decode cX8_restore 10 = .ok (.aload_n 0, 1) := by decide +kernel
theorem dX8_restore_11 : decode cX8_restore 11 = .ok (.getfield 10, 3) := by decide +kernel
theorem dX8_restore_14 : decode cX8_restore 14 = .ok (.aload_n 0, 1) := by decide +kernel
theorem dX8_restore_15 : decode cX8_restore 15 = .ok (.getfield 16, 3) := by decide +kernel
theorem dX8_restore_18 : decode cX8_restore 18 = .ok (.invokevirtual 270, 3) := by decide +kernel
theorem dX8_restore_21 : decode cX8_restore 21 = .ok (.iconst 1, 1) := by decide +kernel
theorem dX8_restore_22 : decode cX8_restore 22 = .ok (.ireturn, 1) := by decide +kernel
theorem dX8_film_0 : decode cX8_film 0 = .ok (.iload_n 1, 1) := by decide +kernel
theorem dX8_film_1 : decode cX8_film 1 = .ok (.iload_n 2, 1) := by decide +kernel
theorem dX8_film_2 : decode cX8_film 2 = .ok (.invokestatic 258, 3) := by decide +kernel
theorem dX8_film_5 : decode cX8_film 5 = .ok (.ifCond .eq 14, 3) := by decide +kernel
theorem dX8_film_8 : decode cX8_film 8 = .ok (.iload 4, 2) := by decide +kernel
theorem dX8_film_10 : decode cX8_film 10 = .ok (.iconst 1, 1) := by decide +kernel
theorem dX8_film_11 : decode cX8_film 11 = .ok (.bipush 12, 2) := by decide +kernel
theorem dX8_film_13 : decode cX8_film 13 = .ok (.invokestatic 60, 3) := by decide +kernel
theorem dX8_film_16 : decode cX8_film 16 = .ok (.ifCond .ne 5, 3) := by decide +kernel
theorem dX8_film_19 : decode cX8_film 19 = .ok (.iconst (-1), 1) := by decide +kernel
theorem dX8_film_20 : decode cX8_film 20 = .ok (.ireturn, 1) := by decide +kernel
theorem dX8_film_21 : decode cX8_film 21 = .ok (.aload_n 0, 1) := by decide +kernel
theorem dX8_film_22 : decode cX8_film 22 = .ok (.getfield 56, 3) := by decide +kernel
theorem dX8_film_25 : decode cX8_film 25 = .ok (.iload_n 1, 1) := by decide +kernel
theorem dX8_film_26 : decode cX8_film 26 = .ok (.iload_n 2, 1) := by decide +kernel
theorem dX8_film_27 : decode cX8_film 27 = .ok (.iload_n 3, 1) := by decide +kernel
theorem dX8_film_28 : decode cX8_film 28 = .ok (.iconst 2, 1) := by decide +kernel
theorem dX8_film_29 : decode cX8_film 29 = .ok (.iload 4, 2) := by decide +kernel
theorem dX8_film_31 : decode cX8_film 31 = .ok (.imul, 1) := by decide +kernel
theorem dX8_film_32 : decode cX8_film 32 = .ok (.invokevirtual 262, 3) := by decide +kernel
theorem dX8_film_35 : decode cX8_film 35 = .ok (.istore 5, 2) := by decide +kernel
theorem dX8_film_37 : decode cX8_film 37 = .ok (.iload 5, 2) := by decide +kernel
theorem dX8_film_39 : decode cX8_film 39 = .ok (.ifCond .eq 6, 3) := by decide +kernel
theorem dX8_film_42 : decode cX8_film 42 = .ok (.iload 5, 2) := by decide +kernel
theorem dX8_film_44 : decode cX8_film 44 = .ok (.ireturn, 1) := by decide +kernel
theorem dX8_film_45 : decode cX8_film 45 = .ok (.aload_n 0, 1) := by decide +kernel
theorem dX8_film_46 : decode cX8_film 46 = .ok (.getfield 28, 3) := by decide +kernel
theorem dX8_film_49 : decode cX8_film 49 = .ok (.invokevirtual 135, 3) := by decide +kernel
theorem dX8_film_52 : decode cX8_film 52 = .ok (.iconst 0, 1) := by decide +kernel
theorem dX8_film_53 : decode cX8_film 53 = .ok (.istore 6, 2) := by decide +kernel
theorem dX8_film_55 : decode cX8_film 55 = .ok (.iload 6, 2) := by decide +kernel
theorem dX8_film_57 : decode cX8_film 57 = .ok (.iload 4, 2) := by decide +kernel
theorem dX8_film_59 : decode cX8_film 59 = .ok (.if_icmp .ge 64, 3) := by decide +kernel
theorem dX8_film_62 : decode cX8_film 62 = .ok (.aload_n 0, 1) := by decide +kernel
theorem dX8_film_63 : decode cX8_film 63 = .ok (.getfield 28, 3) := by decide +kernel
theorem dX8_film_66 : decode cX8_film 66 = .ok (.iload 6, 2) := by decide +kernel
theorem dX8_film_68 : decode cX8_film 68 = .ok (.iconst 1, 1) := by decide +kernel
theorem dX8_film_69 : decode cX8_film 69 = .ok (.iadd, 1) := by decide +kernel
theorem dX8_film_70 : decode cX8_film 70 = .ok (.invokevirtual 138, 3) := by decide +kernel
theorem dX8_film_73 : decode cX8_film 73 = .ok (.aload_n 0, 1) := by decide +kernel
theorem dX8_film_74 : decode cX8_film 74 = .ok (.getfield 56, 3) := by decide +kernel
theorem dX8_film_77 : decode cX8_film 77 = .ok (.iload_n 1, 1) := by decide +kernel
theorem dX8_film_78 : decode cX8_film 78 = .ok (.iload_n 3, 1) := by decide +kernel
theorem dX8_film_79 : decode cX8_film 79 = .ok (.iconst 2, 1) := by decide +kernel
theorem dX8_film_80 : decode cX8_film 80 = .ok (.iload 6, 2) := by decide +kernel
theorem dX8_film_82 : decode cX8_film 82 = .ok (.imul, 1) := by decide +kernel
theorem dX8_film_83 : decode cX8_film 83 = .ok (.iadd, 1) := by decide +kernel
theorem dX8_film_84 : decode cX8_film 84 = .ok (.aload_n 0, 1) := by decide +kernel
theorem dX8_film_85 : decode cX8_film 85 = .ok (.getfield 28, 3) := by decide +kernel
theorem dX8_film_88 : decode cX8_film 88 = .ok (.getfield 141, 3) := by decide +kernel
theorem dX8_film_91 : decode cX8_film 91 = .ok (.invokevirtual 272, 3) := by decide +kernel
theorem dX8_film_94 : decode cX8_film 94 = .ok (.aload_n 0, 1) := by decide +kernel
theorem dX8_film_95 : decode cX8_film 95 = .ok (.getfield 56, 3) := by decide +kernel
theorem dX8_film_98 : decode cX8_film 98 = .ok (.iload_n 1, 1) := by decide +kernel
theorem dX8_film_99 : decode cX8_film 99 = .ok (.iload_n 3, 1) := by decide +kernel
theorem dX8_film_100 : decode cX8_film 100 = .ok (.iconst 2, 1) := by decide +kernel
theorem dX8_film_101 : decode cX8_film 101 = .ok (.iload 6, 2) := by decide +kernel
theorem dX8_film_103 : decode cX8_film 103 = .ok (.imul, 1) := by decide +kernel
theorem dX8_film_104 : decode cX8_film 104 = .ok (.iadd, 1) := by decide +kernel
theorem dX8_film_105 : decode cX8_film 105 = .ok (.iconst 1, 1) := by decide +kernel
theorem dX8_film_106 : decode cX8_film 106 = .ok (.iadd, 1) := by decide +kernel
theorem dX8_film_107 : decode cX8_film 107 = .ok (.aload_n 0, 1) := by decide +kernel
theorem dX8_film_108 : decode cX8_film 108 = .ok (.getfield 28, 3) := by decide +kernel
theorem dX8_film_111 : decode cX8_film 111 = .ok (.getfield 144, 3) := by decide +kernel
theorem dX8_film_114 : decode cX8_film 114 = .ok (.invokevirtual 272, 3) := by decide +kernel
theorem dX8_film_117 : decode cX8_film 117 = .ok (.iinc 6 1, 3) := by decide +kernel
theorem dX8_film_120 : decode cX8_film 120 = .ok (.goto (-65), 3) := by decide +kernel
theorem dX8_film_123 : decode cX8_film 123 = .ok (.iconst 2, 1) := by decide +kernel
theorem dX8_film_124 : decode cX8_film 124 = .ok (.iload 4, 2) := by decide +kernel
theorem dX8_film_126 : decode cX8_film 126 = .ok (.imul, 1) := by decide +kernel
theorem dX8_film_127 : decode cX8_film 127 = .ok (.ireturn, 1) := by decide +kernel
theorem dX8_sheet_0 : decode cX8_sheet 0 = .ok (.iload_n 1, 1) := by decide +kernel
theorem dX8_sheet_1 : decode cX8_sheet 1 = .ok (.iload_n 2, 1) := by decide +kernel
theorem dX8_sheet_2 : decode cX8_sheet 2 = .ok (.invokestatic 258, 3) := by decide +kernel
theorem dX8_sheet_5 : decode cX8_sheet 5 = .ok (.ifCond .eq 9, 3) := by decide +kernel
theorem dX8_sheet_8 : decode cX8_sheet 8 = .ok (.iload_n 3, 1) := by decide +kernel
theorem dX8_sheet_9 : decode cX8_sheet 9 = .ok (.bipush 24, 2) := by decide +kernel
theorem dX8_sheet_11 : decode cX8_sheet 11 = .ok (.if_icmp .le 5, 3) := by decide +kernel
theorem dX8_sheet_14 : decode cX8_sheet 14 = .ok (.iconst (-1), 1) := by decide +kernel
theorem dX8_sheet_15 : decode cX8_sheet 15 = .ok (.ireturn, 1) := by decide +kernel
theorem dX8_sheet_16 : decode cX8_sheet 16 = .ok (.iload_n 3, 1) := by decide +kernel
theorem dX8_sheet_17 : decode cX8_sheet 17 = .ok (.ifCond .ge 6, 3) := by decide +kernel
theorem dX8_sheet_20 : decode cX8_sheet 20 = .ok (.bipush (-14), 2) := by decide +kernel
theorem dX8_sheet_22 : decode cX8_sheet 22 = .ok (.ireturn, 1) := by decide +kernel
theorem dX8_sheet_23 : decode cX8_sheet 23 = .ok (.aload_n 0, 1) := by decide +kernel
theorem dX8_sheet_24 : decode cX8_sheet 24 = .ok (.getfield 56, 3) := by decide +kernel
theorem dX8_sheet_27 : decode cX8_sheet 27 = .ok (.iload_n 1, 1) := by decide +kernel
theorem dX8_sheet_28 : decode cX8_sheet 28 = .ok (.iload_n 2, 1) := by decide +kernel
theorem dX8_sheet_29 : decode cX8_sheet 29 = .ok (.iload_n 3, 1) := by decide +kernel
theorem dX8_sheet_30 : decode cX8_sheet 30 = .ok (.invokevirtual 273, 3) := by decide +kernel
theorem dX8_sheet_33 : decode cX8_sheet 33 = .ok (.iload_n 3, 1) := by decide +kernel
theorem dX8_sheet_34 : decode cX8_sheet 34 = .ok (.ireturn, 1) := by decide +kernel
theorem dX8_drop_0 : decode cX8_drop 0 = .ok (.iload_n 1, 1) := by decide +kernel
theorem dX8_drop_1 : decode cX8_drop 1 = .ok (.iconst 0, 1) := by decide +kernel
theorem dX8_drop_2 : decode cX8_drop 2 = .ok (.iconst 3, 1) := by decide +kernel
theorem dX8_drop_3 : decode cX8_drop 3 = .ok (.invokestatic 60, 3) := by decide +kernel
theorem dX8_drop_6 : decode cX8_drop 6 = .ok (.ifCond .ne 5, 3) := by decide +kernel
theorem dX8_drop_9 : decode cX8_drop 9 = .ok (.iconst (-1), 1) := by decide +kernel
theorem dX8_drop_10 : decode cX8_drop 10 = .ok (.ireturn, 1) := by decide +kernel
theorem dX8_drop_11 : decode cX8_drop 11 = .ok (.aload_n 0, 1) := by decide +kernel
theorem dX8_drop_12 : decode cX8_drop 12 = .ok (.getfield 56, 3) := by decide +kernel
theorem dX8_drop_15 : decode cX8_drop 15 = .ok (.iload_n 1, 1) := by decide +kernel
theorem dX8_drop_16 : decode cX8_drop 16 = .ok (.invokevirtual 276, 3) := by decide +kernel
theorem dX8_drop_19 : decode cX8_drop 19 = .ok (.ifCond .eq 8, 3) := by decide +kernel
theorem dX8_drop_22 : decode cX8_drop 22 = .ok (.bipush (-11), 2) := by decide +kernel
theorem dX8_drop_24 : decode cX8_drop 24 = .ok (.goto 11, 3) := by decide +kernel
theorem dX8_drop_27 : decode cX8_drop 27 = .ok (.aload_n 0, 1) := by decide +kernel
theorem dX8_drop_28 : decode cX8_drop 28 = .ok (.getfield 56, 3) := by decide +kernel
theorem dX8_drop_31 : decode cX8_drop 31 = .ok (.iload_n 1, 1) := by decide +kernel
theorem dX8_drop_32 : decode cX8_drop 32 = .ok (.invokevirtual 279, 3) := by decide +kernel
theorem dX8_drop_35 : decode cX8_drop 35 = .ok (.ireturn, 1) := by decide +kernel
theorem dX8_item_0 : decode cX8_item 0 = .ok (.iload_n 1, 1) := by decide +kernel
theorem dX8_item_1 : decode cX8_item 1 = .ok (.iload_n 2, 1) := by decide +kernel
theorem dX8_item_2 : decode cX8_item 2 = .ok (.invokestatic 258, 3) := by decide +kernel
theorem dX8_item_5 : decode cX8_item 5 = .ok (.ifCond .ne 5, 3) := by decide +kernel
theorem dX8_item_8 : decode cX8_item 8 = .ok (.iconst (-1), 1) := by decide +kernel
theorem dX8_item_9 : decode cX8_item 9 = .ok (.ireturn, 1) := by decide +kernel
theorem dX8_item_10 : decode cX8_item 10 = .ok (.aload_n 0, 1) := by decide +kernel
theorem dX8_item_11 : decode cX8_item 11 = .ok (.getfield 56, 3) := by decide +kernel
theorem dX8_item_14 : decode cX8_item 14 = .ok (.iload_n 1, 1) := by decide +kernel
theorem dX8_item_15 : decode cX8_item 15 = .ok (.iload_n 2, 1) := by decide +kernel
theorem dX8_item_16 : decode cX8_item 16 = .ok (.iload_n 3, 1) := by decide +kernel
theorem dX8_item_17 : decode cX8_item 17 = .ok (.iconst 1, 1) := by decide +kernel
theorem dX8_item_18 : decode cX8_item 18 = .ok (.invokevirtual 262, 3) := by decide +kernel
theorem dX8_item_21 : decode cX8_item 21 = .ok (.istore 5, 2) := by decide +kernel
theorem dX8_item_23 : decode cX8_item 23 = .ok (.iload 5, 2) := by decide +kernel
theorem dX8_item_25 : decode cX8_item 25 = .ok (.ifCond .eq 6, 3) := by decide +kernel
theorem dX8_item_28 : decode cX8_item 28 = .ok (.iload 5, 2) := by decide +kernel
theorem dX8_item_30 : decode cX8_item 30 = .ok (.ireturn, 1) := by decide +kernel
theorem dX8_item_31 : decode cX8_item 31 = .ok (.aload_n 0, 1) := by decide +kernel
theorem dX8_item_32 : decode cX8_item 32 = .ok (.getfield 56, 3) := by decide +kernel
theorem dX8_item_35 : decode cX8_item 35 = .ok (.iload_n 1, 1) := by decide +kernel
theorem dX8_item_36 : decode cX8_item 36 = .ok (.iload_n 3, 1) := by decide +kernel
theorem dX8_item_37 : decode cX8_item 37 = .ok (.iload 4, 2) := by decide +kernel
theorem dX8_item_39 : decode cX8_item 39 = .ok (.invokevirtual 272, 3) := by decide +kernel
theorem dX8_item_42 : decode cX8_item 42 = .ok (.iconst 1, 1) := by decide +kernel
theorem dX8_item_43 : decode cX8_item 43 = .ok (.ireturn, 1) := by decide +kernel
theorem dX8_copy_0 : decode cX8_copy 0 = .ok (.iload_n 1, 1) := by decide +kernel
theorem dX8_copy_1 : decode cX8_copy 1 = .ok (.iconst 0, 1) := by decide +kernel
theorem dX8_copy_2 : decode cX8_copy 2 = .ok (.iconst 3, 1) := by decide +kernel
theorem dX8_copy_3 : decode cX8_copy 3 = .ok (.invokestatic 60, 3) := by decide +kernel
theorem dX8_copy_6 : decode cX8_copy 6 = .ok (.ifCond .eq 12, 3) := by decide +kernel
theorem dX8_copy_9 : decode cX8_copy 9 = .ok (.iload_n 3, 1) := by decide +kernel
theorem dX8_copy_10 : decode cX8_copy 10 = .ok (.iconst 0, 1) := by decide +kernel
theorem dX8_copy_11 : decode cX8_copy 11 = .ok (.iconst 3, 1) := by decide +kernel
theorem dX8_copy_12 : decode cX8_copy 12 = .ok (.invokestatic 60, 3) := by decide +kernel
theorem dX8_copy_15 : decode cX8_copy 15 = .ok (.ifCond .ne 5, 3) := by decide +kernel
theorem dX8_copy_18 : decode cX8_copy 18 = .ok (.iconst (-1), 1) := by decide +kernel
theorem dX8_copy_19 : decode cX8_copy 19 = .ok (.ireturn, 1) := by decide +kernel
theorem dX8_copy_20 : decode cX8_copy 20 = .ok (.aload_n 0, 1) := by decide +kernel
theorem dX8_copy_21 : decode cX8_copy 21 = .ok (.getfield 56, 3) := by decide +kernel
theorem dX8_copy_24 : decode cX8_copy 24 = .ok (.iload_n 1, 1) := by decide +kernel
theorem dX8_copy_25 : decode cX8_copy 25 = .ok (.invokevirtual 276, 3) := by decide +kernel
theorem dX8_copy_28 : decode cX8_copy 28 = .ok (.ifCond .ne 14, 3) := by decide +kernel
theorem dX8_copy_31 : decode cX8_copy 31 = .ok (.aload_n 0, 1) := by decide +kernel
theorem dX8_copy_32 : decode cX8_copy 32 = .ok (.getfield 56, 3) := by decide +kernel
theorem dX8_copy_35 : decode cX8_copy 35 = .ok (.iload_n 3, 1) := by decide +kernel
theorem dX8_copy_36 : decode cX8_copy 36 = .ok (.invokevirtual 276, 3) := by decide +kernel
theorem dX8_copy_39 : decode cX8_copy 39 = .ok (.ifCond .eq 6, 3) := by decide +kernel
theorem dX8_copy_42 : decode cX8_copy 42 = .ok (.bipush (-11), 2) := by decide +kernel
theorem dX8_copy_44 : decode cX8_copy 44 = .ok (.ireturn, 1) := by decide +kernel
theorem dX8_copy_45 : decode cX8_copy 45 = .ok (.aload_n 0, 1) := by decide +kernel
theorem dX8_copy_46 : decode cX8_copy 46 = .ok (.getfield 56, 3) := by decide +kernel
theorem dX8_copy_49 : decode cX8_copy 49 = .ok (.getfield 282, 3) := by decide +kernel
theorem dX8_copy_52 : decode cX8_copy 52 = .ok (.iload_n 1, 1) := by decide +kernel
theorem dX8_copy_53 : decode cX8_copy 53 = .ok (.iaload, 1) := by decide +kernel
theorem dX8_copy_54 : decode cX8_copy 54 = .ok (.aload_n 0, 1) := by decide +kernel
theorem dX8_copy_55 : decode cX8_copy 55 = .ok (.getfield 56, 3) := by decide +kernel
theorem dX8_copy_58 : decode cX8_copy 58 = .ok (.getfield 282, 3) := by decide +kernel
theorem dX8_copy_61 : decode cX8_copy 61 = .ok (.iload_n 3, 1) := by decide +kernel
theorem dX8_copy_62 : decode cX8_copy 62 = .ok (.iaload, 1) := by decide +kernel
theorem dX8_copy_63 : decode cX8_copy 63 = .ok (.if_icmp .eq 6, 3) := by decide +kernel
theorem dX8_copy_66 : decode cX8_copy 66 = .ok (.bipush (-12), 2) := by decide +kernel
theorem dX8_copy_68 : decode cX8_copy 68 = .ok (.ireturn, 1) := by decide +kernel
theorem dX8_copy_69 : decode cX8_copy 69 = .ok (.aload_n 0, 1) := by decide +kernel
theorem dX8_copy_70 : decode cX8_copy 70 = .ok (.getfield 56, 3) := by decide +kernel
theorem dX8_copy_73 : decode cX8_copy 73 = .ok (.iload_n 1, 1) := by decide +kernel
theorem dX8_copy_74 : decode cX8_copy 74 = .ok (.iload_n 2, 1) := by decide +kernel
theorem dX8_copy_75 : decode cX8_copy 75 = .ok (.iload 5, 2) := by decide +kernel
theorem dX8_copy_77 : decode cX8_copy 77 = .ok (.invokevirtual 285, 3) := by decide +kernel
theorem dX8_copy_80 : decode cX8_copy 80 = .ok (.ifCond .eq 18, 3) := by decide +kernel
theorem dX8_copy_83 : decode cX8_copy 83 = .ok (.aload_n 0, 1) := by decide +kernel
theorem dX8_copy_84 : decode cX8_copy 84 = .ok (.getfield 56, 3) := by decide +kernel
theorem dX8_copy_87 : decode cX8_copy 87 = .ok (.iload_n 3, 1) := by decide +kernel
theorem dX8_copy_88 : decode cX8_copy 88 = .ok (.iload 4, 2) := by decide +kernel
theorem dX8_copy_90 : decode cX8_copy 90 = .ok (.iload 5, 2) := by decide +kernel
theorem dX8_copy_92 : decode cX8_copy 92 = .ok (.invokevirtual 285, 3) := by decide +kernel
theorem dX8_copy_95 : decode cX8_copy 95 = .ok (.ifCond .ne 6, 3) := by decide +kernel
theorem dX8_copy_98 : decode cX8_copy 98 = .ok (.bipush (-13), 2) := by decide +kernel
theorem dX8_copy_100 : decode cX8_copy 100 = .ok (.ireturn, 1) := by decide +kernel
theorem dX8_copy_101 : decode cX8_copy 101 = .ok (.aload_n 0, 1) := by decide +kernel
theorem dX8_copy_102 : decode cX8_copy 102 = .ok (.getfield 56, 3) := by decide +kernel
theorem dX8_copy_105 : decode cX8_copy 105 = .ok (.getfield 288, 3) := by decide +kernel
theorem dX8_copy_108 : decode cX8_copy 108 = .ok (.iload_n 1, 1) := by decide +kernel
theorem dX8_copy_109 : decode cX8_copy 109 = .ok (.aaload, 1) := by decide +kernel
theorem dX8_copy_110 : decode cX8_copy 110 = .ok (.iload_n 2, 1) := by decide +kernel
theorem dX8_copy_111 : decode cX8_copy 111 = .ok (.aload_n 0, 1) := by decide +kernel
theorem dX8_copy_112 : decode cX8_copy 112 = .ok (.getfield 56, 3) := by decide +kernel
theorem dX8_copy_115 : decode cX8_copy 115 = .ok (.getfield 288, 3) := by decide +kernel
theorem dX8_copy_118 : decode cX8_copy 118 = .ok (.iload_n 3, 1) := by decide +kernel
theorem dX8_copy_119 : decode cX8_copy 119 = .ok (.aaload, 1) := by decide +kernel
theorem dX8_copy_120 : decode cX8_copy 120 = .ok (.iload 4, 2) := by decide +kernel
theorem dX8_copy_122 : decode cX8_copy 122 = .ok (.iload 5, 2) := by decide +kernel
theorem dX8_copy_124 : decode cX8_copy 124 = .ok (.invokestatic 292, 3) := by decide +kernel
theorem dX8_copy_127 : decode cX8_copy 127 = .ok (.iload 5, 2) := by decide +kernel
theorem dX8_copy_129 : decode cX8_copy 129 = .ok (.ireturn, 1) := by decide +kernel
theorem dX8_isIn_0 : decode cX8_isIn 0 = .ok (.iload_n 0, 1) := by decide +kernel
theorem dX8_isIn_1 : decode cX8_isIn 1 = .ok (.iload_n 1, 1) := by decide +kernel
theorem dX8_isIn_2 : decode cX8_isIn 2 = .ok (.if_icmp .lt 12, 3) := by decide +kernel
theorem dX8_isIn_5 : decode cX8_isIn 5 = .ok (.iload_n 0, 1) := by decide +kernel
theorem dX8_isIn_6 : decode cX8_isIn 6 = .ok (.iload_n 2, 1) := by decide +kernel
theorem dX8_isIn_7 : decode cX8_isIn 7 = .ok (.if_icmp .gt 7, 3) := by decide +kernel
theorem dX8_isIn_10 : decode cX8_isIn 10 = .ok (.iconst 1, 1) := by decide +kernel
theorem dX8_isIn_11 : decode cX8_isIn 11 = .ok (.goto 4, 3) := by decide +kernel
theorem dX8_isIn_14 : decode cX8_isIn 14 = .ok (.iconst 0, 1) := by decide +kernel
theorem dX8_isIn_15 : decode cX8_isIn 15 = .ok (.ireturn, 1) := by decide +kernel
theorem dX8_isRow_0 : decode cX8_isRow 0 = .ok (.iload_n 0, 1) := by decide +kernel
theorem dX8_isRow_1 : decode cX8_isRow 1 = .ok (.iconst 0, 1) := by decide +kernel
theorem dX8_isRow_2 : decode cX8_isRow 2 = .ok (.iconst 3, 1) := by decide +kernel
theorem dX8_isRow_3 : decode cX8_isRow 3 = .ok (.invokestatic 60, 3) := by decide +kernel
theorem dX8_isRow_6 : decode cX8_isRow 6 = .ok (.ifCond .eq 16, 3) := by decide +kernel
theorem dX8_isRow_9 : decode cX8_isRow 9 = .ok (.iload_n 1, 1) := by decide +kernel
theorem dX8_isRow_10 : decode cX8_isRow 10 = .ok (.iconst 0, 1) := by decide +kernel
theorem dX8_isRow_11 : decode cX8_isRow 11 = .ok (.iconst 2, 1) := by decide +kernel
theorem dX8_isRow_12 : decode cX8_isRow 12 = .ok (.invokestatic 60, 3) := by decide +kernel
theorem dX8_isRow_15 : decode cX8_isRow 15 = .ok (.ifCond .eq 7, 3) := by decide +kernel
theorem dX8_isRow_18 : decode cX8_isRow 18 = .ok (.iconst 1, 1) := by decide +kernel
theorem dX8_isRow_19 : decode cX8_isRow 19 = .ok (.goto 4, 3) := by decide +kernel
theorem dX8_isRow_22 : decode cX8_isRow 22 = .ok (.iconst 0, 1) := by decide +kernel
theorem dX8_isRow_23 : decode cX8_isRow 23 = .ok (.ireturn, 1) := by decide +kernel
theorem dX8_byteOf_0 : decode cX8_byteOf 0 = .ok (.lload_n 0, 1) := by decide +kernel
theorem dX8_byteOf_1 : decode cX8_byteOf 1 = .ok (.bipush 8, 2) := by decide +kernel
theorem dX8_byteOf_3 : decode cX8_byteOf 3 = .ok (.iload_n 2, 1) := by decide +kernel
theorem dX8_byteOf_4 : decode cX8_byteOf 4 = .ok (.imul, 1) := by decide +kernel
theorem dX8_byteOf_5 : decode cX8_byteOf 5 = .ok (.lushr, 1) := by decide +kernel
theorem dX8_byteOf_6 : decode cX8_byteOf 6 = .ok (.l2i, 1) := by decide +kernel
theorem dX8_byteOf_7 : decode cX8_byteOf 7 = .ok (.sipush 255, 3) := by decide +kernel
theorem dX8_byteOf_10 : decode cX8_byteOf 10 = .ok (.iand, 1) := by decide +kernel
theorem dX8_byteOf_11 : decode cX8_byteOf 11 = .ok (.ireturn, 1) := by decide +kernel
theorem dX8_addCup_0 : decode cX8_addCup 0 = .ok (.aload_n 0, 1) := by decide +kernel
theorem dX8_addCup_1 : decode cX8_addCup 1 = .ok (.invokevirtual 234, 3) := by decide +kernel
theorem dX8_addCup_4 : decode cX8_addCup 4 = .ok (.istore 6, 2) := by decide +kernel
theorem dX8_addCup_6 : decode cX8_addCup 6 = .ok (.aload_n 0, 1) := by decide +kernel
theorem dX8_addCup_7 : decode cX8_addCup 7 = .ok (.iload 6, 2) := by decide +kernel
theorem dX8_addCup_9 : decode cX8_addCup 9 = .ok (.iconst 0, 1) := by decide +kernel
theorem dX8_addCup_10 : decode cX8_addCup 10 = .ok (.iload_n 1, 1) := by decide +kernel
theorem dX8_addCup_11 : decode cX8_addCup 11 = .ok (.invokevirtual 237, 3) := by decide +kernel
theorem dX8_addCup_14 : decode cX8_addCup 14 = .ok (.aload_n 0, 1) := by decide +kernel
theorem dX8_addCup_15 : decode cX8_addCup 15 = .ok (.iload 6, 2) := by decide +kernel
theorem dX8_addCup_17 : decode cX8_addCup 17 = .ok (.iconst 1, 1) := by decide +kernel
theorem dX8_addCup_18 : decode cX8_addCup 18 = .ok (.iload_n 2, 1) := by decide +kernel
theorem dX8_addCup_19 : decode cX8_addCup 19 = .ok (.invokevirtual 237, 3) := by decide +kernel
theorem dX8_addCup_22 : decode cX8_addCup 22 = .ok (.aload_n 0, 1) := by decide +kernel
theorem dX8_addCup_23 : decode cX8_addCup 23 = .ok (.iload 6, 2) := by decide +kernel
theorem dX8_addCup_25 : decode cX8_addCup 25 = .ok (.iconst 2, 1) := by decide +kernel
theorem dX8_addCup_26 : decode cX8_addCup 26 = .ok (.iload_n 3, 1) := by decide +kernel
theorem dX8_addCup_27 : decode cX8_addCup 27 = .ok (.invokevirtual 237, 3) := by decide +kernel
theorem dX8_addCup_30 : decode cX8_addCup 30 = .ok (.aload_n 0, 1) := by decide +kernel
theorem dX8_addCup_31 : decode cX8_addCup 31 = .ok (.iload 6, 2) := by decide +kernel
theorem dX8_addCup_33 : decode cX8_addCup 33 = .ok (.iconst 3, 1) := by decide +kernel
theorem dX8_addCup_34 : decode cX8_addCup 34 = .ok (.iload 4, 2) := by decide +kernel
theorem dX8_addCup_36 : decode cX8_addCup 36 = .ok (.invokevirtual 237, 3) := by decide +kernel
theorem dX8_addCup_39 : decode cX8_addCup 39 = .ok (.aload_n 0, 1) := by decide +kernel
theorem dX8_addCup_40 : decode cX8_addCup 40 = .ok (.iload 6, 2) := by decide +kernel
theorem dX8_addCup_42 : decode cX8_addCup 42 = .ok (.iconst 4, 1) := by decide +kernel
theorem dX8_addCup_43 : decode cX8_addCup 43 = .ok (.iload 5, 2) := by decide +kernel
theorem dX8_addCup_45 : decode cX8_addCup 45 = .ok (.invokevirtual 237, 3) := by decide +kernel
theorem dX8_addCup_48 : decode cX8_addCup 48 = .ok (.iload 6, 2) := by decide +kernel
theorem dX8_addCup_50 : decode cX8_addCup 50 = .ok (.ireturn, 1) := by decide +kernel
theorem dX8_addPart_0 : decode cX8_addPart 0 = .ok (.aload_n 0, 1) := by decide +kernel
theorem dX8_addPart_1 : decode cX8_addPart 1 = .ok (.invokevirtual 234, 3) := by decide +kernel
theorem dX8_addPart_4 : decode cX8_addPart 4 = .ok (.istore 4, 2) := by decide +kernel
theorem dX8_addPart_6 : decode cX8_addPart 6 = .ok (.aload_n 0, 1) := by decide +kernel
theorem dX8_addPart_7 : decode cX8_addPart 7 = .ok (.iload 4, 2) := by decide +kernel
theorem dX8_addPart_9 : decode cX8_addPart 9 = .ok (.iconst 0, 1) := by decide +kernel
theorem dX8_addPart_10 : decode cX8_addPart 10 = .ok (.iload_n 1, 1) := by decide +kernel
theorem dX8_addPart_11 : decode cX8_addPart 11 = .ok (.invokevirtual 237, 3) := by decide +kernel
theorem dX8_addPart_14 : decode cX8_addPart 14 = .ok (.aload_n 0, 1) := by decide +kernel
theorem dX8_addPart_15 : decode cX8_addPart 15 = .ok (.iload 4, 2) := by decide +kernel
theorem dX8_addPart_17 : decode cX8_addPart 17 = .ok (.iconst 1, 1) := by decide +kernel
theorem dX8_addPart_18 : decode cX8_addPart 18 = .ok (.iload_n 2, 1) := by decide +kernel
theorem dX8_addPart_19 : decode cX8_addPart 19 = .ok (.invokevirtual 237, 3) := by decide +kernel
theorem dX8_addPart_22 : decode cX8_addPart 22 = .ok (.aload_n 0, 1) := by decide +kernel
theorem dX8_addPart_23 : decode cX8_addPart 23 = .ok (.iload 4, 2) := by decide +kernel
theorem dX8_addPart_25 : decode cX8_addPart 25 = .ok (.iconst 2, 1) := by decide +kernel
theorem dX8_addPart_26 : decode cX8_addPart 26 = .ok (.iload_n 3, 1) := by decide +kernel
theorem dX8_addPart_27 : decode cX8_addPart 27 = .ok (.invokevirtual 237, 3) := by decide +kernel
theorem dX8_addPart_30 : decode cX8_addPart 30 = .ok (.iload 4, 2) := by decide +kernel
theorem dX8_addPart_32 : decode cX8_addPart 32 = .ok (.ireturn, 1) := by decide +kernel
theorem dX8_isShown_0 : decode cX8_isShown 0 = .ok (.aload_n 0, 1) := by decide +kernel
theorem dX8_isShown_1 : decode cX8_isShown 1 = .ok (.getfield 28, 3) := by decide +kernel
theorem dX8_isShown_4 : decode cX8_isShown 4 = .ok (.aload_n 0, 1) := by decide +kernel
theorem dX8_isShown_5 : decode cX8_isShown 5 = .ok (.getfield 10, 3) := by decide +kernel
theorem dX8_isShown_8 : decode cX8_isShown 8 = .ok (.getfield 71, 3) := by decide +kernel
theorem dX8_isShown_11 : decode cX8_isShown 11 = .ok (.iconst 0, 1) := by decide +kernel
theorem dX8_isShown_12 : decode cX8_isShown 12 = .ok (.iaload, 1) := by decide +kernel
theorem dX8_isShown_13 : decode cX8_isShown 13 = .ok (.iload_n 1, 1) := by decide +kernel
theorem dX8_isShown_14 : decode cX8_isShown 14 = .ok (.invokestatic 218, 3) := by decide +kernel
theorem dX8_isShown_17 : decode cX8_isShown 17 = .ok (.iload_n 1, 1) := by decide +kernel
theorem dX8_isShown_18 : decode cX8_isShown 18 = .ok (.invokestatic 221, 3) := by decide +kernel
theorem dX8_isShown_21 : decode cX8_isShown 21 = .ok (.invokevirtual 298, 3) := by decide +kernel
theorem dX8_isShown_24 : decode cX8_isShown 24 = .ok (.iconst 0, 1) := by decide +kernel
theorem dX8_isShown_25 : decode cX8_isShown 25 = .ok (.istore 5, 2) := by decide +kernel
theorem dX8_isShown_27 : decode cX8_isShown 27 = .ok (.iload 5, 2) := by decide +kernel
theorem dX8_isShown_29 : decode cX8_isShown 29 = .ok (.iload 4, 2) := by decide +kernel
theorem dX8_isShown_31 : decode cX8_isShown 31 = .ok (.if_icmp .ge 72, 3) := by decide +kernel
theorem dX8_isShown_34 : decode cX8_isShown 34 = .ok (.aload_n 0, 1) := by decide +kernel
theorem dX8_isShown_35 : decode cX8_isShown 35 = .ok (.getfield 28, 3) := by decide +kernel
theorem dX8_isShown_38 : decode cX8_isShown 38 = .ok (.iload 5, 2) := by decide +kernel
theorem dX8_isShown_40 : decode cX8_isShown 40 = .ok (.iconst 1, 1) := by decide +kernel
theorem dX8_isShown_41 : decode cX8_isShown 41 = .ok (.iadd, 1) := by decide +kernel
theorem dX8_isShown_42 : decode cX8_isShown 42 = .ok (.invokevirtual 138, 3) := by decide +kernel
theorem dX8_isShown_45 : decode cX8_isShown 45 = .ok (.iload_n 3, 1) := by decide +kernel
theorem dX8_isShown_46 : decode cX8_isShown 46 = .ok (.iconst 2, 1) := by decide +kernel
theorem dX8_isShown_47 : decode cX8_isShown 47 = .ok (.iload 5, 2) := by decide +kernel
theorem dX8_isShown_49 : decode cX8_isShown 49 = .ok (.imul, 1) := by decide +kernel
theorem dX8_isShown_50 : decode cX8_isShown 50 = .ok (.iadd, 1) := by decide +kernel
theorem dX8_isShown_51 : decode cX8_isShown 51 = .ok (.istore 6, 2) := by decide +kernel
theorem dX8_isShown_53 : decode cX8_isShown 53 = .ok (.aload_n 0, 1) := by decide +kernel
theorem dX8_isShown_54 : decode cX8_isShown 54 = .ok (.getfield 56, 3) := by decide +kernel
theorem dX8_isShown_57 : decode cX8_isShown 57 = .ok (.iload_n 2, 1) := by decide +kernel
theorem dX8_isShown_58 : decode cX8_isShown 58 = .ok (.iload 6, 2) := by decide +kernel
theorem dX8_isShown_60 : decode cX8_isShown 60 = .ok (.invokevirtual 301, 3) := by decide +kernel
theorem dX8_isShown_63 : decode cX8_isShown 63 = .ok (.aload_n 0, 1) := by decide +kernel
theorem dX8_isShown_64 : decode cX8_isShown 64 = .ok (.getfield 28, 3) := by decide +kernel
theorem dX8_isShown_67 : decode cX8_isShown 67 = .ok (.getfield 141, 3) := by decide +kernel
theorem dX8_isShown_70 : decode cX8_isShown 70 = .ok (.if_icmp .ne 25, 3) := by decide +kernel
theorem dX8_isShown_73 : decode cX8_isShown 73 = .ok (.aload_n 0, 1) := by decide +kernel
theorem dX8_isShown_74 : decode cX8_isShown 74 = .ok (.getfield 56, 3) := by decide +kernel
theorem dX8_isShown_77 : decode cX8_isShown 77 = .ok (.iload_n 2, 1) := by decide +kernel
theorem dX8_isShown_78 : decode cX8_isShown 78 = .ok (.iload 6, 2) := by decide +kernel
theorem dX8_isShown_80 : decode cX8_isShown 80 = .ok (.iconst 1, 1) := by decide +kernel
theorem dX8_isShown_81 : decode cX8_isShown 81 = .ok (.iadd, 1) := by decide +kernel
theorem dX8_isShown_82 : decode cX8_isShown 82 = .ok (.invokevirtual 301, 3) := by decide +kernel
theorem dX8_isShown_85 : decode cX8_isShown 85 = .ok (.aload_n 0, 1) := by decide +kernel
theorem dX8_isShown_86 : decode cX8_isShown 86 = .ok (.getfield 28, 3) := by decide +kernel
theorem dX8_isShown_89 : decode cX8_isShown 89 = .ok (.getfield 144, 3) := by decide +kernel
theorem dX8_isShown_92 : decode cX8_isShown 92 = .ok (.if_icmp .eq 5, 3) := by decide +kernel
theorem dX8_isShown_95 : decode cX8_isShown 95 = .ok (.iconst 0, 1) := by decide +kernel
theorem dX8_isShown_96 : decode cX8_isShown 96 = .ok (.ireturn, 1) := by decide +kernel
theorem dX8_isShown_97 : decode cX8_isShown 97 = .ok (.iinc 5 1, 3) := by decide +kernel
theorem dX8_isShown_100 : decode cX8_isShown 100 = .ok (.goto (-73), 3) := by decide +kernel
theorem dX8_isShown_103 : decode cX8_isShown 103 = .ok (.iconst 1, 1) := by decide +kernel
theorem dX8_isShown_104 : decode cX8_isShown 104 = .ok (.ireturn, 1) := by decide +kernel
end
section
theorem dX9_in_0 : decode cX9_in 0 = .ok (.lload_n 0, 1) := by decide +kernel
theorem dX9_in_1 : decode cX9_in 1 = .ok (.lload_n 2, 1) := by decide +kernel
theorem dX9_in_2 : decode cX9_in 2 = .ok (.lcmp, 1) := by decide +kernel
theorem dX9_in_3 : decode cX9_in 3 = .ok (.ifCond .lt 14, 3) := by decide +kernel
theorem dX9_in_6 : decode cX9_in 6 = .ok (.lload_n 0, 1) := by decide +kernel
theorem dX9_in_7 : decode cX9_in 7 = .ok (.lload 4, 2) := by decide +kernel
theorem dX9_in_9 : decode cX9_in 9 = .ok (.lcmp, 1) := by decide +kernel
theorem dX9_in_10 : decode cX9_in 10 = .ok (.ifCond .gt 7, 3) := by decide +kernel
theorem dX9_in_13 : decode cX9_in 13 = .ok (.iconst 1, 1) := by decide +kernel
theorem dX9_in_14 : decode cX9_in 14 = .ok (.goto 4, 3) := by decide +kernel
theorem dX9_in_17 : decode cX9_in 17 = .ok (.iconst 0, 1) := by decide +kernel
theorem dX9_in_18 : decode cX9_in 18 = .ok (.ireturn, 1) := by decide +kernel
theorem dX9_init_0 : decode cX9_init 0 = .ok (.aload_n 0, 1) := by decide +kernel
theorem dX9_init_1 : decode cX9_init 1 = .ok (.invokespecial 1, 3) := by decide +kernel
theorem dX9_init_4 : decode cX9_init 4 = .ok (.aload_n 0, 1) := by decide +kernel
theorem dX9_init_5 : decode cX9_init 5 = .ok (.iconst 3, 1) := by decide +kernel
theorem dX9_init_6 : decode cX9_init 6 = .ok (.newarray .int, 2) := by decide +kernel
theorem dX9_init_8 : decode cX9_init 8 = .ok (.putfield 7, 3) := by decide +kernel
theorem dX9_init_11 : decode cX9_init 11 = .ok (.aload_n 0, 1) := by decide +kernel
theorem dX9_init_12 : decode cX9_init 12 = .ok (.bipush 20, 2) := by decide +kernel
theorem dX9_init_14 : decode cX9_init 14 = .ok (.newarray .int, 2) := by decide +kernel
theorem dX9_init_16 : decode cX9_init 16 = .ok (.putfield 13, 3) := by decide +kernel
theorem dX9_init_19 : decode cX9_init 19 = .ok (.aload_n 0, 1) := by decide +kernel
theorem dX9_init_20 : decode cX9_init 20 = .ok (.bipush 18, 2) := by decide +kernel
theorem dX9_init_22 : decode cX9_init 22 = .ok (.newarray .int, 2) := by decide +kernel
theorem dX9_init_24 : decode cX9_init 24 = .ok (.putfield 16, 3) := by decide +kernel
theorem dX9_init_27 : decode cX9_init 27 = .ok (.aload_n 0, 1) := by decide +kernel
theorem dX9_init_28 : decode cX9_init 28 = .ok (.bipush 32, 2) := by decide +kernel
theorem dX9_init_30 : decode cX9_init 30 = .ok (.newarray .int, 2) := by decide +kernel
theorem dX9_init_32 : decode cX9_init 32 = .ok (.putfield 19, 3) := by decide +kernel
theorem dX9_init_35 : decode cX9_init 35 = .ok (.aload_n 0, 1) := by decide +kernel
theorem dX9_init_36 : decode cX9_init 36 = .ok (.bipush 60, 2) := by decide +kernel
theorem dX9_init_38 : decode cX9_init 38 = .ok (.newarray .int, 2) := by decide +kernel
theorem dX9_init_40 : decode cX9_init 40 = .ok (.putfield 22, 3) := by decide +kernel
theorem dX9_init_43 : decode cX9_init 43 = .ok (.aload_n 0, 1) := by decide +kernel
theorem dX9_init_44 : decode cX9_init 44 = .ok (.bipush 20, 2) := by decide +kernel
theorem dX9_init_46 : decode cX9_init 46 = .ok (.newarray .int, 2) := by decide +kernel
theorem dX9_init_48 : decode cX9_init 48 = .ok (.putfield 25, 3) := by decide +kernel
theorem dX9_init_51 : decode cX9_init 51 = .ok (.aload_n 0, 1) := by decide +kernel
theorem dX9_init_52 : decode cX9_init 52 = .ok (.sipush 900, 3) := by decide +kernel
theorem dX9_init_55 : decode cX9_init 55 = .ok (.newarray .int, 2) := by decide +kernel
theorem dX9_init_57 : decode cX9_init 57 = .ok (.putfield 28, 3) := by decide +kernel
theorem dX9_init_60 : decode cX9_init 60 = .ok (.aload_n 0, 1) := by decide +kernel
theorem dX9_init_61 : decode cX9_init 61 = .ok (.bipush 100, 2) := by decide +kernel
theorem dX9_init_63 : decode cX9_init 63 = .ok (.newarray .int, 2) := by decide +kernel
theorem dX9_init_65 : decode cX9_init 65 = .ok (.putfield 31, 3) := by decide +kernel
theorem dX9_init_68 : decode cX9_init 68 = .ok (.aload_n 0, 1) := by decide +kernel
theorem dX9_init_69 : decode cX9_init 69 = .ok (.bipush 100, 2) := by decide +kernel
theorem dX9_init_71 : decode cX9_init 71 = .ok (.newarray .int, 2) := by decide +kernel
theorem dX9_init_73 : decode cX9_init 73 = .ok (.putfield 34, 3) := by decide +kernel
theorem dX9_init_76 : decode cX9_init 76 = .ok (.aload_n 0, 1) := by decide +kernel
theorem dX9_init_77 : decode cX9_init 77 = .ok (.bipush (-4), 2) := by decide +kernel
theorem dX9_init_79 : decode cX9_init 79 = .ok (.putfield 37, 3) := by decide +kernel
theorem dX9_init_82 : decode cX9_init 82 = .ok (.aload_n 0, 1) := by decide +kernel
theorem dX9_init_83 : decode cX9_init 83 = .ok (.bipush 90, 2) := by decide +kernel
theorem dX9_init_85 : decode cX9_init 85 = .ok (.newarray .int, 2) := by decide +kernel
theorem dX9_init_87 : decode cX9_init 87 = .ok (.putfield 41, 3) := by decide +kernel
theorem dX9_init_90 : decode cX9_init 90 = .ok (.aload_n 0, 1) := by decide +kernel
theorem dX9_init_91 : decode cX9_init 91 = .ok (.bipush 90, 2) := by decide +kernel
theorem dX9_init_93 : decode cX9_init 93 = .ok (.newarray .int, 2) := by decide +kernel
theorem dX9_init_95 : decode cX9_init 95 = .ok (.putfield 44, 3) := by decide +kernel
theorem dX9_init_98 : decode cX9_init 98 = .ok (.aload_n 0, 1) := by decide +kernel
theorem dX9_init_99 : decode cX9_init 99 = .ok (.bipush 90, 2) := by decide +kernel
theorem dX9_init_101 : decode cX9_init 101 = .ok (.newarray .int, 2) := by decide +kernel
theorem dX9_init_103 : decode cX9_init 103 = .ok (.putfield 47, 3) := by decide +kernel
theorem dX9_init_106 : decode cX9_init 106 = .ok (.aload_n 0, 1) := by decide +kernel
theorem dX9_init_107 : decode cX9_init 107 = .ok (.sipush 1629, 3) := by decide +kernel
theorem dX9_init_110 : decode cX9_init 110 = .ok (.newarray .int, 2) := by decide +kernel
theorem dX9_init_112 : decode cX9_init 112 = .ok (.putfield 50, 3) := by decide +kernel
theorem dX9_init_115 : decode cX9_init 115 = .ok (.aload_n 0, 1) := by decide +kernel
theorem dX9_init_116 : decode cX9_init 116 = .ok (.bipush 80, 2) := by decide +kernel
theorem dX9_init_118 : decode cX9_init 118 = .ok (.newarray .int, 2) := by decide +kernel
theorem dX9_init_120 : decode cX9_init 120 = .ok (.putfield 53, 3) := by decide +kernel
theorem dX9_init_123 : decode cX9_init 123 = .ok (.aload_n 0, 1) := by decide +kernel
theorem dX9_init_124 : decode cX9_init 124 = .ok (.iconst 4, 1) := by decide +kernel
theorem dX9_init_125 : decode cX9_init 125 = .ok (.newarray .int, 2) := by decide +kernel
theorem dX9_init_127 : decode cX9_init 127 = .ok (.putfield 56, 3) := by decide +kernel
theorem dX9_init_130 : decode cX9_init 130 = .ok (.aload_n 0, 1) := by decide +kernel
theorem dX9_init_131 : decode cX9_init 131 = .ok (.iconst 4, 1) := by decide +kernel
theorem dX9_init_132 : decode cX9_init 132 = .ok (.newarray .int, 2) := by decide +kernel
theorem dX9_init_134 : decode cX9_init 134 = .ok (.putfield 59, 3) := by decide +kernel
theorem dX9_init_137 : decode cX9_init 137 = .ok (.aload_n 0, 1) := by decide +kernel
theorem dX9_init_138 : decode cX9_init 138 = .ok (.bipush 96, 2) := by decide +kernel
theorem dX9_init_140 : decode cX9_init 140 = .ok (.newarray .int, 2) := by decide +kernel
theorem dX9_init_142 : decode cX9_init 142 = .ok (.putfield 62, 3) := by decide +kernel
theorem dX9_init_145 : decode cX9_init 145 = .ok (.aload_n 0, 1) := by decide +kernel
theorem dX9_init_146 : decode cX9_init 146 = .ok (.bipush 24, 2) := by decide +kernel
theorem dX9_init_148 : decode cX9_init 148 = .ok (.newarray .int, 2) := by decide +kernel
theorem dX9_init_150 : decode cX9_init 150 = .ok (.putfield 65, 3) := by decide +kernel
theorem dX9_init_153 : decode cX9_init 153 = .ok (.iconst 0, 1) := by decide +kernel
theorem dX9_init_154 : decode cX9_init 154 = .ok (.istore_n 1, 1) := by decide +kernel
theorem dX9_init_155 : decode cX9_init 155 = .ok (.iload_n 1, 1) := by decide +kernel
theorem dX9_init_156 : decode cX9_init 156 = .ok (.iconst 4, 1) := by decide +kernel
theorem dX9_init_157 : decode cX9_init 157 = .ok (.if_icmp .ge 16, 3) := by decide +kernel
theorem dX9_init_160 : decode cX9_init 160 = .ok (.aload_n 0, 1) := by decide +kernel
theorem dX9_init_161 : decode cX9_init 161 = .ok (.getfield 56, 3) := by decide +kernel
theorem dX9_init_164 : decode cX9_init 164 = .ok (.iload_n 1, 1) := by decide +kernel
theorem dX9_init_165 : decode cX9_init 165 = .ok (.iconst (-1), 1) := by decide +kernel
theorem dX9_init_166 : decode cX9_init 166 = .ok (.iastore, 1) := by decide +kernel
theorem dX9_init_167 : decode cX9_init 167 = .ok (.iinc 1 1, 3) := by decide +kernel
theorem dX9_init_170 : decode cX9_init 170 = .ok (.goto (-15), 3) := by decide +kernel
theorem dX9_init_173 : decode cX9_init 173 = .ok (.aload_n 0, 1) := by decide +kernel
theorem dX9_init_174 : decode cX9_init 174 = .ok (.getfield 7, 3) := by decide +kernel
theorem dX9_init_177 : decode cX9_init 177 = .ok (.iconst 0, 1) := by decide +kernel
theorem dX9_init_178 : decode cX9_init 178 = .ok (.bipush 30, 2) := by decide +kernel
theorem dX9_init_180 : decode cX9_init 180 = .ok (.iastore, 1) := by decide +kernel
theorem dX9_init_181 : decode cX9_init 181 = .ok (.aload_n 0, 1) := by decide +kernel
theorem dX9_init_182 : decode cX9_init 182 = .ok (.getfield 7, 3) := by decide +kernel
theorem dX9_init_185 : decode cX9_init 185 = .ok (.iconst 1, 1) := by decide +kernel
theorem dX9_init_186 : decode cX9_init 186 = .ok (.iconst 1, 1) := by decide +kernel
theorem dX9_init_187 : decode cX9_init 187 = .ok (.iastore, 1) := by decide +kernel
theorem dX9_init_188 : decode cX9_init 188 = .ok (.aload_n 0, 1) := by decide +kernel
theorem dX9_init_189 : decode cX9_init 189 = .ok (.getfield 7, 3) := by decide +kernel
theorem dX9_init_192 : decode cX9_init 192 = .ok (.iconst 2, 1) := by decide +kernel
theorem dX9_init_193 : decode cX9_init 193 = .ok (.bipush 6, 2) := by decide +kernel
theorem dX9_init_195 : decode cX9_init 195 = .ok (.iastore, 1) := by decide +kernel
theorem dX9_init_196 : decode cX9_init 196 = .ok (.return_, 1) := by decide +kernel
theorem dX9_isCup_0 : decode cX9_isCup 0 = .ok (.iload_n 1, 1) := by decide +kernel
theorem dX9_isCup_1 : decode cX9_isCup 1 = .ok (.i2l, 1) := by decide +kernel
theorem dX9_isCup_2 : decode cX9_isCup 2 = .ok (.lconst 0, 1) := by decide +kernel
theorem dX9_isCup_3 : decode cX9_isCup 3 = .ok (.aload_n 0, 1) := by decide +kernel
theorem dX9_isCup_4 : decode cX9_isCup 4 = .ok (.getfield 68, 3) := by decide +kernel
theorem dX9_isCup_7 : decode cX9_isCup 7 = .ok (.iconst 1, 1) := by decide +kernel
theorem dX9_isCup_8 : decode cX9_isCup 8 = .ok (.isub, 1) := by decide +kernel
theorem dX9_isCup_9 : decode cX9_isCup 9 = .ok (.i2l, 1) := by decide +kernel
theorem dX9_isCup_10 : decode cX9_isCup 10 = .ok (.invokestatic 71, 3) := by decide +kernel
theorem dX9_isCup_13 : decode cX9_isCup 13 = .ok (.ireturn, 1) := by decide +kernel
theorem dX9_set_0 : decode cX9_set 0 = .ok (.iload_n 1, 1) := by decide +kernel
theorem dX9_set_1 : decode cX9_set 1 = .ok (.i2l, 1) := by decide +kernel
theorem dX9_set_2 : decode cX9_set 2 = .ok (.lconst 0, 1) := by decide +kernel
theorem dX9_set_3 : decode cX9_set 3 = .ok (.ldc2_w 75, 3) := by decide +kernel
theorem dX9_set_6 : decode cX9_set 6 = .ok (.invokestatic 71, 3) := by decide +kernel
theorem dX9_set_9 : decode cX9_set 9 = .ok (.ifCond .eq 55, 3) := by decide +kernel
theorem dX9_set_12 : decode cX9_set 12 = .ok (.iload_n 2, 1) := by decide +kernel
theorem dX9_set_13 : decode cX9_set 13 = .ok (.i2l, 1) := by decide +kernel
theorem dX9_set_14 : decode cX9_set 14 = .ok (.iload_n 1, 1) := by decide +kernel
theorem dX9_set_15 : decode cX9_set 15 = .ok (.ifCond .ne 9, 3) := by decide +kernel
theorem dX9_set_18 : decode cX9_set 18 = .ok (.ldc2_w 77, 3) := by decide +kernel
theorem dX9_set_21 : decode cX9_set 21 = .ok (.goto 13, 3) := by decide +kernel
theorem dX9_set_24 : decode cX9_set 24 = .ok (.iload_n 1, 1) := by decide +kernel
theorem dX9_set_25 : decode cX9_set 25 = .ok (.iconst 1, 1) := by decide +kernel
theorem dX9_set_26 : decode cX9_set 26 = .ok (.if_icmp .ne 7, 3) := by decide +kernel
theorem dX9_set_29 : decode cX9_set 29 = .ok (.lconst 1, 1) := by decide +kernel
theorem dX9_set_30 : decode cX9_set 30 = .ok (.goto 4, 3) := by decide +kernel
theorem dX9_set_33 : decode cX9_set 33 = .ok (.lconst 0, 1) := by decide +kernel
theorem dX9_set_34 : decode cX9_set 34 = .ok (.iload_n 1, 1) := by decide +kernel
theorem dX9_set_35 : decode cX9_set 35 = .ok (.ifCond .ne 9, 3) := by decide +kernel
theorem dX9_set_38 : decode cX9_set 38 = .ok (.ldc2_w 79, 3) := by decide +kernel
theorem dX9_set_41 : decode cX9_set 41 = .ok (.goto 17, 3) := by decide +kernel
theorem dX9_set_44 : decode cX9_set 44 = .ok (.iload_n 1, 1) := by decide +kernel
theorem dX9_set_45 : decode cX9_set 45 = .ok (.iconst 1, 1) := by decide +kernel
theorem dX9_set_46 : decode cX9_set 46 = .ok (.if_icmp .ne 9, 3) := by decide +kernel
theorem dX9_set_49 : decode cX9_set 49 = .ok (.ldc2_w 81, 3) := by decide +kernel
theorem dX9_set_52 : decode cX9_set 52 = .ok (.goto 6, 3) := by decide +kernel
theorem dX9_set_55 : decode cX9_set 55 = .ok (.ldc2_w 83, 3) := by decide +kernel
theorem dX9_set_58 : decode cX9_set 58 = .ok (.invokestatic 71, 3) := by decide +kernel
theorem dX9_set_61 : decode cX9_set 61 = .ok (.ifCond .ne 5, 3) := by decide +kernel
theorem dX9_set_64 : decode cX9_set 64 = .ok (.iconst (-1), 1) := by decide +kernel
theorem dX9_set_65 : decode cX9_set 65 = .ok (.ireturn, 1) := by decide +kernel
theorem dX9_set_66 : decode cX9_set 66 = .ok (.aload_n 0, 1) := by decide +kernel
theorem dX9_set_67 : decode cX9_set 67 = .ok (.getfield 7, 3) := by decide +kernel
theorem dX9_set_70 : decode cX9_set 70 = .ok (.iload_n 1, 1) := by decide +kernel
theorem dX9_set_71 : decode cX9_set 71 = .ok (.iaload, 1) := by decide +kernel
theorem dX9_set_72 : decode cX9_set 72 = .ok (.istore_n 3, 1) := by decide +kernel
theorem dX9_set_73 : decode cX9_set 73 = .ok (.aload_n 0, 1) := by decide +kernel
theorem dX9_set_74 : decode cX9_set 74 = .ok (.getfield 7, 3) := by decide +kernel
theorem dX9_set_77 : decode cX9_set 77 = .ok (.iload_n 1, 1) := by decide +kernel
theorem dX9_set_78 : decode cX9_set 78 = .ok (.iload_n 2, 1) := by decide +kernel
theorem dX9_set_79 : decode cX9_set 79 = .ok (.iastore, 1) := by decide +kernel
theorem dX9_set_80 : decode cX9_set 80 = .ok (.iload_n 3, 1) := by decide +kernel
theorem dX9_set_81 : decode cX9_set 81 = .ok (.ireturn, 1) := by decide +kernel
theorem dX9_cupIs_0 : decode cX9_cupIs 0 = .ok (.aload_n 0, 1) := by decide +kernel
theorem dX9_cupIs_1 : decode cX9_cupIs 1 = .ok (.getfield 13, 3) := by decide +kernel
theorem dX9_cupIs_4 : decode cX9_cupIs 4 = .ok (.iconst 5, 1) := by decide +kernel
theorem dX9_cupIs_5 : decode cX9_cupIs 5 = .ok (.iload_n 1, 1) := by decide +kernel
theorem dX9_cupIs_6 : decode cX9_cupIs 6 = .ok (.imul, 1) := by decide +kernel
theorem dX9_cupIs_7 : decode cX9_cupIs 7 = .ok (.iload_n 2, 1) := by decide +kernel
theorem dX9_cupIs_8 : decode cX9_cupIs 8 = .ok (.iastore, 1) := by decide +kernel
theorem dX9_cupIs_9 : decode cX9_cupIs 9 = .ok (.aload_n 0, 1) := by decide +kernel
theorem dX9_cupIs_10 : decode cX9_cupIs 10 = .ok (.getfield 13, 3) := by decide +kernel
theorem dX9_cupIs_13 : decode cX9_cupIs 13 = .ok (.iconst 5, 1) := by decide +kernel
theorem dX9_cupIs_14 : decode cX9_cupIs 14 = .ok (.iload_n 1, 1) := by decide +kernel
theorem dX9_cupIs_15 : decode cX9_cupIs 15 = .ok (.imul, 1) := by decide +kernel
theorem dX9_cupIs_16 : decode cX9_cupIs 16 = .ok (.iconst 1, 1) := by decide +kernel
theorem dX9_cupIs_17 : decode cX9_cupIs 17 = .ok (.iadd, 1) := by decide +kernel
theorem dX9_cupIs_18 : decode cX9_cupIs 18 = .ok (.iload_n 3, 1) := by decide +kernel
theorem dX9_cupIs_19 : decode cX9_cupIs 19 = .ok (.iastore, 1) := by decide +kernel
theorem dX9_cupIs_20 : decode cX9_cupIs 20 = .ok (.aload_n 0, 1) := by decide +kernel
theorem dX9_cupIs_21 : decode cX9_cupIs 21 = .ok (.getfield 13, 3) := by decide +kernel
theorem dX9_cupIs_24 : decode cX9_cupIs 24 = .ok (.iconst 5, 1) := by decide +kernel
theorem dX9_cupIs_25 : decode cX9_cupIs 25 = .ok (.iload_n 1, 1) := by decide +kernel
theorem dX9_cupIs_26 : decode cX9_cupIs 26 = .ok (.imul, 1) := by decide +kernel
theorem dX9_cupIs_27 : decode cX9_cupIs 27 = .ok (.iconst 2, 1) := by decide +kernel
theorem dX9_cupIs_28 : decode cX9_cupIs 28 = .ok (.iadd, 1) := by decide +kernel
theorem dX9_cupIs_29 : decode cX9_cupIs 29 = .ok (.iload 4, 2) := by decide +kernel
theorem dX9_cupIs_31 : decode cX9_cupIs 31 = .ok (.iastore, 1) := by decide +kernel
theorem dX9_cupIs_32 : decode cX9_cupIs 32 = .ok (.aload_n 0, 1) := by decide +kernel
theorem dX9_cupIs_33 : decode cX9_cupIs 33 = .ok (.getfield 13, 3) := by decide +kernel
theorem dX9_cupIs_36 : decode cX9_cupIs 36 = .ok (.iconst 5, 1) := by decide +kernel
theorem dX9_cupIs_37 : decode cX9_cupIs 37 = .ok (.iload_n 1, 1) := by decide +kernel
theorem dX9_cupIs_38 : decode cX9_cupIs 38 = .ok (.imul, 1) := by decide +kernel
theorem dX9_cupIs_39 : decode cX9_cupIs 39 = .ok (.iconst 3, 1) := by decide +kernel
theorem dX9_cupIs_40 : decode cX9_cupIs 40 = .ok (.iadd, 1) := by decide +kernel
theorem dX9_cupIs_41 : decode cX9_cupIs 41 = .ok (.iload 5, 2) := by decide +kernel
theorem dX9_cupIs_43 : decode cX9_cupIs 43 = .ok (.iastore, 1) := by decide +kernel
theorem dX9_cupIs_44 : decode cX9_cupIs 44 = .ok (.aload_n 0, 1) := by decide +kernel
theorem dX9_cupIs_45 : decode cX9_cupIs 45 = .ok (.getfield 13, 3) := by decide +kernel
theorem dX9_cupIs_48 : decode cX9_cupIs 48 = .ok (.iconst 5, 1) := by decide +kernel
theorem dX9_cupIs_49 : decode cX9_cupIs 49 = .ok (.iload_n 1, 1) := by decide +kernel
theorem dX9_cupIs_50 : decode cX9_cupIs 50 = .ok (.imul, 1) := by decide +kernel
theorem dX9_cupIs_51 : decode cX9_cupIs 51 = .ok (.iconst 4, 1) := by decide +kernel
theorem dX9_cupIs_52 : decode cX9_cupIs 52 = .ok (.iadd, 1) := by decide +kernel
theorem dX9_cupIs_53 : decode cX9_cupIs 53 = .ok (.iload 6, 2) := by decide +kernel
theorem dX9_cupIs_55 : decode cX9_cupIs 55 = .ok (.iastore, 1) := by decide +kernel
theorem dX9_cupIs_56 : decode cX9_cupIs 56 = .ok (.return_, 1) := by decide +kernel
theorem dX9_cup_0 : decode cX9_cup 0 = .ok (.iload_n 1, 1) := by decide +kernel
theorem dX9_cup_1 : decode cX9_cup 1 = .ok (.i2l, 1) := by decide +kernel
theorem dX9_cup_2 : decode cX9_cup 2 = .ok (.ldc2_w 85, 3) := by decide +kernel
theorem dX9_cup_5 : decode cX9_cup 5 = .ok (.ldc2_w 87, 3) := by decide +kernel
theorem dX9_cup_8 : decode cX9_cup 8 = .ok (.invokestatic 71, 3) := by decide +kernel
theorem dX9_cup_11 : decode cX9_cup 11 = .ok (.ifCond .eq 42, 3) := by decide +kernel
theorem dX9_cup_14 : decode cX9_cup 14 = .ok (.iload_n 2, 1) := by decide +kernel
theorem dX9_cup_15 : decode cX9_cup 15 = .ok (.i2l, 1) := by decide +kernel
theorem dX9_cup_16 : decode cX9_cup 16 = .ok (.ldc2_w 85, 3) := by decide +kernel
theorem dX9_cup_19 : decode cX9_cup 19 = .ok (.ldc2_w 87, 3) := by decide +kernel
theorem dX9_cup_22 : decode cX9_cup 22 = .ok (.invokestatic 71, 3) := by decide +kernel
theorem dX9_cup_25 : decode cX9_cup 25 = .ok (.ifCond .eq 28, 3) := by decide +kernel
theorem dX9_cup_28 : decode cX9_cup 28 = .ok (.iload_n 3, 1) := by decide +kernel
theorem dX9_cup_29 : decode cX9_cup 29 = .ok (.i2l, 1) := by decide +kernel
theorem dX9_cup_30 : decode cX9_cup 30 = .ok (.lconst 0, 1) := by decide +kernel
theorem dX9_cup_31 : decode cX9_cup 31 = .ok (.ldc2_w 87, 3) := by decide +kernel
theorem dX9_cup_34 : decode cX9_cup 34 = .ok (.invokestatic 71, 3) := by decide +kernel
theorem dX9_cup_37 : decode cX9_cup 37 = .ok (.ifCond .eq 16, 3) := by decide +kernel
theorem dX9_cup_40 : decode cX9_cup 40 = .ok (.iload 4, 2) := by decide +kernel
theorem dX9_cup_42 : decode cX9_cup 42 = .ok (.i2l, 1) := by decide +kernel
theorem dX9_cup_43 : decode cX9_cup 43 = .ok (.lconst 0, 1) := by decide +kernel
theorem dX9_cup_44 : decode cX9_cup 44 = .ok (.ldc2_w 89, 3) := by decide +kernel
theorem dX9_cup_47 : decode cX9_cup 47 = .ok (.invokestatic 71, 3) := by decide +kernel
theorem dX9_cup_50 : decode cX9_cup 50 = .ok (.ifCond .ne 5, 3) := by decide +kernel
theorem dX9_cup_53 : decode cX9_cup 53 = .ok (.iconst (-1), 1) := by decide +kernel
theorem dX9_cup_54 : decode cX9_cup 54 = .ok (.ireturn, 1) := by decide +kernel
theorem dX9_cup_55 : decode cX9_cup 55 = .ok (.aload_n 0, 1) := by decide +kernel
theorem dX9_cup_56 : decode cX9_cup 56 = .ok (.getfield 68, 3) := by decide +kernel
theorem dX9_cup_59 : decode cX9_cup 59 = .ok (.iconst 4, 1) := by decide +kernel
theorem dX9_cup_60 : decode cX9_cup 60 = .ok (.if_icmp .ne 6, 3) := by decide +kernel
theorem dX9_cup_63 : decode cX9_cup 63 = .ok (.bipush (-3), 2) := by decide +kernel
theorem dX9_cup_65 : decode cX9_cup 65 = .ok (.ireturn, 1) := by decide +kernel
theorem dX9_cup_66 : decode cX9_cup 66 = .ok (.aload_n 0, 1) := by decide +kernel
theorem dX9_cup_67 : decode cX9_cup 67 = .ok (.aload_n 0, 1) := by decide +kernel
theorem dX9_cup_68 : decode cX9_cup 68 = .ok (.getfield 68, 3) := by decide +kernel
theorem dX9_cup_71 : decode cX9_cup 71 = .ok (.iload_n 1, 1) := by decide +kernel
theorem dX9_cup_72 : decode cX9_cup 72 = .ok (.iload_n 2, 1) := by decide +kernel
theorem dX9_cup_73 : decode cX9_cup 73 = .ok (.iload_n 3, 1) := by decide +kernel
theorem dX9_cup_74 : decode cX9_cup 74 = .ok (.iload 4, 2) := by decide +kernel
theorem dX9_cup_76 : decode cX9_cup 76 = .ok (.iload 5, 2) := by decide +kernel
theorem dX9_cup_78 : decode cX9_cup 78 = .ok (.ifCond .eq 7, 3) := by decide +kernel
theorem dX9_cup_81 : decode cX9_cup 81 = .ok (.iconst 1, 1) := by decide +kernel
theorem dX9_cup_82 : decode cX9_cup 82 = .ok (.goto 4, 3) := by decide +kernel
theorem dX9_cup_85 : decode cX9_cup 85 = .ok (.iconst 0, 1) := by decide +kernel
theorem dX9_cup_86 : decode cX9_cup 86 = .ok (.invokevirtual 91, 3) := by decide +kernel
theorem dX9_cup_89 : decode cX9_cup 89 = .ok (.aload_n 0, 1) := by decide +kernel
theorem dX9_cup_90 : decode cX9_cup 90 = .ok (.dup, 1) := by decide +kernel
theorem dX9_cup_91 : decode cX9_cup 91 = .ok (.getfield 68, 3) := by decide +kernel
theorem dX9_cup_94 : decode cX9_cup 94 = .ok (.iconst 1, 1) := by decide +kernel
theorem dX9_cup_95 : decode cX9_cup 95 = .ok (.iadd, 1) := by decide +kernel
theorem dX9_cup_96 : decode cX9_cup 96 = .ok (.putfield 68, 3) := by decide +kernel
theorem dX9_cup_99 : decode cX9_cup 99 = .ok (.aload_n 0, 1) := by decide +kernel
theorem dX9_cup_100 : decode cX9_cup 100 = .ok (.getfield 68, 3) := by decide +kernel
theorem dX9_cup_103 : decode cX9_cup 103 = .ok (.iconst 1, 1) := by decide +kernel
theorem dX9_cup_104 : decode cX9_cup 104 = .ok (.isub, 1) := by decide +kernel
theorem dX9_cup_105 : decode cX9_cup 105 = .ok (.ireturn, 1) := by decide +kernel
theorem dX9_told_0 : decode cX9_told 0 = .ok (.aload_n 0, 1) := by decide +kernel
theorem dX9_told_1 : decode cX9_told 1 = .ok (.iload_n 1, 1) := by decide +kernel
theorem dX9_told_2 : decode cX9_told 2 = .ok (.invokevirtual 95, 3) := by decide +kernel
theorem dX9_told_5 : decode cX9_told 5 = .ok (.ifCond .eq 28, 3) := by decide +kernel
theorem dX9_told_8 : decode cX9_told 8 = .ok (.iload_n 2, 1) := by decide +kernel
theorem dX9_told_9 : decode cX9_told 9 = .ok (.i2l, 1) := by decide +kernel
theorem dX9_told_10 : decode cX9_told 10 = .ok (.lconst 0, 1) := by decide +kernel
theorem dX9_told_11 : decode cX9_told 11 = .ok (.ldc2_w 81, 3) := by decide +kernel
theorem dX9_told_14 : decode cX9_told 14 = .ok (.invokestatic 71, 3) := by decide +kernel
theorem dX9_told_17 : decode cX9_told 17 = .ok (.ifCond .eq 16, 3) := by decide +kernel
theorem dX9_told_20 : decode cX9_told 20 = .ok (.aload_n 0, 1) := by decide +kernel
theorem dX9_told_21 : decode cX9_told 21 = .ok (.getfield 13, 3) := by decide +kernel
theorem dX9_told_24 : decode cX9_told 24 = .ok (.iconst 5, 1) := by decide +kernel
theorem dX9_told_25 : decode cX9_told 25 = .ok (.iload_n 1, 1) := by decide +kernel
theorem dX9_told_26 : decode cX9_told 26 = .ok (.imul, 1) := by decide +kernel
theorem dX9_told_27 : decode cX9_told 27 = .ok (.iload_n 2, 1) := by decide +kernel
theorem dX9_told_28 : decode cX9_told 28 = .ok (.iadd, 1) := by decide +kernel
theorem dX9_told_29 : decode cX9_told 29 = .ok (.iaload, 1) := by decide +kernel
theorem dX9_told_30 : decode cX9_told 30 = .ok (.goto 5, 3) := by decide +kernel
theorem dX9_told_33 : decode cX9_told 33 = .ok (.ldc 99, 2) := by decide +kernel
theorem dX9_told_35 : decode cX9_told 35 = .ok (.ireturn, 1) := by decide +kernel
theorem dX9_partIs_0 : decode cX9_partIs 0 = .ok (.aload_n 0, 1) := by decide +kernel
theorem dX9_partIs_1 : decode cX9_partIs 1 = .ok (.getfield 16, 3) := by decide +kernel
theorem dX9_partIs_4 : decode cX9_partIs 4 = .ok (.iconst 3, 1) := by decide +kernel
theorem dX9_partIs_5 : decode cX9_partIs 5 = .ok (.iload_n 1, 1) := by decide +kernel
theorem dX9_partIs_6 : decode cX9_partIs 6 = .ok (.imul, 1) := by decide +kernel
theorem dX9_partIs_7 : decode cX9_partIs 7 = .ok (.iload_n 2, 1) := by decide +kernel
theorem dX9_partIs_8 : decode cX9_partIs 8 = .ok (.iastore, 1) := by decide +kernel
theorem dX9_partIs_9 : decode cX9_partIs 9 = .ok (.aload_n 0, 1) := by decide +kernel
theorem dX9_partIs_10 : decode cX9_partIs 10 = .ok (.getfield 16, 3) := by decide +kernel
theorem dX9_partIs_13 : decode cX9_partIs 13 = .ok (.iconst 3, 1) := by decide +kernel
theorem dX9_partIs_14 : decode cX9_partIs 14 = .ok (.iload_n 1, 1) := by decide +kernel
theorem dX9_partIs_15 : decode cX9_partIs 15 = .ok (.imul, 1) := by decide +kernel
theorem dX9_partIs_16 : decode cX9_partIs 16 = .ok (.iconst 1, 1) := by decide +kernel
theorem dX9_partIs_17 : decode cX9_partIs 17 = .ok (.iadd, 1) := by decide +kernel
theorem dX9_partIs_18 : decode cX9_partIs 18 = .ok (.iload_n 3, 1) := by decide +kernel
theorem dX9_partIs_19 : decode cX9_partIs 19 = .ok (.iastore, 1) := by decide +kernel
theorem dX9_partIs_20 : decode cX9_partIs 20 = .ok (.aload_n 0, 1) := by decide +kernel
theorem dX9_partIs_21 : decode cX9_partIs 21 = .ok (.getfield 16, 3) := by decide +kernel
theorem dX9_partIs_24 : decode cX9_partIs 24 = .ok (.iconst 3, 1) := by decide +kernel
theorem dX9_partIs_25 : decode cX9_partIs 25 = .ok (.iload_n 1, 1) := by decide +kernel
theorem dX9_partIs_26 : decode cX9_partIs 26 = .ok (.imul, 1) := by decide +kernel
theorem dX9_partIs_27 : decode cX9_partIs 27 = .ok (.iconst 2, 1) := by decide +kernel
theorem dX9_partIs_28 : decode cX9_partIs 28 = .ok (.iadd, 1) := by decide +kernel
theorem dX9_partIs_29 : decode cX9_partIs 29 = .ok (.iload 4, 2) := by decide +kernel
theorem dX9_partIs_31 : decode cX9_partIs 31 = .ok (.iastore, 1) := by decide +kernel
theorem dX9_partIs_32 : decode cX9_partIs 32 = .ok (.return_, 1) := by decide +kernel
theorem dX9_part_0 : decode cX9_part 0 = .ok (.iload_n 1, 1) := by decide +kernel
theorem dX9_part_1 : decode cX9_part 1 = .ok (.i2l, 1) := by decide +kernel
theorem dX9_part_2 : decode cX9_part 2 = .ok (.lconst 1, 1) := by decide +kernel
theorem dX9_part_3 : decode cX9_part 3 = .ok (.ldc2_w 83, 3) := by decide +kernel
theorem dX9_part_6 : decode cX9_part 6 = .ok (.invokestatic 71, 3) := by decide +kernel
theorem dX9_part_9 : decode cX9_part 9 = .ok (.ifCond .eq 31, 3) := by decide +kernel
theorem dX9_part_12 : decode cX9_part 12 = .ok (.iload_n 2, 1) := by decide +kernel
theorem dX9_part_13 : decode cX9_part 13 = .ok (.i2l, 1) := by decide +kernel
theorem dX9_part_14 : decode cX9_part 14 = .ok (.ldc2_w 85, 3) := by decide +kernel
theorem dX9_part_17 : decode cX9_part 17 = .ok (.ldc2_w 87, 3) := by decide +kernel
theorem dX9_part_20 : decode cX9_part 20 = .ok (.invokestatic 71, 3) := by decide +kernel
theorem dX9_part_23 : decode cX9_part 23 = .ok (.ifCond .eq 17, 3) := by decide +kernel
theorem dX9_part_26 : decode cX9_part 26 = .ok (.iload_n 3, 1) := by decide +kernel
theorem dX9_part_27 : decode cX9_part 27 = .ok (.i2l, 1) := by decide +kernel
theorem dX9_part_28 : decode cX9_part 28 = .ok (.ldc2_w 85, 3) := by decide +kernel
theorem dX9_part_31 : decode cX9_part 31 = .ok (.ldc2_w 87, 3) := by decide +kernel
theorem dX9_part_34 : decode cX9_part 34 = .ok (.invokestatic 71, 3) := by decide +kernel
theorem dX9_part_37 : decode cX9_part 37 = .ok (.ifCond .ne 5, 3) := by decide +kernel
theorem dX9_part_40 : decode cX9_part 40 = .ok (.iconst (-1), 1) := by decide +kernel
theorem dX9_part_41 : decode cX9_part 41 = .ok (.ireturn, 1) := by decide +kernel
theorem dX9_part_42 : decode cX9_part 42 = .ok (.aload_n 0, 1) := by decide +kernel
theorem dX9_part_43 : decode cX9_part 43 = .ok (.getfield 100, 3) := by decide +kernel
theorem dX9_part_46 : decode cX9_part 46 = .ok (.bipush 6, 2) := by decide +kernel
theorem dX9_part_48 : decode cX9_part 48 = .ok (.if_icmp .ne 6, 3) := by decide +kernel
theorem dX9_part_51 : decode cX9_part 51 = .ok (.bipush (-3), 2) := by decide +kernel
theorem dX9_part_53 : decode cX9_part 53 = .ok (.ireturn, 1) := by decide +kernel
theorem dX9_part_54 : decode cX9_part 54 = .ok (.aload_n 0, 1) := by decide +kernel
theorem dX9_part_55 : decode cX9_part 55 = .ok (.aload_n 0, 1) := by decide +kernel
theorem dX9_part_56 : decode cX9_part 56 = .ok (.getfield 100, 3) := by decide +kernel
theorem dX9_part_59 : decode cX9_part 59 = .ok (.iload_n 1, 1) := by decide +kernel
theorem dX9_part_60 : decode cX9_part 60 = .ok (.iload_n 2, 1) := by decide +kernel
theorem dX9_part_61 : decode cX9_part 61 = .ok (.iload_n 3, 1) := by decide +kernel
theorem dX9_part_62 : decode cX9_part 62 = .ok (.invokevirtual 103, 3) := by decide +kernel
theorem dX9_part_65 : decode cX9_part 65 = .ok (.aload_n 0, 1) := by decide +kernel
theorem dX9_part_66 : decode cX9_part 66 = .ok (.dup, 1) := by decide +kernel
theorem dX9_part_67 : decode cX9_part 67 = .ok (.getfield 100, 3) := by decide +kernel
theorem dX9_part_70 : decode cX9_part 70 = .ok (.iconst 1, 1) := by decide +kernel
theorem dX9_part_71 : decode cX9_part 71 = .ok (.iadd, 1) := by decide +kernel
theorem dX9_part_72 : decode cX9_part 72 = .ok (.putfield 100, 3) := by decide +kernel
theorem dX9_part_75 : decode cX9_part 75 = .ok (.aload_n 0, 1) := by decide +kernel
theorem dX9_part_76 : decode cX9_part 76 = .ok (.getfield 100, 3) := by decide +kernel
theorem dX9_part_79 : decode cX9_part 79 = .ok (.iconst 1, 1) := by decide +kernel
theorem dX9_part_80 : decode cX9_part 80 = .ok (.isub, 1) := by decide +kernel
theorem dX9_part_81 : decode cX9_part 81 = .ok (.ireturn, 1) := by decide +kernel
theorem dX9_pull_0 : decode cX9_pull 0 = .ok (.iload_n 1, 1) := by decide +kernel
theorem dX9_pull_1 : decode cX9_pull 1 = .ok (.i2l, 1) := by decide +kernel
theorem dX9_pull_2 : decode cX9_pull 2 = .ok (.lconst 0, 1) := by decide +kernel
theorem dX9_pull_3 : decode cX9_pull 3 = .ok (.aload_n 0, 1) := by decide +kernel
theorem dX9_pull_4 : decode cX9_pull 4 = .ok (.getfield 100, 3) := by decide +kernel
theorem dX9_pull_7 : decode cX9_pull 7 = .ok (.iconst 1, 1) := by decide +kernel
theorem dX9_pull_8 : decode cX9_pull 8 = .ok (.isub, 1) := by decide +kernel
theorem dX9_pull_9 : decode cX9_pull 9 = .ok (.i2l, 1) := by decide +kernel
theorem dX9_pull_10 : decode cX9_pull 10 = .ok (.invokestatic 71, 3) := by decide +kernel
theorem dX9_pull_13 : decode cX9_pull 13 = .ok (.ifCond .eq 28, 3) := by decide +kernel
theorem dX9_pull_16 : decode cX9_pull 16 = .ok (.iload_n 2, 1) := by decide +kernel
theorem dX9_pull_17 : decode cX9_pull 17 = .ok (.i2l, 1) := by decide +kernel
theorem dX9_pull_18 : decode cX9_pull 18 = .ok (.lconst 0, 1) := by decide +kernel
theorem dX9_pull_19 : decode cX9_pull 19 = .ok (.ldc2_w 75, 3) := by decide +kernel
theorem dX9_pull_22 : decode cX9_pull 22 = .ok (.invokestatic 71, 3) := by decide +kernel
theorem dX9_pull_25 : decode cX9_pull 25 = .ok (.ifCond .eq 16, 3) := by decide +kernel
theorem dX9_pull_28 : decode cX9_pull 28 = .ok (.aload_n 0, 1) := by decide +kernel
theorem dX9_pull_29 : decode cX9_pull 29 = .ok (.getfield 16, 3) := by decide +kernel
theorem dX9_pull_32 : decode cX9_pull 32 = .ok (.iconst 3, 1) := by decide +kernel
theorem dX9_pull_33 : decode cX9_pull 33 = .ok (.iload_n 1, 1) := by decide +kernel
theorem dX9_pull_34 : decode cX9_pull 34 = .ok (.imul, 1) := by decide +kernel
theorem dX9_pull_35 : decode cX9_pull 35 = .ok (.iload_n 2, 1) := by decide +kernel
theorem dX9_pull_36 : decode cX9_pull 36 = .ok (.iadd, 1) := by decide +kernel
theorem dX9_pull_37 : decode cX9_pull 37 = .ok (.iaload, 1) := by decide +kernel
theorem dX9_pull_38 : decode cX9_pull 38 = .ok (.goto 5, 3) := by decide +kernel
theorem dX9_pull_41 : decode cX9_pull 41 = .ok (.ldc 99, 2) := by decide +kernel
theorem dX9_pull_43 : decode cX9_pull 43 = .ok (.ireturn, 1) := by decide +kernel
theorem dX9_still_0 : decode cX9_still 0 = .ok (.aload_n 0, 1) := by decide +kernel
theorem dX9_still_1 : decode cX9_still 1 = .ok (.getfield 100, 3) := by decide +kernel
theorem dX9_still_4 : decode cX9_still 4 = .ok (.istore_n 1, 1) := by decide +kernel
theorem dX9_still_5 : decode cX9_still 5 = .ok (.aload_n 0, 1) := by decide +kernel
theorem dX9_still_6 : decode cX9_still 6 = .ok (.iconst 0, 1) := by decide +kernel
theorem dX9_still_7 : decode cX9_still 7 = .ok (.putfield 100, 3) := by decide +kernel
theorem dX9_still_10 : decode cX9_still 10 = .ok (.iload_n 1, 1) := by decide +kernel
theorem dX9_still_11 : decode cX9_still 11 = .ok (.ireturn, 1) := by decide +kernel
theorem dX9_type_0 : decode cX9_type 0 = .ok (.iload_n 3, 1) := by decide +kernel
theorem dX9_type_1 : decode cX9_type 1 = .ok (.i2l, 1) := by decide +kernel
theorem dX9_type_2 : decode cX9_type 2 = .ok (.lconst 1, 1) := by decide +kernel
theorem dX9_type_3 : decode cX9_type 3 = .ok (.ldc2_w 107, 3) := by decide +kernel
theorem dX9_type_6 : decode cX9_type 6 = .ok (.invokestatic 71, 3) := by decide +kernel
theorem dX9_type_9 : decode cX9_type 9 = .ok (.ifCond .ne 5, 3) := by decide +kernel
theorem dX9_type_12 : decode cX9_type 12 = .ok (.iconst (-1), 1) := by decide +kernel
theorem dX9_type_13 : decode cX9_type 13 = .ok (.ireturn, 1) := by decide +kernel
theorem dX9_type_14 : decode cX9_type 14 = .ok (.iconst 0, 1) := by decide +kernel
theorem dX9_type_15 : decode cX9_type 15 = .ok (.istore 4, 2) := by decide +kernel
theorem dX9_type_17 : decode cX9_type 17 = .ok (.iload 4, 2) := by decide +kernel
theorem dX9_type_19 : decode cX9_type 19 = .ok (.iload_n 3, 1) := by decide +kernel
theorem dX9_type_20 : decode cX9_type 20 = .ok (.if_icmp .ge 34, 3) := by decide +kernel
theorem dX9_type_23 : decode cX9_type 23 = .ok (.lload_n 1, 1) := by decide +kernel
theorem dX9_type_24 : decode cX9_type 24 = .ok (.bipush 8, 2) := by decide +kernel
theorem dX9_type_26 : decode cX9_type 26 = .ok (.iload 4, 2) := by decide +kernel
theorem dX9_type_28 : decode cX9_type 28 = .ok (.imul, 1) := by decide +kernel
theorem dX9_type_29 : decode cX9_type 29 = .ok (.lshr, 1) := by decide +kernel
theorem dX9_type_30 : decode cX9_type 30 = .ok (.ldc2_w 109, 3) := by decide +kernel
theorem dX9_type_33 : decode cX9_type 33 = .ok (.land, 1) := by decide +kernel
theorem dX9_type_34 : decode cX9_type 34 = .ok (.ldc2_w 111, 3) := by decide +kernel
theorem dX9_type_37 : decode cX9_type 37 = .ok (.ldc2_w 113, 3) := by decide +kernel
theorem dX9_type_40 : decode cX9_type 40 = .ok (.invokestatic 71, 3) := by decide +kernel
theorem dX9_type_43 : decode cX9_type 43 = .ok (.ifCond .ne 5, 3) := by decide +kernel
theorem dX9_type_46 : decode cX9_type 46 = .ok (.iconst (-1), 1) := by decide +kernel
theorem dX9_type_47 : decode cX9_type 47 = .ok (.ireturn, 1) := by decide +kernel
theorem dX9_type_48 : decode cX9_type 48 = .ok (.iinc 4 1, 3) := by decide +kernel
theorem dX9_type_51 : decode cX9_type 51 = .ok (.goto (-34), 3) := by decide +kernel
theorem dX9_type_54 : decode cX9_type 54 = .ok (.aload_n 0, 1) := by decide +kernel
theorem dX9_type_55 : decode cX9_type 55 = .ok (.getfield 115, 3) := by decide +kernel
theorem dX9_type_58 : decode cX9_type 58 = .ok (.iload_n 3, 1) := by decide +kernel
theorem dX9_type_59 : decode cX9_type 59 = .ok (.iadd, 1) := by decide +kernel
theorem dX9_type_60 : decode cX9_type 60 = .ok (.bipush 60, 2) := by decide +kernel
theorem dX9_type_62 : decode cX9_type 62 = .ok (.if_icmp .le 6, 3) := by decide +kernel
theorem dX9_type_65 : decode cX9_type 65 = .ok (.bipush (-3), 2) := by decide +kernel
theorem dX9_type_67 : decode cX9_type 67 = .ok (.ireturn, 1) := by decide +kernel
theorem dX9_type_68 : decode cX9_type 68 = .ok (.iload_n 3, 1) := by decide +kernel
theorem dX9_type_69 : decode cX9_type 69 = .ok (.iconst 1, 1) := by decide +kernel
theorem dX9_type_70 : decode cX9_type 70 = .ok (.isub, 1) := by decide +kernel
theorem dX9_type_71 : decode cX9_type 71 = .ok (.istore 4, 2) := by decide +kernel
theorem dX9_type_73 : decode cX9_type 73 = .ok (.iload 4, 2) := by decide +kernel
theorem dX9_type_75 : decode cX9_type 75 = .ok (.ifCond .lt 40, 3) := by decide +kernel
theorem dX9_type_78 : decode cX9_type 78 = .ok (.aload_n 0, 1) := by decide +kernel
theorem dX9_type_79 : decode cX9_type 79 = .ok (.getfield 22, 3) := by decide +kernel
theorem dX9_type_82 : decode cX9_type 82 = .ok (.aload_n 0, 1) := by decide +kernel
theorem dX9_type_83 : decode cX9_type 83 = .ok (.getfield 115, 3) := by decide +kernel
theorem dX9_type_86 : decode cX9_type 86 = .ok (.lload_n 1, 1) := by decide +kernel
theorem dX9_type_87 : decode cX9_type 87 = .ok (.bipush 8, 2) := by decide +kernel
theorem dX9_type_89 : decode cX9_type 89 = .ok (.iload 4, 2) := by decide +kernel
theorem dX9_type_91 : decode cX9_type 91 = .ok (.imul, 1) := by decide +kernel
theorem dX9_type_92 : decode cX9_type 92 = .ok (.lshr, 1) := by decide +kernel
theorem dX9_type_93 : decode cX9_type 93 = .ok (.ldc2_w 109, 3) := by decide +kernel
theorem dX9_type_96 : decode cX9_type 96 = .ok (.land, 1) := by decide +kernel
theorem dX9_type_97 : decode cX9_type 97 = .ok (.l2i, 1) := by decide +kernel
theorem dX9_type_98 : decode cX9_type 98 = .ok (.iastore, 1) := by decide +kernel
theorem dX9_type_99 : decode cX9_type 99 = .ok (.aload_n 0, 1) := by decide +kernel
theorem dX9_type_100 : decode cX9_type 100 = .ok (.dup, 1) := by decide +kernel
theorem dX9_type_101 : decode cX9_type 101 = .ok (.getfield 115, 3) := by decide +kernel
theorem dX9_type_104 : decode cX9_type 104 = .ok (.iconst 1, 1) := by decide +kernel
theorem dX9_type_105 : decode cX9_type 105 = .ok (.iadd, 1) := by decide +kernel
theorem dX9_type_106 : decode cX9_type 106 = .ok (.putfield 115, 3) := by decide +kernel
theorem dX9_type_109 : decode cX9_type 109 = .ok (.iinc 4 (-1), 3) := by decide +kernel
theorem dX9_type_112 : decode cX9_type 112 = .ok (.goto (-39), 3) := by decide +kernel
theorem dX9_type_115 : decode cX9_type 115 = .ok (.aload_n 0, 1) := by decide +kernel
theorem dX9_type_116 : decode cX9_type 116 = .ok (.getfield 115, 3) := by decide +kernel
theorem dX9_type_119 : decode cX9_type 119 = .ok (.ireturn, 1) := by decide +kernel
theorem dX9_here_0 : decode cX9_here 0 = .ok (.aload_n 0, 1) := by decide +kernel
theorem dX9_here_1 : decode cX9_here 1 = .ok (.getfield 118, 3) := by decide +kernel
theorem dX9_here_4 : decode cX9_here 4 = .ok (.aload_n 0, 1) := by decide +kernel
theorem dX9_here_5 : decode cX9_here 5 = .ok (.getfield 115, 3) := by decide +kernel
theorem dX9_here_8 : decode cX9_here 8 = .ok (.if_icmp .ge 30, 3) := by decide +kernel
theorem dX9_here_11 : decode cX9_here 11 = .ok (.aload_n 0, 1) := by decide +kernel
theorem dX9_here_12 : decode cX9_here 12 = .ok (.getfield 22, 3) := by decide +kernel
theorem dX9_here_15 : decode cX9_here 15 = .ok (.aload_n 0, 1) := by decide +kernel
theorem dX9_here_16 : decode cX9_here 16 = .ok (.getfield 118, 3) := by decide +kernel
theorem dX9_here_19 : decode cX9_here 19 = .ok (.iaload, 1) := by decide +kernel
theorem dX9_here_20 : decode cX9_here 20 = .ok (.bipush 32, 2) := by decide +kernel
theorem dX9_here_22 : decode cX9_here 22 = .ok (.if_icmp .ne 16, 3) := by decide +kernel
theorem dX9_here_25 : decode cX9_here 25 = .ok (.aload_n 0, 1) := by decide +kernel
theorem dX9_here_26 : decode cX9_here 26 = .ok (.dup, 1) := by decide +kernel
theorem dX9_here_27 : decode cX9_here 27 = .ok (.getfield 118, 3) := by decide +kernel
theorem dX9_here_30 : decode cX9_here 30 = .ok (.iconst 1, 1) := by decide +kernel
theorem dX9_here_31 : decode cX9_here 31 = .ok (.iadd, 1) := by decide +kernel
theorem dX9_here_32 : decode cX9_here 32 = .ok (.putfield 118, 3) := by decide +kernel
theorem dX9_here_35 : decode cX9_here 35 = .ok (.goto (-35), 3) := by decide +kernel
theorem dX9_here_38 : decode cX9_here 38 = .ok (.aload_n 0, 1) := by decide +kernel
theorem dX9_here_39 : decode cX9_here 39 = .ok (.getfield 118, 3) := by decide +kernel
theorem dX9_here_42 : decode cX9_here 42 = .ok (.aload_n 0, 1) := by decide +kernel
theorem dX9_here_43 : decode cX9_here 43 = .ok (.getfield 115, 3) := by decide +kernel
theorem dX9_here_46 : decode cX9_here 46 = .ok (.if_icmp .ge 15, 3) := by decide +kernel
theorem dX9_here_49 : decode cX9_here 49 = .ok (.aload_n 0, 1) := by decide +kernel
theorem dX9_here_50 : decode cX9_here 50 = .ok (.getfield 22, 3) := by decide +kernel
theorem dX9_here_53 : decode cX9_here 53 = .ok (.aload_n 0, 1) := by decide +kernel
theorem dX9_here_54 : decode cX9_here 54 = .ok (.getfield 118, 3) := by decide +kernel
theorem dX9_here_57 : decode cX9_here 57 = .ok (.iaload, 1) := by decide +kernel
theorem dX9_here_58 : decode cX9_here 58 = .ok (.goto 4, 3) := by decide +kernel
theorem dX9_here_61 : decode cX9_here 61 = .ok (.iconst 0, 1) := by decide +kernel
theorem dX9_here_62 : decode cX9_here 62 = .ok (.ireturn, 1) := by decide +kernel
theorem dX9_has_0 : decode cX9_has 0 = .ok (.aload_n 0, 1) := by decide +kernel
theorem dX9_has_1 : decode cX9_has 1 = .ok (.getfield 121, 3) := by decide +kernel
theorem dX9_has_4 : decode cX9_has 4 = .ok (.ifCond .ne 15, 3) := by decide +kernel
theorem dX9_has_7 : decode cX9_has 7 = .ok (.aload_n 0, 1) := by decide +kernel
theorem dX9_has_8 : decode cX9_has 8 = .ok (.invokevirtual 125, 3) := by decide +kernel
theorem dX9_has_11 : decode cX9_has 11 = .ok (.iload_n 1, 1) := by decide +kernel
theorem dX9_has_12 : decode cX9_has 12 = .ok (.if_icmp .ne 7, 3) := by decide +kernel
theorem dX9_has_15 : decode cX9_has 15 = .ok (.iconst 1, 1) := by decide +kernel
theorem dX9_has_16 : decode cX9_has 16 = .ok (.goto 4, 3) := by decide +kernel
theorem dX9_has_19 : decode cX9_has 19 = .ok (.iconst 0, 1) := by decide +kernel
theorem dX9_has_20 : decode cX9_has 20 = .ok (.istore_n 2, 1) := by decide +kernel
theorem dX9_has_21 : decode cX9_has 21 = .ok (.aload_n 0, 1) := by decide +kernel
theorem dX9_has_22 : decode cX9_has 22 = .ok (.dup, 1) := by decide +kernel
theorem dX9_has_23 : decode cX9_has 23 = .ok (.getfield 118, 3) := by decide +kernel
theorem dX9_has_26 : decode cX9_has 26 = .ok (.iload_n 2, 1) := by decide +kernel
theorem dX9_has_27 : decode cX9_has 27 = .ok (.ifCond .eq 7, 3) := by decide +kernel
theorem dX9_has_30 : decode cX9_has 30 = .ok (.iconst 1, 1) := by decide +kernel
theorem dX9_has_31 : decode cX9_has 31 = .ok (.goto 4, 3) := by decide +kernel
theorem dX9_has_34 : decode cX9_has 34 = .ok (.iconst 0, 1) := by decide +kernel
theorem dX9_has_35 : decode cX9_has 35 = .ok (.iadd, 1) := by decide +kernel
theorem dX9_has_36 : decode cX9_has 36 = .ok (.putfield 118, 3) := by decide +kernel
theorem dX9_has_39 : decode cX9_has 39 = .ok (.iload_n 2, 1) := by decide +kernel
theorem dX9_has_40 : decode cX9_has 40 = .ok (.ireturn, 1) := by decide +kernel
theorem dX9_number_0 : decode cX9_number 0 = .ok (.aload_n 0, 1) := by decide +kernel
theorem dX9_number_1 : decode cX9_number 1 = .ok (.getfield 121, 3) := by decide +kernel
theorem dX9_number_4 : decode cX9_number 4 = .ok (.ifCond .ne 20, 3) := by decide +kernel
theorem dX9_number_7 : decode cX9_number 7 = .ok (.aload_n 0, 1) := by decide +kernel
theorem dX9_number_8 : decode cX9_number 8 = .ok (.invokevirtual 125, 3) := by decide +kernel
theorem dX9_number_11 : decode cX9_number 11 = .ok (.i2l, 1) := by decide +kernel
theorem dX9_number_12 : decode cX9_number 12 = .ok (.ldc2_w 129, 3) := by decide +kernel
theorem dX9_number_15 : decode cX9_number 15 = .ok (.ldc2_w 131, 3) := by decide +kernel
theorem dX9_number_18 : decode cX9_number 18 = .ok (.invokestatic 71, 3) := by decide +kernel
theorem dX9_number_21 : decode cX9_number 21 = .ok (.ifCond .ne 10, 3) := by decide +kernel
theorem dX9_number_24 : decode cX9_number 24 = .ok (.aload_n 0, 1) := by decide +kernel
theorem dX9_number_25 : decode cX9_number 25 = .ok (.iconst 1, 1) := by decide +kernel
theorem dX9_number_26 : decode cX9_number 26 = .ok (.putfield 121, 3) := by decide +kernel
theorem dX9_number_29 : decode cX9_number 29 = .ok (.iconst 0, 1) := by decide +kernel
theorem dX9_number_30 : decode cX9_number 30 = .ok (.ireturn, 1) := by decide +kernel
theorem dX9_number_31 : decode cX9_number 31 = .ok (.aload_n 0, 1) := by decide +kernel
theorem dX9_number_32 : decode cX9_number 32 = .ok (.getfield 118, 3) := by decide +kernel
theorem dX9_number_35 : decode cX9_number 35 = .ok (.istore_n 3, 1) := by decide +kernel
theorem dX9_number_36 : decode cX9_number 36 = .ok (.iconst 0, 1) := by decide +kernel
theorem dX9_number_37 : decode cX9_number 37 = .ok (.istore 4, 2) := by decide +kernel
theorem dX9_number_39 : decode cX9_number 39 = .ok (.aload_n 0, 1) := by decide +kernel
theorem dX9_number_40 : decode cX9_number 40 = .ok (.getfield 118, 3) := by decide +kernel
theorem dX9_number_43 : decode cX9_number 43 = .ok (.aload_n 0, 1) := by decide +kernel
theorem dX9_number_44 : decode cX9_number 44 = .ok (.getfield 115, 3) := by decide +kernel
theorem dX9_number_47 : decode cX9_number 47 = .ok (.if_icmp .ge 71, 3) := by decide +kernel
theorem dX9_number_50 : decode cX9_number 50 = .ok (.aload_n 0, 1) := by decide +kernel
theorem dX9_number_51 : decode cX9_number 51 = .ok (.getfield 22, 3) := by decide +kernel
theorem dX9_number_54 : decode cX9_number 54 = .ok (.aload_n 0, 1) := by decide +kernel
theorem dX9_number_55 : decode cX9_number 55 = .ok (.getfield 118, 3) := by decide +kernel
theorem dX9_number_58 : decode cX9_number 58 = .ok (.iaload, 1) := by decide +kernel
theorem dX9_number_59 : decode cX9_number 59 = .ok (.i2l, 1) := by decide +kernel
theorem dX9_number_60 : decode cX9_number 60 = .ok (.ldc2_w 129, 3) := by decide +kernel
theorem dX9_number_63 : decode cX9_number 63 = .ok (.ldc2_w 131, 3) := by decide +kernel
theorem dX9_number_66 : decode cX9_number 66 = .ok (.invokestatic 71, 3) := by decide +kernel
theorem dX9_number_69 : decode cX9_number 69 = .ok (.ifCond .eq 49, 3) := by decide +kernel
theorem dX9_number_72 : decode cX9_number 72 = .ok (.iload 4, 2) := by decide +kernel
theorem dX9_number_74 : decode cX9_number 74 = .ok (.sipush 999, 3) := by decide +kernel
theorem dX9_number_77 : decode cX9_number 77 = .ok (.if_icmp .le 8, 3) := by decide +kernel
theorem dX9_number_80 : decode cX9_number 80 = .ok (.iload 4, 2) := by decide +kernel
theorem dX9_number_82 : decode cX9_number 82 = .ok (.goto 21, 3) := by decide +kernel
theorem dX9_number_85 : decode cX9_number 85 = .ok (.bipush 10, 2) := by decide +kernel
theorem dX9_number_87 : decode cX9_number 87 = .ok (.iload 4, 2) := by decide +kernel
theorem dX9_number_89 : decode cX9_number 89 = .ok (.imul, 1) := by decide +kernel
theorem dX9_number_90 : decode cX9_number 90 = .ok (.aload_n 0, 1) := by decide +kernel
theorem dX9_number_91 : decode cX9_number 91 = .ok (.getfield 22, 3) := by decide +kernel
theorem dX9_number_94 : decode cX9_number 94 = .ok (.aload_n 0, 1) := by decide +kernel
theorem dX9_number_95 : decode cX9_number 95 = .ok (.getfield 118, 3) := by decide +kernel
theorem dX9_number_98 : decode cX9_number 98 = .ok (.iaload, 1) := by decide +kernel
theorem dX9_number_99 : decode cX9_number 99 = .ok (.iadd, 1) := by decide +kernel
theorem dX9_number_100 : decode cX9_number 100 = .ok (.bipush 48, 2) := by decide +kernel
theorem dX9_number_102 : decode cX9_number 102 = .ok (.isub, 1) := by decide +kernel
theorem dX9_number_103 : decode cX9_number 103 = .ok (.istore 4, 2) := by decide +kernel
theorem dX9_number_105 : decode cX9_number 105 = .ok (.aload_n 0, 1) := by decide +kernel
theorem dX9_number_106 : decode cX9_number 106 = .ok (.dup, 1) := by decide +kernel
theorem dX9_number_107 : decode cX9_number 107 = .ok (.getfield 118, 3) := by decide +kernel
theorem dX9_number_110 : decode cX9_number 110 = .ok (.iconst 1, 1) := by decide +kernel
theorem dX9_number_111 : decode cX9_number 111 = .ok (.iadd, 1) := by decide +kernel
theorem dX9_number_112 : decode cX9_number 112 = .ok (.putfield 118, 3) := by decide +kernel
theorem dX9_number_115 : decode cX9_number 115 = .ok (.goto (-76), 3) := by decide +kernel
theorem dX9_number_118 : decode cX9_number 118 = .ok (.aload_n 0, 1) := by decide +kernel
theorem dX9_number_119 : decode cX9_number 119 = .ok (.iload 4, 2) := by decide +kernel
theorem dX9_number_121 : decode cX9_number 121 = .ok (.i2l, 1) := by decide +kernel
theorem dX9_number_122 : decode cX9_number 122 = .ok (.iload_n 1, 1) := by decide +kernel
theorem dX9_number_123 : decode cX9_number 123 = .ok (.i2l, 1) := by decide +kernel
theorem dX9_number_124 : decode cX9_number 124 = .ok (.iload_n 2, 1) := by decide +kernel
theorem dX9_number_125 : decode cX9_number 125 = .ok (.i2l, 1) := by decide +kernel
theorem dX9_number_126 : decode cX9_number 126 = .ok (.invokestatic 71, 3) := by decide +kernel
theorem dX9_number_129 : decode cX9_number 129 = .ok (.ifCond .ne 7, 3) := by decide +kernel
theorem dX9_number_132 : decode cX9_number 132 = .ok (.iconst 1, 1) := by decide +kernel
theorem dX9_number_133 : decode cX9_number 133 = .ok (.goto 4, 3) := by decide +kernel
theorem dX9_number_136 : decode cX9_number 136 = .ok (.iconst 0, 1) := by decide +kernel
theorem dX9_number_137 : decode cX9_number 137 = .ok (.putfield 121, 3) := by decide +kernel
theorem dX9_number_140 : decode cX9_number 140 = .ok (.aload_n 0, 1) := by decide +kernel
theorem dX9_number_141 : decode cX9_number 141 = .ok (.aload_n 0, 1) := by decide +kernel
theorem dX9_number_142 : decode cX9_number 142 = .ok (.getfield 121, 3) := by decide +kernel
theorem dX9_number_145 : decode cX9_number 145 = .ok (.ifCond .eq 7, 3) := by decide +kernel
theorem dX9_number_148 : decode cX9_number 148 = .ok (.iload_n 3, 1) := by decide +kernel
theorem dX9_number_149 : decode cX9_number 149 = .ok (.goto 7, 3) := by decide +kernel
theorem dX9_number_152 : decode cX9_number 152 = .ok (.aload_n 0, 1) := by decide +kernel
theorem dX9_number_153 : decode cX9_number 153 = .ok (.getfield 118, 3) := by decide +kernel
theorem dX9_number_156 : decode cX9_number 156 = .ok (.putfield 118, 3) := by decide +kernel
theorem dX9_number_159 : decode cX9_number 159 = .ok (.iload 4, 2) := by decide +kernel
theorem dX9_number_161 : decode cX9_number 161 = .ok (.ireturn, 1) := by decide +kernel
theorem dX9_digit_0 : decode cX9_digit 0 = .ok (.aload_n 0, 1) := by decide +kernel
theorem dX9_digit_1 : decode cX9_digit 1 = .ok (.aload_n 0, 1) := by decide +kernel
theorem dX9_digit_2 : decode cX9_digit 2 = .ok (.getfield 121, 3) := by decide +kernel
theorem dX9_digit_5 : decode cX9_digit 5 = .ok (.ifCond .ne 20, 3) := by decide +kernel
theorem dX9_digit_8 : decode cX9_digit 8 = .ok (.aload_n 0, 1) := by decide +kernel
theorem dX9_digit_9 : decode cX9_digit 9 = .ok (.invokevirtual 125, 3) := by decide +kernel
theorem dX9_digit_12 : decode cX9_digit 12 = .ok (.i2l, 1) := by decide +kernel
theorem dX9_digit_13 : decode cX9_digit 13 = .ok (.ldc2_w 129, 3) := by decide +kernel
theorem dX9_digit_16 : decode cX9_digit 16 = .ok (.ldc2_w 131, 3) := by decide +kernel
theorem dX9_digit_19 : decode cX9_digit 19 = .ok (.invokestatic 71, 3) := by decide +kernel
theorem dX9_digit_22 : decode cX9_digit 22 = .ok (.ifCond .ne 7, 3) := by decide +kernel
theorem dX9_digit_25 : decode cX9_digit 25 = .ok (.iconst 1, 1) := by decide +kernel
theorem dX9_digit_26 : decode cX9_digit 26 = .ok (.goto 4, 3) := by decide +kernel
theorem dX9_digit_29 : decode cX9_digit 29 = .ok (.iconst 0, 1) := by decide +kernel
theorem dX9_digit_30 : decode cX9_digit 30 = .ok (.putfield 121, 3) := by decide +kernel
theorem dX9_digit_33 : decode cX9_digit 33 = .ok (.aload_n 0, 1) := by decide +kernel
theorem dX9_digit_34 : decode cX9_digit 34 = .ok (.getfield 121, 3) := by decide +kernel
theorem dX9_digit_37 : decode cX9_digit 37 = .ok (.ifCond .eq 7, 3) := by decide +kernel
theorem dX9_digit_40 : decode cX9_digit 40 = .ok (.iconst 0, 1) := by decide +kernel
theorem dX9_digit_41 : decode cX9_digit 41 = .ok (.goto 10, 3) := by decide +kernel
theorem dX9_digit_44 : decode cX9_digit 44 = .ok (.aload_n 0, 1) := by decide +kernel
theorem dX9_digit_45 : decode cX9_digit 45 = .ok (.invokevirtual 125, 3) := by decide +kernel
theorem dX9_digit_48 : decode cX9_digit 48 = .ok (.bipush 48, 2) := by decide +kernel
theorem dX9_digit_50 : decode cX9_digit 50 = .ok (.isub, 1) := by decide +kernel
theorem dX9_digit_51 : decode cX9_digit 51 = .ok (.istore_n 1, 1) := by decide +kernel
theorem dX9_digit_52 : decode cX9_digit 52 = .ok (.aload_n 0, 1) := by decide +kernel
theorem dX9_digit_53 : decode cX9_digit 53 = .ok (.dup, 1) := by decide +kernel
theorem dX9_digit_54 : decode cX9_digit 54 = .ok (.getfield 118, 3) := by decide +kernel
theorem dX9_digit_57 : decode cX9_digit 57 = .ok (.aload_n 0, 1) := by decide +kernel
theorem dX9_digit_58 : decode cX9_digit 58 = .ok (.getfield 121, 3) := by decide +kernel
theorem dX9_digit_61 : decode cX9_digit 61 = .ok (.ifCond .eq 7, 3) := by decide +kernel
theorem dX9_digit_64 : decode cX9_digit 64 = .ok (.iconst 0, 1) := by decide +kernel
theorem dX9_digit_65 : decode cX9_digit 65 = .ok (.goto 4, 3) := by decide +kernel
theorem dX9_digit_68 : decode cX9_digit 68 = .ok (.iconst 1, 1) := by decide +kernel
theorem dX9_digit_69 : decode cX9_digit 69 = .ok (.iadd, 1) := by decide +kernel
theorem dX9_digit_70 : decode cX9_digit 70 = .ok (.putfield 118, 3) := by decide +kernel
theorem dX9_digit_73 : decode cX9_digit 73 = .ok (.iload_n 1, 1) := by decide +kernel
theorem dX9_digit_74 : decode cX9_digit 74 = .ok (.ireturn, 1) := by decide +kernel
theorem dX9_signed_0 : decode cX9_signed 0 = .ok (.aload_n 0, 1) := by decide +kernel
theorem dX9_signed_1 : decode cX9_signed 1 = .ok (.bipush 45, 2) := by decide +kernel
theorem dX9_signed_3 : decode cX9_signed 3 = .ok (.invokevirtual 133, 3) := by decide +kernel
theorem dX9_signed_6 : decode cX9_signed 6 = .ok (.istore_n 1, 1) := by decide +kernel
theorem dX9_signed_7 : decode cX9_signed 7 = .ok (.aload_n 0, 1) := by decide +kernel
theorem dX9_signed_8 : decode cX9_signed 8 = .ok (.aload_n 0, 1) := by decide +kernel
theorem dX9_signed_9 : decode cX9_signed 9 = .ok (.getfield 121, 3) := by decide +kernel
theorem dX9_signed_12 : decode cX9_signed 12 = .ok (.ifCond .ne 16, 3) := by decide +kernel
theorem dX9_signed_15 : decode cX9_signed 15 = .ok (.iload_n 1, 1) := by decide +kernel
theorem dX9_signed_16 : decode cX9_signed 16 = .ok (.ifCond .ne 16, 3) := by decide +kernel
theorem dX9_signed_19 : decode cX9_signed 19 = .ok (.aload_n 0, 1) := by decide +kernel
theorem dX9_signed_20 : decode cX9_signed 20 = .ok (.bipush 43, 2) := by decide +kernel
theorem dX9_signed_22 : decode cX9_signed 22 = .ok (.invokevirtual 133, 3) := by decide +kernel
theorem dX9_signed_25 : decode cX9_signed 25 = .ok (.ifCond .ne 7, 3) := by decide +kernel
theorem dX9_signed_28 : decode cX9_signed 28 = .ok (.iconst 1, 1) := by decide +kernel
theorem dX9_signed_29 : decode cX9_signed 29 = .ok (.goto 4, 3) := by decide +kernel
theorem dX9_signed_32 : decode cX9_signed 32 = .ok (.iconst 0, 1) := by decide +kernel
theorem dX9_signed_33 : decode cX9_signed 33 = .ok (.putfield 121, 3) := by decide +kernel
theorem dX9_signed_36 : decode cX9_signed 36 = .ok (.aload_n 0, 1) := by decide +kernel
theorem dX9_signed_37 : decode cX9_signed 37 = .ok (.invokevirtual 136, 3) := by decide +kernel
theorem dX9_signed_40 : decode cX9_signed 40 = .ok (.istore_n 2, 1) := by decide +kernel
theorem dX9_signed_41 : decode cX9_signed 41 = .ok (.iload_n 1, 1) := by decide +kernel
theorem dX9_signed_42 : decode cX9_signed 42 = .ok (.ifCond .eq 8, 3) := by decide +kernel
theorem dX9_signed_45 : decode cX9_signed 45 = .ok (.iload_n 2, 1) := by decide +kernel
theorem dX9_signed_46 : decode cX9_signed 46 = .ok (.ineg, 1) := by decide +kernel
theorem dX9_signed_47 : decode cX9_signed 47 = .ok (.goto 4, 3) := by decide +kernel
theorem dX9_signed_50 : decode cX9_signed 50 = .ok (.iload_n 2, 1) := by decide +kernel
theorem dX9_signed_51 : decode cX9_signed 51 = .ok (.ireturn, 1) := by decide +kernel
theorem dX9_cupClause_0 : decode cX9_cupClause 0 = .ok (.aload_n 0, 1) := by decide +kernel
theorem dX9_cupClause_1 : decode cX9_cupClause 1 = .ok (.getfield 25, 3) := by decide +kernel
theorem dX9_cupClause_4 : decode cX9_cupClause 4 = .ok (.iload_n 1, 1) := by decide +kernel
theorem dX9_cupClause_5 : decode cX9_cupClause 5 = .ok (.aload_n 0, 1) := by decide +kernel
theorem dX9_cupClause_6 : decode cX9_cupClause 6 = .ok (.invokevirtual 139, 3) := by decide +kernel
theorem dX9_cupClause_9 : decode cX9_cupClause 9 = .ok (.iastore, 1) := by decide +kernel
theorem dX9_cupClause_10 : decode cX9_cupClause 10 = .ok (.aload_n 0, 1) := by decide +kernel
theorem dX9_cupClause_11 : decode cX9_cupClause 11 = .ok (.getfield 25, 3) := by decide +kernel
theorem dX9_cupClause_14 : decode cX9_cupClause 14 = .ok (.iload_n 1, 1) := by decide +kernel
theorem dX9_cupClause_15 : decode cX9_cupClause 15 = .ok (.iconst 1, 1) := by decide +kernel
theorem dX9_cupClause_16 : decode cX9_cupClause 16 = .ok (.iadd, 1) := by decide +kernel
theorem dX9_cupClause_17 : decode cX9_cupClause 17 = .ok (.aload_n 0, 1) := by decide +kernel
theorem dX9_cupClause_18 : decode cX9_cupClause 18 = .ok (.invokevirtual 139, 3) := by decide +kernel
theorem dX9_cupClause_21 : decode cX9_cupClause 21 = .ok (.iastore, 1) := by decide +kernel
theorem dX9_cupClause_22 : decode cX9_cupClause 22 = .ok (.aload_n 0, 1) := by decide +kernel
theorem dX9_cupClause_23 : decode cX9_cupClause 23 = .ok (.getfield 25, 3) := by decide +kernel
theorem dX9_cupClause_26 : decode cX9_cupClause 26 = .ok (.iload_n 1, 1) := by decide +kernel
theorem dX9_cupClause_27 : decode cX9_cupClause 27 = .ok (.iconst 2, 1) := by decide +kernel
theorem dX9_cupClause_28 : decode cX9_cupClause 28 = .ok (.iadd, 1) := by decide +kernel
theorem dX9_cupClause_29 : decode cX9_cupClause 29 = .ok (.aload_n 0, 1) := by decide +kernel
theorem dX9_cupClause_30 : decode cX9_cupClause 30 = .ok (.invokevirtual 136, 3) := by decide +kernel
theorem dX9_cupClause_33 : decode cX9_cupClause 33 = .ok (.iastore, 1) := by decide +kernel
theorem dX9_cupClause_34 : decode cX9_cupClause 34 = .ok (.aload_n 0, 1) := by decide +kernel
theorem dX9_cupClause_35 : decode cX9_cupClause 35 = .ok (.getfield 25, 3) := by decide +kernel
theorem dX9_cupClause_38 : decode cX9_cupClause 38 = .ok (.iload_n 1, 1) := by decide +kernel
theorem dX9_cupClause_39 : decode cX9_cupClause 39 = .ok (.iconst 4, 1) := by decide +kernel
theorem dX9_cupClause_40 : decode cX9_cupClause 40 = .ok (.iadd, 1) := by decide +kernel
theorem dX9_cupClause_41 : decode cX9_cupClause 41 = .ok (.aload_n 0, 1) := by decide +kernel
theorem dX9_cupClause_42 : decode cX9_cupClause 42 = .ok (.bipush 115, 2) := by decide +kernel
theorem dX9_cupClause_44 : decode cX9_cupClause 44 = .ok (.invokevirtual 133, 3) := by decide +kernel
theorem dX9_cupClause_47 : decode cX9_cupClause 47 = .ok (.ifCond .eq 7, 3) := by decide +kernel
theorem dX9_cupClause_50 : decode cX9_cupClause 50 = .ok (.iconst 1, 1) := by decide +kernel
theorem dX9_cupClause_51 : decode cX9_cupClause 51 = .ok (.goto 4, 3) := by decide +kernel
theorem dX9_cupClause_54 : decode cX9_cupClause 54 = .ok (.iconst 0, 1) := by decide +kernel
theorem dX9_cupClause_55 : decode cX9_cupClause 55 = .ok (.iastore, 1) := by decide +kernel
theorem dX9_cupClause_56 : decode cX9_cupClause 56 = .ok (.aload_n 0, 1) := by decide +kernel
theorem dX9_cupClause_57 : decode cX9_cupClause 57 = .ok (.getfield 25, 3) := by decide +kernel
theorem dX9_cupClause_60 : decode cX9_cupClause 60 = .ok (.iload_n 1, 1) := by decide +kernel
theorem dX9_cupClause_61 : decode cX9_cupClause 61 = .ok (.iconst 3, 1) := by decide +kernel
theorem dX9_cupClause_62 : decode cX9_cupClause 62 = .ok (.iadd, 1) := by decide +kernel
theorem dX9_cupClause_63 : decode cX9_cupClause 63 = .ok (.aload_n 0, 1) := by decide +kernel
theorem dX9_cupClause_64 : decode cX9_cupClause 64 = .ok (.bipush 58, 2) := by decide +kernel
theorem dX9_cupClause_66 : decode cX9_cupClause 66 = .ok (.invokevirtual 133, 3) := by decide +kernel
theorem dX9_cupClause_69 : decode cX9_cupClause 69 = .ok (.ifCond .eq 13, 3) := by decide +kernel
theorem dX9_cupClause_72 : decode cX9_cupClause 72 = .ok (.aload_n 0, 1) := by decide +kernel
theorem dX9_cupClause_73 : decode cX9_cupClause 73 = .ok (.iconst 0, 1) := by decide +kernel
theorem dX9_cupClause_74 : decode cX9_cupClause 74 = .ok (.bipush 99, 2) := by decide +kernel
theorem dX9_cupClause_76 : decode cX9_cupClause 76 = .ok (.invokevirtual 142, 3) := by decide +kernel
theorem dX9_cupClause_79 : decode cX9_cupClause 79 = .ok (.goto 4, 3) := by decide +kernel
theorem dX9_cupClause_82 : decode cX9_cupClause 82 = .ok (.iconst 1, 1) := by decide +kernel
theorem dX9_cupClause_83 : decode cX9_cupClause 83 = .ok (.iastore, 1) := by decide +kernel
theorem dX9_cupClause_84 : decode cX9_cupClause 84 = .ok (.return_, 1) := by decide +kernel
theorem dX9_partClause_0 : decode cX9_partClause 0 = .ok (.aload_n 0, 1) := by decide +kernel
theorem dX9_partClause_1 : decode cX9_partClause 1 = .ok (.getfield 25, 3) := by decide +kernel
theorem dX9_partClause_4 : decode cX9_partClause 4 = .ok (.iload_n 1, 1) := by decide +kernel
theorem dX9_partClause_5 : decode cX9_partClause 5 = .ok (.aload_n 0, 1) := by decide +kernel
theorem dX9_partClause_6 : decode cX9_partClause 6 = .ok (.iconst 1, 1) := by decide +kernel
theorem dX9_partClause_7 : decode cX9_partClause 7 = .ok (.bipush 20, 2) := by decide +kernel
theorem dX9_partClause_9 : decode cX9_partClause 9 = .ok (.invokevirtual 142, 3) := by decide +kernel
theorem dX9_partClause_12 : decode cX9_partClause 12 = .ok (.iastore, 1) := by decide +kernel
theorem dX9_partClause_13 : decode cX9_partClause 13 = .ok (.aload_n 0, 1) := by decide +kernel
theorem dX9_partClause_14 : decode cX9_partClause 14 = .ok (.getfield 25, 3) := by decide +kernel
theorem dX9_partClause_17 : decode cX9_partClause 17 = .ok (.iload_n 1, 1) := by decide +kernel
theorem dX9_partClause_18 : decode cX9_partClause 18 = .ok (.iconst 1, 1) := by decide +kernel
theorem dX9_partClause_19 : decode cX9_partClause 19 = .ok (.iadd, 1) := by decide +kernel
theorem dX9_partClause_20 : decode cX9_partClause 20 = .ok (.aload_n 0, 1) := by decide +kernel
theorem dX9_partClause_21 : decode cX9_partClause 21 = .ok (.invokevirtual 139, 3) := by decide +kernel
theorem dX9_partClause_24 : decode cX9_partClause 24 = .ok (.iastore, 1) := by decide +kernel
theorem dX9_partClause_25 : decode cX9_partClause 25 = .ok (.aload_n 0, 1) := by decide +kernel
theorem dX9_partClause_26 : decode cX9_partClause 26 = .ok (.getfield 25, 3) := by decide +kernel
theorem dX9_partClause_29 : decode cX9_partClause 29 = .ok (.iload_n 1, 1) := by decide +kernel
theorem dX9_partClause_30 : decode cX9_partClause 30 = .ok (.iconst 2, 1) := by decide +kernel
theorem dX9_partClause_31 : decode cX9_partClause 31 = .ok (.iadd, 1) := by decide +kernel
theorem dX9_partClause_32 : decode cX9_partClause 32 = .ok (.aload_n 0, 1) := by decide +kernel
theorem dX9_partClause_33 : decode cX9_partClause 33 = .ok (.invokevirtual 139, 3) := by decide +kernel
theorem dX9_partClause_36 : decode cX9_partClause 36 = .ok (.iastore, 1) := by decide +kernel
theorem dX9_partClause_37 : decode cX9_partClause 37 = .ok (.return_, 1) := by decide +kernel
theorem dX9_readAll_0 : decode cX9_readAll 0 = .ok (.aload_n 0, 1) := by decide +kernel
theorem dX9_readAll_1 : decode cX9_readAll 1 = .ok (.iconst 0, 1) := by decide +kernel
theorem dX9_readAll_2 : decode cX9_readAll 2 = .ok (.putfield 118, 3) := by decide +kernel
theorem dX9_readAll_5 : decode cX9_readAll 5 = .ok (.aload_n 0, 1) := by decide +kernel
theorem dX9_readAll_6 : decode cX9_readAll 6 = .ok (.iconst 0, 1) := by decide +kernel
theorem dX9_readAll_7 : decode cX9_readAll 7 = .ok (.putfield 121, 3) := by decide +kernel
theorem dX9_readAll_10 : decode cX9_readAll 10 = .ok (.iconst 0, 1) := by decide +kernel
theorem dX9_readAll_11 : decode cX9_readAll 11 = .ok (.istore_n 2, 1) := by decide +kernel
theorem dX9_readAll_12 : decode cX9_readAll 12 = .ok (.iconst 1, 1) := by decide +kernel
theorem dX9_readAll_13 : decode cX9_readAll 13 = .ok (.istore_n 3, 1) := by decide +kernel
theorem dX9_readAll_14 : decode cX9_readAll 14 = .ok (.iload_n 3, 1) := by decide +kernel
theorem dX9_readAll_15 : decode cX9_readAll 15 = .ok (.ifCond .eq 59, 3) := by decide +kernel
theorem dX9_readAll_18 : decode cX9_readAll 18 = .ok (.iload_n 1, 1) := by decide +kernel
theorem dX9_readAll_19 : decode cX9_readAll 19 = .ok (.ifCond .eq 13, 3) := by decide +kernel
theorem dX9_readAll_22 : decode cX9_readAll 22 = .ok (.aload_n 0, 1) := by decide +kernel
theorem dX9_readAll_23 : decode cX9_readAll 23 = .ok (.iconst 5, 1) := by decide +kernel
theorem dX9_readAll_24 : decode cX9_readAll 24 = .ok (.iload_n 2, 1) := by decide +kernel
theorem dX9_readAll_25 : decode cX9_readAll 25 = .ok (.imul, 1) := by decide +kernel
theorem dX9_readAll_26 : decode cX9_readAll 26 = .ok (.invokevirtual 146, 3) := by decide +kernel
theorem dX9_readAll_29 : decode cX9_readAll 29 = .ok (.goto 10, 3) := by decide +kernel
theorem dX9_readAll_32 : decode cX9_readAll 32 = .ok (.aload_n 0, 1) := by decide +kernel
theorem dX9_readAll_33 : decode cX9_readAll 33 = .ok (.iconst 3, 1) := by decide +kernel
theorem dX9_readAll_34 : decode cX9_readAll 34 = .ok (.iload_n 2, 1) := by decide +kernel
theorem dX9_readAll_35 : decode cX9_readAll 35 = .ok (.imul, 1) := by decide +kernel
theorem dX9_readAll_36 : decode cX9_readAll 36 = .ok (.invokevirtual 150, 3) := by decide +kernel
theorem dX9_readAll_39 : decode cX9_readAll 39 = .ok (.iinc 2 1, 3) := by decide +kernel
theorem dX9_readAll_42 : decode cX9_readAll 42 = .ok (.iload_n 2, 1) := by decide +kernel
theorem dX9_readAll_43 : decode cX9_readAll 43 = .ok (.iload_n 1, 1) := by decide +kernel
theorem dX9_readAll_44 : decode cX9_readAll 44 = .ok (.ifCond .eq 7, 3) := by decide +kernel
theorem dX9_readAll_47 : decode cX9_readAll 47 = .ok (.iconst 4, 1) := by decide +kernel
theorem dX9_readAll_48 : decode cX9_readAll 48 = .ok (.goto 5, 3) := by decide +kernel
theorem dX9_readAll_51 : decode cX9_readAll 51 = .ok (.bipush 6, 2) := by decide +kernel
theorem dX9_readAll_53 : decode cX9_readAll 53 = .ok (.if_icmp .ge 16, 3) := by decide +kernel
theorem dX9_readAll_56 : decode cX9_readAll 56 = .ok (.aload_n 0, 1) := by decide +kernel
theorem dX9_readAll_57 : decode cX9_readAll 57 = .ok (.bipush 59, 2) := by decide +kernel
theorem dX9_readAll_59 : decode cX9_readAll 59 = .ok (.invokevirtual 133, 3) := by decide +kernel
theorem dX9_readAll_62 : decode cX9_readAll 62 = .ok (.ifCond .eq 7, 3) := by decide +kernel
theorem dX9_readAll_65 : decode cX9_readAll 65 = .ok (.iconst 1, 1) := by decide +kernel
theorem dX9_readAll_66 : decode cX9_readAll 66 = .ok (.goto 4, 3) := by decide +kernel
theorem dX9_readAll_69 : decode cX9_readAll 69 = .ok (.iconst 0, 1) := by decide +kernel
theorem dX9_readAll_70 : decode cX9_readAll 70 = .ok (.istore_n 3, 1) := by decide +kernel
theorem dX9_readAll_71 : decode cX9_readAll 71 = .ok (.goto (-57), 3) := by decide +kernel
theorem dX9_readAll_74 : decode cX9_readAll 74 = .ok (.aload_n 0, 1) := by decide +kernel
theorem dX9_readAll_75 : decode cX9_readAll 75 = .ok (.aload_n 0, 1) := by decide +kernel
theorem dX9_readAll_76 : decode cX9_readAll 76 = .ok (.getfield 121, 3) := by decide +kernel
theorem dX9_readAll_79 : decode cX9_readAll 79 = .ok (.ifCond .ne 10, 3) := by decide +kernel
theorem dX9_readAll_82 : decode cX9_readAll 82 = .ok (.aload_n 0, 1) := by decide +kernel
theorem dX9_readAll_83 : decode cX9_readAll 83 = .ok (.invokevirtual 125, 3) := by decide +kernel
theorem dX9_readAll_86 : decode cX9_readAll 86 = .ok (.ifCond .eq 7, 3) := by decide +kernel
theorem dX9_readAll_89 : decode cX9_readAll 89 = .ok (.iconst 1, 1) := by decide +kernel
theorem dX9_readAll_90 : decode cX9_readAll 90 = .ok (.goto 4, 3) := by decide +kernel
theorem dX9_readAll_93 : decode cX9_readAll 93 = .ok (.iconst 0, 1) := by decide +kernel
theorem dX9_readAll_94 : decode cX9_readAll 94 = .ok (.putfield 121, 3) := by decide +kernel
theorem dX9_readAll_97 : decode cX9_readAll 97 = .ok (.aload_n 0, 1) := by decide +kernel
theorem dX9_readAll_98 : decode cX9_readAll 98 = .ok (.iconst 0, 1) := by decide +kernel
theorem dX9_readAll_99 : decode cX9_readAll 99 = .ok (.putfield 115, 3) := by decide +kernel
theorem dX9_readAll_102 : decode cX9_readAll 102 = .ok (.aload_n 0, 1) := by decide +kernel
theorem dX9_readAll_103 : decode cX9_readAll 103 = .ok (.getfield 121, 3) := by decide +kernel
theorem dX9_readAll_106 : decode cX9_readAll 106 = .ok (.ifCond .eq 13, 3) := by decide +kernel
theorem dX9_readAll_109 : decode cX9_readAll 109 = .ok (.bipush (-20), 2) := by decide +kernel
theorem dX9_readAll_111 : decode cX9_readAll 111 = .ok (.aload_n 0, 1) := by decide +kernel
theorem dX9_readAll_112 : decode cX9_readAll 112 = .ok (.getfield 118, 3) := by decide +kernel
theorem dX9_readAll_115 : decode cX9_readAll 115 = .ok (.isub, 1) := by decide +kernel
theorem dX9_readAll_116 : decode cX9_readAll 116 = .ok (.goto 4, 3) := by decide +kernel
theorem dX9_readAll_119 : decode cX9_readAll 119 = .ok (.iload_n 2, 1) := by decide +kernel
theorem dX9_readAll_120 : decode cX9_readAll 120 = .ok (.ireturn, 1) := by decide +kernel
theorem dX9_toy_0 : decode cX9_toy 0 = .ok (.aload_n 0, 1) := by decide +kernel
theorem dX9_toy_1 : decode cX9_toy 1 = .ok (.iconst 1, 1) := by decide +kernel
theorem dX9_toy_2 : decode cX9_toy 2 = .ok (.invokevirtual 153, 3) := by decide +kernel
theorem dX9_toy_5 : decode cX9_toy 5 = .ok (.istore_n 1, 1) := by decide +kernel
theorem dX9_toy_6 : decode cX9_toy 6 = .ok (.aload_n 0, 1) := by decide +kernel
theorem dX9_toy_7 : decode cX9_toy 7 = .ok (.iload_n 1, 1) := by decide +kernel
theorem dX9_toy_8 : decode cX9_toy 8 = .ok (.ifCond .le 7, 3) := by decide +kernel
theorem dX9_toy_11 : decode cX9_toy 11 = .ok (.iload_n 1, 1) := by decide +kernel
theorem dX9_toy_12 : decode cX9_toy 12 = .ok (.goto 7, 3) := by decide +kernel
theorem dX9_toy_15 : decode cX9_toy 15 = .ok (.aload_n 0, 1) := by decide +kernel
theorem dX9_toy_16 : decode cX9_toy 16 = .ok (.getfield 68, 3) := by decide +kernel
theorem dX9_toy_19 : decode cX9_toy 19 = .ok (.putfield 68, 3) := by decide +kernel
theorem dX9_toy_22 : decode cX9_toy 22 = .ok (.iconst 0, 1) := by decide +kernel
theorem dX9_toy_23 : decode cX9_toy 23 = .ok (.istore_n 2, 1) := by decide +kernel
theorem dX9_toy_24 : decode cX9_toy 24 = .ok (.iload_n 2, 1) := by decide +kernel
theorem dX9_toy_25 : decode cX9_toy 25 = .ok (.iload_n 1, 1) := by decide +kernel
theorem dX9_toy_26 : decode cX9_toy 26 = .ok (.if_icmp .ge 62, 3) := by decide +kernel
theorem dX9_toy_29 : decode cX9_toy 29 = .ok (.aload_n 0, 1) := by decide +kernel
theorem dX9_toy_30 : decode cX9_toy 30 = .ok (.iload_n 2, 1) := by decide +kernel
theorem dX9_toy_31 : decode cX9_toy 31 = .ok (.aload_n 0, 1) := by decide +kernel
theorem dX9_toy_32 : decode cX9_toy 32 = .ok (.getfield 25, 3) := by decide +kernel
theorem dX9_toy_35 : decode cX9_toy 35 = .ok (.iconst 5, 1) := by decide +kernel
theorem dX9_toy_36 : decode cX9_toy 36 = .ok (.iload_n 2, 1) := by decide +kernel
theorem dX9_toy_37 : decode cX9_toy 37 = .ok (.imul, 1) := by decide +kernel
theorem dX9_toy_38 : decode cX9_toy 38 = .ok (.iaload, 1) := by decide +kernel
theorem dX9_toy_39 : decode cX9_toy 39 = .ok (.aload_n 0, 1) := by decide +kernel
theorem dX9_toy_40 : decode cX9_toy 40 = .ok (.getfield 25, 3) := by decide +kernel
theorem dX9_toy_43 : decode cX9_toy 43 = .ok (.iconst 5, 1) := by decide +kernel
theorem dX9_toy_44 : decode cX9_toy 44 = .ok (.iload_n 2, 1) := by decide +kernel
theorem dX9_toy_45 : decode cX9_toy 45 = .ok (.imul, 1) := by decide +kernel
theorem dX9_toy_46 : decode cX9_toy 46 = .ok (.iconst 1, 1) := by decide +kernel
theorem dX9_toy_47 : decode cX9_toy 47 = .ok (.iadd, 1) := by decide +kernel
theorem dX9_toy_48 : decode cX9_toy 48 = .ok (.iaload, 1) := by decide +kernel
theorem dX9_toy_49 : decode cX9_toy 49 = .ok (.aload_n 0, 1) := by decide +kernel
theorem dX9_toy_50 : decode cX9_toy 50 = .ok (.getfield 25, 3) := by decide +kernel
theorem dX9_toy_53 : decode cX9_toy 53 = .ok (.iconst 5, 1) := by decide +kernel
theorem dX9_toy_54 : decode cX9_toy 54 = .ok (.iload_n 2, 1) := by decide +kernel
theorem dX9_toy_55 : decode cX9_toy 55 = .ok (.imul, 1) := by decide +kernel
theorem dX9_toy_56 : decode cX9_toy 56 = .ok (.iconst 2, 1) := by decide +kernel
theorem dX9_toy_57 : decode cX9_toy 57 = .ok (.iadd, 1) := by decide +kernel
theorem dX9_toy_58 : decode cX9_toy 58 = .ok (.iaload, 1) := by decide +kernel
theorem dX9_toy_59 : decode cX9_toy 59 = .ok (.aload_n 0, 1) := by decide +kernel
theorem dX9_toy_60 : decode cX9_toy 60 = .ok (.getfield 25, 3) := by decide +kernel
theorem dX9_toy_63 : decode cX9_toy 63 = .ok (.iconst 5, 1) := by decide +kernel
theorem dX9_toy_64 : decode cX9_toy 64 = .ok (.iload_n 2, 1) := by decide +kernel
theorem dX9_toy_65 : decode cX9_toy 65 = .ok (.imul, 1) := by decide +kernel
theorem dX9_toy_66 : decode cX9_toy 66 = .ok (.iconst 3, 1) := by decide +kernel
theorem dX9_toy_67 : decode cX9_toy 67 = .ok (.iadd, 1) := by decide +kernel
theorem dX9_toy_68 : decode cX9_toy 68 = .ok (.iaload, 1) := by decide +kernel
theorem dX9_toy_69 : decode cX9_toy 69 = .ok (.aload_n 0, 1) := by decide +kernel
theorem dX9_toy_70 : decode cX9_toy 70 = .ok (.getfield 25, 3) := by decide +kernel
theorem dX9_toy_73 : decode cX9_toy 73 = .ok (.iconst 5, 1) := by decide +kernel
theorem dX9_toy_74 : decode cX9_toy 74 = .ok (.iload_n 2, 1) := by decide +kernel
theorem dX9_toy_75 : decode cX9_toy 75 = .ok (.imul, 1) := by decide +kernel
theorem dX9_toy_76 : decode cX9_toy 76 = .ok (.iconst 4, 1) := by decide +kernel
theorem dX9_toy_77 : decode cX9_toy 77 = .ok (.iadd, 1) := by decide +kernel
theorem dX9_toy_78 : decode cX9_toy 78 = .ok (.iaload, 1) := by decide +kernel
theorem dX9_toy_79 : decode cX9_toy 79 = .ok (.invokevirtual 91, 3) := by decide +kernel
theorem dX9_toy_82 : decode cX9_toy 82 = .ok (.iinc 2 1, 3) := by decide +kernel
theorem dX9_toy_85 : decode cX9_toy 85 = .ok (.goto (-61), 3) := by decide +kernel
theorem dX9_toy_88 : decode cX9_toy 88 = .ok (.iload_n 1, 1) := by decide +kernel
theorem dX9_toy_89 : decode cX9_toy 89 = .ok (.ireturn, 1) := by decide +kernel
theorem dX9_pulls_0 : decode cX9_pulls 0 = .ok (.aload_n 0, 1) := by decide +kernel
theorem dX9_pulls_1 : decode cX9_pulls 1 = .ok (.iconst 0, 1) := by decide +kernel
theorem dX9_pulls_2 : decode cX9_pulls 2 = .ok (.invokevirtual 153, 3) := by decide +kernel
theorem dX9_pulls_5 : decode cX9_pulls 5 = .ok (.istore_n 1, 1) := by decide +kernel
theorem dX9_pulls_6 : decode cX9_pulls 6 = .ok (.aload_n 0, 1) := by decide +kernel
theorem dX9_pulls_7 : decode cX9_pulls 7 = .ok (.iload_n 1, 1) := by decide +kernel
theorem dX9_pulls_8 : decode cX9_pulls 8 = .ok (.ifCond .le 7, 3) := by decide +kernel
theorem dX9_pulls_11 : decode cX9_pulls 11 = .ok (.iload_n 1, 1) := by decide +kernel
theorem dX9_pulls_12 : decode cX9_pulls 12 = .ok (.goto 7, 3) := by decide +kernel
theorem dX9_pulls_15 : decode cX9_pulls 15 = .ok (.aload_n 0, 1) := by decide +kernel
theorem dX9_pulls_16 : decode cX9_pulls 16 = .ok (.getfield 100, 3) := by decide +kernel
theorem dX9_pulls_19 : decode cX9_pulls 19 = .ok (.putfield 100, 3) := by decide +kernel
theorem dX9_pulls_22 : decode cX9_pulls 22 = .ok (.iconst 0, 1) := by decide +kernel
theorem dX9_pulls_23 : decode cX9_pulls 23 = .ok (.istore_n 2, 1) := by decide +kernel
theorem dX9_pulls_24 : decode cX9_pulls 24 = .ok (.iload_n 2, 1) := by decide +kernel
theorem dX9_pulls_25 : decode cX9_pulls 25 = .ok (.iload_n 1, 1) := by decide +kernel
theorem dX9_pulls_26 : decode cX9_pulls 26 = .ok (.if_icmp .ge 42, 3) := by decide +kernel
theorem dX9_pulls_29 : decode cX9_pulls 29 = .ok (.aload_n 0, 1) := by decide +kernel
theorem dX9_pulls_30 : decode cX9_pulls 30 = .ok (.iload_n 2, 1) := by decide +kernel
theorem dX9_pulls_31 : decode cX9_pulls 31 = .ok (.aload_n 0, 1) := by decide +kernel
theorem dX9_pulls_32 : decode cX9_pulls 32 = .ok (.getfield 25, 3) := by decide +kernel
theorem dX9_pulls_35 : decode cX9_pulls 35 = .ok (.iconst 3, 1) := by decide +kernel
theorem dX9_pulls_36 : decode cX9_pulls 36 = .ok (.iload_n 2, 1) := by decide +kernel
theorem dX9_pulls_37 : decode cX9_pulls 37 = .ok (.imul, 1) := by decide +kernel
theorem dX9_pulls_38 : decode cX9_pulls 38 = .ok (.iaload, 1) := by decide +kernel
theorem dX9_pulls_39 : decode cX9_pulls 39 = .ok (.aload_n 0, 1) := by decide +kernel
theorem dX9_pulls_40 : decode cX9_pulls 40 = .ok (.getfield 25, 3) := by decide +kernel
theorem dX9_pulls_43 : decode cX9_pulls 43 = .ok (.iconst 3, 1) := by decide +kernel
end
section
theorem dX9_pulls_44 : decode cX9_pulls 44 = .ok (.iload_n 2, 1) := by decide +kernel
theorem dX9_pulls_45 : decode cX9_pulls 45 = .ok (.imul, 1) := by decide +kernel
theorem dX9_pulls_46 : decode cX9_pulls 46 = .ok (.iconst 1, 1) := by decide +kernel
theorem dX9_pulls_47 : decode cX9_pulls 47 = .ok (.iadd, 1) := by decide +kernel
theorem dX9_pulls_48 : decode cX9_pulls 48 = .ok (.iaload, 1) := by decide +kernel
theorem dX9_pulls_49 : decode cX9_pulls 49 = .ok (.aload_n 0, 1) := by decide +kernel
theorem dX9_pulls_50 : decode cX9_pulls 50 = .ok (.getfield 25, 3) := by decide +kernel
theorem dX9_pulls_53 : decode cX9_pulls 53 = .ok (.iconst 3, 1) := by decide +kernel
theorem dX9_pulls_54 : decode cX9_pulls 54 = .ok (.iload_n 2, 1) := by decide +kernel
theorem dX9_pulls_55 : decode cX9_pulls 55 = .ok (.imul, 1) := by decide +kernel
theorem dX9_pulls_56 : decode cX9_pulls 56 = .ok (.iconst 2, 1) := by decide +kernel
theorem dX9_pulls_57 : decode cX9_pulls 57 = .ok (.iadd, 1) := by decide +kernel
theorem dX9_pulls_58 : decode cX9_pulls 58 = .ok (.iaload, 1) := by decide +kernel
theorem dX9_pulls_59 : decode cX9_pulls 59 = .ok (.invokevirtual 103, 3) := by decide +kernel
theorem dX9_pulls_62 : decode cX9_pulls 62 = .ok (.iinc 2 1, 3) := by decide +kernel
theorem dX9_pulls_65 : decode cX9_pulls 65 = .ok (.goto (-41), 3) := by decide +kernel
theorem dX9_pulls_68 : decode cX9_pulls 68 = .ok (.iload_n 1, 1) := by decide +kernel
theorem dX9_pulls_69 : decode cX9_pulls 69 = .ok (.ireturn, 1) := by decide +kernel
theorem dX9_count_0 : decode cX9_count 0 = .ok (.iconst 0, 1) := by decide +kernel
theorem dX9_count_1 : decode cX9_count 1 = .ok (.istore_n 2, 1) := by decide +kernel
theorem dX9_count_2 : decode cX9_count 2 = .ok (.iconst 0, 1) := by decide +kernel
theorem dX9_count_3 : decode cX9_count 3 = .ok (.istore_n 3, 1) := by decide +kernel
theorem dX9_count_4 : decode cX9_count 4 = .ok (.iload_n 3, 1) := by decide +kernel
theorem dX9_count_5 : decode cX9_count 5 = .ok (.aload_n 0, 1) := by decide +kernel
theorem dX9_count_6 : decode cX9_count 6 = .ok (.getfield 100, 3) := by decide +kernel
theorem dX9_count_9 : decode cX9_count 9 = .ok (.if_icmp .ge 20, 3) := by decide +kernel
theorem dX9_count_12 : decode cX9_count 12 = .ok (.iload_n 2, 1) := by decide +kernel
theorem dX9_count_13 : decode cX9_count 13 = .ok (.aload_n 0, 1) := by decide +kernel
theorem dX9_count_14 : decode cX9_count 14 = .ok (.getfield 16, 3) := by decide +kernel
theorem dX9_count_17 : decode cX9_count 17 = .ok (.iconst 3, 1) := by decide +kernel
theorem dX9_count_18 : decode cX9_count 18 = .ok (.iload_n 3, 1) := by decide +kernel
theorem dX9_count_19 : decode cX9_count 19 = .ok (.imul, 1) := by decide +kernel
theorem dX9_count_20 : decode cX9_count 20 = .ok (.iaload, 1) := by decide +kernel
theorem dX9_count_21 : decode cX9_count 21 = .ok (.iadd, 1) := by decide +kernel
theorem dX9_count_22 : decode cX9_count 22 = .ok (.istore_n 2, 1) := by decide +kernel
theorem dX9_count_23 : decode cX9_count 23 = .ok (.iinc 3 1, 3) := by decide +kernel
theorem dX9_count_26 : decode cX9_count 26 = .ok (.goto (-22), 3) := by decide +kernel
theorem dX9_count_29 : decode cX9_count 29 = .ok (.iload_n 1, 1) := by decide +kernel
theorem dX9_count_30 : decode cX9_count 30 = .ok (.ifCond .ne 10, 3) := by decide +kernel
theorem dX9_count_33 : decode cX9_count 33 = .ok (.aload_n 0, 1) := by decide +kernel
theorem dX9_count_34 : decode cX9_count 34 = .ok (.getfield 68, 3) := by decide +kernel
theorem dX9_count_37 : decode cX9_count 37 = .ok (.goto 37, 3) := by decide +kernel
theorem dX9_count_40 : decode cX9_count 40 = .ok (.iload_n 1, 1) := by decide +kernel
theorem dX9_count_41 : decode cX9_count 41 = .ok (.iconst 1, 1) := by decide +kernel
theorem dX9_count_42 : decode cX9_count 42 = .ok (.if_icmp .ne 10, 3) := by decide +kernel
theorem dX9_count_45 : decode cX9_count 45 = .ok (.aload_n 0, 1) := by decide +kernel
theorem dX9_count_46 : decode cX9_count 46 = .ok (.getfield 100, 3) := by decide +kernel
theorem dX9_count_49 : decode cX9_count 49 = .ok (.goto 25, 3) := by decide +kernel
theorem dX9_count_52 : decode cX9_count 52 = .ok (.iload_n 1, 1) := by decide +kernel
theorem dX9_count_53 : decode cX9_count 53 = .ok (.iconst 2, 1) := by decide +kernel
theorem dX9_count_54 : decode cX9_count 54 = .ok (.if_icmp .ne 7, 3) := by decide +kernel
theorem dX9_count_57 : decode cX9_count 57 = .ok (.iload_n 2, 1) := by decide +kernel
theorem dX9_count_58 : decode cX9_count 58 = .ok (.goto 16, 3) := by decide +kernel
theorem dX9_count_61 : decode cX9_count 61 = .ok (.iload_n 1, 1) := by decide +kernel
theorem dX9_count_62 : decode cX9_count 62 = .ok (.iconst 3, 1) := by decide +kernel
theorem dX9_count_63 : decode cX9_count 63 = .ok (.if_icmp .ne 10, 3) := by decide +kernel
theorem dX9_count_66 : decode cX9_count 66 = .ok (.aload_n 0, 1) := by decide +kernel
theorem dX9_count_67 : decode cX9_count 67 = .ok (.getfield 157, 3) := by decide +kernel
theorem dX9_count_70 : decode cX9_count 70 = .ok (.goto 4, 3) := by decide +kernel
theorem dX9_count_73 : decode cX9_count 73 = .ok (.iconst (-1), 1) := by decide +kernel
theorem dX9_count_74 : decode cX9_count 74 = .ok (.ireturn, 1) := by decide +kernel
theorem dX9_lays_0 : decode cX9_lays 0 = .ok (.iconst 0, 1) := by decide +kernel
theorem dX9_lays_1 : decode cX9_lays 1 = .ok (.istore_n 1, 1) := by decide +kernel
theorem dX9_lays_2 : decode cX9_lays 2 = .ok (.iconst 0, 1) := by decide +kernel
theorem dX9_lays_3 : decode cX9_lays 3 = .ok (.istore_n 2, 1) := by decide +kernel
theorem dX9_lays_4 : decode cX9_lays 4 = .ok (.iload_n 2, 1) := by decide +kernel
theorem dX9_lays_5 : decode cX9_lays 5 = .ok (.aload_n 0, 1) := by decide +kernel
theorem dX9_lays_6 : decode cX9_lays 6 = .ok (.getfield 100, 3) := by decide +kernel
theorem dX9_lays_9 : decode cX9_lays 9 = .ok (.if_icmp .ge 70, 3) := by decide +kernel
theorem dX9_lays_12 : decode cX9_lays 12 = .ok (.iconst 0, 1) := by decide +kernel
theorem dX9_lays_13 : decode cX9_lays 13 = .ok (.istore_n 3, 1) := by decide +kernel
theorem dX9_lays_14 : decode cX9_lays 14 = .ok (.iload_n 3, 1) := by decide +kernel
theorem dX9_lays_15 : decode cX9_lays 15 = .ok (.aload_n 0, 1) := by decide +kernel
theorem dX9_lays_16 : decode cX9_lays 16 = .ok (.getfield 16, 3) := by decide +kernel
theorem dX9_lays_19 : decode cX9_lays 19 = .ok (.iconst 3, 1) := by decide +kernel
theorem dX9_lays_20 : decode cX9_lays 20 = .ok (.iload_n 2, 1) := by decide +kernel
theorem dX9_lays_21 : decode cX9_lays 21 = .ok (.imul, 1) := by decide +kernel
theorem dX9_lays_22 : decode cX9_lays 22 = .ok (.iaload, 1) := by decide +kernel
theorem dX9_lays_23 : decode cX9_lays 23 = .ok (.if_icmp .ge 50, 3) := by decide +kernel
theorem dX9_lays_26 : decode cX9_lays 26 = .ok (.iload_n 1, 1) := by decide +kernel
theorem dX9_lays_27 : decode cX9_lays 27 = .ok (.bipush 100, 2) := by decide +kernel
theorem dX9_lays_29 : decode cX9_lays 29 = .ok (.if_icmp .ge 44, 3) := by decide +kernel
theorem dX9_lays_32 : decode cX9_lays 32 = .ok (.aload_n 0, 1) := by decide +kernel
theorem dX9_lays_33 : decode cX9_lays 33 = .ok (.getfield 31, 3) := by decide +kernel
theorem dX9_lays_36 : decode cX9_lays 36 = .ok (.iload_n 1, 1) := by decide +kernel
theorem dX9_lays_37 : decode cX9_lays 37 = .ok (.aload_n 0, 1) := by decide +kernel
theorem dX9_lays_38 : decode cX9_lays 38 = .ok (.getfield 16, 3) := by decide +kernel
theorem dX9_lays_41 : decode cX9_lays 41 = .ok (.iconst 3, 1) := by decide +kernel
theorem dX9_lays_42 : decode cX9_lays 42 = .ok (.iload_n 2, 1) := by decide +kernel
theorem dX9_lays_43 : decode cX9_lays 43 = .ok (.imul, 1) := by decide +kernel
theorem dX9_lays_44 : decode cX9_lays 44 = .ok (.iconst 1, 1) := by decide +kernel
theorem dX9_lays_45 : decode cX9_lays 45 = .ok (.iadd, 1) := by decide +kernel
theorem dX9_lays_46 : decode cX9_lays 46 = .ok (.iaload, 1) := by decide +kernel
theorem dX9_lays_47 : decode cX9_lays 47 = .ok (.iastore, 1) := by decide +kernel
theorem dX9_lays_48 : decode cX9_lays 48 = .ok (.aload_n 0, 1) := by decide +kernel
theorem dX9_lays_49 : decode cX9_lays 49 = .ok (.getfield 34, 3) := by decide +kernel
theorem dX9_lays_52 : decode cX9_lays 52 = .ok (.iload_n 1, 1) := by decide +kernel
theorem dX9_lays_53 : decode cX9_lays 53 = .ok (.aload_n 0, 1) := by decide +kernel
theorem dX9_lays_54 : decode cX9_lays 54 = .ok (.getfield 16, 3) := by decide +kernel
theorem dX9_lays_57 : decode cX9_lays 57 = .ok (.iconst 3, 1) := by decide +kernel
theorem dX9_lays_58 : decode cX9_lays 58 = .ok (.iload_n 2, 1) := by decide +kernel
theorem dX9_lays_59 : decode cX9_lays 59 = .ok (.imul, 1) := by decide +kernel
theorem dX9_lays_60 : decode cX9_lays 60 = .ok (.iconst 2, 1) := by decide +kernel
theorem dX9_lays_61 : decode cX9_lays 61 = .ok (.iadd, 1) := by decide +kernel
theorem dX9_lays_62 : decode cX9_lays 62 = .ok (.iaload, 1) := by decide +kernel
theorem dX9_lays_63 : decode cX9_lays 63 = .ok (.iastore, 1) := by decide +kernel
theorem dX9_lays_64 : decode cX9_lays 64 = .ok (.iinc 1 1, 3) := by decide +kernel
theorem dX9_lays_67 : decode cX9_lays 67 = .ok (.iinc 3 1, 3) := by decide +kernel
theorem dX9_lays_70 : decode cX9_lays 70 = .ok (.goto (-56), 3) := by decide +kernel
theorem dX9_lays_73 : decode cX9_lays 73 = .ok (.iinc 2 1, 3) := by decide +kernel
theorem dX9_lays_76 : decode cX9_lays 76 = .ok (.goto (-72), 3) := by decide +kernel
theorem dX9_lays_79 : decode cX9_lays 79 = .ok (.iload_n 1, 1) := by decide +kernel
theorem dX9_lays_80 : decode cX9_lays 80 = .ok (.bipush 100, 2) := by decide +kernel
theorem dX9_lays_82 : decode cX9_lays 82 = .ok (.if_icmp .ge 23, 3) := by decide +kernel
theorem dX9_lays_85 : decode cX9_lays 85 = .ok (.aload_n 0, 1) := by decide +kernel
theorem dX9_lays_86 : decode cX9_lays 86 = .ok (.getfield 31, 3) := by decide +kernel
theorem dX9_lays_89 : decode cX9_lays 89 = .ok (.iload_n 1, 1) := by decide +kernel
theorem dX9_lays_90 : decode cX9_lays 90 = .ok (.iconst 0, 1) := by decide +kernel
theorem dX9_lays_91 : decode cX9_lays 91 = .ok (.iastore, 1) := by decide +kernel
theorem dX9_lays_92 : decode cX9_lays 92 = .ok (.aload_n 0, 1) := by decide +kernel
theorem dX9_lays_93 : decode cX9_lays 93 = .ok (.getfield 34, 3) := by decide +kernel
theorem dX9_lays_96 : decode cX9_lays 96 = .ok (.iload_n 1, 1) := by decide +kernel
theorem dX9_lays_97 : decode cX9_lays 97 = .ok (.iconst 0, 1) := by decide +kernel
theorem dX9_lays_98 : decode cX9_lays 98 = .ok (.iastore, 1) := by decide +kernel
theorem dX9_lays_99 : decode cX9_lays 99 = .ok (.iinc 1 1, 3) := by decide +kernel
theorem dX9_lays_102 : decode cX9_lays 102 = .ok (.goto (-23), 3) := by decide +kernel
theorem dX9_lays_105 : decode cX9_lays 105 = .ok (.return_, 1) := by decide +kernel
theorem dX9_root_0 : decode cX9_root 0 = .ok (.iconst 0, 1) := by decide +kernel
theorem dX9_root_1 : decode cX9_root 1 = .ok (.istore_n 1, 1) := by decide +kernel
theorem dX9_root_2 : decode cX9_root 2 = .ok (.iload_n 1, 1) := by decide +kernel
theorem dX9_root_3 : decode cX9_root 3 = .ok (.iconst 1, 1) := by decide +kernel
theorem dX9_root_4 : decode cX9_root 4 = .ok (.iadd, 1) := by decide +kernel
theorem dX9_root_5 : decode cX9_root 5 = .ok (.iload_n 1, 1) := by decide +kernel
theorem dX9_root_6 : decode cX9_root 6 = .ok (.iconst 1, 1) := by decide +kernel
theorem dX9_root_7 : decode cX9_root 7 = .ok (.iadd, 1) := by decide +kernel
theorem dX9_root_8 : decode cX9_root 8 = .ok (.imul, 1) := by decide +kernel
theorem dX9_root_9 : decode cX9_root 9 = .ok (.iload_n 0, 1) := by decide +kernel
theorem dX9_root_10 : decode cX9_root 10 = .ok (.if_icmp .gt 9, 3) := by decide +kernel
theorem dX9_root_13 : decode cX9_root 13 = .ok (.iinc 1 1, 3) := by decide +kernel
theorem dX9_root_16 : decode cX9_root 16 = .ok (.goto (-14), 3) := by decide +kernel
theorem dX9_root_19 : decode cX9_root 19 = .ok (.iload_n 1, 1) := by decide +kernel
theorem dX9_root_20 : decode cX9_root 20 = .ok (.ireturn, 1) := by decide +kernel
theorem dX9_size_0 : decode cX9_size 0 = .ok (.iload_n 0, 1) := by decide +kernel
theorem dX9_size_1 : decode cX9_size 1 = .ok (.ifCond .ge 8, 3) := by decide +kernel
theorem dX9_size_4 : decode cX9_size 4 = .ok (.iload_n 0, 1) := by decide +kernel
theorem dX9_size_5 : decode cX9_size 5 = .ok (.ineg, 1) := by decide +kernel
theorem dX9_size_6 : decode cX9_size 6 = .ok (.goto 4, 3) := by decide +kernel
theorem dX9_size_9 : decode cX9_size 9 = .ok (.iload_n 0, 1) := by decide +kernel
theorem dX9_size_10 : decode cX9_size 10 = .ok (.ireturn, 1) := by decide +kernel
theorem dX9_swings_0 : decode cX9_swings 0 = .ok (.aload_n 0, 1) := by decide +kernel
theorem dX9_swings_1 : decode cX9_swings 1 = .ok (.getfield 160, 3) := by decide +kernel
theorem dX9_swings_4 : decode cX9_swings 4 = .ok (.aload_n 0, 1) := by decide +kernel
theorem dX9_swings_5 : decode cX9_swings 5 = .ok (.getfield 163, 3) := by decide +kernel
theorem dX9_swings_8 : decode cX9_swings 8 = .ok (.isub, 1) := by decide +kernel
theorem dX9_swings_9 : decode cX9_swings 9 = .ok (.istore_n 2, 1) := by decide +kernel
theorem dX9_swings_10 : decode cX9_swings 10 = .ok (.aload_n 0, 1) := by decide +kernel
theorem dX9_swings_11 : decode cX9_swings 11 = .ok (.getfield 166, 3) := by decide +kernel
theorem dX9_swings_14 : decode cX9_swings 14 = .ok (.aload_n 0, 1) := by decide +kernel
theorem dX9_swings_15 : decode cX9_swings 15 = .ok (.getfield 169, 3) := by decide +kernel
theorem dX9_swings_18 : decode cX9_swings 18 = .ok (.isub, 1) := by decide +kernel
theorem dX9_swings_19 : decode cX9_swings 19 = .ok (.istore_n 3, 1) := by decide +kernel
theorem dX9_swings_20 : decode cX9_swings 20 = .ok (.aload_n 0, 1) := by decide +kernel
theorem dX9_swings_21 : decode cX9_swings 21 = .ok (.iload_n 2, 1) := by decide +kernel
theorem dX9_swings_22 : decode cX9_swings 22 = .ok (.iload_n 2, 1) := by decide +kernel
theorem dX9_swings_23 : decode cX9_swings 23 = .ok (.imul, 1) := by decide +kernel
theorem dX9_swings_24 : decode cX9_swings 24 = .ok (.iload_n 3, 1) := by decide +kernel
theorem dX9_swings_25 : decode cX9_swings 25 = .ok (.iload_n 3, 1) := by decide +kernel
theorem dX9_swings_26 : decode cX9_swings 26 = .ok (.imul, 1) := by decide +kernel
theorem dX9_swings_27 : decode cX9_swings 27 = .ok (.iadd, 1) := by decide +kernel
theorem dX9_swings_28 : decode cX9_swings 28 = .ok (.aload_n 0, 1) := by decide +kernel
theorem dX9_swings_29 : decode cX9_swings 29 = .ok (.getfield 7, 3) := by decide +kernel
theorem dX9_swings_32 : decode cX9_swings 32 = .ok (.iconst 0, 1) := by decide +kernel
theorem dX9_swings_33 : decode cX9_swings 33 = .ok (.iaload, 1) := by decide +kernel
theorem dX9_swings_34 : decode cX9_swings 34 = .ok (.aload_n 0, 1) := by decide +kernel
theorem dX9_swings_35 : decode cX9_swings 35 = .ok (.getfield 7, 3) := by decide +kernel
theorem dX9_swings_38 : decode cX9_swings 38 = .ok (.iconst 0, 1) := by decide +kernel
theorem dX9_swings_39 : decode cX9_swings 39 = .ok (.iaload, 1) := by decide +kernel
theorem dX9_swings_40 : decode cX9_swings 40 = .ok (.imul, 1) := by decide +kernel
theorem dX9_swings_41 : decode cX9_swings 41 = .ok (.if_icmp .le 7, 3) := by decide +kernel
theorem dX9_swings_44 : decode cX9_swings 44 = .ok (.iconst 1, 1) := by decide +kernel
theorem dX9_swings_45 : decode cX9_swings 45 = .ok (.goto 4, 3) := by decide +kernel
theorem dX9_swings_48 : decode cX9_swings 48 = .ok (.iconst 0, 1) := by decide +kernel
theorem dX9_swings_49 : decode cX9_swings 49 = .ok (.putfield 172, 3) := by decide +kernel
theorem dX9_swings_52 : decode cX9_swings 52 = .ok (.aload_n 0, 1) := by decide +kernel
theorem dX9_swings_53 : decode cX9_swings 53 = .ok (.getfield 172, 3) := by decide +kernel
theorem dX9_swings_56 : decode cX9_swings 56 = .ok (.iconst 1, 1) := by decide +kernel
theorem dX9_swings_57 : decode cX9_swings 57 = .ok (.if_icmp .ne 119, 3) := by decide +kernel
theorem dX9_swings_60 : decode cX9_swings 60 = .ok (.iload_n 2, 1) := by decide +kernel
theorem dX9_swings_61 : decode cX9_swings 61 = .ok (.iload_n 2, 1) := by decide +kernel
theorem dX9_swings_62 : decode cX9_swings 62 = .ok (.imul, 1) := by decide +kernel
theorem dX9_swings_63 : decode cX9_swings 63 = .ok (.iload_n 3, 1) := by decide +kernel
theorem dX9_swings_64 : decode cX9_swings 64 = .ok (.iload_n 3, 1) := by decide +kernel
theorem dX9_swings_65 : decode cX9_swings 65 = .ok (.imul, 1) := by decide +kernel
theorem dX9_swings_66 : decode cX9_swings 66 = .ok (.iadd, 1) := by decide +kernel
theorem dX9_swings_67 : decode cX9_swings 67 = .ok (.invokestatic 175, 3) := by decide +kernel
theorem dX9_swings_70 : decode cX9_swings 70 = .ok (.istore 4, 2) := by decide +kernel
theorem dX9_swings_72 : decode cX9_swings 72 = .ok (.iload_n 2, 1) := by decide +kernel
theorem dX9_swings_73 : decode cX9_swings 73 = .ok (.aload_n 0, 1) := by decide +kernel
theorem dX9_swings_74 : decode cX9_swings 74 = .ok (.getfield 7, 3) := by decide +kernel
theorem dX9_swings_77 : decode cX9_swings 77 = .ok (.iconst 0, 1) := by decide +kernel
theorem dX9_swings_78 : decode cX9_swings 78 = .ok (.iaload, 1) := by decide +kernel
theorem dX9_swings_79 : decode cX9_swings 79 = .ok (.imul, 1) := by decide +kernel
theorem dX9_swings_80 : decode cX9_swings 80 = .ok (.iload 4, 2) := by decide +kernel
theorem dX9_swings_82 : decode cX9_swings 82 = .ok (.idiv, 1) := by decide +kernel
theorem dX9_swings_83 : decode cX9_swings 83 = .ok (.istore 5, 2) := by decide +kernel
theorem dX9_swings_85 : decode cX9_swings 85 = .ok (.iload_n 3, 1) := by decide +kernel
theorem dX9_swings_86 : decode cX9_swings 86 = .ok (.aload_n 0, 1) := by decide +kernel
theorem dX9_swings_87 : decode cX9_swings 87 = .ok (.getfield 7, 3) := by decide +kernel
theorem dX9_swings_90 : decode cX9_swings 90 = .ok (.iconst 0, 1) := by decide +kernel
theorem dX9_swings_91 : decode cX9_swings 91 = .ok (.iaload, 1) := by decide +kernel
theorem dX9_swings_92 : decode cX9_swings 92 = .ok (.imul, 1) := by decide +kernel
theorem dX9_swings_93 : decode cX9_swings 93 = .ok (.iload 4, 2) := by decide +kernel
theorem dX9_swings_95 : decode cX9_swings 95 = .ok (.idiv, 1) := by decide +kernel
theorem dX9_swings_96 : decode cX9_swings 96 = .ok (.istore 6, 2) := by decide +kernel
theorem dX9_swings_98 : decode cX9_swings 98 = .ok (.aload_n 0, 1) := by decide +kernel
theorem dX9_swings_99 : decode cX9_swings 99 = .ok (.aload_n 0, 1) := by decide +kernel
theorem dX9_swings_100 : decode cX9_swings 100 = .ok (.getfield 163, 3) := by decide +kernel
theorem dX9_swings_103 : decode cX9_swings 103 = .ok (.iload 5, 2) := by decide +kernel
theorem dX9_swings_105 : decode cX9_swings 105 = .ok (.iadd, 1) := by decide +kernel
theorem dX9_swings_106 : decode cX9_swings 106 = .ok (.putfield 160, 3) := by decide +kernel
theorem dX9_swings_109 : decode cX9_swings 109 = .ok (.aload_n 0, 1) := by decide +kernel
theorem dX9_swings_110 : decode cX9_swings 110 = .ok (.aload_n 0, 1) := by decide +kernel
theorem dX9_swings_111 : decode cX9_swings 111 = .ok (.getfield 169, 3) := by decide +kernel
theorem dX9_swings_114 : decode cX9_swings 114 = .ok (.iload 6, 2) := by decide +kernel
theorem dX9_swings_116 : decode cX9_swings 116 = .ok (.iadd, 1) := by decide +kernel
theorem dX9_swings_117 : decode cX9_swings 117 = .ok (.putfield 166, 3) := by decide +kernel
theorem dX9_swings_120 : decode cX9_swings 120 = .ok (.aload_n 0, 1) := by decide +kernel
theorem dX9_swings_121 : decode cX9_swings 121 = .ok (.dup, 1) := by decide +kernel
theorem dX9_swings_122 : decode cX9_swings 122 = .ok (.getfield 179, 3) := by decide +kernel
theorem dX9_swings_125 : decode cX9_swings 125 = .ok (.iload 5, 2) := by decide +kernel
theorem dX9_swings_127 : decode cX9_swings 127 = .ok (.iload_n 2, 1) := by decide +kernel
theorem dX9_swings_128 : decode cX9_swings 128 = .ok (.isub, 1) := by decide +kernel
theorem dX9_swings_129 : decode cX9_swings 129 = .ok (.iadd, 1) := by decide +kernel
theorem dX9_swings_130 : decode cX9_swings 130 = .ok (.putfield 179, 3) := by decide +kernel
theorem dX9_swings_133 : decode cX9_swings 133 = .ok (.aload_n 0, 1) := by decide +kernel
theorem dX9_swings_134 : decode cX9_swings 134 = .ok (.dup, 1) := by decide +kernel
theorem dX9_swings_135 : decode cX9_swings 135 = .ok (.getfield 182, 3) := by decide +kernel
theorem dX9_swings_138 : decode cX9_swings 138 = .ok (.iload 6, 2) := by decide +kernel
theorem dX9_swings_140 : decode cX9_swings 140 = .ok (.iload_n 3, 1) := by decide +kernel
theorem dX9_swings_141 : decode cX9_swings 141 = .ok (.isub, 1) := by decide +kernel
theorem dX9_swings_142 : decode cX9_swings 142 = .ok (.iadd, 1) := by decide +kernel
theorem dX9_swings_143 : decode cX9_swings 143 = .ok (.putfield 182, 3) := by decide +kernel
theorem dX9_swings_146 : decode cX9_swings 146 = .ok (.aload_n 0, 1) := by decide +kernel
theorem dX9_swings_147 : decode cX9_swings 147 = .ok (.iconst 0, 1) := by decide +kernel
theorem dX9_swings_148 : decode cX9_swings 148 = .ok (.putfield 185, 3) := by decide +kernel
theorem dX9_swings_151 : decode cX9_swings 151 = .ok (.aload_n 0, 1) := by decide +kernel
theorem dX9_swings_152 : decode cX9_swings 152 = .ok (.aload_n 0, 1) := by decide +kernel
theorem dX9_swings_153 : decode cX9_swings 153 = .ok (.getfield 179, 3) := by decide +kernel
theorem dX9_swings_156 : decode cX9_swings 156 = .ok (.iload_n 1, 1) := by decide +kernel
theorem dX9_swings_157 : decode cX9_swings 157 = .ok (.isub, 1) := by decide +kernel
theorem dX9_swings_158 : decode cX9_swings 158 = .ok (.iconst 3, 1) := by decide +kernel
theorem dX9_swings_159 : decode cX9_swings 159 = .ok (.idiv, 1) := by decide +kernel
theorem dX9_swings_160 : decode cX9_swings 160 = .ok (.putfield 188, 3) := by decide +kernel
theorem dX9_swings_163 : decode cX9_swings 163 = .ok (.aload_n 0, 1) := by decide +kernel
theorem dX9_swings_164 : decode cX9_swings 164 = .ok (.dup, 1) := by decide +kernel
theorem dX9_swings_165 : decode cX9_swings 165 = .ok (.getfield 191, 3) := by decide +kernel
theorem dX9_swings_168 : decode cX9_swings 168 = .ok (.iconst 1, 1) := by decide +kernel
theorem dX9_swings_169 : decode cX9_swings 169 = .ok (.iadd, 1) := by decide +kernel
theorem dX9_swings_170 : decode cX9_swings 170 = .ok (.putfield 191, 3) := by decide +kernel
theorem dX9_swings_173 : decode cX9_swings 173 = .ok (.goto 19, 3) := by decide +kernel
theorem dX9_swings_176 : decode cX9_swings 176 = .ok (.aload_n 0, 1) := by decide +kernel
theorem dX9_swings_177 : decode cX9_swings 177 = .ok (.aload_n 0, 1) := by decide +kernel
theorem dX9_swings_178 : decode cX9_swings 178 = .ok (.getfield 185, 3) := by decide +kernel
theorem dX9_swings_181 : decode cX9_swings 181 = .ok (.aload_n 0, 1) := by decide +kernel
theorem dX9_swings_182 : decode cX9_swings 182 = .ok (.getfield 188, 3) := by decide +kernel
theorem dX9_swings_185 : decode cX9_swings 185 = .ok (.iadd, 1) := by decide +kernel
theorem dX9_swings_186 : decode cX9_swings 186 = .ok (.bipush 15, 2) := by decide +kernel
theorem dX9_swings_188 : decode cX9_swings 188 = .ok (.iand, 1) := by decide +kernel
theorem dX9_swings_189 : decode cX9_swings 189 = .ok (.putfield 185, 3) := by decide +kernel
theorem dX9_swings_192 : decode cX9_swings 192 = .ok (.return_, 1) := by decide +kernel
theorem dX9_meets_0 : decode cX9_meets 0 = .ok (.aload_n 0, 1) := by decide +kernel
theorem dX9_meets_1 : decode cX9_meets 1 = .ok (.getfield 160, 3) := by decide +kernel
theorem dX9_meets_4 : decode cX9_meets 4 = .ok (.aload_n 0, 1) := by decide +kernel
theorem dX9_meets_5 : decode cX9_meets 5 = .ok (.getfield 163, 3) := by decide +kernel
theorem dX9_meets_8 : decode cX9_meets 8 = .ok (.isub, 1) := by decide +kernel
theorem dX9_meets_9 : decode cX9_meets 9 = .ok (.istore 4, 2) := by decide +kernel
theorem dX9_meets_11 : decode cX9_meets 11 = .ok (.aload_n 0, 1) := by decide +kernel
theorem dX9_meets_12 : decode cX9_meets 12 = .ok (.getfield 166, 3) := by decide +kernel
theorem dX9_meets_15 : decode cX9_meets 15 = .ok (.aload_n 0, 1) := by decide +kernel
theorem dX9_meets_16 : decode cX9_meets 16 = .ok (.getfield 169, 3) := by decide +kernel
theorem dX9_meets_19 : decode cX9_meets 19 = .ok (.isub, 1) := by decide +kernel
theorem dX9_meets_20 : decode cX9_meets 20 = .ok (.istore 5, 2) := by decide +kernel
theorem dX9_meets_22 : decode cX9_meets 22 = .ok (.bipush (-4), 2) := by decide +kernel
theorem dX9_meets_24 : decode cX9_meets 24 = .ok (.istore 6, 2) := by decide +kernel
theorem dX9_meets_26 : decode cX9_meets 26 = .ok (.aload_n 0, 1) := by decide +kernel
theorem dX9_meets_27 : decode cX9_meets 27 = .ok (.getfield 68, 3) := by decide +kernel
theorem dX9_meets_30 : decode cX9_meets 30 = .ok (.iconst 1, 1) := by decide +kernel
theorem dX9_meets_31 : decode cX9_meets 31 = .ok (.isub, 1) := by decide +kernel
theorem dX9_meets_32 : decode cX9_meets 32 = .ok (.istore 7, 2) := by decide +kernel
theorem dX9_meets_34 : decode cX9_meets 34 = .ok (.iload 7, 2) := by decide +kernel
theorem dX9_meets_36 : decode cX9_meets 36 = .ok (.ifCond .lt 82, 3) := by decide +kernel
theorem dX9_meets_39 : decode cX9_meets 39 = .ok (.aload_n 0, 1) := by decide +kernel
theorem dX9_meets_40 : decode cX9_meets 40 = .ok (.getfield 194, 3) := by decide +kernel
theorem dX9_meets_43 : decode cX9_meets 43 = .ok (.ifCond .ne 75, 3) := by decide +kernel
theorem dX9_meets_46 : decode cX9_meets 46 = .ok (.aload_n 0, 1) := by decide +kernel
theorem dX9_meets_47 : decode cX9_meets 47 = .ok (.getfield 13, 3) := by decide +kernel
theorem dX9_meets_50 : decode cX9_meets 50 = .ok (.iconst 5, 1) := by decide +kernel
theorem dX9_meets_51 : decode cX9_meets 51 = .ok (.iload 7, 2) := by decide +kernel
theorem dX9_meets_53 : decode cX9_meets 53 = .ok (.imul, 1) := by decide +kernel
theorem dX9_meets_54 : decode cX9_meets 54 = .ok (.iconst 1, 1) := by decide +kernel
theorem dX9_meets_55 : decode cX9_meets 55 = .ok (.iadd, 1) := by decide +kernel
theorem dX9_meets_56 : decode cX9_meets 56 = .ok (.iaload, 1) := by decide +kernel
theorem dX9_meets_57 : decode cX9_meets 57 = .ok (.istore 8, 2) := by decide +kernel
theorem dX9_meets_59 : decode cX9_meets 59 = .ok (.iload_n 1, 1) := by decide +kernel
theorem dX9_meets_60 : decode cX9_meets 60 = .ok (.iload 8, 2) := by decide +kernel
theorem dX9_meets_62 : decode cX9_meets 62 = .ok (.if_icmp .lt 46, 3) := by decide +kernel
theorem dX9_meets_65 : decode cX9_meets 65 = .ok (.iload 5, 2) := by decide +kernel
theorem dX9_meets_67 : decode cX9_meets 67 = .ok (.iload 8, 2) := by decide +kernel
theorem dX9_meets_69 : decode cX9_meets 69 = .ok (.if_icmp .ge 39, 3) := by decide +kernel
theorem dX9_meets_72 : decode cX9_meets 72 = .ok (.iload 4, 2) := by decide +kernel
theorem dX9_meets_74 : decode cX9_meets 74 = .ok (.aload_n 0, 1) := by decide +kernel
theorem dX9_meets_75 : decode cX9_meets 75 = .ok (.getfield 13, 3) := by decide +kernel
theorem dX9_meets_78 : decode cX9_meets 78 = .ok (.iconst 5, 1) := by decide +kernel
theorem dX9_meets_79 : decode cX9_meets 79 = .ok (.iload 7, 2) := by decide +kernel
theorem dX9_meets_81 : decode cX9_meets 81 = .ok (.imul, 1) := by decide +kernel
theorem dX9_meets_82 : decode cX9_meets 82 = .ok (.iaload, 1) := by decide +kernel
theorem dX9_meets_83 : decode cX9_meets 83 = .ok (.isub, 1) := by decide +kernel
theorem dX9_meets_84 : decode cX9_meets 84 = .ok (.invokestatic 197, 3) := by decide +kernel
theorem dX9_meets_87 : decode cX9_meets 87 = .ok (.aload_n 0, 1) := by decide +kernel
theorem dX9_meets_88 : decode cX9_meets 88 = .ok (.getfield 13, 3) := by decide +kernel
theorem dX9_meets_91 : decode cX9_meets 91 = .ok (.iconst 5, 1) := by decide +kernel
theorem dX9_meets_92 : decode cX9_meets 92 = .ok (.iload 7, 2) := by decide +kernel
theorem dX9_meets_94 : decode cX9_meets 94 = .ok (.imul, 1) := by decide +kernel
theorem dX9_meets_95 : decode cX9_meets 95 = .ok (.iconst 2, 1) := by decide +kernel
theorem dX9_meets_96 : decode cX9_meets 96 = .ok (.iadd, 1) := by decide +kernel
theorem dX9_meets_97 : decode cX9_meets 97 = .ok (.iaload, 1) := by decide +kernel
theorem dX9_meets_98 : decode cX9_meets 98 = .ok (.iconst 2, 1) := by decide +kernel
theorem dX9_meets_99 : decode cX9_meets 99 = .ok (.iadd, 1) := by decide +kernel
theorem dX9_meets_100 : decode cX9_meets 100 = .ok (.if_icmp .gt 8, 3) := by decide +kernel
theorem dX9_meets_103 : decode cX9_meets 103 = .ok (.iload 7, 2) := by decide +kernel
theorem dX9_meets_105 : decode cX9_meets 105 = .ok (.goto 5, 3) := by decide +kernel
theorem dX9_meets_108 : decode cX9_meets 108 = .ok (.iload 6, 2) := by decide +kernel
theorem dX9_meets_110 : decode cX9_meets 110 = .ok (.istore 6, 2) := by decide +kernel
theorem dX9_meets_112 : decode cX9_meets 112 = .ok (.iinc 7 (-1), 3) := by decide +kernel
theorem dX9_meets_115 : decode cX9_meets 115 = .ok (.goto (-81), 3) := by decide +kernel
theorem dX9_meets_118 : decode cX9_meets 118 = .ok (.iload 6, 2) := by decide +kernel
theorem dX9_meets_120 : decode cX9_meets 120 = .ok (.ifCond .ge 5, 3) := by decide +kernel
theorem dX9_meets_123 : decode cX9_meets 123 = .ok (.iconst 0, 1) := by decide +kernel
theorem dX9_meets_124 : decode cX9_meets 124 = .ok (.ireturn, 1) := by decide +kernel
theorem dX9_meets_125 : decode cX9_meets 125 = .ok (.aload_n 0, 1) := by decide +kernel
theorem dX9_meets_126 : decode cX9_meets 126 = .ok (.getfield 185, 3) := by decide +kernel
theorem dX9_meets_129 : decode cX9_meets 129 = .ok (.bipush 15, 2) := by decide +kernel
theorem dX9_meets_131 : decode cX9_meets 131 = .ok (.if_icmp .eq 11, 3) := by decide +kernel
theorem dX9_meets_134 : decode cX9_meets 134 = .ok (.aload_n 0, 1) := by decide +kernel
theorem dX9_meets_135 : decode cX9_meets 135 = .ok (.getfield 185, 3) := by decide +kernel
theorem dX9_meets_138 : decode cX9_meets 138 = .ok (.iconst 2, 1) := by decide +kernel
theorem dX9_meets_139 : decode cX9_meets 139 = .ok (.if_icmp .ge 7, 3) := by decide +kernel
theorem dX9_meets_142 : decode cX9_meets 142 = .ok (.iconst 1, 1) := by decide +kernel
theorem dX9_meets_143 : decode cX9_meets 143 = .ok (.goto 4, 3) := by decide +kernel
theorem dX9_meets_146 : decode cX9_meets 146 = .ok (.iconst 0, 1) := by decide +kernel
theorem dX9_meets_147 : decode cX9_meets 147 = .ok (.istore 7, 2) := by decide +kernel
theorem dX9_meets_149 : decode cX9_meets 149 = .ok (.aload_n 0, 1) := by decide +kernel
theorem dX9_meets_150 : decode cX9_meets 150 = .ok (.getfield 179, 3) := by decide +kernel
theorem dX9_meets_153 : decode cX9_meets 153 = .ok (.iload_n 2, 1) := by decide +kernel
theorem dX9_meets_154 : decode cX9_meets 154 = .ok (.isub, 1) := by decide +kernel
theorem dX9_meets_155 : decode cX9_meets 155 = .ok (.invokestatic 197, 3) := by decide +kernel
theorem dX9_meets_158 : decode cX9_meets 158 = .ok (.aload_n 0, 1) := by decide +kernel
theorem dX9_meets_159 : decode cX9_meets 159 = .ok (.getfield 7, 3) := by decide +kernel
theorem dX9_meets_162 : decode cX9_meets 162 = .ok (.iconst 2, 1) := by decide +kernel
theorem dX9_meets_163 : decode cX9_meets 163 = .ok (.iaload, 1) := by decide +kernel
theorem dX9_meets_164 : decode cX9_meets 164 = .ok (.if_icmp .gt 7, 3) := by decide +kernel
theorem dX9_meets_167 : decode cX9_meets 167 = .ok (.iconst 1, 1) := by decide +kernel
theorem dX9_meets_168 : decode cX9_meets 168 = .ok (.goto 4, 3) := by decide +kernel
theorem dX9_meets_171 : decode cX9_meets 171 = .ok (.iconst 0, 1) := by decide +kernel
theorem dX9_meets_172 : decode cX9_meets 172 = .ok (.istore 8, 2) := by decide +kernel
theorem dX9_meets_174 : decode cX9_meets 174 = .ok (.iload 4, 2) := by decide +kernel
theorem dX9_meets_176 : decode cX9_meets 176 = .ok (.aload_n 0, 1) := by decide +kernel
theorem dX9_meets_177 : decode cX9_meets 177 = .ok (.getfield 13, 3) := by decide +kernel
theorem dX9_meets_180 : decode cX9_meets 180 = .ok (.iconst 5, 1) := by decide +kernel
theorem dX9_meets_181 : decode cX9_meets 181 = .ok (.iload 6, 2) := by decide +kernel
theorem dX9_meets_183 : decode cX9_meets 183 = .ok (.imul, 1) := by decide +kernel
theorem dX9_meets_184 : decode cX9_meets 184 = .ok (.iaload, 1) := by decide +kernel
theorem dX9_meets_185 : decode cX9_meets 185 = .ok (.isub, 1) := by decide +kernel
theorem dX9_meets_186 : decode cX9_meets 186 = .ok (.invokestatic 197, 3) := by decide +kernel
theorem dX9_meets_189 : decode cX9_meets 189 = .ok (.aload_n 0, 1) := by decide +kernel
theorem dX9_meets_190 : decode cX9_meets 190 = .ok (.getfield 13, 3) := by decide +kernel
theorem dX9_meets_193 : decode cX9_meets 193 = .ok (.iconst 5, 1) := by decide +kernel
theorem dX9_meets_194 : decode cX9_meets 194 = .ok (.iload 6, 2) := by decide +kernel
theorem dX9_meets_196 : decode cX9_meets 196 = .ok (.imul, 1) := by decide +kernel
theorem dX9_meets_197 : decode cX9_meets 197 = .ok (.iconst 2, 1) := by decide +kernel
theorem dX9_meets_198 : decode cX9_meets 198 = .ok (.iadd, 1) := by decide +kernel
theorem dX9_meets_199 : decode cX9_meets 199 = .ok (.iaload, 1) := by decide +kernel
theorem dX9_meets_200 : decode cX9_meets 200 = .ok (.if_icmp .gt 40, 3) := by decide +kernel
theorem dX9_meets_203 : decode cX9_meets 203 = .ok (.iload 8, 2) := by decide +kernel
theorem dX9_meets_205 : decode cX9_meets 205 = .ok (.ifCond .eq 35, 3) := by decide +kernel
theorem dX9_meets_208 : decode cX9_meets 208 = .ok (.aload_n 0, 1) := by decide +kernel
theorem dX9_meets_209 : decode cX9_meets 209 = .ok (.getfield 13, 3) := by decide +kernel
theorem dX9_meets_212 : decode cX9_meets 212 = .ok (.iconst 5, 1) := by decide +kernel
theorem dX9_meets_213 : decode cX9_meets 213 = .ok (.iload 6, 2) := by decide +kernel
theorem dX9_meets_215 : decode cX9_meets 215 = .ok (.imul, 1) := by decide +kernel
theorem dX9_meets_216 : decode cX9_meets 216 = .ok (.iconst 4, 1) := by decide +kernel
theorem dX9_meets_217 : decode cX9_meets 217 = .ok (.iadd, 1) := by decide +kernel
theorem dX9_meets_218 : decode cX9_meets 218 = .ok (.iaload, 1) := by decide +kernel
theorem dX9_meets_219 : decode cX9_meets 219 = .ok (.ifCond .eq 8, 3) := by decide +kernel
theorem dX9_meets_222 : decode cX9_meets 222 = .ok (.iload 7, 2) := by decide +kernel
theorem dX9_meets_224 : decode cX9_meets 224 = .ok (.ifCond .eq 16, 3) := by decide +kernel
theorem dX9_meets_227 : decode cX9_meets 227 = .ok (.aload_n 0, 1) := by decide +kernel
theorem dX9_meets_228 : decode cX9_meets 228 = .ok (.iload 6, 2) := by decide +kernel
theorem dX9_meets_230 : decode cX9_meets 230 = .ok (.putfield 200, 3) := by decide +kernel
theorem dX9_meets_233 : decode cX9_meets 233 = .ok (.aload_n 0, 1) := by decide +kernel
theorem dX9_meets_234 : decode cX9_meets 234 = .ok (.iload_n 3, 1) := by decide +kernel
theorem dX9_meets_235 : decode cX9_meets 235 = .ok (.putfield 203, 3) := by decide +kernel
theorem dX9_meets_238 : decode cX9_meets 238 = .ok (.iconst 1, 1) := by decide +kernel
theorem dX9_meets_239 : decode cX9_meets 239 = .ok (.ireturn, 1) := by decide +kernel
theorem dX9_meets_240 : decode cX9_meets 240 = .ok (.aload_n 0, 1) := by decide +kernel
theorem dX9_meets_241 : decode cX9_meets 241 = .ok (.dup, 1) := by decide +kernel
theorem dX9_meets_242 : decode cX9_meets 242 = .ok (.getfield 206, 3) := by decide +kernel
theorem dX9_meets_245 : decode cX9_meets 245 = .ok (.iconst 1, 1) := by decide +kernel
theorem dX9_meets_246 : decode cX9_meets 246 = .ok (.iadd, 1) := by decide +kernel
theorem dX9_meets_247 : decode cX9_meets 247 = .ok (.putfield 206, 3) := by decide +kernel
theorem dX9_meets_250 : decode cX9_meets 250 = .ok (.aload_n 0, 1) := by decide +kernel
theorem dX9_meets_251 : decode cX9_meets 251 = .ok (.aload_n 0, 1) := by decide +kernel
theorem dX9_meets_252 : decode cX9_meets 252 = .ok (.getfield 182, 3) := by decide +kernel
theorem dX9_meets_255 : decode cX9_meets 255 = .ok (.invokestatic 197, 3) := by decide +kernel
theorem dX9_meets_258 : decode cX9_meets 258 = .ok (.iconst 2, 1) := by decide +kernel
theorem dX9_meets_259 : decode cX9_meets 259 = .ok (.idiv, 1) := by decide +kernel
theorem dX9_meets_260 : decode cX9_meets 260 = .ok (.putfield 182, 3) := by decide +kernel
theorem dX9_meets_263 : decode cX9_meets 263 = .ok (.iconst 0, 1) := by decide +kernel
theorem dX9_meets_264 : decode cX9_meets 264 = .ok (.ireturn, 1) := by decide +kernel
theorem dX9_tries_0 : decode cX9_tries 0 = .ok (.aload_n 0, 1) := by decide +kernel
theorem dX9_tries_1 : decode cX9_tries 1 = .ok (.invokevirtual 209, 3) := by decide +kernel
theorem dX9_tries_4 : decode cX9_tries 4 = .ok (.aload_n 0, 1) := by decide +kernel
theorem dX9_tries_5 : decode cX9_tries 5 = .ok (.iconst 0, 1) := by decide +kernel
theorem dX9_tries_6 : decode cX9_tries 6 = .ok (.putfield 160, 3) := by decide +kernel
theorem dX9_tries_9 : decode cX9_tries 9 = .ok (.aload_n 0, 1) := by decide +kernel
theorem dX9_tries_10 : decode cX9_tries 10 = .ok (.aload_n 0, 1) := by decide +kernel
theorem dX9_tries_11 : decode cX9_tries 11 = .ok (.getfield 7, 3) := by decide +kernel
theorem dX9_tries_14 : decode cX9_tries 14 = .ok (.iconst 0, 1) := by decide +kernel
theorem dX9_tries_15 : decode cX9_tries 15 = .ok (.iaload, 1) := by decide +kernel
theorem dX9_tries_16 : decode cX9_tries 16 = .ok (.ineg, 1) := by decide +kernel
theorem dX9_tries_17 : decode cX9_tries 17 = .ok (.putfield 166, 3) := by decide +kernel
theorem dX9_tries_20 : decode cX9_tries 20 = .ok (.aload_n 0, 1) := by decide +kernel
theorem dX9_tries_21 : decode cX9_tries 21 = .ok (.iconst 0, 1) := by decide +kernel
theorem dX9_tries_22 : decode cX9_tries 22 = .ok (.putfield 179, 3) := by decide +kernel
theorem dX9_tries_25 : decode cX9_tries 25 = .ok (.aload_n 0, 1) := by decide +kernel
theorem dX9_tries_26 : decode cX9_tries 26 = .ok (.iconst 0, 1) := by decide +kernel
theorem dX9_tries_27 : decode cX9_tries 27 = .ok (.putfield 182, 3) := by decide +kernel
theorem dX9_tries_30 : decode cX9_tries 30 = .ok (.aload_n 0, 1) := by decide +kernel
theorem dX9_tries_31 : decode cX9_tries 31 = .ok (.iconst 0, 1) := by decide +kernel
theorem dX9_tries_32 : decode cX9_tries 32 = .ok (.putfield 185, 3) := by decide +kernel
theorem dX9_tries_35 : decode cX9_tries 35 = .ok (.aload_n 0, 1) := by decide +kernel
theorem dX9_tries_36 : decode cX9_tries 36 = .ok (.iconst 0, 1) := by decide +kernel
theorem dX9_tries_37 : decode cX9_tries 37 = .ok (.putfield 188, 3) := by decide +kernel
theorem dX9_tries_40 : decode cX9_tries 40 = .ok (.aload_n 0, 1) := by decide +kernel
theorem dX9_tries_41 : decode cX9_tries 41 = .ok (.iconst 0, 1) := by decide +kernel
theorem dX9_tries_42 : decode cX9_tries 42 = .ok (.putfield 163, 3) := by decide +kernel
theorem dX9_tries_45 : decode cX9_tries 45 = .ok (.aload_n 0, 1) := by decide +kernel
theorem dX9_tries_46 : decode cX9_tries 46 = .ok (.iconst 0, 1) := by decide +kernel
theorem dX9_tries_47 : decode cX9_tries 47 = .ok (.putfield 169, 3) := by decide +kernel
theorem dX9_tries_50 : decode cX9_tries 50 = .ok (.aload_n 0, 1) := by decide +kernel
theorem dX9_tries_51 : decode cX9_tries 51 = .ok (.iconst 1, 1) := by decide +kernel
theorem dX9_tries_52 : decode cX9_tries 52 = .ok (.putfield 172, 3) := by decide +kernel
theorem dX9_tries_55 : decode cX9_tries 55 = .ok (.aload_n 0, 1) := by decide +kernel
theorem dX9_tries_56 : decode cX9_tries 56 = .ok (.bipush (-4), 2) := by decide +kernel
theorem dX9_tries_58 : decode cX9_tries 58 = .ok (.putfield 200, 3) := by decide +kernel
theorem dX9_tries_61 : decode cX9_tries 61 = .ok (.aload_n 0, 1) := by decide +kernel
theorem dX9_tries_62 : decode cX9_tries 62 = .ok (.bipush (-4), 2) := by decide +kernel
theorem dX9_tries_64 : decode cX9_tries 64 = .ok (.putfield 203, 3) := by decide +kernel
theorem dX9_tries_67 : decode cX9_tries 67 = .ok (.aload_n 0, 1) := by decide +kernel
theorem dX9_tries_68 : decode cX9_tries 68 = .ok (.iconst 0, 1) := by decide +kernel
theorem dX9_tries_69 : decode cX9_tries 69 = .ok (.putfield 206, 3) := by decide +kernel
theorem dX9_tries_72 : decode cX9_tries 72 = .ok (.aload_n 0, 1) := by decide +kernel
theorem dX9_tries_73 : decode cX9_tries 73 = .ok (.iconst 0, 1) := by decide +kernel
theorem dX9_tries_74 : decode cX9_tries 74 = .ok (.putfield 191, 3) := by decide +kernel
theorem dX9_tries_77 : decode cX9_tries 77 = .ok (.iconst 0, 1) := by decide +kernel
theorem dX9_tries_78 : decode cX9_tries 78 = .ok (.istore_n 1, 1) := by decide +kernel
theorem dX9_tries_79 : decode cX9_tries 79 = .ok (.iconst 0, 1) := by decide +kernel
theorem dX9_tries_80 : decode cX9_tries 80 = .ok (.istore_n 2, 1) := by decide +kernel
theorem dX9_tries_81 : decode cX9_tries 81 = .ok (.iload_n 2, 1) := by decide +kernel
theorem dX9_tries_82 : decode cX9_tries 82 = .ok (.bipush 100, 2) := by decide +kernel
theorem dX9_tries_84 : decode cX9_tries 84 = .ok (.if_icmp .ge 326, 3) := by decide +kernel
theorem dX9_tries_87 : decode cX9_tries 87 = .ok (.iload_n 1, 1) := by decide +kernel
theorem dX9_tries_88 : decode cX9_tries 88 = .ok (.ifCond .ne 180, 3) := by decide +kernel
theorem dX9_tries_91 : decode cX9_tries 91 = .ok (.aload_n 0, 1) := by decide +kernel
theorem dX9_tries_92 : decode cX9_tries 92 = .ok (.getfield 166, 3) := by decide +kernel
theorem dX9_tries_95 : decode cX9_tries 95 = .ok (.aload_n 0, 1) := by decide +kernel
theorem dX9_tries_96 : decode cX9_tries 96 = .ok (.getfield 169, 3) := by decide +kernel
theorem dX9_tries_99 : decode cX9_tries 99 = .ok (.isub, 1) := by decide +kernel
theorem dX9_tries_100 : decode cX9_tries 100 = .ok (.istore_n 3, 1) := by decide +kernel
theorem dX9_tries_101 : decode cX9_tries 101 = .ok (.aload_n 0, 1) := by decide +kernel
theorem dX9_tries_102 : decode cX9_tries 102 = .ok (.getfield 37, 3) := by decide +kernel
theorem dX9_tries_105 : decode cX9_tries 105 = .ok (.ifCond .lt 69, 3) := by decide +kernel
theorem dX9_tries_108 : decode cX9_tries 108 = .ok (.iload_n 2, 1) := by decide +kernel
theorem dX9_tries_109 : decode cX9_tries 109 = .ok (.aload_n 0, 1) := by decide +kernel
theorem dX9_tries_110 : decode cX9_tries 110 = .ok (.getfield 212, 3) := by decide +kernel
theorem dX9_tries_113 : decode cX9_tries 113 = .ok (.if_icmp .lt 61, 3) := by decide +kernel
theorem dX9_tries_116 : decode cX9_tries 116 = .ok (.aload_n 0, 1) := by decide +kernel
theorem dX9_tries_117 : decode cX9_tries 117 = .ok (.getfield 172, 3) := by decide +kernel
theorem dX9_tries_120 : decode cX9_tries 120 = .ok (.ifCond .ne 54, 3) := by decide +kernel
theorem dX9_tries_123 : decode cX9_tries 123 = .ok (.aload_n 0, 1) := by decide +kernel
theorem dX9_tries_124 : decode cX9_tries 124 = .ok (.getfield 160, 3) := by decide +kernel
theorem dX9_tries_127 : decode cX9_tries 127 = .ok (.aload_n 0, 1) := by decide +kernel
theorem dX9_tries_128 : decode cX9_tries 128 = .ok (.getfield 163, 3) := by decide +kernel
theorem dX9_tries_131 : decode cX9_tries 131 = .ok (.isub, 1) := by decide +kernel
theorem dX9_tries_132 : decode cX9_tries 132 = .ok (.aload_n 0, 1) := by decide +kernel
theorem dX9_tries_133 : decode cX9_tries 133 = .ok (.getfield 13, 3) := by decide +kernel
theorem dX9_tries_136 : decode cX9_tries 136 = .ok (.iconst 5, 1) := by decide +kernel
theorem dX9_tries_137 : decode cX9_tries 137 = .ok (.aload_n 0, 1) := by decide +kernel
theorem dX9_tries_138 : decode cX9_tries 138 = .ok (.getfield 37, 3) := by decide +kernel
theorem dX9_tries_141 : decode cX9_tries 141 = .ok (.imul, 1) := by decide +kernel
theorem dX9_tries_142 : decode cX9_tries 142 = .ok (.iaload, 1) := by decide +kernel
theorem dX9_tries_143 : decode cX9_tries 143 = .ok (.isub, 1) := by decide +kernel
theorem dX9_tries_144 : decode cX9_tries 144 = .ok (.istore 4, 2) := by decide +kernel
theorem dX9_tries_146 : decode cX9_tries 146 = .ok (.aload_n 0, 1) := by decide +kernel
theorem dX9_tries_147 : decode cX9_tries 147 = .ok (.getfield 31, 3) := by decide +kernel
theorem dX9_tries_150 : decode cX9_tries 150 = .ok (.iload_n 2, 1) := by decide +kernel
theorem dX9_tries_151 : decode cX9_tries 151 = .ok (.dup2, 1) := by decide +kernel
theorem dX9_tries_152 : decode cX9_tries 152 = .ok (.iaload, 1) := by decide +kernel
theorem dX9_tries_153 : decode cX9_tries 153 = .ok (.iload 4, 2) := by decide +kernel
theorem dX9_tries_155 : decode cX9_tries 155 = .ok (.ifCond .le 7, 3) := by decide +kernel
theorem dX9_tries_158 : decode cX9_tries 158 = .ok (.iconst 1, 1) := by decide +kernel
theorem dX9_tries_159 : decode cX9_tries 159 = .ok (.goto 13, 3) := by decide +kernel
theorem dX9_tries_162 : decode cX9_tries 162 = .ok (.iload 4, 2) := by decide +kernel
theorem dX9_tries_164 : decode cX9_tries 164 = .ok (.ifCond .ge 7, 3) := by decide +kernel
theorem dX9_tries_167 : decode cX9_tries 167 = .ok (.iconst (-1), 1) := by decide +kernel
theorem dX9_tries_168 : decode cX9_tries 168 = .ok (.goto 4, 3) := by decide +kernel
theorem dX9_tries_171 : decode cX9_tries 171 = .ok (.iconst 0, 1) := by decide +kernel
theorem dX9_tries_172 : decode cX9_tries 172 = .ok (.iadd, 1) := by decide +kernel
theorem dX9_tries_173 : decode cX9_tries 173 = .ok (.iastore, 1) := by decide +kernel
theorem dX9_tries_174 : decode cX9_tries 174 = .ok (.aload_n 0, 1) := by decide +kernel
theorem dX9_tries_175 : decode cX9_tries 175 = .ok (.dup, 1) := by decide +kernel
theorem dX9_tries_176 : decode cX9_tries 176 = .ok (.getfield 163, 3) := by decide +kernel
theorem dX9_tries_179 : decode cX9_tries 179 = .ok (.aload_n 0, 1) := by decide +kernel
theorem dX9_tries_180 : decode cX9_tries 180 = .ok (.getfield 31, 3) := by decide +kernel
theorem dX9_tries_183 : decode cX9_tries 183 = .ok (.iload_n 2, 1) := by decide +kernel
theorem dX9_tries_184 : decode cX9_tries 184 = .ok (.iaload, 1) := by decide +kernel
theorem dX9_tries_185 : decode cX9_tries 185 = .ok (.iadd, 1) := by decide +kernel
theorem dX9_tries_186 : decode cX9_tries 186 = .ok (.putfield 163, 3) := by decide +kernel
theorem dX9_tries_189 : decode cX9_tries 189 = .ok (.aload_n 0, 1) := by decide +kernel
theorem dX9_tries_190 : decode cX9_tries 190 = .ok (.dup, 1) := by decide +kernel
theorem dX9_tries_191 : decode cX9_tries 191 = .ok (.getfield 169, 3) := by decide +kernel
theorem dX9_tries_194 : decode cX9_tries 194 = .ok (.aload_n 0, 1) := by decide +kernel
theorem dX9_tries_195 : decode cX9_tries 195 = .ok (.getfield 34, 3) := by decide +kernel
theorem dX9_tries_198 : decode cX9_tries 198 = .ok (.iload_n 2, 1) := by decide +kernel
theorem dX9_tries_199 : decode cX9_tries 199 = .ok (.iaload, 1) := by decide +kernel
theorem dX9_tries_200 : decode cX9_tries 200 = .ok (.iadd, 1) := by decide +kernel
theorem dX9_tries_201 : decode cX9_tries 201 = .ok (.putfield 169, 3) := by decide +kernel
theorem dX9_tries_204 : decode cX9_tries 204 = .ok (.aload_n 0, 1) := by decide +kernel
theorem dX9_tries_205 : decode cX9_tries 205 = .ok (.dup, 1) := by decide +kernel
theorem dX9_tries_206 : decode cX9_tries 206 = .ok (.getfield 182, 3) := by decide +kernel
theorem dX9_tries_209 : decode cX9_tries 209 = .ok (.aload_n 0, 1) := by decide +kernel
theorem dX9_tries_210 : decode cX9_tries 210 = .ok (.getfield 7, 3) := by decide +kernel
theorem dX9_tries_213 : decode cX9_tries 213 = .ok (.iconst 1, 1) := by decide +kernel
theorem dX9_tries_214 : decode cX9_tries 214 = .ok (.iaload, 1) := by decide +kernel
theorem dX9_tries_215 : decode cX9_tries 215 = .ok (.isub, 1) := by decide +kernel
theorem dX9_tries_216 : decode cX9_tries 216 = .ok (.putfield 182, 3) := by decide +kernel
theorem dX9_tries_219 : decode cX9_tries 219 = .ok (.aload_n 0, 1) := by decide +kernel
theorem dX9_tries_220 : decode cX9_tries 220 = .ok (.dup, 1) := by decide +kernel
theorem dX9_tries_221 : decode cX9_tries 221 = .ok (.getfield 160, 3) := by decide +kernel
theorem dX9_tries_224 : decode cX9_tries 224 = .ok (.aload_n 0, 1) := by decide +kernel
theorem dX9_tries_225 : decode cX9_tries 225 = .ok (.getfield 179, 3) := by decide +kernel
theorem dX9_tries_228 : decode cX9_tries 228 = .ok (.iadd, 1) := by decide +kernel
theorem dX9_tries_229 : decode cX9_tries 229 = .ok (.putfield 160, 3) := by decide +kernel
theorem dX9_tries_232 : decode cX9_tries 232 = .ok (.aload_n 0, 1) := by decide +kernel
theorem dX9_tries_233 : decode cX9_tries 233 = .ok (.dup, 1) := by decide +kernel
theorem dX9_tries_234 : decode cX9_tries 234 = .ok (.getfield 166, 3) := by decide +kernel
theorem dX9_tries_237 : decode cX9_tries 237 = .ok (.aload_n 0, 1) := by decide +kernel
theorem dX9_tries_238 : decode cX9_tries 238 = .ok (.getfield 182, 3) := by decide +kernel
theorem dX9_tries_241 : decode cX9_tries 241 = .ok (.iadd, 1) := by decide +kernel
theorem dX9_tries_242 : decode cX9_tries 242 = .ok (.putfield 166, 3) := by decide +kernel
theorem dX9_tries_245 : decode cX9_tries 245 = .ok (.aload_n 0, 1) := by decide +kernel
theorem dX9_tries_246 : decode cX9_tries 246 = .ok (.aload_n 0, 1) := by decide +kernel
theorem dX9_tries_247 : decode cX9_tries 247 = .ok (.getfield 31, 3) := by decide +kernel
theorem dX9_tries_250 : decode cX9_tries 250 = .ok (.iload_n 2, 1) := by decide +kernel
theorem dX9_tries_251 : decode cX9_tries 251 = .ok (.iaload, 1) := by decide +kernel
theorem dX9_tries_252 : decode cX9_tries 252 = .ok (.invokevirtual 215, 3) := by decide +kernel
theorem dX9_tries_255 : decode cX9_tries 255 = .ok (.aload_n 0, 1) := by decide +kernel
theorem dX9_tries_256 : decode cX9_tries 256 = .ok (.iload_n 3, 1) := by decide +kernel
theorem dX9_tries_257 : decode cX9_tries 257 = .ok (.aload_n 0, 1) := by decide +kernel
theorem dX9_tries_258 : decode cX9_tries 258 = .ok (.getfield 31, 3) := by decide +kernel
theorem dX9_tries_261 : decode cX9_tries 261 = .ok (.iload_n 2, 1) := by decide +kernel
theorem dX9_tries_262 : decode cX9_tries 262 = .ok (.iaload, 1) := by decide +kernel
theorem dX9_tries_263 : decode cX9_tries 263 = .ok (.iload_n 2, 1) := by decide +kernel
theorem dX9_tries_264 : decode cX9_tries 264 = .ok (.invokevirtual 218, 3) := by decide +kernel
theorem dX9_tries_267 : decode cX9_tries 267 = .ok (.istore_n 1, 1) := by decide +kernel
theorem dX9_tries_268 : decode cX9_tries 268 = .ok (.aload_n 0, 1) := by decide +kernel
theorem dX9_tries_269 : decode cX9_tries 269 = .ok (.getfield 28, 3) := by decide +kernel
theorem dX9_tries_272 : decode cX9_tries 272 = .ok (.bipush 9, 2) := by decide +kernel
theorem dX9_tries_274 : decode cX9_tries 274 = .ok (.iload_n 2, 1) := by decide +kernel
theorem dX9_tries_275 : decode cX9_tries 275 = .ok (.imul, 1) := by decide +kernel
theorem dX9_tries_276 : decode cX9_tries 276 = .ok (.aload_n 0, 1) := by decide +kernel
theorem dX9_tries_277 : decode cX9_tries 277 = .ok (.getfield 160, 3) := by decide +kernel
theorem dX9_tries_280 : decode cX9_tries 280 = .ok (.iastore, 1) := by decide +kernel
theorem dX9_tries_281 : decode cX9_tries 281 = .ok (.aload_n 0, 1) := by decide +kernel
theorem dX9_tries_282 : decode cX9_tries 282 = .ok (.getfield 28, 3) := by decide +kernel
theorem dX9_tries_285 : decode cX9_tries 285 = .ok (.bipush 9, 2) := by decide +kernel
theorem dX9_tries_287 : decode cX9_tries 287 = .ok (.iload_n 2, 1) := by decide +kernel
theorem dX9_tries_288 : decode cX9_tries 288 = .ok (.imul, 1) := by decide +kernel
theorem dX9_tries_289 : decode cX9_tries 289 = .ok (.iconst 1, 1) := by decide +kernel
theorem dX9_tries_290 : decode cX9_tries 290 = .ok (.iadd, 1) := by decide +kernel
theorem dX9_tries_291 : decode cX9_tries 291 = .ok (.aload_n 0, 1) := by decide +kernel
theorem dX9_tries_292 : decode cX9_tries 292 = .ok (.getfield 166, 3) := by decide +kernel
theorem dX9_tries_295 : decode cX9_tries 295 = .ok (.iastore, 1) := by decide +kernel
theorem dX9_tries_296 : decode cX9_tries 296 = .ok (.aload_n 0, 1) := by decide +kernel
theorem dX9_tries_297 : decode cX9_tries 297 = .ok (.getfield 28, 3) := by decide +kernel
theorem dX9_tries_300 : decode cX9_tries 300 = .ok (.bipush 9, 2) := by decide +kernel
theorem dX9_tries_302 : decode cX9_tries 302 = .ok (.iload_n 2, 1) := by decide +kernel
theorem dX9_tries_303 : decode cX9_tries 303 = .ok (.imul, 1) := by decide +kernel
theorem dX9_tries_304 : decode cX9_tries 304 = .ok (.iconst 2, 1) := by decide +kernel
theorem dX9_tries_305 : decode cX9_tries 305 = .ok (.iadd, 1) := by decide +kernel
theorem dX9_tries_306 : decode cX9_tries 306 = .ok (.aload_n 0, 1) := by decide +kernel
theorem dX9_tries_307 : decode cX9_tries 307 = .ok (.getfield 179, 3) := by decide +kernel
theorem dX9_tries_310 : decode cX9_tries 310 = .ok (.iastore, 1) := by decide +kernel
theorem dX9_tries_311 : decode cX9_tries 311 = .ok (.aload_n 0, 1) := by decide +kernel
theorem dX9_tries_312 : decode cX9_tries 312 = .ok (.getfield 28, 3) := by decide +kernel
theorem dX9_tries_315 : decode cX9_tries 315 = .ok (.bipush 9, 2) := by decide +kernel
theorem dX9_tries_317 : decode cX9_tries 317 = .ok (.iload_n 2, 1) := by decide +kernel
theorem dX9_tries_318 : decode cX9_tries 318 = .ok (.imul, 1) := by decide +kernel
theorem dX9_tries_319 : decode cX9_tries 319 = .ok (.iconst 3, 1) := by decide +kernel
theorem dX9_tries_320 : decode cX9_tries 320 = .ok (.iadd, 1) := by decide +kernel
theorem dX9_tries_321 : decode cX9_tries 321 = .ok (.aload_n 0, 1) := by decide +kernel
theorem dX9_tries_322 : decode cX9_tries 322 = .ok (.getfield 182, 3) := by decide +kernel
theorem dX9_tries_325 : decode cX9_tries 325 = .ok (.iastore, 1) := by decide +kernel
theorem dX9_tries_326 : decode cX9_tries 326 = .ok (.aload_n 0, 1) := by decide +kernel
theorem dX9_tries_327 : decode cX9_tries 327 = .ok (.getfield 28, 3) := by decide +kernel
theorem dX9_tries_330 : decode cX9_tries 330 = .ok (.bipush 9, 2) := by decide +kernel
theorem dX9_tries_332 : decode cX9_tries 332 = .ok (.iload_n 2, 1) := by decide +kernel
theorem dX9_tries_333 : decode cX9_tries 333 = .ok (.imul, 1) := by decide +kernel
theorem dX9_tries_334 : decode cX9_tries 334 = .ok (.iconst 4, 1) := by decide +kernel
theorem dX9_tries_335 : decode cX9_tries 335 = .ok (.iadd, 1) := by decide +kernel
theorem dX9_tries_336 : decode cX9_tries 336 = .ok (.aload_n 0, 1) := by decide +kernel
theorem dX9_tries_337 : decode cX9_tries 337 = .ok (.getfield 185, 3) := by decide +kernel
theorem dX9_tries_340 : decode cX9_tries 340 = .ok (.iastore, 1) := by decide +kernel
theorem dX9_tries_341 : decode cX9_tries 341 = .ok (.aload_n 0, 1) := by decide +kernel
theorem dX9_tries_342 : decode cX9_tries 342 = .ok (.getfield 28, 3) := by decide +kernel
theorem dX9_tries_345 : decode cX9_tries 345 = .ok (.bipush 9, 2) := by decide +kernel
theorem dX9_tries_347 : decode cX9_tries 347 = .ok (.iload_n 2, 1) := by decide +kernel
theorem dX9_tries_348 : decode cX9_tries 348 = .ok (.imul, 1) := by decide +kernel
theorem dX9_tries_349 : decode cX9_tries 349 = .ok (.iconst 5, 1) := by decide +kernel
theorem dX9_tries_350 : decode cX9_tries 350 = .ok (.iadd, 1) := by decide +kernel
theorem dX9_tries_351 : decode cX9_tries 351 = .ok (.aload_n 0, 1) := by decide +kernel
theorem dX9_tries_352 : decode cX9_tries 352 = .ok (.getfield 188, 3) := by decide +kernel
theorem dX9_tries_355 : decode cX9_tries 355 = .ok (.iastore, 1) := by decide +kernel
theorem dX9_tries_356 : decode cX9_tries 356 = .ok (.aload_n 0, 1) := by decide +kernel
theorem dX9_tries_357 : decode cX9_tries 357 = .ok (.getfield 28, 3) := by decide +kernel
theorem dX9_tries_360 : decode cX9_tries 360 = .ok (.bipush 9, 2) := by decide +kernel
theorem dX9_tries_362 : decode cX9_tries 362 = .ok (.iload_n 2, 1) := by decide +kernel
theorem dX9_tries_363 : decode cX9_tries 363 = .ok (.imul, 1) := by decide +kernel
theorem dX9_tries_364 : decode cX9_tries 364 = .ok (.bipush 6, 2) := by decide +kernel
theorem dX9_tries_366 : decode cX9_tries 366 = .ok (.iadd, 1) := by decide +kernel
theorem dX9_tries_367 : decode cX9_tries 367 = .ok (.aload_n 0, 1) := by decide +kernel
theorem dX9_tries_368 : decode cX9_tries 368 = .ok (.getfield 163, 3) := by decide +kernel
theorem dX9_tries_371 : decode cX9_tries 371 = .ok (.iastore, 1) := by decide +kernel
theorem dX9_tries_372 : decode cX9_tries 372 = .ok (.aload_n 0, 1) := by decide +kernel
theorem dX9_tries_373 : decode cX9_tries 373 = .ok (.getfield 28, 3) := by decide +kernel
theorem dX9_tries_376 : decode cX9_tries 376 = .ok (.bipush 9, 2) := by decide +kernel
theorem dX9_tries_378 : decode cX9_tries 378 = .ok (.iload_n 2, 1) := by decide +kernel
theorem dX9_tries_379 : decode cX9_tries 379 = .ok (.imul, 1) := by decide +kernel
theorem dX9_tries_380 : decode cX9_tries 380 = .ok (.bipush 7, 2) := by decide +kernel
theorem dX9_tries_382 : decode cX9_tries 382 = .ok (.iadd, 1) := by decide +kernel
theorem dX9_tries_383 : decode cX9_tries 383 = .ok (.aload_n 0, 1) := by decide +kernel
theorem dX9_tries_384 : decode cX9_tries 384 = .ok (.getfield 169, 3) := by decide +kernel
theorem dX9_tries_387 : decode cX9_tries 387 = .ok (.iastore, 1) := by decide +kernel
theorem dX9_tries_388 : decode cX9_tries 388 = .ok (.aload_n 0, 1) := by decide +kernel
theorem dX9_tries_389 : decode cX9_tries 389 = .ok (.getfield 28, 3) := by decide +kernel
theorem dX9_tries_392 : decode cX9_tries 392 = .ok (.bipush 9, 2) := by decide +kernel
theorem dX9_tries_394 : decode cX9_tries 394 = .ok (.iload_n 2, 1) := by decide +kernel
theorem dX9_tries_395 : decode cX9_tries 395 = .ok (.imul, 1) := by decide +kernel
theorem dX9_tries_396 : decode cX9_tries 396 = .ok (.bipush 8, 2) := by decide +kernel
theorem dX9_tries_398 : decode cX9_tries 398 = .ok (.iadd, 1) := by decide +kernel
theorem dX9_tries_399 : decode cX9_tries 399 = .ok (.aload_n 0, 1) := by decide +kernel
theorem dX9_tries_400 : decode cX9_tries 400 = .ok (.getfield 172, 3) := by decide +kernel
theorem dX9_tries_403 : decode cX9_tries 403 = .ok (.iastore, 1) := by decide +kernel
theorem dX9_tries_404 : decode cX9_tries 404 = .ok (.iinc 2 1, 3) := by decide +kernel
theorem dX9_tries_407 : decode cX9_tries 407 = .ok (.goto (-326), 3) := by decide +kernel
theorem dX9_tries_410 : decode cX9_tries 410 = .ok (.return_, 1) := by decide +kernel
theorem dX9_at_0 : decode cX9_at 0 = .ok (.iload_n 1, 1) := by decide +kernel
theorem dX9_at_1 : decode cX9_at 1 = .ok (.i2l, 1) := by decide +kernel
theorem dX9_at_2 : decode cX9_at 2 = .ok (.lconst 0, 1) := by decide +kernel
theorem dX9_at_3 : decode cX9_at 3 = .ok (.ldc2_w 89, 3) := by decide +kernel
theorem dX9_at_6 : decode cX9_at 6 = .ok (.invokestatic 71, 3) := by decide +kernel
theorem dX9_at_9 : decode cX9_at 9 = .ok (.ifCond .eq 15, 3) := by decide +kernel
theorem dX9_at_12 : decode cX9_at 12 = .ok (.iload_n 2, 1) := by decide +kernel
theorem dX9_at_13 : decode cX9_at 13 = .ok (.i2l, 1) := by decide +kernel
theorem dX9_at_14 : decode cX9_at 14 = .ok (.lconst 0, 1) := by decide +kernel
theorem dX9_at_15 : decode cX9_at 15 = .ok (.ldc2_w 107, 3) := by decide +kernel
theorem dX9_at_18 : decode cX9_at 18 = .ok (.invokestatic 71, 3) := by decide +kernel
theorem dX9_at_21 : decode cX9_at 21 = .ok (.ifCond .ne 6, 3) := by decide +kernel
theorem dX9_at_24 : decode cX9_at 24 = .ok (.ldc 99, 2) := by decide +kernel
theorem dX9_at_26 : decode cX9_at 26 = .ok (.ireturn, 1) := by decide +kernel
theorem dX9_at_27 : decode cX9_at 27 = .ok (.aload_n 0, 1) := by decide +kernel
theorem dX9_at_28 : decode cX9_at 28 = .ok (.invokevirtual 222, 3) := by decide +kernel
theorem dX9_at_31 : decode cX9_at 31 = .ok (.aload_n 0, 1) := by decide +kernel
theorem dX9_at_32 : decode cX9_at 32 = .ok (.getfield 28, 3) := by decide +kernel
theorem dX9_at_35 : decode cX9_at 35 = .ok (.bipush 9, 2) := by decide +kernel
theorem dX9_at_37 : decode cX9_at 37 = .ok (.iload_n 1, 1) := by decide +kernel
theorem dX9_at_38 : decode cX9_at 38 = .ok (.imul, 1) := by decide +kernel
theorem dX9_at_39 : decode cX9_at 39 = .ok (.iload_n 2, 1) := by decide +kernel
theorem dX9_at_40 : decode cX9_at 40 = .ok (.iadd, 1) := by decide +kernel
theorem dX9_at_41 : decode cX9_at 41 = .ok (.iaload, 1) := by decide +kernel
theorem dX9_at_42 : decode cX9_at 42 = .ok (.ireturn, 1) := by decide +kernel
theorem dX9_end_0 : decode cX9_end 0 = .ok (.iload_n 1, 1) := by decide +kernel
theorem dX9_end_1 : decode cX9_end 1 = .ok (.i2l, 1) := by decide +kernel
theorem dX9_end_2 : decode cX9_end 2 = .ok (.lconst 0, 1) := by decide +kernel
theorem dX9_end_3 : decode cX9_end 3 = .ok (.ldc2_w 225, 3) := by decide +kernel
theorem dX9_end_6 : decode cX9_end 6 = .ok (.invokestatic 71, 3) := by decide +kernel
theorem dX9_end_9 : decode cX9_end 9 = .ok (.ifCond .ne 5, 3) := by decide +kernel
theorem dX9_end_12 : decode cX9_end 12 = .ok (.iconst (-1), 1) := by decide +kernel
theorem dX9_end_13 : decode cX9_end 13 = .ok (.ireturn, 1) := by decide +kernel
theorem dX9_end_14 : decode cX9_end 14 = .ok (.aload_n 0, 1) := by decide +kernel
theorem dX9_end_15 : decode cX9_end 15 = .ok (.invokevirtual 222, 3) := by decide +kernel
theorem dX9_end_18 : decode cX9_end 18 = .ok (.iload_n 1, 1) := by decide +kernel
theorem dX9_end_19 : decode cX9_end 19 = .ok (.ifCond .ne 10, 3) := by decide +kernel
theorem dX9_end_22 : decode cX9_end 22 = .ok (.aload_n 0, 1) := by decide +kernel
theorem dX9_end_23 : decode cX9_end 23 = .ok (.getfield 200, 3) := by decide +kernel
theorem dX9_end_26 : decode cX9_end 26 = .ok (.goto 31, 3) := by decide +kernel
theorem dX9_end_29 : decode cX9_end 29 = .ok (.iload_n 1, 1) := by decide +kernel
theorem dX9_end_30 : decode cX9_end 30 = .ok (.iconst 1, 1) := by decide +kernel
theorem dX9_end_31 : decode cX9_end 31 = .ok (.if_icmp .ne 10, 3) := by decide +kernel
theorem dX9_end_34 : decode cX9_end 34 = .ok (.aload_n 0, 1) := by decide +kernel
theorem dX9_end_35 : decode cX9_end 35 = .ok (.getfield 203, 3) := by decide +kernel
theorem dX9_end_38 : decode cX9_end 38 = .ok (.goto 19, 3) := by decide +kernel
theorem dX9_end_41 : decode cX9_end 41 = .ok (.iload_n 1, 1) := by decide +kernel
theorem dX9_end_42 : decode cX9_end 42 = .ok (.iconst 2, 1) := by decide +kernel
theorem dX9_end_43 : decode cX9_end 43 = .ok (.if_icmp .ne 10, 3) := by decide +kernel
theorem dX9_end_46 : decode cX9_end 46 = .ok (.aload_n 0, 1) := by decide +kernel
theorem dX9_end_47 : decode cX9_end 47 = .ok (.getfield 206, 3) := by decide +kernel
theorem dX9_end_50 : decode cX9_end 50 = .ok (.goto 7, 3) := by decide +kernel
theorem dX9_end_53 : decode cX9_end 53 = .ok (.aload_n 0, 1) := by decide +kernel
theorem dX9_end_54 : decode cX9_end 54 = .ok (.getfield 191, 3) := by decide +kernel
theorem dX9_end_57 : decode cX9_end 57 = .ok (.ireturn, 1) := by decide +kernel
theorem dX9_endBy_0 : decode cX9_endBy 0 = .ok (.aload_n 0, 1) := by decide +kernel
theorem dX9_endBy_1 : decode cX9_endBy 1 = .ok (.getfield 16, 3) := by decide +kernel
theorem dX9_endBy_4 : decode cX9_endBy 4 = .ok (.iconst 1, 1) := by decide +kernel
theorem dX9_endBy_5 : decode cX9_endBy 5 = .ok (.iaload, 1) := by decide +kernel
theorem dX9_endBy_6 : decode cX9_endBy 6 = .ok (.istore_n 3, 1) := by decide +kernel
theorem dX9_endBy_7 : decode cX9_endBy 7 = .ok (.aload_n 0, 1) := by decide +kernel
theorem dX9_endBy_8 : decode cX9_endBy 8 = .ok (.getfield 16, 3) := by decide +kernel
theorem dX9_endBy_11 : decode cX9_endBy 11 = .ok (.iconst 2, 1) := by decide +kernel
theorem dX9_endBy_12 : decode cX9_endBy 12 = .ok (.iaload, 1) := by decide +kernel
theorem dX9_endBy_13 : decode cX9_endBy 13 = .ok (.istore 4, 2) := by decide +kernel
theorem dX9_endBy_15 : decode cX9_endBy 15 = .ok (.aload_n 0, 1) := by decide +kernel
theorem dX9_endBy_16 : decode cX9_endBy 16 = .ok (.getfield 16, 3) := by decide +kernel
theorem dX9_endBy_19 : decode cX9_endBy 19 = .ok (.iconst 1, 1) := by decide +kernel
theorem dX9_endBy_20 : decode cX9_endBy 20 = .ok (.iload_n 1, 1) := by decide +kernel
theorem dX9_endBy_21 : decode cX9_endBy 21 = .ok (.iastore, 1) := by decide +kernel
theorem dX9_endBy_22 : decode cX9_endBy 22 = .ok (.aload_n 0, 1) := by decide +kernel
theorem dX9_endBy_23 : decode cX9_endBy 23 = .ok (.getfield 16, 3) := by decide +kernel
theorem dX9_endBy_26 : decode cX9_endBy 26 = .ok (.iconst 2, 1) := by decide +kernel
theorem dX9_endBy_27 : decode cX9_endBy 27 = .ok (.iload_n 2, 1) := by decide +kernel
theorem dX9_endBy_28 : decode cX9_endBy 28 = .ok (.iastore, 1) := by decide +kernel
theorem dX9_endBy_29 : decode cX9_endBy 29 = .ok (.aload_n 0, 1) := by decide +kernel
theorem dX9_endBy_30 : decode cX9_endBy 30 = .ok (.invokevirtual 222, 3) := by decide +kernel
theorem dX9_endBy_33 : decode cX9_endBy 33 = .ok (.aload_n 0, 1) := by decide +kernel
theorem dX9_endBy_34 : decode cX9_endBy 34 = .ok (.getfield 16, 3) := by decide +kernel
theorem dX9_endBy_37 : decode cX9_endBy 37 = .ok (.iconst 1, 1) := by decide +kernel
theorem dX9_endBy_38 : decode cX9_endBy 38 = .ok (.iload_n 3, 1) := by decide +kernel
theorem dX9_endBy_39 : decode cX9_endBy 39 = .ok (.iastore, 1) := by decide +kernel
theorem dX9_endBy_40 : decode cX9_endBy 40 = .ok (.aload_n 0, 1) := by decide +kernel
theorem dX9_endBy_41 : decode cX9_endBy 41 = .ok (.getfield 16, 3) := by decide +kernel
theorem dX9_endBy_44 : decode cX9_endBy 44 = .ok (.iconst 2, 1) := by decide +kernel
theorem dX9_endBy_45 : decode cX9_endBy 45 = .ok (.iload 4, 2) := by decide +kernel
theorem dX9_endBy_47 : decode cX9_endBy 47 = .ok (.iastore, 1) := by decide +kernel
theorem dX9_endBy_48 : decode cX9_endBy 48 = .ok (.aload_n 0, 1) := by decide +kernel
theorem dX9_endBy_49 : decode cX9_endBy 49 = .ok (.getfield 200, 3) := by decide +kernel
theorem dX9_endBy_52 : decode cX9_endBy 52 = .ok (.ireturn, 1) := by decide +kernel
theorem dX9_grid_0 : decode cX9_grid 0 = .ok (.iconst 0, 1) := by decide +kernel
theorem dX9_grid_1 : decode cX9_grid 1 = .ok (.istore_n 1, 1) := by decide +kernel
theorem dX9_grid_2 : decode cX9_grid 2 = .ok (.iload_n 1, 1) := by decide +kernel
theorem dX9_grid_3 : decode cX9_grid 3 = .ok (.bipush 90, 2) := by decide +kernel
theorem dX9_grid_5 : decode cX9_grid 5 = .ok (.if_icmp .ge 29, 3) := by decide +kernel
theorem dX9_grid_8 : decode cX9_grid 8 = .ok (.aload_n 0, 1) := by decide +kernel
theorem dX9_grid_9 : decode cX9_grid 9 = .ok (.getfield 41, 3) := by decide +kernel
theorem dX9_grid_12 : decode cX9_grid 12 = .ok (.iload_n 1, 1) := by decide +kernel
theorem dX9_grid_13 : decode cX9_grid 13 = .ok (.aload_n 0, 1) := by decide +kernel
theorem dX9_grid_14 : decode cX9_grid 14 = .ok (.iload_n 1, 1) := by decide +kernel
theorem dX9_grid_15 : decode cX9_grid 15 = .ok (.bipush 10, 2) := by decide +kernel
theorem dX9_grid_17 : decode cX9_grid 17 = .ok (.idiv, 1) := by decide +kernel
theorem dX9_grid_18 : decode cX9_grid 18 = .ok (.iconst 4, 1) := by decide +kernel
theorem dX9_grid_19 : decode cX9_grid 19 = .ok (.isub, 1) := by decide +kernel
theorem dX9_grid_20 : decode cX9_grid 20 = .ok (.iload_n 1, 1) := by decide +kernel
theorem dX9_grid_21 : decode cX9_grid 21 = .ok (.bipush 10, 2) := by decide +kernel
theorem dX9_grid_23 : decode cX9_grid 23 = .ok (.irem, 1) := by decide +kernel
theorem dX9_grid_24 : decode cX9_grid 24 = .ok (.invokevirtual 227, 3) := by decide +kernel
theorem dX9_grid_27 : decode cX9_grid 27 = .ok (.iastore, 1) := by decide +kernel
theorem dX9_grid_28 : decode cX9_grid 28 = .ok (.iinc 1 1, 3) := by decide +kernel
theorem dX9_grid_31 : decode cX9_grid 31 = .ok (.goto (-29), 3) := by decide +kernel
theorem dX9_grid_34 : decode cX9_grid 34 = .ok (.return_, 1) := by decide +kernel
theorem dX9_ends_0 : decode cX9_ends 0 = .ok (.iload_n 1, 1) := by decide +kernel
theorem dX9_ends_1 : decode cX9_ends 1 = .ok (.i2l, 1) := by decide +kernel
theorem dX9_ends_2 : decode cX9_ends 2 = .ok (.ldc2_w 230, 3) := by decide +kernel
theorem dX9_ends_5 : decode cX9_ends 5 = .ok (.ldc2_w 81, 3) := by decide +kernel
theorem dX9_ends_8 : decode cX9_ends 8 = .ok (.invokestatic 71, 3) := by decide +kernel
theorem dX9_ends_11 : decode cX9_ends 11 = .ok (.ifCond .eq 15, 3) := by decide +kernel
theorem dX9_ends_14 : decode cX9_ends 14 = .ok (.iload_n 2, 1) := by decide +kernel
theorem dX9_ends_15 : decode cX9_ends 15 = .ok (.i2l, 1) := by decide +kernel
theorem dX9_ends_16 : decode cX9_ends 16 = .ok (.lconst 0, 1) := by decide +kernel
theorem dX9_ends_17 : decode cX9_ends 17 = .ok (.ldc2_w 87, 3) := by decide +kernel
theorem dX9_ends_20 : decode cX9_ends 20 = .ok (.invokestatic 71, 3) := by decide +kernel
theorem dX9_ends_23 : decode cX9_ends 23 = .ok (.ifCond .ne 5, 3) := by decide +kernel
theorem dX9_ends_26 : decode cX9_ends 26 = .ok (.iconst (-1), 1) := by decide +kernel
theorem dX9_ends_27 : decode cX9_ends 27 = .ok (.ireturn, 1) := by decide +kernel
theorem dX9_ends_28 : decode cX9_ends 28 = .ok (.aload_n 0, 1) := by decide +kernel
theorem dX9_ends_29 : decode cX9_ends 29 = .ok (.getfield 100, 3) := by decide +kernel
theorem dX9_ends_32 : decode cX9_ends 32 = .ok (.ifCond .ne 8, 3) := by decide +kernel
theorem dX9_ends_35 : decode cX9_ends 35 = .ok (.bipush (-2), 2) := by decide +kernel
theorem dX9_ends_37 : decode cX9_ends 37 = .ok (.goto 9, 3) := by decide +kernel
theorem dX9_ends_40 : decode cX9_ends 40 = .ok (.aload_n 0, 1) := by decide +kernel
theorem dX9_ends_41 : decode cX9_ends 41 = .ok (.iload_n 1, 1) := by decide +kernel
theorem dX9_ends_42 : decode cX9_ends 42 = .ok (.iload_n 2, 1) := by decide +kernel
theorem dX9_ends_43 : decode cX9_ends 43 = .ok (.invokevirtual 227, 3) := by decide +kernel
theorem dX9_ends_46 : decode cX9_ends 46 = .ok (.ireturn, 1) := by decide +kernel
theorem dX9_groups_0 : decode cX9_groups 0 = .ok (.iconst 0, 1) := by decide +kernel
theorem dX9_groups_1 : decode cX9_groups 1 = .ok (.istore_n 2, 1) := by decide +kernel
theorem dX9_groups_2 : decode cX9_groups 2 = .ok (.iload_n 2, 1) := by decide +kernel
theorem dX9_groups_3 : decode cX9_groups 3 = .ok (.bipush 90, 2) := by decide +kernel
theorem dX9_groups_5 : decode cX9_groups 5 = .ok (.if_icmp .ge 31, 3) := by decide +kernel
theorem dX9_groups_8 : decode cX9_groups 8 = .ok (.aload_n 0, 1) := by decide +kernel
theorem dX9_groups_9 : decode cX9_groups 9 = .ok (.getfield 47, 3) := by decide +kernel
theorem dX9_groups_12 : decode cX9_groups 12 = .ok (.iload_n 2, 1) := by decide +kernel
theorem dX9_groups_13 : decode cX9_groups 13 = .ok (.aload_n 0, 1) := by decide +kernel
theorem dX9_groups_14 : decode cX9_groups 14 = .ok (.getfield 41, 3) := by decide +kernel
theorem dX9_groups_17 : decode cX9_groups 17 = .ok (.iload_n 2, 1) := by decide +kernel
theorem dX9_groups_18 : decode cX9_groups 18 = .ok (.iaload, 1) := by decide +kernel
theorem dX9_groups_19 : decode cX9_groups 19 = .ok (.iload_n 1, 1) := by decide +kernel
theorem dX9_groups_20 : decode cX9_groups 20 = .ok (.if_icmp .ne 7, 3) := by decide +kernel
theorem dX9_groups_23 : decode cX9_groups 23 = .ok (.iload_n 2, 1) := by decide +kernel
theorem dX9_groups_24 : decode cX9_groups 24 = .ok (.goto 5, 3) := by decide +kernel
theorem dX9_groups_27 : decode cX9_groups 27 = .ok (.bipush (-4), 2) := by decide +kernel
theorem dX9_groups_29 : decode cX9_groups 29 = .ok (.iastore, 1) := by decide +kernel
theorem dX9_groups_30 : decode cX9_groups 30 = .ok (.iinc 2 1, 3) := by decide +kernel
theorem dX9_groups_33 : decode cX9_groups 33 = .ok (.goto (-31), 3) := by decide +kernel
theorem dX9_groups_36 : decode cX9_groups 36 = .ok (.iconst 1, 1) := by decide +kernel
theorem dX9_groups_37 : decode cX9_groups 37 = .ok (.istore_n 2, 1) := by decide +kernel
theorem dX9_groups_38 : decode cX9_groups 38 = .ok (.iload_n 2, 1) := by decide +kernel
theorem dX9_groups_39 : decode cX9_groups 39 = .ok (.ifCond .eq 249, 3) := by decide +kernel
theorem dX9_groups_42 : decode cX9_groups 42 = .ok (.iconst 0, 1) := by decide +kernel
theorem dX9_groups_43 : decode cX9_groups 43 = .ok (.istore_n 2, 1) := by decide +kernel
theorem dX9_groups_44 : decode cX9_groups 44 = .ok (.iconst 0, 1) := by decide +kernel
theorem dX9_groups_45 : decode cX9_groups 45 = .ok (.istore_n 3, 1) := by decide +kernel
theorem dX9_groups_46 : decode cX9_groups 46 = .ok (.iload_n 3, 1) := by decide +kernel
theorem dX9_groups_47 : decode cX9_groups 47 = .ok (.bipush 90, 2) := by decide +kernel
theorem dX9_groups_49 : decode cX9_groups 49 = .ok (.if_icmp .ge 236, 3) := by decide +kernel
theorem dX9_groups_52 : decode cX9_groups 52 = .ok (.aload_n 0, 1) := by decide +kernel
theorem dX9_groups_53 : decode cX9_groups 53 = .ok (.getfield 47, 3) := by decide +kernel
theorem dX9_groups_56 : decode cX9_groups 56 = .ok (.iload_n 3, 1) := by decide +kernel
theorem dX9_groups_57 : decode cX9_groups 57 = .ok (.iaload, 1) := by decide +kernel
theorem dX9_groups_58 : decode cX9_groups 58 = .ok (.istore 4, 2) := by decide +kernel
theorem dX9_groups_60 : decode cX9_groups 60 = .ok (.iload_n 3, 1) := by decide +kernel
theorem dX9_groups_61 : decode cX9_groups 61 = .ok (.bipush 9, 2) := by decide +kernel
theorem dX9_groups_63 : decode cX9_groups 63 = .ok (.if_icmp .le 41, 3) := by decide +kernel
theorem dX9_groups_66 : decode cX9_groups 66 = .ok (.aload_n 0, 1) := by decide +kernel
theorem dX9_groups_67 : decode cX9_groups 67 = .ok (.getfield 47, 3) := by decide +kernel
theorem dX9_groups_70 : decode cX9_groups 70 = .ok (.iload_n 3, 1) := by decide +kernel
theorem dX9_groups_71 : decode cX9_groups 71 = .ok (.bipush 10, 2) := by decide +kernel
theorem dX9_groups_73 : decode cX9_groups 73 = .ok (.isub, 1) := by decide +kernel
theorem dX9_groups_74 : decode cX9_groups 74 = .ok (.iaload, 1) := by decide +kernel
theorem dX9_groups_75 : decode cX9_groups 75 = .ok (.ifCond .lt 29, 3) := by decide +kernel
theorem dX9_groups_78 : decode cX9_groups 78 = .ok (.aload_n 0, 1) := by decide +kernel
theorem dX9_groups_79 : decode cX9_groups 79 = .ok (.getfield 47, 3) := by decide +kernel
theorem dX9_groups_82 : decode cX9_groups 82 = .ok (.iload_n 3, 1) := by decide +kernel
theorem dX9_groups_83 : decode cX9_groups 83 = .ok (.bipush 10, 2) := by decide +kernel
theorem dX9_groups_85 : decode cX9_groups 85 = .ok (.isub, 1) := by decide +kernel
theorem dX9_groups_86 : decode cX9_groups 86 = .ok (.iaload, 1) := by decide +kernel
theorem dX9_groups_87 : decode cX9_groups 87 = .ok (.iload 4, 2) := by decide +kernel
theorem dX9_groups_89 : decode cX9_groups 89 = .ok (.if_icmp .ge 15, 3) := by decide +kernel
theorem dX9_groups_92 : decode cX9_groups 92 = .ok (.aload_n 0, 1) := by decide +kernel
theorem dX9_groups_93 : decode cX9_groups 93 = .ok (.getfield 47, 3) := by decide +kernel
theorem dX9_groups_96 : decode cX9_groups 96 = .ok (.iload_n 3, 1) := by decide +kernel
theorem dX9_groups_97 : decode cX9_groups 97 = .ok (.bipush 10, 2) := by decide +kernel
theorem dX9_groups_99 : decode cX9_groups 99 = .ok (.isub, 1) := by decide +kernel
theorem dX9_groups_100 : decode cX9_groups 100 = .ok (.iaload, 1) := by decide +kernel
theorem dX9_groups_101 : decode cX9_groups 101 = .ok (.goto 5, 3) := by decide +kernel
theorem dX9_groups_104 : decode cX9_groups 104 = .ok (.iload 4, 2) := by decide +kernel
theorem dX9_groups_106 : decode cX9_groups 106 = .ok (.istore 4, 2) := by decide +kernel
theorem dX9_groups_108 : decode cX9_groups 108 = .ok (.iload_n 3, 1) := by decide +kernel
theorem dX9_groups_109 : decode cX9_groups 109 = .ok (.bipush 80, 2) := by decide +kernel
theorem dX9_groups_111 : decode cX9_groups 111 = .ok (.if_icmp .ge 41, 3) := by decide +kernel
theorem dX9_groups_114 : decode cX9_groups 114 = .ok (.aload_n 0, 1) := by decide +kernel
theorem dX9_groups_115 : decode cX9_groups 115 = .ok (.getfield 47, 3) := by decide +kernel
theorem dX9_groups_118 : decode cX9_groups 118 = .ok (.iload_n 3, 1) := by decide +kernel
theorem dX9_groups_119 : decode cX9_groups 119 = .ok (.bipush 10, 2) := by decide +kernel
theorem dX9_groups_121 : decode cX9_groups 121 = .ok (.iadd, 1) := by decide +kernel
theorem dX9_groups_122 : decode cX9_groups 122 = .ok (.iaload, 1) := by decide +kernel
theorem dX9_groups_123 : decode cX9_groups 123 = .ok (.ifCond .lt 29, 3) := by decide +kernel
theorem dX9_groups_126 : decode cX9_groups 126 = .ok (.aload_n 0, 1) := by decide +kernel
theorem dX9_groups_127 : decode cX9_groups 127 = .ok (.getfield 47, 3) := by decide +kernel
theorem dX9_groups_130 : decode cX9_groups 130 = .ok (.iload_n 3, 1) := by decide +kernel
theorem dX9_groups_131 : decode cX9_groups 131 = .ok (.bipush 10, 2) := by decide +kernel
theorem dX9_groups_133 : decode cX9_groups 133 = .ok (.iadd, 1) := by decide +kernel
theorem dX9_groups_134 : decode cX9_groups 134 = .ok (.iaload, 1) := by decide +kernel
theorem dX9_groups_135 : decode cX9_groups 135 = .ok (.iload 4, 2) := by decide +kernel
theorem dX9_groups_137 : decode cX9_groups 137 = .ok (.if_icmp .ge 15, 3) := by decide +kernel
theorem dX9_groups_140 : decode cX9_groups 140 = .ok (.aload_n 0, 1) := by decide +kernel
theorem dX9_groups_141 : decode cX9_groups 141 = .ok (.getfield 47, 3) := by decide +kernel
theorem dX9_groups_144 : decode cX9_groups 144 = .ok (.iload_n 3, 1) := by decide +kernel
theorem dX9_groups_145 : decode cX9_groups 145 = .ok (.bipush 10, 2) := by decide +kernel
theorem dX9_groups_147 : decode cX9_groups 147 = .ok (.iadd, 1) := by decide +kernel
theorem dX9_groups_148 : decode cX9_groups 148 = .ok (.iaload, 1) := by decide +kernel
theorem dX9_groups_149 : decode cX9_groups 149 = .ok (.goto 5, 3) := by decide +kernel
theorem dX9_groups_152 : decode cX9_groups 152 = .ok (.iload 4, 2) := by decide +kernel
theorem dX9_groups_154 : decode cX9_groups 154 = .ok (.istore 4, 2) := by decide +kernel
theorem dX9_groups_156 : decode cX9_groups 156 = .ok (.iload_n 3, 1) := by decide +kernel
theorem dX9_groups_157 : decode cX9_groups 157 = .ok (.bipush 10, 2) := by decide +kernel
theorem dX9_groups_159 : decode cX9_groups 159 = .ok (.irem, 1) := by decide +kernel
theorem dX9_groups_160 : decode cX9_groups 160 = .ok (.ifCond .le 38, 3) := by decide +kernel
theorem dX9_groups_163 : decode cX9_groups 163 = .ok (.aload_n 0, 1) := by decide +kernel
theorem dX9_groups_164 : decode cX9_groups 164 = .ok (.getfield 47, 3) := by decide +kernel
theorem dX9_groups_167 : decode cX9_groups 167 = .ok (.iload_n 3, 1) := by decide +kernel
theorem dX9_groups_168 : decode cX9_groups 168 = .ok (.iconst 1, 1) := by decide +kernel
end
section
theorem dX9_groups_169 : decode cX9_groups 169 = .ok (.isub, 1) := by decide +kernel
theorem dX9_groups_170 : decode cX9_groups 170 = .ok (.iaload, 1) := by decide +kernel
theorem dX9_groups_171 : decode cX9_groups 171 = .ok (.ifCond .lt 27, 3) := by decide +kernel
theorem dX9_groups_174 : decode cX9_groups 174 = .ok (.aload_n 0, 1) := by decide +kernel
theorem dX9_groups_175 : decode cX9_groups 175 = .ok (.getfield 47, 3) := by decide +kernel
theorem dX9_groups_178 : decode cX9_groups 178 = .ok (.iload_n 3, 1) := by decide +kernel
theorem dX9_groups_179 : decode cX9_groups 179 = .ok (.iconst 1, 1) := by decide +kernel
theorem dX9_groups_180 : decode cX9_groups 180 = .ok (.isub, 1) := by decide +kernel
theorem dX9_groups_181 : decode cX9_groups 181 = .ok (.iaload, 1) := by decide +kernel
theorem dX9_groups_182 : decode cX9_groups 182 = .ok (.iload 4, 2) := by decide +kernel
theorem dX9_groups_184 : decode cX9_groups 184 = .ok (.if_icmp .ge 14, 3) := by decide +kernel
theorem dX9_groups_187 : decode cX9_groups 187 = .ok (.aload_n 0, 1) := by decide +kernel
theorem dX9_groups_188 : decode cX9_groups 188 = .ok (.getfield 47, 3) := by decide +kernel
theorem dX9_groups_191 : decode cX9_groups 191 = .ok (.iload_n 3, 1) := by decide +kernel
theorem dX9_groups_192 : decode cX9_groups 192 = .ok (.iconst 1, 1) := by decide +kernel
theorem dX9_groups_193 : decode cX9_groups 193 = .ok (.isub, 1) := by decide +kernel
theorem dX9_groups_194 : decode cX9_groups 194 = .ok (.iaload, 1) := by decide +kernel
theorem dX9_groups_195 : decode cX9_groups 195 = .ok (.goto 5, 3) := by decide +kernel
theorem dX9_groups_198 : decode cX9_groups 198 = .ok (.iload 4, 2) := by decide +kernel
theorem dX9_groups_200 : decode cX9_groups 200 = .ok (.istore 4, 2) := by decide +kernel
theorem dX9_groups_202 : decode cX9_groups 202 = .ok (.iload_n 3, 1) := by decide +kernel
theorem dX9_groups_203 : decode cX9_groups 203 = .ok (.bipush 10, 2) := by decide +kernel
theorem dX9_groups_205 : decode cX9_groups 205 = .ok (.irem, 1) := by decide +kernel
theorem dX9_groups_206 : decode cX9_groups 206 = .ok (.bipush 9, 2) := by decide +kernel
theorem dX9_groups_208 : decode cX9_groups 208 = .ok (.if_icmp .ge 38, 3) := by decide +kernel
theorem dX9_groups_211 : decode cX9_groups 211 = .ok (.aload_n 0, 1) := by decide +kernel
theorem dX9_groups_212 : decode cX9_groups 212 = .ok (.getfield 47, 3) := by decide +kernel
theorem dX9_groups_215 : decode cX9_groups 215 = .ok (.iload_n 3, 1) := by decide +kernel
theorem dX9_groups_216 : decode cX9_groups 216 = .ok (.iconst 1, 1) := by decide +kernel
theorem dX9_groups_217 : decode cX9_groups 217 = .ok (.iadd, 1) := by decide +kernel
theorem dX9_groups_218 : decode cX9_groups 218 = .ok (.iaload, 1) := by decide +kernel
theorem dX9_groups_219 : decode cX9_groups 219 = .ok (.ifCond .lt 27, 3) := by decide +kernel
theorem dX9_groups_222 : decode cX9_groups 222 = .ok (.aload_n 0, 1) := by decide +kernel
theorem dX9_groups_223 : decode cX9_groups 223 = .ok (.getfield 47, 3) := by decide +kernel
theorem dX9_groups_226 : decode cX9_groups 226 = .ok (.iload_n 3, 1) := by decide +kernel
theorem dX9_groups_227 : decode cX9_groups 227 = .ok (.iconst 1, 1) := by decide +kernel
theorem dX9_groups_228 : decode cX9_groups 228 = .ok (.iadd, 1) := by decide +kernel
theorem dX9_groups_229 : decode cX9_groups 229 = .ok (.iaload, 1) := by decide +kernel
theorem dX9_groups_230 : decode cX9_groups 230 = .ok (.iload 4, 2) := by decide +kernel
theorem dX9_groups_232 : decode cX9_groups 232 = .ok (.if_icmp .ge 14, 3) := by decide +kernel
theorem dX9_groups_235 : decode cX9_groups 235 = .ok (.aload_n 0, 1) := by decide +kernel
theorem dX9_groups_236 : decode cX9_groups 236 = .ok (.getfield 47, 3) := by decide +kernel
theorem dX9_groups_239 : decode cX9_groups 239 = .ok (.iload_n 3, 1) := by decide +kernel
theorem dX9_groups_240 : decode cX9_groups 240 = .ok (.iconst 1, 1) := by decide +kernel
theorem dX9_groups_241 : decode cX9_groups 241 = .ok (.iadd, 1) := by decide +kernel
theorem dX9_groups_242 : decode cX9_groups 242 = .ok (.iaload, 1) := by decide +kernel
theorem dX9_groups_243 : decode cX9_groups 243 = .ok (.goto 5, 3) := by decide +kernel
theorem dX9_groups_246 : decode cX9_groups 246 = .ok (.iload 4, 2) := by decide +kernel
theorem dX9_groups_248 : decode cX9_groups 248 = .ok (.istore 4, 2) := by decide +kernel
theorem dX9_groups_250 : decode cX9_groups 250 = .ok (.iload_n 2, 1) := by decide +kernel
theorem dX9_groups_251 : decode cX9_groups 251 = .ok (.ifCond .ne 14, 3) := by decide +kernel
theorem dX9_groups_254 : decode cX9_groups 254 = .ok (.iload 4, 2) := by decide +kernel
theorem dX9_groups_256 : decode cX9_groups 256 = .ok (.aload_n 0, 1) := by decide +kernel
theorem dX9_groups_257 : decode cX9_groups 257 = .ok (.getfield 47, 3) := by decide +kernel
theorem dX9_groups_260 : decode cX9_groups 260 = .ok (.iload_n 3, 1) := by decide +kernel
theorem dX9_groups_261 : decode cX9_groups 261 = .ok (.iaload, 1) := by decide +kernel
theorem dX9_groups_262 : decode cX9_groups 262 = .ok (.if_icmp .ge 7, 3) := by decide +kernel
theorem dX9_groups_265 : decode cX9_groups 265 = .ok (.iconst 1, 1) := by decide +kernel
theorem dX9_groups_266 : decode cX9_groups 266 = .ok (.goto 4, 3) := by decide +kernel
theorem dX9_groups_269 : decode cX9_groups 269 = .ok (.iconst 0, 1) := by decide +kernel
theorem dX9_groups_270 : decode cX9_groups 270 = .ok (.istore_n 2, 1) := by decide +kernel
theorem dX9_groups_271 : decode cX9_groups 271 = .ok (.aload_n 0, 1) := by decide +kernel
theorem dX9_groups_272 : decode cX9_groups 272 = .ok (.getfield 47, 3) := by decide +kernel
theorem dX9_groups_275 : decode cX9_groups 275 = .ok (.iload_n 3, 1) := by decide +kernel
theorem dX9_groups_276 : decode cX9_groups 276 = .ok (.iload 4, 2) := by decide +kernel
theorem dX9_groups_278 : decode cX9_groups 278 = .ok (.iastore, 1) := by decide +kernel
theorem dX9_groups_279 : decode cX9_groups 279 = .ok (.iinc 3 1, 3) := by decide +kernel
theorem dX9_groups_282 : decode cX9_groups 282 = .ok (.goto (-236), 3) := by decide +kernel
theorem dX9_groups_285 : decode cX9_groups 285 = .ok (.goto (-247), 3) := by decide +kernel
theorem dX9_groups_288 : decode cX9_groups 288 = .ok (.return_, 1) := by decide +kernel
theorem dX9_cells_0 : decode cX9_cells 0 = .ok (.aload_n 0, 1) := by decide +kernel
theorem dX9_cells_1 : decode cX9_cells 1 = .ok (.iload_n 1, 1) := by decide +kernel
theorem dX9_cells_2 : decode cX9_cells 2 = .ok (.invokevirtual 95, 3) := by decide +kernel
theorem dX9_cells_5 : decode cX9_cells 5 = .ok (.ifCond .eq 15, 3) := by decide +kernel
theorem dX9_cells_8 : decode cX9_cells 8 = .ok (.iload_n 2, 1) := by decide +kernel
theorem dX9_cells_9 : decode cX9_cells 9 = .ok (.i2l, 1) := by decide +kernel
theorem dX9_cells_10 : decode cX9_cells 10 = .ok (.lconst 0, 1) := by decide +kernel
theorem dX9_cells_11 : decode cX9_cells 11 = .ok (.ldc2_w 75, 3) := by decide +kernel
theorem dX9_cells_14 : decode cX9_cells 14 = .ok (.invokestatic 71, 3) := by decide +kernel
theorem dX9_cells_17 : decode cX9_cells 17 = .ok (.ifCond .ne 5, 3) := by decide +kernel
theorem dX9_cells_20 : decode cX9_cells 20 = .ok (.iconst (-1), 1) := by decide +kernel
theorem dX9_cells_21 : decode cX9_cells 21 = .ok (.ireturn, 1) := by decide +kernel
theorem dX9_cells_22 : decode cX9_cells 22 = .ok (.aload_n 0, 1) := by decide +kernel
theorem dX9_cells_23 : decode cX9_cells 23 = .ok (.getfield 100, 3) := by decide +kernel
theorem dX9_cells_26 : decode cX9_cells 26 = .ok (.ifCond .ne 6, 3) := by decide +kernel
theorem dX9_cells_29 : decode cX9_cells 29 = .ok (.bipush (-2), 2) := by decide +kernel
theorem dX9_cells_31 : decode cX9_cells 31 = .ok (.ireturn, 1) := by decide +kernel
theorem dX9_cells_32 : decode cX9_cells 32 = .ok (.aload_n 0, 1) := by decide +kernel
theorem dX9_cells_33 : decode cX9_cells 33 = .ok (.invokevirtual 232, 3) := by decide +kernel
theorem dX9_cells_36 : decode cX9_cells 36 = .ok (.aload_n 0, 1) := by decide +kernel
theorem dX9_cells_37 : decode cX9_cells 37 = .ok (.iload_n 1, 1) := by decide +kernel
theorem dX9_cells_38 : decode cX9_cells 38 = .ok (.invokevirtual 235, 3) := by decide +kernel
theorem dX9_cells_41 : decode cX9_cells 41 = .ok (.iconst 0, 1) := by decide +kernel
theorem dX9_cells_42 : decode cX9_cells 42 = .ok (.istore_n 3, 1) := by decide +kernel
theorem dX9_cells_43 : decode cX9_cells 43 = .ok (.iconst 0, 1) := by decide +kernel
theorem dX9_cells_44 : decode cX9_cells 44 = .ok (.istore 4, 2) := by decide +kernel
theorem dX9_cells_46 : decode cX9_cells 46 = .ok (.iconst 0, 1) := by decide +kernel
theorem dX9_cells_47 : decode cX9_cells 47 = .ok (.istore 5, 2) := by decide +kernel
theorem dX9_cells_49 : decode cX9_cells 49 = .ok (.iconst 0, 1) := by decide +kernel
theorem dX9_cells_50 : decode cX9_cells 50 = .ok (.istore 6, 2) := by decide +kernel
theorem dX9_cells_52 : decode cX9_cells 52 = .ok (.iload 6, 2) := by decide +kernel
theorem dX9_cells_54 : decode cX9_cells 54 = .ok (.bipush 90, 2) := by decide +kernel
theorem dX9_cells_56 : decode cX9_cells 56 = .ok (.if_icmp .ge 86, 3) := by decide +kernel
theorem dX9_cells_59 : decode cX9_cells 59 = .ok (.iconst 0, 1) := by decide +kernel
theorem dX9_cells_60 : decode cX9_cells 60 = .ok (.istore 7, 2) := by decide +kernel
theorem dX9_cells_62 : decode cX9_cells 62 = .ok (.iconst 0, 1) := by decide +kernel
theorem dX9_cells_63 : decode cX9_cells 63 = .ok (.istore 8, 2) := by decide +kernel
theorem dX9_cells_65 : decode cX9_cells 65 = .ok (.iload 8, 2) := by decide +kernel
theorem dX9_cells_67 : decode cX9_cells 67 = .ok (.bipush 90, 2) := by decide +kernel
theorem dX9_cells_69 : decode cX9_cells 69 = .ok (.if_icmp .ge 31, 3) := by decide +kernel
theorem dX9_cells_72 : decode cX9_cells 72 = .ok (.iload 7, 2) := by decide +kernel
theorem dX9_cells_74 : decode cX9_cells 74 = .ok (.aload_n 0, 1) := by decide +kernel
theorem dX9_cells_75 : decode cX9_cells 75 = .ok (.getfield 47, 3) := by decide +kernel
theorem dX9_cells_78 : decode cX9_cells 78 = .ok (.iload 8, 2) := by decide +kernel
theorem dX9_cells_80 : decode cX9_cells 80 = .ok (.iaload, 1) := by decide +kernel
theorem dX9_cells_81 : decode cX9_cells 81 = .ok (.iload 6, 2) := by decide +kernel
theorem dX9_cells_83 : decode cX9_cells 83 = .ok (.if_icmp .ne 7, 3) := by decide +kernel
theorem dX9_cells_86 : decode cX9_cells 86 = .ok (.iconst 1, 1) := by decide +kernel
theorem dX9_cells_87 : decode cX9_cells 87 = .ok (.goto 4, 3) := by decide +kernel
theorem dX9_cells_90 : decode cX9_cells 90 = .ok (.iconst 0, 1) := by decide +kernel
theorem dX9_cells_91 : decode cX9_cells 91 = .ok (.iadd, 1) := by decide +kernel
theorem dX9_cells_92 : decode cX9_cells 92 = .ok (.istore 7, 2) := by decide +kernel
theorem dX9_cells_94 : decode cX9_cells 94 = .ok (.iinc 8 1, 3) := by decide +kernel
theorem dX9_cells_97 : decode cX9_cells 97 = .ok (.goto (-32), 3) := by decide +kernel
theorem dX9_cells_100 : decode cX9_cells 100 = .ok (.iload_n 3, 1) := by decide +kernel
theorem dX9_cells_101 : decode cX9_cells 101 = .ok (.iload 7, 2) := by decide +kernel
theorem dX9_cells_103 : decode cX9_cells 103 = .ok (.iadd, 1) := by decide +kernel
theorem dX9_cells_104 : decode cX9_cells 104 = .ok (.istore_n 3, 1) := by decide +kernel
theorem dX9_cells_105 : decode cX9_cells 105 = .ok (.iload 4, 2) := by decide +kernel
theorem dX9_cells_107 : decode cX9_cells 107 = .ok (.iload 7, 2) := by decide +kernel
theorem dX9_cells_109 : decode cX9_cells 109 = .ok (.ifCond .le 7, 3) := by decide +kernel
theorem dX9_cells_112 : decode cX9_cells 112 = .ok (.iconst 1, 1) := by decide +kernel
theorem dX9_cells_113 : decode cX9_cells 113 = .ok (.goto 4, 3) := by decide +kernel
theorem dX9_cells_116 : decode cX9_cells 116 = .ok (.iconst 0, 1) := by decide +kernel
theorem dX9_cells_117 : decode cX9_cells 117 = .ok (.iadd, 1) := by decide +kernel
theorem dX9_cells_118 : decode cX9_cells 118 = .ok (.istore 4, 2) := by decide +kernel
theorem dX9_cells_120 : decode cX9_cells 120 = .ok (.iload 7, 2) := by decide +kernel
theorem dX9_cells_122 : decode cX9_cells 122 = .ok (.iload 5, 2) := by decide +kernel
theorem dX9_cells_124 : decode cX9_cells 124 = .ok (.if_icmp .le 8, 3) := by decide +kernel
theorem dX9_cells_127 : decode cX9_cells 127 = .ok (.iload 7, 2) := by decide +kernel
theorem dX9_cells_129 : decode cX9_cells 129 = .ok (.goto 5, 3) := by decide +kernel
theorem dX9_cells_132 : decode cX9_cells 132 = .ok (.iload 5, 2) := by decide +kernel
theorem dX9_cells_134 : decode cX9_cells 134 = .ok (.istore 5, 2) := by decide +kernel
theorem dX9_cells_136 : decode cX9_cells 136 = .ok (.iinc 6 1, 3) := by decide +kernel
theorem dX9_cells_139 : decode cX9_cells 139 = .ok (.goto (-87), 3) := by decide +kernel
theorem dX9_cells_142 : decode cX9_cells 142 = .ok (.iload_n 2, 1) := by decide +kernel
theorem dX9_cells_143 : decode cX9_cells 143 = .ok (.ifCond .ne 7, 3) := by decide +kernel
theorem dX9_cells_146 : decode cX9_cells 146 = .ok (.iload_n 3, 1) := by decide +kernel
theorem dX9_cells_147 : decode cX9_cells 147 = .ok (.goto 15, 3) := by decide +kernel
theorem dX9_cells_150 : decode cX9_cells 150 = .ok (.iload_n 2, 1) := by decide +kernel
theorem dX9_cells_151 : decode cX9_cells 151 = .ok (.iconst 1, 1) := by decide +kernel
theorem dX9_cells_152 : decode cX9_cells 152 = .ok (.if_icmp .ne 8, 3) := by decide +kernel
theorem dX9_cells_155 : decode cX9_cells 155 = .ok (.iload 4, 2) := by decide +kernel
theorem dX9_cells_157 : decode cX9_cells 157 = .ok (.goto 5, 3) := by decide +kernel
theorem dX9_cells_160 : decode cX9_cells 160 = .ok (.iload 5, 2) := by decide +kernel
theorem dX9_cells_162 : decode cX9_cells 162 = .ok (.ireturn, 1) := by decide +kernel
theorem dX9_isRing_0 : decode cX9_isRing 0 = .ok (.iload_n 2, 1) := by decide +kernel
theorem dX9_isRing_1 : decode cX9_isRing 1 = .ok (.iload 4, 2) := by decide +kernel
theorem dX9_isRing_3 : decode cX9_isRing 3 = .ok (.isub, 1) := by decide +kernel
theorem dX9_isRing_4 : decode cX9_isRing 4 = .ok (.ifCond .lt 32, 3) := by decide +kernel
theorem dX9_isRing_7 : decode cX9_isRing 7 = .ok (.iload_n 2, 1) := by decide +kernel
theorem dX9_isRing_8 : decode cX9_isRing 8 = .ok (.iload 4, 2) := by decide +kernel
theorem dX9_isRing_10 : decode cX9_isRing 10 = .ok (.iadd, 1) := by decide +kernel
theorem dX9_isRing_11 : decode cX9_isRing 11 = .ok (.bipush 9, 2) := by decide +kernel
theorem dX9_isRing_13 : decode cX9_isRing 13 = .ok (.if_icmp .ge 23, 3) := by decide +kernel
theorem dX9_isRing_16 : decode cX9_isRing 16 = .ok (.iload_n 3, 1) := by decide +kernel
theorem dX9_isRing_17 : decode cX9_isRing 17 = .ok (.iload 4, 2) := by decide +kernel
theorem dX9_isRing_19 : decode cX9_isRing 19 = .ok (.isub, 1) := by decide +kernel
theorem dX9_isRing_20 : decode cX9_isRing 20 = .ok (.ifCond .lt 16, 3) := by decide +kernel
theorem dX9_isRing_23 : decode cX9_isRing 23 = .ok (.iload_n 3, 1) := by decide +kernel
theorem dX9_isRing_24 : decode cX9_isRing 24 = .ok (.iload 4, 2) := by decide +kernel
theorem dX9_isRing_26 : decode cX9_isRing 26 = .ok (.iadd, 1) := by decide +kernel
theorem dX9_isRing_27 : decode cX9_isRing 27 = .ok (.bipush 10, 2) := by decide +kernel
theorem dX9_isRing_29 : decode cX9_isRing 29 = .ok (.if_icmp .ge 7, 3) := by decide +kernel
theorem dX9_isRing_32 : decode cX9_isRing 32 = .ok (.iconst 1, 1) := by decide +kernel
theorem dX9_isRing_33 : decode cX9_isRing 33 = .ok (.goto 4, 3) := by decide +kernel
theorem dX9_isRing_36 : decode cX9_isRing 36 = .ok (.iconst 0, 1) := by decide +kernel
theorem dX9_isRing_37 : decode cX9_isRing 37 = .ok (.istore 5, 2) := by decide +kernel
theorem dX9_isRing_39 : decode cX9_isRing 39 = .ok (.iload_n 2, 1) := by decide +kernel
theorem dX9_isRing_40 : decode cX9_isRing 40 = .ok (.iload 4, 2) := by decide +kernel
theorem dX9_isRing_42 : decode cX9_isRing 42 = .ok (.isub, 1) := by decide +kernel
theorem dX9_isRing_43 : decode cX9_isRing 43 = .ok (.istore 6, 2) := by decide +kernel
theorem dX9_isRing_45 : decode cX9_isRing 45 = .ok (.iload 6, 2) := by decide +kernel
theorem dX9_isRing_47 : decode cX9_isRing 47 = .ok (.iload_n 2, 1) := by decide +kernel
theorem dX9_isRing_48 : decode cX9_isRing 48 = .ok (.iload 4, 2) := by decide +kernel
theorem dX9_isRing_50 : decode cX9_isRing 50 = .ok (.iadd, 1) := by decide +kernel
theorem dX9_isRing_51 : decode cX9_isRing 51 = .ok (.if_icmp .gt 64, 3) := by decide +kernel
theorem dX9_isRing_54 : decode cX9_isRing 54 = .ok (.iload 5, 2) := by decide +kernel
theorem dX9_isRing_56 : decode cX9_isRing 56 = .ok (.ifCond .eq 59, 3) := by decide +kernel
theorem dX9_isRing_59 : decode cX9_isRing 59 = .ok (.iload_n 3, 1) := by decide +kernel
theorem dX9_isRing_60 : decode cX9_isRing 60 = .ok (.iload 4, 2) := by decide +kernel
theorem dX9_isRing_62 : decode cX9_isRing 62 = .ok (.isub, 1) := by decide +kernel
theorem dX9_isRing_63 : decode cX9_isRing 63 = .ok (.istore 7, 2) := by decide +kernel
theorem dX9_isRing_65 : decode cX9_isRing 65 = .ok (.iload 7, 2) := by decide +kernel
theorem dX9_isRing_67 : decode cX9_isRing 67 = .ok (.iload_n 3, 1) := by decide +kernel
theorem dX9_isRing_68 : decode cX9_isRing 68 = .ok (.iload 4, 2) := by decide +kernel
theorem dX9_isRing_70 : decode cX9_isRing 70 = .ok (.iadd, 1) := by decide +kernel
theorem dX9_isRing_71 : decode cX9_isRing 71 = .ok (.if_icmp .gt 38, 3) := by decide +kernel
theorem dX9_isRing_74 : decode cX9_isRing 74 = .ok (.iload 5, 2) := by decide +kernel
theorem dX9_isRing_76 : decode cX9_isRing 76 = .ok (.ifCond .eq 24, 3) := by decide +kernel
theorem dX9_isRing_79 : decode cX9_isRing 79 = .ok (.aload_n 0, 1) := by decide +kernel
theorem dX9_isRing_80 : decode cX9_isRing 80 = .ok (.getfield 41, 3) := by decide +kernel
theorem dX9_isRing_83 : decode cX9_isRing 83 = .ok (.bipush 10, 2) := by decide +kernel
theorem dX9_isRing_85 : decode cX9_isRing 85 = .ok (.iload 6, 2) := by decide +kernel
theorem dX9_isRing_87 : decode cX9_isRing 87 = .ok (.imul, 1) := by decide +kernel
theorem dX9_isRing_88 : decode cX9_isRing 88 = .ok (.iload 7, 2) := by decide +kernel
theorem dX9_isRing_90 : decode cX9_isRing 90 = .ok (.iadd, 1) := by decide +kernel
theorem dX9_isRing_91 : decode cX9_isRing 91 = .ok (.iaload, 1) := by decide +kernel
theorem dX9_isRing_92 : decode cX9_isRing 92 = .ok (.iload_n 1, 1) := by decide +kernel
theorem dX9_isRing_93 : decode cX9_isRing 93 = .ok (.if_icmp .ne 7, 3) := by decide +kernel
theorem dX9_isRing_96 : decode cX9_isRing 96 = .ok (.iconst 1, 1) := by decide +kernel
theorem dX9_isRing_97 : decode cX9_isRing 97 = .ok (.goto 4, 3) := by decide +kernel
theorem dX9_isRing_100 : decode cX9_isRing 100 = .ok (.iconst 0, 1) := by decide +kernel
theorem dX9_isRing_101 : decode cX9_isRing 101 = .ok (.istore 5, 2) := by decide +kernel
theorem dX9_isRing_103 : decode cX9_isRing 103 = .ok (.iinc 7 1, 3) := by decide +kernel
theorem dX9_isRing_106 : decode cX9_isRing 106 = .ok (.goto (-41), 3) := by decide +kernel
theorem dX9_isRing_109 : decode cX9_isRing 109 = .ok (.iinc 6 1, 3) := by decide +kernel
theorem dX9_isRing_112 : decode cX9_isRing 112 = .ok (.goto (-67), 3) := by decide +kernel
theorem dX9_isRing_115 : decode cX9_isRing 115 = .ok (.iload 5, 2) := by decide +kernel
theorem dX9_isRing_117 : decode cX9_isRing 117 = .ok (.ireturn, 1) := by decide +kernel
theorem dX9_middle_0 : decode cX9_middle 0 = .ok (.aload_n 0, 1) := by decide +kernel
theorem dX9_middle_1 : decode cX9_middle 1 = .ok (.iload_n 1, 1) := by decide +kernel
theorem dX9_middle_2 : decode cX9_middle 2 = .ok (.invokevirtual 95, 3) := by decide +kernel
theorem dX9_middle_5 : decode cX9_middle 5 = .ok (.ifCond .eq 15, 3) := by decide +kernel
theorem dX9_middle_8 : decode cX9_middle 8 = .ok (.iload_n 2, 1) := by decide +kernel
theorem dX9_middle_9 : decode cX9_middle 9 = .ok (.i2l, 1) := by decide +kernel
theorem dX9_middle_10 : decode cX9_middle 10 = .ok (.lconst 0, 1) := by decide +kernel
theorem dX9_middle_11 : decode cX9_middle 11 = .ok (.ldc2_w 75, 3) := by decide +kernel
theorem dX9_middle_14 : decode cX9_middle 14 = .ok (.invokestatic 71, 3) := by decide +kernel
theorem dX9_middle_17 : decode cX9_middle 17 = .ok (.ifCond .ne 6, 3) := by decide +kernel
theorem dX9_middle_20 : decode cX9_middle 20 = .ok (.ldc 99, 2) := by decide +kernel
theorem dX9_middle_22 : decode cX9_middle 22 = .ok (.ireturn, 1) := by decide +kernel
theorem dX9_middle_23 : decode cX9_middle 23 = .ok (.aload_n 0, 1) := by decide +kernel
theorem dX9_middle_24 : decode cX9_middle 24 = .ok (.getfield 100, 3) := by decide +kernel
theorem dX9_middle_27 : decode cX9_middle 27 = .ok (.ifCond .ne 6, 3) := by decide +kernel
theorem dX9_middle_30 : decode cX9_middle 30 = .ok (.ldc 238, 2) := by decide +kernel
theorem dX9_middle_32 : decode cX9_middle 32 = .ok (.ireturn, 1) := by decide +kernel
theorem dX9_middle_33 : decode cX9_middle 33 = .ok (.aload_n 0, 1) := by decide +kernel
theorem dX9_middle_34 : decode cX9_middle 34 = .ok (.invokevirtual 232, 3) := by decide +kernel
theorem dX9_middle_37 : decode cX9_middle 37 = .ok (.bipush (-4), 2) := by decide +kernel
theorem dX9_middle_39 : decode cX9_middle 39 = .ok (.istore_n 3, 1) := by decide +kernel
theorem dX9_middle_40 : decode cX9_middle 40 = .ok (.iconst (-1), 1) := by decide +kernel
theorem dX9_middle_41 : decode cX9_middle 41 = .ok (.istore 4, 2) := by decide +kernel
theorem dX9_middle_43 : decode cX9_middle 43 = .ok (.iconst 0, 1) := by decide +kernel
theorem dX9_middle_44 : decode cX9_middle 44 = .ok (.istore 5, 2) := by decide +kernel
theorem dX9_middle_46 : decode cX9_middle 46 = .ok (.iload 5, 2) := by decide +kernel
theorem dX9_middle_48 : decode cX9_middle 48 = .ok (.bipush 90, 2) := by decide +kernel
theorem dX9_middle_50 : decode cX9_middle 50 = .ok (.if_icmp .ge 70, 3) := by decide +kernel
theorem dX9_middle_53 : decode cX9_middle 53 = .ok (.iconst (-1), 1) := by decide +kernel
theorem dX9_middle_54 : decode cX9_middle 54 = .ok (.istore 6, 2) := by decide +kernel
theorem dX9_middle_56 : decode cX9_middle 56 = .ok (.aload_n 0, 1) := by decide +kernel
theorem dX9_middle_57 : decode cX9_middle 57 = .ok (.iload_n 1, 1) := by decide +kernel
theorem dX9_middle_58 : decode cX9_middle 58 = .ok (.iload 5, 2) := by decide +kernel
theorem dX9_middle_60 : decode cX9_middle 60 = .ok (.bipush 10, 2) := by decide +kernel
theorem dX9_middle_62 : decode cX9_middle 62 = .ok (.idiv, 1) := by decide +kernel
theorem dX9_middle_63 : decode cX9_middle 63 = .ok (.iload 5, 2) := by decide +kernel
theorem dX9_middle_65 : decode cX9_middle 65 = .ok (.bipush 10, 2) := by decide +kernel
theorem dX9_middle_67 : decode cX9_middle 67 = .ok (.irem, 1) := by decide +kernel
theorem dX9_middle_68 : decode cX9_middle 68 = .ok (.iload 6, 2) := by decide +kernel
theorem dX9_middle_70 : decode cX9_middle 70 = .ok (.iconst 1, 1) := by decide +kernel
theorem dX9_middle_71 : decode cX9_middle 71 = .ok (.iadd, 1) := by decide +kernel
theorem dX9_middle_72 : decode cX9_middle 72 = .ok (.invokevirtual 239, 3) := by decide +kernel
theorem dX9_middle_75 : decode cX9_middle 75 = .ok (.ifCond .eq 9, 3) := by decide +kernel
theorem dX9_middle_78 : decode cX9_middle 78 = .ok (.iinc 6 1, 3) := by decide +kernel
theorem dX9_middle_81 : decode cX9_middle 81 = .ok (.goto (-25), 3) := by decide +kernel
theorem dX9_middle_84 : decode cX9_middle 84 = .ok (.iload 6, 2) := by decide +kernel
theorem dX9_middle_86 : decode cX9_middle 86 = .ok (.iload 4, 2) := by decide +kernel
theorem dX9_middle_88 : decode cX9_middle 88 = .ok (.if_icmp .le 8, 3) := by decide +kernel
theorem dX9_middle_91 : decode cX9_middle 91 = .ok (.iload 5, 2) := by decide +kernel
theorem dX9_middle_93 : decode cX9_middle 93 = .ok (.goto 4, 3) := by decide +kernel
theorem dX9_middle_96 : decode cX9_middle 96 = .ok (.iload_n 3, 1) := by decide +kernel
theorem dX9_middle_97 : decode cX9_middle 97 = .ok (.istore_n 3, 1) := by decide +kernel
theorem dX9_middle_98 : decode cX9_middle 98 = .ok (.iload 6, 2) := by decide +kernel
theorem dX9_middle_100 : decode cX9_middle 100 = .ok (.iload 4, 2) := by decide +kernel
theorem dX9_middle_102 : decode cX9_middle 102 = .ok (.if_icmp .le 8, 3) := by decide +kernel
theorem dX9_middle_105 : decode cX9_middle 105 = .ok (.iload 6, 2) := by decide +kernel
theorem dX9_middle_107 : decode cX9_middle 107 = .ok (.goto 5, 3) := by decide +kernel
theorem dX9_middle_110 : decode cX9_middle 110 = .ok (.iload 4, 2) := by decide +kernel
theorem dX9_middle_112 : decode cX9_middle 112 = .ok (.istore 4, 2) := by decide +kernel
theorem dX9_middle_114 : decode cX9_middle 114 = .ok (.iinc 5 1, 3) := by decide +kernel
theorem dX9_middle_117 : decode cX9_middle 117 = .ok (.goto (-71), 3) := by decide +kernel
theorem dX9_middle_120 : decode cX9_middle 120 = .ok (.iload_n 3, 1) := by decide +kernel
theorem dX9_middle_121 : decode cX9_middle 121 = .ok (.ifCond .ge 8, 3) := by decide +kernel
theorem dX9_middle_124 : decode cX9_middle 124 = .ok (.ldc 243, 2) := by decide +kernel
theorem dX9_middle_126 : decode cX9_middle 126 = .ok (.goto 30, 3) := by decide +kernel
theorem dX9_middle_129 : decode cX9_middle 129 = .ok (.iload_n 2, 1) := by decide +kernel
theorem dX9_middle_130 : decode cX9_middle 130 = .ok (.ifCond .ne 12, 3) := by decide +kernel
theorem dX9_middle_133 : decode cX9_middle 133 = .ok (.iload_n 3, 1) := by decide +kernel
theorem dX9_middle_134 : decode cX9_middle 134 = .ok (.bipush 10, 2) := by decide +kernel
theorem dX9_middle_136 : decode cX9_middle 136 = .ok (.idiv, 1) := by decide +kernel
theorem dX9_middle_137 : decode cX9_middle 137 = .ok (.iconst 4, 1) := by decide +kernel
theorem dX9_middle_138 : decode cX9_middle 138 = .ok (.isub, 1) := by decide +kernel
theorem dX9_middle_139 : decode cX9_middle 139 = .ok (.goto 17, 3) := by decide +kernel
theorem dX9_middle_142 : decode cX9_middle 142 = .ok (.iload_n 2, 1) := by decide +kernel
theorem dX9_middle_143 : decode cX9_middle 143 = .ok (.iconst 1, 1) := by decide +kernel
theorem dX9_middle_144 : decode cX9_middle 144 = .ok (.if_icmp .ne 10, 3) := by decide +kernel
theorem dX9_middle_147 : decode cX9_middle 147 = .ok (.iload_n 3, 1) := by decide +kernel
theorem dX9_middle_148 : decode cX9_middle 148 = .ok (.bipush 10, 2) := by decide +kernel
theorem dX9_middle_150 : decode cX9_middle 150 = .ok (.irem, 1) := by decide +kernel
theorem dX9_middle_151 : decode cX9_middle 151 = .ok (.goto 5, 3) := by decide +kernel
theorem dX9_middle_154 : decode cX9_middle 154 = .ok (.iload 4, 2) := by decide +kernel
theorem dX9_middle_156 : decode cX9_middle 156 = .ok (.ireturn, 1) := by decide +kernel
theorem dX9_mended_0 : decode cX9_mended 0 = .ok (.aload_n 0, 1) := by decide +kernel
theorem dX9_mended_1 : decode cX9_mended 1 = .ok (.iload_n 1, 1) := by decide +kernel
theorem dX9_mended_2 : decode cX9_mended 2 = .ok (.invokevirtual 95, 3) := by decide +kernel
theorem dX9_mended_5 : decode cX9_mended 5 = .ok (.ifCond .eq 15, 3) := by decide +kernel
theorem dX9_mended_8 : decode cX9_mended 8 = .ok (.iload_n 2, 1) := by decide +kernel
theorem dX9_mended_9 : decode cX9_mended 9 = .ok (.i2l, 1) := by decide +kernel
theorem dX9_mended_10 : decode cX9_mended 10 = .ok (.lconst 0, 1) := by decide +kernel
theorem dX9_mended_11 : decode cX9_mended 11 = .ok (.ldc2_w 89, 3) := by decide +kernel
theorem dX9_mended_14 : decode cX9_mended 14 = .ok (.invokestatic 71, 3) := by decide +kernel
theorem dX9_mended_17 : decode cX9_mended 17 = .ok (.ifCond .ne 5, 3) := by decide +kernel
theorem dX9_mended_20 : decode cX9_mended 20 = .ok (.iconst (-1), 1) := by decide +kernel
theorem dX9_mended_21 : decode cX9_mended 21 = .ok (.ireturn, 1) := by decide +kernel
theorem dX9_mended_22 : decode cX9_mended 22 = .ok (.aload_n 0, 1) := by decide +kernel
theorem dX9_mended_23 : decode cX9_mended 23 = .ok (.getfield 100, 3) := by decide +kernel
theorem dX9_mended_26 : decode cX9_mended 26 = .ok (.ifCond .ne 6, 3) := by decide +kernel
theorem dX9_mended_29 : decode cX9_mended 29 = .ok (.bipush (-2), 2) := by decide +kernel
theorem dX9_mended_31 : decode cX9_mended 31 = .ok (.ireturn, 1) := by decide +kernel
theorem dX9_mended_32 : decode cX9_mended 32 = .ok (.aload_n 0, 1) := by decide +kernel
theorem dX9_mended_33 : decode cX9_mended 33 = .ok (.invokevirtual 232, 3) := by decide +kernel
theorem dX9_mended_36 : decode cX9_mended 36 = .ok (.iconst 0, 1) := by decide +kernel
theorem dX9_mended_37 : decode cX9_mended 37 = .ok (.istore_n 3, 1) := by decide +kernel
theorem dX9_mended_38 : decode cX9_mended 38 = .ok (.iload_n 3, 1) := by decide +kernel
theorem dX9_mended_39 : decode cX9_mended 39 = .ok (.bipush 90, 2) := by decide +kernel
theorem dX9_mended_41 : decode cX9_mended 41 = .ok (.if_icmp .ge 21, 3) := by decide +kernel
theorem dX9_mended_44 : decode cX9_mended 44 = .ok (.aload_n 0, 1) := by decide +kernel
theorem dX9_mended_45 : decode cX9_mended 45 = .ok (.getfield 44, 3) := by decide +kernel
theorem dX9_mended_48 : decode cX9_mended 48 = .ok (.iload_n 3, 1) := by decide +kernel
theorem dX9_mended_49 : decode cX9_mended 49 = .ok (.aload_n 0, 1) := by decide +kernel
theorem dX9_mended_50 : decode cX9_mended 50 = .ok (.getfield 41, 3) := by decide +kernel
theorem dX9_mended_53 : decode cX9_mended 53 = .ok (.iload_n 3, 1) := by decide +kernel
theorem dX9_mended_54 : decode cX9_mended 54 = .ok (.iaload, 1) := by decide +kernel
theorem dX9_mended_55 : decode cX9_mended 55 = .ok (.iastore, 1) := by decide +kernel
theorem dX9_mended_56 : decode cX9_mended 56 = .ok (.iinc 3 1, 3) := by decide +kernel
theorem dX9_mended_59 : decode cX9_mended 59 = .ok (.goto (-21), 3) := by decide +kernel
theorem dX9_mended_62 : decode cX9_mended 62 = .ok (.aload_n 0, 1) := by decide +kernel
theorem dX9_mended_63 : decode cX9_mended 63 = .ok (.iload_n 1, 1) := by decide +kernel
theorem dX9_mended_64 : decode cX9_mended 64 = .ok (.putfield 37, 3) := by decide +kernel
theorem dX9_mended_67 : decode cX9_mended 67 = .ok (.aload_n 0, 1) := by decide +kernel
theorem dX9_mended_68 : decode cX9_mended 68 = .ok (.iload_n 2, 1) := by decide +kernel
theorem dX9_mended_69 : decode cX9_mended 69 = .ok (.putfield 212, 3) := by decide +kernel
theorem dX9_mended_72 : decode cX9_mended 72 = .ok (.aload_n 0, 1) := by decide +kernel
theorem dX9_mended_73 : decode cX9_mended 73 = .ok (.invokevirtual 232, 3) := by decide +kernel
theorem dX9_mended_76 : decode cX9_mended 76 = .ok (.aload_n 0, 1) := by decide +kernel
theorem dX9_mended_77 : decode cX9_mended 77 = .ok (.bipush (-4), 2) := by decide +kernel
theorem dX9_mended_79 : decode cX9_mended 79 = .ok (.putfield 37, 3) := by decide +kernel
theorem dX9_mended_82 : decode cX9_mended 82 = .ok (.iconst 0, 1) := by decide +kernel
theorem dX9_mended_83 : decode cX9_mended 83 = .ok (.istore_n 3, 1) := by decide +kernel
theorem dX9_mended_84 : decode cX9_mended 84 = .ok (.iconst 0, 1) := by decide +kernel
theorem dX9_mended_85 : decode cX9_mended 85 = .ok (.istore 4, 2) := by decide +kernel
theorem dX9_mended_87 : decode cX9_mended 87 = .ok (.iload 4, 2) := by decide +kernel
theorem dX9_mended_89 : decode cX9_mended 89 = .ok (.bipush 90, 2) := by decide +kernel
theorem dX9_mended_91 : decode cX9_mended 91 = .ok (.if_icmp .ge 39, 3) := by decide +kernel
theorem dX9_mended_94 : decode cX9_mended 94 = .ok (.iload_n 3, 1) := by decide +kernel
theorem dX9_mended_95 : decode cX9_mended 95 = .ok (.aload_n 0, 1) := by decide +kernel
theorem dX9_mended_96 : decode cX9_mended 96 = .ok (.getfield 41, 3) := by decide +kernel
theorem dX9_mended_99 : decode cX9_mended 99 = .ok (.iload 4, 2) := by decide +kernel
theorem dX9_mended_101 : decode cX9_mended 101 = .ok (.iaload, 1) := by decide +kernel
theorem dX9_mended_102 : decode cX9_mended 102 = .ok (.iload_n 1, 1) := by decide +kernel
theorem dX9_mended_103 : decode cX9_mended 103 = .ok (.if_icmp .ne 18, 3) := by decide +kernel
theorem dX9_mended_106 : decode cX9_mended 106 = .ok (.aload_n 0, 1) := by decide +kernel
theorem dX9_mended_107 : decode cX9_mended 107 = .ok (.getfield 44, 3) := by decide +kernel
theorem dX9_mended_110 : decode cX9_mended 110 = .ok (.iload 4, 2) := by decide +kernel
theorem dX9_mended_112 : decode cX9_mended 112 = .ok (.iaload, 1) := by decide +kernel
theorem dX9_mended_113 : decode cX9_mended 113 = .ok (.iload_n 1, 1) := by decide +kernel
theorem dX9_mended_114 : decode cX9_mended 114 = .ok (.if_icmp .eq 7, 3) := by decide +kernel
theorem dX9_mended_117 : decode cX9_mended 117 = .ok (.iconst 1, 1) := by decide +kernel
theorem dX9_mended_118 : decode cX9_mended 118 = .ok (.goto 4, 3) := by decide +kernel
theorem dX9_mended_121 : decode cX9_mended 121 = .ok (.iconst 0, 1) := by decide +kernel
theorem dX9_mended_122 : decode cX9_mended 122 = .ok (.iadd, 1) := by decide +kernel
theorem dX9_mended_123 : decode cX9_mended 123 = .ok (.istore_n 3, 1) := by decide +kernel
theorem dX9_mended_124 : decode cX9_mended 124 = .ok (.iinc 4 1, 3) := by decide +kernel
theorem dX9_mended_127 : decode cX9_mended 127 = .ok (.goto (-40), 3) := by decide +kernel
theorem dX9_mended_130 : decode cX9_mended 130 = .ok (.iload_n 3, 1) := by decide +kernel
theorem dX9_mended_131 : decode cX9_mended 131 = .ok (.ireturn, 1) := by decide +kernel
theorem dX9_oddsOf_0 : decode cX9_oddsOf 0 = .ok (.iconst 0, 1) := by decide +kernel
theorem dX9_oddsOf_1 : decode cX9_oddsOf 1 = .ok (.istore_n 2, 1) := by decide +kernel
theorem dX9_oddsOf_2 : decode cX9_oddsOf 2 = .ok (.iconst 0, 1) := by decide +kernel
theorem dX9_oddsOf_3 : decode cX9_oddsOf 3 = .ok (.istore_n 3, 1) := by decide +kernel
theorem dX9_oddsOf_4 : decode cX9_oddsOf 4 = .ok (.iload_n 3, 1) := by decide +kernel
theorem dX9_oddsOf_5 : decode cX9_oddsOf 5 = .ok (.bipush 9, 2) := by decide +kernel
theorem dX9_oddsOf_7 : decode cX9_oddsOf 7 = .ok (.if_icmp .ge 77, 3) := by decide +kernel
theorem dX9_oddsOf_10 : decode cX9_oddsOf 10 = .ok (.iload_n 3, 1) := by decide +kernel
theorem dX9_oddsOf_11 : decode cX9_oddsOf 11 = .ok (.iconst 3, 1) := by decide +kernel
theorem dX9_oddsOf_12 : decode cX9_oddsOf 12 = .ok (.idiv, 1) := by decide +kernel
theorem dX9_oddsOf_13 : decode cX9_oddsOf 13 = .ok (.iconst 1, 1) := by decide +kernel
theorem dX9_oddsOf_14 : decode cX9_oddsOf 14 = .ok (.if_icmp .ne 7, 3) := by decide +kernel
theorem dX9_oddsOf_17 : decode cX9_oddsOf 17 = .ok (.iconst 2, 1) := by decide +kernel
theorem dX9_oddsOf_18 : decode cX9_oddsOf 18 = .ok (.goto 4, 3) := by decide +kernel
theorem dX9_oddsOf_21 : decode cX9_oddsOf 21 = .ok (.iconst 1, 1) := by decide +kernel
theorem dX9_oddsOf_22 : decode cX9_oddsOf 22 = .ok (.iload_n 3, 1) := by decide +kernel
theorem dX9_oddsOf_23 : decode cX9_oddsOf 23 = .ok (.iconst 3, 1) := by decide +kernel
theorem dX9_oddsOf_24 : decode cX9_oddsOf 24 = .ok (.irem, 1) := by decide +kernel
theorem dX9_oddsOf_25 : decode cX9_oddsOf 25 = .ok (.iconst 1, 1) := by decide +kernel
theorem dX9_oddsOf_26 : decode cX9_oddsOf 26 = .ok (.if_icmp .ne 7, 3) := by decide +kernel
theorem dX9_oddsOf_29 : decode cX9_oddsOf 29 = .ok (.iconst 2, 1) := by decide +kernel
theorem dX9_oddsOf_30 : decode cX9_oddsOf 30 = .ok (.goto 4, 3) := by decide +kernel
theorem dX9_oddsOf_33 : decode cX9_oddsOf 33 = .ok (.iconst 1, 1) := by decide +kernel
theorem dX9_oddsOf_34 : decode cX9_oddsOf 34 = .ok (.imul, 1) := by decide +kernel
theorem dX9_oddsOf_35 : decode cX9_oddsOf 35 = .ok (.istore 4, 2) := by decide +kernel
theorem dX9_oddsOf_37 : decode cX9_oddsOf 37 = .ok (.iload_n 2, 1) := by decide +kernel
theorem dX9_oddsOf_38 : decode cX9_oddsOf 38 = .ok (.aload_n 0, 1) := by decide +kernel
theorem dX9_oddsOf_39 : decode cX9_oddsOf 39 = .ok (.aload_n 0, 1) := by decide +kernel
theorem dX9_oddsOf_40 : decode cX9_oddsOf 40 = .ok (.getfield 16, 3) := by decide +kernel
theorem dX9_oddsOf_43 : decode cX9_oddsOf 43 = .ok (.iconst 1, 1) := by decide +kernel
theorem dX9_oddsOf_44 : decode cX9_oddsOf 44 = .ok (.iaload, 1) := by decide +kernel
theorem dX9_oddsOf_45 : decode cX9_oddsOf 45 = .ok (.iload_n 3, 1) := by decide +kernel
theorem dX9_oddsOf_46 : decode cX9_oddsOf 46 = .ok (.iconst 3, 1) := by decide +kernel
theorem dX9_oddsOf_47 : decode cX9_oddsOf 47 = .ok (.idiv, 1) := by decide +kernel
theorem dX9_oddsOf_48 : decode cX9_oddsOf 48 = .ok (.iadd, 1) := by decide +kernel
theorem dX9_oddsOf_49 : decode cX9_oddsOf 49 = .ok (.iconst 1, 1) := by decide +kernel
theorem dX9_oddsOf_50 : decode cX9_oddsOf 50 = .ok (.isub, 1) := by decide +kernel
theorem dX9_oddsOf_51 : decode cX9_oddsOf 51 = .ok (.aload_n 0, 1) := by decide +kernel
theorem dX9_oddsOf_52 : decode cX9_oddsOf 52 = .ok (.getfield 16, 3) := by decide +kernel
theorem dX9_oddsOf_55 : decode cX9_oddsOf 55 = .ok (.iconst 2, 1) := by decide +kernel
theorem dX9_oddsOf_56 : decode cX9_oddsOf 56 = .ok (.iaload, 1) := by decide +kernel
theorem dX9_oddsOf_57 : decode cX9_oddsOf 57 = .ok (.iload_n 3, 1) := by decide +kernel
theorem dX9_oddsOf_58 : decode cX9_oddsOf 58 = .ok (.iconst 3, 1) := by decide +kernel
theorem dX9_oddsOf_59 : decode cX9_oddsOf 59 = .ok (.irem, 1) := by decide +kernel
theorem dX9_oddsOf_60 : decode cX9_oddsOf 60 = .ok (.iadd, 1) := by decide +kernel
theorem dX9_oddsOf_61 : decode cX9_oddsOf 61 = .ok (.iconst 1, 1) := by decide +kernel
theorem dX9_oddsOf_62 : decode cX9_oddsOf 62 = .ok (.isub, 1) := by decide +kernel
theorem dX9_oddsOf_63 : decode cX9_oddsOf 63 = .ok (.invokevirtual 227, 3) := by decide +kernel
theorem dX9_oddsOf_66 : decode cX9_oddsOf 66 = .ok (.iload_n 1, 1) := by decide +kernel
theorem dX9_oddsOf_67 : decode cX9_oddsOf 67 = .ok (.if_icmp .ne 8, 3) := by decide +kernel
theorem dX9_oddsOf_70 : decode cX9_oddsOf 70 = .ok (.iload 4, 2) := by decide +kernel
theorem dX9_oddsOf_72 : decode cX9_oddsOf 72 = .ok (.goto 4, 3) := by decide +kernel
theorem dX9_oddsOf_75 : decode cX9_oddsOf 75 = .ok (.iconst 0, 1) := by decide +kernel
theorem dX9_oddsOf_76 : decode cX9_oddsOf 76 = .ok (.iadd, 1) := by decide +kernel
theorem dX9_oddsOf_77 : decode cX9_oddsOf 77 = .ok (.istore_n 2, 1) := by decide +kernel
theorem dX9_oddsOf_78 : decode cX9_oddsOf 78 = .ok (.iinc 3 1, 3) := by decide +kernel
theorem dX9_oddsOf_81 : decode cX9_oddsOf 81 = .ok (.goto (-77), 3) := by decide +kernel
theorem dX9_oddsOf_84 : decode cX9_oddsOf 84 = .ok (.iload_n 2, 1) := by decide +kernel
theorem dX9_oddsOf_85 : decode cX9_oddsOf 85 = .ok (.ireturn, 1) := by decide +kernel
theorem dX9_odds_0 : decode cX9_odds 0 = .ok (.aload_n 0, 1) := by decide +kernel
theorem dX9_odds_1 : decode cX9_odds 1 = .ok (.iload_n 1, 1) := by decide +kernel
theorem dX9_odds_2 : decode cX9_odds 2 = .ok (.invokevirtual 95, 3) := by decide +kernel
theorem dX9_odds_5 : decode cX9_odds 5 = .ok (.ifCond .ne 7, 3) := by decide +kernel
theorem dX9_odds_8 : decode cX9_odds 8 = .ok (.iconst (-1), 1) := by decide +kernel
theorem dX9_odds_9 : decode cX9_odds 9 = .ok (.goto 20, 3) := by decide +kernel
theorem dX9_odds_12 : decode cX9_odds 12 = .ok (.aload_n 0, 1) := by decide +kernel
theorem dX9_odds_13 : decode cX9_odds 13 = .ok (.getfield 100, 3) := by decide +kernel
theorem dX9_odds_16 : decode cX9_odds 16 = .ok (.ifCond .ne 8, 3) := by decide +kernel
theorem dX9_odds_19 : decode cX9_odds 19 = .ok (.bipush (-2), 2) := by decide +kernel
theorem dX9_odds_21 : decode cX9_odds 21 = .ok (.goto 8, 3) := by decide +kernel
theorem dX9_odds_24 : decode cX9_odds 24 = .ok (.aload_n 0, 1) := by decide +kernel
theorem dX9_odds_25 : decode cX9_odds 25 = .ok (.iload_n 1, 1) := by decide +kernel
theorem dX9_odds_26 : decode cX9_odds 26 = .ok (.invokevirtual 244, 3) := by decide +kernel
theorem dX9_odds_29 : decode cX9_odds 29 = .ok (.ireturn, 1) := by decide +kernel
theorem dX9_which_0 : decode cX9_which 0 = .ok (.aload_n 0, 1) := by decide +kernel
theorem dX9_which_1 : decode cX9_which 1 = .ok (.getfield 100, 3) := by decide +kernel
theorem dX9_which_4 : decode cX9_which 4 = .ok (.ifCond .ne 6, 3) := by decide +kernel
theorem dX9_which_7 : decode cX9_which 7 = .ok (.bipush (-2), 2) := by decide +kernel
theorem dX9_which_9 : decode cX9_which 9 = .ok (.ireturn, 1) := by decide +kernel
theorem dX9_which_10 : decode cX9_which 10 = .ok (.bipush (-4), 2) := by decide +kernel
theorem dX9_which_12 : decode cX9_which 12 = .ok (.istore_n 1, 1) := by decide +kernel
theorem dX9_which_13 : decode cX9_which 13 = .ok (.iconst (-1), 1) := by decide +kernel
theorem dX9_which_14 : decode cX9_which 14 = .ok (.istore_n 2, 1) := by decide +kernel
theorem dX9_which_15 : decode cX9_which 15 = .ok (.iconst 0, 1) := by decide +kernel
theorem dX9_which_16 : decode cX9_which 16 = .ok (.istore_n 3, 1) := by decide +kernel
theorem dX9_which_17 : decode cX9_which 17 = .ok (.iload_n 3, 1) := by decide +kernel
theorem dX9_which_18 : decode cX9_which 18 = .ok (.aload_n 0, 1) := by decide +kernel
theorem dX9_which_19 : decode cX9_which 19 = .ok (.getfield 68, 3) := by decide +kernel
theorem dX9_which_22 : decode cX9_which 22 = .ok (.if_icmp .ge 52, 3) := by decide +kernel
theorem dX9_which_25 : decode cX9_which 25 = .ok (.aload_n 0, 1) := by decide +kernel
theorem dX9_which_26 : decode cX9_which 26 = .ok (.iload_n 3, 1) := by decide +kernel
theorem dX9_which_27 : decode cX9_which 27 = .ok (.invokevirtual 244, 3) := by decide +kernel
theorem dX9_which_30 : decode cX9_which 30 = .ok (.aload_n 0, 1) := by decide +kernel
theorem dX9_which_31 : decode cX9_which 31 = .ok (.getfield 13, 3) := by decide +kernel
theorem dX9_which_34 : decode cX9_which 34 = .ok (.iconst 5, 1) := by decide +kernel
theorem dX9_which_35 : decode cX9_which 35 = .ok (.iload_n 3, 1) := by decide +kernel
theorem dX9_which_36 : decode cX9_which 36 = .ok (.imul, 1) := by decide +kernel
theorem dX9_which_37 : decode cX9_which 37 = .ok (.iconst 3, 1) := by decide +kernel
theorem dX9_which_38 : decode cX9_which 38 = .ok (.iadd, 1) := by decide +kernel
theorem dX9_which_39 : decode cX9_which 39 = .ok (.iaload, 1) := by decide +kernel
theorem dX9_which_40 : decode cX9_which 40 = .ok (.imul, 1) := by decide +kernel
theorem dX9_which_41 : decode cX9_which 41 = .ok (.istore 4, 2) := by decide +kernel
theorem dX9_which_43 : decode cX9_which 43 = .ok (.iload 4, 2) := by decide +kernel
theorem dX9_which_45 : decode cX9_which 45 = .ok (.iload_n 2, 1) := by decide +kernel
theorem dX9_which_46 : decode cX9_which 46 = .ok (.if_icmp .le 7, 3) := by decide +kernel
theorem dX9_which_49 : decode cX9_which 49 = .ok (.iload_n 3, 1) := by decide +kernel
theorem dX9_which_50 : decode cX9_which 50 = .ok (.goto 4, 3) := by decide +kernel
theorem dX9_which_53 : decode cX9_which 53 = .ok (.iload_n 1, 1) := by decide +kernel
theorem dX9_which_54 : decode cX9_which 54 = .ok (.istore_n 1, 1) := by decide +kernel
theorem dX9_which_55 : decode cX9_which 55 = .ok (.iload 4, 2) := by decide +kernel
theorem dX9_which_57 : decode cX9_which 57 = .ok (.iload_n 2, 1) := by decide +kernel
theorem dX9_which_58 : decode cX9_which 58 = .ok (.if_icmp .le 8, 3) := by decide +kernel
theorem dX9_which_61 : decode cX9_which 61 = .ok (.iload 4, 2) := by decide +kernel
theorem dX9_which_63 : decode cX9_which 63 = .ok (.goto 4, 3) := by decide +kernel
theorem dX9_which_66 : decode cX9_which 66 = .ok (.iload_n 2, 1) := by decide +kernel
theorem dX9_which_67 : decode cX9_which 67 = .ok (.istore_n 2, 1) := by decide +kernel
theorem dX9_which_68 : decode cX9_which 68 = .ok (.iinc 3 1, 3) := by decide +kernel
theorem dX9_which_71 : decode cX9_which 71 = .ok (.goto (-54), 3) := by decide +kernel
theorem dX9_which_74 : decode cX9_which 74 = .ok (.iload_n 1, 1) := by decide +kernel
theorem dX9_which_75 : decode cX9_which 75 = .ok (.ireturn, 1) := by decide +kernel
theorem dX9_trick_0 : decode cX9_trick 0 = .ok (.iload_n 1, 1) := by decide +kernel
theorem dX9_trick_1 : decode cX9_trick 1 = .ok (.i2l, 1) := by decide +kernel
theorem dX9_trick_2 : decode cX9_trick 2 = .ok (.lconst 0, 1) := by decide +kernel
theorem dX9_trick_3 : decode cX9_trick 3 = .ok (.ldc2_w 247, 3) := by decide +kernel
theorem dX9_trick_6 : decode cX9_trick 6 = .ok (.invokestatic 71, 3) := by decide +kernel
theorem dX9_trick_9 : decode cX9_trick 9 = .ok (.ifCond .eq 40, 3) := by decide +kernel
theorem dX9_trick_12 : decode cX9_trick 12 = .ok (.iload_n 2, 1) := by decide +kernel
theorem dX9_trick_13 : decode cX9_trick 13 = .ok (.i2l, 1) := by decide +kernel
theorem dX9_trick_14 : decode cX9_trick 14 = .ok (.lconst 1, 1) := by decide +kernel
theorem dX9_trick_15 : decode cX9_trick 15 = .ok (.ldc2_w 79, 3) := by decide +kernel
theorem dX9_trick_18 : decode cX9_trick 18 = .ok (.invokestatic 71, 3) := by decide +kernel
theorem dX9_trick_21 : decode cX9_trick 21 = .ok (.ifCond .eq 28, 3) := by decide +kernel
theorem dX9_trick_24 : decode cX9_trick 24 = .ok (.iload_n 3, 1) := by decide +kernel
theorem dX9_trick_25 : decode cX9_trick 25 = .ok (.i2l, 1) := by decide +kernel
theorem dX9_trick_26 : decode cX9_trick 26 = .ok (.lconst 0, 1) := by decide +kernel
theorem dX9_trick_27 : decode cX9_trick 27 = .ok (.ldc2_w 89, 3) := by decide +kernel
theorem dX9_trick_30 : decode cX9_trick 30 = .ok (.invokestatic 71, 3) := by decide +kernel
theorem dX9_trick_33 : decode cX9_trick 33 = .ok (.ifCond .eq 16, 3) := by decide +kernel
theorem dX9_trick_36 : decode cX9_trick 36 = .ok (.iload 4, 2) := by decide +kernel
theorem dX9_trick_38 : decode cX9_trick 38 = .ok (.i2l, 1) := by decide +kernel
theorem dX9_trick_39 : decode cX9_trick 39 = .ok (.lconst 1, 1) := by decide +kernel
theorem dX9_trick_40 : decode cX9_trick 40 = .ok (.ldc2_w 87, 3) := by decide +kernel
theorem dX9_trick_43 : decode cX9_trick 43 = .ok (.invokestatic 71, 3) := by decide +kernel
theorem dX9_trick_46 : decode cX9_trick 46 = .ok (.ifCond .ne 5, 3) := by decide +kernel
theorem dX9_trick_49 : decode cX9_trick 49 = .ok (.iconst (-1), 1) := by decide +kernel
theorem dX9_trick_50 : decode cX9_trick 50 = .ok (.ireturn, 1) := by decide +kernel
theorem dX9_trick_51 : decode cX9_trick 51 = .ok (.aload_n 0, 1) := by decide +kernel
theorem dX9_trick_52 : decode cX9_trick 52 = .ok (.getfield 157, 3) := by decide +kernel
theorem dX9_trick_55 : decode cX9_trick 55 = .ok (.bipush 8, 2) := by decide +kernel
theorem dX9_trick_57 : decode cX9_trick 57 = .ok (.if_icmp .ne 6, 3) := by decide +kernel
theorem dX9_trick_60 : decode cX9_trick 60 = .ok (.bipush (-3), 2) := by decide +kernel
theorem dX9_trick_62 : decode cX9_trick 62 = .ok (.ireturn, 1) := by decide +kernel
theorem dX9_trick_63 : decode cX9_trick 63 = .ok (.aload_n 0, 1) := by decide +kernel
theorem dX9_trick_64 : decode cX9_trick 64 = .ok (.getfield 19, 3) := by decide +kernel
theorem dX9_trick_67 : decode cX9_trick 67 = .ok (.iconst 4, 1) := by decide +kernel
theorem dX9_trick_68 : decode cX9_trick 68 = .ok (.aload_n 0, 1) := by decide +kernel
theorem dX9_trick_69 : decode cX9_trick 69 = .ok (.getfield 157, 3) := by decide +kernel
theorem dX9_trick_72 : decode cX9_trick 72 = .ok (.imul, 1) := by decide +kernel
theorem dX9_trick_73 : decode cX9_trick 73 = .ok (.iload_n 1, 1) := by decide +kernel
theorem dX9_trick_74 : decode cX9_trick 74 = .ok (.iastore, 1) := by decide +kernel
theorem dX9_trick_75 : decode cX9_trick 75 = .ok (.aload_n 0, 1) := by decide +kernel
theorem dX9_trick_76 : decode cX9_trick 76 = .ok (.getfield 19, 3) := by decide +kernel
theorem dX9_trick_79 : decode cX9_trick 79 = .ok (.iconst 4, 1) := by decide +kernel
theorem dX9_trick_80 : decode cX9_trick 80 = .ok (.aload_n 0, 1) := by decide +kernel
theorem dX9_trick_81 : decode cX9_trick 81 = .ok (.getfield 157, 3) := by decide +kernel
theorem dX9_trick_84 : decode cX9_trick 84 = .ok (.imul, 1) := by decide +kernel
theorem dX9_trick_85 : decode cX9_trick 85 = .ok (.iconst 1, 1) := by decide +kernel
theorem dX9_trick_86 : decode cX9_trick 86 = .ok (.iadd, 1) := by decide +kernel
theorem dX9_trick_87 : decode cX9_trick 87 = .ok (.iload_n 2, 1) := by decide +kernel
theorem dX9_trick_88 : decode cX9_trick 88 = .ok (.iastore, 1) := by decide +kernel
theorem dX9_trick_89 : decode cX9_trick 89 = .ok (.aload_n 0, 1) := by decide +kernel
theorem dX9_trick_90 : decode cX9_trick 90 = .ok (.getfield 19, 3) := by decide +kernel
theorem dX9_trick_93 : decode cX9_trick 93 = .ok (.iconst 4, 1) := by decide +kernel
theorem dX9_trick_94 : decode cX9_trick 94 = .ok (.aload_n 0, 1) := by decide +kernel
theorem dX9_trick_95 : decode cX9_trick 95 = .ok (.getfield 157, 3) := by decide +kernel
theorem dX9_trick_98 : decode cX9_trick 98 = .ok (.imul, 1) := by decide +kernel
theorem dX9_trick_99 : decode cX9_trick 99 = .ok (.iconst 2, 1) := by decide +kernel
theorem dX9_trick_100 : decode cX9_trick 100 = .ok (.iadd, 1) := by decide +kernel
theorem dX9_trick_101 : decode cX9_trick 101 = .ok (.iload_n 3, 1) := by decide +kernel
theorem dX9_trick_102 : decode cX9_trick 102 = .ok (.iastore, 1) := by decide +kernel
theorem dX9_trick_103 : decode cX9_trick 103 = .ok (.aload_n 0, 1) := by decide +kernel
theorem dX9_trick_104 : decode cX9_trick 104 = .ok (.getfield 19, 3) := by decide +kernel
theorem dX9_trick_107 : decode cX9_trick 107 = .ok (.iconst 4, 1) := by decide +kernel
theorem dX9_trick_108 : decode cX9_trick 108 = .ok (.aload_n 0, 1) := by decide +kernel
theorem dX9_trick_109 : decode cX9_trick 109 = .ok (.getfield 157, 3) := by decide +kernel
theorem dX9_trick_112 : decode cX9_trick 112 = .ok (.imul, 1) := by decide +kernel
theorem dX9_trick_113 : decode cX9_trick 113 = .ok (.iconst 3, 1) := by decide +kernel
theorem dX9_trick_114 : decode cX9_trick 114 = .ok (.iadd, 1) := by decide +kernel
theorem dX9_trick_115 : decode cX9_trick 115 = .ok (.iload 4, 2) := by decide +kernel
theorem dX9_trick_117 : decode cX9_trick 117 = .ok (.iastore, 1) := by decide +kernel
theorem dX9_trick_118 : decode cX9_trick 118 = .ok (.aload_n 0, 1) := by decide +kernel
theorem dX9_trick_119 : decode cX9_trick 119 = .ok (.dup, 1) := by decide +kernel
theorem dX9_trick_120 : decode cX9_trick 120 = .ok (.getfield 157, 3) := by decide +kernel
theorem dX9_trick_123 : decode cX9_trick 123 = .ok (.iconst 1, 1) := by decide +kernel
theorem dX9_trick_124 : decode cX9_trick 124 = .ok (.iadd, 1) := by decide +kernel
theorem dX9_trick_125 : decode cX9_trick 125 = .ok (.putfield 157, 3) := by decide +kernel
theorem dX9_trick_128 : decode cX9_trick 128 = .ok (.aload_n 0, 1) := by decide +kernel
theorem dX9_trick_129 : decode cX9_trick 129 = .ok (.getfield 157, 3) := by decide +kernel
theorem dX9_trick_132 : decode cX9_trick 132 = .ok (.iconst 1, 1) := by decide +kernel
theorem dX9_trick_133 : decode cX9_trick 133 = .ok (.isub, 1) := by decide +kernel
theorem dX9_trick_134 : decode cX9_trick 134 = .ok (.ireturn, 1) := by decide +kernel
theorem dX9_most_0 : decode cX9_most 0 = .ok (.iload_n 1, 1) := by decide +kernel
theorem dX9_most_1 : decode cX9_most 1 = .ok (.i2l, 1) := by decide +kernel
theorem dX9_most_2 : decode cX9_most 2 = .ok (.lconst 0, 1) := by decide +kernel
theorem dX9_most_3 : decode cX9_most 3 = .ok (.ldc2_w 249, 3) := by decide +kernel
theorem dX9_most_6 : decode cX9_most 6 = .ok (.invokestatic 71, 3) := by decide +kernel
theorem dX9_most_9 : decode cX9_most 9 = .ok (.ifCond .eq 21, 3) := by decide +kernel
theorem dX9_most_12 : decode cX9_most 12 = .ok (.iload_n 2, 1) := by decide +kernel
theorem dX9_most_13 : decode cX9_most 13 = .ok (.i2l, 1) := by decide +kernel
theorem dX9_most_14 : decode cX9_most 14 = .ok (.ldc2_w 251, 3) := by decide +kernel
theorem dX9_most_17 : decode cX9_most 17 = .ok (.aload_n 0, 1) := by decide +kernel
theorem dX9_most_18 : decode cX9_most 18 = .ok (.getfield 157, 3) := by decide +kernel
theorem dX9_most_21 : decode cX9_most 21 = .ok (.iconst 1, 1) := by decide +kernel
theorem dX9_most_22 : decode cX9_most 22 = .ok (.isub, 1) := by decide +kernel
theorem dX9_most_23 : decode cX9_most 23 = .ok (.i2l, 1) := by decide +kernel
theorem dX9_most_24 : decode cX9_most 24 = .ok (.invokestatic 71, 3) := by decide +kernel
theorem dX9_most_27 : decode cX9_most 27 = .ok (.ifCond .ne 5, 3) := by decide +kernel
theorem dX9_most_30 : decode cX9_most 30 = .ok (.iconst (-1), 1) := by decide +kernel
theorem dX9_most_31 : decode cX9_most 31 = .ok (.ireturn, 1) := by decide +kernel
theorem dX9_most_32 : decode cX9_most 32 = .ok (.iconst 0, 1) := by decide +kernel
theorem dX9_most_33 : decode cX9_most 33 = .ok (.istore_n 3, 1) := by decide +kernel
theorem dX9_most_34 : decode cX9_most 34 = .ok (.iload_n 3, 1) := by decide +kernel
theorem dX9_most_35 : decode cX9_most 35 = .ok (.sipush 181, 3) := by decide +kernel
theorem dX9_most_38 : decode cX9_most 38 = .ok (.if_icmp .ge 25, 3) := by decide +kernel
theorem dX9_most_41 : decode cX9_most 41 = .ok (.aload_n 0, 1) := by decide +kernel
theorem dX9_most_42 : decode cX9_most 42 = .ok (.getfield 50, 3) := by decide +kernel
theorem dX9_most_45 : decode cX9_most 45 = .ok (.sipush 181, 3) := by decide +kernel
theorem dX9_most_48 : decode cX9_most 48 = .ok (.aload_n 0, 1) := by decide +kernel
theorem dX9_most_49 : decode cX9_most 49 = .ok (.getfield 157, 3) := by decide +kernel
theorem dX9_most_52 : decode cX9_most 52 = .ok (.imul, 1) := by decide +kernel
theorem dX9_most_53 : decode cX9_most 53 = .ok (.iload_n 3, 1) := by decide +kernel
theorem dX9_most_54 : decode cX9_most 54 = .ok (.iadd, 1) := by decide +kernel
theorem dX9_most_55 : decode cX9_most 55 = .ok (.iconst 0, 1) := by decide +kernel
theorem dX9_most_56 : decode cX9_most 56 = .ok (.iastore, 1) := by decide +kernel
theorem dX9_most_57 : decode cX9_most 57 = .ok (.iinc 3 1, 3) := by decide +kernel
theorem dX9_most_60 : decode cX9_most 60 = .ok (.goto (-26), 3) := by decide +kernel
theorem dX9_most_63 : decode cX9_most 63 = .ok (.aload_n 0, 1) := by decide +kernel
theorem dX9_most_64 : decode cX9_most 64 = .ok (.getfield 157, 3) := by decide +kernel
theorem dX9_most_67 : decode cX9_most 67 = .ok (.iconst 1, 1) := by decide +kernel
theorem dX9_most_68 : decode cX9_most 68 = .ok (.isub, 1) := by decide +kernel
theorem dX9_most_69 : decode cX9_most 69 = .ok (.istore_n 3, 1) := by decide +kernel
theorem dX9_most_70 : decode cX9_most 70 = .ok (.iload_n 3, 1) := by decide +kernel
theorem dX9_most_71 : decode cX9_most 71 = .ok (.ifCond .lt 162, 3) := by decide +kernel
theorem dX9_most_74 : decode cX9_most 74 = .ok (.aload_n 0, 1) := by decide +kernel
theorem dX9_most_75 : decode cX9_most 75 = .ok (.getfield 19, 3) := by decide +kernel
theorem dX9_most_78 : decode cX9_most 78 = .ok (.iconst 4, 1) := by decide +kernel
theorem dX9_most_79 : decode cX9_most 79 = .ok (.iload_n 3, 1) := by decide +kernel
theorem dX9_most_80 : decode cX9_most 80 = .ok (.imul, 1) := by decide +kernel
theorem dX9_most_81 : decode cX9_most 81 = .ok (.iaload, 1) := by decide +kernel
theorem dX9_most_82 : decode cX9_most 82 = .ok (.aload_n 0, 1) := by decide +kernel
theorem dX9_most_83 : decode cX9_most 83 = .ok (.getfield 19, 3) := by decide +kernel
theorem dX9_most_86 : decode cX9_most 86 = .ok (.iconst 4, 1) := by decide +kernel
theorem dX9_most_87 : decode cX9_most 87 = .ok (.iload_n 3, 1) := by decide +kernel
theorem dX9_most_88 : decode cX9_most 88 = .ok (.imul, 1) := by decide +kernel
theorem dX9_most_89 : decode cX9_most 89 = .ok (.iconst 2, 1) := by decide +kernel
theorem dX9_most_90 : decode cX9_most 90 = .ok (.iadd, 1) := by decide +kernel
theorem dX9_most_91 : decode cX9_most 91 = .ok (.iaload, 1) := by decide +kernel
theorem dX9_most_92 : decode cX9_most 92 = .ok (.imul, 1) := by decide +kernel
theorem dX9_most_93 : decode cX9_most 93 = .ok (.istore 4, 2) := by decide +kernel
theorem dX9_most_95 : decode cX9_most 95 = .ok (.iconst 0, 1) := by decide +kernel
theorem dX9_most_96 : decode cX9_most 96 = .ok (.istore 5, 2) := by decide +kernel
theorem dX9_most_98 : decode cX9_most 98 = .ok (.iload 5, 2) := by decide +kernel
theorem dX9_most_100 : decode cX9_most 100 = .ok (.sipush 181, 3) := by decide +kernel
theorem dX9_most_103 : decode cX9_most 103 = .ok (.if_icmp .ge 124, 3) := by decide +kernel
theorem dX9_most_106 : decode cX9_most 106 = .ok (.iconst 0, 1) := by decide +kernel
theorem dX9_most_107 : decode cX9_most 107 = .ok (.istore 6, 2) := by decide +kernel
theorem dX9_most_109 : decode cX9_most 109 = .ok (.iconst 0, 1) := by decide +kernel
theorem dX9_most_110 : decode cX9_most 110 = .ok (.istore 7, 2) := by decide +kernel
theorem dX9_most_112 : decode cX9_most 112 = .ok (.iload 7, 2) := by decide +kernel
theorem dX9_most_114 : decode cX9_most 114 = .ok (.aload_n 0, 1) := by decide +kernel
theorem dX9_most_115 : decode cX9_most 115 = .ok (.getfield 19, 3) := by decide +kernel
theorem dX9_most_118 : decode cX9_most 118 = .ok (.iconst 4, 1) := by decide +kernel
theorem dX9_most_119 : decode cX9_most 119 = .ok (.iload_n 3, 1) := by decide +kernel
theorem dX9_most_120 : decode cX9_most 120 = .ok (.imul, 1) := by decide +kernel
theorem dX9_most_121 : decode cX9_most 121 = .ok (.iconst 3, 1) := by decide +kernel
theorem dX9_most_122 : decode cX9_most 122 = .ok (.iadd, 1) := by decide +kernel
theorem dX9_most_123 : decode cX9_most 123 = .ok (.iaload, 1) := by decide +kernel
theorem dX9_most_124 : decode cX9_most 124 = .ok (.if_icmp .gt 82, 3) := by decide +kernel
theorem dX9_most_127 : decode cX9_most 127 = .ok (.iload 7, 2) := by decide +kernel
theorem dX9_most_129 : decode cX9_most 129 = .ok (.aload_n 0, 1) := by decide +kernel
theorem dX9_most_130 : decode cX9_most 130 = .ok (.getfield 19, 3) := by decide +kernel
theorem dX9_most_133 : decode cX9_most 133 = .ok (.iconst 4, 1) := by decide +kernel
theorem dX9_most_134 : decode cX9_most 134 = .ok (.iload_n 3, 1) := by decide +kernel
theorem dX9_most_135 : decode cX9_most 135 = .ok (.imul, 1) := by decide +kernel
theorem dX9_most_136 : decode cX9_most 136 = .ok (.iconst 1, 1) := by decide +kernel
theorem dX9_most_137 : decode cX9_most 137 = .ok (.iadd, 1) := by decide +kernel
theorem dX9_most_138 : decode cX9_most 138 = .ok (.iaload, 1) := by decide +kernel
theorem dX9_most_139 : decode cX9_most 139 = .ok (.imul, 1) := by decide +kernel
theorem dX9_most_140 : decode cX9_most 140 = .ok (.iload 5, 2) := by decide +kernel
theorem dX9_most_142 : decode cX9_most 142 = .ok (.if_icmp .gt 64, 3) := by decide +kernel
theorem dX9_most_145 : decode cX9_most 145 = .ok (.iload 7, 2) := by decide +kernel
theorem dX9_most_147 : decode cX9_most 147 = .ok (.iload 4, 2) := by decide +kernel
theorem dX9_most_149 : decode cX9_most 149 = .ok (.imul, 1) := by decide +kernel
theorem dX9_most_150 : decode cX9_most 150 = .ok (.aload_n 0, 1) := by decide +kernel
theorem dX9_most_151 : decode cX9_most 151 = .ok (.getfield 50, 3) := by decide +kernel
theorem dX9_most_154 : decode cX9_most 154 = .ok (.sipush 181, 3) := by decide +kernel
theorem dX9_most_157 : decode cX9_most 157 = .ok (.iload_n 3, 1) := by decide +kernel
theorem dX9_most_158 : decode cX9_most 158 = .ok (.imul, 1) := by decide +kernel
theorem dX9_most_159 : decode cX9_most 159 = .ok (.sipush 181, 3) := by decide +kernel
theorem dX9_most_162 : decode cX9_most 162 = .ok (.iadd, 1) := by decide +kernel
theorem dX9_most_163 : decode cX9_most 163 = .ok (.iload 5, 2) := by decide +kernel
theorem dX9_most_165 : decode cX9_most 165 = .ok (.iadd, 1) := by decide +kernel
theorem dX9_most_166 : decode cX9_most 166 = .ok (.iload 7, 2) := by decide +kernel
theorem dX9_most_168 : decode cX9_most 168 = .ok (.aload_n 0, 1) := by decide +kernel
theorem dX9_most_169 : decode cX9_most 169 = .ok (.getfield 19, 3) := by decide +kernel
theorem dX9_most_172 : decode cX9_most 172 = .ok (.iconst 4, 1) := by decide +kernel
theorem dX9_most_173 : decode cX9_most 173 = .ok (.iload_n 3, 1) := by decide +kernel
theorem dX9_most_174 : decode cX9_most 174 = .ok (.imul, 1) := by decide +kernel
theorem dX9_most_175 : decode cX9_most 175 = .ok (.iconst 1, 1) := by decide +kernel
theorem dX9_most_176 : decode cX9_most 176 = .ok (.iadd, 1) := by decide +kernel
theorem dX9_most_177 : decode cX9_most 177 = .ok (.iaload, 1) := by decide +kernel
theorem dX9_most_178 : decode cX9_most 178 = .ok (.imul, 1) := by decide +kernel
theorem dX9_most_179 : decode cX9_most 179 = .ok (.isub, 1) := by decide +kernel
theorem dX9_most_180 : decode cX9_most 180 = .ok (.iaload, 1) := by decide +kernel
theorem dX9_most_181 : decode cX9_most 181 = .ok (.iadd, 1) := by decide +kernel
theorem dX9_most_182 : decode cX9_most 182 = .ok (.istore 8, 2) := by decide +kernel
theorem dX9_most_184 : decode cX9_most 184 = .ok (.iload 8, 2) := by decide +kernel
theorem dX9_most_186 : decode cX9_most 186 = .ok (.iload 6, 2) := by decide +kernel
theorem dX9_most_188 : decode cX9_most 188 = .ok (.if_icmp .le 8, 3) := by decide +kernel
theorem dX9_most_191 : decode cX9_most 191 = .ok (.iload 8, 2) := by decide +kernel
theorem dX9_most_193 : decode cX9_most 193 = .ok (.goto 5, 3) := by decide +kernel
theorem dX9_most_196 : decode cX9_most 196 = .ok (.iload 6, 2) := by decide +kernel
theorem dX9_most_198 : decode cX9_most 198 = .ok (.istore 6, 2) := by decide +kernel
theorem dX9_most_200 : decode cX9_most 200 = .ok (.iinc 7 1, 3) := by decide +kernel
theorem dX9_most_203 : decode cX9_most 203 = .ok (.goto (-91), 3) := by decide +kernel
theorem dX9_most_206 : decode cX9_most 206 = .ok (.aload_n 0, 1) := by decide +kernel
theorem dX9_most_207 : decode cX9_most 207 = .ok (.getfield 50, 3) := by decide +kernel
theorem dX9_most_210 : decode cX9_most 210 = .ok (.sipush 181, 3) := by decide +kernel
theorem dX9_most_213 : decode cX9_most 213 = .ok (.iload_n 3, 1) := by decide +kernel
theorem dX9_most_214 : decode cX9_most 214 = .ok (.imul, 1) := by decide +kernel
theorem dX9_most_215 : decode cX9_most 215 = .ok (.iload 5, 2) := by decide +kernel
theorem dX9_most_217 : decode cX9_most 217 = .ok (.iadd, 1) := by decide +kernel
theorem dX9_most_218 : decode cX9_most 218 = .ok (.iload 6, 2) := by decide +kernel
theorem dX9_most_220 : decode cX9_most 220 = .ok (.iastore, 1) := by decide +kernel
theorem dX9_most_221 : decode cX9_most 221 = .ok (.iinc 5 1, 3) := by decide +kernel
theorem dX9_most_224 : decode cX9_most 224 = .ok (.goto (-126), 3) := by decide +kernel
theorem dX9_most_227 : decode cX9_most 227 = .ok (.iinc 3 (-1), 3) := by decide +kernel
theorem dX9_most_230 : decode cX9_most 230 = .ok (.goto (-160), 3) := by decide +kernel
theorem dX9_most_233 : decode cX9_most 233 = .ok (.iload_n 2, 1) := by decide +kernel
theorem dX9_most_234 : decode cX9_most 234 = .ok (.ifCond .ge 10, 3) := by decide +kernel
theorem dX9_most_237 : decode cX9_most 237 = .ok (.aload_n 0, 1) := by decide +kernel
theorem dX9_most_238 : decode cX9_most 238 = .ok (.getfield 50, 3) := by decide +kernel
theorem dX9_most_241 : decode cX9_most 241 = .ok (.iload_n 1, 1) := by decide +kernel
theorem dX9_most_242 : decode cX9_most 242 = .ok (.iaload, 1) := by decide +kernel
theorem dX9_most_243 : decode cX9_most 243 = .ok (.ireturn, 1) := by decide +kernel
theorem dX9_most_244 : decode cX9_most 244 = .ok (.iload_n 1, 1) := by decide +kernel
theorem dX9_most_245 : decode cX9_most 245 = .ok (.istore_n 3, 1) := by decide +kernel
theorem dX9_most_246 : decode cX9_most 246 = .ok (.iconst 0, 1) := by decide +kernel
theorem dX9_most_247 : decode cX9_most 247 = .ok (.istore 4, 2) := by decide +kernel
theorem dX9_most_249 : decode cX9_most 249 = .ok (.iconst 0, 1) := by decide +kernel
theorem dX9_most_250 : decode cX9_most 250 = .ok (.istore 5, 2) := by decide +kernel
theorem dX9_most_252 : decode cX9_most 252 = .ok (.iload 5, 2) := by decide +kernel
theorem dX9_most_254 : decode cX9_most 254 = .ok (.iload_n 2, 1) := by decide +kernel
theorem dX9_most_255 : decode cX9_most 255 = .ok (.if_icmp .gt 140, 3) := by decide +kernel
theorem dX9_most_258 : decode cX9_most 258 = .ok (.aload_n 0, 1) := by decide +kernel
theorem dX9_most_259 : decode cX9_most 259 = .ok (.getfield 19, 3) := by decide +kernel
theorem dX9_most_262 : decode cX9_most 262 = .ok (.iconst 4, 1) := by decide +kernel
theorem dX9_most_263 : decode cX9_most 263 = .ok (.iload 5, 2) := by decide +kernel
theorem dX9_most_265 : decode cX9_most 265 = .ok (.imul, 1) := by decide +kernel
theorem dX9_most_266 : decode cX9_most 266 = .ok (.iaload, 1) := by decide +kernel
theorem dX9_most_267 : decode cX9_most 267 = .ok (.aload_n 0, 1) := by decide +kernel
theorem dX9_most_268 : decode cX9_most 268 = .ok (.getfield 19, 3) := by decide +kernel
theorem dX9_most_271 : decode cX9_most 271 = .ok (.iconst 4, 1) := by decide +kernel
theorem dX9_most_272 : decode cX9_most 272 = .ok (.iload 5, 2) := by decide +kernel
theorem dX9_most_274 : decode cX9_most 274 = .ok (.imul, 1) := by decide +kernel
theorem dX9_most_275 : decode cX9_most 275 = .ok (.iconst 2, 1) := by decide +kernel
theorem dX9_most_276 : decode cX9_most 276 = .ok (.iadd, 1) := by decide +kernel
theorem dX9_most_277 : decode cX9_most 277 = .ok (.iaload, 1) := by decide +kernel
theorem dX9_most_278 : decode cX9_most 278 = .ok (.imul, 1) := by decide +kernel
theorem dX9_most_279 : decode cX9_most 279 = .ok (.istore 6, 2) := by decide +kernel
theorem dX9_most_281 : decode cX9_most 281 = .ok (.aload_n 0, 1) := by decide +kernel
theorem dX9_most_282 : decode cX9_most 282 = .ok (.getfield 19, 3) := by decide +kernel
theorem dX9_most_285 : decode cX9_most 285 = .ok (.iconst 4, 1) := by decide +kernel
theorem dX9_most_286 : decode cX9_most 286 = .ok (.iload 5, 2) := by decide +kernel
theorem dX9_most_288 : decode cX9_most 288 = .ok (.imul, 1) := by decide +kernel
theorem dX9_most_289 : decode cX9_most 289 = .ok (.iconst 3, 1) := by decide +kernel
theorem dX9_most_290 : decode cX9_most 290 = .ok (.iadd, 1) := by decide +kernel
theorem dX9_most_291 : decode cX9_most 291 = .ok (.iaload, 1) := by decide +kernel
theorem dX9_most_292 : decode cX9_most 292 = .ok (.istore 4, 2) := by decide +kernel
theorem dX9_most_294 : decode cX9_most 294 = .ok (.iload 4, 2) := by decide +kernel
theorem dX9_most_296 : decode cX9_most 296 = .ok (.aload_n 0, 1) := by decide +kernel
theorem dX9_most_297 : decode cX9_most 297 = .ok (.getfield 19, 3) := by decide +kernel
theorem dX9_most_300 : decode cX9_most 300 = .ok (.iconst 4, 1) := by decide +kernel
theorem dX9_most_301 : decode cX9_most 301 = .ok (.iload 5, 2) := by decide +kernel
theorem dX9_most_303 : decode cX9_most 303 = .ok (.imul, 1) := by decide +kernel
theorem dX9_most_304 : decode cX9_most 304 = .ok (.iconst 1, 1) := by decide +kernel
theorem dX9_most_305 : decode cX9_most 305 = .ok (.iadd, 1) := by decide +kernel
theorem dX9_most_306 : decode cX9_most 306 = .ok (.iaload, 1) := by decide +kernel
theorem dX9_most_307 : decode cX9_most 307 = .ok (.imul, 1) := by decide +kernel
theorem dX9_most_308 : decode cX9_most 308 = .ok (.iload_n 3, 1) := by decide +kernel
theorem dX9_most_309 : decode cX9_most 309 = .ok (.if_icmp .gt 57, 3) := by decide +kernel
theorem dX9_most_312 : decode cX9_most 312 = .ok (.iload 4, 2) := by decide +kernel
theorem dX9_most_314 : decode cX9_most 314 = .ok (.iload 6, 2) := by decide +kernel
theorem dX9_most_316 : decode cX9_most 316 = .ok (.imul, 1) := by decide +kernel
theorem dX9_most_317 : decode cX9_most 317 = .ok (.aload_n 0, 1) := by decide +kernel
theorem dX9_most_318 : decode cX9_most 318 = .ok (.getfield 50, 3) := by decide +kernel
theorem dX9_most_321 : decode cX9_most 321 = .ok (.sipush 181, 3) := by decide +kernel
theorem dX9_most_324 : decode cX9_most 324 = .ok (.iload 5, 2) := by decide +kernel
theorem dX9_most_326 : decode cX9_most 326 = .ok (.imul, 1) := by decide +kernel
theorem dX9_most_327 : decode cX9_most 327 = .ok (.sipush 181, 3) := by decide +kernel
theorem dX9_most_330 : decode cX9_most 330 = .ok (.iadd, 1) := by decide +kernel
theorem dX9_most_331 : decode cX9_most 331 = .ok (.iload_n 3, 1) := by decide +kernel
theorem dX9_most_332 : decode cX9_most 332 = .ok (.iadd, 1) := by decide +kernel
theorem dX9_most_333 : decode cX9_most 333 = .ok (.iload 4, 2) := by decide +kernel
theorem dX9_most_335 : decode cX9_most 335 = .ok (.aload_n 0, 1) := by decide +kernel
theorem dX9_most_336 : decode cX9_most 336 = .ok (.getfield 19, 3) := by decide +kernel
theorem dX9_most_339 : decode cX9_most 339 = .ok (.iconst 4, 1) := by decide +kernel
theorem dX9_most_340 : decode cX9_most 340 = .ok (.iload 5, 2) := by decide +kernel
theorem dX9_most_342 : decode cX9_most 342 = .ok (.imul, 1) := by decide +kernel
theorem dX9_most_343 : decode cX9_most 343 = .ok (.iconst 1, 1) := by decide +kernel
theorem dX9_most_344 : decode cX9_most 344 = .ok (.iadd, 1) := by decide +kernel
theorem dX9_most_345 : decode cX9_most 345 = .ok (.iaload, 1) := by decide +kernel
theorem dX9_most_346 : decode cX9_most 346 = .ok (.imul, 1) := by decide +kernel
theorem dX9_most_347 : decode cX9_most 347 = .ok (.isub, 1) := by decide +kernel
theorem dX9_most_348 : decode cX9_most 348 = .ok (.iaload, 1) := by decide +kernel
theorem dX9_most_349 : decode cX9_most 349 = .ok (.iadd, 1) := by decide +kernel
theorem dX9_most_350 : decode cX9_most 350 = .ok (.aload_n 0, 1) := by decide +kernel
theorem dX9_most_351 : decode cX9_most 351 = .ok (.getfield 50, 3) := by decide +kernel
theorem dX9_most_354 : decode cX9_most 354 = .ok (.sipush 181, 3) := by decide +kernel
theorem dX9_most_357 : decode cX9_most 357 = .ok (.iload 5, 2) := by decide +kernel
theorem dX9_most_359 : decode cX9_most 359 = .ok (.imul, 1) := by decide +kernel
theorem dX9_most_360 : decode cX9_most 360 = .ok (.iload_n 3, 1) := by decide +kernel
theorem dX9_most_361 : decode cX9_most 361 = .ok (.iadd, 1) := by decide +kernel
theorem dX9_most_362 : decode cX9_most 362 = .ok (.iaload, 1) := by decide +kernel
theorem dX9_most_363 : decode cX9_most 363 = .ok (.if_icmp .ge 9, 3) := by decide +kernel
theorem dX9_most_366 : decode cX9_most 366 = .ok (.iinc 4 (-1), 3) := by decide +kernel
theorem dX9_most_369 : decode cX9_most 369 = .ok (.goto (-75), 3) := by decide +kernel
theorem dX9_most_372 : decode cX9_most 372 = .ok (.iload_n 3, 1) := by decide +kernel
theorem dX9_most_373 : decode cX9_most 373 = .ok (.iload 4, 2) := by decide +kernel
theorem dX9_most_375 : decode cX9_most 375 = .ok (.aload_n 0, 1) := by decide +kernel
theorem dX9_most_376 : decode cX9_most 376 = .ok (.getfield 19, 3) := by decide +kernel
theorem dX9_most_379 : decode cX9_most 379 = .ok (.iconst 4, 1) := by decide +kernel
theorem dX9_most_380 : decode cX9_most 380 = .ok (.iload 5, 2) := by decide +kernel
theorem dX9_most_382 : decode cX9_most 382 = .ok (.imul, 1) := by decide +kernel
theorem dX9_most_383 : decode cX9_most 383 = .ok (.iconst 1, 1) := by decide +kernel
theorem dX9_most_384 : decode cX9_most 384 = .ok (.iadd, 1) := by decide +kernel
theorem dX9_most_385 : decode cX9_most 385 = .ok (.iaload, 1) := by decide +kernel
theorem dX9_most_386 : decode cX9_most 386 = .ok (.imul, 1) := by decide +kernel
theorem dX9_most_387 : decode cX9_most 387 = .ok (.isub, 1) := by decide +kernel
theorem dX9_most_388 : decode cX9_most 388 = .ok (.istore_n 3, 1) := by decide +kernel
theorem dX9_most_389 : decode cX9_most 389 = .ok (.iinc 5 1, 3) := by decide +kernel
theorem dX9_most_392 : decode cX9_most 392 = .ok (.goto (-140), 3) := by decide +kernel
theorem dX9_most_395 : decode cX9_most 395 = .ok (.iload 4, 2) := by decide +kernel
theorem dX9_most_397 : decode cX9_most 397 = .ok (.ireturn, 1) := by decide +kernel
theorem dX9_row_0 : decode cX9_row 0 = .ok (.iload_n 1, 1) := by decide +kernel
theorem dX9_row_1 : decode cX9_row 1 = .ok (.i2l, 1) := by decide +kernel
theorem dX9_row_2 : decode cX9_row 2 = .ok (.lconst 0, 1) := by decide +kernel
theorem dX9_row_3 : decode cX9_row 3 = .ok (.aload_n 0, 1) := by decide +kernel
theorem dX9_row_4 : decode cX9_row 4 = .ok (.getfield 157, 3) := by decide +kernel
theorem dX9_row_7 : decode cX9_row 7 = .ok (.iconst 1, 1) := by decide +kernel
theorem dX9_row_8 : decode cX9_row 8 = .ok (.isub, 1) := by decide +kernel
theorem dX9_row_9 : decode cX9_row 9 = .ok (.i2l, 1) := by decide +kernel
theorem dX9_row_10 : decode cX9_row 10 = .ok (.invokestatic 71, 3) := by decide +kernel
theorem dX9_row_13 : decode cX9_row 13 = .ok (.ifCond .eq 15, 3) := by decide +kernel
theorem dX9_row_16 : decode cX9_row 16 = .ok (.iload_n 2, 1) := by decide +kernel
theorem dX9_row_17 : decode cX9_row 17 = .ok (.i2l, 1) := by decide +kernel
theorem dX9_row_18 : decode cX9_row 18 = .ok (.lconst 1, 1) := by decide +kernel
theorem dX9_row_19 : decode cX9_row 19 = .ok (.ldc2_w 89, 3) := by decide +kernel
theorem dX9_row_22 : decode cX9_row 22 = .ok (.invokestatic 71, 3) := by decide +kernel
theorem dX9_row_25 : decode cX9_row 25 = .ok (.ifCond .ne 5, 3) := by decide +kernel
theorem dX9_row_28 : decode cX9_row 28 = .ok (.iconst (-1), 1) := by decide +kernel
theorem dX9_row_29 : decode cX9_row 29 = .ok (.ireturn, 1) := by decide +kernel
theorem dX9_row_30 : decode cX9_row 30 = .ok (.sipush 1000, 3) := by decide +kernel
theorem dX9_row_33 : decode cX9_row 33 = .ok (.istore_n 3, 1) := by decide +kernel
theorem dX9_row_34 : decode cX9_row 34 = .ok (.iconst 0, 1) := by decide +kernel
theorem dX9_row_35 : decode cX9_row 35 = .ok (.istore 4, 2) := by decide +kernel
theorem dX9_row_37 : decode cX9_row 37 = .ok (.iload 4, 2) := by decide +kernel
theorem dX9_row_39 : decode cX9_row 39 = .ok (.iload_n 2, 1) := by decide +kernel
theorem dX9_row_40 : decode cX9_row 40 = .ok (.if_icmp .ge 23, 3) := by decide +kernel
theorem dX9_row_43 : decode cX9_row 43 = .ok (.iload_n 3, 1) := by decide +kernel
theorem dX9_row_44 : decode cX9_row 44 = .ok (.aload_n 0, 1) := by decide +kernel
theorem dX9_row_45 : decode cX9_row 45 = .ok (.getfield 19, 3) := by decide +kernel
theorem dX9_row_48 : decode cX9_row 48 = .ok (.iconst 4, 1) := by decide +kernel
theorem dX9_row_49 : decode cX9_row 49 = .ok (.iload_n 1, 1) := by decide +kernel
theorem dX9_row_50 : decode cX9_row 50 = .ok (.imul, 1) := by decide +kernel
theorem dX9_row_51 : decode cX9_row 51 = .ok (.iaload, 1) := by decide +kernel
theorem dX9_row_52 : decode cX9_row 52 = .ok (.imul, 1) := by decide +kernel
theorem dX9_row_53 : decode cX9_row 53 = .ok (.bipush 16, 2) := by decide +kernel
theorem dX9_row_55 : decode cX9_row 55 = .ok (.idiv, 1) := by decide +kernel
theorem dX9_row_56 : decode cX9_row 56 = .ok (.istore_n 3, 1) := by decide +kernel
theorem dX9_row_57 : decode cX9_row 57 = .ok (.iinc 4 1, 3) := by decide +kernel
theorem dX9_row_60 : decode cX9_row 60 = .ok (.goto (-23), 3) := by decide +kernel
theorem dX9_row_63 : decode cX9_row 63 = .ok (.iload_n 3, 1) := by decide +kernel
theorem dX9_row_64 : decode cX9_row 64 = .ok (.ireturn, 1) := by decide +kernel
theorem dX9_clear_0 : decode cX9_clear 0 = .ok (.aload_n 0, 1) := by decide +kernel
theorem dX9_clear_1 : decode cX9_clear 1 = .ok (.getfield 157, 3) := by decide +kernel
theorem dX9_clear_4 : decode cX9_clear 4 = .ok (.istore_n 1, 1) := by decide +kernel
theorem dX9_clear_5 : decode cX9_clear 5 = .ok (.aload_n 0, 1) := by decide +kernel
theorem dX9_clear_6 : decode cX9_clear 6 = .ok (.iconst 0, 1) := by decide +kernel
theorem dX9_clear_7 : decode cX9_clear 7 = .ok (.putfield 157, 3) := by decide +kernel
theorem dX9_clear_10 : decode cX9_clear 10 = .ok (.iload_n 1, 1) := by decide +kernel
theorem dX9_clear_11 : decode cX9_clear 11 = .ok (.ireturn, 1) := by decide +kernel
theorem dX9_cord_0 : decode cX9_cord 0 = .ok (.aload_n 0, 1) := by decide +kernel
theorem dX9_cord_1 : decode cX9_cord 1 = .ok (.iload_n 1, 1) := by decide +kernel
theorem dX9_cord_2 : decode cX9_cord 2 = .ok (.invokevirtual 95, 3) := by decide +kernel
theorem dX9_cord_5 : decode cX9_cord 5 = .ok (.ifCond .eq 13, 3) := by decide +kernel
theorem dX9_cord_8 : decode cX9_cord 8 = .ok (.iload_n 2, 1) := by decide +kernel
theorem dX9_cord_9 : decode cX9_cord 9 = .ok (.i2l, 1) := by decide +kernel
theorem dX9_cord_10 : decode cX9_cord 10 = .ok (.lconst 0, 1) := by decide +kernel
theorem dX9_cord_11 : decode cX9_cord 11 = .ok (.lconst 1, 1) := by decide +kernel
theorem dX9_cord_12 : decode cX9_cord 12 = .ok (.invokestatic 71, 3) := by decide +kernel
theorem dX9_cord_15 : decode cX9_cord 15 = .ok (.ifCond .ne 5, 3) := by decide +kernel
theorem dX9_cord_18 : decode cX9_cord 18 = .ok (.iconst (-1), 1) := by decide +kernel
theorem dX9_cord_19 : decode cX9_cord 19 = .ok (.ireturn, 1) := by decide +kernel
theorem dX9_cord_20 : decode cX9_cord 20 = .ok (.aload_n 0, 1) := by decide +kernel
theorem dX9_cord_21 : decode cX9_cord 21 = .ok (.getfield 100, 3) := by decide +kernel
theorem dX9_cord_24 : decode cX9_cord 24 = .ok (.ifCond .ne 6, 3) := by decide +kernel
theorem dX9_cord_27 : decode cX9_cord 27 = .ok (.bipush (-2), 2) := by decide +kernel
theorem dX9_cord_29 : decode cX9_cord 29 = .ok (.ireturn, 1) := by decide +kernel
theorem dX9_cord_30 : decode cX9_cord 30 = .ok (.aload_n 0, 1) := by decide +kernel
theorem dX9_cord_31 : decode cX9_cord 31 = .ok (.getfield 7, 3) := by decide +kernel
theorem dX9_cord_34 : decode cX9_cord 34 = .ok (.iconst 0, 1) := by decide +kernel
theorem dX9_cord_35 : decode cX9_cord 35 = .ok (.iaload, 1) := by decide +kernel
theorem dX9_cord_36 : decode cX9_cord 36 = .ok (.istore_n 3, 1) := by decide +kernel
theorem dX9_cord_37 : decode cX9_cord 37 = .ok (.bipush 10, 2) := by decide +kernel
theorem dX9_cord_39 : decode cX9_cord 39 = .ok (.istore 4, 2) := by decide +kernel
theorem dX9_cord_41 : decode cX9_cord 41 = .ok (.iconst (-1), 1) := by decide +kernel
theorem dX9_cord_42 : decode cX9_cord 42 = .ok (.istore 5, 2) := by decide +kernel
theorem dX9_cord_44 : decode cX9_cord 44 = .ok (.bipush 10, 2) := by decide +kernel
theorem dX9_cord_46 : decode cX9_cord 46 = .ok (.istore 6, 2) := by decide +kernel
theorem dX9_cord_48 : decode cX9_cord 48 = .ok (.iload 6, 2) := by decide +kernel
theorem dX9_cord_50 : decode cX9_cord 50 = .ok (.bipush 60, 2) := by decide +kernel
theorem dX9_cord_52 : decode cX9_cord 52 = .ok (.if_icmp .gt 56, 3) := by decide +kernel
theorem dX9_cord_55 : decode cX9_cord 55 = .ok (.aload_n 0, 1) := by decide +kernel
end
section
theorem dX9_cord_56 : decode cX9_cord 56 = .ok (.getfield 7, 3) := by decide +kernel
theorem dX9_cord_59 : decode cX9_cord 59 = .ok (.iconst 0, 1) := by decide +kernel
theorem dX9_cord_60 : decode cX9_cord 60 = .ok (.iload 6, 2) := by decide +kernel
theorem dX9_cord_62 : decode cX9_cord 62 = .ok (.iastore, 1) := by decide +kernel
theorem dX9_cord_63 : decode cX9_cord 63 = .ok (.aload_n 0, 1) := by decide +kernel
theorem dX9_cord_64 : decode cX9_cord 64 = .ok (.iload_n 1, 1) := by decide +kernel
theorem dX9_cord_65 : decode cX9_cord 65 = .ok (.invokevirtual 244, 3) := by decide +kernel
theorem dX9_cord_68 : decode cX9_cord 68 = .ok (.istore 7, 2) := by decide +kernel
theorem dX9_cord_70 : decode cX9_cord 70 = .ok (.iload 7, 2) := by decide +kernel
theorem dX9_cord_72 : decode cX9_cord 72 = .ok (.iload 5, 2) := by decide +kernel
theorem dX9_cord_74 : decode cX9_cord 74 = .ok (.if_icmp .le 8, 3) := by decide +kernel
theorem dX9_cord_77 : decode cX9_cord 77 = .ok (.iload 6, 2) := by decide +kernel
theorem dX9_cord_79 : decode cX9_cord 79 = .ok (.goto 5, 3) := by decide +kernel
theorem dX9_cord_82 : decode cX9_cord 82 = .ok (.iload 4, 2) := by decide +kernel
theorem dX9_cord_84 : decode cX9_cord 84 = .ok (.istore 4, 2) := by decide +kernel
theorem dX9_cord_86 : decode cX9_cord 86 = .ok (.iload 7, 2) := by decide +kernel
theorem dX9_cord_88 : decode cX9_cord 88 = .ok (.iload 5, 2) := by decide +kernel
theorem dX9_cord_90 : decode cX9_cord 90 = .ok (.if_icmp .le 8, 3) := by decide +kernel
theorem dX9_cord_93 : decode cX9_cord 93 = .ok (.iload 7, 2) := by decide +kernel
theorem dX9_cord_95 : decode cX9_cord 95 = .ok (.goto 5, 3) := by decide +kernel
theorem dX9_cord_98 : decode cX9_cord 98 = .ok (.iload 5, 2) := by decide +kernel
theorem dX9_cord_100 : decode cX9_cord 100 = .ok (.istore 5, 2) := by decide +kernel
theorem dX9_cord_102 : decode cX9_cord 102 = .ok (.iinc 6 1, 3) := by decide +kernel
theorem dX9_cord_105 : decode cX9_cord 105 = .ok (.goto (-57), 3) := by decide +kernel
theorem dX9_cord_108 : decode cX9_cord 108 = .ok (.aload_n 0, 1) := by decide +kernel
theorem dX9_cord_109 : decode cX9_cord 109 = .ok (.getfield 7, 3) := by decide +kernel
theorem dX9_cord_112 : decode cX9_cord 112 = .ok (.iconst 0, 1) := by decide +kernel
theorem dX9_cord_113 : decode cX9_cord 113 = .ok (.iload_n 3, 1) := by decide +kernel
theorem dX9_cord_114 : decode cX9_cord 114 = .ok (.iastore, 1) := by decide +kernel
theorem dX9_cord_115 : decode cX9_cord 115 = .ok (.iload_n 2, 1) := by decide +kernel
theorem dX9_cord_116 : decode cX9_cord 116 = .ok (.ifCond .ne 8, 3) := by decide +kernel
theorem dX9_cord_119 : decode cX9_cord 119 = .ok (.iload 4, 2) := by decide +kernel
theorem dX9_cord_121 : decode cX9_cord 121 = .ok (.goto 5, 3) := by decide +kernel
theorem dX9_cord_124 : decode cX9_cord 124 = .ok (.iload 5, 2) := by decide +kernel
theorem dX9_cord_126 : decode cX9_cord 126 = .ok (.ireturn, 1) := by decide +kernel
theorem dX9_down_0 : decode cX9_down 0 = .ok (.iload_n 1, 1) := by decide +kernel
theorem dX9_down_1 : decode cX9_down 1 = .ok (.i2l, 1) := by decide +kernel
theorem dX9_down_2 : decode cX9_down 2 = .ok (.lconst 0, 1) := by decide +kernel
theorem dX9_down_3 : decode cX9_down 3 = .ok (.ldc2_w 89, 3) := by decide +kernel
theorem dX9_down_6 : decode cX9_down 6 = .ok (.invokestatic 71, 3) := by decide +kernel
theorem dX9_down_9 : decode cX9_down 9 = .ok (.ifCond .eq 15, 3) := by decide +kernel
theorem dX9_down_12 : decode cX9_down 12 = .ok (.iload_n 2, 1) := by decide +kernel
theorem dX9_down_13 : decode cX9_down 13 = .ok (.i2l, 1) := by decide +kernel
theorem dX9_down_14 : decode cX9_down 14 = .ok (.lconst 0, 1) := by decide +kernel
theorem dX9_down_15 : decode cX9_down 15 = .ok (.ldc2_w 89, 3) := by decide +kernel
theorem dX9_down_18 : decode cX9_down 18 = .ok (.invokestatic 71, 3) := by decide +kernel
theorem dX9_down_21 : decode cX9_down 21 = .ok (.ifCond .ne 5, 3) := by decide +kernel
theorem dX9_down_24 : decode cX9_down 24 = .ok (.iconst (-1), 1) := by decide +kernel
theorem dX9_down_25 : decode cX9_down 25 = .ok (.ireturn, 1) := by decide +kernel
theorem dX9_down_26 : decode cX9_down 26 = .ok (.aload_n 0, 1) := by decide +kernel
theorem dX9_down_27 : decode cX9_down 27 = .ok (.iconst 1, 1) := by decide +kernel
theorem dX9_down_28 : decode cX9_down 28 = .ok (.putfield 194, 3) := by decide +kernel
theorem dX9_down_31 : decode cX9_down 31 = .ok (.aload_n 0, 1) := by decide +kernel
theorem dX9_down_32 : decode cX9_down 32 = .ok (.invokevirtual 222, 3) := by decide +kernel
theorem dX9_down_35 : decode cX9_down 35 = .ok (.aload_n 0, 1) := by decide +kernel
theorem dX9_down_36 : decode cX9_down 36 = .ok (.iconst 0, 1) := by decide +kernel
theorem dX9_down_37 : decode cX9_down 37 = .ok (.putfield 194, 3) := by decide +kernel
theorem dX9_down_40 : decode cX9_down 40 = .ok (.bipush (-4), 2) := by decide +kernel
theorem dX9_down_42 : decode cX9_down 42 = .ok (.istore_n 3, 1) := by decide +kernel
theorem dX9_down_43 : decode cX9_down 43 = .ok (.bipush 99, 2) := by decide +kernel
theorem dX9_down_45 : decode cX9_down 45 = .ok (.istore 4, 2) := by decide +kernel
theorem dX9_down_47 : decode cX9_down 47 = .ok (.iload 4, 2) := by decide +kernel
theorem dX9_down_49 : decode cX9_down 49 = .ok (.iload_n 1, 1) := by decide +kernel
theorem dX9_down_50 : decode cX9_down 50 = .ok (.if_icmp .lt 70, 3) := by decide +kernel
theorem dX9_down_53 : decode cX9_down 53 = .ok (.aload_n 0, 1) := by decide +kernel
theorem dX9_down_54 : decode cX9_down 54 = .ok (.getfield 28, 3) := by decide +kernel
theorem dX9_down_57 : decode cX9_down 57 = .ok (.bipush 9, 2) := by decide +kernel
theorem dX9_down_59 : decode cX9_down 59 = .ok (.iload 4, 2) := by decide +kernel
theorem dX9_down_61 : decode cX9_down 61 = .ok (.imul, 1) := by decide +kernel
theorem dX9_down_62 : decode cX9_down 62 = .ok (.iconst 2, 1) := by decide +kernel
theorem dX9_down_63 : decode cX9_down 63 = .ok (.iadd, 1) := by decide +kernel
theorem dX9_down_64 : decode cX9_down 64 = .ok (.iaload, 1) := by decide +kernel
theorem dX9_down_65 : decode cX9_down 65 = .ok (.aload_n 0, 1) := by decide +kernel
theorem dX9_down_66 : decode cX9_down 66 = .ok (.getfield 31, 3) := by decide +kernel
theorem dX9_down_69 : decode cX9_down 69 = .ok (.iload 4, 2) := by decide +kernel
theorem dX9_down_71 : decode cX9_down 71 = .ok (.iaload, 1) := by decide +kernel
theorem dX9_down_72 : decode cX9_down 72 = .ok (.isub, 1) := by decide +kernel
theorem dX9_down_73 : decode cX9_down 73 = .ok (.invokestatic 197, 3) := by decide +kernel
theorem dX9_down_76 : decode cX9_down 76 = .ok (.iload_n 2, 1) := by decide +kernel
theorem dX9_down_77 : decode cX9_down 77 = .ok (.if_icmp .gt 35, 3) := by decide +kernel
theorem dX9_down_80 : decode cX9_down 80 = .ok (.aload_n 0, 1) := by decide +kernel
theorem dX9_down_81 : decode cX9_down 81 = .ok (.getfield 28, 3) := by decide +kernel
theorem dX9_down_84 : decode cX9_down 84 = .ok (.bipush 9, 2) := by decide +kernel
theorem dX9_down_86 : decode cX9_down 86 = .ok (.iload 4, 2) := by decide +kernel
theorem dX9_down_88 : decode cX9_down 88 = .ok (.imul, 1) := by decide +kernel
theorem dX9_down_89 : decode cX9_down 89 = .ok (.iconst 3, 1) := by decide +kernel
theorem dX9_down_90 : decode cX9_down 90 = .ok (.iadd, 1) := by decide +kernel
theorem dX9_down_91 : decode cX9_down 91 = .ok (.iaload, 1) := by decide +kernel
theorem dX9_down_92 : decode cX9_down 92 = .ok (.aload_n 0, 1) := by decide +kernel
theorem dX9_down_93 : decode cX9_down 93 = .ok (.getfield 34, 3) := by decide +kernel
theorem dX9_down_96 : decode cX9_down 96 = .ok (.iload 4, 2) := by decide +kernel
theorem dX9_down_98 : decode cX9_down 98 = .ok (.iaload, 1) := by decide +kernel
theorem dX9_down_99 : decode cX9_down 99 = .ok (.isub, 1) := by decide +kernel
theorem dX9_down_100 : decode cX9_down 100 = .ok (.invokestatic 197, 3) := by decide +kernel
theorem dX9_down_103 : decode cX9_down 103 = .ok (.iload_n 2, 1) := by decide +kernel
theorem dX9_down_104 : decode cX9_down 104 = .ok (.if_icmp .gt 8, 3) := by decide +kernel
theorem dX9_down_107 : decode cX9_down 107 = .ok (.iload 4, 2) := by decide +kernel
theorem dX9_down_109 : decode cX9_down 109 = .ok (.goto 4, 3) := by decide +kernel
theorem dX9_down_112 : decode cX9_down 112 = .ok (.iload_n 3, 1) := by decide +kernel
theorem dX9_down_113 : decode cX9_down 113 = .ok (.istore_n 3, 1) := by decide +kernel
theorem dX9_down_114 : decode cX9_down 114 = .ok (.iinc 4 (-1), 3) := by decide +kernel
theorem dX9_down_117 : decode cX9_down 117 = .ok (.goto (-70), 3) := by decide +kernel
theorem dX9_down_120 : decode cX9_down 120 = .ok (.iload_n 3, 1) := by decide +kernel
theorem dX9_down_121 : decode cX9_down 121 = .ok (.ireturn, 1) := by decide +kernel
theorem dX9_filmed_0 : decode cX9_filmed 0 = .ok (.iload_n 1, 1) := by decide +kernel
theorem dX9_filmed_1 : decode cX9_filmed 1 = .ok (.invokestatic 253, 3) := by decide +kernel
theorem dX9_filmed_4 : decode cX9_filmed 4 = .ok (.ifCond .eq 36, 3) := by decide +kernel
theorem dX9_filmed_7 : decode cX9_filmed 7 = .ok (.iload_n 2, 1) := by decide +kernel
theorem dX9_filmed_8 : decode cX9_filmed 8 = .ok (.invokestatic 256, 3) := by decide +kernel
theorem dX9_filmed_11 : decode cX9_filmed 11 = .ok (.ifCond .eq 29, 3) := by decide +kernel
theorem dX9_filmed_14 : decode cX9_filmed 14 = .ok (.iload 4, 2) := by decide +kernel
theorem dX9_filmed_16 : decode cX9_filmed 16 = .ok (.i2l, 1) := by decide +kernel
theorem dX9_filmed_17 : decode cX9_filmed 17 = .ok (.lconst 1, 1) := by decide +kernel
theorem dX9_filmed_18 : decode cX9_filmed 18 = .ok (.ldc2_w 259, 3) := by decide +kernel
theorem dX9_filmed_21 : decode cX9_filmed 21 = .ok (.invokestatic 71, 3) := by decide +kernel
theorem dX9_filmed_24 : decode cX9_filmed 24 = .ok (.ifCond .eq 16, 3) := by decide +kernel
theorem dX9_filmed_27 : decode cX9_filmed 27 = .ok (.iload 5, 2) := by decide +kernel
theorem dX9_filmed_29 : decode cX9_filmed 29 = .ok (.i2l, 1) := by decide +kernel
theorem dX9_filmed_30 : decode cX9_filmed 30 = .ok (.lconst 0, 1) := by decide +kernel
theorem dX9_filmed_31 : decode cX9_filmed 31 = .ok (.ldc2_w 75, 3) := by decide +kernel
theorem dX9_filmed_34 : decode cX9_filmed 34 = .ok (.invokestatic 71, 3) := by decide +kernel
theorem dX9_filmed_37 : decode cX9_filmed 37 = .ok (.ifCond .ne 6, 3) := by decide +kernel
theorem dX9_filmed_40 : decode cX9_filmed 40 = .ok (.ldc 99, 2) := by decide +kernel
theorem dX9_filmed_42 : decode cX9_filmed 42 = .ok (.ireturn, 1) := by decide +kernel
theorem dX9_filmed_43 : decode cX9_filmed 43 = .ok (.aload_n 0, 1) := by decide +kernel
theorem dX9_filmed_44 : decode cX9_filmed 44 = .ok (.iload_n 1, 1) := by decide +kernel
theorem dX9_filmed_45 : decode cX9_filmed 45 = .ok (.iload_n 2, 1) := by decide +kernel
theorem dX9_filmed_46 : decode cX9_filmed 46 = .ok (.iload_n 3, 1) := by decide +kernel
theorem dX9_filmed_47 : decode cX9_filmed 47 = .ok (.iconst 2, 1) := by decide +kernel
theorem dX9_filmed_48 : decode cX9_filmed 48 = .ok (.iload 4, 2) := by decide +kernel
theorem dX9_filmed_50 : decode cX9_filmed 50 = .ok (.imul, 1) := by decide +kernel
theorem dX9_filmed_51 : decode cX9_filmed 51 = .ok (.invokevirtual 261, 3) := by decide +kernel
theorem dX9_filmed_54 : decode cX9_filmed 54 = .ok (.istore 6, 2) := by decide +kernel
theorem dX9_filmed_56 : decode cX9_filmed 56 = .ok (.iload 6, 2) := by decide +kernel
theorem dX9_filmed_58 : decode cX9_filmed 58 = .ok (.ifCond .ge 10, 3) := by decide +kernel
theorem dX9_filmed_61 : decode cX9_filmed 61 = .ok (.iload 6, 2) := by decide +kernel
theorem dX9_filmed_63 : decode cX9_filmed 63 = .ok (.ldc_w 265, 3) := by decide +kernel
theorem dX9_filmed_66 : decode cX9_filmed 66 = .ok (.isub, 1) := by decide +kernel
theorem dX9_filmed_67 : decode cX9_filmed 67 = .ok (.ireturn, 1) := by decide +kernel
theorem dX9_filmed_68 : decode cX9_filmed 68 = .ok (.aload_n 0, 1) := by decide +kernel
theorem dX9_filmed_69 : decode cX9_filmed 69 = .ok (.getfield 100, 3) := by decide +kernel
theorem dX9_filmed_72 : decode cX9_filmed 72 = .ok (.ifCond .ne 6, 3) := by decide +kernel
theorem dX9_filmed_75 : decode cX9_filmed 75 = .ok (.ldc 238, 2) := by decide +kernel
theorem dX9_filmed_77 : decode cX9_filmed 77 = .ok (.ireturn, 1) := by decide +kernel
theorem dX9_filmed_78 : decode cX9_filmed 78 = .ok (.iconst 0, 1) := by decide +kernel
theorem dX9_filmed_79 : decode cX9_filmed 79 = .ok (.istore 7, 2) := by decide +kernel
theorem dX9_filmed_81 : decode cX9_filmed 81 = .ok (.bipush (-4), 2) := by decide +kernel
theorem dX9_filmed_83 : decode cX9_filmed 83 = .ok (.istore 8, 2) := by decide +kernel
theorem dX9_filmed_85 : decode cX9_filmed 85 = .ok (.bipush 89, 2) := by decide +kernel
theorem dX9_filmed_87 : decode cX9_filmed 87 = .ok (.istore 9, 2) := by decide +kernel
theorem dX9_filmed_89 : decode cX9_filmed 89 = .ok (.iload 9, 2) := by decide +kernel
theorem dX9_filmed_91 : decode cX9_filmed 91 = .ok (.ifCond .lt 148, 3) := by decide +kernel
theorem dX9_filmed_94 : decode cX9_filmed 94 = .ok (.aload_n 0, 1) := by decide +kernel
theorem dX9_filmed_95 : decode cX9_filmed 95 = .ok (.iload 9, 2) := by decide +kernel
theorem dX9_filmed_97 : decode cX9_filmed 97 = .ok (.bipush 10, 2) := by decide +kernel
theorem dX9_filmed_99 : decode cX9_filmed 99 = .ok (.idiv, 1) := by decide +kernel
theorem dX9_filmed_100 : decode cX9_filmed 100 = .ok (.iconst 4, 1) := by decide +kernel
theorem dX9_filmed_101 : decode cX9_filmed 101 = .ok (.isub, 1) := by decide +kernel
theorem dX9_filmed_102 : decode cX9_filmed 102 = .ok (.iload 9, 2) := by decide +kernel
theorem dX9_filmed_104 : decode cX9_filmed 104 = .ok (.bipush 10, 2) := by decide +kernel
theorem dX9_filmed_106 : decode cX9_filmed 106 = .ok (.irem, 1) := by decide +kernel
theorem dX9_filmed_107 : decode cX9_filmed 107 = .ok (.invokevirtual 227, 3) := by decide +kernel
theorem dX9_filmed_110 : decode cX9_filmed 110 = .ok (.pop, 1) := by decide +kernel
theorem dX9_filmed_111 : decode cX9_filmed 111 = .ok (.iconst 1, 1) := by decide +kernel
theorem dX9_filmed_112 : decode cX9_filmed 112 = .ok (.istore 10, 2) := by decide +kernel
theorem dX9_filmed_114 : decode cX9_filmed 114 = .ok (.iconst 0, 1) := by decide +kernel
theorem dX9_filmed_115 : decode cX9_filmed 115 = .ok (.istore 11, 2) := by decide +kernel
theorem dX9_filmed_117 : decode cX9_filmed 117 = .ok (.iload 11, 2) := by decide +kernel
theorem dX9_filmed_119 : decode cX9_filmed 119 = .ok (.iload 4, 2) := by decide +kernel
theorem dX9_filmed_121 : decode cX9_filmed 121 = .ok (.if_icmp .ge 83, 3) := by decide +kernel
theorem dX9_filmed_124 : decode cX9_filmed 124 = .ok (.iload 10, 2) := by decide +kernel
theorem dX9_filmed_126 : decode cX9_filmed 126 = .ok (.ifCond .eq 69, 3) := by decide +kernel
theorem dX9_filmed_129 : decode cX9_filmed 129 = .ok (.aload_n 0, 1) := by decide +kernel
theorem dX9_filmed_130 : decode cX9_filmed 130 = .ok (.getfield 62, 3) := by decide +kernel
theorem dX9_filmed_133 : decode cX9_filmed 133 = .ok (.bipush 24, 2) := by decide +kernel
theorem dX9_filmed_135 : decode cX9_filmed 135 = .ok (.iload_n 1, 1) := by decide +kernel
theorem dX9_filmed_136 : decode cX9_filmed 136 = .ok (.imul, 1) := by decide +kernel
theorem dX9_filmed_137 : decode cX9_filmed 137 = .ok (.iload_n 3, 1) := by decide +kernel
theorem dX9_filmed_138 : decode cX9_filmed 138 = .ok (.iadd, 1) := by decide +kernel
theorem dX9_filmed_139 : decode cX9_filmed 139 = .ok (.iconst 2, 1) := by decide +kernel
theorem dX9_filmed_140 : decode cX9_filmed 140 = .ok (.iload 11, 2) := by decide +kernel
theorem dX9_filmed_142 : decode cX9_filmed 142 = .ok (.imul, 1) := by decide +kernel
theorem dX9_filmed_143 : decode cX9_filmed 143 = .ok (.iadd, 1) := by decide +kernel
theorem dX9_filmed_144 : decode cX9_filmed 144 = .ok (.iaload, 1) := by decide +kernel
theorem dX9_filmed_145 : decode cX9_filmed 145 = .ok (.aload_n 0, 1) := by decide +kernel
theorem dX9_filmed_146 : decode cX9_filmed 146 = .ok (.getfield 28, 3) := by decide +kernel
theorem dX9_filmed_149 : decode cX9_filmed 149 = .ok (.bipush 9, 2) := by decide +kernel
theorem dX9_filmed_151 : decode cX9_filmed 151 = .ok (.iload 11, 2) := by decide +kernel
theorem dX9_filmed_153 : decode cX9_filmed 153 = .ok (.imul, 1) := by decide +kernel
theorem dX9_filmed_154 : decode cX9_filmed 154 = .ok (.iaload, 1) := by decide +kernel
theorem dX9_filmed_155 : decode cX9_filmed 155 = .ok (.if_icmp .ne 40, 3) := by decide +kernel
theorem dX9_filmed_158 : decode cX9_filmed 158 = .ok (.aload_n 0, 1) := by decide +kernel
theorem dX9_filmed_159 : decode cX9_filmed 159 = .ok (.getfield 62, 3) := by decide +kernel
theorem dX9_filmed_162 : decode cX9_filmed 162 = .ok (.bipush 24, 2) := by decide +kernel
theorem dX9_filmed_164 : decode cX9_filmed 164 = .ok (.iload_n 1, 1) := by decide +kernel
theorem dX9_filmed_165 : decode cX9_filmed 165 = .ok (.imul, 1) := by decide +kernel
theorem dX9_filmed_166 : decode cX9_filmed 166 = .ok (.iload_n 3, 1) := by decide +kernel
theorem dX9_filmed_167 : decode cX9_filmed 167 = .ok (.iadd, 1) := by decide +kernel
theorem dX9_filmed_168 : decode cX9_filmed 168 = .ok (.iconst 2, 1) := by decide +kernel
theorem dX9_filmed_169 : decode cX9_filmed 169 = .ok (.iload 11, 2) := by decide +kernel
theorem dX9_filmed_171 : decode cX9_filmed 171 = .ok (.imul, 1) := by decide +kernel
theorem dX9_filmed_172 : decode cX9_filmed 172 = .ok (.iadd, 1) := by decide +kernel
theorem dX9_filmed_173 : decode cX9_filmed 173 = .ok (.iconst 1, 1) := by decide +kernel
theorem dX9_filmed_174 : decode cX9_filmed 174 = .ok (.iadd, 1) := by decide +kernel
theorem dX9_filmed_175 : decode cX9_filmed 175 = .ok (.iaload, 1) := by decide +kernel
theorem dX9_filmed_176 : decode cX9_filmed 176 = .ok (.aload_n 0, 1) := by decide +kernel
theorem dX9_filmed_177 : decode cX9_filmed 177 = .ok (.getfield 28, 3) := by decide +kernel
theorem dX9_filmed_180 : decode cX9_filmed 180 = .ok (.bipush 9, 2) := by decide +kernel
theorem dX9_filmed_182 : decode cX9_filmed 182 = .ok (.iload 11, 2) := by decide +kernel
theorem dX9_filmed_184 : decode cX9_filmed 184 = .ok (.imul, 1) := by decide +kernel
theorem dX9_filmed_185 : decode cX9_filmed 185 = .ok (.iconst 1, 1) := by decide +kernel
theorem dX9_filmed_186 : decode cX9_filmed 186 = .ok (.iadd, 1) := by decide +kernel
theorem dX9_filmed_187 : decode cX9_filmed 187 = .ok (.iaload, 1) := by decide +kernel
theorem dX9_filmed_188 : decode cX9_filmed 188 = .ok (.if_icmp .ne 7, 3) := by decide +kernel
theorem dX9_filmed_191 : decode cX9_filmed 191 = .ok (.iconst 1, 1) := by decide +kernel
theorem dX9_filmed_192 : decode cX9_filmed 192 = .ok (.goto 4, 3) := by decide +kernel
theorem dX9_filmed_195 : decode cX9_filmed 195 = .ok (.iconst 0, 1) := by decide +kernel
theorem dX9_filmed_196 : decode cX9_filmed 196 = .ok (.istore 10, 2) := by decide +kernel
theorem dX9_filmed_198 : decode cX9_filmed 198 = .ok (.iinc 11 1, 3) := by decide +kernel
theorem dX9_filmed_201 : decode cX9_filmed 201 = .ok (.goto (-84), 3) := by decide +kernel
theorem dX9_filmed_204 : decode cX9_filmed 204 = .ok (.iload 7, 2) := by decide +kernel
theorem dX9_filmed_206 : decode cX9_filmed 206 = .ok (.iload 10, 2) := by decide +kernel
theorem dX9_filmed_208 : decode cX9_filmed 208 = .ok (.ifCond .eq 7, 3) := by decide +kernel
theorem dX9_filmed_211 : decode cX9_filmed 211 = .ok (.iconst 1, 1) := by decide +kernel
theorem dX9_filmed_212 : decode cX9_filmed 212 = .ok (.goto 4, 3) := by decide +kernel
theorem dX9_filmed_215 : decode cX9_filmed 215 = .ok (.iconst 0, 1) := by decide +kernel
theorem dX9_filmed_216 : decode cX9_filmed 216 = .ok (.iadd, 1) := by decide +kernel
theorem dX9_filmed_217 : decode cX9_filmed 217 = .ok (.istore 7, 2) := by decide +kernel
theorem dX9_filmed_219 : decode cX9_filmed 219 = .ok (.iload 10, 2) := by decide +kernel
theorem dX9_filmed_221 : decode cX9_filmed 221 = .ok (.ifCond .eq 8, 3) := by decide +kernel
theorem dX9_filmed_224 : decode cX9_filmed 224 = .ok (.iload 9, 2) := by decide +kernel
theorem dX9_filmed_226 : decode cX9_filmed 226 = .ok (.goto 5, 3) := by decide +kernel
theorem dX9_filmed_229 : decode cX9_filmed 229 = .ok (.iload 8, 2) := by decide +kernel
theorem dX9_filmed_231 : decode cX9_filmed 231 = .ok (.istore 8, 2) := by decide +kernel
theorem dX9_filmed_233 : decode cX9_filmed 233 = .ok (.iinc 9 (-1), 3) := by decide +kernel
theorem dX9_filmed_236 : decode cX9_filmed 236 = .ok (.goto (-147), 3) := by decide +kernel
theorem dX9_filmed_239 : decode cX9_filmed 239 = .ok (.iload 5, 2) := by decide +kernel
theorem dX9_filmed_241 : decode cX9_filmed 241 = .ok (.ifCond .ne 8, 3) := by decide +kernel
theorem dX9_filmed_244 : decode cX9_filmed 244 = .ok (.iload 7, 2) := by decide +kernel
theorem dX9_filmed_246 : decode cX9_filmed 246 = .ok (.goto 34, 3) := by decide +kernel
theorem dX9_filmed_249 : decode cX9_filmed 249 = .ok (.iload 8, 2) := by decide +kernel
theorem dX9_filmed_251 : decode cX9_filmed 251 = .ok (.ifCond .ge 8, 3) := by decide +kernel
theorem dX9_filmed_254 : decode cX9_filmed 254 = .ok (.ldc 243, 2) := by decide +kernel
theorem dX9_filmed_256 : decode cX9_filmed 256 = .ok (.goto 24, 3) := by decide +kernel
theorem dX9_filmed_259 : decode cX9_filmed 259 = .ok (.iload 5, 2) := by decide +kernel
theorem dX9_filmed_261 : decode cX9_filmed 261 = .ok (.iconst 1, 1) := by decide +kernel
theorem dX9_filmed_262 : decode cX9_filmed 262 = .ok (.if_icmp .ne 13, 3) := by decide +kernel
theorem dX9_filmed_265 : decode cX9_filmed 265 = .ok (.iload 8, 2) := by decide +kernel
theorem dX9_filmed_267 : decode cX9_filmed 267 = .ok (.bipush 10, 2) := by decide +kernel
theorem dX9_filmed_269 : decode cX9_filmed 269 = .ok (.idiv, 1) := by decide +kernel
theorem dX9_filmed_270 : decode cX9_filmed 270 = .ok (.iconst 4, 1) := by decide +kernel
theorem dX9_filmed_271 : decode cX9_filmed 271 = .ok (.isub, 1) := by decide +kernel
theorem dX9_filmed_272 : decode cX9_filmed 272 = .ok (.goto 8, 3) := by decide +kernel
theorem dX9_filmed_275 : decode cX9_filmed 275 = .ok (.iload 8, 2) := by decide +kernel
theorem dX9_filmed_277 : decode cX9_filmed 277 = .ok (.bipush 10, 2) := by decide +kernel
theorem dX9_filmed_279 : decode cX9_filmed 279 = .ok (.irem, 1) := by decide +kernel
theorem dX9_filmed_280 : decode cX9_filmed 280 = .ok (.ireturn, 1) := by decide +kernel
theorem dX9_saves_0 : decode cX9_saves 0 = .ok (.iconst 0, 1) := by decide +kernel
theorem dX9_saves_1 : decode cX9_saves 1 = .ok (.istore_n 3, 1) := by decide +kernel
theorem dX9_saves_2 : decode cX9_saves 2 = .ok (.iload_n 3, 1) := by decide +kernel
theorem dX9_saves_3 : decode cX9_saves 3 = .ok (.aload_n 0, 1) := by decide +kernel
theorem dX9_saves_4 : decode cX9_saves 4 = .ok (.arraylength, 1) := by decide +kernel
theorem dX9_saves_5 : decode cX9_saves 5 = .ok (.if_icmp .ge 17, 3) := by decide +kernel
theorem dX9_saves_8 : decode cX9_saves 8 = .ok (.aload_n 1, 1) := by decide +kernel
theorem dX9_saves_9 : decode cX9_saves 9 = .ok (.iload_n 2, 1) := by decide +kernel
theorem dX9_saves_10 : decode cX9_saves 10 = .ok (.iload_n 3, 1) := by decide +kernel
theorem dX9_saves_11 : decode cX9_saves 11 = .ok (.iadd, 1) := by decide +kernel
theorem dX9_saves_12 : decode cX9_saves 12 = .ok (.aload_n 0, 1) := by decide +kernel
theorem dX9_saves_13 : decode cX9_saves 13 = .ok (.iload_n 3, 1) := by decide +kernel
theorem dX9_saves_14 : decode cX9_saves 14 = .ok (.iaload, 1) := by decide +kernel
theorem dX9_saves_15 : decode cX9_saves 15 = .ok (.iastore, 1) := by decide +kernel
theorem dX9_saves_16 : decode cX9_saves 16 = .ok (.iinc 3 1, 3) := by decide +kernel
theorem dX9_saves_19 : decode cX9_saves 19 = .ok (.goto (-17), 3) := by decide +kernel
theorem dX9_saves_22 : decode cX9_saves 22 = .ok (.iload_n 2, 1) := by decide +kernel
theorem dX9_saves_23 : decode cX9_saves 23 = .ok (.aload_n 0, 1) := by decide +kernel
theorem dX9_saves_24 : decode cX9_saves 24 = .ok (.arraylength, 1) := by decide +kernel
theorem dX9_saves_25 : decode cX9_saves 25 = .ok (.iadd, 1) := by decide +kernel
theorem dX9_saves_26 : decode cX9_saves 26 = .ok (.ireturn, 1) := by decide +kernel
theorem dX9_gives_0 : decode cX9_gives 0 = .ok (.iconst 0, 1) := by decide +kernel
theorem dX9_gives_1 : decode cX9_gives 1 = .ok (.istore_n 3, 1) := by decide +kernel
theorem dX9_gives_2 : decode cX9_gives 2 = .ok (.iload_n 3, 1) := by decide +kernel
theorem dX9_gives_3 : decode cX9_gives 3 = .ok (.aload_n 2, 1) := by decide +kernel
theorem dX9_gives_4 : decode cX9_gives 4 = .ok (.arraylength, 1) := by decide +kernel
theorem dX9_gives_5 : decode cX9_gives 5 = .ok (.if_icmp .ge 17, 3) := by decide +kernel
theorem dX9_gives_8 : decode cX9_gives 8 = .ok (.aload_n 2, 1) := by decide +kernel
theorem dX9_gives_9 : decode cX9_gives 9 = .ok (.iload_n 3, 1) := by decide +kernel
theorem dX9_gives_10 : decode cX9_gives 10 = .ok (.aload_n 0, 1) := by decide +kernel
theorem dX9_gives_11 : decode cX9_gives 11 = .ok (.iload_n 1, 1) := by decide +kernel
theorem dX9_gives_12 : decode cX9_gives 12 = .ok (.iload_n 3, 1) := by decide +kernel
theorem dX9_gives_13 : decode cX9_gives 13 = .ok (.iadd, 1) := by decide +kernel
theorem dX9_gives_14 : decode cX9_gives 14 = .ok (.iaload, 1) := by decide +kernel
theorem dX9_gives_15 : decode cX9_gives 15 = .ok (.iastore, 1) := by decide +kernel
theorem dX9_gives_16 : decode cX9_gives 16 = .ok (.iinc 3 1, 3) := by decide +kernel
theorem dX9_gives_19 : decode cX9_gives 19 = .ok (.goto (-17), 3) := by decide +kernel
theorem dX9_gives_22 : decode cX9_gives 22 = .ok (.iload_n 1, 1) := by decide +kernel
theorem dX9_gives_23 : decode cX9_gives 23 = .ok (.aload_n 2, 1) := by decide +kernel
theorem dX9_gives_24 : decode cX9_gives 24 = .ok (.arraylength, 1) := by decide +kernel
theorem dX9_gives_25 : decode cX9_gives 25 = .ok (.iadd, 1) := by decide +kernel
theorem dX9_gives_26 : decode cX9_gives 26 = .ok (.ireturn, 1) := by decide +kernel
theorem dX9_image_0 : decode cX9_image 0 = .ok (.aload_n 0, 1) := by decide +kernel
theorem dX9_image_1 : decode cX9_image 1 = .ok (.getfield 7, 3) := by decide +kernel
theorem dX9_image_4 : decode cX9_image 4 = .ok (.aload_n 0, 1) := by decide +kernel
theorem dX9_image_5 : decode cX9_image 5 = .ok (.getfield 53, 3) := by decide +kernel
theorem dX9_image_8 : decode cX9_image 8 = .ok (.iconst 0, 1) := by decide +kernel
theorem dX9_image_9 : decode cX9_image 9 = .ok (.invokestatic 266, 3) := by decide +kernel
theorem dX9_image_12 : decode cX9_image 12 = .ok (.istore_n 1, 1) := by decide +kernel
theorem dX9_image_13 : decode cX9_image 13 = .ok (.aload_n 0, 1) := by decide +kernel
theorem dX9_image_14 : decode cX9_image 14 = .ok (.getfield 13, 3) := by decide +kernel
theorem dX9_image_17 : decode cX9_image 17 = .ok (.aload_n 0, 1) := by decide +kernel
theorem dX9_image_18 : decode cX9_image 18 = .ok (.getfield 53, 3) := by decide +kernel
theorem dX9_image_21 : decode cX9_image 21 = .ok (.iload_n 1, 1) := by decide +kernel
theorem dX9_image_22 : decode cX9_image 22 = .ok (.invokestatic 266, 3) := by decide +kernel
theorem dX9_image_25 : decode cX9_image 25 = .ok (.istore_n 1, 1) := by decide +kernel
theorem dX9_image_26 : decode cX9_image 26 = .ok (.aload_n 0, 1) := by decide +kernel
theorem dX9_image_27 : decode cX9_image 27 = .ok (.getfield 16, 3) := by decide +kernel
theorem dX9_image_30 : decode cX9_image 30 = .ok (.aload_n 0, 1) := by decide +kernel
theorem dX9_image_31 : decode cX9_image 31 = .ok (.getfield 53, 3) := by decide +kernel
theorem dX9_image_34 : decode cX9_image 34 = .ok (.iload_n 1, 1) := by decide +kernel
theorem dX9_image_35 : decode cX9_image 35 = .ok (.invokestatic 266, 3) := by decide +kernel
theorem dX9_image_38 : decode cX9_image 38 = .ok (.istore_n 1, 1) := by decide +kernel
theorem dX9_image_39 : decode cX9_image 39 = .ok (.aload_n 0, 1) := by decide +kernel
theorem dX9_image_40 : decode cX9_image 40 = .ok (.getfield 19, 3) := by decide +kernel
theorem dX9_image_43 : decode cX9_image 43 = .ok (.aload_n 0, 1) := by decide +kernel
theorem dX9_image_44 : decode cX9_image 44 = .ok (.getfield 53, 3) := by decide +kernel
theorem dX9_image_47 : decode cX9_image 47 = .ok (.iload_n 1, 1) := by decide +kernel
theorem dX9_image_48 : decode cX9_image 48 = .ok (.invokestatic 266, 3) := by decide +kernel
theorem dX9_image_51 : decode cX9_image 51 = .ok (.istore_n 1, 1) := by decide +kernel
theorem dX9_image_52 : decode cX9_image 52 = .ok (.aload_n 0, 1) := by decide +kernel
theorem dX9_image_53 : decode cX9_image 53 = .ok (.getfield 53, 3) := by decide +kernel
theorem dX9_image_56 : decode cX9_image 56 = .ok (.iload_n 1, 1) := by decide +kernel
theorem dX9_image_57 : decode cX9_image 57 = .ok (.aload_n 0, 1) := by decide +kernel
theorem dX9_image_58 : decode cX9_image 58 = .ok (.getfield 68, 3) := by decide +kernel
theorem dX9_image_61 : decode cX9_image 61 = .ok (.iastore, 1) := by decide +kernel
theorem dX9_image_62 : decode cX9_image 62 = .ok (.aload_n 0, 1) := by decide +kernel
theorem dX9_image_63 : decode cX9_image 63 = .ok (.getfield 53, 3) := by decide +kernel
theorem dX9_image_66 : decode cX9_image 66 = .ok (.iload_n 1, 1) := by decide +kernel
theorem dX9_image_67 : decode cX9_image 67 = .ok (.iconst 1, 1) := by decide +kernel
theorem dX9_image_68 : decode cX9_image 68 = .ok (.iadd, 1) := by decide +kernel
theorem dX9_image_69 : decode cX9_image 69 = .ok (.aload_n 0, 1) := by decide +kernel
theorem dX9_image_70 : decode cX9_image 70 = .ok (.getfield 100, 3) := by decide +kernel
theorem dX9_image_73 : decode cX9_image 73 = .ok (.iastore, 1) := by decide +kernel
theorem dX9_image_74 : decode cX9_image 74 = .ok (.aload_n 0, 1) := by decide +kernel
theorem dX9_image_75 : decode cX9_image 75 = .ok (.getfield 53, 3) := by decide +kernel
theorem dX9_image_78 : decode cX9_image 78 = .ok (.iload_n 1, 1) := by decide +kernel
theorem dX9_image_79 : decode cX9_image 79 = .ok (.iconst 2, 1) := by decide +kernel
theorem dX9_image_80 : decode cX9_image 80 = .ok (.iadd, 1) := by decide +kernel
theorem dX9_image_81 : decode cX9_image 81 = .ok (.aload_n 0, 1) := by decide +kernel
theorem dX9_image_82 : decode cX9_image 82 = .ok (.getfield 157, 3) := by decide +kernel
theorem dX9_image_85 : decode cX9_image 85 = .ok (.iastore, 1) := by decide +kernel
theorem dX9_image_86 : decode cX9_image 86 = .ok (.aload_n 0, 1) := by decide +kernel
theorem dX9_image_87 : decode cX9_image 87 = .ok (.iconst 1, 1) := by decide +kernel
theorem dX9_image_88 : decode cX9_image 88 = .ok (.putfield 270, 3) := by decide +kernel
theorem dX9_image_91 : decode cX9_image 91 = .ok (.iconst 1, 1) := by decide +kernel
theorem dX9_image_92 : decode cX9_image 92 = .ok (.ireturn, 1) := by decide +kernel
theorem dX9_restore_0 : decode cX9_restore 0 = .ok (.aload_n 0, 1) := by decide +kernel
theorem dX9_restore_1 : decode cX9_restore 1 = .ok (.getfield 270, 3) := by decide +kernel
theorem dX9_restore_4 : decode cX9_restore 4 = .ok (.ifCond .ne 6, 3) := by decide +kernel
theorem dX9_restore_7 : decode cX9_restore 7 = .ok (.bipush (-4), 2) := by decide +kernel
theorem dX9_restore_9 : decode cX9_restore 9 = .ok (.ireturn, 1) := by decide +kernel
theorem dX9_restore_10 : decode cX9_restore 10 = .ok (.aload_n 0, 1) := by decide +kernel
theorem dX9_restore_11 : decode cX9_restore 11 = .ok (.getfield 53, 3) := by decide +kernel
theorem dX9_restore_14 : decode cX9_restore 14 = .ok (.iconst 0, 1) := by decide +kernel
theorem dX9_restore_15 : decode cX9_restore 15 = .ok (.aload_n 0, 1) := by decide +kernel
theorem dX9_restore_16 : decode cX9_restore 16 = .ok (.getfield 7, 3) := by decide +kernel
theorem dX9_restore_19 : decode cX9_restore 19 = .ok (.invokestatic 273, 3) := by decide +kernel
theorem dX9_restore_22 : decode cX9_restore 22 = .ok (.istore_n 1, 1) := by decide +kernel
theorem dX9_restore_23 : decode cX9_restore 23 = .ok (.aload_n 0, 1) := by decide +kernel
theorem dX9_restore_24 : decode cX9_restore 24 = .ok (.getfield 53, 3) := by decide +kernel
theorem dX9_restore_27 : decode cX9_restore 27 = .ok (.iload_n 1, 1) := by decide +kernel
theorem dX9_restore_28 : decode cX9_restore 28 = .ok (.aload_n 0, 1) := by decide +kernel
theorem dX9_restore_29 : decode cX9_restore 29 = .ok (.getfield 13, 3) := by decide +kernel
theorem dX9_restore_32 : decode cX9_restore 32 = .ok (.invokestatic 273, 3) := by decide +kernel
theorem dX9_restore_35 : decode cX9_restore 35 = .ok (.istore_n 1, 1) := by decide +kernel
theorem dX9_restore_36 : decode cX9_restore 36 = .ok (.aload_n 0, 1) := by decide +kernel
theorem dX9_restore_37 : decode cX9_restore 37 = .ok (.getfield 53, 3) := by decide +kernel
theorem dX9_restore_40 : decode cX9_restore 40 = .ok (.iload_n 1, 1) := by decide +kernel
theorem dX9_restore_41 : decode cX9_restore 41 = .ok (.aload_n 0, 1) := by decide +kernel
theorem dX9_restore_42 : decode cX9_restore 42 = .ok (.getfield 16, 3) := by decide +kernel
theorem dX9_restore_45 : decode cX9_restore 45 = .ok (.invokestatic 273, 3) := by decide +kernel
theorem dX9_restore_48 : decode cX9_restore 48 = .ok (.istore_n 1, 1) := by decide +kernel
theorem dX9_restore_49 : decode cX9_restore 49 = .ok (.aload_n 0, 1) := by decide +kernel
theorem dX9_restore_50 : decode cX9_restore 50 = .ok (.getfield 53, 3) := by decide +kernel
theorem dX9_restore_53 : decode cX9_restore 53 = .ok (.iload_n 1, 1) := by decide +kernel
theorem dX9_restore_54 : decode cX9_restore 54 = .ok (.aload_n 0, 1) := by decide +kernel
theorem dX9_restore_55 : decode cX9_restore 55 = .ok (.getfield 19, 3) := by decide +kernel
theorem dX9_restore_58 : decode cX9_restore 58 = .ok (.invokestatic 273, 3) := by decide +kernel
theorem dX9_restore_61 : decode cX9_restore 61 = .ok (.istore_n 1, 1) := by decide +kernel
theorem dX9_restore_62 : decode cX9_restore 62 = .ok (.aload_n 0, 1) := by decide +kernel
theorem dX9_restore_63 : decode cX9_restore 63 = .ok (.aload_n 0, 1) := by decide +kernel
theorem dX9_restore_64 : decode cX9_restore 64 = .ok (.getfield 53, 3) := by decide +kernel
theorem dX9_restore_67 : decode cX9_restore 67 = .ok (.iload_n 1, 1) := by decide +kernel
theorem dX9_restore_68 : decode cX9_restore 68 = .ok (.iaload, 1) := by decide +kernel
theorem dX9_restore_69 : decode cX9_restore 69 = .ok (.putfield 68, 3) := by decide +kernel
theorem dX9_restore_72 : decode cX9_restore 72 = .ok (.aload_n 0, 1) := by decide +kernel
theorem dX9_restore_73 : decode cX9_restore 73 = .ok (.aload_n 0, 1) := by decide +kernel
theorem dX9_restore_74 : decode cX9_restore 74 = .ok (.getfield 53, 3) := by decide +kernel
theorem dX9_restore_77 : decode cX9_restore 77 = .ok (.iload_n 1, 1) := by decide +kernel
theorem dX9_restore_78 : decode cX9_restore 78 = .ok (.iconst 1, 1) := by decide +kernel
theorem dX9_restore_79 : decode cX9_restore 79 = .ok (.iadd, 1) := by decide +kernel
theorem dX9_restore_80 : decode cX9_restore 80 = .ok (.iaload, 1) := by decide +kernel
theorem dX9_restore_81 : decode cX9_restore 81 = .ok (.putfield 100, 3) := by decide +kernel
theorem dX9_restore_84 : decode cX9_restore 84 = .ok (.aload_n 0, 1) := by decide +kernel
theorem dX9_restore_85 : decode cX9_restore 85 = .ok (.aload_n 0, 1) := by decide +kernel
theorem dX9_restore_86 : decode cX9_restore 86 = .ok (.getfield 53, 3) := by decide +kernel
theorem dX9_restore_89 : decode cX9_restore 89 = .ok (.iload_n 1, 1) := by decide +kernel
theorem dX9_restore_90 : decode cX9_restore 90 = .ok (.iconst 2, 1) := by decide +kernel
theorem dX9_restore_91 : decode cX9_restore 91 = .ok (.iadd, 1) := by decide +kernel
theorem dX9_restore_92 : decode cX9_restore 92 = .ok (.iaload, 1) := by decide +kernel
theorem dX9_restore_93 : decode cX9_restore 93 = .ok (.putfield 157, 3) := by decide +kernel
theorem dX9_restore_96 : decode cX9_restore 96 = .ok (.iconst 1, 1) := by decide +kernel
theorem dX9_restore_97 : decode cX9_restore 97 = .ok (.ireturn, 1) := by decide +kernel
theorem dX9_isSheet_0 : decode cX9_isSheet 0 = .ok (.iload_n 0, 1) := by decide +kernel
theorem dX9_isSheet_1 : decode cX9_isSheet 1 = .ok (.i2l, 1) := by decide +kernel
theorem dX9_isSheet_2 : decode cX9_isSheet 2 = .ok (.lconst 0, 1) := by decide +kernel
theorem dX9_isSheet_3 : decode cX9_isSheet 3 = .ok (.ldc2_w 225, 3) := by decide +kernel
theorem dX9_isSheet_6 : decode cX9_isSheet 6 = .ok (.invokestatic 71, 3) := by decide +kernel
theorem dX9_isSheet_9 : decode cX9_isSheet 9 = .ok (.ireturn, 1) := by decide +kernel
theorem dX9_isLane_0 : decode cX9_isLane 0 = .ok (.iload_n 0, 1) := by decide +kernel
theorem dX9_isLane_1 : decode cX9_isLane 1 = .ok (.i2l, 1) := by decide +kernel
theorem dX9_isLane_2 : decode cX9_isLane 2 = .ok (.lconst 0, 1) := by decide +kernel
theorem dX9_isLane_3 : decode cX9_isLane 3 = .ok (.ldc2_w 75, 3) := by decide +kernel
theorem dX9_isLane_6 : decode cX9_isLane 6 = .ok (.invokestatic 71, 3) := by decide +kernel
theorem dX9_isLane_9 : decode cX9_isLane 9 = .ok (.ireturn, 1) := by decide +kernel
theorem dX9_finds_0 : decode cX9_finds 0 = .ok (.aload_n 0, 1) := by decide +kernel
theorem dX9_finds_1 : decode cX9_finds 1 = .ok (.getfield 56, 3) := by decide +kernel
theorem dX9_finds_4 : decode cX9_finds 4 = .ok (.iload_n 1, 1) := by decide +kernel
theorem dX9_finds_5 : decode cX9_finds 5 = .ok (.iaload, 1) := by decide +kernel
theorem dX9_finds_6 : decode cX9_finds 6 = .ok (.ifCond .ge 6, 3) := by decide +kernel
theorem dX9_finds_9 : decode cX9_finds 9 = .ok (.bipush (-11), 2) := by decide +kernel
theorem dX9_finds_11 : decode cX9_finds 11 = .ok (.ireturn, 1) := by decide +kernel
theorem dX9_finds_12 : decode cX9_finds 12 = .ok (.aload_n 0, 1) := by decide +kernel
theorem dX9_finds_13 : decode cX9_finds 13 = .ok (.getfield 56, 3) := by decide +kernel
theorem dX9_finds_16 : decode cX9_finds 16 = .ok (.iload_n 1, 1) := by decide +kernel
theorem dX9_finds_17 : decode cX9_finds 17 = .ok (.iaload, 1) := by decide +kernel
theorem dX9_finds_18 : decode cX9_finds 18 = .ok (.iload_n 2, 1) := by decide +kernel
theorem dX9_finds_19 : decode cX9_finds 19 = .ok (.if_icmp .eq 6, 3) := by decide +kernel
theorem dX9_finds_22 : decode cX9_finds 22 = .ok (.bipush (-12), 2) := by decide +kernel
theorem dX9_finds_24 : decode cX9_finds 24 = .ok (.ireturn, 1) := by decide +kernel
theorem dX9_finds_25 : decode cX9_finds 25 = .ok (.iload_n 3, 1) := by decide +kernel
theorem dX9_finds_26 : decode cX9_finds 26 = .ok (.ifCond .lt 20, 3) := by decide +kernel
theorem dX9_finds_29 : decode cX9_finds 29 = .ok (.iload_n 3, 1) := by decide +kernel
theorem dX9_finds_30 : decode cX9_finds 30 = .ok (.i2l, 1) := by decide +kernel
theorem dX9_finds_31 : decode cX9_finds 31 = .ok (.iload 4, 2) := by decide +kernel
theorem dX9_finds_33 : decode cX9_finds 33 = .ok (.i2l, 1) := by decide +kernel
theorem dX9_finds_34 : decode cX9_finds 34 = .ok (.ladd, 1) := by decide +kernel
theorem dX9_finds_35 : decode cX9_finds 35 = .ok (.aload_n 0, 1) := by decide +kernel
theorem dX9_finds_36 : decode cX9_finds 36 = .ok (.getfield 59, 3) := by decide +kernel
theorem dX9_finds_39 : decode cX9_finds 39 = .ok (.iload_n 1, 1) := by decide +kernel
theorem dX9_finds_40 : decode cX9_finds 40 = .ok (.iaload, 1) := by decide +kernel
theorem dX9_finds_41 : decode cX9_finds 41 = .ok (.i2l, 1) := by decide +kernel
theorem dX9_finds_42 : decode cX9_finds 42 = .ok (.lcmp, 1) := by decide +kernel
theorem dX9_finds_43 : decode cX9_finds 43 = .ok (.ifCond .le 8, 3) := by decide +kernel
theorem dX9_finds_46 : decode cX9_finds 46 = .ok (.bipush (-13), 2) := by decide +kernel
theorem dX9_finds_48 : decode cX9_finds 48 = .ok (.goto 4, 3) := by decide +kernel
theorem dX9_finds_51 : decode cX9_finds 51 = .ok (.iconst 0, 1) := by decide +kernel
theorem dX9_finds_52 : decode cX9_finds 52 = .ok (.ireturn, 1) := by decide +kernel
theorem dX9_cast_0 : decode cX9_cast 0 = .ok (.iload_n 0, 1) := by decide +kernel
theorem dX9_cast_1 : decode cX9_cast 1 = .ok (.ifCond .ne 8, 3) := by decide +kernel
theorem dX9_cast_4 : decode cX9_cast 4 = .ok (.iload_n 1, 1) := by decide +kernel
theorem dX9_cast_5 : decode cX9_cast 5 = .ok (.i2b, 1) := by decide +kernel
theorem dX9_cast_6 : decode cX9_cast 6 = .ok (.goto 14, 3) := by decide +kernel
theorem dX9_cast_9 : decode cX9_cast 9 = .ok (.iload_n 0, 1) := by decide +kernel
theorem dX9_cast_10 : decode cX9_cast 10 = .ok (.iconst 1, 1) := by decide +kernel
theorem dX9_cast_11 : decode cX9_cast 11 = .ok (.if_icmp .ne 8, 3) := by decide +kernel
theorem dX9_cast_14 : decode cX9_cast 14 = .ok (.iload_n 1, 1) := by decide +kernel
theorem dX9_cast_15 : decode cX9_cast 15 = .ok (.i2s, 1) := by decide +kernel
theorem dX9_cast_16 : decode cX9_cast 16 = .ok (.goto 4, 3) := by decide +kernel
theorem dX9_cast_19 : decode cX9_cast 19 = .ok (.iload_n 1, 1) := by decide +kernel
theorem dX9_cast_20 : decode cX9_cast 20 = .ok (.ireturn, 1) := by decide +kernel
theorem dX9_film_0 : decode cX9_film 0 = .ok (.iload_n 1, 1) := by decide +kernel
theorem dX9_film_1 : decode cX9_film 1 = .ok (.invokestatic 253, 3) := by decide +kernel
theorem dX9_film_4 : decode cX9_film 4 = .ok (.ifCond .eq 23, 3) := by decide +kernel
theorem dX9_film_7 : decode cX9_film 7 = .ok (.iload_n 2, 1) := by decide +kernel
theorem dX9_film_8 : decode cX9_film 8 = .ok (.invokestatic 256, 3) := by decide +kernel
theorem dX9_film_11 : decode cX9_film 11 = .ok (.ifCond .eq 16, 3) := by decide +kernel
theorem dX9_film_14 : decode cX9_film 14 = .ok (.iload 4, 2) := by decide +kernel
theorem dX9_film_16 : decode cX9_film 16 = .ok (.i2l, 1) := by decide +kernel
theorem dX9_film_17 : decode cX9_film 17 = .ok (.lconst 1, 1) := by decide +kernel
theorem dX9_film_18 : decode cX9_film 18 = .ok (.ldc2_w 259, 3) := by decide +kernel
theorem dX9_film_21 : decode cX9_film 21 = .ok (.invokestatic 71, 3) := by decide +kernel
theorem dX9_film_24 : decode cX9_film 24 = .ok (.ifCond .ne 5, 3) := by decide +kernel
theorem dX9_film_27 : decode cX9_film 27 = .ok (.iconst (-1), 1) := by decide +kernel
theorem dX9_film_28 : decode cX9_film 28 = .ok (.ireturn, 1) := by decide +kernel
theorem dX9_film_29 : decode cX9_film 29 = .ok (.aload_n 0, 1) := by decide +kernel
theorem dX9_film_30 : decode cX9_film 30 = .ok (.iload_n 1, 1) := by decide +kernel
theorem dX9_film_31 : decode cX9_film 31 = .ok (.iload_n 2, 1) := by decide +kernel
theorem dX9_film_32 : decode cX9_film 32 = .ok (.iload_n 3, 1) := by decide +kernel
theorem dX9_film_33 : decode cX9_film 33 = .ok (.iconst 2, 1) := by decide +kernel
theorem dX9_film_34 : decode cX9_film 34 = .ok (.iload 4, 2) := by decide +kernel
theorem dX9_film_36 : decode cX9_film 36 = .ok (.imul, 1) := by decide +kernel
theorem dX9_film_37 : decode cX9_film 37 = .ok (.invokevirtual 261, 3) := by decide +kernel
theorem dX9_film_40 : decode cX9_film 40 = .ok (.istore 5, 2) := by decide +kernel
theorem dX9_film_42 : decode cX9_film 42 = .ok (.iload 5, 2) := by decide +kernel
theorem dX9_film_44 : decode cX9_film 44 = .ok (.ifCond .ge 6, 3) := by decide +kernel
theorem dX9_film_47 : decode cX9_film 47 = .ok (.iload 5, 2) := by decide +kernel
theorem dX9_film_49 : decode cX9_film 49 = .ok (.ireturn, 1) := by decide +kernel
theorem dX9_film_50 : decode cX9_film 50 = .ok (.aload_n 0, 1) := by decide +kernel
theorem dX9_film_51 : decode cX9_film 51 = .ok (.invokevirtual 222, 3) := by decide +kernel
theorem dX9_film_54 : decode cX9_film 54 = .ok (.iconst 0, 1) := by decide +kernel
theorem dX9_film_55 : decode cX9_film 55 = .ok (.istore 6, 2) := by decide +kernel
theorem dX9_film_57 : decode cX9_film 57 = .ok (.iload 6, 2) := by decide +kernel
theorem dX9_film_59 : decode cX9_film 59 = .ok (.iload 4, 2) := by decide +kernel
theorem dX9_film_61 : decode cX9_film 61 = .ok (.if_icmp .ge 73, 3) := by decide +kernel
theorem dX9_film_64 : decode cX9_film 64 = .ok (.aload_n 0, 1) := by decide +kernel
theorem dX9_film_65 : decode cX9_film 65 = .ok (.getfield 62, 3) := by decide +kernel
theorem dX9_film_68 : decode cX9_film 68 = .ok (.bipush 24, 2) := by decide +kernel
theorem dX9_film_70 : decode cX9_film 70 = .ok (.iload_n 1, 1) := by decide +kernel
theorem dX9_film_71 : decode cX9_film 71 = .ok (.imul, 1) := by decide +kernel
theorem dX9_film_72 : decode cX9_film 72 = .ok (.iload_n 3, 1) := by decide +kernel
theorem dX9_film_73 : decode cX9_film 73 = .ok (.iadd, 1) := by decide +kernel
theorem dX9_film_74 : decode cX9_film 74 = .ok (.iconst 2, 1) := by decide +kernel
theorem dX9_film_75 : decode cX9_film 75 = .ok (.iload 6, 2) := by decide +kernel
theorem dX9_film_77 : decode cX9_film 77 = .ok (.imul, 1) := by decide +kernel
theorem dX9_film_78 : decode cX9_film 78 = .ok (.iadd, 1) := by decide +kernel
theorem dX9_film_79 : decode cX9_film 79 = .ok (.iload_n 2, 1) := by decide +kernel
theorem dX9_film_80 : decode cX9_film 80 = .ok (.aload_n 0, 1) := by decide +kernel
theorem dX9_film_81 : decode cX9_film 81 = .ok (.getfield 28, 3) := by decide +kernel
theorem dX9_film_84 : decode cX9_film 84 = .ok (.bipush 9, 2) := by decide +kernel
theorem dX9_film_86 : decode cX9_film 86 = .ok (.iload 6, 2) := by decide +kernel
theorem dX9_film_88 : decode cX9_film 88 = .ok (.imul, 1) := by decide +kernel
theorem dX9_film_89 : decode cX9_film 89 = .ok (.iaload, 1) := by decide +kernel
theorem dX9_film_90 : decode cX9_film 90 = .ok (.invokestatic 277, 3) := by decide +kernel
theorem dX9_film_93 : decode cX9_film 93 = .ok (.iastore, 1) := by decide +kernel
theorem dX9_film_94 : decode cX9_film 94 = .ok (.aload_n 0, 1) := by decide +kernel
theorem dX9_film_95 : decode cX9_film 95 = .ok (.getfield 62, 3) := by decide +kernel
theorem dX9_film_98 : decode cX9_film 98 = .ok (.bipush 24, 2) := by decide +kernel
theorem dX9_film_100 : decode cX9_film 100 = .ok (.iload_n 1, 1) := by decide +kernel
theorem dX9_film_101 : decode cX9_film 101 = .ok (.imul, 1) := by decide +kernel
theorem dX9_film_102 : decode cX9_film 102 = .ok (.iload_n 3, 1) := by decide +kernel
theorem dX9_film_103 : decode cX9_film 103 = .ok (.iadd, 1) := by decide +kernel
theorem dX9_film_104 : decode cX9_film 104 = .ok (.iconst 2, 1) := by decide +kernel
theorem dX9_film_105 : decode cX9_film 105 = .ok (.iload 6, 2) := by decide +kernel
theorem dX9_film_107 : decode cX9_film 107 = .ok (.imul, 1) := by decide +kernel
theorem dX9_film_108 : decode cX9_film 108 = .ok (.iadd, 1) := by decide +kernel
theorem dX9_film_109 : decode cX9_film 109 = .ok (.iconst 1, 1) := by decide +kernel
theorem dX9_film_110 : decode cX9_film 110 = .ok (.iadd, 1) := by decide +kernel
theorem dX9_film_111 : decode cX9_film 111 = .ok (.iload_n 2, 1) := by decide +kernel
theorem dX9_film_112 : decode cX9_film 112 = .ok (.aload_n 0, 1) := by decide +kernel
theorem dX9_film_113 : decode cX9_film 113 = .ok (.getfield 28, 3) := by decide +kernel
theorem dX9_film_116 : decode cX9_film 116 = .ok (.bipush 9, 2) := by decide +kernel
theorem dX9_film_118 : decode cX9_film 118 = .ok (.iload 6, 2) := by decide +kernel
theorem dX9_film_120 : decode cX9_film 120 = .ok (.imul, 1) := by decide +kernel
theorem dX9_film_121 : decode cX9_film 121 = .ok (.iconst 1, 1) := by decide +kernel
theorem dX9_film_122 : decode cX9_film 122 = .ok (.iadd, 1) := by decide +kernel
theorem dX9_film_123 : decode cX9_film 123 = .ok (.iaload, 1) := by decide +kernel
theorem dX9_film_124 : decode cX9_film 124 = .ok (.invokestatic 277, 3) := by decide +kernel
theorem dX9_film_127 : decode cX9_film 127 = .ok (.iastore, 1) := by decide +kernel
theorem dX9_film_128 : decode cX9_film 128 = .ok (.iinc 6 1, 3) := by decide +kernel
theorem dX9_film_131 : decode cX9_film 131 = .ok (.goto (-74), 3) := by decide +kernel
theorem dX9_film_134 : decode cX9_film 134 = .ok (.iconst 2, 1) := by decide +kernel
theorem dX9_film_135 : decode cX9_film 135 = .ok (.iload 4, 2) := by decide +kernel
theorem dX9_film_137 : decode cX9_film 137 = .ok (.imul, 1) := by decide +kernel
theorem dX9_film_138 : decode cX9_film 138 = .ok (.ireturn, 1) := by decide +kernel
theorem dX9_sheet_0 : decode cX9_sheet 0 = .ok (.iload_n 1, 1) := by decide +kernel
theorem dX9_sheet_1 : decode cX9_sheet 1 = .ok (.invokestatic 253, 3) := by decide +kernel
theorem dX9_sheet_4 : decode cX9_sheet 4 = .ok (.ifCond .eq 16, 3) := by decide +kernel
theorem dX9_sheet_7 : decode cX9_sheet 7 = .ok (.iload_n 2, 1) := by decide +kernel
theorem dX9_sheet_8 : decode cX9_sheet 8 = .ok (.invokestatic 256, 3) := by decide +kernel
theorem dX9_sheet_11 : decode cX9_sheet 11 = .ok (.ifCond .eq 9, 3) := by decide +kernel
theorem dX9_sheet_14 : decode cX9_sheet 14 = .ok (.iload_n 3, 1) := by decide +kernel
theorem dX9_sheet_15 : decode cX9_sheet 15 = .ok (.bipush 24, 2) := by decide +kernel
theorem dX9_sheet_17 : decode cX9_sheet 17 = .ok (.if_icmp .le 5, 3) := by decide +kernel
theorem dX9_sheet_20 : decode cX9_sheet 20 = .ok (.iconst (-1), 1) := by decide +kernel
theorem dX9_sheet_21 : decode cX9_sheet 21 = .ok (.ireturn, 1) := by decide +kernel
theorem dX9_sheet_22 : decode cX9_sheet 22 = .ok (.iload_n 3, 1) := by decide +kernel
theorem dX9_sheet_23 : decode cX9_sheet 23 = .ok (.ifCond .ge 6, 3) := by decide +kernel
theorem dX9_sheet_26 : decode cX9_sheet 26 = .ok (.bipush (-14), 2) := by decide +kernel
theorem dX9_sheet_28 : decode cX9_sheet 28 = .ok (.ireturn, 1) := by decide +kernel
theorem dX9_sheet_29 : decode cX9_sheet 29 = .ok (.aload_n 0, 1) := by decide +kernel
theorem dX9_sheet_30 : decode cX9_sheet 30 = .ok (.getfield 56, 3) := by decide +kernel
theorem dX9_sheet_33 : decode cX9_sheet 33 = .ok (.iload_n 1, 1) := by decide +kernel
theorem dX9_sheet_34 : decode cX9_sheet 34 = .ok (.iload_n 2, 1) := by decide +kernel
theorem dX9_sheet_35 : decode cX9_sheet 35 = .ok (.iastore, 1) := by decide +kernel
theorem dX9_sheet_36 : decode cX9_sheet 36 = .ok (.aload_n 0, 1) := by decide +kernel
theorem dX9_sheet_37 : decode cX9_sheet 37 = .ok (.getfield 59, 3) := by decide +kernel
theorem dX9_sheet_40 : decode cX9_sheet 40 = .ok (.iload_n 1, 1) := by decide +kernel
theorem dX9_sheet_41 : decode cX9_sheet 41 = .ok (.iload_n 3, 1) := by decide +kernel
theorem dX9_sheet_42 : decode cX9_sheet 42 = .ok (.iastore, 1) := by decide +kernel
theorem dX9_sheet_43 : decode cX9_sheet 43 = .ok (.iconst 0, 1) := by decide +kernel
theorem dX9_sheet_44 : decode cX9_sheet 44 = .ok (.istore 4, 2) := by decide +kernel
theorem dX9_sheet_46 : decode cX9_sheet 46 = .ok (.iload 4, 2) := by decide +kernel
theorem dX9_sheet_48 : decode cX9_sheet 48 = .ok (.bipush 24, 2) := by decide +kernel
theorem dX9_sheet_50 : decode cX9_sheet 50 = .ok (.if_icmp .ge 22, 3) := by decide +kernel
theorem dX9_sheet_53 : decode cX9_sheet 53 = .ok (.aload_n 0, 1) := by decide +kernel
theorem dX9_sheet_54 : decode cX9_sheet 54 = .ok (.getfield 62, 3) := by decide +kernel
theorem dX9_sheet_57 : decode cX9_sheet 57 = .ok (.bipush 24, 2) := by decide +kernel
theorem dX9_sheet_59 : decode cX9_sheet 59 = .ok (.iload_n 1, 1) := by decide +kernel
theorem dX9_sheet_60 : decode cX9_sheet 60 = .ok (.imul, 1) := by decide +kernel
theorem dX9_sheet_61 : decode cX9_sheet 61 = .ok (.iload 4, 2) := by decide +kernel
theorem dX9_sheet_63 : decode cX9_sheet 63 = .ok (.iadd, 1) := by decide +kernel
theorem dX9_sheet_64 : decode cX9_sheet 64 = .ok (.iconst 0, 1) := by decide +kernel
theorem dX9_sheet_65 : decode cX9_sheet 65 = .ok (.iastore, 1) := by decide +kernel
theorem dX9_sheet_66 : decode cX9_sheet 66 = .ok (.iinc 4 1, 3) := by decide +kernel
theorem dX9_sheet_69 : decode cX9_sheet 69 = .ok (.goto (-23), 3) := by decide +kernel
theorem dX9_sheet_72 : decode cX9_sheet 72 = .ok (.iload_n 3, 1) := by decide +kernel
theorem dX9_sheet_73 : decode cX9_sheet 73 = .ok (.ireturn, 1) := by decide +kernel
theorem dX9_drop_0 : decode cX9_drop 0 = .ok (.iload_n 1, 1) := by decide +kernel
theorem dX9_drop_1 : decode cX9_drop 1 = .ok (.invokestatic 253, 3) := by decide +kernel
theorem dX9_drop_4 : decode cX9_drop 4 = .ok (.ifCond .ne 5, 3) := by decide +kernel
theorem dX9_drop_7 : decode cX9_drop 7 = .ok (.iconst (-1), 1) := by decide +kernel
theorem dX9_drop_8 : decode cX9_drop 8 = .ok (.ireturn, 1) := by decide +kernel
theorem dX9_drop_9 : decode cX9_drop 9 = .ok (.aload_n 0, 1) := by decide +kernel
theorem dX9_drop_10 : decode cX9_drop 10 = .ok (.getfield 56, 3) := by decide +kernel
theorem dX9_drop_13 : decode cX9_drop 13 = .ok (.iload_n 1, 1) := by decide +kernel
theorem dX9_drop_14 : decode cX9_drop 14 = .ok (.iaload, 1) := by decide +kernel
theorem dX9_drop_15 : decode cX9_drop 15 = .ok (.ifCond .ge 6, 3) := by decide +kernel
theorem dX9_drop_18 : decode cX9_drop 18 = .ok (.bipush (-11), 2) := by decide +kernel
theorem dX9_drop_20 : decode cX9_drop 20 = .ok (.ireturn, 1) := by decide +kernel
theorem dX9_drop_21 : decode cX9_drop 21 = .ok (.aload_n 0, 1) := by decide +kernel
theorem dX9_drop_22 : decode cX9_drop 22 = .ok (.getfield 56, 3) := by decide +kernel
theorem dX9_drop_25 : decode cX9_drop 25 = .ok (.iload_n 1, 1) := by decide +kernel
theorem dX9_drop_26 : decode cX9_drop 26 = .ok (.iconst (-1), 1) := by decide +kernel
theorem dX9_drop_27 : decode cX9_drop 27 = .ok (.iastore, 1) := by decide +kernel
theorem dX9_drop_28 : decode cX9_drop 28 = .ok (.aload_n 0, 1) := by decide +kernel
theorem dX9_drop_29 : decode cX9_drop 29 = .ok (.getfield 59, 3) := by decide +kernel
theorem dX9_drop_32 : decode cX9_drop 32 = .ok (.iload_n 1, 1) := by decide +kernel
theorem dX9_drop_33 : decode cX9_drop 33 = .ok (.iaload, 1) := by decide +kernel
theorem dX9_drop_34 : decode cX9_drop 34 = .ok (.ireturn, 1) := by decide +kernel
theorem dX9_item_0 : decode cX9_item 0 = .ok (.iload_n 1, 1) := by decide +kernel
theorem dX9_item_1 : decode cX9_item 1 = .ok (.invokestatic 253, 3) := by decide +kernel
theorem dX9_item_4 : decode cX9_item 4 = .ok (.ifCond .eq 10, 3) := by decide +kernel
theorem dX9_item_7 : decode cX9_item 7 = .ok (.iload_n 2, 1) := by decide +kernel
theorem dX9_item_8 : decode cX9_item 8 = .ok (.invokestatic 256, 3) := by decide +kernel
theorem dX9_item_11 : decode cX9_item 11 = .ok (.ifCond .ne 5, 3) := by decide +kernel
theorem dX9_item_14 : decode cX9_item 14 = .ok (.iconst (-1), 1) := by decide +kernel
theorem dX9_item_15 : decode cX9_item 15 = .ok (.ireturn, 1) := by decide +kernel
theorem dX9_item_16 : decode cX9_item 16 = .ok (.aload_n 0, 1) := by decide +kernel
theorem dX9_item_17 : decode cX9_item 17 = .ok (.iload_n 1, 1) := by decide +kernel
theorem dX9_item_18 : decode cX9_item 18 = .ok (.iload_n 2, 1) := by decide +kernel
theorem dX9_item_19 : decode cX9_item 19 = .ok (.iload_n 3, 1) := by decide +kernel
theorem dX9_item_20 : decode cX9_item 20 = .ok (.iconst 1, 1) := by decide +kernel
theorem dX9_item_21 : decode cX9_item 21 = .ok (.invokevirtual 261, 3) := by decide +kernel
theorem dX9_item_24 : decode cX9_item 24 = .ok (.istore 5, 2) := by decide +kernel
theorem dX9_item_26 : decode cX9_item 26 = .ok (.iload 5, 2) := by decide +kernel
theorem dX9_item_28 : decode cX9_item 28 = .ok (.ifCond .ge 6, 3) := by decide +kernel
theorem dX9_item_31 : decode cX9_item 31 = .ok (.iload 5, 2) := by decide +kernel
theorem dX9_item_33 : decode cX9_item 33 = .ok (.ireturn, 1) := by decide +kernel
theorem dX9_item_34 : decode cX9_item 34 = .ok (.aload_n 0, 1) := by decide +kernel
theorem dX9_item_35 : decode cX9_item 35 = .ok (.getfield 62, 3) := by decide +kernel
theorem dX9_item_38 : decode cX9_item 38 = .ok (.bipush 24, 2) := by decide +kernel
theorem dX9_item_40 : decode cX9_item 40 = .ok (.iload_n 1, 1) := by decide +kernel
theorem dX9_item_41 : decode cX9_item 41 = .ok (.imul, 1) := by decide +kernel
theorem dX9_item_42 : decode cX9_item 42 = .ok (.iload_n 3, 1) := by decide +kernel
theorem dX9_item_43 : decode cX9_item 43 = .ok (.iadd, 1) := by decide +kernel
theorem dX9_item_44 : decode cX9_item 44 = .ok (.iload_n 2, 1) := by decide +kernel
theorem dX9_item_45 : decode cX9_item 45 = .ok (.iload 4, 2) := by decide +kernel
theorem dX9_item_47 : decode cX9_item 47 = .ok (.invokestatic 277, 3) := by decide +kernel
theorem dX9_item_50 : decode cX9_item 50 = .ok (.iastore, 1) := by decide +kernel
theorem dX9_item_51 : decode cX9_item 51 = .ok (.iconst 1, 1) := by decide +kernel
theorem dX9_item_52 : decode cX9_item 52 = .ok (.ireturn, 1) := by decide +kernel
theorem dX9_copy_0 : decode cX9_copy 0 = .ok (.iload_n 1, 1) := by decide +kernel
theorem dX9_copy_1 : decode cX9_copy 1 = .ok (.invokestatic 253, 3) := by decide +kernel
theorem dX9_copy_4 : decode cX9_copy 4 = .ok (.ifCond .eq 10, 3) := by decide +kernel
theorem dX9_copy_7 : decode cX9_copy 7 = .ok (.iload_n 3, 1) := by decide +kernel
theorem dX9_copy_8 : decode cX9_copy 8 = .ok (.invokestatic 253, 3) := by decide +kernel
theorem dX9_copy_11 : decode cX9_copy 11 = .ok (.ifCond .ne 5, 3) := by decide +kernel
theorem dX9_copy_14 : decode cX9_copy 14 = .ok (.iconst (-1), 1) := by decide +kernel
theorem dX9_copy_15 : decode cX9_copy 15 = .ok (.ireturn, 1) := by decide +kernel
theorem dX9_copy_16 : decode cX9_copy 16 = .ok (.aload_n 0, 1) := by decide +kernel
theorem dX9_copy_17 : decode cX9_copy 17 = .ok (.getfield 56, 3) := by decide +kernel
theorem dX9_copy_20 : decode cX9_copy 20 = .ok (.iload_n 1, 1) := by decide +kernel
theorem dX9_copy_21 : decode cX9_copy 21 = .ok (.iaload, 1) := by decide +kernel
theorem dX9_copy_22 : decode cX9_copy 22 = .ok (.ifCond .lt 12, 3) := by decide +kernel
theorem dX9_copy_25 : decode cX9_copy 25 = .ok (.aload_n 0, 1) := by decide +kernel
theorem dX9_copy_26 : decode cX9_copy 26 = .ok (.getfield 56, 3) := by decide +kernel
theorem dX9_copy_29 : decode cX9_copy 29 = .ok (.iload_n 3, 1) := by decide +kernel
theorem dX9_copy_30 : decode cX9_copy 30 = .ok (.iaload, 1) := by decide +kernel
theorem dX9_copy_31 : decode cX9_copy 31 = .ok (.ifCond .ge 6, 3) := by decide +kernel
theorem dX9_copy_34 : decode cX9_copy 34 = .ok (.bipush (-11), 2) := by decide +kernel
theorem dX9_copy_36 : decode cX9_copy 36 = .ok (.ireturn, 1) := by decide +kernel
theorem dX9_copy_37 : decode cX9_copy 37 = .ok (.aload_n 0, 1) := by decide +kernel
theorem dX9_copy_38 : decode cX9_copy 38 = .ok (.getfield 56, 3) := by decide +kernel
theorem dX9_copy_41 : decode cX9_copy 41 = .ok (.iload_n 1, 1) := by decide +kernel
theorem dX9_copy_42 : decode cX9_copy 42 = .ok (.iaload, 1) := by decide +kernel
theorem dX9_copy_43 : decode cX9_copy 43 = .ok (.aload_n 0, 1) := by decide +kernel
theorem dX9_copy_44 : decode cX9_copy 44 = .ok (.getfield 56, 3) := by decide +kernel
theorem dX9_copy_47 : decode cX9_copy 47 = .ok (.iload_n 3, 1) := by decide +kernel
theorem dX9_copy_48 : decode cX9_copy 48 = .ok (.iaload, 1) := by decide +kernel
theorem dX9_copy_49 : decode cX9_copy 49 = .ok (.if_icmp .eq 6, 3) := by decide +kernel
theorem dX9_copy_52 : decode cX9_copy 52 = .ok (.bipush (-12), 2) := by decide +kernel
theorem dX9_copy_54 : decode cX9_copy 54 = .ok (.ireturn, 1) := by decide +kernel
theorem dX9_copy_55 : decode cX9_copy 55 = .ok (.iload 5, 2) := by decide +kernel
theorem dX9_copy_57 : decode cX9_copy 57 = .ok (.ifCond .lt 38, 3) := by decide +kernel
theorem dX9_copy_60 : decode cX9_copy 60 = .ok (.aload_n 0, 1) := by decide +kernel
theorem dX9_copy_61 : decode cX9_copy 61 = .ok (.iload_n 1, 1) := by decide +kernel
theorem dX9_copy_62 : decode cX9_copy 62 = .ok (.aload_n 0, 1) := by decide +kernel
theorem dX9_copy_63 : decode cX9_copy 63 = .ok (.getfield 56, 3) := by decide +kernel
theorem dX9_copy_66 : decode cX9_copy 66 = .ok (.iload_n 1, 1) := by decide +kernel
theorem dX9_copy_67 : decode cX9_copy 67 = .ok (.iaload, 1) := by decide +kernel
theorem dX9_copy_68 : decode cX9_copy 68 = .ok (.iload_n 2, 1) := by decide +kernel
theorem dX9_copy_69 : decode cX9_copy 69 = .ok (.iload 5, 2) := by decide +kernel
theorem dX9_copy_71 : decode cX9_copy 71 = .ok (.invokevirtual 261, 3) := by decide +kernel
theorem dX9_copy_74 : decode cX9_copy 74 = .ok (.ifCond .lt 21, 3) := by decide +kernel
theorem dX9_copy_77 : decode cX9_copy 77 = .ok (.aload_n 0, 1) := by decide +kernel
theorem dX9_copy_78 : decode cX9_copy 78 = .ok (.iload_n 3, 1) := by decide +kernel
theorem dX9_copy_79 : decode cX9_copy 79 = .ok (.aload_n 0, 1) := by decide +kernel
theorem dX9_copy_80 : decode cX9_copy 80 = .ok (.getfield 56, 3) := by decide +kernel
theorem dX9_copy_83 : decode cX9_copy 83 = .ok (.iload_n 3, 1) := by decide +kernel
theorem dX9_copy_84 : decode cX9_copy 84 = .ok (.iaload, 1) := by decide +kernel
theorem dX9_copy_85 : decode cX9_copy 85 = .ok (.iload 4, 2) := by decide +kernel
theorem dX9_copy_87 : decode cX9_copy 87 = .ok (.iload 5, 2) := by decide +kernel
theorem dX9_copy_89 : decode cX9_copy 89 = .ok (.invokevirtual 261, 3) := by decide +kernel
theorem dX9_copy_92 : decode cX9_copy 92 = .ok (.ifCond .ge 6, 3) := by decide +kernel
theorem dX9_copy_95 : decode cX9_copy 95 = .ok (.bipush (-13), 2) := by decide +kernel
theorem dX9_copy_97 : decode cX9_copy 97 = .ok (.ireturn, 1) := by decide +kernel
theorem dX9_copy_98 : decode cX9_copy 98 = .ok (.iconst 0, 1) := by decide +kernel
theorem dX9_copy_99 : decode cX9_copy 99 = .ok (.istore 6, 2) := by decide +kernel
theorem dX9_copy_101 : decode cX9_copy 101 = .ok (.iload 6, 2) := by decide +kernel
theorem dX9_copy_103 : decode cX9_copy 103 = .ok (.iload 5, 2) := by decide +kernel
theorem dX9_copy_105 : decode cX9_copy 105 = .ok (.if_icmp .ge 30, 3) := by decide +kernel
theorem dX9_copy_108 : decode cX9_copy 108 = .ok (.aload_n 0, 1) := by decide +kernel
theorem dX9_copy_109 : decode cX9_copy 109 = .ok (.getfield 65, 3) := by decide +kernel
theorem dX9_copy_112 : decode cX9_copy 112 = .ok (.iload 6, 2) := by decide +kernel
theorem dX9_copy_114 : decode cX9_copy 114 = .ok (.aload_n 0, 1) := by decide +kernel
theorem dX9_copy_115 : decode cX9_copy 115 = .ok (.getfield 62, 3) := by decide +kernel
theorem dX9_copy_118 : decode cX9_copy 118 = .ok (.bipush 24, 2) := by decide +kernel
theorem dX9_copy_120 : decode cX9_copy 120 = .ok (.iload_n 1, 1) := by decide +kernel
theorem dX9_copy_121 : decode cX9_copy 121 = .ok (.imul, 1) := by decide +kernel
theorem dX9_copy_122 : decode cX9_copy 122 = .ok (.iload_n 2, 1) := by decide +kernel
theorem dX9_copy_123 : decode cX9_copy 123 = .ok (.iadd, 1) := by decide +kernel
theorem dX9_copy_124 : decode cX9_copy 124 = .ok (.iload 6, 2) := by decide +kernel
theorem dX9_copy_126 : decode cX9_copy 126 = .ok (.iadd, 1) := by decide +kernel
theorem dX9_copy_127 : decode cX9_copy 127 = .ok (.iaload, 1) := by decide +kernel
theorem dX9_copy_128 : decode cX9_copy 128 = .ok (.iastore, 1) := by decide +kernel
theorem dX9_copy_129 : decode cX9_copy 129 = .ok (.iinc 6 1, 3) := by decide +kernel
theorem dX9_copy_132 : decode cX9_copy 132 = .ok (.goto (-31), 3) := by decide +kernel
theorem dX9_copy_135 : decode cX9_copy 135 = .ok (.iconst 0, 1) := by decide +kernel
theorem dX9_copy_136 : decode cX9_copy 136 = .ok (.istore 6, 2) := by decide +kernel
theorem dX9_copy_138 : decode cX9_copy 138 = .ok (.iload 6, 2) := by decide +kernel
theorem dX9_copy_140 : decode cX9_copy 140 = .ok (.iload 5, 2) := by decide +kernel
theorem dX9_copy_142 : decode cX9_copy 142 = .ok (.if_icmp .ge 31, 3) := by decide +kernel
theorem dX9_copy_145 : decode cX9_copy 145 = .ok (.aload_n 0, 1) := by decide +kernel
theorem dX9_copy_146 : decode cX9_copy 146 = .ok (.getfield 62, 3) := by decide +kernel
theorem dX9_copy_149 : decode cX9_copy 149 = .ok (.bipush 24, 2) := by decide +kernel
theorem dX9_copy_151 : decode cX9_copy 151 = .ok (.iload_n 3, 1) := by decide +kernel
theorem dX9_copy_152 : decode cX9_copy 152 = .ok (.imul, 1) := by decide +kernel
theorem dX9_copy_153 : decode cX9_copy 153 = .ok (.iload 4, 2) := by decide +kernel
theorem dX9_copy_155 : decode cX9_copy 155 = .ok (.iadd, 1) := by decide +kernel
theorem dX9_copy_156 : decode cX9_copy 156 = .ok (.iload 6, 2) := by decide +kernel
theorem dX9_copy_158 : decode cX9_copy 158 = .ok (.iadd, 1) := by decide +kernel
theorem dX9_copy_159 : decode cX9_copy 159 = .ok (.aload_n 0, 1) := by decide +kernel
theorem dX9_copy_160 : decode cX9_copy 160 = .ok (.getfield 65, 3) := by decide +kernel
theorem dX9_copy_163 : decode cX9_copy 163 = .ok (.iload 6, 2) := by decide +kernel
theorem dX9_copy_165 : decode cX9_copy 165 = .ok (.iaload, 1) := by decide +kernel
theorem dX9_copy_166 : decode cX9_copy 166 = .ok (.iastore, 1) := by decide +kernel
theorem dX9_copy_167 : decode cX9_copy 167 = .ok (.iinc 6 1, 3) := by decide +kernel
theorem dX9_copy_170 : decode cX9_copy 170 = .ok (.goto (-32), 3) := by decide +kernel
theorem dX9_copy_173 : decode cX9_copy 173 = .ok (.iload 5, 2) := by decide +kernel
theorem dX9_copy_175 : decode cX9_copy 175 = .ok (.ireturn, 1) := by decide +kernel
end
section
theorem dL_law_0 : decode cL_law 0 = .ok (.new 7, 3) := by decide +kernel
theorem dL_law_3 : decode cL_law 3 = .ok (.dup, 1) := by decide +kernel
theorem dL_law_4 : decode cL_law 4 = .ok (.invokespecial 9, 3) := by decide +kernel
theorem dL_law_7 : decode cL_law 7 = .ok (.astore_n 1, 1) := by decide +kernel
theorem dL_law_8 : decode cL_law 8 = .ok (.new 10, 3) := by decide +kernel
theorem dL_law_11 : decode cL_law 11 = .ok (.dup, 1) := by decide +kernel
theorem dL_law_12 : decode cL_law 12 = .ok (.invokespecial 12, 3) := by decide +kernel
theorem dL_law_15 : decode cL_law 15 = .ok (.astore_n 2, 1) := by decide +kernel
theorem dL_law_16 : decode cL_law 16 = .ok (.iconst 0, 1) := by decide +kernel
theorem dL_law_17 : decode cL_law 17 = .ok (.istore_n 3, 1) := by decide +kernel
theorem dL_law_18 : decode cL_law 18 = .ok (.iload_n 3, 1) := by decide +kernel
theorem dL_law_19 : decode cL_law 19 = .ok (.aload_n 0, 1) := by decide +kernel
theorem dL_law_20 : decode cL_law 20 = .ok (.arraylength, 1) := by decide +kernel
theorem dL_law_21 : decode cL_law 21 = .ok (.bipush 6, 2) := by decide +kernel
theorem dL_law_23 : decode cL_law 23 = .ok (.isub, 1) := by decide +kernel
theorem dL_law_24 : decode cL_law 24 = .ok (.if_icmp .gt 1250, 3) := by decide +kernel
theorem dL_law_27 : decode cL_law 27 = .ok (.aload_n 0, 1) := by decide +kernel
theorem dL_law_28 : decode cL_law 28 = .ok (.iload_n 3, 1) := by decide +kernel
theorem dL_law_29 : decode cL_law 29 = .ok (.iaload, 1) := by decide +kernel
theorem dL_law_30 : decode cL_law 30 = .ok (.bipush 31, 2) := by decide +kernel
theorem dL_law_32 : decode cL_law 32 = .ok (.iand, 1) := by decide +kernel
theorem dL_law_33 : decode cL_law 33 = .ok (.tableswitch 1235 0 31 #[143, 176, 255, 288, 331, 364, 377, 440, 453, 466, 499, 522, 545, 578, 611, 644, 677, 700, 713, 766, 799, 832, 845, 878, 911, 974, 987, 1000, 1053, 1096, 1119, 1172], 143) := by decide +kernel
theorem dL_law_176 : decode cL_law 176 = .ok (.aload_n 1, 1) := by decide +kernel
theorem dL_law_177 : decode cL_law 177 = .ok (.aload_n 0, 1) := by decide +kernel
theorem dL_law_178 : decode cL_law 178 = .ok (.iload_n 3, 1) := by decide +kernel
theorem dL_law_179 : decode cL_law 179 = .ok (.iconst 1, 1) := by decide +kernel
theorem dL_law_180 : decode cL_law 180 = .ok (.iadd, 1) := by decide +kernel
theorem dL_law_181 : decode cL_law 181 = .ok (.iaload, 1) := by decide +kernel
theorem dL_law_182 : decode cL_law 182 = .ok (.aload_n 0, 1) := by decide +kernel
theorem dL_law_183 : decode cL_law 183 = .ok (.iload_n 3, 1) := by decide +kernel
theorem dL_law_184 : decode cL_law 184 = .ok (.iconst 2, 1) := by decide +kernel
theorem dL_law_185 : decode cL_law 185 = .ok (.iadd, 1) := by decide +kernel
theorem dL_law_186 : decode cL_law 186 = .ok (.iaload, 1) := by decide +kernel
theorem dL_law_187 : decode cL_law 187 = .ok (.invokevirtual 13, 3) := by decide +kernel
theorem dL_law_190 : decode cL_law 190 = .ok (.aload_n 2, 1) := by decide +kernel
theorem dL_law_191 : decode cL_law 191 = .ok (.aload_n 0, 1) := by decide +kernel
theorem dL_law_192 : decode cL_law 192 = .ok (.iload_n 3, 1) := by decide +kernel
theorem dL_law_193 : decode cL_law 193 = .ok (.iconst 1, 1) := by decide +kernel
theorem dL_law_194 : decode cL_law 194 = .ok (.iadd, 1) := by decide +kernel
theorem dL_law_195 : decode cL_law 195 = .ok (.iaload, 1) := by decide +kernel
theorem dL_law_196 : decode cL_law 196 = .ok (.aload_n 0, 1) := by decide +kernel
theorem dL_law_197 : decode cL_law 197 = .ok (.iload_n 3, 1) := by decide +kernel
theorem dL_law_198 : decode cL_law 198 = .ok (.iconst 2, 1) := by decide +kernel
theorem dL_law_199 : decode cL_law 199 = .ok (.iadd, 1) := by decide +kernel
theorem dL_law_200 : decode cL_law 200 = .ok (.iaload, 1) := by decide +kernel
theorem dL_law_201 : decode cL_law 201 = .ok (.invokevirtual 17, 3) := by decide +kernel
theorem dL_law_204 : decode cL_law 204 = .ok (.if_icmp .eq 1064, 3) := by decide +kernel
theorem dL_law_207 : decode cL_law 207 = .ok (.iconst 0, 1) := by decide +kernel
theorem dL_law_208 : decode cL_law 208 = .ok (.ireturn, 1) := by decide +kernel
theorem dL_law_209 : decode cL_law 209 = .ok (.aload_n 1, 1) := by decide +kernel
theorem dL_law_210 : decode cL_law 210 = .ok (.aload_n 0, 1) := by decide +kernel
theorem dL_law_211 : decode cL_law 211 = .ok (.iload_n 3, 1) := by decide +kernel
theorem dL_law_212 : decode cL_law 212 = .ok (.iconst 1, 1) := by decide +kernel
theorem dL_law_213 : decode cL_law 213 = .ok (.iadd, 1) := by decide +kernel
theorem dL_law_214 : decode cL_law 214 = .ok (.iaload, 1) := by decide +kernel
theorem dL_law_215 : decode cL_law 215 = .ok (.aload_n 0, 1) := by decide +kernel
theorem dL_law_216 : decode cL_law 216 = .ok (.iload_n 3, 1) := by decide +kernel
theorem dL_law_217 : decode cL_law 217 = .ok (.iconst 2, 1) := by decide +kernel
theorem dL_law_218 : decode cL_law 218 = .ok (.iadd, 1) := by decide +kernel
theorem dL_law_219 : decode cL_law 219 = .ok (.iaload, 1) := by decide +kernel
theorem dL_law_220 : decode cL_law 220 = .ok (.aload_n 0, 1) := by decide +kernel
theorem dL_law_221 : decode cL_law 221 = .ok (.iload_n 3, 1) := by decide +kernel
theorem dL_law_222 : decode cL_law 222 = .ok (.iconst 3, 1) := by decide +kernel
theorem dL_law_223 : decode cL_law 223 = .ok (.iadd, 1) := by decide +kernel
theorem dL_law_224 : decode cL_law 224 = .ok (.iaload, 1) := by decide +kernel
theorem dL_law_225 : decode cL_law 225 = .ok (.aload_n 0, 1) := by decide +kernel
theorem dL_law_226 : decode cL_law 226 = .ok (.iload_n 3, 1) := by decide +kernel
theorem dL_law_227 : decode cL_law 227 = .ok (.iconst 4, 1) := by decide +kernel
theorem dL_law_228 : decode cL_law 228 = .ok (.iadd, 1) := by decide +kernel
theorem dL_law_229 : decode cL_law 229 = .ok (.iaload, 1) := by decide +kernel
theorem dL_law_230 : decode cL_law 230 = .ok (.aload_n 0, 1) := by decide +kernel
theorem dL_law_231 : decode cL_law 231 = .ok (.iload_n 3, 1) := by decide +kernel
theorem dL_law_232 : decode cL_law 232 = .ok (.iconst 5, 1) := by decide +kernel
theorem dL_law_233 : decode cL_law 233 = .ok (.iadd, 1) := by decide +kernel
theorem dL_law_234 : decode cL_law 234 = .ok (.iaload, 1) := by decide +kernel
theorem dL_law_235 : decode cL_law 235 = .ok (.ifCond .eq 7, 3) := by decide +kernel
theorem dL_law_238 : decode cL_law 238 = .ok (.iconst 1, 1) := by decide +kernel
theorem dL_law_239 : decode cL_law 239 = .ok (.goto 4, 3) := by decide +kernel
theorem dL_law_242 : decode cL_law 242 = .ok (.iconst 0, 1) := by decide +kernel
theorem dL_law_243 : decode cL_law 243 = .ok (.invokevirtual 18, 3) := by decide +kernel
theorem dL_law_246 : decode cL_law 246 = .ok (.aload_n 2, 1) := by decide +kernel
theorem dL_law_247 : decode cL_law 247 = .ok (.aload_n 0, 1) := by decide +kernel
theorem dL_law_248 : decode cL_law 248 = .ok (.iload_n 3, 1) := by decide +kernel
theorem dL_law_249 : decode cL_law 249 = .ok (.iconst 1, 1) := by decide +kernel
theorem dL_law_250 : decode cL_law 250 = .ok (.iadd, 1) := by decide +kernel
theorem dL_law_251 : decode cL_law 251 = .ok (.iaload, 1) := by decide +kernel
theorem dL_law_252 : decode cL_law 252 = .ok (.aload_n 0, 1) := by decide +kernel
theorem dL_law_253 : decode cL_law 253 = .ok (.iload_n 3, 1) := by decide +kernel
theorem dL_law_254 : decode cL_law 254 = .ok (.iconst 2, 1) := by decide +kernel
theorem dL_law_255 : decode cL_law 255 = .ok (.iadd, 1) := by decide +kernel
theorem dL_law_256 : decode cL_law 256 = .ok (.iaload, 1) := by decide +kernel
theorem dL_law_257 : decode cL_law 257 = .ok (.aload_n 0, 1) := by decide +kernel
theorem dL_law_258 : decode cL_law 258 = .ok (.iload_n 3, 1) := by decide +kernel
theorem dL_law_259 : decode cL_law 259 = .ok (.iconst 3, 1) := by decide +kernel
theorem dL_law_260 : decode cL_law 260 = .ok (.iadd, 1) := by decide +kernel
theorem dL_law_261 : decode cL_law 261 = .ok (.iaload, 1) := by decide +kernel
theorem dL_law_262 : decode cL_law 262 = .ok (.aload_n 0, 1) := by decide +kernel
theorem dL_law_263 : decode cL_law 263 = .ok (.iload_n 3, 1) := by decide +kernel
theorem dL_law_264 : decode cL_law 264 = .ok (.iconst 4, 1) := by decide +kernel
theorem dL_law_265 : decode cL_law 265 = .ok (.iadd, 1) := by decide +kernel
theorem dL_law_266 : decode cL_law 266 = .ok (.iaload, 1) := by decide +kernel
theorem dL_law_267 : decode cL_law 267 = .ok (.aload_n 0, 1) := by decide +kernel
theorem dL_law_268 : decode cL_law 268 = .ok (.iload_n 3, 1) := by decide +kernel
theorem dL_law_269 : decode cL_law 269 = .ok (.iconst 5, 1) := by decide +kernel
theorem dL_law_270 : decode cL_law 270 = .ok (.iadd, 1) := by decide +kernel
theorem dL_law_271 : decode cL_law 271 = .ok (.iaload, 1) := by decide +kernel
theorem dL_law_272 : decode cL_law 272 = .ok (.ifCond .eq 7, 3) := by decide +kernel
theorem dL_law_275 : decode cL_law 275 = .ok (.iconst 1, 1) := by decide +kernel
theorem dL_law_276 : decode cL_law 276 = .ok (.goto 4, 3) := by decide +kernel
theorem dL_law_279 : decode cL_law 279 = .ok (.iconst 0, 1) := by decide +kernel
theorem dL_law_280 : decode cL_law 280 = .ok (.invokevirtual 22, 3) := by decide +kernel
theorem dL_law_283 : decode cL_law 283 = .ok (.if_icmp .eq 985, 3) := by decide +kernel
theorem dL_law_286 : decode cL_law 286 = .ok (.iconst 0, 1) := by decide +kernel
theorem dL_law_287 : decode cL_law 287 = .ok (.ireturn, 1) := by decide +kernel
theorem dL_law_288 : decode cL_law 288 = .ok (.aload_n 1, 1) := by decide +kernel
theorem dL_law_289 : decode cL_law 289 = .ok (.aload_n 0, 1) := by decide +kernel
theorem dL_law_290 : decode cL_law 290 = .ok (.iload_n 3, 1) := by decide +kernel
theorem dL_law_291 : decode cL_law 291 = .ok (.iconst 1, 1) := by decide +kernel
theorem dL_law_292 : decode cL_law 292 = .ok (.iadd, 1) := by decide +kernel
theorem dL_law_293 : decode cL_law 293 = .ok (.iaload, 1) := by decide +kernel
theorem dL_law_294 : decode cL_law 294 = .ok (.aload_n 0, 1) := by decide +kernel
theorem dL_law_295 : decode cL_law 295 = .ok (.iload_n 3, 1) := by decide +kernel
theorem dL_law_296 : decode cL_law 296 = .ok (.iconst 2, 1) := by decide +kernel
theorem dL_law_297 : decode cL_law 297 = .ok (.iadd, 1) := by decide +kernel
theorem dL_law_298 : decode cL_law 298 = .ok (.iaload, 1) := by decide +kernel
theorem dL_law_299 : decode cL_law 299 = .ok (.invokevirtual 23, 3) := by decide +kernel
theorem dL_law_302 : decode cL_law 302 = .ok (.aload_n 2, 1) := by decide +kernel
theorem dL_law_303 : decode cL_law 303 = .ok (.aload_n 0, 1) := by decide +kernel
theorem dL_law_304 : decode cL_law 304 = .ok (.iload_n 3, 1) := by decide +kernel
theorem dL_law_305 : decode cL_law 305 = .ok (.iconst 1, 1) := by decide +kernel
theorem dL_law_306 : decode cL_law 306 = .ok (.iadd, 1) := by decide +kernel
theorem dL_law_307 : decode cL_law 307 = .ok (.iaload, 1) := by decide +kernel
theorem dL_law_308 : decode cL_law 308 = .ok (.aload_n 0, 1) := by decide +kernel
theorem dL_law_309 : decode cL_law 309 = .ok (.iload_n 3, 1) := by decide +kernel
theorem dL_law_310 : decode cL_law 310 = .ok (.iconst 2, 1) := by decide +kernel
theorem dL_law_311 : decode cL_law 311 = .ok (.iadd, 1) := by decide +kernel
theorem dL_law_312 : decode cL_law 312 = .ok (.iaload, 1) := by decide +kernel
theorem dL_law_313 : decode cL_law 313 = .ok (.invokevirtual 26, 3) := by decide +kernel
theorem dL_law_316 : decode cL_law 316 = .ok (.if_icmp .eq 952, 3) := by decide +kernel
theorem dL_law_319 : decode cL_law 319 = .ok (.iconst 0, 1) := by decide +kernel
theorem dL_law_320 : decode cL_law 320 = .ok (.ireturn, 1) := by decide +kernel
theorem dL_law_321 : decode cL_law 321 = .ok (.aload_n 1, 1) := by decide +kernel
theorem dL_law_322 : decode cL_law 322 = .ok (.aload_n 0, 1) := by decide +kernel
theorem dL_law_323 : decode cL_law 323 = .ok (.iload_n 3, 1) := by decide +kernel
theorem dL_law_324 : decode cL_law 324 = .ok (.iconst 1, 1) := by decide +kernel
theorem dL_law_325 : decode cL_law 325 = .ok (.iadd, 1) := by decide +kernel
theorem dL_law_326 : decode cL_law 326 = .ok (.iaload, 1) := by decide +kernel
theorem dL_law_327 : decode cL_law 327 = .ok (.aload_n 0, 1) := by decide +kernel
theorem dL_law_328 : decode cL_law 328 = .ok (.iload_n 3, 1) := by decide +kernel
theorem dL_law_329 : decode cL_law 329 = .ok (.iconst 2, 1) := by decide +kernel
theorem dL_law_330 : decode cL_law 330 = .ok (.iadd, 1) := by decide +kernel
theorem dL_law_331 : decode cL_law 331 = .ok (.iaload, 1) := by decide +kernel
theorem dL_law_332 : decode cL_law 332 = .ok (.aload_n 0, 1) := by decide +kernel
theorem dL_law_333 : decode cL_law 333 = .ok (.iload_n 3, 1) := by decide +kernel
theorem dL_law_334 : decode cL_law 334 = .ok (.iconst 3, 1) := by decide +kernel
theorem dL_law_335 : decode cL_law 335 = .ok (.iadd, 1) := by decide +kernel
theorem dL_law_336 : decode cL_law 336 = .ok (.iaload, 1) := by decide +kernel
theorem dL_law_337 : decode cL_law 337 = .ok (.invokevirtual 27, 3) := by decide +kernel
theorem dL_law_340 : decode cL_law 340 = .ok (.aload_n 2, 1) := by decide +kernel
theorem dL_law_341 : decode cL_law 341 = .ok (.aload_n 0, 1) := by decide +kernel
theorem dL_law_342 : decode cL_law 342 = .ok (.iload_n 3, 1) := by decide +kernel
theorem dL_law_343 : decode cL_law 343 = .ok (.iconst 1, 1) := by decide +kernel
theorem dL_law_344 : decode cL_law 344 = .ok (.iadd, 1) := by decide +kernel
theorem dL_law_345 : decode cL_law 345 = .ok (.iaload, 1) := by decide +kernel
theorem dL_law_346 : decode cL_law 346 = .ok (.aload_n 0, 1) := by decide +kernel
theorem dL_law_347 : decode cL_law 347 = .ok (.iload_n 3, 1) := by decide +kernel
theorem dL_law_348 : decode cL_law 348 = .ok (.iconst 2, 1) := by decide +kernel
theorem dL_law_349 : decode cL_law 349 = .ok (.iadd, 1) := by decide +kernel
theorem dL_law_350 : decode cL_law 350 = .ok (.iaload, 1) := by decide +kernel
theorem dL_law_351 : decode cL_law 351 = .ok (.aload_n 0, 1) := by decide +kernel
theorem dL_law_352 : decode cL_law 352 = .ok (.iload_n 3, 1) := by decide +kernel
theorem dL_law_353 : decode cL_law 353 = .ok (.iconst 3, 1) := by decide +kernel
theorem dL_law_354 : decode cL_law 354 = .ok (.iadd, 1) := by decide +kernel
theorem dL_law_355 : decode cL_law 355 = .ok (.iaload, 1) := by decide +kernel
theorem dL_law_356 : decode cL_law 356 = .ok (.invokevirtual 31, 3) := by decide +kernel
theorem dL_law_359 : decode cL_law 359 = .ok (.if_icmp .eq 909, 3) := by decide +kernel
theorem dL_law_362 : decode cL_law 362 = .ok (.iconst 0, 1) := by decide +kernel
theorem dL_law_363 : decode cL_law 363 = .ok (.ireturn, 1) := by decide +kernel
theorem dL_law_364 : decode cL_law 364 = .ok (.aload_n 1, 1) := by decide +kernel
theorem dL_law_365 : decode cL_law 365 = .ok (.aload_n 0, 1) := by decide +kernel
theorem dL_law_366 : decode cL_law 366 = .ok (.iload_n 3, 1) := by decide +kernel
theorem dL_law_367 : decode cL_law 367 = .ok (.iconst 1, 1) := by decide +kernel
theorem dL_law_368 : decode cL_law 368 = .ok (.iadd, 1) := by decide +kernel
theorem dL_law_369 : decode cL_law 369 = .ok (.iaload, 1) := by decide +kernel
theorem dL_law_370 : decode cL_law 370 = .ok (.aload_n 0, 1) := by decide +kernel
theorem dL_law_371 : decode cL_law 371 = .ok (.iload_n 3, 1) := by decide +kernel
theorem dL_law_372 : decode cL_law 372 = .ok (.iconst 2, 1) := by decide +kernel
theorem dL_law_373 : decode cL_law 373 = .ok (.iadd, 1) := by decide +kernel
theorem dL_law_374 : decode cL_law 374 = .ok (.iaload, 1) := by decide +kernel
theorem dL_law_375 : decode cL_law 375 = .ok (.invokevirtual 32, 3) := by decide +kernel
theorem dL_law_378 : decode cL_law 378 = .ok (.aload_n 2, 1) := by decide +kernel
theorem dL_law_379 : decode cL_law 379 = .ok (.aload_n 0, 1) := by decide +kernel
theorem dL_law_380 : decode cL_law 380 = .ok (.iload_n 3, 1) := by decide +kernel
theorem dL_law_381 : decode cL_law 381 = .ok (.iconst 1, 1) := by decide +kernel
theorem dL_law_382 : decode cL_law 382 = .ok (.iadd, 1) := by decide +kernel
theorem dL_law_383 : decode cL_law 383 = .ok (.iaload, 1) := by decide +kernel
theorem dL_law_384 : decode cL_law 384 = .ok (.aload_n 0, 1) := by decide +kernel
theorem dL_law_385 : decode cL_law 385 = .ok (.iload_n 3, 1) := by decide +kernel
theorem dL_law_386 : decode cL_law 386 = .ok (.iconst 2, 1) := by decide +kernel
theorem dL_law_387 : decode cL_law 387 = .ok (.iadd, 1) := by decide +kernel
theorem dL_law_388 : decode cL_law 388 = .ok (.iaload, 1) := by decide +kernel
theorem dL_law_389 : decode cL_law 389 = .ok (.invokevirtual 35, 3) := by decide +kernel
theorem dL_law_392 : decode cL_law 392 = .ok (.if_icmp .eq 876, 3) := by decide +kernel
theorem dL_law_395 : decode cL_law 395 = .ok (.iconst 0, 1) := by decide +kernel
theorem dL_law_396 : decode cL_law 396 = .ok (.ireturn, 1) := by decide +kernel
theorem dL_law_397 : decode cL_law 397 = .ok (.aload_n 1, 1) := by decide +kernel
theorem dL_law_398 : decode cL_law 398 = .ok (.invokevirtual 36, 3) := by decide +kernel
theorem dL_law_401 : decode cL_law 401 = .ok (.aload_n 2, 1) := by decide +kernel
theorem dL_law_402 : decode cL_law 402 = .ok (.invokevirtual 40, 3) := by decide +kernel
theorem dL_law_405 : decode cL_law 405 = .ok (.if_icmp .eq 863, 3) := by decide +kernel
theorem dL_law_408 : decode cL_law 408 = .ok (.iconst 0, 1) := by decide +kernel
theorem dL_law_409 : decode cL_law 409 = .ok (.ireturn, 1) := by decide +kernel
theorem dL_law_410 : decode cL_law 410 = .ok (.aload_n 1, 1) := by decide +kernel
theorem dL_law_411 : decode cL_law 411 = .ok (.aload_n 0, 1) := by decide +kernel
theorem dL_law_412 : decode cL_law 412 = .ok (.iload_n 3, 1) := by decide +kernel
theorem dL_law_413 : decode cL_law 413 = .ok (.iconst 1, 1) := by decide +kernel
theorem dL_law_414 : decode cL_law 414 = .ok (.iadd, 1) := by decide +kernel
theorem dL_law_415 : decode cL_law 415 = .ok (.iaload, 1) := by decide +kernel
theorem dL_law_416 : decode cL_law 416 = .ok (.i2l, 1) := by decide +kernel
theorem dL_law_417 : decode cL_law 417 = .ok (.bipush 32, 2) := by decide +kernel
theorem dL_law_419 : decode cL_law 419 = .ok (.lshl, 1) := by decide +kernel
theorem dL_law_420 : decode cL_law 420 = .ok (.aload_n 0, 1) := by decide +kernel
theorem dL_law_421 : decode cL_law 421 = .ok (.iload_n 3, 1) := by decide +kernel
theorem dL_law_422 : decode cL_law 422 = .ok (.iconst 2, 1) := by decide +kernel
theorem dL_law_423 : decode cL_law 423 = .ok (.iadd, 1) := by decide +kernel
theorem dL_law_424 : decode cL_law 424 = .ok (.iaload, 1) := by decide +kernel
theorem dL_law_425 : decode cL_law 425 = .ok (.i2l, 1) := by decide +kernel
theorem dL_law_426 : decode cL_law 426 = .ok (.ldc2_w 41, 3) := by decide +kernel
theorem dL_law_429 : decode cL_law 429 = .ok (.land, 1) := by decide +kernel
theorem dL_law_430 : decode cL_law 430 = .ok (.lor, 1) := by decide +kernel
theorem dL_law_431 : decode cL_law 431 = .ok (.aload_n 0, 1) := by decide +kernel
theorem dL_law_432 : decode cL_law 432 = .ok (.iload_n 3, 1) := by decide +kernel
theorem dL_law_433 : decode cL_law 433 = .ok (.iconst 3, 1) := by decide +kernel
theorem dL_law_434 : decode cL_law 434 = .ok (.iadd, 1) := by decide +kernel
theorem dL_law_435 : decode cL_law 435 = .ok (.iaload, 1) := by decide +kernel
theorem dL_law_436 : decode cL_law 436 = .ok (.invokevirtual 43, 3) := by decide +kernel
theorem dL_law_439 : decode cL_law 439 = .ok (.aload_n 2, 1) := by decide +kernel
theorem dL_law_440 : decode cL_law 440 = .ok (.aload_n 0, 1) := by decide +kernel
theorem dL_law_441 : decode cL_law 441 = .ok (.iload_n 3, 1) := by decide +kernel
theorem dL_law_442 : decode cL_law 442 = .ok (.iconst 1, 1) := by decide +kernel
theorem dL_law_443 : decode cL_law 443 = .ok (.iadd, 1) := by decide +kernel
theorem dL_law_444 : decode cL_law 444 = .ok (.iaload, 1) := by decide +kernel
theorem dL_law_445 : decode cL_law 445 = .ok (.i2l, 1) := by decide +kernel
theorem dL_law_446 : decode cL_law 446 = .ok (.bipush 32, 2) := by decide +kernel
theorem dL_law_448 : decode cL_law 448 = .ok (.lshl, 1) := by decide +kernel
theorem dL_law_449 : decode cL_law 449 = .ok (.aload_n 0, 1) := by decide +kernel
theorem dL_law_450 : decode cL_law 450 = .ok (.iload_n 3, 1) := by decide +kernel
theorem dL_law_451 : decode cL_law 451 = .ok (.iconst 2, 1) := by decide +kernel
theorem dL_law_452 : decode cL_law 452 = .ok (.iadd, 1) := by decide +kernel
theorem dL_law_453 : decode cL_law 453 = .ok (.iaload, 1) := by decide +kernel
theorem dL_law_454 : decode cL_law 454 = .ok (.i2l, 1) := by decide +kernel
theorem dL_law_455 : decode cL_law 455 = .ok (.ldc2_w 41, 3) := by decide +kernel
theorem dL_law_458 : decode cL_law 458 = .ok (.land, 1) := by decide +kernel
theorem dL_law_459 : decode cL_law 459 = .ok (.lor, 1) := by decide +kernel
theorem dL_law_460 : decode cL_law 460 = .ok (.aload_n 0, 1) := by decide +kernel
theorem dL_law_461 : decode cL_law 461 = .ok (.iload_n 3, 1) := by decide +kernel
theorem dL_law_462 : decode cL_law 462 = .ok (.iconst 3, 1) := by decide +kernel
theorem dL_law_463 : decode cL_law 463 = .ok (.iadd, 1) := by decide +kernel
theorem dL_law_464 : decode cL_law 464 = .ok (.iaload, 1) := by decide +kernel
theorem dL_law_465 : decode cL_law 465 = .ok (.invokevirtual 47, 3) := by decide +kernel
theorem dL_law_468 : decode cL_law 468 = .ok (.if_icmp .eq 800, 3) := by decide +kernel
theorem dL_law_471 : decode cL_law 471 = .ok (.iconst 0, 1) := by decide +kernel
theorem dL_law_472 : decode cL_law 472 = .ok (.ireturn, 1) := by decide +kernel
theorem dL_law_473 : decode cL_law 473 = .ok (.aload_n 1, 1) := by decide +kernel
theorem dL_law_474 : decode cL_law 474 = .ok (.invokevirtual 48, 3) := by decide +kernel
theorem dL_law_477 : decode cL_law 477 = .ok (.aload_n 2, 1) := by decide +kernel
theorem dL_law_478 : decode cL_law 478 = .ok (.invokevirtual 51, 3) := by decide +kernel
theorem dL_law_481 : decode cL_law 481 = .ok (.if_icmp .eq 787, 3) := by decide +kernel
theorem dL_law_484 : decode cL_law 484 = .ok (.iconst 0, 1) := by decide +kernel
theorem dL_law_485 : decode cL_law 485 = .ok (.ireturn, 1) := by decide +kernel
theorem dL_law_486 : decode cL_law 486 = .ok (.aload_n 1, 1) := by decide +kernel
theorem dL_law_487 : decode cL_law 487 = .ok (.invokevirtual 52, 3) := by decide +kernel
theorem dL_law_490 : decode cL_law 490 = .ok (.aload_n 2, 1) := by decide +kernel
theorem dL_law_491 : decode cL_law 491 = .ok (.invokevirtual 55, 3) := by decide +kernel
theorem dL_law_494 : decode cL_law 494 = .ok (.if_icmp .eq 774, 3) := by decide +kernel
theorem dL_law_497 : decode cL_law 497 = .ok (.iconst 0, 1) := by decide +kernel
theorem dL_law_498 : decode cL_law 498 = .ok (.ireturn, 1) := by decide +kernel
theorem dL_law_499 : decode cL_law 499 = .ok (.aload_n 1, 1) := by decide +kernel
theorem dL_law_500 : decode cL_law 500 = .ok (.aload_n 0, 1) := by decide +kernel
theorem dL_law_501 : decode cL_law 501 = .ok (.iload_n 3, 1) := by decide +kernel
theorem dL_law_502 : decode cL_law 502 = .ok (.iconst 1, 1) := by decide +kernel
theorem dL_law_503 : decode cL_law 503 = .ok (.iadd, 1) := by decide +kernel
theorem dL_law_504 : decode cL_law 504 = .ok (.iaload, 1) := by decide +kernel
theorem dL_law_505 : decode cL_law 505 = .ok (.aload_n 0, 1) := by decide +kernel
theorem dL_law_506 : decode cL_law 506 = .ok (.iload_n 3, 1) := by decide +kernel
theorem dL_law_507 : decode cL_law 507 = .ok (.iconst 2, 1) := by decide +kernel
theorem dL_law_508 : decode cL_law 508 = .ok (.iadd, 1) := by decide +kernel
theorem dL_law_509 : decode cL_law 509 = .ok (.iaload, 1) := by decide +kernel
theorem dL_law_510 : decode cL_law 510 = .ok (.invokevirtual 56, 3) := by decide +kernel
theorem dL_law_513 : decode cL_law 513 = .ok (.aload_n 2, 1) := by decide +kernel
theorem dL_law_514 : decode cL_law 514 = .ok (.aload_n 0, 1) := by decide +kernel
theorem dL_law_515 : decode cL_law 515 = .ok (.iload_n 3, 1) := by decide +kernel
theorem dL_law_516 : decode cL_law 516 = .ok (.iconst 1, 1) := by decide +kernel
theorem dL_law_517 : decode cL_law 517 = .ok (.iadd, 1) := by decide +kernel
theorem dL_law_518 : decode cL_law 518 = .ok (.iaload, 1) := by decide +kernel
theorem dL_law_519 : decode cL_law 519 = .ok (.aload_n 0, 1) := by decide +kernel
theorem dL_law_520 : decode cL_law 520 = .ok (.iload_n 3, 1) := by decide +kernel
theorem dL_law_521 : decode cL_law 521 = .ok (.iconst 2, 1) := by decide +kernel
theorem dL_law_522 : decode cL_law 522 = .ok (.iadd, 1) := by decide +kernel
theorem dL_law_523 : decode cL_law 523 = .ok (.iaload, 1) := by decide +kernel
theorem dL_law_524 : decode cL_law 524 = .ok (.invokevirtual 59, 3) := by decide +kernel
theorem dL_law_527 : decode cL_law 527 = .ok (.if_icmp .eq 741, 3) := by decide +kernel
theorem dL_law_530 : decode cL_law 530 = .ok (.iconst 0, 1) := by decide +kernel
theorem dL_law_531 : decode cL_law 531 = .ok (.ireturn, 1) := by decide +kernel
theorem dL_law_532 : decode cL_law 532 = .ok (.aload_n 1, 1) := by decide +kernel
theorem dL_law_533 : decode cL_law 533 = .ok (.aload_n 0, 1) := by decide +kernel
theorem dL_law_534 : decode cL_law 534 = .ok (.iload_n 3, 1) := by decide +kernel
theorem dL_law_535 : decode cL_law 535 = .ok (.iconst 1, 1) := by decide +kernel
theorem dL_law_536 : decode cL_law 536 = .ok (.iadd, 1) := by decide +kernel
theorem dL_law_537 : decode cL_law 537 = .ok (.iaload, 1) := by decide +kernel
theorem dL_law_538 : decode cL_law 538 = .ok (.invokevirtual 60, 3) := by decide +kernel
theorem dL_law_541 : decode cL_law 541 = .ok (.aload_n 2, 1) := by decide +kernel
theorem dL_law_542 : decode cL_law 542 = .ok (.aload_n 0, 1) := by decide +kernel
theorem dL_law_543 : decode cL_law 543 = .ok (.iload_n 3, 1) := by decide +kernel
theorem dL_law_544 : decode cL_law 544 = .ok (.iconst 1, 1) := by decide +kernel
theorem dL_law_545 : decode cL_law 545 = .ok (.iadd, 1) := by decide +kernel
theorem dL_law_546 : decode cL_law 546 = .ok (.iaload, 1) := by decide +kernel
theorem dL_law_547 : decode cL_law 547 = .ok (.invokevirtual 64, 3) := by decide +kernel
theorem dL_law_550 : decode cL_law 550 = .ok (.if_icmp .eq 718, 3) := by decide +kernel
theorem dL_law_553 : decode cL_law 553 = .ok (.iconst 0, 1) := by decide +kernel
theorem dL_law_554 : decode cL_law 554 = .ok (.ireturn, 1) := by decide +kernel
theorem dL_law_555 : decode cL_law 555 = .ok (.aload_n 1, 1) := by decide +kernel
theorem dL_law_556 : decode cL_law 556 = .ok (.aload_n 0, 1) := by decide +kernel
theorem dL_law_557 : decode cL_law 557 = .ok (.iload_n 3, 1) := by decide +kernel
theorem dL_law_558 : decode cL_law 558 = .ok (.iconst 1, 1) := by decide +kernel
theorem dL_law_559 : decode cL_law 559 = .ok (.iadd, 1) := by decide +kernel
theorem dL_law_560 : decode cL_law 560 = .ok (.iaload, 1) := by decide +kernel
theorem dL_law_561 : decode cL_law 561 = .ok (.invokevirtual 65, 3) := by decide +kernel
theorem dL_law_564 : decode cL_law 564 = .ok (.aload_n 2, 1) := by decide +kernel
theorem dL_law_565 : decode cL_law 565 = .ok (.aload_n 0, 1) := by decide +kernel
theorem dL_law_566 : decode cL_law 566 = .ok (.iload_n 3, 1) := by decide +kernel
theorem dL_law_567 : decode cL_law 567 = .ok (.iconst 1, 1) := by decide +kernel
theorem dL_law_568 : decode cL_law 568 = .ok (.iadd, 1) := by decide +kernel
theorem dL_law_569 : decode cL_law 569 = .ok (.iaload, 1) := by decide +kernel
theorem dL_law_570 : decode cL_law 570 = .ok (.invokevirtual 68, 3) := by decide +kernel
theorem dL_law_573 : decode cL_law 573 = .ok (.if_icmp .eq 695, 3) := by decide +kernel
theorem dL_law_576 : decode cL_law 576 = .ok (.iconst 0, 1) := by decide +kernel
theorem dL_law_577 : decode cL_law 577 = .ok (.ireturn, 1) := by decide +kernel
theorem dL_law_578 : decode cL_law 578 = .ok (.aload_n 1, 1) := by decide +kernel
theorem dL_law_579 : decode cL_law 579 = .ok (.aload_n 0, 1) := by decide +kernel
theorem dL_law_580 : decode cL_law 580 = .ok (.iload_n 3, 1) := by decide +kernel
theorem dL_law_581 : decode cL_law 581 = .ok (.iconst 1, 1) := by decide +kernel
theorem dL_law_582 : decode cL_law 582 = .ok (.iadd, 1) := by decide +kernel
theorem dL_law_583 : decode cL_law 583 = .ok (.iaload, 1) := by decide +kernel
theorem dL_law_584 : decode cL_law 584 = .ok (.aload_n 0, 1) := by decide +kernel
theorem dL_law_585 : decode cL_law 585 = .ok (.iload_n 3, 1) := by decide +kernel
theorem dL_law_586 : decode cL_law 586 = .ok (.iconst 2, 1) := by decide +kernel
theorem dL_law_587 : decode cL_law 587 = .ok (.iadd, 1) := by decide +kernel
theorem dL_law_588 : decode cL_law 588 = .ok (.iaload, 1) := by decide +kernel
theorem dL_law_589 : decode cL_law 589 = .ok (.invokevirtual 69, 3) := by decide +kernel
theorem dL_law_592 : decode cL_law 592 = .ok (.aload_n 2, 1) := by decide +kernel
theorem dL_law_593 : decode cL_law 593 = .ok (.aload_n 0, 1) := by decide +kernel
theorem dL_law_594 : decode cL_law 594 = .ok (.iload_n 3, 1) := by decide +kernel
theorem dL_law_595 : decode cL_law 595 = .ok (.iconst 1, 1) := by decide +kernel
theorem dL_law_596 : decode cL_law 596 = .ok (.iadd, 1) := by decide +kernel
theorem dL_law_597 : decode cL_law 597 = .ok (.iaload, 1) := by decide +kernel
theorem dL_law_598 : decode cL_law 598 = .ok (.aload_n 0, 1) := by decide +kernel
theorem dL_law_599 : decode cL_law 599 = .ok (.iload_n 3, 1) := by decide +kernel
theorem dL_law_600 : decode cL_law 600 = .ok (.iconst 2, 1) := by decide +kernel
theorem dL_law_601 : decode cL_law 601 = .ok (.iadd, 1) := by decide +kernel
theorem dL_law_602 : decode cL_law 602 = .ok (.iaload, 1) := by decide +kernel
theorem dL_law_603 : decode cL_law 603 = .ok (.invokevirtual 72, 3) := by decide +kernel
theorem dL_law_606 : decode cL_law 606 = .ok (.if_icmp .eq 662, 3) := by decide +kernel
theorem dL_law_609 : decode cL_law 609 = .ok (.iconst 0, 1) := by decide +kernel
theorem dL_law_610 : decode cL_law 610 = .ok (.ireturn, 1) := by decide +kernel
theorem dL_law_611 : decode cL_law 611 = .ok (.aload_n 1, 1) := by decide +kernel
theorem dL_law_612 : decode cL_law 612 = .ok (.aload_n 0, 1) := by decide +kernel
theorem dL_law_613 : decode cL_law 613 = .ok (.iload_n 3, 1) := by decide +kernel
theorem dL_law_614 : decode cL_law 614 = .ok (.iconst 1, 1) := by decide +kernel
theorem dL_law_615 : decode cL_law 615 = .ok (.iadd, 1) := by decide +kernel
theorem dL_law_616 : decode cL_law 616 = .ok (.iaload, 1) := by decide +kernel
theorem dL_law_617 : decode cL_law 617 = .ok (.aload_n 0, 1) := by decide +kernel
theorem dL_law_618 : decode cL_law 618 = .ok (.iload_n 3, 1) := by decide +kernel
theorem dL_law_619 : decode cL_law 619 = .ok (.iconst 2, 1) := by decide +kernel
theorem dL_law_620 : decode cL_law 620 = .ok (.iadd, 1) := by decide +kernel
theorem dL_law_621 : decode cL_law 621 = .ok (.iaload, 1) := by decide +kernel
theorem dL_law_622 : decode cL_law 622 = .ok (.invokevirtual 73, 3) := by decide +kernel
theorem dL_law_625 : decode cL_law 625 = .ok (.aload_n 2, 1) := by decide +kernel
theorem dL_law_626 : decode cL_law 626 = .ok (.aload_n 0, 1) := by decide +kernel
theorem dL_law_627 : decode cL_law 627 = .ok (.iload_n 3, 1) := by decide +kernel
theorem dL_law_628 : decode cL_law 628 = .ok (.iconst 1, 1) := by decide +kernel
theorem dL_law_629 : decode cL_law 629 = .ok (.iadd, 1) := by decide +kernel
theorem dL_law_630 : decode cL_law 630 = .ok (.iaload, 1) := by decide +kernel
theorem dL_law_631 : decode cL_law 631 = .ok (.aload_n 0, 1) := by decide +kernel
theorem dL_law_632 : decode cL_law 632 = .ok (.iload_n 3, 1) := by decide +kernel
theorem dL_law_633 : decode cL_law 633 = .ok (.iconst 2, 1) := by decide +kernel
theorem dL_law_634 : decode cL_law 634 = .ok (.iadd, 1) := by decide +kernel
theorem dL_law_635 : decode cL_law 635 = .ok (.iaload, 1) := by decide +kernel
theorem dL_law_636 : decode cL_law 636 = .ok (.invokevirtual 76, 3) := by decide +kernel
theorem dL_law_639 : decode cL_law 639 = .ok (.if_icmp .eq 629, 3) := by decide +kernel
theorem dL_law_642 : decode cL_law 642 = .ok (.iconst 0, 1) := by decide +kernel
theorem dL_law_643 : decode cL_law 643 = .ok (.ireturn, 1) := by decide +kernel
theorem dL_law_644 : decode cL_law 644 = .ok (.aload_n 1, 1) := by decide +kernel
theorem dL_law_645 : decode cL_law 645 = .ok (.aload_n 0, 1) := by decide +kernel
theorem dL_law_646 : decode cL_law 646 = .ok (.iload_n 3, 1) := by decide +kernel
theorem dL_law_647 : decode cL_law 647 = .ok (.iconst 1, 1) := by decide +kernel
theorem dL_law_648 : decode cL_law 648 = .ok (.iadd, 1) := by decide +kernel
theorem dL_law_649 : decode cL_law 649 = .ok (.iaload, 1) := by decide +kernel
theorem dL_law_650 : decode cL_law 650 = .ok (.aload_n 0, 1) := by decide +kernel
theorem dL_law_651 : decode cL_law 651 = .ok (.iload_n 3, 1) := by decide +kernel
theorem dL_law_652 : decode cL_law 652 = .ok (.iconst 2, 1) := by decide +kernel
theorem dL_law_653 : decode cL_law 653 = .ok (.iadd, 1) := by decide +kernel
theorem dL_law_654 : decode cL_law 654 = .ok (.iaload, 1) := by decide +kernel
theorem dL_law_655 : decode cL_law 655 = .ok (.invokevirtual 77, 3) := by decide +kernel
theorem dL_law_658 : decode cL_law 658 = .ok (.aload_n 2, 1) := by decide +kernel
theorem dL_law_659 : decode cL_law 659 = .ok (.aload_n 0, 1) := by decide +kernel
theorem dL_law_660 : decode cL_law 660 = .ok (.iload_n 3, 1) := by decide +kernel
theorem dL_law_661 : decode cL_law 661 = .ok (.iconst 1, 1) := by decide +kernel
theorem dL_law_662 : decode cL_law 662 = .ok (.iadd, 1) := by decide +kernel
theorem dL_law_663 : decode cL_law 663 = .ok (.iaload, 1) := by decide +kernel
theorem dL_law_664 : decode cL_law 664 = .ok (.aload_n 0, 1) := by decide +kernel
theorem dL_law_665 : decode cL_law 665 = .ok (.iload_n 3, 1) := by decide +kernel
theorem dL_law_666 : decode cL_law 666 = .ok (.iconst 2, 1) := by decide +kernel
theorem dL_law_667 : decode cL_law 667 = .ok (.iadd, 1) := by decide +kernel
theorem dL_law_668 : decode cL_law 668 = .ok (.iaload, 1) := by decide +kernel
theorem dL_law_669 : decode cL_law 669 = .ok (.invokevirtual 80, 3) := by decide +kernel
theorem dL_law_672 : decode cL_law 672 = .ok (.if_icmp .eq 596, 3) := by decide +kernel
theorem dL_law_675 : decode cL_law 675 = .ok (.iconst 0, 1) := by decide +kernel
theorem dL_law_676 : decode cL_law 676 = .ok (.ireturn, 1) := by decide +kernel
theorem dL_law_677 : decode cL_law 677 = .ok (.aload_n 1, 1) := by decide +kernel
theorem dL_law_678 : decode cL_law 678 = .ok (.aload_n 0, 1) := by decide +kernel
theorem dL_law_679 : decode cL_law 679 = .ok (.iload_n 3, 1) := by decide +kernel
theorem dL_law_680 : decode cL_law 680 = .ok (.iconst 1, 1) := by decide +kernel
theorem dL_law_681 : decode cL_law 681 = .ok (.iadd, 1) := by decide +kernel
theorem dL_law_682 : decode cL_law 682 = .ok (.iaload, 1) := by decide +kernel
theorem dL_law_683 : decode cL_law 683 = .ok (.aload_n 0, 1) := by decide +kernel
theorem dL_law_684 : decode cL_law 684 = .ok (.iload_n 3, 1) := by decide +kernel
theorem dL_law_685 : decode cL_law 685 = .ok (.iconst 2, 1) := by decide +kernel
theorem dL_law_686 : decode cL_law 686 = .ok (.iadd, 1) := by decide +kernel
theorem dL_law_687 : decode cL_law 687 = .ok (.iaload, 1) := by decide +kernel
theorem dL_law_688 : decode cL_law 688 = .ok (.invokevirtual 81, 3) := by decide +kernel
theorem dL_law_691 : decode cL_law 691 = .ok (.aload_n 2, 1) := by decide +kernel
theorem dL_law_692 : decode cL_law 692 = .ok (.aload_n 0, 1) := by decide +kernel
theorem dL_law_693 : decode cL_law 693 = .ok (.iload_n 3, 1) := by decide +kernel
theorem dL_law_694 : decode cL_law 694 = .ok (.iconst 1, 1) := by decide +kernel
theorem dL_law_695 : decode cL_law 695 = .ok (.iadd, 1) := by decide +kernel
theorem dL_law_696 : decode cL_law 696 = .ok (.iaload, 1) := by decide +kernel
theorem dL_law_697 : decode cL_law 697 = .ok (.aload_n 0, 1) := by decide +kernel
theorem dL_law_698 : decode cL_law 698 = .ok (.iload_n 3, 1) := by decide +kernel
theorem dL_law_699 : decode cL_law 699 = .ok (.iconst 2, 1) := by decide +kernel
theorem dL_law_700 : decode cL_law 700 = .ok (.iadd, 1) := by decide +kernel
theorem dL_law_701 : decode cL_law 701 = .ok (.iaload, 1) := by decide +kernel
theorem dL_law_702 : decode cL_law 702 = .ok (.invokevirtual 84, 3) := by decide +kernel
theorem dL_law_705 : decode cL_law 705 = .ok (.if_icmp .eq 563, 3) := by decide +kernel
theorem dL_law_708 : decode cL_law 708 = .ok (.iconst 0, 1) := by decide +kernel
theorem dL_law_709 : decode cL_law 709 = .ok (.ireturn, 1) := by decide +kernel
theorem dL_law_710 : decode cL_law 710 = .ok (.aload_n 1, 1) := by decide +kernel
theorem dL_law_711 : decode cL_law 711 = .ok (.aload_n 0, 1) := by decide +kernel
theorem dL_law_712 : decode cL_law 712 = .ok (.iload_n 3, 1) := by decide +kernel
theorem dL_law_713 : decode cL_law 713 = .ok (.iconst 1, 1) := by decide +kernel
theorem dL_law_714 : decode cL_law 714 = .ok (.iadd, 1) := by decide +kernel
theorem dL_law_715 : decode cL_law 715 = .ok (.iaload, 1) := by decide +kernel
theorem dL_law_716 : decode cL_law 716 = .ok (.invokevirtual 85, 3) := by decide +kernel
theorem dL_law_719 : decode cL_law 719 = .ok (.aload_n 2, 1) := by decide +kernel
theorem dL_law_720 : decode cL_law 720 = .ok (.aload_n 0, 1) := by decide +kernel
theorem dL_law_721 : decode cL_law 721 = .ok (.iload_n 3, 1) := by decide +kernel
theorem dL_law_722 : decode cL_law 722 = .ok (.iconst 1, 1) := by decide +kernel
theorem dL_law_723 : decode cL_law 723 = .ok (.iadd, 1) := by decide +kernel
theorem dL_law_724 : decode cL_law 724 = .ok (.iaload, 1) := by decide +kernel
theorem dL_law_725 : decode cL_law 725 = .ok (.invokevirtual 88, 3) := by decide +kernel
theorem dL_law_728 : decode cL_law 728 = .ok (.if_icmp .eq 540, 3) := by decide +kernel
theorem dL_law_731 : decode cL_law 731 = .ok (.iconst 0, 1) := by decide +kernel
theorem dL_law_732 : decode cL_law 732 = .ok (.ireturn, 1) := by decide +kernel
theorem dL_law_733 : decode cL_law 733 = .ok (.aload_n 1, 1) := by decide +kernel
theorem dL_law_734 : decode cL_law 734 = .ok (.invokevirtual 89, 3) := by decide +kernel
theorem dL_law_737 : decode cL_law 737 = .ok (.aload_n 2, 1) := by decide +kernel
theorem dL_law_738 : decode cL_law 738 = .ok (.invokevirtual 92, 3) := by decide +kernel
theorem dL_law_741 : decode cL_law 741 = .ok (.if_icmp .eq 527, 3) := by decide +kernel
theorem dL_law_744 : decode cL_law 744 = .ok (.iconst 0, 1) := by decide +kernel
theorem dL_law_745 : decode cL_law 745 = .ok (.ireturn, 1) := by decide +kernel
theorem dL_law_746 : decode cL_law 746 = .ok (.aload_n 1, 1) := by decide +kernel
theorem dL_law_747 : decode cL_law 747 = .ok (.aload_n 0, 1) := by decide +kernel
theorem dL_law_748 : decode cL_law 748 = .ok (.iload_n 3, 1) := by decide +kernel
theorem dL_law_749 : decode cL_law 749 = .ok (.iconst 1, 1) := by decide +kernel
theorem dL_law_750 : decode cL_law 750 = .ok (.iadd, 1) := by decide +kernel
theorem dL_law_751 : decode cL_law 751 = .ok (.iaload, 1) := by decide +kernel
theorem dL_law_752 : decode cL_law 752 = .ok (.aload_n 0, 1) := by decide +kernel
theorem dL_law_753 : decode cL_law 753 = .ok (.iload_n 3, 1) := by decide +kernel
theorem dL_law_754 : decode cL_law 754 = .ok (.iconst 2, 1) := by decide +kernel
theorem dL_law_755 : decode cL_law 755 = .ok (.iadd, 1) := by decide +kernel
theorem dL_law_756 : decode cL_law 756 = .ok (.iaload, 1) := by decide +kernel
theorem dL_law_757 : decode cL_law 757 = .ok (.aload_n 0, 1) := by decide +kernel
theorem dL_law_758 : decode cL_law 758 = .ok (.iload_n 3, 1) := by decide +kernel
theorem dL_law_759 : decode cL_law 759 = .ok (.iconst 3, 1) := by decide +kernel
theorem dL_law_760 : decode cL_law 760 = .ok (.iadd, 1) := by decide +kernel
theorem dL_law_761 : decode cL_law 761 = .ok (.iaload, 1) := by decide +kernel
theorem dL_law_762 : decode cL_law 762 = .ok (.aload_n 0, 1) := by decide +kernel
theorem dL_law_763 : decode cL_law 763 = .ok (.iload_n 3, 1) := by decide +kernel
theorem dL_law_764 : decode cL_law 764 = .ok (.iconst 4, 1) := by decide +kernel
theorem dL_law_765 : decode cL_law 765 = .ok (.iadd, 1) := by decide +kernel
theorem dL_law_766 : decode cL_law 766 = .ok (.iaload, 1) := by decide +kernel
theorem dL_law_767 : decode cL_law 767 = .ok (.invokevirtual 93, 3) := by decide +kernel
theorem dL_law_770 : decode cL_law 770 = .ok (.aload_n 2, 1) := by decide +kernel
theorem dL_law_771 : decode cL_law 771 = .ok (.aload_n 0, 1) := by decide +kernel
theorem dL_law_772 : decode cL_law 772 = .ok (.iload_n 3, 1) := by decide +kernel
theorem dL_law_773 : decode cL_law 773 = .ok (.iconst 1, 1) := by decide +kernel
theorem dL_law_774 : decode cL_law 774 = .ok (.iadd, 1) := by decide +kernel
theorem dL_law_775 : decode cL_law 775 = .ok (.iaload, 1) := by decide +kernel
theorem dL_law_776 : decode cL_law 776 = .ok (.aload_n 0, 1) := by decide +kernel
theorem dL_law_777 : decode cL_law 777 = .ok (.iload_n 3, 1) := by decide +kernel
theorem dL_law_778 : decode cL_law 778 = .ok (.iconst 2, 1) := by decide +kernel
theorem dL_law_779 : decode cL_law 779 = .ok (.iadd, 1) := by decide +kernel
theorem dL_law_780 : decode cL_law 780 = .ok (.iaload, 1) := by decide +kernel
theorem dL_law_781 : decode cL_law 781 = .ok (.aload_n 0, 1) := by decide +kernel
theorem dL_law_782 : decode cL_law 782 = .ok (.iload_n 3, 1) := by decide +kernel
theorem dL_law_783 : decode cL_law 783 = .ok (.iconst 3, 1) := by decide +kernel
theorem dL_law_784 : decode cL_law 784 = .ok (.iadd, 1) := by decide +kernel
theorem dL_law_785 : decode cL_law 785 = .ok (.iaload, 1) := by decide +kernel
theorem dL_law_786 : decode cL_law 786 = .ok (.aload_n 0, 1) := by decide +kernel
theorem dL_law_787 : decode cL_law 787 = .ok (.iload_n 3, 1) := by decide +kernel
theorem dL_law_788 : decode cL_law 788 = .ok (.iconst 4, 1) := by decide +kernel
theorem dL_law_789 : decode cL_law 789 = .ok (.iadd, 1) := by decide +kernel
theorem dL_law_790 : decode cL_law 790 = .ok (.iaload, 1) := by decide +kernel
theorem dL_law_791 : decode cL_law 791 = .ok (.invokevirtual 97, 3) := by decide +kernel
theorem dL_law_794 : decode cL_law 794 = .ok (.if_icmp .eq 474, 3) := by decide +kernel
theorem dL_law_797 : decode cL_law 797 = .ok (.iconst 0, 1) := by decide +kernel
theorem dL_law_798 : decode cL_law 798 = .ok (.ireturn, 1) := by decide +kernel
theorem dL_law_799 : decode cL_law 799 = .ok (.aload_n 1, 1) := by decide +kernel
theorem dL_law_800 : decode cL_law 800 = .ok (.aload_n 0, 1) := by decide +kernel
theorem dL_law_801 : decode cL_law 801 = .ok (.iload_n 3, 1) := by decide +kernel
theorem dL_law_802 : decode cL_law 802 = .ok (.iconst 1, 1) := by decide +kernel
theorem dL_law_803 : decode cL_law 803 = .ok (.iadd, 1) := by decide +kernel
theorem dL_law_804 : decode cL_law 804 = .ok (.iaload, 1) := by decide +kernel
theorem dL_law_805 : decode cL_law 805 = .ok (.aload_n 0, 1) := by decide +kernel
theorem dL_law_806 : decode cL_law 806 = .ok (.iload_n 3, 1) := by decide +kernel
theorem dL_law_807 : decode cL_law 807 = .ok (.iconst 2, 1) := by decide +kernel
theorem dL_law_808 : decode cL_law 808 = .ok (.iadd, 1) := by decide +kernel
theorem dL_law_809 : decode cL_law 809 = .ok (.iaload, 1) := by decide +kernel
theorem dL_law_810 : decode cL_law 810 = .ok (.invokevirtual 98, 3) := by decide +kernel
theorem dL_law_813 : decode cL_law 813 = .ok (.aload_n 2, 1) := by decide +kernel
theorem dL_law_814 : decode cL_law 814 = .ok (.aload_n 0, 1) := by decide +kernel
theorem dL_law_815 : decode cL_law 815 = .ok (.iload_n 3, 1) := by decide +kernel
theorem dL_law_816 : decode cL_law 816 = .ok (.iconst 1, 1) := by decide +kernel
theorem dL_law_817 : decode cL_law 817 = .ok (.iadd, 1) := by decide +kernel
theorem dL_law_818 : decode cL_law 818 = .ok (.iaload, 1) := by decide +kernel
theorem dL_law_819 : decode cL_law 819 = .ok (.aload_n 0, 1) := by decide +kernel
theorem dL_law_820 : decode cL_law 820 = .ok (.iload_n 3, 1) := by decide +kernel
theorem dL_law_821 : decode cL_law 821 = .ok (.iconst 2, 1) := by decide +kernel
theorem dL_law_822 : decode cL_law 822 = .ok (.iadd, 1) := by decide +kernel
theorem dL_law_823 : decode cL_law 823 = .ok (.iaload, 1) := by decide +kernel
theorem dL_law_824 : decode cL_law 824 = .ok (.invokevirtual 101, 3) := by decide +kernel
theorem dL_law_827 : decode cL_law 827 = .ok (.if_icmp .eq 441, 3) := by decide +kernel
theorem dL_law_830 : decode cL_law 830 = .ok (.iconst 0, 1) := by decide +kernel
theorem dL_law_831 : decode cL_law 831 = .ok (.ireturn, 1) := by decide +kernel
theorem dL_law_832 : decode cL_law 832 = .ok (.aload_n 1, 1) := by decide +kernel
theorem dL_law_833 : decode cL_law 833 = .ok (.aload_n 0, 1) := by decide +kernel
theorem dL_law_834 : decode cL_law 834 = .ok (.iload_n 3, 1) := by decide +kernel
theorem dL_law_835 : decode cL_law 835 = .ok (.iconst 1, 1) := by decide +kernel
theorem dL_law_836 : decode cL_law 836 = .ok (.iadd, 1) := by decide +kernel
theorem dL_law_837 : decode cL_law 837 = .ok (.iaload, 1) := by decide +kernel
theorem dL_law_838 : decode cL_law 838 = .ok (.aload_n 0, 1) := by decide +kernel
theorem dL_law_839 : decode cL_law 839 = .ok (.iload_n 3, 1) := by decide +kernel
theorem dL_law_840 : decode cL_law 840 = .ok (.iconst 2, 1) := by decide +kernel
theorem dL_law_841 : decode cL_law 841 = .ok (.iadd, 1) := by decide +kernel
theorem dL_law_842 : decode cL_law 842 = .ok (.iaload, 1) := by decide +kernel
theorem dL_law_843 : decode cL_law 843 = .ok (.invokevirtual 102, 3) := by decide +kernel
theorem dL_law_846 : decode cL_law 846 = .ok (.aload_n 2, 1) := by decide +kernel
theorem dL_law_847 : decode cL_law 847 = .ok (.aload_n 0, 1) := by decide +kernel
theorem dL_law_848 : decode cL_law 848 = .ok (.iload_n 3, 1) := by decide +kernel
theorem dL_law_849 : decode cL_law 849 = .ok (.iconst 1, 1) := by decide +kernel
theorem dL_law_850 : decode cL_law 850 = .ok (.iadd, 1) := by decide +kernel
theorem dL_law_851 : decode cL_law 851 = .ok (.iaload, 1) := by decide +kernel
theorem dL_law_852 : decode cL_law 852 = .ok (.aload_n 0, 1) := by decide +kernel
theorem dL_law_853 : decode cL_law 853 = .ok (.iload_n 3, 1) := by decide +kernel
theorem dL_law_854 : decode cL_law 854 = .ok (.iconst 2, 1) := by decide +kernel
theorem dL_law_855 : decode cL_law 855 = .ok (.iadd, 1) := by decide +kernel
theorem dL_law_856 : decode cL_law 856 = .ok (.iaload, 1) := by decide +kernel
theorem dL_law_857 : decode cL_law 857 = .ok (.invokevirtual 105, 3) := by decide +kernel
theorem dL_law_860 : decode cL_law 860 = .ok (.if_icmp .eq 408, 3) := by decide +kernel
theorem dL_law_863 : decode cL_law 863 = .ok (.iconst 0, 1) := by decide +kernel
theorem dL_law_864 : decode cL_law 864 = .ok (.ireturn, 1) := by decide +kernel
theorem dL_law_865 : decode cL_law 865 = .ok (.aload_n 1, 1) := by decide +kernel
theorem dL_law_866 : decode cL_law 866 = .ok (.invokevirtual 106, 3) := by decide +kernel
theorem dL_law_869 : decode cL_law 869 = .ok (.aload_n 2, 1) := by decide +kernel
theorem dL_law_870 : decode cL_law 870 = .ok (.invokevirtual 109, 3) := by decide +kernel
theorem dL_law_873 : decode cL_law 873 = .ok (.if_icmp .eq 395, 3) := by decide +kernel
theorem dL_law_876 : decode cL_law 876 = .ok (.iconst 0, 1) := by decide +kernel
theorem dL_law_877 : decode cL_law 877 = .ok (.ireturn, 1) := by decide +kernel
theorem dL_law_878 : decode cL_law 878 = .ok (.aload_n 1, 1) := by decide +kernel
theorem dL_law_879 : decode cL_law 879 = .ok (.aload_n 0, 1) := by decide +kernel
theorem dL_law_880 : decode cL_law 880 = .ok (.iload_n 3, 1) := by decide +kernel
theorem dL_law_881 : decode cL_law 881 = .ok (.iconst 1, 1) := by decide +kernel
theorem dL_law_882 : decode cL_law 882 = .ok (.iadd, 1) := by decide +kernel
theorem dL_law_883 : decode cL_law 883 = .ok (.iaload, 1) := by decide +kernel
theorem dL_law_884 : decode cL_law 884 = .ok (.aload_n 0, 1) := by decide +kernel
theorem dL_law_885 : decode cL_law 885 = .ok (.iload_n 3, 1) := by decide +kernel
theorem dL_law_886 : decode cL_law 886 = .ok (.iconst 2, 1) := by decide +kernel
theorem dL_law_887 : decode cL_law 887 = .ok (.iadd, 1) := by decide +kernel
theorem dL_law_888 : decode cL_law 888 = .ok (.iaload, 1) := by decide +kernel
theorem dL_law_889 : decode cL_law 889 = .ok (.invokevirtual 110, 3) := by decide +kernel
theorem dL_law_892 : decode cL_law 892 = .ok (.aload_n 2, 1) := by decide +kernel
theorem dL_law_893 : decode cL_law 893 = .ok (.aload_n 0, 1) := by decide +kernel
theorem dL_law_894 : decode cL_law 894 = .ok (.iload_n 3, 1) := by decide +kernel
theorem dL_law_895 : decode cL_law 895 = .ok (.iconst 1, 1) := by decide +kernel
theorem dL_law_896 : decode cL_law 896 = .ok (.iadd, 1) := by decide +kernel
theorem dL_law_897 : decode cL_law 897 = .ok (.iaload, 1) := by decide +kernel
theorem dL_law_898 : decode cL_law 898 = .ok (.aload_n 0, 1) := by decide +kernel
theorem dL_law_899 : decode cL_law 899 = .ok (.iload_n 3, 1) := by decide +kernel
theorem dL_law_900 : decode cL_law 900 = .ok (.iconst 2, 1) := by decide +kernel
theorem dL_law_901 : decode cL_law 901 = .ok (.iadd, 1) := by decide +kernel
theorem dL_law_902 : decode cL_law 902 = .ok (.iaload, 1) := by decide +kernel
theorem dL_law_903 : decode cL_law 903 = .ok (.invokevirtual 113, 3) := by decide +kernel
theorem dL_law_906 : decode cL_law 906 = .ok (.if_icmp .eq 362, 3) := by decide +kernel
theorem dL_law_909 : decode cL_law 909 = .ok (.iconst 0, 1) := by decide +kernel
theorem dL_law_910 : decode cL_law 910 = .ok (.ireturn, 1) := by decide +kernel
theorem dL_law_911 : decode cL_law 911 = .ok (.aload_n 1, 1) := by decide +kernel
theorem dL_law_912 : decode cL_law 912 = .ok (.aload_n 0, 1) := by decide +kernel
theorem dL_law_913 : decode cL_law 913 = .ok (.iload_n 3, 1) := by decide +kernel
theorem dL_law_914 : decode cL_law 914 = .ok (.iconst 1, 1) := by decide +kernel
theorem dL_law_915 : decode cL_law 915 = .ok (.iadd, 1) := by decide +kernel
theorem dL_law_916 : decode cL_law 916 = .ok (.iaload, 1) := by decide +kernel
theorem dL_law_917 : decode cL_law 917 = .ok (.aload_n 0, 1) := by decide +kernel
theorem dL_law_918 : decode cL_law 918 = .ok (.iload_n 3, 1) := by decide +kernel
theorem dL_law_919 : decode cL_law 919 = .ok (.iconst 2, 1) := by decide +kernel
theorem dL_law_920 : decode cL_law 920 = .ok (.iadd, 1) := by decide +kernel
theorem dL_law_921 : decode cL_law 921 = .ok (.iaload, 1) := by decide +kernel
theorem dL_law_922 : decode cL_law 922 = .ok (.invokevirtual 114, 3) := by decide +kernel
theorem dL_law_925 : decode cL_law 925 = .ok (.aload_n 2, 1) := by decide +kernel
theorem dL_law_926 : decode cL_law 926 = .ok (.aload_n 0, 1) := by decide +kernel
theorem dL_law_927 : decode cL_law 927 = .ok (.iload_n 3, 1) := by decide +kernel
theorem dL_law_928 : decode cL_law 928 = .ok (.iconst 1, 1) := by decide +kernel
theorem dL_law_929 : decode cL_law 929 = .ok (.iadd, 1) := by decide +kernel
theorem dL_law_930 : decode cL_law 930 = .ok (.iaload, 1) := by decide +kernel
theorem dL_law_931 : decode cL_law 931 = .ok (.aload_n 0, 1) := by decide +kernel
theorem dL_law_932 : decode cL_law 932 = .ok (.iload_n 3, 1) := by decide +kernel
theorem dL_law_933 : decode cL_law 933 = .ok (.iconst 2, 1) := by decide +kernel
theorem dL_law_934 : decode cL_law 934 = .ok (.iadd, 1) := by decide +kernel
theorem dL_law_935 : decode cL_law 935 = .ok (.iaload, 1) := by decide +kernel
theorem dL_law_936 : decode cL_law 936 = .ok (.invokevirtual 117, 3) := by decide +kernel
theorem dL_law_939 : decode cL_law 939 = .ok (.if_icmp .eq 329, 3) := by decide +kernel
theorem dL_law_942 : decode cL_law 942 = .ok (.iconst 0, 1) := by decide +kernel
theorem dL_law_943 : decode cL_law 943 = .ok (.ireturn, 1) := by decide +kernel
theorem dL_law_944 : decode cL_law 944 = .ok (.aload_n 1, 1) := by decide +kernel
theorem dL_law_945 : decode cL_law 945 = .ok (.aload_n 0, 1) := by decide +kernel
theorem dL_law_946 : decode cL_law 946 = .ok (.iload_n 3, 1) := by decide +kernel
theorem dL_law_947 : decode cL_law 947 = .ok (.iconst 1, 1) := by decide +kernel
theorem dL_law_948 : decode cL_law 948 = .ok (.iadd, 1) := by decide +kernel
theorem dL_law_949 : decode cL_law 949 = .ok (.iaload, 1) := by decide +kernel
theorem dL_law_950 : decode cL_law 950 = .ok (.aload_n 0, 1) := by decide +kernel
theorem dL_law_951 : decode cL_law 951 = .ok (.iload_n 3, 1) := by decide +kernel
theorem dL_law_952 : decode cL_law 952 = .ok (.iconst 2, 1) := by decide +kernel
theorem dL_law_953 : decode cL_law 953 = .ok (.iadd, 1) := by decide +kernel
theorem dL_law_954 : decode cL_law 954 = .ok (.iaload, 1) := by decide +kernel
theorem dL_law_955 : decode cL_law 955 = .ok (.aload_n 0, 1) := by decide +kernel
theorem dL_law_956 : decode cL_law 956 = .ok (.iload_n 3, 1) := by decide +kernel
theorem dL_law_957 : decode cL_law 957 = .ok (.iconst 3, 1) := by decide +kernel
theorem dL_law_958 : decode cL_law 958 = .ok (.iadd, 1) := by decide +kernel
theorem dL_law_959 : decode cL_law 959 = .ok (.iaload, 1) := by decide +kernel
theorem dL_law_960 : decode cL_law 960 = .ok (.aload_n 0, 1) := by decide +kernel
theorem dL_law_961 : decode cL_law 961 = .ok (.iload_n 3, 1) := by decide +kernel
theorem dL_law_962 : decode cL_law 962 = .ok (.iconst 4, 1) := by decide +kernel
theorem dL_law_963 : decode cL_law 963 = .ok (.iadd, 1) := by decide +kernel
theorem dL_law_964 : decode cL_law 964 = .ok (.iaload, 1) := by decide +kernel
theorem dL_law_965 : decode cL_law 965 = .ok (.aload_n 0, 1) := by decide +kernel
theorem dL_law_966 : decode cL_law 966 = .ok (.iload_n 3, 1) := by decide +kernel
theorem dL_law_967 : decode cL_law 967 = .ok (.iconst 5, 1) := by decide +kernel
theorem dL_law_968 : decode cL_law 968 = .ok (.iadd, 1) := by decide +kernel
theorem dL_law_969 : decode cL_law 969 = .ok (.iaload, 1) := by decide +kernel
theorem dL_law_970 : decode cL_law 970 = .ok (.invokevirtual 118, 3) := by decide +kernel
theorem dL_law_973 : decode cL_law 973 = .ok (.aload_n 2, 1) := by decide +kernel
theorem dL_law_974 : decode cL_law 974 = .ok (.aload_n 0, 1) := by decide +kernel
theorem dL_law_975 : decode cL_law 975 = .ok (.iload_n 3, 1) := by decide +kernel
theorem dL_law_976 : decode cL_law 976 = .ok (.iconst 1, 1) := by decide +kernel
theorem dL_law_977 : decode cL_law 977 = .ok (.iadd, 1) := by decide +kernel
theorem dL_law_978 : decode cL_law 978 = .ok (.iaload, 1) := by decide +kernel
theorem dL_law_979 : decode cL_law 979 = .ok (.aload_n 0, 1) := by decide +kernel
theorem dL_law_980 : decode cL_law 980 = .ok (.iload_n 3, 1) := by decide +kernel
theorem dL_law_981 : decode cL_law 981 = .ok (.iconst 2, 1) := by decide +kernel
theorem dL_law_982 : decode cL_law 982 = .ok (.iadd, 1) := by decide +kernel
theorem dL_law_983 : decode cL_law 983 = .ok (.iaload, 1) := by decide +kernel
theorem dL_law_984 : decode cL_law 984 = .ok (.aload_n 0, 1) := by decide +kernel
theorem dL_law_985 : decode cL_law 985 = .ok (.iload_n 3, 1) := by decide +kernel
theorem dL_law_986 : decode cL_law 986 = .ok (.iconst 3, 1) := by decide +kernel
theorem dL_law_987 : decode cL_law 987 = .ok (.iadd, 1) := by decide +kernel
theorem dL_law_988 : decode cL_law 988 = .ok (.iaload, 1) := by decide +kernel
theorem dL_law_989 : decode cL_law 989 = .ok (.aload_n 0, 1) := by decide +kernel
theorem dL_law_990 : decode cL_law 990 = .ok (.iload_n 3, 1) := by decide +kernel
theorem dL_law_991 : decode cL_law 991 = .ok (.iconst 4, 1) := by decide +kernel
theorem dL_law_992 : decode cL_law 992 = .ok (.iadd, 1) := by decide +kernel
theorem dL_law_993 : decode cL_law 993 = .ok (.iaload, 1) := by decide +kernel
theorem dL_law_994 : decode cL_law 994 = .ok (.aload_n 0, 1) := by decide +kernel
theorem dL_law_995 : decode cL_law 995 = .ok (.iload_n 3, 1) := by decide +kernel
theorem dL_law_996 : decode cL_law 996 = .ok (.iconst 5, 1) := by decide +kernel
theorem dL_law_997 : decode cL_law 997 = .ok (.iadd, 1) := by decide +kernel
theorem dL_law_998 : decode cL_law 998 = .ok (.iaload, 1) := by decide +kernel
theorem dL_law_999 : decode cL_law 999 = .ok (.invokevirtual 122, 3) := by decide +kernel
theorem dL_law_1002 : decode cL_law 1002 = .ok (.if_icmp .eq 266, 3) := by decide +kernel
theorem dL_law_1005 : decode cL_law 1005 = .ok (.iconst 0, 1) := by decide +kernel
theorem dL_law_1006 : decode cL_law 1006 = .ok (.ireturn, 1) := by decide +kernel
theorem dL_law_1007 : decode cL_law 1007 = .ok (.aload_n 1, 1) := by decide +kernel
theorem dL_law_1008 : decode cL_law 1008 = .ok (.invokevirtual 123, 3) := by decide +kernel
theorem dL_law_1011 : decode cL_law 1011 = .ok (.aload_n 2, 1) := by decide +kernel
theorem dL_law_1012 : decode cL_law 1012 = .ok (.invokevirtual 126, 3) := by decide +kernel
theorem dL_law_1015 : decode cL_law 1015 = .ok (.if_icmp .eq 253, 3) := by decide +kernel
theorem dL_law_1018 : decode cL_law 1018 = .ok (.iconst 0, 1) := by decide +kernel
theorem dL_law_1019 : decode cL_law 1019 = .ok (.ireturn, 1) := by decide +kernel
theorem dL_law_1020 : decode cL_law 1020 = .ok (.aload_n 1, 1) := by decide +kernel
theorem dL_law_1021 : decode cL_law 1021 = .ok (.invokevirtual 127, 3) := by decide +kernel
theorem dL_law_1024 : decode cL_law 1024 = .ok (.aload_n 2, 1) := by decide +kernel
theorem dL_law_1025 : decode cL_law 1025 = .ok (.invokevirtual 130, 3) := by decide +kernel
theorem dL_law_1028 : decode cL_law 1028 = .ok (.if_icmp .eq 240, 3) := by decide +kernel
theorem dL_law_1031 : decode cL_law 1031 = .ok (.iconst 0, 1) := by decide +kernel
theorem dL_law_1032 : decode cL_law 1032 = .ok (.ireturn, 1) := by decide +kernel
theorem dL_law_1033 : decode cL_law 1033 = .ok (.aload_n 1, 1) := by decide +kernel
theorem dL_law_1034 : decode cL_law 1034 = .ok (.aload_n 0, 1) := by decide +kernel
theorem dL_law_1035 : decode cL_law 1035 = .ok (.iload_n 3, 1) := by decide +kernel
theorem dL_law_1036 : decode cL_law 1036 = .ok (.iconst 1, 1) := by decide +kernel
theorem dL_law_1037 : decode cL_law 1037 = .ok (.iadd, 1) := by decide +kernel
theorem dL_law_1038 : decode cL_law 1038 = .ok (.iaload, 1) := by decide +kernel
theorem dL_law_1039 : decode cL_law 1039 = .ok (.aload_n 0, 1) := by decide +kernel
theorem dL_law_1040 : decode cL_law 1040 = .ok (.iload_n 3, 1) := by decide +kernel
theorem dL_law_1041 : decode cL_law 1041 = .ok (.iconst 2, 1) := by decide +kernel
theorem dL_law_1042 : decode cL_law 1042 = .ok (.iadd, 1) := by decide +kernel
theorem dL_law_1043 : decode cL_law 1043 = .ok (.iaload, 1) := by decide +kernel
theorem dL_law_1044 : decode cL_law 1044 = .ok (.aload_n 0, 1) := by decide +kernel
theorem dL_law_1045 : decode cL_law 1045 = .ok (.iload_n 3, 1) := by decide +kernel
theorem dL_law_1046 : decode cL_law 1046 = .ok (.iconst 3, 1) := by decide +kernel
theorem dL_law_1047 : decode cL_law 1047 = .ok (.iadd, 1) := by decide +kernel
theorem dL_law_1048 : decode cL_law 1048 = .ok (.iaload, 1) := by decide +kernel
theorem dL_law_1049 : decode cL_law 1049 = .ok (.aload_n 0, 1) := by decide +kernel
theorem dL_law_1050 : decode cL_law 1050 = .ok (.iload_n 3, 1) := by decide +kernel
theorem dL_law_1051 : decode cL_law 1051 = .ok (.iconst 4, 1) := by decide +kernel
theorem dL_law_1052 : decode cL_law 1052 = .ok (.iadd, 1) := by decide +kernel
theorem dL_law_1053 : decode cL_law 1053 = .ok (.iaload, 1) := by decide +kernel
theorem dL_law_1054 : decode cL_law 1054 = .ok (.invokevirtual 131, 3) := by decide +kernel
theorem dL_law_1057 : decode cL_law 1057 = .ok (.aload_n 2, 1) := by decide +kernel
theorem dL_law_1058 : decode cL_law 1058 = .ok (.aload_n 0, 1) := by decide +kernel
theorem dL_law_1059 : decode cL_law 1059 = .ok (.iload_n 3, 1) := by decide +kernel
theorem dL_law_1060 : decode cL_law 1060 = .ok (.iconst 1, 1) := by decide +kernel
theorem dL_law_1061 : decode cL_law 1061 = .ok (.iadd, 1) := by decide +kernel
theorem dL_law_1062 : decode cL_law 1062 = .ok (.iaload, 1) := by decide +kernel
theorem dL_law_1063 : decode cL_law 1063 = .ok (.aload_n 0, 1) := by decide +kernel
theorem dL_law_1064 : decode cL_law 1064 = .ok (.iload_n 3, 1) := by decide +kernel
theorem dL_law_1065 : decode cL_law 1065 = .ok (.iconst 2, 1) := by decide +kernel
theorem dL_law_1066 : decode cL_law 1066 = .ok (.iadd, 1) := by decide +kernel
theorem dL_law_1067 : decode cL_law 1067 = .ok (.iaload, 1) := by decide +kernel
theorem dL_law_1068 : decode cL_law 1068 = .ok (.aload_n 0, 1) := by decide +kernel
theorem dL_law_1069 : decode cL_law 1069 = .ok (.iload_n 3, 1) := by decide +kernel
theorem dL_law_1070 : decode cL_law 1070 = .ok (.iconst 3, 1) := by decide +kernel
theorem dL_law_1071 : decode cL_law 1071 = .ok (.iadd, 1) := by decide +kernel
theorem dL_law_1072 : decode cL_law 1072 = .ok (.iaload, 1) := by decide +kernel
theorem dL_law_1073 : decode cL_law 1073 = .ok (.aload_n 0, 1) := by decide +kernel
theorem dL_law_1074 : decode cL_law 1074 = .ok (.iload_n 3, 1) := by decide +kernel
theorem dL_law_1075 : decode cL_law 1075 = .ok (.iconst 4, 1) := by decide +kernel
theorem dL_law_1076 : decode cL_law 1076 = .ok (.iadd, 1) := by decide +kernel
theorem dL_law_1077 : decode cL_law 1077 = .ok (.iaload, 1) := by decide +kernel
theorem dL_law_1078 : decode cL_law 1078 = .ok (.invokevirtual 134, 3) := by decide +kernel
theorem dL_law_1081 : decode cL_law 1081 = .ok (.if_icmp .eq 187, 3) := by decide +kernel
theorem dL_law_1084 : decode cL_law 1084 = .ok (.iconst 0, 1) := by decide +kernel
theorem dL_law_1085 : decode cL_law 1085 = .ok (.ireturn, 1) := by decide +kernel
theorem dL_law_1086 : decode cL_law 1086 = .ok (.aload_n 1, 1) := by decide +kernel
theorem dL_law_1087 : decode cL_law 1087 = .ok (.aload_n 0, 1) := by decide +kernel
theorem dL_law_1088 : decode cL_law 1088 = .ok (.iload_n 3, 1) := by decide +kernel
theorem dL_law_1089 : decode cL_law 1089 = .ok (.iconst 1, 1) := by decide +kernel
theorem dL_law_1090 : decode cL_law 1090 = .ok (.iadd, 1) := by decide +kernel
theorem dL_law_1091 : decode cL_law 1091 = .ok (.iaload, 1) := by decide +kernel
theorem dL_law_1092 : decode cL_law 1092 = .ok (.aload_n 0, 1) := by decide +kernel
theorem dL_law_1093 : decode cL_law 1093 = .ok (.iload_n 3, 1) := by decide +kernel
theorem dL_law_1094 : decode cL_law 1094 = .ok (.iconst 2, 1) := by decide +kernel
theorem dL_law_1095 : decode cL_law 1095 = .ok (.iadd, 1) := by decide +kernel
theorem dL_law_1096 : decode cL_law 1096 = .ok (.iaload, 1) := by decide +kernel
theorem dL_law_1097 : decode cL_law 1097 = .ok (.aload_n 0, 1) := by decide +kernel
theorem dL_law_1098 : decode cL_law 1098 = .ok (.iload_n 3, 1) := by decide +kernel
theorem dL_law_1099 : decode cL_law 1099 = .ok (.iconst 3, 1) := by decide +kernel
theorem dL_law_1100 : decode cL_law 1100 = .ok (.iadd, 1) := by decide +kernel
theorem dL_law_1101 : decode cL_law 1101 = .ok (.iaload, 1) := by decide +kernel
theorem dL_law_1102 : decode cL_law 1102 = .ok (.invokevirtual 135, 3) := by decide +kernel
theorem dL_law_1105 : decode cL_law 1105 = .ok (.aload_n 2, 1) := by decide +kernel
theorem dL_law_1106 : decode cL_law 1106 = .ok (.aload_n 0, 1) := by decide +kernel
theorem dL_law_1107 : decode cL_law 1107 = .ok (.iload_n 3, 1) := by decide +kernel
theorem dL_law_1108 : decode cL_law 1108 = .ok (.iconst 1, 1) := by decide +kernel
theorem dL_law_1109 : decode cL_law 1109 = .ok (.iadd, 1) := by decide +kernel
theorem dL_law_1110 : decode cL_law 1110 = .ok (.iaload, 1) := by decide +kernel
theorem dL_law_1111 : decode cL_law 1111 = .ok (.aload_n 0, 1) := by decide +kernel
theorem dL_law_1112 : decode cL_law 1112 = .ok (.iload_n 3, 1) := by decide +kernel
theorem dL_law_1113 : decode cL_law 1113 = .ok (.iconst 2, 1) := by decide +kernel
theorem dL_law_1114 : decode cL_law 1114 = .ok (.iadd, 1) := by decide +kernel
theorem dL_law_1115 : decode cL_law 1115 = .ok (.iaload, 1) := by decide +kernel
theorem dL_law_1116 : decode cL_law 1116 = .ok (.aload_n 0, 1) := by decide +kernel
theorem dL_law_1117 : decode cL_law 1117 = .ok (.iload_n 3, 1) := by decide +kernel
theorem dL_law_1118 : decode cL_law 1118 = .ok (.iconst 3, 1) := by decide +kernel
theorem dL_law_1119 : decode cL_law 1119 = .ok (.iadd, 1) := by decide +kernel
theorem dL_law_1120 : decode cL_law 1120 = .ok (.iaload, 1) := by decide +kernel
theorem dL_law_1121 : decode cL_law 1121 = .ok (.invokevirtual 138, 3) := by decide +kernel
theorem dL_law_1124 : decode cL_law 1124 = .ok (.if_icmp .eq 144, 3) := by decide +kernel
theorem dL_law_1127 : decode cL_law 1127 = .ok (.iconst 0, 1) := by decide +kernel
theorem dL_law_1128 : decode cL_law 1128 = .ok (.ireturn, 1) := by decide +kernel
theorem dL_law_1129 : decode cL_law 1129 = .ok (.aload_n 1, 1) := by decide +kernel
theorem dL_law_1130 : decode cL_law 1130 = .ok (.aload_n 0, 1) := by decide +kernel
theorem dL_law_1131 : decode cL_law 1131 = .ok (.iload_n 3, 1) := by decide +kernel
theorem dL_law_1132 : decode cL_law 1132 = .ok (.iconst 1, 1) := by decide +kernel
theorem dL_law_1133 : decode cL_law 1133 = .ok (.iadd, 1) := by decide +kernel
theorem dL_law_1134 : decode cL_law 1134 = .ok (.iaload, 1) := by decide +kernel
theorem dL_law_1135 : decode cL_law 1135 = .ok (.invokevirtual 139, 3) := by decide +kernel
theorem dL_law_1138 : decode cL_law 1138 = .ok (.aload_n 2, 1) := by decide +kernel
theorem dL_law_1139 : decode cL_law 1139 = .ok (.aload_n 0, 1) := by decide +kernel
theorem dL_law_1140 : decode cL_law 1140 = .ok (.iload_n 3, 1) := by decide +kernel
theorem dL_law_1141 : decode cL_law 1141 = .ok (.iconst 1, 1) := by decide +kernel
theorem dL_law_1142 : decode cL_law 1142 = .ok (.iadd, 1) := by decide +kernel
theorem dL_law_1143 : decode cL_law 1143 = .ok (.iaload, 1) := by decide +kernel
theorem dL_law_1144 : decode cL_law 1144 = .ok (.invokevirtual 142, 3) := by decide +kernel
theorem dL_law_1147 : decode cL_law 1147 = .ok (.if_icmp .eq 121, 3) := by decide +kernel
theorem dL_law_1150 : decode cL_law 1150 = .ok (.iconst 0, 1) := by decide +kernel
theorem dL_law_1151 : decode cL_law 1151 = .ok (.ireturn, 1) := by decide +kernel
theorem dL_law_1152 : decode cL_law 1152 = .ok (.aload_n 1, 1) := by decide +kernel
theorem dL_law_1153 : decode cL_law 1153 = .ok (.aload_n 0, 1) := by decide +kernel
theorem dL_law_1154 : decode cL_law 1154 = .ok (.iload_n 3, 1) := by decide +kernel
theorem dL_law_1155 : decode cL_law 1155 = .ok (.iconst 1, 1) := by decide +kernel
theorem dL_law_1156 : decode cL_law 1156 = .ok (.iadd, 1) := by decide +kernel
theorem dL_law_1157 : decode cL_law 1157 = .ok (.iaload, 1) := by decide +kernel
theorem dL_law_1158 : decode cL_law 1158 = .ok (.aload_n 0, 1) := by decide +kernel
theorem dL_law_1159 : decode cL_law 1159 = .ok (.iload_n 3, 1) := by decide +kernel
theorem dL_law_1160 : decode cL_law 1160 = .ok (.iconst 2, 1) := by decide +kernel
theorem dL_law_1161 : decode cL_law 1161 = .ok (.iadd, 1) := by decide +kernel
theorem dL_law_1162 : decode cL_law 1162 = .ok (.iaload, 1) := by decide +kernel
theorem dL_law_1163 : decode cL_law 1163 = .ok (.aload_n 0, 1) := by decide +kernel
theorem dL_law_1164 : decode cL_law 1164 = .ok (.iload_n 3, 1) := by decide +kernel
theorem dL_law_1165 : decode cL_law 1165 = .ok (.iconst 3, 1) := by decide +kernel
theorem dL_law_1166 : decode cL_law 1166 = .ok (.iadd, 1) := by decide +kernel
theorem dL_law_1167 : decode cL_law 1167 = .ok (.iaload, 1) := by decide +kernel
theorem dL_law_1168 : decode cL_law 1168 = .ok (.aload_n 0, 1) := by decide +kernel
theorem dL_law_1169 : decode cL_law 1169 = .ok (.iload_n 3, 1) := by decide +kernel
theorem dL_law_1170 : decode cL_law 1170 = .ok (.iconst 4, 1) := by decide +kernel
theorem dL_law_1171 : decode cL_law 1171 = .ok (.iadd, 1) := by decide +kernel
theorem dL_law_1172 : decode cL_law 1172 = .ok (.iaload, 1) := by decide +kernel
theorem dL_law_1173 : decode cL_law 1173 = .ok (.invokevirtual 143, 3) := by decide +kernel
theorem dL_law_1176 : decode cL_law 1176 = .ok (.aload_n 2, 1) := by decide +kernel
theorem dL_law_1177 : decode cL_law 1177 = .ok (.aload_n 0, 1) := by decide +kernel
theorem dL_law_1178 : decode cL_law 1178 = .ok (.iload_n 3, 1) := by decide +kernel
theorem dL_law_1179 : decode cL_law 1179 = .ok (.iconst 1, 1) := by decide +kernel
theorem dL_law_1180 : decode cL_law 1180 = .ok (.iadd, 1) := by decide +kernel
theorem dL_law_1181 : decode cL_law 1181 = .ok (.iaload, 1) := by decide +kernel
theorem dL_law_1182 : decode cL_law 1182 = .ok (.aload_n 0, 1) := by decide +kernel
theorem dL_law_1183 : decode cL_law 1183 = .ok (.iload_n 3, 1) := by decide +kernel
theorem dL_law_1184 : decode cL_law 1184 = .ok (.iconst 2, 1) := by decide +kernel
theorem dL_law_1185 : decode cL_law 1185 = .ok (.iadd, 1) := by decide +kernel
theorem dL_law_1186 : decode cL_law 1186 = .ok (.iaload, 1) := by decide +kernel
theorem dL_law_1187 : decode cL_law 1187 = .ok (.aload_n 0, 1) := by decide +kernel
theorem dL_law_1188 : decode cL_law 1188 = .ok (.iload_n 3, 1) := by decide +kernel
theorem dL_law_1189 : decode cL_law 1189 = .ok (.iconst 3, 1) := by decide +kernel
theorem dL_law_1190 : decode cL_law 1190 = .ok (.iadd, 1) := by decide +kernel
theorem dL_law_1191 : decode cL_law 1191 = .ok (.iaload, 1) := by decide +kernel
theorem dL_law_1192 : decode cL_law 1192 = .ok (.aload_n 0, 1) := by decide +kernel
theorem dL_law_1193 : decode cL_law 1193 = .ok (.iload_n 3, 1) := by decide +kernel
theorem dL_law_1194 : decode cL_law 1194 = .ok (.iconst 4, 1) := by decide +kernel
theorem dL_law_1195 : decode cL_law 1195 = .ok (.iadd, 1) := by decide +kernel
theorem dL_law_1196 : decode cL_law 1196 = .ok (.iaload, 1) := by decide +kernel
theorem dL_law_1197 : decode cL_law 1197 = .ok (.invokevirtual 146, 3) := by decide +kernel
theorem dL_law_1200 : decode cL_law 1200 = .ok (.if_icmp .eq 68, 3) := by decide +kernel
theorem dL_law_1203 : decode cL_law 1203 = .ok (.iconst 0, 1) := by decide +kernel
theorem dL_law_1204 : decode cL_law 1204 = .ok (.ireturn, 1) := by decide +kernel
theorem dL_law_1205 : decode cL_law 1205 = .ok (.aload_n 1, 1) := by decide +kernel
theorem dL_law_1206 : decode cL_law 1206 = .ok (.aload_n 0, 1) := by decide +kernel
theorem dL_law_1207 : decode cL_law 1207 = .ok (.iload_n 3, 1) := by decide +kernel
theorem dL_law_1208 : decode cL_law 1208 = .ok (.iconst 1, 1) := by decide +kernel
theorem dL_law_1209 : decode cL_law 1209 = .ok (.iadd, 1) := by decide +kernel
theorem dL_law_1210 : decode cL_law 1210 = .ok (.iaload, 1) := by decide +kernel
theorem dL_law_1211 : decode cL_law 1211 = .ok (.aload_n 0, 1) := by decide +kernel
theorem dL_law_1212 : decode cL_law 1212 = .ok (.iload_n 3, 1) := by decide +kernel
theorem dL_law_1213 : decode cL_law 1213 = .ok (.iconst 2, 1) := by decide +kernel
theorem dL_law_1214 : decode cL_law 1214 = .ok (.iadd, 1) := by decide +kernel
theorem dL_law_1215 : decode cL_law 1215 = .ok (.iaload, 1) := by decide +kernel
theorem dL_law_1216 : decode cL_law 1216 = .ok (.aload_n 0, 1) := by decide +kernel
theorem dL_law_1217 : decode cL_law 1217 = .ok (.iload_n 3, 1) := by decide +kernel
theorem dL_law_1218 : decode cL_law 1218 = .ok (.iconst 3, 1) := by decide +kernel
theorem dL_law_1219 : decode cL_law 1219 = .ok (.iadd, 1) := by decide +kernel
theorem dL_law_1220 : decode cL_law 1220 = .ok (.iaload, 1) := by decide +kernel
theorem dL_law_1221 : decode cL_law 1221 = .ok (.aload_n 0, 1) := by decide +kernel
theorem dL_law_1222 : decode cL_law 1222 = .ok (.iload_n 3, 1) := by decide +kernel
theorem dL_law_1223 : decode cL_law 1223 = .ok (.iconst 4, 1) := by decide +kernel
theorem dL_law_1224 : decode cL_law 1224 = .ok (.iadd, 1) := by decide +kernel
theorem dL_law_1225 : decode cL_law 1225 = .ok (.iaload, 1) := by decide +kernel
theorem dL_law_1226 : decode cL_law 1226 = .ok (.aload_n 0, 1) := by decide +kernel
theorem dL_law_1227 : decode cL_law 1227 = .ok (.iload_n 3, 1) := by decide +kernel
theorem dL_law_1228 : decode cL_law 1228 = .ok (.iconst 5, 1) := by decide +kernel
theorem dL_law_1229 : decode cL_law 1229 = .ok (.iadd, 1) := by decide +kernel
theorem dL_law_1230 : decode cL_law 1230 = .ok (.iaload, 1) := by decide +kernel
theorem dL_law_1231 : decode cL_law 1231 = .ok (.invokevirtual 147, 3) := by decide +kernel
theorem dL_law_1234 : decode cL_law 1234 = .ok (.aload_n 2, 1) := by decide +kernel
theorem dL_law_1235 : decode cL_law 1235 = .ok (.aload_n 0, 1) := by decide +kernel
theorem dL_law_1236 : decode cL_law 1236 = .ok (.iload_n 3, 1) := by decide +kernel
theorem dL_law_1237 : decode cL_law 1237 = .ok (.iconst 1, 1) := by decide +kernel
theorem dL_law_1238 : decode cL_law 1238 = .ok (.iadd, 1) := by decide +kernel
theorem dL_law_1239 : decode cL_law 1239 = .ok (.iaload, 1) := by decide +kernel
theorem dL_law_1240 : decode cL_law 1240 = .ok (.aload_n 0, 1) := by decide +kernel
theorem dL_law_1241 : decode cL_law 1241 = .ok (.iload_n 3, 1) := by decide +kernel
theorem dL_law_1242 : decode cL_law 1242 = .ok (.iconst 2, 1) := by decide +kernel
theorem dL_law_1243 : decode cL_law 1243 = .ok (.iadd, 1) := by decide +kernel
theorem dL_law_1244 : decode cL_law 1244 = .ok (.iaload, 1) := by decide +kernel
theorem dL_law_1245 : decode cL_law 1245 = .ok (.aload_n 0, 1) := by decide +kernel
theorem dL_law_1246 : decode cL_law 1246 = .ok (.iload_n 3, 1) := by decide +kernel
theorem dL_law_1247 : decode cL_law 1247 = .ok (.iconst 3, 1) := by decide +kernel
theorem dL_law_1248 : decode cL_law 1248 = .ok (.iadd, 1) := by decide +kernel
theorem dL_law_1249 : decode cL_law 1249 = .ok (.iaload, 1) := by decide +kernel
theorem dL_law_1250 : decode cL_law 1250 = .ok (.aload_n 0, 1) := by decide +kernel
theorem dL_law_1251 : decode cL_law 1251 = .ok (.iload_n 3, 1) := by decide +kernel
theorem dL_law_1252 : decode cL_law 1252 = .ok (.iconst 4, 1) := by decide +kernel
theorem dL_law_1253 : decode cL_law 1253 = .ok (.iadd, 1) := by decide +kernel
theorem dL_law_1254 : decode cL_law 1254 = .ok (.iaload, 1) := by decide +kernel
theorem dL_law_1255 : decode cL_law 1255 = .ok (.aload_n 0, 1) := by decide +kernel
theorem dL_law_1256 : decode cL_law 1256 = .ok (.iload_n 3, 1) := by decide +kernel
theorem dL_law_1257 : decode cL_law 1257 = .ok (.iconst 5, 1) := by decide +kernel
theorem dL_law_1258 : decode cL_law 1258 = .ok (.iadd, 1) := by decide +kernel
theorem dL_law_1259 : decode cL_law 1259 = .ok (.iaload, 1) := by decide +kernel
theorem dL_law_1260 : decode cL_law 1260 = .ok (.invokevirtual 150, 3) := by decide +kernel
theorem dL_law_1263 : decode cL_law 1263 = .ok (.if_icmp .eq 5, 3) := by decide +kernel
theorem dL_law_1266 : decode cL_law 1266 = .ok (.iconst 0, 1) := by decide +kernel
theorem dL_law_1267 : decode cL_law 1267 = .ok (.ireturn, 1) := by decide +kernel
theorem dL_law_1268 : decode cL_law 1268 = .ok (.iinc 3 6, 3) := by decide +kernel
theorem dL_law_1271 : decode cL_law 1271 = .ok (.goto (-1253), 3) := by decide +kernel
theorem dL_law_1274 : decode cL_law 1274 = .ok (.iconst 1, 1) := by decide +kernel
theorem dL_law_1275 : decode cL_law 1275 = .ok (.ireturn, 1) := by decide +kernel
end
section
/-! ===== the world: 113 cells by number; h says where each lies, mu what each holds ===== -/
abbrev AV : Type := Int32 ⊕ (Int64 ⊕ (Nat ⊕ Nat))
abbrev vI (x : Int32) : AV := Sum.inl x
abbrev vJ (x : Int64) : AV := Sum.inr (Sum.inl x)
abbrev vC (k : Nat) : AV := Sum.inr (Sum.inr (Sum.inl k))
abbrev vR (a : Nat) : AV := Sum.inr (Sum.inr (Sum.inr a))
def cv (h : Nat → Nat) : AV → Value
  | .inl x => .int x
  | .inr (.inl x) => .long x
  | .inr (.inr (.inl k)) => .ref (h k)
  | .inr (.inr (.inr a)) => .ref a
def cat2 : AV → Bool
  | .inr (.inl _) => true
  | _ => false
abbrev Mu : Type := Nat → Nat → Int32
def upM (mu : Mu) (k : Nat) (f : Nat → Int32) : Mu := fun j => if j = k then f else mu j
abbrev Sh : Type := (Nat × List (Option Nat)) ⊕ (Nat ⊕ (Nat × Nat))
def NC : Nat := 113
def shL : List Sh := [.inl (8, [some 1, some 27, none, some 53, some 55, some 59, some 70, some 86]),
  .inl (4, [some 2, some 3, some 9, some 17]),
  .inr (.inl 3),
  .inl (6, [some 4, none, none]),
  .inr (.inr (4, 5)),
  .inr (.inl 5),
  .inr (.inl 5),
  .inr (.inl 5),
  .inr (.inl 5),
  .inl (6, [some 10, none, none]),
  .inr (.inr (6, 11)),
  .inr (.inl 3),
  .inr (.inl 3),
  .inr (.inl 3),
  .inr (.inl 3),
  .inr (.inl 3),
  .inr (.inl 3),
  .inl (6, [some 18, none, none]),
  .inr (.inr (8, 19)),
  .inr (.inl 4),
  .inr (.inl 4),
  .inr (.inl 4),
  .inr (.inl 4),
  .inr (.inl 4),
  .inr (.inl 4),
  .inr (.inl 4),
  .inr (.inl 4),
  .inl (4, [some 28, some 29, some 35, some 43]),
  .inr (.inl 3),
  .inl (6, [some 30, none, none]),
  .inr (.inr (4, 31)),
  .inr (.inl 5),
  .inr (.inl 5),
  .inr (.inl 5),
  .inr (.inl 5),
  .inl (6, [some 36, none, none]),
  .inr (.inr (6, 37)),
  .inr (.inl 3),
  .inr (.inl 3),
  .inr (.inl 3),
  .inr (.inl 3),
  .inr (.inl 3),
  .inr (.inl 3),
  .inl (6, [some 44, none, none]),
  .inr (.inr (8, 45)),
  .inr (.inl 4),
  .inr (.inl 4),
  .inr (.inl 4),
  .inr (.inl 4),
  .inr (.inl 4),
  .inr (.inl 4),
  .inr (.inl 4),
  .inr (.inl 4),
  .inl (7, [some 1, some 54, none, none, none, none, none, none, none, none, none, none, none, none, none, none, none]),
  .inl (1, [some 9, none, none, none, none, none, none, none, none]),
  .inl (0, [some 56, some 57, some 58, none, none]),
  .inr (.inl 90),
  .inr (.inl 90),
  .inr (.inl 90),
  .inl (2, [some 60]),
  .inr (.inr (9, 61)),
  .inr (.inl 181),
  .inr (.inl 181),
  .inr (.inl 181),
  .inr (.inl 181),
  .inr (.inl 181),
  .inr (.inl 181),
  .inr (.inl 181),
  .inr (.inl 181),
  .inr (.inl 181),
  .inl (3, [some 71, none, none, none, some 72, some 78]),
  .inr (.inl 60),
  .inl (6, [some 73, none, none]),
  .inr (.inr (4, 74)),
  .inr (.inl 5),
  .inr (.inl 5),
  .inr (.inl 5),
  .inr (.inl 5),
  .inl (6, [some 79, none, none]),
  .inr (.inr (6, 80)),
  .inr (.inl 3),
  .inr (.inl 3),
  .inr (.inl 3),
  .inr (.inl 3),
  .inr (.inl 3),
  .inr (.inl 3),
  .inl (5, [some 87, some 88, some 89]),
  .inr (.inl 4),
  .inr (.inl 4),
  .inr (.inr (4, 90)),
  .inr (.inl 24),
  .inr (.inl 24),
  .inr (.inl 24),
  .inr (.inl 24),
  .inl (9, [some 95, none, some 96, none, some 97, none, some 98, some 99, none, none, none, some 100, some 101, some 102, some 103, none, none, none, none, none, none, none, none, none, none, none, none, none, none, none, none, some 104, some 105, some 106, some 107, some 108, none, some 109, some 110, some 111, some 112]),
  .inr (.inl 3),
  .inr (.inl 20),
  .inr (.inl 18),
  .inr (.inl 32),
  .inr (.inl 60),
  .inr (.inl 20),
  .inr (.inl 900),
  .inr (.inl 100),
  .inr (.inl 100),
  .inr (.inl 90),
  .inr (.inl 90),
  .inr (.inl 90),
  .inr (.inl 1629),
  .inr (.inl 80),
  .inr (.inl 4),
  .inr (.inl 4),
  .inr (.inl 96),
  .inr (.inl 24)]
def aty (k : Nat) : FieldType := if k = 57 then .boolean else if k ∈ ([4, 10, 18, 30, 36, 44, 60, 73, 79, 89] : List Nat) then .array .int else .int
def sh (k : Nat) : Sh := shL.getD k (.inr (.inl 0))
def mkF (h : Nat → Nat) (f : Nat → Int32) : Nat → List (Option Nat) → List Value
  | _, [] => []
  | i, some j :: r => .ref (h j) :: mkF h f (i + 1) r
  | i, none :: r => .int (f i) :: mkF h f (i + 1) r
def cellE (h : Nat → Nat) (cA : Nat → ClassId) (k : Nat) (f : Nat → Int32) : Sh → va_E
  | .inl (ci, fs) => .inr (ci, mkF h f 0 fs)
  | .inr (.inl n) => .inl (cA k, n, .inl f)
  | .inr (.inr (n, b)) => .inl (cA k, n, .inr (.inr (.inr (.inr (fun i => if i < n then some (h (b + i)) else none)))))
def wd (h : Nat → Nat) (cA : Nat → ClassId) (mu : Mu) : va_W := (List.range NC).map (fun k => (h k, cellE h cA k (mu k) (sh k)))
def tyz (cA : Nat → ClassId) : List (ClassId × FieldType) := (List.range NC).map (fun k => (cA k, aty k))
theorem wd_at {h : Nat → Nat} {cA : Nat → ClassId} {mu : Mu} {k : Nat} (hk : k < NC) : (wd h cA mu)[k]? = some (h k, cellE h cA k (mu k) (sh k)) := by
  unfold wd
  rw [List.getElem?_map, List.getElem?_range hk]
  rfl
theorem wd_len {h : Nat → Nat} {cA : Nat → ClassId} {mu : Mu} : (wd h cA mu).length = NC := by
  unfold wd
  rw [List.length_map, List.length_range]
theorem wd_no {h : Nat → Nat} {cA : Nat → ClassId} {mu : Mu} {k : Nat} (hk : ¬ k < NC) : (wd h cA mu)[k]? = none := List.getElem?_eq_none (by rw [wd_len]; omega)
theorem wd_set {h : Nat → Nat} {cA : Nat → ClassId} {mu : Mu} {k : Nat} (hk : k < NC) (f : Nat → Int32) : (wd h cA mu).set k (h k, cellE h cA k f (sh k)) = wd h cA (upM mu k f) := by
  apply List.ext_getElem?
  intro j
  by_cases e : j = k
  · subst e
    rw [List.getElem?_set_self (by rw [wd_len]; exact hk), wd_at hk]
    simp [upM]
  · rw [List.getElem?_set_ne (Ne.symm e)]
    by_cases hj : j < NC
    · rw [wd_at hj, wd_at hj]
      simp [upM, e]
    · rw [wd_no hj, wd_no hj]
theorem tyz_at {cA : Nat → ClassId} {k : Nat} (hk : k < NC) : (tyz cA)[k]? = some (cA k, aty k) := by
  unfold tyz
  rw [List.getElem?_map, List.getElem?_range hk]
  rfl
theorem mkF_int {h : Nat → Nat} {f : Nat → Int32} : ∀ (fs : List (Option Nat)) (i j : Nat), fs[j]? = some none → (mkF h f i fs)[j]? = some (.int (f (i + j)))
  | [], _, _, e => by simp at e
  | none :: r, i, 0, _ => rfl
  | none :: r, i, j + 1, e => by
    have := mkF_int (h := h) (f := f) r (i + 1) j e
    rw [show i + (j + 1) = i + 1 + j by omega]
    exact this
  | some q :: r, i, 0, e => by simp at e
  | some q :: r, i, j + 1, e => by
    have := mkF_int (h := h) (f := f) r (i + 1) j e
    rw [show i + (j + 1) = i + 1 + j by omega]
    exact this
theorem mkF_ref {h : Nat → Nat} {f : Nat → Int32} {q : Nat} : ∀ (fs : List (Option Nat)) (i j : Nat), fs[j]? = some (some q) → (mkF h f i fs)[j]? = some (.ref (h q))
  | [], _, _, e => by simp at e
  | none :: r, i, 0, e => by simp at e
  | none :: r, i, j + 1, e => mkF_ref (h := h) (f := f) r (i + 1) j e
  | some q :: r, i, 0, e => by
    have e2 : q = _ := Option.some.inj (Option.some.inj e)
    subst e2
    rfl
  | some q :: r, i, j + 1, e => mkF_ref (h := h) (f := f) r (i + 1) j e
theorem mkF_len {h : Nat → Nat} {f : Nat → Int32} : ∀ (fs : List (Option Nat)) (i : Nat), (mkF h f i fs).length = fs.length
  | [], _ => rfl
  | none :: r, i => congrArg (· + 1) (mkF_len r (i + 1))
  | some q :: r, i => congrArg (· + 1) (mkF_len r (i + 1))
theorem mkF_cong {h : Nat → Nat} {f g : Nat → Int32} : ∀ (fs : List (Option Nat)) (i : Nat), (∀ j, i ≤ j → f j = g j) → mkF h f i fs = mkF h g i fs
  | [], _, _ => rfl
  | none :: r, i, e => by
    show Value.int (f i) :: mkF h f (i + 1) r = Value.int (g i) :: mkF h g (i + 1) r
    rw [e i (Nat.le_refl i), mkF_cong r (i + 1) (fun j hj => e j (by omega))]
  | some q :: r, i, e => by
    show Value.ref (h q) :: mkF h f (i + 1) r = Value.ref (h q) :: mkF h g (i + 1) r
    rw [mkF_cong r (i + 1) (fun j hj => e j (by omega))]
theorem mkF_set {h : Nat → Nat} {f : Nat → Int32} {v : Int32} : ∀ (fs : List (Option Nat)) (i j : Nat), fs[j]? = some none → (mkF h f i fs).set j (.int v) = mkF h (upd f (i + j) v) i fs
  | [], _, _, e => by simp at e
  | none :: r, i, 0, _ => by
    show Value.int v :: mkF h f (i + 1) r = Value.int (upd f i v i) :: mkF h (upd f i v) (i + 1) r
    rw [show upd f i v i = v from if_pos rfl, mkF_cong (g := upd f i v) r (i + 1) (fun j hj => (if_neg (by omega)).symm)]
  | none :: r, i, j + 1, e => by
    show Value.int (f i) :: (mkF h f (i + 1) r).set j (.int v) = Value.int (upd f (i + (j + 1)) v i) :: mkF h (upd f (i + (j + 1)) v) (i + 1) r
    rw [mkF_set r (i + 1) j e, show i + 1 + j = i + (j + 1) by omega, show upd f (i + (j + 1)) v i = f i from if_neg (by omega)]
  | some q :: r, i, 0, e => by simp at e
  | some q :: r, i, j + 1, e => by
    show Value.ref (h q) :: (mkF h f (i + 1) r).set j (.int v) = Value.ref (h q) :: mkF h (upd f (i + (j + 1)) v) (i + 1) r
    rw [mkF_set r (i + 1) j e, show i + 1 + j = i + (j + 1) by omega]
/-! ===== locals by slot ===== -/
def getL (i : Nat) : List (Nat × AV) → Option AV
  | [] => none
  | (j, v) :: r => if j = i then some v else getL i r
def stL (i : Nat) (v : AV) : List (Nat × AV) → List (Nat × AV)
  | [] => [(i, v)]
  | (j, w) :: r => if j = i then (i, v) :: r.filter (fun q => !(q.1 == i)) else if i < j then (i, v) :: (j, w) :: r.filter (fun q => !(q.1 == i)) else (j, w) :: stL i v r
def cleanL (i : Nat) (L : List (Nat × AV)) : Bool := L.all (fun q => !(q.1 + 1 == i && cat2 q.2))
def mpL (h : Nat → Nat) (L : List (Nat × AV)) : List (Nat × Value) := L.map (fun q => (q.1, cv h q.2))
theorem getL_mem {i : Nat} {v : AV} : ∀ {L : List (Nat × AV)}, getL i L = some v → (i, v) ∈ L
  | [], e => by simp [getL] at e
  | (j, w) :: r, e => by
    unfold getL at e
    by_cases hj : j = i
    · rw [if_pos hj] at e
      cases e
      rw [hj]
      exact List.mem_cons_self
    · rw [if_neg hj] at e
      exact List.mem_cons_of_mem _ (getL_mem e)
theorem lv_get {ls : Array Slot} {nL : Nat} {h : Nat → Nat} {L : List (Nat × AV)} {i : Nat} {v : AV} (hl : lv_has ls nL (mpL h L)) (e : getL i L = some v) : ls[i]? = some (.val (cv h v)) :=
  hl.2.2 (i, cv h v) (List.mem_map.mpr ⟨(i, v), getL_mem e, rfl⟩)
theorem stL_mem {i : Nat} {v : AV} {q : Nat × AV} : ∀ {L : List (Nat × AV)}, q ∈ stL i v L → q = (i, v) ∨ (q ∈ L ∧ (q.1 ≠ i))
  | [], e => by
    simp [stL] at e
    exact Or.inl e
  | (j, w) :: r, e => by
    unfold stL at e
    by_cases hj : j = i
    · rw [if_pos hj] at e
      rcases List.mem_cons.mp e with e | e
      · exact Or.inl e
      · have := List.mem_filter.mp e
        exact Or.inr ⟨List.mem_cons_of_mem _ this.1, by simpa using this.2⟩
    · rw [if_neg hj] at e
      by_cases hi : i < j
      · rw [if_pos hi] at e
        rcases List.mem_cons.mp e with e | e
        · exact Or.inl e
        · rcases List.mem_cons.mp e with e | e
          · exact Or.inr ⟨by rw [e]; exact List.mem_cons_self, by rw [e]; exact hj⟩
          · have := List.mem_filter.mp e
            exact Or.inr ⟨List.mem_cons_of_mem _ this.1, by simpa using this.2⟩
      · rw [if_neg hi] at e
        rcases List.mem_cons.mp e with e | e
        · exact Or.inr ⟨by rw [e]; exact List.mem_cons_self, by rw [e]; exact hj⟩
        · rcases stL_mem e with e | e
          · exact Or.inl e
          · exact Or.inr ⟨List.mem_cons_of_mem _ e.1, e.2⟩
theorem cat_cv {h : Nat → Nat} {v : AV} : ((cv h v).category == 2) = cat2 v := by
  rcases v with x | x | k | a <;> rfl
theorem lv_stL {ls : Array Slot} {nL : Nat} {h : Nat → Nat} {L : List (Nat × AV)} {i : Nat} {v : AV} (hc : cleanL i L = true) (hl : lv_has ls nL ((i, cv h v) :: (mpL h L).filter (fun q => !(q.1 == i) && !(q.1 + 1 == i && q.2.category == 2)))) : lv_has ls nL (mpL h (stL i v L)) := by
  refine ⟨hl.1, hl.2.1, fun q hq => ?_⟩
  obtain ⟨q0, hq0, rfl⟩ := List.mem_map.mp hq
  rcases stL_mem hq0 with e | ⟨e1, e2⟩
  · rw [e]
    exact hl.2.2 _ List.mem_cons_self
  · refine hl.2.2 _ (List.mem_cons_of_mem _ (List.mem_filter.mpr ⟨List.mem_map.mpr ⟨q0, e1, rfl⟩, ?_⟩))
    have := List.all_eq_true.mp hc q0 e1
    simp only [cat_cv, this, Bool.and_true]
    simpa using e2
/-! ===== the words ===== -/
def tb0 : List Cond := lw_tbl.filter goodWord
def isNest : Cond → Bool
  | .fieldLinkNest .. => true
  | .methodLinkNest .. => true
  | _ => false
def nw0 : List Cond := lw_tbl.filter isNest
theorem mem0 {w : Cond} {i : Nat} (h : lw_tbl[i]? = some w) (hg : goodWord w = true) : w ∈ tb0 := List.mem_filter.mpr ⟨List.mem_of_getElem? h, hg⟩
theorem memN {w : Cond} {i : Nat} (h : lw_tbl[i]? = some w) (hg : isNest w = true) : w ∈ nw0 := List.mem_filter.mpr ⟨List.mem_of_getElem? h, hg⟩
theorem good0 {w : Cond} (h : w ∈ tb0) : w ∈ tb0 ∧ ((w.onTables && w.keeps) = true ∨ ∃ ty, w = .arrayClass ty) := ⟨h, good_of_word (List.mem_filter.mp h).2⟩
theorem nest_on {w : Cond} (h : isNest w = true) : w.onTables = true := by
  cases w <;> first | rfl | (simp [isNest] at h)
theorem nw_warm {s U : State} (hW : s.WarmedH U.vm) (h : ∀ w ∈ nw0, va_Nw w s) : ∀ w ∈ nw0, va_Nw w U := by
  intro w hw
  have h1 := h w hw
  have h2 : isNest w = true := (List.mem_filter.mp hw).2
  cases w with
  | fieldLinkNest a i b n d x => exact va_Nw.warmF hW h1
  | methodLinkNest a i y x => exact va_Nw.warmM hW h1
  | _ => simp [isNest] at h2
def rm (d : Nat) : Room := { frames := d, cells := 0, slots := 0, locals := 40 * d }
end
section
/-! ===== the judgement WA: the machine at a frame of a method, over the world mu ===== -/
abbrev CX : Type := Program × Launch × Env × Room × State × MethodId × Array Value × List Frame × Method × Code × (State → Prop) × Nat × Nat
abbrev xp (X : CX) : Program := X.1
abbrev xl (X : CX) : Launch := X.2.1
abbrev xe (X : CX) : Env := X.2.2.1
abbrev xR (X : CX) : Room := X.2.2.2.1
abbrev xs (X : CX) : State := X.2.2.2.2.1
abbrev xm (X : CX) : MethodId := X.2.2.2.2.2.1
abbrev xa (X : CX) : Array Value := X.2.2.2.2.2.2.1
abbrev xb (X : CX) : List Frame := X.2.2.2.2.2.2.2.1
abbrev xh (X : CX) : Method := X.2.2.2.2.2.2.2.2.1
abbrev xc (X : CX) : Code := X.2.2.2.2.2.2.2.2.2.1
abbrev xQ (X : CX) : State → Prop := X.2.2.2.2.2.2.2.2.2.2.1
abbrev xk (X : CX) : Nat := X.2.2.2.2.2.2.2.2.2.2.2.1
abbrev xn (X : CX) : Nat := X.2.2.2.2.2.2.2.2.2.2.2.2
abbrev GX : Type := va_G × (Nat → Nat) × (Nat → ClassId) × (Nat → Prop) × Nat × Nat
abbrev gD (g : GX) : va_G := g.1
abbrev gh (g : GX) : Nat → Nat := g.2.1
abbrev gc (g : GX) : Nat → ClassId := g.2.2.1
abbrev gA (g : GX) : Nat → Prop := g.2.2.2.1
abbrev gt0 (g : GX) : Nat := g.2.2.2.2.1
abbrev gt1 (g : GX) : Nat := g.2.2.2.2.2
def leastS (j : Nat) : Int32 := if j = 0 then 10 else if j = 1 then 1 else 0
def mostS (j : Nat) : Int32 := if j = 0 then 60 else if j = 1 then 4 else 20
/-- the two static rows that set and cord read -/
def SF (t0 t1 : Nat) (A : Nat → Prop) (U : State) (H : Heap) : Prop :=
  va_Z "BallInCup" "LEAST_SETTINGS" "[I" (.ref t0) A U H ∧ va_T .int t0 3 (fun j => .int (leastS j)) A U H ∧ va_Z "BallInCup" "MOST_SETTINGS" "[I" (.ref t1) A U H ∧ va_T .int t1 3 (fun j => .int (mostS j)) A U H
theorem SF.go {t0 t1 : Nat} {A B : Nat → Prop} {u U : State} {H H1 : Heap} (h : SF t0 t1 A u H) (hvm : u.vm.Alike U.vm) (hq : ∀ a : Nat, a < H.size → ¬ A a → H1[a]? = H[a]?) (hAB : ∀ q, B q → A q) : SF t0 t1 B U H1 :=
  ⟨((h.1.kept hq).narrow hAB).moved hvm, ((h.2.1.kept hq).narrow hAB).moved hvm, ((h.2.2.1.kept hq).narrow hAB).moved hvm, ((h.2.2.2.kept hq).narrow hAB).moved hvm⟩
def inj (h : Nat → Nat) : Prop := ∀ i j : Nat, i < NC → j < NC → h i = h j → i = j
def Fx (X : CX) (g : GX) (own : String) (nL : Nat) (cc : ByteArray) : Prop :=
  (xp X).tables.exec = Jvm.exec ∧ (xc X).code = cc ∧ (xc X).maxLocals = nL ∧ (xs X).vm.findClass own = some (xm X).cls ∧ (∀ w ∈ tb0, w.before (xa X) (xs X) = true) ∧ (∀ w ∈ nw0, va_Nw w (xs X)) ∧ va_K (gD g) vwCl (tyz (gc g)) (xs X) ∧ (inj (gh g) ∧ ∀ k, k < NC → gA g (gh g k)) ∧ (∀ q, (xs X).heap.size ≤ q → gA g q) ∧ SF (gt0 g) (gt1 g) (gA g) (xs X) (xs X).heap
def WA (X : CX) (g : GX) (own : String) (nL : Nat) (cc : ByteArray) (pc : Nat) (L : List (Nat × AV)) (st : List AV) (mu : Mu) : Prop :=
  Fx X g own nL cc → ∀ (H : Heap) (locs : List Loc) (ls : Array Slot), va_P (gD g) vwCl (wd (gh g) (gc g) mu) H → va_S (gA g) (xs X).heap H locs → lv_has ls nL (mpL (gh g) L) →
    W (xp X) (xl X) (xe X) (xR X) (xs X) (xm X) (xa X) (xb X) (xh X) (xc X) H locs (xk X) (xn X) (xQ X) (F0 (xm X) pc ls (st.map (cv (gh g))))
theorem wd_D {h : Nat → Nat} {cA : Nat → ClassId} {A : Nat → Prop} (hi : inj h ∧ ∀ k, k < NC → A (h k)) (mu : Mu) : va_D A (wd h cA mu) := by
  have key : ∀ (k : Nat) (q : Nat × va_E), (wd h cA mu)[k]? = some q → k < NC ∧ q.1 = h k := fun k q hq => by
    have hk : k < NC := by
      rcases Nat.lt_or_ge k NC with z | z
      · exact z
      · rw [wd_no (by omega)] at hq
        cases hq
    rw [wd_at hk] at hq
    cases hq
    exact ⟨hk, rfl⟩
  refine ⟨fun i j p q hp hq e => ?_, fun k q hq => ?_⟩
  · obtain ⟨a1, a2⟩ := key i p hp
    obtain ⟨b1, b2⟩ := key j q hq
    exact hi.1 i j a1 b1 (by rw [← a2, ← b2]; exact e)
  · obtain ⟨a1, a2⟩ := key k q hq
    rw [a2]
    exact hi.2 k a1
section ROWS
variable {X : CX} {g : GX} {own : String} {nL : Nat} {cc : ByteArray} {pc pc' : Nat} {L L' : List (Nat × AV)} {st : List AV} {mu : Mu}
theorem WA_st {st' : List AV} (h : st = st') (k : WA X g own nL cc pc L st' mu) : WA X g own nL cc pc L st mu := h ▸ k
theorem WA_loc (h : L = L') (k : WA X g own nL cc pc L' st mu) : WA X g own nL cc pc L st mu := h ▸ k
theorem WA_mu {mu' : Mu} (h : mu = mu') (k : WA X g own nL cc pc L st mu') : WA X g own nL cc pc L st mu := h ▸ k
theorem o_topi {x : Int32} (k : ∀ y : Int32, y = x → WA X g own nL cc pc L (vI y :: st) mu) : WA X g own nL cc pc L (vI x :: st) mu := k x rfl
theorem o_topj {x : Int64} (k : ∀ y : Int64, y = x → WA X g own nL cc pc L (vJ y :: st) mu) : WA X g own nL cc pc L (vJ x :: st) mu := k x rfl
theorem o_iadd {a b : Int32} (hd : decode cc pc = .ok (.iadd, 1)) (hn : pc + 1 = pc') (k : WA X g own nL cc pc' L (vI (a + b) :: st) mu) : WA X g own nL cc pc L (vI b :: vI a :: st) mu := by
  subst hn
  intro F H locs ls hP hS hl
  exact lv_iadd F.1 F.2.1 hd  (k F H locs ls hP hS hl)
theorem o_isub {a b : Int32} (hd : decode cc pc = .ok (.isub, 1)) (hn : pc + 1 = pc') (k : WA X g own nL cc pc' L (vI (a - b) :: st) mu) : WA X g own nL cc pc L (vI b :: vI a :: st) mu := by
  subst hn
  intro F H locs ls hP hS hl
  exact lv_isub F.1 F.2.1 hd  (k F H locs ls hP hS hl)
theorem o_imul {a b : Int32} (hd : decode cc pc = .ok (.imul, 1)) (hn : pc + 1 = pc') (k : WA X g own nL cc pc' L (vI (a * b) :: st) mu) : WA X g own nL cc pc L (vI b :: vI a :: st) mu := by
  subst hn
  intro F H locs ls hP hS hl
  exact lv_imul F.1 F.2.1 hd  (k F H locs ls hP hS hl)
theorem o_iand {a b : Int32} (hd : decode cc pc = .ok (.iand, 1)) (hn : pc + 1 = pc') (k : WA X g own nL cc pc' L (vI (a &&& b) :: st) mu) : WA X g own nL cc pc L (vI b :: vI a :: st) mu := by
  subst hn
  intro F H locs ls hP hS hl
  exact lv_iand F.1 F.2.1 hd  (k F H locs ls hP hS hl)
theorem o_ixor {a b : Int32} (hd : decode cc pc = .ok (.ixor, 1)) (hn : pc + 1 = pc') (k : WA X g own nL cc pc' L (vI (a ^^^ b) :: st) mu) : WA X g own nL cc pc L (vI b :: vI a :: st) mu := by
  subst hn
  intro F H locs ls hP hS hl
  exact lv_ixor F.1 F.2.1 hd  (k F H locs ls hP hS hl)
theorem o_ineg {a : Int32} (hd : decode cc pc = .ok (.ineg, 1)) (hn : pc + 1 = pc') (k : WA X g own nL cc pc' L (vI (-a) :: st) mu) : WA X g own nL cc pc L (vI a :: st) mu := by
  subst hn
  intro F H locs ls hP hS hl
  exact lv_ineg F.1 F.2.1 hd  (k F H locs ls hP hS hl)
theorem o_idiv {a b : Int32} (hd : decode cc pc = .ok (.idiv, 1)) (hn : pc + 1 = pc') (hz : ¬ b = 0) (k : WA X g own nL cc pc' L (vI (a / b) :: st) mu) : WA X g own nL cc pc L (vI b :: vI a :: st) mu := by
  subst hn
  intro F H locs ls hP hS hl
  exact lv_idiv F.1 F.2.1 hd hz (k F H locs ls hP hS hl)
theorem o_irem {a b : Int32} (hd : decode cc pc = .ok (.irem, 1)) (hn : pc + 1 = pc') (hz : ¬ b = 0) (k : WA X g own nL cc pc' L (vI (a - a / b * b) :: st) mu) : WA X g own nL cc pc L (vI b :: vI a :: st) mu := by
  subst hn
  intro F H locs ls hP hS hl
  exact lv_irem F.1 F.2.1 hd hz (k F H locs ls hP hS hl)
theorem o_land {a b : Int64} (hd : decode cc pc = .ok (.land, 1)) (hn : pc + 1 = pc') (k : WA X g own nL cc pc' L (vJ (a &&& b) :: st) mu) : WA X g own nL cc pc L (vJ b :: vJ a :: st) mu := by
  subst hn
  intro F H locs ls hP hS hl
  exact lv_land F.1 F.2.1 hd  (k F H locs ls hP hS hl)
theorem o_lor {a b : Int64} (hd : decode cc pc = .ok (.lor, 1)) (hn : pc + 1 = pc') (k : WA X g own nL cc pc' L (vJ (a ||| b) :: st) mu) : WA X g own nL cc pc L (vJ b :: vJ a :: st) mu := by
  subst hn
  intro F H locs ls hP hS hl
  exact lv_lor F.1 F.2.1 hd  (k F H locs ls hP hS hl)
theorem o_ladd {a b : Int64} (hd : decode cc pc = .ok (.ladd, 1)) (hn : pc + 1 = pc') (k : WA X g own nL cc pc' L (vJ (a + b) :: st) mu) : WA X g own nL cc pc L (vJ b :: vJ a :: st) mu := by
  subst hn
  intro F H locs ls hP hS hl
  exact lv_ladd F.1 F.2.1 hd  (k F H locs ls hP hS hl)
theorem o_lshl {a : Int64} {b : Int32} (hd : decode cc pc = .ok (.lshl, 1)) (hn : pc + 1 = pc') (k : WA X g own nL cc pc' L (vJ (a <<< (b.toInt64 &&& 63)) :: st) mu) : WA X g own nL cc pc L (vI b :: vJ a :: st) mu := by
  subst hn
  intro F H locs ls hP hS hl
  exact lv_lshl F.1 F.2.1 hd rfl (k F H locs ls hP hS hl)
theorem o_lshr {a : Int64} {b : Int32} (hd : decode cc pc = .ok (.lshr, 1)) (hn : pc + 1 = pc') (k : WA X g own nL cc pc' L (vJ (a >>> (b.toInt64 &&& 63)) :: st) mu) : WA X g own nL cc pc L (vI b :: vJ a :: st) mu := by
  subst hn
  intro F H locs ls hP hS hl
  exact lv_lshr F.1 F.2.1 hd rfl (k F H locs ls hP hS hl)
theorem o_lushr {a : Int64} {b : Int32} (hd : decode cc pc = .ok (.lushr, 1)) (hn : pc + 1 = pc') (k : WA X g own nL cc pc' L (vJ (a.toUInt64 >>> (b.toInt64.toUInt64 &&& Int64.toUInt64 63)).toInt64 :: st) mu) : WA X g own nL cc pc L (vI b :: vJ a :: st) mu := by
  subst hn
  intro F H locs ls hP hS hl
  exact lv_lushr F.1 F.2.1 hd rfl (k F H locs ls hP hS hl)
theorem o_i2l {a : Int32} (hd : decode cc pc = .ok (.i2l, 1)) (hn : pc + 1 = pc') (k : WA X g own nL cc pc' L (vJ a.toInt64 :: st) mu) : WA X g own nL cc pc L (vI a :: st) mu := by
  subst hn
  intro F H locs ls hP hS hl
  exact lv_i2l F.1 F.2.1 hd rfl (k F H locs ls hP hS hl)
theorem o_l2i {a : Int64} (hd : decode cc pc = .ok (.l2i, 1)) (hn : pc + 1 = pc') (k : WA X g own nL cc pc' L (vI a.toInt32 :: st) mu) : WA X g own nL cc pc L (vJ a :: st) mu := by
  subst hn
  intro F H locs ls hP hS hl
  exact lv_l2i F.1 F.2.1 hd rfl (k F H locs ls hP hS hl)
theorem o_i2b {a : Int32} (hd : decode cc pc = .ok (.i2b, 1)) (hn : pc + 1 = pc') (k : WA X g own nL cc pc' L (vI a.toInt8.toInt32 :: st) mu) : WA X g own nL cc pc L (vI a :: st) mu := by
  subst hn
  intro F H locs ls hP hS hl
  exact lv_i2b F.1 F.2.1 hd rfl (k F H locs ls hP hS hl)
theorem o_i2s {a : Int32} (hd : decode cc pc = .ok (.i2s, 1)) (hn : pc + 1 = pc') (k : WA X g own nL cc pc' L (vI a.toInt16.toInt32 :: st) mu) : WA X g own nL cc pc L (vI a :: st) mu := by
  subst hn
  intro F H locs ls hP hS hl
  exact lv_i2s F.1 F.2.1 hd rfl (k F H locs ls hP hS hl)
theorem o_lcmp {a b : Int64} (hd : decode cc pc = .ok (.lcmp, 1)) (hn : pc + 1 = pc') (k : WA X g own nL cc pc' L (vI (lg_cmp a b) :: st) mu) : WA X g own nL cc pc L (vJ b :: vJ a :: st) mu := by
  subst hn
  intro F H locs ls hP hS hl
  exact W.lcmp F.1 F.2.1 hd  (k F H locs ls hP hS hl)
theorem o_iconst {n : Int} {v : Int32} (hd : decode cc pc = .ok (.iconst n, 1)) (hn : pc + 1 = pc') (hv : Int32.ofInt n = v) (k : WA X g own nL cc pc' L (vI v :: st) mu) : WA X g own nL cc pc L (st) mu := by
  subst hn
  intro F H locs ls hP hS hl
  exact lv_iconst F.1 F.2.1 hd hv (k F H locs ls hP hS hl)
theorem o_bipush {n : Int} {v : Int32} (hd : decode cc pc = .ok (.bipush n, 2)) (hn : pc + 2 = pc') (hv : (Int8.ofInt n).toInt32 = v) (k : WA X g own nL cc pc' L (vI v :: st) mu) : WA X g own nL cc pc L (st) mu := by
  subst hn
  intro F H locs ls hP hS hl
  exact lv_bipush F.1 F.2.1 hd hv (k F H locs ls hP hS hl)
theorem o_sipush {n : Int} {v : Int32} (hd : decode cc pc = .ok (.sipush n, 3)) (hn : pc + 3 = pc') (hv : (Int16.ofInt n).toInt32 = v) (k : WA X g own nL cc pc' L (vI v :: st) mu) : WA X g own nL cc pc L (st) mu := by
  subst hn
  intro F H locs ls hP hS hl
  exact lv_sipush F.1 F.2.1 hd hv (k F H locs ls hP hS hl)
theorem o_lconst {n : Fin 2} {v : Int64} (hd : decode cc pc = .ok (.lconst n, 1)) (hn : pc + 1 = pc') (hv : Int64.ofNat (n : Nat) = v) (k : WA X g own nL cc pc' L (vJ v :: st) mu) : WA X g own nL cc pc L (st) mu := by
  subst hn
  intro F H locs ls hP hS hl
  exact lv_lconst F.1 F.2.1 hd hv (k F H locs ls hP hS hl)
theorem o_ldc {ix : Nat} {v : Int32} (hd : decode cc pc = .ok (.ldc ix, 2)) (hn : pc + 2 = pc') (hc : Cond.constant own ix v ∈ tb0) (k : WA X g own nL cc pc' L (vI v :: st) mu) : WA X g own nL cc pc L st mu := by
  subst hn
  intro F H locs ls hP hS hl
  exact lv_ldc F.1 F.2.1 F.2.2.2.1 (F.2.2.2.2.1 _ hc) hd (k F H locs ls hP hS hl)
theorem o_ldcw {ix : Nat} {v : Int32} (hd : decode cc pc = .ok (.ldc_w ix, 3)) (hn : pc + 3 = pc') (hc : Cond.constant own ix v ∈ tb0) (k : WA X g own nL cc pc' L (vI v :: st) mu) : WA X g own nL cc pc L st mu := by
  subst hn
  intro F H locs ls hP hS hl
  exact lv_ldcw F.1 F.2.1 F.2.2.2.1 (F.2.2.2.2.1 _ hc) hd (k F H locs ls hP hS hl)
theorem o_ldc2 {ix : Nat} {v : Int64} (hd : decode cc pc = .ok (.ldc2_w ix, 3)) (hn : pc + 3 = pc') (hc : Cond.constantLong own ix v ∈ tb0) (k : WA X g own nL cc pc' L (vJ v :: st) mu) : WA X g own nL cc pc L st mu := by
  subst hn
  intro F H locs ls hP hS hl
  exact lv_ldc2 F.1 F.2.1 F.2.2.2.1 (F.2.2.2.2.1 _ hc) hd (k F H locs ls hP hS hl)
theorem cat1 {h : Nat → Nat} {v : AV} (hc : cat2 v = false) : (cv h v).category = 1 := by
  rcases v with x | x | k | a
  · rfl
  · cases hc
  · rfl
  · rfl
theorem o_pop {v : AV} (hd : decode cc pc = .ok (.pop, 1)) (hn : pc + 1 = pc') (hc : cat2 v = false) (k : WA X g own nL cc pc' L (st) mu) : WA X g own nL cc pc L (v :: st) mu := by
  subst hn
  intro F H locs ls hP hS hl
  exact lv_pop F.1 F.2.1 hd (cat1 hc) (k F H locs ls hP hS hl)
theorem o_dup {v : AV} (hd : decode cc pc = .ok (.dup, 1)) (hn : pc + 1 = pc') (hc : cat2 v = false) (k : WA X g own nL cc pc' L (v :: v :: st) mu) : WA X g own nL cc pc L (v :: st) mu := by
  subst hn
  intro F H locs ls hP hS hl
  exact lv_dup F.1 F.2.1 hd (cat1 hc) (k F H locs ls hP hS hl)
theorem o_dup2 {v w : AV} (hd : decode cc pc = .ok (.dup2, 1)) (hn : pc + 1 = pc') (hc : cat2 v = false) (hc2 : cat2 w = false) (k : WA X g own nL cc pc' L (v :: w :: v :: w :: st) mu) : WA X g own nL cc pc L (v :: w :: st) mu := by
  subst hn
  intro F H locs ls hP hS hl
  exact lv_dup2_11 F.1 F.2.1 hd (cat1 hc) (cat1 hc2) (k F H locs ls hP hS hl)
theorem o_iload {i : Nat} {x : Int32} (hd : decode cc pc = .ok (.iload i, 2)) (hn : pc + 2 = pc') (hg : getL i L = some (vI x)) (k : WA X g own nL cc pc' L (vI x :: st) mu) : WA X g own nL cc pc L st mu := by
  subst hn
  intro F H locs ls hP hS hl
  exact lv_iload F.1 F.2.1 hd (lv_get hl hg) (k F H locs ls hP hS hl)
theorem o_iload_n {i : Nat} {x : Int32} {kk : Fin 4} (hd : decode cc pc = .ok (.iload_n kk, 1)) (hn : pc + 1 = pc') (hi : (kk : Nat) = i) (hg : getL i L = some (vI x)) (k : WA X g own nL cc pc' L (vI x :: st) mu) : WA X g own nL cc pc L st mu := by
  subst hn
  intro F H locs ls hP hS hl
  exact lv_iload_n F.1 F.2.1 hd hi (lv_get hl hg) (k F H locs ls hP hS hl)
theorem o_lload {i : Nat} {x : Int64} (hd : decode cc pc = .ok (.lload i, 2)) (hn : pc + 2 = pc') (hg : getL i L = some (vJ x)) (k : WA X g own nL cc pc' L (vJ x :: st) mu) : WA X g own nL cc pc L st mu := by
  subst hn
  intro F H locs ls hP hS hl
  exact lv_lload F.1 F.2.1 hd (lv_get hl hg) (k F H locs ls hP hS hl)
theorem o_lload_n {i : Nat} {x : Int64} {kk : Fin 4} (hd : decode cc pc = .ok (.lload_n kk, 1)) (hn : pc + 1 = pc') (hi : (kk : Nat) = i) (hg : getL i L = some (vJ x)) (k : WA X g own nL cc pc' L (vJ x :: st) mu) : WA X g own nL cc pc L st mu := by
  subst hn
  intro F H locs ls hP hS hl
  exact lv_lload_n F.1 F.2.1 hd hi (lv_get hl hg) (k F H locs ls hP hS hl)
theorem o_aload {i : Nat} {x : Nat} (hd : decode cc pc = .ok (.aload i, 2)) (hn : pc + 2 = pc') (hg : getL i L = some (vC x)) (k : WA X g own nL cc pc' L (vC x :: st) mu) : WA X g own nL cc pc L st mu := by
  subst hn
  intro F H locs ls hP hS hl
  exact lv_aload F.1 F.2.1 hd (lv_get hl hg) (k F H locs ls hP hS hl)
theorem o_aload_n {i : Nat} {x : Nat} {kk : Fin 4} (hd : decode cc pc = .ok (.aload_n kk, 1)) (hn : pc + 1 = pc') (hi : (kk : Nat) = i) (hg : getL i L = some (vC x)) (k : WA X g own nL cc pc' L (vC x :: st) mu) : WA X g own nL cc pc L st mu := by
  subst hn
  intro F H locs ls hP hS hl
  exact lv_aload_n F.1 F.2.1 hd hi (lv_get hl hg) (k F H locs ls hP hS hl)
theorem o_aloadR {i : Nat} {x : Nat} (hd : decode cc pc = .ok (.aload i, 2)) (hn : pc + 2 = pc') (hg : getL i L = some (vR x)) (k : WA X g own nL cc pc' L (vR x :: st) mu) : WA X g own nL cc pc L st mu := by
  subst hn
  intro F H locs ls hP hS hl
  exact lv_aload F.1 F.2.1 hd (lv_get hl hg) (k F H locs ls hP hS hl)
theorem o_aload_nR {i : Nat} {x : Nat} {kk : Fin 4} (hd : decode cc pc = .ok (.aload_n kk, 1)) (hn : pc + 1 = pc') (hi : (kk : Nat) = i) (hg : getL i L = some (vR x)) (k : WA X g own nL cc pc' L (vR x :: st) mu) : WA X g own nL cc pc L st mu := by
  subst hn
  intro F H locs ls hP hS hl
  exact lv_aload_n F.1 F.2.1 hd hi (lv_get hl hg) (k F H locs ls hP hS hl)
theorem o_istore {i : Nat} {x : Int32} (hd : decode cc pc = .ok (.istore i, 2)) (hn : pc + 2 = pc') (hi2 : i < nL) (hc : cleanL i L = true) (hL : stL i (vI x) L = L') (k : WA X g own nL cc pc' L' st mu) : WA X g own nL cc pc L (vI x :: st) mu := by
  subst hn
  subst hL
  intro F H locs ls hP hS hl
  exact lv_istore F.1 F.2.1 hd hl hi2 rfl (fun ls2 hl2 => k F H locs ls2 hP hS (lv_stL (v := vI x) hc hl2))
theorem o_istore_n {i : Nat} {x : Int32} {kk : Fin 4} (hd : decode cc pc = .ok (.istore_n kk, 1)) (hn : pc + 1 = pc') (hi : (kk : Nat) = i) (hi2 : i < nL) (hc : cleanL i L = true) (hL : stL i (vI x) L = L') (k : WA X g own nL cc pc' L' st mu) : WA X g own nL cc pc L (vI x :: st) mu := by
  subst hn
  subst hL
  intro F H locs ls hP hS hl
  exact lv_istore_n F.1 F.2.1 hd hi hl hi2 rfl (fun ls2 hl2 => k F H locs ls2 hP hS (lv_stL (v := vI x) hc hl2))
theorem o_astore {i : Nat} {x : Nat} (hd : decode cc pc = .ok (.astore i, 2)) (hn : pc + 2 = pc') (hi2 : i < nL) (hc : cleanL i L = true) (hL : stL i (vC x) L = L') (k : WA X g own nL cc pc' L' st mu) : WA X g own nL cc pc L (vC x :: st) mu := by
  subst hn
  subst hL
  intro F H locs ls hP hS hl
  exact lv_astore F.1 F.2.1 hd hl hi2 rfl (fun ls2 hl2 => k F H locs ls2 hP hS (lv_stL (v := vC x) hc hl2))
theorem o_astore_n {i : Nat} {x : Nat} {kk : Fin 4} (hd : decode cc pc = .ok (.astore_n kk, 1)) (hn : pc + 1 = pc') (hi : (kk : Nat) = i) (hi2 : i < nL) (hc : cleanL i L = true) (hL : stL i (vC x) L = L') (k : WA X g own nL cc pc' L' st mu) : WA X g own nL cc pc L (vC x :: st) mu := by
  subst hn
  subst hL
  intro F H locs ls hP hS hl
  exact lv_astore_n F.1 F.2.1 hd hi hl hi2 rfl (fun ls2 hl2 => k F H locs ls2 hP hS (lv_stL (v := vC x) hc hl2))
theorem o_iinc {i : Nat} {n : Int} {x v : Int32} (hd : decode cc pc = .ok (.iinc i n, 3)) (hn : pc + 3 = pc') (hg : getL i L = some (vI x)) (hv : x + Int32.ofInt n = v) (hi2 : i < nL) (hc : cleanL i L = true) (hL : stL i (vI v) L = L') (k : WA X g own nL cc pc' L' st mu) : WA X g own nL cc pc L st mu := by
  subst hn
  subst hL
  intro F H locs ls hP hS hl
  obtain ⟨kq, hkq⟩ := List.getElem?_of_mem (List.mem_map.mpr ⟨(i, vI x), getL_mem hg, rfl⟩ : (i, cv (gh g) (vI x)) ∈ mpL (gh g) L)
  exact lv_iinc F.1 F.2.1 hd hl (k := kq) hkq hv hi2 rfl (fun ls2 hl2 => k F H locs ls2 hP hS (lv_stL (v := vI v) hc hl2))
theorem o_goto {off : Int} {tgt : Nat} (hd : decode cc pc = .ok (.goto off, 3)) (ht : (pc : Int) + off = (tgt : Int)) (k : WA X g own nL cc tgt L st mu) : WA X g own nL cc pc L st mu := by
  intro F H locs ls hP hS hl
  exact lv_goto F.1 F.2.1 hd ht (k F H locs ls hP hS hl)
theorem o_if_eq {a : Int32} {off : Int} {tgt : Nat} (hd : decode cc pc = .ok (.ifCond .eq off, 3)) (ht : (pc : Int) + off = (tgt : Int)) (hn : pc + 3 = pc') (kt : a = 0 → WA X g own nL cc tgt L st mu) (kf : ¬ a = 0 → WA X g own nL cc pc' L st mu) : WA X g own nL cc pc L (vI a :: st) mu := by
  subst hn
  intro F H locs ls hP hS hl
  exact lv_if_eq F.1 F.2.1 hd ht (fun q => kt q F H locs ls hP hS hl) (fun q => kf q F H locs ls hP hS hl)
theorem o_icmp_eq {a b : Int32} {off : Int} {tgt : Nat} (hd : decode cc pc = .ok (.if_icmp .eq off, 3)) (ht : (pc : Int) + off = (tgt : Int)) (hn : pc + 3 = pc') (kt : a = b → WA X g own nL cc tgt L st mu) (kf : ¬ a = b → WA X g own nL cc pc' L st mu) : WA X g own nL cc pc L (vI b :: vI a :: st) mu := by
  subst hn
  intro F H locs ls hP hS hl
  exact lv_icmp_eq F.1 F.2.1 hd ht (fun q => kt q F H locs ls hP hS hl) (fun q => kf q F H locs ls hP hS hl)
theorem o_if_ne {a : Int32} {off : Int} {tgt : Nat} (hd : decode cc pc = .ok (.ifCond .ne off, 3)) (ht : (pc : Int) + off = (tgt : Int)) (hn : pc + 3 = pc') (kt : ¬ a = 0 → WA X g own nL cc tgt L st mu) (kf : a = 0 → WA X g own nL cc pc' L st mu) : WA X g own nL cc pc L (vI a :: st) mu := by
  subst hn
  intro F H locs ls hP hS hl
  exact lv_if_ne F.1 F.2.1 hd ht (fun q => kt q F H locs ls hP hS hl) (fun q => kf q F H locs ls hP hS hl)
theorem o_icmp_ne {a b : Int32} {off : Int} {tgt : Nat} (hd : decode cc pc = .ok (.if_icmp .ne off, 3)) (ht : (pc : Int) + off = (tgt : Int)) (hn : pc + 3 = pc') (kt : ¬ a = b → WA X g own nL cc tgt L st mu) (kf : a = b → WA X g own nL cc pc' L st mu) : WA X g own nL cc pc L (vI b :: vI a :: st) mu := by
  subst hn
  intro F H locs ls hP hS hl
  exact lv_icmp_ne F.1 F.2.1 hd ht (fun q => kt q F H locs ls hP hS hl) (fun q => kf q F H locs ls hP hS hl)
theorem o_if_lt {a : Int32} {off : Int} {tgt : Nat} (hd : decode cc pc = .ok (.ifCond .lt off, 3)) (ht : (pc : Int) + off = (tgt : Int)) (hn : pc + 3 = pc') (kt : a < 0 → WA X g own nL cc tgt L st mu) (kf : ¬ a < 0 → WA X g own nL cc pc' L st mu) : WA X g own nL cc pc L (vI a :: st) mu := by
  subst hn
  intro F H locs ls hP hS hl
  exact lv_if_lt F.1 F.2.1 hd ht (fun q => kt q F H locs ls hP hS hl) (fun q => kf q F H locs ls hP hS hl)
theorem o_icmp_lt {a b : Int32} {off : Int} {tgt : Nat} (hd : decode cc pc = .ok (.if_icmp .lt off, 3)) (ht : (pc : Int) + off = (tgt : Int)) (hn : pc + 3 = pc') (kt : a < b → WA X g own nL cc tgt L st mu) (kf : ¬ a < b → WA X g own nL cc pc' L st mu) : WA X g own nL cc pc L (vI b :: vI a :: st) mu := by
  subst hn
  intro F H locs ls hP hS hl
  exact lv_icmp_lt F.1 F.2.1 hd ht (fun q => kt q F H locs ls hP hS hl) (fun q => kf q F H locs ls hP hS hl)
theorem o_if_ge {a : Int32} {off : Int} {tgt : Nat} (hd : decode cc pc = .ok (.ifCond .ge off, 3)) (ht : (pc : Int) + off = (tgt : Int)) (hn : pc + 3 = pc') (kt : 0 ≤ a → WA X g own nL cc tgt L st mu) (kf : ¬ 0 ≤ a → WA X g own nL cc pc' L st mu) : WA X g own nL cc pc L (vI a :: st) mu := by
  subst hn
  intro F H locs ls hP hS hl
  exact lv_if_ge F.1 F.2.1 hd ht (fun q => kt q F H locs ls hP hS hl) (fun q => kf q F H locs ls hP hS hl)
theorem o_icmp_ge {a b : Int32} {off : Int} {tgt : Nat} (hd : decode cc pc = .ok (.if_icmp .ge off, 3)) (ht : (pc : Int) + off = (tgt : Int)) (hn : pc + 3 = pc') (kt : b ≤ a → WA X g own nL cc tgt L st mu) (kf : ¬ b ≤ a → WA X g own nL cc pc' L st mu) : WA X g own nL cc pc L (vI b :: vI a :: st) mu := by
  subst hn
  intro F H locs ls hP hS hl
  exact lv_icmp_ge F.1 F.2.1 hd ht (fun q => kt q F H locs ls hP hS hl) (fun q => kf q F H locs ls hP hS hl)
theorem o_if_gt {a : Int32} {off : Int} {tgt : Nat} (hd : decode cc pc = .ok (.ifCond .gt off, 3)) (ht : (pc : Int) + off = (tgt : Int)) (hn : pc + 3 = pc') (kt : 0 < a → WA X g own nL cc tgt L st mu) (kf : ¬ 0 < a → WA X g own nL cc pc' L st mu) : WA X g own nL cc pc L (vI a :: st) mu := by
  subst hn
  intro F H locs ls hP hS hl
  exact lv_if_gt F.1 F.2.1 hd ht (fun q => kt q F H locs ls hP hS hl) (fun q => kf q F H locs ls hP hS hl)
theorem o_icmp_gt {a b : Int32} {off : Int} {tgt : Nat} (hd : decode cc pc = .ok (.if_icmp .gt off, 3)) (ht : (pc : Int) + off = (tgt : Int)) (hn : pc + 3 = pc') (kt : b < a → WA X g own nL cc tgt L st mu) (kf : ¬ b < a → WA X g own nL cc pc' L st mu) : WA X g own nL cc pc L (vI b :: vI a :: st) mu := by
  subst hn
  intro F H locs ls hP hS hl
  exact lv_icmp_gt F.1 F.2.1 hd ht (fun q => kt q F H locs ls hP hS hl) (fun q => kf q F H locs ls hP hS hl)
theorem o_if_le {a : Int32} {off : Int} {tgt : Nat} (hd : decode cc pc = .ok (.ifCond .le off, 3)) (ht : (pc : Int) + off = (tgt : Int)) (hn : pc + 3 = pc') (kt : a ≤ 0 → WA X g own nL cc tgt L st mu) (kf : ¬ a ≤ 0 → WA X g own nL cc pc' L st mu) : WA X g own nL cc pc L (vI a :: st) mu := by
  subst hn
  intro F H locs ls hP hS hl
  exact lv_if_le F.1 F.2.1 hd ht (fun q => kt q F H locs ls hP hS hl) (fun q => kf q F H locs ls hP hS hl)
theorem o_icmp_le {a b : Int32} {off : Int} {tgt : Nat} (hd : decode cc pc = .ok (.if_icmp .le off, 3)) (ht : (pc : Int) + off = (tgt : Int)) (hn : pc + 3 = pc') (kt : a ≤ b → WA X g own nL cc tgt L st mu) (kf : ¬ a ≤ b → WA X g own nL cc pc' L st mu) : WA X g own nL cc pc L (vI b :: vI a :: st) mu := by
  subst hn
  intro F H locs ls hP hS hl
  exact lv_icmp_le F.1 F.2.1 hd ht (fun q => kt q F H locs ls hP hS hl) (fun q => kf q F H locs ls hP hS hl)
theorem o_tableIn {dflt lo hi : Int} {offs : Array Int} {len : Nat} {x : Int32} {off : Int} {tgt : Nat} (hd : decode cc pc = .ok (.tableswitch dflt lo hi offs, len)) (h1 : ¬ x.toInt < lo) (h2 : ¬ hi < x.toInt) (ho : offs[(x.toInt - lo).toNat]? = some off) (ht : (pc : Int) + off = (tgt : Int)) (k : WA X g own nL cc tgt L st mu) : WA X g own nL cc pc L (vI x :: st) mu := by
  intro F H locs ls hP hS hl
  exact lv_tableIn F.1 F.2.1 hd h1 h2 ho ht (k F H locs ls hP hS hl)
theorem o_tableOut {dflt lo hi : Int} {offs : Array Int} {len : Nat} {x : Int32} {tgt : Nat} (hd : decode cc pc = .ok (.tableswitch dflt lo hi offs, len)) (h : x.toInt < lo ∨ hi < x.toInt) (ht : (pc : Int) + dflt = (tgt : Int)) (k : WA X g own nL cc tgt L st mu) : WA X g own nL cc pc L (vI x :: st) mu := by
  intro F H locs ls hP hS hl
  exact lv_tableOut F.1 F.2.1 hd h ht (k F H locs ls hP hS hl)
theorem o_lookup {dflt : Int} {ps : Array (Int × Int)} {len : Nat} {x : Int32} {off : Int} {tgt : Nat} (hd : decode cc pc = .ok (.lookupswitch dflt ps, len)) (hp : (ps.toList.zip (ps.toList.drop 1)).all (fun (a, next) => a.1 < next.1) = true) (ho : Op.lookupswitch.offset ps.toList dflt x.toInt = off) (ht : (pc : Int) + off = (tgt : Int)) (k : WA X g own nL cc tgt L st mu) : WA X g own nL cc pc L (vI x :: st) mu := by
  intro F H locs ls hP hS hl
  exact lv_lookup F.1 F.2.1 hd hp ho ht (k F H locs ls hP hS hl)
/-! ===== fields ===== -/
theorem wd_ob {k ci : Nat} {fs : List (Option Nat)} (hk : k < NC) (hs : sh k = .inl (ci, fs)) : (wd (gh g) (gc g) mu)[k]? = some (gh g k, .inr (ci, mkF (gh g) (mu k) 0 fs)) := by
  rw [wd_at hk, hs]
  rfl
/-- what a class and a link of it need -/
def CLk (own C : String) (T : u_T) (N ci i ix : Nat) (nest : Bool) : Prop :=
  vwCl[ci]? = some (C, T, N) ∧ (∀ w ∈ u_ws C T N, w ∈ tb0) ∧ i < N ∧ (T i).1 = C ∧ (nest = false → Cond.fieldLink own ix C (T i).2.1 (T i).2.2.1 ∈ tb0) ∧ (nest = true → ∃ host, Cond.fieldLinkNest own ix C (T i).2.1 (T i).2.2.1 host ∈ nw0)
theorem o_getI {C : String} {T : u_T} {N ci i ix k : Nat} {fs : List (Option Nat)} {nest : Bool} (cl : CLk own C T N ci i ix nest) (hd : decode cc pc = .ok (.getfield ix, 3)) (hn : pc + 3 = pc') (hk : k < NC) (hs : sh k = .inl (ci, fs)) (hi : fs[i]? = some none) (kk : WA X g own nL cc pc' L (vI (mu k i) :: st) mu) : WA X g own nL cc pc L (vC k :: st) mu := by
  subst hn
  intro F H locs ls hP hS hl
  obtain ⟨c1, c2, c3, c4, c5, c6⟩ := cl
  obtain ⟨hx, hb, hml, hown, hts, hnw, hK, hDD, hA, hSF⟩ := id F
  have hv : (mkF (gh g) (mu k) 0 fs)[i]? = some (.int (mu k i)) := by
    have := mkF_int (h := gh g) (f := mu k) fs 0 i hi
    rw [Nat.zero_add] at this
    exact this
  cases nest with
  | false => exact va_get (D := gD g) (ci := ci) (C := C) (T := T) (N := N) hx hb hts c2 hown hK hP k (wd_ob hk hs) c1 i c3 (hts _ (c5 rfl)) (fun _ h9 => by rw [c4] at h9; exact h9) hv hd (kk F H locs ls hP hS hl)
  | true =>
    obtain ⟨host, hh⟩ := c6 rfl
    exact va_getN (D := gD g) (ci := ci) (C := C) (T := T) (N := N) hx hb hts c2 hown hK hP k (wd_ob hk hs) c1 i c3 (va_Nw.use (nest_on rfl) (hnw _ hh)) (fun _ h9 => by rw [c4] at h9; exact h9) hv hd (kk F H locs ls hP hS hl)
theorem o_getC {C : String} {T : u_T} {N ci i ix k q : Nat} {fs : List (Option Nat)} {nest : Bool} (cl : CLk own C T N ci i ix nest) (hd : decode cc pc = .ok (.getfield ix, 3)) (hn : pc + 3 = pc') (hk : k < NC) (hs : sh k = .inl (ci, fs)) (hi : fs[i]? = some (some q)) (kk : WA X g own nL cc pc' L (vC q :: st) mu) : WA X g own nL cc pc L (vC k :: st) mu := by
  subst hn
  intro F H locs ls hP hS hl
  obtain ⟨c1, c2, c3, c4, c5, c6⟩ := cl
  obtain ⟨hx, hb, hml, hown, hts, hnw, hK, hDD, hA, hSF⟩ := id F
  have hv : (mkF (gh g) (mu k) 0 fs)[i]? = some (.ref (gh g q)) := mkF_ref (h := gh g) (f := mu k) fs 0 i hi
  cases nest with
  | false => exact va_get (D := gD g) (ci := ci) (C := C) (T := T) (N := N) hx hb hts c2 hown hK hP k (wd_ob hk hs) c1 i c3 (hts _ (c5 rfl)) (fun _ h9 => by rw [c4] at h9; exact h9) hv hd (kk F H locs ls hP hS hl)
  | true =>
    obtain ⟨host, hh⟩ := c6 rfl
    exact va_getN (D := gD g) (ci := ci) (C := C) (T := T) (N := N) hx hb hts c2 hown hK hP k (wd_ob hk hs) c1 i c3 (va_Nw.use (nest_on rfl) (hnw _ hh)) (fun _ h9 => by rw [c4] at h9; exact h9) hv hd (kk F H locs ls hP hS hl)
def upF (mu : Mu) (k i : Nat) (v : Int32) : Mu := upM mu k (upd (mu k) i v)
/-- what a store into a field needs beside -/
def CLp (T : u_T) (ty0 : Nat → FieldType) (N i : Nat) (ty : FieldType) : Prop :=
  (∀ k, k < N → parseFieldDescriptor (T k).2.2.1 = some (ty0 k)) ∧ (∀ a, a < N → ∀ b, b < N → a ≠ b → (T a).2.1 ≠ (T b).2.1) ∧ (T i).2.2.2 = false ∧ parseFieldDescriptor (T i).2.2.1 = some ty
theorem o_put {C : String} {T : u_T} {ty0 : Nat → FieldType} {ty : FieldType} {N ci i ix k : Nat} {fs : List (Option Nat)} {v : Int32} (cl : CLk own C T N ci i ix false) (cp : CLp T ty0 N i ty) (hd : decode cc pc = .ok (.putfield ix, 3)) (hn : pc + 3 = pc') (hk : k < NC) (hs : sh k = .inl (ci, fs)) (hi : fs[i]? = some none) (hfit : narrow ty (.int v) = .int v ∧ fits ty (.int v) = true) (kk : WA X g own nL cc pc' L st (upF mu k i v)) : WA X g own nL cc pc L (vI v :: vC k :: st) mu := by
  subst hn
  intro F H locs ls hP hS hl
  obtain ⟨c1, c2, c3, c4, c5, c6⟩ := cl
  obtain ⟨p1, p2, p3, p4⟩ := cp
  obtain ⟨hx, hb, hml, hown, hts, hnw, hK, hDD, hA, hSF⟩ := id F
  have he : (wd (gh g) (gc g) mu).set k (gh g k, .inr (ci, (mkF (gh g) (mu k) 0 fs).set i (.int v))) = wd (gh g) (gc g) (upF mu k i v) := by
    rw [mkF_set fs 0 i hi, Nat.zero_add]
    have := wd_set (h := gh g) (cA := gc g) (mu := mu) hk (upd (mu k) i v)
    rw [hs] at this
    exact this
  refine va_put (D := gD g) (ci := ci) (v := .int v) (ty := ty) (C := C) (T := T) (N := N) hx hb hts c2 ty0 p1 p2 hown hK hP (wd_D hDD mu) hS k (wd_ob hk hs) c1 i c3 (hts _ (c5 rfl)) (fun _ h9 => by rw [c4] at h9; exact h9) p3 p4 hfit.1 hfit.2 (by rw [mkF_len]; exact (List.getElem?_eq_some_iff.mp hi).1) hd (fun H1 locs1 hP1 hD1 hS1 => ?_)
  rw [he] at hP1
  exact kk F H1 locs1 ls hP1 hS1 hl
theorem fitI {v : Int32} : narrow .int (.int v) = .int v ∧ fits .int (.int v) = true := ⟨rfl, rfl⟩
theorem fitZ {v : Int32} (h : v = 0 ∨ v = 1) : narrow .boolean (.int v) = .int v ∧ fits .boolean (.int v) = true := by
  rcases h with rfl | rfl <;> exact ⟨by decide, by decide⟩
/-! ===== rows of numbers ===== -/
theorem wd_ar {k n : Nat} (hk : k < NC) (hs : sh k = .inr (.inl n)) : (wd (gh g) (gc g) mu)[k]? = some (gh g k, .inl (gc g k, n, .inl (mu k))) := by
  rw [wd_at hk, hs]
  rfl
theorem o_iald {k n : Nat} {i : Int32} (hd : decode cc pc = .ok (.iaload, 1)) (hn : pc + 1 = pc') (hk : k < NC) (hs : sh k = .inr (.inl n)) (ht : aty k = .int) (hin : vp_in i n) (kk : WA X g own nL cc pc' L (vI (mu k i.toNatClampNeg) :: st) mu) : WA X g own nL cc pc L (vI i :: vC k :: st) mu := by
  subst hn
  intro F H locs ls hP hS hl
  obtain ⟨hx, hb, hml, hown, hts, hnw, hK, hDD, hA, hSF⟩ := id F
  exact va_iald hx hb hK hP k k (wd_ar hk hs) (by rw [tyz_at hk, ht]) hin hd (kk F H locs ls hP hS hl)
theorem wd_arset {k n : Nat} (hk : k < NC) (hs : sh k = .inr (.inl n)) (f : Nat → Int32) : (wd (gh g) (gc g) mu).set k (gh g k, .inl (gc g k, n, .inl f)) = wd (gh g) (gc g) (upM mu k f) := by
  have := wd_set (h := gh g) (cA := gc g) (mu := mu) hk f
  rw [hs] at this
  exact this
theorem o_iast {k n : Nat} {i x : Int32} (hd : decode cc pc = .ok (.iastore, 1)) (hn : pc + 1 = pc') (hk : k < NC) (hs : sh k = .inr (.inl n)) (ht : aty k = .int) (hin : vp_in i n) (kk : WA X g own nL cc pc' L st (upF mu k i.toNatClampNeg x)) : WA X g own nL cc pc L (vI x :: vI i :: vC k :: st) mu := by
  subst hn
  intro F H locs ls hP hS hl
  obtain ⟨hx, hb, hml, hown, hts, hnw, hK, hDD, hA, hSF⟩ := id F
  refine va_iast hx hb hK hP (wd_D hDD mu) hS k k (wd_ar hk hs) (by rw [tyz_at hk, ht]) hin hd (fun H1 locs1 hP1 hD1 hS1 => ?_)
  rw [wd_arset hk hs] at hP1
  exact kk F H1 locs1 ls hP1 hS1 hl
theorem o_zald {k n : Nat} {i : Int32} (hd : decode cc pc = .ok (.baload, 1)) (hn : pc + 1 = pc') (hk : k < NC) (hs : sh k = .inr (.inl n)) (ht : aty k = .boolean) (hin : vp_in i n) (kk : WA X g own nL cc pc' L (vI (mu k i.toNatClampNeg) :: st) mu) : WA X g own nL cc pc L (vI i :: vC k :: st) mu := by
  subst hn
  intro F H locs ls hP hS hl
  obtain ⟨hx, hb, hml, hown, hts, hnw, hK, hDD, hA, hSF⟩ := id F
  exact va_zald hx hb hK hP k k (wd_ar hk hs) (by rw [tyz_at hk, ht]) hin hd (kk F H locs ls hP hS hl)
theorem narZ {x : Int32} (h : x = 0 ∨ x = 1) : vp_nar .boolean x = x := by
  rcases h with rfl | rfl <;> rfl
theorem o_zast {k n : Nat} {i x : Int32} (hd : decode cc pc = .ok (.bastore, 1)) (hn : pc + 1 = pc') (hk : k < NC) (hs : sh k = .inr (.inl n)) (ht : aty k = .boolean) (hin : vp_in i n) (hx1 : x = 0 ∨ x = 1) (kk : WA X g own nL cc pc' L st (upF mu k i.toNatClampNeg x)) : WA X g own nL cc pc L (vI x :: vI i :: vC k :: st) mu := by
  subst hn
  intro F H locs ls hP hS hl
  obtain ⟨hx, hb, hml, hown, hts, hnw, hK, hDD, hA, hSF⟩ := id F
  refine va_zast hx hb hK hP (wd_D hDD mu) hS k k (wd_ar hk hs) (by rw [tyz_at hk, ht]) hin hd (fun H1 locs1 hP1 hD1 hS1 => ?_)
  rw [wd_arset hk hs, narZ hx1] at hP1
  exact kk F H1 locs1 ls hP1 hS1 hl
theorem o_alen {k n : Nat} {v : Int32} (hd : decode cc pc = .ok (.arraylength, 1)) (hn : pc + 1 = pc') (hk : k < NC) (hs : sh k = .inr (.inl n)) (hv : Int32.ofNat n = v) (kk : WA X g own nL cc pc' L (vI v :: st) mu) : WA X g own nL cc pc L (vC k :: st) mu := by
  subst hn
  intro F H locs ls hP hS hl
  obtain ⟨hx, hb, hml, hown, hts, hnw, hK, hDD, hA, hSF⟩ := id F
  exact va_alen hx hb hK hP k k (wd_ar hk hs) (tyz_at hk) hv hd (kk F H locs ls hP hS hl)
theorem wd_qr {k n b : Nat} (hk : k < NC) (hs : sh k = .inr (.inr (n, b))) : (wd (gh g) (gc g) mu)[k]? = some (gh g k, .inl (gc g k, n, .inr (.inr (.inr (.inr (fun i => if i < n then some (gh g (b + i)) else none)))))) := by
  rw [wd_at hk, hs]
  rfl
theorem o_alenQ {k n b : Nat} {v : Int32} (hd : decode cc pc = .ok (.arraylength, 1)) (hn : pc + 1 = pc') (hk : k < NC) (hs : sh k = .inr (.inr (n, b))) (hv : Int32.ofNat n = v) (kk : WA X g own nL cc pc' L (vI v :: st) mu) : WA X g own nL cc pc L (vC k :: st) mu := by
  subst hn
  intro F H locs ls hP hS hl
  obtain ⟨hx, hb, hml, hown, hts, hnw, hK, hDD, hA, hSF⟩ := id F
  exact va_alen hx hb hK hP k k (wd_qr hk hs) (tyz_at hk) hv hd (kk F H locs ls hP hS hl)
theorem o_aald {k n b : Nat} {i : Int32} (hd : decode cc pc = .ok (.aaload, 1)) (hn : pc + 1 = pc') (hk : k < NC) (hs : sh k = .inr (.inr (n, b))) (ht : aty k = .array .int) (hin : vp_in i n) (kk : WA X g own nL cc pc' L (vC (b + i.toNatClampNeg) :: st) mu) : WA X g own nL cc pc L (vI i :: vC k :: st) mu := by
  subst hn
  intro F H locs ls hP hS hl
  obtain ⟨hx, hb, hml, hown, hts, hnw, hK, hDD, hA, hSF⟩ := id F
  have hlt : i.toNatClampNeg < n := Nat.not_le.mp fun q => hin (Or.inr q)
  have ht2 : (tyz (gc g))[k]? = some (gc g k, .array .int) := by rw [tyz_at hk, ht]
  refine W.aald (v := .ref (gh g (b + i.toNatClampNeg))) (ty := .array .int) hx hb (hP k _ (wd_qr hk hs)) ((hK.2 k _ ht2).1 n (fun j => va_rf (if j < n then some (gh g (b + j)) else none))) rfl (fun q => by cases q) (by show ¬ (i < 0 ∨ (arrV _ _ _).slots.size ≤ _); rw [arrV_size]; exact hin) ?_ rfl rfl hd (kk F H locs ls hP hS hl)
  show (arrV _ _ _).slots[_]? = _
  rw [arrV_read _ _ hlt]
  dsimp only
  rw [if_pos hlt]
  rfl
/-! ===== the static rows ===== -/
theorem o_gets0 {ix : Nat} (hd : decode cc pc = .ok (.getstatic ix, 3)) (hn : pc + 3 = pc') (hc : Cond.fieldLink own ix "BallInCup" "LEAST_SETTINGS" "[I" ∈ tb0) (kk : WA X g own nL cc pc' L (vR (gt0 g) :: st) mu) : WA X g own nL cc pc L st mu := by
  subst hn
  intro F H locs ls hP hS hl
  obtain ⟨hx, hb, hml, hown, hts, hnw, hK, hDD, hA, hSF⟩ := id F
  exact va_gets hx hb hSF.1 hS hown (hts _ hc) (fun _ h9 => h9) hd (kk F H locs ls hP hS hl)
theorem o_gets1 {ix : Nat} (hd : decode cc pc = .ok (.getstatic ix, 3)) (hn : pc + 3 = pc') (hc : Cond.fieldLink own ix "BallInCup" "MOST_SETTINGS" "[I" ∈ tb0) (kk : WA X g own nL cc pc' L (vR (gt1 g) :: st) mu) : WA X g own nL cc pc L st mu := by
  subst hn
  intro F H locs ls hP hS hl
  obtain ⟨hx, hb, hml, hown, hts, hnw, hK, hDD, hA, hSF⟩ := id F
  exact va_gets hx hb hSF.2.2.1 hS hown (hts _ hc) (fun _ h9 => h9) hd (kk F H locs ls hP hS hl)
theorem o_ti0 {i : Int32} (hd : decode cc pc = .ok (.iaload, 1)) (hn : pc + 1 = pc') (hin : vp_in i 3) (kk : WA X g own nL cc pc' L (vI (leastS i.toNatClampNeg) :: st) mu) : WA X g own nL cc pc L (vI i :: vR (gt0 g) :: st) mu := by
  subst hn
  intro F H locs ls hP hS hl
  obtain ⟨hx, hb, hml, hown, hts, hnw, hK, hDD, hA, hSF⟩ := id F
  exact va_ti hx hb hSF.2.1 hS hin rfl hd (kk F H locs ls hP hS hl)
theorem o_ti1 {i : Int32} (hd : decode cc pc = .ok (.iaload, 1)) (hn : pc + 1 = pc') (hin : vp_in i 3) (kk : WA X g own nL cc pc' L (vI (mostS i.toNatClampNeg) :: st) mu) : WA X g own nL cc pc L (vI i :: vR (gt1 g) :: st) mu := by
  subst hn
  intro F H locs ls hP hS hl
  obtain ⟨hx, hb, hml, hown, hts, hnw, hK, hDD, hA, hSF⟩ := id F
  exact va_ti hx hb hSF.2.2.2 hS hin rfl hd (kk F H locs ls hP hS hl)
/-! ===== returns, room ===== -/
def RM (X : CX) (d : Nat) : Prop := d ≤ (xR X).frames ∧ 40 * d ≤ (xR X).locals ∧ xk X ≤ (xR X).cells ∧ xn X ≤ (xR X).slots
def RI (X : CX) (g : GX) (d : Nat) (ty : FieldType) (Ret : Int32 → Mu → Prop) : Prop :=
  (xQ X = MQ (xb X) (va_Qi Ret (fun mu t => va_P (gD g) vwCl (wd (gh g) (gc g) mu) t.heap) (gA g)) (xa X) (xs X) (xk X) (xn X) (gA g)) ∧ (xh X).sig.returnType = some ty ∧ (xh X).locks = false ∧ RM X d
def RV (X : CX) (g : GX) (d : Nat) (Ret : Mu → Prop) : Prop :=
  (xQ X = MQ (xb X) (va_Qv Ret (fun mu t => va_P (gD g) vwCl (wd (gh g) (gc g) mu) t.heap) (gA g)) (xa X) (xs X) (xk X) (xn X) (gA g)) ∧ (xh X).sig.returnType = none ∧ (xh X).locks = false ∧ RM X d
theorem o_iret {d : Nat} {Ret : Int32 → Mu → Prop} {v : Int32} (hq : RI X g d .int Ret) (hd : decode cc pc = .ok (.ireturn, 1)) (hr : Ret v mu) : WA X g own nL cc pc L [vI v] mu := by
  intro F H locs ls hP hS hl
  rw [hq.1]
  exact W.iret (v := v) F.1 F.2.1 hq.2.1 (fun t ht hW => ⟨⟨v, mu, rfl, hr, by show va_P _ _ _ t.heap; rw [ht]; exact hP⟩, hS.F ht⟩) hS.2.2 hd hq.2.2.1
theorem o_zret {d : Nat} {Ret : Int32 → Mu → Prop} {v : Int32} (hq : RI X g d .boolean Ret) (hd : decode cc pc = .ok (.ireturn, 1)) (hv : v = 0 ∨ v = 1) (hr : Ret v mu) : WA X g own nL cc pc L [vI v] mu := by
  intro F H locs ls hP hS hl
  rw [hq.1]
  exact W.zret (v := v) F.1 F.2.1 hq.2.1 (fitZ hv).1 (fun t ht hW => ⟨⟨v, mu, rfl, hr, by show va_P _ _ _ t.heap; rw [ht]; exact hP⟩, hS.F ht⟩) hS.2.2 hd hq.2.2.1
theorem o_vret {d : Nat} {Ret : Mu → Prop} (hq : RV X g d Ret) (hd : decode cc pc = .ok (.return_, 1)) (hr : Ret mu) : WA X g own nL cc pc L [] mu := by
  intro F H locs ls hP hS hl
  rw [hq.1]
  exact W.vret F.1 F.2.1 hq.2.1 (fun t ht hW => ⟨⟨mu, rfl, hr, by show va_P _ _ _ t.heap; rw [ht]; exact hP⟩, hS.F ht⟩) hS.2.2 hd hq.2.2.1
/-! ===== Math ===== -/
def MTH (own : String) (ix : Nat) (y : MethodName) (yc : ByteArray) (n : Nat) : Prop := Cond.methodLink own ix y ∈ tb0 ∧ Cond.static y ∈ tb0 ∧ Cond.initialized "java/lang/Math" ∈ tb0 ∧ Cond.code y yc n (some .int) ∈ tb0
def wds (st : List AV) : Nat := (st.map (fun v => if cat2 v then 2 else 1)).sum
theorem wds_eq {h : Nat → Nat} : ∀ {st : List AV}, ((st.map (cv h)).map fun v => v.category).sum = wds st
  | [] => rfl
  | v :: st => by
    have ih := wds_eq (h := h) (st := st)
    show (cv h v).category + ((st.map (cv h)).map fun v => v.category).sum = (if cat2 v then 2 else 1) + wds st
    rw [ih]
    rcases v with x | x | k | a <;> rfl
theorem o_mabs {d ix : Nat} {a : Int32} (hm : MTH own ix Lib.Math.abs.name Lib.Math.abs.code 1) (hr : RM X (d + 1)) (hd : decode cc pc = .ok (.invokestatic ix, 3)) (hn : pc + 3 = pc') (hw : wds st ≤ 8) (kk : WA X g own nL cc pc' L (vI (if 0 ≤ a then a else 0 - a) :: st) mu) : WA X g own nL cc pc L (vI a :: st) mu := by
  subst hn
  intro F H locs ls hP hS hl
  obtain ⟨hx, hb, hml, hown, hts, hnw, hK, hDD, hA, hSF⟩ := id F
  obtain ⟨r1, r2, r3, r4⟩ := hr
  exact va_mabs hx hb (hml.trans hl.1.symm) hown (hts _ hm.1) (hts _ hm.2.1) (hts _ hm.2.2.1) (hts _ hm.2.2.2) (by omega) (by rw [wds_eq]; omega) r3 r4 hd (kk F H locs ls hP hS hl)
theorem o_mmax {d ix : Nat} {a b : Int32} (hm : MTH own ix Lib.Math.max.name Lib.Math.max.code 2) (hr : RM X (d + 1)) (hd : decode cc pc = .ok (.invokestatic ix, 3)) (hn : pc + 3 = pc') (hw : wds st ≤ 8) (kk : WA X g own nL cc pc' L (vI (if a < b then b else a) :: st) mu) : WA X g own nL cc pc L (vI b :: vI a :: st) mu := by
  subst hn
  intro F H locs ls hP hS hl
  obtain ⟨hx, hb, hml, hown, hts, hnw, hK, hDD, hA, hSF⟩ := id F
  obtain ⟨r1, r2, r3, r4⟩ := hr
  exact va_mmax hx hb (hml.trans hl.1.symm) hown (hts _ hm.1) (hts _ hm.2.1) (hts _ hm.2.2.1) (hts _ hm.2.2.2) (by omega) (by rw [wds_eq]; omega) r3 r4 hd (kk F H locs ls hP hS hl)
theorem o_mmin {d ix : Nat} {a b : Int32} (hm : MTH own ix Lib.Math.min.name Lib.Math.min.code 2) (hr : RM X (d + 1)) (hd : decode cc pc = .ok (.invokestatic ix, 3)) (hn : pc + 3 = pc') (hw : wds st ≤ 8) (kk : WA X g own nL cc pc' L (vI (if b < a then b else a) :: st) mu) : WA X g own nL cc pc L (vI b :: vI a :: st) mu := by
  subst hn
  intro F H locs ls hP hS hl
  obtain ⟨hx, hb, hml, hown, hts, hnw, hK, hDD, hA, hSF⟩ := id F
  obtain ⟨r1, r2, r3, r4⟩ := hr
  exact va_mmin hx hb (hml.trans hl.1.symm) hown (hts _ hm.1) (hts _ hm.2.1) (hts _ hm.2.2.1) (hts _ hm.2.2.2) (by omega) (by rw [wds_eq]; omega) r3 r4 hd (kk F H locs ls hP hS hl)
/-! ===== contracts over the world ===== -/
def AW (h : Nat → Nat) (sz : Nat) : Nat → Prop := fun q => (∃ k, k < NC ∧ q = h k) ∨ sz ≤ q
def PreW (D : va_G) (h : Nat → Nat) (cA : Nat → ClassId) (mu : Mu) (sz t0 t1 : Nat) (U : State) : Prop :=
  U.heap.size = sz ∧ va_P D vwCl (wd h cA mu) U.heap ∧ va_K D vwCl (tyz cA) U ∧ inj h ∧ (∀ w ∈ nw0, va_Nw w U) ∧ SF t0 t1 (AW h sz) U U.heap
def Con (y : MethodName) (yc : ByteArray) (n : Nat) (ret : Option FieldType) (d : Nat) (As : List AV) (mu : Mu) (Ret : Int32 → Mu → Prop) : Prop := ∀ (l : Launch) (D : va_G) (h : Nat → Nat) (cA : Nat → ClassId) (sz t0 t1 : Nat),
  Met l y (Cond.code y yc n ret :: tb0) (rm d) (va_Pc (As.map (cv h)) (PreW D h cA mu sz t0 t1)) (va_Qi Ret (fun mu' t => va_P D vwCl (wd h cA mu') t.heap) (AW h sz)) 0 0 (AW h sz)
def ConV (y : MethodName) (yc : ByteArray) (n : Nat) (d : Nat) (As : List AV) (mu : Mu) (Ret : Mu → Prop) : Prop := ∀ (l : Launch) (D : va_G) (h : Nat → Nat) (cA : Nat → ClassId) (sz t0 t1 : Nat),
  Met l y (Cond.code y yc n none :: tb0) (rm d) (va_Pc (As.map (cv h)) (PreW D h cA mu sz t0 t1)) (va_Qv Ret (fun mu' t => va_P D vwCl (wd h cA mu') t.heap) (AW h sz)) 0 0 (AW h sz)
def agL : Nat → List AV → List (Nat × AV)
  | _, [] => []
  | i, v :: vs => (i, v) :: agL (if cat2 v then i + 2 else i + 1) vs
theorem agL_eq {h : Nat → Nat} : ∀ (As : List AV) (i : Nat), mpL h (agL i As) = lv_args i (As.map (cv h))
  | [], _ => rfl
  | v :: vs, i => by
    have ih := agL_eq (h := h) vs (if cat2 v then i + 2 else i + 1)
    show (i, cv h v) :: mpL h (agL (if cat2 v then i + 2 else i + 1) vs) = (i, cv h v) :: lv_args (if (cv h v).category = 2 then i + 2 else i + 1) (vs.map (cv h))
    rw [ih]
    rcases v with x | x | k | a <;> rfl
theorem sl_len {h : Nat → Nat} : ∀ (As : List AV), (lg_sl (As.map (cv h))).length = wds As
  | [] => rfl
  | v :: vs => by
    have ih := sl_len (h := h) vs
    show ((if (cv h v).category = 2 then [Slot.val (cv h v), Slot.second] else [Slot.val (cv h v)]) ++ lg_sl (vs.map (cv h))).length = (if cat2 v then 2 else 1) + wds vs
    rw [List.length_append, ih]
    rcases v with x | x | k | a <;> rfl
theorem con_of {y : MethodName} {ty : FieldType} {d : Nat} {As : List AV} {Ret : Int32 → Mu → Prop} (hy : plainName y.cls = true) (hown : y.cls = own) (hlen : wds As ≤ nL) (body : ∀ (X : CX) (g : GX), RI X g d ty Ret → WA X g own nL cc 0 (agL 0 As) [] mu) : Con y cc nL (some ty) d As mu Ret := by
  intro l D h cA sz t0 t1
  refine Met.ofW (cc := cc) (maxL := nL) (ret := some ty) hy rfl ?_
  intro p e s m args below meth c s₁ B hml hv
  obtain ⟨rfl, hsz, hP, hK, hinj, hnw, hSF⟩ := hv
  subst hsz
  have hts := atoms_spec (ws := Cond.code y cc nL (some ty) :: tb0) B.pre
  have ho : s.vm.findClass own = some m.cls := by rw [← hown]; exact findClass_of_methodNamed B.named
  have hl := lv_entry (As.map (cv h)) (n := nL) (by rw [sl_len]; exact hlen)
  rw [← agL_eq] at hl
  rw [lg_entry_eq]
  exact body (p, l, e, rm d, s, m, (As.map (cv h)).toArray, below, meth, c, _, 0, 0) (D, h, cA, AW h s.heap.size, t0, t1) ⟨rfl, B.returns, B.notSynchronized, Nat.le_refl _, Nat.le_refl _, Nat.le_refl _, Nat.le_refl _⟩ ⟨B.exec, B.bytes, hml, ho, fun w hw => hts w (List.mem_cons_of_mem _ hw), hnw, hK, ⟨hinj, fun k hk => Or.inl ⟨k, hk, rfl⟩⟩, fun q hq => Or.inr hq, hSF⟩ s.heap [] _ hP va_S.rf hl
theorem conV_of {y : MethodName} {d : Nat} {As : List AV} {Ret : Mu → Prop} (hy : plainName y.cls = true) (hown : y.cls = own) (hlen : wds As ≤ nL) (body : ∀ (X : CX) (g : GX), RV X g d Ret → WA X g own nL cc 0 (agL 0 As) [] mu) : ConV y cc nL d As mu Ret := by
  intro l D h cA sz t0 t1
  refine Met.ofW (cc := cc) (maxL := nL) (ret := none) hy rfl ?_
  intro p e s m args below meth c s₁ B hml hv
  obtain ⟨rfl, hsz, hP, hK, hinj, hnw, hSF⟩ := hv
  subst hsz
  have hts := atoms_spec (ws := Cond.code y cc nL none :: tb0) B.pre
  have ho : s.vm.findClass own = some m.cls := by rw [← hown]; exact findClass_of_methodNamed B.named
  have hl := lv_entry (As.map (cv h)) (n := nL) (by rw [sl_len]; exact hlen)
  rw [← agL_eq] at hl
  rw [lg_entry_eq]
  exact body (p, l, e, rm d, s, m, (As.map (cv h)).toArray, below, meth, c, _, 0, 0) (D, h, cA, AW h s.heap.size, t0, t1) ⟨rfl, B.returns, B.notSynchronized, Nat.le_refl _, Nat.le_refl _, Nat.le_refl _, Nat.le_refl _⟩ ⟨B.exec, B.bytes, hml, ho, fun w hw => hts w (List.mem_cons_of_mem _ hw), hnw, hK, ⟨hinj, fun k hk => Or.inl ⟨k, hk, rfl⟩⟩, fun q hq => Or.inr hq, hSF⟩ s.heap [] _ hP va_S.rf hl
/-- a call site: what its words say -/
def CS (y : MethodName) (yc : ByteArray) (n : Nat) (ret : Option FieldType) (np : Nat) : Prop :=
  (y.cls ≠ "java/lang/invoke/MethodHandle" ∧ y.cls ≠ "java/lang/invoke/VarHandle" ∧ (parseMethodDescriptor y.desc).map (fun d => d.parameters.length) = some np) ∧ Cond.code y yc n ret ∈ tb0 ∧ Cond.initialized y.cls ∈ tb0 ∧ n ≤ 21
theorem good1 {c0 : Cond} (h : c0 ∈ tb0) : GoodIn tb0 (c0 :: tb0) := fun w hw => by
  rcases List.mem_cons.mp hw with e | e
  · rw [e]; exact good0 h
  · exact good0 e
theorem blind {D : va_G} {h : Nat → Nat} {cA : Nat → ClassId} {sz t0 t1 : Nat} {av : List Value} : FrameBlind (va_Pc av (PreW D h cA mu sz t0 t1)) := fun a U f mk q => by
  obtain ⟨q0, q1, qP, qK, qi, qn, qS⟩ := q
  exact ⟨q0, q1, qP, va_K.moved (u := U) (U := U.calling f mk a) (Vm.Alike.refl U.vm) qK, qi, fun w hw => va_Nw.same (nest_on (List.mem_filter.mp hw).2) (u := U) (U := U.calling f mk a) rfl (qn w hw), qS.go (U := U.calling f mk a) (Vm.Alike.refl U.vm) (fun _ _ _ => rfl) (fun _ z => z)⟩
theorem preW_at {H : Heap} {locs : List Loc} {U : State} (F : Fx X g own nL cc) (hP : va_P (gD g) vwCl (wd (gh g) (gc g) mu) H) (hS : va_S (gA g) (xs X).heap H locs) (hU : U.heap = H) (hW : (xs X).WarmedH U.vm) : PreW (gD g) (gh g) (gc g) mu H.size (gt0 g) (gt1 g) U := by
  obtain ⟨hx, hb, hml, hown, hts, hnw, hK, hDD, hA, hSF⟩ := F
  refine ⟨by rw [hU], by rw [hU]; exact hP, va_K.moved hW.alike hK, hDD.1, nw_warm hW hnw, ?_⟩
  rw [hU]
  refine hSF.go hW.alike (fun a h1 h2 => hS.2.1 a h1 h2) (fun q hq => ?_)
  rcases hq with ⟨k, hk, rfl⟩ | hq
  · exact hDD.2 k hk
  · exact hA q (Nat.le_trans hS.1 hq)
theorem aw_in {H : Heap} {locs : List Loc} (F : Fx X g own nL cc) (hS : va_S (gA g) (xs X).heap H locs) : ∀ q, AW (gh g) H.size q → gA g q := fun q hq => by
  obtain ⟨hx, hb, hml, hown, hts, hnw, hK, hDD, hA, hSF⟩ := F
  rcases hq with ⟨k, hk, rfl⟩ | hq
  · exact hDD.2 k hk
  · exact hA q (Nat.le_trans hS.1 hq)
theorem st_rev {h : Nat → Nat} {As rest : List AV} : (As.reverse ++ rest).map (cv h) = (As.map (cv h)).reverse ++ rest.map (cv h) := by
  rw [List.map_append, List.map_reverse]
def CSV (own : String) (ix : Nat) (y : MethodName) : Prop := Cond.methodLink own ix y ∈ tb0 ∧ Cond.instanceMethod y ∈ tb0 ∧ Cond.selects y.cls y y ∈ tb0
theorem wsV_in {y : MethodName} {yc : ByteArray} {n np ix : Nat} {ret : Option FieldType} (c : CS y yc n ret np) (v : CSV own ix y) : GoodIn tb0 (wsV own ix y.cls y (Cond.code y yc n ret :: tb0)) := fun w hw => by
  unfold wsV at hw
  rcases List.mem_append.mp hw with e | e
  · rcases List.mem_cons.mp e with e | e
    · rw [e]; exact good0 v.1
    · rcases List.mem_cons.mp e with e | e
      · rw [e]; exact good0 v.2.1
      · rcases List.mem_cons.mp e with e | e
        · rw [e]; exact good0 v.2.2
        · rcases List.mem_cons.mp e with e | e
          · rw [e]; exact good0 c.2.2.1
          · cases e
  · exact good1 c.2.1 w e
theorem o_callV {y : MethodName} {yc : ByteArray} {n np ix d dd k ci : Nat} {ret : Option FieldType} {As rest : List AV} {Ret : Int32 → Mu → Prop} {q : vw_C} {fs : List (Option Nat)} (c : CS y yc n ret np) (v : CSV own ix y) (hM : Con y yc n ret d (vC k :: As) mu Ret) (hr : RM X dd) (hdd : d + 1 ≤ dd) (hd : decode cc pc = .ok (.invokevirtual ix, 3)) (hn : pc + 3 = pc') (hk : k < NC) (hs : sh k = .inl (ci, fs)) (hc : vwCl[ci]? = some q) (hcq : q.1 = y.cls) (hnp : As.length = np) (hst : st = As.reverse ++ vC k :: rest) (hw : wds rest ≤ 8)
    (kk : ∀ (r : Int32) (mu' : Mu), Ret r mu' → WA X g own nL cc pc' L (vI r :: rest) mu') : WA X g own nL cc pc L st mu := by
  subst hn
  subst hst
  intro F H locs ls hP hS hl
  obtain ⟨hx, hb, hml, hown, hts, hnw, hK, hDD, hA, hSF⟩ := id F
  obtain ⟨r1, r2, r3, r4⟩ := hr
  have c4 := c.2.2.2
  refine va_calli (va_runV (b := gh g k) (As := As.map (cv (gh g))) (rest := rest.map (cv (gh g))) ⟨hx, hb, hml, hown, hts⟩ (hM (xl X) (gD g) (gh g) (gc g) H.size (gt0 g) (gt1 g)) (cwV np hts (wsV_in c v) rfl rfl rfl ⟨rfl, c.1⟩ ⟨by show d + 1 ≤ _; omega, by show 8 + (n + 11) + 40 * d ≤ _; omega⟩) ⟨blind, by rw [← hcq]; exact va_recv hK hP hc (wd_ob hk hs), fun U hU hW => ⟨rfl, preW_at F hP hS hU hW⟩⟩ rfl (by rw [List.length_map]; exact hnp) hl.1 st_rev (by rw [wds_eq]; show 0 + _ ≤ 8; omega) hd ⟨r3, r4⟩) hS (fun q _ h => aw_in F hS q h) (aw_in F hS) (fun r u t H1 locs1 ht hvm hp hB hz1 hk1 hS1 => ?_)
  exact kk r u hp F H1 locs1 ls (by rw [← ht]; exact hB) hS1 hl
theorem o_callVV {y : MethodName} {yc : ByteArray} {n np ix d dd k ci : Nat} {As rest : List AV} {Ret : Mu → Prop} {q : vw_C} {fs : List (Option Nat)} (c : CS y yc n none np) (v : CSV own ix y) (hM : ConV y yc n d (vC k :: As) mu Ret) (hr : RM X dd) (hdd : d + 1 ≤ dd) (hd : decode cc pc = .ok (.invokevirtual ix, 3)) (hn : pc + 3 = pc') (hk : k < NC) (hs : sh k = .inl (ci, fs)) (hc : vwCl[ci]? = some q) (hcq : q.1 = y.cls) (hnp : As.length = np) (hst : st = As.reverse ++ vC k :: rest) (hw : wds rest ≤ 8)
    (kk : ∀ (mu' : Mu), Ret mu' → WA X g own nL cc pc' L rest mu') : WA X g own nL cc pc L st mu := by
  subst hn
  subst hst
  intro F H locs ls hP hS hl
  obtain ⟨hx, hb, hml, hown, hts, hnw, hK, hDD, hA, hSF⟩ := id F
  obtain ⟨r1, r2, r3, r4⟩ := hr
  have c4 := c.2.2.2
  refine va_callv (va_runV (b := gh g k) (As := As.map (cv (gh g))) (rest := rest.map (cv (gh g))) ⟨hx, hb, hml, hown, hts⟩ (hM (xl X) (gD g) (gh g) (gc g) H.size (gt0 g) (gt1 g)) (cwV np hts (wsV_in c v) rfl rfl rfl ⟨rfl, c.1⟩ ⟨by show d + 1 ≤ _; omega, by show 8 + (n + 11) + 40 * d ≤ _; omega⟩) ⟨blind, by rw [← hcq]; exact va_recv hK hP hc (wd_ob hk hs), fun U hU hW => ⟨rfl, preW_at F hP hS hU hW⟩⟩ rfl (by rw [List.length_map]; exact hnp) hl.1 st_rev (by rw [wds_eq]; show 0 + _ ≤ 8; omega) hd ⟨r3, r4⟩) hS (fun q _ h => aw_in F hS q h) (aw_in F hS) (fun u t H1 locs1 ht hvm hp hB hz1 hk1 hS1 => ?_)
  exact kk u hp F H1 locs1 ls (by rw [← ht]; exact hB) hS1 hl
def CSS (own : String) (ix : Nat) (y : MethodName) (nest : Bool) : Prop := Cond.static y ∈ tb0 ∧ (nest = false → Cond.methodLink own ix y ∈ tb0) ∧ (nest = true → ∃ host, Cond.methodLinkNest own ix y host ∈ nw0)
theorem wsS_in {y : MethodName} {yc : ByteArray} {n np ix : Nat} {ret : Option FieldType} (c : CS y yc n ret np) (v : CSS own ix y false) : GoodIn tb0 (va_wsS own ix y (Cond.code y yc n ret :: tb0)) := fun w hw => by
  unfold va_wsS at hw
  rcases List.mem_append.mp hw with e | e
  · rcases List.mem_cons.mp e with e | e
    · rw [e]; exact good0 (v.2.1 rfl)
    · rcases List.mem_cons.mp e with e | e
      · rw [e]; exact good0 v.1
      · rcases List.mem_cons.mp e with e | e
        · rw [e]; exact good0 c.2.2.1
        · cases e
  · exact good1 c.2.1 w e
theorem o_callS {y : MethodName} {yc : ByteArray} {n np ix d dd : Nat} {ret : Option FieldType} {As rest : List AV} {Ret : Int32 → Mu → Prop} {nest : Bool} (c : CS y yc n ret np) (v : CSS own ix y nest) (hM : Con y yc n ret d As mu Ret) (hr : RM X dd) (hdd : d + 1 ≤ dd) (hd : decode cc pc = .ok (.invokestatic ix, 3)) (hn : pc + 3 = pc') (hnp : As.length = np) (hst : st = As.reverse ++ rest) (hw : wds rest ≤ 8)
    (kk : ∀ (r : Int32) (mu' : Mu), Ret r mu' → WA X g own nL cc pc' L (vI r :: rest) mu') : WA X g own nL cc pc L st mu := by
  subst hn
  subst hst
  intro F H locs ls hP hS hl
  obtain ⟨hx, hb, hml, hown, hts, hnw, hK, hDD, hA, hSF⟩ := id F
  obtain ⟨r1, r2, r3, r4⟩ := hr
  have c4 := c.2.2.2
  cases nest with
  | false =>
    refine va_calli (va_runS (As := As.map (cv (gh g))) (rest := rest.map (cv (gh g))) ⟨hx, hb, hml, hown, hts⟩ (hM (xl X) (gD g) (gh g) (gc g) H.size (gt0 g) (gt1 g)) (va_cwS np hts (wsS_in c v) rfl rfl rfl c.1 ⟨by show d + 1 ≤ _; omega, by show 8 + (n + 11) + 40 * d ≤ _; omega⟩) ⟨blind, fun U hU hW => ⟨rfl, preW_at F hP hS hU hW⟩⟩ rfl (by rw [List.length_map]; exact hnp) hl.1 st_rev (by rw [wds_eq]; show 0 + _ ≤ 8; omega) hd ⟨r3, r4⟩) hS (fun q _ h => aw_in F hS q h) (aw_in F hS) (fun r u t H1 locs1 ht hvm hp hB hz1 hk1 hS1 => ?_)
    exact kk r u hp F H1 locs1 ls (by rw [← ht]; exact hB) hS1 hl
  | true =>
    obtain ⟨host, hh⟩ := v.2.2 rfl
    refine va_calli (va_runSN (host := host) (As := As.map (cv (gh g))) (rest := rest.map (cv (gh g))) ⟨hx, hb, hml, hown, hts⟩ (hM (xl X) (gD g) (gh g) (gc g) H.size (gt0 g) (gt1 g)) ⟨va_cnB np hts (good1 c.2.1) rfl rfl rfl (hnw _ hh) (hts _ c.2.2.1) c.1 ⟨by show d + 1 ≤ _; omega, by show 8 + (n + 11) + 40 * d ≤ _; omega⟩, hts _ v.1, trivial⟩ ⟨blind, fun U hU hW => ⟨rfl, preW_at F hP hS hU hW⟩⟩ rfl (by rw [List.length_map]; exact hnp) hl.1 st_rev (by rw [wds_eq]; show 0 + _ ≤ 8; omega) hd ⟨r3, r4⟩) hS (fun q _ h => aw_in F hS q h) (aw_in F hS) (fun r u t H1 locs1 ht hvm hp hB hz1 hk1 hS1 => ?_)
    exact kk r u hp F H1 locs1 ls (by rw [← ht]; exact hB) hS1 hl
theorem o_callSV {y : MethodName} {yc : ByteArray} {n np ix d dd : Nat} {As rest : List AV} {Ret : Mu → Prop} (c : CS y yc n none np) (v : CSS own ix y false) (hM : ConV y yc n d As mu Ret) (hr : RM X dd) (hdd : d + 1 ≤ dd) (hd : decode cc pc = .ok (.invokestatic ix, 3)) (hn : pc + 3 = pc') (hnp : As.length = np) (hst : st = As.reverse ++ rest) (hw : wds rest ≤ 8)
    (kk : ∀ (mu' : Mu), Ret mu' → WA X g own nL cc pc' L rest mu') : WA X g own nL cc pc L st mu := by
  subst hn
  subst hst
  intro F H locs ls hP hS hl
  obtain ⟨hx, hb, hml, hown, hts, hnw, hK, hDD, hA, hSF⟩ := id F
  obtain ⟨r1, r2, r3, r4⟩ := hr
  have c4 := c.2.2.2
  refine va_callv (va_runS (As := As.map (cv (gh g))) (rest := rest.map (cv (gh g))) ⟨hx, hb, hml, hown, hts⟩ (hM (xl X) (gD g) (gh g) (gc g) H.size (gt0 g) (gt1 g)) (va_cwS np hts (wsS_in c v) rfl rfl rfl c.1 ⟨by show d + 1 ≤ _; omega, by show 8 + (n + 11) + 40 * d ≤ _; omega⟩) ⟨blind, fun U hU hW => ⟨rfl, preW_at F hP hS hU hW⟩⟩ rfl (by rw [List.length_map]; exact hnp) hl.1 st_rev (by rw [wds_eq]; show 0 + _ ≤ 8; omega) hd ⟨r3, r4⟩) hS (fun q _ h => aw_in F hS q h) (aw_in F hS) (fun u t H1 locs1 ht hvm hp hB hz1 hk1 hS1 => ?_)
  exact kk u hp F H1 locs1 ls (by rw [← ht]; exact hB) hS1 hl
end ROWS
end
section
theorem mem_by {ws : List Cond} (ps : List Nat) (hp : ws = ps.filterMap (fun i => lw_tbl[i]?)) (h : ws.all goodWord = true) : ∀ w ∈ ws, w ∈ tb0 := by
  intro w hw
  have h1 := List.all_eq_true.mp h w hw
  rw [hp] at hw
  obtain ⟨i, -, hi⟩ := List.mem_filterMap.mp hw
  exact mem0 hi h1
theorem in_X0 : ∀ w ∈ u_ws RX0 TX0 5, w ∈ tb0 := mem_by [253, 255, 257, 259, 261] (by decide +kernel) (by decide +kernel)
theorem in_X1 : ∀ w ∈ u_ws RX1 TX1 9, w ∈ tb0 := mem_by [157, 159, 161, 163, 165, 167, 169, 171, 173] (by decide +kernel) (by decide +kernel)
theorem in_X2 : ∀ w ∈ u_ws RX2 TX2 1, w ∈ tb0 := mem_by [273] (by decide +kernel) (by decide +kernel)
theorem in_X3 : ∀ w ∈ u_ws RX3 TX3 6, w ∈ tb0 := mem_by [293, 295, 297, 299, 301, 303] (by decide +kernel) (by decide +kernel)
theorem in_X4 : ∀ w ∈ u_ws RX4 TX4 4, w ∈ tb0 := mem_by [121, 123, 125, 127] (by decide +kernel) (by decide +kernel)
theorem in_X5 : ∀ w ∈ u_ws RX5 TX5 3, w ∈ tb0 := mem_by [318, 320, 322] (by decide +kernel) (by decide +kernel)
theorem in_X6 : ∀ w ∈ u_ws RX6 TX6 3, w ∈ tb0 := mem_by [102, 104, 106] (by decide +kernel) (by decide +kernel)
theorem in_X7 : ∀ w ∈ u_ws RX7 TX7 17, w ∈ tb0 := mem_by [205, 207, 209, 211, 213, 215, 217, 219, 221, 223, 225, 227, 229, 231, 233, 235, 237] (by decide +kernel) (by decide +kernel)
theorem in_X8 : ∀ w ∈ u_ws RX8 TX8 8, w ∈ tb0 := mem_by [333, 335, 337, 339, 341, 343, 345, 347] (by decide +kernel) (by decide +kernel)
theorem in_X9 : ∀ w ∈ u_ws RX9 TX9 41, w ∈ tb0 := mem_by [849, 851, 853, 855, 857, 859, 861, 863, 865, 867, 869, 871, 873, 875, 877, 879, 881, 883, 885, 887, 889, 891, 893, 895, 897, 899, 901, 903, 905, 907, 909, 911, 913, 915, 917, 919, 921, 923, 925, 927, 929] (by decide +kernel) (by decide +kernel)
theorem cp_X0_3 : CLp TX0 tyX0 5 3 .int := ⟨tyX0_ok, nmX0, rfl, by decide +kernel⟩
theorem cp_X0_4 : CLp TX0 tyX0 5 4 .int := ⟨tyX0_ok, nmX0, rfl, by decide +kernel⟩
theorem cp_X1_1 : CLp TX1 tyX1 9 1 .int := ⟨tyX1_ok, nmX1, rfl, by decide +kernel⟩
theorem cp_X1_2 : CLp TX1 tyX1 9 2 .int := ⟨tyX1_ok, nmX1, rfl, by decide +kernel⟩
theorem cp_X1_3 : CLp TX1 tyX1 9 3 .int := ⟨tyX1_ok, nmX1, rfl, by decide +kernel⟩
theorem cp_X1_4 : CLp TX1 tyX1 9 4 .int := ⟨tyX1_ok, nmX1, rfl, by decide +kernel⟩
theorem cp_X1_5 : CLp TX1 tyX1 9 5 .int := ⟨tyX1_ok, nmX1, rfl, by decide +kernel⟩
theorem cp_X1_6 : CLp TX1 tyX1 9 6 .int := ⟨tyX1_ok, nmX1, rfl, by decide +kernel⟩
theorem cp_X1_7 : CLp TX1 tyX1 9 7 .int := ⟨tyX1_ok, nmX1, rfl, by decide +kernel⟩
theorem cp_X1_8 : CLp TX1 tyX1 9 8 .int := ⟨tyX1_ok, nmX1, rfl, by decide +kernel⟩
theorem cp_X3_1 : CLp TX3 tyX3 6 1 .int := ⟨tyX3_ok, nmX3, rfl, by decide +kernel⟩
theorem cp_X3_2 : CLp TX3 tyX3 6 2 .int := ⟨tyX3_ok, nmX3, rfl, by decide +kernel⟩
theorem cp_X3_3 : CLp TX3 tyX3 6 3 .int := ⟨tyX3_ok, nmX3, rfl, by decide +kernel⟩
theorem cp_X6_2 : CLp TX6 tyX6 3 2 .int := ⟨tyX6_ok, nmX6, rfl, by decide +kernel⟩
theorem cp_X7_2 : CLp TX7 tyX7 17 2 .int := ⟨tyX7_ok, nmX7, rfl, by decide +kernel⟩
theorem cp_X7_3 : CLp TX7 tyX7 17 3 .boolean := ⟨tyX7_ok, nmX7, rfl, by decide +kernel⟩
theorem cp_X7_4 : CLp TX7 tyX7 17 4 .int := ⟨tyX7_ok, nmX7, rfl, by decide +kernel⟩
theorem cp_X7_5 : CLp TX7 tyX7 17 5 .int := ⟨tyX7_ok, nmX7, rfl, by decide +kernel⟩
theorem cp_X7_6 : CLp TX7 tyX7 17 6 .int := ⟨tyX7_ok, nmX7, rfl, by decide +kernel⟩
theorem cp_X7_7 : CLp TX7 tyX7 17 7 .int := ⟨tyX7_ok, nmX7, rfl, by decide +kernel⟩
theorem cp_X7_8 : CLp TX7 tyX7 17 8 .int := ⟨tyX7_ok, nmX7, rfl, by decide +kernel⟩
theorem cp_X7_9 : CLp TX7 tyX7 17 9 .int := ⟨tyX7_ok, nmX7, rfl, by decide +kernel⟩
theorem cp_X7_10 : CLp TX7 tyX7 17 10 .int := ⟨tyX7_ok, nmX7, rfl, by decide +kernel⟩
theorem cp_X7_11 : CLp TX7 tyX7 17 11 .int := ⟨tyX7_ok, nmX7, rfl, by decide +kernel⟩
theorem cp_X7_12 : CLp TX7 tyX7 17 12 .boolean := ⟨tyX7_ok, nmX7, rfl, by decide +kernel⟩
theorem cp_X7_13 : CLp TX7 tyX7 17 13 .int := ⟨tyX7_ok, nmX7, rfl, by decide +kernel⟩
theorem cp_X7_14 : CLp TX7 tyX7 17 14 .int := ⟨tyX7_ok, nmX7, rfl, by decide +kernel⟩
theorem cp_X7_15 : CLp TX7 tyX7 17 15 .int := ⟨tyX7_ok, nmX7, rfl, by decide +kernel⟩
theorem cp_X7_16 : CLp TX7 tyX7 17 16 .int := ⟨tyX7_ok, nmX7, rfl, by decide +kernel⟩
theorem cp_X8_2 : CLp TX8 tyX8 8 2 .boolean := ⟨tyX8_ok, nmX8, rfl, by decide +kernel⟩
theorem cp_X9_1 : CLp TX9 tyX9 41 1 .int := ⟨tyX9_ok, nmX9, rfl, by decide +kernel⟩
theorem cp_X9_3 : CLp TX9 tyX9 41 3 .int := ⟨tyX9_ok, nmX9, rfl, by decide +kernel⟩
theorem cp_X9_5 : CLp TX9 tyX9 41 5 .int := ⟨tyX9_ok, nmX9, rfl, by decide +kernel⟩
theorem cp_X9_8 : CLp TX9 tyX9 41 8 .int := ⟨tyX9_ok, nmX9, rfl, by decide +kernel⟩
theorem cp_X9_9 : CLp TX9 tyX9 41 9 .int := ⟨tyX9_ok, nmX9, rfl, by decide +kernel⟩
theorem cp_X9_10 : CLp TX9 tyX9 41 10 .boolean := ⟨tyX9_ok, nmX9, rfl, by decide +kernel⟩
theorem cp_X9_15 : CLp TX9 tyX9 41 15 .int := ⟨tyX9_ok, nmX9, rfl, by decide +kernel⟩
theorem cp_X9_16 : CLp TX9 tyX9 41 16 .int := ⟨tyX9_ok, nmX9, rfl, by decide +kernel⟩
theorem cp_X9_17 : CLp TX9 tyX9 41 17 .boolean := ⟨tyX9_ok, nmX9, rfl, by decide +kernel⟩
theorem cp_X9_18 : CLp TX9 tyX9 41 18 .int := ⟨tyX9_ok, nmX9, rfl, by decide +kernel⟩
theorem cp_X9_19 : CLp TX9 tyX9 41 19 .int := ⟨tyX9_ok, nmX9, rfl, by decide +kernel⟩
theorem cp_X9_20 : CLp TX9 tyX9 41 20 .int := ⟨tyX9_ok, nmX9, rfl, by decide +kernel⟩
theorem cp_X9_21 : CLp TX9 tyX9 41 21 .int := ⟨tyX9_ok, nmX9, rfl, by decide +kernel⟩
theorem cp_X9_22 : CLp TX9 tyX9 41 22 .int := ⟨tyX9_ok, nmX9, rfl, by decide +kernel⟩
theorem cp_X9_23 : CLp TX9 tyX9 41 23 .int := ⟨tyX9_ok, nmX9, rfl, by decide +kernel⟩
theorem cp_X9_24 : CLp TX9 tyX9 41 24 .int := ⟨tyX9_ok, nmX9, rfl, by decide +kernel⟩
theorem cp_X9_25 : CLp TX9 tyX9 41 25 .int := ⟨tyX9_ok, nmX9, rfl, by decide +kernel⟩
theorem cp_X9_26 : CLp TX9 tyX9 41 26 .int := ⟨tyX9_ok, nmX9, rfl, by decide +kernel⟩
theorem cp_X9_27 : CLp TX9 tyX9 41 27 .int := ⟨tyX9_ok, nmX9, rfl, by decide +kernel⟩
theorem cp_X9_28 : CLp TX9 tyX9 41 28 .int := ⟨tyX9_ok, nmX9, rfl, by decide +kernel⟩
theorem cp_X9_29 : CLp TX9 tyX9 41 29 .int := ⟨tyX9_ok, nmX9, rfl, by decide +kernel⟩
theorem cp_X9_30 : CLp TX9 tyX9 41 30 .int := ⟨tyX9_ok, nmX9, rfl, by decide +kernel⟩
theorem cp_X9_36 : CLp TX9 tyX9 41 36 .boolean := ⟨tyX9_ok, nmX9, rfl, by decide +kernel⟩
theorem cs_X0_init : CS yX0_init cX0_init 1 none 0 := ⟨⟨by decide +kernel, by decide +kernel, by decide +kernel⟩, mem0 (i := 244) (by decide +kernel) rfl, mem0 (i := 51) (by decide +kernel) rfl, by decide⟩
theorem cs_X0_cellFrom : CS yX0_cellFrom cX0_cellFrom 7 (some .int) 2 := ⟨⟨by decide +kernel, by decide +kernel, by decide +kernel⟩, mem0 (i := 611) (by decide +kernel) rfl, mem0 (i := 51) (by decide +kernel) rfl, by decide⟩
theorem cs_X0_isWhole : CS yX0_isWhole cX0_isWhole 7 (some .boolean) 4 := ⟨⟨by decide +kernel, by decide +kernel, by decide +kernel⟩, mem0 (i := 633) (by decide +kernel) rfl, mem0 (i := 51) (by decide +kernel) rfl, by decide⟩
theorem cs_X0_join : CS yX0_join cX0_join 4 (some .int) 3 := ⟨⟨by decide +kernel, by decide +kernel, by decide +kernel⟩, mem0 (i := 615) (by decide +kernel) rfl, mem0 (i := 51) (by decide +kernel) rfl, by decide⟩
theorem cs_X0_middleOf : CS yX0_middleOf cX0_middleOf 5 (some .int) 1 := ⟨⟨by decide +kernel, by decide +kernel, by decide +kernel⟩, mem0 (i := 625) (by decide +kernel) rfl, mem0 (i := 51) (by decide +kernel) rfl, by decide⟩
theorem cs_X0_pullsInto : CS yX0_pullsInto cX0_pullsInto 4 (some .int) 1 := ⟨⟨by decide +kernel, by decide +kernel, by decide +kernel⟩, mem0 (i := 603) (by decide +kernel) rfl, mem0 (i := 51) (by decide +kernel) rfl, by decide⟩
theorem cs_X0_ringsRound : CS yX0_ringsRound cX0_ringsRound 4 (some .int) 2 := ⟨⟨by decide +kernel, by decide +kernel, by decide +kernel⟩, mem0 (i := 629) (by decide +kernel) rfl, mem0 (i := 51) (by decide +kernel) rfl, by decide⟩
theorem cs_X0_seekCells : CS yX0_seekCells cX0_seekCells 4 none 1 := ⟨⟨by decide +kernel, by decide +kernel, by decide +kernel⟩, mem0 (i := 607) (by decide +kernel) rfl, mem0 (i := 51) (by decide +kernel) rfl, by decide⟩
theorem cs_X0_tryAll : CS yX0_tryAll cX0_tryAll 4 none 2 := ⟨⟨by decide +kernel, by decide +kernel, by decide +kernel⟩, mem0 (i := 592) (by decide +kernel) rfl, mem0 (i := 51) (by decide +kernel) rfl, by decide⟩
theorem cs_X0_uOf : CS yX0_uOf cX0_uOf 1 (some .int) 1 := ⟨⟨by decide +kernel, by decide +kernel, by decide +kernel⟩, mem0 (i := 595) (by decide +kernel) rfl, mem0 (i := 51) (by decide +kernel) rfl, by decide⟩
theorem cs_X0_vOf : CS yX0_vOf cX0_vOf 1 (some .int) 1 := ⟨⟨by decide +kernel, by decide +kernel, by decide +kernel⟩, mem0 (i := 598) (by decide +kernel) rfl, mem0 (i := 51) (by decide +kernel) rfl, by decide⟩
theorem cs_X1_init : CS yX1_init cX1_init 2 none 1 := ⟨⟨by decide +kernel, by decide +kernel, by decide +kernel⟩, mem0 (i := 140) (by decide +kernel) rfl, mem0 (i := 50) (by decide +kernel) rfl, by decide⟩
theorem cs_X1_begin : CS yX1_begin cX1_begin 3 none 2 := ⟨⟨by decide +kernel, by decide +kernel, by decide +kernel⟩, mem0 (i := 514) (by decide +kernel) rfl, mem0 (i := 50) (by decide +kernel) rfl, by decide⟩
theorem cs_X1_go : CS yX1_go cX1_go 2 none 1 := ⟨⟨by decide +kernel, by decide +kernel, by decide +kernel⟩, mem0 (i := 533) (by decide +kernel) rfl, mem0 (i := 50) (by decide +kernel) rfl, by decide⟩
theorem cs_X2_init : CS yX2_init cX2_init 1 none 0 := ⟨⟨by decide +kernel, by decide +kernel, by decide +kernel⟩, mem0 (i := 269) (by decide +kernel) rfl, mem0 (i := 52) (by decide +kernel) rfl, by decide⟩
theorem cs_X2_gainBy : CS yX2_gainBy cX2_gainBy 6 (some .int) 4 := ⟨⟨by decide +kernel, by decide +kernel, by decide +kernel⟩, mem0 (i := 679) (by decide +kernel) rfl, mem0 (i := 52) (by decide +kernel) rfl, by decide⟩
theorem cs_X2_mostFrom : CS yX2_mostFrom cX2_mostFrom 6 (some .int) 3 := ⟨⟨by decide +kernel, by decide +kernel, by decide +kernel⟩, mem0 (i := 674) (by decide +kernel) rfl, mem0 (i := 52) (by decide +kernel) rfl, by decide⟩
theorem cs_X2_mostIn : CS yX2_mostIn cX2_mostIn 2 (some .int) 1 := ⟨⟨by decide +kernel, by decide +kernel, by decide +kernel⟩, mem0 (i := 684) (by decide +kernel) rfl, mem0 (i := 52) (by decide +kernel) rfl, by decide⟩
theorem cs_X2_mostTimes : CS yX2_mostTimes cX2_mostTimes 5 (some .int) 3 := ⟨⟨by decide +kernel, by decide +kernel, by decide +kernel⟩, mem0 (i := 692) (by decide +kernel) rfl, mem0 (i := 52) (by decide +kernel) rfl, by decide⟩
theorem cs_X2_timesOf : CS yX2_timesOf cX2_timesOf 7 (some .int) 3 := ⟨⟨by decide +kernel, by decide +kernel, by decide +kernel⟩, mem0 (i := 688) (by decide +kernel) rfl, mem0 (i := 52) (by decide +kernel) rfl, by decide⟩
theorem cs_X2_weigh : CS yX2_weigh cX2_weigh 5 none 2 := ⟨⟨by decide +kernel, by decide +kernel, by decide +kernel⟩, mem0 (i := 670) (by decide +kernel) rfl, mem0 (i := 52) (by decide +kernel) rfl, by decide⟩
theorem cs_X3_init : CS yX3_init cX3_init 1 none 0 := ⟨⟨by decide +kernel, by decide +kernel, by decide +kernel⟩, mem0 (i := 280) (by decide +kernel) rfl, mem0 (i := 53) (by decide +kernel) rfl, by decide⟩
theorem cs_X3_append : CS yX3_append cX3_append 2 none 1 := ⟨⟨by decide +kernel, by decide +kernel, by decide +kernel⟩, mem0 (i := 428) (by decide +kernel) rfl, mem0 (i := 53) (by decide +kernel) rfl, by decide⟩
theorem cs_X3_begin : CS yX3_begin cX3_begin 1 none 0 := ⟨⟨by decide +kernel, by decide +kernel, by decide +kernel⟩, mem0 (i := 440) (by decide +kernel) rfl, mem0 (i := 53) (by decide +kernel) rfl, by decide⟩
theorem cs_X3_digit : CS yX3_digit cX3_digit 2 (some .int) 0 := ⟨⟨by decide +kernel, by decide +kernel, by decide +kernel⟩, mem0 (i := 461) (by decide +kernel) rfl, mem0 (i := 53) (by decide +kernel) rfl, by decide⟩
theorem cs_X3_faultAt : CS yX3_faultAt cX3_faultAt 2 none 1 := ⟨⟨by decide +kernel, by decide +kernel, by decide +kernel⟩, mem0 (i := 466) (by decide +kernel) rfl, mem0 (i := 53) (by decide +kernel) rfl, by decide⟩
theorem cs_X3_finish : CS yX3_finish cX3_finish 2 (some .int) 1 := ⟨⟨by decide +kernel, by decide +kernel, by decide +kernel⟩, mem0 (i := 478) (by decide +kernel) rfl, mem0 (i := 53) (by decide +kernel) rfl, by decide⟩
theorem cs_X3_hasRoom : CS yX3_hasRoom cX3_hasRoom 2 (some .boolean) 1 := ⟨⟨by decide +kernel, by decide +kernel, by decide +kernel⟩, mem0 (i := 424) (by decide +kernel) rfl, mem0 (i := 53) (by decide +kernel) rfl, by decide⟩
theorem cs_X3_next : CS yX3_next cX3_next 1 (some .int) 0 := ⟨⟨by decide +kernel, by decide +kernel, by decide +kernel⟩, mem0 (i := 449) (by decide +kernel) rfl, mem0 (i := 53) (by decide +kernel) rfl, by decide⟩
theorem cs_X3_number : CS yX3_number cX3_number 5 (some .int) 2 := ⟨⟨by decide +kernel, by decide +kernel, by decide +kernel⟩, mem0 (i := 470) (by decide +kernel) rfl, mem0 (i := 53) (by decide +kernel) rfl, by decide⟩
theorem cs_X3_readCup : CS yX3_readCup cX3_readCup 6 none 0 := ⟨⟨by decide +kernel, by decide +kernel, by decide +kernel⟩, mem0 (i := 453) (by decide +kernel) rfl, mem0 (i := 53) (by decide +kernel) rfl, by decide⟩
theorem cs_X3_readCups : CS yX3_readCups cX3_readCups 2 (some .int) 0 := ⟨⟨by decide +kernel, by decide +kernel, by decide +kernel⟩, mem0 (i := 436) (by decide +kernel) rfl, mem0 (i := 53) (by decide +kernel) rfl, by decide⟩
theorem cs_X3_readPart : CS yX3_readPart cX3_readPart 4 none 0 := ⟨⟨by decide +kernel, by decide +kernel, by decide +kernel⟩, mem0 (i := 496) (by decide +kernel) rfl, mem0 (i := 53) (by decide +kernel) rfl, by decide⟩
theorem cs_X3_readParts : CS yX3_readParts cX3_readParts 2 (some .int) 0 := ⟨⟨by decide +kernel, by decide +kernel, by decide +kernel⟩, mem0 (i := 492) (by decide +kernel) rfl, mem0 (i := 53) (by decide +kernel) rfl, by decide⟩
theorem cs_X3_signedDigit : CS yX3_signedDigit cX3_signedDigit 1 (some .int) 0 := ⟨⟨by decide +kernel, by decide +kernel, by decide +kernel⟩, mem0 (i := 457) (by decide +kernel) rfl, mem0 (i := 53) (by decide +kernel) rfl, by decide⟩
theorem cs_X3_takes : CS yX3_takes cX3_takes 2 (some .boolean) 1 := ⟨⟨by decide +kernel, by decide +kernel, by decide +kernel⟩, mem0 (i := 445) (by decide +kernel) rfl, mem0 (i := 53) (by decide +kernel) rfl, by decide⟩
theorem cs_X4_init : CS yX4_init cX4_init 1 none 0 := ⟨⟨by decide +kernel, by decide +kernel, by decide +kernel⟩, mem0 (i := 71) (by decide +kernel) rfl, mem0 (i := 46) (by decide +kernel) rfl, by decide⟩
theorem cs_X4_hasNoPart : CS yX4_hasNoPart cX4_hasNoPart 1 (some .boolean) 0 := ⟨⟨by decide +kernel, by decide +kernel, by decide +kernel⟩, mem0 (i := 579) (by decide +kernel) rfl, mem0 (i := 46) (by decide +kernel) rfl, by decide⟩
theorem cs_X4_pullSteps : CS yX4_pullSteps cX4_pullSteps 3 (some .int) 0 := ⟨⟨by decide +kernel, by decide +kernel, by decide +kernel⟩, mem0 (i := 570) (by decide +kernel) rfl, mem0 (i := 46) (by decide +kernel) rfl, by decide⟩
theorem cs_X4_takeAll : CS yX4_takeAll cX4_takeAll 3 none 1 := ⟨⟨by decide +kernel, by decide +kernel, by decide +kernel⟩, mem0 (i := 753) (by decide +kernel) rfl, mem0 (i := 46) (by decide +kernel) rfl, by decide⟩
theorem cs_X5_init : CS yX5_init cX5_init 2 none 0 := ⟨⟨by decide +kernel, by decide +kernel, by decide +kernel⟩, mem0 (i := 310) (by decide +kernel) rfl, mem0 (i := 54) (by decide +kernel) rfl, by decide⟩
theorem cs_X5_cutTo : CS yX5_cutTo cX5_cutTo 2 (some .int) 2 := ⟨⟨by decide +kernel, by decide +kernel, by decide +kernel⟩, mem0 (i := 769) (by decide +kernel) rfl, mem0 (i := 54) (by decide +kernel) rfl, by decide⟩
theorem cs_X5_fits : CS yX5_fits cX5_fits 4 (some .boolean) 3 := ⟨⟨by decide +kernel, by decide +kernel, by decide +kernel⟩, mem0 (i := 735) (by decide +kernel) rfl, mem0 (i := 54) (by decide +kernel) rfl, by decide⟩
theorem cs_X5_get : CS yX5_get cX5_get 3 (some .int) 2 := ⟨⟨by decide +kernel, by decide +kernel, by decide +kernel⟩, mem0 (i := 745) (by decide +kernel) rfl, mem0 (i := 54) (by decide +kernel) rfl, by decide⟩
theorem cs_X5_isNothing : CS yX5_isNothing cX5_isNothing 2 (some .boolean) 1 := ⟨⟨by decide +kernel, by decide +kernel, by decide +kernel⟩, mem0 (i := 731) (by decide +kernel) rfl, mem0 (i := 54) (by decide +kernel) rfl, by decide⟩
theorem cs_X5_letGo : CS yX5_letGo cX5_letGo 3 (some .int) 1 := ⟨⟨by decide +kernel, by decide +kernel, by decide +kernel⟩, mem0 (i := 789) (by decide +kernel) rfl, mem0 (i := 54) (by decide +kernel) rfl, by decide⟩
theorem cs_X5_makeRow : CS yX5_makeRow cX5_makeRow 4 none 3 := ⟨⟨by decide +kernel, by decide +kernel, by decide +kernel⟩, mem0 (i := 777) (by decide +kernel) rfl, mem0 (i := 54) (by decide +kernel) rfl, by decide⟩
theorem cs_X5_put : CS yX5_put cX5_put 4 none 3 := ⟨⟨by decide +kernel, by decide +kernel, by decide +kernel⟩, mem0 (i := 766) (by decide +kernel) rfl, mem0 (i := 54) (by decide +kernel) rfl, by decide⟩
theorem cs_X5_refusalOf : CS yX5_refusalOf cX5_refusalOf 5 (some .int) 4 := ⟨⟨by decide +kernel, by decide +kernel, by decide +kernel⟩, mem0 (i := 727) (by decide +kernel) rfl, mem0 (i := 54) (by decide +kernel) rfl, by decide⟩
theorem cs_X6_init : CS yX6_init cX6_init 3 none 2 := ⟨⟨by decide +kernel, by decide +kernel, by decide +kernel⟩, mem0 (i := 86) (by decide +kernel) rfl, mem0 (i := 47) (by decide +kernel) rfl, by decide⟩
theorem cs_X6_empty : CS yX6_empty cX6_empty 2 (some .int) 0 := ⟨⟨by decide +kernel, by decide +kernel, by decide +kernel⟩, mem0 (i := 413) (by decide +kernel) rfl, mem0 (i := 47) (by decide +kernel) rfl, by decide⟩
theorem cs_X6_get : CS yX6_get cX6_get 4 (some .int) 2 := ⟨⟨by decide +kernel, by decide +kernel, by decide +kernel⟩, mem0 (i := 394) (by decide +kernel) rfl, mem0 (i := 47) (by decide +kernel) rfl, by decide⟩
theorem cs_X6_grow : CS yX6_grow cX6_grow 1 (some .int) 0 := ⟨⟨by decide +kernel, by decide +kernel, by decide +kernel⟩, mem0 (i := 375) (by decide +kernel) rfl, mem0 (i := 47) (by decide +kernel) rfl, by decide⟩
theorem cs_X6_has : CS yX6_has cX6_has 2 (some .boolean) 1 := ⟨⟨by decide +kernel, by decide +kernel, by decide +kernel⟩, mem0 (i := 384) (by decide +kernel) rfl, mem0 (i := 47) (by decide +kernel) rfl, by decide⟩
theorem cs_X6_isFull : CS yX6_isFull cX6_isFull 1 (some .boolean) 0 := ⟨⟨by decide +kernel, by decide +kernel, by decide +kernel⟩, mem0 (i := 368) (by decide +kernel) rfl, mem0 (i := 47) (by decide +kernel) rfl, by decide⟩
theorem cs_X6_put : CS yX6_put cX6_put 4 none 3 := ⟨⟨by decide +kernel, by decide +kernel, by decide +kernel⟩, mem0 (i := 380) (by decide +kernel) rfl, mem0 (i := 47) (by decide +kernel) rfl, by decide⟩
theorem cs_X6_takeAll : CS yX6_takeAll cX6_takeAll 4 none 1 := ⟨⟨by decide +kernel, by decide +kernel, by decide +kernel⟩, mem0 (i := 482) (by decide +kernel) rfl, mem0 (i := 47) (by decide +kernel) rfl, by decide⟩
theorem cs_X7_init : CS yX7_init cX7_init 2 none 1 := ⟨⟨by decide +kernel, by decide +kernel, by decide +kernel⟩, mem0 (i := 134) (by decide +kernel) rfl, mem0 (i := 49) (by decide +kernel) rfl, by decide⟩
theorem cs_X7_begin : CS yX7_begin cX7_begin 4 none 3 := ⟨⟨by decide +kernel, by decide +kernel, by decide +kernel⟩, mem0 (i := 510) (by decide +kernel) rfl, mem0 (i := 49) (by decide +kernel) rfl, by decide⟩
theorem cs_X7_beginAsTold : CS yX7_beginAsTold cX7_beginAsTold 1 none 0 := ⟨⟨by decide +kernel, by decide +kernel, by decide +kernel⟩, mem0 (i := 505) (by decide +kernel) rfl, mem0 (i := 49) (by decide +kernel) rfl, by decide⟩
theorem cs_X7_comeDownOn : CS yX7_comeDownOn cX7_comeDownOn 6 none 1 := ⟨⟨by decide +kernel, by decide +kernel, by decide +kernel⟩, mem0 (i := 558) (by decide +kernel) rfl, mem0 (i := 49) (by decide +kernel) rfl, by decide⟩
theorem cs_X7_endBy : CS yX7_endBy cX7_endBy 4 (some .int) 3 := ⟨⟨by decide +kernel, by decide +kernel, by decide +kernel⟩, mem0 (i := 583) (by decide +kernel) rfl, mem0 (i := 49) (by decide +kernel) rfl, by decide⟩
theorem cs_X7_endLate : CS yX7_endLate cX7_endLate 5 (some .int) 4 := ⟨⟨by decide +kernel, by decide +kernel, by decide +kernel⟩, mem0 (i := 645) (by decide +kernel) rfl, mem0 (i := 49) (by decide +kernel) rfl, by decide⟩
theorem cs_X7_goOn : CS yX7_goOn cX7_goOn 3 none 1 := ⟨⟨by decide +kernel, by decide +kernel, by decide +kernel⟩, mem0 (i := 518) (by decide +kernel) rfl, mem0 (i := 49) (by decide +kernel) rfl, by decide⟩
theorem cs_X7_goStep : CS yX7_goStep cX7_goStep 3 none 0 := ⟨⟨by decide +kernel, by decide +kernel, by decide +kernel⟩, mem0 (i := 522) (by decide +kernel) rfl, mem0 (i := 49) (by decide +kernel) rfl, by decide⟩
theorem cs_X7_holdByCord : CS yX7_holdByCord cX7_holdByCord 7 none 0 := ⟨⟨by decide +kernel, by decide +kernel, by decide +kernel⟩, mem0 (i := 538) (by decide +kernel) rfl, mem0 (i := 49) (by decide +kernel) rfl, by decide⟩
theorem cs_X7_isSoft : CS yX7_isSoft cX7_isSoft 2 (some .boolean) 1 := ⟨⟨by decide +kernel, by decide +kernel, by decide +kernel⟩, mem0 (i := 716) (by decide +kernel) rfl, mem0 (i := 49) (by decide +kernel) rfl, by decide⟩
theorem cs_X7_lateSide : CS yX7_lateSide cX7_lateSide 1 (some .int) 0 := ⟨⟨by decide +kernel, by decide +kernel, by decide +kernel⟩, mem0 (i := 526) (by decide +kernel) rfl, mem0 (i := 49) (by decide +kernel) rfl, by decide⟩
theorem cs_X7_meetNothing : CS yX7_meetNothing cX7_meetNothing 1 none 0 := ⟨⟨by decide +kernel, by decide +kernel, by decide +kernel⟩, mem0 (i := 712) (by decide +kernel) rfl, mem0 (i := 49) (by decide +kernel) rfl, by decide⟩
theorem cs_X7_metCup : CS yX7_metCup cX7_metCup 8 (some .int) 1 := ⟨⟨by decide +kernel, by decide +kernel, by decide +kernel⟩, mem0 (i := 551) (by decide +kernel) rfl, mem0 (i := 49) (by decide +kernel) rfl, by decide⟩
theorem cs_X7_oddsBy : CS yX7_oddsBy cX7_oddsBy 8 (some .int) 2 := ⟨⟨by decide +kernel, by decide +kernel, by decide +kernel⟩, mem0 (i := 653) (by decide +kernel) rfl, mem0 (i := 49) (by decide +kernel) rfl, by decide⟩
theorem cs_X7_wholeRoot : CS yX7_wholeRoot cX7_wholeRoot 3 (some .int) 1 := ⟨⟨by decide +kernel, by decide +kernel, by decide +kernel⟩, mem0 (i := 545) (by decide +kernel) rfl, mem0 (i := 49) (by decide +kernel) rfl, by decide⟩
theorem cs_X8_init : CS yX8_init cX8_init 2 none 0 := ⟨⟨by decide +kernel, by decide +kernel, by decide +kernel⟩, mem0 (i := 63) (by decide +kernel) rfl, mem0 (i := 45) (by decide +kernel) rfl, by decide⟩
theorem cs_X8_addCup : CS yX8_addCup cX8_addCup 7 (some .int) 6 := ⟨⟨by decide +kernel, by decide +kernel, by decide +kernel⟩, mem0 (i := 371) (by decide +kernel) rfl, mem0 (i := 45) (by decide +kernel) rfl, by decide⟩
theorem cs_X8_addPart : CS yX8_addPart cX8_addPart 5 (some .int) 4 := ⟨⟨by decide +kernel, by decide +kernel, by decide +kernel⟩, mem0 (i := 401) (by decide +kernel) rfl, mem0 (i := 45) (by decide +kernel) rfl, by decide⟩
theorem cs_X8_at : CS yX8_at cX8_at 3 (some .int) 2 := ⟨⟨by decide +kernel, by decide +kernel, by decide +kernel⟩, mem0 (i := 501) (by decide +kernel) rfl, mem0 (i := 45) (by decide +kernel) rfl, by decide⟩
theorem cs_X8_byteOf : CS yX8_byteOf cX8_byteOf 3 (some .int) 2 := ⟨⟨by decide +kernel, by decide +kernel, by decide +kernel⟩, mem0 (i := 420) (by decide +kernel) rfl, mem0 (i := 45) (by decide +kernel) rfl, by decide⟩
theorem cs_X8_cells : CS yX8_cells cX8_cells 3 (some .int) 2 := ⟨⟨by decide +kernel, by decide +kernel, by decide +kernel⟩, mem0 (i := 588) (by decide +kernel) rfl, mem0 (i := 45) (by decide +kernel) rfl, by decide⟩
theorem cs_X8_clear : CS yX8_clear cX8_clear 1 (some .int) 0 := ⟨⟨by decide +kernel, by decide +kernel, by decide +kernel⟩, mem0 (i := 700) (by decide +kernel) rfl, mem0 (i := 45) (by decide +kernel) rfl, by decide⟩
theorem cs_X8_copy : CS yX8_copy cX8_copy 6 (some .int) 5 := ⟨⟨by decide +kernel, by decide +kernel, by decide +kernel⟩, mem0 (i := 797) (by decide +kernel) rfl, mem0 (i := 45) (by decide +kernel) rfl, by decide⟩
theorem cs_X8_cord : CS yX8_cord cX8_cord 7 (some .int) 2 := ⟨⟨by decide +kernel, by decide +kernel, by decide +kernel⟩, mem0 (i := 704) (by decide +kernel) rfl, mem0 (i := 45) (by decide +kernel) rfl, by decide⟩
theorem cs_X8_count : CS yX8_count cX8_count 2 (some .int) 1 := ⟨⟨by decide +kernel, by decide +kernel, by decide +kernel⟩, mem0 (i := 566) (by decide +kernel) rfl, mem0 (i := 45) (by decide +kernel) rfl, by decide⟩
theorem cs_X8_cup : CS yX8_cup cX8_cup 7 (some .int) 5 := ⟨⟨by decide +kernel, by decide +kernel, by decide +kernel⟩, mem0 (i := 364) (by decide +kernel) rfl, mem0 (i := 45) (by decide +kernel) rfl, by decide⟩
theorem cs_X8_down : CS yX8_down cX8_down 4 (some .int) 2 := ⟨⟨by decide +kernel, by decide +kernel, by decide +kernel⟩, mem0 (i := 708) (by decide +kernel) rfl, mem0 (i := 45) (by decide +kernel) rfl, by decide⟩
theorem cs_X8_drop : CS yX8_drop cX8_drop 2 (some .int) 1 := ⟨⟨by decide +kernel, by decide +kernel, by decide +kernel⟩, mem0 (i := 784) (by decide +kernel) rfl, mem0 (i := 45) (by decide +kernel) rfl, by decide⟩
theorem cs_X8_end : CS yX8_end cX8_end 3 (some .int) 1 := ⟨⟨by decide +kernel, by decide +kernel, by decide +kernel⟩, mem0 (i := 562) (by decide +kernel) rfl, mem0 (i := 45) (by decide +kernel) rfl, by decide⟩
theorem cs_X8_ends : CS yX8_ends cX8_ends 4 (some .int) 2 := ⟨⟨by decide +kernel, by decide +kernel, by decide +kernel⟩, mem0 (i := 575) (by decide +kernel) rfl, mem0 (i := 45) (by decide +kernel) rfl, by decide⟩
theorem cs_X8_film : CS yX8_film cX8_film 7 (some .int) 4 := ⟨⟨by decide +kernel, by decide +kernel, by decide +kernel⟩, mem0 (i := 762) (by decide +kernel) rfl, mem0 (i := 45) (by decide +kernel) rfl, by decide⟩
theorem cs_X8_filmed : CS yX8_filmed cX8_filmed 10 (some .int) 5 := ⟨⟨by decide +kernel, by decide +kernel, by decide +kernel⟩, mem0 (i := 720) (by decide +kernel) rfl, mem0 (i := 45) (by decide +kernel) rfl, by decide⟩
theorem cs_X8_image : CS yX8_image cX8_image 1 (some .int) 0 := ⟨⟨by decide +kernel, by decide +kernel, by decide +kernel⟩, mem0 (i := 749) (by decide +kernel) rfl, mem0 (i := 45) (by decide +kernel) rfl, by decide⟩
theorem cs_X8_isIn : CS yX8_isIn cX8_isIn 3 (some .boolean) 3 := ⟨⟨by decide +kernel, by decide +kernel, by decide +kernel⟩, mem0 (i := 356) (by decide +kernel) rfl, mem0 (i := 45) (by decide +kernel) rfl, by decide⟩
theorem cs_X8_isRow : CS yX8_isRow cX8_isRow 2 (some .boolean) 2 := ⟨⟨by decide +kernel, by decide +kernel, by decide +kernel⟩, mem0 (i := 723) (by decide +kernel) rfl, mem0 (i := 45) (by decide +kernel) rfl, by decide⟩
theorem cs_X8_isShown : CS yX8_isShown cX8_isShown 7 (some .boolean) 4 := ⟨⟨by decide +kernel, by decide +kernel, by decide +kernel⟩, mem0 (i := 740) (by decide +kernel) rfl, mem0 (i := 45) (by decide +kernel) rfl, by decide⟩
theorem cs_X8_item : CS yX8_item cX8_item 6 (some .int) 4 := ⟨⟨by decide +kernel, by decide +kernel, by decide +kernel⟩, mem0 (i := 793) (by decide +kernel) rfl, mem0 (i := 45) (by decide +kernel) rfl, by decide⟩
theorem cs_X8_mended : CS yX8_mended cX8_mended 8 (some .int) 2 := ⟨⟨by decide +kernel, by decide +kernel, by decide +kernel⟩, mem0 (i := 641) (by decide +kernel) rfl, mem0 (i := 45) (by decide +kernel) rfl, by decide⟩
theorem cs_X8_middle : CS yX8_middle cX8_middle 4 (some .int) 2 := ⟨⟨by decide +kernel, by decide +kernel, by decide +kernel⟩, mem0 (i := 620) (by decide +kernel) rfl, mem0 (i := 45) (by decide +kernel) rfl, by decide⟩
theorem cs_X8_most : CS yX8_most cX8_most 3 (some .int) 2 := ⟨⟨by decide +kernel, by decide +kernel, by decide +kernel⟩, mem0 (i := 666) (by decide +kernel) rfl, mem0 (i := 45) (by decide +kernel) rfl, by decide⟩
theorem cs_X8_odds : CS yX8_odds cX8_odds 2 (some .int) 1 := ⟨⟨by decide +kernel, by decide +kernel, by decide +kernel⟩, mem0 (i := 649) (by decide +kernel) rfl, mem0 (i := 45) (by decide +kernel) rfl, by decide⟩
theorem cs_X8_part : CS yX8_part cX8_part 5 (some .int) 3 := ⟨⟨by decide +kernel, by decide +kernel, by decide +kernel⟩, mem0 (i := 398) (by decide +kernel) rfl, mem0 (i := 45) (by decide +kernel) rfl, by decide⟩
theorem cs_X8_pull : CS yX8_pull cX8_pull 3 (some .int) 2 := ⟨⟨by decide +kernel, by decide +kernel, by decide +kernel⟩, mem0 (i := 405) (by decide +kernel) rfl, mem0 (i := 45) (by decide +kernel) rfl, by decide⟩
theorem cs_X8_pulls : CS yX8_pulls cX8_pulls 2 (some .int) 0 := ⟨⟨by decide +kernel, by decide +kernel, by decide +kernel⟩, mem0 (i := 488) (by decide +kernel) rfl, mem0 (i := 45) (by decide +kernel) rfl, by decide⟩
theorem cs_X8_restore : CS yX8_restore cX8_restore 1 (some .int) 0 := ⟨⟨by decide +kernel, by decide +kernel, by decide +kernel⟩, mem0 (i := 758) (by decide +kernel) rfl, mem0 (i := 45) (by decide +kernel) rfl, by decide⟩
theorem cs_X8_row : CS yX8_row cX8_row 5 (some .int) 2 := ⟨⟨by decide +kernel, by decide +kernel, by decide +kernel⟩, mem0 (i := 696) (by decide +kernel) rfl, mem0 (i := 45) (by decide +kernel) rfl, by decide⟩
theorem cs_X8_set : CS yX8_set cX8_set 4 (some .int) 2 := ⟨⟨by decide +kernel, by decide +kernel, by decide +kernel⟩, mem0 (i := 353) (by decide +kernel) rfl, mem0 (i := 45) (by decide +kernel) rfl, by decide⟩
theorem cs_X8_sheet : CS yX8_sheet cX8_sheet 4 (some .int) 3 := ⟨⟨by decide +kernel, by decide +kernel, by decide +kernel⟩, mem0 (i := 773) (by decide +kernel) rfl, mem0 (i := 45) (by decide +kernel) rfl, by decide⟩
theorem cs_X8_still : CS yX8_still cX8_still 1 (some .int) 0 := ⟨⟨by decide +kernel, by decide +kernel, by decide +kernel⟩, mem0 (i := 409) (by decide +kernel) rfl, mem0 (i := 45) (by decide +kernel) rfl, by decide⟩
theorem cs_X8_told : CS yX8_told cX8_told 3 (some .int) 2 := ⟨⟨by decide +kernel, by decide +kernel, by decide +kernel⟩, mem0 (i := 388) (by decide +kernel) rfl, mem0 (i := 45) (by decide +kernel) rfl, by decide⟩
theorem cs_X8_toy : CS yX8_toy cX8_toy 2 (some .int) 0 := ⟨⟨by decide +kernel, by decide +kernel, by decide +kernel⟩, mem0 (i := 432) (by decide +kernel) rfl, mem0 (i := 45) (by decide +kernel) rfl, by decide⟩
theorem cs_X8_trick : CS yX8_trick cX8_trick 7 (some .int) 4 := ⟨⟨by decide +kernel, by decide +kernel, by decide +kernel⟩, mem0 (i := 662) (by decide +kernel) rfl, mem0 (i := 45) (by decide +kernel) rfl, by decide⟩
theorem cs_X8_type : CS yX8_type cX8_type 5 (some .int) 2 := ⟨⟨by decide +kernel, by decide +kernel, by decide +kernel⟩, mem0 (i := 417) (by decide +kernel) rfl, mem0 (i := 45) (by decide +kernel) rfl, by decide⟩
theorem cs_X8_which : CS yX8_which cX8_which 5 (some .int) 0 := ⟨⟨by decide +kernel, by decide +kernel, by decide +kernel⟩, mem0 (i := 658) (by decide +kernel) rfl, mem0 (i := 45) (by decide +kernel) rfl, by decide⟩
theorem cs_X9_init : CS yX9_init cX9_init 2 none 0 := ⟨⟨by decide +kernel, by decide +kernel, by decide +kernel⟩, mem0 (i := 806) (by decide +kernel) rfl, mem0 (i := 55) (by decide +kernel) rfl, by decide⟩
theorem cs_X9_at : CS yX9_at cX9_at 3 (some .int) 2 := ⟨⟨by decide +kernel, by decide +kernel, by decide +kernel⟩, mem0 (i := 1037) (by decide +kernel) rfl, mem0 (i := 55) (by decide +kernel) rfl, by decide⟩
theorem cs_X9_cast : CS yX9_cast cX9_cast 2 (some .int) 2 := ⟨⟨by decide +kernel, by decide +kernel, by decide +kernel⟩, mem0 (i := 1175) (by decide +kernel) rfl, mem0 (i := 55) (by decide +kernel) rfl, by decide⟩
theorem cs_X9_cells : CS yX9_cells cX9_cells 9 (some .int) 2 := ⟨⟨by decide +kernel, by decide +kernel, by decide +kernel⟩, mem0 (i := 1077) (by decide +kernel) rfl, mem0 (i := 55) (by decide +kernel) rfl, by decide⟩
theorem cs_X9_clear : CS yX9_clear cX9_clear 2 (some .int) 0 := ⟨⟨by decide +kernel, by decide +kernel, by decide +kernel⟩, mem0 (i := 1130) (by decide +kernel) rfl, mem0 (i := 55) (by decide +kernel) rfl, by decide⟩
theorem cs_X9_copy : CS yX9_copy cX9_copy 7 (some .int) 5 := ⟨⟨by decide +kernel, by decide +kernel, by decide +kernel⟩, mem0 (i := 1191) (by decide +kernel) rfl, mem0 (i := 55) (by decide +kernel) rfl, by decide⟩
theorem cs_X9_cord : CS yX9_cord cX9_cord 8 (some .int) 2 := ⟨⟨by decide +kernel, by decide +kernel, by decide +kernel⟩, mem0 (i := 1134) (by decide +kernel) rfl, mem0 (i := 55) (by decide +kernel) rfl, by decide⟩
theorem cs_X9_count : CS yX9_count cX9_count 4 (some .int) 1 := ⟨⟨by decide +kernel, by decide +kernel, by decide +kernel⟩, mem0 (i := 1033) (by decide +kernel) rfl, mem0 (i := 55) (by decide +kernel) rfl, by decide⟩
theorem cs_X9_cup : CS yX9_cup cX9_cup 6 (some .int) 5 := ⟨⟨by decide +kernel, by decide +kernel, by decide +kernel⟩, mem0 (i := 947) (by decide +kernel) rfl, mem0 (i := 55) (by decide +kernel) rfl, by decide⟩
theorem cs_X9_cupClause : CS yX9_cupClause cX9_cupClause 2 none 1 := ⟨⟨by decide +kernel, by decide +kernel, by decide +kernel⟩, mem0 (i := 999) (by decide +kernel) rfl, mem0 (i := 55) (by decide +kernel) rfl, by decide⟩
theorem cs_X9_cupIs : CS yX9_cupIs cX9_cupIs 7 none 6 := ⟨⟨by decide +kernel, by decide +kernel, by decide +kernel⟩, mem0 (i := 954) (by decide +kernel) rfl, mem0 (i := 55) (by decide +kernel) rfl, by decide⟩
theorem cs_X9_digit : CS yX9_digit cX9_digit 2 (some .int) 0 := ⟨⟨by decide +kernel, by decide +kernel, by decide +kernel⟩, mem0 (i := 1015) (by decide +kernel) rfl, mem0 (i := 55) (by decide +kernel) rfl, by decide⟩
theorem cs_X9_down : CS yX9_down cX9_down 5 (some .int) 2 := ⟨⟨by decide +kernel, by decide +kernel, by decide +kernel⟩, mem0 (i := 1138) (by decide +kernel) rfl, mem0 (i := 55) (by decide +kernel) rfl, by decide⟩
theorem cs_X9_drop : CS yX9_drop cX9_drop 2 (some .int) 1 := ⟨⟨by decide +kernel, by decide +kernel, by decide +kernel⟩, mem0 (i := 1183) (by decide +kernel) rfl, mem0 (i := 55) (by decide +kernel) rfl, by decide⟩
theorem cs_X9_end : CS yX9_end cX9_end 2 (some .int) 1 := ⟨⟨by decide +kernel, by decide +kernel, by decide +kernel⟩, mem0 (i := 1063) (by decide +kernel) rfl, mem0 (i := 55) (by decide +kernel) rfl, by decide⟩
theorem cs_X9_endBy : CS yX9_endBy cX9_endBy 5 (some .int) 2 := ⟨⟨by decide +kernel, by decide +kernel, by decide +kernel⟩, mem0 (i := 1073) (by decide +kernel) rfl, mem0 (i := 55) (by decide +kernel) rfl, by decide⟩
theorem cs_X9_ends : CS yX9_ends cX9_ends 3 (some .int) 2 := ⟨⟨by decide +kernel, by decide +kernel, by decide +kernel⟩, mem0 (i := 1068) (by decide +kernel) rfl, mem0 (i := 55) (by decide +kernel) rfl, by decide⟩
theorem cs_X9_film : CS yX9_film cX9_film 7 (some .int) 4 := ⟨⟨by decide +kernel, by decide +kernel, by decide +kernel⟩, mem0 (i := 1172) (by decide +kernel) rfl, mem0 (i := 55) (by decide +kernel) rfl, by decide⟩
theorem cs_X9_filmed : CS yX9_filmed cX9_filmed 12 (some .int) 5 := ⟨⟨by decide +kernel, by decide +kernel, by decide +kernel⟩, mem0 (i := 1142) (by decide +kernel) rfl, mem0 (i := 55) (by decide +kernel) rfl, by decide⟩
theorem cs_X9_finds : CS yX9_finds cX9_finds 5 (some .int) 4 := ⟨⟨by decide +kernel, by decide +kernel, by decide +kernel⟩, mem0 (i := 1153) (by decide +kernel) rfl, mem0 (i := 55) (by decide +kernel) rfl, by decide⟩
theorem cs_X9_gives : CS yX9_gives cX9_gives 4 (some .int) 3 := ⟨⟨by decide +kernel, by decide +kernel, by decide +kernel⟩, mem0 (i := 1168) (by decide +kernel) rfl, mem0 (i := 55) (by decide +kernel) rfl, by decide⟩
theorem cs_X9_grid : CS yX9_grid cX9_grid 2 none 0 := ⟨⟨by decide +kernel, by decide +kernel, by decide +kernel⟩, mem0 (i := 1081) (by decide +kernel) rfl, mem0 (i := 55) (by decide +kernel) rfl, by decide⟩
theorem cs_X9_groups : CS yX9_groups cX9_groups 5 none 1 := ⟨⟨by decide +kernel, by decide +kernel, by decide +kernel⟩, mem0 (i := 1085) (by decide +kernel) rfl, mem0 (i := 55) (by decide +kernel) rfl, by decide⟩
theorem cs_X9_has : CS yX9_has cX9_has 3 (some .boolean) 1 := ⟨⟨by decide +kernel, by decide +kernel, by decide +kernel⟩, mem0 (i := 1007) (by decide +kernel) rfl, mem0 (i := 55) (by decide +kernel) rfl, by decide⟩
theorem cs_X9_here : CS yX9_here cX9_here 1 (some .int) 0 := ⟨⟨by decide +kernel, by decide +kernel, by decide +kernel⟩, mem0 (i := 1011) (by decide +kernel) rfl, mem0 (i := 55) (by decide +kernel) rfl, by decide⟩
theorem cs_X9_image : CS yX9_image cX9_image 2 (some .int) 0 := ⟨⟨by decide +kernel, by decide +kernel, by decide +kernel⟩, mem0 (i := 1158) (by decide +kernel) rfl, mem0 (i := 55) (by decide +kernel) rfl, by decide⟩
theorem cs_X9_in : CS yX9_in cX9_in 6 (some .boolean) 3 := ⟨⟨by decide +kernel, by decide +kernel, by decide +kernel⟩, mem0 (i := 939) (by decide +kernel) rfl, mem0 (i := 55) (by decide +kernel) rfl, by decide⟩
theorem cs_X9_isCup : CS yX9_isCup cX9_isCup 2 (some .boolean) 1 := ⟨⟨by decide +kernel, by decide +kernel, by decide +kernel⟩, mem0 (i := 962) (by decide +kernel) rfl, mem0 (i := 55) (by decide +kernel) rfl, by decide⟩
theorem cs_X9_isLane : CS yX9_isLane cX9_isLane 1 (some .boolean) 1 := ⟨⟨by decide +kernel, by decide +kernel, by decide +kernel⟩, mem0 (i := 1148) (by decide +kernel) rfl, mem0 (i := 55) (by decide +kernel) rfl, by decide⟩
theorem cs_X9_isRing : CS yX9_isRing cX9_isRing 8 (some .boolean) 4 := ⟨⟨by decide +kernel, by decide +kernel, by decide +kernel⟩, mem0 (i := 1094) (by decide +kernel) rfl, mem0 (i := 55) (by decide +kernel) rfl, by decide⟩
theorem cs_X9_isSheet : CS yX9_isSheet cX9_isSheet 1 (some .boolean) 1 := ⟨⟨by decide +kernel, by decide +kernel, by decide +kernel⟩, mem0 (i := 1145) (by decide +kernel) rfl, mem0 (i := 55) (by decide +kernel) rfl, by decide⟩
theorem cs_X9_item : CS yX9_item cX9_item 6 (some .int) 4 := ⟨⟨by decide +kernel, by decide +kernel, by decide +kernel⟩, mem0 (i := 1187) (by decide +kernel) rfl, mem0 (i := 55) (by decide +kernel) rfl, by decide⟩
theorem cs_X9_lays : CS yX9_lays cX9_lays 4 none 0 := ⟨⟨by decide +kernel, by decide +kernel, by decide +kernel⟩, mem0 (i := 1045) (by decide +kernel) rfl, mem0 (i := 55) (by decide +kernel) rfl, by decide⟩
theorem cs_X9_meets : CS yX9_meets cX9_meets 9 (some .boolean) 3 := ⟨⟨by decide +kernel, by decide +kernel, by decide +kernel⟩, mem0 (i := 1056) (by decide +kernel) rfl, mem0 (i := 55) (by decide +kernel) rfl, by decide⟩
theorem cs_X9_mended : CS yX9_mended cX9_mended 5 (some .int) 2 := ⟨⟨by decide +kernel, by decide +kernel, by decide +kernel⟩, mem0 (i := 1099) (by decide +kernel) rfl, mem0 (i := 55) (by decide +kernel) rfl, by decide⟩
theorem cs_X9_middle : CS yX9_middle cX9_middle 7 (some .int) 2 := ⟨⟨by decide +kernel, by decide +kernel, by decide +kernel⟩, mem0 (i := 1089) (by decide +kernel) rfl, mem0 (i := 55) (by decide +kernel) rfl, by decide⟩
theorem cs_X9_most : CS yX9_most cX9_most 9 (some .int) 2 := ⟨⟨by decide +kernel, by decide +kernel, by decide +kernel⟩, mem0 (i := 1120) (by decide +kernel) rfl, mem0 (i := 55) (by decide +kernel) rfl, by decide⟩
theorem cs_X9_number : CS yX9_number cX9_number 5 (some .int) 2 := ⟨⟨by decide +kernel, by decide +kernel, by decide +kernel⟩, mem0 (i := 1021) (by decide +kernel) rfl, mem0 (i := 55) (by decide +kernel) rfl, by decide⟩
theorem cs_X9_odds : CS yX9_odds cX9_odds 2 (some .int) 1 := ⟨⟨by decide +kernel, by decide +kernel, by decide +kernel⟩, mem0 (i := 1103) (by decide +kernel) rfl, mem0 (i := 55) (by decide +kernel) rfl, by decide⟩
theorem cs_X9_oddsOf : CS yX9_oddsOf cX9_oddsOf 5 (some .int) 1 := ⟨⟨by decide +kernel, by decide +kernel, by decide +kernel⟩, mem0 (i := 1107) (by decide +kernel) rfl, mem0 (i := 55) (by decide +kernel) rfl, by decide⟩
theorem cs_X9_part : CS yX9_part cX9_part 4 (some .int) 3 := ⟨⟨by decide +kernel, by decide +kernel, by decide +kernel⟩, mem0 (i := 967) (by decide +kernel) rfl, mem0 (i := 55) (by decide +kernel) rfl, by decide⟩
theorem cs_X9_partClause : CS yX9_partClause cX9_partClause 2 none 1 := ⟨⟨by decide +kernel, by decide +kernel, by decide +kernel⟩, mem0 (i := 1025) (by decide +kernel) rfl, mem0 (i := 55) (by decide +kernel) rfl, by decide⟩
theorem cs_X9_partIs : CS yX9_partIs cX9_partIs 5 none 4 := ⟨⟨by decide +kernel, by decide +kernel, by decide +kernel⟩, mem0 (i := 971) (by decide +kernel) rfl, mem0 (i := 55) (by decide +kernel) rfl, by decide⟩
theorem cs_X9_pull : CS yX9_pull cX9_pull 3 (some .int) 2 := ⟨⟨by decide +kernel, by decide +kernel, by decide +kernel⟩, mem0 (i := 975) (by decide +kernel) rfl, mem0 (i := 55) (by decide +kernel) rfl, by decide⟩
theorem cs_X9_pulls : CS yX9_pulls cX9_pulls 3 (some .int) 0 := ⟨⟨by decide +kernel, by decide +kernel, by decide +kernel⟩, mem0 (i := 1029) (by decide +kernel) rfl, mem0 (i := 55) (by decide +kernel) rfl, by decide⟩
theorem cs_X9_readAll : CS yX9_readAll cX9_readAll 4 (some .int) 1 := ⟨⟨by decide +kernel, by decide +kernel, by decide +kernel⟩, mem0 (i := 995) (by decide +kernel) rfl, mem0 (i := 55) (by decide +kernel) rfl, by decide⟩
theorem cs_X9_restore : CS yX9_restore cX9_restore 2 (some .int) 0 := ⟨⟨by decide +kernel, by decide +kernel, by decide +kernel⟩, mem0 (i := 1165) (by decide +kernel) rfl, mem0 (i := 55) (by decide +kernel) rfl, by decide⟩
theorem cs_X9_root : CS yX9_root cX9_root 2 (some .int) 1 := ⟨⟨by decide +kernel, by decide +kernel, by decide +kernel⟩, mem0 (i := 1052) (by decide +kernel) rfl, mem0 (i := 55) (by decide +kernel) rfl, by decide⟩
theorem cs_X9_row : CS yX9_row cX9_row 5 (some .int) 2 := ⟨⟨by decide +kernel, by decide +kernel, by decide +kernel⟩, mem0 (i := 1126) (by decide +kernel) rfl, mem0 (i := 55) (by decide +kernel) rfl, by decide⟩
theorem cs_X9_saves : CS yX9_saves cX9_saves 4 (some .int) 3 := ⟨⟨by decide +kernel, by decide +kernel, by decide +kernel⟩, mem0 (i := 1161) (by decide +kernel) rfl, mem0 (i := 55) (by decide +kernel) rfl, by decide⟩
theorem cs_X9_set : CS yX9_set cX9_set 4 (some .int) 2 := ⟨⟨by decide +kernel, by decide +kernel, by decide +kernel⟩, mem0 (i := 935) (by decide +kernel) rfl, mem0 (i := 55) (by decide +kernel) rfl, by decide⟩
theorem cs_X9_sheet : CS yX9_sheet cX9_sheet 5 (some .int) 3 := ⟨⟨by decide +kernel, by decide +kernel, by decide +kernel⟩, mem0 (i := 1179) (by decide +kernel) rfl, mem0 (i := 55) (by decide +kernel) rfl, by decide⟩
theorem cs_X9_signed : CS yX9_signed cX9_signed 3 (some .int) 0 := ⟨⟨by decide +kernel, by decide +kernel, by decide +kernel⟩, mem0 (i := 1003) (by decide +kernel) rfl, mem0 (i := 55) (by decide +kernel) rfl, by decide⟩
theorem cs_X9_size : CS yX9_size cX9_size 1 (some .int) 1 := ⟨⟨by decide +kernel, by decide +kernel, by decide +kernel⟩, mem0 (i := 1059) (by decide +kernel) rfl, mem0 (i := 55) (by decide +kernel) rfl, by decide⟩
theorem cs_X9_still : CS yX9_still cX9_still 2 (some .int) 0 := ⟨⟨by decide +kernel, by decide +kernel, by decide +kernel⟩, mem0 (i := 979) (by decide +kernel) rfl, mem0 (i := 55) (by decide +kernel) rfl, by decide⟩
theorem cs_X9_swings : CS yX9_swings cX9_swings 7 none 1 := ⟨⟨by decide +kernel, by decide +kernel, by decide +kernel⟩, mem0 (i := 1049) (by decide +kernel) rfl, mem0 (i := 55) (by decide +kernel) rfl, by decide⟩
theorem cs_X9_told : CS yX9_told cX9_told 3 (some .int) 2 := ⟨⟨by decide +kernel, by decide +kernel, by decide +kernel⟩, mem0 (i := 958) (by decide +kernel) rfl, mem0 (i := 55) (by decide +kernel) rfl, by decide⟩
theorem cs_X9_toy : CS yX9_toy cX9_toy 3 (some .int) 0 := ⟨⟨by decide +kernel, by decide +kernel, by decide +kernel⟩, mem0 (i := 991) (by decide +kernel) rfl, mem0 (i := 55) (by decide +kernel) rfl, by decide⟩
theorem cs_X9_trick : CS yX9_trick cX9_trick 5 (some .int) 4 := ⟨⟨by decide +kernel, by decide +kernel, by decide +kernel⟩, mem0 (i := 1115) (by decide +kernel) rfl, mem0 (i := 55) (by decide +kernel) rfl, by decide⟩
theorem cs_X9_tries : CS yX9_tries cX9_tries 5 none 0 := ⟨⟨by decide +kernel, by decide +kernel, by decide +kernel⟩, mem0 (i := 1041) (by decide +kernel) rfl, mem0 (i := 55) (by decide +kernel) rfl, by decide⟩
theorem cs_X9_type : CS yX9_type cX9_type 5 (some .int) 2 := ⟨⟨by decide +kernel, by decide +kernel, by decide +kernel⟩, mem0 (i := 983) (by decide +kernel) rfl, mem0 (i := 55) (by decide +kernel) rfl, by decide⟩
theorem cs_X9_which : CS yX9_which cX9_which 5 (some .int) 0 := ⟨⟨by decide +kernel, by decide +kernel, by decide +kernel⟩, mem0 (i := 1111) (by decide +kernel) rfl, mem0 (i := 55) (by decide +kernel) rfl, by decide⟩
theorem cs_J6_compare_7cf53 : CS yJ6_compare_7cf53 cJ6_compare_7cf53 2 (some .int) 2 := ⟨⟨by decide +kernel, by decide +kernel, by decide +kernel⟩, mem0 (i := 529) (by decide +kernel) rfl, mem0 (i := 56) (by decide +kernel) rfl, by decide⟩
theorem cs_J9_abs_0f7a4 : CS yJ9_abs_0f7a4 cJ9_abs_0f7a4 1 (some .int) 1 := ⟨⟨by decide +kernel, by decide +kernel, by decide +kernel⟩, mem0 (i := 554) (by decide +kernel) rfl, mem0 (i := 48) (by decide +kernel) rfl, by decide⟩
theorem cs_J9_floorMod_7cf53 : CS yJ9_floorMod_7cf53 cJ9_floorMod_7cf53 3 (some .int) 2 := ⟨⟨by decide +kernel, by decide +kernel, by decide +kernel⟩, mem0 (i := 541) (by decide +kernel) rfl, mem0 (i := 48) (by decide +kernel) rfl, by decide⟩
theorem cs_J9_max_7cf53 : CS yJ9_max_7cf53 cJ9_max_7cf53 2 (some .int) 2 := ⟨⟨by decide +kernel, by decide +kernel, by decide +kernel⟩, mem0 (i := 90) (by decide +kernel) rfl, mem0 (i := 48) (by decide +kernel) rfl, by decide⟩
theorem cs_J9_min_7cf53 : CS yJ9_min_7cf53 cJ9_min_7cf53 2 (some .int) 2 := ⟨⟨by decide +kernel, by decide +kernel, by decide +kernel⟩, mem0 (i := 473) (by decide +kernel) rfl, mem0 (i := 48) (by decide +kernel) rfl, by decide⟩
theorem cs_J7_fill_53178 : CS yJ7_fill_53178 cJ7_fill_53178 4 none 2 := ⟨⟨by decide +kernel, by decide +kernel, by decide +kernel⟩, mem0 (i := 780) (by decide +kernel) rfl, mem0 (i := 57) (by decide +kernel) rfl, by decide⟩
theorem cl_X0_13 : CLk RX0 RX0 TX0 5 0 1 13 false := ⟨rfl, in_X0, by decide, rfl, fun _ => mem0 (i := 247) (by decide +kernel) rfl, (by intro h; cases h)⟩
theorem cl_X0_17 : CLk RX0 RX0 TX0 5 0 2 17 false := ⟨rfl, in_X0, by decide, rfl, fun _ => mem0 (i := 248) (by decide +kernel) rfl, (by intro h; cases h)⟩
theorem cl_X0_33 : CLk RX0 RX0 TX0 5 0 3 33 false := ⟨rfl, in_X0, by decide, rfl, fun _ => mem0 (i := 249) (by decide +kernel) rfl, (by intro h; cases h)⟩
theorem cl_X0_37 : CLk RX0 RX0 TX0 5 0 4 37 false := ⟨rfl, in_X0, by decide, rfl, fun _ => mem0 (i := 251) (by decide +kernel) rfl, (by intro h; cases h)⟩
theorem cl_X0_9 : CLk RX0 RX0 TX0 5 0 0 9 false := ⟨rfl, in_X0, by decide, rfl, fun _ => mem0 (i := 246) (by decide +kernel) rfl, (by intro h; cases h)⟩
theorem cl_X1_15 : CLk RX1 RX1 TX1 9 1 1 15 false := ⟨rfl, in_X1, by decide, rfl, fun _ => mem0 (i := 143) (by decide +kernel) rfl, (by intro h; cases h)⟩
theorem cl_X1_19 : CLk RX1 RX1 TX1 9 1 2 19 false := ⟨rfl, in_X1, by decide, rfl, fun _ => mem0 (i := 144) (by decide +kernel) rfl, (by intro h; cases h)⟩
theorem cl_X1_22 : CLk RX1 RX1 TX1 9 1 3 22 false := ⟨rfl, in_X1, by decide, rfl, fun _ => mem0 (i := 145) (by decide +kernel) rfl, (by intro h; cases h)⟩
theorem cl_X1_25 : CLk RX1 RX1 TX1 9 1 4 25 false := ⟨rfl, in_X1, by decide, rfl, fun _ => mem0 (i := 146) (by decide +kernel) rfl, (by intro h; cases h)⟩
theorem cl_X1_28 : CLk RX1 RX1 TX1 9 1 5 28 false := ⟨rfl, in_X1, by decide, rfl, fun _ => mem0 (i := 147) (by decide +kernel) rfl, (by intro h; cases h)⟩
theorem cl_X1_31 : CLk RX1 RX1 TX1 9 1 6 31 false := ⟨rfl, in_X1, by decide, rfl, fun _ => mem0 (i := 149) (by decide +kernel) rfl, (by intro h; cases h)⟩
theorem cl_X1_34 : CLk RX1 RX1 TX1 9 1 7 34 false := ⟨rfl, in_X1, by decide, rfl, fun _ => mem0 (i := 151) (by decide +kernel) rfl, (by intro h; cases h)⟩
theorem cl_X1_37 : CLk RX1 RX1 TX1 9 1 8 37 false := ⟨rfl, in_X1, by decide, rfl, fun _ => mem0 (i := 154) (by decide +kernel) rfl, (by intro h; cases h)⟩
theorem cl_X1_9 : CLk RX1 RX1 TX1 9 1 0 9 false := ⟨rfl, in_X1, by decide, rfl, fun _ => mem0 (i := 142) (by decide +kernel) rfl, (by intro h; cases h)⟩
theorem cl_X2_11 : CLk RX2 RX2 TX2 1 2 0 11 false := ⟨rfl, in_X2, by decide, rfl, fun _ => mem0 (i := 272) (by decide +kernel) rfl, (by intro h; cases h)⟩
theorem cl_X3_20 : CLk RX3 RX3 TX3 6 3 4 20 false := ⟨rfl, in_X3, by decide, rfl, fun _ => mem0 (i := 289) (by decide +kernel) rfl, (by intro h; cases h)⟩
theorem cl_X3_24 : CLk RX3 RX3 TX3 6 3 5 24 false := ⟨rfl, in_X3, by decide, rfl, fun _ => mem0 (i := 291) (by decide +kernel) rfl, (by intro h; cases h)⟩
theorem cl_X3_27 : CLk RX3 RX3 TX3 6 3 1 27 false := ⟨rfl, in_X3, by decide, rfl, fun _ => mem0 (i := 285) (by decide +kernel) rfl, (by intro h; cases h)⟩
theorem cl_X3_53 : CLk RX3 RX3 TX3 6 3 2 53 false := ⟨rfl, in_X3, by decide, rfl, fun _ => mem0 (i := 287) (by decide +kernel) rfl, (by intro h; cases h)⟩
theorem cl_X3_56 : CLk RX3 RX3 TX3 6 3 3 56 false := ⟨rfl, in_X3, by decide, rfl, fun _ => mem0 (i := 288) (by decide +kernel) rfl, (by intro h; cases h)⟩
theorem cl_X3_9 : CLk RX3 RX3 TX3 6 3 0 9 false := ⟨rfl, in_X3, by decide, rfl, fun _ => mem0 (i := 284) (by decide +kernel) rfl, (by intro h; cases h)⟩
theorem cl_X4_18 : CLk RX4 RX4 TX4 4 4 0 18 false := ⟨rfl, in_X4, by decide, rfl, fun _ => mem0 (i := 110) (by decide +kernel) rfl, (by intro h; cases h)⟩
theorem cl_X4_28 : CLk RX4 RX4 TX4 4 4 1 28 false := ⟨rfl, in_X4, by decide, rfl, fun _ => mem0 (i := 113) (by decide +kernel) rfl, (by intro h; cases h)⟩
theorem cl_X4_32 : CLk RX4 RX4 TX4 4 4 2 32 false := ⟨rfl, in_X4, by decide, rfl, fun _ => mem0 (i := 117) (by decide +kernel) rfl, (by intro h; cases h)⟩
theorem cl_X4_35 : CLk RX4 RX4 TX4 4 4 3 35 false := ⟨rfl, in_X4, by decide, rfl, fun _ => mem0 (i := 119) (by decide +kernel) rfl, (by intro h; cases h)⟩
theorem cl_X5_15 : CLk RX5 RX5 TX5 3 5 1 15 false := ⟨rfl, in_X5, by decide, rfl, fun _ => mem0 (i := 315) (by decide +kernel) rfl, (by intro h; cases h)⟩
theorem cl_X5_20 : CLk RX5 RX5 TX5 3 5 2 20 false := ⟨rfl, in_X5, by decide, rfl, fun _ => mem0 (i := 316) (by decide +kernel) rfl, (by intro h; cases h)⟩
theorem cl_X5_9 : CLk RX5 RX5 TX5 3 5 0 9 false := ⟨rfl, in_X5, by decide, rfl, fun _ => mem0 (i := 313) (by decide +kernel) rfl, (by intro h; cases h)⟩
theorem cl_X6_17 : CLk RX6 RX6 TX6 3 6 0 17 false := ⟨rfl, in_X6, by decide, rfl, fun _ => mem0 (i := 93) (by decide +kernel) rfl, (by intro h; cases h)⟩
theorem cl_X6_22 : CLk RX6 RX6 TX6 3 6 1 22 false := ⟨rfl, in_X6, by decide, rfl, fun _ => mem0 (i := 94) (by decide +kernel) rfl, (by intro h; cases h)⟩
theorem cl_X6_26 : CLk RX6 RX6 TX6 3 6 2 26 false := ⟨rfl, in_X6, by decide, rfl, fun _ => mem0 (i := 95) (by decide +kernel) rfl, (by intro h; cases h)⟩
theorem cl_X7_26 : CLk RX7 RX7 TX7 17 7 1 26 false := ⟨rfl, in_X7, by decide, rfl, fun _ => mem0 (i := 177) (by decide +kernel) rfl, (by intro h; cases h)⟩
theorem cl_X7_34 : CLk RX7 RX7 TX7 17 7 2 34 false := ⟨rfl, in_X7, by decide, rfl, fun _ => mem0 (i := 179) (by decide +kernel) rfl, (by intro h; cases h)⟩
theorem cl_X7_38 : CLk RX7 RX7 TX7 17 7 3 38 false := ⟨rfl, in_X7, by decide, rfl, fun _ => mem0 (i := 180) (by decide +kernel) rfl, (by intro h; cases h)⟩
theorem cl_X7_42 : CLk RX7 RX7 TX7 17 7 4 42 false := ⟨rfl, in_X7, by decide, rfl, fun _ => mem0 (i := 181) (by decide +kernel) rfl, (by intro h; cases h)⟩
theorem cl_X7_45 : CLk RX7 RX7 TX7 17 7 5 45 false := ⟨rfl, in_X7, by decide, rfl, fun _ => mem0 (i := 182) (by decide +kernel) rfl, (by intro h; cases h)⟩
theorem cl_X7_48 : CLk RX7 RX7 TX7 17 7 6 48 false := ⟨rfl, in_X7, by decide, rfl, fun _ => mem0 (i := 183) (by decide +kernel) rfl, (by intro h; cases h)⟩
theorem cl_X7_51 : CLk RX7 RX7 TX7 17 7 7 51 false := ⟨rfl, in_X7, by decide, rfl, fun _ => mem0 (i := 185) (by decide +kernel) rfl, (by intro h; cases h)⟩
theorem cl_X7_54 : CLk RX7 RX7 TX7 17 7 8 54 false := ⟨rfl, in_X7, by decide, rfl, fun _ => mem0 (i := 187) (by decide +kernel) rfl, (by intro h; cases h)⟩
theorem cl_X7_57 : CLk RX7 RX7 TX7 17 7 9 57 false := ⟨rfl, in_X7, by decide, rfl, fun _ => mem0 (i := 189) (by decide +kernel) rfl, (by intro h; cases h)⟩
theorem cl_X7_60 : CLk RX7 RX7 TX7 17 7 10 60 false := ⟨rfl, in_X7, by decide, rfl, fun _ => mem0 (i := 191) (by decide +kernel) rfl, (by intro h; cases h)⟩
theorem cl_X7_63 : CLk RX7 RX7 TX7 17 7 11 63 false := ⟨rfl, in_X7, by decide, rfl, fun _ => mem0 (i := 193) (by decide +kernel) rfl, (by intro h; cases h)⟩
theorem cl_X7_66 : CLk RX7 RX7 TX7 17 7 12 66 false := ⟨rfl, in_X7, by decide, rfl, fun _ => mem0 (i := 195) (by decide +kernel) rfl, (by intro h; cases h)⟩
theorem cl_X7_69 : CLk RX7 RX7 TX7 17 7 13 69 false := ⟨rfl, in_X7, by decide, rfl, fun _ => mem0 (i := 197) (by decide +kernel) rfl, (by intro h; cases h)⟩
theorem cl_X7_72 : CLk RX7 RX7 TX7 17 7 14 72 false := ⟨rfl, in_X7, by decide, rfl, fun _ => mem0 (i := 199) (by decide +kernel) rfl, (by intro h; cases h)⟩
theorem cl_X7_75 : CLk RX7 RX7 TX7 17 7 15 75 false := ⟨rfl, in_X7, by decide, rfl, fun _ => mem0 (i := 201) (by decide +kernel) rfl, (by intro h; cases h)⟩
theorem cl_X7_78 : CLk RX7 RX7 TX7 17 7 16 78 false := ⟨rfl, in_X7, by decide, rfl, fun _ => mem0 (i := 203) (by decide +kernel) rfl, (by intro h; cases h)⟩
theorem cl_X7_9 : CLk RX7 RX7 TX7 17 7 0 9 false := ⟨rfl, in_X7, by decide, rfl, fun _ => mem0 (i := 176) (by decide +kernel) rfl, (by intro h; cases h)⟩
theorem cl_X8_10 : CLk RX8 RX8 TX8 8 8 0 10 false := ⟨rfl, in_X8, by decide, rfl, fun _ => mem0 (i := 325) (by decide +kernel) rfl, (by intro h; cases h)⟩
theorem cl_X8_16 : CLk RX8 RX8 TX8 8 8 1 16 false := ⟨rfl, in_X8, by decide, rfl, fun _ => mem0 (i := 326) (by decide +kernel) rfl, (by intro h; cases h)⟩
theorem cl_X8_19 : CLk RX8 RX8 TX8 8 8 2 19 false := ⟨rfl, in_X8, by decide, rfl, fun _ => mem0 (i := 327) (by decide +kernel) rfl, (by intro h; cases h)⟩
theorem cl_X8_28 : CLk RX8 RX8 TX8 8 8 3 28 false := ⟨rfl, in_X8, by decide, rfl, fun _ => mem0 (i := 328) (by decide +kernel) rfl, (by intro h; cases h)⟩
theorem cl_X8_35 : CLk RX8 RX8 TX8 8 8 4 35 false := ⟨rfl, in_X8, by decide, rfl, fun _ => mem0 (i := 329) (by decide +kernel) rfl, (by intro h; cases h)⟩
theorem cl_X8_42 : CLk RX8 RX8 TX8 8 8 5 42 false := ⟨rfl, in_X8, by decide, rfl, fun _ => mem0 (i := 330) (by decide +kernel) rfl, (by intro h; cases h)⟩
theorem cl_X8_49 : CLk RX8 RX8 TX8 8 8 6 49 false := ⟨rfl, in_X8, by decide, rfl, fun _ => mem0 (i := 331) (by decide +kernel) rfl, (by intro h; cases h)⟩
theorem cl_X8_56 : CLk RX8 RX8 TX8 8 8 7 56 false := ⟨rfl, in_X8, by decide, rfl, fun _ => mem0 (i := 332) (by decide +kernel) rfl, (by intro h; cases h)⟩
theorem cl_X9_100 : CLk RX9 RX9 TX9 41 9 3 100 false := ⟨rfl, in_X9, by decide, rfl, fun _ => mem0 (i := 811) (by decide +kernel) rfl, (by intro h; cases h)⟩
theorem cl_X9_115 : CLk RX9 RX9 TX9 41 9 8 115 false := ⟨rfl, in_X9, by decide, rfl, fun _ => mem0 (i := 816) (by decide +kernel) rfl, (by intro h; cases h)⟩
theorem cl_X9_118 : CLk RX9 RX9 TX9 41 9 9 118 false := ⟨rfl, in_X9, by decide, rfl, fun _ => mem0 (i := 817) (by decide +kernel) rfl, (by intro h; cases h)⟩
theorem cl_X9_121 : CLk RX9 RX9 TX9 41 9 10 121 false := ⟨rfl, in_X9, by decide, rfl, fun _ => mem0 (i := 818) (by decide +kernel) rfl, (by intro h; cases h)⟩
theorem cl_X9_13 : CLk RX9 RX9 TX9 41 9 2 13 false := ⟨rfl, in_X9, by decide, rfl, fun _ => mem0 (i := 810) (by decide +kernel) rfl, (by intro h; cases h)⟩
theorem cl_X9_157 : CLk RX9 RX9 TX9 41 9 5 157 false := ⟨rfl, in_X9, by decide, rfl, fun _ => mem0 (i := 813) (by decide +kernel) rfl, (by intro h; cases h)⟩
theorem cl_X9_16 : CLk RX9 RX9 TX9 41 9 4 16 false := ⟨rfl, in_X9, by decide, rfl, fun _ => mem0 (i := 812) (by decide +kernel) rfl, (by intro h; cases h)⟩
theorem cl_X9_160 : CLk RX9 RX9 TX9 41 9 22 160 false := ⟨rfl, in_X9, by decide, rfl, fun _ => mem0 (i := 830) (by decide +kernel) rfl, (by intro h; cases h)⟩
theorem cl_X9_163 : CLk RX9 RX9 TX9 41 9 28 163 false := ⟨rfl, in_X9, by decide, rfl, fun _ => mem0 (i := 836) (by decide +kernel) rfl, (by intro h; cases h)⟩
theorem cl_X9_166 : CLk RX9 RX9 TX9 41 9 23 166 false := ⟨rfl, in_X9, by decide, rfl, fun _ => mem0 (i := 831) (by decide +kernel) rfl, (by intro h; cases h)⟩
theorem cl_X9_169 : CLk RX9 RX9 TX9 41 9 29 169 false := ⟨rfl, in_X9, by decide, rfl, fun _ => mem0 (i := 837) (by decide +kernel) rfl, (by intro h; cases h)⟩
theorem cl_X9_172 : CLk RX9 RX9 TX9 41 9 30 172 false := ⟨rfl, in_X9, by decide, rfl, fun _ => mem0 (i := 838) (by decide +kernel) rfl, (by intro h; cases h)⟩
theorem cl_X9_179 : CLk RX9 RX9 TX9 41 9 24 179 false := ⟨rfl, in_X9, by decide, rfl, fun _ => mem0 (i := 832) (by decide +kernel) rfl, (by intro h; cases h)⟩
theorem cl_X9_182 : CLk RX9 RX9 TX9 41 9 25 182 false := ⟨rfl, in_X9, by decide, rfl, fun _ => mem0 (i := 833) (by decide +kernel) rfl, (by intro h; cases h)⟩
theorem cl_X9_185 : CLk RX9 RX9 TX9 41 9 26 185 false := ⟨rfl, in_X9, by decide, rfl, fun _ => mem0 (i := 834) (by decide +kernel) rfl, (by intro h; cases h)⟩
theorem cl_X9_188 : CLk RX9 RX9 TX9 41 9 27 188 false := ⟨rfl, in_X9, by decide, rfl, fun _ => mem0 (i := 835) (by decide +kernel) rfl, (by intro h; cases h)⟩
theorem cl_X9_19 : CLk RX9 RX9 TX9 41 9 6 19 false := ⟨rfl, in_X9, by decide, rfl, fun _ => mem0 (i := 814) (by decide +kernel) rfl, (by intro h; cases h)⟩
theorem cl_X9_191 : CLk RX9 RX9 TX9 41 9 21 191 false := ⟨rfl, in_X9, by decide, rfl, fun _ => mem0 (i := 829) (by decide +kernel) rfl, (by intro h; cases h)⟩
theorem cl_X9_194 : CLk RX9 RX9 TX9 41 9 17 194 false := ⟨rfl, in_X9, by decide, rfl, fun _ => mem0 (i := 825) (by decide +kernel) rfl, (by intro h; cases h)⟩
theorem cl_X9_200 : CLk RX9 RX9 TX9 41 9 18 200 false := ⟨rfl, in_X9, by decide, rfl, fun _ => mem0 (i := 826) (by decide +kernel) rfl, (by intro h; cases h)⟩
theorem cl_X9_203 : CLk RX9 RX9 TX9 41 9 19 203 false := ⟨rfl, in_X9, by decide, rfl, fun _ => mem0 (i := 827) (by decide +kernel) rfl, (by intro h; cases h)⟩
theorem cl_X9_206 : CLk RX9 RX9 TX9 41 9 20 206 false := ⟨rfl, in_X9, by decide, rfl, fun _ => mem0 (i := 828) (by decide +kernel) rfl, (by intro h; cases h)⟩
theorem cl_X9_212 : CLk RX9 RX9 TX9 41 9 16 212 false := ⟨rfl, in_X9, by decide, rfl, fun _ => mem0 (i := 824) (by decide +kernel) rfl, (by intro h; cases h)⟩
theorem cl_X9_22 : CLk RX9 RX9 TX9 41 9 7 22 false := ⟨rfl, in_X9, by decide, rfl, fun _ => mem0 (i := 815) (by decide +kernel) rfl, (by intro h; cases h)⟩
theorem cl_X9_25 : CLk RX9 RX9 TX9 41 9 11 25 false := ⟨rfl, in_X9, by decide, rfl, fun _ => mem0 (i := 819) (by decide +kernel) rfl, (by intro h; cases h)⟩
theorem cl_X9_270 : CLk RX9 RX9 TX9 41 9 36 270 false := ⟨rfl, in_X9, by decide, rfl, fun _ => mem0 (i := 844) (by decide +kernel) rfl, (by intro h; cases h)⟩
theorem cl_X9_28 : CLk RX9 RX9 TX9 41 9 12 28 false := ⟨rfl, in_X9, by decide, rfl, fun _ => mem0 (i := 820) (by decide +kernel) rfl, (by intro h; cases h)⟩
theorem cl_X9_31 : CLk RX9 RX9 TX9 41 9 13 31 false := ⟨rfl, in_X9, by decide, rfl, fun _ => mem0 (i := 821) (by decide +kernel) rfl, (by intro h; cases h)⟩
theorem cl_X9_34 : CLk RX9 RX9 TX9 41 9 14 34 false := ⟨rfl, in_X9, by decide, rfl, fun _ => mem0 (i := 822) (by decide +kernel) rfl, (by intro h; cases h)⟩
theorem cl_X9_37 : CLk RX9 RX9 TX9 41 9 15 37 false := ⟨rfl, in_X9, by decide, rfl, fun _ => mem0 (i := 823) (by decide +kernel) rfl, (by intro h; cases h)⟩
theorem cl_X9_41 : CLk RX9 RX9 TX9 41 9 31 41 false := ⟨rfl, in_X9, by decide, rfl, fun _ => mem0 (i := 839) (by decide +kernel) rfl, (by intro h; cases h)⟩
theorem cl_X9_44 : CLk RX9 RX9 TX9 41 9 32 44 false := ⟨rfl, in_X9, by decide, rfl, fun _ => mem0 (i := 840) (by decide +kernel) rfl, (by intro h; cases h)⟩
theorem cl_X9_47 : CLk RX9 RX9 TX9 41 9 33 47 false := ⟨rfl, in_X9, by decide, rfl, fun _ => mem0 (i := 841) (by decide +kernel) rfl, (by intro h; cases h)⟩
theorem cl_X9_50 : CLk RX9 RX9 TX9 41 9 34 50 false := ⟨rfl, in_X9, by decide, rfl, fun _ => mem0 (i := 842) (by decide +kernel) rfl, (by intro h; cases h)⟩
theorem cl_X9_53 : CLk RX9 RX9 TX9 41 9 35 53 false := ⟨rfl, in_X9, by decide, rfl, fun _ => mem0 (i := 843) (by decide +kernel) rfl, (by intro h; cases h)⟩
theorem cl_X9_56 : CLk RX9 RX9 TX9 41 9 37 56 false := ⟨rfl, in_X9, by decide, rfl, fun _ => mem0 (i := 845) (by decide +kernel) rfl, (by intro h; cases h)⟩
theorem cl_X9_59 : CLk RX9 RX9 TX9 41 9 38 59 false := ⟨rfl, in_X9, by decide, rfl, fun _ => mem0 (i := 846) (by decide +kernel) rfl, (by intro h; cases h)⟩
theorem cl_X9_62 : CLk RX9 RX9 TX9 41 9 39 62 false := ⟨rfl, in_X9, by decide, rfl, fun _ => mem0 (i := 847) (by decide +kernel) rfl, (by intro h; cases h)⟩
theorem cl_X9_65 : CLk RX9 RX9 TX9 41 9 40 65 false := ⟨rfl, in_X9, by decide, rfl, fun _ => mem0 (i := 848) (by decide +kernel) rfl, (by intro h; cases h)⟩
theorem cl_X9_68 : CLk RX9 RX9 TX9 41 9 1 68 false := ⟨rfl, in_X9, by decide, rfl, fun _ => mem0 (i := 809) (by decide +kernel) rfl, (by intro h; cases h)⟩
theorem cl_X9_7 : CLk RX9 RX9 TX9 41 9 0 7 false := ⟨rfl, in_X9, by decide, rfl, fun _ => mem0 (i := 808) (by decide +kernel) rfl, (by intro h; cases h)⟩
theorem cl_X1_40 : CLk RX1 RX6 TX6 3 6 2 40 true := ⟨rfl, in_X6, by decide, rfl, (by intro h; cases h), fun _ => ⟨"BallInCup", memN (i := 98) (by decide +kernel) rfl⟩⟩
theorem cl_X2_16 : CLk RX2 RX6 TX6 3 6 2 16 true := ⟨rfl, in_X6, by decide, rfl, (by intro h; cases h), fun _ => ⟨"BallInCup", memN (i := 97) (by decide +kernel) rfl⟩⟩
theorem cl_X3_45 : CLk RX3 RX6 TX6 3 6 2 45 true := ⟨rfl, in_X6, by decide, rfl, (by intro h; cases h), fun _ => ⟨"BallInCup", memN (i := 99) (by decide +kernel) rfl⟩⟩
theorem cl_X4_38 : CLk RX4 RX6 TX6 3 6 2 38 true := ⟨rfl, in_X6, by decide, rfl, (by intro h; cases h), fun _ => ⟨"BallInCup", memN (i := 96) (by decide +kernel) rfl⟩⟩
theorem cl_X7_111 : CLk RX7 RX1 TX1 9 1 5 111 true := ⟨rfl, in_X1, by decide, rfl, (by intro h; cases h), fun _ => ⟨"BallInCup", memN (i := 148) (by decide +kernel) rfl⟩⟩
theorem cl_X7_114 : CLk RX7 RX1 TX1 9 1 6 114 true := ⟨rfl, in_X1, by decide, rfl, (by intro h; cases h), fun _ => ⟨"BallInCup", memN (i := 150) (by decide +kernel) rfl⟩⟩
theorem cl_X7_117 : CLk RX7 RX1 TX1 9 1 8 117 true := ⟨rfl, in_X1, by decide, rfl, (by intro h; cases h), fun _ => ⟨"BallInCup", memN (i := 155) (by decide +kernel) rfl⟩⟩
theorem cl_X7_134 : CLk RX7 RX1 TX1 9 1 7 134 true := ⟨rfl, in_X1, by decide, rfl, (by intro h; cases h), fun _ => ⟨"BallInCup", memN (i := 152) (by decide +kernel) rfl⟩⟩
theorem cl_X7_135 : CLk RX7 RX4 TX4 4 4 1 135 true := ⟨rfl, in_X4, by decide, rfl, (by intro h; cases h), fun _ => ⟨"BallInCup", memN (i := 115) (by decide +kernel) rfl⟩⟩
theorem cl_X7_153 : CLk RX7 RX6 TX6 3 6 2 153 true := ⟨rfl, in_X6, by decide, rfl, (by intro h; cases h), fun _ => ⟨"BallInCup", memN (i := 101) (by decide +kernel) rfl⟩⟩
theorem cl_X7_17 : CLk RX7 RX4 TX4 4 4 2 17 true := ⟨rfl, in_X4, by decide, rfl, (by intro h; cases h), fun _ => ⟨"BallInCup", memN (i := 116) (by decide +kernel) rfl⟩⟩
theorem cl_X7_81 : CLk RX7 RX4 TX4 4 4 0 81 true := ⟨rfl, in_X4, by decide, rfl, (by intro h; cases h), fun _ => ⟨"BallInCup", memN (i := 112) (by decide +kernel) rfl⟩⟩
theorem cl_X8_119 : CLk RX8 RX3 TX3 6 3 1 119 true := ⟨rfl, in_X3, by decide, rfl, (by intro h; cases h), fun _ => ⟨"BallInCup", memN (i := 286) (by decide +kernel) rfl⟩⟩
theorem cl_X8_126 : CLk RX8 RX3 TX3 6 3 4 126 true := ⟨rfl, in_X3, by decide, rfl, (by intro h; cases h), fun _ => ⟨"BallInCup", memN (i := 290) (by decide +kernel) rfl⟩⟩
theorem cl_X8_134 : CLk RX8 RX3 TX3 6 3 5 134 true := ⟨rfl, in_X3, by decide, rfl, (by intro h; cases h), fun _ => ⟨"BallInCup", memN (i := 292) (by decide +kernel) rfl⟩⟩
theorem cl_X8_141 : CLk RX8 RX7 TX7 17 7 6 141 true := ⟨rfl, in_X7, by decide, rfl, (by intro h; cases h), fun _ => ⟨"BallInCup", memN (i := 184) (by decide +kernel) rfl⟩⟩
theorem cl_X8_144 : CLk RX8 RX7 TX7 17 7 7 144 true := ⟨rfl, in_X7, by decide, rfl, (by intro h; cases h), fun _ => ⟨"BallInCup", memN (i := 186) (by decide +kernel) rfl⟩⟩
theorem cl_X8_147 : CLk RX8 RX7 TX7 17 7 8 147 true := ⟨rfl, in_X7, by decide, rfl, (by intro h; cases h), fun _ => ⟨"BallInCup", memN (i := 188) (by decide +kernel) rfl⟩⟩
theorem cl_X8_150 : CLk RX8 RX7 TX7 17 7 9 150 true := ⟨rfl, in_X7, by decide, rfl, (by intro h; cases h), fun _ => ⟨"BallInCup", memN (i := 190) (by decide +kernel) rfl⟩⟩
theorem cl_X8_153 : CLk RX8 RX7 TX7 17 7 10 153 true := ⟨rfl, in_X7, by decide, rfl, (by intro h; cases h), fun _ => ⟨"BallInCup", memN (i := 192) (by decide +kernel) rfl⟩⟩
theorem cl_X8_156 : CLk RX8 RX7 TX7 17 7 11 156 true := ⟨rfl, in_X7, by decide, rfl, (by intro h; cases h), fun _ => ⟨"BallInCup", memN (i := 194) (by decide +kernel) rfl⟩⟩
theorem cl_X8_159 : CLk RX8 RX7 TX7 17 7 1 159 true := ⟨rfl, in_X7, by decide, rfl, (by intro h; cases h), fun _ => ⟨"BallInCup", memN (i := 178) (by decide +kernel) rfl⟩⟩
theorem cl_X8_163 : CLk RX8 RX1 TX1 9 1 7 163 true := ⟨rfl, in_X1, by decide, rfl, (by intro h; cases h), fun _ => ⟨"BallInCup", memN (i := 153) (by decide +kernel) rfl⟩⟩
theorem cl_X8_166 : CLk RX8 RX1 TX1 9 1 8 166 true := ⟨rfl, in_X1, by decide, rfl, (by intro h; cases h), fun _ => ⟨"BallInCup", memN (i := 156) (by decide +kernel) rfl⟩⟩
theorem cl_X8_167 : CLk RX8 RX7 TX7 17 7 12 167 true := ⟨rfl, in_X7, by decide, rfl, (by intro h; cases h), fun _ => ⟨"BallInCup", memN (i := 196) (by decide +kernel) rfl⟩⟩
theorem cl_X8_170 : CLk RX8 RX7 TX7 17 7 14 170 true := ⟨rfl, in_X7, by decide, rfl, (by intro h; cases h), fun _ => ⟨"BallInCup", memN (i := 200) (by decide +kernel) rfl⟩⟩
theorem cl_X8_173 : CLk RX8 RX7 TX7 17 7 13 173 true := ⟨rfl, in_X7, by decide, rfl, (by intro h; cases h), fun _ => ⟨"BallInCup", memN (i := 198) (by decide +kernel) rfl⟩⟩
theorem cl_X8_176 : CLk RX8 RX7 TX7 17 7 15 176 true := ⟨rfl, in_X7, by decide, rfl, (by intro h; cases h), fun _ => ⟨"BallInCup", memN (i := 202) (by decide +kernel) rfl⟩⟩
theorem cl_X8_179 : CLk RX8 RX7 TX7 17 7 16 179 true := ⟨rfl, in_X7, by decide, rfl, (by intro h; cases h), fun _ => ⟨"BallInCup", memN (i := 204) (by decide +kernel) rfl⟩⟩
theorem cl_X8_182 : CLk RX8 RX6 TX6 3 6 2 182 true := ⟨rfl, in_X6, by decide, rfl, (by intro h; cases h), fun _ => ⟨"BallInCup", memN (i := 100) (by decide +kernel) rfl⟩⟩
theorem cl_X8_186 : CLk RX8 RX4 TX4 4 4 3 186 true := ⟨rfl, in_X4, by decide, rfl, (by intro h; cases h), fun _ => ⟨"BallInCup", memN (i := 120) (by decide +kernel) rfl⟩⟩
theorem cl_X8_207 : CLk RX8 RX0 TX0 5 0 3 207 true := ⟨rfl, in_X0, by decide, rfl, (by intro h; cases h), fun _ => ⟨"BallInCup", memN (i := 250) (by decide +kernel) rfl⟩⟩
theorem cl_X8_210 : CLk RX8 RX0 TX0 5 0 4 210 true := ⟨rfl, in_X0, by decide, rfl, (by intro h; cases h), fun _ => ⟨"BallInCup", memN (i := 252) (by decide +kernel) rfl⟩⟩
theorem cl_X8_282 : CLk RX8 RX5 TX5 3 5 0 282 true := ⟨rfl, in_X5, by decide, rfl, (by intro h; cases h), fun _ => ⟨"BallInCup", memN (i := 314) (by decide +kernel) rfl⟩⟩
theorem cl_X8_288 : CLk RX8 RX5 TX5 3 5 2 288 true := ⟨rfl, in_X5, by decide, rfl, (by intro h; cases h), fun _ => ⟨"BallInCup", memN (i := 317) (by decide +kernel) rfl⟩⟩
theorem cl_X8_71 : CLk RX8 RX4 TX4 4 4 0 71 true := ⟨rfl, in_X4, by decide, rfl, (by intro h; cases h), fun _ => ⟨"BallInCup", memN (i := 111) (by decide +kernel) rfl⟩⟩
theorem cl_X8_74 : CLk RX8 RX4 TX4 4 4 1 74 true := ⟨rfl, in_X4, by decide, rfl, (by intro h; cases h), fun _ => ⟨"BallInCup", memN (i := 114) (by decide +kernel) rfl⟩⟩
theorem cl_X8_97 : CLk RX8 RX4 TX4 4 4 2 97 true := ⟨rfl, in_X4, by decide, rfl, (by intro h; cases h), fun _ => ⟨"BallInCup", memN (i := 118) (by decide +kernel) rfl⟩⟩
theorem kc_X7_152 : Cond.constant RX7 152 (40000) ∈ tb0 := mem0 (i := 547) (by decide +kernel) rfl
theorem kc_X8_213 : Cond.constant RX8 213 (-100002) ∈ tb0 := mem0 (i := 621) (by decide +kernel) rfl
theorem kc_X8_217 : Cond.constant RX8 217 (-100004) ∈ tb0 := mem0 (i := 634) (by decide +kernel) rfl
theorem kc_X8_265 : Cond.constant RX8 265 (100000) ∈ tb0 := mem0 (i := 736) (by decide +kernel) rfl
theorem kc_X8_92 : Cond.constant RX8 92 (-100001) ∈ tb0 := mem0 (i := 390) (by decide +kernel) rfl
theorem kc_X9_238 : Cond.constant RX9 238 (-100002) ∈ tb0 := mem0 (i := 1090) (by decide +kernel) rfl
theorem kc_X9_243 : Cond.constant RX9 243 (-100004) ∈ tb0 := mem0 (i := 1095) (by decide +kernel) rfl
theorem kc_X9_265 : Cond.constant RX9 265 (100000) ∈ tb0 := mem0 (i := 1154) (by decide +kernel) rfl
theorem kc_X9_99 : Cond.constant RX9 99 (-100001) ∈ tb0 := mem0 (i := 963) (by decide +kernel) rfl
theorem kc_L_41 : Cond.constantLong RL 41 (4294967295) ∈ tb0 := mem0 (i := 1192) (by decide +kernel) rfl
theorem kc_X9_107 : Cond.constantLong RX9 107 (8) ∈ tb0 := mem0 (i := 984) (by decide +kernel) rfl
theorem kc_X9_109 : Cond.constantLong RX9 109 (255) ∈ tb0 := mem0 (i := 985) (by decide +kernel) rfl
theorem kc_X9_111 : Cond.constantLong RX9 111 (32) ∈ tb0 := mem0 (i := 986) (by decide +kernel) rfl
theorem kc_X9_113 : Cond.constantLong RX9 113 (126) ∈ tb0 := mem0 (i := 987) (by decide +kernel) rfl
theorem kc_X9_129 : Cond.constantLong RX9 129 (48) ∈ tb0 := mem0 (i := 1016) (by decide +kernel) rfl
theorem kc_X9_131 : Cond.constantLong RX9 131 (57) ∈ tb0 := mem0 (i := 1017) (by decide +kernel) rfl
theorem kc_X9_225 : Cond.constantLong RX9 225 (3) ∈ tb0 := mem0 (i := 1064) (by decide +kernel) rfl
theorem kc_X9_230 : Cond.constantLong RX9 230 (-4) ∈ tb0 := mem0 (i := 1069) (by decide +kernel) rfl
theorem kc_X9_247 : Cond.constantLong RX9 247 (16) ∈ tb0 := mem0 (i := 1116) (by decide +kernel) rfl
theorem kc_X9_249 : Cond.constantLong RX9 249 (180) ∈ tb0 := mem0 (i := 1121) (by decide +kernel) rfl
theorem kc_X9_251 : Cond.constantLong RX9 251 (-1) ∈ tb0 := mem0 (i := 1122) (by decide +kernel) rfl
theorem kc_X9_259 : Cond.constantLong RX9 259 (12) ∈ tb0 := mem0 (i := 1149) (by decide +kernel) rfl
theorem kc_X9_75 : Cond.constantLong RX9 75 (2) ∈ tb0 := mem0 (i := 936) (by decide +kernel) rfl
theorem kc_X9_77 : Cond.constantLong RX9 77 (10) ∈ tb0 := mem0 (i := 940) (by decide +kernel) rfl
theorem kc_X9_79 : Cond.constantLong RX9 79 (60) ∈ tb0 := mem0 (i := 941) (by decide +kernel) rfl
theorem kc_X9_81 : Cond.constantLong RX9 81 (4) ∈ tb0 := mem0 (i := 942) (by decide +kernel) rfl
theorem kc_X9_83 : Cond.constantLong RX9 83 (20) ∈ tb0 := mem0 (i := 943) (by decide +kernel) rfl
theorem kc_X9_85 : Cond.constantLong RX9 85 (-9) ∈ tb0 := mem0 (i := 948) (by decide +kernel) rfl
theorem kc_X9_87 : Cond.constantLong RX9 87 (9) ∈ tb0 := mem0 (i := 949) (by decide +kernel) rfl
theorem kc_X9_89 : Cond.constantLong RX9 89 (99) ∈ tb0 := mem0 (i := 950) (by decide +kernel) rfl
theorem ct_X0_20 : CSS RX0 20 yX0_uOf false := ⟨mem0 (i := 594) (by decide +kernel) rfl, fun _ => mem0 (i := 593) (by decide +kernel) rfl, (by intro h; cases h)⟩
theorem ct_X0_24 : CSS RX0 24 yX0_vOf false := ⟨mem0 (i := 597) (by decide +kernel) rfl, fun _ => mem0 (i := 596) (by decide +kernel) rfl, (by intro h; cases h)⟩
theorem cv_X0_27 : CSV RX0 27 yX7_endBy := ⟨mem0 (i := 599) (by decide +kernel) rfl, mem0 (i := 581) (by decide +kernel) rfl, mem0 (i := 582) (by decide +kernel) rfl⟩
theorem cv_X0_40 : CSV RX0 40 yX0_cellFrom := ⟨mem0 (i := 608) (by decide +kernel) rfl, mem0 (i := 610) (by decide +kernel) rfl, mem0 (i := 16) (by decide +kernel) rfl⟩
theorem mt_X0_44 : MTH RX0 44 Lib.Math.max.name Lib.Math.max.code 2 := ⟨mem0 (i := 616) (by decide +kernel) rfl, mem0 (i := 89) (by decide +kernel) rfl, mem0 (i := 48) (by decide +kernel) rfl, mem0 (i := 90) (by decide +kernel) rfl⟩
theorem cv_X0_49 : CSV RX0 49 yX0_join := ⟨mem0 (i := 612) (by decide +kernel) rfl, mem0 (i := 614) (by decide +kernel) rfl, mem0 (i := 17) (by decide +kernel) rfl⟩
theorem cv_X0_52 : CSV RX0 52 yX0_ringsRound := ⟨mem0 (i := 626) (by decide +kernel) rfl, mem0 (i := 627) (by decide +kernel) rfl, mem0 (i := 628) (by decide +kernel) rfl⟩
theorem cv_X0_55 : CSV RX0 55 yX0_isWhole := ⟨mem0 (i := 630) (by decide +kernel) rfl, mem0 (i := 632) (by decide +kernel) rfl, mem0 (i := 18) (by decide +kernel) rfl⟩
theorem cv_X1_45 : CSV RX1 45 yX6_get := ⟨mem0 (i := 534) (by decide +kernel) rfl, mem0 (i := 392) (by decide +kernel) rfl, mem0 (i := 393) (by decide +kernel) rfl⟩
theorem cv_X2_22 : CSV RX2 22 yX2_mostFrom := ⟨mem0 (i := 671) (by decide +kernel) rfl, mem0 (i := 673) (by decide +kernel) rfl, mem0 (i := 19) (by decide +kernel) rfl⟩
theorem cv_X2_26 : CSV RX2 26 yX2_mostTimes := ⟨mem0 (i := 689) (by decide +kernel) rfl, mem0 (i := 691) (by decide +kernel) rfl, mem0 (i := 21) (by decide +kernel) rfl⟩
theorem cv_X2_29 : CSV RX2 29 yX6_get := ⟨mem0 (i := 675) (by decide +kernel) rfl, mem0 (i := 392) (by decide +kernel) rfl, mem0 (i := 393) (by decide +kernel) rfl⟩
theorem cv_X2_33 : CSV RX2 33 yX2_gainBy := ⟨mem0 (i := 676) (by decide +kernel) rfl, mem0 (i := 678) (by decide +kernel) rfl, mem0 (i := 20) (by decide +kernel) rfl⟩
theorem mt_X2_37 : MTH RX2 37 Lib.Math.max.name Lib.Math.max.code 2 := ⟨mem0 (i := 680) (by decide +kernel) rfl, mem0 (i := 89) (by decide +kernel) rfl, mem0 (i := 48) (by decide +kernel) rfl, mem0 (i := 90) (by decide +kernel) rfl⟩
theorem cv_X3_31 : CSV RX3 31 yX3_begin := ⟨mem0 (i := 437) (by decide +kernel) rfl, mem0 (i := 439) (by decide +kernel) rfl, mem0 (i := 0) (by decide +kernel) rfl⟩
theorem cv_X3_34 : CSV RX3 34 yX6_empty := ⟨mem0 (i := 441) (by decide +kernel) rfl, mem0 (i := 411) (by decide +kernel) rfl, mem0 (i := 412) (by decide +kernel) rfl⟩
theorem cv_X3_38 : CSV RX3 38 yX3_takes := ⟨mem0 (i := 442) (by decide +kernel) rfl, mem0 (i := 444) (by decide +kernel) rfl, mem0 (i := 1) (by decide +kernel) rfl⟩
theorem cv_X3_42 : CSV RX3 42 yX3_readCup := ⟨mem0 (i := 450) (by decide +kernel) rfl, mem0 (i := 452) (by decide +kernel) rfl, mem0 (i := 3) (by decide +kernel) rfl⟩
theorem cv_X3_46 : CSV RX3 46 yX3_finish := ⟨mem0 (i := 475) (by decide +kernel) rfl, mem0 (i := 477) (by decide +kernel) rfl, mem0 (i := 8) (by decide +kernel) rfl⟩
theorem cv_X3_50 : CSV RX3 50 yX3_readPart := ⟨mem0 (i := 493) (by decide +kernel) rfl, mem0 (i := 495) (by decide +kernel) rfl, mem0 (i := 9) (by decide +kernel) rfl⟩
theorem cv_X3_59 : CSV RX3 59 yX3_next := ⟨mem0 (i := 446) (by decide +kernel) rfl, mem0 (i := 448) (by decide +kernel) rfl, mem0 (i := 2) (by decide +kernel) rfl⟩
theorem cv_X3_62 : CSV RX3 62 yX3_faultAt := ⟨mem0 (i := 463) (by decide +kernel) rfl, mem0 (i := 465) (by decide +kernel) rfl, mem0 (i := 6) (by decide +kernel) rfl⟩
theorem cv_X3_66 : CSV RX3 66 yX3_signedDigit := ⟨mem0 (i := 454) (by decide +kernel) rfl, mem0 (i := 456) (by decide +kernel) rfl, mem0 (i := 4) (by decide +kernel) rfl⟩
theorem cv_X3_69 : CSV RX3 69 yX3_digit := ⟨mem0 (i := 458) (by decide +kernel) rfl, mem0 (i := 460) (by decide +kernel) rfl, mem0 (i := 5) (by decide +kernel) rfl⟩
theorem cv_X3_72 : CSV RX3 72 yX3_number := ⟨mem0 (i := 467) (by decide +kernel) rfl, mem0 (i := 469) (by decide +kernel) rfl, mem0 (i := 7) (by decide +kernel) rfl⟩
theorem mt_X3_88 : MTH RX3 88 Lib.Math.min.name Lib.Math.min.code 2 := ⟨mem0 (i := 471) (by decide +kernel) rfl, mem0 (i := 472) (by decide +kernel) rfl, mem0 (i := 48) (by decide +kernel) rfl, mem0 (i := 473) (by decide +kernel) rfl⟩
theorem cv_X4_42 : CSV RX4 42 yX6_get := ⟨mem0 (i := 571) (by decide +kernel) rfl, mem0 (i := 392) (by decide +kernel) rfl, mem0 (i := 393) (by decide +kernel) rfl⟩
theorem cv_X4_46 : CSV RX4 46 yX6_takeAll := ⟨mem0 (i := 754) (by decide +kernel) rfl, mem0 (i := 480) (by decide +kernel) rfl, mem0 (i := 481) (by decide +kernel) rfl⟩
theorem ct_X5_23 : CSS RX5 23 yJ7_fill_53178 false := ⟨mem0 (i := 779) (by decide +kernel) rfl, fun _ => mem0 (i := 778) (by decide +kernel) rfl, (by intro h; cases h)⟩
theorem cv_X5_29 : CSV RX5 29 yX5_isNothing := ⟨mem0 (i := 728) (by decide +kernel) rfl, mem0 (i := 729) (by decide +kernel) rfl, mem0 (i := 730) (by decide +kernel) rfl⟩
theorem cv_X5_33 : CSV RX5 33 yX5_fits := ⟨mem0 (i := 732) (by decide +kernel) rfl, mem0 (i := 733) (by decide +kernel) rfl, mem0 (i := 734) (by decide +kernel) rfl⟩
theorem ct_X5_37 : CSS RX5 37 yX5_cutTo false := ⟨mem0 (i := 768) (by decide +kernel) rfl, fun _ => mem0 (i := 767) (by decide +kernel) rfl, (by intro h; cases h)⟩
theorem cv_X6_29 : CSV RX6 29 yX6_has := ⟨mem0 (i := 381) (by decide +kernel) rfl, mem0 (i := 382) (by decide +kernel) rfl, mem0 (i := 383) (by decide +kernel) rfl⟩
theorem cv_X6_33 : CSV RX6 33 yX6_isFull := ⟨mem0 (i := 376) (by decide +kernel) rfl, mem0 (i := 366) (by decide +kernel) rfl, mem0 (i := 367) (by decide +kernel) rfl⟩
theorem mt_X6_37 : MTH RX6 37 Lib.Math.min.name Lib.Math.min.code 2 := ⟨mem0 (i := 483) (by decide +kernel) rfl, mem0 (i := 472) (by decide +kernel) rfl, mem0 (i := 48) (by decide +kernel) rfl, mem0 (i := 473) (by decide +kernel) rfl⟩
theorem cv_X6_40 : CSV RX6 40 yX6_get := ⟨mem0 (i := 484) (by decide +kernel) rfl, mem0 (i := 392) (by decide +kernel) rfl, mem0 (i := 393) (by decide +kernel) rfl⟩
theorem mt_X6_9 : MTH RX6 9 Lib.Math.max.name Lib.Math.max.code 2 := ⟨mem0 (i := 88) (by decide +kernel) rfl, mem0 (i := 89) (by decide +kernel) rfl, mem0 (i := 48) (by decide +kernel) rfl, mem0 (i := 90) (by decide +kernel) rfl⟩
theorem cv_X7_101 : CSV RX7 101 yX7_endBy := ⟨mem0 (i := 654) (by decide +kernel) rfl, mem0 (i := 581) (by decide +kernel) rfl, mem0 (i := 582) (by decide +kernel) rfl⟩
theorem mt_X7_105 : MTH RX7 105 Lib.Math.abs.name Lib.Math.abs.code 1 := ⟨mem0 (i := 552) (by decide +kernel) rfl, mem0 (i := 553) (by decide +kernel) rfl, mem0 (i := 48) (by decide +kernel) rfl, mem0 (i := 554) (by decide +kernel) rfl⟩
theorem cv_X7_118 : CSV RX7 118 yX7_lateSide := ⟨mem0 (i := 523) (by decide +kernel) rfl, mem0 (i := 525) (by decide +kernel) rfl, mem0 (i := 11) (by decide +kernel) rfl⟩
theorem cv_X7_122 : CSV RX7 122 yX1_go := ⟨mem0 (i := 530) (by decide +kernel) rfl, mem0 (i := 531) (by decide +kernel) rfl, mem0 (i := 532) (by decide +kernel) rfl⟩
theorem cv_X7_125 : CSV RX7 125 yX7_holdByCord := ⟨mem0 (i := 535) (by decide +kernel) rfl, mem0 (i := 537) (by decide +kernel) rfl, mem0 (i := 12) (by decide +kernel) rfl⟩
theorem cv_X7_128 : CSV RX7 128 yX7_metCup := ⟨mem0 (i := 548) (by decide +kernel) rfl, mem0 (i := 550) (by decide +kernel) rfl, mem0 (i := 14) (by decide +kernel) rfl⟩
theorem cv_X7_131 : CSV RX7 131 yX7_comeDownOn := ⟨mem0 (i := 555) (by decide +kernel) rfl, mem0 (i := 557) (by decide +kernel) rfl, mem0 (i := 15) (by decide +kernel) rfl⟩
theorem ct_X7_138 : CSS RX7 138 yJ6_compare_7cf53 false := ⟨mem0 (i := 528) (by decide +kernel) rfl, fun _ => mem0 (i := 527) (by decide +kernel) rfl, (by intro h; cases h)⟩
theorem ct_X7_143 : CSS RX7 143 yJ9_floorMod_7cf53 false := ⟨mem0 (i := 540) (by decide +kernel) rfl, fun _ => mem0 (i := 539) (by decide +kernel) rfl, (by intro h; cases h)⟩
theorem cv_X7_146 : CSV RX7 146 yX7_wholeRoot := ⟨mem0 (i := 542) (by decide +kernel) rfl, mem0 (i := 544) (by decide +kernel) rfl, mem0 (i := 13) (by decide +kernel) rfl⟩
theorem mt_X7_149 : MTH RX7 149 Lib.Math.max.name Lib.Math.max.code 2 := ⟨mem0 (i := 546) (by decide +kernel) rfl, mem0 (i := 89) (by decide +kernel) rfl, mem0 (i := 48) (by decide +kernel) rfl, mem0 (i := 90) (by decide +kernel) rfl⟩
theorem cv_X7_30 : CSV RX7 30 yX1_begin := ⟨mem0 (i := 511) (by decide +kernel) rfl, mem0 (i := 512) (by decide +kernel) rfl, mem0 (i := 513) (by decide +kernel) rfl⟩
theorem cv_X7_85 : CSV RX7 85 yX6_get := ⟨mem0 (i := 506) (by decide +kernel) rfl, mem0 (i := 392) (by decide +kernel) rfl, mem0 (i := 393) (by decide +kernel) rfl⟩
theorem cv_X7_91 : CSV RX7 91 yX7_begin := ⟨mem0 (i := 507) (by decide +kernel) rfl, mem0 (i := 508) (by decide +kernel) rfl, mem0 (i := 509) (by decide +kernel) rfl⟩
theorem cv_X7_94 : CSV RX7 94 yX7_goStep := ⟨mem0 (i := 519) (by decide +kernel) rfl, mem0 (i := 521) (by decide +kernel) rfl, mem0 (i := 10) (by decide +kernel) rfl⟩
theorem cv_X7_97 : CSV RX7 97 yX7_goOn := ⟨mem0 (i := 584) (by decide +kernel) rfl, mem0 (i := 516) (by decide +kernel) rfl, mem0 (i := 517) (by decide +kernel) rfl⟩
theorem ct_X8_100 : CSS RX8 100 yX8_addPart false := ⟨mem0 (i := 400) (by decide +kernel) rfl, fun _ => mem0 (i := 399) (by decide +kernel) rfl, (by intro h; cases h)⟩
theorem cv_X8_104 : CSV RX8 104 yX6_empty := ⟨mem0 (i := 410) (by decide +kernel) rfl, mem0 (i := 411) (by decide +kernel) rfl, mem0 (i := 412) (by decide +kernel) rfl⟩
theorem ct_X8_108 : CSS RX8 108 yX8_byteOf false := ⟨mem0 (i := 419) (by decide +kernel) rfl, fun _ => mem0 (i := 418) (by decide +kernel) rfl, (by intro h; cases h)⟩
theorem cv_X8_112 : CSV RX8 112 yX3_hasRoom := ⟨mem0 (i := 421) (by decide +kernel) rfl, mem0 (i := 422) (by decide +kernel) rfl, mem0 (i := 423) (by decide +kernel) rfl⟩
theorem cv_X8_115 : CSV RX8 115 yX3_append := ⟨mem0 (i := 425) (by decide +kernel) rfl, mem0 (i := 426) (by decide +kernel) rfl, mem0 (i := 427) (by decide +kernel) rfl⟩
theorem cv_X8_123 : CSV RX8 123 yX3_readCups := ⟨mem0 (i := 433) (by decide +kernel) rfl, mem0 (i := 434) (by decide +kernel) rfl, mem0 (i := 435) (by decide +kernel) rfl⟩
theorem cv_X8_127 : CSV RX8 127 yX6_takeAll := ⟨mem0 (i := 479) (by decide +kernel) rfl, mem0 (i := 480) (by decide +kernel) rfl, mem0 (i := 481) (by decide +kernel) rfl⟩
theorem cv_X8_131 : CSV RX8 131 yX3_readParts := ⟨mem0 (i := 489) (by decide +kernel) rfl, mem0 (i := 490) (by decide +kernel) rfl, mem0 (i := 491) (by decide +kernel) rfl⟩
theorem cv_X8_135 : CSV RX8 135 yX7_beginAsTold := ⟨mem0 (i := 502) (by decide +kernel) rfl, mem0 (i := 503) (by decide +kernel) rfl, mem0 (i := 504) (by decide +kernel) rfl⟩
theorem cv_X8_138 : CSV RX8 138 yX7_goOn := ⟨mem0 (i := 515) (by decide +kernel) rfl, mem0 (i := 516) (by decide +kernel) rfl, mem0 (i := 517) (by decide +kernel) rfl⟩
theorem cv_X8_183 : CSV RX8 183 yX4_pullSteps := ⟨mem0 (i := 567) (by decide +kernel) rfl, mem0 (i := 568) (by decide +kernel) rfl, mem0 (i := 569) (by decide +kernel) rfl⟩
theorem cv_X8_189 : CSV RX8 189 yX4_hasNoPart := ⟨mem0 (i := 576) (by decide +kernel) rfl, mem0 (i := 577) (by decide +kernel) rfl, mem0 (i := 578) (by decide +kernel) rfl⟩
theorem cv_X8_192 : CSV RX8 192 yX7_endBy := ⟨mem0 (i := 580) (by decide +kernel) rfl, mem0 (i := 581) (by decide +kernel) rfl, mem0 (i := 582) (by decide +kernel) rfl⟩
theorem cv_X8_196 : CSV RX8 196 yX0_tryAll := ⟨mem0 (i := 589) (by decide +kernel) rfl, mem0 (i := 590) (by decide +kernel) rfl, mem0 (i := 591) (by decide +kernel) rfl⟩
theorem cv_X8_200 : CSV RX8 200 yX0_pullsInto := ⟨mem0 (i := 600) (by decide +kernel) rfl, mem0 (i := 601) (by decide +kernel) rfl, mem0 (i := 602) (by decide +kernel) rfl⟩
theorem cv_X8_204 : CSV RX8 204 yX0_seekCells := ⟨mem0 (i := 604) (by decide +kernel) rfl, mem0 (i := 605) (by decide +kernel) rfl, mem0 (i := 606) (by decide +kernel) rfl⟩
theorem cv_X8_214 : CSV RX8 214 yX0_middleOf := ⟨mem0 (i := 622) (by decide +kernel) rfl, mem0 (i := 623) (by decide +kernel) rfl, mem0 (i := 624) (by decide +kernel) rfl⟩
theorem ct_X8_218 : CSS RX8 218 yX0_uOf false := ⟨mem0 (i := 594) (by decide +kernel) rfl, fun _ => mem0 (i := 635) (by decide +kernel) rfl, (by intro h; cases h)⟩
theorem ct_X8_221 : CSS RX8 221 yX0_vOf false := ⟨mem0 (i := 597) (by decide +kernel) rfl, fun _ => mem0 (i := 636) (by decide +kernel) rfl, (by intro h; cases h)⟩
theorem cv_X8_224 : CSV RX8 224 yX0_ringsRound := ⟨mem0 (i := 637) (by decide +kernel) rfl, mem0 (i := 627) (by decide +kernel) rfl, mem0 (i := 628) (by decide +kernel) rfl⟩
theorem cv_X8_227 : CSV RX8 227 yX7_endLate := ⟨mem0 (i := 642) (by decide +kernel) rfl, mem0 (i := 643) (by decide +kernel) rfl, mem0 (i := 644) (by decide +kernel) rfl⟩
theorem cv_X8_231 : CSV RX8 231 yX7_oddsBy := ⟨mem0 (i := 650) (by decide +kernel) rfl, mem0 (i := 651) (by decide +kernel) rfl, mem0 (i := 652) (by decide +kernel) rfl⟩
theorem cv_X8_234 : CSV RX8 234 yX6_grow := ⟨mem0 (i := 372) (by decide +kernel) rfl, mem0 (i := 373) (by decide +kernel) rfl, mem0 (i := 374) (by decide +kernel) rfl⟩
theorem cv_X8_237 : CSV RX8 237 yX6_put := ⟨mem0 (i := 377) (by decide +kernel) rfl, mem0 (i := 378) (by decide +kernel) rfl, mem0 (i := 379) (by decide +kernel) rfl⟩
theorem cv_X8_241 : CSV RX8 241 yX2_weigh := ⟨mem0 (i := 667) (by decide +kernel) rfl, mem0 (i := 668) (by decide +kernel) rfl, mem0 (i := 669) (by decide +kernel) rfl⟩
theorem cv_X8_245 : CSV RX8 245 yX2_mostIn := ⟨mem0 (i := 681) (by decide +kernel) rfl, mem0 (i := 682) (by decide +kernel) rfl, mem0 (i := 683) (by decide +kernel) rfl⟩
theorem cv_X8_248 : CSV RX8 248 yX2_timesOf := ⟨mem0 (i := 685) (by decide +kernel) rfl, mem0 (i := 686) (by decide +kernel) rfl, mem0 (i := 687) (by decide +kernel) rfl⟩
theorem cv_X8_252 : CSV RX8 252 yX7_meetNothing := ⟨mem0 (i := 709) (by decide +kernel) rfl, mem0 (i := 710) (by decide +kernel) rfl, mem0 (i := 711) (by decide +kernel) rfl⟩
theorem cv_X8_255 : CSV RX8 255 yX7_isSoft := ⟨mem0 (i := 713) (by decide +kernel) rfl, mem0 (i := 714) (by decide +kernel) rfl, mem0 (i := 715) (by decide +kernel) rfl⟩
theorem ct_X8_258 : CSS RX8 258 yX8_isRow false := ⟨mem0 (i := 722) (by decide +kernel) rfl, fun _ => mem0 (i := 721) (by decide +kernel) rfl, (by intro h; cases h)⟩
theorem cv_X8_262 : CSV RX8 262 yX5_refusalOf := ⟨mem0 (i := 724) (by decide +kernel) rfl, mem0 (i := 725) (by decide +kernel) rfl, mem0 (i := 726) (by decide +kernel) rfl⟩
theorem cv_X8_266 : CSV RX8 266 yX8_isShown := ⟨mem0 (i := 737) (by decide +kernel) rfl, mem0 (i := 739) (by decide +kernel) rfl, mem0 (i := 22) (by decide +kernel) rfl⟩
theorem cv_X8_270 : CSV RX8 270 yX4_takeAll := ⟨mem0 (i := 750) (by decide +kernel) rfl, mem0 (i := 751) (by decide +kernel) rfl, mem0 (i := 752) (by decide +kernel) rfl⟩
theorem cv_X8_272 : CSV RX8 272 yX5_put := ⟨mem0 (i := 763) (by decide +kernel) rfl, mem0 (i := 764) (by decide +kernel) rfl, mem0 (i := 765) (by decide +kernel) rfl⟩
theorem cv_X8_273 : CSV RX8 273 yX5_makeRow := ⟨mem0 (i := 774) (by decide +kernel) rfl, mem0 (i := 775) (by decide +kernel) rfl, mem0 (i := 776) (by decide +kernel) rfl⟩
theorem cv_X8_276 : CSV RX8 276 yX5_isNothing := ⟨mem0 (i := 785) (by decide +kernel) rfl, mem0 (i := 729) (by decide +kernel) rfl, mem0 (i := 730) (by decide +kernel) rfl⟩
theorem cv_X8_279 : CSV RX8 279 yX5_letGo := ⟨mem0 (i := 786) (by decide +kernel) rfl, mem0 (i := 787) (by decide +kernel) rfl, mem0 (i := 788) (by decide +kernel) rfl⟩
theorem cv_X8_285 : CSV RX8 285 yX5_fits := ⟨mem0 (i := 798) (by decide +kernel) rfl, mem0 (i := 733) (by decide +kernel) rfl, mem0 (i := 734) (by decide +kernel) rfl⟩
theorem cv_X8_298 : CSV RX8 298 yX7_begin := ⟨mem0 (i := 741) (by decide +kernel) rfl, mem0 (i := 508) (by decide +kernel) rfl, mem0 (i := 509) (by decide +kernel) rfl⟩
theorem cv_X8_301 : CSV RX8 301 yX5_get := ⟨mem0 (i := 742) (by decide +kernel) rfl, mem0 (i := 743) (by decide +kernel) rfl, mem0 (i := 744) (by decide +kernel) rfl⟩
theorem ct_X8_60 : CSS RX8 60 yX8_isIn false := ⟨mem0 (i := 355) (by decide +kernel) rfl, fun _ => mem0 (i := 354) (by decide +kernel) rfl, (by intro h; cases h)⟩
theorem cv_X8_78 : CSV RX8 78 yX6_isFull := ⟨mem0 (i := 365) (by decide +kernel) rfl, mem0 (i := 366) (by decide +kernel) rfl, mem0 (i := 367) (by decide +kernel) rfl⟩
theorem ct_X8_84 : CSS RX8 84 yX8_addCup false := ⟨mem0 (i := 370) (by decide +kernel) rfl, fun _ => mem0 (i := 369) (by decide +kernel) rfl, (by intro h; cases h)⟩
theorem cv_X8_88 : CSV RX8 88 yX6_has := ⟨mem0 (i := 389) (by decide +kernel) rfl, mem0 (i := 382) (by decide +kernel) rfl, mem0 (i := 383) (by decide +kernel) rfl⟩
theorem cv_X8_93 : CSV RX8 93 yX6_get := ⟨mem0 (i := 391) (by decide +kernel) rfl, mem0 (i := 392) (by decide +kernel) rfl, mem0 (i := 393) (by decide +kernel) rfl⟩
theorem cv_L_101 : CSV RL 101 yX9_most := ⟨mem0 (i := 1117) (by decide +kernel) rfl, mem0 (i := 1118) (by decide +kernel) rfl, mem0 (i := 1119) (by decide +kernel) rfl⟩
theorem cv_L_102 : CSV RL 102 yX8_row := ⟨mem0 (i := 693) (by decide +kernel) rfl, mem0 (i := 694) (by decide +kernel) rfl, mem0 (i := 695) (by decide +kernel) rfl⟩
theorem cv_L_105 : CSV RL 105 yX9_row := ⟨mem0 (i := 1123) (by decide +kernel) rfl, mem0 (i := 1124) (by decide +kernel) rfl, mem0 (i := 1125) (by decide +kernel) rfl⟩
theorem cv_L_106 : CSV RL 106 yX8_clear := ⟨mem0 (i := 697) (by decide +kernel) rfl, mem0 (i := 698) (by decide +kernel) rfl, mem0 (i := 699) (by decide +kernel) rfl⟩
theorem cv_L_109 : CSV RL 109 yX9_clear := ⟨mem0 (i := 1127) (by decide +kernel) rfl, mem0 (i := 1128) (by decide +kernel) rfl, mem0 (i := 1129) (by decide +kernel) rfl⟩
theorem cv_L_110 : CSV RL 110 yX8_cord := ⟨mem0 (i := 701) (by decide +kernel) rfl, mem0 (i := 702) (by decide +kernel) rfl, mem0 (i := 703) (by decide +kernel) rfl⟩
theorem cv_L_113 : CSV RL 113 yX9_cord := ⟨mem0 (i := 1131) (by decide +kernel) rfl, mem0 (i := 1132) (by decide +kernel) rfl, mem0 (i := 1133) (by decide +kernel) rfl⟩
theorem cv_L_114 : CSV RL 114 yX8_down := ⟨mem0 (i := 705) (by decide +kernel) rfl, mem0 (i := 706) (by decide +kernel) rfl, mem0 (i := 707) (by decide +kernel) rfl⟩
theorem cv_L_117 : CSV RL 117 yX9_down := ⟨mem0 (i := 1135) (by decide +kernel) rfl, mem0 (i := 1136) (by decide +kernel) rfl, mem0 (i := 1137) (by decide +kernel) rfl⟩
theorem cv_L_118 : CSV RL 118 yX8_filmed := ⟨mem0 (i := 717) (by decide +kernel) rfl, mem0 (i := 718) (by decide +kernel) rfl, mem0 (i := 719) (by decide +kernel) rfl⟩
theorem cv_L_122 : CSV RL 122 yX9_filmed := ⟨mem0 (i := 1139) (by decide +kernel) rfl, mem0 (i := 1140) (by decide +kernel) rfl, mem0 (i := 1141) (by decide +kernel) rfl⟩
theorem cv_L_123 : CSV RL 123 yX8_image := ⟨mem0 (i := 746) (by decide +kernel) rfl, mem0 (i := 747) (by decide +kernel) rfl, mem0 (i := 748) (by decide +kernel) rfl⟩
theorem cv_L_126 : CSV RL 126 yX9_image := ⟨mem0 (i := 1155) (by decide +kernel) rfl, mem0 (i := 1156) (by decide +kernel) rfl, mem0 (i := 1157) (by decide +kernel) rfl⟩
theorem cv_L_127 : CSV RL 127 yX8_restore := ⟨mem0 (i := 755) (by decide +kernel) rfl, mem0 (i := 756) (by decide +kernel) rfl, mem0 (i := 757) (by decide +kernel) rfl⟩
theorem cv_L_13 : CSV RL 13 yX8_set := ⟨mem0 (i := 350) (by decide +kernel) rfl, mem0 (i := 351) (by decide +kernel) rfl, mem0 (i := 352) (by decide +kernel) rfl⟩
theorem cv_L_130 : CSV RL 130 yX9_restore := ⟨mem0 (i := 1162) (by decide +kernel) rfl, mem0 (i := 1163) (by decide +kernel) rfl, mem0 (i := 1164) (by decide +kernel) rfl⟩
theorem cv_L_131 : CSV RL 131 yX8_film := ⟨mem0 (i := 759) (by decide +kernel) rfl, mem0 (i := 760) (by decide +kernel) rfl, mem0 (i := 761) (by decide +kernel) rfl⟩
theorem cv_L_134 : CSV RL 134 yX9_film := ⟨mem0 (i := 1169) (by decide +kernel) rfl, mem0 (i := 1170) (by decide +kernel) rfl, mem0 (i := 1171) (by decide +kernel) rfl⟩
theorem cv_L_135 : CSV RL 135 yX8_sheet := ⟨mem0 (i := 770) (by decide +kernel) rfl, mem0 (i := 771) (by decide +kernel) rfl, mem0 (i := 772) (by decide +kernel) rfl⟩
theorem cv_L_138 : CSV RL 138 yX9_sheet := ⟨mem0 (i := 1176) (by decide +kernel) rfl, mem0 (i := 1177) (by decide +kernel) rfl, mem0 (i := 1178) (by decide +kernel) rfl⟩
theorem cv_L_139 : CSV RL 139 yX8_drop := ⟨mem0 (i := 781) (by decide +kernel) rfl, mem0 (i := 782) (by decide +kernel) rfl, mem0 (i := 783) (by decide +kernel) rfl⟩
theorem cv_L_142 : CSV RL 142 yX9_drop := ⟨mem0 (i := 1180) (by decide +kernel) rfl, mem0 (i := 1181) (by decide +kernel) rfl, mem0 (i := 1182) (by decide +kernel) rfl⟩
theorem cv_L_143 : CSV RL 143 yX8_item := ⟨mem0 (i := 790) (by decide +kernel) rfl, mem0 (i := 791) (by decide +kernel) rfl, mem0 (i := 792) (by decide +kernel) rfl⟩
theorem cv_L_146 : CSV RL 146 yX9_item := ⟨mem0 (i := 1184) (by decide +kernel) rfl, mem0 (i := 1185) (by decide +kernel) rfl, mem0 (i := 1186) (by decide +kernel) rfl⟩
theorem cv_L_147 : CSV RL 147 yX8_copy := ⟨mem0 (i := 794) (by decide +kernel) rfl, mem0 (i := 795) (by decide +kernel) rfl, mem0 (i := 796) (by decide +kernel) rfl⟩
theorem cv_L_150 : CSV RL 150 yX9_copy := ⟨mem0 (i := 1188) (by decide +kernel) rfl, mem0 (i := 1189) (by decide +kernel) rfl, mem0 (i := 1190) (by decide +kernel) rfl⟩
theorem cv_L_17 : CSV RL 17 yX9_set := ⟨mem0 (i := 932) (by decide +kernel) rfl, mem0 (i := 933) (by decide +kernel) rfl, mem0 (i := 934) (by decide +kernel) rfl⟩
theorem cv_L_18 : CSV RL 18 yX8_cup := ⟨mem0 (i := 361) (by decide +kernel) rfl, mem0 (i := 362) (by decide +kernel) rfl, mem0 (i := 363) (by decide +kernel) rfl⟩
theorem cv_L_22 : CSV RL 22 yX9_cup := ⟨mem0 (i := 944) (by decide +kernel) rfl, mem0 (i := 945) (by decide +kernel) rfl, mem0 (i := 946) (by decide +kernel) rfl⟩
theorem cv_L_23 : CSV RL 23 yX8_told := ⟨mem0 (i := 385) (by decide +kernel) rfl, mem0 (i := 386) (by decide +kernel) rfl, mem0 (i := 387) (by decide +kernel) rfl⟩
theorem cv_L_26 : CSV RL 26 yX9_told := ⟨mem0 (i := 955) (by decide +kernel) rfl, mem0 (i := 956) (by decide +kernel) rfl, mem0 (i := 957) (by decide +kernel) rfl⟩
theorem cv_L_27 : CSV RL 27 yX8_part := ⟨mem0 (i := 395) (by decide +kernel) rfl, mem0 (i := 396) (by decide +kernel) rfl, mem0 (i := 397) (by decide +kernel) rfl⟩
theorem cv_L_31 : CSV RL 31 yX9_part := ⟨mem0 (i := 964) (by decide +kernel) rfl, mem0 (i := 965) (by decide +kernel) rfl, mem0 (i := 966) (by decide +kernel) rfl⟩
theorem cv_L_32 : CSV RL 32 yX8_pull := ⟨mem0 (i := 402) (by decide +kernel) rfl, mem0 (i := 403) (by decide +kernel) rfl, mem0 (i := 404) (by decide +kernel) rfl⟩
theorem cv_L_35 : CSV RL 35 yX9_pull := ⟨mem0 (i := 972) (by decide +kernel) rfl, mem0 (i := 973) (by decide +kernel) rfl, mem0 (i := 974) (by decide +kernel) rfl⟩
theorem cv_L_36 : CSV RL 36 yX8_still := ⟨mem0 (i := 406) (by decide +kernel) rfl, mem0 (i := 407) (by decide +kernel) rfl, mem0 (i := 408) (by decide +kernel) rfl⟩
theorem cv_L_40 : CSV RL 40 yX9_still := ⟨mem0 (i := 976) (by decide +kernel) rfl, mem0 (i := 977) (by decide +kernel) rfl, mem0 (i := 978) (by decide +kernel) rfl⟩
theorem cv_L_43 : CSV RL 43 yX8_type := ⟨mem0 (i := 414) (by decide +kernel) rfl, mem0 (i := 415) (by decide +kernel) rfl, mem0 (i := 416) (by decide +kernel) rfl⟩
theorem cv_L_47 : CSV RL 47 yX9_type := ⟨mem0 (i := 980) (by decide +kernel) rfl, mem0 (i := 981) (by decide +kernel) rfl, mem0 (i := 982) (by decide +kernel) rfl⟩
theorem cv_L_48 : CSV RL 48 yX8_toy := ⟨mem0 (i := 429) (by decide +kernel) rfl, mem0 (i := 430) (by decide +kernel) rfl, mem0 (i := 431) (by decide +kernel) rfl⟩
theorem cv_L_51 : CSV RL 51 yX9_toy := ⟨mem0 (i := 988) (by decide +kernel) rfl, mem0 (i := 989) (by decide +kernel) rfl, mem0 (i := 990) (by decide +kernel) rfl⟩
theorem cv_L_52 : CSV RL 52 yX8_pulls := ⟨mem0 (i := 485) (by decide +kernel) rfl, mem0 (i := 486) (by decide +kernel) rfl, mem0 (i := 487) (by decide +kernel) rfl⟩
theorem cv_L_55 : CSV RL 55 yX9_pulls := ⟨mem0 (i := 1026) (by decide +kernel) rfl, mem0 (i := 1027) (by decide +kernel) rfl, mem0 (i := 1028) (by decide +kernel) rfl⟩
theorem cv_L_56 : CSV RL 56 yX8_at := ⟨mem0 (i := 498) (by decide +kernel) rfl, mem0 (i := 499) (by decide +kernel) rfl, mem0 (i := 500) (by decide +kernel) rfl⟩
theorem cv_L_59 : CSV RL 59 yX9_at := ⟨mem0 (i := 1034) (by decide +kernel) rfl, mem0 (i := 1035) (by decide +kernel) rfl, mem0 (i := 1036) (by decide +kernel) rfl⟩
theorem cv_L_60 : CSV RL 60 yX8_end := ⟨mem0 (i := 559) (by decide +kernel) rfl, mem0 (i := 560) (by decide +kernel) rfl, mem0 (i := 561) (by decide +kernel) rfl⟩
theorem cv_L_64 : CSV RL 64 yX9_end := ⟨mem0 (i := 1060) (by decide +kernel) rfl, mem0 (i := 1061) (by decide +kernel) rfl, mem0 (i := 1062) (by decide +kernel) rfl⟩
theorem cv_L_65 : CSV RL 65 yX8_count := ⟨mem0 (i := 563) (by decide +kernel) rfl, mem0 (i := 564) (by decide +kernel) rfl, mem0 (i := 565) (by decide +kernel) rfl⟩
theorem cv_L_68 : CSV RL 68 yX9_count := ⟨mem0 (i := 1030) (by decide +kernel) rfl, mem0 (i := 1031) (by decide +kernel) rfl, mem0 (i := 1032) (by decide +kernel) rfl⟩
theorem cv_L_69 : CSV RL 69 yX8_ends := ⟨mem0 (i := 572) (by decide +kernel) rfl, mem0 (i := 573) (by decide +kernel) rfl, mem0 (i := 574) (by decide +kernel) rfl⟩
theorem cv_L_72 : CSV RL 72 yX9_ends := ⟨mem0 (i := 1065) (by decide +kernel) rfl, mem0 (i := 1066) (by decide +kernel) rfl, mem0 (i := 1067) (by decide +kernel) rfl⟩
theorem cv_L_73 : CSV RL 73 yX8_cells := ⟨mem0 (i := 585) (by decide +kernel) rfl, mem0 (i := 586) (by decide +kernel) rfl, mem0 (i := 587) (by decide +kernel) rfl⟩
theorem cv_L_76 : CSV RL 76 yX9_cells := ⟨mem0 (i := 1074) (by decide +kernel) rfl, mem0 (i := 1075) (by decide +kernel) rfl, mem0 (i := 1076) (by decide +kernel) rfl⟩
theorem cv_L_77 : CSV RL 77 yX8_middle := ⟨mem0 (i := 617) (by decide +kernel) rfl, mem0 (i := 618) (by decide +kernel) rfl, mem0 (i := 619) (by decide +kernel) rfl⟩
theorem cv_L_80 : CSV RL 80 yX9_middle := ⟨mem0 (i := 1086) (by decide +kernel) rfl, mem0 (i := 1087) (by decide +kernel) rfl, mem0 (i := 1088) (by decide +kernel) rfl⟩
theorem cv_L_81 : CSV RL 81 yX8_mended := ⟨mem0 (i := 638) (by decide +kernel) rfl, mem0 (i := 639) (by decide +kernel) rfl, mem0 (i := 640) (by decide +kernel) rfl⟩
theorem cv_L_84 : CSV RL 84 yX9_mended := ⟨mem0 (i := 1096) (by decide +kernel) rfl, mem0 (i := 1097) (by decide +kernel) rfl, mem0 (i := 1098) (by decide +kernel) rfl⟩
theorem cv_L_85 : CSV RL 85 yX8_odds := ⟨mem0 (i := 646) (by decide +kernel) rfl, mem0 (i := 647) (by decide +kernel) rfl, mem0 (i := 648) (by decide +kernel) rfl⟩
theorem cv_L_88 : CSV RL 88 yX9_odds := ⟨mem0 (i := 1100) (by decide +kernel) rfl, mem0 (i := 1101) (by decide +kernel) rfl, mem0 (i := 1102) (by decide +kernel) rfl⟩
theorem cv_L_89 : CSV RL 89 yX8_which := ⟨mem0 (i := 655) (by decide +kernel) rfl, mem0 (i := 656) (by decide +kernel) rfl, mem0 (i := 657) (by decide +kernel) rfl⟩
theorem cv_L_92 : CSV RL 92 yX9_which := ⟨mem0 (i := 1108) (by decide +kernel) rfl, mem0 (i := 1109) (by decide +kernel) rfl, mem0 (i := 1110) (by decide +kernel) rfl⟩
theorem cv_L_93 : CSV RL 93 yX8_trick := ⟨mem0 (i := 659) (by decide +kernel) rfl, mem0 (i := 660) (by decide +kernel) rfl, mem0 (i := 661) (by decide +kernel) rfl⟩
theorem cv_L_97 : CSV RL 97 yX9_trick := ⟨mem0 (i := 1112) (by decide +kernel) rfl, mem0 (i := 1113) (by decide +kernel) rfl, mem0 (i := 1114) (by decide +kernel) rfl⟩
theorem cv_L_98 : CSV RL 98 yX8_most := ⟨mem0 (i := 663) (by decide +kernel) rfl, mem0 (i := 664) (by decide +kernel) rfl, mem0 (i := 665) (by decide +kernel) rfl⟩
theorem cv_X9_103 : CSV RX9 103 yX9_partIs := ⟨mem0 (i := 968) (by decide +kernel) rfl, mem0 (i := 970) (by decide +kernel) rfl, mem0 (i := 25) (by decide +kernel) rfl⟩
theorem cv_X9_125 : CSV RX9 125 yX9_here := ⟨mem0 (i := 1008) (by decide +kernel) rfl, mem0 (i := 1010) (by decide +kernel) rfl, mem0 (i := 30) (by decide +kernel) rfl⟩
theorem cv_X9_133 : CSV RX9 133 yX9_has := ⟨mem0 (i := 1004) (by decide +kernel) rfl, mem0 (i := 1006) (by decide +kernel) rfl, mem0 (i := 29) (by decide +kernel) rfl⟩
theorem cv_X9_136 : CSV RX9 136 yX9_digit := ⟨mem0 (i := 1012) (by decide +kernel) rfl, mem0 (i := 1014) (by decide +kernel) rfl, mem0 (i := 31) (by decide +kernel) rfl⟩
theorem cv_X9_139 : CSV RX9 139 yX9_signed := ⟨mem0 (i := 1000) (by decide +kernel) rfl, mem0 (i := 1002) (by decide +kernel) rfl, mem0 (i := 28) (by decide +kernel) rfl⟩
theorem cv_X9_142 : CSV RX9 142 yX9_number := ⟨mem0 (i := 1018) (by decide +kernel) rfl, mem0 (i := 1020) (by decide +kernel) rfl, mem0 (i := 32) (by decide +kernel) rfl⟩
theorem cv_X9_146 : CSV RX9 146 yX9_cupClause := ⟨mem0 (i := 996) (by decide +kernel) rfl, mem0 (i := 998) (by decide +kernel) rfl, mem0 (i := 27) (by decide +kernel) rfl⟩
theorem cv_X9_150 : CSV RX9 150 yX9_partClause := ⟨mem0 (i := 1022) (by decide +kernel) rfl, mem0 (i := 1024) (by decide +kernel) rfl, mem0 (i := 33) (by decide +kernel) rfl⟩
theorem cv_X9_153 : CSV RX9 153 yX9_readAll := ⟨mem0 (i := 992) (by decide +kernel) rfl, mem0 (i := 994) (by decide +kernel) rfl, mem0 (i := 26) (by decide +kernel) rfl⟩
theorem ct_X9_175 : CSS RX9 175 yX9_root false := ⟨mem0 (i := 1051) (by decide +kernel) rfl, fun _ => mem0 (i := 1050) (by decide +kernel) rfl, (by intro h; cases h)⟩
theorem ct_X9_197 : CSS RX9 197 yX9_size false := ⟨mem0 (i := 1058) (by decide +kernel) rfl, fun _ => mem0 (i := 1057) (by decide +kernel) rfl, (by intro h; cases h)⟩
theorem cv_X9_209 : CSV RX9 209 yX9_lays := ⟨mem0 (i := 1042) (by decide +kernel) rfl, mem0 (i := 1044) (by decide +kernel) rfl, mem0 (i := 35) (by decide +kernel) rfl⟩
theorem cv_X9_215 : CSV RX9 215 yX9_swings := ⟨mem0 (i := 1046) (by decide +kernel) rfl, mem0 (i := 1048) (by decide +kernel) rfl, mem0 (i := 36) (by decide +kernel) rfl⟩
theorem cv_X9_218 : CSV RX9 218 yX9_meets := ⟨mem0 (i := 1053) (by decide +kernel) rfl, mem0 (i := 1055) (by decide +kernel) rfl, mem0 (i := 37) (by decide +kernel) rfl⟩
theorem cv_X9_222 : CSV RX9 222 yX9_tries := ⟨mem0 (i := 1038) (by decide +kernel) rfl, mem0 (i := 1040) (by decide +kernel) rfl, mem0 (i := 34) (by decide +kernel) rfl⟩
theorem cv_X9_227 : CSV RX9 227 yX9_endBy := ⟨mem0 (i := 1070) (by decide +kernel) rfl, mem0 (i := 1072) (by decide +kernel) rfl, mem0 (i := 38) (by decide +kernel) rfl⟩
theorem cv_X9_232 : CSV RX9 232 yX9_grid := ⟨mem0 (i := 1078) (by decide +kernel) rfl, mem0 (i := 1080) (by decide +kernel) rfl, mem0 (i := 39) (by decide +kernel) rfl⟩
theorem cv_X9_235 : CSV RX9 235 yX9_groups := ⟨mem0 (i := 1082) (by decide +kernel) rfl, mem0 (i := 1084) (by decide +kernel) rfl, mem0 (i := 40) (by decide +kernel) rfl⟩
theorem cv_X9_239 : CSV RX9 239 yX9_isRing := ⟨mem0 (i := 1091) (by decide +kernel) rfl, mem0 (i := 1093) (by decide +kernel) rfl, mem0 (i := 41) (by decide +kernel) rfl⟩
theorem cv_X9_244 : CSV RX9 244 yX9_oddsOf := ⟨mem0 (i := 1104) (by decide +kernel) rfl, mem0 (i := 1106) (by decide +kernel) rfl, mem0 (i := 42) (by decide +kernel) rfl⟩
theorem ct_X9_253 : CSS RX9 253 yX9_isSheet false := ⟨mem0 (i := 1144) (by decide +kernel) rfl, fun _ => mem0 (i := 1143) (by decide +kernel) rfl, (by intro h; cases h)⟩
theorem ct_X9_256 : CSS RX9 256 yX9_isLane false := ⟨mem0 (i := 1147) (by decide +kernel) rfl, fun _ => mem0 (i := 1146) (by decide +kernel) rfl, (by intro h; cases h)⟩
theorem cv_X9_261 : CSV RX9 261 yX9_finds := ⟨mem0 (i := 1150) (by decide +kernel) rfl, mem0 (i := 1152) (by decide +kernel) rfl, mem0 (i := 43) (by decide +kernel) rfl⟩
theorem ct_X9_266 : CSS RX9 266 yX9_saves false := ⟨mem0 (i := 1160) (by decide +kernel) rfl, fun _ => mem0 (i := 1159) (by decide +kernel) rfl, (by intro h; cases h)⟩
theorem ct_X9_273 : CSS RX9 273 yX9_gives false := ⟨mem0 (i := 1167) (by decide +kernel) rfl, fun _ => mem0 (i := 1166) (by decide +kernel) rfl, (by intro h; cases h)⟩
theorem ct_X9_277 : CSS RX9 277 yX9_cast false := ⟨mem0 (i := 1174) (by decide +kernel) rfl, fun _ => mem0 (i := 1173) (by decide +kernel) rfl, (by intro h; cases h)⟩
theorem ct_X9_71 : CSS RX9 71 yX9_in false := ⟨mem0 (i := 938) (by decide +kernel) rfl, fun _ => mem0 (i := 937) (by decide +kernel) rfl, (by intro h; cases h)⟩
theorem cv_X9_91 : CSV RX9 91 yX9_cupIs := ⟨mem0 (i := 951) (by decide +kernel) rfl, mem0 (i := 953) (by decide +kernel) rfl, mem0 (i := 23) (by decide +kernel) rfl⟩
theorem cv_X9_95 : CSV RX9 95 yX9_isCup := ⟨mem0 (i := 959) (by decide +kernel) rfl, mem0 (i := 961) (by decide +kernel) rfl, mem0 (i := 24) (by decide +kernel) rfl⟩
theorem ct_X3_76 : CSS RX3 76 yX8_addCup true := ⟨mem0 (i := 370) (by decide +kernel) rfl, (by intro h; cases h), fun _ => ⟨"BallInCup", memN (i := 474) (by decide +kernel) rfl⟩⟩
theorem ct_X3_80 : CSS RX3 80 yX8_addPart true := ⟨mem0 (i := 400) (by decide +kernel) rfl, (by intro h; cases h), fun _ => ⟨"BallInCup", memN (i := 497) (by decide +kernel) rfl⟩⟩
theorem ct_X3_84 : CSS RX3 84 yX8_isIn true := ⟨mem0 (i := 355) (by decide +kernel) rfl, (by intro h; cases h), fun _ => ⟨"BallInCup", memN (i := 462) (by decide +kernel) rfl⟩⟩
end
section
/-! ===== numbers ===== -/
theorem i_lt (a b : Int32) : a < b ↔ a.toInt < b.toInt := Int32.lt_iff_toInt_lt
theorem i_le (a b : Int32) : a ≤ b ↔ a.toInt ≤ b.toInt := Int32.le_iff_toInt_le
theorem i_eq (a b : Int32) : a = b ↔ a.toInt = b.toInt := ⟨fun h => by rw [h], fun h => Int32.toInt_inj.mp h⟩
theorem i_rng (x : Int32) : -2147483648 ≤ x.toInt ∧ x.toInt < 2147483648 := by
  have h1 := Int32.le_toInt x
  have h2 := Int32.toInt_lt x
  omega
theorem i_bmod {z : Int} (h1 : -2147483648 ≤ z) (h2 : z < 2147483648) : z.bmod (2 ^ 32) = z := by
  rw [Int.bmod_eq_of_le] <;> omega
theorem i_add {x y : Int32} (h1 : -2147483648 ≤ x.toInt + y.toInt) (h2 : x.toInt + y.toInt < 2147483648) : (x + y).toInt = x.toInt + y.toInt := by
  rw [Int32.toInt_add, i_bmod h1 h2]
theorem i_sub {x y : Int32} (h1 : -2147483648 ≤ x.toInt - y.toInt) (h2 : x.toInt - y.toInt < 2147483648) : (x - y).toInt = x.toInt - y.toInt := by
  rw [Int32.toInt_sub, i_bmod h1 h2]
theorem i_mul {x y : Int32} (h1 : -2147483648 ≤ x.toInt * y.toInt) (h2 : x.toInt * y.toInt < 2147483648) : (x * y).toInt = x.toInt * y.toInt := by
  rw [Int32.toInt_mul, i_bmod h1 h2]
theorem i_neg {x : Int32} (h : x.toInt ≠ -2147483648) : (-x).toInt = -x.toInt := by
  have := i_rng x
  rw [Int32.toInt_neg, i_bmod] <;> omega
theorem i_ofInt {z : Int} (h1 : -2147483648 ≤ z) (h2 : z < 2147483648) : (Int32.ofInt z).toInt = z := by
  rw [Int32.toInt_ofInt]
  exact i_bmod h1 h2
theorem i_as (x : Int32) : Int32.ofInt x.toInt = x := Int32.ofInt_toInt x
/-- an index between two tests -/
theorem in_cmp {a b : Int32} {n z : Nat} (h0 : ¬ a < 0) (h1 : ¬ b ≤ a) (hb : b = nI z) (hz : z ≤ n) (hn : n < 2 ^ 31) : vp_in a n := by
  subst hb
  rw [vp_in_iff]
  rw [i_lt] at h0
  rw [i_le, nI_toInt (by omega)] at h1
  have : (0 : Int32).toInt = 0 := rfl
  omega
theorem clamp_toInt {a : Int32} (h0 : ¬ a < 0) : (a.toNatClampNeg : Int) = a.toInt := by
  rw [i_lt] at h0
  have : (0 : Int32).toInt = 0 := rfl
  have h1 : a.toNatClampNeg = a.toInt.toNat := rfl
  omega
theorem clamp_lt {a : Int32} {n : Nat} (h : vp_in a n) : a.toNatClampNeg < n := Nat.not_le.mp fun q => h (Or.inr q)
theorem upd_s {f : Nat → Int32} {k : Nat} {x : Int32} : upd f k x k = x := if_pos rfl
theorem upd_n {f : Nat → Int32} {k j : Nat} {x : Int32} (h : j ≠ k) : upd f k x j = f j := if_neg h
theorem upM_s {mu : Mu} {k : Nat} {f : Nat → Int32} : upM mu k f k = f := if_pos rfl
theorem upM_n {mu : Mu} {k j : Nat} {f : Nat → Int32} (h : j ≠ k) : upM mu k f j = mu j := if_neg h
theorem upF_s {mu : Mu} {k i : Nat} {v : Int32} : upF mu k i v k i = v := by rw [upF, upM_s, upd_s]
theorem upF_i {mu : Mu} {k i j : Nat} {v : Int32} (h : j ≠ i) : upF mu k i v k j = mu k j := by rw [upF, upM_s, upd_n h]
theorem upF_k {mu : Mu} {k q i : Nat} {v : Int32} (h : q ≠ k) : upF mu k i v q = mu q := by rw [upF, upM_n h]
end
section
/-! ===== Table ===== -/
def isTab (k n c : Nat) : Prop := k + 2 + n ≤ NC ∧ sh k = .inl (6, [some (k + 1), none, none]) ∧ sh (k + 1) = .inr (.inr (n, k + 2)) ∧ aty (k + 1) = .array .int ∧ (∀ i, i < n → sh (k + 2 + i) = .inr (.inl c) ∧ aty (k + 2 + i) = .int) ∧ n ≤ 8 ∧ c ≤ 5
def TOK (mu : Mu) (k n c : Nat) : Prop := mu k 1 = nI c ∧ ∃ z, z ≤ n ∧ mu k 2 = nI z
def tin (mu : Mu) (k : Nat) (row col : Int32) : Prop := (¬ row < 0 ∧ ¬ mu k 2 ≤ row) ∧ (¬ col < 0 ∧ ¬ mu k 1 ≤ col)
theorem isTab.k {k n c : Nat} (h : isTab k n c) : k < NC := by have := h.1; omega
theorem isTab.k1 {k n c : Nat} (h : isTab k n c) : k + 1 < NC := by have := h.1; omega
theorem isTab.r {k n c i : Nat} (h : isTab k n c) (hi : i < n) : k + 2 + i < NC := by have := h.1; omega
theorem tin.row {mu : Mu} {k n c : Nat} {row : Int32} (hT : isTab k n c) (h : TOK mu k n c) (h0 : ¬ row < 0) (h1 : ¬ mu k 2 ≤ row) : vp_in row n := by
  obtain ⟨-, z, hz, e⟩ := h
  exact in_cmp h0 h1 e hz (by have := hT.2.2.2.2.2.1; omega)
theorem tin.col {mu : Mu} {k n c : Nat} {col : Int32} (hT : isTab k n c) (h : TOK mu k n c) (h0 : ¬ col < 0) (h1 : ¬ mu k 1 ≤ col) : vp_in col c := in_cmp h0 h1 h.1 (Nat.le_refl c) (by have := hT.2.2.2.2.2.2; omega)
/-- the cell's content, or 0 -/
def tget (mu : Mu) (k : Nat) (row col : Int32) : Int32 := if (¬ row < 0 ∧ ¬ mu k 2 ≤ row) ∧ (¬ col < 0 ∧ ¬ mu k 1 ≤ col) then mu (k + 2 + row.toNatClampNeg) col.toNatClampNeg else 0
set_option maxHeartbeats 4000000 in
set_option maxRecDepth 100000 in
theorem c_X6_isFull (k n c : Nat) (hT : isTab k n c) (mu : Mu) : Con yX6_isFull cX6_isFull 1 (some .boolean) 0 [vC k] mu (fun r mu2 => mu2 = mu ∧ r = if mu k 2 < nI n then 0 else 1) := by
  refine con_of (own := RX6) (by decide) rfl (Nat.le_of_ble_eq_true rfl) (fun X g hq => ?_)
  show WA X g RX6 1 cX6_isFull 0 [(0, vC k)] [] mu
  refine o_aload_n dX6_isFull_0 rfl rfl (by rfl) ?_
  refine o_getI cl_X6_26 dX6_isFull_1 rfl hT.k hT.2.1 (by rfl) ?_
  refine o_aload_n dX6_isFull_4 rfl rfl (by rfl) ?_
  refine o_getC (q := k+1) cl_X6_17 dX6_isFull_5 rfl hT.k hT.2.1 (by rfl) ?_
  refine o_alenQ (v := (nI n)) dX6_isFull_8 rfl hT.k1 hT.2.2.1 (by rfl) ?_
  refine o_icmp_lt (tgt := 16) dX6_isFull_9 (by decide) rfl (fun c9 => ?_) (fun c9 => ?_)
  · skip
    refine o_iconst (v := 0) dX6_isFull_16 rfl (by decide) ?_
    exact o_zret hq dX6_isFull_17 (Or.inl rfl) ⟨rfl, by simp [c9]⟩
  · skip
    refine o_iconst (v := 1) dX6_isFull_12 rfl (by decide) ?_
    refine o_goto (tgt := 17) dX6_isFull_13 (by decide) ?_
    exact o_zret hq dX6_isFull_17 (Or.inr rfl) ⟨rfl, by simp [c9]⟩
set_option maxHeartbeats 4000000 in
set_option maxRecDepth 100000 in
theorem c_X6_has (k n c : Nat) (hT : isTab k n c) (mu : Mu) (row : Int32) : Con yX6_has cX6_has 2 (some .boolean) 0 [vC k, vI row] mu (fun r mu2 => mu2 = mu ∧ r = if ¬ row < 0 ∧ ¬ mu k 2 ≤ row then 1 else 0) := by
  refine con_of (own := RX6) (by decide) rfl (Nat.le_of_ble_eq_true rfl) (fun X g hq => ?_)
  show WA X g RX6 2 cX6_has 0 [(0, vC k), (1, vI row)] [] mu
  refine o_iload_n dX6_has_0 rfl rfl (by rfl) ?_
  refine o_if_lt (tgt := 16) dX6_has_1 (by decide) rfl (fun c1 => ?_) (fun c1 => ?_)
  · skip
    refine o_iconst (v := 0) dX6_has_16 rfl (by decide) ?_
    exact o_zret hq dX6_has_17 (Or.inl rfl) ⟨rfl, by simp [c1]⟩
  · skip
    refine o_iload_n dX6_has_4 rfl rfl (by rfl) ?_
    refine o_aload_n dX6_has_5 rfl rfl (by rfl) ?_
    refine o_getI cl_X6_26 dX6_has_6 rfl hT.k hT.2.1 (by rfl) ?_
    refine o_icmp_ge (tgt := 16) dX6_has_9 (by decide) rfl (fun c9 => ?_) (fun c9 => ?_)
    · skip
      refine o_iconst (v := 0) dX6_has_16 rfl (by decide) ?_
      exact o_zret hq dX6_has_17 (Or.inl rfl) ⟨rfl, by simp [c1, c9]⟩
    · skip
      refine o_iconst (v := 1) dX6_has_12 rfl (by decide) ?_
      refine o_goto (tgt := 17) dX6_has_13 (by decide) ?_
      exact o_zret hq dX6_has_17 (Or.inr rfl) ⟨rfl, by simp [c1, c9]⟩
set_option maxHeartbeats 4000000 in
set_option maxRecDepth 100000 in
theorem c_X6_get (k n c : Nat) (hT : isTab k n c) (mu : Mu) (hO : TOK mu k n c) (row col : Int32) : Con yX6_get cX6_get 4 (some .int) 0 [vC k, vI row, vI col] mu (fun r mu2 => mu2 = mu ∧ r = tget mu k row col) := by
  refine con_of (own := RX6) (by decide) rfl (Nat.le_of_ble_eq_true rfl) (fun X g hq => ?_)
  show WA X g RX6 4 cX6_get 0 [(0, vC k), (1, vI row), (2, vI col)] [] mu
  refine o_iload_n dX6_get_0 rfl rfl (by rfl) ?_
  refine o_if_lt (tgt := 28) dX6_get_1 (by decide) rfl (fun c1 => ?_) (fun c1 => ?_)
  · skip
    refine o_iconst (v := 0) dX6_get_28 rfl (by decide) ?_
    refine o_istore_n (L' := [(0, vC k), (1, vI row), (2, vI col), (3, vI 0)]) dX6_get_29 rfl rfl (by decide) (by rfl) (by rfl) ?_
    refine o_iload_n dX6_get_30 rfl rfl (by rfl) ?_
    refine o_if_eq (tgt := 45) dX6_get_31 (by decide) rfl (fun c31 => ?_) (fun c31 => ?_)
    · skip
      refine o_iconst (v := 0) dX6_get_45 rfl (by decide) ?_
      exact o_iret hq dX6_get_46 ⟨rfl, by simp [tget, c1]⟩
    · skip
      exact absurd (by decide) c31
  · skip
    refine o_iload_n dX6_get_4 rfl rfl (by rfl) ?_
    refine o_aload_n dX6_get_5 rfl rfl (by rfl) ?_
    refine o_getI cl_X6_26 dX6_get_6 rfl hT.k hT.2.1 (by rfl) ?_
    refine o_icmp_ge (tgt := 28) dX6_get_9 (by decide) rfl (fun c9 => ?_) (fun c9 => ?_)
    · skip
      refine o_iconst (v := 0) dX6_get_28 rfl (by decide) ?_
      refine o_istore_n (L' := [(0, vC k), (1, vI row), (2, vI col), (3, vI 0)]) dX6_get_29 rfl rfl (by decide) (by rfl) (by rfl) ?_
      refine o_iload_n dX6_get_30 rfl rfl (by rfl) ?_
      refine o_if_eq (tgt := 45) dX6_get_31 (by decide) rfl (fun c31 => ?_) (fun c31 => ?_)
      · skip
        refine o_iconst (v := 0) dX6_get_45 rfl (by decide) ?_
        exact o_iret hq dX6_get_46 ⟨rfl, by simp [tget, c1, c9]⟩
      · skip
        exact absurd (by decide) c31
    · skip
      refine o_iload_n dX6_get_12 rfl rfl (by rfl) ?_
      refine o_if_lt (tgt := 28) dX6_get_13 (by decide) rfl (fun c13 => ?_) (fun c13 => ?_)
      · skip
        refine o_iconst (v := 0) dX6_get_28 rfl (by decide) ?_
        refine o_istore_n (L' := [(0, vC k), (1, vI row), (2, vI col), (3, vI 0)]) dX6_get_29 rfl rfl (by decide) (by rfl) (by rfl) ?_
        refine o_iload_n dX6_get_30 rfl rfl (by rfl) ?_
        refine o_if_eq (tgt := 45) dX6_get_31 (by decide) rfl (fun c31 => ?_) (fun c31 => ?_)
        · skip
          refine o_iconst (v := 0) dX6_get_45 rfl (by decide) ?_
          exact o_iret hq dX6_get_46 ⟨rfl, by simp [tget, c1, c9, c13]⟩
        · skip
          exact absurd (by decide) c31
      · skip
        refine o_iload_n dX6_get_16 rfl rfl (by rfl) ?_
        refine o_aload_n dX6_get_17 rfl rfl (by rfl) ?_
        refine o_getI cl_X6_22 dX6_get_18 rfl hT.k hT.2.1 (by rfl) ?_
        refine o_icmp_ge (tgt := 28) dX6_get_21 (by decide) rfl (fun c21 => ?_) (fun c21 => ?_)
        · skip
          refine o_iconst (v := 0) dX6_get_28 rfl (by decide) ?_
          refine o_istore_n (L' := [(0, vC k), (1, vI row), (2, vI col), (3, vI 0)]) dX6_get_29 rfl rfl (by decide) (by rfl) (by rfl) ?_
          refine o_iload_n dX6_get_30 rfl rfl (by rfl) ?_
          refine o_if_eq (tgt := 45) dX6_get_31 (by decide) rfl (fun c31 => ?_) (fun c31 => ?_)
          · skip
            refine o_iconst (v := 0) dX6_get_45 rfl (by decide) ?_
            exact o_iret hq dX6_get_46 ⟨rfl, by simp [tget, c1, c9, c13, c21]⟩
          · skip
            exact absurd (by decide) c31
        · skip
          refine o_iconst (v := 1) dX6_get_24 rfl (by decide) ?_
          refine o_goto (tgt := 29) dX6_get_25 (by decide) ?_
          refine o_istore_n (L' := [(0, vC k), (1, vI row), (2, vI col), (3, vI 1)]) dX6_get_29 rfl rfl (by decide) (by rfl) (by rfl) ?_
          refine o_iload_n dX6_get_30 rfl rfl (by rfl) ?_
          refine o_if_eq (tgt := 45) dX6_get_31 (by decide) rfl (fun c31 => ?_) (fun c31 => ?_)
          · skip
            exact absurd c31 (by decide)
          · skip
            refine o_aload_n dX6_get_34 rfl rfl (by rfl) ?_
            refine o_getC (q := k+1) cl_X6_17 dX6_get_35 rfl hT.k hT.2.1 (by rfl) ?_
            refine o_iload_n dX6_get_38 rfl rfl (by rfl) ?_
            refine o_aald dX6_get_39 rfl hT.k1 hT.2.2.1 hT.2.2.2.1 (tin.row hT hO c1 c9) ?_
            refine o_iload_n dX6_get_40 rfl rfl (by rfl) ?_
            refine o_iald dX6_get_41 rfl (hT.r (clamp_lt (tin.row hT hO c1 c9))) (hT.2.2.2.2.1 _ (clamp_lt (tin.row hT hO c1 c9))).1 (hT.2.2.2.2.1 _ (clamp_lt (tin.row hT hO c1 c9))).2 (tin.col hT hO c13 c21) ?_
            refine o_goto (tgt := 46) dX6_get_42 (by decide) ?_
            exact o_iret hq dX6_get_46 ⟨rfl, by simp [tget, c1, c9, c13, c21]⟩
theorem if10 {p : Prop} [Decidable p] {r : Int32} (h : r = if p then 1 else 0) : (r = 0 → ¬ p) ∧ (¬ r = 0 → p) := by
  by_cases q : p
  · rw [if_pos q] at h
    exact ⟨fun e => absurd (h.symm.trans e) (by decide), fun _ => q⟩
  · rw [if_neg q] at h
    exact ⟨fun _ => q, fun e => absurd h e⟩
theorem if01 {p : Prop} [Decidable p] {r : Int32} (h : r = if p then 0 else 1) : (r = 0 → p) ∧ (¬ r = 0 → ¬ p) := by
  by_cases q : p
  · rw [if_pos q] at h
    exact ⟨fun _ => q, fun e => absurd h e⟩
  · rw [if_neg q] at h
    exact ⟨fun e => absurd (h.symm.trans e) (by decide), fun _ => q⟩
def tput (mu : Mu) (k : Nat) (row col v : Int32) : Mu := if (¬ row < 0 ∧ ¬ mu k 2 ≤ row) ∧ (¬ col < 0 ∧ ¬ mu k 1 ≤ col) then upF mu (k + 2 + row.toNatClampNeg) col.toNatClampNeg v else mu
set_option maxHeartbeats 4000000 in
set_option maxRecDepth 100000 in
theorem c_X6_put (k n c : Nat) (hT : isTab k n c) (mu : Mu) (hO : TOK mu k n c) (row col v : Int32) : ConV yX6_put cX6_put 4 1 [vC k, vI row, vI col, vI v] mu (fun mu2 => mu2 = tput mu k row col v) := by
  refine conV_of (own := RX6) (by decide) rfl (Nat.le_of_ble_eq_true rfl) (fun X g hq => ?_)
  show WA X g RX6 4 cX6_put 0 [(0, vC k), (1, vI row), (2, vI col), (3, vI v)] [] mu
  refine o_aload_n dX6_put_0 rfl rfl (by rfl) ?_
  refine o_iload_n dX6_put_1 rfl rfl (by rfl) ?_
  refine o_callV cs_X6_has cv_X6_29 (c_X6_has k n c hT mu row) hq.2.2.2 (Nat.le_of_ble_eq_true rfl) dX6_put_2 rfl hT.k hT.2.1 (by rfl) (by rfl) rfl rfl (Nat.le_of_ble_eq_true rfl) (fun r1 mu1 h1 => ?_)
  obtain ⟨rfl, hr⟩ := h1
  refine o_if_eq (tgt := 29) dX6_put_5 (by decide) rfl (fun c5 => ?_) (fun c5 => ?_)
  · skip
    have hb := (if10 hr).1 c5
    exact o_vret hq dX6_put_29 (by rw [tput, if_neg (fun h => hb h.1)])
  · skip
    have hb := (if10 hr).2 c5
    refine o_iload_n dX6_put_8 rfl rfl (by rfl) ?_
    refine o_if_lt (tgt := 29) dX6_put_9 (by decide) rfl (fun c9 => ?_) (fun c9 => ?_)
    · skip
      exact o_vret hq dX6_put_29 (by rw [tput, if_neg (fun h => h.2.1 c9)])
    · skip
      refine o_iload_n dX6_put_12 rfl rfl (by rfl) ?_
      refine o_aload_n dX6_put_13 rfl rfl (by rfl) ?_
      refine o_getI cl_X6_22 dX6_put_14 rfl hT.k hT.2.1 (by rfl) ?_
      refine o_icmp_ge (tgt := 29) dX6_put_17 (by decide) rfl (fun c17 => ?_) (fun c17 => ?_)
      · skip
        exact o_vret hq dX6_put_29 (by rw [tput, if_neg (fun h => h.2.2 c17)])
      · skip
        refine o_aload_n dX6_put_20 rfl rfl (by rfl) ?_
        refine o_getC (q := k+1) cl_X6_17 dX6_put_21 rfl hT.k hT.2.1 (by rfl) ?_
        refine o_iload_n dX6_put_24 rfl rfl (by rfl) ?_
        refine o_aald dX6_put_25 rfl hT.k1 hT.2.2.1 hT.2.2.2.1 (tin.row hT hO hb.1 hb.2) ?_
        refine o_iload_n dX6_put_26 rfl rfl (by rfl) ?_
        refine o_iload_n dX6_put_27 rfl rfl (by rfl) ?_
        refine o_iast dX6_put_28 rfl (hT.r (clamp_lt (tin.row hT hO hb.1 hb.2))) (hT.2.2.2.2.1 _ (clamp_lt (tin.row hT hO hb.1 hb.2))).1 (hT.2.2.2.2.1 _ (clamp_lt (tin.row hT hO hb.1 hb.2))).2 (tin.col hT hO c9 c17) ?_
        exact o_vret hq dX6_put_29 (by rw [tput, if_pos ⟨hb, c9, c17⟩])
set_option maxHeartbeats 4000000 in
set_option maxRecDepth 100000 in
theorem c_X6_grow (k n c : Nat) (hT : isTab k n c) (mu : Mu) : Con yX6_grow cX6_grow 1 (some .int) 1 [vC k] mu (fun r mu2 => (mu k 2 < nI n ∧ mu2 = upF mu k 2 (mu k 2 + 1) ∧ r = mu k 2) ∨ (¬ mu k 2 < nI n ∧ mu2 = mu ∧ r = -3)) := by
  refine con_of (own := RX6) (by decide) rfl (Nat.le_of_ble_eq_true rfl) (fun X g hq => ?_)
  show WA X g RX6 1 cX6_grow 0 [(0, vC k)] [] mu
  refine o_aload_n dX6_grow_0 rfl rfl (by rfl) ?_
  refine o_callV cs_X6_isFull cv_X6_33 (c_X6_isFull k n c hT mu) hq.2.2.2 (Nat.le_of_ble_eq_true rfl) dX6_grow_1 rfl hT.k hT.2.1 (by rfl) (by rfl) rfl rfl (Nat.le_of_ble_eq_true rfl) (fun r1 mu1 h1 => ?_)
  obtain ⟨rfl, hr⟩ := h1
  refine o_if_eq (tgt := 10) dX6_grow_4 (by decide) rfl (fun c4 => ?_) (fun c4 => ?_)
  · skip
    have hb := (if01 hr).1 c4
    refine o_aload_n dX6_grow_10 rfl rfl (by rfl) ?_
    refine o_dup dX6_grow_11 rfl rfl ?_
    refine o_getI cl_X6_26 dX6_grow_12 rfl hT.k hT.2.1 (by rfl) ?_
    refine o_iconst (v := 1) dX6_grow_15 rfl (by decide) ?_
    refine o_iadd dX6_grow_16 rfl ?_
    refine o_put cl_X6_26 cp_X6_2 dX6_grow_17 rfl hT.k hT.2.1 (by rfl) fitI ?_
    refine o_aload_n dX6_grow_20 rfl rfl (by rfl) ?_
    refine o_getI cl_X6_26 dX6_grow_21 rfl hT.k hT.2.1 (by rfl) ?_
    refine o_iconst (v := 1) dX6_grow_24 rfl (by decide) ?_
    refine o_isub dX6_grow_25 rfl ?_
    exact o_iret hq dX6_grow_26 (Or.inl ⟨hb, rfl, by rw [upF_s]; exact Int32.add_sub_cancel _ _⟩)
  · skip
    have hb := (if01 hr).2 c4
    refine o_bipush (v := (-3)) dX6_grow_7 rfl (by decide) ?_
    exact o_iret hq dX6_grow_9 (Or.inr ⟨hb, rfl, rfl⟩)
set_option maxHeartbeats 4000000 in
set_option maxRecDepth 100000 in
theorem c_X6_empty (k n c : Nat) (hT : isTab k n c) (mu : Mu) : Con yX6_empty cX6_empty 2 (some .int) 0 [vC k] mu (fun r mu2 => mu2 = upF mu k 2 0 ∧ r = mu k 2) := by
  refine con_of (own := RX6) (by decide) rfl (Nat.le_of_ble_eq_true rfl) (fun X g hq => ?_)
  show WA X g RX6 2 cX6_empty 0 [(0, vC k)] [] mu
  refine o_aload_n dX6_empty_0 rfl rfl (by rfl) ?_
  refine o_getI cl_X6_26 dX6_empty_1 rfl hT.k hT.2.1 (by rfl) ?_
  refine o_istore_n (L' := [(0, vC k), (1, vI (mu k 2))]) dX6_empty_4 rfl rfl (by decide) (by rfl) (by rfl) ?_
  refine o_aload_n dX6_empty_5 rfl rfl (by rfl) ?_
  refine o_iconst (v := 0) dX6_empty_6 rfl (by decide) ?_
  refine o_put cl_X6_26 cp_X6_2 dX6_empty_7 rfl hT.k hT.2.1 (by rfl) fitI ?_
  refine o_iload_n dX6_empty_10 rfl rfl (by rfl) ?_
  exact o_iret hq dX6_empty_11 ⟨rfl, rfl⟩
end
section
theorem o_pick {X : CX} {g : GX} {own : String} {nL : Nat} {cc : ByteArray} {pc : Nat} {L L' : List (Nat × AV)} {st : List AV} {mu : Mu} (ps : List Nat) (h : ps.filterMap (fun i => L[i]?) = L') (k : WA X g own nL cc pc L' st mu) : WA X g own nL cc pc L st mu := by
  intro F H locs ls hP hS hl
  refine k F H locs ls hP hS ⟨hl.1, hl.2.1, fun q hq => ?_⟩
  obtain ⟨q0, hq0, rfl⟩ := List.mem_map.mp hq
  rw [← h] at hq0
  obtain ⟨i, -, hi⟩ := List.mem_filterMap.mp hq0
  exact hl.2.2 _ (List.mem_map.mpr ⟨q0, List.mem_of_getElem? hi, rfl⟩)
/-! ===== Table.takeAll ===== -/
def CP (mu m : Mu) (k k2 n c z i j : Nat) : Prop := m k 2 = nI z ∧ m k 1 = nI c ∧ (∀ q, (q < k ∨ k + 2 + n ≤ q) → m q = mu q) ∧ (∀ a b, a < i → b < c → m (k + 2 + a) b = mu (k2 + 2 + a) b) ∧ (∀ b, b < j → m (k + 2 + i) b = mu (k2 + 2 + i) b)
theorem CP.step {mu m : Mu} {k k2 n c z i j : Nat} {v : Int32} (h : CP mu m k k2 n c z i j) (hi : i < n) (hv : v = mu (k2 + 2 + i) j) : CP mu (upF m (k + 2 + i) j v) k k2 n c z i (j + 1) := by
  obtain ⟨h1, h2, h3, h4, h5⟩ := h
  refine ⟨by rw [upF_k (by omega)]; exact h1, by rw [upF_k (by omega)]; exact h2, fun q hq => by rw [upF_k (by omega)]; exact h3 q hq, fun a b ha hb => by rw [upF_k (by omega)]; exact h4 a b ha hb, fun b hb => ?_⟩
  by_cases e : b = j
  · subst e
    rw [upF_s, hv]
  · rw [upF_i e]
    exact h5 b (by omega)
theorem CP.next {mu m : Mu} {k k2 n c z i j : Nat} (h : CP mu m k k2 n c z i j) (hj : c ≤ j) : CP mu m k k2 n c z (i + 1) 0 := by
  obtain ⟨h1, h2, h3, h4, h5⟩ := h
  refine ⟨h1, h2, h3, fun a b ha hb => ?_, fun b hb => by omega⟩
  by_cases e : a = i
  · subst e
    exact h5 b (by omega)
  · exact h4 a b (by omega) hb
theorem tget_in {mu : Mu} {k z c i j : Nat} (h2 : mu k 2 = nI z) (h1 : mu k 1 = nI c) (hi : i < z) (hj : j < c) (hz : z < 2 ^ 31) (hc : c < 2 ^ 31) : tget mu k (nI i) (nI j) = mu (k + 2 + i) j := by
  rw [tget, if_pos, nI_clamp (by omega), nI_clamp (by omega)]
  rw [h2, h1]
  exact ⟨⟨nI_pos (by omega), nI_ge hi hz⟩, nI_pos (by omega), nI_ge hj hc⟩
theorem nI_dec {a b : Nat} (h : ¬ nI b ≤ nI a) (ha : a < 2 ^ 31) (hb : b < 2 ^ 31) : a < b := by
  rcases Nat.lt_or_ge a b with q | q
  · exact q
  · exact absurd (nI_le q ha) h
theorem nI_dec2 {a b : Nat} (h : nI b ≤ nI a) (ha : a < 2 ^ 31) (hb : b < 2 ^ 31) : b ≤ a := by
  rcases Nat.lt_or_ge a b with q | q
  · exact absurd h (nI_ge q hb)
  · exact q
set_option maxHeartbeats 4000000 in
set_option maxRecDepth 100000 in
theorem c_X6_takeAll (k k2 n c z : Nat) (hT : isTab k n c) (hT2 : isTab k2 n c) (hx : k + 2 + n ≤ k2 ∨ k2 + 2 + n ≤ k) (mu : Mu) (hO : mu k 1 = nI c) (hO2 : mu k2 1 = nI c) (hz : z ≤ n) (ez : mu k2 2 = nI z) : ConV yX6_takeAll cX6_takeAll 4 1 [vC k, vC k2] mu (fun mu2 => CP mu mu2 k k2 n c z z 0) := by
  refine conV_of (own := RX6) (by decide) rfl (Nat.le_of_ble_eq_true rfl) (fun X g hq => ?_)
  show WA X g RX6 4 cX6_takeAll 0 [(0, vC k), (1, vC k2)] [] mu
  have hn8 := hT.2.2.2.2.2.1
  have hc5 := hT.2.2.2.2.2.2
  refine o_aload_n dX6_takeAll_0 rfl rfl (by rfl) ?_
  refine o_aload_n dX6_takeAll_1 rfl rfl (by rfl) ?_
  refine o_getI cl_X6_26 dX6_takeAll_2 rfl hT2.k hT2.2.1 (by rfl) ?_
  refine o_aload_n dX6_takeAll_5 rfl rfl (by rfl) ?_
  refine o_getC (q := k+1) cl_X6_17 dX6_takeAll_6 rfl hT.k hT.2.1 (by rfl) ?_
  refine o_alenQ (v := (nI n)) dX6_takeAll_9 rfl hT.k1 hT.2.2.1 (by rfl) ?_
  refine o_mmin (d := 0) mt_X6_37 hq.2.2.2 dX6_takeAll_10 rfl (Nat.le_of_ble_eq_true rfl) ?_
  refine o_put cl_X6_26 cp_X6_2 dX6_takeAll_13 rfl hT.k hT.2.1 (by rfl) fitI ?_
  have hC0 : CP mu (upF mu k 2 (if nI n < mu k2 2 then nI n else mu k2 2)) k k2 n c z 0 0 := ⟨by rw [upF_s, ez, if_neg (nI_nlt hz (by omega))], by rw [upF_i (by decide)]; exact hO, fun q hq => upF_k (by omega), fun a b h => by omega, fun b h => by omega⟩
  refine o_iconst (v := 0) dX6_takeAll_16 rfl (by decide) ?_
  refine o_istore_n (L' := [(0, vC k), (1, vC k2), (2, vI 0)]) dX6_takeAll_17 rfl rfl (by decide) (by rfl) (by rfl) ?_
  have LP18 : ∀ (nLP18 : Nat) (i : Nat) (m : Mu) , (i ≤ z) → (CP mu m k k2 n c z i 0) → (z < i + nLP18) → WA X g RX6 4 cX6_takeAll 18 [(0, vC k), (1, vC k2), (2, vI (nI i))] [] m := by
    intro nLP18
    induction nLP18 with
    | zero =>
      intro i m hi hC hm
      exact absurd hm (by omega)
    | succ nLP18 ihLP18 =>
      intro i m hi hC hm
      refine o_iload_n dX6_takeAll_18 rfl rfl (by rfl) ?_
      refine o_aload_n dX6_takeAll_19 rfl rfl (by rfl) ?_
      refine o_getI cl_X6_26 dX6_takeAll_20 rfl hT.k hT.2.1 (by rfl) ?_
      refine o_icmp_ge (tgt := 62) dX6_takeAll_23 (by decide) rfl (fun c23 => ?_) (fun c23 => ?_)
      · skip
        rw [hC.1] at c23
        have hzi := nI_dec2 c23 (by omega) (by omega)
        have hie : i = z := by omega
        subst hie
        exact o_vret hq dX6_takeAll_62 hC
      · skip
        rw [hC.1] at c23
        have hiz := nI_dec c23 (by omega) (by omega)
        refine o_iconst (v := 0) dX6_takeAll_26 rfl (by decide) ?_
        refine o_istore_n (L' := [(0, vC k), (1, vC k2), (2, vI (nI i)), (3, vI 0)]) dX6_takeAll_27 rfl rfl (by decide) (by rfl) (by rfl) ?_
        have LP28 : ∀ (nLP28 : Nat) (j : Nat) (m2 : Mu) , (j ≤ c) → (CP mu m2 k k2 n c z i j) → (c < j + nLP28) → WA X g RX6 4 cX6_takeAll 28 [(0, vC k), (1, vC k2), (2, vI (nI i)), (3, vI (nI j))] [] m2 := by
          intro nLP28
          induction nLP28 with
          | zero =>
            intro j m2 hj0 hC2 hm2
            exact absurd hm2 (by omega)
          | succ nLP28 ihLP28 =>
            intro j m2 hj0 hC2 hm2
            refine o_iload_n dX6_takeAll_28 rfl rfl (by rfl) ?_
            refine o_aload_n dX6_takeAll_29 rfl rfl (by rfl) ?_
            refine o_getI cl_X6_22 dX6_takeAll_30 rfl hT.k hT.2.1 (by rfl) ?_
            refine o_icmp_ge (tgt := 56) dX6_takeAll_33 (by decide) rfl (fun c33 => ?_) (fun c33 => ?_)
            · skip
              rw [hC2.2.1] at c33
              have hcj := nI_dec2 c33 (by omega) (by omega)
              refine o_iinc (v := nI (i + 1)) (L' := [(0, vC k), (1, vC k2), (2, vI (nI (i + 1))), (3, vI (nI j))]) dX6_takeAll_56 rfl (by rfl) (by exact nI_1 i) (by decide) (by rfl) (by rfl) ?_
              refine o_goto (tgt := 18) dX6_takeAll_59 (by decide) ?_
              refine o_pick (L' := [(0, vC k), (1, vC k2), (2, vI (nI (i + 1)))]) [0, 1, 2] (by rfl) ?_
              exact ihLP18 (i + 1) _ (by omega) (hC2.next (by omega)) (by omega)
            · skip
              rw [hC2.2.1] at c33
              have hj := nI_dec c33 (by omega) (by omega)
              refine o_aload_n dX6_takeAll_36 rfl rfl (by rfl) ?_
              refine o_getC (q := k+1) cl_X6_17 dX6_takeAll_37 rfl hT.k hT.2.1 (by rfl) ?_
              refine o_iload_n dX6_takeAll_40 rfl rfl (by rfl) ?_
              refine o_aald dX6_takeAll_41 rfl hT.k1 hT.2.2.1 hT.2.2.2.1 (vp_in_nI (by omega) (by omega)) ?_
              refine o_iload_n dX6_takeAll_42 rfl rfl (by rfl) ?_
              refine o_aload_n dX6_takeAll_43 rfl rfl (by rfl) ?_
              refine o_iload_n dX6_takeAll_44 rfl rfl (by rfl) ?_
              refine o_iload_n dX6_takeAll_45 rfl rfl (by rfl) ?_
              refine o_callV cs_X6_get cv_X6_40 (c_X6_get k2 n c hT2 m2 ⟨by rw [hC2.2.2.1 k2 (by omega)]; exact hO2, z, hz, by rw [hC2.2.2.1 k2 (by omega)]; exact ez⟩ (nI i) (nI j)) hq.2.2.2 (Nat.le_of_ble_eq_true rfl) dX6_takeAll_46 rfl hT2.k hT2.2.1 (by rfl) (by rfl) rfl rfl (Nat.le_of_ble_eq_true rfl) (fun r mu1 h1 => ?_)
              obtain ⟨em, hr⟩ := h1
              rw [em]
              rw [tget_in (by rw [hC2.2.2.1 k2 (by omega)]; exact ez) (by rw [hC2.2.2.1 k2 (by omega)]; exact hO2) hiz hj (by omega) (by omega), hC2.2.2.1 _ (by omega)] at hr
              refine o_iast dX6_takeAll_49 rfl (by rw [nI_clamp (by omega)]; exact hT.r (by omega)) (by rw [nI_clamp (by omega)]; exact (hT.2.2.2.2.1 _ (by omega)).1) (by rw [nI_clamp (by omega)]; exact (hT.2.2.2.2.1 _ (by omega)).2) (vp_in_nI hj (by omega)) ?_
              refine o_iinc (v := nI (j + 1)) (L' := [(0, vC k), (1, vC k2), (2, vI (nI i)), (3, vI (nI (j + 1)))]) dX6_takeAll_50 rfl (by rfl) (by exact nI_1 j) (by decide) (by rfl) (by rfl) ?_
              refine o_goto (tgt := 28) dX6_takeAll_53 (by decide) ?_
              exact ihLP28 (j + 1) _ (by omega) (by rw [nI_clamp (by omega), nI_clamp (by omega)]; exact hC2.step (by omega) hr) (by omega)
        exact LP28 (c + 1) 0 _ (by omega) hC (by omega)
  exact LP18 (z + 1) 0 _ (by omega) hC0 (by omega)
end
section
/-! ===== a try, as numbers: E 0 cord, 1 weight, 2 soft, 3 whether cups are met, 4 the late cup or -1, 5 late from; C cups, nc how many; U, V the hand's steps.
 s 0 x, 1 y, 2 pace x, 3 pace y, 4 turn, 5 spin, 6 hand x, 7 hand y, 8 taut, 9 caught or -1, 10 rims, 11 tauts, 12 steps, 13 u, 14 v ===== -/
def ab (x : Int32) : Int32 := if 0 ≤ x then x else 0 - x
def IsRt (v r : Int32) : Prop := 0 ≤ r.toInt ∧ r.toInt * r.toInt ≤ v.toInt ∧ v.toInt < (r.toInt + 1) * (r.toInt + 1)
noncomputable def rt (v : Int32) : Int32 := Classical.epsilon (fun r => IsRt v r)
theorem IsRt.one {v r q : Int32} (h : IsRt v r) (h2 : IsRt v q) : r = q := by
  obtain ⟨a1, a2, a3⟩ := h
  obtain ⟨b1, b2, b3⟩ := h2
  rw [i_eq]
  rcases Int.lt_trichotomy r.toInt q.toInt with e | e | e
  · have : (r.toInt + 1) * (r.toInt + 1) ≤ q.toInt * q.toInt := Int.mul_le_mul (by omega) (by omega) (by omega) (by omega)
    omega
  · exact e
  · have : (q.toInt + 1) * (q.toInt + 1) ≤ r.toInt * r.toInt := Int.mul_le_mul (by omega) (by omega) (by omega) (by omega)
    omega
theorem rt_is {v r : Int32} (h : IsRt v r) : rt v = r := (Classical.epsilon_spec (p := fun r => IsRt v r) ⟨r, h⟩).one h
def FsP (P : Nat → Prop) (n : Nat) (r : Int32) : Prop := (∃ i, i < n ∧ r = nI i ∧ P i ∧ ∀ j, j < i → ¬ P j) ∨ (r = -1 ∧ ∀ i, i < n → ¬ P i)
noncomputable def fstc (P : Nat → Prop) (n : Nat) : Int32 := Classical.epsilon (FsP P n)
theorem FsP.one {P : Nat → Prop} {n : Nat} {r q : Int32} (h : FsP P n r) (h2 : FsP P n q) : r = q := by
  rcases h with ⟨i, hi, rfl, hp, hm⟩ | ⟨rfl, h⟩ <;> rcases h2 with ⟨j, hj, rfl, hq, hn⟩ | ⟨rfl, h2⟩
  · rcases Nat.lt_trichotomy i j with e | e | e
    · exact absurd hp (hn i e)
    · rw [e]
    · exact absurd hq (hm j e)
  · exact absurd hp (h2 i hi)
  · exact absurd hq (h j hj)
  · rfl
theorem fstc_is {P : Nat → Prop} {n : Nat} {r : Int32} (h : FsP P n r) : fstc P n = r := (Classical.epsilon_spec (p := FsP P n) ⟨r, h⟩).one h
def cmp3 (a b : Int32) : Int32 := if a < b then -1 else if a = b then 0 else 1
abbrev Vc : Type := Nat → Int32
def sSide (E : Vc) (C : Nat → Vc) (s : Vc) : Int32 := if E 4 = -1 ∨ s 12 < E 5 ∨ ¬ s 8 = 0 then 0 else cmp3 (s 0 - s 6) (C (E 4).toNatClampNeg 0)
def sU (E : Vc) (C : Nat → Vc) (U : Vc) (s : Vc) : Int32 := sSide E C s + U (s 12).toNatClampNeg
def sHx (E : Vc) (C : Nat → Vc) (U : Vc) (s : Vc) : Int32 := s 6 + sU E C U s
def sHy (V : Vc) (s : Vc) : Int32 := s 7 + V (s 12).toNatClampNeg
def sP (E : Vc) (C : Nat → Vc) (U : Vc) (s : Vc) : Int32 := s 0 + s 2 - sHx E C U s
def sQ (E : Vc) (V : Vc) (s : Vc) : Int32 := s 1 + (s 3 - E 1) - sHy V s
def sSq (p q : Int32) : Int32 := p * p + q * q
/-- behind the cord: 6 x, 7 y, 8 pace x, 9 pace y, 10 turn, 11 spin, 12 taut, 16 tauts, out of what they were -/
noncomputable def hold (cord hx hy u : Int32) (f : Vc) (j : Nat) : Int32 :=
  if cord * cord < sSq (f 6 - hx) (f 7 - hy) then
    (if j = 6 then hx + (f 6 - hx) * cord / rt (sSq (f 6 - hx) (f 7 - hy)) else if j = 7 then hy + (f 7 - hy) * cord / rt (sSq (f 6 - hx) (f 7 - hy)) else
     if j = 8 then f 8 + ((f 6 - hx) * cord / rt (sSq (f 6 - hx) (f 7 - hy)) - (f 6 - hx)) else if j = 9 then f 9 + ((f 7 - hy) * cord / rt (sSq (f 6 - hx) (f 7 - hy)) - (f 7 - hy)) else
     if j = 10 then 0 else if j = 11 then (f 8 + ((f 6 - hx) * cord / rt (sSq (f 6 - hx) (f 7 - hy)) - (f 6 - hx)) - u) / 3 else if j = 12 then 1 else if j = 16 then f 16 + 1 else f j)
  else (if j = 10 then (f 10 + f 11) &&& 15 else if j = 12 then 0 else f j)
def cupIn (C : Nat → Vc) (ay nx ny : Int32) (i : Nat) : Prop := (C i 1 ≤ ay ∧ ny < C i 1) ∧ ab (nx - C i 0) ≤ C i 2 + 2
noncomputable def metC (C : Nat → Vc) (nc : Nat) (ay nx ny : Int32) : Int32 := fstc (cupIn C ay nx ny) nc
def upr (t : Int32) : Prop := t = 15 ∨ t = 0 ∨ t = 1
def soft (E : Vc) (C : Nat → Vc) (hx u : Int32) (f : Vc) (c : Int32) : Prop := ab (f 6 - hx - C c.toNatClampNeg 0) ≤ C c.toNatClampNeg 2 ∧ ab (f 8 - u) ≤ E 2 ∧ (C c.toNatClampNeg 4 = 0 ∨ upr (f 10))
end
section
/-! ===== the tables of the world ===== -/
theorem tab3 : isTab 3 4 5 := ⟨by decide, rfl, rfl, rfl, by decide +kernel, by decide, by decide⟩
theorem tab9 : isTab 9 6 3 := ⟨by decide, rfl, rfl, rfl, by decide +kernel, by decide, by decide⟩
theorem tab17 : isTab 17 8 4 := ⟨by decide, rfl, rfl, rfl, by decide +kernel, by decide, by decide⟩
theorem tab29 : isTab 29 4 5 := ⟨by decide, rfl, rfl, rfl, by decide +kernel, by decide, by decide⟩
theorem tab35 : isTab 35 6 3 := ⟨by decide, rfl, rfl, rfl, by decide +kernel, by decide, by decide⟩
theorem tab43 : isTab 43 8 4 := ⟨by decide, rfl, rfl, rfl, by decide +kernel, by decide, by decide⟩
theorem tab72 : isTab 72 4 5 := ⟨by decide, rfl, rfl, rfl, by decide +kernel, by decide, by decide⟩
theorem tab78 : isTab 78 6 3 := ⟨by decide, rfl, rfl, rfl, by decide +kernel, by decide, by decide⟩
theorem TOK.cg {m mu : Mu} {k n c : Nat} (e : m k = mu k) (h : TOK mu k n c) : TOK m k n c := by
  unfold TOK
  rw [e]
  exact h
theorem tget_cg {m mu : Mu} {k n c : Nat} {row col : Int32} (hT : isTab k n c) (hO : TOK mu k n c) (h : ∀ q, k ≤ q → q < k + 2 + n → m q = mu q) : tget m k row col = tget mu k row col := by
  unfold tget
  rw [h k (Nat.le_refl k) (by omega)]
  by_cases e : (¬ row < 0 ∧ ¬ mu k 2 ≤ row) ∧ (¬ col < 0 ∧ ¬ mu k 1 ≤ col)
  · have := clamp_lt (tin.row hT hO e.1.1 e.1.2)
    rw [if_pos e, if_pos e, h _ (by omega) (by omega)]
  · rw [if_neg e, if_neg e]
/-! ===== Hand ===== -/
theorem v9 {f g : Vc} (h1 : f 1 = g 1) (h2 : f 2 = g 2) (h3 : f 3 = g 3) (h4 : f 4 = g 4) (h5 : f 5 = g 5) (h6 : f 6 = g 6) (h7 : f 7 = g 7) (h8 : f 8 = g 8) : ∀ j, 0 < j → j < 9 → f j = g j := by
  intro j a b
  match j, a, b with
  | 1, _, _ => exact h1
  | 2, _, _ => exact h2
  | 3, _, _ => exact h3
  | 4, _, _ => exact h4
  | 5, _, _ => exact h5
  | 6, _, _ => exact h6
  | 7, _, _ => exact h7
  | 8, _, _ => exact h8
  | j + 9, _, b => omega
def hbeg (u v : Int32) (j : Nat) : Int32 := if j = 1 then u else if j = 2 then v else if j = 3 then -1 else 0
def hmid (mu : Mu) (f : Vc) : Int32 × Int32 := if f 4 = 0 ∧ ¬ mu 9 2 ≤ f 3 then (f 3 + 1, tget mu 9 (f 3 + 1) 0) else (f 3, f 4)
def hgoU (mu : Mu) (f : Vc) : Int32 := if ¬ (hmid mu f).2 ≤ 0 then (if (hmid mu f).1 = 0 then f 1 else tget mu 9 (hmid mu f).1 1) else 0
def hgoV (mu : Mu) (f : Vc) : Int32 := if ¬ (hmid mu f).2 ≤ 0 then (if (hmid mu f).1 = 0 then f 2 else tget mu 9 (hmid mu f).1 2) else 0
def hgoF (mu : Mu) (a : Int32) (f : Vc) (j : Nat) : Int32 := if j = 1 then f 1 else if j = 2 then f 2 else if j = 3 then (hmid mu f).1 else if j = 4 then (if ¬ (hmid mu f).2 ≤ 0 then (hmid mu f).2 - 1 else (hmid mu f).2) else if j = 5 then a + hgoU mu f else if j = 6 then hgoV mu f else if j = 7 then f 7 + (a + hgoU mu f) else f 8 + hgoV mu f
set_option maxHeartbeats 4000000 in
set_option maxRecDepth 100000 in
theorem c_X1_begin (mu : Mu) (u v : Int32) : ConV yX1_begin cX1_begin 3 0 [vC 54, vI u, vI v] mu (fun mu2 => (∀ q, q ≠ 54 → mu2 q = mu q) ∧ ∀ j, 0 < j → j < 9 → mu2 54 j = hbeg u v j) := by
  refine conV_of (own := RX1) (by decide) rfl (Nat.le_of_ble_eq_true rfl) (fun X g hq => ?_)
  show WA X g RX1 3 cX1_begin 0 [(0, vC 54), (1, vI u), (2, vI v)] [] mu
  refine o_aload_n dX1_begin_0 rfl rfl (by rfl) ?_
  refine o_iload_n dX1_begin_1 rfl rfl (by rfl) ?_
  refine o_put cl_X1_15 cp_X1_1 dX1_begin_2 rfl (by decide) (by rfl) (by rfl) fitI ?_
  refine o_aload_n dX1_begin_5 rfl rfl (by rfl) ?_
  refine o_iload_n dX1_begin_6 rfl rfl (by rfl) ?_
  refine o_put cl_X1_19 cp_X1_2 dX1_begin_7 rfl (by decide) (by rfl) (by rfl) fitI ?_
  refine o_aload_n dX1_begin_10 rfl rfl (by rfl) ?_
  refine o_iconst (v := (-1)) dX1_begin_11 rfl (by decide) ?_
  refine o_put cl_X1_22 cp_X1_3 dX1_begin_12 rfl (by decide) (by rfl) (by rfl) fitI ?_
  refine o_aload_n dX1_begin_15 rfl rfl (by rfl) ?_
  refine o_iconst (v := 0) dX1_begin_16 rfl (by decide) ?_
  refine o_put cl_X1_25 cp_X1_4 dX1_begin_17 rfl (by decide) (by rfl) (by rfl) fitI ?_
  refine o_aload_n dX1_begin_20 rfl rfl (by rfl) ?_
  refine o_iconst (v := 0) dX1_begin_21 rfl (by decide) ?_
  refine o_put cl_X1_28 cp_X1_5 dX1_begin_22 rfl (by decide) (by rfl) (by rfl) fitI ?_
  refine o_aload_n dX1_begin_25 rfl rfl (by rfl) ?_
  refine o_iconst (v := 0) dX1_begin_26 rfl (by decide) ?_
  refine o_put cl_X1_31 cp_X1_6 dX1_begin_27 rfl (by decide) (by rfl) (by rfl) fitI ?_
  refine o_aload_n dX1_begin_30 rfl rfl (by rfl) ?_
  refine o_iconst (v := 0) dX1_begin_31 rfl (by decide) ?_
  refine o_put cl_X1_34 cp_X1_7 dX1_begin_32 rfl (by decide) (by rfl) (by rfl) fitI ?_
  refine o_aload_n dX1_begin_35 rfl rfl (by rfl) ?_
  refine o_iconst (v := 0) dX1_begin_36 rfl (by decide) ?_
  refine o_put cl_X1_37 cp_X1_8 dX1_begin_37 rfl (by decide) (by rfl) (by rfl) fitI ?_
  exact o_vret hq dX1_begin_40 ⟨fun q hq => by simp [upF, upM, hq], by apply v9 <;> simp [upF, upM, upd, hbeg]⟩
set_option maxHeartbeats 4000000 in
set_option maxRecDepth 100000 in
theorem c_X1_go (mu : Mu) (hO : TOK mu 9 6 3) (aside : Int32) : ConV yX1_go cX1_go 2 1 [vC 54, vI aside] mu (fun mu2 => (∀ q, q ≠ 54 → mu2 q = mu q) ∧ ∀ j, 0 < j → j < 9 → mu2 54 j = hgoF mu aside (mu 54) j) := by
  refine conV_of (own := RX1) (by decide) rfl (Nat.le_of_ble_eq_true rfl) (fun X g hq => ?_)
  show WA X g RX1 2 cX1_go 0 [(0, vC 54), (1, vI aside)] [] mu
  refine o_aload_n dX1_go_0 rfl rfl (by rfl) ?_
  refine o_getI cl_X1_25 dX1_go_1 rfl (by decide) (by rfl) (by rfl) ?_
  refine o_if_ne (tgt := 47) dX1_go_4 (by decide) rfl (fun (c4 : ¬ (mu 54 4) = 0) => ?_) (fun (c4 : (mu 54 4) = 0) => ?_)
  · skip
    refine o_aload_n dX1_go_47 rfl rfl (by rfl) ?_
    refine o_iload_n dX1_go_48 rfl rfl (by rfl) ?_
    refine o_put cl_X1_28 cp_X1_5 dX1_go_49 rfl (by decide) (by rfl) (by rfl) fitI ?_
    refine o_aload_n dX1_go_52 rfl rfl (by rfl) ?_
    refine o_iconst (v := 0) dX1_go_53 rfl (by decide) ?_
    refine o_put cl_X1_31 cp_X1_6 dX1_go_54 rfl (by decide) (by rfl) (by rfl) fitI ?_
    refine o_aload_n dX1_go_57 rfl rfl (by rfl) ?_
    refine o_getI cl_X1_25 dX1_go_58 rfl (by decide) (by rfl) (by rfl) ?_
    refine o_if_le (tgt := 139) dX1_go_61 (by decide) rfl (fun (c61 : (mu 54 4) ≤ 0) => ?_) (fun (c61 : ¬ (mu 54 4) ≤ 0) => ?_)
    · skip
      refine o_aload_n dX1_go_139 rfl rfl (by rfl) ?_
      refine o_dup dX1_go_140 rfl rfl ?_
      refine o_getI cl_X1_34 dX1_go_141 rfl (by decide) (by rfl) (by rfl) ?_
      refine o_aload_n dX1_go_144 rfl rfl (by rfl) ?_
      refine o_getI cl_X1_28 dX1_go_145 rfl (by decide) (by rfl) (by rfl) ?_
      refine o_iadd dX1_go_148 rfl ?_
      refine o_put cl_X1_34 cp_X1_7 dX1_go_149 rfl (by decide) (by rfl) (by rfl) fitI ?_
      refine o_aload_n dX1_go_152 rfl rfl (by rfl) ?_
      refine o_dup dX1_go_153 rfl rfl ?_
      refine o_getI cl_X1_37 dX1_go_154 rfl (by decide) (by rfl) (by rfl) ?_
      refine o_aload_n dX1_go_157 rfl rfl (by rfl) ?_
      refine o_getI cl_X1_31 dX1_go_158 rfl (by decide) (by rfl) (by rfl) ?_
      refine o_iadd dX1_go_161 rfl ?_
      refine o_put cl_X1_37 cp_X1_8 dX1_go_162 rfl (by decide) (by rfl) (by rfl) fitI ?_
      exact o_vret hq dX1_go_165 ⟨fun q hq => by simp [upF, upM, hq], by apply v9 <;> simp [upF, upM, upd, hgoF, hgoU, hgoV, hmid, c4, c61]⟩
    · skip
      refine o_aload_n dX1_go_64 rfl rfl (by rfl) ?_
      refine o_dup dX1_go_65 rfl rfl ?_
      refine o_getI cl_X1_25 dX1_go_66 rfl (by decide) (by rfl) (by rfl) ?_
      refine o_iconst (v := 1) dX1_go_69 rfl (by decide) ?_
      refine o_isub dX1_go_70 rfl ?_
      refine o_put cl_X1_25 cp_X1_4 dX1_go_71 rfl (by decide) (by rfl) (by rfl) fitI ?_
      refine o_aload_n dX1_go_74 rfl rfl (by rfl) ?_
      refine o_dup dX1_go_75 rfl rfl ?_
      refine o_getI cl_X1_28 dX1_go_76 rfl (by decide) (by rfl) (by rfl) ?_
      refine o_aload_n dX1_go_79 rfl rfl (by rfl) ?_
      refine o_getI cl_X1_22 dX1_go_80 rfl (by decide) (by rfl) (by rfl) ?_
      refine o_if_ne (tgt := 93) dX1_go_83 (by decide) rfl (fun (c83 : ¬ (mu 54 3) = 0) => ?_) (fun (c83 : (mu 54 3) = 0) => ?_)
      · skip
        refine o_aload_n dX1_go_93 rfl rfl (by rfl) ?_
        refine o_getC (q := 9) cl_X1_9 dX1_go_94 rfl (by decide) (by rfl) (by rfl) ?_
        refine o_aload_n dX1_go_97 rfl rfl (by rfl) ?_
        refine o_getI cl_X1_22 dX1_go_98 rfl (by decide) (by rfl) (by rfl) ?_
        refine o_iconst (v := 1) dX1_go_101 rfl (by decide) ?_
        refine o_callV cs_X6_get cv_X1_45 (c_X6_get 9 6 3 tab9 _ (TOK.cg (by rfl) hO) (mu 54 3) 1) hq.2.2.2 (Nat.le_of_ble_eq_true rfl) dX1_go_102 rfl (by decide) (by rfl) (by rfl) (by rfl) rfl rfl (Nat.le_of_ble_eq_true rfl) (fun r1 mu1 h1 => ?_)
        obtain ⟨em, h1⟩ := h1
        rw [em]
        rw [tget_cg tab9 hO (fun q h1 h2 => by simp [upF, upM, show q ≠ 54 by omega])] at h1
        refine o_iadd dX1_go_105 rfl ?_
        refine o_put cl_X1_28 cp_X1_5 dX1_go_106 rfl (by decide) (by rfl) (by rfl) fitI ?_
        refine o_aload_n dX1_go_109 rfl rfl (by rfl) ?_
        refine o_aload_n dX1_go_110 rfl rfl (by rfl) ?_
        refine o_getI cl_X1_22 dX1_go_111 rfl (by decide) (by rfl) (by rfl) ?_
        refine o_if_ne (tgt := 124) dX1_go_114 (by decide) rfl (fun (c114 : ¬ (mu 54 3) = 0) => ?_) (fun (c114 : (mu 54 3) = 0) => ?_)
        · skip
          refine o_aload_n dX1_go_124 rfl rfl (by rfl) ?_
          refine o_getC (q := 9) cl_X1_9 dX1_go_125 rfl (by decide) (by rfl) (by rfl) ?_
          refine o_aload_n dX1_go_128 rfl rfl (by rfl) ?_
          refine o_getI cl_X1_22 dX1_go_129 rfl (by decide) (by rfl) (by rfl) ?_
          refine o_iconst (v := 2) dX1_go_132 rfl (by decide) ?_
          refine o_callV cs_X6_get cv_X1_45 (c_X6_get 9 6 3 tab9 _ (TOK.cg (by rfl) hO) (mu 54 3) 2) hq.2.2.2 (Nat.le_of_ble_eq_true rfl) dX1_go_133 rfl (by decide) (by rfl) (by rfl) (by rfl) rfl rfl (Nat.le_of_ble_eq_true rfl) (fun r2 mu2 h2 => ?_)
          obtain ⟨em, h2⟩ := h2
          rw [em]
          rw [tget_cg tab9 hO (fun q h1 h2 => by simp [upF, upM, show q ≠ 54 by omega])] at h2
          refine o_put cl_X1_31 cp_X1_6 dX1_go_136 rfl (by decide) (by rfl) (by rfl) fitI ?_
          refine o_aload_n dX1_go_139 rfl rfl (by rfl) ?_
          refine o_dup dX1_go_140 rfl rfl ?_
          refine o_getI cl_X1_34 dX1_go_141 rfl (by decide) (by rfl) (by rfl) ?_
          refine o_aload_n dX1_go_144 rfl rfl (by rfl) ?_
          refine o_getI cl_X1_28 dX1_go_145 rfl (by decide) (by rfl) (by rfl) ?_
          refine o_iadd dX1_go_148 rfl ?_
          refine o_put cl_X1_34 cp_X1_7 dX1_go_149 rfl (by decide) (by rfl) (by rfl) fitI ?_
          refine o_aload_n dX1_go_152 rfl rfl (by rfl) ?_
          refine o_dup dX1_go_153 rfl rfl ?_
          refine o_getI cl_X1_37 dX1_go_154 rfl (by decide) (by rfl) (by rfl) ?_
          refine o_aload_n dX1_go_157 rfl rfl (by rfl) ?_
          refine o_getI cl_X1_31 dX1_go_158 rfl (by decide) (by rfl) (by rfl) ?_
          refine o_iadd dX1_go_161 rfl ?_
          refine o_put cl_X1_37 cp_X1_8 dX1_go_162 rfl (by decide) (by rfl) (by rfl) fitI ?_
          exact o_vret hq dX1_go_165 ⟨fun q hq => by simp [upF, upM, hq], by apply v9 <;> simp [upF, upM, upd, hgoF, hgoU, hgoV, hmid, c4, c61, c83, c114, ← h1, ← h2]⟩
        · skip
          exact absurd c114 c83
      · skip
        refine o_aload_n dX1_go_86 rfl rfl (by rfl) ?_
        refine o_getI cl_X1_15 dX1_go_87 rfl (by decide) (by rfl) (by rfl) ?_
        refine o_goto (tgt := 105) dX1_go_90 (by decide) ?_
        refine o_iadd dX1_go_105 rfl ?_
        refine o_put cl_X1_28 cp_X1_5 dX1_go_106 rfl (by decide) (by rfl) (by rfl) fitI ?_
        refine o_aload_n dX1_go_109 rfl rfl (by rfl) ?_
        refine o_aload_n dX1_go_110 rfl rfl (by rfl) ?_
        refine o_getI cl_X1_22 dX1_go_111 rfl (by decide) (by rfl) (by rfl) ?_
        refine o_if_ne (tgt := 124) dX1_go_114 (by decide) rfl (fun (c114 : ¬ (mu 54 3) = 0) => ?_) (fun (c114 : (mu 54 3) = 0) => ?_)
        · skip
          exact absurd c83 c114
        · skip
          refine o_aload_n dX1_go_117 rfl rfl (by rfl) ?_
          refine o_getI cl_X1_19 dX1_go_118 rfl (by decide) (by rfl) (by rfl) ?_
          refine o_goto (tgt := 136) dX1_go_121 (by decide) ?_
          refine o_put cl_X1_31 cp_X1_6 dX1_go_136 rfl (by decide) (by rfl) (by rfl) fitI ?_
          refine o_aload_n dX1_go_139 rfl rfl (by rfl) ?_
          refine o_dup dX1_go_140 rfl rfl ?_
          refine o_getI cl_X1_34 dX1_go_141 rfl (by decide) (by rfl) (by rfl) ?_
          refine o_aload_n dX1_go_144 rfl rfl (by rfl) ?_
          refine o_getI cl_X1_28 dX1_go_145 rfl (by decide) (by rfl) (by rfl) ?_
          refine o_iadd dX1_go_148 rfl ?_
          refine o_put cl_X1_34 cp_X1_7 dX1_go_149 rfl (by decide) (by rfl) (by rfl) fitI ?_
          refine o_aload_n dX1_go_152 rfl rfl (by rfl) ?_
          refine o_dup dX1_go_153 rfl rfl ?_
          refine o_getI cl_X1_37 dX1_go_154 rfl (by decide) (by rfl) (by rfl) ?_
          refine o_aload_n dX1_go_157 rfl rfl (by rfl) ?_
          refine o_getI cl_X1_31 dX1_go_158 rfl (by decide) (by rfl) (by rfl) ?_
          refine o_iadd dX1_go_161 rfl ?_
          refine o_put cl_X1_37 cp_X1_8 dX1_go_162 rfl (by decide) (by rfl) (by rfl) fitI ?_
          exact o_vret hq dX1_go_165 ⟨fun q hq => by simp [upF, upM, hq], by apply v9 <;> simp [upF, upM, upd, hgoF, hgoU, hgoV, hmid, c4, c61, c83, c114]⟩
  · skip
    refine o_aload_n dX1_go_7 rfl rfl (by rfl) ?_
    refine o_getI cl_X1_22 dX1_go_8 rfl (by decide) (by rfl) (by rfl) ?_
    refine o_aload_n dX1_go_11 rfl rfl (by rfl) ?_
    refine o_getC (q := 9) cl_X1_9 dX1_go_12 rfl (by decide) (by rfl) (by rfl) ?_
    refine o_getI cl_X1_40 dX1_go_15 rfl (by decide) (by rfl) (by rfl) ?_
    refine o_icmp_ge (tgt := 47) dX1_go_18 (by decide) rfl (fun (c18 : (mu 9 2) ≤ (mu 54 3)) => ?_) (fun (c18 : ¬ (mu 9 2) ≤ (mu 54 3)) => ?_)
    · skip
      refine o_aload_n dX1_go_47 rfl rfl (by rfl) ?_
      refine o_iload_n dX1_go_48 rfl rfl (by rfl) ?_
      refine o_put cl_X1_28 cp_X1_5 dX1_go_49 rfl (by decide) (by rfl) (by rfl) fitI ?_
      refine o_aload_n dX1_go_52 rfl rfl (by rfl) ?_
      refine o_iconst (v := 0) dX1_go_53 rfl (by decide) ?_
      refine o_put cl_X1_31 cp_X1_6 dX1_go_54 rfl (by decide) (by rfl) (by rfl) fitI ?_
      refine o_aload_n dX1_go_57 rfl rfl (by rfl) ?_
      refine o_getI cl_X1_25 dX1_go_58 rfl (by decide) (by rfl) (by rfl) ?_
      refine o_if_le (tgt := 139) dX1_go_61 (by decide) rfl (fun (c61 : (mu 54 4) ≤ 0) => ?_) (fun (c61 : ¬ (mu 54 4) ≤ 0) => ?_)
      · skip
        refine o_aload_n dX1_go_139 rfl rfl (by rfl) ?_
        refine o_dup dX1_go_140 rfl rfl ?_
        refine o_getI cl_X1_34 dX1_go_141 rfl (by decide) (by rfl) (by rfl) ?_
        refine o_aload_n dX1_go_144 rfl rfl (by rfl) ?_
        refine o_getI cl_X1_28 dX1_go_145 rfl (by decide) (by rfl) (by rfl) ?_
        refine o_iadd dX1_go_148 rfl ?_
        refine o_put cl_X1_34 cp_X1_7 dX1_go_149 rfl (by decide) (by rfl) (by rfl) fitI ?_
        refine o_aload_n dX1_go_152 rfl rfl (by rfl) ?_
        refine o_dup dX1_go_153 rfl rfl ?_
        refine o_getI cl_X1_37 dX1_go_154 rfl (by decide) (by rfl) (by rfl) ?_
        refine o_aload_n dX1_go_157 rfl rfl (by rfl) ?_
        refine o_getI cl_X1_31 dX1_go_158 rfl (by decide) (by rfl) (by rfl) ?_
        refine o_iadd dX1_go_161 rfl ?_
        refine o_put cl_X1_37 cp_X1_8 dX1_go_162 rfl (by decide) (by rfl) (by rfl) fitI ?_
        exact o_vret hq dX1_go_165 ⟨fun q hq => by simp [upF, upM, hq], by apply v9 <;> simp [upF, upM, upd, hgoF, hgoU, hgoV, hmid, c4, c18, c61]⟩
      · skip
        exact absurd (by rw [c4]; decide) c61
    · skip
      refine o_aload_n dX1_go_21 rfl rfl (by rfl) ?_
      refine o_dup dX1_go_22 rfl rfl ?_
      refine o_getI cl_X1_22 dX1_go_23 rfl (by decide) (by rfl) (by rfl) ?_
      refine o_iconst (v := 1) dX1_go_26 rfl (by decide) ?_
      refine o_iadd dX1_go_27 rfl ?_
      refine o_put cl_X1_22 cp_X1_3 dX1_go_28 rfl (by decide) (by rfl) (by rfl) fitI ?_
      refine o_aload_n dX1_go_31 rfl rfl (by rfl) ?_
      refine o_aload_n dX1_go_32 rfl rfl (by rfl) ?_
      refine o_getC (q := 9) cl_X1_9 dX1_go_33 rfl (by decide) (by rfl) (by rfl) ?_
      refine o_aload_n dX1_go_36 rfl rfl (by rfl) ?_
      refine o_getI cl_X1_22 dX1_go_37 rfl (by decide) (by rfl) (by rfl) ?_
      refine o_iconst (v := 0) dX1_go_40 rfl (by decide) ?_
      refine o_callV cs_X6_get cv_X1_45 (c_X6_get 9 6 3 tab9 _ (TOK.cg (by rfl) hO) ((mu 54 3) + 1) 0) hq.2.2.2 (Nat.le_of_ble_eq_true rfl) dX1_go_41 rfl (by decide) (by rfl) (by rfl) (by rfl) rfl rfl (Nat.le_of_ble_eq_true rfl) (fun r3 mu3 h3 => ?_)
      obtain ⟨em, h3⟩ := h3
      rw [em]
      rw [tget_cg tab9 hO (fun q h1 h2 => by simp [upF, upM, show q ≠ 54 by omega])] at h3
      refine o_put cl_X1_25 cp_X1_4 dX1_go_44 rfl (by decide) (by rfl) (by rfl) fitI ?_
      refine o_aload_n dX1_go_47 rfl rfl (by rfl) ?_
      refine o_iload_n dX1_go_48 rfl rfl (by rfl) ?_
      refine o_put cl_X1_28 cp_X1_5 dX1_go_49 rfl (by decide) (by rfl) (by rfl) fitI ?_
      refine o_aload_n dX1_go_52 rfl rfl (by rfl) ?_
      refine o_iconst (v := 0) dX1_go_53 rfl (by decide) ?_
      refine o_put cl_X1_31 cp_X1_6 dX1_go_54 rfl (by decide) (by rfl) (by rfl) fitI ?_
      refine o_aload_n dX1_go_57 rfl rfl (by rfl) ?_
      refine o_getI cl_X1_25 dX1_go_58 rfl (by decide) (by rfl) (by rfl) ?_
      refine o_if_le (tgt := 139) dX1_go_61 (by decide) rfl (fun (c61 : r3 ≤ 0) => ?_) (fun (c61 : ¬ r3 ≤ 0) => ?_)
      · skip
        refine o_aload_n dX1_go_139 rfl rfl (by rfl) ?_
        refine o_dup dX1_go_140 rfl rfl ?_
        refine o_getI cl_X1_34 dX1_go_141 rfl (by decide) (by rfl) (by rfl) ?_
        refine o_aload_n dX1_go_144 rfl rfl (by rfl) ?_
        refine o_getI cl_X1_28 dX1_go_145 rfl (by decide) (by rfl) (by rfl) ?_
        refine o_iadd dX1_go_148 rfl ?_
        refine o_put cl_X1_34 cp_X1_7 dX1_go_149 rfl (by decide) (by rfl) (by rfl) fitI ?_
        refine o_aload_n dX1_go_152 rfl rfl (by rfl) ?_
        refine o_dup dX1_go_153 rfl rfl ?_
        refine o_getI cl_X1_37 dX1_go_154 rfl (by decide) (by rfl) (by rfl) ?_
        refine o_aload_n dX1_go_157 rfl rfl (by rfl) ?_
        refine o_getI cl_X1_31 dX1_go_158 rfl (by decide) (by rfl) (by rfl) ?_
        refine o_iadd dX1_go_161 rfl ?_
        refine o_put cl_X1_37 cp_X1_8 dX1_go_162 rfl (by decide) (by rfl) (by rfl) fitI ?_
        exact o_vret hq dX1_go_165 ⟨fun q hq => by simp [upF, upM, hq], by apply v9 <;> simp [upF, upM, upd, hgoF, hgoU, hgoV, hmid, c4, c18, c61, ← h3]⟩
      · skip
        refine o_aload_n dX1_go_64 rfl rfl (by rfl) ?_
        refine o_dup dX1_go_65 rfl rfl ?_
        refine o_getI cl_X1_25 dX1_go_66 rfl (by decide) (by rfl) (by rfl) ?_
        refine o_iconst (v := 1) dX1_go_69 rfl (by decide) ?_
        refine o_isub dX1_go_70 rfl ?_
        refine o_put cl_X1_25 cp_X1_4 dX1_go_71 rfl (by decide) (by rfl) (by rfl) fitI ?_
        refine o_aload_n dX1_go_74 rfl rfl (by rfl) ?_
        refine o_dup dX1_go_75 rfl rfl ?_
        refine o_getI cl_X1_28 dX1_go_76 rfl (by decide) (by rfl) (by rfl) ?_
        refine o_aload_n dX1_go_79 rfl rfl (by rfl) ?_
        refine o_getI cl_X1_22 dX1_go_80 rfl (by decide) (by rfl) (by rfl) ?_
        refine o_if_ne (tgt := 93) dX1_go_83 (by decide) rfl (fun (c83 : ¬ ((mu 54 3) + 1) = 0) => ?_) (fun (c83 : ((mu 54 3) + 1) = 0) => ?_)
        · skip
          refine o_aload_n dX1_go_93 rfl rfl (by rfl) ?_
          refine o_getC (q := 9) cl_X1_9 dX1_go_94 rfl (by decide) (by rfl) (by rfl) ?_
          refine o_aload_n dX1_go_97 rfl rfl (by rfl) ?_
          refine o_getI cl_X1_22 dX1_go_98 rfl (by decide) (by rfl) (by rfl) ?_
          refine o_iconst (v := 1) dX1_go_101 rfl (by decide) ?_
          refine o_callV cs_X6_get cv_X1_45 (c_X6_get 9 6 3 tab9 _ (TOK.cg (by rfl) hO) ((mu 54 3) + 1) 1) hq.2.2.2 (Nat.le_of_ble_eq_true rfl) dX1_go_102 rfl (by decide) (by rfl) (by rfl) (by rfl) rfl rfl (Nat.le_of_ble_eq_true rfl) (fun r4 mu4 h4 => ?_)
          obtain ⟨em, h4⟩ := h4
          rw [em]
          rw [tget_cg tab9 hO (fun q h1 h2 => by simp [upF, upM, show q ≠ 54 by omega])] at h4
          refine o_iadd dX1_go_105 rfl ?_
          refine o_put cl_X1_28 cp_X1_5 dX1_go_106 rfl (by decide) (by rfl) (by rfl) fitI ?_
          refine o_aload_n dX1_go_109 rfl rfl (by rfl) ?_
          refine o_aload_n dX1_go_110 rfl rfl (by rfl) ?_
          refine o_getI cl_X1_22 dX1_go_111 rfl (by decide) (by rfl) (by rfl) ?_
          refine o_if_ne (tgt := 124) dX1_go_114 (by decide) rfl (fun (c114 : ¬ ((mu 54 3) + 1) = 0) => ?_) (fun (c114 : ((mu 54 3) + 1) = 0) => ?_)
          · skip
            refine o_aload_n dX1_go_124 rfl rfl (by rfl) ?_
            refine o_getC (q := 9) cl_X1_9 dX1_go_125 rfl (by decide) (by rfl) (by rfl) ?_
            refine o_aload_n dX1_go_128 rfl rfl (by rfl) ?_
            refine o_getI cl_X1_22 dX1_go_129 rfl (by decide) (by rfl) (by rfl) ?_
            refine o_iconst (v := 2) dX1_go_132 rfl (by decide) ?_
            refine o_callV cs_X6_get cv_X1_45 (c_X6_get 9 6 3 tab9 _ (TOK.cg (by rfl) hO) ((mu 54 3) + 1) 2) hq.2.2.2 (Nat.le_of_ble_eq_true rfl) dX1_go_133 rfl (by decide) (by rfl) (by rfl) (by rfl) rfl rfl (Nat.le_of_ble_eq_true rfl) (fun r5 mu5 h5 => ?_)
            obtain ⟨em, h5⟩ := h5
            rw [em]
            rw [tget_cg tab9 hO (fun q h1 h2 => by simp [upF, upM, show q ≠ 54 by omega])] at h5
            refine o_put cl_X1_31 cp_X1_6 dX1_go_136 rfl (by decide) (by rfl) (by rfl) fitI ?_
            refine o_aload_n dX1_go_139 rfl rfl (by rfl) ?_
            refine o_dup dX1_go_140 rfl rfl ?_
            refine o_getI cl_X1_34 dX1_go_141 rfl (by decide) (by rfl) (by rfl) ?_
            refine o_aload_n dX1_go_144 rfl rfl (by rfl) ?_
            refine o_getI cl_X1_28 dX1_go_145 rfl (by decide) (by rfl) (by rfl) ?_
            refine o_iadd dX1_go_148 rfl ?_
            refine o_put cl_X1_34 cp_X1_7 dX1_go_149 rfl (by decide) (by rfl) (by rfl) fitI ?_
            refine o_aload_n dX1_go_152 rfl rfl (by rfl) ?_
            refine o_dup dX1_go_153 rfl rfl ?_
            refine o_getI cl_X1_37 dX1_go_154 rfl (by decide) (by rfl) (by rfl) ?_
            refine o_aload_n dX1_go_157 rfl rfl (by rfl) ?_
            refine o_getI cl_X1_31 dX1_go_158 rfl (by decide) (by rfl) (by rfl) ?_
            refine o_iadd dX1_go_161 rfl ?_
            refine o_put cl_X1_37 cp_X1_8 dX1_go_162 rfl (by decide) (by rfl) (by rfl) fitI ?_
            exact o_vret hq dX1_go_165 ⟨fun q hq => by simp [upF, upM, hq], by apply v9 <;> simp [upF, upM, upd, hgoF, hgoU, hgoV, hmid, c4, c18, c61, c83, c114, ← h3, ← h4, ← h5]⟩
          · skip
            exact absurd c114 c83
        · skip
          refine o_aload_n dX1_go_86 rfl rfl (by rfl) ?_
          refine o_getI cl_X1_15 dX1_go_87 rfl (by decide) (by rfl) (by rfl) ?_
          refine o_goto (tgt := 105) dX1_go_90 (by decide) ?_
          refine o_iadd dX1_go_105 rfl ?_
          refine o_put cl_X1_28 cp_X1_5 dX1_go_106 rfl (by decide) (by rfl) (by rfl) fitI ?_
          refine o_aload_n dX1_go_109 rfl rfl (by rfl) ?_
          refine o_aload_n dX1_go_110 rfl rfl (by rfl) ?_
          refine o_getI cl_X1_22 dX1_go_111 rfl (by decide) (by rfl) (by rfl) ?_
          refine o_if_ne (tgt := 124) dX1_go_114 (by decide) rfl (fun (c114 : ¬ ((mu 54 3) + 1) = 0) => ?_) (fun (c114 : ((mu 54 3) + 1) = 0) => ?_)
          · skip
            exact absurd c83 c114
          · skip
            refine o_aload_n dX1_go_117 rfl rfl (by rfl) ?_
            refine o_getI cl_X1_19 dX1_go_118 rfl (by decide) (by rfl) (by rfl) ?_
            refine o_goto (tgt := 136) dX1_go_121 (by decide) ?_
            refine o_put cl_X1_31 cp_X1_6 dX1_go_136 rfl (by decide) (by rfl) (by rfl) fitI ?_
            refine o_aload_n dX1_go_139 rfl rfl (by rfl) ?_
            refine o_dup dX1_go_140 rfl rfl ?_
            refine o_getI cl_X1_34 dX1_go_141 rfl (by decide) (by rfl) (by rfl) ?_
            refine o_aload_n dX1_go_144 rfl rfl (by rfl) ?_
            refine o_getI cl_X1_28 dX1_go_145 rfl (by decide) (by rfl) (by rfl) ?_
            refine o_iadd dX1_go_148 rfl ?_
            refine o_put cl_X1_34 cp_X1_7 dX1_go_149 rfl (by decide) (by rfl) (by rfl) fitI ?_
            refine o_aload_n dX1_go_152 rfl rfl (by rfl) ?_
            refine o_dup dX1_go_153 rfl rfl ?_
            refine o_getI cl_X1_37 dX1_go_154 rfl (by decide) (by rfl) (by rfl) ?_
            refine o_aload_n dX1_go_157 rfl rfl (by rfl) ?_
            refine o_getI cl_X1_31 dX1_go_158 rfl (by decide) (by rfl) (by rfl) ?_
            refine o_iadd dX1_go_161 rfl ?_
            refine o_put cl_X1_37 cp_X1_8 dX1_go_162 rfl (by decide) (by rfl) (by rfl) fitI ?_
            exact o_vret hq dX1_go_165 ⟨fun q hq => by simp [upF, upM, hq], by rw [c83] at h3; apply v9 <;> simp [upF, upM, upd, hgoF, hgoU, hgoV, hmid, c4, c18, c61, c83, c114, ← h3]⟩
end
section
theorem zz_end : True := trivial
end
