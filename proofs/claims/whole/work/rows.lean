section
-- ===== PART A: goes FIRST, ahead of the names: the tables' words, and 'selects' of the private methods out of them =====
/-- a private method of a class that the tables say can be made, by its rows of tables_1 -/
def lw_okq (q : MethodName × Nat) : Prop := (q.1.cls ≠ "java/lang/invoke/MethodHandle" ∧ q.1.cls ≠ "java/lang/invoke/VarHandle") ∧ Cond.instantiable q.1.cls q.2 ∈ tables_1 ∧ Cond.privateMethod q.1 ∈ tables_1 ∧ Cond.instanceMethod q.1 ∈ tables_1
theorem lw_p0 : lw_okq (⟨"BallInCup$Reader", "begin", "()V"⟩, 6) := ⟨⟨by decide +kernel, by decide +kernel⟩, List.mem_of_getElem? (i := 233) (by decide +kernel), List.mem_of_getElem? (i := 394) (by decide +kernel), List.mem_of_getElem? (i := 395) (by decide +kernel)⟩
theorem lw_p1 : lw_okq (⟨"BallInCup$Reader", "takes", "(I)Z"⟩, 6) := ⟨⟨by decide +kernel, by decide +kernel⟩, List.mem_of_getElem? (i := 233) (by decide +kernel), List.mem_of_getElem? (i := 399) (by decide +kernel), List.mem_of_getElem? (i := 400) (by decide +kernel)⟩
theorem lw_p2 : lw_okq (⟨"BallInCup$Reader", "next", "()I"⟩, 6) := ⟨⟨by decide +kernel, by decide +kernel⟩, List.mem_of_getElem? (i := 233) (by decide +kernel), List.mem_of_getElem? (i := 403) (by decide +kernel), List.mem_of_getElem? (i := 404) (by decide +kernel)⟩
theorem lw_p3 : lw_okq (⟨"BallInCup$Reader", "readCup", "()V"⟩, 6) := ⟨⟨by decide +kernel, by decide +kernel⟩, List.mem_of_getElem? (i := 233) (by decide +kernel), List.mem_of_getElem? (i := 407) (by decide +kernel), List.mem_of_getElem? (i := 408) (by decide +kernel)⟩
theorem lw_p4 : lw_okq (⟨"BallInCup$Reader", "signedDigit", "()I"⟩, 6) := ⟨⟨by decide +kernel, by decide +kernel⟩, List.mem_of_getElem? (i := 233) (by decide +kernel), List.mem_of_getElem? (i := 411) (by decide +kernel), List.mem_of_getElem? (i := 412) (by decide +kernel)⟩
theorem lw_p5 : lw_okq (⟨"BallInCup$Reader", "digit", "()I"⟩, 6) := ⟨⟨by decide +kernel, by decide +kernel⟩, List.mem_of_getElem? (i := 233) (by decide +kernel), List.mem_of_getElem? (i := 415) (by decide +kernel), List.mem_of_getElem? (i := 416) (by decide +kernel)⟩
theorem lw_p6 : lw_okq (⟨"BallInCup$Reader", "faultAt", "(I)V"⟩, 6) := ⟨⟨by decide +kernel, by decide +kernel⟩, List.mem_of_getElem? (i := 233) (by decide +kernel), List.mem_of_getElem? (i := 420) (by decide +kernel), List.mem_of_getElem? (i := 421) (by decide +kernel)⟩
theorem lw_p7 : lw_okq (⟨"BallInCup$Reader", "number", "(II)I"⟩, 6) := ⟨⟨by decide +kernel, by decide +kernel⟩, List.mem_of_getElem? (i := 233) (by decide +kernel), List.mem_of_getElem? (i := 424) (by decide +kernel), List.mem_of_getElem? (i := 425) (by decide +kernel)⟩
theorem lw_p8 : lw_okq (⟨"BallInCup$Reader", "finish", "(I)I"⟩, 6) := ⟨⟨by decide +kernel, by decide +kernel⟩, List.mem_of_getElem? (i := 233) (by decide +kernel), List.mem_of_getElem? (i := 432) (by decide +kernel), List.mem_of_getElem? (i := 433) (by decide +kernel)⟩
theorem lw_p9 : lw_okq (⟨"BallInCup$Reader", "readPart", "()V"⟩, 6) := ⟨⟨by decide +kernel, by decide +kernel⟩, List.mem_of_getElem? (i := 233) (by decide +kernel), List.mem_of_getElem? (i := 450) (by decide +kernel), List.mem_of_getElem? (i := 451) (by decide +kernel)⟩
theorem lw_p10 : lw_okq (⟨"BallInCup$Try", "goStep", "()V"⟩, 17) := ⟨⟨by decide +kernel, by decide +kernel⟩, List.mem_of_getElem? (i := 87) (by decide +kernel), List.mem_of_getElem? (i := 476) (by decide +kernel), List.mem_of_getElem? (i := 477) (by decide +kernel)⟩
theorem lw_p11 : lw_okq (⟨"BallInCup$Try", "lateSide", "()I"⟩, 17) := ⟨⟨by decide +kernel, by decide +kernel⟩, List.mem_of_getElem? (i := 87) (by decide +kernel), List.mem_of_getElem? (i := 480) (by decide +kernel), List.mem_of_getElem? (i := 481) (by decide +kernel)⟩
theorem lw_p12 : lw_okq (⟨"BallInCup$Try", "holdByCord", "()V"⟩, 17) := ⟨⟨by decide +kernel, by decide +kernel⟩, List.mem_of_getElem? (i := 87) (by decide +kernel), List.mem_of_getElem? (i := 492) (by decide +kernel), List.mem_of_getElem? (i := 493) (by decide +kernel)⟩
theorem lw_p13 : lw_okq (⟨"BallInCup$Try", "wholeRoot", "(I)I"⟩, 17) := ⟨⟨by decide +kernel, by decide +kernel⟩, List.mem_of_getElem? (i := 87) (by decide +kernel), List.mem_of_getElem? (i := 499) (by decide +kernel), List.mem_of_getElem? (i := 500) (by decide +kernel)⟩
theorem lw_p14 : lw_okq (⟨"BallInCup$Try", "metCup", "(I)I"⟩, 17) := ⟨⟨by decide +kernel, by decide +kernel⟩, List.mem_of_getElem? (i := 87) (by decide +kernel), List.mem_of_getElem? (i := 505) (by decide +kernel), List.mem_of_getElem? (i := 506) (by decide +kernel)⟩
theorem lw_p15 : lw_okq (⟨"BallInCup$Try", "comeDownOn", "(I)V"⟩, 17) := ⟨⟨by decide +kernel, by decide +kernel⟩, List.mem_of_getElem? (i := 87) (by decide +kernel), List.mem_of_getElem? (i := 512) (by decide +kernel), List.mem_of_getElem? (i := 513) (by decide +kernel)⟩
def lw_privs_1 : List (MethodName × Nat) := [(⟨"BallInCup$Reader", "begin", "()V"⟩, 6), (⟨"BallInCup$Reader", "takes", "(I)Z"⟩, 6), (⟨"BallInCup$Reader", "next", "()I"⟩, 6), (⟨"BallInCup$Reader", "readCup", "()V"⟩, 6), (⟨"BallInCup$Reader", "signedDigit", "()I"⟩, 6), (⟨"BallInCup$Reader", "digit", "()I"⟩, 6), (⟨"BallInCup$Reader", "faultAt", "(I)V"⟩, 6), (⟨"BallInCup$Reader", "number", "(II)I"⟩, 6), (⟨"BallInCup$Reader", "finish", "(I)I"⟩, 6), (⟨"BallInCup$Reader", "readPart", "()V"⟩, 6), (⟨"BallInCup$Try", "goStep", "()V"⟩, 17), (⟨"BallInCup$Try", "lateSide", "()I"⟩, 17), (⟨"BallInCup$Try", "holdByCord", "()V"⟩, 17), (⟨"BallInCup$Try", "wholeRoot", "(I)I"⟩, 17), (⟨"BallInCup$Try", "metCup", "(I)I"⟩, 17), (⟨"BallInCup$Try", "comeDownOn", "(I)V"⟩, 17)]
theorem lw_r1 : ∀ q ∈ lw_privs_1, lw_okq q := List.forall_mem_cons.mpr ⟨lw_p0, List.forall_mem_cons.mpr ⟨lw_p1, List.forall_mem_cons.mpr ⟨lw_p2, List.forall_mem_cons.mpr ⟨lw_p3, List.forall_mem_cons.mpr ⟨lw_p4, List.forall_mem_cons.mpr ⟨lw_p5, List.forall_mem_cons.mpr ⟨lw_p6, List.forall_mem_cons.mpr ⟨lw_p7, List.forall_mem_cons.mpr ⟨lw_p8, List.forall_mem_cons.mpr ⟨lw_p9, List.forall_mem_cons.mpr ⟨lw_p10, List.forall_mem_cons.mpr ⟨lw_p11, List.forall_mem_cons.mpr ⟨lw_p12, List.forall_mem_cons.mpr ⟨lw_p13, List.forall_mem_cons.mpr ⟨lw_p14, List.forall_mem_cons.mpr ⟨lw_p15, fun _ h => absurd h List.not_mem_nil⟩⟩⟩⟩⟩⟩⟩⟩⟩⟩⟩⟩⟩⟩⟩⟩
theorem lw_p16 : lw_okq (⟨"BallInCup$Grid", "cellFrom", "(II)I"⟩, 5) := ⟨⟨by decide +kernel, by decide +kernel⟩, List.mem_of_getElem? (i := 197) (by decide +kernel), List.mem_of_getElem? (i := 565) (by decide +kernel), List.mem_of_getElem? (i := 566) (by decide +kernel)⟩
theorem lw_p17 : lw_okq (⟨"BallInCup$Grid", "join", "(III)I"⟩, 5) := ⟨⟨by decide +kernel, by decide +kernel⟩, List.mem_of_getElem? (i := 197) (by decide +kernel), List.mem_of_getElem? (i := 569) (by decide +kernel), List.mem_of_getElem? (i := 570) (by decide +kernel)⟩
theorem lw_p18 : lw_okq (⟨"BallInCup$Grid", "isWhole", "(IIII)Z"⟩, 5) := ⟨⟨by decide +kernel, by decide +kernel⟩, List.mem_of_getElem? (i := 197) (by decide +kernel), List.mem_of_getElem? (i := 587) (by decide +kernel), List.mem_of_getElem? (i := 588) (by decide +kernel)⟩
theorem lw_p19 : lw_okq (⟨"BallInCup$Plan", "mostFrom", "(LBallInCup$Table;II)I"⟩, 1) := ⟨⟨by decide +kernel, by decide +kernel⟩, List.mem_of_getElem? (i := 222) (by decide +kernel), List.mem_of_getElem? (i := 628) (by decide +kernel), List.mem_of_getElem? (i := 629) (by decide +kernel)⟩
theorem lw_p20 : lw_okq (⟨"BallInCup$Plan", "gainBy", "(LBallInCup$Table;III)I"⟩, 1) := ⟨⟨by decide +kernel, by decide +kernel⟩, List.mem_of_getElem? (i := 222) (by decide +kernel), List.mem_of_getElem? (i := 633) (by decide +kernel), List.mem_of_getElem? (i := 634) (by decide +kernel)⟩
theorem lw_p21 : lw_okq (⟨"BallInCup$Plan", "mostTimes", "(LBallInCup$Table;II)I"⟩, 1) := ⟨⟨by decide +kernel, by decide +kernel⟩, List.mem_of_getElem? (i := 222) (by decide +kernel), List.mem_of_getElem? (i := 646) (by decide +kernel), List.mem_of_getElem? (i := 647) (by decide +kernel)⟩
theorem lw_p22 : lw_okq (⟨"BallInCup", "isShown", "(IIII)Z"⟩, 8) := ⟨⟨by decide +kernel, by decide +kernel⟩, List.mem_of_getElem? (i := 16) (by decide +kernel), List.mem_of_getElem? (i := 694) (by decide +kernel), List.mem_of_getElem? (i := 695) (by decide +kernel)⟩
theorem lw_p23 : lw_okq (⟨"BallInCupModel", "cupIs", "(IIIIII)V"⟩, 41) := ⟨⟨by decide +kernel, by decide +kernel⟩, List.mem_of_getElem? (i := 759) (by decide +kernel), List.mem_of_getElem? (i := 908) (by decide +kernel), List.mem_of_getElem? (i := 909) (by decide +kernel)⟩
theorem lw_p24 : lw_okq (⟨"BallInCupModel", "isCup", "(I)Z"⟩, 41) := ⟨⟨by decide +kernel, by decide +kernel⟩, List.mem_of_getElem? (i := 759) (by decide +kernel), List.mem_of_getElem? (i := 916) (by decide +kernel), List.mem_of_getElem? (i := 917) (by decide +kernel)⟩
theorem lw_p25 : lw_okq (⟨"BallInCupModel", "partIs", "(IIII)V"⟩, 41) := ⟨⟨by decide +kernel, by decide +kernel⟩, List.mem_of_getElem? (i := 759) (by decide +kernel), List.mem_of_getElem? (i := 925) (by decide +kernel), List.mem_of_getElem? (i := 926) (by decide +kernel)⟩
theorem lw_p26 : lw_okq (⟨"BallInCupModel", "readAll", "(Z)I"⟩, 41) := ⟨⟨by decide +kernel, by decide +kernel⟩, List.mem_of_getElem? (i := 759) (by decide +kernel), List.mem_of_getElem? (i := 949) (by decide +kernel), List.mem_of_getElem? (i := 950) (by decide +kernel)⟩
theorem lw_p27 : lw_okq (⟨"BallInCupModel", "cupClause", "(I)V"⟩, 41) := ⟨⟨by decide +kernel, by decide +kernel⟩, List.mem_of_getElem? (i := 759) (by decide +kernel), List.mem_of_getElem? (i := 953) (by decide +kernel), List.mem_of_getElem? (i := 954) (by decide +kernel)⟩
theorem lw_p28 : lw_okq (⟨"BallInCupModel", "signed", "()I"⟩, 41) := ⟨⟨by decide +kernel, by decide +kernel⟩, List.mem_of_getElem? (i := 759) (by decide +kernel), List.mem_of_getElem? (i := 957) (by decide +kernel), List.mem_of_getElem? (i := 958) (by decide +kernel)⟩
theorem lw_p29 : lw_okq (⟨"BallInCupModel", "has", "(I)Z"⟩, 41) := ⟨⟨by decide +kernel, by decide +kernel⟩, List.mem_of_getElem? (i := 759) (by decide +kernel), List.mem_of_getElem? (i := 961) (by decide +kernel), List.mem_of_getElem? (i := 962) (by decide +kernel)⟩
theorem lw_p30 : lw_okq (⟨"BallInCupModel", "here", "()I"⟩, 41) := ⟨⟨by decide +kernel, by decide +kernel⟩, List.mem_of_getElem? (i := 759) (by decide +kernel), List.mem_of_getElem? (i := 965) (by decide +kernel), List.mem_of_getElem? (i := 966) (by decide +kernel)⟩
theorem lw_p31 : lw_okq (⟨"BallInCupModel", "digit", "()I"⟩, 41) := ⟨⟨by decide +kernel, by decide +kernel⟩, List.mem_of_getElem? (i := 759) (by decide +kernel), List.mem_of_getElem? (i := 969) (by decide +kernel), List.mem_of_getElem? (i := 970) (by decide +kernel)⟩
def lw_privs_2 : List (MethodName × Nat) := [(⟨"BallInCup$Grid", "cellFrom", "(II)I"⟩, 5), (⟨"BallInCup$Grid", "join", "(III)I"⟩, 5), (⟨"BallInCup$Grid", "isWhole", "(IIII)Z"⟩, 5), (⟨"BallInCup$Plan", "mostFrom", "(LBallInCup$Table;II)I"⟩, 1), (⟨"BallInCup$Plan", "gainBy", "(LBallInCup$Table;III)I"⟩, 1), (⟨"BallInCup$Plan", "mostTimes", "(LBallInCup$Table;II)I"⟩, 1), (⟨"BallInCup", "isShown", "(IIII)Z"⟩, 8), (⟨"BallInCupModel", "cupIs", "(IIIIII)V"⟩, 41), (⟨"BallInCupModel", "isCup", "(I)Z"⟩, 41), (⟨"BallInCupModel", "partIs", "(IIII)V"⟩, 41), (⟨"BallInCupModel", "readAll", "(Z)I"⟩, 41), (⟨"BallInCupModel", "cupClause", "(I)V"⟩, 41), (⟨"BallInCupModel", "signed", "()I"⟩, 41), (⟨"BallInCupModel", "has", "(I)Z"⟩, 41), (⟨"BallInCupModel", "here", "()I"⟩, 41), (⟨"BallInCupModel", "digit", "()I"⟩, 41)]
theorem lw_r2 : ∀ q ∈ lw_privs_2, lw_okq q := List.forall_mem_cons.mpr ⟨lw_p16, List.forall_mem_cons.mpr ⟨lw_p17, List.forall_mem_cons.mpr ⟨lw_p18, List.forall_mem_cons.mpr ⟨lw_p19, List.forall_mem_cons.mpr ⟨lw_p20, List.forall_mem_cons.mpr ⟨lw_p21, List.forall_mem_cons.mpr ⟨lw_p22, List.forall_mem_cons.mpr ⟨lw_p23, List.forall_mem_cons.mpr ⟨lw_p24, List.forall_mem_cons.mpr ⟨lw_p25, List.forall_mem_cons.mpr ⟨lw_p26, List.forall_mem_cons.mpr ⟨lw_p27, List.forall_mem_cons.mpr ⟨lw_p28, List.forall_mem_cons.mpr ⟨lw_p29, List.forall_mem_cons.mpr ⟨lw_p30, List.forall_mem_cons.mpr ⟨lw_p31, fun _ h => absurd h List.not_mem_nil⟩⟩⟩⟩⟩⟩⟩⟩⟩⟩⟩⟩⟩⟩⟩⟩
theorem lw_p32 : lw_okq (⟨"BallInCupModel", "number", "(II)I"⟩, 41) := ⟨⟨by decide +kernel, by decide +kernel⟩, List.mem_of_getElem? (i := 759) (by decide +kernel), List.mem_of_getElem? (i := 975) (by decide +kernel), List.mem_of_getElem? (i := 976) (by decide +kernel)⟩
theorem lw_p33 : lw_okq (⟨"BallInCupModel", "partClause", "(I)V"⟩, 41) := ⟨⟨by decide +kernel, by decide +kernel⟩, List.mem_of_getElem? (i := 759) (by decide +kernel), List.mem_of_getElem? (i := 979) (by decide +kernel), List.mem_of_getElem? (i := 980) (by decide +kernel)⟩
theorem lw_p34 : lw_okq (⟨"BallInCupModel", "tries", "()V"⟩, 41) := ⟨⟨by decide +kernel, by decide +kernel⟩, List.mem_of_getElem? (i := 759) (by decide +kernel), List.mem_of_getElem? (i := 995) (by decide +kernel), List.mem_of_getElem? (i := 996) (by decide +kernel)⟩
theorem lw_p35 : lw_okq (⟨"BallInCupModel", "lays", "()V"⟩, 41) := ⟨⟨by decide +kernel, by decide +kernel⟩, List.mem_of_getElem? (i := 759) (by decide +kernel), List.mem_of_getElem? (i := 999) (by decide +kernel), List.mem_of_getElem? (i := 1000) (by decide +kernel)⟩
theorem lw_p36 : lw_okq (⟨"BallInCupModel", "swings", "(I)V"⟩, 41) := ⟨⟨by decide +kernel, by decide +kernel⟩, List.mem_of_getElem? (i := 759) (by decide +kernel), List.mem_of_getElem? (i := 1003) (by decide +kernel), List.mem_of_getElem? (i := 1004) (by decide +kernel)⟩
theorem lw_p37 : lw_okq (⟨"BallInCupModel", "meets", "(III)Z"⟩, 41) := ⟨⟨by decide +kernel, by decide +kernel⟩, List.mem_of_getElem? (i := 759) (by decide +kernel), List.mem_of_getElem? (i := 1010) (by decide +kernel), List.mem_of_getElem? (i := 1011) (by decide +kernel)⟩
theorem lw_p38 : lw_okq (⟨"BallInCupModel", "endBy", "(II)I"⟩, 41) := ⟨⟨by decide +kernel, by decide +kernel⟩, List.mem_of_getElem? (i := 759) (by decide +kernel), List.mem_of_getElem? (i := 1027) (by decide +kernel), List.mem_of_getElem? (i := 1028) (by decide +kernel)⟩
theorem lw_p39 : lw_okq (⟨"BallInCupModel", "grid", "()V"⟩, 41) := ⟨⟨by decide +kernel, by decide +kernel⟩, List.mem_of_getElem? (i := 759) (by decide +kernel), List.mem_of_getElem? (i := 1035) (by decide +kernel), List.mem_of_getElem? (i := 1036) (by decide +kernel)⟩
theorem lw_p40 : lw_okq (⟨"BallInCupModel", "groups", "(I)V"⟩, 41) := ⟨⟨by decide +kernel, by decide +kernel⟩, List.mem_of_getElem? (i := 759) (by decide +kernel), List.mem_of_getElem? (i := 1039) (by decide +kernel), List.mem_of_getElem? (i := 1040) (by decide +kernel)⟩
theorem lw_p41 : lw_okq (⟨"BallInCupModel", "isRing", "(IIII)Z"⟩, 41) := ⟨⟨by decide +kernel, by decide +kernel⟩, List.mem_of_getElem? (i := 759) (by decide +kernel), List.mem_of_getElem? (i := 1048) (by decide +kernel), List.mem_of_getElem? (i := 1049) (by decide +kernel)⟩
theorem lw_p42 : lw_okq (⟨"BallInCupModel", "oddsOf", "(I)I"⟩, 41) := ⟨⟨by decide +kernel, by decide +kernel⟩, List.mem_of_getElem? (i := 759) (by decide +kernel), List.mem_of_getElem? (i := 1061) (by decide +kernel), List.mem_of_getElem? (i := 1062) (by decide +kernel)⟩
theorem lw_p43 : lw_okq (⟨"BallInCupModel", "finds", "(IIII)I"⟩, 41) := ⟨⟨by decide +kernel, by decide +kernel⟩, List.mem_of_getElem? (i := 759) (by decide +kernel), List.mem_of_getElem? (i := 1107) (by decide +kernel), List.mem_of_getElem? (i := 1108) (by decide +kernel)⟩
def lw_privs_3 : List (MethodName × Nat) := [(⟨"BallInCupModel", "number", "(II)I"⟩, 41), (⟨"BallInCupModel", "partClause", "(I)V"⟩, 41), (⟨"BallInCupModel", "tries", "()V"⟩, 41), (⟨"BallInCupModel", "lays", "()V"⟩, 41), (⟨"BallInCupModel", "swings", "(I)V"⟩, 41), (⟨"BallInCupModel", "meets", "(III)Z"⟩, 41), (⟨"BallInCupModel", "endBy", "(II)I"⟩, 41), (⟨"BallInCupModel", "grid", "()V"⟩, 41), (⟨"BallInCupModel", "groups", "(I)V"⟩, 41), (⟨"BallInCupModel", "isRing", "(IIII)Z"⟩, 41), (⟨"BallInCupModel", "oddsOf", "(I)I"⟩, 41), (⟨"BallInCupModel", "finds", "(IIII)I"⟩, 41)]
theorem lw_r3 : ∀ q ∈ lw_privs_3, lw_okq q := List.forall_mem_cons.mpr ⟨lw_p32, List.forall_mem_cons.mpr ⟨lw_p33, List.forall_mem_cons.mpr ⟨lw_p34, List.forall_mem_cons.mpr ⟨lw_p35, List.forall_mem_cons.mpr ⟨lw_p36, List.forall_mem_cons.mpr ⟨lw_p37, List.forall_mem_cons.mpr ⟨lw_p38, List.forall_mem_cons.mpr ⟨lw_p39, List.forall_mem_cons.mpr ⟨lw_p40, List.forall_mem_cons.mpr ⟨lw_p41, List.forall_mem_cons.mpr ⟨lw_p42, List.forall_mem_cons.mpr ⟨lw_p43, fun _ h => absurd h List.not_mem_nil⟩⟩⟩⟩⟩⟩⟩⟩⟩⟩⟩⟩
def lw_privs : List (MethodName × Nat) := lw_privs_1 ++ (lw_privs_2 ++ (lw_privs_3))
def lw_tbl : List Cond := k2_sels lw_privs ++ tables_1
theorem lw_privs_ok : ∀ q ∈ lw_privs, lw_okq q := by
  show ∀ q ∈ lw_privs_1 ++ (lw_privs_2 ++ (lw_privs_3)), lw_okq q
  exact List.forall_mem_append.mpr ⟨lw_r1, List.forall_mem_append.mpr ⟨lw_r2, lw_r3⟩⟩
end
section
/-! ===== BEGIN words of one list among another's, by their places ===== -/
theorem goodIn_r {big : List Cond} (ws : List Cond) (ps : List Nat) (hp : ws = ps.filterMap (fun i => big[i]?)) (h : ws.all goodWord = true) : GoodIn big ws := by
  intro w hw
  have h1 := List.all_eq_true.mp h w hw
  rw [hp] at hw
  obtain ⟨i, -, hi⟩ := List.mem_filterMap.mp hw
  have hm : w ∈ big := by first | exact List.mem_of_getElem? hi | exact List.getElem?_mem hi
  exact ⟨hm, good_of_word h1⟩
theorem goodIn_app {big a b : List Cond} (ha : GoodIn big a) (hb : GoodIn big b) : GoodIn big (a ++ b) := fun w h => (List.mem_append.mp h).elim (ha w) (hb w)
theorem goodIn_ca {big a b : List Cond} {c : Cond} (ha : GoodIn big (c :: a)) (hb : GoodIn big b) : GoodIn big (c :: (a ++ b)) := fun w h => (List.mem_cons.mp h).elim (fun e => ha w (List.mem_cons.mpr (Or.inl e))) (fun h => (List.mem_append.mp h).elim (fun h => ha w (List.mem_cons.mpr (Or.inr h))) (hb w))
theorem goodIn_sub {big ws : List Cond} (hm : ∀ w ∈ ws, w ∈ big) (h : ws.all goodWord = true) : GoodIn big ws := fun w hw => ⟨hm w hw, good_of_word (List.all_eq_true.mp h w hw)⟩
/-! ===== END ===== -/


def RX0 : String := "BallInCup$Grid"
def TX0 : u_T := fun k => match k with
  | 0 => ("BallInCup$Grid", "ends", "[I", true)
  | 1 => ("BallInCup$Grid", "isSeen", "[Z", true)
  | 2 => ("BallInCup$Grid", "queue", "[I", true)
  | 3 => ("BallInCup$Grid", "cellCount", "I", false)
  | _ => ("BallInCup$Grid", "largestCell", "I", false)
def tyX0 : Nat → FieldType := fun k => match k with
  | 0 => .array .int
  | 1 => .array .boolean
  | 2 => .array .int
  | 3 => .int
  | _ => .int
abbrev wsX00 : List Cond := u_ws RX0 TX0 5
theorem nmX0 : ∀ a, a < 5 → ∀ b, b < 5 → a ≠ b → (TX0 a).2.1 ≠ (TX0 b).2.1 := by decide +kernel
theorem tyX0_ok : ∀ k, k < 5 → parseFieldDescriptor (TX0 k).2.2.1 = some (tyX0 k) := by decide +kernel
abbrev cX0_init : ByteArray := prog_2_method_1_code
def yX0_init : MethodName := ⟨RX0, "<init>", "()V"⟩
abbrev cX0_uOf : ByteArray := prog_2_method_2_code
def yX0_uOf : MethodName := ⟨RX0, "uOf", "(I)I"⟩
abbrev cX0_vOf : ByteArray := prog_2_method_3_code
def yX0_vOf : MethodName := ⟨RX0, "vOf", "(I)I"⟩
abbrev cX0_tryAll : ByteArray := prog_2_method_4_code
def yX0_tryAll : MethodName := ⟨RX0, "tryAll", "(LBallInCup$Try;I)V"⟩
abbrev cX0_pullsInto : ByteArray := prog_2_method_5_code
def yX0_pullsInto : MethodName := ⟨RX0, "pullsInto", "(I)I"⟩
abbrev cX0_seekCells : ByteArray := prog_2_method_6_code
def yX0_seekCells : MethodName := ⟨RX0, "seekCells", "(I)V"⟩
abbrev cX0_cellFrom : ByteArray := prog_2_method_7_code
def yX0_cellFrom : MethodName := ⟨RX0, "cellFrom", "(II)I"⟩
abbrev cX0_join : ByteArray := prog_2_method_8_code
def yX0_join : MethodName := ⟨RX0, "join", "(III)I"⟩
abbrev cX0_middleOf : ByteArray := prog_2_method_9_code
def yX0_middleOf : MethodName := ⟨RX0, "middleOf", "(I)I"⟩
abbrev cX0_ringsRound : ByteArray := prog_2_method_10_code
def yX0_ringsRound : MethodName := ⟨RX0, "ringsRound", "(II)I"⟩
abbrev cX0_isWhole : ByteArray := prog_2_method_11_code
def yX0_isWhole : MethodName := ⟨RX0, "isWhole", "(IIII)Z"⟩
def RX1 : String := "BallInCup$Hand"
def TX1 : u_T := fun k => match k with
  | 0 => ("BallInCup$Hand", "parts", "LBallInCup$Table;", true)
  | 1 => ("BallInCup$Hand", "firstU", "I", false)
  | 2 => ("BallInCup$Hand", "firstV", "I", false)
  | 3 => ("BallInCup$Hand", "part", "I", false)
  | 4 => ("BallInCup$Hand", "stepsLeft", "I", false)
  | 5 => ("BallInCup$Hand", "u", "I", false)
  | 6 => ("BallInCup$Hand", "v", "I", false)
  | 7 => ("BallInCup$Hand", "x", "I", false)
  | _ => ("BallInCup$Hand", "y", "I", false)
def tyX1 : Nat → FieldType := fun k => match k with
  | 0 => .object "BallInCup$Table"
  | 1 => .int
  | 2 => .int
  | 3 => .int
  | 4 => .int
  | 5 => .int
  | 6 => .int
  | 7 => .int
  | _ => .int
abbrev wsX10 : List Cond := u_ws RX1 TX1 9
theorem nmX1 : ∀ a, a < 9 → ∀ b, b < 9 → a ≠ b → (TX1 a).2.1 ≠ (TX1 b).2.1 := by decide +kernel
theorem tyX1_ok : ∀ k, k < 9 → parseFieldDescriptor (TX1 k).2.2.1 = some (tyX1 k) := by decide +kernel
abbrev cX1_init : ByteArray := prog_3_method_1_code
def yX1_init : MethodName := ⟨RX1, "<init>", "(LBallInCup$Table;)V"⟩
abbrev cX1_begin : ByteArray := prog_3_method_2_code
def yX1_begin : MethodName := ⟨RX1, "begin", "(II)V"⟩
abbrev cX1_go : ByteArray := prog_3_method_3_code
def yX1_go : MethodName := ⟨RX1, "go", "(I)V"⟩
def RX2 : String := "BallInCup$Plan"
def TX2 : u_T := fun k => match k with
  | _ => ("BallInCup$Plan", "best", "[[I", true)
def tyX2 : Nat → FieldType := fun k => match k with
  | _ => .array (.array .int)
abbrev wsX20 : List Cond := u_ws RX2 TX2 1
theorem nmX2 : ∀ a, a < 1 → ∀ b, b < 1 → a ≠ b → (TX2 a).2.1 ≠ (TX2 b).2.1 := by decide +kernel
theorem tyX2_ok : ∀ k, k < 1 → parseFieldDescriptor (TX2 k).2.2.1 = some (tyX2 k) := by decide +kernel
abbrev cX2_init : ByteArray := prog_4_method_1_code
def yX2_init : MethodName := ⟨RX2, "<init>", "()V"⟩
abbrev cX2_weigh : ByteArray := prog_4_method_2_code
def yX2_weigh : MethodName := ⟨RX2, "weigh", "(LBallInCup$Table;I)V"⟩
abbrev cX2_mostIn : ByteArray := prog_4_method_3_code
def yX2_mostIn : MethodName := ⟨RX2, "mostIn", "(I)I"⟩
abbrev cX2_timesOf : ByteArray := prog_4_method_4_code
def yX2_timesOf : MethodName := ⟨RX2, "timesOf", "(LBallInCup$Table;II)I"⟩
abbrev cX2_mostFrom : ByteArray := prog_4_method_5_code
def yX2_mostFrom : MethodName := ⟨RX2, "mostFrom", "(LBallInCup$Table;II)I"⟩
abbrev cX2_mostTimes : ByteArray := prog_4_method_6_code
def yX2_mostTimes : MethodName := ⟨RX2, "mostTimes", "(LBallInCup$Table;II)I"⟩
abbrev cX2_gainBy : ByteArray := prog_4_method_7_code
def yX2_gainBy : MethodName := ⟨RX2, "gainBy", "(LBallInCup$Table;III)I"⟩
def RX3 : String := "BallInCup$Reader"
def TX3 : u_T := fun k => match k with
  | 0 => ("BallInCup$Reader", "bytes", "[I", true)
  | 1 => ("BallInCup$Reader", "size", "I", false)
  | 2 => ("BallInCup$Reader", "place", "I", false)
  | 3 => ("BallInCup$Reader", "fault", "I", false)
  | 4 => ("BallInCup$Reader", "cups", "LBallInCup$Table;", true)
  | _ => ("BallInCup$Reader", "parts", "LBallInCup$Table;", true)
def tyX3 : Nat → FieldType := fun k => match k with
  | 0 => .array .int
  | 1 => .int
  | 2 => .int
  | 3 => .int
  | 4 => .object "BallInCup$Table"
  | _ => .object "BallInCup$Table"
abbrev wsX30 : List Cond := u_ws RX3 TX3 6
theorem nmX3 : ∀ a, a < 6 → ∀ b, b < 6 → a ≠ b → (TX3 a).2.1 ≠ (TX3 b).2.1 := by decide +kernel
theorem tyX3_ok : ∀ k, k < 6 → parseFieldDescriptor (TX3 k).2.2.1 = some (tyX3 k) := by decide +kernel
abbrev cX3_init : ByteArray := prog_5_method_1_code
def yX3_init : MethodName := ⟨RX3, "<init>", "()V"⟩
abbrev cX3_hasRoom : ByteArray := prog_5_method_2_code
def yX3_hasRoom : MethodName := ⟨RX3, "hasRoom", "(I)Z"⟩
abbrev cX3_append : ByteArray := prog_5_method_3_code
def yX3_append : MethodName := ⟨RX3, "append", "(I)V"⟩
abbrev cX3_readCups : ByteArray := prog_5_method_4_code
def yX3_readCups : MethodName := ⟨RX3, "readCups", "()I"⟩
abbrev cX3_readParts : ByteArray := prog_5_method_5_code
def yX3_readParts : MethodName := ⟨RX3, "readParts", "()I"⟩
abbrev cX3_begin : ByteArray := prog_5_method_6_code
def yX3_begin : MethodName := ⟨RX3, "begin", "()V"⟩
abbrev cX3_finish : ByteArray := prog_5_method_7_code
def yX3_finish : MethodName := ⟨RX3, "finish", "(I)I"⟩
abbrev cX3_readCup : ByteArray := prog_5_method_8_code
def yX3_readCup : MethodName := ⟨RX3, "readCup", "()V"⟩
abbrev cX3_readPart : ByteArray := prog_5_method_9_code
def yX3_readPart : MethodName := ⟨RX3, "readPart", "()V"⟩
abbrev cX3_next : ByteArray := prog_5_method_10_code
def yX3_next : MethodName := ⟨RX3, "next", "()I"⟩
abbrev cX3_faultAt : ByteArray := prog_5_method_11_code
def yX3_faultAt : MethodName := ⟨RX3, "faultAt", "(I)V"⟩
abbrev cX3_takes : ByteArray := prog_5_method_12_code
def yX3_takes : MethodName := ⟨RX3, "takes", "(I)Z"⟩
abbrev cX3_signedDigit : ByteArray := prog_5_method_13_code
def yX3_signedDigit : MethodName := ⟨RX3, "signedDigit", "()I"⟩
abbrev cX3_digit : ByteArray := prog_5_method_14_code
def yX3_digit : MethodName := ⟨RX3, "digit", "()I"⟩
abbrev cX3_number : ByteArray := prog_5_method_15_code
def yX3_number : MethodName := ⟨RX3, "number", "(II)I"⟩
def RX4 : String := "BallInCup$Setup"
def TX4 : u_T := fun k => match k with
  | 0 => ("BallInCup$Setup", "settings", "[I", true)
  | 1 => ("BallInCup$Setup", "cups", "LBallInCup$Table;", true)
  | 2 => ("BallInCup$Setup", "parts", "LBallInCup$Table;", true)
  | _ => ("BallInCup$Setup", "tricks", "LBallInCup$Table;", true)
def tyX4 : Nat → FieldType := fun k => match k with
  | 0 => .array .int
  | 1 => .object "BallInCup$Table"
  | 2 => .object "BallInCup$Table"
  | _ => .object "BallInCup$Table"
abbrev wsX40 : List Cond := u_ws RX4 TX4 4
theorem nmX4 : ∀ a, a < 4 → ∀ b, b < 4 → a ≠ b → (TX4 a).2.1 ≠ (TX4 b).2.1 := by decide +kernel
theorem tyX4_ok : ∀ k, k < 4 → parseFieldDescriptor (TX4 k).2.2.1 = some (tyX4 k) := by decide +kernel
abbrev cX4_init : ByteArray := prog_6_method_1_code
def yX4_init : MethodName := ⟨RX4, "<init>", "()V"⟩
abbrev cX4_hasNoPart : ByteArray := prog_6_method_2_code
def yX4_hasNoPart : MethodName := ⟨RX4, "hasNoPart", "()Z"⟩
abbrev cX4_pullSteps : ByteArray := prog_6_method_3_code
def yX4_pullSteps : MethodName := ⟨RX4, "pullSteps", "()I"⟩
abbrev cX4_takeAll : ByteArray := prog_6_method_4_code
def yX4_takeAll : MethodName := ⟨RX4, "takeAll", "(LBallInCup$Setup;)V"⟩
def RX5 : String := "BallInCup$Sheets"
def TX5 : u_T := fun k => match k with
  | 0 => ("BallInCup$Sheets", "lanes", "[I", true)
  | 1 => ("BallInCup$Sheets", "sizes", "[I", true)
  | _ => ("BallInCup$Sheets", "items", "[[I", true)
def tyX5 : Nat → FieldType := fun k => match k with
  | 0 => .array .int
  | 1 => .array .int
  | _ => .array (.array .int)
abbrev wsX50 : List Cond := u_ws RX5 TX5 3
theorem nmX5 : ∀ a, a < 3 → ∀ b, b < 3 → a ≠ b → (TX5 a).2.1 ≠ (TX5 b).2.1 := by decide +kernel
theorem tyX5_ok : ∀ k, k < 3 → parseFieldDescriptor (TX5 k).2.2.1 = some (tyX5 k) := by decide +kernel
abbrev cX5_init : ByteArray := prog_7_method_1_code
def yX5_init : MethodName := ⟨RX5, "<init>", "()V"⟩
abbrev cX5_isNothing : ByteArray := prog_7_method_2_code
def yX5_isNothing : MethodName := ⟨RX5, "isNothing", "(I)Z"⟩
abbrev cX5_makeRow : ByteArray := prog_7_method_3_code
def yX5_makeRow : MethodName := ⟨RX5, "makeRow", "(III)V"⟩
abbrev cX5_letGo : ByteArray := prog_7_method_4_code
def yX5_letGo : MethodName := ⟨RX5, "letGo", "(I)I"⟩
abbrev cX5_refusalOf : ByteArray := prog_7_method_5_code
def yX5_refusalOf : MethodName := ⟨RX5, "refusalOf", "(IIII)I"⟩
abbrev cX5_fits : ByteArray := prog_7_method_6_code
def yX5_fits : MethodName := ⟨RX5, "fits", "(III)Z"⟩
abbrev cX5_get : ByteArray := prog_7_method_7_code
def yX5_get : MethodName := ⟨RX5, "get", "(II)I"⟩
abbrev cX5_put : ByteArray := prog_7_method_8_code
def yX5_put : MethodName := ⟨RX5, "put", "(III)V"⟩
abbrev cX5_cutTo : ByteArray := prog_7_method_9_code
def yX5_cutTo : MethodName := ⟨RX5, "cutTo", "(II)I"⟩
def RX6 : String := "BallInCup$Table"
def TX6 : u_T := fun k => match k with
  | 0 => ("BallInCup$Table", "rows", "[[I", true)
  | 1 => ("BallInCup$Table", "columns", "I", true)
  | _ => ("BallInCup$Table", "size", "I", false)
def tyX6 : Nat → FieldType := fun k => match k with
  | 0 => .array (.array .int)
  | 1 => .int
  | _ => .int
abbrev wsX60 : List Cond := u_ws RX6 TX6 3
theorem nmX6 : ∀ a, a < 3 → ∀ b, b < 3 → a ≠ b → (TX6 a).2.1 ≠ (TX6 b).2.1 := by decide +kernel
theorem tyX6_ok : ∀ k, k < 3 → parseFieldDescriptor (TX6 k).2.2.1 = some (tyX6 k) := by decide +kernel
abbrev cX6_init : ByteArray := prog_8_method_1_code
def yX6_init : MethodName := ⟨RX6, "<init>", "(II)V"⟩
abbrev cX6_isFull : ByteArray := prog_8_method_2_code
def yX6_isFull : MethodName := ⟨RX6, "isFull", "()Z"⟩
abbrev cX6_has : ByteArray := prog_8_method_3_code
def yX6_has : MethodName := ⟨RX6, "has", "(I)Z"⟩
abbrev cX6_get : ByteArray := prog_8_method_4_code
def yX6_get : MethodName := ⟨RX6, "get", "(II)I"⟩
abbrev cX6_put : ByteArray := prog_8_method_5_code
def yX6_put : MethodName := ⟨RX6, "put", "(III)V"⟩
abbrev cX6_grow : ByteArray := prog_8_method_6_code
def yX6_grow : MethodName := ⟨RX6, "grow", "()I"⟩
abbrev cX6_empty : ByteArray := prog_8_method_7_code
def yX6_empty : MethodName := ⟨RX6, "empty", "()I"⟩
abbrev cX6_takeAll : ByteArray := prog_8_method_8_code
def yX6_takeAll : MethodName := ⟨RX6, "takeAll", "(LBallInCup$Table;)V"⟩
def RX7 : String := "BallInCup$Try"
def TX7 : u_T := fun k => match k with
  | 0 => ("BallInCup$Try", "setup", "LBallInCup$Setup;", true)
  | 1 => ("BallInCup$Try", "hand", "LBallInCup$Hand;", true)
  | 2 => ("BallInCup$Try", "cord", "I", false)
  | 3 => ("BallInCup$Try", "isMeeting", "Z", false)
  | 4 => ("BallInCup$Try", "lateCup", "I", false)
  | 5 => ("BallInCup$Try", "lateStep", "I", false)
  | 6 => ("BallInCup$Try", "x", "I", false)
  | 7 => ("BallInCup$Try", "y", "I", false)
  | 8 => ("BallInCup$Try", "paceX", "I", false)
  | 9 => ("BallInCup$Try", "paceY", "I", false)
  | 10 => ("BallInCup$Try", "turn", "I", false)
  | 11 => ("BallInCup$Try", "spin", "I", false)
  | 12 => ("BallInCup$Try", "isTaut", "Z", false)
  | 13 => ("BallInCup$Try", "steps", "I", false)
  | 14 => ("BallInCup$Try", "caught", "I", false)
  | 15 => ("BallInCup$Try", "rims", "I", false)
  | _ => ("BallInCup$Try", "tautSteps", "I", false)
def tyX7 : Nat → FieldType := fun k => match k with
  | 0 => .object "BallInCup$Setup"
  | 1 => .object "BallInCup$Hand"
  | 2 => .int
  | 3 => .boolean
  | 4 => .int
  | 5 => .int
  | 6 => .int
  | 7 => .int
  | 8 => .int
  | 9 => .int
  | 10 => .int
  | 11 => .int
  | 12 => .boolean
  | 13 => .int
  | 14 => .int
  | 15 => .int
  | _ => .int
abbrev wsX70 : List Cond := u_ws RX7 TX7 17
theorem nmX7 : ∀ a, a < 17 → ∀ b, b < 17 → a ≠ b → (TX7 a).2.1 ≠ (TX7 b).2.1 := by decide +kernel
theorem tyX7_ok : ∀ k, k < 17 → parseFieldDescriptor (TX7 k).2.2.1 = some (tyX7 k) := by decide +kernel
abbrev cX7_init : ByteArray := prog_9_method_1_code
def yX7_init : MethodName := ⟨RX7, "<init>", "(LBallInCup$Setup;)V"⟩
abbrev cX7_begin : ByteArray := prog_9_method_2_code
def yX7_begin : MethodName := ⟨RX7, "begin", "(III)V"⟩
abbrev cX7_beginAsTold : ByteArray := prog_9_method_3_code
def yX7_beginAsTold : MethodName := ⟨RX7, "beginAsTold", "()V"⟩
abbrev cX7_meetNothing : ByteArray := prog_9_method_4_code
def yX7_meetNothing : MethodName := ⟨RX7, "meetNothing", "()V"⟩
abbrev cX7_goOn : ByteArray := prog_9_method_5_code
def yX7_goOn : MethodName := ⟨RX7, "goOn", "(I)V"⟩
abbrev cX7_endBy : ByteArray := prog_9_method_6_code
def yX7_endBy : MethodName := ⟨RX7, "endBy", "(III)I"⟩
abbrev cX7_endLate : ByteArray := prog_9_method_7_code
def yX7_endLate : MethodName := ⟨RX7, "endLate", "(IIII)I"⟩
abbrev cX7_oddsBy : ByteArray := prog_9_method_8_code
def yX7_oddsBy : MethodName := ⟨RX7, "oddsBy", "(II)I"⟩
abbrev cX7_isSoft : ByteArray := prog_9_method_9_code
def yX7_isSoft : MethodName := ⟨RX7, "isSoft", "(I)Z"⟩
abbrev cX7_goStep : ByteArray := prog_9_method_10_code
def yX7_goStep : MethodName := ⟨RX7, "goStep", "()V"⟩
abbrev cX7_lateSide : ByteArray := prog_9_method_11_code
def yX7_lateSide : MethodName := ⟨RX7, "lateSide", "()I"⟩
abbrev cX7_holdByCord : ByteArray := prog_9_method_12_code
def yX7_holdByCord : MethodName := ⟨RX7, "holdByCord", "()V"⟩
abbrev cX7_wholeRoot : ByteArray := prog_9_method_13_code
def yX7_wholeRoot : MethodName := ⟨RX7, "wholeRoot", "(I)I"⟩
abbrev cX7_metCup : ByteArray := prog_9_method_14_code
def yX7_metCup : MethodName := ⟨RX7, "metCup", "(I)I"⟩
abbrev cX7_comeDownOn : ByteArray := prog_9_method_15_code
def yX7_comeDownOn : MethodName := ⟨RX7, "comeDownOn", "(I)V"⟩
def RX8 : String := "BallInCup"
def TX8 : u_T := fun k => match k with
  | 0 => ("BallInCup", "setup", "LBallInCup$Setup;", true)
  | 1 => ("BallInCup", "kept", "LBallInCup$Setup;", true)
  | 2 => ("BallInCup", "isKept", "Z", false)
  | 3 => ("BallInCup", "tries", "LBallInCup$Try;", true)
  | 4 => ("BallInCup", "grid", "LBallInCup$Grid;", true)
  | 5 => ("BallInCup", "plan", "LBallInCup$Plan;", true)
  | 6 => ("BallInCup", "reader", "LBallInCup$Reader;", true)
  | _ => ("BallInCup", "sheets", "LBallInCup$Sheets;", true)
def tyX8 : Nat → FieldType := fun k => match k with
  | 0 => .object "BallInCup$Setup"
  | 1 => .object "BallInCup$Setup"
  | 2 => .boolean
  | 3 => .object "BallInCup$Try"
  | 4 => .object "BallInCup$Grid"
  | 5 => .object "BallInCup$Plan"
  | 6 => .object "BallInCup$Reader"
  | _ => .object "BallInCup$Sheets"
abbrev wsX80 : List Cond := u_ws RX8 TX8 8
theorem nmX8 : ∀ a, a < 8 → ∀ b, b < 8 → a ≠ b → (TX8 a).2.1 ≠ (TX8 b).2.1 := by decide +kernel
theorem tyX8_ok : ∀ k, k < 8 → parseFieldDescriptor (TX8 k).2.2.1 = some (tyX8 k) := by decide +kernel
abbrev cX8_init : ByteArray := prog_1_method_1_code
def yX8_init : MethodName := ⟨RX8, "<init>", "()V"⟩
abbrev cX8_set : ByteArray := prog_1_method_2_code
def yX8_set : MethodName := ⟨RX8, "set", "(II)I"⟩
abbrev cX8_cup : ByteArray := prog_1_method_3_code
def yX8_cup : MethodName := ⟨RX8, "cup", "(IIIIZ)I"⟩
abbrev cX8_told : ByteArray := prog_1_method_4_code
def yX8_told : MethodName := ⟨RX8, "told", "(II)I"⟩
abbrev cX8_part : ByteArray := prog_1_method_5_code
def yX8_part : MethodName := ⟨RX8, "part", "(III)I"⟩
abbrev cX8_pull : ByteArray := prog_1_method_6_code
def yX8_pull : MethodName := ⟨RX8, "pull", "(II)I"⟩
abbrev cX8_still : ByteArray := prog_1_method_7_code
def yX8_still : MethodName := ⟨RX8, "still", "()I"⟩
abbrev cX8_type : ByteArray := prog_1_method_8_code
def yX8_type : MethodName := ⟨RX8, "type", "(JI)I"⟩
abbrev cX8_toy : ByteArray := prog_1_method_9_code
def yX8_toy : MethodName := ⟨RX8, "toy", "()I"⟩
abbrev cX8_pulls : ByteArray := prog_1_method_10_code
def yX8_pulls : MethodName := ⟨RX8, "pulls", "()I"⟩
abbrev cX8_at : ByteArray := prog_1_method_11_code
def yX8_at : MethodName := ⟨RX8, "at", "(II)I"⟩
abbrev cX8_end : ByteArray := prog_1_method_12_code
def yX8_end : MethodName := ⟨RX8, "end", "(I)I"⟩
abbrev cX8_count : ByteArray := prog_1_method_13_code
def yX8_count : MethodName := ⟨RX8, "count", "(I)I"⟩
abbrev cX8_ends : ByteArray := prog_1_method_14_code
def yX8_ends : MethodName := ⟨RX8, "ends", "(II)I"⟩
abbrev cX8_cells : ByteArray := prog_1_method_15_code
def yX8_cells : MethodName := ⟨RX8, "cells", "(II)I"⟩
abbrev cX8_middle : ByteArray := prog_1_method_16_code
def yX8_middle : MethodName := ⟨RX8, "middle", "(II)I"⟩
abbrev cX8_mended : ByteArray := prog_1_method_17_code
def yX8_mended : MethodName := ⟨RX8, "mended", "(II)I"⟩
abbrev cX8_odds : ByteArray := prog_1_method_18_code
def yX8_odds : MethodName := ⟨RX8, "odds", "(I)I"⟩
abbrev cX8_which : ByteArray := prog_1_method_19_code
def yX8_which : MethodName := ⟨RX8, "which", "()I"⟩
abbrev cX8_trick : ByteArray := prog_1_method_20_code
def yX8_trick : MethodName := ⟨RX8, "trick", "(IIII)I"⟩
abbrev cX8_most : ByteArray := prog_1_method_21_code
def yX8_most : MethodName := ⟨RX8, "most", "(II)I"⟩
abbrev cX8_row : ByteArray := prog_1_method_22_code
def yX8_row : MethodName := ⟨RX8, "row", "(II)I"⟩
abbrev cX8_clear : ByteArray := prog_1_method_23_code
def yX8_clear : MethodName := ⟨RX8, "clear", "()I"⟩
abbrev cX8_cord : ByteArray := prog_1_method_24_code
def yX8_cord : MethodName := ⟨RX8, "cord", "(II)I"⟩
abbrev cX8_down : ByteArray := prog_1_method_25_code
def yX8_down : MethodName := ⟨RX8, "down", "(II)I"⟩
abbrev cX8_filmed : ByteArray := prog_1_method_26_code
def yX8_filmed : MethodName := ⟨RX8, "filmed", "(IIIII)I"⟩
abbrev cX8_image : ByteArray := prog_1_method_27_code
def yX8_image : MethodName := ⟨RX8, "image", "()I"⟩
abbrev cX8_restore : ByteArray := prog_1_method_28_code
def yX8_restore : MethodName := ⟨RX8, "restore", "()I"⟩
abbrev cX8_film : ByteArray := prog_1_method_29_code
def yX8_film : MethodName := ⟨RX8, "film", "(IIII)I"⟩
abbrev cX8_sheet : ByteArray := prog_1_method_30_code
def yX8_sheet : MethodName := ⟨RX8, "sheet", "(III)I"⟩
abbrev cX8_drop : ByteArray := prog_1_method_31_code
def yX8_drop : MethodName := ⟨RX8, "drop", "(I)I"⟩
abbrev cX8_item : ByteArray := prog_1_method_32_code
def yX8_item : MethodName := ⟨RX8, "item", "(IIII)I"⟩
abbrev cX8_copy : ByteArray := prog_1_method_33_code
def yX8_copy : MethodName := ⟨RX8, "copy", "(IIIII)I"⟩
abbrev cX8_isIn : ByteArray := prog_1_method_34_code
def yX8_isIn : MethodName := ⟨RX8, "isIn", "(III)Z"⟩
abbrev cX8_isRow : ByteArray := prog_1_method_35_code
def yX8_isRow : MethodName := ⟨RX8, "isRow", "(II)Z"⟩
abbrev cX8_byteOf : ByteArray := prog_1_method_36_code
def yX8_byteOf : MethodName := ⟨RX8, "byteOf", "(JI)I"⟩
abbrev cX8_addCup : ByteArray := prog_1_method_37_code
def yX8_addCup : MethodName := ⟨RX8, "addCup", "(LBallInCup$Table;IIIII)I"⟩
abbrev cX8_addPart : ByteArray := prog_1_method_38_code
def yX8_addPart : MethodName := ⟨RX8, "addPart", "(LBallInCup$Table;III)I"⟩
abbrev cX8_isShown : ByteArray := prog_1_method_39_code
def yX8_isShown : MethodName := ⟨RX8, "isShown", "(IIII)Z"⟩
def RX9 : String := "BallInCupModel"
def TX9 : u_T := fun k => match k with
  | 0 => ("BallInCupModel", "sets", "[I", true)
  | 1 => ("BallInCupModel", "cups", "I", false)
  | 2 => ("BallInCupModel", "cupParts", "[I", true)
  | 3 => ("BallInCupModel", "parts", "I", false)
  | 4 => ("BallInCupModel", "pullParts", "[I", true)
  | 5 => ("BallInCupModel", "tricks", "I", false)
  | 6 => ("BallInCupModel", "trickParts", "[I", true)
  | 7 => ("BallInCupModel", "tape", "[I", true)
  | 8 => ("BallInCupModel", "taped", "I", false)
  | 9 => ("BallInCupModel", "at", "I", false)
  | 10 => ("BallInCupModel", "wrong", "Z", false)
  | 11 => ("BallInCupModel", "read", "[I", true)
  | 12 => ("BallInCupModel", "rows", "[I", true)
  | 13 => ("BallInCupModel", "us", "[I", true)
  | 14 => ("BallInCupModel", "vs", "[I", true)
  | 15 => ("BallInCupModel", "lateCup", "I", false)
  | 16 => ("BallInCupModel", "lateFrom", "I", false)
  | 17 => ("BallInCupModel", "noCups", "Z", false)
  | 18 => ("BallInCupModel", "caughtBy", "I", false)
  | 19 => ("BallInCupModel", "caughtIn", "I", false)
  | 20 => ("BallInCupModel", "rims", "I", false)
  | 21 => ("BallInCupModel", "tauts", "I", false)
  | 22 => ("BallInCupModel", "ballX", "I", false)
  | 23 => ("BallInCupModel", "ballY", "I", false)
  | 24 => ("BallInCupModel", "paceX", "I", false)
  | 25 => ("BallInCupModel", "paceY", "I", false)
  | 26 => ("BallInCupModel", "turn", "I", false)
  | 27 => ("BallInCupModel", "spin", "I", false)
  | 28 => ("BallInCupModel", "handX", "I", false)
  | 29 => ("BallInCupModel", "handY", "I", false)
  | 30 => ("BallInCupModel", "taut", "I", false)
  | 31 => ("BallInCupModel", "ends", "[I", true)
  | 32 => ("BallInCupModel", "plain", "[I", true)
  | 33 => ("BallInCupModel", "cellOf", "[I", true)
  | 34 => ("BallInCupModel", "sums", "[I", true)
  | 35 => ("BallInCupModel", "image", "[I", true)
  | 36 => ("BallInCupModel", "isImage", "Z", false)
  | 37 => ("BallInCupModel", "lanes", "[I", true)
  | 38 => ("BallInCupModel", "sizes", "[I", true)
  | 39 => ("BallInCupModel", "items", "[I", true)
  | _ => ("BallInCupModel", "moved", "[I", true)
def tyX9 : Nat → FieldType := fun k => match k with
  | 0 => .array .int
  | 1 => .int
  | 2 => .array .int
  | 3 => .int
  | 4 => .array .int
  | 5 => .int
  | 6 => .array .int
  | 7 => .array .int
  | 8 => .int
  | 9 => .int
  | 10 => .boolean
  | 11 => .array .int
  | 12 => .array .int
  | 13 => .array .int
  | 14 => .array .int
  | 15 => .int
  | 16 => .int
  | 17 => .boolean
  | 18 => .int
  | 19 => .int
  | 20 => .int
  | 21 => .int
  | 22 => .int
  | 23 => .int
  | 24 => .int
  | 25 => .int
  | 26 => .int
  | 27 => .int
  | 28 => .int
  | 29 => .int
  | 30 => .int
  | 31 => .array .int
  | 32 => .array .int
  | 33 => .array .int
  | 34 => .array .int
  | 35 => .array .int
  | 36 => .boolean
  | 37 => .array .int
  | 38 => .array .int
  | 39 => .array .int
  | _ => .array .int
abbrev wsX90 : List Cond := u_ws RX9 TX9 41
theorem nmX9 : ∀ a, a < 41 → ∀ b, b < 41 → a ≠ b → (TX9 a).2.1 ≠ (TX9 b).2.1 := by decide +kernel
theorem tyX9_ok : ∀ k, k < 41 → parseFieldDescriptor (TX9 k).2.2.1 = some (tyX9 k) := by decide +kernel
abbrev cX9_in : ByteArray := prog_11_method_2_code
def yX9_in : MethodName := ⟨RX9, "in", "(JJJ)Z"⟩
abbrev cX9_init : ByteArray := prog_11_method_3_code
def yX9_init : MethodName := ⟨RX9, "<init>", "()V"⟩
abbrev cX9_isCup : ByteArray := prog_11_method_4_code
def yX9_isCup : MethodName := ⟨RX9, "isCup", "(I)Z"⟩
abbrev cX9_set : ByteArray := prog_11_method_5_code
def yX9_set : MethodName := ⟨RX9, "set", "(II)I"⟩
abbrev cX9_cupIs : ByteArray := prog_11_method_6_code
def yX9_cupIs : MethodName := ⟨RX9, "cupIs", "(IIIIII)V"⟩
abbrev cX9_cup : ByteArray := prog_11_method_7_code
def yX9_cup : MethodName := ⟨RX9, "cup", "(IIIIZ)I"⟩
abbrev cX9_told : ByteArray := prog_11_method_8_code
def yX9_told : MethodName := ⟨RX9, "told", "(II)I"⟩
abbrev cX9_partIs : ByteArray := prog_11_method_9_code
def yX9_partIs : MethodName := ⟨RX9, "partIs", "(IIII)V"⟩
abbrev cX9_part : ByteArray := prog_11_method_10_code
def yX9_part : MethodName := ⟨RX9, "part", "(III)I"⟩
abbrev cX9_pull : ByteArray := prog_11_method_11_code
def yX9_pull : MethodName := ⟨RX9, "pull", "(II)I"⟩
abbrev cX9_still : ByteArray := prog_11_method_12_code
def yX9_still : MethodName := ⟨RX9, "still", "()I"⟩
abbrev cX9_type : ByteArray := prog_11_method_13_code
def yX9_type : MethodName := ⟨RX9, "type", "(JI)I"⟩
abbrev cX9_here : ByteArray := prog_11_method_14_code
def yX9_here : MethodName := ⟨RX9, "here", "()I"⟩
abbrev cX9_has : ByteArray := prog_11_method_15_code
def yX9_has : MethodName := ⟨RX9, "has", "(I)Z"⟩
abbrev cX9_number : ByteArray := prog_11_method_16_code
def yX9_number : MethodName := ⟨RX9, "number", "(II)I"⟩
abbrev cX9_digit : ByteArray := prog_11_method_17_code
def yX9_digit : MethodName := ⟨RX9, "digit", "()I"⟩
abbrev cX9_signed : ByteArray := prog_11_method_18_code
def yX9_signed : MethodName := ⟨RX9, "signed", "()I"⟩
abbrev cX9_cupClause : ByteArray := prog_11_method_19_code
def yX9_cupClause : MethodName := ⟨RX9, "cupClause", "(I)V"⟩
abbrev cX9_partClause : ByteArray := prog_11_method_20_code
def yX9_partClause : MethodName := ⟨RX9, "partClause", "(I)V"⟩
abbrev cX9_readAll : ByteArray := prog_11_method_21_code
def yX9_readAll : MethodName := ⟨RX9, "readAll", "(Z)I"⟩
abbrev cX9_toy : ByteArray := prog_11_method_22_code
def yX9_toy : MethodName := ⟨RX9, "toy", "()I"⟩
abbrev cX9_pulls : ByteArray := prog_11_method_23_code
def yX9_pulls : MethodName := ⟨RX9, "pulls", "()I"⟩
abbrev cX9_count : ByteArray := prog_11_method_24_code
def yX9_count : MethodName := ⟨RX9, "count", "(I)I"⟩
abbrev cX9_lays : ByteArray := prog_11_method_25_code
def yX9_lays : MethodName := ⟨RX9, "lays", "()V"⟩
abbrev cX9_root : ByteArray := prog_11_method_26_code
def yX9_root : MethodName := ⟨RX9, "root", "(I)I"⟩
abbrev cX9_size : ByteArray := prog_11_method_27_code
def yX9_size : MethodName := ⟨RX9, "size", "(I)I"⟩
abbrev cX9_swings : ByteArray := prog_11_method_28_code
def yX9_swings : MethodName := ⟨RX9, "swings", "(I)V"⟩
abbrev cX9_meets : ByteArray := prog_11_method_29_code
def yX9_meets : MethodName := ⟨RX9, "meets", "(III)Z"⟩
abbrev cX9_tries : ByteArray := prog_11_method_30_code
def yX9_tries : MethodName := ⟨RX9, "tries", "()V"⟩
abbrev cX9_at : ByteArray := prog_11_method_31_code
def yX9_at : MethodName := ⟨RX9, "at", "(II)I"⟩
abbrev cX9_end : ByteArray := prog_11_method_32_code
def yX9_end : MethodName := ⟨RX9, "end", "(I)I"⟩
abbrev cX9_endBy : ByteArray := prog_11_method_33_code
def yX9_endBy : MethodName := ⟨RX9, "endBy", "(II)I"⟩
abbrev cX9_grid : ByteArray := prog_11_method_34_code
def yX9_grid : MethodName := ⟨RX9, "grid", "()V"⟩
abbrev cX9_ends : ByteArray := prog_11_method_35_code
def yX9_ends : MethodName := ⟨RX9, "ends", "(II)I"⟩
abbrev cX9_groups : ByteArray := prog_11_method_36_code
def yX9_groups : MethodName := ⟨RX9, "groups", "(I)V"⟩
abbrev cX9_cells : ByteArray := prog_11_method_37_code
def yX9_cells : MethodName := ⟨RX9, "cells", "(II)I"⟩
abbrev cX9_isRing : ByteArray := prog_11_method_38_code
def yX9_isRing : MethodName := ⟨RX9, "isRing", "(IIII)Z"⟩
abbrev cX9_middle : ByteArray := prog_11_method_39_code
def yX9_middle : MethodName := ⟨RX9, "middle", "(II)I"⟩
abbrev cX9_mended : ByteArray := prog_11_method_40_code
def yX9_mended : MethodName := ⟨RX9, "mended", "(II)I"⟩
abbrev cX9_oddsOf : ByteArray := prog_11_method_41_code
def yX9_oddsOf : MethodName := ⟨RX9, "oddsOf", "(I)I"⟩
abbrev cX9_odds : ByteArray := prog_11_method_42_code
def yX9_odds : MethodName := ⟨RX9, "odds", "(I)I"⟩
abbrev cX9_which : ByteArray := prog_11_method_43_code
def yX9_which : MethodName := ⟨RX9, "which", "()I"⟩
abbrev cX9_trick : ByteArray := prog_11_method_44_code
def yX9_trick : MethodName := ⟨RX9, "trick", "(IIII)I"⟩
abbrev cX9_most : ByteArray := prog_11_method_45_code
def yX9_most : MethodName := ⟨RX9, "most", "(II)I"⟩
abbrev cX9_row : ByteArray := prog_11_method_46_code
def yX9_row : MethodName := ⟨RX9, "row", "(II)I"⟩
abbrev cX9_clear : ByteArray := prog_11_method_47_code
def yX9_clear : MethodName := ⟨RX9, "clear", "()I"⟩
abbrev cX9_cord : ByteArray := prog_11_method_48_code
def yX9_cord : MethodName := ⟨RX9, "cord", "(II)I"⟩
abbrev cX9_down : ByteArray := prog_11_method_49_code
def yX9_down : MethodName := ⟨RX9, "down", "(II)I"⟩
abbrev cX9_filmed : ByteArray := prog_11_method_50_code
def yX9_filmed : MethodName := ⟨RX9, "filmed", "(IIIII)I"⟩
abbrev cX9_saves : ByteArray := prog_11_method_51_code
def yX9_saves : MethodName := ⟨RX9, "saves", "([I[II)I"⟩
abbrev cX9_gives : ByteArray := prog_11_method_52_code
def yX9_gives : MethodName := ⟨RX9, "gives", "([II[I)I"⟩
abbrev cX9_image : ByteArray := prog_11_method_53_code
def yX9_image : MethodName := ⟨RX9, "image", "()I"⟩
abbrev cX9_restore : ByteArray := prog_11_method_54_code
def yX9_restore : MethodName := ⟨RX9, "restore", "()I"⟩
abbrev cX9_isSheet : ByteArray := prog_11_method_55_code
def yX9_isSheet : MethodName := ⟨RX9, "isSheet", "(I)Z"⟩
abbrev cX9_isLane : ByteArray := prog_11_method_56_code
def yX9_isLane : MethodName := ⟨RX9, "isLane", "(I)Z"⟩
abbrev cX9_finds : ByteArray := prog_11_method_57_code
def yX9_finds : MethodName := ⟨RX9, "finds", "(IIII)I"⟩
abbrev cX9_cast : ByteArray := prog_11_method_58_code
def yX9_cast : MethodName := ⟨RX9, "cast", "(II)I"⟩
abbrev cX9_film : ByteArray := prog_11_method_59_code
def yX9_film : MethodName := ⟨RX9, "film", "(IIII)I"⟩
abbrev cX9_sheet : ByteArray := prog_11_method_60_code
def yX9_sheet : MethodName := ⟨RX9, "sheet", "(III)I"⟩
abbrev cX9_drop : ByteArray := prog_11_method_61_code
def yX9_drop : MethodName := ⟨RX9, "drop", "(I)I"⟩
abbrev cX9_item : ByteArray := prog_11_method_62_code
def yX9_item : MethodName := ⟨RX9, "item", "(IIII)I"⟩
abbrev cX9_copy : ByteArray := prog_11_method_63_code
def yX9_copy : MethodName := ⟨RX9, "copy", "(IIIII)I"⟩
def RJx8e188 : String := "java/lang/Cloneable"
def TJx8e188 : u_T := fun k => match k with
  | _ => ("", "", "", false)
def tyJx8e188 : Nat → FieldType := fun k => match k with
  | _ => .int
abbrev wsJx8e1880 : List Cond := u_ws RJx8e188 TJx8e188 0
theorem nmJx8e188 : ∀ a, a < 0 → ∀ b, b < 0 → a ≠ b → (TJx8e188 a).2.1 ≠ (TJx8e188 b).2.1 := by decide +kernel
theorem tyJx8e188_ok : ∀ k, k < 0 → parseFieldDescriptor (TJx8e188 k).2.2.1 = some (tyJx8e188 k) := by decide +kernel
def RJ6 : String := "java/lang/Integer"
def TJ6 : u_T := fun k => match k with
  | _ => ("", "", "", false)
def tyJ6 : Nat → FieldType := fun k => match k with
  | _ => .int
abbrev wsJ60 : List Cond := u_ws RJ6 TJ6 0
theorem nmJ6 : ∀ a, a < 0 → ∀ b, b < 0 → a ≠ b → (TJ6 a).2.1 ≠ (TJ6 b).2.1 := by decide +kernel
theorem tyJ6_ok : ∀ k, k < 0 → parseFieldDescriptor (TJ6 k).2.2.1 = some (tyJ6 k) := by decide +kernel
abbrev cJ6_compare_7cf53 : ByteArray := prog_13_method_40_code
def yJ6_compare_7cf53 : MethodName := ⟨RJ6, "compare", "(II)I"⟩
def RJ9 : String := "java/lang/Math"
def TJ9 : u_T := fun k => match k with
  | _ => ("", "", "", false)
def tyJ9 : Nat → FieldType := fun k => match k with
  | _ => .int
abbrev wsJ90 : List Cond := u_ws RJ9 TJ9 0
theorem nmJ9 : ∀ a, a < 0 → ∀ b, b < 0 → a ≠ b → (TJ9 a).2.1 ≠ (TJ9 b).2.1 := by decide +kernel
theorem tyJ9_ok : ∀ k, k < 0 → parseFieldDescriptor (TJ9 k).2.2.1 = some (tyJ9 k) := by decide +kernel
abbrev cJ9_floorMod_7cf53 : ByteArray := prog_14_method_50_code
def yJ9_floorMod_7cf53 : MethodName := ⟨RJ9, "floorMod", "(II)I"⟩
abbrev cJ9_abs_0f7a4 : ByteArray := prog_14_method_59_code
def yJ9_abs_0f7a4 : MethodName := ⟨RJ9, "abs", "(I)I"⟩
abbrev cJ9_max_7cf53 : ByteArray := prog_14_method_65_code
def yJ9_max_7cf53 : MethodName := ⟨RJ9, "max", "(II)I"⟩
abbrev cJ9_min_7cf53 : ByteArray := prog_14_method_69_code
def yJ9_min_7cf53 : MethodName := ⟨RJ9, "min", "(II)I"⟩
def RJ10 : String := "java/lang/System"
def TJ10 : u_T := fun k => match k with
  | _ => ("", "", "", false)
def tyJ10 : Nat → FieldType := fun k => match k with
  | _ => .int
abbrev wsJ100 : List Cond := u_ws RJ10 TJ10 0
theorem nmJ10 : ∀ a, a < 0 → ∀ b, b < 0 → a ≠ b → (TJ10 a).2.1 ≠ (TJ10 b).2.1 := by decide +kernel
theorem tyJ10_ok : ∀ k, k < 0 → parseFieldDescriptor (TJ10 k).2.2.1 = some (tyJ10 k) := by decide +kernel
def RJ7 : String := "java/util/Arrays"
def TJ7 : u_T := fun k => match k with
  | _ => ("", "", "", false)
def tyJ7 : Nat → FieldType := fun k => match k with
  | _ => .int
abbrev wsJ70 : List Cond := u_ws RJ7 TJ7 0
theorem nmJ7 : ∀ a, a < 0 → ∀ b, b < 0 → a ≠ b → (TJ7 a).2.1 ≠ (TJ7 b).2.1 := by decide +kernel
theorem tyJ7_ok : ∀ k, k < 0 → parseFieldDescriptor (TJ7 k).2.2.1 = some (tyJ7 k) := by decide +kernel
abbrev cJ7_fill_53178 : ByteArray := prog_16_method_103_code
def yJ7_fill_53178 : MethodName := ⟨RJ7, "fill", "([II)V"⟩
def RL : String := "BallInCupLaw"
abbrev cL_law : ByteArray := code
def yL_law : MethodName := ⟨RL, "law", "([I)Z"⟩
abbrev vwCl : List vw_C := [(RX0, TX0, 5), (RX1, TX1, 9), (RX2, TX2, 1), (RX3, TX3, 6), (RX4, TX4, 4), (RX5, TX5, 3), (RX6, TX6, 3), (RX7, TX7, 17), (RX8, TX8, 8), (RX9, TX9, 41)]
end
section
theorem dX6_init_0 : decode cX6_init 0 = .ok (.aload_n 0, 1) := by decide +kernel
theorem dX6_init_1 : decode cX6_init 1 = .ok (.invokespecial 3, 3) := by decide +kernel
theorem dX6_init_4 : decode cX6_init 4 = .ok (.aload_n 0, 1) := by decide +kernel
theorem dX6_init_5 : decode cX6_init 5 = .ok (.iload_n 1, 1) := by decide +kernel
theorem dX6_init_6 : decode cX6_init 6 = .ok (.iconst 0, 1) := by decide +kernel
theorem dX6_init_7 : decode cX6_init 7 = .ok (.invokestatic 9, 3) := by decide +kernel
theorem dX6_init_10 : decode cX6_init 10 = .ok (.iload_n 2, 1) := by decide +kernel
theorem dX6_init_11 : decode cX6_init 11 = .ok (.iconst 0, 1) := by decide +kernel
theorem dX6_init_12 : decode cX6_init 12 = .ok (.invokestatic 9, 3) := by decide +kernel
theorem dX6_init_15 : decode cX6_init 15 = .ok (.multianewarray 15 2, 4) := by decide +kernel
theorem dX6_init_19 : decode cX6_init 19 = .ok (.putfield 17, 3) := by decide +kernel
theorem dX6_init_22 : decode cX6_init 22 = .ok (.aload_n 0, 1) := by decide +kernel
theorem dX6_init_23 : decode cX6_init 23 = .ok (.iload_n 2, 1) := by decide +kernel
theorem dX6_init_24 : decode cX6_init 24 = .ok (.putfield 22, 3) := by decide +kernel
theorem dX6_init_27 : decode cX6_init 27 = .ok (.return_, 1) := by decide +kernel
theorem dX6_isFull_0 : decode cX6_isFull 0 = .ok (.aload_n 0, 1) := by decide +kernel
theorem dX6_isFull_1 : decode cX6_isFull 1 = .ok (.getfield 26, 3) := by decide +kernel
theorem dX6_isFull_4 : decode cX6_isFull 4 = .ok (.aload_n 0, 1) := by decide +kernel
theorem dX6_isFull_5 : decode cX6_isFull 5 = .ok (.getfield 17, 3) := by decide +kernel
theorem dX6_isFull_8 : decode cX6_isFull 8 = .ok (.arraylength, 1) := by decide +kernel
theorem dX6_isFull_9 : decode cX6_isFull 9 = .ok (.if_icmp .lt 7, 3) := by decide +kernel
theorem dX6_isFull_12 : decode cX6_isFull 12 = .ok (.iconst 1, 1) := by decide +kernel
theorem dX6_isFull_13 : decode cX6_isFull 13 = .ok (.goto 4, 3) := by decide +kernel
theorem dX6_isFull_16 : decode cX6_isFull 16 = .ok (.iconst 0, 1) := by decide +kernel
theorem dX6_isFull_17 : decode cX6_isFull 17 = .ok (.ireturn, 1) := by decide +kernel
theorem dX6_has_0 : decode cX6_has 0 = .ok (.iload_n 1, 1) := by decide +kernel
theorem dX6_has_1 : decode cX6_has 1 = .ok (.ifCond .lt 15, 3) := by decide +kernel
theorem dX6_has_4 : decode cX6_has 4 = .ok (.iload_n 1, 1) := by decide +kernel
theorem dX6_has_5 : decode cX6_has 5 = .ok (.aload_n 0, 1) := by decide +kernel
theorem dX6_has_6 : decode cX6_has 6 = .ok (.getfield 26, 3) := by decide +kernel
theorem dX6_has_9 : decode cX6_has 9 = .ok (.if_icmp .ge 7, 3) := by decide +kernel
theorem dX6_has_12 : decode cX6_has 12 = .ok (.iconst 1, 1) := by decide +kernel
theorem dX6_has_13 : decode cX6_has 13 = .ok (.goto 4, 3) := by decide +kernel
theorem dX6_has_16 : decode cX6_has 16 = .ok (.iconst 0, 1) := by decide +kernel
theorem dX6_has_17 : decode cX6_has 17 = .ok (.ireturn, 1) := by decide +kernel
theorem dX6_get_0 : decode cX6_get 0 = .ok (.iload_n 1, 1) := by decide +kernel
theorem dX6_get_1 : decode cX6_get 1 = .ok (.ifCond .lt 27, 3) := by decide +kernel
theorem dX6_get_4 : decode cX6_get 4 = .ok (.iload_n 1, 1) := by decide +kernel
theorem dX6_get_5 : decode cX6_get 5 = .ok (.aload_n 0, 1) := by decide +kernel
theorem dX6_get_6 : decode cX6_get 6 = .ok (.getfield 26, 3) := by decide +kernel
theorem dX6_get_9 : decode cX6_get 9 = .ok (.if_icmp .ge 19, 3) := by decide +kernel
theorem dX6_get_12 : decode cX6_get 12 = .ok (.iload_n 2, 1) := by decide +kernel
theorem dX6_get_13 : decode cX6_get 13 = .ok (.ifCond .lt 15, 3) := by decide +kernel
theorem dX6_get_16 : decode cX6_get 16 = .ok (.iload_n 2, 1) := by decide +kernel
theorem dX6_get_17 : decode cX6_get 17 = .ok (.aload_n 0, 1) := by decide +kernel
theorem dX6_get_18 : decode cX6_get 18 = .ok (.getfield 22, 3) := by decide +kernel
theorem dX6_get_21 : decode cX6_get 21 = .ok (.if_icmp .ge 7, 3) := by decide +kernel
theorem dX6_get_24 : decode cX6_get 24 = .ok (.iconst 1, 1) := by decide +kernel
theorem dX6_get_25 : decode cX6_get 25 = .ok (.goto 4, 3) := by decide +kernel
theorem dX6_get_28 : decode cX6_get 28 = .ok (.iconst 0, 1) := by decide +kernel
theorem dX6_get_29 : decode cX6_get 29 = .ok (.istore_n 3, 1) := by decide +kernel
theorem dX6_get_30 : decode cX6_get 30 = .ok (.iload_n 3, 1) := by decide +kernel
theorem dX6_get_31 : decode cX6_get 31 = .ok (.ifCond .eq 14, 3) := by decide +kernel
theorem dX6_get_34 : decode cX6_get 34 = .ok (.aload_n 0, 1) := by decide +kernel
theorem dX6_get_35 : decode cX6_get 35 = .ok (.getfield 17, 3) := by decide +kernel
theorem dX6_get_38 : decode cX6_get 38 = .ok (.iload_n 1, 1) := by decide +kernel
theorem dX6_get_39 : decode cX6_get 39 = .ok (.aaload, 1) := by decide +kernel
theorem dX6_get_40 : decode cX6_get 40 = .ok (.iload_n 2, 1) := by decide +kernel
theorem dX6_get_41 : decode cX6_get 41 = .ok (.iaload, 1) := by decide +kernel
theorem dX6_get_42 : decode cX6_get 42 = .ok (.goto 4, 3) := by decide +kernel
theorem dX6_get_45 : decode cX6_get 45 = .ok (.iconst 0, 1) := by decide +kernel
theorem dX6_get_46 : decode cX6_get 46 = .ok (.ireturn, 1) := by decide +kernel
theorem dX6_put_0 : decode cX6_put 0 = .ok (.aload_n 0, 1) := by decide +kernel
theorem dX6_put_1 : decode cX6_put 1 = .ok (.iload_n 1, 1) := by decide +kernel
theorem dX6_put_2 : decode cX6_put 2 = .ok (.invokevirtual 29, 3) := by decide +kernel
theorem dX6_put_5 : decode cX6_put 5 = .ok (.ifCond .eq 24, 3) := by decide +kernel
theorem dX6_put_8 : decode cX6_put 8 = .ok (.iload_n 2, 1) := by decide +kernel
theorem dX6_put_9 : decode cX6_put 9 = .ok (.ifCond .lt 20, 3) := by decide +kernel
theorem dX6_put_12 : decode cX6_put 12 = .ok (.iload_n 2, 1) := by decide +kernel
theorem dX6_put_13 : decode cX6_put 13 = .ok (.aload_n 0, 1) := by decide +kernel
theorem dX6_put_14 : decode cX6_put 14 = .ok (.getfield 22, 3) := by decide +kernel
theorem dX6_put_17 : decode cX6_put 17 = .ok (.if_icmp .ge 12, 3) := by decide +kernel
theorem dX6_put_20 : decode cX6_put 20 = .ok (.aload_n 0, 1) := by decide +kernel
theorem dX6_put_21 : decode cX6_put 21 = .ok (.getfield 17, 3) := by decide +kernel
theorem dX6_put_24 : decode cX6_put 24 = .ok (.iload_n 1, 1) := by decide +kernel
theorem dX6_put_25 : decode cX6_put 25 = .ok (.aaload, 1) := by decide +kernel
theorem dX6_put_26 : decode cX6_put 26 = .ok (.iload_n 2, 1) := by decide +kernel
theorem dX6_put_27 : decode cX6_put 27 = .ok (.iload_n 3, 1) := by decide +kernel
theorem dX6_put_28 : decode cX6_put 28 = .ok (.iastore, 1) := by decide +kernel
theorem dX6_put_29 : decode cX6_put 29 = .ok (.return_, 1) := by decide +kernel
theorem dX6_grow_0 : decode cX6_grow 0 = .ok (.aload_n 0, 1) := by decide +kernel
theorem dX6_grow_1 : decode cX6_grow 1 = .ok (.invokevirtual 33, 3) := by decide +kernel
theorem dX6_grow_4 : decode cX6_grow 4 = .ok (.ifCond .eq 6, 3) := by decide +kernel
theorem dX6_grow_7 : decode cX6_grow 7 = .ok (.bipush (-3), 2) := by decide +kernel
theorem dX6_grow_9 : decode cX6_grow 9 = .ok (.ireturn, 1) := by decide +kernel
theorem dX6_grow_10 : decode cX6_grow 10 = .ok (.aload_n 0, 1) := by decide +kernel
theorem dX6_grow_11 : decode cX6_grow 11 = .ok (.dup, 1) := by decide +kernel
theorem dX6_grow_12 : decode cX6_grow 12 = .ok (.getfield 26, 3) := by decide +kernel
theorem dX6_grow_15 : decode cX6_grow 15 = .ok (.iconst 1, 1) := by decide +kernel
theorem dX6_grow_16 : decode cX6_grow 16 = .ok (.iadd, 1) := by decide +kernel
theorem dX6_grow_17 : decode cX6_grow 17 = .ok (.putfield 26, 3) := by decide +kernel
theorem dX6_grow_20 : decode cX6_grow 20 = .ok (.aload_n 0, 1) := by decide +kernel
theorem dX6_grow_21 : decode cX6_grow 21 = .ok (.getfield 26, 3) := by decide +kernel
theorem dX6_grow_24 : decode cX6_grow 24 = .ok (.iconst 1, 1) := by decide +kernel
theorem dX6_grow_25 : decode cX6_grow 25 = .ok (.isub, 1) := by decide +kernel
theorem dX6_grow_26 : decode cX6_grow 26 = .ok (.ireturn, 1) := by decide +kernel
theorem dX6_empty_0 : decode cX6_empty 0 = .ok (.aload_n 0, 1) := by decide +kernel
theorem dX6_empty_1 : decode cX6_empty 1 = .ok (.getfield 26, 3) := by decide +kernel
theorem dX6_empty_4 : decode cX6_empty 4 = .ok (.istore_n 1, 1) := by decide +kernel
theorem dX6_empty_5 : decode cX6_empty 5 = .ok (.aload_n 0, 1) := by decide +kernel
theorem dX6_empty_6 : decode cX6_empty 6 = .ok (.iconst 0, 1) := by decide +kernel
theorem dX6_empty_7 : decode cX6_empty 7 = .ok (.putfield 26, 3) := by decide +kernel
theorem dX6_empty_10 : decode cX6_empty 10 = .ok (.iload_n 1, 1) := by decide +kernel
theorem dX6_empty_11 : decode cX6_empty 11 = .ok (.ireturn, 1) := by decide +kernel
theorem dX6_takeAll_0 : decode cX6_takeAll 0 = .ok (.aload_n 0, 1) := by decide +kernel
theorem dX6_takeAll_1 : decode cX6_takeAll 1 = .ok (.aload_n 1, 1) := by decide +kernel
theorem dX6_takeAll_2 : decode cX6_takeAll 2 = .ok (.getfield 26, 3) := by decide +kernel
theorem dX6_takeAll_5 : decode cX6_takeAll 5 = .ok (.aload_n 0, 1) := by decide +kernel
theorem dX6_takeAll_6 : decode cX6_takeAll 6 = .ok (.getfield 17, 3) := by decide +kernel
theorem dX6_takeAll_9 : decode cX6_takeAll 9 = .ok (.arraylength, 1) := by decide +kernel
theorem dX6_takeAll_10 : decode cX6_takeAll 10 = .ok (.invokestatic 37, 3) := by decide +kernel
theorem dX6_takeAll_13 : decode cX6_takeAll 13 = .ok (.putfield 26, 3) := by decide +kernel
theorem dX6_takeAll_16 : decode cX6_takeAll 16 = .ok (.iconst 0, 1) := by decide +kernel
theorem dX6_takeAll_17 : decode cX6_takeAll 17 = .ok (.istore_n 2, 1) := by decide +kernel
theorem dX6_takeAll_18 : decode cX6_takeAll 18 = .ok (.iload_n 2, 1) := by decide +kernel
theorem dX6_takeAll_19 : decode cX6_takeAll 19 = .ok (.aload_n 0, 1) := by decide +kernel
theorem dX6_takeAll_20 : decode cX6_takeAll 20 = .ok (.getfield 26, 3) := by decide +kernel
theorem dX6_takeAll_23 : decode cX6_takeAll 23 = .ok (.if_icmp .ge 39, 3) := by decide +kernel
theorem dX6_takeAll_26 : decode cX6_takeAll 26 = .ok (.iconst 0, 1) := by decide +kernel
theorem dX6_takeAll_27 : decode cX6_takeAll 27 = .ok (.istore_n 3, 1) := by decide +kernel
theorem dX6_takeAll_28 : decode cX6_takeAll 28 = .ok (.iload_n 3, 1) := by decide +kernel
theorem dX6_takeAll_29 : decode cX6_takeAll 29 = .ok (.aload_n 0, 1) := by decide +kernel
theorem dX6_takeAll_30 : decode cX6_takeAll 30 = .ok (.getfield 22, 3) := by decide +kernel
theorem dX6_takeAll_33 : decode cX6_takeAll 33 = .ok (.if_icmp .ge 23, 3) := by decide +kernel
theorem dX6_takeAll_36 : decode cX6_takeAll 36 = .ok (.aload_n 0, 1) := by decide +kernel
theorem dX6_takeAll_37 : decode cX6_takeAll 37 = .ok (.getfield 17, 3) := by decide +kernel
theorem dX6_takeAll_40 : decode cX6_takeAll 40 = .ok (.iload_n 2, 1) := by decide +kernel
theorem dX6_takeAll_41 : decode cX6_takeAll 41 = .ok (.aaload, 1) := by decide +kernel
theorem dX6_takeAll_42 : decode cX6_takeAll 42 = .ok (.iload_n 3, 1) := by decide +kernel
theorem dX6_takeAll_43 : decode cX6_takeAll 43 = .ok (.aload_n 1, 1) := by decide +kernel
theorem dX6_takeAll_44 : decode cX6_takeAll 44 = .ok (.iload_n 2, 1) := by decide +kernel
theorem dX6_takeAll_45 : decode cX6_takeAll 45 = .ok (.iload_n 3, 1) := by decide +kernel
theorem dX6_takeAll_46 : decode cX6_takeAll 46 = .ok (.invokevirtual 40, 3) := by decide +kernel
theorem dX6_takeAll_49 : decode cX6_takeAll 49 = .ok (.iastore, 1) := by decide +kernel
theorem dX6_takeAll_50 : decode cX6_takeAll 50 = .ok (.iinc 3 1, 3) := by decide +kernel
theorem dX6_takeAll_53 : decode cX6_takeAll 53 = .ok (.goto (-25), 3) := by decide +kernel
theorem dX6_takeAll_56 : decode cX6_takeAll 56 = .ok (.iinc 2 1, 3) := by decide +kernel
theorem dX6_takeAll_59 : decode cX6_takeAll 59 = .ok (.goto (-41), 3) := by decide +kernel
theorem dX6_takeAll_62 : decode cX6_takeAll 62 = .ok (.return_, 1) := by decide +kernel
theorem dX7_init_0 : decode cX7_init 0 = .ok (.aload_n 0, 1) := by decide +kernel
theorem dX7_init_1 : decode cX7_init 1 = .ok (.invokespecial 3, 3) := by decide +kernel
theorem dX7_init_4 : decode cX7_init 4 = .ok (.aload_n 0, 1) := by decide +kernel
theorem dX7_init_5 : decode cX7_init 5 = .ok (.aload_n 1, 1) := by decide +kernel
theorem dX7_init_6 : decode cX7_init 6 = .ok (.putfield 9, 3) := by decide +kernel
theorem dX7_init_9 : decode cX7_init 9 = .ok (.aload_n 0, 1) := by decide +kernel
theorem dX7_init_10 : decode cX7_init 10 = .ok (.new 15, 3) := by decide +kernel
theorem dX7_init_13 : decode cX7_init 13 = .ok (.dup, 1) := by decide +kernel
theorem dX7_init_14 : decode cX7_init 14 = .ok (.aload_n 1, 1) := by decide +kernel
theorem dX7_init_15 : decode cX7_init 15 = .ok (.getfield 17, 3) := by decide +kernel
theorem dX7_init_18 : decode cX7_init 18 = .ok (.invokespecial 23, 3) := by decide +kernel
theorem dX7_init_21 : decode cX7_init 21 = .ok (.putfield 26, 3) := by decide +kernel
theorem dX7_init_24 : decode cX7_init 24 = .ok (.return_, 1) := by decide +kernel
theorem dX7_begin_0 : decode cX7_begin 0 = .ok (.aload_n 0, 1) := by decide +kernel
theorem dX7_begin_1 : decode cX7_begin 1 = .ok (.getfield 26, 3) := by decide +kernel
theorem dX7_begin_4 : decode cX7_begin 4 = .ok (.iload_n 2, 1) := by decide +kernel
theorem dX7_begin_5 : decode cX7_begin 5 = .ok (.iload_n 3, 1) := by decide +kernel
theorem dX7_begin_6 : decode cX7_begin 6 = .ok (.invokevirtual 30, 3) := by decide +kernel
theorem dX7_begin_9 : decode cX7_begin 9 = .ok (.aload_n 0, 1) := by decide +kernel
theorem dX7_begin_10 : decode cX7_begin 10 = .ok (.iload_n 1, 1) := by decide +kernel
theorem dX7_begin_11 : decode cX7_begin 11 = .ok (.putfield 34, 3) := by decide +kernel
theorem dX7_begin_14 : decode cX7_begin 14 = .ok (.aload_n 0, 1) := by decide +kernel
theorem dX7_begin_15 : decode cX7_begin 15 = .ok (.iconst 1, 1) := by decide +kernel
theorem dX7_begin_16 : decode cX7_begin 16 = .ok (.putfield 38, 3) := by decide +kernel
theorem dX7_begin_19 : decode cX7_begin 19 = .ok (.aload_n 0, 1) := by decide +kernel
theorem dX7_begin_20 : decode cX7_begin 20 = .ok (.iconst (-1), 1) := by decide +kernel
theorem dX7_begin_21 : decode cX7_begin 21 = .ok (.putfield 42, 3) := by decide +kernel
theorem dX7_begin_24 : decode cX7_begin 24 = .ok (.aload_n 0, 1) := by decide +kernel
theorem dX7_begin_25 : decode cX7_begin 25 = .ok (.iconst 0, 1) := by decide +kernel
theorem dX7_begin_26 : decode cX7_begin 26 = .ok (.putfield 45, 3) := by decide +kernel
theorem dX7_begin_29 : decode cX7_begin 29 = .ok (.aload_n 0, 1) := by decide +kernel
theorem dX7_begin_30 : decode cX7_begin 30 = .ok (.iconst 0, 1) := by decide +kernel
theorem dX7_begin_31 : decode cX7_begin 31 = .ok (.putfield 48, 3) := by decide +kernel
theorem dX7_begin_34 : decode cX7_begin 34 = .ok (.aload_n 0, 1) := by decide +kernel
theorem dX7_begin_35 : decode cX7_begin 35 = .ok (.iload_n 1, 1) := by decide +kernel
theorem dX7_begin_36 : decode cX7_begin 36 = .ok (.ineg, 1) := by decide +kernel
theorem dX7_begin_37 : decode cX7_begin 37 = .ok (.putfield 51, 3) := by decide +kernel
theorem dX7_begin_40 : decode cX7_begin 40 = .ok (.aload_n 0, 1) := by decide +kernel
theorem dX7_begin_41 : decode cX7_begin 41 = .ok (.iconst 0, 1) := by decide +kernel
theorem dX7_begin_42 : decode cX7_begin 42 = .ok (.putfield 54, 3) := by decide +kernel
theorem dX7_begin_45 : decode cX7_begin 45 = .ok (.aload_n 0, 1) := by decide +kernel
theorem dX7_begin_46 : decode cX7_begin 46 = .ok (.iconst 0, 1) := by decide +kernel
theorem dX7_begin_47 : decode cX7_begin 47 = .ok (.putfield 57, 3) := by decide +kernel
theorem dX7_begin_50 : decode cX7_begin 50 = .ok (.aload_n 0, 1) := by decide +kernel
theorem dX7_begin_51 : decode cX7_begin 51 = .ok (.iconst 0, 1) := by decide +kernel
theorem dX7_begin_52 : decode cX7_begin 52 = .ok (.putfield 60, 3) := by decide +kernel
theorem dX7_begin_55 : decode cX7_begin 55 = .ok (.aload_n 0, 1) := by decide +kernel
theorem dX7_begin_56 : decode cX7_begin 56 = .ok (.iconst 0, 1) := by decide +kernel
theorem dX7_begin_57 : decode cX7_begin 57 = .ok (.putfield 63, 3) := by decide +kernel
theorem dX7_begin_60 : decode cX7_begin 60 = .ok (.aload_n 0, 1) := by decide +kernel
theorem dX7_begin_61 : decode cX7_begin 61 = .ok (.iconst 1, 1) := by decide +kernel
theorem dX7_begin_62 : decode cX7_begin 62 = .ok (.putfield 66, 3) := by decide +kernel
theorem dX7_begin_65 : decode cX7_begin 65 = .ok (.aload_n 0, 1) := by decide +kernel
theorem dX7_begin_66 : decode cX7_begin 66 = .ok (.iconst 0, 1) := by decide +kernel
theorem dX7_begin_67 : decode cX7_begin 67 = .ok (.putfield 69, 3) := by decide +kernel
theorem dX7_begin_70 : decode cX7_begin 70 = .ok (.aload_n 0, 1) := by decide +kernel
theorem dX7_begin_71 : decode cX7_begin 71 = .ok (.iconst (-1), 1) := by decide +kernel
theorem dX7_begin_72 : decode cX7_begin 72 = .ok (.putfield 72, 3) := by decide +kernel
theorem dX7_begin_75 : decode cX7_begin 75 = .ok (.aload_n 0, 1) := by decide +kernel
theorem dX7_begin_76 : decode cX7_begin 76 = .ok (.iconst 0, 1) := by decide +kernel
theorem dX7_begin_77 : decode cX7_begin 77 = .ok (.putfield 75, 3) := by decide +kernel
theorem dX7_begin_80 : decode cX7_begin 80 = .ok (.aload_n 0, 1) := by decide +kernel
theorem dX7_begin_81 : decode cX7_begin 81 = .ok (.iconst 0, 1) := by decide +kernel
theorem dX7_begin_82 : decode cX7_begin 82 = .ok (.putfield 78, 3) := by decide +kernel
theorem dX7_begin_85 : decode cX7_begin 85 = .ok (.return_, 1) := by decide +kernel
theorem dX7_beginAsTold_0 : decode cX7_beginAsTold 0 = .ok (.aload_n 0, 1) := by decide +kernel
theorem dX7_beginAsTold_1 : decode cX7_beginAsTold 1 = .ok (.aload_n 0, 1) := by decide +kernel
theorem dX7_beginAsTold_2 : decode cX7_beginAsTold 2 = .ok (.getfield 9, 3) := by decide +kernel
theorem dX7_beginAsTold_5 : decode cX7_beginAsTold 5 = .ok (.getfield 81, 3) := by decide +kernel
theorem dX7_beginAsTold_8 : decode cX7_beginAsTold 8 = .ok (.iconst 0, 1) := by decide +kernel
theorem dX7_beginAsTold_9 : decode cX7_beginAsTold 9 = .ok (.iaload, 1) := by decide +kernel
theorem dX7_beginAsTold_10 : decode cX7_beginAsTold 10 = .ok (.aload_n 0, 1) := by decide +kernel
theorem dX7_beginAsTold_11 : decode cX7_beginAsTold 11 = .ok (.getfield 9, 3) := by decide +kernel
theorem dX7_beginAsTold_14 : decode cX7_beginAsTold 14 = .ok (.getfield 17, 3) := by decide +kernel
theorem dX7_beginAsTold_17 : decode cX7_beginAsTold 17 = .ok (.iconst 0, 1) := by decide +kernel
theorem dX7_beginAsTold_18 : decode cX7_beginAsTold 18 = .ok (.iconst 1, 1) := by decide +kernel
theorem dX7_beginAsTold_19 : decode cX7_beginAsTold 19 = .ok (.invokevirtual 85, 3) := by decide +kernel
theorem dX7_beginAsTold_22 : decode cX7_beginAsTold 22 = .ok (.aload_n 0, 1) := by decide +kernel
theorem dX7_beginAsTold_23 : decode cX7_beginAsTold 23 = .ok (.getfield 9, 3) := by decide +kernel
theorem dX7_beginAsTold_26 : decode cX7_beginAsTold 26 = .ok (.getfield 17, 3) := by decide +kernel
theorem dX7_beginAsTold_29 : decode cX7_beginAsTold 29 = .ok (.iconst 0, 1) := by decide +kernel
theorem dX7_beginAsTold_30 : decode cX7_beginAsTold 30 = .ok (.iconst 2, 1) := by decide +kernel
theorem dX7_beginAsTold_31 : decode cX7_beginAsTold 31 = .ok (.invokevirtual 85, 3) := by decide +kernel
theorem dX7_beginAsTold_34 : decode cX7_beginAsTold 34 = .ok (.invokevirtual 91, 3) := by decide +kernel
theorem dX7_beginAsTold_37 : decode cX7_beginAsTold 37 = .ok (.return_, 1) := by decide +kernel
theorem dX7_meetNothing_0 : decode cX7_meetNothing 0 = .ok (.aload_n 0, 1) := by decide +kernel
theorem dX7_meetNothing_1 : decode cX7_meetNothing 1 = .ok (.iconst 0, 1) := by decide +kernel
theorem dX7_meetNothing_2 : decode cX7_meetNothing 2 = .ok (.putfield 38, 3) := by decide +kernel
theorem dX7_meetNothing_5 : decode cX7_meetNothing 5 = .ok (.return_, 1) := by decide +kernel
theorem dX7_goOn_0 : decode cX7_goOn 0 = .ok (.aload_n 0, 1) := by decide +kernel
theorem dX7_goOn_1 : decode cX7_goOn 1 = .ok (.getfield 69, 3) := by decide +kernel
theorem dX7_goOn_4 : decode cX7_goOn 4 = .ok (.istore_n 2, 1) := by decide +kernel
theorem dX7_goOn_5 : decode cX7_goOn 5 = .ok (.iload_n 2, 1) := by decide +kernel
theorem dX7_goOn_6 : decode cX7_goOn 6 = .ok (.iload_n 1, 1) := by decide +kernel
theorem dX7_goOn_7 : decode cX7_goOn 7 = .ok (.if_icmp .ge 21, 3) := by decide +kernel
theorem dX7_goOn_10 : decode cX7_goOn 10 = .ok (.aload_n 0, 1) := by decide +kernel
theorem dX7_goOn_11 : decode cX7_goOn 11 = .ok (.getfield 72, 3) := by decide +kernel
theorem dX7_goOn_14 : decode cX7_goOn 14 = .ok (.iconst (-1), 1) := by decide +kernel
theorem dX7_goOn_15 : decode cX7_goOn 15 = .ok (.if_icmp .ne 13, 3) := by decide +kernel
theorem dX7_goOn_18 : decode cX7_goOn 18 = .ok (.aload_n 0, 1) := by decide +kernel
theorem dX7_goOn_19 : decode cX7_goOn 19 = .ok (.invokevirtual 94, 3) := by decide +kernel
theorem dX7_goOn_22 : decode cX7_goOn 22 = .ok (.iinc 2 1, 3) := by decide +kernel
theorem dX7_goOn_25 : decode cX7_goOn 25 = .ok (.goto (-20), 3) := by decide +kernel
theorem dX7_goOn_28 : decode cX7_goOn 28 = .ok (.return_, 1) := by decide +kernel
theorem dX7_endBy_0 : decode cX7_endBy 0 = .ok (.aload_n 0, 1) := by decide +kernel
theorem dX7_endBy_1 : decode cX7_endBy 1 = .ok (.iload_n 1, 1) := by decide +kernel
theorem dX7_endBy_2 : decode cX7_endBy 2 = .ok (.iload_n 2, 1) := by decide +kernel
theorem dX7_endBy_3 : decode cX7_endBy 3 = .ok (.iload_n 3, 1) := by decide +kernel
theorem dX7_endBy_4 : decode cX7_endBy 4 = .ok (.invokevirtual 91, 3) := by decide +kernel
theorem dX7_endBy_7 : decode cX7_endBy 7 = .ok (.aload_n 0, 1) := by decide +kernel
theorem dX7_endBy_8 : decode cX7_endBy 8 = .ok (.bipush 100, 2) := by decide +kernel
theorem dX7_endBy_10 : decode cX7_endBy 10 = .ok (.invokevirtual 97, 3) := by decide +kernel
theorem dX7_endBy_13 : decode cX7_endBy 13 = .ok (.aload_n 0, 1) := by decide +kernel
theorem dX7_endBy_14 : decode cX7_endBy 14 = .ok (.getfield 72, 3) := by decide +kernel
theorem dX7_endBy_17 : decode cX7_endBy 17 = .ok (.ireturn, 1) := by decide +kernel
theorem dX7_endLate_0 : decode cX7_endLate 0 = .ok (.aload_n 0, 1) := by decide +kernel
theorem dX7_endLate_1 : decode cX7_endLate 1 = .ok (.aload_n 0, 1) := by decide +kernel
theorem dX7_endLate_2 : decode cX7_endLate 2 = .ok (.getfield 9, 3) := by decide +kernel
theorem dX7_endLate_5 : decode cX7_endLate 5 = .ok (.getfield 81, 3) := by decide +kernel
theorem dX7_endLate_8 : decode cX7_endLate 8 = .ok (.iconst 0, 1) := by decide +kernel
theorem dX7_endLate_9 : decode cX7_endLate 9 = .ok (.iaload, 1) := by decide +kernel
theorem dX7_endLate_10 : decode cX7_endLate 10 = .ok (.iload_n 3, 1) := by decide +kernel
theorem dX7_endLate_11 : decode cX7_endLate 11 = .ok (.iload 4, 2) := by decide +kernel
theorem dX7_endLate_13 : decode cX7_endLate 13 = .ok (.invokevirtual 91, 3) := by decide +kernel
theorem dX7_endLate_16 : decode cX7_endLate 16 = .ok (.aload_n 0, 1) := by decide +kernel
theorem dX7_endLate_17 : decode cX7_endLate 17 = .ok (.iload_n 1, 1) := by decide +kernel
theorem dX7_endLate_18 : decode cX7_endLate 18 = .ok (.putfield 42, 3) := by decide +kernel
theorem dX7_endLate_21 : decode cX7_endLate 21 = .ok (.aload_n 0, 1) := by decide +kernel
theorem dX7_endLate_22 : decode cX7_endLate 22 = .ok (.iload_n 2, 1) := by decide +kernel
theorem dX7_endLate_23 : decode cX7_endLate 23 = .ok (.putfield 45, 3) := by decide +kernel
theorem dX7_endLate_26 : decode cX7_endLate 26 = .ok (.aload_n 0, 1) := by decide +kernel
theorem dX7_endLate_27 : decode cX7_endLate 27 = .ok (.bipush 100, 2) := by decide +kernel
theorem dX7_endLate_29 : decode cX7_endLate 29 = .ok (.invokevirtual 97, 3) := by decide +kernel
theorem dX7_endLate_32 : decode cX7_endLate 32 = .ok (.aload_n 0, 1) := by decide +kernel
theorem dX7_endLate_33 : decode cX7_endLate 33 = .ok (.getfield 72, 3) := by decide +kernel
theorem dX7_endLate_36 : decode cX7_endLate 36 = .ok (.ireturn, 1) := by decide +kernel
theorem dX7_oddsBy_0 : decode cX7_oddsBy 0 = .ok (.aload_n 0, 1) := by decide +kernel
theorem dX7_oddsBy_1 : decode cX7_oddsBy 1 = .ok (.getfield 9, 3) := by decide +kernel
theorem dX7_oddsBy_4 : decode cX7_oddsBy 4 = .ok (.getfield 17, 3) := by decide +kernel
theorem dX7_oddsBy_7 : decode cX7_oddsBy 7 = .ok (.iconst 0, 1) := by decide +kernel
theorem dX7_oddsBy_8 : decode cX7_oddsBy 8 = .ok (.iconst 1, 1) := by decide +kernel
theorem dX7_oddsBy_9 : decode cX7_oddsBy 9 = .ok (.invokevirtual 85, 3) := by decide +kernel
theorem dX7_oddsBy_12 : decode cX7_oddsBy 12 = .ok (.istore_n 3, 1) := by decide +kernel
theorem dX7_oddsBy_13 : decode cX7_oddsBy 13 = .ok (.aload_n 0, 1) := by decide +kernel
theorem dX7_oddsBy_14 : decode cX7_oddsBy 14 = .ok (.getfield 9, 3) := by decide +kernel
theorem dX7_oddsBy_17 : decode cX7_oddsBy 17 = .ok (.getfield 17, 3) := by decide +kernel
theorem dX7_oddsBy_20 : decode cX7_oddsBy 20 = .ok (.iconst 0, 1) := by decide +kernel
theorem dX7_oddsBy_21 : decode cX7_oddsBy 21 = .ok (.iconst 2, 1) := by decide +kernel
theorem dX7_oddsBy_22 : decode cX7_oddsBy 22 = .ok (.invokevirtual 85, 3) := by decide +kernel
theorem dX7_oddsBy_25 : decode cX7_oddsBy 25 = .ok (.istore 4, 2) := by decide +kernel
theorem dX7_oddsBy_27 : decode cX7_oddsBy 27 = .ok (.iconst 0, 1) := by decide +kernel
theorem dX7_oddsBy_28 : decode cX7_oddsBy 28 = .ok (.istore 5, 2) := by decide +kernel
theorem dX7_oddsBy_30 : decode cX7_oddsBy 30 = .ok (.iconst (-1), 1) := by decide +kernel
theorem dX7_oddsBy_31 : decode cX7_oddsBy 31 = .ok (.istore 6, 2) := by decide +kernel
theorem dX7_oddsBy_33 : decode cX7_oddsBy 33 = .ok (.iload 6, 2) := by decide +kernel
theorem dX7_oddsBy_35 : decode cX7_oddsBy 35 = .ok (.iconst 1, 1) := by decide +kernel
theorem dX7_oddsBy_36 : decode cX7_oddsBy 36 = .ok (.if_icmp .gt 62, 3) := by decide +kernel
theorem dX7_oddsBy_39 : decode cX7_oddsBy 39 = .ok (.iconst (-1), 1) := by decide +kernel
theorem dX7_oddsBy_40 : decode cX7_oddsBy 40 = .ok (.istore 7, 2) := by decide +kernel
theorem dX7_oddsBy_42 : decode cX7_oddsBy 42 = .ok (.iload 7, 2) := by decide +kernel
theorem dX7_oddsBy_44 : decode cX7_oddsBy 44 = .ok (.iconst 1, 1) := by decide +kernel
theorem dX7_oddsBy_45 : decode cX7_oddsBy 45 = .ok (.if_icmp .gt 47, 3) := by decide +kernel
theorem dX7_oddsBy_48 : decode cX7_oddsBy 48 = .ok (.aload_n 0, 1) := by decide +kernel
theorem dX7_oddsBy_49 : decode cX7_oddsBy 49 = .ok (.iload_n 1, 1) := by decide +kernel
theorem dX7_oddsBy_50 : decode cX7_oddsBy 50 = .ok (.iload_n 3, 1) := by decide +kernel
theorem dX7_oddsBy_51 : decode cX7_oddsBy 51 = .ok (.iload 6, 2) := by decide +kernel
theorem dX7_oddsBy_53 : decode cX7_oddsBy 53 = .ok (.iadd, 1) := by decide +kernel
theorem dX7_oddsBy_54 : decode cX7_oddsBy 54 = .ok (.iload 4, 2) := by decide +kernel
theorem dX7_oddsBy_56 : decode cX7_oddsBy 56 = .ok (.iload 7, 2) := by decide +kernel
theorem dX7_oddsBy_58 : decode cX7_oddsBy 58 = .ok (.iadd, 1) := by decide +kernel
theorem dX7_oddsBy_59 : decode cX7_oddsBy 59 = .ok (.invokevirtual 101, 3) := by decide +kernel
theorem dX7_oddsBy_62 : decode cX7_oddsBy 62 = .ok (.iload_n 2, 1) := by decide +kernel
theorem dX7_oddsBy_63 : decode cX7_oddsBy 63 = .ok (.if_icmp .ne 23, 3) := by decide +kernel
theorem dX7_oddsBy_66 : decode cX7_oddsBy 66 = .ok (.iload 5, 2) := by decide +kernel
theorem dX7_oddsBy_68 : decode cX7_oddsBy 68 = .ok (.iconst 2, 1) := by decide +kernel
theorem dX7_oddsBy_69 : decode cX7_oddsBy 69 = .ok (.iload 6, 2) := by decide +kernel
theorem dX7_oddsBy_71 : decode cX7_oddsBy 71 = .ok (.invokestatic 105, 3) := by decide +kernel
theorem dX7_oddsBy_74 : decode cX7_oddsBy 74 = .ok (.isub, 1) := by decide +kernel
theorem dX7_oddsBy_75 : decode cX7_oddsBy 75 = .ok (.iconst 2, 1) := by decide +kernel
theorem dX7_oddsBy_76 : decode cX7_oddsBy 76 = .ok (.iload 7, 2) := by decide +kernel
theorem dX7_oddsBy_78 : decode cX7_oddsBy 78 = .ok (.invokestatic 105, 3) := by decide +kernel
theorem dX7_oddsBy_81 : decode cX7_oddsBy 81 = .ok (.isub, 1) := by decide +kernel
theorem dX7_oddsBy_82 : decode cX7_oddsBy 82 = .ok (.imul, 1) := by decide +kernel
theorem dX7_oddsBy_83 : decode cX7_oddsBy 83 = .ok (.iadd, 1) := by decide +kernel
theorem dX7_oddsBy_84 : decode cX7_oddsBy 84 = .ok (.istore 5, 2) := by decide +kernel
theorem dX7_oddsBy_86 : decode cX7_oddsBy 86 = .ok (.iinc 7 1, 3) := by decide +kernel
theorem dX7_oddsBy_89 : decode cX7_oddsBy 89 = .ok (.goto (-47), 3) := by decide +kernel
theorem dX7_oddsBy_92 : decode cX7_oddsBy 92 = .ok (.iinc 6 1, 3) := by decide +kernel
theorem dX7_oddsBy_95 : decode cX7_oddsBy 95 = .ok (.goto (-62), 3) := by decide +kernel
theorem dX7_oddsBy_98 : decode cX7_oddsBy 98 = .ok (.iload 5, 2) := by decide +kernel
theorem dX7_oddsBy_100 : decode cX7_oddsBy 100 = .ok (.ireturn, 1) := by decide +kernel
theorem dX7_isSoft_0 : decode cX7_isSoft 0 = .ok (.aload_n 0, 1) := by decide +kernel
theorem dX7_isSoft_1 : decode cX7_isSoft 1 = .ok (.getfield 54, 3) := by decide +kernel
theorem dX7_isSoft_4 : decode cX7_isSoft 4 = .ok (.aload_n 0, 1) := by decide +kernel
theorem dX7_isSoft_5 : decode cX7_isSoft 5 = .ok (.getfield 26, 3) := by decide +kernel
theorem dX7_isSoft_8 : decode cX7_isSoft 8 = .ok (.getfield 111, 3) := by decide +kernel
theorem dX7_isSoft_11 : decode cX7_isSoft 11 = .ok (.isub, 1) := by decide +kernel
theorem dX7_isSoft_12 : decode cX7_isSoft 12 = .ok (.invokestatic 105, 3) := by decide +kernel
theorem dX7_isSoft_15 : decode cX7_isSoft 15 = .ok (.iload_n 1, 1) := by decide +kernel
theorem dX7_isSoft_16 : decode cX7_isSoft 16 = .ok (.if_icmp .gt 26, 3) := by decide +kernel
theorem dX7_isSoft_19 : decode cX7_isSoft 19 = .ok (.aload_n 0, 1) := by decide +kernel
theorem dX7_isSoft_20 : decode cX7_isSoft 20 = .ok (.getfield 57, 3) := by decide +kernel
theorem dX7_isSoft_23 : decode cX7_isSoft 23 = .ok (.aload_n 0, 1) := by decide +kernel
theorem dX7_isSoft_24 : decode cX7_isSoft 24 = .ok (.getfield 26, 3) := by decide +kernel
theorem dX7_isSoft_27 : decode cX7_isSoft 27 = .ok (.getfield 114, 3) := by decide +kernel
theorem dX7_isSoft_30 : decode cX7_isSoft 30 = .ok (.isub, 1) := by decide +kernel
theorem dX7_isSoft_31 : decode cX7_isSoft 31 = .ok (.invokestatic 105, 3) := by decide +kernel
theorem dX7_isSoft_34 : decode cX7_isSoft 34 = .ok (.iload_n 1, 1) := by decide +kernel
theorem dX7_isSoft_35 : decode cX7_isSoft 35 = .ok (.if_icmp .gt 7, 3) := by decide +kernel
theorem dX7_isSoft_38 : decode cX7_isSoft 38 = .ok (.iconst 1, 1) := by decide +kernel
theorem dX7_isSoft_39 : decode cX7_isSoft 39 = .ok (.goto 4, 3) := by decide +kernel
theorem dX7_isSoft_42 : decode cX7_isSoft 42 = .ok (.iconst 0, 1) := by decide +kernel
theorem dX7_isSoft_43 : decode cX7_isSoft 43 = .ok (.ireturn, 1) := by decide +kernel
theorem dX7_goStep_0 : decode cX7_goStep 0 = .ok (.aload_n 0, 1) := by decide +kernel
theorem dX7_goStep_1 : decode cX7_goStep 1 = .ok (.getfield 51, 3) := by decide +kernel
theorem dX7_goStep_4 : decode cX7_goStep 4 = .ok (.aload_n 0, 1) := by decide +kernel
theorem dX7_goStep_5 : decode cX7_goStep 5 = .ok (.getfield 26, 3) := by decide +kernel
theorem dX7_goStep_8 : decode cX7_goStep 8 = .ok (.getfield 117, 3) := by decide +kernel
theorem dX7_goStep_11 : decode cX7_goStep 11 = .ok (.isub, 1) := by decide +kernel
theorem dX7_goStep_12 : decode cX7_goStep 12 = .ok (.istore_n 1, 1) := by decide +kernel
theorem dX7_goStep_13 : decode cX7_goStep 13 = .ok (.aload_n 0, 1) := by decide +kernel
theorem dX7_goStep_14 : decode cX7_goStep 14 = .ok (.getfield 26, 3) := by decide +kernel
theorem dX7_goStep_17 : decode cX7_goStep 17 = .ok (.aload_n 0, 1) := by decide +kernel
theorem dX7_goStep_18 : decode cX7_goStep 18 = .ok (.invokevirtual 118, 3) := by decide +kernel
theorem dX7_goStep_21 : decode cX7_goStep 21 = .ok (.invokevirtual 122, 3) := by decide +kernel
theorem dX7_goStep_24 : decode cX7_goStep 24 = .ok (.aload_n 0, 1) := by decide +kernel
theorem dX7_goStep_25 : decode cX7_goStep 25 = .ok (.dup, 1) := by decide +kernel
theorem dX7_goStep_26 : decode cX7_goStep 26 = .ok (.getfield 57, 3) := by decide +kernel
theorem dX7_goStep_29 : decode cX7_goStep 29 = .ok (.aload_n 0, 1) := by decide +kernel
theorem dX7_goStep_30 : decode cX7_goStep 30 = .ok (.getfield 9, 3) := by decide +kernel
theorem dX7_goStep_33 : decode cX7_goStep 33 = .ok (.getfield 81, 3) := by decide +kernel
theorem dX7_goStep_36 : decode cX7_goStep 36 = .ok (.iconst 1, 1) := by decide +kernel
theorem dX7_goStep_37 : decode cX7_goStep 37 = .ok (.iaload, 1) := by decide +kernel
theorem dX7_goStep_38 : decode cX7_goStep 38 = .ok (.isub, 1) := by decide +kernel
theorem dX7_goStep_39 : decode cX7_goStep 39 = .ok (.putfield 57, 3) := by decide +kernel
theorem dX7_goStep_42 : decode cX7_goStep 42 = .ok (.aload_n 0, 1) := by decide +kernel
theorem dX7_goStep_43 : decode cX7_goStep 43 = .ok (.dup, 1) := by decide +kernel
theorem dX7_goStep_44 : decode cX7_goStep 44 = .ok (.getfield 48, 3) := by decide +kernel
theorem dX7_goStep_47 : decode cX7_goStep 47 = .ok (.aload_n 0, 1) := by decide +kernel
theorem dX7_goStep_48 : decode cX7_goStep 48 = .ok (.getfield 54, 3) := by decide +kernel
theorem dX7_goStep_51 : decode cX7_goStep 51 = .ok (.iadd, 1) := by decide +kernel
theorem dX7_goStep_52 : decode cX7_goStep 52 = .ok (.putfield 48, 3) := by decide +kernel
theorem dX7_goStep_55 : decode cX7_goStep 55 = .ok (.aload_n 0, 1) := by decide +kernel
theorem dX7_goStep_56 : decode cX7_goStep 56 = .ok (.dup, 1) := by decide +kernel
theorem dX7_goStep_57 : decode cX7_goStep 57 = .ok (.getfield 51, 3) := by decide +kernel
theorem dX7_goStep_60 : decode cX7_goStep 60 = .ok (.aload_n 0, 1) := by decide +kernel
theorem dX7_goStep_61 : decode cX7_goStep 61 = .ok (.getfield 57, 3) := by decide +kernel
theorem dX7_goStep_64 : decode cX7_goStep 64 = .ok (.iadd, 1) := by decide +kernel
theorem dX7_goStep_65 : decode cX7_goStep 65 = .ok (.putfield 51, 3) := by decide +kernel
theorem dX7_goStep_68 : decode cX7_goStep 68 = .ok (.aload_n 0, 1) := by decide +kernel
theorem dX7_goStep_69 : decode cX7_goStep 69 = .ok (.invokevirtual 125, 3) := by decide +kernel
theorem dX7_goStep_72 : decode cX7_goStep 72 = .ok (.aload_n 0, 1) := by decide +kernel
theorem dX7_goStep_73 : decode cX7_goStep 73 = .ok (.getfield 38, 3) := by decide +kernel
theorem dX7_goStep_76 : decode cX7_goStep 76 = .ok (.ifCond .eq 11, 3) := by decide +kernel
theorem dX7_goStep_79 : decode cX7_goStep 79 = .ok (.aload_n 0, 1) := by decide +kernel
theorem dX7_goStep_80 : decode cX7_goStep 80 = .ok (.iload_n 1, 1) := by decide +kernel
theorem dX7_goStep_81 : decode cX7_goStep 81 = .ok (.invokevirtual 128, 3) := by decide +kernel
theorem dX7_goStep_84 : decode cX7_goStep 84 = .ok (.goto 4, 3) := by decide +kernel
theorem dX7_goStep_87 : decode cX7_goStep 87 = .ok (.iconst (-1), 1) := by decide +kernel
theorem dX7_goStep_88 : decode cX7_goStep 88 = .ok (.istore_n 2, 1) := by decide +kernel
theorem dX7_goStep_89 : decode cX7_goStep 89 = .ok (.iload_n 2, 1) := by decide +kernel
theorem dX7_goStep_90 : decode cX7_goStep 90 = .ok (.iconst (-1), 1) := by decide +kernel
theorem dX7_goStep_91 : decode cX7_goStep 91 = .ok (.if_icmp .eq 8, 3) := by decide +kernel
theorem dX7_goStep_94 : decode cX7_goStep 94 = .ok (.aload_n 0, 1) := by decide +kernel
theorem dX7_goStep_95 : decode cX7_goStep 95 = .ok (.iload_n 2, 1) := by decide +kernel
theorem dX7_goStep_96 : decode cX7_goStep 96 = .ok (.invokevirtual 131, 3) := by decide +kernel
theorem dX7_goStep_99 : decode cX7_goStep 99 = .ok (.aload_n 0, 1) := by decide +kernel
theorem dX7_goStep_100 : decode cX7_goStep 100 = .ok (.dup, 1) := by decide +kernel
theorem dX7_goStep_101 : decode cX7_goStep 101 = .ok (.getfield 69, 3) := by decide +kernel
theorem dX7_goStep_104 : decode cX7_goStep 104 = .ok (.iconst 1, 1) := by decide +kernel
theorem dX7_goStep_105 : decode cX7_goStep 105 = .ok (.iadd, 1) := by decide +kernel
theorem dX7_goStep_106 : decode cX7_goStep 106 = .ok (.putfield 69, 3) := by decide +kernel
theorem dX7_goStep_109 : decode cX7_goStep 109 = .ok (.return_, 1) := by decide +kernel
theorem dX7_lateSide_0 : decode cX7_lateSide 0 = .ok (.aload_n 0, 1) := by decide +kernel
theorem dX7_lateSide_1 : decode cX7_lateSide 1 = .ok (.getfield 42, 3) := by decide +kernel
theorem dX7_lateSide_4 : decode cX7_lateSide 4 = .ok (.iconst (-1), 1) := by decide +kernel
theorem dX7_lateSide_5 : decode cX7_lateSide 5 = .ok (.if_icmp .eq 21, 3) := by decide +kernel
theorem dX7_lateSide_8 : decode cX7_lateSide 8 = .ok (.aload_n 0, 1) := by decide +kernel
theorem dX7_lateSide_9 : decode cX7_lateSide 9 = .ok (.getfield 69, 3) := by decide +kernel
theorem dX7_lateSide_12 : decode cX7_lateSide 12 = .ok (.aload_n 0, 1) := by decide +kernel
theorem dX7_lateSide_13 : decode cX7_lateSide 13 = .ok (.getfield 45, 3) := by decide +kernel
theorem dX7_lateSide_16 : decode cX7_lateSide 16 = .ok (.if_icmp .lt 10, 3) := by decide +kernel
theorem dX7_lateSide_19 : decode cX7_lateSide 19 = .ok (.aload_n 0, 1) := by decide +kernel
theorem dX7_lateSide_20 : decode cX7_lateSide 20 = .ok (.getfield 66, 3) := by decide +kernel
theorem dX7_lateSide_23 : decode cX7_lateSide 23 = .ok (.ifCond .eq 5, 3) := by decide +kernel
theorem dX7_lateSide_26 : decode cX7_lateSide 26 = .ok (.iconst 0, 1) := by decide +kernel
theorem dX7_lateSide_27 : decode cX7_lateSide 27 = .ok (.ireturn, 1) := by decide +kernel
theorem dX7_lateSide_28 : decode cX7_lateSide 28 = .ok (.aload_n 0, 1) := by decide +kernel
theorem dX7_lateSide_29 : decode cX7_lateSide 29 = .ok (.getfield 48, 3) := by decide +kernel
theorem dX7_lateSide_32 : decode cX7_lateSide 32 = .ok (.aload_n 0, 1) := by decide +kernel
theorem dX7_lateSide_33 : decode cX7_lateSide 33 = .ok (.getfield 26, 3) := by decide +kernel
theorem dX7_lateSide_36 : decode cX7_lateSide 36 = .ok (.getfield 134, 3) := by decide +kernel
theorem dX7_lateSide_39 : decode cX7_lateSide 39 = .ok (.isub, 1) := by decide +kernel
theorem dX7_lateSide_40 : decode cX7_lateSide 40 = .ok (.aload_n 0, 1) := by decide +kernel
theorem dX7_lateSide_41 : decode cX7_lateSide 41 = .ok (.getfield 9, 3) := by decide +kernel
theorem dX7_lateSide_44 : decode cX7_lateSide 44 = .ok (.getfield 135, 3) := by decide +kernel
theorem dX7_lateSide_47 : decode cX7_lateSide 47 = .ok (.aload_n 0, 1) := by decide +kernel
theorem dX7_lateSide_48 : decode cX7_lateSide 48 = .ok (.getfield 42, 3) := by decide +kernel
theorem dX7_lateSide_51 : decode cX7_lateSide 51 = .ok (.iconst 0, 1) := by decide +kernel
theorem dX7_lateSide_52 : decode cX7_lateSide 52 = .ok (.invokevirtual 85, 3) := by decide +kernel
theorem dX7_lateSide_55 : decode cX7_lateSide 55 = .ok (.invokestatic 138, 3) := by decide +kernel
theorem dX7_lateSide_58 : decode cX7_lateSide 58 = .ok (.ireturn, 1) := by decide +kernel
theorem dX7_holdByCord_0 : decode cX7_holdByCord 0 = .ok (.aload_n 0, 1) := by decide +kernel
theorem dX7_holdByCord_1 : decode cX7_holdByCord 1 = .ok (.getfield 48, 3) := by decide +kernel
theorem dX7_holdByCord_4 : decode cX7_holdByCord 4 = .ok (.aload_n 0, 1) := by decide +kernel
theorem dX7_holdByCord_5 : decode cX7_holdByCord 5 = .ok (.getfield 26, 3) := by decide +kernel
theorem dX7_holdByCord_8 : decode cX7_holdByCord 8 = .ok (.getfield 134, 3) := by decide +kernel
theorem dX7_holdByCord_11 : decode cX7_holdByCord 11 = .ok (.isub, 1) := by decide +kernel
theorem dX7_holdByCord_12 : decode cX7_holdByCord 12 = .ok (.istore_n 1, 1) := by decide +kernel
theorem dX7_holdByCord_13 : decode cX7_holdByCord 13 = .ok (.aload_n 0, 1) := by decide +kernel
theorem dX7_holdByCord_14 : decode cX7_holdByCord 14 = .ok (.getfield 51, 3) := by decide +kernel
theorem dX7_holdByCord_17 : decode cX7_holdByCord 17 = .ok (.aload_n 0, 1) := by decide +kernel
theorem dX7_holdByCord_18 : decode cX7_holdByCord 18 = .ok (.getfield 26, 3) := by decide +kernel
theorem dX7_holdByCord_21 : decode cX7_holdByCord 21 = .ok (.getfield 117, 3) := by decide +kernel
theorem dX7_holdByCord_24 : decode cX7_holdByCord 24 = .ok (.isub, 1) := by decide +kernel
theorem dX7_holdByCord_25 : decode cX7_holdByCord 25 = .ok (.istore_n 2, 1) := by decide +kernel
theorem dX7_holdByCord_26 : decode cX7_holdByCord 26 = .ok (.iload_n 1, 1) := by decide +kernel
theorem dX7_holdByCord_27 : decode cX7_holdByCord 27 = .ok (.iload_n 1, 1) := by decide +kernel
theorem dX7_holdByCord_28 : decode cX7_holdByCord 28 = .ok (.imul, 1) := by decide +kernel
theorem dX7_holdByCord_29 : decode cX7_holdByCord 29 = .ok (.iload_n 2, 1) := by decide +kernel
theorem dX7_holdByCord_30 : decode cX7_holdByCord 30 = .ok (.iload_n 2, 1) := by decide +kernel
theorem dX7_holdByCord_31 : decode cX7_holdByCord 31 = .ok (.imul, 1) := by decide +kernel
theorem dX7_holdByCord_32 : decode cX7_holdByCord 32 = .ok (.iadd, 1) := by decide +kernel
theorem dX7_holdByCord_33 : decode cX7_holdByCord 33 = .ok (.istore_n 3, 1) := by decide +kernel
theorem dX7_holdByCord_34 : decode cX7_holdByCord 34 = .ok (.aload_n 0, 1) := by decide +kernel
theorem dX7_holdByCord_35 : decode cX7_holdByCord 35 = .ok (.iload_n 3, 1) := by decide +kernel
theorem dX7_holdByCord_36 : decode cX7_holdByCord 36 = .ok (.aload_n 0, 1) := by decide +kernel
theorem dX7_holdByCord_37 : decode cX7_holdByCord 37 = .ok (.getfield 34, 3) := by decide +kernel
theorem dX7_holdByCord_40 : decode cX7_holdByCord 40 = .ok (.aload_n 0, 1) := by decide +kernel
theorem dX7_holdByCord_41 : decode cX7_holdByCord 41 = .ok (.getfield 34, 3) := by decide +kernel
theorem dX7_holdByCord_44 : decode cX7_holdByCord 44 = .ok (.imul, 1) := by decide +kernel
theorem dX7_holdByCord_45 : decode cX7_holdByCord 45 = .ok (.if_icmp .le 7, 3) := by decide +kernel
theorem dX7_holdByCord_48 : decode cX7_holdByCord 48 = .ok (.iconst 1, 1) := by decide +kernel
theorem dX7_holdByCord_49 : decode cX7_holdByCord 49 = .ok (.goto 4, 3) := by decide +kernel
theorem dX7_holdByCord_52 : decode cX7_holdByCord 52 = .ok (.iconst 0, 1) := by decide +kernel
theorem dX7_holdByCord_53 : decode cX7_holdByCord 53 = .ok (.putfield 66, 3) := by decide +kernel
theorem dX7_holdByCord_56 : decode cX7_holdByCord 56 = .ok (.aload_n 0, 1) := by decide +kernel
theorem dX7_holdByCord_57 : decode cX7_holdByCord 57 = .ok (.getfield 66, 3) := by decide +kernel
theorem dX7_holdByCord_60 : decode cX7_holdByCord 60 = .ok (.ifCond .ne 22, 3) := by decide +kernel
theorem dX7_holdByCord_63 : decode cX7_holdByCord 63 = .ok (.aload_n 0, 1) := by decide +kernel
theorem dX7_holdByCord_64 : decode cX7_holdByCord 64 = .ok (.aload_n 0, 1) := by decide +kernel
theorem dX7_holdByCord_65 : decode cX7_holdByCord 65 = .ok (.getfield 60, 3) := by decide +kernel
theorem dX7_holdByCord_68 : decode cX7_holdByCord 68 = .ok (.aload_n 0, 1) := by decide +kernel
theorem dX7_holdByCord_69 : decode cX7_holdByCord 69 = .ok (.getfield 63, 3) := by decide +kernel
theorem dX7_holdByCord_72 : decode cX7_holdByCord 72 = .ok (.iadd, 1) := by decide +kernel
theorem dX7_holdByCord_73 : decode cX7_holdByCord 73 = .ok (.bipush 16, 2) := by decide +kernel
theorem dX7_holdByCord_75 : decode cX7_holdByCord 75 = .ok (.invokestatic 143, 3) := by decide +kernel
theorem dX7_holdByCord_78 : decode cX7_holdByCord 78 = .ok (.putfield 60, 3) := by decide +kernel
theorem dX7_holdByCord_81 : decode cX7_holdByCord 81 = .ok (.return_, 1) := by decide +kernel
theorem dX7_holdByCord_82 : decode cX7_holdByCord 82 = .ok (.aload_n 0, 1) := by decide +kernel
theorem dX7_holdByCord_83 : decode cX7_holdByCord 83 = .ok (.iload_n 3, 1) := by decide +kernel
theorem dX7_holdByCord_84 : decode cX7_holdByCord 84 = .ok (.invokevirtual 146, 3) := by decide +kernel
theorem dX7_holdByCord_87 : decode cX7_holdByCord 87 = .ok (.istore 4, 2) := by decide +kernel
theorem dX7_holdByCord_89 : decode cX7_holdByCord 89 = .ok (.iload_n 1, 1) := by decide +kernel
theorem dX7_holdByCord_90 : decode cX7_holdByCord 90 = .ok (.aload_n 0, 1) := by decide +kernel
theorem dX7_holdByCord_91 : decode cX7_holdByCord 91 = .ok (.getfield 34, 3) := by decide +kernel
theorem dX7_holdByCord_94 : decode cX7_holdByCord 94 = .ok (.imul, 1) := by decide +kernel
theorem dX7_holdByCord_95 : decode cX7_holdByCord 95 = .ok (.iload 4, 2) := by decide +kernel
theorem dX7_holdByCord_97 : decode cX7_holdByCord 97 = .ok (.idiv, 1) := by decide +kernel
theorem dX7_holdByCord_98 : decode cX7_holdByCord 98 = .ok (.istore 5, 2) := by decide +kernel
theorem dX7_holdByCord_100 : decode cX7_holdByCord 100 = .ok (.iload_n 2, 1) := by decide +kernel
theorem dX7_holdByCord_101 : decode cX7_holdByCord 101 = .ok (.aload_n 0, 1) := by decide +kernel
theorem dX7_holdByCord_102 : decode cX7_holdByCord 102 = .ok (.getfield 34, 3) := by decide +kernel
theorem dX7_holdByCord_105 : decode cX7_holdByCord 105 = .ok (.imul, 1) := by decide +kernel
theorem dX7_holdByCord_106 : decode cX7_holdByCord 106 = .ok (.iload 4, 2) := by decide +kernel
theorem dX7_holdByCord_108 : decode cX7_holdByCord 108 = .ok (.idiv, 1) := by decide +kernel
theorem dX7_holdByCord_109 : decode cX7_holdByCord 109 = .ok (.istore 6, 2) := by decide +kernel
theorem dX7_holdByCord_111 : decode cX7_holdByCord 111 = .ok (.aload_n 0, 1) := by decide +kernel
theorem dX7_holdByCord_112 : decode cX7_holdByCord 112 = .ok (.aload_n 0, 1) := by decide +kernel
theorem dX7_holdByCord_113 : decode cX7_holdByCord 113 = .ok (.getfield 26, 3) := by decide +kernel
theorem dX7_holdByCord_116 : decode cX7_holdByCord 116 = .ok (.getfield 134, 3) := by decide +kernel
theorem dX7_holdByCord_119 : decode cX7_holdByCord 119 = .ok (.iload 5, 2) := by decide +kernel
theorem dX7_holdByCord_121 : decode cX7_holdByCord 121 = .ok (.iadd, 1) := by decide +kernel
theorem dX7_holdByCord_122 : decode cX7_holdByCord 122 = .ok (.putfield 48, 3) := by decide +kernel
theorem dX7_holdByCord_125 : decode cX7_holdByCord 125 = .ok (.aload_n 0, 1) := by decide +kernel
theorem dX7_holdByCord_126 : decode cX7_holdByCord 126 = .ok (.aload_n 0, 1) := by decide +kernel
theorem dX7_holdByCord_127 : decode cX7_holdByCord 127 = .ok (.getfield 26, 3) := by decide +kernel
theorem dX7_holdByCord_130 : decode cX7_holdByCord 130 = .ok (.getfield 117, 3) := by decide +kernel
theorem dX7_holdByCord_133 : decode cX7_holdByCord 133 = .ok (.iload 6, 2) := by decide +kernel
theorem dX7_holdByCord_135 : decode cX7_holdByCord 135 = .ok (.iadd, 1) := by decide +kernel
theorem dX7_holdByCord_136 : decode cX7_holdByCord 136 = .ok (.putfield 51, 3) := by decide +kernel
theorem dX7_holdByCord_139 : decode cX7_holdByCord 139 = .ok (.aload_n 0, 1) := by decide +kernel
theorem dX7_holdByCord_140 : decode cX7_holdByCord 140 = .ok (.dup, 1) := by decide +kernel
theorem dX7_holdByCord_141 : decode cX7_holdByCord 141 = .ok (.getfield 54, 3) := by decide +kernel
theorem dX7_holdByCord_144 : decode cX7_holdByCord 144 = .ok (.iload 5, 2) := by decide +kernel
theorem dX7_holdByCord_146 : decode cX7_holdByCord 146 = .ok (.iload_n 1, 1) := by decide +kernel
theorem dX7_holdByCord_147 : decode cX7_holdByCord 147 = .ok (.isub, 1) := by decide +kernel
theorem dX7_holdByCord_148 : decode cX7_holdByCord 148 = .ok (.iadd, 1) := by decide +kernel
theorem dX7_holdByCord_149 : decode cX7_holdByCord 149 = .ok (.putfield 54, 3) := by decide +kernel
theorem dX7_holdByCord_152 : decode cX7_holdByCord 152 = .ok (.aload_n 0, 1) := by decide +kernel
theorem dX7_holdByCord_153 : decode cX7_holdByCord 153 = .ok (.dup, 1) := by decide +kernel
theorem dX7_holdByCord_154 : decode cX7_holdByCord 154 = .ok (.getfield 57, 3) := by decide +kernel
theorem dX7_holdByCord_157 : decode cX7_holdByCord 157 = .ok (.iload 6, 2) := by decide +kernel
theorem dX7_holdByCord_159 : decode cX7_holdByCord 159 = .ok (.iload_n 2, 1) := by decide +kernel
theorem dX7_holdByCord_160 : decode cX7_holdByCord 160 = .ok (.isub, 1) := by decide +kernel
theorem dX7_holdByCord_161 : decode cX7_holdByCord 161 = .ok (.iadd, 1) := by decide +kernel
theorem dX7_holdByCord_162 : decode cX7_holdByCord 162 = .ok (.putfield 57, 3) := by decide +kernel
theorem dX7_holdByCord_165 : decode cX7_holdByCord 165 = .ok (.aload_n 0, 1) := by decide +kernel
theorem dX7_holdByCord_166 : decode cX7_holdByCord 166 = .ok (.iconst 0, 1) := by decide +kernel
theorem dX7_holdByCord_167 : decode cX7_holdByCord 167 = .ok (.putfield 60, 3) := by decide +kernel
theorem dX7_holdByCord_170 : decode cX7_holdByCord 170 = .ok (.aload_n 0, 1) := by decide +kernel
theorem dX7_holdByCord_171 : decode cX7_holdByCord 171 = .ok (.aload_n 0, 1) := by decide +kernel
theorem dX7_holdByCord_172 : decode cX7_holdByCord 172 = .ok (.getfield 54, 3) := by decide +kernel
theorem dX7_holdByCord_175 : decode cX7_holdByCord 175 = .ok (.aload_n 0, 1) := by decide +kernel
theorem dX7_holdByCord_176 : decode cX7_holdByCord 176 = .ok (.getfield 26, 3) := by decide +kernel
theorem dX7_holdByCord_179 : decode cX7_holdByCord 179 = .ok (.getfield 111, 3) := by decide +kernel
theorem dX7_holdByCord_182 : decode cX7_holdByCord 182 = .ok (.isub, 1) := by decide +kernel
theorem dX7_holdByCord_183 : decode cX7_holdByCord 183 = .ok (.iconst 3, 1) := by decide +kernel
theorem dX7_holdByCord_184 : decode cX7_holdByCord 184 = .ok (.idiv, 1) := by decide +kernel
theorem dX7_holdByCord_185 : decode cX7_holdByCord 185 = .ok (.putfield 63, 3) := by decide +kernel
theorem dX7_holdByCord_188 : decode cX7_holdByCord 188 = .ok (.aload_n 0, 1) := by decide +kernel
theorem dX7_holdByCord_189 : decode cX7_holdByCord 189 = .ok (.dup, 1) := by decide +kernel
theorem dX7_holdByCord_190 : decode cX7_holdByCord 190 = .ok (.getfield 78, 3) := by decide +kernel
theorem dX7_holdByCord_193 : decode cX7_holdByCord 193 = .ok (.iconst 1, 1) := by decide +kernel
theorem dX7_holdByCord_194 : decode cX7_holdByCord 194 = .ok (.iadd, 1) := by decide +kernel
theorem dX7_holdByCord_195 : decode cX7_holdByCord 195 = .ok (.putfield 78, 3) := by decide +kernel
theorem dX7_holdByCord_198 : decode cX7_holdByCord 198 = .ok (.return_, 1) := by decide +kernel
theorem dX7_wholeRoot_0 : decode cX7_wholeRoot 0 = .ok (.aload_n 0, 1) := by decide +kernel
theorem dX7_wholeRoot_1 : decode cX7_wholeRoot 1 = .ok (.getfield 34, 3) := by decide +kernel
theorem dX7_wholeRoot_4 : decode cX7_wholeRoot 4 = .ok (.iconst 1, 1) := by decide +kernel
theorem dX7_wholeRoot_5 : decode cX7_wholeRoot 5 = .ok (.invokestatic 149, 3) := by decide +kernel
theorem dX7_wholeRoot_8 : decode cX7_wholeRoot 8 = .ok (.istore_n 2, 1) := by decide +kernel
theorem dX7_wholeRoot_9 : decode cX7_wholeRoot 9 = .ok (.iload_n 2, 1) := by decide +kernel
theorem dX7_wholeRoot_10 : decode cX7_wholeRoot 10 = .ok (.ldc 152, 2) := by decide +kernel
theorem dX7_wholeRoot_12 : decode cX7_wholeRoot 12 = .ok (.if_icmp .ge 20, 3) := by decide +kernel
theorem dX7_wholeRoot_15 : decode cX7_wholeRoot 15 = .ok (.iload_n 2, 1) := by decide +kernel
theorem dX7_wholeRoot_16 : decode cX7_wholeRoot 16 = .ok (.iconst 1, 1) := by decide +kernel
theorem dX7_wholeRoot_17 : decode cX7_wholeRoot 17 = .ok (.iadd, 1) := by decide +kernel
theorem dX7_wholeRoot_18 : decode cX7_wholeRoot 18 = .ok (.iload_n 2, 1) := by decide +kernel
theorem dX7_wholeRoot_19 : decode cX7_wholeRoot 19 = .ok (.iconst 1, 1) := by decide +kernel
theorem dX7_wholeRoot_20 : decode cX7_wholeRoot 20 = .ok (.iadd, 1) := by decide +kernel
theorem dX7_wholeRoot_21 : decode cX7_wholeRoot 21 = .ok (.imul, 1) := by decide +kernel
theorem dX7_wholeRoot_22 : decode cX7_wholeRoot 22 = .ok (.iload_n 1, 1) := by decide +kernel
theorem dX7_wholeRoot_23 : decode cX7_wholeRoot 23 = .ok (.if_icmp .gt 9, 3) := by decide +kernel
theorem dX7_wholeRoot_26 : decode cX7_wholeRoot 26 = .ok (.iinc 2 1, 3) := by decide +kernel
theorem dX7_wholeRoot_29 : decode cX7_wholeRoot 29 = .ok (.goto (-20), 3) := by decide +kernel
theorem dX7_wholeRoot_32 : decode cX7_wholeRoot 32 = .ok (.iload_n 2, 1) := by decide +kernel
theorem dX7_wholeRoot_33 : decode cX7_wholeRoot 33 = .ok (.ireturn, 1) := by decide +kernel
theorem dX7_metCup_0 : decode cX7_metCup 0 = .ok (.aload_n 0, 1) := by decide +kernel
theorem dX7_metCup_1 : decode cX7_metCup 1 = .ok (.getfield 9, 3) := by decide +kernel
theorem dX7_metCup_4 : decode cX7_metCup 4 = .ok (.getfield 135, 3) := by decide +kernel
theorem dX7_metCup_7 : decode cX7_metCup 7 = .ok (.astore_n 2, 1) := by decide +kernel
theorem dX7_metCup_8 : decode cX7_metCup 8 = .ok (.aload_n 0, 1) := by decide +kernel
theorem dX7_metCup_9 : decode cX7_metCup 9 = .ok (.getfield 48, 3) := by decide +kernel
theorem dX7_metCup_12 : decode cX7_metCup 12 = .ok (.aload_n 0, 1) := by decide +kernel
theorem dX7_metCup_13 : decode cX7_metCup 13 = .ok (.getfield 26, 3) := by decide +kernel
theorem dX7_metCup_16 : decode cX7_metCup 16 = .ok (.getfield 134, 3) := by decide +kernel
theorem dX7_metCup_19 : decode cX7_metCup 19 = .ok (.isub, 1) := by decide +kernel
theorem dX7_metCup_20 : decode cX7_metCup 20 = .ok (.istore_n 3, 1) := by decide +kernel
theorem dX7_metCup_21 : decode cX7_metCup 21 = .ok (.aload_n 0, 1) := by decide +kernel
theorem dX7_metCup_22 : decode cX7_metCup 22 = .ok (.getfield 51, 3) := by decide +kernel
theorem dX7_metCup_25 : decode cX7_metCup 25 = .ok (.aload_n 0, 1) := by decide +kernel
theorem dX7_metCup_26 : decode cX7_metCup 26 = .ok (.getfield 26, 3) := by decide +kernel
theorem dX7_metCup_29 : decode cX7_metCup 29 = .ok (.getfield 117, 3) := by decide +kernel
theorem dX7_metCup_32 : decode cX7_metCup 32 = .ok (.isub, 1) := by decide +kernel
theorem dX7_metCup_33 : decode cX7_metCup 33 = .ok (.istore 4, 2) := by decide +kernel
theorem dX7_metCup_35 : decode cX7_metCup 35 = .ok (.iconst 0, 1) := by decide +kernel
theorem dX7_metCup_36 : decode cX7_metCup 36 = .ok (.istore 5, 2) := by decide +kernel
theorem dX7_metCup_38 : decode cX7_metCup 38 = .ok (.iload 5, 2) := by decide +kernel
theorem dX7_metCup_40 : decode cX7_metCup 40 = .ok (.aload_n 2, 1) := by decide +kernel
theorem dX7_metCup_41 : decode cX7_metCup 41 = .ok (.getfield 153, 3) := by decide +kernel
theorem dX7_metCup_44 : decode cX7_metCup 44 = .ok (.if_icmp .ge 70, 3) := by decide +kernel
theorem dX7_metCup_47 : decode cX7_metCup 47 = .ok (.aload_n 2, 1) := by decide +kernel
theorem dX7_metCup_48 : decode cX7_metCup 48 = .ok (.iload 5, 2) := by decide +kernel
theorem dX7_metCup_50 : decode cX7_metCup 50 = .ok (.iconst 1, 1) := by decide +kernel
theorem dX7_metCup_51 : decode cX7_metCup 51 = .ok (.invokevirtual 85, 3) := by decide +kernel
theorem dX7_metCup_54 : decode cX7_metCup 54 = .ok (.istore 6, 2) := by decide +kernel
theorem dX7_metCup_56 : decode cX7_metCup 56 = .ok (.iload_n 1, 1) := by decide +kernel
theorem dX7_metCup_57 : decode cX7_metCup 57 = .ok (.iload 6, 2) := by decide +kernel
theorem dX7_metCup_59 : decode cX7_metCup 59 = .ok (.if_icmp .lt 14, 3) := by decide +kernel
theorem dX7_metCup_62 : decode cX7_metCup 62 = .ok (.iload 4, 2) := by decide +kernel
theorem dX7_metCup_64 : decode cX7_metCup 64 = .ok (.iload 6, 2) := by decide +kernel
theorem dX7_metCup_66 : decode cX7_metCup 66 = .ok (.if_icmp .ge 7, 3) := by decide +kernel
theorem dX7_metCup_69 : decode cX7_metCup 69 = .ok (.iconst 1, 1) := by decide +kernel
theorem dX7_metCup_70 : decode cX7_metCup 70 = .ok (.goto 4, 3) := by decide +kernel
theorem dX7_metCup_73 : decode cX7_metCup 73 = .ok (.iconst 0, 1) := by decide +kernel
theorem dX7_metCup_74 : decode cX7_metCup 74 = .ok (.istore 7, 2) := by decide +kernel
theorem dX7_metCup_76 : decode cX7_metCup 76 = .ok (.iload 7, 2) := by decide +kernel
theorem dX7_metCup_78 : decode cX7_metCup 78 = .ok (.ifCond .eq 30, 3) := by decide +kernel
theorem dX7_metCup_81 : decode cX7_metCup 81 = .ok (.iload_n 3, 1) := by decide +kernel
theorem dX7_metCup_82 : decode cX7_metCup 82 = .ok (.aload_n 2, 1) := by decide +kernel
theorem dX7_metCup_83 : decode cX7_metCup 83 = .ok (.iload 5, 2) := by decide +kernel
theorem dX7_metCup_85 : decode cX7_metCup 85 = .ok (.iconst 0, 1) := by decide +kernel
theorem dX7_metCup_86 : decode cX7_metCup 86 = .ok (.invokevirtual 85, 3) := by decide +kernel
theorem dX7_metCup_89 : decode cX7_metCup 89 = .ok (.isub, 1) := by decide +kernel
theorem dX7_metCup_90 : decode cX7_metCup 90 = .ok (.invokestatic 105, 3) := by decide +kernel
theorem dX7_metCup_93 : decode cX7_metCup 93 = .ok (.aload_n 2, 1) := by decide +kernel
theorem dX7_metCup_94 : decode cX7_metCup 94 = .ok (.iload 5, 2) := by decide +kernel
theorem dX7_metCup_96 : decode cX7_metCup 96 = .ok (.iconst 2, 1) := by decide +kernel
theorem dX7_metCup_97 : decode cX7_metCup 97 = .ok (.invokevirtual 85, 3) := by decide +kernel
theorem dX7_metCup_100 : decode cX7_metCup 100 = .ok (.iconst 2, 1) := by decide +kernel
theorem dX7_metCup_101 : decode cX7_metCup 101 = .ok (.iadd, 1) := by decide +kernel
theorem dX7_metCup_102 : decode cX7_metCup 102 = .ok (.if_icmp .gt 6, 3) := by decide +kernel
theorem dX7_metCup_105 : decode cX7_metCup 105 = .ok (.iload 5, 2) := by decide +kernel
theorem dX7_metCup_107 : decode cX7_metCup 107 = .ok (.ireturn, 1) := by decide +kernel
theorem dX7_metCup_108 : decode cX7_metCup 108 = .ok (.iinc 5 1, 3) := by decide +kernel
theorem dX7_metCup_111 : decode cX7_metCup 111 = .ok (.goto (-73), 3) := by decide +kernel
theorem dX7_metCup_114 : decode cX7_metCup 114 = .ok (.iconst (-1), 1) := by decide +kernel
theorem dX7_metCup_115 : decode cX7_metCup 115 = .ok (.ireturn, 1) := by decide +kernel
theorem dX7_comeDownOn_0 : decode cX7_comeDownOn 0 = .ok (.aload_n 0, 1) := by decide +kernel
theorem dX7_comeDownOn_1 : decode cX7_comeDownOn 1 = .ok (.getfield 9, 3) := by decide +kernel
theorem dX7_comeDownOn_4 : decode cX7_comeDownOn 4 = .ok (.getfield 135, 3) := by decide +kernel
theorem dX7_comeDownOn_7 : decode cX7_comeDownOn 7 = .ok (.astore_n 2, 1) := by decide +kernel
theorem dX7_comeDownOn_8 : decode cX7_comeDownOn 8 = .ok (.aload_n 0, 1) := by decide +kernel
theorem dX7_comeDownOn_9 : decode cX7_comeDownOn 9 = .ok (.getfield 48, 3) := by decide +kernel
theorem dX7_comeDownOn_12 : decode cX7_comeDownOn 12 = .ok (.aload_n 0, 1) := by decide +kernel
theorem dX7_comeDownOn_13 : decode cX7_comeDownOn 13 = .ok (.getfield 26, 3) := by decide +kernel
theorem dX7_comeDownOn_16 : decode cX7_comeDownOn 16 = .ok (.getfield 134, 3) := by decide +kernel
theorem dX7_comeDownOn_19 : decode cX7_comeDownOn 19 = .ok (.isub, 1) := by decide +kernel
theorem dX7_comeDownOn_20 : decode cX7_comeDownOn 20 = .ok (.aload_n 2, 1) := by decide +kernel
theorem dX7_comeDownOn_21 : decode cX7_comeDownOn 21 = .ok (.iload_n 1, 1) := by decide +kernel
theorem dX7_comeDownOn_22 : decode cX7_comeDownOn 22 = .ok (.iconst 0, 1) := by decide +kernel
theorem dX7_comeDownOn_23 : decode cX7_comeDownOn 23 = .ok (.invokevirtual 85, 3) := by decide +kernel
theorem dX7_comeDownOn_26 : decode cX7_comeDownOn 26 = .ok (.isub, 1) := by decide +kernel
theorem dX7_comeDownOn_27 : decode cX7_comeDownOn 27 = .ok (.invokestatic 105, 3) := by decide +kernel
theorem dX7_comeDownOn_30 : decode cX7_comeDownOn 30 = .ok (.aload_n 2, 1) := by decide +kernel
theorem dX7_comeDownOn_31 : decode cX7_comeDownOn 31 = .ok (.iload_n 1, 1) := by decide +kernel
theorem dX7_comeDownOn_32 : decode cX7_comeDownOn 32 = .ok (.iconst 2, 1) := by decide +kernel
theorem dX7_comeDownOn_33 : decode cX7_comeDownOn 33 = .ok (.invokevirtual 85, 3) := by decide +kernel
theorem dX7_comeDownOn_36 : decode cX7_comeDownOn 36 = .ok (.if_icmp .gt 7, 3) := by decide +kernel
theorem dX7_comeDownOn_39 : decode cX7_comeDownOn 39 = .ok (.iconst 1, 1) := by decide +kernel
theorem dX7_comeDownOn_40 : decode cX7_comeDownOn 40 = .ok (.goto 4, 3) := by decide +kernel
theorem dX7_comeDownOn_43 : decode cX7_comeDownOn 43 = .ok (.iconst 0, 1) := by decide +kernel
theorem dX7_comeDownOn_44 : decode cX7_comeDownOn 44 = .ok (.istore_n 3, 1) := by decide +kernel
theorem dX7_comeDownOn_45 : decode cX7_comeDownOn 45 = .ok (.aload_n 0, 1) := by decide +kernel
theorem dX7_comeDownOn_46 : decode cX7_comeDownOn 46 = .ok (.getfield 54, 3) := by decide +kernel
theorem dX7_comeDownOn_49 : decode cX7_comeDownOn 49 = .ok (.aload_n 0, 1) := by decide +kernel
theorem dX7_comeDownOn_50 : decode cX7_comeDownOn 50 = .ok (.getfield 26, 3) := by decide +kernel
theorem dX7_comeDownOn_53 : decode cX7_comeDownOn 53 = .ok (.getfield 111, 3) := by decide +kernel
theorem dX7_comeDownOn_56 : decode cX7_comeDownOn 56 = .ok (.isub, 1) := by decide +kernel
theorem dX7_comeDownOn_57 : decode cX7_comeDownOn 57 = .ok (.invokestatic 105, 3) := by decide +kernel
theorem dX7_comeDownOn_60 : decode cX7_comeDownOn 60 = .ok (.aload_n 0, 1) := by decide +kernel
theorem dX7_comeDownOn_61 : decode cX7_comeDownOn 61 = .ok (.getfield 9, 3) := by decide +kernel
theorem dX7_comeDownOn_64 : decode cX7_comeDownOn 64 = .ok (.getfield 81, 3) := by decide +kernel
theorem dX7_comeDownOn_67 : decode cX7_comeDownOn 67 = .ok (.iconst 2, 1) := by decide +kernel
theorem dX7_comeDownOn_68 : decode cX7_comeDownOn 68 = .ok (.iaload, 1) := by decide +kernel
theorem dX7_comeDownOn_69 : decode cX7_comeDownOn 69 = .ok (.if_icmp .gt 7, 3) := by decide +kernel
theorem dX7_comeDownOn_72 : decode cX7_comeDownOn 72 = .ok (.iconst 1, 1) := by decide +kernel
theorem dX7_comeDownOn_73 : decode cX7_comeDownOn 73 = .ok (.goto 4, 3) := by decide +kernel
theorem dX7_comeDownOn_76 : decode cX7_comeDownOn 76 = .ok (.iconst 0, 1) := by decide +kernel
theorem dX7_comeDownOn_77 : decode cX7_comeDownOn 77 = .ok (.istore 4, 2) := by decide +kernel
theorem dX7_comeDownOn_79 : decode cX7_comeDownOn 79 = .ok (.aload_n 0, 1) := by decide +kernel
theorem dX7_comeDownOn_80 : decode cX7_comeDownOn 80 = .ok (.getfield 60, 3) := by decide +kernel
theorem dX7_comeDownOn_83 : decode cX7_comeDownOn 83 = .ok (.bipush 15, 2) := by decide +kernel
theorem dX7_comeDownOn_85 : decode cX7_comeDownOn 85 = .ok (.if_icmp .eq 18, 3) := by decide +kernel
theorem dX7_comeDownOn_88 : decode cX7_comeDownOn 88 = .ok (.aload_n 0, 1) := by decide +kernel
theorem dX7_comeDownOn_89 : decode cX7_comeDownOn 89 = .ok (.getfield 60, 3) := by decide +kernel
theorem dX7_comeDownOn_92 : decode cX7_comeDownOn 92 = .ok (.ifCond .eq 11, 3) := by decide +kernel
theorem dX7_comeDownOn_95 : decode cX7_comeDownOn 95 = .ok (.aload_n 0, 1) := by decide +kernel
theorem dX7_comeDownOn_96 : decode cX7_comeDownOn 96 = .ok (.getfield 60, 3) := by decide +kernel
theorem dX7_comeDownOn_99 : decode cX7_comeDownOn 99 = .ok (.iconst 1, 1) := by decide +kernel
theorem dX7_comeDownOn_100 : decode cX7_comeDownOn 100 = .ok (.if_icmp .ne 7, 3) := by decide +kernel
theorem dX7_comeDownOn_103 : decode cX7_comeDownOn 103 = .ok (.iconst 1, 1) := by decide +kernel
theorem dX7_comeDownOn_104 : decode cX7_comeDownOn 104 = .ok (.goto 4, 3) := by decide +kernel
theorem dX7_comeDownOn_107 : decode cX7_comeDownOn 107 = .ok (.iconst 0, 1) := by decide +kernel
theorem dX7_comeDownOn_108 : decode cX7_comeDownOn 108 = .ok (.istore 5, 2) := by decide +kernel
theorem dX7_comeDownOn_110 : decode cX7_comeDownOn 110 = .ok (.iload_n 3, 1) := by decide +kernel
theorem dX7_comeDownOn_111 : decode cX7_comeDownOn 111 = .ok (.ifCond .eq 30, 3) := by decide +kernel
theorem dX7_comeDownOn_114 : decode cX7_comeDownOn 114 = .ok (.iload 4, 2) := by decide +kernel
theorem dX7_comeDownOn_116 : decode cX7_comeDownOn 116 = .ok (.ifCond .eq 25, 3) := by decide +kernel
theorem dX7_comeDownOn_119 : decode cX7_comeDownOn 119 = .ok (.aload_n 2, 1) := by decide +kernel
theorem dX7_comeDownOn_120 : decode cX7_comeDownOn 120 = .ok (.iload_n 1, 1) := by decide +kernel
theorem dX7_comeDownOn_121 : decode cX7_comeDownOn 121 = .ok (.iconst 4, 1) := by decide +kernel
theorem dX7_comeDownOn_122 : decode cX7_comeDownOn 122 = .ok (.invokevirtual 85, 3) := by decide +kernel
theorem dX7_comeDownOn_125 : decode cX7_comeDownOn 125 = .ok (.ifCond .eq 8, 3) := by decide +kernel
theorem dX7_comeDownOn_128 : decode cX7_comeDownOn 128 = .ok (.iload 5, 2) := by decide +kernel
theorem dX7_comeDownOn_130 : decode cX7_comeDownOn 130 = .ok (.ifCond .eq 11, 3) := by decide +kernel
theorem dX7_comeDownOn_133 : decode cX7_comeDownOn 133 = .ok (.aload_n 0, 1) := by decide +kernel
theorem dX7_comeDownOn_134 : decode cX7_comeDownOn 134 = .ok (.iload_n 1, 1) := by decide +kernel
theorem dX7_comeDownOn_135 : decode cX7_comeDownOn 135 = .ok (.putfield 72, 3) := by decide +kernel
theorem dX7_comeDownOn_138 : decode cX7_comeDownOn 138 = .ok (.goto 26, 3) := by decide +kernel
theorem dX7_comeDownOn_141 : decode cX7_comeDownOn 141 = .ok (.aload_n 0, 1) := by decide +kernel
theorem dX7_comeDownOn_142 : decode cX7_comeDownOn 142 = .ok (.dup, 1) := by decide +kernel
theorem dX7_comeDownOn_143 : decode cX7_comeDownOn 143 = .ok (.getfield 75, 3) := by decide +kernel
theorem dX7_comeDownOn_146 : decode cX7_comeDownOn 146 = .ok (.iconst 1, 1) := by decide +kernel
theorem dX7_comeDownOn_147 : decode cX7_comeDownOn 147 = .ok (.iadd, 1) := by decide +kernel
theorem dX7_comeDownOn_148 : decode cX7_comeDownOn 148 = .ok (.putfield 75, 3) := by decide +kernel
theorem dX7_comeDownOn_151 : decode cX7_comeDownOn 151 = .ok (.aload_n 0, 1) := by decide +kernel
theorem dX7_comeDownOn_152 : decode cX7_comeDownOn 152 = .ok (.aload_n 0, 1) := by decide +kernel
theorem dX7_comeDownOn_153 : decode cX7_comeDownOn 153 = .ok (.getfield 57, 3) := by decide +kernel
theorem dX7_comeDownOn_156 : decode cX7_comeDownOn 156 = .ok (.invokestatic 105, 3) := by decide +kernel
theorem dX7_comeDownOn_159 : decode cX7_comeDownOn 159 = .ok (.iconst 2, 1) := by decide +kernel
theorem dX7_comeDownOn_160 : decode cX7_comeDownOn 160 = .ok (.idiv, 1) := by decide +kernel
theorem dX7_comeDownOn_161 : decode cX7_comeDownOn 161 = .ok (.putfield 57, 3) := by decide +kernel
theorem dX7_comeDownOn_164 : decode cX7_comeDownOn 164 = .ok (.return_, 1) := by decide +kernel
end
section
/-! ===== the world: 113 cells by number; h says where each lies, mu what each holds ===== -/
abbrev AV : Type := Int32 ⊕ (Int64 ⊕ (Nat ⊕ Nat))
abbrev vI (x : Int32) : AV := Sum.inl x
abbrev vJ (x : Int64) : AV := Sum.inr (Sum.inl x)
abbrev vC (k : Nat) : AV := Sum.inr (Sum.inr (Sum.inl k))
abbrev vR (a : Nat) : AV := Sum.inr (Sum.inr (Sum.inr a))
def cv (h : Nat → Nat) : AV → Value
  | .inl x => .int x
  | .inr (.inl x) => .long x
  | .inr (.inr (.inl k)) => .ref (h k)
  | .inr (.inr (.inr a)) => .ref a
def cat2 : AV → Bool
  | .inr (.inl _) => true
  | _ => false
abbrev Mu : Type := Nat → Nat → Int32
def upM (mu : Mu) (k : Nat) (f : Nat → Int32) : Mu := fun j => if j = k then f else mu j
abbrev Sh : Type := (Nat × List (Option Nat)) ⊕ (Nat ⊕ (Nat × Nat))
def NC : Nat := 113
def shL : List Sh := [.inl (8, [some 1, some 27, none, some 53, some 55, some 59, some 70, some 86]),
  .inl (4, [some 2, some 3, some 9, some 17]),
  .inr (.inl 3),
  .inl (6, [some 4, none, none]),
  .inr (.inr (4, 5)),
  .inr (.inl 5),
  .inr (.inl 5),
  .inr (.inl 5),
  .inr (.inl 5),
  .inl (6, [some 10, none, none]),
  .inr (.inr (6, 11)),
  .inr (.inl 3),
  .inr (.inl 3),
  .inr (.inl 3),
  .inr (.inl 3),
  .inr (.inl 3),
  .inr (.inl 3),
  .inl (6, [some 18, none, none]),
  .inr (.inr (8, 19)),
  .inr (.inl 4),
  .inr (.inl 4),
  .inr (.inl 4),
  .inr (.inl 4),
  .inr (.inl 4),
  .inr (.inl 4),
  .inr (.inl 4),
  .inr (.inl 4),
  .inl (4, [some 28, some 29, some 35, some 43]),
  .inr (.inl 3),
  .inl (6, [some 30, none, none]),
  .inr (.inr (4, 31)),
  .inr (.inl 5),
  .inr (.inl 5),
  .inr (.inl 5),
  .inr (.inl 5),
  .inl (6, [some 36, none, none]),
  .inr (.inr (6, 37)),
  .inr (.inl 3),
  .inr (.inl 3),
  .inr (.inl 3),
  .inr (.inl 3),
  .inr (.inl 3),
  .inr (.inl 3),
  .inl (6, [some 44, none, none]),
  .inr (.inr (8, 45)),
  .inr (.inl 4),
  .inr (.inl 4),
  .inr (.inl 4),
  .inr (.inl 4),
  .inr (.inl 4),
  .inr (.inl 4),
  .inr (.inl 4),
  .inr (.inl 4),
  .inl (7, [some 1, some 54, none, none, none, none, none, none, none, none, none, none, none, none, none, none, none]),
  .inl (1, [some 9, none, none, none, none, none, none, none, none]),
  .inl (0, [some 56, some 57, some 58, none, none]),
  .inr (.inl 90),
  .inr (.inl 90),
  .inr (.inl 90),
  .inl (2, [some 60]),
  .inr (.inr (9, 61)),
  .inr (.inl 181),
  .inr (.inl 181),
  .inr (.inl 181),
  .inr (.inl 181),
  .inr (.inl 181),
  .inr (.inl 181),
  .inr (.inl 181),
  .inr (.inl 181),
  .inr (.inl 181),
  .inl (3, [some 71, none, none, none, some 72, some 78]),
  .inr (.inl 60),
  .inl (6, [some 73, none, none]),
  .inr (.inr (4, 74)),
  .inr (.inl 5),
  .inr (.inl 5),
  .inr (.inl 5),
  .inr (.inl 5),
  .inl (6, [some 79, none, none]),
  .inr (.inr (6, 80)),
  .inr (.inl 3),
  .inr (.inl 3),
  .inr (.inl 3),
  .inr (.inl 3),
  .inr (.inl 3),
  .inr (.inl 3),
  .inl (5, [some 87, some 88, some 89]),
  .inr (.inl 4),
  .inr (.inl 4),
  .inr (.inr (4, 90)),
  .inr (.inl 24),
  .inr (.inl 24),
  .inr (.inl 24),
  .inr (.inl 24),
  .inl (9, [some 95, none, some 96, none, some 97, none, some 98, some 99, none, none, none, some 100, some 101, some 102, some 103, none, none, none, none, none, none, none, none, none, none, none, none, none, none, none, none, some 104, some 105, some 106, some 107, some 108, none, some 109, some 110, some 111, some 112]),
  .inr (.inl 3),
  .inr (.inl 20),
  .inr (.inl 18),
  .inr (.inl 32),
  .inr (.inl 60),
  .inr (.inl 20),
  .inr (.inl 900),
  .inr (.inl 100),
  .inr (.inl 100),
  .inr (.inl 90),
  .inr (.inl 90),
  .inr (.inl 90),
  .inr (.inl 1629),
  .inr (.inl 80),
  .inr (.inl 4),
  .inr (.inl 4),
  .inr (.inl 96),
  .inr (.inl 24)]
def aty (k : Nat) : FieldType := if k = 57 then .boolean else if k ∈ ([4, 10, 18, 30, 36, 44, 60, 73, 79, 89] : List Nat) then .array .int else .int
def sh (k : Nat) : Sh := shL.getD k (.inr (.inl 0))
def mkF (h : Nat → Nat) (f : Nat → Int32) : Nat → List (Option Nat) → List Value
  | _, [] => []
  | i, some j :: r => .ref (h j) :: mkF h f (i + 1) r
  | i, none :: r => .int (f i) :: mkF h f (i + 1) r
def cellE (h : Nat → Nat) (cA : Nat → ClassId) (k : Nat) (f : Nat → Int32) : Sh → va_E
  | .inl (ci, fs) => .inr (ci, mkF h f 0 fs)
  | .inr (.inl n) => .inl (cA k, n, .inl f)
  | .inr (.inr (n, b)) => .inl (cA k, n, .inr (.inr (.inr (.inr (fun i => if i < n then some (h (b + i)) else none)))))
def wd (h : Nat → Nat) (cA : Nat → ClassId) (mu : Mu) : va_W := (List.range NC).map (fun k => (h k, cellE h cA k (mu k) (sh k)))
def tyz (cA : Nat → ClassId) : List (ClassId × FieldType) := (List.range NC).map (fun k => (cA k, aty k))
theorem wd_at {h : Nat → Nat} {cA : Nat → ClassId} {mu : Mu} {k : Nat} (hk : k < NC) : (wd h cA mu)[k]? = some (h k, cellE h cA k (mu k) (sh k)) := by
  unfold wd
  rw [List.getElem?_map, List.getElem?_range hk]
  rfl
theorem wd_len {h : Nat → Nat} {cA : Nat → ClassId} {mu : Mu} : (wd h cA mu).length = NC := by
  unfold wd
  rw [List.length_map, List.length_range]
theorem wd_no {h : Nat → Nat} {cA : Nat → ClassId} {mu : Mu} {k : Nat} (hk : ¬ k < NC) : (wd h cA mu)[k]? = none := List.getElem?_eq_none (by rw [wd_len]; omega)
theorem wd_set {h : Nat → Nat} {cA : Nat → ClassId} {mu : Mu} {k : Nat} (hk : k < NC) (f : Nat → Int32) : (wd h cA mu).set k (h k, cellE h cA k f (sh k)) = wd h cA (upM mu k f) := by
  apply List.ext_getElem?
  intro j
  by_cases e : j = k
  · subst e
    rw [List.getElem?_set_self (by rw [wd_len]; exact hk), wd_at hk]
    simp [upM]
  · rw [List.getElem?_set_ne (Ne.symm e)]
    by_cases hj : j < NC
    · rw [wd_at hj, wd_at hj]
      simp [upM, e]
    · rw [wd_no hj, wd_no hj]
theorem tyz_at {cA : Nat → ClassId} {k : Nat} (hk : k < NC) : (tyz cA)[k]? = some (cA k, aty k) := by
  unfold tyz
  rw [List.getElem?_map, List.getElem?_range hk]
  rfl
theorem mkF_int {h : Nat → Nat} {f : Nat → Int32} : ∀ (fs : List (Option Nat)) (i j : Nat), fs[j]? = some none → (mkF h f i fs)[j]? = some (.int (f (i + j)))
  | [], _, _, e => by simp at e
  | none :: r, i, 0, _ => rfl
  | none :: r, i, j + 1, e => by
    have := mkF_int (h := h) (f := f) r (i + 1) j e
    rw [show i + (j + 1) = i + 1 + j by omega]
    exact this
  | some q :: r, i, 0, e => by simp at e
  | some q :: r, i, j + 1, e => by
    have := mkF_int (h := h) (f := f) r (i + 1) j e
    rw [show i + (j + 1) = i + 1 + j by omega]
    exact this
theorem mkF_ref {h : Nat → Nat} {f : Nat → Int32} {q : Nat} : ∀ (fs : List (Option Nat)) (i j : Nat), fs[j]? = some (some q) → (mkF h f i fs)[j]? = some (.ref (h q))
  | [], _, _, e => by simp at e
  | none :: r, i, 0, e => by simp at e
  | none :: r, i, j + 1, e => mkF_ref (h := h) (f := f) r (i + 1) j e
  | some q :: r, i, 0, e => by
    have e2 : q = _ := Option.some.inj (Option.some.inj e)
    subst e2
    rfl
  | some q :: r, i, j + 1, e => mkF_ref (h := h) (f := f) r (i + 1) j e
theorem mkF_len {h : Nat → Nat} {f : Nat → Int32} : ∀ (fs : List (Option Nat)) (i : Nat), (mkF h f i fs).length = fs.length
  | [], _ => rfl
  | none :: r, i => congrArg (· + 1) (mkF_len r (i + 1))
  | some q :: r, i => congrArg (· + 1) (mkF_len r (i + 1))
theorem mkF_cong {h : Nat → Nat} {f g : Nat → Int32} : ∀ (fs : List (Option Nat)) (i : Nat), (∀ j, i ≤ j → f j = g j) → mkF h f i fs = mkF h g i fs
  | [], _, _ => rfl
  | none :: r, i, e => by
    show Value.int (f i) :: mkF h f (i + 1) r = Value.int (g i) :: mkF h g (i + 1) r
    rw [e i (Nat.le_refl i), mkF_cong r (i + 1) (fun j hj => e j (by omega))]
  | some q :: r, i, e => by
    show Value.ref (h q) :: mkF h f (i + 1) r = Value.ref (h q) :: mkF h g (i + 1) r
    rw [mkF_cong r (i + 1) (fun j hj => e j (by omega))]
theorem mkF_set {h : Nat → Nat} {f : Nat → Int32} {v : Int32} : ∀ (fs : List (Option Nat)) (i j : Nat), fs[j]? = some none → (mkF h f i fs).set j (.int v) = mkF h (upd f (i + j) v) i fs
  | [], _, _, e => by simp at e
  | none :: r, i, 0, _ => by
    show Value.int v :: mkF h f (i + 1) r = Value.int (upd f i v i) :: mkF h (upd f i v) (i + 1) r
    rw [show upd f i v i = v from if_pos rfl, mkF_cong (g := upd f i v) r (i + 1) (fun j hj => (if_neg (by omega)).symm)]
  | none :: r, i, j + 1, e => by
    show Value.int (f i) :: (mkF h f (i + 1) r).set j (.int v) = Value.int (upd f (i + (j + 1)) v i) :: mkF h (upd f (i + (j + 1)) v) (i + 1) r
    rw [mkF_set r (i + 1) j e, show i + 1 + j = i + (j + 1) by omega, show upd f (i + (j + 1)) v i = f i from if_neg (by omega)]
  | some q :: r, i, 0, e => by simp at e
  | some q :: r, i, j + 1, e => by
    show Value.ref (h q) :: (mkF h f (i + 1) r).set j (.int v) = Value.ref (h q) :: mkF h (upd f (i + (j + 1)) v) (i + 1) r
    rw [mkF_set r (i + 1) j e, show i + 1 + j = i + (j + 1) by omega]
/-! ===== locals by slot ===== -/
def getL (i : Nat) : List (Nat × AV) → Option AV
  | [] => none
  | (j, v) :: r => if j = i then some v else getL i r
def stL (i : Nat) (v : AV) : List (Nat × AV) → List (Nat × AV)
  | [] => [(i, v)]
  | (j, w) :: r => if j = i then (i, v) :: r.filter (fun q => !(q.1 == i)) else if i < j then (i, v) :: (j, w) :: r.filter (fun q => !(q.1 == i)) else (j, w) :: stL i v r
def cleanL (i : Nat) (L : List (Nat × AV)) : Bool := L.all (fun q => !(q.1 + 1 == i && cat2 q.2))
def mpL (h : Nat → Nat) (L : List (Nat × AV)) : List (Nat × Value) := L.map (fun q => (q.1, cv h q.2))
theorem getL_mem {i : Nat} {v : AV} : ∀ {L : List (Nat × AV)}, getL i L = some v → (i, v) ∈ L
  | [], e => by simp [getL] at e
  | (j, w) :: r, e => by
    unfold getL at e
    by_cases hj : j = i
    · rw [if_pos hj] at e
      cases e
      rw [hj]
      exact List.mem_cons_self
    · rw [if_neg hj] at e
      exact List.mem_cons_of_mem _ (getL_mem e)
theorem lv_get {ls : Array Slot} {nL : Nat} {h : Nat → Nat} {L : List (Nat × AV)} {i : Nat} {v : AV} (hl : lv_has ls nL (mpL h L)) (e : getL i L = some v) : ls[i]? = some (.val (cv h v)) :=
  hl.2.2 (i, cv h v) (List.mem_map.mpr ⟨(i, v), getL_mem e, rfl⟩)
theorem stL_mem {i : Nat} {v : AV} {q : Nat × AV} : ∀ {L : List (Nat × AV)}, q ∈ stL i v L → q = (i, v) ∨ (q ∈ L ∧ (q.1 ≠ i))
  | [], e => by
    simp [stL] at e
    exact Or.inl e
  | (j, w) :: r, e => by
    unfold stL at e
    by_cases hj : j = i
    · rw [if_pos hj] at e
      rcases List.mem_cons.mp e with e | e
      · exact Or.inl e
      · have := List.mem_filter.mp e
        exact Or.inr ⟨List.mem_cons_of_mem _ this.1, by simpa using this.2⟩
    · rw [if_neg hj] at e
      by_cases hi : i < j
      · rw [if_pos hi] at e
        rcases List.mem_cons.mp e with e | e
        · exact Or.inl e
        · rcases List.mem_cons.mp e with e | e
          · exact Or.inr ⟨by rw [e]; exact List.mem_cons_self, by rw [e]; exact hj⟩
          · have := List.mem_filter.mp e
            exact Or.inr ⟨List.mem_cons_of_mem _ this.1, by simpa using this.2⟩
      · rw [if_neg hi] at e
        rcases List.mem_cons.mp e with e | e
        · exact Or.inr ⟨by rw [e]; exact List.mem_cons_self, by rw [e]; exact hj⟩
        · rcases stL_mem e with e | e
          · exact Or.inl e
          · exact Or.inr ⟨List.mem_cons_of_mem _ e.1, e.2⟩
theorem cat_cv {h : Nat → Nat} {v : AV} : ((cv h v).category == 2) = cat2 v := by
  rcases v with x | x | k | a <;> rfl
theorem lv_stL {ls : Array Slot} {nL : Nat} {h : Nat → Nat} {L : List (Nat × AV)} {i : Nat} {v : AV} (hc : cleanL i L = true) (hl : lv_has ls nL ((i, cv h v) :: (mpL h L).filter (fun q => !(q.1 == i) && !(q.1 + 1 == i && q.2.category == 2)))) : lv_has ls nL (mpL h (stL i v L)) := by
  refine ⟨hl.1, hl.2.1, fun q hq => ?_⟩
  obtain ⟨q0, hq0, rfl⟩ := List.mem_map.mp hq
  rcases stL_mem hq0 with e | ⟨e1, e2⟩
  · rw [e]
    exact hl.2.2 _ List.mem_cons_self
  · refine hl.2.2 _ (List.mem_cons_of_mem _ (List.mem_filter.mpr ⟨List.mem_map.mpr ⟨q0, e1, rfl⟩, ?_⟩))
    have := List.all_eq_true.mp hc q0 e1
    simp only [cat_cv, this, Bool.and_true]
    simpa using e2
/-! ===== the words ===== -/
def tb0 : List Cond := lw_tbl.filter goodWord
def isNest : Cond → Bool
  | .fieldLinkNest .. => true
  | .methodLinkNest .. => true
  | _ => false
def nw0 : List Cond := lw_tbl.filter isNest
theorem mem0 {w : Cond} {i : Nat} (h : lw_tbl[i]? = some w) (hg : goodWord w = true) : w ∈ tb0 := List.mem_filter.mpr ⟨List.mem_of_getElem? h, hg⟩
theorem memN {w : Cond} {i : Nat} (h : lw_tbl[i]? = some w) (hg : isNest w = true) : w ∈ nw0 := List.mem_filter.mpr ⟨List.mem_of_getElem? h, hg⟩
theorem good0 {w : Cond} (h : w ∈ tb0) : w ∈ tb0 ∧ ((w.onTables && w.keeps) = true ∨ ∃ ty, w = .arrayClass ty) := ⟨h, good_of_word (List.mem_filter.mp h).2⟩
theorem nest_on {w : Cond} (h : isNest w = true) : w.onTables = true := by
  cases w <;> first | rfl | (simp [isNest] at h)
theorem nw_warm {s U : State} (hW : s.WarmedH U.vm) (h : ∀ w ∈ nw0, va_Nw w s) : ∀ w ∈ nw0, va_Nw w U := by
  intro w hw
  have h1 := h w hw
  have h2 : isNest w = true := (List.mem_filter.mp hw).2
  cases w with
  | fieldLinkNest a i b n d x => exact va_Nw.warmF hW h1
  | methodLinkNest a i y x => exact va_Nw.warmM hW h1
  | _ => simp [isNest] at h2
def rm (d : Nat) : Room := { frames := d, cells := 0, slots := 0, locals := 40 * d }
end
section
/-! ===== the judgement WA: the machine at a frame of a method, over the world mu ===== -/
abbrev CX : Type := Program × Launch × Env × Room × State × MethodId × Array Value × List Frame × Method × Code × (State → Prop) × Nat × Nat
abbrev xp (X : CX) : Program := X.1
abbrev xl (X : CX) : Launch := X.2.1
abbrev xe (X : CX) : Env := X.2.2.1
abbrev xR (X : CX) : Room := X.2.2.2.1
abbrev xs (X : CX) : State := X.2.2.2.2.1
abbrev xm (X : CX) : MethodId := X.2.2.2.2.2.1
abbrev xa (X : CX) : Array Value := X.2.2.2.2.2.2.1
abbrev xb (X : CX) : List Frame := X.2.2.2.2.2.2.2.1
abbrev xh (X : CX) : Method := X.2.2.2.2.2.2.2.2.1
abbrev xc (X : CX) : Code := X.2.2.2.2.2.2.2.2.2.1
abbrev xQ (X : CX) : State → Prop := X.2.2.2.2.2.2.2.2.2.2.1
abbrev xk (X : CX) : Nat := X.2.2.2.2.2.2.2.2.2.2.2.1
abbrev xn (X : CX) : Nat := X.2.2.2.2.2.2.2.2.2.2.2.2
abbrev GX : Type := va_G × (Nat → Nat) × (Nat → ClassId) × (Nat → Prop) × Nat × Nat
abbrev gD (g : GX) : va_G := g.1
abbrev gh (g : GX) : Nat → Nat := g.2.1
abbrev gc (g : GX) : Nat → ClassId := g.2.2.1
abbrev gA (g : GX) : Nat → Prop := g.2.2.2.1
abbrev gt0 (g : GX) : Nat := g.2.2.2.2.1
abbrev gt1 (g : GX) : Nat := g.2.2.2.2.2
def leastS (j : Nat) : Int32 := if j = 0 then 10 else if j = 1 then 1 else 0
def mostS (j : Nat) : Int32 := if j = 0 then 60 else if j = 1 then 4 else 20
/-- the two static rows that set and cord read -/
def SF (t0 t1 : Nat) (A : Nat → Prop) (U : State) (H : Heap) : Prop :=
  va_Z "BallInCup" "LEAST_SETTINGS" "[I" (.ref t0) A U H ∧ va_T .int t0 3 (fun j => .int (leastS j)) A U H ∧ va_Z "BallInCup" "MOST_SETTINGS" "[I" (.ref t1) A U H ∧ va_T .int t1 3 (fun j => .int (mostS j)) A U H
theorem SF.go {t0 t1 : Nat} {A B : Nat → Prop} {u U : State} {H H1 : Heap} (h : SF t0 t1 A u H) (hvm : u.vm.Alike U.vm) (hq : ∀ a : Nat, a < H.size → ¬ A a → H1[a]? = H[a]?) (hAB : ∀ q, B q → A q) : SF t0 t1 B U H1 :=
  ⟨((h.1.kept hq).narrow hAB).moved hvm, ((h.2.1.kept hq).narrow hAB).moved hvm, ((h.2.2.1.kept hq).narrow hAB).moved hvm, ((h.2.2.2.kept hq).narrow hAB).moved hvm⟩
def inj (h : Nat → Nat) : Prop := ∀ i j : Nat, i < NC → j < NC → h i = h j → i = j
def Fx (X : CX) (g : GX) (own : String) (nL : Nat) (cc : ByteArray) : Prop :=
  (xp X).tables.exec = Jvm.exec ∧ (xc X).code = cc ∧ (xc X).maxLocals = nL ∧ (xs X).vm.findClass own = some (xm X).cls ∧ (∀ w ∈ tb0, w.before (xa X) (xs X) = true) ∧ (∀ w ∈ nw0, va_Nw w (xs X)) ∧ va_K (gD g) vwCl (tyz (gc g)) (xs X) ∧ (inj (gh g) ∧ ∀ k, k < NC → gA g (gh g k)) ∧ (∀ q, (xs X).heap.size ≤ q → gA g q) ∧ SF (gt0 g) (gt1 g) (gA g) (xs X) (xs X).heap
def WA (X : CX) (g : GX) (own : String) (nL : Nat) (cc : ByteArray) (pc : Nat) (L : List (Nat × AV)) (st : List AV) (mu : Mu) : Prop :=
  Fx X g own nL cc → ∀ (H : Heap) (locs : List Loc) (ls : Array Slot), va_P (gD g) vwCl (wd (gh g) (gc g) mu) H → va_S (gA g) (xs X).heap H locs → lv_has ls nL (mpL (gh g) L) →
    W (xp X) (xl X) (xe X) (xR X) (xs X) (xm X) (xa X) (xb X) (xh X) (xc X) H locs (xk X) (xn X) (xQ X) (F0 (xm X) pc ls (st.map (cv (gh g))))
theorem wd_D {h : Nat → Nat} {cA : Nat → ClassId} {A : Nat → Prop} (hi : inj h ∧ ∀ k, k < NC → A (h k)) (mu : Mu) : va_D A (wd h cA mu) := by
  have key : ∀ (k : Nat) (q : Nat × va_E), (wd h cA mu)[k]? = some q → k < NC ∧ q.1 = h k := fun k q hq => by
    have hk : k < NC := by
      rcases Nat.lt_or_ge k NC with z | z
      · exact z
      · rw [wd_no (by omega)] at hq
        cases hq
    rw [wd_at hk] at hq
    cases hq
    exact ⟨hk, rfl⟩
  refine ⟨fun i j p q hp hq e => ?_, fun k q hq => ?_⟩
  · obtain ⟨a1, a2⟩ := key i p hp
    obtain ⟨b1, b2⟩ := key j q hq
    exact hi.1 i j a1 b1 (by rw [← a2, ← b2]; exact e)
  · obtain ⟨a1, a2⟩ := key k q hq
    rw [a2]
    exact hi.2 k a1
section ROWS
variable {X : CX} {g : GX} {own : String} {nL : Nat} {cc : ByteArray} {pc pc' : Nat} {L L' : List (Nat × AV)} {st : List AV} {mu : Mu}
theorem WA_st {st' : List AV} (h : st = st') (k : WA X g own nL cc pc L st' mu) : WA X g own nL cc pc L st mu := h ▸ k
theorem WA_loc (h : L = L') (k : WA X g own nL cc pc L' st mu) : WA X g own nL cc pc L st mu := h ▸ k
theorem WA_mu {mu' : Mu} (h : mu = mu') (k : WA X g own nL cc pc L st mu') : WA X g own nL cc pc L st mu := h ▸ k
theorem o_topi {x : Int32} (k : ∀ y : Int32, y = x → WA X g own nL cc pc L (vI y :: st) mu) : WA X g own nL cc pc L (vI x :: st) mu := k x rfl
theorem o_topj {x : Int64} (k : ∀ y : Int64, y = x → WA X g own nL cc pc L (vJ y :: st) mu) : WA X g own nL cc pc L (vJ x :: st) mu := k x rfl
theorem o_iadd {a b : Int32} (hd : decode cc pc = .ok (.iadd, 1)) (hn : pc + 1 = pc') (k : WA X g own nL cc pc' L (vI (a + b) :: st) mu) : WA X g own nL cc pc L (vI b :: vI a :: st) mu := by
  subst hn
  intro F H locs ls hP hS hl
  exact lv_iadd F.1 F.2.1 hd  (k F H locs ls hP hS hl)
theorem o_isub {a b : Int32} (hd : decode cc pc = .ok (.isub, 1)) (hn : pc + 1 = pc') (k : WA X g own nL cc pc' L (vI (a - b) :: st) mu) : WA X g own nL cc pc L (vI b :: vI a :: st) mu := by
  subst hn
  intro F H locs ls hP hS hl
  exact lv_isub F.1 F.2.1 hd  (k F H locs ls hP hS hl)
theorem o_imul {a b : Int32} (hd : decode cc pc = .ok (.imul, 1)) (hn : pc + 1 = pc') (k : WA X g own nL cc pc' L (vI (a * b) :: st) mu) : WA X g own nL cc pc L (vI b :: vI a :: st) mu := by
  subst hn
  intro F H locs ls hP hS hl
  exact lv_imul F.1 F.2.1 hd  (k F H locs ls hP hS hl)
theorem o_iand {a b : Int32} (hd : decode cc pc = .ok (.iand, 1)) (hn : pc + 1 = pc') (k : WA X g own nL cc pc' L (vI (a &&& b) :: st) mu) : WA X g own nL cc pc L (vI b :: vI a :: st) mu := by
  subst hn
  intro F H locs ls hP hS hl
  exact lv_iand F.1 F.2.1 hd  (k F H locs ls hP hS hl)
theorem o_ixor {a b : Int32} (hd : decode cc pc = .ok (.ixor, 1)) (hn : pc + 1 = pc') (k : WA X g own nL cc pc' L (vI (a ^^^ b) :: st) mu) : WA X g own nL cc pc L (vI b :: vI a :: st) mu := by
  subst hn
  intro F H locs ls hP hS hl
  exact lv_ixor F.1 F.2.1 hd  (k F H locs ls hP hS hl)
theorem o_ineg {a : Int32} (hd : decode cc pc = .ok (.ineg, 1)) (hn : pc + 1 = pc') (k : WA X g own nL cc pc' L (vI (-a) :: st) mu) : WA X g own nL cc pc L (vI a :: st) mu := by
  subst hn
  intro F H locs ls hP hS hl
  exact lv_ineg F.1 F.2.1 hd  (k F H locs ls hP hS hl)
theorem o_idiv {a b : Int32} (hd : decode cc pc = .ok (.idiv, 1)) (hn : pc + 1 = pc') (hz : ¬ b = 0) (k : WA X g own nL cc pc' L (vI (a / b) :: st) mu) : WA X g own nL cc pc L (vI b :: vI a :: st) mu := by
  subst hn
  intro F H locs ls hP hS hl
  exact lv_idiv F.1 F.2.1 hd hz (k F H locs ls hP hS hl)
theorem o_irem {a b : Int32} (hd : decode cc pc = .ok (.irem, 1)) (hn : pc + 1 = pc') (hz : ¬ b = 0) (k : WA X g own nL cc pc' L (vI (a - a / b * b) :: st) mu) : WA X g own nL cc pc L (vI b :: vI a :: st) mu := by
  subst hn
  intro F H locs ls hP hS hl
  exact lv_irem F.1 F.2.1 hd hz (k F H locs ls hP hS hl)
theorem o_land {a b : Int64} (hd : decode cc pc = .ok (.land, 1)) (hn : pc + 1 = pc') (k : WA X g own nL cc pc' L (vJ (a &&& b) :: st) mu) : WA X g own nL cc pc L (vJ b :: vJ a :: st) mu := by
  subst hn
  intro F H locs ls hP hS hl
  exact lv_land F.1 F.2.1 hd  (k F H locs ls hP hS hl)
theorem o_lor {a b : Int64} (hd : decode cc pc = .ok (.lor, 1)) (hn : pc + 1 = pc') (k : WA X g own nL cc pc' L (vJ (a ||| b) :: st) mu) : WA X g own nL cc pc L (vJ b :: vJ a :: st) mu := by
  subst hn
  intro F H locs ls hP hS hl
  exact lv_lor F.1 F.2.1 hd  (k F H locs ls hP hS hl)
theorem o_ladd {a b : Int64} (hd : decode cc pc = .ok (.ladd, 1)) (hn : pc + 1 = pc') (k : WA X g own nL cc pc' L (vJ (a + b) :: st) mu) : WA X g own nL cc pc L (vJ b :: vJ a :: st) mu := by
  subst hn
  intro F H locs ls hP hS hl
  exact lv_ladd F.1 F.2.1 hd  (k F H locs ls hP hS hl)
theorem o_lshl {a : Int64} {b : Int32} (hd : decode cc pc = .ok (.lshl, 1)) (hn : pc + 1 = pc') (k : WA X g own nL cc pc' L (vJ (a <<< (b.toInt64 &&& 63)) :: st) mu) : WA X g own nL cc pc L (vI b :: vJ a :: st) mu := by
  subst hn
  intro F H locs ls hP hS hl
  exact lv_lshl F.1 F.2.1 hd rfl (k F H locs ls hP hS hl)
theorem o_lshr {a : Int64} {b : Int32} (hd : decode cc pc = .ok (.lshr, 1)) (hn : pc + 1 = pc') (k : WA X g own nL cc pc' L (vJ (a >>> (b.toInt64 &&& 63)) :: st) mu) : WA X g own nL cc pc L (vI b :: vJ a :: st) mu := by
  subst hn
  intro F H locs ls hP hS hl
  exact lv_lshr F.1 F.2.1 hd rfl (k F H locs ls hP hS hl)
theorem o_lushr {a : Int64} {b : Int32} (hd : decode cc pc = .ok (.lushr, 1)) (hn : pc + 1 = pc') (k : WA X g own nL cc pc' L (vJ (a.toUInt64 >>> (b.toInt64.toUInt64 &&& Int64.toUInt64 63)).toInt64 :: st) mu) : WA X g own nL cc pc L (vI b :: vJ a :: st) mu := by
  subst hn
  intro F H locs ls hP hS hl
  exact lv_lushr F.1 F.2.1 hd rfl (k F H locs ls hP hS hl)
theorem o_i2l {a : Int32} (hd : decode cc pc = .ok (.i2l, 1)) (hn : pc + 1 = pc') (k : WA X g own nL cc pc' L (vJ a.toInt64 :: st) mu) : WA X g own nL cc pc L (vI a :: st) mu := by
  subst hn
  intro F H locs ls hP hS hl
  exact lv_i2l F.1 F.2.1 hd rfl (k F H locs ls hP hS hl)
theorem o_l2i {a : Int64} (hd : decode cc pc = .ok (.l2i, 1)) (hn : pc + 1 = pc') (k : WA X g own nL cc pc' L (vI a.toInt32 :: st) mu) : WA X g own nL cc pc L (vJ a :: st) mu := by
  subst hn
  intro F H locs ls hP hS hl
  exact lv_l2i F.1 F.2.1 hd rfl (k F H locs ls hP hS hl)
theorem o_i2b {a : Int32} (hd : decode cc pc = .ok (.i2b, 1)) (hn : pc + 1 = pc') (k : WA X g own nL cc pc' L (vI a.toInt8.toInt32 :: st) mu) : WA X g own nL cc pc L (vI a :: st) mu := by
  subst hn
  intro F H locs ls hP hS hl
  exact lv_i2b F.1 F.2.1 hd rfl (k F H locs ls hP hS hl)
theorem o_i2s {a : Int32} (hd : decode cc pc = .ok (.i2s, 1)) (hn : pc + 1 = pc') (k : WA X g own nL cc pc' L (vI a.toInt16.toInt32 :: st) mu) : WA X g own nL cc pc L (vI a :: st) mu := by
  subst hn
  intro F H locs ls hP hS hl
  exact lv_i2s F.1 F.2.1 hd rfl (k F H locs ls hP hS hl)
theorem o_lcmp {a b : Int64} (hd : decode cc pc = .ok (.lcmp, 1)) (hn : pc + 1 = pc') (k : WA X g own nL cc pc' L (vI (lg_cmp a b) :: st) mu) : WA X g own nL cc pc L (vJ b :: vJ a :: st) mu := by
  subst hn
  intro F H locs ls hP hS hl
  exact W.lcmp F.1 F.2.1 hd  (k F H locs ls hP hS hl)
theorem o_iconst {n : Int} {v : Int32} (hd : decode cc pc = .ok (.iconst n, 1)) (hn : pc + 1 = pc') (hv : Int32.ofInt n = v) (k : WA X g own nL cc pc' L (vI v :: st) mu) : WA X g own nL cc pc L (st) mu := by
  subst hn
  intro F H locs ls hP hS hl
  exact lv_iconst F.1 F.2.1 hd hv (k F H locs ls hP hS hl)
theorem o_bipush {n : Int} {v : Int32} (hd : decode cc pc = .ok (.bipush n, 2)) (hn : pc + 2 = pc') (hv : (Int8.ofInt n).toInt32 = v) (k : WA X g own nL cc pc' L (vI v :: st) mu) : WA X g own nL cc pc L (st) mu := by
  subst hn
  intro F H locs ls hP hS hl
  exact lv_bipush F.1 F.2.1 hd hv (k F H locs ls hP hS hl)
theorem o_sipush {n : Int} {v : Int32} (hd : decode cc pc = .ok (.sipush n, 3)) (hn : pc + 3 = pc') (hv : (Int16.ofInt n).toInt32 = v) (k : WA X g own nL cc pc' L (vI v :: st) mu) : WA X g own nL cc pc L (st) mu := by
  subst hn
  intro F H locs ls hP hS hl
  exact lv_sipush F.1 F.2.1 hd hv (k F H locs ls hP hS hl)
theorem o_lconst {n : Fin 2} {v : Int64} (hd : decode cc pc = .ok (.lconst n, 1)) (hn : pc + 1 = pc') (hv : Int64.ofNat (n : Nat) = v) (k : WA X g own nL cc pc' L (vJ v :: st) mu) : WA X g own nL cc pc L (st) mu := by
  subst hn
  intro F H locs ls hP hS hl
  exact lv_lconst F.1 F.2.1 hd hv (k F H locs ls hP hS hl)
theorem o_ldc {ix : Nat} {v : Int32} (hd : decode cc pc = .ok (.ldc ix, 2)) (hn : pc + 2 = pc') (hc : Cond.constant own ix v ∈ tb0) (k : WA X g own nL cc pc' L (vI v :: st) mu) : WA X g own nL cc pc L st mu := by
  subst hn
  intro F H locs ls hP hS hl
  exact lv_ldc F.1 F.2.1 F.2.2.2.1 (F.2.2.2.2.1 _ hc) hd (k F H locs ls hP hS hl)
theorem o_ldcw {ix : Nat} {v : Int32} (hd : decode cc pc = .ok (.ldc_w ix, 3)) (hn : pc + 3 = pc') (hc : Cond.constant own ix v ∈ tb0) (k : WA X g own nL cc pc' L (vI v :: st) mu) : WA X g own nL cc pc L st mu := by
  subst hn
  intro F H locs ls hP hS hl
  exact lv_ldcw F.1 F.2.1 F.2.2.2.1 (F.2.2.2.2.1 _ hc) hd (k F H locs ls hP hS hl)
theorem o_ldc2 {ix : Nat} {v : Int64} (hd : decode cc pc = .ok (.ldc2_w ix, 3)) (hn : pc + 3 = pc') (hc : Cond.constantLong own ix v ∈ tb0) (k : WA X g own nL cc pc' L (vJ v :: st) mu) : WA X g own nL cc pc L st mu := by
  subst hn
  intro F H locs ls hP hS hl
  exact lv_ldc2 F.1 F.2.1 F.2.2.2.1 (F.2.2.2.2.1 _ hc) hd (k F H locs ls hP hS hl)
theorem cat1 {h : Nat → Nat} {v : AV} (hc : cat2 v = false) : (cv h v).category = 1 := by
  rcases v with x | x | k | a
  · rfl
  · cases hc
  · rfl
  · rfl
theorem o_pop {v : AV} (hd : decode cc pc = .ok (.pop, 1)) (hn : pc + 1 = pc') (hc : cat2 v = false) (k : WA X g own nL cc pc' L (st) mu) : WA X g own nL cc pc L (v :: st) mu := by
  subst hn
  intro F H locs ls hP hS hl
  exact lv_pop F.1 F.2.1 hd (cat1 hc) (k F H locs ls hP hS hl)
theorem o_dup {v : AV} (hd : decode cc pc = .ok (.dup, 1)) (hn : pc + 1 = pc') (hc : cat2 v = false) (k : WA X g own nL cc pc' L (v :: v :: st) mu) : WA X g own nL cc pc L (v :: st) mu := by
  subst hn
  intro F H locs ls hP hS hl
  exact lv_dup F.1 F.2.1 hd (cat1 hc) (k F H locs ls hP hS hl)
theorem o_dup2 {v w : AV} (hd : decode cc pc = .ok (.dup2, 1)) (hn : pc + 1 = pc') (hc : cat2 v = false) (hc2 : cat2 w = false) (k : WA X g own nL cc pc' L (v :: w :: v :: w :: st) mu) : WA X g own nL cc pc L (v :: w :: st) mu := by
  subst hn
  intro F H locs ls hP hS hl
  exact lv_dup2_11 F.1 F.2.1 hd (cat1 hc) (cat1 hc2) (k F H locs ls hP hS hl)
theorem o_iload {i : Nat} {x : Int32} (hd : decode cc pc = .ok (.iload i, 2)) (hn : pc + 2 = pc') (hg : getL i L = some (vI x)) (k : WA X g own nL cc pc' L (vI x :: st) mu) : WA X g own nL cc pc L st mu := by
  subst hn
  intro F H locs ls hP hS hl
  exact lv_iload F.1 F.2.1 hd (lv_get hl hg) (k F H locs ls hP hS hl)
theorem o_iload_n {i : Nat} {x : Int32} {kk : Fin 4} (hd : decode cc pc = .ok (.iload_n kk, 1)) (hn : pc + 1 = pc') (hi : (kk : Nat) = i) (hg : getL i L = some (vI x)) (k : WA X g own nL cc pc' L (vI x :: st) mu) : WA X g own nL cc pc L st mu := by
  subst hn
  intro F H locs ls hP hS hl
  exact lv_iload_n F.1 F.2.1 hd hi (lv_get hl hg) (k F H locs ls hP hS hl)
theorem o_lload {i : Nat} {x : Int64} (hd : decode cc pc = .ok (.lload i, 2)) (hn : pc + 2 = pc') (hg : getL i L = some (vJ x)) (k : WA X g own nL cc pc' L (vJ x :: st) mu) : WA X g own nL cc pc L st mu := by
  subst hn
  intro F H locs ls hP hS hl
  exact lv_lload F.1 F.2.1 hd (lv_get hl hg) (k F H locs ls hP hS hl)
theorem o_lload_n {i : Nat} {x : Int64} {kk : Fin 4} (hd : decode cc pc = .ok (.lload_n kk, 1)) (hn : pc + 1 = pc') (hi : (kk : Nat) = i) (hg : getL i L = some (vJ x)) (k : WA X g own nL cc pc' L (vJ x :: st) mu) : WA X g own nL cc pc L st mu := by
  subst hn
  intro F H locs ls hP hS hl
  exact lv_lload_n F.1 F.2.1 hd hi (lv_get hl hg) (k F H locs ls hP hS hl)
theorem o_aload {i : Nat} {x : Nat} (hd : decode cc pc = .ok (.aload i, 2)) (hn : pc + 2 = pc') (hg : getL i L = some (vC x)) (k : WA X g own nL cc pc' L (vC x :: st) mu) : WA X g own nL cc pc L st mu := by
  subst hn
  intro F H locs ls hP hS hl
  exact lv_aload F.1 F.2.1 hd (lv_get hl hg) (k F H locs ls hP hS hl)
theorem o_aload_n {i : Nat} {x : Nat} {kk : Fin 4} (hd : decode cc pc = .ok (.aload_n kk, 1)) (hn : pc + 1 = pc') (hi : (kk : Nat) = i) (hg : getL i L = some (vC x)) (k : WA X g own nL cc pc' L (vC x :: st) mu) : WA X g own nL cc pc L st mu := by
  subst hn
  intro F H locs ls hP hS hl
  exact lv_aload_n F.1 F.2.1 hd hi (lv_get hl hg) (k F H locs ls hP hS hl)
theorem o_aloadR {i : Nat} {x : Nat} (hd : decode cc pc = .ok (.aload i, 2)) (hn : pc + 2 = pc') (hg : getL i L = some (vR x)) (k : WA X g own nL cc pc' L (vR x :: st) mu) : WA X g own nL cc pc L st mu := by
  subst hn
  intro F H locs ls hP hS hl
  exact lv_aload F.1 F.2.1 hd (lv_get hl hg) (k F H locs ls hP hS hl)
theorem o_aload_nR {i : Nat} {x : Nat} {kk : Fin 4} (hd : decode cc pc = .ok (.aload_n kk, 1)) (hn : pc + 1 = pc') (hi : (kk : Nat) = i) (hg : getL i L = some (vR x)) (k : WA X g own nL cc pc' L (vR x :: st) mu) : WA X g own nL cc pc L st mu := by
  subst hn
  intro F H locs ls hP hS hl
  exact lv_aload_n F.1 F.2.1 hd hi (lv_get hl hg) (k F H locs ls hP hS hl)
theorem o_istore {i : Nat} {x : Int32} (hd : decode cc pc = .ok (.istore i, 2)) (hn : pc + 2 = pc') (hi2 : i < nL) (hc : cleanL i L = true) (hL : stL i (vI x) L = L') (k : WA X g own nL cc pc' L' st mu) : WA X g own nL cc pc L (vI x :: st) mu := by
  subst hn
  subst hL
  intro F H locs ls hP hS hl
  exact lv_istore F.1 F.2.1 hd hl hi2 rfl (fun ls2 hl2 => k F H locs ls2 hP hS (lv_stL (v := vI x) hc hl2))
theorem o_istore_n {i : Nat} {x : Int32} {kk : Fin 4} (hd : decode cc pc = .ok (.istore_n kk, 1)) (hn : pc + 1 = pc') (hi : (kk : Nat) = i) (hi2 : i < nL) (hc : cleanL i L = true) (hL : stL i (vI x) L = L') (k : WA X g own nL cc pc' L' st mu) : WA X g own nL cc pc L (vI x :: st) mu := by
  subst hn
  subst hL
  intro F H locs ls hP hS hl
  exact lv_istore_n F.1 F.2.1 hd hi hl hi2 rfl (fun ls2 hl2 => k F H locs ls2 hP hS (lv_stL (v := vI x) hc hl2))
theorem o_astore {i : Nat} {x : Nat} (hd : decode cc pc = .ok (.astore i, 2)) (hn : pc + 2 = pc') (hi2 : i < nL) (hc : cleanL i L = true) (hL : stL i (vC x) L = L') (k : WA X g own nL cc pc' L' st mu) : WA X g own nL cc pc L (vC x :: st) mu := by
  subst hn
  subst hL
  intro F H locs ls hP hS hl
  exact lv_astore F.1 F.2.1 hd hl hi2 rfl (fun ls2 hl2 => k F H locs ls2 hP hS (lv_stL (v := vC x) hc hl2))
theorem o_astore_n {i : Nat} {x : Nat} {kk : Fin 4} (hd : decode cc pc = .ok (.astore_n kk, 1)) (hn : pc + 1 = pc') (hi : (kk : Nat) = i) (hi2 : i < nL) (hc : cleanL i L = true) (hL : stL i (vC x) L = L') (k : WA X g own nL cc pc' L' st mu) : WA X g own nL cc pc L (vC x :: st) mu := by
  subst hn
  subst hL
  intro F H locs ls hP hS hl
  exact lv_astore_n F.1 F.2.1 hd hi hl hi2 rfl (fun ls2 hl2 => k F H locs ls2 hP hS (lv_stL (v := vC x) hc hl2))
theorem o_iinc {i : Nat} {n : Int} {x v : Int32} (hd : decode cc pc = .ok (.iinc i n, 3)) (hn : pc + 3 = pc') (hg : getL i L = some (vI x)) (hv : x + Int32.ofInt n = v) (hi2 : i < nL) (hc : cleanL i L = true) (hL : stL i (vI v) L = L') (k : WA X g own nL cc pc' L' st mu) : WA X g own nL cc pc L st mu := by
  subst hn
  subst hL
  intro F H locs ls hP hS hl
  obtain ⟨kq, hkq⟩ := List.getElem?_of_mem (List.mem_map.mpr ⟨(i, vI x), getL_mem hg, rfl⟩ : (i, cv (gh g) (vI x)) ∈ mpL (gh g) L)
  exact lv_iinc F.1 F.2.1 hd hl (k := kq) hkq hv hi2 rfl (fun ls2 hl2 => k F H locs ls2 hP hS (lv_stL (v := vI v) hc hl2))
theorem o_goto {off : Int} {tgt : Nat} (hd : decode cc pc = .ok (.goto off, 3)) (ht : (pc : Int) + off = (tgt : Int)) (k : WA X g own nL cc tgt L st mu) : WA X g own nL cc pc L st mu := by
  intro F H locs ls hP hS hl
  exact lv_goto F.1 F.2.1 hd ht (k F H locs ls hP hS hl)
theorem o_if_eq {a : Int32} {off : Int} {tgt : Nat} (hd : decode cc pc = .ok (.ifCond .eq off, 3)) (ht : (pc : Int) + off = (tgt : Int)) (hn : pc + 3 = pc') (kt : a = 0 → WA X g own nL cc tgt L st mu) (kf : ¬ a = 0 → WA X g own nL cc pc' L st mu) : WA X g own nL cc pc L (vI a :: st) mu := by
  subst hn
  intro F H locs ls hP hS hl
  exact lv_if_eq F.1 F.2.1 hd ht (fun q => kt q F H locs ls hP hS hl) (fun q => kf q F H locs ls hP hS hl)
theorem o_icmp_eq {a b : Int32} {off : Int} {tgt : Nat} (hd : decode cc pc = .ok (.if_icmp .eq off, 3)) (ht : (pc : Int) + off = (tgt : Int)) (hn : pc + 3 = pc') (kt : a = b → WA X g own nL cc tgt L st mu) (kf : ¬ a = b → WA X g own nL cc pc' L st mu) : WA X g own nL cc pc L (vI b :: vI a :: st) mu := by
  subst hn
  intro F H locs ls hP hS hl
  exact lv_icmp_eq F.1 F.2.1 hd ht (fun q => kt q F H locs ls hP hS hl) (fun q => kf q F H locs ls hP hS hl)
theorem o_if_ne {a : Int32} {off : Int} {tgt : Nat} (hd : decode cc pc = .ok (.ifCond .ne off, 3)) (ht : (pc : Int) + off = (tgt : Int)) (hn : pc + 3 = pc') (kt : ¬ a = 0 → WA X g own nL cc tgt L st mu) (kf : a = 0 → WA X g own nL cc pc' L st mu) : WA X g own nL cc pc L (vI a :: st) mu := by
  subst hn
  intro F H locs ls hP hS hl
  exact lv_if_ne F.1 F.2.1 hd ht (fun q => kt q F H locs ls hP hS hl) (fun q => kf q F H locs ls hP hS hl)
theorem o_icmp_ne {a b : Int32} {off : Int} {tgt : Nat} (hd : decode cc pc = .ok (.if_icmp .ne off, 3)) (ht : (pc : Int) + off = (tgt : Int)) (hn : pc + 3 = pc') (kt : ¬ a = b → WA X g own nL cc tgt L st mu) (kf : a = b → WA X g own nL cc pc' L st mu) : WA X g own nL cc pc L (vI b :: vI a :: st) mu := by
  subst hn
  intro F H locs ls hP hS hl
  exact lv_icmp_ne F.1 F.2.1 hd ht (fun q => kt q F H locs ls hP hS hl) (fun q => kf q F H locs ls hP hS hl)
theorem o_if_lt {a : Int32} {off : Int} {tgt : Nat} (hd : decode cc pc = .ok (.ifCond .lt off, 3)) (ht : (pc : Int) + off = (tgt : Int)) (hn : pc + 3 = pc') (kt : a < 0 → WA X g own nL cc tgt L st mu) (kf : ¬ a < 0 → WA X g own nL cc pc' L st mu) : WA X g own nL cc pc L (vI a :: st) mu := by
  subst hn
  intro F H locs ls hP hS hl
  exact lv_if_lt F.1 F.2.1 hd ht (fun q => kt q F H locs ls hP hS hl) (fun q => kf q F H locs ls hP hS hl)
theorem o_icmp_lt {a b : Int32} {off : Int} {tgt : Nat} (hd : decode cc pc = .ok (.if_icmp .lt off, 3)) (ht : (pc : Int) + off = (tgt : Int)) (hn : pc + 3 = pc') (kt : a < b → WA X g own nL cc tgt L st mu) (kf : ¬ a < b → WA X g own nL cc pc' L st mu) : WA X g own nL cc pc L (vI b :: vI a :: st) mu := by
  subst hn
  intro F H locs ls hP hS hl
  exact lv_icmp_lt F.1 F.2.1 hd ht (fun q => kt q F H locs ls hP hS hl) (fun q => kf q F H locs ls hP hS hl)
theorem o_if_ge {a : Int32} {off : Int} {tgt : Nat} (hd : decode cc pc = .ok (.ifCond .ge off, 3)) (ht : (pc : Int) + off = (tgt : Int)) (hn : pc + 3 = pc') (kt : 0 ≤ a → WA X g own nL cc tgt L st mu) (kf : ¬ 0 ≤ a → WA X g own nL cc pc' L st mu) : WA X g own nL cc pc L (vI a :: st) mu := by
  subst hn
  intro F H locs ls hP hS hl
  exact lv_if_ge F.1 F.2.1 hd ht (fun q => kt q F H locs ls hP hS hl) (fun q => kf q F H locs ls hP hS hl)
theorem o_icmp_ge {a b : Int32} {off : Int} {tgt : Nat} (hd : decode cc pc = .ok (.if_icmp .ge off, 3)) (ht : (pc : Int) + off = (tgt : Int)) (hn : pc + 3 = pc') (kt : b ≤ a → WA X g own nL cc tgt L st mu) (kf : ¬ b ≤ a → WA X g own nL cc pc' L st mu) : WA X g own nL cc pc L (vI b :: vI a :: st) mu := by
  subst hn
  intro F H locs ls hP hS hl
  exact lv_icmp_ge F.1 F.2.1 hd ht (fun q => kt q F H locs ls hP hS hl) (fun q => kf q F H locs ls hP hS hl)
theorem o_if_gt {a : Int32} {off : Int} {tgt : Nat} (hd : decode cc pc = .ok (.ifCond .gt off, 3)) (ht : (pc : Int) + off = (tgt : Int)) (hn : pc + 3 = pc') (kt : 0 < a → WA X g own nL cc tgt L st mu) (kf : ¬ 0 < a → WA X g own nL cc pc' L st mu) : WA X g own nL cc pc L (vI a :: st) mu := by
  subst hn
  intro F H locs ls hP hS hl
  exact lv_if_gt F.1 F.2.1 hd ht (fun q => kt q F H locs ls hP hS hl) (fun q => kf q F H locs ls hP hS hl)
theorem o_icmp_gt {a b : Int32} {off : Int} {tgt : Nat} (hd : decode cc pc = .ok (.if_icmp .gt off, 3)) (ht : (pc : Int) + off = (tgt : Int)) (hn : pc + 3 = pc') (kt : b < a → WA X g own nL cc tgt L st mu) (kf : ¬ b < a → WA X g own nL cc pc' L st mu) : WA X g own nL cc pc L (vI b :: vI a :: st) mu := by
  subst hn
  intro F H locs ls hP hS hl
  exact lv_icmp_gt F.1 F.2.1 hd ht (fun q => kt q F H locs ls hP hS hl) (fun q => kf q F H locs ls hP hS hl)
theorem o_if_le {a : Int32} {off : Int} {tgt : Nat} (hd : decode cc pc = .ok (.ifCond .le off, 3)) (ht : (pc : Int) + off = (tgt : Int)) (hn : pc + 3 = pc') (kt : a ≤ 0 → WA X g own nL cc tgt L st mu) (kf : ¬ a ≤ 0 → WA X g own nL cc pc' L st mu) : WA X g own nL cc pc L (vI a :: st) mu := by
  subst hn
  intro F H locs ls hP hS hl
  exact lv_if_le F.1 F.2.1 hd ht (fun q => kt q F H locs ls hP hS hl) (fun q => kf q F H locs ls hP hS hl)
theorem o_icmp_le {a b : Int32} {off : Int} {tgt : Nat} (hd : decode cc pc = .ok (.if_icmp .le off, 3)) (ht : (pc : Int) + off = (tgt : Int)) (hn : pc + 3 = pc') (kt : a ≤ b → WA X g own nL cc tgt L st mu) (kf : ¬ a ≤ b → WA X g own nL cc pc' L st mu) : WA X g own nL cc pc L (vI b :: vI a :: st) mu := by
  subst hn
  intro F H locs ls hP hS hl
  exact lv_icmp_le F.1 F.2.1 hd ht (fun q => kt q F H locs ls hP hS hl) (fun q => kf q F H locs ls hP hS hl)
theorem o_tableIn {dflt lo hi : Int} {offs : Array Int} {len : Nat} {x : Int32} {off : Int} {tgt : Nat} (hd : decode cc pc = .ok (.tableswitch dflt lo hi offs, len)) (h1 : ¬ x.toInt < lo) (h2 : ¬ hi < x.toInt) (ho : offs[(x.toInt - lo).toNat]? = some off) (ht : (pc : Int) + off = (tgt : Int)) (k : WA X g own nL cc tgt L st mu) : WA X g own nL cc pc L (vI x :: st) mu := by
  intro F H locs ls hP hS hl
  exact lv_tableIn F.1 F.2.1 hd h1 h2 ho ht (k F H locs ls hP hS hl)
theorem o_tableOut {dflt lo hi : Int} {offs : Array Int} {len : Nat} {x : Int32} {tgt : Nat} (hd : decode cc pc = .ok (.tableswitch dflt lo hi offs, len)) (h : x.toInt < lo ∨ hi < x.toInt) (ht : (pc : Int) + dflt = (tgt : Int)) (k : WA X g own nL cc tgt L st mu) : WA X g own nL cc pc L (vI x :: st) mu := by
  intro F H locs ls hP hS hl
  exact lv_tableOut F.1 F.2.1 hd h ht (k F H locs ls hP hS hl)
theorem o_lookup {dflt : Int} {ps : Array (Int × Int)} {len : Nat} {x : Int32} {off : Int} {tgt : Nat} (hd : decode cc pc = .ok (.lookupswitch dflt ps, len)) (hp : (ps.toList.zip (ps.toList.drop 1)).all (fun (a, next) => a.1 < next.1) = true) (ho : Op.lookupswitch.offset ps.toList dflt x.toInt = off) (ht : (pc : Int) + off = (tgt : Int)) (k : WA X g own nL cc tgt L st mu) : WA X g own nL cc pc L (vI x :: st) mu := by
  intro F H locs ls hP hS hl
  exact lv_lookup F.1 F.2.1 hd hp ho ht (k F H locs ls hP hS hl)
/-! ===== fields ===== -/
theorem wd_ob {k ci : Nat} {fs : List (Option Nat)} (hk : k < NC) (hs : sh k = .inl (ci, fs)) : (wd (gh g) (gc g) mu)[k]? = some (gh g k, .inr (ci, mkF (gh g) (mu k) 0 fs)) := by
  rw [wd_at hk, hs]
  rfl
/-- what a class and a link of it need -/
def CLk (own C : String) (T : u_T) (N ci i ix : Nat) (nest : Bool) : Prop :=
  vwCl[ci]? = some (C, T, N) ∧ (∀ w ∈ u_ws C T N, w ∈ tb0) ∧ i < N ∧ (T i).1 = C ∧ (nest = false → Cond.fieldLink own ix C (T i).2.1 (T i).2.2.1 ∈ tb0) ∧ (nest = true → ∃ host, Cond.fieldLinkNest own ix C (T i).2.1 (T i).2.2.1 host ∈ nw0)
theorem o_getI {C : String} {T : u_T} {N ci i ix k : Nat} {fs : List (Option Nat)} {nest : Bool} (cl : CLk own C T N ci i ix nest) (hd : decode cc pc = .ok (.getfield ix, 3)) (hn : pc + 3 = pc') (hk : k < NC) (hs : sh k = .inl (ci, fs)) (hi : fs[i]? = some none) (kk : WA X g own nL cc pc' L (vI (mu k i) :: st) mu) : WA X g own nL cc pc L (vC k :: st) mu := by
  subst hn
  intro F H locs ls hP hS hl
  obtain ⟨c1, c2, c3, c4, c5, c6⟩ := cl
  obtain ⟨hx, hb, hml, hown, hts, hnw, hK, hDD, hA, hSF⟩ := id F
  have hv : (mkF (gh g) (mu k) 0 fs)[i]? = some (.int (mu k i)) := by
    have := mkF_int (h := gh g) (f := mu k) fs 0 i hi
    rw [Nat.zero_add] at this
    exact this
  cases nest with
  | false => exact va_get (D := gD g) (ci := ci) (C := C) (T := T) (N := N) hx hb hts c2 hown hK hP k (wd_ob hk hs) c1 i c3 (hts _ (c5 rfl)) (fun _ h9 => by rw [c4] at h9; exact h9) hv hd (kk F H locs ls hP hS hl)
  | true =>
    obtain ⟨host, hh⟩ := c6 rfl
    exact va_getN (D := gD g) (ci := ci) (C := C) (T := T) (N := N) hx hb hts c2 hown hK hP k (wd_ob hk hs) c1 i c3 (va_Nw.use (nest_on rfl) (hnw _ hh)) (fun _ h9 => by rw [c4] at h9; exact h9) hv hd (kk F H locs ls hP hS hl)
theorem o_getC {C : String} {T : u_T} {N ci i ix k q : Nat} {fs : List (Option Nat)} {nest : Bool} (cl : CLk own C T N ci i ix nest) (hd : decode cc pc = .ok (.getfield ix, 3)) (hn : pc + 3 = pc') (hk : k < NC) (hs : sh k = .inl (ci, fs)) (hi : fs[i]? = some (some q)) (kk : WA X g own nL cc pc' L (vC q :: st) mu) : WA X g own nL cc pc L (vC k :: st) mu := by
  subst hn
  intro F H locs ls hP hS hl
  obtain ⟨c1, c2, c3, c4, c5, c6⟩ := cl
  obtain ⟨hx, hb, hml, hown, hts, hnw, hK, hDD, hA, hSF⟩ := id F
  have hv : (mkF (gh g) (mu k) 0 fs)[i]? = some (.ref (gh g q)) := mkF_ref (h := gh g) (f := mu k) fs 0 i hi
  cases nest with
  | false => exact va_get (D := gD g) (ci := ci) (C := C) (T := T) (N := N) hx hb hts c2 hown hK hP k (wd_ob hk hs) c1 i c3 (hts _ (c5 rfl)) (fun _ h9 => by rw [c4] at h9; exact h9) hv hd (kk F H locs ls hP hS hl)
  | true =>
    obtain ⟨host, hh⟩ := c6 rfl
    exact va_getN (D := gD g) (ci := ci) (C := C) (T := T) (N := N) hx hb hts c2 hown hK hP k (wd_ob hk hs) c1 i c3 (va_Nw.use (nest_on rfl) (hnw _ hh)) (fun _ h9 => by rw [c4] at h9; exact h9) hv hd (kk F H locs ls hP hS hl)
def upF (mu : Mu) (k i : Nat) (v : Int32) : Mu := upM mu k (upd (mu k) i v)
/-- what a store into a field needs beside -/
def CLp (T : u_T) (ty0 : Nat → FieldType) (N i : Nat) (ty : FieldType) : Prop :=
  (∀ k, k < N → parseFieldDescriptor (T k).2.2.1 = some (ty0 k)) ∧ (∀ a, a < N → ∀ b, b < N → a ≠ b → (T a).2.1 ≠ (T b).2.1) ∧ (T i).2.2.2 = false ∧ parseFieldDescriptor (T i).2.2.1 = some ty
theorem o_put {C : String} {T : u_T} {ty0 : Nat → FieldType} {ty : FieldType} {N ci i ix k : Nat} {fs : List (Option Nat)} {v : Int32} (cl : CLk own C T N ci i ix false) (cp : CLp T ty0 N i ty) (hd : decode cc pc = .ok (.putfield ix, 3)) (hn : pc + 3 = pc') (hk : k < NC) (hs : sh k = .inl (ci, fs)) (hi : fs[i]? = some none) (hfit : narrow ty (.int v) = .int v ∧ fits ty (.int v) = true) (kk : WA X g own nL cc pc' L st (upF mu k i v)) : WA X g own nL cc pc L (vI v :: vC k :: st) mu := by
  subst hn
  intro F H locs ls hP hS hl
  obtain ⟨c1, c2, c3, c4, c5, c6⟩ := cl
  obtain ⟨p1, p2, p3, p4⟩ := cp
  obtain ⟨hx, hb, hml, hown, hts, hnw, hK, hDD, hA, hSF⟩ := id F
  have he : (wd (gh g) (gc g) mu).set k (gh g k, .inr (ci, (mkF (gh g) (mu k) 0 fs).set i (.int v))) = wd (gh g) (gc g) (upF mu k i v) := by
    rw [mkF_set fs 0 i hi, Nat.zero_add]
    have := wd_set (h := gh g) (cA := gc g) (mu := mu) hk (upd (mu k) i v)
    rw [hs] at this
    exact this
  refine va_put (D := gD g) (ci := ci) (v := .int v) (ty := ty) (C := C) (T := T) (N := N) hx hb hts c2 ty0 p1 p2 hown hK hP (wd_D hDD mu) hS k (wd_ob hk hs) c1 i c3 (hts _ (c5 rfl)) (fun _ h9 => by rw [c4] at h9; exact h9) p3 p4 hfit.1 hfit.2 (by rw [mkF_len]; exact (List.getElem?_eq_some_iff.mp hi).1) hd (fun H1 locs1 hP1 hD1 hS1 => ?_)
  rw [he] at hP1
  exact kk F H1 locs1 ls hP1 hS1 hl
theorem fitI {v : Int32} : narrow .int (.int v) = .int v ∧ fits .int (.int v) = true := ⟨rfl, rfl⟩
theorem fitZ {v : Int32} (h : v = 0 ∨ v = 1) : narrow .boolean (.int v) = .int v ∧ fits .boolean (.int v) = true := by
  rcases h with rfl | rfl <;> exact ⟨by decide, by decide⟩
/-! ===== rows of numbers ===== -/
theorem wd_ar {k n : Nat} (hk : k < NC) (hs : sh k = .inr (.inl n)) : (wd (gh g) (gc g) mu)[k]? = some (gh g k, .inl (gc g k, n, .inl (mu k))) := by
  rw [wd_at hk, hs]
  rfl
theorem o_iald {k n : Nat} {i : Int32} (hd : decode cc pc = .ok (.iaload, 1)) (hn : pc + 1 = pc') (hk : k < NC) (hs : sh k = .inr (.inl n)) (ht : aty k = .int) (hin : vp_in i n) (kk : WA X g own nL cc pc' L (vI (mu k i.toNatClampNeg) :: st) mu) : WA X g own nL cc pc L (vI i :: vC k :: st) mu := by
  subst hn
  intro F H locs ls hP hS hl
  obtain ⟨hx, hb, hml, hown, hts, hnw, hK, hDD, hA, hSF⟩ := id F
  exact va_iald hx hb hK hP k k (wd_ar hk hs) (by rw [tyz_at hk, ht]) hin hd (kk F H locs ls hP hS hl)
theorem wd_arset {k n : Nat} (hk : k < NC) (hs : sh k = .inr (.inl n)) (f : Nat → Int32) : (wd (gh g) (gc g) mu).set k (gh g k, .inl (gc g k, n, .inl f)) = wd (gh g) (gc g) (upM mu k f) := by
  have := wd_set (h := gh g) (cA := gc g) (mu := mu) hk f
  rw [hs] at this
  exact this
theorem o_iast {k n : Nat} {i x : Int32} (hd : decode cc pc = .ok (.iastore, 1)) (hn : pc + 1 = pc') (hk : k < NC) (hs : sh k = .inr (.inl n)) (ht : aty k = .int) (hin : vp_in i n) (kk : WA X g own nL cc pc' L st (upF mu k i.toNatClampNeg x)) : WA X g own nL cc pc L (vI x :: vI i :: vC k :: st) mu := by
  subst hn
  intro F H locs ls hP hS hl
  obtain ⟨hx, hb, hml, hown, hts, hnw, hK, hDD, hA, hSF⟩ := id F
  refine va_iast hx hb hK hP (wd_D hDD mu) hS k k (wd_ar hk hs) (by rw [tyz_at hk, ht]) hin hd (fun H1 locs1 hP1 hD1 hS1 => ?_)
  rw [wd_arset hk hs] at hP1
  exact kk F H1 locs1 ls hP1 hS1 hl
theorem o_zald {k n : Nat} {i : Int32} (hd : decode cc pc = .ok (.baload, 1)) (hn : pc + 1 = pc') (hk : k < NC) (hs : sh k = .inr (.inl n)) (ht : aty k = .boolean) (hin : vp_in i n) (kk : WA X g own nL cc pc' L (vI (mu k i.toNatClampNeg) :: st) mu) : WA X g own nL cc pc L (vI i :: vC k :: st) mu := by
  subst hn
  intro F H locs ls hP hS hl
  obtain ⟨hx, hb, hml, hown, hts, hnw, hK, hDD, hA, hSF⟩ := id F
  exact va_zald hx hb hK hP k k (wd_ar hk hs) (by rw [tyz_at hk, ht]) hin hd (kk F H locs ls hP hS hl)
theorem narZ {x : Int32} (h : x = 0 ∨ x = 1) : vp_nar .boolean x = x := by
  rcases h with rfl | rfl <;> rfl
theorem o_zast {k n : Nat} {i x : Int32} (hd : decode cc pc = .ok (.bastore, 1)) (hn : pc + 1 = pc') (hk : k < NC) (hs : sh k = .inr (.inl n)) (ht : aty k = .boolean) (hin : vp_in i n) (hx1 : x = 0 ∨ x = 1) (kk : WA X g own nL cc pc' L st (upF mu k i.toNatClampNeg x)) : WA X g own nL cc pc L (vI x :: vI i :: vC k :: st) mu := by
  subst hn
  intro F H locs ls hP hS hl
  obtain ⟨hx, hb, hml, hown, hts, hnw, hK, hDD, hA, hSF⟩ := id F
  refine va_zast hx hb hK hP (wd_D hDD mu) hS k k (wd_ar hk hs) (by rw [tyz_at hk, ht]) hin hd (fun H1 locs1 hP1 hD1 hS1 => ?_)
  rw [wd_arset hk hs, narZ hx1] at hP1
  exact kk F H1 locs1 ls hP1 hS1 hl
theorem o_alen {k n : Nat} {v : Int32} (hd : decode cc pc = .ok (.arraylength, 1)) (hn : pc + 1 = pc') (hk : k < NC) (hs : sh k = .inr (.inl n)) (hv : Int32.ofNat n = v) (kk : WA X g own nL cc pc' L (vI v :: st) mu) : WA X g own nL cc pc L (vC k :: st) mu := by
  subst hn
  intro F H locs ls hP hS hl
  obtain ⟨hx, hb, hml, hown, hts, hnw, hK, hDD, hA, hSF⟩ := id F
  exact va_alen hx hb hK hP k k (wd_ar hk hs) (tyz_at hk) hv hd (kk F H locs ls hP hS hl)
theorem wd_qr {k n b : Nat} (hk : k < NC) (hs : sh k = .inr (.inr (n, b))) : (wd (gh g) (gc g) mu)[k]? = some (gh g k, .inl (gc g k, n, .inr (.inr (.inr (.inr (fun i => if i < n then some (gh g (b + i)) else none)))))) := by
  rw [wd_at hk, hs]
  rfl
theorem o_alenQ {k n b : Nat} {v : Int32} (hd : decode cc pc = .ok (.arraylength, 1)) (hn : pc + 1 = pc') (hk : k < NC) (hs : sh k = .inr (.inr (n, b))) (hv : Int32.ofNat n = v) (kk : WA X g own nL cc pc' L (vI v :: st) mu) : WA X g own nL cc pc L (vC k :: st) mu := by
  subst hn
  intro F H locs ls hP hS hl
  obtain ⟨hx, hb, hml, hown, hts, hnw, hK, hDD, hA, hSF⟩ := id F
  exact va_alen hx hb hK hP k k (wd_qr hk hs) (tyz_at hk) hv hd (kk F H locs ls hP hS hl)
theorem o_aald {k n b : Nat} {i : Int32} (hd : decode cc pc = .ok (.aaload, 1)) (hn : pc + 1 = pc') (hk : k < NC) (hs : sh k = .inr (.inr (n, b))) (ht : aty k = .array .int) (hin : vp_in i n) (kk : WA X g own nL cc pc' L (vC (b + i.toNatClampNeg) :: st) mu) : WA X g own nL cc pc L (vI i :: vC k :: st) mu := by
  subst hn
  intro F H locs ls hP hS hl
  obtain ⟨hx, hb, hml, hown, hts, hnw, hK, hDD, hA, hSF⟩ := id F
  have hlt : i.toNatClampNeg < n := Nat.not_le.mp fun q => hin (Or.inr q)
  have ht2 : (tyz (gc g))[k]? = some (gc g k, .array .int) := by rw [tyz_at hk, ht]
  refine W.aald (v := .ref (gh g (b + i.toNatClampNeg))) (ty := .array .int) hx hb (hP k _ (wd_qr hk hs)) ((hK.2 k _ ht2).1 n (fun j => va_rf (if j < n then some (gh g (b + j)) else none))) rfl (fun q => by cases q) (by show ¬ (i < 0 ∨ (arrV _ _ _).slots.size ≤ _); rw [arrV_size]; exact hin) ?_ rfl rfl hd (kk F H locs ls hP hS hl)
  show (arrV _ _ _).slots[_]? = _
  rw [arrV_read _ _ hlt]
  dsimp only
  rw [if_pos hlt]
  rfl
/-! ===== the static rows ===== -/
theorem o_gets0 {ix : Nat} (hd : decode cc pc = .ok (.getstatic ix, 3)) (hn : pc + 3 = pc') (hc : Cond.fieldLink own ix "BallInCup" "LEAST_SETTINGS" "[I" ∈ tb0) (kk : WA X g own nL cc pc' L (vR (gt0 g) :: st) mu) : WA X g own nL cc pc L st mu := by
  subst hn
  intro F H locs ls hP hS hl
  obtain ⟨hx, hb, hml, hown, hts, hnw, hK, hDD, hA, hSF⟩ := id F
  exact va_gets hx hb hSF.1 hS hown (hts _ hc) (fun _ h9 => h9) hd (kk F H locs ls hP hS hl)
theorem o_gets1 {ix : Nat} (hd : decode cc pc = .ok (.getstatic ix, 3)) (hn : pc + 3 = pc') (hc : Cond.fieldLink own ix "BallInCup" "MOST_SETTINGS" "[I" ∈ tb0) (kk : WA X g own nL cc pc' L (vR (gt1 g) :: st) mu) : WA X g own nL cc pc L st mu := by
  subst hn
  intro F H locs ls hP hS hl
  obtain ⟨hx, hb, hml, hown, hts, hnw, hK, hDD, hA, hSF⟩ := id F
  exact va_gets hx hb hSF.2.2.1 hS hown (hts _ hc) (fun _ h9 => h9) hd (kk F H locs ls hP hS hl)
theorem o_ti0 {i : Int32} (hd : decode cc pc = .ok (.iaload, 1)) (hn : pc + 1 = pc') (hin : vp_in i 3) (kk : WA X g own nL cc pc' L (vI (leastS i.toNatClampNeg) :: st) mu) : WA X g own nL cc pc L (vI i :: vR (gt0 g) :: st) mu := by
  subst hn
  intro F H locs ls hP hS hl
  obtain ⟨hx, hb, hml, hown, hts, hnw, hK, hDD, hA, hSF⟩ := id F
  exact va_ti hx hb hSF.2.1 hS hin rfl hd (kk F H locs ls hP hS hl)
theorem o_ti1 {i : Int32} (hd : decode cc pc = .ok (.iaload, 1)) (hn : pc + 1 = pc') (hin : vp_in i 3) (kk : WA X g own nL cc pc' L (vI (mostS i.toNatClampNeg) :: st) mu) : WA X g own nL cc pc L (vI i :: vR (gt1 g) :: st) mu := by
  subst hn
  intro F H locs ls hP hS hl
  obtain ⟨hx, hb, hml, hown, hts, hnw, hK, hDD, hA, hSF⟩ := id F
  exact va_ti hx hb hSF.2.2.2 hS hin rfl hd (kk F H locs ls hP hS hl)
/-! ===== returns, room ===== -/
def RM (X : CX) (d : Nat) : Prop := d ≤ (xR X).frames ∧ 40 * d ≤ (xR X).locals ∧ xk X ≤ (xR X).cells ∧ xn X ≤ (xR X).slots
def RI (X : CX) (g : GX) (d : Nat) (ty : FieldType) (Ret : Int32 → Mu → Prop) : Prop :=
  (xQ X = MQ (xb X) (va_Qi Ret (fun mu t => va_P (gD g) vwCl (wd (gh g) (gc g) mu) t.heap) (gA g)) (xa X) (xs X) (xk X) (xn X) (gA g)) ∧ (xh X).sig.returnType = some ty ∧ (xh X).locks = false ∧ RM X d
def RV (X : CX) (g : GX) (d : Nat) (Ret : Mu → Prop) : Prop :=
  (xQ X = MQ (xb X) (va_Qv Ret (fun mu t => va_P (gD g) vwCl (wd (gh g) (gc g) mu) t.heap) (gA g)) (xa X) (xs X) (xk X) (xn X) (gA g)) ∧ (xh X).sig.returnType = none ∧ (xh X).locks = false ∧ RM X d
theorem o_iret {d : Nat} {Ret : Int32 → Mu → Prop} {v : Int32} (hq : RI X g d .int Ret) (hd : decode cc pc = .ok (.ireturn, 1)) (hr : Ret v mu) : WA X g own nL cc pc L [vI v] mu := by
  intro F H locs ls hP hS hl
  rw [hq.1]
  exact W.iret (v := v) F.1 F.2.1 hq.2.1 (fun t ht hW => ⟨⟨v, mu, rfl, hr, by show va_P _ _ _ t.heap; rw [ht]; exact hP⟩, hS.F ht⟩) hS.2.2 hd hq.2.2.1
theorem o_zret {d : Nat} {Ret : Int32 → Mu → Prop} {v : Int32} (hq : RI X g d .boolean Ret) (hd : decode cc pc = .ok (.ireturn, 1)) (hv : v = 0 ∨ v = 1) (hr : Ret v mu) : WA X g own nL cc pc L [vI v] mu := by
  intro F H locs ls hP hS hl
  rw [hq.1]
  exact W.zret (v := v) F.1 F.2.1 hq.2.1 (fitZ hv).1 (fun t ht hW => ⟨⟨v, mu, rfl, hr, by show va_P _ _ _ t.heap; rw [ht]; exact hP⟩, hS.F ht⟩) hS.2.2 hd hq.2.2.1
theorem o_vret {d : Nat} {Ret : Mu → Prop} (hq : RV X g d Ret) (hd : decode cc pc = .ok (.return_, 1)) (hr : Ret mu) : WA X g own nL cc pc L [] mu := by
  intro F H locs ls hP hS hl
  rw [hq.1]
  exact W.vret F.1 F.2.1 hq.2.1 (fun t ht hW => ⟨⟨mu, rfl, hr, by show va_P _ _ _ t.heap; rw [ht]; exact hP⟩, hS.F ht⟩) hS.2.2 hd hq.2.2.1
/-! ===== Math ===== -/
def MTH (own : String) (ix : Nat) (y : MethodName) (yc : ByteArray) (n : Nat) : Prop := Cond.methodLink own ix y ∈ tb0 ∧ Cond.static y ∈ tb0 ∧ Cond.initialized "java/lang/Math" ∈ tb0 ∧ Cond.code y yc n (some .int) ∈ tb0
def wds (st : List AV) : Nat := (st.map (fun v => if cat2 v then 2 else 1)).sum
theorem wds_eq {h : Nat → Nat} : ∀ {st : List AV}, ((st.map (cv h)).map fun v => v.category).sum = wds st
  | [] => rfl
  | v :: st => by
    have ih := wds_eq (h := h) (st := st)
    show (cv h v).category + ((st.map (cv h)).map fun v => v.category).sum = (if cat2 v then 2 else 1) + wds st
    rw [ih]
    rcases v with x | x | k | a <;> rfl
theorem o_mabs {d ix : Nat} {a : Int32} (hm : MTH own ix Lib.Math.abs.name Lib.Math.abs.code 1) (hr : RM X (d + 1)) (hd : decode cc pc = .ok (.invokestatic ix, 3)) (hn : pc + 3 = pc') (hw : wds st ≤ 8) (kk : WA X g own nL cc pc' L (vI (if 0 ≤ a then a else 0 - a) :: st) mu) : WA X g own nL cc pc L (vI a :: st) mu := by
  subst hn
  intro F H locs ls hP hS hl
  obtain ⟨hx, hb, hml, hown, hts, hnw, hK, hDD, hA, hSF⟩ := id F
  obtain ⟨r1, r2, r3, r4⟩ := hr
  exact va_mabs hx hb (hml.trans hl.1.symm) hown (hts _ hm.1) (hts _ hm.2.1) (hts _ hm.2.2.1) (hts _ hm.2.2.2) (by omega) (by rw [wds_eq]; omega) r3 r4 hd (kk F H locs ls hP hS hl)
theorem o_mmax {d ix : Nat} {a b : Int32} (hm : MTH own ix Lib.Math.max.name Lib.Math.max.code 2) (hr : RM X (d + 1)) (hd : decode cc pc = .ok (.invokestatic ix, 3)) (hn : pc + 3 = pc') (hw : wds st ≤ 8) (kk : WA X g own nL cc pc' L (vI (if a < b then b else a) :: st) mu) : WA X g own nL cc pc L (vI b :: vI a :: st) mu := by
  subst hn
  intro F H locs ls hP hS hl
  obtain ⟨hx, hb, hml, hown, hts, hnw, hK, hDD, hA, hSF⟩ := id F
  obtain ⟨r1, r2, r3, r4⟩ := hr
  exact va_mmax hx hb (hml.trans hl.1.symm) hown (hts _ hm.1) (hts _ hm.2.1) (hts _ hm.2.2.1) (hts _ hm.2.2.2) (by omega) (by rw [wds_eq]; omega) r3 r4 hd (kk F H locs ls hP hS hl)
theorem o_mmin {d ix : Nat} {a b : Int32} (hm : MTH own ix Lib.Math.min.name Lib.Math.min.code 2) (hr : RM X (d + 1)) (hd : decode cc pc = .ok (.invokestatic ix, 3)) (hn : pc + 3 = pc') (hw : wds st ≤ 8) (kk : WA X g own nL cc pc' L (vI (if b < a then b else a) :: st) mu) : WA X g own nL cc pc L (vI b :: vI a :: st) mu := by
  subst hn
  intro F H locs ls hP hS hl
  obtain ⟨hx, hb, hml, hown, hts, hnw, hK, hDD, hA, hSF⟩ := id F
  obtain ⟨r1, r2, r3, r4⟩ := hr
  exact va_mmin hx hb (hml.trans hl.1.symm) hown (hts _ hm.1) (hts _ hm.2.1) (hts _ hm.2.2.1) (hts _ hm.2.2.2) (by omega) (by rw [wds_eq]; omega) r3 r4 hd (kk F H locs ls hP hS hl)
/-! ===== contracts over the world ===== -/
def AW (h : Nat → Nat) (sz : Nat) : Nat → Prop := fun q => (∃ k, k < NC ∧ q = h k) ∨ sz ≤ q
def PreW (D : va_G) (h : Nat → Nat) (cA : Nat → ClassId) (mu : Mu) (sz t0 t1 : Nat) (U : State) : Prop :=
  U.heap.size = sz ∧ va_P D vwCl (wd h cA mu) U.heap ∧ va_K D vwCl (tyz cA) U ∧ inj h ∧ (∀ w ∈ nw0, va_Nw w U) ∧ SF t0 t1 (AW h sz) U U.heap
def Con (y : MethodName) (yc : ByteArray) (n : Nat) (ret : Option FieldType) (d : Nat) (As : List AV) (mu : Mu) (Ret : Int32 → Mu → Prop) : Prop := ∀ (l : Launch) (D : va_G) (h : Nat → Nat) (cA : Nat → ClassId) (sz t0 t1 : Nat),
  Met l y (Cond.code y yc n ret :: tb0) (rm d) (va_Pc (As.map (cv h)) (PreW D h cA mu sz t0 t1)) (va_Qi Ret (fun mu' t => va_P D vwCl (wd h cA mu') t.heap) (AW h sz)) 0 0 (AW h sz)
def ConV (y : MethodName) (yc : ByteArray) (n : Nat) (d : Nat) (As : List AV) (mu : Mu) (Ret : Mu → Prop) : Prop := ∀ (l : Launch) (D : va_G) (h : Nat → Nat) (cA : Nat → ClassId) (sz t0 t1 : Nat),
  Met l y (Cond.code y yc n none :: tb0) (rm d) (va_Pc (As.map (cv h)) (PreW D h cA mu sz t0 t1)) (va_Qv Ret (fun mu' t => va_P D vwCl (wd h cA mu') t.heap) (AW h sz)) 0 0 (AW h sz)
def agL : Nat → List AV → List (Nat × AV)
  | _, [] => []
  | i, v :: vs => (i, v) :: agL (if cat2 v then i + 2 else i + 1) vs
theorem agL_eq {h : Nat → Nat} : ∀ (As : List AV) (i : Nat), mpL h (agL i As) = lv_args i (As.map (cv h))
  | [], _ => rfl
  | v :: vs, i => by
    have ih := agL_eq (h := h) vs (if cat2 v then i + 2 else i + 1)
    show (i, cv h v) :: mpL h (agL (if cat2 v then i + 2 else i + 1) vs) = (i, cv h v) :: lv_args (if (cv h v).category = 2 then i + 2 else i + 1) (vs.map (cv h))
    rw [ih]
    rcases v with x | x | k | a <;> rfl
theorem sl_len {h : Nat → Nat} : ∀ (As : List AV), (lg_sl (As.map (cv h))).length = wds As
  | [] => rfl
  | v :: vs => by
    have ih := sl_len (h := h) vs
    show ((if (cv h v).category = 2 then [Slot.val (cv h v), Slot.second] else [Slot.val (cv h v)]) ++ lg_sl (vs.map (cv h))).length = (if cat2 v then 2 else 1) + wds vs
    rw [List.length_append, ih]
    rcases v with x | x | k | a <;> rfl
theorem con_of {y : MethodName} {ty : FieldType} {d : Nat} {As : List AV} {Ret : Int32 → Mu → Prop} (hy : plainName y.cls = true) (hown : y.cls = own) (hlen : wds As ≤ nL) (body : ∀ (X : CX) (g : GX), RI X g d ty Ret → WA X g own nL cc 0 (agL 0 As) [] mu) : Con y cc nL (some ty) d As mu Ret := by
  intro l D h cA sz t0 t1
  refine Met.ofW (cc := cc) (maxL := nL) (ret := some ty) hy rfl ?_
  intro p e s m args below meth c s₁ B hml hv
  obtain ⟨rfl, hsz, hP, hK, hinj, hnw, hSF⟩ := hv
  subst hsz
  have hts := atoms_spec (ws := Cond.code y cc nL (some ty) :: tb0) B.pre
  have ho : s.vm.findClass own = some m.cls := by rw [← hown]; exact findClass_of_methodNamed B.named
  have hl := lv_entry (As.map (cv h)) (n := nL) (by rw [sl_len]; exact hlen)
  rw [← agL_eq] at hl
  rw [lg_entry_eq]
  exact body (p, l, e, rm d, s, m, (As.map (cv h)).toArray, below, meth, c, _, 0, 0) (D, h, cA, AW h s.heap.size, t0, t1) ⟨rfl, B.returns, B.notSynchronized, Nat.le_refl _, Nat.le_refl _, Nat.le_refl _, Nat.le_refl _⟩ ⟨B.exec, B.bytes, hml, ho, fun w hw => hts w (List.mem_cons_of_mem _ hw), hnw, hK, ⟨hinj, fun k hk => Or.inl ⟨k, hk, rfl⟩⟩, fun q hq => Or.inr hq, hSF⟩ s.heap [] _ hP va_S.rf hl
theorem conV_of {y : MethodName} {d : Nat} {As : List AV} {Ret : Mu → Prop} (hy : plainName y.cls = true) (hown : y.cls = own) (hlen : wds As ≤ nL) (body : ∀ (X : CX) (g : GX), RV X g d Ret → WA X g own nL cc 0 (agL 0 As) [] mu) : ConV y cc nL d As mu Ret := by
  intro l D h cA sz t0 t1
  refine Met.ofW (cc := cc) (maxL := nL) (ret := none) hy rfl ?_
  intro p e s m args below meth c s₁ B hml hv
  obtain ⟨rfl, hsz, hP, hK, hinj, hnw, hSF⟩ := hv
  subst hsz
  have hts := atoms_spec (ws := Cond.code y cc nL none :: tb0) B.pre
  have ho : s.vm.findClass own = some m.cls := by rw [← hown]; exact findClass_of_methodNamed B.named
  have hl := lv_entry (As.map (cv h)) (n := nL) (by rw [sl_len]; exact hlen)
  rw [← agL_eq] at hl
  rw [lg_entry_eq]
  exact body (p, l, e, rm d, s, m, (As.map (cv h)).toArray, below, meth, c, _, 0, 0) (D, h, cA, AW h s.heap.size, t0, t1) ⟨rfl, B.returns, B.notSynchronized, Nat.le_refl _, Nat.le_refl _, Nat.le_refl _, Nat.le_refl _⟩ ⟨B.exec, B.bytes, hml, ho, fun w hw => hts w (List.mem_cons_of_mem _ hw), hnw, hK, ⟨hinj, fun k hk => Or.inl ⟨k, hk, rfl⟩⟩, fun q hq => Or.inr hq, hSF⟩ s.heap [] _ hP va_S.rf hl
/-- a call site: what its words say -/
def CS (y : MethodName) (yc : ByteArray) (n : Nat) (ret : Option FieldType) (np : Nat) : Prop :=
  (y.cls ≠ "java/lang/invoke/MethodHandle" ∧ y.cls ≠ "java/lang/invoke/VarHandle" ∧ (parseMethodDescriptor y.desc).map (fun d => d.parameters.length) = some np) ∧ Cond.code y yc n ret ∈ tb0 ∧ Cond.initialized y.cls ∈ tb0 ∧ n ≤ 21
theorem good1 {c0 : Cond} (h : c0 ∈ tb0) : GoodIn tb0 (c0 :: tb0) := fun w hw => by
  rcases List.mem_cons.mp hw with e | e
  · rw [e]; exact good0 h
  · exact good0 e
theorem blind {D : va_G} {h : Nat → Nat} {cA : Nat → ClassId} {sz t0 t1 : Nat} {av : List Value} : FrameBlind (va_Pc av (PreW D h cA mu sz t0 t1)) := fun a U f mk q => by
  obtain ⟨q0, q1, qP, qK, qi, qn, qS⟩ := q
  exact ⟨q0, q1, qP, va_K.moved (u := U) (U := U.calling f mk a) (Vm.Alike.refl U.vm) qK, qi, fun w hw => va_Nw.same (nest_on (List.mem_filter.mp hw).2) (u := U) (U := U.calling f mk a) rfl (qn w hw), qS.go (U := U.calling f mk a) (Vm.Alike.refl U.vm) (fun _ _ _ => rfl) (fun _ z => z)⟩
theorem preW_at {H : Heap} {locs : List Loc} {U : State} (F : Fx X g own nL cc) (hP : va_P (gD g) vwCl (wd (gh g) (gc g) mu) H) (hS : va_S (gA g) (xs X).heap H locs) (hU : U.heap = H) (hW : (xs X).WarmedH U.vm) : PreW (gD g) (gh g) (gc g) mu H.size (gt0 g) (gt1 g) U := by
  obtain ⟨hx, hb, hml, hown, hts, hnw, hK, hDD, hA, hSF⟩ := F
  refine ⟨by rw [hU], by rw [hU]; exact hP, va_K.moved hW.alike hK, hDD.1, nw_warm hW hnw, ?_⟩
  rw [hU]
  refine hSF.go hW.alike (fun a h1 h2 => hS.2.1 a h1 h2) (fun q hq => ?_)
  rcases hq with ⟨k, hk, rfl⟩ | hq
  · exact hDD.2 k hk
  · exact hA q (Nat.le_trans hS.1 hq)
theorem aw_in {H : Heap} {locs : List Loc} (F : Fx X g own nL cc) (hS : va_S (gA g) (xs X).heap H locs) : ∀ q, AW (gh g) H.size q → gA g q := fun q hq => by
  obtain ⟨hx, hb, hml, hown, hts, hnw, hK, hDD, hA, hSF⟩ := F
  rcases hq with ⟨k, hk, rfl⟩ | hq
  · exact hDD.2 k hk
  · exact hA q (Nat.le_trans hS.1 hq)
theorem st_rev {h : Nat → Nat} {As rest : List AV} : (As.reverse ++ rest).map (cv h) = (As.map (cv h)).reverse ++ rest.map (cv h) := by
  rw [List.map_append, List.map_reverse]
def CSV (own : String) (ix : Nat) (y : MethodName) : Prop := Cond.methodLink own ix y ∈ tb0 ∧ Cond.instanceMethod y ∈ tb0 ∧ Cond.selects y.cls y y ∈ tb0
theorem wsV_in {y : MethodName} {yc : ByteArray} {n np ix : Nat} {ret : Option FieldType} (c : CS y yc n ret np) (v : CSV own ix y) : GoodIn tb0 (wsV own ix y.cls y (Cond.code y yc n ret :: tb0)) := fun w hw => by
  unfold wsV at hw
  rcases List.mem_append.mp hw with e | e
  · rcases List.mem_cons.mp e with e | e
    · rw [e]; exact good0 v.1
    · rcases List.mem_cons.mp e with e | e
      · rw [e]; exact good0 v.2.1
      · rcases List.mem_cons.mp e with e | e
        · rw [e]; exact good0 v.2.2
        · rcases List.mem_cons.mp e with e | e
          · rw [e]; exact good0 c.2.2.1
          · cases e
  · exact good1 c.2.1 w e
theorem o_callV {y : MethodName} {yc : ByteArray} {n np ix d dd k ci : Nat} {ret : Option FieldType} {As rest : List AV} {Ret : Int32 → Mu → Prop} {q : vw_C} {fs : List (Option Nat)} (c : CS y yc n ret np) (v : CSV own ix y) (hM : Con y yc n ret d (vC k :: As) mu Ret) (hr : RM X dd) (hdd : d + 1 ≤ dd) (hd : decode cc pc = .ok (.invokevirtual ix, 3)) (hn : pc + 3 = pc') (hk : k < NC) (hs : sh k = .inl (ci, fs)) (hc : vwCl[ci]? = some q) (hcq : q.1 = y.cls) (hnp : As.length = np) (hst : st = As.reverse ++ vC k :: rest) (hw : wds rest ≤ 8)
    (kk : ∀ (r : Int32) (mu' : Mu), Ret r mu' → WA X g own nL cc pc' L (vI r :: rest) mu') : WA X g own nL cc pc L st mu := by
  subst hn
  subst hst
  intro F H locs ls hP hS hl
  obtain ⟨hx, hb, hml, hown, hts, hnw, hK, hDD, hA, hSF⟩ := id F
  obtain ⟨r1, r2, r3, r4⟩ := hr
  have c4 := c.2.2.2
  refine va_calli (va_runV (b := gh g k) (As := As.map (cv (gh g))) (rest := rest.map (cv (gh g))) ⟨hx, hb, hml, hown, hts⟩ (hM (xl X) (gD g) (gh g) (gc g) H.size (gt0 g) (gt1 g)) (cwV np hts (wsV_in c v) rfl rfl rfl ⟨rfl, c.1⟩ ⟨by show d + 1 ≤ _; omega, by show 8 + (n + 11) + 40 * d ≤ _; omega⟩) ⟨blind, by rw [← hcq]; exact va_recv hK hP hc (wd_ob hk hs), fun U hU hW => ⟨rfl, preW_at F hP hS hU hW⟩⟩ rfl (by rw [List.length_map]; exact hnp) hl.1 st_rev (by rw [wds_eq]; show 0 + _ ≤ 8; omega) hd ⟨r3, r4⟩) hS (fun q _ h => aw_in F hS q h) (aw_in F hS) (fun r u t H1 locs1 ht hvm hp hB hz1 hk1 hS1 => ?_)
  exact kk r u hp F H1 locs1 ls (by rw [← ht]; exact hB) hS1 hl
theorem o_callVV {y : MethodName} {yc : ByteArray} {n np ix d dd k ci : Nat} {As rest : List AV} {Ret : Mu → Prop} {q : vw_C} {fs : List (Option Nat)} (c : CS y yc n none np) (v : CSV own ix y) (hM : ConV y yc n d (vC k :: As) mu Ret) (hr : RM X dd) (hdd : d + 1 ≤ dd) (hd : decode cc pc = .ok (.invokevirtual ix, 3)) (hn : pc + 3 = pc') (hk : k < NC) (hs : sh k = .inl (ci, fs)) (hc : vwCl[ci]? = some q) (hcq : q.1 = y.cls) (hnp : As.length = np) (hst : st = As.reverse ++ vC k :: rest) (hw : wds rest ≤ 8)
    (kk : ∀ (mu' : Mu), Ret mu' → WA X g own nL cc pc' L rest mu') : WA X g own nL cc pc L st mu := by
  subst hn
  subst hst
  intro F H locs ls hP hS hl
  obtain ⟨hx, hb, hml, hown, hts, hnw, hK, hDD, hA, hSF⟩ := id F
  obtain ⟨r1, r2, r3, r4⟩ := hr
  have c4 := c.2.2.2
  refine va_callv (va_runV (b := gh g k) (As := As.map (cv (gh g))) (rest := rest.map (cv (gh g))) ⟨hx, hb, hml, hown, hts⟩ (hM (xl X) (gD g) (gh g) (gc g) H.size (gt0 g) (gt1 g)) (cwV np hts (wsV_in c v) rfl rfl rfl ⟨rfl, c.1⟩ ⟨by show d + 1 ≤ _; omega, by show 8 + (n + 11) + 40 * d ≤ _; omega⟩) ⟨blind, by rw [← hcq]; exact va_recv hK hP hc (wd_ob hk hs), fun U hU hW => ⟨rfl, preW_at F hP hS hU hW⟩⟩ rfl (by rw [List.length_map]; exact hnp) hl.1 st_rev (by rw [wds_eq]; show 0 + _ ≤ 8; omega) hd ⟨r3, r4⟩) hS (fun q _ h => aw_in F hS q h) (aw_in F hS) (fun u t H1 locs1 ht hvm hp hB hz1 hk1 hS1 => ?_)
  exact kk u hp F H1 locs1 ls (by rw [← ht]; exact hB) hS1 hl
def CSS (own : String) (ix : Nat) (y : MethodName) (nest : Bool) : Prop := Cond.static y ∈ tb0 ∧ (nest = false → Cond.methodLink own ix y ∈ tb0) ∧ (nest = true → ∃ host, Cond.methodLinkNest own ix y host ∈ nw0)
theorem wsS_in {y : MethodName} {yc : ByteArray} {n np ix : Nat} {ret : Option FieldType} (c : CS y yc n ret np) (v : CSS own ix y false) : GoodIn tb0 (va_wsS own ix y (Cond.code y yc n ret :: tb0)) := fun w hw => by
  unfold va_wsS at hw
  rcases List.mem_append.mp hw with e | e
  · rcases List.mem_cons.mp e with e | e
    · rw [e]; exact good0 (v.2.1 rfl)
    · rcases List.mem_cons.mp e with e | e
      · rw [e]; exact good0 v.1
      · rcases List.mem_cons.mp e with e | e
        · rw [e]; exact good0 c.2.2.1
        · cases e
  · exact good1 c.2.1 w e
theorem o_callS {y : MethodName} {yc : ByteArray} {n np ix d dd : Nat} {ret : Option FieldType} {As rest : List AV} {Ret : Int32 → Mu → Prop} {nest : Bool} (c : CS y yc n ret np) (v : CSS own ix y nest) (hM : Con y yc n ret d As mu Ret) (hr : RM X dd) (hdd : d + 1 ≤ dd) (hd : decode cc pc = .ok (.invokestatic ix, 3)) (hn : pc + 3 = pc') (hnp : As.length = np) (hst : st = As.reverse ++ rest) (hw : wds rest ≤ 8)
    (kk : ∀ (r : Int32) (mu' : Mu), Ret r mu' → WA X g own nL cc pc' L (vI r :: rest) mu') : WA X g own nL cc pc L st mu := by
  subst hn
  subst hst
  intro F H locs ls hP hS hl
  obtain ⟨hx, hb, hml, hown, hts, hnw, hK, hDD, hA, hSF⟩ := id F
  obtain ⟨r1, r2, r3, r4⟩ := hr
  have c4 := c.2.2.2
  cases nest with
  | false =>
    refine va_calli (va_runS (As := As.map (cv (gh g))) (rest := rest.map (cv (gh g))) ⟨hx, hb, hml, hown, hts⟩ (hM (xl X) (gD g) (gh g) (gc g) H.size (gt0 g) (gt1 g)) (va_cwS np hts (wsS_in c v) rfl rfl rfl c.1 ⟨by show d + 1 ≤ _; omega, by show 8 + (n + 11) + 40 * d ≤ _; omega⟩) ⟨blind, fun U hU hW => ⟨rfl, preW_at F hP hS hU hW⟩⟩ rfl (by rw [List.length_map]; exact hnp) hl.1 st_rev (by rw [wds_eq]; show 0 + _ ≤ 8; omega) hd ⟨r3, r4⟩) hS (fun q _ h => aw_in F hS q h) (aw_in F hS) (fun r u t H1 locs1 ht hvm hp hB hz1 hk1 hS1 => ?_)
    exact kk r u hp F H1 locs1 ls (by rw [← ht]; exact hB) hS1 hl
  | true =>
    obtain ⟨host, hh⟩ := v.2.2 rfl
    refine va_calli (va_runSN (host := host) (As := As.map (cv (gh g))) (rest := rest.map (cv (gh g))) ⟨hx, hb, hml, hown, hts⟩ (hM (xl X) (gD g) (gh g) (gc g) H.size (gt0 g) (gt1 g)) ⟨va_cnB np hts (good1 c.2.1) rfl rfl rfl (hnw _ hh) (hts _ c.2.2.1) c.1 ⟨by show d + 1 ≤ _; omega, by show 8 + (n + 11) + 40 * d ≤ _; omega⟩, hts _ v.1, trivial⟩ ⟨blind, fun U hU hW => ⟨rfl, preW_at F hP hS hU hW⟩⟩ rfl (by rw [List.length_map]; exact hnp) hl.1 st_rev (by rw [wds_eq]; show 0 + _ ≤ 8; omega) hd ⟨r3, r4⟩) hS (fun q _ h => aw_in F hS q h) (aw_in F hS) (fun r u t H1 locs1 ht hvm hp hB hz1 hk1 hS1 => ?_)
    exact kk r u hp F H1 locs1 ls (by rw [← ht]; exact hB) hS1 hl
theorem o_callSV {y : MethodName} {yc : ByteArray} {n np ix d dd : Nat} {As rest : List AV} {Ret : Mu → Prop} (c : CS y yc n none np) (v : CSS own ix y false) (hM : ConV y yc n d As mu Ret) (hr : RM X dd) (hdd : d + 1 ≤ dd) (hd : decode cc pc = .ok (.invokestatic ix, 3)) (hn : pc + 3 = pc') (hnp : As.length = np) (hst : st = As.reverse ++ rest) (hw : wds rest ≤ 8)
    (kk : ∀ (mu' : Mu), Ret mu' → WA X g own nL cc pc' L rest mu') : WA X g own nL cc pc L st mu := by
  subst hn
  subst hst
  intro F H locs ls hP hS hl
  obtain ⟨hx, hb, hml, hown, hts, hnw, hK, hDD, hA, hSF⟩ := id F
  obtain ⟨r1, r2, r3, r4⟩ := hr
  have c4 := c.2.2.2
  refine va_callv (va_runS (As := As.map (cv (gh g))) (rest := rest.map (cv (gh g))) ⟨hx, hb, hml, hown, hts⟩ (hM (xl X) (gD g) (gh g) (gc g) H.size (gt0 g) (gt1 g)) (va_cwS np hts (wsS_in c v) rfl rfl rfl c.1 ⟨by show d + 1 ≤ _; omega, by show 8 + (n + 11) + 40 * d ≤ _; omega⟩) ⟨blind, fun U hU hW => ⟨rfl, preW_at F hP hS hU hW⟩⟩ rfl (by rw [List.length_map]; exact hnp) hl.1 st_rev (by rw [wds_eq]; show 0 + _ ≤ 8; omega) hd ⟨r3, r4⟩) hS (fun q _ h => aw_in F hS q h) (aw_in F hS) (fun u t H1 locs1 ht hvm hp hB hz1 hk1 hS1 => ?_)
  exact kk u hp F H1 locs1 ls (by rw [← ht]; exact hB) hS1 hl
end ROWS
end
section
theorem mem_by {ws : List Cond} (ps : List Nat) (hp : ws = ps.filterMap (fun i => lw_tbl[i]?)) (h : ws.all goodWord = true) : ∀ w ∈ ws, w ∈ tb0 := by
  intro w hw
  have h1 := List.all_eq_true.mp h w hw
  rw [hp] at hw
  obtain ⟨i, -, hi⟩ := List.mem_filterMap.mp hw
  exact mem0 hi h1
theorem in_X0 : ∀ w ∈ u_ws RX0 TX0 5, w ∈ tb0 := mem_by [253, 255, 257, 259, 261] (by decide +kernel) (by decide +kernel)
theorem in_X1 : ∀ w ∈ u_ws RX1 TX1 9, w ∈ tb0 := mem_by [157, 159, 161, 163, 165, 167, 169, 171, 173] (by decide +kernel) (by decide +kernel)
theorem in_X2 : ∀ w ∈ u_ws RX2 TX2 1, w ∈ tb0 := mem_by [273] (by decide +kernel) (by decide +kernel)
theorem in_X3 : ∀ w ∈ u_ws RX3 TX3 6, w ∈ tb0 := mem_by [293, 295, 297, 299, 301, 303] (by decide +kernel) (by decide +kernel)
theorem in_X4 : ∀ w ∈ u_ws RX4 TX4 4, w ∈ tb0 := mem_by [121, 123, 125, 127] (by decide +kernel) (by decide +kernel)
theorem in_X5 : ∀ w ∈ u_ws RX5 TX5 3, w ∈ tb0 := mem_by [318, 320, 322] (by decide +kernel) (by decide +kernel)
theorem in_X6 : ∀ w ∈ u_ws RX6 TX6 3, w ∈ tb0 := mem_by [102, 104, 106] (by decide +kernel) (by decide +kernel)
theorem in_X7 : ∀ w ∈ u_ws RX7 TX7 17, w ∈ tb0 := mem_by [205, 207, 209, 211, 213, 215, 217, 219, 221, 223, 225, 227, 229, 231, 233, 235, 237] (by decide +kernel) (by decide +kernel)
theorem in_X8 : ∀ w ∈ u_ws RX8 TX8 8, w ∈ tb0 := mem_by [333, 335, 337, 339, 341, 343, 345, 347] (by decide +kernel) (by decide +kernel)
theorem in_X9 : ∀ w ∈ u_ws RX9 TX9 41, w ∈ tb0 := mem_by [849, 851, 853, 855, 857, 859, 861, 863, 865, 867, 869, 871, 873, 875, 877, 879, 881, 883, 885, 887, 889, 891, 893, 895, 897, 899, 901, 903, 905, 907, 909, 911, 913, 915, 917, 919, 921, 923, 925, 927, 929] (by decide +kernel) (by decide +kernel)
theorem cp_X0_3 : CLp TX0 tyX0 5 3 .int := ⟨tyX0_ok, nmX0, rfl, by decide +kernel⟩
theorem cp_X0_4 : CLp TX0 tyX0 5 4 .int := ⟨tyX0_ok, nmX0, rfl, by decide +kernel⟩
theorem cp_X1_1 : CLp TX1 tyX1 9 1 .int := ⟨tyX1_ok, nmX1, rfl, by decide +kernel⟩
theorem cp_X1_2 : CLp TX1 tyX1 9 2 .int := ⟨tyX1_ok, nmX1, rfl, by decide +kernel⟩
theorem cp_X1_3 : CLp TX1 tyX1 9 3 .int := ⟨tyX1_ok, nmX1, rfl, by decide +kernel⟩
theorem cp_X1_4 : CLp TX1 tyX1 9 4 .int := ⟨tyX1_ok, nmX1, rfl, by decide +kernel⟩
theorem cp_X1_5 : CLp TX1 tyX1 9 5 .int := ⟨tyX1_ok, nmX1, rfl, by decide +kernel⟩
theorem cp_X1_6 : CLp TX1 tyX1 9 6 .int := ⟨tyX1_ok, nmX1, rfl, by decide +kernel⟩
theorem cp_X1_7 : CLp TX1 tyX1 9 7 .int := ⟨tyX1_ok, nmX1, rfl, by decide +kernel⟩
theorem cp_X1_8 : CLp TX1 tyX1 9 8 .int := ⟨tyX1_ok, nmX1, rfl, by decide +kernel⟩
theorem cp_X3_1 : CLp TX3 tyX3 6 1 .int := ⟨tyX3_ok, nmX3, rfl, by decide +kernel⟩
theorem cp_X3_2 : CLp TX3 tyX3 6 2 .int := ⟨tyX3_ok, nmX3, rfl, by decide +kernel⟩
theorem cp_X3_3 : CLp TX3 tyX3 6 3 .int := ⟨tyX3_ok, nmX3, rfl, by decide +kernel⟩
theorem cp_X6_2 : CLp TX6 tyX6 3 2 .int := ⟨tyX6_ok, nmX6, rfl, by decide +kernel⟩
theorem cp_X7_2 : CLp TX7 tyX7 17 2 .int := ⟨tyX7_ok, nmX7, rfl, by decide +kernel⟩
theorem cp_X7_3 : CLp TX7 tyX7 17 3 .boolean := ⟨tyX7_ok, nmX7, rfl, by decide +kernel⟩
theorem cp_X7_4 : CLp TX7 tyX7 17 4 .int := ⟨tyX7_ok, nmX7, rfl, by decide +kernel⟩
theorem cp_X7_5 : CLp TX7 tyX7 17 5 .int := ⟨tyX7_ok, nmX7, rfl, by decide +kernel⟩
theorem cp_X7_6 : CLp TX7 tyX7 17 6 .int := ⟨tyX7_ok, nmX7, rfl, by decide +kernel⟩
theorem cp_X7_7 : CLp TX7 tyX7 17 7 .int := ⟨tyX7_ok, nmX7, rfl, by decide +kernel⟩
theorem cp_X7_8 : CLp TX7 tyX7 17 8 .int := ⟨tyX7_ok, nmX7, rfl, by decide +kernel⟩
theorem cp_X7_9 : CLp TX7 tyX7 17 9 .int := ⟨tyX7_ok, nmX7, rfl, by decide +kernel⟩
theorem cp_X7_10 : CLp TX7 tyX7 17 10 .int := ⟨tyX7_ok, nmX7, rfl, by decide +kernel⟩
theorem cp_X7_11 : CLp TX7 tyX7 17 11 .int := ⟨tyX7_ok, nmX7, rfl, by decide +kernel⟩
theorem cp_X7_12 : CLp TX7 tyX7 17 12 .boolean := ⟨tyX7_ok, nmX7, rfl, by decide +kernel⟩
theorem cp_X7_13 : CLp TX7 tyX7 17 13 .int := ⟨tyX7_ok, nmX7, rfl, by decide +kernel⟩
theorem cp_X7_14 : CLp TX7 tyX7 17 14 .int := ⟨tyX7_ok, nmX7, rfl, by decide +kernel⟩
theorem cp_X7_15 : CLp TX7 tyX7 17 15 .int := ⟨tyX7_ok, nmX7, rfl, by decide +kernel⟩
theorem cp_X7_16 : CLp TX7 tyX7 17 16 .int := ⟨tyX7_ok, nmX7, rfl, by decide +kernel⟩
theorem cp_X8_2 : CLp TX8 tyX8 8 2 .boolean := ⟨tyX8_ok, nmX8, rfl, by decide +kernel⟩
theorem cp_X9_1 : CLp TX9 tyX9 41 1 .int := ⟨tyX9_ok, nmX9, rfl, by decide +kernel⟩
theorem cp_X9_3 : CLp TX9 tyX9 41 3 .int := ⟨tyX9_ok, nmX9, rfl, by decide +kernel⟩
theorem cp_X9_5 : CLp TX9 tyX9 41 5 .int := ⟨tyX9_ok, nmX9, rfl, by decide +kernel⟩
theorem cp_X9_8 : CLp TX9 tyX9 41 8 .int := ⟨tyX9_ok, nmX9, rfl, by decide +kernel⟩
theorem cp_X9_9 : CLp TX9 tyX9 41 9 .int := ⟨tyX9_ok, nmX9, rfl, by decide +kernel⟩
theorem cp_X9_10 : CLp TX9 tyX9 41 10 .boolean := ⟨tyX9_ok, nmX9, rfl, by decide +kernel⟩
theorem cp_X9_15 : CLp TX9 tyX9 41 15 .int := ⟨tyX9_ok, nmX9, rfl, by decide +kernel⟩
theorem cp_X9_16 : CLp TX9 tyX9 41 16 .int := ⟨tyX9_ok, nmX9, rfl, by decide +kernel⟩
theorem cp_X9_17 : CLp TX9 tyX9 41 17 .boolean := ⟨tyX9_ok, nmX9, rfl, by decide +kernel⟩
theorem cp_X9_18 : CLp TX9 tyX9 41 18 .int := ⟨tyX9_ok, nmX9, rfl, by decide +kernel⟩
theorem cp_X9_19 : CLp TX9 tyX9 41 19 .int := ⟨tyX9_ok, nmX9, rfl, by decide +kernel⟩
theorem cp_X9_20 : CLp TX9 tyX9 41 20 .int := ⟨tyX9_ok, nmX9, rfl, by decide +kernel⟩
theorem cp_X9_21 : CLp TX9 tyX9 41 21 .int := ⟨tyX9_ok, nmX9, rfl, by decide +kernel⟩
theorem cp_X9_22 : CLp TX9 tyX9 41 22 .int := ⟨tyX9_ok, nmX9, rfl, by decide +kernel⟩
theorem cp_X9_23 : CLp TX9 tyX9 41 23 .int := ⟨tyX9_ok, nmX9, rfl, by decide +kernel⟩
theorem cp_X9_24 : CLp TX9 tyX9 41 24 .int := ⟨tyX9_ok, nmX9, rfl, by decide +kernel⟩
theorem cp_X9_25 : CLp TX9 tyX9 41 25 .int := ⟨tyX9_ok, nmX9, rfl, by decide +kernel⟩
theorem cp_X9_26 : CLp TX9 tyX9 41 26 .int := ⟨tyX9_ok, nmX9, rfl, by decide +kernel⟩
theorem cp_X9_27 : CLp TX9 tyX9 41 27 .int := ⟨tyX9_ok, nmX9, rfl, by decide +kernel⟩
theorem cp_X9_28 : CLp TX9 tyX9 41 28 .int := ⟨tyX9_ok, nmX9, rfl, by decide +kernel⟩
theorem cp_X9_29 : CLp TX9 tyX9 41 29 .int := ⟨tyX9_ok, nmX9, rfl, by decide +kernel⟩
theorem cp_X9_30 : CLp TX9 tyX9 41 30 .int := ⟨tyX9_ok, nmX9, rfl, by decide +kernel⟩
theorem cp_X9_36 : CLp TX9 tyX9 41 36 .boolean := ⟨tyX9_ok, nmX9, rfl, by decide +kernel⟩
theorem cs_X0_init : CS yX0_init cX0_init 1 none 0 := ⟨⟨by decide +kernel, by decide +kernel, by decide +kernel⟩, mem0 (i := 244) (by decide +kernel) rfl, mem0 (i := 51) (by decide +kernel) rfl, by decide⟩
theorem cs_X0_cellFrom : CS yX0_cellFrom cX0_cellFrom 7 (some .int) 2 := ⟨⟨by decide +kernel, by decide +kernel, by decide +kernel⟩, mem0 (i := 611) (by decide +kernel) rfl, mem0 (i := 51) (by decide +kernel) rfl, by decide⟩
theorem cs_X0_isWhole : CS yX0_isWhole cX0_isWhole 7 (some .boolean) 4 := ⟨⟨by decide +kernel, by decide +kernel, by decide +kernel⟩, mem0 (i := 633) (by decide +kernel) rfl, mem0 (i := 51) (by decide +kernel) rfl, by decide⟩
theorem cs_X0_join : CS yX0_join cX0_join 4 (some .int) 3 := ⟨⟨by decide +kernel, by decide +kernel, by decide +kernel⟩, mem0 (i := 615) (by decide +kernel) rfl, mem0 (i := 51) (by decide +kernel) rfl, by decide⟩
theorem cs_X0_middleOf : CS yX0_middleOf cX0_middleOf 5 (some .int) 1 := ⟨⟨by decide +kernel, by decide +kernel, by decide +kernel⟩, mem0 (i := 625) (by decide +kernel) rfl, mem0 (i := 51) (by decide +kernel) rfl, by decide⟩
theorem cs_X0_pullsInto : CS yX0_pullsInto cX0_pullsInto 4 (some .int) 1 := ⟨⟨by decide +kernel, by decide +kernel, by decide +kernel⟩, mem0 (i := 603) (by decide +kernel) rfl, mem0 (i := 51) (by decide +kernel) rfl, by decide⟩
theorem cs_X0_ringsRound : CS yX0_ringsRound cX0_ringsRound 4 (some .int) 2 := ⟨⟨by decide +kernel, by decide +kernel, by decide +kernel⟩, mem0 (i := 629) (by decide +kernel) rfl, mem0 (i := 51) (by decide +kernel) rfl, by decide⟩
theorem cs_X0_seekCells : CS yX0_seekCells cX0_seekCells 4 none 1 := ⟨⟨by decide +kernel, by decide +kernel, by decide +kernel⟩, mem0 (i := 607) (by decide +kernel) rfl, mem0 (i := 51) (by decide +kernel) rfl, by decide⟩
theorem cs_X0_tryAll : CS yX0_tryAll cX0_tryAll 4 none 2 := ⟨⟨by decide +kernel, by decide +kernel, by decide +kernel⟩, mem0 (i := 592) (by decide +kernel) rfl, mem0 (i := 51) (by decide +kernel) rfl, by decide⟩
theorem cs_X0_uOf : CS yX0_uOf cX0_uOf 1 (some .int) 1 := ⟨⟨by decide +kernel, by decide +kernel, by decide +kernel⟩, mem0 (i := 595) (by decide +kernel) rfl, mem0 (i := 51) (by decide +kernel) rfl, by decide⟩
theorem cs_X0_vOf : CS yX0_vOf cX0_vOf 1 (some .int) 1 := ⟨⟨by decide +kernel, by decide +kernel, by decide +kernel⟩, mem0 (i := 598) (by decide +kernel) rfl, mem0 (i := 51) (by decide +kernel) rfl, by decide⟩
theorem cs_X1_init : CS yX1_init cX1_init 2 none 1 := ⟨⟨by decide +kernel, by decide +kernel, by decide +kernel⟩, mem0 (i := 140) (by decide +kernel) rfl, mem0 (i := 50) (by decide +kernel) rfl, by decide⟩
theorem cs_X1_begin : CS yX1_begin cX1_begin 3 none 2 := ⟨⟨by decide +kernel, by decide +kernel, by decide +kernel⟩, mem0 (i := 514) (by decide +kernel) rfl, mem0 (i := 50) (by decide +kernel) rfl, by decide⟩
theorem cs_X1_go : CS yX1_go cX1_go 2 none 1 := ⟨⟨by decide +kernel, by decide +kernel, by decide +kernel⟩, mem0 (i := 533) (by decide +kernel) rfl, mem0 (i := 50) (by decide +kernel) rfl, by decide⟩
theorem cs_X2_init : CS yX2_init cX2_init 1 none 0 := ⟨⟨by decide +kernel, by decide +kernel, by decide +kernel⟩, mem0 (i := 269) (by decide +kernel) rfl, mem0 (i := 52) (by decide +kernel) rfl, by decide⟩
theorem cs_X2_gainBy : CS yX2_gainBy cX2_gainBy 6 (some .int) 4 := ⟨⟨by decide +kernel, by decide +kernel, by decide +kernel⟩, mem0 (i := 679) (by decide +kernel) rfl, mem0 (i := 52) (by decide +kernel) rfl, by decide⟩
theorem cs_X2_mostFrom : CS yX2_mostFrom cX2_mostFrom 6 (some .int) 3 := ⟨⟨by decide +kernel, by decide +kernel, by decide +kernel⟩, mem0 (i := 674) (by decide +kernel) rfl, mem0 (i := 52) (by decide +kernel) rfl, by decide⟩
theorem cs_X2_mostIn : CS yX2_mostIn cX2_mostIn 2 (some .int) 1 := ⟨⟨by decide +kernel, by decide +kernel, by decide +kernel⟩, mem0 (i := 684) (by decide +kernel) rfl, mem0 (i := 52) (by decide +kernel) rfl, by decide⟩
theorem cs_X2_mostTimes : CS yX2_mostTimes cX2_mostTimes 5 (some .int) 3 := ⟨⟨by decide +kernel, by decide +kernel, by decide +kernel⟩, mem0 (i := 692) (by decide +kernel) rfl, mem0 (i := 52) (by decide +kernel) rfl, by decide⟩
theorem cs_X2_timesOf : CS yX2_timesOf cX2_timesOf 7 (some .int) 3 := ⟨⟨by decide +kernel, by decide +kernel, by decide +kernel⟩, mem0 (i := 688) (by decide +kernel) rfl, mem0 (i := 52) (by decide +kernel) rfl, by decide⟩
theorem cs_X2_weigh : CS yX2_weigh cX2_weigh 5 none 2 := ⟨⟨by decide +kernel, by decide +kernel, by decide +kernel⟩, mem0 (i := 670) (by decide +kernel) rfl, mem0 (i := 52) (by decide +kernel) rfl, by decide⟩
theorem cs_X3_init : CS yX3_init cX3_init 1 none 0 := ⟨⟨by decide +kernel, by decide +kernel, by decide +kernel⟩, mem0 (i := 280) (by decide +kernel) rfl, mem0 (i := 53) (by decide +kernel) rfl, by decide⟩
theorem cs_X3_append : CS yX3_append cX3_append 2 none 1 := ⟨⟨by decide +kernel, by decide +kernel, by decide +kernel⟩, mem0 (i := 428) (by decide +kernel) rfl, mem0 (i := 53) (by decide +kernel) rfl, by decide⟩
theorem cs_X3_begin : CS yX3_begin cX3_begin 1 none 0 := ⟨⟨by decide +kernel, by decide +kernel, by decide +kernel⟩, mem0 (i := 440) (by decide +kernel) rfl, mem0 (i := 53) (by decide +kernel) rfl, by decide⟩
theorem cs_X3_digit : CS yX3_digit cX3_digit 2 (some .int) 0 := ⟨⟨by decide +kernel, by decide +kernel, by decide +kernel⟩, mem0 (i := 461) (by decide +kernel) rfl, mem0 (i := 53) (by decide +kernel) rfl, by decide⟩
theorem cs_X3_faultAt : CS yX3_faultAt cX3_faultAt 2 none 1 := ⟨⟨by decide +kernel, by decide +kernel, by decide +kernel⟩, mem0 (i := 466) (by decide +kernel) rfl, mem0 (i := 53) (by decide +kernel) rfl, by decide⟩
theorem cs_X3_finish : CS yX3_finish cX3_finish 2 (some .int) 1 := ⟨⟨by decide +kernel, by decide +kernel, by decide +kernel⟩, mem0 (i := 478) (by decide +kernel) rfl, mem0 (i := 53) (by decide +kernel) rfl, by decide⟩
theorem cs_X3_hasRoom : CS yX3_hasRoom cX3_hasRoom 2 (some .boolean) 1 := ⟨⟨by decide +kernel, by decide +kernel, by decide +kernel⟩, mem0 (i := 424) (by decide +kernel) rfl, mem0 (i := 53) (by decide +kernel) rfl, by decide⟩
theorem cs_X3_next : CS yX3_next cX3_next 1 (some .int) 0 := ⟨⟨by decide +kernel, by decide +kernel, by decide +kernel⟩, mem0 (i := 449) (by decide +kernel) rfl, mem0 (i := 53) (by decide +kernel) rfl, by decide⟩
theorem cs_X3_number : CS yX3_number cX3_number 5 (some .int) 2 := ⟨⟨by decide +kernel, by decide +kernel, by decide +kernel⟩, mem0 (i := 470) (by decide +kernel) rfl, mem0 (i := 53) (by decide +kernel) rfl, by decide⟩
theorem cs_X3_readCup : CS yX3_readCup cX3_readCup 6 none 0 := ⟨⟨by decide +kernel, by decide +kernel, by decide +kernel⟩, mem0 (i := 453) (by decide +kernel) rfl, mem0 (i := 53) (by decide +kernel) rfl, by decide⟩
theorem cs_X3_readCups : CS yX3_readCups cX3_readCups 2 (some .int) 0 := ⟨⟨by decide +kernel, by decide +kernel, by decide +kernel⟩, mem0 (i := 436) (by decide +kernel) rfl, mem0 (i := 53) (by decide +kernel) rfl, by decide⟩
theorem cs_X3_readPart : CS yX3_readPart cX3_readPart 4 none 0 := ⟨⟨by decide +kernel, by decide +kernel, by decide +kernel⟩, mem0 (i := 496) (by decide +kernel) rfl, mem0 (i := 53) (by decide +kernel) rfl, by decide⟩
theorem cs_X3_readParts : CS yX3_readParts cX3_readParts 2 (some .int) 0 := ⟨⟨by decide +kernel, by decide +kernel, by decide +kernel⟩, mem0 (i := 492) (by decide +kernel) rfl, mem0 (i := 53) (by decide +kernel) rfl, by decide⟩
theorem cs_X3_signedDigit : CS yX3_signedDigit cX3_signedDigit 1 (some .int) 0 := ⟨⟨by decide +kernel, by decide +kernel, by decide +kernel⟩, mem0 (i := 457) (by decide +kernel) rfl, mem0 (i := 53) (by decide +kernel) rfl, by decide⟩
theorem cs_X3_takes : CS yX3_takes cX3_takes 2 (some .boolean) 1 := ⟨⟨by decide +kernel, by decide +kernel, by decide +kernel⟩, mem0 (i := 445) (by decide +kernel) rfl, mem0 (i := 53) (by decide +kernel) rfl, by decide⟩
theorem cs_X4_init : CS yX4_init cX4_init 1 none 0 := ⟨⟨by decide +kernel, by decide +kernel, by decide +kernel⟩, mem0 (i := 71) (by decide +kernel) rfl, mem0 (i := 46) (by decide +kernel) rfl, by decide⟩
theorem cs_X4_hasNoPart : CS yX4_hasNoPart cX4_hasNoPart 1 (some .boolean) 0 := ⟨⟨by decide +kernel, by decide +kernel, by decide +kernel⟩, mem0 (i := 579) (by decide +kernel) rfl, mem0 (i := 46) (by decide +kernel) rfl, by decide⟩
theorem cs_X4_pullSteps : CS yX4_pullSteps cX4_pullSteps 3 (some .int) 0 := ⟨⟨by decide +kernel, by decide +kernel, by decide +kernel⟩, mem0 (i := 570) (by decide +kernel) rfl, mem0 (i := 46) (by decide +kernel) rfl, by decide⟩
theorem cs_X4_takeAll : CS yX4_takeAll cX4_takeAll 3 none 1 := ⟨⟨by decide +kernel, by decide +kernel, by decide +kernel⟩, mem0 (i := 753) (by decide +kernel) rfl, mem0 (i := 46) (by decide +kernel) rfl, by decide⟩
theorem cs_X5_init : CS yX5_init cX5_init 2 none 0 := ⟨⟨by decide +kernel, by decide +kernel, by decide +kernel⟩, mem0 (i := 310) (by decide +kernel) rfl, mem0 (i := 54) (by decide +kernel) rfl, by decide⟩
theorem cs_X5_cutTo : CS yX5_cutTo cX5_cutTo 2 (some .int) 2 := ⟨⟨by decide +kernel, by decide +kernel, by decide +kernel⟩, mem0 (i := 769) (by decide +kernel) rfl, mem0 (i := 54) (by decide +kernel) rfl, by decide⟩
theorem cs_X5_fits : CS yX5_fits cX5_fits 4 (some .boolean) 3 := ⟨⟨by decide +kernel, by decide +kernel, by decide +kernel⟩, mem0 (i := 735) (by decide +kernel) rfl, mem0 (i := 54) (by decide +kernel) rfl, by decide⟩
theorem cs_X5_get : CS yX5_get cX5_get 3 (some .int) 2 := ⟨⟨by decide +kernel, by decide +kernel, by decide +kernel⟩, mem0 (i := 745) (by decide +kernel) rfl, mem0 (i := 54) (by decide +kernel) rfl, by decide⟩
theorem cs_X5_isNothing : CS yX5_isNothing cX5_isNothing 2 (some .boolean) 1 := ⟨⟨by decide +kernel, by decide +kernel, by decide +kernel⟩, mem0 (i := 731) (by decide +kernel) rfl, mem0 (i := 54) (by decide +kernel) rfl, by decide⟩
theorem cs_X5_letGo : CS yX5_letGo cX5_letGo 3 (some .int) 1 := ⟨⟨by decide +kernel, by decide +kernel, by decide +kernel⟩, mem0 (i := 789) (by decide +kernel) rfl, mem0 (i := 54) (by decide +kernel) rfl, by decide⟩
theorem cs_X5_makeRow : CS yX5_makeRow cX5_makeRow 4 none 3 := ⟨⟨by decide +kernel, by decide +kernel, by decide +kernel⟩, mem0 (i := 777) (by decide +kernel) rfl, mem0 (i := 54) (by decide +kernel) rfl, by decide⟩
theorem cs_X5_put : CS yX5_put cX5_put 4 none 3 := ⟨⟨by decide +kernel, by decide +kernel, by decide +kernel⟩, mem0 (i := 766) (by decide +kernel) rfl, mem0 (i := 54) (by decide +kernel) rfl, by decide⟩
theorem cs_X5_refusalOf : CS yX5_refusalOf cX5_refusalOf 5 (some .int) 4 := ⟨⟨by decide +kernel, by decide +kernel, by decide +kernel⟩, mem0 (i := 727) (by decide +kernel) rfl, mem0 (i := 54) (by decide +kernel) rfl, by decide⟩
theorem cs_X6_init : CS yX6_init cX6_init 3 none 2 := ⟨⟨by decide +kernel, by decide +kernel, by decide +kernel⟩, mem0 (i := 86) (by decide +kernel) rfl, mem0 (i := 47) (by decide +kernel) rfl, by decide⟩
theorem cs_X6_empty : CS yX6_empty cX6_empty 2 (some .int) 0 := ⟨⟨by decide +kernel, by decide +kernel, by decide +kernel⟩, mem0 (i := 413) (by decide +kernel) rfl, mem0 (i := 47) (by decide +kernel) rfl, by decide⟩
theorem cs_X6_get : CS yX6_get cX6_get 4 (some .int) 2 := ⟨⟨by decide +kernel, by decide +kernel, by decide +kernel⟩, mem0 (i := 394) (by decide +kernel) rfl, mem0 (i := 47) (by decide +kernel) rfl, by decide⟩
theorem cs_X6_grow : CS yX6_grow cX6_grow 1 (some .int) 0 := ⟨⟨by decide +kernel, by decide +kernel, by decide +kernel⟩, mem0 (i := 375) (by decide +kernel) rfl, mem0 (i := 47) (by decide +kernel) rfl, by decide⟩
theorem cs_X6_has : CS yX6_has cX6_has 2 (some .boolean) 1 := ⟨⟨by decide +kernel, by decide +kernel, by decide +kernel⟩, mem0 (i := 384) (by decide +kernel) rfl, mem0 (i := 47) (by decide +kernel) rfl, by decide⟩
theorem cs_X6_isFull : CS yX6_isFull cX6_isFull 1 (some .boolean) 0 := ⟨⟨by decide +kernel, by decide +kernel, by decide +kernel⟩, mem0 (i := 368) (by decide +kernel) rfl, mem0 (i := 47) (by decide +kernel) rfl, by decide⟩
theorem cs_X6_put : CS yX6_put cX6_put 4 none 3 := ⟨⟨by decide +kernel, by decide +kernel, by decide +kernel⟩, mem0 (i := 380) (by decide +kernel) rfl, mem0 (i := 47) (by decide +kernel) rfl, by decide⟩
theorem cs_X6_takeAll : CS yX6_takeAll cX6_takeAll 4 none 1 := ⟨⟨by decide +kernel, by decide +kernel, by decide +kernel⟩, mem0 (i := 482) (by decide +kernel) rfl, mem0 (i := 47) (by decide +kernel) rfl, by decide⟩
theorem cs_X7_init : CS yX7_init cX7_init 2 none 1 := ⟨⟨by decide +kernel, by decide +kernel, by decide +kernel⟩, mem0 (i := 134) (by decide +kernel) rfl, mem0 (i := 49) (by decide +kernel) rfl, by decide⟩
theorem cs_X7_begin : CS yX7_begin cX7_begin 4 none 3 := ⟨⟨by decide +kernel, by decide +kernel, by decide +kernel⟩, mem0 (i := 510) (by decide +kernel) rfl, mem0 (i := 49) (by decide +kernel) rfl, by decide⟩
theorem cs_X7_beginAsTold : CS yX7_beginAsTold cX7_beginAsTold 1 none 0 := ⟨⟨by decide +kernel, by decide +kernel, by decide +kernel⟩, mem0 (i := 505) (by decide +kernel) rfl, mem0 (i := 49) (by decide +kernel) rfl, by decide⟩
theorem cs_X7_comeDownOn : CS yX7_comeDownOn cX7_comeDownOn 6 none 1 := ⟨⟨by decide +kernel, by decide +kernel, by decide +kernel⟩, mem0 (i := 558) (by decide +kernel) rfl, mem0 (i := 49) (by decide +kernel) rfl, by decide⟩
theorem cs_X7_endBy : CS yX7_endBy cX7_endBy 4 (some .int) 3 := ⟨⟨by decide +kernel, by decide +kernel, by decide +kernel⟩, mem0 (i := 583) (by decide +kernel) rfl, mem0 (i := 49) (by decide +kernel) rfl, by decide⟩
theorem cs_X7_endLate : CS yX7_endLate cX7_endLate 5 (some .int) 4 := ⟨⟨by decide +kernel, by decide +kernel, by decide +kernel⟩, mem0 (i := 645) (by decide +kernel) rfl, mem0 (i := 49) (by decide +kernel) rfl, by decide⟩
theorem cs_X7_goOn : CS yX7_goOn cX7_goOn 3 none 1 := ⟨⟨by decide +kernel, by decide +kernel, by decide +kernel⟩, mem0 (i := 518) (by decide +kernel) rfl, mem0 (i := 49) (by decide +kernel) rfl, by decide⟩
theorem cs_X7_goStep : CS yX7_goStep cX7_goStep 3 none 0 := ⟨⟨by decide +kernel, by decide +kernel, by decide +kernel⟩, mem0 (i := 522) (by decide +kernel) rfl, mem0 (i := 49) (by decide +kernel) rfl, by decide⟩
theorem cs_X7_holdByCord : CS yX7_holdByCord cX7_holdByCord 7 none 0 := ⟨⟨by decide +kernel, by decide +kernel, by decide +kernel⟩, mem0 (i := 538) (by decide +kernel) rfl, mem0 (i := 49) (by decide +kernel) rfl, by decide⟩
theorem cs_X7_isSoft : CS yX7_isSoft cX7_isSoft 2 (some .boolean) 1 := ⟨⟨by decide +kernel, by decide +kernel, by decide +kernel⟩, mem0 (i := 716) (by decide +kernel) rfl, mem0 (i := 49) (by decide +kernel) rfl, by decide⟩
theorem cs_X7_lateSide : CS yX7_lateSide cX7_lateSide 1 (some .int) 0 := ⟨⟨by decide +kernel, by decide +kernel, by decide +kernel⟩, mem0 (i := 526) (by decide +kernel) rfl, mem0 (i := 49) (by decide +kernel) rfl, by decide⟩
theorem cs_X7_meetNothing : CS yX7_meetNothing cX7_meetNothing 1 none 0 := ⟨⟨by decide +kernel, by decide +kernel, by decide +kernel⟩, mem0 (i := 712) (by decide +kernel) rfl, mem0 (i := 49) (by decide +kernel) rfl, by decide⟩
theorem cs_X7_metCup : CS yX7_metCup cX7_metCup 8 (some .int) 1 := ⟨⟨by decide +kernel, by decide +kernel, by decide +kernel⟩, mem0 (i := 551) (by decide +kernel) rfl, mem0 (i := 49) (by decide +kernel) rfl, by decide⟩
theorem cs_X7_oddsBy : CS yX7_oddsBy cX7_oddsBy 8 (some .int) 2 := ⟨⟨by decide +kernel, by decide +kernel, by decide +kernel⟩, mem0 (i := 653) (by decide +kernel) rfl, mem0 (i := 49) (by decide +kernel) rfl, by decide⟩
theorem cs_X7_wholeRoot : CS yX7_wholeRoot cX7_wholeRoot 3 (some .int) 1 := ⟨⟨by decide +kernel, by decide +kernel, by decide +kernel⟩, mem0 (i := 545) (by decide +kernel) rfl, mem0 (i := 49) (by decide +kernel) rfl, by decide⟩
theorem cs_X8_init : CS yX8_init cX8_init 2 none 0 := ⟨⟨by decide +kernel, by decide +kernel, by decide +kernel⟩, mem0 (i := 63) (by decide +kernel) rfl, mem0 (i := 45) (by decide +kernel) rfl, by decide⟩
theorem cs_X8_addCup : CS yX8_addCup cX8_addCup 7 (some .int) 6 := ⟨⟨by decide +kernel, by decide +kernel, by decide +kernel⟩, mem0 (i := 371) (by decide +kernel) rfl, mem0 (i := 45) (by decide +kernel) rfl, by decide⟩
theorem cs_X8_addPart : CS yX8_addPart cX8_addPart 5 (some .int) 4 := ⟨⟨by decide +kernel, by decide +kernel, by decide +kernel⟩, mem0 (i := 401) (by decide +kernel) rfl, mem0 (i := 45) (by decide +kernel) rfl, by decide⟩
theorem cs_X8_at : CS yX8_at cX8_at 3 (some .int) 2 := ⟨⟨by decide +kernel, by decide +kernel, by decide +kernel⟩, mem0 (i := 501) (by decide +kernel) rfl, mem0 (i := 45) (by decide +kernel) rfl, by decide⟩
theorem cs_X8_byteOf : CS yX8_byteOf cX8_byteOf 3 (some .int) 2 := ⟨⟨by decide +kernel, by decide +kernel, by decide +kernel⟩, mem0 (i := 420) (by decide +kernel) rfl, mem0 (i := 45) (by decide +kernel) rfl, by decide⟩
theorem cs_X8_cells : CS yX8_cells cX8_cells 3 (some .int) 2 := ⟨⟨by decide +kernel, by decide +kernel, by decide +kernel⟩, mem0 (i := 588) (by decide +kernel) rfl, mem0 (i := 45) (by decide +kernel) rfl, by decide⟩
theorem cs_X8_clear : CS yX8_clear cX8_clear 1 (some .int) 0 := ⟨⟨by decide +kernel, by decide +kernel, by decide +kernel⟩, mem0 (i := 700) (by decide +kernel) rfl, mem0 (i := 45) (by decide +kernel) rfl, by decide⟩
theorem cs_X8_copy : CS yX8_copy cX8_copy 6 (some .int) 5 := ⟨⟨by decide +kernel, by decide +kernel, by decide +kernel⟩, mem0 (i := 797) (by decide +kernel) rfl, mem0 (i := 45) (by decide +kernel) rfl, by decide⟩
theorem cs_X8_cord : CS yX8_cord cX8_cord 7 (some .int) 2 := ⟨⟨by decide +kernel, by decide +kernel, by decide +kernel⟩, mem0 (i := 704) (by decide +kernel) rfl, mem0 (i := 45) (by decide +kernel) rfl, by decide⟩
theorem cs_X8_count : CS yX8_count cX8_count 2 (some .int) 1 := ⟨⟨by decide +kernel, by decide +kernel, by decide +kernel⟩, mem0 (i := 566) (by decide +kernel) rfl, mem0 (i := 45) (by decide +kernel) rfl, by decide⟩
theorem cs_X8_cup : CS yX8_cup cX8_cup 7 (some .int) 5 := ⟨⟨by decide +kernel, by decide +kernel, by decide +kernel⟩, mem0 (i := 364) (by decide +kernel) rfl, mem0 (i := 45) (by decide +kernel) rfl, by decide⟩
theorem cs_X8_down : CS yX8_down cX8_down 4 (some .int) 2 := ⟨⟨by decide +kernel, by decide +kernel, by decide +kernel⟩, mem0 (i := 708) (by decide +kernel) rfl, mem0 (i := 45) (by decide +kernel) rfl, by decide⟩
theorem cs_X8_drop : CS yX8_drop cX8_drop 2 (some .int) 1 := ⟨⟨by decide +kernel, by decide +kernel, by decide +kernel⟩, mem0 (i := 784) (by decide +kernel) rfl, mem0 (i := 45) (by decide +kernel) rfl, by decide⟩
theorem cs_X8_end : CS yX8_end cX8_end 3 (some .int) 1 := ⟨⟨by decide +kernel, by decide +kernel, by decide +kernel⟩, mem0 (i := 562) (by decide +kernel) rfl, mem0 (i := 45) (by decide +kernel) rfl, by decide⟩
theorem cs_X8_ends : CS yX8_ends cX8_ends 4 (some .int) 2 := ⟨⟨by decide +kernel, by decide +kernel, by decide +kernel⟩, mem0 (i := 575) (by decide +kernel) rfl, mem0 (i := 45) (by decide +kernel) rfl, by decide⟩
theorem cs_X8_film : CS yX8_film cX8_film 7 (some .int) 4 := ⟨⟨by decide +kernel, by decide +kernel, by decide +kernel⟩, mem0 (i := 762) (by decide +kernel) rfl, mem0 (i := 45) (by decide +kernel) rfl, by decide⟩
theorem cs_X8_filmed : CS yX8_filmed cX8_filmed 10 (some .int) 5 := ⟨⟨by decide +kernel, by decide +kernel, by decide +kernel⟩, mem0 (i := 720) (by decide +kernel) rfl, mem0 (i := 45) (by decide +kernel) rfl, by decide⟩
theorem cs_X8_image : CS yX8_image cX8_image 1 (some .int) 0 := ⟨⟨by decide +kernel, by decide +kernel, by decide +kernel⟩, mem0 (i := 749) (by decide +kernel) rfl, mem0 (i := 45) (by decide +kernel) rfl, by decide⟩
theorem cs_X8_isIn : CS yX8_isIn cX8_isIn 3 (some .boolean) 3 := ⟨⟨by decide +kernel, by decide +kernel, by decide +kernel⟩, mem0 (i := 356) (by decide +kernel) rfl, mem0 (i := 45) (by decide +kernel) rfl, by decide⟩
theorem cs_X8_isRow : CS yX8_isRow cX8_isRow 2 (some .boolean) 2 := ⟨⟨by decide +kernel, by decide +kernel, by decide +kernel⟩, mem0 (i := 723) (by decide +kernel) rfl, mem0 (i := 45) (by decide +kernel) rfl, by decide⟩
theorem cs_X8_isShown : CS yX8_isShown cX8_isShown 7 (some .boolean) 4 := ⟨⟨by decide +kernel, by decide +kernel, by decide +kernel⟩, mem0 (i := 740) (by decide +kernel) rfl, mem0 (i := 45) (by decide +kernel) rfl, by decide⟩
theorem cs_X8_item : CS yX8_item cX8_item 6 (some .int) 4 := ⟨⟨by decide +kernel, by decide +kernel, by decide +kernel⟩, mem0 (i := 793) (by decide +kernel) rfl, mem0 (i := 45) (by decide +kernel) rfl, by decide⟩
theorem cs_X8_mended : CS yX8_mended cX8_mended 8 (some .int) 2 := ⟨⟨by decide +kernel, by decide +kernel, by decide +kernel⟩, mem0 (i := 641) (by decide +kernel) rfl, mem0 (i := 45) (by decide +kernel) rfl, by decide⟩
theorem cs_X8_middle : CS yX8_middle cX8_middle 4 (some .int) 2 := ⟨⟨by decide +kernel, by decide +kernel, by decide +kernel⟩, mem0 (i := 620) (by decide +kernel) rfl, mem0 (i := 45) (by decide +kernel) rfl, by decide⟩
theorem cs_X8_most : CS yX8_most cX8_most 3 (some .int) 2 := ⟨⟨by decide +kernel, by decide +kernel, by decide +kernel⟩, mem0 (i := 666) (by decide +kernel) rfl, mem0 (i := 45) (by decide +kernel) rfl, by decide⟩
theorem cs_X8_odds : CS yX8_odds cX8_odds 2 (some .int) 1 := ⟨⟨by decide +kernel, by decide +kernel, by decide +kernel⟩, mem0 (i := 649) (by decide +kernel) rfl, mem0 (i := 45) (by decide +kernel) rfl, by decide⟩
theorem cs_X8_part : CS yX8_part cX8_part 5 (some .int) 3 := ⟨⟨by decide +kernel, by decide +kernel, by decide +kernel⟩, mem0 (i := 398) (by decide +kernel) rfl, mem0 (i := 45) (by decide +kernel) rfl, by decide⟩
theorem cs_X8_pull : CS yX8_pull cX8_pull 3 (some .int) 2 := ⟨⟨by decide +kernel, by decide +kernel, by decide +kernel⟩, mem0 (i := 405) (by decide +kernel) rfl, mem0 (i := 45) (by decide +kernel) rfl, by decide⟩
theorem cs_X8_pulls : CS yX8_pulls cX8_pulls 2 (some .int) 0 := ⟨⟨by decide +kernel, by decide +kernel, by decide +kernel⟩, mem0 (i := 488) (by decide +kernel) rfl, mem0 (i := 45) (by decide +kernel) rfl, by decide⟩
theorem cs_X8_restore : CS yX8_restore cX8_restore 1 (some .int) 0 := ⟨⟨by decide +kernel, by decide +kernel, by decide +kernel⟩, mem0 (i := 758) (by decide +kernel) rfl, mem0 (i := 45) (by decide +kernel) rfl, by decide⟩
theorem cs_X8_row : CS yX8_row cX8_row 5 (some .int) 2 := ⟨⟨by decide +kernel, by decide +kernel, by decide +kernel⟩, mem0 (i := 696) (by decide +kernel) rfl, mem0 (i := 45) (by decide +kernel) rfl, by decide⟩
theorem cs_X8_set : CS yX8_set cX8_set 4 (some .int) 2 := ⟨⟨by decide +kernel, by decide +kernel, by decide +kernel⟩, mem0 (i := 353) (by decide +kernel) rfl, mem0 (i := 45) (by decide +kernel) rfl, by decide⟩
theorem cs_X8_sheet : CS yX8_sheet cX8_sheet 4 (some .int) 3 := ⟨⟨by decide +kernel, by decide +kernel, by decide +kernel⟩, mem0 (i := 773) (by decide +kernel) rfl, mem0 (i := 45) (by decide +kernel) rfl, by decide⟩
theorem cs_X8_still : CS yX8_still cX8_still 1 (some .int) 0 := ⟨⟨by decide +kernel, by decide +kernel, by decide +kernel⟩, mem0 (i := 409) (by decide +kernel) rfl, mem0 (i := 45) (by decide +kernel) rfl, by decide⟩
theorem cs_X8_told : CS yX8_told cX8_told 3 (some .int) 2 := ⟨⟨by decide +kernel, by decide +kernel, by decide +kernel⟩, mem0 (i := 388) (by decide +kernel) rfl, mem0 (i := 45) (by decide +kernel) rfl, by decide⟩
theorem cs_X8_toy : CS yX8_toy cX8_toy 2 (some .int) 0 := ⟨⟨by decide +kernel, by decide +kernel, by decide +kernel⟩, mem0 (i := 432) (by decide +kernel) rfl, mem0 (i := 45) (by decide +kernel) rfl, by decide⟩
theorem cs_X8_trick : CS yX8_trick cX8_trick 7 (some .int) 4 := ⟨⟨by decide +kernel, by decide +kernel, by decide +kernel⟩, mem0 (i := 662) (by decide +kernel) rfl, mem0 (i := 45) (by decide +kernel) rfl, by decide⟩
theorem cs_X8_type : CS yX8_type cX8_type 5 (some .int) 2 := ⟨⟨by decide +kernel, by decide +kernel, by decide +kernel⟩, mem0 (i := 417) (by decide +kernel) rfl, mem0 (i := 45) (by decide +kernel) rfl, by decide⟩
theorem cs_X8_which : CS yX8_which cX8_which 5 (some .int) 0 := ⟨⟨by decide +kernel, by decide +kernel, by decide +kernel⟩, mem0 (i := 658) (by decide +kernel) rfl, mem0 (i := 45) (by decide +kernel) rfl, by decide⟩
theorem cs_X9_init : CS yX9_init cX9_init 2 none 0 := ⟨⟨by decide +kernel, by decide +kernel, by decide +kernel⟩, mem0 (i := 806) (by decide +kernel) rfl, mem0 (i := 55) (by decide +kernel) rfl, by decide⟩
theorem cs_X9_at : CS yX9_at cX9_at 3 (some .int) 2 := ⟨⟨by decide +kernel, by decide +kernel, by decide +kernel⟩, mem0 (i := 1037) (by decide +kernel) rfl, mem0 (i := 55) (by decide +kernel) rfl, by decide⟩
theorem cs_X9_cast : CS yX9_cast cX9_cast 2 (some .int) 2 := ⟨⟨by decide +kernel, by decide +kernel, by decide +kernel⟩, mem0 (i := 1175) (by decide +kernel) rfl, mem0 (i := 55) (by decide +kernel) rfl, by decide⟩
theorem cs_X9_cells : CS yX9_cells cX9_cells 9 (some .int) 2 := ⟨⟨by decide +kernel, by decide +kernel, by decide +kernel⟩, mem0 (i := 1077) (by decide +kernel) rfl, mem0 (i := 55) (by decide +kernel) rfl, by decide⟩
theorem cs_X9_clear : CS yX9_clear cX9_clear 2 (some .int) 0 := ⟨⟨by decide +kernel, by decide +kernel, by decide +kernel⟩, mem0 (i := 1130) (by decide +kernel) rfl, mem0 (i := 55) (by decide +kernel) rfl, by decide⟩
theorem cs_X9_copy : CS yX9_copy cX9_copy 7 (some .int) 5 := ⟨⟨by decide +kernel, by decide +kernel, by decide +kernel⟩, mem0 (i := 1191) (by decide +kernel) rfl, mem0 (i := 55) (by decide +kernel) rfl, by decide⟩
theorem cs_X9_cord : CS yX9_cord cX9_cord 8 (some .int) 2 := ⟨⟨by decide +kernel, by decide +kernel, by decide +kernel⟩, mem0 (i := 1134) (by decide +kernel) rfl, mem0 (i := 55) (by decide +kernel) rfl, by decide⟩
theorem cs_X9_count : CS yX9_count cX9_count 4 (some .int) 1 := ⟨⟨by decide +kernel, by decide +kernel, by decide +kernel⟩, mem0 (i := 1033) (by decide +kernel) rfl, mem0 (i := 55) (by decide +kernel) rfl, by decide⟩
theorem cs_X9_cup : CS yX9_cup cX9_cup 6 (some .int) 5 := ⟨⟨by decide +kernel, by decide +kernel, by decide +kernel⟩, mem0 (i := 947) (by decide +kernel) rfl, mem0 (i := 55) (by decide +kernel) rfl, by decide⟩
theorem cs_X9_cupClause : CS yX9_cupClause cX9_cupClause 2 none 1 := ⟨⟨by decide +kernel, by decide +kernel, by decide +kernel⟩, mem0 (i := 999) (by decide +kernel) rfl, mem0 (i := 55) (by decide +kernel) rfl, by decide⟩
theorem cs_X9_cupIs : CS yX9_cupIs cX9_cupIs 7 none 6 := ⟨⟨by decide +kernel, by decide +kernel, by decide +kernel⟩, mem0 (i := 954) (by decide +kernel) rfl, mem0 (i := 55) (by decide +kernel) rfl, by decide⟩
theorem cs_X9_digit : CS yX9_digit cX9_digit 2 (some .int) 0 := ⟨⟨by decide +kernel, by decide +kernel, by decide +kernel⟩, mem0 (i := 1015) (by decide +kernel) rfl, mem0 (i := 55) (by decide +kernel) rfl, by decide⟩
theorem cs_X9_down : CS yX9_down cX9_down 5 (some .int) 2 := ⟨⟨by decide +kernel, by decide +kernel, by decide +kernel⟩, mem0 (i := 1138) (by decide +kernel) rfl, mem0 (i := 55) (by decide +kernel) rfl, by decide⟩
theorem cs_X9_drop : CS yX9_drop cX9_drop 2 (some .int) 1 := ⟨⟨by decide +kernel, by decide +kernel, by decide +kernel⟩, mem0 (i := 1183) (by decide +kernel) rfl, mem0 (i := 55) (by decide +kernel) rfl, by decide⟩
theorem cs_X9_end : CS yX9_end cX9_end 2 (some .int) 1 := ⟨⟨by decide +kernel, by decide +kernel, by decide +kernel⟩, mem0 (i := 1063) (by decide +kernel) rfl, mem0 (i := 55) (by decide +kernel) rfl, by decide⟩
theorem cs_X9_endBy : CS yX9_endBy cX9_endBy 5 (some .int) 2 := ⟨⟨by decide +kernel, by decide +kernel, by decide +kernel⟩, mem0 (i := 1073) (by decide +kernel) rfl, mem0 (i := 55) (by decide +kernel) rfl, by decide⟩
theorem cs_X9_ends : CS yX9_ends cX9_ends 3 (some .int) 2 := ⟨⟨by decide +kernel, by decide +kernel, by decide +kernel⟩, mem0 (i := 1068) (by decide +kernel) rfl, mem0 (i := 55) (by decide +kernel) rfl, by decide⟩
theorem cs_X9_film : CS yX9_film cX9_film 7 (some .int) 4 := ⟨⟨by decide +kernel, by decide +kernel, by decide +kernel⟩, mem0 (i := 1172) (by decide +kernel) rfl, mem0 (i := 55) (by decide +kernel) rfl, by decide⟩
theorem cs_X9_filmed : CS yX9_filmed cX9_filmed 12 (some .int) 5 := ⟨⟨by decide +kernel, by decide +kernel, by decide +kernel⟩, mem0 (i := 1142) (by decide +kernel) rfl, mem0 (i := 55) (by decide +kernel) rfl, by decide⟩
theorem cs_X9_finds : CS yX9_finds cX9_finds 5 (some .int) 4 := ⟨⟨by decide +kernel, by decide +kernel, by decide +kernel⟩, mem0 (i := 1153) (by decide +kernel) rfl, mem0 (i := 55) (by decide +kernel) rfl, by decide⟩
theorem cs_X9_gives : CS yX9_gives cX9_gives 4 (some .int) 3 := ⟨⟨by decide +kernel, by decide +kernel, by decide +kernel⟩, mem0 (i := 1168) (by decide +kernel) rfl, mem0 (i := 55) (by decide +kernel) rfl, by decide⟩
theorem cs_X9_grid : CS yX9_grid cX9_grid 2 none 0 := ⟨⟨by decide +kernel, by decide +kernel, by decide +kernel⟩, mem0 (i := 1081) (by decide +kernel) rfl, mem0 (i := 55) (by decide +kernel) rfl, by decide⟩
theorem cs_X9_groups : CS yX9_groups cX9_groups 5 none 1 := ⟨⟨by decide +kernel, by decide +kernel, by decide +kernel⟩, mem0 (i := 1085) (by decide +kernel) rfl, mem0 (i := 55) (by decide +kernel) rfl, by decide⟩
theorem cs_X9_has : CS yX9_has cX9_has 3 (some .boolean) 1 := ⟨⟨by decide +kernel, by decide +kernel, by decide +kernel⟩, mem0 (i := 1007) (by decide +kernel) rfl, mem0 (i := 55) (by decide +kernel) rfl, by decide⟩
theorem cs_X9_here : CS yX9_here cX9_here 1 (some .int) 0 := ⟨⟨by decide +kernel, by decide +kernel, by decide +kernel⟩, mem0 (i := 1011) (by decide +kernel) rfl, mem0 (i := 55) (by decide +kernel) rfl, by decide⟩
theorem cs_X9_image : CS yX9_image cX9_image 2 (some .int) 0 := ⟨⟨by decide +kernel, by decide +kernel, by decide +kernel⟩, mem0 (i := 1158) (by decide +kernel) rfl, mem0 (i := 55) (by decide +kernel) rfl, by decide⟩
theorem cs_X9_in : CS yX9_in cX9_in 6 (some .boolean) 3 := ⟨⟨by decide +kernel, by decide +kernel, by decide +kernel⟩, mem0 (i := 939) (by decide +kernel) rfl, mem0 (i := 55) (by decide +kernel) rfl, by decide⟩
theorem cs_X9_isCup : CS yX9_isCup cX9_isCup 2 (some .boolean) 1 := ⟨⟨by decide +kernel, by decide +kernel, by decide +kernel⟩, mem0 (i := 962) (by decide +kernel) rfl, mem0 (i := 55) (by decide +kernel) rfl, by decide⟩
theorem cs_X9_isLane : CS yX9_isLane cX9_isLane 1 (some .boolean) 1 := ⟨⟨by decide +kernel, by decide +kernel, by decide +kernel⟩, mem0 (i := 1148) (by decide +kernel) rfl, mem0 (i := 55) (by decide +kernel) rfl, by decide⟩
theorem cs_X9_isRing : CS yX9_isRing cX9_isRing 8 (some .boolean) 4 := ⟨⟨by decide +kernel, by decide +kernel, by decide +kernel⟩, mem0 (i := 1094) (by decide +kernel) rfl, mem0 (i := 55) (by decide +kernel) rfl, by decide⟩
theorem cs_X9_isSheet : CS yX9_isSheet cX9_isSheet 1 (some .boolean) 1 := ⟨⟨by decide +kernel, by decide +kernel, by decide +kernel⟩, mem0 (i := 1145) (by decide +kernel) rfl, mem0 (i := 55) (by decide +kernel) rfl, by decide⟩
theorem cs_X9_item : CS yX9_item cX9_item 6 (some .int) 4 := ⟨⟨by decide +kernel, by decide +kernel, by decide +kernel⟩, mem0 (i := 1187) (by decide +kernel) rfl, mem0 (i := 55) (by decide +kernel) rfl, by decide⟩
theorem cs_X9_lays : CS yX9_lays cX9_lays 4 none 0 := ⟨⟨by decide +kernel, by decide +kernel, by decide +kernel⟩, mem0 (i := 1045) (by decide +kernel) rfl, mem0 (i := 55) (by decide +kernel) rfl, by decide⟩
theorem cs_X9_meets : CS yX9_meets cX9_meets 9 (some .boolean) 3 := ⟨⟨by decide +kernel, by decide +kernel, by decide +kernel⟩, mem0 (i := 1056) (by decide +kernel) rfl, mem0 (i := 55) (by decide +kernel) rfl, by decide⟩
theorem cs_X9_mended : CS yX9_mended cX9_mended 5 (some .int) 2 := ⟨⟨by decide +kernel, by decide +kernel, by decide +kernel⟩, mem0 (i := 1099) (by decide +kernel) rfl, mem0 (i := 55) (by decide +kernel) rfl, by decide⟩
theorem cs_X9_middle : CS yX9_middle cX9_middle 7 (some .int) 2 := ⟨⟨by decide +kernel, by decide +kernel, by decide +kernel⟩, mem0 (i := 1089) (by decide +kernel) rfl, mem0 (i := 55) (by decide +kernel) rfl, by decide⟩
theorem cs_X9_most : CS yX9_most cX9_most 9 (some .int) 2 := ⟨⟨by decide +kernel, by decide +kernel, by decide +kernel⟩, mem0 (i := 1120) (by decide +kernel) rfl, mem0 (i := 55) (by decide +kernel) rfl, by decide⟩
theorem cs_X9_number : CS yX9_number cX9_number 5 (some .int) 2 := ⟨⟨by decide +kernel, by decide +kernel, by decide +kernel⟩, mem0 (i := 1021) (by decide +kernel) rfl, mem0 (i := 55) (by decide +kernel) rfl, by decide⟩
theorem cs_X9_odds : CS yX9_odds cX9_odds 2 (some .int) 1 := ⟨⟨by decide +kernel, by decide +kernel, by decide +kernel⟩, mem0 (i := 1103) (by decide +kernel) rfl, mem0 (i := 55) (by decide +kernel) rfl, by decide⟩
theorem cs_X9_oddsOf : CS yX9_oddsOf cX9_oddsOf 5 (some .int) 1 := ⟨⟨by decide +kernel, by decide +kernel, by decide +kernel⟩, mem0 (i := 1107) (by decide +kernel) rfl, mem0 (i := 55) (by decide +kernel) rfl, by decide⟩
theorem cs_X9_part : CS yX9_part cX9_part 4 (some .int) 3 := ⟨⟨by decide +kernel, by decide +kernel, by decide +kernel⟩, mem0 (i := 967) (by decide +kernel) rfl, mem0 (i := 55) (by decide +kernel) rfl, by decide⟩
theorem cs_X9_partClause : CS yX9_partClause cX9_partClause 2 none 1 := ⟨⟨by decide +kernel, by decide +kernel, by decide +kernel⟩, mem0 (i := 1025) (by decide +kernel) rfl, mem0 (i := 55) (by decide +kernel) rfl, by decide⟩
theorem cs_X9_partIs : CS yX9_partIs cX9_partIs 5 none 4 := ⟨⟨by decide +kernel, by decide +kernel, by decide +kernel⟩, mem0 (i := 971) (by decide +kernel) rfl, mem0 (i := 55) (by decide +kernel) rfl, by decide⟩
theorem cs_X9_pull : CS yX9_pull cX9_pull 3 (some .int) 2 := ⟨⟨by decide +kernel, by decide +kernel, by decide +kernel⟩, mem0 (i := 975) (by decide +kernel) rfl, mem0 (i := 55) (by decide +kernel) rfl, by decide⟩
theorem cs_X9_pulls : CS yX9_pulls cX9_pulls 3 (some .int) 0 := ⟨⟨by decide +kernel, by decide +kernel, by decide +kernel⟩, mem0 (i := 1029) (by decide +kernel) rfl, mem0 (i := 55) (by decide +kernel) rfl, by decide⟩
theorem cs_X9_readAll : CS yX9_readAll cX9_readAll 4 (some .int) 1 := ⟨⟨by decide +kernel, by decide +kernel, by decide +kernel⟩, mem0 (i := 995) (by decide +kernel) rfl, mem0 (i := 55) (by decide +kernel) rfl, by decide⟩
theorem cs_X9_restore : CS yX9_restore cX9_restore 2 (some .int) 0 := ⟨⟨by decide +kernel, by decide +kernel, by decide +kernel⟩, mem0 (i := 1165) (by decide +kernel) rfl, mem0 (i := 55) (by decide +kernel) rfl, by decide⟩
theorem cs_X9_root : CS yX9_root cX9_root 2 (some .int) 1 := ⟨⟨by decide +kernel, by decide +kernel, by decide +kernel⟩, mem0 (i := 1052) (by decide +kernel) rfl, mem0 (i := 55) (by decide +kernel) rfl, by decide⟩
theorem cs_X9_row : CS yX9_row cX9_row 5 (some .int) 2 := ⟨⟨by decide +kernel, by decide +kernel, by decide +kernel⟩, mem0 (i := 1126) (by decide +kernel) rfl, mem0 (i := 55) (by decide +kernel) rfl, by decide⟩
theorem cs_X9_saves : CS yX9_saves cX9_saves 4 (some .int) 3 := ⟨⟨by decide +kernel, by decide +kernel, by decide +kernel⟩, mem0 (i := 1161) (by decide +kernel) rfl, mem0 (i := 55) (by decide +kernel) rfl, by decide⟩
theorem cs_X9_set : CS yX9_set cX9_set 4 (some .int) 2 := ⟨⟨by decide +kernel, by decide +kernel, by decide +kernel⟩, mem0 (i := 935) (by decide +kernel) rfl, mem0 (i := 55) (by decide +kernel) rfl, by decide⟩
theorem cs_X9_sheet : CS yX9_sheet cX9_sheet 5 (some .int) 3 := ⟨⟨by decide +kernel, by decide +kernel, by decide +kernel⟩, mem0 (i := 1179) (by decide +kernel) rfl, mem0 (i := 55) (by decide +kernel) rfl, by decide⟩
theorem cs_X9_signed : CS yX9_signed cX9_signed 3 (some .int) 0 := ⟨⟨by decide +kernel, by decide +kernel, by decide +kernel⟩, mem0 (i := 1003) (by decide +kernel) rfl, mem0 (i := 55) (by decide +kernel) rfl, by decide⟩
theorem cs_X9_size : CS yX9_size cX9_size 1 (some .int) 1 := ⟨⟨by decide +kernel, by decide +kernel, by decide +kernel⟩, mem0 (i := 1059) (by decide +kernel) rfl, mem0 (i := 55) (by decide +kernel) rfl, by decide⟩
theorem cs_X9_still : CS yX9_still cX9_still 2 (some .int) 0 := ⟨⟨by decide +kernel, by decide +kernel, by decide +kernel⟩, mem0 (i := 979) (by decide +kernel) rfl, mem0 (i := 55) (by decide +kernel) rfl, by decide⟩
theorem cs_X9_swings : CS yX9_swings cX9_swings 7 none 1 := ⟨⟨by decide +kernel, by decide +kernel, by decide +kernel⟩, mem0 (i := 1049) (by decide +kernel) rfl, mem0 (i := 55) (by decide +kernel) rfl, by decide⟩
theorem cs_X9_told : CS yX9_told cX9_told 3 (some .int) 2 := ⟨⟨by decide +kernel, by decide +kernel, by decide +kernel⟩, mem0 (i := 958) (by decide +kernel) rfl, mem0 (i := 55) (by decide +kernel) rfl, by decide⟩
theorem cs_X9_toy : CS yX9_toy cX9_toy 3 (some .int) 0 := ⟨⟨by decide +kernel, by decide +kernel, by decide +kernel⟩, mem0 (i := 991) (by decide +kernel) rfl, mem0 (i := 55) (by decide +kernel) rfl, by decide⟩
theorem cs_X9_trick : CS yX9_trick cX9_trick 5 (some .int) 4 := ⟨⟨by decide +kernel, by decide +kernel, by decide +kernel⟩, mem0 (i := 1115) (by decide +kernel) rfl, mem0 (i := 55) (by decide +kernel) rfl, by decide⟩
theorem cs_X9_tries : CS yX9_tries cX9_tries 5 none 0 := ⟨⟨by decide +kernel, by decide +kernel, by decide +kernel⟩, mem0 (i := 1041) (by decide +kernel) rfl, mem0 (i := 55) (by decide +kernel) rfl, by decide⟩
theorem cs_X9_type : CS yX9_type cX9_type 5 (some .int) 2 := ⟨⟨by decide +kernel, by decide +kernel, by decide +kernel⟩, mem0 (i := 983) (by decide +kernel) rfl, mem0 (i := 55) (by decide +kernel) rfl, by decide⟩
theorem cs_X9_which : CS yX9_which cX9_which 5 (some .int) 0 := ⟨⟨by decide +kernel, by decide +kernel, by decide +kernel⟩, mem0 (i := 1111) (by decide +kernel) rfl, mem0 (i := 55) (by decide +kernel) rfl, by decide⟩
theorem cs_J6_compare_7cf53 : CS yJ6_compare_7cf53 cJ6_compare_7cf53 2 (some .int) 2 := ⟨⟨by decide +kernel, by decide +kernel, by decide +kernel⟩, mem0 (i := 529) (by decide +kernel) rfl, mem0 (i := 56) (by decide +kernel) rfl, by decide⟩
theorem cs_J9_abs_0f7a4 : CS yJ9_abs_0f7a4 cJ9_abs_0f7a4 1 (some .int) 1 := ⟨⟨by decide +kernel, by decide +kernel, by decide +kernel⟩, mem0 (i := 554) (by decide +kernel) rfl, mem0 (i := 48) (by decide +kernel) rfl, by decide⟩
theorem cs_J9_floorMod_7cf53 : CS yJ9_floorMod_7cf53 cJ9_floorMod_7cf53 3 (some .int) 2 := ⟨⟨by decide +kernel, by decide +kernel, by decide +kernel⟩, mem0 (i := 541) (by decide +kernel) rfl, mem0 (i := 48) (by decide +kernel) rfl, by decide⟩
theorem cs_J9_max_7cf53 : CS yJ9_max_7cf53 cJ9_max_7cf53 2 (some .int) 2 := ⟨⟨by decide +kernel, by decide +kernel, by decide +kernel⟩, mem0 (i := 90) (by decide +kernel) rfl, mem0 (i := 48) (by decide +kernel) rfl, by decide⟩
theorem cs_J9_min_7cf53 : CS yJ9_min_7cf53 cJ9_min_7cf53 2 (some .int) 2 := ⟨⟨by decide +kernel, by decide +kernel, by decide +kernel⟩, mem0 (i := 473) (by decide +kernel) rfl, mem0 (i := 48) (by decide +kernel) rfl, by decide⟩
theorem cs_J7_fill_53178 : CS yJ7_fill_53178 cJ7_fill_53178 4 none 2 := ⟨⟨by decide +kernel, by decide +kernel, by decide +kernel⟩, mem0 (i := 780) (by decide +kernel) rfl, mem0 (i := 57) (by decide +kernel) rfl, by decide⟩
theorem cl_X0_13 : CLk RX0 RX0 TX0 5 0 1 13 false := ⟨rfl, in_X0, by decide, rfl, fun _ => mem0 (i := 247) (by decide +kernel) rfl, (by intro h; cases h)⟩
theorem cl_X0_17 : CLk RX0 RX0 TX0 5 0 2 17 false := ⟨rfl, in_X0, by decide, rfl, fun _ => mem0 (i := 248) (by decide +kernel) rfl, (by intro h; cases h)⟩
theorem cl_X0_33 : CLk RX0 RX0 TX0 5 0 3 33 false := ⟨rfl, in_X0, by decide, rfl, fun _ => mem0 (i := 249) (by decide +kernel) rfl, (by intro h; cases h)⟩
theorem cl_X0_37 : CLk RX0 RX0 TX0 5 0 4 37 false := ⟨rfl, in_X0, by decide, rfl, fun _ => mem0 (i := 251) (by decide +kernel) rfl, (by intro h; cases h)⟩
theorem cl_X0_9 : CLk RX0 RX0 TX0 5 0 0 9 false := ⟨rfl, in_X0, by decide, rfl, fun _ => mem0 (i := 246) (by decide +kernel) rfl, (by intro h; cases h)⟩
theorem cl_X1_15 : CLk RX1 RX1 TX1 9 1 1 15 false := ⟨rfl, in_X1, by decide, rfl, fun _ => mem0 (i := 143) (by decide +kernel) rfl, (by intro h; cases h)⟩
theorem cl_X1_19 : CLk RX1 RX1 TX1 9 1 2 19 false := ⟨rfl, in_X1, by decide, rfl, fun _ => mem0 (i := 144) (by decide +kernel) rfl, (by intro h; cases h)⟩
theorem cl_X1_22 : CLk RX1 RX1 TX1 9 1 3 22 false := ⟨rfl, in_X1, by decide, rfl, fun _ => mem0 (i := 145) (by decide +kernel) rfl, (by intro h; cases h)⟩
theorem cl_X1_25 : CLk RX1 RX1 TX1 9 1 4 25 false := ⟨rfl, in_X1, by decide, rfl, fun _ => mem0 (i := 146) (by decide +kernel) rfl, (by intro h; cases h)⟩
theorem cl_X1_28 : CLk RX1 RX1 TX1 9 1 5 28 false := ⟨rfl, in_X1, by decide, rfl, fun _ => mem0 (i := 147) (by decide +kernel) rfl, (by intro h; cases h)⟩
theorem cl_X1_31 : CLk RX1 RX1 TX1 9 1 6 31 false := ⟨rfl, in_X1, by decide, rfl, fun _ => mem0 (i := 149) (by decide +kernel) rfl, (by intro h; cases h)⟩
theorem cl_X1_34 : CLk RX1 RX1 TX1 9 1 7 34 false := ⟨rfl, in_X1, by decide, rfl, fun _ => mem0 (i := 151) (by decide +kernel) rfl, (by intro h; cases h)⟩
theorem cl_X1_37 : CLk RX1 RX1 TX1 9 1 8 37 false := ⟨rfl, in_X1, by decide, rfl, fun _ => mem0 (i := 154) (by decide +kernel) rfl, (by intro h; cases h)⟩
theorem cl_X1_9 : CLk RX1 RX1 TX1 9 1 0 9 false := ⟨rfl, in_X1, by decide, rfl, fun _ => mem0 (i := 142) (by decide +kernel) rfl, (by intro h; cases h)⟩
theorem cl_X2_11 : CLk RX2 RX2 TX2 1 2 0 11 false := ⟨rfl, in_X2, by decide, rfl, fun _ => mem0 (i := 272) (by decide +kernel) rfl, (by intro h; cases h)⟩
theorem cl_X3_20 : CLk RX3 RX3 TX3 6 3 4 20 false := ⟨rfl, in_X3, by decide, rfl, fun _ => mem0 (i := 289) (by decide +kernel) rfl, (by intro h; cases h)⟩
theorem cl_X3_24 : CLk RX3 RX3 TX3 6 3 5 24 false := ⟨rfl, in_X3, by decide, rfl, fun _ => mem0 (i := 291) (by decide +kernel) rfl, (by intro h; cases h)⟩
theorem cl_X3_27 : CLk RX3 RX3 TX3 6 3 1 27 false := ⟨rfl, in_X3, by decide, rfl, fun _ => mem0 (i := 285) (by decide +kernel) rfl, (by intro h; cases h)⟩
theorem cl_X3_53 : CLk RX3 RX3 TX3 6 3 2 53 false := ⟨rfl, in_X3, by decide, rfl, fun _ => mem0 (i := 287) (by decide +kernel) rfl, (by intro h; cases h)⟩
theorem cl_X3_56 : CLk RX3 RX3 TX3 6 3 3 56 false := ⟨rfl, in_X3, by decide, rfl, fun _ => mem0 (i := 288) (by decide +kernel) rfl, (by intro h; cases h)⟩
theorem cl_X3_9 : CLk RX3 RX3 TX3 6 3 0 9 false := ⟨rfl, in_X3, by decide, rfl, fun _ => mem0 (i := 284) (by decide +kernel) rfl, (by intro h; cases h)⟩
theorem cl_X4_18 : CLk RX4 RX4 TX4 4 4 0 18 false := ⟨rfl, in_X4, by decide, rfl, fun _ => mem0 (i := 110) (by decide +kernel) rfl, (by intro h; cases h)⟩
theorem cl_X4_28 : CLk RX4 RX4 TX4 4 4 1 28 false := ⟨rfl, in_X4, by decide, rfl, fun _ => mem0 (i := 113) (by decide +kernel) rfl, (by intro h; cases h)⟩
theorem cl_X4_32 : CLk RX4 RX4 TX4 4 4 2 32 false := ⟨rfl, in_X4, by decide, rfl, fun _ => mem0 (i := 117) (by decide +kernel) rfl, (by intro h; cases h)⟩
theorem cl_X4_35 : CLk RX4 RX4 TX4 4 4 3 35 false := ⟨rfl, in_X4, by decide, rfl, fun _ => mem0 (i := 119) (by decide +kernel) rfl, (by intro h; cases h)⟩
theorem cl_X5_15 : CLk RX5 RX5 TX5 3 5 1 15 false := ⟨rfl, in_X5, by decide, rfl, fun _ => mem0 (i := 315) (by decide +kernel) rfl, (by intro h; cases h)⟩
theorem cl_X5_20 : CLk RX5 RX5 TX5 3 5 2 20 false := ⟨rfl, in_X5, by decide, rfl, fun _ => mem0 (i := 316) (by decide +kernel) rfl, (by intro h; cases h)⟩
theorem cl_X5_9 : CLk RX5 RX5 TX5 3 5 0 9 false := ⟨rfl, in_X5, by decide, rfl, fun _ => mem0 (i := 313) (by decide +kernel) rfl, (by intro h; cases h)⟩
theorem cl_X6_17 : CLk RX6 RX6 TX6 3 6 0 17 false := ⟨rfl, in_X6, by decide, rfl, fun _ => mem0 (i := 93) (by decide +kernel) rfl, (by intro h; cases h)⟩
theorem cl_X6_22 : CLk RX6 RX6 TX6 3 6 1 22 false := ⟨rfl, in_X6, by decide, rfl, fun _ => mem0 (i := 94) (by decide +kernel) rfl, (by intro h; cases h)⟩
theorem cl_X6_26 : CLk RX6 RX6 TX6 3 6 2 26 false := ⟨rfl, in_X6, by decide, rfl, fun _ => mem0 (i := 95) (by decide +kernel) rfl, (by intro h; cases h)⟩
theorem cl_X7_26 : CLk RX7 RX7 TX7 17 7 1 26 false := ⟨rfl, in_X7, by decide, rfl, fun _ => mem0 (i := 177) (by decide +kernel) rfl, (by intro h; cases h)⟩
theorem cl_X7_34 : CLk RX7 RX7 TX7 17 7 2 34 false := ⟨rfl, in_X7, by decide, rfl, fun _ => mem0 (i := 179) (by decide +kernel) rfl, (by intro h; cases h)⟩
theorem cl_X7_38 : CLk RX7 RX7 TX7 17 7 3 38 false := ⟨rfl, in_X7, by decide, rfl, fun _ => mem0 (i := 180) (by decide +kernel) rfl, (by intro h; cases h)⟩
theorem cl_X7_42 : CLk RX7 RX7 TX7 17 7 4 42 false := ⟨rfl, in_X7, by decide, rfl, fun _ => mem0 (i := 181) (by decide +kernel) rfl, (by intro h; cases h)⟩
theorem cl_X7_45 : CLk RX7 RX7 TX7 17 7 5 45 false := ⟨rfl, in_X7, by decide, rfl, fun _ => mem0 (i := 182) (by decide +kernel) rfl, (by intro h; cases h)⟩
theorem cl_X7_48 : CLk RX7 RX7 TX7 17 7 6 48 false := ⟨rfl, in_X7, by decide, rfl, fun _ => mem0 (i := 183) (by decide +kernel) rfl, (by intro h; cases h)⟩
theorem cl_X7_51 : CLk RX7 RX7 TX7 17 7 7 51 false := ⟨rfl, in_X7, by decide, rfl, fun _ => mem0 (i := 185) (by decide +kernel) rfl, (by intro h; cases h)⟩
theorem cl_X7_54 : CLk RX7 RX7 TX7 17 7 8 54 false := ⟨rfl, in_X7, by decide, rfl, fun _ => mem0 (i := 187) (by decide +kernel) rfl, (by intro h; cases h)⟩
theorem cl_X7_57 : CLk RX7 RX7 TX7 17 7 9 57 false := ⟨rfl, in_X7, by decide, rfl, fun _ => mem0 (i := 189) (by decide +kernel) rfl, (by intro h; cases h)⟩
theorem cl_X7_60 : CLk RX7 RX7 TX7 17 7 10 60 false := ⟨rfl, in_X7, by decide, rfl, fun _ => mem0 (i := 191) (by decide +kernel) rfl, (by intro h; cases h)⟩
theorem cl_X7_63 : CLk RX7 RX7 TX7 17 7 11 63 false := ⟨rfl, in_X7, by decide, rfl, fun _ => mem0 (i := 193) (by decide +kernel) rfl, (by intro h; cases h)⟩
theorem cl_X7_66 : CLk RX7 RX7 TX7 17 7 12 66 false := ⟨rfl, in_X7, by decide, rfl, fun _ => mem0 (i := 195) (by decide +kernel) rfl, (by intro h; cases h)⟩
theorem cl_X7_69 : CLk RX7 RX7 TX7 17 7 13 69 false := ⟨rfl, in_X7, by decide, rfl, fun _ => mem0 (i := 197) (by decide +kernel) rfl, (by intro h; cases h)⟩
theorem cl_X7_72 : CLk RX7 RX7 TX7 17 7 14 72 false := ⟨rfl, in_X7, by decide, rfl, fun _ => mem0 (i := 199) (by decide +kernel) rfl, (by intro h; cases h)⟩
theorem cl_X7_75 : CLk RX7 RX7 TX7 17 7 15 75 false := ⟨rfl, in_X7, by decide, rfl, fun _ => mem0 (i := 201) (by decide +kernel) rfl, (by intro h; cases h)⟩
theorem cl_X7_78 : CLk RX7 RX7 TX7 17 7 16 78 false := ⟨rfl, in_X7, by decide, rfl, fun _ => mem0 (i := 203) (by decide +kernel) rfl, (by intro h; cases h)⟩
theorem cl_X7_9 : CLk RX7 RX7 TX7 17 7 0 9 false := ⟨rfl, in_X7, by decide, rfl, fun _ => mem0 (i := 176) (by decide +kernel) rfl, (by intro h; cases h)⟩
theorem cl_X8_10 : CLk RX8 RX8 TX8 8 8 0 10 false := ⟨rfl, in_X8, by decide, rfl, fun _ => mem0 (i := 325) (by decide +kernel) rfl, (by intro h; cases h)⟩
theorem cl_X8_16 : CLk RX8 RX8 TX8 8 8 1 16 false := ⟨rfl, in_X8, by decide, rfl, fun _ => mem0 (i := 326) (by decide +kernel) rfl, (by intro h; cases h)⟩
theorem cl_X8_19 : CLk RX8 RX8 TX8 8 8 2 19 false := ⟨rfl, in_X8, by decide, rfl, fun _ => mem0 (i := 327) (by decide +kernel) rfl, (by intro h; cases h)⟩
theorem cl_X8_28 : CLk RX8 RX8 TX8 8 8 3 28 false := ⟨rfl, in_X8, by decide, rfl, fun _ => mem0 (i := 328) (by decide +kernel) rfl, (by intro h; cases h)⟩
theorem cl_X8_35 : CLk RX8 RX8 TX8 8 8 4 35 false := ⟨rfl, in_X8, by decide, rfl, fun _ => mem0 (i := 329) (by decide +kernel) rfl, (by intro h; cases h)⟩
theorem cl_X8_42 : CLk RX8 RX8 TX8 8 8 5 42 false := ⟨rfl, in_X8, by decide, rfl, fun _ => mem0 (i := 330) (by decide +kernel) rfl, (by intro h; cases h)⟩
theorem cl_X8_49 : CLk RX8 RX8 TX8 8 8 6 49 false := ⟨rfl, in_X8, by decide, rfl, fun _ => mem0 (i := 331) (by decide +kernel) rfl, (by intro h; cases h)⟩
theorem cl_X8_56 : CLk RX8 RX8 TX8 8 8 7 56 false := ⟨rfl, in_X8, by decide, rfl, fun _ => mem0 (i := 332) (by decide +kernel) rfl, (by intro h; cases h)⟩
theorem cl_X9_100 : CLk RX9 RX9 TX9 41 9 3 100 false := ⟨rfl, in_X9, by decide, rfl, fun _ => mem0 (i := 811) (by decide +kernel) rfl, (by intro h; cases h)⟩
theorem cl_X9_115 : CLk RX9 RX9 TX9 41 9 8 115 false := ⟨rfl, in_X9, by decide, rfl, fun _ => mem0 (i := 816) (by decide +kernel) rfl, (by intro h; cases h)⟩
theorem cl_X9_118 : CLk RX9 RX9 TX9 41 9 9 118 false := ⟨rfl, in_X9, by decide, rfl, fun _ => mem0 (i := 817) (by decide +kernel) rfl, (by intro h; cases h)⟩
theorem cl_X9_121 : CLk RX9 RX9 TX9 41 9 10 121 false := ⟨rfl, in_X9, by decide, rfl, fun _ => mem0 (i := 818) (by decide +kernel) rfl, (by intro h; cases h)⟩
theorem cl_X9_13 : CLk RX9 RX9 TX9 41 9 2 13 false := ⟨rfl, in_X9, by decide, rfl, fun _ => mem0 (i := 810) (by decide +kernel) rfl, (by intro h; cases h)⟩
theorem cl_X9_157 : CLk RX9 RX9 TX9 41 9 5 157 false := ⟨rfl, in_X9, by decide, rfl, fun _ => mem0 (i := 813) (by decide +kernel) rfl, (by intro h; cases h)⟩
theorem cl_X9_16 : CLk RX9 RX9 TX9 41 9 4 16 false := ⟨rfl, in_X9, by decide, rfl, fun _ => mem0 (i := 812) (by decide +kernel) rfl, (by intro h; cases h)⟩
theorem cl_X9_160 : CLk RX9 RX9 TX9 41 9 22 160 false := ⟨rfl, in_X9, by decide, rfl, fun _ => mem0 (i := 830) (by decide +kernel) rfl, (by intro h; cases h)⟩
theorem cl_X9_163 : CLk RX9 RX9 TX9 41 9 28 163 false := ⟨rfl, in_X9, by decide, rfl, fun _ => mem0 (i := 836) (by decide +kernel) rfl, (by intro h; cases h)⟩
theorem cl_X9_166 : CLk RX9 RX9 TX9 41 9 23 166 false := ⟨rfl, in_X9, by decide, rfl, fun _ => mem0 (i := 831) (by decide +kernel) rfl, (by intro h; cases h)⟩
theorem cl_X9_169 : CLk RX9 RX9 TX9 41 9 29 169 false := ⟨rfl, in_X9, by decide, rfl, fun _ => mem0 (i := 837) (by decide +kernel) rfl, (by intro h; cases h)⟩
theorem cl_X9_172 : CLk RX9 RX9 TX9 41 9 30 172 false := ⟨rfl, in_X9, by decide, rfl, fun _ => mem0 (i := 838) (by decide +kernel) rfl, (by intro h; cases h)⟩
theorem cl_X9_179 : CLk RX9 RX9 TX9 41 9 24 179 false := ⟨rfl, in_X9, by decide, rfl, fun _ => mem0 (i := 832) (by decide +kernel) rfl, (by intro h; cases h)⟩
theorem cl_X9_182 : CLk RX9 RX9 TX9 41 9 25 182 false := ⟨rfl, in_X9, by decide, rfl, fun _ => mem0 (i := 833) (by decide +kernel) rfl, (by intro h; cases h)⟩
theorem cl_X9_185 : CLk RX9 RX9 TX9 41 9 26 185 false := ⟨rfl, in_X9, by decide, rfl, fun _ => mem0 (i := 834) (by decide +kernel) rfl, (by intro h; cases h)⟩
theorem cl_X9_188 : CLk RX9 RX9 TX9 41 9 27 188 false := ⟨rfl, in_X9, by decide, rfl, fun _ => mem0 (i := 835) (by decide +kernel) rfl, (by intro h; cases h)⟩
theorem cl_X9_19 : CLk RX9 RX9 TX9 41 9 6 19 false := ⟨rfl, in_X9, by decide, rfl, fun _ => mem0 (i := 814) (by decide +kernel) rfl, (by intro h; cases h)⟩
theorem cl_X9_191 : CLk RX9 RX9 TX9 41 9 21 191 false := ⟨rfl, in_X9, by decide, rfl, fun _ => mem0 (i := 829) (by decide +kernel) rfl, (by intro h; cases h)⟩
theorem cl_X9_194 : CLk RX9 RX9 TX9 41 9 17 194 false := ⟨rfl, in_X9, by decide, rfl, fun _ => mem0 (i := 825) (by decide +kernel) rfl, (by intro h; cases h)⟩
theorem cl_X9_200 : CLk RX9 RX9 TX9 41 9 18 200 false := ⟨rfl, in_X9, by decide, rfl, fun _ => mem0 (i := 826) (by decide +kernel) rfl, (by intro h; cases h)⟩
theorem cl_X9_203 : CLk RX9 RX9 TX9 41 9 19 203 false := ⟨rfl, in_X9, by decide, rfl, fun _ => mem0 (i := 827) (by decide +kernel) rfl, (by intro h; cases h)⟩
theorem cl_X9_206 : CLk RX9 RX9 TX9 41 9 20 206 false := ⟨rfl, in_X9, by decide, rfl, fun _ => mem0 (i := 828) (by decide +kernel) rfl, (by intro h; cases h)⟩
theorem cl_X9_212 : CLk RX9 RX9 TX9 41 9 16 212 false := ⟨rfl, in_X9, by decide, rfl, fun _ => mem0 (i := 824) (by decide +kernel) rfl, (by intro h; cases h)⟩
theorem cl_X9_22 : CLk RX9 RX9 TX9 41 9 7 22 false := ⟨rfl, in_X9, by decide, rfl, fun _ => mem0 (i := 815) (by decide +kernel) rfl, (by intro h; cases h)⟩
theorem cl_X9_25 : CLk RX9 RX9 TX9 41 9 11 25 false := ⟨rfl, in_X9, by decide, rfl, fun _ => mem0 (i := 819) (by decide +kernel) rfl, (by intro h; cases h)⟩
theorem cl_X9_270 : CLk RX9 RX9 TX9 41 9 36 270 false := ⟨rfl, in_X9, by decide, rfl, fun _ => mem0 (i := 844) (by decide +kernel) rfl, (by intro h; cases h)⟩
theorem cl_X9_28 : CLk RX9 RX9 TX9 41 9 12 28 false := ⟨rfl, in_X9, by decide, rfl, fun _ => mem0 (i := 820) (by decide +kernel) rfl, (by intro h; cases h)⟩
theorem cl_X9_31 : CLk RX9 RX9 TX9 41 9 13 31 false := ⟨rfl, in_X9, by decide, rfl, fun _ => mem0 (i := 821) (by decide +kernel) rfl, (by intro h; cases h)⟩
theorem cl_X9_34 : CLk RX9 RX9 TX9 41 9 14 34 false := ⟨rfl, in_X9, by decide, rfl, fun _ => mem0 (i := 822) (by decide +kernel) rfl, (by intro h; cases h)⟩
theorem cl_X9_37 : CLk RX9 RX9 TX9 41 9 15 37 false := ⟨rfl, in_X9, by decide, rfl, fun _ => mem0 (i := 823) (by decide +kernel) rfl, (by intro h; cases h)⟩
theorem cl_X9_41 : CLk RX9 RX9 TX9 41 9 31 41 false := ⟨rfl, in_X9, by decide, rfl, fun _ => mem0 (i := 839) (by decide +kernel) rfl, (by intro h; cases h)⟩
theorem cl_X9_44 : CLk RX9 RX9 TX9 41 9 32 44 false := ⟨rfl, in_X9, by decide, rfl, fun _ => mem0 (i := 840) (by decide +kernel) rfl, (by intro h; cases h)⟩
theorem cl_X9_47 : CLk RX9 RX9 TX9 41 9 33 47 false := ⟨rfl, in_X9, by decide, rfl, fun _ => mem0 (i := 841) (by decide +kernel) rfl, (by intro h; cases h)⟩
theorem cl_X9_50 : CLk RX9 RX9 TX9 41 9 34 50 false := ⟨rfl, in_X9, by decide, rfl, fun _ => mem0 (i := 842) (by decide +kernel) rfl, (by intro h; cases h)⟩
theorem cl_X9_53 : CLk RX9 RX9 TX9 41 9 35 53 false := ⟨rfl, in_X9, by decide, rfl, fun _ => mem0 (i := 843) (by decide +kernel) rfl, (by intro h; cases h)⟩
theorem cl_X9_56 : CLk RX9 RX9 TX9 41 9 37 56 false := ⟨rfl, in_X9, by decide, rfl, fun _ => mem0 (i := 845) (by decide +kernel) rfl, (by intro h; cases h)⟩
theorem cl_X9_59 : CLk RX9 RX9 TX9 41 9 38 59 false := ⟨rfl, in_X9, by decide, rfl, fun _ => mem0 (i := 846) (by decide +kernel) rfl, (by intro h; cases h)⟩
theorem cl_X9_62 : CLk RX9 RX9 TX9 41 9 39 62 false := ⟨rfl, in_X9, by decide, rfl, fun _ => mem0 (i := 847) (by decide +kernel) rfl, (by intro h; cases h)⟩
theorem cl_X9_65 : CLk RX9 RX9 TX9 41 9 40 65 false := ⟨rfl, in_X9, by decide, rfl, fun _ => mem0 (i := 848) (by decide +kernel) rfl, (by intro h; cases h)⟩
theorem cl_X9_68 : CLk RX9 RX9 TX9 41 9 1 68 false := ⟨rfl, in_X9, by decide, rfl, fun _ => mem0 (i := 809) (by decide +kernel) rfl, (by intro h; cases h)⟩
theorem cl_X9_7 : CLk RX9 RX9 TX9 41 9 0 7 false := ⟨rfl, in_X9, by decide, rfl, fun _ => mem0 (i := 808) (by decide +kernel) rfl, (by intro h; cases h)⟩
theorem cl_X1_40 : CLk RX1 RX6 TX6 3 6 2 40 true := ⟨rfl, in_X6, by decide, rfl, (by intro h; cases h), fun _ => ⟨"BallInCup", memN (i := 98) (by decide +kernel) rfl⟩⟩
theorem cl_X2_16 : CLk RX2 RX6 TX6 3 6 2 16 true := ⟨rfl, in_X6, by decide, rfl, (by intro h; cases h), fun _ => ⟨"BallInCup", memN (i := 97) (by decide +kernel) rfl⟩⟩
theorem cl_X3_45 : CLk RX3 RX6 TX6 3 6 2 45 true := ⟨rfl, in_X6, by decide, rfl, (by intro h; cases h), fun _ => ⟨"BallInCup", memN (i := 99) (by decide +kernel) rfl⟩⟩
theorem cl_X4_38 : CLk RX4 RX6 TX6 3 6 2 38 true := ⟨rfl, in_X6, by decide, rfl, (by intro h; cases h), fun _ => ⟨"BallInCup", memN (i := 96) (by decide +kernel) rfl⟩⟩
theorem cl_X7_111 : CLk RX7 RX1 TX1 9 1 5 111 true := ⟨rfl, in_X1, by decide, rfl, (by intro h; cases h), fun _ => ⟨"BallInCup", memN (i := 148) (by decide +kernel) rfl⟩⟩
theorem cl_X7_114 : CLk RX7 RX1 TX1 9 1 6 114 true := ⟨rfl, in_X1, by decide, rfl, (by intro h; cases h), fun _ => ⟨"BallInCup", memN (i := 150) (by decide +kernel) rfl⟩⟩
theorem cl_X7_117 : CLk RX7 RX1 TX1 9 1 8 117 true := ⟨rfl, in_X1, by decide, rfl, (by intro h; cases h), fun _ => ⟨"BallInCup", memN (i := 155) (by decide +kernel) rfl⟩⟩
theorem cl_X7_134 : CLk RX7 RX1 TX1 9 1 7 134 true := ⟨rfl, in_X1, by decide, rfl, (by intro h; cases h), fun _ => ⟨"BallInCup", memN (i := 152) (by decide +kernel) rfl⟩⟩
theorem cl_X7_135 : CLk RX7 RX4 TX4 4 4 1 135 true := ⟨rfl, in_X4, by decide, rfl, (by intro h; cases h), fun _ => ⟨"BallInCup", memN (i := 115) (by decide +kernel) rfl⟩⟩
theorem cl_X7_153 : CLk RX7 RX6 TX6 3 6 2 153 true := ⟨rfl, in_X6, by decide, rfl, (by intro h; cases h), fun _ => ⟨"BallInCup", memN (i := 101) (by decide +kernel) rfl⟩⟩
theorem cl_X7_17 : CLk RX7 RX4 TX4 4 4 2 17 true := ⟨rfl, in_X4, by decide, rfl, (by intro h; cases h), fun _ => ⟨"BallInCup", memN (i := 116) (by decide +kernel) rfl⟩⟩
theorem cl_X7_81 : CLk RX7 RX4 TX4 4 4 0 81 true := ⟨rfl, in_X4, by decide, rfl, (by intro h; cases h), fun _ => ⟨"BallInCup", memN (i := 112) (by decide +kernel) rfl⟩⟩
theorem cl_X8_119 : CLk RX8 RX3 TX3 6 3 1 119 true := ⟨rfl, in_X3, by decide, rfl, (by intro h; cases h), fun _ => ⟨"BallInCup", memN (i := 286) (by decide +kernel) rfl⟩⟩
theorem cl_X8_126 : CLk RX8 RX3 TX3 6 3 4 126 true := ⟨rfl, in_X3, by decide, rfl, (by intro h; cases h), fun _ => ⟨"BallInCup", memN (i := 290) (by decide +kernel) rfl⟩⟩
theorem cl_X8_134 : CLk RX8 RX3 TX3 6 3 5 134 true := ⟨rfl, in_X3, by decide, rfl, (by intro h; cases h), fun _ => ⟨"BallInCup", memN (i := 292) (by decide +kernel) rfl⟩⟩
theorem cl_X8_141 : CLk RX8 RX7 TX7 17 7 6 141 true := ⟨rfl, in_X7, by decide, rfl, (by intro h; cases h), fun _ => ⟨"BallInCup", memN (i := 184) (by decide +kernel) rfl⟩⟩
theorem cl_X8_144 : CLk RX8 RX7 TX7 17 7 7 144 true := ⟨rfl, in_X7, by decide, rfl, (by intro h; cases h), fun _ => ⟨"BallInCup", memN (i := 186) (by decide +kernel) rfl⟩⟩
theorem cl_X8_147 : CLk RX8 RX7 TX7 17 7 8 147 true := ⟨rfl, in_X7, by decide, rfl, (by intro h; cases h), fun _ => ⟨"BallInCup", memN (i := 188) (by decide +kernel) rfl⟩⟩
theorem cl_X8_150 : CLk RX8 RX7 TX7 17 7 9 150 true := ⟨rfl, in_X7, by decide, rfl, (by intro h; cases h), fun _ => ⟨"BallInCup", memN (i := 190) (by decide +kernel) rfl⟩⟩
theorem cl_X8_153 : CLk RX8 RX7 TX7 17 7 10 153 true := ⟨rfl, in_X7, by decide, rfl, (by intro h; cases h), fun _ => ⟨"BallInCup", memN (i := 192) (by decide +kernel) rfl⟩⟩
theorem cl_X8_156 : CLk RX8 RX7 TX7 17 7 11 156 true := ⟨rfl, in_X7, by decide, rfl, (by intro h; cases h), fun _ => ⟨"BallInCup", memN (i := 194) (by decide +kernel) rfl⟩⟩
theorem cl_X8_159 : CLk RX8 RX7 TX7 17 7 1 159 true := ⟨rfl, in_X7, by decide, rfl, (by intro h; cases h), fun _ => ⟨"BallInCup", memN (i := 178) (by decide +kernel) rfl⟩⟩
theorem cl_X8_163 : CLk RX8 RX1 TX1 9 1 7 163 true := ⟨rfl, in_X1, by decide, rfl, (by intro h; cases h), fun _ => ⟨"BallInCup", memN (i := 153) (by decide +kernel) rfl⟩⟩
theorem cl_X8_166 : CLk RX8 RX1 TX1 9 1 8 166 true := ⟨rfl, in_X1, by decide, rfl, (by intro h; cases h), fun _ => ⟨"BallInCup", memN (i := 156) (by decide +kernel) rfl⟩⟩
theorem cl_X8_167 : CLk RX8 RX7 TX7 17 7 12 167 true := ⟨rfl, in_X7, by decide, rfl, (by intro h; cases h), fun _ => ⟨"BallInCup", memN (i := 196) (by decide +kernel) rfl⟩⟩
theorem cl_X8_170 : CLk RX8 RX7 TX7 17 7 14 170 true := ⟨rfl, in_X7, by decide, rfl, (by intro h; cases h), fun _ => ⟨"BallInCup", memN (i := 200) (by decide +kernel) rfl⟩⟩
theorem cl_X8_173 : CLk RX8 RX7 TX7 17 7 13 173 true := ⟨rfl, in_X7, by decide, rfl, (by intro h; cases h), fun _ => ⟨"BallInCup", memN (i := 198) (by decide +kernel) rfl⟩⟩
theorem cl_X8_176 : CLk RX8 RX7 TX7 17 7 15 176 true := ⟨rfl, in_X7, by decide, rfl, (by intro h; cases h), fun _ => ⟨"BallInCup", memN (i := 202) (by decide +kernel) rfl⟩⟩
theorem cl_X8_179 : CLk RX8 RX7 TX7 17 7 16 179 true := ⟨rfl, in_X7, by decide, rfl, (by intro h; cases h), fun _ => ⟨"BallInCup", memN (i := 204) (by decide +kernel) rfl⟩⟩
theorem cl_X8_182 : CLk RX8 RX6 TX6 3 6 2 182 true := ⟨rfl, in_X6, by decide, rfl, (by intro h; cases h), fun _ => ⟨"BallInCup", memN (i := 100) (by decide +kernel) rfl⟩⟩
theorem cl_X8_186 : CLk RX8 RX4 TX4 4 4 3 186 true := ⟨rfl, in_X4, by decide, rfl, (by intro h; cases h), fun _ => ⟨"BallInCup", memN (i := 120) (by decide +kernel) rfl⟩⟩
theorem cl_X8_207 : CLk RX8 RX0 TX0 5 0 3 207 true := ⟨rfl, in_X0, by decide, rfl, (by intro h; cases h), fun _ => ⟨"BallInCup", memN (i := 250) (by decide +kernel) rfl⟩⟩
theorem cl_X8_210 : CLk RX8 RX0 TX0 5 0 4 210 true := ⟨rfl, in_X0, by decide, rfl, (by intro h; cases h), fun _ => ⟨"BallInCup", memN (i := 252) (by decide +kernel) rfl⟩⟩
theorem cl_X8_282 : CLk RX8 RX5 TX5 3 5 0 282 true := ⟨rfl, in_X5, by decide, rfl, (by intro h; cases h), fun _ => ⟨"BallInCup", memN (i := 314) (by decide +kernel) rfl⟩⟩
theorem cl_X8_288 : CLk RX8 RX5 TX5 3 5 2 288 true := ⟨rfl, in_X5, by decide, rfl, (by intro h; cases h), fun _ => ⟨"BallInCup", memN (i := 317) (by decide +kernel) rfl⟩⟩
theorem cl_X8_71 : CLk RX8 RX4 TX4 4 4 0 71 true := ⟨rfl, in_X4, by decide, rfl, (by intro h; cases h), fun _ => ⟨"BallInCup", memN (i := 111) (by decide +kernel) rfl⟩⟩
theorem cl_X8_74 : CLk RX8 RX4 TX4 4 4 1 74 true := ⟨rfl, in_X4, by decide, rfl, (by intro h; cases h), fun _ => ⟨"BallInCup", memN (i := 114) (by decide +kernel) rfl⟩⟩
theorem cl_X8_97 : CLk RX8 RX4 TX4 4 4 2 97 true := ⟨rfl, in_X4, by decide, rfl, (by intro h; cases h), fun _ => ⟨"BallInCup", memN (i := 118) (by decide +kernel) rfl⟩⟩
theorem kc_X7_152 : Cond.constant RX7 152 (40000) ∈ tb0 := mem0 (i := 547) (by decide +kernel) rfl
theorem kc_X8_213 : Cond.constant RX8 213 (-100002) ∈ tb0 := mem0 (i := 621) (by decide +kernel) rfl
theorem kc_X8_217 : Cond.constant RX8 217 (-100004) ∈ tb0 := mem0 (i := 634) (by decide +kernel) rfl
theorem kc_X8_265 : Cond.constant RX8 265 (100000) ∈ tb0 := mem0 (i := 736) (by decide +kernel) rfl
theorem kc_X8_92 : Cond.constant RX8 92 (-100001) ∈ tb0 := mem0 (i := 390) (by decide +kernel) rfl
theorem kc_X9_238 : Cond.constant RX9 238 (-100002) ∈ tb0 := mem0 (i := 1090) (by decide +kernel) rfl
theorem kc_X9_243 : Cond.constant RX9 243 (-100004) ∈ tb0 := mem0 (i := 1095) (by decide +kernel) rfl
theorem kc_X9_265 : Cond.constant RX9 265 (100000) ∈ tb0 := mem0 (i := 1154) (by decide +kernel) rfl
theorem kc_X9_99 : Cond.constant RX9 99 (-100001) ∈ tb0 := mem0 (i := 963) (by decide +kernel) rfl
theorem kc_L_41 : Cond.constantLong RL 41 (4294967295) ∈ tb0 := mem0 (i := 1192) (by decide +kernel) rfl
theorem kc_X9_107 : Cond.constantLong RX9 107 (8) ∈ tb0 := mem0 (i := 984) (by decide +kernel) rfl
theorem kc_X9_109 : Cond.constantLong RX9 109 (255) ∈ tb0 := mem0 (i := 985) (by decide +kernel) rfl
theorem kc_X9_111 : Cond.constantLong RX9 111 (32) ∈ tb0 := mem0 (i := 986) (by decide +kernel) rfl
theorem kc_X9_113 : Cond.constantLong RX9 113 (126) ∈ tb0 := mem0 (i := 987) (by decide +kernel) rfl
theorem kc_X9_129 : Cond.constantLong RX9 129 (48) ∈ tb0 := mem0 (i := 1016) (by decide +kernel) rfl
theorem kc_X9_131 : Cond.constantLong RX9 131 (57) ∈ tb0 := mem0 (i := 1017) (by decide +kernel) rfl
theorem kc_X9_225 : Cond.constantLong RX9 225 (3) ∈ tb0 := mem0 (i := 1064) (by decide +kernel) rfl
theorem kc_X9_230 : Cond.constantLong RX9 230 (-4) ∈ tb0 := mem0 (i := 1069) (by decide +kernel) rfl
theorem kc_X9_247 : Cond.constantLong RX9 247 (16) ∈ tb0 := mem0 (i := 1116) (by decide +kernel) rfl
theorem kc_X9_249 : Cond.constantLong RX9 249 (180) ∈ tb0 := mem0 (i := 1121) (by decide +kernel) rfl
theorem kc_X9_251 : Cond.constantLong RX9 251 (-1) ∈ tb0 := mem0 (i := 1122) (by decide +kernel) rfl
theorem kc_X9_259 : Cond.constantLong RX9 259 (12) ∈ tb0 := mem0 (i := 1149) (by decide +kernel) rfl
theorem kc_X9_75 : Cond.constantLong RX9 75 (2) ∈ tb0 := mem0 (i := 936) (by decide +kernel) rfl
theorem kc_X9_77 : Cond.constantLong RX9 77 (10) ∈ tb0 := mem0 (i := 940) (by decide +kernel) rfl
theorem kc_X9_79 : Cond.constantLong RX9 79 (60) ∈ tb0 := mem0 (i := 941) (by decide +kernel) rfl
theorem kc_X9_81 : Cond.constantLong RX9 81 (4) ∈ tb0 := mem0 (i := 942) (by decide +kernel) rfl
theorem kc_X9_83 : Cond.constantLong RX9 83 (20) ∈ tb0 := mem0 (i := 943) (by decide +kernel) rfl
theorem kc_X9_85 : Cond.constantLong RX9 85 (-9) ∈ tb0 := mem0 (i := 948) (by decide +kernel) rfl
theorem kc_X9_87 : Cond.constantLong RX9 87 (9) ∈ tb0 := mem0 (i := 949) (by decide +kernel) rfl
theorem kc_X9_89 : Cond.constantLong RX9 89 (99) ∈ tb0 := mem0 (i := 950) (by decide +kernel) rfl
theorem ct_X0_20 : CSS RX0 20 yX0_uOf false := ⟨mem0 (i := 594) (by decide +kernel) rfl, fun _ => mem0 (i := 593) (by decide +kernel) rfl, (by intro h; cases h)⟩
theorem ct_X0_24 : CSS RX0 24 yX0_vOf false := ⟨mem0 (i := 597) (by decide +kernel) rfl, fun _ => mem0 (i := 596) (by decide +kernel) rfl, (by intro h; cases h)⟩
theorem cv_X0_27 : CSV RX0 27 yX7_endBy := ⟨mem0 (i := 599) (by decide +kernel) rfl, mem0 (i := 581) (by decide +kernel) rfl, mem0 (i := 582) (by decide +kernel) rfl⟩
theorem cv_X0_40 : CSV RX0 40 yX0_cellFrom := ⟨mem0 (i := 608) (by decide +kernel) rfl, mem0 (i := 610) (by decide +kernel) rfl, mem0 (i := 16) (by decide +kernel) rfl⟩
theorem mt_X0_44 : MTH RX0 44 Lib.Math.max.name Lib.Math.max.code 2 := ⟨mem0 (i := 616) (by decide +kernel) rfl, mem0 (i := 89) (by decide +kernel) rfl, mem0 (i := 48) (by decide +kernel) rfl, mem0 (i := 90) (by decide +kernel) rfl⟩
theorem cv_X0_49 : CSV RX0 49 yX0_join := ⟨mem0 (i := 612) (by decide +kernel) rfl, mem0 (i := 614) (by decide +kernel) rfl, mem0 (i := 17) (by decide +kernel) rfl⟩
theorem cv_X0_52 : CSV RX0 52 yX0_ringsRound := ⟨mem0 (i := 626) (by decide +kernel) rfl, mem0 (i := 627) (by decide +kernel) rfl, mem0 (i := 628) (by decide +kernel) rfl⟩
theorem cv_X0_55 : CSV RX0 55 yX0_isWhole := ⟨mem0 (i := 630) (by decide +kernel) rfl, mem0 (i := 632) (by decide +kernel) rfl, mem0 (i := 18) (by decide +kernel) rfl⟩
theorem cv_X1_45 : CSV RX1 45 yX6_get := ⟨mem0 (i := 534) (by decide +kernel) rfl, mem0 (i := 392) (by decide +kernel) rfl, mem0 (i := 393) (by decide +kernel) rfl⟩
theorem cv_X2_22 : CSV RX2 22 yX2_mostFrom := ⟨mem0 (i := 671) (by decide +kernel) rfl, mem0 (i := 673) (by decide +kernel) rfl, mem0 (i := 19) (by decide +kernel) rfl⟩
theorem cv_X2_26 : CSV RX2 26 yX2_mostTimes := ⟨mem0 (i := 689) (by decide +kernel) rfl, mem0 (i := 691) (by decide +kernel) rfl, mem0 (i := 21) (by decide +kernel) rfl⟩
theorem cv_X2_29 : CSV RX2 29 yX6_get := ⟨mem0 (i := 675) (by decide +kernel) rfl, mem0 (i := 392) (by decide +kernel) rfl, mem0 (i := 393) (by decide +kernel) rfl⟩
theorem cv_X2_33 : CSV RX2 33 yX2_gainBy := ⟨mem0 (i := 676) (by decide +kernel) rfl, mem0 (i := 678) (by decide +kernel) rfl, mem0 (i := 20) (by decide +kernel) rfl⟩
theorem mt_X2_37 : MTH RX2 37 Lib.Math.max.name Lib.Math.max.code 2 := ⟨mem0 (i := 680) (by decide +kernel) rfl, mem0 (i := 89) (by decide +kernel) rfl, mem0 (i := 48) (by decide +kernel) rfl, mem0 (i := 90) (by decide +kernel) rfl⟩
theorem cv_X3_31 : CSV RX3 31 yX3_begin := ⟨mem0 (i := 437) (by decide +kernel) rfl, mem0 (i := 439) (by decide +kernel) rfl, mem0 (i := 0) (by decide +kernel) rfl⟩
theorem cv_X3_34 : CSV RX3 34 yX6_empty := ⟨mem0 (i := 441) (by decide +kernel) rfl, mem0 (i := 411) (by decide +kernel) rfl, mem0 (i := 412) (by decide +kernel) rfl⟩
theorem cv_X3_38 : CSV RX3 38 yX3_takes := ⟨mem0 (i := 442) (by decide +kernel) rfl, mem0 (i := 444) (by decide +kernel) rfl, mem0 (i := 1) (by decide +kernel) rfl⟩
theorem cv_X3_42 : CSV RX3 42 yX3_readCup := ⟨mem0 (i := 450) (by decide +kernel) rfl, mem0 (i := 452) (by decide +kernel) rfl, mem0 (i := 3) (by decide +kernel) rfl⟩
theorem cv_X3_46 : CSV RX3 46 yX3_finish := ⟨mem0 (i := 475) (by decide +kernel) rfl, mem0 (i := 477) (by decide +kernel) rfl, mem0 (i := 8) (by decide +kernel) rfl⟩
theorem cv_X3_50 : CSV RX3 50 yX3_readPart := ⟨mem0 (i := 493) (by decide +kernel) rfl, mem0 (i := 495) (by decide +kernel) rfl, mem0 (i := 9) (by decide +kernel) rfl⟩
theorem cv_X3_59 : CSV RX3 59 yX3_next := ⟨mem0 (i := 446) (by decide +kernel) rfl, mem0 (i := 448) (by decide +kernel) rfl, mem0 (i := 2) (by decide +kernel) rfl⟩
theorem cv_X3_62 : CSV RX3 62 yX3_faultAt := ⟨mem0 (i := 463) (by decide +kernel) rfl, mem0 (i := 465) (by decide +kernel) rfl, mem0 (i := 6) (by decide +kernel) rfl⟩
theorem cv_X3_66 : CSV RX3 66 yX3_signedDigit := ⟨mem0 (i := 454) (by decide +kernel) rfl, mem0 (i := 456) (by decide +kernel) rfl, mem0 (i := 4) (by decide +kernel) rfl⟩
theorem cv_X3_69 : CSV RX3 69 yX3_digit := ⟨mem0 (i := 458) (by decide +kernel) rfl, mem0 (i := 460) (by decide +kernel) rfl, mem0 (i := 5) (by decide +kernel) rfl⟩
theorem cv_X3_72 : CSV RX3 72 yX3_number := ⟨mem0 (i := 467) (by decide +kernel) rfl, mem0 (i := 469) (by decide +kernel) rfl, mem0 (i := 7) (by decide +kernel) rfl⟩
theorem mt_X3_88 : MTH RX3 88 Lib.Math.min.name Lib.Math.min.code 2 := ⟨mem0 (i := 471) (by decide +kernel) rfl, mem0 (i := 472) (by decide +kernel) rfl, mem0 (i := 48) (by decide +kernel) rfl, mem0 (i := 473) (by decide +kernel) rfl⟩
theorem cv_X4_42 : CSV RX4 42 yX6_get := ⟨mem0 (i := 571) (by decide +kernel) rfl, mem0 (i := 392) (by decide +kernel) rfl, mem0 (i := 393) (by decide +kernel) rfl⟩
theorem cv_X4_46 : CSV RX4 46 yX6_takeAll := ⟨mem0 (i := 754) (by decide +kernel) rfl, mem0 (i := 480) (by decide +kernel) rfl, mem0 (i := 481) (by decide +kernel) rfl⟩
theorem ct_X5_23 : CSS RX5 23 yJ7_fill_53178 false := ⟨mem0 (i := 779) (by decide +kernel) rfl, fun _ => mem0 (i := 778) (by decide +kernel) rfl, (by intro h; cases h)⟩
theorem cv_X5_29 : CSV RX5 29 yX5_isNothing := ⟨mem0 (i := 728) (by decide +kernel) rfl, mem0 (i := 729) (by decide +kernel) rfl, mem0 (i := 730) (by decide +kernel) rfl⟩
theorem cv_X5_33 : CSV RX5 33 yX5_fits := ⟨mem0 (i := 732) (by decide +kernel) rfl, mem0 (i := 733) (by decide +kernel) rfl, mem0 (i := 734) (by decide +kernel) rfl⟩
theorem ct_X5_37 : CSS RX5 37 yX5_cutTo false := ⟨mem0 (i := 768) (by decide +kernel) rfl, fun _ => mem0 (i := 767) (by decide +kernel) rfl, (by intro h; cases h)⟩
theorem cv_X6_29 : CSV RX6 29 yX6_has := ⟨mem0 (i := 381) (by decide +kernel) rfl, mem0 (i := 382) (by decide +kernel) rfl, mem0 (i := 383) (by decide +kernel) rfl⟩
theorem cv_X6_33 : CSV RX6 33 yX6_isFull := ⟨mem0 (i := 376) (by decide +kernel) rfl, mem0 (i := 366) (by decide +kernel) rfl, mem0 (i := 367) (by decide +kernel) rfl⟩
theorem mt_X6_37 : MTH RX6 37 Lib.Math.min.name Lib.Math.min.code 2 := ⟨mem0 (i := 483) (by decide +kernel) rfl, mem0 (i := 472) (by decide +kernel) rfl, mem0 (i := 48) (by decide +kernel) rfl, mem0 (i := 473) (by decide +kernel) rfl⟩
theorem cv_X6_40 : CSV RX6 40 yX6_get := ⟨mem0 (i := 484) (by decide +kernel) rfl, mem0 (i := 392) (by decide +kernel) rfl, mem0 (i := 393) (by decide +kernel) rfl⟩
theorem mt_X6_9 : MTH RX6 9 Lib.Math.max.name Lib.Math.max.code 2 := ⟨mem0 (i := 88) (by decide +kernel) rfl, mem0 (i := 89) (by decide +kernel) rfl, mem0 (i := 48) (by decide +kernel) rfl, mem0 (i := 90) (by decide +kernel) rfl⟩
theorem cv_X7_101 : CSV RX7 101 yX7_endBy := ⟨mem0 (i := 654) (by decide +kernel) rfl, mem0 (i := 581) (by decide +kernel) rfl, mem0 (i := 582) (by decide +kernel) rfl⟩
theorem mt_X7_105 : MTH RX7 105 Lib.Math.abs.name Lib.Math.abs.code 1 := ⟨mem0 (i := 552) (by decide +kernel) rfl, mem0 (i := 553) (by decide +kernel) rfl, mem0 (i := 48) (by decide +kernel) rfl, mem0 (i := 554) (by decide +kernel) rfl⟩
theorem cv_X7_118 : CSV RX7 118 yX7_lateSide := ⟨mem0 (i := 523) (by decide +kernel) rfl, mem0 (i := 525) (by decide +kernel) rfl, mem0 (i := 11) (by decide +kernel) rfl⟩
theorem cv_X7_122 : CSV RX7 122 yX1_go := ⟨mem0 (i := 530) (by decide +kernel) rfl, mem0 (i := 531) (by decide +kernel) rfl, mem0 (i := 532) (by decide +kernel) rfl⟩
theorem cv_X7_125 : CSV RX7 125 yX7_holdByCord := ⟨mem0 (i := 535) (by decide +kernel) rfl, mem0 (i := 537) (by decide +kernel) rfl, mem0 (i := 12) (by decide +kernel) rfl⟩
theorem cv_X7_128 : CSV RX7 128 yX7_metCup := ⟨mem0 (i := 548) (by decide +kernel) rfl, mem0 (i := 550) (by decide +kernel) rfl, mem0 (i := 14) (by decide +kernel) rfl⟩
theorem cv_X7_131 : CSV RX7 131 yX7_comeDownOn := ⟨mem0 (i := 555) (by decide +kernel) rfl, mem0 (i := 557) (by decide +kernel) rfl, mem0 (i := 15) (by decide +kernel) rfl⟩
theorem ct_X7_138 : CSS RX7 138 yJ6_compare_7cf53 false := ⟨mem0 (i := 528) (by decide +kernel) rfl, fun _ => mem0 (i := 527) (by decide +kernel) rfl, (by intro h; cases h)⟩
theorem ct_X7_143 : CSS RX7 143 yJ9_floorMod_7cf53 false := ⟨mem0 (i := 540) (by decide +kernel) rfl, fun _ => mem0 (i := 539) (by decide +kernel) rfl, (by intro h; cases h)⟩
theorem cv_X7_146 : CSV RX7 146 yX7_wholeRoot := ⟨mem0 (i := 542) (by decide +kernel) rfl, mem0 (i := 544) (by decide +kernel) rfl, mem0 (i := 13) (by decide +kernel) rfl⟩
theorem mt_X7_149 : MTH RX7 149 Lib.Math.max.name Lib.Math.max.code 2 := ⟨mem0 (i := 546) (by decide +kernel) rfl, mem0 (i := 89) (by decide +kernel) rfl, mem0 (i := 48) (by decide +kernel) rfl, mem0 (i := 90) (by decide +kernel) rfl⟩
theorem cv_X7_30 : CSV RX7 30 yX1_begin := ⟨mem0 (i := 511) (by decide +kernel) rfl, mem0 (i := 512) (by decide +kernel) rfl, mem0 (i := 513) (by decide +kernel) rfl⟩
theorem cv_X7_85 : CSV RX7 85 yX6_get := ⟨mem0 (i := 506) (by decide +kernel) rfl, mem0 (i := 392) (by decide +kernel) rfl, mem0 (i := 393) (by decide +kernel) rfl⟩
theorem cv_X7_91 : CSV RX7 91 yX7_begin := ⟨mem0 (i := 507) (by decide +kernel) rfl, mem0 (i := 508) (by decide +kernel) rfl, mem0 (i := 509) (by decide +kernel) rfl⟩
theorem cv_X7_94 : CSV RX7 94 yX7_goStep := ⟨mem0 (i := 519) (by decide +kernel) rfl, mem0 (i := 521) (by decide +kernel) rfl, mem0 (i := 10) (by decide +kernel) rfl⟩
theorem cv_X7_97 : CSV RX7 97 yX7_goOn := ⟨mem0 (i := 584) (by decide +kernel) rfl, mem0 (i := 516) (by decide +kernel) rfl, mem0 (i := 517) (by decide +kernel) rfl⟩
theorem ct_X8_100 : CSS RX8 100 yX8_addPart false := ⟨mem0 (i := 400) (by decide +kernel) rfl, fun _ => mem0 (i := 399) (by decide +kernel) rfl, (by intro h; cases h)⟩
theorem cv_X8_104 : CSV RX8 104 yX6_empty := ⟨mem0 (i := 410) (by decide +kernel) rfl, mem0 (i := 411) (by decide +kernel) rfl, mem0 (i := 412) (by decide +kernel) rfl⟩
theorem ct_X8_108 : CSS RX8 108 yX8_byteOf false := ⟨mem0 (i := 419) (by decide +kernel) rfl, fun _ => mem0 (i := 418) (by decide +kernel) rfl, (by intro h; cases h)⟩
theorem cv_X8_112 : CSV RX8 112 yX3_hasRoom := ⟨mem0 (i := 421) (by decide +kernel) rfl, mem0 (i := 422) (by decide +kernel) rfl, mem0 (i := 423) (by decide +kernel) rfl⟩
theorem cv_X8_115 : CSV RX8 115 yX3_append := ⟨mem0 (i := 425) (by decide +kernel) rfl, mem0 (i := 426) (by decide +kernel) rfl, mem0 (i := 427) (by decide +kernel) rfl⟩
theorem cv_X8_123 : CSV RX8 123 yX3_readCups := ⟨mem0 (i := 433) (by decide +kernel) rfl, mem0 (i := 434) (by decide +kernel) rfl, mem0 (i := 435) (by decide +kernel) rfl⟩
theorem cv_X8_127 : CSV RX8 127 yX6_takeAll := ⟨mem0 (i := 479) (by decide +kernel) rfl, mem0 (i := 480) (by decide +kernel) rfl, mem0 (i := 481) (by decide +kernel) rfl⟩
theorem cv_X8_131 : CSV RX8 131 yX3_readParts := ⟨mem0 (i := 489) (by decide +kernel) rfl, mem0 (i := 490) (by decide +kernel) rfl, mem0 (i := 491) (by decide +kernel) rfl⟩
theorem cv_X8_135 : CSV RX8 135 yX7_beginAsTold := ⟨mem0 (i := 502) (by decide +kernel) rfl, mem0 (i := 503) (by decide +kernel) rfl, mem0 (i := 504) (by decide +kernel) rfl⟩
theorem cv_X8_138 : CSV RX8 138 yX7_goOn := ⟨mem0 (i := 515) (by decide +kernel) rfl, mem0 (i := 516) (by decide +kernel) rfl, mem0 (i := 517) (by decide +kernel) rfl⟩
theorem cv_X8_183 : CSV RX8 183 yX4_pullSteps := ⟨mem0 (i := 567) (by decide +kernel) rfl, mem0 (i := 568) (by decide +kernel) rfl, mem0 (i := 569) (by decide +kernel) rfl⟩
theorem cv_X8_189 : CSV RX8 189 yX4_hasNoPart := ⟨mem0 (i := 576) (by decide +kernel) rfl, mem0 (i := 577) (by decide +kernel) rfl, mem0 (i := 578) (by decide +kernel) rfl⟩
theorem cv_X8_192 : CSV RX8 192 yX7_endBy := ⟨mem0 (i := 580) (by decide +kernel) rfl, mem0 (i := 581) (by decide +kernel) rfl, mem0 (i := 582) (by decide +kernel) rfl⟩
theorem cv_X8_196 : CSV RX8 196 yX0_tryAll := ⟨mem0 (i := 589) (by decide +kernel) rfl, mem0 (i := 590) (by decide +kernel) rfl, mem0 (i := 591) (by decide +kernel) rfl⟩
theorem cv_X8_200 : CSV RX8 200 yX0_pullsInto := ⟨mem0 (i := 600) (by decide +kernel) rfl, mem0 (i := 601) (by decide +kernel) rfl, mem0 (i := 602) (by decide +kernel) rfl⟩
theorem cv_X8_204 : CSV RX8 204 yX0_seekCells := ⟨mem0 (i := 604) (by decide +kernel) rfl, mem0 (i := 605) (by decide +kernel) rfl, mem0 (i := 606) (by decide +kernel) rfl⟩
theorem cv_X8_214 : CSV RX8 214 yX0_middleOf := ⟨mem0 (i := 622) (by decide +kernel) rfl, mem0 (i := 623) (by decide +kernel) rfl, mem0 (i := 624) (by decide +kernel) rfl⟩
theorem ct_X8_218 : CSS RX8 218 yX0_uOf false := ⟨mem0 (i := 594) (by decide +kernel) rfl, fun _ => mem0 (i := 635) (by decide +kernel) rfl, (by intro h; cases h)⟩
theorem ct_X8_221 : CSS RX8 221 yX0_vOf false := ⟨mem0 (i := 597) (by decide +kernel) rfl, fun _ => mem0 (i := 636) (by decide +kernel) rfl, (by intro h; cases h)⟩
theorem cv_X8_224 : CSV RX8 224 yX0_ringsRound := ⟨mem0 (i := 637) (by decide +kernel) rfl, mem0 (i := 627) (by decide +kernel) rfl, mem0 (i := 628) (by decide +kernel) rfl⟩
theorem cv_X8_227 : CSV RX8 227 yX7_endLate := ⟨mem0 (i := 642) (by decide +kernel) rfl, mem0 (i := 643) (by decide +kernel) rfl, mem0 (i := 644) (by decide +kernel) rfl⟩
theorem cv_X8_231 : CSV RX8 231 yX7_oddsBy := ⟨mem0 (i := 650) (by decide +kernel) rfl, mem0 (i := 651) (by decide +kernel) rfl, mem0 (i := 652) (by decide +kernel) rfl⟩
theorem cv_X8_234 : CSV RX8 234 yX6_grow := ⟨mem0 (i := 372) (by decide +kernel) rfl, mem0 (i := 373) (by decide +kernel) rfl, mem0 (i := 374) (by decide +kernel) rfl⟩
theorem cv_X8_237 : CSV RX8 237 yX6_put := ⟨mem0 (i := 377) (by decide +kernel) rfl, mem0 (i := 378) (by decide +kernel) rfl, mem0 (i := 379) (by decide +kernel) rfl⟩
theorem cv_X8_241 : CSV RX8 241 yX2_weigh := ⟨mem0 (i := 667) (by decide +kernel) rfl, mem0 (i := 668) (by decide +kernel) rfl, mem0 (i := 669) (by decide +kernel) rfl⟩
theorem cv_X8_245 : CSV RX8 245 yX2_mostIn := ⟨mem0 (i := 681) (by decide +kernel) rfl, mem0 (i := 682) (by decide +kernel) rfl, mem0 (i := 683) (by decide +kernel) rfl⟩
theorem cv_X8_248 : CSV RX8 248 yX2_timesOf := ⟨mem0 (i := 685) (by decide +kernel) rfl, mem0 (i := 686) (by decide +kernel) rfl, mem0 (i := 687) (by decide +kernel) rfl⟩
theorem cv_X8_252 : CSV RX8 252 yX7_meetNothing := ⟨mem0 (i := 709) (by decide +kernel) rfl, mem0 (i := 710) (by decide +kernel) rfl, mem0 (i := 711) (by decide +kernel) rfl⟩
theorem cv_X8_255 : CSV RX8 255 yX7_isSoft := ⟨mem0 (i := 713) (by decide +kernel) rfl, mem0 (i := 714) (by decide +kernel) rfl, mem0 (i := 715) (by decide +kernel) rfl⟩
theorem ct_X8_258 : CSS RX8 258 yX8_isRow false := ⟨mem0 (i := 722) (by decide +kernel) rfl, fun _ => mem0 (i := 721) (by decide +kernel) rfl, (by intro h; cases h)⟩
theorem cv_X8_262 : CSV RX8 262 yX5_refusalOf := ⟨mem0 (i := 724) (by decide +kernel) rfl, mem0 (i := 725) (by decide +kernel) rfl, mem0 (i := 726) (by decide +kernel) rfl⟩
theorem cv_X8_266 : CSV RX8 266 yX8_isShown := ⟨mem0 (i := 737) (by decide +kernel) rfl, mem0 (i := 739) (by decide +kernel) rfl, mem0 (i := 22) (by decide +kernel) rfl⟩
theorem cv_X8_270 : CSV RX8 270 yX4_takeAll := ⟨mem0 (i := 750) (by decide +kernel) rfl, mem0 (i := 751) (by decide +kernel) rfl, mem0 (i := 752) (by decide +kernel) rfl⟩
theorem cv_X8_272 : CSV RX8 272 yX5_put := ⟨mem0 (i := 763) (by decide +kernel) rfl, mem0 (i := 764) (by decide +kernel) rfl, mem0 (i := 765) (by decide +kernel) rfl⟩
theorem cv_X8_273 : CSV RX8 273 yX5_makeRow := ⟨mem0 (i := 774) (by decide +kernel) rfl, mem0 (i := 775) (by decide +kernel) rfl, mem0 (i := 776) (by decide +kernel) rfl⟩
theorem cv_X8_276 : CSV RX8 276 yX5_isNothing := ⟨mem0 (i := 785) (by decide +kernel) rfl, mem0 (i := 729) (by decide +kernel) rfl, mem0 (i := 730) (by decide +kernel) rfl⟩
theorem cv_X8_279 : CSV RX8 279 yX5_letGo := ⟨mem0 (i := 786) (by decide +kernel) rfl, mem0 (i := 787) (by decide +kernel) rfl, mem0 (i := 788) (by decide +kernel) rfl⟩
theorem cv_X8_285 : CSV RX8 285 yX5_fits := ⟨mem0 (i := 798) (by decide +kernel) rfl, mem0 (i := 733) (by decide +kernel) rfl, mem0 (i := 734) (by decide +kernel) rfl⟩
theorem cv_X8_298 : CSV RX8 298 yX7_begin := ⟨mem0 (i := 741) (by decide +kernel) rfl, mem0 (i := 508) (by decide +kernel) rfl, mem0 (i := 509) (by decide +kernel) rfl⟩
theorem cv_X8_301 : CSV RX8 301 yX5_get := ⟨mem0 (i := 742) (by decide +kernel) rfl, mem0 (i := 743) (by decide +kernel) rfl, mem0 (i := 744) (by decide +kernel) rfl⟩
theorem ct_X8_60 : CSS RX8 60 yX8_isIn false := ⟨mem0 (i := 355) (by decide +kernel) rfl, fun _ => mem0 (i := 354) (by decide +kernel) rfl, (by intro h; cases h)⟩
theorem cv_X8_78 : CSV RX8 78 yX6_isFull := ⟨mem0 (i := 365) (by decide +kernel) rfl, mem0 (i := 366) (by decide +kernel) rfl, mem0 (i := 367) (by decide +kernel) rfl⟩
theorem ct_X8_84 : CSS RX8 84 yX8_addCup false := ⟨mem0 (i := 370) (by decide +kernel) rfl, fun _ => mem0 (i := 369) (by decide +kernel) rfl, (by intro h; cases h)⟩
theorem cv_X8_88 : CSV RX8 88 yX6_has := ⟨mem0 (i := 389) (by decide +kernel) rfl, mem0 (i := 382) (by decide +kernel) rfl, mem0 (i := 383) (by decide +kernel) rfl⟩
theorem cv_X8_93 : CSV RX8 93 yX6_get := ⟨mem0 (i := 391) (by decide +kernel) rfl, mem0 (i := 392) (by decide +kernel) rfl, mem0 (i := 393) (by decide +kernel) rfl⟩
theorem cv_L_101 : CSV RL 101 yX9_most := ⟨mem0 (i := 1117) (by decide +kernel) rfl, mem0 (i := 1118) (by decide +kernel) rfl, mem0 (i := 1119) (by decide +kernel) rfl⟩
theorem cv_L_102 : CSV RL 102 yX8_row := ⟨mem0 (i := 693) (by decide +kernel) rfl, mem0 (i := 694) (by decide +kernel) rfl, mem0 (i := 695) (by decide +kernel) rfl⟩
theorem cv_L_105 : CSV RL 105 yX9_row := ⟨mem0 (i := 1123) (by decide +kernel) rfl, mem0 (i := 1124) (by decide +kernel) rfl, mem0 (i := 1125) (by decide +kernel) rfl⟩
theorem cv_L_106 : CSV RL 106 yX8_clear := ⟨mem0 (i := 697) (by decide +kernel) rfl, mem0 (i := 698) (by decide +kernel) rfl, mem0 (i := 699) (by decide +kernel) rfl⟩
theorem cv_L_109 : CSV RL 109 yX9_clear := ⟨mem0 (i := 1127) (by decide +kernel) rfl, mem0 (i := 1128) (by decide +kernel) rfl, mem0 (i := 1129) (by decide +kernel) rfl⟩
theorem cv_L_110 : CSV RL 110 yX8_cord := ⟨mem0 (i := 701) (by decide +kernel) rfl, mem0 (i := 702) (by decide +kernel) rfl, mem0 (i := 703) (by decide +kernel) rfl⟩
theorem cv_L_113 : CSV RL 113 yX9_cord := ⟨mem0 (i := 1131) (by decide +kernel) rfl, mem0 (i := 1132) (by decide +kernel) rfl, mem0 (i := 1133) (by decide +kernel) rfl⟩
theorem cv_L_114 : CSV RL 114 yX8_down := ⟨mem0 (i := 705) (by decide +kernel) rfl, mem0 (i := 706) (by decide +kernel) rfl, mem0 (i := 707) (by decide +kernel) rfl⟩
theorem cv_L_117 : CSV RL 117 yX9_down := ⟨mem0 (i := 1135) (by decide +kernel) rfl, mem0 (i := 1136) (by decide +kernel) rfl, mem0 (i := 1137) (by decide +kernel) rfl⟩
theorem cv_L_118 : CSV RL 118 yX8_filmed := ⟨mem0 (i := 717) (by decide +kernel) rfl, mem0 (i := 718) (by decide +kernel) rfl, mem0 (i := 719) (by decide +kernel) rfl⟩
theorem cv_L_122 : CSV RL 122 yX9_filmed := ⟨mem0 (i := 1139) (by decide +kernel) rfl, mem0 (i := 1140) (by decide +kernel) rfl, mem0 (i := 1141) (by decide +kernel) rfl⟩
theorem cv_L_123 : CSV RL 123 yX8_image := ⟨mem0 (i := 746) (by decide +kernel) rfl, mem0 (i := 747) (by decide +kernel) rfl, mem0 (i := 748) (by decide +kernel) rfl⟩
theorem cv_L_126 : CSV RL 126 yX9_image := ⟨mem0 (i := 1155) (by decide +kernel) rfl, mem0 (i := 1156) (by decide +kernel) rfl, mem0 (i := 1157) (by decide +kernel) rfl⟩
theorem cv_L_127 : CSV RL 127 yX8_restore := ⟨mem0 (i := 755) (by decide +kernel) rfl, mem0 (i := 756) (by decide +kernel) rfl, mem0 (i := 757) (by decide +kernel) rfl⟩
theorem cv_L_13 : CSV RL 13 yX8_set := ⟨mem0 (i := 350) (by decide +kernel) rfl, mem0 (i := 351) (by decide +kernel) rfl, mem0 (i := 352) (by decide +kernel) rfl⟩
theorem cv_L_130 : CSV RL 130 yX9_restore := ⟨mem0 (i := 1162) (by decide +kernel) rfl, mem0 (i := 1163) (by decide +kernel) rfl, mem0 (i := 1164) (by decide +kernel) rfl⟩
theorem cv_L_131 : CSV RL 131 yX8_film := ⟨mem0 (i := 759) (by decide +kernel) rfl, mem0 (i := 760) (by decide +kernel) rfl, mem0 (i := 761) (by decide +kernel) rfl⟩
theorem cv_L_134 : CSV RL 134 yX9_film := ⟨mem0 (i := 1169) (by decide +kernel) rfl, mem0 (i := 1170) (by decide +kernel) rfl, mem0 (i := 1171) (by decide +kernel) rfl⟩
theorem cv_L_135 : CSV RL 135 yX8_sheet := ⟨mem0 (i := 770) (by decide +kernel) rfl, mem0 (i := 771) (by decide +kernel) rfl, mem0 (i := 772) (by decide +kernel) rfl⟩
theorem cv_L_138 : CSV RL 138 yX9_sheet := ⟨mem0 (i := 1176) (by decide +kernel) rfl, mem0 (i := 1177) (by decide +kernel) rfl, mem0 (i := 1178) (by decide +kernel) rfl⟩
theorem cv_L_139 : CSV RL 139 yX8_drop := ⟨mem0 (i := 781) (by decide +kernel) rfl, mem0 (i := 782) (by decide +kernel) rfl, mem0 (i := 783) (by decide +kernel) rfl⟩
theorem cv_L_142 : CSV RL 142 yX9_drop := ⟨mem0 (i := 1180) (by decide +kernel) rfl, mem0 (i := 1181) (by decide +kernel) rfl, mem0 (i := 1182) (by decide +kernel) rfl⟩
theorem cv_L_143 : CSV RL 143 yX8_item := ⟨mem0 (i := 790) (by decide +kernel) rfl, mem0 (i := 791) (by decide +kernel) rfl, mem0 (i := 792) (by decide +kernel) rfl⟩
theorem cv_L_146 : CSV RL 146 yX9_item := ⟨mem0 (i := 1184) (by decide +kernel) rfl, mem0 (i := 1185) (by decide +kernel) rfl, mem0 (i := 1186) (by decide +kernel) rfl⟩
theorem cv_L_147 : CSV RL 147 yX8_copy := ⟨mem0 (i := 794) (by decide +kernel) rfl, mem0 (i := 795) (by decide +kernel) rfl, mem0 (i := 796) (by decide +kernel) rfl⟩
theorem cv_L_150 : CSV RL 150 yX9_copy := ⟨mem0 (i := 1188) (by decide +kernel) rfl, mem0 (i := 1189) (by decide +kernel) rfl, mem0 (i := 1190) (by decide +kernel) rfl⟩
theorem cv_L_17 : CSV RL 17 yX9_set := ⟨mem0 (i := 932) (by decide +kernel) rfl, mem0 (i := 933) (by decide +kernel) rfl, mem0 (i := 934) (by decide +kernel) rfl⟩
theorem cv_L_18 : CSV RL 18 yX8_cup := ⟨mem0 (i := 361) (by decide +kernel) rfl, mem0 (i := 362) (by decide +kernel) rfl, mem0 (i := 363) (by decide +kernel) rfl⟩
theorem cv_L_22 : CSV RL 22 yX9_cup := ⟨mem0 (i := 944) (by decide +kernel) rfl, mem0 (i := 945) (by decide +kernel) rfl, mem0 (i := 946) (by decide +kernel) rfl⟩
theorem cv_L_23 : CSV RL 23 yX8_told := ⟨mem0 (i := 385) (by decide +kernel) rfl, mem0 (i := 386) (by decide +kernel) rfl, mem0 (i := 387) (by decide +kernel) rfl⟩
theorem cv_L_26 : CSV RL 26 yX9_told := ⟨mem0 (i := 955) (by decide +kernel) rfl, mem0 (i := 956) (by decide +kernel) rfl, mem0 (i := 957) (by decide +kernel) rfl⟩
theorem cv_L_27 : CSV RL 27 yX8_part := ⟨mem0 (i := 395) (by decide +kernel) rfl, mem0 (i := 396) (by decide +kernel) rfl, mem0 (i := 397) (by decide +kernel) rfl⟩
theorem cv_L_31 : CSV RL 31 yX9_part := ⟨mem0 (i := 964) (by decide +kernel) rfl, mem0 (i := 965) (by decide +kernel) rfl, mem0 (i := 966) (by decide +kernel) rfl⟩
theorem cv_L_32 : CSV RL 32 yX8_pull := ⟨mem0 (i := 402) (by decide +kernel) rfl, mem0 (i := 403) (by decide +kernel) rfl, mem0 (i := 404) (by decide +kernel) rfl⟩
theorem cv_L_35 : CSV RL 35 yX9_pull := ⟨mem0 (i := 972) (by decide +kernel) rfl, mem0 (i := 973) (by decide +kernel) rfl, mem0 (i := 974) (by decide +kernel) rfl⟩
theorem cv_L_36 : CSV RL 36 yX8_still := ⟨mem0 (i := 406) (by decide +kernel) rfl, mem0 (i := 407) (by decide +kernel) rfl, mem0 (i := 408) (by decide +kernel) rfl⟩
theorem cv_L_40 : CSV RL 40 yX9_still := ⟨mem0 (i := 976) (by decide +kernel) rfl, mem0 (i := 977) (by decide +kernel) rfl, mem0 (i := 978) (by decide +kernel) rfl⟩
theorem cv_L_43 : CSV RL 43 yX8_type := ⟨mem0 (i := 414) (by decide +kernel) rfl, mem0 (i := 415) (by decide +kernel) rfl, mem0 (i := 416) (by decide +kernel) rfl⟩
theorem cv_L_47 : CSV RL 47 yX9_type := ⟨mem0 (i := 980) (by decide +kernel) rfl, mem0 (i := 981) (by decide +kernel) rfl, mem0 (i := 982) (by decide +kernel) rfl⟩
theorem cv_L_48 : CSV RL 48 yX8_toy := ⟨mem0 (i := 429) (by decide +kernel) rfl, mem0 (i := 430) (by decide +kernel) rfl, mem0 (i := 431) (by decide +kernel) rfl⟩
theorem cv_L_51 : CSV RL 51 yX9_toy := ⟨mem0 (i := 988) (by decide +kernel) rfl, mem0 (i := 989) (by decide +kernel) rfl, mem0 (i := 990) (by decide +kernel) rfl⟩
theorem cv_L_52 : CSV RL 52 yX8_pulls := ⟨mem0 (i := 485) (by decide +kernel) rfl, mem0 (i := 486) (by decide +kernel) rfl, mem0 (i := 487) (by decide +kernel) rfl⟩
theorem cv_L_55 : CSV RL 55 yX9_pulls := ⟨mem0 (i := 1026) (by decide +kernel) rfl, mem0 (i := 1027) (by decide +kernel) rfl, mem0 (i := 1028) (by decide +kernel) rfl⟩
theorem cv_L_56 : CSV RL 56 yX8_at := ⟨mem0 (i := 498) (by decide +kernel) rfl, mem0 (i := 499) (by decide +kernel) rfl, mem0 (i := 500) (by decide +kernel) rfl⟩
theorem cv_L_59 : CSV RL 59 yX9_at := ⟨mem0 (i := 1034) (by decide +kernel) rfl, mem0 (i := 1035) (by decide +kernel) rfl, mem0 (i := 1036) (by decide +kernel) rfl⟩
theorem cv_L_60 : CSV RL 60 yX8_end := ⟨mem0 (i := 559) (by decide +kernel) rfl, mem0 (i := 560) (by decide +kernel) rfl, mem0 (i := 561) (by decide +kernel) rfl⟩
theorem cv_L_64 : CSV RL 64 yX9_end := ⟨mem0 (i := 1060) (by decide +kernel) rfl, mem0 (i := 1061) (by decide +kernel) rfl, mem0 (i := 1062) (by decide +kernel) rfl⟩
theorem cv_L_65 : CSV RL 65 yX8_count := ⟨mem0 (i := 563) (by decide +kernel) rfl, mem0 (i := 564) (by decide +kernel) rfl, mem0 (i := 565) (by decide +kernel) rfl⟩
theorem cv_L_68 : CSV RL 68 yX9_count := ⟨mem0 (i := 1030) (by decide +kernel) rfl, mem0 (i := 1031) (by decide +kernel) rfl, mem0 (i := 1032) (by decide +kernel) rfl⟩
theorem cv_L_69 : CSV RL 69 yX8_ends := ⟨mem0 (i := 572) (by decide +kernel) rfl, mem0 (i := 573) (by decide +kernel) rfl, mem0 (i := 574) (by decide +kernel) rfl⟩
theorem cv_L_72 : CSV RL 72 yX9_ends := ⟨mem0 (i := 1065) (by decide +kernel) rfl, mem0 (i := 1066) (by decide +kernel) rfl, mem0 (i := 1067) (by decide +kernel) rfl⟩
theorem cv_L_73 : CSV RL 73 yX8_cells := ⟨mem0 (i := 585) (by decide +kernel) rfl, mem0 (i := 586) (by decide +kernel) rfl, mem0 (i := 587) (by decide +kernel) rfl⟩
theorem cv_L_76 : CSV RL 76 yX9_cells := ⟨mem0 (i := 1074) (by decide +kernel) rfl, mem0 (i := 1075) (by decide +kernel) rfl, mem0 (i := 1076) (by decide +kernel) rfl⟩
theorem cv_L_77 : CSV RL 77 yX8_middle := ⟨mem0 (i := 617) (by decide +kernel) rfl, mem0 (i := 618) (by decide +kernel) rfl, mem0 (i := 619) (by decide +kernel) rfl⟩
theorem cv_L_80 : CSV RL 80 yX9_middle := ⟨mem0 (i := 1086) (by decide +kernel) rfl, mem0 (i := 1087) (by decide +kernel) rfl, mem0 (i := 1088) (by decide +kernel) rfl⟩
theorem cv_L_81 : CSV RL 81 yX8_mended := ⟨mem0 (i := 638) (by decide +kernel) rfl, mem0 (i := 639) (by decide +kernel) rfl, mem0 (i := 640) (by decide +kernel) rfl⟩
theorem cv_L_84 : CSV RL 84 yX9_mended := ⟨mem0 (i := 1096) (by decide +kernel) rfl, mem0 (i := 1097) (by decide +kernel) rfl, mem0 (i := 1098) (by decide +kernel) rfl⟩
theorem cv_L_85 : CSV RL 85 yX8_odds := ⟨mem0 (i := 646) (by decide +kernel) rfl, mem0 (i := 647) (by decide +kernel) rfl, mem0 (i := 648) (by decide +kernel) rfl⟩
theorem cv_L_88 : CSV RL 88 yX9_odds := ⟨mem0 (i := 1100) (by decide +kernel) rfl, mem0 (i := 1101) (by decide +kernel) rfl, mem0 (i := 1102) (by decide +kernel) rfl⟩
theorem cv_L_89 : CSV RL 89 yX8_which := ⟨mem0 (i := 655) (by decide +kernel) rfl, mem0 (i := 656) (by decide +kernel) rfl, mem0 (i := 657) (by decide +kernel) rfl⟩
theorem cv_L_92 : CSV RL 92 yX9_which := ⟨mem0 (i := 1108) (by decide +kernel) rfl, mem0 (i := 1109) (by decide +kernel) rfl, mem0 (i := 1110) (by decide +kernel) rfl⟩
theorem cv_L_93 : CSV RL 93 yX8_trick := ⟨mem0 (i := 659) (by decide +kernel) rfl, mem0 (i := 660) (by decide +kernel) rfl, mem0 (i := 661) (by decide +kernel) rfl⟩
theorem cv_L_97 : CSV RL 97 yX9_trick := ⟨mem0 (i := 1112) (by decide +kernel) rfl, mem0 (i := 1113) (by decide +kernel) rfl, mem0 (i := 1114) (by decide +kernel) rfl⟩
theorem cv_L_98 : CSV RL 98 yX8_most := ⟨mem0 (i := 663) (by decide +kernel) rfl, mem0 (i := 664) (by decide +kernel) rfl, mem0 (i := 665) (by decide +kernel) rfl⟩
theorem cv_X9_103 : CSV RX9 103 yX9_partIs := ⟨mem0 (i := 968) (by decide +kernel) rfl, mem0 (i := 970) (by decide +kernel) rfl, mem0 (i := 25) (by decide +kernel) rfl⟩
theorem cv_X9_125 : CSV RX9 125 yX9_here := ⟨mem0 (i := 1008) (by decide +kernel) rfl, mem0 (i := 1010) (by decide +kernel) rfl, mem0 (i := 30) (by decide +kernel) rfl⟩
theorem cv_X9_133 : CSV RX9 133 yX9_has := ⟨mem0 (i := 1004) (by decide +kernel) rfl, mem0 (i := 1006) (by decide +kernel) rfl, mem0 (i := 29) (by decide +kernel) rfl⟩
theorem cv_X9_136 : CSV RX9 136 yX9_digit := ⟨mem0 (i := 1012) (by decide +kernel) rfl, mem0 (i := 1014) (by decide +kernel) rfl, mem0 (i := 31) (by decide +kernel) rfl⟩
theorem cv_X9_139 : CSV RX9 139 yX9_signed := ⟨mem0 (i := 1000) (by decide +kernel) rfl, mem0 (i := 1002) (by decide +kernel) rfl, mem0 (i := 28) (by decide +kernel) rfl⟩
theorem cv_X9_142 : CSV RX9 142 yX9_number := ⟨mem0 (i := 1018) (by decide +kernel) rfl, mem0 (i := 1020) (by decide +kernel) rfl, mem0 (i := 32) (by decide +kernel) rfl⟩
theorem cv_X9_146 : CSV RX9 146 yX9_cupClause := ⟨mem0 (i := 996) (by decide +kernel) rfl, mem0 (i := 998) (by decide +kernel) rfl, mem0 (i := 27) (by decide +kernel) rfl⟩
theorem cv_X9_150 : CSV RX9 150 yX9_partClause := ⟨mem0 (i := 1022) (by decide +kernel) rfl, mem0 (i := 1024) (by decide +kernel) rfl, mem0 (i := 33) (by decide +kernel) rfl⟩
theorem cv_X9_153 : CSV RX9 153 yX9_readAll := ⟨mem0 (i := 992) (by decide +kernel) rfl, mem0 (i := 994) (by decide +kernel) rfl, mem0 (i := 26) (by decide +kernel) rfl⟩
theorem ct_X9_175 : CSS RX9 175 yX9_root false := ⟨mem0 (i := 1051) (by decide +kernel) rfl, fun _ => mem0 (i := 1050) (by decide +kernel) rfl, (by intro h; cases h)⟩
theorem ct_X9_197 : CSS RX9 197 yX9_size false := ⟨mem0 (i := 1058) (by decide +kernel) rfl, fun _ => mem0 (i := 1057) (by decide +kernel) rfl, (by intro h; cases h)⟩
theorem cv_X9_209 : CSV RX9 209 yX9_lays := ⟨mem0 (i := 1042) (by decide +kernel) rfl, mem0 (i := 1044) (by decide +kernel) rfl, mem0 (i := 35) (by decide +kernel) rfl⟩
theorem cv_X9_215 : CSV RX9 215 yX9_swings := ⟨mem0 (i := 1046) (by decide +kernel) rfl, mem0 (i := 1048) (by decide +kernel) rfl, mem0 (i := 36) (by decide +kernel) rfl⟩
theorem cv_X9_218 : CSV RX9 218 yX9_meets := ⟨mem0 (i := 1053) (by decide +kernel) rfl, mem0 (i := 1055) (by decide +kernel) rfl, mem0 (i := 37) (by decide +kernel) rfl⟩
theorem cv_X9_222 : CSV RX9 222 yX9_tries := ⟨mem0 (i := 1038) (by decide +kernel) rfl, mem0 (i := 1040) (by decide +kernel) rfl, mem0 (i := 34) (by decide +kernel) rfl⟩
theorem cv_X9_227 : CSV RX9 227 yX9_endBy := ⟨mem0 (i := 1070) (by decide +kernel) rfl, mem0 (i := 1072) (by decide +kernel) rfl, mem0 (i := 38) (by decide +kernel) rfl⟩
theorem cv_X9_232 : CSV RX9 232 yX9_grid := ⟨mem0 (i := 1078) (by decide +kernel) rfl, mem0 (i := 1080) (by decide +kernel) rfl, mem0 (i := 39) (by decide +kernel) rfl⟩
theorem cv_X9_235 : CSV RX9 235 yX9_groups := ⟨mem0 (i := 1082) (by decide +kernel) rfl, mem0 (i := 1084) (by decide +kernel) rfl, mem0 (i := 40) (by decide +kernel) rfl⟩
theorem cv_X9_239 : CSV RX9 239 yX9_isRing := ⟨mem0 (i := 1091) (by decide +kernel) rfl, mem0 (i := 1093) (by decide +kernel) rfl, mem0 (i := 41) (by decide +kernel) rfl⟩
theorem cv_X9_244 : CSV RX9 244 yX9_oddsOf := ⟨mem0 (i := 1104) (by decide +kernel) rfl, mem0 (i := 1106) (by decide +kernel) rfl, mem0 (i := 42) (by decide +kernel) rfl⟩
theorem ct_X9_253 : CSS RX9 253 yX9_isSheet false := ⟨mem0 (i := 1144) (by decide +kernel) rfl, fun _ => mem0 (i := 1143) (by decide +kernel) rfl, (by intro h; cases h)⟩
theorem ct_X9_256 : CSS RX9 256 yX9_isLane false := ⟨mem0 (i := 1147) (by decide +kernel) rfl, fun _ => mem0 (i := 1146) (by decide +kernel) rfl, (by intro h; cases h)⟩
theorem cv_X9_261 : CSV RX9 261 yX9_finds := ⟨mem0 (i := 1150) (by decide +kernel) rfl, mem0 (i := 1152) (by decide +kernel) rfl, mem0 (i := 43) (by decide +kernel) rfl⟩
theorem ct_X9_266 : CSS RX9 266 yX9_saves false := ⟨mem0 (i := 1160) (by decide +kernel) rfl, fun _ => mem0 (i := 1159) (by decide +kernel) rfl, (by intro h; cases h)⟩
theorem ct_X9_273 : CSS RX9 273 yX9_gives false := ⟨mem0 (i := 1167) (by decide +kernel) rfl, fun _ => mem0 (i := 1166) (by decide +kernel) rfl, (by intro h; cases h)⟩
theorem ct_X9_277 : CSS RX9 277 yX9_cast false := ⟨mem0 (i := 1174) (by decide +kernel) rfl, fun _ => mem0 (i := 1173) (by decide +kernel) rfl, (by intro h; cases h)⟩
theorem ct_X9_71 : CSS RX9 71 yX9_in false := ⟨mem0 (i := 938) (by decide +kernel) rfl, fun _ => mem0 (i := 937) (by decide +kernel) rfl, (by intro h; cases h)⟩
theorem cv_X9_91 : CSV RX9 91 yX9_cupIs := ⟨mem0 (i := 951) (by decide +kernel) rfl, mem0 (i := 953) (by decide +kernel) rfl, mem0 (i := 23) (by decide +kernel) rfl⟩
theorem cv_X9_95 : CSV RX9 95 yX9_isCup := ⟨mem0 (i := 959) (by decide +kernel) rfl, mem0 (i := 961) (by decide +kernel) rfl, mem0 (i := 24) (by decide +kernel) rfl⟩
theorem ct_X3_76 : CSS RX3 76 yX8_addCup true := ⟨mem0 (i := 370) (by decide +kernel) rfl, (by intro h; cases h), fun _ => ⟨"BallInCup", memN (i := 474) (by decide +kernel) rfl⟩⟩
theorem ct_X3_80 : CSS RX3 80 yX8_addPart true := ⟨mem0 (i := 400) (by decide +kernel) rfl, (by intro h; cases h), fun _ => ⟨"BallInCup", memN (i := 497) (by decide +kernel) rfl⟩⟩
theorem ct_X3_84 : CSS RX3 84 yX8_isIn true := ⟨mem0 (i := 355) (by decide +kernel) rfl, (by intro h; cases h), fun _ => ⟨"BallInCup", memN (i := 462) (by decide +kernel) rfl⟩⟩
end
section
theorem zz_end : True := trivial
end
