section
-- ===== PART A: goes FIRST, ahead of the names: the tables' words, and 'selects' of the private methods out of them =====
/-- a private method of a class that the tables say can be made, by its rows of tables_1 -/
def lw_okq (q : MethodName × Nat) : Prop := (q.1.cls ≠ "java/lang/invoke/MethodHandle" ∧ q.1.cls ≠ "java/lang/invoke/VarHandle") ∧ Cond.instantiable q.1.cls q.2 ∈ tables_1 ∧ Cond.privateMethod q.1 ∈ tables_1 ∧ Cond.instanceMethod q.1 ∈ tables_1
theorem lw_p0 : lw_okq (⟨"BeggarCorners", "isBeggar", "(I)Z"⟩, 12) := ⟨⟨by decide +kernel, by decide +kernel⟩, List.mem_of_getElem? (i := 20) (by decide +kernel), List.mem_of_getElem? (i := 268) (by decide +kernel), List.mem_of_getElem? (i := 269) (by decide +kernel)⟩
theorem lw_p1 : lw_okq (⟨"BeggarCorners$Street", "offends", "(II)Z"⟩, 14) := ⟨⟨by decide +kernel, by decide +kernel⟩, List.mem_of_getElem? (i := 28) (by decide +kernel), List.mem_of_getElem? (i := 276) (by decide +kernel), List.mem_of_getElem? (i := 277) (by decide +kernel)⟩
theorem lw_p2 : lw_okq (⟨"BeggarCorners", "counting", "(II)LBeggarCorners$Text;"⟩, 12) := ⟨⟨by decide +kernel, by decide +kernel⟩, List.mem_of_getElem? (i := 20) (by decide +kernel), List.mem_of_getElem? (i := 290) (by decide +kernel), List.mem_of_getElem? (i := 291) (by decide +kernel)⟩
theorem lw_p3 : lw_okq (⟨"BeggarCorners", "lastOf", "(II)I"⟩, 12) := ⟨⟨by decide +kernel, by decide +kernel⟩, List.mem_of_getElem? (i := 20) (by decide +kernel), List.mem_of_getElem? (i := 294) (by decide +kernel), List.mem_of_getElem? (i := 295) (by decide +kernel)⟩
theorem lw_p4 : lw_okq (⟨"BeggarCorners$Street", "payRents", "()V"⟩, 14) := ⟨⟨by decide +kernel, by decide +kernel⟩, List.mem_of_getElem? (i := 28) (by decide +kernel), List.mem_of_getElem? (i := 393) (by decide +kernel), List.mem_of_getElem? (i := 394) (by decide +kernel)⟩
theorem lw_p5 : lw_okq (⟨"BeggarCorners$Street", "walk", "(IIIILBeggarCorners$Alms;)V"⟩, 14) := ⟨⟨by decide +kernel, by decide +kernel⟩, List.mem_of_getElem? (i := 28) (by decide +kernel), List.mem_of_getElem? (i := 398) (by decide +kernel), List.mem_of_getElem? (i := 399) (by decide +kernel)⟩
theorem lw_p6 : lw_okq (⟨"BeggarCorners", "think", "()V"⟩, 12) := ⟨⟨by decide +kernel, by decide +kernel⟩, List.mem_of_getElem? (i := 20) (by decide +kernel), List.mem_of_getElem? (i := 425) (by decide +kernel), List.mem_of_getElem? (i := 426) (by decide +kernel)⟩
theorem lw_p7 : lw_okq (⟨"BeggarCorners", "differences", "(LBeggarCorners$Sheet;II)I"⟩, 12) := ⟨⟨by decide +kernel, by decide +kernel⟩, List.mem_of_getElem? (i := 20) (by decide +kernel), List.mem_of_getElem? (i := 478) (by decide +kernel), List.mem_of_getElem? (i := 479) (by decide +kernel)⟩
theorem lw_p8 : lw_okq (⟨"BeggarCorners$Reader", "advance", "()V"⟩, 9) := ⟨⟨by decide +kernel, by decide +kernel⟩, List.mem_of_getElem? (i := 109) (by decide +kernel), List.mem_of_getElem? (i := 523) (by decide +kernel), List.mem_of_getElem? (i := 524) (by decide +kernel)⟩
theorem lw_p9 : lw_okq (⟨"BeggarCorners$Reader", "sortAt", "(I)I"⟩, 9) := ⟨⟨by decide +kernel, by decide +kernel⟩, List.mem_of_getElem? (i := 109) (by decide +kernel), List.mem_of_getElem? (i := 527) (by decide +kernel), List.mem_of_getElem? (i := 528) (by decide +kernel)⟩
theorem lw_p10 : lw_okq (⟨"BeggarCorners$Reader", "keyHere", "()I"⟩, 9) := ⟨⟨by decide +kernel, by decide +kernel⟩, List.mem_of_getElem? (i := 109) (by decide +kernel), List.mem_of_getElem? (i := 531) (by decide +kernel), List.mem_of_getElem? (i := 532) (by decide +kernel)⟩
theorem lw_p11 : lw_okq (⟨"BeggarCorners$Reader", "isHere", "(Ljava/lang/String;)Z"⟩, 9) := ⟨⟨by decide +kernel, by decide +kernel⟩, List.mem_of_getElem? (i := 109) (by decide +kernel), List.mem_of_getElem? (i := 541) (by decide +kernel), List.mem_of_getElem? (i := 542) (by decide +kernel)⟩
theorem lw_p12 : lw_okq (⟨"BeggarCorners$Reader", "fail", "()V"⟩, 9) := ⟨⟨by decide +kernel, by decide +kernel⟩, List.mem_of_getElem? (i := 109) (by decide +kernel), List.mem_of_getElem? (i := 593) (by decide +kernel), List.mem_of_getElem? (i := 594) (by decide +kernel)⟩
theorem lw_p13 : lw_okq (⟨"BeggarCorners$Reader", "readLevel", "(III)V"⟩, 9) := ⟨⟨by decide +kernel, by decide +kernel⟩, List.mem_of_getElem? (i := 109) (by decide +kernel), List.mem_of_getElem? (i := 597) (by decide +kernel), List.mem_of_getElem? (i := 598) (by decide +kernel)⟩
theorem lw_p14 : lw_okq (⟨"BeggarCorners$Reader", "readPiece", "(II)V"⟩, 9) := ⟨⟨by decide +kernel, by decide +kernel⟩, List.mem_of_getElem? (i := 109) (by decide +kernel), List.mem_of_getElem? (i := 601) (by decide +kernel), List.mem_of_getElem? (i := 602) (by decide +kernel)⟩
theorem lw_p15 : lw_okq (⟨"BeggarCorners$Reader", "numberHere", "()I"⟩, 9) := ⟨⟨by decide +kernel, by decide +kernel⟩, List.mem_of_getElem? (i := 109) (by decide +kernel), List.mem_of_getElem? (i := 605) (by decide +kernel), List.mem_of_getElem? (i := 606) (by decide +kernel)⟩
def lw_privs_1 : List (MethodName × Nat) := [(⟨"BeggarCorners", "isBeggar", "(I)Z"⟩, 12), (⟨"BeggarCorners$Street", "offends", "(II)Z"⟩, 14), (⟨"BeggarCorners", "counting", "(II)LBeggarCorners$Text;"⟩, 12), (⟨"BeggarCorners", "lastOf", "(II)I"⟩, 12), (⟨"BeggarCorners$Street", "payRents", "()V"⟩, 14), (⟨"BeggarCorners$Street", "walk", "(IIIILBeggarCorners$Alms;)V"⟩, 14), (⟨"BeggarCorners", "think", "()V"⟩, 12), (⟨"BeggarCorners", "differences", "(LBeggarCorners$Sheet;II)I"⟩, 12), (⟨"BeggarCorners$Reader", "advance", "()V"⟩, 9), (⟨"BeggarCorners$Reader", "sortAt", "(I)I"⟩, 9), (⟨"BeggarCorners$Reader", "keyHere", "()I"⟩, 9), (⟨"BeggarCorners$Reader", "isHere", "(Ljava/lang/String;)Z"⟩, 9), (⟨"BeggarCorners$Reader", "fail", "()V"⟩, 9), (⟨"BeggarCorners$Reader", "readLevel", "(III)V"⟩, 9), (⟨"BeggarCorners$Reader", "readPiece", "(II)V"⟩, 9), (⟨"BeggarCorners$Reader", "numberHere", "()I"⟩, 9)]
theorem lw_r1 : ∀ q ∈ lw_privs_1, lw_okq q := List.forall_mem_cons.mpr ⟨lw_p0, List.forall_mem_cons.mpr ⟨lw_p1, List.forall_mem_cons.mpr ⟨lw_p2, List.forall_mem_cons.mpr ⟨lw_p3, List.forall_mem_cons.mpr ⟨lw_p4, List.forall_mem_cons.mpr ⟨lw_p5, List.forall_mem_cons.mpr ⟨lw_p6, List.forall_mem_cons.mpr ⟨lw_p7, List.forall_mem_cons.mpr ⟨lw_p8, List.forall_mem_cons.mpr ⟨lw_p9, List.forall_mem_cons.mpr ⟨lw_p10, List.forall_mem_cons.mpr ⟨lw_p11, List.forall_mem_cons.mpr ⟨lw_p12, List.forall_mem_cons.mpr ⟨lw_p13, List.forall_mem_cons.mpr ⟨lw_p14, List.forall_mem_cons.mpr ⟨lw_p15, fun _ h => absurd h List.not_mem_nil⟩⟩⟩⟩⟩⟩⟩⟩⟩⟩⟩⟩⟩⟩⟩⟩
theorem lw_p16 : lw_okq (⟨"BeggarCorners$Reader", "readOperand", "(I)V"⟩, 9) := ⟨⟨by decide +kernel, by decide +kernel⟩, List.mem_of_getElem? (i := 109) (by decide +kernel), List.mem_of_getElem? (i := 609) (by decide +kernel), List.mem_of_getElem? (i := 610) (by decide +kernel)⟩
theorem lw_p17 : lw_okq (⟨"BeggarCorners$Reader", "addStep", "(I)V"⟩, 9) := ⟨⟨by decide +kernel, by decide +kernel⟩, List.mem_of_getElem? (i := 109) (by decide +kernel), List.mem_of_getElem? (i := 613) (by decide +kernel), List.mem_of_getElem? (i := 614) (by decide +kernel)⟩
theorem lw_p18 : lw_okq (⟨"BeggarCorners$Reader", "nameHere", "()I"⟩, 9) := ⟨⟨by decide +kernel, by decide +kernel⟩, List.mem_of_getElem? (i := 109) (by decide +kernel), List.mem_of_getElem? (i := 617) (by decide +kernel), List.mem_of_getElem? (i := 618) (by decide +kernel)⟩
theorem lw_p19 : lw_okq (⟨"BeggarCorners$Reader", "isSign", "(C)Z"⟩, 9) := ⟨⟨by decide +kernel, by decide +kernel⟩, List.mem_of_getElem? (i := 109) (by decide +kernel), List.mem_of_getElem? (i := 682) (by decide +kernel), List.mem_of_getElem? (i := 683) (by decide +kernel)⟩
theorem lw_p20 : lw_okq (⟨"BeggarCorners$Reader", "levelHere", "()I"⟩, 9) := ⟨⟨by decide +kernel, by decide +kernel⟩, List.mem_of_getElem? (i := 109) (by decide +kernel), List.mem_of_getElem? (i := 686) (by decide +kernel), List.mem_of_getElem? (i := 687) (by decide +kernel)⟩
theorem lw_p21 : lw_okq (⟨"BeggarCorners", "stands", "(III)Z"⟩, 12) := ⟨⟨by decide +kernel, by decide +kernel⟩, List.mem_of_getElem? (i := 20) (by decide +kernel), List.mem_of_getElem? (i := 805) (by decide +kernel), List.mem_of_getElem? (i := 806) (by decide +kernel)⟩
theorem lw_p22 : lw_okq (⟨"BeggarCornersModel", "comes", "(III)I"⟩, 33) := ⟨⟨by decide +kernel, by decide +kernel⟩, List.mem_of_getElem? (i := 821) (by decide +kernel), List.mem_of_getElem? (i := 938) (by decide +kernel), List.mem_of_getElem? (i := 939) (by decide +kernel)⟩
theorem lw_p23 : lw_okq (⟨"BeggarCornersModel", "put", "(III)V"⟩, 33) := ⟨⟨by decide +kernel, by decide +kernel⟩, List.mem_of_getElem? (i := 821) (by decide +kernel), List.mem_of_getElem? (i := 942) (by decide +kernel), List.mem_of_getElem? (i := 943) (by decide +kernel)⟩
theorem lw_p24 : lw_okq (⟨"BeggarCornersModel", "isBeggar", "(I)Z"⟩, 33) := ⟨⟨by decide +kernel, by decide +kernel⟩, List.mem_of_getElem? (i := 821) (by decide +kernel), List.mem_of_getElem? (i := 950) (by decide +kernel), List.mem_of_getElem? (i := 951) (by decide +kernel)⟩
theorem lw_p25 : lw_okq (⟨"BeggarCornersModel", "of", "(II)I"⟩, 33) := ⟨⟨by decide +kernel, by decide +kernel⟩, List.mem_of_getElem? (i := 821) (by decide +kernel), List.mem_of_getElem? (i := 954) (by decide +kernel), List.mem_of_getElem? (i := 955) (by decide +kernel)⟩
theorem lw_p26 : lw_okq (⟨"BeggarCornersModel", "worthOf", "(I)I"⟩, 33) := ⟨⟨by decide +kernel, by decide +kernel⟩, List.mem_of_getElem? (i := 821) (by decide +kernel), List.mem_of_getElem? (i := 958) (by decide +kernel), List.mem_of_getElem? (i := 959) (by decide +kernel)⟩
theorem lw_p27 : lw_okq (⟨"BeggarCornersModel", "isAgainst", "(I)Z"⟩, 33) := ⟨⟨by decide +kernel, by decide +kernel⟩, List.mem_of_getElem? (i := 821) (by decide +kernel), List.mem_of_getElem? (i := 962) (by decide +kernel), List.mem_of_getElem? (i := 963) (by decide +kernel)⟩
theorem lw_p28 : lw_okq (⟨"BeggarCornersModel", "givenTo", "(IIII)I"⟩, 33) := ⟨⟨by decide +kernel, by decide +kernel⟩, List.mem_of_getElem? (i := 821) (by decide +kernel), List.mem_of_getElem? (i := 970) (by decide +kernel), List.mem_of_getElem? (i := 971) (by decide +kernel)⟩
theorem lw_p29 : lw_okq (⟨"BeggarCornersModel", "counts", "(I)I"⟩, 33) := ⟨⟨by decide +kernel, by decide +kernel⟩, List.mem_of_getElem? (i := 821) (by decide +kernel), List.mem_of_getElem? (i := 974) (by decide +kernel), List.mem_of_getElem? (i := 975) (by decide +kernel)⟩
theorem lw_p30 : lw_okq (⟨"BeggarCornersModel", "worksOut", "(I)I"⟩, 33) := ⟨⟨by decide +kernel, by decide +kernel⟩, List.mem_of_getElem? (i := 821) (by decide +kernel), List.mem_of_getElem? (i := 978) (by decide +kernel), List.mem_of_getElem? (i := 979) (by decide +kernel)⟩
theorem lw_p31 : lw_okq (⟨"BeggarCornersModel", "becomes", "(II)I"⟩, 33) := ⟨⟨by decide +kernel, by decide +kernel⟩, List.mem_of_getElem? (i := 821) (by decide +kernel), List.mem_of_getElem? (i := 1000) (by decide +kernel), List.mem_of_getElem? (i := 1001) (by decide +kernel)⟩
def lw_privs_2 : List (MethodName × Nat) := [(⟨"BeggarCorners$Reader", "readOperand", "(I)V"⟩, 9), (⟨"BeggarCorners$Reader", "addStep", "(I)V"⟩, 9), (⟨"BeggarCorners$Reader", "nameHere", "()I"⟩, 9), (⟨"BeggarCorners$Reader", "isSign", "(C)Z"⟩, 9), (⟨"BeggarCorners$Reader", "levelHere", "()I"⟩, 9), (⟨"BeggarCorners", "stands", "(III)Z"⟩, 12), (⟨"BeggarCornersModel", "comes", "(III)I"⟩, 33), (⟨"BeggarCornersModel", "put", "(III)V"⟩, 33), (⟨"BeggarCornersModel", "isBeggar", "(I)Z"⟩, 33), (⟨"BeggarCornersModel", "of", "(II)I"⟩, 33), (⟨"BeggarCornersModel", "worthOf", "(I)I"⟩, 33), (⟨"BeggarCornersModel", "isAgainst", "(I)Z"⟩, 33), (⟨"BeggarCornersModel", "givenTo", "(IIII)I"⟩, 33), (⟨"BeggarCornersModel", "counts", "(I)I"⟩, 33), (⟨"BeggarCornersModel", "worksOut", "(I)I"⟩, 33), (⟨"BeggarCornersModel", "becomes", "(II)I"⟩, 33)]
theorem lw_r2 : ∀ q ∈ lw_privs_2, lw_okq q := List.forall_mem_cons.mpr ⟨lw_p16, List.forall_mem_cons.mpr ⟨lw_p17, List.forall_mem_cons.mpr ⟨lw_p18, List.forall_mem_cons.mpr ⟨lw_p19, List.forall_mem_cons.mpr ⟨lw_p20, List.forall_mem_cons.mpr ⟨lw_p21, List.forall_mem_cons.mpr ⟨lw_p22, List.forall_mem_cons.mpr ⟨lw_p23, List.forall_mem_cons.mpr ⟨lw_p24, List.forall_mem_cons.mpr ⟨lw_p25, List.forall_mem_cons.mpr ⟨lw_p26, List.forall_mem_cons.mpr ⟨lw_p27, List.forall_mem_cons.mpr ⟨lw_p28, List.forall_mem_cons.mpr ⟨lw_p29, List.forall_mem_cons.mpr ⟨lw_p30, List.forall_mem_cons.mpr ⟨lw_p31, fun _ h => absurd h List.not_mem_nil⟩⟩⟩⟩⟩⟩⟩⟩⟩⟩⟩⟩⟩⟩⟩⟩
theorem lw_p32 : lw_okq (⟨"BeggarCornersModel", "draw", "()I"⟩, 33) := ⟨⟨by decide +kernel, by decide +kernel⟩, List.mem_of_getElem? (i := 821) (by decide +kernel), List.mem_of_getElem? (i := 1023) (by decide +kernel), List.mem_of_getElem? (i := 1024) (by decide +kernel)⟩
theorem lw_p33 : lw_okq (⟨"BeggarCornersModel", "sumOf", "(I)I"⟩, 33) := ⟨⟨by decide +kernel, by decide +kernel⟩, List.mem_of_getElem? (i := 821) (by decide +kernel), List.mem_of_getElem? (i := 1036) (by decide +kernel), List.mem_of_getElem? (i := 1037) (by decide +kernel)⟩
theorem lw_p34 : lw_okq (⟨"BeggarCornersModel", "goesOn", "(I)V"⟩, 33) := ⟨⟨by decide +kernel, by decide +kernel⟩, List.mem_of_getElem? (i := 821) (by decide +kernel), List.mem_of_getElem? (i := 1040) (by decide +kernel), List.mem_of_getElem? (i := 1041) (by decide +kernel)⟩
theorem lw_p35 : lw_okq (⟨"BeggarCornersModel", "hour", "()V"⟩, 33) := ⟨⟨by decide +kernel, by decide +kernel⟩, List.mem_of_getElem? (i := 821) (by decide +kernel), List.mem_of_getElem? (i := 1044) (by decide +kernel), List.mem_of_getElem? (i := 1045) (by decide +kernel)⟩
theorem lw_p36 : lw_okq (⟨"BeggarCornersModel", "passes", "(IIII)V"⟩, 33) := ⟨⟨by decide +kernel, by decide +kernel⟩, List.mem_of_getElem? (i := 821) (by decide +kernel), List.mem_of_getElem? (i := 1048) (by decide +kernel), List.mem_of_getElem? (i := 1049) (by decide +kernel)⟩
theorem lw_p37 : lw_okq (⟨"BeggarCornersModel", "against", "()I"⟩, 33) := ⟨⟨by decide +kernel, by decide +kernel⟩, List.mem_of_getElem? (i := 821) (by decide +kernel), List.mem_of_getElem? (i := 1056) (by decide +kernel), List.mem_of_getElem? (i := 1057) (by decide +kernel)⟩
theorem lw_p38 : lw_okq (⟨"BeggarCornersModel", "taken", "()I"⟩, 33) := ⟨⟨by decide +kernel, by decide +kernel⟩, List.mem_of_getElem? (i := 821) (by decide +kernel), List.mem_of_getElem? (i := 1060) (by decide +kernel), List.mem_of_getElem? (i := 1061) (by decide +kernel)⟩
theorem lw_p39 : lw_okq (⟨"BeggarCornersModel", "thinks", "()V"⟩, 33) := ⟨⟨by decide +kernel, by decide +kernel⟩, List.mem_of_getElem? (i := 821) (by decide +kernel), List.mem_of_getElem? (i := 1068) (by decide +kernel), List.mem_of_getElem? (i := 1069) (by decide +kernel)⟩
theorem lw_p40 : lw_okq (⟨"BeggarCornersModel", "putsBack", "()V"⟩, 33) := ⟨⟨by decide +kernel, by decide +kernel⟩, List.mem_of_getElem? (i := 821) (by decide +kernel), List.mem_of_getElem? (i := 1073) (by decide +kernel), List.mem_of_getElem? (i := 1074) (by decide +kernel)⟩
theorem lw_p41 : lw_okq (⟨"BeggarCornersModel", "stand", "(II)V"⟩, 33) := ⟨⟨by decide +kernel, by decide +kernel⟩, List.mem_of_getElem? (i := 821) (by decide +kernel), List.mem_of_getElem? (i := 1085) (by decide +kernel), List.mem_of_getElem? (i := 1086) (by decide +kernel)⟩
theorem lw_p42 : lw_okq (⟨"BeggarCornersModel", "isOwing", "()Z"⟩, 33) := ⟨⟨by decide +kernel, by decide +kernel⟩, List.mem_of_getElem? (i := 821) (by decide +kernel), List.mem_of_getElem? (i := 1098) (by decide +kernel), List.mem_of_getElem? (i := 1099) (by decide +kernel)⟩
theorem lw_p43 : lw_okq (⟨"BeggarCornersModel", "offBy", "(III)J"⟩, 33) := ⟨⟨by decide +kernel, by decide +kernel⟩, List.mem_of_getElem? (i := 821) (by decide +kernel), List.mem_of_getElem? (i := 1114) (by decide +kernel), List.mem_of_getElem? (i := 1115) (by decide +kernel)⟩
theorem lw_p44 : lw_okq (⟨"BeggarCornersModel", "go", "()V"⟩, 33) := ⟨⟨by decide +kernel, by decide +kernel⟩, List.mem_of_getElem? (i := 821) (by decide +kernel), List.mem_of_getElem? (i := 1138) (by decide +kernel), List.mem_of_getElem? (i := 1139) (by decide +kernel)⟩
theorem lw_p45 : lw_okq (⟨"BeggarCornersModel", "isLetter", "(I)Z"⟩, 33) := ⟨⟨by decide +kernel, by decide +kernel⟩, List.mem_of_getElem? (i := 821) (by decide +kernel), List.mem_of_getElem? (i := 1142) (by decide +kernel), List.mem_of_getElem? (i := 1143) (by decide +kernel)⟩
theorem lw_p46 : lw_okq (⟨"BeggarCornersModel", "isFigure", "(I)Z"⟩, 33) := ⟨⟨by decide +kernel, by decide +kernel⟩, List.mem_of_getElem? (i := 821) (by decide +kernel), List.mem_of_getElem? (i := 1146) (by decide +kernel), List.mem_of_getElem? (i := 1147) (by decide +kernel)⟩
theorem lw_p47 : lw_okq (⟨"BeggarCornersModel", "takesKey", "()Z"⟩, 33) := ⟨⟨by decide +kernel, by decide +kernel⟩, List.mem_of_getElem? (i := 821) (by decide +kernel), List.mem_of_getElem? (i := 1150) (by decide +kernel), List.mem_of_getElem? (i := 1151) (by decide +kernel)⟩
def lw_privs_3 : List (MethodName × Nat) := [(⟨"BeggarCornersModel", "draw", "()I"⟩, 33), (⟨"BeggarCornersModel", "sumOf", "(I)I"⟩, 33), (⟨"BeggarCornersModel", "goesOn", "(I)V"⟩, 33), (⟨"BeggarCornersModel", "hour", "()V"⟩, 33), (⟨"BeggarCornersModel", "passes", "(IIII)V"⟩, 33), (⟨"BeggarCornersModel", "against", "()I"⟩, 33), (⟨"BeggarCornersModel", "taken", "()I"⟩, 33), (⟨"BeggarCornersModel", "thinks", "()V"⟩, 33), (⟨"BeggarCornersModel", "putsBack", "()V"⟩, 33), (⟨"BeggarCornersModel", "stand", "(II)V"⟩, 33), (⟨"BeggarCornersModel", "isOwing", "()Z"⟩, 33), (⟨"BeggarCornersModel", "offBy", "(III)J"⟩, 33), (⟨"BeggarCornersModel", "go", "()V"⟩, 33), (⟨"BeggarCornersModel", "isLetter", "(I)Z"⟩, 33), (⟨"BeggarCornersModel", "isFigure", "(I)Z"⟩, 33), (⟨"BeggarCornersModel", "takesKey", "()Z"⟩, 33)]
theorem lw_r3 : ∀ q ∈ lw_privs_3, lw_okq q := List.forall_mem_cons.mpr ⟨lw_p32, List.forall_mem_cons.mpr ⟨lw_p33, List.forall_mem_cons.mpr ⟨lw_p34, List.forall_mem_cons.mpr ⟨lw_p35, List.forall_mem_cons.mpr ⟨lw_p36, List.forall_mem_cons.mpr ⟨lw_p37, List.forall_mem_cons.mpr ⟨lw_p38, List.forall_mem_cons.mpr ⟨lw_p39, List.forall_mem_cons.mpr ⟨lw_p40, List.forall_mem_cons.mpr ⟨lw_p41, List.forall_mem_cons.mpr ⟨lw_p42, List.forall_mem_cons.mpr ⟨lw_p43, List.forall_mem_cons.mpr ⟨lw_p44, List.forall_mem_cons.mpr ⟨lw_p45, List.forall_mem_cons.mpr ⟨lw_p46, List.forall_mem_cons.mpr ⟨lw_p47, fun _ h => absurd h List.not_mem_nil⟩⟩⟩⟩⟩⟩⟩⟩⟩⟩⟩⟩⟩⟩⟩⟩
theorem lw_p48 : lw_okq (⟨"BeggarCornersModel", "takesE", "()Z"⟩, 33) := ⟨⟨by decide +kernel, by decide +kernel⟩, List.mem_of_getElem? (i := 821) (by decide +kernel), List.mem_of_getElem? (i := 1154) (by decide +kernel), List.mem_of_getElem? (i := 1155) (by decide +kernel)⟩
theorem lw_p49 : lw_okq (⟨"BeggarCornersModel", "takesPart", "()Z"⟩, 33) := ⟨⟨by decide +kernel, by decide +kernel⟩, List.mem_of_getElem? (i := 821) (by decide +kernel), List.mem_of_getElem? (i := 1158) (by decide +kernel), List.mem_of_getElem? (i := 1159) (by decide +kernel)⟩
theorem lw_p50 : lw_okq (⟨"BeggarCornersModel", "nameOf", "(I)I"⟩, 33) := ⟨⟨by decide +kernel, by decide +kernel⟩, List.mem_of_getElem? (i := 821) (by decide +kernel), List.mem_of_getElem? (i := 1162) (by decide +kernel), List.mem_of_getElem? (i := 1163) (by decide +kernel)⟩
theorem lw_p51 : lw_okq (⟨"BeggarCornersModel", "settle", "(I)V"⟩, 33) := ⟨⟨by decide +kernel, by decide +kernel⟩, List.mem_of_getElem? (i := 821) (by decide +kernel), List.mem_of_getElem? (i := 1166) (by decide +kernel), List.mem_of_getElem? (i := 1167) (by decide +kernel)⟩
theorem lw_p52 : lw_okq (⟨"BeggarCornersModel", "notsOpen", "()I"⟩, 33) := ⟨⟨by decide +kernel, by decide +kernel⟩, List.mem_of_getElem? (i := 821) (by decide +kernel), List.mem_of_getElem? (i := 1173) (by decide +kernel), List.mem_of_getElem? (i := 1174) (by decide +kernel)⟩
theorem lw_p53 : lw_okq (⟨"BeggarCornersModel", "signHere", "()I"⟩, 33) := ⟨⟨by decide +kernel, by decide +kernel⟩, List.mem_of_getElem? (i := 821) (by decide +kernel), List.mem_of_getElem? (i := 1177) (by decide +kernel), List.mem_of_getElem? (i := 1178) (by decide +kernel)⟩
def lw_privs_4 : List (MethodName × Nat) := [(⟨"BeggarCornersModel", "takesE", "()Z"⟩, 33), (⟨"BeggarCornersModel", "takesPart", "()Z"⟩, 33), (⟨"BeggarCornersModel", "nameOf", "(I)I"⟩, 33), (⟨"BeggarCornersModel", "settle", "(I)V"⟩, 33), (⟨"BeggarCornersModel", "notsOpen", "()I"⟩, 33), (⟨"BeggarCornersModel", "signHere", "()I"⟩, 33)]
theorem lw_r4 : ∀ q ∈ lw_privs_4, lw_okq q := List.forall_mem_cons.mpr ⟨lw_p48, List.forall_mem_cons.mpr ⟨lw_p49, List.forall_mem_cons.mpr ⟨lw_p50, List.forall_mem_cons.mpr ⟨lw_p51, List.forall_mem_cons.mpr ⟨lw_p52, List.forall_mem_cons.mpr ⟨lw_p53, fun _ h => absurd h List.not_mem_nil⟩⟩⟩⟩⟩⟩
def lw_privs : List (MethodName × Nat) := lw_privs_1 ++ (lw_privs_2 ++ (lw_privs_3 ++ (lw_privs_4)))
def lw_tbl : List Cond := k2_sels lw_privs ++ tables_1
theorem lw_privs_ok : ∀ q ∈ lw_privs, lw_okq q := by
  show ∀ q ∈ lw_privs_1 ++ (lw_privs_2 ++ (lw_privs_3 ++ (lw_privs_4))), lw_okq q
  exact List.forall_mem_append.mpr ⟨lw_r1, List.forall_mem_append.mpr ⟨lw_r2, List.forall_mem_append.mpr ⟨lw_r3, lw_r4⟩⟩⟩

theorem goodIn_r {big : List Cond} (ws : List Cond) (ps : List Nat) (hp : ws = ps.filterMap (fun i => big[i]?)) (h : ws.all goodWord = true) : GoodIn big ws := by
  intro w hw
  have h1 := List.all_eq_true.mp h w hw
  rw [hp] at hw
  obtain ⟨i, -, hi⟩ := List.mem_filterMap.mp hw
  have hm : w ∈ big := by first | exact List.mem_of_getElem? hi | exact List.getElem?_mem hi
  exact ⟨hm, good_of_word h1⟩
theorem goodIn_app {big a b : List Cond} (ha : GoodIn big a) (hb : GoodIn big b) : GoodIn big (a ++ b) := fun w h => (List.mem_append.mp h).elim (ha w) (hb w)
theorem goodIn_ca {big a b : List Cond} {c : Cond} (ha : GoodIn big (c :: a)) (hb : GoodIn big b) : GoodIn big (c :: (a ++ b)) := fun w h => (List.mem_cons.mp h).elim (fun e => ha w (List.mem_cons.mpr (Or.inl e))) (fun h => (List.mem_append.mp h).elim (fun h => ha w (List.mem_cons.mpr (Or.inr h))) (hb w))
theorem goodIn_sub {big ws : List Cond} (hm : ∀ w ∈ ws, w ∈ big) (h : ws.all goodWord = true) : GoodIn big ws := fun w hw => ⟨hm w hw, good_of_word (List.all_eq_true.mp h w hw)⟩
end
section
def RX0 : String := "BeggarCorners$Alms"
def TX0 : u_T := fun k => match k with
  | 0 => ("BeggarCorners$Alms", "law", "LBeggarCorners$Text;", false)
  | _ => ("BeggarCorners$Alms", "known", "[I", true)
def tyX0 : Nat → FieldType := fun k => match k with
  | 0 => .object "BeggarCorners$Text"
  | _ => .array .int
theorem nmX0 : ∀ a, a < 2 → ∀ b, b < 2 → a ≠ b → (TX0 a).2.1 ≠ (TX0 b).2.1 := by decide +kernel
theorem tyX0_ok : ∀ k, k < 2 → parseFieldDescriptor (TX0 k).2.2.1 = some (tyX0 k) := by decide +kernel
abbrev cX0_init : ByteArray := prog_2_method_1_code
def yX0_init : MethodName := ⟨RX0, "<init>", "()V"⟩
abbrev cX0_follow : ByteArray := prog_2_method_2_code
def yX0_follow : MethodName := ⟨RX0, "follow", "(LBeggarCorners$Text;)V"⟩
abbrev cX0_asBeggar : ByteArray := prog_2_method_3_code
def yX0_asBeggar : MethodName := ⟨RX0, "asBeggar", "(III)I"⟩
def RX1 : String := "BeggarCorners$Kinds"
def TX1 : u_T := fun k => match k with
  | _ => ("", "", "", false)
def tyX1 : Nat → FieldType := fun k => match k with
  | _ => .int
theorem nmX1 : ∀ a, a < 0 → ∀ b, b < 0 → a ≠ b → (TX1 a).2.1 ≠ (TX1 b).2.1 := by decide +kernel
theorem tyX1_ok : ∀ k, k < 0 → parseFieldDescriptor (TX1 k).2.2.1 = some (tyX1 k) := by decide +kernel
abbrev cX1_isOf : ByteArray := prog_3_method_2_code
def yX1_isOf : MethodName := ⟨RX1, "isOf", "(II)Z"⟩
abbrev cX1_gift : ByteArray := prog_3_method_3_code
def yX1_gift : MethodName := ⟨RX1, "gift", "(IIIIZ)I"⟩
abbrev cX1_giftOfChild : ByteArray := prog_3_method_4_code
def yX1_giftOfChild : MethodName := ⟨RX1, "giftOfChild", "(II)I"⟩
abbrev cX1_worth : ByteArray := prog_3_method_5_code
def yX1_worth : MethodName := ⟨RX1, "worth", "(II)I"⟩
def RX2 : String := "BeggarCorners$Reader"
def TX2 : u_T := fun k => match k with
  | 0 => ("BeggarCorners$Reader", "tape", "LBeggarCorners$Tape;", true)
  | 1 => ("BeggarCorners$Reader", "sort", "I", false)
  | 2 => ("BeggarCorners$Reader", "start", "I", false)
  | 3 => ("BeggarCorners$Reader", "stop", "I", false)
  | 4 => ("BeggarCorners$Reader", "fault", "I", false)
  | 5 => ("BeggarCorners$Reader", "key", "I", false)
  | 6 => ("BeggarCorners$Reader", "steps", "[I", true)
  | 7 => ("BeggarCorners$Reader", "length", "I", false)
  | _ => ("BeggarCorners$Reader", "pieces", "I", false)
def tyX2 : Nat → FieldType := fun k => match k with
  | 0 => .object "BeggarCorners$Tape"
  | 1 => .int
  | 2 => .int
  | 3 => .int
  | 4 => .int
  | 5 => .int
  | 6 => .array .int
  | 7 => .int
  | _ => .int
theorem nmX2 : ∀ a, a < 9 → ∀ b, b < 9 → a ≠ b → (TX2 a).2.1 ≠ (TX2 b).2.1 := by decide +kernel
theorem tyX2_ok : ∀ k, k < 9 → parseFieldDescriptor (TX2 k).2.2.1 = some (tyX2 k) := by decide +kernel
abbrev cX2_init : ByteArray := prog_4_method_1_code
def yX2_init : MethodName := ⟨RX2, "<init>", "(LBeggarCorners$Tape;)V"⟩
abbrev cX2_findFault : ByteArray := prog_4_method_2_code
def yX2_findFault : MethodName := ⟨RX2, "findFault", "()I"⟩
abbrev cX2_makeText : ByteArray := prog_4_method_3_code
def yX2_makeText : MethodName := ⟨RX2, "makeText", "()LBeggarCorners$Text;"⟩
abbrev cX2_wordOf : ByteArray := prog_4_method_4_code
def yX2_wordOf : MethodName := ⟨RX2, "wordOf", "(I)Ljava/lang/String;"⟩
abbrev cX2_namesOf : ByteArray := prog_4_method_5_code
def yX2_namesOf : MethodName := ⟨RX2, "namesOf", "(I)Ljava/lang/String;"⟩
abbrev cX2_advance : ByteArray := prog_4_method_6_code
def yX2_advance : MethodName := ⟨RX2, "advance", "()V"⟩
abbrev cX2_sortAt : ByteArray := prog_4_method_7_code
def yX2_sortAt : MethodName := ⟨RX2, "sortAt", "(I)I"⟩
abbrev cX2_fail : ByteArray := prog_4_method_8_code
def yX2_fail : MethodName := ⟨RX2, "fail", "()V"⟩
abbrev cX2_keyHere : ByteArray := prog_4_method_9_code
def yX2_keyHere : MethodName := ⟨RX2, "keyHere", "()I"⟩
abbrev cX2_isHere : ByteArray := prog_4_method_10_code
def yX2_isHere : MethodName := ⟨RX2, "isHere", "(Ljava/lang/String;)Z"⟩
abbrev cX2_isSign : ByteArray := prog_4_method_11_code
def yX2_isSign : MethodName := ⟨RX2, "isSign", "(C)Z"⟩
abbrev cX2_levelHere : ByteArray := prog_4_method_12_code
def yX2_levelHere : MethodName := ⟨RX2, "levelHere", "()I"⟩
abbrev cX2_readLevel : ByteArray := prog_4_method_13_code
def yX2_readLevel : MethodName := ⟨RX2, "readLevel", "(III)V"⟩
abbrev cX2_readPiece : ByteArray := prog_4_method_14_code
def yX2_readPiece : MethodName := ⟨RX2, "readPiece", "(II)V"⟩
abbrev cX2_readOperand : ByteArray := prog_4_method_15_code
def yX2_readOperand : MethodName := ⟨RX2, "readOperand", "(I)V"⟩
abbrev cX2_numberHere : ByteArray := prog_4_method_16_code
def yX2_numberHere : MethodName := ⟨RX2, "numberHere", "()I"⟩
abbrev cX2_nameHere : ByteArray := prog_4_method_17_code
def yX2_nameHere : MethodName := ⟨RX2, "nameHere", "()I"⟩
abbrev cX2_addStep : ByteArray := prog_4_method_18_code
def yX2_addStep : MethodName := ⟨RX2, "addStep", "(I)V"⟩
def RX3 : String := "BeggarCorners$Sheet"
def TX3 : u_T := fun k => match k with
  | 0 => ("BeggarCorners$Sheet", "sort", "I", false)
  | 1 => ("BeggarCorners$Sheet", "size", "I", false)
  | _ => ("BeggarCorners$Sheet", "places", "[I", true)
def tyX3 : Nat → FieldType := fun k => match k with
  | 0 => .int
  | 1 => .int
  | _ => .array .int
theorem nmX3 : ∀ a, a < 3 → ∀ b, b < 3 → a ≠ b → (TX3 a).2.1 ≠ (TX3 b).2.1 := by decide +kernel
theorem tyX3_ok : ∀ k, k < 3 → parseFieldDescriptor (TX3 k).2.2.1 = some (tyX3 k) := by decide +kernel
abbrev cX3_init : ByteArray := prog_5_method_1_code
def yX3_init : MethodName := ⟨RX3, "<init>", "()V"⟩
abbrev cX3_begin : ByteArray := prog_5_method_2_code
def yX3_begin : MethodName := ⟨RX3, "begin", "(II)V"⟩
abbrev cX3_become : ByteArray := prog_5_method_3_code
def yX3_become : MethodName := ⟨RX3, "become", "(LBeggarCorners$Sheet;)V"⟩
abbrev cX3_isMissing : ByteArray := prog_5_method_4_code
def yX3_isMissing : MethodName := ⟨RX3, "isMissing", "()Z"⟩
abbrev cX3_has : ByteArray := prog_5_method_5_code
def yX3_has : MethodName := ⟨RX3, "has", "(I)Z"⟩
abbrev cX3_hasAll : ByteArray := prog_5_method_6_code
def yX3_hasAll : MethodName := ⟨RX3, "hasAll", "(II)Z"⟩
abbrev cX3_isNumber : ByteArray := prog_5_method_7_code
def yX3_isNumber : MethodName := ⟨RX3, "isNumber", "(I)Z"⟩
def RX4 : String := "BeggarCorners$Slot"
def TX4 : u_T := fun k => match k with
  | 0 => ("BeggarCorners$Slot", "thing", "I", false)
  | 1 => ("BeggarCorners$Slot", "kind", "I", false)
  | 2 => ("BeggarCorners$Slot", "skill", "I", false)
  | 3 => ("BeggarCorners$Slot", "number", "I", false)
  | _ => ("BeggarCorners$Slot", "row", "LBeggarCorners$Sheet;", true)
def tyX4 : Nat → FieldType := fun k => match k with
  | 0 => .int
  | 1 => .int
  | 2 => .int
  | 3 => .int
  | _ => .object "BeggarCorners$Sheet"
theorem nmX4 : ∀ a, a < 5 → ∀ b, b < 5 → a ≠ b → (TX4 a).2.1 ≠ (TX4 b).2.1 := by decide +kernel
theorem tyX4_ok : ∀ k, k < 5 → parseFieldDescriptor (TX4 k).2.2.1 = some (tyX4 k) := by decide +kernel
abbrev cX4_init : ByteArray := prog_6_method_1_code
def yX4_init : MethodName := ⟨RX4, "<init>", "()V"⟩
def RX5 : String := "BeggarCorners$Street"
def TX5 : u_T := fun k => match k with
  | 0 => ("BeggarCorners$Street", "rents", "[I", true)
  | 1 => ("BeggarCorners$Street", "kinds", "[I", true)
  | 2 => ("BeggarCorners$Street", "corners", "[I", true)
  | 3 => ("BeggarCorners$Street", "skills", "[I", true)
  | 4 => ("BeggarCorners$Street", "purses", "[I", true)
  | 5 => ("BeggarCorners$Street", "hats", "[I", true)
  | 6 => ("BeggarCorners$Street", "size", "I", false)
  | 7 => ("BeggarCorners$Street", "rain", "I", false)
  | 8 => ("BeggarCorners$Street", "wet", "Z", false)
  | 9 => ("BeggarCorners$Street", "funeral", "I", false)
  | 10 => ("BeggarCorners$Street", "chest", "I", false)
  | 11 => ("BeggarCorners$Street", "hour", "I", false)
  | 12 => ("BeggarCorners$Street", "z", "I", false)
  | _ => ("BeggarCorners$Street", "texts", "I", false)
def tyX5 : Nat → FieldType := fun k => match k with
  | 0 => .array .int
  | 1 => .array .int
  | 2 => .array .int
  | 3 => .array .int
  | 4 => .array .int
  | 5 => .array .int
  | 6 => .int
  | 7 => .int
  | 8 => .boolean
  | 9 => .int
  | 10 => .int
  | 11 => .int
  | 12 => .int
  | _ => .int
theorem nmX5 : ∀ a, a < 14 → ∀ b, b < 14 → a ≠ b → (TX5 a).2.1 ≠ (TX5 b).2.1 := by decide +kernel
theorem tyX5_ok : ∀ k, k < 14 → parseFieldDescriptor (TX5 k).2.2.1 = some (tyX5 k) := by decide +kernel
abbrev cX5_init : ByteArray := prog_7_method_1_code
def yX5_init : MethodName := ⟨RX5, "<init>", "()V"⟩
abbrev cX5_become : ByteArray := prog_7_method_2_code
def yX5_become : MethodName := ⟨RX5, "become", "(LBeggarCorners$Street;)V"⟩
abbrev cX5_add : ByteArray := prog_7_method_3_code
def yX5_add : MethodName := ⟨RX5, "add", "(III)I"⟩
abbrev cX5_letOut : ByteArray := prog_7_method_4_code
def yX5_letOut : MethodName := ⟨RX5, "letOut", "(II)V"⟩
abbrev cX5_isAgainstLaw : ByteArray := prog_7_method_5_code
def yX5_isAgainstLaw : MethodName := ⟨RX5, "isAgainstLaw", "(I)Z"⟩
abbrev cX5_offends : ByteArray := prog_7_method_6_code
def yX5_offends : MethodName := ⟨RX5, "offends", "(II)Z"⟩
abbrev cX5_againstLaw : ByteArray := prog_7_method_7_code
def yX5_againstLaw : MethodName := ⟨RX5, "againstLaw", "()I"⟩
abbrev cX5_taken : ByteArray := prog_7_method_8_code
def yX5_taken : MethodName := ⟨RX5, "taken", "()I"⟩
abbrev cX5_allPurses : ByteArray := prog_7_method_9_code
def yX5_allPurses : MethodName := ⟨RX5, "allPurses", "()I"⟩
abbrev cX5_allHats : ByteArray := prog_7_method_10_code
def yX5_allHats : MethodName := ⟨RX5, "allHats", "()I"⟩
abbrev cX5_anyInDebt : ByteArray := prog_7_method_11_code
def yX5_anyInDebt : MethodName := ⟨RX5, "anyInDebt", "()Z"⟩
abbrev cX5_draw : ByteArray := prog_7_method_12_code
def yX5_draw : MethodName := ⟨RX5, "draw", "()I"⟩
abbrev cX5_passHours : ByteArray := prog_7_method_13_code
def yX5_passHours : MethodName := ⟨RX5, "passHours", "(ILBeggarCorners$Alms;)V"⟩
abbrev cX5_passHour : ByteArray := prog_7_method_14_code
def yX5_passHour : MethodName := ⟨RX5, "passHour", "(LBeggarCorners$Alms;)V"⟩
abbrev cX5_payRents : ByteArray := prog_7_method_15_code
def yX5_payRents : MethodName := ⟨RX5, "payRents", "()V"⟩
abbrev cX5_walk : ByteArray := prog_7_method_16_code
def yX5_walk : MethodName := ⟨RX5, "walk", "(IIIILBeggarCorners$Alms;)V"⟩
abbrev cX5_giftTo : ByteArray := prog_7_method_17_code
def yX5_giftTo : MethodName := ⟨RX5, "giftTo", "(IIIILBeggarCorners$Alms;)I"⟩
def RX6 : String := "BeggarCorners$Tape"
def TX6 : u_T := fun k => match k with
  | 0 => ("BeggarCorners$Tape", "bytes", "[B", true)
  | _ => ("BeggarCorners$Tape", "size", "I", false)
def tyX6 : Nat → FieldType := fun k => match k with
  | 0 => .array .byte
  | _ => .int
theorem nmX6 : ∀ a, a < 2 → ∀ b, b < 2 → a ≠ b → (TX6 a).2.1 ≠ (TX6 b).2.1 := by decide +kernel
theorem tyX6_ok : ∀ k, k < 2 → parseFieldDescriptor (TX6 k).2.2.1 = some (tyX6 k) := by decide +kernel
abbrev cX6_init : ByteArray := prog_8_method_1_code
def yX6_init : MethodName := ⟨RX6, "<init>", "()V"⟩
abbrev cX6_add : ByteArray := prog_8_method_2_code
def yX6_add : MethodName := ⟨RX6, "add", "(I)V"⟩
def RX7 : String := "BeggarCorners$Text"
def TX7 : u_T := fun k => match k with
  | 0 => ("BeggarCorners$Text", "key", "I", true)
  | 1 => ("BeggarCorners$Text", "pieces", "I", true)
  | 2 => ("BeggarCorners$Text", "steps", "[I", true)
  | _ => ("BeggarCorners$Text", "stack", "[I", true)
def tyX7 : Nat → FieldType := fun k => match k with
  | 0 => .int
  | 1 => .int
  | 2 => .array .int
  | _ => .array .int
theorem nmX7 : ∀ a, a < 4 → ∀ b, b < 4 → a ≠ b → (TX7 a).2.1 ≠ (TX7 b).2.1 := by decide +kernel
theorem tyX7_ok : ∀ k, k < 4 → parseFieldDescriptor (TX7 k).2.2.1 = some (tyX7 k) := by decide +kernel
abbrev cX7_init : ByteArray := prog_9_method_1_code
def yX7_init : MethodName := ⟨RX7, "<init>", "(II[I)V"⟩
abbrev cX7_gives : ByteArray := prog_9_method_2_code
def yX7_gives : MethodName := ⟨RX7, "gives", "(III)I"⟩
abbrev cX7_joined : ByteArray := prog_9_method_3_code
def yX7_joined : MethodName := ⟨RX7, "joined", "(III)I"⟩
def RX8 : String := "BeggarCorners"
def TX8 : u_T := fun k => match k with
  | 0 => ("BeggarCorners", "street", "LBeggarCorners$Street;", true)
  | 1 => ("BeggarCorners", "thought", "LBeggarCorners$Street;", true)
  | 2 => ("BeggarCorners", "image", "LBeggarCorners$Street;", true)
  | 3 => ("BeggarCorners", "imageKept", "Z", false)
  | 4 => ("BeggarCorners", "tape", "LBeggarCorners$Tape;", true)
  | 5 => ("BeggarCorners", "reader", "LBeggarCorners$Reader;", true)
  | 6 => ("BeggarCorners", "texts", "[LBeggarCorners$Text;", true)
  | 7 => ("BeggarCorners", "alms", "LBeggarCorners$Alms;", true)
  | 8 => ("BeggarCorners", "sheets", "[LBeggarCorners$Sheet;", true)
  | 9 => ("BeggarCorners", "slots", "[LBeggarCorners$Slot;", true)
  | 10 => ("BeggarCorners", "waiting", "[I", true)
  | _ => ("BeggarCorners", "waits", "I", false)
def tyX8 : Nat → FieldType := fun k => match k with
  | 0 => .object "BeggarCorners$Street"
  | 1 => .object "BeggarCorners$Street"
  | 2 => .object "BeggarCorners$Street"
  | 3 => .boolean
  | 4 => .object "BeggarCorners$Tape"
  | 5 => .object "BeggarCorners$Reader"
  | 6 => .array (.object "BeggarCorners$Text")
  | 7 => .object "BeggarCorners$Alms"
  | 8 => .array (.object "BeggarCorners$Sheet")
  | 9 => .array (.object "BeggarCorners$Slot")
  | 10 => .array .int
  | _ => .int
theorem nmX8 : ∀ a, a < 12 → ∀ b, b < 12 → a ≠ b → (TX8 a).2.1 ≠ (TX8 b).2.1 := by decide +kernel
theorem tyX8_ok : ∀ k, k < 12 → parseFieldDescriptor (TX8 k).2.2.1 = some (tyX8 k) := by decide +kernel
abbrev cX8_init : ByteArray := prog_1_method_1_code
def yX8_init : MethodName := ⟨RX8, "<init>", "()V"⟩
abbrev cX8_beggar : ByteArray := prog_1_method_2_code
def yX8_beggar : MethodName := ⟨RX8, "beggar", "(III)I"⟩
abbrev cX8_told : ByteArray := prog_1_method_3_code
def yX8_told : MethodName := ⟨RX8, "told", "(II)I"⟩
abbrev cX8_given : ByteArray := prog_1_method_4_code
def yX8_given : MethodName := ⟨RX8, "given", "(IIII)I"⟩
abbrev cX8_as : ByteArray := prog_1_method_5_code
def yX8_as : MethodName := ⟨RX8, "as", "(II)I"⟩
abbrev cX8_turns : ByteArray := prog_1_method_6_code
def yX8_turns : MethodName := ⟨RX8, "turns", "(II)I"⟩
abbrev cX8_set : ByteArray := prog_1_method_7_code
def yX8_set : MethodName := ⟨RX8, "set", "(III)I"⟩
abbrev cX8_rent : ByteArray := prog_1_method_8_code
def yX8_rent : MethodName := ⟨RX8, "rent", "(II)I"⟩
abbrev cX8_rule : ByteArray := prog_1_method_9_code
def yX8_rule : MethodName := ⟨RX8, "rule", "(II)I"⟩
abbrev cX8_deal : ByteArray := prog_1_method_10_code
def yX8_deal : MethodName := ⟨RX8, "deal", "(I)I"⟩
abbrev cX8_seed : ByteArray := prog_1_method_11_code
def yX8_seed : MethodName := ⟨RX8, "seed", "(I)I"⟩
abbrev cX8_hours : ByteArray := prog_1_method_12_code
def yX8_hours : MethodName := ⟨RX8, "hours", "(I)I"⟩
abbrev cX8_guild : ByteArray := prog_1_method_13_code
def yX8_guild : MethodName := ⟨RX8, "guild", "(I)I"⟩
abbrev cX8_behind : ByteArray := prog_1_method_14_code
def yX8_behind : MethodName := ⟨RX8, "behind", "(II)I"⟩
abbrev cX8_best : ByteArray := prog_1_method_15_code
def yX8_best : MethodName := ⟨RX8, "best", "(III)I"⟩
abbrev cX8_letting : ByteArray := prog_1_method_16_code
def yX8_letting : MethodName := ⟨RX8, "letting", "(II)I"⟩
abbrev cX8_takes : ByteArray := prog_1_method_17_code
def yX8_takes : MethodName := ⟨RX8, "takes", "(III)I"⟩
abbrev cX8_bestRent : ByteArray := prog_1_method_18_code
def yX8_bestRent : MethodName := ⟨RX8, "bestRent", "(II)I"⟩
abbrev cX8_mourned : ByteArray := prog_1_method_19_code
def yX8_mourned : MethodName := ⟨RX8, "mourned", "(II)I"⟩
abbrev cX8_stood : ByteArray := prog_1_method_20_code
def yX8_stood : MethodName := ⟨RX8, "stood", "(III)I"⟩
abbrev cX8_fee : ByteArray := prog_1_method_21_code
def yX8_fee : MethodName := ⟨RX8, "fee", "()I"⟩
abbrev cX8_fine : ByteArray := prog_1_method_22_code
def yX8_fine : MethodName := ⟨RX8, "fine", "(I)I"⟩
abbrev cX8_feed : ByteArray := prog_1_method_23_code
def yX8_feed : MethodName := ⟨RX8, "feed", "(III)I"⟩
abbrev cX8_trim : ByteArray := prog_1_method_24_code
def yX8_trim : MethodName := ⟨RX8, "trim", "(I)I"⟩
abbrev cX8_text : ByteArray := prog_1_method_25_code
def yX8_text : MethodName := ⟨RX8, "text", "()I"⟩
abbrev cX8_textTold : ByteArray := prog_1_method_26_code
def yX8_textTold : MethodName := ⟨RX8, "textTold", "(II)I"⟩
abbrev cX8_why : ByteArray := prog_1_method_27_code
def yX8_why : MethodName := ⟨RX8, "why", "(I)I"⟩
abbrev cX8_sheet : ByteArray := prog_1_method_28_code
def yX8_sheet : MethodName := ⟨RX8, "sheet", "(III)I"⟩
abbrev cX8_mark : ByteArray := prog_1_method_29_code
def yX8_mark : MethodName := ⟨RX8, "mark", "(III)I"⟩
abbrev cX8_pour : ByteArray := prog_1_method_30_code
def yX8_pour : MethodName := ⟨RX8, "pour", "(I)I"⟩
abbrev cX8_reads : ByteArray := prog_1_method_31_code
def yX8_reads : MethodName := ⟨RX8, "reads", "(I)I"⟩
abbrev cX8_copy : ByteArray := prog_1_method_32_code
def yX8_copy : MethodName := ⟨RX8, "copy", "(IIIII)I"⟩
abbrev cX8_lay : ByteArray := prog_1_method_33_code
def yX8_lay : MethodName := ⟨RX8, "lay", "(III)I"⟩
abbrev cX8_ask : ByteArray := prog_1_method_34_code
def yX8_ask : MethodName := ⟨RX8, "ask", "(II)I"⟩
abbrev cX8_item : ByteArray := prog_1_method_35_code
def yX8_item : MethodName := ⟨RX8, "item", "(II)I"⟩
abbrev cX8_rest : ByteArray := prog_1_method_36_code
def yX8_rest : MethodName := ⟨RX8, "rest", "(II)I"⟩
abbrev cX8_tell : ByteArray := prog_1_method_37_code
def yX8_tell : MethodName := ⟨RX8, "tell", "(I)I"⟩
abbrev cX8_check : ByteArray := prog_1_method_38_code
def yX8_check : MethodName := ⟨RX8, "check", "(I)I"⟩
abbrev cX8_keep : ByteArray := prog_1_method_39_code
def yX8_keep : MethodName := ⟨RX8, "keep", "()I"⟩
abbrev cX8_back : ByteArray := prog_1_method_40_code
def yX8_back : MethodName := ⟨RX8, "back", "()I"⟩
abbrev cX8_count : ByteArray := prog_1_method_41_code
def yX8_count : MethodName := ⟨RX8, "count", "(I)I"⟩
abbrev cX8_within : ByteArray := prog_1_method_42_code
def yX8_within : MethodName := ⟨RX8, "within", "(III)Z"⟩
abbrev cX8_held : ByteArray := prog_1_method_43_code
def yX8_held : MethodName := ⟨RX8, "held", "(III)I"⟩
abbrev cX8_isKind : ByteArray := prog_1_method_44_code
def yX8_isKind : MethodName := ⟨RX8, "isKind", "(I)Z"⟩
abbrev cX8_isCorner : ByteArray := prog_1_method_45_code
def yX8_isCorner : MethodName := ⟨RX8, "isCorner", "(I)Z"⟩
abbrev cX8_isSheet : ByteArray := prog_1_method_46_code
def yX8_isSheet : MethodName := ⟨RX8, "isSheet", "(I)Z"⟩
abbrev cX8_isSlot : ByteArray := prog_1_method_47_code
def yX8_isSlot : MethodName := ⟨RX8, "isSlot", "(I)Z"⟩
abbrev cX8_isBeggar : ByteArray := prog_1_method_48_code
def yX8_isBeggar : MethodName := ⟨RX8, "isBeggar", "(I)Z"⟩
abbrev cX8_stands : ByteArray := prog_1_method_49_code
def yX8_stands : MethodName := ⟨RX8, "stands", "(III)Z"⟩
abbrev cX8_lastOf : ByteArray := prog_1_method_50_code
def yX8_lastOf : MethodName := ⟨RX8, "lastOf", "(II)I"⟩
abbrev cX8_counting : ByteArray := prog_1_method_51_code
def yX8_counting : MethodName := ⟨RX8, "counting", "(II)LBeggarCorners$Text;"⟩
abbrev cX8_think : ByteArray := prog_1_method_52_code
def yX8_think : MethodName := ⟨RX8, "think", "()V"⟩
abbrev cX8_differences : ByteArray := prog_1_method_53_code
def yX8_differences : MethodName := ⟨RX8, "differences", "(LBeggarCorners$Sheet;II)I"⟩
def RX9 : String := "BeggarCornersModel"
def TX9 : u_T := fun k => match k with
  | 0 => ("BeggarCornersModel", "now", "[I", true)
  | 1 => ("BeggarCornersModel", "image", "[I", true)
  | 2 => ("BeggarCornersModel", "aside", "[I", true)
  | 3 => ("BeggarCornersModel", "hasImage", "Z", false)
  | 4 => ("BeggarCornersModel", "before", "[I", true)
  | 5 => ("BeggarCornersModel", "tape", "[I", true)
  | 6 => ("BeggarCornersModel", "taped", "I", false)
  | 7 => ("BeggarCornersModel", "next", "I", false)
  | 8 => ("BeggarCornersModel", "from", "I", false)
  | 9 => ("BeggarCornersModel", "token", "I", false)
  | 10 => ("BeggarCornersModel", "value", "I", false)
  | 11 => ("BeggarCornersModel", "ended", "I", false)
  | 12 => ("BeggarCornersModel", "key", "I", false)
  | 13 => ("BeggarCornersModel", "keys", "[C", true)
  | 14 => ("BeggarCornersModel", "keyAt", "[I", true)
  | 15 => ("BeggarCornersModel", "code", "[I", true)
  | 16 => ("BeggarCornersModel", "codes", "I", false)
  | 17 => ("BeggarCornersModel", "atoms", "I", false)
  | 18 => ("BeggarCornersModel", "waits", "[I", true)
  | 19 => ("BeggarCornersModel", "held", "I", false)
  | 20 => ("BeggarCornersModel", "tested", "[Z", true)
  | 21 => ("BeggarCornersModel", "stack", "[I", true)
  | 22 => ("BeggarCornersModel", "facts", "[I", true)
  | 23 => ("BeggarCornersModel", "sorts", "[I", true)
  | 24 => ("BeggarCornersModel", "sizes", "[I", true)
  | 25 => ("BeggarCornersModel", "cells", "[I", true)
  | 26 => ("BeggarCornersModel", "holds", "[I", true)
  | 27 => ("BeggarCornersModel", "holdsA", "[I", true)
  | 28 => ("BeggarCornersModel", "holdsB", "[I", true)
  | 29 => ("BeggarCornersModel", "heldCells", "[I", true)
  | 30 => ("BeggarCornersModel", "moved", "[I", true)
  | 31 => ("BeggarCornersModel", "tells", "[I", true)
  | _ => ("BeggarCornersModel", "waiting", "I", false)
def tyX9 : Nat → FieldType := fun k => match k with
  | 0 => .array .int
  | 1 => .array .int
  | 2 => .array .int
  | 3 => .boolean
  | 4 => .array .int
  | 5 => .array .int
  | 6 => .int
  | 7 => .int
  | 8 => .int
  | 9 => .int
  | 10 => .int
  | 11 => .int
  | 12 => .int
  | 13 => .array .char
  | 14 => .array .int
  | 15 => .array .int
  | 16 => .int
  | 17 => .int
  | 18 => .array .int
  | 19 => .int
  | 20 => .array .boolean
  | 21 => .array .int
  | 22 => .array .int
  | 23 => .array .int
  | 24 => .array .int
  | 25 => .array .int
  | 26 => .array .int
  | 27 => .array .int
  | 28 => .array .int
  | 29 => .array .int
  | 30 => .array .int
  | 31 => .array .int
  | _ => .int
theorem nmX9 : ∀ a, a < 33 → ∀ b, b < 33 → a ≠ b → (TX9 a).2.1 ≠ (TX9 b).2.1 := by decide +kernel
theorem tyX9_ok : ∀ k, k < 33 → parseFieldDescriptor (TX9 k).2.2.1 = some (tyX9 k) := by decide +kernel
abbrev cX9_init : ByteArray := prog_11_method_1_code
def yX9_init : MethodName := ⟨RX9, "<init>", "()V"⟩
abbrev cX9_in : ByteArray := prog_11_method_2_code
def yX9_in : MethodName := ⟨RX9, "in", "(III)Z"⟩
abbrev cX9_within : ByteArray := prog_11_method_3_code
def yX9_within : MethodName := ⟨RX9, "within", "(III)I"⟩
abbrev cX9_copyAll : ByteArray := prog_11_method_4_code
def yX9_copyAll : MethodName := ⟨RX9, "copyAll", "([I[I)V"⟩
abbrev cX9_isBeggar : ByteArray := prog_11_method_5_code
def yX9_isBeggar : MethodName := ⟨RX9, "isBeggar", "(I)Z"⟩
abbrev cX9_isCorner : ByteArray := prog_11_method_6_code
def yX9_isCorner : MethodName := ⟨RX9, "isCorner", "(I)Z"⟩
abbrev cX9_of : ByteArray := prog_11_method_7_code
def yX9_of : MethodName := ⟨RX9, "of", "(II)I"⟩
abbrev cX9_put : ByteArray := prog_11_method_8_code
def yX9_put : MethodName := ⟨RX9, "put", "(III)V"⟩
abbrev cX9_becomes : ByteArray := prog_11_method_9_code
def yX9_becomes : MethodName := ⟨RX9, "becomes", "(II)I"⟩
abbrev cX9_comes : ByteArray := prog_11_method_10_code
def yX9_comes : MethodName := ⟨RX9, "comes", "(III)I"⟩
abbrev cX9_beggar : ByteArray := prog_11_method_11_code
def yX9_beggar : MethodName := ⟨RX9, "beggar", "(III)I"⟩
abbrev cX9_isAgainst : ByteArray := prog_11_method_12_code
def yX9_isAgainst : MethodName := ⟨RX9, "isAgainst", "(I)Z"⟩
abbrev cX9_worthOf : ByteArray := prog_11_method_13_code
def yX9_worthOf : MethodName := ⟨RX9, "worthOf", "(I)I"⟩
abbrev cX9_told : ByteArray := prog_11_method_14_code
def yX9_told : MethodName := ⟨RX9, "told", "(II)I"⟩
abbrev cX9_givenTo : ByteArray := prog_11_method_15_code
def yX9_givenTo : MethodName := ⟨RX9, "givenTo", "(IIII)I"⟩
abbrev cX9_given : ByteArray := prog_11_method_16_code
def yX9_given : MethodName := ⟨RX9, "given", "(IIII)I"⟩
abbrev cX9_isUnder : ByteArray := prog_11_method_17_code
def yX9_isUnder : MethodName := ⟨RX9, "isUnder", "(II)Z"⟩
abbrev cX9_as : ByteArray := prog_11_method_18_code
def yX9_as : MethodName := ⟨RX9, "as", "(II)I"⟩
abbrev cX9_turns : ByteArray := prog_11_method_19_code
def yX9_turns : MethodName := ⟨RX9, "turns", "(II)I"⟩
abbrev cX9_set : ByteArray := prog_11_method_20_code
def yX9_set : MethodName := ⟨RX9, "set", "(III)I"⟩
abbrev cX9_rent : ByteArray := prog_11_method_21_code
def yX9_rent : MethodName := ⟨RX9, "rent", "(II)I"⟩
abbrev cX9_rule : ByteArray := prog_11_method_22_code
def yX9_rule : MethodName := ⟨RX9, "rule", "(II)I"⟩
abbrev cX9_draw : ByteArray := prog_11_method_23_code
def yX9_draw : MethodName := ⟨RX9, "draw", "()I"⟩
abbrev cX9_deal : ByteArray := prog_11_method_24_code
def yX9_deal : MethodName := ⟨RX9, "deal", "(I)I"⟩
abbrev cX9_seed : ByteArray := prog_11_method_25_code
def yX9_seed : MethodName := ⟨RX9, "seed", "(I)I"⟩
abbrev cX9_passes : ByteArray := prog_11_method_26_code
def yX9_passes : MethodName := ⟨RX9, "passes", "(IIII)V"⟩
abbrev cX9_hour : ByteArray := prog_11_method_27_code
def yX9_hour : MethodName := ⟨RX9, "hour", "()V"⟩
abbrev cX9_goesOn : ByteArray := prog_11_method_28_code
def yX9_goesOn : MethodName := ⟨RX9, "goesOn", "(I)V"⟩
abbrev cX9_sumOf : ByteArray := prog_11_method_29_code
def yX9_sumOf : MethodName := ⟨RX9, "sumOf", "(I)I"⟩
abbrev cX9_hours : ByteArray := prog_11_method_30_code
def yX9_hours : MethodName := ⟨RX9, "hours", "(I)I"⟩
abbrev cX9_against : ByteArray := prog_11_method_31_code
def yX9_against : MethodName := ⟨RX9, "against", "()I"⟩
abbrev cX9_taken : ByteArray := prog_11_method_32_code
def yX9_taken : MethodName := ⟨RX9, "taken", "()I"⟩
abbrev cX9_guild : ByteArray := prog_11_method_33_code
def yX9_guild : MethodName := ⟨RX9, "guild", "(I)I"⟩
abbrev cX9_thinks : ByteArray := prog_11_method_34_code
def yX9_thinks : MethodName := ⟨RX9, "thinks", "()V"⟩
abbrev cX9_putsBack : ByteArray := prog_11_method_35_code
def yX9_putsBack : MethodName := ⟨RX9, "putsBack", "()V"⟩
abbrev cX9_behind : ByteArray := prog_11_method_36_code
def yX9_behind : MethodName := ⟨RX9, "behind", "(II)I"⟩
abbrev cX9_best : ByteArray := prog_11_method_37_code
def yX9_best : MethodName := ⟨RX9, "best", "(III)I"⟩
abbrev cX9_stand : ByteArray := prog_11_method_38_code
def yX9_stand : MethodName := ⟨RX9, "stand", "(II)V"⟩
abbrev cX9_letting : ByteArray := prog_11_method_39_code
def yX9_letting : MethodName := ⟨RX9, "letting", "(II)I"⟩
abbrev cX9_takes : ByteArray := prog_11_method_40_code
def yX9_takes : MethodName := ⟨RX9, "takes", "(III)I"⟩
abbrev cX9_isOwing : ByteArray := prog_11_method_41_code
def yX9_isOwing : MethodName := ⟨RX9, "isOwing", "()Z"⟩
abbrev cX9_bestRent : ByteArray := prog_11_method_42_code
def yX9_bestRent : MethodName := ⟨RX9, "bestRent", "(II)I"⟩
abbrev cX9_mourned : ByteArray := prog_11_method_43_code
def yX9_mourned : MethodName := ⟨RX9, "mourned", "(II)I"⟩
abbrev cX9_offBy : ByteArray := prog_11_method_44_code
def yX9_offBy : MethodName := ⟨RX9, "offBy", "(III)J"⟩
abbrev cX9_stood : ByteArray := prog_11_method_45_code
def yX9_stood : MethodName := ⟨RX9, "stood", "(III)I"⟩
abbrev cX9_fee : ByteArray := prog_11_method_46_code
def yX9_fee : MethodName := ⟨RX9, "fee", "()I"⟩
abbrev cX9_fine : ByteArray := prog_11_method_47_code
def yX9_fine : MethodName := ⟨RX9, "fine", "(I)I"⟩
abbrev cX9_feed : ByteArray := prog_11_method_48_code
def yX9_feed : MethodName := ⟨RX9, "feed", "(III)I"⟩
abbrev cX9_trim : ByteArray := prog_11_method_49_code
def yX9_trim : MethodName := ⟨RX9, "trim", "(I)I"⟩
abbrev cX9_isLetter : ByteArray := prog_11_method_50_code
def yX9_isLetter : MethodName := ⟨RX9, "isLetter", "(I)Z"⟩
abbrev cX9_isFigure : ByteArray := prog_11_method_51_code
def yX9_isFigure : MethodName := ⟨RX9, "isFigure", "(I)Z"⟩
abbrev cX9_go : ByteArray := prog_11_method_52_code
def yX9_go : MethodName := ⟨RX9, "go", "()V"⟩
abbrev cX9_takesKey : ByteArray := prog_11_method_53_code
def yX9_takesKey : MethodName := ⟨RX9, "takesKey", "()Z"⟩
abbrev cX9_nameOf : ByteArray := prog_11_method_54_code
def yX9_nameOf : MethodName := ⟨RX9, "nameOf", "(I)I"⟩
abbrev cX9_rank : ByteArray := prog_11_method_55_code
def yX9_rank : MethodName := ⟨RX9, "rank", "(I)I"⟩
abbrev cX9_settle : ByteArray := prog_11_method_56_code
def yX9_settle : MethodName := ⟨RX9, "settle", "(I)V"⟩
abbrev cX9_signHere : ByteArray := prog_11_method_57_code
def yX9_signHere : MethodName := ⟨RX9, "signHere", "()I"⟩
abbrev cX9_takesPart : ByteArray := prog_11_method_58_code
def yX9_takesPart : MethodName := ⟨RX9, "takesPart", "()Z"⟩
abbrev cX9_takesE : ByteArray := prog_11_method_59_code
def yX9_takesE : MethodName := ⟨RX9, "takesE", "()Z"⟩
abbrev cX9_notsOpen : ByteArray := prog_11_method_60_code
def yX9_notsOpen : MethodName := ⟨RX9, "notsOpen", "()I"⟩
abbrev cX9_text : ByteArray := prog_11_method_61_code
def yX9_text : MethodName := ⟨RX9, "text", "()I"⟩
abbrev cX9_textTold : ByteArray := prog_11_method_62_code
def yX9_textTold : MethodName := ⟨RX9, "textTold", "(II)I"⟩
abbrev cX9_counts : ByteArray := prog_11_method_63_code
def yX9_counts : MethodName := ⟨RX9, "counts", "(I)I"⟩
abbrev cX9_why : ByteArray := prog_11_method_64_code
def yX9_why : MethodName := ⟨RX9, "why", "(I)I"⟩
abbrev cX9_two : ByteArray := prog_11_method_65_code
def yX9_two : MethodName := ⟨RX9, "two", "(III)I"⟩
abbrev cX9_worksOut : ByteArray := prog_11_method_66_code
def yX9_worksOut : MethodName := ⟨RX9, "worksOut", "(I)I"⟩
abbrev cX9_isSheet : ByteArray := prog_11_method_67_code
def yX9_isSheet : MethodName := ⟨RX9, "isSheet", "(I)Z"⟩
abbrev cX9_isSlot : ByteArray := prog_11_method_68_code
def yX9_isSlot : MethodName := ⟨RX9, "isSlot", "(I)Z"⟩
abbrev cX9_sheet : ByteArray := prog_11_method_69_code
def yX9_sheet : MethodName := ⟨RX9, "sheet", "(III)I"⟩
abbrev cX9_mark : ByteArray := prog_11_method_70_code
def yX9_mark : MethodName := ⟨RX9, "mark", "(III)I"⟩
abbrev cX9_pour : ByteArray := prog_11_method_71_code
def yX9_pour : MethodName := ⟨RX9, "pour", "(I)I"⟩
abbrev cX9_reads : ByteArray := prog_11_method_72_code
def yX9_reads : MethodName := ⟨RX9, "reads", "(I)I"⟩
abbrev cX9_copy : ByteArray := prog_11_method_73_code
def yX9_copy : MethodName := ⟨RX9, "copy", "(IIIII)I"⟩
abbrev cX9_lay : ByteArray := prog_11_method_74_code
def yX9_lay : MethodName := ⟨RX9, "lay", "(III)I"⟩
abbrev cX9_ask : ByteArray := prog_11_method_75_code
def yX9_ask : MethodName := ⟨RX9, "ask", "(II)I"⟩
abbrev cX9_item : ByteArray := prog_11_method_76_code
def yX9_item : MethodName := ⟨RX9, "item", "(II)I"⟩
abbrev cX9_rest : ByteArray := prog_11_method_77_code
def yX9_rest : MethodName := ⟨RX9, "rest", "(II)I"⟩
abbrev cX9_tell : ByteArray := prog_11_method_78_code
def yX9_tell : MethodName := ⟨RX9, "tell", "(I)I"⟩
abbrev cX9_check : ByteArray := prog_11_method_79_code
def yX9_check : MethodName := ⟨RX9, "check", "(I)I"⟩
abbrev cX9_keep : ByteArray := prog_11_method_80_code
def yX9_keep : MethodName := ⟨RX9, "keep", "()I"⟩
abbrev cX9_back : ByteArray := prog_11_method_81_code
def yX9_back : MethodName := ⟨RX9, "back", "()I"⟩
abbrev cX9_count : ByteArray := prog_11_method_82_code
def yX9_count : MethodName := ⟨RX9, "count", "(I)I"⟩
def RL : String := "BeggarCornersLaw"
abbrev cL_law : ByteArray := code
def yL_law : MethodName := ⟨RL, "law", "([I)Z"⟩
abbrev vwCl : List vw_C := [(RX0, TX0, 2), (RX2, TX2, 9), (RX3, TX3, 3), (RX4, TX4, 5), (RX5, TX5, 14), (RX6, TX6, 2), (RX7, TX7, 4), (RX8, TX8, 12), (RX9, TX9, 33)]
end
section
theorem dX0_init_0 : decode cX0_init 0 = .ok (.aload_n 0, 1) := by decide +kernel
theorem dX0_init_1 : decode cX0_init 1 = .ok (.invokespecial 3, 3) := by decide +kernel
theorem dX0_init_4 : decode cX0_init 4 = .ok (.aload_n 0, 1) := by decide +kernel
theorem dX0_init_5 : decode cX0_init 5 = .ok (.aconst_null, 1) := by decide +kernel
theorem dX0_init_6 : decode cX0_init 6 = .ok (.putfield 9, 3) := by decide +kernel
theorem dX0_init_9 : decode cX0_init 9 = .ok (.aload_n 0, 1) := by decide +kernel
theorem dX0_init_10 : decode cX0_init 10 = .ok (.sipush 1890, 3) := by decide +kernel
theorem dX0_init_13 : decode cX0_init 13 = .ok (.newarray .int, 2) := by decide +kernel
theorem dX0_init_15 : decode cX0_init 15 = .ok (.putfield 15, 3) := by decide +kernel
theorem dX0_init_18 : decode cX0_init 18 = .ok (.return_, 1) := by decide +kernel
theorem dX0_follow_0 : decode cX0_follow 0 = .ok (.aload_n 1, 1) := by decide +kernel
theorem dX0_follow_1 : decode cX0_follow 1 = .ok (.aload_n 0, 1) := by decide +kernel
theorem dX0_follow_2 : decode cX0_follow 2 = .ok (.getfield 9, 3) := by decide +kernel
theorem dX0_follow_5 : decode cX0_follow 5 = .ok (.if_acmp .eq 16, 3) := by decide +kernel
theorem dX0_follow_8 : decode cX0_follow 8 = .ok (.aload_n 0, 1) := by decide +kernel
theorem dX0_follow_9 : decode cX0_follow 9 = .ok (.aload_n 1, 1) := by decide +kernel
theorem dX0_follow_10 : decode cX0_follow 10 = .ok (.putfield 9, 3) := by decide +kernel
theorem dX0_follow_13 : decode cX0_follow 13 = .ok (.aload_n 0, 1) := by decide +kernel
theorem dX0_follow_14 : decode cX0_follow 14 = .ok (.getfield 15, 3) := by decide +kernel
theorem dX0_follow_17 : decode cX0_follow 17 = .ok (.iconst 0, 1) := by decide +kernel
theorem dX0_follow_18 : decode cX0_follow 18 = .ok (.invokestatic 19, 3) := by decide +kernel
theorem dX0_follow_21 : decode cX0_follow 21 = .ok (.return_, 1) := by decide +kernel
theorem dX0_asBeggar_0 : decode cX0_asBeggar 0 = .ok (.aload_n 0, 1) := by decide +kernel
theorem dX0_asBeggar_1 : decode cX0_asBeggar 1 = .ok (.getfield 9, 3) := by decide +kernel
theorem dX0_asBeggar_4 : decode cX0_asBeggar 4 = .ok (.ifnonnull 14, 3) := by decide +kernel
theorem dX0_asBeggar_7 : decode cX0_asBeggar 7 = .ok (.iload_n 1, 1) := by decide +kernel
theorem dX0_asBeggar_8 : decode cX0_asBeggar 8 = .ok (.iload_n 2, 1) := by decide +kernel
theorem dX0_asBeggar_9 : decode cX0_asBeggar 9 = .ok (.imul, 1) := by decide +kernel
theorem dX0_asBeggar_10 : decode cX0_asBeggar 10 = .ok (.bipush 9, 2) := by decide +kernel
theorem dX0_asBeggar_12 : decode cX0_asBeggar 12 = .ok (.idiv, 1) := by decide +kernel
theorem dX0_asBeggar_13 : decode cX0_asBeggar 13 = .ok (.iload_n 3, 1) := by decide +kernel
theorem dX0_asBeggar_14 : decode cX0_asBeggar 14 = .ok (.iconst 5, 1) := by decide +kernel
theorem dX0_asBeggar_15 : decode cX0_asBeggar 15 = .ok (.idiv, 1) := by decide +kernel
theorem dX0_asBeggar_16 : decode cX0_asBeggar 16 = .ok (.iadd, 1) := by decide +kernel
theorem dX0_asBeggar_17 : decode cX0_asBeggar 17 = .ok (.ireturn, 1) := by decide +kernel
theorem dX0_asBeggar_18 : decode cX0_asBeggar 18 = .ok (.iload_n 3, 1) := by decide +kernel
theorem dX0_asBeggar_19 : decode cX0_asBeggar 19 = .ok (.bipush 9, 2) := by decide +kernel
theorem dX0_asBeggar_21 : decode cX0_asBeggar 21 = .ok (.imul, 1) := by decide +kernel
theorem dX0_asBeggar_22 : decode cX0_asBeggar 22 = .ok (.iload_n 1, 1) := by decide +kernel
theorem dX0_asBeggar_23 : decode cX0_asBeggar 23 = .ok (.iadd, 1) := by decide +kernel
theorem dX0_asBeggar_24 : decode cX0_asBeggar 24 = .ok (.iconst 1, 1) := by decide +kernel
theorem dX0_asBeggar_25 : decode cX0_asBeggar 25 = .ok (.isub, 1) := by decide +kernel
theorem dX0_asBeggar_26 : decode cX0_asBeggar 26 = .ok (.bipush 10, 2) := by decide +kernel
theorem dX0_asBeggar_28 : decode cX0_asBeggar 28 = .ok (.imul, 1) := by decide +kernel
theorem dX0_asBeggar_29 : decode cX0_asBeggar 29 = .ok (.iload_n 2, 1) := by decide +kernel
theorem dX0_asBeggar_30 : decode cX0_asBeggar 30 = .ok (.iadd, 1) := by decide +kernel
theorem dX0_asBeggar_31 : decode cX0_asBeggar 31 = .ok (.istore 4, 2) := by decide +kernel
theorem dX0_asBeggar_33 : decode cX0_asBeggar 33 = .ok (.iload 4, 2) := by decide +kernel
theorem dX0_asBeggar_35 : decode cX0_asBeggar 35 = .ok (.ifCond .lt 13, 3) := by decide +kernel
theorem dX0_asBeggar_38 : decode cX0_asBeggar 38 = .ok (.iload 4, 2) := by decide +kernel
theorem dX0_asBeggar_40 : decode cX0_asBeggar 40 = .ok (.aload_n 0, 1) := by decide +kernel
theorem dX0_asBeggar_41 : decode cX0_asBeggar 41 = .ok (.getfield 15, 3) := by decide +kernel
theorem dX0_asBeggar_44 : decode cX0_asBeggar 44 = .ok (.arraylength, 1) := by decide +kernel
theorem dX0_asBeggar_45 : decode cX0_asBeggar 45 = .ok (.if_icmp .lt 5, 3) := by decide +kernel
theorem dX0_asBeggar_48 : decode cX0_asBeggar 48 = .ok (.iconst 0, 1) := by decide +kernel
theorem dX0_asBeggar_49 : decode cX0_asBeggar 49 = .ok (.ireturn, 1) := by decide +kernel
theorem dX0_asBeggar_50 : decode cX0_asBeggar 50 = .ok (.aload_n 0, 1) := by decide +kernel
theorem dX0_asBeggar_51 : decode cX0_asBeggar 51 = .ok (.getfield 15, 3) := by decide +kernel
theorem dX0_asBeggar_54 : decode cX0_asBeggar 54 = .ok (.iload 4, 2) := by decide +kernel
theorem dX0_asBeggar_56 : decode cX0_asBeggar 56 = .ok (.iaload, 1) := by decide +kernel
theorem dX0_asBeggar_57 : decode cX0_asBeggar 57 = .ok (.ifCond .ne 28, 3) := by decide +kernel
theorem dX0_asBeggar_60 : decode cX0_asBeggar 60 = .ok (.aload_n 0, 1) := by decide +kernel
theorem dX0_asBeggar_61 : decode cX0_asBeggar 61 = .ok (.getfield 15, 3) := by decide +kernel
theorem dX0_asBeggar_64 : decode cX0_asBeggar 64 = .ok (.iload 4, 2) := by decide +kernel
theorem dX0_asBeggar_66 : decode cX0_asBeggar 66 = .ok (.iconst 1, 1) := by decide +kernel
theorem dX0_asBeggar_67 : decode cX0_asBeggar 67 = .ok (.aload_n 0, 1) := by decide +kernel
theorem dX0_asBeggar_68 : decode cX0_asBeggar 68 = .ok (.getfield 9, 3) := by decide +kernel
theorem dX0_asBeggar_71 : decode cX0_asBeggar 71 = .ok (.iload_n 1, 1) := by decide +kernel
theorem dX0_asBeggar_72 : decode cX0_asBeggar 72 = .ok (.iload_n 2, 1) := by decide +kernel
theorem dX0_asBeggar_73 : decode cX0_asBeggar 73 = .ok (.iload_n 3, 1) := by decide +kernel
theorem dX0_asBeggar_74 : decode cX0_asBeggar 74 = .ok (.invokevirtual 25, 3) := by decide +kernel
theorem dX0_asBeggar_77 : decode cX0_asBeggar 77 = .ok (.iconst 0, 1) := by decide +kernel
theorem dX0_asBeggar_78 : decode cX0_asBeggar 78 = .ok (.bipush 99, 2) := by decide +kernel
theorem dX0_asBeggar_80 : decode cX0_asBeggar 80 = .ok (.invokestatic 31, 3) := by decide +kernel
theorem dX0_asBeggar_83 : decode cX0_asBeggar 83 = .ok (.iadd, 1) := by decide +kernel
theorem dX0_asBeggar_84 : decode cX0_asBeggar 84 = .ok (.iastore, 1) := by decide +kernel
theorem dX0_asBeggar_85 : decode cX0_asBeggar 85 = .ok (.aload_n 0, 1) := by decide +kernel
theorem dX0_asBeggar_86 : decode cX0_asBeggar 86 = .ok (.getfield 15, 3) := by decide +kernel
theorem dX0_asBeggar_89 : decode cX0_asBeggar 89 = .ok (.iload 4, 2) := by decide +kernel
theorem dX0_asBeggar_91 : decode cX0_asBeggar 91 = .ok (.iaload, 1) := by decide +kernel
theorem dX0_asBeggar_92 : decode cX0_asBeggar 92 = .ok (.iconst 1, 1) := by decide +kernel
theorem dX0_asBeggar_93 : decode cX0_asBeggar 93 = .ok (.isub, 1) := by decide +kernel
theorem dX0_asBeggar_94 : decode cX0_asBeggar 94 = .ok (.ireturn, 1) := by decide +kernel
theorem dX1_isOf_0 : decode cX1_isOf 0 = .ok (.iload_n 0, 1) := by decide +kernel
theorem dX1_isOf_1 : decode cX1_isOf 1 = .ok (.istore_n 2, 1) := by decide +kernel
theorem dX1_isOf_2 : decode cX1_isOf 2 = .ok (.iconst 0, 1) := by decide +kernel
theorem dX1_isOf_3 : decode cX1_isOf 3 = .ok (.istore_n 3, 1) := by decide +kernel
theorem dX1_isOf_4 : decode cX1_isOf 4 = .ok (.iload_n 3, 1) := by decide +kernel
theorem dX1_isOf_5 : decode cX1_isOf 5 = .ok (.getstatic 7, 3) := by decide +kernel
theorem dX1_isOf_8 : decode cX1_isOf 8 = .ok (.arraylength, 1) := by decide +kernel
theorem dX1_isOf_9 : decode cX1_isOf 9 = .ok (.if_icmp .ge 36, 3) := by decide +kernel
theorem dX1_isOf_12 : decode cX1_isOf 12 = .ok (.iload_n 2, 1) := by decide +kernel
theorem dX1_isOf_13 : decode cX1_isOf 13 = .ok (.iconst 0, 1) := by decide +kernel
theorem dX1_isOf_14 : decode cX1_isOf 14 = .ok (.getstatic 7, 3) := by decide +kernel
theorem dX1_isOf_17 : decode cX1_isOf 17 = .ok (.arraylength, 1) := by decide +kernel
theorem dX1_isOf_18 : decode cX1_isOf 18 = .ok (.iconst 1, 1) := by decide +kernel
theorem dX1_isOf_19 : decode cX1_isOf 19 = .ok (.isub, 1) := by decide +kernel
theorem dX1_isOf_20 : decode cX1_isOf 20 = .ok (.invokestatic 13, 3) := by decide +kernel
theorem dX1_isOf_23 : decode cX1_isOf 23 = .ok (.ifCond .eq 22, 3) := by decide +kernel
theorem dX1_isOf_26 : decode cX1_isOf 26 = .ok (.iload_n 2, 1) := by decide +kernel
theorem dX1_isOf_27 : decode cX1_isOf 27 = .ok (.iload_n 1, 1) := by decide +kernel
theorem dX1_isOf_28 : decode cX1_isOf 28 = .ok (.if_icmp .ne 5, 3) := by decide +kernel
theorem dX1_isOf_31 : decode cX1_isOf 31 = .ok (.iconst 1, 1) := by decide +kernel
theorem dX1_isOf_32 : decode cX1_isOf 32 = .ok (.ireturn, 1) := by decide +kernel
theorem dX1_isOf_33 : decode cX1_isOf 33 = .ok (.getstatic 7, 3) := by decide +kernel
theorem dX1_isOf_36 : decode cX1_isOf 36 = .ok (.iload_n 2, 1) := by decide +kernel
theorem dX1_isOf_37 : decode cX1_isOf 37 = .ok (.iaload, 1) := by decide +kernel
theorem dX1_isOf_38 : decode cX1_isOf 38 = .ok (.istore_n 2, 1) := by decide +kernel
theorem dX1_isOf_39 : decode cX1_isOf 39 = .ok (.iinc 3 1, 3) := by decide +kernel
theorem dX1_isOf_42 : decode cX1_isOf 42 = .ok (.goto (-38), 3) := by decide +kernel
theorem dX1_isOf_45 : decode cX1_isOf 45 = .ok (.iconst 0, 1) := by decide +kernel
theorem dX1_isOf_46 : decode cX1_isOf 46 = .ok (.ireturn, 1) := by decide +kernel
theorem dX1_gift_0 : decode cX1_gift 0 = .ok (.iload_n 0, 1) := by decide +kernel
theorem dX1_gift_1 : decode cX1_gift 1 = .ok (.tableswitch 101 1 5 #[35, 62, 41, 68, 84], 35) := by decide +kernel
theorem dX1_gift_36 : decode cX1_gift 36 = .ok (.iload_n 1, 1) := by decide +kernel
theorem dX1_gift_37 : decode cX1_gift 37 = .ok (.iload_n 2, 1) := by decide +kernel
theorem dX1_gift_38 : decode cX1_gift 38 = .ok (.iconst 3, 1) := by decide +kernel
theorem dX1_gift_39 : decode cX1_gift 39 = .ok (.idiv, 1) := by decide +kernel
theorem dX1_gift_40 : decode cX1_gift 40 = .ok (.iadd, 1) := by decide +kernel
theorem dX1_gift_41 : decode cX1_gift 41 = .ok (.ireturn, 1) := by decide +kernel
theorem dX1_gift_42 : decode cX1_gift 42 = .ok (.iload 4, 2) := by decide +kernel
theorem dX1_gift_44 : decode cX1_gift 44 = .ok (.ifCond .eq 13, 3) := by decide +kernel
theorem dX1_gift_47 : decode cX1_gift 47 = .ok (.iload_n 1, 1) := by decide +kernel
theorem dX1_gift_48 : decode cX1_gift 48 = .ok (.iload_n 2, 1) := by decide +kernel
theorem dX1_gift_49 : decode cX1_gift 49 = .ok (.iconst 3, 1) := by decide +kernel
theorem dX1_gift_50 : decode cX1_gift 50 = .ok (.idiv, 1) := by decide +kernel
theorem dX1_gift_51 : decode cX1_gift 51 = .ok (.iadd, 1) := by decide +kernel
theorem dX1_gift_52 : decode cX1_gift 52 = .ok (.iconst 2, 1) := by decide +kernel
theorem dX1_gift_53 : decode cX1_gift 53 = .ok (.idiv, 1) := by decide +kernel
theorem dX1_gift_54 : decode cX1_gift 54 = .ok (.goto 8, 3) := by decide +kernel
theorem dX1_gift_57 : decode cX1_gift 57 = .ok (.iload_n 1, 1) := by decide +kernel
theorem dX1_gift_58 : decode cX1_gift 58 = .ok (.iload_n 2, 1) := by decide +kernel
theorem dX1_gift_59 : decode cX1_gift 59 = .ok (.iconst 3, 1) := by decide +kernel
theorem dX1_gift_60 : decode cX1_gift 60 = .ok (.idiv, 1) := by decide +kernel
theorem dX1_gift_61 : decode cX1_gift 61 = .ok (.iadd, 1) := by decide +kernel
theorem dX1_gift_62 : decode cX1_gift 62 = .ok (.ireturn, 1) := by decide +kernel
theorem dX1_gift_63 : decode cX1_gift 63 = .ok (.iload_n 1, 1) := by decide +kernel
theorem dX1_gift_64 : decode cX1_gift 64 = .ok (.iload_n 2, 1) := by decide +kernel
theorem dX1_gift_65 : decode cX1_gift 65 = .ok (.invokestatic 19, 3) := by decide +kernel
theorem dX1_gift_68 : decode cX1_gift 68 = .ok (.ireturn, 1) := by decide +kernel
theorem dX1_gift_69 : decode cX1_gift 69 = .ok (.iload_n 2, 1) := by decide +kernel
theorem dX1_gift_70 : decode cX1_gift 70 = .ok (.bipush 8, 2) := by decide +kernel
theorem dX1_gift_72 : decode cX1_gift 72 = .ok (.if_icmp .lt 7, 3) := by decide +kernel
theorem dX1_gift_75 : decode cX1_gift 75 = .ok (.iconst 0, 1) := by decide +kernel
theorem dX1_gift_76 : decode cX1_gift 76 = .ok (.goto 8, 3) := by decide +kernel
theorem dX1_gift_79 : decode cX1_gift 79 = .ok (.iload_n 1, 1) := by decide +kernel
theorem dX1_gift_80 : decode cX1_gift 80 = .ok (.iload_n 2, 1) := by decide +kernel
theorem dX1_gift_81 : decode cX1_gift 81 = .ok (.invokestatic 19, 3) := by decide +kernel
theorem dX1_gift_84 : decode cX1_gift 84 = .ok (.ireturn, 1) := by decide +kernel
theorem dX1_gift_85 : decode cX1_gift 85 = .ok (.iload_n 3, 1) := by decide +kernel
theorem dX1_gift_86 : decode cX1_gift 86 = .ok (.iconst 3, 1) := by decide +kernel
theorem dX1_gift_87 : decode cX1_gift 87 = .ok (.if_icmp .ge 7, 3) := by decide +kernel
theorem dX1_gift_90 : decode cX1_gift 90 = .ok (.iconst 0, 1) := by decide +kernel
theorem dX1_gift_91 : decode cX1_gift 91 = .ok (.goto 10, 3) := by decide +kernel
theorem dX1_gift_94 : decode cX1_gift 94 = .ok (.iload_n 1, 1) := by decide +kernel
theorem dX1_gift_95 : decode cX1_gift 95 = .ok (.iconst 1, 1) := by decide +kernel
theorem dX1_gift_96 : decode cX1_gift 96 = .ok (.isub, 1) := by decide +kernel
theorem dX1_gift_97 : decode cX1_gift 97 = .ok (.iconst 0, 1) := by decide +kernel
theorem dX1_gift_98 : decode cX1_gift 98 = .ok (.invokestatic 23, 3) := by decide +kernel
theorem dX1_gift_101 : decode cX1_gift 101 = .ok (.ireturn, 1) := by decide +kernel
theorem dX1_gift_102 : decode cX1_gift 102 = .ok (.iload_n 1, 1) := by decide +kernel
theorem dX1_gift_103 : decode cX1_gift 103 = .ok (.ireturn, 1) := by decide +kernel
theorem dX1_giftOfChild_0 : decode cX1_giftOfChild 0 = .ok (.iload_n 1, 1) := by decide +kernel
theorem dX1_giftOfChild_1 : decode cX1_giftOfChild 1 = .ok (.iconst 5, 1) := by decide +kernel
theorem dX1_giftOfChild_2 : decode cX1_giftOfChild 2 = .ok (.if_icmp .lt 9, 3) := by decide +kernel
theorem dX1_giftOfChild_5 : decode cX1_giftOfChild 5 = .ok (.iconst 2, 1) := by decide +kernel
theorem dX1_giftOfChild_6 : decode cX1_giftOfChild 6 = .ok (.iload_n 0, 1) := by decide +kernel
theorem dX1_giftOfChild_7 : decode cX1_giftOfChild 7 = .ok (.imul, 1) := by decide +kernel
theorem dX1_giftOfChild_8 : decode cX1_giftOfChild 8 = .ok (.goto 4, 3) := by decide +kernel
theorem dX1_giftOfChild_11 : decode cX1_giftOfChild 11 = .ok (.iload_n 0, 1) := by decide +kernel
theorem dX1_giftOfChild_12 : decode cX1_giftOfChild 12 = .ok (.ireturn, 1) := by decide +kernel
theorem dX1_worth_0 : decode cX1_worth 0 = .ok (.iload_n 0, 1) := by decide +kernel
theorem dX1_worth_1 : decode cX1_worth 1 = .ok (.tableswitch 62 1 5 #[35, 47, 40, 52, 60], 35) := by decide +kernel
theorem dX1_worth_36 : decode cX1_worth 36 = .ok (.iload_n 1, 1) := by decide +kernel
theorem dX1_worth_37 : decode cX1_worth 37 = .ok (.bipush 6, 2) := by decide +kernel
theorem dX1_worth_39 : decode cX1_worth 39 = .ok (.iadd, 1) := by decide +kernel
theorem dX1_worth_40 : decode cX1_worth 40 = .ok (.ireturn, 1) := by decide +kernel
theorem dX1_worth_41 : decode cX1_worth 41 = .ok (.iconst 2, 1) := by decide +kernel
theorem dX1_worth_42 : decode cX1_worth 42 = .ok (.iload_n 1, 1) := by decide +kernel
theorem dX1_worth_43 : decode cX1_worth 43 = .ok (.bipush 6, 2) := by decide +kernel
theorem dX1_worth_45 : decode cX1_worth 45 = .ok (.iadd, 1) := by decide +kernel
theorem dX1_worth_46 : decode cX1_worth 46 = .ok (.imul, 1) := by decide +kernel
theorem dX1_worth_47 : decode cX1_worth 47 = .ok (.ireturn, 1) := by decide +kernel
theorem dX1_worth_48 : decode cX1_worth 48 = .ok (.bipush 99, 2) := by decide +kernel
theorem dX1_worth_50 : decode cX1_worth 50 = .ok (.iload_n 1, 1) := by decide +kernel
theorem dX1_worth_51 : decode cX1_worth 51 = .ok (.isub, 1) := by decide +kernel
theorem dX1_worth_52 : decode cX1_worth 52 = .ok (.ireturn, 1) := by decide +kernel
theorem dX1_worth_53 : decode cX1_worth 53 = .ok (.bipush 99, 2) := by decide +kernel
theorem dX1_worth_55 : decode cX1_worth 55 = .ok (.iload_n 1, 1) := by decide +kernel
theorem dX1_worth_56 : decode cX1_worth 56 = .ok (.isub, 1) := by decide +kernel
theorem dX1_worth_57 : decode cX1_worth 57 = .ok (.bipush 8, 2) := by decide +kernel
theorem dX1_worth_59 : decode cX1_worth 59 = .ok (.isub, 1) := by decide +kernel
theorem dX1_worth_60 : decode cX1_worth 60 = .ok (.ireturn, 1) := by decide +kernel
theorem dX1_worth_61 : decode cX1_worth 61 = .ok (.iconst 5, 1) := by decide +kernel
theorem dX1_worth_62 : decode cX1_worth 62 = .ok (.ireturn, 1) := by decide +kernel
theorem dX1_worth_63 : decode cX1_worth 63 = .ok (.iload_n 1, 1) := by decide +kernel
theorem dX1_worth_64 : decode cX1_worth 64 = .ok (.ireturn, 1) := by decide +kernel
theorem dX2_init_0 : decode cX2_init 0 = .ok (.aload_n 0, 1) := by decide +kernel
theorem dX2_init_1 : decode cX2_init 1 = .ok (.invokespecial 3, 3) := by decide +kernel
theorem dX2_init_4 : decode cX2_init 4 = .ok (.aload_n 0, 1) := by decide +kernel
theorem dX2_init_5 : decode cX2_init 5 = .ok (.iconst 3, 1) := by decide +kernel
theorem dX2_init_6 : decode cX2_init 6 = .ok (.putfield 11, 3) := by decide +kernel
theorem dX2_init_9 : decode cX2_init 9 = .ok (.aload_n 0, 1) := by decide +kernel
theorem dX2_init_10 : decode cX2_init 10 = .ok (.iconst 0, 1) := by decide +kernel
theorem dX2_init_11 : decode cX2_init 11 = .ok (.putfield 15, 3) := by decide +kernel
theorem dX2_init_14 : decode cX2_init 14 = .ok (.aload_n 0, 1) := by decide +kernel
theorem dX2_init_15 : decode cX2_init 15 = .ok (.iconst 0, 1) := by decide +kernel
theorem dX2_init_16 : decode cX2_init 16 = .ok (.putfield 18, 3) := by decide +kernel
theorem dX2_init_19 : decode cX2_init 19 = .ok (.aload_n 0, 1) := by decide +kernel
theorem dX2_init_20 : decode cX2_init 20 = .ok (.iconst (-1), 1) := by decide +kernel
theorem dX2_init_21 : decode cX2_init 21 = .ok (.putfield 21, 3) := by decide +kernel
theorem dX2_init_24 : decode cX2_init 24 = .ok (.aload_n 0, 1) := by decide +kernel
theorem dX2_init_25 : decode cX2_init 25 = .ok (.iconst 0, 1) := by decide +kernel
theorem dX2_init_26 : decode cX2_init 26 = .ok (.putfield 24, 3) := by decide +kernel
theorem dX2_init_29 : decode cX2_init 29 = .ok (.aload_n 0, 1) := by decide +kernel
theorem dX2_init_30 : decode cX2_init 30 = .ok (.bipush 96, 2) := by decide +kernel
theorem dX2_init_32 : decode cX2_init 32 = .ok (.newarray .int, 2) := by decide +kernel
theorem dX2_init_34 : decode cX2_init 34 = .ok (.putfield 27, 3) := by decide +kernel
theorem dX2_init_37 : decode cX2_init 37 = .ok (.aload_n 0, 1) := by decide +kernel
theorem dX2_init_38 : decode cX2_init 38 = .ok (.iconst 0, 1) := by decide +kernel
theorem dX2_init_39 : decode cX2_init 39 = .ok (.putfield 31, 3) := by decide +kernel
theorem dX2_init_42 : decode cX2_init 42 = .ok (.aload_n 0, 1) := by decide +kernel
theorem dX2_init_43 : decode cX2_init 43 = .ok (.iconst 0, 1) := by decide +kernel
theorem dX2_init_44 : decode cX2_init 44 = .ok (.putfield 34, 3) := by decide +kernel
theorem dX2_init_47 : decode cX2_init 47 = .ok (.aload_n 0, 1) := by decide +kernel
theorem dX2_init_48 : decode cX2_init 48 = .ok (.aload_n 1, 1) := by decide +kernel
theorem dX2_init_49 : decode cX2_init 49 = .ok (.putfield 37, 3) := by decide +kernel
theorem dX2_init_52 : decode cX2_init 52 = .ok (.return_, 1) := by decide +kernel
theorem dX2_findFault_0 : decode cX2_findFault 0 = .ok (.aload_n 0, 1) := by decide +kernel
theorem dX2_findFault_1 : decode cX2_findFault 1 = .ok (.iconst 3, 1) := by decide +kernel
theorem dX2_findFault_2 : decode cX2_findFault 2 = .ok (.putfield 11, 3) := by decide +kernel
theorem dX2_findFault_5 : decode cX2_findFault 5 = .ok (.aload_n 0, 1) := by decide +kernel
theorem dX2_findFault_6 : decode cX2_findFault 6 = .ok (.iconst 0, 1) := by decide +kernel
theorem dX2_findFault_7 : decode cX2_findFault 7 = .ok (.putfield 18, 3) := by decide +kernel
theorem dX2_findFault_10 : decode cX2_findFault 10 = .ok (.aload_n 0, 1) := by decide +kernel
theorem dX2_findFault_11 : decode cX2_findFault 11 = .ok (.iconst (-1), 1) := by decide +kernel
theorem dX2_findFault_12 : decode cX2_findFault 12 = .ok (.putfield 21, 3) := by decide +kernel
theorem dX2_findFault_15 : decode cX2_findFault 15 = .ok (.aload_n 0, 1) := by decide +kernel
theorem dX2_findFault_16 : decode cX2_findFault 16 = .ok (.iconst 0, 1) := by decide +kernel
theorem dX2_findFault_17 : decode cX2_findFault 17 = .ok (.putfield 31, 3) := by decide +kernel
theorem dX2_findFault_20 : decode cX2_findFault 20 = .ok (.aload_n 0, 1) := by decide +kernel
theorem dX2_findFault_21 : decode cX2_findFault 21 = .ok (.iconst 0, 1) := by decide +kernel
theorem dX2_findFault_22 : decode cX2_findFault 22 = .ok (.putfield 34, 3) := by decide +kernel
theorem dX2_findFault_25 : decode cX2_findFault 25 = .ok (.aload_n 0, 1) := by decide +kernel
theorem dX2_findFault_26 : decode cX2_findFault 26 = .ok (.invokevirtual 41, 3) := by decide +kernel
theorem dX2_findFault_29 : decode cX2_findFault 29 = .ok (.aload_n 0, 1) := by decide +kernel
theorem dX2_findFault_30 : decode cX2_findFault 30 = .ok (.aload_n 0, 1) := by decide +kernel
theorem dX2_findFault_31 : decode cX2_findFault 31 = .ok (.invokevirtual 44, 3) := by decide +kernel
theorem dX2_findFault_34 : decode cX2_findFault 34 = .ok (.putfield 24, 3) := by decide +kernel
theorem dX2_findFault_37 : decode cX2_findFault 37 = .ok (.aload_n 0, 1) := by decide +kernel
theorem dX2_findFault_38 : decode cX2_findFault 38 = .ok (.getfield 24, 3) := by decide +kernel
theorem dX2_findFault_41 : decode cX2_findFault 41 = .ok (.ifCond .ge 10, 3) := by decide +kernel
theorem dX2_findFault_44 : decode cX2_findFault 44 = .ok (.aload_n 0, 1) := by decide +kernel
theorem dX2_findFault_45 : decode cX2_findFault 45 = .ok (.invokevirtual 48, 3) := by decide +kernel
theorem dX2_findFault_48 : decode cX2_findFault 48 = .ok (.goto 25, 3) := by decide +kernel
theorem dX2_findFault_51 : decode cX2_findFault 51 = .ok (.aload_n 0, 1) := by decide +kernel
theorem dX2_findFault_52 : decode cX2_findFault 52 = .ok (.invokevirtual 41, 3) := by decide +kernel
theorem dX2_findFault_55 : decode cX2_findFault 55 = .ok (.aload_n 0, 1) := by decide +kernel
theorem dX2_findFault_56 : decode cX2_findFault 56 = .ok (.iconst 0, 1) := by decide +kernel
theorem dX2_findFault_57 : decode cX2_findFault 57 = .ok (.iconst 0, 1) := by decide +kernel
theorem dX2_findFault_58 : decode cX2_findFault 58 = .ok (.iconst 0, 1) := by decide +kernel
theorem dX2_findFault_59 : decode cX2_findFault 59 = .ok (.invokevirtual 51, 3) := by decide +kernel
theorem dX2_findFault_62 : decode cX2_findFault 62 = .ok (.aload_n 0, 1) := by decide +kernel
theorem dX2_findFault_63 : decode cX2_findFault 63 = .ok (.getfield 11, 3) := by decide +kernel
theorem dX2_findFault_66 : decode cX2_findFault 66 = .ok (.ifCond .eq 7, 3) := by decide +kernel
theorem dX2_findFault_69 : decode cX2_findFault 69 = .ok (.aload_n 0, 1) := by decide +kernel
theorem dX2_findFault_70 : decode cX2_findFault 70 = .ok (.invokevirtual 48, 3) := by decide +kernel
theorem dX2_findFault_73 : decode cX2_findFault 73 = .ok (.aload_n 0, 1) := by decide +kernel
theorem dX2_findFault_74 : decode cX2_findFault 74 = .ok (.getfield 21, 3) := by decide +kernel
theorem dX2_findFault_77 : decode cX2_findFault 77 = .ok (.ireturn, 1) := by decide +kernel
theorem dX2_makeText_0 : decode cX2_makeText 0 = .ok (.new 55, 3) := by decide +kernel
theorem dX2_makeText_3 : decode cX2_makeText 3 = .ok (.dup, 1) := by decide +kernel
theorem dX2_makeText_4 : decode cX2_makeText 4 = .ok (.aload_n 0, 1) := by decide +kernel
theorem dX2_makeText_5 : decode cX2_makeText 5 = .ok (.getfield 24, 3) := by decide +kernel
theorem dX2_makeText_8 : decode cX2_makeText 8 = .ok (.aload_n 0, 1) := by decide +kernel
theorem dX2_makeText_9 : decode cX2_makeText 9 = .ok (.getfield 34, 3) := by decide +kernel
theorem dX2_makeText_12 : decode cX2_makeText 12 = .ok (.aload_n 0, 1) := by decide +kernel
theorem dX2_makeText_13 : decode cX2_makeText 13 = .ok (.getfield 27, 3) := by decide +kernel
theorem dX2_makeText_16 : decode cX2_makeText 16 = .ok (.aload_n 0, 1) := by decide +kernel
theorem dX2_makeText_17 : decode cX2_makeText 17 = .ok (.getfield 31, 3) := by decide +kernel
theorem dX2_makeText_20 : decode cX2_makeText 20 = .ok (.invokestatic 57, 3) := by decide +kernel
theorem dX2_makeText_23 : decode cX2_makeText 23 = .ok (.invokespecial 63, 3) := by decide +kernel
theorem dX2_makeText_26 : decode cX2_makeText 26 = .ok (.areturn, 1) := by decide +kernel
theorem dX2_wordOf_0 : decode cX2_wordOf 0 = .ok (.iload_n 0, 1) := by decide +kernel
theorem dX2_wordOf_1 : decode cX2_wordOf 1 = .ok (.ifCond .ne 8, 3) := by decide +kernel
theorem dX2_wordOf_4 : decode cX2_wordOf 4 = .ok (.ldc 66, 2) := by decide +kernel
theorem dX2_wordOf_6 : decode cX2_wordOf 6 = .ok (.goto 15, 3) := by decide +kernel
theorem dX2_wordOf_9 : decode cX2_wordOf 9 = .ok (.iload_n 0, 1) := by decide +kernel
theorem dX2_wordOf_10 : decode cX2_wordOf 10 = .ok (.iconst 1, 1) := by decide +kernel
theorem dX2_wordOf_11 : decode cX2_wordOf 11 = .ok (.if_icmp .ne 8, 3) := by decide +kernel
theorem dX2_wordOf_14 : decode cX2_wordOf 14 = .ok (.ldc 68, 2) := by decide +kernel
theorem dX2_wordOf_16 : decode cX2_wordOf 16 = .ok (.goto 5, 3) := by decide +kernel
theorem dX2_wordOf_19 : decode cX2_wordOf 19 = .ok (.ldc 70, 2) := by decide +kernel
theorem dX2_wordOf_21 : decode cX2_wordOf 21 = .ok (.areturn, 1) := by decide +kernel
theorem dX2_namesOf_0 : decode cX2_namesOf 0 = .ok (.iload_n 0, 1) := by decide +kernel
theorem dX2_namesOf_1 : decode cX2_namesOf 1 = .ok (.ifCond .ne 8, 3) := by decide +kernel
theorem dX2_namesOf_4 : decode cX2_namesOf 4 = .ok (.ldc 72, 2) := by decide +kernel
theorem dX2_namesOf_6 : decode cX2_namesOf 6 = .ok (.goto 15, 3) := by decide +kernel
theorem dX2_namesOf_9 : decode cX2_namesOf 9 = .ok (.iload_n 0, 1) := by decide +kernel
theorem dX2_namesOf_10 : decode cX2_namesOf 10 = .ok (.iconst 1, 1) := by decide +kernel
theorem dX2_namesOf_11 : decode cX2_namesOf 11 = .ok (.if_icmp .ne 8, 3) := by decide +kernel
theorem dX2_namesOf_14 : decode cX2_namesOf 14 = .ok (.ldc 74, 2) := by decide +kernel
theorem dX2_namesOf_16 : decode cX2_namesOf 16 = .ok (.goto 5, 3) := by decide +kernel
theorem dX2_namesOf_19 : decode cX2_namesOf 19 = .ok (.ldc 76, 2) := by decide +kernel
theorem dX2_namesOf_21 : decode cX2_namesOf 21 = .ok (.areturn, 1) := by decide +kernel
theorem dX2_advance_0 : decode cX2_advance 0 = .ok (.aload_n 0, 1) := by decide +kernel
theorem dX2_advance_1 : decode cX2_advance 1 = .ok (.getfield 11, 3) := by decide +kernel
theorem dX2_advance_4 : decode cX2_advance 4 = .ok (.iconst 1, 1) := by decide +kernel
theorem dX2_advance_5 : decode cX2_advance 5 = .ok (.if_icmp .eq 11, 3) := by decide +kernel
theorem dX2_advance_8 : decode cX2_advance 8 = .ok (.aload_n 0, 1) := by decide +kernel
theorem dX2_advance_9 : decode cX2_advance 9 = .ok (.getfield 11, 3) := by decide +kernel
theorem dX2_advance_12 : decode cX2_advance 12 = .ok (.iconst 2, 1) := by decide +kernel
theorem dX2_advance_13 : decode cX2_advance 13 = .ok (.if_icmp .ne 7, 3) := by decide +kernel
theorem dX2_advance_16 : decode cX2_advance 16 = .ok (.iconst 1, 1) := by decide +kernel
theorem dX2_advance_17 : decode cX2_advance 17 = .ok (.goto 4, 3) := by decide +kernel
theorem dX2_advance_20 : decode cX2_advance 20 = .ok (.iconst 0, 1) := by decide +kernel
theorem dX2_advance_21 : decode cX2_advance 21 = .ok (.istore_n 1, 1) := by decide +kernel
theorem dX2_advance_22 : decode cX2_advance 22 = .ok (.aload_n 0, 1) := by decide +kernel
theorem dX2_advance_23 : decode cX2_advance 23 = .ok (.getfield 18, 3) := by decide +kernel
theorem dX2_advance_26 : decode cX2_advance 26 = .ok (.istore_n 2, 1) := by decide +kernel
theorem dX2_advance_27 : decode cX2_advance 27 = .ok (.aload_n 0, 1) := by decide +kernel
theorem dX2_advance_28 : decode cX2_advance 28 = .ok (.iload_n 2, 1) := by decide +kernel
theorem dX2_advance_29 : decode cX2_advance 29 = .ok (.putfield 15, 3) := by decide +kernel
theorem dX2_advance_32 : decode cX2_advance 32 = .ok (.iload_n 2, 1) := by decide +kernel
theorem dX2_advance_33 : decode cX2_advance 33 = .ok (.istore_n 3, 1) := by decide +kernel
theorem dX2_advance_34 : decode cX2_advance 34 = .ok (.iload_n 3, 1) := by decide +kernel
theorem dX2_advance_35 : decode cX2_advance 35 = .ok (.aload_n 0, 1) := by decide +kernel
theorem dX2_advance_36 : decode cX2_advance 36 = .ok (.getfield 37, 3) := by decide +kernel
theorem dX2_advance_39 : decode cX2_advance 39 = .ok (.getfield 78, 3) := by decide +kernel
theorem dX2_advance_42 : decode cX2_advance 42 = .ok (.if_icmp .ge 30, 3) := by decide +kernel
theorem dX2_advance_45 : decode cX2_advance 45 = .ok (.aload_n 0, 1) := by decide +kernel
theorem dX2_advance_46 : decode cX2_advance 46 = .ok (.getfield 37, 3) := by decide +kernel
theorem dX2_advance_49 : decode cX2_advance 49 = .ok (.getfield 83, 3) := by decide +kernel
theorem dX2_advance_52 : decode cX2_advance 52 = .ok (.iload_n 3, 1) := by decide +kernel
theorem dX2_advance_53 : decode cX2_advance 53 = .ok (.baload, 1) := by decide +kernel
theorem dX2_advance_54 : decode cX2_advance 54 = .ok (.bipush 32, 2) := by decide +kernel
theorem dX2_advance_56 : decode cX2_advance 56 = .ok (.if_icmp .ne 16, 3) := by decide +kernel
theorem dX2_advance_59 : decode cX2_advance 59 = .ok (.aload_n 0, 1) := by decide +kernel
theorem dX2_advance_60 : decode cX2_advance 60 = .ok (.iload_n 3, 1) := by decide +kernel
theorem dX2_advance_61 : decode cX2_advance 61 = .ok (.iconst 1, 1) := by decide +kernel
theorem dX2_advance_62 : decode cX2_advance 62 = .ok (.iadd, 1) := by decide +kernel
theorem dX2_advance_63 : decode cX2_advance 63 = .ok (.putfield 15, 3) := by decide +kernel
theorem dX2_advance_66 : decode cX2_advance 66 = .ok (.iinc 3 1, 3) := by decide +kernel
theorem dX2_advance_69 : decode cX2_advance 69 = .ok (.goto (-35), 3) := by decide +kernel
theorem dX2_advance_72 : decode cX2_advance 72 = .ok (.aload_n 0, 1) := by decide +kernel
theorem dX2_advance_73 : decode cX2_advance 73 = .ok (.aload_n 0, 1) := by decide +kernel
theorem dX2_advance_74 : decode cX2_advance 74 = .ok (.getfield 15, 3) := by decide +kernel
theorem dX2_advance_77 : decode cX2_advance 77 = .ok (.putfield 18, 3) := by decide +kernel
theorem dX2_advance_80 : decode cX2_advance 80 = .ok (.aload_n 0, 1) := by decide +kernel
theorem dX2_advance_81 : decode cX2_advance 81 = .ok (.aload_n 0, 1) := by decide +kernel
theorem dX2_advance_82 : decode cX2_advance 82 = .ok (.aload_n 0, 1) := by decide +kernel
theorem dX2_advance_83 : decode cX2_advance 83 = .ok (.getfield 15, 3) := by decide +kernel
theorem dX2_advance_86 : decode cX2_advance 86 = .ok (.invokevirtual 87, 3) := by decide +kernel
theorem dX2_advance_89 : decode cX2_advance 89 = .ok (.putfield 11, 3) := by decide +kernel
theorem dX2_advance_92 : decode cX2_advance 92 = .ok (.aload_n 0, 1) := by decide +kernel
theorem dX2_advance_93 : decode cX2_advance 93 = .ok (.getfield 11, 3) := by decide +kernel
theorem dX2_advance_96 : decode cX2_advance 96 = .ok (.iconst 3, 1) := by decide +kernel
theorem dX2_advance_97 : decode cX2_advance 97 = .ok (.if_icmp .ne 16, 3) := by decide +kernel
theorem dX2_advance_100 : decode cX2_advance 100 = .ok (.aload_n 0, 1) := by decide +kernel
theorem dX2_advance_101 : decode cX2_advance 101 = .ok (.aload_n 0, 1) := by decide +kernel
theorem dX2_advance_102 : decode cX2_advance 102 = .ok (.getfield 15, 3) := by decide +kernel
theorem dX2_advance_105 : decode cX2_advance 105 = .ok (.iconst 1, 1) := by decide +kernel
theorem dX2_advance_106 : decode cX2_advance 106 = .ok (.iadd, 1) := by decide +kernel
theorem dX2_advance_107 : decode cX2_advance 107 = .ok (.putfield 18, 3) := by decide +kernel
theorem dX2_advance_110 : decode cX2_advance 110 = .ok (.goto 68, 3) := by decide +kernel
theorem dX2_advance_113 : decode cX2_advance 113 = .ok (.aload_n 0, 1) := by decide +kernel
theorem dX2_advance_114 : decode cX2_advance 114 = .ok (.getfield 11, 3) := by decide +kernel
theorem dX2_advance_117 : decode cX2_advance 117 = .ok (.ifCond .eq 61, 3) := by decide +kernel
theorem dX2_advance_120 : decode cX2_advance 120 = .ok (.aload_n 0, 1) := by decide +kernel
theorem dX2_advance_121 : decode cX2_advance 121 = .ok (.getfield 15, 3) := by decide +kernel
theorem dX2_advance_124 : decode cX2_advance 124 = .ok (.istore_n 3, 1) := by decide +kernel
theorem dX2_advance_125 : decode cX2_advance 125 = .ok (.iload_n 3, 1) := by decide +kernel
theorem dX2_advance_126 : decode cX2_advance 126 = .ok (.aload_n 0, 1) := by decide +kernel
theorem dX2_advance_127 : decode cX2_advance 127 = .ok (.getfield 37, 3) := by decide +kernel
theorem dX2_advance_130 : decode cX2_advance 130 = .ok (.getfield 78, 3) := by decide +kernel
theorem dX2_advance_133 : decode cX2_advance 133 = .ok (.if_icmp .ge 28, 3) := by decide +kernel
theorem dX2_advance_136 : decode cX2_advance 136 = .ok (.aload_n 0, 1) := by decide +kernel
theorem dX2_advance_137 : decode cX2_advance 137 = .ok (.iload_n 3, 1) := by decide +kernel
theorem dX2_advance_138 : decode cX2_advance 138 = .ok (.invokevirtual 87, 3) := by decide +kernel
theorem dX2_advance_141 : decode cX2_advance 141 = .ok (.aload_n 0, 1) := by decide +kernel
theorem dX2_advance_142 : decode cX2_advance 142 = .ok (.getfield 11, 3) := by decide +kernel
theorem dX2_advance_145 : decode cX2_advance 145 = .ok (.if_icmp .ne 16, 3) := by decide +kernel
theorem dX2_advance_148 : decode cX2_advance 148 = .ok (.aload_n 0, 1) := by decide +kernel
theorem dX2_advance_149 : decode cX2_advance 149 = .ok (.iload_n 3, 1) := by decide +kernel
theorem dX2_advance_150 : decode cX2_advance 150 = .ok (.iconst 1, 1) := by decide +kernel
theorem dX2_advance_151 : decode cX2_advance 151 = .ok (.iadd, 1) := by decide +kernel
theorem dX2_advance_152 : decode cX2_advance 152 = .ok (.putfield 18, 3) := by decide +kernel
theorem dX2_advance_155 : decode cX2_advance 155 = .ok (.iinc 3 1, 3) := by decide +kernel
theorem dX2_advance_158 : decode cX2_advance 158 = .ok (.goto (-33), 3) := by decide +kernel
theorem dX2_advance_161 : decode cX2_advance 161 = .ok (.iload_n 1, 1) := by decide +kernel
theorem dX2_advance_162 : decode cX2_advance 162 = .ok (.ifCond .eq 16, 3) := by decide +kernel
theorem dX2_advance_165 : decode cX2_advance 165 = .ok (.aload_n 0, 1) := by decide +kernel
theorem dX2_advance_166 : decode cX2_advance 166 = .ok (.getfield 15, 3) := by decide +kernel
theorem dX2_advance_169 : decode cX2_advance 169 = .ok (.iload_n 2, 1) := by decide +kernel
theorem dX2_advance_170 : decode cX2_advance 170 = .ok (.if_icmp .ne 8, 3) := by decide +kernel
theorem dX2_advance_173 : decode cX2_advance 173 = .ok (.aload_n 0, 1) := by decide +kernel
theorem dX2_advance_174 : decode cX2_advance 174 = .ok (.iconst 4, 1) := by decide +kernel
theorem dX2_advance_175 : decode cX2_advance 175 = .ok (.putfield 11, 3) := by decide +kernel
theorem dX2_advance_178 : decode cX2_advance 178 = .ok (.return_, 1) := by decide +kernel
theorem dX2_sortAt_0 : decode cX2_sortAt 0 = .ok (.iload_n 1, 1) := by decide +kernel
theorem dX2_sortAt_1 : decode cX2_sortAt 1 = .ok (.aload_n 0, 1) := by decide +kernel
theorem dX2_sortAt_2 : decode cX2_sortAt 2 = .ok (.getfield 37, 3) := by decide +kernel
theorem dX2_sortAt_5 : decode cX2_sortAt 5 = .ok (.getfield 78, 3) := by decide +kernel
theorem dX2_sortAt_8 : decode cX2_sortAt 8 = .ok (.if_icmp .lt 5, 3) := by decide +kernel
theorem dX2_sortAt_11 : decode cX2_sortAt 11 = .ok (.iconst 0, 1) := by decide +kernel
theorem dX2_sortAt_12 : decode cX2_sortAt 12 = .ok (.ireturn, 1) := by decide +kernel
theorem dX2_sortAt_13 : decode cX2_sortAt 13 = .ok (.aload_n 0, 1) := by decide +kernel
theorem dX2_sortAt_14 : decode cX2_sortAt 14 = .ok (.getfield 37, 3) := by decide +kernel
theorem dX2_sortAt_17 : decode cX2_sortAt 17 = .ok (.getfield 83, 3) := by decide +kernel
theorem dX2_sortAt_20 : decode cX2_sortAt 20 = .ok (.iload_n 1, 1) := by decide +kernel
theorem dX2_sortAt_21 : decode cX2_sortAt 21 = .ok (.baload, 1) := by decide +kernel
theorem dX2_sortAt_22 : decode cX2_sortAt 22 = .ok (.istore_n 2, 1) := by decide +kernel
theorem dX2_sortAt_23 : decode cX2_sortAt 23 = .ok (.iload_n 2, 1) := by decide +kernel
theorem dX2_sortAt_24 : decode cX2_sortAt 24 = .ok (.bipush 97, 2) := by decide +kernel
theorem dX2_sortAt_26 : decode cX2_sortAt 26 = .ok (.if_icmp .lt 11, 3) := by decide +kernel
theorem dX2_sortAt_29 : decode cX2_sortAt 29 = .ok (.iload_n 2, 1) := by decide +kernel
theorem dX2_sortAt_30 : decode cX2_sortAt 30 = .ok (.bipush 122, 2) := by decide +kernel
theorem dX2_sortAt_32 : decode cX2_sortAt 32 = .ok (.if_icmp .gt 5, 3) := by decide +kernel
theorem dX2_sortAt_35 : decode cX2_sortAt 35 = .ok (.iconst 1, 1) := by decide +kernel
theorem dX2_sortAt_36 : decode cX2_sortAt 36 = .ok (.ireturn, 1) := by decide +kernel
theorem dX2_sortAt_37 : decode cX2_sortAt 37 = .ok (.iload_n 2, 1) := by decide +kernel
theorem dX2_sortAt_38 : decode cX2_sortAt 38 = .ok (.bipush 48, 2) := by decide +kernel
theorem dX2_sortAt_40 : decode cX2_sortAt 40 = .ok (.if_icmp .lt 13, 3) := by decide +kernel
theorem dX2_sortAt_43 : decode cX2_sortAt 43 = .ok (.iload_n 2, 1) := by decide +kernel
theorem dX2_sortAt_44 : decode cX2_sortAt 44 = .ok (.bipush 57, 2) := by decide +kernel
theorem dX2_sortAt_46 : decode cX2_sortAt 46 = .ok (.if_icmp .gt 7, 3) := by decide +kernel
theorem dX2_sortAt_49 : decode cX2_sortAt 49 = .ok (.iconst 2, 1) := by decide +kernel
theorem dX2_sortAt_50 : decode cX2_sortAt 50 = .ok (.goto 4, 3) := by decide +kernel
theorem dX2_sortAt_53 : decode cX2_sortAt 53 = .ok (.iconst 3, 1) := by decide +kernel
theorem dX2_sortAt_54 : decode cX2_sortAt 54 = .ok (.ireturn, 1) := by decide +kernel
theorem dX2_fail_0 : decode cX2_fail 0 = .ok (.aload_n 0, 1) := by decide +kernel
theorem dX2_fail_1 : decode cX2_fail 1 = .ok (.getfield 21, 3) := by decide +kernel
theorem dX2_fail_4 : decode cX2_fail 4 = .ok (.ifCond .ge 11, 3) := by decide +kernel
theorem dX2_fail_7 : decode cX2_fail 7 = .ok (.aload_n 0, 1) := by decide +kernel
theorem dX2_fail_8 : decode cX2_fail 8 = .ok (.aload_n 0, 1) := by decide +kernel
theorem dX2_fail_9 : decode cX2_fail 9 = .ok (.getfield 15, 3) := by decide +kernel
theorem dX2_fail_12 : decode cX2_fail 12 = .ok (.putfield 21, 3) := by decide +kernel
theorem dX2_fail_15 : decode cX2_fail 15 = .ok (.aload_n 0, 1) := by decide +kernel
theorem dX2_fail_16 : decode cX2_fail 16 = .ok (.iconst 4, 1) := by decide +kernel
theorem dX2_fail_17 : decode cX2_fail 17 = .ok (.putfield 11, 3) := by decide +kernel
theorem dX2_fail_20 : decode cX2_fail 20 = .ok (.return_, 1) := by decide +kernel
theorem dX2_keyHere_0 : decode cX2_keyHere 0 = .ok (.iconst 0, 1) := by decide +kernel
theorem dX2_keyHere_1 : decode cX2_keyHere 1 = .ok (.istore_n 1, 1) := by decide +kernel
theorem dX2_keyHere_2 : decode cX2_keyHere 2 = .ok (.iload_n 1, 1) := by decide +kernel
theorem dX2_keyHere_3 : decode cX2_keyHere 3 = .ok (.iconst 2, 1) := by decide +kernel
theorem dX2_keyHere_4 : decode cX2_keyHere 4 = .ok (.if_icmp .gt 30, 3) := by decide +kernel
theorem dX2_keyHere_7 : decode cX2_keyHere 7 = .ok (.aload_n 0, 1) := by decide +kernel
theorem dX2_keyHere_8 : decode cX2_keyHere 8 = .ok (.getfield 11, 3) := by decide +kernel
theorem dX2_keyHere_11 : decode cX2_keyHere 11 = .ok (.iconst 1, 1) := by decide +kernel
theorem dX2_keyHere_12 : decode cX2_keyHere 12 = .ok (.if_icmp .ne 16, 3) := by decide +kernel
theorem dX2_keyHere_15 : decode cX2_keyHere 15 = .ok (.aload_n 0, 1) := by decide +kernel
theorem dX2_keyHere_16 : decode cX2_keyHere 16 = .ok (.iload_n 1, 1) := by decide +kernel
theorem dX2_keyHere_17 : decode cX2_keyHere 17 = .ok (.invokestatic 91, 3) := by decide +kernel
theorem dX2_keyHere_20 : decode cX2_keyHere 20 = .ok (.invokevirtual 95, 3) := by decide +kernel
theorem dX2_keyHere_23 : decode cX2_keyHere 23 = .ok (.ifCond .eq 5, 3) := by decide +kernel
theorem dX2_keyHere_26 : decode cX2_keyHere 26 = .ok (.iload_n 1, 1) := by decide +kernel
theorem dX2_keyHere_27 : decode cX2_keyHere 27 = .ok (.ireturn, 1) := by decide +kernel
theorem dX2_keyHere_28 : decode cX2_keyHere 28 = .ok (.iinc 1 1, 3) := by decide +kernel
theorem dX2_keyHere_31 : decode cX2_keyHere 31 = .ok (.goto (-29), 3) := by decide +kernel
theorem dX2_keyHere_34 : decode cX2_keyHere 34 = .ok (.iconst (-1), 1) := by decide +kernel
theorem dX2_keyHere_35 : decode cX2_keyHere 35 = .ok (.ireturn, 1) := by decide +kernel
theorem dX2_isHere_0 : decode cX2_isHere 0 = .ok (.aload_n 0, 1) := by decide +kernel
theorem dX2_isHere_1 : decode cX2_isHere 1 = .ok (.getfield 18, 3) := by decide +kernel
theorem dX2_isHere_4 : decode cX2_isHere 4 = .ok (.aload_n 0, 1) := by decide +kernel
theorem dX2_isHere_5 : decode cX2_isHere 5 = .ok (.getfield 15, 3) := by decide +kernel
theorem dX2_isHere_8 : decode cX2_isHere 8 = .ok (.isub, 1) := by decide +kernel
theorem dX2_isHere_9 : decode cX2_isHere 9 = .ok (.aload_n 1, 1) := by decide +kernel
theorem dX2_isHere_10 : decode cX2_isHere 10 = .ok (.invokevirtual 99, 3) := by decide +kernel
theorem dX2_isHere_13 : decode cX2_isHere 13 = .ok (.if_icmp .eq 5, 3) := by decide +kernel
theorem dX2_isHere_16 : decode cX2_isHere 16 = .ok (.iconst 0, 1) := by decide +kernel
theorem dX2_isHere_17 : decode cX2_isHere 17 = .ok (.ireturn, 1) := by decide +kernel
theorem dX2_isHere_18 : decode cX2_isHere 18 = .ok (.iconst 0, 1) := by decide +kernel
theorem dX2_isHere_19 : decode cX2_isHere 19 = .ok (.istore_n 2, 1) := by decide +kernel
theorem dX2_isHere_20 : decode cX2_isHere 20 = .ok (.iload_n 2, 1) := by decide +kernel
theorem dX2_isHere_21 : decode cX2_isHere 21 = .ok (.aload_n 1, 1) := by decide +kernel
theorem dX2_isHere_22 : decode cX2_isHere 22 = .ok (.invokevirtual 99, 3) := by decide +kernel
theorem dX2_isHere_25 : decode cX2_isHere 25 = .ok (.if_icmp .ge 33, 3) := by decide +kernel
theorem dX2_isHere_28 : decode cX2_isHere 28 = .ok (.aload_n 0, 1) := by decide +kernel
theorem dX2_isHere_29 : decode cX2_isHere 29 = .ok (.getfield 37, 3) := by decide +kernel
theorem dX2_isHere_32 : decode cX2_isHere 32 = .ok (.getfield 83, 3) := by decide +kernel
theorem dX2_isHere_35 : decode cX2_isHere 35 = .ok (.aload_n 0, 1) := by decide +kernel
theorem dX2_isHere_36 : decode cX2_isHere 36 = .ok (.getfield 15, 3) := by decide +kernel
theorem dX2_isHere_39 : decode cX2_isHere 39 = .ok (.iload_n 2, 1) := by decide +kernel
theorem dX2_isHere_40 : decode cX2_isHere 40 = .ok (.iadd, 1) := by decide +kernel
theorem dX2_isHere_41 : decode cX2_isHere 41 = .ok (.baload, 1) := by decide +kernel
theorem dX2_isHere_42 : decode cX2_isHere 42 = .ok (.aload_n 1, 1) := by decide +kernel
theorem dX2_isHere_43 : decode cX2_isHere 43 = .ok (.iload_n 2, 1) := by decide +kernel
theorem dX2_isHere_44 : decode cX2_isHere 44 = .ok (.invokevirtual 103, 3) := by decide +kernel
theorem dX2_isHere_47 : decode cX2_isHere 47 = .ok (.if_icmp .eq 5, 3) := by decide +kernel
theorem dX2_isHere_50 : decode cX2_isHere 50 = .ok (.iconst 0, 1) := by decide +kernel
theorem dX2_isHere_51 : decode cX2_isHere 51 = .ok (.ireturn, 1) := by decide +kernel
theorem dX2_isHere_52 : decode cX2_isHere 52 = .ok (.iinc 2 1, 3) := by decide +kernel
theorem dX2_isHere_55 : decode cX2_isHere 55 = .ok (.goto (-35), 3) := by decide +kernel
theorem dX2_isHere_58 : decode cX2_isHere 58 = .ok (.iconst 1, 1) := by decide +kernel
theorem dX2_isHere_59 : decode cX2_isHere 59 = .ok (.ireturn, 1) := by decide +kernel
theorem dX2_isSign_0 : decode cX2_isSign 0 = .ok (.aload_n 0, 1) := by decide +kernel
theorem dX2_isSign_1 : decode cX2_isSign 1 = .ok (.getfield 11, 3) := by decide +kernel
theorem dX2_isSign_4 : decode cX2_isSign 4 = .ok (.iconst 3, 1) := by decide +kernel
theorem dX2_isSign_5 : decode cX2_isSign 5 = .ok (.if_icmp .ne 37, 3) := by decide +kernel
theorem dX2_isSign_8 : decode cX2_isSign 8 = .ok (.aload_n 0, 1) := by decide +kernel
theorem dX2_isSign_9 : decode cX2_isSign 9 = .ok (.getfield 15, 3) := by decide +kernel
theorem dX2_isSign_12 : decode cX2_isSign 12 = .ok (.aload_n 0, 1) := by decide +kernel
theorem dX2_isSign_13 : decode cX2_isSign 13 = .ok (.getfield 37, 3) := by decide +kernel
theorem dX2_isSign_16 : decode cX2_isSign 16 = .ok (.getfield 78, 3) := by decide +kernel
theorem dX2_isSign_19 : decode cX2_isSign 19 = .ok (.if_icmp .ge 23, 3) := by decide +kernel
theorem dX2_isSign_22 : decode cX2_isSign 22 = .ok (.aload_n 0, 1) := by decide +kernel
theorem dX2_isSign_23 : decode cX2_isSign 23 = .ok (.getfield 37, 3) := by decide +kernel
theorem dX2_isSign_26 : decode cX2_isSign 26 = .ok (.getfield 83, 3) := by decide +kernel
theorem dX2_isSign_29 : decode cX2_isSign 29 = .ok (.aload_n 0, 1) := by decide +kernel
theorem dX2_isSign_30 : decode cX2_isSign 30 = .ok (.getfield 15, 3) := by decide +kernel
theorem dX2_isSign_33 : decode cX2_isSign 33 = .ok (.baload, 1) := by decide +kernel
theorem dX2_isSign_34 : decode cX2_isSign 34 = .ok (.iload_n 1, 1) := by decide +kernel
theorem dX2_isSign_35 : decode cX2_isSign 35 = .ok (.if_icmp .ne 7, 3) := by decide +kernel
theorem dX2_isSign_38 : decode cX2_isSign 38 = .ok (.iconst 1, 1) := by decide +kernel
theorem dX2_isSign_39 : decode cX2_isSign 39 = .ok (.goto 4, 3) := by decide +kernel
theorem dX2_isSign_42 : decode cX2_isSign 42 = .ok (.iconst 0, 1) := by decide +kernel
theorem dX2_isSign_43 : decode cX2_isSign 43 = .ok (.ireturn, 1) := by decide +kernel
theorem dX2_levelHere_0 : decode cX2_levelHere 0 = .ok (.aload_n 0, 1) := by decide +kernel
theorem dX2_levelHere_1 : decode cX2_levelHere 1 = .ok (.getfield 11, 3) := by decide +kernel
theorem dX2_levelHere_4 : decode cX2_levelHere 4 = .ok (.iconst 3, 1) := by decide +kernel
theorem dX2_levelHere_5 : decode cX2_levelHere 5 = .ok (.if_icmp .ne 17, 3) := by decide +kernel
theorem dX2_levelHere_8 : decode cX2_levelHere 8 = .ok (.aload_n 0, 1) := by decide +kernel
theorem dX2_levelHere_9 : decode cX2_levelHere 9 = .ok (.getfield 15, 3) := by decide +kernel
theorem dX2_levelHere_12 : decode cX2_levelHere 12 = .ok (.aload_n 0, 1) := by decide +kernel
theorem dX2_levelHere_13 : decode cX2_levelHere 13 = .ok (.getfield 37, 3) := by decide +kernel
theorem dX2_levelHere_16 : decode cX2_levelHere 16 = .ok (.getfield 78, 3) := by decide +kernel
theorem dX2_levelHere_19 : decode cX2_levelHere 19 = .ok (.if_icmp .lt 5, 3) := by decide +kernel
theorem dX2_levelHere_22 : decode cX2_levelHere 22 = .ok (.iconst (-1), 1) := by decide +kernel
theorem dX2_levelHere_23 : decode cX2_levelHere 23 = .ok (.ireturn, 1) := by decide +kernel
theorem dX2_levelHere_24 : decode cX2_levelHere 24 = .ok (.aload_n 0, 1) := by decide +kernel
theorem dX2_levelHere_25 : decode cX2_levelHere 25 = .ok (.getfield 37, 3) := by decide +kernel
theorem dX2_levelHere_28 : decode cX2_levelHere 28 = .ok (.getfield 83, 3) := by decide +kernel
theorem dX2_levelHere_31 : decode cX2_levelHere 31 = .ok (.aload_n 0, 1) := by decide +kernel
theorem dX2_levelHere_32 : decode cX2_levelHere 32 = .ok (.getfield 15, 3) := by decide +kernel
theorem dX2_levelHere_35 : decode cX2_levelHere 35 = .ok (.baload, 1) := by decide +kernel
theorem dX2_levelHere_36 : decode cX2_levelHere 36 = .ok (.lookupswitch 94 #[(38, 86), (42, 92), (43, 90), (45, 90), (47, 92), (60, 88), (61, 88), (62, 88), (124, 84)], 84) := by decide +kernel
theorem dX2_levelHere_120 : decode cX2_levelHere 120 = .ok (.iconst 0, 1) := by decide +kernel
theorem dX2_levelHere_121 : decode cX2_levelHere 121 = .ok (.ireturn, 1) := by decide +kernel
theorem dX2_levelHere_122 : decode cX2_levelHere 122 = .ok (.iconst 1, 1) := by decide +kernel
theorem dX2_levelHere_123 : decode cX2_levelHere 123 = .ok (.ireturn, 1) := by decide +kernel
theorem dX2_levelHere_124 : decode cX2_levelHere 124 = .ok (.iconst 2, 1) := by decide +kernel
theorem dX2_levelHere_125 : decode cX2_levelHere 125 = .ok (.ireturn, 1) := by decide +kernel
theorem dX2_levelHere_126 : decode cX2_levelHere 126 = .ok (.iconst 3, 1) := by decide +kernel
theorem dX2_levelHere_127 : decode cX2_levelHere 127 = .ok (.ireturn, 1) := by decide +kernel
theorem dX2_levelHere_128 : decode cX2_levelHere 128 = .ok (.iconst 4, 1) := by decide +kernel
theorem dX2_levelHere_129 : decode cX2_levelHere 129 = .ok (.ireturn, 1) := by decide +kernel
theorem dX2_levelHere_130 : decode cX2_levelHere 130 = .ok (.iconst (-1), 1) := by decide +kernel
theorem dX2_levelHere_131 : decode cX2_levelHere 131 = .ok (.ireturn, 1) := by decide +kernel
theorem dX2_readLevel_0 : decode cX2_readLevel 0 = .ok (.iload_n 1, 1) := by decide +kernel
theorem dX2_readLevel_1 : decode cX2_readLevel 1 = .ok (.iconst 4, 1) := by decide +kernel
theorem dX2_readLevel_2 : decode cX2_readLevel 2 = .ok (.if_icmp .le 10, 3) := by decide +kernel
theorem dX2_readLevel_5 : decode cX2_readLevel 5 = .ok (.aload_n 0, 1) := by decide +kernel
theorem dX2_readLevel_6 : decode cX2_readLevel 6 = .ok (.iload_n 2, 1) := by decide +kernel
theorem dX2_readLevel_7 : decode cX2_readLevel 7 = .ok (.iload_n 3, 1) := by decide +kernel
theorem dX2_readLevel_8 : decode cX2_readLevel 8 = .ok (.invokevirtual 107, 3) := by decide +kernel
theorem dX2_readLevel_11 : decode cX2_readLevel 11 = .ok (.return_, 1) := by decide +kernel
theorem dX2_readLevel_12 : decode cX2_readLevel 12 = .ok (.aload_n 0, 1) := by decide +kernel
theorem dX2_readLevel_13 : decode cX2_readLevel 13 = .ok (.iload_n 1, 1) := by decide +kernel
theorem dX2_readLevel_14 : decode cX2_readLevel 14 = .ok (.iconst 1, 1) := by decide +kernel
theorem dX2_readLevel_15 : decode cX2_readLevel 15 = .ok (.iadd, 1) := by decide +kernel
theorem dX2_readLevel_16 : decode cX2_readLevel 16 = .ok (.iload_n 2, 1) := by decide +kernel
theorem dX2_readLevel_17 : decode cX2_readLevel 17 = .ok (.iload_n 3, 1) := by decide +kernel
theorem dX2_readLevel_18 : decode cX2_readLevel 18 = .ok (.invokevirtual 51, 3) := by decide +kernel
theorem dX2_readLevel_21 : decode cX2_readLevel 21 = .ok (.iload_n 1, 1) := by decide +kernel
theorem dX2_readLevel_22 : decode cX2_readLevel 22 = .ok (.iconst 2, 1) := by decide +kernel
theorem dX2_readLevel_23 : decode cX2_readLevel 23 = .ok (.if_icmp .ne 7, 3) := by decide +kernel
theorem dX2_readLevel_26 : decode cX2_readLevel 26 = .ok (.iconst 1, 1) := by decide +kernel
theorem dX2_readLevel_27 : decode cX2_readLevel 27 = .ok (.goto 5, 3) := by decide +kernel
theorem dX2_readLevel_30 : decode cX2_readLevel 30 = .ok (.bipush 96, 2) := by decide +kernel
theorem dX2_readLevel_32 : decode cX2_readLevel 32 = .ok (.istore 4, 2) := by decide +kernel
theorem dX2_readLevel_34 : decode cX2_readLevel 34 = .ok (.iconst 0, 1) := by decide +kernel
theorem dX2_readLevel_35 : decode cX2_readLevel 35 = .ok (.istore 5, 2) := by decide +kernel
theorem dX2_readLevel_37 : decode cX2_readLevel 37 = .ok (.iload 5, 2) := by decide +kernel
theorem dX2_readLevel_39 : decode cX2_readLevel 39 = .ok (.iload 4, 2) := by decide +kernel
theorem dX2_readLevel_41 : decode cX2_readLevel 41 = .ok (.if_icmp .ge 51, 3) := by decide +kernel
theorem dX2_readLevel_44 : decode cX2_readLevel 44 = .ok (.aload_n 0, 1) := by decide +kernel
theorem dX2_readLevel_45 : decode cX2_readLevel 45 = .ok (.invokevirtual 111, 3) := by decide +kernel
theorem dX2_readLevel_48 : decode cX2_readLevel 48 = .ok (.iload_n 1, 1) := by decide +kernel
theorem dX2_readLevel_49 : decode cX2_readLevel 49 = .ok (.if_icmp .ne 43, 3) := by decide +kernel
theorem dX2_readLevel_52 : decode cX2_readLevel 52 = .ok (.aload_n 0, 1) := by decide +kernel
theorem dX2_readLevel_53 : decode cX2_readLevel 53 = .ok (.getfield 37, 3) := by decide +kernel
theorem dX2_readLevel_56 : decode cX2_readLevel 56 = .ok (.getfield 83, 3) := by decide +kernel
theorem dX2_readLevel_59 : decode cX2_readLevel 59 = .ok (.aload_n 0, 1) := by decide +kernel
theorem dX2_readLevel_60 : decode cX2_readLevel 60 = .ok (.getfield 15, 3) := by decide +kernel
theorem dX2_readLevel_63 : decode cX2_readLevel 63 = .ok (.baload, 1) := by decide +kernel
theorem dX2_readLevel_64 : decode cX2_readLevel 64 = .ok (.istore 6, 2) := by decide +kernel
theorem dX2_readLevel_66 : decode cX2_readLevel 66 = .ok (.aload_n 0, 1) := by decide +kernel
theorem dX2_readLevel_67 : decode cX2_readLevel 67 = .ok (.invokevirtual 41, 3) := by decide +kernel
theorem dX2_readLevel_70 : decode cX2_readLevel 70 = .ok (.aload_n 0, 1) := by decide +kernel
theorem dX2_readLevel_71 : decode cX2_readLevel 71 = .ok (.iload_n 1, 1) := by decide +kernel
theorem dX2_readLevel_72 : decode cX2_readLevel 72 = .ok (.iconst 1, 1) := by decide +kernel
theorem dX2_readLevel_73 : decode cX2_readLevel 73 = .ok (.iadd, 1) := by decide +kernel
theorem dX2_readLevel_74 : decode cX2_readLevel 74 = .ok (.iload_n 2, 1) := by decide +kernel
theorem dX2_readLevel_75 : decode cX2_readLevel 75 = .ok (.iload_n 3, 1) := by decide +kernel
theorem dX2_readLevel_76 : decode cX2_readLevel 76 = .ok (.invokevirtual 51, 3) := by decide +kernel
theorem dX2_readLevel_79 : decode cX2_readLevel 79 = .ok (.aload_n 0, 1) := by decide +kernel
theorem dX2_readLevel_80 : decode cX2_readLevel 80 = .ok (.iload 6, 2) := by decide +kernel
theorem dX2_readLevel_82 : decode cX2_readLevel 82 = .ok (.ineg, 1) := by decide +kernel
theorem dX2_readLevel_83 : decode cX2_readLevel 83 = .ok (.invokevirtual 114, 3) := by decide +kernel
theorem dX2_readLevel_86 : decode cX2_readLevel 86 = .ok (.iinc 5 1, 3) := by decide +kernel
theorem dX2_readLevel_89 : decode cX2_readLevel 89 = .ok (.goto (-52), 3) := by decide +kernel
theorem dX2_readLevel_92 : decode cX2_readLevel 92 = .ok (.return_, 1) := by decide +kernel
theorem dX2_readPiece_0 : decode cX2_readPiece 0 = .ok (.aload_n 0, 1) := by decide +kernel
theorem dX2_readPiece_1 : decode cX2_readPiece 1 = .ok (.getfield 11, 3) := by decide +kernel
theorem dX2_readPiece_4 : decode cX2_readPiece 4 = .ok (.iconst 2, 1) := by decide +kernel
theorem dX2_readPiece_5 : decode cX2_readPiece 5 = .ok (.if_icmp .ne 27, 3) := by decide +kernel
theorem dX2_readPiece_8 : decode cX2_readPiece 8 = .ok (.aload_n 0, 1) := by decide +kernel
theorem dX2_readPiece_9 : decode cX2_readPiece 9 = .ok (.getfield 18, 3) := by decide +kernel
theorem dX2_readPiece_12 : decode cX2_readPiece 12 = .ok (.aload_n 0, 1) := by decide +kernel
theorem dX2_readPiece_13 : decode cX2_readPiece 13 = .ok (.getfield 15, 3) := by decide +kernel
theorem dX2_readPiece_16 : decode cX2_readPiece 16 = .ok (.isub, 1) := by decide +kernel
theorem dX2_readPiece_17 : decode cX2_readPiece 17 = .ok (.iconst 4, 1) := by decide +kernel
theorem dX2_readPiece_18 : decode cX2_readPiece 18 = .ok (.if_icmp .gt 14, 3) := by decide +kernel
theorem dX2_readPiece_21 : decode cX2_readPiece 21 = .ok (.aload_n 0, 1) := by decide +kernel
theorem dX2_readPiece_22 : decode cX2_readPiece 22 = .ok (.aload_n 0, 1) := by decide +kernel
theorem dX2_readPiece_23 : decode cX2_readPiece 23 = .ok (.invokevirtual 118, 3) := by decide +kernel
theorem dX2_readPiece_26 : decode cX2_readPiece 26 = .ok (.invokevirtual 121, 3) := by decide +kernel
theorem dX2_readPiece_29 : decode cX2_readPiece 29 = .ok (.goto 122, 3) := by decide +kernel
theorem dX2_readPiece_32 : decode cX2_readPiece 32 = .ok (.aload_n 0, 1) := by decide +kernel
theorem dX2_readPiece_33 : decode cX2_readPiece 33 = .ok (.getfield 11, 3) := by decide +kernel
theorem dX2_readPiece_36 : decode cX2_readPiece 36 = .ok (.iconst 1, 1) := by decide +kernel
theorem dX2_readPiece_37 : decode cX2_readPiece 37 = .ok (.if_icmp .ne 23, 3) := by decide +kernel
theorem dX2_readPiece_40 : decode cX2_readPiece 40 = .ok (.aload_n 0, 1) := by decide +kernel
theorem dX2_readPiece_41 : decode cX2_readPiece 41 = .ok (.invokevirtual 124, 3) := by decide +kernel
theorem dX2_readPiece_44 : decode cX2_readPiece 44 = .ok (.ifCond .lt 16, 3) := by decide +kernel
theorem dX2_readPiece_47 : decode cX2_readPiece 47 = .ok (.aload_n 0, 1) := by decide +kernel
theorem dX2_readPiece_48 : decode cX2_readPiece 48 = .ok (.iconst (-1), 1) := by decide +kernel
theorem dX2_readPiece_49 : decode cX2_readPiece 49 = .ok (.aload_n 0, 1) := by decide +kernel
theorem dX2_readPiece_50 : decode cX2_readPiece 50 = .ok (.invokevirtual 124, 3) := by decide +kernel
theorem dX2_readPiece_53 : decode cX2_readPiece 53 = .ok (.isub, 1) := by decide +kernel
theorem dX2_readPiece_54 : decode cX2_readPiece 54 = .ok (.invokevirtual 121, 3) := by decide +kernel
theorem dX2_readPiece_57 : decode cX2_readPiece 57 = .ok (.goto 94, 3) := by decide +kernel
theorem dX2_readPiece_60 : decode cX2_readPiece 60 = .ok (.aload_n 0, 1) := by decide +kernel
theorem dX2_readPiece_61 : decode cX2_readPiece 61 = .ok (.bipush 33, 2) := by decide +kernel
theorem dX2_readPiece_63 : decode cX2_readPiece 63 = .ok (.invokevirtual 127, 3) := by decide +kernel
theorem dX2_readPiece_66 : decode cX2_readPiece 66 = .ok (.ifCond .eq 30, 3) := by decide +kernel
theorem dX2_readPiece_69 : decode cX2_readPiece 69 = .ok (.iload_n 2, 1) := by decide +kernel
theorem dX2_readPiece_70 : decode cX2_readPiece 70 = .ok (.bipush 8, 2) := by decide +kernel
theorem dX2_readPiece_72 : decode cX2_readPiece 72 = .ok (.if_icmp .ge 24, 3) := by decide +kernel
theorem dX2_readPiece_75 : decode cX2_readPiece 75 = .ok (.aload_n 0, 1) := by decide +kernel
theorem dX2_readPiece_76 : decode cX2_readPiece 76 = .ok (.invokevirtual 41, 3) := by decide +kernel
theorem dX2_readPiece_79 : decode cX2_readPiece 79 = .ok (.aload_n 0, 1) := by decide +kernel
theorem dX2_readPiece_80 : decode cX2_readPiece 80 = .ok (.iload_n 1, 1) := by decide +kernel
theorem dX2_readPiece_81 : decode cX2_readPiece 81 = .ok (.iload_n 2, 1) := by decide +kernel
theorem dX2_readPiece_82 : decode cX2_readPiece 82 = .ok (.iconst 1, 1) := by decide +kernel
theorem dX2_readPiece_83 : decode cX2_readPiece 83 = .ok (.iadd, 1) := by decide +kernel
theorem dX2_readPiece_84 : decode cX2_readPiece 84 = .ok (.invokevirtual 107, 3) := by decide +kernel
theorem dX2_readPiece_87 : decode cX2_readPiece 87 = .ok (.aload_n 0, 1) := by decide +kernel
theorem dX2_readPiece_88 : decode cX2_readPiece 88 = .ok (.bipush (-33), 2) := by decide +kernel
theorem dX2_readPiece_90 : decode cX2_readPiece 90 = .ok (.invokevirtual 114, 3) := by decide +kernel
theorem dX2_readPiece_93 : decode cX2_readPiece 93 = .ok (.goto 58, 3) := by decide +kernel
theorem dX2_readPiece_96 : decode cX2_readPiece 96 = .ok (.aload_n 0, 1) := by decide +kernel
theorem dX2_readPiece_97 : decode cX2_readPiece 97 = .ok (.bipush 40, 2) := by decide +kernel
theorem dX2_readPiece_99 : decode cX2_readPiece 99 = .ok (.invokevirtual 127, 3) := by decide +kernel
theorem dX2_readPiece_102 : decode cX2_readPiece 102 = .ok (.ifCond .eq 45, 3) := by decide +kernel
theorem dX2_readPiece_105 : decode cX2_readPiece 105 = .ok (.iload_n 1, 1) := by decide +kernel
theorem dX2_readPiece_106 : decode cX2_readPiece 106 = .ok (.bipush 8, 2) := by decide +kernel
theorem dX2_readPiece_108 : decode cX2_readPiece 108 = .ok (.if_icmp .ge 39, 3) := by decide +kernel
theorem dX2_readPiece_111 : decode cX2_readPiece 111 = .ok (.aload_n 0, 1) := by decide +kernel
theorem dX2_readPiece_112 : decode cX2_readPiece 112 = .ok (.invokevirtual 41, 3) := by decide +kernel
theorem dX2_readPiece_115 : decode cX2_readPiece 115 = .ok (.aload_n 0, 1) := by decide +kernel
theorem dX2_readPiece_116 : decode cX2_readPiece 116 = .ok (.iconst 0, 1) := by decide +kernel
theorem dX2_readPiece_117 : decode cX2_readPiece 117 = .ok (.iload_n 1, 1) := by decide +kernel
theorem dX2_readPiece_118 : decode cX2_readPiece 118 = .ok (.iconst 1, 1) := by decide +kernel
theorem dX2_readPiece_119 : decode cX2_readPiece 119 = .ok (.iadd, 1) := by decide +kernel
theorem dX2_readPiece_120 : decode cX2_readPiece 120 = .ok (.iload_n 2, 1) := by decide +kernel
theorem dX2_readPiece_121 : decode cX2_readPiece 121 = .ok (.invokevirtual 51, 3) := by decide +kernel
theorem dX2_readPiece_124 : decode cX2_readPiece 124 = .ok (.aload_n 0, 1) := by decide +kernel
theorem dX2_readPiece_125 : decode cX2_readPiece 125 = .ok (.bipush 41, 2) := by decide +kernel
theorem dX2_readPiece_127 : decode cX2_readPiece 127 = .ok (.invokevirtual 127, 3) := by decide +kernel
theorem dX2_readPiece_130 : decode cX2_readPiece 130 = .ok (.ifCond .eq 10, 3) := by decide +kernel
theorem dX2_readPiece_133 : decode cX2_readPiece 133 = .ok (.aload_n 0, 1) := by decide +kernel
theorem dX2_readPiece_134 : decode cX2_readPiece 134 = .ok (.invokevirtual 41, 3) := by decide +kernel
theorem dX2_readPiece_137 : decode cX2_readPiece 137 = .ok (.goto 14, 3) := by decide +kernel
theorem dX2_readPiece_140 : decode cX2_readPiece 140 = .ok (.aload_n 0, 1) := by decide +kernel
theorem dX2_readPiece_141 : decode cX2_readPiece 141 = .ok (.invokevirtual 48, 3) := by decide +kernel
theorem dX2_readPiece_144 : decode cX2_readPiece 144 = .ok (.goto 7, 3) := by decide +kernel
theorem dX2_readPiece_147 : decode cX2_readPiece 147 = .ok (.aload_n 0, 1) := by decide +kernel
theorem dX2_readPiece_148 : decode cX2_readPiece 148 = .ok (.invokevirtual 48, 3) := by decide +kernel
theorem dX2_readPiece_151 : decode cX2_readPiece 151 = .ok (.return_, 1) := by decide +kernel
theorem dX2_readOperand_0 : decode cX2_readOperand 0 = .ok (.aload_n 0, 1) := by decide +kernel
theorem dX2_readOperand_1 : decode cX2_readOperand 1 = .ok (.iload_n 1, 1) := by decide +kernel
theorem dX2_readOperand_2 : decode cX2_readOperand 2 = .ok (.invokevirtual 114, 3) := by decide +kernel
theorem dX2_readOperand_5 : decode cX2_readOperand 5 = .ok (.aload_n 0, 1) := by decide +kernel
theorem dX2_readOperand_6 : decode cX2_readOperand 6 = .ok (.dup, 1) := by decide +kernel
theorem dX2_readOperand_7 : decode cX2_readOperand 7 = .ok (.getfield 34, 3) := by decide +kernel
theorem dX2_readOperand_10 : decode cX2_readOperand 10 = .ok (.iconst 1, 1) := by decide +kernel
theorem dX2_readOperand_11 : decode cX2_readOperand 11 = .ok (.iadd, 1) := by decide +kernel
theorem dX2_readOperand_12 : decode cX2_readOperand 12 = .ok (.putfield 34, 3) := by decide +kernel
theorem dX2_readOperand_15 : decode cX2_readOperand 15 = .ok (.aload_n 0, 1) := by decide +kernel
theorem dX2_readOperand_16 : decode cX2_readOperand 16 = .ok (.invokevirtual 41, 3) := by decide +kernel
theorem dX2_readOperand_19 : decode cX2_readOperand 19 = .ok (.return_, 1) := by decide +kernel
theorem dX2_numberHere_0 : decode cX2_numberHere 0 = .ok (.iconst 0, 1) := by decide +kernel
theorem dX2_numberHere_1 : decode cX2_numberHere 1 = .ok (.istore_n 1, 1) := by decide +kernel
theorem dX2_numberHere_2 : decode cX2_numberHere 2 = .ok (.aload_n 0, 1) := by decide +kernel
theorem dX2_numberHere_3 : decode cX2_numberHere 3 = .ok (.getfield 15, 3) := by decide +kernel
theorem dX2_numberHere_6 : decode cX2_numberHere 6 = .ok (.istore_n 2, 1) := by decide +kernel
theorem dX2_numberHere_7 : decode cX2_numberHere 7 = .ok (.iload_n 2, 1) := by decide +kernel
theorem dX2_numberHere_8 : decode cX2_numberHere 8 = .ok (.aload_n 0, 1) := by decide +kernel
theorem dX2_numberHere_9 : decode cX2_numberHere 9 = .ok (.getfield 18, 3) := by decide +kernel
theorem dX2_numberHere_12 : decode cX2_numberHere 12 = .ok (.if_icmp .ge 38, 3) := by decide +kernel
theorem dX2_numberHere_15 : decode cX2_numberHere 15 = .ok (.iload_n 2, 1) := by decide +kernel
theorem dX2_numberHere_16 : decode cX2_numberHere 16 = .ok (.aload_n 0, 1) := by decide +kernel
theorem dX2_numberHere_17 : decode cX2_numberHere 17 = .ok (.getfield 37, 3) := by decide +kernel
theorem dX2_numberHere_20 : decode cX2_numberHere 20 = .ok (.getfield 78, 3) := by decide +kernel
theorem dX2_numberHere_23 : decode cX2_numberHere 23 = .ok (.if_icmp .ge 27, 3) := by decide +kernel
theorem dX2_numberHere_26 : decode cX2_numberHere 26 = .ok (.iload_n 1, 1) := by decide +kernel
theorem dX2_numberHere_27 : decode cX2_numberHere 27 = .ok (.bipush 10, 2) := by decide +kernel
theorem dX2_numberHere_29 : decode cX2_numberHere 29 = .ok (.imul, 1) := by decide +kernel
theorem dX2_numberHere_30 : decode cX2_numberHere 30 = .ok (.aload_n 0, 1) := by decide +kernel
theorem dX2_numberHere_31 : decode cX2_numberHere 31 = .ok (.getfield 37, 3) := by decide +kernel
theorem dX2_numberHere_34 : decode cX2_numberHere 34 = .ok (.getfield 83, 3) := by decide +kernel
theorem dX2_numberHere_37 : decode cX2_numberHere 37 = .ok (.iload_n 2, 1) := by decide +kernel
theorem dX2_numberHere_38 : decode cX2_numberHere 38 = .ok (.baload, 1) := by decide +kernel
theorem dX2_numberHere_39 : decode cX2_numberHere 39 = .ok (.bipush 48, 2) := by decide +kernel
theorem dX2_numberHere_41 : decode cX2_numberHere 41 = .ok (.isub, 1) := by decide +kernel
theorem dX2_numberHere_42 : decode cX2_numberHere 42 = .ok (.iadd, 1) := by decide +kernel
theorem dX2_numberHere_43 : decode cX2_numberHere 43 = .ok (.istore_n 1, 1) := by decide +kernel
theorem dX2_numberHere_44 : decode cX2_numberHere 44 = .ok (.iinc 2 1, 3) := by decide +kernel
theorem dX2_numberHere_47 : decode cX2_numberHere 47 = .ok (.goto (-40), 3) := by decide +kernel
theorem dX2_numberHere_50 : decode cX2_numberHere 50 = .ok (.iload_n 1, 1) := by decide +kernel
theorem dX2_numberHere_51 : decode cX2_numberHere 51 = .ok (.ireturn, 1) := by decide +kernel
theorem dX2_nameHere_0 : decode cX2_nameHere 0 = .ok (.aload_n 0, 1) := by decide +kernel
theorem dX2_nameHere_1 : decode cX2_nameHere 1 = .ok (.getfield 18, 3) := by decide +kernel
theorem dX2_nameHere_4 : decode cX2_nameHere 4 = .ok (.aload_n 0, 1) := by decide +kernel
theorem dX2_nameHere_5 : decode cX2_nameHere 5 = .ok (.getfield 15, 3) := by decide +kernel
theorem dX2_nameHere_8 : decode cX2_nameHere 8 = .ok (.isub, 1) := by decide +kernel
theorem dX2_nameHere_9 : decode cX2_nameHere 9 = .ok (.iconst 1, 1) := by decide +kernel
theorem dX2_nameHere_10 : decode cX2_nameHere 10 = .ok (.if_icmp .ne 17, 3) := by decide +kernel
theorem dX2_nameHere_13 : decode cX2_nameHere 13 = .ok (.aload_n 0, 1) := by decide +kernel
theorem dX2_nameHere_14 : decode cX2_nameHere 14 = .ok (.getfield 15, 3) := by decide +kernel
theorem dX2_nameHere_17 : decode cX2_nameHere 17 = .ok (.aload_n 0, 1) := by decide +kernel
theorem dX2_nameHere_18 : decode cX2_nameHere 18 = .ok (.getfield 37, 3) := by decide +kernel
theorem dX2_nameHere_21 : decode cX2_nameHere 21 = .ok (.getfield 78, 3) := by decide +kernel
theorem dX2_nameHere_24 : decode cX2_nameHere 24 = .ok (.if_icmp .lt 5, 3) := by decide +kernel
theorem dX2_nameHere_27 : decode cX2_nameHere 27 = .ok (.iconst (-1), 1) := by decide +kernel
theorem dX2_nameHere_28 : decode cX2_nameHere 28 = .ok (.ireturn, 1) := by decide +kernel
theorem dX2_nameHere_29 : decode cX2_nameHere 29 = .ok (.aload_n 0, 1) := by decide +kernel
theorem dX2_nameHere_30 : decode cX2_nameHere 30 = .ok (.getfield 24, 3) := by decide +kernel
theorem dX2_nameHere_33 : decode cX2_nameHere 33 = .ok (.invokestatic 131, 3) := by decide +kernel
theorem dX2_nameHere_36 : decode cX2_nameHere 36 = .ok (.aload_n 0, 1) := by decide +kernel
theorem dX2_nameHere_37 : decode cX2_nameHere 37 = .ok (.getfield 37, 3) := by decide +kernel
theorem dX2_nameHere_40 : decode cX2_nameHere 40 = .ok (.getfield 83, 3) := by decide +kernel
theorem dX2_nameHere_43 : decode cX2_nameHere 43 = .ok (.aload_n 0, 1) := by decide +kernel
theorem dX2_nameHere_44 : decode cX2_nameHere 44 = .ok (.getfield 15, 3) := by decide +kernel
theorem dX2_nameHere_47 : decode cX2_nameHere 47 = .ok (.baload, 1) := by decide +kernel
theorem dX2_nameHere_48 : decode cX2_nameHere 48 = .ok (.i2c, 1) := by decide +kernel
theorem dX2_nameHere_49 : decode cX2_nameHere 49 = .ok (.invokevirtual 134, 3) := by decide +kernel
theorem dX2_nameHere_52 : decode cX2_nameHere 52 = .ok (.ireturn, 1) := by decide +kernel
theorem dX2_addStep_0 : decode cX2_addStep 0 = .ok (.aload_n 0, 1) := by decide +kernel
theorem dX2_addStep_1 : decode cX2_addStep 1 = .ok (.getfield 31, 3) := by decide +kernel
theorem dX2_addStep_4 : decode cX2_addStep 4 = .ok (.aload_n 0, 1) := by decide +kernel
theorem dX2_addStep_5 : decode cX2_addStep 5 = .ok (.getfield 27, 3) := by decide +kernel
theorem dX2_addStep_8 : decode cX2_addStep 8 = .ok (.arraylength, 1) := by decide +kernel
theorem dX2_addStep_9 : decode cX2_addStep 9 = .ok (.if_icmp .ge 23, 3) := by decide +kernel
theorem dX2_addStep_12 : decode cX2_addStep 12 = .ok (.aload_n 0, 1) := by decide +kernel
theorem dX2_addStep_13 : decode cX2_addStep 13 = .ok (.getfield 27, 3) := by decide +kernel
theorem dX2_addStep_16 : decode cX2_addStep 16 = .ok (.aload_n 0, 1) := by decide +kernel
theorem dX2_addStep_17 : decode cX2_addStep 17 = .ok (.getfield 31, 3) := by decide +kernel
theorem dX2_addStep_20 : decode cX2_addStep 20 = .ok (.iload_n 1, 1) := by decide +kernel
theorem dX2_addStep_21 : decode cX2_addStep 21 = .ok (.iastore, 1) := by decide +kernel
theorem dX2_addStep_22 : decode cX2_addStep 22 = .ok (.aload_n 0, 1) := by decide +kernel
theorem dX2_addStep_23 : decode cX2_addStep 23 = .ok (.dup, 1) := by decide +kernel
theorem dX2_addStep_24 : decode cX2_addStep 24 = .ok (.getfield 31, 3) := by decide +kernel
theorem dX2_addStep_27 : decode cX2_addStep 27 = .ok (.iconst 1, 1) := by decide +kernel
theorem dX2_addStep_28 : decode cX2_addStep 28 = .ok (.iadd, 1) := by decide +kernel
theorem dX2_addStep_29 : decode cX2_addStep 29 = .ok (.putfield 31, 3) := by decide +kernel
theorem dX2_addStep_32 : decode cX2_addStep 32 = .ok (.return_, 1) := by decide +kernel
theorem dX3_init_0 : decode cX3_init 0 = .ok (.aload_n 0, 1) := by decide +kernel
theorem dX3_init_1 : decode cX3_init 1 = .ok (.invokespecial 3, 3) := by decide +kernel
theorem dX3_init_4 : decode cX3_init 4 = .ok (.aload_n 0, 1) := by decide +kernel
theorem dX3_init_5 : decode cX3_init 5 = .ok (.iconst (-1), 1) := by decide +kernel
theorem dX3_init_6 : decode cX3_init 6 = .ok (.putfield 9, 3) := by decide +kernel
theorem dX3_init_9 : decode cX3_init 9 = .ok (.aload_n 0, 1) := by decide +kernel
theorem dX3_init_10 : decode cX3_init 10 = .ok (.iconst 0, 1) := by decide +kernel
theorem dX3_init_11 : decode cX3_init 11 = .ok (.putfield 15, 3) := by decide +kernel
theorem dX3_init_14 : decode cX3_init 14 = .ok (.aload_n 0, 1) := by decide +kernel
theorem dX3_init_15 : decode cX3_init 15 = .ok (.bipush 24, 2) := by decide +kernel
theorem dX3_init_17 : decode cX3_init 17 = .ok (.newarray .int, 2) := by decide +kernel
theorem dX3_init_19 : decode cX3_init 19 = .ok (.putfield 18, 3) := by decide +kernel
theorem dX3_init_22 : decode cX3_init 22 = .ok (.return_, 1) := by decide +kernel
theorem dX3_begin_0 : decode cX3_begin 0 = .ok (.aload_n 0, 1) := by decide +kernel
theorem dX3_begin_1 : decode cX3_begin 1 = .ok (.iload_n 1, 1) := by decide +kernel
theorem dX3_begin_2 : decode cX3_begin 2 = .ok (.putfield 9, 3) := by decide +kernel
theorem dX3_begin_5 : decode cX3_begin 5 = .ok (.aload_n 0, 1) := by decide +kernel
theorem dX3_begin_6 : decode cX3_begin 6 = .ok (.iload_n 2, 1) := by decide +kernel
theorem dX3_begin_7 : decode cX3_begin 7 = .ok (.putfield 15, 3) := by decide +kernel
theorem dX3_begin_10 : decode cX3_begin 10 = .ok (.aload_n 0, 1) := by decide +kernel
theorem dX3_begin_11 : decode cX3_begin 11 = .ok (.getfield 18, 3) := by decide +kernel
theorem dX3_begin_14 : decode cX3_begin 14 = .ok (.iconst 0, 1) := by decide +kernel
theorem dX3_begin_15 : decode cX3_begin 15 = .ok (.invokestatic 22, 3) := by decide +kernel
theorem dX3_begin_18 : decode cX3_begin 18 = .ok (.return_, 1) := by decide +kernel
theorem dX3_become_0 : decode cX3_become 0 = .ok (.aload_n 0, 1) := by decide +kernel
theorem dX3_become_1 : decode cX3_become 1 = .ok (.aload_n 1, 1) := by decide +kernel
theorem dX3_become_2 : decode cX3_become 2 = .ok (.getfield 9, 3) := by decide +kernel
theorem dX3_become_5 : decode cX3_become 5 = .ok (.putfield 9, 3) := by decide +kernel
theorem dX3_become_8 : decode cX3_become 8 = .ok (.aload_n 0, 1) := by decide +kernel
theorem dX3_become_9 : decode cX3_become 9 = .ok (.aload_n 1, 1) := by decide +kernel
theorem dX3_become_10 : decode cX3_become 10 = .ok (.getfield 15, 3) := by decide +kernel
theorem dX3_become_13 : decode cX3_become 13 = .ok (.putfield 15, 3) := by decide +kernel
theorem dX3_become_16 : decode cX3_become 16 = .ok (.aload_n 1, 1) := by decide +kernel
theorem dX3_become_17 : decode cX3_become 17 = .ok (.getfield 18, 3) := by decide +kernel
theorem dX3_become_20 : decode cX3_become 20 = .ok (.iconst 0, 1) := by decide +kernel
theorem dX3_become_21 : decode cX3_become 21 = .ok (.aload_n 0, 1) := by decide +kernel
theorem dX3_become_22 : decode cX3_become 22 = .ok (.getfield 18, 3) := by decide +kernel
theorem dX3_become_25 : decode cX3_become 25 = .ok (.iconst 0, 1) := by decide +kernel
theorem dX3_become_26 : decode cX3_become 26 = .ok (.bipush 24, 2) := by decide +kernel
theorem dX3_become_28 : decode cX3_become 28 = .ok (.invokestatic 28, 3) := by decide +kernel
theorem dX3_become_31 : decode cX3_become 31 = .ok (.return_, 1) := by decide +kernel
theorem dX3_isMissing_0 : decode cX3_isMissing 0 = .ok (.aload_n 0, 1) := by decide +kernel
theorem dX3_isMissing_1 : decode cX3_isMissing 1 = .ok (.getfield 9, 3) := by decide +kernel
theorem dX3_isMissing_4 : decode cX3_isMissing 4 = .ok (.iconst (-1), 1) := by decide +kernel
theorem dX3_isMissing_5 : decode cX3_isMissing 5 = .ok (.if_icmp .ne 7, 3) := by decide +kernel
theorem dX3_isMissing_8 : decode cX3_isMissing 8 = .ok (.iconst 1, 1) := by decide +kernel
theorem dX3_isMissing_9 : decode cX3_isMissing 9 = .ok (.goto 4, 3) := by decide +kernel
theorem dX3_isMissing_12 : decode cX3_isMissing 12 = .ok (.iconst 0, 1) := by decide +kernel
theorem dX3_isMissing_13 : decode cX3_isMissing 13 = .ok (.ireturn, 1) := by decide +kernel
theorem dX3_has_0 : decode cX3_has 0 = .ok (.iload_n 1, 1) := by decide +kernel
theorem dX3_has_1 : decode cX3_has 1 = .ok (.iconst 0, 1) := by decide +kernel
theorem dX3_has_2 : decode cX3_has 2 = .ok (.aload_n 0, 1) := by decide +kernel
theorem dX3_has_3 : decode cX3_has 3 = .ok (.getfield 15, 3) := by decide +kernel
theorem dX3_has_6 : decode cX3_has 6 = .ok (.iconst 1, 1) := by decide +kernel
theorem dX3_has_7 : decode cX3_has 7 = .ok (.isub, 1) := by decide +kernel
theorem dX3_has_8 : decode cX3_has 8 = .ok (.invokestatic 34, 3) := by decide +kernel
theorem dX3_has_11 : decode cX3_has 11 = .ok (.ireturn, 1) := by decide +kernel
theorem dX3_hasAll_0 : decode cX3_hasAll 0 = .ok (.iload_n 1, 1) := by decide +kernel
theorem dX3_hasAll_1 : decode cX3_hasAll 1 = .ok (.iconst 0, 1) := by decide +kernel
theorem dX3_hasAll_2 : decode cX3_hasAll 2 = .ok (.aload_n 0, 1) := by decide +kernel
theorem dX3_hasAll_3 : decode cX3_hasAll 3 = .ok (.getfield 15, 3) := by decide +kernel
theorem dX3_hasAll_6 : decode cX3_hasAll 6 = .ok (.invokestatic 34, 3) := by decide +kernel
theorem dX3_hasAll_9 : decode cX3_hasAll 9 = .ok (.ifCond .eq 21, 3) := by decide +kernel
theorem dX3_hasAll_12 : decode cX3_hasAll 12 = .ok (.iload_n 2, 1) := by decide +kernel
theorem dX3_hasAll_13 : decode cX3_hasAll 13 = .ok (.iconst 0, 1) := by decide +kernel
theorem dX3_hasAll_14 : decode cX3_hasAll 14 = .ok (.aload_n 0, 1) := by decide +kernel
theorem dX3_hasAll_15 : decode cX3_hasAll 15 = .ok (.getfield 15, 3) := by decide +kernel
theorem dX3_hasAll_18 : decode cX3_hasAll 18 = .ok (.iload_n 1, 1) := by decide +kernel
theorem dX3_hasAll_19 : decode cX3_hasAll 19 = .ok (.isub, 1) := by decide +kernel
theorem dX3_hasAll_20 : decode cX3_hasAll 20 = .ok (.invokestatic 34, 3) := by decide +kernel
theorem dX3_hasAll_23 : decode cX3_hasAll 23 = .ok (.ifCond .eq 7, 3) := by decide +kernel
theorem dX3_hasAll_26 : decode cX3_hasAll 26 = .ok (.iconst 1, 1) := by decide +kernel
theorem dX3_hasAll_27 : decode cX3_hasAll 27 = .ok (.goto 4, 3) := by decide +kernel
theorem dX3_hasAll_30 : decode cX3_hasAll 30 = .ok (.iconst 0, 1) := by decide +kernel
theorem dX3_hasAll_31 : decode cX3_hasAll 31 = .ok (.ireturn, 1) := by decide +kernel
theorem dX3_isNumber_0 : decode cX3_isNumber 0 = .ok (.aload_n 0, 1) := by decide +kernel
theorem dX3_isNumber_1 : decode cX3_isNumber 1 = .ok (.iload_n 1, 1) := by decide +kernel
theorem dX3_isNumber_2 : decode cX3_isNumber 2 = .ok (.invokevirtual 38, 3) := by decide +kernel
theorem dX3_isNumber_5 : decode cX3_isNumber 5 = .ok (.ifCond .eq 18, 3) := by decide +kernel
theorem dX3_isNumber_8 : decode cX3_isNumber 8 = .ok (.aload_n 0, 1) := by decide +kernel
theorem dX3_isNumber_9 : decode cX3_isNumber 9 = .ok (.getfield 18, 3) := by decide +kernel
theorem dX3_isNumber_12 : decode cX3_isNumber 12 = .ok (.iload_n 1, 1) := by decide +kernel
theorem dX3_isNumber_13 : decode cX3_isNumber 13 = .ok (.iaload, 1) := by decide +kernel
theorem dX3_isNumber_14 : decode cX3_isNumber 14 = .ok (.ldc 42, 2) := by decide +kernel
theorem dX3_isNumber_16 : decode cX3_isNumber 16 = .ok (.if_icmp .eq 7, 3) := by decide +kernel
theorem dX3_isNumber_19 : decode cX3_isNumber 19 = .ok (.iconst 1, 1) := by decide +kernel
theorem dX3_isNumber_20 : decode cX3_isNumber 20 = .ok (.goto 4, 3) := by decide +kernel
theorem dX3_isNumber_23 : decode cX3_isNumber 23 = .ok (.iconst 0, 1) := by decide +kernel
theorem dX3_isNumber_24 : decode cX3_isNumber 24 = .ok (.ireturn, 1) := by decide +kernel
theorem dX4_init_0 : decode cX4_init 0 = .ok (.aload_n 0, 1) := by decide +kernel
theorem dX4_init_1 : decode cX4_init 1 = .ok (.invokespecial 3, 3) := by decide +kernel
theorem dX4_init_4 : decode cX4_init 4 = .ok (.aload_n 0, 1) := by decide +kernel
theorem dX4_init_5 : decode cX4_init 5 = .ok (.iconst 0, 1) := by decide +kernel
theorem dX4_init_6 : decode cX4_init 6 = .ok (.putfield 9, 3) := by decide +kernel
theorem dX4_init_9 : decode cX4_init 9 = .ok (.aload_n 0, 1) := by decide +kernel
theorem dX4_init_10 : decode cX4_init 10 = .ok (.iconst 0, 1) := by decide +kernel
theorem dX4_init_11 : decode cX4_init 11 = .ok (.putfield 15, 3) := by decide +kernel
theorem dX4_init_14 : decode cX4_init 14 = .ok (.aload_n 0, 1) := by decide +kernel
theorem dX4_init_15 : decode cX4_init 15 = .ok (.iconst 0, 1) := by decide +kernel
theorem dX4_init_16 : decode cX4_init 16 = .ok (.putfield 18, 3) := by decide +kernel
theorem dX4_init_19 : decode cX4_init 19 = .ok (.aload_n 0, 1) := by decide +kernel
theorem dX4_init_20 : decode cX4_init 20 = .ok (.iconst 0, 1) := by decide +kernel
theorem dX4_init_21 : decode cX4_init 21 = .ok (.putfield 21, 3) := by decide +kernel
theorem dX4_init_24 : decode cX4_init 24 = .ok (.aload_n 0, 1) := by decide +kernel
theorem dX4_init_25 : decode cX4_init 25 = .ok (.new 24, 3) := by decide +kernel
theorem dX4_init_28 : decode cX4_init 28 = .ok (.dup, 1) := by decide +kernel
theorem dX4_init_29 : decode cX4_init 29 = .ok (.invokespecial 26, 3) := by decide +kernel
theorem dX4_init_32 : decode cX4_init 32 = .ok (.putfield 27, 3) := by decide +kernel
theorem dX4_init_35 : decode cX4_init 35 = .ok (.return_, 1) := by decide +kernel
theorem dX5_init_0 : decode cX5_init 0 = .ok (.aload_n 0, 1) := by decide +kernel
theorem dX5_init_1 : decode cX5_init 1 = .ok (.invokespecial 3, 3) := by decide +kernel
theorem dX5_init_4 : decode cX5_init 4 = .ok (.aload_n 0, 1) := by decide +kernel
theorem dX5_init_5 : decode cX5_init 5 = .ok (.bipush 8, 2) := by decide +kernel
theorem dX5_init_7 : decode cX5_init 7 = .ok (.newarray .int, 2) := by decide +kernel
theorem dX5_init_9 : decode cX5_init 9 = .ok (.putfield 9, 3) := by decide +kernel
theorem dX5_init_12 : decode cX5_init 12 = .ok (.aload_n 0, 1) := by decide +kernel
theorem dX5_init_13 : decode cX5_init 13 = .ok (.bipush 9, 2) := by decide +kernel
theorem dX5_init_15 : decode cX5_init 15 = .ok (.newarray .int, 2) := by decide +kernel
theorem dX5_init_17 : decode cX5_init 17 = .ok (.putfield 15, 3) := by decide +kernel
theorem dX5_init_20 : decode cX5_init 20 = .ok (.aload_n 0, 1) := by decide +kernel
theorem dX5_init_21 : decode cX5_init 21 = .ok (.bipush 9, 2) := by decide +kernel
theorem dX5_init_23 : decode cX5_init 23 = .ok (.newarray .int, 2) := by decide +kernel
theorem dX5_init_25 : decode cX5_init 25 = .ok (.putfield 18, 3) := by decide +kernel
theorem dX5_init_28 : decode cX5_init 28 = .ok (.aload_n 0, 1) := by decide +kernel
theorem dX5_init_29 : decode cX5_init 29 = .ok (.bipush 9, 2) := by decide +kernel
theorem dX5_init_31 : decode cX5_init 31 = .ok (.newarray .int, 2) := by decide +kernel
theorem dX5_init_33 : decode cX5_init 33 = .ok (.putfield 21, 3) := by decide +kernel
theorem dX5_init_36 : decode cX5_init 36 = .ok (.aload_n 0, 1) := by decide +kernel
theorem dX5_init_37 : decode cX5_init 37 = .ok (.bipush 9, 2) := by decide +kernel
theorem dX5_init_39 : decode cX5_init 39 = .ok (.newarray .int, 2) := by decide +kernel
theorem dX5_init_41 : decode cX5_init 41 = .ok (.putfield 24, 3) := by decide +kernel
theorem dX5_init_44 : decode cX5_init 44 = .ok (.aload_n 0, 1) := by decide +kernel
theorem dX5_init_45 : decode cX5_init 45 = .ok (.bipush 9, 2) := by decide +kernel
theorem dX5_init_47 : decode cX5_init 47 = .ok (.newarray .int, 2) := by decide +kernel
theorem dX5_init_49 : decode cX5_init 49 = .ok (.putfield 27, 3) := by decide +kernel
theorem dX5_init_52 : decode cX5_init 52 = .ok (.aload_n 0, 1) := by decide +kernel
theorem dX5_init_53 : decode cX5_init 53 = .ok (.iconst 0, 1) := by decide +kernel
theorem dX5_init_54 : decode cX5_init 54 = .ok (.putfield 30, 3) := by decide +kernel
theorem dX5_init_57 : decode cX5_init 57 = .ok (.aload_n 0, 1) := by decide +kernel
theorem dX5_init_58 : decode cX5_init 58 = .ok (.bipush 20, 2) := by decide +kernel
theorem dX5_init_60 : decode cX5_init 60 = .ok (.putfield 34, 3) := by decide +kernel
theorem dX5_init_63 : decode cX5_init 63 = .ok (.aload_n 0, 1) := by decide +kernel
theorem dX5_init_64 : decode cX5_init 64 = .ok (.iconst 0, 1) := by decide +kernel
theorem dX5_init_65 : decode cX5_init 65 = .ok (.putfield 37, 3) := by decide +kernel
theorem dX5_init_68 : decode cX5_init 68 = .ok (.aload_n 0, 1) := by decide +kernel
theorem dX5_init_69 : decode cX5_init 69 = .ok (.bipush 8, 2) := by decide +kernel
theorem dX5_init_71 : decode cX5_init 71 = .ok (.putfield 41, 3) := by decide +kernel
theorem dX5_init_74 : decode cX5_init 74 = .ok (.aload_n 0, 1) := by decide +kernel
theorem dX5_init_75 : decode cX5_init 75 = .ok (.iconst 0, 1) := by decide +kernel
theorem dX5_init_76 : decode cX5_init 76 = .ok (.putfield 44, 3) := by decide +kernel
theorem dX5_init_79 : decode cX5_init 79 = .ok (.aload_n 0, 1) := by decide +kernel
theorem dX5_init_80 : decode cX5_init 80 = .ok (.iconst 0, 1) := by decide +kernel
theorem dX5_init_81 : decode cX5_init 81 = .ok (.putfield 47, 3) := by decide +kernel
theorem dX5_init_84 : decode cX5_init 84 = .ok (.aload_n 0, 1) := by decide +kernel
theorem dX5_init_85 : decode cX5_init 85 = .ok (.iconst 1, 1) := by decide +kernel
theorem dX5_init_86 : decode cX5_init 86 = .ok (.putfield 50, 3) := by decide +kernel
theorem dX5_init_89 : decode cX5_init 89 = .ok (.aload_n 0, 1) := by decide +kernel
theorem dX5_init_90 : decode cX5_init 90 = .ok (.iconst 0, 1) := by decide +kernel
theorem dX5_init_91 : decode cX5_init 91 = .ok (.putfield 53, 3) := by decide +kernel
theorem dX5_init_94 : decode cX5_init 94 = .ok (.return_, 1) := by decide +kernel
theorem dX5_become_0 : decode cX5_become 0 = .ok (.aload_n 1, 1) := by decide +kernel
theorem dX5_become_1 : decode cX5_become 1 = .ok (.getfield 9, 3) := by decide +kernel
theorem dX5_become_4 : decode cX5_become 4 = .ok (.iconst 0, 1) := by decide +kernel
theorem dX5_become_5 : decode cX5_become 5 = .ok (.aload_n 0, 1) := by decide +kernel
theorem dX5_become_6 : decode cX5_become 6 = .ok (.getfield 9, 3) := by decide +kernel
theorem dX5_become_9 : decode cX5_become 9 = .ok (.iconst 0, 1) := by decide +kernel
theorem dX5_become_10 : decode cX5_become 10 = .ok (.bipush 8, 2) := by decide +kernel
theorem dX5_become_12 : decode cX5_become 12 = .ok (.invokestatic 56, 3) := by decide +kernel
theorem dX5_become_15 : decode cX5_become 15 = .ok (.aload_n 1, 1) := by decide +kernel
theorem dX5_become_16 : decode cX5_become 16 = .ok (.getfield 15, 3) := by decide +kernel
theorem dX5_become_19 : decode cX5_become 19 = .ok (.iconst 0, 1) := by decide +kernel
theorem dX5_become_20 : decode cX5_become 20 = .ok (.aload_n 0, 1) := by decide +kernel
theorem dX5_become_21 : decode cX5_become 21 = .ok (.getfield 15, 3) := by decide +kernel
theorem dX5_become_24 : decode cX5_become 24 = .ok (.iconst 0, 1) := by decide +kernel
theorem dX5_become_25 : decode cX5_become 25 = .ok (.bipush 9, 2) := by decide +kernel
theorem dX5_become_27 : decode cX5_become 27 = .ok (.invokestatic 56, 3) := by decide +kernel
theorem dX5_become_30 : decode cX5_become 30 = .ok (.aload_n 1, 1) := by decide +kernel
theorem dX5_become_31 : decode cX5_become 31 = .ok (.getfield 18, 3) := by decide +kernel
theorem dX5_become_34 : decode cX5_become 34 = .ok (.iconst 0, 1) := by decide +kernel
theorem dX5_become_35 : decode cX5_become 35 = .ok (.aload_n 0, 1) := by decide +kernel
theorem dX5_become_36 : decode cX5_become 36 = .ok (.getfield 18, 3) := by decide +kernel
theorem dX5_become_39 : decode cX5_become 39 = .ok (.iconst 0, 1) := by decide +kernel
theorem dX5_become_40 : decode cX5_become 40 = .ok (.bipush 9, 2) := by decide +kernel
theorem dX5_become_42 : decode cX5_become 42 = .ok (.invokestatic 56, 3) := by decide +kernel
theorem dX5_become_45 : decode cX5_become 45 = .ok (.aload_n 1, 1) := by decide +kernel
theorem dX5_become_46 : decode cX5_become 46 = .ok (.getfield 21, 3) := by decide +kernel
theorem dX5_become_49 : decode cX5_become 49 = .ok (.iconst 0, 1) := by decide +kernel
theorem dX5_become_50 : decode cX5_become 50 = .ok (.aload_n 0, 1) := by decide +kernel
theorem dX5_become_51 : decode cX5_become 51 = .ok (.getfield 21, 3) := by decide +kernel
theorem dX5_become_54 : decode cX5_become 54 = .ok (.iconst 0, 1) := by decide +kernel
theorem dX5_become_55 : decode cX5_become 55 = .ok (.bipush 9, 2) := by decide +kernel
theorem dX5_become_57 : decode cX5_become 57 = .ok (.invokestatic 56, 3) := by decide +kernel
theorem dX5_become_60 : decode cX5_become 60 = .ok (.aload_n 1, 1) := by decide +kernel
theorem dX5_become_61 : decode cX5_become 61 = .ok (.getfield 24, 3) := by decide +kernel
theorem dX5_become_64 : decode cX5_become 64 = .ok (.iconst 0, 1) := by decide +kernel
theorem dX5_become_65 : decode cX5_become 65 = .ok (.aload_n 0, 1) := by decide +kernel
theorem dX5_become_66 : decode cX5_become 66 = .ok (.getfield 24, 3) := by decide +kernel
theorem dX5_become_69 : decode cX5_become 69 = .ok (.iconst 0, 1) := by decide +kernel
theorem dX5_become_70 : decode cX5_become 70 = .ok (.bipush 9, 2) := by decide +kernel
theorem dX5_become_72 : decode cX5_become 72 = .ok (.invokestatic 56, 3) := by decide +kernel
theorem dX5_become_75 : decode cX5_become 75 = .ok (.aload_n 1, 1) := by decide +kernel
theorem dX5_become_76 : decode cX5_become 76 = .ok (.getfield 27, 3) := by decide +kernel
theorem dX5_become_79 : decode cX5_become 79 = .ok (.iconst 0, 1) := by decide +kernel
theorem dX5_become_80 : decode cX5_become 80 = .ok (.aload_n 0, 1) := by decide +kernel
theorem dX5_become_81 : decode cX5_become 81 = .ok (.getfield 27, 3) := by decide +kernel
theorem dX5_become_84 : decode cX5_become 84 = .ok (.iconst 0, 1) := by decide +kernel
theorem dX5_become_85 : decode cX5_become 85 = .ok (.bipush 9, 2) := by decide +kernel
theorem dX5_become_87 : decode cX5_become 87 = .ok (.invokestatic 56, 3) := by decide +kernel
theorem dX5_become_90 : decode cX5_become 90 = .ok (.aload_n 0, 1) := by decide +kernel
theorem dX5_become_91 : decode cX5_become 91 = .ok (.aload_n 1, 1) := by decide +kernel
theorem dX5_become_92 : decode cX5_become 92 = .ok (.getfield 30, 3) := by decide +kernel
theorem dX5_become_95 : decode cX5_become 95 = .ok (.putfield 30, 3) := by decide +kernel
theorem dX5_become_98 : decode cX5_become 98 = .ok (.aload_n 0, 1) := by decide +kernel
theorem dX5_become_99 : decode cX5_become 99 = .ok (.aload_n 1, 1) := by decide +kernel
theorem dX5_become_100 : decode cX5_become 100 = .ok (.getfield 34, 3) := by decide +kernel
theorem dX5_become_103 : decode cX5_become 103 = .ok (.putfield 34, 3) := by decide +kernel
theorem dX5_become_106 : decode cX5_become 106 = .ok (.aload_n 0, 1) := by decide +kernel
theorem dX5_become_107 : decode cX5_become 107 = .ok (.aload_n 1, 1) := by decide +kernel
theorem dX5_become_108 : decode cX5_become 108 = .ok (.getfield 37, 3) := by decide +kernel
theorem dX5_become_111 : decode cX5_become 111 = .ok (.putfield 37, 3) := by decide +kernel
theorem dX5_become_114 : decode cX5_become 114 = .ok (.aload_n 0, 1) := by decide +kernel
theorem dX5_become_115 : decode cX5_become 115 = .ok (.aload_n 1, 1) := by decide +kernel
theorem dX5_become_116 : decode cX5_become 116 = .ok (.getfield 41, 3) := by decide +kernel
theorem dX5_become_119 : decode cX5_become 119 = .ok (.putfield 41, 3) := by decide +kernel
theorem dX5_become_122 : decode cX5_become 122 = .ok (.aload_n 0, 1) := by decide +kernel
theorem dX5_become_123 : decode cX5_become 123 = .ok (.aload_n 1, 1) := by decide +kernel
theorem dX5_become_124 : decode cX5_become 124 = .ok (.getfield 44, 3) := by decide +kernel
theorem dX5_become_127 : decode cX5_become 127 = .ok (.putfield 44, 3) := by decide +kernel
theorem dX5_become_130 : decode cX5_become 130 = .ok (.aload_n 0, 1) := by decide +kernel
theorem dX5_become_131 : decode cX5_become 131 = .ok (.aload_n 1, 1) := by decide +kernel
theorem dX5_become_132 : decode cX5_become 132 = .ok (.getfield 47, 3) := by decide +kernel
theorem dX5_become_135 : decode cX5_become 135 = .ok (.putfield 47, 3) := by decide +kernel
theorem dX5_become_138 : decode cX5_become 138 = .ok (.aload_n 0, 1) := by decide +kernel
theorem dX5_become_139 : decode cX5_become 139 = .ok (.aload_n 1, 1) := by decide +kernel
theorem dX5_become_140 : decode cX5_become 140 = .ok (.getfield 50, 3) := by decide +kernel
theorem dX5_become_143 : decode cX5_become 143 = .ok (.putfield 50, 3) := by decide +kernel
theorem dX5_become_146 : decode cX5_become 146 = .ok (.aload_n 0, 1) := by decide +kernel
theorem dX5_become_147 : decode cX5_become 147 = .ok (.aload_n 1, 1) := by decide +kernel
theorem dX5_become_148 : decode cX5_become 148 = .ok (.getfield 53, 3) := by decide +kernel
theorem dX5_become_151 : decode cX5_become 151 = .ok (.putfield 53, 3) := by decide +kernel
theorem dX5_become_154 : decode cX5_become 154 = .ok (.return_, 1) := by decide +kernel
theorem dX5_add_0 : decode cX5_add 0 = .ok (.aload_n 0, 1) := by decide +kernel
theorem dX5_add_1 : decode cX5_add 1 = .ok (.getfield 30, 3) := by decide +kernel
theorem dX5_add_4 : decode cX5_add 4 = .ok (.bipush 8, 2) := by decide +kernel
theorem dX5_add_6 : decode cX5_add 6 = .ok (.invokestatic 62, 3) := by decide +kernel
theorem dX5_add_9 : decode cX5_add 9 = .ok (.istore 4, 2) := by decide +kernel
theorem dX5_add_11 : decode cX5_add 11 = .ok (.aload_n 0, 1) := by decide +kernel
theorem dX5_add_12 : decode cX5_add 12 = .ok (.getfield 15, 3) := by decide +kernel
theorem dX5_add_15 : decode cX5_add 15 = .ok (.iload 4, 2) := by decide +kernel
theorem dX5_add_17 : decode cX5_add 17 = .ok (.iload_n 1, 1) := by decide +kernel
theorem dX5_add_18 : decode cX5_add 18 = .ok (.iastore, 1) := by decide +kernel
theorem dX5_add_19 : decode cX5_add 19 = .ok (.aload_n 0, 1) := by decide +kernel
theorem dX5_add_20 : decode cX5_add 20 = .ok (.getfield 18, 3) := by decide +kernel
theorem dX5_add_23 : decode cX5_add 23 = .ok (.iload 4, 2) := by decide +kernel
theorem dX5_add_25 : decode cX5_add 25 = .ok (.iload_n 2, 1) := by decide +kernel
theorem dX5_add_26 : decode cX5_add 26 = .ok (.iastore, 1) := by decide +kernel
theorem dX5_add_27 : decode cX5_add 27 = .ok (.aload_n 0, 1) := by decide +kernel
theorem dX5_add_28 : decode cX5_add 28 = .ok (.getfield 21, 3) := by decide +kernel
theorem dX5_add_31 : decode cX5_add 31 = .ok (.iload 4, 2) := by decide +kernel
theorem dX5_add_33 : decode cX5_add 33 = .ok (.iload_n 3, 1) := by decide +kernel
theorem dX5_add_34 : decode cX5_add 34 = .ok (.iastore, 1) := by decide +kernel
theorem dX5_add_35 : decode cX5_add 35 = .ok (.aload_n 0, 1) := by decide +kernel
theorem dX5_add_36 : decode cX5_add 36 = .ok (.getfield 24, 3) := by decide +kernel
theorem dX5_add_39 : decode cX5_add 39 = .ok (.iload 4, 2) := by decide +kernel
theorem dX5_add_41 : decode cX5_add 41 = .ok (.iconst 0, 1) := by decide +kernel
theorem dX5_add_42 : decode cX5_add 42 = .ok (.iastore, 1) := by decide +kernel
theorem dX5_add_43 : decode cX5_add 43 = .ok (.aload_n 0, 1) := by decide +kernel
theorem dX5_add_44 : decode cX5_add 44 = .ok (.getfield 27, 3) := by decide +kernel
theorem dX5_add_47 : decode cX5_add 47 = .ok (.iload 4, 2) := by decide +kernel
theorem dX5_add_49 : decode cX5_add 49 = .ok (.iconst 0, 1) := by decide +kernel
theorem dX5_add_50 : decode cX5_add 50 = .ok (.iastore, 1) := by decide +kernel
theorem dX5_add_51 : decode cX5_add 51 = .ok (.aload_n 0, 1) := by decide +kernel
theorem dX5_add_52 : decode cX5_add 52 = .ok (.iload 4, 2) := by decide +kernel
theorem dX5_add_54 : decode cX5_add 54 = .ok (.iconst 1, 1) := by decide +kernel
theorem dX5_add_55 : decode cX5_add 55 = .ok (.iadd, 1) := by decide +kernel
theorem dX5_add_56 : decode cX5_add 56 = .ok (.putfield 30, 3) := by decide +kernel
theorem dX5_add_59 : decode cX5_add 59 = .ok (.iload 4, 2) := by decide +kernel
theorem dX5_add_61 : decode cX5_add 61 = .ok (.ireturn, 1) := by decide +kernel
theorem dX5_letOut_0 : decode cX5_letOut 0 = .ok (.iconst 0, 1) := by decide +kernel
theorem dX5_letOut_1 : decode cX5_letOut 1 = .ok (.istore_n 3, 1) := by decide +kernel
theorem dX5_letOut_2 : decode cX5_letOut 2 = .ok (.iload_n 3, 1) := by decide +kernel
theorem dX5_letOut_3 : decode cX5_letOut 3 = .ok (.iload_n 2, 1) := by decide +kernel
theorem dX5_letOut_4 : decode cX5_letOut 4 = .ok (.if_icmp .ge 35, 3) := by decide +kernel
theorem dX5_letOut_7 : decode cX5_letOut 7 = .ok (.iload_n 3, 1) := by decide +kernel
theorem dX5_letOut_8 : decode cX5_letOut 8 = .ok (.aload_n 0, 1) := by decide +kernel
theorem dX5_letOut_9 : decode cX5_letOut 9 = .ok (.getfield 30, 3) := by decide +kernel
theorem dX5_letOut_12 : decode cX5_letOut 12 = .ok (.if_icmp .ge 27, 3) := by decide +kernel
theorem dX5_letOut_15 : decode cX5_letOut 15 = .ok (.aload_n 0, 1) := by decide +kernel
theorem dX5_letOut_16 : decode cX5_letOut 16 = .ok (.getfield 18, 3) := by decide +kernel
theorem dX5_letOut_19 : decode cX5_letOut 19 = .ok (.iload_n 3, 1) := by decide +kernel
theorem dX5_letOut_20 : decode cX5_letOut 20 = .ok (.iload_n 1, 1) := by decide +kernel
theorem dX5_letOut_21 : decode cX5_letOut 21 = .ok (.iconst 3, 1) := by decide +kernel
theorem dX5_letOut_22 : decode cX5_letOut 22 = .ok (.iload_n 2, 1) := by decide +kernel
theorem dX5_letOut_23 : decode cX5_letOut 23 = .ok (.iconst 1, 1) := by decide +kernel
theorem dX5_letOut_24 : decode cX5_letOut 24 = .ok (.isub, 1) := by decide +kernel
theorem dX5_letOut_25 : decode cX5_letOut 25 = .ok (.iload_n 3, 1) := by decide +kernel
theorem dX5_letOut_26 : decode cX5_letOut 26 = .ok (.isub, 1) := by decide +kernel
theorem dX5_letOut_27 : decode cX5_letOut 27 = .ok (.imul, 1) := by decide +kernel
theorem dX5_letOut_28 : decode cX5_letOut 28 = .ok (.ishr, 1) := by decide +kernel
theorem dX5_letOut_29 : decode cX5_letOut 29 = .ok (.bipush 7, 2) := by decide +kernel
theorem dX5_letOut_31 : decode cX5_letOut 31 = .ok (.iand, 1) := by decide +kernel
theorem dX5_letOut_32 : decode cX5_letOut 32 = .ok (.iastore, 1) := by decide +kernel
theorem dX5_letOut_33 : decode cX5_letOut 33 = .ok (.iinc 3 1, 3) := by decide +kernel
theorem dX5_letOut_36 : decode cX5_letOut 36 = .ok (.goto (-34), 3) := by decide +kernel
theorem dX5_letOut_39 : decode cX5_letOut 39 = .ok (.return_, 1) := by decide +kernel
theorem dX5_isAgainstLaw_0 : decode cX5_isAgainstLaw 0 = .ok (.iconst 0, 1) := by decide +kernel
theorem dX5_isAgainstLaw_1 : decode cX5_isAgainstLaw 1 = .ok (.istore_n 2, 1) := by decide +kernel
theorem dX5_isAgainstLaw_2 : decode cX5_isAgainstLaw 2 = .ok (.iload_n 2, 1) := by decide +kernel
theorem dX5_isAgainstLaw_3 : decode cX5_isAgainstLaw 3 = .ok (.iload_n 1, 1) := by decide +kernel
theorem dX5_isAgainstLaw_4 : decode cX5_isAgainstLaw 4 = .ok (.if_icmp .ge 28, 3) := by decide +kernel
theorem dX5_isAgainstLaw_7 : decode cX5_isAgainstLaw 7 = .ok (.iload_n 1, 1) := by decide +kernel
theorem dX5_isAgainstLaw_8 : decode cX5_isAgainstLaw 8 = .ok (.aload_n 0, 1) := by decide +kernel
theorem dX5_isAgainstLaw_9 : decode cX5_isAgainstLaw 9 = .ok (.getfield 30, 3) := by decide +kernel
theorem dX5_isAgainstLaw_12 : decode cX5_isAgainstLaw 12 = .ok (.if_icmp .ge 20, 3) := by decide +kernel
theorem dX5_isAgainstLaw_15 : decode cX5_isAgainstLaw 15 = .ok (.aload_n 0, 1) := by decide +kernel
theorem dX5_isAgainstLaw_16 : decode cX5_isAgainstLaw 16 = .ok (.iload_n 2, 1) := by decide +kernel
theorem dX5_isAgainstLaw_17 : decode cX5_isAgainstLaw 17 = .ok (.iload_n 1, 1) := by decide +kernel
theorem dX5_isAgainstLaw_18 : decode cX5_isAgainstLaw 18 = .ok (.invokevirtual 68, 3) := by decide +kernel
theorem dX5_isAgainstLaw_21 : decode cX5_isAgainstLaw 21 = .ok (.ifCond .eq 5, 3) := by decide +kernel
theorem dX5_isAgainstLaw_24 : decode cX5_isAgainstLaw 24 = .ok (.iconst 1, 1) := by decide +kernel
theorem dX5_isAgainstLaw_25 : decode cX5_isAgainstLaw 25 = .ok (.ireturn, 1) := by decide +kernel
theorem dX5_isAgainstLaw_26 : decode cX5_isAgainstLaw 26 = .ok (.iinc 2 1, 3) := by decide +kernel
theorem dX5_isAgainstLaw_29 : decode cX5_isAgainstLaw 29 = .ok (.goto (-27), 3) := by decide +kernel
theorem dX5_isAgainstLaw_32 : decode cX5_isAgainstLaw 32 = .ok (.iconst 0, 1) := by decide +kernel
theorem dX5_isAgainstLaw_33 : decode cX5_isAgainstLaw 33 = .ok (.ireturn, 1) := by decide +kernel
theorem dX5_offends_0 : decode cX5_offends 0 = .ok (.aload_n 0, 1) := by decide +kernel
theorem dX5_offends_1 : decode cX5_offends 1 = .ok (.getfield 18, 3) := by decide +kernel
theorem dX5_offends_4 : decode cX5_offends 4 = .ok (.iload_n 1, 1) := by decide +kernel
theorem dX5_offends_5 : decode cX5_offends 5 = .ok (.iaload, 1) := by decide +kernel
theorem dX5_offends_6 : decode cX5_offends 6 = .ok (.bipush 8, 2) := by decide +kernel
theorem dX5_offends_8 : decode cX5_offends 8 = .ok (.if_icmp .eq 14, 3) := by decide +kernel
theorem dX5_offends_11 : decode cX5_offends 11 = .ok (.aload_n 0, 1) := by decide +kernel
theorem dX5_offends_12 : decode cX5_offends 12 = .ok (.getfield 18, 3) := by decide +kernel
theorem dX5_offends_15 : decode cX5_offends 15 = .ok (.iload_n 2, 1) := by decide +kernel
theorem dX5_offends_16 : decode cX5_offends 16 = .ok (.iaload, 1) := by decide +kernel
theorem dX5_offends_17 : decode cX5_offends 17 = .ok (.bipush 8, 2) := by decide +kernel
theorem dX5_offends_19 : decode cX5_offends 19 = .ok (.if_icmp .ne 5, 3) := by decide +kernel
theorem dX5_offends_22 : decode cX5_offends 22 = .ok (.iconst 0, 1) := by decide +kernel
theorem dX5_offends_23 : decode cX5_offends 23 = .ok (.ireturn, 1) := by decide +kernel
theorem dX5_offends_24 : decode cX5_offends 24 = .ok (.aload_n 0, 1) := by decide +kernel
theorem dX5_offends_25 : decode cX5_offends 25 = .ok (.getfield 18, 3) := by decide +kernel
theorem dX5_offends_28 : decode cX5_offends 28 = .ok (.iload_n 1, 1) := by decide +kernel
theorem dX5_offends_29 : decode cX5_offends 29 = .ok (.iaload, 1) := by decide +kernel
theorem dX5_offends_30 : decode cX5_offends 30 = .ok (.aload_n 0, 1) := by decide +kernel
theorem dX5_offends_31 : decode cX5_offends 31 = .ok (.getfield 18, 3) := by decide +kernel
theorem dX5_offends_34 : decode cX5_offends 34 = .ok (.iload_n 2, 1) := by decide +kernel
theorem dX5_offends_35 : decode cX5_offends 35 = .ok (.iaload, 1) := by decide +kernel
theorem dX5_offends_36 : decode cX5_offends 36 = .ok (.isub, 1) := by decide +kernel
theorem dX5_offends_37 : decode cX5_offends 37 = .ok (.invokestatic 72, 3) := by decide +kernel
theorem dX5_offends_40 : decode cX5_offends 40 = .ok (.istore_n 3, 1) := by decide +kernel
theorem dX5_offends_41 : decode cX5_offends 41 = .ok (.iload_n 3, 1) := by decide +kernel
theorem dX5_offends_42 : decode cX5_offends 42 = .ok (.ifCond .eq 23, 3) := by decide +kernel
theorem dX5_offends_45 : decode cX5_offends 45 = .ok (.iload_n 3, 1) := by decide +kernel
theorem dX5_offends_46 : decode cX5_offends 46 = .ok (.iconst 1, 1) := by decide +kernel
theorem dX5_offends_47 : decode cX5_offends 47 = .ok (.if_icmp .ne 22, 3) := by decide +kernel
theorem dX5_offends_50 : decode cX5_offends 50 = .ok (.aload_n 0, 1) := by decide +kernel
theorem dX5_offends_51 : decode cX5_offends 51 = .ok (.getfield 15, 3) := by decide +kernel
theorem dX5_offends_54 : decode cX5_offends 54 = .ok (.iload_n 1, 1) := by decide +kernel
theorem dX5_offends_55 : decode cX5_offends 55 = .ok (.iaload, 1) := by decide +kernel
theorem dX5_offends_56 : decode cX5_offends 56 = .ok (.aload_n 0, 1) := by decide +kernel
theorem dX5_offends_57 : decode cX5_offends 57 = .ok (.getfield 15, 3) := by decide +kernel
theorem dX5_offends_60 : decode cX5_offends 60 = .ok (.iload_n 2, 1) := by decide +kernel
theorem dX5_offends_61 : decode cX5_offends 61 = .ok (.iaload, 1) := by decide +kernel
theorem dX5_offends_62 : decode cX5_offends 62 = .ok (.if_icmp .ne 7, 3) := by decide +kernel
theorem dX5_offends_65 : decode cX5_offends 65 = .ok (.iconst 1, 1) := by decide +kernel
theorem dX5_offends_66 : decode cX5_offends 66 = .ok (.goto 4, 3) := by decide +kernel
theorem dX5_offends_69 : decode cX5_offends 69 = .ok (.iconst 0, 1) := by decide +kernel
theorem dX5_offends_70 : decode cX5_offends 70 = .ok (.ireturn, 1) := by decide +kernel
theorem dX5_againstLaw_0 : decode cX5_againstLaw 0 = .ok (.iconst 0, 1) := by decide +kernel
theorem dX5_againstLaw_1 : decode cX5_againstLaw 1 = .ok (.istore_n 1, 1) := by decide +kernel
theorem dX5_againstLaw_2 : decode cX5_againstLaw 2 = .ok (.iconst 0, 1) := by decide +kernel
theorem dX5_againstLaw_3 : decode cX5_againstLaw 3 = .ok (.istore_n 2, 1) := by decide +kernel
theorem dX5_againstLaw_4 : decode cX5_againstLaw 4 = .ok (.iload_n 2, 1) := by decide +kernel
theorem dX5_againstLaw_5 : decode cX5_againstLaw 5 = .ok (.aload_n 0, 1) := by decide +kernel
theorem dX5_againstLaw_6 : decode cX5_againstLaw 6 = .ok (.getfield 30, 3) := by decide +kernel
theorem dX5_againstLaw_9 : decode cX5_againstLaw 9 = .ok (.if_icmp .ge 23, 3) := by decide +kernel
theorem dX5_againstLaw_12 : decode cX5_againstLaw 12 = .ok (.aload_n 0, 1) := by decide +kernel
theorem dX5_againstLaw_13 : decode cX5_againstLaw 13 = .ok (.iload_n 2, 1) := by decide +kernel
theorem dX5_againstLaw_14 : decode cX5_againstLaw 14 = .ok (.invokevirtual 76, 3) := by decide +kernel
theorem dX5_againstLaw_17 : decode cX5_againstLaw 17 = .ok (.ifCond .eq 9, 3) := by decide +kernel
theorem dX5_againstLaw_20 : decode cX5_againstLaw 20 = .ok (.iload_n 1, 1) := by decide +kernel
theorem dX5_againstLaw_21 : decode cX5_againstLaw 21 = .ok (.iconst 1, 1) := by decide +kernel
theorem dX5_againstLaw_22 : decode cX5_againstLaw 22 = .ok (.iload_n 2, 1) := by decide +kernel
theorem dX5_againstLaw_23 : decode cX5_againstLaw 23 = .ok (.ishl, 1) := by decide +kernel
theorem dX5_againstLaw_24 : decode cX5_againstLaw 24 = .ok (.ior, 1) := by decide +kernel
theorem dX5_againstLaw_25 : decode cX5_againstLaw 25 = .ok (.istore_n 1, 1) := by decide +kernel
theorem dX5_againstLaw_26 : decode cX5_againstLaw 26 = .ok (.iinc 2 1, 3) := by decide +kernel
theorem dX5_againstLaw_29 : decode cX5_againstLaw 29 = .ok (.goto (-25), 3) := by decide +kernel
theorem dX5_againstLaw_32 : decode cX5_againstLaw 32 = .ok (.iload_n 1, 1) := by decide +kernel
theorem dX5_againstLaw_33 : decode cX5_againstLaw 33 = .ok (.ireturn, 1) := by decide +kernel
theorem dX5_taken_0 : decode cX5_taken 0 = .ok (.iconst 0, 1) := by decide +kernel
theorem dX5_taken_1 : decode cX5_taken 1 = .ok (.istore_n 1, 1) := by decide +kernel
theorem dX5_taken_2 : decode cX5_taken 2 = .ok (.iconst 0, 1) := by decide +kernel
theorem dX5_taken_3 : decode cX5_taken 3 = .ok (.istore_n 2, 1) := by decide +kernel
theorem dX5_taken_4 : decode cX5_taken 4 = .ok (.iload_n 2, 1) := by decide +kernel
theorem dX5_taken_5 : decode cX5_taken 5 = .ok (.aload_n 0, 1) := by decide +kernel
theorem dX5_taken_6 : decode cX5_taken 6 = .ok (.getfield 30, 3) := by decide +kernel
theorem dX5_taken_9 : decode cX5_taken 9 = .ok (.if_icmp .ge 31, 3) := by decide +kernel
theorem dX5_taken_12 : decode cX5_taken 12 = .ok (.aload_n 0, 1) := by decide +kernel
theorem dX5_taken_13 : decode cX5_taken 13 = .ok (.getfield 18, 3) := by decide +kernel
theorem dX5_taken_16 : decode cX5_taken 16 = .ok (.iload_n 2, 1) := by decide +kernel
theorem dX5_taken_17 : decode cX5_taken 17 = .ok (.iaload, 1) := by decide +kernel
theorem dX5_taken_18 : decode cX5_taken 18 = .ok (.bipush 8, 2) := by decide +kernel
theorem dX5_taken_20 : decode cX5_taken 20 = .ok (.if_icmp .eq 14, 3) := by decide +kernel
theorem dX5_taken_23 : decode cX5_taken 23 = .ok (.iload_n 1, 1) := by decide +kernel
theorem dX5_taken_24 : decode cX5_taken 24 = .ok (.iconst 1, 1) := by decide +kernel
theorem dX5_taken_25 : decode cX5_taken 25 = .ok (.aload_n 0, 1) := by decide +kernel
theorem dX5_taken_26 : decode cX5_taken 26 = .ok (.getfield 18, 3) := by decide +kernel
theorem dX5_taken_29 : decode cX5_taken 29 = .ok (.iload_n 2, 1) := by decide +kernel
theorem dX5_taken_30 : decode cX5_taken 30 = .ok (.iaload, 1) := by decide +kernel
theorem dX5_taken_31 : decode cX5_taken 31 = .ok (.ishl, 1) := by decide +kernel
theorem dX5_taken_32 : decode cX5_taken 32 = .ok (.ior, 1) := by decide +kernel
theorem dX5_taken_33 : decode cX5_taken 33 = .ok (.istore_n 1, 1) := by decide +kernel
theorem dX5_taken_34 : decode cX5_taken 34 = .ok (.iinc 2 1, 3) := by decide +kernel
theorem dX5_taken_37 : decode cX5_taken 37 = .ok (.goto (-33), 3) := by decide +kernel
theorem dX5_taken_40 : decode cX5_taken 40 = .ok (.iload_n 1, 1) := by decide +kernel
theorem dX5_taken_41 : decode cX5_taken 41 = .ok (.ireturn, 1) := by decide +kernel
theorem dX5_allPurses_0 : decode cX5_allPurses 0 = .ok (.iconst 0, 1) := by decide +kernel
theorem dX5_allPurses_1 : decode cX5_allPurses 1 = .ok (.istore_n 1, 1) := by decide +kernel
theorem dX5_allPurses_2 : decode cX5_allPurses 2 = .ok (.iconst 0, 1) := by decide +kernel
theorem dX5_allPurses_3 : decode cX5_allPurses 3 = .ok (.istore_n 2, 1) := by decide +kernel
theorem dX5_allPurses_4 : decode cX5_allPurses 4 = .ok (.iload_n 2, 1) := by decide +kernel
theorem dX5_allPurses_5 : decode cX5_allPurses 5 = .ok (.aload_n 0, 1) := by decide +kernel
theorem dX5_allPurses_6 : decode cX5_allPurses 6 = .ok (.getfield 30, 3) := by decide +kernel
theorem dX5_allPurses_9 : decode cX5_allPurses 9 = .ok (.if_icmp .ge 18, 3) := by decide +kernel
theorem dX5_allPurses_12 : decode cX5_allPurses 12 = .ok (.iload_n 1, 1) := by decide +kernel
theorem dX5_allPurses_13 : decode cX5_allPurses 13 = .ok (.aload_n 0, 1) := by decide +kernel
theorem dX5_allPurses_14 : decode cX5_allPurses 14 = .ok (.getfield 24, 3) := by decide +kernel
theorem dX5_allPurses_17 : decode cX5_allPurses 17 = .ok (.iload_n 2, 1) := by decide +kernel
theorem dX5_allPurses_18 : decode cX5_allPurses 18 = .ok (.iaload, 1) := by decide +kernel
theorem dX5_allPurses_19 : decode cX5_allPurses 19 = .ok (.iadd, 1) := by decide +kernel
theorem dX5_allPurses_20 : decode cX5_allPurses 20 = .ok (.istore_n 1, 1) := by decide +kernel
theorem dX5_allPurses_21 : decode cX5_allPurses 21 = .ok (.iinc 2 1, 3) := by decide +kernel
theorem dX5_allPurses_24 : decode cX5_allPurses 24 = .ok (.goto (-20), 3) := by decide +kernel
theorem dX5_allPurses_27 : decode cX5_allPurses 27 = .ok (.iload_n 1, 1) := by decide +kernel
theorem dX5_allPurses_28 : decode cX5_allPurses 28 = .ok (.ireturn, 1) := by decide +kernel
theorem dX5_allHats_0 : decode cX5_allHats 0 = .ok (.iconst 0, 1) := by decide +kernel
theorem dX5_allHats_1 : decode cX5_allHats 1 = .ok (.istore_n 1, 1) := by decide +kernel
theorem dX5_allHats_2 : decode cX5_allHats 2 = .ok (.iconst 0, 1) := by decide +kernel
theorem dX5_allHats_3 : decode cX5_allHats 3 = .ok (.istore_n 2, 1) := by decide +kernel
theorem dX5_allHats_4 : decode cX5_allHats 4 = .ok (.iload_n 2, 1) := by decide +kernel
theorem dX5_allHats_5 : decode cX5_allHats 5 = .ok (.aload_n 0, 1) := by decide +kernel
theorem dX5_allHats_6 : decode cX5_allHats 6 = .ok (.getfield 30, 3) := by decide +kernel
theorem dX5_allHats_9 : decode cX5_allHats 9 = .ok (.if_icmp .ge 18, 3) := by decide +kernel
theorem dX5_allHats_12 : decode cX5_allHats 12 = .ok (.iload_n 1, 1) := by decide +kernel
theorem dX5_allHats_13 : decode cX5_allHats 13 = .ok (.aload_n 0, 1) := by decide +kernel
theorem dX5_allHats_14 : decode cX5_allHats 14 = .ok (.getfield 27, 3) := by decide +kernel
theorem dX5_allHats_17 : decode cX5_allHats 17 = .ok (.iload_n 2, 1) := by decide +kernel
theorem dX5_allHats_18 : decode cX5_allHats 18 = .ok (.iaload, 1) := by decide +kernel
theorem dX5_allHats_19 : decode cX5_allHats 19 = .ok (.iadd, 1) := by decide +kernel
theorem dX5_allHats_20 : decode cX5_allHats 20 = .ok (.istore_n 1, 1) := by decide +kernel
theorem dX5_allHats_21 : decode cX5_allHats 21 = .ok (.iinc 2 1, 3) := by decide +kernel
theorem dX5_allHats_24 : decode cX5_allHats 24 = .ok (.goto (-20), 3) := by decide +kernel
theorem dX5_allHats_27 : decode cX5_allHats 27 = .ok (.iload_n 1, 1) := by decide +kernel
theorem dX5_allHats_28 : decode cX5_allHats 28 = .ok (.ireturn, 1) := by decide +kernel
theorem dX5_anyInDebt_0 : decode cX5_anyInDebt 0 = .ok (.iconst 0, 1) := by decide +kernel
theorem dX5_anyInDebt_1 : decode cX5_anyInDebt 1 = .ok (.istore_n 1, 1) := by decide +kernel
theorem dX5_anyInDebt_2 : decode cX5_anyInDebt 2 = .ok (.iload_n 1, 1) := by decide +kernel
theorem dX5_anyInDebt_3 : decode cX5_anyInDebt 3 = .ok (.aload_n 0, 1) := by decide +kernel
theorem dX5_anyInDebt_4 : decode cX5_anyInDebt 4 = .ok (.getfield 30, 3) := by decide +kernel
theorem dX5_anyInDebt_7 : decode cX5_anyInDebt 7 = .ok (.if_icmp .ge 20, 3) := by decide +kernel
theorem dX5_anyInDebt_10 : decode cX5_anyInDebt 10 = .ok (.aload_n 0, 1) := by decide +kernel
theorem dX5_anyInDebt_11 : decode cX5_anyInDebt 11 = .ok (.getfield 24, 3) := by decide +kernel
theorem dX5_anyInDebt_14 : decode cX5_anyInDebt 14 = .ok (.iload_n 1, 1) := by decide +kernel
theorem dX5_anyInDebt_15 : decode cX5_anyInDebt 15 = .ok (.iaload, 1) := by decide +kernel
theorem dX5_anyInDebt_16 : decode cX5_anyInDebt 16 = .ok (.ifCond .ge 5, 3) := by decide +kernel
theorem dX5_anyInDebt_19 : decode cX5_anyInDebt 19 = .ok (.iconst 1, 1) := by decide +kernel
theorem dX5_anyInDebt_20 : decode cX5_anyInDebt 20 = .ok (.ireturn, 1) := by decide +kernel
theorem dX5_anyInDebt_21 : decode cX5_anyInDebt 21 = .ok (.iinc 1 1, 3) := by decide +kernel
theorem dX5_anyInDebt_24 : decode cX5_anyInDebt 24 = .ok (.goto (-22), 3) := by decide +kernel
theorem dX5_anyInDebt_27 : decode cX5_anyInDebt 27 = .ok (.iconst 0, 1) := by decide +kernel
theorem dX5_anyInDebt_28 : decode cX5_anyInDebt 28 = .ok (.ireturn, 1) := by decide +kernel
theorem dX5_draw_0 : decode cX5_draw 0 = .ok (.aload_n 0, 1) := by decide +kernel
theorem dX5_draw_1 : decode cX5_draw 1 = .ok (.aload_n 0, 1) := by decide +kernel
theorem dX5_draw_2 : decode cX5_draw 2 = .ok (.getfield 50, 3) := by decide +kernel
theorem dX5_draw_5 : decode cX5_draw 5 = .ok (.ldc 80, 2) := by decide +kernel
theorem dX5_draw_7 : decode cX5_draw 7 = .ok (.imul, 1) := by decide +kernel
theorem dX5_draw_8 : decode cX5_draw 8 = .ok (.sipush 12345, 3) := by decide +kernel
theorem dX5_draw_11 : decode cX5_draw 11 = .ok (.iadd, 1) := by decide +kernel
theorem dX5_draw_12 : decode cX5_draw 12 = .ok (.putfield 50, 3) := by decide +kernel
theorem dX5_draw_15 : decode cX5_draw 15 = .ok (.aload_n 0, 1) := by decide +kernel
theorem dX5_draw_16 : decode cX5_draw 16 = .ok (.getfield 50, 3) := by decide +kernel
theorem dX5_draw_19 : decode cX5_draw 19 = .ok (.bipush 8, 2) := by decide +kernel
theorem dX5_draw_21 : decode cX5_draw 21 = .ok (.iushr, 1) := by decide +kernel
theorem dX5_draw_22 : decode cX5_draw 22 = .ok (.ireturn, 1) := by decide +kernel
theorem dX5_passHours_0 : decode cX5_passHours 0 = .ok (.iconst 0, 1) := by decide +kernel
theorem dX5_passHours_1 : decode cX5_passHours 1 = .ok (.istore_n 3, 1) := by decide +kernel
theorem dX5_passHours_2 : decode cX5_passHours 2 = .ok (.iload_n 3, 1) := by decide +kernel
theorem dX5_passHours_3 : decode cX5_passHours 3 = .ok (.iload_n 1, 1) := by decide +kernel
theorem dX5_passHours_4 : decode cX5_passHours 4 = .ok (.if_icmp .ge 14, 3) := by decide +kernel
theorem dX5_passHours_7 : decode cX5_passHours 7 = .ok (.aload_n 0, 1) := by decide +kernel
theorem dX5_passHours_8 : decode cX5_passHours 8 = .ok (.aload_n 2, 1) := by decide +kernel
theorem dX5_passHours_9 : decode cX5_passHours 9 = .ok (.invokevirtual 81, 3) := by decide +kernel
theorem dX5_passHours_12 : decode cX5_passHours 12 = .ok (.iinc 3 1, 3) := by decide +kernel
theorem dX5_passHours_15 : decode cX5_passHours 15 = .ok (.goto (-13), 3) := by decide +kernel
theorem dX5_passHours_18 : decode cX5_passHours 18 = .ok (.return_, 1) := by decide +kernel
theorem dX5_passHour_0 : decode cX5_passHour 0 = .ok (.aload_n 0, 1) := by decide +kernel
theorem dX5_passHour_1 : decode cX5_passHour 1 = .ok (.invokevirtual 85, 3) := by decide +kernel
theorem dX5_passHour_4 : decode cX5_passHour 4 = .ok (.bipush 100, 2) := by decide +kernel
theorem dX5_passHour_6 : decode cX5_passHour 6 = .ok (.irem, 1) := by decide +kernel
theorem dX5_passHour_7 : decode cX5_passHour 7 = .ok (.aload_n 0, 1) := by decide +kernel
theorem dX5_passHour_8 : decode cX5_passHour 8 = .ok (.getfield 34, 3) := by decide +kernel
theorem dX5_passHour_11 : decode cX5_passHour 11 = .ok (.if_icmp .ge 19, 3) := by decide +kernel
theorem dX5_passHour_14 : decode cX5_passHour 14 = .ok (.aload_n 0, 1) := by decide +kernel
theorem dX5_passHour_15 : decode cX5_passHour 15 = .ok (.aload_n 0, 1) := by decide +kernel
theorem dX5_passHour_16 : decode cX5_passHour 16 = .ok (.getfield 37, 3) := by decide +kernel
theorem dX5_passHour_19 : decode cX5_passHour 19 = .ok (.ifCond .ne 7, 3) := by decide +kernel
theorem dX5_passHour_22 : decode cX5_passHour 22 = .ok (.iconst 1, 1) := by decide +kernel
theorem dX5_passHour_23 : decode cX5_passHour 23 = .ok (.goto 4, 3) := by decide +kernel
theorem dX5_passHour_26 : decode cX5_passHour 26 = .ok (.iconst 0, 1) := by decide +kernel
theorem dX5_passHour_27 : decode cX5_passHour 27 = .ok (.putfield 37, 3) := by decide +kernel
theorem dX5_passHour_30 : decode cX5_passHour 30 = .ok (.aload_n 0, 1) := by decide +kernel
theorem dX5_passHour_31 : decode cX5_passHour 31 = .ok (.invokevirtual 89, 3) := by decide +kernel
theorem dX5_passHour_34 : decode cX5_passHour 34 = .ok (.aload_n 0, 1) := by decide +kernel
theorem dX5_passHour_35 : decode cX5_passHour 35 = .ok (.getfield 37, 3) := by decide +kernel
theorem dX5_passHour_38 : decode cX5_passHour 38 = .ok (.ifCond .eq 7, 3) := by decide +kernel
theorem dX5_passHour_41 : decode cX5_passHour 41 = .ok (.iconst 2, 1) := by decide +kernel
theorem dX5_passHour_42 : decode cX5_passHour 42 = .ok (.goto 4, 3) := by decide +kernel
theorem dX5_passHour_45 : decode cX5_passHour 45 = .ok (.iconst 3, 1) := by decide +kernel
theorem dX5_passHour_46 : decode cX5_passHour 46 = .ok (.istore_n 2, 1) := by decide +kernel
theorem dX5_passHour_47 : decode cX5_passHour 47 = .ok (.iconst 0, 1) := by decide +kernel
theorem dX5_passHour_48 : decode cX5_passHour 48 = .ok (.istore_n 3, 1) := by decide +kernel
theorem dX5_passHour_49 : decode cX5_passHour 49 = .ok (.iload_n 3, 1) := by decide +kernel
theorem dX5_passHour_50 : decode cX5_passHour 50 = .ok (.iload_n 2, 1) := by decide +kernel
theorem dX5_passHour_51 : decode cX5_passHour 51 = .ok (.if_icmp .ge 60, 3) := by decide +kernel
theorem dX5_passHour_54 : decode cX5_passHour 54 = .ok (.aload_n 0, 1) := by decide +kernel
theorem dX5_passHour_55 : decode cX5_passHour 55 = .ok (.invokevirtual 85, 3) := by decide +kernel
theorem dX5_passHour_58 : decode cX5_passHour 58 = .ok (.bipush 8, 2) := by decide +kernel
theorem dX5_passHour_60 : decode cX5_passHour 60 = .ok (.irem, 1) := by decide +kernel
theorem dX5_passHour_61 : decode cX5_passHour 61 = .ok (.istore 4, 2) := by decide +kernel
theorem dX5_passHour_63 : decode cX5_passHour 63 = .ok (.aload_n 0, 1) := by decide +kernel
theorem dX5_passHour_64 : decode cX5_passHour 64 = .ok (.invokevirtual 85, 3) := by decide +kernel
theorem dX5_passHour_67 : decode cX5_passHour 67 = .ok (.bipush 8, 2) := by decide +kernel
theorem dX5_passHour_69 : decode cX5_passHour 69 = .ok (.irem, 1) := by decide +kernel
theorem dX5_passHour_70 : decode cX5_passHour 70 = .ok (.istore 5, 2) := by decide +kernel
theorem dX5_passHour_72 : decode cX5_passHour 72 = .ok (.iconst 1, 1) := by decide +kernel
theorem dX5_passHour_73 : decode cX5_passHour 73 = .ok (.aload_n 0, 1) := by decide +kernel
theorem dX5_passHour_74 : decode cX5_passHour 74 = .ok (.invokevirtual 85, 3) := by decide +kernel
theorem dX5_passHour_77 : decode cX5_passHour 77 = .ok (.bipush 9, 2) := by decide +kernel
theorem dX5_passHour_79 : decode cX5_passHour 79 = .ok (.irem, 1) := by decide +kernel
theorem dX5_passHour_80 : decode cX5_passHour 80 = .ok (.iadd, 1) := by decide +kernel
theorem dX5_passHour_81 : decode cX5_passHour 81 = .ok (.istore 6, 2) := by decide +kernel
theorem dX5_passHour_83 : decode cX5_passHour 83 = .ok (.aload_n 0, 1) := by decide +kernel
theorem dX5_passHour_84 : decode cX5_passHour 84 = .ok (.invokevirtual 85, 3) := by decide +kernel
theorem dX5_passHour_87 : decode cX5_passHour 87 = .ok (.bipush 10, 2) := by decide +kernel
theorem dX5_passHour_89 : decode cX5_passHour 89 = .ok (.irem, 1) := by decide +kernel
theorem dX5_passHour_90 : decode cX5_passHour 90 = .ok (.istore 7, 2) := by decide +kernel
theorem dX5_passHour_92 : decode cX5_passHour 92 = .ok (.aload_n 0, 1) := by decide +kernel
theorem dX5_passHour_93 : decode cX5_passHour 93 = .ok (.iload 4, 2) := by decide +kernel
theorem dX5_passHour_95 : decode cX5_passHour 95 = .ok (.iload 5, 2) := by decide +kernel
theorem dX5_passHour_97 : decode cX5_passHour 97 = .ok (.iload 6, 2) := by decide +kernel
theorem dX5_passHour_99 : decode cX5_passHour 99 = .ok (.iload 7, 2) := by decide +kernel
theorem dX5_passHour_101 : decode cX5_passHour 101 = .ok (.aload_n 1, 1) := by decide +kernel
theorem dX5_passHour_102 : decode cX5_passHour 102 = .ok (.invokevirtual 92, 3) := by decide +kernel
theorem dX5_passHour_105 : decode cX5_passHour 105 = .ok (.iinc 3 1, 3) := by decide +kernel
theorem dX5_passHour_108 : decode cX5_passHour 108 = .ok (.goto (-59), 3) := by decide +kernel
theorem dX5_passHour_111 : decode cX5_passHour 111 = .ok (.aload_n 0, 1) := by decide +kernel
theorem dX5_passHour_112 : decode cX5_passHour 112 = .ok (.getfield 41, 3) := by decide +kernel
theorem dX5_passHour_115 : decode cX5_passHour 115 = .ok (.bipush 8, 2) := by decide +kernel
theorem dX5_passHour_117 : decode cX5_passHour 117 = .ok (.if_icmp .eq 20, 3) := by decide +kernel
theorem dX5_passHour_120 : decode cX5_passHour 120 = .ok (.aload_n 0, 1) := by decide +kernel
theorem dX5_passHour_121 : decode cX5_passHour 121 = .ok (.aload_n 0, 1) := by decide +kernel
theorem dX5_passHour_122 : decode cX5_passHour 122 = .ok (.getfield 41, 3) := by decide +kernel
theorem dX5_passHour_125 : decode cX5_passHour 125 = .ok (.aload_n 0, 1) := by decide +kernel
theorem dX5_passHour_126 : decode cX5_passHour 126 = .ok (.getfield 41, 3) := by decide +kernel
theorem dX5_passHour_129 : decode cX5_passHour 129 = .ok (.bipush 9, 2) := by decide +kernel
theorem dX5_passHour_131 : decode cX5_passHour 131 = .ok (.bipush 9, 2) := by decide +kernel
theorem dX5_passHour_133 : decode cX5_passHour 133 = .ok (.aload_n 1, 1) := by decide +kernel
theorem dX5_passHour_134 : decode cX5_passHour 134 = .ok (.invokevirtual 92, 3) := by decide +kernel
theorem dX5_passHour_137 : decode cX5_passHour 137 = .ok (.aload_n 0, 1) := by decide +kernel
theorem dX5_passHour_138 : decode cX5_passHour 138 = .ok (.dup, 1) := by decide +kernel
theorem dX5_passHour_139 : decode cX5_passHour 139 = .ok (.getfield 47, 3) := by decide +kernel
theorem dX5_passHour_142 : decode cX5_passHour 142 = .ok (.iconst 1, 1) := by decide +kernel
theorem dX5_passHour_143 : decode cX5_passHour 143 = .ok (.iadd, 1) := by decide +kernel
theorem dX5_passHour_144 : decode cX5_passHour 144 = .ok (.putfield 47, 3) := by decide +kernel
theorem dX5_passHour_147 : decode cX5_passHour 147 = .ok (.return_, 1) := by decide +kernel
theorem dX5_payRents_0 : decode cX5_payRents 0 = .ok (.iconst 0, 1) := by decide +kernel
theorem dX5_payRents_1 : decode cX5_payRents 1 = .ok (.istore_n 1, 1) := by decide +kernel
theorem dX5_payRents_2 : decode cX5_payRents 2 = .ok (.iload_n 1, 1) := by decide +kernel
theorem dX5_payRents_3 : decode cX5_payRents 3 = .ok (.aload_n 0, 1) := by decide +kernel
theorem dX5_payRents_4 : decode cX5_payRents 4 = .ok (.getfield 30, 3) := by decide +kernel
theorem dX5_payRents_7 : decode cX5_payRents 7 = .ok (.if_icmp .ge 61, 3) := by decide +kernel
theorem dX5_payRents_10 : decode cX5_payRents 10 = .ok (.aload_n 0, 1) := by decide +kernel
theorem dX5_payRents_11 : decode cX5_payRents 11 = .ok (.getfield 18, 3) := by decide +kernel
theorem dX5_payRents_14 : decode cX5_payRents 14 = .ok (.iload_n 1, 1) := by decide +kernel
theorem dX5_payRents_15 : decode cX5_payRents 15 = .ok (.iaload, 1) := by decide +kernel
theorem dX5_payRents_16 : decode cX5_payRents 16 = .ok (.invokestatic 96, 3) := by decide +kernel
theorem dX5_payRents_19 : decode cX5_payRents 19 = .ok (.ifCond .eq 43, 3) := by decide +kernel
theorem dX5_payRents_22 : decode cX5_payRents 22 = .ok (.aload_n 0, 1) := by decide +kernel
theorem dX5_payRents_23 : decode cX5_payRents 23 = .ok (.getfield 24, 3) := by decide +kernel
theorem dX5_payRents_26 : decode cX5_payRents 26 = .ok (.iload_n 1, 1) := by decide +kernel
theorem dX5_payRents_27 : decode cX5_payRents 27 = .ok (.dup2, 1) := by decide +kernel
theorem dX5_payRents_28 : decode cX5_payRents 28 = .ok (.iaload, 1) := by decide +kernel
theorem dX5_payRents_29 : decode cX5_payRents 29 = .ok (.aload_n 0, 1) := by decide +kernel
theorem dX5_payRents_30 : decode cX5_payRents 30 = .ok (.getfield 9, 3) := by decide +kernel
theorem dX5_payRents_33 : decode cX5_payRents 33 = .ok (.aload_n 0, 1) := by decide +kernel
theorem dX5_payRents_34 : decode cX5_payRents 34 = .ok (.getfield 18, 3) := by decide +kernel
theorem dX5_payRents_37 : decode cX5_payRents 37 = .ok (.iload_n 1, 1) := by decide +kernel
theorem dX5_payRents_38 : decode cX5_payRents 38 = .ok (.iaload, 1) := by decide +kernel
theorem dX5_payRents_39 : decode cX5_payRents 39 = .ok (.iaload, 1) := by decide +kernel
theorem dX5_payRents_40 : decode cX5_payRents 40 = .ok (.isub, 1) := by decide +kernel
theorem dX5_payRents_41 : decode cX5_payRents 41 = .ok (.iastore, 1) := by decide +kernel
theorem dX5_payRents_42 : decode cX5_payRents 42 = .ok (.aload_n 0, 1) := by decide +kernel
theorem dX5_payRents_43 : decode cX5_payRents 43 = .ok (.dup, 1) := by decide +kernel
theorem dX5_payRents_44 : decode cX5_payRents 44 = .ok (.getfield 44, 3) := by decide +kernel
theorem dX5_payRents_47 : decode cX5_payRents 47 = .ok (.aload_n 0, 1) := by decide +kernel
theorem dX5_payRents_48 : decode cX5_payRents 48 = .ok (.getfield 9, 3) := by decide +kernel
theorem dX5_payRents_51 : decode cX5_payRents 51 = .ok (.aload_n 0, 1) := by decide +kernel
theorem dX5_payRents_52 : decode cX5_payRents 52 = .ok (.getfield 18, 3) := by decide +kernel
theorem dX5_payRents_55 : decode cX5_payRents 55 = .ok (.iload_n 1, 1) := by decide +kernel
theorem dX5_payRents_56 : decode cX5_payRents 56 = .ok (.iaload, 1) := by decide +kernel
theorem dX5_payRents_57 : decode cX5_payRents 57 = .ok (.iaload, 1) := by decide +kernel
theorem dX5_payRents_58 : decode cX5_payRents 58 = .ok (.iadd, 1) := by decide +kernel
theorem dX5_payRents_59 : decode cX5_payRents 59 = .ok (.putfield 44, 3) := by decide +kernel
theorem dX5_payRents_62 : decode cX5_payRents 62 = .ok (.iinc 1 1, 3) := by decide +kernel
theorem dX5_payRents_65 : decode cX5_payRents 65 = .ok (.goto (-63), 3) := by decide +kernel
theorem dX5_payRents_68 : decode cX5_payRents 68 = .ok (.return_, 1) := by decide +kernel
theorem dX5_walk_0 : decode cX5_walk 0 = .ok (.bipush 9, 2) := by decide +kernel
theorem dX5_walk_2 : decode cX5_walk 2 = .ok (.istore 6, 2) := by decide +kernel
theorem dX5_walk_4 : decode cX5_walk 4 = .ok (.iload_n 1, 1) := by decide +kernel
theorem dX5_walk_5 : decode cX5_walk 5 = .ok (.iload_n 2, 1) := by decide +kernel
theorem dX5_walk_6 : decode cX5_walk 6 = .ok (.if_icmp .gt 7, 3) := by decide +kernel
theorem dX5_walk_9 : decode cX5_walk 9 = .ok (.iconst 1, 1) := by decide +kernel
theorem dX5_walk_10 : decode cX5_walk 10 = .ok (.goto 4, 3) := by decide +kernel
theorem dX5_walk_13 : decode cX5_walk 13 = .ok (.iconst (-1), 1) := by decide +kernel
theorem dX5_walk_14 : decode cX5_walk 14 = .ok (.istore 7, 2) := by decide +kernel
theorem dX5_walk_16 : decode cX5_walk 16 = .ok (.iload_n 2, 1) := by decide +kernel
theorem dX5_walk_17 : decode cX5_walk 17 = .ok (.iload_n 1, 1) := by decide +kernel
theorem dX5_walk_18 : decode cX5_walk 18 = .ok (.isub, 1) := by decide +kernel
theorem dX5_walk_19 : decode cX5_walk 19 = .ok (.invokestatic 72, 3) := by decide +kernel
theorem dX5_walk_22 : decode cX5_walk 22 = .ok (.iconst 1, 1) := by decide +kernel
theorem dX5_walk_23 : decode cX5_walk 23 = .ok (.iadd, 1) := by decide +kernel
theorem dX5_walk_24 : decode cX5_walk 24 = .ok (.istore 8, 2) := by decide +kernel
theorem dX5_walk_26 : decode cX5_walk 26 = .ok (.iconst 0, 1) := by decide +kernel
theorem dX5_walk_27 : decode cX5_walk 27 = .ok (.istore 9, 2) := by decide +kernel
theorem dX5_walk_29 : decode cX5_walk 29 = .ok (.iload 9, 2) := by decide +kernel
theorem dX5_walk_31 : decode cX5_walk 31 = .ok (.iload 8, 2) := by decide +kernel
theorem dX5_walk_33 : decode cX5_walk 33 = .ok (.if_icmp .ge 105, 3) := by decide +kernel
theorem dX5_walk_36 : decode cX5_walk 36 = .ok (.iload_n 1, 1) := by decide +kernel
theorem dX5_walk_37 : decode cX5_walk 37 = .ok (.iload 9, 2) := by decide +kernel
theorem dX5_walk_39 : decode cX5_walk 39 = .ok (.iload 7, 2) := by decide +kernel
theorem dX5_walk_41 : decode cX5_walk 41 = .ok (.imul, 1) := by decide +kernel
theorem dX5_walk_42 : decode cX5_walk 42 = .ok (.iadd, 1) := by decide +kernel
theorem dX5_walk_43 : decode cX5_walk 43 = .ok (.istore 10, 2) := by decide +kernel
theorem dX5_walk_45 : decode cX5_walk 45 = .ok (.iconst 0, 1) := by decide +kernel
theorem dX5_walk_46 : decode cX5_walk 46 = .ok (.istore 11, 2) := by decide +kernel
theorem dX5_walk_48 : decode cX5_walk 48 = .ok (.iload 11, 2) := by decide +kernel
theorem dX5_walk_50 : decode cX5_walk 50 = .ok (.aload_n 0, 1) := by decide +kernel
theorem dX5_walk_51 : decode cX5_walk 51 = .ok (.getfield 30, 3) := by decide +kernel
theorem dX5_walk_54 : decode cX5_walk 54 = .ok (.if_icmp .ge 78, 3) := by decide +kernel
theorem dX5_walk_57 : decode cX5_walk 57 = .ok (.aload_n 0, 1) := by decide +kernel
theorem dX5_walk_58 : decode cX5_walk 58 = .ok (.getfield 18, 3) := by decide +kernel
theorem dX5_walk_61 : decode cX5_walk 61 = .ok (.iload 11, 2) := by decide +kernel
theorem dX5_walk_63 : decode cX5_walk 63 = .ok (.iaload, 1) := by decide +kernel
theorem dX5_walk_64 : decode cX5_walk 64 = .ok (.iload 10, 2) := by decide +kernel
theorem dX5_walk_66 : decode cX5_walk 66 = .ok (.if_icmp .ne 19, 3) := by decide +kernel
theorem dX5_walk_69 : decode cX5_walk 69 = .ok (.aload_n 0, 1) := by decide +kernel
theorem dX5_walk_70 : decode cX5_walk 70 = .ok (.iload 11, 2) := by decide +kernel
theorem dX5_walk_72 : decode cX5_walk 72 = .ok (.iload_n 3, 1) := by decide +kernel
theorem dX5_walk_73 : decode cX5_walk 73 = .ok (.iload 4, 2) := by decide +kernel
theorem dX5_walk_75 : decode cX5_walk 75 = .ok (.iload 6, 2) := by decide +kernel
theorem dX5_walk_77 : decode cX5_walk 77 = .ok (.aload 5, 2) := by decide +kernel
theorem dX5_walk_79 : decode cX5_walk 79 = .ok (.invokevirtual 99, 3) := by decide +kernel
theorem dX5_walk_82 : decode cX5_walk 82 = .ok (.goto 4, 3) := by decide +kernel
theorem dX5_walk_85 : decode cX5_walk 85 = .ok (.iconst 0, 1) := by decide +kernel
theorem dX5_walk_86 : decode cX5_walk 86 = .ok (.istore 12, 2) := by decide +kernel
theorem dX5_walk_88 : decode cX5_walk 88 = .ok (.iload 12, 2) := by decide +kernel
theorem dX5_walk_90 : decode cX5_walk 90 = .ok (.ifCond .le 36, 3) := by decide +kernel
theorem dX5_walk_93 : decode cX5_walk 93 = .ok (.aload_n 0, 1) := by decide +kernel
theorem dX5_walk_94 : decode cX5_walk 94 = .ok (.getfield 24, 3) := by decide +kernel
theorem dX5_walk_97 : decode cX5_walk 97 = .ok (.iload 11, 2) := by decide +kernel
theorem dX5_walk_99 : decode cX5_walk 99 = .ok (.dup2, 1) := by decide +kernel
theorem dX5_walk_100 : decode cX5_walk 100 = .ok (.iaload, 1) := by decide +kernel
theorem dX5_walk_101 : decode cX5_walk 101 = .ok (.iload 12, 2) := by decide +kernel
theorem dX5_walk_103 : decode cX5_walk 103 = .ok (.iadd, 1) := by decide +kernel
theorem dX5_walk_104 : decode cX5_walk 104 = .ok (.iastore, 1) := by decide +kernel
theorem dX5_walk_105 : decode cX5_walk 105 = .ok (.aload_n 0, 1) := by decide +kernel
theorem dX5_walk_106 : decode cX5_walk 106 = .ok (.getfield 27, 3) := by decide +kernel
theorem dX5_walk_109 : decode cX5_walk 109 = .ok (.iload 11, 2) := by decide +kernel
theorem dX5_walk_111 : decode cX5_walk 111 = .ok (.dup2, 1) := by decide +kernel
theorem dX5_walk_112 : decode cX5_walk 112 = .ok (.iaload, 1) := by decide +kernel
theorem dX5_walk_113 : decode cX5_walk 113 = .ok (.iconst 1, 1) := by decide +kernel
theorem dX5_walk_114 : decode cX5_walk 114 = .ok (.iadd, 1) := by decide +kernel
theorem dX5_walk_115 : decode cX5_walk 115 = .ok (.iastore, 1) := by decide +kernel
theorem dX5_walk_116 : decode cX5_walk 116 = .ok (.iload 6, 2) := by decide +kernel
theorem dX5_walk_118 : decode cX5_walk 118 = .ok (.iconst 3, 1) := by decide +kernel
theorem dX5_walk_119 : decode cX5_walk 119 = .ok (.isub, 1) := by decide +kernel
theorem dX5_walk_120 : decode cX5_walk 120 = .ok (.iconst 0, 1) := by decide +kernel
theorem dX5_walk_121 : decode cX5_walk 121 = .ok (.invokestatic 103, 3) := by decide +kernel
theorem dX5_walk_124 : decode cX5_walk 124 = .ok (.istore 6, 2) := by decide +kernel
theorem dX5_walk_126 : decode cX5_walk 126 = .ok (.iinc 11 1, 3) := by decide +kernel
theorem dX5_walk_129 : decode cX5_walk 129 = .ok (.goto (-81), 3) := by decide +kernel
theorem dX5_walk_132 : decode cX5_walk 132 = .ok (.iinc 9 1, 3) := by decide +kernel
theorem dX5_walk_135 : decode cX5_walk 135 = .ok (.goto (-106), 3) := by decide +kernel
theorem dX5_walk_138 : decode cX5_walk 138 = .ok (.return_, 1) := by decide +kernel
theorem dX5_giftTo_0 : decode cX5_giftTo 0 = .ok (.aload_n 0, 1) := by decide +kernel
theorem dX5_giftTo_1 : decode cX5_giftTo 1 = .ok (.getfield 15, 3) := by decide +kernel
theorem dX5_giftTo_4 : decode cX5_giftTo 4 = .ok (.iload_n 1, 1) := by decide +kernel
theorem dX5_giftTo_5 : decode cX5_giftTo 5 = .ok (.iaload, 1) := by decide +kernel
theorem dX5_giftTo_6 : decode cX5_giftTo 6 = .ok (.aload 5, 2) := by decide +kernel
theorem dX5_giftTo_8 : decode cX5_giftTo 8 = .ok (.iload_n 2, 1) := by decide +kernel
theorem dX5_giftTo_9 : decode cX5_giftTo 9 = .ok (.iload 4, 2) := by decide +kernel
theorem dX5_giftTo_11 : decode cX5_giftTo 11 = .ok (.aload_n 0, 1) := by decide +kernel
theorem dX5_giftTo_12 : decode cX5_giftTo 12 = .ok (.getfield 21, 3) := by decide +kernel
theorem dX5_giftTo_15 : decode cX5_giftTo 15 = .ok (.iload_n 1, 1) := by decide +kernel
theorem dX5_giftTo_16 : decode cX5_giftTo 16 = .ok (.iaload, 1) := by decide +kernel
theorem dX5_giftTo_17 : decode cX5_giftTo 17 = .ok (.invokevirtual 106, 3) := by decide +kernel
theorem dX5_giftTo_20 : decode cX5_giftTo 20 = .ok (.iload_n 3, 1) := by decide +kernel
theorem dX5_giftTo_21 : decode cX5_giftTo 21 = .ok (.iload 4, 2) := by decide +kernel
theorem dX5_giftTo_23 : decode cX5_giftTo 23 = .ok (.aload_n 0, 1) := by decide +kernel
theorem dX5_giftTo_24 : decode cX5_giftTo 24 = .ok (.getfield 37, 3) := by decide +kernel
theorem dX5_giftTo_27 : decode cX5_giftTo 27 = .ok (.invokestatic 112, 3) := by decide +kernel
theorem dX5_giftTo_30 : decode cX5_giftTo 30 = .ok (.ireturn, 1) := by decide +kernel
theorem dX6_init_0 : decode cX6_init 0 = .ok (.aload_n 0, 1) := by decide +kernel
theorem dX6_init_1 : decode cX6_init 1 = .ok (.invokespecial 3, 3) := by decide +kernel
theorem dX6_init_4 : decode cX6_init 4 = .ok (.aload_n 0, 1) := by decide +kernel
theorem dX6_init_5 : decode cX6_init 5 = .ok (.bipush 96, 2) := by decide +kernel
theorem dX6_init_7 : decode cX6_init 7 = .ok (.newarray .byte, 2) := by decide +kernel
theorem dX6_init_9 : decode cX6_init 9 = .ok (.putfield 9, 3) := by decide +kernel
theorem dX6_init_12 : decode cX6_init 12 = .ok (.aload_n 0, 1) := by decide +kernel
theorem dX6_init_13 : decode cX6_init 13 = .ok (.iconst 0, 1) := by decide +kernel
theorem dX6_init_14 : decode cX6_init 14 = .ok (.putfield 15, 3) := by decide +kernel
theorem dX6_init_17 : decode cX6_init 17 = .ok (.return_, 1) := by decide +kernel
theorem dX6_add_0 : decode cX6_add 0 = .ok (.bipush 24, 2) := by decide +kernel
theorem dX6_add_2 : decode cX6_add 2 = .ok (.istore_n 2, 1) := by decide +kernel
theorem dX6_add_3 : decode cX6_add 3 = .ok (.iload_n 2, 1) := by decide +kernel
theorem dX6_add_4 : decode cX6_add 4 = .ok (.ifCond .lt 41, 3) := by decide +kernel
theorem dX6_add_7 : decode cX6_add 7 = .ok (.aload_n 0, 1) := by decide +kernel
theorem dX6_add_8 : decode cX6_add 8 = .ok (.getfield 15, 3) := by decide +kernel
theorem dX6_add_11 : decode cX6_add 11 = .ok (.bipush 96, 2) := by decide +kernel
theorem dX6_add_13 : decode cX6_add 13 = .ok (.if_icmp .ge 32, 3) := by decide +kernel
theorem dX6_add_16 : decode cX6_add 16 = .ok (.aload_n 0, 1) := by decide +kernel
theorem dX6_add_17 : decode cX6_add 17 = .ok (.getfield 9, 3) := by decide +kernel
theorem dX6_add_20 : decode cX6_add 20 = .ok (.aload_n 0, 1) := by decide +kernel
theorem dX6_add_21 : decode cX6_add 21 = .ok (.getfield 15, 3) := by decide +kernel
theorem dX6_add_24 : decode cX6_add 24 = .ok (.iload_n 1, 1) := by decide +kernel
theorem dX6_add_25 : decode cX6_add 25 = .ok (.iload_n 2, 1) := by decide +kernel
theorem dX6_add_26 : decode cX6_add 26 = .ok (.ishr, 1) := by decide +kernel
theorem dX6_add_27 : decode cX6_add 27 = .ok (.i2b, 1) := by decide +kernel
theorem dX6_add_28 : decode cX6_add 28 = .ok (.bastore, 1) := by decide +kernel
theorem dX6_add_29 : decode cX6_add 29 = .ok (.aload_n 0, 1) := by decide +kernel
theorem dX6_add_30 : decode cX6_add 30 = .ok (.dup, 1) := by decide +kernel
theorem dX6_add_31 : decode cX6_add 31 = .ok (.getfield 15, 3) := by decide +kernel
theorem dX6_add_34 : decode cX6_add 34 = .ok (.iconst 1, 1) := by decide +kernel
theorem dX6_add_35 : decode cX6_add 35 = .ok (.iadd, 1) := by decide +kernel
theorem dX6_add_36 : decode cX6_add 36 = .ok (.putfield 15, 3) := by decide +kernel
theorem dX6_add_39 : decode cX6_add 39 = .ok (.iinc 2 (-8), 3) := by decide +kernel
theorem dX6_add_42 : decode cX6_add 42 = .ok (.goto (-39), 3) := by decide +kernel
theorem dX6_add_45 : decode cX6_add 45 = .ok (.return_, 1) := by decide +kernel
theorem dX7_init_0 : decode cX7_init 0 = .ok (.aload_n 0, 1) := by decide +kernel
theorem dX7_init_1 : decode cX7_init 1 = .ok (.invokespecial 1, 3) := by decide +kernel
theorem dX7_init_4 : decode cX7_init 4 = .ok (.aload_n 0, 1) := by decide +kernel
theorem dX7_init_5 : decode cX7_init 5 = .ok (.iload_n 1, 1) := by decide +kernel
theorem dX7_init_6 : decode cX7_init 6 = .ok (.putfield 7, 3) := by decide +kernel
theorem dX7_init_9 : decode cX7_init 9 = .ok (.aload_n 0, 1) := by decide +kernel
theorem dX7_init_10 : decode cX7_init 10 = .ok (.iload_n 2, 1) := by decide +kernel
theorem dX7_init_11 : decode cX7_init 11 = .ok (.putfield 13, 3) := by decide +kernel
theorem dX7_init_14 : decode cX7_init 14 = .ok (.aload_n 0, 1) := by decide +kernel
theorem dX7_init_15 : decode cX7_init 15 = .ok (.aload_n 3, 1) := by decide +kernel
theorem dX7_init_16 : decode cX7_init 16 = .ok (.putfield 16, 3) := by decide +kernel
theorem dX7_init_19 : decode cX7_init 19 = .ok (.aload_n 0, 1) := by decide +kernel
theorem dX7_init_20 : decode cX7_init 20 = .ok (.iload_n 2, 1) := by decide +kernel
theorem dX7_init_21 : decode cX7_init 21 = .ok (.iconst 1, 1) := by decide +kernel
theorem dX7_init_22 : decode cX7_init 22 = .ok (.invokestatic 20, 3) := by decide +kernel
theorem dX7_init_25 : decode cX7_init 25 = .ok (.newarray .int, 2) := by decide +kernel
theorem dX7_init_27 : decode cX7_init 27 = .ok (.putfield 26, 3) := by decide +kernel
theorem dX7_init_30 : decode cX7_init 30 = .ok (.return_, 1) := by decide +kernel
theorem dX7_gives_0 : decode cX7_gives 0 = .ok (.iconst 0, 1) := by decide +kernel
theorem dX7_gives_1 : decode cX7_gives 1 = .ok (.istore 4, 2) := by decide +kernel
theorem dX7_gives_3 : decode cX7_gives 3 = .ok (.iconst 0, 1) := by decide +kernel
theorem dX7_gives_4 : decode cX7_gives 4 = .ok (.istore 5, 2) := by decide +kernel
theorem dX7_gives_6 : decode cX7_gives 6 = .ok (.iload 5, 2) := by decide +kernel
theorem dX7_gives_8 : decode cX7_gives 8 = .ok (.aload_n 0, 1) := by decide +kernel
theorem dX7_gives_9 : decode cX7_gives 9 = .ok (.getfield 16, 3) := by decide +kernel
theorem dX7_gives_12 : decode cX7_gives 12 = .ok (.arraylength, 1) := by decide +kernel
theorem dX7_gives_13 : decode cX7_gives 13 = .ok (.if_icmp .ge 161, 3) := by decide +kernel
theorem dX7_gives_16 : decode cX7_gives 16 = .ok (.aload_n 0, 1) := by decide +kernel
theorem dX7_gives_17 : decode cX7_gives 17 = .ok (.getfield 16, 3) := by decide +kernel
theorem dX7_gives_20 : decode cX7_gives 20 = .ok (.iload 5, 2) := by decide +kernel
theorem dX7_gives_22 : decode cX7_gives 22 = .ok (.iaload, 1) := by decide +kernel
theorem dX7_gives_23 : decode cX7_gives 23 = .ok (.istore 6, 2) := by decide +kernel
theorem dX7_gives_25 : decode cX7_gives 25 = .ok (.iload 6, 2) := by decide +kernel
theorem dX7_gives_27 : decode cX7_gives 27 = .ok (.bipush (-3), 2) := by decide +kernel
theorem dX7_gives_29 : decode cX7_gives 29 = .ok (.if_icmp .lt 58, 3) := by decide +kernel
theorem dX7_gives_32 : decode cX7_gives 32 = .ok (.iload 4, 2) := by decide +kernel
theorem dX7_gives_34 : decode cX7_gives 34 = .ok (.aload_n 0, 1) := by decide +kernel
theorem dX7_gives_35 : decode cX7_gives 35 = .ok (.getfield 26, 3) := by decide +kernel
theorem dX7_gives_38 : decode cX7_gives 38 = .ok (.arraylength, 1) := by decide +kernel
theorem dX7_gives_39 : decode cX7_gives 39 = .ok (.if_icmp .ge 129, 3) := by decide +kernel
theorem dX7_gives_42 : decode cX7_gives 42 = .ok (.aload_n 0, 1) := by decide +kernel
theorem dX7_gives_43 : decode cX7_gives 43 = .ok (.getfield 26, 3) := by decide +kernel
theorem dX7_gives_46 : decode cX7_gives 46 = .ok (.iload 4, 2) := by decide +kernel
theorem dX7_gives_48 : decode cX7_gives 48 = .ok (.iload 6, 2) := by decide +kernel
theorem dX7_gives_50 : decode cX7_gives 50 = .ok (.ifCond .lt 8, 3) := by decide +kernel
theorem dX7_gives_53 : decode cX7_gives 53 = .ok (.iload 6, 2) := by decide +kernel
theorem dX7_gives_55 : decode cX7_gives 55 = .ok (.goto 25, 3) := by decide +kernel
theorem dX7_gives_58 : decode cX7_gives 58 = .ok (.iload 6, 2) := by decide +kernel
theorem dX7_gives_60 : decode cX7_gives 60 = .ok (.iconst (-1), 1) := by decide +kernel
theorem dX7_gives_61 : decode cX7_gives 61 = .ok (.if_icmp .ne 7, 3) := by decide +kernel
theorem dX7_gives_64 : decode cX7_gives 64 = .ok (.iload_n 1, 1) := by decide +kernel
theorem dX7_gives_65 : decode cX7_gives 65 = .ok (.goto 15, 3) := by decide +kernel
theorem dX7_gives_68 : decode cX7_gives 68 = .ok (.iload 6, 2) := by decide +kernel
theorem dX7_gives_70 : decode cX7_gives 70 = .ok (.bipush (-2), 2) := by decide +kernel
theorem dX7_gives_72 : decode cX7_gives 72 = .ok (.if_icmp .ne 7, 3) := by decide +kernel
theorem dX7_gives_75 : decode cX7_gives 75 = .ok (.iload_n 2, 1) := by decide +kernel
theorem dX7_gives_76 : decode cX7_gives 76 = .ok (.goto 4, 3) := by decide +kernel
theorem dX7_gives_79 : decode cX7_gives 79 = .ok (.iload_n 3, 1) := by decide +kernel
theorem dX7_gives_80 : decode cX7_gives 80 = .ok (.iastore, 1) := by decide +kernel
theorem dX7_gives_81 : decode cX7_gives 81 = .ok (.iinc 4 1, 3) := by decide +kernel
theorem dX7_gives_84 : decode cX7_gives 84 = .ok (.goto 84, 3) := by decide +kernel
theorem dX7_gives_87 : decode cX7_gives 87 = .ok (.iload 6, 2) := by decide +kernel
theorem dX7_gives_89 : decode cX7_gives 89 = .ok (.bipush (-33), 2) := by decide +kernel
theorem dX7_gives_91 : decode cX7_gives 91 = .ok (.if_icmp .ne 37, 3) := by decide +kernel
theorem dX7_gives_94 : decode cX7_gives 94 = .ok (.iload 4, 2) := by decide +kernel
theorem dX7_gives_96 : decode cX7_gives 96 = .ok (.ifCond .le 72, 3) := by decide +kernel
theorem dX7_gives_99 : decode cX7_gives 99 = .ok (.aload_n 0, 1) := by decide +kernel
theorem dX7_gives_100 : decode cX7_gives 100 = .ok (.getfield 26, 3) := by decide +kernel
theorem dX7_gives_103 : decode cX7_gives 103 = .ok (.iload 4, 2) := by decide +kernel
theorem dX7_gives_105 : decode cX7_gives 105 = .ok (.iconst 1, 1) := by decide +kernel
theorem dX7_gives_106 : decode cX7_gives 106 = .ok (.isub, 1) := by decide +kernel
theorem dX7_gives_107 : decode cX7_gives 107 = .ok (.aload_n 0, 1) := by decide +kernel
theorem dX7_gives_108 : decode cX7_gives 108 = .ok (.getfield 26, 3) := by decide +kernel
theorem dX7_gives_111 : decode cX7_gives 111 = .ok (.iload 4, 2) := by decide +kernel
theorem dX7_gives_113 : decode cX7_gives 113 = .ok (.iconst 1, 1) := by decide +kernel
theorem dX7_gives_114 : decode cX7_gives 114 = .ok (.isub, 1) := by decide +kernel
theorem dX7_gives_115 : decode cX7_gives 115 = .ok (.iaload, 1) := by decide +kernel
theorem dX7_gives_116 : decode cX7_gives 116 = .ok (.ifCond .ne 7, 3) := by decide +kernel
theorem dX7_gives_119 : decode cX7_gives 119 = .ok (.iconst 1, 1) := by decide +kernel
theorem dX7_gives_120 : decode cX7_gives 120 = .ok (.goto 4, 3) := by decide +kernel
theorem dX7_gives_123 : decode cX7_gives 123 = .ok (.iconst 0, 1) := by decide +kernel
theorem dX7_gives_124 : decode cX7_gives 124 = .ok (.iastore, 1) := by decide +kernel
theorem dX7_gives_125 : decode cX7_gives 125 = .ok (.goto 43, 3) := by decide +kernel
theorem dX7_gives_128 : decode cX7_gives 128 = .ok (.iload 4, 2) := by decide +kernel
theorem dX7_gives_130 : decode cX7_gives 130 = .ok (.iconst 1, 1) := by decide +kernel
theorem dX7_gives_131 : decode cX7_gives 131 = .ok (.if_icmp .le 37, 3) := by decide +kernel
theorem dX7_gives_134 : decode cX7_gives 134 = .ok (.iinc 4 (-1), 3) := by decide +kernel
theorem dX7_gives_137 : decode cX7_gives 137 = .ok (.aload_n 0, 1) := by decide +kernel
theorem dX7_gives_138 : decode cX7_gives 138 = .ok (.getfield 26, 3) := by decide +kernel
theorem dX7_gives_141 : decode cX7_gives 141 = .ok (.iload 4, 2) := by decide +kernel
theorem dX7_gives_143 : decode cX7_gives 143 = .ok (.iconst 1, 1) := by decide +kernel
theorem dX7_gives_144 : decode cX7_gives 144 = .ok (.isub, 1) := by decide +kernel
theorem dX7_gives_145 : decode cX7_gives 145 = .ok (.iload 6, 2) := by decide +kernel
theorem dX7_gives_147 : decode cX7_gives 147 = .ok (.ineg, 1) := by decide +kernel
theorem dX7_gives_148 : decode cX7_gives 148 = .ok (.aload_n 0, 1) := by decide +kernel
theorem dX7_gives_149 : decode cX7_gives 149 = .ok (.getfield 26, 3) := by decide +kernel
theorem dX7_gives_152 : decode cX7_gives 152 = .ok (.iload 4, 2) := by decide +kernel
theorem dX7_gives_154 : decode cX7_gives 154 = .ok (.iconst 1, 1) := by decide +kernel
theorem dX7_gives_155 : decode cX7_gives 155 = .ok (.isub, 1) := by decide +kernel
theorem dX7_gives_156 : decode cX7_gives 156 = .ok (.iaload, 1) := by decide +kernel
theorem dX7_gives_157 : decode cX7_gives 157 = .ok (.aload_n 0, 1) := by decide +kernel
theorem dX7_gives_158 : decode cX7_gives 158 = .ok (.getfield 26, 3) := by decide +kernel
theorem dX7_gives_161 : decode cX7_gives 161 = .ok (.iload 4, 2) := by decide +kernel
theorem dX7_gives_163 : decode cX7_gives 163 = .ok (.iaload, 1) := by decide +kernel
theorem dX7_gives_164 : decode cX7_gives 164 = .ok (.invokestatic 31, 3) := by decide +kernel
theorem dX7_gives_167 : decode cX7_gives 167 = .ok (.iastore, 1) := by decide +kernel
theorem dX7_gives_168 : decode cX7_gives 168 = .ok (.iinc 5 1, 3) := by decide +kernel
theorem dX7_gives_171 : decode cX7_gives 171 = .ok (.goto (-165), 3) := by decide +kernel
theorem dX7_gives_174 : decode cX7_gives 174 = .ok (.aload_n 0, 1) := by decide +kernel
theorem dX7_gives_175 : decode cX7_gives 175 = .ok (.getfield 26, 3) := by decide +kernel
theorem dX7_gives_178 : decode cX7_gives 178 = .ok (.iconst 0, 1) := by decide +kernel
theorem dX7_gives_179 : decode cX7_gives 179 = .ok (.iaload, 1) := by decide +kernel
theorem dX7_gives_180 : decode cX7_gives 180 = .ok (.ireturn, 1) := by decide +kernel
theorem dX7_joined_0 : decode cX7_joined 0 = .ok (.iload_n 0, 1) := by decide +kernel
theorem dX7_joined_1 : decode cX7_joined 1 = .ok (.lookupswitch 148 #[(38, 89), (42, 144), (43, 136), (45, 140), (60, 103), (61, 114), (62, 125), (124, 75)], 75) := by decide +kernel
theorem dX7_joined_76 : decode cX7_joined 76 = .ok (.iload_n 1, 1) := by decide +kernel
theorem dX7_joined_77 : decode cX7_joined 77 = .ok (.ifCond .ne 7, 3) := by decide +kernel
theorem dX7_joined_80 : decode cX7_joined 80 = .ok (.iload_n 2, 1) := by decide +kernel
theorem dX7_joined_81 : decode cX7_joined 81 = .ok (.ifCond .eq 7, 3) := by decide +kernel
theorem dX7_joined_84 : decode cX7_joined 84 = .ok (.iconst 1, 1) := by decide +kernel
theorem dX7_joined_85 : decode cX7_joined 85 = .ok (.goto 4, 3) := by decide +kernel
theorem dX7_joined_88 : decode cX7_joined 88 = .ok (.iconst 0, 1) := by decide +kernel
theorem dX7_joined_89 : decode cX7_joined 89 = .ok (.ireturn, 1) := by decide +kernel
theorem dX7_joined_90 : decode cX7_joined 90 = .ok (.iload_n 1, 1) := by decide +kernel
theorem dX7_joined_91 : decode cX7_joined 91 = .ok (.ifCond .eq 11, 3) := by decide +kernel
theorem dX7_joined_94 : decode cX7_joined 94 = .ok (.iload_n 2, 1) := by decide +kernel
theorem dX7_joined_95 : decode cX7_joined 95 = .ok (.ifCond .eq 7, 3) := by decide +kernel
theorem dX7_joined_98 : decode cX7_joined 98 = .ok (.iconst 1, 1) := by decide +kernel
theorem dX7_joined_99 : decode cX7_joined 99 = .ok (.goto 4, 3) := by decide +kernel
theorem dX7_joined_102 : decode cX7_joined 102 = .ok (.iconst 0, 1) := by decide +kernel
theorem dX7_joined_103 : decode cX7_joined 103 = .ok (.ireturn, 1) := by decide +kernel
theorem dX7_joined_104 : decode cX7_joined 104 = .ok (.iload_n 1, 1) := by decide +kernel
theorem dX7_joined_105 : decode cX7_joined 105 = .ok (.iload_n 2, 1) := by decide +kernel
theorem dX7_joined_106 : decode cX7_joined 106 = .ok (.if_icmp .ge 7, 3) := by decide +kernel
theorem dX7_joined_109 : decode cX7_joined 109 = .ok (.iconst 1, 1) := by decide +kernel
theorem dX7_joined_110 : decode cX7_joined 110 = .ok (.goto 4, 3) := by decide +kernel
theorem dX7_joined_113 : decode cX7_joined 113 = .ok (.iconst 0, 1) := by decide +kernel
theorem dX7_joined_114 : decode cX7_joined 114 = .ok (.ireturn, 1) := by decide +kernel
theorem dX7_joined_115 : decode cX7_joined 115 = .ok (.iload_n 1, 1) := by decide +kernel
theorem dX7_joined_116 : decode cX7_joined 116 = .ok (.iload_n 2, 1) := by decide +kernel
theorem dX7_joined_117 : decode cX7_joined 117 = .ok (.if_icmp .ne 7, 3) := by decide +kernel
theorem dX7_joined_120 : decode cX7_joined 120 = .ok (.iconst 1, 1) := by decide +kernel
theorem dX7_joined_121 : decode cX7_joined 121 = .ok (.goto 4, 3) := by decide +kernel
theorem dX7_joined_124 : decode cX7_joined 124 = .ok (.iconst 0, 1) := by decide +kernel
theorem dX7_joined_125 : decode cX7_joined 125 = .ok (.ireturn, 1) := by decide +kernel
theorem dX7_joined_126 : decode cX7_joined 126 = .ok (.iload_n 1, 1) := by decide +kernel
end
section
theorem dX7_joined_127 : decode cX7_joined 127 = .ok (.iload_n 2, 1) := by decide +kernel
theorem dX7_joined_128 : decode cX7_joined 128 = .ok (.if_icmp .le 7, 3) := by decide +kernel
theorem dX7_joined_131 : decode cX7_joined 131 = .ok (.iconst 1, 1) := by decide +kernel
theorem dX7_joined_132 : decode cX7_joined 132 = .ok (.goto 4, 3) := by decide +kernel
theorem dX7_joined_135 : decode cX7_joined 135 = .ok (.iconst 0, 1) := by decide +kernel
theorem dX7_joined_136 : decode cX7_joined 136 = .ok (.ireturn, 1) := by decide +kernel
theorem dX7_joined_137 : decode cX7_joined 137 = .ok (.iload_n 1, 1) := by decide +kernel
theorem dX7_joined_138 : decode cX7_joined 138 = .ok (.iload_n 2, 1) := by decide +kernel
theorem dX7_joined_139 : decode cX7_joined 139 = .ok (.iadd, 1) := by decide +kernel
theorem dX7_joined_140 : decode cX7_joined 140 = .ok (.ireturn, 1) := by decide +kernel
theorem dX7_joined_141 : decode cX7_joined 141 = .ok (.iload_n 1, 1) := by decide +kernel
theorem dX7_joined_142 : decode cX7_joined 142 = .ok (.iload_n 2, 1) := by decide +kernel
theorem dX7_joined_143 : decode cX7_joined 143 = .ok (.isub, 1) := by decide +kernel
theorem dX7_joined_144 : decode cX7_joined 144 = .ok (.ireturn, 1) := by decide +kernel
theorem dX7_joined_145 : decode cX7_joined 145 = .ok (.iload_n 1, 1) := by decide +kernel
theorem dX7_joined_146 : decode cX7_joined 146 = .ok (.iload_n 2, 1) := by decide +kernel
theorem dX7_joined_147 : decode cX7_joined 147 = .ok (.imul, 1) := by decide +kernel
theorem dX7_joined_148 : decode cX7_joined 148 = .ok (.ireturn, 1) := by decide +kernel
theorem dX7_joined_149 : decode cX7_joined 149 = .ok (.iload_n 2, 1) := by decide +kernel
theorem dX7_joined_150 : decode cX7_joined 150 = .ok (.ifCond .ne 7, 3) := by decide +kernel
theorem dX7_joined_153 : decode cX7_joined 153 = .ok (.iconst 0, 1) := by decide +kernel
theorem dX7_joined_154 : decode cX7_joined 154 = .ok (.goto 6, 3) := by decide +kernel
theorem dX7_joined_157 : decode cX7_joined 157 = .ok (.iload_n 1, 1) := by decide +kernel
theorem dX7_joined_158 : decode cX7_joined 158 = .ok (.iload_n 2, 1) := by decide +kernel
theorem dX7_joined_159 : decode cX7_joined 159 = .ok (.idiv, 1) := by decide +kernel
theorem dX7_joined_160 : decode cX7_joined 160 = .ok (.ireturn, 1) := by decide +kernel
theorem dX8_init_0 : decode cX8_init 0 = .ok (.aload_n 0, 1) := by decide +kernel
theorem dX8_init_1 : decode cX8_init 1 = .ok (.invokespecial 1, 3) := by decide +kernel
theorem dX8_init_4 : decode cX8_init 4 = .ok (.aload_n 0, 1) := by decide +kernel
theorem dX8_init_5 : decode cX8_init 5 = .ok (.new 7, 3) := by decide +kernel
theorem dX8_init_8 : decode cX8_init 8 = .ok (.dup, 1) := by decide +kernel
theorem dX8_init_9 : decode cX8_init 9 = .ok (.invokespecial 9, 3) := by decide +kernel
theorem dX8_init_12 : decode cX8_init 12 = .ok (.putfield 10, 3) := by decide +kernel
theorem dX8_init_15 : decode cX8_init 15 = .ok (.aload_n 0, 1) := by decide +kernel
theorem dX8_init_16 : decode cX8_init 16 = .ok (.new 7, 3) := by decide +kernel
theorem dX8_init_19 : decode cX8_init 19 = .ok (.dup, 1) := by decide +kernel
theorem dX8_init_20 : decode cX8_init 20 = .ok (.invokespecial 9, 3) := by decide +kernel
theorem dX8_init_23 : decode cX8_init 23 = .ok (.putfield 16, 3) := by decide +kernel
theorem dX8_init_26 : decode cX8_init 26 = .ok (.aload_n 0, 1) := by decide +kernel
theorem dX8_init_27 : decode cX8_init 27 = .ok (.new 7, 3) := by decide +kernel
theorem dX8_init_30 : decode cX8_init 30 = .ok (.dup, 1) := by decide +kernel
theorem dX8_init_31 : decode cX8_init 31 = .ok (.invokespecial 9, 3) := by decide +kernel
theorem dX8_init_34 : decode cX8_init 34 = .ok (.putfield 19, 3) := by decide +kernel
theorem dX8_init_37 : decode cX8_init 37 = .ok (.aload_n 0, 1) := by decide +kernel
theorem dX8_init_38 : decode cX8_init 38 = .ok (.iconst 0, 1) := by decide +kernel
theorem dX8_init_39 : decode cX8_init 39 = .ok (.putfield 22, 3) := by decide +kernel
theorem dX8_init_42 : decode cX8_init 42 = .ok (.aload_n 0, 1) := by decide +kernel
theorem dX8_init_43 : decode cX8_init 43 = .ok (.new 26, 3) := by decide +kernel
theorem dX8_init_46 : decode cX8_init 46 = .ok (.dup, 1) := by decide +kernel
theorem dX8_init_47 : decode cX8_init 47 = .ok (.invokespecial 28, 3) := by decide +kernel
theorem dX8_init_50 : decode cX8_init 50 = .ok (.putfield 29, 3) := by decide +kernel
theorem dX8_init_53 : decode cX8_init 53 = .ok (.aload_n 0, 1) := by decide +kernel
theorem dX8_init_54 : decode cX8_init 54 = .ok (.new 33, 3) := by decide +kernel
theorem dX8_init_57 : decode cX8_init 57 = .ok (.dup, 1) := by decide +kernel
theorem dX8_init_58 : decode cX8_init 58 = .ok (.aload_n 0, 1) := by decide +kernel
theorem dX8_init_59 : decode cX8_init 59 = .ok (.getfield 29, 3) := by decide +kernel
theorem dX8_init_62 : decode cX8_init 62 = .ok (.invokespecial 35, 3) := by decide +kernel
theorem dX8_init_65 : decode cX8_init 65 = .ok (.putfield 38, 3) := by decide +kernel
theorem dX8_init_68 : decode cX8_init 68 = .ok (.aload_n 0, 1) := by decide +kernel
theorem dX8_init_69 : decode cX8_init 69 = .ok (.bipush 14, 2) := by decide +kernel
theorem dX8_init_71 : decode cX8_init 71 = .ok (.anewarray 42, 3) := by decide +kernel
theorem dX8_init_74 : decode cX8_init 74 = .ok (.putfield 44, 3) := by decide +kernel
theorem dX8_init_77 : decode cX8_init 77 = .ok (.aload_n 0, 1) := by decide +kernel
theorem dX8_init_78 : decode cX8_init 78 = .ok (.new 48, 3) := by decide +kernel
theorem dX8_init_81 : decode cX8_init 81 = .ok (.dup, 1) := by decide +kernel
theorem dX8_init_82 : decode cX8_init 82 = .ok (.invokespecial 50, 3) := by decide +kernel
theorem dX8_init_85 : decode cX8_init 85 = .ok (.putfield 51, 3) := by decide +kernel
theorem dX8_init_88 : decode cX8_init 88 = .ok (.aload_n 0, 1) := by decide +kernel
theorem dX8_init_89 : decode cX8_init 89 = .ok (.iconst 4, 1) := by decide +kernel
theorem dX8_init_90 : decode cX8_init 90 = .ok (.anewarray 55, 3) := by decide +kernel
theorem dX8_init_93 : decode cX8_init 93 = .ok (.putfield 57, 3) := by decide +kernel
theorem dX8_init_96 : decode cX8_init 96 = .ok (.aload_n 0, 1) := by decide +kernel
theorem dX8_init_97 : decode cX8_init 97 = .ok (.iconst 5, 1) := by decide +kernel
theorem dX8_init_98 : decode cX8_init 98 = .ok (.anewarray 61, 3) := by decide +kernel
theorem dX8_init_101 : decode cX8_init 101 = .ok (.putfield 63, 3) := by decide +kernel
theorem dX8_init_104 : decode cX8_init 104 = .ok (.aload_n 0, 1) := by decide +kernel
theorem dX8_init_105 : decode cX8_init 105 = .ok (.bipush 60, 2) := by decide +kernel
theorem dX8_init_107 : decode cX8_init 107 = .ok (.newarray .int, 2) := by decide +kernel
theorem dX8_init_109 : decode cX8_init 109 = .ok (.putfield 67, 3) := by decide +kernel
theorem dX8_init_112 : decode cX8_init 112 = .ok (.aload_n 0, 1) := by decide +kernel
theorem dX8_init_113 : decode cX8_init 113 = .ok (.iconst 0, 1) := by decide +kernel
theorem dX8_init_114 : decode cX8_init 114 = .ok (.putfield 71, 3) := by decide +kernel
theorem dX8_init_117 : decode cX8_init 117 = .ok (.iconst 0, 1) := by decide +kernel
theorem dX8_init_118 : decode cX8_init 118 = .ok (.istore_n 1, 1) := by decide +kernel
theorem dX8_init_119 : decode cX8_init 119 = .ok (.iload_n 1, 1) := by decide +kernel
theorem dX8_init_120 : decode cX8_init 120 = .ok (.iconst 4, 1) := by decide +kernel
theorem dX8_init_121 : decode cX8_init 121 = .ok (.if_icmp .ge 22, 3) := by decide +kernel
theorem dX8_init_124 : decode cX8_init 124 = .ok (.aload_n 0, 1) := by decide +kernel
theorem dX8_init_125 : decode cX8_init 125 = .ok (.getfield 57, 3) := by decide +kernel
theorem dX8_init_128 : decode cX8_init 128 = .ok (.iload_n 1, 1) := by decide +kernel
theorem dX8_init_129 : decode cX8_init 129 = .ok (.new 55, 3) := by decide +kernel
theorem dX8_init_132 : decode cX8_init 132 = .ok (.dup, 1) := by decide +kernel
theorem dX8_init_133 : decode cX8_init 133 = .ok (.invokespecial 75, 3) := by decide +kernel
theorem dX8_init_136 : decode cX8_init 136 = .ok (.aastore, 1) := by decide +kernel
theorem dX8_init_137 : decode cX8_init 137 = .ok (.iinc 1 1, 3) := by decide +kernel
theorem dX8_init_140 : decode cX8_init 140 = .ok (.goto (-21), 3) := by decide +kernel
theorem dX8_init_143 : decode cX8_init 143 = .ok (.iconst 0, 1) := by decide +kernel
theorem dX8_init_144 : decode cX8_init 144 = .ok (.istore_n 1, 1) := by decide +kernel
theorem dX8_init_145 : decode cX8_init 145 = .ok (.iload_n 1, 1) := by decide +kernel
theorem dX8_init_146 : decode cX8_init 146 = .ok (.iconst 5, 1) := by decide +kernel
theorem dX8_init_147 : decode cX8_init 147 = .ok (.if_icmp .ge 22, 3) := by decide +kernel
theorem dX8_init_150 : decode cX8_init 150 = .ok (.aload_n 0, 1) := by decide +kernel
theorem dX8_init_151 : decode cX8_init 151 = .ok (.getfield 63, 3) := by decide +kernel
theorem dX8_init_154 : decode cX8_init 154 = .ok (.iload_n 1, 1) := by decide +kernel
theorem dX8_init_155 : decode cX8_init 155 = .ok (.new 61, 3) := by decide +kernel
theorem dX8_init_158 : decode cX8_init 158 = .ok (.dup, 1) := by decide +kernel
theorem dX8_init_159 : decode cX8_init 159 = .ok (.invokespecial 76, 3) := by decide +kernel
theorem dX8_init_162 : decode cX8_init 162 = .ok (.aastore, 1) := by decide +kernel
theorem dX8_init_163 : decode cX8_init 163 = .ok (.iinc 1 1, 3) := by decide +kernel
theorem dX8_init_166 : decode cX8_init 166 = .ok (.goto (-21), 3) := by decide +kernel
theorem dX8_init_169 : decode cX8_init 169 = .ok (.return_, 1) := by decide +kernel
theorem dX8_beggar_0 : decode cX8_beggar 0 = .ok (.iload_n 1, 1) := by decide +kernel
theorem dX8_beggar_1 : decode cX8_beggar 1 = .ok (.invokestatic 77, 3) := by decide +kernel
theorem dX8_beggar_4 : decode cX8_beggar 4 = .ok (.ifCond .eq 23, 3) := by decide +kernel
theorem dX8_beggar_7 : decode cX8_beggar 7 = .ok (.iload_n 2, 1) := by decide +kernel
theorem dX8_beggar_8 : decode cX8_beggar 8 = .ok (.iconst 0, 1) := by decide +kernel
theorem dX8_beggar_9 : decode cX8_beggar 9 = .ok (.bipush 8, 2) := by decide +kernel
theorem dX8_beggar_11 : decode cX8_beggar 11 = .ok (.invokestatic 81, 3) := by decide +kernel
theorem dX8_beggar_14 : decode cX8_beggar 14 = .ok (.ifCond .eq 13, 3) := by decide +kernel
theorem dX8_beggar_17 : decode cX8_beggar 17 = .ok (.iload_n 3, 1) := by decide +kernel
theorem dX8_beggar_18 : decode cX8_beggar 18 = .ok (.iconst 0, 1) := by decide +kernel
theorem dX8_beggar_19 : decode cX8_beggar 19 = .ok (.bipush 20, 2) := by decide +kernel
theorem dX8_beggar_21 : decode cX8_beggar 21 = .ok (.invokestatic 81, 3) := by decide +kernel
theorem dX8_beggar_24 : decode cX8_beggar 24 = .ok (.ifCond .ne 6, 3) := by decide +kernel
theorem dX8_beggar_27 : decode cX8_beggar 27 = .ok (.ldc 85, 2) := by decide +kernel
theorem dX8_beggar_29 : decode cX8_beggar 29 = .ok (.ireturn, 1) := by decide +kernel
theorem dX8_beggar_30 : decode cX8_beggar 30 = .ok (.aload_n 0, 1) := by decide +kernel
theorem dX8_beggar_31 : decode cX8_beggar 31 = .ok (.getfield 10, 3) := by decide +kernel
theorem dX8_beggar_34 : decode cX8_beggar 34 = .ok (.getfield 86, 3) := by decide +kernel
theorem dX8_beggar_37 : decode cX8_beggar 37 = .ok (.bipush 8, 2) := by decide +kernel
theorem dX8_beggar_39 : decode cX8_beggar 39 = .ok (.if_icmp .lt 6, 3) := by decide +kernel
theorem dX8_beggar_42 : decode cX8_beggar 42 = .ok (.ldc 89, 2) := by decide +kernel
theorem dX8_beggar_44 : decode cX8_beggar 44 = .ok (.ireturn, 1) := by decide +kernel
theorem dX8_beggar_45 : decode cX8_beggar 45 = .ok (.aload_n 0, 1) := by decide +kernel
theorem dX8_beggar_46 : decode cX8_beggar 46 = .ok (.getfield 10, 3) := by decide +kernel
theorem dX8_beggar_49 : decode cX8_beggar 49 = .ok (.iload_n 1, 1) := by decide +kernel
theorem dX8_beggar_50 : decode cX8_beggar 50 = .ok (.iload_n 2, 1) := by decide +kernel
theorem dX8_beggar_51 : decode cX8_beggar 51 = .ok (.iload_n 3, 1) := by decide +kernel
theorem dX8_beggar_52 : decode cX8_beggar 52 = .ok (.invokevirtual 90, 3) := by decide +kernel
theorem dX8_beggar_55 : decode cX8_beggar 55 = .ok (.ireturn, 1) := by decide +kernel
theorem dX8_told_0 : decode cX8_told 0 = .ok (.aload_n 0, 1) := by decide +kernel
theorem dX8_told_1 : decode cX8_told 1 = .ok (.iload_n 1, 1) := by decide +kernel
theorem dX8_told_2 : decode cX8_told 2 = .ok (.invokevirtual 94, 3) := by decide +kernel
theorem dX8_told_5 : decode cX8_told 5 = .ok (.ifCond .ne 6, 3) := by decide +kernel
theorem dX8_told_8 : decode cX8_told 8 = .ok (.ldc 85, 2) := by decide +kernel
theorem dX8_told_10 : decode cX8_told 10 = .ok (.ireturn, 1) := by decide +kernel
theorem dX8_told_11 : decode cX8_told 11 = .ok (.iload_n 2, 1) := by decide +kernel
theorem dX8_told_12 : decode cX8_told 12 = .ok (.tableswitch 133 0 6 #[44, 54, 64, 74, 84, 94, 111], 44) := by decide +kernel
theorem dX8_told_56 : decode cX8_told 56 = .ok (.aload_n 0, 1) := by decide +kernel
theorem dX8_told_57 : decode cX8_told 57 = .ok (.getfield 10, 3) := by decide +kernel
theorem dX8_told_60 : decode cX8_told 60 = .ok (.getfield 97, 3) := by decide +kernel
theorem dX8_told_63 : decode cX8_told 63 = .ok (.iload_n 1, 1) := by decide +kernel
theorem dX8_told_64 : decode cX8_told 64 = .ok (.iaload, 1) := by decide +kernel
theorem dX8_told_65 : decode cX8_told 65 = .ok (.ireturn, 1) := by decide +kernel
theorem dX8_told_66 : decode cX8_told 66 = .ok (.aload_n 0, 1) := by decide +kernel
theorem dX8_told_67 : decode cX8_told 67 = .ok (.getfield 10, 3) := by decide +kernel
theorem dX8_told_70 : decode cX8_told 70 = .ok (.getfield 100, 3) := by decide +kernel
theorem dX8_told_73 : decode cX8_told 73 = .ok (.iload_n 1, 1) := by decide +kernel
theorem dX8_told_74 : decode cX8_told 74 = .ok (.iaload, 1) := by decide +kernel
theorem dX8_told_75 : decode cX8_told 75 = .ok (.ireturn, 1) := by decide +kernel
theorem dX8_told_76 : decode cX8_told 76 = .ok (.aload_n 0, 1) := by decide +kernel
theorem dX8_told_77 : decode cX8_told 77 = .ok (.getfield 10, 3) := by decide +kernel
theorem dX8_told_80 : decode cX8_told 80 = .ok (.getfield 103, 3) := by decide +kernel
theorem dX8_told_83 : decode cX8_told 83 = .ok (.iload_n 1, 1) := by decide +kernel
theorem dX8_told_84 : decode cX8_told 84 = .ok (.iaload, 1) := by decide +kernel
theorem dX8_told_85 : decode cX8_told 85 = .ok (.ireturn, 1) := by decide +kernel
theorem dX8_told_86 : decode cX8_told 86 = .ok (.aload_n 0, 1) := by decide +kernel
theorem dX8_told_87 : decode cX8_told 87 = .ok (.getfield 10, 3) := by decide +kernel
theorem dX8_told_90 : decode cX8_told 90 = .ok (.getfield 106, 3) := by decide +kernel
theorem dX8_told_93 : decode cX8_told 93 = .ok (.iload_n 1, 1) := by decide +kernel
theorem dX8_told_94 : decode cX8_told 94 = .ok (.iaload, 1) := by decide +kernel
theorem dX8_told_95 : decode cX8_told 95 = .ok (.ireturn, 1) := by decide +kernel
theorem dX8_told_96 : decode cX8_told 96 = .ok (.aload_n 0, 1) := by decide +kernel
theorem dX8_told_97 : decode cX8_told 97 = .ok (.getfield 10, 3) := by decide +kernel
theorem dX8_told_100 : decode cX8_told 100 = .ok (.getfield 109, 3) := by decide +kernel
theorem dX8_told_103 : decode cX8_told 103 = .ok (.iload_n 1, 1) := by decide +kernel
theorem dX8_told_104 : decode cX8_told 104 = .ok (.iaload, 1) := by decide +kernel
theorem dX8_told_105 : decode cX8_told 105 = .ok (.ireturn, 1) := by decide +kernel
theorem dX8_told_106 : decode cX8_told 106 = .ok (.aload_n 0, 1) := by decide +kernel
theorem dX8_told_107 : decode cX8_told 107 = .ok (.getfield 10, 3) := by decide +kernel
theorem dX8_told_110 : decode cX8_told 110 = .ok (.iload_n 1, 1) := by decide +kernel
theorem dX8_told_111 : decode cX8_told 111 = .ok (.invokevirtual 112, 3) := by decide +kernel
theorem dX8_told_114 : decode cX8_told 114 = .ok (.ifCond .eq 7, 3) := by decide +kernel
theorem dX8_told_117 : decode cX8_told 117 = .ok (.iconst 1, 1) := by decide +kernel
theorem dX8_told_118 : decode cX8_told 118 = .ok (.goto 4, 3) := by decide +kernel
theorem dX8_told_121 : decode cX8_told 121 = .ok (.iconst 0, 1) := by decide +kernel
theorem dX8_told_122 : decode cX8_told 122 = .ok (.ireturn, 1) := by decide +kernel
theorem dX8_told_123 : decode cX8_told 123 = .ok (.aload_n 0, 1) := by decide +kernel
theorem dX8_told_124 : decode cX8_told 124 = .ok (.getfield 10, 3) := by decide +kernel
theorem dX8_told_127 : decode cX8_told 127 = .ok (.getfield 97, 3) := by decide +kernel
theorem dX8_told_130 : decode cX8_told 130 = .ok (.iload_n 1, 1) := by decide +kernel
theorem dX8_told_131 : decode cX8_told 131 = .ok (.iaload, 1) := by decide +kernel
theorem dX8_told_132 : decode cX8_told 132 = .ok (.aload_n 0, 1) := by decide +kernel
theorem dX8_told_133 : decode cX8_told 133 = .ok (.getfield 10, 3) := by decide +kernel
theorem dX8_told_136 : decode cX8_told 136 = .ok (.getfield 103, 3) := by decide +kernel
theorem dX8_told_139 : decode cX8_told 139 = .ok (.iload_n 1, 1) := by decide +kernel
theorem dX8_told_140 : decode cX8_told 140 = .ok (.iaload, 1) := by decide +kernel
theorem dX8_told_141 : decode cX8_told 141 = .ok (.invokestatic 115, 3) := by decide +kernel
theorem dX8_told_144 : decode cX8_told 144 = .ok (.ireturn, 1) := by decide +kernel
theorem dX8_told_145 : decode cX8_told 145 = .ok (.ldc 85, 2) := by decide +kernel
theorem dX8_told_147 : decode cX8_told 147 = .ok (.ireturn, 1) := by decide +kernel
theorem dX8_given_0 : decode cX8_given 0 = .ok (.aload_n 0, 1) := by decide +kernel
theorem dX8_given_1 : decode cX8_given 1 = .ok (.iload_n 1, 1) := by decide +kernel
theorem dX8_given_2 : decode cX8_given 2 = .ok (.invokevirtual 94, 3) := by decide +kernel
theorem dX8_given_5 : decode cX8_given 5 = .ok (.ifCond .eq 34, 3) := by decide +kernel
theorem dX8_given_8 : decode cX8_given 8 = .ok (.iload_n 2, 1) := by decide +kernel
theorem dX8_given_9 : decode cX8_given 9 = .ok (.iconst 1, 1) := by decide +kernel
theorem dX8_given_10 : decode cX8_given 10 = .ok (.bipush 9, 2) := by decide +kernel
theorem dX8_given_12 : decode cX8_given 12 = .ok (.invokestatic 81, 3) := by decide +kernel
theorem dX8_given_15 : decode cX8_given 15 = .ok (.ifCond .eq 24, 3) := by decide +kernel
theorem dX8_given_18 : decode cX8_given 18 = .ok (.iload_n 3, 1) := by decide +kernel
theorem dX8_given_19 : decode cX8_given 19 = .ok (.iconst 0, 1) := by decide +kernel
theorem dX8_given_20 : decode cX8_given 20 = .ok (.bipush 9, 2) := by decide +kernel
theorem dX8_given_22 : decode cX8_given 22 = .ok (.invokestatic 81, 3) := by decide +kernel
theorem dX8_given_25 : decode cX8_given 25 = .ok (.ifCond .eq 14, 3) := by decide +kernel
theorem dX8_given_28 : decode cX8_given 28 = .ok (.iload 4, 2) := by decide +kernel
theorem dX8_given_30 : decode cX8_given 30 = .ok (.iconst 0, 1) := by decide +kernel
theorem dX8_given_31 : decode cX8_given 31 = .ok (.bipush 9, 2) := by decide +kernel
theorem dX8_given_33 : decode cX8_given 33 = .ok (.invokestatic 81, 3) := by decide +kernel
theorem dX8_given_36 : decode cX8_given 36 = .ok (.ifCond .ne 6, 3) := by decide +kernel
theorem dX8_given_39 : decode cX8_given 39 = .ok (.ldc 85, 2) := by decide +kernel
theorem dX8_given_41 : decode cX8_given 41 = .ok (.ireturn, 1) := by decide +kernel
theorem dX8_given_42 : decode cX8_given 42 = .ok (.aload_n 0, 1) := by decide +kernel
theorem dX8_given_43 : decode cX8_given 43 = .ok (.getfield 51, 3) := by decide +kernel
theorem dX8_given_46 : decode cX8_given 46 = .ok (.aload_n 0, 1) := by decide +kernel
theorem dX8_given_47 : decode cX8_given 47 = .ok (.iconst 0, 1) := by decide +kernel
theorem dX8_given_48 : decode cX8_given 48 = .ok (.aload_n 0, 1) := by decide +kernel
theorem dX8_given_49 : decode cX8_given 49 = .ok (.getfield 10, 3) := by decide +kernel
theorem dX8_given_52 : decode cX8_given 52 = .ok (.getfield 121, 3) := by decide +kernel
theorem dX8_given_55 : decode cX8_given 55 = .ok (.invokevirtual 123, 3) := by decide +kernel
theorem dX8_given_58 : decode cX8_given 58 = .ok (.invokevirtual 127, 3) := by decide +kernel
theorem dX8_given_61 : decode cX8_given 61 = .ok (.aload_n 0, 1) := by decide +kernel
theorem dX8_given_62 : decode cX8_given 62 = .ok (.getfield 10, 3) := by decide +kernel
theorem dX8_given_65 : decode cX8_given 65 = .ok (.iload_n 1, 1) := by decide +kernel
theorem dX8_given_66 : decode cX8_given 66 = .ok (.iload_n 2, 1) := by decide +kernel
theorem dX8_given_67 : decode cX8_given 67 = .ok (.iload_n 3, 1) := by decide +kernel
theorem dX8_given_68 : decode cX8_given 68 = .ok (.iload 4, 2) := by decide +kernel
theorem dX8_given_70 : decode cX8_given 70 = .ok (.aload_n 0, 1) := by decide +kernel
theorem dX8_given_71 : decode cX8_given 71 = .ok (.getfield 51, 3) := by decide +kernel
theorem dX8_given_74 : decode cX8_given 74 = .ok (.invokevirtual 131, 3) := by decide +kernel
theorem dX8_given_77 : decode cX8_given 77 = .ok (.ireturn, 1) := by decide +kernel
theorem dX8_as_0 : decode cX8_as 0 = .ok (.aload_n 0, 1) := by decide +kernel
theorem dX8_as_1 : decode cX8_as 1 = .ok (.iload_n 1, 1) := by decide +kernel
theorem dX8_as_2 : decode cX8_as 2 = .ok (.invokevirtual 94, 3) := by decide +kernel
theorem dX8_as_5 : decode cX8_as 5 = .ok (.ifCond .eq 10, 3) := by decide +kernel
theorem dX8_as_8 : decode cX8_as 8 = .ok (.iload_n 2, 1) := by decide +kernel
theorem dX8_as_9 : decode cX8_as 9 = .ok (.invokestatic 77, 3) := by decide +kernel
theorem dX8_as_12 : decode cX8_as 12 = .ok (.ifCond .ne 6, 3) := by decide +kernel
theorem dX8_as_15 : decode cX8_as 15 = .ok (.ldc 85, 2) := by decide +kernel
theorem dX8_as_17 : decode cX8_as 17 = .ok (.ireturn, 1) := by decide +kernel
theorem dX8_as_18 : decode cX8_as 18 = .ok (.aload_n 0, 1) := by decide +kernel
theorem dX8_as_19 : decode cX8_as 19 = .ok (.getfield 10, 3) := by decide +kernel
theorem dX8_as_22 : decode cX8_as 22 = .ok (.getfield 97, 3) := by decide +kernel
theorem dX8_as_25 : decode cX8_as 25 = .ok (.iload_n 1, 1) := by decide +kernel
theorem dX8_as_26 : decode cX8_as 26 = .ok (.iaload, 1) := by decide +kernel
theorem dX8_as_27 : decode cX8_as 27 = .ok (.iload_n 2, 1) := by decide +kernel
theorem dX8_as_28 : decode cX8_as 28 = .ok (.invokestatic 135, 3) := by decide +kernel
theorem dX8_as_31 : decode cX8_as 31 = .ok (.ifCond .eq 15, 3) := by decide +kernel
theorem dX8_as_34 : decode cX8_as 34 = .ok (.aload_n 0, 1) := by decide +kernel
theorem dX8_as_35 : decode cX8_as 35 = .ok (.getfield 10, 3) := by decide +kernel
theorem dX8_as_38 : decode cX8_as 38 = .ok (.getfield 103, 3) := by decide +kernel
theorem dX8_as_41 : decode cX8_as 41 = .ok (.iload_n 1, 1) := by decide +kernel
theorem dX8_as_42 : decode cX8_as 42 = .ok (.iaload, 1) := by decide +kernel
theorem dX8_as_43 : decode cX8_as 43 = .ok (.goto 5, 3) := by decide +kernel
theorem dX8_as_46 : decode cX8_as 46 = .ok (.ldc 139, 2) := by decide +kernel
theorem dX8_as_48 : decode cX8_as 48 = .ok (.ireturn, 1) := by decide +kernel
theorem dX8_turns_0 : decode cX8_turns 0 = .ok (.aload_n 0, 1) := by decide +kernel
theorem dX8_turns_1 : decode cX8_turns 1 = .ok (.iload_n 1, 1) := by decide +kernel
theorem dX8_turns_2 : decode cX8_turns 2 = .ok (.invokevirtual 94, 3) := by decide +kernel
theorem dX8_turns_5 : decode cX8_turns 5 = .ok (.ifCond .eq 10, 3) := by decide +kernel
theorem dX8_turns_8 : decode cX8_turns 8 = .ok (.iload_n 2, 1) := by decide +kernel
theorem dX8_turns_9 : decode cX8_turns 9 = .ok (.invokestatic 77, 3) := by decide +kernel
theorem dX8_turns_12 : decode cX8_turns 12 = .ok (.ifCond .ne 6, 3) := by decide +kernel
theorem dX8_turns_15 : decode cX8_turns 15 = .ok (.ldc 85, 2) := by decide +kernel
theorem dX8_turns_17 : decode cX8_turns 17 = .ok (.ireturn, 1) := by decide +kernel
theorem dX8_turns_18 : decode cX8_turns 18 = .ok (.aload_n 0, 1) := by decide +kernel
theorem dX8_turns_19 : decode cX8_turns 19 = .ok (.getfield 10, 3) := by decide +kernel
theorem dX8_turns_22 : decode cX8_turns 22 = .ok (.getfield 97, 3) := by decide +kernel
theorem dX8_turns_25 : decode cX8_turns 25 = .ok (.iload_n 1, 1) := by decide +kernel
theorem dX8_turns_26 : decode cX8_turns 26 = .ok (.iaload, 1) := by decide +kernel
theorem dX8_turns_27 : decode cX8_turns 27 = .ok (.istore_n 3, 1) := by decide +kernel
theorem dX8_turns_28 : decode cX8_turns 28 = .ok (.aload_n 0, 1) := by decide +kernel
theorem dX8_turns_29 : decode cX8_turns 29 = .ok (.getfield 10, 3) := by decide +kernel
theorem dX8_turns_32 : decode cX8_turns 32 = .ok (.getfield 97, 3) := by decide +kernel
theorem dX8_turns_35 : decode cX8_turns 35 = .ok (.iload_n 1, 1) := by decide +kernel
theorem dX8_turns_36 : decode cX8_turns 36 = .ok (.iload_n 2, 1) := by decide +kernel
theorem dX8_turns_37 : decode cX8_turns 37 = .ok (.iastore, 1) := by decide +kernel
theorem dX8_turns_38 : decode cX8_turns 38 = .ok (.iload_n 3, 1) := by decide +kernel
theorem dX8_turns_39 : decode cX8_turns 39 = .ok (.ireturn, 1) := by decide +kernel
theorem dX8_set_0 : decode cX8_set 0 = .ok (.aload_n 0, 1) := by decide +kernel
theorem dX8_set_1 : decode cX8_set 1 = .ok (.iload_n 1, 1) := by decide +kernel
theorem dX8_set_2 : decode cX8_set 2 = .ok (.invokevirtual 94, 3) := by decide +kernel
theorem dX8_set_5 : decode cX8_set 5 = .ok (.ifCond .ne 6, 3) := by decide +kernel
theorem dX8_set_8 : decode cX8_set 8 = .ok (.ldc 85, 2) := by decide +kernel
theorem dX8_set_10 : decode cX8_set 10 = .ok (.ireturn, 1) := by decide +kernel
theorem dX8_set_11 : decode cX8_set 11 = .ok (.iload_n 2, 1) := by decide +kernel
theorem dX8_set_12 : decode cX8_set 12 = .ok (.iconst 1, 1) := by decide +kernel
theorem dX8_set_13 : decode cX8_set 13 = .ok (.if_icmp .ne 37, 3) := by decide +kernel
theorem dX8_set_16 : decode cX8_set 16 = .ok (.iload_n 3, 1) := by decide +kernel
theorem dX8_set_17 : decode cX8_set 17 = .ok (.iconst 0, 1) := by decide +kernel
theorem dX8_set_18 : decode cX8_set 18 = .ok (.bipush 8, 2) := by decide +kernel
theorem dX8_set_20 : decode cX8_set 20 = .ok (.invokestatic 81, 3) := by decide +kernel
theorem dX8_set_23 : decode cX8_set 23 = .ok (.ifCond .eq 27, 3) := by decide +kernel
theorem dX8_set_26 : decode cX8_set 26 = .ok (.aload_n 0, 1) := by decide +kernel
theorem dX8_set_27 : decode cX8_set 27 = .ok (.getfield 10, 3) := by decide +kernel
theorem dX8_set_30 : decode cX8_set 30 = .ok (.getfield 100, 3) := by decide +kernel
theorem dX8_set_33 : decode cX8_set 33 = .ok (.iload_n 1, 1) := by decide +kernel
theorem dX8_set_34 : decode cX8_set 34 = .ok (.iaload, 1) := by decide +kernel
theorem dX8_set_35 : decode cX8_set 35 = .ok (.istore 4, 2) := by decide +kernel
theorem dX8_set_37 : decode cX8_set 37 = .ok (.aload_n 0, 1) := by decide +kernel
theorem dX8_set_38 : decode cX8_set 38 = .ok (.getfield 10, 3) := by decide +kernel
theorem dX8_set_41 : decode cX8_set 41 = .ok (.getfield 100, 3) := by decide +kernel
theorem dX8_set_44 : decode cX8_set 44 = .ok (.iload_n 1, 1) := by decide +kernel
theorem dX8_set_45 : decode cX8_set 45 = .ok (.iload_n 3, 1) := by decide +kernel
theorem dX8_set_46 : decode cX8_set 46 = .ok (.iastore, 1) := by decide +kernel
theorem dX8_set_47 : decode cX8_set 47 = .ok (.iload 4, 2) := by decide +kernel
theorem dX8_set_49 : decode cX8_set 49 = .ok (.ireturn, 1) := by decide +kernel
theorem dX8_set_50 : decode cX8_set 50 = .ok (.iload_n 2, 1) := by decide +kernel
theorem dX8_set_51 : decode cX8_set 51 = .ok (.iconst 2, 1) := by decide +kernel
theorem dX8_set_52 : decode cX8_set 52 = .ok (.if_icmp .ne 37, 3) := by decide +kernel
theorem dX8_set_55 : decode cX8_set 55 = .ok (.iload_n 3, 1) := by decide +kernel
theorem dX8_set_56 : decode cX8_set 56 = .ok (.iconst 0, 1) := by decide +kernel
theorem dX8_set_57 : decode cX8_set 57 = .ok (.bipush 20, 2) := by decide +kernel
theorem dX8_set_59 : decode cX8_set 59 = .ok (.invokestatic 81, 3) := by decide +kernel
theorem dX8_set_62 : decode cX8_set 62 = .ok (.ifCond .eq 27, 3) := by decide +kernel
theorem dX8_set_65 : decode cX8_set 65 = .ok (.aload_n 0, 1) := by decide +kernel
theorem dX8_set_66 : decode cX8_set 66 = .ok (.getfield 10, 3) := by decide +kernel
theorem dX8_set_69 : decode cX8_set 69 = .ok (.getfield 103, 3) := by decide +kernel
theorem dX8_set_72 : decode cX8_set 72 = .ok (.iload_n 1, 1) := by decide +kernel
theorem dX8_set_73 : decode cX8_set 73 = .ok (.iaload, 1) := by decide +kernel
theorem dX8_set_74 : decode cX8_set 74 = .ok (.istore 4, 2) := by decide +kernel
theorem dX8_set_76 : decode cX8_set 76 = .ok (.aload_n 0, 1) := by decide +kernel
theorem dX8_set_77 : decode cX8_set 77 = .ok (.getfield 10, 3) := by decide +kernel
theorem dX8_set_80 : decode cX8_set 80 = .ok (.getfield 103, 3) := by decide +kernel
theorem dX8_set_83 : decode cX8_set 83 = .ok (.iload_n 1, 1) := by decide +kernel
theorem dX8_set_84 : decode cX8_set 84 = .ok (.iload_n 3, 1) := by decide +kernel
theorem dX8_set_85 : decode cX8_set 85 = .ok (.iastore, 1) := by decide +kernel
theorem dX8_set_86 : decode cX8_set 86 = .ok (.iload 4, 2) := by decide +kernel
theorem dX8_set_88 : decode cX8_set 88 = .ok (.ireturn, 1) := by decide +kernel
theorem dX8_set_89 : decode cX8_set 89 = .ok (.ldc 85, 2) := by decide +kernel
theorem dX8_set_91 : decode cX8_set 91 = .ok (.ireturn, 1) := by decide +kernel
theorem dX8_rent_0 : decode cX8_rent 0 = .ok (.iload_n 1, 1) := by decide +kernel
theorem dX8_rent_1 : decode cX8_rent 1 = .ok (.invokestatic 140, 3) := by decide +kernel
theorem dX8_rent_4 : decode cX8_rent 4 = .ok (.ifCond .eq 13, 3) := by decide +kernel
theorem dX8_rent_7 : decode cX8_rent 7 = .ok (.iload_n 2, 1) := by decide +kernel
theorem dX8_rent_8 : decode cX8_rent 8 = .ok (.iconst 0, 1) := by decide +kernel
theorem dX8_rent_9 : decode cX8_rent 9 = .ok (.bipush 9, 2) := by decide +kernel
theorem dX8_rent_11 : decode cX8_rent 11 = .ok (.invokestatic 81, 3) := by decide +kernel
theorem dX8_rent_14 : decode cX8_rent 14 = .ok (.ifCond .ne 6, 3) := by decide +kernel
theorem dX8_rent_17 : decode cX8_rent 17 = .ok (.ldc 85, 2) := by decide +kernel
theorem dX8_rent_19 : decode cX8_rent 19 = .ok (.ireturn, 1) := by decide +kernel
theorem dX8_rent_20 : decode cX8_rent 20 = .ok (.aload_n 0, 1) := by decide +kernel
theorem dX8_rent_21 : decode cX8_rent 21 = .ok (.getfield 10, 3) := by decide +kernel
theorem dX8_rent_24 : decode cX8_rent 24 = .ok (.getfield 143, 3) := by decide +kernel
theorem dX8_rent_27 : decode cX8_rent 27 = .ok (.iload_n 1, 1) := by decide +kernel
theorem dX8_rent_28 : decode cX8_rent 28 = .ok (.iaload, 1) := by decide +kernel
theorem dX8_rent_29 : decode cX8_rent 29 = .ok (.istore_n 3, 1) := by decide +kernel
theorem dX8_rent_30 : decode cX8_rent 30 = .ok (.aload_n 0, 1) := by decide +kernel
theorem dX8_rent_31 : decode cX8_rent 31 = .ok (.getfield 10, 3) := by decide +kernel
theorem dX8_rent_34 : decode cX8_rent 34 = .ok (.getfield 143, 3) := by decide +kernel
theorem dX8_rent_37 : decode cX8_rent 37 = .ok (.iload_n 1, 1) := by decide +kernel
theorem dX8_rent_38 : decode cX8_rent 38 = .ok (.iload_n 2, 1) := by decide +kernel
theorem dX8_rent_39 : decode cX8_rent 39 = .ok (.iastore, 1) := by decide +kernel
theorem dX8_rent_40 : decode cX8_rent 40 = .ok (.iload_n 3, 1) := by decide +kernel
theorem dX8_rent_41 : decode cX8_rent 41 = .ok (.ireturn, 1) := by decide +kernel
theorem dX8_rule_0 : decode cX8_rule 0 = .ok (.iload_n 1, 1) := by decide +kernel
theorem dX8_rule_1 : decode cX8_rule 1 = .ok (.ifCond .ne 31, 3) := by decide +kernel
theorem dX8_rule_4 : decode cX8_rule 4 = .ok (.iload_n 2, 1) := by decide +kernel
theorem dX8_rule_5 : decode cX8_rule 5 = .ok (.iconst 0, 1) := by decide +kernel
theorem dX8_rule_6 : decode cX8_rule 6 = .ok (.bipush 100, 2) := by decide +kernel
theorem dX8_rule_8 : decode cX8_rule 8 = .ok (.invokestatic 81, 3) := by decide +kernel
theorem dX8_rule_11 : decode cX8_rule 11 = .ok (.ifCond .eq 21, 3) := by decide +kernel
theorem dX8_rule_14 : decode cX8_rule 14 = .ok (.aload_n 0, 1) := by decide +kernel
theorem dX8_rule_15 : decode cX8_rule 15 = .ok (.getfield 10, 3) := by decide +kernel
theorem dX8_rule_18 : decode cX8_rule 18 = .ok (.getfield 146, 3) := by decide +kernel
theorem dX8_rule_21 : decode cX8_rule 21 = .ok (.istore_n 3, 1) := by decide +kernel
theorem dX8_rule_22 : decode cX8_rule 22 = .ok (.aload_n 0, 1) := by decide +kernel
theorem dX8_rule_23 : decode cX8_rule 23 = .ok (.getfield 10, 3) := by decide +kernel
theorem dX8_rule_26 : decode cX8_rule 26 = .ok (.iload_n 2, 1) := by decide +kernel
theorem dX8_rule_27 : decode cX8_rule 27 = .ok (.putfield 146, 3) := by decide +kernel
theorem dX8_rule_30 : decode cX8_rule 30 = .ok (.iload_n 3, 1) := by decide +kernel
theorem dX8_rule_31 : decode cX8_rule 31 = .ok (.ireturn, 1) := by decide +kernel
theorem dX8_rule_32 : decode cX8_rule 32 = .ok (.iload_n 1, 1) := by decide +kernel
theorem dX8_rule_33 : decode cX8_rule 33 = .ok (.iconst 1, 1) := by decide +kernel
theorem dX8_rule_34 : decode cX8_rule 34 = .ok (.if_icmp .ne 47, 3) := by decide +kernel
theorem dX8_rule_37 : decode cX8_rule 37 = .ok (.iload_n 2, 1) := by decide +kernel
theorem dX8_rule_38 : decode cX8_rule 38 = .ok (.iconst 0, 1) := by decide +kernel
theorem dX8_rule_39 : decode cX8_rule 39 = .ok (.iconst 1, 1) := by decide +kernel
theorem dX8_rule_40 : decode cX8_rule 40 = .ok (.invokestatic 81, 3) := by decide +kernel
theorem dX8_rule_43 : decode cX8_rule 43 = .ok (.ifCond .eq 38, 3) := by decide +kernel
theorem dX8_rule_46 : decode cX8_rule 46 = .ok (.aload_n 0, 1) := by decide +kernel
theorem dX8_rule_47 : decode cX8_rule 47 = .ok (.getfield 10, 3) := by decide +kernel
theorem dX8_rule_50 : decode cX8_rule 50 = .ok (.getfield 149, 3) := by decide +kernel
theorem dX8_rule_53 : decode cX8_rule 53 = .ok (.ifCond .eq 7, 3) := by decide +kernel
theorem dX8_rule_56 : decode cX8_rule 56 = .ok (.iconst 1, 1) := by decide +kernel
theorem dX8_rule_57 : decode cX8_rule 57 = .ok (.goto 4, 3) := by decide +kernel
theorem dX8_rule_60 : decode cX8_rule 60 = .ok (.iconst 0, 1) := by decide +kernel
theorem dX8_rule_61 : decode cX8_rule 61 = .ok (.istore_n 3, 1) := by decide +kernel
theorem dX8_rule_62 : decode cX8_rule 62 = .ok (.aload_n 0, 1) := by decide +kernel
theorem dX8_rule_63 : decode cX8_rule 63 = .ok (.getfield 10, 3) := by decide +kernel
theorem dX8_rule_66 : decode cX8_rule 66 = .ok (.iload_n 2, 1) := by decide +kernel
theorem dX8_rule_67 : decode cX8_rule 67 = .ok (.iconst 1, 1) := by decide +kernel
theorem dX8_rule_68 : decode cX8_rule 68 = .ok (.if_icmp .ne 7, 3) := by decide +kernel
theorem dX8_rule_71 : decode cX8_rule 71 = .ok (.iconst 1, 1) := by decide +kernel
theorem dX8_rule_72 : decode cX8_rule 72 = .ok (.goto 4, 3) := by decide +kernel
theorem dX8_rule_75 : decode cX8_rule 75 = .ok (.iconst 0, 1) := by decide +kernel
theorem dX8_rule_76 : decode cX8_rule 76 = .ok (.putfield 149, 3) := by decide +kernel
theorem dX8_rule_79 : decode cX8_rule 79 = .ok (.iload_n 3, 1) := by decide +kernel
theorem dX8_rule_80 : decode cX8_rule 80 = .ok (.ireturn, 1) := by decide +kernel
theorem dX8_rule_81 : decode cX8_rule 81 = .ok (.iload_n 1, 1) := by decide +kernel
theorem dX8_rule_82 : decode cX8_rule 82 = .ok (.iconst 2, 1) := by decide +kernel
theorem dX8_rule_83 : decode cX8_rule 83 = .ok (.if_icmp .ne 31, 3) := by decide +kernel
theorem dX8_rule_86 : decode cX8_rule 86 = .ok (.iload_n 2, 1) := by decide +kernel
theorem dX8_rule_87 : decode cX8_rule 87 = .ok (.iconst 0, 1) := by decide +kernel
theorem dX8_rule_88 : decode cX8_rule 88 = .ok (.bipush 8, 2) := by decide +kernel
theorem dX8_rule_90 : decode cX8_rule 90 = .ok (.invokestatic 81, 3) := by decide +kernel
theorem dX8_rule_93 : decode cX8_rule 93 = .ok (.ifCond .eq 21, 3) := by decide +kernel
theorem dX8_rule_96 : decode cX8_rule 96 = .ok (.aload_n 0, 1) := by decide +kernel
theorem dX8_rule_97 : decode cX8_rule 97 = .ok (.getfield 10, 3) := by decide +kernel
theorem dX8_rule_100 : decode cX8_rule 100 = .ok (.getfield 152, 3) := by decide +kernel
theorem dX8_rule_103 : decode cX8_rule 103 = .ok (.istore_n 3, 1) := by decide +kernel
theorem dX8_rule_104 : decode cX8_rule 104 = .ok (.aload_n 0, 1) := by decide +kernel
theorem dX8_rule_105 : decode cX8_rule 105 = .ok (.getfield 10, 3) := by decide +kernel
theorem dX8_rule_108 : decode cX8_rule 108 = .ok (.iload_n 2, 1) := by decide +kernel
theorem dX8_rule_109 : decode cX8_rule 109 = .ok (.putfield 152, 3) := by decide +kernel
theorem dX8_rule_112 : decode cX8_rule 112 = .ok (.iload_n 3, 1) := by decide +kernel
theorem dX8_rule_113 : decode cX8_rule 113 = .ok (.ireturn, 1) := by decide +kernel
theorem dX8_rule_114 : decode cX8_rule 114 = .ok (.ldc 85, 2) := by decide +kernel
theorem dX8_rule_116 : decode cX8_rule 116 = .ok (.ireturn, 1) := by decide +kernel
theorem dX8_deal_0 : decode cX8_deal 0 = .ok (.iload_n 1, 1) := by decide +kernel
theorem dX8_deal_1 : decode cX8_deal 1 = .ok (.iconst 1, 1) := by decide +kernel
theorem dX8_deal_2 : decode cX8_deal 2 = .ok (.bipush 8, 2) := by decide +kernel
theorem dX8_deal_4 : decode cX8_deal 4 = .ok (.invokestatic 81, 3) := by decide +kernel
theorem dX8_deal_7 : decode cX8_deal 7 = .ok (.ifCond .ne 6, 3) := by decide +kernel
theorem dX8_deal_10 : decode cX8_deal 10 = .ok (.ldc 85, 2) := by decide +kernel
theorem dX8_deal_12 : decode cX8_deal 12 = .ok (.ireturn, 1) := by decide +kernel
theorem dX8_deal_13 : decode cX8_deal 13 = .ok (.iload_n 1, 1) := by decide +kernel
theorem dX8_deal_14 : decode cX8_deal 14 = .ok (.bipush 8, 2) := by decide +kernel
theorem dX8_deal_16 : decode cX8_deal 16 = .ok (.aload_n 0, 1) := by decide +kernel
theorem dX8_deal_17 : decode cX8_deal 17 = .ok (.getfield 10, 3) := by decide +kernel
theorem dX8_deal_20 : decode cX8_deal 20 = .ok (.getfield 86, 3) := by decide +kernel
theorem dX8_deal_23 : decode cX8_deal 23 = .ok (.isub, 1) := by decide +kernel
theorem dX8_deal_24 : decode cX8_deal 24 = .ok (.invokestatic 155, 3) := by decide +kernel
theorem dX8_deal_27 : decode cX8_deal 27 = .ok (.istore_n 2, 1) := by decide +kernel
theorem dX8_deal_28 : decode cX8_deal 28 = .ok (.iconst 0, 1) := by decide +kernel
theorem dX8_deal_29 : decode cX8_deal 29 = .ok (.istore_n 3, 1) := by decide +kernel
theorem dX8_deal_30 : decode cX8_deal 30 = .ok (.iload_n 3, 1) := by decide +kernel
theorem dX8_deal_31 : decode cX8_deal 31 = .ok (.iload_n 2, 1) := by decide +kernel
theorem dX8_deal_32 : decode cX8_deal 32 = .ok (.if_icmp .ge 59, 3) := by decide +kernel
theorem dX8_deal_35 : decode cX8_deal 35 = .ok (.aload_n 0, 1) := by decide +kernel
theorem dX8_deal_36 : decode cX8_deal 36 = .ok (.getfield 10, 3) := by decide +kernel
theorem dX8_deal_39 : decode cX8_deal 39 = .ok (.invokevirtual 160, 3) := by decide +kernel
theorem dX8_deal_42 : decode cX8_deal 42 = .ok (.bipush 6, 2) := by decide +kernel
theorem dX8_deal_44 : decode cX8_deal 44 = .ok (.irem, 1) := by decide +kernel
theorem dX8_deal_45 : decode cX8_deal 45 = .ok (.istore 4, 2) := by decide +kernel
theorem dX8_deal_47 : decode cX8_deal 47 = .ok (.aload_n 0, 1) := by decide +kernel
theorem dX8_deal_48 : decode cX8_deal 48 = .ok (.getfield 10, 3) := by decide +kernel
theorem dX8_deal_51 : decode cX8_deal 51 = .ok (.invokevirtual 160, 3) := by decide +kernel
theorem dX8_deal_54 : decode cX8_deal 54 = .ok (.bipush 9, 2) := by decide +kernel
theorem dX8_deal_56 : decode cX8_deal 56 = .ok (.irem, 1) := by decide +kernel
theorem dX8_deal_57 : decode cX8_deal 57 = .ok (.istore 5, 2) := by decide +kernel
theorem dX8_deal_59 : decode cX8_deal 59 = .ok (.aload_n 0, 1) := by decide +kernel
theorem dX8_deal_60 : decode cX8_deal 60 = .ok (.getfield 10, 3) := by decide +kernel
theorem dX8_deal_63 : decode cX8_deal 63 = .ok (.invokevirtual 160, 3) := by decide +kernel
theorem dX8_deal_66 : decode cX8_deal 66 = .ok (.bipush 21, 2) := by decide +kernel
theorem dX8_deal_68 : decode cX8_deal 68 = .ok (.irem, 1) := by decide +kernel
theorem dX8_deal_69 : decode cX8_deal 69 = .ok (.istore 6, 2) := by decide +kernel
theorem dX8_deal_71 : decode cX8_deal 71 = .ok (.aload_n 0, 1) := by decide +kernel
theorem dX8_deal_72 : decode cX8_deal 72 = .ok (.getfield 10, 3) := by decide +kernel
theorem dX8_deal_75 : decode cX8_deal 75 = .ok (.iload 4, 2) := by decide +kernel
theorem dX8_deal_77 : decode cX8_deal 77 = .ok (.iload 5, 2) := by decide +kernel
theorem dX8_deal_79 : decode cX8_deal 79 = .ok (.iload 6, 2) := by decide +kernel
theorem dX8_deal_81 : decode cX8_deal 81 = .ok (.invokevirtual 90, 3) := by decide +kernel
theorem dX8_deal_84 : decode cX8_deal 84 = .ok (.pop, 1) := by decide +kernel
theorem dX8_deal_85 : decode cX8_deal 85 = .ok (.iinc 3 1, 3) := by decide +kernel
theorem dX8_deal_88 : decode cX8_deal 88 = .ok (.goto (-58), 3) := by decide +kernel
theorem dX8_deal_91 : decode cX8_deal 91 = .ok (.iload_n 2, 1) := by decide +kernel
theorem dX8_deal_92 : decode cX8_deal 92 = .ok (.ireturn, 1) := by decide +kernel
theorem dX8_seed_0 : decode cX8_seed 0 = .ok (.aload_n 0, 1) := by decide +kernel
theorem dX8_seed_1 : decode cX8_seed 1 = .ok (.getfield 10, 3) := by decide +kernel
theorem dX8_seed_4 : decode cX8_seed 4 = .ok (.getfield 164, 3) := by decide +kernel
theorem dX8_seed_7 : decode cX8_seed 7 = .ok (.istore_n 2, 1) := by decide +kernel
theorem dX8_seed_8 : decode cX8_seed 8 = .ok (.aload_n 0, 1) := by decide +kernel
theorem dX8_seed_9 : decode cX8_seed 9 = .ok (.getfield 10, 3) := by decide +kernel
theorem dX8_seed_12 : decode cX8_seed 12 = .ok (.iload_n 1, 1) := by decide +kernel
theorem dX8_seed_13 : decode cX8_seed 13 = .ok (.putfield 164, 3) := by decide +kernel
theorem dX8_seed_16 : decode cX8_seed 16 = .ok (.iload_n 2, 1) := by decide +kernel
theorem dX8_seed_17 : decode cX8_seed 17 = .ok (.ireturn, 1) := by decide +kernel
theorem dX8_hours_0 : decode cX8_hours 0 = .ok (.iload_n 1, 1) := by decide +kernel
theorem dX8_hours_1 : decode cX8_hours 1 = .ok (.iconst 1, 1) := by decide +kernel
theorem dX8_hours_2 : decode cX8_hours 2 = .ok (.bipush 100, 2) := by decide +kernel
theorem dX8_hours_4 : decode cX8_hours 4 = .ok (.invokestatic 81, 3) := by decide +kernel
theorem dX8_hours_7 : decode cX8_hours 7 = .ok (.ifCond .ne 6, 3) := by decide +kernel
theorem dX8_hours_10 : decode cX8_hours 10 = .ok (.ldc 85, 2) := by decide +kernel
theorem dX8_hours_12 : decode cX8_hours 12 = .ok (.ireturn, 1) := by decide +kernel
theorem dX8_hours_13 : decode cX8_hours 13 = .ok (.aload_n 0, 1) := by decide +kernel
theorem dX8_hours_14 : decode cX8_hours 14 = .ok (.getfield 10, 3) := by decide +kernel
theorem dX8_hours_17 : decode cX8_hours 17 = .ok (.invokevirtual 167, 3) := by decide +kernel
theorem dX8_hours_20 : decode cX8_hours 20 = .ok (.istore_n 2, 1) := by decide +kernel
theorem dX8_hours_21 : decode cX8_hours 21 = .ok (.aload_n 0, 1) := by decide +kernel
theorem dX8_hours_22 : decode cX8_hours 22 = .ok (.getfield 51, 3) := by decide +kernel
theorem dX8_hours_25 : decode cX8_hours 25 = .ok (.aload_n 0, 1) := by decide +kernel
theorem dX8_hours_26 : decode cX8_hours 26 = .ok (.iconst 0, 1) := by decide +kernel
theorem dX8_hours_27 : decode cX8_hours 27 = .ok (.aload_n 0, 1) := by decide +kernel
theorem dX8_hours_28 : decode cX8_hours 28 = .ok (.getfield 10, 3) := by decide +kernel
theorem dX8_hours_31 : decode cX8_hours 31 = .ok (.getfield 121, 3) := by decide +kernel
theorem dX8_hours_34 : decode cX8_hours 34 = .ok (.invokevirtual 123, 3) := by decide +kernel
theorem dX8_hours_37 : decode cX8_hours 37 = .ok (.invokevirtual 127, 3) := by decide +kernel
theorem dX8_hours_40 : decode cX8_hours 40 = .ok (.aload_n 0, 1) := by decide +kernel
theorem dX8_hours_41 : decode cX8_hours 41 = .ok (.getfield 10, 3) := by decide +kernel
theorem dX8_hours_44 : decode cX8_hours 44 = .ok (.iload_n 1, 1) := by decide +kernel
theorem dX8_hours_45 : decode cX8_hours 45 = .ok (.sipush 9999, 3) := by decide +kernel
theorem dX8_hours_48 : decode cX8_hours 48 = .ok (.aload_n 0, 1) := by decide +kernel
theorem dX8_hours_49 : decode cX8_hours 49 = .ok (.getfield 10, 3) := by decide +kernel
theorem dX8_hours_52 : decode cX8_hours 52 = .ok (.getfield 170, 3) := by decide +kernel
theorem dX8_hours_55 : decode cX8_hours 55 = .ok (.isub, 1) := by decide +kernel
theorem dX8_hours_56 : decode cX8_hours 56 = .ok (.invokestatic 155, 3) := by decide +kernel
theorem dX8_hours_59 : decode cX8_hours 59 = .ok (.aload_n 0, 1) := by decide +kernel
theorem dX8_hours_60 : decode cX8_hours 60 = .ok (.getfield 51, 3) := by decide +kernel
theorem dX8_hours_63 : decode cX8_hours 63 = .ok (.invokevirtual 173, 3) := by decide +kernel
theorem dX8_hours_66 : decode cX8_hours 66 = .ok (.aload_n 0, 1) := by decide +kernel
theorem dX8_hours_67 : decode cX8_hours 67 = .ok (.getfield 10, 3) := by decide +kernel
theorem dX8_hours_70 : decode cX8_hours 70 = .ok (.invokevirtual 167, 3) := by decide +kernel
theorem dX8_hours_73 : decode cX8_hours 73 = .ok (.iload_n 2, 1) := by decide +kernel
theorem dX8_hours_74 : decode cX8_hours 74 = .ok (.isub, 1) := by decide +kernel
theorem dX8_hours_75 : decode cX8_hours 75 = .ok (.ireturn, 1) := by decide +kernel
theorem dX8_guild_0 : decode cX8_guild 0 = .ok (.iload_n 1, 1) := by decide +kernel
theorem dX8_guild_1 : decode cX8_guild 1 = .ok (.tableswitch 75 0 4 #[35, 43, 51, 59, 67], 35) := by decide +kernel
theorem dX8_guild_36 : decode cX8_guild 36 = .ok (.aload_n 0, 1) := by decide +kernel
theorem dX8_guild_37 : decode cX8_guild 37 = .ok (.getfield 10, 3) := by decide +kernel
theorem dX8_guild_40 : decode cX8_guild 40 = .ok (.invokevirtual 177, 3) := by decide +kernel
theorem dX8_guild_43 : decode cX8_guild 43 = .ok (.ireturn, 1) := by decide +kernel
theorem dX8_guild_44 : decode cX8_guild 44 = .ok (.aload_n 0, 1) := by decide +kernel
theorem dX8_guild_45 : decode cX8_guild 45 = .ok (.getfield 10, 3) := by decide +kernel
theorem dX8_guild_48 : decode cX8_guild 48 = .ok (.getfield 180, 3) := by decide +kernel
theorem dX8_guild_51 : decode cX8_guild 51 = .ok (.ireturn, 1) := by decide +kernel
theorem dX8_guild_52 : decode cX8_guild 52 = .ok (.aload_n 0, 1) := by decide +kernel
theorem dX8_guild_53 : decode cX8_guild 53 = .ok (.getfield 10, 3) := by decide +kernel
theorem dX8_guild_56 : decode cX8_guild 56 = .ok (.invokevirtual 167, 3) := by decide +kernel
theorem dX8_guild_59 : decode cX8_guild 59 = .ok (.ireturn, 1) := by decide +kernel
theorem dX8_guild_60 : decode cX8_guild 60 = .ok (.aload_n 0, 1) := by decide +kernel
theorem dX8_guild_61 : decode cX8_guild 61 = .ok (.getfield 10, 3) := by decide +kernel
theorem dX8_guild_64 : decode cX8_guild 64 = .ok (.invokevirtual 183, 3) := by decide +kernel
theorem dX8_guild_67 : decode cX8_guild 67 = .ok (.ireturn, 1) := by decide +kernel
theorem dX8_guild_68 : decode cX8_guild 68 = .ok (.aload_n 0, 1) := by decide +kernel
theorem dX8_guild_69 : decode cX8_guild 69 = .ok (.getfield 10, 3) := by decide +kernel
theorem dX8_guild_72 : decode cX8_guild 72 = .ok (.invokevirtual 186, 3) := by decide +kernel
theorem dX8_guild_75 : decode cX8_guild 75 = .ok (.ireturn, 1) := by decide +kernel
theorem dX8_guild_76 : decode cX8_guild 76 = .ok (.ldc 85, 2) := by decide +kernel
theorem dX8_guild_78 : decode cX8_guild 78 = .ok (.ireturn, 1) := by decide +kernel
theorem dX8_behind_0 : decode cX8_behind 0 = .ok (.iload_n 1, 1) := by decide +kernel
theorem dX8_behind_1 : decode cX8_behind 1 = .ok (.iconst 0, 1) := by decide +kernel
theorem dX8_behind_2 : decode cX8_behind 2 = .ok (.bipush 100, 2) := by decide +kernel
theorem dX8_behind_4 : decode cX8_behind 4 = .ok (.invokestatic 81, 3) := by decide +kernel
theorem dX8_behind_7 : decode cX8_behind 7 = .ok (.ifCond .eq 20, 3) := by decide +kernel
theorem dX8_behind_10 : decode cX8_behind 10 = .ok (.iload_n 2, 1) := by decide +kernel
theorem dX8_behind_11 : decode cX8_behind 11 = .ok (.iconst 0, 1) := by decide +kernel
theorem dX8_behind_12 : decode cX8_behind 12 = .ok (.iconst 2, 1) := by decide +kernel
theorem dX8_behind_13 : decode cX8_behind 13 = .ok (.aload_n 0, 1) := by decide +kernel
theorem dX8_behind_14 : decode cX8_behind 14 = .ok (.getfield 10, 3) := by decide +kernel
theorem dX8_behind_17 : decode cX8_behind 17 = .ok (.getfield 86, 3) := by decide +kernel
theorem dX8_behind_20 : decode cX8_behind 20 = .ok (.iadd, 1) := by decide +kernel
theorem dX8_behind_21 : decode cX8_behind 21 = .ok (.invokestatic 81, 3) := by decide +kernel
theorem dX8_behind_24 : decode cX8_behind 24 = .ok (.ifCond .ne 6, 3) := by decide +kernel
theorem dX8_behind_27 : decode cX8_behind 27 = .ok (.ldc 85, 2) := by decide +kernel
theorem dX8_behind_29 : decode cX8_behind 29 = .ok (.ireturn, 1) := by decide +kernel
theorem dX8_behind_30 : decode cX8_behind 30 = .ok (.aload_n 0, 1) := by decide +kernel
theorem dX8_behind_31 : decode cX8_behind 31 = .ok (.invokevirtual 189, 3) := by decide +kernel
theorem dX8_behind_34 : decode cX8_behind 34 = .ok (.aload_n 0, 1) := by decide +kernel
theorem dX8_behind_35 : decode cX8_behind 35 = .ok (.getfield 16, 3) := by decide +kernel
theorem dX8_behind_38 : decode cX8_behind 38 = .ok (.iload_n 1, 1) := by decide +kernel
theorem dX8_behind_39 : decode cX8_behind 39 = .ok (.aload_n 0, 1) := by decide +kernel
theorem dX8_behind_40 : decode cX8_behind 40 = .ok (.getfield 51, 3) := by decide +kernel
theorem dX8_behind_43 : decode cX8_behind 43 = .ok (.invokevirtual 173, 3) := by decide +kernel
theorem dX8_behind_46 : decode cX8_behind 46 = .ok (.iload_n 2, 1) := by decide +kernel
theorem dX8_behind_47 : decode cX8_behind 47 = .ok (.tableswitch 49 0 2 #[25, 33, 41], 25) := by decide +kernel
theorem dX8_behind_72 : decode cX8_behind 72 = .ok (.aload_n 0, 1) := by decide +kernel
theorem dX8_behind_73 : decode cX8_behind 73 = .ok (.getfield 16, 3) := by decide +kernel
theorem dX8_behind_76 : decode cX8_behind 76 = .ok (.invokevirtual 177, 3) := by decide +kernel
theorem dX8_behind_79 : decode cX8_behind 79 = .ok (.ireturn, 1) := by decide +kernel
theorem dX8_behind_80 : decode cX8_behind 80 = .ok (.aload_n 0, 1) := by decide +kernel
theorem dX8_behind_81 : decode cX8_behind 81 = .ok (.getfield 16, 3) := by decide +kernel
theorem dX8_behind_84 : decode cX8_behind 84 = .ok (.getfield 180, 3) := by decide +kernel
theorem dX8_behind_87 : decode cX8_behind 87 = .ok (.ireturn, 1) := by decide +kernel
theorem dX8_behind_88 : decode cX8_behind 88 = .ok (.aload_n 0, 1) := by decide +kernel
theorem dX8_behind_89 : decode cX8_behind 89 = .ok (.getfield 16, 3) := by decide +kernel
theorem dX8_behind_92 : decode cX8_behind 92 = .ok (.invokevirtual 167, 3) := by decide +kernel
theorem dX8_behind_95 : decode cX8_behind 95 = .ok (.ireturn, 1) := by decide +kernel
theorem dX8_behind_96 : decode cX8_behind 96 = .ok (.aload_n 0, 1) := by decide +kernel
theorem dX8_behind_97 : decode cX8_behind 97 = .ok (.getfield 16, 3) := by decide +kernel
theorem dX8_behind_100 : decode cX8_behind 100 = .ok (.getfield 106, 3) := by decide +kernel
theorem dX8_behind_103 : decode cX8_behind 103 = .ok (.iload_n 2, 1) := by decide +kernel
theorem dX8_behind_104 : decode cX8_behind 104 = .ok (.iconst 3, 1) := by decide +kernel
theorem dX8_behind_105 : decode cX8_behind 105 = .ok (.isub, 1) := by decide +kernel
theorem dX8_behind_106 : decode cX8_behind 106 = .ok (.iaload, 1) := by decide +kernel
theorem dX8_behind_107 : decode cX8_behind 107 = .ok (.ireturn, 1) := by decide +kernel
theorem dX8_best_0 : decode cX8_best 0 = .ok (.aload_n 0, 1) := by decide +kernel
theorem dX8_best_1 : decode cX8_best 1 = .ok (.iload_n 1, 1) := by decide +kernel
theorem dX8_best_2 : decode cX8_best 2 = .ok (.invokevirtual 94, 3) := by decide +kernel
theorem dX8_best_5 : decode cX8_best 5 = .ok (.ifCond .eq 22, 3) := by decide +kernel
theorem dX8_best_8 : decode cX8_best 8 = .ok (.iload_n 2, 1) := by decide +kernel
theorem dX8_best_9 : decode cX8_best 9 = .ok (.iconst 1, 1) := by decide +kernel
theorem dX8_best_10 : decode cX8_best 10 = .ok (.bipush 40, 2) := by decide +kernel
theorem dX8_best_12 : decode cX8_best 12 = .ok (.invokestatic 81, 3) := by decide +kernel
theorem dX8_best_15 : decode cX8_best 15 = .ok (.ifCond .eq 12, 3) := by decide +kernel
theorem dX8_best_18 : decode cX8_best 18 = .ok (.iload_n 3, 1) := by decide +kernel
theorem dX8_best_19 : decode cX8_best 19 = .ok (.iconst 0, 1) := by decide +kernel
theorem dX8_best_20 : decode cX8_best 20 = .ok (.iconst 1, 1) := by decide +kernel
theorem dX8_best_21 : decode cX8_best 21 = .ok (.invokestatic 81, 3) := by decide +kernel
theorem dX8_best_24 : decode cX8_best 24 = .ok (.ifCond .ne 6, 3) := by decide +kernel
theorem dX8_best_27 : decode cX8_best 27 = .ok (.ldc 85, 2) := by decide +kernel
theorem dX8_best_29 : decode cX8_best 29 = .ok (.ireturn, 1) := by decide +kernel
theorem dX8_best_30 : decode cX8_best 30 = .ok (.iconst 0, 1) := by decide +kernel
theorem dX8_best_31 : decode cX8_best 31 = .ok (.istore 4, 2) := by decide +kernel
theorem dX8_best_33 : decode cX8_best 33 = .ok (.iconst 0, 1) := by decide +kernel
theorem dX8_best_34 : decode cX8_best 34 = .ok (.istore 5, 2) := by decide +kernel
theorem dX8_best_36 : decode cX8_best 36 = .ok (.iconst 0, 1) := by decide +kernel
theorem dX8_best_37 : decode cX8_best 37 = .ok (.istore 6, 2) := by decide +kernel
theorem dX8_best_39 : decode cX8_best 39 = .ok (.iload 6, 2) := by decide +kernel
theorem dX8_best_41 : decode cX8_best 41 = .ok (.bipush 8, 2) := by decide +kernel
theorem dX8_best_43 : decode cX8_best 43 = .ok (.if_icmp .gt 67, 3) := by decide +kernel
theorem dX8_best_46 : decode cX8_best 46 = .ok (.aload_n 0, 1) := by decide +kernel
theorem dX8_best_47 : decode cX8_best 47 = .ok (.invokevirtual 189, 3) := by decide +kernel
theorem dX8_best_50 : decode cX8_best 50 = .ok (.aload_n 0, 1) := by decide +kernel
theorem dX8_best_51 : decode cX8_best 51 = .ok (.getfield 16, 3) := by decide +kernel
theorem dX8_best_54 : decode cX8_best 54 = .ok (.getfield 100, 3) := by decide +kernel
theorem dX8_best_57 : decode cX8_best 57 = .ok (.iload_n 1, 1) := by decide +kernel
theorem dX8_best_58 : decode cX8_best 58 = .ok (.iload 6, 2) := by decide +kernel
theorem dX8_best_60 : decode cX8_best 60 = .ok (.iastore, 1) := by decide +kernel
theorem dX8_best_61 : decode cX8_best 61 = .ok (.aload_n 0, 1) := by decide +kernel
theorem dX8_best_62 : decode cX8_best 62 = .ok (.getfield 16, 3) := by decide +kernel
theorem dX8_best_65 : decode cX8_best 65 = .ok (.iload_n 2, 1) := by decide +kernel
theorem dX8_best_66 : decode cX8_best 66 = .ok (.aload_n 0, 1) := by decide +kernel
theorem dX8_best_67 : decode cX8_best 67 = .ok (.getfield 51, 3) := by decide +kernel
theorem dX8_best_70 : decode cX8_best 70 = .ok (.invokevirtual 173, 3) := by decide +kernel
theorem dX8_best_73 : decode cX8_best 73 = .ok (.aload_n 0, 1) := by decide +kernel
theorem dX8_best_74 : decode cX8_best 74 = .ok (.getfield 16, 3) := by decide +kernel
theorem dX8_best_77 : decode cX8_best 77 = .ok (.getfield 106, 3) := by decide +kernel
theorem dX8_best_80 : decode cX8_best 80 = .ok (.iload_n 1, 1) := by decide +kernel
theorem dX8_best_81 : decode cX8_best 81 = .ok (.iaload, 1) := by decide +kernel
theorem dX8_best_82 : decode cX8_best 82 = .ok (.istore 7, 2) := by decide +kernel
theorem dX8_best_84 : decode cX8_best 84 = .ok (.iload 6, 2) := by decide +kernel
theorem dX8_best_86 : decode cX8_best 86 = .ok (.ifCond .eq 10, 3) := by decide +kernel
theorem dX8_best_89 : decode cX8_best 89 = .ok (.iload 7, 2) := by decide +kernel
theorem dX8_best_91 : decode cX8_best 91 = .ok (.iload 5, 2) := by decide +kernel
theorem dX8_best_93 : decode cX8_best 93 = .ok (.if_icmp .le 11, 3) := by decide +kernel
theorem dX8_best_96 : decode cX8_best 96 = .ok (.iload 6, 2) := by decide +kernel
theorem dX8_best_98 : decode cX8_best 98 = .ok (.istore 4, 2) := by decide +kernel
theorem dX8_best_100 : decode cX8_best 100 = .ok (.iload 7, 2) := by decide +kernel
theorem dX8_best_102 : decode cX8_best 102 = .ok (.istore 5, 2) := by decide +kernel
theorem dX8_best_104 : decode cX8_best 104 = .ok (.iinc 6 1, 3) := by decide +kernel
theorem dX8_best_107 : decode cX8_best 107 = .ok (.goto (-68), 3) := by decide +kernel
theorem dX8_best_110 : decode cX8_best 110 = .ok (.iload_n 3, 1) := by decide +kernel
theorem dX8_best_111 : decode cX8_best 111 = .ok (.ifCond .ne 8, 3) := by decide +kernel
theorem dX8_best_114 : decode cX8_best 114 = .ok (.iload 4, 2) := by decide +kernel
theorem dX8_best_116 : decode cX8_best 116 = .ok (.goto 5, 3) := by decide +kernel
theorem dX8_best_119 : decode cX8_best 119 = .ok (.iload 5, 2) := by decide +kernel
theorem dX8_best_121 : decode cX8_best 121 = .ok (.ireturn, 1) := by decide +kernel
theorem dX8_letting_0 : decode cX8_letting 0 = .ok (.iload_n 1, 1) := by decide +kernel
theorem dX8_letting_1 : decode cX8_letting 1 = .ok (.iconst 1, 1) := by decide +kernel
theorem dX8_letting_2 : decode cX8_letting 2 = .ok (.iconst 4, 1) := by decide +kernel
theorem dX8_letting_3 : decode cX8_letting 3 = .ok (.invokestatic 81, 3) := by decide +kernel
theorem dX8_letting_6 : decode cX8_letting 6 = .ok (.ifCond .eq 12, 3) := by decide +kernel
theorem dX8_letting_9 : decode cX8_letting 9 = .ok (.iload_n 2, 1) := by decide +kernel
theorem dX8_letting_10 : decode cX8_letting 10 = .ok (.iconst 0, 1) := by decide +kernel
theorem dX8_letting_11 : decode cX8_letting 11 = .ok (.iconst 1, 1) := by decide +kernel
theorem dX8_letting_12 : decode cX8_letting 12 = .ok (.invokestatic 81, 3) := by decide +kernel
theorem dX8_letting_15 : decode cX8_letting 15 = .ok (.ifCond .ne 6, 3) := by decide +kernel
theorem dX8_letting_18 : decode cX8_letting 18 = .ok (.ldc 85, 2) := by decide +kernel
theorem dX8_letting_20 : decode cX8_letting 20 = .ok (.ireturn, 1) := by decide +kernel
theorem dX8_letting_21 : decode cX8_letting 21 = .ok (.aload_n 0, 1) := by decide +kernel
theorem dX8_letting_22 : decode cX8_letting 22 = .ok (.getfield 10, 3) := by decide +kernel
theorem dX8_letting_25 : decode cX8_letting 25 = .ok (.getfield 86, 3) := by decide +kernel
theorem dX8_letting_28 : decode cX8_letting 28 = .ok (.ifCond .ne 6, 3) := by decide +kernel
theorem dX8_letting_31 : decode cX8_letting 31 = .ok (.ldc 192, 2) := by decide +kernel
theorem dX8_letting_33 : decode cX8_letting 33 = .ok (.ireturn, 1) := by decide +kernel
theorem dX8_letting_34 : decode cX8_letting 34 = .ok (.iconst 3, 1) := by decide +kernel
theorem dX8_letting_35 : decode cX8_letting 35 = .ok (.aload_n 0, 1) := by decide +kernel
theorem dX8_letting_36 : decode cX8_letting 36 = .ok (.getfield 10, 3) := by decide +kernel
theorem dX8_letting_39 : decode cX8_letting 39 = .ok (.getfield 86, 3) := by decide +kernel
theorem dX8_letting_42 : decode cX8_letting 42 = .ok (.invokestatic 155, 3) := by decide +kernel
theorem dX8_letting_45 : decode cX8_letting 45 = .ok (.istore_n 3, 1) := by decide +kernel
theorem dX8_letting_46 : decode cX8_letting 46 = .ok (.iconst 1, 1) := by decide +kernel
theorem dX8_letting_47 : decode cX8_letting 47 = .ok (.iconst 3, 1) := by decide +kernel
theorem dX8_letting_48 : decode cX8_letting 48 = .ok (.iload_n 3, 1) := by decide +kernel
theorem dX8_letting_49 : decode cX8_letting 49 = .ok (.imul, 1) := by decide +kernel
theorem dX8_letting_50 : decode cX8_letting 50 = .ok (.ishl, 1) := by decide +kernel
theorem dX8_letting_51 : decode cX8_letting 51 = .ok (.istore 4, 2) := by decide +kernel
theorem dX8_letting_53 : decode cX8_letting 53 = .ok (.ldc 192, 2) := by decide +kernel
theorem dX8_letting_55 : decode cX8_letting 55 = .ok (.istore 5, 2) := by decide +kernel
theorem dX8_letting_57 : decode cX8_letting 57 = .ok (.iconst 0, 1) := by decide +kernel
theorem dX8_letting_58 : decode cX8_letting 58 = .ok (.istore 6, 2) := by decide +kernel
theorem dX8_letting_60 : decode cX8_letting 60 = .ok (.iconst 0, 1) := by decide +kernel
theorem dX8_letting_61 : decode cX8_letting 61 = .ok (.istore 7, 2) := by decide +kernel
theorem dX8_letting_63 : decode cX8_letting 63 = .ok (.iload 7, 2) := by decide +kernel
theorem dX8_letting_65 : decode cX8_letting 65 = .ok (.iload 4, 2) := by decide +kernel
theorem dX8_letting_67 : decode cX8_letting 67 = .ok (.if_icmp .ge 79, 3) := by decide +kernel
theorem dX8_letting_70 : decode cX8_letting 70 = .ok (.aload_n 0, 1) := by decide +kernel
theorem dX8_letting_71 : decode cX8_letting 71 = .ok (.invokevirtual 189, 3) := by decide +kernel
theorem dX8_letting_74 : decode cX8_letting 74 = .ok (.aload_n 0, 1) := by decide +kernel
theorem dX8_letting_75 : decode cX8_letting 75 = .ok (.getfield 16, 3) := by decide +kernel
theorem dX8_letting_78 : decode cX8_letting 78 = .ok (.iload 7, 2) := by decide +kernel
theorem dX8_letting_80 : decode cX8_letting 80 = .ok (.iload_n 3, 1) := by decide +kernel
theorem dX8_letting_81 : decode cX8_letting 81 = .ok (.invokevirtual 193, 3) := by decide +kernel
theorem dX8_letting_84 : decode cX8_letting 84 = .ok (.aload_n 0, 1) := by decide +kernel
theorem dX8_letting_85 : decode cX8_letting 85 = .ok (.getfield 16, 3) := by decide +kernel
theorem dX8_letting_88 : decode cX8_letting 88 = .ok (.invokevirtual 183, 3) := by decide +kernel
theorem dX8_letting_91 : decode cX8_letting 91 = .ok (.ifCond .eq 6, 3) := by decide +kernel
theorem dX8_letting_94 : decode cX8_letting 94 = .ok (.goto 46, 3) := by decide +kernel
theorem dX8_letting_97 : decode cX8_letting 97 = .ok (.aload_n 0, 1) := by decide +kernel
theorem dX8_letting_98 : decode cX8_letting 98 = .ok (.getfield 16, 3) := by decide +kernel
theorem dX8_letting_101 : decode cX8_letting 101 = .ok (.iload_n 1, 1) := by decide +kernel
theorem dX8_letting_102 : decode cX8_letting 102 = .ok (.aload_n 0, 1) := by decide +kernel
theorem dX8_letting_103 : decode cX8_letting 103 = .ok (.getfield 51, 3) := by decide +kernel
theorem dX8_letting_106 : decode cX8_letting 106 = .ok (.invokevirtual 173, 3) := by decide +kernel
theorem dX8_letting_109 : decode cX8_letting 109 = .ok (.aload_n 0, 1) := by decide +kernel
theorem dX8_letting_110 : decode cX8_letting 110 = .ok (.getfield 16, 3) := by decide +kernel
theorem dX8_letting_113 : decode cX8_letting 113 = .ok (.invokevirtual 177, 3) := by decide +kernel
theorem dX8_letting_116 : decode cX8_letting 116 = .ok (.istore 8, 2) := by decide +kernel
theorem dX8_letting_118 : decode cX8_letting 118 = .ok (.iload 5, 2) := by decide +kernel
theorem dX8_letting_120 : decode cX8_letting 120 = .ok (.ldc 192, 2) := by decide +kernel
theorem dX8_letting_122 : decode cX8_letting 122 = .ok (.if_icmp .eq 10, 3) := by decide +kernel
theorem dX8_letting_125 : decode cX8_letting 125 = .ok (.iload 8, 2) := by decide +kernel
theorem dX8_letting_127 : decode cX8_letting 127 = .ok (.iload 6, 2) := by decide +kernel
theorem dX8_letting_129 : decode cX8_letting 129 = .ok (.if_icmp .le 11, 3) := by decide +kernel
theorem dX8_letting_132 : decode cX8_letting 132 = .ok (.iload 7, 2) := by decide +kernel
theorem dX8_letting_134 : decode cX8_letting 134 = .ok (.istore 5, 2) := by decide +kernel
theorem dX8_letting_136 : decode cX8_letting 136 = .ok (.iload 8, 2) := by decide +kernel
theorem dX8_letting_138 : decode cX8_letting 138 = .ok (.istore 6, 2) := by decide +kernel
theorem dX8_letting_140 : decode cX8_letting 140 = .ok (.iinc 7 1, 3) := by decide +kernel
theorem dX8_letting_143 : decode cX8_letting 143 = .ok (.goto (-80), 3) := by decide +kernel
theorem dX8_letting_146 : decode cX8_letting 146 = .ok (.iload_n 2, 1) := by decide +kernel
theorem dX8_letting_147 : decode cX8_letting 147 = .ok (.ifCond .eq 10, 3) := by decide +kernel
theorem dX8_letting_150 : decode cX8_letting 150 = .ok (.iload 5, 2) := by decide +kernel
theorem dX8_letting_152 : decode cX8_letting 152 = .ok (.ldc 192, 2) := by decide +kernel
theorem dX8_letting_154 : decode cX8_letting 154 = .ok (.if_icmp .ne 8, 3) := by decide +kernel
theorem dX8_letting_157 : decode cX8_letting 157 = .ok (.iload 5, 2) := by decide +kernel
theorem dX8_letting_159 : decode cX8_letting 159 = .ok (.goto 5, 3) := by decide +kernel
theorem dX8_letting_162 : decode cX8_letting 162 = .ok (.iload 6, 2) := by decide +kernel
theorem dX8_letting_164 : decode cX8_letting 164 = .ok (.ireturn, 1) := by decide +kernel
theorem dX8_takes_0 : decode cX8_takes 0 = .ok (.iload_n 1, 1) := by decide +kernel
theorem dX8_takes_1 : decode cX8_takes 1 = .ok (.invokestatic 77, 3) := by decide +kernel
theorem dX8_takes_4 : decode cX8_takes 4 = .ok (.ifCond .eq 20, 3) := by decide +kernel
theorem dX8_takes_7 : decode cX8_takes 7 = .ok (.iload_n 2, 1) := by decide +kernel
theorem dX8_takes_8 : decode cX8_takes 8 = .ok (.invokestatic 140, 3) := by decide +kernel
theorem dX8_takes_11 : decode cX8_takes 11 = .ok (.ifCond .eq 13, 3) := by decide +kernel
theorem dX8_takes_14 : decode cX8_takes 14 = .ok (.iload_n 3, 1) := by decide +kernel
theorem dX8_takes_15 : decode cX8_takes 15 = .ok (.iconst 1, 1) := by decide +kernel
theorem dX8_takes_16 : decode cX8_takes 16 = .ok (.bipush 60, 2) := by decide +kernel
theorem dX8_takes_18 : decode cX8_takes 18 = .ok (.invokestatic 81, 3) := by decide +kernel
theorem dX8_takes_21 : decode cX8_takes 21 = .ok (.ifCond .ne 6, 3) := by decide +kernel
theorem dX8_takes_24 : decode cX8_takes 24 = .ok (.ldc 85, 2) := by decide +kernel
theorem dX8_takes_26 : decode cX8_takes 26 = .ok (.ireturn, 1) := by decide +kernel
theorem dX8_takes_27 : decode cX8_takes 27 = .ok (.aload_n 0, 1) := by decide +kernel
theorem dX8_takes_28 : decode cX8_takes 28 = .ok (.invokevirtual 189, 3) := by decide +kernel
theorem dX8_takes_31 : decode cX8_takes 31 = .ok (.aload_n 0, 1) := by decide +kernel
theorem dX8_takes_32 : decode cX8_takes 32 = .ok (.getfield 16, 3) := by decide +kernel
theorem dX8_takes_35 : decode cX8_takes 35 = .ok (.iload_n 3, 1) := by decide +kernel
theorem dX8_takes_36 : decode cX8_takes 36 = .ok (.aload_n 0, 1) := by decide +kernel
theorem dX8_takes_37 : decode cX8_takes 37 = .ok (.getfield 51, 3) := by decide +kernel
theorem dX8_takes_40 : decode cX8_takes 40 = .ok (.invokevirtual 173, 3) := by decide +kernel
theorem dX8_takes_43 : decode cX8_takes 43 = .ok (.aload_n 0, 1) := by decide +kernel
theorem dX8_takes_44 : decode cX8_takes 44 = .ok (.getfield 16, 3) := by decide +kernel
theorem dX8_takes_47 : decode cX8_takes 47 = .ok (.invokevirtual 177, 3) := by decide +kernel
theorem dX8_takes_50 : decode cX8_takes 50 = .ok (.istore 4, 2) := by decide +kernel
theorem dX8_takes_52 : decode cX8_takes 52 = .ok (.aload_n 0, 1) := by decide +kernel
theorem dX8_takes_53 : decode cX8_takes 53 = .ok (.invokevirtual 189, 3) := by decide +kernel
theorem dX8_takes_56 : decode cX8_takes 56 = .ok (.aload_n 0, 1) := by decide +kernel
theorem dX8_takes_57 : decode cX8_takes 57 = .ok (.getfield 16, 3) := by decide +kernel
theorem dX8_takes_60 : decode cX8_takes 60 = .ok (.iload_n 1, 1) := by decide +kernel
theorem dX8_takes_61 : decode cX8_takes 61 = .ok (.iload_n 2, 1) := by decide +kernel
theorem dX8_takes_62 : decode cX8_takes 62 = .ok (.bipush 10, 2) := by decide +kernel
theorem dX8_takes_64 : decode cX8_takes 64 = .ok (.invokevirtual 90, 3) := by decide +kernel
theorem dX8_takes_67 : decode cX8_takes 67 = .ok (.istore 5, 2) := by decide +kernel
theorem dX8_takes_69 : decode cX8_takes 69 = .ok (.aload_n 0, 1) := by decide +kernel
theorem dX8_takes_70 : decode cX8_takes 70 = .ok (.getfield 16, 3) := by decide +kernel
theorem dX8_takes_73 : decode cX8_takes 73 = .ok (.iload_n 3, 1) := by decide +kernel
theorem dX8_takes_74 : decode cX8_takes 74 = .ok (.aload_n 0, 1) := by decide +kernel
theorem dX8_takes_75 : decode cX8_takes 75 = .ok (.getfield 51, 3) := by decide +kernel
theorem dX8_takes_78 : decode cX8_takes 78 = .ok (.invokevirtual 173, 3) := by decide +kernel
theorem dX8_takes_81 : decode cX8_takes 81 = .ok (.aload_n 0, 1) := by decide +kernel
theorem dX8_takes_82 : decode cX8_takes 82 = .ok (.getfield 16, 3) := by decide +kernel
theorem dX8_takes_85 : decode cX8_takes 85 = .ok (.invokevirtual 177, 3) := by decide +kernel
theorem dX8_takes_88 : decode cX8_takes 88 = .ok (.aload_n 0, 1) := by decide +kernel
theorem dX8_takes_89 : decode cX8_takes 89 = .ok (.getfield 16, 3) := by decide +kernel
theorem dX8_takes_92 : decode cX8_takes 92 = .ok (.getfield 106, 3) := by decide +kernel
theorem dX8_takes_95 : decode cX8_takes 95 = .ok (.iload 5, 2) := by decide +kernel
theorem dX8_takes_97 : decode cX8_takes 97 = .ok (.iaload, 1) := by decide +kernel
theorem dX8_takes_98 : decode cX8_takes 98 = .ok (.isub, 1) := by decide +kernel
theorem dX8_takes_99 : decode cX8_takes 99 = .ok (.istore 6, 2) := by decide +kernel
theorem dX8_takes_101 : decode cX8_takes 101 = .ok (.iload 4, 2) := by decide +kernel
theorem dX8_takes_103 : decode cX8_takes 103 = .ok (.iload 6, 2) := by decide +kernel
theorem dX8_takes_105 : decode cX8_takes 105 = .ok (.isub, 1) := by decide +kernel
theorem dX8_takes_106 : decode cX8_takes 106 = .ok (.ireturn, 1) := by decide +kernel
theorem dX8_bestRent_0 : decode cX8_bestRent 0 = .ok (.iload_n 1, 1) := by decide +kernel
theorem dX8_bestRent_1 : decode cX8_bestRent 1 = .ok (.iconst 1, 1) := by decide +kernel
theorem dX8_bestRent_2 : decode cX8_bestRent 2 = .ok (.bipush 60, 2) := by decide +kernel
theorem dX8_bestRent_4 : decode cX8_bestRent 4 = .ok (.invokestatic 81, 3) := by decide +kernel
theorem dX8_bestRent_7 : decode cX8_bestRent 7 = .ok (.ifCond .eq 12, 3) := by decide +kernel
theorem dX8_bestRent_10 : decode cX8_bestRent 10 = .ok (.iload_n 2, 1) := by decide +kernel
theorem dX8_bestRent_11 : decode cX8_bestRent 11 = .ok (.iconst 0, 1) := by decide +kernel
theorem dX8_bestRent_12 : decode cX8_bestRent 12 = .ok (.iconst 1, 1) := by decide +kernel
theorem dX8_bestRent_13 : decode cX8_bestRent 13 = .ok (.invokestatic 81, 3) := by decide +kernel
theorem dX8_bestRent_16 : decode cX8_bestRent 16 = .ok (.ifCond .ne 6, 3) := by decide +kernel
theorem dX8_bestRent_19 : decode cX8_bestRent 19 = .ok (.ldc 85, 2) := by decide +kernel
theorem dX8_bestRent_21 : decode cX8_bestRent 21 = .ok (.ireturn, 1) := by decide +kernel
theorem dX8_bestRent_22 : decode cX8_bestRent 22 = .ok (.ldc 192, 2) := by decide +kernel
theorem dX8_bestRent_24 : decode cX8_bestRent 24 = .ok (.istore_n 3, 1) := by decide +kernel
theorem dX8_bestRent_25 : decode cX8_bestRent 25 = .ok (.iconst 0, 1) := by decide +kernel
theorem dX8_bestRent_26 : decode cX8_bestRent 26 = .ok (.istore 4, 2) := by decide +kernel
theorem dX8_bestRent_28 : decode cX8_bestRent 28 = .ok (.iconst 0, 1) := by decide +kernel
theorem dX8_bestRent_29 : decode cX8_bestRent 29 = .ok (.istore 5, 2) := by decide +kernel
theorem dX8_bestRent_31 : decode cX8_bestRent 31 = .ok (.iload 5, 2) := by decide +kernel
theorem dX8_bestRent_33 : decode cX8_bestRent 33 = .ok (.bipush 9, 2) := by decide +kernel
theorem dX8_bestRent_35 : decode cX8_bestRent 35 = .ok (.if_icmp .gt 77, 3) := by decide +kernel
theorem dX8_bestRent_38 : decode cX8_bestRent 38 = .ok (.aload_n 0, 1) := by decide +kernel
theorem dX8_bestRent_39 : decode cX8_bestRent 39 = .ok (.invokevirtual 189, 3) := by decide +kernel
theorem dX8_bestRent_42 : decode cX8_bestRent 42 = .ok (.aload_n 0, 1) := by decide +kernel
theorem dX8_bestRent_43 : decode cX8_bestRent 43 = .ok (.getfield 16, 3) := by decide +kernel
theorem dX8_bestRent_46 : decode cX8_bestRent 46 = .ok (.getfield 143, 3) := by decide +kernel
theorem dX8_bestRent_49 : decode cX8_bestRent 49 = .ok (.iload 5, 2) := by decide +kernel
theorem dX8_bestRent_51 : decode cX8_bestRent 51 = .ok (.invokestatic 197, 3) := by decide +kernel
theorem dX8_bestRent_54 : decode cX8_bestRent 54 = .ok (.aload_n 0, 1) := by decide +kernel
theorem dX8_bestRent_55 : decode cX8_bestRent 55 = .ok (.getfield 16, 3) := by decide +kernel
theorem dX8_bestRent_58 : decode cX8_bestRent 58 = .ok (.iload_n 1, 1) := by decide +kernel
theorem dX8_bestRent_59 : decode cX8_bestRent 59 = .ok (.aload_n 0, 1) := by decide +kernel
theorem dX8_bestRent_60 : decode cX8_bestRent 60 = .ok (.getfield 51, 3) := by decide +kernel
theorem dX8_bestRent_63 : decode cX8_bestRent 63 = .ok (.invokevirtual 173, 3) := by decide +kernel
theorem dX8_bestRent_66 : decode cX8_bestRent 66 = .ok (.aload_n 0, 1) := by decide +kernel
theorem dX8_bestRent_67 : decode cX8_bestRent 67 = .ok (.getfield 16, 3) := by decide +kernel
theorem dX8_bestRent_70 : decode cX8_bestRent 70 = .ok (.invokevirtual 203, 3) := by decide +kernel
theorem dX8_bestRent_73 : decode cX8_bestRent 73 = .ok (.ifCond .ne 33, 3) := by decide +kernel
theorem dX8_bestRent_76 : decode cX8_bestRent 76 = .ok (.iload_n 3, 1) := by decide +kernel
theorem dX8_bestRent_77 : decode cX8_bestRent 77 = .ok (.ldc 192, 2) := by decide +kernel
theorem dX8_bestRent_79 : decode cX8_bestRent 79 = .ok (.if_icmp .eq 15, 3) := by decide +kernel
theorem dX8_bestRent_82 : decode cX8_bestRent 82 = .ok (.aload_n 0, 1) := by decide +kernel
theorem dX8_bestRent_83 : decode cX8_bestRent 83 = .ok (.getfield 16, 3) := by decide +kernel
theorem dX8_bestRent_86 : decode cX8_bestRent 86 = .ok (.getfield 180, 3) := by decide +kernel
theorem dX8_bestRent_89 : decode cX8_bestRent 89 = .ok (.iload 4, 2) := by decide +kernel
theorem dX8_bestRent_91 : decode cX8_bestRent 91 = .ok (.if_icmp .le 15, 3) := by decide +kernel
theorem dX8_bestRent_94 : decode cX8_bestRent 94 = .ok (.iload 5, 2) := by decide +kernel
theorem dX8_bestRent_96 : decode cX8_bestRent 96 = .ok (.istore_n 3, 1) := by decide +kernel
theorem dX8_bestRent_97 : decode cX8_bestRent 97 = .ok (.aload_n 0, 1) := by decide +kernel
theorem dX8_bestRent_98 : decode cX8_bestRent 98 = .ok (.getfield 16, 3) := by decide +kernel
theorem dX8_bestRent_101 : decode cX8_bestRent 101 = .ok (.getfield 180, 3) := by decide +kernel
theorem dX8_bestRent_104 : decode cX8_bestRent 104 = .ok (.istore 4, 2) := by decide +kernel
theorem dX8_bestRent_106 : decode cX8_bestRent 106 = .ok (.iinc 5 1, 3) := by decide +kernel
theorem dX8_bestRent_109 : decode cX8_bestRent 109 = .ok (.goto (-78), 3) := by decide +kernel
theorem dX8_bestRent_112 : decode cX8_bestRent 112 = .ok (.iload_n 2, 1) := by decide +kernel
theorem dX8_bestRent_113 : decode cX8_bestRent 113 = .ok (.ifCond .eq 9, 3) := by decide +kernel
theorem dX8_bestRent_116 : decode cX8_bestRent 116 = .ok (.iload_n 3, 1) := by decide +kernel
theorem dX8_bestRent_117 : decode cX8_bestRent 117 = .ok (.ldc 192, 2) := by decide +kernel
theorem dX8_bestRent_119 : decode cX8_bestRent 119 = .ok (.if_icmp .ne 7, 3) := by decide +kernel
theorem dX8_bestRent_122 : decode cX8_bestRent 122 = .ok (.iload_n 3, 1) := by decide +kernel
theorem dX8_bestRent_123 : decode cX8_bestRent 123 = .ok (.goto 5, 3) := by decide +kernel
theorem dX8_bestRent_126 : decode cX8_bestRent 126 = .ok (.iload 4, 2) := by decide +kernel
theorem dX8_bestRent_128 : decode cX8_bestRent 128 = .ok (.ireturn, 1) := by decide +kernel
theorem dX8_mourned_0 : decode cX8_mourned 0 = .ok (.iload_n 1, 1) := by decide +kernel
theorem dX8_mourned_1 : decode cX8_mourned 1 = .ok (.iconst 1, 1) := by decide +kernel
theorem dX8_mourned_2 : decode cX8_mourned 2 = .ok (.bipush 60, 2) := by decide +kernel
theorem dX8_mourned_4 : decode cX8_mourned 4 = .ok (.invokestatic 81, 3) := by decide +kernel
theorem dX8_mourned_7 : decode cX8_mourned 7 = .ok (.ifCond .eq 12, 3) := by decide +kernel
theorem dX8_mourned_10 : decode cX8_mourned 10 = .ok (.iload_n 2, 1) := by decide +kernel
theorem dX8_mourned_11 : decode cX8_mourned 11 = .ok (.iconst 0, 1) := by decide +kernel
theorem dX8_mourned_12 : decode cX8_mourned 12 = .ok (.iconst 1, 1) := by decide +kernel
theorem dX8_mourned_13 : decode cX8_mourned 13 = .ok (.invokestatic 81, 3) := by decide +kernel
theorem dX8_mourned_16 : decode cX8_mourned 16 = .ok (.ifCond .ne 6, 3) := by decide +kernel
theorem dX8_mourned_19 : decode cX8_mourned 19 = .ok (.ldc 85, 2) := by decide +kernel
theorem dX8_mourned_21 : decode cX8_mourned 21 = .ok (.ireturn, 1) := by decide +kernel
theorem dX8_mourned_22 : decode cX8_mourned 22 = .ok (.iconst 0, 1) := by decide +kernel
theorem dX8_mourned_23 : decode cX8_mourned 23 = .ok (.istore_n 3, 1) := by decide +kernel
theorem dX8_mourned_24 : decode cX8_mourned 24 = .ok (.iconst 0, 1) := by decide +kernel
theorem dX8_mourned_25 : decode cX8_mourned 25 = .ok (.istore 4, 2) := by decide +kernel
theorem dX8_mourned_27 : decode cX8_mourned 27 = .ok (.iconst 0, 1) := by decide +kernel
theorem dX8_mourned_28 : decode cX8_mourned 28 = .ok (.istore 5, 2) := by decide +kernel
theorem dX8_mourned_30 : decode cX8_mourned 30 = .ok (.iload 5, 2) := by decide +kernel
theorem dX8_mourned_32 : decode cX8_mourned 32 = .ok (.bipush 8, 2) := by decide +kernel
theorem dX8_mourned_34 : decode cX8_mourned 34 = .ok (.if_icmp .ge 62, 3) := by decide +kernel
theorem dX8_mourned_37 : decode cX8_mourned 37 = .ok (.aload_n 0, 1) := by decide +kernel
theorem dX8_mourned_38 : decode cX8_mourned 38 = .ok (.invokevirtual 189, 3) := by decide +kernel
theorem dX8_mourned_41 : decode cX8_mourned 41 = .ok (.aload_n 0, 1) := by decide +kernel
theorem dX8_mourned_42 : decode cX8_mourned 42 = .ok (.getfield 16, 3) := by decide +kernel
theorem dX8_mourned_45 : decode cX8_mourned 45 = .ok (.iload 5, 2) := by decide +kernel
theorem dX8_mourned_47 : decode cX8_mourned 47 = .ok (.putfield 152, 3) := by decide +kernel
theorem dX8_mourned_50 : decode cX8_mourned 50 = .ok (.aload_n 0, 1) := by decide +kernel
theorem dX8_mourned_51 : decode cX8_mourned 51 = .ok (.getfield 16, 3) := by decide +kernel
theorem dX8_mourned_54 : decode cX8_mourned 54 = .ok (.iload_n 1, 1) := by decide +kernel
theorem dX8_mourned_55 : decode cX8_mourned 55 = .ok (.aload_n 0, 1) := by decide +kernel
theorem dX8_mourned_56 : decode cX8_mourned 56 = .ok (.getfield 51, 3) := by decide +kernel
theorem dX8_mourned_59 : decode cX8_mourned 59 = .ok (.invokevirtual 173, 3) := by decide +kernel
theorem dX8_mourned_62 : decode cX8_mourned 62 = .ok (.aload_n 0, 1) := by decide +kernel
theorem dX8_mourned_63 : decode cX8_mourned 63 = .ok (.getfield 16, 3) := by decide +kernel
theorem dX8_mourned_66 : decode cX8_mourned 66 = .ok (.invokevirtual 177, 3) := by decide +kernel
theorem dX8_mourned_69 : decode cX8_mourned 69 = .ok (.istore 6, 2) := by decide +kernel
theorem dX8_mourned_71 : decode cX8_mourned 71 = .ok (.iload 5, 2) := by decide +kernel
theorem dX8_mourned_73 : decode cX8_mourned 73 = .ok (.ifCond .eq 10, 3) := by decide +kernel
theorem dX8_mourned_76 : decode cX8_mourned 76 = .ok (.iload 6, 2) := by decide +kernel
theorem dX8_mourned_78 : decode cX8_mourned 78 = .ok (.iload 4, 2) := by decide +kernel
theorem dX8_mourned_80 : decode cX8_mourned 80 = .ok (.if_icmp .le 10, 3) := by decide +kernel
theorem dX8_mourned_83 : decode cX8_mourned 83 = .ok (.iload 5, 2) := by decide +kernel
theorem dX8_mourned_85 : decode cX8_mourned 85 = .ok (.istore_n 3, 1) := by decide +kernel
theorem dX8_mourned_86 : decode cX8_mourned 86 = .ok (.iload 6, 2) := by decide +kernel
theorem dX8_mourned_88 : decode cX8_mourned 88 = .ok (.istore 4, 2) := by decide +kernel
theorem dX8_mourned_90 : decode cX8_mourned 90 = .ok (.iinc 5 1, 3) := by decide +kernel
theorem dX8_mourned_93 : decode cX8_mourned 93 = .ok (.goto (-63), 3) := by decide +kernel
theorem dX8_mourned_96 : decode cX8_mourned 96 = .ok (.iload_n 2, 1) := by decide +kernel
theorem dX8_mourned_97 : decode cX8_mourned 97 = .ok (.ifCond .ne 7, 3) := by decide +kernel
theorem dX8_mourned_100 : decode cX8_mourned 100 = .ok (.iload_n 3, 1) := by decide +kernel
theorem dX8_mourned_101 : decode cX8_mourned 101 = .ok (.goto 5, 3) := by decide +kernel
theorem dX8_mourned_104 : decode cX8_mourned 104 = .ok (.iload 4, 2) := by decide +kernel
theorem dX8_mourned_106 : decode cX8_mourned 106 = .ok (.ireturn, 1) := by decide +kernel
theorem dX8_stood_0 : decode cX8_stood 0 = .ok (.iload_n 1, 1) := by decide +kernel
theorem dX8_stood_1 : decode cX8_stood 1 = .ok (.invokestatic 207, 3) := by decide +kernel
theorem dX8_stood_4 : decode cX8_stood 4 = .ok (.ifCond .eq 20, 3) := by decide +kernel
theorem dX8_stood_7 : decode cX8_stood 7 = .ok (.aload_n 0, 1) := by decide +kernel
theorem dX8_stood_8 : decode cX8_stood 8 = .ok (.iload_n 2, 1) := by decide +kernel
theorem dX8_stood_9 : decode cX8_stood 9 = .ok (.invokevirtual 94, 3) := by decide +kernel
theorem dX8_stood_12 : decode cX8_stood 12 = .ok (.ifCond .eq 12, 3) := by decide +kernel
theorem dX8_stood_15 : decode cX8_stood 15 = .ok (.iload_n 3, 1) := by decide +kernel
theorem dX8_stood_16 : decode cX8_stood 16 = .ok (.iconst 0, 1) := by decide +kernel
theorem dX8_stood_17 : decode cX8_stood 17 = .ok (.iconst 1, 1) := by decide +kernel
theorem dX8_stood_18 : decode cX8_stood 18 = .ok (.invokestatic 81, 3) := by decide +kernel
theorem dX8_stood_21 : decode cX8_stood 21 = .ok (.ifCond .ne 6, 3) := by decide +kernel
theorem dX8_stood_24 : decode cX8_stood 24 = .ok (.ldc 85, 2) := by decide +kernel
theorem dX8_stood_26 : decode cX8_stood 26 = .ok (.ireturn, 1) := by decide +kernel
theorem dX8_stood_27 : decode cX8_stood 27 = .ok (.aload_n 0, 1) := by decide +kernel
theorem dX8_stood_28 : decode cX8_stood 28 = .ok (.getfield 57, 3) := by decide +kernel
theorem dX8_stood_31 : decode cX8_stood 31 = .ok (.iload_n 1, 1) := by decide +kernel
theorem dX8_stood_32 : decode cX8_stood 32 = .ok (.aaload, 1) := by decide +kernel
theorem dX8_stood_33 : decode cX8_stood 33 = .ok (.invokevirtual 210, 3) := by decide +kernel
theorem dX8_stood_36 : decode cX8_stood 36 = .ok (.ifCond .eq 6, 3) := by decide +kernel
theorem dX8_stood_39 : decode cX8_stood 39 = .ok (.ldc 213, 2) := by decide +kernel
theorem dX8_stood_41 : decode cX8_stood 41 = .ok (.ireturn, 1) := by decide +kernel
theorem dX8_stood_42 : decode cX8_stood 42 = .ok (.iconst 0, 1) := by decide +kernel
theorem dX8_stood_43 : decode cX8_stood 43 = .ok (.istore 4, 2) := by decide +kernel
theorem dX8_stood_45 : decode cX8_stood 45 = .ok (.iconst 0, 1) := by decide +kernel
theorem dX8_stood_46 : decode cX8_stood 46 = .ok (.istore 5, 2) := by decide +kernel
theorem dX8_stood_48 : decode cX8_stood 48 = .ok (.iconst 0, 1) := by decide +kernel
theorem dX8_stood_49 : decode cX8_stood 49 = .ok (.istore 6, 2) := by decide +kernel
theorem dX8_stood_51 : decode cX8_stood 51 = .ok (.iload 6, 2) := by decide +kernel
theorem dX8_stood_53 : decode cX8_stood 53 = .ok (.bipush 8, 2) := by decide +kernel
theorem dX8_stood_55 : decode cX8_stood 55 = .ok (.if_icmp .gt 44, 3) := by decide +kernel
theorem dX8_stood_58 : decode cX8_stood 58 = .ok (.aload_n 0, 1) := by decide +kernel
theorem dX8_stood_59 : decode cX8_stood 59 = .ok (.aload_n 0, 1) := by decide +kernel
theorem dX8_stood_60 : decode cX8_stood 60 = .ok (.getfield 57, 3) := by decide +kernel
theorem dX8_stood_63 : decode cX8_stood 63 = .ok (.iload_n 1, 1) := by decide +kernel
theorem dX8_stood_64 : decode cX8_stood 64 = .ok (.aaload, 1) := by decide +kernel
theorem dX8_stood_65 : decode cX8_stood 65 = .ok (.iload_n 2, 1) := by decide +kernel
theorem dX8_stood_66 : decode cX8_stood 66 = .ok (.iload 6, 2) := by decide +kernel
theorem dX8_stood_68 : decode cX8_stood 68 = .ok (.invokevirtual 214, 3) := by decide +kernel
theorem dX8_stood_71 : decode cX8_stood 71 = .ok (.istore 7, 2) := by decide +kernel
theorem dX8_stood_73 : decode cX8_stood 73 = .ok (.iload 6, 2) := by decide +kernel
theorem dX8_stood_75 : decode cX8_stood 75 = .ok (.ifCond .eq 10, 3) := by decide +kernel
theorem dX8_stood_78 : decode cX8_stood 78 = .ok (.iload 7, 2) := by decide +kernel
theorem dX8_stood_80 : decode cX8_stood 80 = .ok (.iload 5, 2) := by decide +kernel
theorem dX8_stood_82 : decode cX8_stood 82 = .ok (.if_icmp .ge 11, 3) := by decide +kernel
theorem dX8_stood_85 : decode cX8_stood 85 = .ok (.iload 6, 2) := by decide +kernel
theorem dX8_stood_87 : decode cX8_stood 87 = .ok (.istore 4, 2) := by decide +kernel
theorem dX8_stood_89 : decode cX8_stood 89 = .ok (.iload 7, 2) := by decide +kernel
theorem dX8_stood_91 : decode cX8_stood 91 = .ok (.istore 5, 2) := by decide +kernel
theorem dX8_stood_93 : decode cX8_stood 93 = .ok (.iinc 6 1, 3) := by decide +kernel
theorem dX8_stood_96 : decode cX8_stood 96 = .ok (.goto (-45), 3) := by decide +kernel
theorem dX8_stood_99 : decode cX8_stood 99 = .ok (.iload_n 3, 1) := by decide +kernel
theorem dX8_stood_100 : decode cX8_stood 100 = .ok (.ifCond .ne 8, 3) := by decide +kernel
theorem dX8_stood_103 : decode cX8_stood 103 = .ok (.iload 4, 2) := by decide +kernel
theorem dX8_stood_105 : decode cX8_stood 105 = .ok (.goto 5, 3) := by decide +kernel
theorem dX8_stood_108 : decode cX8_stood 108 = .ok (.iload 5, 2) := by decide +kernel
theorem dX8_stood_110 : decode cX8_stood 110 = .ok (.ireturn, 1) := by decide +kernel
theorem dX8_fee_0 : decode cX8_fee 0 = .ok (.aload_n 0, 1) := by decide +kernel
theorem dX8_fee_1 : decode cX8_fee 1 = .ok (.iconst 1, 1) := by decide +kernel
theorem dX8_fee_2 : decode cX8_fee 2 = .ok (.aload_n 0, 1) := by decide +kernel
theorem dX8_fee_3 : decode cX8_fee 3 = .ok (.getfield 10, 3) := by decide +kernel
theorem dX8_fee_6 : decode cX8_fee 6 = .ok (.getfield 121, 3) := by decide +kernel
theorem dX8_fee_9 : decode cX8_fee 9 = .ok (.invokevirtual 123, 3) := by decide +kernel
theorem dX8_fee_12 : decode cX8_fee 12 = .ok (.astore_n 1, 1) := by decide +kernel
theorem dX8_fee_13 : decode cX8_fee 13 = .ok (.aload_n 1, 1) := by decide +kernel
theorem dX8_fee_14 : decode cX8_fee 14 = .ok (.ifnonnull 13, 3) := by decide +kernel
theorem dX8_fee_17 : decode cX8_fee 17 = .ok (.aload_n 0, 1) := by decide +kernel
theorem dX8_fee_18 : decode cX8_fee 18 = .ok (.getfield 10, 3) := by decide +kernel
theorem dX8_fee_21 : decode cX8_fee 21 = .ok (.getfield 180, 3) := by decide +kernel
theorem dX8_fee_24 : decode cX8_fee 24 = .ok (.goto 22, 3) := by decide +kernel
theorem dX8_fee_27 : decode cX8_fee 27 = .ok (.aload_n 1, 1) := by decide +kernel
theorem dX8_fee_28 : decode cX8_fee 28 = .ok (.aload_n 0, 1) := by decide +kernel
theorem dX8_fee_29 : decode cX8_fee 29 = .ok (.getfield 10, 3) := by decide +kernel
theorem dX8_fee_32 : decode cX8_fee 32 = .ok (.getfield 180, 3) := by decide +kernel
theorem dX8_fee_35 : decode cX8_fee 35 = .ok (.aload_n 0, 1) := by decide +kernel
theorem dX8_fee_36 : decode cX8_fee 36 = .ok (.getfield 10, 3) := by decide +kernel
theorem dX8_fee_39 : decode cX8_fee 39 = .ok (.getfield 170, 3) := by decide +kernel
theorem dX8_fee_42 : decode cX8_fee 42 = .ok (.iconst 0, 1) := by decide +kernel
theorem dX8_fee_43 : decode cX8_fee 43 = .ok (.invokevirtual 218, 3) := by decide +kernel
theorem dX8_fee_46 : decode cX8_fee 46 = .ok (.ireturn, 1) := by decide +kernel
theorem dX8_fine_0 : decode cX8_fine 0 = .ok (.aload_n 0, 1) := by decide +kernel
theorem dX8_fine_1 : decode cX8_fine 1 = .ok (.iload_n 1, 1) := by decide +kernel
theorem dX8_fine_2 : decode cX8_fine 2 = .ok (.invokevirtual 94, 3) := by decide +kernel
theorem dX8_fine_5 : decode cX8_fine 5 = .ok (.ifCond .ne 6, 3) := by decide +kernel
theorem dX8_fine_8 : decode cX8_fine 8 = .ok (.ldc 85, 2) := by decide +kernel
theorem dX8_fine_10 : decode cX8_fine 10 = .ok (.ireturn, 1) := by decide +kernel
theorem dX8_fine_11 : decode cX8_fine 11 = .ok (.aload_n 0, 1) := by decide +kernel
theorem dX8_fine_12 : decode cX8_fine 12 = .ok (.getfield 10, 3) := by decide +kernel
theorem dX8_fine_15 : decode cX8_fine 15 = .ok (.getfield 106, 3) := by decide +kernel
theorem dX8_fine_18 : decode cX8_fine 18 = .ok (.iload_n 1, 1) := by decide +kernel
theorem dX8_fine_19 : decode cX8_fine 19 = .ok (.iaload, 1) := by decide +kernel
theorem dX8_fine_20 : decode cX8_fine 20 = .ok (.istore_n 2, 1) := by decide +kernel
theorem dX8_fine_21 : decode cX8_fine 21 = .ok (.aload_n 0, 1) := by decide +kernel
theorem dX8_fine_22 : decode cX8_fine 22 = .ok (.iconst 2, 1) := by decide +kernel
theorem dX8_fine_23 : decode cX8_fine 23 = .ok (.aload_n 0, 1) := by decide +kernel
theorem dX8_fine_24 : decode cX8_fine 24 = .ok (.getfield 10, 3) := by decide +kernel
theorem dX8_fine_27 : decode cX8_fine 27 = .ok (.getfield 121, 3) := by decide +kernel
theorem dX8_fine_30 : decode cX8_fine 30 = .ok (.invokevirtual 123, 3) := by decide +kernel
theorem dX8_fine_33 : decode cX8_fine 33 = .ok (.astore_n 3, 1) := by decide +kernel
theorem dX8_fine_34 : decode cX8_fine 34 = .ok (.aload_n 3, 1) := by decide +kernel
theorem dX8_fine_35 : decode cX8_fine 35 = .ok (.ifnonnull 7, 3) := by decide +kernel
theorem dX8_fine_38 : decode cX8_fine 38 = .ok (.iload_n 2, 1) := by decide +kernel
theorem dX8_fine_39 : decode cX8_fine 39 = .ok (.goto 18, 3) := by decide +kernel
theorem dX8_fine_42 : decode cX8_fine 42 = .ok (.aload_n 3, 1) := by decide +kernel
theorem dX8_fine_43 : decode cX8_fine 43 = .ok (.iload_n 2, 1) := by decide +kernel
theorem dX8_fine_44 : decode cX8_fine 44 = .ok (.aload_n 0, 1) := by decide +kernel
theorem dX8_fine_45 : decode cX8_fine 45 = .ok (.getfield 10, 3) := by decide +kernel
theorem dX8_fine_48 : decode cX8_fine 48 = .ok (.getfield 109, 3) := by decide +kernel
theorem dX8_fine_51 : decode cX8_fine 51 = .ok (.iload_n 1, 1) := by decide +kernel
theorem dX8_fine_52 : decode cX8_fine 52 = .ok (.iaload, 1) := by decide +kernel
theorem dX8_fine_53 : decode cX8_fine 53 = .ok (.iconst 0, 1) := by decide +kernel
theorem dX8_fine_54 : decode cX8_fine 54 = .ok (.invokevirtual 218, 3) := by decide +kernel
theorem dX8_fine_57 : decode cX8_fine 57 = .ok (.ireturn, 1) := by decide +kernel
theorem dX8_feed_0 : decode cX8_feed 0 = .ok (.aload_n 0, 1) := by decide +kernel
theorem dX8_feed_1 : decode cX8_feed 1 = .ok (.getfield 29, 3) := by decide +kernel
theorem dX8_feed_4 : decode cX8_feed 4 = .ok (.getfield 221, 3) := by decide +kernel
theorem dX8_feed_7 : decode cX8_feed 7 = .ok (.bipush 12, 2) := by decide +kernel
theorem dX8_feed_9 : decode cX8_feed 9 = .ok (.iadd, 1) := by decide +kernel
theorem dX8_feed_10 : decode cX8_feed 10 = .ok (.bipush 96, 2) := by decide +kernel
theorem dX8_feed_12 : decode cX8_feed 12 = .ok (.if_icmp .le 6, 3) := by decide +kernel
theorem dX8_feed_15 : decode cX8_feed 15 = .ok (.ldc 89, 2) := by decide +kernel
theorem dX8_feed_17 : decode cX8_feed 17 = .ok (.ireturn, 1) := by decide +kernel
theorem dX8_feed_18 : decode cX8_feed 18 = .ok (.aload_n 0, 1) := by decide +kernel
theorem dX8_feed_19 : decode cX8_feed 19 = .ok (.getfield 29, 3) := by decide +kernel
theorem dX8_feed_22 : decode cX8_feed 22 = .ok (.iload_n 1, 1) := by decide +kernel
theorem dX8_feed_23 : decode cX8_feed 23 = .ok (.invokevirtual 222, 3) := by decide +kernel
theorem dX8_feed_26 : decode cX8_feed 26 = .ok (.aload_n 0, 1) := by decide +kernel
theorem dX8_feed_27 : decode cX8_feed 27 = .ok (.getfield 29, 3) := by decide +kernel
theorem dX8_feed_30 : decode cX8_feed 30 = .ok (.iload_n 2, 1) := by decide +kernel
theorem dX8_feed_31 : decode cX8_feed 31 = .ok (.invokevirtual 222, 3) := by decide +kernel
theorem dX8_feed_34 : decode cX8_feed 34 = .ok (.aload_n 0, 1) := by decide +kernel
theorem dX8_feed_35 : decode cX8_feed 35 = .ok (.getfield 29, 3) := by decide +kernel
theorem dX8_feed_38 : decode cX8_feed 38 = .ok (.iload_n 3, 1) := by decide +kernel
theorem dX8_feed_39 : decode cX8_feed 39 = .ok (.invokevirtual 222, 3) := by decide +kernel
theorem dX8_feed_42 : decode cX8_feed 42 = .ok (.aload_n 0, 1) := by decide +kernel
theorem dX8_feed_43 : decode cX8_feed 43 = .ok (.getfield 29, 3) := by decide +kernel
theorem dX8_feed_46 : decode cX8_feed 46 = .ok (.getfield 221, 3) := by decide +kernel
theorem dX8_feed_49 : decode cX8_feed 49 = .ok (.ireturn, 1) := by decide +kernel
theorem dX8_trim_0 : decode cX8_trim 0 = .ok (.iload_n 1, 1) := by decide +kernel
theorem dX8_trim_1 : decode cX8_trim 1 = .ok (.iconst 0, 1) := by decide +kernel
theorem dX8_trim_2 : decode cX8_trim 2 = .ok (.aload_n 0, 1) := by decide +kernel
theorem dX8_trim_3 : decode cX8_trim 3 = .ok (.getfield 29, 3) := by decide +kernel
theorem dX8_trim_6 : decode cX8_trim 6 = .ok (.getfield 221, 3) := by decide +kernel
theorem dX8_trim_9 : decode cX8_trim 9 = .ok (.invokestatic 81, 3) := by decide +kernel
theorem dX8_trim_12 : decode cX8_trim 12 = .ok (.ifCond .ne 6, 3) := by decide +kernel
theorem dX8_trim_15 : decode cX8_trim 15 = .ok (.ldc 85, 2) := by decide +kernel
theorem dX8_trim_17 : decode cX8_trim 17 = .ok (.ireturn, 1) := by decide +kernel
theorem dX8_trim_18 : decode cX8_trim 18 = .ok (.aload_n 0, 1) := by decide +kernel
theorem dX8_trim_19 : decode cX8_trim 19 = .ok (.getfield 29, 3) := by decide +kernel
theorem dX8_trim_22 : decode cX8_trim 22 = .ok (.iload_n 1, 1) := by decide +kernel
theorem dX8_trim_23 : decode cX8_trim 23 = .ok (.putfield 221, 3) := by decide +kernel
theorem dX8_trim_26 : decode cX8_trim 26 = .ok (.iload_n 1, 1) := by decide +kernel
theorem dX8_trim_27 : decode cX8_trim 27 = .ok (.ireturn, 1) := by decide +kernel
theorem dX8_text_0 : decode cX8_text 0 = .ok (.aload_n 0, 1) := by decide +kernel
theorem dX8_text_1 : decode cX8_text 1 = .ok (.getfield 38, 3) := by decide +kernel
theorem dX8_text_4 : decode cX8_text 4 = .ok (.invokevirtual 225, 3) := by decide +kernel
theorem dX8_text_7 : decode cX8_text 7 = .ok (.istore_n 1, 1) := by decide +kernel
theorem dX8_text_8 : decode cX8_text 8 = .ok (.aload_n 0, 1) := by decide +kernel
theorem dX8_text_9 : decode cX8_text 9 = .ok (.getfield 29, 3) := by decide +kernel
theorem dX8_text_12 : decode cX8_text 12 = .ok (.iconst 0, 1) := by decide +kernel
theorem dX8_text_13 : decode cX8_text 13 = .ok (.putfield 221, 3) := by decide +kernel
theorem dX8_text_16 : decode cX8_text 16 = .ok (.iload_n 1, 1) := by decide +kernel
theorem dX8_text_17 : decode cX8_text 17 = .ok (.ifCond .lt 8, 3) := by decide +kernel
theorem dX8_text_20 : decode cX8_text 20 = .ok (.bipush (-100), 2) := by decide +kernel
theorem dX8_text_22 : decode cX8_text 22 = .ok (.iload_n 1, 1) := by decide +kernel
theorem dX8_text_23 : decode cX8_text 23 = .ok (.isub, 1) := by decide +kernel
theorem dX8_text_24 : decode cX8_text 24 = .ok (.ireturn, 1) := by decide +kernel
theorem dX8_text_25 : decode cX8_text 25 = .ok (.aload_n 0, 1) := by decide +kernel
theorem dX8_text_26 : decode cX8_text 26 = .ok (.getfield 10, 3) := by decide +kernel
theorem dX8_text_29 : decode cX8_text 29 = .ok (.getfield 121, 3) := by decide +kernel
theorem dX8_text_32 : decode cX8_text 32 = .ok (.bipush 14, 2) := by decide +kernel
theorem dX8_text_34 : decode cX8_text 34 = .ok (.if_icmp .lt 6, 3) := by decide +kernel
theorem dX8_text_37 : decode cX8_text 37 = .ok (.ldc 89, 2) := by decide +kernel
theorem dX8_text_39 : decode cX8_text 39 = .ok (.ireturn, 1) := by decide +kernel
theorem dX8_text_40 : decode cX8_text 40 = .ok (.aload_n 0, 1) := by decide +kernel
theorem dX8_text_41 : decode cX8_text 41 = .ok (.getfield 10, 3) := by decide +kernel
theorem dX8_text_44 : decode cX8_text 44 = .ok (.getfield 121, 3) := by decide +kernel
theorem dX8_text_47 : decode cX8_text 47 = .ok (.istore_n 2, 1) := by decide +kernel
theorem dX8_text_48 : decode cX8_text 48 = .ok (.aload_n 0, 1) := by decide +kernel
theorem dX8_text_49 : decode cX8_text 49 = .ok (.getfield 44, 3) := by decide +kernel
theorem dX8_text_52 : decode cX8_text 52 = .ok (.iload_n 2, 1) := by decide +kernel
theorem dX8_text_53 : decode cX8_text 53 = .ok (.aload_n 0, 1) := by decide +kernel
theorem dX8_text_54 : decode cX8_text 54 = .ok (.getfield 38, 3) := by decide +kernel
theorem dX8_text_57 : decode cX8_text 57 = .ok (.invokevirtual 228, 3) := by decide +kernel
theorem dX8_text_60 : decode cX8_text 60 = .ok (.aastore, 1) := by decide +kernel
theorem dX8_text_61 : decode cX8_text 61 = .ok (.aload_n 0, 1) := by decide +kernel
theorem dX8_text_62 : decode cX8_text 62 = .ok (.getfield 10, 3) := by decide +kernel
theorem dX8_text_65 : decode cX8_text 65 = .ok (.iload_n 2, 1) := by decide +kernel
theorem dX8_text_66 : decode cX8_text 66 = .ok (.iconst 1, 1) := by decide +kernel
theorem dX8_text_67 : decode cX8_text 67 = .ok (.iadd, 1) := by decide +kernel
theorem dX8_text_68 : decode cX8_text 68 = .ok (.putfield 121, 3) := by decide +kernel
theorem dX8_text_71 : decode cX8_text 71 = .ok (.iload_n 2, 1) := by decide +kernel
theorem dX8_text_72 : decode cX8_text 72 = .ok (.ireturn, 1) := by decide +kernel
theorem dX8_textTold_0 : decode cX8_textTold 0 = .ok (.iload_n 1, 1) := by decide +kernel
theorem dX8_textTold_1 : decode cX8_textTold 1 = .ok (.iconst 0, 1) := by decide +kernel
theorem dX8_textTold_2 : decode cX8_textTold 2 = .ok (.aload_n 0, 1) := by decide +kernel
theorem dX8_textTold_3 : decode cX8_textTold 3 = .ok (.getfield 10, 3) := by decide +kernel
theorem dX8_textTold_6 : decode cX8_textTold 6 = .ok (.getfield 121, 3) := by decide +kernel
theorem dX8_textTold_9 : decode cX8_textTold 9 = .ok (.iconst 1, 1) := by decide +kernel
theorem dX8_textTold_10 : decode cX8_textTold 10 = .ok (.isub, 1) := by decide +kernel
theorem dX8_textTold_11 : decode cX8_textTold 11 = .ok (.invokestatic 81, 3) := by decide +kernel
theorem dX8_textTold_14 : decode cX8_textTold 14 = .ok (.ifCond .eq 12, 3) := by decide +kernel
theorem dX8_textTold_17 : decode cX8_textTold 17 = .ok (.aload_n 0, 1) := by decide +kernel
theorem dX8_textTold_18 : decode cX8_textTold 18 = .ok (.getfield 44, 3) := by decide +kernel
theorem dX8_textTold_21 : decode cX8_textTold 21 = .ok (.iload_n 1, 1) := by decide +kernel
theorem dX8_textTold_22 : decode cX8_textTold 22 = .ok (.aaload, 1) := by decide +kernel
theorem dX8_textTold_23 : decode cX8_textTold 23 = .ok (.ifnonnull 6, 3) := by decide +kernel
theorem dX8_textTold_26 : decode cX8_textTold 26 = .ok (.ldc 85, 2) := by decide +kernel
theorem dX8_textTold_28 : decode cX8_textTold 28 = .ok (.ireturn, 1) := by decide +kernel
theorem dX8_textTold_29 : decode cX8_textTold 29 = .ok (.iload_n 2, 1) := by decide +kernel
theorem dX8_textTold_30 : decode cX8_textTold 30 = .ok (.lookupswitch 46 #[(0, 26), (1, 36)], 26) := by decide +kernel
theorem dX8_textTold_56 : decode cX8_textTold 56 = .ok (.aload_n 0, 1) := by decide +kernel
theorem dX8_textTold_57 : decode cX8_textTold 57 = .ok (.getfield 44, 3) := by decide +kernel
theorem dX8_textTold_60 : decode cX8_textTold 60 = .ok (.iload_n 1, 1) := by decide +kernel
theorem dX8_textTold_61 : decode cX8_textTold 61 = .ok (.aaload, 1) := by decide +kernel
theorem dX8_textTold_62 : decode cX8_textTold 62 = .ok (.getfield 232, 3) := by decide +kernel
theorem dX8_textTold_65 : decode cX8_textTold 65 = .ok (.ireturn, 1) := by decide +kernel
theorem dX8_textTold_66 : decode cX8_textTold 66 = .ok (.aload_n 0, 1) := by decide +kernel
theorem dX8_textTold_67 : decode cX8_textTold 67 = .ok (.getfield 44, 3) := by decide +kernel
theorem dX8_textTold_70 : decode cX8_textTold 70 = .ok (.iload_n 1, 1) := by decide +kernel
theorem dX8_textTold_71 : decode cX8_textTold 71 = .ok (.aaload, 1) := by decide +kernel
theorem dX8_textTold_72 : decode cX8_textTold 72 = .ok (.getfield 235, 3) := by decide +kernel
theorem dX8_textTold_75 : decode cX8_textTold 75 = .ok (.ireturn, 1) := by decide +kernel
theorem dX8_textTold_76 : decode cX8_textTold 76 = .ok (.ldc 85, 2) := by decide +kernel
theorem dX8_textTold_78 : decode cX8_textTold 78 = .ok (.ireturn, 1) := by decide +kernel
theorem dX8_why_0 : decode cX8_why 0 = .ok (.iload_n 1, 1) := by decide +kernel
theorem dX8_why_1 : decode cX8_why 1 = .ok (.iconst 0, 1) := by decide +kernel
theorem dX8_why_2 : decode cX8_why 2 = .ok (.iconst 2, 1) := by decide +kernel
theorem dX8_why_3 : decode cX8_why 3 = .ok (.invokestatic 81, 3) := by decide +kernel
theorem dX8_why_6 : decode cX8_why 6 = .ok (.ifCond .ne 6, 3) := by decide +kernel
theorem dX8_why_9 : decode cX8_why 9 = .ok (.ldc 85, 2) := by decide +kernel
theorem dX8_why_11 : decode cX8_why 11 = .ok (.ireturn, 1) := by decide +kernel
theorem dX8_why_12 : decode cX8_why 12 = .ok (.aload_n 0, 1) := by decide +kernel
theorem dX8_why_13 : decode cX8_why 13 = .ok (.iload_n 1, 1) := by decide +kernel
theorem dX8_why_14 : decode cX8_why 14 = .ok (.aload_n 0, 1) := by decide +kernel
theorem dX8_why_15 : decode cX8_why 15 = .ok (.getfield 10, 3) := by decide +kernel
theorem dX8_why_18 : decode cX8_why 18 = .ok (.getfield 121, 3) := by decide +kernel
theorem dX8_why_21 : decode cX8_why 21 = .ok (.invokevirtual 238, 3) := by decide +kernel
theorem dX8_why_24 : decode cX8_why 24 = .ok (.istore_n 2, 1) := by decide +kernel
theorem dX8_why_25 : decode cX8_why 25 = .ok (.iload_n 2, 1) := by decide +kernel
theorem dX8_why_26 : decode cX8_why 26 = .ok (.ifCond .ge 8, 3) := by decide +kernel
theorem dX8_why_29 : decode cX8_why 29 = .ok (.ldc 192, 2) := by decide +kernel
theorem dX8_why_31 : decode cX8_why 31 = .ok (.goto 4, 3) := by decide +kernel
theorem dX8_why_34 : decode cX8_why 34 = .ok (.iload_n 2, 1) := by decide +kernel
theorem dX8_why_35 : decode cX8_why 35 = .ok (.ireturn, 1) := by decide +kernel
theorem dX8_sheet_0 : decode cX8_sheet 0 = .ok (.iload_n 1, 1) := by decide +kernel
theorem dX8_sheet_1 : decode cX8_sheet 1 = .ok (.invokestatic 207, 3) := by decide +kernel
theorem dX8_sheet_4 : decode cX8_sheet 4 = .ok (.ifCond .eq 12, 3) := by decide +kernel
theorem dX8_sheet_7 : decode cX8_sheet 7 = .ok (.iload_n 2, 1) := by decide +kernel
theorem dX8_sheet_8 : decode cX8_sheet 8 = .ok (.iconst (-1), 1) := by decide +kernel
theorem dX8_sheet_9 : decode cX8_sheet 9 = .ok (.iconst 1, 1) := by decide +kernel
theorem dX8_sheet_10 : decode cX8_sheet 10 = .ok (.invokestatic 81, 3) := by decide +kernel
theorem dX8_sheet_13 : decode cX8_sheet 13 = .ok (.ifCond .ne 6, 3) := by decide +kernel
theorem dX8_sheet_16 : decode cX8_sheet 16 = .ok (.ldc 85, 2) := by decide +kernel
theorem dX8_sheet_18 : decode cX8_sheet 18 = .ok (.ireturn, 1) := by decide +kernel
theorem dX8_sheet_19 : decode cX8_sheet 19 = .ok (.iload_n 2, 1) := by decide +kernel
theorem dX8_sheet_20 : decode cX8_sheet 20 = .ok (.iconst (-1), 1) := by decide +kernel
theorem dX8_sheet_21 : decode cX8_sheet 21 = .ok (.if_icmp .ne 7, 3) := by decide +kernel
theorem dX8_sheet_24 : decode cX8_sheet 24 = .ok (.iconst 0, 1) := by decide +kernel
theorem dX8_sheet_25 : decode cX8_sheet 25 = .ok (.goto 4, 3) := by decide +kernel
theorem dX8_sheet_28 : decode cX8_sheet 28 = .ok (.iload_n 3, 1) := by decide +kernel
theorem dX8_sheet_29 : decode cX8_sheet 29 = .ok (.istore 4, 2) := by decide +kernel
theorem dX8_sheet_31 : decode cX8_sheet 31 = .ok (.iload 4, 2) := by decide +kernel
theorem dX8_sheet_33 : decode cX8_sheet 33 = .ok (.bipush 24, 2) := by decide +kernel
theorem dX8_sheet_35 : decode cX8_sheet 35 = .ok (.if_icmp .le 6, 3) := by decide +kernel
theorem dX8_sheet_38 : decode cX8_sheet 38 = .ok (.ldc 85, 2) := by decide +kernel
theorem dX8_sheet_40 : decode cX8_sheet 40 = .ok (.ireturn, 1) := by decide +kernel
theorem dX8_sheet_41 : decode cX8_sheet 41 = .ok (.iload 4, 2) := by decide +kernel
theorem dX8_sheet_43 : decode cX8_sheet 43 = .ok (.ifCond .ge 6, 3) := by decide +kernel
theorem dX8_sheet_46 : decode cX8_sheet 46 = .ok (.ldc 241, 2) := by decide +kernel
theorem dX8_sheet_48 : decode cX8_sheet 48 = .ok (.ireturn, 1) := by decide +kernel
theorem dX8_sheet_49 : decode cX8_sheet 49 = .ok (.aload_n 0, 1) := by decide +kernel
theorem dX8_sheet_50 : decode cX8_sheet 50 = .ok (.getfield 57, 3) := by decide +kernel
theorem dX8_sheet_53 : decode cX8_sheet 53 = .ok (.iload_n 1, 1) := by decide +kernel
theorem dX8_sheet_54 : decode cX8_sheet 54 = .ok (.aaload, 1) := by decide +kernel
theorem dX8_sheet_55 : decode cX8_sheet 55 = .ok (.iload_n 2, 1) := by decide +kernel
theorem dX8_sheet_56 : decode cX8_sheet 56 = .ok (.iload 4, 2) := by decide +kernel
theorem dX8_sheet_58 : decode cX8_sheet 58 = .ok (.invokevirtual 242, 3) := by decide +kernel
theorem dX8_sheet_61 : decode cX8_sheet 61 = .ok (.iload 4, 2) := by decide +kernel
theorem dX8_sheet_63 : decode cX8_sheet 63 = .ok (.ireturn, 1) := by decide +kernel
theorem dX8_mark_0 : decode cX8_mark 0 = .ok (.iload_n 1, 1) := by decide +kernel
theorem dX8_mark_1 : decode cX8_mark 1 = .ok (.invokestatic 207, 3) := by decide +kernel
theorem dX8_mark_4 : decode cX8_mark 4 = .ok (.ifCond .ne 6, 3) := by decide +kernel
theorem dX8_mark_7 : decode cX8_mark 7 = .ok (.ldc 85, 2) := by decide +kernel
theorem dX8_mark_9 : decode cX8_mark 9 = .ok (.ireturn, 1) := by decide +kernel
theorem dX8_mark_10 : decode cX8_mark 10 = .ok (.aload_n 0, 1) := by decide +kernel
theorem dX8_mark_11 : decode cX8_mark 11 = .ok (.getfield 57, 3) := by decide +kernel
theorem dX8_mark_14 : decode cX8_mark 14 = .ok (.iload_n 1, 1) := by decide +kernel
theorem dX8_mark_15 : decode cX8_mark 15 = .ok (.aaload, 1) := by decide +kernel
theorem dX8_mark_16 : decode cX8_mark 16 = .ok (.astore 4, 2) := by decide +kernel
theorem dX8_mark_18 : decode cX8_mark 18 = .ok (.aload 4, 2) := by decide +kernel
theorem dX8_mark_20 : decode cX8_mark 20 = .ok (.invokevirtual 210, 3) := by decide +kernel
theorem dX8_mark_23 : decode cX8_mark 23 = .ok (.ifCond .eq 6, 3) := by decide +kernel
theorem dX8_mark_26 : decode cX8_mark 26 = .ok (.ldc 213, 2) := by decide +kernel
theorem dX8_mark_28 : decode cX8_mark 28 = .ok (.ireturn, 1) := by decide +kernel
theorem dX8_mark_29 : decode cX8_mark 29 = .ok (.aload 4, 2) := by decide +kernel
theorem dX8_mark_31 : decode cX8_mark 31 = .ok (.iload_n 2, 1) := by decide +kernel
theorem dX8_mark_32 : decode cX8_mark 32 = .ok (.invokevirtual 245, 3) := by decide +kernel
theorem dX8_mark_35 : decode cX8_mark 35 = .ok (.ifCond .ne 6, 3) := by decide +kernel
theorem dX8_mark_38 : decode cX8_mark 38 = .ok (.ldc 248, 2) := by decide +kernel
theorem dX8_mark_40 : decode cX8_mark 40 = .ok (.ireturn, 1) := by decide +kernel
theorem dX8_mark_41 : decode cX8_mark 41 = .ok (.aload 4, 2) := by decide +kernel
theorem dX8_mark_43 : decode cX8_mark 43 = .ok (.getfield 249, 3) := by decide +kernel
theorem dX8_mark_46 : decode cX8_mark 46 = .ok (.ifCond .ne 12, 3) := by decide +kernel
theorem dX8_mark_49 : decode cX8_mark 49 = .ok (.iload_n 3, 1) := by decide +kernel
theorem dX8_mark_50 : decode cX8_mark 50 = .ok (.ldc 192, 2) := by decide +kernel
theorem dX8_mark_52 : decode cX8_mark 52 = .ok (.if_icmp .ne 6, 3) := by decide +kernel
theorem dX8_mark_55 : decode cX8_mark 55 = .ok (.ldc 139, 2) := by decide +kernel
theorem dX8_mark_57 : decode cX8_mark 57 = .ok (.ireturn, 1) := by decide +kernel
theorem dX8_mark_58 : decode cX8_mark 58 = .ok (.aload 4, 2) := by decide +kernel
theorem dX8_mark_60 : decode cX8_mark 60 = .ok (.getfield 249, 3) := by decide +kernel
theorem dX8_mark_63 : decode cX8_mark 63 = .ok (.iconst 1, 1) := by decide +kernel
theorem dX8_mark_64 : decode cX8_mark 64 = .ok (.if_icmp .ne 23, 3) := by decide +kernel
theorem dX8_mark_67 : decode cX8_mark 67 = .ok (.iload_n 3, 1) := by decide +kernel
theorem dX8_mark_68 : decode cX8_mark 68 = .ok (.ldc 192, 2) := by decide +kernel
theorem dX8_mark_70 : decode cX8_mark 70 = .ok (.if_icmp .eq 17, 3) := by decide +kernel
theorem dX8_mark_73 : decode cX8_mark 73 = .ok (.iload_n 3, 1) := by decide +kernel
theorem dX8_mark_74 : decode cX8_mark 74 = .ok (.ldc 252, 2) := by decide +kernel
theorem dX8_mark_76 : decode cX8_mark 76 = .ok (.ldc 253, 2) := by decide +kernel
theorem dX8_mark_78 : decode cX8_mark 78 = .ok (.invokestatic 81, 3) := by decide +kernel
theorem dX8_mark_81 : decode cX8_mark 81 = .ok (.ifCond .ne 6, 3) := by decide +kernel
theorem dX8_mark_84 : decode cX8_mark 84 = .ok (.ldc 85, 2) := by decide +kernel
theorem dX8_mark_86 : decode cX8_mark 86 = .ok (.ireturn, 1) := by decide +kernel
theorem dX8_mark_87 : decode cX8_mark 87 = .ok (.aload 4, 2) := by decide +kernel
theorem dX8_mark_89 : decode cX8_mark 89 = .ok (.getfield 254, 3) := by decide +kernel
theorem dX8_mark_92 : decode cX8_mark 92 = .ok (.iload_n 2, 1) := by decide +kernel
theorem dX8_mark_93 : decode cX8_mark 93 = .ok (.aload 4, 2) := by decide +kernel
theorem dX8_mark_95 : decode cX8_mark 95 = .ok (.getfield 249, 3) := by decide +kernel
theorem dX8_mark_98 : decode cX8_mark 98 = .ok (.ifCond .ne 8, 3) := by decide +kernel
theorem dX8_mark_101 : decode cX8_mark 101 = .ok (.iload_n 3, 1) := by decide +kernel
theorem dX8_mark_102 : decode cX8_mark 102 = .ok (.i2s, 1) := by decide +kernel
theorem dX8_mark_103 : decode cX8_mark 103 = .ok (.goto 4, 3) := by decide +kernel
theorem dX8_mark_106 : decode cX8_mark 106 = .ok (.iload_n 3, 1) := by decide +kernel
theorem dX8_mark_107 : decode cX8_mark 107 = .ok (.iastore, 1) := by decide +kernel
theorem dX8_mark_108 : decode cX8_mark 108 = .ok (.iconst 1, 1) := by decide +kernel
theorem dX8_mark_109 : decode cX8_mark 109 = .ok (.ireturn, 1) := by decide +kernel
theorem dX8_pour_0 : decode cX8_pour 0 = .ok (.iload_n 1, 1) := by decide +kernel
theorem dX8_pour_1 : decode cX8_pour 1 = .ok (.invokestatic 207, 3) := by decide +kernel
theorem dX8_pour_4 : decode cX8_pour 4 = .ok (.ifCond .ne 6, 3) := by decide +kernel
theorem dX8_pour_7 : decode cX8_pour 7 = .ok (.ldc 85, 2) := by decide +kernel
theorem dX8_pour_9 : decode cX8_pour 9 = .ok (.ireturn, 1) := by decide +kernel
theorem dX8_pour_10 : decode cX8_pour 10 = .ok (.aload_n 0, 1) := by decide +kernel
theorem dX8_pour_11 : decode cX8_pour 11 = .ok (.getfield 57, 3) := by decide +kernel
theorem dX8_pour_14 : decode cX8_pour 14 = .ok (.iload_n 1, 1) := by decide +kernel
theorem dX8_pour_15 : decode cX8_pour 15 = .ok (.aaload, 1) := by decide +kernel
theorem dX8_pour_16 : decode cX8_pour 16 = .ok (.astore_n 2, 1) := by decide +kernel
theorem dX8_pour_17 : decode cX8_pour 17 = .ok (.aload_n 2, 1) := by decide +kernel
theorem dX8_pour_18 : decode cX8_pour 18 = .ok (.invokevirtual 210, 3) := by decide +kernel
theorem dX8_pour_21 : decode cX8_pour 21 = .ok (.ifCond .eq 6, 3) := by decide +kernel
theorem dX8_pour_24 : decode cX8_pour 24 = .ok (.ldc 213, 2) := by decide +kernel
theorem dX8_pour_26 : decode cX8_pour 26 = .ok (.ireturn, 1) := by decide +kernel
theorem dX8_pour_27 : decode cX8_pour 27 = .ok (.iconst 0, 1) := by decide +kernel
theorem dX8_pour_28 : decode cX8_pour 28 = .ok (.istore_n 3, 1) := by decide +kernel
theorem dX8_pour_29 : decode cX8_pour 29 = .ok (.iconst 0, 1) := by decide +kernel
theorem dX8_pour_30 : decode cX8_pour 30 = .ok (.istore 4, 2) := by decide +kernel
theorem dX8_pour_32 : decode cX8_pour 32 = .ok (.iload 4, 2) := by decide +kernel
theorem dX8_pour_34 : decode cX8_pour 34 = .ok (.bipush 8, 2) := by decide +kernel
theorem dX8_pour_36 : decode cX8_pour 36 = .ok (.if_icmp .ge 75, 3) := by decide +kernel
theorem dX8_pour_39 : decode cX8_pour 39 = .ok (.iload 4, 2) := by decide +kernel
theorem dX8_pour_41 : decode cX8_pour 41 = .ok (.aload_n 2, 1) := by decide +kernel
theorem dX8_pour_42 : decode cX8_pour 42 = .ok (.getfield 257, 3) := by decide +kernel
theorem dX8_pour_45 : decode cX8_pour 45 = .ok (.if_icmp .ge 66, 3) := by decide +kernel
theorem dX8_pour_48 : decode cX8_pour 48 = .ok (.aload_n 2, 1) := by decide +kernel
theorem dX8_pour_49 : decode cX8_pour 49 = .ok (.iload 4, 2) := by decide +kernel
theorem dX8_pour_51 : decode cX8_pour 51 = .ok (.invokevirtual 258, 3) := by decide +kernel
theorem dX8_pour_54 : decode cX8_pour 54 = .ok (.ifCond .ne 6, 3) := by decide +kernel
theorem dX8_pour_57 : decode cX8_pour 57 = .ok (.goto 48, 3) := by decide +kernel
theorem dX8_pour_60 : decode cX8_pour 60 = .ok (.aload_n 2, 1) := by decide +kernel
theorem dX8_pour_61 : decode cX8_pour 61 = .ok (.getfield 254, 3) := by decide +kernel
theorem dX8_pour_64 : decode cX8_pour 64 = .ok (.iload 4, 2) := by decide +kernel
theorem dX8_pour_66 : decode cX8_pour 66 = .ok (.iaload, 1) := by decide +kernel
theorem dX8_pour_67 : decode cX8_pour 67 = .ok (.iconst 0, 1) := by decide +kernel
theorem dX8_pour_68 : decode cX8_pour 68 = .ok (.bipush 9, 2) := by decide +kernel
theorem dX8_pour_70 : decode cX8_pour 70 = .ok (.invokestatic 261, 3) := by decide +kernel
theorem dX8_pour_73 : decode cX8_pour 73 = .ok (.istore 5, 2) := by decide +kernel
theorem dX8_pour_75 : decode cX8_pour 75 = .ok (.aload_n 0, 1) := by decide +kernel
theorem dX8_pour_76 : decode cX8_pour 76 = .ok (.getfield 10, 3) := by decide +kernel
theorem dX8_pour_79 : decode cX8_pour 79 = .ok (.getfield 143, 3) := by decide +kernel
theorem dX8_pour_82 : decode cX8_pour 82 = .ok (.iload 4, 2) := by decide +kernel
theorem dX8_pour_84 : decode cX8_pour 84 = .ok (.iaload, 1) := by decide +kernel
theorem dX8_pour_85 : decode cX8_pour 85 = .ok (.iload 5, 2) := by decide +kernel
theorem dX8_pour_87 : decode cX8_pour 87 = .ok (.if_icmp .eq 18, 3) := by decide +kernel
theorem dX8_pour_90 : decode cX8_pour 90 = .ok (.aload_n 0, 1) := by decide +kernel
theorem dX8_pour_91 : decode cX8_pour 91 = .ok (.getfield 10, 3) := by decide +kernel
theorem dX8_pour_94 : decode cX8_pour 94 = .ok (.getfield 143, 3) := by decide +kernel
theorem dX8_pour_97 : decode cX8_pour 97 = .ok (.iload 4, 2) := by decide +kernel
theorem dX8_pour_99 : decode cX8_pour 99 = .ok (.iload 5, 2) := by decide +kernel
theorem dX8_pour_101 : decode cX8_pour 101 = .ok (.iastore, 1) := by decide +kernel
theorem dX8_pour_102 : decode cX8_pour 102 = .ok (.iinc 3 1, 3) := by decide +kernel
theorem dX8_pour_105 : decode cX8_pour 105 = .ok (.iinc 4 1, 3) := by decide +kernel
theorem dX8_pour_108 : decode cX8_pour 108 = .ok (.goto (-76), 3) := by decide +kernel
theorem dX8_pour_111 : decode cX8_pour 111 = .ok (.iload_n 3, 1) := by decide +kernel
theorem dX8_pour_112 : decode cX8_pour 112 = .ok (.ireturn, 1) := by decide +kernel
theorem dX8_reads_0 : decode cX8_reads 0 = .ok (.iload_n 1, 1) := by decide +kernel
theorem dX8_reads_1 : decode cX8_reads 1 = .ok (.invokestatic 207, 3) := by decide +kernel
theorem dX8_reads_4 : decode cX8_reads 4 = .ok (.ifCond .ne 6, 3) := by decide +kernel
theorem dX8_reads_7 : decode cX8_reads 7 = .ok (.ldc 85, 2) := by decide +kernel
theorem dX8_reads_9 : decode cX8_reads 9 = .ok (.ireturn, 1) := by decide +kernel
theorem dX8_reads_10 : decode cX8_reads 10 = .ok (.aload_n 0, 1) := by decide +kernel
theorem dX8_reads_11 : decode cX8_reads 11 = .ok (.getfield 57, 3) := by decide +kernel
theorem dX8_reads_14 : decode cX8_reads 14 = .ok (.iload_n 1, 1) := by decide +kernel
theorem dX8_reads_15 : decode cX8_reads 15 = .ok (.aaload, 1) := by decide +kernel
theorem dX8_reads_16 : decode cX8_reads 16 = .ok (.astore_n 2, 1) := by decide +kernel
theorem dX8_reads_17 : decode cX8_reads 17 = .ok (.aload_n 2, 1) := by decide +kernel
theorem dX8_reads_18 : decode cX8_reads 18 = .ok (.invokevirtual 210, 3) := by decide +kernel
theorem dX8_reads_21 : decode cX8_reads 21 = .ok (.ifCond .eq 6, 3) := by decide +kernel
theorem dX8_reads_24 : decode cX8_reads 24 = .ok (.ldc 213, 2) := by decide +kernel
theorem dX8_reads_26 : decode cX8_reads 26 = .ok (.ireturn, 1) := by decide +kernel
theorem dX8_reads_27 : decode cX8_reads 27 = .ok (.iconst 0, 1) := by decide +kernel
theorem dX8_reads_28 : decode cX8_reads 28 = .ok (.istore_n 3, 1) := by decide +kernel
theorem dX8_reads_29 : decode cX8_reads 29 = .ok (.iload_n 3, 1) := by decide +kernel
theorem dX8_reads_30 : decode cX8_reads 30 = .ok (.aload_n 2, 1) := by decide +kernel
theorem dX8_reads_31 : decode cX8_reads 31 = .ok (.getfield 257, 3) := by decide +kernel
theorem dX8_reads_34 : decode cX8_reads 34 = .ok (.if_icmp .ge 45, 3) := by decide +kernel
theorem dX8_reads_37 : decode cX8_reads 37 = .ok (.aload_n 2, 1) := by decide +kernel
theorem dX8_reads_38 : decode cX8_reads 38 = .ok (.iload_n 3, 1) := by decide +kernel
theorem dX8_reads_39 : decode cX8_reads 39 = .ok (.invokevirtual 258, 3) := by decide +kernel
theorem dX8_reads_42 : decode cX8_reads 42 = .ok (.ifCond .eq 31, 3) := by decide +kernel
theorem dX8_reads_45 : decode cX8_reads 45 = .ok (.aload_n 0, 1) := by decide +kernel
theorem dX8_reads_46 : decode cX8_reads 46 = .ok (.iload_n 3, 1) := by decide +kernel
theorem dX8_reads_47 : decode cX8_reads 47 = .ok (.invokevirtual 94, 3) := by decide +kernel
theorem dX8_reads_50 : decode cX8_reads 50 = .ok (.ifCond .eq 21, 3) := by decide +kernel
theorem dX8_reads_53 : decode cX8_reads 53 = .ok (.aload_n 2, 1) := by decide +kernel
theorem dX8_reads_54 : decode cX8_reads 54 = .ok (.getfield 254, 3) := by decide +kernel
theorem dX8_reads_57 : decode cX8_reads 57 = .ok (.iload_n 3, 1) := by decide +kernel
theorem dX8_reads_58 : decode cX8_reads 58 = .ok (.iaload, 1) := by decide +kernel
theorem dX8_reads_59 : decode cX8_reads 59 = .ok (.aload_n 0, 1) := by decide +kernel
theorem dX8_reads_60 : decode cX8_reads 60 = .ok (.getfield 10, 3) := by decide +kernel
theorem dX8_reads_63 : decode cX8_reads 63 = .ok (.getfield 106, 3) := by decide +kernel
theorem dX8_reads_66 : decode cX8_reads 66 = .ok (.iload_n 3, 1) := by decide +kernel
theorem dX8_reads_67 : decode cX8_reads 67 = .ok (.iaload, 1) := by decide +kernel
theorem dX8_reads_68 : decode cX8_reads 68 = .ok (.if_icmp .eq 5, 3) := by decide +kernel
theorem dX8_reads_71 : decode cX8_reads 71 = .ok (.iload_n 3, 1) := by decide +kernel
theorem dX8_reads_72 : decode cX8_reads 72 = .ok (.ireturn, 1) := by decide +kernel
theorem dX8_reads_73 : decode cX8_reads 73 = .ok (.iinc 3 1, 3) := by decide +kernel
theorem dX8_reads_76 : decode cX8_reads 76 = .ok (.goto (-47), 3) := by decide +kernel
theorem dX8_reads_79 : decode cX8_reads 79 = .ok (.ldc 192, 2) := by decide +kernel
theorem dX8_reads_81 : decode cX8_reads 81 = .ok (.ireturn, 1) := by decide +kernel
theorem dX8_copy_0 : decode cX8_copy 0 = .ok (.iload_n 1, 1) := by decide +kernel
theorem dX8_copy_1 : decode cX8_copy 1 = .ok (.invokestatic 207, 3) := by decide +kernel
theorem dX8_copy_4 : decode cX8_copy 4 = .ok (.ifCond .eq 10, 3) := by decide +kernel
theorem dX8_copy_7 : decode cX8_copy 7 = .ok (.iload_n 3, 1) := by decide +kernel
theorem dX8_copy_8 : decode cX8_copy 8 = .ok (.invokestatic 207, 3) := by decide +kernel
theorem dX8_copy_11 : decode cX8_copy 11 = .ok (.ifCond .ne 6, 3) := by decide +kernel
theorem dX8_copy_14 : decode cX8_copy 14 = .ok (.ldc 85, 2) := by decide +kernel
theorem dX8_copy_16 : decode cX8_copy 16 = .ok (.ireturn, 1) := by decide +kernel
theorem dX8_copy_17 : decode cX8_copy 17 = .ok (.aload_n 0, 1) := by decide +kernel
theorem dX8_copy_18 : decode cX8_copy 18 = .ok (.getfield 57, 3) := by decide +kernel
theorem dX8_copy_21 : decode cX8_copy 21 = .ok (.iload_n 1, 1) := by decide +kernel
theorem dX8_copy_22 : decode cX8_copy 22 = .ok (.aaload, 1) := by decide +kernel
theorem dX8_copy_23 : decode cX8_copy 23 = .ok (.astore 6, 2) := by decide +kernel
theorem dX8_copy_25 : decode cX8_copy 25 = .ok (.aload_n 0, 1) := by decide +kernel
theorem dX8_copy_26 : decode cX8_copy 26 = .ok (.getfield 57, 3) := by decide +kernel
theorem dX8_copy_29 : decode cX8_copy 29 = .ok (.iload_n 3, 1) := by decide +kernel
theorem dX8_copy_30 : decode cX8_copy 30 = .ok (.aaload, 1) := by decide +kernel
theorem dX8_copy_31 : decode cX8_copy 31 = .ok (.astore 7, 2) := by decide +kernel
theorem dX8_copy_33 : decode cX8_copy 33 = .ok (.aload 6, 2) := by decide +kernel
theorem dX8_copy_35 : decode cX8_copy 35 = .ok (.invokevirtual 210, 3) := by decide +kernel
theorem dX8_copy_38 : decode cX8_copy 38 = .ok (.ifCond .ne 11, 3) := by decide +kernel
theorem dX8_copy_41 : decode cX8_copy 41 = .ok (.aload 7, 2) := by decide +kernel
theorem dX8_copy_43 : decode cX8_copy 43 = .ok (.invokevirtual 210, 3) := by decide +kernel
theorem dX8_copy_46 : decode cX8_copy 46 = .ok (.ifCond .eq 6, 3) := by decide +kernel
theorem dX8_copy_49 : decode cX8_copy 49 = .ok (.ldc 213, 2) := by decide +kernel
theorem dX8_copy_51 : decode cX8_copy 51 = .ok (.ireturn, 1) := by decide +kernel
theorem dX8_copy_52 : decode cX8_copy 52 = .ok (.aload 6, 2) := by decide +kernel
theorem dX8_copy_54 : decode cX8_copy 54 = .ok (.getfield 249, 3) := by decide +kernel
theorem dX8_copy_57 : decode cX8_copy 57 = .ok (.aload 7, 2) := by decide +kernel
theorem dX8_copy_59 : decode cX8_copy 59 = .ok (.getfield 249, 3) := by decide +kernel
theorem dX8_copy_62 : decode cX8_copy 62 = .ok (.if_icmp .eq 6, 3) := by decide +kernel
theorem dX8_copy_65 : decode cX8_copy 65 = .ok (.ldc 139, 2) := by decide +kernel
theorem dX8_copy_67 : decode cX8_copy 67 = .ok (.ireturn, 1) := by decide +kernel
theorem dX8_copy_68 : decode cX8_copy 68 = .ok (.aload 6, 2) := by decide +kernel
theorem dX8_copy_70 : decode cX8_copy 70 = .ok (.iload_n 2, 1) := by decide +kernel
theorem dX8_copy_71 : decode cX8_copy 71 = .ok (.iload 5, 2) := by decide +kernel
theorem dX8_copy_73 : decode cX8_copy 73 = .ok (.invokevirtual 264, 3) := by decide +kernel
theorem dX8_copy_76 : decode cX8_copy 76 = .ok (.ifCond .eq 15, 3) := by decide +kernel
theorem dX8_copy_79 : decode cX8_copy 79 = .ok (.aload 7, 2) := by decide +kernel
theorem dX8_copy_81 : decode cX8_copy 81 = .ok (.iload 4, 2) := by decide +kernel
theorem dX8_copy_83 : decode cX8_copy 83 = .ok (.iload 5, 2) := by decide +kernel
theorem dX8_copy_85 : decode cX8_copy 85 = .ok (.invokevirtual 264, 3) := by decide +kernel
theorem dX8_copy_88 : decode cX8_copy 88 = .ok (.ifCond .ne 6, 3) := by decide +kernel
theorem dX8_copy_91 : decode cX8_copy 91 = .ok (.ldc 248, 2) := by decide +kernel
theorem dX8_copy_93 : decode cX8_copy 93 = .ok (.ireturn, 1) := by decide +kernel
theorem dX8_copy_94 : decode cX8_copy 94 = .ok (.aload 6, 2) := by decide +kernel
theorem dX8_copy_96 : decode cX8_copy 96 = .ok (.getfield 254, 3) := by decide +kernel
theorem dX8_copy_99 : decode cX8_copy 99 = .ok (.iload_n 2, 1) := by decide +kernel
theorem dX8_copy_100 : decode cX8_copy 100 = .ok (.aload 7, 2) := by decide +kernel
theorem dX8_copy_102 : decode cX8_copy 102 = .ok (.getfield 254, 3) := by decide +kernel
theorem dX8_copy_105 : decode cX8_copy 105 = .ok (.iload 4, 2) := by decide +kernel
theorem dX8_copy_107 : decode cX8_copy 107 = .ok (.iload 5, 2) := by decide +kernel
theorem dX8_copy_109 : decode cX8_copy 109 = .ok (.invokestatic 267, 3) := by decide +kernel
theorem dX8_copy_112 : decode cX8_copy 112 = .ok (.iload 5, 2) := by decide +kernel
theorem dX8_copy_114 : decode cX8_copy 114 = .ok (.ireturn, 1) := by decide +kernel
theorem dX8_lay_0 : decode cX8_lay 0 = .ok (.iload_n 1, 1) := by decide +kernel
theorem dX8_lay_1 : decode cX8_lay 1 = .ok (.invokestatic 273, 3) := by decide +kernel
theorem dX8_lay_4 : decode cX8_lay 4 = .ok (.ifCond .eq 12, 3) := by decide +kernel
theorem dX8_lay_7 : decode cX8_lay 7 = .ok (.iload_n 2, 1) := by decide +kernel
theorem dX8_lay_8 : decode cX8_lay 8 = .ok (.iconst 0, 1) := by decide +kernel
theorem dX8_lay_9 : decode cX8_lay 9 = .ok (.iconst 3, 1) := by decide +kernel
theorem dX8_lay_10 : decode cX8_lay 10 = .ok (.invokestatic 81, 3) := by decide +kernel
theorem dX8_lay_13 : decode cX8_lay 13 = .ok (.ifCond .ne 6, 3) := by decide +kernel
theorem dX8_lay_16 : decode cX8_lay 16 = .ok (.ldc 85, 2) := by decide +kernel
theorem dX8_lay_18 : decode cX8_lay 18 = .ok (.ireturn, 1) := by decide +kernel
theorem dX8_lay_19 : decode cX8_lay 19 = .ok (.iload_n 2, 1) := by decide +kernel
theorem dX8_lay_20 : decode cX8_lay 20 = .ok (.iconst 1, 1) := by decide +kernel
theorem dX8_lay_21 : decode cX8_lay 21 = .ok (.if_icmp .ne 11, 3) := by decide +kernel
theorem dX8_lay_24 : decode cX8_lay 24 = .ok (.aload_n 0, 1) := by decide +kernel
theorem dX8_lay_25 : decode cX8_lay 25 = .ok (.iload_n 3, 1) := by decide +kernel
theorem dX8_lay_26 : decode cX8_lay 26 = .ok (.invokevirtual 94, 3) := by decide +kernel
theorem dX8_lay_29 : decode cX8_lay 29 = .ok (.ifCond .eq 15, 3) := by decide +kernel
theorem dX8_lay_32 : decode cX8_lay 32 = .ok (.iload_n 2, 1) := by decide +kernel
theorem dX8_lay_33 : decode cX8_lay 33 = .ok (.iconst 2, 1) := by decide +kernel
theorem dX8_lay_34 : decode cX8_lay 34 = .ok (.if_icmp .ne 13, 3) := by decide +kernel
theorem dX8_lay_37 : decode cX8_lay 37 = .ok (.iload_n 3, 1) := by decide +kernel
theorem dX8_lay_38 : decode cX8_lay 38 = .ok (.invokestatic 207, 3) := by decide +kernel
theorem dX8_lay_41 : decode cX8_lay 41 = .ok (.ifCond .ne 6, 3) := by decide +kernel
theorem dX8_lay_44 : decode cX8_lay 44 = .ok (.ldc 85, 2) := by decide +kernel
theorem dX8_lay_46 : decode cX8_lay 46 = .ok (.ireturn, 1) := by decide +kernel
theorem dX8_lay_47 : decode cX8_lay 47 = .ok (.iload_n 2, 1) := by decide +kernel
theorem dX8_lay_48 : decode cX8_lay 48 = .ok (.iconst 2, 1) := by decide +kernel
theorem dX8_lay_49 : decode cX8_lay 49 = .ok (.if_icmp .ne 18, 3) := by decide +kernel
theorem dX8_lay_52 : decode cX8_lay 52 = .ok (.aload_n 0, 1) := by decide +kernel
theorem dX8_lay_53 : decode cX8_lay 53 = .ok (.getfield 57, 3) := by decide +kernel
theorem dX8_lay_56 : decode cX8_lay 56 = .ok (.iload_n 3, 1) := by decide +kernel
theorem dX8_lay_57 : decode cX8_lay 57 = .ok (.aaload, 1) := by decide +kernel
theorem dX8_lay_58 : decode cX8_lay 58 = .ok (.invokevirtual 210, 3) := by decide +kernel
theorem dX8_lay_61 : decode cX8_lay 61 = .ok (.ifCond .eq 6, 3) := by decide +kernel
theorem dX8_lay_64 : decode cX8_lay 64 = .ok (.ldc 213, 2) := by decide +kernel
theorem dX8_lay_66 : decode cX8_lay 66 = .ok (.ireturn, 1) := by decide +kernel
theorem dX8_lay_67 : decode cX8_lay 67 = .ok (.aload_n 0, 1) := by decide +kernel
theorem dX8_lay_68 : decode cX8_lay 68 = .ok (.getfield 63, 3) := by decide +kernel
theorem dX8_lay_71 : decode cX8_lay 71 = .ok (.iload_n 1, 1) := by decide +kernel
theorem dX8_lay_72 : decode cX8_lay 72 = .ok (.aaload, 1) := by decide +kernel
theorem dX8_lay_73 : decode cX8_lay 73 = .ok (.astore 4, 2) := by decide +kernel
theorem dX8_lay_75 : decode cX8_lay 75 = .ok (.aload 4, 2) := by decide +kernel
theorem dX8_lay_77 : decode cX8_lay 77 = .ok (.getfield 276, 3) := by decide +kernel
theorem dX8_lay_80 : decode cX8_lay 80 = .ok (.istore 5, 2) := by decide +kernel
theorem dX8_lay_82 : decode cX8_lay 82 = .ok (.aload 4, 2) := by decide +kernel
theorem dX8_lay_84 : decode cX8_lay 84 = .ok (.iload_n 2, 1) := by decide +kernel
theorem dX8_lay_85 : decode cX8_lay 85 = .ok (.putfield 276, 3) := by decide +kernel
theorem dX8_lay_88 : decode cX8_lay 88 = .ok (.iload_n 2, 1) := by decide +kernel
theorem dX8_lay_89 : decode cX8_lay 89 = .ok (.iconst 1, 1) := by decide +kernel
theorem dX8_lay_90 : decode cX8_lay 90 = .ok (.if_icmp .ne 34, 3) := by decide +kernel
theorem dX8_lay_93 : decode cX8_lay 93 = .ok (.aload 4, 2) := by decide +kernel
theorem dX8_lay_95 : decode cX8_lay 95 = .ok (.aload_n 0, 1) := by decide +kernel
theorem dX8_lay_96 : decode cX8_lay 96 = .ok (.getfield 10, 3) := by decide +kernel
theorem dX8_lay_99 : decode cX8_lay 99 = .ok (.getfield 97, 3) := by decide +kernel
theorem dX8_lay_102 : decode cX8_lay 102 = .ok (.iload_n 3, 1) := by decide +kernel
theorem dX8_lay_103 : decode cX8_lay 103 = .ok (.iaload, 1) := by decide +kernel
theorem dX8_lay_104 : decode cX8_lay 104 = .ok (.putfield 279, 3) := by decide +kernel
theorem dX8_lay_107 : decode cX8_lay 107 = .ok (.aload 4, 2) := by decide +kernel
theorem dX8_lay_109 : decode cX8_lay 109 = .ok (.aload_n 0, 1) := by decide +kernel
theorem dX8_lay_110 : decode cX8_lay 110 = .ok (.getfield 10, 3) := by decide +kernel
theorem dX8_lay_113 : decode cX8_lay 113 = .ok (.getfield 103, 3) := by decide +kernel
theorem dX8_lay_116 : decode cX8_lay 116 = .ok (.iload_n 3, 1) := by decide +kernel
theorem dX8_lay_117 : decode cX8_lay 117 = .ok (.iaload, 1) := by decide +kernel
theorem dX8_lay_118 : decode cX8_lay 118 = .ok (.putfield 282, 3) := by decide +kernel
theorem dX8_lay_121 : decode cX8_lay 121 = .ok (.goto 36, 3) := by decide +kernel
theorem dX8_lay_124 : decode cX8_lay 124 = .ok (.iload_n 2, 1) := by decide +kernel
theorem dX8_lay_125 : decode cX8_lay 125 = .ok (.iconst 2, 1) := by decide +kernel
theorem dX8_lay_126 : decode cX8_lay 126 = .ok (.if_icmp .ne 20, 3) := by decide +kernel
theorem dX8_lay_129 : decode cX8_lay 129 = .ok (.aload 4, 2) := by decide +kernel
theorem dX8_lay_131 : decode cX8_lay 131 = .ok (.getfield 285, 3) := by decide +kernel
theorem dX8_lay_134 : decode cX8_lay 134 = .ok (.aload_n 0, 1) := by decide +kernel
theorem dX8_lay_135 : decode cX8_lay 135 = .ok (.getfield 57, 3) := by decide +kernel
theorem dX8_lay_138 : decode cX8_lay 138 = .ok (.iload_n 3, 1) := by decide +kernel
theorem dX8_lay_139 : decode cX8_lay 139 = .ok (.aaload, 1) := by decide +kernel
theorem dX8_lay_140 : decode cX8_lay 140 = .ok (.invokevirtual 289, 3) := by decide +kernel
theorem dX8_lay_143 : decode cX8_lay 143 = .ok (.goto 14, 3) := by decide +kernel
theorem dX8_lay_146 : decode cX8_lay 146 = .ok (.iload_n 2, 1) := by decide +kernel
theorem dX8_lay_147 : decode cX8_lay 147 = .ok (.iconst 3, 1) := by decide +kernel
theorem dX8_lay_148 : decode cX8_lay 148 = .ok (.if_icmp .ne 9, 3) := by decide +kernel
theorem dX8_lay_151 : decode cX8_lay 151 = .ok (.aload 4, 2) := by decide +kernel
theorem dX8_lay_153 : decode cX8_lay 153 = .ok (.iload_n 3, 1) := by decide +kernel
theorem dX8_lay_154 : decode cX8_lay 154 = .ok (.putfield 293, 3) := by decide +kernel
theorem dX8_lay_157 : decode cX8_lay 157 = .ok (.iload 5, 2) := by decide +kernel
theorem dX8_lay_159 : decode cX8_lay 159 = .ok (.ireturn, 1) := by decide +kernel
theorem dX8_ask_0 : decode cX8_ask 0 = .ok (.iload_n 1, 1) := by decide +kernel
theorem dX8_ask_1 : decode cX8_ask 1 = .ok (.invokestatic 273, 3) := by decide +kernel
theorem dX8_ask_4 : decode cX8_ask 4 = .ok (.ifCond .eq 10, 3) := by decide +kernel
theorem dX8_ask_7 : decode cX8_ask 7 = .ok (.iload_n 2, 1) := by decide +kernel
theorem dX8_ask_8 : decode cX8_ask 8 = .ok (.invokestatic 77, 3) := by decide +kernel
theorem dX8_ask_11 : decode cX8_ask 11 = .ok (.ifCond .ne 6, 3) := by decide +kernel
theorem dX8_ask_14 : decode cX8_ask 14 = .ok (.ldc 85, 2) := by decide +kernel
theorem dX8_ask_16 : decode cX8_ask 16 = .ok (.ireturn, 1) := by decide +kernel
theorem dX8_ask_17 : decode cX8_ask 17 = .ok (.aload_n 0, 1) := by decide +kernel
theorem dX8_ask_18 : decode cX8_ask 18 = .ok (.getfield 63, 3) := by decide +kernel
theorem dX8_ask_21 : decode cX8_ask 21 = .ok (.iload_n 1, 1) := by decide +kernel
theorem dX8_ask_22 : decode cX8_ask 22 = .ok (.aaload, 1) := by decide +kernel
theorem dX8_ask_23 : decode cX8_ask 23 = .ok (.astore_n 3, 1) := by decide +kernel
theorem dX8_ask_24 : decode cX8_ask 24 = .ok (.aload_n 3, 1) := by decide +kernel
theorem dX8_ask_25 : decode cX8_ask 25 = .ok (.getfield 276, 3) := by decide +kernel
theorem dX8_ask_28 : decode cX8_ask 28 = .ok (.ifCond .ne 6, 3) := by decide +kernel
theorem dX8_ask_31 : decode cX8_ask 31 = .ok (.ldc 213, 2) := by decide +kernel
theorem dX8_ask_33 : decode cX8_ask 33 = .ok (.ireturn, 1) := by decide +kernel
theorem dX8_ask_34 : decode cX8_ask 34 = .ok (.aload_n 3, 1) := by decide +kernel
theorem dX8_ask_35 : decode cX8_ask 35 = .ok (.getfield 276, 3) := by decide +kernel
theorem dX8_ask_38 : decode cX8_ask 38 = .ok (.iconst 1, 1) := by decide +kernel
theorem dX8_ask_39 : decode cX8_ask 39 = .ok (.if_icmp .ne 14, 3) := by decide +kernel
theorem dX8_ask_42 : decode cX8_ask 42 = .ok (.aload_n 3, 1) := by decide +kernel
theorem dX8_ask_43 : decode cX8_ask 43 = .ok (.getfield 279, 3) := by decide +kernel
theorem dX8_ask_46 : decode cX8_ask 46 = .ok (.iload_n 2, 1) := by decide +kernel
theorem dX8_ask_47 : decode cX8_ask 47 = .ok (.invokestatic 135, 3) := by decide +kernel
theorem dX8_ask_50 : decode cX8_ask 50 = .ok (.ifCond .ne 6, 3) := by decide +kernel
theorem dX8_ask_53 : decode cX8_ask 53 = .ok (.ldc 139, 2) := by decide +kernel
theorem dX8_ask_55 : decode cX8_ask 55 = .ok (.ireturn, 1) := by decide +kernel
theorem dX8_ask_56 : decode cX8_ask 56 = .ok (.aload_n 3, 1) := by decide +kernel
theorem dX8_ask_57 : decode cX8_ask 57 = .ok (.getfield 279, 3) := by decide +kernel
theorem dX8_ask_60 : decode cX8_ask 60 = .ok (.aload_n 3, 1) := by decide +kernel
theorem dX8_ask_61 : decode cX8_ask 61 = .ok (.getfield 282, 3) := by decide +kernel
theorem dX8_ask_64 : decode cX8_ask 64 = .ok (.invokestatic 115, 3) := by decide +kernel
theorem dX8_ask_67 : decode cX8_ask 67 = .ok (.ireturn, 1) := by decide +kernel
theorem dX8_item_0 : decode cX8_item 0 = .ok (.iload_n 1, 1) := by decide +kernel
theorem dX8_item_1 : decode cX8_item 1 = .ok (.invokestatic 273, 3) := by decide +kernel
theorem dX8_item_4 : decode cX8_item 4 = .ok (.ifCond .ne 6, 3) := by decide +kernel
theorem dX8_item_7 : decode cX8_item 7 = .ok (.ldc 85, 2) := by decide +kernel
theorem dX8_item_9 : decode cX8_item 9 = .ok (.ireturn, 1) := by decide +kernel
theorem dX8_item_10 : decode cX8_item 10 = .ok (.aload_n 0, 1) := by decide +kernel
theorem dX8_item_11 : decode cX8_item 11 = .ok (.getfield 63, 3) := by decide +kernel
theorem dX8_item_14 : decode cX8_item 14 = .ok (.iload_n 1, 1) := by decide +kernel
theorem dX8_item_15 : decode cX8_item 15 = .ok (.aaload, 1) := by decide +kernel
theorem dX8_item_16 : decode cX8_item 16 = .ok (.astore_n 3, 1) := by decide +kernel
theorem dX8_item_17 : decode cX8_item 17 = .ok (.aload_n 3, 1) := by decide +kernel
theorem dX8_item_18 : decode cX8_item 18 = .ok (.getfield 276, 3) := by decide +kernel
theorem dX8_item_21 : decode cX8_item 21 = .ok (.ifCond .ne 6, 3) := by decide +kernel
theorem dX8_item_24 : decode cX8_item 24 = .ok (.ldc 213, 2) := by decide +kernel
theorem dX8_item_26 : decode cX8_item 26 = .ok (.ireturn, 1) := by decide +kernel
theorem dX8_item_27 : decode cX8_item 27 = .ok (.aload_n 3, 1) := by decide +kernel
theorem dX8_item_28 : decode cX8_item 28 = .ok (.getfield 276, 3) := by decide +kernel
theorem dX8_item_31 : decode cX8_item 31 = .ok (.iconst 2, 1) := by decide +kernel
theorem dX8_item_32 : decode cX8_item 32 = .ok (.if_icmp .eq 6, 3) := by decide +kernel
theorem dX8_item_35 : decode cX8_item 35 = .ok (.ldc 139, 2) := by decide +kernel
theorem dX8_item_37 : decode cX8_item 37 = .ok (.ireturn, 1) := by decide +kernel
theorem dX8_item_38 : decode cX8_item 38 = .ok (.aload_n 3, 1) := by decide +kernel
theorem dX8_item_39 : decode cX8_item 39 = .ok (.getfield 285, 3) := by decide +kernel
theorem dX8_item_42 : decode cX8_item 42 = .ok (.iload_n 2, 1) := by decide +kernel
theorem dX8_item_43 : decode cX8_item 43 = .ok (.invokevirtual 245, 3) := by decide +kernel
theorem dX8_item_46 : decode cX8_item 46 = .ok (.ifCond .ne 6, 3) := by decide +kernel
theorem dX8_item_49 : decode cX8_item 49 = .ok (.ldc 248, 2) := by decide +kernel
theorem dX8_item_51 : decode cX8_item 51 = .ok (.ireturn, 1) := by decide +kernel
theorem dX8_item_52 : decode cX8_item 52 = .ok (.aload_n 3, 1) := by decide +kernel
theorem dX8_item_53 : decode cX8_item 53 = .ok (.getfield 285, 3) := by decide +kernel
theorem dX8_item_56 : decode cX8_item 56 = .ok (.iload_n 2, 1) := by decide +kernel
theorem dX8_item_57 : decode cX8_item 57 = .ok (.invokevirtual 258, 3) := by decide +kernel
theorem dX8_item_60 : decode cX8_item 60 = .ok (.ifCond .eq 15, 3) := by decide +kernel
theorem dX8_item_63 : decode cX8_item 63 = .ok (.aload_n 3, 1) := by decide +kernel
theorem dX8_item_64 : decode cX8_item 64 = .ok (.getfield 285, 3) := by decide +kernel
theorem dX8_item_67 : decode cX8_item 67 = .ok (.getfield 254, 3) := by decide +kernel
theorem dX8_item_70 : decode cX8_item 70 = .ok (.iload_n 2, 1) := by decide +kernel
theorem dX8_item_71 : decode cX8_item 71 = .ok (.iaload, 1) := by decide +kernel
theorem dX8_item_72 : decode cX8_item 72 = .ok (.goto 5, 3) := by decide +kernel
theorem dX8_item_75 : decode cX8_item 75 = .ok (.ldc 139, 2) := by decide +kernel
theorem dX8_item_77 : decode cX8_item 77 = .ok (.ireturn, 1) := by decide +kernel
theorem dX8_rest_0 : decode cX8_rest 0 = .ok (.iload_n 1, 1) := by decide +kernel
theorem dX8_rest_1 : decode cX8_rest 1 = .ok (.invokestatic 273, 3) := by decide +kernel
theorem dX8_rest_4 : decode cX8_rest 4 = .ok (.ifCond .ne 6, 3) := by decide +kernel
theorem dX8_rest_7 : decode cX8_rest 7 = .ok (.ldc 85, 2) := by decide +kernel
theorem dX8_rest_9 : decode cX8_rest 9 = .ok (.ireturn, 1) := by decide +kernel
theorem dX8_rest_10 : decode cX8_rest 10 = .ok (.aload_n 0, 1) := by decide +kernel
theorem dX8_rest_11 : decode cX8_rest 11 = .ok (.getfield 63, 3) := by decide +kernel
theorem dX8_rest_14 : decode cX8_rest 14 = .ok (.iload_n 1, 1) := by decide +kernel
theorem dX8_rest_15 : decode cX8_rest 15 = .ok (.aaload, 1) := by decide +kernel
theorem dX8_rest_16 : decode cX8_rest 16 = .ok (.astore_n 3, 1) := by decide +kernel
theorem dX8_rest_17 : decode cX8_rest 17 = .ok (.aload_n 3, 1) := by decide +kernel
theorem dX8_rest_18 : decode cX8_rest 18 = .ok (.getfield 276, 3) := by decide +kernel
theorem dX8_rest_21 : decode cX8_rest 21 = .ok (.ifCond .ne 6, 3) := by decide +kernel
theorem dX8_rest_24 : decode cX8_rest 24 = .ok (.ldc 213, 2) := by decide +kernel
theorem dX8_rest_26 : decode cX8_rest 26 = .ok (.ireturn, 1) := by decide +kernel
theorem dX8_rest_27 : decode cX8_rest 27 = .ok (.aload_n 3, 1) := by decide +kernel
theorem dX8_rest_28 : decode cX8_rest 28 = .ok (.getfield 276, 3) := by decide +kernel
theorem dX8_rest_31 : decode cX8_rest 31 = .ok (.iconst 3, 1) := by decide +kernel
theorem dX8_rest_32 : decode cX8_rest 32 = .ok (.if_icmp .eq 6, 3) := by decide +kernel
theorem dX8_rest_35 : decode cX8_rest 35 = .ok (.ldc 139, 2) := by decide +kernel
theorem dX8_rest_37 : decode cX8_rest 37 = .ok (.ireturn, 1) := by decide +kernel
theorem dX8_rest_38 : decode cX8_rest 38 = .ok (.iload_n 2, 1) := by decide +kernel
theorem dX8_rest_39 : decode cX8_rest 39 = .ok (.ifCond .ne 9, 3) := by decide +kernel
theorem dX8_rest_42 : decode cX8_rest 42 = .ok (.ldc_w 296, 3) := by decide +kernel
theorem dX8_rest_45 : decode cX8_rest 45 = .ok (.goto 9, 3) := by decide +kernel
theorem dX8_rest_48 : decode cX8_rest 48 = .ok (.aload_n 3, 1) := by decide +kernel
theorem dX8_rest_49 : decode cX8_rest 49 = .ok (.getfield 293, 3) := by decide +kernel
theorem dX8_rest_52 : decode cX8_rest 52 = .ok (.iload_n 2, 1) := by decide +kernel
theorem dX8_rest_53 : decode cX8_rest 53 = .ok (.irem, 1) := by decide +kernel
theorem dX8_rest_54 : decode cX8_rest 54 = .ok (.ireturn, 1) := by decide +kernel
theorem dX8_tell_0 : decode cX8_tell 0 = .ok (.aload_n 0, 1) := by decide +kernel
theorem dX8_tell_1 : decode cX8_tell 1 = .ok (.getfield 71, 3) := by decide +kernel
theorem dX8_tell_4 : decode cX8_tell 4 = .ok (.bipush 60, 2) := by decide +kernel
theorem dX8_tell_6 : decode cX8_tell 6 = .ok (.if_icmp .lt 6, 3) := by decide +kernel
theorem dX8_tell_9 : decode cX8_tell 9 = .ok (.ldc 89, 2) := by decide +kernel
theorem dX8_tell_11 : decode cX8_tell 11 = .ok (.ireturn, 1) := by decide +kernel
theorem dX8_tell_12 : decode cX8_tell 12 = .ok (.aload_n 0, 1) := by decide +kernel
theorem dX8_tell_13 : decode cX8_tell 13 = .ok (.getfield 67, 3) := by decide +kernel
theorem dX8_tell_16 : decode cX8_tell 16 = .ok (.aload_n 0, 1) := by decide +kernel
theorem dX8_tell_17 : decode cX8_tell 17 = .ok (.getfield 71, 3) := by decide +kernel
theorem dX8_tell_20 : decode cX8_tell 20 = .ok (.iload_n 1, 1) := by decide +kernel
theorem dX8_tell_21 : decode cX8_tell 21 = .ok (.iastore, 1) := by decide +kernel
theorem dX8_tell_22 : decode cX8_tell 22 = .ok (.aload_n 0, 1) := by decide +kernel
theorem dX8_tell_23 : decode cX8_tell 23 = .ok (.dup, 1) := by decide +kernel
theorem dX8_tell_24 : decode cX8_tell 24 = .ok (.getfield 71, 3) := by decide +kernel
theorem dX8_tell_27 : decode cX8_tell 27 = .ok (.iconst 1, 1) := by decide +kernel
theorem dX8_tell_28 : decode cX8_tell 28 = .ok (.iadd, 1) := by decide +kernel
theorem dX8_tell_29 : decode cX8_tell 29 = .ok (.putfield 71, 3) := by decide +kernel
theorem dX8_tell_32 : decode cX8_tell 32 = .ok (.aload_n 0, 1) := by decide +kernel
theorem dX8_tell_33 : decode cX8_tell 33 = .ok (.getfield 71, 3) := by decide +kernel
theorem dX8_tell_36 : decode cX8_tell 36 = .ok (.ireturn, 1) := by decide +kernel
theorem dX8_check_0 : decode cX8_check 0 = .ok (.aload_n 0, 1) := by decide +kernel
theorem dX8_check_1 : decode cX8_check 1 = .ok (.getfield 71, 3) := by decide +kernel
theorem dX8_check_4 : decode cX8_check 4 = .ok (.istore_n 2, 1) := by decide +kernel
theorem dX8_check_5 : decode cX8_check 5 = .ok (.aload_n 0, 1) := by decide +kernel
theorem dX8_check_6 : decode cX8_check 6 = .ok (.iconst 0, 1) := by decide +kernel
theorem dX8_check_7 : decode cX8_check 7 = .ok (.putfield 71, 3) := by decide +kernel
theorem dX8_check_10 : decode cX8_check 10 = .ok (.iload_n 1, 1) := by decide +kernel
theorem dX8_check_11 : decode cX8_check 11 = .ok (.iconst 1, 1) := by decide +kernel
theorem dX8_check_12 : decode cX8_check 12 = .ok (.bipush 30, 2) := by decide +kernel
theorem dX8_check_14 : decode cX8_check 14 = .ok (.invokestatic 81, 3) := by decide +kernel
theorem dX8_check_17 : decode cX8_check 17 = .ok (.ifCond .ne 6, 3) := by decide +kernel
theorem dX8_check_20 : decode cX8_check 20 = .ok (.ldc 85, 2) := by decide +kernel
theorem dX8_check_22 : decode cX8_check 22 = .ok (.ireturn, 1) := by decide +kernel
theorem dX8_check_23 : decode cX8_check 23 = .ok (.aload_n 0, 1) := by decide +kernel
theorem dX8_check_24 : decode cX8_check 24 = .ok (.getfield 22, 3) := by decide +kernel
theorem dX8_check_27 : decode cX8_check 27 = .ok (.ifCond .ne 7, 3) := by decide +kernel
theorem dX8_check_30 : decode cX8_check 30 = .ok (.ldc_w 296, 3) := by decide +kernel
theorem dX8_check_33 : decode cX8_check 33 = .ok (.ireturn, 1) := by decide +kernel
theorem dX8_check_34 : decode cX8_check 34 = .ok (.aload_n 0, 1) := by decide +kernel
theorem dX8_check_35 : decode cX8_check 35 = .ok (.getfield 16, 3) := by decide +kernel
theorem dX8_check_38 : decode cX8_check 38 = .ok (.aload_n 0, 1) := by decide +kernel
theorem dX8_check_39 : decode cX8_check 39 = .ok (.getfield 19, 3) := by decide +kernel
theorem dX8_check_42 : decode cX8_check 42 = .ok (.invokevirtual 297, 3) := by decide +kernel
theorem dX8_check_45 : decode cX8_check 45 = .ok (.aload_n 0, 1) := by decide +kernel
theorem dX8_check_46 : decode cX8_check 46 = .ok (.getfield 51, 3) := by decide +kernel
theorem dX8_check_49 : decode cX8_check 49 = .ok (.aload_n 0, 1) := by decide +kernel
theorem dX8_check_50 : decode cX8_check 50 = .ok (.iconst 0, 1) := by decide +kernel
theorem dX8_check_51 : decode cX8_check 51 = .ok (.aload_n 0, 1) := by decide +kernel
theorem dX8_check_52 : decode cX8_check 52 = .ok (.getfield 19, 3) := by decide +kernel
theorem dX8_check_55 : decode cX8_check 55 = .ok (.getfield 121, 3) := by decide +kernel
theorem dX8_check_58 : decode cX8_check 58 = .ok (.invokevirtual 123, 3) := by decide +kernel
theorem dX8_check_61 : decode cX8_check 61 = .ok (.invokevirtual 127, 3) := by decide +kernel
theorem dX8_check_64 : decode cX8_check 64 = .ok (.iload_n 1, 1) := by decide +kernel
theorem dX8_check_65 : decode cX8_check 65 = .ok (.sipush 9999, 3) := by decide +kernel
theorem dX8_check_68 : decode cX8_check 68 = .ok (.aload_n 0, 1) := by decide +kernel
theorem dX8_check_69 : decode cX8_check 69 = .ok (.getfield 19, 3) := by decide +kernel
theorem dX8_check_72 : decode cX8_check 72 = .ok (.getfield 170, 3) := by decide +kernel
theorem dX8_check_75 : decode cX8_check 75 = .ok (.isub, 1) := by decide +kernel
theorem dX8_check_76 : decode cX8_check 76 = .ok (.invokestatic 155, 3) := by decide +kernel
theorem dX8_check_79 : decode cX8_check 79 = .ok (.istore_n 3, 1) := by decide +kernel
theorem dX8_check_80 : decode cX8_check 80 = .ok (.iconst 0, 1) := by decide +kernel
theorem dX8_check_81 : decode cX8_check 81 = .ok (.istore 4, 2) := by decide +kernel
theorem dX8_check_83 : decode cX8_check 83 = .ok (.iload 4, 2) := by decide +kernel
theorem dX8_check_85 : decode cX8_check 85 = .ok (.iload_n 3, 1) := by decide +kernel
theorem dX8_check_86 : decode cX8_check 86 = .ok (.if_icmp .ge 76, 3) := by decide +kernel
theorem dX8_check_89 : decode cX8_check 89 = .ok (.aload_n 0, 1) := by decide +kernel
theorem dX8_check_90 : decode cX8_check 90 = .ok (.getfield 16, 3) := by decide +kernel
theorem dX8_check_93 : decode cX8_check 93 = .ok (.aload_n 0, 1) := by decide +kernel
end
section
theorem dX8_check_94 : decode cX8_check 94 = .ok (.getfield 51, 3) := by decide +kernel
theorem dX8_check_97 : decode cX8_check 97 = .ok (.invokevirtual 300, 3) := by decide +kernel
theorem dX8_check_100 : decode cX8_check 100 = .ok (.aload_n 0, 1) := by decide +kernel
theorem dX8_check_101 : decode cX8_check 101 = .ok (.iconst 2, 1) := by decide +kernel
theorem dX8_check_102 : decode cX8_check 102 = .ok (.iload 4, 2) := by decide +kernel
theorem dX8_check_104 : decode cX8_check 104 = .ok (.imul, 1) := by decide +kernel
theorem dX8_check_105 : decode cX8_check 105 = .ok (.iload_n 2, 1) := by decide +kernel
theorem dX8_check_106 : decode cX8_check 106 = .ok (.aload_n 0, 1) := by decide +kernel
theorem dX8_check_107 : decode cX8_check 107 = .ok (.getfield 16, 3) := by decide +kernel
theorem dX8_check_110 : decode cX8_check 110 = .ok (.invokevirtual 177, 3) := by decide +kernel
theorem dX8_check_113 : decode cX8_check 113 = .ok (.invokevirtual 304, 3) := by decide +kernel
theorem dX8_check_116 : decode cX8_check 116 = .ok (.ifCond .ne 10, 3) := by decide +kernel
theorem dX8_check_119 : decode cX8_check 119 = .ok (.iconst 1, 1) := by decide +kernel
theorem dX8_check_120 : decode cX8_check 120 = .ok (.iconst 2, 1) := by decide +kernel
theorem dX8_check_121 : decode cX8_check 121 = .ok (.iload 4, 2) := by decide +kernel
theorem dX8_check_123 : decode cX8_check 123 = .ok (.imul, 1) := by decide +kernel
theorem dX8_check_124 : decode cX8_check 124 = .ok (.iadd, 1) := by decide +kernel
theorem dX8_check_125 : decode cX8_check 125 = .ok (.ireturn, 1) := by decide +kernel
theorem dX8_check_126 : decode cX8_check 126 = .ok (.aload_n 0, 1) := by decide +kernel
theorem dX8_check_127 : decode cX8_check 127 = .ok (.iconst 2, 1) := by decide +kernel
theorem dX8_check_128 : decode cX8_check 128 = .ok (.iload 4, 2) := by decide +kernel
theorem dX8_check_130 : decode cX8_check 130 = .ok (.imul, 1) := by decide +kernel
theorem dX8_check_131 : decode cX8_check 131 = .ok (.iconst 1, 1) := by decide +kernel
theorem dX8_check_132 : decode cX8_check 132 = .ok (.iadd, 1) := by decide +kernel
theorem dX8_check_133 : decode cX8_check 133 = .ok (.iload_n 2, 1) := by decide +kernel
theorem dX8_check_134 : decode cX8_check 134 = .ok (.aload_n 0, 1) := by decide +kernel
theorem dX8_check_135 : decode cX8_check 135 = .ok (.getfield 16, 3) := by decide +kernel
theorem dX8_check_138 : decode cX8_check 138 = .ok (.invokevirtual 167, 3) := by decide +kernel
theorem dX8_check_141 : decode cX8_check 141 = .ok (.invokevirtual 304, 3) := by decide +kernel
theorem dX8_check_144 : decode cX8_check 144 = .ok (.ifCond .ne 12, 3) := by decide +kernel
theorem dX8_check_147 : decode cX8_check 147 = .ok (.iconst 1, 1) := by decide +kernel
theorem dX8_check_148 : decode cX8_check 148 = .ok (.iconst 2, 1) := by decide +kernel
theorem dX8_check_149 : decode cX8_check 149 = .ok (.iload 4, 2) := by decide +kernel
theorem dX8_check_151 : decode cX8_check 151 = .ok (.imul, 1) := by decide +kernel
theorem dX8_check_152 : decode cX8_check 152 = .ok (.iadd, 1) := by decide +kernel
theorem dX8_check_153 : decode cX8_check 153 = .ok (.iconst 1, 1) := by decide +kernel
theorem dX8_check_154 : decode cX8_check 154 = .ok (.iadd, 1) := by decide +kernel
theorem dX8_check_155 : decode cX8_check 155 = .ok (.ireturn, 1) := by decide +kernel
theorem dX8_check_156 : decode cX8_check 156 = .ok (.iinc 4 1, 3) := by decide +kernel
theorem dX8_check_159 : decode cX8_check 159 = .ok (.goto (-76), 3) := by decide +kernel
theorem dX8_check_162 : decode cX8_check 162 = .ok (.iload_n 2, 1) := by decide +kernel
theorem dX8_check_163 : decode cX8_check 163 = .ok (.iconst 2, 1) := by decide +kernel
theorem dX8_check_164 : decode cX8_check 164 = .ok (.iload_n 3, 1) := by decide +kernel
theorem dX8_check_165 : decode cX8_check 165 = .ok (.imul, 1) := by decide +kernel
theorem dX8_check_166 : decode cX8_check 166 = .ok (.if_icmp .le 11, 3) := by decide +kernel
theorem dX8_check_169 : decode cX8_check 169 = .ok (.iconst 1, 1) := by decide +kernel
theorem dX8_check_170 : decode cX8_check 170 = .ok (.iconst 2, 1) := by decide +kernel
theorem dX8_check_171 : decode cX8_check 171 = .ok (.iload_n 3, 1) := by decide +kernel
theorem dX8_check_172 : decode cX8_check 172 = .ok (.imul, 1) := by decide +kernel
theorem dX8_check_173 : decode cX8_check 173 = .ok (.iadd, 1) := by decide +kernel
theorem dX8_check_174 : decode cX8_check 174 = .ok (.goto 4, 3) := by decide +kernel
theorem dX8_check_177 : decode cX8_check 177 = .ok (.iconst 0, 1) := by decide +kernel
theorem dX8_check_178 : decode cX8_check 178 = .ok (.ireturn, 1) := by decide +kernel
theorem dX8_keep_0 : decode cX8_keep 0 = .ok (.aload_n 0, 1) := by decide +kernel
theorem dX8_keep_1 : decode cX8_keep 1 = .ok (.getfield 19, 3) := by decide +kernel
theorem dX8_keep_4 : decode cX8_keep 4 = .ok (.aload_n 0, 1) := by decide +kernel
theorem dX8_keep_5 : decode cX8_keep 5 = .ok (.getfield 10, 3) := by decide +kernel
theorem dX8_keep_8 : decode cX8_keep 8 = .ok (.invokevirtual 297, 3) := by decide +kernel
theorem dX8_keep_11 : decode cX8_keep 11 = .ok (.aload_n 0, 1) := by decide +kernel
theorem dX8_keep_12 : decode cX8_keep 12 = .ok (.iconst 1, 1) := by decide +kernel
theorem dX8_keep_13 : decode cX8_keep 13 = .ok (.putfield 22, 3) := by decide +kernel
theorem dX8_keep_16 : decode cX8_keep 16 = .ok (.aload_n 0, 1) := by decide +kernel
theorem dX8_keep_17 : decode cX8_keep 17 = .ok (.getfield 19, 3) := by decide +kernel
theorem dX8_keep_20 : decode cX8_keep 20 = .ok (.getfield 86, 3) := by decide +kernel
theorem dX8_keep_23 : decode cX8_keep 23 = .ok (.ireturn, 1) := by decide +kernel
theorem dX8_back_0 : decode cX8_back 0 = .ok (.aload_n 0, 1) := by decide +kernel
theorem dX8_back_1 : decode cX8_back 1 = .ok (.getfield 22, 3) := by decide +kernel
theorem dX8_back_4 : decode cX8_back 4 = .ok (.ifCond .ne 7, 3) := by decide +kernel
theorem dX8_back_7 : decode cX8_back 7 = .ok (.ldc_w 296, 3) := by decide +kernel
theorem dX8_back_10 : decode cX8_back 10 = .ok (.ireturn, 1) := by decide +kernel
theorem dX8_back_11 : decode cX8_back 11 = .ok (.aload_n 0, 1) := by decide +kernel
theorem dX8_back_12 : decode cX8_back 12 = .ok (.getfield 10, 3) := by decide +kernel
theorem dX8_back_15 : decode cX8_back 15 = .ok (.aload_n 0, 1) := by decide +kernel
theorem dX8_back_16 : decode cX8_back 16 = .ok (.getfield 19, 3) := by decide +kernel
theorem dX8_back_19 : decode cX8_back 19 = .ok (.invokevirtual 297, 3) := by decide +kernel
theorem dX8_back_22 : decode cX8_back 22 = .ok (.aload_n 0, 1) := by decide +kernel
theorem dX8_back_23 : decode cX8_back 23 = .ok (.getfield 10, 3) := by decide +kernel
theorem dX8_back_26 : decode cX8_back 26 = .ok (.getfield 86, 3) := by decide +kernel
theorem dX8_back_29 : decode cX8_back 29 = .ok (.ireturn, 1) := by decide +kernel
theorem dX8_count_0 : decode cX8_count 0 = .ok (.iload_n 1, 1) := by decide +kernel
theorem dX8_count_1 : decode cX8_count 1 = .ok (.tableswitch 128 0 8 #[51, 59, 67, 75, 91, 99, 107, 112, 120], 51) := by decide +kernel
theorem dX8_count_52 : decode cX8_count 52 = .ok (.aload_n 0, 1) := by decide +kernel
theorem dX8_count_53 : decode cX8_count 53 = .ok (.getfield 10, 3) := by decide +kernel
theorem dX8_count_56 : decode cX8_count 56 = .ok (.getfield 86, 3) := by decide +kernel
theorem dX8_count_59 : decode cX8_count 59 = .ok (.ireturn, 1) := by decide +kernel
theorem dX8_count_60 : decode cX8_count 60 = .ok (.aload_n 0, 1) := by decide +kernel
theorem dX8_count_61 : decode cX8_count 61 = .ok (.getfield 10, 3) := by decide +kernel
theorem dX8_count_64 : decode cX8_count 64 = .ok (.getfield 170, 3) := by decide +kernel
theorem dX8_count_67 : decode cX8_count 67 = .ok (.ireturn, 1) := by decide +kernel
theorem dX8_count_68 : decode cX8_count 68 = .ok (.aload_n 0, 1) := by decide +kernel
theorem dX8_count_69 : decode cX8_count 69 = .ok (.getfield 10, 3) := by decide +kernel
theorem dX8_count_72 : decode cX8_count 72 = .ok (.getfield 146, 3) := by decide +kernel
theorem dX8_count_75 : decode cX8_count 75 = .ok (.ireturn, 1) := by decide +kernel
theorem dX8_count_76 : decode cX8_count 76 = .ok (.aload_n 0, 1) := by decide +kernel
theorem dX8_count_77 : decode cX8_count 77 = .ok (.getfield 10, 3) := by decide +kernel
theorem dX8_count_80 : decode cX8_count 80 = .ok (.getfield 149, 3) := by decide +kernel
theorem dX8_count_83 : decode cX8_count 83 = .ok (.ifCond .eq 7, 3) := by decide +kernel
theorem dX8_count_86 : decode cX8_count 86 = .ok (.iconst 1, 1) := by decide +kernel
theorem dX8_count_87 : decode cX8_count 87 = .ok (.goto 4, 3) := by decide +kernel
theorem dX8_count_90 : decode cX8_count 90 = .ok (.iconst 0, 1) := by decide +kernel
theorem dX8_count_91 : decode cX8_count 91 = .ok (.ireturn, 1) := by decide +kernel
theorem dX8_count_92 : decode cX8_count 92 = .ok (.aload_n 0, 1) := by decide +kernel
theorem dX8_count_93 : decode cX8_count 93 = .ok (.getfield 10, 3) := by decide +kernel
theorem dX8_count_96 : decode cX8_count 96 = .ok (.getfield 152, 3) := by decide +kernel
theorem dX8_count_99 : decode cX8_count 99 = .ok (.ireturn, 1) := by decide +kernel
theorem dX8_count_100 : decode cX8_count 100 = .ok (.aload_n 0, 1) := by decide +kernel
theorem dX8_count_101 : decode cX8_count 101 = .ok (.getfield 10, 3) := by decide +kernel
theorem dX8_count_104 : decode cX8_count 104 = .ok (.getfield 121, 3) := by decide +kernel
theorem dX8_count_107 : decode cX8_count 107 = .ok (.ireturn, 1) := by decide +kernel
theorem dX8_count_108 : decode cX8_count 108 = .ok (.aload_n 0, 1) := by decide +kernel
theorem dX8_count_109 : decode cX8_count 109 = .ok (.getfield 71, 3) := by decide +kernel
theorem dX8_count_112 : decode cX8_count 112 = .ok (.ireturn, 1) := by decide +kernel
theorem dX8_count_113 : decode cX8_count 113 = .ok (.aload_n 0, 1) := by decide +kernel
theorem dX8_count_114 : decode cX8_count 114 = .ok (.getfield 29, 3) := by decide +kernel
theorem dX8_count_117 : decode cX8_count 117 = .ok (.getfield 221, 3) := by decide +kernel
theorem dX8_count_120 : decode cX8_count 120 = .ok (.ireturn, 1) := by decide +kernel
theorem dX8_count_121 : decode cX8_count 121 = .ok (.aload_n 0, 1) := by decide +kernel
theorem dX8_count_122 : decode cX8_count 122 = .ok (.getfield 10, 3) := by decide +kernel
theorem dX8_count_125 : decode cX8_count 125 = .ok (.getfield 164, 3) := by decide +kernel
theorem dX8_count_128 : decode cX8_count 128 = .ok (.ireturn, 1) := by decide +kernel
theorem dX8_count_129 : decode cX8_count 129 = .ok (.ldc 85, 2) := by decide +kernel
theorem dX8_count_131 : decode cX8_count 131 = .ok (.ireturn, 1) := by decide +kernel
theorem dX8_within_0 : decode cX8_within 0 = .ok (.iload_n 0, 1) := by decide +kernel
theorem dX8_within_1 : decode cX8_within 1 = .ok (.iload_n 1, 1) := by decide +kernel
theorem dX8_within_2 : decode cX8_within 2 = .ok (.if_icmp .lt 12, 3) := by decide +kernel
theorem dX8_within_5 : decode cX8_within 5 = .ok (.iload_n 0, 1) := by decide +kernel
theorem dX8_within_6 : decode cX8_within 6 = .ok (.iload_n 2, 1) := by decide +kernel
theorem dX8_within_7 : decode cX8_within 7 = .ok (.if_icmp .gt 7, 3) := by decide +kernel
theorem dX8_within_10 : decode cX8_within 10 = .ok (.iconst 1, 1) := by decide +kernel
theorem dX8_within_11 : decode cX8_within 11 = .ok (.goto 4, 3) := by decide +kernel
theorem dX8_within_14 : decode cX8_within 14 = .ok (.iconst 0, 1) := by decide +kernel
theorem dX8_within_15 : decode cX8_within 15 = .ok (.ireturn, 1) := by decide +kernel
theorem dX8_held_0 : decode cX8_held 0 = .ok (.iload_n 0, 1) := by decide +kernel
theorem dX8_held_1 : decode cX8_held 1 = .ok (.iload_n 1, 1) := by decide +kernel
theorem dX8_held_2 : decode cX8_held 2 = .ok (.if_icmp .ge 7, 3) := by decide +kernel
theorem dX8_held_5 : decode cX8_held 5 = .ok (.iload_n 1, 1) := by decide +kernel
theorem dX8_held_6 : decode cX8_held 6 = .ok (.goto 13, 3) := by decide +kernel
theorem dX8_held_9 : decode cX8_held 9 = .ok (.iload_n 0, 1) := by decide +kernel
theorem dX8_held_10 : decode cX8_held 10 = .ok (.iload_n 2, 1) := by decide +kernel
theorem dX8_held_11 : decode cX8_held 11 = .ok (.if_icmp .le 7, 3) := by decide +kernel
theorem dX8_held_14 : decode cX8_held 14 = .ok (.iload_n 2, 1) := by decide +kernel
theorem dX8_held_15 : decode cX8_held 15 = .ok (.goto 4, 3) := by decide +kernel
theorem dX8_held_18 : decode cX8_held 18 = .ok (.iload_n 0, 1) := by decide +kernel
theorem dX8_held_19 : decode cX8_held 19 = .ok (.ireturn, 1) := by decide +kernel
theorem dX8_isKind_0 : decode cX8_isKind 0 = .ok (.iload_n 0, 1) := by decide +kernel
theorem dX8_isKind_1 : decode cX8_isKind 1 = .ok (.iconst 0, 1) := by decide +kernel
theorem dX8_isKind_2 : decode cX8_isKind 2 = .ok (.iconst 5, 1) := by decide +kernel
theorem dX8_isKind_3 : decode cX8_isKind 3 = .ok (.invokestatic 81, 3) := by decide +kernel
theorem dX8_isKind_6 : decode cX8_isKind 6 = .ok (.ireturn, 1) := by decide +kernel
theorem dX8_isCorner_0 : decode cX8_isCorner 0 = .ok (.iload_n 0, 1) := by decide +kernel
theorem dX8_isCorner_1 : decode cX8_isCorner 1 = .ok (.iconst 0, 1) := by decide +kernel
theorem dX8_isCorner_2 : decode cX8_isCorner 2 = .ok (.bipush 7, 2) := by decide +kernel
theorem dX8_isCorner_4 : decode cX8_isCorner 4 = .ok (.invokestatic 81, 3) := by decide +kernel
theorem dX8_isCorner_7 : decode cX8_isCorner 7 = .ok (.ireturn, 1) := by decide +kernel
theorem dX8_isSheet_0 : decode cX8_isSheet 0 = .ok (.iload_n 0, 1) := by decide +kernel
theorem dX8_isSheet_1 : decode cX8_isSheet 1 = .ok (.iconst 0, 1) := by decide +kernel
theorem dX8_isSheet_2 : decode cX8_isSheet 2 = .ok (.iconst 3, 1) := by decide +kernel
theorem dX8_isSheet_3 : decode cX8_isSheet 3 = .ok (.invokestatic 81, 3) := by decide +kernel
theorem dX8_isSheet_6 : decode cX8_isSheet 6 = .ok (.ireturn, 1) := by decide +kernel
theorem dX8_isSlot_0 : decode cX8_isSlot 0 = .ok (.iload_n 0, 1) := by decide +kernel
theorem dX8_isSlot_1 : decode cX8_isSlot 1 = .ok (.iconst 0, 1) := by decide +kernel
theorem dX8_isSlot_2 : decode cX8_isSlot 2 = .ok (.iconst 4, 1) := by decide +kernel
theorem dX8_isSlot_3 : decode cX8_isSlot 3 = .ok (.invokestatic 81, 3) := by decide +kernel
theorem dX8_isSlot_6 : decode cX8_isSlot 6 = .ok (.ireturn, 1) := by decide +kernel
theorem dX8_isBeggar_0 : decode cX8_isBeggar 0 = .ok (.iload_n 1, 1) := by decide +kernel
theorem dX8_isBeggar_1 : decode cX8_isBeggar 1 = .ok (.iconst 0, 1) := by decide +kernel
theorem dX8_isBeggar_2 : decode cX8_isBeggar 2 = .ok (.aload_n 0, 1) := by decide +kernel
theorem dX8_isBeggar_3 : decode cX8_isBeggar 3 = .ok (.getfield 10, 3) := by decide +kernel
theorem dX8_isBeggar_6 : decode cX8_isBeggar 6 = .ok (.getfield 86, 3) := by decide +kernel
theorem dX8_isBeggar_9 : decode cX8_isBeggar 9 = .ok (.iconst 1, 1) := by decide +kernel
theorem dX8_isBeggar_10 : decode cX8_isBeggar 10 = .ok (.isub, 1) := by decide +kernel
theorem dX8_isBeggar_11 : decode cX8_isBeggar 11 = .ok (.invokestatic 81, 3) := by decide +kernel
theorem dX8_isBeggar_14 : decode cX8_isBeggar 14 = .ok (.ireturn, 1) := by decide +kernel
theorem dX8_stands_0 : decode cX8_stands 0 = .ok (.iload_n 1, 1) := by decide +kernel
theorem dX8_stands_1 : decode cX8_stands 1 = .ok (.iload_n 2, 1) := by decide +kernel
theorem dX8_stands_2 : decode cX8_stands 2 = .ok (.if_icmp .ge 17, 3) := by decide +kernel
theorem dX8_stands_5 : decode cX8_stands 5 = .ok (.aload_n 0, 1) := by decide +kernel
theorem dX8_stands_6 : decode cX8_stands 6 = .ok (.getfield 67, 3) := by decide +kernel
theorem dX8_stands_9 : decode cX8_stands 9 = .ok (.iload_n 1, 1) := by decide +kernel
theorem dX8_stands_10 : decode cX8_stands 10 = .ok (.iaload, 1) := by decide +kernel
theorem dX8_stands_11 : decode cX8_stands 11 = .ok (.iload_n 3, 1) := by decide +kernel
theorem dX8_stands_12 : decode cX8_stands 12 = .ok (.if_icmp .ne 7, 3) := by decide +kernel
theorem dX8_stands_15 : decode cX8_stands 15 = .ok (.iconst 1, 1) := by decide +kernel
theorem dX8_stands_16 : decode cX8_stands 16 = .ok (.goto 4, 3) := by decide +kernel
theorem dX8_stands_19 : decode cX8_stands 19 = .ok (.iconst 0, 1) := by decide +kernel
theorem dX8_stands_20 : decode cX8_stands 20 = .ok (.ireturn, 1) := by decide +kernel
theorem dX8_lastOf_0 : decode cX8_lastOf 0 = .ok (.iload_n 2, 1) := by decide +kernel
theorem dX8_lastOf_1 : decode cX8_lastOf 1 = .ok (.bipush 14, 2) := by decide +kernel
theorem dX8_lastOf_3 : decode cX8_lastOf 3 = .ok (.invokestatic 155, 3) := by decide +kernel
theorem dX8_lastOf_6 : decode cX8_lastOf 6 = .ok (.iconst 1, 1) := by decide +kernel
theorem dX8_lastOf_7 : decode cX8_lastOf 7 = .ok (.isub, 1) := by decide +kernel
theorem dX8_lastOf_8 : decode cX8_lastOf 8 = .ok (.istore_n 3, 1) := by decide +kernel
theorem dX8_lastOf_9 : decode cX8_lastOf 9 = .ok (.iload_n 3, 1) := by decide +kernel
theorem dX8_lastOf_10 : decode cX8_lastOf 10 = .ok (.ifCond .lt 33, 3) := by decide +kernel
theorem dX8_lastOf_13 : decode cX8_lastOf 13 = .ok (.aload_n 0, 1) := by decide +kernel
theorem dX8_lastOf_14 : decode cX8_lastOf 14 = .ok (.getfield 44, 3) := by decide +kernel
theorem dX8_lastOf_17 : decode cX8_lastOf 17 = .ok (.iload_n 3, 1) := by decide +kernel
theorem dX8_lastOf_18 : decode cX8_lastOf 18 = .ok (.aaload, 1) := by decide +kernel
theorem dX8_lastOf_19 : decode cX8_lastOf 19 = .ok (.ifnull 18, 3) := by decide +kernel
theorem dX8_lastOf_22 : decode cX8_lastOf 22 = .ok (.aload_n 0, 1) := by decide +kernel
theorem dX8_lastOf_23 : decode cX8_lastOf 23 = .ok (.getfield 44, 3) := by decide +kernel
theorem dX8_lastOf_26 : decode cX8_lastOf 26 = .ok (.iload_n 3, 1) := by decide +kernel
theorem dX8_lastOf_27 : decode cX8_lastOf 27 = .ok (.aaload, 1) := by decide +kernel
theorem dX8_lastOf_28 : decode cX8_lastOf 28 = .ok (.getfield 232, 3) := by decide +kernel
theorem dX8_lastOf_31 : decode cX8_lastOf 31 = .ok (.iload_n 1, 1) := by decide +kernel
theorem dX8_lastOf_32 : decode cX8_lastOf 32 = .ok (.if_icmp .ne 5, 3) := by decide +kernel
theorem dX8_lastOf_35 : decode cX8_lastOf 35 = .ok (.iload_n 3, 1) := by decide +kernel
theorem dX8_lastOf_36 : decode cX8_lastOf 36 = .ok (.ireturn, 1) := by decide +kernel
theorem dX8_lastOf_37 : decode cX8_lastOf 37 = .ok (.iinc 3 (-1), 3) := by decide +kernel
theorem dX8_lastOf_40 : decode cX8_lastOf 40 = .ok (.goto (-31), 3) := by decide +kernel
theorem dX8_lastOf_43 : decode cX8_lastOf 43 = .ok (.iconst (-1), 1) := by decide +kernel
theorem dX8_lastOf_44 : decode cX8_lastOf 44 = .ok (.ireturn, 1) := by decide +kernel
theorem dX8_counting_0 : decode cX8_counting 0 = .ok (.aload_n 0, 1) := by decide +kernel
theorem dX8_counting_1 : decode cX8_counting 1 = .ok (.iload_n 1, 1) := by decide +kernel
theorem dX8_counting_2 : decode cX8_counting 2 = .ok (.iload_n 2, 1) := by decide +kernel
theorem dX8_counting_3 : decode cX8_counting 3 = .ok (.invokevirtual 238, 3) := by decide +kernel
theorem dX8_counting_6 : decode cX8_counting 6 = .ok (.istore_n 3, 1) := by decide +kernel
theorem dX8_counting_7 : decode cX8_counting 7 = .ok (.iload_n 3, 1) := by decide +kernel
theorem dX8_counting_8 : decode cX8_counting 8 = .ok (.ifCond .ge 7, 3) := by decide +kernel
theorem dX8_counting_11 : decode cX8_counting 11 = .ok (.aconst_null, 1) := by decide +kernel
theorem dX8_counting_12 : decode cX8_counting 12 = .ok (.goto 9, 3) := by decide +kernel
theorem dX8_counting_15 : decode cX8_counting 15 = .ok (.aload_n 0, 1) := by decide +kernel
theorem dX8_counting_16 : decode cX8_counting 16 = .ok (.getfield 44, 3) := by decide +kernel
theorem dX8_counting_19 : decode cX8_counting 19 = .ok (.iload_n 3, 1) := by decide +kernel
theorem dX8_counting_20 : decode cX8_counting 20 = .ok (.aaload, 1) := by decide +kernel
theorem dX8_counting_21 : decode cX8_counting 21 = .ok (.areturn, 1) := by decide +kernel
theorem dX8_think_0 : decode cX8_think 0 = .ok (.aload_n 0, 1) := by decide +kernel
theorem dX8_think_1 : decode cX8_think 1 = .ok (.getfield 16, 3) := by decide +kernel
theorem dX8_think_4 : decode cX8_think 4 = .ok (.aload_n 0, 1) := by decide +kernel
theorem dX8_think_5 : decode cX8_think 5 = .ok (.getfield 10, 3) := by decide +kernel
theorem dX8_think_8 : decode cX8_think 8 = .ok (.invokevirtual 297, 3) := by decide +kernel
theorem dX8_think_11 : decode cX8_think 11 = .ok (.aload_n 0, 1) := by decide +kernel
theorem dX8_think_12 : decode cX8_think 12 = .ok (.getfield 51, 3) := by decide +kernel
theorem dX8_think_15 : decode cX8_think 15 = .ok (.aload_n 0, 1) := by decide +kernel
theorem dX8_think_16 : decode cX8_think 16 = .ok (.iconst 0, 1) := by decide +kernel
theorem dX8_think_17 : decode cX8_think 17 = .ok (.aload_n 0, 1) := by decide +kernel
theorem dX8_think_18 : decode cX8_think 18 = .ok (.getfield 10, 3) := by decide +kernel
theorem dX8_think_21 : decode cX8_think 21 = .ok (.getfield 121, 3) := by decide +kernel
theorem dX8_think_24 : decode cX8_think 24 = .ok (.invokevirtual 123, 3) := by decide +kernel
theorem dX8_think_27 : decode cX8_think 27 = .ok (.invokevirtual 127, 3) := by decide +kernel
theorem dX8_think_30 : decode cX8_think 30 = .ok (.return_, 1) := by decide +kernel
theorem dX8_differences_0 : decode cX8_differences 0 = .ok (.aload_n 0, 1) := by decide +kernel
theorem dX8_differences_1 : decode cX8_differences 1 = .ok (.invokevirtual 189, 3) := by decide +kernel
theorem dX8_differences_4 : decode cX8_differences 4 = .ok (.aload_n 0, 1) := by decide +kernel
theorem dX8_differences_5 : decode cX8_differences 5 = .ok (.getfield 16, 3) := by decide +kernel
theorem dX8_differences_8 : decode cX8_differences 8 = .ok (.getfield 100, 3) := by decide +kernel
theorem dX8_differences_11 : decode cX8_differences 11 = .ok (.iload_n 2, 1) := by decide +kernel
theorem dX8_differences_12 : decode cX8_differences 12 = .ok (.iload_n 3, 1) := by decide +kernel
theorem dX8_differences_13 : decode cX8_differences 13 = .ok (.iastore, 1) := by decide +kernel
theorem dX8_differences_14 : decode cX8_differences 14 = .ok (.iconst 0, 1) := by decide +kernel
theorem dX8_differences_15 : decode cX8_differences 15 = .ok (.istore 4, 2) := by decide +kernel
theorem dX8_differences_17 : decode cX8_differences 17 = .ok (.iconst 0, 1) := by decide +kernel
theorem dX8_differences_18 : decode cX8_differences 18 = .ok (.istore 5, 2) := by decide +kernel
theorem dX8_differences_20 : decode cX8_differences 20 = .ok (.iload 5, 2) := by decide +kernel
theorem dX8_differences_22 : decode cX8_differences 22 = .ok (.aload_n 1, 1) := by decide +kernel
theorem dX8_differences_23 : decode cX8_differences 23 = .ok (.getfield 257, 3) := by decide +kernel
theorem dX8_differences_26 : decode cX8_differences 26 = .ok (.if_icmp .ge 59, 3) := by decide +kernel
theorem dX8_differences_29 : decode cX8_differences 29 = .ok (.iload 5, 2) := by decide +kernel
theorem dX8_differences_31 : decode cX8_differences 31 = .ok (.ifCond .le 14, 3) := by decide +kernel
theorem dX8_differences_34 : decode cX8_differences 34 = .ok (.aload_n 0, 1) := by decide +kernel
theorem dX8_differences_35 : decode cX8_differences 35 = .ok (.getfield 16, 3) := by decide +kernel
theorem dX8_differences_38 : decode cX8_differences 38 = .ok (.aload_n 0, 1) := by decide +kernel
theorem dX8_differences_39 : decode cX8_differences 39 = .ok (.getfield 51, 3) := by decide +kernel
theorem dX8_differences_42 : decode cX8_differences 42 = .ok (.invokevirtual 300, 3) := by decide +kernel
theorem dX8_differences_45 : decode cX8_differences 45 = .ok (.aload_n 1, 1) := by decide +kernel
theorem dX8_differences_46 : decode cX8_differences 46 = .ok (.iload 5, 2) := by decide +kernel
theorem dX8_differences_48 : decode cX8_differences 48 = .ok (.invokevirtual 258, 3) := by decide +kernel
theorem dX8_differences_51 : decode cX8_differences 51 = .ok (.ifCond .eq 28, 3) := by decide +kernel
theorem dX8_differences_54 : decode cX8_differences 54 = .ok (.iload 4, 2) := by decide +kernel
theorem dX8_differences_56 : decode cX8_differences 56 = .ok (.aload_n 0, 1) := by decide +kernel
theorem dX8_differences_57 : decode cX8_differences 57 = .ok (.getfield 16, 3) := by decide +kernel
theorem dX8_differences_60 : decode cX8_differences 60 = .ok (.getfield 106, 3) := by decide +kernel
theorem dX8_differences_63 : decode cX8_differences 63 = .ok (.iload_n 2, 1) := by decide +kernel
theorem dX8_differences_64 : decode cX8_differences 64 = .ok (.iaload, 1) := by decide +kernel
theorem dX8_differences_65 : decode cX8_differences 65 = .ok (.aload_n 1, 1) := by decide +kernel
theorem dX8_differences_66 : decode cX8_differences 66 = .ok (.getfield 254, 3) := by decide +kernel
theorem dX8_differences_69 : decode cX8_differences 69 = .ok (.iload 5, 2) := by decide +kernel
theorem dX8_differences_71 : decode cX8_differences 71 = .ok (.iaload, 1) := by decide +kernel
theorem dX8_differences_72 : decode cX8_differences 72 = .ok (.isub, 1) := by decide +kernel
theorem dX8_differences_73 : decode cX8_differences 73 = .ok (.invokestatic 307, 3) := by decide +kernel
theorem dX8_differences_76 : decode cX8_differences 76 = .ok (.iadd, 1) := by decide +kernel
theorem dX8_differences_77 : decode cX8_differences 77 = .ok (.istore 4, 2) := by decide +kernel
theorem dX8_differences_79 : decode cX8_differences 79 = .ok (.iinc 5 1, 3) := by decide +kernel
theorem dX8_differences_82 : decode cX8_differences 82 = .ok (.goto (-62), 3) := by decide +kernel
theorem dX8_differences_85 : decode cX8_differences 85 = .ok (.iload 4, 2) := by decide +kernel
theorem dX8_differences_87 : decode cX8_differences 87 = .ok (.ireturn, 1) := by decide +kernel
theorem dX9_init_0 : decode cX9_init 0 = .ok (.aload_n 0, 1) := by decide +kernel
theorem dX9_init_1 : decode cX9_init 1 = .ok (.invokespecial 1, 3) := by decide +kernel
theorem dX9_init_4 : decode cX9_init 4 = .ok (.aload_n 0, 1) := by decide +kernel
theorem dX9_init_5 : decode cX9_init 5 = .ok (.sipush 1433, 3) := by decide +kernel
theorem dX9_init_8 : decode cX9_init 8 = .ok (.newarray .int, 2) := by decide +kernel
theorem dX9_init_10 : decode cX9_init 10 = .ok (.putfield 9, 3) := by decide +kernel
theorem dX9_init_13 : decode cX9_init 13 = .ok (.aload_n 0, 1) := by decide +kernel
theorem dX9_init_14 : decode cX9_init 14 = .ok (.sipush 1433, 3) := by decide +kernel
theorem dX9_init_17 : decode cX9_init 17 = .ok (.newarray .int, 2) := by decide +kernel
theorem dX9_init_19 : decode cX9_init 19 = .ok (.putfield 13, 3) := by decide +kernel
theorem dX9_init_22 : decode cX9_init 22 = .ok (.aload_n 0, 1) := by decide +kernel
theorem dX9_init_23 : decode cX9_init 23 = .ok (.sipush 1433, 3) := by decide +kernel
theorem dX9_init_26 : decode cX9_init 26 = .ok (.newarray .int, 2) := by decide +kernel
theorem dX9_init_28 : decode cX9_init 28 = .ok (.putfield 16, 3) := by decide +kernel
theorem dX9_init_31 : decode cX9_init 31 = .ok (.aload_n 0, 1) := by decide +kernel
theorem dX9_init_32 : decode cX9_init 32 = .ok (.bipush 61, 2) := by decide +kernel
theorem dX9_init_34 : decode cX9_init 34 = .ok (.newarray .int, 2) := by decide +kernel
theorem dX9_init_36 : decode cX9_init 36 = .ok (.putfield 19, 3) := by decide +kernel
theorem dX9_init_39 : decode cX9_init 39 = .ok (.aload_n 0, 1) := by decide +kernel
theorem dX9_init_40 : decode cX9_init 40 = .ok (.bipush 96, 2) := by decide +kernel
theorem dX9_init_42 : decode cX9_init 42 = .ok (.newarray .int, 2) := by decide +kernel
theorem dX9_init_44 : decode cX9_init 44 = .ok (.putfield 22, 3) := by decide +kernel
theorem dX9_init_47 : decode cX9_init 47 = .ok (.aload_n 0, 1) := by decide +kernel
theorem dX9_init_48 : decode cX9_init 48 = .ok (.bipush 11, 2) := by decide +kernel
theorem dX9_init_50 : decode cX9_init 50 = .ok (.newarray .char, 2) := by decide +kernel
theorem dX9_init_52 : decode cX9_init 52 = .ok (.dup, 1) := by decide +kernel
theorem dX9_init_53 : decode cX9_init 53 = .ok (.iconst 0, 1) := by decide +kernel
theorem dX9_init_54 : decode cX9_init 54 = .ok (.bipush 97, 2) := by decide +kernel
theorem dX9_init_56 : decode cX9_init 56 = .ok (.castore, 1) := by decide +kernel
theorem dX9_init_57 : decode cX9_init 57 = .ok (.dup, 1) := by decide +kernel
theorem dX9_init_58 : decode cX9_init 58 = .ok (.iconst 1, 1) := by decide +kernel
theorem dX9_init_59 : decode cX9_init 59 = .ok (.bipush 108, 2) := by decide +kernel
theorem dX9_init_61 : decode cX9_init 61 = .ok (.castore, 1) := by decide +kernel
theorem dX9_init_62 : decode cX9_init 62 = .ok (.dup, 1) := by decide +kernel
theorem dX9_init_63 : decode cX9_init 63 = .ok (.iconst 2, 1) := by decide +kernel
theorem dX9_init_64 : decode cX9_init 64 = .ok (.bipush 109, 2) := by decide +kernel
theorem dX9_init_66 : decode cX9_init 66 = .ok (.castore, 1) := by decide +kernel
theorem dX9_init_67 : decode cX9_init 67 = .ok (.dup, 1) := by decide +kernel
theorem dX9_init_68 : decode cX9_init 68 = .ok (.iconst 3, 1) := by decide +kernel
theorem dX9_init_69 : decode cX9_init 69 = .ok (.bipush 115, 2) := by decide +kernel
theorem dX9_init_71 : decode cX9_init 71 = .ok (.castore, 1) := by decide +kernel
theorem dX9_init_72 : decode cX9_init 72 = .ok (.dup, 1) := by decide +kernel
theorem dX9_init_73 : decode cX9_init 73 = .ok (.iconst 4, 1) := by decide +kernel
theorem dX9_init_74 : decode cX9_init 74 = .ok (.bipush 102, 2) := by decide +kernel
theorem dX9_init_76 : decode cX9_init 76 = .ok (.castore, 1) := by decide +kernel
theorem dX9_init_77 : decode cX9_init 77 = .ok (.dup, 1) := by decide +kernel
theorem dX9_init_78 : decode cX9_init 78 = .ok (.iconst 5, 1) := by decide +kernel
theorem dX9_init_79 : decode cX9_init 79 = .ok (.bipush 101, 2) := by decide +kernel
theorem dX9_init_81 : decode cX9_init 81 = .ok (.castore, 1) := by decide +kernel
theorem dX9_init_82 : decode cX9_init 82 = .ok (.dup, 1) := by decide +kernel
theorem dX9_init_83 : decode cX9_init 83 = .ok (.bipush 6, 2) := by decide +kernel
theorem dX9_init_85 : decode cX9_init 85 = .ok (.bipush 101, 2) := by decide +kernel
theorem dX9_init_87 : decode cX9_init 87 = .ok (.castore, 1) := by decide +kernel
theorem dX9_init_88 : decode cX9_init 88 = .ok (.dup, 1) := by decide +kernel
theorem dX9_init_89 : decode cX9_init 89 = .ok (.bipush 7, 2) := by decide +kernel
theorem dX9_init_91 : decode cX9_init 91 = .ok (.bipush 102, 2) := by decide +kernel
theorem dX9_init_93 : decode cX9_init 93 = .ok (.castore, 1) := by decide +kernel
theorem dX9_init_94 : decode cX9_init 94 = .ok (.dup, 1) := by decide +kernel
theorem dX9_init_95 : decode cX9_init 95 = .ok (.bipush 8, 2) := by decide +kernel
theorem dX9_init_97 : decode cX9_init 97 = .ok (.bipush 105, 2) := by decide +kernel
theorem dX9_init_99 : decode cX9_init 99 = .ok (.castore, 1) := by decide +kernel
theorem dX9_init_100 : decode cX9_init 100 = .ok (.dup, 1) := by decide +kernel
theorem dX9_init_101 : decode cX9_init 101 = .ok (.bipush 9, 2) := by decide +kernel
theorem dX9_init_103 : decode cX9_init 103 = .ok (.bipush 110, 2) := by decide +kernel
theorem dX9_init_105 : decode cX9_init 105 = .ok (.castore, 1) := by decide +kernel
theorem dX9_init_106 : decode cX9_init 106 = .ok (.dup, 1) := by decide +kernel
theorem dX9_init_107 : decode cX9_init 107 = .ok (.bipush 10, 2) := by decide +kernel
theorem dX9_init_109 : decode cX9_init 109 = .ok (.bipush 101, 2) := by decide +kernel
theorem dX9_init_111 : decode cX9_init 111 = .ok (.castore, 1) := by decide +kernel
theorem dX9_init_112 : decode cX9_init 112 = .ok (.putfield 25, 3) := by decide +kernel
theorem dX9_init_115 : decode cX9_init 115 = .ok (.aload_n 0, 1) := by decide +kernel
theorem dX9_init_116 : decode cX9_init 116 = .ok (.iconst 4, 1) := by decide +kernel
theorem dX9_init_117 : decode cX9_init 117 = .ok (.newarray .int, 2) := by decide +kernel
theorem dX9_init_119 : decode cX9_init 119 = .ok (.dup, 1) := by decide +kernel
theorem dX9_init_120 : decode cX9_init 120 = .ok (.iconst 0, 1) := by decide +kernel
theorem dX9_init_121 : decode cX9_init 121 = .ok (.iconst 0, 1) := by decide +kernel
theorem dX9_init_122 : decode cX9_init 122 = .ok (.iastore, 1) := by decide +kernel
theorem dX9_init_123 : decode cX9_init 123 = .ok (.dup, 1) := by decide +kernel
theorem dX9_init_124 : decode cX9_init 124 = .ok (.iconst 1, 1) := by decide +kernel
theorem dX9_init_125 : decode cX9_init 125 = .ok (.iconst 4, 1) := by decide +kernel
theorem dX9_init_126 : decode cX9_init 126 = .ok (.iastore, 1) := by decide +kernel
theorem dX9_init_127 : decode cX9_init 127 = .ok (.dup, 1) := by decide +kernel
theorem dX9_init_128 : decode cX9_init 128 = .ok (.iconst 2, 1) := by decide +kernel
theorem dX9_init_129 : decode cX9_init 129 = .ok (.bipush 7, 2) := by decide +kernel
theorem dX9_init_131 : decode cX9_init 131 = .ok (.iastore, 1) := by decide +kernel
theorem dX9_init_132 : decode cX9_init 132 = .ok (.dup, 1) := by decide +kernel
theorem dX9_init_133 : decode cX9_init 133 = .ok (.iconst 3, 1) := by decide +kernel
theorem dX9_init_134 : decode cX9_init 134 = .ok (.bipush 11, 2) := by decide +kernel
theorem dX9_init_136 : decode cX9_init 136 = .ok (.iastore, 1) := by decide +kernel
theorem dX9_init_137 : decode cX9_init 137 = .ok (.putfield 29, 3) := by decide +kernel
theorem dX9_init_140 : decode cX9_init 140 = .ok (.aload_n 0, 1) := by decide +kernel
theorem dX9_init_141 : decode cX9_init 141 = .ok (.bipush 96, 2) := by decide +kernel
theorem dX9_init_143 : decode cX9_init 143 = .ok (.newarray .int, 2) := by decide +kernel
theorem dX9_init_145 : decode cX9_init 145 = .ok (.putfield 32, 3) := by decide +kernel
theorem dX9_init_148 : decode cX9_init 148 = .ok (.aload_n 0, 1) := by decide +kernel
theorem dX9_init_149 : decode cX9_init 149 = .ok (.bipush 96, 2) := by decide +kernel
theorem dX9_init_151 : decode cX9_init 151 = .ok (.newarray .int, 2) := by decide +kernel
theorem dX9_init_153 : decode cX9_init 153 = .ok (.putfield 35, 3) := by decide +kernel
theorem dX9_init_156 : decode cX9_init 156 = .ok (.aload_n 0, 1) := by decide +kernel
theorem dX9_init_157 : decode cX9_init 157 = .ok (.bipush 10, 2) := by decide +kernel
theorem dX9_init_159 : decode cX9_init 159 = .ok (.newarray .boolean, 2) := by decide +kernel
theorem dX9_init_161 : decode cX9_init 161 = .ok (.putfield 38, 3) := by decide +kernel
theorem dX9_init_164 : decode cX9_init 164 = .ok (.aload_n 0, 1) := by decide +kernel
theorem dX9_init_165 : decode cX9_init 165 = .ok (.bipush 96, 2) := by decide +kernel
theorem dX9_init_167 : decode cX9_init 167 = .ok (.newarray .int, 2) := by decide +kernel
theorem dX9_init_169 : decode cX9_init 169 = .ok (.putfield 42, 3) := by decide +kernel
theorem dX9_init_172 : decode cX9_init 172 = .ok (.aload_n 0, 1) := by decide +kernel
theorem dX9_init_173 : decode cX9_init 173 = .ok (.iconst 4, 1) := by decide +kernel
theorem dX9_init_174 : decode cX9_init 174 = .ok (.newarray .int, 2) := by decide +kernel
theorem dX9_init_176 : decode cX9_init 176 = .ok (.putfield 45, 3) := by decide +kernel
theorem dX9_init_179 : decode cX9_init 179 = .ok (.aload_n 0, 1) := by decide +kernel
theorem dX9_init_180 : decode cX9_init 180 = .ok (.iconst 4, 1) := by decide +kernel
theorem dX9_init_181 : decode cX9_init 181 = .ok (.newarray .int, 2) := by decide +kernel
theorem dX9_init_183 : decode cX9_init 183 = .ok (.dup, 1) := by decide +kernel
theorem dX9_init_184 : decode cX9_init 184 = .ok (.iconst 0, 1) := by decide +kernel
theorem dX9_init_185 : decode cX9_init 185 = .ok (.iconst (-1), 1) := by decide +kernel
theorem dX9_init_186 : decode cX9_init 186 = .ok (.iastore, 1) := by decide +kernel
theorem dX9_init_187 : decode cX9_init 187 = .ok (.dup, 1) := by decide +kernel
theorem dX9_init_188 : decode cX9_init 188 = .ok (.iconst 1, 1) := by decide +kernel
theorem dX9_init_189 : decode cX9_init 189 = .ok (.iconst (-1), 1) := by decide +kernel
theorem dX9_init_190 : decode cX9_init 190 = .ok (.iastore, 1) := by decide +kernel
theorem dX9_init_191 : decode cX9_init 191 = .ok (.dup, 1) := by decide +kernel
theorem dX9_init_192 : decode cX9_init 192 = .ok (.iconst 2, 1) := by decide +kernel
theorem dX9_init_193 : decode cX9_init 193 = .ok (.iconst (-1), 1) := by decide +kernel
theorem dX9_init_194 : decode cX9_init 194 = .ok (.iastore, 1) := by decide +kernel
theorem dX9_init_195 : decode cX9_init 195 = .ok (.dup, 1) := by decide +kernel
theorem dX9_init_196 : decode cX9_init 196 = .ok (.iconst 3, 1) := by decide +kernel
theorem dX9_init_197 : decode cX9_init 197 = .ok (.iconst (-1), 1) := by decide +kernel
theorem dX9_init_198 : decode cX9_init 198 = .ok (.iastore, 1) := by decide +kernel
theorem dX9_init_199 : decode cX9_init 199 = .ok (.putfield 48, 3) := by decide +kernel
theorem dX9_init_202 : decode cX9_init 202 = .ok (.aload_n 0, 1) := by decide +kernel
theorem dX9_init_203 : decode cX9_init 203 = .ok (.iconst 4, 1) := by decide +kernel
theorem dX9_init_204 : decode cX9_init 204 = .ok (.newarray .int, 2) := by decide +kernel
theorem dX9_init_206 : decode cX9_init 206 = .ok (.putfield 51, 3) := by decide +kernel
theorem dX9_init_209 : decode cX9_init 209 = .ok (.aload_n 0, 1) := by decide +kernel
theorem dX9_init_210 : decode cX9_init 210 = .ok (.bipush 96, 2) := by decide +kernel
theorem dX9_init_212 : decode cX9_init 212 = .ok (.newarray .int, 2) := by decide +kernel
theorem dX9_init_214 : decode cX9_init 214 = .ok (.putfield 54, 3) := by decide +kernel
theorem dX9_init_217 : decode cX9_init 217 = .ok (.aload_n 0, 1) := by decide +kernel
theorem dX9_init_218 : decode cX9_init 218 = .ok (.iconst 5, 1) := by decide +kernel
theorem dX9_init_219 : decode cX9_init 219 = .ok (.newarray .int, 2) := by decide +kernel
theorem dX9_init_221 : decode cX9_init 221 = .ok (.putfield 57, 3) := by decide +kernel
theorem dX9_init_224 : decode cX9_init 224 = .ok (.aload_n 0, 1) := by decide +kernel
theorem dX9_init_225 : decode cX9_init 225 = .ok (.iconst 5, 1) := by decide +kernel
theorem dX9_init_226 : decode cX9_init 226 = .ok (.newarray .int, 2) := by decide +kernel
theorem dX9_init_228 : decode cX9_init 228 = .ok (.putfield 60, 3) := by decide +kernel
theorem dX9_init_231 : decode cX9_init 231 = .ok (.aload_n 0, 1) := by decide +kernel
theorem dX9_init_232 : decode cX9_init 232 = .ok (.iconst 5, 1) := by decide +kernel
theorem dX9_init_233 : decode cX9_init 233 = .ok (.newarray .int, 2) := by decide +kernel
theorem dX9_init_235 : decode cX9_init 235 = .ok (.putfield 63, 3) := by decide +kernel
theorem dX9_init_238 : decode cX9_init 238 = .ok (.aload_n 0, 1) := by decide +kernel
theorem dX9_init_239 : decode cX9_init 239 = .ok (.bipush 120, 2) := by decide +kernel
theorem dX9_init_241 : decode cX9_init 241 = .ok (.newarray .int, 2) := by decide +kernel
theorem dX9_init_243 : decode cX9_init 243 = .ok (.putfield 66, 3) := by decide +kernel
theorem dX9_init_246 : decode cX9_init 246 = .ok (.aload_n 0, 1) := by decide +kernel
theorem dX9_init_247 : decode cX9_init 247 = .ok (.bipush 24, 2) := by decide +kernel
theorem dX9_init_249 : decode cX9_init 249 = .ok (.newarray .int, 2) := by decide +kernel
theorem dX9_init_251 : decode cX9_init 251 = .ok (.putfield 69, 3) := by decide +kernel
theorem dX9_init_254 : decode cX9_init 254 = .ok (.aload_n 0, 1) := by decide +kernel
theorem dX9_init_255 : decode cX9_init 255 = .ok (.bipush 60, 2) := by decide +kernel
theorem dX9_init_257 : decode cX9_init 257 = .ok (.newarray .int, 2) := by decide +kernel
theorem dX9_init_259 : decode cX9_init 259 = .ok (.putfield 72, 3) := by decide +kernel
theorem dX9_init_262 : decode cX9_init 262 = .ok (.aload_n 0, 1) := by decide +kernel
theorem dX9_init_263 : decode cX9_init 263 = .ok (.getfield 9, 3) := by decide +kernel
theorem dX9_init_266 : decode cX9_init 266 = .ok (.iconst 0, 1) := by decide +kernel
theorem dX9_init_267 : decode cX9_init 267 = .ok (.iconst 1, 1) := by decide +kernel
theorem dX9_init_268 : decode cX9_init 268 = .ok (.iastore, 1) := by decide +kernel
theorem dX9_init_269 : decode cX9_init 269 = .ok (.aload_n 0, 1) := by decide +kernel
theorem dX9_init_270 : decode cX9_init 270 = .ok (.getfield 9, 3) := by decide +kernel
theorem dX9_init_273 : decode cX9_init 273 = .ok (.iconst 3, 1) := by decide +kernel
theorem dX9_init_274 : decode cX9_init 274 = .ok (.bipush 20, 2) := by decide +kernel
theorem dX9_init_276 : decode cX9_init 276 = .ok (.iastore, 1) := by decide +kernel
theorem dX9_init_277 : decode cX9_init 277 = .ok (.aload_n 0, 1) := by decide +kernel
theorem dX9_init_278 : decode cX9_init 278 = .ok (.getfield 9, 3) := by decide +kernel
theorem dX9_init_281 : decode cX9_init 281 = .ok (.iconst 5, 1) := by decide +kernel
theorem dX9_init_282 : decode cX9_init 282 = .ok (.bipush 8, 2) := by decide +kernel
theorem dX9_init_284 : decode cX9_init 284 = .ok (.iastore, 1) := by decide +kernel
theorem dX9_init_285 : decode cX9_init 285 = .ok (.return_, 1) := by decide +kernel
theorem dX9_in_0 : decode cX9_in 0 = .ok (.iload_n 0, 1) := by decide +kernel
theorem dX9_in_1 : decode cX9_in 1 = .ok (.iload_n 1, 1) := by decide +kernel
theorem dX9_in_2 : decode cX9_in 2 = .ok (.if_icmp .lt 12, 3) := by decide +kernel
theorem dX9_in_5 : decode cX9_in 5 = .ok (.iload_n 0, 1) := by decide +kernel
theorem dX9_in_6 : decode cX9_in 6 = .ok (.iload_n 2, 1) := by decide +kernel
theorem dX9_in_7 : decode cX9_in 7 = .ok (.if_icmp .gt 7, 3) := by decide +kernel
theorem dX9_in_10 : decode cX9_in 10 = .ok (.iconst 1, 1) := by decide +kernel
theorem dX9_in_11 : decode cX9_in 11 = .ok (.goto 4, 3) := by decide +kernel
theorem dX9_in_14 : decode cX9_in 14 = .ok (.iconst 0, 1) := by decide +kernel
theorem dX9_in_15 : decode cX9_in 15 = .ok (.ireturn, 1) := by decide +kernel
theorem dX9_within_0 : decode cX9_within 0 = .ok (.iload_n 0, 1) := by decide +kernel
theorem dX9_within_1 : decode cX9_within 1 = .ok (.iload_n 1, 1) := by decide +kernel
theorem dX9_within_2 : decode cX9_within 2 = .ok (.if_icmp .ge 7, 3) := by decide +kernel
theorem dX9_within_5 : decode cX9_within 5 = .ok (.iload_n 1, 1) := by decide +kernel
theorem dX9_within_6 : decode cX9_within 6 = .ok (.goto 13, 3) := by decide +kernel
theorem dX9_within_9 : decode cX9_within 9 = .ok (.iload_n 0, 1) := by decide +kernel
theorem dX9_within_10 : decode cX9_within 10 = .ok (.iload_n 2, 1) := by decide +kernel
theorem dX9_within_11 : decode cX9_within 11 = .ok (.if_icmp .le 7, 3) := by decide +kernel
theorem dX9_within_14 : decode cX9_within 14 = .ok (.iload_n 2, 1) := by decide +kernel
theorem dX9_within_15 : decode cX9_within 15 = .ok (.goto 4, 3) := by decide +kernel
theorem dX9_within_18 : decode cX9_within 18 = .ok (.iload_n 0, 1) := by decide +kernel
theorem dX9_within_19 : decode cX9_within 19 = .ok (.ireturn, 1) := by decide +kernel
theorem dX9_copyAll_0 : decode cX9_copyAll 0 = .ok (.iconst 0, 1) := by decide +kernel
theorem dX9_copyAll_1 : decode cX9_copyAll 1 = .ok (.istore_n 2, 1) := by decide +kernel
theorem dX9_copyAll_2 : decode cX9_copyAll 2 = .ok (.iload_n 2, 1) := by decide +kernel
theorem dX9_copyAll_3 : decode cX9_copyAll 3 = .ok (.sipush 1433, 3) := by decide +kernel
theorem dX9_copyAll_6 : decode cX9_copyAll 6 = .ok (.if_icmp .ge 15, 3) := by decide +kernel
theorem dX9_copyAll_9 : decode cX9_copyAll 9 = .ok (.aload_n 1, 1) := by decide +kernel
theorem dX9_copyAll_10 : decode cX9_copyAll 10 = .ok (.iload_n 2, 1) := by decide +kernel
theorem dX9_copyAll_11 : decode cX9_copyAll 11 = .ok (.aload_n 0, 1) := by decide +kernel
theorem dX9_copyAll_12 : decode cX9_copyAll 12 = .ok (.iload_n 2, 1) := by decide +kernel
theorem dX9_copyAll_13 : decode cX9_copyAll 13 = .ok (.iaload, 1) := by decide +kernel
theorem dX9_copyAll_14 : decode cX9_copyAll 14 = .ok (.iastore, 1) := by decide +kernel
theorem dX9_copyAll_15 : decode cX9_copyAll 15 = .ok (.iinc 2 1, 3) := by decide +kernel
theorem dX9_copyAll_18 : decode cX9_copyAll 18 = .ok (.goto (-16), 3) := by decide +kernel
theorem dX9_copyAll_21 : decode cX9_copyAll 21 = .ok (.return_, 1) := by decide +kernel
theorem dX9_isBeggar_0 : decode cX9_isBeggar 0 = .ok (.iload_n 1, 1) := by decide +kernel
theorem dX9_isBeggar_1 : decode cX9_isBeggar 1 = .ok (.iconst 0, 1) := by decide +kernel
theorem dX9_isBeggar_2 : decode cX9_isBeggar 2 = .ok (.aload_n 0, 1) := by decide +kernel
theorem dX9_isBeggar_3 : decode cX9_isBeggar 3 = .ok (.getfield 9, 3) := by decide +kernel
theorem dX9_isBeggar_6 : decode cX9_isBeggar 6 = .ok (.iconst 1, 1) := by decide +kernel
theorem dX9_isBeggar_7 : decode cX9_isBeggar 7 = .ok (.iaload, 1) := by decide +kernel
theorem dX9_isBeggar_8 : decode cX9_isBeggar 8 = .ok (.iconst 1, 1) := by decide +kernel
theorem dX9_isBeggar_9 : decode cX9_isBeggar 9 = .ok (.isub, 1) := by decide +kernel
theorem dX9_isBeggar_10 : decode cX9_isBeggar 10 = .ok (.invokestatic 75, 3) := by decide +kernel
theorem dX9_isBeggar_13 : decode cX9_isBeggar 13 = .ok (.ireturn, 1) := by decide +kernel
theorem dX9_isCorner_0 : decode cX9_isCorner 0 = .ok (.iload_n 0, 1) := by decide +kernel
theorem dX9_isCorner_1 : decode cX9_isCorner 1 = .ok (.iconst 0, 1) := by decide +kernel
theorem dX9_isCorner_2 : decode cX9_isCorner 2 = .ok (.bipush 7, 2) := by decide +kernel
theorem dX9_isCorner_4 : decode cX9_isCorner 4 = .ok (.invokestatic 75, 3) := by decide +kernel
theorem dX9_isCorner_7 : decode cX9_isCorner 7 = .ok (.ireturn, 1) := by decide +kernel
theorem dX9_of_0 : decode cX9_of 0 = .ok (.aload_n 0, 1) := by decide +kernel
theorem dX9_of_1 : decode cX9_of 1 = .ok (.getfield 9, 3) := by decide +kernel
theorem dX9_of_4 : decode cX9_of 4 = .ok (.bipush 16, 2) := by decide +kernel
theorem dX9_of_6 : decode cX9_of 6 = .ok (.iconst 5, 1) := by decide +kernel
theorem dX9_of_7 : decode cX9_of 7 = .ok (.iload_n 1, 1) := by decide +kernel
theorem dX9_of_8 : decode cX9_of 8 = .ok (.imul, 1) := by decide +kernel
theorem dX9_of_9 : decode cX9_of 9 = .ok (.iadd, 1) := by decide +kernel
theorem dX9_of_10 : decode cX9_of 10 = .ok (.iload_n 2, 1) := by decide +kernel
theorem dX9_of_11 : decode cX9_of 11 = .ok (.iadd, 1) := by decide +kernel
theorem dX9_of_12 : decode cX9_of 12 = .ok (.iaload, 1) := by decide +kernel
theorem dX9_of_13 : decode cX9_of 13 = .ok (.ireturn, 1) := by decide +kernel
theorem dX9_put_0 : decode cX9_put 0 = .ok (.aload_n 0, 1) := by decide +kernel
theorem dX9_put_1 : decode cX9_put 1 = .ok (.getfield 9, 3) := by decide +kernel
theorem dX9_put_4 : decode cX9_put 4 = .ok (.bipush 16, 2) := by decide +kernel
theorem dX9_put_6 : decode cX9_put 6 = .ok (.iconst 5, 1) := by decide +kernel
theorem dX9_put_7 : decode cX9_put 7 = .ok (.iload_n 1, 1) := by decide +kernel
theorem dX9_put_8 : decode cX9_put 8 = .ok (.imul, 1) := by decide +kernel
theorem dX9_put_9 : decode cX9_put 9 = .ok (.iadd, 1) := by decide +kernel
theorem dX9_put_10 : decode cX9_put 10 = .ok (.iload_n 2, 1) := by decide +kernel
theorem dX9_put_11 : decode cX9_put 11 = .ok (.iadd, 1) := by decide +kernel
theorem dX9_put_12 : decode cX9_put 12 = .ok (.iload_n 3, 1) := by decide +kernel
theorem dX9_put_13 : decode cX9_put 13 = .ok (.iastore, 1) := by decide +kernel
theorem dX9_put_14 : decode cX9_put 14 = .ok (.return_, 1) := by decide +kernel
theorem dX9_becomes_0 : decode cX9_becomes 0 = .ok (.aload_n 0, 1) := by decide +kernel
theorem dX9_becomes_1 : decode cX9_becomes 1 = .ok (.getfield 9, 3) := by decide +kernel
theorem dX9_becomes_4 : decode cX9_becomes 4 = .ok (.iload_n 1, 1) := by decide +kernel
theorem dX9_becomes_5 : decode cX9_becomes 5 = .ok (.iaload, 1) := by decide +kernel
theorem dX9_becomes_6 : decode cX9_becomes 6 = .ok (.istore_n 3, 1) := by decide +kernel
theorem dX9_becomes_7 : decode cX9_becomes 7 = .ok (.aload_n 0, 1) := by decide +kernel
theorem dX9_becomes_8 : decode cX9_becomes 8 = .ok (.getfield 9, 3) := by decide +kernel
theorem dX9_becomes_11 : decode cX9_becomes 11 = .ok (.iload_n 1, 1) := by decide +kernel
theorem dX9_becomes_12 : decode cX9_becomes 12 = .ok (.iload_n 2, 1) := by decide +kernel
theorem dX9_becomes_13 : decode cX9_becomes 13 = .ok (.iastore, 1) := by decide +kernel
theorem dX9_becomes_14 : decode cX9_becomes 14 = .ok (.iload_n 3, 1) := by decide +kernel
theorem dX9_becomes_15 : decode cX9_becomes 15 = .ok (.ireturn, 1) := by decide +kernel
theorem dX9_comes_0 : decode cX9_comes 0 = .ok (.aload_n 0, 1) := by decide +kernel
theorem dX9_comes_1 : decode cX9_comes 1 = .ok (.getfield 9, 3) := by decide +kernel
theorem dX9_comes_4 : decode cX9_comes 4 = .ok (.iconst 1, 1) := by decide +kernel
theorem dX9_comes_5 : decode cX9_comes 5 = .ok (.iaload, 1) := by decide +kernel
theorem dX9_comes_6 : decode cX9_comes 6 = .ok (.istore 4, 2) := by decide +kernel
theorem dX9_comes_8 : decode cX9_comes 8 = .ok (.aload_n 0, 1) := by decide +kernel
theorem dX9_comes_9 : decode cX9_comes 9 = .ok (.iload 4, 2) := by decide +kernel
theorem dX9_comes_11 : decode cX9_comes 11 = .ok (.iconst 0, 1) := by decide +kernel
theorem dX9_comes_12 : decode cX9_comes 12 = .ok (.iload_n 1, 1) := by decide +kernel
theorem dX9_comes_13 : decode cX9_comes 13 = .ok (.invokevirtual 79, 3) := by decide +kernel
theorem dX9_comes_16 : decode cX9_comes 16 = .ok (.aload_n 0, 1) := by decide +kernel
theorem dX9_comes_17 : decode cX9_comes 17 = .ok (.iload 4, 2) := by decide +kernel
theorem dX9_comes_19 : decode cX9_comes 19 = .ok (.iconst 1, 1) := by decide +kernel
theorem dX9_comes_20 : decode cX9_comes 20 = .ok (.iload_n 2, 1) := by decide +kernel
theorem dX9_comes_21 : decode cX9_comes 21 = .ok (.invokevirtual 79, 3) := by decide +kernel
theorem dX9_comes_24 : decode cX9_comes 24 = .ok (.aload_n 0, 1) := by decide +kernel
theorem dX9_comes_25 : decode cX9_comes 25 = .ok (.iload 4, 2) := by decide +kernel
theorem dX9_comes_27 : decode cX9_comes 27 = .ok (.iconst 2, 1) := by decide +kernel
theorem dX9_comes_28 : decode cX9_comes 28 = .ok (.iload_n 3, 1) := by decide +kernel
theorem dX9_comes_29 : decode cX9_comes 29 = .ok (.invokevirtual 79, 3) := by decide +kernel
theorem dX9_comes_32 : decode cX9_comes 32 = .ok (.aload_n 0, 1) := by decide +kernel
theorem dX9_comes_33 : decode cX9_comes 33 = .ok (.iload 4, 2) := by decide +kernel
theorem dX9_comes_35 : decode cX9_comes 35 = .ok (.iconst 3, 1) := by decide +kernel
theorem dX9_comes_36 : decode cX9_comes 36 = .ok (.iconst 0, 1) := by decide +kernel
theorem dX9_comes_37 : decode cX9_comes 37 = .ok (.invokevirtual 79, 3) := by decide +kernel
theorem dX9_comes_40 : decode cX9_comes 40 = .ok (.aload_n 0, 1) := by decide +kernel
theorem dX9_comes_41 : decode cX9_comes 41 = .ok (.iload 4, 2) := by decide +kernel
theorem dX9_comes_43 : decode cX9_comes 43 = .ok (.iconst 4, 1) := by decide +kernel
theorem dX9_comes_44 : decode cX9_comes 44 = .ok (.iconst 0, 1) := by decide +kernel
theorem dX9_comes_45 : decode cX9_comes 45 = .ok (.invokevirtual 79, 3) := by decide +kernel
theorem dX9_comes_48 : decode cX9_comes 48 = .ok (.aload_n 0, 1) := by decide +kernel
theorem dX9_comes_49 : decode cX9_comes 49 = .ok (.getfield 9, 3) := by decide +kernel
theorem dX9_comes_52 : decode cX9_comes 52 = .ok (.iconst 1, 1) := by decide +kernel
theorem dX9_comes_53 : decode cX9_comes 53 = .ok (.dup2, 1) := by decide +kernel
theorem dX9_comes_54 : decode cX9_comes 54 = .ok (.iaload, 1) := by decide +kernel
theorem dX9_comes_55 : decode cX9_comes 55 = .ok (.iconst 1, 1) := by decide +kernel
theorem dX9_comes_56 : decode cX9_comes 56 = .ok (.iadd, 1) := by decide +kernel
theorem dX9_comes_57 : decode cX9_comes 57 = .ok (.iastore, 1) := by decide +kernel
theorem dX9_comes_58 : decode cX9_comes 58 = .ok (.iload 4, 2) := by decide +kernel
theorem dX9_comes_60 : decode cX9_comes 60 = .ok (.ireturn, 1) := by decide +kernel
theorem dX9_beggar_0 : decode cX9_beggar 0 = .ok (.iload_n 1, 1) := by decide +kernel
theorem dX9_beggar_1 : decode cX9_beggar 1 = .ok (.iconst 0, 1) := by decide +kernel
theorem dX9_beggar_2 : decode cX9_beggar 2 = .ok (.iconst 5, 1) := by decide +kernel
theorem dX9_beggar_3 : decode cX9_beggar 3 = .ok (.invokestatic 75, 3) := by decide +kernel
theorem dX9_beggar_6 : decode cX9_beggar 6 = .ok (.ifCond .eq 23, 3) := by decide +kernel
theorem dX9_beggar_9 : decode cX9_beggar 9 = .ok (.iload_n 2, 1) := by decide +kernel
theorem dX9_beggar_10 : decode cX9_beggar 10 = .ok (.iconst 0, 1) := by decide +kernel
theorem dX9_beggar_11 : decode cX9_beggar 11 = .ok (.bipush 8, 2) := by decide +kernel
theorem dX9_beggar_13 : decode cX9_beggar 13 = .ok (.invokestatic 75, 3) := by decide +kernel
theorem dX9_beggar_16 : decode cX9_beggar 16 = .ok (.ifCond .eq 13, 3) := by decide +kernel
theorem dX9_beggar_19 : decode cX9_beggar 19 = .ok (.iload_n 3, 1) := by decide +kernel
theorem dX9_beggar_20 : decode cX9_beggar 20 = .ok (.iconst 0, 1) := by decide +kernel
theorem dX9_beggar_21 : decode cX9_beggar 21 = .ok (.bipush 20, 2) := by decide +kernel
theorem dX9_beggar_23 : decode cX9_beggar 23 = .ok (.invokestatic 75, 3) := by decide +kernel
theorem dX9_beggar_26 : decode cX9_beggar 26 = .ok (.ifCond .ne 6, 3) := by decide +kernel
theorem dX9_beggar_29 : decode cX9_beggar 29 = .ok (.ldc 83, 2) := by decide +kernel
theorem dX9_beggar_31 : decode cX9_beggar 31 = .ok (.ireturn, 1) := by decide +kernel
theorem dX9_beggar_32 : decode cX9_beggar 32 = .ok (.aload_n 0, 1) := by decide +kernel
theorem dX9_beggar_33 : decode cX9_beggar 33 = .ok (.getfield 9, 3) := by decide +kernel
theorem dX9_beggar_36 : decode cX9_beggar 36 = .ok (.iconst 1, 1) := by decide +kernel
theorem dX9_beggar_37 : decode cX9_beggar 37 = .ok (.iaload, 1) := by decide +kernel
theorem dX9_beggar_38 : decode cX9_beggar 38 = .ok (.bipush 8, 2) := by decide +kernel
theorem dX9_beggar_40 : decode cX9_beggar 40 = .ok (.if_icmp .ne 8, 3) := by decide +kernel
theorem dX9_beggar_43 : decode cX9_beggar 43 = .ok (.ldc 84, 2) := by decide +kernel
theorem dX9_beggar_45 : decode cX9_beggar 45 = .ok (.goto 10, 3) := by decide +kernel
theorem dX9_beggar_48 : decode cX9_beggar 48 = .ok (.aload_n 0, 1) := by decide +kernel
theorem dX9_beggar_49 : decode cX9_beggar 49 = .ok (.iload_n 1, 1) := by decide +kernel
theorem dX9_beggar_50 : decode cX9_beggar 50 = .ok (.iload_n 2, 1) := by decide +kernel
theorem dX9_beggar_51 : decode cX9_beggar 51 = .ok (.iload_n 3, 1) := by decide +kernel
theorem dX9_beggar_52 : decode cX9_beggar 52 = .ok (.invokevirtual 85, 3) := by decide +kernel
theorem dX9_beggar_55 : decode cX9_beggar 55 = .ok (.ireturn, 1) := by decide +kernel
theorem dX9_isAgainst_0 : decode cX9_isAgainst 0 = .ok (.iconst 0, 1) := by decide +kernel
theorem dX9_isAgainst_1 : decode cX9_isAgainst 1 = .ok (.istore_n 2, 1) := by decide +kernel
theorem dX9_isAgainst_2 : decode cX9_isAgainst 2 = .ok (.iload_n 2, 1) := by decide +kernel
theorem dX9_isAgainst_3 : decode cX9_isAgainst 3 = .ok (.iload_n 1, 1) := by decide +kernel
theorem dX9_isAgainst_4 : decode cX9_isAgainst 4 = .ok (.if_icmp .ge 87, 3) := by decide +kernel
theorem dX9_isAgainst_7 : decode cX9_isAgainst 7 = .ok (.aload_n 0, 1) := by decide +kernel
theorem dX9_isAgainst_8 : decode cX9_isAgainst 8 = .ok (.iload_n 1, 1) := by decide +kernel
theorem dX9_isAgainst_9 : decode cX9_isAgainst 9 = .ok (.iconst 1, 1) := by decide +kernel
theorem dX9_isAgainst_10 : decode cX9_isAgainst 10 = .ok (.invokevirtual 89, 3) := by decide +kernel
theorem dX9_isAgainst_13 : decode cX9_isAgainst 13 = .ok (.bipush 8, 2) := by decide +kernel
theorem dX9_isAgainst_15 : decode cX9_isAgainst 15 = .ok (.if_icmp .eq 76, 3) := by decide +kernel
theorem dX9_isAgainst_18 : decode cX9_isAgainst 18 = .ok (.aload_n 0, 1) := by decide +kernel
theorem dX9_isAgainst_19 : decode cX9_isAgainst 19 = .ok (.iload_n 2, 1) := by decide +kernel
theorem dX9_isAgainst_20 : decode cX9_isAgainst 20 = .ok (.iconst 1, 1) := by decide +kernel
theorem dX9_isAgainst_21 : decode cX9_isAgainst 21 = .ok (.invokevirtual 89, 3) := by decide +kernel
theorem dX9_isAgainst_24 : decode cX9_isAgainst 24 = .ok (.aload_n 0, 1) := by decide +kernel
theorem dX9_isAgainst_25 : decode cX9_isAgainst 25 = .ok (.iload_n 1, 1) := by decide +kernel
theorem dX9_isAgainst_26 : decode cX9_isAgainst 26 = .ok (.iconst 1, 1) := by decide +kernel
theorem dX9_isAgainst_27 : decode cX9_isAgainst 27 = .ok (.invokevirtual 89, 3) := by decide +kernel
theorem dX9_isAgainst_30 : decode cX9_isAgainst 30 = .ok (.isub, 1) := by decide +kernel
theorem dX9_isAgainst_31 : decode cX9_isAgainst 31 = .ok (.istore_n 3, 1) := by decide +kernel
theorem dX9_isAgainst_32 : decode cX9_isAgainst 32 = .ok (.aload_n 0, 1) := by decide +kernel
theorem dX9_isAgainst_33 : decode cX9_isAgainst 33 = .ok (.iload_n 2, 1) := by decide +kernel
theorem dX9_isAgainst_34 : decode cX9_isAgainst 34 = .ok (.iconst 0, 1) := by decide +kernel
theorem dX9_isAgainst_35 : decode cX9_isAgainst 35 = .ok (.invokevirtual 89, 3) := by decide +kernel
theorem dX9_isAgainst_38 : decode cX9_isAgainst 38 = .ok (.aload_n 0, 1) := by decide +kernel
theorem dX9_isAgainst_39 : decode cX9_isAgainst 39 = .ok (.iload_n 1, 1) := by decide +kernel
theorem dX9_isAgainst_40 : decode cX9_isAgainst 40 = .ok (.iconst 0, 1) := by decide +kernel
theorem dX9_isAgainst_41 : decode cX9_isAgainst 41 = .ok (.invokevirtual 89, 3) := by decide +kernel
theorem dX9_isAgainst_44 : decode cX9_isAgainst 44 = .ok (.if_icmp .ne 16, 3) := by decide +kernel
theorem dX9_isAgainst_47 : decode cX9_isAgainst 47 = .ok (.iload_n 3, 1) := by decide +kernel
theorem dX9_isAgainst_48 : decode cX9_isAgainst 48 = .ok (.iconst (-1), 1) := by decide +kernel
theorem dX9_isAgainst_49 : decode cX9_isAgainst 49 = .ok (.iconst 1, 1) := by decide +kernel
theorem dX9_isAgainst_50 : decode cX9_isAgainst 50 = .ok (.invokestatic 75, 3) := by decide +kernel
theorem dX9_isAgainst_53 : decode cX9_isAgainst 53 = .ok (.ifCond .eq 7, 3) := by decide +kernel
theorem dX9_isAgainst_56 : decode cX9_isAgainst 56 = .ok (.iconst 1, 1) := by decide +kernel
theorem dX9_isAgainst_57 : decode cX9_isAgainst 57 = .ok (.goto 4, 3) := by decide +kernel
theorem dX9_isAgainst_60 : decode cX9_isAgainst 60 = .ok (.iconst 0, 1) := by decide +kernel
theorem dX9_isAgainst_61 : decode cX9_isAgainst 61 = .ok (.istore 4, 2) := by decide +kernel
theorem dX9_isAgainst_63 : decode cX9_isAgainst 63 = .ok (.aload_n 0, 1) := by decide +kernel
theorem dX9_isAgainst_64 : decode cX9_isAgainst 64 = .ok (.iload_n 2, 1) := by decide +kernel
theorem dX9_isAgainst_65 : decode cX9_isAgainst 65 = .ok (.iconst 1, 1) := by decide +kernel
theorem dX9_isAgainst_66 : decode cX9_isAgainst 66 = .ok (.invokevirtual 89, 3) := by decide +kernel
theorem dX9_isAgainst_69 : decode cX9_isAgainst 69 = .ok (.bipush 8, 2) := by decide +kernel
theorem dX9_isAgainst_71 : decode cX9_isAgainst 71 = .ok (.if_icmp .eq 14, 3) := by decide +kernel
theorem dX9_isAgainst_74 : decode cX9_isAgainst 74 = .ok (.iload_n 3, 1) := by decide +kernel
theorem dX9_isAgainst_75 : decode cX9_isAgainst 75 = .ok (.ifCond .eq 8, 3) := by decide +kernel
theorem dX9_isAgainst_78 : decode cX9_isAgainst 78 = .ok (.iload 4, 2) := by decide +kernel
theorem dX9_isAgainst_80 : decode cX9_isAgainst 80 = .ok (.ifCond .eq 5, 3) := by decide +kernel
theorem dX9_isAgainst_83 : decode cX9_isAgainst 83 = .ok (.iconst 1, 1) := by decide +kernel
theorem dX9_isAgainst_84 : decode cX9_isAgainst 84 = .ok (.ireturn, 1) := by decide +kernel
theorem dX9_isAgainst_85 : decode cX9_isAgainst 85 = .ok (.iinc 2 1, 3) := by decide +kernel
theorem dX9_isAgainst_88 : decode cX9_isAgainst 88 = .ok (.goto (-86), 3) := by decide +kernel
theorem dX9_isAgainst_91 : decode cX9_isAgainst 91 = .ok (.iconst 0, 1) := by decide +kernel
theorem dX9_isAgainst_92 : decode cX9_isAgainst 92 = .ok (.ireturn, 1) := by decide +kernel
theorem dX9_worthOf_0 : decode cX9_worthOf 0 = .ok (.aload_n 0, 1) := by decide +kernel
theorem dX9_worthOf_1 : decode cX9_worthOf 1 = .ok (.iload_n 1, 1) := by decide +kernel
theorem dX9_worthOf_2 : decode cX9_worthOf 2 = .ok (.iconst 2, 1) := by decide +kernel
theorem dX9_worthOf_3 : decode cX9_worthOf 3 = .ok (.invokevirtual 89, 3) := by decide +kernel
theorem dX9_worthOf_6 : decode cX9_worthOf 6 = .ok (.istore_n 2, 1) := by decide +kernel
theorem dX9_worthOf_7 : decode cX9_worthOf 7 = .ok (.aload_n 0, 1) := by decide +kernel
theorem dX9_worthOf_8 : decode cX9_worthOf 8 = .ok (.iload_n 1, 1) := by decide +kernel
theorem dX9_worthOf_9 : decode cX9_worthOf 9 = .ok (.iconst 0, 1) := by decide +kernel
theorem dX9_worthOf_10 : decode cX9_worthOf 10 = .ok (.invokevirtual 89, 3) := by decide +kernel
theorem dX9_worthOf_13 : decode cX9_worthOf 13 = .ok (.tableswitch 59 1 5 #[35, 40, 45, 52, 57], 35) := by decide +kernel
theorem dX9_worthOf_48 : decode cX9_worthOf 48 = .ok (.iload_n 2, 1) := by decide +kernel
theorem dX9_worthOf_49 : decode cX9_worthOf 49 = .ok (.bipush 6, 2) := by decide +kernel
theorem dX9_worthOf_51 : decode cX9_worthOf 51 = .ok (.iadd, 1) := by decide +kernel
theorem dX9_worthOf_52 : decode cX9_worthOf 52 = .ok (.ireturn, 1) := by decide +kernel
theorem dX9_worthOf_53 : decode cX9_worthOf 53 = .ok (.bipush 99, 2) := by decide +kernel
theorem dX9_worthOf_55 : decode cX9_worthOf 55 = .ok (.iload_n 2, 1) := by decide +kernel
theorem dX9_worthOf_56 : decode cX9_worthOf 56 = .ok (.isub, 1) := by decide +kernel
theorem dX9_worthOf_57 : decode cX9_worthOf 57 = .ok (.ireturn, 1) := by decide +kernel
theorem dX9_worthOf_58 : decode cX9_worthOf 58 = .ok (.iconst 2, 1) := by decide +kernel
theorem dX9_worthOf_59 : decode cX9_worthOf 59 = .ok (.iload_n 2, 1) := by decide +kernel
theorem dX9_worthOf_60 : decode cX9_worthOf 60 = .ok (.bipush 6, 2) := by decide +kernel
theorem dX9_worthOf_62 : decode cX9_worthOf 62 = .ok (.iadd, 1) := by decide +kernel
theorem dX9_worthOf_63 : decode cX9_worthOf 63 = .ok (.imul, 1) := by decide +kernel
theorem dX9_worthOf_64 : decode cX9_worthOf 64 = .ok (.ireturn, 1) := by decide +kernel
theorem dX9_worthOf_65 : decode cX9_worthOf 65 = .ok (.bipush 91, 2) := by decide +kernel
theorem dX9_worthOf_67 : decode cX9_worthOf 67 = .ok (.iload_n 2, 1) := by decide +kernel
theorem dX9_worthOf_68 : decode cX9_worthOf 68 = .ok (.isub, 1) := by decide +kernel
theorem dX9_worthOf_69 : decode cX9_worthOf 69 = .ok (.ireturn, 1) := by decide +kernel
theorem dX9_worthOf_70 : decode cX9_worthOf 70 = .ok (.iconst 5, 1) := by decide +kernel
theorem dX9_worthOf_71 : decode cX9_worthOf 71 = .ok (.ireturn, 1) := by decide +kernel
theorem dX9_worthOf_72 : decode cX9_worthOf 72 = .ok (.iload_n 2, 1) := by decide +kernel
theorem dX9_worthOf_73 : decode cX9_worthOf 73 = .ok (.ireturn, 1) := by decide +kernel
theorem dX9_told_0 : decode cX9_told 0 = .ok (.aload_n 0, 1) := by decide +kernel
theorem dX9_told_1 : decode cX9_told 1 = .ok (.iload_n 1, 1) := by decide +kernel
theorem dX9_told_2 : decode cX9_told 2 = .ok (.invokevirtual 93, 3) := by decide +kernel
theorem dX9_told_5 : decode cX9_told 5 = .ok (.ifCond .eq 13, 3) := by decide +kernel
theorem dX9_told_8 : decode cX9_told 8 = .ok (.iload_n 2, 1) := by decide +kernel
theorem dX9_told_9 : decode cX9_told 9 = .ok (.iconst 0, 1) := by decide +kernel
theorem dX9_told_10 : decode cX9_told 10 = .ok (.bipush 6, 2) := by decide +kernel
theorem dX9_told_12 : decode cX9_told 12 = .ok (.invokestatic 75, 3) := by decide +kernel
theorem dX9_told_15 : decode cX9_told 15 = .ok (.ifCond .ne 6, 3) := by decide +kernel
theorem dX9_told_18 : decode cX9_told 18 = .ok (.ldc 83, 2) := by decide +kernel
theorem dX9_told_20 : decode cX9_told 20 = .ok (.ireturn, 1) := by decide +kernel
theorem dX9_told_21 : decode cX9_told 21 = .ok (.iload_n 2, 1) := by decide +kernel
theorem dX9_told_22 : decode cX9_told 22 = .ok (.iconst 5, 1) := by decide +kernel
theorem dX9_told_23 : decode cX9_told 23 = .ok (.if_icmp .ge 12, 3) := by decide +kernel
theorem dX9_told_26 : decode cX9_told 26 = .ok (.aload_n 0, 1) := by decide +kernel
theorem dX9_told_27 : decode cX9_told 27 = .ok (.iload_n 1, 1) := by decide +kernel
theorem dX9_told_28 : decode cX9_told 28 = .ok (.iload_n 2, 1) := by decide +kernel
theorem dX9_told_29 : decode cX9_told 29 = .ok (.invokevirtual 89, 3) := by decide +kernel
theorem dX9_told_32 : decode cX9_told 32 = .ok (.goto 30, 3) := by decide +kernel
theorem dX9_told_35 : decode cX9_told 35 = .ok (.iload_n 2, 1) := by decide +kernel
theorem dX9_told_36 : decode cX9_told 36 = .ok (.bipush 6, 2) := by decide +kernel
theorem dX9_told_38 : decode cX9_told 38 = .ok (.if_icmp .ne 11, 3) := by decide +kernel
theorem dX9_told_41 : decode cX9_told 41 = .ok (.aload_n 0, 1) := by decide +kernel
theorem dX9_told_42 : decode cX9_told 42 = .ok (.iload_n 1, 1) := by decide +kernel
theorem dX9_told_43 : decode cX9_told 43 = .ok (.invokevirtual 97, 3) := by decide +kernel
theorem dX9_told_46 : decode cX9_told 46 = .ok (.goto 16, 3) := by decide +kernel
theorem dX9_told_49 : decode cX9_told 49 = .ok (.aload_n 0, 1) := by decide +kernel
theorem dX9_told_50 : decode cX9_told 50 = .ok (.iload_n 1, 1) := by decide +kernel
theorem dX9_told_51 : decode cX9_told 51 = .ok (.invokevirtual 101, 3) := by decide +kernel
theorem dX9_told_54 : decode cX9_told 54 = .ok (.ifCond .eq 7, 3) := by decide +kernel
theorem dX9_told_57 : decode cX9_told 57 = .ok (.iconst 1, 1) := by decide +kernel
theorem dX9_told_58 : decode cX9_told 58 = .ok (.goto 4, 3) := by decide +kernel
theorem dX9_told_61 : decode cX9_told 61 = .ok (.iconst 0, 1) := by decide +kernel
theorem dX9_told_62 : decode cX9_told 62 = .ok (.ireturn, 1) := by decide +kernel
theorem dX9_givenTo_0 : decode cX9_givenTo 0 = .ok (.aload_n 0, 1) := by decide +kernel
theorem dX9_givenTo_1 : decode cX9_givenTo 1 = .ok (.iconst 0, 1) := by decide +kernel
theorem dX9_givenTo_2 : decode cX9_givenTo 2 = .ok (.invokevirtual 104, 3) := by decide +kernel
theorem dX9_givenTo_5 : decode cX9_givenTo 5 = .ok (.istore 5, 2) := by decide +kernel
theorem dX9_givenTo_7 : decode cX9_givenTo 7 = .ok (.aload_n 0, 1) := by decide +kernel
theorem dX9_givenTo_8 : decode cX9_givenTo 8 = .ok (.getfield 45, 3) := by decide +kernel
theorem dX9_givenTo_11 : decode cX9_givenTo 11 = .ok (.iconst 0, 1) := by decide +kernel
theorem dX9_givenTo_12 : decode cX9_givenTo 12 = .ok (.iload_n 2, 1) := by decide +kernel
theorem dX9_givenTo_13 : decode cX9_givenTo 13 = .ok (.iastore, 1) := by decide +kernel
theorem dX9_givenTo_14 : decode cX9_givenTo 14 = .ok (.aload_n 0, 1) := by decide +kernel
theorem dX9_givenTo_15 : decode cX9_givenTo 15 = .ok (.getfield 45, 3) := by decide +kernel
theorem dX9_givenTo_18 : decode cX9_givenTo 18 = .ok (.iconst 1, 1) := by decide +kernel
theorem dX9_givenTo_19 : decode cX9_givenTo 19 = .ok (.iload 4, 2) := by decide +kernel
theorem dX9_givenTo_21 : decode cX9_givenTo 21 = .ok (.iastore, 1) := by decide +kernel
theorem dX9_givenTo_22 : decode cX9_givenTo 22 = .ok (.aload_n 0, 1) := by decide +kernel
theorem dX9_givenTo_23 : decode cX9_givenTo 23 = .ok (.getfield 45, 3) := by decide +kernel
theorem dX9_givenTo_26 : decode cX9_givenTo 26 = .ok (.iconst 2, 1) := by decide +kernel
theorem dX9_givenTo_27 : decode cX9_givenTo 27 = .ok (.aload_n 0, 1) := by decide +kernel
theorem dX9_givenTo_28 : decode cX9_givenTo 28 = .ok (.iload_n 1, 1) := by decide +kernel
theorem dX9_givenTo_29 : decode cX9_givenTo 29 = .ok (.iconst 2, 1) := by decide +kernel
theorem dX9_givenTo_30 : decode cX9_givenTo 30 = .ok (.invokevirtual 89, 3) := by decide +kernel
theorem dX9_givenTo_33 : decode cX9_givenTo 33 = .ok (.iastore, 1) := by decide +kernel
theorem dX9_givenTo_34 : decode cX9_givenTo 34 = .ok (.iload 5, 2) := by decide +kernel
theorem dX9_givenTo_36 : decode cX9_givenTo 36 = .ok (.ifCond .ge 22, 3) := by decide +kernel
theorem dX9_givenTo_39 : decode cX9_givenTo 39 = .ok (.iload_n 2, 1) := by decide +kernel
theorem dX9_givenTo_40 : decode cX9_givenTo 40 = .ok (.iload 4, 2) := by decide +kernel
theorem dX9_givenTo_42 : decode cX9_givenTo 42 = .ok (.imul, 1) := by decide +kernel
theorem dX9_givenTo_43 : decode cX9_givenTo 43 = .ok (.bipush 9, 2) := by decide +kernel
theorem dX9_givenTo_45 : decode cX9_givenTo 45 = .ok (.idiv, 1) := by decide +kernel
theorem dX9_givenTo_46 : decode cX9_givenTo 46 = .ok (.aload_n 0, 1) := by decide +kernel
theorem dX9_givenTo_47 : decode cX9_givenTo 47 = .ok (.iload_n 1, 1) := by decide +kernel
theorem dX9_givenTo_48 : decode cX9_givenTo 48 = .ok (.iconst 2, 1) := by decide +kernel
theorem dX9_givenTo_49 : decode cX9_givenTo 49 = .ok (.invokevirtual 89, 3) := by decide +kernel
theorem dX9_givenTo_52 : decode cX9_givenTo 52 = .ok (.iconst 5, 1) := by decide +kernel
theorem dX9_givenTo_53 : decode cX9_givenTo 53 = .ok (.idiv, 1) := by decide +kernel
theorem dX9_givenTo_54 : decode cX9_givenTo 54 = .ok (.iadd, 1) := by decide +kernel
theorem dX9_givenTo_55 : decode cX9_givenTo 55 = .ok (.goto 15, 3) := by decide +kernel
theorem dX9_givenTo_58 : decode cX9_givenTo 58 = .ok (.aload_n 0, 1) := by decide +kernel
theorem dX9_givenTo_59 : decode cX9_givenTo 59 = .ok (.iload 5, 2) := by decide +kernel
theorem dX9_givenTo_61 : decode cX9_givenTo 61 = .ok (.invokevirtual 107, 3) := by decide +kernel
theorem dX9_givenTo_64 : decode cX9_givenTo 64 = .ok (.iconst 0, 1) := by decide +kernel
theorem dX9_givenTo_65 : decode cX9_givenTo 65 = .ok (.bipush 99, 2) := by decide +kernel
theorem dX9_givenTo_67 : decode cX9_givenTo 67 = .ok (.invokestatic 110, 3) := by decide +kernel
theorem dX9_givenTo_70 : decode cX9_givenTo 70 = .ok (.istore 6, 2) := by decide +kernel
theorem dX9_givenTo_72 : decode cX9_givenTo 72 = .ok (.aload_n 0, 1) := by decide +kernel
theorem dX9_givenTo_73 : decode cX9_givenTo 73 = .ok (.iload_n 1, 1) := by decide +kernel
theorem dX9_givenTo_74 : decode cX9_givenTo 74 = .ok (.iconst 0, 1) := by decide +kernel
theorem dX9_givenTo_75 : decode cX9_givenTo 75 = .ok (.invokevirtual 89, 3) := by decide +kernel
theorem dX9_givenTo_78 : decode cX9_givenTo 78 = .ok (.tableswitch 124 1 5 #[34, 41, 56, 79, 104], 34) := by decide +kernel
theorem dX9_givenTo_112 : decode cX9_givenTo 112 = .ok (.iload 6, 2) := by decide +kernel
theorem dX9_givenTo_114 : decode cX9_givenTo 114 = .ok (.iload_n 3, 1) := by decide +kernel
theorem dX9_givenTo_115 : decode cX9_givenTo 115 = .ok (.iconst 3, 1) := by decide +kernel
theorem dX9_givenTo_116 : decode cX9_givenTo 116 = .ok (.idiv, 1) := by decide +kernel
theorem dX9_givenTo_117 : decode cX9_givenTo 117 = .ok (.iadd, 1) := by decide +kernel
theorem dX9_givenTo_118 : decode cX9_givenTo 118 = .ok (.ireturn, 1) := by decide +kernel
theorem dX9_givenTo_119 : decode cX9_givenTo 119 = .ok (.iload_n 3, 1) := by decide +kernel
theorem dX9_givenTo_120 : decode cX9_givenTo 120 = .ok (.iconst 5, 1) := by decide +kernel
theorem dX9_givenTo_121 : decode cX9_givenTo 121 = .ok (.if_icmp .ge 8, 3) := by decide +kernel
theorem dX9_givenTo_124 : decode cX9_givenTo 124 = .ok (.iload 6, 2) := by decide +kernel
theorem dX9_givenTo_126 : decode cX9_givenTo 126 = .ok (.goto 7, 3) := by decide +kernel
theorem dX9_givenTo_129 : decode cX9_givenTo 129 = .ok (.iconst 2, 1) := by decide +kernel
theorem dX9_givenTo_130 : decode cX9_givenTo 130 = .ok (.iload 6, 2) := by decide +kernel
theorem dX9_givenTo_132 : decode cX9_givenTo 132 = .ok (.imul, 1) := by decide +kernel
theorem dX9_givenTo_133 : decode cX9_givenTo 133 = .ok (.ireturn, 1) := by decide +kernel
theorem dX9_givenTo_134 : decode cX9_givenTo 134 = .ok (.iload 6, 2) := by decide +kernel
theorem dX9_givenTo_136 : decode cX9_givenTo 136 = .ok (.iload_n 3, 1) := by decide +kernel
theorem dX9_givenTo_137 : decode cX9_givenTo 137 = .ok (.iconst 3, 1) := by decide +kernel
theorem dX9_givenTo_138 : decode cX9_givenTo 138 = .ok (.idiv, 1) := by decide +kernel
theorem dX9_givenTo_139 : decode cX9_givenTo 139 = .ok (.iadd, 1) := by decide +kernel
theorem dX9_givenTo_140 : decode cX9_givenTo 140 = .ok (.aload_n 0, 1) := by decide +kernel
theorem dX9_givenTo_141 : decode cX9_givenTo 141 = .ok (.getfield 9, 3) := by decide +kernel
theorem dX9_givenTo_144 : decode cX9_givenTo 144 = .ok (.iconst 4, 1) := by decide +kernel
theorem dX9_givenTo_145 : decode cX9_givenTo 145 = .ok (.iaload, 1) := by decide +kernel
theorem dX9_givenTo_146 : decode cX9_givenTo 146 = .ok (.iconst 1, 1) := by decide +kernel
theorem dX9_givenTo_147 : decode cX9_givenTo 147 = .ok (.if_icmp .ne 7, 3) := by decide +kernel
theorem dX9_givenTo_150 : decode cX9_givenTo 150 = .ok (.iconst 2, 1) := by decide +kernel
theorem dX9_givenTo_151 : decode cX9_givenTo 151 = .ok (.goto 4, 3) := by decide +kernel
theorem dX9_givenTo_154 : decode cX9_givenTo 154 = .ok (.iconst 1, 1) := by decide +kernel
theorem dX9_givenTo_155 : decode cX9_givenTo 155 = .ok (.idiv, 1) := by decide +kernel
theorem dX9_givenTo_156 : decode cX9_givenTo 156 = .ok (.ireturn, 1) := by decide +kernel
theorem dX9_givenTo_157 : decode cX9_givenTo 157 = .ok (.iload_n 3, 1) := by decide +kernel
theorem dX9_givenTo_158 : decode cX9_givenTo 158 = .ok (.iconst 5, 1) := by decide +kernel
theorem dX9_givenTo_159 : decode cX9_givenTo 159 = .ok (.if_icmp .ge 8, 3) := by decide +kernel
theorem dX9_givenTo_162 : decode cX9_givenTo 162 = .ok (.iload 6, 2) := by decide +kernel
theorem dX9_givenTo_164 : decode cX9_givenTo 164 = .ok (.goto 17, 3) := by decide +kernel
theorem dX9_givenTo_167 : decode cX9_givenTo 167 = .ok (.iload_n 3, 1) := by decide +kernel
theorem dX9_givenTo_168 : decode cX9_givenTo 168 = .ok (.bipush 8, 2) := by decide +kernel
theorem dX9_givenTo_170 : decode cX9_givenTo 170 = .ok (.if_icmp .ge 10, 3) := by decide +kernel
theorem dX9_givenTo_173 : decode cX9_givenTo 173 = .ok (.iconst 2, 1) := by decide +kernel
theorem dX9_givenTo_174 : decode cX9_givenTo 174 = .ok (.iload 6, 2) := by decide +kernel
theorem dX9_givenTo_176 : decode cX9_givenTo 176 = .ok (.imul, 1) := by decide +kernel
theorem dX9_givenTo_177 : decode cX9_givenTo 177 = .ok (.goto 4, 3) := by decide +kernel
theorem dX9_givenTo_180 : decode cX9_givenTo 180 = .ok (.iconst 0, 1) := by decide +kernel
theorem dX9_givenTo_181 : decode cX9_givenTo 181 = .ok (.ireturn, 1) := by decide +kernel
theorem dX9_givenTo_182 : decode cX9_givenTo 182 = .ok (.iload 4, 2) := by decide +kernel
theorem dX9_givenTo_184 : decode cX9_givenTo 184 = .ok (.iconst 3, 1) := by decide +kernel
theorem dX9_givenTo_185 : decode cX9_givenTo 185 = .ok (.if_icmp .lt 8, 3) := by decide +kernel
theorem dX9_givenTo_188 : decode cX9_givenTo 188 = .ok (.iload 6, 2) := by decide +kernel
theorem dX9_givenTo_190 : decode cX9_givenTo 190 = .ok (.ifCond .ne 7, 3) := by decide +kernel
theorem dX9_givenTo_193 : decode cX9_givenTo 193 = .ok (.iconst 0, 1) := by decide +kernel
theorem dX9_givenTo_194 : decode cX9_givenTo 194 = .ok (.goto 7, 3) := by decide +kernel
theorem dX9_givenTo_197 : decode cX9_givenTo 197 = .ok (.iload 6, 2) := by decide +kernel
theorem dX9_givenTo_199 : decode cX9_givenTo 199 = .ok (.iconst 1, 1) := by decide +kernel
theorem dX9_givenTo_200 : decode cX9_givenTo 200 = .ok (.isub, 1) := by decide +kernel
theorem dX9_givenTo_201 : decode cX9_givenTo 201 = .ok (.ireturn, 1) := by decide +kernel
theorem dX9_givenTo_202 : decode cX9_givenTo 202 = .ok (.iload 6, 2) := by decide +kernel
theorem dX9_givenTo_204 : decode cX9_givenTo 204 = .ok (.ireturn, 1) := by decide +kernel
theorem dX9_given_0 : decode cX9_given 0 = .ok (.aload_n 0, 1) := by decide +kernel
theorem dX9_given_1 : decode cX9_given 1 = .ok (.iload_n 1, 1) := by decide +kernel
theorem dX9_given_2 : decode cX9_given 2 = .ok (.invokevirtual 93, 3) := by decide +kernel
theorem dX9_given_5 : decode cX9_given 5 = .ok (.ifCond .eq 46, 3) := by decide +kernel
theorem dX9_given_8 : decode cX9_given 8 = .ok (.iload_n 2, 1) := by decide +kernel
theorem dX9_given_9 : decode cX9_given 9 = .ok (.iconst 1, 1) := by decide +kernel
theorem dX9_given_10 : decode cX9_given 10 = .ok (.bipush 9, 2) := by decide +kernel
theorem dX9_given_12 : decode cX9_given 12 = .ok (.invokestatic 75, 3) := by decide +kernel
theorem dX9_given_15 : decode cX9_given 15 = .ok (.ifCond .eq 36, 3) := by decide +kernel
theorem dX9_given_18 : decode cX9_given 18 = .ok (.iload_n 3, 1) := by decide +kernel
theorem dX9_given_19 : decode cX9_given 19 = .ok (.iconst 0, 1) := by decide +kernel
theorem dX9_given_20 : decode cX9_given 20 = .ok (.bipush 9, 2) := by decide +kernel
theorem dX9_given_22 : decode cX9_given 22 = .ok (.invokestatic 75, 3) := by decide +kernel
theorem dX9_given_25 : decode cX9_given 25 = .ok (.ifCond .eq 26, 3) := by decide +kernel
theorem dX9_given_28 : decode cX9_given 28 = .ok (.iload 4, 2) := by decide +kernel
theorem dX9_given_30 : decode cX9_given 30 = .ok (.iconst 0, 1) := by decide +kernel
theorem dX9_given_31 : decode cX9_given 31 = .ok (.bipush 9, 2) := by decide +kernel
theorem dX9_given_33 : decode cX9_given 33 = .ok (.invokestatic 75, 3) := by decide +kernel
theorem dX9_given_36 : decode cX9_given 36 = .ok (.ifCond .eq 15, 3) := by decide +kernel
theorem dX9_given_39 : decode cX9_given 39 = .ok (.aload_n 0, 1) := by decide +kernel
theorem dX9_given_40 : decode cX9_given 40 = .ok (.iload_n 1, 1) := by decide +kernel
theorem dX9_given_41 : decode cX9_given 41 = .ok (.iload_n 2, 1) := by decide +kernel
theorem dX9_given_42 : decode cX9_given 42 = .ok (.iload_n 3, 1) := by decide +kernel
theorem dX9_given_43 : decode cX9_given 43 = .ok (.iload 4, 2) := by decide +kernel
theorem dX9_given_45 : decode cX9_given 45 = .ok (.invokevirtual 113, 3) := by decide +kernel
theorem dX9_given_48 : decode cX9_given 48 = .ok (.goto 5, 3) := by decide +kernel
theorem dX9_given_51 : decode cX9_given 51 = .ok (.ldc 83, 2) := by decide +kernel
theorem dX9_given_53 : decode cX9_given 53 = .ok (.ireturn, 1) := by decide +kernel
theorem dX9_isUnder_0 : decode cX9_isUnder 0 = .ok (.iload_n 1, 1) := by decide +kernel
theorem dX9_isUnder_1 : decode cX9_isUnder 1 = .ok (.ifCond .eq 28, 3) := by decide +kernel
theorem dX9_isUnder_4 : decode cX9_isUnder 4 = .ok (.iload_n 0, 1) := by decide +kernel
theorem dX9_isUnder_5 : decode cX9_isUnder 5 = .ok (.iload_n 1, 1) := by decide +kernel
theorem dX9_isUnder_6 : decode cX9_isUnder 6 = .ok (.if_icmp .eq 23, 3) := by decide +kernel
theorem dX9_isUnder_9 : decode cX9_isUnder 9 = .ok (.iload_n 1, 1) := by decide +kernel
theorem dX9_isUnder_10 : decode cX9_isUnder 10 = .ok (.iconst 1, 1) := by decide +kernel
theorem dX9_isUnder_11 : decode cX9_isUnder 11 = .ok (.if_icmp .ne 8, 3) := by decide +kernel
theorem dX9_isUnder_14 : decode cX9_isUnder 14 = .ok (.iload_n 0, 1) := by decide +kernel
theorem dX9_isUnder_15 : decode cX9_isUnder 15 = .ok (.iconst 3, 1) := by decide +kernel
theorem dX9_isUnder_16 : decode cX9_isUnder 16 = .ok (.if_icmp .eq 13, 3) := by decide +kernel
theorem dX9_isUnder_19 : decode cX9_isUnder 19 = .ok (.iload_n 1, 1) := by decide +kernel
theorem dX9_isUnder_20 : decode cX9_isUnder 20 = .ok (.iconst 2, 1) := by decide +kernel
theorem dX9_isUnder_21 : decode cX9_isUnder 21 = .ok (.if_icmp .ne 12, 3) := by decide +kernel
theorem dX9_isUnder_24 : decode cX9_isUnder 24 = .ok (.iload_n 0, 1) := by decide +kernel
theorem dX9_isUnder_25 : decode cX9_isUnder 25 = .ok (.iconst 4, 1) := by decide +kernel
theorem dX9_isUnder_26 : decode cX9_isUnder 26 = .ok (.if_icmp .ne 7, 3) := by decide +kernel
theorem dX9_isUnder_29 : decode cX9_isUnder 29 = .ok (.iconst 1, 1) := by decide +kernel
theorem dX9_isUnder_30 : decode cX9_isUnder 30 = .ok (.goto 4, 3) := by decide +kernel
theorem dX9_isUnder_33 : decode cX9_isUnder 33 = .ok (.iconst 0, 1) := by decide +kernel
theorem dX9_isUnder_34 : decode cX9_isUnder 34 = .ok (.ireturn, 1) := by decide +kernel
theorem dX9_as_0 : decode cX9_as 0 = .ok (.aload_n 0, 1) := by decide +kernel
theorem dX9_as_1 : decode cX9_as 1 = .ok (.iload_n 1, 1) := by decide +kernel
theorem dX9_as_2 : decode cX9_as 2 = .ok (.invokevirtual 93, 3) := by decide +kernel
theorem dX9_as_5 : decode cX9_as 5 = .ok (.ifCond .eq 12, 3) := by decide +kernel
theorem dX9_as_8 : decode cX9_as 8 = .ok (.iload_n 2, 1) := by decide +kernel
theorem dX9_as_9 : decode cX9_as 9 = .ok (.iconst 0, 1) := by decide +kernel
theorem dX9_as_10 : decode cX9_as 10 = .ok (.iconst 5, 1) := by decide +kernel
theorem dX9_as_11 : decode cX9_as 11 = .ok (.invokestatic 75, 3) := by decide +kernel
theorem dX9_as_14 : decode cX9_as 14 = .ok (.ifCond .ne 6, 3) := by decide +kernel
theorem dX9_as_17 : decode cX9_as 17 = .ok (.ldc 83, 2) := by decide +kernel
theorem dX9_as_19 : decode cX9_as 19 = .ok (.ireturn, 1) := by decide +kernel
theorem dX9_as_20 : decode cX9_as 20 = .ok (.aload_n 0, 1) := by decide +kernel
theorem dX9_as_21 : decode cX9_as 21 = .ok (.iload_n 1, 1) := by decide +kernel
theorem dX9_as_22 : decode cX9_as 22 = .ok (.iconst 0, 1) := by decide +kernel
theorem dX9_as_23 : decode cX9_as 23 = .ok (.invokevirtual 89, 3) := by decide +kernel
theorem dX9_as_26 : decode cX9_as 26 = .ok (.iload_n 2, 1) := by decide +kernel
theorem dX9_as_27 : decode cX9_as 27 = .ok (.invokestatic 117, 3) := by decide +kernel
theorem dX9_as_30 : decode cX9_as 30 = .ok (.ifCond .eq 12, 3) := by decide +kernel
theorem dX9_as_33 : decode cX9_as 33 = .ok (.aload_n 0, 1) := by decide +kernel
theorem dX9_as_34 : decode cX9_as 34 = .ok (.iload_n 1, 1) := by decide +kernel
theorem dX9_as_35 : decode cX9_as 35 = .ok (.iconst 2, 1) := by decide +kernel
theorem dX9_as_36 : decode cX9_as 36 = .ok (.invokevirtual 89, 3) := by decide +kernel
theorem dX9_as_39 : decode cX9_as 39 = .ok (.goto 5, 3) := by decide +kernel
theorem dX9_as_42 : decode cX9_as 42 = .ok (.ldc 121, 2) := by decide +kernel
theorem dX9_as_44 : decode cX9_as 44 = .ok (.ireturn, 1) := by decide +kernel
theorem dX9_turns_0 : decode cX9_turns 0 = .ok (.aload_n 0, 1) := by decide +kernel
theorem dX9_turns_1 : decode cX9_turns 1 = .ok (.iload_n 1, 1) := by decide +kernel
theorem dX9_turns_2 : decode cX9_turns 2 = .ok (.invokevirtual 93, 3) := by decide +kernel
theorem dX9_turns_5 : decode cX9_turns 5 = .ok (.ifCond .eq 26, 3) := by decide +kernel
theorem dX9_turns_8 : decode cX9_turns 8 = .ok (.iload_n 2, 1) := by decide +kernel
theorem dX9_turns_9 : decode cX9_turns 9 = .ok (.iconst 0, 1) := by decide +kernel
theorem dX9_turns_10 : decode cX9_turns 10 = .ok (.iconst 5, 1) := by decide +kernel
theorem dX9_turns_11 : decode cX9_turns 11 = .ok (.invokestatic 75, 3) := by decide +kernel
theorem dX9_turns_14 : decode cX9_turns 14 = .ok (.ifCond .eq 17, 3) := by decide +kernel
theorem dX9_turns_17 : decode cX9_turns 17 = .ok (.aload_n 0, 1) := by decide +kernel
theorem dX9_turns_18 : decode cX9_turns 18 = .ok (.bipush 16, 2) := by decide +kernel
theorem dX9_turns_20 : decode cX9_turns 20 = .ok (.iconst 5, 1) := by decide +kernel
theorem dX9_turns_21 : decode cX9_turns 21 = .ok (.iload_n 1, 1) := by decide +kernel
theorem dX9_turns_22 : decode cX9_turns 22 = .ok (.imul, 1) := by decide +kernel
theorem dX9_turns_23 : decode cX9_turns 23 = .ok (.iadd, 1) := by decide +kernel
theorem dX9_turns_24 : decode cX9_turns 24 = .ok (.iload_n 2, 1) := by decide +kernel
theorem dX9_turns_25 : decode cX9_turns 25 = .ok (.invokevirtual 122, 3) := by decide +kernel
theorem dX9_turns_28 : decode cX9_turns 28 = .ok (.goto 5, 3) := by decide +kernel
theorem dX9_turns_31 : decode cX9_turns 31 = .ok (.ldc 83, 2) := by decide +kernel
theorem dX9_turns_33 : decode cX9_turns 33 = .ok (.ireturn, 1) := by decide +kernel
theorem dX9_set_0 : decode cX9_set 0 = .ok (.aload_n 0, 1) := by decide +kernel
theorem dX9_set_1 : decode cX9_set 1 = .ok (.iload_n 1, 1) := by decide +kernel
theorem dX9_set_2 : decode cX9_set 2 = .ok (.invokevirtual 93, 3) := by decide +kernel
theorem dX9_set_5 : decode cX9_set 5 = .ok (.ifCond .eq 48, 3) := by decide +kernel
theorem dX9_set_8 : decode cX9_set 8 = .ok (.iload_n 2, 1) := by decide +kernel
theorem dX9_set_9 : decode cX9_set 9 = .ok (.iconst 1, 1) := by decide +kernel
theorem dX9_set_10 : decode cX9_set 10 = .ok (.iconst 2, 1) := by decide +kernel
theorem dX9_set_11 : decode cX9_set 11 = .ok (.invokestatic 75, 3) := by decide +kernel
theorem dX9_set_14 : decode cX9_set 14 = .ok (.ifCond .eq 39, 3) := by decide +kernel
theorem dX9_set_17 : decode cX9_set 17 = .ok (.iload_n 3, 1) := by decide +kernel
theorem dX9_set_18 : decode cX9_set 18 = .ok (.iconst 0, 1) := by decide +kernel
theorem dX9_set_19 : decode cX9_set 19 = .ok (.iload_n 2, 1) := by decide +kernel
theorem dX9_set_20 : decode cX9_set 20 = .ok (.iconst 1, 1) := by decide +kernel
theorem dX9_set_21 : decode cX9_set 21 = .ok (.if_icmp .ne 8, 3) := by decide +kernel
theorem dX9_set_24 : decode cX9_set 24 = .ok (.bipush 8, 2) := by decide +kernel
theorem dX9_set_26 : decode cX9_set 26 = .ok (.goto 5, 3) := by decide +kernel
theorem dX9_set_29 : decode cX9_set 29 = .ok (.bipush 20, 2) := by decide +kernel
theorem dX9_set_31 : decode cX9_set 31 = .ok (.invokestatic 75, 3) := by decide +kernel
theorem dX9_set_34 : decode cX9_set 34 = .ok (.ifCond .eq 19, 3) := by decide +kernel
theorem dX9_set_37 : decode cX9_set 37 = .ok (.aload_n 0, 1) := by decide +kernel
theorem dX9_set_38 : decode cX9_set 38 = .ok (.bipush 16, 2) := by decide +kernel
theorem dX9_set_40 : decode cX9_set 40 = .ok (.iconst 5, 1) := by decide +kernel
theorem dX9_set_41 : decode cX9_set 41 = .ok (.iload_n 1, 1) := by decide +kernel
theorem dX9_set_42 : decode cX9_set 42 = .ok (.imul, 1) := by decide +kernel
theorem dX9_set_43 : decode cX9_set 43 = .ok (.iadd, 1) := by decide +kernel
theorem dX9_set_44 : decode cX9_set 44 = .ok (.iload_n 2, 1) := by decide +kernel
theorem dX9_set_45 : decode cX9_set 45 = .ok (.iadd, 1) := by decide +kernel
theorem dX9_set_46 : decode cX9_set 46 = .ok (.iload_n 3, 1) := by decide +kernel
theorem dX9_set_47 : decode cX9_set 47 = .ok (.invokevirtual 122, 3) := by decide +kernel
theorem dX9_set_50 : decode cX9_set 50 = .ok (.goto 5, 3) := by decide +kernel
theorem dX9_set_53 : decode cX9_set 53 = .ok (.ldc 83, 2) := by decide +kernel
theorem dX9_set_55 : decode cX9_set 55 = .ok (.ireturn, 1) := by decide +kernel
theorem dX9_rent_0 : decode cX9_rent 0 = .ok (.iload_n 1, 1) := by decide +kernel
theorem dX9_rent_1 : decode cX9_rent 1 = .ok (.invokestatic 125, 3) := by decide +kernel
theorem dX9_rent_4 : decode cX9_rent 4 = .ok (.ifCond .eq 25, 3) := by decide +kernel
theorem dX9_rent_7 : decode cX9_rent 7 = .ok (.iload_n 2, 1) := by decide +kernel
theorem dX9_rent_8 : decode cX9_rent 8 = .ok (.iconst 0, 1) := by decide +kernel
theorem dX9_rent_9 : decode cX9_rent 9 = .ok (.bipush 9, 2) := by decide +kernel
theorem dX9_rent_11 : decode cX9_rent 11 = .ok (.invokestatic 75, 3) := by decide +kernel
theorem dX9_rent_14 : decode cX9_rent 14 = .ok (.ifCond .eq 15, 3) := by decide +kernel
theorem dX9_rent_17 : decode cX9_rent 17 = .ok (.aload_n 0, 1) := by decide +kernel
theorem dX9_rent_18 : decode cX9_rent 18 = .ok (.bipush 8, 2) := by decide +kernel
theorem dX9_rent_20 : decode cX9_rent 20 = .ok (.iload_n 1, 1) := by decide +kernel
theorem dX9_rent_21 : decode cX9_rent 21 = .ok (.iadd, 1) := by decide +kernel
theorem dX9_rent_22 : decode cX9_rent 22 = .ok (.iload_n 2, 1) := by decide +kernel
theorem dX9_rent_23 : decode cX9_rent 23 = .ok (.invokevirtual 122, 3) := by decide +kernel
theorem dX9_rent_26 : decode cX9_rent 26 = .ok (.goto 5, 3) := by decide +kernel
theorem dX9_rent_29 : decode cX9_rent 29 = .ok (.ldc 83, 2) := by decide +kernel
theorem dX9_rent_31 : decode cX9_rent 31 = .ok (.ireturn, 1) := by decide +kernel
theorem dX9_rule_0 : decode cX9_rule 0 = .ok (.iload_n 1, 1) := by decide +kernel
theorem dX9_rule_1 : decode cX9_rule 1 = .ok (.iconst 0, 1) := by decide +kernel
theorem dX9_rule_2 : decode cX9_rule 2 = .ok (.iconst 2, 1) := by decide +kernel
theorem dX9_rule_3 : decode cX9_rule 3 = .ok (.invokestatic 75, 3) := by decide +kernel
theorem dX9_rule_6 : decode cX9_rule 6 = .ok (.ifCond .eq 42, 3) := by decide +kernel
theorem dX9_rule_9 : decode cX9_rule 9 = .ok (.iload_n 2, 1) := by decide +kernel
theorem dX9_rule_10 : decode cX9_rule 10 = .ok (.iconst 0, 1) := by decide +kernel
theorem dX9_rule_11 : decode cX9_rule 11 = .ok (.iload_n 1, 1) := by decide +kernel
theorem dX9_rule_12 : decode cX9_rule 12 = .ok (.ifCond .ne 8, 3) := by decide +kernel
theorem dX9_rule_15 : decode cX9_rule 15 = .ok (.bipush 100, 2) := by decide +kernel
theorem dX9_rule_17 : decode cX9_rule 17 = .ok (.goto 14, 3) := by decide +kernel
theorem dX9_rule_20 : decode cX9_rule 20 = .ok (.iload_n 1, 1) := by decide +kernel
theorem dX9_rule_21 : decode cX9_rule 21 = .ok (.iconst 1, 1) := by decide +kernel
theorem dX9_rule_22 : decode cX9_rule 22 = .ok (.if_icmp .ne 7, 3) := by decide +kernel
theorem dX9_rule_25 : decode cX9_rule 25 = .ok (.iconst 1, 1) := by decide +kernel
theorem dX9_rule_26 : decode cX9_rule 26 = .ok (.goto 5, 3) := by decide +kernel
theorem dX9_rule_29 : decode cX9_rule 29 = .ok (.bipush 8, 2) := by decide +kernel
theorem dX9_rule_31 : decode cX9_rule 31 = .ok (.invokestatic 75, 3) := by decide +kernel
theorem dX9_rule_34 : decode cX9_rule 34 = .ok (.ifCond .eq 14, 3) := by decide +kernel
theorem dX9_rule_37 : decode cX9_rule 37 = .ok (.aload_n 0, 1) := by decide +kernel
theorem dX9_rule_38 : decode cX9_rule 38 = .ok (.iconst 3, 1) := by decide +kernel
theorem dX9_rule_39 : decode cX9_rule 39 = .ok (.iload_n 1, 1) := by decide +kernel
theorem dX9_rule_40 : decode cX9_rule 40 = .ok (.iadd, 1) := by decide +kernel
theorem dX9_rule_41 : decode cX9_rule 41 = .ok (.iload_n 2, 1) := by decide +kernel
theorem dX9_rule_42 : decode cX9_rule 42 = .ok (.invokevirtual 122, 3) := by decide +kernel
theorem dX9_rule_45 : decode cX9_rule 45 = .ok (.goto 5, 3) := by decide +kernel
theorem dX9_rule_48 : decode cX9_rule 48 = .ok (.ldc 83, 2) := by decide +kernel
theorem dX9_rule_50 : decode cX9_rule 50 = .ok (.ireturn, 1) := by decide +kernel
theorem dX9_draw_0 : decode cX9_draw 0 = .ok (.aload_n 0, 1) := by decide +kernel
theorem dX9_draw_1 : decode cX9_draw 1 = .ok (.getfield 9, 3) := by decide +kernel
theorem dX9_draw_4 : decode cX9_draw 4 = .ok (.iconst 0, 1) := by decide +kernel
theorem dX9_draw_5 : decode cX9_draw 5 = .ok (.aload_n 0, 1) := by decide +kernel
theorem dX9_draw_6 : decode cX9_draw 6 = .ok (.getfield 9, 3) := by decide +kernel
theorem dX9_draw_9 : decode cX9_draw 9 = .ok (.iconst 0, 1) := by decide +kernel
theorem dX9_draw_10 : decode cX9_draw 10 = .ok (.iaload, 1) := by decide +kernel
theorem dX9_draw_11 : decode cX9_draw 11 = .ok (.ldc 128, 2) := by decide +kernel
theorem dX9_draw_13 : decode cX9_draw 13 = .ok (.imul, 1) := by decide +kernel
theorem dX9_draw_14 : decode cX9_draw 14 = .ok (.sipush 12345, 3) := by decide +kernel
theorem dX9_draw_17 : decode cX9_draw 17 = .ok (.iadd, 1) := by decide +kernel
theorem dX9_draw_18 : decode cX9_draw 18 = .ok (.iastore, 1) := by decide +kernel
theorem dX9_draw_19 : decode cX9_draw 19 = .ok (.aload_n 0, 1) := by decide +kernel
theorem dX9_draw_20 : decode cX9_draw 20 = .ok (.getfield 9, 3) := by decide +kernel
theorem dX9_draw_23 : decode cX9_draw 23 = .ok (.iconst 0, 1) := by decide +kernel
theorem dX9_draw_24 : decode cX9_draw 24 = .ok (.iaload, 1) := by decide +kernel
theorem dX9_draw_25 : decode cX9_draw 25 = .ok (.bipush 8, 2) := by decide +kernel
theorem dX9_draw_27 : decode cX9_draw 27 = .ok (.iushr, 1) := by decide +kernel
theorem dX9_draw_28 : decode cX9_draw 28 = .ok (.ireturn, 1) := by decide +kernel
theorem dX9_deal_0 : decode cX9_deal 0 = .ok (.iload_n 1, 1) := by decide +kernel
theorem dX9_deal_1 : decode cX9_deal 1 = .ok (.iconst 1, 1) := by decide +kernel
theorem dX9_deal_2 : decode cX9_deal 2 = .ok (.bipush 8, 2) := by decide +kernel
theorem dX9_deal_4 : decode cX9_deal 4 = .ok (.invokestatic 75, 3) := by decide +kernel
theorem dX9_deal_7 : decode cX9_deal 7 = .ok (.ifCond .ne 6, 3) := by decide +kernel
theorem dX9_deal_10 : decode cX9_deal 10 = .ok (.ldc 83, 2) := by decide +kernel
theorem dX9_deal_12 : decode cX9_deal 12 = .ok (.ireturn, 1) := by decide +kernel
theorem dX9_deal_13 : decode cX9_deal 13 = .ok (.iconst 0, 1) := by decide +kernel
theorem dX9_deal_14 : decode cX9_deal 14 = .ok (.istore_n 2, 1) := by decide +kernel
theorem dX9_deal_15 : decode cX9_deal 15 = .ok (.iload_n 2, 1) := by decide +kernel
theorem dX9_deal_16 : decode cX9_deal 16 = .ok (.iload_n 1, 1) := by decide +kernel
theorem dX9_deal_17 : decode cX9_deal 17 = .ok (.if_icmp .ge 53, 3) := by decide +kernel
theorem dX9_deal_20 : decode cX9_deal 20 = .ok (.aload_n 0, 1) := by decide +kernel
theorem dX9_deal_21 : decode cX9_deal 21 = .ok (.getfield 9, 3) := by decide +kernel
theorem dX9_deal_24 : decode cX9_deal 24 = .ok (.iconst 1, 1) := by decide +kernel
theorem dX9_deal_25 : decode cX9_deal 25 = .ok (.iaload, 1) := by decide +kernel
theorem dX9_deal_26 : decode cX9_deal 26 = .ok (.bipush 8, 2) := by decide +kernel
theorem dX9_deal_28 : decode cX9_deal 28 = .ok (.if_icmp .ge 42, 3) := by decide +kernel
theorem dX9_deal_31 : decode cX9_deal 31 = .ok (.aload_n 0, 1) := by decide +kernel
theorem dX9_deal_32 : decode cX9_deal 32 = .ok (.invokevirtual 129, 3) := by decide +kernel
theorem dX9_deal_35 : decode cX9_deal 35 = .ok (.bipush 6, 2) := by decide +kernel
theorem dX9_deal_37 : decode cX9_deal 37 = .ok (.irem, 1) := by decide +kernel
theorem dX9_deal_38 : decode cX9_deal 38 = .ok (.istore_n 3, 1) := by decide +kernel
theorem dX9_deal_39 : decode cX9_deal 39 = .ok (.aload_n 0, 1) := by decide +kernel
theorem dX9_deal_40 : decode cX9_deal 40 = .ok (.invokevirtual 129, 3) := by decide +kernel
theorem dX9_deal_43 : decode cX9_deal 43 = .ok (.bipush 9, 2) := by decide +kernel
theorem dX9_deal_45 : decode cX9_deal 45 = .ok (.irem, 1) := by decide +kernel
theorem dX9_deal_46 : decode cX9_deal 46 = .ok (.istore 4, 2) := by decide +kernel
theorem dX9_deal_48 : decode cX9_deal 48 = .ok (.aload_n 0, 1) := by decide +kernel
theorem dX9_deal_49 : decode cX9_deal 49 = .ok (.iload_n 3, 1) := by decide +kernel
theorem dX9_deal_50 : decode cX9_deal 50 = .ok (.iload 4, 2) := by decide +kernel
theorem dX9_deal_52 : decode cX9_deal 52 = .ok (.aload_n 0, 1) := by decide +kernel
theorem dX9_deal_53 : decode cX9_deal 53 = .ok (.invokevirtual 129, 3) := by decide +kernel
theorem dX9_deal_56 : decode cX9_deal 56 = .ok (.bipush 21, 2) := by decide +kernel
theorem dX9_deal_58 : decode cX9_deal 58 = .ok (.irem, 1) := by decide +kernel
theorem dX9_deal_59 : decode cX9_deal 59 = .ok (.invokevirtual 85, 3) := by decide +kernel
theorem dX9_deal_62 : decode cX9_deal 62 = .ok (.istore 5, 2) := by decide +kernel
theorem dX9_deal_64 : decode cX9_deal 64 = .ok (.iinc 2 1, 3) := by decide +kernel
theorem dX9_deal_67 : decode cX9_deal 67 = .ok (.goto (-52), 3) := by decide +kernel
theorem dX9_deal_70 : decode cX9_deal 70 = .ok (.iload_n 2, 1) := by decide +kernel
theorem dX9_deal_71 : decode cX9_deal 71 = .ok (.ireturn, 1) := by decide +kernel
theorem dX9_seed_0 : decode cX9_seed 0 = .ok (.aload_n 0, 1) := by decide +kernel
theorem dX9_seed_1 : decode cX9_seed 1 = .ok (.iconst 0, 1) := by decide +kernel
theorem dX9_seed_2 : decode cX9_seed 2 = .ok (.iload_n 1, 1) := by decide +kernel
theorem dX9_seed_3 : decode cX9_seed 3 = .ok (.invokevirtual 122, 3) := by decide +kernel
theorem dX9_seed_6 : decode cX9_seed 6 = .ok (.ireturn, 1) := by decide +kernel
theorem dX9_passes_0 : decode cX9_passes 0 = .ok (.bipush 9, 2) := by decide +kernel
theorem dX9_passes_2 : decode cX9_passes 2 = .ok (.istore 5, 2) := by decide +kernel
theorem dX9_passes_4 : decode cX9_passes 4 = .ok (.iload_n 1, 1) := by decide +kernel
theorem dX9_passes_5 : decode cX9_passes 5 = .ok (.iload_n 2, 1) := by decide +kernel
theorem dX9_passes_6 : decode cX9_passes 6 = .ok (.if_icmp .ge 7, 3) := by decide +kernel
theorem dX9_passes_9 : decode cX9_passes 9 = .ok (.iconst 1, 1) := by decide +kernel
theorem dX9_passes_10 : decode cX9_passes 10 = .ok (.goto 4, 3) := by decide +kernel
theorem dX9_passes_13 : decode cX9_passes 13 = .ok (.iconst (-1), 1) := by decide +kernel
theorem dX9_passes_14 : decode cX9_passes 14 = .ok (.istore 6, 2) := by decide +kernel
theorem dX9_passes_16 : decode cX9_passes 16 = .ok (.iload_n 1, 1) := by decide +kernel
theorem dX9_passes_17 : decode cX9_passes 17 = .ok (.istore 7, 2) := by decide +kernel
theorem dX9_passes_19 : decode cX9_passes 19 = .ok (.iload 7, 2) := by decide +kernel
theorem dX9_passes_21 : decode cX9_passes 21 = .ok (.iload_n 2, 1) := by decide +kernel
theorem dX9_passes_22 : decode cX9_passes 22 = .ok (.iload 6, 2) := by decide +kernel
theorem dX9_passes_24 : decode cX9_passes 24 = .ok (.iadd, 1) := by decide +kernel
theorem dX9_passes_25 : decode cX9_passes 25 = .ok (.if_icmp .eq 112, 3) := by decide +kernel
theorem dX9_passes_28 : decode cX9_passes 28 = .ok (.iconst 0, 1) := by decide +kernel
theorem dX9_passes_29 : decode cX9_passes 29 = .ok (.istore 8, 2) := by decide +kernel
theorem dX9_passes_31 : decode cX9_passes 31 = .ok (.iload 8, 2) := by decide +kernel
theorem dX9_passes_33 : decode cX9_passes 33 = .ok (.aload_n 0, 1) := by decide +kernel
theorem dX9_passes_34 : decode cX9_passes 34 = .ok (.getfield 9, 3) := by decide +kernel
theorem dX9_passes_37 : decode cX9_passes 37 = .ok (.iconst 1, 1) := by decide +kernel
theorem dX9_passes_38 : decode cX9_passes 38 = .ok (.iaload, 1) := by decide +kernel
theorem dX9_passes_39 : decode cX9_passes 39 = .ok (.if_icmp .ge 88, 3) := by decide +kernel
theorem dX9_passes_42 : decode cX9_passes 42 = .ok (.aload_n 0, 1) := by decide +kernel
theorem dX9_passes_43 : decode cX9_passes 43 = .ok (.iload 8, 2) := by decide +kernel
theorem dX9_passes_45 : decode cX9_passes 45 = .ok (.iconst 1, 1) := by decide +kernel
theorem dX9_passes_46 : decode cX9_passes 46 = .ok (.invokevirtual 89, 3) := by decide +kernel
theorem dX9_passes_49 : decode cX9_passes 49 = .ok (.iload 7, 2) := by decide +kernel
theorem dX9_passes_51 : decode cX9_passes 51 = .ok (.if_icmp .ne 17, 3) := by decide +kernel
theorem dX9_passes_54 : decode cX9_passes 54 = .ok (.aload_n 0, 1) := by decide +kernel
theorem dX9_passes_55 : decode cX9_passes 55 = .ok (.iload 8, 2) := by decide +kernel
theorem dX9_passes_57 : decode cX9_passes 57 = .ok (.iload_n 3, 1) := by decide +kernel
theorem dX9_passes_58 : decode cX9_passes 58 = .ok (.iload 4, 2) := by decide +kernel
theorem dX9_passes_60 : decode cX9_passes 60 = .ok (.iload 5, 2) := by decide +kernel
theorem dX9_passes_62 : decode cX9_passes 62 = .ok (.invokevirtual 113, 3) := by decide +kernel
theorem dX9_passes_65 : decode cX9_passes 65 = .ok (.goto 4, 3) := by decide +kernel
theorem dX9_passes_68 : decode cX9_passes 68 = .ok (.iconst 0, 1) := by decide +kernel
theorem dX9_passes_69 : decode cX9_passes 69 = .ok (.istore 9, 2) := by decide +kernel
theorem dX9_passes_71 : decode cX9_passes 71 = .ok (.iload 9, 2) := by decide +kernel
theorem dX9_passes_73 : decode cX9_passes 73 = .ok (.ifCond .le 48, 3) := by decide +kernel
theorem dX9_passes_76 : decode cX9_passes 76 = .ok (.aload_n 0, 1) := by decide +kernel
theorem dX9_passes_77 : decode cX9_passes 77 = .ok (.iload 8, 2) := by decide +kernel
theorem dX9_passes_79 : decode cX9_passes 79 = .ok (.iconst 3, 1) := by decide +kernel
theorem dX9_passes_80 : decode cX9_passes 80 = .ok (.aload_n 0, 1) := by decide +kernel
theorem dX9_passes_81 : decode cX9_passes 81 = .ok (.iload 8, 2) := by decide +kernel
theorem dX9_passes_83 : decode cX9_passes 83 = .ok (.iconst 3, 1) := by decide +kernel
theorem dX9_passes_84 : decode cX9_passes 84 = .ok (.invokevirtual 89, 3) := by decide +kernel
theorem dX9_passes_87 : decode cX9_passes 87 = .ok (.iload 9, 2) := by decide +kernel
theorem dX9_passes_89 : decode cX9_passes 89 = .ok (.iadd, 1) := by decide +kernel
theorem dX9_passes_90 : decode cX9_passes 90 = .ok (.invokevirtual 79, 3) := by decide +kernel
theorem dX9_passes_93 : decode cX9_passes 93 = .ok (.aload_n 0, 1) := by decide +kernel
theorem dX9_passes_94 : decode cX9_passes 94 = .ok (.iload 8, 2) := by decide +kernel
theorem dX9_passes_96 : decode cX9_passes 96 = .ok (.iconst 4, 1) := by decide +kernel
theorem dX9_passes_97 : decode cX9_passes 97 = .ok (.aload_n 0, 1) := by decide +kernel
theorem dX9_passes_98 : decode cX9_passes 98 = .ok (.iload 8, 2) := by decide +kernel
theorem dX9_passes_100 : decode cX9_passes 100 = .ok (.iconst 4, 1) := by decide +kernel
theorem dX9_passes_101 : decode cX9_passes 101 = .ok (.invokevirtual 89, 3) := by decide +kernel
theorem dX9_passes_104 : decode cX9_passes 104 = .ok (.iconst 1, 1) := by decide +kernel
theorem dX9_passes_105 : decode cX9_passes 105 = .ok (.iadd, 1) := by decide +kernel
theorem dX9_passes_106 : decode cX9_passes 106 = .ok (.invokevirtual 79, 3) := by decide +kernel
theorem dX9_passes_109 : decode cX9_passes 109 = .ok (.iload 5, 2) := by decide +kernel
theorem dX9_passes_111 : decode cX9_passes 111 = .ok (.iconst 3, 1) := by decide +kernel
theorem dX9_passes_112 : decode cX9_passes 112 = .ok (.isub, 1) := by decide +kernel
theorem dX9_passes_113 : decode cX9_passes 113 = .ok (.iconst 0, 1) := by decide +kernel
theorem dX9_passes_114 : decode cX9_passes 114 = .ok (.bipush 9, 2) := by decide +kernel
theorem dX9_passes_116 : decode cX9_passes 116 = .ok (.invokestatic 110, 3) := by decide +kernel
theorem dX9_passes_119 : decode cX9_passes 119 = .ok (.istore 5, 2) := by decide +kernel
theorem dX9_passes_121 : decode cX9_passes 121 = .ok (.iinc 8 1, 3) := by decide +kernel
theorem dX9_passes_124 : decode cX9_passes 124 = .ok (.goto (-93), 3) := by decide +kernel
theorem dX9_passes_127 : decode cX9_passes 127 = .ok (.iload 7, 2) := by decide +kernel
theorem dX9_passes_129 : decode cX9_passes 129 = .ok (.iload 6, 2) := by decide +kernel
theorem dX9_passes_131 : decode cX9_passes 131 = .ok (.iadd, 1) := by decide +kernel
theorem dX9_passes_132 : decode cX9_passes 132 = .ok (.istore 7, 2) := by decide +kernel
theorem dX9_passes_134 : decode cX9_passes 134 = .ok (.goto (-115), 3) := by decide +kernel
theorem dX9_passes_137 : decode cX9_passes 137 = .ok (.return_, 1) := by decide +kernel
theorem dX9_hour_0 : decode cX9_hour 0 = .ok (.aload_n 0, 1) := by decide +kernel
theorem dX9_hour_1 : decode cX9_hour 1 = .ok (.invokevirtual 129, 3) := by decide +kernel
theorem dX9_hour_4 : decode cX9_hour 4 = .ok (.bipush 100, 2) := by decide +kernel
theorem dX9_hour_6 : decode cX9_hour 6 = .ok (.irem, 1) := by decide +kernel
theorem dX9_hour_7 : decode cX9_hour 7 = .ok (.aload_n 0, 1) := by decide +kernel
theorem dX9_hour_8 : decode cX9_hour 8 = .ok (.getfield 9, 3) := by decide +kernel
theorem dX9_hour_11 : decode cX9_hour 11 = .ok (.iconst 3, 1) := by decide +kernel
theorem dX9_hour_12 : decode cX9_hour 12 = .ok (.iaload, 1) := by decide +kernel
theorem dX9_hour_13 : decode cX9_hour 13 = .ok (.if_icmp .ge 17, 3) := by decide +kernel
theorem dX9_hour_16 : decode cX9_hour 16 = .ok (.aload_n 0, 1) := by decide +kernel
theorem dX9_hour_17 : decode cX9_hour 17 = .ok (.getfield 9, 3) := by decide +kernel
theorem dX9_hour_20 : decode cX9_hour 20 = .ok (.iconst 4, 1) := by decide +kernel
theorem dX9_hour_21 : decode cX9_hour 21 = .ok (.iconst 1, 1) := by decide +kernel
theorem dX9_hour_22 : decode cX9_hour 22 = .ok (.aload_n 0, 1) := by decide +kernel
theorem dX9_hour_23 : decode cX9_hour 23 = .ok (.getfield 9, 3) := by decide +kernel
theorem dX9_hour_26 : decode cX9_hour 26 = .ok (.iconst 4, 1) := by decide +kernel
theorem dX9_hour_27 : decode cX9_hour 27 = .ok (.iaload, 1) := by decide +kernel
theorem dX9_hour_28 : decode cX9_hour 28 = .ok (.isub, 1) := by decide +kernel
theorem dX9_hour_29 : decode cX9_hour 29 = .ok (.iastore, 1) := by decide +kernel
theorem dX9_hour_30 : decode cX9_hour 30 = .ok (.iconst 0, 1) := by decide +kernel
theorem dX9_hour_31 : decode cX9_hour 31 = .ok (.istore_n 1, 1) := by decide +kernel
theorem dX9_hour_32 : decode cX9_hour 32 = .ok (.iload_n 1, 1) := by decide +kernel
theorem dX9_hour_33 : decode cX9_hour 33 = .ok (.aload_n 0, 1) := by decide +kernel
theorem dX9_hour_34 : decode cX9_hour 34 = .ok (.getfield 9, 3) := by decide +kernel
theorem dX9_hour_37 : decode cX9_hour 37 = .ok (.iconst 1, 1) := by decide +kernel
theorem dX9_hour_38 : decode cX9_hour 38 = .ok (.iaload, 1) := by decide +kernel
theorem dX9_hour_39 : decode cX9_hour 39 = .ok (.if_icmp .ge 64, 3) := by decide +kernel
theorem dX9_hour_42 : decode cX9_hour 42 = .ok (.aload_n 0, 1) := by decide +kernel
theorem dX9_hour_43 : decode cX9_hour 43 = .ok (.iload_n 1, 1) := by decide +kernel
theorem dX9_hour_44 : decode cX9_hour 44 = .ok (.iconst 1, 1) := by decide +kernel
theorem dX9_hour_45 : decode cX9_hour 45 = .ok (.invokevirtual 89, 3) := by decide +kernel
theorem dX9_hour_48 : decode cX9_hour 48 = .ok (.bipush 8, 2) := by decide +kernel
theorem dX9_hour_50 : decode cX9_hour 50 = .ok (.if_icmp .ne 7, 3) := by decide +kernel
theorem dX9_hour_53 : decode cX9_hour 53 = .ok (.iconst 0, 1) := by decide +kernel
theorem dX9_hour_54 : decode cX9_hour 54 = .ok (.goto 17, 3) := by decide +kernel
theorem dX9_hour_57 : decode cX9_hour 57 = .ok (.aload_n 0, 1) := by decide +kernel
theorem dX9_hour_58 : decode cX9_hour 58 = .ok (.getfield 9, 3) := by decide +kernel
theorem dX9_hour_61 : decode cX9_hour 61 = .ok (.bipush 8, 2) := by decide +kernel
theorem dX9_hour_63 : decode cX9_hour 63 = .ok (.aload_n 0, 1) := by decide +kernel
theorem dX9_hour_64 : decode cX9_hour 64 = .ok (.iload_n 1, 1) := by decide +kernel
theorem dX9_hour_65 : decode cX9_hour 65 = .ok (.iconst 1, 1) := by decide +kernel
theorem dX9_hour_66 : decode cX9_hour 66 = .ok (.invokevirtual 89, 3) := by decide +kernel
theorem dX9_hour_69 : decode cX9_hour 69 = .ok (.iadd, 1) := by decide +kernel
theorem dX9_hour_70 : decode cX9_hour 70 = .ok (.iaload, 1) := by decide +kernel
theorem dX9_hour_71 : decode cX9_hour 71 = .ok (.istore_n 2, 1) := by decide +kernel
theorem dX9_hour_72 : decode cX9_hour 72 = .ok (.aload_n 0, 1) := by decide +kernel
theorem dX9_hour_73 : decode cX9_hour 73 = .ok (.iload_n 1, 1) := by decide +kernel
theorem dX9_hour_74 : decode cX9_hour 74 = .ok (.iconst 3, 1) := by decide +kernel
theorem dX9_hour_75 : decode cX9_hour 75 = .ok (.aload_n 0, 1) := by decide +kernel
theorem dX9_hour_76 : decode cX9_hour 76 = .ok (.iload_n 1, 1) := by decide +kernel
theorem dX9_hour_77 : decode cX9_hour 77 = .ok (.iconst 3, 1) := by decide +kernel
theorem dX9_hour_78 : decode cX9_hour 78 = .ok (.invokevirtual 89, 3) := by decide +kernel
theorem dX9_hour_81 : decode cX9_hour 81 = .ok (.iload_n 2, 1) := by decide +kernel
theorem dX9_hour_82 : decode cX9_hour 82 = .ok (.isub, 1) := by decide +kernel
theorem dX9_hour_83 : decode cX9_hour 83 = .ok (.invokevirtual 79, 3) := by decide +kernel
theorem dX9_hour_86 : decode cX9_hour 86 = .ok (.aload_n 0, 1) := by decide +kernel
theorem dX9_hour_87 : decode cX9_hour 87 = .ok (.getfield 9, 3) := by decide +kernel
theorem dX9_hour_90 : decode cX9_hour 90 = .ok (.bipush 6, 2) := by decide +kernel
theorem dX9_hour_92 : decode cX9_hour 92 = .ok (.dup2, 1) := by decide +kernel
theorem dX9_hour_93 : decode cX9_hour 93 = .ok (.iaload, 1) := by decide +kernel
theorem dX9_hour_94 : decode cX9_hour 94 = .ok (.iload_n 2, 1) := by decide +kernel
theorem dX9_hour_95 : decode cX9_hour 95 = .ok (.iadd, 1) := by decide +kernel
theorem dX9_hour_96 : decode cX9_hour 96 = .ok (.iastore, 1) := by decide +kernel
theorem dX9_hour_97 : decode cX9_hour 97 = .ok (.iinc 1 1, 3) := by decide +kernel
theorem dX9_hour_100 : decode cX9_hour 100 = .ok (.goto (-68), 3) := by decide +kernel
theorem dX9_hour_103 : decode cX9_hour 103 = .ok (.aload_n 0, 1) := by decide +kernel
theorem dX9_hour_104 : decode cX9_hour 104 = .ok (.getfield 9, 3) := by decide +kernel
theorem dX9_hour_107 : decode cX9_hour 107 = .ok (.iconst 4, 1) := by decide +kernel
theorem dX9_hour_108 : decode cX9_hour 108 = .ok (.iaload, 1) := by decide +kernel
theorem dX9_hour_109 : decode cX9_hour 109 = .ok (.istore_n 1, 1) := by decide +kernel
theorem dX9_hour_110 : decode cX9_hour 110 = .ok (.iload_n 1, 1) := by decide +kernel
theorem dX9_hour_111 : decode cX9_hour 111 = .ok (.iconst 3, 1) := by decide +kernel
theorem dX9_hour_112 : decode cX9_hour 112 = .ok (.if_icmp .ge 51, 3) := by decide +kernel
theorem dX9_hour_115 : decode cX9_hour 115 = .ok (.aload_n 0, 1) := by decide +kernel
theorem dX9_hour_116 : decode cX9_hour 116 = .ok (.invokevirtual 129, 3) := by decide +kernel
theorem dX9_hour_119 : decode cX9_hour 119 = .ok (.bipush 8, 2) := by decide +kernel
theorem dX9_hour_121 : decode cX9_hour 121 = .ok (.irem, 1) := by decide +kernel
theorem dX9_hour_122 : decode cX9_hour 122 = .ok (.istore_n 2, 1) := by decide +kernel
theorem dX9_hour_123 : decode cX9_hour 123 = .ok (.aload_n 0, 1) := by decide +kernel
theorem dX9_hour_124 : decode cX9_hour 124 = .ok (.invokevirtual 129, 3) := by decide +kernel
theorem dX9_hour_127 : decode cX9_hour 127 = .ok (.bipush 8, 2) := by decide +kernel
theorem dX9_hour_129 : decode cX9_hour 129 = .ok (.irem, 1) := by decide +kernel
theorem dX9_hour_130 : decode cX9_hour 130 = .ok (.istore_n 3, 1) := by decide +kernel
theorem dX9_hour_131 : decode cX9_hour 131 = .ok (.iconst 1, 1) := by decide +kernel
theorem dX9_hour_132 : decode cX9_hour 132 = .ok (.aload_n 0, 1) := by decide +kernel
theorem dX9_hour_133 : decode cX9_hour 133 = .ok (.invokevirtual 129, 3) := by decide +kernel
theorem dX9_hour_136 : decode cX9_hour 136 = .ok (.bipush 9, 2) := by decide +kernel
theorem dX9_hour_138 : decode cX9_hour 138 = .ok (.irem, 1) := by decide +kernel
theorem dX9_hour_139 : decode cX9_hour 139 = .ok (.iadd, 1) := by decide +kernel
theorem dX9_hour_140 : decode cX9_hour 140 = .ok (.istore 4, 2) := by decide +kernel
theorem dX9_hour_142 : decode cX9_hour 142 = .ok (.aload_n 0, 1) := by decide +kernel
theorem dX9_hour_143 : decode cX9_hour 143 = .ok (.iload_n 2, 1) := by decide +kernel
theorem dX9_hour_144 : decode cX9_hour 144 = .ok (.iload_n 3, 1) := by decide +kernel
theorem dX9_hour_145 : decode cX9_hour 145 = .ok (.iload 4, 2) := by decide +kernel
theorem dX9_hour_147 : decode cX9_hour 147 = .ok (.aload_n 0, 1) := by decide +kernel
theorem dX9_hour_148 : decode cX9_hour 148 = .ok (.invokevirtual 129, 3) := by decide +kernel
theorem dX9_hour_151 : decode cX9_hour 151 = .ok (.bipush 10, 2) := by decide +kernel
theorem dX9_hour_153 : decode cX9_hour 153 = .ok (.irem, 1) := by decide +kernel
theorem dX9_hour_154 : decode cX9_hour 154 = .ok (.invokevirtual 133, 3) := by decide +kernel
theorem dX9_hour_157 : decode cX9_hour 157 = .ok (.iinc 1 1, 3) := by decide +kernel
theorem dX9_hour_160 : decode cX9_hour 160 = .ok (.goto (-50), 3) := by decide +kernel
theorem dX9_hour_163 : decode cX9_hour 163 = .ok (.aload_n 0, 1) := by decide +kernel
theorem dX9_hour_164 : decode cX9_hour 164 = .ok (.getfield 9, 3) := by decide +kernel
theorem dX9_hour_167 : decode cX9_hour 167 = .ok (.iconst 5, 1) := by decide +kernel
theorem dX9_hour_168 : decode cX9_hour 168 = .ok (.iaload, 1) := by decide +kernel
theorem dX9_hour_169 : decode cX9_hour 169 = .ok (.bipush 8, 2) := by decide +kernel
theorem dX9_hour_171 : decode cX9_hour 171 = .ok (.if_icmp .eq 23, 3) := by decide +kernel
theorem dX9_hour_174 : decode cX9_hour 174 = .ok (.aload_n 0, 1) := by decide +kernel
theorem dX9_hour_175 : decode cX9_hour 175 = .ok (.aload_n 0, 1) := by decide +kernel
theorem dX9_hour_176 : decode cX9_hour 176 = .ok (.getfield 9, 3) := by decide +kernel
theorem dX9_hour_179 : decode cX9_hour 179 = .ok (.iconst 5, 1) := by decide +kernel
theorem dX9_hour_180 : decode cX9_hour 180 = .ok (.iaload, 1) := by decide +kernel
theorem dX9_hour_181 : decode cX9_hour 181 = .ok (.aload_n 0, 1) := by decide +kernel
theorem dX9_hour_182 : decode cX9_hour 182 = .ok (.getfield 9, 3) := by decide +kernel
theorem dX9_hour_185 : decode cX9_hour 185 = .ok (.iconst 5, 1) := by decide +kernel
theorem dX9_hour_186 : decode cX9_hour 186 = .ok (.iaload, 1) := by decide +kernel
theorem dX9_hour_187 : decode cX9_hour 187 = .ok (.bipush 9, 2) := by decide +kernel
theorem dX9_hour_189 : decode cX9_hour 189 = .ok (.bipush 9, 2) := by decide +kernel
theorem dX9_hour_191 : decode cX9_hour 191 = .ok (.invokevirtual 133, 3) := by decide +kernel
theorem dX9_hour_194 : decode cX9_hour 194 = .ok (.aload_n 0, 1) := by decide +kernel
theorem dX9_hour_195 : decode cX9_hour 195 = .ok (.getfield 9, 3) := by decide +kernel
theorem dX9_hour_198 : decode cX9_hour 198 = .ok (.iconst 2, 1) := by decide +kernel
theorem dX9_hour_199 : decode cX9_hour 199 = .ok (.dup2, 1) := by decide +kernel
theorem dX9_hour_200 : decode cX9_hour 200 = .ok (.iaload, 1) := by decide +kernel
theorem dX9_hour_201 : decode cX9_hour 201 = .ok (.iconst 1, 1) := by decide +kernel
theorem dX9_hour_202 : decode cX9_hour 202 = .ok (.iadd, 1) := by decide +kernel
theorem dX9_hour_203 : decode cX9_hour 203 = .ok (.iastore, 1) := by decide +kernel
theorem dX9_hour_204 : decode cX9_hour 204 = .ok (.return_, 1) := by decide +kernel
theorem dX9_goesOn_0 : decode cX9_goesOn 0 = .ok (.iconst 0, 1) := by decide +kernel
theorem dX9_goesOn_1 : decode cX9_goesOn 1 = .ok (.istore_n 2, 1) := by decide +kernel
theorem dX9_goesOn_2 : decode cX9_goesOn 2 = .ok (.iload_n 2, 1) := by decide +kernel
theorem dX9_goesOn_3 : decode cX9_goesOn 3 = .ok (.iload_n 1, 1) := by decide +kernel
theorem dX9_goesOn_4 : decode cX9_goesOn 4 = .ok (.if_icmp .ge 13, 3) := by decide +kernel
theorem dX9_goesOn_7 : decode cX9_goesOn 7 = .ok (.aload_n 0, 1) := by decide +kernel
theorem dX9_goesOn_8 : decode cX9_goesOn 8 = .ok (.invokevirtual 137, 3) := by decide +kernel
theorem dX9_goesOn_11 : decode cX9_goesOn 11 = .ok (.iinc 2 1, 3) := by decide +kernel
theorem dX9_goesOn_14 : decode cX9_goesOn 14 = .ok (.goto (-12), 3) := by decide +kernel
theorem dX9_goesOn_17 : decode cX9_goesOn 17 = .ok (.return_, 1) := by decide +kernel
theorem dX9_sumOf_0 : decode cX9_sumOf 0 = .ok (.iconst 0, 1) := by decide +kernel
theorem dX9_sumOf_1 : decode cX9_sumOf 1 = .ok (.istore_n 2, 1) := by decide +kernel
theorem dX9_sumOf_2 : decode cX9_sumOf 2 = .ok (.iconst 0, 1) := by decide +kernel
theorem dX9_sumOf_3 : decode cX9_sumOf 3 = .ok (.istore_n 3, 1) := by decide +kernel
theorem dX9_sumOf_4 : decode cX9_sumOf 4 = .ok (.iload_n 3, 1) := by decide +kernel
theorem dX9_sumOf_5 : decode cX9_sumOf 5 = .ok (.aload_n 0, 1) := by decide +kernel
theorem dX9_sumOf_6 : decode cX9_sumOf 6 = .ok (.getfield 9, 3) := by decide +kernel
theorem dX9_sumOf_9 : decode cX9_sumOf 9 = .ok (.iconst 1, 1) := by decide +kernel
theorem dX9_sumOf_10 : decode cX9_sumOf 10 = .ok (.iaload, 1) := by decide +kernel
theorem dX9_sumOf_11 : decode cX9_sumOf 11 = .ok (.if_icmp .ge 18, 3) := by decide +kernel
theorem dX9_sumOf_14 : decode cX9_sumOf 14 = .ok (.iload_n 2, 1) := by decide +kernel
theorem dX9_sumOf_15 : decode cX9_sumOf 15 = .ok (.aload_n 0, 1) := by decide +kernel
theorem dX9_sumOf_16 : decode cX9_sumOf 16 = .ok (.iload_n 3, 1) := by decide +kernel
theorem dX9_sumOf_17 : decode cX9_sumOf 17 = .ok (.iload_n 1, 1) := by decide +kernel
theorem dX9_sumOf_18 : decode cX9_sumOf 18 = .ok (.invokevirtual 89, 3) := by decide +kernel
theorem dX9_sumOf_21 : decode cX9_sumOf 21 = .ok (.iadd, 1) := by decide +kernel
theorem dX9_sumOf_22 : decode cX9_sumOf 22 = .ok (.istore_n 2, 1) := by decide +kernel
theorem dX9_sumOf_23 : decode cX9_sumOf 23 = .ok (.iinc 3 1, 3) := by decide +kernel
theorem dX9_sumOf_26 : decode cX9_sumOf 26 = .ok (.goto (-22), 3) := by decide +kernel
theorem dX9_sumOf_29 : decode cX9_sumOf 29 = .ok (.iload_n 2, 1) := by decide +kernel
theorem dX9_sumOf_30 : decode cX9_sumOf 30 = .ok (.ireturn, 1) := by decide +kernel
theorem dX9_hours_0 : decode cX9_hours 0 = .ok (.iload_n 1, 1) := by decide +kernel
theorem dX9_hours_1 : decode cX9_hours 1 = .ok (.iconst 1, 1) := by decide +kernel
theorem dX9_hours_2 : decode cX9_hours 2 = .ok (.bipush 100, 2) := by decide +kernel
theorem dX9_hours_4 : decode cX9_hours 4 = .ok (.invokestatic 75, 3) := by decide +kernel
theorem dX9_hours_7 : decode cX9_hours 7 = .ok (.ifCond .ne 6, 3) := by decide +kernel
theorem dX9_hours_10 : decode cX9_hours 10 = .ok (.ldc 83, 2) := by decide +kernel
theorem dX9_hours_12 : decode cX9_hours 12 = .ok (.ireturn, 1) := by decide +kernel
theorem dX9_hours_13 : decode cX9_hours 13 = .ok (.aload_n 0, 1) := by decide +kernel
theorem dX9_hours_14 : decode cX9_hours 14 = .ok (.iconst 4, 1) := by decide +kernel
theorem dX9_hours_15 : decode cX9_hours 15 = .ok (.invokevirtual 140, 3) := by decide +kernel
theorem dX9_hours_18 : decode cX9_hours 18 = .ok (.istore_n 2, 1) := by decide +kernel
theorem dX9_hours_19 : decode cX9_hours 19 = .ok (.aload_n 0, 1) := by decide +kernel
theorem dX9_hours_20 : decode cX9_hours 20 = .ok (.sipush 9999, 3) := by decide +kernel
theorem dX9_hours_23 : decode cX9_hours 23 = .ok (.aload_n 0, 1) := by decide +kernel
theorem dX9_hours_24 : decode cX9_hours 24 = .ok (.getfield 9, 3) := by decide +kernel
theorem dX9_hours_27 : decode cX9_hours 27 = .ok (.iconst 2, 1) := by decide +kernel
theorem dX9_hours_28 : decode cX9_hours 28 = .ok (.iaload, 1) := by decide +kernel
theorem dX9_hours_29 : decode cX9_hours 29 = .ok (.isub, 1) := by decide +kernel
theorem dX9_hours_30 : decode cX9_hours 30 = .ok (.iconst 0, 1) := by decide +kernel
theorem dX9_hours_31 : decode cX9_hours 31 = .ok (.iload_n 1, 1) := by decide +kernel
theorem dX9_hours_32 : decode cX9_hours 32 = .ok (.invokestatic 110, 3) := by decide +kernel
theorem dX9_hours_35 : decode cX9_hours 35 = .ok (.invokevirtual 143, 3) := by decide +kernel
theorem dX9_hours_38 : decode cX9_hours 38 = .ok (.aload_n 0, 1) := by decide +kernel
theorem dX9_hours_39 : decode cX9_hours 39 = .ok (.iconst 4, 1) := by decide +kernel
theorem dX9_hours_40 : decode cX9_hours 40 = .ok (.invokevirtual 140, 3) := by decide +kernel
theorem dX9_hours_43 : decode cX9_hours 43 = .ok (.iload_n 2, 1) := by decide +kernel
theorem dX9_hours_44 : decode cX9_hours 44 = .ok (.isub, 1) := by decide +kernel
theorem dX9_hours_45 : decode cX9_hours 45 = .ok (.ireturn, 1) := by decide +kernel
theorem dX9_against_0 : decode cX9_against 0 = .ok (.iconst 0, 1) := by decide +kernel
theorem dX9_against_1 : decode cX9_against 1 = .ok (.istore_n 1, 1) := by decide +kernel
theorem dX9_against_2 : decode cX9_against 2 = .ok (.iconst 0, 1) := by decide +kernel
theorem dX9_against_3 : decode cX9_against 3 = .ok (.istore_n 2, 1) := by decide +kernel
theorem dX9_against_4 : decode cX9_against 4 = .ok (.iload_n 2, 1) := by decide +kernel
theorem dX9_against_5 : decode cX9_against 5 = .ok (.aload_n 0, 1) := by decide +kernel
theorem dX9_against_6 : decode cX9_against 6 = .ok (.getfield 9, 3) := by decide +kernel
theorem dX9_against_9 : decode cX9_against 9 = .ok (.iconst 1, 1) := by decide +kernel
theorem dX9_against_10 : decode cX9_against 10 = .ok (.iaload, 1) := by decide +kernel
theorem dX9_against_11 : decode cX9_against 11 = .ok (.if_icmp .ge 27, 3) := by decide +kernel
theorem dX9_against_14 : decode cX9_against 14 = .ok (.iload_n 1, 1) := by decide +kernel
theorem dX9_against_15 : decode cX9_against 15 = .ok (.aload_n 0, 1) := by decide +kernel
theorem dX9_against_16 : decode cX9_against 16 = .ok (.iload_n 2, 1) := by decide +kernel
theorem dX9_against_17 : decode cX9_against 17 = .ok (.invokevirtual 101, 3) := by decide +kernel
theorem dX9_against_20 : decode cX9_against 20 = .ok (.ifCond .eq 9, 3) := by decide +kernel
theorem dX9_against_23 : decode cX9_against 23 = .ok (.iconst 1, 1) := by decide +kernel
theorem dX9_against_24 : decode cX9_against 24 = .ok (.iload_n 2, 1) := by decide +kernel
theorem dX9_against_25 : decode cX9_against 25 = .ok (.ishl, 1) := by decide +kernel
theorem dX9_against_26 : decode cX9_against 26 = .ok (.goto 4, 3) := by decide +kernel
theorem dX9_against_29 : decode cX9_against 29 = .ok (.iconst 0, 1) := by decide +kernel
theorem dX9_against_30 : decode cX9_against 30 = .ok (.ior, 1) := by decide +kernel
theorem dX9_against_31 : decode cX9_against 31 = .ok (.istore_n 1, 1) := by decide +kernel
theorem dX9_against_32 : decode cX9_against 32 = .ok (.iinc 2 1, 3) := by decide +kernel
theorem dX9_against_35 : decode cX9_against 35 = .ok (.goto (-31), 3) := by decide +kernel
theorem dX9_against_38 : decode cX9_against 38 = .ok (.iload_n 1, 1) := by decide +kernel
theorem dX9_against_39 : decode cX9_against 39 = .ok (.ireturn, 1) := by decide +kernel
theorem dX9_taken_0 : decode cX9_taken 0 = .ok (.iconst 0, 1) := by decide +kernel
theorem dX9_taken_1 : decode cX9_taken 1 = .ok (.istore_n 1, 1) := by decide +kernel
theorem dX9_taken_2 : decode cX9_taken 2 = .ok (.iconst 0, 1) := by decide +kernel
theorem dX9_taken_3 : decode cX9_taken 3 = .ok (.istore_n 2, 1) := by decide +kernel
theorem dX9_taken_4 : decode cX9_taken 4 = .ok (.iload_n 2, 1) := by decide +kernel
theorem dX9_taken_5 : decode cX9_taken 5 = .ok (.aload_n 0, 1) := by decide +kernel
theorem dX9_taken_6 : decode cX9_taken 6 = .ok (.getfield 9, 3) := by decide +kernel
theorem dX9_taken_9 : decode cX9_taken 9 = .ok (.iconst 1, 1) := by decide +kernel
theorem dX9_taken_10 : decode cX9_taken 10 = .ok (.iaload, 1) := by decide +kernel
theorem dX9_taken_11 : decode cX9_taken 11 = .ok (.if_icmp .ge 35, 3) := by decide +kernel
theorem dX9_taken_14 : decode cX9_taken 14 = .ok (.iload_n 1, 1) := by decide +kernel
theorem dX9_taken_15 : decode cX9_taken 15 = .ok (.aload_n 0, 1) := by decide +kernel
theorem dX9_taken_16 : decode cX9_taken 16 = .ok (.iload_n 2, 1) := by decide +kernel
theorem dX9_taken_17 : decode cX9_taken 17 = .ok (.iconst 1, 1) := by decide +kernel
theorem dX9_taken_18 : decode cX9_taken 18 = .ok (.invokevirtual 89, 3) := by decide +kernel
theorem dX9_taken_21 : decode cX9_taken 21 = .ok (.bipush 8, 2) := by decide +kernel
theorem dX9_taken_23 : decode cX9_taken 23 = .ok (.if_icmp .ne 7, 3) := by decide +kernel
theorem dX9_taken_26 : decode cX9_taken 26 = .ok (.iconst 0, 1) := by decide +kernel
theorem dX9_taken_27 : decode cX9_taken 27 = .ok (.goto 11, 3) := by decide +kernel
theorem dX9_taken_30 : decode cX9_taken 30 = .ok (.iconst 1, 1) := by decide +kernel
theorem dX9_taken_31 : decode cX9_taken 31 = .ok (.aload_n 0, 1) := by decide +kernel
theorem dX9_taken_32 : decode cX9_taken 32 = .ok (.iload_n 2, 1) := by decide +kernel
theorem dX9_taken_33 : decode cX9_taken 33 = .ok (.iconst 1, 1) := by decide +kernel
theorem dX9_taken_34 : decode cX9_taken 34 = .ok (.invokevirtual 89, 3) := by decide +kernel
theorem dX9_taken_37 : decode cX9_taken 37 = .ok (.ishl, 1) := by decide +kernel
theorem dX9_taken_38 : decode cX9_taken 38 = .ok (.ior, 1) := by decide +kernel
theorem dX9_taken_39 : decode cX9_taken 39 = .ok (.istore_n 1, 1) := by decide +kernel
theorem dX9_taken_40 : decode cX9_taken 40 = .ok (.iinc 2 1, 3) := by decide +kernel
theorem dX9_taken_43 : decode cX9_taken 43 = .ok (.goto (-39), 3) := by decide +kernel
theorem dX9_taken_46 : decode cX9_taken 46 = .ok (.iload_n 1, 1) := by decide +kernel
theorem dX9_taken_47 : decode cX9_taken 47 = .ok (.ireturn, 1) := by decide +kernel
theorem dX9_guild_0 : decode cX9_guild 0 = .ok (.iload_n 1, 1) := by decide +kernel
theorem dX9_guild_1 : decode cX9_guild 1 = .ok (.tableswitch 65 0 4 #[35, 41, 49, 55, 60], 35) := by decide +kernel
theorem dX9_guild_36 : decode cX9_guild 36 = .ok (.aload_n 0, 1) := by decide +kernel
theorem dX9_guild_37 : decode cX9_guild 37 = .ok (.iconst 3, 1) := by decide +kernel
theorem dX9_guild_38 : decode cX9_guild 38 = .ok (.invokevirtual 140, 3) := by decide +kernel
theorem dX9_guild_41 : decode cX9_guild 41 = .ok (.ireturn, 1) := by decide +kernel
theorem dX9_guild_42 : decode cX9_guild 42 = .ok (.aload_n 0, 1) := by decide +kernel
theorem dX9_guild_43 : decode cX9_guild 43 = .ok (.getfield 9, 3) := by decide +kernel
theorem dX9_guild_46 : decode cX9_guild 46 = .ok (.bipush 6, 2) := by decide +kernel
theorem dX9_guild_48 : decode cX9_guild 48 = .ok (.iaload, 1) := by decide +kernel
theorem dX9_guild_49 : decode cX9_guild 49 = .ok (.ireturn, 1) := by decide +kernel
theorem dX9_guild_50 : decode cX9_guild 50 = .ok (.aload_n 0, 1) := by decide +kernel
theorem dX9_guild_51 : decode cX9_guild 51 = .ok (.iconst 4, 1) := by decide +kernel
theorem dX9_guild_52 : decode cX9_guild 52 = .ok (.invokevirtual 140, 3) := by decide +kernel
theorem dX9_guild_55 : decode cX9_guild 55 = .ok (.ireturn, 1) := by decide +kernel
theorem dX9_guild_56 : decode cX9_guild 56 = .ok (.aload_n 0, 1) := by decide +kernel
theorem dX9_guild_57 : decode cX9_guild 57 = .ok (.invokevirtual 147, 3) := by decide +kernel
theorem dX9_guild_60 : decode cX9_guild 60 = .ok (.ireturn, 1) := by decide +kernel
theorem dX9_guild_61 : decode cX9_guild 61 = .ok (.aload_n 0, 1) := by decide +kernel
theorem dX9_guild_62 : decode cX9_guild 62 = .ok (.invokevirtual 150, 3) := by decide +kernel
theorem dX9_guild_65 : decode cX9_guild 65 = .ok (.ireturn, 1) := by decide +kernel
theorem dX9_guild_66 : decode cX9_guild 66 = .ok (.ldc 83, 2) := by decide +kernel
theorem dX9_guild_68 : decode cX9_guild 68 = .ok (.ireturn, 1) := by decide +kernel
theorem dX9_thinks_0 : decode cX9_thinks 0 = .ok (.iconst 0, 1) := by decide +kernel
theorem dX9_thinks_1 : decode cX9_thinks 1 = .ok (.istore_n 1, 1) := by decide +kernel
theorem dX9_thinks_2 : decode cX9_thinks 2 = .ok (.iload_n 1, 1) := by decide +kernel
theorem dX9_thinks_3 : decode cX9_thinks 3 = .ok (.bipush 61, 2) := by decide +kernel
theorem dX9_thinks_5 : decode cX9_thinks 5 = .ok (.if_icmp .ge 21, 3) := by decide +kernel
theorem dX9_thinks_8 : decode cX9_thinks 8 = .ok (.aload_n 0, 1) := by decide +kernel
theorem dX9_thinks_9 : decode cX9_thinks 9 = .ok (.getfield 19, 3) := by decide +kernel
theorem dX9_thinks_12 : decode cX9_thinks 12 = .ok (.iload_n 1, 1) := by decide +kernel
theorem dX9_thinks_13 : decode cX9_thinks 13 = .ok (.aload_n 0, 1) := by decide +kernel
theorem dX9_thinks_14 : decode cX9_thinks 14 = .ok (.getfield 9, 3) := by decide +kernel
theorem dX9_thinks_17 : decode cX9_thinks 17 = .ok (.iload_n 1, 1) := by decide +kernel
theorem dX9_thinks_18 : decode cX9_thinks 18 = .ok (.iaload, 1) := by decide +kernel
theorem dX9_thinks_19 : decode cX9_thinks 19 = .ok (.iastore, 1) := by decide +kernel
theorem dX9_thinks_20 : decode cX9_thinks 20 = .ok (.iinc 1 1, 3) := by decide +kernel
theorem dX9_thinks_23 : decode cX9_thinks 23 = .ok (.goto (-21), 3) := by decide +kernel
theorem dX9_thinks_26 : decode cX9_thinks 26 = .ok (.return_, 1) := by decide +kernel
theorem dX9_putsBack_0 : decode cX9_putsBack 0 = .ok (.iconst 0, 1) := by decide +kernel
theorem dX9_putsBack_1 : decode cX9_putsBack 1 = .ok (.istore_n 1, 1) := by decide +kernel
theorem dX9_putsBack_2 : decode cX9_putsBack 2 = .ok (.iload_n 1, 1) := by decide +kernel
theorem dX9_putsBack_3 : decode cX9_putsBack 3 = .ok (.bipush 61, 2) := by decide +kernel
theorem dX9_putsBack_5 : decode cX9_putsBack 5 = .ok (.if_icmp .ge 21, 3) := by decide +kernel
theorem dX9_putsBack_8 : decode cX9_putsBack 8 = .ok (.aload_n 0, 1) := by decide +kernel
theorem dX9_putsBack_9 : decode cX9_putsBack 9 = .ok (.getfield 9, 3) := by decide +kernel
theorem dX9_putsBack_12 : decode cX9_putsBack 12 = .ok (.iload_n 1, 1) := by decide +kernel
theorem dX9_putsBack_13 : decode cX9_putsBack 13 = .ok (.aload_n 0, 1) := by decide +kernel
theorem dX9_putsBack_14 : decode cX9_putsBack 14 = .ok (.getfield 19, 3) := by decide +kernel
theorem dX9_putsBack_17 : decode cX9_putsBack 17 = .ok (.iload_n 1, 1) := by decide +kernel
theorem dX9_putsBack_18 : decode cX9_putsBack 18 = .ok (.iaload, 1) := by decide +kernel
theorem dX9_putsBack_19 : decode cX9_putsBack 19 = .ok (.iastore, 1) := by decide +kernel
theorem dX9_putsBack_20 : decode cX9_putsBack 20 = .ok (.iinc 1 1, 3) := by decide +kernel
theorem dX9_putsBack_23 : decode cX9_putsBack 23 = .ok (.goto (-21), 3) := by decide +kernel
theorem dX9_putsBack_26 : decode cX9_putsBack 26 = .ok (.return_, 1) := by decide +kernel
theorem dX9_behind_0 : decode cX9_behind 0 = .ok (.iload_n 1, 1) := by decide +kernel
theorem dX9_behind_1 : decode cX9_behind 1 = .ok (.iconst 0, 1) := by decide +kernel
theorem dX9_behind_2 : decode cX9_behind 2 = .ok (.bipush 100, 2) := by decide +kernel
theorem dX9_behind_4 : decode cX9_behind 4 = .ok (.invokestatic 75, 3) := by decide +kernel
theorem dX9_behind_7 : decode cX9_behind 7 = .ok (.ifCond .eq 22, 3) := by decide +kernel
theorem dX9_behind_10 : decode cX9_behind 10 = .ok (.iload_n 2, 1) := by decide +kernel
theorem dX9_behind_11 : decode cX9_behind 11 = .ok (.ifCond .lt 18, 3) := by decide +kernel
theorem dX9_behind_14 : decode cX9_behind 14 = .ok (.iload_n 2, 1) := by decide +kernel
theorem dX9_behind_15 : decode cX9_behind 15 = .ok (.iconst 2, 1) := by decide +kernel
theorem dX9_behind_16 : decode cX9_behind 16 = .ok (.if_icmp .le 16, 3) := by decide +kernel
theorem dX9_behind_19 : decode cX9_behind 19 = .ok (.aload_n 0, 1) := by decide +kernel
theorem dX9_behind_20 : decode cX9_behind 20 = .ok (.iload_n 2, 1) := by decide +kernel
theorem dX9_behind_21 : decode cX9_behind 21 = .ok (.iconst 3, 1) := by decide +kernel
theorem dX9_behind_22 : decode cX9_behind 22 = .ok (.isub, 1) := by decide +kernel
theorem dX9_behind_23 : decode cX9_behind 23 = .ok (.invokevirtual 93, 3) := by decide +kernel
theorem dX9_behind_26 : decode cX9_behind 26 = .ok (.ifCond .ne 6, 3) := by decide +kernel
theorem dX9_behind_29 : decode cX9_behind 29 = .ok (.ldc 83, 2) := by decide +kernel
theorem dX9_behind_31 : decode cX9_behind 31 = .ok (.ireturn, 1) := by decide +kernel
theorem dX9_behind_32 : decode cX9_behind 32 = .ok (.aload_n 0, 1) := by decide +kernel
theorem dX9_behind_33 : decode cX9_behind 33 = .ok (.invokevirtual 153, 3) := by decide +kernel
theorem dX9_behind_36 : decode cX9_behind 36 = .ok (.aload_n 0, 1) := by decide +kernel
theorem dX9_behind_37 : decode cX9_behind 37 = .ok (.iload_n 1, 1) := by decide +kernel
theorem dX9_behind_38 : decode cX9_behind 38 = .ok (.invokevirtual 143, 3) := by decide +kernel
theorem dX9_behind_41 : decode cX9_behind 41 = .ok (.iload_n 2, 1) := by decide +kernel
theorem dX9_behind_42 : decode cX9_behind 42 = .ok (.iconst 2, 1) := by decide +kernel
theorem dX9_behind_43 : decode cX9_behind 43 = .ok (.if_icmp .le 14, 3) := by decide +kernel
theorem dX9_behind_46 : decode cX9_behind 46 = .ok (.aload_n 0, 1) := by decide +kernel
theorem dX9_behind_47 : decode cX9_behind 47 = .ok (.iload_n 2, 1) := by decide +kernel
theorem dX9_behind_48 : decode cX9_behind 48 = .ok (.iconst 3, 1) := by decide +kernel
theorem dX9_behind_49 : decode cX9_behind 49 = .ok (.isub, 1) := by decide +kernel
theorem dX9_behind_50 : decode cX9_behind 50 = .ok (.iconst 3, 1) := by decide +kernel
theorem dX9_behind_51 : decode cX9_behind 51 = .ok (.invokevirtual 89, 3) := by decide +kernel
theorem dX9_behind_54 : decode cX9_behind 54 = .ok (.goto 8, 3) := by decide +kernel
theorem dX9_behind_57 : decode cX9_behind 57 = .ok (.aload_n 0, 1) := by decide +kernel
theorem dX9_behind_58 : decode cX9_behind 58 = .ok (.iload_n 2, 1) := by decide +kernel
theorem dX9_behind_59 : decode cX9_behind 59 = .ok (.invokevirtual 156, 3) := by decide +kernel
theorem dX9_behind_62 : decode cX9_behind 62 = .ok (.istore_n 3, 1) := by decide +kernel
theorem dX9_behind_63 : decode cX9_behind 63 = .ok (.aload_n 0, 1) := by decide +kernel
theorem dX9_behind_64 : decode cX9_behind 64 = .ok (.invokevirtual 159, 3) := by decide +kernel
theorem dX9_behind_67 : decode cX9_behind 67 = .ok (.iload_n 3, 1) := by decide +kernel
theorem dX9_behind_68 : decode cX9_behind 68 = .ok (.ireturn, 1) := by decide +kernel
theorem dX9_best_0 : decode cX9_best 0 = .ok (.aload_n 0, 1) := by decide +kernel
theorem dX9_best_1 : decode cX9_best 1 = .ok (.iload_n 1, 1) := by decide +kernel
theorem dX9_best_2 : decode cX9_best 2 = .ok (.invokevirtual 93, 3) := by decide +kernel
theorem dX9_best_5 : decode cX9_best 5 = .ok (.ifCond .eq 22, 3) := by decide +kernel
theorem dX9_best_8 : decode cX9_best 8 = .ok (.iload_n 2, 1) := by decide +kernel
theorem dX9_best_9 : decode cX9_best 9 = .ok (.iconst 1, 1) := by decide +kernel
theorem dX9_best_10 : decode cX9_best 10 = .ok (.bipush 40, 2) := by decide +kernel
theorem dX9_best_12 : decode cX9_best 12 = .ok (.invokestatic 75, 3) := by decide +kernel
theorem dX9_best_15 : decode cX9_best 15 = .ok (.ifCond .eq 12, 3) := by decide +kernel
theorem dX9_best_18 : decode cX9_best 18 = .ok (.iload_n 3, 1) := by decide +kernel
theorem dX9_best_19 : decode cX9_best 19 = .ok (.iconst 0, 1) := by decide +kernel
theorem dX9_best_20 : decode cX9_best 20 = .ok (.iconst 1, 1) := by decide +kernel
theorem dX9_best_21 : decode cX9_best 21 = .ok (.invokestatic 75, 3) := by decide +kernel
theorem dX9_best_24 : decode cX9_best 24 = .ok (.ifCond .ne 6, 3) := by decide +kernel
theorem dX9_best_27 : decode cX9_best 27 = .ok (.ldc 83, 2) := by decide +kernel
theorem dX9_best_29 : decode cX9_best 29 = .ok (.ireturn, 1) := by decide +kernel
theorem dX9_best_30 : decode cX9_best 30 = .ok (.aload_n 0, 1) := by decide +kernel
theorem dX9_best_31 : decode cX9_best 31 = .ok (.invokevirtual 153, 3) := by decide +kernel
theorem dX9_best_34 : decode cX9_best 34 = .ok (.iconst (-1), 1) := by decide +kernel
theorem dX9_best_35 : decode cX9_best 35 = .ok (.istore 4, 2) := by decide +kernel
theorem dX9_best_37 : decode cX9_best 37 = .ok (.iconst 0, 1) := by decide +kernel
theorem dX9_best_38 : decode cX9_best 38 = .ok (.istore 5, 2) := by decide +kernel
theorem dX9_best_40 : decode cX9_best 40 = .ok (.iconst 0, 1) := by decide +kernel
theorem dX9_best_41 : decode cX9_best 41 = .ok (.istore 6, 2) := by decide +kernel
theorem dX9_best_43 : decode cX9_best 43 = .ok (.iload 6, 2) := by decide +kernel
theorem dX9_best_45 : decode cX9_best 45 = .ok (.bipush 8, 2) := by decide +kernel
theorem dX9_best_47 : decode cX9_best 47 = .ok (.if_icmp .gt 54, 3) := by decide +kernel
theorem dX9_best_50 : decode cX9_best 50 = .ok (.aload_n 0, 1) := by decide +kernel
theorem dX9_best_51 : decode cX9_best 51 = .ok (.iload_n 1, 1) := by decide +kernel
theorem dX9_best_52 : decode cX9_best 52 = .ok (.iconst 1, 1) := by decide +kernel
theorem dX9_best_53 : decode cX9_best 53 = .ok (.iload 6, 2) := by decide +kernel
theorem dX9_best_55 : decode cX9_best 55 = .ok (.invokevirtual 79, 3) := by decide +kernel
theorem dX9_best_58 : decode cX9_best 58 = .ok (.aload_n 0, 1) := by decide +kernel
theorem dX9_best_59 : decode cX9_best 59 = .ok (.iload_n 2, 1) := by decide +kernel
theorem dX9_best_60 : decode cX9_best 60 = .ok (.invokevirtual 143, 3) := by decide +kernel
theorem dX9_best_63 : decode cX9_best 63 = .ok (.aload_n 0, 1) := by decide +kernel
theorem dX9_best_64 : decode cX9_best 64 = .ok (.iload_n 1, 1) := by decide +kernel
theorem dX9_best_65 : decode cX9_best 65 = .ok (.iconst 3, 1) := by decide +kernel
theorem dX9_best_66 : decode cX9_best 66 = .ok (.invokevirtual 89, 3) := by decide +kernel
theorem dX9_best_69 : decode cX9_best 69 = .ok (.istore 7, 2) := by decide +kernel
theorem dX9_best_71 : decode cX9_best 71 = .ok (.aload_n 0, 1) := by decide +kernel
theorem dX9_best_72 : decode cX9_best 72 = .ok (.invokevirtual 159, 3) := by decide +kernel
theorem dX9_best_75 : decode cX9_best 75 = .ok (.iload 4, 2) := by decide +kernel
theorem dX9_best_77 : decode cX9_best 77 = .ok (.ifCond .lt 10, 3) := by decide +kernel
theorem dX9_best_80 : decode cX9_best 80 = .ok (.iload 7, 2) := by decide +kernel
theorem dX9_best_82 : decode cX9_best 82 = .ok (.iload 5, 2) := by decide +kernel
theorem dX9_best_84 : decode cX9_best 84 = .ok (.if_icmp .le 11, 3) := by decide +kernel
theorem dX9_best_87 : decode cX9_best 87 = .ok (.iload 6, 2) := by decide +kernel
theorem dX9_best_89 : decode cX9_best 89 = .ok (.istore 4, 2) := by decide +kernel
theorem dX9_best_91 : decode cX9_best 91 = .ok (.iload 7, 2) := by decide +kernel
theorem dX9_best_93 : decode cX9_best 93 = .ok (.istore 5, 2) := by decide +kernel
theorem dX9_best_95 : decode cX9_best 95 = .ok (.iinc 6 1, 3) := by decide +kernel
theorem dX9_best_98 : decode cX9_best 98 = .ok (.goto (-55), 3) := by decide +kernel
theorem dX9_best_101 : decode cX9_best 101 = .ok (.iload_n 3, 1) := by decide +kernel
theorem dX9_best_102 : decode cX9_best 102 = .ok (.ifCond .ne 8, 3) := by decide +kernel
theorem dX9_best_105 : decode cX9_best 105 = .ok (.iload 4, 2) := by decide +kernel
theorem dX9_best_107 : decode cX9_best 107 = .ok (.goto 5, 3) := by decide +kernel
theorem dX9_best_110 : decode cX9_best 110 = .ok (.iload 5, 2) := by decide +kernel
theorem dX9_best_112 : decode cX9_best 112 = .ok (.ireturn, 1) := by decide +kernel
theorem dX9_stand_0 : decode cX9_stand 0 = .ok (.iload_n 1, 1) := by decide +kernel
theorem dX9_stand_1 : decode cX9_stand 1 = .ok (.istore_n 3, 1) := by decide +kernel
theorem dX9_stand_2 : decode cX9_stand 2 = .ok (.iload_n 2, 1) := by decide +kernel
theorem dX9_stand_3 : decode cX9_stand 3 = .ok (.iconst 1, 1) := by decide +kernel
theorem dX9_stand_4 : decode cX9_stand 4 = .ok (.isub, 1) := by decide +kernel
theorem dX9_stand_5 : decode cX9_stand 5 = .ok (.istore 4, 2) := by decide +kernel
theorem dX9_stand_7 : decode cX9_stand 7 = .ok (.iload 4, 2) := by decide +kernel
theorem dX9_stand_9 : decode cX9_stand 9 = .ok (.ifCond .lt 25, 3) := by decide +kernel
theorem dX9_stand_12 : decode cX9_stand 12 = .ok (.aload_n 0, 1) := by decide +kernel
theorem dX9_stand_13 : decode cX9_stand 13 = .ok (.iload 4, 2) := by decide +kernel
theorem dX9_stand_15 : decode cX9_stand 15 = .ok (.iconst 1, 1) := by decide +kernel
theorem dX9_stand_16 : decode cX9_stand 16 = .ok (.iload_n 3, 1) := by decide +kernel
theorem dX9_stand_17 : decode cX9_stand 17 = .ok (.bipush 8, 2) := by decide +kernel
theorem dX9_stand_19 : decode cX9_stand 19 = .ok (.irem, 1) := by decide +kernel
theorem dX9_stand_20 : decode cX9_stand 20 = .ok (.invokevirtual 79, 3) := by decide +kernel
theorem dX9_stand_23 : decode cX9_stand 23 = .ok (.iload_n 3, 1) := by decide +kernel
theorem dX9_stand_24 : decode cX9_stand 24 = .ok (.bipush 8, 2) := by decide +kernel
theorem dX9_stand_26 : decode cX9_stand 26 = .ok (.idiv, 1) := by decide +kernel
theorem dX9_stand_27 : decode cX9_stand 27 = .ok (.istore_n 3, 1) := by decide +kernel
theorem dX9_stand_28 : decode cX9_stand 28 = .ok (.iinc 4 (-1), 3) := by decide +kernel
theorem dX9_stand_31 : decode cX9_stand 31 = .ok (.goto (-24), 3) := by decide +kernel
theorem dX9_stand_34 : decode cX9_stand 34 = .ok (.return_, 1) := by decide +kernel
theorem dX9_letting_0 : decode cX9_letting 0 = .ok (.iload_n 1, 1) := by decide +kernel
theorem dX9_letting_1 : decode cX9_letting 1 = .ok (.iconst 1, 1) := by decide +kernel
theorem dX9_letting_2 : decode cX9_letting 2 = .ok (.iconst 4, 1) := by decide +kernel
theorem dX9_letting_3 : decode cX9_letting 3 = .ok (.invokestatic 75, 3) := by decide +kernel
theorem dX9_letting_6 : decode cX9_letting 6 = .ok (.ifCond .eq 12, 3) := by decide +kernel
theorem dX9_letting_9 : decode cX9_letting 9 = .ok (.iload_n 2, 1) := by decide +kernel
theorem dX9_letting_10 : decode cX9_letting 10 = .ok (.iconst 0, 1) := by decide +kernel
theorem dX9_letting_11 : decode cX9_letting 11 = .ok (.iconst 1, 1) := by decide +kernel
theorem dX9_letting_12 : decode cX9_letting 12 = .ok (.invokestatic 75, 3) := by decide +kernel
theorem dX9_letting_15 : decode cX9_letting 15 = .ok (.ifCond .ne 6, 3) := by decide +kernel
theorem dX9_letting_18 : decode cX9_letting 18 = .ok (.ldc 83, 2) := by decide +kernel
theorem dX9_letting_20 : decode cX9_letting 20 = .ok (.ireturn, 1) := by decide +kernel
theorem dX9_letting_21 : decode cX9_letting 21 = .ok (.aload_n 0, 1) := by decide +kernel
theorem dX9_letting_22 : decode cX9_letting 22 = .ok (.invokevirtual 153, 3) := by decide +kernel
theorem dX9_letting_25 : decode cX9_letting 25 = .ok (.aload_n 0, 1) := by decide +kernel
theorem dX9_letting_26 : decode cX9_letting 26 = .ok (.getfield 9, 3) := by decide +kernel
theorem dX9_letting_29 : decode cX9_letting 29 = .ok (.iconst 1, 1) := by decide +kernel
theorem dX9_letting_30 : decode cX9_letting 30 = .ok (.iaload, 1) := by decide +kernel
theorem dX9_letting_31 : decode cX9_letting 31 = .ok (.iconst 3, 1) := by decide +kernel
theorem dX9_letting_32 : decode cX9_letting 32 = .ok (.if_icmp .le 7, 3) := by decide +kernel
theorem dX9_letting_35 : decode cX9_letting 35 = .ok (.iconst 3, 1) := by decide +kernel
theorem dX9_letting_36 : decode cX9_letting 36 = .ok (.goto 9, 3) := by decide +kernel
theorem dX9_letting_39 : decode cX9_letting 39 = .ok (.aload_n 0, 1) := by decide +kernel
theorem dX9_letting_40 : decode cX9_letting 40 = .ok (.getfield 9, 3) := by decide +kernel
theorem dX9_letting_43 : decode cX9_letting 43 = .ok (.iconst 1, 1) := by decide +kernel
theorem dX9_letting_44 : decode cX9_letting 44 = .ok (.iaload, 1) := by decide +kernel
theorem dX9_letting_45 : decode cX9_letting 45 = .ok (.istore_n 3, 1) := by decide +kernel
theorem dX9_letting_46 : decode cX9_letting 46 = .ok (.iload_n 3, 1) := by decide +kernel
theorem dX9_letting_47 : decode cX9_letting 47 = .ok (.ifCond .ne 7, 3) := by decide +kernel
theorem dX9_letting_50 : decode cX9_letting 50 = .ok (.iconst 0, 1) := by decide +kernel
theorem dX9_letting_51 : decode cX9_letting 51 = .ok (.goto 26, 3) := by decide +kernel
theorem dX9_letting_54 : decode cX9_letting 54 = .ok (.iload_n 3, 1) := by decide +kernel
theorem dX9_letting_55 : decode cX9_letting 55 = .ok (.iconst 1, 1) := by decide +kernel
theorem dX9_letting_56 : decode cX9_letting 56 = .ok (.if_icmp .ne 8, 3) := by decide +kernel
theorem dX9_letting_59 : decode cX9_letting 59 = .ok (.bipush 8, 2) := by decide +kernel
theorem dX9_letting_61 : decode cX9_letting 61 = .ok (.goto 16, 3) := by decide +kernel
theorem dX9_letting_64 : decode cX9_letting 64 = .ok (.iload_n 3, 1) := by decide +kernel
theorem dX9_letting_65 : decode cX9_letting 65 = .ok (.iconst 2, 1) := by decide +kernel
theorem dX9_letting_66 : decode cX9_letting 66 = .ok (.if_icmp .ne 8, 3) := by decide +kernel
theorem dX9_letting_69 : decode cX9_letting 69 = .ok (.bipush 64, 2) := by decide +kernel
theorem dX9_letting_71 : decode cX9_letting 71 = .ok (.goto 6, 3) := by decide +kernel
theorem dX9_letting_74 : decode cX9_letting 74 = .ok (.sipush 512, 3) := by decide +kernel
theorem dX9_letting_77 : decode cX9_letting 77 = .ok (.istore 4, 2) := by decide +kernel
theorem dX9_letting_79 : decode cX9_letting 79 = .ok (.iconst (-1), 1) := by decide +kernel
theorem dX9_letting_80 : decode cX9_letting 80 = .ok (.istore 5, 2) := by decide +kernel
theorem dX9_letting_82 : decode cX9_letting 82 = .ok (.iconst 0, 1) := by decide +kernel
theorem dX9_letting_83 : decode cX9_letting 83 = .ok (.istore 6, 2) := by decide +kernel
theorem dX9_letting_85 : decode cX9_letting 85 = .ok (.iconst 0, 1) := by decide +kernel
theorem dX9_letting_86 : decode cX9_letting 86 = .ok (.istore 7, 2) := by decide +kernel
theorem dX9_letting_88 : decode cX9_letting 88 = .ok (.iload 7, 2) := by decide +kernel
theorem dX9_letting_90 : decode cX9_letting 90 = .ok (.iload 4, 2) := by decide +kernel
theorem dX9_letting_92 : decode cX9_letting 92 = .ok (.if_icmp .ge 59, 3) := by decide +kernel
theorem dX9_letting_95 : decode cX9_letting 95 = .ok (.aload_n 0, 1) := by decide +kernel
theorem dX9_letting_96 : decode cX9_letting 96 = .ok (.iload 7, 2) := by decide +kernel
theorem dX9_letting_98 : decode cX9_letting 98 = .ok (.iload_n 3, 1) := by decide +kernel
theorem dX9_letting_99 : decode cX9_letting 99 = .ok (.invokevirtual 162, 3) := by decide +kernel
theorem dX9_letting_102 : decode cX9_letting 102 = .ok (.aload_n 0, 1) := by decide +kernel
theorem dX9_letting_103 : decode cX9_letting 103 = .ok (.invokevirtual 147, 3) := by decide +kernel
theorem dX9_letting_106 : decode cX9_letting 106 = .ok (.ifCond .ne 35, 3) := by decide +kernel
theorem dX9_letting_109 : decode cX9_letting 109 = .ok (.aload_n 0, 1) := by decide +kernel
theorem dX9_letting_110 : decode cX9_letting 110 = .ok (.iload_n 1, 1) := by decide +kernel
theorem dX9_letting_111 : decode cX9_letting 111 = .ok (.invokevirtual 143, 3) := by decide +kernel
theorem dX9_letting_114 : decode cX9_letting 114 = .ok (.aload_n 0, 1) := by decide +kernel
theorem dX9_letting_115 : decode cX9_letting 115 = .ok (.iconst 3, 1) := by decide +kernel
theorem dX9_letting_116 : decode cX9_letting 116 = .ok (.invokevirtual 140, 3) := by decide +kernel
theorem dX9_letting_119 : decode cX9_letting 119 = .ok (.istore 8, 2) := by decide +kernel
theorem dX9_letting_121 : decode cX9_letting 121 = .ok (.iload 5, 2) := by decide +kernel
theorem dX9_letting_123 : decode cX9_letting 123 = .ok (.ifCond .lt 10, 3) := by decide +kernel
theorem dX9_letting_126 : decode cX9_letting 126 = .ok (.iload 8, 2) := by decide +kernel
theorem dX9_letting_128 : decode cX9_letting 128 = .ok (.iload 6, 2) := by decide +kernel
theorem dX9_letting_130 : decode cX9_letting 130 = .ok (.if_icmp .le 11, 3) := by decide +kernel
theorem dX9_letting_133 : decode cX9_letting 133 = .ok (.iload 7, 2) := by decide +kernel
theorem dX9_letting_135 : decode cX9_letting 135 = .ok (.istore 5, 2) := by decide +kernel
theorem dX9_letting_137 : decode cX9_letting 137 = .ok (.iload 8, 2) := by decide +kernel
theorem dX9_letting_139 : decode cX9_letting 139 = .ok (.istore 6, 2) := by decide +kernel
theorem dX9_letting_141 : decode cX9_letting 141 = .ok (.aload_n 0, 1) := by decide +kernel
theorem dX9_letting_142 : decode cX9_letting 142 = .ok (.invokevirtual 159, 3) := by decide +kernel
theorem dX9_letting_145 : decode cX9_letting 145 = .ok (.iinc 7 1, 3) := by decide +kernel
theorem dX9_letting_148 : decode cX9_letting 148 = .ok (.goto (-60), 3) := by decide +kernel
theorem dX9_letting_151 : decode cX9_letting 151 = .ok (.iload 5, 2) := by decide +kernel
theorem dX9_letting_153 : decode cX9_letting 153 = .ok (.ifCond .ge 8, 3) := by decide +kernel
end
section
theorem dX9_letting_156 : decode cX9_letting 156 = .ok (.ldc 166, 2) := by decide +kernel
theorem dX9_letting_158 : decode cX9_letting 158 = .ok (.goto 14, 3) := by decide +kernel
theorem dX9_letting_161 : decode cX9_letting 161 = .ok (.iload_n 2, 1) := by decide +kernel
theorem dX9_letting_162 : decode cX9_letting 162 = .ok (.ifCond .ne 8, 3) := by decide +kernel
theorem dX9_letting_165 : decode cX9_letting 165 = .ok (.iload 5, 2) := by decide +kernel
theorem dX9_letting_167 : decode cX9_letting 167 = .ok (.goto 5, 3) := by decide +kernel
theorem dX9_letting_170 : decode cX9_letting 170 = .ok (.iload 6, 2) := by decide +kernel
theorem dX9_letting_172 : decode cX9_letting 172 = .ok (.ireturn, 1) := by decide +kernel
theorem dX9_takes_0 : decode cX9_takes 0 = .ok (.iload_n 1, 1) := by decide +kernel
theorem dX9_takes_1 : decode cX9_takes 1 = .ok (.iconst 0, 1) := by decide +kernel
theorem dX9_takes_2 : decode cX9_takes 2 = .ok (.iconst 5, 1) := by decide +kernel
theorem dX9_takes_3 : decode cX9_takes 3 = .ok (.invokestatic 75, 3) := by decide +kernel
theorem dX9_takes_6 : decode cX9_takes 6 = .ok (.ifCond .eq 20, 3) := by decide +kernel
theorem dX9_takes_9 : decode cX9_takes 9 = .ok (.iload_n 2, 1) := by decide +kernel
theorem dX9_takes_10 : decode cX9_takes 10 = .ok (.invokestatic 125, 3) := by decide +kernel
theorem dX9_takes_13 : decode cX9_takes 13 = .ok (.ifCond .eq 13, 3) := by decide +kernel
theorem dX9_takes_16 : decode cX9_takes 16 = .ok (.iload_n 3, 1) := by decide +kernel
theorem dX9_takes_17 : decode cX9_takes 17 = .ok (.iconst 1, 1) := by decide +kernel
theorem dX9_takes_18 : decode cX9_takes 18 = .ok (.bipush 60, 2) := by decide +kernel
theorem dX9_takes_20 : decode cX9_takes 20 = .ok (.invokestatic 75, 3) := by decide +kernel
theorem dX9_takes_23 : decode cX9_takes 23 = .ok (.ifCond .ne 6, 3) := by decide +kernel
theorem dX9_takes_26 : decode cX9_takes 26 = .ok (.ldc 83, 2) := by decide +kernel
theorem dX9_takes_28 : decode cX9_takes 28 = .ok (.ireturn, 1) := by decide +kernel
theorem dX9_takes_29 : decode cX9_takes 29 = .ok (.aload_n 0, 1) := by decide +kernel
theorem dX9_takes_30 : decode cX9_takes 30 = .ok (.invokevirtual 153, 3) := by decide +kernel
theorem dX9_takes_33 : decode cX9_takes 33 = .ok (.aload_n 0, 1) := by decide +kernel
theorem dX9_takes_34 : decode cX9_takes 34 = .ok (.iload_n 3, 1) := by decide +kernel
theorem dX9_takes_35 : decode cX9_takes 35 = .ok (.invokevirtual 143, 3) := by decide +kernel
theorem dX9_takes_38 : decode cX9_takes 38 = .ok (.aload_n 0, 1) := by decide +kernel
theorem dX9_takes_39 : decode cX9_takes 39 = .ok (.iconst 3, 1) := by decide +kernel
theorem dX9_takes_40 : decode cX9_takes 40 = .ok (.invokevirtual 140, 3) := by decide +kernel
theorem dX9_takes_43 : decode cX9_takes 43 = .ok (.istore 4, 2) := by decide +kernel
theorem dX9_takes_45 : decode cX9_takes 45 = .ok (.aload_n 0, 1) := by decide +kernel
theorem dX9_takes_46 : decode cX9_takes 46 = .ok (.invokevirtual 159, 3) := by decide +kernel
theorem dX9_takes_49 : decode cX9_takes 49 = .ok (.aload_n 0, 1) := by decide +kernel
theorem dX9_takes_50 : decode cX9_takes 50 = .ok (.iload_n 1, 1) := by decide +kernel
theorem dX9_takes_51 : decode cX9_takes 51 = .ok (.iload_n 2, 1) := by decide +kernel
theorem dX9_takes_52 : decode cX9_takes 52 = .ok (.bipush 10, 2) := by decide +kernel
theorem dX9_takes_54 : decode cX9_takes 54 = .ok (.invokevirtual 85, 3) := by decide +kernel
theorem dX9_takes_57 : decode cX9_takes 57 = .ok (.istore 5, 2) := by decide +kernel
theorem dX9_takes_59 : decode cX9_takes 59 = .ok (.aload_n 0, 1) := by decide +kernel
theorem dX9_takes_60 : decode cX9_takes 60 = .ok (.iload_n 3, 1) := by decide +kernel
theorem dX9_takes_61 : decode cX9_takes 61 = .ok (.invokevirtual 143, 3) := by decide +kernel
theorem dX9_takes_64 : decode cX9_takes 64 = .ok (.aload_n 0, 1) := by decide +kernel
theorem dX9_takes_65 : decode cX9_takes 65 = .ok (.iconst 3, 1) := by decide +kernel
theorem dX9_takes_66 : decode cX9_takes 66 = .ok (.invokevirtual 140, 3) := by decide +kernel
theorem dX9_takes_69 : decode cX9_takes 69 = .ok (.aload_n 0, 1) := by decide +kernel
theorem dX9_takes_70 : decode cX9_takes 70 = .ok (.iload 5, 2) := by decide +kernel
theorem dX9_takes_72 : decode cX9_takes 72 = .ok (.iconst 3, 1) := by decide +kernel
theorem dX9_takes_73 : decode cX9_takes 73 = .ok (.invokevirtual 89, 3) := by decide +kernel
theorem dX9_takes_76 : decode cX9_takes 76 = .ok (.isub, 1) := by decide +kernel
theorem dX9_takes_77 : decode cX9_takes 77 = .ok (.istore 6, 2) := by decide +kernel
theorem dX9_takes_79 : decode cX9_takes 79 = .ok (.aload_n 0, 1) := by decide +kernel
theorem dX9_takes_80 : decode cX9_takes 80 = .ok (.invokevirtual 159, 3) := by decide +kernel
theorem dX9_takes_83 : decode cX9_takes 83 = .ok (.iload 4, 2) := by decide +kernel
theorem dX9_takes_85 : decode cX9_takes 85 = .ok (.iload 6, 2) := by decide +kernel
theorem dX9_takes_87 : decode cX9_takes 87 = .ok (.isub, 1) := by decide +kernel
theorem dX9_takes_88 : decode cX9_takes 88 = .ok (.ireturn, 1) := by decide +kernel
theorem dX9_isOwing_0 : decode cX9_isOwing 0 = .ok (.iconst 0, 1) := by decide +kernel
theorem dX9_isOwing_1 : decode cX9_isOwing 1 = .ok (.istore_n 1, 1) := by decide +kernel
theorem dX9_isOwing_2 : decode cX9_isOwing 2 = .ok (.iload_n 1, 1) := by decide +kernel
theorem dX9_isOwing_3 : decode cX9_isOwing 3 = .ok (.aload_n 0, 1) := by decide +kernel
theorem dX9_isOwing_4 : decode cX9_isOwing 4 = .ok (.getfield 9, 3) := by decide +kernel
theorem dX9_isOwing_7 : decode cX9_isOwing 7 = .ok (.iconst 1, 1) := by decide +kernel
theorem dX9_isOwing_8 : decode cX9_isOwing 8 = .ok (.iaload, 1) := by decide +kernel
theorem dX9_isOwing_9 : decode cX9_isOwing 9 = .ok (.if_icmp .ge 20, 3) := by decide +kernel
theorem dX9_isOwing_12 : decode cX9_isOwing 12 = .ok (.aload_n 0, 1) := by decide +kernel
theorem dX9_isOwing_13 : decode cX9_isOwing 13 = .ok (.iload_n 1, 1) := by decide +kernel
theorem dX9_isOwing_14 : decode cX9_isOwing 14 = .ok (.iconst 3, 1) := by decide +kernel
theorem dX9_isOwing_15 : decode cX9_isOwing 15 = .ok (.invokevirtual 89, 3) := by decide +kernel
theorem dX9_isOwing_18 : decode cX9_isOwing 18 = .ok (.ifCond .ge 5, 3) := by decide +kernel
theorem dX9_isOwing_21 : decode cX9_isOwing 21 = .ok (.iconst 1, 1) := by decide +kernel
theorem dX9_isOwing_22 : decode cX9_isOwing 22 = .ok (.ireturn, 1) := by decide +kernel
theorem dX9_isOwing_23 : decode cX9_isOwing 23 = .ok (.iinc 1 1, 3) := by decide +kernel
theorem dX9_isOwing_26 : decode cX9_isOwing 26 = .ok (.goto (-24), 3) := by decide +kernel
theorem dX9_isOwing_29 : decode cX9_isOwing 29 = .ok (.iconst 0, 1) := by decide +kernel
theorem dX9_isOwing_30 : decode cX9_isOwing 30 = .ok (.ireturn, 1) := by decide +kernel
theorem dX9_bestRent_0 : decode cX9_bestRent 0 = .ok (.iload_n 1, 1) := by decide +kernel
theorem dX9_bestRent_1 : decode cX9_bestRent 1 = .ok (.iconst 1, 1) := by decide +kernel
theorem dX9_bestRent_2 : decode cX9_bestRent 2 = .ok (.bipush 60, 2) := by decide +kernel
theorem dX9_bestRent_4 : decode cX9_bestRent 4 = .ok (.invokestatic 75, 3) := by decide +kernel
theorem dX9_bestRent_7 : decode cX9_bestRent 7 = .ok (.ifCond .eq 12, 3) := by decide +kernel
theorem dX9_bestRent_10 : decode cX9_bestRent 10 = .ok (.iload_n 2, 1) := by decide +kernel
theorem dX9_bestRent_11 : decode cX9_bestRent 11 = .ok (.iconst 0, 1) := by decide +kernel
theorem dX9_bestRent_12 : decode cX9_bestRent 12 = .ok (.iconst 1, 1) := by decide +kernel
theorem dX9_bestRent_13 : decode cX9_bestRent 13 = .ok (.invokestatic 75, 3) := by decide +kernel
theorem dX9_bestRent_16 : decode cX9_bestRent 16 = .ok (.ifCond .ne 6, 3) := by decide +kernel
theorem dX9_bestRent_19 : decode cX9_bestRent 19 = .ok (.ldc 83, 2) := by decide +kernel
theorem dX9_bestRent_21 : decode cX9_bestRent 21 = .ok (.ireturn, 1) := by decide +kernel
theorem dX9_bestRent_22 : decode cX9_bestRent 22 = .ok (.aload_n 0, 1) := by decide +kernel
theorem dX9_bestRent_23 : decode cX9_bestRent 23 = .ok (.invokevirtual 153, 3) := by decide +kernel
theorem dX9_bestRent_26 : decode cX9_bestRent 26 = .ok (.iconst (-1), 1) := by decide +kernel
theorem dX9_bestRent_27 : decode cX9_bestRent 27 = .ok (.istore_n 3, 1) := by decide +kernel
theorem dX9_bestRent_28 : decode cX9_bestRent 28 = .ok (.iconst 0, 1) := by decide +kernel
theorem dX9_bestRent_29 : decode cX9_bestRent 29 = .ok (.istore 4, 2) := by decide +kernel
theorem dX9_bestRent_31 : decode cX9_bestRent 31 = .ok (.iconst 0, 1) := by decide +kernel
theorem dX9_bestRent_32 : decode cX9_bestRent 32 = .ok (.istore 5, 2) := by decide +kernel
theorem dX9_bestRent_34 : decode cX9_bestRent 34 = .ok (.iload 5, 2) := by decide +kernel
theorem dX9_bestRent_36 : decode cX9_bestRent 36 = .ok (.bipush 10, 2) := by decide +kernel
theorem dX9_bestRent_38 : decode cX9_bestRent 38 = .ok (.if_icmp .ge 80, 3) := by decide +kernel
theorem dX9_bestRent_41 : decode cX9_bestRent 41 = .ok (.iconst 0, 1) := by decide +kernel
theorem dX9_bestRent_42 : decode cX9_bestRent 42 = .ok (.istore 6, 2) := by decide +kernel
theorem dX9_bestRent_44 : decode cX9_bestRent 44 = .ok (.iload 6, 2) := by decide +kernel
theorem dX9_bestRent_46 : decode cX9_bestRent 46 = .ok (.bipush 8, 2) := by decide +kernel
theorem dX9_bestRent_48 : decode cX9_bestRent 48 = .ok (.if_icmp .ge 21, 3) := by decide +kernel
theorem dX9_bestRent_51 : decode cX9_bestRent 51 = .ok (.aload_n 0, 1) := by decide +kernel
theorem dX9_bestRent_52 : decode cX9_bestRent 52 = .ok (.getfield 9, 3) := by decide +kernel
theorem dX9_bestRent_55 : decode cX9_bestRent 55 = .ok (.bipush 8, 2) := by decide +kernel
theorem dX9_bestRent_57 : decode cX9_bestRent 57 = .ok (.iload 6, 2) := by decide +kernel
theorem dX9_bestRent_59 : decode cX9_bestRent 59 = .ok (.iadd, 1) := by decide +kernel
theorem dX9_bestRent_60 : decode cX9_bestRent 60 = .ok (.iload 5, 2) := by decide +kernel
theorem dX9_bestRent_62 : decode cX9_bestRent 62 = .ok (.iastore, 1) := by decide +kernel
theorem dX9_bestRent_63 : decode cX9_bestRent 63 = .ok (.iinc 6 1, 3) := by decide +kernel
theorem dX9_bestRent_66 : decode cX9_bestRent 66 = .ok (.goto (-22), 3) := by decide +kernel
theorem dX9_bestRent_69 : decode cX9_bestRent 69 = .ok (.aload_n 0, 1) := by decide +kernel
theorem dX9_bestRent_70 : decode cX9_bestRent 70 = .ok (.iload_n 1, 1) := by decide +kernel
theorem dX9_bestRent_71 : decode cX9_bestRent 71 = .ok (.invokevirtual 143, 3) := by decide +kernel
theorem dX9_bestRent_74 : decode cX9_bestRent 74 = .ok (.aload_n 0, 1) := by decide +kernel
theorem dX9_bestRent_75 : decode cX9_bestRent 75 = .ok (.getfield 9, 3) := by decide +kernel
theorem dX9_bestRent_78 : decode cX9_bestRent 78 = .ok (.bipush 6, 2) := by decide +kernel
theorem dX9_bestRent_80 : decode cX9_bestRent 80 = .ok (.iaload, 1) := by decide +kernel
theorem dX9_bestRent_81 : decode cX9_bestRent 81 = .ok (.istore 6, 2) := by decide +kernel
theorem dX9_bestRent_83 : decode cX9_bestRent 83 = .ok (.aload_n 0, 1) := by decide +kernel
theorem dX9_bestRent_84 : decode cX9_bestRent 84 = .ok (.invokevirtual 167, 3) := by decide +kernel
theorem dX9_bestRent_87 : decode cX9_bestRent 87 = .ok (.ifCond .ne 21, 3) := by decide +kernel
theorem dX9_bestRent_90 : decode cX9_bestRent 90 = .ok (.iload_n 3, 1) := by decide +kernel
theorem dX9_bestRent_91 : decode cX9_bestRent 91 = .ok (.ifCond .lt 10, 3) := by decide +kernel
theorem dX9_bestRent_94 : decode cX9_bestRent 94 = .ok (.iload 6, 2) := by decide +kernel
theorem dX9_bestRent_96 : decode cX9_bestRent 96 = .ok (.iload 4, 2) := by decide +kernel
theorem dX9_bestRent_98 : decode cX9_bestRent 98 = .ok (.if_icmp .le 10, 3) := by decide +kernel
theorem dX9_bestRent_101 : decode cX9_bestRent 101 = .ok (.iload 5, 2) := by decide +kernel
theorem dX9_bestRent_103 : decode cX9_bestRent 103 = .ok (.istore_n 3, 1) := by decide +kernel
theorem dX9_bestRent_104 : decode cX9_bestRent 104 = .ok (.iload 6, 2) := by decide +kernel
theorem dX9_bestRent_106 : decode cX9_bestRent 106 = .ok (.istore 4, 2) := by decide +kernel
theorem dX9_bestRent_108 : decode cX9_bestRent 108 = .ok (.aload_n 0, 1) := by decide +kernel
theorem dX9_bestRent_109 : decode cX9_bestRent 109 = .ok (.invokevirtual 159, 3) := by decide +kernel
theorem dX9_bestRent_112 : decode cX9_bestRent 112 = .ok (.iinc 5 1, 3) := by decide +kernel
theorem dX9_bestRent_115 : decode cX9_bestRent 115 = .ok (.goto (-81), 3) := by decide +kernel
theorem dX9_bestRent_118 : decode cX9_bestRent 118 = .ok (.iload_n 3, 1) := by decide +kernel
theorem dX9_bestRent_119 : decode cX9_bestRent 119 = .ok (.ifCond .ge 8, 3) := by decide +kernel
theorem dX9_bestRent_122 : decode cX9_bestRent 122 = .ok (.ldc 166, 2) := by decide +kernel
theorem dX9_bestRent_124 : decode cX9_bestRent 124 = .ok (.goto 13, 3) := by decide +kernel
theorem dX9_bestRent_127 : decode cX9_bestRent 127 = .ok (.iload_n 2, 1) := by decide +kernel
theorem dX9_bestRent_128 : decode cX9_bestRent 128 = .ok (.ifCond .ne 7, 3) := by decide +kernel
theorem dX9_bestRent_131 : decode cX9_bestRent 131 = .ok (.iload_n 3, 1) := by decide +kernel
theorem dX9_bestRent_132 : decode cX9_bestRent 132 = .ok (.goto 5, 3) := by decide +kernel
theorem dX9_bestRent_135 : decode cX9_bestRent 135 = .ok (.iload 4, 2) := by decide +kernel
theorem dX9_bestRent_137 : decode cX9_bestRent 137 = .ok (.ireturn, 1) := by decide +kernel
theorem dX9_mourned_0 : decode cX9_mourned 0 = .ok (.iload_n 1, 1) := by decide +kernel
theorem dX9_mourned_1 : decode cX9_mourned 1 = .ok (.iconst 1, 1) := by decide +kernel
theorem dX9_mourned_2 : decode cX9_mourned 2 = .ok (.bipush 60, 2) := by decide +kernel
theorem dX9_mourned_4 : decode cX9_mourned 4 = .ok (.invokestatic 75, 3) := by decide +kernel
theorem dX9_mourned_7 : decode cX9_mourned 7 = .ok (.ifCond .eq 12, 3) := by decide +kernel
theorem dX9_mourned_10 : decode cX9_mourned 10 = .ok (.iload_n 2, 1) := by decide +kernel
theorem dX9_mourned_11 : decode cX9_mourned 11 = .ok (.iconst 0, 1) := by decide +kernel
theorem dX9_mourned_12 : decode cX9_mourned 12 = .ok (.iconst 1, 1) := by decide +kernel
theorem dX9_mourned_13 : decode cX9_mourned 13 = .ok (.invokestatic 75, 3) := by decide +kernel
theorem dX9_mourned_16 : decode cX9_mourned 16 = .ok (.ifCond .ne 6, 3) := by decide +kernel
theorem dX9_mourned_19 : decode cX9_mourned 19 = .ok (.ldc 83, 2) := by decide +kernel
theorem dX9_mourned_21 : decode cX9_mourned 21 = .ok (.ireturn, 1) := by decide +kernel
theorem dX9_mourned_22 : decode cX9_mourned 22 = .ok (.aload_n 0, 1) := by decide +kernel
theorem dX9_mourned_23 : decode cX9_mourned 23 = .ok (.invokevirtual 153, 3) := by decide +kernel
theorem dX9_mourned_26 : decode cX9_mourned 26 = .ok (.iconst (-1), 1) := by decide +kernel
theorem dX9_mourned_27 : decode cX9_mourned 27 = .ok (.istore_n 3, 1) := by decide +kernel
theorem dX9_mourned_28 : decode cX9_mourned 28 = .ok (.iconst 0, 1) := by decide +kernel
theorem dX9_mourned_29 : decode cX9_mourned 29 = .ok (.istore 4, 2) := by decide +kernel
theorem dX9_mourned_31 : decode cX9_mourned 31 = .ok (.iconst 0, 1) := by decide +kernel
theorem dX9_mourned_32 : decode cX9_mourned 32 = .ok (.istore 5, 2) := by decide +kernel
theorem dX9_mourned_34 : decode cX9_mourned 34 = .ok (.iload 5, 2) := by decide +kernel
theorem dX9_mourned_36 : decode cX9_mourned 36 = .ok (.bipush 8, 2) := by decide +kernel
theorem dX9_mourned_38 : decode cX9_mourned 38 = .ok (.if_icmp .ge 51, 3) := by decide +kernel
theorem dX9_mourned_41 : decode cX9_mourned 41 = .ok (.aload_n 0, 1) := by decide +kernel
theorem dX9_mourned_42 : decode cX9_mourned 42 = .ok (.getfield 9, 3) := by decide +kernel
theorem dX9_mourned_45 : decode cX9_mourned 45 = .ok (.iconst 5, 1) := by decide +kernel
theorem dX9_mourned_46 : decode cX9_mourned 46 = .ok (.iload 5, 2) := by decide +kernel
theorem dX9_mourned_48 : decode cX9_mourned 48 = .ok (.iastore, 1) := by decide +kernel
theorem dX9_mourned_49 : decode cX9_mourned 49 = .ok (.aload_n 0, 1) := by decide +kernel
theorem dX9_mourned_50 : decode cX9_mourned 50 = .ok (.iload_n 1, 1) := by decide +kernel
theorem dX9_mourned_51 : decode cX9_mourned 51 = .ok (.invokevirtual 143, 3) := by decide +kernel
theorem dX9_mourned_54 : decode cX9_mourned 54 = .ok (.aload_n 0, 1) := by decide +kernel
theorem dX9_mourned_55 : decode cX9_mourned 55 = .ok (.iconst 3, 1) := by decide +kernel
theorem dX9_mourned_56 : decode cX9_mourned 56 = .ok (.invokevirtual 140, 3) := by decide +kernel
theorem dX9_mourned_59 : decode cX9_mourned 59 = .ok (.istore 6, 2) := by decide +kernel
theorem dX9_mourned_61 : decode cX9_mourned 61 = .ok (.aload_n 0, 1) := by decide +kernel
theorem dX9_mourned_62 : decode cX9_mourned 62 = .ok (.invokevirtual 159, 3) := by decide +kernel
theorem dX9_mourned_65 : decode cX9_mourned 65 = .ok (.iload_n 3, 1) := by decide +kernel
theorem dX9_mourned_66 : decode cX9_mourned 66 = .ok (.ifCond .lt 10, 3) := by decide +kernel
theorem dX9_mourned_69 : decode cX9_mourned 69 = .ok (.iload 6, 2) := by decide +kernel
theorem dX9_mourned_71 : decode cX9_mourned 71 = .ok (.iload 4, 2) := by decide +kernel
theorem dX9_mourned_73 : decode cX9_mourned 73 = .ok (.if_icmp .le 10, 3) := by decide +kernel
theorem dX9_mourned_76 : decode cX9_mourned 76 = .ok (.iload 5, 2) := by decide +kernel
theorem dX9_mourned_78 : decode cX9_mourned 78 = .ok (.istore_n 3, 1) := by decide +kernel
theorem dX9_mourned_79 : decode cX9_mourned 79 = .ok (.iload 6, 2) := by decide +kernel
theorem dX9_mourned_81 : decode cX9_mourned 81 = .ok (.istore 4, 2) := by decide +kernel
theorem dX9_mourned_83 : decode cX9_mourned 83 = .ok (.iinc 5 1, 3) := by decide +kernel
theorem dX9_mourned_86 : decode cX9_mourned 86 = .ok (.goto (-52), 3) := by decide +kernel
theorem dX9_mourned_89 : decode cX9_mourned 89 = .ok (.iload_n 2, 1) := by decide +kernel
theorem dX9_mourned_90 : decode cX9_mourned 90 = .ok (.ifCond .ne 7, 3) := by decide +kernel
theorem dX9_mourned_93 : decode cX9_mourned 93 = .ok (.iload_n 3, 1) := by decide +kernel
theorem dX9_mourned_94 : decode cX9_mourned 94 = .ok (.goto 5, 3) := by decide +kernel
theorem dX9_mourned_97 : decode cX9_mourned 97 = .ok (.iload 4, 2) := by decide +kernel
theorem dX9_mourned_99 : decode cX9_mourned 99 = .ok (.ireturn, 1) := by decide +kernel
theorem dX9_offBy_0 : decode cX9_offBy 0 = .ok (.aload_n 0, 1) := by decide +kernel
theorem dX9_offBy_1 : decode cX9_offBy 1 = .ok (.iload_n 2, 1) := by decide +kernel
theorem dX9_offBy_2 : decode cX9_offBy 2 = .ok (.iconst 1, 1) := by decide +kernel
theorem dX9_offBy_3 : decode cX9_offBy 3 = .ok (.iload_n 3, 1) := by decide +kernel
theorem dX9_offBy_4 : decode cX9_offBy 4 = .ok (.invokevirtual 79, 3) := by decide +kernel
theorem dX9_offBy_7 : decode cX9_offBy 7 = .ok (.lconst 0, 1) := by decide +kernel
theorem dX9_offBy_8 : decode cX9_offBy 8 = .ok (.lstore 4, 2) := by decide +kernel
theorem dX9_offBy_10 : decode cX9_offBy 10 = .ok (.iconst 0, 1) := by decide +kernel
theorem dX9_offBy_11 : decode cX9_offBy 11 = .ok (.istore 6, 2) := by decide +kernel
theorem dX9_offBy_13 : decode cX9_offBy 13 = .ok (.iload 6, 2) := by decide +kernel
theorem dX9_offBy_15 : decode cX9_offBy 15 = .ok (.aload_n 0, 1) := by decide +kernel
theorem dX9_offBy_16 : decode cX9_offBy 16 = .ok (.getfield 51, 3) := by decide +kernel
theorem dX9_offBy_19 : decode cX9_offBy 19 = .ok (.iload_n 1, 1) := by decide +kernel
theorem dX9_offBy_20 : decode cX9_offBy 20 = .ok (.iaload, 1) := by decide +kernel
theorem dX9_offBy_21 : decode cX9_offBy 21 = .ok (.if_icmp .ge 71, 3) := by decide +kernel
theorem dX9_offBy_24 : decode cX9_offBy 24 = .ok (.aload_n 0, 1) := by decide +kernel
theorem dX9_offBy_25 : decode cX9_offBy 25 = .ok (.getfield 54, 3) := by decide +kernel
theorem dX9_offBy_28 : decode cX9_offBy 28 = .ok (.bipush 24, 2) := by decide +kernel
theorem dX9_offBy_30 : decode cX9_offBy 30 = .ok (.iload_n 1, 1) := by decide +kernel
theorem dX9_offBy_31 : decode cX9_offBy 31 = .ok (.imul, 1) := by decide +kernel
theorem dX9_offBy_32 : decode cX9_offBy 32 = .ok (.iload 6, 2) := by decide +kernel
theorem dX9_offBy_34 : decode cX9_offBy 34 = .ok (.iadd, 1) := by decide +kernel
theorem dX9_offBy_35 : decode cX9_offBy 35 = .ok (.iaload, 1) := by decide +kernel
theorem dX9_offBy_36 : decode cX9_offBy 36 = .ok (.istore 7, 2) := by decide +kernel
theorem dX9_offBy_38 : decode cX9_offBy 38 = .ok (.iload 7, 2) := by decide +kernel
theorem dX9_offBy_40 : decode cX9_offBy 40 = .ok (.i2l, 1) := by decide +kernel
theorem dX9_offBy_41 : decode cX9_offBy 41 = .ok (.aload_n 0, 1) := by decide +kernel
theorem dX9_offBy_42 : decode cX9_offBy 42 = .ok (.iload_n 2, 1) := by decide +kernel
theorem dX9_offBy_43 : decode cX9_offBy 43 = .ok (.iconst 3, 1) := by decide +kernel
theorem dX9_offBy_44 : decode cX9_offBy 44 = .ok (.invokevirtual 89, 3) := by decide +kernel
theorem dX9_offBy_47 : decode cX9_offBy 47 = .ok (.i2l, 1) := by decide +kernel
theorem dX9_offBy_48 : decode cX9_offBy 48 = .ok (.lsub, 1) := by decide +kernel
theorem dX9_offBy_49 : decode cX9_offBy 49 = .ok (.lstore 8, 2) := by decide +kernel
theorem dX9_offBy_51 : decode cX9_offBy 51 = .ok (.lload 4, 2) := by decide +kernel
theorem dX9_offBy_53 : decode cX9_offBy 53 = .ok (.iload 7, 2) := by decide +kernel
theorem dX9_offBy_55 : decode cX9_offBy 55 = .ok (.ldc 166, 2) := by decide +kernel
theorem dX9_offBy_57 : decode cX9_offBy 57 = .ok (.if_icmp .ne 7, 3) := by decide +kernel
theorem dX9_offBy_60 : decode cX9_offBy 60 = .ok (.lconst 0, 1) := by decide +kernel
theorem dX9_offBy_61 : decode cX9_offBy 61 = .ok (.goto 18, 3) := by decide +kernel
theorem dX9_offBy_64 : decode cX9_offBy 64 = .ok (.lload 8, 2) := by decide +kernel
theorem dX9_offBy_66 : decode cX9_offBy 66 = .ok (.lconst 0, 1) := by decide +kernel
theorem dX9_offBy_67 : decode cX9_offBy 67 = .ok (.lcmp, 1) := by decide +kernel
theorem dX9_offBy_68 : decode cX9_offBy 68 = .ok (.ifCond .ge 9, 3) := by decide +kernel
theorem dX9_offBy_71 : decode cX9_offBy 71 = .ok (.lload 8, 2) := by decide +kernel
theorem dX9_offBy_73 : decode cX9_offBy 73 = .ok (.lneg, 1) := by decide +kernel
theorem dX9_offBy_74 : decode cX9_offBy 74 = .ok (.goto 5, 3) := by decide +kernel
theorem dX9_offBy_77 : decode cX9_offBy 77 = .ok (.lload 8, 2) := by decide +kernel
theorem dX9_offBy_79 : decode cX9_offBy 79 = .ok (.ladd, 1) := by decide +kernel
theorem dX9_offBy_80 : decode cX9_offBy 80 = .ok (.lstore 4, 2) := by decide +kernel
theorem dX9_offBy_82 : decode cX9_offBy 82 = .ok (.aload_n 0, 1) := by decide +kernel
theorem dX9_offBy_83 : decode cX9_offBy 83 = .ok (.invokevirtual 137, 3) := by decide +kernel
theorem dX9_offBy_86 : decode cX9_offBy 86 = .ok (.iinc 6 1, 3) := by decide +kernel
theorem dX9_offBy_89 : decode cX9_offBy 89 = .ok (.goto (-76), 3) := by decide +kernel
theorem dX9_offBy_92 : decode cX9_offBy 92 = .ok (.aload_n 0, 1) := by decide +kernel
theorem dX9_offBy_93 : decode cX9_offBy 93 = .ok (.invokevirtual 159, 3) := by decide +kernel
theorem dX9_offBy_96 : decode cX9_offBy 96 = .ok (.lload 4, 2) := by decide +kernel
theorem dX9_offBy_98 : decode cX9_offBy 98 = .ok (.lreturn, 1) := by decide +kernel
theorem dX9_stood_0 : decode cX9_stood 0 = .ok (.iload_n 1, 1) := by decide +kernel
theorem dX9_stood_1 : decode cX9_stood 1 = .ok (.invokestatic 171, 3) := by decide +kernel
theorem dX9_stood_4 : decode cX9_stood 4 = .ok (.ifCond .eq 20, 3) := by decide +kernel
theorem dX9_stood_7 : decode cX9_stood 7 = .ok (.aload_n 0, 1) := by decide +kernel
theorem dX9_stood_8 : decode cX9_stood 8 = .ok (.iload_n 2, 1) := by decide +kernel
theorem dX9_stood_9 : decode cX9_stood 9 = .ok (.invokevirtual 93, 3) := by decide +kernel
theorem dX9_stood_12 : decode cX9_stood 12 = .ok (.ifCond .eq 12, 3) := by decide +kernel
theorem dX9_stood_15 : decode cX9_stood 15 = .ok (.iload_n 3, 1) := by decide +kernel
theorem dX9_stood_16 : decode cX9_stood 16 = .ok (.iconst 0, 1) := by decide +kernel
theorem dX9_stood_17 : decode cX9_stood 17 = .ok (.iconst 1, 1) := by decide +kernel
theorem dX9_stood_18 : decode cX9_stood 18 = .ok (.invokestatic 75, 3) := by decide +kernel
theorem dX9_stood_21 : decode cX9_stood 21 = .ok (.ifCond .ne 6, 3) := by decide +kernel
theorem dX9_stood_24 : decode cX9_stood 24 = .ok (.ldc 83, 2) := by decide +kernel
theorem dX9_stood_26 : decode cX9_stood 26 = .ok (.ireturn, 1) := by decide +kernel
theorem dX9_stood_27 : decode cX9_stood 27 = .ok (.aload_n 0, 1) := by decide +kernel
theorem dX9_stood_28 : decode cX9_stood 28 = .ok (.getfield 48, 3) := by decide +kernel
theorem dX9_stood_31 : decode cX9_stood 31 = .ok (.iload_n 1, 1) := by decide +kernel
theorem dX9_stood_32 : decode cX9_stood 32 = .ok (.iaload, 1) := by decide +kernel
theorem dX9_stood_33 : decode cX9_stood 33 = .ok (.ifCond .ge 6, 3) := by decide +kernel
theorem dX9_stood_36 : decode cX9_stood 36 = .ok (.ldc 174, 2) := by decide +kernel
theorem dX9_stood_38 : decode cX9_stood 38 = .ok (.ireturn, 1) := by decide +kernel
theorem dX9_stood_39 : decode cX9_stood 39 = .ok (.aload_n 0, 1) := by decide +kernel
theorem dX9_stood_40 : decode cX9_stood 40 = .ok (.invokevirtual 153, 3) := by decide +kernel
theorem dX9_stood_43 : decode cX9_stood 43 = .ok (.iconst 0, 1) := by decide +kernel
theorem dX9_stood_44 : decode cX9_stood 44 = .ok (.istore 4, 2) := by decide +kernel
theorem dX9_stood_46 : decode cX9_stood 46 = .ok (.aload_n 0, 1) := by decide +kernel
theorem dX9_stood_47 : decode cX9_stood 47 = .ok (.iload_n 1, 1) := by decide +kernel
theorem dX9_stood_48 : decode cX9_stood 48 = .ok (.iload_n 2, 1) := by decide +kernel
theorem dX9_stood_49 : decode cX9_stood 49 = .ok (.iconst 0, 1) := by decide +kernel
theorem dX9_stood_50 : decode cX9_stood 50 = .ok (.invokevirtual 175, 3) := by decide +kernel
theorem dX9_stood_53 : decode cX9_stood 53 = .ok (.lstore 5, 2) := by decide +kernel
theorem dX9_stood_55 : decode cX9_stood 55 = .ok (.iconst 1, 1) := by decide +kernel
theorem dX9_stood_56 : decode cX9_stood 56 = .ok (.istore 7, 2) := by decide +kernel
theorem dX9_stood_58 : decode cX9_stood 58 = .ok (.iload 7, 2) := by decide +kernel
theorem dX9_stood_60 : decode cX9_stood 60 = .ok (.bipush 8, 2) := by decide +kernel
theorem dX9_stood_62 : decode cX9_stood 62 = .ok (.if_icmp .gt 53, 3) := by decide +kernel
theorem dX9_stood_65 : decode cX9_stood 65 = .ok (.aload_n 0, 1) := by decide +kernel
theorem dX9_stood_66 : decode cX9_stood 66 = .ok (.iload_n 1, 1) := by decide +kernel
theorem dX9_stood_67 : decode cX9_stood 67 = .ok (.iload_n 2, 1) := by decide +kernel
theorem dX9_stood_68 : decode cX9_stood 68 = .ok (.iload 7, 2) := by decide +kernel
theorem dX9_stood_70 : decode cX9_stood 70 = .ok (.invokevirtual 175, 3) := by decide +kernel
theorem dX9_stood_73 : decode cX9_stood 73 = .ok (.lstore 8, 2) := by decide +kernel
theorem dX9_stood_75 : decode cX9_stood 75 = .ok (.lload 8, 2) := by decide +kernel
theorem dX9_stood_77 : decode cX9_stood 77 = .ok (.lload 5, 2) := by decide +kernel
theorem dX9_stood_79 : decode cX9_stood 79 = .ok (.lcmp, 1) := by decide +kernel
theorem dX9_stood_80 : decode cX9_stood 80 = .ok (.ifCond .ge 8, 3) := by decide +kernel
theorem dX9_stood_83 : decode cX9_stood 83 = .ok (.iload 7, 2) := by decide +kernel
theorem dX9_stood_85 : decode cX9_stood 85 = .ok (.goto 5, 3) := by decide +kernel
theorem dX9_stood_88 : decode cX9_stood 88 = .ok (.iload 4, 2) := by decide +kernel
theorem dX9_stood_90 : decode cX9_stood 90 = .ok (.istore 4, 2) := by decide +kernel
theorem dX9_stood_92 : decode cX9_stood 92 = .ok (.lload 8, 2) := by decide +kernel
theorem dX9_stood_94 : decode cX9_stood 94 = .ok (.lload 5, 2) := by decide +kernel
theorem dX9_stood_96 : decode cX9_stood 96 = .ok (.lcmp, 1) := by decide +kernel
theorem dX9_stood_97 : decode cX9_stood 97 = .ok (.ifCond .ge 8, 3) := by decide +kernel
theorem dX9_stood_100 : decode cX9_stood 100 = .ok (.lload 8, 2) := by decide +kernel
theorem dX9_stood_102 : decode cX9_stood 102 = .ok (.goto 5, 3) := by decide +kernel
theorem dX9_stood_105 : decode cX9_stood 105 = .ok (.lload 5, 2) := by decide +kernel
theorem dX9_stood_107 : decode cX9_stood 107 = .ok (.lstore 5, 2) := by decide +kernel
theorem dX9_stood_109 : decode cX9_stood 109 = .ok (.iinc 7 1, 3) := by decide +kernel
theorem dX9_stood_112 : decode cX9_stood 112 = .ok (.goto (-54), 3) := by decide +kernel
theorem dX9_stood_115 : decode cX9_stood 115 = .ok (.iload_n 3, 1) := by decide +kernel
theorem dX9_stood_116 : decode cX9_stood 116 = .ok (.ifCond .ne 8, 3) := by decide +kernel
theorem dX9_stood_119 : decode cX9_stood 119 = .ok (.iload 4, 2) := by decide +kernel
theorem dX9_stood_121 : decode cX9_stood 121 = .ok (.goto 6, 3) := by decide +kernel
theorem dX9_stood_124 : decode cX9_stood 124 = .ok (.lload 5, 2) := by decide +kernel
theorem dX9_stood_126 : decode cX9_stood 126 = .ok (.l2i, 1) := by decide +kernel
theorem dX9_stood_127 : decode cX9_stood 127 = .ok (.ireturn, 1) := by decide +kernel
theorem dX9_fee_0 : decode cX9_fee 0 = .ok (.aload_n 0, 1) := by decide +kernel
theorem dX9_fee_1 : decode cX9_fee 1 = .ok (.iconst 1, 1) := by decide +kernel
theorem dX9_fee_2 : decode cX9_fee 2 = .ok (.invokevirtual 104, 3) := by decide +kernel
theorem dX9_fee_5 : decode cX9_fee 5 = .ok (.istore_n 1, 1) := by decide +kernel
theorem dX9_fee_6 : decode cX9_fee 6 = .ok (.aload_n 0, 1) := by decide +kernel
theorem dX9_fee_7 : decode cX9_fee 7 = .ok (.getfield 45, 3) := by decide +kernel
theorem dX9_fee_10 : decode cX9_fee 10 = .ok (.iconst 0, 1) := by decide +kernel
theorem dX9_fee_11 : decode cX9_fee 11 = .ok (.aload_n 0, 1) := by decide +kernel
theorem dX9_fee_12 : decode cX9_fee 12 = .ok (.getfield 9, 3) := by decide +kernel
theorem dX9_fee_15 : decode cX9_fee 15 = .ok (.bipush 6, 2) := by decide +kernel
theorem dX9_fee_17 : decode cX9_fee 17 = .ok (.iaload, 1) := by decide +kernel
theorem dX9_fee_18 : decode cX9_fee 18 = .ok (.iastore, 1) := by decide +kernel
theorem dX9_fee_19 : decode cX9_fee 19 = .ok (.aload_n 0, 1) := by decide +kernel
theorem dX9_fee_20 : decode cX9_fee 20 = .ok (.getfield 45, 3) := by decide +kernel
theorem dX9_fee_23 : decode cX9_fee 23 = .ok (.iconst 1, 1) := by decide +kernel
theorem dX9_fee_24 : decode cX9_fee 24 = .ok (.aload_n 0, 1) := by decide +kernel
theorem dX9_fee_25 : decode cX9_fee 25 = .ok (.getfield 9, 3) := by decide +kernel
theorem dX9_fee_28 : decode cX9_fee 28 = .ok (.iconst 2, 1) := by decide +kernel
theorem dX9_fee_29 : decode cX9_fee 29 = .ok (.iaload, 1) := by decide +kernel
theorem dX9_fee_30 : decode cX9_fee 30 = .ok (.iastore, 1) := by decide +kernel
theorem dX9_fee_31 : decode cX9_fee 31 = .ok (.iload_n 1, 1) := by decide +kernel
theorem dX9_fee_32 : decode cX9_fee 32 = .ok (.ifCond .ge 13, 3) := by decide +kernel
theorem dX9_fee_35 : decode cX9_fee 35 = .ok (.aload_n 0, 1) := by decide +kernel
theorem dX9_fee_36 : decode cX9_fee 36 = .ok (.getfield 9, 3) := by decide +kernel
theorem dX9_fee_39 : decode cX9_fee 39 = .ok (.bipush 6, 2) := by decide +kernel
theorem dX9_fee_41 : decode cX9_fee 41 = .ok (.iaload, 1) := by decide +kernel
theorem dX9_fee_42 : decode cX9_fee 42 = .ok (.goto 8, 3) := by decide +kernel
theorem dX9_fee_45 : decode cX9_fee 45 = .ok (.aload_n 0, 1) := by decide +kernel
theorem dX9_fee_46 : decode cX9_fee 46 = .ok (.iload_n 1, 1) := by decide +kernel
theorem dX9_fee_47 : decode cX9_fee 47 = .ok (.invokevirtual 107, 3) := by decide +kernel
theorem dX9_fee_50 : decode cX9_fee 50 = .ok (.ireturn, 1) := by decide +kernel
theorem dX9_fine_0 : decode cX9_fine 0 = .ok (.aload_n 0, 1) := by decide +kernel
theorem dX9_fine_1 : decode cX9_fine 1 = .ok (.iload_n 1, 1) := by decide +kernel
theorem dX9_fine_2 : decode cX9_fine 2 = .ok (.invokevirtual 93, 3) := by decide +kernel
theorem dX9_fine_5 : decode cX9_fine 5 = .ok (.ifCond .ne 6, 3) := by decide +kernel
theorem dX9_fine_8 : decode cX9_fine 8 = .ok (.ldc 83, 2) := by decide +kernel
theorem dX9_fine_10 : decode cX9_fine 10 = .ok (.ireturn, 1) := by decide +kernel
theorem dX9_fine_11 : decode cX9_fine 11 = .ok (.aload_n 0, 1) := by decide +kernel
theorem dX9_fine_12 : decode cX9_fine 12 = .ok (.iconst 2, 1) := by decide +kernel
theorem dX9_fine_13 : decode cX9_fine 13 = .ok (.invokevirtual 104, 3) := by decide +kernel
theorem dX9_fine_16 : decode cX9_fine 16 = .ok (.istore_n 2, 1) := by decide +kernel
theorem dX9_fine_17 : decode cX9_fine 17 = .ok (.aload_n 0, 1) := by decide +kernel
theorem dX9_fine_18 : decode cX9_fine 18 = .ok (.getfield 45, 3) := by decide +kernel
theorem dX9_fine_21 : decode cX9_fine 21 = .ok (.iconst 0, 1) := by decide +kernel
theorem dX9_fine_22 : decode cX9_fine 22 = .ok (.aload_n 0, 1) := by decide +kernel
theorem dX9_fine_23 : decode cX9_fine 23 = .ok (.iload_n 1, 1) := by decide +kernel
theorem dX9_fine_24 : decode cX9_fine 24 = .ok (.iconst 3, 1) := by decide +kernel
theorem dX9_fine_25 : decode cX9_fine 25 = .ok (.invokevirtual 89, 3) := by decide +kernel
theorem dX9_fine_28 : decode cX9_fine 28 = .ok (.iastore, 1) := by decide +kernel
theorem dX9_fine_29 : decode cX9_fine 29 = .ok (.aload_n 0, 1) := by decide +kernel
theorem dX9_fine_30 : decode cX9_fine 30 = .ok (.getfield 45, 3) := by decide +kernel
theorem dX9_fine_33 : decode cX9_fine 33 = .ok (.iconst 1, 1) := by decide +kernel
theorem dX9_fine_34 : decode cX9_fine 34 = .ok (.aload_n 0, 1) := by decide +kernel
theorem dX9_fine_35 : decode cX9_fine 35 = .ok (.iload_n 1, 1) := by decide +kernel
theorem dX9_fine_36 : decode cX9_fine 36 = .ok (.iconst 4, 1) := by decide +kernel
theorem dX9_fine_37 : decode cX9_fine 37 = .ok (.invokevirtual 89, 3) := by decide +kernel
theorem dX9_fine_40 : decode cX9_fine 40 = .ok (.iastore, 1) := by decide +kernel
theorem dX9_fine_41 : decode cX9_fine 41 = .ok (.iload_n 2, 1) := by decide +kernel
theorem dX9_fine_42 : decode cX9_fine 42 = .ok (.ifCond .ge 12, 3) := by decide +kernel
theorem dX9_fine_45 : decode cX9_fine 45 = .ok (.aload_n 0, 1) := by decide +kernel
theorem dX9_fine_46 : decode cX9_fine 46 = .ok (.iload_n 1, 1) := by decide +kernel
theorem dX9_fine_47 : decode cX9_fine 47 = .ok (.iconst 3, 1) := by decide +kernel
theorem dX9_fine_48 : decode cX9_fine 48 = .ok (.invokevirtual 89, 3) := by decide +kernel
theorem dX9_fine_51 : decode cX9_fine 51 = .ok (.goto 8, 3) := by decide +kernel
theorem dX9_fine_54 : decode cX9_fine 54 = .ok (.aload_n 0, 1) := by decide +kernel
theorem dX9_fine_55 : decode cX9_fine 55 = .ok (.iload_n 2, 1) := by decide +kernel
theorem dX9_fine_56 : decode cX9_fine 56 = .ok (.invokevirtual 107, 3) := by decide +kernel
theorem dX9_fine_59 : decode cX9_fine 59 = .ok (.ireturn, 1) := by decide +kernel
theorem dX9_feed_0 : decode cX9_feed 0 = .ok (.aload_n 0, 1) := by decide +kernel
theorem dX9_feed_1 : decode cX9_feed 1 = .ok (.getfield 179, 3) := by decide +kernel
theorem dX9_feed_4 : decode cX9_feed 4 = .ok (.bipush 12, 2) := by decide +kernel
theorem dX9_feed_6 : decode cX9_feed 6 = .ok (.iadd, 1) := by decide +kernel
theorem dX9_feed_7 : decode cX9_feed 7 = .ok (.bipush 96, 2) := by decide +kernel
theorem dX9_feed_9 : decode cX9_feed 9 = .ok (.if_icmp .le 6, 3) := by decide +kernel
theorem dX9_feed_12 : decode cX9_feed 12 = .ok (.ldc 84, 2) := by decide +kernel
theorem dX9_feed_14 : decode cX9_feed 14 = .ok (.ireturn, 1) := by decide +kernel
theorem dX9_feed_15 : decode cX9_feed 15 = .ok (.iconst 0, 1) := by decide +kernel
theorem dX9_feed_16 : decode cX9_feed 16 = .ok (.istore 4, 2) := by decide +kernel
theorem dX9_feed_18 : decode cX9_feed 18 = .ok (.iload 4, 2) := by decide +kernel
theorem dX9_feed_20 : decode cX9_feed 20 = .ok (.bipush 12, 2) := by decide +kernel
theorem dX9_feed_22 : decode cX9_feed 22 = .ok (.if_icmp .ge 62, 3) := by decide +kernel
theorem dX9_feed_25 : decode cX9_feed 25 = .ok (.iload 4, 2) := by decide +kernel
theorem dX9_feed_27 : decode cX9_feed 27 = .ok (.iconst 4, 1) := by decide +kernel
theorem dX9_feed_28 : decode cX9_feed 28 = .ok (.if_icmp .ge 7, 3) := by decide +kernel
theorem dX9_feed_31 : decode cX9_feed 31 = .ok (.iload_n 1, 1) := by decide +kernel
theorem dX9_feed_32 : decode cX9_feed 32 = .ok (.goto 15, 3) := by decide +kernel
theorem dX9_feed_35 : decode cX9_feed 35 = .ok (.iload 4, 2) := by decide +kernel
theorem dX9_feed_37 : decode cX9_feed 37 = .ok (.bipush 8, 2) := by decide +kernel
theorem dX9_feed_39 : decode cX9_feed 39 = .ok (.if_icmp .ge 7, 3) := by decide +kernel
theorem dX9_feed_42 : decode cX9_feed 42 = .ok (.iload_n 2, 1) := by decide +kernel
theorem dX9_feed_43 : decode cX9_feed 43 = .ok (.goto 4, 3) := by decide +kernel
theorem dX9_feed_46 : decode cX9_feed 46 = .ok (.iload_n 3, 1) := by decide +kernel
theorem dX9_feed_47 : decode cX9_feed 47 = .ok (.istore 5, 2) := by decide +kernel
theorem dX9_feed_49 : decode cX9_feed 49 = .ok (.aload_n 0, 1) := by decide +kernel
theorem dX9_feed_50 : decode cX9_feed 50 = .ok (.getfield 22, 3) := by decide +kernel
theorem dX9_feed_53 : decode cX9_feed 53 = .ok (.aload_n 0, 1) := by decide +kernel
theorem dX9_feed_54 : decode cX9_feed 54 = .ok (.getfield 179, 3) := by decide +kernel
theorem dX9_feed_57 : decode cX9_feed 57 = .ok (.iload 4, 2) := by decide +kernel
theorem dX9_feed_59 : decode cX9_feed 59 = .ok (.iadd, 1) := by decide +kernel
theorem dX9_feed_60 : decode cX9_feed 60 = .ok (.iload 5, 2) := by decide +kernel
theorem dX9_feed_62 : decode cX9_feed 62 = .ok (.bipush 24, 2) := by decide +kernel
theorem dX9_feed_64 : decode cX9_feed 64 = .ok (.bipush 8, 2) := by decide +kernel
theorem dX9_feed_66 : decode cX9_feed 66 = .ok (.iload 4, 2) := by decide +kernel
theorem dX9_feed_68 : decode cX9_feed 68 = .ok (.iconst 4, 1) := by decide +kernel
theorem dX9_feed_69 : decode cX9_feed 69 = .ok (.irem, 1) := by decide +kernel
theorem dX9_feed_70 : decode cX9_feed 70 = .ok (.imul, 1) := by decide +kernel
theorem dX9_feed_71 : decode cX9_feed 71 = .ok (.isub, 1) := by decide +kernel
theorem dX9_feed_72 : decode cX9_feed 72 = .ok (.ishr, 1) := by decide +kernel
theorem dX9_feed_73 : decode cX9_feed 73 = .ok (.sipush 255, 3) := by decide +kernel
theorem dX9_feed_76 : decode cX9_feed 76 = .ok (.iand, 1) := by decide +kernel
theorem dX9_feed_77 : decode cX9_feed 77 = .ok (.iastore, 1) := by decide +kernel
theorem dX9_feed_78 : decode cX9_feed 78 = .ok (.iinc 4 1, 3) := by decide +kernel
theorem dX9_feed_81 : decode cX9_feed 81 = .ok (.goto (-63), 3) := by decide +kernel
theorem dX9_feed_84 : decode cX9_feed 84 = .ok (.aload_n 0, 1) := by decide +kernel
theorem dX9_feed_85 : decode cX9_feed 85 = .ok (.dup, 1) := by decide +kernel
theorem dX9_feed_86 : decode cX9_feed 86 = .ok (.getfield 179, 3) := by decide +kernel
theorem dX9_feed_89 : decode cX9_feed 89 = .ok (.bipush 12, 2) := by decide +kernel
theorem dX9_feed_91 : decode cX9_feed 91 = .ok (.iadd, 1) := by decide +kernel
theorem dX9_feed_92 : decode cX9_feed 92 = .ok (.putfield 179, 3) := by decide +kernel
theorem dX9_feed_95 : decode cX9_feed 95 = .ok (.aload_n 0, 1) := by decide +kernel
theorem dX9_feed_96 : decode cX9_feed 96 = .ok (.getfield 179, 3) := by decide +kernel
theorem dX9_feed_99 : decode cX9_feed 99 = .ok (.ireturn, 1) := by decide +kernel
theorem dX9_trim_0 : decode cX9_trim 0 = .ok (.iload_n 1, 1) := by decide +kernel
theorem dX9_trim_1 : decode cX9_trim 1 = .ok (.iconst 0, 1) := by decide +kernel
theorem dX9_trim_2 : decode cX9_trim 2 = .ok (.aload_n 0, 1) := by decide +kernel
theorem dX9_trim_3 : decode cX9_trim 3 = .ok (.getfield 179, 3) := by decide +kernel
theorem dX9_trim_6 : decode cX9_trim 6 = .ok (.invokestatic 75, 3) := by decide +kernel
theorem dX9_trim_9 : decode cX9_trim 9 = .ok (.ifCond .ne 6, 3) := by decide +kernel
theorem dX9_trim_12 : decode cX9_trim 12 = .ok (.ldc 83, 2) := by decide +kernel
theorem dX9_trim_14 : decode cX9_trim 14 = .ok (.ireturn, 1) := by decide +kernel
theorem dX9_trim_15 : decode cX9_trim 15 = .ok (.aload_n 0, 1) := by decide +kernel
theorem dX9_trim_16 : decode cX9_trim 16 = .ok (.iload_n 1, 1) := by decide +kernel
theorem dX9_trim_17 : decode cX9_trim 17 = .ok (.putfield 179, 3) := by decide +kernel
theorem dX9_trim_20 : decode cX9_trim 20 = .ok (.iload_n 1, 1) := by decide +kernel
theorem dX9_trim_21 : decode cX9_trim 21 = .ok (.ireturn, 1) := by decide +kernel
theorem dX9_isLetter_0 : decode cX9_isLetter 0 = .ok (.iload_n 1, 1) := by decide +kernel
theorem dX9_isLetter_1 : decode cX9_isLetter 1 = .ok (.aload_n 0, 1) := by decide +kernel
theorem dX9_isLetter_2 : decode cX9_isLetter 2 = .ok (.getfield 179, 3) := by decide +kernel
theorem dX9_isLetter_5 : decode cX9_isLetter 5 = .ok (.if_icmp .ge 29, 3) := by decide +kernel
theorem dX9_isLetter_8 : decode cX9_isLetter 8 = .ok (.aload_n 0, 1) := by decide +kernel
theorem dX9_isLetter_9 : decode cX9_isLetter 9 = .ok (.getfield 22, 3) := by decide +kernel
theorem dX9_isLetter_12 : decode cX9_isLetter 12 = .ok (.iload_n 1, 1) := by decide +kernel
theorem dX9_isLetter_13 : decode cX9_isLetter 13 = .ok (.iaload, 1) := by decide +kernel
theorem dX9_isLetter_14 : decode cX9_isLetter 14 = .ok (.bipush 97, 2) := by decide +kernel
theorem dX9_isLetter_16 : decode cX9_isLetter 16 = .ok (.if_icmp .lt 18, 3) := by decide +kernel
theorem dX9_isLetter_19 : decode cX9_isLetter 19 = .ok (.aload_n 0, 1) := by decide +kernel
theorem dX9_isLetter_20 : decode cX9_isLetter 20 = .ok (.getfield 22, 3) := by decide +kernel
theorem dX9_isLetter_23 : decode cX9_isLetter 23 = .ok (.iload_n 1, 1) := by decide +kernel
theorem dX9_isLetter_24 : decode cX9_isLetter 24 = .ok (.iaload, 1) := by decide +kernel
theorem dX9_isLetter_25 : decode cX9_isLetter 25 = .ok (.bipush 122, 2) := by decide +kernel
theorem dX9_isLetter_27 : decode cX9_isLetter 27 = .ok (.if_icmp .gt 7, 3) := by decide +kernel
theorem dX9_isLetter_30 : decode cX9_isLetter 30 = .ok (.iconst 1, 1) := by decide +kernel
theorem dX9_isLetter_31 : decode cX9_isLetter 31 = .ok (.goto 4, 3) := by decide +kernel
theorem dX9_isLetter_34 : decode cX9_isLetter 34 = .ok (.iconst 0, 1) := by decide +kernel
theorem dX9_isLetter_35 : decode cX9_isLetter 35 = .ok (.ireturn, 1) := by decide +kernel
theorem dX9_isFigure_0 : decode cX9_isFigure 0 = .ok (.iload_n 1, 1) := by decide +kernel
theorem dX9_isFigure_1 : decode cX9_isFigure 1 = .ok (.aload_n 0, 1) := by decide +kernel
theorem dX9_isFigure_2 : decode cX9_isFigure 2 = .ok (.getfield 179, 3) := by decide +kernel
theorem dX9_isFigure_5 : decode cX9_isFigure 5 = .ok (.if_icmp .ge 29, 3) := by decide +kernel
theorem dX9_isFigure_8 : decode cX9_isFigure 8 = .ok (.aload_n 0, 1) := by decide +kernel
theorem dX9_isFigure_9 : decode cX9_isFigure 9 = .ok (.getfield 22, 3) := by decide +kernel
theorem dX9_isFigure_12 : decode cX9_isFigure 12 = .ok (.iload_n 1, 1) := by decide +kernel
theorem dX9_isFigure_13 : decode cX9_isFigure 13 = .ok (.iaload, 1) := by decide +kernel
theorem dX9_isFigure_14 : decode cX9_isFigure 14 = .ok (.bipush 48, 2) := by decide +kernel
theorem dX9_isFigure_16 : decode cX9_isFigure 16 = .ok (.if_icmp .lt 18, 3) := by decide +kernel
theorem dX9_isFigure_19 : decode cX9_isFigure 19 = .ok (.aload_n 0, 1) := by decide +kernel
theorem dX9_isFigure_20 : decode cX9_isFigure 20 = .ok (.getfield 22, 3) := by decide +kernel
theorem dX9_isFigure_23 : decode cX9_isFigure 23 = .ok (.iload_n 1, 1) := by decide +kernel
theorem dX9_isFigure_24 : decode cX9_isFigure 24 = .ok (.iaload, 1) := by decide +kernel
theorem dX9_isFigure_25 : decode cX9_isFigure 25 = .ok (.bipush 57, 2) := by decide +kernel
theorem dX9_isFigure_27 : decode cX9_isFigure 27 = .ok (.if_icmp .gt 7, 3) := by decide +kernel
theorem dX9_isFigure_30 : decode cX9_isFigure 30 = .ok (.iconst 1, 1) := by decide +kernel
theorem dX9_isFigure_31 : decode cX9_isFigure 31 = .ok (.goto 4, 3) := by decide +kernel
theorem dX9_isFigure_34 : decode cX9_isFigure 34 = .ok (.iconst 0, 1) := by decide +kernel
theorem dX9_isFigure_35 : decode cX9_isFigure 35 = .ok (.ireturn, 1) := by decide +kernel
theorem dX9_go_0 : decode cX9_go 0 = .ok (.aload_n 0, 1) := by decide +kernel
theorem dX9_go_1 : decode cX9_go 1 = .ok (.getfield 183, 3) := by decide +kernel
theorem dX9_go_4 : decode cX9_go 4 = .ok (.aload_n 0, 1) := by decide +kernel
theorem dX9_go_5 : decode cX9_go 5 = .ok (.getfield 179, 3) := by decide +kernel
theorem dX9_go_8 : decode cX9_go 8 = .ok (.if_icmp .ge 30, 3) := by decide +kernel
theorem dX9_go_11 : decode cX9_go 11 = .ok (.aload_n 0, 1) := by decide +kernel
theorem dX9_go_12 : decode cX9_go 12 = .ok (.getfield 22, 3) := by decide +kernel
theorem dX9_go_15 : decode cX9_go 15 = .ok (.aload_n 0, 1) := by decide +kernel
theorem dX9_go_16 : decode cX9_go 16 = .ok (.getfield 183, 3) := by decide +kernel
theorem dX9_go_19 : decode cX9_go 19 = .ok (.iaload, 1) := by decide +kernel
theorem dX9_go_20 : decode cX9_go 20 = .ok (.bipush 32, 2) := by decide +kernel
theorem dX9_go_22 : decode cX9_go 22 = .ok (.if_icmp .ne 16, 3) := by decide +kernel
theorem dX9_go_25 : decode cX9_go 25 = .ok (.aload_n 0, 1) := by decide +kernel
theorem dX9_go_26 : decode cX9_go 26 = .ok (.dup, 1) := by decide +kernel
theorem dX9_go_27 : decode cX9_go 27 = .ok (.getfield 183, 3) := by decide +kernel
theorem dX9_go_30 : decode cX9_go 30 = .ok (.iconst 1, 1) := by decide +kernel
theorem dX9_go_31 : decode cX9_go 31 = .ok (.iadd, 1) := by decide +kernel
theorem dX9_go_32 : decode cX9_go 32 = .ok (.putfield 183, 3) := by decide +kernel
theorem dX9_go_35 : decode cX9_go 35 = .ok (.goto (-35), 3) := by decide +kernel
theorem dX9_go_38 : decode cX9_go 38 = .ok (.aload_n 0, 1) := by decide +kernel
theorem dX9_go_39 : decode cX9_go 39 = .ok (.aload_n 0, 1) := by decide +kernel
theorem dX9_go_40 : decode cX9_go 40 = .ok (.getfield 183, 3) := by decide +kernel
theorem dX9_go_43 : decode cX9_go 43 = .ok (.putfield 186, 3) := by decide +kernel
theorem dX9_go_46 : decode cX9_go 46 = .ok (.aload_n 0, 1) := by decide +kernel
theorem dX9_go_47 : decode cX9_go 47 = .ok (.getfield 186, 3) := by decide +kernel
theorem dX9_go_50 : decode cX9_go 50 = .ok (.aload_n 0, 1) := by decide +kernel
theorem dX9_go_51 : decode cX9_go 51 = .ok (.getfield 189, 3) := by decide +kernel
theorem dX9_go_54 : decode cX9_go 54 = .ok (.if_icmp .ne 7, 3) := by decide +kernel
theorem dX9_go_57 : decode cX9_go 57 = .ok (.iconst 1, 1) := by decide +kernel
theorem dX9_go_58 : decode cX9_go 58 = .ok (.goto 4, 3) := by decide +kernel
theorem dX9_go_61 : decode cX9_go 61 = .ok (.iconst 0, 1) := by decide +kernel
theorem dX9_go_62 : decode cX9_go 62 = .ok (.istore_n 1, 1) := by decide +kernel
theorem dX9_go_63 : decode cX9_go 63 = .ok (.aload_n 0, 1) := by decide +kernel
theorem dX9_go_64 : decode cX9_go 64 = .ok (.getfield 186, 3) := by decide +kernel
theorem dX9_go_67 : decode cX9_go 67 = .ok (.aload_n 0, 1) := by decide +kernel
theorem dX9_go_68 : decode cX9_go 68 = .ok (.getfield 179, 3) := by decide +kernel
theorem dX9_go_71 : decode cX9_go 71 = .ok (.if_icmp .ne 11, 3) := by decide +kernel
theorem dX9_go_74 : decode cX9_go 74 = .ok (.aload_n 0, 1) := by decide +kernel
theorem dX9_go_75 : decode cX9_go 75 = .ok (.iconst 0, 1) := by decide +kernel
theorem dX9_go_76 : decode cX9_go 76 = .ok (.putfield 192, 3) := by decide +kernel
theorem dX9_go_79 : decode cX9_go 79 = .ok (.goto 224, 3) := by decide +kernel
theorem dX9_go_82 : decode cX9_go 82 = .ok (.aload_n 0, 1) := by decide +kernel
theorem dX9_go_83 : decode cX9_go 83 = .ok (.aload_n 0, 1) := by decide +kernel
theorem dX9_go_84 : decode cX9_go 84 = .ok (.getfield 186, 3) := by decide +kernel
theorem dX9_go_87 : decode cX9_go 87 = .ok (.invokevirtual 195, 3) := by decide +kernel
theorem dX9_go_90 : decode cX9_go 90 = .ok (.ifCond .eq 64, 3) := by decide +kernel
theorem dX9_go_93 : decode cX9_go 93 = .ok (.aload_n 0, 1) := by decide +kernel
theorem dX9_go_94 : decode cX9_go 94 = .ok (.aload_n 0, 1) := by decide +kernel
theorem dX9_go_95 : decode cX9_go 95 = .ok (.getfield 183, 3) := by decide +kernel
theorem dX9_go_98 : decode cX9_go 98 = .ok (.invokevirtual 195, 3) := by decide +kernel
theorem dX9_go_101 : decode cX9_go 101 = .ok (.ifCond .eq 16, 3) := by decide +kernel
theorem dX9_go_104 : decode cX9_go 104 = .ok (.aload_n 0, 1) := by decide +kernel
theorem dX9_go_105 : decode cX9_go 105 = .ok (.dup, 1) := by decide +kernel
theorem dX9_go_106 : decode cX9_go 106 = .ok (.getfield 183, 3) := by decide +kernel
theorem dX9_go_109 : decode cX9_go 109 = .ok (.iconst 1, 1) := by decide +kernel
theorem dX9_go_110 : decode cX9_go 110 = .ok (.iadd, 1) := by decide +kernel
theorem dX9_go_111 : decode cX9_go 111 = .ok (.putfield 183, 3) := by decide +kernel
theorem dX9_go_114 : decode cX9_go 114 = .ok (.goto (-21), 3) := by decide +kernel
theorem dX9_go_117 : decode cX9_go 117 = .ok (.aload_n 0, 1) := by decide +kernel
theorem dX9_go_118 : decode cX9_go 118 = .ok (.iload_n 1, 1) := by decide +kernel
theorem dX9_go_119 : decode cX9_go 119 = .ok (.ifCond .eq 7, 3) := by decide +kernel
theorem dX9_go_122 : decode cX9_go 122 = .ok (.iconst 4, 1) := by decide +kernel
theorem dX9_go_123 : decode cX9_go 123 = .ok (.goto 4, 3) := by decide +kernel
theorem dX9_go_126 : decode cX9_go 126 = .ok (.iconst 1, 1) := by decide +kernel
theorem dX9_go_127 : decode cX9_go 127 = .ok (.putfield 192, 3) := by decide +kernel
theorem dX9_go_130 : decode cX9_go 130 = .ok (.aload_n 0, 1) := by decide +kernel
theorem dX9_go_131 : decode cX9_go 131 = .ok (.aload_n 0, 1) := by decide +kernel
theorem dX9_go_132 : decode cX9_go 132 = .ok (.getfield 22, 3) := by decide +kernel
theorem dX9_go_135 : decode cX9_go 135 = .ok (.aload_n 0, 1) := by decide +kernel
theorem dX9_go_136 : decode cX9_go 136 = .ok (.getfield 186, 3) := by decide +kernel
theorem dX9_go_139 : decode cX9_go 139 = .ok (.iaload, 1) := by decide +kernel
theorem dX9_go_140 : decode cX9_go 140 = .ok (.putfield 198, 3) := by decide +kernel
theorem dX9_go_143 : decode cX9_go 143 = .ok (.aload_n 0, 1) := by decide +kernel
theorem dX9_go_144 : decode cX9_go 144 = .ok (.aload_n 0, 1) := by decide +kernel
theorem dX9_go_145 : decode cX9_go 145 = .ok (.getfield 183, 3) := by decide +kernel
theorem dX9_go_148 : decode cX9_go 148 = .ok (.putfield 189, 3) := by decide +kernel
theorem dX9_go_151 : decode cX9_go 151 = .ok (.goto 152, 3) := by decide +kernel
theorem dX9_go_154 : decode cX9_go 154 = .ok (.aload_n 0, 1) := by decide +kernel
theorem dX9_go_155 : decode cX9_go 155 = .ok (.aload_n 0, 1) := by decide +kernel
theorem dX9_go_156 : decode cX9_go 156 = .ok (.getfield 186, 3) := by decide +kernel
theorem dX9_go_159 : decode cX9_go 159 = .ok (.invokevirtual 201, 3) := by decide +kernel
theorem dX9_go_162 : decode cX9_go 162 = .ok (.ifCond .eq 113, 3) := by decide +kernel
theorem dX9_go_165 : decode cX9_go 165 = .ok (.aload_n 0, 1) := by decide +kernel
theorem dX9_go_166 : decode cX9_go 166 = .ok (.iconst 0, 1) := by decide +kernel
theorem dX9_go_167 : decode cX9_go 167 = .ok (.putfield 198, 3) := by decide +kernel
theorem dX9_go_170 : decode cX9_go 170 = .ok (.aload_n 0, 1) := by decide +kernel
theorem dX9_go_171 : decode cX9_go 171 = .ok (.aload_n 0, 1) := by decide +kernel
theorem dX9_go_172 : decode cX9_go 172 = .ok (.getfield 183, 3) := by decide +kernel
theorem dX9_go_175 : decode cX9_go 175 = .ok (.invokevirtual 201, 3) := by decide +kernel
theorem dX9_go_178 : decode cX9_go 178 = .ok (.ifCond .eq 60, 3) := by decide +kernel
theorem dX9_go_181 : decode cX9_go 181 = .ok (.aload_n 0, 1) := by decide +kernel
theorem dX9_go_182 : decode cX9_go 182 = .ok (.aload_n 0, 1) := by decide +kernel
theorem dX9_go_183 : decode cX9_go 183 = .ok (.getfield 183, 3) := by decide +kernel
theorem dX9_go_186 : decode cX9_go 186 = .ok (.aload_n 0, 1) := by decide +kernel
theorem dX9_go_187 : decode cX9_go 187 = .ok (.getfield 186, 3) := by decide +kernel
theorem dX9_go_190 : decode cX9_go 190 = .ok (.isub, 1) := by decide +kernel
theorem dX9_go_191 : decode cX9_go 191 = .ok (.iconst 4, 1) := by decide +kernel
theorem dX9_go_192 : decode cX9_go 192 = .ok (.if_icmp .ge 26, 3) := by decide +kernel
theorem dX9_go_195 : decode cX9_go 195 = .ok (.bipush 10, 2) := by decide +kernel
theorem dX9_go_197 : decode cX9_go 197 = .ok (.aload_n 0, 1) := by decide +kernel
theorem dX9_go_198 : decode cX9_go 198 = .ok (.getfield 198, 3) := by decide +kernel
theorem dX9_go_201 : decode cX9_go 201 = .ok (.imul, 1) := by decide +kernel
theorem dX9_go_202 : decode cX9_go 202 = .ok (.aload_n 0, 1) := by decide +kernel
theorem dX9_go_203 : decode cX9_go 203 = .ok (.getfield 22, 3) := by decide +kernel
theorem dX9_go_206 : decode cX9_go 206 = .ok (.aload_n 0, 1) := by decide +kernel
theorem dX9_go_207 : decode cX9_go 207 = .ok (.getfield 183, 3) := by decide +kernel
theorem dX9_go_210 : decode cX9_go 210 = .ok (.iaload, 1) := by decide +kernel
theorem dX9_go_211 : decode cX9_go 211 = .ok (.iadd, 1) := by decide +kernel
theorem dX9_go_212 : decode cX9_go 212 = .ok (.bipush 48, 2) := by decide +kernel
theorem dX9_go_214 : decode cX9_go 214 = .ok (.isub, 1) := by decide +kernel
theorem dX9_go_215 : decode cX9_go 215 = .ok (.goto 7, 3) := by decide +kernel
theorem dX9_go_218 : decode cX9_go 218 = .ok (.aload_n 0, 1) := by decide +kernel
theorem dX9_go_219 : decode cX9_go 219 = .ok (.getfield 198, 3) := by decide +kernel
theorem dX9_go_222 : decode cX9_go 222 = .ok (.putfield 198, 3) := by decide +kernel
theorem dX9_go_225 : decode cX9_go 225 = .ok (.aload_n 0, 1) := by decide +kernel
theorem dX9_go_226 : decode cX9_go 226 = .ok (.dup, 1) := by decide +kernel
theorem dX9_go_227 : decode cX9_go 227 = .ok (.getfield 183, 3) := by decide +kernel
theorem dX9_go_230 : decode cX9_go 230 = .ok (.iconst 1, 1) := by decide +kernel
theorem dX9_go_231 : decode cX9_go 231 = .ok (.iadd, 1) := by decide +kernel
theorem dX9_go_232 : decode cX9_go 232 = .ok (.putfield 183, 3) := by decide +kernel
theorem dX9_go_235 : decode cX9_go 235 = .ok (.goto (-65), 3) := by decide +kernel
theorem dX9_go_238 : decode cX9_go 238 = .ok (.aload_n 0, 1) := by decide +kernel
theorem dX9_go_239 : decode cX9_go 239 = .ok (.iload_n 1, 1) := by decide +kernel
theorem dX9_go_240 : decode cX9_go 240 = .ok (.ifCond .ne 16, 3) := by decide +kernel
theorem dX9_go_243 : decode cX9_go 243 = .ok (.aload_n 0, 1) := by decide +kernel
theorem dX9_go_244 : decode cX9_go 244 = .ok (.getfield 183, 3) := by decide +kernel
theorem dX9_go_247 : decode cX9_go 247 = .ok (.aload_n 0, 1) := by decide +kernel
theorem dX9_go_248 : decode cX9_go 248 = .ok (.getfield 186, 3) := by decide +kernel
theorem dX9_go_251 : decode cX9_go 251 = .ok (.isub, 1) := by decide +kernel
theorem dX9_go_252 : decode cX9_go 252 = .ok (.iconst 4, 1) := by decide +kernel
theorem dX9_go_253 : decode cX9_go 253 = .ok (.if_icmp .le 7, 3) := by decide +kernel
theorem dX9_go_256 : decode cX9_go 256 = .ok (.iconst 4, 1) := by decide +kernel
theorem dX9_go_257 : decode cX9_go 257 = .ok (.goto 4, 3) := by decide +kernel
theorem dX9_go_260 : decode cX9_go 260 = .ok (.iconst 2, 1) := by decide +kernel
theorem dX9_go_261 : decode cX9_go 261 = .ok (.putfield 192, 3) := by decide +kernel
theorem dX9_go_264 : decode cX9_go 264 = .ok (.aload_n 0, 1) := by decide +kernel
theorem dX9_go_265 : decode cX9_go 265 = .ok (.aload_n 0, 1) := by decide +kernel
theorem dX9_go_266 : decode cX9_go 266 = .ok (.getfield 183, 3) := by decide +kernel
theorem dX9_go_269 : decode cX9_go 269 = .ok (.putfield 189, 3) := by decide +kernel
theorem dX9_go_272 : decode cX9_go 272 = .ok (.goto 31, 3) := by decide +kernel
theorem dX9_go_275 : decode cX9_go 275 = .ok (.aload_n 0, 1) := by decide +kernel
theorem dX9_go_276 : decode cX9_go 276 = .ok (.iconst 3, 1) := by decide +kernel
theorem dX9_go_277 : decode cX9_go 277 = .ok (.putfield 192, 3) := by decide +kernel
theorem dX9_go_280 : decode cX9_go 280 = .ok (.aload_n 0, 1) := by decide +kernel
theorem dX9_go_281 : decode cX9_go 281 = .ok (.aload_n 0, 1) := by decide +kernel
theorem dX9_go_282 : decode cX9_go 282 = .ok (.getfield 22, 3) := by decide +kernel
theorem dX9_go_285 : decode cX9_go 285 = .ok (.aload_n 0, 1) := by decide +kernel
theorem dX9_go_286 : decode cX9_go 286 = .ok (.getfield 186, 3) := by decide +kernel
theorem dX9_go_289 : decode cX9_go 289 = .ok (.iaload, 1) := by decide +kernel
theorem dX9_go_290 : decode cX9_go 290 = .ok (.putfield 198, 3) := by decide +kernel
theorem dX9_go_293 : decode cX9_go 293 = .ok (.aload_n 0, 1) := by decide +kernel
theorem dX9_go_294 : decode cX9_go 294 = .ok (.dup, 1) := by decide +kernel
theorem dX9_go_295 : decode cX9_go 295 = .ok (.getfield 183, 3) := by decide +kernel
theorem dX9_go_298 : decode cX9_go 298 = .ok (.iconst 1, 1) := by decide +kernel
theorem dX9_go_299 : decode cX9_go 299 = .ok (.iadd, 1) := by decide +kernel
theorem dX9_go_300 : decode cX9_go 300 = .ok (.putfield 183, 3) := by decide +kernel
theorem dX9_go_303 : decode cX9_go 303 = .ok (.return_, 1) := by decide +kernel
theorem dX9_takesKey_0 : decode cX9_takesKey 0 = .ok (.aload_n 0, 1) := by decide +kernel
theorem dX9_takesKey_1 : decode cX9_takesKey 1 = .ok (.getfield 192, 3) := by decide +kernel
theorem dX9_takesKey_4 : decode cX9_takesKey 4 = .ok (.iconst 1, 1) := by decide +kernel
theorem dX9_takesKey_5 : decode cX9_takesKey 5 = .ok (.if_icmp .eq 5, 3) := by decide +kernel
theorem dX9_takesKey_8 : decode cX9_takesKey 8 = .ok (.iconst 0, 1) := by decide +kernel
theorem dX9_takesKey_9 : decode cX9_takesKey 9 = .ok (.ireturn, 1) := by decide +kernel
theorem dX9_takesKey_10 : decode cX9_takesKey 10 = .ok (.iconst 0, 1) := by decide +kernel
theorem dX9_takesKey_11 : decode cX9_takesKey 11 = .ok (.istore_n 1, 1) := by decide +kernel
theorem dX9_takesKey_12 : decode cX9_takesKey 12 = .ok (.iload_n 1, 1) := by decide +kernel
theorem dX9_takesKey_13 : decode cX9_takesKey 13 = .ok (.iconst 3, 1) := by decide +kernel
theorem dX9_takesKey_14 : decode cX9_takesKey 14 = .ok (.if_icmp .ge 113, 3) := by decide +kernel
theorem dX9_takesKey_17 : decode cX9_takesKey 17 = .ok (.aload_n 0, 1) := by decide +kernel
theorem dX9_takesKey_18 : decode cX9_takesKey 18 = .ok (.getfield 29, 3) := by decide +kernel
theorem dX9_takesKey_21 : decode cX9_takesKey 21 = .ok (.iload_n 1, 1) := by decide +kernel
theorem dX9_takesKey_22 : decode cX9_takesKey 22 = .ok (.iconst 1, 1) := by decide +kernel
theorem dX9_takesKey_23 : decode cX9_takesKey 23 = .ok (.iadd, 1) := by decide +kernel
theorem dX9_takesKey_24 : decode cX9_takesKey 24 = .ok (.iaload, 1) := by decide +kernel
theorem dX9_takesKey_25 : decode cX9_takesKey 25 = .ok (.aload_n 0, 1) := by decide +kernel
theorem dX9_takesKey_26 : decode cX9_takesKey 26 = .ok (.getfield 29, 3) := by decide +kernel
theorem dX9_takesKey_29 : decode cX9_takesKey 29 = .ok (.iload_n 1, 1) := by decide +kernel
theorem dX9_takesKey_30 : decode cX9_takesKey 30 = .ok (.iaload, 1) := by decide +kernel
theorem dX9_takesKey_31 : decode cX9_takesKey 31 = .ok (.isub, 1) := by decide +kernel
theorem dX9_takesKey_32 : decode cX9_takesKey 32 = .ok (.istore_n 2, 1) := by decide +kernel
theorem dX9_takesKey_33 : decode cX9_takesKey 33 = .ok (.iload_n 2, 1) := by decide +kernel
theorem dX9_takesKey_34 : decode cX9_takesKey 34 = .ok (.aload_n 0, 1) := by decide +kernel
theorem dX9_takesKey_35 : decode cX9_takesKey 35 = .ok (.getfield 183, 3) := by decide +kernel
theorem dX9_takesKey_38 : decode cX9_takesKey 38 = .ok (.aload_n 0, 1) := by decide +kernel
theorem dX9_takesKey_39 : decode cX9_takesKey 39 = .ok (.getfield 186, 3) := by decide +kernel
theorem dX9_takesKey_42 : decode cX9_takesKey 42 = .ok (.isub, 1) := by decide +kernel
theorem dX9_takesKey_43 : decode cX9_takesKey 43 = .ok (.if_icmp .ne 7, 3) := by decide +kernel
theorem dX9_takesKey_46 : decode cX9_takesKey 46 = .ok (.iconst 1, 1) := by decide +kernel
theorem dX9_takesKey_47 : decode cX9_takesKey 47 = .ok (.goto 4, 3) := by decide +kernel
theorem dX9_takesKey_50 : decode cX9_takesKey 50 = .ok (.iconst 0, 1) := by decide +kernel
theorem dX9_takesKey_51 : decode cX9_takesKey 51 = .ok (.istore_n 3, 1) := by decide +kernel
theorem dX9_takesKey_52 : decode cX9_takesKey 52 = .ok (.iconst 0, 1) := by decide +kernel
theorem dX9_takesKey_53 : decode cX9_takesKey 53 = .ok (.istore 4, 2) := by decide +kernel
theorem dX9_takesKey_55 : decode cX9_takesKey 55 = .ok (.iload 4, 2) := by decide +kernel
theorem dX9_takesKey_57 : decode cX9_takesKey 57 = .ok (.iload_n 2, 1) := by decide +kernel
theorem dX9_takesKey_58 : decode cX9_takesKey 58 = .ok (.if_icmp .ge 48, 3) := by decide +kernel
theorem dX9_takesKey_61 : decode cX9_takesKey 61 = .ok (.iload_n 3, 1) := by decide +kernel
theorem dX9_takesKey_62 : decode cX9_takesKey 62 = .ok (.ifCond .eq 44, 3) := by decide +kernel
theorem dX9_takesKey_65 : decode cX9_takesKey 65 = .ok (.aload_n 0, 1) := by decide +kernel
theorem dX9_takesKey_66 : decode cX9_takesKey 66 = .ok (.getfield 22, 3) := by decide +kernel
theorem dX9_takesKey_69 : decode cX9_takesKey 69 = .ok (.aload_n 0, 1) := by decide +kernel
theorem dX9_takesKey_70 : decode cX9_takesKey 70 = .ok (.getfield 186, 3) := by decide +kernel
theorem dX9_takesKey_73 : decode cX9_takesKey 73 = .ok (.iload 4, 2) := by decide +kernel
theorem dX9_takesKey_75 : decode cX9_takesKey 75 = .ok (.iadd, 1) := by decide +kernel
theorem dX9_takesKey_76 : decode cX9_takesKey 76 = .ok (.iaload, 1) := by decide +kernel
theorem dX9_takesKey_77 : decode cX9_takesKey 77 = .ok (.aload_n 0, 1) := by decide +kernel
theorem dX9_takesKey_78 : decode cX9_takesKey 78 = .ok (.getfield 25, 3) := by decide +kernel
theorem dX9_takesKey_81 : decode cX9_takesKey 81 = .ok (.aload_n 0, 1) := by decide +kernel
theorem dX9_takesKey_82 : decode cX9_takesKey 82 = .ok (.getfield 29, 3) := by decide +kernel
theorem dX9_takesKey_85 : decode cX9_takesKey 85 = .ok (.iload_n 1, 1) := by decide +kernel
theorem dX9_takesKey_86 : decode cX9_takesKey 86 = .ok (.iaload, 1) := by decide +kernel
theorem dX9_takesKey_87 : decode cX9_takesKey 87 = .ok (.iload 4, 2) := by decide +kernel
theorem dX9_takesKey_89 : decode cX9_takesKey 89 = .ok (.iadd, 1) := by decide +kernel
theorem dX9_takesKey_90 : decode cX9_takesKey 90 = .ok (.caload, 1) := by decide +kernel
theorem dX9_takesKey_91 : decode cX9_takesKey 91 = .ok (.if_icmp .ne 7, 3) := by decide +kernel
theorem dX9_takesKey_94 : decode cX9_takesKey 94 = .ok (.iconst 1, 1) := by decide +kernel
theorem dX9_takesKey_95 : decode cX9_takesKey 95 = .ok (.goto 4, 3) := by decide +kernel
theorem dX9_takesKey_98 : decode cX9_takesKey 98 = .ok (.iconst 0, 1) := by decide +kernel
theorem dX9_takesKey_99 : decode cX9_takesKey 99 = .ok (.istore_n 3, 1) := by decide +kernel
theorem dX9_takesKey_100 : decode cX9_takesKey 100 = .ok (.iinc 4 1, 3) := by decide +kernel
theorem dX9_takesKey_103 : decode cX9_takesKey 103 = .ok (.goto (-48), 3) := by decide +kernel
theorem dX9_takesKey_106 : decode cX9_takesKey 106 = .ok (.iload_n 3, 1) := by decide +kernel
theorem dX9_takesKey_107 : decode cX9_takesKey 107 = .ok (.ifCond .eq 14, 3) := by decide +kernel
theorem dX9_takesKey_110 : decode cX9_takesKey 110 = .ok (.aload_n 0, 1) := by decide +kernel
theorem dX9_takesKey_111 : decode cX9_takesKey 111 = .ok (.iload_n 1, 1) := by decide +kernel
theorem dX9_takesKey_112 : decode cX9_takesKey 112 = .ok (.putfield 204, 3) := by decide +kernel
theorem dX9_takesKey_115 : decode cX9_takesKey 115 = .ok (.aload_n 0, 1) := by decide +kernel
theorem dX9_takesKey_116 : decode cX9_takesKey 116 = .ok (.invokevirtual 207, 3) := by decide +kernel
theorem dX9_takesKey_119 : decode cX9_takesKey 119 = .ok (.iconst 1, 1) := by decide +kernel
theorem dX9_takesKey_120 : decode cX9_takesKey 120 = .ok (.ireturn, 1) := by decide +kernel
theorem dX9_takesKey_121 : decode cX9_takesKey 121 = .ok (.iinc 1 1, 3) := by decide +kernel
theorem dX9_takesKey_124 : decode cX9_takesKey 124 = .ok (.goto (-112), 3) := by decide +kernel
theorem dX9_takesKey_127 : decode cX9_takesKey 127 = .ok (.iconst 0, 1) := by decide +kernel
theorem dX9_takesKey_128 : decode cX9_takesKey 128 = .ok (.ireturn, 1) := by decide +kernel
theorem dX9_nameOf_0 : decode cX9_nameOf 0 = .ok (.aload_n 0, 1) := by decide +kernel
theorem dX9_nameOf_1 : decode cX9_nameOf 1 = .ok (.getfield 204, 3) := by decide +kernel
theorem dX9_nameOf_4 : decode cX9_nameOf 4 = .ok (.lookupswitch 82 #[(0, 28), (1, 60)], 28) := by decide +kernel
theorem dX9_nameOf_32 : decode cX9_nameOf 32 = .ok (.iload_n 1, 1) := by decide +kernel
theorem dX9_nameOf_33 : decode cX9_nameOf 33 = .ok (.bipush 99, 2) := by decide +kernel
theorem dX9_nameOf_35 : decode cX9_nameOf 35 = .ok (.if_icmp .ne 7, 3) := by decide +kernel
theorem dX9_nameOf_38 : decode cX9_nameOf 38 = .ok (.iconst 0, 1) := by decide +kernel
theorem dX9_nameOf_39 : decode cX9_nameOf 39 = .ok (.goto 24, 3) := by decide +kernel
theorem dX9_nameOf_42 : decode cX9_nameOf 42 = .ok (.iload_n 1, 1) := by decide +kernel
theorem dX9_nameOf_43 : decode cX9_nameOf 43 = .ok (.bipush 103, 2) := by decide +kernel
theorem dX9_nameOf_45 : decode cX9_nameOf 45 = .ok (.if_icmp .ne 7, 3) := by decide +kernel
theorem dX9_nameOf_48 : decode cX9_nameOf 48 = .ok (.iconst 1, 1) := by decide +kernel
theorem dX9_nameOf_49 : decode cX9_nameOf 49 = .ok (.goto 14, 3) := by decide +kernel
theorem dX9_nameOf_52 : decode cX9_nameOf 52 = .ok (.iload_n 1, 1) := by decide +kernel
theorem dX9_nameOf_53 : decode cX9_nameOf 53 = .ok (.bipush 115, 2) := by decide +kernel
theorem dX9_nameOf_55 : decode cX9_nameOf 55 = .ok (.if_icmp .ne 7, 3) := by decide +kernel
theorem dX9_nameOf_58 : decode cX9_nameOf 58 = .ok (.iconst 2, 1) := by decide +kernel
theorem dX9_nameOf_59 : decode cX9_nameOf 59 = .ok (.goto 4, 3) := by decide +kernel
theorem dX9_nameOf_62 : decode cX9_nameOf 62 = .ok (.iconst (-1), 1) := by decide +kernel
theorem dX9_nameOf_63 : decode cX9_nameOf 63 = .ok (.ireturn, 1) := by decide +kernel
theorem dX9_nameOf_64 : decode cX9_nameOf 64 = .ok (.iload_n 1, 1) := by decide +kernel
theorem dX9_nameOf_65 : decode cX9_nameOf 65 = .ok (.bipush 99, 2) := by decide +kernel
theorem dX9_nameOf_67 : decode cX9_nameOf 67 = .ok (.if_icmp .ne 7, 3) := by decide +kernel
theorem dX9_nameOf_70 : decode cX9_nameOf 70 = .ok (.iconst 0, 1) := by decide +kernel
theorem dX9_nameOf_71 : decode cX9_nameOf 71 = .ok (.goto 14, 3) := by decide +kernel
theorem dX9_nameOf_74 : decode cX9_nameOf 74 = .ok (.iload_n 1, 1) := by decide +kernel
theorem dX9_nameOf_75 : decode cX9_nameOf 75 = .ok (.bipush 104, 2) := by decide +kernel
theorem dX9_nameOf_77 : decode cX9_nameOf 77 = .ok (.if_icmp .ne 7, 3) := by decide +kernel
theorem dX9_nameOf_80 : decode cX9_nameOf 80 = .ok (.iconst 1, 1) := by decide +kernel
theorem dX9_nameOf_81 : decode cX9_nameOf 81 = .ok (.goto 4, 3) := by decide +kernel
theorem dX9_nameOf_84 : decode cX9_nameOf 84 = .ok (.iconst (-1), 1) := by decide +kernel
theorem dX9_nameOf_85 : decode cX9_nameOf 85 = .ok (.ireturn, 1) := by decide +kernel
theorem dX9_nameOf_86 : decode cX9_nameOf 86 = .ok (.iload_n 1, 1) := by decide +kernel
theorem dX9_nameOf_87 : decode cX9_nameOf 87 = .ok (.bipush 112, 2) := by decide +kernel
theorem dX9_nameOf_89 : decode cX9_nameOf 89 = .ok (.if_icmp .ne 7, 3) := by decide +kernel
theorem dX9_nameOf_92 : decode cX9_nameOf 92 = .ok (.iconst 0, 1) := by decide +kernel
theorem dX9_nameOf_93 : decode cX9_nameOf 93 = .ok (.goto 14, 3) := by decide +kernel
theorem dX9_nameOf_96 : decode cX9_nameOf 96 = .ok (.iload_n 1, 1) := by decide +kernel
theorem dX9_nameOf_97 : decode cX9_nameOf 97 = .ok (.bipush 104, 2) := by decide +kernel
theorem dX9_nameOf_99 : decode cX9_nameOf 99 = .ok (.if_icmp .ne 7, 3) := by decide +kernel
theorem dX9_nameOf_102 : decode cX9_nameOf 102 = .ok (.iconst 1, 1) := by decide +kernel
theorem dX9_nameOf_103 : decode cX9_nameOf 103 = .ok (.goto 4, 3) := by decide +kernel
theorem dX9_nameOf_106 : decode cX9_nameOf 106 = .ok (.iconst (-1), 1) := by decide +kernel
theorem dX9_nameOf_107 : decode cX9_nameOf 107 = .ok (.ireturn, 1) := by decide +kernel
theorem dX9_rank_0 : decode cX9_rank 0 = .ok (.iload_n 0, 1) := by decide +kernel
theorem dX9_rank_1 : decode cX9_rank 1 = .ok (.iconst (-1), 1) := by decide +kernel
theorem dX9_rank_2 : decode cX9_rank 2 = .ok (.if_icmp .ne 7, 3) := by decide +kernel
theorem dX9_rank_5 : decode cX9_rank 5 = .ok (.iconst 1, 1) := by decide +kernel
theorem dX9_rank_6 : decode cX9_rank 6 = .ok (.goto 45, 3) := by decide +kernel
theorem dX9_rank_9 : decode cX9_rank 9 = .ok (.iload_n 0, 1) := by decide +kernel
theorem dX9_rank_10 : decode cX9_rank 10 = .ok (.bipush (-2), 2) := by decide +kernel
theorem dX9_rank_12 : decode cX9_rank 12 = .ok (.if_icmp .ne 7, 3) := by decide +kernel
theorem dX9_rank_15 : decode cX9_rank 15 = .ok (.iconst 2, 1) := by decide +kernel
theorem dX9_rank_16 : decode cX9_rank 16 = .ok (.goto 35, 3) := by decide +kernel
theorem dX9_rank_19 : decode cX9_rank 19 = .ok (.iload_n 0, 1) := by decide +kernel
theorem dX9_rank_20 : decode cX9_rank 20 = .ok (.bipush (-5), 2) := by decide +kernel
theorem dX9_rank_22 : decode cX9_rank 22 = .ok (.if_icmp .lt 7, 3) := by decide +kernel
theorem dX9_rank_25 : decode cX9_rank 25 = .ok (.iconst 3, 1) := by decide +kernel
theorem dX9_rank_26 : decode cX9_rank 26 = .ok (.goto 25, 3) := by decide +kernel
theorem dX9_rank_29 : decode cX9_rank 29 = .ok (.iload_n 0, 1) := by decide +kernel
theorem dX9_rank_30 : decode cX9_rank 30 = .ok (.bipush (-7), 2) := by decide +kernel
theorem dX9_rank_32 : decode cX9_rank 32 = .ok (.if_icmp .lt 7, 3) := by decide +kernel
theorem dX9_rank_35 : decode cX9_rank 35 = .ok (.iconst 4, 1) := by decide +kernel
theorem dX9_rank_36 : decode cX9_rank 36 = .ok (.goto 15, 3) := by decide +kernel
theorem dX9_rank_39 : decode cX9_rank 39 = .ok (.iload_n 0, 1) := by decide +kernel
theorem dX9_rank_40 : decode cX9_rank 40 = .ok (.bipush (-9), 2) := by decide +kernel
theorem dX9_rank_42 : decode cX9_rank 42 = .ok (.if_icmp .lt 7, 3) := by decide +kernel
theorem dX9_rank_45 : decode cX9_rank 45 = .ok (.iconst 5, 1) := by decide +kernel
theorem dX9_rank_46 : decode cX9_rank 46 = .ok (.goto 5, 3) := by decide +kernel
theorem dX9_rank_49 : decode cX9_rank 49 = .ok (.bipush 6, 2) := by decide +kernel
theorem dX9_rank_51 : decode cX9_rank 51 = .ok (.ireturn, 1) := by decide +kernel
theorem dX9_settle_0 : decode cX9_settle 0 = .ok (.aload_n 0, 1) := by decide +kernel
theorem dX9_settle_1 : decode cX9_settle 1 = .ok (.getfield 210, 3) := by decide +kernel
theorem dX9_settle_4 : decode cX9_settle 4 = .ok (.ifCond .le 78, 3) := by decide +kernel
theorem dX9_settle_7 : decode cX9_settle 7 = .ok (.aload_n 0, 1) := by decide +kernel
theorem dX9_settle_8 : decode cX9_settle 8 = .ok (.getfield 35, 3) := by decide +kernel
theorem dX9_settle_11 : decode cX9_settle 11 = .ok (.aload_n 0, 1) := by decide +kernel
theorem dX9_settle_12 : decode cX9_settle 12 = .ok (.getfield 210, 3) := by decide +kernel
theorem dX9_settle_15 : decode cX9_settle 15 = .ok (.iconst 1, 1) := by decide +kernel
theorem dX9_settle_16 : decode cX9_settle 16 = .ok (.isub, 1) := by decide +kernel
theorem dX9_settle_17 : decode cX9_settle 17 = .ok (.iaload, 1) := by decide +kernel
theorem dX9_settle_18 : decode cX9_settle 18 = .ok (.bipush (-11), 2) := by decide +kernel
theorem dX9_settle_20 : decode cX9_settle 20 = .ok (.if_icmp .eq 62, 3) := by decide +kernel
theorem dX9_settle_23 : decode cX9_settle 23 = .ok (.aload_n 0, 1) := by decide +kernel
theorem dX9_settle_24 : decode cX9_settle 24 = .ok (.getfield 35, 3) := by decide +kernel
theorem dX9_settle_27 : decode cX9_settle 27 = .ok (.aload_n 0, 1) := by decide +kernel
theorem dX9_settle_28 : decode cX9_settle 28 = .ok (.getfield 210, 3) := by decide +kernel
theorem dX9_settle_31 : decode cX9_settle 31 = .ok (.iconst 1, 1) := by decide +kernel
theorem dX9_settle_32 : decode cX9_settle 32 = .ok (.isub, 1) := by decide +kernel
theorem dX9_settle_33 : decode cX9_settle 33 = .ok (.iaload, 1) := by decide +kernel
theorem dX9_settle_34 : decode cX9_settle 34 = .ok (.invokestatic 213, 3) := by decide +kernel
theorem dX9_settle_37 : decode cX9_settle 37 = .ok (.iload_n 1, 1) := by decide +kernel
theorem dX9_settle_38 : decode cX9_settle 38 = .ok (.if_icmp .lt 44, 3) := by decide +kernel
theorem dX9_settle_41 : decode cX9_settle 41 = .ok (.aload_n 0, 1) := by decide +kernel
theorem dX9_settle_42 : decode cX9_settle 42 = .ok (.dup, 1) := by decide +kernel
theorem dX9_settle_43 : decode cX9_settle 43 = .ok (.getfield 210, 3) := by decide +kernel
theorem dX9_settle_46 : decode cX9_settle 46 = .ok (.iconst 1, 1) := by decide +kernel
theorem dX9_settle_47 : decode cX9_settle 47 = .ok (.isub, 1) := by decide +kernel
theorem dX9_settle_48 : decode cX9_settle 48 = .ok (.putfield 210, 3) := by decide +kernel
theorem dX9_settle_51 : decode cX9_settle 51 = .ok (.aload_n 0, 1) := by decide +kernel
theorem dX9_settle_52 : decode cX9_settle 52 = .ok (.getfield 32, 3) := by decide +kernel
theorem dX9_settle_55 : decode cX9_settle 55 = .ok (.aload_n 0, 1) := by decide +kernel
theorem dX9_settle_56 : decode cX9_settle 56 = .ok (.getfield 216, 3) := by decide +kernel
theorem dX9_settle_59 : decode cX9_settle 59 = .ok (.aload_n 0, 1) := by decide +kernel
theorem dX9_settle_60 : decode cX9_settle 60 = .ok (.getfield 35, 3) := by decide +kernel
theorem dX9_settle_63 : decode cX9_settle 63 = .ok (.aload_n 0, 1) := by decide +kernel
theorem dX9_settle_64 : decode cX9_settle 64 = .ok (.getfield 210, 3) := by decide +kernel
theorem dX9_settle_67 : decode cX9_settle 67 = .ok (.iaload, 1) := by decide +kernel
theorem dX9_settle_68 : decode cX9_settle 68 = .ok (.iastore, 1) := by decide +kernel
theorem dX9_settle_69 : decode cX9_settle 69 = .ok (.aload_n 0, 1) := by decide +kernel
theorem dX9_settle_70 : decode cX9_settle 70 = .ok (.dup, 1) := by decide +kernel
theorem dX9_settle_71 : decode cX9_settle 71 = .ok (.getfield 216, 3) := by decide +kernel
theorem dX9_settle_74 : decode cX9_settle 74 = .ok (.iconst 1, 1) := by decide +kernel
theorem dX9_settle_75 : decode cX9_settle 75 = .ok (.iadd, 1) := by decide +kernel
theorem dX9_settle_76 : decode cX9_settle 76 = .ok (.putfield 216, 3) := by decide +kernel
theorem dX9_settle_79 : decode cX9_settle 79 = .ok (.goto (-79), 3) := by decide +kernel
theorem dX9_settle_82 : decode cX9_settle 82 = .ok (.return_, 1) := by decide +kernel
theorem dX9_signHere_0 : decode cX9_signHere 0 = .ok (.aload_n 0, 1) := by decide +kernel
theorem dX9_signHere_1 : decode cX9_signHere 1 = .ok (.getfield 192, 3) := by decide +kernel
theorem dX9_signHere_4 : decode cX9_signHere 4 = .ok (.iconst 3, 1) := by decide +kernel
theorem dX9_signHere_5 : decode cX9_signHere 5 = .ok (.if_icmp .eq 5, 3) := by decide +kernel
theorem dX9_signHere_8 : decode cX9_signHere 8 = .ok (.iconst 0, 1) := by decide +kernel
theorem dX9_signHere_9 : decode cX9_signHere 9 = .ok (.ireturn, 1) := by decide +kernel
theorem dX9_signHere_10 : decode cX9_signHere 10 = .ok (.aload_n 0, 1) := by decide +kernel
theorem dX9_signHere_11 : decode cX9_signHere 11 = .ok (.getfield 198, 3) := by decide +kernel
theorem dX9_signHere_14 : decode cX9_signHere 14 = .ok (.lookupswitch 108 #[(38, 84), (42, 102), (43, 96), (45, 99), (47, 105), (60, 87), (61, 90), (62, 93), (124, 82)], 82) := by decide +kernel
theorem dX9_signHere_96 : decode cX9_signHere 96 = .ok (.iconst (-1), 1) := by decide +kernel
theorem dX9_signHere_97 : decode cX9_signHere 97 = .ok (.ireturn, 1) := by decide +kernel
theorem dX9_signHere_98 : decode cX9_signHere 98 = .ok (.bipush (-2), 2) := by decide +kernel
theorem dX9_signHere_100 : decode cX9_signHere 100 = .ok (.ireturn, 1) := by decide +kernel
theorem dX9_signHere_101 : decode cX9_signHere 101 = .ok (.bipush (-3), 2) := by decide +kernel
theorem dX9_signHere_103 : decode cX9_signHere 103 = .ok (.ireturn, 1) := by decide +kernel
theorem dX9_signHere_104 : decode cX9_signHere 104 = .ok (.bipush (-4), 2) := by decide +kernel
theorem dX9_signHere_106 : decode cX9_signHere 106 = .ok (.ireturn, 1) := by decide +kernel
theorem dX9_signHere_107 : decode cX9_signHere 107 = .ok (.bipush (-5), 2) := by decide +kernel
theorem dX9_signHere_109 : decode cX9_signHere 109 = .ok (.ireturn, 1) := by decide +kernel
theorem dX9_signHere_110 : decode cX9_signHere 110 = .ok (.bipush (-6), 2) := by decide +kernel
theorem dX9_signHere_112 : decode cX9_signHere 112 = .ok (.ireturn, 1) := by decide +kernel
theorem dX9_signHere_113 : decode cX9_signHere 113 = .ok (.bipush (-7), 2) := by decide +kernel
theorem dX9_signHere_115 : decode cX9_signHere 115 = .ok (.ireturn, 1) := by decide +kernel
theorem dX9_signHere_116 : decode cX9_signHere 116 = .ok (.bipush (-8), 2) := by decide +kernel
theorem dX9_signHere_118 : decode cX9_signHere 118 = .ok (.ireturn, 1) := by decide +kernel
theorem dX9_signHere_119 : decode cX9_signHere 119 = .ok (.bipush (-9), 2) := by decide +kernel
theorem dX9_signHere_121 : decode cX9_signHere 121 = .ok (.ireturn, 1) := by decide +kernel
theorem dX9_signHere_122 : decode cX9_signHere 122 = .ok (.iconst 0, 1) := by decide +kernel
theorem dX9_signHere_123 : decode cX9_signHere 123 = .ok (.ireturn, 1) := by decide +kernel
theorem dX9_takesPart_0 : decode cX9_takesPart 0 = .ok (.aload_n 0, 1) := by decide +kernel
theorem dX9_takesPart_1 : decode cX9_takesPart 1 = .ok (.getfield 192, 3) := by decide +kernel
theorem dX9_takesPart_4 : decode cX9_takesPart 4 = .ok (.iconst 1, 1) := by decide +kernel
theorem dX9_takesPart_5 : decode cX9_takesPart 5 = .ok (.if_icmp .ne 31, 3) := by decide +kernel
theorem dX9_takesPart_8 : decode cX9_takesPart 8 = .ok (.aload_n 0, 1) := by decide +kernel
theorem dX9_takesPart_9 : decode cX9_takesPart 9 = .ok (.getfield 183, 3) := by decide +kernel
theorem dX9_takesPart_12 : decode cX9_takesPart 12 = .ok (.aload_n 0, 1) := by decide +kernel
theorem dX9_takesPart_13 : decode cX9_takesPart 13 = .ok (.getfield 186, 3) := by decide +kernel
theorem dX9_takesPart_16 : decode cX9_takesPart 16 = .ok (.isub, 1) := by decide +kernel
theorem dX9_takesPart_17 : decode cX9_takesPart 17 = .ok (.iconst 1, 1) := by decide +kernel
theorem dX9_takesPart_18 : decode cX9_takesPart 18 = .ok (.if_icmp .ne 18, 3) := by decide +kernel
theorem dX9_takesPart_21 : decode cX9_takesPart 21 = .ok (.aload_n 0, 1) := by decide +kernel
theorem dX9_takesPart_22 : decode cX9_takesPart 22 = .ok (.aload_n 0, 1) := by decide +kernel
theorem dX9_takesPart_23 : decode cX9_takesPart 23 = .ok (.getfield 198, 3) := by decide +kernel
theorem dX9_takesPart_26 : decode cX9_takesPart 26 = .ok (.invokevirtual 219, 3) := by decide +kernel
theorem dX9_takesPart_29 : decode cX9_takesPart 29 = .ok (.ifCond .lt 7, 3) := by decide +kernel
theorem dX9_takesPart_32 : decode cX9_takesPart 32 = .ok (.iconst 1, 1) := by decide +kernel
theorem dX9_takesPart_33 : decode cX9_takesPart 33 = .ok (.goto 4, 3) := by decide +kernel
theorem dX9_takesPart_36 : decode cX9_takesPart 36 = .ok (.iconst 0, 1) := by decide +kernel
theorem dX9_takesPart_37 : decode cX9_takesPart 37 = .ok (.istore_n 1, 1) := by decide +kernel
theorem dX9_takesPart_38 : decode cX9_takesPart 38 = .ok (.aload_n 0, 1) := by decide +kernel
theorem dX9_takesPart_39 : decode cX9_takesPart 39 = .ok (.getfield 192, 3) := by decide +kernel
theorem dX9_takesPart_42 : decode cX9_takesPart 42 = .ok (.iconst 2, 1) := by decide +kernel
theorem dX9_takesPart_43 : decode cX9_takesPart 43 = .ok (.if_icmp .eq 9, 3) := by decide +kernel
theorem dX9_takesPart_46 : decode cX9_takesPart 46 = .ok (.iload_n 1, 1) := by decide +kernel
theorem dX9_takesPart_47 : decode cX9_takesPart 47 = .ok (.ifCond .ne 5, 3) := by decide +kernel
theorem dX9_takesPart_50 : decode cX9_takesPart 50 = .ok (.iconst 0, 1) := by decide +kernel
theorem dX9_takesPart_51 : decode cX9_takesPart 51 = .ok (.ireturn, 1) := by decide +kernel
theorem dX9_takesPart_52 : decode cX9_takesPart 52 = .ok (.aload_n 0, 1) := by decide +kernel
theorem dX9_takesPart_53 : decode cX9_takesPart 53 = .ok (.getfield 32, 3) := by decide +kernel
theorem dX9_takesPart_56 : decode cX9_takesPart 56 = .ok (.aload_n 0, 1) := by decide +kernel
theorem dX9_takesPart_57 : decode cX9_takesPart 57 = .ok (.getfield 216, 3) := by decide +kernel
theorem dX9_takesPart_60 : decode cX9_takesPart 60 = .ok (.aload_n 0, 1) := by decide +kernel
theorem dX9_takesPart_61 : decode cX9_takesPart 61 = .ok (.getfield 192, 3) := by decide +kernel
theorem dX9_takesPart_64 : decode cX9_takesPart 64 = .ok (.iconst 2, 1) := by decide +kernel
theorem dX9_takesPart_65 : decode cX9_takesPart 65 = .ok (.if_icmp .ne 10, 3) := by decide +kernel
theorem dX9_takesPart_68 : decode cX9_takesPart 68 = .ok (.aload_n 0, 1) := by decide +kernel
theorem dX9_takesPart_69 : decode cX9_takesPart 69 = .ok (.getfield 198, 3) := by decide +kernel
theorem dX9_takesPart_72 : decode cX9_takesPart 72 = .ok (.goto 15, 3) := by decide +kernel
theorem dX9_takesPart_75 : decode cX9_takesPart 75 = .ok (.sipush 10000, 3) := by decide +kernel
theorem dX9_takesPart_78 : decode cX9_takesPart 78 = .ok (.aload_n 0, 1) := by decide +kernel
theorem dX9_takesPart_79 : decode cX9_takesPart 79 = .ok (.aload_n 0, 1) := by decide +kernel
theorem dX9_takesPart_80 : decode cX9_takesPart 80 = .ok (.getfield 198, 3) := by decide +kernel
theorem dX9_takesPart_83 : decode cX9_takesPart 83 = .ok (.invokevirtual 219, 3) := by decide +kernel
theorem dX9_takesPart_86 : decode cX9_takesPart 86 = .ok (.iadd, 1) := by decide +kernel
theorem dX9_takesPart_87 : decode cX9_takesPart 87 = .ok (.iastore, 1) := by decide +kernel
theorem dX9_takesPart_88 : decode cX9_takesPart 88 = .ok (.aload_n 0, 1) := by decide +kernel
theorem dX9_takesPart_89 : decode cX9_takesPart 89 = .ok (.dup, 1) := by decide +kernel
theorem dX9_takesPart_90 : decode cX9_takesPart 90 = .ok (.getfield 216, 3) := by decide +kernel
theorem dX9_takesPart_93 : decode cX9_takesPart 93 = .ok (.iconst 1, 1) := by decide +kernel
theorem dX9_takesPart_94 : decode cX9_takesPart 94 = .ok (.iadd, 1) := by decide +kernel
theorem dX9_takesPart_95 : decode cX9_takesPart 95 = .ok (.putfield 216, 3) := by decide +kernel
theorem dX9_takesPart_98 : decode cX9_takesPart 98 = .ok (.aload_n 0, 1) := by decide +kernel
theorem dX9_takesPart_99 : decode cX9_takesPart 99 = .ok (.dup, 1) := by decide +kernel
theorem dX9_takesPart_100 : decode cX9_takesPart 100 = .ok (.getfield 222, 3) := by decide +kernel
theorem dX9_takesPart_103 : decode cX9_takesPart 103 = .ok (.iconst 1, 1) := by decide +kernel
theorem dX9_takesPart_104 : decode cX9_takesPart 104 = .ok (.iadd, 1) := by decide +kernel
theorem dX9_takesPart_105 : decode cX9_takesPart 105 = .ok (.putfield 222, 3) := by decide +kernel
theorem dX9_takesPart_108 : decode cX9_takesPart 108 = .ok (.aload_n 0, 1) := by decide +kernel
theorem dX9_takesPart_109 : decode cX9_takesPart 109 = .ok (.bipush 6, 2) := by decide +kernel
theorem dX9_takesPart_111 : decode cX9_takesPart 111 = .ok (.invokevirtual 225, 3) := by decide +kernel
theorem dX9_takesPart_114 : decode cX9_takesPart 114 = .ok (.aload_n 0, 1) := by decide +kernel
theorem dX9_takesPart_115 : decode cX9_takesPart 115 = .ok (.invokevirtual 207, 3) := by decide +kernel
theorem dX9_takesPart_118 : decode cX9_takesPart 118 = .ok (.iconst 1, 1) := by decide +kernel
theorem dX9_takesPart_119 : decode cX9_takesPart 119 = .ok (.ireturn, 1) := by decide +kernel
theorem dX9_takesE_0 : decode cX9_takesE 0 = .ok (.iconst 0, 1) := by decide +kernel
theorem dX9_takesE_1 : decode cX9_takesE 1 = .ok (.istore_n 1, 1) := by decide +kernel
theorem dX9_takesE_2 : decode cX9_takesE 2 = .ok (.iconst 0, 1) := by decide +kernel
theorem dX9_takesE_3 : decode cX9_takesE 3 = .ok (.istore_n 2, 1) := by decide +kernel
theorem dX9_takesE_4 : decode cX9_takesE 4 = .ok (.iconst 1, 1) := by decide +kernel
theorem dX9_takesE_5 : decode cX9_takesE 5 = .ok (.istore_n 3, 1) := by decide +kernel
theorem dX9_takesE_6 : decode cX9_takesE 6 = .ok (.aload_n 0, 1) := by decide +kernel
theorem dX9_takesE_7 : decode cX9_takesE 7 = .ok (.iconst 0, 1) := by decide +kernel
theorem dX9_takesE_8 : decode cX9_takesE 8 = .ok (.putfield 216, 3) := by decide +kernel
theorem dX9_takesE_11 : decode cX9_takesE 11 = .ok (.aload_n 0, 1) := by decide +kernel
theorem dX9_takesE_12 : decode cX9_takesE 12 = .ok (.iconst 0, 1) := by decide +kernel
theorem dX9_takesE_13 : decode cX9_takesE 13 = .ok (.putfield 222, 3) := by decide +kernel
theorem dX9_takesE_16 : decode cX9_takesE 16 = .ok (.aload_n 0, 1) := by decide +kernel
theorem dX9_takesE_17 : decode cX9_takesE 17 = .ok (.iconst 0, 1) := by decide +kernel
theorem dX9_takesE_18 : decode cX9_takesE 18 = .ok (.putfield 210, 3) := by decide +kernel
theorem dX9_takesE_21 : decode cX9_takesE 21 = .ok (.aload_n 0, 1) := by decide +kernel
theorem dX9_takesE_22 : decode cX9_takesE 22 = .ok (.getfield 38, 3) := by decide +kernel
theorem dX9_takesE_25 : decode cX9_takesE 25 = .ok (.iconst 0, 1) := by decide +kernel
theorem dX9_takesE_26 : decode cX9_takesE 26 = .ok (.iconst 0, 1) := by decide +kernel
theorem dX9_takesE_27 : decode cX9_takesE 27 = .ok (.bastore, 1) := by decide +kernel
theorem dX9_takesE_28 : decode cX9_takesE 28 = .ok (.iload_n 3, 1) := by decide +kernel
theorem dX9_takesE_29 : decode cX9_takesE 29 = .ok (.ifCond .ne 10, 3) := by decide +kernel
theorem dX9_takesE_32 : decode cX9_takesE 32 = .ok (.aload_n 0, 1) := by decide +kernel
theorem dX9_takesE_33 : decode cX9_takesE 33 = .ok (.getfield 192, 3) := by decide +kernel
theorem dX9_takesE_36 : decode cX9_takesE 36 = .ok (.ifCond .eq 309, 3) := by decide +kernel
theorem dX9_takesE_39 : decode cX9_takesE 39 = .ok (.iload_n 3, 1) := by decide +kernel
theorem dX9_takesE_40 : decode cX9_takesE 40 = .ok (.ifCond .eq 140, 3) := by decide +kernel
theorem dX9_takesE_43 : decode cX9_takesE 43 = .ok (.aload_n 0, 1) := by decide +kernel
theorem dX9_takesE_44 : decode cX9_takesE 44 = .ok (.getfield 192, 3) := by decide +kernel
theorem dX9_takesE_47 : decode cX9_takesE 47 = .ok (.iconst 3, 1) := by decide +kernel
theorem dX9_takesE_48 : decode cX9_takesE 48 = .ok (.if_icmp .ne 49, 3) := by decide +kernel
theorem dX9_takesE_51 : decode cX9_takesE 51 = .ok (.aload_n 0, 1) := by decide +kernel
theorem dX9_takesE_52 : decode cX9_takesE 52 = .ok (.getfield 198, 3) := by decide +kernel
theorem dX9_takesE_55 : decode cX9_takesE 55 = .ok (.bipush 33, 2) := by decide +kernel
theorem dX9_takesE_57 : decode cX9_takesE 57 = .ok (.if_icmp .ne 40, 3) := by decide +kernel
theorem dX9_takesE_60 : decode cX9_takesE 60 = .ok (.iload_n 2, 1) := by decide +kernel
theorem dX9_takesE_61 : decode cX9_takesE 61 = .ok (.bipush 8, 2) := by decide +kernel
theorem dX9_takesE_63 : decode cX9_takesE 63 = .ok (.if_icmp .ge 34, 3) := by decide +kernel
theorem dX9_takesE_66 : decode cX9_takesE 66 = .ok (.aload_n 0, 1) := by decide +kernel
theorem dX9_takesE_67 : decode cX9_takesE 67 = .ok (.getfield 35, 3) := by decide +kernel
theorem dX9_takesE_70 : decode cX9_takesE 70 = .ok (.aload_n 0, 1) := by decide +kernel
theorem dX9_takesE_71 : decode cX9_takesE 71 = .ok (.getfield 210, 3) := by decide +kernel
theorem dX9_takesE_74 : decode cX9_takesE 74 = .ok (.bipush (-10), 2) := by decide +kernel
theorem dX9_takesE_76 : decode cX9_takesE 76 = .ok (.iastore, 1) := by decide +kernel
theorem dX9_takesE_77 : decode cX9_takesE 77 = .ok (.aload_n 0, 1) := by decide +kernel
theorem dX9_takesE_78 : decode cX9_takesE 78 = .ok (.dup, 1) := by decide +kernel
theorem dX9_takesE_79 : decode cX9_takesE 79 = .ok (.getfield 210, 3) := by decide +kernel
theorem dX9_takesE_82 : decode cX9_takesE 82 = .ok (.iconst 1, 1) := by decide +kernel
theorem dX9_takesE_83 : decode cX9_takesE 83 = .ok (.iadd, 1) := by decide +kernel
theorem dX9_takesE_84 : decode cX9_takesE 84 = .ok (.putfield 210, 3) := by decide +kernel
theorem dX9_takesE_87 : decode cX9_takesE 87 = .ok (.iinc 2 1, 3) := by decide +kernel
theorem dX9_takesE_90 : decode cX9_takesE 90 = .ok (.aload_n 0, 1) := by decide +kernel
theorem dX9_takesE_91 : decode cX9_takesE 91 = .ok (.invokevirtual 207, 3) := by decide +kernel
theorem dX9_takesE_94 : decode cX9_takesE 94 = .ok (.goto 78, 3) := by decide +kernel
theorem dX9_takesE_97 : decode cX9_takesE 97 = .ok (.aload_n 0, 1) := by decide +kernel
theorem dX9_takesE_98 : decode cX9_takesE 98 = .ok (.getfield 192, 3) := by decide +kernel
theorem dX9_takesE_101 : decode cX9_takesE 101 = .ok (.iconst 3, 1) := by decide +kernel
theorem dX9_takesE_102 : decode cX9_takesE 102 = .ok (.if_icmp .ne 56, 3) := by decide +kernel
theorem dX9_takesE_105 : decode cX9_takesE 105 = .ok (.aload_n 0, 1) := by decide +kernel
theorem dX9_takesE_106 : decode cX9_takesE 106 = .ok (.getfield 198, 3) := by decide +kernel
theorem dX9_takesE_109 : decode cX9_takesE 109 = .ok (.bipush 40, 2) := by decide +kernel
theorem dX9_takesE_111 : decode cX9_takesE 111 = .ok (.if_icmp .ne 47, 3) := by decide +kernel
theorem dX9_takesE_114 : decode cX9_takesE 114 = .ok (.iload_n 1, 1) := by decide +kernel
theorem dX9_takesE_115 : decode cX9_takesE 115 = .ok (.bipush 8, 2) := by decide +kernel
theorem dX9_takesE_117 : decode cX9_takesE 117 = .ok (.if_icmp .ge 41, 3) := by decide +kernel
theorem dX9_takesE_120 : decode cX9_takesE 120 = .ok (.aload_n 0, 1) := by decide +kernel
theorem dX9_takesE_121 : decode cX9_takesE 121 = .ok (.getfield 35, 3) := by decide +kernel
theorem dX9_takesE_124 : decode cX9_takesE 124 = .ok (.aload_n 0, 1) := by decide +kernel
theorem dX9_takesE_125 : decode cX9_takesE 125 = .ok (.getfield 210, 3) := by decide +kernel
theorem dX9_takesE_128 : decode cX9_takesE 128 = .ok (.bipush (-11), 2) := by decide +kernel
theorem dX9_takesE_130 : decode cX9_takesE 130 = .ok (.iastore, 1) := by decide +kernel
theorem dX9_takesE_131 : decode cX9_takesE 131 = .ok (.aload_n 0, 1) := by decide +kernel
theorem dX9_takesE_132 : decode cX9_takesE 132 = .ok (.dup, 1) := by decide +kernel
theorem dX9_takesE_133 : decode cX9_takesE 133 = .ok (.getfield 210, 3) := by decide +kernel
theorem dX9_takesE_136 : decode cX9_takesE 136 = .ok (.iconst 1, 1) := by decide +kernel
theorem dX9_takesE_137 : decode cX9_takesE 137 = .ok (.iadd, 1) := by decide +kernel
theorem dX9_takesE_138 : decode cX9_takesE 138 = .ok (.putfield 210, 3) := by decide +kernel
theorem dX9_takesE_141 : decode cX9_takesE 141 = .ok (.iinc 1 1, 3) := by decide +kernel
theorem dX9_takesE_144 : decode cX9_takesE 144 = .ok (.aload_n 0, 1) := by decide +kernel
theorem dX9_takesE_145 : decode cX9_takesE 145 = .ok (.getfield 38, 3) := by decide +kernel
theorem dX9_takesE_148 : decode cX9_takesE 148 = .ok (.iload_n 1, 1) := by decide +kernel
theorem dX9_takesE_149 : decode cX9_takesE 149 = .ok (.iconst 0, 1) := by decide +kernel
theorem dX9_takesE_150 : decode cX9_takesE 150 = .ok (.bastore, 1) := by decide +kernel
theorem dX9_takesE_151 : decode cX9_takesE 151 = .ok (.aload_n 0, 1) := by decide +kernel
theorem dX9_takesE_152 : decode cX9_takesE 152 = .ok (.invokevirtual 207, 3) := by decide +kernel
theorem dX9_takesE_155 : decode cX9_takesE 155 = .ok (.goto 17, 3) := by decide +kernel
theorem dX9_takesE_158 : decode cX9_takesE 158 = .ok (.aload_n 0, 1) := by decide +kernel
theorem dX9_takesE_159 : decode cX9_takesE 159 = .ok (.invokevirtual 228, 3) := by decide +kernel
theorem dX9_takesE_162 : decode cX9_takesE 162 = .ok (.ifCond .eq 8, 3) := by decide +kernel
theorem dX9_takesE_165 : decode cX9_takesE 165 = .ok (.iconst 0, 1) := by decide +kernel
theorem dX9_takesE_166 : decode cX9_takesE 166 = .ok (.istore_n 3, 1) := by decide +kernel
theorem dX9_takesE_167 : decode cX9_takesE 167 = .ok (.goto 5, 3) := by decide +kernel
theorem dX9_takesE_170 : decode cX9_takesE 170 = .ok (.iconst 0, 1) := by decide +kernel
theorem dX9_takesE_171 : decode cX9_takesE 171 = .ok (.ireturn, 1) := by decide +kernel
theorem dX9_takesE_172 : decode cX9_takesE 172 = .ok (.aload_n 0, 1) := by decide +kernel
theorem dX9_takesE_173 : decode cX9_takesE 173 = .ok (.invokevirtual 231, 3) := by decide +kernel
theorem dX9_takesE_176 : decode cX9_takesE 176 = .ok (.istore_n 2, 1) := by decide +kernel
theorem dX9_takesE_177 : decode cX9_takesE 177 = .ok (.goto (-149), 3) := by decide +kernel
theorem dX9_takesE_180 : decode cX9_takesE 180 = .ok (.aload_n 0, 1) := by decide +kernel
theorem dX9_takesE_181 : decode cX9_takesE 181 = .ok (.getfield 192, 3) := by decide +kernel
theorem dX9_takesE_184 : decode cX9_takesE 184 = .ok (.iconst 3, 1) := by decide +kernel
theorem dX9_takesE_185 : decode cX9_takesE 185 = .ok (.if_icmp .ne 52, 3) := by decide +kernel
theorem dX9_takesE_188 : decode cX9_takesE 188 = .ok (.aload_n 0, 1) := by decide +kernel
theorem dX9_takesE_189 : decode cX9_takesE 189 = .ok (.getfield 198, 3) := by decide +kernel
theorem dX9_takesE_192 : decode cX9_takesE 192 = .ok (.bipush 41, 2) := by decide +kernel
theorem dX9_takesE_194 : decode cX9_takesE 194 = .ok (.if_icmp .ne 43, 3) := by decide +kernel
theorem dX9_takesE_197 : decode cX9_takesE 197 = .ok (.iload_n 1, 1) := by decide +kernel
theorem dX9_takesE_198 : decode cX9_takesE 198 = .ok (.ifCond .le 39, 3) := by decide +kernel
theorem dX9_takesE_201 : decode cX9_takesE 201 = .ok (.aload_n 0, 1) := by decide +kernel
theorem dX9_takesE_202 : decode cX9_takesE 202 = .ok (.iconst 0, 1) := by decide +kernel
theorem dX9_takesE_203 : decode cX9_takesE 203 = .ok (.invokevirtual 225, 3) := by decide +kernel
theorem dX9_takesE_206 : decode cX9_takesE 206 = .ok (.aload_n 0, 1) := by decide +kernel
theorem dX9_takesE_207 : decode cX9_takesE 207 = .ok (.dup, 1) := by decide +kernel
theorem dX9_takesE_208 : decode cX9_takesE 208 = .ok (.getfield 210, 3) := by decide +kernel
theorem dX9_takesE_211 : decode cX9_takesE 211 = .ok (.iconst 1, 1) := by decide +kernel
theorem dX9_takesE_212 : decode cX9_takesE 212 = .ok (.isub, 1) := by decide +kernel
theorem dX9_takesE_213 : decode cX9_takesE 213 = .ok (.putfield 210, 3) := by decide +kernel
theorem dX9_takesE_216 : decode cX9_takesE 216 = .ok (.iinc 1 (-1), 3) := by decide +kernel
theorem dX9_takesE_219 : decode cX9_takesE 219 = .ok (.aload_n 0, 1) := by decide +kernel
theorem dX9_takesE_220 : decode cX9_takesE 220 = .ok (.bipush 6, 2) := by decide +kernel
theorem dX9_takesE_222 : decode cX9_takesE 222 = .ok (.invokevirtual 225, 3) := by decide +kernel
theorem dX9_takesE_225 : decode cX9_takesE 225 = .ok (.aload_n 0, 1) := by decide +kernel
theorem dX9_takesE_226 : decode cX9_takesE 226 = .ok (.invokevirtual 231, 3) := by decide +kernel
theorem dX9_takesE_229 : decode cX9_takesE 229 = .ok (.istore_n 2, 1) := by decide +kernel
theorem dX9_takesE_230 : decode cX9_takesE 230 = .ok (.aload_n 0, 1) := by decide +kernel
theorem dX9_takesE_231 : decode cX9_takesE 231 = .ok (.invokevirtual 207, 3) := by decide +kernel
theorem dX9_takesE_234 : decode cX9_takesE 234 = .ok (.goto (-206), 3) := by decide +kernel
theorem dX9_takesE_237 : decode cX9_takesE 237 = .ok (.aload_n 0, 1) := by decide +kernel
theorem dX9_takesE_238 : decode cX9_takesE 238 = .ok (.invokevirtual 234, 3) := by decide +kernel
theorem dX9_takesE_241 : decode cX9_takesE 241 = .ok (.istore 4, 2) := by decide +kernel
theorem dX9_takesE_243 : decode cX9_takesE 243 = .ok (.iload 4, 2) := by decide +kernel
theorem dX9_takesE_245 : decode cX9_takesE 245 = .ok (.ifCond .eq 21, 3) := by decide +kernel
theorem dX9_takesE_248 : decode cX9_takesE 248 = .ok (.iload 4, 2) := by decide +kernel
theorem dX9_takesE_250 : decode cX9_takesE 250 = .ok (.invokestatic 213, 3) := by decide +kernel
theorem dX9_takesE_253 : decode cX9_takesE 253 = .ok (.iconst 3, 1) := by decide +kernel
theorem dX9_takesE_254 : decode cX9_takesE 254 = .ok (.if_icmp .ne 14, 3) := by decide +kernel
theorem dX9_takesE_257 : decode cX9_takesE 257 = .ok (.aload_n 0, 1) := by decide +kernel
theorem dX9_takesE_258 : decode cX9_takesE 258 = .ok (.getfield 38, 3) := by decide +kernel
theorem dX9_takesE_261 : decode cX9_takesE 261 = .ok (.iload_n 1, 1) := by decide +kernel
theorem dX9_takesE_262 : decode cX9_takesE 262 = .ok (.baload, 1) := by decide +kernel
theorem dX9_takesE_263 : decode cX9_takesE 263 = .ok (.ifCond .eq 5, 3) := by decide +kernel
theorem dX9_takesE_266 : decode cX9_takesE 266 = .ok (.iconst 0, 1) := by decide +kernel
theorem dX9_takesE_267 : decode cX9_takesE 267 = .ok (.ireturn, 1) := by decide +kernel
theorem dX9_takesE_268 : decode cX9_takesE 268 = .ok (.aload_n 0, 1) := by decide +kernel
theorem dX9_takesE_269 : decode cX9_takesE 269 = .ok (.getfield 38, 3) := by decide +kernel
theorem dX9_takesE_272 : decode cX9_takesE 272 = .ok (.iload_n 1, 1) := by decide +kernel
theorem dX9_takesE_273 : decode cX9_takesE 273 = .ok (.iload 4, 2) := by decide +kernel
theorem dX9_takesE_275 : decode cX9_takesE 275 = .ok (.invokestatic 213, 3) := by decide +kernel
theorem dX9_takesE_278 : decode cX9_takesE 278 = .ok (.iconst 3, 1) := by decide +kernel
theorem dX9_takesE_279 : decode cX9_takesE 279 = .ok (.if_icmp .eq 21, 3) := by decide +kernel
theorem dX9_takesE_282 : decode cX9_takesE 282 = .ok (.iload 4, 2) := by decide +kernel
theorem dX9_takesE_284 : decode cX9_takesE 284 = .ok (.invokestatic 213, 3) := by decide +kernel
theorem dX9_takesE_287 : decode cX9_takesE 287 = .ok (.iconst 3, 1) := by decide +kernel
theorem dX9_takesE_288 : decode cX9_takesE 288 = .ok (.if_icmp .le 16, 3) := by decide +kernel
theorem dX9_takesE_291 : decode cX9_takesE 291 = .ok (.aload_n 0, 1) := by decide +kernel
theorem dX9_takesE_292 : decode cX9_takesE 292 = .ok (.getfield 38, 3) := by decide +kernel
theorem dX9_takesE_295 : decode cX9_takesE 295 = .ok (.iload_n 1, 1) := by decide +kernel
theorem dX9_takesE_296 : decode cX9_takesE 296 = .ok (.baload, 1) := by decide +kernel
theorem dX9_takesE_297 : decode cX9_takesE 297 = .ok (.ifCond .eq 7, 3) := by decide +kernel
theorem dX9_takesE_300 : decode cX9_takesE 300 = .ok (.iconst 1, 1) := by decide +kernel
theorem dX9_takesE_301 : decode cX9_takesE 301 = .ok (.goto 4, 3) := by decide +kernel
theorem dX9_takesE_304 : decode cX9_takesE 304 = .ok (.iconst 0, 1) := by decide +kernel
theorem dX9_takesE_305 : decode cX9_takesE 305 = .ok (.bastore, 1) := by decide +kernel
theorem dX9_takesE_306 : decode cX9_takesE 306 = .ok (.aload_n 0, 1) := by decide +kernel
theorem dX9_takesE_307 : decode cX9_takesE 307 = .ok (.iload 4, 2) := by decide +kernel
theorem dX9_takesE_309 : decode cX9_takesE 309 = .ok (.invokestatic 213, 3) := by decide +kernel
theorem dX9_takesE_312 : decode cX9_takesE 312 = .ok (.invokevirtual 225, 3) := by decide +kernel
theorem dX9_takesE_315 : decode cX9_takesE 315 = .ok (.aload_n 0, 1) := by decide +kernel
theorem dX9_takesE_316 : decode cX9_takesE 316 = .ok (.getfield 35, 3) := by decide +kernel
theorem dX9_takesE_319 : decode cX9_takesE 319 = .ok (.aload_n 0, 1) := by decide +kernel
theorem dX9_takesE_320 : decode cX9_takesE 320 = .ok (.getfield 210, 3) := by decide +kernel
theorem dX9_takesE_323 : decode cX9_takesE 323 = .ok (.iload 4, 2) := by decide +kernel
theorem dX9_takesE_325 : decode cX9_takesE 325 = .ok (.iastore, 1) := by decide +kernel
theorem dX9_takesE_326 : decode cX9_takesE 326 = .ok (.aload_n 0, 1) := by decide +kernel
theorem dX9_takesE_327 : decode cX9_takesE 327 = .ok (.dup, 1) := by decide +kernel
theorem dX9_takesE_328 : decode cX9_takesE 328 = .ok (.getfield 210, 3) := by decide +kernel
theorem dX9_takesE_331 : decode cX9_takesE 331 = .ok (.iconst 1, 1) := by decide +kernel
theorem dX9_takesE_332 : decode cX9_takesE 332 = .ok (.iadd, 1) := by decide +kernel
theorem dX9_takesE_333 : decode cX9_takesE 333 = .ok (.putfield 210, 3) := by decide +kernel
theorem dX9_takesE_336 : decode cX9_takesE 336 = .ok (.iconst 1, 1) := by decide +kernel
theorem dX9_takesE_337 : decode cX9_takesE 337 = .ok (.istore_n 3, 1) := by decide +kernel
theorem dX9_takesE_338 : decode cX9_takesE 338 = .ok (.aload_n 0, 1) := by decide +kernel
theorem dX9_takesE_339 : decode cX9_takesE 339 = .ok (.invokevirtual 207, 3) := by decide +kernel
theorem dX9_takesE_342 : decode cX9_takesE 342 = .ok (.goto (-314), 3) := by decide +kernel
theorem dX9_takesE_345 : decode cX9_takesE 345 = .ok (.aload_n 0, 1) := by decide +kernel
theorem dX9_takesE_346 : decode cX9_takesE 346 = .ok (.iconst 0, 1) := by decide +kernel
theorem dX9_takesE_347 : decode cX9_takesE 347 = .ok (.invokevirtual 225, 3) := by decide +kernel
theorem dX9_takesE_350 : decode cX9_takesE 350 = .ok (.iload_n 1, 1) := by decide +kernel
theorem dX9_takesE_351 : decode cX9_takesE 351 = .ok (.ifCond .ne 7, 3) := by decide +kernel
theorem dX9_takesE_354 : decode cX9_takesE 354 = .ok (.iconst 1, 1) := by decide +kernel
theorem dX9_takesE_355 : decode cX9_takesE 355 = .ok (.goto 4, 3) := by decide +kernel
theorem dX9_takesE_358 : decode cX9_takesE 358 = .ok (.iconst 0, 1) := by decide +kernel
theorem dX9_takesE_359 : decode cX9_takesE 359 = .ok (.ireturn, 1) := by decide +kernel
theorem dX9_notsOpen_0 : decode cX9_notsOpen 0 = .ok (.iconst 0, 1) := by decide +kernel
theorem dX9_notsOpen_1 : decode cX9_notsOpen 1 = .ok (.istore_n 1, 1) := by decide +kernel
theorem dX9_notsOpen_2 : decode cX9_notsOpen 2 = .ok (.iconst 0, 1) := by decide +kernel
theorem dX9_notsOpen_3 : decode cX9_notsOpen 3 = .ok (.istore_n 2, 1) := by decide +kernel
theorem dX9_notsOpen_4 : decode cX9_notsOpen 4 = .ok (.iload_n 2, 1) := by decide +kernel
theorem dX9_notsOpen_5 : decode cX9_notsOpen 5 = .ok (.aload_n 0, 1) := by decide +kernel
theorem dX9_notsOpen_6 : decode cX9_notsOpen 6 = .ok (.getfield 210, 3) := by decide +kernel
theorem dX9_notsOpen_9 : decode cX9_notsOpen 9 = .ok (.if_icmp .ge 28, 3) := by decide +kernel
theorem dX9_notsOpen_12 : decode cX9_notsOpen 12 = .ok (.iload_n 1, 1) := by decide +kernel
theorem dX9_notsOpen_13 : decode cX9_notsOpen 13 = .ok (.aload_n 0, 1) := by decide +kernel
theorem dX9_notsOpen_14 : decode cX9_notsOpen 14 = .ok (.getfield 35, 3) := by decide +kernel
theorem dX9_notsOpen_17 : decode cX9_notsOpen 17 = .ok (.iload_n 2, 1) := by decide +kernel
theorem dX9_notsOpen_18 : decode cX9_notsOpen 18 = .ok (.iaload, 1) := by decide +kernel
theorem dX9_notsOpen_19 : decode cX9_notsOpen 19 = .ok (.bipush (-10), 2) := by decide +kernel
theorem dX9_notsOpen_21 : decode cX9_notsOpen 21 = .ok (.if_icmp .ne 7, 3) := by decide +kernel
theorem dX9_notsOpen_24 : decode cX9_notsOpen 24 = .ok (.iconst 1, 1) := by decide +kernel
theorem dX9_notsOpen_25 : decode cX9_notsOpen 25 = .ok (.goto 4, 3) := by decide +kernel
theorem dX9_notsOpen_28 : decode cX9_notsOpen 28 = .ok (.iconst 0, 1) := by decide +kernel
theorem dX9_notsOpen_29 : decode cX9_notsOpen 29 = .ok (.iadd, 1) := by decide +kernel
theorem dX9_notsOpen_30 : decode cX9_notsOpen 30 = .ok (.istore_n 1, 1) := by decide +kernel
theorem dX9_notsOpen_31 : decode cX9_notsOpen 31 = .ok (.iinc 2 1, 3) := by decide +kernel
theorem dX9_notsOpen_34 : decode cX9_notsOpen 34 = .ok (.goto (-30), 3) := by decide +kernel
theorem dX9_notsOpen_37 : decode cX9_notsOpen 37 = .ok (.iload_n 1, 1) := by decide +kernel
theorem dX9_notsOpen_38 : decode cX9_notsOpen 38 = .ok (.ireturn, 1) := by decide +kernel
theorem dX9_text_0 : decode cX9_text 0 = .ok (.aload_n 0, 1) := by decide +kernel
theorem dX9_text_1 : decode cX9_text 1 = .ok (.iconst 0, 1) := by decide +kernel
theorem dX9_text_2 : decode cX9_text 2 = .ok (.putfield 183, 3) := by decide +kernel
theorem dX9_text_5 : decode cX9_text 5 = .ok (.aload_n 0, 1) := by decide +kernel
theorem dX9_text_6 : decode cX9_text 6 = .ok (.iconst (-1), 1) := by decide +kernel
theorem dX9_text_7 : decode cX9_text 7 = .ok (.putfield 189, 3) := by decide +kernel
theorem dX9_text_10 : decode cX9_text 10 = .ok (.aload_n 0, 1) := by decide +kernel
theorem dX9_text_11 : decode cX9_text 11 = .ok (.invokevirtual 207, 3) := by decide +kernel
theorem dX9_text_14 : decode cX9_text 14 = .ok (.aload_n 0, 1) := by decide +kernel
theorem dX9_text_15 : decode cX9_text 15 = .ok (.invokevirtual 237, 3) := by decide +kernel
theorem dX9_text_18 : decode cX9_text 18 = .ok (.ifCond .eq 14, 3) := by decide +kernel
theorem dX9_text_21 : decode cX9_text 21 = .ok (.aload_n 0, 1) := by decide +kernel
theorem dX9_text_22 : decode cX9_text 22 = .ok (.invokevirtual 240, 3) := by decide +kernel
theorem dX9_text_25 : decode cX9_text 25 = .ok (.ifCond .eq 7, 3) := by decide +kernel
theorem dX9_text_28 : decode cX9_text 28 = .ok (.iconst 1, 1) := by decide +kernel
theorem dX9_text_29 : decode cX9_text 29 = .ok (.goto 4, 3) := by decide +kernel
theorem dX9_text_32 : decode cX9_text 32 = .ok (.iconst 0, 1) := by decide +kernel
theorem dX9_text_33 : decode cX9_text 33 = .ok (.istore_n 1, 1) := by decide +kernel
theorem dX9_text_34 : decode cX9_text 34 = .ok (.aload_n 0, 1) := by decide +kernel
theorem dX9_text_35 : decode cX9_text 35 = .ok (.iconst 0, 1) := by decide +kernel
theorem dX9_text_36 : decode cX9_text 36 = .ok (.putfield 179, 3) := by decide +kernel
theorem dX9_text_39 : decode cX9_text 39 = .ok (.iload_n 1, 1) := by decide +kernel
theorem dX9_text_40 : decode cX9_text 40 = .ok (.ifCond .ne 11, 3) := by decide +kernel
theorem dX9_text_43 : decode cX9_text 43 = .ok (.bipush (-100), 2) := by decide +kernel
theorem dX9_text_45 : decode cX9_text 45 = .ok (.aload_n 0, 1) := by decide +kernel
theorem dX9_text_46 : decode cX9_text 46 = .ok (.getfield 186, 3) := by decide +kernel
theorem dX9_text_49 : decode cX9_text 49 = .ok (.isub, 1) := by decide +kernel
theorem dX9_text_50 : decode cX9_text 50 = .ok (.ireturn, 1) := by decide +kernel
theorem dX9_text_51 : decode cX9_text 51 = .ok (.aload_n 0, 1) := by decide +kernel
theorem dX9_text_52 : decode cX9_text 52 = .ok (.getfield 9, 3) := by decide +kernel
theorem dX9_text_55 : decode cX9_text 55 = .ok (.bipush 7, 2) := by decide +kernel
theorem dX9_text_57 : decode cX9_text 57 = .ok (.iaload, 1) := by decide +kernel
theorem dX9_text_58 : decode cX9_text 58 = .ok (.bipush 14, 2) := by decide +kernel
theorem dX9_text_60 : decode cX9_text 60 = .ok (.if_icmp .ne 6, 3) := by decide +kernel
theorem dX9_text_63 : decode cX9_text 63 = .ok (.ldc 84, 2) := by decide +kernel
theorem dX9_text_65 : decode cX9_text 65 = .ok (.ireturn, 1) := by decide +kernel
theorem dX9_text_66 : decode cX9_text 66 = .ok (.aload_n 0, 1) := by decide +kernel
theorem dX9_text_67 : decode cX9_text 67 = .ok (.getfield 9, 3) := by decide +kernel
theorem dX9_text_70 : decode cX9_text 70 = .ok (.bipush 7, 2) := by decide +kernel
theorem dX9_text_72 : decode cX9_text 72 = .ok (.iaload, 1) := by decide +kernel
theorem dX9_text_73 : decode cX9_text 73 = .ok (.istore_n 2, 1) := by decide +kernel
theorem dX9_text_74 : decode cX9_text 74 = .ok (.aload_n 0, 1) := by decide +kernel
theorem dX9_text_75 : decode cX9_text 75 = .ok (.getfield 9, 3) := by decide +kernel
theorem dX9_text_78 : decode cX9_text 78 = .ok (.bipush 61, 2) := by decide +kernel
theorem dX9_text_80 : decode cX9_text 80 = .ok (.iconst 2, 1) := by decide +kernel
theorem dX9_text_81 : decode cX9_text 81 = .ok (.iload_n 2, 1) := by decide +kernel
theorem dX9_text_82 : decode cX9_text 82 = .ok (.imul, 1) := by decide +kernel
theorem dX9_text_83 : decode cX9_text 83 = .ok (.iadd, 1) := by decide +kernel
theorem dX9_text_84 : decode cX9_text 84 = .ok (.sipush 1000, 3) := by decide +kernel
theorem dX9_text_87 : decode cX9_text 87 = .ok (.aload_n 0, 1) := by decide +kernel
theorem dX9_text_88 : decode cX9_text 88 = .ok (.getfield 204, 3) := by decide +kernel
theorem dX9_text_91 : decode cX9_text 91 = .ok (.imul, 1) := by decide +kernel
theorem dX9_text_92 : decode cX9_text 92 = .ok (.aload_n 0, 1) := by decide +kernel
theorem dX9_text_93 : decode cX9_text 93 = .ok (.getfield 216, 3) := by decide +kernel
theorem dX9_text_96 : decode cX9_text 96 = .ok (.iadd, 1) := by decide +kernel
theorem dX9_text_97 : decode cX9_text 97 = .ok (.iastore, 1) := by decide +kernel
theorem dX9_text_98 : decode cX9_text 98 = .ok (.aload_n 0, 1) := by decide +kernel
theorem dX9_text_99 : decode cX9_text 99 = .ok (.getfield 9, 3) := by decide +kernel
theorem dX9_text_102 : decode cX9_text 102 = .ok (.bipush 61, 2) := by decide +kernel
theorem dX9_text_104 : decode cX9_text 104 = .ok (.iconst 2, 1) := by decide +kernel
theorem dX9_text_105 : decode cX9_text 105 = .ok (.iload_n 2, 1) := by decide +kernel
theorem dX9_text_106 : decode cX9_text 106 = .ok (.imul, 1) := by decide +kernel
theorem dX9_text_107 : decode cX9_text 107 = .ok (.iadd, 1) := by decide +kernel
theorem dX9_text_108 : decode cX9_text 108 = .ok (.iconst 1, 1) := by decide +kernel
theorem dX9_text_109 : decode cX9_text 109 = .ok (.iadd, 1) := by decide +kernel
theorem dX9_text_110 : decode cX9_text 110 = .ok (.aload_n 0, 1) := by decide +kernel
theorem dX9_text_111 : decode cX9_text 111 = .ok (.getfield 222, 3) := by decide +kernel
theorem dX9_text_114 : decode cX9_text 114 = .ok (.iastore, 1) := by decide +kernel
theorem dX9_text_115 : decode cX9_text 115 = .ok (.iconst 0, 1) := by decide +kernel
theorem dX9_text_116 : decode cX9_text 116 = .ok (.istore_n 3, 1) := by decide +kernel
theorem dX9_text_117 : decode cX9_text 117 = .ok (.iload_n 3, 1) := by decide +kernel
theorem dX9_text_118 : decode cX9_text 118 = .ok (.aload_n 0, 1) := by decide +kernel
theorem dX9_text_119 : decode cX9_text 119 = .ok (.getfield 216, 3) := by decide +kernel
theorem dX9_text_122 : decode cX9_text 122 = .ok (.if_icmp .ge 29, 3) := by decide +kernel
theorem dX9_text_125 : decode cX9_text 125 = .ok (.aload_n 0, 1) := by decide +kernel
theorem dX9_text_126 : decode cX9_text 126 = .ok (.getfield 9, 3) := by decide +kernel
theorem dX9_text_129 : decode cX9_text 129 = .ok (.bipush 89, 2) := by decide +kernel
theorem dX9_text_131 : decode cX9_text 131 = .ok (.bipush 96, 2) := by decide +kernel
theorem dX9_text_133 : decode cX9_text 133 = .ok (.iload_n 2, 1) := by decide +kernel
theorem dX9_text_134 : decode cX9_text 134 = .ok (.imul, 1) := by decide +kernel
theorem dX9_text_135 : decode cX9_text 135 = .ok (.iadd, 1) := by decide +kernel
theorem dX9_text_136 : decode cX9_text 136 = .ok (.iload_n 3, 1) := by decide +kernel
theorem dX9_text_137 : decode cX9_text 137 = .ok (.iadd, 1) := by decide +kernel
theorem dX9_text_138 : decode cX9_text 138 = .ok (.aload_n 0, 1) := by decide +kernel
theorem dX9_text_139 : decode cX9_text 139 = .ok (.getfield 32, 3) := by decide +kernel
theorem dX9_text_142 : decode cX9_text 142 = .ok (.iload_n 3, 1) := by decide +kernel
theorem dX9_text_143 : decode cX9_text 143 = .ok (.iaload, 1) := by decide +kernel
theorem dX9_text_144 : decode cX9_text 144 = .ok (.iastore, 1) := by decide +kernel
theorem dX9_text_145 : decode cX9_text 145 = .ok (.iinc 3 1, 3) := by decide +kernel
theorem dX9_text_148 : decode cX9_text 148 = .ok (.goto (-31), 3) := by decide +kernel
theorem dX9_text_151 : decode cX9_text 151 = .ok (.aload_n 0, 1) := by decide +kernel
theorem dX9_text_152 : decode cX9_text 152 = .ok (.getfield 9, 3) := by decide +kernel
theorem dX9_text_155 : decode cX9_text 155 = .ok (.bipush 7, 2) := by decide +kernel
theorem dX9_text_157 : decode cX9_text 157 = .ok (.dup2, 1) := by decide +kernel
theorem dX9_text_158 : decode cX9_text 158 = .ok (.iaload, 1) := by decide +kernel
theorem dX9_text_159 : decode cX9_text 159 = .ok (.iconst 1, 1) := by decide +kernel
theorem dX9_text_160 : decode cX9_text 160 = .ok (.iadd, 1) := by decide +kernel
theorem dX9_text_161 : decode cX9_text 161 = .ok (.iastore, 1) := by decide +kernel
theorem dX9_text_162 : decode cX9_text 162 = .ok (.iload_n 2, 1) := by decide +kernel
theorem dX9_text_163 : decode cX9_text 163 = .ok (.ireturn, 1) := by decide +kernel
theorem dX9_textTold_0 : decode cX9_textTold 0 = .ok (.iload_n 1, 1) := by decide +kernel
theorem dX9_textTold_1 : decode cX9_textTold 1 = .ok (.iconst 0, 1) := by decide +kernel
theorem dX9_textTold_2 : decode cX9_textTold 2 = .ok (.aload_n 0, 1) := by decide +kernel
theorem dX9_textTold_3 : decode cX9_textTold 3 = .ok (.getfield 9, 3) := by decide +kernel
theorem dX9_textTold_6 : decode cX9_textTold 6 = .ok (.bipush 7, 2) := by decide +kernel
theorem dX9_textTold_8 : decode cX9_textTold 8 = .ok (.iaload, 1) := by decide +kernel
theorem dX9_textTold_9 : decode cX9_textTold 9 = .ok (.iconst 1, 1) := by decide +kernel
theorem dX9_textTold_10 : decode cX9_textTold 10 = .ok (.isub, 1) := by decide +kernel
theorem dX9_textTold_11 : decode cX9_textTold 11 = .ok (.invokestatic 75, 3) := by decide +kernel
theorem dX9_textTold_14 : decode cX9_textTold 14 = .ok (.ifCond .eq 12, 3) := by decide +kernel
theorem dX9_textTold_17 : decode cX9_textTold 17 = .ok (.iload_n 2, 1) := by decide +kernel
theorem dX9_textTold_18 : decode cX9_textTold 18 = .ok (.iconst 0, 1) := by decide +kernel
theorem dX9_textTold_19 : decode cX9_textTold 19 = .ok (.iconst 1, 1) := by decide +kernel
theorem dX9_textTold_20 : decode cX9_textTold 20 = .ok (.invokestatic 75, 3) := by decide +kernel
theorem dX9_textTold_23 : decode cX9_textTold 23 = .ok (.ifCond .ne 6, 3) := by decide +kernel
theorem dX9_textTold_26 : decode cX9_textTold 26 = .ok (.ldc 83, 2) := by decide +kernel
theorem dX9_textTold_28 : decode cX9_textTold 28 = .ok (.ireturn, 1) := by decide +kernel
theorem dX9_textTold_29 : decode cX9_textTold 29 = .ok (.iload_n 2, 1) := by decide +kernel
theorem dX9_textTold_30 : decode cX9_textTold 30 = .ok (.ifCond .ne 21, 3) := by decide +kernel
theorem dX9_textTold_33 : decode cX9_textTold 33 = .ok (.aload_n 0, 1) := by decide +kernel
theorem dX9_textTold_34 : decode cX9_textTold 34 = .ok (.getfield 9, 3) := by decide +kernel
theorem dX9_textTold_37 : decode cX9_textTold 37 = .ok (.bipush 61, 2) := by decide +kernel
theorem dX9_textTold_39 : decode cX9_textTold 39 = .ok (.iconst 2, 1) := by decide +kernel
theorem dX9_textTold_40 : decode cX9_textTold 40 = .ok (.iload_n 1, 1) := by decide +kernel
theorem dX9_textTold_41 : decode cX9_textTold 41 = .ok (.imul, 1) := by decide +kernel
theorem dX9_textTold_42 : decode cX9_textTold 42 = .ok (.iadd, 1) := by decide +kernel
theorem dX9_textTold_43 : decode cX9_textTold 43 = .ok (.iaload, 1) := by decide +kernel
theorem dX9_textTold_44 : decode cX9_textTold 44 = .ok (.sipush 1000, 3) := by decide +kernel
theorem dX9_textTold_47 : decode cX9_textTold 47 = .ok (.idiv, 1) := by decide +kernel
theorem dX9_textTold_48 : decode cX9_textTold 48 = .ok (.goto 16, 3) := by decide +kernel
theorem dX9_textTold_51 : decode cX9_textTold 51 = .ok (.aload_n 0, 1) := by decide +kernel
theorem dX9_textTold_52 : decode cX9_textTold 52 = .ok (.getfield 9, 3) := by decide +kernel
theorem dX9_textTold_55 : decode cX9_textTold 55 = .ok (.bipush 61, 2) := by decide +kernel
theorem dX9_textTold_57 : decode cX9_textTold 57 = .ok (.iconst 2, 1) := by decide +kernel
theorem dX9_textTold_58 : decode cX9_textTold 58 = .ok (.iload_n 1, 1) := by decide +kernel
theorem dX9_textTold_59 : decode cX9_textTold 59 = .ok (.imul, 1) := by decide +kernel
theorem dX9_textTold_60 : decode cX9_textTold 60 = .ok (.iadd, 1) := by decide +kernel
theorem dX9_textTold_61 : decode cX9_textTold 61 = .ok (.iconst 1, 1) := by decide +kernel
theorem dX9_textTold_62 : decode cX9_textTold 62 = .ok (.iadd, 1) := by decide +kernel
theorem dX9_textTold_63 : decode cX9_textTold 63 = .ok (.iaload, 1) := by decide +kernel
theorem dX9_textTold_64 : decode cX9_textTold 64 = .ok (.ireturn, 1) := by decide +kernel
theorem dX9_counts_0 : decode cX9_counts 0 = .ok (.aload_n 0, 1) := by decide +kernel
theorem dX9_counts_1 : decode cX9_counts 1 = .ok (.getfield 9, 3) := by decide +kernel
theorem dX9_counts_4 : decode cX9_counts 4 = .ok (.bipush 7, 2) := by decide +kernel
theorem dX9_counts_6 : decode cX9_counts 6 = .ok (.iaload, 1) := by decide +kernel
theorem dX9_counts_7 : decode cX9_counts 7 = .ok (.iconst 1, 1) := by decide +kernel
theorem dX9_counts_8 : decode cX9_counts 8 = .ok (.isub, 1) := by decide +kernel
theorem dX9_counts_9 : decode cX9_counts 9 = .ok (.istore_n 2, 1) := by decide +kernel
theorem dX9_counts_10 : decode cX9_counts 10 = .ok (.iload_n 2, 1) := by decide +kernel
theorem dX9_counts_11 : decode cX9_counts 11 = .ok (.ifCond .lt 30, 3) := by decide +kernel
theorem dX9_counts_14 : decode cX9_counts 14 = .ok (.aload_n 0, 1) := by decide +kernel
theorem dX9_counts_15 : decode cX9_counts 15 = .ok (.getfield 9, 3) := by decide +kernel
theorem dX9_counts_18 : decode cX9_counts 18 = .ok (.bipush 61, 2) := by decide +kernel
theorem dX9_counts_20 : decode cX9_counts 20 = .ok (.iconst 2, 1) := by decide +kernel
theorem dX9_counts_21 : decode cX9_counts 21 = .ok (.iload_n 2, 1) := by decide +kernel
theorem dX9_counts_22 : decode cX9_counts 22 = .ok (.imul, 1) := by decide +kernel
theorem dX9_counts_23 : decode cX9_counts 23 = .ok (.iadd, 1) := by decide +kernel
theorem dX9_counts_24 : decode cX9_counts 24 = .ok (.iaload, 1) := by decide +kernel
theorem dX9_counts_25 : decode cX9_counts 25 = .ok (.sipush 1000, 3) := by decide +kernel
theorem dX9_counts_28 : decode cX9_counts 28 = .ok (.idiv, 1) := by decide +kernel
theorem dX9_counts_29 : decode cX9_counts 29 = .ok (.iload_n 1, 1) := by decide +kernel
theorem dX9_counts_30 : decode cX9_counts 30 = .ok (.if_icmp .ne 5, 3) := by decide +kernel
theorem dX9_counts_33 : decode cX9_counts 33 = .ok (.iload_n 2, 1) := by decide +kernel
theorem dX9_counts_34 : decode cX9_counts 34 = .ok (.ireturn, 1) := by decide +kernel
theorem dX9_counts_35 : decode cX9_counts 35 = .ok (.iinc 2 (-1), 3) := by decide +kernel
theorem dX9_counts_38 : decode cX9_counts 38 = .ok (.goto (-28), 3) := by decide +kernel
theorem dX9_counts_41 : decode cX9_counts 41 = .ok (.iconst (-1), 1) := by decide +kernel
theorem dX9_counts_42 : decode cX9_counts 42 = .ok (.ireturn, 1) := by decide +kernel
theorem dX9_why_0 : decode cX9_why 0 = .ok (.iload_n 1, 1) := by decide +kernel
theorem dX9_why_1 : decode cX9_why 1 = .ok (.iconst 0, 1) := by decide +kernel
theorem dX9_why_2 : decode cX9_why 2 = .ok (.iconst 2, 1) := by decide +kernel
theorem dX9_why_3 : decode cX9_why 3 = .ok (.invokestatic 75, 3) := by decide +kernel
theorem dX9_why_6 : decode cX9_why 6 = .ok (.ifCond .ne 6, 3) := by decide +kernel
theorem dX9_why_9 : decode cX9_why 9 = .ok (.ldc 83, 2) := by decide +kernel
theorem dX9_why_11 : decode cX9_why 11 = .ok (.ireturn, 1) := by decide +kernel
theorem dX9_why_12 : decode cX9_why 12 = .ok (.aload_n 0, 1) := by decide +kernel
theorem dX9_why_13 : decode cX9_why 13 = .ok (.iload_n 1, 1) := by decide +kernel
theorem dX9_why_14 : decode cX9_why 14 = .ok (.invokevirtual 104, 3) := by decide +kernel
theorem dX9_why_17 : decode cX9_why 17 = .ok (.istore_n 2, 1) := by decide +kernel
theorem dX9_why_18 : decode cX9_why 18 = .ok (.iload_n 2, 1) := by decide +kernel
theorem dX9_why_19 : decode cX9_why 19 = .ok (.ifCond .ge 8, 3) := by decide +kernel
theorem dX9_why_22 : decode cX9_why 22 = .ok (.ldc 166, 2) := by decide +kernel
theorem dX9_why_24 : decode cX9_why 24 = .ok (.goto 4, 3) := by decide +kernel
theorem dX9_why_27 : decode cX9_why 27 = .ok (.iload_n 2, 1) := by decide +kernel
theorem dX9_why_28 : decode cX9_why 28 = .ok (.ireturn, 1) := by decide +kernel
theorem dX9_two_0 : decode cX9_two 0 = .ok (.iload_n 0, 1) := by decide +kernel
theorem dX9_two_1 : decode cX9_two 1 = .ok (.tableswitch 120 (-8) (-1) #[116, 112, 108, 97, 86, 75, 61, 47], 47) := by decide +kernel
theorem dX9_two_48 : decode cX9_two 48 = .ok (.iload_n 1, 1) := by decide +kernel
theorem dX9_two_49 : decode cX9_two 49 = .ok (.ifCond .ne 7, 3) := by decide +kernel
theorem dX9_two_52 : decode cX9_two 52 = .ok (.iload_n 2, 1) := by decide +kernel
theorem dX9_two_53 : decode cX9_two 53 = .ok (.ifCond .eq 7, 3) := by decide +kernel
theorem dX9_two_56 : decode cX9_two 56 = .ok (.iconst 1, 1) := by decide +kernel
theorem dX9_two_57 : decode cX9_two 57 = .ok (.goto 4, 3) := by decide +kernel
theorem dX9_two_60 : decode cX9_two 60 = .ok (.iconst 0, 1) := by decide +kernel
theorem dX9_two_61 : decode cX9_two 61 = .ok (.ireturn, 1) := by decide +kernel
theorem dX9_two_62 : decode cX9_two 62 = .ok (.iload_n 1, 1) := by decide +kernel
theorem dX9_two_63 : decode cX9_two 63 = .ok (.ifCond .eq 11, 3) := by decide +kernel
theorem dX9_two_66 : decode cX9_two 66 = .ok (.iload_n 2, 1) := by decide +kernel
theorem dX9_two_67 : decode cX9_two 67 = .ok (.ifCond .eq 7, 3) := by decide +kernel
theorem dX9_two_70 : decode cX9_two 70 = .ok (.iconst 1, 1) := by decide +kernel
theorem dX9_two_71 : decode cX9_two 71 = .ok (.goto 4, 3) := by decide +kernel
theorem dX9_two_74 : decode cX9_two 74 = .ok (.iconst 0, 1) := by decide +kernel
theorem dX9_two_75 : decode cX9_two 75 = .ok (.ireturn, 1) := by decide +kernel
theorem dX9_two_76 : decode cX9_two 76 = .ok (.iload_n 1, 1) := by decide +kernel
theorem dX9_two_77 : decode cX9_two 77 = .ok (.iload_n 2, 1) := by decide +kernel
theorem dX9_two_78 : decode cX9_two 78 = .ok (.if_icmp .ge 7, 3) := by decide +kernel
theorem dX9_two_81 : decode cX9_two 81 = .ok (.iconst 1, 1) := by decide +kernel
theorem dX9_two_82 : decode cX9_two 82 = .ok (.goto 4, 3) := by decide +kernel
theorem dX9_two_85 : decode cX9_two 85 = .ok (.iconst 0, 1) := by decide +kernel
theorem dX9_two_86 : decode cX9_two 86 = .ok (.ireturn, 1) := by decide +kernel
theorem dX9_two_87 : decode cX9_two 87 = .ok (.iload_n 1, 1) := by decide +kernel
theorem dX9_two_88 : decode cX9_two 88 = .ok (.iload_n 2, 1) := by decide +kernel
theorem dX9_two_89 : decode cX9_two 89 = .ok (.if_icmp .ne 7, 3) := by decide +kernel
theorem dX9_two_92 : decode cX9_two 92 = .ok (.iconst 1, 1) := by decide +kernel
theorem dX9_two_93 : decode cX9_two 93 = .ok (.goto 4, 3) := by decide +kernel
theorem dX9_two_96 : decode cX9_two 96 = .ok (.iconst 0, 1) := by decide +kernel
theorem dX9_two_97 : decode cX9_two 97 = .ok (.ireturn, 1) := by decide +kernel
theorem dX9_two_98 : decode cX9_two 98 = .ok (.iload_n 1, 1) := by decide +kernel
theorem dX9_two_99 : decode cX9_two 99 = .ok (.iload_n 2, 1) := by decide +kernel
theorem dX9_two_100 : decode cX9_two 100 = .ok (.if_icmp .le 7, 3) := by decide +kernel
theorem dX9_two_103 : decode cX9_two 103 = .ok (.iconst 1, 1) := by decide +kernel
theorem dX9_two_104 : decode cX9_two 104 = .ok (.goto 4, 3) := by decide +kernel
theorem dX9_two_107 : decode cX9_two 107 = .ok (.iconst 0, 1) := by decide +kernel
theorem dX9_two_108 : decode cX9_two 108 = .ok (.ireturn, 1) := by decide +kernel
theorem dX9_two_109 : decode cX9_two 109 = .ok (.iload_n 1, 1) := by decide +kernel
theorem dX9_two_110 : decode cX9_two 110 = .ok (.iload_n 2, 1) := by decide +kernel
theorem dX9_two_111 : decode cX9_two 111 = .ok (.iadd, 1) := by decide +kernel
theorem dX9_two_112 : decode cX9_two 112 = .ok (.ireturn, 1) := by decide +kernel
theorem dX9_two_113 : decode cX9_two 113 = .ok (.iload_n 1, 1) := by decide +kernel
theorem dX9_two_114 : decode cX9_two 114 = .ok (.iload_n 2, 1) := by decide +kernel
theorem dX9_two_115 : decode cX9_two 115 = .ok (.isub, 1) := by decide +kernel
theorem dX9_two_116 : decode cX9_two 116 = .ok (.ireturn, 1) := by decide +kernel
theorem dX9_two_117 : decode cX9_two 117 = .ok (.iload_n 1, 1) := by decide +kernel
theorem dX9_two_118 : decode cX9_two 118 = .ok (.iload_n 2, 1) := by decide +kernel
theorem dX9_two_119 : decode cX9_two 119 = .ok (.imul, 1) := by decide +kernel
theorem dX9_two_120 : decode cX9_two 120 = .ok (.ireturn, 1) := by decide +kernel
theorem dX9_two_121 : decode cX9_two 121 = .ok (.iload_n 2, 1) := by decide +kernel
theorem dX9_two_122 : decode cX9_two 122 = .ok (.ifCond .ne 7, 3) := by decide +kernel
theorem dX9_two_125 : decode cX9_two 125 = .ok (.iconst 0, 1) := by decide +kernel
theorem dX9_two_126 : decode cX9_two 126 = .ok (.goto 6, 3) := by decide +kernel
theorem dX9_two_129 : decode cX9_two 129 = .ok (.iload_n 1, 1) := by decide +kernel
theorem dX9_two_130 : decode cX9_two 130 = .ok (.iload_n 2, 1) := by decide +kernel
theorem dX9_two_131 : decode cX9_two 131 = .ok (.idiv, 1) := by decide +kernel
theorem dX9_two_132 : decode cX9_two 132 = .ok (.ireturn, 1) := by decide +kernel
theorem dX9_worksOut_0 : decode cX9_worksOut 0 = .ok (.iconst 0, 1) := by decide +kernel
theorem dX9_worksOut_1 : decode cX9_worksOut 1 = .ok (.istore_n 2, 1) := by decide +kernel
theorem dX9_worksOut_2 : decode cX9_worksOut 2 = .ok (.aload_n 0, 1) := by decide +kernel
theorem dX9_worksOut_3 : decode cX9_worksOut 3 = .ok (.getfield 9, 3) := by decide +kernel
theorem dX9_worksOut_6 : decode cX9_worksOut 6 = .ok (.bipush 61, 2) := by decide +kernel
theorem dX9_worksOut_8 : decode cX9_worksOut 8 = .ok (.iconst 2, 1) := by decide +kernel
theorem dX9_worksOut_9 : decode cX9_worksOut 9 = .ok (.iload_n 1, 1) := by decide +kernel
theorem dX9_worksOut_10 : decode cX9_worksOut 10 = .ok (.imul, 1) := by decide +kernel
theorem dX9_worksOut_11 : decode cX9_worksOut 11 = .ok (.iadd, 1) := by decide +kernel
theorem dX9_worksOut_12 : decode cX9_worksOut 12 = .ok (.iaload, 1) := by decide +kernel
theorem dX9_worksOut_13 : decode cX9_worksOut 13 = .ok (.sipush 1000, 3) := by decide +kernel
theorem dX9_worksOut_16 : decode cX9_worksOut 16 = .ok (.irem, 1) := by decide +kernel
theorem dX9_worksOut_17 : decode cX9_worksOut 17 = .ok (.istore_n 3, 1) := by decide +kernel
theorem dX9_worksOut_18 : decode cX9_worksOut 18 = .ok (.iconst 0, 1) := by decide +kernel
theorem dX9_worksOut_19 : decode cX9_worksOut 19 = .ok (.istore 4, 2) := by decide +kernel
theorem dX9_worksOut_21 : decode cX9_worksOut 21 = .ok (.iload 4, 2) := by decide +kernel
theorem dX9_worksOut_23 : decode cX9_worksOut 23 = .ok (.iload_n 3, 1) := by decide +kernel
theorem dX9_worksOut_24 : decode cX9_worksOut 24 = .ok (.if_icmp .ge 131, 3) := by decide +kernel
theorem dX9_worksOut_27 : decode cX9_worksOut 27 = .ok (.aload_n 0, 1) := by decide +kernel
theorem dX9_worksOut_28 : decode cX9_worksOut 28 = .ok (.getfield 9, 3) := by decide +kernel
theorem dX9_worksOut_31 : decode cX9_worksOut 31 = .ok (.bipush 89, 2) := by decide +kernel
theorem dX9_worksOut_33 : decode cX9_worksOut 33 = .ok (.bipush 96, 2) := by decide +kernel
theorem dX9_worksOut_35 : decode cX9_worksOut 35 = .ok (.iload_n 1, 1) := by decide +kernel
theorem dX9_worksOut_36 : decode cX9_worksOut 36 = .ok (.imul, 1) := by decide +kernel
theorem dX9_worksOut_37 : decode cX9_worksOut 37 = .ok (.iadd, 1) := by decide +kernel
theorem dX9_worksOut_38 : decode cX9_worksOut 38 = .ok (.iload 4, 2) := by decide +kernel
theorem dX9_worksOut_40 : decode cX9_worksOut 40 = .ok (.iadd, 1) := by decide +kernel
theorem dX9_worksOut_41 : decode cX9_worksOut 41 = .ok (.iaload, 1) := by decide +kernel
theorem dX9_worksOut_42 : decode cX9_worksOut 42 = .ok (.istore 5, 2) := by decide +kernel
theorem dX9_worksOut_44 : decode cX9_worksOut 44 = .ok (.iload 5, 2) := by decide +kernel
theorem dX9_worksOut_46 : decode cX9_worksOut 46 = .ok (.ifCond .lt 39, 3) := by decide +kernel
theorem dX9_worksOut_49 : decode cX9_worksOut 49 = .ok (.aload_n 0, 1) := by decide +kernel
theorem dX9_worksOut_50 : decode cX9_worksOut 50 = .ok (.getfield 42, 3) := by decide +kernel
theorem dX9_worksOut_53 : decode cX9_worksOut 53 = .ok (.iload_n 2, 1) := by decide +kernel
theorem dX9_worksOut_54 : decode cX9_worksOut 54 = .ok (.iload 5, 2) := by decide +kernel
theorem dX9_worksOut_56 : decode cX9_worksOut 56 = .ok (.sipush 10000, 3) := by decide +kernel
theorem dX9_worksOut_59 : decode cX9_worksOut 59 = .ok (.if_icmp .ge 8, 3) := by decide +kernel
theorem dX9_worksOut_62 : decode cX9_worksOut 62 = .ok (.iload 5, 2) := by decide +kernel
theorem dX9_worksOut_64 : decode cX9_worksOut 64 = .ok (.goto 14, 3) := by decide +kernel
theorem dX9_worksOut_67 : decode cX9_worksOut 67 = .ok (.aload_n 0, 1) := by decide +kernel
theorem dX9_worksOut_68 : decode cX9_worksOut 68 = .ok (.getfield 45, 3) := by decide +kernel
theorem dX9_worksOut_71 : decode cX9_worksOut 71 = .ok (.iload 5, 2) := by decide +kernel
theorem dX9_worksOut_73 : decode cX9_worksOut 73 = .ok (.sipush 10000, 3) := by decide +kernel
theorem dX9_worksOut_76 : decode cX9_worksOut 76 = .ok (.isub, 1) := by decide +kernel
theorem dX9_worksOut_77 : decode cX9_worksOut 77 = .ok (.iaload, 1) := by decide +kernel
theorem dX9_worksOut_78 : decode cX9_worksOut 78 = .ok (.iastore, 1) := by decide +kernel
theorem dX9_worksOut_79 : decode cX9_worksOut 79 = .ok (.iinc 2 1, 3) := by decide +kernel
theorem dX9_worksOut_82 : decode cX9_worksOut 82 = .ok (.goto 67, 3) := by decide +kernel
theorem dX9_worksOut_85 : decode cX9_worksOut 85 = .ok (.iload 5, 2) := by decide +kernel
theorem dX9_worksOut_87 : decode cX9_worksOut 87 = .ok (.bipush (-10), 2) := by decide +kernel
theorem dX9_worksOut_89 : decode cX9_worksOut 89 = .ok (.if_icmp .ne 30, 3) := by decide +kernel
theorem dX9_worksOut_92 : decode cX9_worksOut 92 = .ok (.aload_n 0, 1) := by decide +kernel
theorem dX9_worksOut_93 : decode cX9_worksOut 93 = .ok (.getfield 42, 3) := by decide +kernel
theorem dX9_worksOut_96 : decode cX9_worksOut 96 = .ok (.iload_n 2, 1) := by decide +kernel
theorem dX9_worksOut_97 : decode cX9_worksOut 97 = .ok (.iconst 1, 1) := by decide +kernel
theorem dX9_worksOut_98 : decode cX9_worksOut 98 = .ok (.isub, 1) := by decide +kernel
theorem dX9_worksOut_99 : decode cX9_worksOut 99 = .ok (.aload_n 0, 1) := by decide +kernel
theorem dX9_worksOut_100 : decode cX9_worksOut 100 = .ok (.getfield 42, 3) := by decide +kernel
theorem dX9_worksOut_103 : decode cX9_worksOut 103 = .ok (.iload_n 2, 1) := by decide +kernel
theorem dX9_worksOut_104 : decode cX9_worksOut 104 = .ok (.iconst 1, 1) := by decide +kernel
theorem dX9_worksOut_105 : decode cX9_worksOut 105 = .ok (.isub, 1) := by decide +kernel
theorem dX9_worksOut_106 : decode cX9_worksOut 106 = .ok (.iaload, 1) := by decide +kernel
theorem dX9_worksOut_107 : decode cX9_worksOut 107 = .ok (.ifCond .ne 7, 3) := by decide +kernel
theorem dX9_worksOut_110 : decode cX9_worksOut 110 = .ok (.iconst 1, 1) := by decide +kernel
theorem dX9_worksOut_111 : decode cX9_worksOut 111 = .ok (.goto 4, 3) := by decide +kernel
theorem dX9_worksOut_114 : decode cX9_worksOut 114 = .ok (.iconst 0, 1) := by decide +kernel
theorem dX9_worksOut_115 : decode cX9_worksOut 115 = .ok (.iastore, 1) := by decide +kernel
theorem dX9_worksOut_116 : decode cX9_worksOut 116 = .ok (.goto 33, 3) := by decide +kernel
theorem dX9_worksOut_119 : decode cX9_worksOut 119 = .ok (.iinc 2 (-1), 3) := by decide +kernel
theorem dX9_worksOut_122 : decode cX9_worksOut 122 = .ok (.aload_n 0, 1) := by decide +kernel
theorem dX9_worksOut_123 : decode cX9_worksOut 123 = .ok (.getfield 42, 3) := by decide +kernel
theorem dX9_worksOut_126 : decode cX9_worksOut 126 = .ok (.iload_n 2, 1) := by decide +kernel
theorem dX9_worksOut_127 : decode cX9_worksOut 127 = .ok (.iconst 1, 1) := by decide +kernel
theorem dX9_worksOut_128 : decode cX9_worksOut 128 = .ok (.isub, 1) := by decide +kernel
theorem dX9_worksOut_129 : decode cX9_worksOut 129 = .ok (.iload 5, 2) := by decide +kernel
theorem dX9_worksOut_131 : decode cX9_worksOut 131 = .ok (.aload_n 0, 1) := by decide +kernel
theorem dX9_worksOut_132 : decode cX9_worksOut 132 = .ok (.getfield 42, 3) := by decide +kernel
theorem dX9_worksOut_135 : decode cX9_worksOut 135 = .ok (.iload_n 2, 1) := by decide +kernel
theorem dX9_worksOut_136 : decode cX9_worksOut 136 = .ok (.iconst 1, 1) := by decide +kernel
theorem dX9_worksOut_137 : decode cX9_worksOut 137 = .ok (.isub, 1) := by decide +kernel
theorem dX9_worksOut_138 : decode cX9_worksOut 138 = .ok (.iaload, 1) := by decide +kernel
theorem dX9_worksOut_139 : decode cX9_worksOut 139 = .ok (.aload_n 0, 1) := by decide +kernel
theorem dX9_worksOut_140 : decode cX9_worksOut 140 = .ok (.getfield 42, 3) := by decide +kernel
theorem dX9_worksOut_143 : decode cX9_worksOut 143 = .ok (.iload_n 2, 1) := by decide +kernel
theorem dX9_worksOut_144 : decode cX9_worksOut 144 = .ok (.iaload, 1) := by decide +kernel
theorem dX9_worksOut_145 : decode cX9_worksOut 145 = .ok (.invokestatic 243, 3) := by decide +kernel
theorem dX9_worksOut_148 : decode cX9_worksOut 148 = .ok (.iastore, 1) := by decide +kernel
theorem dX9_worksOut_149 : decode cX9_worksOut 149 = .ok (.iinc 4 1, 3) := by decide +kernel
theorem dX9_worksOut_152 : decode cX9_worksOut 152 = .ok (.goto (-131), 3) := by decide +kernel
theorem dX9_worksOut_155 : decode cX9_worksOut 155 = .ok (.aload_n 0, 1) := by decide +kernel
theorem dX9_worksOut_156 : decode cX9_worksOut 156 = .ok (.getfield 42, 3) := by decide +kernel
theorem dX9_worksOut_159 : decode cX9_worksOut 159 = .ok (.iconst 0, 1) := by decide +kernel
theorem dX9_worksOut_160 : decode cX9_worksOut 160 = .ok (.iaload, 1) := by decide +kernel
theorem dX9_worksOut_161 : decode cX9_worksOut 161 = .ok (.ireturn, 1) := by decide +kernel
theorem dX9_isSheet_0 : decode cX9_isSheet 0 = .ok (.iload_n 0, 1) := by decide +kernel
theorem dX9_isSheet_1 : decode cX9_isSheet 1 = .ok (.iconst 0, 1) := by decide +kernel
theorem dX9_isSheet_2 : decode cX9_isSheet 2 = .ok (.iconst 3, 1) := by decide +kernel
theorem dX9_isSheet_3 : decode cX9_isSheet 3 = .ok (.invokestatic 75, 3) := by decide +kernel
theorem dX9_isSheet_6 : decode cX9_isSheet 6 = .ok (.ireturn, 1) := by decide +kernel
theorem dX9_isSlot_0 : decode cX9_isSlot 0 = .ok (.iload_n 0, 1) := by decide +kernel
theorem dX9_isSlot_1 : decode cX9_isSlot 1 = .ok (.iconst 0, 1) := by decide +kernel
theorem dX9_isSlot_2 : decode cX9_isSlot 2 = .ok (.iconst 4, 1) := by decide +kernel
theorem dX9_isSlot_3 : decode cX9_isSlot 3 = .ok (.invokestatic 75, 3) := by decide +kernel
theorem dX9_isSlot_6 : decode cX9_isSlot 6 = .ok (.ireturn, 1) := by decide +kernel
theorem dX9_sheet_0 : decode cX9_sheet 0 = .ok (.iload_n 1, 1) := by decide +kernel
theorem dX9_sheet_1 : decode cX9_sheet 1 = .ok (.invokestatic 171, 3) := by decide +kernel
theorem dX9_sheet_4 : decode cX9_sheet 4 = .ok (.ifCond .eq 22, 3) := by decide +kernel
theorem dX9_sheet_7 : decode cX9_sheet 7 = .ok (.iload_n 2, 1) := by decide +kernel
theorem dX9_sheet_8 : decode cX9_sheet 8 = .ok (.iconst (-1), 1) := by decide +kernel
theorem dX9_sheet_9 : decode cX9_sheet 9 = .ok (.iconst 1, 1) := by decide +kernel
theorem dX9_sheet_10 : decode cX9_sheet 10 = .ok (.invokestatic 75, 3) := by decide +kernel
theorem dX9_sheet_13 : decode cX9_sheet 13 = .ok (.ifCond .eq 13, 3) := by decide +kernel
theorem dX9_sheet_16 : decode cX9_sheet 16 = .ok (.iload_n 2, 1) := by decide +kernel
theorem dX9_sheet_17 : decode cX9_sheet 17 = .ok (.ifCond .lt 12, 3) := by decide +kernel
theorem dX9_sheet_20 : decode cX9_sheet 20 = .ok (.iload_n 3, 1) := by decide +kernel
theorem dX9_sheet_21 : decode cX9_sheet 21 = .ok (.bipush 24, 2) := by decide +kernel
theorem dX9_sheet_23 : decode cX9_sheet 23 = .ok (.if_icmp .le 6, 3) := by decide +kernel
theorem dX9_sheet_26 : decode cX9_sheet 26 = .ok (.ldc 83, 2) := by decide +kernel
theorem dX9_sheet_28 : decode cX9_sheet 28 = .ok (.ireturn, 1) := by decide +kernel
theorem dX9_sheet_29 : decode cX9_sheet 29 = .ok (.iload_n 2, 1) := by decide +kernel
theorem dX9_sheet_30 : decode cX9_sheet 30 = .ok (.ifCond .lt 10, 3) := by decide +kernel
theorem dX9_sheet_33 : decode cX9_sheet 33 = .ok (.iload_n 3, 1) := by decide +kernel
theorem dX9_sheet_34 : decode cX9_sheet 34 = .ok (.ifCond .ge 6, 3) := by decide +kernel
theorem dX9_sheet_37 : decode cX9_sheet 37 = .ok (.ldc 246, 2) := by decide +kernel
theorem dX9_sheet_39 : decode cX9_sheet 39 = .ok (.ireturn, 1) := by decide +kernel
theorem dX9_sheet_40 : decode cX9_sheet 40 = .ok (.aload_n 0, 1) := by decide +kernel
theorem dX9_sheet_41 : decode cX9_sheet 41 = .ok (.getfield 48, 3) := by decide +kernel
theorem dX9_sheet_44 : decode cX9_sheet 44 = .ok (.iload_n 1, 1) := by decide +kernel
theorem dX9_sheet_45 : decode cX9_sheet 45 = .ok (.iload_n 2, 1) := by decide +kernel
theorem dX9_sheet_46 : decode cX9_sheet 46 = .ok (.iastore, 1) := by decide +kernel
theorem dX9_sheet_47 : decode cX9_sheet 47 = .ok (.aload_n 0, 1) := by decide +kernel
theorem dX9_sheet_48 : decode cX9_sheet 48 = .ok (.getfield 51, 3) := by decide +kernel
theorem dX9_sheet_51 : decode cX9_sheet 51 = .ok (.iload_n 1, 1) := by decide +kernel
theorem dX9_sheet_52 : decode cX9_sheet 52 = .ok (.iload_n 2, 1) := by decide +kernel
theorem dX9_sheet_53 : decode cX9_sheet 53 = .ok (.ifCond .ge 7, 3) := by decide +kernel
theorem dX9_sheet_56 : decode cX9_sheet 56 = .ok (.iconst 0, 1) := by decide +kernel
theorem dX9_sheet_57 : decode cX9_sheet 57 = .ok (.goto 4, 3) := by decide +kernel
theorem dX9_sheet_60 : decode cX9_sheet 60 = .ok (.iload_n 3, 1) := by decide +kernel
theorem dX9_sheet_61 : decode cX9_sheet 61 = .ok (.iastore, 1) := by decide +kernel
theorem dX9_sheet_62 : decode cX9_sheet 62 = .ok (.iconst 0, 1) := by decide +kernel
theorem dX9_sheet_63 : decode cX9_sheet 63 = .ok (.istore 4, 2) := by decide +kernel
theorem dX9_sheet_65 : decode cX9_sheet 65 = .ok (.iload 4, 2) := by decide +kernel
theorem dX9_sheet_67 : decode cX9_sheet 67 = .ok (.bipush 24, 2) := by decide +kernel
theorem dX9_sheet_69 : decode cX9_sheet 69 = .ok (.if_icmp .ge 22, 3) := by decide +kernel
theorem dX9_sheet_72 : decode cX9_sheet 72 = .ok (.aload_n 0, 1) := by decide +kernel
theorem dX9_sheet_73 : decode cX9_sheet 73 = .ok (.getfield 54, 3) := by decide +kernel
theorem dX9_sheet_76 : decode cX9_sheet 76 = .ok (.bipush 24, 2) := by decide +kernel
theorem dX9_sheet_78 : decode cX9_sheet 78 = .ok (.iload_n 1, 1) := by decide +kernel
theorem dX9_sheet_79 : decode cX9_sheet 79 = .ok (.imul, 1) := by decide +kernel
theorem dX9_sheet_80 : decode cX9_sheet 80 = .ok (.iload 4, 2) := by decide +kernel
theorem dX9_sheet_82 : decode cX9_sheet 82 = .ok (.iadd, 1) := by decide +kernel
theorem dX9_sheet_83 : decode cX9_sheet 83 = .ok (.iconst 0, 1) := by decide +kernel
theorem dX9_sheet_84 : decode cX9_sheet 84 = .ok (.iastore, 1) := by decide +kernel
theorem dX9_sheet_85 : decode cX9_sheet 85 = .ok (.iinc 4 1, 3) := by decide +kernel
theorem dX9_sheet_88 : decode cX9_sheet 88 = .ok (.goto (-23), 3) := by decide +kernel
theorem dX9_sheet_91 : decode cX9_sheet 91 = .ok (.aload_n 0, 1) := by decide +kernel
theorem dX9_sheet_92 : decode cX9_sheet 92 = .ok (.getfield 51, 3) := by decide +kernel
theorem dX9_sheet_95 : decode cX9_sheet 95 = .ok (.iload_n 1, 1) := by decide +kernel
theorem dX9_sheet_96 : decode cX9_sheet 96 = .ok (.iaload, 1) := by decide +kernel
theorem dX9_sheet_97 : decode cX9_sheet 97 = .ok (.ireturn, 1) := by decide +kernel
theorem dX9_mark_0 : decode cX9_mark 0 = .ok (.iload_n 1, 1) := by decide +kernel
theorem dX9_mark_1 : decode cX9_mark 1 = .ok (.invokestatic 171, 3) := by decide +kernel
theorem dX9_mark_4 : decode cX9_mark 4 = .ok (.ifCond .ne 6, 3) := by decide +kernel
theorem dX9_mark_7 : decode cX9_mark 7 = .ok (.ldc 83, 2) := by decide +kernel
theorem dX9_mark_9 : decode cX9_mark 9 = .ok (.ireturn, 1) := by decide +kernel
theorem dX9_mark_10 : decode cX9_mark 10 = .ok (.aload_n 0, 1) := by decide +kernel
theorem dX9_mark_11 : decode cX9_mark 11 = .ok (.getfield 48, 3) := by decide +kernel
theorem dX9_mark_14 : decode cX9_mark 14 = .ok (.iload_n 1, 1) := by decide +kernel
theorem dX9_mark_15 : decode cX9_mark 15 = .ok (.iaload, 1) := by decide +kernel
theorem dX9_mark_16 : decode cX9_mark 16 = .ok (.ifCond .ge 6, 3) := by decide +kernel
theorem dX9_mark_19 : decode cX9_mark 19 = .ok (.ldc 174, 2) := by decide +kernel
theorem dX9_mark_21 : decode cX9_mark 21 = .ok (.ireturn, 1) := by decide +kernel
theorem dX9_mark_22 : decode cX9_mark 22 = .ok (.iload_n 2, 1) := by decide +kernel
theorem dX9_mark_23 : decode cX9_mark 23 = .ok (.iconst 0, 1) := by decide +kernel
theorem dX9_mark_24 : decode cX9_mark 24 = .ok (.aload_n 0, 1) := by decide +kernel
theorem dX9_mark_25 : decode cX9_mark 25 = .ok (.getfield 51, 3) := by decide +kernel
theorem dX9_mark_28 : decode cX9_mark 28 = .ok (.iload_n 1, 1) := by decide +kernel
theorem dX9_mark_29 : decode cX9_mark 29 = .ok (.iaload, 1) := by decide +kernel
theorem dX9_mark_30 : decode cX9_mark 30 = .ok (.iconst 1, 1) := by decide +kernel
theorem dX9_mark_31 : decode cX9_mark 31 = .ok (.isub, 1) := by decide +kernel
theorem dX9_mark_32 : decode cX9_mark 32 = .ok (.invokestatic 75, 3) := by decide +kernel
theorem dX9_mark_35 : decode cX9_mark 35 = .ok (.ifCond .ne 6, 3) := by decide +kernel
theorem dX9_mark_38 : decode cX9_mark 38 = .ok (.ldc 247, 2) := by decide +kernel
theorem dX9_mark_40 : decode cX9_mark 40 = .ok (.ireturn, 1) := by decide +kernel
theorem dX9_mark_41 : decode cX9_mark 41 = .ok (.aload_n 0, 1) := by decide +kernel
theorem dX9_mark_42 : decode cX9_mark 42 = .ok (.getfield 48, 3) := by decide +kernel
theorem dX9_mark_45 : decode cX9_mark 45 = .ok (.iload_n 1, 1) := by decide +kernel
theorem dX9_mark_46 : decode cX9_mark 46 = .ok (.iaload, 1) := by decide +kernel
theorem dX9_mark_47 : decode cX9_mark 47 = .ok (.ifCond .ne 12, 3) := by decide +kernel
theorem dX9_mark_50 : decode cX9_mark 50 = .ok (.iload_n 3, 1) := by decide +kernel
theorem dX9_mark_51 : decode cX9_mark 51 = .ok (.ldc 166, 2) := by decide +kernel
theorem dX9_mark_53 : decode cX9_mark 53 = .ok (.if_icmp .ne 6, 3) := by decide +kernel
theorem dX9_mark_56 : decode cX9_mark 56 = .ok (.ldc 121, 2) := by decide +kernel
theorem dX9_mark_58 : decode cX9_mark 58 = .ok (.ireturn, 1) := by decide +kernel
theorem dX9_mark_59 : decode cX9_mark 59 = .ok (.aload_n 0, 1) := by decide +kernel
theorem dX9_mark_60 : decode cX9_mark 60 = .ok (.getfield 48, 3) := by decide +kernel
theorem dX9_mark_63 : decode cX9_mark 63 = .ok (.iload_n 1, 1) := by decide +kernel
theorem dX9_mark_64 : decode cX9_mark 64 = .ok (.iaload, 1) := by decide +kernel
theorem dX9_mark_65 : decode cX9_mark 65 = .ok (.iconst 1, 1) := by decide +kernel
theorem dX9_mark_66 : decode cX9_mark 66 = .ok (.if_icmp .ne 23, 3) := by decide +kernel
theorem dX9_mark_69 : decode cX9_mark 69 = .ok (.iload_n 3, 1) := by decide +kernel
theorem dX9_mark_70 : decode cX9_mark 70 = .ok (.ldc 166, 2) := by decide +kernel
theorem dX9_mark_72 : decode cX9_mark 72 = .ok (.if_icmp .eq 17, 3) := by decide +kernel
theorem dX9_mark_75 : decode cX9_mark 75 = .ok (.iload_n 3, 1) := by decide +kernel
theorem dX9_mark_76 : decode cX9_mark 76 = .ok (.ldc 248, 2) := by decide +kernel
theorem dX9_mark_78 : decode cX9_mark 78 = .ok (.ldc 249, 2) := by decide +kernel
theorem dX9_mark_80 : decode cX9_mark 80 = .ok (.invokestatic 75, 3) := by decide +kernel
theorem dX9_mark_83 : decode cX9_mark 83 = .ok (.ifCond .ne 6, 3) := by decide +kernel
theorem dX9_mark_86 : decode cX9_mark 86 = .ok (.ldc 83, 2) := by decide +kernel
theorem dX9_mark_88 : decode cX9_mark 88 = .ok (.ireturn, 1) := by decide +kernel
theorem dX9_mark_89 : decode cX9_mark 89 = .ok (.aload_n 0, 1) := by decide +kernel
theorem dX9_mark_90 : decode cX9_mark 90 = .ok (.getfield 54, 3) := by decide +kernel
theorem dX9_mark_93 : decode cX9_mark 93 = .ok (.bipush 24, 2) := by decide +kernel
theorem dX9_mark_95 : decode cX9_mark 95 = .ok (.iload_n 1, 1) := by decide +kernel
theorem dX9_mark_96 : decode cX9_mark 96 = .ok (.imul, 1) := by decide +kernel
theorem dX9_mark_97 : decode cX9_mark 97 = .ok (.iload_n 2, 1) := by decide +kernel
theorem dX9_mark_98 : decode cX9_mark 98 = .ok (.iadd, 1) := by decide +kernel
theorem dX9_mark_99 : decode cX9_mark 99 = .ok (.aload_n 0, 1) := by decide +kernel
theorem dX9_mark_100 : decode cX9_mark 100 = .ok (.getfield 48, 3) := by decide +kernel
theorem dX9_mark_103 : decode cX9_mark 103 = .ok (.iload_n 1, 1) := by decide +kernel
theorem dX9_mark_104 : decode cX9_mark 104 = .ok (.iaload, 1) := by decide +kernel
theorem dX9_mark_105 : decode cX9_mark 105 = .ok (.ifCond .ne 8, 3) := by decide +kernel
theorem dX9_mark_108 : decode cX9_mark 108 = .ok (.iload_n 3, 1) := by decide +kernel
theorem dX9_mark_109 : decode cX9_mark 109 = .ok (.i2s, 1) := by decide +kernel
theorem dX9_mark_110 : decode cX9_mark 110 = .ok (.goto 4, 3) := by decide +kernel
theorem dX9_mark_113 : decode cX9_mark 113 = .ok (.iload_n 3, 1) := by decide +kernel
theorem dX9_mark_114 : decode cX9_mark 114 = .ok (.iastore, 1) := by decide +kernel
theorem dX9_mark_115 : decode cX9_mark 115 = .ok (.iconst 1, 1) := by decide +kernel
theorem dX9_mark_116 : decode cX9_mark 116 = .ok (.ireturn, 1) := by decide +kernel
theorem dX9_pour_0 : decode cX9_pour 0 = .ok (.iload_n 1, 1) := by decide +kernel
theorem dX9_pour_1 : decode cX9_pour 1 = .ok (.invokestatic 171, 3) := by decide +kernel
theorem dX9_pour_4 : decode cX9_pour 4 = .ok (.ifCond .ne 6, 3) := by decide +kernel
theorem dX9_pour_7 : decode cX9_pour 7 = .ok (.ldc 83, 2) := by decide +kernel
theorem dX9_pour_9 : decode cX9_pour 9 = .ok (.ireturn, 1) := by decide +kernel
theorem dX9_pour_10 : decode cX9_pour 10 = .ok (.aload_n 0, 1) := by decide +kernel
theorem dX9_pour_11 : decode cX9_pour 11 = .ok (.getfield 48, 3) := by decide +kernel
theorem dX9_pour_14 : decode cX9_pour 14 = .ok (.iload_n 1, 1) := by decide +kernel
theorem dX9_pour_15 : decode cX9_pour 15 = .ok (.iaload, 1) := by decide +kernel
theorem dX9_pour_16 : decode cX9_pour 16 = .ok (.ifCond .ge 6, 3) := by decide +kernel
theorem dX9_pour_19 : decode cX9_pour 19 = .ok (.ldc 174, 2) := by decide +kernel
theorem dX9_pour_21 : decode cX9_pour 21 = .ok (.ireturn, 1) := by decide +kernel
theorem dX9_pour_22 : decode cX9_pour 22 = .ok (.iconst 0, 1) := by decide +kernel
theorem dX9_pour_23 : decode cX9_pour 23 = .ok (.istore_n 2, 1) := by decide +kernel
theorem dX9_pour_24 : decode cX9_pour 24 = .ok (.iconst 0, 1) := by decide +kernel
theorem dX9_pour_25 : decode cX9_pour 25 = .ok (.istore_n 3, 1) := by decide +kernel
theorem dX9_pour_26 : decode cX9_pour 26 = .ok (.iload_n 3, 1) := by decide +kernel
theorem dX9_pour_27 : decode cX9_pour 27 = .ok (.aload_n 0, 1) := by decide +kernel
theorem dX9_pour_28 : decode cX9_pour 28 = .ok (.getfield 51, 3) := by decide +kernel
theorem dX9_pour_31 : decode cX9_pour 31 = .ok (.iload_n 1, 1) := by decide +kernel
theorem dX9_pour_32 : decode cX9_pour 32 = .ok (.iaload, 1) := by decide +kernel
theorem dX9_pour_33 : decode cX9_pour 33 = .ok (.if_icmp .ge 80, 3) := by decide +kernel
theorem dX9_pour_36 : decode cX9_pour 36 = .ok (.iload_n 3, 1) := by decide +kernel
theorem dX9_pour_37 : decode cX9_pour 37 = .ok (.bipush 8, 2) := by decide +kernel
theorem dX9_pour_39 : decode cX9_pour 39 = .ok (.if_icmp .ge 74, 3) := by decide +kernel
theorem dX9_pour_42 : decode cX9_pour 42 = .ok (.aload_n 0, 1) := by decide +kernel
theorem dX9_pour_43 : decode cX9_pour 43 = .ok (.getfield 54, 3) := by decide +kernel
end
section
theorem dX9_pour_46 : decode cX9_pour 46 = .ok (.bipush 24, 2) := by decide +kernel
theorem dX9_pour_48 : decode cX9_pour 48 = .ok (.iload_n 1, 1) := by decide +kernel
theorem dX9_pour_49 : decode cX9_pour 49 = .ok (.imul, 1) := by decide +kernel
theorem dX9_pour_50 : decode cX9_pour 50 = .ok (.iload_n 3, 1) := by decide +kernel
theorem dX9_pour_51 : decode cX9_pour 51 = .ok (.iadd, 1) := by decide +kernel
theorem dX9_pour_52 : decode cX9_pour 52 = .ok (.iaload, 1) := by decide +kernel
theorem dX9_pour_53 : decode cX9_pour 53 = .ok (.istore 4, 2) := by decide +kernel
theorem dX9_pour_55 : decode cX9_pour 55 = .ok (.iload 4, 2) := by decide +kernel
theorem dX9_pour_57 : decode cX9_pour 57 = .ok (.ldc 166, 2) := by decide +kernel
theorem dX9_pour_59 : decode cX9_pour 59 = .ok (.if_icmp .ne 15, 3) := by decide +kernel
theorem dX9_pour_62 : decode cX9_pour 62 = .ok (.aload_n 0, 1) := by decide +kernel
theorem dX9_pour_63 : decode cX9_pour 63 = .ok (.getfield 9, 3) := by decide +kernel
theorem dX9_pour_66 : decode cX9_pour 66 = .ok (.bipush 8, 2) := by decide +kernel
theorem dX9_pour_68 : decode cX9_pour 68 = .ok (.iload_n 3, 1) := by decide +kernel
theorem dX9_pour_69 : decode cX9_pour 69 = .ok (.iadd, 1) := by decide +kernel
theorem dX9_pour_70 : decode cX9_pour 70 = .ok (.iaload, 1) := by decide +kernel
theorem dX9_pour_71 : decode cX9_pour 71 = .ok (.goto 11, 3) := by decide +kernel
theorem dX9_pour_74 : decode cX9_pour 74 = .ok (.iload 4, 2) := by decide +kernel
theorem dX9_pour_76 : decode cX9_pour 76 = .ok (.iconst 0, 1) := by decide +kernel
theorem dX9_pour_77 : decode cX9_pour 77 = .ok (.bipush 9, 2) := by decide +kernel
theorem dX9_pour_79 : decode cX9_pour 79 = .ok (.invokestatic 110, 3) := by decide +kernel
theorem dX9_pour_82 : decode cX9_pour 82 = .ok (.istore 5, 2) := by decide +kernel
theorem dX9_pour_84 : decode cX9_pour 84 = .ok (.iload_n 2, 1) := by decide +kernel
theorem dX9_pour_85 : decode cX9_pour 85 = .ok (.aload_n 0, 1) := by decide +kernel
theorem dX9_pour_86 : decode cX9_pour 86 = .ok (.bipush 8, 2) := by decide +kernel
theorem dX9_pour_88 : decode cX9_pour 88 = .ok (.iload_n 3, 1) := by decide +kernel
theorem dX9_pour_89 : decode cX9_pour 89 = .ok (.iadd, 1) := by decide +kernel
theorem dX9_pour_90 : decode cX9_pour 90 = .ok (.iload 5, 2) := by decide +kernel
theorem dX9_pour_92 : decode cX9_pour 92 = .ok (.invokevirtual 122, 3) := by decide +kernel
theorem dX9_pour_95 : decode cX9_pour 95 = .ok (.iload 5, 2) := by decide +kernel
theorem dX9_pour_97 : decode cX9_pour 97 = .ok (.if_icmp .ne 7, 3) := by decide +kernel
theorem dX9_pour_100 : decode cX9_pour 100 = .ok (.iconst 0, 1) := by decide +kernel
theorem dX9_pour_101 : decode cX9_pour 101 = .ok (.goto 4, 3) := by decide +kernel
theorem dX9_pour_104 : decode cX9_pour 104 = .ok (.iconst 1, 1) := by decide +kernel
theorem dX9_pour_105 : decode cX9_pour 105 = .ok (.iadd, 1) := by decide +kernel
theorem dX9_pour_106 : decode cX9_pour 106 = .ok (.istore_n 2, 1) := by decide +kernel
theorem dX9_pour_107 : decode cX9_pour 107 = .ok (.iinc 3 1, 3) := by decide +kernel
theorem dX9_pour_110 : decode cX9_pour 110 = .ok (.goto (-84), 3) := by decide +kernel
theorem dX9_pour_113 : decode cX9_pour 113 = .ok (.iload_n 2, 1) := by decide +kernel
theorem dX9_pour_114 : decode cX9_pour 114 = .ok (.ireturn, 1) := by decide +kernel
theorem dX9_reads_0 : decode cX9_reads 0 = .ok (.iload_n 1, 1) := by decide +kernel
theorem dX9_reads_1 : decode cX9_reads 1 = .ok (.invokestatic 171, 3) := by decide +kernel
theorem dX9_reads_4 : decode cX9_reads 4 = .ok (.ifCond .ne 6, 3) := by decide +kernel
theorem dX9_reads_7 : decode cX9_reads 7 = .ok (.ldc 83, 2) := by decide +kernel
theorem dX9_reads_9 : decode cX9_reads 9 = .ok (.ireturn, 1) := by decide +kernel
theorem dX9_reads_10 : decode cX9_reads 10 = .ok (.aload_n 0, 1) := by decide +kernel
theorem dX9_reads_11 : decode cX9_reads 11 = .ok (.getfield 48, 3) := by decide +kernel
theorem dX9_reads_14 : decode cX9_reads 14 = .ok (.iload_n 1, 1) := by decide +kernel
theorem dX9_reads_15 : decode cX9_reads 15 = .ok (.iaload, 1) := by decide +kernel
theorem dX9_reads_16 : decode cX9_reads 16 = .ok (.ifCond .ge 6, 3) := by decide +kernel
theorem dX9_reads_19 : decode cX9_reads 19 = .ok (.ldc 174, 2) := by decide +kernel
theorem dX9_reads_21 : decode cX9_reads 21 = .ok (.ireturn, 1) := by decide +kernel
theorem dX9_reads_22 : decode cX9_reads 22 = .ok (.iconst 0, 1) := by decide +kernel
theorem dX9_reads_23 : decode cX9_reads 23 = .ok (.istore_n 2, 1) := by decide +kernel
theorem dX9_reads_24 : decode cX9_reads 24 = .ok (.iload_n 2, 1) := by decide +kernel
theorem dX9_reads_25 : decode cX9_reads 25 = .ok (.aload_n 0, 1) := by decide +kernel
theorem dX9_reads_26 : decode cX9_reads 26 = .ok (.getfield 51, 3) := by decide +kernel
theorem dX9_reads_29 : decode cX9_reads 29 = .ok (.iload_n 1, 1) := by decide +kernel
theorem dX9_reads_30 : decode cX9_reads 30 = .ok (.iaload, 1) := by decide +kernel
theorem dX9_reads_31 : decode cX9_reads 31 = .ok (.if_icmp .ge 47, 3) := by decide +kernel
theorem dX9_reads_34 : decode cX9_reads 34 = .ok (.aload_n 0, 1) := by decide +kernel
theorem dX9_reads_35 : decode cX9_reads 35 = .ok (.getfield 54, 3) := by decide +kernel
theorem dX9_reads_38 : decode cX9_reads 38 = .ok (.bipush 24, 2) := by decide +kernel
theorem dX9_reads_40 : decode cX9_reads 40 = .ok (.iload_n 1, 1) := by decide +kernel
theorem dX9_reads_41 : decode cX9_reads 41 = .ok (.imul, 1) := by decide +kernel
theorem dX9_reads_42 : decode cX9_reads 42 = .ok (.iload_n 2, 1) := by decide +kernel
theorem dX9_reads_43 : decode cX9_reads 43 = .ok (.iadd, 1) := by decide +kernel
theorem dX9_reads_44 : decode cX9_reads 44 = .ok (.iaload, 1) := by decide +kernel
theorem dX9_reads_45 : decode cX9_reads 45 = .ok (.istore_n 3, 1) := by decide +kernel
theorem dX9_reads_46 : decode cX9_reads 46 = .ok (.iload_n 3, 1) := by decide +kernel
theorem dX9_reads_47 : decode cX9_reads 47 = .ok (.ldc 166, 2) := by decide +kernel
theorem dX9_reads_49 : decode cX9_reads 49 = .ok (.if_icmp .eq 23, 3) := by decide +kernel
theorem dX9_reads_52 : decode cX9_reads 52 = .ok (.aload_n 0, 1) := by decide +kernel
theorem dX9_reads_53 : decode cX9_reads 53 = .ok (.iload_n 2, 1) := by decide +kernel
theorem dX9_reads_54 : decode cX9_reads 54 = .ok (.invokevirtual 93, 3) := by decide +kernel
theorem dX9_reads_57 : decode cX9_reads 57 = .ok (.ifCond .eq 13, 3) := by decide +kernel
theorem dX9_reads_60 : decode cX9_reads 60 = .ok (.iload_n 3, 1) := by decide +kernel
theorem dX9_reads_61 : decode cX9_reads 61 = .ok (.aload_n 0, 1) := by decide +kernel
theorem dX9_reads_62 : decode cX9_reads 62 = .ok (.iload_n 2, 1) := by decide +kernel
theorem dX9_reads_63 : decode cX9_reads 63 = .ok (.iconst 3, 1) := by decide +kernel
theorem dX9_reads_64 : decode cX9_reads 64 = .ok (.invokevirtual 89, 3) := by decide +kernel
theorem dX9_reads_67 : decode cX9_reads 67 = .ok (.if_icmp .eq 5, 3) := by decide +kernel
theorem dX9_reads_70 : decode cX9_reads 70 = .ok (.iload_n 2, 1) := by decide +kernel
theorem dX9_reads_71 : decode cX9_reads 71 = .ok (.ireturn, 1) := by decide +kernel
theorem dX9_reads_72 : decode cX9_reads 72 = .ok (.iinc 2 1, 3) := by decide +kernel
theorem dX9_reads_75 : decode cX9_reads 75 = .ok (.goto (-51), 3) := by decide +kernel
theorem dX9_reads_78 : decode cX9_reads 78 = .ok (.ldc 166, 2) := by decide +kernel
theorem dX9_reads_80 : decode cX9_reads 80 = .ok (.ireturn, 1) := by decide +kernel
theorem dX9_copy_0 : decode cX9_copy 0 = .ok (.iload_n 1, 1) := by decide +kernel
theorem dX9_copy_1 : decode cX9_copy 1 = .ok (.invokestatic 171, 3) := by decide +kernel
theorem dX9_copy_4 : decode cX9_copy 4 = .ok (.ifCond .eq 10, 3) := by decide +kernel
theorem dX9_copy_7 : decode cX9_copy 7 = .ok (.iload_n 3, 1) := by decide +kernel
theorem dX9_copy_8 : decode cX9_copy 8 = .ok (.invokestatic 171, 3) := by decide +kernel
theorem dX9_copy_11 : decode cX9_copy 11 = .ok (.ifCond .ne 6, 3) := by decide +kernel
theorem dX9_copy_14 : decode cX9_copy 14 = .ok (.ldc 83, 2) := by decide +kernel
theorem dX9_copy_16 : decode cX9_copy 16 = .ok (.ireturn, 1) := by decide +kernel
theorem dX9_copy_17 : decode cX9_copy 17 = .ok (.aload_n 0, 1) := by decide +kernel
theorem dX9_copy_18 : decode cX9_copy 18 = .ok (.getfield 48, 3) := by decide +kernel
theorem dX9_copy_21 : decode cX9_copy 21 = .ok (.iload_n 1, 1) := by decide +kernel
theorem dX9_copy_22 : decode cX9_copy 22 = .ok (.iaload, 1) := by decide +kernel
theorem dX9_copy_23 : decode cX9_copy 23 = .ok (.ifCond .lt 12, 3) := by decide +kernel
theorem dX9_copy_26 : decode cX9_copy 26 = .ok (.aload_n 0, 1) := by decide +kernel
theorem dX9_copy_27 : decode cX9_copy 27 = .ok (.getfield 48, 3) := by decide +kernel
theorem dX9_copy_30 : decode cX9_copy 30 = .ok (.iload_n 3, 1) := by decide +kernel
theorem dX9_copy_31 : decode cX9_copy 31 = .ok (.iaload, 1) := by decide +kernel
theorem dX9_copy_32 : decode cX9_copy 32 = .ok (.ifCond .ge 6, 3) := by decide +kernel
theorem dX9_copy_35 : decode cX9_copy 35 = .ok (.ldc 174, 2) := by decide +kernel
theorem dX9_copy_37 : decode cX9_copy 37 = .ok (.ireturn, 1) := by decide +kernel
theorem dX9_copy_38 : decode cX9_copy 38 = .ok (.aload_n 0, 1) := by decide +kernel
theorem dX9_copy_39 : decode cX9_copy 39 = .ok (.getfield 48, 3) := by decide +kernel
theorem dX9_copy_42 : decode cX9_copy 42 = .ok (.iload_n 1, 1) := by decide +kernel
theorem dX9_copy_43 : decode cX9_copy 43 = .ok (.iaload, 1) := by decide +kernel
theorem dX9_copy_44 : decode cX9_copy 44 = .ok (.aload_n 0, 1) := by decide +kernel
theorem dX9_copy_45 : decode cX9_copy 45 = .ok (.getfield 48, 3) := by decide +kernel
theorem dX9_copy_48 : decode cX9_copy 48 = .ok (.iload_n 3, 1) := by decide +kernel
theorem dX9_copy_49 : decode cX9_copy 49 = .ok (.iaload, 1) := by decide +kernel
theorem dX9_copy_50 : decode cX9_copy 50 = .ok (.if_icmp .eq 6, 3) := by decide +kernel
theorem dX9_copy_53 : decode cX9_copy 53 = .ok (.ldc 121, 2) := by decide +kernel
theorem dX9_copy_55 : decode cX9_copy 55 = .ok (.ireturn, 1) := by decide +kernel
theorem dX9_copy_56 : decode cX9_copy 56 = .ok (.iload_n 2, 1) := by decide +kernel
theorem dX9_copy_57 : decode cX9_copy 57 = .ok (.ifCond .lt 40, 3) := by decide +kernel
theorem dX9_copy_60 : decode cX9_copy 60 = .ok (.iload 4, 2) := by decide +kernel
theorem dX9_copy_62 : decode cX9_copy 62 = .ok (.ifCond .lt 35, 3) := by decide +kernel
theorem dX9_copy_65 : decode cX9_copy 65 = .ok (.iload 5, 2) := by decide +kernel
theorem dX9_copy_67 : decode cX9_copy 67 = .ok (.ifCond .lt 30, 3) := by decide +kernel
theorem dX9_copy_70 : decode cX9_copy 70 = .ok (.iload_n 2, 1) := by decide +kernel
theorem dX9_copy_71 : decode cX9_copy 71 = .ok (.aload_n 0, 1) := by decide +kernel
theorem dX9_copy_72 : decode cX9_copy 72 = .ok (.getfield 51, 3) := by decide +kernel
theorem dX9_copy_75 : decode cX9_copy 75 = .ok (.iload_n 1, 1) := by decide +kernel
theorem dX9_copy_76 : decode cX9_copy 76 = .ok (.iaload, 1) := by decide +kernel
theorem dX9_copy_77 : decode cX9_copy 77 = .ok (.iload 5, 2) := by decide +kernel
theorem dX9_copy_79 : decode cX9_copy 79 = .ok (.isub, 1) := by decide +kernel
theorem dX9_copy_80 : decode cX9_copy 80 = .ok (.if_icmp .gt 17, 3) := by decide +kernel
theorem dX9_copy_83 : decode cX9_copy 83 = .ok (.iload 4, 2) := by decide +kernel
theorem dX9_copy_85 : decode cX9_copy 85 = .ok (.aload_n 0, 1) := by decide +kernel
theorem dX9_copy_86 : decode cX9_copy 86 = .ok (.getfield 51, 3) := by decide +kernel
theorem dX9_copy_89 : decode cX9_copy 89 = .ok (.iload_n 3, 1) := by decide +kernel
theorem dX9_copy_90 : decode cX9_copy 90 = .ok (.iaload, 1) := by decide +kernel
theorem dX9_copy_91 : decode cX9_copy 91 = .ok (.iload 5, 2) := by decide +kernel
theorem dX9_copy_93 : decode cX9_copy 93 = .ok (.isub, 1) := by decide +kernel
theorem dX9_copy_94 : decode cX9_copy 94 = .ok (.if_icmp .le 6, 3) := by decide +kernel
theorem dX9_copy_97 : decode cX9_copy 97 = .ok (.ldc 247, 2) := by decide +kernel
theorem dX9_copy_99 : decode cX9_copy 99 = .ok (.ireturn, 1) := by decide +kernel
theorem dX9_copy_100 : decode cX9_copy 100 = .ok (.iconst 0, 1) := by decide +kernel
theorem dX9_copy_101 : decode cX9_copy 101 = .ok (.istore 6, 2) := by decide +kernel
theorem dX9_copy_103 : decode cX9_copy 103 = .ok (.iload 6, 2) := by decide +kernel
theorem dX9_copy_105 : decode cX9_copy 105 = .ok (.iload 5, 2) := by decide +kernel
theorem dX9_copy_107 : decode cX9_copy 107 = .ok (.if_icmp .ge 30, 3) := by decide +kernel
theorem dX9_copy_110 : decode cX9_copy 110 = .ok (.aload_n 0, 1) := by decide +kernel
theorem dX9_copy_111 : decode cX9_copy 111 = .ok (.getfield 69, 3) := by decide +kernel
theorem dX9_copy_114 : decode cX9_copy 114 = .ok (.iload 6, 2) := by decide +kernel
theorem dX9_copy_116 : decode cX9_copy 116 = .ok (.aload_n 0, 1) := by decide +kernel
theorem dX9_copy_117 : decode cX9_copy 117 = .ok (.getfield 54, 3) := by decide +kernel
theorem dX9_copy_120 : decode cX9_copy 120 = .ok (.bipush 24, 2) := by decide +kernel
theorem dX9_copy_122 : decode cX9_copy 122 = .ok (.iload_n 1, 1) := by decide +kernel
theorem dX9_copy_123 : decode cX9_copy 123 = .ok (.imul, 1) := by decide +kernel
theorem dX9_copy_124 : decode cX9_copy 124 = .ok (.iload_n 2, 1) := by decide +kernel
theorem dX9_copy_125 : decode cX9_copy 125 = .ok (.iadd, 1) := by decide +kernel
theorem dX9_copy_126 : decode cX9_copy 126 = .ok (.iload 6, 2) := by decide +kernel
theorem dX9_copy_128 : decode cX9_copy 128 = .ok (.iadd, 1) := by decide +kernel
theorem dX9_copy_129 : decode cX9_copy 129 = .ok (.iaload, 1) := by decide +kernel
theorem dX9_copy_130 : decode cX9_copy 130 = .ok (.iastore, 1) := by decide +kernel
theorem dX9_copy_131 : decode cX9_copy 131 = .ok (.iinc 6 1, 3) := by decide +kernel
theorem dX9_copy_134 : decode cX9_copy 134 = .ok (.goto (-31), 3) := by decide +kernel
theorem dX9_copy_137 : decode cX9_copy 137 = .ok (.iconst 0, 1) := by decide +kernel
theorem dX9_copy_138 : decode cX9_copy 138 = .ok (.istore 6, 2) := by decide +kernel
theorem dX9_copy_140 : decode cX9_copy 140 = .ok (.iload 6, 2) := by decide +kernel
theorem dX9_copy_142 : decode cX9_copy 142 = .ok (.iload 5, 2) := by decide +kernel
theorem dX9_copy_144 : decode cX9_copy 144 = .ok (.if_icmp .ge 31, 3) := by decide +kernel
theorem dX9_copy_147 : decode cX9_copy 147 = .ok (.aload_n 0, 1) := by decide +kernel
theorem dX9_copy_148 : decode cX9_copy 148 = .ok (.getfield 54, 3) := by decide +kernel
theorem dX9_copy_151 : decode cX9_copy 151 = .ok (.bipush 24, 2) := by decide +kernel
theorem dX9_copy_153 : decode cX9_copy 153 = .ok (.iload_n 3, 1) := by decide +kernel
theorem dX9_copy_154 : decode cX9_copy 154 = .ok (.imul, 1) := by decide +kernel
theorem dX9_copy_155 : decode cX9_copy 155 = .ok (.iload 4, 2) := by decide +kernel
theorem dX9_copy_157 : decode cX9_copy 157 = .ok (.iadd, 1) := by decide +kernel
theorem dX9_copy_158 : decode cX9_copy 158 = .ok (.iload 6, 2) := by decide +kernel
theorem dX9_copy_160 : decode cX9_copy 160 = .ok (.iadd, 1) := by decide +kernel
theorem dX9_copy_161 : decode cX9_copy 161 = .ok (.aload_n 0, 1) := by decide +kernel
theorem dX9_copy_162 : decode cX9_copy 162 = .ok (.getfield 69, 3) := by decide +kernel
theorem dX9_copy_165 : decode cX9_copy 165 = .ok (.iload 6, 2) := by decide +kernel
theorem dX9_copy_167 : decode cX9_copy 167 = .ok (.iaload, 1) := by decide +kernel
theorem dX9_copy_168 : decode cX9_copy 168 = .ok (.iastore, 1) := by decide +kernel
theorem dX9_copy_169 : decode cX9_copy 169 = .ok (.iinc 6 1, 3) := by decide +kernel
theorem dX9_copy_172 : decode cX9_copy 172 = .ok (.goto (-32), 3) := by decide +kernel
theorem dX9_copy_175 : decode cX9_copy 175 = .ok (.iload 5, 2) := by decide +kernel
theorem dX9_copy_177 : decode cX9_copy 177 = .ok (.ireturn, 1) := by decide +kernel
theorem dX9_lay_0 : decode cX9_lay 0 = .ok (.iload_n 1, 1) := by decide +kernel
theorem dX9_lay_1 : decode cX9_lay 1 = .ok (.invokestatic 250, 3) := by decide +kernel
theorem dX9_lay_4 : decode cX9_lay 4 = .ok (.ifCond .eq 37, 3) := by decide +kernel
theorem dX9_lay_7 : decode cX9_lay 7 = .ok (.iload_n 2, 1) := by decide +kernel
theorem dX9_lay_8 : decode cX9_lay 8 = .ok (.iconst 0, 1) := by decide +kernel
theorem dX9_lay_9 : decode cX9_lay 9 = .ok (.iconst 3, 1) := by decide +kernel
theorem dX9_lay_10 : decode cX9_lay 10 = .ok (.invokestatic 75, 3) := by decide +kernel
theorem dX9_lay_13 : decode cX9_lay 13 = .ok (.ifCond .eq 28, 3) := by decide +kernel
theorem dX9_lay_16 : decode cX9_lay 16 = .ok (.iload_n 2, 1) := by decide +kernel
theorem dX9_lay_17 : decode cX9_lay 17 = .ok (.iconst 1, 1) := by decide +kernel
theorem dX9_lay_18 : decode cX9_lay 18 = .ok (.if_icmp .ne 11, 3) := by decide +kernel
theorem dX9_lay_21 : decode cX9_lay 21 = .ok (.aload_n 0, 1) := by decide +kernel
theorem dX9_lay_22 : decode cX9_lay 22 = .ok (.iload_n 3, 1) := by decide +kernel
theorem dX9_lay_23 : decode cX9_lay 23 = .ok (.invokevirtual 93, 3) := by decide +kernel
theorem dX9_lay_26 : decode cX9_lay 26 = .ok (.ifCond .eq 15, 3) := by decide +kernel
theorem dX9_lay_29 : decode cX9_lay 29 = .ok (.iload_n 2, 1) := by decide +kernel
theorem dX9_lay_30 : decode cX9_lay 30 = .ok (.iconst 2, 1) := by decide +kernel
theorem dX9_lay_31 : decode cX9_lay 31 = .ok (.if_icmp .ne 13, 3) := by decide +kernel
theorem dX9_lay_34 : decode cX9_lay 34 = .ok (.iload_n 3, 1) := by decide +kernel
theorem dX9_lay_35 : decode cX9_lay 35 = .ok (.invokestatic 171, 3) := by decide +kernel
theorem dX9_lay_38 : decode cX9_lay 38 = .ok (.ifCond .ne 6, 3) := by decide +kernel
theorem dX9_lay_41 : decode cX9_lay 41 = .ok (.ldc 83, 2) := by decide +kernel
theorem dX9_lay_43 : decode cX9_lay 43 = .ok (.ireturn, 1) := by decide +kernel
theorem dX9_lay_44 : decode cX9_lay 44 = .ok (.iload_n 2, 1) := by decide +kernel
theorem dX9_lay_45 : decode cX9_lay 45 = .ok (.iconst 2, 1) := by decide +kernel
theorem dX9_lay_46 : decode cX9_lay 46 = .ok (.if_icmp .ne 15, 3) := by decide +kernel
theorem dX9_lay_49 : decode cX9_lay 49 = .ok (.aload_n 0, 1) := by decide +kernel
theorem dX9_lay_50 : decode cX9_lay 50 = .ok (.getfield 48, 3) := by decide +kernel
theorem dX9_lay_53 : decode cX9_lay 53 = .ok (.iload_n 3, 1) := by decide +kernel
theorem dX9_lay_54 : decode cX9_lay 54 = .ok (.iaload, 1) := by decide +kernel
theorem dX9_lay_55 : decode cX9_lay 55 = .ok (.ifCond .ge 6, 3) := by decide +kernel
theorem dX9_lay_58 : decode cX9_lay 58 = .ok (.ldc 174, 2) := by decide +kernel
theorem dX9_lay_60 : decode cX9_lay 60 = .ok (.ireturn, 1) := by decide +kernel
theorem dX9_lay_61 : decode cX9_lay 61 = .ok (.aload_n 0, 1) := by decide +kernel
theorem dX9_lay_62 : decode cX9_lay 62 = .ok (.getfield 57, 3) := by decide +kernel
theorem dX9_lay_65 : decode cX9_lay 65 = .ok (.iload_n 1, 1) := by decide +kernel
theorem dX9_lay_66 : decode cX9_lay 66 = .ok (.iaload, 1) := by decide +kernel
theorem dX9_lay_67 : decode cX9_lay 67 = .ok (.istore 4, 2) := by decide +kernel
theorem dX9_lay_69 : decode cX9_lay 69 = .ok (.aload_n 0, 1) := by decide +kernel
theorem dX9_lay_70 : decode cX9_lay 70 = .ok (.getfield 57, 3) := by decide +kernel
theorem dX9_lay_73 : decode cX9_lay 73 = .ok (.iload_n 1, 1) := by decide +kernel
theorem dX9_lay_74 : decode cX9_lay 74 = .ok (.iload_n 2, 1) := by decide +kernel
theorem dX9_lay_75 : decode cX9_lay 75 = .ok (.iastore, 1) := by decide +kernel
theorem dX9_lay_76 : decode cX9_lay 76 = .ok (.aload_n 0, 1) := by decide +kernel
theorem dX9_lay_77 : decode cX9_lay 77 = .ok (.getfield 60, 3) := by decide +kernel
theorem dX9_lay_80 : decode cX9_lay 80 = .ok (.iload_n 1, 1) := by decide +kernel
theorem dX9_lay_81 : decode cX9_lay 81 = .ok (.iload_n 2, 1) := by decide +kernel
theorem dX9_lay_82 : decode cX9_lay 82 = .ok (.iconst 1, 1) := by decide +kernel
theorem dX9_lay_83 : decode cX9_lay 83 = .ok (.if_icmp .ne 12, 3) := by decide +kernel
theorem dX9_lay_86 : decode cX9_lay 86 = .ok (.aload_n 0, 1) := by decide +kernel
theorem dX9_lay_87 : decode cX9_lay 87 = .ok (.iload_n 3, 1) := by decide +kernel
theorem dX9_lay_88 : decode cX9_lay 88 = .ok (.iconst 0, 1) := by decide +kernel
theorem dX9_lay_89 : decode cX9_lay 89 = .ok (.invokevirtual 89, 3) := by decide +kernel
theorem dX9_lay_92 : decode cX9_lay 92 = .ok (.goto 18, 3) := by decide +kernel
theorem dX9_lay_95 : decode cX9_lay 95 = .ok (.iload_n 2, 1) := by decide +kernel
theorem dX9_lay_96 : decode cX9_lay 96 = .ok (.iconst 2, 1) := by decide +kernel
theorem dX9_lay_97 : decode cX9_lay 97 = .ok (.if_icmp .ne 12, 3) := by decide +kernel
theorem dX9_lay_100 : decode cX9_lay 100 = .ok (.aload_n 0, 1) := by decide +kernel
theorem dX9_lay_101 : decode cX9_lay 101 = .ok (.getfield 51, 3) := by decide +kernel
theorem dX9_lay_104 : decode cX9_lay 104 = .ok (.iload_n 3, 1) := by decide +kernel
theorem dX9_lay_105 : decode cX9_lay 105 = .ok (.iaload, 1) := by decide +kernel
theorem dX9_lay_106 : decode cX9_lay 106 = .ok (.goto 4, 3) := by decide +kernel
theorem dX9_lay_109 : decode cX9_lay 109 = .ok (.iload_n 3, 1) := by decide +kernel
theorem dX9_lay_110 : decode cX9_lay 110 = .ok (.iastore, 1) := by decide +kernel
theorem dX9_lay_111 : decode cX9_lay 111 = .ok (.aload_n 0, 1) := by decide +kernel
theorem dX9_lay_112 : decode cX9_lay 112 = .ok (.getfield 63, 3) := by decide +kernel
theorem dX9_lay_115 : decode cX9_lay 115 = .ok (.iload_n 1, 1) := by decide +kernel
theorem dX9_lay_116 : decode cX9_lay 116 = .ok (.iload_n 2, 1) := by decide +kernel
theorem dX9_lay_117 : decode cX9_lay 117 = .ok (.iconst 1, 1) := by decide +kernel
theorem dX9_lay_118 : decode cX9_lay 118 = .ok (.if_icmp .ne 11, 3) := by decide +kernel
theorem dX9_lay_121 : decode cX9_lay 121 = .ok (.aload_n 0, 1) := by decide +kernel
theorem dX9_lay_122 : decode cX9_lay 122 = .ok (.iload_n 3, 1) := by decide +kernel
theorem dX9_lay_123 : decode cX9_lay 123 = .ok (.invokevirtual 97, 3) := by decide +kernel
theorem dX9_lay_126 : decode cX9_lay 126 = .ok (.goto 4, 3) := by decide +kernel
theorem dX9_lay_129 : decode cX9_lay 129 = .ok (.iconst 0, 1) := by decide +kernel
theorem dX9_lay_130 : decode cX9_lay 130 = .ok (.iastore, 1) := by decide +kernel
theorem dX9_lay_131 : decode cX9_lay 131 = .ok (.iconst 0, 1) := by decide +kernel
theorem dX9_lay_132 : decode cX9_lay 132 = .ok (.istore 5, 2) := by decide +kernel
theorem dX9_lay_134 : decode cX9_lay 134 = .ok (.iload 5, 2) := by decide +kernel
theorem dX9_lay_136 : decode cX9_lay 136 = .ok (.bipush 24, 2) := by decide +kernel
theorem dX9_lay_138 : decode cX9_lay 138 = .ok (.if_icmp .ge 38, 3) := by decide +kernel
theorem dX9_lay_141 : decode cX9_lay 141 = .ok (.iload_n 2, 1) := by decide +kernel
theorem dX9_lay_142 : decode cX9_lay 142 = .ok (.iconst 2, 1) := by decide +kernel
theorem dX9_lay_143 : decode cX9_lay 143 = .ok (.if_icmp .ne 33, 3) := by decide +kernel
theorem dX9_lay_146 : decode cX9_lay 146 = .ok (.aload_n 0, 1) := by decide +kernel
theorem dX9_lay_147 : decode cX9_lay 147 = .ok (.getfield 66, 3) := by decide +kernel
theorem dX9_lay_150 : decode cX9_lay 150 = .ok (.bipush 24, 2) := by decide +kernel
theorem dX9_lay_152 : decode cX9_lay 152 = .ok (.iload_n 1, 1) := by decide +kernel
theorem dX9_lay_153 : decode cX9_lay 153 = .ok (.imul, 1) := by decide +kernel
theorem dX9_lay_154 : decode cX9_lay 154 = .ok (.iload 5, 2) := by decide +kernel
theorem dX9_lay_156 : decode cX9_lay 156 = .ok (.iadd, 1) := by decide +kernel
theorem dX9_lay_157 : decode cX9_lay 157 = .ok (.aload_n 0, 1) := by decide +kernel
theorem dX9_lay_158 : decode cX9_lay 158 = .ok (.getfield 54, 3) := by decide +kernel
theorem dX9_lay_161 : decode cX9_lay 161 = .ok (.bipush 24, 2) := by decide +kernel
theorem dX9_lay_163 : decode cX9_lay 163 = .ok (.iload_n 3, 1) := by decide +kernel
theorem dX9_lay_164 : decode cX9_lay 164 = .ok (.imul, 1) := by decide +kernel
theorem dX9_lay_165 : decode cX9_lay 165 = .ok (.iload 5, 2) := by decide +kernel
theorem dX9_lay_167 : decode cX9_lay 167 = .ok (.iadd, 1) := by decide +kernel
theorem dX9_lay_168 : decode cX9_lay 168 = .ok (.iaload, 1) := by decide +kernel
theorem dX9_lay_169 : decode cX9_lay 169 = .ok (.iastore, 1) := by decide +kernel
theorem dX9_lay_170 : decode cX9_lay 170 = .ok (.iinc 5 1, 3) := by decide +kernel
theorem dX9_lay_173 : decode cX9_lay 173 = .ok (.goto (-39), 3) := by decide +kernel
theorem dX9_lay_176 : decode cX9_lay 176 = .ok (.iload 4, 2) := by decide +kernel
theorem dX9_lay_178 : decode cX9_lay 178 = .ok (.ireturn, 1) := by decide +kernel
theorem dX9_ask_0 : decode cX9_ask 0 = .ok (.iload_n 1, 1) := by decide +kernel
theorem dX9_ask_1 : decode cX9_ask 1 = .ok (.invokestatic 250, 3) := by decide +kernel
theorem dX9_ask_4 : decode cX9_ask 4 = .ok (.ifCond .eq 12, 3) := by decide +kernel
theorem dX9_ask_7 : decode cX9_ask 7 = .ok (.iload_n 2, 1) := by decide +kernel
theorem dX9_ask_8 : decode cX9_ask 8 = .ok (.iconst 0, 1) := by decide +kernel
theorem dX9_ask_9 : decode cX9_ask 9 = .ok (.iconst 5, 1) := by decide +kernel
theorem dX9_ask_10 : decode cX9_ask 10 = .ok (.invokestatic 75, 3) := by decide +kernel
theorem dX9_ask_13 : decode cX9_ask 13 = .ok (.ifCond .ne 6, 3) := by decide +kernel
theorem dX9_ask_16 : decode cX9_ask 16 = .ok (.ldc 83, 2) := by decide +kernel
theorem dX9_ask_18 : decode cX9_ask 18 = .ok (.ireturn, 1) := by decide +kernel
theorem dX9_ask_19 : decode cX9_ask 19 = .ok (.aload_n 0, 1) := by decide +kernel
theorem dX9_ask_20 : decode cX9_ask 20 = .ok (.getfield 57, 3) := by decide +kernel
theorem dX9_ask_23 : decode cX9_ask 23 = .ok (.iload_n 1, 1) := by decide +kernel
theorem dX9_ask_24 : decode cX9_ask 24 = .ok (.iaload, 1) := by decide +kernel
theorem dX9_ask_25 : decode cX9_ask 25 = .ok (.ifCond .ne 6, 3) := by decide +kernel
theorem dX9_ask_28 : decode cX9_ask 28 = .ok (.ldc 174, 2) := by decide +kernel
theorem dX9_ask_30 : decode cX9_ask 30 = .ok (.ireturn, 1) := by decide +kernel
theorem dX9_ask_31 : decode cX9_ask 31 = .ok (.aload_n 0, 1) := by decide +kernel
theorem dX9_ask_32 : decode cX9_ask 32 = .ok (.getfield 57, 3) := by decide +kernel
theorem dX9_ask_35 : decode cX9_ask 35 = .ok (.iload_n 1, 1) := by decide +kernel
theorem dX9_ask_36 : decode cX9_ask 36 = .ok (.iaload, 1) := by decide +kernel
theorem dX9_ask_37 : decode cX9_ask 37 = .ok (.iconst 1, 1) := by decide +kernel
theorem dX9_ask_38 : decode cX9_ask 38 = .ok (.if_icmp .ne 25, 3) := by decide +kernel
theorem dX9_ask_41 : decode cX9_ask 41 = .ok (.aload_n 0, 1) := by decide +kernel
theorem dX9_ask_42 : decode cX9_ask 42 = .ok (.getfield 60, 3) := by decide +kernel
theorem dX9_ask_45 : decode cX9_ask 45 = .ok (.iload_n 1, 1) := by decide +kernel
theorem dX9_ask_46 : decode cX9_ask 46 = .ok (.iaload, 1) := by decide +kernel
theorem dX9_ask_47 : decode cX9_ask 47 = .ok (.iload_n 2, 1) := by decide +kernel
theorem dX9_ask_48 : decode cX9_ask 48 = .ok (.invokestatic 117, 3) := by decide +kernel
theorem dX9_ask_51 : decode cX9_ask 51 = .ok (.ifCond .eq 12, 3) := by decide +kernel
theorem dX9_ask_54 : decode cX9_ask 54 = .ok (.aload_n 0, 1) := by decide +kernel
theorem dX9_ask_55 : decode cX9_ask 55 = .ok (.getfield 63, 3) := by decide +kernel
theorem dX9_ask_58 : decode cX9_ask 58 = .ok (.iload_n 1, 1) := by decide +kernel
theorem dX9_ask_59 : decode cX9_ask 59 = .ok (.iaload, 1) := by decide +kernel
theorem dX9_ask_60 : decode cX9_ask 60 = .ok (.goto 5, 3) := by decide +kernel
theorem dX9_ask_63 : decode cX9_ask 63 = .ok (.ldc 121, 2) := by decide +kernel
theorem dX9_ask_65 : decode cX9_ask 65 = .ok (.ireturn, 1) := by decide +kernel
theorem dX9_item_0 : decode cX9_item 0 = .ok (.iload_n 1, 1) := by decide +kernel
theorem dX9_item_1 : decode cX9_item 1 = .ok (.invokestatic 250, 3) := by decide +kernel
theorem dX9_item_4 : decode cX9_item 4 = .ok (.ifCond .ne 6, 3) := by decide +kernel
theorem dX9_item_7 : decode cX9_item 7 = .ok (.ldc 83, 2) := by decide +kernel
theorem dX9_item_9 : decode cX9_item 9 = .ok (.ireturn, 1) := by decide +kernel
theorem dX9_item_10 : decode cX9_item 10 = .ok (.aload_n 0, 1) := by decide +kernel
theorem dX9_item_11 : decode cX9_item 11 = .ok (.getfield 57, 3) := by decide +kernel
theorem dX9_item_14 : decode cX9_item 14 = .ok (.iload_n 1, 1) := by decide +kernel
theorem dX9_item_15 : decode cX9_item 15 = .ok (.iaload, 1) := by decide +kernel
theorem dX9_item_16 : decode cX9_item 16 = .ok (.ifCond .ne 6, 3) := by decide +kernel
theorem dX9_item_19 : decode cX9_item 19 = .ok (.ldc 174, 2) := by decide +kernel
theorem dX9_item_21 : decode cX9_item 21 = .ok (.ireturn, 1) := by decide +kernel
theorem dX9_item_22 : decode cX9_item 22 = .ok (.aload_n 0, 1) := by decide +kernel
theorem dX9_item_23 : decode cX9_item 23 = .ok (.getfield 57, 3) := by decide +kernel
theorem dX9_item_26 : decode cX9_item 26 = .ok (.iload_n 1, 1) := by decide +kernel
theorem dX9_item_27 : decode cX9_item 27 = .ok (.iaload, 1) := by decide +kernel
theorem dX9_item_28 : decode cX9_item 28 = .ok (.iconst 2, 1) := by decide +kernel
theorem dX9_item_29 : decode cX9_item 29 = .ok (.if_icmp .eq 6, 3) := by decide +kernel
theorem dX9_item_32 : decode cX9_item 32 = .ok (.ldc 121, 2) := by decide +kernel
theorem dX9_item_34 : decode cX9_item 34 = .ok (.ireturn, 1) := by decide +kernel
theorem dX9_item_35 : decode cX9_item 35 = .ok (.iload_n 2, 1) := by decide +kernel
theorem dX9_item_36 : decode cX9_item 36 = .ok (.iconst 0, 1) := by decide +kernel
theorem dX9_item_37 : decode cX9_item 37 = .ok (.aload_n 0, 1) := by decide +kernel
theorem dX9_item_38 : decode cX9_item 38 = .ok (.getfield 60, 3) := by decide +kernel
theorem dX9_item_41 : decode cX9_item 41 = .ok (.iload_n 1, 1) := by decide +kernel
theorem dX9_item_42 : decode cX9_item 42 = .ok (.iaload, 1) := by decide +kernel
theorem dX9_item_43 : decode cX9_item 43 = .ok (.iconst 1, 1) := by decide +kernel
theorem dX9_item_44 : decode cX9_item 44 = .ok (.isub, 1) := by decide +kernel
theorem dX9_item_45 : decode cX9_item 45 = .ok (.invokestatic 75, 3) := by decide +kernel
theorem dX9_item_48 : decode cX9_item 48 = .ok (.ifCond .ne 6, 3) := by decide +kernel
theorem dX9_item_51 : decode cX9_item 51 = .ok (.ldc 247, 2) := by decide +kernel
theorem dX9_item_53 : decode cX9_item 53 = .ok (.ireturn, 1) := by decide +kernel
theorem dX9_item_54 : decode cX9_item 54 = .ok (.aload_n 0, 1) := by decide +kernel
theorem dX9_item_55 : decode cX9_item 55 = .ok (.getfield 66, 3) := by decide +kernel
theorem dX9_item_58 : decode cX9_item 58 = .ok (.bipush 24, 2) := by decide +kernel
theorem dX9_item_60 : decode cX9_item 60 = .ok (.iload_n 1, 1) := by decide +kernel
theorem dX9_item_61 : decode cX9_item 61 = .ok (.imul, 1) := by decide +kernel
theorem dX9_item_62 : decode cX9_item 62 = .ok (.iload_n 2, 1) := by decide +kernel
theorem dX9_item_63 : decode cX9_item 63 = .ok (.iadd, 1) := by decide +kernel
theorem dX9_item_64 : decode cX9_item 64 = .ok (.iaload, 1) := by decide +kernel
theorem dX9_item_65 : decode cX9_item 65 = .ok (.istore_n 3, 1) := by decide +kernel
theorem dX9_item_66 : decode cX9_item 66 = .ok (.iload_n 3, 1) := by decide +kernel
theorem dX9_item_67 : decode cX9_item 67 = .ok (.ldc 166, 2) := by decide +kernel
theorem dX9_item_69 : decode cX9_item 69 = .ok (.if_icmp .ne 8, 3) := by decide +kernel
theorem dX9_item_72 : decode cX9_item 72 = .ok (.ldc 121, 2) := by decide +kernel
theorem dX9_item_74 : decode cX9_item 74 = .ok (.goto 4, 3) := by decide +kernel
theorem dX9_item_77 : decode cX9_item 77 = .ok (.iload_n 3, 1) := by decide +kernel
theorem dX9_item_78 : decode cX9_item 78 = .ok (.ireturn, 1) := by decide +kernel
theorem dX9_rest_0 : decode cX9_rest 0 = .ok (.iload_n 1, 1) := by decide +kernel
theorem dX9_rest_1 : decode cX9_rest 1 = .ok (.invokestatic 250, 3) := by decide +kernel
theorem dX9_rest_4 : decode cX9_rest 4 = .ok (.ifCond .ne 6, 3) := by decide +kernel
theorem dX9_rest_7 : decode cX9_rest 7 = .ok (.ldc 83, 2) := by decide +kernel
theorem dX9_rest_9 : decode cX9_rest 9 = .ok (.ireturn, 1) := by decide +kernel
theorem dX9_rest_10 : decode cX9_rest 10 = .ok (.aload_n 0, 1) := by decide +kernel
theorem dX9_rest_11 : decode cX9_rest 11 = .ok (.getfield 57, 3) := by decide +kernel
theorem dX9_rest_14 : decode cX9_rest 14 = .ok (.iload_n 1, 1) := by decide +kernel
theorem dX9_rest_15 : decode cX9_rest 15 = .ok (.iaload, 1) := by decide +kernel
theorem dX9_rest_16 : decode cX9_rest 16 = .ok (.ifCond .ne 6, 3) := by decide +kernel
theorem dX9_rest_19 : decode cX9_rest 19 = .ok (.ldc 174, 2) := by decide +kernel
theorem dX9_rest_21 : decode cX9_rest 21 = .ok (.ireturn, 1) := by decide +kernel
theorem dX9_rest_22 : decode cX9_rest 22 = .ok (.aload_n 0, 1) := by decide +kernel
theorem dX9_rest_23 : decode cX9_rest 23 = .ok (.getfield 57, 3) := by decide +kernel
theorem dX9_rest_26 : decode cX9_rest 26 = .ok (.iload_n 1, 1) := by decide +kernel
theorem dX9_rest_27 : decode cX9_rest 27 = .ok (.iaload, 1) := by decide +kernel
theorem dX9_rest_28 : decode cX9_rest 28 = .ok (.iconst 3, 1) := by decide +kernel
theorem dX9_rest_29 : decode cX9_rest 29 = .ok (.if_icmp .eq 6, 3) := by decide +kernel
theorem dX9_rest_32 : decode cX9_rest 32 = .ok (.ldc 121, 2) := by decide +kernel
theorem dX9_rest_34 : decode cX9_rest 34 = .ok (.ireturn, 1) := by decide +kernel
theorem dX9_rest_35 : decode cX9_rest 35 = .ok (.iload_n 2, 1) := by decide +kernel
theorem dX9_rest_36 : decode cX9_rest 36 = .ok (.ifCond .ne 8, 3) := by decide +kernel
theorem dX9_rest_39 : decode cX9_rest 39 = .ok (.ldc 253, 2) := by decide +kernel
theorem dX9_rest_41 : decode cX9_rest 41 = .ok (.goto 20, 3) := by decide +kernel
theorem dX9_rest_44 : decode cX9_rest 44 = .ok (.iload_n 2, 1) := by decide +kernel
theorem dX9_rest_45 : decode cX9_rest 45 = .ok (.iconst (-1), 1) := by decide +kernel
theorem dX9_rest_46 : decode cX9_rest 46 = .ok (.if_icmp .ne 7, 3) := by decide +kernel
theorem dX9_rest_49 : decode cX9_rest 49 = .ok (.iconst 0, 1) := by decide +kernel
theorem dX9_rest_50 : decode cX9_rest 50 = .ok (.goto 11, 3) := by decide +kernel
theorem dX9_rest_53 : decode cX9_rest 53 = .ok (.aload_n 0, 1) := by decide +kernel
theorem dX9_rest_54 : decode cX9_rest 54 = .ok (.getfield 60, 3) := by decide +kernel
theorem dX9_rest_57 : decode cX9_rest 57 = .ok (.iload_n 1, 1) := by decide +kernel
theorem dX9_rest_58 : decode cX9_rest 58 = .ok (.iaload, 1) := by decide +kernel
theorem dX9_rest_59 : decode cX9_rest 59 = .ok (.iload_n 2, 1) := by decide +kernel
theorem dX9_rest_60 : decode cX9_rest 60 = .ok (.irem, 1) := by decide +kernel
theorem dX9_rest_61 : decode cX9_rest 61 = .ok (.ireturn, 1) := by decide +kernel
theorem dX9_tell_0 : decode cX9_tell 0 = .ok (.aload_n 0, 1) := by decide +kernel
theorem dX9_tell_1 : decode cX9_tell 1 = .ok (.getfield 254, 3) := by decide +kernel
theorem dX9_tell_4 : decode cX9_tell 4 = .ok (.bipush 60, 2) := by decide +kernel
theorem dX9_tell_6 : decode cX9_tell 6 = .ok (.if_icmp .ne 6, 3) := by decide +kernel
theorem dX9_tell_9 : decode cX9_tell 9 = .ok (.ldc 84, 2) := by decide +kernel
theorem dX9_tell_11 : decode cX9_tell 11 = .ok (.ireturn, 1) := by decide +kernel
theorem dX9_tell_12 : decode cX9_tell 12 = .ok (.aload_n 0, 1) := by decide +kernel
theorem dX9_tell_13 : decode cX9_tell 13 = .ok (.getfield 72, 3) := by decide +kernel
theorem dX9_tell_16 : decode cX9_tell 16 = .ok (.aload_n 0, 1) := by decide +kernel
theorem dX9_tell_17 : decode cX9_tell 17 = .ok (.getfield 254, 3) := by decide +kernel
theorem dX9_tell_20 : decode cX9_tell 20 = .ok (.iload_n 1, 1) := by decide +kernel
theorem dX9_tell_21 : decode cX9_tell 21 = .ok (.iastore, 1) := by decide +kernel
theorem dX9_tell_22 : decode cX9_tell 22 = .ok (.aload_n 0, 1) := by decide +kernel
theorem dX9_tell_23 : decode cX9_tell 23 = .ok (.dup, 1) := by decide +kernel
theorem dX9_tell_24 : decode cX9_tell 24 = .ok (.getfield 254, 3) := by decide +kernel
theorem dX9_tell_27 : decode cX9_tell 27 = .ok (.iconst 1, 1) := by decide +kernel
theorem dX9_tell_28 : decode cX9_tell 28 = .ok (.iadd, 1) := by decide +kernel
theorem dX9_tell_29 : decode cX9_tell 29 = .ok (.putfield 254, 3) := by decide +kernel
theorem dX9_tell_32 : decode cX9_tell 32 = .ok (.aload_n 0, 1) := by decide +kernel
theorem dX9_tell_33 : decode cX9_tell 33 = .ok (.getfield 254, 3) := by decide +kernel
theorem dX9_tell_36 : decode cX9_tell 36 = .ok (.ireturn, 1) := by decide +kernel
theorem dX9_check_0 : decode cX9_check 0 = .ok (.aload_n 0, 1) := by decide +kernel
theorem dX9_check_1 : decode cX9_check 1 = .ok (.getfield 254, 3) := by decide +kernel
theorem dX9_check_4 : decode cX9_check 4 = .ok (.istore_n 2, 1) := by decide +kernel
theorem dX9_check_5 : decode cX9_check 5 = .ok (.aload_n 0, 1) := by decide +kernel
theorem dX9_check_6 : decode cX9_check 6 = .ok (.iconst 0, 1) := by decide +kernel
theorem dX9_check_7 : decode cX9_check 7 = .ok (.putfield 254, 3) := by decide +kernel
theorem dX9_check_10 : decode cX9_check 10 = .ok (.iload_n 1, 1) := by decide +kernel
theorem dX9_check_11 : decode cX9_check 11 = .ok (.iconst 1, 1) := by decide +kernel
theorem dX9_check_12 : decode cX9_check 12 = .ok (.bipush 30, 2) := by decide +kernel
theorem dX9_check_14 : decode cX9_check 14 = .ok (.invokestatic 75, 3) := by decide +kernel
theorem dX9_check_17 : decode cX9_check 17 = .ok (.ifCond .ne 6, 3) := by decide +kernel
theorem dX9_check_20 : decode cX9_check 20 = .ok (.ldc 83, 2) := by decide +kernel
theorem dX9_check_22 : decode cX9_check 22 = .ok (.ireturn, 1) := by decide +kernel
theorem dX9_check_23 : decode cX9_check 23 = .ok (.aload_n 0, 1) := by decide +kernel
theorem dX9_check_24 : decode cX9_check 24 = .ok (.getfield 257, 3) := by decide +kernel
theorem dX9_check_27 : decode cX9_check 27 = .ok (.ifCond .ne 6, 3) := by decide +kernel
theorem dX9_check_30 : decode cX9_check 30 = .ok (.ldc 253, 2) := by decide +kernel
theorem dX9_check_32 : decode cX9_check 32 = .ok (.ireturn, 1) := by decide +kernel
theorem dX9_check_33 : decode cX9_check 33 = .ok (.aload_n 0, 1) := by decide +kernel
theorem dX9_check_34 : decode cX9_check 34 = .ok (.getfield 9, 3) := by decide +kernel
theorem dX9_check_37 : decode cX9_check 37 = .ok (.aload_n 0, 1) := by decide +kernel
theorem dX9_check_38 : decode cX9_check 38 = .ok (.getfield 16, 3) := by decide +kernel
theorem dX9_check_41 : decode cX9_check 41 = .ok (.invokestatic 261, 3) := by decide +kernel
theorem dX9_check_44 : decode cX9_check 44 = .ok (.aload_n 0, 1) := by decide +kernel
theorem dX9_check_45 : decode cX9_check 45 = .ok (.getfield 13, 3) := by decide +kernel
theorem dX9_check_48 : decode cX9_check 48 = .ok (.aload_n 0, 1) := by decide +kernel
theorem dX9_check_49 : decode cX9_check 49 = .ok (.getfield 9, 3) := by decide +kernel
theorem dX9_check_52 : decode cX9_check 52 = .ok (.invokestatic 261, 3) := by decide +kernel
theorem dX9_check_55 : decode cX9_check 55 = .ok (.iconst 2, 1) := by decide +kernel
theorem dX9_check_56 : decode cX9_check 56 = .ok (.sipush 9999, 3) := by decide +kernel
theorem dX9_check_59 : decode cX9_check 59 = .ok (.aload_n 0, 1) := by decide +kernel
theorem dX9_check_60 : decode cX9_check 60 = .ok (.getfield 9, 3) := by decide +kernel
theorem dX9_check_63 : decode cX9_check 63 = .ok (.iconst 2, 1) := by decide +kernel
theorem dX9_check_64 : decode cX9_check 64 = .ok (.iaload, 1) := by decide +kernel
theorem dX9_check_65 : decode cX9_check 65 = .ok (.isub, 1) := by decide +kernel
theorem dX9_check_66 : decode cX9_check 66 = .ok (.iconst 0, 1) := by decide +kernel
theorem dX9_check_67 : decode cX9_check 67 = .ok (.iload_n 1, 1) := by decide +kernel
theorem dX9_check_68 : decode cX9_check 68 = .ok (.invokestatic 110, 3) := by decide +kernel
theorem dX9_check_71 : decode cX9_check 71 = .ok (.imul, 1) := by decide +kernel
theorem dX9_check_72 : decode cX9_check 72 = .ok (.istore_n 3, 1) := by decide +kernel
theorem dX9_check_73 : decode cX9_check 73 = .ok (.iconst 0, 1) := by decide +kernel
theorem dX9_check_74 : decode cX9_check 74 = .ok (.istore 4, 2) := by decide +kernel
theorem dX9_check_76 : decode cX9_check 76 = .ok (.iconst 0, 1) := by decide +kernel
theorem dX9_check_77 : decode cX9_check 77 = .ok (.istore 5, 2) := by decide +kernel
theorem dX9_check_79 : decode cX9_check 79 = .ok (.iconst 2, 1) := by decide +kernel
theorem dX9_check_80 : decode cX9_check 80 = .ok (.iload 5, 2) := by decide +kernel
theorem dX9_check_82 : decode cX9_check 82 = .ok (.imul, 1) := by decide +kernel
theorem dX9_check_83 : decode cX9_check 83 = .ok (.iload_n 3, 1) := by decide +kernel
theorem dX9_check_84 : decode cX9_check 84 = .ok (.if_icmp .ge 95, 3) := by decide +kernel
theorem dX9_check_87 : decode cX9_check 87 = .ok (.iload 4, 2) := by decide +kernel
theorem dX9_check_89 : decode cX9_check 89 = .ok (.iconst 2, 1) := by decide +kernel
theorem dX9_check_90 : decode cX9_check 90 = .ok (.iload 5, 2) := by decide +kernel
theorem dX9_check_92 : decode cX9_check 92 = .ok (.imul, 1) := by decide +kernel
theorem dX9_check_93 : decode cX9_check 93 = .ok (.if_icmp .ne 86, 3) := by decide +kernel
theorem dX9_check_96 : decode cX9_check 96 = .ok (.aload_n 0, 1) := by decide +kernel
theorem dX9_check_97 : decode cX9_check 97 = .ok (.invokevirtual 137, 3) := by decide +kernel
theorem dX9_check_100 : decode cX9_check 100 = .ok (.iload 4, 2) := by decide +kernel
theorem dX9_check_102 : decode cX9_check 102 = .ok (.iload 4, 2) := by decide +kernel
theorem dX9_check_104 : decode cX9_check 104 = .ok (.iload_n 2, 1) := by decide +kernel
theorem dX9_check_105 : decode cX9_check 105 = .ok (.if_icmp .ge 22, 3) := by decide +kernel
theorem dX9_check_108 : decode cX9_check 108 = .ok (.aload_n 0, 1) := by decide +kernel
theorem dX9_check_109 : decode cX9_check 109 = .ok (.getfield 72, 3) := by decide +kernel
theorem dX9_check_112 : decode cX9_check 112 = .ok (.iload 4, 2) := by decide +kernel
theorem dX9_check_114 : decode cX9_check 114 = .ok (.iaload, 1) := by decide +kernel
theorem dX9_check_115 : decode cX9_check 115 = .ok (.aload_n 0, 1) := by decide +kernel
theorem dX9_check_116 : decode cX9_check 116 = .ok (.iconst 3, 1) := by decide +kernel
theorem dX9_check_117 : decode cX9_check 117 = .ok (.invokevirtual 140, 3) := by decide +kernel
theorem dX9_check_120 : decode cX9_check 120 = .ok (.if_icmp .ne 7, 3) := by decide +kernel
theorem dX9_check_123 : decode cX9_check 123 = .ok (.iconst 1, 1) := by decide +kernel
theorem dX9_check_124 : decode cX9_check 124 = .ok (.goto 4, 3) := by decide +kernel
theorem dX9_check_127 : decode cX9_check 127 = .ok (.iconst 0, 1) := by decide +kernel
theorem dX9_check_128 : decode cX9_check 128 = .ok (.iadd, 1) := by decide +kernel
theorem dX9_check_129 : decode cX9_check 129 = .ok (.istore 4, 2) := by decide +kernel
theorem dX9_check_131 : decode cX9_check 131 = .ok (.iload 4, 2) := by decide +kernel
theorem dX9_check_133 : decode cX9_check 133 = .ok (.iload 4, 2) := by decide +kernel
theorem dX9_check_135 : decode cX9_check 135 = .ok (.iconst 2, 1) := by decide +kernel
theorem dX9_check_136 : decode cX9_check 136 = .ok (.iload 5, 2) := by decide +kernel
theorem dX9_check_138 : decode cX9_check 138 = .ok (.imul, 1) := by decide +kernel
theorem dX9_check_139 : decode cX9_check 139 = .ok (.iconst 1, 1) := by decide +kernel
theorem dX9_check_140 : decode cX9_check 140 = .ok (.iadd, 1) := by decide +kernel
theorem dX9_check_141 : decode cX9_check 141 = .ok (.if_icmp .ne 28, 3) := by decide +kernel
theorem dX9_check_144 : decode cX9_check 144 = .ok (.iload 4, 2) := by decide +kernel
theorem dX9_check_146 : decode cX9_check 146 = .ok (.iload_n 2, 1) := by decide +kernel
theorem dX9_check_147 : decode cX9_check 147 = .ok (.if_icmp .ge 22, 3) := by decide +kernel
theorem dX9_check_150 : decode cX9_check 150 = .ok (.aload_n 0, 1) := by decide +kernel
theorem dX9_check_151 : decode cX9_check 151 = .ok (.getfield 72, 3) := by decide +kernel
theorem dX9_check_154 : decode cX9_check 154 = .ok (.iload 4, 2) := by decide +kernel
theorem dX9_check_156 : decode cX9_check 156 = .ok (.iaload, 1) := by decide +kernel
theorem dX9_check_157 : decode cX9_check 157 = .ok (.aload_n 0, 1) := by decide +kernel
theorem dX9_check_158 : decode cX9_check 158 = .ok (.iconst 4, 1) := by decide +kernel
theorem dX9_check_159 : decode cX9_check 159 = .ok (.invokevirtual 140, 3) := by decide +kernel
theorem dX9_check_162 : decode cX9_check 162 = .ok (.if_icmp .ne 7, 3) := by decide +kernel
theorem dX9_check_165 : decode cX9_check 165 = .ok (.iconst 1, 1) := by decide +kernel
theorem dX9_check_166 : decode cX9_check 166 = .ok (.goto 4, 3) := by decide +kernel
theorem dX9_check_169 : decode cX9_check 169 = .ok (.iconst 0, 1) := by decide +kernel
theorem dX9_check_170 : decode cX9_check 170 = .ok (.iadd, 1) := by decide +kernel
theorem dX9_check_171 : decode cX9_check 171 = .ok (.istore 4, 2) := by decide +kernel
theorem dX9_check_173 : decode cX9_check 173 = .ok (.iinc 5 1, 3) := by decide +kernel
theorem dX9_check_176 : decode cX9_check 176 = .ok (.goto (-97), 3) := by decide +kernel
theorem dX9_check_179 : decode cX9_check 179 = .ok (.aload_n 0, 1) := by decide +kernel
theorem dX9_check_180 : decode cX9_check 180 = .ok (.getfield 16, 3) := by decide +kernel
theorem dX9_check_183 : decode cX9_check 183 = .ok (.aload_n 0, 1) := by decide +kernel
theorem dX9_check_184 : decode cX9_check 184 = .ok (.getfield 9, 3) := by decide +kernel
theorem dX9_check_187 : decode cX9_check 187 = .ok (.invokestatic 261, 3) := by decide +kernel
theorem dX9_check_190 : decode cX9_check 190 = .ok (.iload 4, 2) := by decide +kernel
theorem dX9_check_192 : decode cX9_check 192 = .ok (.iload_n 2, 1) := by decide +kernel
theorem dX9_check_193 : decode cX9_check 193 = .ok (.if_icmp .ne 13, 3) := by decide +kernel
theorem dX9_check_196 : decode cX9_check 196 = .ok (.iload 4, 2) := by decide +kernel
theorem dX9_check_198 : decode cX9_check 198 = .ok (.iload_n 3, 1) := by decide +kernel
theorem dX9_check_199 : decode cX9_check 199 = .ok (.if_icmp .ne 7, 3) := by decide +kernel
theorem dX9_check_202 : decode cX9_check 202 = .ok (.iconst 0, 1) := by decide +kernel
theorem dX9_check_203 : decode cX9_check 203 = .ok (.goto 7, 3) := by decide +kernel
theorem dX9_check_206 : decode cX9_check 206 = .ok (.iconst 1, 1) := by decide +kernel
theorem dX9_check_207 : decode cX9_check 207 = .ok (.iload 4, 2) := by decide +kernel
theorem dX9_check_209 : decode cX9_check 209 = .ok (.iadd, 1) := by decide +kernel
theorem dX9_check_210 : decode cX9_check 210 = .ok (.ireturn, 1) := by decide +kernel
theorem dX9_keep_0 : decode cX9_keep 0 = .ok (.aload_n 0, 1) := by decide +kernel
theorem dX9_keep_1 : decode cX9_keep 1 = .ok (.getfield 9, 3) := by decide +kernel
theorem dX9_keep_4 : decode cX9_keep 4 = .ok (.aload_n 0, 1) := by decide +kernel
theorem dX9_keep_5 : decode cX9_keep 5 = .ok (.getfield 13, 3) := by decide +kernel
theorem dX9_keep_8 : decode cX9_keep 8 = .ok (.invokestatic 261, 3) := by decide +kernel
theorem dX9_keep_11 : decode cX9_keep 11 = .ok (.aload_n 0, 1) := by decide +kernel
theorem dX9_keep_12 : decode cX9_keep 12 = .ok (.iconst 1, 1) := by decide +kernel
theorem dX9_keep_13 : decode cX9_keep 13 = .ok (.putfield 257, 3) := by decide +kernel
theorem dX9_keep_16 : decode cX9_keep 16 = .ok (.aload_n 0, 1) := by decide +kernel
theorem dX9_keep_17 : decode cX9_keep 17 = .ok (.getfield 9, 3) := by decide +kernel
theorem dX9_keep_20 : decode cX9_keep 20 = .ok (.iconst 1, 1) := by decide +kernel
theorem dX9_keep_21 : decode cX9_keep 21 = .ok (.iaload, 1) := by decide +kernel
theorem dX9_keep_22 : decode cX9_keep 22 = .ok (.ireturn, 1) := by decide +kernel
theorem dX9_back_0 : decode cX9_back 0 = .ok (.aload_n 0, 1) := by decide +kernel
theorem dX9_back_1 : decode cX9_back 1 = .ok (.getfield 257, 3) := by decide +kernel
theorem dX9_back_4 : decode cX9_back 4 = .ok (.ifCond .ne 6, 3) := by decide +kernel
theorem dX9_back_7 : decode cX9_back 7 = .ok (.ldc 253, 2) := by decide +kernel
theorem dX9_back_9 : decode cX9_back 9 = .ok (.ireturn, 1) := by decide +kernel
theorem dX9_back_10 : decode cX9_back 10 = .ok (.aload_n 0, 1) := by decide +kernel
theorem dX9_back_11 : decode cX9_back 11 = .ok (.getfield 13, 3) := by decide +kernel
theorem dX9_back_14 : decode cX9_back 14 = .ok (.aload_n 0, 1) := by decide +kernel
theorem dX9_back_15 : decode cX9_back 15 = .ok (.getfield 9, 3) := by decide +kernel
theorem dX9_back_18 : decode cX9_back 18 = .ok (.invokestatic 261, 3) := by decide +kernel
theorem dX9_back_21 : decode cX9_back 21 = .ok (.aload_n 0, 1) := by decide +kernel
theorem dX9_back_22 : decode cX9_back 22 = .ok (.getfield 9, 3) := by decide +kernel
theorem dX9_back_25 : decode cX9_back 25 = .ok (.iconst 1, 1) := by decide +kernel
theorem dX9_back_26 : decode cX9_back 26 = .ok (.iaload, 1) := by decide +kernel
theorem dX9_back_27 : decode cX9_back 27 = .ok (.ireturn, 1) := by decide +kernel
theorem dX9_count_0 : decode cX9_count 0 = .ok (.iload_n 1, 1) := by decide +kernel
theorem dX9_count_1 : decode cX9_count 1 = .ok (.tableswitch 99 0 8 #[51, 58, 65, 65, 65, 74, 82, 87, 92], 51) := by decide +kernel
theorem dX9_count_52 : decode cX9_count 52 = .ok (.aload_n 0, 1) := by decide +kernel
theorem dX9_count_53 : decode cX9_count 53 = .ok (.getfield 9, 3) := by decide +kernel
theorem dX9_count_56 : decode cX9_count 56 = .ok (.iconst 1, 1) := by decide +kernel
theorem dX9_count_57 : decode cX9_count 57 = .ok (.iaload, 1) := by decide +kernel
theorem dX9_count_58 : decode cX9_count 58 = .ok (.ireturn, 1) := by decide +kernel
theorem dX9_count_59 : decode cX9_count 59 = .ok (.aload_n 0, 1) := by decide +kernel
theorem dX9_count_60 : decode cX9_count 60 = .ok (.getfield 9, 3) := by decide +kernel
theorem dX9_count_63 : decode cX9_count 63 = .ok (.iconst 2, 1) := by decide +kernel
theorem dX9_count_64 : decode cX9_count 64 = .ok (.iaload, 1) := by decide +kernel
theorem dX9_count_65 : decode cX9_count 65 = .ok (.ireturn, 1) := by decide +kernel
theorem dX9_count_66 : decode cX9_count 66 = .ok (.aload_n 0, 1) := by decide +kernel
theorem dX9_count_67 : decode cX9_count 67 = .ok (.getfield 9, 3) := by decide +kernel
theorem dX9_count_70 : decode cX9_count 70 = .ok (.iconst 1, 1) := by decide +kernel
theorem dX9_count_71 : decode cX9_count 71 = .ok (.iload_n 1, 1) := by decide +kernel
theorem dX9_count_72 : decode cX9_count 72 = .ok (.iadd, 1) := by decide +kernel
theorem dX9_count_73 : decode cX9_count 73 = .ok (.iaload, 1) := by decide +kernel
theorem dX9_count_74 : decode cX9_count 74 = .ok (.ireturn, 1) := by decide +kernel
theorem dX9_count_75 : decode cX9_count 75 = .ok (.aload_n 0, 1) := by decide +kernel
theorem dX9_count_76 : decode cX9_count 76 = .ok (.getfield 9, 3) := by decide +kernel
theorem dX9_count_79 : decode cX9_count 79 = .ok (.bipush 7, 2) := by decide +kernel
theorem dX9_count_81 : decode cX9_count 81 = .ok (.iaload, 1) := by decide +kernel
theorem dX9_count_82 : decode cX9_count 82 = .ok (.ireturn, 1) := by decide +kernel
theorem dX9_count_83 : decode cX9_count 83 = .ok (.aload_n 0, 1) := by decide +kernel
theorem dX9_count_84 : decode cX9_count 84 = .ok (.getfield 254, 3) := by decide +kernel
theorem dX9_count_87 : decode cX9_count 87 = .ok (.ireturn, 1) := by decide +kernel
theorem dX9_count_88 : decode cX9_count 88 = .ok (.aload_n 0, 1) := by decide +kernel
theorem dX9_count_89 : decode cX9_count 89 = .ok (.getfield 179, 3) := by decide +kernel
theorem dX9_count_92 : decode cX9_count 92 = .ok (.ireturn, 1) := by decide +kernel
theorem dX9_count_93 : decode cX9_count 93 = .ok (.aload_n 0, 1) := by decide +kernel
theorem dX9_count_94 : decode cX9_count 94 = .ok (.getfield 9, 3) := by decide +kernel
theorem dX9_count_97 : decode cX9_count 97 = .ok (.iconst 0, 1) := by decide +kernel
theorem dX9_count_98 : decode cX9_count 98 = .ok (.iaload, 1) := by decide +kernel
theorem dX9_count_99 : decode cX9_count 99 = .ok (.ireturn, 1) := by decide +kernel
theorem dX9_count_100 : decode cX9_count 100 = .ok (.ldc 83, 2) := by decide +kernel
theorem dX9_count_102 : decode cX9_count 102 = .ok (.ireturn, 1) := by decide +kernel
theorem dL_law_0 : decode cL_law 0 = .ok (.new 7, 3) := by decide +kernel
theorem dL_law_3 : decode cL_law 3 = .ok (.dup, 1) := by decide +kernel
theorem dL_law_4 : decode cL_law 4 = .ok (.invokespecial 9, 3) := by decide +kernel
theorem dL_law_7 : decode cL_law 7 = .ok (.astore_n 1, 1) := by decide +kernel
theorem dL_law_8 : decode cL_law 8 = .ok (.new 10, 3) := by decide +kernel
theorem dL_law_11 : decode cL_law 11 = .ok (.dup, 1) := by decide +kernel
theorem dL_law_12 : decode cL_law 12 = .ok (.invokespecial 12, 3) := by decide +kernel
theorem dL_law_15 : decode cL_law 15 = .ok (.astore_n 2, 1) := by decide +kernel
theorem dL_law_16 : decode cL_law 16 = .ok (.iconst 0, 1) := by decide +kernel
theorem dL_law_17 : decode cL_law 17 = .ok (.istore_n 3, 1) := by decide +kernel
theorem dL_law_18 : decode cL_law 18 = .ok (.iload_n 3, 1) := by decide +kernel
theorem dL_law_19 : decode cL_law 19 = .ok (.aload_n 0, 1) := by decide +kernel
theorem dL_law_20 : decode cL_law 20 = .ok (.arraylength, 1) := by decide +kernel
theorem dL_law_21 : decode cL_law 21 = .ok (.bipush 6, 2) := by decide +kernel
theorem dL_law_23 : decode cL_law 23 = .ok (.isub, 1) := by decide +kernel
theorem dL_law_24 : decode cL_law 24 = .ok (.if_icmp .gt 1450, 3) := by decide +kernel
theorem dL_law_27 : decode cL_law 27 = .ok (.aload_n 0, 1) := by decide +kernel
theorem dL_law_28 : decode cL_law 28 = .ok (.iload_n 3, 1) := by decide +kernel
theorem dL_law_29 : decode cL_law 29 = .ok (.iaload, 1) := by decide +kernel
theorem dL_law_30 : decode cL_law 30 = .ok (.bipush 63, 2) := by decide +kernel
theorem dL_law_32 : decode cL_law 32 = .ok (.iand, 1) := by decide +kernel
theorem dL_law_33 : decode cL_law 33 = .ok (.tableswitch 1435 0 39 #[175, 218, 251, 304, 337, 370, 413, 446, 479, 502, 525, 548, 571, 604, 647, 680, 723, 756, 789, 832, 845, 868, 911, 934, 947, 980, 1003, 1046, 1089, 1112, 1135, 1198, 1241, 1274, 1307, 1340, 1363, 1386, 1399, 1412], 175) := by decide +kernel
theorem dL_law_208 : decode cL_law 208 = .ok (.aload_n 1, 1) := by decide +kernel
theorem dL_law_209 : decode cL_law 209 = .ok (.aload_n 0, 1) := by decide +kernel
theorem dL_law_210 : decode cL_law 210 = .ok (.iload_n 3, 1) := by decide +kernel
theorem dL_law_211 : decode cL_law 211 = .ok (.iconst 1, 1) := by decide +kernel
theorem dL_law_212 : decode cL_law 212 = .ok (.iadd, 1) := by decide +kernel
theorem dL_law_213 : decode cL_law 213 = .ok (.iaload, 1) := by decide +kernel
theorem dL_law_214 : decode cL_law 214 = .ok (.aload_n 0, 1) := by decide +kernel
theorem dL_law_215 : decode cL_law 215 = .ok (.iload_n 3, 1) := by decide +kernel
theorem dL_law_216 : decode cL_law 216 = .ok (.iconst 2, 1) := by decide +kernel
theorem dL_law_217 : decode cL_law 217 = .ok (.iadd, 1) := by decide +kernel
theorem dL_law_218 : decode cL_law 218 = .ok (.iaload, 1) := by decide +kernel
theorem dL_law_219 : decode cL_law 219 = .ok (.aload_n 0, 1) := by decide +kernel
theorem dL_law_220 : decode cL_law 220 = .ok (.iload_n 3, 1) := by decide +kernel
theorem dL_law_221 : decode cL_law 221 = .ok (.iconst 3, 1) := by decide +kernel
theorem dL_law_222 : decode cL_law 222 = .ok (.iadd, 1) := by decide +kernel
theorem dL_law_223 : decode cL_law 223 = .ok (.iaload, 1) := by decide +kernel
theorem dL_law_224 : decode cL_law 224 = .ok (.invokevirtual 13, 3) := by decide +kernel
theorem dL_law_227 : decode cL_law 227 = .ok (.aload_n 2, 1) := by decide +kernel
theorem dL_law_228 : decode cL_law 228 = .ok (.aload_n 0, 1) := by decide +kernel
theorem dL_law_229 : decode cL_law 229 = .ok (.iload_n 3, 1) := by decide +kernel
theorem dL_law_230 : decode cL_law 230 = .ok (.iconst 1, 1) := by decide +kernel
theorem dL_law_231 : decode cL_law 231 = .ok (.iadd, 1) := by decide +kernel
theorem dL_law_232 : decode cL_law 232 = .ok (.iaload, 1) := by decide +kernel
theorem dL_law_233 : decode cL_law 233 = .ok (.aload_n 0, 1) := by decide +kernel
theorem dL_law_234 : decode cL_law 234 = .ok (.iload_n 3, 1) := by decide +kernel
theorem dL_law_235 : decode cL_law 235 = .ok (.iconst 2, 1) := by decide +kernel
theorem dL_law_236 : decode cL_law 236 = .ok (.iadd, 1) := by decide +kernel
theorem dL_law_237 : decode cL_law 237 = .ok (.iaload, 1) := by decide +kernel
theorem dL_law_238 : decode cL_law 238 = .ok (.aload_n 0, 1) := by decide +kernel
theorem dL_law_239 : decode cL_law 239 = .ok (.iload_n 3, 1) := by decide +kernel
theorem dL_law_240 : decode cL_law 240 = .ok (.iconst 3, 1) := by decide +kernel
theorem dL_law_241 : decode cL_law 241 = .ok (.iadd, 1) := by decide +kernel
theorem dL_law_242 : decode cL_law 242 = .ok (.iaload, 1) := by decide +kernel
theorem dL_law_243 : decode cL_law 243 = .ok (.invokevirtual 17, 3) := by decide +kernel
theorem dL_law_246 : decode cL_law 246 = .ok (.if_icmp .eq 1222, 3) := by decide +kernel
theorem dL_law_249 : decode cL_law 249 = .ok (.iconst 0, 1) := by decide +kernel
theorem dL_law_250 : decode cL_law 250 = .ok (.ireturn, 1) := by decide +kernel
theorem dL_law_251 : decode cL_law 251 = .ok (.aload_n 1, 1) := by decide +kernel
theorem dL_law_252 : decode cL_law 252 = .ok (.aload_n 0, 1) := by decide +kernel
theorem dL_law_253 : decode cL_law 253 = .ok (.iload_n 3, 1) := by decide +kernel
theorem dL_law_254 : decode cL_law 254 = .ok (.iconst 1, 1) := by decide +kernel
theorem dL_law_255 : decode cL_law 255 = .ok (.iadd, 1) := by decide +kernel
theorem dL_law_256 : decode cL_law 256 = .ok (.iaload, 1) := by decide +kernel
theorem dL_law_257 : decode cL_law 257 = .ok (.aload_n 0, 1) := by decide +kernel
theorem dL_law_258 : decode cL_law 258 = .ok (.iload_n 3, 1) := by decide +kernel
theorem dL_law_259 : decode cL_law 259 = .ok (.iconst 2, 1) := by decide +kernel
theorem dL_law_260 : decode cL_law 260 = .ok (.iadd, 1) := by decide +kernel
theorem dL_law_261 : decode cL_law 261 = .ok (.iaload, 1) := by decide +kernel
theorem dL_law_262 : decode cL_law 262 = .ok (.invokevirtual 18, 3) := by decide +kernel
theorem dL_law_265 : decode cL_law 265 = .ok (.aload_n 2, 1) := by decide +kernel
theorem dL_law_266 : decode cL_law 266 = .ok (.aload_n 0, 1) := by decide +kernel
theorem dL_law_267 : decode cL_law 267 = .ok (.iload_n 3, 1) := by decide +kernel
theorem dL_law_268 : decode cL_law 268 = .ok (.iconst 1, 1) := by decide +kernel
theorem dL_law_269 : decode cL_law 269 = .ok (.iadd, 1) := by decide +kernel
theorem dL_law_270 : decode cL_law 270 = .ok (.iaload, 1) := by decide +kernel
theorem dL_law_271 : decode cL_law 271 = .ok (.aload_n 0, 1) := by decide +kernel
theorem dL_law_272 : decode cL_law 272 = .ok (.iload_n 3, 1) := by decide +kernel
theorem dL_law_273 : decode cL_law 273 = .ok (.iconst 2, 1) := by decide +kernel
theorem dL_law_274 : decode cL_law 274 = .ok (.iadd, 1) := by decide +kernel
theorem dL_law_275 : decode cL_law 275 = .ok (.iaload, 1) := by decide +kernel
theorem dL_law_276 : decode cL_law 276 = .ok (.invokevirtual 22, 3) := by decide +kernel
theorem dL_law_279 : decode cL_law 279 = .ok (.if_icmp .eq 1189, 3) := by decide +kernel
theorem dL_law_282 : decode cL_law 282 = .ok (.iconst 0, 1) := by decide +kernel
theorem dL_law_283 : decode cL_law 283 = .ok (.ireturn, 1) := by decide +kernel
theorem dL_law_284 : decode cL_law 284 = .ok (.aload_n 1, 1) := by decide +kernel
theorem dL_law_285 : decode cL_law 285 = .ok (.aload_n 0, 1) := by decide +kernel
theorem dL_law_286 : decode cL_law 286 = .ok (.iload_n 3, 1) := by decide +kernel
theorem dL_law_287 : decode cL_law 287 = .ok (.iconst 1, 1) := by decide +kernel
theorem dL_law_288 : decode cL_law 288 = .ok (.iadd, 1) := by decide +kernel
theorem dL_law_289 : decode cL_law 289 = .ok (.iaload, 1) := by decide +kernel
theorem dL_law_290 : decode cL_law 290 = .ok (.aload_n 0, 1) := by decide +kernel
theorem dL_law_291 : decode cL_law 291 = .ok (.iload_n 3, 1) := by decide +kernel
theorem dL_law_292 : decode cL_law 292 = .ok (.iconst 2, 1) := by decide +kernel
theorem dL_law_293 : decode cL_law 293 = .ok (.iadd, 1) := by decide +kernel
theorem dL_law_294 : decode cL_law 294 = .ok (.iaload, 1) := by decide +kernel
theorem dL_law_295 : decode cL_law 295 = .ok (.aload_n 0, 1) := by decide +kernel
theorem dL_law_296 : decode cL_law 296 = .ok (.iload_n 3, 1) := by decide +kernel
theorem dL_law_297 : decode cL_law 297 = .ok (.iconst 3, 1) := by decide +kernel
theorem dL_law_298 : decode cL_law 298 = .ok (.iadd, 1) := by decide +kernel
theorem dL_law_299 : decode cL_law 299 = .ok (.iaload, 1) := by decide +kernel
theorem dL_law_300 : decode cL_law 300 = .ok (.aload_n 0, 1) := by decide +kernel
theorem dL_law_301 : decode cL_law 301 = .ok (.iload_n 3, 1) := by decide +kernel
theorem dL_law_302 : decode cL_law 302 = .ok (.iconst 4, 1) := by decide +kernel
theorem dL_law_303 : decode cL_law 303 = .ok (.iadd, 1) := by decide +kernel
theorem dL_law_304 : decode cL_law 304 = .ok (.iaload, 1) := by decide +kernel
theorem dL_law_305 : decode cL_law 305 = .ok (.invokevirtual 23, 3) := by decide +kernel
theorem dL_law_308 : decode cL_law 308 = .ok (.aload_n 2, 1) := by decide +kernel
theorem dL_law_309 : decode cL_law 309 = .ok (.aload_n 0, 1) := by decide +kernel
theorem dL_law_310 : decode cL_law 310 = .ok (.iload_n 3, 1) := by decide +kernel
theorem dL_law_311 : decode cL_law 311 = .ok (.iconst 1, 1) := by decide +kernel
theorem dL_law_312 : decode cL_law 312 = .ok (.iadd, 1) := by decide +kernel
theorem dL_law_313 : decode cL_law 313 = .ok (.iaload, 1) := by decide +kernel
theorem dL_law_314 : decode cL_law 314 = .ok (.aload_n 0, 1) := by decide +kernel
theorem dL_law_315 : decode cL_law 315 = .ok (.iload_n 3, 1) := by decide +kernel
theorem dL_law_316 : decode cL_law 316 = .ok (.iconst 2, 1) := by decide +kernel
theorem dL_law_317 : decode cL_law 317 = .ok (.iadd, 1) := by decide +kernel
theorem dL_law_318 : decode cL_law 318 = .ok (.iaload, 1) := by decide +kernel
theorem dL_law_319 : decode cL_law 319 = .ok (.aload_n 0, 1) := by decide +kernel
theorem dL_law_320 : decode cL_law 320 = .ok (.iload_n 3, 1) := by decide +kernel
theorem dL_law_321 : decode cL_law 321 = .ok (.iconst 3, 1) := by decide +kernel
theorem dL_law_322 : decode cL_law 322 = .ok (.iadd, 1) := by decide +kernel
theorem dL_law_323 : decode cL_law 323 = .ok (.iaload, 1) := by decide +kernel
theorem dL_law_324 : decode cL_law 324 = .ok (.aload_n 0, 1) := by decide +kernel
theorem dL_law_325 : decode cL_law 325 = .ok (.iload_n 3, 1) := by decide +kernel
theorem dL_law_326 : decode cL_law 326 = .ok (.iconst 4, 1) := by decide +kernel
theorem dL_law_327 : decode cL_law 327 = .ok (.iadd, 1) := by decide +kernel
theorem dL_law_328 : decode cL_law 328 = .ok (.iaload, 1) := by decide +kernel
theorem dL_law_329 : decode cL_law 329 = .ok (.invokevirtual 27, 3) := by decide +kernel
theorem dL_law_332 : decode cL_law 332 = .ok (.if_icmp .eq 1136, 3) := by decide +kernel
theorem dL_law_335 : decode cL_law 335 = .ok (.iconst 0, 1) := by decide +kernel
theorem dL_law_336 : decode cL_law 336 = .ok (.ireturn, 1) := by decide +kernel
theorem dL_law_337 : decode cL_law 337 = .ok (.aload_n 1, 1) := by decide +kernel
theorem dL_law_338 : decode cL_law 338 = .ok (.aload_n 0, 1) := by decide +kernel
theorem dL_law_339 : decode cL_law 339 = .ok (.iload_n 3, 1) := by decide +kernel
theorem dL_law_340 : decode cL_law 340 = .ok (.iconst 1, 1) := by decide +kernel
theorem dL_law_341 : decode cL_law 341 = .ok (.iadd, 1) := by decide +kernel
theorem dL_law_342 : decode cL_law 342 = .ok (.iaload, 1) := by decide +kernel
theorem dL_law_343 : decode cL_law 343 = .ok (.aload_n 0, 1) := by decide +kernel
theorem dL_law_344 : decode cL_law 344 = .ok (.iload_n 3, 1) := by decide +kernel
theorem dL_law_345 : decode cL_law 345 = .ok (.iconst 2, 1) := by decide +kernel
theorem dL_law_346 : decode cL_law 346 = .ok (.iadd, 1) := by decide +kernel
theorem dL_law_347 : decode cL_law 347 = .ok (.iaload, 1) := by decide +kernel
theorem dL_law_348 : decode cL_law 348 = .ok (.invokevirtual 28, 3) := by decide +kernel
theorem dL_law_351 : decode cL_law 351 = .ok (.aload_n 2, 1) := by decide +kernel
theorem dL_law_352 : decode cL_law 352 = .ok (.aload_n 0, 1) := by decide +kernel
theorem dL_law_353 : decode cL_law 353 = .ok (.iload_n 3, 1) := by decide +kernel
theorem dL_law_354 : decode cL_law 354 = .ok (.iconst 1, 1) := by decide +kernel
theorem dL_law_355 : decode cL_law 355 = .ok (.iadd, 1) := by decide +kernel
theorem dL_law_356 : decode cL_law 356 = .ok (.iaload, 1) := by decide +kernel
theorem dL_law_357 : decode cL_law 357 = .ok (.aload_n 0, 1) := by decide +kernel
theorem dL_law_358 : decode cL_law 358 = .ok (.iload_n 3, 1) := by decide +kernel
theorem dL_law_359 : decode cL_law 359 = .ok (.iconst 2, 1) := by decide +kernel
theorem dL_law_360 : decode cL_law 360 = .ok (.iadd, 1) := by decide +kernel
theorem dL_law_361 : decode cL_law 361 = .ok (.iaload, 1) := by decide +kernel
theorem dL_law_362 : decode cL_law 362 = .ok (.invokevirtual 31, 3) := by decide +kernel
theorem dL_law_365 : decode cL_law 365 = .ok (.if_icmp .eq 1103, 3) := by decide +kernel
theorem dL_law_368 : decode cL_law 368 = .ok (.iconst 0, 1) := by decide +kernel
theorem dL_law_369 : decode cL_law 369 = .ok (.ireturn, 1) := by decide +kernel
theorem dL_law_370 : decode cL_law 370 = .ok (.aload_n 1, 1) := by decide +kernel
theorem dL_law_371 : decode cL_law 371 = .ok (.aload_n 0, 1) := by decide +kernel
theorem dL_law_372 : decode cL_law 372 = .ok (.iload_n 3, 1) := by decide +kernel
theorem dL_law_373 : decode cL_law 373 = .ok (.iconst 1, 1) := by decide +kernel
theorem dL_law_374 : decode cL_law 374 = .ok (.iadd, 1) := by decide +kernel
theorem dL_law_375 : decode cL_law 375 = .ok (.iaload, 1) := by decide +kernel
theorem dL_law_376 : decode cL_law 376 = .ok (.aload_n 0, 1) := by decide +kernel
theorem dL_law_377 : decode cL_law 377 = .ok (.iload_n 3, 1) := by decide +kernel
theorem dL_law_378 : decode cL_law 378 = .ok (.iconst 2, 1) := by decide +kernel
theorem dL_law_379 : decode cL_law 379 = .ok (.iadd, 1) := by decide +kernel
theorem dL_law_380 : decode cL_law 380 = .ok (.iaload, 1) := by decide +kernel
theorem dL_law_381 : decode cL_law 381 = .ok (.invokevirtual 32, 3) := by decide +kernel
theorem dL_law_384 : decode cL_law 384 = .ok (.aload_n 2, 1) := by decide +kernel
theorem dL_law_385 : decode cL_law 385 = .ok (.aload_n 0, 1) := by decide +kernel
theorem dL_law_386 : decode cL_law 386 = .ok (.iload_n 3, 1) := by decide +kernel
theorem dL_law_387 : decode cL_law 387 = .ok (.iconst 1, 1) := by decide +kernel
theorem dL_law_388 : decode cL_law 388 = .ok (.iadd, 1) := by decide +kernel
theorem dL_law_389 : decode cL_law 389 = .ok (.iaload, 1) := by decide +kernel
theorem dL_law_390 : decode cL_law 390 = .ok (.aload_n 0, 1) := by decide +kernel
theorem dL_law_391 : decode cL_law 391 = .ok (.iload_n 3, 1) := by decide +kernel
theorem dL_law_392 : decode cL_law 392 = .ok (.iconst 2, 1) := by decide +kernel
theorem dL_law_393 : decode cL_law 393 = .ok (.iadd, 1) := by decide +kernel
theorem dL_law_394 : decode cL_law 394 = .ok (.iaload, 1) := by decide +kernel
theorem dL_law_395 : decode cL_law 395 = .ok (.invokevirtual 35, 3) := by decide +kernel
theorem dL_law_398 : decode cL_law 398 = .ok (.if_icmp .eq 1070, 3) := by decide +kernel
theorem dL_law_401 : decode cL_law 401 = .ok (.iconst 0, 1) := by decide +kernel
theorem dL_law_402 : decode cL_law 402 = .ok (.ireturn, 1) := by decide +kernel
theorem dL_law_403 : decode cL_law 403 = .ok (.aload_n 1, 1) := by decide +kernel
theorem dL_law_404 : decode cL_law 404 = .ok (.aload_n 0, 1) := by decide +kernel
theorem dL_law_405 : decode cL_law 405 = .ok (.iload_n 3, 1) := by decide +kernel
theorem dL_law_406 : decode cL_law 406 = .ok (.iconst 1, 1) := by decide +kernel
theorem dL_law_407 : decode cL_law 407 = .ok (.iadd, 1) := by decide +kernel
theorem dL_law_408 : decode cL_law 408 = .ok (.iaload, 1) := by decide +kernel
theorem dL_law_409 : decode cL_law 409 = .ok (.aload_n 0, 1) := by decide +kernel
theorem dL_law_410 : decode cL_law 410 = .ok (.iload_n 3, 1) := by decide +kernel
theorem dL_law_411 : decode cL_law 411 = .ok (.iconst 2, 1) := by decide +kernel
theorem dL_law_412 : decode cL_law 412 = .ok (.iadd, 1) := by decide +kernel
theorem dL_law_413 : decode cL_law 413 = .ok (.iaload, 1) := by decide +kernel
theorem dL_law_414 : decode cL_law 414 = .ok (.aload_n 0, 1) := by decide +kernel
theorem dL_law_415 : decode cL_law 415 = .ok (.iload_n 3, 1) := by decide +kernel
theorem dL_law_416 : decode cL_law 416 = .ok (.iconst 3, 1) := by decide +kernel
theorem dL_law_417 : decode cL_law 417 = .ok (.iadd, 1) := by decide +kernel
theorem dL_law_418 : decode cL_law 418 = .ok (.iaload, 1) := by decide +kernel
theorem dL_law_419 : decode cL_law 419 = .ok (.invokevirtual 36, 3) := by decide +kernel
theorem dL_law_422 : decode cL_law 422 = .ok (.aload_n 2, 1) := by decide +kernel
theorem dL_law_423 : decode cL_law 423 = .ok (.aload_n 0, 1) := by decide +kernel
theorem dL_law_424 : decode cL_law 424 = .ok (.iload_n 3, 1) := by decide +kernel
theorem dL_law_425 : decode cL_law 425 = .ok (.iconst 1, 1) := by decide +kernel
theorem dL_law_426 : decode cL_law 426 = .ok (.iadd, 1) := by decide +kernel
theorem dL_law_427 : decode cL_law 427 = .ok (.iaload, 1) := by decide +kernel
theorem dL_law_428 : decode cL_law 428 = .ok (.aload_n 0, 1) := by decide +kernel
theorem dL_law_429 : decode cL_law 429 = .ok (.iload_n 3, 1) := by decide +kernel
theorem dL_law_430 : decode cL_law 430 = .ok (.iconst 2, 1) := by decide +kernel
theorem dL_law_431 : decode cL_law 431 = .ok (.iadd, 1) := by decide +kernel
theorem dL_law_432 : decode cL_law 432 = .ok (.iaload, 1) := by decide +kernel
theorem dL_law_433 : decode cL_law 433 = .ok (.aload_n 0, 1) := by decide +kernel
theorem dL_law_434 : decode cL_law 434 = .ok (.iload_n 3, 1) := by decide +kernel
theorem dL_law_435 : decode cL_law 435 = .ok (.iconst 3, 1) := by decide +kernel
theorem dL_law_436 : decode cL_law 436 = .ok (.iadd, 1) := by decide +kernel
theorem dL_law_437 : decode cL_law 437 = .ok (.iaload, 1) := by decide +kernel
theorem dL_law_438 : decode cL_law 438 = .ok (.invokevirtual 39, 3) := by decide +kernel
theorem dL_law_441 : decode cL_law 441 = .ok (.if_icmp .eq 1027, 3) := by decide +kernel
theorem dL_law_444 : decode cL_law 444 = .ok (.iconst 0, 1) := by decide +kernel
theorem dL_law_445 : decode cL_law 445 = .ok (.ireturn, 1) := by decide +kernel
theorem dL_law_446 : decode cL_law 446 = .ok (.aload_n 1, 1) := by decide +kernel
theorem dL_law_447 : decode cL_law 447 = .ok (.aload_n 0, 1) := by decide +kernel
theorem dL_law_448 : decode cL_law 448 = .ok (.iload_n 3, 1) := by decide +kernel
theorem dL_law_449 : decode cL_law 449 = .ok (.iconst 1, 1) := by decide +kernel
theorem dL_law_450 : decode cL_law 450 = .ok (.iadd, 1) := by decide +kernel
theorem dL_law_451 : decode cL_law 451 = .ok (.iaload, 1) := by decide +kernel
theorem dL_law_452 : decode cL_law 452 = .ok (.aload_n 0, 1) := by decide +kernel
theorem dL_law_453 : decode cL_law 453 = .ok (.iload_n 3, 1) := by decide +kernel
theorem dL_law_454 : decode cL_law 454 = .ok (.iconst 2, 1) := by decide +kernel
theorem dL_law_455 : decode cL_law 455 = .ok (.iadd, 1) := by decide +kernel
theorem dL_law_456 : decode cL_law 456 = .ok (.iaload, 1) := by decide +kernel
theorem dL_law_457 : decode cL_law 457 = .ok (.invokevirtual 40, 3) := by decide +kernel
theorem dL_law_460 : decode cL_law 460 = .ok (.aload_n 2, 1) := by decide +kernel
theorem dL_law_461 : decode cL_law 461 = .ok (.aload_n 0, 1) := by decide +kernel
theorem dL_law_462 : decode cL_law 462 = .ok (.iload_n 3, 1) := by decide +kernel
theorem dL_law_463 : decode cL_law 463 = .ok (.iconst 1, 1) := by decide +kernel
theorem dL_law_464 : decode cL_law 464 = .ok (.iadd, 1) := by decide +kernel
theorem dL_law_465 : decode cL_law 465 = .ok (.iaload, 1) := by decide +kernel
theorem dL_law_466 : decode cL_law 466 = .ok (.aload_n 0, 1) := by decide +kernel
theorem dL_law_467 : decode cL_law 467 = .ok (.iload_n 3, 1) := by decide +kernel
theorem dL_law_468 : decode cL_law 468 = .ok (.iconst 2, 1) := by decide +kernel
theorem dL_law_469 : decode cL_law 469 = .ok (.iadd, 1) := by decide +kernel
theorem dL_law_470 : decode cL_law 470 = .ok (.iaload, 1) := by decide +kernel
theorem dL_law_471 : decode cL_law 471 = .ok (.invokevirtual 43, 3) := by decide +kernel
theorem dL_law_474 : decode cL_law 474 = .ok (.if_icmp .eq 994, 3) := by decide +kernel
theorem dL_law_477 : decode cL_law 477 = .ok (.iconst 0, 1) := by decide +kernel
theorem dL_law_478 : decode cL_law 478 = .ok (.ireturn, 1) := by decide +kernel
theorem dL_law_479 : decode cL_law 479 = .ok (.aload_n 1, 1) := by decide +kernel
theorem dL_law_480 : decode cL_law 480 = .ok (.aload_n 0, 1) := by decide +kernel
theorem dL_law_481 : decode cL_law 481 = .ok (.iload_n 3, 1) := by decide +kernel
theorem dL_law_482 : decode cL_law 482 = .ok (.iconst 1, 1) := by decide +kernel
theorem dL_law_483 : decode cL_law 483 = .ok (.iadd, 1) := by decide +kernel
theorem dL_law_484 : decode cL_law 484 = .ok (.iaload, 1) := by decide +kernel
theorem dL_law_485 : decode cL_law 485 = .ok (.aload_n 0, 1) := by decide +kernel
theorem dL_law_486 : decode cL_law 486 = .ok (.iload_n 3, 1) := by decide +kernel
theorem dL_law_487 : decode cL_law 487 = .ok (.iconst 2, 1) := by decide +kernel
theorem dL_law_488 : decode cL_law 488 = .ok (.iadd, 1) := by decide +kernel
theorem dL_law_489 : decode cL_law 489 = .ok (.iaload, 1) := by decide +kernel
theorem dL_law_490 : decode cL_law 490 = .ok (.invokevirtual 44, 3) := by decide +kernel
theorem dL_law_493 : decode cL_law 493 = .ok (.aload_n 2, 1) := by decide +kernel
theorem dL_law_494 : decode cL_law 494 = .ok (.aload_n 0, 1) := by decide +kernel
theorem dL_law_495 : decode cL_law 495 = .ok (.iload_n 3, 1) := by decide +kernel
theorem dL_law_496 : decode cL_law 496 = .ok (.iconst 1, 1) := by decide +kernel
theorem dL_law_497 : decode cL_law 497 = .ok (.iadd, 1) := by decide +kernel
theorem dL_law_498 : decode cL_law 498 = .ok (.iaload, 1) := by decide +kernel
theorem dL_law_499 : decode cL_law 499 = .ok (.aload_n 0, 1) := by decide +kernel
theorem dL_law_500 : decode cL_law 500 = .ok (.iload_n 3, 1) := by decide +kernel
theorem dL_law_501 : decode cL_law 501 = .ok (.iconst 2, 1) := by decide +kernel
theorem dL_law_502 : decode cL_law 502 = .ok (.iadd, 1) := by decide +kernel
theorem dL_law_503 : decode cL_law 503 = .ok (.iaload, 1) := by decide +kernel
theorem dL_law_504 : decode cL_law 504 = .ok (.invokevirtual 47, 3) := by decide +kernel
theorem dL_law_507 : decode cL_law 507 = .ok (.if_icmp .eq 961, 3) := by decide +kernel
theorem dL_law_510 : decode cL_law 510 = .ok (.iconst 0, 1) := by decide +kernel
theorem dL_law_511 : decode cL_law 511 = .ok (.ireturn, 1) := by decide +kernel
theorem dL_law_512 : decode cL_law 512 = .ok (.aload_n 1, 1) := by decide +kernel
theorem dL_law_513 : decode cL_law 513 = .ok (.aload_n 0, 1) := by decide +kernel
theorem dL_law_514 : decode cL_law 514 = .ok (.iload_n 3, 1) := by decide +kernel
theorem dL_law_515 : decode cL_law 515 = .ok (.iconst 1, 1) := by decide +kernel
theorem dL_law_516 : decode cL_law 516 = .ok (.iadd, 1) := by decide +kernel
theorem dL_law_517 : decode cL_law 517 = .ok (.iaload, 1) := by decide +kernel
theorem dL_law_518 : decode cL_law 518 = .ok (.invokevirtual 48, 3) := by decide +kernel
theorem dL_law_521 : decode cL_law 521 = .ok (.aload_n 2, 1) := by decide +kernel
theorem dL_law_522 : decode cL_law 522 = .ok (.aload_n 0, 1) := by decide +kernel
theorem dL_law_523 : decode cL_law 523 = .ok (.iload_n 3, 1) := by decide +kernel
theorem dL_law_524 : decode cL_law 524 = .ok (.iconst 1, 1) := by decide +kernel
theorem dL_law_525 : decode cL_law 525 = .ok (.iadd, 1) := by decide +kernel
theorem dL_law_526 : decode cL_law 526 = .ok (.iaload, 1) := by decide +kernel
theorem dL_law_527 : decode cL_law 527 = .ok (.invokevirtual 52, 3) := by decide +kernel
theorem dL_law_530 : decode cL_law 530 = .ok (.if_icmp .eq 938, 3) := by decide +kernel
theorem dL_law_533 : decode cL_law 533 = .ok (.iconst 0, 1) := by decide +kernel
theorem dL_law_534 : decode cL_law 534 = .ok (.ireturn, 1) := by decide +kernel
theorem dL_law_535 : decode cL_law 535 = .ok (.aload_n 1, 1) := by decide +kernel
theorem dL_law_536 : decode cL_law 536 = .ok (.aload_n 0, 1) := by decide +kernel
theorem dL_law_537 : decode cL_law 537 = .ok (.iload_n 3, 1) := by decide +kernel
theorem dL_law_538 : decode cL_law 538 = .ok (.iconst 1, 1) := by decide +kernel
theorem dL_law_539 : decode cL_law 539 = .ok (.iadd, 1) := by decide +kernel
theorem dL_law_540 : decode cL_law 540 = .ok (.iaload, 1) := by decide +kernel
theorem dL_law_541 : decode cL_law 541 = .ok (.invokevirtual 53, 3) := by decide +kernel
theorem dL_law_544 : decode cL_law 544 = .ok (.aload_n 2, 1) := by decide +kernel
theorem dL_law_545 : decode cL_law 545 = .ok (.aload_n 0, 1) := by decide +kernel
theorem dL_law_546 : decode cL_law 546 = .ok (.iload_n 3, 1) := by decide +kernel
theorem dL_law_547 : decode cL_law 547 = .ok (.iconst 1, 1) := by decide +kernel
theorem dL_law_548 : decode cL_law 548 = .ok (.iadd, 1) := by decide +kernel
theorem dL_law_549 : decode cL_law 549 = .ok (.iaload, 1) := by decide +kernel
theorem dL_law_550 : decode cL_law 550 = .ok (.invokevirtual 56, 3) := by decide +kernel
theorem dL_law_553 : decode cL_law 553 = .ok (.if_icmp .eq 915, 3) := by decide +kernel
theorem dL_law_556 : decode cL_law 556 = .ok (.iconst 0, 1) := by decide +kernel
theorem dL_law_557 : decode cL_law 557 = .ok (.ireturn, 1) := by decide +kernel
theorem dL_law_558 : decode cL_law 558 = .ok (.aload_n 1, 1) := by decide +kernel
theorem dL_law_559 : decode cL_law 559 = .ok (.aload_n 0, 1) := by decide +kernel
theorem dL_law_560 : decode cL_law 560 = .ok (.iload_n 3, 1) := by decide +kernel
theorem dL_law_561 : decode cL_law 561 = .ok (.iconst 1, 1) := by decide +kernel
theorem dL_law_562 : decode cL_law 562 = .ok (.iadd, 1) := by decide +kernel
theorem dL_law_563 : decode cL_law 563 = .ok (.iaload, 1) := by decide +kernel
theorem dL_law_564 : decode cL_law 564 = .ok (.invokevirtual 57, 3) := by decide +kernel
theorem dL_law_567 : decode cL_law 567 = .ok (.aload_n 2, 1) := by decide +kernel
theorem dL_law_568 : decode cL_law 568 = .ok (.aload_n 0, 1) := by decide +kernel
theorem dL_law_569 : decode cL_law 569 = .ok (.iload_n 3, 1) := by decide +kernel
theorem dL_law_570 : decode cL_law 570 = .ok (.iconst 1, 1) := by decide +kernel
theorem dL_law_571 : decode cL_law 571 = .ok (.iadd, 1) := by decide +kernel
theorem dL_law_572 : decode cL_law 572 = .ok (.iaload, 1) := by decide +kernel
theorem dL_law_573 : decode cL_law 573 = .ok (.invokevirtual 60, 3) := by decide +kernel
theorem dL_law_576 : decode cL_law 576 = .ok (.if_icmp .eq 892, 3) := by decide +kernel
theorem dL_law_579 : decode cL_law 579 = .ok (.iconst 0, 1) := by decide +kernel
theorem dL_law_580 : decode cL_law 580 = .ok (.ireturn, 1) := by decide +kernel
theorem dL_law_581 : decode cL_law 581 = .ok (.aload_n 1, 1) := by decide +kernel
theorem dL_law_582 : decode cL_law 582 = .ok (.aload_n 0, 1) := by decide +kernel
theorem dL_law_583 : decode cL_law 583 = .ok (.iload_n 3, 1) := by decide +kernel
theorem dL_law_584 : decode cL_law 584 = .ok (.iconst 1, 1) := by decide +kernel
theorem dL_law_585 : decode cL_law 585 = .ok (.iadd, 1) := by decide +kernel
theorem dL_law_586 : decode cL_law 586 = .ok (.iaload, 1) := by decide +kernel
theorem dL_law_587 : decode cL_law 587 = .ok (.invokevirtual 61, 3) := by decide +kernel
theorem dL_law_590 : decode cL_law 590 = .ok (.aload_n 2, 1) := by decide +kernel
theorem dL_law_591 : decode cL_law 591 = .ok (.aload_n 0, 1) := by decide +kernel
theorem dL_law_592 : decode cL_law 592 = .ok (.iload_n 3, 1) := by decide +kernel
theorem dL_law_593 : decode cL_law 593 = .ok (.iconst 1, 1) := by decide +kernel
theorem dL_law_594 : decode cL_law 594 = .ok (.iadd, 1) := by decide +kernel
theorem dL_law_595 : decode cL_law 595 = .ok (.iaload, 1) := by decide +kernel
theorem dL_law_596 : decode cL_law 596 = .ok (.invokevirtual 64, 3) := by decide +kernel
theorem dL_law_599 : decode cL_law 599 = .ok (.if_icmp .eq 869, 3) := by decide +kernel
theorem dL_law_602 : decode cL_law 602 = .ok (.iconst 0, 1) := by decide +kernel
theorem dL_law_603 : decode cL_law 603 = .ok (.ireturn, 1) := by decide +kernel
theorem dL_law_604 : decode cL_law 604 = .ok (.aload_n 1, 1) := by decide +kernel
theorem dL_law_605 : decode cL_law 605 = .ok (.aload_n 0, 1) := by decide +kernel
theorem dL_law_606 : decode cL_law 606 = .ok (.iload_n 3, 1) := by decide +kernel
theorem dL_law_607 : decode cL_law 607 = .ok (.iconst 1, 1) := by decide +kernel
theorem dL_law_608 : decode cL_law 608 = .ok (.iadd, 1) := by decide +kernel
theorem dL_law_609 : decode cL_law 609 = .ok (.iaload, 1) := by decide +kernel
theorem dL_law_610 : decode cL_law 610 = .ok (.aload_n 0, 1) := by decide +kernel
theorem dL_law_611 : decode cL_law 611 = .ok (.iload_n 3, 1) := by decide +kernel
theorem dL_law_612 : decode cL_law 612 = .ok (.iconst 2, 1) := by decide +kernel
theorem dL_law_613 : decode cL_law 613 = .ok (.iadd, 1) := by decide +kernel
theorem dL_law_614 : decode cL_law 614 = .ok (.iaload, 1) := by decide +kernel
theorem dL_law_615 : decode cL_law 615 = .ok (.invokevirtual 65, 3) := by decide +kernel
theorem dL_law_618 : decode cL_law 618 = .ok (.aload_n 2, 1) := by decide +kernel
theorem dL_law_619 : decode cL_law 619 = .ok (.aload_n 0, 1) := by decide +kernel
theorem dL_law_620 : decode cL_law 620 = .ok (.iload_n 3, 1) := by decide +kernel
theorem dL_law_621 : decode cL_law 621 = .ok (.iconst 1, 1) := by decide +kernel
theorem dL_law_622 : decode cL_law 622 = .ok (.iadd, 1) := by decide +kernel
theorem dL_law_623 : decode cL_law 623 = .ok (.iaload, 1) := by decide +kernel
theorem dL_law_624 : decode cL_law 624 = .ok (.aload_n 0, 1) := by decide +kernel
theorem dL_law_625 : decode cL_law 625 = .ok (.iload_n 3, 1) := by decide +kernel
theorem dL_law_626 : decode cL_law 626 = .ok (.iconst 2, 1) := by decide +kernel
theorem dL_law_627 : decode cL_law 627 = .ok (.iadd, 1) := by decide +kernel
theorem dL_law_628 : decode cL_law 628 = .ok (.iaload, 1) := by decide +kernel
theorem dL_law_629 : decode cL_law 629 = .ok (.invokevirtual 68, 3) := by decide +kernel
theorem dL_law_632 : decode cL_law 632 = .ok (.if_icmp .eq 836, 3) := by decide +kernel
theorem dL_law_635 : decode cL_law 635 = .ok (.iconst 0, 1) := by decide +kernel
theorem dL_law_636 : decode cL_law 636 = .ok (.ireturn, 1) := by decide +kernel
theorem dL_law_637 : decode cL_law 637 = .ok (.aload_n 1, 1) := by decide +kernel
theorem dL_law_638 : decode cL_law 638 = .ok (.aload_n 0, 1) := by decide +kernel
theorem dL_law_639 : decode cL_law 639 = .ok (.iload_n 3, 1) := by decide +kernel
theorem dL_law_640 : decode cL_law 640 = .ok (.iconst 1, 1) := by decide +kernel
theorem dL_law_641 : decode cL_law 641 = .ok (.iadd, 1) := by decide +kernel
theorem dL_law_642 : decode cL_law 642 = .ok (.iaload, 1) := by decide +kernel
theorem dL_law_643 : decode cL_law 643 = .ok (.aload_n 0, 1) := by decide +kernel
theorem dL_law_644 : decode cL_law 644 = .ok (.iload_n 3, 1) := by decide +kernel
theorem dL_law_645 : decode cL_law 645 = .ok (.iconst 2, 1) := by decide +kernel
theorem dL_law_646 : decode cL_law 646 = .ok (.iadd, 1) := by decide +kernel
theorem dL_law_647 : decode cL_law 647 = .ok (.iaload, 1) := by decide +kernel
theorem dL_law_648 : decode cL_law 648 = .ok (.aload_n 0, 1) := by decide +kernel
theorem dL_law_649 : decode cL_law 649 = .ok (.iload_n 3, 1) := by decide +kernel
theorem dL_law_650 : decode cL_law 650 = .ok (.iconst 3, 1) := by decide +kernel
theorem dL_law_651 : decode cL_law 651 = .ok (.iadd, 1) := by decide +kernel
theorem dL_law_652 : decode cL_law 652 = .ok (.iaload, 1) := by decide +kernel
theorem dL_law_653 : decode cL_law 653 = .ok (.invokevirtual 69, 3) := by decide +kernel
theorem dL_law_656 : decode cL_law 656 = .ok (.aload_n 2, 1) := by decide +kernel
theorem dL_law_657 : decode cL_law 657 = .ok (.aload_n 0, 1) := by decide +kernel
theorem dL_law_658 : decode cL_law 658 = .ok (.iload_n 3, 1) := by decide +kernel
theorem dL_law_659 : decode cL_law 659 = .ok (.iconst 1, 1) := by decide +kernel
theorem dL_law_660 : decode cL_law 660 = .ok (.iadd, 1) := by decide +kernel
theorem dL_law_661 : decode cL_law 661 = .ok (.iaload, 1) := by decide +kernel
theorem dL_law_662 : decode cL_law 662 = .ok (.aload_n 0, 1) := by decide +kernel
theorem dL_law_663 : decode cL_law 663 = .ok (.iload_n 3, 1) := by decide +kernel
theorem dL_law_664 : decode cL_law 664 = .ok (.iconst 2, 1) := by decide +kernel
theorem dL_law_665 : decode cL_law 665 = .ok (.iadd, 1) := by decide +kernel
theorem dL_law_666 : decode cL_law 666 = .ok (.iaload, 1) := by decide +kernel
theorem dL_law_667 : decode cL_law 667 = .ok (.aload_n 0, 1) := by decide +kernel
theorem dL_law_668 : decode cL_law 668 = .ok (.iload_n 3, 1) := by decide +kernel
theorem dL_law_669 : decode cL_law 669 = .ok (.iconst 3, 1) := by decide +kernel
theorem dL_law_670 : decode cL_law 670 = .ok (.iadd, 1) := by decide +kernel
theorem dL_law_671 : decode cL_law 671 = .ok (.iaload, 1) := by decide +kernel
theorem dL_law_672 : decode cL_law 672 = .ok (.invokevirtual 72, 3) := by decide +kernel
theorem dL_law_675 : decode cL_law 675 = .ok (.if_icmp .eq 793, 3) := by decide +kernel
theorem dL_law_678 : decode cL_law 678 = .ok (.iconst 0, 1) := by decide +kernel
theorem dL_law_679 : decode cL_law 679 = .ok (.ireturn, 1) := by decide +kernel
theorem dL_law_680 : decode cL_law 680 = .ok (.aload_n 1, 1) := by decide +kernel
theorem dL_law_681 : decode cL_law 681 = .ok (.aload_n 0, 1) := by decide +kernel
theorem dL_law_682 : decode cL_law 682 = .ok (.iload_n 3, 1) := by decide +kernel
theorem dL_law_683 : decode cL_law 683 = .ok (.iconst 1, 1) := by decide +kernel
theorem dL_law_684 : decode cL_law 684 = .ok (.iadd, 1) := by decide +kernel
theorem dL_law_685 : decode cL_law 685 = .ok (.iaload, 1) := by decide +kernel
theorem dL_law_686 : decode cL_law 686 = .ok (.aload_n 0, 1) := by decide +kernel
theorem dL_law_687 : decode cL_law 687 = .ok (.iload_n 3, 1) := by decide +kernel
theorem dL_law_688 : decode cL_law 688 = .ok (.iconst 2, 1) := by decide +kernel
theorem dL_law_689 : decode cL_law 689 = .ok (.iadd, 1) := by decide +kernel
theorem dL_law_690 : decode cL_law 690 = .ok (.iaload, 1) := by decide +kernel
theorem dL_law_691 : decode cL_law 691 = .ok (.invokevirtual 73, 3) := by decide +kernel
theorem dL_law_694 : decode cL_law 694 = .ok (.aload_n 2, 1) := by decide +kernel
theorem dL_law_695 : decode cL_law 695 = .ok (.aload_n 0, 1) := by decide +kernel
theorem dL_law_696 : decode cL_law 696 = .ok (.iload_n 3, 1) := by decide +kernel
theorem dL_law_697 : decode cL_law 697 = .ok (.iconst 1, 1) := by decide +kernel
theorem dL_law_698 : decode cL_law 698 = .ok (.iadd, 1) := by decide +kernel
theorem dL_law_699 : decode cL_law 699 = .ok (.iaload, 1) := by decide +kernel
theorem dL_law_700 : decode cL_law 700 = .ok (.aload_n 0, 1) := by decide +kernel
theorem dL_law_701 : decode cL_law 701 = .ok (.iload_n 3, 1) := by decide +kernel
theorem dL_law_702 : decode cL_law 702 = .ok (.iconst 2, 1) := by decide +kernel
theorem dL_law_703 : decode cL_law 703 = .ok (.iadd, 1) := by decide +kernel
theorem dL_law_704 : decode cL_law 704 = .ok (.iaload, 1) := by decide +kernel
theorem dL_law_705 : decode cL_law 705 = .ok (.invokevirtual 76, 3) := by decide +kernel
theorem dL_law_708 : decode cL_law 708 = .ok (.if_icmp .eq 760, 3) := by decide +kernel
theorem dL_law_711 : decode cL_law 711 = .ok (.iconst 0, 1) := by decide +kernel
theorem dL_law_712 : decode cL_law 712 = .ok (.ireturn, 1) := by decide +kernel
theorem dL_law_713 : decode cL_law 713 = .ok (.aload_n 1, 1) := by decide +kernel
theorem dL_law_714 : decode cL_law 714 = .ok (.aload_n 0, 1) := by decide +kernel
theorem dL_law_715 : decode cL_law 715 = .ok (.iload_n 3, 1) := by decide +kernel
theorem dL_law_716 : decode cL_law 716 = .ok (.iconst 1, 1) := by decide +kernel
theorem dL_law_717 : decode cL_law 717 = .ok (.iadd, 1) := by decide +kernel
theorem dL_law_718 : decode cL_law 718 = .ok (.iaload, 1) := by decide +kernel
theorem dL_law_719 : decode cL_law 719 = .ok (.aload_n 0, 1) := by decide +kernel
theorem dL_law_720 : decode cL_law 720 = .ok (.iload_n 3, 1) := by decide +kernel
theorem dL_law_721 : decode cL_law 721 = .ok (.iconst 2, 1) := by decide +kernel
theorem dL_law_722 : decode cL_law 722 = .ok (.iadd, 1) := by decide +kernel
theorem dL_law_723 : decode cL_law 723 = .ok (.iaload, 1) := by decide +kernel
theorem dL_law_724 : decode cL_law 724 = .ok (.aload_n 0, 1) := by decide +kernel
theorem dL_law_725 : decode cL_law 725 = .ok (.iload_n 3, 1) := by decide +kernel
theorem dL_law_726 : decode cL_law 726 = .ok (.iconst 3, 1) := by decide +kernel
theorem dL_law_727 : decode cL_law 727 = .ok (.iadd, 1) := by decide +kernel
theorem dL_law_728 : decode cL_law 728 = .ok (.iaload, 1) := by decide +kernel
theorem dL_law_729 : decode cL_law 729 = .ok (.invokevirtual 77, 3) := by decide +kernel
theorem dL_law_732 : decode cL_law 732 = .ok (.aload_n 2, 1) := by decide +kernel
theorem dL_law_733 : decode cL_law 733 = .ok (.aload_n 0, 1) := by decide +kernel
theorem dL_law_734 : decode cL_law 734 = .ok (.iload_n 3, 1) := by decide +kernel
theorem dL_law_735 : decode cL_law 735 = .ok (.iconst 1, 1) := by decide +kernel
theorem dL_law_736 : decode cL_law 736 = .ok (.iadd, 1) := by decide +kernel
theorem dL_law_737 : decode cL_law 737 = .ok (.iaload, 1) := by decide +kernel
theorem dL_law_738 : decode cL_law 738 = .ok (.aload_n 0, 1) := by decide +kernel
theorem dL_law_739 : decode cL_law 739 = .ok (.iload_n 3, 1) := by decide +kernel
theorem dL_law_740 : decode cL_law 740 = .ok (.iconst 2, 1) := by decide +kernel
theorem dL_law_741 : decode cL_law 741 = .ok (.iadd, 1) := by decide +kernel
theorem dL_law_742 : decode cL_law 742 = .ok (.iaload, 1) := by decide +kernel
theorem dL_law_743 : decode cL_law 743 = .ok (.aload_n 0, 1) := by decide +kernel
theorem dL_law_744 : decode cL_law 744 = .ok (.iload_n 3, 1) := by decide +kernel
theorem dL_law_745 : decode cL_law 745 = .ok (.iconst 3, 1) := by decide +kernel
theorem dL_law_746 : decode cL_law 746 = .ok (.iadd, 1) := by decide +kernel
theorem dL_law_747 : decode cL_law 747 = .ok (.iaload, 1) := by decide +kernel
theorem dL_law_748 : decode cL_law 748 = .ok (.invokevirtual 80, 3) := by decide +kernel
theorem dL_law_751 : decode cL_law 751 = .ok (.if_icmp .eq 717, 3) := by decide +kernel
theorem dL_law_754 : decode cL_law 754 = .ok (.iconst 0, 1) := by decide +kernel
theorem dL_law_755 : decode cL_law 755 = .ok (.ireturn, 1) := by decide +kernel
theorem dL_law_756 : decode cL_law 756 = .ok (.aload_n 1, 1) := by decide +kernel
theorem dL_law_757 : decode cL_law 757 = .ok (.aload_n 0, 1) := by decide +kernel
theorem dL_law_758 : decode cL_law 758 = .ok (.iload_n 3, 1) := by decide +kernel
theorem dL_law_759 : decode cL_law 759 = .ok (.iconst 1, 1) := by decide +kernel
theorem dL_law_760 : decode cL_law 760 = .ok (.iadd, 1) := by decide +kernel
theorem dL_law_761 : decode cL_law 761 = .ok (.iaload, 1) := by decide +kernel
theorem dL_law_762 : decode cL_law 762 = .ok (.aload_n 0, 1) := by decide +kernel
theorem dL_law_763 : decode cL_law 763 = .ok (.iload_n 3, 1) := by decide +kernel
theorem dL_law_764 : decode cL_law 764 = .ok (.iconst 2, 1) := by decide +kernel
theorem dL_law_765 : decode cL_law 765 = .ok (.iadd, 1) := by decide +kernel
theorem dL_law_766 : decode cL_law 766 = .ok (.iaload, 1) := by decide +kernel
theorem dL_law_767 : decode cL_law 767 = .ok (.invokevirtual 81, 3) := by decide +kernel
theorem dL_law_770 : decode cL_law 770 = .ok (.aload_n 2, 1) := by decide +kernel
theorem dL_law_771 : decode cL_law 771 = .ok (.aload_n 0, 1) := by decide +kernel
theorem dL_law_772 : decode cL_law 772 = .ok (.iload_n 3, 1) := by decide +kernel
theorem dL_law_773 : decode cL_law 773 = .ok (.iconst 1, 1) := by decide +kernel
theorem dL_law_774 : decode cL_law 774 = .ok (.iadd, 1) := by decide +kernel
theorem dL_law_775 : decode cL_law 775 = .ok (.iaload, 1) := by decide +kernel
theorem dL_law_776 : decode cL_law 776 = .ok (.aload_n 0, 1) := by decide +kernel
theorem dL_law_777 : decode cL_law 777 = .ok (.iload_n 3, 1) := by decide +kernel
theorem dL_law_778 : decode cL_law 778 = .ok (.iconst 2, 1) := by decide +kernel
theorem dL_law_779 : decode cL_law 779 = .ok (.iadd, 1) := by decide +kernel
theorem dL_law_780 : decode cL_law 780 = .ok (.iaload, 1) := by decide +kernel
theorem dL_law_781 : decode cL_law 781 = .ok (.invokevirtual 84, 3) := by decide +kernel
theorem dL_law_784 : decode cL_law 784 = .ok (.if_icmp .eq 684, 3) := by decide +kernel
theorem dL_law_787 : decode cL_law 787 = .ok (.iconst 0, 1) := by decide +kernel
theorem dL_law_788 : decode cL_law 788 = .ok (.ireturn, 1) := by decide +kernel
theorem dL_law_789 : decode cL_law 789 = .ok (.aload_n 1, 1) := by decide +kernel
theorem dL_law_790 : decode cL_law 790 = .ok (.aload_n 0, 1) := by decide +kernel
theorem dL_law_791 : decode cL_law 791 = .ok (.iload_n 3, 1) := by decide +kernel
theorem dL_law_792 : decode cL_law 792 = .ok (.iconst 1, 1) := by decide +kernel
theorem dL_law_793 : decode cL_law 793 = .ok (.iadd, 1) := by decide +kernel
theorem dL_law_794 : decode cL_law 794 = .ok (.iaload, 1) := by decide +kernel
theorem dL_law_795 : decode cL_law 795 = .ok (.aload_n 0, 1) := by decide +kernel
theorem dL_law_796 : decode cL_law 796 = .ok (.iload_n 3, 1) := by decide +kernel
theorem dL_law_797 : decode cL_law 797 = .ok (.iconst 2, 1) := by decide +kernel
theorem dL_law_798 : decode cL_law 798 = .ok (.iadd, 1) := by decide +kernel
theorem dL_law_799 : decode cL_law 799 = .ok (.iaload, 1) := by decide +kernel
theorem dL_law_800 : decode cL_law 800 = .ok (.invokevirtual 85, 3) := by decide +kernel
theorem dL_law_803 : decode cL_law 803 = .ok (.aload_n 2, 1) := by decide +kernel
theorem dL_law_804 : decode cL_law 804 = .ok (.aload_n 0, 1) := by decide +kernel
theorem dL_law_805 : decode cL_law 805 = .ok (.iload_n 3, 1) := by decide +kernel
theorem dL_law_806 : decode cL_law 806 = .ok (.iconst 1, 1) := by decide +kernel
theorem dL_law_807 : decode cL_law 807 = .ok (.iadd, 1) := by decide +kernel
theorem dL_law_808 : decode cL_law 808 = .ok (.iaload, 1) := by decide +kernel
theorem dL_law_809 : decode cL_law 809 = .ok (.aload_n 0, 1) := by decide +kernel
theorem dL_law_810 : decode cL_law 810 = .ok (.iload_n 3, 1) := by decide +kernel
theorem dL_law_811 : decode cL_law 811 = .ok (.iconst 2, 1) := by decide +kernel
theorem dL_law_812 : decode cL_law 812 = .ok (.iadd, 1) := by decide +kernel
theorem dL_law_813 : decode cL_law 813 = .ok (.iaload, 1) := by decide +kernel
theorem dL_law_814 : decode cL_law 814 = .ok (.invokevirtual 88, 3) := by decide +kernel
theorem dL_law_817 : decode cL_law 817 = .ok (.if_icmp .eq 651, 3) := by decide +kernel
theorem dL_law_820 : decode cL_law 820 = .ok (.iconst 0, 1) := by decide +kernel
theorem dL_law_821 : decode cL_law 821 = .ok (.ireturn, 1) := by decide +kernel
theorem dL_law_822 : decode cL_law 822 = .ok (.aload_n 1, 1) := by decide +kernel
theorem dL_law_823 : decode cL_law 823 = .ok (.aload_n 0, 1) := by decide +kernel
theorem dL_law_824 : decode cL_law 824 = .ok (.iload_n 3, 1) := by decide +kernel
theorem dL_law_825 : decode cL_law 825 = .ok (.iconst 1, 1) := by decide +kernel
theorem dL_law_826 : decode cL_law 826 = .ok (.iadd, 1) := by decide +kernel
theorem dL_law_827 : decode cL_law 827 = .ok (.iaload, 1) := by decide +kernel
theorem dL_law_828 : decode cL_law 828 = .ok (.aload_n 0, 1) := by decide +kernel
theorem dL_law_829 : decode cL_law 829 = .ok (.iload_n 3, 1) := by decide +kernel
theorem dL_law_830 : decode cL_law 830 = .ok (.iconst 2, 1) := by decide +kernel
theorem dL_law_831 : decode cL_law 831 = .ok (.iadd, 1) := by decide +kernel
theorem dL_law_832 : decode cL_law 832 = .ok (.iaload, 1) := by decide +kernel
theorem dL_law_833 : decode cL_law 833 = .ok (.aload_n 0, 1) := by decide +kernel
theorem dL_law_834 : decode cL_law 834 = .ok (.iload_n 3, 1) := by decide +kernel
theorem dL_law_835 : decode cL_law 835 = .ok (.iconst 3, 1) := by decide +kernel
theorem dL_law_836 : decode cL_law 836 = .ok (.iadd, 1) := by decide +kernel
theorem dL_law_837 : decode cL_law 837 = .ok (.iaload, 1) := by decide +kernel
theorem dL_law_838 : decode cL_law 838 = .ok (.invokevirtual 89, 3) := by decide +kernel
theorem dL_law_841 : decode cL_law 841 = .ok (.aload_n 2, 1) := by decide +kernel
theorem dL_law_842 : decode cL_law 842 = .ok (.aload_n 0, 1) := by decide +kernel
theorem dL_law_843 : decode cL_law 843 = .ok (.iload_n 3, 1) := by decide +kernel
theorem dL_law_844 : decode cL_law 844 = .ok (.iconst 1, 1) := by decide +kernel
theorem dL_law_845 : decode cL_law 845 = .ok (.iadd, 1) := by decide +kernel
theorem dL_law_846 : decode cL_law 846 = .ok (.iaload, 1) := by decide +kernel
theorem dL_law_847 : decode cL_law 847 = .ok (.aload_n 0, 1) := by decide +kernel
theorem dL_law_848 : decode cL_law 848 = .ok (.iload_n 3, 1) := by decide +kernel
theorem dL_law_849 : decode cL_law 849 = .ok (.iconst 2, 1) := by decide +kernel
theorem dL_law_850 : decode cL_law 850 = .ok (.iadd, 1) := by decide +kernel
theorem dL_law_851 : decode cL_law 851 = .ok (.iaload, 1) := by decide +kernel
theorem dL_law_852 : decode cL_law 852 = .ok (.aload_n 0, 1) := by decide +kernel
theorem dL_law_853 : decode cL_law 853 = .ok (.iload_n 3, 1) := by decide +kernel
theorem dL_law_854 : decode cL_law 854 = .ok (.iconst 3, 1) := by decide +kernel
theorem dL_law_855 : decode cL_law 855 = .ok (.iadd, 1) := by decide +kernel
theorem dL_law_856 : decode cL_law 856 = .ok (.iaload, 1) := by decide +kernel
theorem dL_law_857 : decode cL_law 857 = .ok (.invokevirtual 92, 3) := by decide +kernel
theorem dL_law_860 : decode cL_law 860 = .ok (.if_icmp .eq 608, 3) := by decide +kernel
theorem dL_law_863 : decode cL_law 863 = .ok (.iconst 0, 1) := by decide +kernel
theorem dL_law_864 : decode cL_law 864 = .ok (.ireturn, 1) := by decide +kernel
theorem dL_law_865 : decode cL_law 865 = .ok (.aload_n 1, 1) := by decide +kernel
theorem dL_law_866 : decode cL_law 866 = .ok (.invokevirtual 93, 3) := by decide +kernel
theorem dL_law_869 : decode cL_law 869 = .ok (.aload_n 2, 1) := by decide +kernel
theorem dL_law_870 : decode cL_law 870 = .ok (.invokevirtual 97, 3) := by decide +kernel
theorem dL_law_873 : decode cL_law 873 = .ok (.if_icmp .eq 595, 3) := by decide +kernel
theorem dL_law_876 : decode cL_law 876 = .ok (.iconst 0, 1) := by decide +kernel
theorem dL_law_877 : decode cL_law 877 = .ok (.ireturn, 1) := by decide +kernel
theorem dL_law_878 : decode cL_law 878 = .ok (.aload_n 1, 1) := by decide +kernel
theorem dL_law_879 : decode cL_law 879 = .ok (.aload_n 0, 1) := by decide +kernel
theorem dL_law_880 : decode cL_law 880 = .ok (.iload_n 3, 1) := by decide +kernel
theorem dL_law_881 : decode cL_law 881 = .ok (.iconst 1, 1) := by decide +kernel
theorem dL_law_882 : decode cL_law 882 = .ok (.iadd, 1) := by decide +kernel
theorem dL_law_883 : decode cL_law 883 = .ok (.iaload, 1) := by decide +kernel
theorem dL_law_884 : decode cL_law 884 = .ok (.invokevirtual 98, 3) := by decide +kernel
theorem dL_law_887 : decode cL_law 887 = .ok (.aload_n 2, 1) := by decide +kernel
theorem dL_law_888 : decode cL_law 888 = .ok (.aload_n 0, 1) := by decide +kernel
theorem dL_law_889 : decode cL_law 889 = .ok (.iload_n 3, 1) := by decide +kernel
theorem dL_law_890 : decode cL_law 890 = .ok (.iconst 1, 1) := by decide +kernel
theorem dL_law_891 : decode cL_law 891 = .ok (.iadd, 1) := by decide +kernel
theorem dL_law_892 : decode cL_law 892 = .ok (.iaload, 1) := by decide +kernel
theorem dL_law_893 : decode cL_law 893 = .ok (.invokevirtual 101, 3) := by decide +kernel
theorem dL_law_896 : decode cL_law 896 = .ok (.if_icmp .eq 572, 3) := by decide +kernel
theorem dL_law_899 : decode cL_law 899 = .ok (.iconst 0, 1) := by decide +kernel
theorem dL_law_900 : decode cL_law 900 = .ok (.ireturn, 1) := by decide +kernel
theorem dL_law_901 : decode cL_law 901 = .ok (.aload_n 1, 1) := by decide +kernel
theorem dL_law_902 : decode cL_law 902 = .ok (.aload_n 0, 1) := by decide +kernel
theorem dL_law_903 : decode cL_law 903 = .ok (.iload_n 3, 1) := by decide +kernel
theorem dL_law_904 : decode cL_law 904 = .ok (.iconst 1, 1) := by decide +kernel
theorem dL_law_905 : decode cL_law 905 = .ok (.iadd, 1) := by decide +kernel
theorem dL_law_906 : decode cL_law 906 = .ok (.iaload, 1) := by decide +kernel
theorem dL_law_907 : decode cL_law 907 = .ok (.aload_n 0, 1) := by decide +kernel
theorem dL_law_908 : decode cL_law 908 = .ok (.iload_n 3, 1) := by decide +kernel
theorem dL_law_909 : decode cL_law 909 = .ok (.iconst 2, 1) := by decide +kernel
theorem dL_law_910 : decode cL_law 910 = .ok (.iadd, 1) := by decide +kernel
theorem dL_law_911 : decode cL_law 911 = .ok (.iaload, 1) := by decide +kernel
theorem dL_law_912 : decode cL_law 912 = .ok (.aload_n 0, 1) := by decide +kernel
theorem dL_law_913 : decode cL_law 913 = .ok (.iload_n 3, 1) := by decide +kernel
theorem dL_law_914 : decode cL_law 914 = .ok (.iconst 3, 1) := by decide +kernel
theorem dL_law_915 : decode cL_law 915 = .ok (.iadd, 1) := by decide +kernel
theorem dL_law_916 : decode cL_law 916 = .ok (.iaload, 1) := by decide +kernel
theorem dL_law_917 : decode cL_law 917 = .ok (.invokevirtual 102, 3) := by decide +kernel
theorem dL_law_920 : decode cL_law 920 = .ok (.aload_n 2, 1) := by decide +kernel
theorem dL_law_921 : decode cL_law 921 = .ok (.aload_n 0, 1) := by decide +kernel
theorem dL_law_922 : decode cL_law 922 = .ok (.iload_n 3, 1) := by decide +kernel
theorem dL_law_923 : decode cL_law 923 = .ok (.iconst 1, 1) := by decide +kernel
theorem dL_law_924 : decode cL_law 924 = .ok (.iadd, 1) := by decide +kernel
theorem dL_law_925 : decode cL_law 925 = .ok (.iaload, 1) := by decide +kernel
theorem dL_law_926 : decode cL_law 926 = .ok (.aload_n 0, 1) := by decide +kernel
theorem dL_law_927 : decode cL_law 927 = .ok (.iload_n 3, 1) := by decide +kernel
theorem dL_law_928 : decode cL_law 928 = .ok (.iconst 2, 1) := by decide +kernel
theorem dL_law_929 : decode cL_law 929 = .ok (.iadd, 1) := by decide +kernel
theorem dL_law_930 : decode cL_law 930 = .ok (.iaload, 1) := by decide +kernel
theorem dL_law_931 : decode cL_law 931 = .ok (.aload_n 0, 1) := by decide +kernel
theorem dL_law_932 : decode cL_law 932 = .ok (.iload_n 3, 1) := by decide +kernel
theorem dL_law_933 : decode cL_law 933 = .ok (.iconst 3, 1) := by decide +kernel
theorem dL_law_934 : decode cL_law 934 = .ok (.iadd, 1) := by decide +kernel
theorem dL_law_935 : decode cL_law 935 = .ok (.iaload, 1) := by decide +kernel
theorem dL_law_936 : decode cL_law 936 = .ok (.invokevirtual 105, 3) := by decide +kernel
theorem dL_law_939 : decode cL_law 939 = .ok (.if_icmp .eq 529, 3) := by decide +kernel
theorem dL_law_942 : decode cL_law 942 = .ok (.iconst 0, 1) := by decide +kernel
theorem dL_law_943 : decode cL_law 943 = .ok (.ireturn, 1) := by decide +kernel
theorem dL_law_944 : decode cL_law 944 = .ok (.aload_n 1, 1) := by decide +kernel
theorem dL_law_945 : decode cL_law 945 = .ok (.aload_n 0, 1) := by decide +kernel
theorem dL_law_946 : decode cL_law 946 = .ok (.iload_n 3, 1) := by decide +kernel
theorem dL_law_947 : decode cL_law 947 = .ok (.iconst 1, 1) := by decide +kernel
theorem dL_law_948 : decode cL_law 948 = .ok (.iadd, 1) := by decide +kernel
theorem dL_law_949 : decode cL_law 949 = .ok (.iaload, 1) := by decide +kernel
theorem dL_law_950 : decode cL_law 950 = .ok (.invokevirtual 106, 3) := by decide +kernel
theorem dL_law_953 : decode cL_law 953 = .ok (.aload_n 2, 1) := by decide +kernel
theorem dL_law_954 : decode cL_law 954 = .ok (.aload_n 0, 1) := by decide +kernel
theorem dL_law_955 : decode cL_law 955 = .ok (.iload_n 3, 1) := by decide +kernel
theorem dL_law_956 : decode cL_law 956 = .ok (.iconst 1, 1) := by decide +kernel
theorem dL_law_957 : decode cL_law 957 = .ok (.iadd, 1) := by decide +kernel
theorem dL_law_958 : decode cL_law 958 = .ok (.iaload, 1) := by decide +kernel
theorem dL_law_959 : decode cL_law 959 = .ok (.invokevirtual 109, 3) := by decide +kernel
theorem dL_law_962 : decode cL_law 962 = .ok (.if_icmp .eq 506, 3) := by decide +kernel
theorem dL_law_965 : decode cL_law 965 = .ok (.iconst 0, 1) := by decide +kernel
theorem dL_law_966 : decode cL_law 966 = .ok (.ireturn, 1) := by decide +kernel
theorem dL_law_967 : decode cL_law 967 = .ok (.aload_n 1, 1) := by decide +kernel
theorem dL_law_968 : decode cL_law 968 = .ok (.invokevirtual 110, 3) := by decide +kernel
theorem dL_law_971 : decode cL_law 971 = .ok (.aload_n 2, 1) := by decide +kernel
theorem dL_law_972 : decode cL_law 972 = .ok (.invokevirtual 113, 3) := by decide +kernel
theorem dL_law_975 : decode cL_law 975 = .ok (.if_icmp .eq 493, 3) := by decide +kernel
theorem dL_law_978 : decode cL_law 978 = .ok (.iconst 0, 1) := by decide +kernel
theorem dL_law_979 : decode cL_law 979 = .ok (.ireturn, 1) := by decide +kernel
theorem dL_law_980 : decode cL_law 980 = .ok (.aload_n 1, 1) := by decide +kernel
theorem dL_law_981 : decode cL_law 981 = .ok (.aload_n 0, 1) := by decide +kernel
theorem dL_law_982 : decode cL_law 982 = .ok (.iload_n 3, 1) := by decide +kernel
theorem dL_law_983 : decode cL_law 983 = .ok (.iconst 1, 1) := by decide +kernel
theorem dL_law_984 : decode cL_law 984 = .ok (.iadd, 1) := by decide +kernel
theorem dL_law_985 : decode cL_law 985 = .ok (.iaload, 1) := by decide +kernel
theorem dL_law_986 : decode cL_law 986 = .ok (.aload_n 0, 1) := by decide +kernel
theorem dL_law_987 : decode cL_law 987 = .ok (.iload_n 3, 1) := by decide +kernel
theorem dL_law_988 : decode cL_law 988 = .ok (.iconst 2, 1) := by decide +kernel
theorem dL_law_989 : decode cL_law 989 = .ok (.iadd, 1) := by decide +kernel
theorem dL_law_990 : decode cL_law 990 = .ok (.iaload, 1) := by decide +kernel
theorem dL_law_991 : decode cL_law 991 = .ok (.invokevirtual 114, 3) := by decide +kernel
theorem dL_law_994 : decode cL_law 994 = .ok (.aload_n 2, 1) := by decide +kernel
theorem dL_law_995 : decode cL_law 995 = .ok (.aload_n 0, 1) := by decide +kernel
theorem dL_law_996 : decode cL_law 996 = .ok (.iload_n 3, 1) := by decide +kernel
theorem dL_law_997 : decode cL_law 997 = .ok (.iconst 1, 1) := by decide +kernel
theorem dL_law_998 : decode cL_law 998 = .ok (.iadd, 1) := by decide +kernel
theorem dL_law_999 : decode cL_law 999 = .ok (.iaload, 1) := by decide +kernel
theorem dL_law_1000 : decode cL_law 1000 = .ok (.aload_n 0, 1) := by decide +kernel
theorem dL_law_1001 : decode cL_law 1001 = .ok (.iload_n 3, 1) := by decide +kernel
theorem dL_law_1002 : decode cL_law 1002 = .ok (.iconst 2, 1) := by decide +kernel
theorem dL_law_1003 : decode cL_law 1003 = .ok (.iadd, 1) := by decide +kernel
theorem dL_law_1004 : decode cL_law 1004 = .ok (.iaload, 1) := by decide +kernel
theorem dL_law_1005 : decode cL_law 1005 = .ok (.invokevirtual 117, 3) := by decide +kernel
theorem dL_law_1008 : decode cL_law 1008 = .ok (.if_icmp .eq 460, 3) := by decide +kernel
theorem dL_law_1011 : decode cL_law 1011 = .ok (.iconst 0, 1) := by decide +kernel
theorem dL_law_1012 : decode cL_law 1012 = .ok (.ireturn, 1) := by decide +kernel
theorem dL_law_1013 : decode cL_law 1013 = .ok (.aload_n 1, 1) := by decide +kernel
theorem dL_law_1014 : decode cL_law 1014 = .ok (.aload_n 0, 1) := by decide +kernel
theorem dL_law_1015 : decode cL_law 1015 = .ok (.iload_n 3, 1) := by decide +kernel
theorem dL_law_1016 : decode cL_law 1016 = .ok (.iconst 1, 1) := by decide +kernel
theorem dL_law_1017 : decode cL_law 1017 = .ok (.iadd, 1) := by decide +kernel
theorem dL_law_1018 : decode cL_law 1018 = .ok (.iaload, 1) := by decide +kernel
theorem dL_law_1019 : decode cL_law 1019 = .ok (.invokevirtual 118, 3) := by decide +kernel
theorem dL_law_1022 : decode cL_law 1022 = .ok (.aload_n 2, 1) := by decide +kernel
theorem dL_law_1023 : decode cL_law 1023 = .ok (.aload_n 0, 1) := by decide +kernel
theorem dL_law_1024 : decode cL_law 1024 = .ok (.iload_n 3, 1) := by decide +kernel
theorem dL_law_1025 : decode cL_law 1025 = .ok (.iconst 1, 1) := by decide +kernel
theorem dL_law_1026 : decode cL_law 1026 = .ok (.iadd, 1) := by decide +kernel
theorem dL_law_1027 : decode cL_law 1027 = .ok (.iaload, 1) := by decide +kernel
theorem dL_law_1028 : decode cL_law 1028 = .ok (.invokevirtual 121, 3) := by decide +kernel
theorem dL_law_1031 : decode cL_law 1031 = .ok (.if_icmp .eq 437, 3) := by decide +kernel
theorem dL_law_1034 : decode cL_law 1034 = .ok (.iconst 0, 1) := by decide +kernel
theorem dL_law_1035 : decode cL_law 1035 = .ok (.ireturn, 1) := by decide +kernel
theorem dL_law_1036 : decode cL_law 1036 = .ok (.aload_n 1, 1) := by decide +kernel
theorem dL_law_1037 : decode cL_law 1037 = .ok (.aload_n 0, 1) := by decide +kernel
theorem dL_law_1038 : decode cL_law 1038 = .ok (.iload_n 3, 1) := by decide +kernel
theorem dL_law_1039 : decode cL_law 1039 = .ok (.iconst 1, 1) := by decide +kernel
theorem dL_law_1040 : decode cL_law 1040 = .ok (.iadd, 1) := by decide +kernel
theorem dL_law_1041 : decode cL_law 1041 = .ok (.iaload, 1) := by decide +kernel
theorem dL_law_1042 : decode cL_law 1042 = .ok (.aload_n 0, 1) := by decide +kernel
theorem dL_law_1043 : decode cL_law 1043 = .ok (.iload_n 3, 1) := by decide +kernel
theorem dL_law_1044 : decode cL_law 1044 = .ok (.iconst 2, 1) := by decide +kernel
theorem dL_law_1045 : decode cL_law 1045 = .ok (.iadd, 1) := by decide +kernel
theorem dL_law_1046 : decode cL_law 1046 = .ok (.iaload, 1) := by decide +kernel
theorem dL_law_1047 : decode cL_law 1047 = .ok (.aload_n 0, 1) := by decide +kernel
theorem dL_law_1048 : decode cL_law 1048 = .ok (.iload_n 3, 1) := by decide +kernel
theorem dL_law_1049 : decode cL_law 1049 = .ok (.iconst 3, 1) := by decide +kernel
theorem dL_law_1050 : decode cL_law 1050 = .ok (.iadd, 1) := by decide +kernel
theorem dL_law_1051 : decode cL_law 1051 = .ok (.iaload, 1) := by decide +kernel
theorem dL_law_1052 : decode cL_law 1052 = .ok (.invokevirtual 122, 3) := by decide +kernel
theorem dL_law_1055 : decode cL_law 1055 = .ok (.aload_n 2, 1) := by decide +kernel
theorem dL_law_1056 : decode cL_law 1056 = .ok (.aload_n 0, 1) := by decide +kernel
theorem dL_law_1057 : decode cL_law 1057 = .ok (.iload_n 3, 1) := by decide +kernel
theorem dL_law_1058 : decode cL_law 1058 = .ok (.iconst 1, 1) := by decide +kernel
theorem dL_law_1059 : decode cL_law 1059 = .ok (.iadd, 1) := by decide +kernel
theorem dL_law_1060 : decode cL_law 1060 = .ok (.iaload, 1) := by decide +kernel
theorem dL_law_1061 : decode cL_law 1061 = .ok (.aload_n 0, 1) := by decide +kernel
theorem dL_law_1062 : decode cL_law 1062 = .ok (.iload_n 3, 1) := by decide +kernel
theorem dL_law_1063 : decode cL_law 1063 = .ok (.iconst 2, 1) := by decide +kernel
theorem dL_law_1064 : decode cL_law 1064 = .ok (.iadd, 1) := by decide +kernel
theorem dL_law_1065 : decode cL_law 1065 = .ok (.iaload, 1) := by decide +kernel
theorem dL_law_1066 : decode cL_law 1066 = .ok (.aload_n 0, 1) := by decide +kernel
theorem dL_law_1067 : decode cL_law 1067 = .ok (.iload_n 3, 1) := by decide +kernel
theorem dL_law_1068 : decode cL_law 1068 = .ok (.iconst 3, 1) := by decide +kernel
theorem dL_law_1069 : decode cL_law 1069 = .ok (.iadd, 1) := by decide +kernel
theorem dL_law_1070 : decode cL_law 1070 = .ok (.iaload, 1) := by decide +kernel
theorem dL_law_1071 : decode cL_law 1071 = .ok (.invokevirtual 125, 3) := by decide +kernel
theorem dL_law_1074 : decode cL_law 1074 = .ok (.if_icmp .eq 394, 3) := by decide +kernel
theorem dL_law_1077 : decode cL_law 1077 = .ok (.iconst 0, 1) := by decide +kernel
theorem dL_law_1078 : decode cL_law 1078 = .ok (.ireturn, 1) := by decide +kernel
theorem dL_law_1079 : decode cL_law 1079 = .ok (.aload_n 1, 1) := by decide +kernel
theorem dL_law_1080 : decode cL_law 1080 = .ok (.aload_n 0, 1) := by decide +kernel
theorem dL_law_1081 : decode cL_law 1081 = .ok (.iload_n 3, 1) := by decide +kernel
theorem dL_law_1082 : decode cL_law 1082 = .ok (.iconst 1, 1) := by decide +kernel
theorem dL_law_1083 : decode cL_law 1083 = .ok (.iadd, 1) := by decide +kernel
theorem dL_law_1084 : decode cL_law 1084 = .ok (.iaload, 1) := by decide +kernel
theorem dL_law_1085 : decode cL_law 1085 = .ok (.aload_n 0, 1) := by decide +kernel
theorem dL_law_1086 : decode cL_law 1086 = .ok (.iload_n 3, 1) := by decide +kernel
theorem dL_law_1087 : decode cL_law 1087 = .ok (.iconst 2, 1) := by decide +kernel
theorem dL_law_1088 : decode cL_law 1088 = .ok (.iadd, 1) := by decide +kernel
theorem dL_law_1089 : decode cL_law 1089 = .ok (.iaload, 1) := by decide +kernel
theorem dL_law_1090 : decode cL_law 1090 = .ok (.aload_n 0, 1) := by decide +kernel
theorem dL_law_1091 : decode cL_law 1091 = .ok (.iload_n 3, 1) := by decide +kernel
theorem dL_law_1092 : decode cL_law 1092 = .ok (.iconst 3, 1) := by decide +kernel
theorem dL_law_1093 : decode cL_law 1093 = .ok (.iadd, 1) := by decide +kernel
theorem dL_law_1094 : decode cL_law 1094 = .ok (.iaload, 1) := by decide +kernel
theorem dL_law_1095 : decode cL_law 1095 = .ok (.invokevirtual 126, 3) := by decide +kernel
theorem dL_law_1098 : decode cL_law 1098 = .ok (.aload_n 2, 1) := by decide +kernel
theorem dL_law_1099 : decode cL_law 1099 = .ok (.aload_n 0, 1) := by decide +kernel
theorem dL_law_1100 : decode cL_law 1100 = .ok (.iload_n 3, 1) := by decide +kernel
theorem dL_law_1101 : decode cL_law 1101 = .ok (.iconst 1, 1) := by decide +kernel
theorem dL_law_1102 : decode cL_law 1102 = .ok (.iadd, 1) := by decide +kernel
theorem dL_law_1103 : decode cL_law 1103 = .ok (.iaload, 1) := by decide +kernel
theorem dL_law_1104 : decode cL_law 1104 = .ok (.aload_n 0, 1) := by decide +kernel
theorem dL_law_1105 : decode cL_law 1105 = .ok (.iload_n 3, 1) := by decide +kernel
theorem dL_law_1106 : decode cL_law 1106 = .ok (.iconst 2, 1) := by decide +kernel
theorem dL_law_1107 : decode cL_law 1107 = .ok (.iadd, 1) := by decide +kernel
theorem dL_law_1108 : decode cL_law 1108 = .ok (.iaload, 1) := by decide +kernel
theorem dL_law_1109 : decode cL_law 1109 = .ok (.aload_n 0, 1) := by decide +kernel
theorem dL_law_1110 : decode cL_law 1110 = .ok (.iload_n 3, 1) := by decide +kernel
theorem dL_law_1111 : decode cL_law 1111 = .ok (.iconst 3, 1) := by decide +kernel
theorem dL_law_1112 : decode cL_law 1112 = .ok (.iadd, 1) := by decide +kernel
theorem dL_law_1113 : decode cL_law 1113 = .ok (.iaload, 1) := by decide +kernel
theorem dL_law_1114 : decode cL_law 1114 = .ok (.invokevirtual 129, 3) := by decide +kernel
theorem dL_law_1117 : decode cL_law 1117 = .ok (.if_icmp .eq 351, 3) := by decide +kernel
theorem dL_law_1120 : decode cL_law 1120 = .ok (.iconst 0, 1) := by decide +kernel
theorem dL_law_1121 : decode cL_law 1121 = .ok (.ireturn, 1) := by decide +kernel
theorem dL_law_1122 : decode cL_law 1122 = .ok (.aload_n 1, 1) := by decide +kernel
theorem dL_law_1123 : decode cL_law 1123 = .ok (.aload_n 0, 1) := by decide +kernel
theorem dL_law_1124 : decode cL_law 1124 = .ok (.iload_n 3, 1) := by decide +kernel
theorem dL_law_1125 : decode cL_law 1125 = .ok (.iconst 1, 1) := by decide +kernel
theorem dL_law_1126 : decode cL_law 1126 = .ok (.iadd, 1) := by decide +kernel
theorem dL_law_1127 : decode cL_law 1127 = .ok (.iaload, 1) := by decide +kernel
theorem dL_law_1128 : decode cL_law 1128 = .ok (.invokevirtual 130, 3) := by decide +kernel
theorem dL_law_1131 : decode cL_law 1131 = .ok (.aload_n 2, 1) := by decide +kernel
theorem dL_law_1132 : decode cL_law 1132 = .ok (.aload_n 0, 1) := by decide +kernel
theorem dL_law_1133 : decode cL_law 1133 = .ok (.iload_n 3, 1) := by decide +kernel
theorem dL_law_1134 : decode cL_law 1134 = .ok (.iconst 1, 1) := by decide +kernel
theorem dL_law_1135 : decode cL_law 1135 = .ok (.iadd, 1) := by decide +kernel
theorem dL_law_1136 : decode cL_law 1136 = .ok (.iaload, 1) := by decide +kernel
theorem dL_law_1137 : decode cL_law 1137 = .ok (.invokevirtual 133, 3) := by decide +kernel
theorem dL_law_1140 : decode cL_law 1140 = .ok (.if_icmp .eq 328, 3) := by decide +kernel
theorem dL_law_1143 : decode cL_law 1143 = .ok (.iconst 0, 1) := by decide +kernel
theorem dL_law_1144 : decode cL_law 1144 = .ok (.ireturn, 1) := by decide +kernel
theorem dL_law_1145 : decode cL_law 1145 = .ok (.aload_n 1, 1) := by decide +kernel
theorem dL_law_1146 : decode cL_law 1146 = .ok (.aload_n 0, 1) := by decide +kernel
theorem dL_law_1147 : decode cL_law 1147 = .ok (.iload_n 3, 1) := by decide +kernel
theorem dL_law_1148 : decode cL_law 1148 = .ok (.iconst 1, 1) := by decide +kernel
theorem dL_law_1149 : decode cL_law 1149 = .ok (.iadd, 1) := by decide +kernel
theorem dL_law_1150 : decode cL_law 1150 = .ok (.iaload, 1) := by decide +kernel
theorem dL_law_1151 : decode cL_law 1151 = .ok (.invokevirtual 134, 3) := by decide +kernel
theorem dL_law_1154 : decode cL_law 1154 = .ok (.aload_n 2, 1) := by decide +kernel
theorem dL_law_1155 : decode cL_law 1155 = .ok (.aload_n 0, 1) := by decide +kernel
theorem dL_law_1156 : decode cL_law 1156 = .ok (.iload_n 3, 1) := by decide +kernel
theorem dL_law_1157 : decode cL_law 1157 = .ok (.iconst 1, 1) := by decide +kernel
theorem dL_law_1158 : decode cL_law 1158 = .ok (.iadd, 1) := by decide +kernel
theorem dL_law_1159 : decode cL_law 1159 = .ok (.iaload, 1) := by decide +kernel
theorem dL_law_1160 : decode cL_law 1160 = .ok (.invokevirtual 137, 3) := by decide +kernel
theorem dL_law_1163 : decode cL_law 1163 = .ok (.if_icmp .eq 305, 3) := by decide +kernel
theorem dL_law_1166 : decode cL_law 1166 = .ok (.iconst 0, 1) := by decide +kernel
theorem dL_law_1167 : decode cL_law 1167 = .ok (.ireturn, 1) := by decide +kernel
theorem dL_law_1168 : decode cL_law 1168 = .ok (.aload_n 1, 1) := by decide +kernel
theorem dL_law_1169 : decode cL_law 1169 = .ok (.aload_n 0, 1) := by decide +kernel
theorem dL_law_1170 : decode cL_law 1170 = .ok (.iload_n 3, 1) := by decide +kernel
theorem dL_law_1171 : decode cL_law 1171 = .ok (.iconst 1, 1) := by decide +kernel
theorem dL_law_1172 : decode cL_law 1172 = .ok (.iadd, 1) := by decide +kernel
theorem dL_law_1173 : decode cL_law 1173 = .ok (.iaload, 1) := by decide +kernel
theorem dL_law_1174 : decode cL_law 1174 = .ok (.aload_n 0, 1) := by decide +kernel
theorem dL_law_1175 : decode cL_law 1175 = .ok (.iload_n 3, 1) := by decide +kernel
theorem dL_law_1176 : decode cL_law 1176 = .ok (.iconst 2, 1) := by decide +kernel
theorem dL_law_1177 : decode cL_law 1177 = .ok (.iadd, 1) := by decide +kernel
theorem dL_law_1178 : decode cL_law 1178 = .ok (.iaload, 1) := by decide +kernel
theorem dL_law_1179 : decode cL_law 1179 = .ok (.aload_n 0, 1) := by decide +kernel
theorem dL_law_1180 : decode cL_law 1180 = .ok (.iload_n 3, 1) := by decide +kernel
theorem dL_law_1181 : decode cL_law 1181 = .ok (.iconst 3, 1) := by decide +kernel
theorem dL_law_1182 : decode cL_law 1182 = .ok (.iadd, 1) := by decide +kernel
theorem dL_law_1183 : decode cL_law 1183 = .ok (.iaload, 1) := by decide +kernel
theorem dL_law_1184 : decode cL_law 1184 = .ok (.aload_n 0, 1) := by decide +kernel
theorem dL_law_1185 : decode cL_law 1185 = .ok (.iload_n 3, 1) := by decide +kernel
theorem dL_law_1186 : decode cL_law 1186 = .ok (.iconst 4, 1) := by decide +kernel
theorem dL_law_1187 : decode cL_law 1187 = .ok (.iadd, 1) := by decide +kernel
theorem dL_law_1188 : decode cL_law 1188 = .ok (.iaload, 1) := by decide +kernel
theorem dL_law_1189 : decode cL_law 1189 = .ok (.aload_n 0, 1) := by decide +kernel
theorem dL_law_1190 : decode cL_law 1190 = .ok (.iload_n 3, 1) := by decide +kernel
theorem dL_law_1191 : decode cL_law 1191 = .ok (.iconst 5, 1) := by decide +kernel
theorem dL_law_1192 : decode cL_law 1192 = .ok (.iadd, 1) := by decide +kernel
theorem dL_law_1193 : decode cL_law 1193 = .ok (.iaload, 1) := by decide +kernel
theorem dL_law_1194 : decode cL_law 1194 = .ok (.invokevirtual 138, 3) := by decide +kernel
theorem dL_law_1197 : decode cL_law 1197 = .ok (.aload_n 2, 1) := by decide +kernel
theorem dL_law_1198 : decode cL_law 1198 = .ok (.aload_n 0, 1) := by decide +kernel
theorem dL_law_1199 : decode cL_law 1199 = .ok (.iload_n 3, 1) := by decide +kernel
theorem dL_law_1200 : decode cL_law 1200 = .ok (.iconst 1, 1) := by decide +kernel
theorem dL_law_1201 : decode cL_law 1201 = .ok (.iadd, 1) := by decide +kernel
theorem dL_law_1202 : decode cL_law 1202 = .ok (.iaload, 1) := by decide +kernel
theorem dL_law_1203 : decode cL_law 1203 = .ok (.aload_n 0, 1) := by decide +kernel
theorem dL_law_1204 : decode cL_law 1204 = .ok (.iload_n 3, 1) := by decide +kernel
theorem dL_law_1205 : decode cL_law 1205 = .ok (.iconst 2, 1) := by decide +kernel
theorem dL_law_1206 : decode cL_law 1206 = .ok (.iadd, 1) := by decide +kernel
theorem dL_law_1207 : decode cL_law 1207 = .ok (.iaload, 1) := by decide +kernel
theorem dL_law_1208 : decode cL_law 1208 = .ok (.aload_n 0, 1) := by decide +kernel
theorem dL_law_1209 : decode cL_law 1209 = .ok (.iload_n 3, 1) := by decide +kernel
theorem dL_law_1210 : decode cL_law 1210 = .ok (.iconst 3, 1) := by decide +kernel
theorem dL_law_1211 : decode cL_law 1211 = .ok (.iadd, 1) := by decide +kernel
theorem dL_law_1212 : decode cL_law 1212 = .ok (.iaload, 1) := by decide +kernel
theorem dL_law_1213 : decode cL_law 1213 = .ok (.aload_n 0, 1) := by decide +kernel
theorem dL_law_1214 : decode cL_law 1214 = .ok (.iload_n 3, 1) := by decide +kernel
theorem dL_law_1215 : decode cL_law 1215 = .ok (.iconst 4, 1) := by decide +kernel
theorem dL_law_1216 : decode cL_law 1216 = .ok (.iadd, 1) := by decide +kernel
theorem dL_law_1217 : decode cL_law 1217 = .ok (.iaload, 1) := by decide +kernel
theorem dL_law_1218 : decode cL_law 1218 = .ok (.aload_n 0, 1) := by decide +kernel
theorem dL_law_1219 : decode cL_law 1219 = .ok (.iload_n 3, 1) := by decide +kernel
theorem dL_law_1220 : decode cL_law 1220 = .ok (.iconst 5, 1) := by decide +kernel
theorem dL_law_1221 : decode cL_law 1221 = .ok (.iadd, 1) := by decide +kernel
theorem dL_law_1222 : decode cL_law 1222 = .ok (.iaload, 1) := by decide +kernel
theorem dL_law_1223 : decode cL_law 1223 = .ok (.invokevirtual 142, 3) := by decide +kernel
theorem dL_law_1226 : decode cL_law 1226 = .ok (.if_icmp .eq 242, 3) := by decide +kernel
theorem dL_law_1229 : decode cL_law 1229 = .ok (.iconst 0, 1) := by decide +kernel
theorem dL_law_1230 : decode cL_law 1230 = .ok (.ireturn, 1) := by decide +kernel
theorem dL_law_1231 : decode cL_law 1231 = .ok (.aload_n 1, 1) := by decide +kernel
theorem dL_law_1232 : decode cL_law 1232 = .ok (.aload_n 0, 1) := by decide +kernel
theorem dL_law_1233 : decode cL_law 1233 = .ok (.iload_n 3, 1) := by decide +kernel
theorem dL_law_1234 : decode cL_law 1234 = .ok (.iconst 1, 1) := by decide +kernel
theorem dL_law_1235 : decode cL_law 1235 = .ok (.iadd, 1) := by decide +kernel
theorem dL_law_1236 : decode cL_law 1236 = .ok (.iaload, 1) := by decide +kernel
theorem dL_law_1237 : decode cL_law 1237 = .ok (.aload_n 0, 1) := by decide +kernel
theorem dL_law_1238 : decode cL_law 1238 = .ok (.iload_n 3, 1) := by decide +kernel
theorem dL_law_1239 : decode cL_law 1239 = .ok (.iconst 2, 1) := by decide +kernel
theorem dL_law_1240 : decode cL_law 1240 = .ok (.iadd, 1) := by decide +kernel
theorem dL_law_1241 : decode cL_law 1241 = .ok (.iaload, 1) := by decide +kernel
theorem dL_law_1242 : decode cL_law 1242 = .ok (.aload_n 0, 1) := by decide +kernel
theorem dL_law_1243 : decode cL_law 1243 = .ok (.iload_n 3, 1) := by decide +kernel
theorem dL_law_1244 : decode cL_law 1244 = .ok (.iconst 3, 1) := by decide +kernel
theorem dL_law_1245 : decode cL_law 1245 = .ok (.iadd, 1) := by decide +kernel
theorem dL_law_1246 : decode cL_law 1246 = .ok (.iaload, 1) := by decide +kernel
theorem dL_law_1247 : decode cL_law 1247 = .ok (.invokevirtual 143, 3) := by decide +kernel
theorem dL_law_1250 : decode cL_law 1250 = .ok (.aload_n 2, 1) := by decide +kernel
theorem dL_law_1251 : decode cL_law 1251 = .ok (.aload_n 0, 1) := by decide +kernel
theorem dL_law_1252 : decode cL_law 1252 = .ok (.iload_n 3, 1) := by decide +kernel
theorem dL_law_1253 : decode cL_law 1253 = .ok (.iconst 1, 1) := by decide +kernel
theorem dL_law_1254 : decode cL_law 1254 = .ok (.iadd, 1) := by decide +kernel
theorem dL_law_1255 : decode cL_law 1255 = .ok (.iaload, 1) := by decide +kernel
theorem dL_law_1256 : decode cL_law 1256 = .ok (.aload_n 0, 1) := by decide +kernel
theorem dL_law_1257 : decode cL_law 1257 = .ok (.iload_n 3, 1) := by decide +kernel
theorem dL_law_1258 : decode cL_law 1258 = .ok (.iconst 2, 1) := by decide +kernel
theorem dL_law_1259 : decode cL_law 1259 = .ok (.iadd, 1) := by decide +kernel
theorem dL_law_1260 : decode cL_law 1260 = .ok (.iaload, 1) := by decide +kernel
theorem dL_law_1261 : decode cL_law 1261 = .ok (.aload_n 0, 1) := by decide +kernel
theorem dL_law_1262 : decode cL_law 1262 = .ok (.iload_n 3, 1) := by decide +kernel
theorem dL_law_1263 : decode cL_law 1263 = .ok (.iconst 3, 1) := by decide +kernel
theorem dL_law_1264 : decode cL_law 1264 = .ok (.iadd, 1) := by decide +kernel
theorem dL_law_1265 : decode cL_law 1265 = .ok (.iaload, 1) := by decide +kernel
theorem dL_law_1266 : decode cL_law 1266 = .ok (.invokevirtual 146, 3) := by decide +kernel
theorem dL_law_1269 : decode cL_law 1269 = .ok (.if_icmp .eq 199, 3) := by decide +kernel
theorem dL_law_1272 : decode cL_law 1272 = .ok (.iconst 0, 1) := by decide +kernel
theorem dL_law_1273 : decode cL_law 1273 = .ok (.ireturn, 1) := by decide +kernel
theorem dL_law_1274 : decode cL_law 1274 = .ok (.aload_n 1, 1) := by decide +kernel
theorem dL_law_1275 : decode cL_law 1275 = .ok (.aload_n 0, 1) := by decide +kernel
theorem dL_law_1276 : decode cL_law 1276 = .ok (.iload_n 3, 1) := by decide +kernel
theorem dL_law_1277 : decode cL_law 1277 = .ok (.iconst 1, 1) := by decide +kernel
theorem dL_law_1278 : decode cL_law 1278 = .ok (.iadd, 1) := by decide +kernel
theorem dL_law_1279 : decode cL_law 1279 = .ok (.iaload, 1) := by decide +kernel
theorem dL_law_1280 : decode cL_law 1280 = .ok (.aload_n 0, 1) := by decide +kernel
theorem dL_law_1281 : decode cL_law 1281 = .ok (.iload_n 3, 1) := by decide +kernel
theorem dL_law_1282 : decode cL_law 1282 = .ok (.iconst 2, 1) := by decide +kernel
theorem dL_law_1283 : decode cL_law 1283 = .ok (.iadd, 1) := by decide +kernel
theorem dL_law_1284 : decode cL_law 1284 = .ok (.iaload, 1) := by decide +kernel
theorem dL_law_1285 : decode cL_law 1285 = .ok (.invokevirtual 147, 3) := by decide +kernel
theorem dL_law_1288 : decode cL_law 1288 = .ok (.aload_n 2, 1) := by decide +kernel
theorem dL_law_1289 : decode cL_law 1289 = .ok (.aload_n 0, 1) := by decide +kernel
theorem dL_law_1290 : decode cL_law 1290 = .ok (.iload_n 3, 1) := by decide +kernel
theorem dL_law_1291 : decode cL_law 1291 = .ok (.iconst 1, 1) := by decide +kernel
theorem dL_law_1292 : decode cL_law 1292 = .ok (.iadd, 1) := by decide +kernel
theorem dL_law_1293 : decode cL_law 1293 = .ok (.iaload, 1) := by decide +kernel
theorem dL_law_1294 : decode cL_law 1294 = .ok (.aload_n 0, 1) := by decide +kernel
theorem dL_law_1295 : decode cL_law 1295 = .ok (.iload_n 3, 1) := by decide +kernel
theorem dL_law_1296 : decode cL_law 1296 = .ok (.iconst 2, 1) := by decide +kernel
theorem dL_law_1297 : decode cL_law 1297 = .ok (.iadd, 1) := by decide +kernel
theorem dL_law_1298 : decode cL_law 1298 = .ok (.iaload, 1) := by decide +kernel
theorem dL_law_1299 : decode cL_law 1299 = .ok (.invokevirtual 150, 3) := by decide +kernel
theorem dL_law_1302 : decode cL_law 1302 = .ok (.if_icmp .eq 166, 3) := by decide +kernel
theorem dL_law_1305 : decode cL_law 1305 = .ok (.iconst 0, 1) := by decide +kernel
theorem dL_law_1306 : decode cL_law 1306 = .ok (.ireturn, 1) := by decide +kernel
theorem dL_law_1307 : decode cL_law 1307 = .ok (.aload_n 1, 1) := by decide +kernel
theorem dL_law_1308 : decode cL_law 1308 = .ok (.aload_n 0, 1) := by decide +kernel
theorem dL_law_1309 : decode cL_law 1309 = .ok (.iload_n 3, 1) := by decide +kernel
theorem dL_law_1310 : decode cL_law 1310 = .ok (.iconst 1, 1) := by decide +kernel
theorem dL_law_1311 : decode cL_law 1311 = .ok (.iadd, 1) := by decide +kernel
theorem dL_law_1312 : decode cL_law 1312 = .ok (.iaload, 1) := by decide +kernel
theorem dL_law_1313 : decode cL_law 1313 = .ok (.aload_n 0, 1) := by decide +kernel
theorem dL_law_1314 : decode cL_law 1314 = .ok (.iload_n 3, 1) := by decide +kernel
theorem dL_law_1315 : decode cL_law 1315 = .ok (.iconst 2, 1) := by decide +kernel
theorem dL_law_1316 : decode cL_law 1316 = .ok (.iadd, 1) := by decide +kernel
theorem dL_law_1317 : decode cL_law 1317 = .ok (.iaload, 1) := by decide +kernel
theorem dL_law_1318 : decode cL_law 1318 = .ok (.invokevirtual 151, 3) := by decide +kernel
theorem dL_law_1321 : decode cL_law 1321 = .ok (.aload_n 2, 1) := by decide +kernel
theorem dL_law_1322 : decode cL_law 1322 = .ok (.aload_n 0, 1) := by decide +kernel
theorem dL_law_1323 : decode cL_law 1323 = .ok (.iload_n 3, 1) := by decide +kernel
theorem dL_law_1324 : decode cL_law 1324 = .ok (.iconst 1, 1) := by decide +kernel
theorem dL_law_1325 : decode cL_law 1325 = .ok (.iadd, 1) := by decide +kernel
theorem dL_law_1326 : decode cL_law 1326 = .ok (.iaload, 1) := by decide +kernel
theorem dL_law_1327 : decode cL_law 1327 = .ok (.aload_n 0, 1) := by decide +kernel
theorem dL_law_1328 : decode cL_law 1328 = .ok (.iload_n 3, 1) := by decide +kernel
theorem dL_law_1329 : decode cL_law 1329 = .ok (.iconst 2, 1) := by decide +kernel
theorem dL_law_1330 : decode cL_law 1330 = .ok (.iadd, 1) := by decide +kernel
theorem dL_law_1331 : decode cL_law 1331 = .ok (.iaload, 1) := by decide +kernel
theorem dL_law_1332 : decode cL_law 1332 = .ok (.invokevirtual 154, 3) := by decide +kernel
theorem dL_law_1335 : decode cL_law 1335 = .ok (.if_icmp .eq 133, 3) := by decide +kernel
theorem dL_law_1338 : decode cL_law 1338 = .ok (.iconst 0, 1) := by decide +kernel
theorem dL_law_1339 : decode cL_law 1339 = .ok (.ireturn, 1) := by decide +kernel
theorem dL_law_1340 : decode cL_law 1340 = .ok (.aload_n 1, 1) := by decide +kernel
theorem dL_law_1341 : decode cL_law 1341 = .ok (.aload_n 0, 1) := by decide +kernel
theorem dL_law_1342 : decode cL_law 1342 = .ok (.iload_n 3, 1) := by decide +kernel
theorem dL_law_1343 : decode cL_law 1343 = .ok (.iconst 1, 1) := by decide +kernel
theorem dL_law_1344 : decode cL_law 1344 = .ok (.iadd, 1) := by decide +kernel
theorem dL_law_1345 : decode cL_law 1345 = .ok (.iaload, 1) := by decide +kernel
theorem dL_law_1346 : decode cL_law 1346 = .ok (.aload_n 0, 1) := by decide +kernel
theorem dL_law_1347 : decode cL_law 1347 = .ok (.iload_n 3, 1) := by decide +kernel
theorem dL_law_1348 : decode cL_law 1348 = .ok (.iconst 2, 1) := by decide +kernel
theorem dL_law_1349 : decode cL_law 1349 = .ok (.iadd, 1) := by decide +kernel
theorem dL_law_1350 : decode cL_law 1350 = .ok (.iaload, 1) := by decide +kernel
theorem dL_law_1351 : decode cL_law 1351 = .ok (.invokevirtual 155, 3) := by decide +kernel
theorem dL_law_1354 : decode cL_law 1354 = .ok (.aload_n 2, 1) := by decide +kernel
theorem dL_law_1355 : decode cL_law 1355 = .ok (.aload_n 0, 1) := by decide +kernel
theorem dL_law_1356 : decode cL_law 1356 = .ok (.iload_n 3, 1) := by decide +kernel
theorem dL_law_1357 : decode cL_law 1357 = .ok (.iconst 1, 1) := by decide +kernel
theorem dL_law_1358 : decode cL_law 1358 = .ok (.iadd, 1) := by decide +kernel
theorem dL_law_1359 : decode cL_law 1359 = .ok (.iaload, 1) := by decide +kernel
theorem dL_law_1360 : decode cL_law 1360 = .ok (.aload_n 0, 1) := by decide +kernel
theorem dL_law_1361 : decode cL_law 1361 = .ok (.iload_n 3, 1) := by decide +kernel
theorem dL_law_1362 : decode cL_law 1362 = .ok (.iconst 2, 1) := by decide +kernel
theorem dL_law_1363 : decode cL_law 1363 = .ok (.iadd, 1) := by decide +kernel
theorem dL_law_1364 : decode cL_law 1364 = .ok (.iaload, 1) := by decide +kernel
theorem dL_law_1365 : decode cL_law 1365 = .ok (.invokevirtual 158, 3) := by decide +kernel
theorem dL_law_1368 : decode cL_law 1368 = .ok (.if_icmp .eq 100, 3) := by decide +kernel
theorem dL_law_1371 : decode cL_law 1371 = .ok (.iconst 0, 1) := by decide +kernel
theorem dL_law_1372 : decode cL_law 1372 = .ok (.ireturn, 1) := by decide +kernel
theorem dL_law_1373 : decode cL_law 1373 = .ok (.aload_n 1, 1) := by decide +kernel
theorem dL_law_1374 : decode cL_law 1374 = .ok (.aload_n 0, 1) := by decide +kernel
theorem dL_law_1375 : decode cL_law 1375 = .ok (.iload_n 3, 1) := by decide +kernel
theorem dL_law_1376 : decode cL_law 1376 = .ok (.iconst 1, 1) := by decide +kernel
theorem dL_law_1377 : decode cL_law 1377 = .ok (.iadd, 1) := by decide +kernel
theorem dL_law_1378 : decode cL_law 1378 = .ok (.iaload, 1) := by decide +kernel
theorem dL_law_1379 : decode cL_law 1379 = .ok (.invokevirtual 159, 3) := by decide +kernel
theorem dL_law_1382 : decode cL_law 1382 = .ok (.aload_n 2, 1) := by decide +kernel
theorem dL_law_1383 : decode cL_law 1383 = .ok (.aload_n 0, 1) := by decide +kernel
theorem dL_law_1384 : decode cL_law 1384 = .ok (.iload_n 3, 1) := by decide +kernel
theorem dL_law_1385 : decode cL_law 1385 = .ok (.iconst 1, 1) := by decide +kernel
theorem dL_law_1386 : decode cL_law 1386 = .ok (.iadd, 1) := by decide +kernel
theorem dL_law_1387 : decode cL_law 1387 = .ok (.iaload, 1) := by decide +kernel
theorem dL_law_1388 : decode cL_law 1388 = .ok (.invokevirtual 162, 3) := by decide +kernel
theorem dL_law_1391 : decode cL_law 1391 = .ok (.if_icmp .eq 77, 3) := by decide +kernel
theorem dL_law_1394 : decode cL_law 1394 = .ok (.iconst 0, 1) := by decide +kernel
theorem dL_law_1395 : decode cL_law 1395 = .ok (.ireturn, 1) := by decide +kernel
theorem dL_law_1396 : decode cL_law 1396 = .ok (.aload_n 1, 1) := by decide +kernel
theorem dL_law_1397 : decode cL_law 1397 = .ok (.aload_n 0, 1) := by decide +kernel
theorem dL_law_1398 : decode cL_law 1398 = .ok (.iload_n 3, 1) := by decide +kernel
theorem dL_law_1399 : decode cL_law 1399 = .ok (.iconst 1, 1) := by decide +kernel
theorem dL_law_1400 : decode cL_law 1400 = .ok (.iadd, 1) := by decide +kernel
theorem dL_law_1401 : decode cL_law 1401 = .ok (.iaload, 1) := by decide +kernel
theorem dL_law_1402 : decode cL_law 1402 = .ok (.invokevirtual 163, 3) := by decide +kernel
theorem dL_law_1405 : decode cL_law 1405 = .ok (.aload_n 2, 1) := by decide +kernel
theorem dL_law_1406 : decode cL_law 1406 = .ok (.aload_n 0, 1) := by decide +kernel
theorem dL_law_1407 : decode cL_law 1407 = .ok (.iload_n 3, 1) := by decide +kernel
theorem dL_law_1408 : decode cL_law 1408 = .ok (.iconst 1, 1) := by decide +kernel
theorem dL_law_1409 : decode cL_law 1409 = .ok (.iadd, 1) := by decide +kernel
theorem dL_law_1410 : decode cL_law 1410 = .ok (.iaload, 1) := by decide +kernel
theorem dL_law_1411 : decode cL_law 1411 = .ok (.invokevirtual 166, 3) := by decide +kernel
theorem dL_law_1414 : decode cL_law 1414 = .ok (.if_icmp .eq 54, 3) := by decide +kernel
theorem dL_law_1417 : decode cL_law 1417 = .ok (.iconst 0, 1) := by decide +kernel
theorem dL_law_1418 : decode cL_law 1418 = .ok (.ireturn, 1) := by decide +kernel
theorem dL_law_1419 : decode cL_law 1419 = .ok (.aload_n 1, 1) := by decide +kernel
theorem dL_law_1420 : decode cL_law 1420 = .ok (.invokevirtual 167, 3) := by decide +kernel
theorem dL_law_1423 : decode cL_law 1423 = .ok (.aload_n 2, 1) := by decide +kernel
theorem dL_law_1424 : decode cL_law 1424 = .ok (.invokevirtual 170, 3) := by decide +kernel
theorem dL_law_1427 : decode cL_law 1427 = .ok (.if_icmp .eq 41, 3) := by decide +kernel
theorem dL_law_1430 : decode cL_law 1430 = .ok (.iconst 0, 1) := by decide +kernel
theorem dL_law_1431 : decode cL_law 1431 = .ok (.ireturn, 1) := by decide +kernel
theorem dL_law_1432 : decode cL_law 1432 = .ok (.aload_n 1, 1) := by decide +kernel
theorem dL_law_1433 : decode cL_law 1433 = .ok (.invokevirtual 171, 3) := by decide +kernel
theorem dL_law_1436 : decode cL_law 1436 = .ok (.aload_n 2, 1) := by decide +kernel
theorem dL_law_1437 : decode cL_law 1437 = .ok (.invokevirtual 174, 3) := by decide +kernel
theorem dL_law_1440 : decode cL_law 1440 = .ok (.if_icmp .eq 28, 3) := by decide +kernel
theorem dL_law_1443 : decode cL_law 1443 = .ok (.iconst 0, 1) := by decide +kernel
theorem dL_law_1444 : decode cL_law 1444 = .ok (.ireturn, 1) := by decide +kernel
theorem dL_law_1445 : decode cL_law 1445 = .ok (.aload_n 1, 1) := by decide +kernel
theorem dL_law_1446 : decode cL_law 1446 = .ok (.aload_n 0, 1) := by decide +kernel
theorem dL_law_1447 : decode cL_law 1447 = .ok (.iload_n 3, 1) := by decide +kernel
theorem dL_law_1448 : decode cL_law 1448 = .ok (.iconst 1, 1) := by decide +kernel
theorem dL_law_1449 : decode cL_law 1449 = .ok (.iadd, 1) := by decide +kernel
theorem dL_law_1450 : decode cL_law 1450 = .ok (.iaload, 1) := by decide +kernel
theorem dL_law_1451 : decode cL_law 1451 = .ok (.invokevirtual 175, 3) := by decide +kernel
theorem dL_law_1454 : decode cL_law 1454 = .ok (.aload_n 2, 1) := by decide +kernel
theorem dL_law_1455 : decode cL_law 1455 = .ok (.aload_n 0, 1) := by decide +kernel
theorem dL_law_1456 : decode cL_law 1456 = .ok (.iload_n 3, 1) := by decide +kernel
theorem dL_law_1457 : decode cL_law 1457 = .ok (.iconst 1, 1) := by decide +kernel
theorem dL_law_1458 : decode cL_law 1458 = .ok (.iadd, 1) := by decide +kernel
theorem dL_law_1459 : decode cL_law 1459 = .ok (.iaload, 1) := by decide +kernel
theorem dL_law_1460 : decode cL_law 1460 = .ok (.invokevirtual 178, 3) := by decide +kernel
theorem dL_law_1463 : decode cL_law 1463 = .ok (.if_icmp .eq 5, 3) := by decide +kernel
theorem dL_law_1466 : decode cL_law 1466 = .ok (.iconst 0, 1) := by decide +kernel
theorem dL_law_1467 : decode cL_law 1467 = .ok (.ireturn, 1) := by decide +kernel
theorem dL_law_1468 : decode cL_law 1468 = .ok (.iinc 3 6, 3) := by decide +kernel
theorem dL_law_1471 : decode cL_law 1471 = .ok (.goto (-1453), 3) := by decide +kernel
theorem dL_law_1474 : decode cL_law 1474 = .ok (.iconst 1, 1) := by decide +kernel
theorem dL_law_1475 : decode cL_law 1475 = .ok (.ireturn, 1) := by decide +kernel
end
section
def lw_g : List Cond := lw_tbl.filter goodWord
theorem lw_in {w : Cond} (h : w ∈ lw_tbl) (hg : goodWord w = true) : w ∈ lw_g := List.mem_filter.mpr ⟨h, hg⟩
def nestL : List (String × Nat × MethodName × String) := [("BeggarCorners", 9, ⟨"BeggarCorners$Street", "<init>", "()V"⟩, "BeggarCorners"), ("BeggarCorners", 28, ⟨"BeggarCorners$Tape", "<init>", "()V"⟩, "BeggarCorners"), ("BeggarCorners", 50, ⟨"BeggarCorners$Alms", "<init>", "()V"⟩, "BeggarCorners"), ("BeggarCorners", 75, ⟨"BeggarCorners$Sheet", "<init>", "()V"⟩, "BeggarCorners"), ("BeggarCorners", 76, ⟨"BeggarCorners$Slot", "<init>", "()V"⟩, "BeggarCorners"), ("BeggarCorners$Slot", 26, ⟨"BeggarCorners$Sheet", "<init>", "()V"⟩, "BeggarCorners"), ("BeggarCorners$Alms", 31, ⟨"BeggarCorners", "held", "(III)I"⟩, "BeggarCorners"), ("BeggarCorners$Kinds", 13, ⟨"BeggarCorners", "within", "(III)Z"⟩, "BeggarCorners"), ("BeggarCorners$Street", 96, ⟨"BeggarCorners", "isCorner", "(I)Z"⟩, "BeggarCorners"), ("BeggarCorners$Sheet", 34, ⟨"BeggarCorners", "within", "(III)Z"⟩, "BeggarCorners")]
/-! ===== THE PICTURE: all that the law makes lies from one base on, by the order of making; ints in one table, references in another ===== -/
/-- launch; classes and slots; array classes; base; what lies elsewhere; the script's length, the script; a formatter that nobody uses -/
abbrev GX : Type := Launch × va_G × (Nat → ClassId) × Nat × (Nat → Nat) × Nat × (Nat → Int32) × Value
abbrev gD (G : GX) : va_G := G.2.1
abbrev gCy (G : GX) : Nat → ClassId := G.2.2.1
abbrev gB (G : GX) : Nat := G.2.2.2.1
abbrev gXt (G : GX) : Nat → Nat := G.2.2.2.2.1
abbrev gN (G : GX) : Nat := G.2.2.2.2.2.1
abbrev gXs (G : GX) : Nat → Int32 := G.2.2.2.2.2.2.1
abbrev gFm (G : GX) : Value := G.2.2.2.2.2.2.2
/-- how many there are; the kind of each (a class, or an array's sort) and an array's length; the references -/
abbrev Shp : Type := Nat × (Nat → Nat × Nat) × (Nat → Nat → Option Nat)
abbrev Mem : Type := Nat → Nat → Int32
def gF (G : GX) : Nat → Prop := fun q => gB G ≤ q
def gA (G : GX) (i : Nat) : Nat := if i < 1000000 then gB G + i else gXt G (i - 1000000)
def em (G : GX) (v : Value) : Value := match v with
  | .ref i => .ref (gA G i)
  | w => w
theorem em_cat (G : GX) (v : Value) : (em G v).category = v.category := by cases v <;> rfl
theorem em_sum (G : GX) (st : List Value) : ((st.map (em G)).map fun v => v.category).sum = (st.map fun v => v.category).sum := by
  rw [List.map_map]
  congr 1
  apply List.map_congr_left
  intro v _
  exact em_cat G v
def nFl : Nat → Nat
  | 0 => 2
  | 1 => 9
  | 2 => 3
  | 3 => 5
  | 4 => 14
  | 5 => 2
  | 6 => 4
  | 7 => 12
  | _ => 33
def rfL : Nat → List Bool
  | 0 => [true, true]
  | 1 => [true, false, false, false, false, false, true, false, false]
  | 2 => [false, false, true]
  | 3 => [false, false, false, false, true]
  | 4 => [true, true, true, true, true, true, false, false, false, false, false, false, false, false]
  | 5 => [true, false]
  | 6 => [false, false, true, true]
  | 7 => [true, true, true, false, true, true, true, true, true, true, true, false]
  | _ => [true, true, true, false, true, true, false, false, false, false, false, false, false, true, true, true, false, false, true, false, true, true, true, true, true, true, true, true, true, true, true, true, false]
def rfF (k j : Nat) : Bool := (rfL k).getD j false
def fldO (G : GX) (c : Nat) (P : Nat → Option Nat) (f : Nat → Int32) (j : Nat) : Value := if rfF c j = true then va_rf ((P j).map (gA G)) else .int (f j)
def cellO (G : GX) (q : Nat × Nat) (P : Nat → Option Nat) (f : Nat → Int32) : va_E :=
  if q.1 < 9 then .inr (q.1, (List.range (nFl q.1)).map (fldO G q.1 P f))
  else if q.1 < 13 then .inl (gCy G q.1, q.2, .inl f)
  else .inl (gCy G q.1, q.2, .inr (.inr (.inr (.inr (fun j => (P j).map (gA G))))))
def wsO (G : GX) (S : Shp) (I : Mem) : va_W := (List.range S.1).map fun i => (gB G + i, cellO G (S.2.1 i) (S.2.2 i) (I i))
def tyO (G : GX) : List (ClassId × FieldType) := [(gCy G 9, .int), (gCy G 10, .byte), (gCy G 11, .boolean), (gCy G 12, .char), (gCy G 13, .object RX3), (gCy G 14, .object RX4), (gCy G 15, .object RX7)]
def Hp (G : GX) (S : Shp) (I : Mem) (H : Heap) : Prop := H.size = gB G + S.1 ∧ S.1 ≤ 900000 ∧ va_P (gD G) vwCl (wsO G S I) H
theorem wsO_at {G : GX} {S : Shp} {I : Mem} {i : Nat} (h : i < S.1) : (wsO G S I)[i]? = some (gB G + i, cellO G (S.2.1 i) (S.2.2 i) (I i)) := by
  unfold wsO
  rw [List.getElem?_map, List.getElem?_range h]
  rfl
theorem wsO_of {G : GX} {S : Shp} {I : Mem} {i : Nat} {q : Nat × va_E} (h : (wsO G S I)[i]? = some q) : i < S.1 ∧ q = (gB G + i, cellO G (S.2.1 i) (S.2.2 i) (I i)) := by
  have hl : i < S.1 := by
    have := (List.getElem?_eq_some_iff.mp h).1
    simpa [wsO] using this
  exact ⟨hl, Option.some.inj (h.symm.trans (wsO_at hl))⟩
theorem wsO_D (G : GX) (S : Shp) (I : Mem) : va_D (gF G) (wsO G S I) := by
  refine ⟨fun i j x y hi hj hxy => ?_, fun k q hk => ?_⟩
  · obtain ⟨-, rfl⟩ := wsO_of hi
    obtain ⟨-, rfl⟩ := wsO_of hj
    have : gB G + i = gB G + j := hxy
    omega
  · obtain ⟨-, rfl⟩ := wsO_of hk
    exact Nat.le_add_right _ _
theorem gA_lt {G : GX} {S : Shp} {i : Nat} (h : i < S.1) (hS : S.1 ≤ 900000) : gA G i = gB G + i := by
  unfold gA
  rw [if_pos (by omega)]
theorem wsO_set {G : GX} {S S' : Shp} {I I' : Mem} {a : Nat} (ha : a < S.1) (hn : S'.1 = S.1) (ho : ∀ i, i < S.1 → i ≠ a → cellO G (S'.2.1 i) (S'.2.2 i) (I' i) = cellO G (S.2.1 i) (S.2.2 i) (I i)) :
    (wsO G S I).set a (gB G + a, cellO G (S'.2.1 a) (S'.2.2 a) (I' a)) = wsO G S' I' := by
  apply List.ext_getElem?
  intro i
  by_cases hi : i < S.1
  · rw [wsO_at (S := S') (by omega)]
    by_cases hia : i = a
    · subst hia
      rw [List.getElem?_set_self (by simpa [wsO] using hi)]
    · rw [List.getElem?_set_ne (Ne.symm hia), wsO_at hi, ho i hi hia]
  · rw [List.getElem?_eq_none (by simp [wsO]; omega), List.getElem?_eq_none (by simp [wsO]; omega)]
theorem wsO_push {G : GX} {S S' : Shp} {I I' : Mem} (hn : S'.1 = S.1 + 1) (ho : ∀ i, i < S.1 → cellO G (S'.2.1 i) (S'.2.2 i) (I' i) = cellO G (S.2.1 i) (S.2.2 i) (I i)) :
    wsO G S I ++ [(gB G + S.1, cellO G (S'.2.1 S.1) (S'.2.2 S.1) (I' S.1))] = wsO G S' I' := by
  apply List.ext_getElem?
  intro i
  have hlen : (wsO G S I).length = S.1 := by simp [wsO]
  by_cases hi : i < S.1
  · rw [wsO_at (S := S') (by omega), List.getElem?_append_left (by omega), wsO_at hi, ho i hi]
  · by_cases hi2 : i = S.1
    · subst hi2
      rw [wsO_at (S := S') (by omega), List.getElem?_append_right (by omega), hlen, Nat.sub_self]
      rfl
    · rw [List.getElem?_eq_none (by simp [wsO]; omega), List.getElem?_eq_none (by simp [wsO]; omega)]
/-- the kinds' cells, unfolded -/
theorem cellO_obj {G : GX} {c n : Nat} (hc : c < 9) (P : Nat → Option Nat) (f : Nat → Int32) : cellO G (c, n) P f = .inr (c, (List.range (nFl c)).map (fldO G c P f)) := by
  unfold cellO
  rw [if_pos hc]
theorem cellO_int {G : GX} {c n : Nat} (h1 : 9 ≤ c) (h2 : c < 13) (P : Nat → Option Nat) (f : Nat → Int32) : cellO G (c, n) P f = .inl (gCy G c, n, .inl f) := by
  unfold cellO
  rw [if_neg (by show ¬ c < 9; omega), if_pos (by show c < 13; omega)]
theorem cellO_ref {G : GX} {c n : Nat} (h1 : 13 ≤ c) (P : Nat → Option Nat) (f : Nat → Int32) : cellO G (c, n) P f = .inl (gCy G c, n, .inr (.inr (.inr (.inr (fun j => (P j).map (gA G)))))) := by
  unfold cellO
  rw [if_neg (by show ¬ c < 9; omega), if_neg (by show ¬ c < 13; omega)]
/-- what lies elsewhere and never changes -/
def Xt (G : GX) (U : State) (H : Heap) : Prop :=
  (va_X (gXt G 0) (gN G) (gXs G) U H ∧ gXt G 0 < gB G) ∧
  va_Z "BeggarCorners$Kinds" "ABOVE" "[I" (.ref (gXt G 1)) (gF G) U H ∧
  va_T .int (gXt G 1) 6 (fun j => .int (([-1, 0, 0, 1, 2, 0] : List Int32).getD j 0)) (gF G) U H ∧
  va_Z "java/lang/String" "COMPACT_STRINGS" "Z" (.int 1) (gF G) U H ∧
  va_Z "jdk/internal/util/Preconditions" "SIOOBE_FORMATTER" "Ljava/util/function/BiFunction;" (em G (gFm G)) (gF G) U H ∧
  vk_S 6 [4, 3, 4, 3, 2, 2] [[97, 108, 109, 115], [102, 101, 101], [102, 105, 110, 101], [99, 103, 115], [99, 104], [112, 104]] (fun i => gXt G (2 + i)) (fun i => gXt G (8 + i)) (gF G) U H ∧
  (vk_R "BeggarCorners$Reader" 66 "alms" (gXt G 2) U ∧ vk_R "BeggarCorners$Reader" 68 "fee" (gXt G 3) U ∧ vk_R "BeggarCorners$Reader" 70 "fine" (gXt G 4) U ∧ vk_R "BeggarCorners$Reader" 72 "cgs" (gXt G 5) U ∧ vk_R "BeggarCorners$Reader" 74 "ch" (gXt G 6) U ∧ vk_R "BeggarCorners$Reader" 76 "ph" (gXt G 7) U) ∧
  (∃ w : Int32, gFm G = .int w) = False
theorem Xt.go {G : GX} {s U : State} {H H1 : Heap} (hW : s.WarmedH U.vm) (hq : ∀ a : Nat, a < gB G → H1[a]? = H[a]?) (hB : gB G ≤ H.size) (h : Xt G s H) : Xt G U H1 := by
  obtain ⟨⟨h1, h1'⟩, h2, h3, h4, h5, h6, ⟨r1, r2, r3, r4, r5, r6⟩, h8⟩ := h
  have hk : ∀ a : Nat, a < H.size → ¬ gF G a → H1[a]? = H[a]? := fun a _ h => hq a (Nat.not_le.mp h)
  exact ⟨⟨(h1.moved hW.alike).kept (hq _ h1'), h1'⟩, (h2.moved hW.alike).kept hk, (h3.moved hW.alike).kept hk, (h4.moved hW.alike).kept hk, (h5.moved hW.alike).kept hk, (h6.moved hW.alike).kept hk, ⟨r1.warm hW, r2.warm hW, r3.warm hW, r4.warm hW, r5.warm hW, r6.warm hW⟩, h8⟩
def OkS (G : GX) (U : State) : Prop := va_K (gD G) vwCl (tyO G) U ∧ gB G ≤ U.heap.size ∧ Xt G U U.heap ∧ (∀ q ∈ nestL, va_Nw (.methodLinkNest q.1 q.2.1 q.2.2.1 q.2.2.2) U) ∧ va_AO RX3 U ∧ va_AO RX4 U ∧ va_AO RX7 U
theorem OkS.go {G : GX} {s U : State} {H : Heap} (hW : s.WarmedH U.vm) (hU : U.heap = H) (hz : s.heap.size ≤ H.size) (hq : ∀ a : Nat, a < gB G → H[a]? = s.heap[a]?) (h : OkS G s) : OkS G U := by
  subst hU
  exact ⟨h.1.moved hW.alike, Nat.le_trans h.2.1 hz, h.2.2.1.go hW hq h.2.1, fun q hq => (h.2.2.2.1 q hq).warmM hW, h.2.2.2.2.1.moved hW.alike, h.2.2.2.2.2.1.moved hW.alike, h.2.2.2.2.2.2.moved hW.alike⟩
/-- locals: what is known of them -/
def lh (G : GX) (arr : Array Slot) (nL : Nat) (ls : List (Option Value)) : Prop := arr.size = nL ∧ lv_wf arr ∧ ∀ (i : Nat) (v : Value), ls[i]? = some (some v) → arr[i]? = some (.val (em G v))
/-- a method's end -/
def QC (G : GX) (Q : Option Value → Shp → Mem → Prop) : Array Value → State → Outcome → State → Prop := fun _ st o t =>
  ∃ (r : Option Value) (S : Shp) (I : Mem), o = .returned (r.map (em G)) ∧ Q r S I ∧ Hp G S I t.heap ∧ st.heap.size ≤ t.heap.size ∧ ∀ q : Nat, q < gB G → t.heap[q]? = st.heap[q]?
def CX (G : GX) (own nm : String) (cc : ByteArray) (nL : Nat) (ret : Option FieldType) (d kc ks : Nat) (ls : List (Option Value)) (S : Shp) (I : Mem) (p : Program) (R : Room) (s : State) (m : MethodId) (args : Array Value) (meth : Method) (c : Code) (H : Heap) (locs : List Loc) (cells slots : Nat) (arr : Array Slot) : Prop :=
  p.tables.exec = Jvm.exec ∧ c.code = cc ∧ meth.sig.returnType = ret ∧ c.maxLocals = nL ∧ s.vm.findClass own = some m.cls ∧ meth.locks = false ∧ meth.name = nm ∧ (∀ w ∈ lw_g, w.before args s = true) ∧ OkS G s ∧ va_S (gF G) s.heap H locs ∧ Hp G S I H ∧ lh G arr nL ls ∧ (d ≤ R.frames ∧ 40 * d ≤ R.locals ∧ cells + kc ≤ R.cells ∧ slots + ks ≤ R.slots)
/-- from here the method comes to its end, and Q -/
def PW (G : GX) (own nm : String) (cc : ByteArray) (nL : Nat) (ret : Option FieldType) (d kc ks : Nat) (Q : Option Value → Shp → Mem → Prop) (pc : Nat) (ls : List (Option Value)) (st : List Value) (S : Shp) (I : Mem) : Prop :=
  ∀ (p : Program) (e : Env) (R : Room) (s : State) (m : MethodId) (args : Array Value) (below : List Frame) (meth : Method) (c : Code) (H : Heap) (locs : List Loc) (cells slots : Nat) (arr : Array Slot),
    CX G own nm cc nL ret d kc ks ls S I p R s m args meth c H locs cells slots arr →
    W p G.1 e R s m args below meth c H locs cells slots (MQ below (QC G Q) args s (cells + kc) (slots + ks) (gF G)) (F0 m pc arr (st.map (em G)))
/-- a contract -/
def PM (G : GX) (y : MethodName) (cc : ByteArray) (nL : Nat) (ret : Option FieldType) (d kc ks : Nat) (as : List Value) (S : Shp) (I : Mem) (Q : Option Value → Shp → Mem → Prop) : Prop :=
  Met G.1 y (Cond.code y cc nL ret :: lw_g) { frames := d, cells := kc, slots := ks, locals := 40 * d } (fun v U => v = (as.map (em G)).toArray ∧ OkS G U ∧ Hp G S I U.heap) (QC G Q) kc ks (gF G)
theorem PM.of {G : GX} {y : MethodName} {cc : ByteArray} {nL : Nat} {ret : Option FieldType} {d kc ks : Nat} {as : List Value} {S : Shp} {I : Mem} {Q : Option Value → Shp → Mem → Prop} {ls : List (Option Value)}
    (hy : plainName y.cls = true) (hc : as.all (fun v => v.category == 1) = true) (hn : as.length ≤ nL) (hls : as.map some ++ List.replicate (nL - as.length) none = ls) (h : PW G y.cls y.name cc nL ret d kc ks Q 0 ls [] S I) : PM G y cc nL ret d kc ks as S I Q := by
  refine Met.ofW (cc := cc) (maxL := nL) (ret := ret) hy rfl ?_
  intro p e s m args below meth c s₁ B hml hv
  obtain ⟨rfl, hO, hH⟩ := hv
  have hts := atoms_spec (ws := Cond.code y cc nL ret :: lw_g) B.pre
  have hown : s.vm.findClass y.cls = some m.cls := findClass_of_methodNamed B.named
  have hnm : meth.name = y.name := (name_of_methodNamed B.named B.method).1
  have hcat : ∀ v ∈ as.map (em G), v.category = 1 := by
    intro v hv
    obtain ⟨w, hw, rfl⟩ := List.mem_map.mp hv
    rw [em_cat]
    have := List.all_eq_true.mp hc w hw
    simpa using this
  rw [entry_eq m (as.map (em G)) hcat nL]
  have key : ∀ i : Nat, (((as.map (em G)).map Slot.val ++ List.replicate (nL - (as.map (em G)).length) Slot.unset).toArray)[i]? = if i < as.length then (as[i]?).map (fun v => Slot.val (em G v)) else if i < nL then some .unset else none := by
    intro i
    rw [List.getElem?_toArray]
    by_cases hi : i < as.length
    · rw [if_pos hi, List.getElem?_append_left (by simpa using hi), List.getElem?_map, List.getElem?_map, Option.map_map]
      rfl
    · rw [if_neg hi, List.getElem?_append_right (by simpa using Nat.le_of_not_lt hi)]
      simp only [List.length_map]
      by_cases hi2 : i < nL
      · rw [if_pos hi2, List.getElem?_replicate, if_pos (by omega)]
      · rw [if_neg hi2, List.getElem?_replicate, if_neg (by omega)]
  have hl : lh G (((as.map (em G)).map Slot.val ++ List.replicate (nL - (as.map (em G)).length) Slot.unset).toArray) nL ls := by
    refine ⟨by simp; omega, ⟨fun i v hi hv => ?_, fun i hi => ?_⟩, fun i v hi => ?_⟩
    · rw [key] at hi
      exfalso
      split at hi
      · cases hq : as[i]? with
        | none => rw [hq] at hi; cases hi
        | some w =>
          rw [hq] at hi
          have e1 : Slot.val (em G w) = Slot.val v := Option.some.inj hi
          have e2 : em G w = v := Slot.val.inj e1
          have := hcat (em G w) (List.mem_map.mpr ⟨w, List.mem_of_getElem? hq, rfl⟩)
          rw [e2] at this
          omega
      · split at hi <;> cases hi
    · rw [key] at hi
      exfalso
      split at hi
      · cases hq : as[i]? with
        | none => rw [hq] at hi; cases hi
        | some w => rw [hq] at hi; cases hi
      · split at hi <;> cases hi
    · rw [key]
      rw [← hls] at hi
      by_cases hil : i < as.length
      · rw [List.getElem?_append_left (by simpa using hil), List.getElem?_map] at hi
        rw [if_pos hil]
        cases hq : as[i]? with
        | none => rw [hq] at hi; cases hi
        | some w =>
          rw [hq] at hi
          have : w = v := Option.some.inj (Option.some.inj hi)
          rw [this]
          rfl
      · rw [List.getElem?_append_right (by simpa using Nat.le_of_not_lt hil), List.getElem?_replicate] at hi
        split at hi
        · cases Option.some.inj hi
        · cases hi
  have hw := h p e (headSpec (Cond.code y cc nL ret :: lw_g) { frames := d, cells := kc, slots := ks, locals := 40 * d }).room s m _ below meth c s.heap [] 0 0 _
    ⟨B.exec, B.bytes, B.returns, hml, hown, B.notSynchronized, hnm, fun w hw => hts w (List.mem_cons_of_mem _ hw), hO, va_S.rf, hH, hl, Nat.le_refl _, Nat.le_refl _, by show 0 + kc ≤ kc; omega, by show 0 + ks ≤ ks; omega⟩
  rw [Nat.zero_add, Nat.zero_add] at hw
  exact hw
end
section
theorem P_iconst {G : GX} {own nm : String} {cc : ByteArray} {nL : Nat} {ret : Option FieldType} {d kc ks : Nat} {Q : Option Value → Shp → Mem → Prop} {pc pc' : Nat} {ls : List (Option Value)} {rest : List Value} {S : Shp} {I : Mem} {n : Int} {v : Int32} (hd : decode cc pc = .ok (.iconst n, 1)) (hp : pc + 1 = pc') (hv : Int32.ofInt n = v) (k : PW G own nm cc nL ret d kc ks Q pc' ls (.int v :: rest) S I) : PW G own nm cc nL ret d kc ks Q pc ls rest S I := by
  subst hp
  intro p e R s m args below meth c H locs cells slots arr hC
  exact lv_iconst hC.1 hC.2.1 hd hv (k p e R s m args below meth c H locs cells slots arr hC)
theorem P_bipush {G : GX} {own nm : String} {cc : ByteArray} {nL : Nat} {ret : Option FieldType} {d kc ks : Nat} {Q : Option Value → Shp → Mem → Prop} {pc pc' : Nat} {ls : List (Option Value)} {rest : List Value} {S : Shp} {I : Mem} {n : Int} {v : Int32} (hd : decode cc pc = .ok (.bipush n, 2)) (hp : pc + 2 = pc') (hv : (Int8.ofInt n).toInt32 = v) (k : PW G own nm cc nL ret d kc ks Q pc' ls (.int v :: rest) S I) : PW G own nm cc nL ret d kc ks Q pc ls rest S I := by
  subst hp
  intro p e R s m args below meth c H locs cells slots arr hC
  exact lv_bipush hC.1 hC.2.1 hd hv (k p e R s m args below meth c H locs cells slots arr hC)
theorem P_sipush {G : GX} {own nm : String} {cc : ByteArray} {nL : Nat} {ret : Option FieldType} {d kc ks : Nat} {Q : Option Value → Shp → Mem → Prop} {pc pc' : Nat} {ls : List (Option Value)} {rest : List Value} {S : Shp} {I : Mem} {n : Int} {v : Int32} (hd : decode cc pc = .ok (.sipush n, 3)) (hp : pc + 3 = pc') (hv : (Int16.ofInt n).toInt32 = v) (k : PW G own nm cc nL ret d kc ks Q pc' ls (.int v :: rest) S I) : PW G own nm cc nL ret d kc ks Q pc ls rest S I := by
  subst hp
  intro p e R s m args below meth c H locs cells slots arr hC
  exact lv_sipush hC.1 hC.2.1 hd hv (k p e R s m args below meth c H locs cells slots arr hC)
theorem P_lconst {G : GX} {own nm : String} {cc : ByteArray} {nL : Nat} {ret : Option FieldType} {d kc ks : Nat} {Q : Option Value → Shp → Mem → Prop} {pc pc' : Nat} {ls : List (Option Value)} {rest : List Value} {S : Shp} {I : Mem} {n : Fin 2} {v : Int64} (hd : decode cc pc = .ok (.lconst n, 1)) (hp : pc + 1 = pc') (hv : Int64.ofNat (n : Nat) = v) (k : PW G own nm cc nL ret d kc ks Q pc' ls (.long v :: rest) S I) : PW G own nm cc nL ret d kc ks Q pc ls rest S I := by
  subst hp
  intro p e R s m args below meth c H locs cells slots arr hC
  exact lv_lconst hC.1 hC.2.1 hd hv (k p e R s m args below meth c H locs cells slots arr hC)
theorem P_null {G : GX} {own nm : String} {cc : ByteArray} {nL : Nat} {ret : Option FieldType} {d kc ks : Nat} {Q : Option Value → Shp → Mem → Prop} {pc pc' : Nat} {ls : List (Option Value)} {rest : List Value} {S : Shp} {I : Mem}  (hd : decode cc pc = .ok (.aconst_null, 1)) (hp : pc + 1 = pc')  (k : PW G own nm cc nL ret d kc ks Q pc' ls (.null :: rest) S I) : PW G own nm cc nL ret d kc ks Q pc ls rest S I := by
  subst hp
  intro p e R s m args below meth c H locs cells slots arr hC
  exact lv_null hC.1 hC.2.1 hd (k p e R s m args below meth c H locs cells slots arr hC)
theorem P_ldc {G : GX} {own nm : String} {cc : ByteArray} {nL : Nat} {ret : Option FieldType} {d kc ks : Nat} {Q : Option Value → Shp → Mem → Prop} {pc pc' : Nat} {ls : List (Option Value)} {rest : List Value} {S : Shp} {I : Mem} {x : Nat} {v : Int32} (hd : decode cc pc = .ok (.ldc x, 2)) (hp : pc + 2 = pc') (hw : Cond.constant own x v ∈ lw_tbl) (k : PW G own nm cc nL ret d kc ks Q pc' ls (.int v :: rest) S I) : PW G own nm cc nL ret d kc ks Q pc ls rest S I := by
  subst hp
  intro p e R s m args below meth c H locs cells slots arr hC
  exact lv_ldc hC.1 hC.2.1 hC.2.2.2.2.1 (hC.2.2.2.2.2.2.2.1 _ (lw_in hw rfl)) hd (k p e R s m args below meth c H locs cells slots arr hC)
theorem P_ldcw {G : GX} {own nm : String} {cc : ByteArray} {nL : Nat} {ret : Option FieldType} {d kc ks : Nat} {Q : Option Value → Shp → Mem → Prop} {pc pc' : Nat} {ls : List (Option Value)} {rest : List Value} {S : Shp} {I : Mem} {x : Nat} {v : Int32} (hd : decode cc pc = .ok (.ldc_w x, 3)) (hp : pc + 3 = pc') (hw : Cond.constant own x v ∈ lw_tbl) (k : PW G own nm cc nL ret d kc ks Q pc' ls (.int v :: rest) S I) : PW G own nm cc nL ret d kc ks Q pc ls rest S I := by
  subst hp
  intro p e R s m args below meth c H locs cells slots arr hC
  exact lv_ldcw hC.1 hC.2.1 hC.2.2.2.2.1 (hC.2.2.2.2.2.2.2.1 _ (lw_in hw rfl)) hd (k p e R s m args below meth c H locs cells slots arr hC)
theorem P_iadd {G : GX} {own nm : String} {cc : ByteArray} {nL : Nat} {ret : Option FieldType} {d kc ks : Nat} {Q : Option Value → Shp → Mem → Prop} {pc pc' : Nat} {ls : List (Option Value)} {rest : List Value} {S : Shp} {I : Mem} {x y : Int32} (hd : decode cc pc = .ok (.iadd, 1)) (hp : pc + 1 = pc')  (k : PW G own nm cc nL ret d kc ks Q pc' ls (.int (x + y) :: rest) S I) : PW G own nm cc nL ret d kc ks Q pc ls (.int y :: .int x :: rest) S I := by
  subst hp
  intro p e R s m args below meth c H locs cells slots arr hC
  exact lv_iadd hC.1 hC.2.1 hd (k p e R s m args below meth c H locs cells slots arr hC)
theorem P_isub {G : GX} {own nm : String} {cc : ByteArray} {nL : Nat} {ret : Option FieldType} {d kc ks : Nat} {Q : Option Value → Shp → Mem → Prop} {pc pc' : Nat} {ls : List (Option Value)} {rest : List Value} {S : Shp} {I : Mem} {x y : Int32} (hd : decode cc pc = .ok (.isub, 1)) (hp : pc + 1 = pc')  (k : PW G own nm cc nL ret d kc ks Q pc' ls (.int (x - y) :: rest) S I) : PW G own nm cc nL ret d kc ks Q pc ls (.int y :: .int x :: rest) S I := by
  subst hp
  intro p e R s m args below meth c H locs cells slots arr hC
  exact lv_isub hC.1 hC.2.1 hd (k p e R s m args below meth c H locs cells slots arr hC)
theorem P_imul {G : GX} {own nm : String} {cc : ByteArray} {nL : Nat} {ret : Option FieldType} {d kc ks : Nat} {Q : Option Value → Shp → Mem → Prop} {pc pc' : Nat} {ls : List (Option Value)} {rest : List Value} {S : Shp} {I : Mem} {x y : Int32} (hd : decode cc pc = .ok (.imul, 1)) (hp : pc + 1 = pc')  (k : PW G own nm cc nL ret d kc ks Q pc' ls (.int (x * y) :: rest) S I) : PW G own nm cc nL ret d kc ks Q pc ls (.int y :: .int x :: rest) S I := by
  subst hp
  intro p e R s m args below meth c H locs cells slots arr hC
  exact lv_imul hC.1 hC.2.1 hd (k p e R s m args below meth c H locs cells slots arr hC)
theorem P_iand {G : GX} {own nm : String} {cc : ByteArray} {nL : Nat} {ret : Option FieldType} {d kc ks : Nat} {Q : Option Value → Shp → Mem → Prop} {pc pc' : Nat} {ls : List (Option Value)} {rest : List Value} {S : Shp} {I : Mem} {x y : Int32} (hd : decode cc pc = .ok (.iand, 1)) (hp : pc + 1 = pc')  (k : PW G own nm cc nL ret d kc ks Q pc' ls (.int (x &&& y) :: rest) S I) : PW G own nm cc nL ret d kc ks Q pc ls (.int y :: .int x :: rest) S I := by
  subst hp
  intro p e R s m args below meth c H locs cells slots arr hC
  exact lv_iand hC.1 hC.2.1 hd (k p e R s m args below meth c H locs cells slots arr hC)
theorem P_ior {G : GX} {own nm : String} {cc : ByteArray} {nL : Nat} {ret : Option FieldType} {d kc ks : Nat} {Q : Option Value → Shp → Mem → Prop} {pc pc' : Nat} {ls : List (Option Value)} {rest : List Value} {S : Shp} {I : Mem} {x y : Int32} (hd : decode cc pc = .ok (.ior, 1)) (hp : pc + 1 = pc')  (k : PW G own nm cc nL ret d kc ks Q pc' ls (.int (x ||| y) :: rest) S I) : PW G own nm cc nL ret d kc ks Q pc ls (.int y :: .int x :: rest) S I := by
  subst hp
  intro p e R s m args below meth c H locs cells slots arr hC
  exact lv_ior hC.1 hC.2.1 hd (k p e R s m args below meth c H locs cells slots arr hC)
theorem P_ishl {G : GX} {own nm : String} {cc : ByteArray} {nL : Nat} {ret : Option FieldType} {d kc ks : Nat} {Q : Option Value → Shp → Mem → Prop} {pc pc' : Nat} {ls : List (Option Value)} {rest : List Value} {S : Shp} {I : Mem} {x y : Int32} (hd : decode cc pc = .ok (.ishl, 1)) (hp : pc + 1 = pc')  (k : PW G own nm cc nL ret d kc ks Q pc' ls (.int (x <<< (y &&& 31)) :: rest) S I) : PW G own nm cc nL ret d kc ks Q pc ls (.int y :: .int x :: rest) S I := by
  subst hp
  intro p e R s m args below meth c H locs cells slots arr hC
  exact lv_ishl hC.1 hC.2.1 hd (k p e R s m args below meth c H locs cells slots arr hC)
theorem P_ishr {G : GX} {own nm : String} {cc : ByteArray} {nL : Nat} {ret : Option FieldType} {d kc ks : Nat} {Q : Option Value → Shp → Mem → Prop} {pc pc' : Nat} {ls : List (Option Value)} {rest : List Value} {S : Shp} {I : Mem} {x y : Int32} (hd : decode cc pc = .ok (.ishr, 1)) (hp : pc + 1 = pc')  (k : PW G own nm cc nL ret d kc ks Q pc' ls (.int (x >>> (y &&& 31)) :: rest) S I) : PW G own nm cc nL ret d kc ks Q pc ls (.int y :: .int x :: rest) S I := by
  subst hp
  intro p e R s m args below meth c H locs cells slots arr hC
  exact lv_ishr hC.1 hC.2.1 hd (k p e R s m args below meth c H locs cells slots arr hC)
theorem P_idiv {G : GX} {own nm : String} {cc : ByteArray} {nL : Nat} {ret : Option FieldType} {d kc ks : Nat} {Q : Option Value → Shp → Mem → Prop} {pc pc' : Nat} {ls : List (Option Value)} {rest : List Value} {S : Shp} {I : Mem} {x y : Int32} (hd : decode cc pc = .ok (.idiv, 1)) (hp : pc + 1 = pc') (hne : ¬ y = 0) (k : PW G own nm cc nL ret d kc ks Q pc' ls (.int (x / y) :: rest) S I) : PW G own nm cc nL ret d kc ks Q pc ls (.int y :: .int x :: rest) S I := by
  subst hp
  intro p e R s m args below meth c H locs cells slots arr hC
  exact lv_idiv hC.1 hC.2.1 hd hne (k p e R s m args below meth c H locs cells slots arr hC)
theorem P_irem {G : GX} {own nm : String} {cc : ByteArray} {nL : Nat} {ret : Option FieldType} {d kc ks : Nat} {Q : Option Value → Shp → Mem → Prop} {pc pc' : Nat} {ls : List (Option Value)} {rest : List Value} {S : Shp} {I : Mem} {x y : Int32} (hd : decode cc pc = .ok (.irem, 1)) (hp : pc + 1 = pc') (hne : ¬ y = 0) (k : PW G own nm cc nL ret d kc ks Q pc' ls (.int (x - x / y * y) :: rest) S I) : PW G own nm cc nL ret d kc ks Q pc ls (.int y :: .int x :: rest) S I := by
  subst hp
  intro p e R s m args below meth c H locs cells slots arr hC
  exact lv_irem hC.1 hC.2.1 hd hne (k p e R s m args below meth c H locs cells slots arr hC)
theorem P_ineg {G : GX} {own nm : String} {cc : ByteArray} {nL : Nat} {ret : Option FieldType} {d kc ks : Nat} {Q : Option Value → Shp → Mem → Prop} {pc pc' : Nat} {ls : List (Option Value)} {rest : List Value} {S : Shp} {I : Mem} {x : Int32} (hd : decode cc pc = .ok (.ineg, 1)) (hp : pc + 1 = pc')  (k : PW G own nm cc nL ret d kc ks Q pc' ls (.int (-x) :: rest) S I) : PW G own nm cc nL ret d kc ks Q pc ls (.int x :: rest) S I := by
  subst hp
  intro p e R s m args below meth c H locs cells slots arr hC
  exact lv_ineg hC.1 hC.2.1 hd (k p e R s m args below meth c H locs cells slots arr hC)
theorem P_iushr {G : GX} {own nm : String} {cc : ByteArray} {nL : Nat} {ret : Option FieldType} {d kc ks : Nat} {Q : Option Value → Shp → Mem → Prop} {pc pc' : Nat} {ls : List (Option Value)} {rest : List Value} {S : Shp} {I : Mem} {x y : Int32} (hd : decode cc pc = .ok (.iushr, 1)) (hp : pc + 1 = pc')  (k : PW G own nm cc nL ret d kc ks Q pc' ls (.int (x.toUInt32 >>> (y.toUInt32 &&& Int32.toUInt32 31)).toInt32 :: rest) S I) : PW G own nm cc nL ret d kc ks Q pc ls (.int y :: .int x :: rest) S I := by
  subst hp
  intro p e R s m args below meth c H locs cells slots arr hC
  exact lv_iushr hC.1 hC.2.1 hd rfl (k p e R s m args below meth c H locs cells slots arr hC)
theorem P_i2b {G : GX} {own nm : String} {cc : ByteArray} {nL : Nat} {ret : Option FieldType} {d kc ks : Nat} {Q : Option Value → Shp → Mem → Prop} {pc pc' : Nat} {ls : List (Option Value)} {rest : List Value} {S : Shp} {I : Mem} {x : Int32} (hd : decode cc pc = .ok (.i2b, 1)) (hp : pc + 1 = pc')  (k : PW G own nm cc nL ret d kc ks Q pc' ls (.int x.toInt8.toInt32 :: rest) S I) : PW G own nm cc nL ret d kc ks Q pc ls (.int x :: rest) S I := by
  subst hp
  intro p e R s m args below meth c H locs cells slots arr hC
  exact lv_i2b hC.1 hC.2.1 hd rfl (k p e R s m args below meth c H locs cells slots arr hC)
theorem P_i2s {G : GX} {own nm : String} {cc : ByteArray} {nL : Nat} {ret : Option FieldType} {d kc ks : Nat} {Q : Option Value → Shp → Mem → Prop} {pc pc' : Nat} {ls : List (Option Value)} {rest : List Value} {S : Shp} {I : Mem} {x : Int32} (hd : decode cc pc = .ok (.i2s, 1)) (hp : pc + 1 = pc')  (k : PW G own nm cc nL ret d kc ks Q pc' ls (.int x.toInt16.toInt32 :: rest) S I) : PW G own nm cc nL ret d kc ks Q pc ls (.int x :: rest) S I := by
  subst hp
  intro p e R s m args below meth c H locs cells slots arr hC
  exact lv_i2s hC.1 hC.2.1 hd rfl (k p e R s m args below meth c H locs cells slots arr hC)
theorem P_i2c {G : GX} {own nm : String} {cc : ByteArray} {nL : Nat} {ret : Option FieldType} {d kc ks : Nat} {Q : Option Value → Shp → Mem → Prop} {pc pc' : Nat} {ls : List (Option Value)} {rest : List Value} {S : Shp} {I : Mem} {x : Int32} (hd : decode cc pc = .ok (.i2c, 1)) (hp : pc + 1 = pc')  (k : PW G own nm cc nL ret d kc ks Q pc' ls (.int (x.toUInt32 % 65536).toInt32 :: rest) S I) : PW G own nm cc nL ret d kc ks Q pc ls (.int x :: rest) S I := by
  subst hp
  intro p e R s m args below meth c H locs cells slots arr hC
  exact lv_i2c hC.1 hC.2.1 hd rfl (k p e R s m args below meth c H locs cells slots arr hC)
theorem P_i2l {G : GX} {own nm : String} {cc : ByteArray} {nL : Nat} {ret : Option FieldType} {d kc ks : Nat} {Q : Option Value → Shp → Mem → Prop} {pc pc' : Nat} {ls : List (Option Value)} {rest : List Value} {S : Shp} {I : Mem} {x : Int32} (hd : decode cc pc = .ok (.i2l, 1)) (hp : pc + 1 = pc')  (k : PW G own nm cc nL ret d kc ks Q pc' ls (.long x.toInt64 :: rest) S I) : PW G own nm cc nL ret d kc ks Q pc ls (.int x :: rest) S I := by
  subst hp
  intro p e R s m args below meth c H locs cells slots arr hC
  exact lv_i2l hC.1 hC.2.1 hd rfl (k p e R s m args below meth c H locs cells slots arr hC)
theorem P_l2i {G : GX} {own nm : String} {cc : ByteArray} {nL : Nat} {ret : Option FieldType} {d kc ks : Nat} {Q : Option Value → Shp → Mem → Prop} {pc pc' : Nat} {ls : List (Option Value)} {rest : List Value} {S : Shp} {I : Mem} {x : Int64} (hd : decode cc pc = .ok (.l2i, 1)) (hp : pc + 1 = pc')  (k : PW G own nm cc nL ret d kc ks Q pc' ls (.int x.toInt32 :: rest) S I) : PW G own nm cc nL ret d kc ks Q pc ls (.long x :: rest) S I := by
  subst hp
  intro p e R s m args below meth c H locs cells slots arr hC
  exact lv_l2i hC.1 hC.2.1 hd rfl (k p e R s m args below meth c H locs cells slots arr hC)
theorem P_ladd {G : GX} {own nm : String} {cc : ByteArray} {nL : Nat} {ret : Option FieldType} {d kc ks : Nat} {Q : Option Value → Shp → Mem → Prop} {pc pc' : Nat} {ls : List (Option Value)} {rest : List Value} {S : Shp} {I : Mem} {x y : Int64} (hd : decode cc pc = .ok (.ladd, 1)) (hp : pc + 1 = pc')  (k : PW G own nm cc nL ret d kc ks Q pc' ls (.long (x + y) :: rest) S I) : PW G own nm cc nL ret d kc ks Q pc ls (.long y :: .long x :: rest) S I := by
  subst hp
  intro p e R s m args below meth c H locs cells slots arr hC
  exact lv_ladd hC.1 hC.2.1 hd (k p e R s m args below meth c H locs cells slots arr hC)
theorem P_lsub {G : GX} {own nm : String} {cc : ByteArray} {nL : Nat} {ret : Option FieldType} {d kc ks : Nat} {Q : Option Value → Shp → Mem → Prop} {pc pc' : Nat} {ls : List (Option Value)} {rest : List Value} {S : Shp} {I : Mem} {x y : Int64} (hd : decode cc pc = .ok (.lsub, 1)) (hp : pc + 1 = pc')  (k : PW G own nm cc nL ret d kc ks Q pc' ls (.long (x - y) :: rest) S I) : PW G own nm cc nL ret d kc ks Q pc ls (.long y :: .long x :: rest) S I := by
  subst hp
  intro p e R s m args below meth c H locs cells slots arr hC
  exact lv_lsub hC.1 hC.2.1 hd (k p e R s m args below meth c H locs cells slots arr hC)
theorem P_lneg {G : GX} {own nm : String} {cc : ByteArray} {nL : Nat} {ret : Option FieldType} {d kc ks : Nat} {Q : Option Value → Shp → Mem → Prop} {pc pc' : Nat} {ls : List (Option Value)} {rest : List Value} {S : Shp} {I : Mem} {x : Int64} (hd : decode cc pc = .ok (.lneg, 1)) (hp : pc + 1 = pc')  (k : PW G own nm cc nL ret d kc ks Q pc' ls (.long (-x) :: rest) S I) : PW G own nm cc nL ret d kc ks Q pc ls (.long x :: rest) S I := by
  subst hp
  intro p e R s m args below meth c H locs cells slots arr hC
  exact lv_lneg hC.1 hC.2.1 hd (k p e R s m args below meth c H locs cells slots arr hC)
theorem P_lcmp {G : GX} {own nm : String} {cc : ByteArray} {nL : Nat} {ret : Option FieldType} {d kc ks : Nat} {Q : Option Value → Shp → Mem → Prop} {pc pc' : Nat} {ls : List (Option Value)} {rest : List Value} {S : Shp} {I : Mem} {x y : Int64} (hd : decode cc pc = .ok (.lcmp, 1)) (hp : pc + 1 = pc')  (k : PW G own nm cc nL ret d kc ks Q pc' ls (.int (lg_cmp x y) :: rest) S I) : PW G own nm cc nL ret d kc ks Q pc ls (.long y :: .long x :: rest) S I := by
  subst hp
  intro p e R s m args below meth c H locs cells slots arr hC
  exact W.lcmp hC.1 hC.2.1 hd (k p e R s m args below meth c H locs cells slots arr hC)
theorem P_dup {G : GX} {own nm : String} {cc : ByteArray} {nL : Nat} {ret : Option FieldType} {d kc ks : Nat} {Q : Option Value → Shp → Mem → Prop} {pc pc' : Nat} {ls : List (Option Value)} {rest : List Value} {S : Shp} {I : Mem} {v : Value} (hd : decode cc pc = .ok (.dup, 1)) (hp : pc + 1 = pc') (h1 : v.category = 1) (k : PW G own nm cc nL ret d kc ks Q pc' ls (v :: v :: rest) S I) : PW G own nm cc nL ret d kc ks Q pc ls (v :: rest) S I := by
  subst hp
  intro p e R s m args below meth c H locs cells slots arr hC
  exact lv_dup hC.1 hC.2.1 hd (by rw [em_cat]; exact h1) (k p e R s m args below meth c H locs cells slots arr hC)
theorem P_pop {G : GX} {own nm : String} {cc : ByteArray} {nL : Nat} {ret : Option FieldType} {d kc ks : Nat} {Q : Option Value → Shp → Mem → Prop} {pc pc' : Nat} {ls : List (Option Value)} {rest : List Value} {S : Shp} {I : Mem} {v : Value} (hd : decode cc pc = .ok (.pop, 1)) (hp : pc + 1 = pc') (h1 : v.category = 1) (k : PW G own nm cc nL ret d kc ks Q pc' ls rest S I) : PW G own nm cc nL ret d kc ks Q pc ls (v :: rest) S I := by
  subst hp
  intro p e R s m args below meth c H locs cells slots arr hC
  exact lv_pop hC.1 hC.2.1 hd (by rw [em_cat]; exact h1) (k p e R s m args below meth c H locs cells slots arr hC)
theorem P_dup2 {G : GX} {own nm : String} {cc : ByteArray} {nL : Nat} {ret : Option FieldType} {d kc ks : Nat} {Q : Option Value → Shp → Mem → Prop} {pc pc' : Nat} {ls : List (Option Value)} {rest : List Value} {S : Shp} {I : Mem} {v w : Value} (hd : decode cc pc = .ok (.dup2, 1)) (hp : pc + 1 = pc') (h1 : v.category = 1) (h2 : w.category = 1) (k : PW G own nm cc nL ret d kc ks Q pc' ls (v :: w :: v :: w :: rest) S I) : PW G own nm cc nL ret d kc ks Q pc ls (v :: w :: rest) S I := by
  subst hp
  intro p e R s m args below meth c H locs cells slots arr hC
  exact lv_dup2_11 hC.1 hC.2.1 hd (by rw [em_cat]; exact h1) (by rw [em_cat]; exact h2) (k p e R s m args below meth c H locs cells slots arr hC)
theorem P_if_eq {G : GX} {own nm : String} {cc : ByteArray} {nL : Nat} {ret : Option FieldType} {d kc ks : Nat} {Q : Option Value → Shp → Mem → Prop} {pc pc' : Nat} {ls : List (Option Value)} {rest : List Value} {S : Shp} {I : Mem} {x : Int32} {off : Int} {tgt : Nat} (hd : decode cc pc = .ok (.ifCond .eq off, 3)) (ht : (pc : Int) + off = (tgt : Int)) (hp : pc + 3 = pc') (k1 : x = 0 → PW G own nm cc nL ret d kc ks Q tgt ls rest S I) (k2 : ¬ x = 0 → PW G own nm cc nL ret d kc ks Q pc' ls rest S I) : PW G own nm cc nL ret d kc ks Q pc ls (.int x :: rest) S I := by
  subst hp
  intro p e R s m args below meth c H locs cells slots arr hC
  exact lv_if_eq hC.1 hC.2.1 hd ht (fun h => k1 h p e R s m args below meth c H locs cells slots arr hC) (fun h => k2 h p e R s m args below meth c H locs cells slots arr hC)
theorem P_icmp_eq {G : GX} {own nm : String} {cc : ByteArray} {nL : Nat} {ret : Option FieldType} {d kc ks : Nat} {Q : Option Value → Shp → Mem → Prop} {pc pc' : Nat} {ls : List (Option Value)} {rest : List Value} {S : Shp} {I : Mem} {x y : Int32} {off : Int} {tgt : Nat} (hd : decode cc pc = .ok (.if_icmp .eq off, 3)) (ht : (pc : Int) + off = (tgt : Int)) (hp : pc + 3 = pc') (k1 : x = y → PW G own nm cc nL ret d kc ks Q tgt ls rest S I) (k2 : ¬ x = y → PW G own nm cc nL ret d kc ks Q pc' ls rest S I) : PW G own nm cc nL ret d kc ks Q pc ls (.int y :: .int x :: rest) S I := by
  subst hp
  intro p e R s m args below meth c H locs cells slots arr hC
  exact lv_icmp_eq hC.1 hC.2.1 hd ht (fun h => k1 h p e R s m args below meth c H locs cells slots arr hC) (fun h => k2 h p e R s m args below meth c H locs cells slots arr hC)
theorem P_if_ne {G : GX} {own nm : String} {cc : ByteArray} {nL : Nat} {ret : Option FieldType} {d kc ks : Nat} {Q : Option Value → Shp → Mem → Prop} {pc pc' : Nat} {ls : List (Option Value)} {rest : List Value} {S : Shp} {I : Mem} {x : Int32} {off : Int} {tgt : Nat} (hd : decode cc pc = .ok (.ifCond .ne off, 3)) (ht : (pc : Int) + off = (tgt : Int)) (hp : pc + 3 = pc') (k1 : ¬ x = 0 → PW G own nm cc nL ret d kc ks Q tgt ls rest S I) (k2 : x = 0 → PW G own nm cc nL ret d kc ks Q pc' ls rest S I) : PW G own nm cc nL ret d kc ks Q pc ls (.int x :: rest) S I := by
  subst hp
  intro p e R s m args below meth c H locs cells slots arr hC
  exact lv_if_ne hC.1 hC.2.1 hd ht (fun h => k1 h p e R s m args below meth c H locs cells slots arr hC) (fun h => k2 h p e R s m args below meth c H locs cells slots arr hC)
theorem P_icmp_ne {G : GX} {own nm : String} {cc : ByteArray} {nL : Nat} {ret : Option FieldType} {d kc ks : Nat} {Q : Option Value → Shp → Mem → Prop} {pc pc' : Nat} {ls : List (Option Value)} {rest : List Value} {S : Shp} {I : Mem} {x y : Int32} {off : Int} {tgt : Nat} (hd : decode cc pc = .ok (.if_icmp .ne off, 3)) (ht : (pc : Int) + off = (tgt : Int)) (hp : pc + 3 = pc') (k1 : ¬ x = y → PW G own nm cc nL ret d kc ks Q tgt ls rest S I) (k2 : x = y → PW G own nm cc nL ret d kc ks Q pc' ls rest S I) : PW G own nm cc nL ret d kc ks Q pc ls (.int y :: .int x :: rest) S I := by
  subst hp
  intro p e R s m args below meth c H locs cells slots arr hC
  exact lv_icmp_ne hC.1 hC.2.1 hd ht (fun h => k1 h p e R s m args below meth c H locs cells slots arr hC) (fun h => k2 h p e R s m args below meth c H locs cells slots arr hC)
theorem P_if_lt {G : GX} {own nm : String} {cc : ByteArray} {nL : Nat} {ret : Option FieldType} {d kc ks : Nat} {Q : Option Value → Shp → Mem → Prop} {pc pc' : Nat} {ls : List (Option Value)} {rest : List Value} {S : Shp} {I : Mem} {x : Int32} {off : Int} {tgt : Nat} (hd : decode cc pc = .ok (.ifCond .lt off, 3)) (ht : (pc : Int) + off = (tgt : Int)) (hp : pc + 3 = pc') (k1 : x < 0 → PW G own nm cc nL ret d kc ks Q tgt ls rest S I) (k2 : ¬ x < 0 → PW G own nm cc nL ret d kc ks Q pc' ls rest S I) : PW G own nm cc nL ret d kc ks Q pc ls (.int x :: rest) S I := by
  subst hp
  intro p e R s m args below meth c H locs cells slots arr hC
  exact lv_if_lt hC.1 hC.2.1 hd ht (fun h => k1 h p e R s m args below meth c H locs cells slots arr hC) (fun h => k2 h p e R s m args below meth c H locs cells slots arr hC)
theorem P_icmp_lt {G : GX} {own nm : String} {cc : ByteArray} {nL : Nat} {ret : Option FieldType} {d kc ks : Nat} {Q : Option Value → Shp → Mem → Prop} {pc pc' : Nat} {ls : List (Option Value)} {rest : List Value} {S : Shp} {I : Mem} {x y : Int32} {off : Int} {tgt : Nat} (hd : decode cc pc = .ok (.if_icmp .lt off, 3)) (ht : (pc : Int) + off = (tgt : Int)) (hp : pc + 3 = pc') (k1 : x < y → PW G own nm cc nL ret d kc ks Q tgt ls rest S I) (k2 : ¬ x < y → PW G own nm cc nL ret d kc ks Q pc' ls rest S I) : PW G own nm cc nL ret d kc ks Q pc ls (.int y :: .int x :: rest) S I := by
  subst hp
  intro p e R s m args below meth c H locs cells slots arr hC
  exact lv_icmp_lt hC.1 hC.2.1 hd ht (fun h => k1 h p e R s m args below meth c H locs cells slots arr hC) (fun h => k2 h p e R s m args below meth c H locs cells slots arr hC)
theorem P_if_ge {G : GX} {own nm : String} {cc : ByteArray} {nL : Nat} {ret : Option FieldType} {d kc ks : Nat} {Q : Option Value → Shp → Mem → Prop} {pc pc' : Nat} {ls : List (Option Value)} {rest : List Value} {S : Shp} {I : Mem} {x : Int32} {off : Int} {tgt : Nat} (hd : decode cc pc = .ok (.ifCond .ge off, 3)) (ht : (pc : Int) + off = (tgt : Int)) (hp : pc + 3 = pc') (k1 : 0 ≤ x → PW G own nm cc nL ret d kc ks Q tgt ls rest S I) (k2 : ¬ 0 ≤ x → PW G own nm cc nL ret d kc ks Q pc' ls rest S I) : PW G own nm cc nL ret d kc ks Q pc ls (.int x :: rest) S I := by
  subst hp
  intro p e R s m args below meth c H locs cells slots arr hC
  exact lv_if_ge hC.1 hC.2.1 hd ht (fun h => k1 h p e R s m args below meth c H locs cells slots arr hC) (fun h => k2 h p e R s m args below meth c H locs cells slots arr hC)
theorem P_icmp_ge {G : GX} {own nm : String} {cc : ByteArray} {nL : Nat} {ret : Option FieldType} {d kc ks : Nat} {Q : Option Value → Shp → Mem → Prop} {pc pc' : Nat} {ls : List (Option Value)} {rest : List Value} {S : Shp} {I : Mem} {x y : Int32} {off : Int} {tgt : Nat} (hd : decode cc pc = .ok (.if_icmp .ge off, 3)) (ht : (pc : Int) + off = (tgt : Int)) (hp : pc + 3 = pc') (k1 : y ≤ x → PW G own nm cc nL ret d kc ks Q tgt ls rest S I) (k2 : ¬ y ≤ x → PW G own nm cc nL ret d kc ks Q pc' ls rest S I) : PW G own nm cc nL ret d kc ks Q pc ls (.int y :: .int x :: rest) S I := by
  subst hp
  intro p e R s m args below meth c H locs cells slots arr hC
  exact lv_icmp_ge hC.1 hC.2.1 hd ht (fun h => k1 h p e R s m args below meth c H locs cells slots arr hC) (fun h => k2 h p e R s m args below meth c H locs cells slots arr hC)
theorem P_if_gt {G : GX} {own nm : String} {cc : ByteArray} {nL : Nat} {ret : Option FieldType} {d kc ks : Nat} {Q : Option Value → Shp → Mem → Prop} {pc pc' : Nat} {ls : List (Option Value)} {rest : List Value} {S : Shp} {I : Mem} {x : Int32} {off : Int} {tgt : Nat} (hd : decode cc pc = .ok (.ifCond .gt off, 3)) (ht : (pc : Int) + off = (tgt : Int)) (hp : pc + 3 = pc') (k1 : 0 < x → PW G own nm cc nL ret d kc ks Q tgt ls rest S I) (k2 : ¬ 0 < x → PW G own nm cc nL ret d kc ks Q pc' ls rest S I) : PW G own nm cc nL ret d kc ks Q pc ls (.int x :: rest) S I := by
  subst hp
  intro p e R s m args below meth c H locs cells slots arr hC
  exact lv_if_gt hC.1 hC.2.1 hd ht (fun h => k1 h p e R s m args below meth c H locs cells slots arr hC) (fun h => k2 h p e R s m args below meth c H locs cells slots arr hC)
theorem P_icmp_gt {G : GX} {own nm : String} {cc : ByteArray} {nL : Nat} {ret : Option FieldType} {d kc ks : Nat} {Q : Option Value → Shp → Mem → Prop} {pc pc' : Nat} {ls : List (Option Value)} {rest : List Value} {S : Shp} {I : Mem} {x y : Int32} {off : Int} {tgt : Nat} (hd : decode cc pc = .ok (.if_icmp .gt off, 3)) (ht : (pc : Int) + off = (tgt : Int)) (hp : pc + 3 = pc') (k1 : y < x → PW G own nm cc nL ret d kc ks Q tgt ls rest S I) (k2 : ¬ y < x → PW G own nm cc nL ret d kc ks Q pc' ls rest S I) : PW G own nm cc nL ret d kc ks Q pc ls (.int y :: .int x :: rest) S I := by
  subst hp
  intro p e R s m args below meth c H locs cells slots arr hC
  exact lv_icmp_gt hC.1 hC.2.1 hd ht (fun h => k1 h p e R s m args below meth c H locs cells slots arr hC) (fun h => k2 h p e R s m args below meth c H locs cells slots arr hC)
theorem P_if_le {G : GX} {own nm : String} {cc : ByteArray} {nL : Nat} {ret : Option FieldType} {d kc ks : Nat} {Q : Option Value → Shp → Mem → Prop} {pc pc' : Nat} {ls : List (Option Value)} {rest : List Value} {S : Shp} {I : Mem} {x : Int32} {off : Int} {tgt : Nat} (hd : decode cc pc = .ok (.ifCond .le off, 3)) (ht : (pc : Int) + off = (tgt : Int)) (hp : pc + 3 = pc') (k1 : x ≤ 0 → PW G own nm cc nL ret d kc ks Q tgt ls rest S I) (k2 : ¬ x ≤ 0 → PW G own nm cc nL ret d kc ks Q pc' ls rest S I) : PW G own nm cc nL ret d kc ks Q pc ls (.int x :: rest) S I := by
  subst hp
  intro p e R s m args below meth c H locs cells slots arr hC
  exact lv_if_le hC.1 hC.2.1 hd ht (fun h => k1 h p e R s m args below meth c H locs cells slots arr hC) (fun h => k2 h p e R s m args below meth c H locs cells slots arr hC)
theorem P_icmp_le {G : GX} {own nm : String} {cc : ByteArray} {nL : Nat} {ret : Option FieldType} {d kc ks : Nat} {Q : Option Value → Shp → Mem → Prop} {pc pc' : Nat} {ls : List (Option Value)} {rest : List Value} {S : Shp} {I : Mem} {x y : Int32} {off : Int} {tgt : Nat} (hd : decode cc pc = .ok (.if_icmp .le off, 3)) (ht : (pc : Int) + off = (tgt : Int)) (hp : pc + 3 = pc') (k1 : x ≤ y → PW G own nm cc nL ret d kc ks Q tgt ls rest S I) (k2 : ¬ x ≤ y → PW G own nm cc nL ret d kc ks Q pc' ls rest S I) : PW G own nm cc nL ret d kc ks Q pc ls (.int y :: .int x :: rest) S I := by
  subst hp
  intro p e R s m args below meth c H locs cells slots arr hC
  exact lv_icmp_le hC.1 hC.2.1 hd ht (fun h => k1 h p e R s m args below meth c H locs cells slots arr hC) (fun h => k2 h p e R s m args below meth c H locs cells slots arr hC)
theorem P_goto {G : GX} {own nm : String} {cc : ByteArray} {nL : Nat} {ret : Option FieldType} {d kc ks : Nat} {Q : Option Value → Shp → Mem → Prop} {pc : Nat} {ls : List (Option Value)} {rest : List Value} {S : Shp} {I : Mem} {off : Int} {tgt : Nat} (hd : decode cc pc = .ok (.goto off, 3)) (ht : (pc : Int) + off = (tgt : Int)) (k : PW G own nm cc nL ret d kc ks Q tgt ls rest S I) : PW G own nm cc nL ret d kc ks Q pc ls rest S I := by
  intro p e R s m args below meth c H locs cells slots arr hC
  exact lv_goto hC.1 hC.2.1 hd ht (k p e R s m args below meth c H locs cells slots arr hC)
theorem P_nonnull {G : GX} {own nm : String} {cc : ByteArray} {nL : Nat} {ret : Option FieldType} {d kc ks : Nat} {Q : Option Value → Shp → Mem → Prop} {pc : Nat} {ls : List (Option Value)} {rest : List Value} {S : Shp} {I : Mem} {a : Nat} {off : Int} {tgt : Nat} (hd : decode cc pc = .ok (.ifnonnull off, 3)) (ht : (pc : Int) + off = (tgt : Int)) (k : PW G own nm cc nL ret d kc ks Q tgt ls rest S I) : PW G own nm cc nL ret d kc ks Q pc ls (.ref a :: rest) S I := by
  intro p e R s m args below meth c H locs cells slots arr hC
  exact lv_ifnonnull hC.1 hC.2.1 hd ht (k p e R s m args below meth c H locs cells slots arr hC)
theorem P_nonnullN {G : GX} {own nm : String} {cc : ByteArray} {nL : Nat} {ret : Option FieldType} {d kc ks : Nat} {Q : Option Value → Shp → Mem → Prop} {pc pc' : Nat} {ls : List (Option Value)} {rest : List Value} {S : Shp} {I : Mem} {off : Int} (hd : decode cc pc = .ok (.ifnonnull off, 3)) (hp : pc + 3 = pc') (k : PW G own nm cc nL ret d kc ks Q pc' ls rest S I) : PW G own nm cc nL ret d kc ks Q pc ls (.null :: rest) S I := by
  subst hp
  intro p e R s m args below meth c H locs cells slots arr hC
  exact lv_ifnonnullN hC.1 hC.2.1 hd (k p e R s m args below meth c H locs cells slots arr hC)
theorem P_isnull {G : GX} {own nm : String} {cc : ByteArray} {nL : Nat} {ret : Option FieldType} {d kc ks : Nat} {Q : Option Value → Shp → Mem → Prop} {pc pc' : Nat} {ls : List (Option Value)} {rest : List Value} {S : Shp} {I : Mem} {a : Nat} {off : Int} (hd : decode cc pc = .ok (.ifnull off, 3)) (hp : pc + 3 = pc') (k : PW G own nm cc nL ret d kc ks Q pc' ls rest S I) : PW G own nm cc nL ret d kc ks Q pc ls (.ref a :: rest) S I := by
  subst hp
  intro p e R s m args below meth c H locs cells slots arr hC
  exact lv_ifnull hC.1 hC.2.1 hd (k p e R s m args below meth c H locs cells slots arr hC)
theorem P_isnullN {G : GX} {own nm : String} {cc : ByteArray} {nL : Nat} {ret : Option FieldType} {d kc ks : Nat} {Q : Option Value → Shp → Mem → Prop} {pc : Nat} {ls : List (Option Value)} {rest : List Value} {S : Shp} {I : Mem} {off : Int} {tgt : Nat} (hd : decode cc pc = .ok (.ifnull off, 3)) (ht : (pc : Int) + off = (tgt : Int)) (k : PW G own nm cc nL ret d kc ks Q tgt ls rest S I) : PW G own nm cc nL ret d kc ks Q pc ls (.null :: rest) S I := by
  intro p e R s m args below meth c H locs cells slots arr hC
  exact lv_ifnullN hC.1 hC.2.1 hd ht (k p e R s m args below meth c H locs cells slots arr hC)
theorem P_tabOut {G : GX} {own nm : String} {cc : ByteArray} {nL : Nat} {ret : Option FieldType} {d kc ks : Nat} {Q : Option Value → Shp → Mem → Prop} {pc : Nat} {ls : List (Option Value)} {rest : List Value} {S : Shp} {I : Mem} {dflt lo hi : Int} {offs : Array Int} {len : Nat} {x : Int32} {tgt : Nat} (hd : decode cc pc = .ok (.tableswitch dflt lo hi offs, len)) (h : x.toInt < lo ∨ hi < x.toInt) (ht : (pc : Int) + dflt = (tgt : Int)) (k : PW G own nm cc nL ret d kc ks Q tgt ls rest S I) : PW G own nm cc nL ret d kc ks Q pc ls (.int x :: rest) S I := by
  intro p e R s m args below meth c H locs cells slots arr hC
  exact lv_tableOut hC.1 hC.2.1 hd h ht (k p e R s m args below meth c H locs cells slots arr hC)
theorem P_tabIn {G : GX} {own nm : String} {cc : ByteArray} {nL : Nat} {ret : Option FieldType} {d kc ks : Nat} {Q : Option Value → Shp → Mem → Prop} {pc : Nat} {ls : List (Option Value)} {rest : List Value} {S : Shp} {I : Mem} {dflt lo hi : Int} {offs : Array Int} {len : Nat} {x : Int32} {off : Int} {tgt : Nat} (hd : decode cc pc = .ok (.tableswitch dflt lo hi offs, len)) (h1 : ¬ x.toInt < lo) (h2 : ¬ hi < x.toInt) (ho : offs[(x.toInt - lo).toNat]? = some off) (ht : (pc : Int) + off = (tgt : Int)) (k : PW G own nm cc nL ret d kc ks Q tgt ls rest S I) : PW G own nm cc nL ret d kc ks Q pc ls (.int x :: rest) S I := by
  intro p e R s m args below meth c H locs cells slots arr hC
  exact lv_tableIn hC.1 hC.2.1 hd h1 h2 ho ht (k p e R s m args below meth c H locs cells slots arr hC)
theorem P_look {G : GX} {own nm : String} {cc : ByteArray} {nL : Nat} {ret : Option FieldType} {d kc ks : Nat} {Q : Option Value → Shp → Mem → Prop} {pc : Nat} {ls : List (Option Value)} {rest : List Value} {S : Shp} {I : Mem} {dflt : Int} {ps : Array (Int × Int)} {len : Nat} {x : Int32} {off : Int} {tgt : Nat} (hd : decode cc pc = .ok (.lookupswitch dflt ps, len)) (hq : (ps.toList.zip (ps.toList.drop 1)).all (fun (a, next) => a.1 < next.1) = true) (ho : Op.lookupswitch.offset ps.toList dflt x.toInt = off) (ht : (pc : Int) + off = (tgt : Int)) (k : PW G own nm cc nL ret d kc ks Q tgt ls rest S I) : PW G own nm cc nL ret d kc ks Q pc ls (.int x :: rest) S I := by
  intro p e R s m args below meth c H locs cells slots arr hC
  exact lv_lookup hC.1 hC.2.1 hd hq ho ht (k p e R s m args below meth c H locs cells slots arr hC)
theorem P_top {G : GX} {own nm : String} {cc : ByteArray} {nL : Nat} {ret : Option FieldType} {d kc ks : Nat} {Q : Option Value → Shp → Mem → Prop} {pc : Nat} {ls : List (Option Value)} {rest : List Value} {S : Shp} {I : Mem} {x : Int32} (k : ∀ y : Int32, y = x → PW G own nm cc nL ret d kc ks Q pc ls (.int y :: rest) S I) : PW G own nm cc nL ret d kc ks Q pc ls (.int x :: rest) S I := k x rfl
theorem P_as {G : GX} {own nm : String} {cc : ByteArray} {nL : Nat} {ret : Option FieldType} {d kc ks : Nat} {Q : Option Value → Shp → Mem → Prop} {pc : Nat} {ls : List (Option Value)} {rest : List Value} {S : Shp} {I : Mem} {x y : Int32} (h : x = y) (k : PW G own nm cc nL ret d kc ks Q pc ls (.int y :: rest) S I) : PW G own nm cc nL ret d kc ks Q pc ls (.int x :: rest) S I := h ▸ k
theorem P_asM {G : GX} {own nm : String} {cc : ByteArray} {nL : Nat} {ret : Option FieldType} {d kc ks : Nat} {Q : Option Value → Shp → Mem → Prop} {pc : Nat} {ls : List (Option Value)} {rest : List Value} {S : Shp} {I : Mem} {I' : Mem} (h : I = I') (k : PW G own nm cc nL ret d kc ks Q pc ls rest S I') : PW G own nm cc nL ret d kc ks Q pc ls rest S I := h ▸ k
theorem lh_store {G : GX} {arr : Array Slot} {nL i : Nat} {ls : List (Option Value)} {v : Value} (h : lh G arr nL ls) (hi : i < nL) (hil : i < ls.length) (hv : v.category = 1) (hq : ∀ (j : Nat) (w : Value), j + 1 = i → ls[j]? = some (some w) → w.category = 1) : ∃ arr', storeLocals arr i (em G v) = some arr' ∧ lh G arr' nL (ls.set i (some v)) := by
  have h0 : lv_has arr nL ((List.range ls.length).filterMap (fun j => (ls[j]?).join.map (fun w => (j, em G w)))) := by
    refine ⟨h.1, h.2.1, fun q hq => ?_⟩
    obtain ⟨j, -, hj⟩ := List.mem_filterMap.mp hq
    cases hx : ls[j]? with
    | none => rw [hx] at hj; cases hj
    | some o =>
      cases o with
      | none => rw [hx] at hj; cases hj
      | some w =>
        rw [hx] at hj
        cases Option.some.inj hj
        exact h.2.2 j w hx
  obtain ⟨arr', e1, e2⟩ := lv_store1 (v := em G v) h0 hi (by rw [em_cat]; exact hv)
  refine ⟨arr', e1, e2.1, e2.2.1, fun j w hj => ?_⟩
  by_cases hji : j = i
  · subst hji
    rw [List.getElem?_set_self hil] at hj
    have e3 : v = w := Option.some.inj (Option.some.inj hj)
    rw [← e3]
    exact e2.2.2 (j, em G v) List.mem_cons_self
  · rw [List.getElem?_set_ne (Ne.symm hji)] at hj
    refine e2.2.2 (j, em G w) (List.mem_cons_of_mem _ (List.mem_filter.mpr ⟨List.mem_filterMap.mpr ⟨j, List.mem_range.mpr ((List.getElem?_eq_some_iff.mp hj).1), by rw [hj]; rfl⟩, ?_⟩))
    have hw : ∀ z : Nat, j + 1 = z → z = i → (em G w).category = 1 := fun z h1 h2 => by rw [em_cat]; exact hq j w (by omega) hj
    by_cases hz : j + 1 = i
    · have := hw _ rfl hz
      simp [hji, this]
    · simp [hji, hz]
theorem lh_storeL {G : GX} {arr : Array Slot} {nL i : Nat} {ls : List (Option Value)} {x : Int64} (h : lh G arr nL ls) (hi : i + 1 < nL) (hil : i + 1 < ls.length) (hq : ∀ (j : Nat) (w : Value), j + 1 = i → ls[j]? = some (some w) → w.category = 1) : ∃ arr', storeLocals arr i (.long x) = some arr' ∧ lh G arr' nL ((ls.set i (some (.long x))).set (i + 1) none) := by
  have h0 : lv_has arr nL ((List.range ls.length).filterMap (fun j => (ls[j]?).join.map (fun w => (j, em G w)))) := by
    refine ⟨h.1, h.2.1, fun q hq => ?_⟩
    obtain ⟨j, -, hj⟩ := List.mem_filterMap.mp hq
    cases hx : ls[j]? with
    | none => rw [hx] at hj; cases hj
    | some o =>
      cases o with
      | none => rw [hx] at hj; cases hj
      | some w =>
        rw [hx] at hj
        cases Option.some.inj hj
        exact h.2.2 j w hx
  obtain ⟨arr', e1, e2⟩ := lv_store2 (v := .long x) h0 hi rfl
  refine ⟨arr', e1, e2.1, e2.2.1, fun j w hj => ?_⟩
  by_cases hji1 : j = i + 1
  · subst hji1
    rw [List.getElem?_set_self (by simpa using hil)] at hj
    cases hj
  · rw [List.getElem?_set_ne (Ne.symm hji1)] at hj
    by_cases hji : j = i
    · subst hji
      rw [List.getElem?_set_self (by omega)] at hj
      cases hj
      exact e2.2.2 (j, .long x) List.mem_cons_self
    · rw [List.getElem?_set_ne (Ne.symm hji)] at hj
      refine e2.2.2 (j, em G w) (List.mem_cons_of_mem _ (List.mem_filter.mpr ⟨List.mem_filterMap.mpr ⟨j, List.mem_range.mpr ((List.getElem?_eq_some_iff.mp hj).1), by rw [hj]; rfl⟩, ?_⟩))
      by_cases hz : j + 1 = i
      · have : (em G w).category = 1 := by rw [em_cat]; exact hq j w hz hj
        simp [hji, hji1, this]
      · simp [hji, hji1, hz]
def lc1 (o : Option Value) : Bool := match o with
  | some v => v.category == 1
  | none => true
theorem P_iload0 {G : GX} {own nm : String} {cc : ByteArray} {nL : Nat} {ret : Option FieldType} {d kc ks : Nat} {Q : Option Value → Shp → Mem → Prop} {pc pc' : Nat} {ls : List (Option Value)} {rest : List Value} {S : Shp} {I : Mem} {r : List (Option Value)} {v : Int32} (hd : decode cc pc = .ok (.iload_n 0, 1)) (hp : pc + 1 = pc') (k : PW G own nm cc nL ret d kc ks Q pc' (some (.int v) :: r) (.int v :: rest) S I) : PW G own nm cc nL ret d kc ks Q pc (some (.int v) :: r) rest S I := by
  subst hp
  intro p e R s m args below meth c H locs cells slots arr hC
  exact lv_iload_n hC.1 hC.2.1 hd rfl (hC.2.2.2.2.2.2.2.2.2.2.2.1.2.2 0 (.int v) rfl) (k p e R s m args below meth c H locs cells slots arr hC)
theorem P_aload0 {G : GX} {own nm : String} {cc : ByteArray} {nL : Nat} {ret : Option FieldType} {d kc ks : Nat} {Q : Option Value → Shp → Mem → Prop} {pc pc' : Nat} {ls : List (Option Value)} {rest : List Value} {S : Shp} {I : Mem} {r : List (Option Value)} {v : Nat} (hd : decode cc pc = .ok (.aload_n 0, 1)) (hp : pc + 1 = pc') (k : PW G own nm cc nL ret d kc ks Q pc' (some (.ref v) :: r) (.ref v :: rest) S I) : PW G own nm cc nL ret d kc ks Q pc (some (.ref v) :: r) rest S I := by
  subst hp
  intro p e R s m args below meth c H locs cells slots arr hC
  exact lv_aload_n hC.1 hC.2.1 hd rfl (hC.2.2.2.2.2.2.2.2.2.2.2.1.2.2 0 (.ref v) rfl) (k p e R s m args below meth c H locs cells slots arr hC)
theorem P_istore0 {G : GX} {own nm : String} {cc : ByteArray} {nL : Nat} {ret : Option FieldType} {d kc ks : Nat} {Q : Option Value → Shp → Mem → Prop} {pc pc' : Nat} {ls : List (Option Value)} {rest : List Value} {S : Shp} {I : Mem} {r : List (Option Value)} {o : Option Value} {v : Int32} (hd : decode cc pc = .ok (.istore_n 0, 1)) (hp : pc + 1 = pc') (hn : 0 < nL)  (k : PW G own nm cc nL ret d kc ks Q pc' (some (.int v) :: r) rest S I) : PW G own nm cc nL ret d kc ks Q pc (o :: r) (.int v :: rest) S I := by
  subst hp
  intro p e R s m args below meth c H locs cells slots arr hC
  obtain ⟨hx, hb, c1, c2, c3, c4, c5, c6, c7, c8, c9, hl, c10⟩ := hC
  obtain ⟨arr', e1, e2⟩ := lh_store (i := 0) (v := .int v) hl hn (by simp) rfl (fun j w hj hw => by omega)
  have e2 : lh G arr' nL (some (.int v) :: r) := e2
  have kk := k p e R s m args below meth c H locs cells slots arr' ⟨hx, hb, c1, c2, c3, c4, c5, c6, c7, c8, c9, e2, c10⟩
  intro T hT X
  obtain ⟨t, a, b⟩ := kk T hT X
  refine ⟨t, ?_, b⟩
  have e1 : storeLocals arr 0 (em G (.int v)) = some arr' := e1
  jvm_step X.here [X.here.top, hx, hb, hd, em]
  first | exact a | exact ⟨arr', e1, a⟩ | exact ⟨rfl, arr', e1, a⟩
theorem P_astore0 {G : GX} {own nm : String} {cc : ByteArray} {nL : Nat} {ret : Option FieldType} {d kc ks : Nat} {Q : Option Value → Shp → Mem → Prop} {pc pc' : Nat} {ls : List (Option Value)} {rest : List Value} {S : Shp} {I : Mem} {r : List (Option Value)} {o : Option Value} {v : Nat} (hd : decode cc pc = .ok (.astore_n 0, 1)) (hp : pc + 1 = pc') (hn : 0 < nL)  (k : PW G own nm cc nL ret d kc ks Q pc' (some (.ref v) :: r) rest S I) : PW G own nm cc nL ret d kc ks Q pc (o :: r) (.ref v :: rest) S I := by
  subst hp
  intro p e R s m args below meth c H locs cells slots arr hC
  obtain ⟨hx, hb, c1, c2, c3, c4, c5, c6, c7, c8, c9, hl, c10⟩ := hC
  obtain ⟨arr', e1, e2⟩ := lh_store (i := 0) (v := .ref v) hl hn (by simp) rfl (fun j w hj hw => by omega)
  have e2 : lh G arr' nL (some (.ref v) :: r) := e2
  have kk := k p e R s m args below meth c H locs cells slots arr' ⟨hx, hb, c1, c2, c3, c4, c5, c6, c7, c8, c9, e2, c10⟩
  intro T hT X
  obtain ⟨t, a, b⟩ := kk T hT X
  refine ⟨t, ?_, b⟩
  have e1 : storeLocals arr 0 (em G (.ref v)) = some arr' := e1
  jvm_step X.here [X.here.top, hx, hb, hd, em]
  first | exact a | exact ⟨arr', e1, a⟩ | exact ⟨rfl, arr', e1, a⟩
theorem P_iinc0 {G : GX} {own nm : String} {cc : ByteArray} {nL : Nat} {ret : Option FieldType} {d kc ks : Nat} {Q : Option Value → Shp → Mem → Prop} {pc pc' : Nat} {ls : List (Option Value)} {rest : List Value} {S : Shp} {I : Mem} {r : List (Option Value)} {x v : Int32} {n : Int} (hd : decode cc pc = .ok (.iinc 0 n, 3)) (hp : pc + 3 = pc') (hv : x + Int32.ofInt n = v) (hn : 0 < nL)  (k : PW G own nm cc nL ret d kc ks Q pc' (some (.int v) :: r) rest S I) : PW G own nm cc nL ret d kc ks Q pc (some (.int x) :: r) rest S I := by
  subst hp
  intro p e R s m args below meth c H locs cells slots arr hC
  obtain ⟨hx, hb, c1, c2, c3, c4, c5, c6, c7, c8, c9, hl, c10⟩ := hC
  obtain ⟨arr', e1, e2⟩ := lh_store (i := 0) (v := .int v) hl hn (by simp) rfl (fun j w hj hw => by omega)
  have e2 : lh G arr' nL (some (.int v) :: r) := e2
  have hi : arr[0]? = some (.val (.int x)) := hl.2.2 0 (.int x) rfl
  have kk := k p e R s m args below meth c H locs cells slots arr' ⟨hx, hb, c1, c2, c3, c4, c5, c6, c7, c8, c9, e2, c10⟩
  intro T hT X
  obtain ⟨t, a, b⟩ := kk T hT X
  refine ⟨t, ?_, b⟩
  have e1 : storeLocals arr 0 (.int v) = some arr' := e1
  rw [← hv] at e1
  jvm_step X.here [X.here.top, hx, hb, hd, hi, e1]
  exact a
theorem P_iload1 {G : GX} {own nm : String} {cc : ByteArray} {nL : Nat} {ret : Option FieldType} {d kc ks : Nat} {Q : Option Value → Shp → Mem → Prop} {pc pc' : Nat} {ls : List (Option Value)} {rest : List Value} {S : Shp} {I : Mem} {x0 : Option Value} {r : List (Option Value)} {v : Int32} (hd : decode cc pc = .ok (.iload_n 1, 1)) (hp : pc + 1 = pc') (k : PW G own nm cc nL ret d kc ks Q pc' (x0 :: some (.int v) :: r) (.int v :: rest) S I) : PW G own nm cc nL ret d kc ks Q pc (x0 :: some (.int v) :: r) rest S I := by
  subst hp
  intro p e R s m args below meth c H locs cells slots arr hC
  exact lv_iload_n hC.1 hC.2.1 hd rfl (hC.2.2.2.2.2.2.2.2.2.2.2.1.2.2 1 (.int v) rfl) (k p e R s m args below meth c H locs cells slots arr hC)
theorem P_aload1 {G : GX} {own nm : String} {cc : ByteArray} {nL : Nat} {ret : Option FieldType} {d kc ks : Nat} {Q : Option Value → Shp → Mem → Prop} {pc pc' : Nat} {ls : List (Option Value)} {rest : List Value} {S : Shp} {I : Mem} {x0 : Option Value} {r : List (Option Value)} {v : Nat} (hd : decode cc pc = .ok (.aload_n 1, 1)) (hp : pc + 1 = pc') (k : PW G own nm cc nL ret d kc ks Q pc' (x0 :: some (.ref v) :: r) (.ref v :: rest) S I) : PW G own nm cc nL ret d kc ks Q pc (x0 :: some (.ref v) :: r) rest S I := by
  subst hp
  intro p e R s m args below meth c H locs cells slots arr hC
  exact lv_aload_n hC.1 hC.2.1 hd rfl (hC.2.2.2.2.2.2.2.2.2.2.2.1.2.2 1 (.ref v) rfl) (k p e R s m args below meth c H locs cells slots arr hC)
theorem P_istore1 {G : GX} {own nm : String} {cc : ByteArray} {nL : Nat} {ret : Option FieldType} {d kc ks : Nat} {Q : Option Value → Shp → Mem → Prop} {pc pc' : Nat} {ls : List (Option Value)} {rest : List Value} {S : Shp} {I : Mem} {x0 : Option Value} {r : List (Option Value)} {o : Option Value} {v : Int32} (hd : decode cc pc = .ok (.istore_n 1, 1)) (hp : pc + 1 = pc') (hn : 1 < nL) (h0 : lc1 x0 = true) (k : PW G own nm cc nL ret d kc ks Q pc' (x0 :: some (.int v) :: r) rest S I) : PW G own nm cc nL ret d kc ks Q pc (x0 :: o :: r) (.int v :: rest) S I := by
  subst hp
  intro p e R s m args below meth c H locs cells slots arr hC
  obtain ⟨hx, hb, c1, c2, c3, c4, c5, c6, c7, c8, c9, hl, c10⟩ := hC
  obtain ⟨arr', e1, e2⟩ := lh_store (i := 1) (v := .int v) hl hn (by simp) rfl (fun j w hj hw => by
    have : j = 0 := by omega
    subst this
    have e1 : x0 = some w := Option.some.inj hw
    rw [e1] at h0
    simpa [lc1] using h0)
  have e2 : lh G arr' nL (x0 :: some (.int v) :: r) := e2
  have kk := k p e R s m args below meth c H locs cells slots arr' ⟨hx, hb, c1, c2, c3, c4, c5, c6, c7, c8, c9, e2, c10⟩
  intro T hT X
  obtain ⟨t, a, b⟩ := kk T hT X
  refine ⟨t, ?_, b⟩
  have e1 : storeLocals arr 1 (em G (.int v)) = some arr' := e1
  jvm_step X.here [X.here.top, hx, hb, hd, em]
  first | exact a | exact ⟨arr', e1, a⟩ | exact ⟨rfl, arr', e1, a⟩
theorem P_astore1 {G : GX} {own nm : String} {cc : ByteArray} {nL : Nat} {ret : Option FieldType} {d kc ks : Nat} {Q : Option Value → Shp → Mem → Prop} {pc pc' : Nat} {ls : List (Option Value)} {rest : List Value} {S : Shp} {I : Mem} {x0 : Option Value} {r : List (Option Value)} {o : Option Value} {v : Nat} (hd : decode cc pc = .ok (.astore_n 1, 1)) (hp : pc + 1 = pc') (hn : 1 < nL) (h0 : lc1 x0 = true) (k : PW G own nm cc nL ret d kc ks Q pc' (x0 :: some (.ref v) :: r) rest S I) : PW G own nm cc nL ret d kc ks Q pc (x0 :: o :: r) (.ref v :: rest) S I := by
  subst hp
  intro p e R s m args below meth c H locs cells slots arr hC
  obtain ⟨hx, hb, c1, c2, c3, c4, c5, c6, c7, c8, c9, hl, c10⟩ := hC
  obtain ⟨arr', e1, e2⟩ := lh_store (i := 1) (v := .ref v) hl hn (by simp) rfl (fun j w hj hw => by
    have : j = 0 := by omega
    subst this
    have e1 : x0 = some w := Option.some.inj hw
    rw [e1] at h0
    simpa [lc1] using h0)
  have e2 : lh G arr' nL (x0 :: some (.ref v) :: r) := e2
  have kk := k p e R s m args below meth c H locs cells slots arr' ⟨hx, hb, c1, c2, c3, c4, c5, c6, c7, c8, c9, e2, c10⟩
  intro T hT X
  obtain ⟨t, a, b⟩ := kk T hT X
  refine ⟨t, ?_, b⟩
  have e1 : storeLocals arr 1 (em G (.ref v)) = some arr' := e1
  jvm_step X.here [X.here.top, hx, hb, hd, em]
  first | exact a | exact ⟨arr', e1, a⟩ | exact ⟨rfl, arr', e1, a⟩
theorem P_iinc1 {G : GX} {own nm : String} {cc : ByteArray} {nL : Nat} {ret : Option FieldType} {d kc ks : Nat} {Q : Option Value → Shp → Mem → Prop} {pc pc' : Nat} {ls : List (Option Value)} {rest : List Value} {S : Shp} {I : Mem} {x0 : Option Value} {r : List (Option Value)} {x v : Int32} {n : Int} (hd : decode cc pc = .ok (.iinc 1 n, 3)) (hp : pc + 3 = pc') (hv : x + Int32.ofInt n = v) (hn : 1 < nL) (h0 : lc1 x0 = true) (k : PW G own nm cc nL ret d kc ks Q pc' (x0 :: some (.int v) :: r) rest S I) : PW G own nm cc nL ret d kc ks Q pc (x0 :: some (.int x) :: r) rest S I := by
  subst hp
  intro p e R s m args below meth c H locs cells slots arr hC
  obtain ⟨hx, hb, c1, c2, c3, c4, c5, c6, c7, c8, c9, hl, c10⟩ := hC
  obtain ⟨arr', e1, e2⟩ := lh_store (i := 1) (v := .int v) hl hn (by simp) rfl (fun j w hj hw => by
    have : j = 0 := by omega
    subst this
    have e1 : x0 = some w := Option.some.inj hw
    rw [e1] at h0
    simpa [lc1] using h0)
  have e2 : lh G arr' nL (x0 :: some (.int v) :: r) := e2
  have hi : arr[1]? = some (.val (.int x)) := hl.2.2 1 (.int x) rfl
  have kk := k p e R s m args below meth c H locs cells slots arr' ⟨hx, hb, c1, c2, c3, c4, c5, c6, c7, c8, c9, e2, c10⟩
  intro T hT X
  obtain ⟨t, a, b⟩ := kk T hT X
  refine ⟨t, ?_, b⟩
  have e1 : storeLocals arr 1 (.int v) = some arr' := e1
  rw [← hv] at e1
  jvm_step X.here [X.here.top, hx, hb, hd, hi, e1]
  exact a
theorem P_iload2 {G : GX} {own nm : String} {cc : ByteArray} {nL : Nat} {ret : Option FieldType} {d kc ks : Nat} {Q : Option Value → Shp → Mem → Prop} {pc pc' : Nat} {ls : List (Option Value)} {rest : List Value} {S : Shp} {I : Mem} {x0 x1 : Option Value} {r : List (Option Value)} {v : Int32} (hd : decode cc pc = .ok (.iload_n 2, 1)) (hp : pc + 1 = pc') (k : PW G own nm cc nL ret d kc ks Q pc' (x0 :: x1 :: some (.int v) :: r) (.int v :: rest) S I) : PW G own nm cc nL ret d kc ks Q pc (x0 :: x1 :: some (.int v) :: r) rest S I := by
  subst hp
  intro p e R s m args below meth c H locs cells slots arr hC
  exact lv_iload_n hC.1 hC.2.1 hd rfl (hC.2.2.2.2.2.2.2.2.2.2.2.1.2.2 2 (.int v) rfl) (k p e R s m args below meth c H locs cells slots arr hC)
theorem P_aload2 {G : GX} {own nm : String} {cc : ByteArray} {nL : Nat} {ret : Option FieldType} {d kc ks : Nat} {Q : Option Value → Shp → Mem → Prop} {pc pc' : Nat} {ls : List (Option Value)} {rest : List Value} {S : Shp} {I : Mem} {x0 x1 : Option Value} {r : List (Option Value)} {v : Nat} (hd : decode cc pc = .ok (.aload_n 2, 1)) (hp : pc + 1 = pc') (k : PW G own nm cc nL ret d kc ks Q pc' (x0 :: x1 :: some (.ref v) :: r) (.ref v :: rest) S I) : PW G own nm cc nL ret d kc ks Q pc (x0 :: x1 :: some (.ref v) :: r) rest S I := by
  subst hp
  intro p e R s m args below meth c H locs cells slots arr hC
  exact lv_aload_n hC.1 hC.2.1 hd rfl (hC.2.2.2.2.2.2.2.2.2.2.2.1.2.2 2 (.ref v) rfl) (k p e R s m args below meth c H locs cells slots arr hC)
theorem P_istore2 {G : GX} {own nm : String} {cc : ByteArray} {nL : Nat} {ret : Option FieldType} {d kc ks : Nat} {Q : Option Value → Shp → Mem → Prop} {pc pc' : Nat} {ls : List (Option Value)} {rest : List Value} {S : Shp} {I : Mem} {x0 x1 : Option Value} {r : List (Option Value)} {o : Option Value} {v : Int32} (hd : decode cc pc = .ok (.istore_n 2, 1)) (hp : pc + 1 = pc') (hn : 2 < nL) (h1 : lc1 x1 = true) (k : PW G own nm cc nL ret d kc ks Q pc' (x0 :: x1 :: some (.int v) :: r) rest S I) : PW G own nm cc nL ret d kc ks Q pc (x0 :: x1 :: o :: r) (.int v :: rest) S I := by
  subst hp
  intro p e R s m args below meth c H locs cells slots arr hC
  obtain ⟨hx, hb, c1, c2, c3, c4, c5, c6, c7, c8, c9, hl, c10⟩ := hC
  obtain ⟨arr', e1, e2⟩ := lh_store (i := 2) (v := .int v) hl hn (by simp) rfl (fun j w hj hw => by
    have : j = 1 := by omega
    subst this
    have e1 : x1 = some w := Option.some.inj hw
    rw [e1] at h1
    simpa [lc1] using h1)
  have e2 : lh G arr' nL (x0 :: x1 :: some (.int v) :: r) := e2
  have kk := k p e R s m args below meth c H locs cells slots arr' ⟨hx, hb, c1, c2, c3, c4, c5, c6, c7, c8, c9, e2, c10⟩
  intro T hT X
  obtain ⟨t, a, b⟩ := kk T hT X
  refine ⟨t, ?_, b⟩
  have e1 : storeLocals arr 2 (em G (.int v)) = some arr' := e1
  jvm_step X.here [X.here.top, hx, hb, hd, em]
  first | exact a | exact ⟨arr', e1, a⟩ | exact ⟨rfl, arr', e1, a⟩
theorem P_astore2 {G : GX} {own nm : String} {cc : ByteArray} {nL : Nat} {ret : Option FieldType} {d kc ks : Nat} {Q : Option Value → Shp → Mem → Prop} {pc pc' : Nat} {ls : List (Option Value)} {rest : List Value} {S : Shp} {I : Mem} {x0 x1 : Option Value} {r : List (Option Value)} {o : Option Value} {v : Nat} (hd : decode cc pc = .ok (.astore_n 2, 1)) (hp : pc + 1 = pc') (hn : 2 < nL) (h1 : lc1 x1 = true) (k : PW G own nm cc nL ret d kc ks Q pc' (x0 :: x1 :: some (.ref v) :: r) rest S I) : PW G own nm cc nL ret d kc ks Q pc (x0 :: x1 :: o :: r) (.ref v :: rest) S I := by
  subst hp
  intro p e R s m args below meth c H locs cells slots arr hC
  obtain ⟨hx, hb, c1, c2, c3, c4, c5, c6, c7, c8, c9, hl, c10⟩ := hC
  obtain ⟨arr', e1, e2⟩ := lh_store (i := 2) (v := .ref v) hl hn (by simp) rfl (fun j w hj hw => by
    have : j = 1 := by omega
    subst this
    have e1 : x1 = some w := Option.some.inj hw
    rw [e1] at h1
    simpa [lc1] using h1)
  have e2 : lh G arr' nL (x0 :: x1 :: some (.ref v) :: r) := e2
  have kk := k p e R s m args below meth c H locs cells slots arr' ⟨hx, hb, c1, c2, c3, c4, c5, c6, c7, c8, c9, e2, c10⟩
  intro T hT X
  obtain ⟨t, a, b⟩ := kk T hT X
  refine ⟨t, ?_, b⟩
  have e1 : storeLocals arr 2 (em G (.ref v)) = some arr' := e1
  jvm_step X.here [X.here.top, hx, hb, hd, em]
  first | exact a | exact ⟨arr', e1, a⟩ | exact ⟨rfl, arr', e1, a⟩
theorem P_iinc2 {G : GX} {own nm : String} {cc : ByteArray} {nL : Nat} {ret : Option FieldType} {d kc ks : Nat} {Q : Option Value → Shp → Mem → Prop} {pc pc' : Nat} {ls : List (Option Value)} {rest : List Value} {S : Shp} {I : Mem} {x0 x1 : Option Value} {r : List (Option Value)} {x v : Int32} {n : Int} (hd : decode cc pc = .ok (.iinc 2 n, 3)) (hp : pc + 3 = pc') (hv : x + Int32.ofInt n = v) (hn : 2 < nL) (h1 : lc1 x1 = true) (k : PW G own nm cc nL ret d kc ks Q pc' (x0 :: x1 :: some (.int v) :: r) rest S I) : PW G own nm cc nL ret d kc ks Q pc (x0 :: x1 :: some (.int x) :: r) rest S I := by
  subst hp
  intro p e R s m args below meth c H locs cells slots arr hC
  obtain ⟨hx, hb, c1, c2, c3, c4, c5, c6, c7, c8, c9, hl, c10⟩ := hC
  obtain ⟨arr', e1, e2⟩ := lh_store (i := 2) (v := .int v) hl hn (by simp) rfl (fun j w hj hw => by
    have : j = 1 := by omega
    subst this
    have e1 : x1 = some w := Option.some.inj hw
    rw [e1] at h1
    simpa [lc1] using h1)
  have e2 : lh G arr' nL (x0 :: x1 :: some (.int v) :: r) := e2
  have hi : arr[2]? = some (.val (.int x)) := hl.2.2 2 (.int x) rfl
  have kk := k p e R s m args below meth c H locs cells slots arr' ⟨hx, hb, c1, c2, c3, c4, c5, c6, c7, c8, c9, e2, c10⟩
  intro T hT X
  obtain ⟨t, a, b⟩ := kk T hT X
  refine ⟨t, ?_, b⟩
  have e1 : storeLocals arr 2 (.int v) = some arr' := e1
  rw [← hv] at e1
  jvm_step X.here [X.here.top, hx, hb, hd, hi, e1]
  exact a
theorem P_iload3 {G : GX} {own nm : String} {cc : ByteArray} {nL : Nat} {ret : Option FieldType} {d kc ks : Nat} {Q : Option Value → Shp → Mem → Prop} {pc pc' : Nat} {ls : List (Option Value)} {rest : List Value} {S : Shp} {I : Mem} {x0 x1 x2 : Option Value} {r : List (Option Value)} {v : Int32} (hd : decode cc pc = .ok (.iload_n 3, 1)) (hp : pc + 1 = pc') (k : PW G own nm cc nL ret d kc ks Q pc' (x0 :: x1 :: x2 :: some (.int v) :: r) (.int v :: rest) S I) : PW G own nm cc nL ret d kc ks Q pc (x0 :: x1 :: x2 :: some (.int v) :: r) rest S I := by
  subst hp
  intro p e R s m args below meth c H locs cells slots arr hC
  exact lv_iload_n hC.1 hC.2.1 hd rfl (hC.2.2.2.2.2.2.2.2.2.2.2.1.2.2 3 (.int v) rfl) (k p e R s m args below meth c H locs cells slots arr hC)
theorem P_aload3 {G : GX} {own nm : String} {cc : ByteArray} {nL : Nat} {ret : Option FieldType} {d kc ks : Nat} {Q : Option Value → Shp → Mem → Prop} {pc pc' : Nat} {ls : List (Option Value)} {rest : List Value} {S : Shp} {I : Mem} {x0 x1 x2 : Option Value} {r : List (Option Value)} {v : Nat} (hd : decode cc pc = .ok (.aload_n 3, 1)) (hp : pc + 1 = pc') (k : PW G own nm cc nL ret d kc ks Q pc' (x0 :: x1 :: x2 :: some (.ref v) :: r) (.ref v :: rest) S I) : PW G own nm cc nL ret d kc ks Q pc (x0 :: x1 :: x2 :: some (.ref v) :: r) rest S I := by
  subst hp
  intro p e R s m args below meth c H locs cells slots arr hC
  exact lv_aload_n hC.1 hC.2.1 hd rfl (hC.2.2.2.2.2.2.2.2.2.2.2.1.2.2 3 (.ref v) rfl) (k p e R s m args below meth c H locs cells slots arr hC)
theorem P_lload3 {G : GX} {own nm : String} {cc : ByteArray} {nL : Nat} {ret : Option FieldType} {d kc ks : Nat} {Q : Option Value → Shp → Mem → Prop} {pc pc' : Nat} {ls : List (Option Value)} {rest : List Value} {S : Shp} {I : Mem} {x0 x1 x2 : Option Value} {r : List (Option Value)} {v : Int64} (hd : decode cc pc = .ok (.lload_n 3, 1)) (hp : pc + 1 = pc') (k : PW G own nm cc nL ret d kc ks Q pc' (x0 :: x1 :: x2 :: some (.long v) :: r) (.long v :: rest) S I) : PW G own nm cc nL ret d kc ks Q pc (x0 :: x1 :: x2 :: some (.long v) :: r) rest S I := by
  subst hp
  intro p e R s m args below meth c H locs cells slots arr hC
  exact lv_lload_n hC.1 hC.2.1 hd rfl (hC.2.2.2.2.2.2.2.2.2.2.2.1.2.2 3 (.long v) rfl) (k p e R s m args below meth c H locs cells slots arr hC)
theorem P_istore3 {G : GX} {own nm : String} {cc : ByteArray} {nL : Nat} {ret : Option FieldType} {d kc ks : Nat} {Q : Option Value → Shp → Mem → Prop} {pc pc' : Nat} {ls : List (Option Value)} {rest : List Value} {S : Shp} {I : Mem} {x0 x1 x2 : Option Value} {r : List (Option Value)} {o : Option Value} {v : Int32} (hd : decode cc pc = .ok (.istore_n 3, 1)) (hp : pc + 1 = pc') (hn : 3 < nL) (h2 : lc1 x2 = true) (k : PW G own nm cc nL ret d kc ks Q pc' (x0 :: x1 :: x2 :: some (.int v) :: r) rest S I) : PW G own nm cc nL ret d kc ks Q pc (x0 :: x1 :: x2 :: o :: r) (.int v :: rest) S I := by
  subst hp
  intro p e R s m args below meth c H locs cells slots arr hC
  obtain ⟨hx, hb, c1, c2, c3, c4, c5, c6, c7, c8, c9, hl, c10⟩ := hC
  obtain ⟨arr', e1, e2⟩ := lh_store (i := 3) (v := .int v) hl hn (by simp) rfl (fun j w hj hw => by
    have : j = 2 := by omega
    subst this
    have e1 : x2 = some w := Option.some.inj hw
    rw [e1] at h2
    simpa [lc1] using h2)
  have e2 : lh G arr' nL (x0 :: x1 :: x2 :: some (.int v) :: r) := e2
  have kk := k p e R s m args below meth c H locs cells slots arr' ⟨hx, hb, c1, c2, c3, c4, c5, c6, c7, c8, c9, e2, c10⟩
  intro T hT X
  obtain ⟨t, a, b⟩ := kk T hT X
  refine ⟨t, ?_, b⟩
  have e1 : storeLocals arr 3 (em G (.int v)) = some arr' := e1
  jvm_step X.here [X.here.top, hx, hb, hd, em]
  first | exact a | exact ⟨arr', e1, a⟩ | exact ⟨rfl, arr', e1, a⟩
theorem P_astore3 {G : GX} {own nm : String} {cc : ByteArray} {nL : Nat} {ret : Option FieldType} {d kc ks : Nat} {Q : Option Value → Shp → Mem → Prop} {pc pc' : Nat} {ls : List (Option Value)} {rest : List Value} {S : Shp} {I : Mem} {x0 x1 x2 : Option Value} {r : List (Option Value)} {o : Option Value} {v : Nat} (hd : decode cc pc = .ok (.astore_n 3, 1)) (hp : pc + 1 = pc') (hn : 3 < nL) (h2 : lc1 x2 = true) (k : PW G own nm cc nL ret d kc ks Q pc' (x0 :: x1 :: x2 :: some (.ref v) :: r) rest S I) : PW G own nm cc nL ret d kc ks Q pc (x0 :: x1 :: x2 :: o :: r) (.ref v :: rest) S I := by
  subst hp
  intro p e R s m args below meth c H locs cells slots arr hC
  obtain ⟨hx, hb, c1, c2, c3, c4, c5, c6, c7, c8, c9, hl, c10⟩ := hC
  obtain ⟨arr', e1, e2⟩ := lh_store (i := 3) (v := .ref v) hl hn (by simp) rfl (fun j w hj hw => by
    have : j = 2 := by omega
    subst this
    have e1 : x2 = some w := Option.some.inj hw
    rw [e1] at h2
    simpa [lc1] using h2)
  have e2 : lh G arr' nL (x0 :: x1 :: x2 :: some (.ref v) :: r) := e2
  have kk := k p e R s m args below meth c H locs cells slots arr' ⟨hx, hb, c1, c2, c3, c4, c5, c6, c7, c8, c9, e2, c10⟩
  intro T hT X
  obtain ⟨t, a, b⟩ := kk T hT X
  refine ⟨t, ?_, b⟩
  have e1 : storeLocals arr 3 (em G (.ref v)) = some arr' := e1
  jvm_step X.here [X.here.top, hx, hb, hd, em]
  first | exact a | exact ⟨arr', e1, a⟩ | exact ⟨rfl, arr', e1, a⟩
theorem P_iinc3 {G : GX} {own nm : String} {cc : ByteArray} {nL : Nat} {ret : Option FieldType} {d kc ks : Nat} {Q : Option Value → Shp → Mem → Prop} {pc pc' : Nat} {ls : List (Option Value)} {rest : List Value} {S : Shp} {I : Mem} {x0 x1 x2 : Option Value} {r : List (Option Value)} {x v : Int32} {n : Int} (hd : decode cc pc = .ok (.iinc 3 n, 3)) (hp : pc + 3 = pc') (hv : x + Int32.ofInt n = v) (hn : 3 < nL) (h2 : lc1 x2 = true) (k : PW G own nm cc nL ret d kc ks Q pc' (x0 :: x1 :: x2 :: some (.int v) :: r) rest S I) : PW G own nm cc nL ret d kc ks Q pc (x0 :: x1 :: x2 :: some (.int x) :: r) rest S I := by
  subst hp
  intro p e R s m args below meth c H locs cells slots arr hC
  obtain ⟨hx, hb, c1, c2, c3, c4, c5, c6, c7, c8, c9, hl, c10⟩ := hC
  obtain ⟨arr', e1, e2⟩ := lh_store (i := 3) (v := .int v) hl hn (by simp) rfl (fun j w hj hw => by
    have : j = 2 := by omega
    subst this
    have e1 : x2 = some w := Option.some.inj hw
    rw [e1] at h2
    simpa [lc1] using h2)
  have e2 : lh G arr' nL (x0 :: x1 :: x2 :: some (.int v) :: r) := e2
  have hi : arr[3]? = some (.val (.int x)) := hl.2.2 3 (.int x) rfl
  have kk := k p e R s m args below meth c H locs cells slots arr' ⟨hx, hb, c1, c2, c3, c4, c5, c6, c7, c8, c9, e2, c10⟩
  intro T hT X
  obtain ⟨t, a, b⟩ := kk T hT X
  refine ⟨t, ?_, b⟩
  have e1 : storeLocals arr 3 (.int v) = some arr' := e1
  rw [← hv] at e1
  jvm_step X.here [X.here.top, hx, hb, hd, hi, e1]
  exact a
theorem P_iload4 {G : GX} {own nm : String} {cc : ByteArray} {nL : Nat} {ret : Option FieldType} {d kc ks : Nat} {Q : Option Value → Shp → Mem → Prop} {pc pc' : Nat} {ls : List (Option Value)} {rest : List Value} {S : Shp} {I : Mem} {x0 x1 x2 x3 : Option Value} {r : List (Option Value)} {v : Int32} (hd : decode cc pc = .ok (.iload 4, 2)) (hp : pc + 2 = pc') (k : PW G own nm cc nL ret d kc ks Q pc' (x0 :: x1 :: x2 :: x3 :: some (.int v) :: r) (.int v :: rest) S I) : PW G own nm cc nL ret d kc ks Q pc (x0 :: x1 :: x2 :: x3 :: some (.int v) :: r) rest S I := by
  subst hp
  intro p e R s m args below meth c H locs cells slots arr hC
  exact lv_iload hC.1 hC.2.1 hd (hC.2.2.2.2.2.2.2.2.2.2.2.1.2.2 4 (.int v) rfl) (k p e R s m args below meth c H locs cells slots arr hC)
theorem P_aload4 {G : GX} {own nm : String} {cc : ByteArray} {nL : Nat} {ret : Option FieldType} {d kc ks : Nat} {Q : Option Value → Shp → Mem → Prop} {pc pc' : Nat} {ls : List (Option Value)} {rest : List Value} {S : Shp} {I : Mem} {x0 x1 x2 x3 : Option Value} {r : List (Option Value)} {v : Nat} (hd : decode cc pc = .ok (.aload 4, 2)) (hp : pc + 2 = pc') (k : PW G own nm cc nL ret d kc ks Q pc' (x0 :: x1 :: x2 :: x3 :: some (.ref v) :: r) (.ref v :: rest) S I) : PW G own nm cc nL ret d kc ks Q pc (x0 :: x1 :: x2 :: x3 :: some (.ref v) :: r) rest S I := by
  subst hp
  intro p e R s m args below meth c H locs cells slots arr hC
  exact lv_aload hC.1 hC.2.1 hd (hC.2.2.2.2.2.2.2.2.2.2.2.1.2.2 4 (.ref v) rfl) (k p e R s m args below meth c H locs cells slots arr hC)
theorem P_lload4 {G : GX} {own nm : String} {cc : ByteArray} {nL : Nat} {ret : Option FieldType} {d kc ks : Nat} {Q : Option Value → Shp → Mem → Prop} {pc pc' : Nat} {ls : List (Option Value)} {rest : List Value} {S : Shp} {I : Mem} {x0 x1 x2 x3 : Option Value} {r : List (Option Value)} {v : Int64} (hd : decode cc pc = .ok (.lload 4, 2)) (hp : pc + 2 = pc') (k : PW G own nm cc nL ret d kc ks Q pc' (x0 :: x1 :: x2 :: x3 :: some (.long v) :: r) (.long v :: rest) S I) : PW G own nm cc nL ret d kc ks Q pc (x0 :: x1 :: x2 :: x3 :: some (.long v) :: r) rest S I := by
  subst hp
  intro p e R s m args below meth c H locs cells slots arr hC
  exact lv_lload hC.1 hC.2.1 hd (hC.2.2.2.2.2.2.2.2.2.2.2.1.2.2 4 (.long v) rfl) (k p e R s m args below meth c H locs cells slots arr hC)
theorem P_istore4 {G : GX} {own nm : String} {cc : ByteArray} {nL : Nat} {ret : Option FieldType} {d kc ks : Nat} {Q : Option Value → Shp → Mem → Prop} {pc pc' : Nat} {ls : List (Option Value)} {rest : List Value} {S : Shp} {I : Mem} {x0 x1 x2 x3 : Option Value} {r : List (Option Value)} {o : Option Value} {v : Int32} (hd : decode cc pc = .ok (.istore 4, 2)) (hp : pc + 2 = pc') (hn : 4 < nL) (h3 : lc1 x3 = true) (k : PW G own nm cc nL ret d kc ks Q pc' (x0 :: x1 :: x2 :: x3 :: some (.int v) :: r) rest S I) : PW G own nm cc nL ret d kc ks Q pc (x0 :: x1 :: x2 :: x3 :: o :: r) (.int v :: rest) S I := by
  subst hp
  intro p e R s m args below meth c H locs cells slots arr hC
  obtain ⟨hx, hb, c1, c2, c3, c4, c5, c6, c7, c8, c9, hl, c10⟩ := hC
  obtain ⟨arr', e1, e2⟩ := lh_store (i := 4) (v := .int v) hl hn (by simp) rfl (fun j w hj hw => by
    have : j = 3 := by omega
    subst this
    have e1 : x3 = some w := Option.some.inj hw
    rw [e1] at h3
    simpa [lc1] using h3)
  have e2 : lh G arr' nL (x0 :: x1 :: x2 :: x3 :: some (.int v) :: r) := e2
  have kk := k p e R s m args below meth c H locs cells slots arr' ⟨hx, hb, c1, c2, c3, c4, c5, c6, c7, c8, c9, e2, c10⟩
  intro T hT X
  obtain ⟨t, a, b⟩ := kk T hT X
  refine ⟨t, ?_, b⟩
  have e1 : storeLocals arr 4 (em G (.int v)) = some arr' := e1
  jvm_step X.here [X.here.top, hx, hb, hd, em]
  first | exact a | exact ⟨arr', e1, a⟩ | exact ⟨rfl, arr', e1, a⟩
theorem P_astore4 {G : GX} {own nm : String} {cc : ByteArray} {nL : Nat} {ret : Option FieldType} {d kc ks : Nat} {Q : Option Value → Shp → Mem → Prop} {pc pc' : Nat} {ls : List (Option Value)} {rest : List Value} {S : Shp} {I : Mem} {x0 x1 x2 x3 : Option Value} {r : List (Option Value)} {o : Option Value} {v : Nat} (hd : decode cc pc = .ok (.astore 4, 2)) (hp : pc + 2 = pc') (hn : 4 < nL) (h3 : lc1 x3 = true) (k : PW G own nm cc nL ret d kc ks Q pc' (x0 :: x1 :: x2 :: x3 :: some (.ref v) :: r) rest S I) : PW G own nm cc nL ret d kc ks Q pc (x0 :: x1 :: x2 :: x3 :: o :: r) (.ref v :: rest) S I := by
  subst hp
  intro p e R s m args below meth c H locs cells slots arr hC
  obtain ⟨hx, hb, c1, c2, c3, c4, c5, c6, c7, c8, c9, hl, c10⟩ := hC
  obtain ⟨arr', e1, e2⟩ := lh_store (i := 4) (v := .ref v) hl hn (by simp) rfl (fun j w hj hw => by
    have : j = 3 := by omega
    subst this
    have e1 : x3 = some w := Option.some.inj hw
    rw [e1] at h3
    simpa [lc1] using h3)
  have e2 : lh G arr' nL (x0 :: x1 :: x2 :: x3 :: some (.ref v) :: r) := e2
  have kk := k p e R s m args below meth c H locs cells slots arr' ⟨hx, hb, c1, c2, c3, c4, c5, c6, c7, c8, c9, e2, c10⟩
  intro T hT X
  obtain ⟨t, a, b⟩ := kk T hT X
  refine ⟨t, ?_, b⟩
  have e1 : storeLocals arr 4 (em G (.ref v)) = some arr' := e1
  jvm_step X.here [X.here.top, hx, hb, hd, em]
  first | exact a | exact ⟨arr', e1, a⟩ | exact ⟨rfl, arr', e1, a⟩
theorem P_iinc4 {G : GX} {own nm : String} {cc : ByteArray} {nL : Nat} {ret : Option FieldType} {d kc ks : Nat} {Q : Option Value → Shp → Mem → Prop} {pc pc' : Nat} {ls : List (Option Value)} {rest : List Value} {S : Shp} {I : Mem} {x0 x1 x2 x3 : Option Value} {r : List (Option Value)} {x v : Int32} {n : Int} (hd : decode cc pc = .ok (.iinc 4 n, 3)) (hp : pc + 3 = pc') (hv : x + Int32.ofInt n = v) (hn : 4 < nL) (h3 : lc1 x3 = true) (k : PW G own nm cc nL ret d kc ks Q pc' (x0 :: x1 :: x2 :: x3 :: some (.int v) :: r) rest S I) : PW G own nm cc nL ret d kc ks Q pc (x0 :: x1 :: x2 :: x3 :: some (.int x) :: r) rest S I := by
  subst hp
  intro p e R s m args below meth c H locs cells slots arr hC
  obtain ⟨hx, hb, c1, c2, c3, c4, c5, c6, c7, c8, c9, hl, c10⟩ := hC
  obtain ⟨arr', e1, e2⟩ := lh_store (i := 4) (v := .int v) hl hn (by simp) rfl (fun j w hj hw => by
    have : j = 3 := by omega
    subst this
    have e1 : x3 = some w := Option.some.inj hw
    rw [e1] at h3
    simpa [lc1] using h3)
  have e2 : lh G arr' nL (x0 :: x1 :: x2 :: x3 :: some (.int v) :: r) := e2
  have hi : arr[4]? = some (.val (.int x)) := hl.2.2 4 (.int x) rfl
  have kk := k p e R s m args below meth c H locs cells slots arr' ⟨hx, hb, c1, c2, c3, c4, c5, c6, c7, c8, c9, e2, c10⟩
  intro T hT X
  obtain ⟨t, a, b⟩ := kk T hT X
  refine ⟨t, ?_, b⟩
  have e1 : storeLocals arr 4 (.int v) = some arr' := e1
  rw [← hv] at e1
  jvm_step X.here [X.here.top, hx, hb, hd, hi, e1]
  exact a
theorem P_lstore4 {G : GX} {own nm : String} {cc : ByteArray} {nL : Nat} {ret : Option FieldType} {d kc ks : Nat} {Q : Option Value → Shp → Mem → Prop} {pc pc' : Nat} {ls : List (Option Value)} {rest : List Value} {S : Shp} {I : Mem} {x0 x1 x2 x3 : Option Value} {r : List (Option Value)} {o o2 : Option Value} {v : Int64} (hd : decode cc pc = .ok (.lstore 4, 2)) (hp : pc + 2 = pc') (hn : 4 + 1 < nL) (h3 : lc1 x3 = true) (k : PW G own nm cc nL ret d kc ks Q pc' (x0 :: x1 :: x2 :: x3 :: some (.long v) :: none :: r) rest S I) : PW G own nm cc nL ret d kc ks Q pc (x0 :: x1 :: x2 :: x3 :: o :: o2 :: r) (.long v :: rest) S I := by
  subst hp
  intro p e R s m args below meth c H locs cells slots arr hC
  obtain ⟨hx, hb, c1, c2, c3, c4, c5, c6, c7, c8, c9, hl, c10⟩ := hC
  obtain ⟨arr', e1, e2⟩ := lh_storeL (i := 4) (x := v) hl hn (by simp) (fun j w hj hw => by
    have : j = 3 := by omega
    subst this
    have e1 : x3 = some w := Option.some.inj hw
    rw [e1] at h3
    simpa [lc1] using h3)
  have e2 : lh G arr' nL (x0 :: x1 :: x2 :: x3 :: some (.long v) :: none :: r) := e2
  have kk := k p e R s m args below meth c H locs cells slots arr' ⟨hx, hb, c1, c2, c3, c4, c5, c6, c7, c8, c9, e2, c10⟩
  intro T hT X
  obtain ⟨t, a, b⟩ := kk T hT X
  refine ⟨t, ?_, b⟩
  jvm_step X.here [X.here.top, hx, hb, hd, em]
  first | exact a | exact ⟨arr', e1, a⟩ | exact ⟨rfl, arr', e1, a⟩
theorem P_iload5 {G : GX} {own nm : String} {cc : ByteArray} {nL : Nat} {ret : Option FieldType} {d kc ks : Nat} {Q : Option Value → Shp → Mem → Prop} {pc pc' : Nat} {ls : List (Option Value)} {rest : List Value} {S : Shp} {I : Mem} {x0 x1 x2 x3 x4 : Option Value} {r : List (Option Value)} {v : Int32} (hd : decode cc pc = .ok (.iload 5, 2)) (hp : pc + 2 = pc') (k : PW G own nm cc nL ret d kc ks Q pc' (x0 :: x1 :: x2 :: x3 :: x4 :: some (.int v) :: r) (.int v :: rest) S I) : PW G own nm cc nL ret d kc ks Q pc (x0 :: x1 :: x2 :: x3 :: x4 :: some (.int v) :: r) rest S I := by
  subst hp
  intro p e R s m args below meth c H locs cells slots arr hC
  exact lv_iload hC.1 hC.2.1 hd (hC.2.2.2.2.2.2.2.2.2.2.2.1.2.2 5 (.int v) rfl) (k p e R s m args below meth c H locs cells slots arr hC)
theorem P_aload5 {G : GX} {own nm : String} {cc : ByteArray} {nL : Nat} {ret : Option FieldType} {d kc ks : Nat} {Q : Option Value → Shp → Mem → Prop} {pc pc' : Nat} {ls : List (Option Value)} {rest : List Value} {S : Shp} {I : Mem} {x0 x1 x2 x3 x4 : Option Value} {r : List (Option Value)} {v : Nat} (hd : decode cc pc = .ok (.aload 5, 2)) (hp : pc + 2 = pc') (k : PW G own nm cc nL ret d kc ks Q pc' (x0 :: x1 :: x2 :: x3 :: x4 :: some (.ref v) :: r) (.ref v :: rest) S I) : PW G own nm cc nL ret d kc ks Q pc (x0 :: x1 :: x2 :: x3 :: x4 :: some (.ref v) :: r) rest S I := by
  subst hp
  intro p e R s m args below meth c H locs cells slots arr hC
  exact lv_aload hC.1 hC.2.1 hd (hC.2.2.2.2.2.2.2.2.2.2.2.1.2.2 5 (.ref v) rfl) (k p e R s m args below meth c H locs cells slots arr hC)
theorem P_lload5 {G : GX} {own nm : String} {cc : ByteArray} {nL : Nat} {ret : Option FieldType} {d kc ks : Nat} {Q : Option Value → Shp → Mem → Prop} {pc pc' : Nat} {ls : List (Option Value)} {rest : List Value} {S : Shp} {I : Mem} {x0 x1 x2 x3 x4 : Option Value} {r : List (Option Value)} {v : Int64} (hd : decode cc pc = .ok (.lload 5, 2)) (hp : pc + 2 = pc') (k : PW G own nm cc nL ret d kc ks Q pc' (x0 :: x1 :: x2 :: x3 :: x4 :: some (.long v) :: r) (.long v :: rest) S I) : PW G own nm cc nL ret d kc ks Q pc (x0 :: x1 :: x2 :: x3 :: x4 :: some (.long v) :: r) rest S I := by
  subst hp
  intro p e R s m args below meth c H locs cells slots arr hC
  exact lv_lload hC.1 hC.2.1 hd (hC.2.2.2.2.2.2.2.2.2.2.2.1.2.2 5 (.long v) rfl) (k p e R s m args below meth c H locs cells slots arr hC)
theorem P_istore5 {G : GX} {own nm : String} {cc : ByteArray} {nL : Nat} {ret : Option FieldType} {d kc ks : Nat} {Q : Option Value → Shp → Mem → Prop} {pc pc' : Nat} {ls : List (Option Value)} {rest : List Value} {S : Shp} {I : Mem} {x0 x1 x2 x3 x4 : Option Value} {r : List (Option Value)} {o : Option Value} {v : Int32} (hd : decode cc pc = .ok (.istore 5, 2)) (hp : pc + 2 = pc') (hn : 5 < nL) (h4 : lc1 x4 = true) (k : PW G own nm cc nL ret d kc ks Q pc' (x0 :: x1 :: x2 :: x3 :: x4 :: some (.int v) :: r) rest S I) : PW G own nm cc nL ret d kc ks Q pc (x0 :: x1 :: x2 :: x3 :: x4 :: o :: r) (.int v :: rest) S I := by
  subst hp
  intro p e R s m args below meth c H locs cells slots arr hC
  obtain ⟨hx, hb, c1, c2, c3, c4, c5, c6, c7, c8, c9, hl, c10⟩ := hC
  obtain ⟨arr', e1, e2⟩ := lh_store (i := 5) (v := .int v) hl hn (by simp) rfl (fun j w hj hw => by
    have : j = 4 := by omega
    subst this
    have e1 : x4 = some w := Option.some.inj hw
    rw [e1] at h4
    simpa [lc1] using h4)
  have e2 : lh G arr' nL (x0 :: x1 :: x2 :: x3 :: x4 :: some (.int v) :: r) := e2
  have kk := k p e R s m args below meth c H locs cells slots arr' ⟨hx, hb, c1, c2, c3, c4, c5, c6, c7, c8, c9, e2, c10⟩
  intro T hT X
  obtain ⟨t, a, b⟩ := kk T hT X
  refine ⟨t, ?_, b⟩
  have e1 : storeLocals arr 5 (em G (.int v)) = some arr' := e1
  jvm_step X.here [X.here.top, hx, hb, hd, em]
  first | exact a | exact ⟨arr', e1, a⟩ | exact ⟨rfl, arr', e1, a⟩
theorem P_astore5 {G : GX} {own nm : String} {cc : ByteArray} {nL : Nat} {ret : Option FieldType} {d kc ks : Nat} {Q : Option Value → Shp → Mem → Prop} {pc pc' : Nat} {ls : List (Option Value)} {rest : List Value} {S : Shp} {I : Mem} {x0 x1 x2 x3 x4 : Option Value} {r : List (Option Value)} {o : Option Value} {v : Nat} (hd : decode cc pc = .ok (.astore 5, 2)) (hp : pc + 2 = pc') (hn : 5 < nL) (h4 : lc1 x4 = true) (k : PW G own nm cc nL ret d kc ks Q pc' (x0 :: x1 :: x2 :: x3 :: x4 :: some (.ref v) :: r) rest S I) : PW G own nm cc nL ret d kc ks Q pc (x0 :: x1 :: x2 :: x3 :: x4 :: o :: r) (.ref v :: rest) S I := by
  subst hp
  intro p e R s m args below meth c H locs cells slots arr hC
  obtain ⟨hx, hb, c1, c2, c3, c4, c5, c6, c7, c8, c9, hl, c10⟩ := hC
  obtain ⟨arr', e1, e2⟩ := lh_store (i := 5) (v := .ref v) hl hn (by simp) rfl (fun j w hj hw => by
    have : j = 4 := by omega
    subst this
    have e1 : x4 = some w := Option.some.inj hw
    rw [e1] at h4
    simpa [lc1] using h4)
  have e2 : lh G arr' nL (x0 :: x1 :: x2 :: x3 :: x4 :: some (.ref v) :: r) := e2
  have kk := k p e R s m args below meth c H locs cells slots arr' ⟨hx, hb, c1, c2, c3, c4, c5, c6, c7, c8, c9, e2, c10⟩
  intro T hT X
  obtain ⟨t, a, b⟩ := kk T hT X
  refine ⟨t, ?_, b⟩
  have e1 : storeLocals arr 5 (em G (.ref v)) = some arr' := e1
  jvm_step X.here [X.here.top, hx, hb, hd, em]
  first | exact a | exact ⟨arr', e1, a⟩ | exact ⟨rfl, arr', e1, a⟩
theorem P_iinc5 {G : GX} {own nm : String} {cc : ByteArray} {nL : Nat} {ret : Option FieldType} {d kc ks : Nat} {Q : Option Value → Shp → Mem → Prop} {pc pc' : Nat} {ls : List (Option Value)} {rest : List Value} {S : Shp} {I : Mem} {x0 x1 x2 x3 x4 : Option Value} {r : List (Option Value)} {x v : Int32} {n : Int} (hd : decode cc pc = .ok (.iinc 5 n, 3)) (hp : pc + 3 = pc') (hv : x + Int32.ofInt n = v) (hn : 5 < nL) (h4 : lc1 x4 = true) (k : PW G own nm cc nL ret d kc ks Q pc' (x0 :: x1 :: x2 :: x3 :: x4 :: some (.int v) :: r) rest S I) : PW G own nm cc nL ret d kc ks Q pc (x0 :: x1 :: x2 :: x3 :: x4 :: some (.int x) :: r) rest S I := by
  subst hp
  intro p e R s m args below meth c H locs cells slots arr hC
  obtain ⟨hx, hb, c1, c2, c3, c4, c5, c6, c7, c8, c9, hl, c10⟩ := hC
  obtain ⟨arr', e1, e2⟩ := lh_store (i := 5) (v := .int v) hl hn (by simp) rfl (fun j w hj hw => by
    have : j = 4 := by omega
    subst this
    have e1 : x4 = some w := Option.some.inj hw
    rw [e1] at h4
    simpa [lc1] using h4)
  have e2 : lh G arr' nL (x0 :: x1 :: x2 :: x3 :: x4 :: some (.int v) :: r) := e2
  have hi : arr[5]? = some (.val (.int x)) := hl.2.2 5 (.int x) rfl
  have kk := k p e R s m args below meth c H locs cells slots arr' ⟨hx, hb, c1, c2, c3, c4, c5, c6, c7, c8, c9, e2, c10⟩
  intro T hT X
  obtain ⟨t, a, b⟩ := kk T hT X
  refine ⟨t, ?_, b⟩
  have e1 : storeLocals arr 5 (.int v) = some arr' := e1
  rw [← hv] at e1
  jvm_step X.here [X.here.top, hx, hb, hd, hi, e1]
  exact a
theorem P_lstore5 {G : GX} {own nm : String} {cc : ByteArray} {nL : Nat} {ret : Option FieldType} {d kc ks : Nat} {Q : Option Value → Shp → Mem → Prop} {pc pc' : Nat} {ls : List (Option Value)} {rest : List Value} {S : Shp} {I : Mem} {x0 x1 x2 x3 x4 : Option Value} {r : List (Option Value)} {o o2 : Option Value} {v : Int64} (hd : decode cc pc = .ok (.lstore 5, 2)) (hp : pc + 2 = pc') (hn : 5 + 1 < nL) (h4 : lc1 x4 = true) (k : PW G own nm cc nL ret d kc ks Q pc' (x0 :: x1 :: x2 :: x3 :: x4 :: some (.long v) :: none :: r) rest S I) : PW G own nm cc nL ret d kc ks Q pc (x0 :: x1 :: x2 :: x3 :: x4 :: o :: o2 :: r) (.long v :: rest) S I := by
  subst hp
  intro p e R s m args below meth c H locs cells slots arr hC
  obtain ⟨hx, hb, c1, c2, c3, c4, c5, c6, c7, c8, c9, hl, c10⟩ := hC
  obtain ⟨arr', e1, e2⟩ := lh_storeL (i := 5) (x := v) hl hn (by simp) (fun j w hj hw => by
    have : j = 4 := by omega
    subst this
    have e1 : x4 = some w := Option.some.inj hw
    rw [e1] at h4
    simpa [lc1] using h4)
  have e2 : lh G arr' nL (x0 :: x1 :: x2 :: x3 :: x4 :: some (.long v) :: none :: r) := e2
  have kk := k p e R s m args below meth c H locs cells slots arr' ⟨hx, hb, c1, c2, c3, c4, c5, c6, c7, c8, c9, e2, c10⟩
  intro T hT X
  obtain ⟨t, a, b⟩ := kk T hT X
  refine ⟨t, ?_, b⟩
  jvm_step X.here [X.here.top, hx, hb, hd, em]
  first | exact a | exact ⟨arr', e1, a⟩ | exact ⟨rfl, arr', e1, a⟩
theorem P_iload6 {G : GX} {own nm : String} {cc : ByteArray} {nL : Nat} {ret : Option FieldType} {d kc ks : Nat} {Q : Option Value → Shp → Mem → Prop} {pc pc' : Nat} {ls : List (Option Value)} {rest : List Value} {S : Shp} {I : Mem} {x0 x1 x2 x3 x4 x5 : Option Value} {r : List (Option Value)} {v : Int32} (hd : decode cc pc = .ok (.iload 6, 2)) (hp : pc + 2 = pc') (k : PW G own nm cc nL ret d kc ks Q pc' (x0 :: x1 :: x2 :: x3 :: x4 :: x5 :: some (.int v) :: r) (.int v :: rest) S I) : PW G own nm cc nL ret d kc ks Q pc (x0 :: x1 :: x2 :: x3 :: x4 :: x5 :: some (.int v) :: r) rest S I := by
  subst hp
  intro p e R s m args below meth c H locs cells slots arr hC
  exact lv_iload hC.1 hC.2.1 hd (hC.2.2.2.2.2.2.2.2.2.2.2.1.2.2 6 (.int v) rfl) (k p e R s m args below meth c H locs cells slots arr hC)
theorem P_aload6 {G : GX} {own nm : String} {cc : ByteArray} {nL : Nat} {ret : Option FieldType} {d kc ks : Nat} {Q : Option Value → Shp → Mem → Prop} {pc pc' : Nat} {ls : List (Option Value)} {rest : List Value} {S : Shp} {I : Mem} {x0 x1 x2 x3 x4 x5 : Option Value} {r : List (Option Value)} {v : Nat} (hd : decode cc pc = .ok (.aload 6, 2)) (hp : pc + 2 = pc') (k : PW G own nm cc nL ret d kc ks Q pc' (x0 :: x1 :: x2 :: x3 :: x4 :: x5 :: some (.ref v) :: r) (.ref v :: rest) S I) : PW G own nm cc nL ret d kc ks Q pc (x0 :: x1 :: x2 :: x3 :: x4 :: x5 :: some (.ref v) :: r) rest S I := by
  subst hp
  intro p e R s m args below meth c H locs cells slots arr hC
  exact lv_aload hC.1 hC.2.1 hd (hC.2.2.2.2.2.2.2.2.2.2.2.1.2.2 6 (.ref v) rfl) (k p e R s m args below meth c H locs cells slots arr hC)
theorem P_lload6 {G : GX} {own nm : String} {cc : ByteArray} {nL : Nat} {ret : Option FieldType} {d kc ks : Nat} {Q : Option Value → Shp → Mem → Prop} {pc pc' : Nat} {ls : List (Option Value)} {rest : List Value} {S : Shp} {I : Mem} {x0 x1 x2 x3 x4 x5 : Option Value} {r : List (Option Value)} {v : Int64} (hd : decode cc pc = .ok (.lload 6, 2)) (hp : pc + 2 = pc') (k : PW G own nm cc nL ret d kc ks Q pc' (x0 :: x1 :: x2 :: x3 :: x4 :: x5 :: some (.long v) :: r) (.long v :: rest) S I) : PW G own nm cc nL ret d kc ks Q pc (x0 :: x1 :: x2 :: x3 :: x4 :: x5 :: some (.long v) :: r) rest S I := by
  subst hp
  intro p e R s m args below meth c H locs cells slots arr hC
  exact lv_lload hC.1 hC.2.1 hd (hC.2.2.2.2.2.2.2.2.2.2.2.1.2.2 6 (.long v) rfl) (k p e R s m args below meth c H locs cells slots arr hC)
theorem P_istore6 {G : GX} {own nm : String} {cc : ByteArray} {nL : Nat} {ret : Option FieldType} {d kc ks : Nat} {Q : Option Value → Shp → Mem → Prop} {pc pc' : Nat} {ls : List (Option Value)} {rest : List Value} {S : Shp} {I : Mem} {x0 x1 x2 x3 x4 x5 : Option Value} {r : List (Option Value)} {o : Option Value} {v : Int32} (hd : decode cc pc = .ok (.istore 6, 2)) (hp : pc + 2 = pc') (hn : 6 < nL) (h5 : lc1 x5 = true) (k : PW G own nm cc nL ret d kc ks Q pc' (x0 :: x1 :: x2 :: x3 :: x4 :: x5 :: some (.int v) :: r) rest S I) : PW G own nm cc nL ret d kc ks Q pc (x0 :: x1 :: x2 :: x3 :: x4 :: x5 :: o :: r) (.int v :: rest) S I := by
  subst hp
  intro p e R s m args below meth c H locs cells slots arr hC
  obtain ⟨hx, hb, c1, c2, c3, c4, c5, c6, c7, c8, c9, hl, c10⟩ := hC
  obtain ⟨arr', e1, e2⟩ := lh_store (i := 6) (v := .int v) hl hn (by simp) rfl (fun j w hj hw => by
    have : j = 5 := by omega
    subst this
    have e1 : x5 = some w := Option.some.inj hw
    rw [e1] at h5
    simpa [lc1] using h5)
  have e2 : lh G arr' nL (x0 :: x1 :: x2 :: x3 :: x4 :: x5 :: some (.int v) :: r) := e2
  have kk := k p e R s m args below meth c H locs cells slots arr' ⟨hx, hb, c1, c2, c3, c4, c5, c6, c7, c8, c9, e2, c10⟩
  intro T hT X
  obtain ⟨t, a, b⟩ := kk T hT X
  refine ⟨t, ?_, b⟩
  have e1 : storeLocals arr 6 (em G (.int v)) = some arr' := e1
  jvm_step X.here [X.here.top, hx, hb, hd, em]
  first | exact a | exact ⟨arr', e1, a⟩ | exact ⟨rfl, arr', e1, a⟩
theorem P_astore6 {G : GX} {own nm : String} {cc : ByteArray} {nL : Nat} {ret : Option FieldType} {d kc ks : Nat} {Q : Option Value → Shp → Mem → Prop} {pc pc' : Nat} {ls : List (Option Value)} {rest : List Value} {S : Shp} {I : Mem} {x0 x1 x2 x3 x4 x5 : Option Value} {r : List (Option Value)} {o : Option Value} {v : Nat} (hd : decode cc pc = .ok (.astore 6, 2)) (hp : pc + 2 = pc') (hn : 6 < nL) (h5 : lc1 x5 = true) (k : PW G own nm cc nL ret d kc ks Q pc' (x0 :: x1 :: x2 :: x3 :: x4 :: x5 :: some (.ref v) :: r) rest S I) : PW G own nm cc nL ret d kc ks Q pc (x0 :: x1 :: x2 :: x3 :: x4 :: x5 :: o :: r) (.ref v :: rest) S I := by
  subst hp
  intro p e R s m args below meth c H locs cells slots arr hC
  obtain ⟨hx, hb, c1, c2, c3, c4, c5, c6, c7, c8, c9, hl, c10⟩ := hC
  obtain ⟨arr', e1, e2⟩ := lh_store (i := 6) (v := .ref v) hl hn (by simp) rfl (fun j w hj hw => by
    have : j = 5 := by omega
    subst this
    have e1 : x5 = some w := Option.some.inj hw
    rw [e1] at h5
    simpa [lc1] using h5)
  have e2 : lh G arr' nL (x0 :: x1 :: x2 :: x3 :: x4 :: x5 :: some (.ref v) :: r) := e2
  have kk := k p e R s m args below meth c H locs cells slots arr' ⟨hx, hb, c1, c2, c3, c4, c5, c6, c7, c8, c9, e2, c10⟩
  intro T hT X
  obtain ⟨t, a, b⟩ := kk T hT X
  refine ⟨t, ?_, b⟩
  have e1 : storeLocals arr 6 (em G (.ref v)) = some arr' := e1
  jvm_step X.here [X.here.top, hx, hb, hd, em]
  first | exact a | exact ⟨arr', e1, a⟩ | exact ⟨rfl, arr', e1, a⟩
theorem P_iinc6 {G : GX} {own nm : String} {cc : ByteArray} {nL : Nat} {ret : Option FieldType} {d kc ks : Nat} {Q : Option Value → Shp → Mem → Prop} {pc pc' : Nat} {ls : List (Option Value)} {rest : List Value} {S : Shp} {I : Mem} {x0 x1 x2 x3 x4 x5 : Option Value} {r : List (Option Value)} {x v : Int32} {n : Int} (hd : decode cc pc = .ok (.iinc 6 n, 3)) (hp : pc + 3 = pc') (hv : x + Int32.ofInt n = v) (hn : 6 < nL) (h5 : lc1 x5 = true) (k : PW G own nm cc nL ret d kc ks Q pc' (x0 :: x1 :: x2 :: x3 :: x4 :: x5 :: some (.int v) :: r) rest S I) : PW G own nm cc nL ret d kc ks Q pc (x0 :: x1 :: x2 :: x3 :: x4 :: x5 :: some (.int x) :: r) rest S I := by
  subst hp
  intro p e R s m args below meth c H locs cells slots arr hC
  obtain ⟨hx, hb, c1, c2, c3, c4, c5, c6, c7, c8, c9, hl, c10⟩ := hC
  obtain ⟨arr', e1, e2⟩ := lh_store (i := 6) (v := .int v) hl hn (by simp) rfl (fun j w hj hw => by
    have : j = 5 := by omega
    subst this
    have e1 : x5 = some w := Option.some.inj hw
    rw [e1] at h5
    simpa [lc1] using h5)
  have e2 : lh G arr' nL (x0 :: x1 :: x2 :: x3 :: x4 :: x5 :: some (.int v) :: r) := e2
  have hi : arr[6]? = some (.val (.int x)) := hl.2.2 6 (.int x) rfl
  have kk := k p e R s m args below meth c H locs cells slots arr' ⟨hx, hb, c1, c2, c3, c4, c5, c6, c7, c8, c9, e2, c10⟩
  intro T hT X
  obtain ⟨t, a, b⟩ := kk T hT X
  refine ⟨t, ?_, b⟩
  have e1 : storeLocals arr 6 (.int v) = some arr' := e1
  rw [← hv] at e1
  jvm_step X.here [X.here.top, hx, hb, hd, hi, e1]
  exact a
theorem P_lstore6 {G : GX} {own nm : String} {cc : ByteArray} {nL : Nat} {ret : Option FieldType} {d kc ks : Nat} {Q : Option Value → Shp → Mem → Prop} {pc pc' : Nat} {ls : List (Option Value)} {rest : List Value} {S : Shp} {I : Mem} {x0 x1 x2 x3 x4 x5 : Option Value} {r : List (Option Value)} {o o2 : Option Value} {v : Int64} (hd : decode cc pc = .ok (.lstore 6, 2)) (hp : pc + 2 = pc') (hn : 6 + 1 < nL) (h5 : lc1 x5 = true) (k : PW G own nm cc nL ret d kc ks Q pc' (x0 :: x1 :: x2 :: x3 :: x4 :: x5 :: some (.long v) :: none :: r) rest S I) : PW G own nm cc nL ret d kc ks Q pc (x0 :: x1 :: x2 :: x3 :: x4 :: x5 :: o :: o2 :: r) (.long v :: rest) S I := by
  subst hp
  intro p e R s m args below meth c H locs cells slots arr hC
  obtain ⟨hx, hb, c1, c2, c3, c4, c5, c6, c7, c8, c9, hl, c10⟩ := hC
  obtain ⟨arr', e1, e2⟩ := lh_storeL (i := 6) (x := v) hl hn (by simp) (fun j w hj hw => by
    have : j = 5 := by omega
    subst this
    have e1 : x5 = some w := Option.some.inj hw
    rw [e1] at h5
    simpa [lc1] using h5)
  have e2 : lh G arr' nL (x0 :: x1 :: x2 :: x3 :: x4 :: x5 :: some (.long v) :: none :: r) := e2
  have kk := k p e R s m args below meth c H locs cells slots arr' ⟨hx, hb, c1, c2, c3, c4, c5, c6, c7, c8, c9, e2, c10⟩
  intro T hT X
  obtain ⟨t, a, b⟩ := kk T hT X
  refine ⟨t, ?_, b⟩
  jvm_step X.here [X.here.top, hx, hb, hd, em]
  first | exact a | exact ⟨arr', e1, a⟩ | exact ⟨rfl, arr', e1, a⟩
theorem P_iload7 {G : GX} {own nm : String} {cc : ByteArray} {nL : Nat} {ret : Option FieldType} {d kc ks : Nat} {Q : Option Value → Shp → Mem → Prop} {pc pc' : Nat} {ls : List (Option Value)} {rest : List Value} {S : Shp} {I : Mem} {x0 x1 x2 x3 x4 x5 x6 : Option Value} {r : List (Option Value)} {v : Int32} (hd : decode cc pc = .ok (.iload 7, 2)) (hp : pc + 2 = pc') (k : PW G own nm cc nL ret d kc ks Q pc' (x0 :: x1 :: x2 :: x3 :: x4 :: x5 :: x6 :: some (.int v) :: r) (.int v :: rest) S I) : PW G own nm cc nL ret d kc ks Q pc (x0 :: x1 :: x2 :: x3 :: x4 :: x5 :: x6 :: some (.int v) :: r) rest S I := by
  subst hp
  intro p e R s m args below meth c H locs cells slots arr hC
  exact lv_iload hC.1 hC.2.1 hd (hC.2.2.2.2.2.2.2.2.2.2.2.1.2.2 7 (.int v) rfl) (k p e R s m args below meth c H locs cells slots arr hC)
theorem P_aload7 {G : GX} {own nm : String} {cc : ByteArray} {nL : Nat} {ret : Option FieldType} {d kc ks : Nat} {Q : Option Value → Shp → Mem → Prop} {pc pc' : Nat} {ls : List (Option Value)} {rest : List Value} {S : Shp} {I : Mem} {x0 x1 x2 x3 x4 x5 x6 : Option Value} {r : List (Option Value)} {v : Nat} (hd : decode cc pc = .ok (.aload 7, 2)) (hp : pc + 2 = pc') (k : PW G own nm cc nL ret d kc ks Q pc' (x0 :: x1 :: x2 :: x3 :: x4 :: x5 :: x6 :: some (.ref v) :: r) (.ref v :: rest) S I) : PW G own nm cc nL ret d kc ks Q pc (x0 :: x1 :: x2 :: x3 :: x4 :: x5 :: x6 :: some (.ref v) :: r) rest S I := by
  subst hp
  intro p e R s m args below meth c H locs cells slots arr hC
  exact lv_aload hC.1 hC.2.1 hd (hC.2.2.2.2.2.2.2.2.2.2.2.1.2.2 7 (.ref v) rfl) (k p e R s m args below meth c H locs cells slots arr hC)
theorem P_lload7 {G : GX} {own nm : String} {cc : ByteArray} {nL : Nat} {ret : Option FieldType} {d kc ks : Nat} {Q : Option Value → Shp → Mem → Prop} {pc pc' : Nat} {ls : List (Option Value)} {rest : List Value} {S : Shp} {I : Mem} {x0 x1 x2 x3 x4 x5 x6 : Option Value} {r : List (Option Value)} {v : Int64} (hd : decode cc pc = .ok (.lload 7, 2)) (hp : pc + 2 = pc') (k : PW G own nm cc nL ret d kc ks Q pc' (x0 :: x1 :: x2 :: x3 :: x4 :: x5 :: x6 :: some (.long v) :: r) (.long v :: rest) S I) : PW G own nm cc nL ret d kc ks Q pc (x0 :: x1 :: x2 :: x3 :: x4 :: x5 :: x6 :: some (.long v) :: r) rest S I := by
  subst hp
  intro p e R s m args below meth c H locs cells slots arr hC
  exact lv_lload hC.1 hC.2.1 hd (hC.2.2.2.2.2.2.2.2.2.2.2.1.2.2 7 (.long v) rfl) (k p e R s m args below meth c H locs cells slots arr hC)
theorem P_istore7 {G : GX} {own nm : String} {cc : ByteArray} {nL : Nat} {ret : Option FieldType} {d kc ks : Nat} {Q : Option Value → Shp → Mem → Prop} {pc pc' : Nat} {ls : List (Option Value)} {rest : List Value} {S : Shp} {I : Mem} {x0 x1 x2 x3 x4 x5 x6 : Option Value} {r : List (Option Value)} {o : Option Value} {v : Int32} (hd : decode cc pc = .ok (.istore 7, 2)) (hp : pc + 2 = pc') (hn : 7 < nL) (h6 : lc1 x6 = true) (k : PW G own nm cc nL ret d kc ks Q pc' (x0 :: x1 :: x2 :: x3 :: x4 :: x5 :: x6 :: some (.int v) :: r) rest S I) : PW G own nm cc nL ret d kc ks Q pc (x0 :: x1 :: x2 :: x3 :: x4 :: x5 :: x6 :: o :: r) (.int v :: rest) S I := by
  subst hp
  intro p e R s m args below meth c H locs cells slots arr hC
  obtain ⟨hx, hb, c1, c2, c3, c4, c5, c6, c7, c8, c9, hl, c10⟩ := hC
  obtain ⟨arr', e1, e2⟩ := lh_store (i := 7) (v := .int v) hl hn (by simp) rfl (fun j w hj hw => by
    have : j = 6 := by omega
    subst this
    have e1 : x6 = some w := Option.some.inj hw
    rw [e1] at h6
    simpa [lc1] using h6)
  have e2 : lh G arr' nL (x0 :: x1 :: x2 :: x3 :: x4 :: x5 :: x6 :: some (.int v) :: r) := e2
  have kk := k p e R s m args below meth c H locs cells slots arr' ⟨hx, hb, c1, c2, c3, c4, c5, c6, c7, c8, c9, e2, c10⟩
  intro T hT X
  obtain ⟨t, a, b⟩ := kk T hT X
  refine ⟨t, ?_, b⟩
  have e1 : storeLocals arr 7 (em G (.int v)) = some arr' := e1
  jvm_step X.here [X.here.top, hx, hb, hd, em]
  first | exact a | exact ⟨arr', e1, a⟩ | exact ⟨rfl, arr', e1, a⟩
theorem P_astore7 {G : GX} {own nm : String} {cc : ByteArray} {nL : Nat} {ret : Option FieldType} {d kc ks : Nat} {Q : Option Value → Shp → Mem → Prop} {pc pc' : Nat} {ls : List (Option Value)} {rest : List Value} {S : Shp} {I : Mem} {x0 x1 x2 x3 x4 x5 x6 : Option Value} {r : List (Option Value)} {o : Option Value} {v : Nat} (hd : decode cc pc = .ok (.astore 7, 2)) (hp : pc + 2 = pc') (hn : 7 < nL) (h6 : lc1 x6 = true) (k : PW G own nm cc nL ret d kc ks Q pc' (x0 :: x1 :: x2 :: x3 :: x4 :: x5 :: x6 :: some (.ref v) :: r) rest S I) : PW G own nm cc nL ret d kc ks Q pc (x0 :: x1 :: x2 :: x3 :: x4 :: x5 :: x6 :: o :: r) (.ref v :: rest) S I := by
  subst hp
  intro p e R s m args below meth c H locs cells slots arr hC
  obtain ⟨hx, hb, c1, c2, c3, c4, c5, c6, c7, c8, c9, hl, c10⟩ := hC
  obtain ⟨arr', e1, e2⟩ := lh_store (i := 7) (v := .ref v) hl hn (by simp) rfl (fun j w hj hw => by
    have : j = 6 := by omega
    subst this
    have e1 : x6 = some w := Option.some.inj hw
    rw [e1] at h6
    simpa [lc1] using h6)
  have e2 : lh G arr' nL (x0 :: x1 :: x2 :: x3 :: x4 :: x5 :: x6 :: some (.ref v) :: r) := e2
  have kk := k p e R s m args below meth c H locs cells slots arr' ⟨hx, hb, c1, c2, c3, c4, c5, c6, c7, c8, c9, e2, c10⟩
  intro T hT X
  obtain ⟨t, a, b⟩ := kk T hT X
  refine ⟨t, ?_, b⟩
  have e1 : storeLocals arr 7 (em G (.ref v)) = some arr' := e1
  jvm_step X.here [X.here.top, hx, hb, hd, em]
  first | exact a | exact ⟨arr', e1, a⟩ | exact ⟨rfl, arr', e1, a⟩
theorem P_iinc7 {G : GX} {own nm : String} {cc : ByteArray} {nL : Nat} {ret : Option FieldType} {d kc ks : Nat} {Q : Option Value → Shp → Mem → Prop} {pc pc' : Nat} {ls : List (Option Value)} {rest : List Value} {S : Shp} {I : Mem} {x0 x1 x2 x3 x4 x5 x6 : Option Value} {r : List (Option Value)} {x v : Int32} {n : Int} (hd : decode cc pc = .ok (.iinc 7 n, 3)) (hp : pc + 3 = pc') (hv : x + Int32.ofInt n = v) (hn : 7 < nL) (h6 : lc1 x6 = true) (k : PW G own nm cc nL ret d kc ks Q pc' (x0 :: x1 :: x2 :: x3 :: x4 :: x5 :: x6 :: some (.int v) :: r) rest S I) : PW G own nm cc nL ret d kc ks Q pc (x0 :: x1 :: x2 :: x3 :: x4 :: x5 :: x6 :: some (.int x) :: r) rest S I := by
  subst hp
  intro p e R s m args below meth c H locs cells slots arr hC
  obtain ⟨hx, hb, c1, c2, c3, c4, c5, c6, c7, c8, c9, hl, c10⟩ := hC
  obtain ⟨arr', e1, e2⟩ := lh_store (i := 7) (v := .int v) hl hn (by simp) rfl (fun j w hj hw => by
    have : j = 6 := by omega
    subst this
    have e1 : x6 = some w := Option.some.inj hw
    rw [e1] at h6
    simpa [lc1] using h6)
  have e2 : lh G arr' nL (x0 :: x1 :: x2 :: x3 :: x4 :: x5 :: x6 :: some (.int v) :: r) := e2
  have hi : arr[7]? = some (.val (.int x)) := hl.2.2 7 (.int x) rfl
  have kk := k p e R s m args below meth c H locs cells slots arr' ⟨hx, hb, c1, c2, c3, c4, c5, c6, c7, c8, c9, e2, c10⟩
  intro T hT X
  obtain ⟨t, a, b⟩ := kk T hT X
  refine ⟨t, ?_, b⟩
  have e1 : storeLocals arr 7 (.int v) = some arr' := e1
  rw [← hv] at e1
  jvm_step X.here [X.here.top, hx, hb, hd, hi, e1]
  exact a
theorem P_lstore7 {G : GX} {own nm : String} {cc : ByteArray} {nL : Nat} {ret : Option FieldType} {d kc ks : Nat} {Q : Option Value → Shp → Mem → Prop} {pc pc' : Nat} {ls : List (Option Value)} {rest : List Value} {S : Shp} {I : Mem} {x0 x1 x2 x3 x4 x5 x6 : Option Value} {r : List (Option Value)} {o o2 : Option Value} {v : Int64} (hd : decode cc pc = .ok (.lstore 7, 2)) (hp : pc + 2 = pc') (hn : 7 + 1 < nL) (h6 : lc1 x6 = true) (k : PW G own nm cc nL ret d kc ks Q pc' (x0 :: x1 :: x2 :: x3 :: x4 :: x5 :: x6 :: some (.long v) :: none :: r) rest S I) : PW G own nm cc nL ret d kc ks Q pc (x0 :: x1 :: x2 :: x3 :: x4 :: x5 :: x6 :: o :: o2 :: r) (.long v :: rest) S I := by
  subst hp
  intro p e R s m args below meth c H locs cells slots arr hC
  obtain ⟨hx, hb, c1, c2, c3, c4, c5, c6, c7, c8, c9, hl, c10⟩ := hC
  obtain ⟨arr', e1, e2⟩ := lh_storeL (i := 7) (x := v) hl hn (by simp) (fun j w hj hw => by
    have : j = 6 := by omega
    subst this
    have e1 : x6 = some w := Option.some.inj hw
    rw [e1] at h6
    simpa [lc1] using h6)
  have e2 : lh G arr' nL (x0 :: x1 :: x2 :: x3 :: x4 :: x5 :: x6 :: some (.long v) :: none :: r) := e2
  have kk := k p e R s m args below meth c H locs cells slots arr' ⟨hx, hb, c1, c2, c3, c4, c5, c6, c7, c8, c9, e2, c10⟩
  intro T hT X
  obtain ⟨t, a, b⟩ := kk T hT X
  refine ⟨t, ?_, b⟩
  jvm_step X.here [X.here.top, hx, hb, hd, em]
  first | exact a | exact ⟨arr', e1, a⟩ | exact ⟨rfl, arr', e1, a⟩
theorem P_iload8 {G : GX} {own nm : String} {cc : ByteArray} {nL : Nat} {ret : Option FieldType} {d kc ks : Nat} {Q : Option Value → Shp → Mem → Prop} {pc pc' : Nat} {ls : List (Option Value)} {rest : List Value} {S : Shp} {I : Mem} {x0 x1 x2 x3 x4 x5 x6 x7 : Option Value} {r : List (Option Value)} {v : Int32} (hd : decode cc pc = .ok (.iload 8, 2)) (hp : pc + 2 = pc') (k : PW G own nm cc nL ret d kc ks Q pc' (x0 :: x1 :: x2 :: x3 :: x4 :: x5 :: x6 :: x7 :: some (.int v) :: r) (.int v :: rest) S I) : PW G own nm cc nL ret d kc ks Q pc (x0 :: x1 :: x2 :: x3 :: x4 :: x5 :: x6 :: x7 :: some (.int v) :: r) rest S I := by
  subst hp
  intro p e R s m args below meth c H locs cells slots arr hC
  exact lv_iload hC.1 hC.2.1 hd (hC.2.2.2.2.2.2.2.2.2.2.2.1.2.2 8 (.int v) rfl) (k p e R s m args below meth c H locs cells slots arr hC)
theorem P_aload8 {G : GX} {own nm : String} {cc : ByteArray} {nL : Nat} {ret : Option FieldType} {d kc ks : Nat} {Q : Option Value → Shp → Mem → Prop} {pc pc' : Nat} {ls : List (Option Value)} {rest : List Value} {S : Shp} {I : Mem} {x0 x1 x2 x3 x4 x5 x6 x7 : Option Value} {r : List (Option Value)} {v : Nat} (hd : decode cc pc = .ok (.aload 8, 2)) (hp : pc + 2 = pc') (k : PW G own nm cc nL ret d kc ks Q pc' (x0 :: x1 :: x2 :: x3 :: x4 :: x5 :: x6 :: x7 :: some (.ref v) :: r) (.ref v :: rest) S I) : PW G own nm cc nL ret d kc ks Q pc (x0 :: x1 :: x2 :: x3 :: x4 :: x5 :: x6 :: x7 :: some (.ref v) :: r) rest S I := by
  subst hp
  intro p e R s m args below meth c H locs cells slots arr hC
  exact lv_aload hC.1 hC.2.1 hd (hC.2.2.2.2.2.2.2.2.2.2.2.1.2.2 8 (.ref v) rfl) (k p e R s m args below meth c H locs cells slots arr hC)
theorem P_lload8 {G : GX} {own nm : String} {cc : ByteArray} {nL : Nat} {ret : Option FieldType} {d kc ks : Nat} {Q : Option Value → Shp → Mem → Prop} {pc pc' : Nat} {ls : List (Option Value)} {rest : List Value} {S : Shp} {I : Mem} {x0 x1 x2 x3 x4 x5 x6 x7 : Option Value} {r : List (Option Value)} {v : Int64} (hd : decode cc pc = .ok (.lload 8, 2)) (hp : pc + 2 = pc') (k : PW G own nm cc nL ret d kc ks Q pc' (x0 :: x1 :: x2 :: x3 :: x4 :: x5 :: x6 :: x7 :: some (.long v) :: r) (.long v :: rest) S I) : PW G own nm cc nL ret d kc ks Q pc (x0 :: x1 :: x2 :: x3 :: x4 :: x5 :: x6 :: x7 :: some (.long v) :: r) rest S I := by
  subst hp
  intro p e R s m args below meth c H locs cells slots arr hC
  exact lv_lload hC.1 hC.2.1 hd (hC.2.2.2.2.2.2.2.2.2.2.2.1.2.2 8 (.long v) rfl) (k p e R s m args below meth c H locs cells slots arr hC)
theorem P_istore8 {G : GX} {own nm : String} {cc : ByteArray} {nL : Nat} {ret : Option FieldType} {d kc ks : Nat} {Q : Option Value → Shp → Mem → Prop} {pc pc' : Nat} {ls : List (Option Value)} {rest : List Value} {S : Shp} {I : Mem} {x0 x1 x2 x3 x4 x5 x6 x7 : Option Value} {r : List (Option Value)} {o : Option Value} {v : Int32} (hd : decode cc pc = .ok (.istore 8, 2)) (hp : pc + 2 = pc') (hn : 8 < nL) (h7 : lc1 x7 = true) (k : PW G own nm cc nL ret d kc ks Q pc' (x0 :: x1 :: x2 :: x3 :: x4 :: x5 :: x6 :: x7 :: some (.int v) :: r) rest S I) : PW G own nm cc nL ret d kc ks Q pc (x0 :: x1 :: x2 :: x3 :: x4 :: x5 :: x6 :: x7 :: o :: r) (.int v :: rest) S I := by
  subst hp
  intro p e R s m args below meth c H locs cells slots arr hC
  obtain ⟨hx, hb, c1, c2, c3, c4, c5, c6, c7, c8, c9, hl, c10⟩ := hC
  obtain ⟨arr', e1, e2⟩ := lh_store (i := 8) (v := .int v) hl hn (by simp) rfl (fun j w hj hw => by
    have : j = 7 := by omega
    subst this
    have e1 : x7 = some w := Option.some.inj hw
    rw [e1] at h7
    simpa [lc1] using h7)
  have e2 : lh G arr' nL (x0 :: x1 :: x2 :: x3 :: x4 :: x5 :: x6 :: x7 :: some (.int v) :: r) := e2
  have kk := k p e R s m args below meth c H locs cells slots arr' ⟨hx, hb, c1, c2, c3, c4, c5, c6, c7, c8, c9, e2, c10⟩
  intro T hT X
  obtain ⟨t, a, b⟩ := kk T hT X
  refine ⟨t, ?_, b⟩
  have e1 : storeLocals arr 8 (em G (.int v)) = some arr' := e1
  jvm_step X.here [X.here.top, hx, hb, hd, em]
  first | exact a | exact ⟨arr', e1, a⟩ | exact ⟨rfl, arr', e1, a⟩
theorem P_astore8 {G : GX} {own nm : String} {cc : ByteArray} {nL : Nat} {ret : Option FieldType} {d kc ks : Nat} {Q : Option Value → Shp → Mem → Prop} {pc pc' : Nat} {ls : List (Option Value)} {rest : List Value} {S : Shp} {I : Mem} {x0 x1 x2 x3 x4 x5 x6 x7 : Option Value} {r : List (Option Value)} {o : Option Value} {v : Nat} (hd : decode cc pc = .ok (.astore 8, 2)) (hp : pc + 2 = pc') (hn : 8 < nL) (h7 : lc1 x7 = true) (k : PW G own nm cc nL ret d kc ks Q pc' (x0 :: x1 :: x2 :: x3 :: x4 :: x5 :: x6 :: x7 :: some (.ref v) :: r) rest S I) : PW G own nm cc nL ret d kc ks Q pc (x0 :: x1 :: x2 :: x3 :: x4 :: x5 :: x6 :: x7 :: o :: r) (.ref v :: rest) S I := by
  subst hp
  intro p e R s m args below meth c H locs cells slots arr hC
  obtain ⟨hx, hb, c1, c2, c3, c4, c5, c6, c7, c8, c9, hl, c10⟩ := hC
  obtain ⟨arr', e1, e2⟩ := lh_store (i := 8) (v := .ref v) hl hn (by simp) rfl (fun j w hj hw => by
    have : j = 7 := by omega
    subst this
    have e1 : x7 = some w := Option.some.inj hw
    rw [e1] at h7
    simpa [lc1] using h7)
  have e2 : lh G arr' nL (x0 :: x1 :: x2 :: x3 :: x4 :: x5 :: x6 :: x7 :: some (.ref v) :: r) := e2
  have kk := k p e R s m args below meth c H locs cells slots arr' ⟨hx, hb, c1, c2, c3, c4, c5, c6, c7, c8, c9, e2, c10⟩
  intro T hT X
  obtain ⟨t, a, b⟩ := kk T hT X
  refine ⟨t, ?_, b⟩
  have e1 : storeLocals arr 8 (em G (.ref v)) = some arr' := e1
  jvm_step X.here [X.here.top, hx, hb, hd, em]
  first | exact a | exact ⟨arr', e1, a⟩ | exact ⟨rfl, arr', e1, a⟩
theorem P_iinc8 {G : GX} {own nm : String} {cc : ByteArray} {nL : Nat} {ret : Option FieldType} {d kc ks : Nat} {Q : Option Value → Shp → Mem → Prop} {pc pc' : Nat} {ls : List (Option Value)} {rest : List Value} {S : Shp} {I : Mem} {x0 x1 x2 x3 x4 x5 x6 x7 : Option Value} {r : List (Option Value)} {x v : Int32} {n : Int} (hd : decode cc pc = .ok (.iinc 8 n, 3)) (hp : pc + 3 = pc') (hv : x + Int32.ofInt n = v) (hn : 8 < nL) (h7 : lc1 x7 = true) (k : PW G own nm cc nL ret d kc ks Q pc' (x0 :: x1 :: x2 :: x3 :: x4 :: x5 :: x6 :: x7 :: some (.int v) :: r) rest S I) : PW G own nm cc nL ret d kc ks Q pc (x0 :: x1 :: x2 :: x3 :: x4 :: x5 :: x6 :: x7 :: some (.int x) :: r) rest S I := by
  subst hp
  intro p e R s m args below meth c H locs cells slots arr hC
  obtain ⟨hx, hb, c1, c2, c3, c4, c5, c6, c7, c8, c9, hl, c10⟩ := hC
  obtain ⟨arr', e1, e2⟩ := lh_store (i := 8) (v := .int v) hl hn (by simp) rfl (fun j w hj hw => by
    have : j = 7 := by omega
    subst this
    have e1 : x7 = some w := Option.some.inj hw
    rw [e1] at h7
    simpa [lc1] using h7)
  have e2 : lh G arr' nL (x0 :: x1 :: x2 :: x3 :: x4 :: x5 :: x6 :: x7 :: some (.int v) :: r) := e2
  have hi : arr[8]? = some (.val (.int x)) := hl.2.2 8 (.int x) rfl
  have kk := k p e R s m args below meth c H locs cells slots arr' ⟨hx, hb, c1, c2, c3, c4, c5, c6, c7, c8, c9, e2, c10⟩
  intro T hT X
  obtain ⟨t, a, b⟩ := kk T hT X
  refine ⟨t, ?_, b⟩
  have e1 : storeLocals arr 8 (.int v) = some arr' := e1
  rw [← hv] at e1
  jvm_step X.here [X.here.top, hx, hb, hd, hi, e1]
  exact a
theorem P_lstore8 {G : GX} {own nm : String} {cc : ByteArray} {nL : Nat} {ret : Option FieldType} {d kc ks : Nat} {Q : Option Value → Shp → Mem → Prop} {pc pc' : Nat} {ls : List (Option Value)} {rest : List Value} {S : Shp} {I : Mem} {x0 x1 x2 x3 x4 x5 x6 x7 : Option Value} {r : List (Option Value)} {o o2 : Option Value} {v : Int64} (hd : decode cc pc = .ok (.lstore 8, 2)) (hp : pc + 2 = pc') (hn : 8 + 1 < nL) (h7 : lc1 x7 = true) (k : PW G own nm cc nL ret d kc ks Q pc' (x0 :: x1 :: x2 :: x3 :: x4 :: x5 :: x6 :: x7 :: some (.long v) :: none :: r) rest S I) : PW G own nm cc nL ret d kc ks Q pc (x0 :: x1 :: x2 :: x3 :: x4 :: x5 :: x6 :: x7 :: o :: o2 :: r) (.long v :: rest) S I := by
  subst hp
  intro p e R s m args below meth c H locs cells slots arr hC
  obtain ⟨hx, hb, c1, c2, c3, c4, c5, c6, c7, c8, c9, hl, c10⟩ := hC
  obtain ⟨arr', e1, e2⟩ := lh_storeL (i := 8) (x := v) hl hn (by simp) (fun j w hj hw => by
    have : j = 7 := by omega
    subst this
    have e1 : x7 = some w := Option.some.inj hw
    rw [e1] at h7
    simpa [lc1] using h7)
  have e2 : lh G arr' nL (x0 :: x1 :: x2 :: x3 :: x4 :: x5 :: x6 :: x7 :: some (.long v) :: none :: r) := e2
  have kk := k p e R s m args below meth c H locs cells slots arr' ⟨hx, hb, c1, c2, c3, c4, c5, c6, c7, c8, c9, e2, c10⟩
  intro T hT X
  obtain ⟨t, a, b⟩ := kk T hT X
  refine ⟨t, ?_, b⟩
  jvm_step X.here [X.here.top, hx, hb, hd, em]
  first | exact a | exact ⟨arr', e1, a⟩ | exact ⟨rfl, arr', e1, a⟩
theorem P_iload9 {G : GX} {own nm : String} {cc : ByteArray} {nL : Nat} {ret : Option FieldType} {d kc ks : Nat} {Q : Option Value → Shp → Mem → Prop} {pc pc' : Nat} {ls : List (Option Value)} {rest : List Value} {S : Shp} {I : Mem} {x0 x1 x2 x3 x4 x5 x6 x7 x8 : Option Value} {r : List (Option Value)} {v : Int32} (hd : decode cc pc = .ok (.iload 9, 2)) (hp : pc + 2 = pc') (k : PW G own nm cc nL ret d kc ks Q pc' (x0 :: x1 :: x2 :: x3 :: x4 :: x5 :: x6 :: x7 :: x8 :: some (.int v) :: r) (.int v :: rest) S I) : PW G own nm cc nL ret d kc ks Q pc (x0 :: x1 :: x2 :: x3 :: x4 :: x5 :: x6 :: x7 :: x8 :: some (.int v) :: r) rest S I := by
  subst hp
  intro p e R s m args below meth c H locs cells slots arr hC
  exact lv_iload hC.1 hC.2.1 hd (hC.2.2.2.2.2.2.2.2.2.2.2.1.2.2 9 (.int v) rfl) (k p e R s m args below meth c H locs cells slots arr hC)
theorem P_aload9 {G : GX} {own nm : String} {cc : ByteArray} {nL : Nat} {ret : Option FieldType} {d kc ks : Nat} {Q : Option Value → Shp → Mem → Prop} {pc pc' : Nat} {ls : List (Option Value)} {rest : List Value} {S : Shp} {I : Mem} {x0 x1 x2 x3 x4 x5 x6 x7 x8 : Option Value} {r : List (Option Value)} {v : Nat} (hd : decode cc pc = .ok (.aload 9, 2)) (hp : pc + 2 = pc') (k : PW G own nm cc nL ret d kc ks Q pc' (x0 :: x1 :: x2 :: x3 :: x4 :: x5 :: x6 :: x7 :: x8 :: some (.ref v) :: r) (.ref v :: rest) S I) : PW G own nm cc nL ret d kc ks Q pc (x0 :: x1 :: x2 :: x3 :: x4 :: x5 :: x6 :: x7 :: x8 :: some (.ref v) :: r) rest S I := by
  subst hp
  intro p e R s m args below meth c H locs cells slots arr hC
  exact lv_aload hC.1 hC.2.1 hd (hC.2.2.2.2.2.2.2.2.2.2.2.1.2.2 9 (.ref v) rfl) (k p e R s m args below meth c H locs cells slots arr hC)
theorem P_lload9 {G : GX} {own nm : String} {cc : ByteArray} {nL : Nat} {ret : Option FieldType} {d kc ks : Nat} {Q : Option Value → Shp → Mem → Prop} {pc pc' : Nat} {ls : List (Option Value)} {rest : List Value} {S : Shp} {I : Mem} {x0 x1 x2 x3 x4 x5 x6 x7 x8 : Option Value} {r : List (Option Value)} {v : Int64} (hd : decode cc pc = .ok (.lload 9, 2)) (hp : pc + 2 = pc') (k : PW G own nm cc nL ret d kc ks Q pc' (x0 :: x1 :: x2 :: x3 :: x4 :: x5 :: x6 :: x7 :: x8 :: some (.long v) :: r) (.long v :: rest) S I) : PW G own nm cc nL ret d kc ks Q pc (x0 :: x1 :: x2 :: x3 :: x4 :: x5 :: x6 :: x7 :: x8 :: some (.long v) :: r) rest S I := by
  subst hp
  intro p e R s m args below meth c H locs cells slots arr hC
  exact lv_lload hC.1 hC.2.1 hd (hC.2.2.2.2.2.2.2.2.2.2.2.1.2.2 9 (.long v) rfl) (k p e R s m args below meth c H locs cells slots arr hC)
theorem P_istore9 {G : GX} {own nm : String} {cc : ByteArray} {nL : Nat} {ret : Option FieldType} {d kc ks : Nat} {Q : Option Value → Shp → Mem → Prop} {pc pc' : Nat} {ls : List (Option Value)} {rest : List Value} {S : Shp} {I : Mem} {x0 x1 x2 x3 x4 x5 x6 x7 x8 : Option Value} {r : List (Option Value)} {o : Option Value} {v : Int32} (hd : decode cc pc = .ok (.istore 9, 2)) (hp : pc + 2 = pc') (hn : 9 < nL) (h8 : lc1 x8 = true) (k : PW G own nm cc nL ret d kc ks Q pc' (x0 :: x1 :: x2 :: x3 :: x4 :: x5 :: x6 :: x7 :: x8 :: some (.int v) :: r) rest S I) : PW G own nm cc nL ret d kc ks Q pc (x0 :: x1 :: x2 :: x3 :: x4 :: x5 :: x6 :: x7 :: x8 :: o :: r) (.int v :: rest) S I := by
  subst hp
  intro p e R s m args below meth c H locs cells slots arr hC
  obtain ⟨hx, hb, c1, c2, c3, c4, c5, c6, c7, c8, c9, hl, c10⟩ := hC
  obtain ⟨arr', e1, e2⟩ := lh_store (i := 9) (v := .int v) hl hn (by simp) rfl (fun j w hj hw => by
    have : j = 8 := by omega
    subst this
    have e1 : x8 = some w := Option.some.inj hw
    rw [e1] at h8
    simpa [lc1] using h8)
  have e2 : lh G arr' nL (x0 :: x1 :: x2 :: x3 :: x4 :: x5 :: x6 :: x7 :: x8 :: some (.int v) :: r) := e2
  have kk := k p e R s m args below meth c H locs cells slots arr' ⟨hx, hb, c1, c2, c3, c4, c5, c6, c7, c8, c9, e2, c10⟩
  intro T hT X
  obtain ⟨t, a, b⟩ := kk T hT X
  refine ⟨t, ?_, b⟩
  have e1 : storeLocals arr 9 (em G (.int v)) = some arr' := e1
  jvm_step X.here [X.here.top, hx, hb, hd, em]
  first | exact a | exact ⟨arr', e1, a⟩ | exact ⟨rfl, arr', e1, a⟩
theorem P_astore9 {G : GX} {own nm : String} {cc : ByteArray} {nL : Nat} {ret : Option FieldType} {d kc ks : Nat} {Q : Option Value → Shp → Mem → Prop} {pc pc' : Nat} {ls : List (Option Value)} {rest : List Value} {S : Shp} {I : Mem} {x0 x1 x2 x3 x4 x5 x6 x7 x8 : Option Value} {r : List (Option Value)} {o : Option Value} {v : Nat} (hd : decode cc pc = .ok (.astore 9, 2)) (hp : pc + 2 = pc') (hn : 9 < nL) (h8 : lc1 x8 = true) (k : PW G own nm cc nL ret d kc ks Q pc' (x0 :: x1 :: x2 :: x3 :: x4 :: x5 :: x6 :: x7 :: x8 :: some (.ref v) :: r) rest S I) : PW G own nm cc nL ret d kc ks Q pc (x0 :: x1 :: x2 :: x3 :: x4 :: x5 :: x6 :: x7 :: x8 :: o :: r) (.ref v :: rest) S I := by
  subst hp
  intro p e R s m args below meth c H locs cells slots arr hC
  obtain ⟨hx, hb, c1, c2, c3, c4, c5, c6, c7, c8, c9, hl, c10⟩ := hC
  obtain ⟨arr', e1, e2⟩ := lh_store (i := 9) (v := .ref v) hl hn (by simp) rfl (fun j w hj hw => by
    have : j = 8 := by omega
    subst this
    have e1 : x8 = some w := Option.some.inj hw
    rw [e1] at h8
    simpa [lc1] using h8)
  have e2 : lh G arr' nL (x0 :: x1 :: x2 :: x3 :: x4 :: x5 :: x6 :: x7 :: x8 :: some (.ref v) :: r) := e2
  have kk := k p e R s m args below meth c H locs cells slots arr' ⟨hx, hb, c1, c2, c3, c4, c5, c6, c7, c8, c9, e2, c10⟩
  intro T hT X
  obtain ⟨t, a, b⟩ := kk T hT X
  refine ⟨t, ?_, b⟩
  have e1 : storeLocals arr 9 (em G (.ref v)) = some arr' := e1
  jvm_step X.here [X.here.top, hx, hb, hd, em]
  first | exact a | exact ⟨arr', e1, a⟩ | exact ⟨rfl, arr', e1, a⟩
theorem P_iinc9 {G : GX} {own nm : String} {cc : ByteArray} {nL : Nat} {ret : Option FieldType} {d kc ks : Nat} {Q : Option Value → Shp → Mem → Prop} {pc pc' : Nat} {ls : List (Option Value)} {rest : List Value} {S : Shp} {I : Mem} {x0 x1 x2 x3 x4 x5 x6 x7 x8 : Option Value} {r : List (Option Value)} {x v : Int32} {n : Int} (hd : decode cc pc = .ok (.iinc 9 n, 3)) (hp : pc + 3 = pc') (hv : x + Int32.ofInt n = v) (hn : 9 < nL) (h8 : lc1 x8 = true) (k : PW G own nm cc nL ret d kc ks Q pc' (x0 :: x1 :: x2 :: x3 :: x4 :: x5 :: x6 :: x7 :: x8 :: some (.int v) :: r) rest S I) : PW G own nm cc nL ret d kc ks Q pc (x0 :: x1 :: x2 :: x3 :: x4 :: x5 :: x6 :: x7 :: x8 :: some (.int x) :: r) rest S I := by
  subst hp
  intro p e R s m args below meth c H locs cells slots arr hC
  obtain ⟨hx, hb, c1, c2, c3, c4, c5, c6, c7, c8, c9, hl, c10⟩ := hC
  obtain ⟨arr', e1, e2⟩ := lh_store (i := 9) (v := .int v) hl hn (by simp) rfl (fun j w hj hw => by
    have : j = 8 := by omega
    subst this
    have e1 : x8 = some w := Option.some.inj hw
    rw [e1] at h8
    simpa [lc1] using h8)
  have e2 : lh G arr' nL (x0 :: x1 :: x2 :: x3 :: x4 :: x5 :: x6 :: x7 :: x8 :: some (.int v) :: r) := e2
  have hi : arr[9]? = some (.val (.int x)) := hl.2.2 9 (.int x) rfl
  have kk := k p e R s m args below meth c H locs cells slots arr' ⟨hx, hb, c1, c2, c3, c4, c5, c6, c7, c8, c9, e2, c10⟩
  intro T hT X
  obtain ⟨t, a, b⟩ := kk T hT X
  refine ⟨t, ?_, b⟩
  have e1 : storeLocals arr 9 (.int v) = some arr' := e1
  rw [← hv] at e1
  jvm_step X.here [X.here.top, hx, hb, hd, hi, e1]
  exact a
theorem P_lstore9 {G : GX} {own nm : String} {cc : ByteArray} {nL : Nat} {ret : Option FieldType} {d kc ks : Nat} {Q : Option Value → Shp → Mem → Prop} {pc pc' : Nat} {ls : List (Option Value)} {rest : List Value} {S : Shp} {I : Mem} {x0 x1 x2 x3 x4 x5 x6 x7 x8 : Option Value} {r : List (Option Value)} {o o2 : Option Value} {v : Int64} (hd : decode cc pc = .ok (.lstore 9, 2)) (hp : pc + 2 = pc') (hn : 9 + 1 < nL) (h8 : lc1 x8 = true) (k : PW G own nm cc nL ret d kc ks Q pc' (x0 :: x1 :: x2 :: x3 :: x4 :: x5 :: x6 :: x7 :: x8 :: some (.long v) :: none :: r) rest S I) : PW G own nm cc nL ret d kc ks Q pc (x0 :: x1 :: x2 :: x3 :: x4 :: x5 :: x6 :: x7 :: x8 :: o :: o2 :: r) (.long v :: rest) S I := by
  subst hp
  intro p e R s m args below meth c H locs cells slots arr hC
  obtain ⟨hx, hb, c1, c2, c3, c4, c5, c6, c7, c8, c9, hl, c10⟩ := hC
  obtain ⟨arr', e1, e2⟩ := lh_storeL (i := 9) (x := v) hl hn (by simp) (fun j w hj hw => by
    have : j = 8 := by omega
    subst this
    have e1 : x8 = some w := Option.some.inj hw
    rw [e1] at h8
    simpa [lc1] using h8)
  have e2 : lh G arr' nL (x0 :: x1 :: x2 :: x3 :: x4 :: x5 :: x6 :: x7 :: x8 :: some (.long v) :: none :: r) := e2
  have kk := k p e R s m args below meth c H locs cells slots arr' ⟨hx, hb, c1, c2, c3, c4, c5, c6, c7, c8, c9, e2, c10⟩
  intro T hT X
  obtain ⟨t, a, b⟩ := kk T hT X
  refine ⟨t, ?_, b⟩
  jvm_step X.here [X.here.top, hx, hb, hd, em]
  first | exact a | exact ⟨arr', e1, a⟩ | exact ⟨rfl, arr', e1, a⟩
theorem P_iload10 {G : GX} {own nm : String} {cc : ByteArray} {nL : Nat} {ret : Option FieldType} {d kc ks : Nat} {Q : Option Value → Shp → Mem → Prop} {pc pc' : Nat} {ls : List (Option Value)} {rest : List Value} {S : Shp} {I : Mem} {x0 x1 x2 x3 x4 x5 x6 x7 x8 x9 : Option Value} {r : List (Option Value)} {v : Int32} (hd : decode cc pc = .ok (.iload 10, 2)) (hp : pc + 2 = pc') (k : PW G own nm cc nL ret d kc ks Q pc' (x0 :: x1 :: x2 :: x3 :: x4 :: x5 :: x6 :: x7 :: x8 :: x9 :: some (.int v) :: r) (.int v :: rest) S I) : PW G own nm cc nL ret d kc ks Q pc (x0 :: x1 :: x2 :: x3 :: x4 :: x5 :: x6 :: x7 :: x8 :: x9 :: some (.int v) :: r) rest S I := by
  subst hp
  intro p e R s m args below meth c H locs cells slots arr hC
  exact lv_iload hC.1 hC.2.1 hd (hC.2.2.2.2.2.2.2.2.2.2.2.1.2.2 10 (.int v) rfl) (k p e R s m args below meth c H locs cells slots arr hC)
theorem P_aload10 {G : GX} {own nm : String} {cc : ByteArray} {nL : Nat} {ret : Option FieldType} {d kc ks : Nat} {Q : Option Value → Shp → Mem → Prop} {pc pc' : Nat} {ls : List (Option Value)} {rest : List Value} {S : Shp} {I : Mem} {x0 x1 x2 x3 x4 x5 x6 x7 x8 x9 : Option Value} {r : List (Option Value)} {v : Nat} (hd : decode cc pc = .ok (.aload 10, 2)) (hp : pc + 2 = pc') (k : PW G own nm cc nL ret d kc ks Q pc' (x0 :: x1 :: x2 :: x3 :: x4 :: x5 :: x6 :: x7 :: x8 :: x9 :: some (.ref v) :: r) (.ref v :: rest) S I) : PW G own nm cc nL ret d kc ks Q pc (x0 :: x1 :: x2 :: x3 :: x4 :: x5 :: x6 :: x7 :: x8 :: x9 :: some (.ref v) :: r) rest S I := by
  subst hp
  intro p e R s m args below meth c H locs cells slots arr hC
  exact lv_aload hC.1 hC.2.1 hd (hC.2.2.2.2.2.2.2.2.2.2.2.1.2.2 10 (.ref v) rfl) (k p e R s m args below meth c H locs cells slots arr hC)
theorem P_lload10 {G : GX} {own nm : String} {cc : ByteArray} {nL : Nat} {ret : Option FieldType} {d kc ks : Nat} {Q : Option Value → Shp → Mem → Prop} {pc pc' : Nat} {ls : List (Option Value)} {rest : List Value} {S : Shp} {I : Mem} {x0 x1 x2 x3 x4 x5 x6 x7 x8 x9 : Option Value} {r : List (Option Value)} {v : Int64} (hd : decode cc pc = .ok (.lload 10, 2)) (hp : pc + 2 = pc') (k : PW G own nm cc nL ret d kc ks Q pc' (x0 :: x1 :: x2 :: x3 :: x4 :: x5 :: x6 :: x7 :: x8 :: x9 :: some (.long v) :: r) (.long v :: rest) S I) : PW G own nm cc nL ret d kc ks Q pc (x0 :: x1 :: x2 :: x3 :: x4 :: x5 :: x6 :: x7 :: x8 :: x9 :: some (.long v) :: r) rest S I := by
  subst hp
  intro p e R s m args below meth c H locs cells slots arr hC
  exact lv_lload hC.1 hC.2.1 hd (hC.2.2.2.2.2.2.2.2.2.2.2.1.2.2 10 (.long v) rfl) (k p e R s m args below meth c H locs cells slots arr hC)
theorem P_istore10 {G : GX} {own nm : String} {cc : ByteArray} {nL : Nat} {ret : Option FieldType} {d kc ks : Nat} {Q : Option Value → Shp → Mem → Prop} {pc pc' : Nat} {ls : List (Option Value)} {rest : List Value} {S : Shp} {I : Mem} {x0 x1 x2 x3 x4 x5 x6 x7 x8 x9 : Option Value} {r : List (Option Value)} {o : Option Value} {v : Int32} (hd : decode cc pc = .ok (.istore 10, 2)) (hp : pc + 2 = pc') (hn : 10 < nL) (h9 : lc1 x9 = true) (k : PW G own nm cc nL ret d kc ks Q pc' (x0 :: x1 :: x2 :: x3 :: x4 :: x5 :: x6 :: x7 :: x8 :: x9 :: some (.int v) :: r) rest S I) : PW G own nm cc nL ret d kc ks Q pc (x0 :: x1 :: x2 :: x3 :: x4 :: x5 :: x6 :: x7 :: x8 :: x9 :: o :: r) (.int v :: rest) S I := by
  subst hp
  intro p e R s m args below meth c H locs cells slots arr hC
  obtain ⟨hx, hb, c1, c2, c3, c4, c5, c6, c7, c8, c9, hl, c10⟩ := hC
  obtain ⟨arr', e1, e2⟩ := lh_store (i := 10) (v := .int v) hl hn (by simp) rfl (fun j w hj hw => by
    have : j = 9 := by omega
    subst this
    have e1 : x9 = some w := Option.some.inj hw
    rw [e1] at h9
    simpa [lc1] using h9)
  have e2 : lh G arr' nL (x0 :: x1 :: x2 :: x3 :: x4 :: x5 :: x6 :: x7 :: x8 :: x9 :: some (.int v) :: r) := e2
  have kk := k p e R s m args below meth c H locs cells slots arr' ⟨hx, hb, c1, c2, c3, c4, c5, c6, c7, c8, c9, e2, c10⟩
  intro T hT X
  obtain ⟨t, a, b⟩ := kk T hT X
  refine ⟨t, ?_, b⟩
  have e1 : storeLocals arr 10 (em G (.int v)) = some arr' := e1
  jvm_step X.here [X.here.top, hx, hb, hd, em]
  first | exact a | exact ⟨arr', e1, a⟩ | exact ⟨rfl, arr', e1, a⟩
theorem P_astore10 {G : GX} {own nm : String} {cc : ByteArray} {nL : Nat} {ret : Option FieldType} {d kc ks : Nat} {Q : Option Value → Shp → Mem → Prop} {pc pc' : Nat} {ls : List (Option Value)} {rest : List Value} {S : Shp} {I : Mem} {x0 x1 x2 x3 x4 x5 x6 x7 x8 x9 : Option Value} {r : List (Option Value)} {o : Option Value} {v : Nat} (hd : decode cc pc = .ok (.astore 10, 2)) (hp : pc + 2 = pc') (hn : 10 < nL) (h9 : lc1 x9 = true) (k : PW G own nm cc nL ret d kc ks Q pc' (x0 :: x1 :: x2 :: x3 :: x4 :: x5 :: x6 :: x7 :: x8 :: x9 :: some (.ref v) :: r) rest S I) : PW G own nm cc nL ret d kc ks Q pc (x0 :: x1 :: x2 :: x3 :: x4 :: x5 :: x6 :: x7 :: x8 :: x9 :: o :: r) (.ref v :: rest) S I := by
  subst hp
  intro p e R s m args below meth c H locs cells slots arr hC
  obtain ⟨hx, hb, c1, c2, c3, c4, c5, c6, c7, c8, c9, hl, c10⟩ := hC
  obtain ⟨arr', e1, e2⟩ := lh_store (i := 10) (v := .ref v) hl hn (by simp) rfl (fun j w hj hw => by
    have : j = 9 := by omega
    subst this
    have e1 : x9 = some w := Option.some.inj hw
    rw [e1] at h9
    simpa [lc1] using h9)
  have e2 : lh G arr' nL (x0 :: x1 :: x2 :: x3 :: x4 :: x5 :: x6 :: x7 :: x8 :: x9 :: some (.ref v) :: r) := e2
  have kk := k p e R s m args below meth c H locs cells slots arr' ⟨hx, hb, c1, c2, c3, c4, c5, c6, c7, c8, c9, e2, c10⟩
  intro T hT X
  obtain ⟨t, a, b⟩ := kk T hT X
  refine ⟨t, ?_, b⟩
  have e1 : storeLocals arr 10 (em G (.ref v)) = some arr' := e1
  jvm_step X.here [X.here.top, hx, hb, hd, em]
  first | exact a | exact ⟨arr', e1, a⟩ | exact ⟨rfl, arr', e1, a⟩
theorem P_iinc10 {G : GX} {own nm : String} {cc : ByteArray} {nL : Nat} {ret : Option FieldType} {d kc ks : Nat} {Q : Option Value → Shp → Mem → Prop} {pc pc' : Nat} {ls : List (Option Value)} {rest : List Value} {S : Shp} {I : Mem} {x0 x1 x2 x3 x4 x5 x6 x7 x8 x9 : Option Value} {r : List (Option Value)} {x v : Int32} {n : Int} (hd : decode cc pc = .ok (.iinc 10 n, 3)) (hp : pc + 3 = pc') (hv : x + Int32.ofInt n = v) (hn : 10 < nL) (h9 : lc1 x9 = true) (k : PW G own nm cc nL ret d kc ks Q pc' (x0 :: x1 :: x2 :: x3 :: x4 :: x5 :: x6 :: x7 :: x8 :: x9 :: some (.int v) :: r) rest S I) : PW G own nm cc nL ret d kc ks Q pc (x0 :: x1 :: x2 :: x3 :: x4 :: x5 :: x6 :: x7 :: x8 :: x9 :: some (.int x) :: r) rest S I := by
  subst hp
  intro p e R s m args below meth c H locs cells slots arr hC
  obtain ⟨hx, hb, c1, c2, c3, c4, c5, c6, c7, c8, c9, hl, c10⟩ := hC
  obtain ⟨arr', e1, e2⟩ := lh_store (i := 10) (v := .int v) hl hn (by simp) rfl (fun j w hj hw => by
    have : j = 9 := by omega
    subst this
    have e1 : x9 = some w := Option.some.inj hw
    rw [e1] at h9
    simpa [lc1] using h9)
  have e2 : lh G arr' nL (x0 :: x1 :: x2 :: x3 :: x4 :: x5 :: x6 :: x7 :: x8 :: x9 :: some (.int v) :: r) := e2
  have hi : arr[10]? = some (.val (.int x)) := hl.2.2 10 (.int x) rfl
  have kk := k p e R s m args below meth c H locs cells slots arr' ⟨hx, hb, c1, c2, c3, c4, c5, c6, c7, c8, c9, e2, c10⟩
  intro T hT X
  obtain ⟨t, a, b⟩ := kk T hT X
  refine ⟨t, ?_, b⟩
  have e1 : storeLocals arr 10 (.int v) = some arr' := e1
  rw [← hv] at e1
  jvm_step X.here [X.here.top, hx, hb, hd, hi, e1]
  exact a
theorem P_lstore10 {G : GX} {own nm : String} {cc : ByteArray} {nL : Nat} {ret : Option FieldType} {d kc ks : Nat} {Q : Option Value → Shp → Mem → Prop} {pc pc' : Nat} {ls : List (Option Value)} {rest : List Value} {S : Shp} {I : Mem} {x0 x1 x2 x3 x4 x5 x6 x7 x8 x9 : Option Value} {r : List (Option Value)} {o o2 : Option Value} {v : Int64} (hd : decode cc pc = .ok (.lstore 10, 2)) (hp : pc + 2 = pc') (hn : 10 + 1 < nL) (h9 : lc1 x9 = true) (k : PW G own nm cc nL ret d kc ks Q pc' (x0 :: x1 :: x2 :: x3 :: x4 :: x5 :: x6 :: x7 :: x8 :: x9 :: some (.long v) :: none :: r) rest S I) : PW G own nm cc nL ret d kc ks Q pc (x0 :: x1 :: x2 :: x3 :: x4 :: x5 :: x6 :: x7 :: x8 :: x9 :: o :: o2 :: r) (.long v :: rest) S I := by
  subst hp
  intro p e R s m args below meth c H locs cells slots arr hC
  obtain ⟨hx, hb, c1, c2, c3, c4, c5, c6, c7, c8, c9, hl, c10⟩ := hC
  obtain ⟨arr', e1, e2⟩ := lh_storeL (i := 10) (x := v) hl hn (by simp) (fun j w hj hw => by
    have : j = 9 := by omega
    subst this
    have e1 : x9 = some w := Option.some.inj hw
    rw [e1] at h9
    simpa [lc1] using h9)
  have e2 : lh G arr' nL (x0 :: x1 :: x2 :: x3 :: x4 :: x5 :: x6 :: x7 :: x8 :: x9 :: some (.long v) :: none :: r) := e2
  have kk := k p e R s m args below meth c H locs cells slots arr' ⟨hx, hb, c1, c2, c3, c4, c5, c6, c7, c8, c9, e2, c10⟩
  intro T hT X
  obtain ⟨t, a, b⟩ := kk T hT X
  refine ⟨t, ?_, b⟩
  jvm_step X.here [X.here.top, hx, hb, hd, em]
  first | exact a | exact ⟨arr', e1, a⟩ | exact ⟨rfl, arr', e1, a⟩
theorem P_iload11 {G : GX} {own nm : String} {cc : ByteArray} {nL : Nat} {ret : Option FieldType} {d kc ks : Nat} {Q : Option Value → Shp → Mem → Prop} {pc pc' : Nat} {ls : List (Option Value)} {rest : List Value} {S : Shp} {I : Mem} {x0 x1 x2 x3 x4 x5 x6 x7 x8 x9 x10 : Option Value} {r : List (Option Value)} {v : Int32} (hd : decode cc pc = .ok (.iload 11, 2)) (hp : pc + 2 = pc') (k : PW G own nm cc nL ret d kc ks Q pc' (x0 :: x1 :: x2 :: x3 :: x4 :: x5 :: x6 :: x7 :: x8 :: x9 :: x10 :: some (.int v) :: r) (.int v :: rest) S I) : PW G own nm cc nL ret d kc ks Q pc (x0 :: x1 :: x2 :: x3 :: x4 :: x5 :: x6 :: x7 :: x8 :: x9 :: x10 :: some (.int v) :: r) rest S I := by
  subst hp
  intro p e R s m args below meth c H locs cells slots arr hC
  exact lv_iload hC.1 hC.2.1 hd (hC.2.2.2.2.2.2.2.2.2.2.2.1.2.2 11 (.int v) rfl) (k p e R s m args below meth c H locs cells slots arr hC)
theorem P_aload11 {G : GX} {own nm : String} {cc : ByteArray} {nL : Nat} {ret : Option FieldType} {d kc ks : Nat} {Q : Option Value → Shp → Mem → Prop} {pc pc' : Nat} {ls : List (Option Value)} {rest : List Value} {S : Shp} {I : Mem} {x0 x1 x2 x3 x4 x5 x6 x7 x8 x9 x10 : Option Value} {r : List (Option Value)} {v : Nat} (hd : decode cc pc = .ok (.aload 11, 2)) (hp : pc + 2 = pc') (k : PW G own nm cc nL ret d kc ks Q pc' (x0 :: x1 :: x2 :: x3 :: x4 :: x5 :: x6 :: x7 :: x8 :: x9 :: x10 :: some (.ref v) :: r) (.ref v :: rest) S I) : PW G own nm cc nL ret d kc ks Q pc (x0 :: x1 :: x2 :: x3 :: x4 :: x5 :: x6 :: x7 :: x8 :: x9 :: x10 :: some (.ref v) :: r) rest S I := by
  subst hp
  intro p e R s m args below meth c H locs cells slots arr hC
  exact lv_aload hC.1 hC.2.1 hd (hC.2.2.2.2.2.2.2.2.2.2.2.1.2.2 11 (.ref v) rfl) (k p e R s m args below meth c H locs cells slots arr hC)
theorem P_lload11 {G : GX} {own nm : String} {cc : ByteArray} {nL : Nat} {ret : Option FieldType} {d kc ks : Nat} {Q : Option Value → Shp → Mem → Prop} {pc pc' : Nat} {ls : List (Option Value)} {rest : List Value} {S : Shp} {I : Mem} {x0 x1 x2 x3 x4 x5 x6 x7 x8 x9 x10 : Option Value} {r : List (Option Value)} {v : Int64} (hd : decode cc pc = .ok (.lload 11, 2)) (hp : pc + 2 = pc') (k : PW G own nm cc nL ret d kc ks Q pc' (x0 :: x1 :: x2 :: x3 :: x4 :: x5 :: x6 :: x7 :: x8 :: x9 :: x10 :: some (.long v) :: r) (.long v :: rest) S I) : PW G own nm cc nL ret d kc ks Q pc (x0 :: x1 :: x2 :: x3 :: x4 :: x5 :: x6 :: x7 :: x8 :: x9 :: x10 :: some (.long v) :: r) rest S I := by
  subst hp
  intro p e R s m args below meth c H locs cells slots arr hC
  exact lv_lload hC.1 hC.2.1 hd (hC.2.2.2.2.2.2.2.2.2.2.2.1.2.2 11 (.long v) rfl) (k p e R s m args below meth c H locs cells slots arr hC)
theorem P_istore11 {G : GX} {own nm : String} {cc : ByteArray} {nL : Nat} {ret : Option FieldType} {d kc ks : Nat} {Q : Option Value → Shp → Mem → Prop} {pc pc' : Nat} {ls : List (Option Value)} {rest : List Value} {S : Shp} {I : Mem} {x0 x1 x2 x3 x4 x5 x6 x7 x8 x9 x10 : Option Value} {r : List (Option Value)} {o : Option Value} {v : Int32} (hd : decode cc pc = .ok (.istore 11, 2)) (hp : pc + 2 = pc') (hn : 11 < nL) (h10 : lc1 x10 = true) (k : PW G own nm cc nL ret d kc ks Q pc' (x0 :: x1 :: x2 :: x3 :: x4 :: x5 :: x6 :: x7 :: x8 :: x9 :: x10 :: some (.int v) :: r) rest S I) : PW G own nm cc nL ret d kc ks Q pc (x0 :: x1 :: x2 :: x3 :: x4 :: x5 :: x6 :: x7 :: x8 :: x9 :: x10 :: o :: r) (.int v :: rest) S I := by
  subst hp
  intro p e R s m args below meth c H locs cells slots arr hC
  obtain ⟨hx, hb, c1, c2, c3, c4, c5, c6, c7, c8, c9, hl, c10⟩ := hC
  obtain ⟨arr', e1, e2⟩ := lh_store (i := 11) (v := .int v) hl hn (by simp) rfl (fun j w hj hw => by
    have : j = 10 := by omega
    subst this
    have e1 : x10 = some w := Option.some.inj hw
    rw [e1] at h10
    simpa [lc1] using h10)
  have e2 : lh G arr' nL (x0 :: x1 :: x2 :: x3 :: x4 :: x5 :: x6 :: x7 :: x8 :: x9 :: x10 :: some (.int v) :: r) := e2
  have kk := k p e R s m args below meth c H locs cells slots arr' ⟨hx, hb, c1, c2, c3, c4, c5, c6, c7, c8, c9, e2, c10⟩
  intro T hT X
  obtain ⟨t, a, b⟩ := kk T hT X
  refine ⟨t, ?_, b⟩
  have e1 : storeLocals arr 11 (em G (.int v)) = some arr' := e1
  jvm_step X.here [X.here.top, hx, hb, hd, em]
  first | exact a | exact ⟨arr', e1, a⟩ | exact ⟨rfl, arr', e1, a⟩
theorem P_astore11 {G : GX} {own nm : String} {cc : ByteArray} {nL : Nat} {ret : Option FieldType} {d kc ks : Nat} {Q : Option Value → Shp → Mem → Prop} {pc pc' : Nat} {ls : List (Option Value)} {rest : List Value} {S : Shp} {I : Mem} {x0 x1 x2 x3 x4 x5 x6 x7 x8 x9 x10 : Option Value} {r : List (Option Value)} {o : Option Value} {v : Nat} (hd : decode cc pc = .ok (.astore 11, 2)) (hp : pc + 2 = pc') (hn : 11 < nL) (h10 : lc1 x10 = true) (k : PW G own nm cc nL ret d kc ks Q pc' (x0 :: x1 :: x2 :: x3 :: x4 :: x5 :: x6 :: x7 :: x8 :: x9 :: x10 :: some (.ref v) :: r) rest S I) : PW G own nm cc nL ret d kc ks Q pc (x0 :: x1 :: x2 :: x3 :: x4 :: x5 :: x6 :: x7 :: x8 :: x9 :: x10 :: o :: r) (.ref v :: rest) S I := by
  subst hp
  intro p e R s m args below meth c H locs cells slots arr hC
  obtain ⟨hx, hb, c1, c2, c3, c4, c5, c6, c7, c8, c9, hl, c10⟩ := hC
  obtain ⟨arr', e1, e2⟩ := lh_store (i := 11) (v := .ref v) hl hn (by simp) rfl (fun j w hj hw => by
    have : j = 10 := by omega
    subst this
    have e1 : x10 = some w := Option.some.inj hw
    rw [e1] at h10
    simpa [lc1] using h10)
  have e2 : lh G arr' nL (x0 :: x1 :: x2 :: x3 :: x4 :: x5 :: x6 :: x7 :: x8 :: x9 :: x10 :: some (.ref v) :: r) := e2
  have kk := k p e R s m args below meth c H locs cells slots arr' ⟨hx, hb, c1, c2, c3, c4, c5, c6, c7, c8, c9, e2, c10⟩
  intro T hT X
  obtain ⟨t, a, b⟩ := kk T hT X
  refine ⟨t, ?_, b⟩
  have e1 : storeLocals arr 11 (em G (.ref v)) = some arr' := e1
  jvm_step X.here [X.here.top, hx, hb, hd, em]
  first | exact a | exact ⟨arr', e1, a⟩ | exact ⟨rfl, arr', e1, a⟩
theorem P_iinc11 {G : GX} {own nm : String} {cc : ByteArray} {nL : Nat} {ret : Option FieldType} {d kc ks : Nat} {Q : Option Value → Shp → Mem → Prop} {pc pc' : Nat} {ls : List (Option Value)} {rest : List Value} {S : Shp} {I : Mem} {x0 x1 x2 x3 x4 x5 x6 x7 x8 x9 x10 : Option Value} {r : List (Option Value)} {x v : Int32} {n : Int} (hd : decode cc pc = .ok (.iinc 11 n, 3)) (hp : pc + 3 = pc') (hv : x + Int32.ofInt n = v) (hn : 11 < nL) (h10 : lc1 x10 = true) (k : PW G own nm cc nL ret d kc ks Q pc' (x0 :: x1 :: x2 :: x3 :: x4 :: x5 :: x6 :: x7 :: x8 :: x9 :: x10 :: some (.int v) :: r) rest S I) : PW G own nm cc nL ret d kc ks Q pc (x0 :: x1 :: x2 :: x3 :: x4 :: x5 :: x6 :: x7 :: x8 :: x9 :: x10 :: some (.int x) :: r) rest S I := by
  subst hp
  intro p e R s m args below meth c H locs cells slots arr hC
  obtain ⟨hx, hb, c1, c2, c3, c4, c5, c6, c7, c8, c9, hl, c10⟩ := hC
  obtain ⟨arr', e1, e2⟩ := lh_store (i := 11) (v := .int v) hl hn (by simp) rfl (fun j w hj hw => by
    have : j = 10 := by omega
    subst this
    have e1 : x10 = some w := Option.some.inj hw
    rw [e1] at h10
    simpa [lc1] using h10)
  have e2 : lh G arr' nL (x0 :: x1 :: x2 :: x3 :: x4 :: x5 :: x6 :: x7 :: x8 :: x9 :: x10 :: some (.int v) :: r) := e2
  have hi : arr[11]? = some (.val (.int x)) := hl.2.2 11 (.int x) rfl
  have kk := k p e R s m args below meth c H locs cells slots arr' ⟨hx, hb, c1, c2, c3, c4, c5, c6, c7, c8, c9, e2, c10⟩
  intro T hT X
  obtain ⟨t, a, b⟩ := kk T hT X
  refine ⟨t, ?_, b⟩
  have e1 : storeLocals arr 11 (.int v) = some arr' := e1
  rw [← hv] at e1
  jvm_step X.here [X.here.top, hx, hb, hd, hi, e1]
  exact a
theorem P_lstore11 {G : GX} {own nm : String} {cc : ByteArray} {nL : Nat} {ret : Option FieldType} {d kc ks : Nat} {Q : Option Value → Shp → Mem → Prop} {pc pc' : Nat} {ls : List (Option Value)} {rest : List Value} {S : Shp} {I : Mem} {x0 x1 x2 x3 x4 x5 x6 x7 x8 x9 x10 : Option Value} {r : List (Option Value)} {o o2 : Option Value} {v : Int64} (hd : decode cc pc = .ok (.lstore 11, 2)) (hp : pc + 2 = pc') (hn : 11 + 1 < nL) (h10 : lc1 x10 = true) (k : PW G own nm cc nL ret d kc ks Q pc' (x0 :: x1 :: x2 :: x3 :: x4 :: x5 :: x6 :: x7 :: x8 :: x9 :: x10 :: some (.long v) :: none :: r) rest S I) : PW G own nm cc nL ret d kc ks Q pc (x0 :: x1 :: x2 :: x3 :: x4 :: x5 :: x6 :: x7 :: x8 :: x9 :: x10 :: o :: o2 :: r) (.long v :: rest) S I := by
  subst hp
  intro p e R s m args below meth c H locs cells slots arr hC
  obtain ⟨hx, hb, c1, c2, c3, c4, c5, c6, c7, c8, c9, hl, c10⟩ := hC
  obtain ⟨arr', e1, e2⟩ := lh_storeL (i := 11) (x := v) hl hn (by simp) (fun j w hj hw => by
    have : j = 10 := by omega
    subst this
    have e1 : x10 = some w := Option.some.inj hw
    rw [e1] at h10
    simpa [lc1] using h10)
  have e2 : lh G arr' nL (x0 :: x1 :: x2 :: x3 :: x4 :: x5 :: x6 :: x7 :: x8 :: x9 :: x10 :: some (.long v) :: none :: r) := e2
  have kk := k p e R s m args below meth c H locs cells slots arr' ⟨hx, hb, c1, c2, c3, c4, c5, c6, c7, c8, c9, e2, c10⟩
  intro T hT X
  obtain ⟨t, a, b⟩ := kk T hT X
  refine ⟨t, ?_, b⟩
  jvm_step X.here [X.here.top, hx, hb, hd, em]
  first | exact a | exact ⟨arr', e1, a⟩ | exact ⟨rfl, arr', e1, a⟩
theorem P_iload12 {G : GX} {own nm : String} {cc : ByteArray} {nL : Nat} {ret : Option FieldType} {d kc ks : Nat} {Q : Option Value → Shp → Mem → Prop} {pc pc' : Nat} {ls : List (Option Value)} {rest : List Value} {S : Shp} {I : Mem} {x0 x1 x2 x3 x4 x5 x6 x7 x8 x9 x10 x11 : Option Value} {r : List (Option Value)} {v : Int32} (hd : decode cc pc = .ok (.iload 12, 2)) (hp : pc + 2 = pc') (k : PW G own nm cc nL ret d kc ks Q pc' (x0 :: x1 :: x2 :: x3 :: x4 :: x5 :: x6 :: x7 :: x8 :: x9 :: x10 :: x11 :: some (.int v) :: r) (.int v :: rest) S I) : PW G own nm cc nL ret d kc ks Q pc (x0 :: x1 :: x2 :: x3 :: x4 :: x5 :: x6 :: x7 :: x8 :: x9 :: x10 :: x11 :: some (.int v) :: r) rest S I := by
  subst hp
  intro p e R s m args below meth c H locs cells slots arr hC
  exact lv_iload hC.1 hC.2.1 hd (hC.2.2.2.2.2.2.2.2.2.2.2.1.2.2 12 (.int v) rfl) (k p e R s m args below meth c H locs cells slots arr hC)
theorem P_aload12 {G : GX} {own nm : String} {cc : ByteArray} {nL : Nat} {ret : Option FieldType} {d kc ks : Nat} {Q : Option Value → Shp → Mem → Prop} {pc pc' : Nat} {ls : List (Option Value)} {rest : List Value} {S : Shp} {I : Mem} {x0 x1 x2 x3 x4 x5 x6 x7 x8 x9 x10 x11 : Option Value} {r : List (Option Value)} {v : Nat} (hd : decode cc pc = .ok (.aload 12, 2)) (hp : pc + 2 = pc') (k : PW G own nm cc nL ret d kc ks Q pc' (x0 :: x1 :: x2 :: x3 :: x4 :: x5 :: x6 :: x7 :: x8 :: x9 :: x10 :: x11 :: some (.ref v) :: r) (.ref v :: rest) S I) : PW G own nm cc nL ret d kc ks Q pc (x0 :: x1 :: x2 :: x3 :: x4 :: x5 :: x6 :: x7 :: x8 :: x9 :: x10 :: x11 :: some (.ref v) :: r) rest S I := by
  subst hp
  intro p e R s m args below meth c H locs cells slots arr hC
  exact lv_aload hC.1 hC.2.1 hd (hC.2.2.2.2.2.2.2.2.2.2.2.1.2.2 12 (.ref v) rfl) (k p e R s m args below meth c H locs cells slots arr hC)
theorem P_lload12 {G : GX} {own nm : String} {cc : ByteArray} {nL : Nat} {ret : Option FieldType} {d kc ks : Nat} {Q : Option Value → Shp → Mem → Prop} {pc pc' : Nat} {ls : List (Option Value)} {rest : List Value} {S : Shp} {I : Mem} {x0 x1 x2 x3 x4 x5 x6 x7 x8 x9 x10 x11 : Option Value} {r : List (Option Value)} {v : Int64} (hd : decode cc pc = .ok (.lload 12, 2)) (hp : pc + 2 = pc') (k : PW G own nm cc nL ret d kc ks Q pc' (x0 :: x1 :: x2 :: x3 :: x4 :: x5 :: x6 :: x7 :: x8 :: x9 :: x10 :: x11 :: some (.long v) :: r) (.long v :: rest) S I) : PW G own nm cc nL ret d kc ks Q pc (x0 :: x1 :: x2 :: x3 :: x4 :: x5 :: x6 :: x7 :: x8 :: x9 :: x10 :: x11 :: some (.long v) :: r) rest S I := by
  subst hp
  intro p e R s m args below meth c H locs cells slots arr hC
  exact lv_lload hC.1 hC.2.1 hd (hC.2.2.2.2.2.2.2.2.2.2.2.1.2.2 12 (.long v) rfl) (k p e R s m args below meth c H locs cells slots arr hC)
theorem P_istore12 {G : GX} {own nm : String} {cc : ByteArray} {nL : Nat} {ret : Option FieldType} {d kc ks : Nat} {Q : Option Value → Shp → Mem → Prop} {pc pc' : Nat} {ls : List (Option Value)} {rest : List Value} {S : Shp} {I : Mem} {x0 x1 x2 x3 x4 x5 x6 x7 x8 x9 x10 x11 : Option Value} {r : List (Option Value)} {o : Option Value} {v : Int32} (hd : decode cc pc = .ok (.istore 12, 2)) (hp : pc + 2 = pc') (hn : 12 < nL) (h11 : lc1 x11 = true) (k : PW G own nm cc nL ret d kc ks Q pc' (x0 :: x1 :: x2 :: x3 :: x4 :: x5 :: x6 :: x7 :: x8 :: x9 :: x10 :: x11 :: some (.int v) :: r) rest S I) : PW G own nm cc nL ret d kc ks Q pc (x0 :: x1 :: x2 :: x3 :: x4 :: x5 :: x6 :: x7 :: x8 :: x9 :: x10 :: x11 :: o :: r) (.int v :: rest) S I := by
  subst hp
  intro p e R s m args below meth c H locs cells slots arr hC
  obtain ⟨hx, hb, c1, c2, c3, c4, c5, c6, c7, c8, c9, hl, c10⟩ := hC
  obtain ⟨arr', e1, e2⟩ := lh_store (i := 12) (v := .int v) hl hn (by simp) rfl (fun j w hj hw => by
    have : j = 11 := by omega
    subst this
    have e1 : x11 = some w := Option.some.inj hw
    rw [e1] at h11
    simpa [lc1] using h11)
  have e2 : lh G arr' nL (x0 :: x1 :: x2 :: x3 :: x4 :: x5 :: x6 :: x7 :: x8 :: x9 :: x10 :: x11 :: some (.int v) :: r) := e2
  have kk := k p e R s m args below meth c H locs cells slots arr' ⟨hx, hb, c1, c2, c3, c4, c5, c6, c7, c8, c9, e2, c10⟩
  intro T hT X
  obtain ⟨t, a, b⟩ := kk T hT X
  refine ⟨t, ?_, b⟩
  have e1 : storeLocals arr 12 (em G (.int v)) = some arr' := e1
  jvm_step X.here [X.here.top, hx, hb, hd, em]
  first | exact a | exact ⟨arr', e1, a⟩ | exact ⟨rfl, arr', e1, a⟩
theorem P_astore12 {G : GX} {own nm : String} {cc : ByteArray} {nL : Nat} {ret : Option FieldType} {d kc ks : Nat} {Q : Option Value → Shp → Mem → Prop} {pc pc' : Nat} {ls : List (Option Value)} {rest : List Value} {S : Shp} {I : Mem} {x0 x1 x2 x3 x4 x5 x6 x7 x8 x9 x10 x11 : Option Value} {r : List (Option Value)} {o : Option Value} {v : Nat} (hd : decode cc pc = .ok (.astore 12, 2)) (hp : pc + 2 = pc') (hn : 12 < nL) (h11 : lc1 x11 = true) (k : PW G own nm cc nL ret d kc ks Q pc' (x0 :: x1 :: x2 :: x3 :: x4 :: x5 :: x6 :: x7 :: x8 :: x9 :: x10 :: x11 :: some (.ref v) :: r) rest S I) : PW G own nm cc nL ret d kc ks Q pc (x0 :: x1 :: x2 :: x3 :: x4 :: x5 :: x6 :: x7 :: x8 :: x9 :: x10 :: x11 :: o :: r) (.ref v :: rest) S I := by
  subst hp
  intro p e R s m args below meth c H locs cells slots arr hC
  obtain ⟨hx, hb, c1, c2, c3, c4, c5, c6, c7, c8, c9, hl, c10⟩ := hC
  obtain ⟨arr', e1, e2⟩ := lh_store (i := 12) (v := .ref v) hl hn (by simp) rfl (fun j w hj hw => by
    have : j = 11 := by omega
    subst this
    have e1 : x11 = some w := Option.some.inj hw
    rw [e1] at h11
    simpa [lc1] using h11)
  have e2 : lh G arr' nL (x0 :: x1 :: x2 :: x3 :: x4 :: x5 :: x6 :: x7 :: x8 :: x9 :: x10 :: x11 :: some (.ref v) :: r) := e2
  have kk := k p e R s m args below meth c H locs cells slots arr' ⟨hx, hb, c1, c2, c3, c4, c5, c6, c7, c8, c9, e2, c10⟩
  intro T hT X
  obtain ⟨t, a, b⟩ := kk T hT X
  refine ⟨t, ?_, b⟩
  have e1 : storeLocals arr 12 (em G (.ref v)) = some arr' := e1
  jvm_step X.here [X.here.top, hx, hb, hd, em]
  first | exact a | exact ⟨arr', e1, a⟩ | exact ⟨rfl, arr', e1, a⟩
theorem P_iinc12 {G : GX} {own nm : String} {cc : ByteArray} {nL : Nat} {ret : Option FieldType} {d kc ks : Nat} {Q : Option Value → Shp → Mem → Prop} {pc pc' : Nat} {ls : List (Option Value)} {rest : List Value} {S : Shp} {I : Mem} {x0 x1 x2 x3 x4 x5 x6 x7 x8 x9 x10 x11 : Option Value} {r : List (Option Value)} {x v : Int32} {n : Int} (hd : decode cc pc = .ok (.iinc 12 n, 3)) (hp : pc + 3 = pc') (hv : x + Int32.ofInt n = v) (hn : 12 < nL) (h11 : lc1 x11 = true) (k : PW G own nm cc nL ret d kc ks Q pc' (x0 :: x1 :: x2 :: x3 :: x4 :: x5 :: x6 :: x7 :: x8 :: x9 :: x10 :: x11 :: some (.int v) :: r) rest S I) : PW G own nm cc nL ret d kc ks Q pc (x0 :: x1 :: x2 :: x3 :: x4 :: x5 :: x6 :: x7 :: x8 :: x9 :: x10 :: x11 :: some (.int x) :: r) rest S I := by
  subst hp
  intro p e R s m args below meth c H locs cells slots arr hC
  obtain ⟨hx, hb, c1, c2, c3, c4, c5, c6, c7, c8, c9, hl, c10⟩ := hC
  obtain ⟨arr', e1, e2⟩ := lh_store (i := 12) (v := .int v) hl hn (by simp) rfl (fun j w hj hw => by
    have : j = 11 := by omega
    subst this
    have e1 : x11 = some w := Option.some.inj hw
    rw [e1] at h11
    simpa [lc1] using h11)
  have e2 : lh G arr' nL (x0 :: x1 :: x2 :: x3 :: x4 :: x5 :: x6 :: x7 :: x8 :: x9 :: x10 :: x11 :: some (.int v) :: r) := e2
  have hi : arr[12]? = some (.val (.int x)) := hl.2.2 12 (.int x) rfl
  have kk := k p e R s m args below meth c H locs cells slots arr' ⟨hx, hb, c1, c2, c3, c4, c5, c6, c7, c8, c9, e2, c10⟩
  intro T hT X
  obtain ⟨t, a, b⟩ := kk T hT X
  refine ⟨t, ?_, b⟩
  have e1 : storeLocals arr 12 (.int v) = some arr' := e1
  rw [← hv] at e1
  jvm_step X.here [X.here.top, hx, hb, hd, hi, e1]
  exact a
theorem P_less {G : GX} {own nm : String} {cc : ByteArray} {nL : Nat} {ret : Option FieldType} {d kc ks : Nat} {Q : Option Value → Shp → Mem → Prop} {pc : Nat} {ls : List (Option Value)} {rest : List Value} {S : Shp} {I : Mem} {ls' : List (Option Value)} (h : ∀ (i : Nat) (v : Value), ls'[i]? = some (some v) → ls[i]? = some (some v)) (k : PW G own nm cc nL ret d kc ks Q pc ls' rest S I) : PW G own nm cc nL ret d kc ks Q pc ls rest S I := by
  intro p e R s m args below meth c H locs cells slots arr hC
  obtain ⟨hx, hb, c1, c2, c3, c4, c5, c6, c7, c8, c9, hl, c10⟩ := hC
  exact k p e R s m args below meth c H locs cells slots arr ⟨hx, hb, c1, c2, c3, c4, c5, c6, c7, c8, c9, ⟨hl.1, hl.2.1, fun i v hi => hl.2.2 i v (h i v hi)⟩, c10⟩
def lsub : List (Option Value) → List (Option Value) → Prop
  | [], _ => True
  | none :: a, _ :: b => lsub a b
  | some v :: a, some w :: b => v = w ∧ lsub a b
  | none :: a, [] => lsub a []
  | some _ :: _, _ => False
theorem lsub_at : ∀ (a b : List (Option Value)), lsub a b → ∀ (i : Nat) (v : Value), a[i]? = some (some v) → b[i]? = some (some v)
  | [], _, _, i, v, h => by simp at h
  | none :: a, x :: b, h, 0, v, hi => by simp at hi
  | none :: a, x :: b, h, i + 1, v, hi => by
    simp only [lsub] at h
    simp only [List.getElem?_cons_succ] at hi ⊢
    exact lsub_at a b h i v hi
  | some v :: a, some w :: b, h, 0, u, hi => by
    simp only [lsub] at h
    simp only [List.getElem?_cons_zero] at hi ⊢
    rw [← h.1]
    exact hi
  | some v :: a, some w :: b, h, i + 1, u, hi => by
    simp only [lsub] at h
    simp only [List.getElem?_cons_succ] at hi ⊢
    exact lsub_at a b h.2 i u hi
  | none :: a, [], h, 0, v, hi => by simp at hi
  | none :: a, [], h, i + 1, v, hi => by
    simp only [lsub] at h
    simp only [List.getElem?_cons_succ] at hi
    have := lsub_at a [] h i v hi
    simp at this
  | some _ :: _, [], h, _, _, _ => by simp [lsub] at h
  | some _ :: _, none :: _, h, _, _, _ => by simp [lsub] at h
theorem P_sub {G : GX} {own nm : String} {cc : ByteArray} {nL : Nat} {ret : Option FieldType} {d kc ks : Nat} {Q : Option Value → Shp → Mem → Prop} {pc : Nat} {ls : List (Option Value)} {rest : List Value} {S : Shp} {I : Mem} (ls' : List (Option Value)) (h : lsub ls' ls) (k : PW G own nm cc nL ret d kc ks Q pc ls' rest S I) : PW G own nm cc nL ret d kc ks Q pc ls rest S I := P_less (lsub_at _ _ h) k
theorem P_iret {G : GX} {own nm : String} {cc : ByteArray} {nL : Nat} {d kc ks : Nat} {Q : Option Value → Shp → Mem → Prop} {pc : Nat} {ls : List (Option Value)} {S : Shp} {I : Mem} {v : Int32} (hd : decode cc pc = .ok (.ireturn, 1)) (h : Q (some (.int v)) S I) : PW G own nm cc nL (some .int) d kc ks Q pc ls [.int v] S I := by
  intro p e R s m args below meth c H locs cells slots arr hC
  obtain ⟨hx, hb, hr, c2, c3, hlocks, c5, c6, hO, hS, hP, hl, c10⟩ := hC
  refine W.widen (k := cells + kc) (n := slots + ks) (by omega) (by omega) ?_
  exact W.iret (v := v) hx hb hr (fun t ht hW => ⟨(some (.int v)), S, I, rfl, h, by rw [ht]; exact hP, by rw [ht]; exact hS.1, fun q hq => by rw [ht]; exact hS.2.1 q (Nat.lt_of_lt_of_le hq hO.2.1) (Nat.not_le.mpr hq)⟩) hS.2.2 hd
theorem P_zret {G : GX} {own nm : String} {cc : ByteArray} {nL : Nat} {d kc ks : Nat} {Q : Option Value → Shp → Mem → Prop} {pc : Nat} {ls : List (Option Value)} {S : Shp} {I : Mem} {v : Int32} (hd : decode cc pc = .ok (.ireturn, 1)) (hv : v = 0 ∨ v = 1) (h : Q (some (.int v)) S I) : PW G own nm cc nL (some .boolean) d kc ks Q pc ls [.int v] S I := by
  intro p e R s m args below meth c H locs cells slots arr hC
  obtain ⟨hx, hb, hr, c2, c3, hlocks, c5, c6, hO, hS, hP, hl, c10⟩ := hC
  refine W.widen (k := cells + kc) (n := slots + ks) (by omega) (by omega) ?_
  exact W.zret (v := v) (ty := .boolean) hx hb hr (by rcases hv with rfl | rfl <;> rfl) (fun t ht hW => ⟨(some (.int v)), S, I, rfl, h, by rw [ht]; exact hP, by rw [ht]; exact hS.1, fun q hq => by rw [ht]; exact hS.2.1 q (Nat.lt_of_lt_of_le hq hO.2.1) (Nat.not_le.mpr hq)⟩) hS.2.2 hd
theorem P_cret {G : GX} {own nm : String} {cc : ByteArray} {nL : Nat} {d kc ks : Nat} {Q : Option Value → Shp → Mem → Prop} {pc : Nat} {ls : List (Option Value)} {S : Shp} {I : Mem} {v : Int32} (hd : decode cc pc = .ok (.ireturn, 1)) (hv : narrow .char (.int v) = .int v) (h : Q (some (.int v)) S I) : PW G own nm cc nL (some .char) d kc ks Q pc ls [.int v] S I := by
  intro p e R s m args below meth c H locs cells slots arr hC
  obtain ⟨hx, hb, hr, c2, c3, hlocks, c5, c6, hO, hS, hP, hl, c10⟩ := hC
  refine W.widen (k := cells + kc) (n := slots + ks) (by omega) (by omega) ?_
  exact W.zret (v := v) (ty := .char) hx hb hr hv (fun t ht hW => ⟨(some (.int v)), S, I, rfl, h, by rw [ht]; exact hP, by rw [ht]; exact hS.1, fun q hq => by rw [ht]; exact hS.2.1 q (Nat.lt_of_lt_of_le hq hO.2.1) (Nat.not_le.mpr hq)⟩) hS.2.2 hd
theorem P_bret {G : GX} {own nm : String} {cc : ByteArray} {nL : Nat} {d kc ks : Nat} {Q : Option Value → Shp → Mem → Prop} {pc : Nat} {ls : List (Option Value)} {S : Shp} {I : Mem} {v : Int32} (hd : decode cc pc = .ok (.ireturn, 1)) (hv : narrow .byte (.int v) = .int v) (h : Q (some (.int v)) S I) : PW G own nm cc nL (some .byte) d kc ks Q pc ls [.int v] S I := by
  intro p e R s m args below meth c H locs cells slots arr hC
  obtain ⟨hx, hb, hr, c2, c3, hlocks, c5, c6, hO, hS, hP, hl, c10⟩ := hC
  refine W.widen (k := cells + kc) (n := slots + ks) (by omega) (by omega) ?_
  exact W.zret (v := v) (ty := .byte) hx hb hr hv (fun t ht hW => ⟨(some (.int v)), S, I, rfl, h, by rw [ht]; exact hP, by rw [ht]; exact hS.1, fun q hq => by rw [ht]; exact hS.2.1 q (Nat.lt_of_lt_of_le hq hO.2.1) (Nat.not_le.mpr hq)⟩) hS.2.2 hd
theorem P_lret {G : GX} {own nm : String} {cc : ByteArray} {nL : Nat} {d kc ks : Nat} {Q : Option Value → Shp → Mem → Prop} {pc : Nat} {ls : List (Option Value)} {S : Shp} {I : Mem} {v : Int64} (hd : decode cc pc = .ok (.lreturn, 1)) (h : Q (some (.long v)) S I) : PW G own nm cc nL (some .long) d kc ks Q pc ls [.long v] S I := by
  intro p e R s m args below meth c H locs cells slots arr hC
  obtain ⟨hx, hb, hr, c2, c3, hlocks, c5, c6, hO, hS, hP, hl, c10⟩ := hC
  refine W.widen (k := cells + kc) (n := slots + ks) (by omega) (by omega) ?_
  exact W.lret (v := v) hx hb hr (fun t ht hW => ⟨(some (.long v)), S, I, rfl, h, by rw [ht]; exact hP, by rw [ht]; exact hS.1, fun q hq => by rw [ht]; exact hS.2.1 q (Nat.lt_of_lt_of_le hq hO.2.1) (Nat.not_le.mpr hq)⟩) hS.2.2 hd
theorem P_vret {G : GX} {own nm : String} {cc : ByteArray} {nL : Nat} {d kc ks : Nat} {Q : Option Value → Shp → Mem → Prop} {pc : Nat} {ls : List (Option Value)} {S : Shp} {I : Mem} (hd : decode cc pc = .ok (.return_, 1)) (h : Q none S I) : PW G own nm cc nL none d kc ks Q pc ls [] S I := by
  intro p e R s m args below meth c H locs cells slots arr hC
  obtain ⟨hx, hb, hr, c2, c3, hlocks, c5, c6, hO, hS, hP, hl, c10⟩ := hC
  refine W.widen (k := cells + kc) (n := slots + ks) (by omega) (by omega) ?_
  exact W.vret hx hb hr (fun t ht hW => ⟨none, S, I, rfl, h, by rw [ht]; exact hP, by rw [ht]; exact hS.1, fun q hq => by rw [ht]; exact hS.2.1 q (Nat.lt_of_lt_of_le hq hO.2.1) (Nat.not_le.mpr hq)⟩) hS.2.2 hd
theorem P_aret {G : GX} {own nm : String} {cc : ByteArray} {nL : Nat} {d kc ks : Nat} {Q : Option Value → Shp → Mem → Prop} {pc : Nat} {ls : List (Option Value)} {S : Shp} {I : Mem} {a : Nat} {n : String} (hd : decode cc pc = .ok (.areturn, 1)) (h : Q (some (.ref a)) S I) : PW G own nm cc nL (some (.object n)) d kc ks Q pc ls [.ref a] S I := by
  intro p e R s m args below meth c H locs cells slots arr hC
  obtain ⟨hx, hb, hr, c2, c3, hlocks, c5, c6, hO, hS, hP, hl, c10⟩ := hC
  refine W.widen (k := cells + kc) (n := slots + ks) (by omega) (by omega) ?_
  exact W.aret hx hb hr (Or.inl ⟨n, rfl⟩) (Or.inr ⟨_, rfl⟩) (fun t ht hW => ⟨(some (.ref a)), S, I, rfl, h, by rw [ht]; exact hP, by rw [ht]; exact hS.1, fun q hq => by rw [ht]; exact hS.2.1 q (Nat.lt_of_lt_of_le hq hO.2.1) (Nat.not_le.mpr hq)⟩) hS.2.2 hd
theorem P_aretA {G : GX} {own nm : String} {cc : ByteArray} {nL : Nat} {d kc ks : Nat} {Q : Option Value → Shp → Mem → Prop} {pc : Nat} {ls : List (Option Value)} {S : Shp} {I : Mem} {a : Nat} {n : FieldType} (hd : decode cc pc = .ok (.areturn, 1)) (h : Q (some (.ref a)) S I) : PW G own nm cc nL (some (.array n)) d kc ks Q pc ls [.ref a] S I := by
  intro p e R s m args below meth c H locs cells slots arr hC
  obtain ⟨hx, hb, hr, c2, c3, hlocks, c5, c6, hO, hS, hP, hl, c10⟩ := hC
  refine W.widen (k := cells + kc) (n := slots + ks) (by omega) (by omega) ?_
  exact W.aret hx hb hr (Or.inr ⟨n, rfl⟩) (Or.inr ⟨_, rfl⟩) (fun t ht hW => ⟨(some (.ref a)), S, I, rfl, h, by rw [ht]; exact hP, by rw [ht]; exact hS.1, fun q hq => by rw [ht]; exact hS.2.1 q (Nat.lt_of_lt_of_le hq hO.2.1) (Nat.not_le.mpr hq)⟩) hS.2.2 hd
theorem P_aretN {G : GX} {own nm : String} {cc : ByteArray} {nL : Nat} {d kc ks : Nat} {Q : Option Value → Shp → Mem → Prop} {pc : Nat} {ls : List (Option Value)} {S : Shp} {I : Mem} {n : String} (hd : decode cc pc = .ok (.areturn, 1)) (h : Q (some .null) S I) : PW G own nm cc nL (some (.object n)) d kc ks Q pc ls [.null] S I := by
  intro p e R s m args below meth c H locs cells slots arr hC
  obtain ⟨hx, hb, hr, c2, c3, hlocks, c5, c6, hO, hS, hP, hl, c10⟩ := hC
  refine W.widen (k := cells + kc) (n := slots + ks) (by omega) (by omega) ?_
  exact W.aret hx hb hr (Or.inl ⟨n, rfl⟩) (Or.inl rfl) (fun t ht hW => ⟨(some .null), S, I, rfl, h, by rw [ht]; exact hP, by rw [ht]; exact hS.1, fun q hq => by rw [ht]; exact hS.2.1 q (Nat.lt_of_lt_of_le hq hO.2.1) (Nat.not_le.mpr hq)⟩) hS.2.2 hd
end
section
def FLk (own : String) (idx c k : Nat) (fin : Bool) (ty : FieldType) : Prop :=
  ∃ (C : String) (T : u_T) (N : Nat) (ty0 : Nat → FieldType), vwCl[c]? = some (C, T, N) ∧ N = nFl c ∧ k < N ∧ c < 9 ∧ Cond.fieldLink own idx (T k).1 (T k).2.1 (T k).2.2.1 ∈ lw_tbl ∧ (∀ w ∈ u_ws C T N, w ∈ lw_g) ∧ (T k).2.2.2 = fin ∧ parseFieldDescriptor (T k).2.2.1 = some ty ∧ (∀ k, k < N → parseFieldDescriptor (T k).2.2.1 = some (ty0 k)) ∧ (∀ a, a < N → ∀ b, b < N → a ≠ b → (T a).2.1 ≠ (T b).2.1) ∧ (T k).1 = C
def u2 (I : Mem) (a k : Nat) (v : Int32) : Mem := fun x y => if x = a ∧ y = k then v else I x y
def p2 (F : Nat → Nat → Option Nat) (a k : Nat) (v : Option Nat) : Nat → Nat → Option Nat := fun x y => if x = a ∧ y = k then v else F x y
theorem u2_s (I : Mem) (a k : Nat) (v : Int32) : u2 I a k v a k = v := by simp [u2]
theorem u2_a {I : Mem} {a k x y : Nat} {v : Int32} (h : x ≠ a) : u2 I a k v x y = I x y := by simp [u2, h]
theorem u2_k {I : Mem} {a k x y : Nat} {v : Int32} (h : y ≠ k) : u2 I a k v x y = I x y := by simp [u2, h]
theorem u2_row {I : Mem} {a k x : Nat} {v : Int32} (h : x ≠ a) : u2 I a k v x = I x := by funext y; exact u2_a h
theorem u2_upd (I : Mem) (a k : Nat) (v : Int32) : u2 I a k v a = upd (I a) k v := by funext y; simp [u2, upd]
theorem p2_row {F : Nat → Nat → Option Nat} {a k x : Nat} {v : Option Nat} (h : x ≠ a) : p2 F a k v x = F x := by funext y; simp [p2, h]
def nS (S : Shp) (q : Nat × Nat) : Shp := (S.1 + 1, fun i => if i = S.1 then q else S.2.1 i, fun i j => if i = S.1 then none else S.2.2 i j)
def nM (S : Shp) (I : Mem) : Mem := fun i j => if i = S.1 then 0 else I i j
theorem P_getv {G : GX} {own nm : String} {cc : ByteArray} {nL : Nat} {ret : Option FieldType} {d kc ks : Nat} {Q : Option Value → Shp → Mem → Prop} {pc pc' : Nat} {ls : List (Option Value)} {rest : List Value} {S : Shp} {I : Mem} {idx c k a n : Nat} {fin : Bool} {ty : FieldType} {v : Value} (hd : decode cc pc = .ok (.getfield idx, 3)) (hp : pc + 3 = pc') (hf : FLk own idx c k fin ty) (ha : a < S.1) (ht : S.2.1 a = (c, n)) (hv : fldO G c (S.2.2 a) (I a) k = em G v) (kk : PW G own nm cc nL ret d kc ks Q pc' ls (v :: rest) S I) : PW G own nm cc nL ret d kc ks Q pc ls (.ref a :: rest) S I := by
  subst hp
  obtain ⟨C, T, N, ty0, f1, f2, f3, f4, f5, f6, f7, f8, f9, f10, f11⟩ := hf
  intro p e R s m args below meth c_1 H locs cells slots arr hC
  obtain ⟨hx, hb, hr, hml, hown, hlk, hnm, hts, hO, hS, hP, hl, hR⟩ := id hC
  have he : (wsO G S I)[a]? = some (gB G + a, .inr (c, (List.range (nFl c)).map (fldO G c (S.2.2 a) (I a)))) := by rw [wsO_at ha, ht, cellO_obj f4]
  have hk := kk p e R s m args below meth c_1 H locs cells slots arr hC
  show W _ _ _ _ _ _ _ _ _ _ _ _ _ _ _ (F0 m pc arr (.ref (gA G a) :: rest.map (em G)))
  rw [gA_lt ha hP.2.1]
  refine va_get (D := gD G) (ci := c) (v := em G v) (C := C) (T := T) (N := N) (ref := (T k).1) hx hb hts f6 hown hO.1 hP.2.2 a he f1 k f3 (hts _ (lw_in f5 rfl)) (fun _ h => h) ?_ hd hk
  rw [List.getElem?_map, List.getElem?_range (by omega)]
  rw [← hv]
  rfl
theorem P_geti {G : GX} {own nm : String} {cc : ByteArray} {nL : Nat} {ret : Option FieldType} {d kc ks : Nat} {Q : Option Value → Shp → Mem → Prop} {pc pc' : Nat} {ls : List (Option Value)} {rest : List Value} {S : Shp} {I : Mem} {idx c k a n : Nat} {fin : Bool} {ty : FieldType} (hd : decode cc pc = .ok (.getfield idx, 3)) (hp : pc + 3 = pc') (hf : FLk own idx c k fin ty) (hq : rfF c k = false) (ha : a < S.1) (ht : S.2.1 a = (c, n)) (kk : PW G own nm cc nL ret d kc ks Q pc' ls (.int (I a k) :: rest) S I) : PW G own nm cc nL ret d kc ks Q pc ls (.ref a :: rest) S I :=
  P_getv hd hp hf ha ht (by simp [fldO, hq, em]) kk
theorem P_getr {G : GX} {own nm : String} {cc : ByteArray} {nL : Nat} {ret : Option FieldType} {d kc ks : Nat} {Q : Option Value → Shp → Mem → Prop} {pc pc' : Nat} {ls : List (Option Value)} {rest : List Value} {S : Shp} {I : Mem} {idx c k a n b : Nat} {fin : Bool} {ty : FieldType} (hd : decode cc pc = .ok (.getfield idx, 3)) (hp : pc + 3 = pc') (hf : FLk own idx c k fin ty) (hq : rfF c k = true) (ha : a < S.1) (ht : S.2.1 a = (c, n)) (hr : S.2.2 a k = some b) (kk : PW G own nm cc nL ret d kc ks Q pc' ls (.ref b :: rest) S I) : PW G own nm cc nL ret d kc ks Q pc ls (.ref a :: rest) S I :=
  P_getv hd hp hf ha ht (by simp [fldO, hq, em, hr, va_rf]) kk
theorem P_getn {G : GX} {own nm : String} {cc : ByteArray} {nL : Nat} {ret : Option FieldType} {d kc ks : Nat} {Q : Option Value → Shp → Mem → Prop} {pc pc' : Nat} {ls : List (Option Value)} {rest : List Value} {S : Shp} {I : Mem} {idx c k a n : Nat} {fin : Bool} {ty : FieldType} (hd : decode cc pc = .ok (.getfield idx, 3)) (hp : pc + 3 = pc') (hf : FLk own idx c k fin ty) (hq : rfF c k = true) (ha : a < S.1) (ht : S.2.1 a = (c, n)) (hr : S.2.2 a k = none) (kk : PW G own nm cc nL ret d kc ks Q pc' ls (.null :: rest) S I) : PW G own nm cc nL ret d kc ks Q pc ls (.ref a :: rest) S I :=
  P_getv hd hp hf ha ht (by simp [fldO, hq, em, hr, va_rf]) kk
theorem wsO_fld {G : GX} {S S' : Shp} {I I' : Mem} {a c k n : Nat} {w : Value} (hc : c < 9) (ha : a < S.1) (ht : S.2.1 a = (c, n)) (hk : k < nFl c) (h1 : S'.1 = S.1) (h2 : S'.2.1 = S.2.1) (ho : ∀ i, i ≠ a → S'.2.2 i = S.2.2 i ∧ I' i = I i) (hfl : ∀ j, fldO G c (S'.2.2 a) (I' a) j = if j = k then w else fldO G c (S.2.2 a) (I a) j) :
    (wsO G S I).set a (gB G + a, .inr (c, ((List.range (nFl c)).map (fldO G c (S.2.2 a) (I a))).set k w)) = wsO G S' I' := by
  rw [← wsO_set (S := S) (S' := S') (I := I) (I' := I') ha h1 (fun i hi hia => by rw [h2, (ho i hia).1, (ho i hia).2])]
  rw [h2, ht, cellO_obj hc]
  congr 4
  apply List.ext_getElem?
  intro j
  by_cases hj : j < nFl c
  · rw [List.getElem?_map, List.getElem?_range hj]
    by_cases hjk : j = k
    · subst hjk
      rw [List.getElem?_set_self (by simpa using hj)]
      simp [hfl]
    · rw [List.getElem?_set_ne (Ne.symm hjk), List.getElem?_map, List.getElem?_range hj]
      simp [hfl, hjk]
  · rw [List.getElem?_eq_none (by simp; omega), List.getElem?_eq_none (by simp; omega)]
theorem P_putv {G : GX} {own nm : String} {cc : ByteArray} {nL : Nat} {ret : Option FieldType} {d kc ks : Nat} {Q : Option Value → Shp → Mem → Prop} {pc pc' : Nat} {ls : List (Option Value)} {rest : List Value} {S : Shp} {I : Mem} {idx c k a n : Nat} {ty : FieldType} {v : Value} {S' : Shp} {I' : Mem} (hd : decode cc pc = .ok (.putfield idx, 3)) (hp : pc + 3 = pc') (hf : FLk own idx c k false ty)  (ha : a < S.1) (ht : S.2.1 a = (c, n)) (hn : narrow ty (em G v) = em G v) (hfit : fits ty (em G v) = true) (h1 : S'.1 = S.1) (h2 : S'.2.1 = S.2.1) (ho : ∀ i, i ≠ a → S'.2.2 i = S.2.2 i ∧ I' i = I i) (hfl : ∀ j, fldO G c (S'.2.2 a) (I' a) j = if j = k then em G v else fldO G c (S.2.2 a) (I a) j) (kk : PW G own nm cc nL ret d kc ks Q pc' ls rest S' I') : PW G own nm cc nL ret d kc ks Q pc ls (v :: .ref a :: rest) S I := by
  subst hp
  obtain ⟨C, T, N, ty0, f1, f2, f3, f4, f5, f6, f7, f8, f9, f10, f11⟩ := hf
  intro p e R s m args below meth c_1 H locs cells slots arr hC
  obtain ⟨hx, hb, hr, hml, hown, hlk, hnm, hts, hO, hS, hP, hl, hR⟩ := id hC
  have he : (wsO G S I)[a]? = some (gB G + a, .inr (c, (List.range (nFl c)).map (fldO G c (S.2.2 a) (I a)))) := by rw [wsO_at ha, ht, cellO_obj f4]
  show W _ _ _ _ _ _ _ _ _ _ _ _ _ _ _ (F0 m pc arr (em G v :: .ref (gA G a) :: rest.map (em G)))
  rw [gA_lt ha hP.2.1]
  have hap := va_apart (own := own) hts f6 ty0 f9 f10 hO.1 f1
  obtain ⟨r, g1, cell, q1, q2, q3, q4⟩ := hP.2.2 a _ he
  have hr' : r = (C, T, N) := Option.some.inj (g1.symm.trans f1)
  subst hr'
  obtain ⟨hSl, hfc, kC, hkC, hkind⟩ := hO.1.1 c _ f1
  obtain ⟨cf, kf, fi, f, hi, hsl⟩ := hSl k f3
  have hlay := hts _ (f6 _ (u_in_lay f3))
  unfold u_lay at hlay
  have hst := (u_facts hfc hkC (u_lays hts f6 f3) hi).1
  rw [if_neg (by rw [f7]; decide)] at hlay
  have h6 := u_store hfc hkC hkind hlay hi f8 hn hfit
  refine W.putK hx hb (f := f) ⟨hown, hts _ (lw_in f5 rfl), ⟨_, _, _, hi⟩, hst⟩ (by rw [q2]; exact h6) q1 q3 (by rw [hsl]; exact k2_hasslot (q4 k f3)) rfl rfl hd fun H1 e1 e2 e3 => ?_
  rw [hsl] at e1 ⊢
  have hP1 := hP.2.2.set (wsO_D G S I) he (e := .inr (c, ((List.range (nFl c)).map (fldO G c (S.2.2 a) (I a))).set k (em G v))) ⟨_, f1, t_OB.to (V := updV (vp_V ((List.range (nFl c)).map (fldO G c (S.2.2 a) (I a)))) k (em G v)) ⟨_, e1, q2, q3, t_set q4 hap f3 (em G v)⟩ (fun j _ => vp_updV_set (by simp; omega) (em G v) j)⟩ e3
  rw [wsO_fld f4 ha ht (by omega) h1 h2 ho hfl] at hP1
  exact kk p e R s m args below meth c_1 H1 _ cells slots arr ⟨hx, hb, hr, hml, hown, hlk, hnm, hts, hO, hS.put e2 e3 (Nat.le_add_right _ _), ⟨by rw [e2, h1]; exact hP.1, by rw [h1]; exact hP.2.1, hP1⟩, hl, hR⟩
theorem P_putvF {G : GX} {own nm : String} {cc : ByteArray} {nL : Nat} {ret : Option FieldType} {d kc ks : Nat} {Q : Option Value → Shp → Mem → Prop} {pc pc' : Nat} {ls : List (Option Value)} {rest : List Value} {S : Shp} {I : Mem} {idx c k a n : Nat} {ty : FieldType} {v : Value} {S' : Shp} {I' : Mem} (hd : decode cc pc = .ok (.putfield idx, 3)) (hp : pc + 3 = pc') (hf : FLk own idx c k true ty) (hin : nm = "<init>") (hcl : ∀ C T N, vwCl[c]? = some (C, T, N) → C = own) (ha : a < S.1) (ht : S.2.1 a = (c, n)) (hn : narrow ty (em G v) = em G v) (hfit : fits ty (em G v) = true) (h1 : S'.1 = S.1) (h2 : S'.2.1 = S.2.1) (ho : ∀ i, i ≠ a → S'.2.2 i = S.2.2 i ∧ I' i = I i) (hfl : ∀ j, fldO G c (S'.2.2 a) (I' a) j = if j = k then em G v else fldO G c (S.2.2 a) (I a) j) (kk : PW G own nm cc nL ret d kc ks Q pc' ls rest S' I') : PW G own nm cc nL ret d kc ks Q pc ls (v :: .ref a :: rest) S I := by
  subst hp
  obtain ⟨C, T, N, ty0, f1, f2, f3, f4, f5, f6, f7, f8, f9, f10, f11⟩ := hf
  intro p e R s m args below meth c_1 H locs cells slots arr hC
  obtain ⟨hx, hb, hr, hml, hown, hlk, hnm, hts, hO, hS, hP, hl, hR⟩ := id hC
  have he : (wsO G S I)[a]? = some (gB G + a, .inr (c, (List.range (nFl c)).map (fldO G c (S.2.2 a) (I a)))) := by rw [wsO_at ha, ht, cellO_obj f4]
  show W _ _ _ _ _ _ _ _ _ _ _ _ _ _ _ (F0 m pc arr (em G v :: .ref (gA G a) :: rest.map (em G)))
  rw [gA_lt ha hP.2.1]
  have hap := va_apart (own := own) hts f6 ty0 f9 f10 hO.1 f1
  obtain ⟨r, g1, cell, q1, q2, q3, q4⟩ := hP.2.2 a _ he
  have hr' : r = (C, T, N) := Option.some.inj (g1.symm.trans f1)
  subst hr'
  obtain ⟨hSl, hfc, kC, hkC, hkind⟩ := hO.1.1 c _ f1
  obtain ⟨cf, kf, fi, f, hi, hsl⟩ := hSl k f3
  have hlay := hts _ (f6 _ (u_in_lay f3))
  unfold u_lay at hlay
  have hst := (u_facts hfc hkC (u_lays hts f6 f3) hi).1
  rw [if_pos f7] at hlay
  have hcf : m.cls = cf := by
    obtain ⟨_, _, c', _, _, _, -, -, hf', -, -, -, hown2, -⟩ := Cond.laysFinal_spec hlay
    have e1 : c' = cf := by have := hi.symm.trans hf'; simp at this; exact this.1.symm
    rw [f11, hcl C T N f1] at hown2
    rw [← e1]; exact Option.some.inj (hown.symm.trans hown2)
  have h6 := u_fits hfc hkC hkind (Or.inr hlay) hi f8 hn hfit
  refine W.putFinK hx hb hown (hts _ (lw_in f5 rfl)) hi hst hcf (by rw [hnm]; exact hin) (by rw [q2]; exact h6) q1 q3 (by rw [hsl]; exact k2_hasslot (q4 k f3)) rfl rfl hd fun H1 e1 e2 e3 => ?_
  rw [hsl] at e1 ⊢
  have hP1 := hP.2.2.set (wsO_D G S I) he (e := .inr (c, ((List.range (nFl c)).map (fldO G c (S.2.2 a) (I a))).set k (em G v))) ⟨_, f1, t_OB.to (V := updV (vp_V ((List.range (nFl c)).map (fldO G c (S.2.2 a) (I a)))) k (em G v)) ⟨_, e1, q2, q3, t_set q4 hap f3 (em G v)⟩ (fun j _ => vp_updV_set (by simp; omega) (em G v) j)⟩ e3
  rw [wsO_fld f4 ha ht (by omega) h1 h2 ho hfl] at hP1
  exact kk p e R s m args below meth c_1 H1 _ cells slots arr ⟨hx, hb, hr, hml, hown, hlk, hnm, hts, hO, hS.put e2 e3 (Nat.le_add_right _ _), ⟨by rw [e2, h1]; exact hP.1, by rw [h1]; exact hP.2.1, hP1⟩, hl, hR⟩
theorem P_puti {G : GX} {own nm : String} {cc : ByteArray} {nL : Nat} {ret : Option FieldType} {d kc ks : Nat} {Q : Option Value → Shp → Mem → Prop} {pc pc' : Nat} {ls : List (Option Value)} {rest : List Value} {S : Shp} {I : Mem} {idx c k a n : Nat} {v : Int32} (hd : decode cc pc = .ok (.putfield idx, 3)) (hp : pc + 3 = pc') (hf : FLk own idx c k false .int) (hq : rfF c k = false) (ha : a < S.1) (ht : S.2.1 a = (c, n)) (kk : PW G own nm cc nL ret d kc ks Q pc' ls rest S (u2 I a k v)) : PW G own nm cc nL ret d kc ks Q pc ls (.int v :: .ref a :: rest) S I :=
  P_putv (v := .int v) (S' := S) (I' := u2 I a k v) hd hp hf ha ht rfl rfl rfl rfl (fun i hi => ⟨rfl, u2_row hi⟩) (fun j => by
    by_cases h : j = k
    · subst h; simp [fldO, hq, em, u2]
    · simp [fldO, u2, h]) kk
theorem P_putiF {G : GX} {own nm : String} {cc : ByteArray} {nL : Nat} {ret : Option FieldType} {d kc ks : Nat} {Q : Option Value → Shp → Mem → Prop} {pc pc' : Nat} {ls : List (Option Value)} {rest : List Value} {S : Shp} {I : Mem} {idx c k a n : Nat} {v : Int32} (hd : decode cc pc = .ok (.putfield idx, 3)) (hp : pc + 3 = pc') (hf : FLk own idx c k true .int) (hin : nm = "<init>") (hcl : ∀ C T N, vwCl[c]? = some (C, T, N) → C = own) (hq : rfF c k = false) (ha : a < S.1) (ht : S.2.1 a = (c, n)) (kk : PW G own nm cc nL ret d kc ks Q pc' ls rest S (u2 I a k v)) : PW G own nm cc nL ret d kc ks Q pc ls (.int v :: .ref a :: rest) S I :=
  P_putvF (v := .int v) (S' := S) (I' := u2 I a k v) hd hp hf hin hcl ha ht rfl rfl rfl rfl (fun i hi => ⟨rfl, u2_row hi⟩) (fun j => by
    by_cases h : j = k
    · subst h; simp [fldO, hq, em, u2]
    · simp [fldO, u2, h]) kk
theorem P_putz {G : GX} {own nm : String} {cc : ByteArray} {nL : Nat} {ret : Option FieldType} {d kc ks : Nat} {Q : Option Value → Shp → Mem → Prop} {pc pc' : Nat} {ls : List (Option Value)} {rest : List Value} {S : Shp} {I : Mem} {idx c k a n : Nat} {v : Int32} (hd : decode cc pc = .ok (.putfield idx, 3)) (hp : pc + 3 = pc') (hf : FLk own idx c k false .boolean) (hq : rfF c k = false) (ha : a < S.1) (ht : S.2.1 a = (c, n)) (hv : v = 0 ∨ v = 1) (kk : PW G own nm cc nL ret d kc ks Q pc' ls rest S (u2 I a k v)) : PW G own nm cc nL ret d kc ks Q pc ls (.int v :: .ref a :: rest) S I :=
  P_putv (v := .int v) (S' := S) (I' := u2 I a k v) hd hp hf ha ht (by rcases hv with rfl | rfl <;> rfl) (by rcases hv with rfl | rfl <;> rfl) rfl rfl (fun i hi => ⟨rfl, u2_row hi⟩) (fun j => by
    by_cases h : j = k
    · subst h; simp [fldO, hq, em, u2]
    · simp [fldO, u2, h]) kk
theorem P_putr {G : GX} {own nm : String} {cc : ByteArray} {nL : Nat} {ret : Option FieldType} {d kc ks : Nat} {Q : Option Value → Shp → Mem → Prop} {pc pc' : Nat} {ls : List (Option Value)} {rest : List Value} {S : Shp} {I : Mem} {idx c k a n : Nat} {b : Nat} {ty : FieldType} (hd : decode cc pc = .ok (.putfield idx, 3)) (hp : pc + 3 = pc') (hf : FLk own idx c k false ty)  (hty : (∃ n, ty = .object n) ∨ ∃ t, ty = .array t) (hq : rfF c k = true) (ha : a < S.1) (ht : S.2.1 a = (c, n)) (kk : PW G own nm cc nL ret d kc ks Q pc' ls rest (S.1, S.2.1, p2 S.2.2 a k (some b)) I) : PW G own nm cc nL ret d kc ks Q pc ls (.ref b :: .ref a :: rest) S I :=
  P_putv (v := .ref b) (S' := (S.1, S.2.1, p2 S.2.2 a k (some b))) (I' := I) hd hp hf ha ht (by rcases hty with ⟨n, rfl⟩ | ⟨n, rfl⟩ <;> rfl) (by rcases hty with ⟨n, rfl⟩ | ⟨n, rfl⟩ <;> rfl) rfl rfl (fun i hi => ⟨p2_row hi, rfl⟩) (fun j => by
    by_cases h : j = k
    · subst h; simp [fldO, hq, em, p2, va_rf]
    · simp [fldO, p2, h]) kk
theorem P_putrF {G : GX} {own nm : String} {cc : ByteArray} {nL : Nat} {ret : Option FieldType} {d kc ks : Nat} {Q : Option Value → Shp → Mem → Prop} {pc pc' : Nat} {ls : List (Option Value)} {rest : List Value} {S : Shp} {I : Mem} {idx c k a n : Nat} {b : Nat} {ty : FieldType} (hd : decode cc pc = .ok (.putfield idx, 3)) (hp : pc + 3 = pc') (hf : FLk own idx c k true ty) (hin : nm = "<init>") (hcl : ∀ C T N, vwCl[c]? = some (C, T, N) → C = own) (hty : (∃ n, ty = .object n) ∨ ∃ t, ty = .array t) (hq : rfF c k = true) (ha : a < S.1) (ht : S.2.1 a = (c, n)) (kk : PW G own nm cc nL ret d kc ks Q pc' ls rest (S.1, S.2.1, p2 S.2.2 a k (some b)) I) : PW G own nm cc nL ret d kc ks Q pc ls (.ref b :: .ref a :: rest) S I :=
  P_putvF (v := .ref b) (S' := (S.1, S.2.1, p2 S.2.2 a k (some b))) (I' := I) hd hp hf hin hcl ha ht (by rcases hty with ⟨n, rfl⟩ | ⟨n, rfl⟩ <;> rfl) (by rcases hty with ⟨n, rfl⟩ | ⟨n, rfl⟩ <;> rfl) rfl rfl (fun i hi => ⟨p2_row hi, rfl⟩) (fun j => by
    by_cases h : j = k
    · subst h; simp [fldO, hq, em, p2, va_rf]
    · simp [fldO, p2, h]) kk
theorem P_putn {G : GX} {own nm : String} {cc : ByteArray} {nL : Nat} {ret : Option FieldType} {d kc ks : Nat} {Q : Option Value → Shp → Mem → Prop} {pc pc' : Nat} {ls : List (Option Value)} {rest : List Value} {S : Shp} {I : Mem} {idx c k a n : Nat}  {ty : FieldType} (hd : decode cc pc = .ok (.putfield idx, 3)) (hp : pc + 3 = pc') (hf : FLk own idx c k false ty)  (hty : (∃ n, ty = .object n) ∨ ∃ t, ty = .array t) (hq : rfF c k = true) (ha : a < S.1) (ht : S.2.1 a = (c, n)) (kk : PW G own nm cc nL ret d kc ks Q pc' ls rest (S.1, S.2.1, p2 S.2.2 a k (none)) I) : PW G own nm cc nL ret d kc ks Q pc ls (.null :: .ref a :: rest) S I :=
  P_putv (v := .null) (S' := (S.1, S.2.1, p2 S.2.2 a k (none))) (I' := I) hd hp hf ha ht (by rcases hty with ⟨n, rfl⟩ | ⟨n, rfl⟩ <;> rfl) (by rcases hty with ⟨n, rfl⟩ | ⟨n, rfl⟩ <;> rfl) rfl rfl (fun i hi => ⟨p2_row hi, rfl⟩) (fun j => by
    by_cases h : j = k
    · subst h; simp [fldO, hq, em, p2, va_rf]
    · simp [fldO, p2, h]) kk
theorem wsO_arr {G : GX} {S : Shp} {I : Mem} {a c n j : Nat} {v : Int32} (h1 : 9 ≤ c) (h2 : c < 13) (ha : a < S.1) (ht : S.2.1 a = (c, n)) : (wsO G S I).set a (gB G + a, .inl (gCy G c, n, .inl (upd (I a) j v))) = wsO G S (u2 I a j v) := by
  rw [← wsO_set (S := S) (S' := S) (I := I) (I' := u2 I a j v) ha rfl (fun i hi hia => by rw [u2_row hia])]
  rw [ht, cellO_int h1 h2, u2_upd]
theorem wsO_arow {G : GX} {S : Shp} {I : Mem} {a c n : Nat} {f : Nat → Int32} (h1 : 9 ≤ c) (h2 : c < 13) (ha : a < S.1) (ht : S.2.1 a = (c, n)) : (wsO G S I).set a (gB G + a, .inl (gCy G c, n, .inl f)) = wsO G S (fun x => if x = a then f else I x) := by
  rw [← wsO_set (S := S) (S' := S) (I := I) (I' := fun x => if x = a then f else I x) ha rfl (fun i hi hia => by rw [if_neg hia])]
  rw [ht, cellO_int h1 h2, if_pos rfl]
theorem wsO_aref {G : GX} {S : Shp} {I : Mem} {a c n j b : Nat} (h1 : 13 ≤ c) (ha : a < S.1) (ht : S.2.1 a = (c, n)) : (wsO G S I).set a (gB G + a, .inl (gCy G c, n, .inr (.inr (.inr (.inr (va_up (fun j => (S.2.2 a j).map (gA G)) j (some (gA G b)))))))) = wsO G (S.1, S.2.1, p2 S.2.2 a j (some b)) I := by
  rw [← wsO_set (S := S) (S' := (S.1, S.2.1, p2 S.2.2 a j (some b))) (I := I) (I' := I) ha rfl (fun i hi hia => by show cellO G (S.2.1 i) (p2 S.2.2 a j (some b) i) (I i) = _; rw [p2_row hia])]
  show _ = (wsO G S I).set a (gB G + a, cellO G (S.2.1 a) (p2 S.2.2 a j (some b) a) (I a))
  rw [ht, cellO_ref h1]
  congr 9
  funext z
  by_cases h : z = j
  · subst h; simp [va_up, p2]
  · simp [va_up, p2, h]
theorem P_iald {G : GX} {own nm : String} {cc : ByteArray} {nL : Nat} {ret : Option FieldType} {d kc ks : Nat} {Q : Option Value → Shp → Mem → Prop} {pc pc' : Nat} {ls : List (Option Value)} {rest : List Value} {S : Shp} {I : Mem} {a n j : Nat} {i : Int32} (hd : decode cc pc = .ok (.iaload, 1)) (hp : pc + 1 = pc') (ha : a < S.1) (ht : S.2.1 a = (9, n)) (hj : i = nI j) (hlt : j < n) (hn : n < 2 ^ 31) (kk : PW G own nm cc nL ret d kc ks Q pc' ls (.int (I a j) :: rest) S I) : PW G own nm cc nL ret d kc ks Q pc ls (.int i :: .ref a :: rest) S I := by
  subst hp
  subst hj
  intro p e R s m args below meth c H locs cells slots arr hC
  obtain ⟨hx, hb, hr, hml, hown, hlk, hnm, hts, hO, hS, hP, hl, hR⟩ := id hC
  have he : (wsO G S I)[a]? = some (gB G + a, .inl (gCy G 9, n, .inl (I a))) := by rw [wsO_at ha, ht, cellO_int (by decide) (by decide)]
  show W _ _ _ _ _ _ _ _ _ _ _ _ _ _ _ (F0 m pc arr (.int (nI j) :: .ref (gA G a) :: rest.map (em G)))
  rw [gA_lt ha hP.2.1]
  refine va_iald hx hb hO.1 hP.2.2 a 0 he rfl (vp_in_nI hlt hn) hd ?_
  rw [nI_clamp (by omega)]
  exact kk p e R s m args below meth c H locs cells slots arr hC
theorem P_bald {G : GX} {own nm : String} {cc : ByteArray} {nL : Nat} {ret : Option FieldType} {d kc ks : Nat} {Q : Option Value → Shp → Mem → Prop} {pc pc' : Nat} {ls : List (Option Value)} {rest : List Value} {S : Shp} {I : Mem} {a n j : Nat} {i : Int32} (hd : decode cc pc = .ok (.baload, 1)) (hp : pc + 1 = pc') (ha : a < S.1) (ht : S.2.1 a = (10, n)) (hj : i = nI j) (hlt : j < n) (hn : n < 2 ^ 31) (kk : PW G own nm cc nL ret d kc ks Q pc' ls (.int (I a j) :: rest) S I) : PW G own nm cc nL ret d kc ks Q pc ls (.int i :: .ref a :: rest) S I := by
  subst hp
  subst hj
  intro p e R s m args below meth c H locs cells slots arr hC
  obtain ⟨hx, hb, hr, hml, hown, hlk, hnm, hts, hO, hS, hP, hl, hR⟩ := id hC
  have he : (wsO G S I)[a]? = some (gB G + a, .inl (gCy G 10, n, .inl (I a))) := by rw [wsO_at ha, ht, cellO_int (by decide) (by decide)]
  show W _ _ _ _ _ _ _ _ _ _ _ _ _ _ _ (F0 m pc arr (.int (nI j) :: .ref (gA G a) :: rest.map (em G)))
  rw [gA_lt ha hP.2.1]
  refine va_bald hx hb hO.1 hP.2.2 a 1 he rfl (vp_in_nI hlt hn) hd ?_
  rw [nI_clamp (by omega)]
  exact kk p e R s m args below meth c H locs cells slots arr hC
theorem P_zald {G : GX} {own nm : String} {cc : ByteArray} {nL : Nat} {ret : Option FieldType} {d kc ks : Nat} {Q : Option Value → Shp → Mem → Prop} {pc pc' : Nat} {ls : List (Option Value)} {rest : List Value} {S : Shp} {I : Mem} {a n j : Nat} {i : Int32} (hd : decode cc pc = .ok (.baload, 1)) (hp : pc + 1 = pc') (ha : a < S.1) (ht : S.2.1 a = (11, n)) (hj : i = nI j) (hlt : j < n) (hn : n < 2 ^ 31) (kk : PW G own nm cc nL ret d kc ks Q pc' ls (.int (I a j) :: rest) S I) : PW G own nm cc nL ret d kc ks Q pc ls (.int i :: .ref a :: rest) S I := by
  subst hp
  subst hj
  intro p e R s m args below meth c H locs cells slots arr hC
  obtain ⟨hx, hb, hr, hml, hown, hlk, hnm, hts, hO, hS, hP, hl, hR⟩ := id hC
  have he : (wsO G S I)[a]? = some (gB G + a, .inl (gCy G 11, n, .inl (I a))) := by rw [wsO_at ha, ht, cellO_int (by decide) (by decide)]
  show W _ _ _ _ _ _ _ _ _ _ _ _ _ _ _ (F0 m pc arr (.int (nI j) :: .ref (gA G a) :: rest.map (em G)))
  rw [gA_lt ha hP.2.1]
  refine va_zald hx hb hO.1 hP.2.2 a 2 he rfl (vp_in_nI hlt hn) hd ?_
  rw [nI_clamp (by omega)]
  exact kk p e R s m args below meth c H locs cells slots arr hC
theorem P_cald {G : GX} {own nm : String} {cc : ByteArray} {nL : Nat} {ret : Option FieldType} {d kc ks : Nat} {Q : Option Value → Shp → Mem → Prop} {pc pc' : Nat} {ls : List (Option Value)} {rest : List Value} {S : Shp} {I : Mem} {a n j : Nat} {i : Int32} (hd : decode cc pc = .ok (.caload, 1)) (hp : pc + 1 = pc') (ha : a < S.1) (ht : S.2.1 a = (12, n)) (hj : i = nI j) (hlt : j < n) (hn : n < 2 ^ 31) (kk : PW G own nm cc nL ret d kc ks Q pc' ls (.int (I a j) :: rest) S I) : PW G own nm cc nL ret d kc ks Q pc ls (.int i :: .ref a :: rest) S I := by
  subst hp
  subst hj
  intro p e R s m args below meth c H locs cells slots arr hC
  obtain ⟨hx, hb, hr, hml, hown, hlk, hnm, hts, hO, hS, hP, hl, hR⟩ := id hC
  have he : (wsO G S I)[a]? = some (gB G + a, .inl (gCy G 12, n, .inl (I a))) := by rw [wsO_at ha, ht, cellO_int (by decide) (by decide)]
  show W _ _ _ _ _ _ _ _ _ _ _ _ _ _ _ (F0 m pc arr (.int (nI j) :: .ref (gA G a) :: rest.map (em G)))
  rw [gA_lt ha hP.2.1]
  refine va_cald hx hb hO.1 hP.2.2 a 3 he rfl (vp_in_nI hlt hn) hd ?_
  rw [nI_clamp (by omega)]
  exact kk p e R s m args below meth c H locs cells slots arr hC
theorem P_iast {G : GX} {own nm : String} {cc : ByteArray} {nL : Nat} {ret : Option FieldType} {d kc ks : Nat} {Q : Option Value → Shp → Mem → Prop} {pc pc' : Nat} {ls : List (Option Value)} {rest : List Value} {S : Shp} {I : Mem} {a n j : Nat} {i v : Int32} (hd : decode cc pc = .ok (.iastore, 1)) (hp : pc + 1 = pc') (ha : a < S.1) (ht : S.2.1 a = (9, n)) (hj : i = nI j) (hlt : j < n) (hn : n < 2 ^ 31) (kk : PW G own nm cc nL ret d kc ks Q pc' ls rest S (u2 I a j v)) : PW G own nm cc nL ret d kc ks Q pc ls (.int v :: .int i :: .ref a :: rest) S I := by
  subst hp
  subst hj
  intro p e R s m args below meth c H locs cells slots arr hC
  obtain ⟨hx, hb, hr, hml, hown, hlk, hnm, hts, hO, hS, hP, hl, hR⟩ := id hC
  have he : (wsO G S I)[a]? = some (gB G + a, .inl (gCy G 9, n, .inl (I a))) := by rw [wsO_at ha, ht, cellO_int (by decide) (by decide)]
  show W _ _ _ _ _ _ _ _ _ _ _ _ _ _ _ (F0 m pc arr (.int v :: .int (nI j) :: .ref (gA G a) :: rest.map (em G)))
  rw [gA_lt ha hP.2.1]
  refine W.iast hx hb (hP.2.2 a _ he) ((hO.1.2 0 _ rfl).1 n (fun j => .int (I a j))) (fun q => by cases q) (by show ¬ (nI j < 0 ∨ (arrV _ _ _).slots.size ≤ _); rw [arrV_size]; exact vp_in_nI hlt hn) rfl rfl hd fun H1 e1 z oq => ?_
  have hP1 := hP.2.2.set (wsO_D G S I) he (e := .inl (gCy G 9, n, .inl (upd (I a) j v))) (by
    show H1[gB G + a]? = some (vp_cell _ _)
    rw [e1, nI_clamp (by omega), vp_cell_i, vp_cell_i, arrV_store]
    congr 2
    funext q
    by_cases hq : q = j
    · subst hq
      simp [updV, upd, vp_nar]
      try rfl
    · simp [updV, upd, hq]) oq
  rw [wsO_arr (by decide) (by decide) ha ht] at hP1
  exact kk p e R s m args below meth c H1 _ cells slots arr ⟨hx, hb, hr, hml, hown, hlk, hnm, hts, hO, hS.put z oq (Nat.le_add_right _ _), ⟨by rw [z]; exact hP.1, hP.2.1, hP1⟩, hl, hR⟩
theorem P_bast {G : GX} {own nm : String} {cc : ByteArray} {nL : Nat} {ret : Option FieldType} {d kc ks : Nat} {Q : Option Value → Shp → Mem → Prop} {pc pc' : Nat} {ls : List (Option Value)} {rest : List Value} {S : Shp} {I : Mem} {a n j : Nat} {i v : Int32} (hd : decode cc pc = .ok (.bastore, 1)) (hp : pc + 1 = pc') (ha : a < S.1) (ht : S.2.1 a = (10, n)) (hj : i = nI j) (hlt : j < n) (hn : n < 2 ^ 31) (kk : PW G own nm cc nL ret d kc ks Q pc' ls rest S (u2 I a j (vp_nar .byte v))) : PW G own nm cc nL ret d kc ks Q pc ls (.int v :: .int i :: .ref a :: rest) S I := by
  subst hp
  subst hj
  intro p e R s m args below meth c H locs cells slots arr hC
  obtain ⟨hx, hb, hr, hml, hown, hlk, hnm, hts, hO, hS, hP, hl, hR⟩ := id hC
  have he : (wsO G S I)[a]? = some (gB G + a, .inl (gCy G 10, n, .inl (I a))) := by rw [wsO_at ha, ht, cellO_int (by decide) (by decide)]
  show W _ _ _ _ _ _ _ _ _ _ _ _ _ _ _ (F0 m pc arr (.int v :: .int (nI j) :: .ref (gA G a) :: rest.map (em G)))
  rw [gA_lt ha hP.2.1]
  refine W.bast hx hb (hP.2.2 a _ he) ((hO.1.2 1 _ rfl).1 n (fun j => .int (I a j))) (fun q => by cases q) (by show ¬ (nI j < 0 ∨ (arrV _ _ _).slots.size ≤ _); rw [arrV_size]; exact vp_in_nI hlt hn) rfl rfl hd fun H1 e1 z oq => ?_
  have hP1 := hP.2.2.set (wsO_D G S I) he (e := .inl (gCy G 10, n, .inl (upd (I a) j (vp_nar .byte v)))) (by
    show H1[gB G + a]? = some (vp_cell _ _)
    rw [e1, nI_clamp (by omega), vp_cell_i, vp_cell_i, arrV_store]
    congr 2
    funext q
    by_cases hq : q = j
    · subst hq
      simp [updV, upd, vp_nar]
      try rfl
    · simp [updV, upd, hq]) oq
  rw [wsO_arr (by decide) (by decide) ha ht] at hP1
  exact kk p e R s m args below meth c H1 _ cells slots arr ⟨hx, hb, hr, hml, hown, hlk, hnm, hts, hO, hS.put z oq (Nat.le_add_right _ _), ⟨by rw [z]; exact hP.1, hP.2.1, hP1⟩, hl, hR⟩
theorem P_zast {G : GX} {own nm : String} {cc : ByteArray} {nL : Nat} {ret : Option FieldType} {d kc ks : Nat} {Q : Option Value → Shp → Mem → Prop} {pc pc' : Nat} {ls : List (Option Value)} {rest : List Value} {S : Shp} {I : Mem} {a n j : Nat} {i v : Int32} (hd : decode cc pc = .ok (.bastore, 1)) (hp : pc + 1 = pc') (ha : a < S.1) (ht : S.2.1 a = (11, n)) (hj : i = nI j) (hlt : j < n) (hn : n < 2 ^ 31) (kk : PW G own nm cc nL ret d kc ks Q pc' ls rest S (u2 I a j (vp_nar .boolean v))) : PW G own nm cc nL ret d kc ks Q pc ls (.int v :: .int i :: .ref a :: rest) S I := by
  subst hp
  subst hj
  intro p e R s m args below meth c H locs cells slots arr hC
  obtain ⟨hx, hb, hr, hml, hown, hlk, hnm, hts, hO, hS, hP, hl, hR⟩ := id hC
  have he : (wsO G S I)[a]? = some (gB G + a, .inl (gCy G 11, n, .inl (I a))) := by rw [wsO_at ha, ht, cellO_int (by decide) (by decide)]
  show W _ _ _ _ _ _ _ _ _ _ _ _ _ _ _ (F0 m pc arr (.int v :: .int (nI j) :: .ref (gA G a) :: rest.map (em G)))
  rw [gA_lt ha hP.2.1]
  refine W.zast hx hb (hP.2.2 a _ he) ((hO.1.2 2 _ rfl).1 n (fun j => .int (I a j))) (fun q => by cases q) (by show ¬ (nI j < 0 ∨ (arrV _ _ _).slots.size ≤ _); rw [arrV_size]; exact vp_in_nI hlt hn) rfl rfl hd fun H1 e1 z oq => ?_
  have hP1 := hP.2.2.set (wsO_D G S I) he (e := .inl (gCy G 11, n, .inl (upd (I a) j (vp_nar .boolean v)))) (by
    show H1[gB G + a]? = some (vp_cell _ _)
    rw [e1, nI_clamp (by omega), vp_cell_i, vp_cell_i, arrV_store]
    congr 2
    funext q
    by_cases hq : q = j
    · subst hq
      simp [updV, upd, vp_nar]
      try rfl
    · simp [updV, upd, hq]) oq
  rw [wsO_arr (by decide) (by decide) ha ht] at hP1
  exact kk p e R s m args below meth c H1 _ cells slots arr ⟨hx, hb, hr, hml, hown, hlk, hnm, hts, hO, hS.put z oq (Nat.le_add_right _ _), ⟨by rw [z]; exact hP.1, hP.2.1, hP1⟩, hl, hR⟩
theorem P_cast {G : GX} {own nm : String} {cc : ByteArray} {nL : Nat} {ret : Option FieldType} {d kc ks : Nat} {Q : Option Value → Shp → Mem → Prop} {pc pc' : Nat} {ls : List (Option Value)} {rest : List Value} {S : Shp} {I : Mem} {a n j : Nat} {i v : Int32} (hd : decode cc pc = .ok (.castore, 1)) (hp : pc + 1 = pc') (ha : a < S.1) (ht : S.2.1 a = (12, n)) (hj : i = nI j) (hlt : j < n) (hn : n < 2 ^ 31) (kk : PW G own nm cc nL ret d kc ks Q pc' ls rest S (u2 I a j (vp_nar .char v))) : PW G own nm cc nL ret d kc ks Q pc ls (.int v :: .int i :: .ref a :: rest) S I := by
  subst hp
  subst hj
  intro p e R s m args below meth c H locs cells slots arr hC
  obtain ⟨hx, hb, hr, hml, hown, hlk, hnm, hts, hO, hS, hP, hl, hR⟩ := id hC
  have he : (wsO G S I)[a]? = some (gB G + a, .inl (gCy G 12, n, .inl (I a))) := by rw [wsO_at ha, ht, cellO_int (by decide) (by decide)]
  show W _ _ _ _ _ _ _ _ _ _ _ _ _ _ _ (F0 m pc arr (.int v :: .int (nI j) :: .ref (gA G a) :: rest.map (em G)))
  rw [gA_lt ha hP.2.1]
  refine W.cast hx hb (hP.2.2 a _ he) ((hO.1.2 3 _ rfl).1 n (fun j => .int (I a j))) (fun q => by cases q) (by show ¬ (nI j < 0 ∨ (arrV _ _ _).slots.size ≤ _); rw [arrV_size]; exact vp_in_nI hlt hn) rfl rfl hd fun H1 e1 z oq => ?_
  have hP1 := hP.2.2.set (wsO_D G S I) he (e := .inl (gCy G 12, n, .inl (upd (I a) j (vp_nar .char v)))) (by
    show H1[gB G + a]? = some (vp_cell _ _)
    rw [e1, nI_clamp (by omega), vp_cell_i, vp_cell_i, arrV_store]
    congr 2
    funext q
    by_cases hq : q = j
    · subst hq
      simp [updV, upd, vp_nar]
      try rfl
    · simp [updV, upd, hq]) oq
  rw [wsO_arr (by decide) (by decide) ha ht] at hP1
  exact kk p e R s m args below meth c H1 _ cells slots arr ⟨hx, hb, hr, hml, hown, hlk, hnm, hts, hO, hS.put z oq (Nat.le_add_right _ _), ⟨by rw [z]; exact hP.1, hP.2.1, hP1⟩, hl, hR⟩
theorem P_alen {G : GX} {own nm : String} {cc : ByteArray} {nL : Nat} {ret : Option FieldType} {d kc ks : Nat} {Q : Option Value → Shp → Mem → Prop} {pc pc' : Nat} {ls : List (Option Value)} {rest : List Value} {S : Shp} {I : Mem} {a c n : Nat} (hd : decode cc pc = .ok (.arraylength, 1)) (hp : pc + 1 = pc') (ha : a < S.1) (ht : S.2.1 a = (c, n)) (h9 : 9 ≤ c) (h13 : c < 16) (kk : PW G own nm cc nL ret d kc ks Q pc' ls (.int (nI n) :: rest) S I) : PW G own nm cc nL ret d kc ks Q pc ls (.ref a :: rest) S I := by
  subst hp
  intro p e R s m args below meth c_1 H locs cells slots arr hC
  obtain ⟨hx, hb, hr, hml, hown, hlk, hnm, hts, hO, hS, hP, hl, hR⟩ := id hC
  have hk := kk p e R s m args below meth c_1 H locs cells slots arr hC
  show W _ _ _ _ _ _ _ _ _ _ _ _ _ _ _ (F0 m pc arr (.ref (gA G a) :: rest.map (em G)))
  rw [gA_lt ha hP.2.1]
  by_cases h : c < 13
  · have he : (wsO G S I)[a]? = some (gB G + a, .inl (gCy G c, n, .inl (I a))) := by rw [wsO_at ha, ht, cellO_int h9 h]
    have : c = 9 ∨ c = 10 ∨ c = 11 ∨ c = 12 := by omega
    rcases this with rfl | rfl | rfl | rfl
    · exact va_alen hx hb hO.1 hP.2.2 a 0 he rfl rfl hd hk
    · exact va_alen hx hb hO.1 hP.2.2 a 1 he rfl rfl hd hk
    · exact va_alen hx hb hO.1 hP.2.2 a 2 he rfl rfl hd hk
    · exact va_alen hx hb hO.1 hP.2.2 a 3 he rfl rfl hd hk
  · have he : (wsO G S I)[a]? = some (gB G + a, .inl (gCy G c, n, .inr (.inr (.inr (.inr (fun j => (S.2.2 a j).map (gA G))))))) := by rw [wsO_at ha, ht, cellO_ref (by omega)]
    have : c = 13 ∨ c = 14 ∨ c = 15 := by omega
    rcases this with rfl | rfl | rfl
    · exact va_alen hx hb hO.1 hP.2.2 a 4 he rfl rfl hd hk
    · exact va_alen hx hb hO.1 hP.2.2 a 5 he rfl rfl hd hk
    · exact va_alen hx hb hO.1 hP.2.2 a 6 he rfl rfl hd hk
theorem P_aald13 {G : GX} {own nm : String} {cc : ByteArray} {nL : Nat} {ret : Option FieldType} {d kc ks : Nat} {Q : Option Value → Shp → Mem → Prop} {pc pc' : Nat} {ls : List (Option Value)} {rest : List Value} {S : Shp} {I : Mem} {a n j : Nat} {i : Int32} {x : Option Nat} (hd : decode cc pc = .ok (.aaload, 1)) (hp : pc + 1 = pc') (ha : a < S.1) (ht : S.2.1 a = (13, n)) (hj : i = nI j) (hlt : j < n) (hn : n < 2 ^ 31) (hv : S.2.2 a j = x) (kk : PW G own nm cc nL ret d kc ks Q pc' ls (va_rf x :: rest) S I) : PW G own nm cc nL ret d kc ks Q pc ls (.int i :: .ref a :: rest) S I := by
  subst hp
  subst hj
  subst hv
  intro p e R s m args below meth c H locs cells slots arr hC
  obtain ⟨hx, hb, hr, hml, hown, hlk, hnm, hts, hO, hS, hP, hl, hR⟩ := id hC
  have he : (wsO G S I)[a]? = some (gB G + a, .inl (gCy G 13, n, .inr (.inr (.inr (.inr (fun j => (S.2.2 a j).map (gA G))))))) := by rw [wsO_at ha, ht, cellO_ref (by decide)]
  have hk := kk p e R s m args below meth c H locs cells slots arr hC
  show W _ _ _ _ _ _ _ _ _ _ _ _ _ _ _ (F0 m pc arr (.int (nI j) :: .ref (gA G a) :: rest.map (em G)))
  rw [gA_lt ha hP.2.1]
  refine va_aldq hx hb hO.1 hP.2.2 a 4 he rfl (vp_in_nI hlt hn) hd ?_
  rw [nI_clamp (by omega)]
  have e1 : em G (va_rf (S.2.2 a j)) = va_rf ((S.2.2 a j).map (gA G)) := by cases S.2.2 a j <;> rfl
  rw [← e1]
  exact hk
theorem P_aast13 {G : GX} {own nm : String} {cc : ByteArray} {nL : Nat} {ret : Option FieldType} {d kc ks : Nat} {Q : Option Value → Shp → Mem → Prop} {pc pc' : Nat} {ls : List (Option Value)} {rest : List Value} {S : Shp} {I : Mem} {a n j b n2 : Nat} {i : Int32} (hd : decode cc pc = .ok (.aastore, 1)) (hp : pc + 1 = pc') (ha : a < S.1) (ht : S.2.1 a = (13, n)) (hj : i = nI j) (hlt : j < n) (hn : n < 2 ^ 31) (hb2 : b < S.1) (htb : S.2.1 b = (2, n2)) (kk : PW G own nm cc nL ret d kc ks Q pc' ls rest (S.1, S.2.1, p2 S.2.2 a j (some b)) I) : PW G own nm cc nL ret d kc ks Q pc ls (.ref b :: .int i :: .ref a :: rest) S I := by
  subst hp
  subst hj
  intro p e R s m args below meth c H locs cells slots arr hC
  obtain ⟨hx, hb, hr, hml, hown, hlk, hnm, hts, hO, hS, hP, hl, hR⟩ := id hC
  have he : (wsO G S I)[a]? = some (gB G + a, .inl (gCy G 13, n, .inr (.inr (.inr (.inr (fun j => (S.2.2 a j).map (gA G))))))) := by rw [wsO_at ha, ht, cellO_ref (by decide)]
  have heb : (wsO G S I)[b]? = some (gB G + b, .inr (2, (List.range (nFl 2)).map (fldO G 2 (S.2.2 b) (I b)))) := by rw [wsO_at hb2, htb, cellO_obj (by decide)]
  show W _ _ _ _ _ _ _ _ _ _ _ _ _ _ _ (F0 m pc arr (.ref (gA G b) :: .int (nI j) :: .ref (gA G a) :: rest.map (em G)))
  rw [gA_lt ha hP.2.1, gA_lt hb2 hP.2.1]
  obtain ⟨r', hr', cellV, g1, g2, g3, -⟩ := hP.2.2 b _ heb
  have hcls := (hO.1.1 2 _ rfl).2
  obtain ⟨kA, comp, k1, k2, k3, -⟩ := (hO.1.2 4 _ rfl).2
  have hcomp : comp = (gD G).1 2 := Option.some.inj (k3.symm.trans hcls.1)
  subst hcomp
  obtain ⟨kC, hkC, -⟩ := id hcls.2
  refine W.aast hx hb (hP.2.2 a _ he) (fun q h => by cases h) (fun h => by cases h) k1 k2 rfl hkC ⟨nI_pos (by omega), by show _ < (arrV _ _ _).slots.size; rw [arrV_size, nI_clamp (by omega)]; exact hlt⟩ g1 (fun q h => by rw [g3] at h; cases h) (by rw [g2]; exact hkC) (by rw [g2]; exact va_assign hcls) rfl rfl hd fun H1 e1 z oq => ?_
  have hP1 := hP.2.2.set (wsO_D G S I) he (e := .inl (gCy G 13, n, .inr (.inr (.inr (.inr (va_up (fun j => (S.2.2 a j).map (gA G)) j (some (gA G b)))))))) (by
    show H1[gB G + a]? = some (vp_cell _ _)
    rw [e1, nI_clamp (by omega), vp_cell_q, vp_cell_q, arrV_store]
    congr 2
    funext q
    by_cases hq : q = j
    · subst hq
      simp [updV, va_up, va_rf, gA_lt hb2 hP.2.1]
    · simp [updV, va_up, hq]) oq
  rw [wsO_aref (by decide) ha ht] at hP1
  exact kk p e R s m args below meth c H1 _ cells slots arr ⟨hx, hb, hr, hml, hown, hlk, hnm, hts, hO, hS.put z oq (Nat.le_add_right _ _), ⟨by rw [z]; exact hP.1, hP.2.1, hP1⟩, hl, hR⟩
theorem P_aald14 {G : GX} {own nm : String} {cc : ByteArray} {nL : Nat} {ret : Option FieldType} {d kc ks : Nat} {Q : Option Value → Shp → Mem → Prop} {pc pc' : Nat} {ls : List (Option Value)} {rest : List Value} {S : Shp} {I : Mem} {a n j : Nat} {i : Int32} {x : Option Nat} (hd : decode cc pc = .ok (.aaload, 1)) (hp : pc + 1 = pc') (ha : a < S.1) (ht : S.2.1 a = (14, n)) (hj : i = nI j) (hlt : j < n) (hn : n < 2 ^ 31) (hv : S.2.2 a j = x) (kk : PW G own nm cc nL ret d kc ks Q pc' ls (va_rf x :: rest) S I) : PW G own nm cc nL ret d kc ks Q pc ls (.int i :: .ref a :: rest) S I := by
  subst hp
  subst hj
  subst hv
  intro p e R s m args below meth c H locs cells slots arr hC
  obtain ⟨hx, hb, hr, hml, hown, hlk, hnm, hts, hO, hS, hP, hl, hR⟩ := id hC
  have he : (wsO G S I)[a]? = some (gB G + a, .inl (gCy G 14, n, .inr (.inr (.inr (.inr (fun j => (S.2.2 a j).map (gA G))))))) := by rw [wsO_at ha, ht, cellO_ref (by decide)]
  have hk := kk p e R s m args below meth c H locs cells slots arr hC
  show W _ _ _ _ _ _ _ _ _ _ _ _ _ _ _ (F0 m pc arr (.int (nI j) :: .ref (gA G a) :: rest.map (em G)))
  rw [gA_lt ha hP.2.1]
  refine va_aldq hx hb hO.1 hP.2.2 a 5 he rfl (vp_in_nI hlt hn) hd ?_
  rw [nI_clamp (by omega)]
  have e1 : em G (va_rf (S.2.2 a j)) = va_rf ((S.2.2 a j).map (gA G)) := by cases S.2.2 a j <;> rfl
  rw [← e1]
  exact hk
theorem P_aast14 {G : GX} {own nm : String} {cc : ByteArray} {nL : Nat} {ret : Option FieldType} {d kc ks : Nat} {Q : Option Value → Shp → Mem → Prop} {pc pc' : Nat} {ls : List (Option Value)} {rest : List Value} {S : Shp} {I : Mem} {a n j b n2 : Nat} {i : Int32} (hd : decode cc pc = .ok (.aastore, 1)) (hp : pc + 1 = pc') (ha : a < S.1) (ht : S.2.1 a = (14, n)) (hj : i = nI j) (hlt : j < n) (hn : n < 2 ^ 31) (hb2 : b < S.1) (htb : S.2.1 b = (3, n2)) (kk : PW G own nm cc nL ret d kc ks Q pc' ls rest (S.1, S.2.1, p2 S.2.2 a j (some b)) I) : PW G own nm cc nL ret d kc ks Q pc ls (.ref b :: .int i :: .ref a :: rest) S I := by
  subst hp
  subst hj
  intro p e R s m args below meth c H locs cells slots arr hC
  obtain ⟨hx, hb, hr, hml, hown, hlk, hnm, hts, hO, hS, hP, hl, hR⟩ := id hC
  have he : (wsO G S I)[a]? = some (gB G + a, .inl (gCy G 14, n, .inr (.inr (.inr (.inr (fun j => (S.2.2 a j).map (gA G))))))) := by rw [wsO_at ha, ht, cellO_ref (by decide)]
  have heb : (wsO G S I)[b]? = some (gB G + b, .inr (3, (List.range (nFl 3)).map (fldO G 3 (S.2.2 b) (I b)))) := by rw [wsO_at hb2, htb, cellO_obj (by decide)]
  show W _ _ _ _ _ _ _ _ _ _ _ _ _ _ _ (F0 m pc arr (.ref (gA G b) :: .int (nI j) :: .ref (gA G a) :: rest.map (em G)))
  rw [gA_lt ha hP.2.1, gA_lt hb2 hP.2.1]
  obtain ⟨r', hr', cellV, g1, g2, g3, -⟩ := hP.2.2 b _ heb
  have hcls := (hO.1.1 3 _ rfl).2
  obtain ⟨kA, comp, k1, k2, k3, -⟩ := (hO.1.2 5 _ rfl).2
  have hcomp : comp = (gD G).1 3 := Option.some.inj (k3.symm.trans hcls.1)
  subst hcomp
  obtain ⟨kC, hkC, -⟩ := id hcls.2
  refine W.aast hx hb (hP.2.2 a _ he) (fun q h => by cases h) (fun h => by cases h) k1 k2 rfl hkC ⟨nI_pos (by omega), by show _ < (arrV _ _ _).slots.size; rw [arrV_size, nI_clamp (by omega)]; exact hlt⟩ g1 (fun q h => by rw [g3] at h; cases h) (by rw [g2]; exact hkC) (by rw [g2]; exact va_assign hcls) rfl rfl hd fun H1 e1 z oq => ?_
  have hP1 := hP.2.2.set (wsO_D G S I) he (e := .inl (gCy G 14, n, .inr (.inr (.inr (.inr (va_up (fun j => (S.2.2 a j).map (gA G)) j (some (gA G b)))))))) (by
    show H1[gB G + a]? = some (vp_cell _ _)
    rw [e1, nI_clamp (by omega), vp_cell_q, vp_cell_q, arrV_store]
    congr 2
    funext q
    by_cases hq : q = j
    · subst hq
      simp [updV, va_up, va_rf, gA_lt hb2 hP.2.1]
    · simp [updV, va_up, hq]) oq
  rw [wsO_aref (by decide) ha ht] at hP1
  exact kk p e R s m args below meth c H1 _ cells slots arr ⟨hx, hb, hr, hml, hown, hlk, hnm, hts, hO, hS.put z oq (Nat.le_add_right _ _), ⟨by rw [z]; exact hP.1, hP.2.1, hP1⟩, hl, hR⟩
theorem P_aald15 {G : GX} {own nm : String} {cc : ByteArray} {nL : Nat} {ret : Option FieldType} {d kc ks : Nat} {Q : Option Value → Shp → Mem → Prop} {pc pc' : Nat} {ls : List (Option Value)} {rest : List Value} {S : Shp} {I : Mem} {a n j : Nat} {i : Int32} {x : Option Nat} (hd : decode cc pc = .ok (.aaload, 1)) (hp : pc + 1 = pc') (ha : a < S.1) (ht : S.2.1 a = (15, n)) (hj : i = nI j) (hlt : j < n) (hn : n < 2 ^ 31) (hv : S.2.2 a j = x) (kk : PW G own nm cc nL ret d kc ks Q pc' ls (va_rf x :: rest) S I) : PW G own nm cc nL ret d kc ks Q pc ls (.int i :: .ref a :: rest) S I := by
  subst hp
  subst hj
  subst hv
  intro p e R s m args below meth c H locs cells slots arr hC
  obtain ⟨hx, hb, hr, hml, hown, hlk, hnm, hts, hO, hS, hP, hl, hR⟩ := id hC
  have he : (wsO G S I)[a]? = some (gB G + a, .inl (gCy G 15, n, .inr (.inr (.inr (.inr (fun j => (S.2.2 a j).map (gA G))))))) := by rw [wsO_at ha, ht, cellO_ref (by decide)]
  have hk := kk p e R s m args below meth c H locs cells slots arr hC
  show W _ _ _ _ _ _ _ _ _ _ _ _ _ _ _ (F0 m pc arr (.int (nI j) :: .ref (gA G a) :: rest.map (em G)))
  rw [gA_lt ha hP.2.1]
  refine va_aldq hx hb hO.1 hP.2.2 a 6 he rfl (vp_in_nI hlt hn) hd ?_
  rw [nI_clamp (by omega)]
  have e1 : em G (va_rf (S.2.2 a j)) = va_rf ((S.2.2 a j).map (gA G)) := by cases S.2.2 a j <;> rfl
  rw [← e1]
  exact hk
theorem P_aast15 {G : GX} {own nm : String} {cc : ByteArray} {nL : Nat} {ret : Option FieldType} {d kc ks : Nat} {Q : Option Value → Shp → Mem → Prop} {pc pc' : Nat} {ls : List (Option Value)} {rest : List Value} {S : Shp} {I : Mem} {a n j b n2 : Nat} {i : Int32} (hd : decode cc pc = .ok (.aastore, 1)) (hp : pc + 1 = pc') (ha : a < S.1) (ht : S.2.1 a = (15, n)) (hj : i = nI j) (hlt : j < n) (hn : n < 2 ^ 31) (hb2 : b < S.1) (htb : S.2.1 b = (6, n2)) (kk : PW G own nm cc nL ret d kc ks Q pc' ls rest (S.1, S.2.1, p2 S.2.2 a j (some b)) I) : PW G own nm cc nL ret d kc ks Q pc ls (.ref b :: .int i :: .ref a :: rest) S I := by
  subst hp
  subst hj
  intro p e R s m args below meth c H locs cells slots arr hC
  obtain ⟨hx, hb, hr, hml, hown, hlk, hnm, hts, hO, hS, hP, hl, hR⟩ := id hC
  have he : (wsO G S I)[a]? = some (gB G + a, .inl (gCy G 15, n, .inr (.inr (.inr (.inr (fun j => (S.2.2 a j).map (gA G))))))) := by rw [wsO_at ha, ht, cellO_ref (by decide)]
  have heb : (wsO G S I)[b]? = some (gB G + b, .inr (6, (List.range (nFl 6)).map (fldO G 6 (S.2.2 b) (I b)))) := by rw [wsO_at hb2, htb, cellO_obj (by decide)]
  show W _ _ _ _ _ _ _ _ _ _ _ _ _ _ _ (F0 m pc arr (.ref (gA G b) :: .int (nI j) :: .ref (gA G a) :: rest.map (em G)))
  rw [gA_lt ha hP.2.1, gA_lt hb2 hP.2.1]
  obtain ⟨r', hr', cellV, g1, g2, g3, -⟩ := hP.2.2 b _ heb
  have hcls := (hO.1.1 6 _ rfl).2
  obtain ⟨kA, comp, k1, k2, k3, -⟩ := (hO.1.2 6 _ rfl).2
  have hcomp : comp = (gD G).1 6 := Option.some.inj (k3.symm.trans hcls.1)
  subst hcomp
  obtain ⟨kC, hkC, -⟩ := id hcls.2
  refine W.aast hx hb (hP.2.2 a _ he) (fun q h => by cases h) (fun h => by cases h) k1 k2 rfl hkC ⟨nI_pos (by omega), by show _ < (arrV _ _ _).slots.size; rw [arrV_size, nI_clamp (by omega)]; exact hlt⟩ g1 (fun q h => by rw [g3] at h; cases h) (by rw [g2]; exact hkC) (by rw [g2]; exact va_assign hcls) rfl rfl hd fun H1 e1 z oq => ?_
  have hP1 := hP.2.2.set (wsO_D G S I) he (e := .inl (gCy G 15, n, .inr (.inr (.inr (.inr (va_up (fun j => (S.2.2 a j).map (gA G)) j (some (gA G b)))))))) (by
    show H1[gB G + a]? = some (vp_cell _ _)
    rw [e1, nI_clamp (by omega), vp_cell_q, vp_cell_q, arrV_store]
    congr 2
    funext q
    by_cases hq : q = j
    · subst hq
      simp [updV, va_up, va_rf, gA_lt hb2 hP.2.1]
    · simp [updV, va_up, hq]) oq
  rw [wsO_aref (by decide) ha ht] at hP1
  exact kk p e R s m args below meth c H1 _ cells slots arr ⟨hx, hb, hr, hml, hown, hlk, hnm, hts, hO, hS.put z oq (Nat.le_add_right _ _), ⟨by rw [z]; exact hP.1, hP.2.1, hP1⟩, hl, hR⟩
end
