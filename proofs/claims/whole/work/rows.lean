section
-- ===== PART A: goes FIRST, ahead of the names: the tables' words, and 'selects' of the private methods out of them =====
/-- a private method of a class that the tables say can be made, by its rows of tables_1 -/
def lw_okq (q : MethodName × Nat) : Prop := (q.1.cls ≠ "java/lang/invoke/MethodHandle" ∧ q.1.cls ≠ "java/lang/invoke/VarHandle") ∧ Cond.instantiable q.1.cls q.2 ∈ tables_1 ∧ Cond.privateMethod q.1 ∈ tables_1 ∧ Cond.instanceMethod q.1 ∈ tables_1
theorem lw_p0 : lw_okq (⟨"RopeBorder", "refuse", "(I)I"⟩, 8) := ⟨⟨by decide +kernel, by decide +kernel⟩, List.mem_of_getElem? (i := 20) (by decide +kernel), List.mem_of_getElem? (i := 330) (by decide +kernel), List.mem_of_getElem? (i := 331) (by decide +kernel)⟩
theorem lw_p1 : lw_okq (⟨"RopeBorder", "isTurner", "(I)Z"⟩, 8) := ⟨⟨by decide +kernel, by decide +kernel⟩, List.mem_of_getElem? (i := 20) (by decide +kernel), List.mem_of_getElem? (i := 358) (by decide +kernel), List.mem_of_getElem? (i := 359) (by decide +kernel)⟩
theorem lw_p2 : lw_okq (⟨"RopeBorder", "isPlace", "(I)Z"⟩, 8) := ⟨⟨by decide +kernel, by decide +kernel⟩, List.mem_of_getElem? (i := 20) (by decide +kernel), List.mem_of_getElem? (i := 376) (by decide +kernel), List.mem_of_getElem? (i := 377) (by decide +kernel)⟩
theorem lw_p3 : lw_okq (⟨"RopeBorder", "isCrosser", "(I)Z"⟩, 8) := ⟨⟨by decide +kernel, by decide +kernel⟩, List.mem_of_getElem? (i := 20) (by decide +kernel), List.mem_of_getElem? (i := 392) (by decide +kernel), List.mem_of_getElem? (i := 393) (by decide +kernel)⟩
theorem lw_p4 : lw_okq (⟨"RopeBorder", "canBecome", "(II)Z"⟩, 8) := ⟨⟨by decide +kernel, by decide +kernel⟩, List.mem_of_getElem? (i := 20) (by decide +kernel), List.mem_of_getElem? (i := 427) (by decide +kernel), List.mem_of_getElem? (i := 428) (by decide +kernel)⟩
theorem lw_p5 : lw_okq (⟨"RopeBorder$Reader", "readLevel", "(II)Z"⟩, 6) := ⟨⟨by decide +kernel, by decide +kernel⟩, List.mem_of_getElem? (i := 224) (by decide +kernel), List.mem_of_getElem? (i := 475) (by decide +kernel), List.mem_of_getElem? (i := 476) (by decide +kernel)⟩
theorem lw_p6 : lw_okq (⟨"RopeBorder$Reader", "readUnit", "(I)Z"⟩, 6) := ⟨⟨by decide +kernel, by decide +kernel⟩, List.mem_of_getElem? (i := 224) (by decide +kernel), List.mem_of_getElem? (i := 479) (by decide +kernel), List.mem_of_getElem? (i := 480) (by decide +kernel)⟩
theorem lw_p7 : lw_okq (⟨"RopeBorder$Reader", "ahead", "()I"⟩, 6) := ⟨⟨by decide +kernel, by decide +kernel⟩, List.mem_of_getElem? (i := 224) (by decide +kernel), List.mem_of_getElem? (i := 483) (by decide +kernel), List.mem_of_getElem? (i := 484) (by decide +kernel)⟩
theorem lw_p8 : lw_okq (⟨"RopeBorder$Reader", "readNumber", "()V"⟩, 6) := ⟨⟨by decide +kernel, by decide +kernel⟩, List.mem_of_getElem? (i := 224) (by decide +kernel), List.mem_of_getElem? (i := 490) (by decide +kernel), List.mem_of_getElem? (i := 491) (by decide +kernel)⟩
theorem lw_p9 : lw_okq (⟨"RopeBorder$Reader", "write", "(I)V"⟩, 6) := ⟨⟨by decide +kernel, by decide +kernel⟩, List.mem_of_getElem? (i := 224) (by decide +kernel), List.mem_of_getElem? (i := 494) (by decide +kernel), List.mem_of_getElem? (i := 495) (by decide +kernel)⟩
theorem lw_p10 : lw_okq (⟨"RopeBorder$Reader", "readOpened", "(II)Z"⟩, 6) := ⟨⟨by decide +kernel, by decide +kernel⟩, List.mem_of_getElem? (i := 224) (by decide +kernel), List.mem_of_getElem? (i := 498) (by decide +kernel), List.mem_of_getElem? (i := 499) (by decide +kernel)⟩
theorem lw_p11 : lw_okq (⟨"RopeBorder$Border", "letAllOver", "()V"⟩, 13) := ⟨⟨by decide +kernel, by decide +kernel⟩, List.mem_of_getElem? (i := 73) (by decide +kernel), List.mem_of_getElem? (i := 618) (by decide +kernel), List.mem_of_getElem? (i := 619) (by decide +kernel)⟩
theorem lw_p12 : lw_okq (⟨"RopeBorder$Border", "tireTurners", "()V"⟩, 13) := ⟨⟨by decide +kernel, by decide +kernel⟩, List.mem_of_getElem? (i := 73) (by decide +kernel), List.mem_of_getElem? (i := 623) (by decide +kernel), List.mem_of_getElem? (i := 624) (by decide +kernel)⟩
theorem lw_p13 : lw_okq (⟨"RopeBorder$Border", "meetRope", "(LRopeBorder$Crosser;ZZ)V"⟩, 13) := ⟨⟨by decide +kernel, by decide +kernel⟩, List.mem_of_getElem? (i := 73) (by decide +kernel), List.mem_of_getElem? (i := 633) (by decide +kernel), List.mem_of_getElem? (i := 634) (by decide +kernel)⟩
theorem lw_p14 : lw_okq (⟨"RopeBorder$Border", "jumpOrTrip", "(LRopeBorder$Crosser;)V"⟩, 13) := ⟨⟨by decide +kernel, by decide +kernel⟩, List.mem_of_getElem? (i := 73) (by decide +kernel), List.mem_of_getElem? (i := 637) (by decide +kernel), List.mem_of_getElem? (i := 638) (by decide +kernel)⟩
theorem lw_p15 : lw_okq (⟨"RopeBorder$Border", "isFree", "(I)Z"⟩, 13) := ⟨⟨by decide +kernel, by decide +kernel⟩, List.mem_of_getElem? (i := 73) (by decide +kernel), List.mem_of_getElem? (i := 642) (by decide +kernel), List.mem_of_getElem? (i := 643) (by decide +kernel)⟩
def lw_privs_1 : List (MethodName × Nat) := [(⟨"RopeBorder", "refuse", "(I)I"⟩, 8), (⟨"RopeBorder", "isTurner", "(I)Z"⟩, 8), (⟨"RopeBorder", "isPlace", "(I)Z"⟩, 8), (⟨"RopeBorder", "isCrosser", "(I)Z"⟩, 8), (⟨"RopeBorder", "canBecome", "(II)Z"⟩, 8), (⟨"RopeBorder$Reader", "readLevel", "(II)Z"⟩, 6), (⟨"RopeBorder$Reader", "readUnit", "(I)Z"⟩, 6), (⟨"RopeBorder$Reader", "ahead", "()I"⟩, 6), (⟨"RopeBorder$Reader", "readNumber", "()V"⟩, 6), (⟨"RopeBorder$Reader", "write", "(I)V"⟩, 6), (⟨"RopeBorder$Reader", "readOpened", "(II)Z"⟩, 6), (⟨"RopeBorder$Border", "letAllOver", "()V"⟩, 13), (⟨"RopeBorder$Border", "tireTurners", "()V"⟩, 13), (⟨"RopeBorder$Border", "meetRope", "(LRopeBorder$Crosser;ZZ)V"⟩, 13), (⟨"RopeBorder$Border", "jumpOrTrip", "(LRopeBorder$Crosser;)V"⟩, 13), (⟨"RopeBorder$Border", "isFree", "(I)Z"⟩, 13)]
theorem lw_r1 : ∀ q ∈ lw_privs_1, lw_okq q := List.forall_mem_cons.mpr ⟨lw_p0, List.forall_mem_cons.mpr ⟨lw_p1, List.forall_mem_cons.mpr ⟨lw_p2, List.forall_mem_cons.mpr ⟨lw_p3, List.forall_mem_cons.mpr ⟨lw_p4, List.forall_mem_cons.mpr ⟨lw_p5, List.forall_mem_cons.mpr ⟨lw_p6, List.forall_mem_cons.mpr ⟨lw_p7, List.forall_mem_cons.mpr ⟨lw_p8, List.forall_mem_cons.mpr ⟨lw_p9, List.forall_mem_cons.mpr ⟨lw_p10, List.forall_mem_cons.mpr ⟨lw_p11, List.forall_mem_cons.mpr ⟨lw_p12, List.forall_mem_cons.mpr ⟨lw_p13, List.forall_mem_cons.mpr ⟨lw_p14, List.forall_mem_cons.mpr ⟨lw_p15, fun _ h => absurd h List.not_mem_nil⟩⟩⟩⟩⟩⟩⟩⟩⟩⟩⟩⟩⟩⟩⟩⟩
theorem lw_p16 : lw_okq (⟨"RopeBorder", "drawWhoGoes", "()V"⟩, 8) := ⟨⟨by decide +kernel, by decide +kernel⟩, List.mem_of_getElem? (i := 20) (by decide +kernel), List.mem_of_getElem? (i := 665) (by decide +kernel), List.mem_of_getElem? (i := 666) (by decide +kernel)⟩
theorem lw_p17 : lw_okq (⟨"RopeBorder", "thinkOfNow", "()V"⟩, 8) := ⟨⟨by decide +kernel, by decide +kernel⟩, List.mem_of_getElem? (i := 20) (by decide +kernel), List.mem_of_getElem? (i := 679) (by decide +kernel), List.mem_of_getElem? (i := 680) (by decide +kernel)⟩
theorem lw_p18 : lw_okq (⟨"RopeBorder$Border", "isStirring", "()Z"⟩, 13) := ⟨⟨by decide +kernel, by decide +kernel⟩, List.mem_of_getElem? (i := 73) (by decide +kernel), List.mem_of_getElem? (i := 700) (by decide +kernel), List.mem_of_getElem? (i := 701) (by decide +kernel)⟩
theorem lw_p19 : lw_okq (⟨"RopeBorder", "isNorthIfHeWaits", "(II)Z"⟩, 8) := ⟨⟨by decide +kernel, by decide +kernel⟩, List.mem_of_getElem? (i := 20) (by decide +kernel), List.mem_of_getElem? (i := 712) (by decide +kernel), List.mem_of_getElem? (i := 713) (by decide +kernel)⟩
theorem lw_p20 : lw_okq (⟨"RopeBorder", "isRhymeFor", "(IIII)Z"⟩, 8) := ⟨⟨by decide +kernel, by decide +kernel⟩, List.mem_of_getElem? (i := 20) (by decide +kernel), List.mem_of_getElem? (i := 720) (by decide +kernel), List.mem_of_getElem? (i := 721) (by decide +kernel)⟩
theorem lw_p21 : lw_okq (⟨"RopeBorder", "areNorthIfJustTheyGo", "(II)Z"⟩, 8) := ⟨⟨by decide +kernel, by decide +kernel⟩, List.mem_of_getElem? (i := 20) (by decide +kernel), List.mem_of_getElem? (i := 730) (by decide +kernel), List.mem_of_getElem? (i := 731) (by decide +kernel)⟩
theorem lw_p22 : lw_okq (⟨"RopeBorder", "wearsAsToldIfJustHeGoes", "(IILRopeBorder$Sheet;)Z"⟩, 8) := ⟨⟨by decide +kernel, by decide +kernel⟩, List.mem_of_getElem? (i := 20) (by decide +kernel), List.mem_of_getElem? (i := 763) (by decide +kernel), List.mem_of_getElem? (i := 764) (by decide +kernel)⟩
theorem lw_p23 : lw_okq (⟨"RopeBorder", "isNorthFromPlace", "(III)Z"⟩, 8) := ⟨⟨by decide +kernel, by decide +kernel⟩, List.mem_of_getElem? (i := 20) (by decide +kernel), List.mem_of_getElem? (i := 771) (by decide +kernel), List.mem_of_getElem? (i := 772) (by decide +kernel)⟩
theorem lw_p24 : lw_okq (⟨"RopeBorder$Voices", "say", "(IIII)I"⟩, 5) := ⟨⟨by decide +kernel, by decide +kernel⟩, List.mem_of_getElem? (i := 254) (by decide +kernel), List.mem_of_getElem? (i := 791) (by decide +kernel), List.mem_of_getElem? (i := 792) (by decide +kernel)⟩
theorem lw_p25 : lw_okq (⟨"RopeBorder$Voices", "work", "(IIII)I"⟩, 5) := ⟨⟨by decide +kernel, by decide +kernel⟩, List.mem_of_getElem? (i := 254) (by decide +kernel), List.mem_of_getElem? (i := 798) (by decide +kernel), List.mem_of_getElem? (i := 799) (by decide +kernel)⟩
theorem lw_p26 : lw_okq (⟨"RopeBorderModel", "errs", "(I)I"⟩, 24) := ⟨⟨by decide +kernel, by decide +kernel⟩, List.mem_of_getElem? (i := 871) (by decide +kernel), List.mem_of_getElem? (i := 958) (by decide +kernel), List.mem_of_getElem? (i := 959) (by decide +kernel)⟩
theorem lw_p27 : lw_okq (⟨"RopeBorderModel", "becomes", "(II)I"⟩, 24) := ⟨⟨by decide +kernel, by decide +kernel⟩, List.mem_of_getElem? (i := 871) (by decide +kernel), List.mem_of_getElem? (i := 964) (by decide +kernel), List.mem_of_getElem? (i := 965) (by decide +kernel)⟩
theorem lw_p28 : lw_okq (⟨"RopeBorderModel", "isTurner", "(I)Z"⟩, 24) := ⟨⟨by decide +kernel, by decide +kernel⟩, List.mem_of_getElem? (i := 871) (by decide +kernel), List.mem_of_getElem? (i := 981) (by decide +kernel), List.mem_of_getElem? (i := 982) (by decide +kernel)⟩
theorem lw_p29 : lw_okq (⟨"RopeBorderModel", "isPlace", "(I)Z"⟩, 24) := ⟨⟨by decide +kernel, by decide +kernel⟩, List.mem_of_getElem? (i := 871) (by decide +kernel), List.mem_of_getElem? (i := 993) (by decide +kernel), List.mem_of_getElem? (i := 994) (by decide +kernel)⟩
theorem lw_p30 : lw_okq (⟨"RopeBorderModel", "gets", "(III)V"⟩, 24) := ⟨⟨by decide +kernel, by decide +kernel⟩, List.mem_of_getElem? (i := 871) (by decide +kernel), List.mem_of_getElem? (i := 997) (by decide +kernel), List.mem_of_getElem? (i := 998) (by decide +kernel)⟩
theorem lw_p31 : lw_okq (⟨"RopeBorderModel", "isCrosser", "(I)Z"⟩, 24) := ⟨⟨by decide +kernel, by decide +kernel⟩, List.mem_of_getElem? (i := 871) (by decide +kernel), List.mem_of_getElem? (i := 1005) (by decide +kernel), List.mem_of_getElem? (i := 1006) (by decide +kernel)⟩
def lw_privs_2 : List (MethodName × Nat) := [(⟨"RopeBorder", "drawWhoGoes", "()V"⟩, 8), (⟨"RopeBorder", "thinkOfNow", "()V"⟩, 8), (⟨"RopeBorder$Border", "isStirring", "()Z"⟩, 13), (⟨"RopeBorder", "isNorthIfHeWaits", "(II)Z"⟩, 8), (⟨"RopeBorder", "isRhymeFor", "(IIII)Z"⟩, 8), (⟨"RopeBorder", "areNorthIfJustTheyGo", "(II)Z"⟩, 8), (⟨"RopeBorder", "wearsAsToldIfJustHeGoes", "(IILRopeBorder$Sheet;)Z"⟩, 8), (⟨"RopeBorder", "isNorthFromPlace", "(III)Z"⟩, 8), (⟨"RopeBorder$Voices", "say", "(IIII)I"⟩, 5), (⟨"RopeBorder$Voices", "work", "(IIII)I"⟩, 5), (⟨"RopeBorderModel", "errs", "(I)I"⟩, 24), (⟨"RopeBorderModel", "becomes", "(II)I"⟩, 24), (⟨"RopeBorderModel", "isTurner", "(I)Z"⟩, 24), (⟨"RopeBorderModel", "isPlace", "(I)Z"⟩, 24), (⟨"RopeBorderModel", "gets", "(III)V"⟩, 24), (⟨"RopeBorderModel", "isCrosser", "(I)Z"⟩, 24)]
theorem lw_r2 : ∀ q ∈ lw_privs_2, lw_okq q := List.forall_mem_cons.mpr ⟨lw_p16, List.forall_mem_cons.mpr ⟨lw_p17, List.forall_mem_cons.mpr ⟨lw_p18, List.forall_mem_cons.mpr ⟨lw_p19, List.forall_mem_cons.mpr ⟨lw_p20, List.forall_mem_cons.mpr ⟨lw_p21, List.forall_mem_cons.mpr ⟨lw_p22, List.forall_mem_cons.mpr ⟨lw_p23, List.forall_mem_cons.mpr ⟨lw_p24, List.forall_mem_cons.mpr ⟨lw_p25, List.forall_mem_cons.mpr ⟨lw_p26, List.forall_mem_cons.mpr ⟨lw_p27, List.forall_mem_cons.mpr ⟨lw_p28, List.forall_mem_cons.mpr ⟨lw_p29, List.forall_mem_cons.mpr ⟨lw_p30, List.forall_mem_cons.mpr ⟨lw_p31, fun _ h => absurd h List.not_mem_nil⟩⟩⟩⟩⟩⟩⟩⟩⟩⟩⟩⟩⟩⟩⟩⟩
theorem lw_p32 : lw_okq (⟨"RopeBorderModel", "needs", "(I)I"⟩, 24) := ⟨⟨by decide +kernel, by decide +kernel⟩, List.mem_of_getElem? (i := 871) (by decide +kernel), List.mem_of_getElem? (i := 1009) (by decide +kernel), List.mem_of_getElem? (i := 1010) (by decide +kernel)⟩
theorem lw_p33 : lw_okq (⟨"RopeBorderModel", "its", "(II)I"⟩, 24) := ⟨⟨by decide +kernel, by decide +kernel⟩, List.mem_of_getElem? (i := 871) (by decide +kernel), List.mem_of_getElem? (i := 1013) (by decide +kernel), List.mem_of_getElem? (i := 1014) (by decide +kernel)⟩
theorem lw_p34 : lw_okq (⟨"RopeBorderModel", "lawOf", "(IIII)I"⟩, 24) := ⟨⟨by decide +kernel, by decide +kernel⟩, List.mem_of_getElem? (i := 871) (by decide +kernel), List.mem_of_getElem? (i := 1017) (by decide +kernel), List.mem_of_getElem? (i := 1018) (by decide +kernel)⟩
theorem lw_p35 : lw_okq (⟨"RopeBorderModel", "walks", "(IIII)I"⟩, 24) := ⟨⟨by decide +kernel, by decide +kernel⟩, List.mem_of_getElem? (i := 871) (by decide +kernel), List.mem_of_getElem? (i := 1021) (by decide +kernel), List.mem_of_getElem? (i := 1022) (by decide +kernel)⟩
theorem lw_p36 : lw_okq (⟨"RopeBorderModel", "whole", "()I"⟩, 24) := ⟨⟨by decide +kernel, by decide +kernel⟩, List.mem_of_getElem? (i := 871) (by decide +kernel), List.mem_of_getElem? (i := 1025) (by decide +kernel), List.mem_of_getElem? (i := 1026) (by decide +kernel)⟩
theorem lw_p37 : lw_okq (⟨"RopeBorderModel", "both", "()I"⟩, 24) := ⟨⟨by decide +kernel, by decide +kernel⟩, List.mem_of_getElem? (i := 871) (by decide +kernel), List.mem_of_getElem? (i := 1029) (by decide +kernel), List.mem_of_getElem? (i := 1030) (by decide +kernel)⟩
theorem lw_p38 : lw_okq (⟨"RopeBorderModel", "compared", "()I"⟩, 24) := ⟨⟨by decide +kernel, by decide +kernel⟩, List.mem_of_getElem? (i := 871) (by decide +kernel), List.mem_of_getElem? (i := 1033) (by decide +kernel), List.mem_of_getElem? (i := 1034) (by decide +kernel)⟩
theorem lw_p39 : lw_okq (⟨"RopeBorderModel", "sum", "()I"⟩, 24) := ⟨⟨by decide +kernel, by decide +kernel⟩, List.mem_of_getElem? (i := 871) (by decide +kernel), List.mem_of_getElem? (i := 1037) (by decide +kernel), List.mem_of_getElem? (i := 1038) (by decide +kernel)⟩
theorem lw_p40 : lw_okq (⟨"RopeBorderModel", "product", "()I"⟩, 24) := ⟨⟨by decide +kernel, by decide +kernel⟩, List.mem_of_getElem? (i := 871) (by decide +kernel), List.mem_of_getElem? (i := 1041) (by decide +kernel), List.mem_of_getElem? (i := 1042) (by decide +kernel)⟩
theorem lw_p41 : lw_okq (⟨"RopeBorderModel", "factor", "()I"⟩, 24) := ⟨⟨by decide +kernel, by decide +kernel⟩, List.mem_of_getElem? (i := 871) (by decide +kernel), List.mem_of_getElem? (i := 1045) (by decide +kernel), List.mem_of_getElem? (i := 1046) (by decide +kernel)⟩
theorem lw_p42 : lw_okq (⟨"RopeBorderModel", "byteAt", "(I)I"⟩, 24) := ⟨⟨by decide +kernel, by decide +kernel⟩, List.mem_of_getElem? (i := 871) (by decide +kernel), List.mem_of_getElem? (i := 1049) (by decide +kernel), List.mem_of_getElem? (i := 1050) (by decide +kernel)⟩
theorem lw_p43 : lw_okq (⟨"RopeBorderModel", "number", "()I"⟩, 24) := ⟨⟨by decide +kernel, by decide +kernel⟩, List.mem_of_getElem? (i := 871) (by decide +kernel), List.mem_of_getElem? (i := 1056) (by decide +kernel), List.mem_of_getElem? (i := 1057) (by decide +kernel)⟩
theorem lw_p44 : lw_okq (⟨"RopeBorderModel", "named", "(I)I"⟩, 24) := ⟨⟨by decide +kernel, by decide +kernel⟩, List.mem_of_getElem? (i := 871) (by decide +kernel), List.mem_of_getElem? (i := 1060) (by decide +kernel), List.mem_of_getElem? (i := 1061) (by decide +kernel)⟩
theorem lw_p45 : lw_okq (⟨"RopeBorderModel", "fails", "()I"⟩, 24) := ⟨⟨by decide +kernel, by decide +kernel⟩, List.mem_of_getElem? (i := 871) (by decide +kernel), List.mem_of_getElem? (i := 1064) (by decide +kernel), List.mem_of_getElem? (i := 1065) (by decide +kernel)⟩
theorem lw_p46 : lw_okq (⟨"RopeBorderModel", "wears", "(I)I"⟩, 24) := ⟨⟨by decide +kernel, by decide +kernel⟩, List.mem_of_getElem? (i := 871) (by decide +kernel), List.mem_of_getElem? (i := 1071) (by decide +kernel), List.mem_of_getElem? (i := 1072) (by decide +kernel)⟩
theorem lw_p47 : lw_okq (⟨"RopeBorderModel", "isSet", "(I)Z"⟩, 24) := ⟨⟨by decide +kernel, by decide +kernel⟩, List.mem_of_getElem? (i := 871) (by decide +kernel), List.mem_of_getElem? (i := 1098) (by decide +kernel), List.mem_of_getElem? (i := 1099) (by decide +kernel)⟩
def lw_privs_3 : List (MethodName × Nat) := [(⟨"RopeBorderModel", "needs", "(I)I"⟩, 24), (⟨"RopeBorderModel", "its", "(II)I"⟩, 24), (⟨"RopeBorderModel", "lawOf", "(IIII)I"⟩, 24), (⟨"RopeBorderModel", "walks", "(IIII)I"⟩, 24), (⟨"RopeBorderModel", "whole", "()I"⟩, 24), (⟨"RopeBorderModel", "both", "()I"⟩, 24), (⟨"RopeBorderModel", "compared", "()I"⟩, 24), (⟨"RopeBorderModel", "sum", "()I"⟩, 24), (⟨"RopeBorderModel", "product", "()I"⟩, 24), (⟨"RopeBorderModel", "factor", "()I"⟩, 24), (⟨"RopeBorderModel", "byteAt", "(I)I"⟩, 24), (⟨"RopeBorderModel", "number", "()I"⟩, 24), (⟨"RopeBorderModel", "named", "(I)I"⟩, 24), (⟨"RopeBorderModel", "fails", "()I"⟩, 24), (⟨"RopeBorderModel", "wears", "(I)I"⟩, 24), (⟨"RopeBorderModel", "isSet", "(I)Z"⟩, 24)]
theorem lw_r3 : ∀ q ∈ lw_privs_3, lw_okq q := List.forall_mem_cons.mpr ⟨lw_p32, List.forall_mem_cons.mpr ⟨lw_p33, List.forall_mem_cons.mpr ⟨lw_p34, List.forall_mem_cons.mpr ⟨lw_p35, List.forall_mem_cons.mpr ⟨lw_p36, List.forall_mem_cons.mpr ⟨lw_p37, List.forall_mem_cons.mpr ⟨lw_p38, List.forall_mem_cons.mpr ⟨lw_p39, List.forall_mem_cons.mpr ⟨lw_p40, List.forall_mem_cons.mpr ⟨lw_p41, List.forall_mem_cons.mpr ⟨lw_p42, List.forall_mem_cons.mpr ⟨lw_p43, List.forall_mem_cons.mpr ⟨lw_p44, List.forall_mem_cons.mpr ⟨lw_p45, List.forall_mem_cons.mpr ⟨lw_p46, List.forall_mem_cons.mpr ⟨lw_p47, fun _ h => absurd h List.not_mem_nil⟩⟩⟩⟩⟩⟩⟩⟩⟩⟩⟩⟩⟩⟩⟩⟩
theorem lw_p48 : lw_okq (⟨"RopeBorderModel", "moveAll", "([I[I)V"⟩, 24) := ⟨⟨by decide +kernel, by decide +kernel⟩, List.mem_of_getElem? (i := 871) (by decide +kernel), List.mem_of_getElem? (i := 1119) (by decide +kernel), List.mem_of_getElem? (i := 1120) (by decide +kernel)⟩
theorem lw_p49 : lw_okq (⟨"RopeBorderModel", "passes", "(I)V"⟩, 24) := ⟨⟨by decide +kernel, by decide +kernel⟩, List.mem_of_getElem? (i := 871) (by decide +kernel), List.mem_of_getElem? (i := 1128) (by decide +kernel), List.mem_of_getElem? (i := 1129) (by decide +kernel)⟩
theorem lw_p50 : lw_okq (⟨"RopeBorderModel", "oneBeat", "()V"⟩, 24) := ⟨⟨by decide +kernel, by decide +kernel⟩, List.mem_of_getElem? (i := 871) (by decide +kernel), List.mem_of_getElem? (i := 1132) (by decide +kernel), List.mem_of_getElem? (i := 1133) (by decide +kernel)⟩
theorem lw_p51 : lw_okq (⟨"RopeBorderModel", "isStanding", "()Z"⟩, 24) := ⟨⟨by decide +kernel, by decide +kernel⟩, List.mem_of_getElem? (i := 871) (by decide +kernel), List.mem_of_getElem? (i := 1136) (by decide +kernel), List.mem_of_getElem? (i := 1137) (by decide +kernel)⟩
theorem lw_p52 : lw_okq (⟨"RopeBorderModel", "moves", "(I)V"⟩, 24) := ⟨⟨by decide +kernel, by decide +kernel⟩, List.mem_of_getElem? (i := 871) (by decide +kernel), List.mem_of_getElem? (i := 1140) (by decide +kernel), List.mem_of_getElem? (i := 1141) (by decide +kernel)⟩
theorem lw_p53 : lw_okq (⟨"RopeBorderModel", "jumpsOrNot", "(II)V"⟩, 24) := ⟨⟨by decide +kernel, by decide +kernel⟩, List.mem_of_getElem? (i := 871) (by decide +kernel), List.mem_of_getElem? (i := 1144) (by decide +kernel), List.mem_of_getElem? (i := 1145) (by decide +kernel)⟩
theorem lw_p54 : lw_okq (⟨"RopeBorderModel", "isFree", "(I)Z"⟩, 24) := ⟨⟨by decide +kernel, by decide +kernel⟩, List.mem_of_getElem? (i := 871) (by decide +kernel), List.mem_of_getElem? (i := 1148) (by decide +kernel), List.mem_of_getElem? (i := 1149) (by decide +kernel)⟩
theorem lw_p55 : lw_okq (⟨"RopeBorderModel", "setOf", "(I)I"⟩, 24) := ⟨⟨by decide +kernel, by decide +kernel⟩, List.mem_of_getElem? (i := 871) (by decide +kernel), List.mem_of_getElem? (i := 1152) (by decide +kernel), List.mem_of_getElem? (i := 1153) (by decide +kernel)⟩
theorem lw_p56 : lw_okq (⟨"RopeBorderModel", "drawn", "()I"⟩, 24) := ⟨⟨by decide +kernel, by decide +kernel⟩, List.mem_of_getElem? (i := 871) (by decide +kernel), List.mem_of_getElem? (i := 1163) (by decide +kernel), List.mem_of_getElem? (i := 1164) (by decide +kernel)⟩
theorem lw_p57 : lw_okq (⟨"RopeBorderModel", "northOf", "(II)I"⟩, 24) := ⟨⟨by decide +kernel, by decide +kernel⟩, List.mem_of_getElem? (i := 871) (by decide +kernel), List.mem_of_getElem? (i := 1189) (by decide +kernel), List.mem_of_getElem? (i := 1190) (by decide +kernel)⟩
theorem lw_p58 : lw_okq (⟨"RopeBorderModel", "mostWorn", "()I"⟩, 24) := ⟨⟨by decide +kernel, by decide +kernel⟩, List.mem_of_getElem? (i := 871) (by decide +kernel), List.mem_of_getElem? (i := 1209) (by decide +kernel), List.mem_of_getElem? (i := 1210) (by decide +kernel)⟩
theorem lw_p59 : lw_okq (⟨"RopeBorderModel", "countsIn", "(II)I"⟩, 24) := ⟨⟨by decide +kernel, by decide +kernel⟩, List.mem_of_getElem? (i := 871) (by decide +kernel), List.mem_of_getElem? (i := 1235) (by decide +kernel), List.mem_of_getElem? (i := 1236) (by decide +kernel)⟩
theorem lw_p60 : lw_okq (⟨"RopeBorderModel", "ran", "(I)V"⟩, 24) := ⟨⟨by decide +kernel, by decide +kernel⟩, List.mem_of_getElem? (i := 871) (by decide +kernel), List.mem_of_getElem? (i := 1239) (by decide +kernel), List.mem_of_getElem? (i := 1240) (by decide +kernel)⟩
theorem lw_p61 : lw_okq (⟨"RopeBorderModel", "jumpsIn", "(II)I"⟩, 24) := ⟨⟨by decide +kernel, by decide +kernel⟩, List.mem_of_getElem? (i := 871) (by decide +kernel), List.mem_of_getElem? (i := 1243) (by decide +kernel), List.mem_of_getElem? (i := 1244) (by decide +kernel)⟩
theorem lw_p62 : lw_okq (⟨"RopeBorderModel", "tripsIn", "(II)I"⟩, 24) := ⟨⟨by decide +kernel, by decide +kernel⟩, List.mem_of_getElem? (i := 871) (by decide +kernel), List.mem_of_getElem? (i := 1247) (by decide +kernel), List.mem_of_getElem? (i := 1248) (by decide +kernel)⟩
theorem lw_p63 : lw_okq (⟨"RopeBorderModel", "runsIn", "(II)I"⟩, 24) := ⟨⟨by decide +kernel, by decide +kernel⟩, List.mem_of_getElem? (i := 871) (by decide +kernel), List.mem_of_getElem? (i := 1251) (by decide +kernel), List.mem_of_getElem? (i := 1252) (by decide +kernel)⟩
def lw_privs_4 : List (MethodName × Nat) := [(⟨"RopeBorderModel", "moveAll", "([I[I)V"⟩, 24), (⟨"RopeBorderModel", "passes", "(I)V"⟩, 24), (⟨"RopeBorderModel", "oneBeat", "()V"⟩, 24), (⟨"RopeBorderModel", "isStanding", "()Z"⟩, 24), (⟨"RopeBorderModel", "moves", "(I)V"⟩, 24), (⟨"RopeBorderModel", "jumpsOrNot", "(II)V"⟩, 24), (⟨"RopeBorderModel", "isFree", "(I)Z"⟩, 24), (⟨"RopeBorderModel", "setOf", "(I)I"⟩, 24), (⟨"RopeBorderModel", "drawn", "()I"⟩, 24), (⟨"RopeBorderModel", "northOf", "(II)I"⟩, 24), (⟨"RopeBorderModel", "mostWorn", "()I"⟩, 24), (⟨"RopeBorderModel", "countsIn", "(II)I"⟩, 24), (⟨"RopeBorderModel", "ran", "(I)V"⟩, 24), (⟨"RopeBorderModel", "jumpsIn", "(II)I"⟩, 24), (⟨"RopeBorderModel", "tripsIn", "(II)I"⟩, 24), (⟨"RopeBorderModel", "runsIn", "(II)I"⟩, 24)]
theorem lw_r4 : ∀ q ∈ lw_privs_4, lw_okq q := List.forall_mem_cons.mpr ⟨lw_p48, List.forall_mem_cons.mpr ⟨lw_p49, List.forall_mem_cons.mpr ⟨lw_p50, List.forall_mem_cons.mpr ⟨lw_p51, List.forall_mem_cons.mpr ⟨lw_p52, List.forall_mem_cons.mpr ⟨lw_p53, List.forall_mem_cons.mpr ⟨lw_p54, List.forall_mem_cons.mpr ⟨lw_p55, List.forall_mem_cons.mpr ⟨lw_p56, List.forall_mem_cons.mpr ⟨lw_p57, List.forall_mem_cons.mpr ⟨lw_p58, List.forall_mem_cons.mpr ⟨lw_p59, List.forall_mem_cons.mpr ⟨lw_p60, List.forall_mem_cons.mpr ⟨lw_p61, List.forall_mem_cons.mpr ⟨lw_p62, List.forall_mem_cons.mpr ⟨lw_p63, fun _ h => absurd h List.not_mem_nil⟩⟩⟩⟩⟩⟩⟩⟩⟩⟩⟩⟩⟩⟩⟩⟩
def lw_privs : List (MethodName × Nat) := lw_privs_1 ++ (lw_privs_2 ++ (lw_privs_3 ++ (lw_privs_4)))
def lw_tbl : List Cond := k2_sels lw_privs ++ tables_1
theorem lw_privs_ok : ∀ q ∈ lw_privs, lw_okq q := by
  show ∀ q ∈ lw_privs_1 ++ (lw_privs_2 ++ (lw_privs_3 ++ (lw_privs_4))), lw_okq q
  exact List.forall_mem_append.mpr ⟨lw_r1, List.forall_mem_append.mpr ⟨lw_r2, List.forall_mem_append.mpr ⟨lw_r3, lw_r4⟩⟩⟩
end
section
def RX0 : String := "RopeBorder$Border"
def TX0 : u_T := fun k => match k with
  | 0 => ("RopeBorder$Border", "jumpsLaw", "LRopeBorder$Law;", true)
  | 1 => ("RopeBorder$Border", "jumpedLaw", "LRopeBorder$Law;", true)
  | 2 => ("RopeBorder$Border", "wears", "[I", true)
  | 3 => ("RopeBorder$Border", "turners", "[LRopeBorder$Turner;", true)
  | 4 => ("RopeBorder$Border", "crossers", "[LRopeBorder$Crosser;", true)
  | 5 => ("RopeBorder$Border", "places", "I", false)
  | 6 => ("RopeBorder$Border", "rhymeLength", "I", false)
  | 7 => ("RopeBorder$Border", "downSet", "I", false)
  | 8 => ("RopeBorder$Border", "beat", "I", false)
  | 9 => ("RopeBorder$Border", "turnerCount", "I", false)
  | 10 => ("RopeBorder$Border", "turning", "I", false)
  | 11 => ("RopeBorder$Border", "crosserCount", "I", false)
  | _ => ("RopeBorder$Border", "goingSet", "I", false)
def tyX0 : Nat → FieldType := fun k => match k with
  | 0 => .object "RopeBorder$Law"
  | 1 => .object "RopeBorder$Law"
  | 2 => .array .int
  | 3 => .array (.object "RopeBorder$Turner")
  | 4 => .array (.object "RopeBorder$Crosser")
  | 5 => .int
  | 6 => .int
  | 7 => .int
  | 8 => .int
  | 9 => .int
  | 10 => .int
  | 11 => .int
  | _ => .int
abbrev wsX00 : List Cond := u_ws RX0 TX0 13
theorem nmX0 : ∀ a, a < 13 → ∀ b, b < 13 → a ≠ b → (TX0 a).2.1 ≠ (TX0 b).2.1 := by decide +kernel
theorem tyX0_ok : ∀ k, k < 13 → parseFieldDescriptor (TX0 k).2.2.1 = some (tyX0 k) := by decide +kernel
abbrev cX0_init : ByteArray := prog_2_method_1_code
def yX0_init : MethodName := ⟨RX0, "<init>", "(LRopeBorder$Law;LRopeBorder$Law;)V"⟩
abbrev cX0_copyFrom : ByteArray := prog_2_method_2_code
def yX0_copyFrom : MethodName := ⟨RX0, "copyFrom", "(LRopeBorder$Border;)V"⟩
abbrev cX0_layRope : ByteArray := prog_2_method_3_code
def yX0_layRope : MethodName := ⟨RX0, "layRope", "(I)V"⟩
abbrev cX0_addTurner : ByteArray := prog_2_method_4_code
def yX0_addTurner : MethodName := ⟨RX0, "addTurner", "(I)I"⟩
abbrev cX0_addCrosser : ByteArray := prog_2_method_5_code
def yX0_addCrosser : MethodName := ⟨RX0, "addCrosser", "(III)I"⟩
abbrev cX0_isGoing : ByteArray := prog_2_method_6_code
def yX0_isGoing : MethodName := ⟨RX0, "isGoing", "(I)Z"⟩
abbrev cX0_placeInRhyme : ByteArray := prog_2_method_7_code
def yX0_placeInRhyme : MethodName := ⟨RX0, "placeInRhyme", "()I"⟩
abbrev cX0_isStanding : ByteArray := prog_2_method_8_code
def yX0_isStanding : MethodName := ⟨RX0, "isStanding", "()Z"⟩
abbrev cX0_needsOf : ByteArray := prog_2_method_9_code
def yX0_needsOf : MethodName := ⟨RX0, "needsOf", "(LRopeBorder$Crosser;)I"⟩
abbrev cX0_setOf : ByteArray := prog_2_method_10_code
def yX0_setOf : MethodName := ⟨RX0, "setOf", "(I)I"⟩
abbrev cX0_countOf : ByteArray := prog_2_method_11_code
def yX0_countOf : MethodName := ⟨RX0, "countOf", "(I)I"⟩
abbrev cX0_mostWear : ByteArray := prog_2_method_12_code
def yX0_mostWear : MethodName := ⟨RX0, "mostWear", "()I"⟩
abbrev cX0_turnFor : ByteArray := prog_2_method_13_code
def yX0_turnFor : MethodName := ⟨RX0, "turnFor", "(I)V"⟩
abbrev cX0_settleFor : ByteArray := prog_2_method_14_code
def yX0_settleFor : MethodName := ⟨RX0, "settleFor", "(I)V"⟩
abbrev cX0_isStirring : ByteArray := prog_2_method_15_code
def yX0_isStirring : MethodName := ⟨RX0, "isStirring", "()Z"⟩
abbrev cX0_turnOnce : ByteArray := prog_2_method_16_code
def yX0_turnOnce : MethodName := ⟨RX0, "turnOnce", "()V"⟩
abbrev cX0_letAllOver : ByteArray := prog_2_method_17_code
def yX0_letAllOver : MethodName := ⟨RX0, "letAllOver", "()V"⟩
abbrev cX0_tireTurners : ByteArray := prog_2_method_18_code
def yX0_tireTurners : MethodName := ⟨RX0, "tireTurners", "()V"⟩
abbrev cX0_meetRope : ByteArray := prog_2_method_19_code
def yX0_meetRope : MethodName := ⟨RX0, "meetRope", "(LRopeBorder$Crosser;ZZ)V"⟩
abbrev cX0_jumpOrTrip : ByteArray := prog_2_method_20_code
def yX0_jumpOrTrip : MethodName := ⟨RX0, "jumpOrTrip", "(LRopeBorder$Crosser;)V"⟩
abbrev cX0_isFree : ByteArray := prog_2_method_21_code
def yX0_isFree : MethodName := ⟨RX0, "isFree", "(I)Z"⟩
def RX1 : String := "RopeBorder$Crosser"
def TX1 : u_T := fun k => match k with
  | 0 => ("RopeBorder$Crosser", "kind", "I", false)
  | 1 => ("RopeBorder$Crosser", "m", "I", false)
  | 2 => ("RopeBorder$Crosser", "skill", "I", false)
  | 3 => ("RopeBorder$Crosser", "load", "I", false)
  | 4 => ("RopeBorder$Crosser", "place", "I", false)
  | 5 => ("RopeBorder$Crosser", "state", "I", false)
  | _ => ("RopeBorder$Crosser", "jumps", "I", false)
def tyX1 : Nat → FieldType := fun k => match k with
  | 0 => .int
  | 1 => .int
  | 2 => .int
  | 3 => .int
  | 4 => .int
  | 5 => .int
  | _ => .int
abbrev wsX10 : List Cond := u_ws RX1 TX1 7
theorem nmX1 : ∀ a, a < 7 → ∀ b, b < 7 → a ≠ b → (TX1 a).2.1 ≠ (TX1 b).2.1 := by decide +kernel
theorem tyX1_ok : ∀ k, k < 7 → parseFieldDescriptor (TX1 k).2.2.1 = some (tyX1 k) := by decide +kernel
abbrev cX1_init : ByteArray := prog_3_method_1_code
def yX1_init : MethodName := ⟨RX1, "<init>", "()V"⟩
abbrev cX1_copyFrom : ByteArray := prog_3_method_2_code
def yX1_copyFrom : MethodName := ⟨RX1, "copyFrom", "(LRopeBorder$Crosser;)V"⟩
abbrev cX1_takeKind : ByteArray := prog_3_method_3_code
def yX1_takeKind : MethodName := ⟨RX1, "takeKind", "(I)V"⟩
abbrev cX1_isOfKind : ByteArray := prog_3_method_4_code
def yX1_isOfKind : MethodName := ⟨RX1, "isOfKind", "(I)Z"⟩
abbrev cX1_exchange : ByteArray := prog_3_method_5_code
def yX1_exchange : MethodName := ⟨RX1, "exchange", "(II)I"⟩
abbrev cX1_needsWith : ByteArray := prog_3_method_6_code
def yX1_needsWith : MethodName := ⟨RX1, "needsWith", "(I)I"⟩
abbrev cX1_wearsByJump : ByteArray := prog_3_method_7_code
def yX1_wearsByJump : MethodName := ⟨RX1, "wearsByJump", "()I"⟩
def RX2 : String := "RopeBorder$Kept"
def TX2 : u_T := fun k => match k with
  | 0 => ("RopeBorder$Kept", "jumpsLaw", "LRopeBorder$Law;", true)
  | 1 => ("RopeBorder$Kept", "jumpedLaw", "LRopeBorder$Law;", true)
  | 2 => ("RopeBorder$Kept", "border", "LRopeBorder$Border;", true)
  | 3 => ("RopeBorder$Kept", "tape", "[I", true)
  | 4 => ("RopeBorder$Kept", "waiting", "[I", true)
  | 5 => ("RopeBorder$Kept", "tapeSize", "I", false)
  | 6 => ("RopeBorder$Kept", "waitingSize", "I", false)
  | _ => ("RopeBorder$Kept", "z", "I", false)
def tyX2 : Nat → FieldType := fun k => match k with
  | 0 => .object "RopeBorder$Law"
  | 1 => .object "RopeBorder$Law"
  | 2 => .object "RopeBorder$Border"
  | 3 => .array .int
  | 4 => .array .int
  | 5 => .int
  | 6 => .int
  | _ => .int
abbrev wsX20 : List Cond := u_ws RX2 TX2 8
theorem nmX2 : ∀ a, a < 8 → ∀ b, b < 8 → a ≠ b → (TX2 a).2.1 ≠ (TX2 b).2.1 := by decide +kernel
theorem tyX2_ok : ∀ k, k < 8 → parseFieldDescriptor (TX2 k).2.2.1 = some (tyX2 k) := by decide +kernel
abbrev cX2_init : ByteArray := prog_4_method_1_code
def yX2_init : MethodName := ⟨RX2, "<init>", "()V"⟩
abbrev cX2_lawOf : ByteArray := prog_4_method_2_code
def yX2_lawOf : MethodName := ⟨RX2, "lawOf", "(I)LRopeBorder$Law;"⟩
abbrev cX2_copyFrom : ByteArray := prog_4_method_3_code
def yX2_copyFrom : MethodName := ⟨RX2, "copyFrom", "(LRopeBorder$Kept;)V"⟩
def RX3 : String := "RopeBorder$Law"
def TX3 : u_T := fun k => match k with
  | 0 => ("RopeBorder$Law", "code", "[I", true)
  | 1 => ("RopeBorder$Law", "stack", "[I", true)
  | 2 => ("RopeBorder$Law", "least", "I", true)
  | 3 => ("RopeBorder$Law", "most", "I", true)
  | _ => ("RopeBorder$Law", "size", "I", false)
def tyX3 : Nat → FieldType := fun k => match k with
  | 0 => .array .int
  | 1 => .array .int
  | 2 => .int
  | 3 => .int
  | _ => .int
abbrev wsX30 : List Cond := u_ws RX3 TX3 5
theorem nmX3 : ∀ a, a < 5 → ∀ b, b < 5 → a ≠ b → (TX3 a).2.1 ≠ (TX3 b).2.1 := by decide +kernel
theorem tyX3_ok : ∀ k, k < 5 → parseFieldDescriptor (TX3 k).2.2.1 = some (tyX3 k) := by decide +kernel
abbrev cX3_init : ByteArray := prog_5_method_1_code
def yX3_init : MethodName := ⟨RX3, "<init>", "(II[I)V"⟩
abbrev cX3_takeCode : ByteArray := prog_5_method_2_code
def yX3_takeCode : MethodName := ⟨RX3, "takeCode", "([II)V"⟩
abbrev cX3_gives : ByteArray := prog_5_method_3_code
def yX3_gives : MethodName := ⟨RX3, "gives", "(III)I"⟩
abbrev cX3_joined : ByteArray := prog_5_method_4_code
def yX3_joined : MethodName := ⟨RX3, "joined", "(III)I"⟩
def RX4 : String := "RopeBorder$Reader"
def TX4 : u_T := fun k => match k with
  | 0 => ("RopeBorder$Reader", "tape", "[I", true)
  | 1 => ("RopeBorder$Reader", "code", "[I", true)
  | 2 => ("RopeBorder$Reader", "size", "I", false)
  | 3 => ("RopeBorder$Reader", "length", "I", false)
  | 4 => ("RopeBorder$Reader", "at", "I", false)
  | _ => ("RopeBorder$Reader", "names", "Ljava/lang/String;", false)
def tyX4 : Nat → FieldType := fun k => match k with
  | 0 => .array .int
  | 1 => .array .int
  | 2 => .int
  | 3 => .int
  | 4 => .int
  | _ => .object "java/lang/String"
abbrev wsX40 : List Cond := u_ws RX4 TX4 6
theorem nmX4 : ∀ a, a < 6 → ∀ b, b < 6 → a ≠ b → (TX4 a).2.1 ≠ (TX4 b).2.1 := by decide +kernel
theorem tyX4_ok : ∀ k, k < 6 → parseFieldDescriptor (TX4 k).2.2.1 = some (tyX4 k) := by decide +kernel
abbrev cX4_init : ByteArray := prog_6_method_1_code
def yX4_init : MethodName := ⟨RX4, "<init>", "([I)V"⟩
abbrev cX4_reads : ByteArray := prog_6_method_2_code
def yX4_reads : MethodName := ⟨RX4, "reads", "(II)Z"⟩
abbrev cX4_ahead : ByteArray := prog_6_method_3_code
def yX4_ahead : MethodName := ⟨RX4, "ahead", "()I"⟩
abbrev cX4_write : ByteArray := prog_6_method_4_code
def yX4_write : MethodName := ⟨RX4, "write", "(I)V"⟩
abbrev cX4_levelOf : ByteArray := prog_6_method_5_code
def yX4_levelOf : MethodName := ⟨RX4, "levelOf", "(I)I"⟩
abbrev cX4_readLevel : ByteArray := prog_6_method_6_code
def yX4_readLevel : MethodName := ⟨RX4, "readLevel", "(II)Z"⟩
abbrev cX4_readUnit : ByteArray := prog_6_method_7_code
def yX4_readUnit : MethodName := ⟨RX4, "readUnit", "(I)Z"⟩
abbrev cX4_readOpened : ByteArray := prog_6_method_8_code
def yX4_readOpened : MethodName := ⟨RX4, "readOpened", "(II)Z"⟩
abbrev cX4_isDigit : ByteArray := prog_6_method_9_code
def yX4_isDigit : MethodName := ⟨RX4, "isDigit", "(I)Z"⟩
abbrev cX4_readNumber : ByteArray := prog_6_method_10_code
def yX4_readNumber : MethodName := ⟨RX4, "readNumber", "()V"⟩
def RX5 : String := "RopeBorder$Sheet"
def TX5 : u_T := fun k => match k with
  | 0 => ("RopeBorder$Sheet", "numbers", "[I", true)
  | 1 => ("RopeBorder$Sheet", "bits", "I", false)
  | _ => ("RopeBorder$Sheet", "size", "I", false)
def tyX5 : Nat → FieldType := fun k => match k with
  | 0 => .array .int
  | 1 => .int
  | _ => .int
abbrev wsX50 : List Cond := u_ws RX5 TX5 3
theorem nmX5 : ∀ a, a < 3 → ∀ b, b < 3 → a ≠ b → (TX5 a).2.1 ≠ (TX5 b).2.1 := by decide +kernel
theorem tyX5_ok : ∀ k, k < 3 → parseFieldDescriptor (TX5 k).2.2.1 = some (tyX5 k) := by decide +kernel
abbrev cX5_init : ByteArray := prog_7_method_1_code
def yX5_init : MethodName := ⟨RX5, "<init>", "()V"⟩
abbrev cX5_isMissing : ByteArray := prog_7_method_2_code
def yX5_isMissing : MethodName := ⟨RX5, "isMissing", "()Z"⟩
abbrev cX5_clearTo : ByteArray := prog_7_method_3_code
def yX5_clearTo : MethodName := ⟨RX5, "clearTo", "(II)V"⟩
abbrev cX5_write : ByteArray := prog_7_method_4_code
def yX5_write : MethodName := ⟨RX5, "write", "(II)V"⟩
abbrev cX5_hasRun : ByteArray := prog_7_method_5_code
def yX5_hasRun : MethodName := ⟨RX5, "hasRun", "(II)Z"⟩
def RX6 : String := "RopeBorder$Turner"
def TX6 : u_T := fun k => match k with
  | 0 => ("RopeBorder$Turner", "strength", "I", false)
  | _ => ("RopeBorder$Turner", "tired", "I", false)
def tyX6 : Nat → FieldType := fun k => match k with
  | 0 => .int
  | _ => .int
abbrev wsX60 : List Cond := u_ws RX6 TX6 2
theorem nmX6 : ∀ a, a < 2 → ∀ b, b < 2 → a ≠ b → (TX6 a).2.1 ≠ (TX6 b).2.1 := by decide +kernel
theorem tyX6_ok : ∀ k, k < 2 → parseFieldDescriptor (TX6 k).2.2.1 = some (tyX6 k) := by decide +kernel
abbrev cX6_init : ByteArray := prog_8_method_1_code
def yX6_init : MethodName := ⟨RX6, "<init>", "()V"⟩
abbrev cX6_strengthLeft : ByteArray := prog_8_method_2_code
def yX6_strengthLeft : MethodName := ⟨RX6, "strengthLeft", "()I"⟩
abbrev cX6_copyFrom : ByteArray := prog_8_method_3_code
def yX6_copyFrom : MethodName := ⟨RX6, "copyFrom", "(LRopeBorder$Turner;)V"⟩
def RX7 : String := "RopeBorder$Voices"
def TX7 : u_T := fun k => match k with
  | 0 => ("RopeBorder$Voices", "bodies", "[I", true)
  | 1 => ("RopeBorder$Voices", "traced", "I", false)
  | 2 => ("RopeBorder$Voices", "kind", "I", false)
  | 3 => ("RopeBorder$Voices", "n", "I", false)
  | _ => ("RopeBorder$Voices", "m", "I", false)
def tyX7 : Nat → FieldType := fun k => match k with
  | 0 => .array .int
  | 1 => .int
  | 2 => .int
  | 3 => .int
  | _ => .int
abbrev wsX70 : List Cond := u_ws RX7 TX7 5
theorem nmX7 : ∀ a, a < 5 → ∀ b, b < 5 → a ≠ b → (TX7 a).2.1 ≠ (TX7 b).2.1 := by decide +kernel
theorem tyX7_ok : ∀ k, k < 5 → parseFieldDescriptor (TX7 k).2.2.1 = some (tyX7 k) := by decide +kernel
abbrev cX7_init : ByteArray := prog_9_method_1_code
def yX7_init : MethodName := ⟨RX7, "<init>", "()V"⟩
abbrev cX7_speak : ByteArray := prog_9_method_2_code
def yX7_speak : MethodName := ⟨RX7, "speak", "(IIIII)I"⟩
abbrev cX7_say : ByteArray := prog_9_method_3_code
def yX7_say : MethodName := ⟨RX7, "say", "(IIII)I"⟩
abbrev cX7_work : ByteArray := prog_9_method_4_code
def yX7_work : MethodName := ⟨RX7, "work", "(IIII)I"⟩
def RX8 : String := "RopeBorder"
def TX8 : u_T := fun k => match k with
  | 0 => ("RopeBorder", "now", "LRopeBorder$Kept;", true)
  | 1 => ("RopeBorder", "imaged", "LRopeBorder$Kept;", true)
  | 2 => ("RopeBorder", "thought", "LRopeBorder$Border;", true)
  | 3 => ("RopeBorder", "reader", "LRopeBorder$Reader;", true)
  | 4 => ("RopeBorder", "voices", "LRopeBorder$Voices;", true)
  | 5 => ("RopeBorder", "sheets", "[LRopeBorder$Sheet;", true)
  | 6 => ("RopeBorder", "errors", "[I", true)
  | _ => ("RopeBorder", "images", "I", false)
def tyX8 : Nat → FieldType := fun k => match k with
  | 0 => .object "RopeBorder$Kept"
  | 1 => .object "RopeBorder$Kept"
  | 2 => .object "RopeBorder$Border"
  | 3 => .object "RopeBorder$Reader"
  | 4 => .object "RopeBorder$Voices"
  | 5 => .array (.object "RopeBorder$Sheet")
  | 6 => .array .int
  | _ => .int
abbrev wsX80 : List Cond := u_ws RX8 TX8 8
theorem nmX8 : ∀ a, a < 8 → ∀ b, b < 8 → a ≠ b → (TX8 a).2.1 ≠ (TX8 b).2.1 := by decide +kernel
theorem tyX8_ok : ∀ k, k < 8 → parseFieldDescriptor (TX8 k).2.2.1 = some (tyX8 k) := by decide +kernel
abbrev cX8_init : ByteArray := prog_1_method_1_code
def yX8_init : MethodName := ⟨RX8, "<init>", "()V"⟩
abbrev cX8_rope : ByteArray := prog_1_method_2_code
def yX8_rope : MethodName := ⟨RX8, "rope", "(I)I"⟩
abbrev cX8_rhyme : ByteArray := prog_1_method_3_code
def yX8_rhyme : MethodName := ⟨RX8, "rhyme", "(II)I"⟩
abbrev cX8_turner : ByteArray := prog_1_method_4_code
def yX8_turner : MethodName := ⟨RX8, "turner", "(I)I"⟩
abbrev cX8_ofTurner : ByteArray := prog_1_method_5_code
def yX8_ofTurner : MethodName := ⟨RX8, "ofTurner", "(II)I"⟩
abbrev cX8_relieve : ByteArray := prog_1_method_6_code
def yX8_relieve : MethodName := ⟨RX8, "relieve", "(I)I"⟩
abbrev cX8_crosser : ByteArray := prog_1_method_7_code
def yX8_crosser : MethodName := ⟨RX8, "crosser", "(III)I"⟩
abbrev cX8_ofCrosser : ByteArray := prog_1_method_8_code
def yX8_ofCrosser : MethodName := ⟨RX8, "ofCrosser", "(II)I"⟩
abbrev cX8_change : ByteArray := prog_1_method_9_code
def yX8_change : MethodName := ⟨RX8, "change", "(III)I"⟩
abbrev cX8_become : ByteArray := prog_1_method_10_code
def yX8_become : MethodName := ⟨RX8, "become", "(II)I"⟩
abbrev cX8_as : ByteArray := prog_1_method_11_code
def yX8_as : MethodName := ⟨RX8, "as", "(II)I"⟩
abbrev cX8_go : ByteArray := prog_1_method_12_code
def yX8_go : MethodName := ⟨RX8, "go", "(I)I"⟩
abbrev cX8_splice : ByteArray := prog_1_method_13_code
def yX8_splice : MethodName := ⟨RX8, "splice", "(II)I"⟩
abbrev cX8_feed : ByteArray := prog_1_method_14_code
def yX8_feed : MethodName := ⟨RX8, "feed", "(JI)I"⟩
abbrev cX8_text : ByteArray := prog_1_method_15_code
def yX8_text : MethodName := ⟨RX8, "text", "(I)I"⟩
abbrev cX8_law : ByteArray := prog_1_method_16_code
def yX8_law : MethodName := ⟨RX8, "law", "(IIII)I"⟩
abbrev cX8_beats : ByteArray := prog_1_method_17_code
def yX8_beats : MethodName := ⟨RX8, "beats", "(I)I"⟩
abbrev cX8_loose : ByteArray := prog_1_method_18_code
def yX8_loose : MethodName := ⟨RX8, "loose", "(I)I"⟩
abbrev cX8_wear : ByteArray := prog_1_method_19_code
def yX8_wear : MethodName := ⟨RX8, "wear", "(I)I"⟩
abbrev cX8_then : ByteArray := prog_1_method_20_code
def yX8_then : MethodName := ⟨RX8, "then", "(III)I"⟩
abbrev cX8_over : ByteArray := prog_1_method_21_code
def yX8_over : MethodName := ⟨RX8, "over", "(I)I"⟩
abbrev cX8_begin : ByteArray := prog_1_method_22_code
def yX8_begin : MethodName := ⟨RX8, "begin", "(I)I"⟩
abbrev cX8_rhymes : ByteArray := prog_1_method_23_code
def yX8_rhymes : MethodName := ⟨RX8, "rhymes", "(IIII)I"⟩
abbrev cX8_most : ByteArray := prog_1_method_24_code
def yX8_most : MethodName := ⟨RX8, "most", "(I)I"⟩
abbrev cX8_relief : ByteArray := prog_1_method_25_code
def yX8_relief : MethodName := ⟨RX8, "relief", "()I"⟩
abbrev cX8_stands : ByteArray := prog_1_method_26_code
def yX8_stands : MethodName := ⟨RX8, "stands", "()I"⟩
abbrev cX8_parts : ByteArray := prog_1_method_27_code
def yX8_parts : MethodName := ⟨RX8, "parts", "(I)I"⟩
abbrev cX8_who : ByteArray := prog_1_method_28_code
def yX8_who : MethodName := ⟨RX8, "who", "(II)I"⟩
abbrev cX8_odds : ByteArray := prog_1_method_29_code
def yX8_odds : MethodName := ⟨RX8, "odds", "(III)I"⟩
abbrev cX8_seed : ByteArray := prog_1_method_30_code
def yX8_seed : MethodName := ⟨RX8, "seed", "(I)I"⟩
abbrev cX8_voice : ByteArray := prog_1_method_31_code
def yX8_voice : MethodName := ⟨RX8, "voice", "(III)I"⟩
abbrev cX8_trace : ByteArray := prog_1_method_32_code
def yX8_trace : MethodName := ⟨RX8, "trace", "(I)I"⟩
abbrev cX8_sheet : ByteArray := prog_1_method_33_code
def yX8_sheet : MethodName := ⟨RX8, "sheet", "(III)I"⟩
abbrev cX8_put : ByteArray := prog_1_method_34_code
def yX8_put : MethodName := ⟨RX8, "put", "(III)I"⟩
abbrev cX8_move : ByteArray := prog_1_method_35_code
def yX8_move : MethodName := ⟨RX8, "move", "(IIIII)I"⟩
abbrev cX8_loads : ByteArray := prog_1_method_36_code
def yX8_loads : MethodName := ⟨RX8, "loads", "(I)I"⟩
abbrev cX8_judge : ByteArray := prog_1_method_37_code
def yX8_judge : MethodName := ⟨RX8, "judge", "(I)I"⟩
abbrev cX8_image : ByteArray := prog_1_method_38_code
def yX8_image : MethodName := ⟨RX8, "image", "()I"⟩
abbrev cX8_restore : ByteArray := prog_1_method_39_code
def yX8_restore : MethodName := ⟨RX8, "restore", "()I"⟩
abbrev cX8_tell : ByteArray := prog_1_method_40_code
def yX8_tell : MethodName := ⟨RX8, "tell", "(I)I"⟩
abbrev cX8_check : ByteArray := prog_1_method_41_code
def yX8_check : MethodName := ⟨RX8, "check", "()I"⟩
abbrev cX8_count : ByteArray := prog_1_method_42_code
def yX8_count : MethodName := ⟨RX8, "count", "(I)I"⟩
abbrev cX8_told : ByteArray := prog_1_method_43_code
def yX8_told : MethodName := ⟨RX8, "told", "(I)I"⟩
abbrev cX8_refuse : ByteArray := prog_1_method_44_code
def yX8_refuse : MethodName := ⟨RX8, "refuse", "(I)I"⟩
abbrev cX8_isWithin : ByteArray := prog_1_method_45_code
def yX8_isWithin : MethodName := ⟨RX8, "isWithin", "(III)Z"⟩
abbrev cX8_isSetOf : ByteArray := prog_1_method_46_code
def yX8_isSetOf : MethodName := ⟨RX8, "isSetOf", "(II)Z"⟩
abbrev cX8_asNumber : ByteArray := prog_1_method_47_code
def yX8_asNumber : MethodName := ⟨RX8, "asNumber", "(Z)I"⟩
abbrev cX8_isUse : ByteArray := prog_1_method_48_code
def yX8_isUse : MethodName := ⟨RX8, "isUse", "(I)Z"⟩
abbrev cX8_isSheet : ByteArray := prog_1_method_49_code
def yX8_isSheet : MethodName := ⟨RX8, "isSheet", "(I)Z"⟩
abbrev cX8_isKindAndNumber : ByteArray := prog_1_method_50_code
def yX8_isKindAndNumber : MethodName := ⟨RX8, "isKindAndNumber", "(I)Z"⟩
abbrev cX8_isPlace : ByteArray := prog_1_method_51_code
def yX8_isPlace : MethodName := ⟨RX8, "isPlace", "(I)Z"⟩
abbrev cX8_isTurner : ByteArray := prog_1_method_52_code
def yX8_isTurner : MethodName := ⟨RX8, "isTurner", "(I)Z"⟩
abbrev cX8_isCrosser : ByteArray := prog_1_method_53_code
def yX8_isCrosser : MethodName := ⟨RX8, "isCrosser", "(I)Z"⟩
abbrev cX8_canBecome : ByteArray := prog_1_method_54_code
def yX8_canBecome : MethodName := ⟨RX8, "canBecome", "(II)Z"⟩
abbrev cX8_thinkOfNow : ByteArray := prog_1_method_55_code
def yX8_thinkOfNow : MethodName := ⟨RX8, "thinkOfNow", "()V"⟩
abbrev cX8_isNorthIfHeWaits : ByteArray := prog_1_method_56_code
def yX8_isNorthIfHeWaits : MethodName := ⟨RX8, "isNorthIfHeWaits", "(II)Z"⟩
abbrev cX8_isRhymeFor : ByteArray := prog_1_method_57_code
def yX8_isRhymeFor : MethodName := ⟨RX8, "isRhymeFor", "(IIII)Z"⟩
abbrev cX8_areNorthIfJustTheyGo : ByteArray := prog_1_method_58_code
def yX8_areNorthIfJustTheyGo : MethodName := ⟨RX8, "areNorthIfJustTheyGo", "(II)Z"⟩
abbrev cX8_wearsAsToldIfJustHeGoes : ByteArray := prog_1_method_59_code
def yX8_wearsAsToldIfJustHeGoes : MethodName := ⟨RX8, "wearsAsToldIfJustHeGoes", "(IILRopeBorder$Sheet;)Z"⟩
abbrev cX8_isNorthFromPlace : ByteArray := prog_1_method_60_code
def yX8_isNorthFromPlace : MethodName := ⟨RX8, "isNorthFromPlace", "(III)Z"⟩
abbrev cX8_greatestShared : ByteArray := prog_1_method_61_code
def yX8_greatestShared : MethodName := ⟨RX8, "greatestShared", "(II)I"⟩
abbrev cX8_drawWhoGoes : ByteArray := prog_1_method_62_code
def yX8_drawWhoGoes : MethodName := ⟨RX8, "drawWhoGoes", "()V"⟩
def RX9 : String := "RopeBorderModel"
def TX9 : u_T := fun k => match k with
  | 0 => ("RopeBorderModel", "row", "[I", true)
  | 1 => ("RopeBorderModel", "kept", "[I", true)
  | 2 => ("RopeBorderModel", "tried", "[I", true)
  | 3 => ("RopeBorderModel", "before", "[I", true)
  | 4 => ("RopeBorderModel", "isKept", "Z", false)
  | 5 => ("RopeBorderModel", "images", "I", false)
  | 6 => ("RopeBorderModel", "found", "[I", true)
  | 7 => ("RopeBorderModel", "use", "I", false)
  | 8 => ("RopeBorderModel", "at", "I", false)
  | 9 => ("RopeBorderModel", "end", "I", false)
  | 10 => ("RopeBorderModel", "open", "I", false)
  | 11 => ("RopeBorderModel", "namedA", "I", false)
  | 12 => ("RopeBorderModel", "namedB", "I", false)
  | 13 => ("RopeBorderModel", "namedC", "I", false)
  | 14 => ("RopeBorderModel", "good", "Z", false)
  | 15 => ("RopeBorderModel", "bitsOf", "[I", true)
  | 16 => ("RopeBorderModel", "sizeOf", "[I", true)
  | 17 => ("RopeBorderModel", "sheets", "[I", true)
  | 18 => ("RopeBorderModel", "moved", "[I", true)
  | 19 => ("RopeBorderModel", "traced", "[I", true)
  | 20 => ("RopeBorderModel", "tracedMany", "I", false)
  | 21 => ("RopeBorderModel", "voiceKind", "I", false)
  | 22 => ("RopeBorderModel", "voiceN", "I", false)
  | _ => ("RopeBorderModel", "voiceM", "I", false)
def tyX9 : Nat → FieldType := fun k => match k with
  | 0 => .array .int
  | 1 => .array .int
  | 2 => .array .int
  | 3 => .array .int
  | 4 => .boolean
  | 5 => .int
  | 6 => .array .int
  | 7 => .int
  | 8 => .int
  | 9 => .int
  | 10 => .int
  | 11 => .int
  | 12 => .int
  | 13 => .int
  | 14 => .boolean
  | 15 => .array .int
  | 16 => .array .int
  | 17 => .array .int
  | 18 => .array .int
  | 19 => .array .int
  | 20 => .int
  | 21 => .int
  | 22 => .int
  | _ => .int
abbrev wsX90 : List Cond := u_ws RX9 TX9 24
theorem nmX9 : ∀ a, a < 24 → ∀ b, b < 24 → a ≠ b → (TX9 a).2.1 ≠ (TX9 b).2.1 := by decide +kernel
theorem tyX9_ok : ∀ k, k < 24 → parseFieldDescriptor (TX9 k).2.2.1 = some (tyX9 k) := by decide +kernel
abbrev cX9_init : ByteArray := prog_11_method_1_code
def yX9_init : MethodName := ⟨RX9, "<init>", "()V"⟩
abbrev cX9_in : ByteArray := prog_11_method_2_code
def yX9_in : MethodName := ⟨RX9, "in", "(III)Z"⟩
abbrev cX9_errs : ByteArray := prog_11_method_3_code
def yX9_errs : MethodName := ⟨RX9, "errs", "(I)I"⟩
abbrev cX9_held : ByteArray := prog_11_method_4_code
def yX9_held : MethodName := ⟨RX9, "held", "(III)I"⟩
abbrev cX9_moveAll : ByteArray := prog_11_method_5_code
def yX9_moveAll : MethodName := ⟨RX9, "moveAll", "([I[I)V"⟩
abbrev cX9_bits : ByteArray := prog_11_method_6_code
def yX9_bits : MethodName := ⟨RX9, "bits", "(I)I"⟩
abbrev cX9_has : ByteArray := prog_11_method_7_code
def yX9_has : MethodName := ⟨RX9, "has", "(II)Z"⟩
abbrev cX9_its : ByteArray := prog_11_method_8_code
def yX9_its : MethodName := ⟨RX9, "its", "(II)I"⟩
abbrev cX9_gets : ByteArray := prog_11_method_9_code
def yX9_gets : MethodName := ⟨RX9, "gets", "(III)V"⟩
abbrev cX9_isPlace : ByteArray := prog_11_method_10_code
def yX9_isPlace : MethodName := ⟨RX9, "isPlace", "(I)Z"⟩
abbrev cX9_isTurner : ByteArray := prog_11_method_11_code
def yX9_isTurner : MethodName := ⟨RX9, "isTurner", "(I)Z"⟩
abbrev cX9_isCrosser : ByteArray := prog_11_method_12_code
def yX9_isCrosser : MethodName := ⟨RX9, "isCrosser", "(I)Z"⟩
abbrev cX9_isSet : ByteArray := prog_11_method_13_code
def yX9_isSet : MethodName := ⟨RX9, "isSet", "(I)Z"⟩
abbrev cX9_becomes : ByteArray := prog_11_method_14_code
def yX9_becomes : MethodName := ⟨RX9, "becomes", "(II)I"⟩
abbrev cX9_rope : ByteArray := prog_11_method_15_code
def yX9_rope : MethodName := ⟨RX9, "rope", "(I)I"⟩
abbrev cX9_rhyme : ByteArray := prog_11_method_16_code
def yX9_rhyme : MethodName := ⟨RX9, "rhyme", "(II)I"⟩
abbrev cX9_turner : ByteArray := prog_11_method_17_code
def yX9_turner : MethodName := ⟨RX9, "turner", "(I)I"⟩
abbrev cX9_ofTurner : ByteArray := prog_11_method_18_code
def yX9_ofTurner : MethodName := ⟨RX9, "ofTurner", "(II)I"⟩
abbrev cX9_relieve : ByteArray := prog_11_method_19_code
def yX9_relieve : MethodName := ⟨RX9, "relieve", "(I)I"⟩
abbrev cX9_crosser : ByteArray := prog_11_method_20_code
def yX9_crosser : MethodName := ⟨RX9, "crosser", "(III)I"⟩
abbrev cX9_ofCrosser : ByteArray := prog_11_method_21_code
def yX9_ofCrosser : MethodName := ⟨RX9, "ofCrosser", "(II)I"⟩
abbrev cX9_change : ByteArray := prog_11_method_22_code
def yX9_change : MethodName := ⟨RX9, "change", "(III)I"⟩
abbrev cX9_become : ByteArray := prog_11_method_23_code
def yX9_become : MethodName := ⟨RX9, "become", "(II)I"⟩
abbrev cX9_above : ByteArray := prog_11_method_24_code
def yX9_above : MethodName := ⟨RX9, "above", "(I)I"⟩
abbrev cX9_as : ByteArray := prog_11_method_25_code
def yX9_as : MethodName := ⟨RX9, "as", "(II)I"⟩
abbrev cX9_go : ByteArray := prog_11_method_26_code
def yX9_go : MethodName := ⟨RX9, "go", "(I)I"⟩
abbrev cX9_splice : ByteArray := prog_11_method_27_code
def yX9_splice : MethodName := ⟨RX9, "splice", "(II)I"⟩
abbrev cX9_byteAt : ByteArray := prog_11_method_28_code
def yX9_byteAt : MethodName := ⟨RX9, "byteAt", "(I)I"⟩
abbrev cX9_isDigit : ByteArray := prog_11_method_29_code
def yX9_isDigit : MethodName := ⟨RX9, "isDigit", "(I)Z"⟩
abbrev cX9_fails : ByteArray := prog_11_method_30_code
def yX9_fails : MethodName := ⟨RX9, "fails", "()I"⟩
abbrev cX9_number : ByteArray := prog_11_method_31_code
def yX9_number : MethodName := ⟨RX9, "number", "()I"⟩
abbrev cX9_named : ByteArray := prog_11_method_32_code
def yX9_named : MethodName := ⟨RX9, "named", "(I)I"⟩
abbrev cX9_factor : ByteArray := prog_11_method_33_code
def yX9_factor : MethodName := ⟨RX9, "factor", "()I"⟩
abbrev cX9_product : ByteArray := prog_11_method_34_code
def yX9_product : MethodName := ⟨RX9, "product", "()I"⟩
abbrev cX9_sum : ByteArray := prog_11_method_35_code
def yX9_sum : MethodName := ⟨RX9, "sum", "()I"⟩
abbrev cX9_compared : ByteArray := prog_11_method_36_code
def yX9_compared : MethodName := ⟨RX9, "compared", "()I"⟩
abbrev cX9_both : ByteArray := prog_11_method_37_code
def yX9_both : MethodName := ⟨RX9, "both", "()I"⟩
abbrev cX9_whole : ByteArray := prog_11_method_38_code
def yX9_whole : MethodName := ⟨RX9, "whole", "()I"⟩
abbrev cX9_walks : ByteArray := prog_11_method_39_code
def yX9_walks : MethodName := ⟨RX9, "walks", "(IIII)I"⟩
abbrev cX9_lawOf : ByteArray := prog_11_method_40_code
def yX9_lawOf : MethodName := ⟨RX9, "lawOf", "(IIII)I"⟩
abbrev cX9_law : ByteArray := prog_11_method_41_code
def yX9_law : MethodName := ⟨RX9, "law", "(IIII)I"⟩
abbrev cX9_feed : ByteArray := prog_11_method_42_code
def yX9_feed : MethodName := ⟨RX9, "feed", "(JI)I"⟩
abbrev cX9_text : ByteArray := prog_11_method_43_code
def yX9_text : MethodName := ⟨RX9, "text", "(I)I"⟩
abbrev cX9_needs : ByteArray := prog_11_method_44_code
def yX9_needs : MethodName := ⟨RX9, "needs", "(I)I"⟩
abbrev cX9_wears : ByteArray := prog_11_method_45_code
def yX9_wears : MethodName := ⟨RX9, "wears", "(I)I"⟩
abbrev cX9_isStanding : ByteArray := prog_11_method_46_code
def yX9_isStanding : MethodName := ⟨RX9, "isStanding", "()Z"⟩
abbrev cX9_isFree : ByteArray := prog_11_method_47_code
def yX9_isFree : MethodName := ⟨RX9, "isFree", "(I)Z"⟩
abbrev cX9_jumpsOrNot : ByteArray := prog_11_method_48_code
def yX9_jumpsOrNot : MethodName := ⟨RX9, "jumpsOrNot", "(II)V"⟩
abbrev cX9_moves : ByteArray := prog_11_method_49_code
def yX9_moves : MethodName := ⟨RX9, "moves", "(I)V"⟩
abbrev cX9_oneBeat : ByteArray := prog_11_method_50_code
def yX9_oneBeat : MethodName := ⟨RX9, "oneBeat", "()V"⟩
abbrev cX9_passes : ByteArray := prog_11_method_51_code
def yX9_passes : MethodName := ⟨RX9, "passes", "(I)V"⟩
abbrev cX9_setOf : ByteArray := prog_11_method_52_code
def yX9_setOf : MethodName := ⟨RX9, "setOf", "(I)I"⟩
abbrev cX9_beats : ByteArray := prog_11_method_53_code
def yX9_beats : MethodName := ⟨RX9, "beats", "(I)I"⟩
abbrev cX9_drawn : ByteArray := prog_11_method_54_code
def yX9_drawn : MethodName := ⟨RX9, "drawn", "()I"⟩
abbrev cX9_loose : ByteArray := prog_11_method_55_code
def yX9_loose : MethodName := ⟨RX9, "loose", "(I)I"⟩
abbrev cX9_wear : ByteArray := prog_11_method_56_code
def yX9_wear : MethodName := ⟨RX9, "wear", "(I)I"⟩
abbrev cX9_then : ByteArray := prog_11_method_57_code
def yX9_then : MethodName := ⟨RX9, "then", "(III)I"⟩
abbrev cX9_over : ByteArray := prog_11_method_58_code
def yX9_over : MethodName := ⟨RX9, "over", "(I)I"⟩
abbrev cX9_begin : ByteArray := prog_11_method_59_code
def yX9_begin : MethodName := ⟨RX9, "begin", "(I)I"⟩
abbrev cX9_northOf : ByteArray := prog_11_method_60_code
def yX9_northOf : MethodName := ⟨RX9, "northOf", "(II)I"⟩
abbrev cX9_rhymes : ByteArray := prog_11_method_61_code
def yX9_rhymes : MethodName := ⟨RX9, "rhymes", "(IIII)I"⟩
abbrev cX9_most : ByteArray := prog_11_method_62_code
def yX9_most : MethodName := ⟨RX9, "most", "(I)I"⟩
abbrev cX9_relief : ByteArray := prog_11_method_63_code
def yX9_relief : MethodName := ⟨RX9, "relief", "()I"⟩
abbrev cX9_stands : ByteArray := prog_11_method_64_code
def yX9_stands : MethodName := ⟨RX9, "stands", "()I"⟩
abbrev cX9_mostWorn : ByteArray := prog_11_method_65_code
def yX9_mostWorn : MethodName := ⟨RX9, "mostWorn", "()I"⟩
abbrev cX9_parts : ByteArray := prog_11_method_66_code
def yX9_parts : MethodName := ⟨RX9, "parts", "(I)I"⟩
abbrev cX9_isSheet : ByteArray := prog_11_method_67_code
def yX9_isSheet : MethodName := ⟨RX9, "isSheet", "(I)Z"⟩
abbrev cX9_who : ByteArray := prog_11_method_68_code
def yX9_who : MethodName := ⟨RX9, "who", "(II)I"⟩
abbrev cX9_divisor : ByteArray := prog_11_method_69_code
def yX9_divisor : MethodName := ⟨RX9, "divisor", "(II)I"⟩
abbrev cX9_odds : ByteArray := prog_11_method_70_code
def yX9_odds : MethodName := ⟨RX9, "odds", "(III)I"⟩
abbrev cX9_seed : ByteArray := prog_11_method_71_code
def yX9_seed : MethodName := ⟨RX9, "seed", "(I)I"⟩
abbrev cX9_ran : ByteArray := prog_11_method_72_code
def yX9_ran : MethodName := ⟨RX9, "ran", "(I)V"⟩
abbrev cX9_countsIn : ByteArray := prog_11_method_73_code
def yX9_countsIn : MethodName := ⟨RX9, "countsIn", "(II)I"⟩
abbrev cX9_tripsIn : ByteArray := prog_11_method_74_code
def yX9_tripsIn : MethodName := ⟨RX9, "tripsIn", "(II)I"⟩
abbrev cX9_jumpsIn : ByteArray := prog_11_method_75_code
def yX9_jumpsIn : MethodName := ⟨RX9, "jumpsIn", "(II)I"⟩
abbrev cX9_runsIn : ByteArray := prog_11_method_76_code
def yX9_runsIn : MethodName := ⟨RX9, "runsIn", "(II)I"⟩
abbrev cX9_voice : ByteArray := prog_11_method_77_code
def yX9_voice : MethodName := ⟨RX9, "voice", "(III)I"⟩
abbrev cX9_trace : ByteArray := prog_11_method_78_code
def yX9_trace : MethodName := ⟨RX9, "trace", "(I)I"⟩
abbrev cX9_narrow : ByteArray := prog_11_method_79_code
def yX9_narrow : MethodName := ⟨RX9, "narrow", "(II)I"⟩
abbrev cX9_sheet : ByteArray := prog_11_method_80_code
def yX9_sheet : MethodName := ⟨RX9, "sheet", "(III)I"⟩
abbrev cX9_put : ByteArray := prog_11_method_81_code
def yX9_put : MethodName := ⟨RX9, "put", "(III)I"⟩
abbrev cX9_move : ByteArray := prog_11_method_82_code
def yX9_move : MethodName := ⟨RX9, "move", "(IIIII)I"⟩
abbrev cX9_loads : ByteArray := prog_11_method_83_code
def yX9_loads : MethodName := ⟨RX9, "loads", "(I)I"⟩
abbrev cX9_judge : ByteArray := prog_11_method_84_code
def yX9_judge : MethodName := ⟨RX9, "judge", "(I)I"⟩
abbrev cX9_image : ByteArray := prog_11_method_85_code
def yX9_image : MethodName := ⟨RX9, "image", "()I"⟩
abbrev cX9_restore : ByteArray := prog_11_method_86_code
def yX9_restore : MethodName := ⟨RX9, "restore", "()I"⟩
abbrev cX9_tell : ByteArray := prog_11_method_87_code
def yX9_tell : MethodName := ⟨RX9, "tell", "(I)I"⟩
abbrev cX9_check : ByteArray := prog_11_method_88_code
def yX9_check : MethodName := ⟨RX9, "check", "()I"⟩
abbrev cX9_count : ByteArray := prog_11_method_89_code
def yX9_count : MethodName := ⟨RX9, "count", "(I)I"⟩
abbrev cX9_told : ByteArray := prog_11_method_90_code
def yX9_told : MethodName := ⟨RX9, "told", "(I)I"⟩
def RJ11 : String := "java/lang/Character"
abbrev cJ11_isValidCodePoint_9a6ad : ByteArray := prog_12_method_11_code
def yJ11_isValidCodePoint_9a6ad : MethodName := ⟨RJ11, "isValidCodePoint", "(I)Z"⟩
abbrev cJ11_highSurrogate_5068e : ByteArray := prog_12_method_28_code
def yJ11_highSurrogate_5068e : MethodName := ⟨RJ11, "highSurrogate", "(I)C"⟩
abbrev cJ11_lowSurrogate_5068e : ByteArray := prog_12_method_29_code
def yJ11_lowSurrogate_5068e : MethodName := ⟨RJ11, "lowSurrogate", "(I)C"⟩
def RJ6 : String := "java/lang/Integer"
abbrev cJ6_bitCount_0f7a4 : ByteArray := prog_13_method_49_code
def yJ6_bitCount_0f7a4 : MethodName := ⟨RJ6, "bitCount", "(I)I"⟩
def RJ9 : String := "java/lang/Math"
abbrev cJ9_max_7cf53 : ByteArray := prog_14_method_65_code
def yJ9_max_7cf53 : MethodName := ⟨RJ9, "max", "(II)I"⟩
abbrev cJ9_min_7cf53 : ByteArray := prog_14_method_69_code
def yJ9_min_7cf53 : MethodName := ⟨RJ9, "min", "(II)I"⟩
def RJ0 : String := "java/lang/String"
abbrev cJ0_length_8abf5 : ByteArray := prog_15_method_54_code
def yJ0_length_8abf5 : MethodName := ⟨RJ0, "length", "()I"⟩
abbrev cJ0_indexOf_0f7a4 : ByteArray := prog_15_method_79_code
def yJ0_indexOf_0f7a4 : MethodName := ⟨RJ0, "indexOf", "(I)I"⟩
abbrev cJ0_indexOf_7cf53 : ByteArray := prog_15_method_80_code
def yJ0_indexOf_7cf53 : MethodName := ⟨RJ0, "indexOf", "(II)I"⟩
abbrev cJ0_coder_7d493 : ByteArray := prog_15_method_152_code
def yJ0_coder_7d493 : MethodName := ⟨RJ0, "coder", "()B"⟩
abbrev cJ0_isLatin1_aae02 : ByteArray := prog_15_method_154_code
def yJ0_isLatin1_aae02 : MethodName := ⟨RJ0, "isLatin1", "()Z"⟩
abbrev cJ0_checkBoundsBeginEnd_23922 : ByteArray := prog_15_method_158_code
def yJ0_checkBoundsBeginEnd_23922 : MethodName := ⟨RJ0, "checkBoundsBeginEnd", "(III)V"⟩
def RJ1 : String := "java/lang/StringLatin1"
abbrev cJ1_canEncode_9a6ad : ByteArray := prog_16_method_4_code
def yJ1_canEncode_9a6ad : MethodName := ⟨RJ1, "canEncode", "(I)Z"⟩
abbrev cJ1_indexOf_4cfef : ByteArray := prog_16_method_22_code
def yJ1_indexOf_4cfef : MethodName := ⟨RJ1, "indexOf", "([BIII)I"⟩
abbrev cJ1_indexOfChar_4cfef : ByteArray := prog_16_method_23_code
def yJ1_indexOfChar_4cfef : MethodName := ⟨RJ1, "indexOfChar", "([BIII)I"⟩
def RJ2 : String := "java/lang/StringUTF16"
abbrev cJ2_getChar_3b067 : ByteArray := prog_17_method_5_code
def yJ2_getChar_3b067 : MethodName := ⟨RJ2, "getChar", "([BI)C"⟩
abbrev cJ2_length_9d52b : ByteArray := prog_17_method_6_code
def yJ2_length_9d52b : MethodName := ⟨RJ2, "length", "([B)I"⟩
abbrev cJ2_indexOf_4cfef : ByteArray := prog_17_method_40_code
def yJ2_indexOf_4cfef : MethodName := ⟨RJ2, "indexOf", "([BIII)I"⟩
abbrev cJ2_indexOfChar_4cfef : ByteArray := prog_17_method_47_code
def yJ2_indexOfChar_4cfef : MethodName := ⟨RJ2, "indexOfChar", "([BIII)I"⟩
abbrev cJ2_indexOfCharUnsafe_4cfef : ByteArray := prog_17_method_48_code
def yJ2_indexOfCharUnsafe_4cfef : MethodName := ⟨RJ2, "indexOfCharUnsafe", "([BIII)I"⟩
abbrev cJ2_indexOfSupplementary_4cfef : ByteArray := prog_17_method_49_code
def yJ2_indexOfSupplementary_4cfef : MethodName := ⟨RJ2, "indexOfSupplementary", "([BIII)I"⟩
abbrev cJ2_checkBoundsBeginEnd_d044e : ByteArray := prog_17_method_93_code
def yJ2_checkBoundsBeginEnd_d044e : MethodName := ⟨RJ2, "checkBoundsBeginEnd", "(II[B)V"⟩
def RJ10 : String := "java/lang/System"
def RJ3 : String := "jdk/internal/util/Preconditions"
abbrev cJ3_checkFromToIndex_8c36e : ByteArray := prog_19_method_12_code
def yJ3_checkFromToIndex_8c36e : MethodName := ⟨RJ3, "checkFromToIndex", "(IIILjava/util/function/BiFunction;)I"⟩
abbrev cL_law : ByteArray := code
abbrev vwCl : List vw_C := [(RX0, TX0, 13), (RX1, TX1, 7), (RX2, TX2, 8), (RX3, TX3, 5), (RX4, TX4, 6), (RX5, TX5, 3), (RX6, TX6, 2), (RX7, TX7, 5), (RX8, TX8, 8), (RX9, TX9, 24)]
end
section
/-! THE COMPACT WALK. A memory is (shapes, pointers, numbers): cell k is an object of class q.1 (q.1 < 100), an int array (100) or an array of references (101 + class), of q.2 places; cells are numbered in the order in which they are made. References above 999 are cells that were there before (the script, static arrays, two Strings). -/
abbrev kM : Type := List (Nat × Nat) × (Nat → Nat → Option Nat) × (Nat → Nat → Int32)
abbrev kE : Type := Nat × (Nat → ClassId) × (Nat → Nat → Nat) × (Nat → ClassId) × (Nat → Nat) × Nat × (Nat → Int32)
abbrev kY : Type := MethodName × ByteArray × Nat × Option FieldType
def kad (E : kE) (k : Nat) : Nat := if k < 1000 then E.1 + k else E.2.2.2.2.1 (k - 1000)
def kcv (E : kE) (v : Value) : Value := match v with
  | .ref k => .ref (kad E k)
  | .int a => .int a
  | .long a => .long a
  | .float a => .float a
  | .double a => .double a
  | .null => .null
  | .retAddr a => .retAddr a
theorem kcv_cat (E : kE) (v : Value) : (kcv E v).category = v.category := by cases v <;> rfl
theorem kcv_sum (E : kE) : ∀ st : List Value, ((st.map (kcv E)).map fun v => v.category).sum = (st.map fun v => v.category).sum
  | [] => rfl
  | v :: st => by simp only [List.map_cons, List.sum_cons, kcv_cat, kcv_sum E st]
def kfkT : List (List Nat) := [[2,2,2,2,2,0,0,0,0,0,0,0,0],[0,0,0,0,0,0,0],[2,2,2,2,2,0,0,0],[2,2,0,0,0],[2,2,0,0,0,3],[2,0,0],[0,0],[2,0,0,0,0],[2,2,2,2,2,2,2,0],[2,2,2,2,1,0,2,0,0,0,0,0,0,0,1,2,2,2,2,2,0,0,0,0]]
def kfk (c j : Nat) : Nat := (kfkT.getD c []).getD j 0
def kfv (E : kE) (kd : Nat) (p : Option Nat) (i : Int32) : Value := if kd < 2 then .int i else if kd = 2 then va_rf (p.map (kad E)) else if i = 1 then .ref (kad E 1005) else if i = 2 then .ref (kad E 1006) else .null
def kA (E : kE) : Nat → Prop := fun q => E.1 ≤ q
def kco (E : kE) (H : Heap) (a kd n : Nat) (p : Nat → Option Nat) (i : Nat → Int32) : Prop :=
  if kd < 100 then ∃ r : vw_C, vwCl[kd]? = some r ∧ t_OB a (E.2.1 kd) r.2.2 (E.2.2.1 kd) H (fun j => kfv E (kfk kd j) (p j) (i j))
  else if kd = 100 then H[a]? = some (arrV (E.2.2.2.1 100) n (fun j => .int (i j)))
  else H[a]? = some (arrV (E.2.2.2.1 kd) n (fun j => va_rf ((p j).map (kad E))))
def khr (E : kE) (M : kM) (H : Heap) : Prop := H.size = E.1 + M.1.length ∧ M.1.length ≤ 1000 ∧ ∀ (k : Nat) (q : Nat × Nat), M.1[k]? = some q → kco E H (E.1 + k) q.1 q.2 (M.2.1 k) (M.2.2 k)
def kxt (E : kE) (k : Nat) : Nat × (Nat → Int32) :=
  if k = 1000 then E.2.2.2.2.2
  else if k = 1001 then (7, fun j => ([-1, 0, 0, 0, 1, 2, 3] : List Int32).getD j 0)
  else if k = 1002 then (5, fun j => ([1, -2, 20, -47, -43] : List Int32).getD j 0)
  else if k = 1003 then (7, fun j => ([-2, 100, -1, 1, -43, -42, -60] : List Int32).getD j 0)
  else (28, fun j => ([10, 11, 12, 13, 20, 0, 0, 0, 0, 30, 0, 0, 0, 0, 40, 0, 0, 0, 0, 50, 0, 60, 0, 0, 0, 0, 70, 71] : List Int32).getD j 0)
def kOA : List (Nat × String) := [(107, "RopeBorder$Turner"), (102, "RopeBorder$Crosser"), (106, "RopeBorder$Sheet")]
def kStat : List (String × String × Nat) := [("RopeBorder", "KIND_ABOVE", 1001), ("RopeBorder$Law", "JUMPS_UNWRITTEN", 1002), ("RopeBorder$Law", "JUMPED_UNWRITTEN", 1003), ("RopeBorder$Voices", "BODIES", 1004)]
def kNestM : List (String × Nat × MethodName) := [("RopeBorder", 9, ⟨"RopeBorder$Kept", "<init>", "()V"⟩), ("RopeBorder$Border", 44, ⟨"RopeBorder$Turner", "<init>", "()V"⟩), ("RopeBorder$Border", 45, ⟨"RopeBorder$Crosser", "<init>", "()V"⟩), ("RopeBorder", 50, ⟨"RopeBorder$Voices", "<init>", "()V"⟩), ("RopeBorder", 64, ⟨"RopeBorder$Sheet", "<init>", "()V"⟩)]
def kNestF : List (String × Nat) := [("RopeBorder$Crosser", 33), ("RopeBorder$Voices", 32)]
/-- what holds around: the tables' classes, and the cells that were there before -/
def kAmb (E : kE) (U : State) (H : Heap) : Prop :=
  (∀ (c : Nat) (q : vw_C), vwCl[c]? = some q → u_Kn U q.1 q.2.1 q.2.2 (E.2.1 c) (E.2.2.1 c)) ∧
  (ArrOfT U (E.2.2.2.1 100) .int ∧ va_RA U (E.2.2.2.1 100) .int) ∧
  (∀ q ∈ kOA, ArrOfT U (E.2.2.2.1 q.1) (.object q.2) ∧ va_RA U (E.2.2.2.1 q.1) (.object q.2) ∧ va_AO q.2 U) ∧
  (∀ q ∈ kNestM, va_Nw (.methodLinkNest q.1 q.2.1 q.2.2 "RopeBorder") U) ∧
  (∀ q ∈ kNestF, va_Nw (.fieldLinkNest q.1 q.2 "RopeBorder" "KIND_ABOVE" "[I" "RopeBorder") U) ∧
  (∀ q ∈ kStat, va_Z q.1 q.2.1 "[I" (.ref (kad E q.2.2)) (kA E) U H) ∧
  (∀ k : Nat, 1000 ≤ k → k ≤ 1004 → va_T .int (kad E k) (kxt E k).1 (fun j => .int ((kxt E k).2 j)) (kA E) U H) ∧
  vk_S 2 [3, 3] [[107, 108, 112], [107, 119, 98]] (fun i => kad E (1005 + i)) (fun i => kad E (1007 + i)) (kA E) U H ∧
  vk_R "RopeBorder$Reader" 15 "klp" (kad E 1005) U ∧ vk_R "RopeBorder$Reader" 24 "kwb" (kad E 1006) U ∧
  va_Z "java/lang/String" "COMPACT_STRINGS" "Z" (.int 1) (kA E) U H
theorem kAmb.kept {E : kE} {U : State} {H H1 : Heap} (h : kAmb E U H) (hq : ∀ a : Nat, a < H.size → ¬ kA E a → H1[a]? = H[a]?) : kAmb E U H1 := by
  obtain ⟨h1, h2, h3, h4, h5, h6, h7, h8, h9, h10, h11⟩ := h
  exact ⟨h1, h2, h3, h4, h5, fun q hm => (h6 q hm).kept hq, fun k a b => (h7 k a b).kept hq, h8.kept hq, h9, h10, h11.kept hq⟩
theorem kAmb.warm {E : kE} {s U : State} {H : Heap} (hW : s.WarmedH U.vm) (h : kAmb E s H) : kAmb E U H := by
  obtain ⟨h1, h2, h3, h4, h5, h6, h7, h8, h9, h10, h11⟩ := h
  have ha := hW.alike
  exact ⟨fun c q hq => u_Kn_moved ha (h1 c q hq), ⟨arrOfT_moved ha h2.1, h2.2.moved ha⟩, fun q hm => ⟨arrOfT_moved ha (h3 q hm).1, (h3 q hm).2.1.moved ha, (h3 q hm).2.2.moved ha⟩, fun q hm => va_Nw.warmM hW (h4 q hm), fun q hm => va_Nw.warmF hW (h5 q hm), fun q hm => (h6 q hm).moved ha, fun k a b => (h7 k a b).moved ha, h8.moved ha, h9.warm hW, h10.warm hW, h11.moved ha⟩
theorem kAmb.same {E : kE} {s U : State} {H : Heap} (hv : s.vm = U.vm) (h : kAmb E s H) : kAmb E U H := by
  obtain ⟨h1, h2, h3, h4, h5, h6, h7, h8, h9, h10, h11⟩ := h
  have ha : s.vm.Alike U.vm := hv ▸ Vm.Alike.refl s.vm
  exact ⟨fun c q hq => u_Kn_moved ha (h1 c q hq), ⟨arrOfT_moved ha h2.1, h2.2.moved ha⟩, fun q hm => ⟨arrOfT_moved ha (h3 q hm).1, (h3 q hm).2.1.moved ha, (h3 q hm).2.2.moved ha⟩, fun q hm => va_Nw.same rfl hv (h4 q hm), fun q hm => va_Nw.same rfl hv (h5 q hm), fun q hm => (h6 q hm).moved ha, fun k a b => (h7 k a b).moved ha, h8.moved ha, h9.same hv.symm, h10.same hv.symm, h11.moved ha⟩
/-- the words that every method carries -/
def kG : List Cond := lw_tbl.filter goodWord
theorem kG_of {w : Cond} (h : w ∈ lw_tbl) (hg : goodWord w = true) : w ∈ kG := List.mem_filter.mpr ⟨h, hg⟩
theorem kG_lw {args : Array Value} {s : State} (h : ∀ w ∈ lw_tbl, w.before args s = true) : ∀ w ∈ kG, w.before args s = true := fun w hw => h w (List.mem_filter.mp hw).1
theorem kG_good {big : List Cond} (h : ∀ w ∈ kG, w ∈ big) {y : Cond} (hy : y ∈ kG) : GoodIn big (y :: kG) := by
  intro w hw
  have hm : w ∈ kG := by
    rcases List.mem_cons.mp hw with rfl | h1
    · exact hy
    · exact h1
  exact ⟨h w hm, good_of_word (List.mem_filter.mp hm).2⟩
def klr (E : kE) (ls : Array Slot) (n : Nat) (L : List (Option Value)) : Prop := ls.size = n ∧ lv_wf ls ∧ ∀ (i : Nat) (v : Value), L[i]? = some (some v) → ls[i]? = some (.val (kcv E v))
def kpl (E : kE) (L : List (Option Value)) : List (Nat × Value) := (List.range L.length).filterMap fun i => match L[i]? with
  | some (some v) => some (i, kcv E v)
  | _ => none
theorem kpl_mem {E : kE} {L : List (Option Value)} {i : Nat} {v : Value} (h : L[i]? = some (some v)) : (i, kcv E v) ∈ kpl E L := by
  refine List.mem_filterMap.mpr ⟨i, List.mem_range.mpr (List.getElem?_eq_some_iff.mp h).1, ?_⟩
  simp only [h]
theorem klr.has {E : kE} {ls : Array Slot} {n : Nat} {L : List (Option Value)} (h : klr E ls n L) : lv_has ls n (kpl E L) := by
  refine ⟨h.1, h.2.1, fun q hq => ?_⟩
  obtain ⟨i, -, hi⟩ := List.mem_filterMap.mp hq
  split at hi
  · rename_i v hv
    cases hi
    exact h.2.2 _ _ hv
  · cases hi
def kno (v : Option Value) : Prop := match v with
  | some (.long _) => False
  | some (.double _) => False
  | _ => True
theorem kno_cat {v : Value} (h : kno (some v)) : v.category = 1 := by cases v <;> first | rfl | exact absurd h id
theorem klr.store {E : kE} {ls : Array Slot} {n i : Nat} {v : Value} {L : List (Option Value)} (hi : ∀ w, L[i - 1]? = some w → kno w ∨ i = 0)
    (h : lv_has ls n ((i, kcv E v) :: (kpl E L).filter (fun q => !(q.1 == i) && !(q.1 + 1 == i && q.2.category == 2)))) (hl : i < L.length) : klr E ls n (L.set i (some v)) := by
  refine ⟨h.1, h.2.1, fun j w hj => ?_⟩
  by_cases hji : j = i
  · subst hji
    rw [List.getElem?_set_self hl] at hj
    cases hj
    exact h.2.2 _ List.mem_cons_self
  · rw [List.getElem?_set_ne (fun e => hji e.symm)] at hj
    refine h.2.2 (j, kcv E w) (List.mem_cons_of_mem _ (List.mem_filter.mpr ⟨kpl_mem hj, ?_⟩))
    simp only [Bool.and_eq_true, Bool.not_eq_true', beq_eq_false_iff_ne, ne_eq, Bool.and_eq_false_iff]
    refine ⟨hji, ?_⟩
    by_cases h1 : j + 1 = i
    · refine Or.inr ?_
      have : i - 1 = j := by omega
      rcases hi (some w) (by rw [this]; exact hj) with hk | h0
      · rw [kcv_cat, kno_cat hk]; decide
      · omega
    · exact Or.inl h1
def kent : List Value → List (Option Value)
  | [] => []
  | v :: r => if v.category = 2 then some v :: none :: kent r else some v :: kent r
theorem kent_args (E : kE) : ∀ (as : List Value) (i0 i : Nat) (v : Value), (kent as)[i]? = some (some v) → (i0 + i, kcv E v) ∈ lv_args i0 (as.map (kcv E))
  | [], i0, i, v, h => by simp [kent] at h
  | a :: r, i0, i, v, h => by
    simp only [List.map_cons, lv_args, kcv_cat]
    unfold kent at h
    by_cases hc : a.category = 2
    · rw [if_pos hc] at h
      rw [if_pos hc]
      match i, h with
      | 0, h => cases h; exact List.mem_cons_self
      | 1, h => cases h
      | i + 2, h =>
        have h2 := kent_args E r (i0 + 2) i v h
        rw [show i0 + (i + 2) = i0 + 2 + i by omega]
        exact List.mem_cons_of_mem _ h2
    · rw [if_neg hc] at h
      rw [if_neg hc]
      match i, h with
      | 0, h => cases h; exact List.mem_cons_self
      | i + 1, h =>
        have h2 := kent_args E r (i0 + 1) i v h
        rw [show i0 + (i + 1) = i0 + 1 + i by omega]
        exact List.mem_cons_of_mem _ h2
theorem kent_len (E : kE) : ∀ as : List Value, (lg_sl (as.map (kcv E))).length = (kent as).length
  | [] => rfl
  | a :: r => by
    have ih := kent_len E r
    unfold lg_sl at ih ⊢
    have e : kent (a :: r) = if a.category = 2 then some a :: none :: kent r else some a :: kent r := rfl
    rw [e]
    simp only [List.map_cons, List.flatMap_cons, List.length_append, kcv_cat, ih]
    by_cases hc : a.category = 2
    · rw [if_pos hc, if_pos hc]; simp; omega
    · rw [if_neg hc, if_neg hc]; simp; omega
/-- how a method ends: a return that fits its type -/
def kret (y : kY) (v : Option Value) (pc : Nat) : Prop :=
  (v = none ∧ y.2.2.2 = none ∧ decode y.2.1 pc = .ok (.return_, 1)) ∨
  (∃ (x : Int32) (ty : FieldType), v = some (.int x) ∧ y.2.2.2 = some ty ∧ narrow ty (.int x) = .int x ∧ decode y.2.1 pc = .ok (.ireturn, 1)) ∨
  (∃ (k : Nat) (n : String), v = some (.ref k) ∧ y.2.2.2 = some (.object n) ∧ decode y.2.1 pc = .ok (.areturn, 1))
def kCx (E : kE) (d : Nat) (y : kY) (mc ms : Nat) (p : Program) (R : Room) (s : State) (m : MethodId) (args : Array Value) (meth : Method) (c : Code) : Prop :=
  p.tables.exec = Jvm.exec ∧ c.code = y.2.1 ∧ c.maxLocals = y.2.2.1 ∧ meth.sig.returnType = y.2.2.2 ∧ meth.locks = false ∧ meth.name = y.1.name ∧ s.vm.findClass y.1.cls = some m.cls ∧ (∀ w ∈ kG, w.before args s = true) ∧ kAmb E s s.heap ∧ (d + 1 ≤ R.frames ∧ (d + 1) * 40 ≤ R.locals ∧ mc ≤ R.cells ∧ ms ≤ R.slots) ∧ E.1 ≤ s.heap.size
/-- THE COMPACT WALK: from any machine whose frame, heap and tables are as told, the method comes to a return with Q; where a return with Q suffices for Z, Z is come to -/
def Wd (E : kE) (d : Nat) (y : kY) (cl sl mc ms pc : Nat) (L : List (Option Value)) (st : List Value) (M : kM) (Q : Option Value → kM → Prop) : Prop :=
  ∀ (p : Program) (l : Launch) (e : Env) (R : Room) (s : State) (m : MethodId) (args : Array Value) (below : List Frame) (meth : Method) (c : Code) (H : Heap) (locs : List Loc) (ls : Array Slot) (Z : State → Prop),
    kCx E d y mc ms p R s m args meth c →
    (∀ (v : Option Value) (M' : kM) (H' : Heap) (locs' : List Loc) (ls' : Array Slot) (pc' : Nat), Q v M' → khr E M' H' → va_S (kA E) s.heap H' locs' → kret y v pc' → W p l e R s m args below meth c H' locs' mc ms Z (F0 m pc' ls' ((v.map (kcv E)).toList))) →
    khr E M H → va_S (kA E) s.heap H locs → klr E ls y.2.2.1 L →
    W p l e R s m args below meth c H locs cl sl Z (F0 m pc ls (st.map (kcv E)))
def kRm (d mc ms : Nat) : Room := { frames := d + 1, cells := mc, slots := ms, locals := (d + 1) * 40 }
def kPc (E : kE) (as : List Value) (M : kM) : Array Value → State → Prop := fun v U => v = (as.map (kcv E)).toArray ∧ kAmb E U U.heap ∧ E.1 ≤ U.heap.size ∧ khr E M U.heap
def kQc (E : kE) (Q : Option Value → kM → Prop) : Array Value → State → Outcome → State → Prop := fun _ st o t => ∃ (v : Option Value) (M' : kM), o = .returned (v.map (kcv E)) ∧ Q v M' ∧ khr E M' t.heap ∧ va_F (kA E) st t
/-- A CONTRACT: y, called with as at the memory M, returns, with Q -/
def Ct (E : kE) (d : Nat) (y : kY) (mc ms : Nat) (as : List Value) (M : kM) (Q : Option Value → kM → Prop) : Prop :=
  ∀ l : Launch, Met l y.1 (.code y.1 y.2.1 y.2.2.1 y.2.2.2 :: kG) (kRm d mc ms) (kPc E as M) (kQc E Q) mc ms (kA E)
theorem kPc.blind (E : kE) (as : List Value) (M : kM) : FrameBlind (kPc E as M) := fun a U g mk h => ⟨h.1, kAmb.same (U := U.calling g mk a) rfl h.2.1, h.2.2⟩
theorem kfree {E : kE} {H0 H : Heap} {locs : List Loc} (hS : va_S (kA E) H0 H locs) : ∀ q ∈ locs, kA E q.base := fun q hq => hS.2.2 q hq
theorem Ct.of {E : kE} {d : Nat} {y : kY} {mc ms : Nat} {as : List Value} {M : kM} {Q : Option Value → kM → Prop} {L : List (Option Value)} (hy : plainName y.1.cls = true) (hL : kent as ++ List.replicate (y.2.2.1 - (kent as).length) none = L) (hn : (kent as).length ≤ y.2.2.1) (h : Wd E d y 0 0 mc ms 0 L [] M Q) : Ct E d y mc ms as M Q := by
  intro l
  refine Met.ofW (cc := y.2.1) (maxL := y.2.2.1) (ret := y.2.2.2) hy rfl ?_
  intro p e s m args below meth c s₁ B hml hv
  obtain ⟨rfl, hA, hsz, hH⟩ := hv
  have hts := atoms_spec (ws := .code y.1 y.2.1 y.2.2.1 y.2.2.2 :: kG) B.pre
  have hlocks := B.notSynchronized
  rw [lg_entry_eq]
  have hR : (headSpec (.code y.1 y.2.1 y.2.2.1 y.2.2.2 :: kG) (kRm d mc ms)).room = kRm d mc ms := rfl
  refine h p l e _ s m _ below meth c s.heap [] _ _ ⟨B.exec, B.bytes, hml, B.returns, hlocks, (name_of_methodNamed B.named B.method).1, findClass_of_methodNamed B.named, fun w hw => hts w (List.mem_cons_of_mem _ hw), hA, ⟨Nat.le_refl _, Nat.le_refl _, Nat.le_refl _, Nat.le_refl _⟩, hsz⟩ ?_ hH va_S.rf ?_
  · intro v M' H' locs' ls' pc' hQ hr hS hk
    rcases hk with ⟨rfl, h1, h2⟩ | ⟨x, ty, rfl, h1, h2, h3⟩ | ⟨k, n, rfl, h1, h2⟩
    · exact W.vret B.exec B.bytes (by rw [B.returns]; exact h1) (fun t ht _ => ⟨none, M', rfl, hQ, by rw [ht]; exact hr, hS.F ht⟩) (kfree hS) h2
    · exact W.zret (ty := ty) B.exec B.bytes (by rw [B.returns]; exact h1) h2 (fun t ht _ => ⟨some (.int x), M', rfl, hQ, by rw [ht]; exact hr, hS.F ht⟩) (kfree hS) h3
    · exact W.aret (rt := .object n) B.exec B.bytes (by rw [B.returns]; exact h1) (Or.inl ⟨n, rfl⟩) (Or.inr ⟨_, rfl⟩) (fun t ht _ => ⟨some (.ref k), M', rfl, hQ, by rw [ht]; exact hr, hS.F ht⟩) (kfree hS) h2
  · have he := lv_entry (as.map (kcv E)) (n := y.2.2.1) (by rw [kent_len]; exact hn)
    refine ⟨he.1, he.2.1, fun i v hi => ?_⟩
    have h1 : (kent as)[i]? = some (some v) := by
      rw [← hL] at hi
      by_cases hlt : i < (kent as).length
      · rwa [List.getElem?_append_left hlt] at hi
      · rw [List.getElem?_append_right (by omega)] at hi
        have h3 := List.mem_of_getElem? hi
        have h4 := List.eq_of_mem_replicate h3
        cases h4
    have h2 := kent_args E as 0 i v h1
    rw [Nat.zero_add] at h2
    exact he.2.2 _ h2
section KR
variable {E : kE} {d : Nat} {y : kY} {cl sl mc ms pc n : Nat} {L : List (Option Value)} {st : List Value} {M : kM} {Q : Option Value → kM → Prop}
/-- the return -/
theorem k_ret {v : Option Value} (hr : kret y v pc) (hq : Q v M) (h1 : cl ≤ mc) (h2 : sl ≤ ms) : Wd E d y cl sl mc ms pc L v.toList M Q := by
  intro p l e R s m args below meth c H locs ls Z hC hx hH hS hl
  refine W.widen h1 h2 ?_
  have := hx v M H locs ls pc hq hH hS hr
  cases v <;> exact this
theorem k_ireturn {a : Int32} {ty : FieldType} (hd : decode y.2.1 pc = .ok (.ireturn, 1)) (hty : y.2.2.2 = some ty) (hn : narrow ty (.int a) = .int a) (h1 : cl ≤ mc) (h2 : sl ≤ ms) (hq : Q (some (.int a)) M) : Wd E d y cl sl mc ms pc L [.int a] M Q := k_ret (v := some (.int a)) (Or.inr (Or.inl ⟨a, ty, rfl, hty, hn, hd⟩)) hq h1 h2
theorem k_return (hd : decode y.2.1 pc = .ok (.return_, 1)) (hty : y.2.2.2 = none) (h1 : cl ≤ mc) (h2 : sl ≤ ms) (hq : Q none M) : Wd E d y cl sl mc ms pc L [] M Q := k_ret (v := none) (Or.inl ⟨rfl, hty, hd⟩) hq h1 h2
theorem k_areturn {a : Nat} {nm : String} (hd : decode y.2.1 pc = .ok (.areturn, 1)) (hty : y.2.2.2 = some (.object nm)) (h1 : cl ≤ mc) (h2 : sl ≤ ms) (hq : Q (some (.ref a)) M) : Wd E d y cl sl mc ms pc L [.ref a] M Q := k_ret (v := some (.ref a)) (Or.inr (Or.inr ⟨a, nm, rfl, hty, hd⟩)) hq h1 h2
theorem k_iadd {a b : Int32} (hd : decode y.2.1 pc = .ok (.iadd, 1)) (hn : pc + 1 = n)  (k : Wd E d y cl sl mc ms n L (.int (a + b) :: st) M Q) : Wd E d y cl sl mc ms pc L (.int b :: .int a :: st) M Q := by
  intro p l e R s m args below meth c H locs ls Z hC hx hH hS hl
  subst hn
  exact lv_iadd hC.1 hC.2.1 hd  (k p l e R s m args below meth c H locs ls Z hC hx hH hS hl)
theorem k_isub {a b : Int32} (hd : decode y.2.1 pc = .ok (.isub, 1)) (hn : pc + 1 = n)  (k : Wd E d y cl sl mc ms n L (.int (a - b) :: st) M Q) : Wd E d y cl sl mc ms pc L (.int b :: .int a :: st) M Q := by
  intro p l e R s m args below meth c H locs ls Z hC hx hH hS hl
  subst hn
  exact lv_isub hC.1 hC.2.1 hd  (k p l e R s m args below meth c H locs ls Z hC hx hH hS hl)
theorem k_imul {a b : Int32} (hd : decode y.2.1 pc = .ok (.imul, 1)) (hn : pc + 1 = n)  (k : Wd E d y cl sl mc ms n L (.int (a * b) :: st) M Q) : Wd E d y cl sl mc ms pc L (.int b :: .int a :: st) M Q := by
  intro p l e R s m args below meth c H locs ls Z hC hx hH hS hl
  subst hn
  exact lv_imul hC.1 hC.2.1 hd  (k p l e R s m args below meth c H locs ls Z hC hx hH hS hl)
theorem k_iand {a b : Int32} (hd : decode y.2.1 pc = .ok (.iand, 1)) (hn : pc + 1 = n)  (k : Wd E d y cl sl mc ms n L (.int (a &&& b) :: st) M Q) : Wd E d y cl sl mc ms pc L (.int b :: .int a :: st) M Q := by
  intro p l e R s m args below meth c H locs ls Z hC hx hH hS hl
  subst hn
  exact lv_iand hC.1 hC.2.1 hd  (k p l e R s m args below meth c H locs ls Z hC hx hH hS hl)
theorem k_ior {a b : Int32} (hd : decode y.2.1 pc = .ok (.ior, 1)) (hn : pc + 1 = n)  (k : Wd E d y cl sl mc ms n L (.int (a ||| b) :: st) M Q) : Wd E d y cl sl mc ms pc L (.int b :: .int a :: st) M Q := by
  intro p l e R s m args below meth c H locs ls Z hC hx hH hS hl
  subst hn
  exact lv_ior hC.1 hC.2.1 hd  (k p l e R s m args below meth c H locs ls Z hC hx hH hS hl)
theorem k_ixor {a b : Int32} (hd : decode y.2.1 pc = .ok (.ixor, 1)) (hn : pc + 1 = n)  (k : Wd E d y cl sl mc ms n L (.int (a ^^^ b) :: st) M Q) : Wd E d y cl sl mc ms pc L (.int b :: .int a :: st) M Q := by
  intro p l e R s m args below meth c H locs ls Z hC hx hH hS hl
  subst hn
  exact lv_ixor hC.1 hC.2.1 hd  (k p l e R s m args below meth c H locs ls Z hC hx hH hS hl)
theorem k_ishl {a b : Int32} (hd : decode y.2.1 pc = .ok (.ishl, 1)) (hn : pc + 1 = n)  (k : Wd E d y cl sl mc ms n L (.int (a <<< (b &&& 31)) :: st) M Q) : Wd E d y cl sl mc ms pc L (.int b :: .int a :: st) M Q := by
  intro p l e R s m args below meth c H locs ls Z hC hx hH hS hl
  subst hn
  exact lv_ishl hC.1 hC.2.1 hd  (k p l e R s m args below meth c H locs ls Z hC hx hH hS hl)
theorem k_ishr {a b : Int32} (hd : decode y.2.1 pc = .ok (.ishr, 1)) (hn : pc + 1 = n)  (k : Wd E d y cl sl mc ms n L (.int (a >>> (b &&& 31)) :: st) M Q) : Wd E d y cl sl mc ms pc L (.int b :: .int a :: st) M Q := by
  intro p l e R s m args below meth c H locs ls Z hC hx hH hS hl
  subst hn
  exact lv_ishr hC.1 hC.2.1 hd  (k p l e R s m args below meth c H locs ls Z hC hx hH hS hl)
theorem k_idiv {a b : Int32} (hd : decode y.2.1 pc = .ok (.idiv, 1)) (hn : pc + 1 = n) (h0 : ¬ b = 0) (k : Wd E d y cl sl mc ms n L (.int (a / b) :: st) M Q) : Wd E d y cl sl mc ms pc L (.int b :: .int a :: st) M Q := by
  intro p l e R s m args below meth c H locs ls Z hC hx hH hS hl
  subst hn
  exact lv_idiv hC.1 hC.2.1 hd h0 (k p l e R s m args below meth c H locs ls Z hC hx hH hS hl)
theorem k_irem {a b : Int32} (hd : decode y.2.1 pc = .ok (.irem, 1)) (hn : pc + 1 = n) (h0 : ¬ b = 0) (k : Wd E d y cl sl mc ms n L (.int (a - a / b * b) :: st) M Q) : Wd E d y cl sl mc ms pc L (.int b :: .int a :: st) M Q := by
  intro p l e R s m args below meth c H locs ls Z hC hx hH hS hl
  subst hn
  exact lv_irem hC.1 hC.2.1 hd h0 (k p l e R s m args below meth c H locs ls Z hC hx hH hS hl)
theorem k_ineg {a : Int32} (hd : decode y.2.1 pc = .ok (.ineg, 1)) (hn : pc + 1 = n)  (k : Wd E d y cl sl mc ms n L (.int (-a) :: st) M Q) : Wd E d y cl sl mc ms pc L (.int a :: st) M Q := by
  intro p l e R s m args below meth c H locs ls Z hC hx hH hS hl
  subst hn
  exact lv_ineg hC.1 hC.2.1 hd  (k p l e R s m args below meth c H locs ls Z hC hx hH hS hl)
theorem k_iushr {a b : Int32} (hd : decode y.2.1 pc = .ok (.iushr, 1)) (hn : pc + 1 = n)  (k : Wd E d y cl sl mc ms n L (.int ((a.toUInt32 >>> (b.toUInt32 &&& Int32.toUInt32 31)).toInt32) :: st) M Q) : Wd E d y cl sl mc ms pc L (.int b :: .int a :: st) M Q := by
  intro p l e R s m args below meth c H locs ls Z hC hx hH hS hl
  subst hn
  exact lv_iushr hC.1 hC.2.1 hd rfl (k p l e R s m args below meth c H locs ls Z hC hx hH hS hl)
theorem k_i2l {a : Int32} (hd : decode y.2.1 pc = .ok (.i2l, 1)) (hn : pc + 1 = n)  (k : Wd E d y cl sl mc ms n L (.long a.toInt64 :: st) M Q) : Wd E d y cl sl mc ms pc L (.int a :: st) M Q := by
  intro p l e R s m args below meth c H locs ls Z hC hx hH hS hl
  subst hn
  exact lv_i2l hC.1 hC.2.1 hd rfl (k p l e R s m args below meth c H locs ls Z hC hx hH hS hl)
theorem k_l2i {a : Int64} (hd : decode y.2.1 pc = .ok (.l2i, 1)) (hn : pc + 1 = n)  (k : Wd E d y cl sl mc ms n L (.int a.toInt32 :: st) M Q) : Wd E d y cl sl mc ms pc L (.long a :: st) M Q := by
  intro p l e R s m args below meth c H locs ls Z hC hx hH hS hl
  subst hn
  exact lv_l2i hC.1 hC.2.1 hd rfl (k p l e R s m args below meth c H locs ls Z hC hx hH hS hl)
theorem k_i2b {a : Int32} (hd : decode y.2.1 pc = .ok (.i2b, 1)) (hn : pc + 1 = n)  (k : Wd E d y cl sl mc ms n L (.int a.toInt8.toInt32 :: st) M Q) : Wd E d y cl sl mc ms pc L (.int a :: st) M Q := by
  intro p l e R s m args below meth c H locs ls Z hC hx hH hS hl
  subst hn
  exact lv_i2b hC.1 hC.2.1 hd rfl (k p l e R s m args below meth c H locs ls Z hC hx hH hS hl)
theorem k_i2s {a : Int32} (hd : decode y.2.1 pc = .ok (.i2s, 1)) (hn : pc + 1 = n)  (k : Wd E d y cl sl mc ms n L (.int a.toInt16.toInt32 :: st) M Q) : Wd E d y cl sl mc ms pc L (.int a :: st) M Q := by
  intro p l e R s m args below meth c H locs ls Z hC hx hH hS hl
  subst hn
  exact lv_i2s hC.1 hC.2.1 hd rfl (k p l e R s m args below meth c H locs ls Z hC hx hH hS hl)
theorem k_i2c {a : Int32} (hd : decode y.2.1 pc = .ok (.i2c, 1)) (hn : pc + 1 = n)  (k : Wd E d y cl sl mc ms n L (.int (a.toUInt32 % 65536).toInt32 :: st) M Q) : Wd E d y cl sl mc ms pc L (.int a :: st) M Q := by
  intro p l e R s m args below meth c H locs ls Z hC hx hH hS hl
  subst hn
  exact lv_i2c hC.1 hC.2.1 hd rfl (k p l e R s m args below meth c H locs ls Z hC hx hH hS hl)
theorem k_land {a b : Int64} (hd : decode y.2.1 pc = .ok (.land, 1)) (hn : pc + 1 = n)  (k : Wd E d y cl sl mc ms n L (.long (a &&& b) :: st) M Q) : Wd E d y cl sl mc ms pc L (.long b :: .long a :: st) M Q := by
  intro p l e R s m args below meth c H locs ls Z hC hx hH hS hl
  subst hn
  exact lv_land hC.1 hC.2.1 hd  (k p l e R s m args below meth c H locs ls Z hC hx hH hS hl)
theorem k_lor {a b : Int64} (hd : decode y.2.1 pc = .ok (.lor, 1)) (hn : pc + 1 = n)  (k : Wd E d y cl sl mc ms n L (.long (a ||| b) :: st) M Q) : Wd E d y cl sl mc ms pc L (.long b :: .long a :: st) M Q := by
  intro p l e R s m args below meth c H locs ls Z hC hx hH hS hl
  subst hn
  exact lv_lor hC.1 hC.2.1 hd  (k p l e R s m args below meth c H locs ls Z hC hx hH hS hl)
theorem k_lshl {a : Int64} {b : Int32} (hd : decode y.2.1 pc = .ok (.lshl, 1)) (hn : pc + 1 = n)  (k : Wd E d y cl sl mc ms n L (.long (a <<< (b.toInt64 &&& 63)) :: st) M Q) : Wd E d y cl sl mc ms pc L (.int b :: .long a :: st) M Q := by
  intro p l e R s m args below meth c H locs ls Z hC hx hH hS hl
  subst hn
  exact lv_lshl hC.1 hC.2.1 hd rfl (k p l e R s m args below meth c H locs ls Z hC hx hH hS hl)
theorem k_lshr {a : Int64} {b : Int32} (hd : decode y.2.1 pc = .ok (.lshr, 1)) (hn : pc + 1 = n)  (k : Wd E d y cl sl mc ms n L (.long (a >>> (b.toInt64 &&& 63)) :: st) M Q) : Wd E d y cl sl mc ms pc L (.int b :: .long a :: st) M Q := by
  intro p l e R s m args below meth c H locs ls Z hC hx hH hS hl
  subst hn
  exact lv_lshr hC.1 hC.2.1 hd rfl (k p l e R s m args below meth c H locs ls Z hC hx hH hS hl)
theorem k_lushr {a : Int64} {b : Int32} (hd : decode y.2.1 pc = .ok (.lushr, 1)) (hn : pc + 1 = n)  (k : Wd E d y cl sl mc ms n L (.long ((a.toUInt64 >>> (b.toInt64.toUInt64 &&& Int64.toUInt64 63)).toInt64) :: st) M Q) : Wd E d y cl sl mc ms pc L (.int b :: .long a :: st) M Q := by
  intro p l e R s m args below meth c H locs ls Z hC hx hH hS hl
  subst hn
  exact lv_lushr hC.1 hC.2.1 hd rfl (k p l e R s m args below meth c H locs ls Z hC hx hH hS hl)
theorem k_iconst {i : Int} {a : Int32} (hd : decode y.2.1 pc = .ok (.iconst i, 1)) (hn : pc + 1 = n) (ha : Int32.ofInt i = a) (k : Wd E d y cl sl mc ms n L (.int a :: st) M Q) : Wd E d y cl sl mc ms pc L (st) M Q := by
  intro p l e R s m args below meth c H locs ls Z hC hx hH hS hl
  subst hn
  exact lv_iconst hC.1 hC.2.1 hd ha (k p l e R s m args below meth c H locs ls Z hC hx hH hS hl)
theorem k_bipush {i : Int} {a : Int32} (hd : decode y.2.1 pc = .ok (.bipush i, 2)) (hn : pc + 2 = n) (ha : (Int8.ofInt i).toInt32 = a) (k : Wd E d y cl sl mc ms n L (.int a :: st) M Q) : Wd E d y cl sl mc ms pc L (st) M Q := by
  intro p l e R s m args below meth c H locs ls Z hC hx hH hS hl
  subst hn
  exact lv_bipush hC.1 hC.2.1 hd ha (k p l e R s m args below meth c H locs ls Z hC hx hH hS hl)
theorem k_sipush {i : Int} {a : Int32} (hd : decode y.2.1 pc = .ok (.sipush i, 3)) (hn : pc + 3 = n) (ha : (Int16.ofInt i).toInt32 = a) (k : Wd E d y cl sl mc ms n L (.int a :: st) M Q) : Wd E d y cl sl mc ms pc L (st) M Q := by
  intro p l e R s m args below meth c H locs ls Z hC hx hH hS hl
  subst hn
  exact lv_sipush hC.1 hC.2.1 hd ha (k p l e R s m args below meth c H locs ls Z hC hx hH hS hl)
theorem k_dup {a : Value} (hd : decode y.2.1 pc = .ok (.dup, 1)) (hn : pc + 1 = n) (ha : a.category = 1) (k : Wd E d y cl sl mc ms n L (a :: a :: st) M Q) : Wd E d y cl sl mc ms pc L (a :: st) M Q := by
  intro p l e R s m args below meth c H locs ls Z hC hx hH hS hl
  subst hn
  exact lv_dup hC.1 hC.2.1 hd (by rw [kcv_cat]; exact ha) (k p l e R s m args below meth c H locs ls Z hC hx hH hS hl)
theorem k_dup2 {a b : Value} (hd : decode y.2.1 pc = .ok (.dup2, 1)) (hn : pc + 1 = n) (ha : a.category = 1) (hb : b.category = 1) (k : Wd E d y cl sl mc ms n L (a :: b :: a :: b :: st) M Q) : Wd E d y cl sl mc ms pc L (a :: b :: st) M Q := by
  intro p l e R s m args below meth c H locs ls Z hC hx hH hS hl
  subst hn
  exact lv_dup2_11 hC.1 hC.2.1 hd (by rw [kcv_cat]; exact ha) (by rw [kcv_cat]; exact hb) (k p l e R s m args below meth c H locs ls Z hC hx hH hS hl)
theorem k_pop {a : Value} (hd : decode y.2.1 pc = .ok (.pop, 1)) (hn : pc + 1 = n) (ha : a.category = 1) (k : Wd E d y cl sl mc ms n L (st) M Q) : Wd E d y cl sl mc ms pc L (a :: st) M Q := by
  intro p l e R s m args below meth c H locs ls Z hC hx hH hS hl
  subst hn
  exact lv_pop hC.1 hC.2.1 hd (by rw [kcv_cat]; exact ha) (k p l e R s m args below meth c H locs ls Z hC hx hH hS hl)
theorem k_goto {off : Int} (hd : decode y.2.1 pc = .ok (.goto off, 3)) (hn : (pc : Int) + off = (n : Int)) (k : Wd E d y cl sl mc ms n L st M Q) : Wd E d y cl sl mc ms pc L st M Q := by
  intro p l e R s m args below meth c H locs ls Z hC hx hH hS hl
  exact lv_goto hC.1 hC.2.1 hd hn (k p l e R s m args below meth c H locs ls Z hC hx hH hS hl)
theorem k_if_eq {a : Int32} {off : Int} {t : Nat} (hd : decode y.2.1 pc = .ok (.ifCond .eq off, 3)) (ht : (pc : Int) + off = (t : Int)) (hn : pc + 3 = n) (kt : a = 0 → Wd E d y cl sl mc ms t L st M Q) (kf : ¬ a = 0 → Wd E d y cl sl mc ms n L st M Q) : Wd E d y cl sl mc ms pc L (.int a :: st) M Q := by
  intro p l e R s m args below meth c H locs ls Z hC hx hH hS hl
  subst hn
  exact lv_if_eq hC.1 hC.2.1 hd ht (fun h => kt h p l e R s m args below meth c H locs ls Z hC hx hH hS hl) (fun h => kf h p l e R s m args below meth c H locs ls Z hC hx hH hS hl)
theorem k_icmp_eq {a b : Int32} {off : Int} {t : Nat} (hd : decode y.2.1 pc = .ok (.if_icmp .eq off, 3)) (ht : (pc : Int) + off = (t : Int)) (hn : pc + 3 = n) (kt : a = b → Wd E d y cl sl mc ms t L st M Q) (kf : ¬ a = b → Wd E d y cl sl mc ms n L st M Q) : Wd E d y cl sl mc ms pc L (.int b :: .int a :: st) M Q := by
  intro p l e R s m args below meth c H locs ls Z hC hx hH hS hl
  subst hn
  exact lv_icmp_eq hC.1 hC.2.1 hd ht (fun h => kt h p l e R s m args below meth c H locs ls Z hC hx hH hS hl) (fun h => kf h p l e R s m args below meth c H locs ls Z hC hx hH hS hl)
theorem k_if_ne {a : Int32} {off : Int} {t : Nat} (hd : decode y.2.1 pc = .ok (.ifCond .ne off, 3)) (ht : (pc : Int) + off = (t : Int)) (hn : pc + 3 = n) (kt : ¬ a = 0 → Wd E d y cl sl mc ms t L st M Q) (kf : a = 0 → Wd E d y cl sl mc ms n L st M Q) : Wd E d y cl sl mc ms pc L (.int a :: st) M Q := by
  intro p l e R s m args below meth c H locs ls Z hC hx hH hS hl
  subst hn
  exact lv_if_ne hC.1 hC.2.1 hd ht (fun h => kt h p l e R s m args below meth c H locs ls Z hC hx hH hS hl) (fun h => kf h p l e R s m args below meth c H locs ls Z hC hx hH hS hl)
theorem k_icmp_ne {a b : Int32} {off : Int} {t : Nat} (hd : decode y.2.1 pc = .ok (.if_icmp .ne off, 3)) (ht : (pc : Int) + off = (t : Int)) (hn : pc + 3 = n) (kt : ¬ a = b → Wd E d y cl sl mc ms t L st M Q) (kf : a = b → Wd E d y cl sl mc ms n L st M Q) : Wd E d y cl sl mc ms pc L (.int b :: .int a :: st) M Q := by
  intro p l e R s m args below meth c H locs ls Z hC hx hH hS hl
  subst hn
  exact lv_icmp_ne hC.1 hC.2.1 hd ht (fun h => kt h p l e R s m args below meth c H locs ls Z hC hx hH hS hl) (fun h => kf h p l e R s m args below meth c H locs ls Z hC hx hH hS hl)
theorem k_if_lt {a : Int32} {off : Int} {t : Nat} (hd : decode y.2.1 pc = .ok (.ifCond .lt off, 3)) (ht : (pc : Int) + off = (t : Int)) (hn : pc + 3 = n) (kt : a < 0 → Wd E d y cl sl mc ms t L st M Q) (kf : ¬ a < 0 → Wd E d y cl sl mc ms n L st M Q) : Wd E d y cl sl mc ms pc L (.int a :: st) M Q := by
  intro p l e R s m args below meth c H locs ls Z hC hx hH hS hl
  subst hn
  exact lv_if_lt hC.1 hC.2.1 hd ht (fun h => kt h p l e R s m args below meth c H locs ls Z hC hx hH hS hl) (fun h => kf h p l e R s m args below meth c H locs ls Z hC hx hH hS hl)
theorem k_icmp_lt {a b : Int32} {off : Int} {t : Nat} (hd : decode y.2.1 pc = .ok (.if_icmp .lt off, 3)) (ht : (pc : Int) + off = (t : Int)) (hn : pc + 3 = n) (kt : a < b → Wd E d y cl sl mc ms t L st M Q) (kf : ¬ a < b → Wd E d y cl sl mc ms n L st M Q) : Wd E d y cl sl mc ms pc L (.int b :: .int a :: st) M Q := by
  intro p l e R s m args below meth c H locs ls Z hC hx hH hS hl
  subst hn
  exact lv_icmp_lt hC.1 hC.2.1 hd ht (fun h => kt h p l e R s m args below meth c H locs ls Z hC hx hH hS hl) (fun h => kf h p l e R s m args below meth c H locs ls Z hC hx hH hS hl)
theorem k_if_ge {a : Int32} {off : Int} {t : Nat} (hd : decode y.2.1 pc = .ok (.ifCond .ge off, 3)) (ht : (pc : Int) + off = (t : Int)) (hn : pc + 3 = n) (kt : 0 ≤ a → Wd E d y cl sl mc ms t L st M Q) (kf : ¬ 0 ≤ a → Wd E d y cl sl mc ms n L st M Q) : Wd E d y cl sl mc ms pc L (.int a :: st) M Q := by
  intro p l e R s m args below meth c H locs ls Z hC hx hH hS hl
  subst hn
  exact lv_if_ge hC.1 hC.2.1 hd ht (fun h => kt h p l e R s m args below meth c H locs ls Z hC hx hH hS hl) (fun h => kf h p l e R s m args below meth c H locs ls Z hC hx hH hS hl)
theorem k_icmp_ge {a b : Int32} {off : Int} {t : Nat} (hd : decode y.2.1 pc = .ok (.if_icmp .ge off, 3)) (ht : (pc : Int) + off = (t : Int)) (hn : pc + 3 = n) (kt : b ≤ a → Wd E d y cl sl mc ms t L st M Q) (kf : ¬ b ≤ a → Wd E d y cl sl mc ms n L st M Q) : Wd E d y cl sl mc ms pc L (.int b :: .int a :: st) M Q := by
  intro p l e R s m args below meth c H locs ls Z hC hx hH hS hl
  subst hn
  exact lv_icmp_ge hC.1 hC.2.1 hd ht (fun h => kt h p l e R s m args below meth c H locs ls Z hC hx hH hS hl) (fun h => kf h p l e R s m args below meth c H locs ls Z hC hx hH hS hl)
theorem k_if_gt {a : Int32} {off : Int} {t : Nat} (hd : decode y.2.1 pc = .ok (.ifCond .gt off, 3)) (ht : (pc : Int) + off = (t : Int)) (hn : pc + 3 = n) (kt : 0 < a → Wd E d y cl sl mc ms t L st M Q) (kf : ¬ 0 < a → Wd E d y cl sl mc ms n L st M Q) : Wd E d y cl sl mc ms pc L (.int a :: st) M Q := by
  intro p l e R s m args below meth c H locs ls Z hC hx hH hS hl
  subst hn
  exact lv_if_gt hC.1 hC.2.1 hd ht (fun h => kt h p l e R s m args below meth c H locs ls Z hC hx hH hS hl) (fun h => kf h p l e R s m args below meth c H locs ls Z hC hx hH hS hl)
theorem k_icmp_gt {a b : Int32} {off : Int} {t : Nat} (hd : decode y.2.1 pc = .ok (.if_icmp .gt off, 3)) (ht : (pc : Int) + off = (t : Int)) (hn : pc + 3 = n) (kt : b < a → Wd E d y cl sl mc ms t L st M Q) (kf : ¬ b < a → Wd E d y cl sl mc ms n L st M Q) : Wd E d y cl sl mc ms pc L (.int b :: .int a :: st) M Q := by
  intro p l e R s m args below meth c H locs ls Z hC hx hH hS hl
  subst hn
  exact lv_icmp_gt hC.1 hC.2.1 hd ht (fun h => kt h p l e R s m args below meth c H locs ls Z hC hx hH hS hl) (fun h => kf h p l e R s m args below meth c H locs ls Z hC hx hH hS hl)
theorem k_if_le {a : Int32} {off : Int} {t : Nat} (hd : decode y.2.1 pc = .ok (.ifCond .le off, 3)) (ht : (pc : Int) + off = (t : Int)) (hn : pc + 3 = n) (kt : a ≤ 0 → Wd E d y cl sl mc ms t L st M Q) (kf : ¬ a ≤ 0 → Wd E d y cl sl mc ms n L st M Q) : Wd E d y cl sl mc ms pc L (.int a :: st) M Q := by
  intro p l e R s m args below meth c H locs ls Z hC hx hH hS hl
  subst hn
  exact lv_if_le hC.1 hC.2.1 hd ht (fun h => kt h p l e R s m args below meth c H locs ls Z hC hx hH hS hl) (fun h => kf h p l e R s m args below meth c H locs ls Z hC hx hH hS hl)
theorem k_icmp_le {a b : Int32} {off : Int} {t : Nat} (hd : decode y.2.1 pc = .ok (.if_icmp .le off, 3)) (ht : (pc : Int) + off = (t : Int)) (hn : pc + 3 = n) (kt : a ≤ b → Wd E d y cl sl mc ms t L st M Q) (kf : ¬ a ≤ b → Wd E d y cl sl mc ms n L st M Q) : Wd E d y cl sl mc ms pc L (.int b :: .int a :: st) M Q := by
  intro p l e R s m args below meth c H locs ls Z hC hx hH hS hl
  subst hn
  exact lv_icmp_le hC.1 hC.2.1 hd ht (fun h => kt h p l e R s m args below meth c H locs ls Z hC hx hH hS hl) (fun h => kf h p l e R s m args below meth c H locs ls Z hC hx hH hS hl)
theorem k_iload' {i : Nat} {a : Int32} (hd : decode y.2.1 pc = .ok (.iload i, 2)) (hn : pc + 2 = n) (hi : L[i]? = some (some (.int a))) (k : Wd E d y cl sl mc ms n L (.int a :: st) M Q) : Wd E d y cl sl mc ms pc L st M Q := by
  intro p l e R s m args below meth c H locs ls Z hC hx hH hS hl
  subst hn
  exact lv_iload hC.1 hC.2.1 hd (hl.2.2 i _ hi) (k p l e R s m args below meth c H locs ls Z hC hx hH hS hl)
theorem k_iload_n' {i : Fin 4} {a : Int32} (hd : decode y.2.1 pc = .ok (.iload_n i, 1)) (hn : pc + 1 = n) (hi : L[(i : Nat)]? = some (some (.int a))) (k : Wd E d y cl sl mc ms n L (.int a :: st) M Q) : Wd E d y cl sl mc ms pc L st M Q := by
  intro p l e R s m args below meth c H locs ls Z hC hx hH hS hl
  subst hn
  exact lv_iload_n hC.1 hC.2.1 hd rfl (hl.2.2 i _ hi) (k p l e R s m args below meth c H locs ls Z hC hx hH hS hl)
theorem k_lload_n' {i : Fin 4} {a : Int64} (hd : decode y.2.1 pc = .ok (.lload_n i, 1)) (hn : pc + 1 = n) (hi : L[(i : Nat)]? = some (some (.long a))) (k : Wd E d y cl sl mc ms n L (.long a :: st) M Q) : Wd E d y cl sl mc ms pc L st M Q := by
  intro p l e R s m args below meth c H locs ls Z hC hx hH hS hl
  subst hn
  exact lv_lload_n hC.1 hC.2.1 hd rfl (hl.2.2 i _ hi) (k p l e R s m args below meth c H locs ls Z hC hx hH hS hl)
theorem k_aload' {i a : Nat} (hd : decode y.2.1 pc = .ok (.aload i, 2)) (hn : pc + 2 = n) (hi : L[i]? = some (some (.ref a))) (k : Wd E d y cl sl mc ms n L (.ref a :: st) M Q) : Wd E d y cl sl mc ms pc L st M Q := by
  intro p l e R s m args below meth c H locs ls Z hC hx hH hS hl
  subst hn
  exact lv_aload hC.1 hC.2.1 hd (hl.2.2 i _ hi) (k p l e R s m args below meth c H locs ls Z hC hx hH hS hl)
theorem k_aload_n' {i : Fin 4} {a : Nat} (hd : decode y.2.1 pc = .ok (.aload_n i, 1)) (hn : pc + 1 = n) (hi : L[(i : Nat)]? = some (some (.ref a))) (k : Wd E d y cl sl mc ms n L (.ref a :: st) M Q) : Wd E d y cl sl mc ms pc L st M Q := by
  intro p l e R s m args below meth c H locs ls Z hC hx hH hS hl
  subst hn
  exact lv_aload_n hC.1 hC.2.1 hd rfl (hl.2.2 i _ hi) (k p l e R s m args below meth c H locs ls Z hC hx hH hS hl)
theorem k_istore' {i : Nat} {a : Int32} (hd : decode y.2.1 pc = .ok (.istore i, 2)) (hn : pc + 2 = n) (hi : i < L.length) (hL : L.length ≤ y.2.2.1) (ho : ∀ w, L[i - 1]? = some w → kno w ∨ i = 0) (k : Wd E d y cl sl mc ms n (L.set i (some (.int a))) st M Q) : Wd E d y cl sl mc ms pc L (.int a :: st) M Q := by
  intro p l e R s m args below meth c H locs ls Z hC hx hH hS hl
  subst hn
  exact lv_istore hC.1 hC.2.1 hd hl.has (by omega) rfl (fun ls' h' => k p l e R s m args below meth c H locs ls' Z hC hx hH hS (klr.store (v := .int a) ho h' hi))
theorem k_istore_n' {i : Fin 4} {a : Int32} (hd : decode y.2.1 pc = .ok (.istore_n i, 1)) (hn : pc + 1 = n) (hi : (i : Nat) < L.length) (hL : L.length ≤ y.2.2.1) (ho : ∀ w, L[(i : Nat) - 1]? = some w → kno w ∨ (i : Nat) = 0) (k : Wd E d y cl sl mc ms n (L.set i (some (.int a))) st M Q) : Wd E d y cl sl mc ms pc L (.int a :: st) M Q := by
  intro p l e R s m args below meth c H locs ls Z hC hx hH hS hl
  subst hn
  exact lv_istore_n hC.1 hC.2.1 hd rfl hl.has (by omega) rfl (fun ls' h' => k p l e R s m args below meth c H locs ls' Z hC hx hH hS (klr.store (v := .int a) ho h' hi))
theorem k_astore' {i a : Nat} (hd : decode y.2.1 pc = .ok (.astore i, 2)) (hn : pc + 2 = n) (hi : i < L.length) (hL : L.length ≤ y.2.2.1) (ho : ∀ w, L[i - 1]? = some w → kno w ∨ i = 0) (k : Wd E d y cl sl mc ms n (L.set i (some (.ref a))) st M Q) : Wd E d y cl sl mc ms pc L (.ref a :: st) M Q := by
  intro p l e R s m args below meth c H locs ls Z hC hx hH hS hl
  subst hn
  exact lv_astore hC.1 hC.2.1 hd hl.has (by omega) rfl (fun ls' h' => k p l e R s m args below meth c H locs ls' Z hC hx hH hS (klr.store (v := .ref a) ho h' hi))
theorem k_astore_n' {i : Fin 4} {a : Nat} (hd : decode y.2.1 pc = .ok (.astore_n i, 1)) (hn : pc + 1 = n) (hi : (i : Nat) < L.length) (hL : L.length ≤ y.2.2.1) (ho : ∀ w, L[(i : Nat) - 1]? = some w → kno w ∨ (i : Nat) = 0) (k : Wd E d y cl sl mc ms n (L.set i (some (.ref a))) st M Q) : Wd E d y cl sl mc ms pc L (.ref a :: st) M Q := by
  intro p l e R s m args below meth c H locs ls Z hC hx hH hS hl
  subst hn
  exact lv_astore_n hC.1 hC.2.1 hd rfl hl.has (by omega) rfl (fun ls' h' => k p l e R s m args below meth c H locs ls' Z hC hx hH hS (klr.store (v := .ref a) ho h' hi))
theorem kpl_at {i : Nat} {v : Value} (h : L[i]? = some (some v)) : ∃ k : Nat, (kpl E L)[k]? = some (i, kcv E v) := List.getElem?_of_mem (kpl_mem h)
theorem k_iinc' {i : Nat} {z : Int} {a b : Int32} (hd : decode y.2.1 pc = .ok (.iinc i z, 3)) (hn : pc + 3 = n) (hg : L[i]? = some (some (.int a))) (hb : a + Int32.ofInt z = b) (hL : L.length ≤ y.2.2.1) (ho : ∀ w, L[i - 1]? = some w → kno w ∨ i = 0) (k : Wd E d y cl sl mc ms n (L.set i (some (.int b))) st M Q) : Wd E d y cl sl mc ms pc L st M Q := by
  intro p l e R s m args below meth c H locs ls Z hC hx hH hS hl
  subst hn
  have hi : i < L.length := (List.getElem?_eq_some_iff.mp hg).1
  obtain ⟨q, hq⟩ := kpl_at (E := E) hg
  exact lv_iinc hC.1 hC.2.1 hd hl.has hq hb (by omega) rfl (fun ls' h' => k p l e R s m args below meth c H locs ls' Z hC hx hH hS (klr.store (v := .int b) ho h' hi))
theorem k_ldc {i : Nat} {a : Int32} (hd : decode y.2.1 pc = .ok (.ldc i, 2)) (hn : pc + 2 = n) (hg : Cond.constant y.1.cls i a ∈ kG) (k : Wd E d y cl sl mc ms n L (.int a :: st) M Q) : Wd E d y cl sl mc ms pc L st M Q := by
  intro p l e R s m args below meth c H locs ls Z hC hx hH hS hl
  subst hn
  exact lv_ldc hC.1 hC.2.1 hC.2.2.2.2.2.2.1 (hC.2.2.2.2.2.2.2.1 _ hg) hd (k p l e R s m args below meth c H locs ls Z hC hx hH hS hl)
theorem k_ldcw {i : Nat} {a : Int32} (hd : decode y.2.1 pc = .ok (.ldc_w i, 3)) (hn : pc + 3 = n) (hg : Cond.constant y.1.cls i a ∈ kG) (k : Wd E d y cl sl mc ms n L (.int a :: st) M Q) : Wd E d y cl sl mc ms pc L st M Q := by
  intro p l e R s m args below meth c H locs ls Z hC hx hH hS hl
  subst hn
  exact lv_ldcw hC.1 hC.2.1 hC.2.2.2.2.2.2.1 (hC.2.2.2.2.2.2.2.1 _ hg) hd (k p l e R s m args below meth c H locs ls Z hC hx hH hS hl)
theorem k_ldc2 {i : Nat} {a : Int64} (hd : decode y.2.1 pc = .ok (.ldc2_w i, 3)) (hn : pc + 3 = n) (hg : Cond.constantLong y.1.cls i a ∈ kG) (k : Wd E d y cl sl mc ms n L (.long a :: st) M Q) : Wd E d y cl sl mc ms pc L st M Q := by
  intro p l e R s m args below meth c H locs ls Z hC hx hH hS hl
  subst hn
  exact lv_ldc2 hC.1 hC.2.1 hC.2.2.2.2.2.2.1 (hC.2.2.2.2.2.2.2.1 _ hg) hd (k p l e R s m args below meth c H locs ls Z hC hx hH hS hl)
theorem k_swOut {df lo hi : Int} {offs : Array Int} {len t : Nat} {a : Int32} (hd : decode y.2.1 pc = .ok (.tableswitch df lo hi offs, len)) (h : a.toInt < lo ∨ hi < a.toInt) (ht : (pc : Int) + df = (t : Int)) (k : Wd E d y cl sl mc ms t L st M Q) : Wd E d y cl sl mc ms pc L (.int a :: st) M Q := by
  intro p l e R s m args below meth c H locs ls Z hC hx hH hS hl
  exact lv_tableOut hC.1 hC.2.1 hd h ht (k p l e R s m args below meth c H locs ls Z hC hx hH hS hl)
theorem k_swIn {df lo hi : Int} {offs : Array Int} {len t : Nat} {a : Int32} {off : Int} (hd : decode y.2.1 pc = .ok (.tableswitch df lo hi offs, len)) (h1 : ¬ a.toInt < lo) (h2 : ¬ hi < a.toInt) (ho : offs[(a.toInt - lo).toNat]? = some off) (ht : (pc : Int) + off = (t : Int)) (k : Wd E d y cl sl mc ms t L st M Q) : Wd E d y cl sl mc ms pc L (.int a :: st) M Q := by
  intro p l e R s m args below meth c H locs ls Z hC hx hH hS hl
  exact lv_tableIn hC.1 hC.2.1 hd h1 h2 ho ht (k p l e R s m args below meth c H locs ls Z hC hx hH hS hl)
theorem k_lookup {df : Int} {ps : Array (Int × Int)} {len t : Nat} {a : Int32} {off : Int} (hd : decode y.2.1 pc = .ok (.lookupswitch df ps, len)) (hp : (ps.toList.zip (ps.toList.drop 1)).all (fun (a, next) => a.1 < next.1) = true) (ho : Op.lookupswitch.offset ps.toList df a.toInt = off) (ht : (pc : Int) + off = (t : Int)) (k : Wd E d y cl sl mc ms t L st M Q) : Wd E d y cl sl mc ms pc L (.int a :: st) M Q := by
  intro p l e R s m args below meth c H locs ls Z hC hx hH hS hl
  exact lv_lookup hC.1 hC.2.1 hd hp ho ht (k p l e R s m args below meth c H locs ls Z hC hx hH hS hl)
end KR
end
section
def kput (M : kM) (k j : Nat) (a : Int32) : kM := (M.1, M.2.1, fun k' j' => if k' = k ∧ j' = j then a else M.2.2 k' j')
def kputP (M : kM) (k j : Nat) (a : Option Nat) : kM := (M.1, (fun k' j' => if k' = k ∧ j' = j then a else M.2.1 k' j'), M.2.2)
def kpush (M : kM) (q : Nat × Nat) : kM := (M.1 ++ [q], (fun k' j' => if k' = M.1.length then none else M.2.1 k' j'), fun k' j' => if k' = M.1.length then 0 else M.2.2 k' j')
def kcopy (M : kM) (k : Nat) (f : Nat → Int32) : kM := (M.1, M.2.1, fun k' j' => if k' = k then f j' else M.2.2 k' j')
theorem kco.kept {E : kE} {H H1 : Heap} {a kd n : Nat} {p : Nat → Option Nat} {i : Nat → Int32} (h : kco E H a kd n p i) (hq : H1[a]? = H[a]?) : kco E H1 a kd n p i := by
  unfold kco at h ⊢
  split
  · rename_i hk
    rw [if_pos hk] at h
    obtain ⟨r, h1, h2⟩ := h
    exact ⟨r, h1, h2.kept hq⟩
  · rename_i hk
    rw [if_neg hk] at h
    split
    · rename_i hk2
      rw [if_pos hk2] at h
      rw [hq]; exact h
    · rename_i hk2
      rw [if_neg hk2] at h
      rw [hq]; exact h
/-- a cell is written anew, the others stay -/
theorem khr.set {E : kE} {M M' : kM} {H H1 : Heap} {k : Nat} {q : Nat × Nat} (h : khr E M H) (hs : M'.1 = M.1) (hk : M.1[k]? = some q) (hz : H1.size = H.size) (ho : ∀ a : Nat, a ≠ E.1 + k → H1[a]? = H[a]?) (hP : ∀ k' : Nat, k' ≠ k → M'.2.1 k' = M.2.1 k' ∧ M'.2.2 k' = M.2.2 k') (hc : kco E H1 (E.1 + k) q.1 q.2 (M'.2.1 k) (M'.2.2 k)) : khr E M' H1 := by
  refine ⟨by rw [hs, hz]; exact h.1, by rw [hs]; exact h.2.1, fun k' q' hk' => ?_⟩
  rw [hs] at hk'
  by_cases e : k' = k
  · subst e
    cases hk.symm.trans hk'
    exact hc
  · rw [(hP k' e).1, (hP k' e).2]
    exact (h.2.2 k' q' hk').kept (ho _ (by omega))
theorem khr.lt {E : kE} {M : kM} {H : Heap} {k : Nat} {q : Nat × Nat} (h : khr E M H) (hk : M.1[k]? = some q) : k < 1000 := by
  have := (List.getElem?_eq_some_iff.mp hk).1
  have := h.2.1
  omega
theorem khr.ad {E : kE} {M : kM} {H : Heap} {k : Nat} {q : Nat × Nat} (h : khr E M H) (hk : M.1[k]? = some q) : kad E k = E.1 + k := if_pos (h.lt hk)
theorem kS_put {E : kE} {H0 H H1 : Heap} {locs : List Loc} {a i : Nat} (h : va_S (kA E) H0 H locs) (hz : H1.size = H.size) (ho : ∀ q : Nat, q ≠ a → H1[q]? = H[q]?) (ha : kA E a) : va_S (kA E) H0 H1 (locs ++ [⟨a, i⟩]) := by
  refine ⟨by rw [hz]; exact h.1, fun q h1 h2 => ?_, fun l hl => ?_⟩
  · rw [ho q (fun e => h2 (e ▸ ha))]
    exact h.2.1 q h1 h2
  · rcases List.mem_append.mp hl with h3 | h3
    · exact h.2.2 l h3
    · rw [List.mem_singleton.mp h3]
      exact ha
theorem kgood {E : kE} {d : Nat} {y : kY} {mc ms : Nat} {p : Program} {R : Room} {s : State} {m : MethodId} {args : Array Value} {meth : Method} {c : Code} (hC : kCx E d y mc ms p R s m args meth c) {w : Cond} (h : w ∈ kG) : w.before args s = true := hC.2.2.2.2.2.2.2.1 w h
theorem kown {E : kE} {d : Nat} {y : kY} {mc ms : Nat} {p : Program} {R : Room} {s : State} {m : MethodId} {args : Array Value} {meth : Method} {c : Code} (hC : kCx E d y mc ms p R s m args meth c) : s.vm.findClass y.1.cls = some m.cls := hC.2.2.2.2.2.2.1
theorem kamb {E : kE} {d : Nat} {y : kY} {mc ms : Nat} {p : Program} {R : Room} {s : State} {m : MethodId} {args : Array Value} {meth : Method} {c : Code} (hC : kCx E d y mc ms p R s m args meth c) : kAmb E s s.heap := hC.2.2.2.2.2.2.2.2.1
theorem kroom {E : kE} {d : Nat} {y : kY} {mc ms : Nat} {p : Program} {R : Room} {s : State} {m : MethodId} {args : Array Value} {meth : Method} {c : Code} (hC : kCx E d y mc ms p R s m args meth c) : d + 1 ≤ R.frames ∧ (d + 1) * 40 ≤ R.locals ∧ mc ≤ R.cells ∧ ms ≤ R.slots := hC.2.2.2.2.2.2.2.2.2.1
/-- a class as the rows need it: its number, its table, its types -/
def kCls (ci : Nat) (C : String) (T : u_T) (N : Nat) (ty : Nat → FieldType) : Prop := ci < 100 ∧ vwCl[ci]? = some (C, T, N) ∧ (∀ w ∈ u_ws C T N, w ∈ kG) ∧ (∀ k, k < N → parseFieldDescriptor (T k).2.2.1 = some (ty k)) ∧ (∀ a, a < N → ∀ b, b < N → a ≠ b → (T a).2.1 ≠ (T b).2.1)
theorem kOb {E : kE} {M : kM} {H : Heap} {k ci z N : Nat} {C : String} {T : u_T} (h : khr E M H) (hk : M.1[k]? = some (ci, z)) (hci : ci < 100) (hc : vwCl[ci]? = some (C, T, N)) : t_OB (E.1 + k) (E.2.1 ci) N (E.2.2.1 ci) H (fun j => kfv E (kfk ci j) (M.2.1 k j) (M.2.2 k j)) := by
  have h1 := h.2.2 k _ hk
  unfold kco at h1
  rw [if_pos hci] at h1
  obtain ⟨r, h2, h3⟩ := h1
  have e : r = (C, T, N) := Option.some.inj (h2.symm.trans hc)
  subst e
  exact h3
section KH
variable {E : kE} {d : Nat} {y : kY} {cl sl mc ms pc n : Nat} {L : List (Option Value)} {st : List Value} {M : kM} {Q : Option Value → kM → Prop}
/-- getfield, of any kind -/
theorem k_getv {ci z N i k j : Nat} {C ref : String} {T : u_T} {ty : Nat → FieldType} {v : Value} (hd : decode y.2.1 pc = .ok (.getfield i, 3)) (hn : pc + 3 = n) (hc : kCls ci C T N ty) (hj : j < N) (hg : Cond.fieldLink y.1.cls i C (T j).2.1 (T j).2.2.1 ∈ kG) (hT : (T j).1 = C) (hk : M.1[k]? = some (ci, z)) (hv : kfv E (kfk ci j) (M.2.1 k j) (M.2.2 k j) = kcv E v)
    (kk : Wd E d y cl sl mc ms n L (v :: st) M Q) : Wd E d y cl sl mc ms pc L (.ref k :: st) M Q := by
  intro p l e R s m args below meth c H locs ls Z hC hx hH hS hl
  subst hn
  obtain ⟨hci, hcl, hin, hty, hnm⟩ := hc
  obtain ⟨cell, q1, q2, q3, q4⟩ := kOb hH hk hci hcl
  obtain ⟨hSl, hfc, kC, hkC, hkind⟩ := (kamb hC).1 ci _ hcl
  obtain ⟨cf, kf, fi, f, hi, hsl⟩ := hSl j hj
  have hst := (u_facts hfc hkC (u_lays (hC.2.2.2.2.2.2.2.1) hin hj) hi).1
  dsimp only at hi
  rw [hT] at hi
  show W p l e R s m args below meth c H locs cl sl Z (F0 m pc ls (.ref (kad E k) :: st.map (kcv E)))
  rw [hH.ad hk]
  refine W.getf hC.1 hC.2.1 (kown hC) (kgood hC hg) hi hst q1 (by rw [q3]; exact fun h => by cases h) (v := kcv E v) ?_ rfl rfl hd (kk p l e R s m args below meth c H locs ls Z hC hx hH hS hl)
  rw [hsl, q4 j hj]
  exact congrArg some hv
theorem k_putv {ci z N i k j : Nat} {C : String} {T : u_T} {ty : Nat → FieldType} {v : Value} {M' : kM} (hd : decode y.2.1 pc = .ok (.putfield i, 3)) (hn : pc + 3 = n) (hc : kCls ci C T N ty) (hj : j < N) (hg : Cond.fieldLink y.1.cls i C (T j).2.1 (T j).2.2.1 ∈ kG) (hT : (T j).1 = C) (hf : (T j).2.2.2 = false ∨ ((T j).2.2.2 = true ∧ y.1.name = "<init>" ∧ C = y.1.cls)) (hk : M.1[k]? = some (ci, z)) (hs : M'.1 = M.1)
    (hv : kfv E (kfk ci j) (M'.2.1 k j) (M'.2.2 k j) = kcv E v) (ho : ∀ k' j', ¬ (k' = k ∧ j' = j) → M'.2.1 k' j' = M.2.1 k' j' ∧ M'.2.2 k' j' = M.2.2 k' j') (hnr : narrow (ty j) (kcv E v) = kcv E v) (hft : fits (ty j) (kcv E v) = true)
    (kk : Wd E d y cl sl mc ms n L st M' Q) : Wd E d y cl sl mc ms pc L (v :: .ref k :: st) M Q := by
  intro p l e R s m args below meth c H locs ls Z hC hx hH hS hl
  subst hn
  obtain ⟨hci, hcl, hin, hty, hnm⟩ := hc
  have hts := hC.2.2.2.2.2.2.2.1
  obtain ⟨cell, q1, q2, q3, q4⟩ := kOb hH hk hci hcl
  have hap := va_apart (own := y.1.cls) (D := (E.2.1, E.2.2.1)) (cl := vwCl) (tys := []) hts hin ty hty hnm ⟨(kamb hC).1, fun k q h => by simp at h⟩ hcl
  obtain ⟨hSl, hfc, kC, hkC, hkind⟩ := (kamb hC).1 ci _ hcl
  obtain ⟨cf, kf, fi, f, hi, hsl⟩ := hSl j hj
  have hst := (u_facts hfc hkC (u_lays hts hin hj) hi).1
  dsimp only at hi
  have hAk : kA E (E.1 + k) := Nat.le_add_right _ _
  show W p l e R s m args below meth c H locs cl sl Z (F0 m pc ls (kcv E v :: .ref (kad E k) :: st.map (kcv E)))
  rw [hH.ad hk]
  have fin : ∀ H' : Heap, H'[E.1 + k]? = some (cell.setSlot f.slot (kcv E v)) → H'.size = H.size → (∀ q, q ≠ E.1 + k → H'[q]? = H[q]?) → W p l e R s m args below meth c H' (locs ++ [⟨E.1 + k, f.slot⟩]) cl sl Z (F0 m (pc + 3) ls (st.map (kcv E))) := by
    intro H' e1 e2 e3
    rw [hsl] at e1 ⊢
    refine kk p l e R s m args below meth c H' _ ls Z hC hx (hH.set hs hk e2 e3 (fun k' hne => ⟨funext fun j' => (ho k' j' (fun h => hne h.1)).1, funext fun j' => (ho k' j' (fun h => hne h.1)).2⟩) ?_) (kS_put hS e2 e3 hAk) hl
    unfold kco
    rw [if_pos hci]
    refine ⟨_, hcl, t_OB.to (V := updV (fun j => kfv E (kfk ci j) (M.2.1 k j) (M.2.2 k j)) j (kcv E v)) ⟨_, e1, q2, q3, t_set q4 hap hj (kcv E v)⟩ (fun j' _ => ?_)⟩
    by_cases hjj : j' = j
    · subst hjj
      simp only [updV, if_pos]
      exact hv.symm
    · simp only [updV, if_neg hjj]
      rw [(ho k j' (fun h => hjj h.2)).1, (ho k j' (fun h => hjj h.2)).2]
  have hlay := hts _ (hin _ (u_in_lay hj))
  unfold u_lay at hlay
  rcases hf with hfin | ⟨hfin, hin2, hdecl⟩
  · rw [if_neg (by rw [hfin]; decide)] at hlay
    have h6 := u_store hfc hkC hkind hlay hi (hty j hj) hnr hft
    have hi2 := hi
    rw [hT] at hi2
    exact W.putK hC.1 hC.2.1 (f := f) ⟨kown hC, kgood hC hg, ⟨_, _, _, hi2⟩, hst⟩ (by rw [q2]; exact h6) q1 q3 (by rw [hsl]; exact k2_hasslot (q4 j hj)) rfl rfl hd fin
  · rw [if_pos hfin] at hlay
    have hcf : m.cls = cf := by
      obtain ⟨_, _, c', _, _, _, -, -, hf', -, -, -, hown2, -⟩ := Cond.laysFinal_spec hlay
      have e1 : c' = cf := by have := hi.symm.trans hf'; simp at this; exact this.1.symm
      rw [hT, hdecl] at hown2
      rw [← e1]; exact Option.some.inj ((kown hC).symm.trans hown2)
    have h6 := u_fits hfc hkC hkind (Or.inr hlay) hi (hty j hj) hnr hft
    have hi2 := hi
    rw [hT] at hi2
    exact W.putFinK hC.1 hC.2.1 (kown hC) (kgood hC hg) hi2 hst hcf (by rw [hC.2.2.2.2.2.1]; exact hin2) (by rw [q2]; exact h6) q1 q3 (by rw [hsl]; exact k2_hasslot (q4 j hj)) rfl rfl hd fin
/-- an int array that can be read: one of the memory, or one that was there -/
def kRd (E : kE) (M : kM) (k z : Nat) (f : Nat → Int32) : Prop := (M.1[k]? = some (100, z) ∧ f = M.2.2 k) ∨ (1000 ≤ k ∧ k ≤ 1004 ∧ z = (kxt E k).1 ∧ f = (kxt E k).2)
theorem kRd.cell {s : State} {H : Heap} {locs : List Loc} {k z : Nat} {f : Nat → Int32} (h : kRd E M k z f) (hA : kAmb E s s.heap) (hH : khr E M H) (hS : va_S (kA E) s.heap H locs) : ∃ cell : Cell, H[kad E k]? = some cell ∧ s.isArrayOf cell .int ∧ cell.vm ≠ .unknown ∧ z ≤ cell.slots.size ∧ cell.slots.size.toInt32 = Int32.ofNat z ∧ (∀ j, j < z → cell.slots[j]? = some (.int (f j))) ∧ (∀ q, cell.vm ≠ .statics q) := by
  rcases h with ⟨h1, rfl⟩ | ⟨h1, h2, rfl, rfl⟩
  · have h2 := hH.2.2 k _ h1
    unfold kco at h2
    rw [if_neg (by show ¬ 100 < 100; omega), if_pos rfl] at h2
    refine ⟨_, by rw [hH.ad h1]; exact h2, hA.2.1.1 _ _, (fun h => by cases h), by rw [arrV_size]; exact Nat.le_refl _, by rw [arrV_size]; first | done | rfl, fun j hj => arrV_read _ _ hj, fun q h => by cases h⟩
  · obtain ⟨cell, c1, c2, c3, c4, c5, c6, c7⟩ := hA.2.2.2.2.2.2.1 k h1 h2
    have hlt := (Array.getElem?_eq_some_iff.mp c1).1
    refine ⟨cell, by rw [hS.2.1 _ hlt c7]; exact c1, c2, c3, c4, c5, c6, ?_⟩
    exact fun q hq => absurd (c2.1 q hq) id
theorem k_iald {i : Int32} {k z j : Nat} {f : Nat → Int32} (hd : decode y.2.1 pc = .ok (.iaload, 1)) (hn : pc + 1 = n) (hr : kRd E M k z f) (hi : i = nI j) (hj : j < z) (hz : z < 2 ^ 31) (kk : Wd E d y cl sl mc ms n L (.int (f j) :: st) M Q) : Wd E d y cl sl mc ms pc L (.int i :: .ref k :: st) M Q := by
  intro p l e R s m args below meth c H locs ls Z hC hx hH hS hl
  subst hn
  obtain ⟨cell, c1, c2, c3, c4, c5, c6, -⟩ := hr.cell (kamb hC) hH hS
  have hcl : i.toNatClampNeg = j := by rw [hi]; exact nI_clamp (by omega)
  refine W.iald (v := .int (f j)) hC.1 hC.2.1 c1 c2 c3 ?_ (by rw [hcl]; exact c6 j hj) rfl rfl hd (kk p l e R s m args below meth c H locs ls Z hC hx hH hS hl)
  rw [hi]
  rintro (h | h)
  · exact nI_pos (by omega) h
  · rw [nI_clamp (by omega)] at h; omega
theorem k_alen {k z : Nat} {f : Nat → Int32} (hd : decode y.2.1 pc = .ok (.arraylength, 1)) (hn : pc + 1 = n) (hr : kRd E M k z f) (kk : Wd E d y cl sl mc ms n L (.int (nI z) :: st) M Q) : Wd E d y cl sl mc ms pc L (.ref k :: st) M Q := by
  intro p l e R s m args below meth c H locs ls Z hC hx hH hS hl
  subst hn
  obtain ⟨cell, c1, c2, c3, c4, c5, c6, -⟩ := hr.cell (kamb hC) hH hS
  exact W.alen (n := nI z) hC.1 hC.2.1 c1 c2 c5 rfl rfl hd (kk p l e R s m args below meth c H locs ls Z hC hx hH hS hl)
theorem k_iast {i a : Int32} {k z j : Nat} (hd : decode y.2.1 pc = .ok (.iastore, 1)) (hn : pc + 1 = n) (hk : M.1[k]? = some (100, z)) (hi : i = nI j) (hj : j < z) (hz : z < 2 ^ 31) (kk : Wd E d y cl sl mc ms n L st (kput M k j a) Q) : Wd E d y cl sl mc ms pc L (.int a :: .int i :: .ref k :: st) M Q := by
  intro p l e R s m args below meth c H locs ls Z hC hx hH hS hl
  subst hn
  have h2 := hH.2.2 k _ hk
  unfold kco at h2
  rw [if_neg (by show ¬ 100 < 100; omega), if_pos rfl] at h2
  show W p l e R s m args below meth c H locs cl sl Z (F0 m pc ls (.int a :: .int i :: .ref (kad E k) :: st.map (kcv E)))
  rw [hH.ad hk]
  have hcl : i.toNatClampNeg = j := by rw [hi]; exact nI_clamp (by omega)
  refine W.iast hC.1 hC.2.1 h2 ((kamb hC).2.1.1 _ _) (fun h => by cases h) ?_ rfl rfl hd fun H1 e1 e2 e3 => ?_
  · rw [hi, arrV_size]
    rintro (h | h)
    · exact nI_pos (by omega) h
    · rw [nI_clamp (by omega)] at h; omega
  · refine kk p l e R s m args below meth c H1 _ ls Z hC hx (hH.set rfl hk e2 e3 (fun k' hne => ⟨rfl, funext fun j' => if_neg (fun h => hne h.1)⟩) ?_) (kS_put hS e2 e3 (Nat.le_add_right _ _)) hl
    unfold kco
    rw [if_neg (by show ¬ 100 < 100; omega), if_pos rfl, e1, arrV_store, hcl]
    congr 2
    funext j'
    by_cases h : j' = j
    · subst h; simp [updV, kput]
    · simp [updV, kput, h]
/-- an array of references -/
theorem kRa {s : State} {H : Heap} {k kd z : Nat} {C : String} (hA : kAmb E s s.heap) (hH : khr E M H) (hk : M.1[k]? = some (kd, z)) (hkd : (kd, C) ∈ kOA) : 100 < kd ∧ H[E.1 + k]? = some (arrV (E.2.2.2.1 kd) z (fun j => va_rf ((M.2.1 k j).map (kad E)))) ∧ ArrOfT s (E.2.2.2.1 kd) (.object C) ∧ va_RA s (E.2.2.2.1 kd) (.object C) := by
  have h0 : 100 < kd := by
    simp only [kOA, List.mem_cons, Prod.mk.injEq, List.not_mem_nil, or_false] at hkd
    omega
  have h2 := hH.2.2 k _ hk
  unfold kco at h2
  dsimp only at h2
  rw [if_neg (by omega), if_neg (by omega)] at h2
  exact ⟨h0, h2, (hA.2.2.1 _ hkd).1, (hA.2.2.1 _ hkd).2.1⟩
theorem k_aald {i : Int32} {k z j kd b : Nat} {C : String} (hd : decode y.2.1 pc = .ok (.aaload, 1)) (hn : pc + 1 = n) (hk : M.1[k]? = some (kd, z)) (hkd : (kd, C) ∈ kOA) (hi : i = nI j) (hj : j < z) (hz : z < 2 ^ 31) (hb : M.2.1 k j = some b) (kk : Wd E d y cl sl mc ms n L (.ref b :: st) M Q) : Wd E d y cl sl mc ms pc L (.int i :: .ref k :: st) M Q := by
  intro p l e R s m args below meth c H locs ls Z hC hx hH hS hl
  subst hn
  obtain ⟨-, h2, h3, -⟩ := kRa (kamb hC) hH hk hkd
  show W p l e R s m args below meth c H locs cl sl Z (F0 m pc ls (.int i :: .ref (kad E k) :: st.map (kcv E)))
  rw [hH.ad hk]
  have hcl : i.toNatClampNeg = j := by rw [hi]; exact nI_clamp (by omega)
  refine W.aald (v := .ref (kad E b)) (ty := .object C) hC.1 hC.2.1 h2 (h3 _ _) rfl (fun h => by cases h) ?_ ?_ rfl rfl hd (kk p l e R s m args below meth c H locs ls Z hC hx hH hS hl)
  · rw [hi, arrV_size]
    rintro (h | h)
    · exact nI_pos (by omega) h
    · rw [nI_clamp (by omega)] at h; omega
  · rw [hcl, arrV_read _ _ hj, hb]
    rfl
theorem k_aast {i : Int32} {k z j kd b ci zb : Nat} {r : vw_C} (hd : decode y.2.1 pc = .ok (.aastore, 1)) (hn : pc + 1 = n) (hk : M.1[k]? = some (kd, z)) (hkd : (kd, r.1) ∈ kOA) (hi : i = nI j) (hj : j < z) (hz : z < 2 ^ 31) (hci : ci < 100) (hcl : vwCl[ci]? = some r) (hb : M.1[b]? = some (ci, zb)) (kk : Wd E d y cl sl mc ms n L st (kputP M k j (some b)) Q) : Wd E d y cl sl mc ms pc L (.ref b :: .int i :: .ref k :: st) M Q := by
  intro p l e R s m args below meth c H locs ls Z hC hx hH hS hl
  subst hn
  obtain ⟨h0, h2, h3, h4⟩ := kRa (kamb hC) hH hk hkd
  show W p l e R s m args below meth c H locs cl sl Z (F0 m pc ls (.ref (kad E b) :: .int i :: .ref (kad E k) :: st.map (kcv E)))
  rw [hH.ad hk, hH.ad hb]
  obtain ⟨cellV, g1, g2, g3, -⟩ := kOb (C := r.1) (T := r.2.1) (N := r.2.2) hH hb hci hcl
  have hcls := ((kamb hC).1 ci r hcl).2
  obtain ⟨kA0, comp, k1, k2, k3, -⟩ := h4
  have hcomp : comp = E.2.1 ci := Option.some.inj (k3.symm.trans hcls.1)
  subst hcomp
  obtain ⟨kC, hkC, -⟩ := hcls.2
  have hclm : i.toNatClampNeg = j := by rw [hi]; exact nI_clamp (by omega)
  refine W.aast hC.1 hC.2.1 h2 (fun q h => by cases h) (fun h => by cases h) k1 k2 rfl hkC ⟨by rw [hi]; exact nI_pos (by omega), by rw [hclm, arrV_size]; exact hj⟩ g1 (fun q h => by rw [g3] at h; cases h) (by rw [g2]; exact hkC) (by rw [g2]; exact va_assign hcls) rfl rfl hd fun H1 e1 e2 e3 => ?_
  refine kk p l e R s m args below meth c H1 _ ls Z hC hx (hH.set rfl hk e2 e3 (fun k' hne => ⟨funext fun j' => if_neg (fun h => hne h.1), rfl⟩) ?_) (kS_put hS e2 e3 (Nat.le_add_right _ _)) hl
  unfold kco
  dsimp only
  rw [if_neg (by omega), if_neg (by omega), e1, arrV_store, hclm]
  congr 2
  funext j'
  by_cases h : j' = j
  · subst h; simp [updV, kputP, va_rf, hH.ad hb]
  · simp [updV, kputP, h]
/-- a new cell behind the others -/
theorem khr.push {H H1 : Heap} {q : Nat × Nat} (h : khr E M H) (hl : M.1.length < 1000) (hz : H1.size = H.size + 1) (ho : ∀ a : Nat, a < H.size → H1[a]? = H[a]?) (hc : kco E H1 (E.1 + M.1.length) q.1 q.2 (fun _ => none) (fun _ => 0)) : khr E (kpush M q) H1 := by
  refine ⟨by rw [hz, h.1]; simp only [kpush, List.length_append, List.length_cons, List.length_nil]; omega, by simp only [kpush, List.length_append, List.length_cons, List.length_nil]; omega, fun k q' hk => ?_⟩
  by_cases hlt : k < M.1.length
  · have hk' : M.1[k]? = some q' := by
      have : (M.1 ++ [q])[k]? = some q' := hk
      rwa [List.getElem?_append_left hlt] at this
    have e1 : (kpush M q).2.1 k = M.2.1 k := funext fun j => if_neg (by omega)
    have e2 : (kpush M q).2.2 k = M.2.2 k := funext fun j => if_neg (by omega)
    rw [e1, e2]
    exact (h.2.2 k q' hk').kept (ho _ (by rw [h.1]; omega))
  · have hk' : (M.1 ++ [q])[k]? = some q' := hk
    rw [List.getElem?_append_right (by omega)] at hk'
    have hz2 : k - M.1.length < 1 := (List.getElem?_eq_some_iff.mp hk').1
    have e : k = M.1.length := by omega
    subst e
    rw [Nat.sub_self] at hk'
    cases hk'
    have e1 : (kpush M q).2.1 M.1.length = fun _ => none := funext fun j => if_pos rfl
    have e2 : (kpush M q).2.2 M.1.length = fun _ => 0 := funext fun j => if_pos rfl
    rw [e1, e2]
    exact hc
theorem kS_push {H0 H H1 : Heap} {locs : List Loc} (h : va_S (kA E) H0 H locs) (hz : H1.size = H.size + 1) (ho : ∀ a : Nat, a < H.size → H1[a]? = H[a]?) : va_S (kA E) H0 H1 locs :=
  ⟨by have := h.1; omega, fun q h1 h2 => (ho q (Nat.lt_of_lt_of_le h1 h.1)).trans (h.2.1 q h1 h2), h.2.2⟩
theorem k_new {ci N i : Nat} {C : String} {T : u_T} {ty : Nat → FieldType} (hd : decode y.2.1 pc = .ok (.new i, 3)) (hn : pc + 3 = n) (hc : kCls ci C T N ty) (hg : Cond.classLink y.1.cls i C ∈ kG) (hg2 : Cond.instantiable C N ∈ kG) (hg3 : Cond.initialized C ∈ kG) (hdf : ∀ j, j < N → defaultValue (ty j) = kfv E (kfk ci j) none 0) (h1 : cl + 1 ≤ mc) (h2 : sl + N ≤ ms) (hl1 : M.1.length < 1000)
    (kk : Wd E d y (cl + 1) (sl + N) mc ms n L (.ref M.1.length :: st) (kpush M (ci, N)) Q) : Wd E d y cl sl mc ms pc L st M Q := by
  intro p l e R s m args below meth c H locs ls Z hC hx hH hS hl
  subst hn
  obtain ⟨hci, hcl, hin, hty, hnm⟩ := hc
  have hKn := (kamb hC).1 ci _ hcl
  have hR := kroom hC
  refine W.newcK hC.1 hC.2.1 (kown hC) (kgood hC hg) (kgood hC hg2) (kgood hC hg3) rfl hd (by omega) (by omega) hKn.2.1 rfl fun H1 kC hkC e1 z1 o1 => ?_
  have e0 : H.size = kad E M.1.length := by rw [hH.1]; exact (if_pos hl1).symm
  have := kk p l e R s m args below meth c H1 locs ls Z hC hx (hH.push hl1 z1 o1 ?_) (kS_push hS z1 o1) hl
  · rw [e0]; exact this
  · unfold kco
    rw [if_pos hci]
    refine ⟨_, hcl, ?_⟩
    rw [← hH.1]
    exact (u_born ty hC.2.2.2.2.2.2.2.1 hin hKn hkC e1 hty).to hdf
theorem k_newa {i : Int32} {z : Nat} (hd : decode y.2.1 pc = .ok (.newarray .int, 2)) (hn : pc + 2 = n) (hg : Cond.arrayClass .int ∈ kG) (hi : i = nI z) (hz : z ≤ 1000) (h1 : cl + 1 ≤ mc) (h2 : sl + z ≤ ms) (hl1 : M.1.length < 1000)
    (kk : Wd E d y (cl + 1) (sl + z) mc ms n L (.ref M.1.length :: st) (kpush M (100, z)) Q) : Wd E d y cl sl mc ms pc L (.int i :: st) M Q := by
  intro p l e R s m args below meth c H locs ls Z hC hx hH hS hl
  subst hn
  have hR := kroom hC
  have hz31 : z < 2 ^ 31 := by omega
  refine va_newaK (atype := .int) (N := z) hC.1 hC.2.1 (kgood hC hg) rfl hd rfl (by rw [hi]; exact nI_pos hz31) (by rw [hi]; exact nI_clamp hz31) (by simp only [componentBytes, newarray.typeOf]; omega) (by omega) (by omega) rfl fun H1 cA e1 z1 o1 hAr hNm => ?_
  have hcA : cA = E.2.2.2.1 100 := Option.some.inj (hNm.symm.trans (kamb hC).2.1.2)
  subst hcA
  have e0 : H.size = kad E M.1.length := by rw [hH.1]; exact (if_pos hl1).symm
  have := kk p l e R s m args below meth c H1 locs ls Z hC hx (hH.push hl1 z1 o1 ?_) (kS_push hS z1 o1) hl
  · rw [e0]; exact this
  · unfold kco
    rw [if_neg (by show ¬ 100 < 100; omega), if_pos rfl, ← hH.1]
    exact e1
theorem k_anew {i : Int32} {z kd ix : Nat} {C : String} (hd : decode y.2.1 pc = .ok (.anewarray ix, 3)) (hn : pc + 3 = n) (hg : Cond.classLink y.1.cls ix C ∈ kG) (hkd : (kd, C) ∈ kOA) (hi : i = nI z) (hz : z ≤ 1000) (h1 : cl + 1 ≤ mc) (h2 : sl + z ≤ ms) (hl1 : M.1.length < 1000)
    (kk : Wd E d y (cl + 1) (sl + z) mc ms n L (.ref M.1.length :: st) (kpush M (kd, z)) Q) : Wd E d y cl sl mc ms pc L (.int i :: st) M Q := by
  intro p l e R s m args below meth c H locs ls Z hC hx hH hS hl
  subst hn
  have hR := kroom hC
  have hz31 : z < 2 ^ 31 := by omega
  have hcl : i.toNatClampNeg = z := by rw [hi]; exact nI_clamp hz31
  obtain ⟨q1, q2, q3⟩ := (kamb hC).2.2.1 _ hkd
  refine W.anew hC.1 hC.2.1 (kown hC) (kgood hC hg) q3.use rfl hd rfl (by rw [hi]; exact nI_pos hz31) (by rw [hcl]; omega) (by omega) (by rw [hcl]; omega) fun cA kA0 comp a1 a2 a3 a4 => ?_
  obtain ⟨kA1, comp1, b1, b2, b3, b4⟩ := q2
  have hcA : cA = E.2.2.2.1 kd := Option.some.inj (a1.symm.trans b4)
  subst hcA
  rw [hcl]
  have z1 : (H.push { cls := E.2.2.2.1 kd, slots := Array.replicate z .null, vm := .none } : Heap).size = H.size + 1 := by simp
  have o1 : ∀ a : Nat, a < H.size → (H.push { cls := E.2.2.2.1 kd, slots := Array.replicate z .null, vm := .none } : Heap)[a]? = H[a]? := fun a ha => by rw [Array.getElem?_push, if_neg (Nat.ne_of_lt ha)]
  have e0 : H.size = kad E M.1.length := by rw [hH.1]; exact (if_pos hl1).symm
  have := kk p l e R s m args below meth c _ locs ls Z hC hx (hH.push hl1 z1 o1 ?_) (kS_push hS z1 o1) hl
  · rw [e0] at *; exact this
  · have h0 : 100 < kd := by
      simp only [kOA, List.mem_cons, Prod.mk.injEq, List.not_mem_nil, or_false] at hkd
      omega
    unfold kco
    dsimp only
    rw [if_neg (by omega), if_neg (by omega), ← hH.1, arrV_new]
    simp [va_rf]
end KH
end
section
/-- a method's words: it can be called -/
def kMw (z : kY) (np : Nat) : Prop := Cond.code z.1 z.2.1 z.2.2.1 z.2.2.2 ∈ kG ∧ Cond.initialized z.1.cls ∈ kG ∧ (z.1.cls ≠ "java/lang/invoke/MethodHandle" ∧ z.1.cls ≠ "java/lang/invoke/VarHandle" ∧ (parseMethodDescriptor z.1.desc).map (fun d => d.parameters.length) = some np) ∧ z.2.2.1 ≤ 20
section KC
variable {E : kE} {d : Nat} {y z : kY} {cl sl mc ms pc n np mc' ms' : Nat} {L : List (Option Value)} {st : List Value} {M : kM} {Q Qc : Option Value → kM → Prop}
theorem kPc.at {s : State} {H : Heap} {locs : List Loc} {as : List Value} (hA : kAmb E s s.heap) (hz : E.1 ≤ s.heap.size) (hH : khr E M H) (hS : va_S (kA E) s.heap H locs) : ∀ U : State, U.heap = H → s.WarmedH U.vm → kPc E as M (as.map (kcv E)).toArray U := by
  intro U hU hW
  refine ⟨rfl, ?_, ?_, by rw [hU]; exact hH⟩
  · rw [hU]
    exact (hA.kept (fun a h1 h2 => hS.2.1 a h1 h2)).warm hW
  · rw [hU]
    exact Nat.le_trans hz hS.1
/-- behind a call -/
theorem k_run {p : Program} {l : Launch} {e : Env} {R : Room} {s : State} {m : MethodId} {args : Array Value} {below : List Frame} {meth : Method} {c : Code} {H : Heap} {locs : List Loc} {ls : Array Slot} {Z : State → Prop} {a : Array Value} {st0 : List Value} {g : List Value}
    (hr : va_Run p l e R s m args below meth c H locs cl sl mc' ms' (F0 m pc ls g) (st.map (kcv E)) (kQc E Qc a) (kA E)) (hC : kCx E d y mc ms p R s m args meth c)
    (hx : ∀ (v : Option Value) (M' : kM) (H' : Heap) (locs' : List Loc) (ls' : Array Slot) (pc' : Nat), Q v M' → khr E M' H' → va_S (kA E) s.heap H' locs' → kret y v pc' → W p l e R s m args below meth c H' locs' mc ms Z (F0 m pc' ls' ((v.map (kcv E)).toList)))
    (hS : va_S (kA E) s.heap H locs) (hl : klr E ls y.2.2.1 L)
    (kk : ∀ (v : Option Value) (M' : kM), Qc v M' → Wd E d y (cl + mc') (sl + ms') mc ms (pc + 3) L (v.toList ++ st) M' Q) : W p l e R s m args below meth c H locs cl sl Z (F0 m pc ls g) := by
  intro T hT X
  obtain ⟨v, st₀, t, T', Lo, h0, X', hL, e1, e2, ⟨v', M', hv, hq, hh, hz, hk⟩, stp⟩ := hr T hT X
  cases hv
  rw [h0] at hz hk
  have hS' : va_S (kA E) s.heap T'.heap (locs ++ Lo) := by
    refine ⟨Nat.le_trans hS.1 (by rw [e1]; exact hz), fun q h1 h2 => by rw [e1, hk q (Nat.lt_of_lt_of_le h1 hS.1) h2]; exact hS.2.1 q h1 h2, fun q hq => ?_⟩
    rcases List.mem_append.mp hq with h | h
    · exact hS.2.2 q h
    · exact hL q h
  obtain ⟨t2, a1, b1⟩ := kk v' M' hq p l e R s m args below meth c T'.heap (locs ++ Lo) ls Z hC hx (by rw [e1]; exact hh) hS' hl T' rfl X'
  refine ⟨t2, stp t2 ?_, b1⟩
  cases v' <;> exact a1
theorem k_frm {R : Room} (h : d + 1 ≤ R.frames ∧ (d + 1) * 40 ≤ R.locals ∧ mc ≤ R.cells ∧ ms ≤ R.slots) (h1 : 1 ≤ d) (hm : z.2.2.1 ≤ 20) : (kRm (d - 1) mc' ms').frames + 1 ≤ R.frames ∧ 8 + (z.2.2.1 + 11) + (kRm (d - 1) mc' ms').locals ≤ R.locals := by
  refine ⟨by simp only [kRm]; omega, ?_⟩
  simp only [kRm]
  have : d - 1 + 1 = d := by omega
  rw [this]
  omega
theorem k_invV {i k ci zz N : Nat} {C : String} {T : u_T} {ty : Nat → FieldType} {As : List Value} (hd : decode y.2.1 pc = .ok (.invokevirtual i, 3)) (hn : pc + 3 = n) (hz : kMw z np) (hg : Cond.methodLink y.1.cls i z.1 ∈ kG) (hg2 : Cond.instanceMethod z.1 ∈ kG) (hg3 : Cond.selects C z.1 z.1 ∈ kG) (hc : kCls ci C T N ty) (hk : M.1[k]? = some (ci, zz)) (hnp : As.length = np) (hst : (st.map fun v => v.category).sum ≤ 8) (h1 : 1 ≤ d) (hr1 : cl + mc' ≤ mc) (hr2 : sl + ms' ≤ ms)
    (hM : Ct E (d - 1) z mc' ms' (.ref k :: As) M Qc) (kk : ∀ (v : Option Value) (M' : kM), Qc v M' → Wd E d y (cl + mc') (sl + ms') mc ms n L (v.toList ++ st) M' Q) : Wd E d y cl sl mc ms pc L (As.reverse ++ .ref k :: st) M Q := by
  intro p l e R s m args below meth c H locs ls Z hC hx hH hS hl
  subst hn
  have hR := kroom hC
  have hf := k_frm (z := z) (mc' := mc') (ms' := ms') hR h1 hz.2.2.2
  have hts := hC.2.2.2.2.2.2.2.1
  obtain ⟨cellV, g1, g2, g3, -⟩ := kOb hH hk hc.1 hc.2.1
  have hfc := ((kamb hC).1 ci _ hc.2.1).2.1
  refine k_run (st0 := []) (va_runV (As := As.map (kcv E)) (rest := st.map (kcv E)) (b := kad E k) (C := C) (g := F0 m pc ls ((As.reverse ++ .ref k :: st).map (kcv E))) ⟨hC.1, hC.2.1, hC.2.2.1, kown hC, hts⟩ (hM l)
    ⟨callB_of np hts (kG_good (fun w h => h) hz.1) rfl rfl rfl (kgood hC hz.2.1) (kgood hC hg) hz.2.2.1 hf, kgood hC hg2, kgood hC hg3⟩
    ⟨kPc.blind E _ M, ⟨cellV, by rw [hH.ad hk]; exact g1, by rw [g3]; rfl, by rw [g2]; exact hfc⟩, kPc.at (as := .ref k :: As) (kamb hC) hC.2.2.2.2.2.2.2.2.2.2 hH hS⟩ rfl (by rw [List.length_map]; exact hnp) hl.1 (by simp [kcv]) (lv_room (by rw [kcv_sum]; exact hst)) hd ⟨by omega, by omega⟩) hC hx hS hl kk
theorem k_invS {i : Nat} {As : List Value} (hd : decode y.2.1 pc = .ok (.invokestatic i, 3)) (hn : pc + 3 = n) (hz : kMw z np) (hg : Cond.methodLink y.1.cls i z.1 ∈ kG) (hg2 : Cond.static z.1 ∈ kG) (hnp : As.length = np) (hst : (st.map fun v => v.category).sum ≤ 8) (h1 : 1 ≤ d) (hr1 : cl + mc' ≤ mc) (hr2 : sl + ms' ≤ ms)
    (hM : Ct E (d - 1) z mc' ms' As M Qc) (kk : ∀ (v : Option Value) (M' : kM), Qc v M' → Wd E d y (cl + mc') (sl + ms') mc ms n L (v.toList ++ st) M' Q) : Wd E d y cl sl mc ms pc L (As.reverse ++ st) M Q := by
  intro p l e R s m args below meth c H locs ls Z hC hx hH hS hl
  subst hn
  have hR := kroom hC
  have hf := k_frm (z := z) (mc' := mc') (ms' := ms') hR h1 hz.2.2.2
  have hts := hC.2.2.2.2.2.2.2.1
  refine k_run (st0 := []) (va_runS (As := As.map (kcv E)) (rest := st.map (kcv E)) (g := F0 m pc ls ((As.reverse ++ st).map (kcv E))) ⟨hC.1, hC.2.1, hC.2.2.1, kown hC, hts⟩ (hM l)
    ⟨callB_of np hts (kG_good (fun w h => h) hz.1) rfl rfl rfl (kgood hC hz.2.1) (kgood hC hg) hz.2.2.1 hf, kgood hC hg2⟩
    ⟨kPc.blind E _ M, kPc.at (as := As) (kamb hC) hC.2.2.2.2.2.2.2.2.2.2 hH hS⟩ rfl (by rw [List.length_map]; exact hnp) hl.1 (by simp) (lv_room (by rw [kcv_sum]; exact hst)) hd ⟨by omega, by omega⟩) hC hx hS hl kk
theorem k_invI {i k : Nat} {As : List Value} (hd : decode y.2.1 pc = .ok (.invokespecial i, 3)) (hn : pc + 3 = n) (hz : kMw z np) (hret : z.2.2.2 = none) (hnm : z.1.name = "<init>") (hg : Cond.methodLink y.1.cls i z.1 ∈ kG) (hg2 : Cond.instanceMethod z.1 ∈ kG) (hnp : As.length = np) (hst : (st.map fun v => v.category).sum ≤ 8) (h1 : 1 ≤ d) (hr1 : cl + mc' ≤ mc) (hr2 : sl + ms' ≤ ms)
    (hM : Ct E (d - 1) z mc' ms' (.ref k :: As) M Qc) (kk : ∀ (v : Option Value) (M' : kM), Qc v M' → Wd E d y (cl + mc') (sl + ms') mc ms n L (v.toList ++ st) M' Q) : Wd E d y cl sl mc ms pc L (As.reverse ++ .ref k :: st) M Q := by
  intro p l e R s m args below meth c H locs ls Z hC hx hH hS hl
  subst hn
  have hR := kroom hC
  have hf := k_frm (z := z) (mc' := mc') (ms' := ms') hR h1 hz.2.2.2
  have hts := hC.2.2.2.2.2.2.2.1
  have hcb := callB_of (ret := z.2.2.2) np hts (kG_good (fun w h => h) hz.1) rfl (rm := kRm (d - 1) mc' ms') (mc := mc') (ms := ms') rfl rfl (kgood hC hz.2.1) (kgood hC hg) hz.2.2.1 hf
  rw [hret] at hcb
  have hMl := hM l
  rw [hret] at hMl
  refine k_run (st0 := []) (va_runI (As := As.map (kcv E)) (rest := st.map (kcv E)) (b := kad E k) (g := F0 m pc ls ((As.reverse ++ .ref k :: st).map (kcv E))) ⟨hC.1, hC.2.1, hC.2.2.1, kown hC, hts⟩ hMl
    ⟨hcb, hnm, kgood hC hg2⟩
    ⟨kPc.blind E _ M, kPc.at (as := .ref k :: As) (kamb hC) hC.2.2.2.2.2.2.2.2.2.2 hH hS⟩ rfl (by rw [List.length_map]; exact hnp) hl.1 (by simp [kcv]) (lv_room (by rw [kcv_sum]; exact hst)) hd ⟨by omega, by omega⟩) hC hx hS hl kk
theorem k_invIN {i k : Nat} {As : List Value} (hd : decode y.2.1 pc = .ok (.invokespecial i, 3)) (hn : pc + 3 = n) (hz : kMw z np) (hret : z.2.2.2 = none) (hnm : z.1.name = "<init>") (hg : (y.1.cls, i, z.1) ∈ kNestM) (hg2 : Cond.instanceMethod z.1 ∈ kG) (hnp : As.length = np) (hst : (st.map fun v => v.category).sum ≤ 8) (h1 : 1 ≤ d) (hr1 : cl + mc' ≤ mc) (hr2 : sl + ms' ≤ ms)
    (hM : Ct E (d - 1) z mc' ms' (.ref k :: As) M Qc) (kk : ∀ (v : Option Value) (M' : kM), Qc v M' → Wd E d y (cl + mc') (sl + ms') mc ms n L (v.toList ++ st) M' Q) : Wd E d y cl sl mc ms pc L (As.reverse ++ .ref k :: st) M Q := by
  intro p l e R s m args below meth c H locs ls Z hC hx hH hS hl
  subst hn
  have hR := kroom hC
  have hf := k_frm (z := z) (mc' := mc') (ms' := ms') hR h1 hz.2.2.2
  have hts := hC.2.2.2.2.2.2.2.1
  have hcb := va_cnB (ret := z.2.2.2) (R := R) np hts (kG_good (fun w h => h) hz.1) rfl (rm := kRm (d - 1) mc' ms') (mc := mc') (ms := ms') rfl rfl ((kamb hC).2.2.2.1 _ hg) (kgood hC hz.2.1) hz.2.2.1 hf
  dsimp only at hcb
  rw [hret] at hcb
  have hMl := hM l
  rw [hret] at hMl
  refine k_run (st0 := []) (va_runIN (As := As.map (kcv E)) (rest := st.map (kcv E)) (b := kad E k) (g := F0 m pc ls ((As.reverse ++ .ref k :: st).map (kcv E))) ⟨hC.1, hC.2.1, hC.2.2.1, kown hC, hts⟩ hMl
    ⟨hcb, hnm, kgood hC hg2⟩
    ⟨kPc.blind E _ M, kPc.at (as := .ref k :: As) (kamb hC) hC.2.2.2.2.2.2.2.2.2.2 hH hS⟩ rfl (by rw [List.length_map]; exact hnp) hl.1 (by simp [kcv]) (lv_room (by rw [kcv_sum]; exact hst)) hd ⟨by omega, by omega⟩) hC hx hS hl kk
/-- Object's own constructor -/
theorem k_obj {i k : Nat} (hd : decode y.2.1 pc = .ok (.invokespecial i, 3)) (hn : pc + 3 = n) (hg : Cond.methodLink y.1.cls i objectInit ∈ kG) (hg2 : Cond.instanceMethod objectInit ∈ kG) (hg3 : Cond.code objectInit ⟨#[0xb1]⟩ 1 none ∈ kG) (hst : (st.map fun v => v.category).sum ≤ 8) (kk : Wd E d y cl sl mc ms n L st M Q) : Wd E d y cl sl mc ms pc L (.ref k :: st) M Q := by
  intro p l e R s m args below meth c H locs ls Z hC hx hH hS hl
  subst hn
  have hR := kroom hC
  exact W.objInit hC.1 hC.2.1 (kown hC) (kgood hC hg) (kgood hC hg2) (kgood hC hg3) rfl (hl.1.trans hC.2.2.1.symm) rfl hd (by omega) (by
    have h8 : ((st.map (kcv E)).map fun v => v.category).sum ≤ 8 := by rw [kcv_sum]; exact hst
    show 2 * 0 + _ + 12 ≤ _; omega) (kk p l e R s m args below meth c H locs ls Z hC hx hH hS hl)
theorem k_max {i : Nat} {a b : Int32} (hd : decode y.2.1 pc = .ok (.invokestatic i, 3)) (hn : pc + 3 = n) (hg : Cond.methodLink y.1.cls i Lib.Math.max.name ∈ kG) (hg2 : Cond.static Lib.Math.max.name ∈ kG) (hg3 : Cond.initialized "java/lang/Math" ∈ kG) (hg4 : Cond.code Lib.Math.max.name Lib.Math.max.code 2 (some .int) ∈ kG) (hst : (st.map fun v => v.category).sum ≤ 8) (h1 : cl ≤ mc) (h2 : sl ≤ ms) (kk : Wd E d y cl sl mc ms n L (.int (if a < b then b else a) :: st) M Q) : Wd E d y cl sl mc ms pc L (.int b :: .int a :: st) M Q := by
  intro p l e R s m args below meth c H locs ls Z hC hx hH hS hl
  subst hn
  have hR := kroom hC
  exact va_mmax hC.1 hC.2.1 (hC.2.2.1.trans hl.1.symm) (kown hC) (kgood hC hg) (kgood hC hg2) (kgood hC hg3) (kgood hC hg4) (by omega) (by
    have h8 : ((st.map (kcv E)).map fun v => v.category).sum ≤ 8 := by rw [kcv_sum]; exact hst
    omega) (by omega) (by omega) hd (kk p l e R s m args below meth c H locs ls Z hC hx hH hS hl)
theorem k_min {i : Nat} {a b : Int32} (hd : decode y.2.1 pc = .ok (.invokestatic i, 3)) (hn : pc + 3 = n) (hg : Cond.methodLink y.1.cls i Lib.Math.min.name ∈ kG) (hg2 : Cond.static Lib.Math.min.name ∈ kG) (hg3 : Cond.initialized "java/lang/Math" ∈ kG) (hg4 : Cond.code Lib.Math.min.name Lib.Math.min.code 2 (some .int) ∈ kG) (hst : (st.map fun v => v.category).sum ≤ 8) (h1 : cl ≤ mc) (h2 : sl ≤ ms) (kk : Wd E d y cl sl mc ms n L (.int (if b < a then b else a) :: st) M Q) : Wd E d y cl sl mc ms pc L (.int b :: .int a :: st) M Q := by
  intro p l e R s m args below meth c H locs ls Z hC hx hH hS hl
  subst hn
  have hR := kroom hC
  exact va_mmin hC.1 hC.2.1 (hC.2.2.1.trans hl.1.symm) (kown hC) (kgood hC hg) (kgood hC hg2) (kgood hC hg3) (kgood hC hg4) (by omega) (by
    have h8 : ((st.map (kcv E)).map fun v => v.category).sum ≤ 8 := by rw [kcv_sum]; exact hst
    omega) (by omega) (by omega) hd (kk p l e R s m args below meth c H locs ls Z hC hx hH hS hl)
/-- a static array of the class's own, or of a nest mate -/
theorem k_gets {i k : Nat} {C nm : String} (hd : decode y.2.1 pc = .ok (.getstatic i, 3)) (hn : pc + 3 = n) (hm : (C, nm, k) ∈ kStat) (hg : Cond.fieldLink y.1.cls i C nm "[I" ∈ kG) (kk : Wd E d y cl sl mc ms n L (.ref k :: st) M Q) : Wd E d y cl sl mc ms pc L st M Q := by
  intro p l e R s m args below meth c H locs ls Z hC hx hH hS hl
  subst hn
  exact va_gets hC.1 hC.2.1 ((kamb hC).2.2.2.2.2.1 _ hm) hS (kown hC) (kgood hC hg) (fun x h => h) hd (kk p l e R s m args below meth c H locs ls Z hC hx hH hS hl)
theorem k_ldcS {i j : Nat} (hd : decode y.2.1 pc = .ok (.ldc i, 2)) (hn : pc + 2 = n) (hy : y.1.cls = "RopeBorder$Reader") (hi : (i = 15 ∧ j = 1005) ∨ (i = 24 ∧ j = 1006)) (kk : Wd E d y cl sl mc ms n L (.ref j :: st) M Q) : Wd E d y cl sl mc ms pc L st M Q := by
  intro p l e R s m args below meth c H locs ls Z hC hx hH hS hl
  subst hn
  have ho := kown hC
  rw [hy] at ho
  obtain ⟨-, -, -, -, -, -, -, -, h9, h10, -⟩ := kamb hC
  rcases hi with ⟨rfl, rfl⟩ | ⟨rfl, rfl⟩
  · exact va_ldcS hC.1 hC.2.1 ho h9 hd (kk p l e R s m args below meth c H locs ls Z hC hx hH hS hl)
  · exact va_ldcS hC.1 hC.2.1 ho h10 hd (kk p l e R s m args below meth c H locs ls Z hC hx hH hS hl)
/-- System.arraycopy of int arrays, from one that can be read into one of the memory -/
theorem k_copy {i k0 k1 n0 n1 a b z : Nat} {f : Nat → Int32} {ia ib iz : Int32} (hd : decode y.2.1 pc = .ok (.invokestatic i, 3)) (hn : pc + 3 = n) (hg : Cond.methodLink y.1.cls i arraycopyName ∈ kG) (hg2 : Cond.native arraycopyName ∈ kG) (hg3 : Cond.static arraycopyName ∈ kG) (hg4 : Cond.initialized "java/lang/System" ∈ kG)
    (hr : kRd E M k0 n0 f) (hk : M.1[k1]? = some (100, n1)) (ha : ia = nI a) (hb : ib = nI b) (hz : iz = nI z) (h0 : a + z ≤ n0) (h1 : b + z ≤ n1) (hn0 : n0 < 2 ^ 31) (hn1 : n1 < 2 ^ 31) (hst : (st.map fun v => v.category).sum ≤ 8)
    (kk : Wd E d y cl sl mc ms n L st (kcopy M k1 (va_cpy f (M.2.2 k1) a b z)) Q) : Wd E d y cl sl mc ms pc L (.int iz :: .int ib :: .ref k1 :: .int ia :: .ref k0 :: st) M Q := by
  intro p l e R s m args below meth c H locs ls Z hC hx hH hS hl
  subst hn
  have hR := kroom hC
  obtain ⟨c0, q1, q2, q3, q4, q5, q6, q7⟩ := hr.cell (kamb hC) hH hS
  have h2 := hH.2.2 k1 _ hk
  unfold kco at h2
  rw [if_neg (by show ¬ 100 < 100; omega), if_pos rfl] at h2
  have hd1 := (kamb hC).2.1.1 n1 (fun j => .int (M.2.2 k1 j))
  obtain ⟨-, kk0, hk0, cm0, hkk0⟩ := q2
  obtain ⟨-, kk1, hk1, cm1, hkk1⟩ := hd1
  have ca : ia.toNatClampNeg = a := by rw [ha]; exact nI_clamp (by omega)
  have cb : ib.toNatClampNeg = b := by rw [hb]; exact nI_clamp (by omega)
  have cz : iz.toNatClampNeg = z := by rw [hz]; exact nI_clamp (by omega)
  have ta : ia.toInt = (a : Int) := by rw [ha]; exact nI_toInt (by omega)
  have tb : ib.toInt = (b : Int) := by rw [hb]; exact nI_toInt (by omega)
  have tz : iz.toInt = (z : Int) := by rw [hz]; exact nI_toInt (by omega)
  have h8 : ((st.map (kcv E)).map fun v => v.category).sum ≤ 8 := by rw [kcv_sum]; exact hst
  show W p l e R s m args below meth c H locs cl sl Z (F0 m pc ls (.int iz :: .int ib :: .ref (kad E k1) :: .int ia :: .ref (kad E k0) :: st.map (kcv E)))
  rw [hH.ad hk]
  intro T hT X
  obtain ⟨vm', X', step⟩ := X.arraycopy hC.1 (kown hC) (kgood hC hg) (kgood hC hg2) (kgood hC hg3) (kgood hC hg4) (src := kad E k0) (dst := E.1 + k1) (cs := c0) (cd := arrV (E.2.2.2.1 100) n1 (fun j => .int (M.2.2 k1 j))) (srcPos := ia) (destPos := ib) (n := iz) (by rw [hT]; exact q1) (by rw [hT]; exact h2)
    (fun q h => q7 q h) (fun _ h => by cases h) q3 (fun h => by cases h) hk0 hk1 hkk0 hkk1 (by simp [refKind]) (by rw [ha]; exact nI_pos (by omega)) (by rw [hb]; exact nI_pos (by omega)) (by rw [hz]; exact nI_pos (by omega))
    (by rw [ta, tz]; omega)
    (by rw [tb, tz, arrV_size]; omega)
    (fun vm₁ _ j hj => by
      rw [cz] at hj
      have e : c0.slots.getD (ia.toNatClampNeg + j) .null = .int (f (a + j)) := by
        rw [ca, Array.getD_eq_getD_getElem?, q6 _ (by omega)]
        rfl
      refine ⟨?_, ?_⟩
      · rw [e]; rfl
      · rw [e]; exact trivial)
    (g := F0 m pc ls (.int iz :: .int ib :: .ref (E.1 + k1) :: .int ia :: .ref (kad E k0) :: st.map (kcv E))) rfl (hl.1.trans hC.2.2.1.symm) (rest := st.map (kcv E)) rfl (by rw [hC.2.1]; exact hd) (by omega) (by
      have h9 : nativeFrameWords "java/lang/System" "arraycopy" 5 + 11 ≤ 32 := by decide +kernel
      show 2 * 0 + _ + _ ≤ _; omega)
  have e1 : copied c0 (arrV (E.2.2.2.1 100) n1 (fun j => .int (M.2.2 k1 j))) ia ib iz = arrV (E.2.2.2.1 100) n1 (fun j => .int (va_cpy f (M.2.2 k1) a b z j)) := by
    unfold copied
    rw [ca, cb, cz]
    have e : c0.stretch a z = (List.range z).map (fun j => .int (f (a + j))) := by
      unfold Cell.stretch
      apply List.map_congr_left
      intro j hj
      have hj' := List.mem_range.mp hj
      rw [Array.getD_eq_getD_getElem?, q6 _ (by omega)]
      rfl
    rw [e, Cell.storeRun, va_pairs]
    congr 1
    funext k
    simp only [va_cpy, List.length_map, List.length_range, Nat.add_zero]
    by_cases h : b ≤ k ∧ k < b + z
    · rw [if_pos h, if_pos h, List.getD_eq_getElem?_getD, List.getElem?_map, List.getElem?_range (by omega)]
      rfl
    · rw [if_neg h, if_neg h]
  rw [e1] at X' step
  have hlt : E.1 + k1 < H.size := (Array.getElem?_eq_some_iff.mp h2).1
  have hheap : ((T.setVm vm').setCell (E.1 + k1) (arrV (E.2.2.2.1 100) n1 (fun j => .int (va_cpy f (M.2.2 k1) a b z j)))).heap = H.setIfInBounds (E.1 + k1) (arrV (E.2.2.2.1 100) n1 (fun j => .int (va_cpy f (M.2.2 k1) a b z j))) := by rw [← hT]; rfl
  have oq : ∀ q : Nat, q ≠ E.1 + k1 → (H.setIfInBounds (E.1 + k1) (arrV (E.2.2.2.1 100) n1 (fun j => .int (va_cpy f (M.2.2 k1) a b z j))))[q]? = H[q]? := fun q hq => by simp [Array.getElem?_setIfInBounds, Ne.symm hq]
  have hAk : kA E (E.1 + k1) := Nat.le_add_right _ _
  obtain ⟨t, a1, b1⟩ := kk p l e R s m args below meth c _ _ ls Z hC hx (hH.set (M' := kcopy M k1 (va_cpy f (M.2.2 k1) a b z)) rfl hk (by simp) oq (fun k' hne => ⟨rfl, funext fun j' => if_neg hne⟩) (by
      unfold kco
      rw [if_neg (by show ¬ 100 < 100; omega), if_pos rfl]
      simp [Array.getElem?_setIfInBounds, hlt, kcopy])) ⟨by simp; exact hS.1, fun q g1 g2 => by
      rw [oq q (fun e => g2 (by rw [e]; exact hAk))]
      exact hS.2.1 q g1 g2, fun q hq => by
      rcases List.mem_append.mp hq with h | h
      · exact hS.2.2 q h
      · obtain ⟨z, -, hz⟩ := List.mem_map.mp h
        rw [← hz]
        exact hAk⟩ hl _ hheap X'
  exact ⟨t, step t a1, b1⟩
end KC
end
