section
-- ===== PART A: goes FIRST, ahead of the names: the tables' words, and 'selects' of the private methods out of them =====
/-- a private method of a class that the tables say can be made, by its rows of tables_1 -/
def lw_okq (q : MethodName × Nat) : Prop := (q.1.cls ≠ "java/lang/invoke/MethodHandle" ∧ q.1.cls ≠ "java/lang/invoke/VarHandle") ∧ Cond.instantiable q.1.cls q.2 ∈ tables_1 ∧ Cond.privateMethod q.1 ∈ tables_1 ∧ Cond.instanceMethod q.1 ∈ tables_1
theorem lw_p0 : lw_okq (⟨"ThumbSea$Page", "hasTwoSides", "()Z"⟩, 2) := ⟨⟨by decide +kernel, by decide +kernel⟩, List.mem_of_getElem? (i := 24) (by decide +kernel), List.mem_of_getElem? (i := 292) (by decide +kernel), List.mem_of_getElem? (i := 293) (by decide +kernel)⟩
theorem lw_p1 : lw_okq (⟨"ThumbSea$Crowd", "clearHistory", "()V"⟩, 10) := ⟨⟨by decide +kernel, by decide +kernel⟩, List.mem_of_getElem? (i := 40) (by decide +kernel), List.mem_of_getElem? (i := 314) (by decide +kernel), List.mem_of_getElem? (i := 315) (by decide +kernel)⟩
theorem lw_p2 : lw_okq (⟨"ThumbSea$Crowd", "likedBy", "(LThumbSea$Person;)I"⟩, 10) := ⟨⟨by decide +kernel, by decide +kernel⟩, List.mem_of_getElem? (i := 40) (by decide +kernel), List.mem_of_getElem? (i := 344) (by decide +kernel), List.mem_of_getElem? (i := 345) (by decide +kernel)⟩
theorem lw_p3 : lw_okq (⟨"ThumbSea$Crowd", "matchesOf", "(LThumbSea$Person;)I"⟩, 10) := ⟨⟨by decide +kernel, by decide +kernel⟩, List.mem_of_getElem? (i := 40) (by decide +kernel), List.mem_of_getElem? (i := 362) (by decide +kernel), List.mem_of_getElem? (i := 363) (by decide +kernel)⟩
theorem lw_p4 : lw_okq (⟨"ThumbSea$Seen", "isSoFor", "(LThumbSea$Person;I[LThumbSea$Person;)Z"⟩, 4) := ⟨⟨by decide +kernel, by decide +kernel⟩, List.mem_of_getElem? (i := 48) (by decide +kernel), List.mem_of_getElem? (i := 378) (by decide +kernel), List.mem_of_getElem? (i := 379) (by decide +kernel)⟩
theorem lw_p5 : lw_okq (⟨"ThumbSea$Crowd", "toAsk", "(LThumbSea$Person;)I"⟩, 10) := ⟨⟨by decide +kernel, by decide +kernel⟩, List.mem_of_getElem? (i := 40) (by decide +kernel), List.mem_of_getElem? (i := 384) (by decide +kernel), List.mem_of_getElem? (i := 385) (by decide +kernel)⟩
theorem lw_p6 : lw_okq (⟨"ThumbSea$Person", "isTurnToHasten", "()Z"⟩, 12) := ⟨⟨by decide +kernel, by decide +kernel⟩, List.mem_of_getElem? (i := 69) (by decide +kernel), List.mem_of_getElem? (i := 464) (by decide +kernel), List.mem_of_getElem? (i := 465) (by decide +kernel)⟩
theorem lw_p7 : lw_okq (⟨"ThumbSea$LastingRows", "tryFrom", "(III)V"⟩, 6) := ⟨⟨by decide +kernel, by decide +kernel⟩, List.mem_of_getElem? (i := 192) (by decide +kernel), List.mem_of_getElem? (i := 539) (by decide +kernel), List.mem_of_getElem? (i := 540) (by decide +kernel)⟩
theorem lw_p8 : lw_okq (⟨"ThumbSea$LastingRows", "lasts", "(II)Z"⟩, 6) := ⟨⟨by decide +kernel, by decide +kernel⟩, List.mem_of_getElem? (i := 192) (by decide +kernel), List.mem_of_getElem? (i := 543) (by decide +kernel), List.mem_of_getElem? (i := 544) (by decide +kernel)⟩
theorem lw_p9 : lw_okq (⟨"ThumbSea$LastingRows", "isMutual", "(II)Z"⟩, 6) := ⟨⟨by decide +kernel, by decide +kernel⟩, List.mem_of_getElem? (i := 192) (by decide +kernel), List.mem_of_getElem? (i := 547) (by decide +kernel), List.mem_of_getElem? (i := 548) (by decide +kernel)⟩
theorem lw_p10 : lw_okq (⟨"ThumbSea$LastingRows", "wants", "(II)Z"⟩, 6) := ⟨⟨by decide +kernel, by decide +kernel⟩, List.mem_of_getElem? (i := 192) (by decide +kernel), List.mem_of_getElem? (i := 551) (by decide +kernel), List.mem_of_getElem? (i := 552) (by decide +kernel)⟩
theorem lw_p11 : lw_okq (⟨"ThumbSea$LastingRows", "keepRow", "(I)V"⟩, 6) := ⟨⟨by decide +kernel, by decide +kernel⟩, List.mem_of_getElem? (i := 192) (by decide +kernel), List.mem_of_getElem? (i := 555) (by decide +kernel), List.mem_of_getElem? (i := 556) (by decide +kernel)⟩
theorem lw_p12 : lw_okq (⟨"ThumbSea$LastingRows", "toldCouples", "()I"⟩, 6) := ⟨⟨by decide +kernel, by decide +kernel⟩, List.mem_of_getElem? (i := 192) (by decide +kernel), List.mem_of_getElem? (i := 563) (by decide +kernel), List.mem_of_getElem? (i := 564) (by decide +kernel)⟩
theorem lw_p13 : lw_okq (⟨"ThumbSea$Trial", "showNextTo", "(LThumbSea$Person;)V"⟩, 2) := ⟨⟨by decide +kernel, by decide +kernel⟩, List.mem_of_getElem? (i := 177) (by decide +kernel), List.mem_of_getElem? (i := 609) (by decide +kernel), List.mem_of_getElem? (i := 610) (by decide +kernel)⟩
theorem lw_p14 : lw_okq (⟨"ThumbSea$Crowd", "freeOnes", "()I"⟩, 10) := ⟨⟨by decide +kernel, by decide +kernel⟩, List.mem_of_getElem? (i := 40) (by decide +kernel), List.mem_of_getElem? (i := 701) (by decide +kernel), List.mem_of_getElem? (i := 702) (by decide +kernel)⟩
theorem lw_p15 : lw_okq (⟨"ThumbSea$Crowd", "couples", "()I"⟩, 10) := ⟨⟨by decide +kernel, by decide +kernel⟩, List.mem_of_getElem? (i := 40) (by decide +kernel), List.mem_of_getElem? (i := 705) (by decide +kernel), List.mem_of_getElem? (i := 706) (by decide +kernel)⟩
def lw_privs_1 : List (MethodName × Nat) := [(⟨"ThumbSea$Page", "hasTwoSides", "()Z"⟩, 2), (⟨"ThumbSea$Crowd", "clearHistory", "()V"⟩, 10), (⟨"ThumbSea$Crowd", "likedBy", "(LThumbSea$Person;)I"⟩, 10), (⟨"ThumbSea$Crowd", "matchesOf", "(LThumbSea$Person;)I"⟩, 10), (⟨"ThumbSea$Seen", "isSoFor", "(LThumbSea$Person;I[LThumbSea$Person;)Z"⟩, 4), (⟨"ThumbSea$Crowd", "toAsk", "(LThumbSea$Person;)I"⟩, 10), (⟨"ThumbSea$Person", "isTurnToHasten", "()Z"⟩, 12), (⟨"ThumbSea$LastingRows", "tryFrom", "(III)V"⟩, 6), (⟨"ThumbSea$LastingRows", "lasts", "(II)Z"⟩, 6), (⟨"ThumbSea$LastingRows", "isMutual", "(II)Z"⟩, 6), (⟨"ThumbSea$LastingRows", "wants", "(II)Z"⟩, 6), (⟨"ThumbSea$LastingRows", "keepRow", "(I)V"⟩, 6), (⟨"ThumbSea$LastingRows", "toldCouples", "()I"⟩, 6), (⟨"ThumbSea$Trial", "showNextTo", "(LThumbSea$Person;)V"⟩, 2), (⟨"ThumbSea$Crowd", "freeOnes", "()I"⟩, 10), (⟨"ThumbSea$Crowd", "couples", "()I"⟩, 10)]
theorem lw_r1 : ∀ q ∈ lw_privs_1, lw_okq q := List.forall_mem_cons.mpr ⟨lw_p0, List.forall_mem_cons.mpr ⟨lw_p1, List.forall_mem_cons.mpr ⟨lw_p2, List.forall_mem_cons.mpr ⟨lw_p3, List.forall_mem_cons.mpr ⟨lw_p4, List.forall_mem_cons.mpr ⟨lw_p5, List.forall_mem_cons.mpr ⟨lw_p6, List.forall_mem_cons.mpr ⟨lw_p7, List.forall_mem_cons.mpr ⟨lw_p8, List.forall_mem_cons.mpr ⟨lw_p9, List.forall_mem_cons.mpr ⟨lw_p10, List.forall_mem_cons.mpr ⟨lw_p11, List.forall_mem_cons.mpr ⟨lw_p12, List.forall_mem_cons.mpr ⟨lw_p13, List.forall_mem_cons.mpr ⟨lw_p14, List.forall_mem_cons.mpr ⟨lw_p15, fun _ h => absurd h List.not_mem_nil⟩⟩⟩⟩⟩⟩⟩⟩⟩⟩⟩⟩⟩⟩⟩⟩
theorem lw_p16 : lw_okq (⟨"ThumbSea$Crowd", "goneOnes", "()I"⟩, 10) := ⟨⟨by decide +kernel, by decide +kernel⟩, List.mem_of_getElem? (i := 40) (by decide +kernel), List.mem_of_getElem? (i := 709) (by decide +kernel), List.mem_of_getElem? (i := 710) (by decide +kernel)⟩
theorem lw_p17 : lw_okq (⟨"ThumbSea", "foldLasting", "(J)J"⟩, 7) := ⟨⟨by decide +kernel, by decide +kernel⟩, List.mem_of_getElem? (i := 16) (by decide +kernel), List.mem_of_getElem? (i := 721) (by decide +kernel), List.mem_of_getElem? (i := 722) (by decide +kernel)⟩
theorem lw_p18 : lw_okq (⟨"ThumbSeaModel", "read", "()I"⟩, 58) := ⟨⟨by decide +kernel, by decide +kernel⟩, List.mem_of_getElem? (i := 727) (by decide +kernel), List.mem_of_getElem? (i := 924) (by decide +kernel), List.mem_of_getElem? (i := 925) (by decide +kernel)⟩
theorem lw_p19 : lw_okq (⟨"ThumbSeaModel", "readSide", "(I)I"⟩, 58) := ⟨⟨by decide +kernel, by decide +kernel⟩, List.mem_of_getElem? (i := 727) (by decide +kernel), List.mem_of_getElem? (i := 928) (by decide +kernel), List.mem_of_getElem? (i := 929) (by decide +kernel)⟩
theorem lw_p20 : lw_okq (⟨"ThumbSeaModel", "readOne", "(I)I"⟩, 58) := ⟨⟨by decide +kernel, by decide +kernel⟩, List.mem_of_getElem? (i := 727) (by decide +kernel), List.mem_of_getElem? (i := 932) (by decide +kernel), List.mem_of_getElem? (i := 933) (by decide +kernel)⟩
theorem lw_p21 : lw_okq (⟨"ThumbSeaModel", "at", "(I)I"⟩, 58) := ⟨⟨by decide +kernel, by decide +kernel⟩, List.mem_of_getElem? (i := 727) (by decide +kernel), List.mem_of_getElem? (i := 936) (by decide +kernel), List.mem_of_getElem? (i := 937) (by decide +kernel)⟩
theorem lw_p22 : lw_okq (⟨"ThumbSeaModel", "isFigure", "(II)Z"⟩, 58) := ⟨⟨by decide +kernel, by decide +kernel⟩, List.mem_of_getElem? (i := 727) (by decide +kernel), List.mem_of_getElem? (i := 943) (by decide +kernel), List.mem_of_getElem? (i := 944) (by decide +kernel)⟩
theorem lw_p23 : lw_okq (⟨"ThumbSeaModel", "isPerson", "(I)Z"⟩, 58) := ⟨⟨by decide +kernel, by decide +kernel⟩, List.mem_of_getElem? (i := 727) (by decide +kernel), List.mem_of_getElem? (i := 955) (by decide +kernel), List.mem_of_getElem? (i := 956) (by decide +kernel)⟩
theorem lw_p24 : lw_okq (⟨"ThumbSeaModel", "personNow", "(II)I"⟩, 58) := ⟨⟨by decide +kernel, by decide +kernel⟩, List.mem_of_getElem? (i := 727) (by decide +kernel), List.mem_of_getElem? (i := 959) (by decide +kernel), List.mem_of_getElem? (i := 960) (by decide +kernel)⟩
theorem lw_p25 : lw_okq (⟨"ThumbSeaModel", "sideOf", "(I)I"⟩, 58) := ⟨⟨by decide +kernel, by decide +kernel⟩, List.mem_of_getElem? (i := 727) (by decide +kernel), List.mem_of_getElem? (i := 963) (by decide +kernel), List.mem_of_getElem? (i := 964) (by decide +kernel)⟩
theorem lw_p26 : lw_okq (⟨"ThumbSeaModel", "likedBy", "(I)I"⟩, 58) := ⟨⟨by decide +kernel, by decide +kernel⟩, List.mem_of_getElem? (i := 727) (by decide +kernel), List.mem_of_getElem? (i := 967) (by decide +kernel), List.mem_of_getElem? (i := 968) (by decide +kernel)⟩
theorem lw_p27 : lw_okq (⟨"ThumbSeaModel", "likes", "(II)Z"⟩, 58) := ⟨⟨by decide +kernel, by decide +kernel⟩, List.mem_of_getElem? (i := 727) (by decide +kernel), List.mem_of_getElem? (i := 971) (by decide +kernel), List.mem_of_getElem? (i := 972) (by decide +kernel)⟩
theorem lw_p28 : lw_okq (⟨"ThumbSeaModel", "areOther", "(II)Z"⟩, 58) := ⟨⟨by decide +kernel, by decide +kernel⟩, List.mem_of_getElem? (i := 727) (by decide +kernel), List.mem_of_getElem? (i := 975) (by decide +kernel), List.mem_of_getElem? (i := 976) (by decide +kernel)⟩
theorem lw_p29 : lw_okq (⟨"ThumbSeaModel", "picture", "(I)I"⟩, 58) := ⟨⟨by decide +kernel, by decide +kernel⟩, List.mem_of_getElem? (i := 727) (by decide +kernel), List.mem_of_getElem? (i := 979) (by decide +kernel), List.mem_of_getElem? (i := 980) (by decide +kernel)⟩
theorem lw_p30 : lw_okq (⟨"ThumbSeaModel", "matchedWith", "(I)I"⟩, 58) := ⟨⟨by decide +kernel, by decide +kernel⟩, List.mem_of_getElem? (i := 727) (by decide +kernel), List.mem_of_getElem? (i := 983) (by decide +kernel), List.mem_of_getElem? (i := 984) (by decide +kernel)⟩
theorem lw_p31 : lw_okq (⟨"ThumbSeaModel", "isMatch", "(II)Z"⟩, 58) := ⟨⟨by decide +kernel, by decide +kernel⟩, List.mem_of_getElem? (i := 727) (by decide +kernel), List.mem_of_getElem? (i := 987) (by decide +kernel), List.mem_of_getElem? (i := 988) (by decide +kernel)⟩
def lw_privs_2 : List (MethodName × Nat) := [(⟨"ThumbSea$Crowd", "goneOnes", "()I"⟩, 10), (⟨"ThumbSea", "foldLasting", "(J)J"⟩, 7), (⟨"ThumbSeaModel", "read", "()I"⟩, 58), (⟨"ThumbSeaModel", "readSide", "(I)I"⟩, 58), (⟨"ThumbSeaModel", "readOne", "(I)I"⟩, 58), (⟨"ThumbSeaModel", "at", "(I)I"⟩, 58), (⟨"ThumbSeaModel", "isFigure", "(II)Z"⟩, 58), (⟨"ThumbSeaModel", "isPerson", "(I)Z"⟩, 58), (⟨"ThumbSeaModel", "personNow", "(II)I"⟩, 58), (⟨"ThumbSeaModel", "sideOf", "(I)I"⟩, 58), (⟨"ThumbSeaModel", "likedBy", "(I)I"⟩, 58), (⟨"ThumbSeaModel", "likes", "(II)Z"⟩, 58), (⟨"ThumbSeaModel", "areOther", "(II)Z"⟩, 58), (⟨"ThumbSeaModel", "picture", "(I)I"⟩, 58), (⟨"ThumbSeaModel", "matchedWith", "(I)I"⟩, 58), (⟨"ThumbSeaModel", "isMatch", "(II)Z"⟩, 58)]
theorem lw_r2 : ∀ q ∈ lw_privs_2, lw_okq q := List.forall_mem_cons.mpr ⟨lw_p16, List.forall_mem_cons.mpr ⟨lw_p17, List.forall_mem_cons.mpr ⟨lw_p18, List.forall_mem_cons.mpr ⟨lw_p19, List.forall_mem_cons.mpr ⟨lw_p20, List.forall_mem_cons.mpr ⟨lw_p21, List.forall_mem_cons.mpr ⟨lw_p22, List.forall_mem_cons.mpr ⟨lw_p23, List.forall_mem_cons.mpr ⟨lw_p24, List.forall_mem_cons.mpr ⟨lw_p25, List.forall_mem_cons.mpr ⟨lw_p26, List.forall_mem_cons.mpr ⟨lw_p27, List.forall_mem_cons.mpr ⟨lw_p28, List.forall_mem_cons.mpr ⟨lw_p29, List.forall_mem_cons.mpr ⟨lw_p30, List.forall_mem_cons.mpr ⟨lw_p31, fun _ h => absurd h List.not_mem_nil⟩⟩⟩⟩⟩⟩⟩⟩⟩⟩⟩⟩⟩⟩⟩⟩
theorem lw_p32 : lw_okq (⟨"ThumbSeaModel", "choosiesOf", "(I)I"⟩, 58) := ⟨⟨by decide +kernel, by decide +kernel⟩, List.mem_of_getElem? (i := 727) (by decide +kernel), List.mem_of_getElem? (i := 994) (by decide +kernel), List.mem_of_getElem? (i := 995) (by decide +kernel)⟩
theorem lw_p33 : lw_okq (⟨"ThumbSeaModel", "wouldLike", "(III)Z"⟩, 58) := ⟨⟨by decide +kernel, by decide +kernel⟩, List.mem_of_getElem? (i := 727) (by decide +kernel), List.mem_of_getElem? (i := 998) (by decide +kernel), List.mem_of_getElem? (i := 999) (by decide +kernel)⟩
theorem lw_p34 : lw_okq (⟨"ThumbSeaModel", "askFor", "(I)I"⟩, 58) := ⟨⟨by decide +kernel, by decide +kernel⟩, List.mem_of_getElem? (i := 727) (by decide +kernel), List.mem_of_getElem? (i := 1002) (by decide +kernel), List.mem_of_getElem? (i := 1003) (by decide +kernel)⟩
theorem lw_p35 : lw_okq (⟨"ThumbSeaModel", "areTwo", "(II)Z"⟩, 58) := ⟨⟨by decide +kernel, by decide +kernel⟩, List.mem_of_getElem? (i := 727) (by decide +kernel), List.mem_of_getElem? (i := 1030) (by decide +kernel), List.mem_of_getElem? (i := 1031) (by decide +kernel)⟩
theorem lw_p36 : lw_okq (⟨"ThumbSeaModel", "wasShown", "(II)Z"⟩, 58) := ⟨⟨by decide +kernel, by decide +kernel⟩, List.mem_of_getElem? (i := 727) (by decide +kernel), List.mem_of_getElem? (i := 1034) (by decide +kernel), List.mem_of_getElem? (i := 1035) (by decide +kernel)⟩
theorem lw_p37 : lw_okq (⟨"ThumbSeaModel", "isFree", "(I)Z"⟩, 58) := ⟨⟨by decide +kernel, by decide +kernel⟩, List.mem_of_getElem? (i := 727) (by decide +kernel), List.mem_of_getElem? (i := 1038) (by decide +kernel), List.mem_of_getElem? (i := 1039) (by decide +kernel)⟩
theorem lw_p38 : lw_okq (⟨"ThumbSeaModel", "shown", "(II)Z"⟩, 58) := ⟨⟨by decide +kernel, by decide +kernel⟩, List.mem_of_getElem? (i := 727) (by decide +kernel), List.mem_of_getElem? (i := 1042) (by decide +kernel), List.mem_of_getElem? (i := 1043) (by decide +kernel)⟩
theorem lw_p39 : lw_okq (⟨"ThumbSeaModel", "goesRight", "(II)Z"⟩, 58) := ⟨⟨by decide +kernel, by decide +kernel⟩, List.mem_of_getElem? (i := 727) (by decide +kernel), List.mem_of_getElem? (i := 1046) (by decide +kernel), List.mem_of_getElem? (i := 1047) (by decide +kernel)⟩
theorem lw_p40 : lw_okq (⟨"ThumbSeaModel", "isContent", "(II)Z"⟩, 58) := ⟨⟨by decide +kernel, by decide +kernel⟩, List.mem_of_getElem? (i := 727) (by decide +kernel), List.mem_of_getElem? (i := 1062) (by decide +kernel), List.mem_of_getElem? (i := 1063) (by decide +kernel)⟩
theorem lw_p41 : lw_okq (⟨"ThumbSeaModel", "leaves", "(II)V"⟩, 58) := ⟨⟨by decide +kernel, by decide +kernel⟩, List.mem_of_getElem? (i := 727) (by decide +kernel), List.mem_of_getElem? (i := 1066) (by decide +kernel), List.mem_of_getElem? (i := 1067) (by decide +kernel)⟩
theorem lw_p42 : lw_okq (⟨"ThumbSeaModel", "lastingNow", "(I)I"⟩, 58) := ⟨⟨by decide +kernel, by decide +kernel⟩, List.mem_of_getElem? (i := 727) (by decide +kernel), List.mem_of_getElem? (i := 1078) (by decide +kernel), List.mem_of_getElem? (i := 1079) (by decide +kernel)⟩
theorem lw_p43 : lw_okq (⟨"ThumbSeaModel", "layLasting", "()V"⟩, 58) := ⟨⟨by decide +kernel, by decide +kernel⟩, List.mem_of_getElem? (i := 727) (by decide +kernel), List.mem_of_getElem? (i := 1082) (by decide +kernel), List.mem_of_getElem? (i := 1083) (by decide +kernel)⟩
theorem lw_p44 : lw_okq (⟨"ThumbSeaModel", "isLasting", "()Z"⟩, 58) := ⟨⟨by decide +kernel, by decide +kernel⟩, List.mem_of_getElem? (i := 727) (by decide +kernel), List.mem_of_getElem? (i := 1086) (by decide +kernel), List.mem_of_getElem? (i := 1087) (by decide +kernel)⟩
theorem lw_p45 : lw_okq (⟨"ThumbSeaModel", "isRow", "()Z"⟩, 58) := ⟨⟨by decide +kernel, by decide +kernel⟩, List.mem_of_getElem? (i := 727) (by decide +kernel), List.mem_of_getElem? (i := 1090) (by decide +kernel), List.mem_of_getElem? (i := 1091) (by decide +kernel)⟩
theorem lw_p46 : lw_okq (⟨"ThumbSeaModel", "mayBe", "(II)Z"⟩, 58) := ⟨⟨by decide +kernel, by decide +kernel⟩, List.mem_of_getElem? (i := 727) (by decide +kernel), List.mem_of_getElem? (i := 1094) (by decide +kernel), List.mem_of_getElem? (i := 1095) (by decide +kernel)⟩
theorem lw_p47 : lw_okq (⟨"ThumbSeaModel", "likeEachOther", "(II)Z"⟩, 58) := ⟨⟨by decide +kernel, by decide +kernel⟩, List.mem_of_getElem? (i := 727) (by decide +kernel), List.mem_of_getElem? (i := 1098) (by decide +kernel), List.mem_of_getElem? (i := 1099) (by decide +kernel)⟩
def lw_privs_3 : List (MethodName × Nat) := [(⟨"ThumbSeaModel", "choosiesOf", "(I)I"⟩, 58), (⟨"ThumbSeaModel", "wouldLike", "(III)Z"⟩, 58), (⟨"ThumbSeaModel", "askFor", "(I)I"⟩, 58), (⟨"ThumbSeaModel", "areTwo", "(II)Z"⟩, 58), (⟨"ThumbSeaModel", "wasShown", "(II)Z"⟩, 58), (⟨"ThumbSeaModel", "isFree", "(I)Z"⟩, 58), (⟨"ThumbSeaModel", "shown", "(II)Z"⟩, 58), (⟨"ThumbSeaModel", "goesRight", "(II)Z"⟩, 58), (⟨"ThumbSeaModel", "isContent", "(II)Z"⟩, 58), (⟨"ThumbSeaModel", "leaves", "(II)V"⟩, 58), (⟨"ThumbSeaModel", "lastingNow", "(I)I"⟩, 58), (⟨"ThumbSeaModel", "layLasting", "()V"⟩, 58), (⟨"ThumbSeaModel", "isLasting", "()Z"⟩, 58), (⟨"ThumbSeaModel", "isRow", "()Z"⟩, 58), (⟨"ThumbSeaModel", "mayBe", "(II)Z"⟩, 58), (⟨"ThumbSeaModel", "likeEachOther", "(II)Z"⟩, 58)]
theorem lw_r3 : ∀ q ∈ lw_privs_3, lw_okq q := List.forall_mem_cons.mpr ⟨lw_p32, List.forall_mem_cons.mpr ⟨lw_p33, List.forall_mem_cons.mpr ⟨lw_p34, List.forall_mem_cons.mpr ⟨lw_p35, List.forall_mem_cons.mpr ⟨lw_p36, List.forall_mem_cons.mpr ⟨lw_p37, List.forall_mem_cons.mpr ⟨lw_p38, List.forall_mem_cons.mpr ⟨lw_p39, List.forall_mem_cons.mpr ⟨lw_p40, List.forall_mem_cons.mpr ⟨lw_p41, List.forall_mem_cons.mpr ⟨lw_p42, List.forall_mem_cons.mpr ⟨lw_p43, List.forall_mem_cons.mpr ⟨lw_p44, List.forall_mem_cons.mpr ⟨lw_p45, List.forall_mem_cons.mpr ⟨lw_p46, List.forall_mem_cons.mpr ⟨lw_p47, fun _ h => absurd h List.not_mem_nil⟩⟩⟩⟩⟩⟩⟩⟩⟩⟩⟩⟩⟩⟩⟩⟩
theorem lw_p48 : lw_okq (⟨"ThumbSeaModel", "wouldLeave", "(II)Z"⟩, 58) := ⟨⟨by decide +kernel, by decide +kernel⟩, List.mem_of_getElem? (i := 727) (by decide +kernel), List.mem_of_getElem? (i := 1102) (by decide +kernel), List.mem_of_getElem? (i := 1103) (by decide +kernel)⟩
theorem lw_p49 : lw_okq (⟨"ThumbSeaModel", "whoHas", "(I)I"⟩, 58) := ⟨⟨by decide +kernel, by decide +kernel⟩, List.mem_of_getElem? (i := 727) (by decide +kernel), List.mem_of_getElem? (i := 1106) (by decide +kernel), List.mem_of_getElem? (i := 1107) (by decide +kernel)⟩
theorem lw_p50 : lw_okq (⟨"ThumbSeaModel", "prefers", "(II)Z"⟩, 58) := ⟨⟨by decide +kernel, by decide +kernel⟩, List.mem_of_getElem? (i := 727) (by decide +kernel), List.mem_of_getElem? (i := 1110) (by decide +kernel), List.mem_of_getElem? (i := 1111) (by decide +kernel)⟩
theorem lw_p51 : lw_okq (⟨"ThumbSeaModel", "isBest", "(I)Z"⟩, 58) := ⟨⟨by decide +kernel, by decide +kernel⟩, List.mem_of_getElem? (i := 727) (by decide +kernel), List.mem_of_getElem? (i := 1114) (by decide +kernel), List.mem_of_getElem? (i := 1115) (by decide +kernel)⟩
theorem lw_p52 : lw_okq (⟨"ThumbSeaModel", "nextRow", "()Z"⟩, 58) := ⟨⟨by decide +kernel, by decide +kernel⟩, List.mem_of_getElem? (i := 727) (by decide +kernel), List.mem_of_getElem? (i := 1118) (by decide +kernel), List.mem_of_getElem? (i := 1119) (by decide +kernel)⟩
theorem lw_p53 : lw_okq (⟨"ThumbSeaModel", "mutualNow", "()I"⟩, 58) := ⟨⟨by decide +kernel, by decide +kernel⟩, List.mem_of_getElem? (i := 727) (by decide +kernel), List.mem_of_getElem? (i := 1126) (by decide +kernel), List.mem_of_getElem? (i := 1127) (by decide +kernel)⟩
theorem lw_p54 : lw_okq (⟨"ThumbSeaModel", "comesNow", "(III)I"⟩, 58) := ⟨⟨by decide +kernel, by decide +kernel⟩, List.mem_of_getElem? (i := 727) (by decide +kernel), List.mem_of_getElem? (i := 1134) (by decide +kernel), List.mem_of_getElem? (i := 1135) (by decide +kernel)⟩
theorem lw_p55 : lw_okq (⟨"ThumbSeaModel", "save", "()V"⟩, 58) := ⟨⟨by decide +kernel, by decide +kernel⟩, List.mem_of_getElem? (i := 727) (by decide +kernel), List.mem_of_getElem? (i := 1138) (by decide +kernel), List.mem_of_getElem? (i := 1139) (by decide +kernel)⟩
theorem lw_p56 : lw_okq (⟨"ThumbSeaModel", "showThree", "(II)V"⟩, 58) := ⟨⟨by decide +kernel, by decide +kernel⟩, List.mem_of_getElem? (i := 727) (by decide +kernel), List.mem_of_getElem? (i := 1142) (by decide +kernel), List.mem_of_getElem? (i := 1143) (by decide +kernel)⟩
theorem lw_p57 : lw_okq (⟨"ThumbSeaModel", "nextFor", "(II)I"⟩, 58) := ⟨⟨by decide +kernel, by decide +kernel⟩, List.mem_of_getElem? (i := 727) (by decide +kernel), List.mem_of_getElem? (i := 1146) (by decide +kernel), List.mem_of_getElem? (i := 1147) (by decide +kernel)⟩
theorem lw_p58 : lw_okq (⟨"ThumbSeaModel", "matches", "()I"⟩, 58) := ⟨⟨by decide +kernel, by decide +kernel⟩, List.mem_of_getElem? (i := 727) (by decide +kernel), List.mem_of_getElem? (i := 1150) (by decide +kernel), List.mem_of_getElem? (i := 1151) (by decide +kernel)⟩
theorem lw_p59 : lw_okq (⟨"ThumbSeaModel", "load", "()V"⟩, 58) := ⟨⟨by decide +kernel, by decide +kernel⟩, List.mem_of_getElem? (i := 727) (by decide +kernel), List.mem_of_getElem? (i := 1154) (by decide +kernel), List.mem_of_getElem? (i := 1155) (by decide +kernel)⟩
theorem lw_p60 : lw_okq (⟨"ThumbSeaModel", "bestNow", "(II)I"⟩, 58) := ⟨⟨by decide +kernel, by decide +kernel⟩, List.mem_of_getElem? (i := 727) (by decide +kernel), List.mem_of_getElem? (i := 1162) (by decide +kernel), List.mem_of_getElem? (i := 1163) (by decide +kernel)⟩
theorem lw_p61 : lw_okq (⟨"ThumbSeaModel", "seasonsNow", "(III)I"⟩, 58) := ⟨⟨by decide +kernel, by decide +kernel⟩, List.mem_of_getElem? (i := 727) (by decide +kernel), List.mem_of_getElem? (i := 1192) (by decide +kernel), List.mem_of_getElem? (i := 1193) (by decide +kernel)⟩
theorem lw_p62 : lw_okq (⟨"ThumbSeaModel", "draw", "(I)I"⟩, 58) := ⟨⟨by decide +kernel, by decide +kernel⟩, List.mem_of_getElem? (i := 727) (by decide +kernel), List.mem_of_getElem? (i := 1196) (by decide +kernel), List.mem_of_getElem? (i := 1197) (by decide +kernel)⟩
theorem lw_p63 : lw_okq (⟨"ThumbSeaModel", "howManyOf", "(I)I"⟩, 58) := ⟨⟨by decide +kernel, by decide +kernel⟩, List.mem_of_getElem? (i := 727) (by decide +kernel), List.mem_of_getElem? (i := 1216) (by decide +kernel), List.mem_of_getElem? (i := 1217) (by decide +kernel)⟩
def lw_privs_4 : List (MethodName × Nat) := [(⟨"ThumbSeaModel", "wouldLeave", "(II)Z"⟩, 58), (⟨"ThumbSeaModel", "whoHas", "(I)I"⟩, 58), (⟨"ThumbSeaModel", "prefers", "(II)Z"⟩, 58), (⟨"ThumbSeaModel", "isBest", "(I)Z"⟩, 58), (⟨"ThumbSeaModel", "nextRow", "()Z"⟩, 58), (⟨"ThumbSeaModel", "mutualNow", "()I"⟩, 58), (⟨"ThumbSeaModel", "comesNow", "(III)I"⟩, 58), (⟨"ThumbSeaModel", "save", "()V"⟩, 58), (⟨"ThumbSeaModel", "showThree", "(II)V"⟩, 58), (⟨"ThumbSeaModel", "nextFor", "(II)I"⟩, 58), (⟨"ThumbSeaModel", "matches", "()I"⟩, 58), (⟨"ThumbSeaModel", "load", "()V"⟩, 58), (⟨"ThumbSeaModel", "bestNow", "(II)I"⟩, 58), (⟨"ThumbSeaModel", "seasonsNow", "(III)I"⟩, 58), (⟨"ThumbSeaModel", "draw", "(I)I"⟩, 58), (⟨"ThumbSeaModel", "howManyOf", "(I)I"⟩, 58)]
theorem lw_r4 : ∀ q ∈ lw_privs_4, lw_okq q := List.forall_mem_cons.mpr ⟨lw_p48, List.forall_mem_cons.mpr ⟨lw_p49, List.forall_mem_cons.mpr ⟨lw_p50, List.forall_mem_cons.mpr ⟨lw_p51, List.forall_mem_cons.mpr ⟨lw_p52, List.forall_mem_cons.mpr ⟨lw_p53, List.forall_mem_cons.mpr ⟨lw_p54, List.forall_mem_cons.mpr ⟨lw_p55, List.forall_mem_cons.mpr ⟨lw_p56, List.forall_mem_cons.mpr ⟨lw_p57, List.forall_mem_cons.mpr ⟨lw_p58, List.forall_mem_cons.mpr ⟨lw_p59, List.forall_mem_cons.mpr ⟨lw_p60, List.forall_mem_cons.mpr ⟨lw_p61, List.forall_mem_cons.mpr ⟨lw_p62, List.forall_mem_cons.mpr ⟨lw_p63, fun _ h => absurd h List.not_mem_nil⟩⟩⟩⟩⟩⟩⟩⟩⟩⟩⟩⟩⟩⟩⟩⟩
theorem lw_p64 : lw_okq (⟨"ThumbSeaModel", "peopleNow", "(I)I"⟩, 58) := ⟨⟨by decide +kernel, by decide +kernel⟩, List.mem_of_getElem? (i := 727) (by decide +kernel), List.mem_of_getElem? (i := 1220) (by decide +kernel), List.mem_of_getElem? (i := 1221) (by decide +kernel)⟩
theorem lw_p65 : lw_okq (⟨"ThumbSeaModel", "mix", "(J)V"⟩, 58) := ⟨⟨by decide +kernel, by decide +kernel⟩, List.mem_of_getElem? (i := 727) (by decide +kernel), List.mem_of_getElem? (i := 1229) (by decide +kernel), List.mem_of_getElem? (i := 1230) (by decide +kernel)⟩
def lw_privs_5 : List (MethodName × Nat) := [(⟨"ThumbSeaModel", "peopleNow", "(I)I"⟩, 58), (⟨"ThumbSeaModel", "mix", "(J)V"⟩, 58)]
theorem lw_r5 : ∀ q ∈ lw_privs_5, lw_okq q := List.forall_mem_cons.mpr ⟨lw_p64, List.forall_mem_cons.mpr ⟨lw_p65, fun _ h => absurd h List.not_mem_nil⟩⟩
def lw_privs : List (MethodName × Nat) := lw_privs_1 ++ (lw_privs_2 ++ (lw_privs_3 ++ (lw_privs_4 ++ (lw_privs_5))))
def lw_tbl : List Cond := k2_sels lw_privs ++ tables_1
theorem lw_privs_ok : ∀ q ∈ lw_privs, lw_okq q := by
  show ∀ q ∈ lw_privs_1 ++ (lw_privs_2 ++ (lw_privs_3 ++ (lw_privs_4 ++ (lw_privs_5)))), lw_okq q
  exact List.forall_mem_append.mpr ⟨lw_r1, List.forall_mem_append.mpr ⟨lw_r2, List.forall_mem_append.mpr ⟨lw_r3, List.forall_mem_append.mpr ⟨lw_r4, lw_r5⟩⟩⟩⟩
end
section
def RX0 : String := "ThumbSea$Crowd"
def TX0 : u_T := fun k => match k with
  | 0 => ("ThumbSea$Crowd", "people", "[LThumbSea$Person;", true)
  | 1 => ("ThumbSea$Crowd", "seen", "LThumbSea$Seen;", true)
  | 2 => ("ThumbSea$Crowd", "first", "I", false)
  | 3 => ("ThumbSea$Crowd", "size", "I", false)
  | 4 => ("ThumbSea$Crowd", "limit", "I", false)
  | 5 => ("ThumbSea$Crowd", "days", "I", false)
  | 6 => ("ThumbSea$Crowd", "paid", "I", false)
  | 7 => ("ThumbSea$Crowd", "met", "I", false)
  | 8 => ("ThumbSea$Crowd", "rightsInAll", "I", false)
  | _ => ("ThumbSea$Crowd", "leftsInAll", "I", false)
def tyX0 : Nat → FieldType := fun k => match k with
  | 0 => .array (.object "ThumbSea$Person")
  | 1 => .object "ThumbSea$Seen"
  | 2 => .int
  | 3 => .int
  | 4 => .int
  | 5 => .int
  | 6 => .int
  | 7 => .int
  | 8 => .int
  | _ => .int
abbrev wsX00 : List Cond := u_ws RX0 TX0 10
theorem nmX0 : ∀ a, a < 10 → ∀ b, b < 10 → a ≠ b → (TX0 a).2.1 ≠ (TX0 b).2.1 := by decide +kernel
theorem tyX0_ok : ∀ k, k < 10 → parseFieldDescriptor (TX0 k).2.2.1 = some (tyX0 k) := by decide +kernel
abbrev cX0_init : ByteArray := prog_2_method_1_code
def yX0_init : MethodName := ⟨RX0, "<init>", "()V"⟩
abbrev cX0_isEmpty : ByteArray := prog_2_method_2_code
def yX0_isEmpty : MethodName := ⟨RX0, "isEmpty", "()Z"⟩
abbrev cX0_has : ByteArray := prog_2_method_3_code
def yX0_has : MethodName := ⟨RX0, "has", "(I)Z"⟩
abbrev cX0_readFrom : ByteArray := prog_2_method_4_code
def yX0_readFrom : MethodName := ⟨RX0, "readFrom", "(LThumbSea$Page;)V"⟩
abbrev cX0_clearHistory : ByteArray := prog_2_method_5_code
def yX0_clearHistory : MethodName := ⟨RX0, "clearHistory", "()V"⟩
abbrev cX0_copyFrom : ByteArray := prog_2_method_6_code
def yX0_copyFrom : MethodName := ⟨RX0, "copyFrom", "(LThumbSea$Crowd;)V"⟩
abbrev cX0_clearShown : ByteArray := prog_2_method_7_code
def yX0_clearShown : MethodName := ⟨RX0, "clearShown", "()V"⟩
abbrev cX0_startDay : ByteArray := prog_2_method_8_code
def yX0_startDay : MethodName := ⟨RX0, "startDay", "()V"⟩
abbrev cX0_present : ByteArray := prog_2_method_9_code
def yX0_present : MethodName := ⟨RX0, "present", "(LThumbSea$Person;LThumbSea$Person;)Z"⟩
abbrev cX0_putInOrder : ByteArray := prog_2_method_10_code
def yX0_putInOrder : MethodName := ⟨RX0, "putInOrder", "([IZ)V"⟩
abbrev cX0_tellOf : ByteArray := prog_2_method_11_code
def yX0_tellOf : MethodName := ⟨RX0, "tellOf", "(LThumbSea$Person;I)I"⟩
abbrev cX0_tell : ByteArray := prog_2_method_12_code
def yX0_tell : MethodName := ⟨RX0, "tell", "(I)I"⟩
abbrev cX0_likedBy : ByteArray := prog_2_method_13_code
def yX0_likedBy : MethodName := ⟨RX0, "likedBy", "(LThumbSea$Person;)I"⟩
abbrev cX0_matchesOf : ByteArray := prog_2_method_14_code
def yX0_matchesOf : MethodName := ⟨RX0, "matchesOf", "(LThumbSea$Person;)I"⟩
abbrev cX0_freeOnes : ByteArray := prog_2_method_15_code
def yX0_freeOnes : MethodName := ⟨RX0, "freeOnes", "()I"⟩
abbrev cX0_goneOnes : ByteArray := prog_2_method_16_code
def yX0_goneOnes : MethodName := ⟨RX0, "goneOnes", "()I"⟩
abbrev cX0_couples : ByteArray := prog_2_method_17_code
def yX0_couples : MethodName := ⟨RX0, "couples", "()I"⟩
abbrev cX0_openMatches : ByteArray := prog_2_method_18_code
def yX0_openMatches : MethodName := ⟨RX0, "openMatches", "()I"⟩
abbrev cX0_mutualOf : ByteArray := prog_2_method_19_code
def yX0_mutualOf : MethodName := ⟨RX0, "mutualOf", "(LThumbSea$Person;)I"⟩
abbrev cX0_mutualTwos : ByteArray := prog_2_method_20_code
def yX0_mutualTwos : MethodName := ⟨RX0, "mutualTwos", "()I"⟩
abbrev cX0_toAsk : ByteArray := prog_2_method_21_code
def yX0_toAsk : MethodName := ⟨RX0, "toAsk", "(LThumbSea$Person;)I"⟩
abbrev cX0_leftAtWorst : ByteArray := prog_2_method_22_code
def yX0_leftAtWorst : MethodName := ⟨RX0, "leftAtWorst", "(LThumbSea$Person;II)I"⟩
def RX1 : String := "ThumbSea$Draw"
def TX1 : u_T := fun k => match k with
  | _ => ("", "", "", false)
def tyX1 : Nat → FieldType := fun k => match k with
  | _ => .int
abbrev wsX10 : List Cond := u_ws RX1 TX1 0
theorem nmX1 : ∀ a, a < 0 → ∀ b, b < 0 → a ≠ b → (TX1 a).2.1 ≠ (TX1 b).2.1 := by decide +kernel
theorem tyX1_ok : ∀ k, k < 0 → parseFieldDescriptor (TX1 k).2.2.1 = some (tyX1 k) := by decide +kernel
abbrev cX1_next : ByteArray := prog_3_method_2_code
def yX1_next : MethodName := ⟨RX1, "next", "(J)J"⟩
abbrev cX1_pick : ByteArray := prog_3_method_3_code
def yX1_pick : MethodName := ⟨RX1, "pick", "(JI)I"⟩
def RX2 : String := "ThumbSea$Kind"
def TX2 : u_T := fun k => match k with
  | _ => ("", "", "", false)
def tyX2 : Nat → FieldType := fun k => match k with
  | _ => .int
abbrev wsX20 : List Cond := u_ws RX2 TX2 0
theorem nmX2 : ∀ a, a < 0 → ∀ b, b < 0 → a ≠ b → (TX2 a).2.1 ≠ (TX2 b).2.1 := by decide +kernel
theorem tyX2_ok : ∀ k, k < 0 → parseFieldDescriptor (TX2 k).2.2.1 = some (tyX2 k) := by decide +kernel
abbrev cX2_isNumber : ByteArray := prog_4_method_4_code
def yX2_isNumber : MethodName := ⟨RX2, "isNumber", "(I)Z"⟩
abbrev cX2_isLetter : ByteArray := prog_4_method_5_code
def yX2_isLetter : MethodName := ⟨RX2, "isLetter", "(I)Z"⟩
abbrev cX2_ofLetter : ByteArray := prog_4_method_6_code
def yX2_ofLetter : MethodName := ⟨RX2, "ofLetter", "(I)LThumbSea$Kind;"⟩
abbrev cX2_isA : ByteArray := prog_4_method_7_code
def yX2_isA : MethodName := ⟨RX2, "isA", "(I)Z"⟩
def RX3 : String := "ThumbSea$LastingRows"
def TX3 : u_T := fun k => match k with
  | 0 => ("ThumbSea$LastingRows", "order", "[I", true)
  | 1 => ("ThumbSea$LastingRows", "rank", "[I", true)
  | 2 => ("ThumbSea$LastingRows", "mutual", "[I", true)
  | 3 => ("ThumbSea$LastingRows", "mate", "[I", true)
  | 4 => ("ThumbSea$LastingRows", "told", "[I", true)
  | _ => ("ThumbSea$LastingRows", "rows", "I", false)
def tyX3 : Nat → FieldType := fun k => match k with
  | 0 => .array .int
  | 1 => .array .int
  | 2 => .array .int
  | 3 => .array .int
  | 4 => .array .int
  | _ => .int
abbrev wsX30 : List Cond := u_ws RX3 TX3 6
theorem nmX3 : ∀ a, a < 6 → ∀ b, b < 6 → a ≠ b → (TX3 a).2.1 ≠ (TX3 b).2.1 := by decide +kernel
theorem tyX3_ok : ∀ k, k < 6 → parseFieldDescriptor (TX3 k).2.2.1 = some (tyX3 k) := by decide +kernel
abbrev cX3_init : ByteArray := prog_5_method_1_code
def yX3_init : MethodName := ⟨RX3, "<init>", "()V"⟩
abbrev cX3_canTell : ByteArray := prog_5_method_2_code
def yX3_canTell : MethodName := ⟨RX3, "canTell", "(I)Z"⟩
abbrev cX3_tell : ByteArray := prog_5_method_3_code
def yX3_tell : MethodName := ⟨RX3, "tell", "(I)I"⟩
abbrev cX3_toldCouples : ByteArray := prog_5_method_4_code
def yX3_toldCouples : MethodName := ⟨RX3, "toldCouples", "()I"⟩
abbrev cX3_workOut : ByteArray := prog_5_method_5_code
def yX3_workOut : MethodName := ⟨RX3, "workOut", "(LThumbSea$Crowd;)V"⟩
abbrev cX3_tryFrom : ByteArray := prog_5_method_6_code
def yX3_tryFrom : MethodName := ⟨RX3, "tryFrom", "(III)V"⟩
abbrev cX3_lasts : ByteArray := prog_5_method_7_code
def yX3_lasts : MethodName := ⟨RX3, "lasts", "(II)Z"⟩
abbrev cX3_keepRow : ByteArray := prog_5_method_8_code
def yX3_keepRow : MethodName := ⟨RX3, "keepRow", "(I)V"⟩
abbrev cX3_isMutual : ByteArray := prog_5_method_9_code
def yX3_isMutual : MethodName := ⟨RX3, "isMutual", "(II)Z"⟩
abbrev cX3_wants : ByteArray := prog_5_method_10_code
def yX3_wants : MethodName := ⟨RX3, "wants", "(II)Z"⟩
def RX4 : String := "ThumbSea$Page"
def TX4 : u_T := fun k => match k with
  | 0 => ("ThumbSea$Page", "letters", "[I", true)
  | _ => ("ThumbSea$Page", "length", "I", false)
def tyX4 : Nat → FieldType := fun k => match k with
  | 0 => .array .int
  | _ => .int
abbrev wsX40 : List Cond := u_ws RX4 TX4 2
theorem nmX4 : ∀ a, a < 2 → ∀ b, b < 2 → a ≠ b → (TX4 a).2.1 ≠ (TX4 b).2.1 := by decide +kernel
theorem tyX4_ok : ∀ k, k < 2 → parseFieldDescriptor (TX4 k).2.2.1 = some (tyX4 k) := by decide +kernel
abbrev cX4_init : ByteArray := prog_6_method_1_code
def yX4_init : MethodName := ⟨RX4, "<init>", "()V"⟩
abbrev cX4_add : ByteArray := prog_6_method_2_code
def yX4_add : MethodName := ⟨RX4, "add", "(I)Z"⟩
abbrev cX4_clear : ByteArray := prog_6_method_3_code
def yX4_clear : MethodName := ⟨RX4, "clear", "()V"⟩
abbrev cX4_letterAt : ByteArray := prog_6_method_4_code
def yX4_letterAt : MethodName := ⟨RX4, "letterAt", "(I)I"⟩
abbrev cX4_digitAt : ByteArray := prog_6_method_5_code
def yX4_digitAt : MethodName := ⟨RX4, "digitAt", "(I)I"⟩
abbrev cX4_endsSideAt : ByteArray := prog_6_method_6_code
def yX4_endsSideAt : MethodName := ⟨RX4, "endsSideAt", "(I)Z"⟩
abbrev cX4_firstFault : ByteArray := prog_6_method_7_code
def yX4_firstFault : MethodName := ⟨RX4, "firstFault", "()I"⟩
abbrev cX4_isSea : ByteArray := prog_6_method_8_code
def yX4_isSea : MethodName := ⟨RX4, "isSea", "()Z"⟩
abbrev cX4_hasTwoSides : ByteArray := prog_6_method_9_code
def yX4_hasTwoSides : MethodName := ⟨RX4, "hasTwoSides", "()Z"⟩
abbrev cX4_fitsPerson : ByteArray := prog_6_method_10_code
def yX4_fitsPerson : MethodName := ⟨RX4, "fitsPerson", "(II)Z"⟩
def RX5 : String := "ThumbSea$Person"
def TX5 : u_T := fun k => match k with
  | 0 => ("ThumbSea$Person", "number", "I", true)
  | 1 => ("ThumbSea$Person", "bit", "I", true)
  | 2 => ("ThumbSea$Person", "kind", "LThumbSea$Kind;", false)
  | 3 => ("ThumbSea$Person", "side", "I", false)
  | 4 => ("ThumbSea$Person", "worth", "I", false)
  | 5 => ("ThumbSea$Person", "flattery", "I", false)
  | 6 => ("ThumbSea$Person", "choosy", "I", false)
  | 7 => ("ThumbSea$Person", "rights", "I", false)
  | 8 => ("ThumbSea$Person", "lefts", "I", false)
  | 9 => ("ThumbSea$Person", "leftsInRow", "I", false)
  | 10 => ("ThumbSea$Person", "rightsToday", "I", false)
  | _ => ("ThumbSea$Person", "partner", "I", false)
def tyX5 : Nat → FieldType := fun k => match k with
  | 0 => .int
  | 1 => .int
  | 2 => .object "ThumbSea$Kind"
  | 3 => .int
  | 4 => .int
  | 5 => .int
  | 6 => .int
  | 7 => .int
  | 8 => .int
  | 9 => .int
  | 10 => .int
  | _ => .int
abbrev wsX50 : List Cond := u_ws RX5 TX5 12
theorem nmX5 : ∀ a, a < 12 → ∀ b, b < 12 → a ≠ b → (TX5 a).2.1 ≠ (TX5 b).2.1 := by decide +kernel
theorem tyX5_ok : ∀ k, k < 12 → parseFieldDescriptor (TX5 k).2.2.1 = some (tyX5 k) := by decide +kernel
abbrev cX5_init : ByteArray := prog_7_method_1_code
def yX5_init : MethodName := ⟨RX5, "<init>", "(I)V"⟩
abbrev cX5_copyFrom : ByteArray := prog_7_method_2_code
def yX5_copyFrom : MethodName := ⟨RX5, "copyFrom", "(LThumbSea$Person;)V"⟩
abbrev cX5_clearShown : ByteArray := prog_7_method_3_code
def yX5_clearShown : MethodName := ⟨RX5, "clearShown", "()V"⟩
abbrev cX5_picture : ByteArray := prog_7_method_4_code
def yX5_picture : MethodName := ⟨RX5, "picture", "()I"⟩
abbrev cX5_isTaken : ByteArray := prog_7_method_5_code
def yX5_isTaken : MethodName := ⟨RX5, "isTaken", "()Z"⟩
abbrev cX5_isGone : ByteArray := prog_7_method_6_code
def yX5_isGone : MethodName := ⟨RX5, "isGone", "()Z"⟩
abbrev cX5_isFree : ByteArray := prog_7_method_7_code
def yX5_isFree : MethodName := ⟨RX5, "isFree", "()Z"⟩
abbrev cX5_isCoupleWith : ByteArray := prog_7_method_8_code
def yX5_isCoupleWith : MethodName := ⟨RX5, "isCoupleWith", "(LThumbSea$Person;)Z"⟩
abbrev cX5_isContentWith : ByteArray := prog_7_method_9_code
def yX5_isContentWith : MethodName := ⟨RX5, "isContentWith", "(I)Z"⟩
abbrev cX5_wouldBeContent : ByteArray := prog_7_method_10_code
def yX5_wouldBeContent : MethodName := ⟨RX5, "wouldBeContent", "(II)Z"⟩
abbrev cX5_likes : ByteArray := prog_7_method_11_code
def yX5_likes : MethodName := ⟨RX5, "likes", "(LThumbSea$Person;)Z"⟩
abbrev cX5_wentRightOn : ByteArray := prog_7_method_12_code
def yX5_wentRightOn : MethodName := ⟨RX5, "wentRightOn", "(LThumbSea$Person;)Z"⟩
abbrev cX5_wasShown : ByteArray := prog_7_method_13_code
def yX5_wasShown : MethodName := ⟨RX5, "wasShown", "(LThumbSea$Person;)Z"⟩
abbrev cX5_isMatchOf : ByteArray := prog_7_method_14_code
def yX5_isMatchOf : MethodName := ⟨RX5, "isMatchOf", "(LThumbSea$Person;)Z"⟩
abbrev cX5_canBeShown : ByteArray := prog_7_method_15_code
def yX5_canBeShown : MethodName := ⟨RX5, "canBeShown", "(LThumbSea$Person;)Z"⟩
abbrev cX5_goesRightOn : ByteArray := prog_7_method_16_code
def yX5_goesRightOn : MethodName := ⟨RX5, "goesRightOn", "(LThumbSea$Person;I)Z"⟩
abbrev cX5_isTurnToHasten : ByteArray := prog_7_method_17_code
def yX5_isTurnToHasten : MethodName := ⟨RX5, "isTurnToHasten", "()Z"⟩
abbrev cX5_goRightOn : ByteArray := prog_7_method_18_code
def yX5_goRightOn : MethodName := ⟨RX5, "goRightOn", "(LThumbSea$Person;)V"⟩
abbrev cX5_goLeftOn : ByteArray := prog_7_method_19_code
def yX5_goLeftOn : MethodName := ⟨RX5, "goLeftOn", "(LThumbSea$Person;)V"⟩
abbrev cX5_turnLeftOn : ByteArray := prog_7_method_20_code
def yX5_turnLeftOn : MethodName := ⟨RX5, "turnLeftOn", "(LThumbSea$Person;)V"⟩
abbrev cX5_takeBack : ByteArray := prog_7_method_21_code
def yX5_takeBack : MethodName := ⟨RX5, "takeBack", "(LThumbSea$Person;)V"⟩
def RX6 : String := "ThumbSea$Seen"
def TX6 : u_T := fun k => match k with
  | 0 => ("ThumbSea$Seen", "ones", "[I", true)
  | 1 => ("ThumbSea$Seen", "others", "[I", true)
  | 2 => ("ThumbSea$Seen", "liked", "[Z", true)
  | _ => ("ThumbSea$Seen", "size", "I", false)
def tyX6 : Nat → FieldType := fun k => match k with
  | 0 => .array .int
  | 1 => .array .int
  | 2 => .array .boolean
  | _ => .int
abbrev wsX60 : List Cond := u_ws RX6 TX6 4
theorem nmX6 : ∀ a, a < 4 → ∀ b, b < 4 → a ≠ b → (TX6 a).2.1 ≠ (TX6 b).2.1 := by decide +kernel
theorem tyX6_ok : ∀ k, k < 4 → parseFieldDescriptor (TX6 k).2.2.1 = some (tyX6 k) := by decide +kernel
abbrev cX6_init : ByteArray := prog_8_method_1_code
def yX6_init : MethodName := ⟨RX6, "<init>", "()V"⟩
abbrev cX6_add : ByteArray := prog_8_method_2_code
def yX6_add : MethodName := ⟨RX6, "add", "(IIZ)Z"⟩
abbrev cX6_clear : ByteArray := prog_8_method_3_code
def yX6_clear : MethodName := ⟨RX6, "clear", "()V"⟩
abbrev cX6_copyFrom : ByteArray := prog_8_method_4_code
def yX6_copyFrom : MethodName := ⟨RX6, "copyFrom", "(LThumbSea$Seen;)V"⟩
abbrev cX6_choosiesOf : ByteArray := prog_8_method_5_code
def yX6_choosiesOf : MethodName := ⟨RX6, "choosiesOf", "(LThumbSea$Person;[LThumbSea$Person;)I"⟩
abbrev cX6_isSoFor : ByteArray := prog_8_method_6_code
def yX6_isSoFor : MethodName := ⟨RX6, "isSoFor", "(LThumbSea$Person;I[LThumbSea$Person;)Z"⟩
def RX7 : String := "ThumbSea$Trial"
def TX7 : u_T := fun k => match k with
  | 0 => ("ThumbSea$Trial", "crowd", "LThumbSea$Crowd;", true)
  | _ => ("ThumbSea$Trial", "order", "[I", true)
def tyX7 : Nat → FieldType := fun k => match k with
  | 0 => .object "ThumbSea$Crowd"
  | _ => .array .int
abbrev wsX70 : List Cond := u_ws RX7 TX7 2
theorem nmX7 : ∀ a, a < 2 → ∀ b, b < 2 → a ≠ b → (TX7 a).2.1 ≠ (TX7 b).2.1 := by decide +kernel
theorem tyX7_ok : ∀ k, k < 2 → parseFieldDescriptor (TX7 k).2.2.1 = some (tyX7 k) := by decide +kernel
abbrev cX7_init : ByteArray := prog_9_method_1_code
def yX7_init : MethodName := ⟨RX7, "<init>", "()V"⟩
abbrev cX7_isDays : ByteArray := prog_9_method_2_code
def yX7_isDays : MethodName := ⟨RX7, "isDays", "(I)Z"⟩
abbrev cX7_isOrder : ByteArray := prog_9_method_3_code
def yX7_isOrder : MethodName := ⟨RX7, "isOrder", "(I)Z"⟩
abbrev cX7_bestLimit : ByteArray := prog_9_method_4_code
def yX7_bestLimit : MethodName := ⟨RX7, "bestLimit", "(LThumbSea$Crowd;II)I"⟩
abbrev cX7_matchesAfter : ByteArray := prog_9_method_5_code
def yX7_matchesAfter : MethodName := ⟨RX7, "matchesAfter", "(LThumbSea$Crowd;III)I"⟩
abbrev cX7_showNextTo : ByteArray := prog_9_method_6_code
def yX7_showNextTo : MethodName := ⟨RX7, "showNextTo", "(LThumbSea$Person;)V"⟩
def RX8 : String := "ThumbSea$Wait"
def TX8 : u_T := fun k => match k with
  | _ => ("", "", "", false)
def tyX8 : Nat → FieldType := fun k => match k with
  | _ => .int
abbrev wsX80 : List Cond := u_ws RX8 TX8 0
theorem nmX8 : ∀ a, a < 0 → ∀ b, b < 0 → a ≠ b → (TX8 a).2.1 ≠ (TX8 b).2.1 := by decide +kernel
theorem tyX8_ok : ∀ k, k < 0 → parseFieldDescriptor (TX8 k).2.2.1 = some (tyX8 k) := by decide +kernel
abbrev cX8_isOthers : ByteArray := prog_10_method_2_code
def yX8_isOthers : MethodName := ⟨RX8, "isOthers", "(I)Z"⟩
abbrev cX8_partsOfAll : ByteArray := prog_10_method_3_code
def yX8_partsOfAll : MethodName := ⟨RX8, "partsOfAll", "(I)I"⟩
abbrev cX8_partsOfBest : ByteArray := prog_10_method_4_code
def yX8_partsOfBest : MethodName := ⟨RX8, "partsOfBest", "(II)I"⟩
abbrev cX8_likeliest : ByteArray := prog_10_method_5_code
def yX8_likeliest : MethodName := ⟨RX8, "likeliest", "(I)I"⟩
abbrev cX8_greatestDivisor : ByteArray := prog_10_method_6_code
def yX8_greatestDivisor : MethodName := ⟨RX8, "greatestDivisor", "(II)I"⟩
def RX9 : String := "ThumbSea"
def TX9 : u_T := fun k => match k with
  | 0 => ("ThumbSea", "page", "LThumbSea$Page;", true)
  | 1 => ("ThumbSea", "crowd", "LThumbSea$Crowd;", true)
  | 2 => ("ThumbSea", "kept", "LThumbSea$Crowd;", true)
  | 3 => ("ThumbSea", "trial", "LThumbSea$Trial;", true)
  | 4 => ("ThumbSea", "lastingRows", "LThumbSea$LastingRows;", true)
  | 5 => ("ThumbSea", "imageKept", "Z", false)
  | _ => ("ThumbSea", "seasRead", "I", false)
def tyX9 : Nat → FieldType := fun k => match k with
  | 0 => .object "ThumbSea$Page"
  | 1 => .object "ThumbSea$Crowd"
  | 2 => .object "ThumbSea$Crowd"
  | 3 => .object "ThumbSea$Trial"
  | 4 => .object "ThumbSea$LastingRows"
  | 5 => .boolean
  | _ => .int
abbrev wsX90 : List Cond := u_ws RX9 TX9 7
theorem nmX9 : ∀ a, a < 7 → ∀ b, b < 7 → a ≠ b → (TX9 a).2.1 ≠ (TX9 b).2.1 := by decide +kernel
theorem tyX9_ok : ∀ k, k < 7 → parseFieldDescriptor (TX9 k).2.2.1 = some (tyX9 k) := by decide +kernel
abbrev cX9_init : ByteArray := prog_1_method_1_code
def yX9_init : MethodName := ⟨RX9, "<init>", "()V"⟩
abbrev cX9_letter : ByteArray := prog_1_method_2_code
def yX9_letter : MethodName := ⟨RX9, "letter", "(I)I"⟩
abbrev cX9_blank : ByteArray := prog_1_method_3_code
def yX9_blank : MethodName := ⟨RX9, "blank", "()I"⟩
abbrev cX9_fault : ByteArray := prog_1_method_4_code
def yX9_fault : MethodName := ⟨RX9, "fault", "()I"⟩
abbrev cX9_sea : ByteArray := prog_1_method_5_code
def yX9_sea : MethodName := ⟨RX9, "sea", "()I"⟩
abbrev cX9_person : ByteArray := prog_1_method_6_code
def yX9_person : MethodName := ⟨RX9, "person", "(II)I"⟩
abbrev cX9_as : ByteArray := prog_1_method_7_code
def yX9_as : MethodName := ⟨RX9, "as", "(II)I"⟩
abbrev cX9_choose : ByteArray := prog_1_method_8_code
def yX9_choose : MethodName := ⟨RX9, "choose", "(II)I"⟩
abbrev cX9_paint : ByteArray := prog_1_method_9_code
def yX9_paint : MethodName := ⟨RX9, "paint", "(II)I"⟩
abbrev cX9_limit : ByteArray := prog_1_method_10_code
def yX9_limit : MethodName := ⟨RX9, "limit", "(I)I"⟩
abbrev cX9_show : ByteArray := prog_1_method_11_code
def yX9_show : MethodName := ⟨RX9, "show", "(II)I"⟩
abbrev cX9_back : ByteArray := prog_1_method_12_code
def yX9_back : MethodName := ⟨RX9, "back", "(II)I"⟩
abbrev cX9_day : ByteArray := prog_1_method_13_code
def yX9_day : MethodName := ⟨RX9, "day", "()I"⟩
abbrev cX9_meet : ByteArray := prog_1_method_14_code
def yX9_meet : MethodName := ⟨RX9, "meet", "(II)I"⟩
abbrev cX9_part : ByteArray := prog_1_method_15_code
def yX9_part : MethodName := ⟨RX9, "part", "(I)I"⟩
abbrev cX9_lasting : ByteArray := prog_1_method_16_code
def yX9_lasting : MethodName := ⟨RX9, "lasting", "(I)I"⟩
abbrev cX9_mutual : ByteArray := prog_1_method_17_code
def yX9_mutual : MethodName := ⟨RX9, "mutual", "()I"⟩
abbrev cX9_comes : ByteArray := prog_1_method_18_code
def yX9_comes : MethodName := ⟨RX9, "comes", "(III)I"⟩
abbrev cX9_best : ByteArray := prog_1_method_19_code
def yX9_best : MethodName := ⟨RX9, "best", "(II)I"⟩
abbrev cX9_waiting : ByteArray := prog_1_method_20_code
def yX9_waiting : MethodName := ⟨RX9, "waiting", "(III)I"⟩
abbrev cX9_howMany : ByteArray := prog_1_method_21_code
def yX9_howMany : MethodName := ⟨RX9, "howMany", "(I)I"⟩
abbrev cX9_see : ByteArray := prog_1_method_22_code
def yX9_see : MethodName := ⟨RX9, "see", "(IIZ)I"⟩
abbrev cX9_forget : ByteArray := prog_1_method_23_code
def yX9_forget : MethodName := ⟨RX9, "forget", "()I"⟩
abbrev cX9_seasons : ByteArray := prog_1_method_24_code
def yX9_seasons : MethodName := ⟨RX9, "seasons", "(III)I"⟩
abbrev cX9_image : ByteArray := prog_1_method_25_code
def yX9_image : MethodName := ⟨RX9, "image", "()I"⟩
abbrev cX9_restore : ByteArray := prog_1_method_26_code
def yX9_restore : MethodName := ⟨RX9, "restore", "()I"⟩
abbrev cX9_count : ByteArray := prog_1_method_27_code
def yX9_count : MethodName := ⟨RX9, "count", "(I)I"⟩
abbrev cX9_digest : ByteArray := prog_1_method_28_code
def yX9_digest : MethodName := ⟨RX9, "digest", "()J"⟩
abbrev cX9_foldLasting : ByteArray := prog_1_method_29_code
def yX9_foldLasting : MethodName := ⟨RX9, "foldLasting", "(J)J"⟩
abbrev cX9_isWithin : ByteArray := prog_1_method_30_code
def yX9_isWithin : MethodName := ⟨RX9, "isWithin", "(III)Z"⟩
abbrev cX9_isLimit : ByteArray := prog_1_method_31_code
def yX9_isLimit : MethodName := ⟨RX9, "isLimit", "(I)Z"⟩
def RX10 : String := "ThumbSeaModel"
def TX10 : u_T := fun k => match k with
  | 0 => ("ThumbSeaModel", "seas", "I", false)
  | 1 => ("ThumbSeaModel", "first", "I", false)
  | 2 => ("ThumbSeaModel", "people", "I", false)
  | 3 => ("ThumbSeaModel", "kindOf", "[I", true)
  | 4 => ("ThumbSeaModel", "worthOf", "[I", true)
  | 5 => ("ThumbSeaModel", "flatteryOf", "[I", true)
  | 6 => ("ThumbSeaModel", "choosyOf", "[I", true)
  | 7 => ("ThumbSeaModel", "rightOf", "[I", true)
  | 8 => ("ThumbSeaModel", "leftOf", "[I", true)
  | 9 => ("ThumbSeaModel", "rowOf", "[I", true)
  | 10 => ("ThumbSeaModel", "todayOf", "[I", true)
  | 11 => ("ThumbSeaModel", "hasOf", "[I", true)
  | 12 => ("ThumbSeaModel", "limit", "I", false)
  | 13 => ("ThumbSeaModel", "days", "I", false)
  | 14 => ("ThumbSeaModel", "rights", "I", false)
  | 15 => ("ThumbSeaModel", "lefts", "I", false)
  | 16 => ("ThumbSeaModel", "money", "I", false)
  | 17 => ("ThumbSeaModel", "met", "I", false)
  | 18 => ("ThumbSeaModel", "seen", "I", false)
  | 19 => ("ThumbSeaModel", "seenOne", "[I", true)
  | 20 => ("ThumbSeaModel", "seenOther", "[I", true)
  | 21 => ("ThumbSeaModel", "seenLikes", "[I", true)
  | 22 => ("ThumbSeaModel", "pageLength", "I", false)
  | 23 => ("ThumbSeaModel", "page", "[B", true)
  | 24 => ("ThumbSeaModel", "isWhole", "Z", false)
  | 25 => ("ThumbSeaModel", "sideMany", "I", false)
  | 26 => ("ThumbSeaModel", "newFirst", "I", false)
  | 27 => ("ThumbSeaModel", "pair", "[I", true)
  | 28 => ("ThumbSeaModel", "told", "[I", true)
  | 29 => ("ThumbSeaModel", "rows", "I", false)
  | 30 => ("ThumbSeaModel", "savedRight", "[I", true)
  | 31 => ("ThumbSeaModel", "savedLeft", "[I", true)
  | 32 => ("ThumbSeaModel", "savedRow", "[I", true)
  | 33 => ("ThumbSeaModel", "savedToday", "[I", true)
  | 34 => ("ThumbSeaModel", "savedLimit", "I", false)
  | 35 => ("ThumbSeaModel", "savedRights", "I", false)
  | 36 => ("ThumbSeaModel", "savedLefts", "I", false)
  | 37 => ("ThumbSeaModel", "seedNow", "J", false)
  | 38 => ("ThumbSeaModel", "isKept", "Z", false)
  | 39 => ("ThumbSeaModel", "keptSea", "I", false)
  | 40 => ("ThumbSeaModel", "keptLimit", "I", false)
  | 41 => ("ThumbSeaModel", "keptDays", "I", false)
  | 42 => ("ThumbSeaModel", "keptRights", "I", false)
  | 43 => ("ThumbSeaModel", "keptLefts", "I", false)
  | 44 => ("ThumbSeaModel", "keptMoney", "I", false)
  | 45 => ("ThumbSeaModel", "keptMet", "I", false)
  | 46 => ("ThumbSeaModel", "keptSeen", "I", false)
  | 47 => ("ThumbSeaModel", "keptFlattery", "[I", true)
  | 48 => ("ThumbSeaModel", "keptChoosy", "[I", true)
  | 49 => ("ThumbSeaModel", "keptRight", "[I", true)
  | 50 => ("ThumbSeaModel", "keptLeft", "[I", true)
  | 51 => ("ThumbSeaModel", "keptRow", "[I", true)
  | 52 => ("ThumbSeaModel", "keptToday", "[I", true)
  | 53 => ("ThumbSeaModel", "keptHas", "[I", true)
  | 54 => ("ThumbSeaModel", "keptOne", "[I", true)
  | 55 => ("ThumbSeaModel", "keptOther", "[I", true)
  | 56 => ("ThumbSeaModel", "keptLikes", "[I", true)
  | _ => ("ThumbSeaModel", "h", "J", false)
def tyX10 : Nat → FieldType := fun k => match k with
  | 0 => .int
  | 1 => .int
  | 2 => .int
  | 3 => .array .int
  | 4 => .array .int
  | 5 => .array .int
  | 6 => .array .int
  | 7 => .array .int
  | 8 => .array .int
  | 9 => .array .int
  | 10 => .array .int
  | 11 => .array .int
  | 12 => .int
  | 13 => .int
  | 14 => .int
  | 15 => .int
  | 16 => .int
  | 17 => .int
  | 18 => .int
  | 19 => .array .int
  | 20 => .array .int
  | 21 => .array .int
  | 22 => .int
  | 23 => .array .byte
  | 24 => .boolean
  | 25 => .int
  | 26 => .int
  | 27 => .array .int
  | 28 => .array .int
  | 29 => .int
  | 30 => .array .int
  | 31 => .array .int
  | 32 => .array .int
  | 33 => .array .int
  | 34 => .int
  | 35 => .int
  | 36 => .int
  | 37 => .long
  | 38 => .boolean
  | 39 => .int
  | 40 => .int
  | 41 => .int
  | 42 => .int
  | 43 => .int
  | 44 => .int
  | 45 => .int
  | 46 => .int
  | 47 => .array .int
  | 48 => .array .int
  | 49 => .array .int
  | 50 => .array .int
  | 51 => .array .int
  | 52 => .array .int
  | 53 => .array .int
  | 54 => .array .int
  | 55 => .array .int
  | 56 => .array .int
  | _ => .long
abbrev wsX100 : List Cond := u_ws RX10 TX10 58
theorem nmX10 : ∀ a, a < 58 → ∀ b, b < 58 → a ≠ b → (TX10 a).2.1 ≠ (TX10 b).2.1 := by decide +kernel
theorem tyX10_ok : ∀ k, k < 58 → parseFieldDescriptor (TX10 k).2.2.1 = some (tyX10 k) := by decide +kernel
abbrev cX10_init : ByteArray := prog_12_method_1_code
def yX10_init : MethodName := ⟨RX10, "<init>", "()V"⟩
abbrev cX10_within : ByteArray := prog_12_method_3_code
def yX10_within : MethodName := ⟨RX10, "within", "(III)Z"⟩
abbrev cX10_isIn : ByteArray := prog_12_method_4_code
def yX10_isIn : MethodName := ⟨RX10, "isIn", "(II)Z"⟩
abbrev cX10_size : ByteArray := prog_12_method_5_code
def yX10_size : MethodName := ⟨RX10, "size", "(I)I"⟩
abbrev cX10_divisor : ByteArray := prog_12_method_6_code
def yX10_divisor : MethodName := ⟨RX10, "divisor", "(II)I"⟩
abbrev cX10_letter : ByteArray := prog_12_method_7_code
def yX10_letter : MethodName := ⟨RX10, "letter", "(I)I"⟩
abbrev cX10_blank : ByteArray := prog_12_method_8_code
def yX10_blank : MethodName := ⟨RX10, "blank", "()I"⟩
abbrev cX10_kindBy : ByteArray := prog_12_method_9_code
def yX10_kindBy : MethodName := ⟨RX10, "kindBy", "(I)I"⟩
abbrev cX10_at : ByteArray := prog_12_method_10_code
def yX10_at : MethodName := ⟨RX10, "at", "(I)I"⟩
abbrev cX10_isFigure : ByteArray := prog_12_method_11_code
def yX10_isFigure : MethodName := ⟨RX10, "isFigure", "(II)Z"⟩
abbrev cX10_readOne : ByteArray := prog_12_method_12_code
def yX10_readOne : MethodName := ⟨RX10, "readOne", "(I)I"⟩
abbrev cX10_readSide : ByteArray := prog_12_method_13_code
def yX10_readSide : MethodName := ⟨RX10, "readSide", "(I)I"⟩
abbrev cX10_read : ByteArray := prog_12_method_14_code
def yX10_read : MethodName := ⟨RX10, "read", "()I"⟩
abbrev cX10_fault : ByteArray := prog_12_method_15_code
def yX10_fault : MethodName := ⟨RX10, "fault", "()I"⟩
abbrev cX10_sea : ByteArray := prog_12_method_16_code
def yX10_sea : MethodName := ⟨RX10, "sea", "()I"⟩
abbrev cX10_isPerson : ByteArray := prog_12_method_17_code
def yX10_isPerson : MethodName := ⟨RX10, "isPerson", "(I)Z"⟩
abbrev cX10_areTwo : ByteArray := prog_12_method_18_code
def yX10_areTwo : MethodName := ⟨RX10, "areTwo", "(II)Z"⟩
abbrev cX10_sideOf : ByteArray := prog_12_method_19_code
def yX10_sideOf : MethodName := ⟨RX10, "sideOf", "(I)I"⟩
abbrev cX10_areOther : ByteArray := prog_12_method_20_code
def yX10_areOther : MethodName := ⟨RX10, "areOther", "(II)Z"⟩
abbrev cX10_isFree : ByteArray := prog_12_method_21_code
def yX10_isFree : MethodName := ⟨RX10, "isFree", "(I)Z"⟩
abbrev cX10_picture : ByteArray := prog_12_method_22_code
def yX10_picture : MethodName := ⟨RX10, "picture", "(I)I"⟩
abbrev cX10_likes : ByteArray := prog_12_method_23_code
def yX10_likes : MethodName := ⟨RX10, "likes", "(II)Z"⟩
abbrev cX10_likeEachOther : ByteArray := prog_12_method_24_code
def yX10_likeEachOther : MethodName := ⟨RX10, "likeEachOther", "(II)Z"⟩
abbrev cX10_isMatch : ByteArray := prog_12_method_25_code
def yX10_isMatch : MethodName := ⟨RX10, "isMatch", "(II)Z"⟩
abbrev cX10_likedBy : ByteArray := prog_12_method_26_code
def yX10_likedBy : MethodName := ⟨RX10, "likedBy", "(I)I"⟩
abbrev cX10_matchedWith : ByteArray := prog_12_method_27_code
def yX10_matchedWith : MethodName := ⟨RX10, "matchedWith", "(I)I"⟩
abbrev cX10_personNow : ByteArray := prog_12_method_28_code
def yX10_personNow : MethodName := ⟨RX10, "personNow", "(II)I"⟩
abbrev cX10_person : ByteArray := prog_12_method_29_code
def yX10_person : MethodName := ⟨RX10, "person", "(II)I"⟩
abbrev cX10_as : ByteArray := prog_12_method_30_code
def yX10_as : MethodName := ⟨RX10, "as", "(II)I"⟩
abbrev cX10_choose : ByteArray := prog_12_method_31_code
def yX10_choose : MethodName := ⟨RX10, "choose", "(II)I"⟩
abbrev cX10_paint : ByteArray := prog_12_method_32_code
def yX10_paint : MethodName := ⟨RX10, "paint", "(II)I"⟩
abbrev cX10_limit : ByteArray := prog_12_method_33_code
def yX10_limit : MethodName := ⟨RX10, "limit", "(I)I"⟩
abbrev cX10_goesRight : ByteArray := prog_12_method_34_code
def yX10_goesRight : MethodName := ⟨RX10, "goesRight", "(II)Z"⟩
abbrev cX10_shown : ByteArray := prog_12_method_35_code
def yX10_shown : MethodName := ⟨RX10, "shown", "(II)Z"⟩
abbrev cX10_wasShown : ByteArray := prog_12_method_36_code
def yX10_wasShown : MethodName := ⟨RX10, "wasShown", "(II)Z"⟩
abbrev cX10_show : ByteArray := prog_12_method_37_code
def yX10_show : MethodName := ⟨RX10, "show", "(II)I"⟩
abbrev cX10_back : ByteArray := prog_12_method_38_code
def yX10_back : MethodName := ⟨RX10, "back", "(II)I"⟩
abbrev cX10_day : ByteArray := prog_12_method_39_code
def yX10_day : MethodName := ⟨RX10, "day", "()I"⟩
abbrev cX10_isContent : ByteArray := prog_12_method_40_code
def yX10_isContent : MethodName := ⟨RX10, "isContent", "(II)Z"⟩
abbrev cX10_leaves : ByteArray := prog_12_method_41_code
def yX10_leaves : MethodName := ⟨RX10, "leaves", "(II)V"⟩
abbrev cX10_meet : ByteArray := prog_12_method_42_code
def yX10_meet : MethodName := ⟨RX10, "meet", "(II)I"⟩
abbrev cX10_part : ByteArray := prog_12_method_43_code
def yX10_part : MethodName := ⟨RX10, "part", "(I)I"⟩
abbrev cX10_prefers : ByteArray := prog_12_method_44_code
def yX10_prefers : MethodName := ⟨RX10, "prefers", "(II)Z"⟩
abbrev cX10_mayBe : ByteArray := prog_12_method_45_code
def yX10_mayBe : MethodName := ⟨RX10, "mayBe", "(II)Z"⟩
abbrev cX10_whoHas : ByteArray := prog_12_method_46_code
def yX10_whoHas : MethodName := ⟨RX10, "whoHas", "(I)I"⟩
abbrev cX10_isRow : ByteArray := prog_12_method_47_code
def yX10_isRow : MethodName := ⟨RX10, "isRow", "()Z"⟩
abbrev cX10_wouldLeave : ByteArray := prog_12_method_48_code
def yX10_wouldLeave : MethodName := ⟨RX10, "wouldLeave", "(II)Z"⟩
abbrev cX10_isLasting : ByteArray := prog_12_method_49_code
def yX10_isLasting : MethodName := ⟨RX10, "isLasting", "()Z"⟩
abbrev cX10_nextRow : ByteArray := prog_12_method_50_code
def yX10_nextRow : MethodName := ⟨RX10, "nextRow", "()Z"⟩
abbrev cX10_layLasting : ByteArray := prog_12_method_51_code
def yX10_layLasting : MethodName := ⟨RX10, "layLasting", "()V"⟩
abbrev cX10_isBest : ByteArray := prog_12_method_52_code
def yX10_isBest : MethodName := ⟨RX10, "isBest", "(I)Z"⟩
abbrev cX10_lastingNow : ByteArray := prog_12_method_53_code
def yX10_lastingNow : MethodName := ⟨RX10, "lastingNow", "(I)I"⟩
abbrev cX10_lasting : ByteArray := prog_12_method_54_code
def yX10_lasting : MethodName := ⟨RX10, "lasting", "(I)I"⟩
abbrev cX10_mutualNow : ByteArray := prog_12_method_55_code
def yX10_mutualNow : MethodName := ⟨RX10, "mutualNow", "()I"⟩
abbrev cX10_mutual : ByteArray := prog_12_method_56_code
def yX10_mutual : MethodName := ⟨RX10, "mutual", "()I"⟩
abbrev cX10_save : ByteArray := prog_12_method_57_code
def yX10_save : MethodName := ⟨RX10, "save", "()V"⟩
abbrev cX10_load : ByteArray := prog_12_method_58_code
def yX10_load : MethodName := ⟨RX10, "load", "()V"⟩
abbrev cX10_nextFor : ByteArray := prog_12_method_59_code
def yX10_nextFor : MethodName := ⟨RX10, "nextFor", "(II)I"⟩
abbrev cX10_showThree : ByteArray := prog_12_method_60_code
def yX10_showThree : MethodName := ⟨RX10, "showThree", "(II)V"⟩
abbrev cX10_matches : ByteArray := prog_12_method_61_code
def yX10_matches : MethodName := ⟨RX10, "matches", "()I"⟩
abbrev cX10_comesNow : ByteArray := prog_12_method_62_code
def yX10_comesNow : MethodName := ⟨RX10, "comesNow", "(III)I"⟩
abbrev cX10_comes : ByteArray := prog_12_method_63_code
def yX10_comes : MethodName := ⟨RX10, "comes", "(III)I"⟩
abbrev cX10_bestNow : ByteArray := prog_12_method_64_code
def yX10_bestNow : MethodName := ⟨RX10, "bestNow", "(II)I"⟩
abbrev cX10_best : ByteArray := prog_12_method_65_code
def yX10_best : MethodName := ⟨RX10, "best", "(II)I"⟩
abbrev cX10_likely : ByteArray := prog_12_method_66_code
def yX10_likely : MethodName := ⟨RX10, "likely", "(II)I"⟩
abbrev cX10_waiting : ByteArray := prog_12_method_67_code
def yX10_waiting : MethodName := ⟨RX10, "waiting", "(III)I"⟩
abbrev cX10_howMany : ByteArray := prog_12_method_68_code
def yX10_howMany : MethodName := ⟨RX10, "howMany", "(I)I"⟩
abbrev cX10_see : ByteArray := prog_12_method_69_code
def yX10_see : MethodName := ⟨RX10, "see", "(IIZ)I"⟩
abbrev cX10_forget : ByteArray := prog_12_method_70_code
def yX10_forget : MethodName := ⟨RX10, "forget", "()I"⟩
abbrev cX10_wouldLike : ByteArray := prog_12_method_71_code
def yX10_wouldLike : MethodName := ⟨RX10, "wouldLike", "(III)Z"⟩
abbrev cX10_choosiesOf : ByteArray := prog_12_method_72_code
def yX10_choosiesOf : MethodName := ⟨RX10, "choosiesOf", "(I)I"⟩
abbrev cX10_askFor : ByteArray := prog_12_method_73_code
def yX10_askFor : MethodName := ⟨RX10, "askFor", "(I)I"⟩
abbrev cX10_draw : ByteArray := prog_12_method_74_code
def yX10_draw : MethodName := ⟨RX10, "draw", "(I)I"⟩
abbrev cX10_seasonsNow : ByteArray := prog_12_method_75_code
def yX10_seasonsNow : MethodName := ⟨RX10, "seasonsNow", "(III)I"⟩
abbrev cX10_seasons : ByteArray := prog_12_method_76_code
def yX10_seasons : MethodName := ⟨RX10, "seasons", "(III)I"⟩
abbrev cX10_image : ByteArray := prog_12_method_77_code
def yX10_image : MethodName := ⟨RX10, "image", "()I"⟩
abbrev cX10_restore : ByteArray := prog_12_method_78_code
def yX10_restore : MethodName := ⟨RX10, "restore", "()I"⟩
abbrev cX10_peopleNow : ByteArray := prog_12_method_79_code
def yX10_peopleNow : MethodName := ⟨RX10, "peopleNow", "(I)I"⟩
abbrev cX10_howManyOf : ByteArray := prog_12_method_80_code
def yX10_howManyOf : MethodName := ⟨RX10, "howManyOf", "(I)I"⟩
abbrev cX10_count : ByteArray := prog_12_method_81_code
def yX10_count : MethodName := ⟨RX10, "count", "(I)I"⟩
abbrev cX10_mix : ByteArray := prog_12_method_82_code
def yX10_mix : MethodName := ⟨RX10, "mix", "(J)V"⟩
abbrev cX10_digest : ByteArray := prog_12_method_83_code
def yX10_digest : MethodName := ⟨RX10, "digest", "()J"⟩
def RJx29ce0 : String := "java/lang/Enum"
def TJx29ce0 : u_T := fun k => match k with
  | _ => ("", "", "", false)
def tyJx29ce0 : Nat → FieldType := fun k => match k with
  | _ => .int
abbrev wsJx29ce00 : List Cond := u_ws RJx29ce0 TJx29ce0 0
theorem nmJx29ce0 : ∀ a, a < 0 → ∀ b, b < 0 → a ≠ b → (TJx29ce0 a).2.1 ≠ (TJx29ce0 b).2.1 := by decide +kernel
theorem tyJx29ce0_ok : ∀ k, k < 0 → parseFieldDescriptor (TJx29ce0 k).2.2.1 = some (tyJx29ce0 k) := by decide +kernel
def RJ6 : String := "java/lang/Integer"
def TJ6 : u_T := fun k => match k with
  | _ => ("", "", "", false)
def tyJ6 : Nat → FieldType := fun k => match k with
  | _ => .int
abbrev wsJ60 : List Cond := u_ws RJ6 TJ6 0
theorem nmJ6 : ∀ a, a < 0 → ∀ b, b < 0 → a ≠ b → (TJ6 a).2.1 ≠ (TJ6 b).2.1 := by decide +kernel
theorem tyJ6_ok : ∀ k, k < 0 → parseFieldDescriptor (TJ6 k).2.2.1 = some (tyJ6 k) := by decide +kernel
abbrev cJ6_bitCount_0f7a4 : ByteArray := prog_14_method_49_code
def yJ6_bitCount_0f7a4 : MethodName := ⟨RJ6, "bitCount", "(I)I"⟩
def RJ9 : String := "java/lang/Math"
def TJ9 : u_T := fun k => match k with
  | _ => ("", "", "", false)
def tyJ9 : Nat → FieldType := fun k => match k with
  | _ => .int
abbrev wsJ90 : List Cond := u_ws RJ9 TJ9 0
theorem nmJ9 : ∀ a, a < 0 → ∀ b, b < 0 → a ≠ b → (TJ9 a).2.1 ≠ (TJ9 b).2.1 := by decide +kernel
theorem tyJ9_ok : ∀ k, k < 0 → parseFieldDescriptor (TJ9 k).2.2.1 = some (tyJ9 k) := by decide +kernel
abbrev cJ9_abs_0f7a4 : ByteArray := prog_15_method_59_code
def yJ9_abs_0f7a4 : MethodName := ⟨RJ9, "abs", "(I)I"⟩
abbrev cJ9_max_7cf53 : ByteArray := prog_15_method_65_code
def yJ9_max_7cf53 : MethodName := ⟨RJ9, "max", "(II)I"⟩
def RL : String := "ThumbSeaLaw"
abbrev cL_law : ByteArray := code
def yL_law : MethodName := ⟨RL, "law", "([I)Z"⟩
abbrev vwCl : List vw_C := [(RX0, TX0, 10), (RX3, TX3, 6), (RX4, TX4, 2), (RX5, TX5, 12), (RX6, TX6, 4), (RX7, TX7, 2), (RX9, TX9, 7), (RX10, TX10, 58)]
end
section
theorem dX0_init_0 : decode cX0_init 0 = .ok (.aload_n 0, 1) := by decide +kernel
theorem dX0_init_1 : decode cX0_init 1 = .ok (.invokespecial 3, 3) := by decide +kernel
theorem dX0_init_4 : decode cX0_init 4 = .ok (.aload_n 0, 1) := by decide +kernel
theorem dX0_init_5 : decode cX0_init 5 = .ok (.bipush 8, 2) := by decide +kernel
theorem dX0_init_7 : decode cX0_init 7 = .ok (.anewarray 9, 3) := by decide +kernel
theorem dX0_init_10 : decode cX0_init 10 = .ok (.putfield 11, 3) := by decide +kernel
theorem dX0_init_13 : decode cX0_init 13 = .ok (.aload_n 0, 1) := by decide +kernel
theorem dX0_init_14 : decode cX0_init 14 = .ok (.new 17, 3) := by decide +kernel
theorem dX0_init_17 : decode cX0_init 17 = .ok (.dup, 1) := by decide +kernel
theorem dX0_init_18 : decode cX0_init 18 = .ok (.invokespecial 19, 3) := by decide +kernel
theorem dX0_init_21 : decode cX0_init 21 = .ok (.putfield 20, 3) := by decide +kernel
theorem dX0_init_24 : decode cX0_init 24 = .ok (.iconst 0, 1) := by decide +kernel
theorem dX0_init_25 : decode cX0_init 25 = .ok (.istore_n 1, 1) := by decide +kernel
theorem dX0_init_26 : decode cX0_init 26 = .ok (.iload_n 1, 1) := by decide +kernel
theorem dX0_init_27 : decode cX0_init 27 = .ok (.bipush 8, 2) := by decide +kernel
theorem dX0_init_29 : decode cX0_init 29 = .ok (.if_icmp .ge 23, 3) := by decide +kernel
theorem dX0_init_32 : decode cX0_init 32 = .ok (.aload_n 0, 1) := by decide +kernel
theorem dX0_init_33 : decode cX0_init 33 = .ok (.getfield 11, 3) := by decide +kernel
theorem dX0_init_36 : decode cX0_init 36 = .ok (.iload_n 1, 1) := by decide +kernel
theorem dX0_init_37 : decode cX0_init 37 = .ok (.new 9, 3) := by decide +kernel
theorem dX0_init_40 : decode cX0_init 40 = .ok (.dup, 1) := by decide +kernel
theorem dX0_init_41 : decode cX0_init 41 = .ok (.iload_n 1, 1) := by decide +kernel
theorem dX0_init_42 : decode cX0_init 42 = .ok (.invokespecial 24, 3) := by decide +kernel
theorem dX0_init_45 : decode cX0_init 45 = .ok (.aastore, 1) := by decide +kernel
theorem dX0_init_46 : decode cX0_init 46 = .ok (.iinc 1 1, 3) := by decide +kernel
theorem dX0_init_49 : decode cX0_init 49 = .ok (.goto (-23), 3) := by decide +kernel
theorem dX0_init_52 : decode cX0_init 52 = .ok (.return_, 1) := by decide +kernel
theorem dX0_isEmpty_0 : decode cX0_isEmpty 0 = .ok (.aload_n 0, 1) := by decide +kernel
theorem dX0_isEmpty_1 : decode cX0_isEmpty 1 = .ok (.getfield 27, 3) := by decide +kernel
theorem dX0_isEmpty_4 : decode cX0_isEmpty 4 = .ok (.ifCond .ne 7, 3) := by decide +kernel
theorem dX0_isEmpty_7 : decode cX0_isEmpty 7 = .ok (.iconst 1, 1) := by decide +kernel
theorem dX0_isEmpty_8 : decode cX0_isEmpty 8 = .ok (.goto 4, 3) := by decide +kernel
theorem dX0_isEmpty_11 : decode cX0_isEmpty 11 = .ok (.iconst 0, 1) := by decide +kernel
theorem dX0_isEmpty_12 : decode cX0_isEmpty 12 = .ok (.ireturn, 1) := by decide +kernel
theorem dX0_has_0 : decode cX0_has 0 = .ok (.iload_n 1, 1) := by decide +kernel
theorem dX0_has_1 : decode cX0_has 1 = .ok (.ifCond .lt 15, 3) := by decide +kernel
theorem dX0_has_4 : decode cX0_has 4 = .ok (.iload_n 1, 1) := by decide +kernel
theorem dX0_has_5 : decode cX0_has 5 = .ok (.aload_n 0, 1) := by decide +kernel
theorem dX0_has_6 : decode cX0_has 6 = .ok (.getfield 27, 3) := by decide +kernel
theorem dX0_has_9 : decode cX0_has 9 = .ok (.if_icmp .ge 7, 3) := by decide +kernel
theorem dX0_has_12 : decode cX0_has 12 = .ok (.iconst 1, 1) := by decide +kernel
theorem dX0_has_13 : decode cX0_has 13 = .ok (.goto 4, 3) := by decide +kernel
theorem dX0_has_16 : decode cX0_has 16 = .ok (.iconst 0, 1) := by decide +kernel
theorem dX0_has_17 : decode cX0_has 17 = .ok (.ireturn, 1) := by decide +kernel
theorem dX0_readFrom_0 : decode cX0_readFrom 0 = .ok (.iconst 0, 1) := by decide +kernel
theorem dX0_readFrom_1 : decode cX0_readFrom 1 = .ok (.istore_n 2, 1) := by decide +kernel
theorem dX0_readFrom_2 : decode cX0_readFrom 2 = .ok (.aload_n 0, 1) := by decide +kernel
theorem dX0_readFrom_3 : decode cX0_readFrom 3 = .ok (.iconst 0, 1) := by decide +kernel
theorem dX0_readFrom_4 : decode cX0_readFrom 4 = .ok (.putfield 27, 3) := by decide +kernel
theorem dX0_readFrom_7 : decode cX0_readFrom 7 = .ok (.iconst 0, 1) := by decide +kernel
theorem dX0_readFrom_8 : decode cX0_readFrom 8 = .ok (.istore_n 3, 1) := by decide +kernel
theorem dX0_readFrom_9 : decode cX0_readFrom 9 = .ok (.iload_n 3, 1) := by decide +kernel
theorem dX0_readFrom_10 : decode cX0_readFrom 10 = .ok (.aload_n 1, 1) := by decide +kernel
theorem dX0_readFrom_11 : decode cX0_readFrom 11 = .ok (.getfield 31, 3) := by decide +kernel
theorem dX0_readFrom_14 : decode cX0_readFrom 14 = .ok (.if_icmp .ge 129, 3) := by decide +kernel
theorem dX0_readFrom_17 : decode cX0_readFrom 17 = .ok (.aload_n 0, 1) := by decide +kernel
theorem dX0_readFrom_18 : decode cX0_readFrom 18 = .ok (.getfield 27, 3) := by decide +kernel
theorem dX0_readFrom_21 : decode cX0_readFrom 21 = .ok (.bipush 8, 2) := by decide +kernel
theorem dX0_readFrom_23 : decode cX0_readFrom 23 = .ok (.if_icmp .ge 120, 3) := by decide +kernel
theorem dX0_readFrom_26 : decode cX0_readFrom 26 = .ok (.aload_n 0, 1) := by decide +kernel
theorem dX0_readFrom_27 : decode cX0_readFrom 27 = .ok (.getfield 11, 3) := by decide +kernel
theorem dX0_readFrom_30 : decode cX0_readFrom 30 = .ok (.aload_n 0, 1) := by decide +kernel
theorem dX0_readFrom_31 : decode cX0_readFrom 31 = .ok (.getfield 27, 3) := by decide +kernel
theorem dX0_readFrom_34 : decode cX0_readFrom 34 = .ok (.aaload, 1) := by decide +kernel
theorem dX0_readFrom_35 : decode cX0_readFrom 35 = .ok (.astore 4, 2) := by decide +kernel
theorem dX0_readFrom_37 : decode cX0_readFrom 37 = .ok (.aload 4, 2) := by decide +kernel
theorem dX0_readFrom_39 : decode cX0_readFrom 39 = .ok (.aload_n 1, 1) := by decide +kernel
theorem dX0_readFrom_40 : decode cX0_readFrom 40 = .ok (.iload_n 3, 1) := by decide +kernel
theorem dX0_readFrom_41 : decode cX0_readFrom 41 = .ok (.invokevirtual 36, 3) := by decide +kernel
theorem dX0_readFrom_44 : decode cX0_readFrom 44 = .ok (.invokestatic 40, 3) := by decide +kernel
theorem dX0_readFrom_47 : decode cX0_readFrom 47 = .ok (.putfield 46, 3) := by decide +kernel
theorem dX0_readFrom_50 : decode cX0_readFrom 50 = .ok (.aload 4, 2) := by decide +kernel
theorem dX0_readFrom_52 : decode cX0_readFrom 52 = .ok (.iload_n 2, 1) := by decide +kernel
theorem dX0_readFrom_53 : decode cX0_readFrom 53 = .ok (.putfield 50, 3) := by decide +kernel
theorem dX0_readFrom_56 : decode cX0_readFrom 56 = .ok (.aload 4, 2) := by decide +kernel
theorem dX0_readFrom_58 : decode cX0_readFrom 58 = .ok (.aload_n 1, 1) := by decide +kernel
theorem dX0_readFrom_59 : decode cX0_readFrom 59 = .ok (.iload_n 3, 1) := by decide +kernel
theorem dX0_readFrom_60 : decode cX0_readFrom 60 = .ok (.iconst 1, 1) := by decide +kernel
theorem dX0_readFrom_61 : decode cX0_readFrom 61 = .ok (.iadd, 1) := by decide +kernel
theorem dX0_readFrom_62 : decode cX0_readFrom 62 = .ok (.invokevirtual 53, 3) := by decide +kernel
theorem dX0_readFrom_65 : decode cX0_readFrom 65 = .ok (.putfield 56, 3) := by decide +kernel
theorem dX0_readFrom_68 : decode cX0_readFrom 68 = .ok (.aload 4, 2) := by decide +kernel
theorem dX0_readFrom_70 : decode cX0_readFrom 70 = .ok (.aload_n 1, 1) := by decide +kernel
theorem dX0_readFrom_71 : decode cX0_readFrom 71 = .ok (.iload_n 3, 1) := by decide +kernel
theorem dX0_readFrom_72 : decode cX0_readFrom 72 = .ok (.iconst 2, 1) := by decide +kernel
theorem dX0_readFrom_73 : decode cX0_readFrom 73 = .ok (.iadd, 1) := by decide +kernel
theorem dX0_readFrom_74 : decode cX0_readFrom 74 = .ok (.invokevirtual 53, 3) := by decide +kernel
theorem dX0_readFrom_77 : decode cX0_readFrom 77 = .ok (.putfield 59, 3) := by decide +kernel
theorem dX0_readFrom_80 : decode cX0_readFrom 80 = .ok (.aload 4, 2) := by decide +kernel
theorem dX0_readFrom_82 : decode cX0_readFrom 82 = .ok (.aload_n 1, 1) := by decide +kernel
theorem dX0_readFrom_83 : decode cX0_readFrom 83 = .ok (.iload_n 3, 1) := by decide +kernel
theorem dX0_readFrom_84 : decode cX0_readFrom 84 = .ok (.iconst 3, 1) := by decide +kernel
theorem dX0_readFrom_85 : decode cX0_readFrom 85 = .ok (.iadd, 1) := by decide +kernel
theorem dX0_readFrom_86 : decode cX0_readFrom 86 = .ok (.invokevirtual 53, 3) := by decide +kernel
theorem dX0_readFrom_89 : decode cX0_readFrom 89 = .ok (.putfield 62, 3) := by decide +kernel
theorem dX0_readFrom_92 : decode cX0_readFrom 92 = .ok (.aload 4, 2) := by decide +kernel
theorem dX0_readFrom_94 : decode cX0_readFrom 94 = .ok (.iconst (-1), 1) := by decide +kernel
theorem dX0_readFrom_95 : decode cX0_readFrom 95 = .ok (.putfield 65, 3) := by decide +kernel
theorem dX0_readFrom_98 : decode cX0_readFrom 98 = .ok (.aload 4, 2) := by decide +kernel
theorem dX0_readFrom_100 : decode cX0_readFrom 100 = .ok (.invokevirtual 68, 3) := by decide +kernel
theorem dX0_readFrom_103 : decode cX0_readFrom 103 = .ok (.aload_n 0, 1) := by decide +kernel
theorem dX0_readFrom_104 : decode cX0_readFrom 104 = .ok (.dup, 1) := by decide +kernel
theorem dX0_readFrom_105 : decode cX0_readFrom 105 = .ok (.getfield 27, 3) := by decide +kernel
theorem dX0_readFrom_108 : decode cX0_readFrom 108 = .ok (.iconst 1, 1) := by decide +kernel
theorem dX0_readFrom_109 : decode cX0_readFrom 109 = .ok (.iadd, 1) := by decide +kernel
theorem dX0_readFrom_110 : decode cX0_readFrom 110 = .ok (.putfield 27, 3) := by decide +kernel
theorem dX0_readFrom_113 : decode cX0_readFrom 113 = .ok (.iload_n 2, 1) := by decide +kernel
theorem dX0_readFrom_114 : decode cX0_readFrom 114 = .ok (.ifCond .ne 11, 3) := by decide +kernel
theorem dX0_readFrom_117 : decode cX0_readFrom 117 = .ok (.aload_n 0, 1) := by decide +kernel
theorem dX0_readFrom_118 : decode cX0_readFrom 118 = .ok (.aload_n 0, 1) := by decide +kernel
theorem dX0_readFrom_119 : decode cX0_readFrom 119 = .ok (.getfield 27, 3) := by decide +kernel
theorem dX0_readFrom_122 : decode cX0_readFrom 122 = .ok (.putfield 71, 3) := by decide +kernel
theorem dX0_readFrom_125 : decode cX0_readFrom 125 = .ok (.aload_n 1, 1) := by decide +kernel
theorem dX0_readFrom_126 : decode cX0_readFrom 126 = .ok (.iload_n 3, 1) := by decide +kernel
theorem dX0_readFrom_127 : decode cX0_readFrom 127 = .ok (.iconst 4, 1) := by decide +kernel
theorem dX0_readFrom_128 : decode cX0_readFrom 128 = .ok (.iadd, 1) := by decide +kernel
theorem dX0_readFrom_129 : decode cX0_readFrom 129 = .ok (.invokevirtual 74, 3) := by decide +kernel
theorem dX0_readFrom_132 : decode cX0_readFrom 132 = .ok (.ifCond .eq 5, 3) := by decide +kernel
theorem dX0_readFrom_135 : decode cX0_readFrom 135 = .ok (.iconst 1, 1) := by decide +kernel
theorem dX0_readFrom_136 : decode cX0_readFrom 136 = .ok (.istore_n 2, 1) := by decide +kernel
theorem dX0_readFrom_137 : decode cX0_readFrom 137 = .ok (.iinc 3 5, 3) := by decide +kernel
theorem dX0_readFrom_140 : decode cX0_readFrom 140 = .ok (.goto (-131), 3) := by decide +kernel
theorem dX0_readFrom_143 : decode cX0_readFrom 143 = .ok (.aload_n 0, 1) := by decide +kernel
theorem dX0_readFrom_144 : decode cX0_readFrom 144 = .ok (.invokevirtual 78, 3) := by decide +kernel
theorem dX0_readFrom_147 : decode cX0_readFrom 147 = .ok (.return_, 1) := by decide +kernel
theorem dX0_clearHistory_0 : decode cX0_clearHistory 0 = .ok (.aload_n 0, 1) := by decide +kernel
theorem dX0_clearHistory_1 : decode cX0_clearHistory 1 = .ok (.bipush 9, 2) := by decide +kernel
theorem dX0_clearHistory_3 : decode cX0_clearHistory 3 = .ok (.putfield 81, 3) := by decide +kernel
theorem dX0_clearHistory_6 : decode cX0_clearHistory 6 = .ok (.aload_n 0, 1) := by decide +kernel
theorem dX0_clearHistory_7 : decode cX0_clearHistory 7 = .ok (.iconst 0, 1) := by decide +kernel
theorem dX0_clearHistory_8 : decode cX0_clearHistory 8 = .ok (.putfield 84, 3) := by decide +kernel
theorem dX0_clearHistory_11 : decode cX0_clearHistory 11 = .ok (.aload_n 0, 1) := by decide +kernel
theorem dX0_clearHistory_12 : decode cX0_clearHistory 12 = .ok (.iconst 0, 1) := by decide +kernel
theorem dX0_clearHistory_13 : decode cX0_clearHistory 13 = .ok (.putfield 87, 3) := by decide +kernel
theorem dX0_clearHistory_16 : decode cX0_clearHistory 16 = .ok (.aload_n 0, 1) := by decide +kernel
theorem dX0_clearHistory_17 : decode cX0_clearHistory 17 = .ok (.iconst 0, 1) := by decide +kernel
theorem dX0_clearHistory_18 : decode cX0_clearHistory 18 = .ok (.putfield 90, 3) := by decide +kernel
theorem dX0_clearHistory_21 : decode cX0_clearHistory 21 = .ok (.aload_n 0, 1) := by decide +kernel
theorem dX0_clearHistory_22 : decode cX0_clearHistory 22 = .ok (.iconst 0, 1) := by decide +kernel
theorem dX0_clearHistory_23 : decode cX0_clearHistory 23 = .ok (.putfield 93, 3) := by decide +kernel
theorem dX0_clearHistory_26 : decode cX0_clearHistory 26 = .ok (.aload_n 0, 1) := by decide +kernel
theorem dX0_clearHistory_27 : decode cX0_clearHistory 27 = .ok (.iconst 0, 1) := by decide +kernel
theorem dX0_clearHistory_28 : decode cX0_clearHistory 28 = .ok (.putfield 96, 3) := by decide +kernel
theorem dX0_clearHistory_31 : decode cX0_clearHistory 31 = .ok (.aload_n 0, 1) := by decide +kernel
theorem dX0_clearHistory_32 : decode cX0_clearHistory 32 = .ok (.getfield 20, 3) := by decide +kernel
theorem dX0_clearHistory_35 : decode cX0_clearHistory 35 = .ok (.invokevirtual 99, 3) := by decide +kernel
theorem dX0_clearHistory_38 : decode cX0_clearHistory 38 = .ok (.return_, 1) := by decide +kernel
theorem dX0_copyFrom_0 : decode cX0_copyFrom 0 = .ok (.iconst 0, 1) := by decide +kernel
theorem dX0_copyFrom_1 : decode cX0_copyFrom 1 = .ok (.istore_n 2, 1) := by decide +kernel
theorem dX0_copyFrom_2 : decode cX0_copyFrom 2 = .ok (.iload_n 2, 1) := by decide +kernel
theorem dX0_copyFrom_3 : decode cX0_copyFrom 3 = .ok (.bipush 8, 2) := by decide +kernel
theorem dX0_copyFrom_5 : decode cX0_copyFrom 5 = .ok (.if_icmp .ge 24, 3) := by decide +kernel
theorem dX0_copyFrom_8 : decode cX0_copyFrom 8 = .ok (.aload_n 0, 1) := by decide +kernel
theorem dX0_copyFrom_9 : decode cX0_copyFrom 9 = .ok (.getfield 11, 3) := by decide +kernel
theorem dX0_copyFrom_12 : decode cX0_copyFrom 12 = .ok (.iload_n 2, 1) := by decide +kernel
theorem dX0_copyFrom_13 : decode cX0_copyFrom 13 = .ok (.aaload, 1) := by decide +kernel
theorem dX0_copyFrom_14 : decode cX0_copyFrom 14 = .ok (.aload_n 1, 1) := by decide +kernel
theorem dX0_copyFrom_15 : decode cX0_copyFrom 15 = .ok (.getfield 11, 3) := by decide +kernel
theorem dX0_copyFrom_18 : decode cX0_copyFrom 18 = .ok (.iload_n 2, 1) := by decide +kernel
theorem dX0_copyFrom_19 : decode cX0_copyFrom 19 = .ok (.aaload, 1) := by decide +kernel
theorem dX0_copyFrom_20 : decode cX0_copyFrom 20 = .ok (.invokevirtual 102, 3) := by decide +kernel
theorem dX0_copyFrom_23 : decode cX0_copyFrom 23 = .ok (.iinc 2 1, 3) := by decide +kernel
theorem dX0_copyFrom_26 : decode cX0_copyFrom 26 = .ok (.goto (-24), 3) := by decide +kernel
theorem dX0_copyFrom_29 : decode cX0_copyFrom 29 = .ok (.aload_n 0, 1) := by decide +kernel
theorem dX0_copyFrom_30 : decode cX0_copyFrom 30 = .ok (.getfield 20, 3) := by decide +kernel
theorem dX0_copyFrom_33 : decode cX0_copyFrom 33 = .ok (.aload_n 1, 1) := by decide +kernel
theorem dX0_copyFrom_34 : decode cX0_copyFrom 34 = .ok (.getfield 20, 3) := by decide +kernel
theorem dX0_copyFrom_37 : decode cX0_copyFrom 37 = .ok (.invokevirtual 106, 3) := by decide +kernel
theorem dX0_copyFrom_40 : decode cX0_copyFrom 40 = .ok (.aload_n 0, 1) := by decide +kernel
theorem dX0_copyFrom_41 : decode cX0_copyFrom 41 = .ok (.aload_n 1, 1) := by decide +kernel
theorem dX0_copyFrom_42 : decode cX0_copyFrom 42 = .ok (.getfield 71, 3) := by decide +kernel
theorem dX0_copyFrom_45 : decode cX0_copyFrom 45 = .ok (.putfield 71, 3) := by decide +kernel
theorem dX0_copyFrom_48 : decode cX0_copyFrom 48 = .ok (.aload_n 0, 1) := by decide +kernel
theorem dX0_copyFrom_49 : decode cX0_copyFrom 49 = .ok (.aload_n 1, 1) := by decide +kernel
theorem dX0_copyFrom_50 : decode cX0_copyFrom 50 = .ok (.getfield 27, 3) := by decide +kernel
theorem dX0_copyFrom_53 : decode cX0_copyFrom 53 = .ok (.putfield 27, 3) := by decide +kernel
theorem dX0_copyFrom_56 : decode cX0_copyFrom 56 = .ok (.aload_n 0, 1) := by decide +kernel
theorem dX0_copyFrom_57 : decode cX0_copyFrom 57 = .ok (.aload_n 1, 1) := by decide +kernel
theorem dX0_copyFrom_58 : decode cX0_copyFrom 58 = .ok (.getfield 81, 3) := by decide +kernel
theorem dX0_copyFrom_61 : decode cX0_copyFrom 61 = .ok (.putfield 81, 3) := by decide +kernel
theorem dX0_copyFrom_64 : decode cX0_copyFrom 64 = .ok (.aload_n 0, 1) := by decide +kernel
theorem dX0_copyFrom_65 : decode cX0_copyFrom 65 = .ok (.aload_n 1, 1) := by decide +kernel
theorem dX0_copyFrom_66 : decode cX0_copyFrom 66 = .ok (.getfield 84, 3) := by decide +kernel
theorem dX0_copyFrom_69 : decode cX0_copyFrom 69 = .ok (.putfield 84, 3) := by decide +kernel
theorem dX0_copyFrom_72 : decode cX0_copyFrom 72 = .ok (.aload_n 0, 1) := by decide +kernel
theorem dX0_copyFrom_73 : decode cX0_copyFrom 73 = .ok (.aload_n 1, 1) := by decide +kernel
theorem dX0_copyFrom_74 : decode cX0_copyFrom 74 = .ok (.getfield 87, 3) := by decide +kernel
theorem dX0_copyFrom_77 : decode cX0_copyFrom 77 = .ok (.putfield 87, 3) := by decide +kernel
theorem dX0_copyFrom_80 : decode cX0_copyFrom 80 = .ok (.aload_n 0, 1) := by decide +kernel
theorem dX0_copyFrom_81 : decode cX0_copyFrom 81 = .ok (.aload_n 1, 1) := by decide +kernel
theorem dX0_copyFrom_82 : decode cX0_copyFrom 82 = .ok (.getfield 90, 3) := by decide +kernel
theorem dX0_copyFrom_85 : decode cX0_copyFrom 85 = .ok (.putfield 90, 3) := by decide +kernel
theorem dX0_copyFrom_88 : decode cX0_copyFrom 88 = .ok (.aload_n 0, 1) := by decide +kernel
theorem dX0_copyFrom_89 : decode cX0_copyFrom 89 = .ok (.aload_n 1, 1) := by decide +kernel
theorem dX0_copyFrom_90 : decode cX0_copyFrom 90 = .ok (.getfield 93, 3) := by decide +kernel
theorem dX0_copyFrom_93 : decode cX0_copyFrom 93 = .ok (.putfield 93, 3) := by decide +kernel
theorem dX0_copyFrom_96 : decode cX0_copyFrom 96 = .ok (.aload_n 0, 1) := by decide +kernel
theorem dX0_copyFrom_97 : decode cX0_copyFrom 97 = .ok (.aload_n 1, 1) := by decide +kernel
theorem dX0_copyFrom_98 : decode cX0_copyFrom 98 = .ok (.getfield 96, 3) := by decide +kernel
theorem dX0_copyFrom_101 : decode cX0_copyFrom 101 = .ok (.putfield 96, 3) := by decide +kernel
theorem dX0_copyFrom_104 : decode cX0_copyFrom 104 = .ok (.return_, 1) := by decide +kernel
theorem dX0_clearShown_0 : decode cX0_clearShown 0 = .ok (.iconst 0, 1) := by decide +kernel
theorem dX0_clearShown_1 : decode cX0_clearShown 1 = .ok (.istore_n 1, 1) := by decide +kernel
theorem dX0_clearShown_2 : decode cX0_clearShown 2 = .ok (.iload_n 1, 1) := by decide +kernel
theorem dX0_clearShown_3 : decode cX0_clearShown 3 = .ok (.aload_n 0, 1) := by decide +kernel
theorem dX0_clearShown_4 : decode cX0_clearShown 4 = .ok (.getfield 27, 3) := by decide +kernel
theorem dX0_clearShown_7 : decode cX0_clearShown 7 = .ok (.if_icmp .ge 18, 3) := by decide +kernel
theorem dX0_clearShown_10 : decode cX0_clearShown 10 = .ok (.aload_n 0, 1) := by decide +kernel
theorem dX0_clearShown_11 : decode cX0_clearShown 11 = .ok (.getfield 11, 3) := by decide +kernel
theorem dX0_clearShown_14 : decode cX0_clearShown 14 = .ok (.iload_n 1, 1) := by decide +kernel
theorem dX0_clearShown_15 : decode cX0_clearShown 15 = .ok (.aaload, 1) := by decide +kernel
theorem dX0_clearShown_16 : decode cX0_clearShown 16 = .ok (.invokevirtual 68, 3) := by decide +kernel
theorem dX0_clearShown_19 : decode cX0_clearShown 19 = .ok (.iinc 1 1, 3) := by decide +kernel
theorem dX0_clearShown_22 : decode cX0_clearShown 22 = .ok (.goto (-20), 3) := by decide +kernel
theorem dX0_clearShown_25 : decode cX0_clearShown 25 = .ok (.return_, 1) := by decide +kernel
theorem dX0_startDay_0 : decode cX0_startDay 0 = .ok (.iconst 0, 1) := by decide +kernel
theorem dX0_startDay_1 : decode cX0_startDay 1 = .ok (.istore_n 1, 1) := by decide +kernel
theorem dX0_startDay_2 : decode cX0_startDay 2 = .ok (.iload_n 1, 1) := by decide +kernel
theorem dX0_startDay_3 : decode cX0_startDay 3 = .ok (.aload_n 0, 1) := by decide +kernel
theorem dX0_startDay_4 : decode cX0_startDay 4 = .ok (.getfield 27, 3) := by decide +kernel
theorem dX0_startDay_7 : decode cX0_startDay 7 = .ok (.if_icmp .ge 19, 3) := by decide +kernel
theorem dX0_startDay_10 : decode cX0_startDay 10 = .ok (.aload_n 0, 1) := by decide +kernel
theorem dX0_startDay_11 : decode cX0_startDay 11 = .ok (.getfield 11, 3) := by decide +kernel
theorem dX0_startDay_14 : decode cX0_startDay 14 = .ok (.iload_n 1, 1) := by decide +kernel
theorem dX0_startDay_15 : decode cX0_startDay 15 = .ok (.aaload, 1) := by decide +kernel
theorem dX0_startDay_16 : decode cX0_startDay 16 = .ok (.iconst 0, 1) := by decide +kernel
theorem dX0_startDay_17 : decode cX0_startDay 17 = .ok (.putfield 109, 3) := by decide +kernel
theorem dX0_startDay_20 : decode cX0_startDay 20 = .ok (.iinc 1 1, 3) := by decide +kernel
theorem dX0_startDay_23 : decode cX0_startDay 23 = .ok (.goto (-21), 3) := by decide +kernel
theorem dX0_startDay_26 : decode cX0_startDay 26 = .ok (.return_, 1) := by decide +kernel
theorem dX0_present_0 : decode cX0_present 0 = .ok (.aload_n 1, 1) := by decide +kernel
theorem dX0_present_1 : decode cX0_present 1 = .ok (.aload_n 2, 1) := by decide +kernel
theorem dX0_present_2 : decode cX0_present 2 = .ok (.aload_n 0, 1) := by decide +kernel
theorem dX0_present_3 : decode cX0_present 3 = .ok (.getfield 81, 3) := by decide +kernel
theorem dX0_present_6 : decode cX0_present 6 = .ok (.invokevirtual 112, 3) := by decide +kernel
theorem dX0_present_9 : decode cX0_present 9 = .ok (.ifCond .eq 20, 3) := by decide +kernel
theorem dX0_present_12 : decode cX0_present 12 = .ok (.aload_n 1, 1) := by decide +kernel
theorem dX0_present_13 : decode cX0_present 13 = .ok (.aload_n 2, 1) := by decide +kernel
theorem dX0_present_14 : decode cX0_present 14 = .ok (.invokevirtual 116, 3) := by decide +kernel
theorem dX0_present_17 : decode cX0_present 17 = .ok (.aload_n 0, 1) := by decide +kernel
theorem dX0_present_18 : decode cX0_present 18 = .ok (.dup, 1) := by decide +kernel
theorem dX0_present_19 : decode cX0_present 19 = .ok (.getfield 93, 3) := by decide +kernel
theorem dX0_present_22 : decode cX0_present 22 = .ok (.iconst 1, 1) := by decide +kernel
theorem dX0_present_23 : decode cX0_present 23 = .ok (.iadd, 1) := by decide +kernel
theorem dX0_present_24 : decode cX0_present 24 = .ok (.putfield 93, 3) := by decide +kernel
theorem dX0_present_27 : decode cX0_present 27 = .ok (.iconst 1, 1) := by decide +kernel
theorem dX0_present_28 : decode cX0_present 28 = .ok (.ireturn, 1) := by decide +kernel
theorem dX0_present_29 : decode cX0_present 29 = .ok (.aload_n 1, 1) := by decide +kernel
theorem dX0_present_30 : decode cX0_present 30 = .ok (.aload_n 2, 1) := by decide +kernel
theorem dX0_present_31 : decode cX0_present 31 = .ok (.invokevirtual 119, 3) := by decide +kernel
theorem dX0_present_34 : decode cX0_present 34 = .ok (.aload_n 0, 1) := by decide +kernel
theorem dX0_present_35 : decode cX0_present 35 = .ok (.dup, 1) := by decide +kernel
theorem dX0_present_36 : decode cX0_present 36 = .ok (.getfield 96, 3) := by decide +kernel
theorem dX0_present_39 : decode cX0_present 39 = .ok (.iconst 1, 1) := by decide +kernel
theorem dX0_present_40 : decode cX0_present 40 = .ok (.iadd, 1) := by decide +kernel
theorem dX0_present_41 : decode cX0_present 41 = .ok (.putfield 96, 3) := by decide +kernel
theorem dX0_present_44 : decode cX0_present 44 = .ok (.iconst 0, 1) := by decide +kernel
theorem dX0_present_45 : decode cX0_present 45 = .ok (.ireturn, 1) := by decide +kernel
theorem dX0_putInOrder_0 : decode cX0_putInOrder 0 = .ok (.iconst 0, 1) := by decide +kernel
theorem dX0_putInOrder_1 : decode cX0_putInOrder 1 = .ok (.istore_n 3, 1) := by decide +kernel
theorem dX0_putInOrder_2 : decode cX0_putInOrder 2 = .ok (.iload_n 3, 1) := by decide +kernel
theorem dX0_putInOrder_3 : decode cX0_putInOrder 3 = .ok (.aload_n 0, 1) := by decide +kernel
theorem dX0_putInOrder_4 : decode cX0_putInOrder 4 = .ok (.getfield 27, 3) := by decide +kernel
theorem dX0_putInOrder_7 : decode cX0_putInOrder 7 = .ok (.if_icmp .ge 74, 3) := by decide +kernel
theorem dX0_putInOrder_10 : decode cX0_putInOrder 10 = .ok (.iload_n 3, 1) := by decide +kernel
theorem dX0_putInOrder_11 : decode cX0_putInOrder 11 = .ok (.aload_n 1, 1) := by decide +kernel
theorem dX0_putInOrder_12 : decode cX0_putInOrder 12 = .ok (.arraylength, 1) := by decide +kernel
theorem dX0_putInOrder_13 : decode cX0_putInOrder 13 = .ok (.if_icmp .ge 68, 3) := by decide +kernel
theorem dX0_putInOrder_16 : decode cX0_putInOrder 16 = .ok (.iload_n 3, 1) := by decide +kernel
theorem dX0_putInOrder_17 : decode cX0_putInOrder 17 = .ok (.istore 4, 2) := by decide +kernel
theorem dX0_putInOrder_19 : decode cX0_putInOrder 19 = .ok (.iload_n 2, 1) := by decide +kernel
theorem dX0_putInOrder_20 : decode cX0_putInOrder 20 = .ok (.ifCond .eq 50, 3) := by decide +kernel
theorem dX0_putInOrder_23 : decode cX0_putInOrder 23 = .ok (.iload 4, 2) := by decide +kernel
theorem dX0_putInOrder_25 : decode cX0_putInOrder 25 = .ok (.ifCond .le 45, 3) := by decide +kernel
theorem dX0_putInOrder_28 : decode cX0_putInOrder 28 = .ok (.aload_n 0, 1) := by decide +kernel
theorem dX0_putInOrder_29 : decode cX0_putInOrder 29 = .ok (.getfield 11, 3) := by decide +kernel
theorem dX0_putInOrder_32 : decode cX0_putInOrder 32 = .ok (.iload_n 3, 1) := by decide +kernel
theorem dX0_putInOrder_33 : decode cX0_putInOrder 33 = .ok (.aaload, 1) := by decide +kernel
theorem dX0_putInOrder_34 : decode cX0_putInOrder 34 = .ok (.invokevirtual 122, 3) := by decide +kernel
theorem dX0_putInOrder_37 : decode cX0_putInOrder 37 = .ok (.aload_n 0, 1) := by decide +kernel
theorem dX0_putInOrder_38 : decode cX0_putInOrder 38 = .ok (.getfield 11, 3) := by decide +kernel
theorem dX0_putInOrder_41 : decode cX0_putInOrder 41 = .ok (.aload_n 1, 1) := by decide +kernel
theorem dX0_putInOrder_42 : decode cX0_putInOrder 42 = .ok (.iload 4, 2) := by decide +kernel
theorem dX0_putInOrder_44 : decode cX0_putInOrder 44 = .ok (.iconst 1, 1) := by decide +kernel
theorem dX0_putInOrder_45 : decode cX0_putInOrder 45 = .ok (.isub, 1) := by decide +kernel
theorem dX0_putInOrder_46 : decode cX0_putInOrder 46 = .ok (.iaload, 1) := by decide +kernel
theorem dX0_putInOrder_47 : decode cX0_putInOrder 47 = .ok (.aaload, 1) := by decide +kernel
theorem dX0_putInOrder_48 : decode cX0_putInOrder 48 = .ok (.invokevirtual 122, 3) := by decide +kernel
theorem dX0_putInOrder_51 : decode cX0_putInOrder 51 = .ok (.if_icmp .le 19, 3) := by decide +kernel
theorem dX0_putInOrder_54 : decode cX0_putInOrder 54 = .ok (.aload_n 1, 1) := by decide +kernel
theorem dX0_putInOrder_55 : decode cX0_putInOrder 55 = .ok (.iload 4, 2) := by decide +kernel
theorem dX0_putInOrder_57 : decode cX0_putInOrder 57 = .ok (.aload_n 1, 1) := by decide +kernel
theorem dX0_putInOrder_58 : decode cX0_putInOrder 58 = .ok (.iload 4, 2) := by decide +kernel
theorem dX0_putInOrder_60 : decode cX0_putInOrder 60 = .ok (.iconst 1, 1) := by decide +kernel
theorem dX0_putInOrder_61 : decode cX0_putInOrder 61 = .ok (.isub, 1) := by decide +kernel
theorem dX0_putInOrder_62 : decode cX0_putInOrder 62 = .ok (.iaload, 1) := by decide +kernel
theorem dX0_putInOrder_63 : decode cX0_putInOrder 63 = .ok (.iastore, 1) := by decide +kernel
theorem dX0_putInOrder_64 : decode cX0_putInOrder 64 = .ok (.iinc 4 (-1), 3) := by decide +kernel
theorem dX0_putInOrder_67 : decode cX0_putInOrder 67 = .ok (.goto (-48), 3) := by decide +kernel
theorem dX0_putInOrder_70 : decode cX0_putInOrder 70 = .ok (.aload_n 1, 1) := by decide +kernel
theorem dX0_putInOrder_71 : decode cX0_putInOrder 71 = .ok (.iload 4, 2) := by decide +kernel
theorem dX0_putInOrder_73 : decode cX0_putInOrder 73 = .ok (.iload_n 3, 1) := by decide +kernel
theorem dX0_putInOrder_74 : decode cX0_putInOrder 74 = .ok (.iastore, 1) := by decide +kernel
theorem dX0_putInOrder_75 : decode cX0_putInOrder 75 = .ok (.iinc 3 1, 3) := by decide +kernel
theorem dX0_putInOrder_78 : decode cX0_putInOrder 78 = .ok (.goto (-76), 3) := by decide +kernel
theorem dX0_putInOrder_81 : decode cX0_putInOrder 81 = .ok (.return_, 1) := by decide +kernel
theorem dX0_tellOf_0 : decode cX0_tellOf 0 = .ok (.iload_n 2, 1) := by decide +kernel
theorem dX0_tellOf_1 : decode cX0_tellOf 1 = .ok (.tableswitch 183 0 14 #[75, 83, 88, 93, 98, 103, 127, 132, 138, 143, 148, 154, 159, 164, 177], 75) := by decide +kernel
theorem dX0_tellOf_76 : decode cX0_tellOf 76 = .ok (.aload_n 1, 1) := by decide +kernel
theorem dX0_tellOf_77 : decode cX0_tellOf 77 = .ok (.getfield 46, 3) := by decide +kernel
theorem dX0_tellOf_80 : decode cX0_tellOf 80 = .ok (.getfield 126, 3) := by decide +kernel
theorem dX0_tellOf_83 : decode cX0_tellOf 83 = .ok (.ireturn, 1) := by decide +kernel
theorem dX0_tellOf_84 : decode cX0_tellOf 84 = .ok (.aload_n 1, 1) := by decide +kernel
theorem dX0_tellOf_85 : decode cX0_tellOf 85 = .ok (.getfield 56, 3) := by decide +kernel
theorem dX0_tellOf_88 : decode cX0_tellOf 88 = .ok (.ireturn, 1) := by decide +kernel
theorem dX0_tellOf_89 : decode cX0_tellOf 89 = .ok (.aload_n 1, 1) := by decide +kernel
theorem dX0_tellOf_90 : decode cX0_tellOf 90 = .ok (.getfield 59, 3) := by decide +kernel
theorem dX0_tellOf_93 : decode cX0_tellOf 93 = .ok (.ireturn, 1) := by decide +kernel
theorem dX0_tellOf_94 : decode cX0_tellOf 94 = .ok (.aload_n 1, 1) := by decide +kernel
theorem dX0_tellOf_95 : decode cX0_tellOf 95 = .ok (.getfield 62, 3) := by decide +kernel
theorem dX0_tellOf_98 : decode cX0_tellOf 98 = .ok (.ireturn, 1) := by decide +kernel
theorem dX0_tellOf_99 : decode cX0_tellOf 99 = .ok (.aload_n 1, 1) := by decide +kernel
theorem dX0_tellOf_100 : decode cX0_tellOf 100 = .ok (.getfield 50, 3) := by decide +kernel
theorem dX0_tellOf_103 : decode cX0_tellOf 103 = .ok (.ireturn, 1) := by decide +kernel
theorem dX0_tellOf_104 : decode cX0_tellOf 104 = .ok (.aload_n 1, 1) := by decide +kernel
theorem dX0_tellOf_105 : decode cX0_tellOf 105 = .ok (.invokevirtual 129, 3) := by decide +kernel
theorem dX0_tellOf_108 : decode cX0_tellOf 108 = .ok (.ifCond .eq 7, 3) := by decide +kernel
theorem dX0_tellOf_111 : decode cX0_tellOf 111 = .ok (.iconst 1, 1) := by decide +kernel
theorem dX0_tellOf_112 : decode cX0_tellOf 112 = .ok (.goto 15, 3) := by decide +kernel
theorem dX0_tellOf_115 : decode cX0_tellOf 115 = .ok (.aload_n 1, 1) := by decide +kernel
theorem dX0_tellOf_116 : decode cX0_tellOf 116 = .ok (.invokevirtual 133, 3) := by decide +kernel
theorem dX0_tellOf_119 : decode cX0_tellOf 119 = .ok (.ifCond .eq 7, 3) := by decide +kernel
theorem dX0_tellOf_122 : decode cX0_tellOf 122 = .ok (.iconst 2, 1) := by decide +kernel
theorem dX0_tellOf_123 : decode cX0_tellOf 123 = .ok (.goto 4, 3) := by decide +kernel
theorem dX0_tellOf_126 : decode cX0_tellOf 126 = .ok (.iconst 0, 1) := by decide +kernel
theorem dX0_tellOf_127 : decode cX0_tellOf 127 = .ok (.ireturn, 1) := by decide +kernel
theorem dX0_tellOf_128 : decode cX0_tellOf 128 = .ok (.aload_n 1, 1) := by decide +kernel
theorem dX0_tellOf_129 : decode cX0_tellOf 129 = .ok (.getfield 65, 3) := by decide +kernel
theorem dX0_tellOf_132 : decode cX0_tellOf 132 = .ok (.ireturn, 1) := by decide +kernel
theorem dX0_tellOf_133 : decode cX0_tellOf 133 = .ok (.aload_n 0, 1) := by decide +kernel
theorem dX0_tellOf_134 : decode cX0_tellOf 134 = .ok (.aload_n 1, 1) := by decide +kernel
theorem dX0_tellOf_135 : decode cX0_tellOf 135 = .ok (.invokevirtual 136, 3) := by decide +kernel
theorem dX0_tellOf_138 : decode cX0_tellOf 138 = .ok (.ireturn, 1) := by decide +kernel
theorem dX0_tellOf_139 : decode cX0_tellOf 139 = .ok (.aload_n 1, 1) := by decide +kernel
theorem dX0_tellOf_140 : decode cX0_tellOf 140 = .ok (.getfield 140, 3) := by decide +kernel
theorem dX0_tellOf_143 : decode cX0_tellOf 143 = .ok (.ireturn, 1) := by decide +kernel
theorem dX0_tellOf_144 : decode cX0_tellOf 144 = .ok (.aload_n 1, 1) := by decide +kernel
theorem dX0_tellOf_145 : decode cX0_tellOf 145 = .ok (.getfield 143, 3) := by decide +kernel
theorem dX0_tellOf_148 : decode cX0_tellOf 148 = .ok (.ireturn, 1) := by decide +kernel
theorem dX0_tellOf_149 : decode cX0_tellOf 149 = .ok (.aload_n 0, 1) := by decide +kernel
theorem dX0_tellOf_150 : decode cX0_tellOf 150 = .ok (.aload_n 1, 1) := by decide +kernel
theorem dX0_tellOf_151 : decode cX0_tellOf 151 = .ok (.invokevirtual 146, 3) := by decide +kernel
theorem dX0_tellOf_154 : decode cX0_tellOf 154 = .ok (.ireturn, 1) := by decide +kernel
theorem dX0_tellOf_155 : decode cX0_tellOf 155 = .ok (.aload_n 1, 1) := by decide +kernel
theorem dX0_tellOf_156 : decode cX0_tellOf 156 = .ok (.getfield 149, 3) := by decide +kernel
theorem dX0_tellOf_159 : decode cX0_tellOf 159 = .ok (.ireturn, 1) := by decide +kernel
theorem dX0_tellOf_160 : decode cX0_tellOf 160 = .ok (.aload_n 1, 1) := by decide +kernel
theorem dX0_tellOf_161 : decode cX0_tellOf 161 = .ok (.getfield 109, 3) := by decide +kernel
theorem dX0_tellOf_164 : decode cX0_tellOf 164 = .ok (.ireturn, 1) := by decide +kernel
theorem dX0_tellOf_165 : decode cX0_tellOf 165 = .ok (.aload_n 0, 1) := by decide +kernel
theorem dX0_tellOf_166 : decode cX0_tellOf 166 = .ok (.getfield 20, 3) := by decide +kernel
theorem dX0_tellOf_169 : decode cX0_tellOf 169 = .ok (.aload_n 1, 1) := by decide +kernel
theorem dX0_tellOf_170 : decode cX0_tellOf 170 = .ok (.aload_n 0, 1) := by decide +kernel
theorem dX0_tellOf_171 : decode cX0_tellOf 171 = .ok (.getfield 11, 3) := by decide +kernel
theorem dX0_tellOf_174 : decode cX0_tellOf 174 = .ok (.invokevirtual 152, 3) := by decide +kernel
theorem dX0_tellOf_177 : decode cX0_tellOf 177 = .ok (.ireturn, 1) := by decide +kernel
theorem dX0_tellOf_178 : decode cX0_tellOf 178 = .ok (.aload_n 0, 1) := by decide +kernel
theorem dX0_tellOf_179 : decode cX0_tellOf 179 = .ok (.aload_n 1, 1) := by decide +kernel
theorem dX0_tellOf_180 : decode cX0_tellOf 180 = .ok (.invokevirtual 156, 3) := by decide +kernel
theorem dX0_tellOf_183 : decode cX0_tellOf 183 = .ok (.ireturn, 1) := by decide +kernel
theorem dX0_tellOf_184 : decode cX0_tellOf 184 = .ok (.bipush (-102), 2) := by decide +kernel
theorem dX0_tellOf_186 : decode cX0_tellOf 186 = .ok (.ireturn, 1) := by decide +kernel
theorem dX0_tell_0 : decode cX0_tell 0 = .ok (.iload_n 1, 1) := by decide +kernel
theorem dX0_tell_1 : decode cX0_tell 1 = .ok (.tableswitch 140 0 12 #[67, 72, 82, 87, 92, 97, 102, 107, 112, 117, 122, 127, 132], 67) := by decide +kernel
theorem dX0_tell_68 : decode cX0_tell 68 = .ok (.aload_n 0, 1) := by decide +kernel
theorem dX0_tell_69 : decode cX0_tell 69 = .ok (.getfield 71, 3) := by decide +kernel
theorem dX0_tell_72 : decode cX0_tell 72 = .ok (.ireturn, 1) := by decide +kernel
theorem dX0_tell_73 : decode cX0_tell 73 = .ok (.aload_n 0, 1) := by decide +kernel
theorem dX0_tell_74 : decode cX0_tell 74 = .ok (.getfield 27, 3) := by decide +kernel
theorem dX0_tell_77 : decode cX0_tell 77 = .ok (.aload_n 0, 1) := by decide +kernel
theorem dX0_tell_78 : decode cX0_tell 78 = .ok (.getfield 71, 3) := by decide +kernel
theorem dX0_tell_81 : decode cX0_tell 81 = .ok (.isub, 1) := by decide +kernel
theorem dX0_tell_82 : decode cX0_tell 82 = .ok (.ireturn, 1) := by decide +kernel
theorem dX0_tell_83 : decode cX0_tell 83 = .ok (.aload_n 0, 1) := by decide +kernel
theorem dX0_tell_84 : decode cX0_tell 84 = .ok (.invokevirtual 159, 3) := by decide +kernel
theorem dX0_tell_87 : decode cX0_tell 87 = .ok (.ireturn, 1) := by decide +kernel
theorem dX0_tell_88 : decode cX0_tell 88 = .ok (.aload_n 0, 1) := by decide +kernel
theorem dX0_tell_89 : decode cX0_tell 89 = .ok (.invokevirtual 162, 3) := by decide +kernel
theorem dX0_tell_92 : decode cX0_tell 92 = .ok (.ireturn, 1) := by decide +kernel
theorem dX0_tell_93 : decode cX0_tell 93 = .ok (.aload_n 0, 1) := by decide +kernel
theorem dX0_tell_94 : decode cX0_tell 94 = .ok (.invokevirtual 165, 3) := by decide +kernel
theorem dX0_tell_97 : decode cX0_tell 97 = .ok (.ireturn, 1) := by decide +kernel
theorem dX0_tell_98 : decode cX0_tell 98 = .ok (.aload_n 0, 1) := by decide +kernel
theorem dX0_tell_99 : decode cX0_tell 99 = .ok (.invokevirtual 168, 3) := by decide +kernel
theorem dX0_tell_102 : decode cX0_tell 102 = .ok (.ireturn, 1) := by decide +kernel
theorem dX0_tell_103 : decode cX0_tell 103 = .ok (.aload_n 0, 1) := by decide +kernel
theorem dX0_tell_104 : decode cX0_tell 104 = .ok (.getfield 93, 3) := by decide +kernel
theorem dX0_tell_107 : decode cX0_tell 107 = .ok (.ireturn, 1) := by decide +kernel
theorem dX0_tell_108 : decode cX0_tell 108 = .ok (.aload_n 0, 1) := by decide +kernel
theorem dX0_tell_109 : decode cX0_tell 109 = .ok (.getfield 96, 3) := by decide +kernel
theorem dX0_tell_112 : decode cX0_tell 112 = .ok (.ireturn, 1) := by decide +kernel
theorem dX0_tell_113 : decode cX0_tell 113 = .ok (.aload_n 0, 1) := by decide +kernel
theorem dX0_tell_114 : decode cX0_tell 114 = .ok (.getfield 81, 3) := by decide +kernel
theorem dX0_tell_117 : decode cX0_tell 117 = .ok (.ireturn, 1) := by decide +kernel
theorem dX0_tell_118 : decode cX0_tell 118 = .ok (.aload_n 0, 1) := by decide +kernel
theorem dX0_tell_119 : decode cX0_tell 119 = .ok (.getfield 84, 3) := by decide +kernel
theorem dX0_tell_122 : decode cX0_tell 122 = .ok (.ireturn, 1) := by decide +kernel
theorem dX0_tell_123 : decode cX0_tell 123 = .ok (.aload_n 0, 1) := by decide +kernel
theorem dX0_tell_124 : decode cX0_tell 124 = .ok (.getfield 87, 3) := by decide +kernel
theorem dX0_tell_127 : decode cX0_tell 127 = .ok (.ireturn, 1) := by decide +kernel
theorem dX0_tell_128 : decode cX0_tell 128 = .ok (.aload_n 0, 1) := by decide +kernel
theorem dX0_tell_129 : decode cX0_tell 129 = .ok (.getfield 90, 3) := by decide +kernel
theorem dX0_tell_132 : decode cX0_tell 132 = .ok (.ireturn, 1) := by decide +kernel
theorem dX0_tell_133 : decode cX0_tell 133 = .ok (.aload_n 0, 1) := by decide +kernel
theorem dX0_tell_134 : decode cX0_tell 134 = .ok (.getfield 20, 3) := by decide +kernel
theorem dX0_tell_137 : decode cX0_tell 137 = .ok (.getfield 171, 3) := by decide +kernel
theorem dX0_tell_140 : decode cX0_tell 140 = .ok (.ireturn, 1) := by decide +kernel
theorem dX0_tell_141 : decode cX0_tell 141 = .ok (.bipush (-102), 2) := by decide +kernel
theorem dX0_tell_143 : decode cX0_tell 143 = .ok (.ireturn, 1) := by decide +kernel
theorem dX0_likedBy_0 : decode cX0_likedBy 0 = .ok (.iconst 0, 1) := by decide +kernel
theorem dX0_likedBy_1 : decode cX0_likedBy 1 = .ok (.istore_n 2, 1) := by decide +kernel
theorem dX0_likedBy_2 : decode cX0_likedBy 2 = .ok (.iconst 0, 1) := by decide +kernel
theorem dX0_likedBy_3 : decode cX0_likedBy 3 = .ok (.istore_n 3, 1) := by decide +kernel
theorem dX0_likedBy_4 : decode cX0_likedBy 4 = .ok (.iload_n 3, 1) := by decide +kernel
theorem dX0_likedBy_5 : decode cX0_likedBy 5 = .ok (.aload_n 0, 1) := by decide +kernel
theorem dX0_likedBy_6 : decode cX0_likedBy 6 = .ok (.getfield 27, 3) := by decide +kernel
theorem dX0_likedBy_9 : decode cX0_likedBy 9 = .ok (.if_icmp .ge 34, 3) := by decide +kernel
theorem dX0_likedBy_12 : decode cX0_likedBy 12 = .ok (.aload_n 1, 1) := by decide +kernel
theorem dX0_likedBy_13 : decode cX0_likedBy 13 = .ok (.aload_n 0, 1) := by decide +kernel
theorem dX0_likedBy_14 : decode cX0_likedBy 14 = .ok (.getfield 11, 3) := by decide +kernel
theorem dX0_likedBy_17 : decode cX0_likedBy 17 = .ok (.iload_n 3, 1) := by decide +kernel
theorem dX0_likedBy_18 : decode cX0_likedBy 18 = .ok (.aaload, 1) := by decide +kernel
theorem dX0_likedBy_19 : decode cX0_likedBy 19 = .ok (.invokevirtual 172, 3) := by decide +kernel
theorem dX0_likedBy_22 : decode cX0_likedBy 22 = .ok (.ifCond .eq 15, 3) := by decide +kernel
theorem dX0_likedBy_25 : decode cX0_likedBy 25 = .ok (.iload_n 2, 1) := by decide +kernel
theorem dX0_likedBy_26 : decode cX0_likedBy 26 = .ok (.aload_n 0, 1) := by decide +kernel
theorem dX0_likedBy_27 : decode cX0_likedBy 27 = .ok (.getfield 11, 3) := by decide +kernel
theorem dX0_likedBy_30 : decode cX0_likedBy 30 = .ok (.iload_n 3, 1) := by decide +kernel
theorem dX0_likedBy_31 : decode cX0_likedBy 31 = .ok (.aaload, 1) := by decide +kernel
theorem dX0_likedBy_32 : decode cX0_likedBy 32 = .ok (.getfield 176, 3) := by decide +kernel
theorem dX0_likedBy_35 : decode cX0_likedBy 35 = .ok (.ior, 1) := by decide +kernel
theorem dX0_likedBy_36 : decode cX0_likedBy 36 = .ok (.istore_n 2, 1) := by decide +kernel
theorem dX0_likedBy_37 : decode cX0_likedBy 37 = .ok (.iinc 3 1, 3) := by decide +kernel
theorem dX0_likedBy_40 : decode cX0_likedBy 40 = .ok (.goto (-36), 3) := by decide +kernel
theorem dX0_likedBy_43 : decode cX0_likedBy 43 = .ok (.iload_n 2, 1) := by decide +kernel
theorem dX0_likedBy_44 : decode cX0_likedBy 44 = .ok (.ireturn, 1) := by decide +kernel
theorem dX0_matchesOf_0 : decode cX0_matchesOf 0 = .ok (.iconst 0, 1) := by decide +kernel
theorem dX0_matchesOf_1 : decode cX0_matchesOf 1 = .ok (.istore_n 2, 1) := by decide +kernel
theorem dX0_matchesOf_2 : decode cX0_matchesOf 2 = .ok (.iconst 0, 1) := by decide +kernel
theorem dX0_matchesOf_3 : decode cX0_matchesOf 3 = .ok (.istore_n 3, 1) := by decide +kernel
theorem dX0_matchesOf_4 : decode cX0_matchesOf 4 = .ok (.iload_n 3, 1) := by decide +kernel
theorem dX0_matchesOf_5 : decode cX0_matchesOf 5 = .ok (.aload_n 0, 1) := by decide +kernel
theorem dX0_matchesOf_6 : decode cX0_matchesOf 6 = .ok (.getfield 27, 3) := by decide +kernel
theorem dX0_matchesOf_9 : decode cX0_matchesOf 9 = .ok (.if_icmp .ge 34, 3) := by decide +kernel
theorem dX0_matchesOf_12 : decode cX0_matchesOf 12 = .ok (.aload_n 1, 1) := by decide +kernel
theorem dX0_matchesOf_13 : decode cX0_matchesOf 13 = .ok (.aload_n 0, 1) := by decide +kernel
theorem dX0_matchesOf_14 : decode cX0_matchesOf 14 = .ok (.getfield 11, 3) := by decide +kernel
theorem dX0_matchesOf_17 : decode cX0_matchesOf 17 = .ok (.iload_n 3, 1) := by decide +kernel
theorem dX0_matchesOf_18 : decode cX0_matchesOf 18 = .ok (.aaload, 1) := by decide +kernel
theorem dX0_matchesOf_19 : decode cX0_matchesOf 19 = .ok (.invokevirtual 179, 3) := by decide +kernel
theorem dX0_matchesOf_22 : decode cX0_matchesOf 22 = .ok (.ifCond .eq 15, 3) := by decide +kernel
theorem dX0_matchesOf_25 : decode cX0_matchesOf 25 = .ok (.iload_n 2, 1) := by decide +kernel
theorem dX0_matchesOf_26 : decode cX0_matchesOf 26 = .ok (.aload_n 0, 1) := by decide +kernel
theorem dX0_matchesOf_27 : decode cX0_matchesOf 27 = .ok (.getfield 11, 3) := by decide +kernel
theorem dX0_matchesOf_30 : decode cX0_matchesOf 30 = .ok (.iload_n 3, 1) := by decide +kernel
theorem dX0_matchesOf_31 : decode cX0_matchesOf 31 = .ok (.aaload, 1) := by decide +kernel
theorem dX0_matchesOf_32 : decode cX0_matchesOf 32 = .ok (.getfield 176, 3) := by decide +kernel
theorem dX0_matchesOf_35 : decode cX0_matchesOf 35 = .ok (.ior, 1) := by decide +kernel
theorem dX0_matchesOf_36 : decode cX0_matchesOf 36 = .ok (.istore_n 2, 1) := by decide +kernel
theorem dX0_matchesOf_37 : decode cX0_matchesOf 37 = .ok (.iinc 3 1, 3) := by decide +kernel
theorem dX0_matchesOf_40 : decode cX0_matchesOf 40 = .ok (.goto (-36), 3) := by decide +kernel
theorem dX0_matchesOf_43 : decode cX0_matchesOf 43 = .ok (.iload_n 2, 1) := by decide +kernel
theorem dX0_matchesOf_44 : decode cX0_matchesOf 44 = .ok (.ireturn, 1) := by decide +kernel
theorem dX0_freeOnes_0 : decode cX0_freeOnes 0 = .ok (.iconst 0, 1) := by decide +kernel
theorem dX0_freeOnes_1 : decode cX0_freeOnes 1 = .ok (.istore_n 1, 1) := by decide +kernel
theorem dX0_freeOnes_2 : decode cX0_freeOnes 2 = .ok (.iconst 0, 1) := by decide +kernel
theorem dX0_freeOnes_3 : decode cX0_freeOnes 3 = .ok (.istore_n 2, 1) := by decide +kernel
theorem dX0_freeOnes_4 : decode cX0_freeOnes 4 = .ok (.iload_n 2, 1) := by decide +kernel
theorem dX0_freeOnes_5 : decode cX0_freeOnes 5 = .ok (.aload_n 0, 1) := by decide +kernel
theorem dX0_freeOnes_6 : decode cX0_freeOnes 6 = .ok (.getfield 27, 3) := by decide +kernel
theorem dX0_freeOnes_9 : decode cX0_freeOnes 9 = .ok (.if_icmp .ge 29, 3) := by decide +kernel
theorem dX0_freeOnes_12 : decode cX0_freeOnes 12 = .ok (.iload_n 1, 1) := by decide +kernel
theorem dX0_freeOnes_13 : decode cX0_freeOnes 13 = .ok (.aload_n 0, 1) := by decide +kernel
theorem dX0_freeOnes_14 : decode cX0_freeOnes 14 = .ok (.getfield 11, 3) := by decide +kernel
theorem dX0_freeOnes_17 : decode cX0_freeOnes 17 = .ok (.iload_n 2, 1) := by decide +kernel
theorem dX0_freeOnes_18 : decode cX0_freeOnes 18 = .ok (.aaload, 1) := by decide +kernel
theorem dX0_freeOnes_19 : decode cX0_freeOnes 19 = .ok (.invokevirtual 182, 3) := by decide +kernel
theorem dX0_freeOnes_22 : decode cX0_freeOnes 22 = .ok (.ifCond .eq 7, 3) := by decide +kernel
theorem dX0_freeOnes_25 : decode cX0_freeOnes 25 = .ok (.iconst 1, 1) := by decide +kernel
theorem dX0_freeOnes_26 : decode cX0_freeOnes 26 = .ok (.goto 4, 3) := by decide +kernel
theorem dX0_freeOnes_29 : decode cX0_freeOnes 29 = .ok (.iconst 0, 1) := by decide +kernel
theorem dX0_freeOnes_30 : decode cX0_freeOnes 30 = .ok (.iadd, 1) := by decide +kernel
theorem dX0_freeOnes_31 : decode cX0_freeOnes 31 = .ok (.istore_n 1, 1) := by decide +kernel
theorem dX0_freeOnes_32 : decode cX0_freeOnes 32 = .ok (.iinc 2 1, 3) := by decide +kernel
theorem dX0_freeOnes_35 : decode cX0_freeOnes 35 = .ok (.goto (-31), 3) := by decide +kernel
theorem dX0_freeOnes_38 : decode cX0_freeOnes 38 = .ok (.iload_n 1, 1) := by decide +kernel
theorem dX0_freeOnes_39 : decode cX0_freeOnes 39 = .ok (.ireturn, 1) := by decide +kernel
theorem dX0_goneOnes_0 : decode cX0_goneOnes 0 = .ok (.iconst 0, 1) := by decide +kernel
theorem dX0_goneOnes_1 : decode cX0_goneOnes 1 = .ok (.istore_n 1, 1) := by decide +kernel
theorem dX0_goneOnes_2 : decode cX0_goneOnes 2 = .ok (.iconst 0, 1) := by decide +kernel
theorem dX0_goneOnes_3 : decode cX0_goneOnes 3 = .ok (.istore_n 2, 1) := by decide +kernel
theorem dX0_goneOnes_4 : decode cX0_goneOnes 4 = .ok (.iload_n 2, 1) := by decide +kernel
theorem dX0_goneOnes_5 : decode cX0_goneOnes 5 = .ok (.aload_n 0, 1) := by decide +kernel
theorem dX0_goneOnes_6 : decode cX0_goneOnes 6 = .ok (.getfield 27, 3) := by decide +kernel
theorem dX0_goneOnes_9 : decode cX0_goneOnes 9 = .ok (.if_icmp .ge 29, 3) := by decide +kernel
theorem dX0_goneOnes_12 : decode cX0_goneOnes 12 = .ok (.iload_n 1, 1) := by decide +kernel
theorem dX0_goneOnes_13 : decode cX0_goneOnes 13 = .ok (.aload_n 0, 1) := by decide +kernel
theorem dX0_goneOnes_14 : decode cX0_goneOnes 14 = .ok (.getfield 11, 3) := by decide +kernel
theorem dX0_goneOnes_17 : decode cX0_goneOnes 17 = .ok (.iload_n 2, 1) := by decide +kernel
theorem dX0_goneOnes_18 : decode cX0_goneOnes 18 = .ok (.aaload, 1) := by decide +kernel
theorem dX0_goneOnes_19 : decode cX0_goneOnes 19 = .ok (.invokevirtual 133, 3) := by decide +kernel
theorem dX0_goneOnes_22 : decode cX0_goneOnes 22 = .ok (.ifCond .eq 7, 3) := by decide +kernel
theorem dX0_goneOnes_25 : decode cX0_goneOnes 25 = .ok (.iconst 1, 1) := by decide +kernel
theorem dX0_goneOnes_26 : decode cX0_goneOnes 26 = .ok (.goto 4, 3) := by decide +kernel
theorem dX0_goneOnes_29 : decode cX0_goneOnes 29 = .ok (.iconst 0, 1) := by decide +kernel
theorem dX0_goneOnes_30 : decode cX0_goneOnes 30 = .ok (.iadd, 1) := by decide +kernel
theorem dX0_goneOnes_31 : decode cX0_goneOnes 31 = .ok (.istore_n 1, 1) := by decide +kernel
theorem dX0_goneOnes_32 : decode cX0_goneOnes 32 = .ok (.iinc 2 1, 3) := by decide +kernel
theorem dX0_goneOnes_35 : decode cX0_goneOnes 35 = .ok (.goto (-31), 3) := by decide +kernel
theorem dX0_goneOnes_38 : decode cX0_goneOnes 38 = .ok (.iload_n 1, 1) := by decide +kernel
theorem dX0_goneOnes_39 : decode cX0_goneOnes 39 = .ok (.ireturn, 1) := by decide +kernel
theorem dX0_couples_0 : decode cX0_couples 0 = .ok (.iconst 0, 1) := by decide +kernel
theorem dX0_couples_1 : decode cX0_couples 1 = .ok (.istore_n 1, 1) := by decide +kernel
theorem dX0_couples_2 : decode cX0_couples 2 = .ok (.iconst 0, 1) := by decide +kernel
theorem dX0_couples_3 : decode cX0_couples 3 = .ok (.istore_n 2, 1) := by decide +kernel
theorem dX0_couples_4 : decode cX0_couples 4 = .ok (.iload_n 2, 1) := by decide +kernel
theorem dX0_couples_5 : decode cX0_couples 5 = .ok (.aload_n 0, 1) := by decide +kernel
theorem dX0_couples_6 : decode cX0_couples 6 = .ok (.getfield 71, 3) := by decide +kernel
theorem dX0_couples_9 : decode cX0_couples 9 = .ok (.if_icmp .ge 29, 3) := by decide +kernel
theorem dX0_couples_12 : decode cX0_couples 12 = .ok (.iload_n 1, 1) := by decide +kernel
theorem dX0_couples_13 : decode cX0_couples 13 = .ok (.aload_n 0, 1) := by decide +kernel
theorem dX0_couples_14 : decode cX0_couples 14 = .ok (.getfield 11, 3) := by decide +kernel
theorem dX0_couples_17 : decode cX0_couples 17 = .ok (.iload_n 2, 1) := by decide +kernel
theorem dX0_couples_18 : decode cX0_couples 18 = .ok (.aaload, 1) := by decide +kernel
theorem dX0_couples_19 : decode cX0_couples 19 = .ok (.invokevirtual 129, 3) := by decide +kernel
theorem dX0_couples_22 : decode cX0_couples 22 = .ok (.ifCond .eq 7, 3) := by decide +kernel
theorem dX0_couples_25 : decode cX0_couples 25 = .ok (.iconst 1, 1) := by decide +kernel
theorem dX0_couples_26 : decode cX0_couples 26 = .ok (.goto 4, 3) := by decide +kernel
theorem dX0_couples_29 : decode cX0_couples 29 = .ok (.iconst 0, 1) := by decide +kernel
theorem dX0_couples_30 : decode cX0_couples 30 = .ok (.iadd, 1) := by decide +kernel
theorem dX0_couples_31 : decode cX0_couples 31 = .ok (.istore_n 1, 1) := by decide +kernel
theorem dX0_couples_32 : decode cX0_couples 32 = .ok (.iinc 2 1, 3) := by decide +kernel
theorem dX0_couples_35 : decode cX0_couples 35 = .ok (.goto (-31), 3) := by decide +kernel
theorem dX0_couples_38 : decode cX0_couples 38 = .ok (.iload_n 1, 1) := by decide +kernel
theorem dX0_couples_39 : decode cX0_couples 39 = .ok (.ireturn, 1) := by decide +kernel
theorem dX0_openMatches_0 : decode cX0_openMatches 0 = .ok (.iconst 0, 1) := by decide +kernel
theorem dX0_openMatches_1 : decode cX0_openMatches 1 = .ok (.istore_n 1, 1) := by decide +kernel
theorem dX0_openMatches_2 : decode cX0_openMatches 2 = .ok (.iconst 0, 1) := by decide +kernel
theorem dX0_openMatches_3 : decode cX0_openMatches 3 = .ok (.istore_n 2, 1) := by decide +kernel
theorem dX0_openMatches_4 : decode cX0_openMatches 4 = .ok (.iload_n 2, 1) := by decide +kernel
theorem dX0_openMatches_5 : decode cX0_openMatches 5 = .ok (.aload_n 0, 1) := by decide +kernel
theorem dX0_openMatches_6 : decode cX0_openMatches 6 = .ok (.getfield 71, 3) := by decide +kernel
theorem dX0_openMatches_9 : decode cX0_openMatches 9 = .ok (.if_icmp .ge 51, 3) := by decide +kernel
theorem dX0_openMatches_12 : decode cX0_openMatches 12 = .ok (.aload_n 0, 1) := by decide +kernel
theorem dX0_openMatches_13 : decode cX0_openMatches 13 = .ok (.getfield 11, 3) := by decide +kernel
theorem dX0_openMatches_16 : decode cX0_openMatches 16 = .ok (.iload_n 2, 1) := by decide +kernel
theorem dX0_openMatches_17 : decode cX0_openMatches 17 = .ok (.aaload, 1) := by decide +kernel
theorem dX0_openMatches_18 : decode cX0_openMatches 18 = .ok (.astore_n 3, 1) := by decide +kernel
theorem dX0_openMatches_19 : decode cX0_openMatches 19 = .ok (.aload_n 3, 1) := by decide +kernel
theorem dX0_openMatches_20 : decode cX0_openMatches 20 = .ok (.invokevirtual 129, 3) := by decide +kernel
theorem dX0_openMatches_23 : decode cX0_openMatches 23 = .ok (.ifCond .eq 12, 3) := by decide +kernel
theorem dX0_openMatches_26 : decode cX0_openMatches 26 = .ok (.iconst 1, 1) := by decide +kernel
theorem dX0_openMatches_27 : decode cX0_openMatches 27 = .ok (.aload_n 3, 1) := by decide +kernel
theorem dX0_openMatches_28 : decode cX0_openMatches 28 = .ok (.getfield 65, 3) := by decide +kernel
theorem dX0_openMatches_31 : decode cX0_openMatches 31 = .ok (.ishl, 1) := by decide +kernel
theorem dX0_openMatches_32 : decode cX0_openMatches 32 = .ok (.goto 4, 3) := by decide +kernel
theorem dX0_openMatches_35 : decode cX0_openMatches 35 = .ok (.iconst 0, 1) := by decide +kernel
theorem dX0_openMatches_36 : decode cX0_openMatches 36 = .ok (.istore 4, 2) := by decide +kernel
theorem dX0_openMatches_38 : decode cX0_openMatches 38 = .ok (.iload_n 1, 1) := by decide +kernel
theorem dX0_openMatches_39 : decode cX0_openMatches 39 = .ok (.aload_n 0, 1) := by decide +kernel
theorem dX0_openMatches_40 : decode cX0_openMatches 40 = .ok (.aload_n 3, 1) := by decide +kernel
theorem dX0_openMatches_41 : decode cX0_openMatches 41 = .ok (.invokevirtual 146, 3) := by decide +kernel
theorem dX0_openMatches_44 : decode cX0_openMatches 44 = .ok (.iload 4, 2) := by decide +kernel
theorem dX0_openMatches_46 : decode cX0_openMatches 46 = .ok (.iconst (-1), 1) := by decide +kernel
theorem dX0_openMatches_47 : decode cX0_openMatches 47 = .ok (.ixor, 1) := by decide +kernel
theorem dX0_openMatches_48 : decode cX0_openMatches 48 = .ok (.iand, 1) := by decide +kernel
theorem dX0_openMatches_49 : decode cX0_openMatches 49 = .ok (.invokestatic 185, 3) := by decide +kernel
theorem dX0_openMatches_52 : decode cX0_openMatches 52 = .ok (.iadd, 1) := by decide +kernel
theorem dX0_openMatches_53 : decode cX0_openMatches 53 = .ok (.istore_n 1, 1) := by decide +kernel
theorem dX0_openMatches_54 : decode cX0_openMatches 54 = .ok (.iinc 2 1, 3) := by decide +kernel
theorem dX0_openMatches_57 : decode cX0_openMatches 57 = .ok (.goto (-53), 3) := by decide +kernel
theorem dX0_openMatches_60 : decode cX0_openMatches 60 = .ok (.iload_n 1, 1) := by decide +kernel
theorem dX0_openMatches_61 : decode cX0_openMatches 61 = .ok (.ireturn, 1) := by decide +kernel
theorem dX0_mutualOf_0 : decode cX0_mutualOf 0 = .ok (.iconst 0, 1) := by decide +kernel
theorem dX0_mutualOf_1 : decode cX0_mutualOf 1 = .ok (.istore_n 2, 1) := by decide +kernel
theorem dX0_mutualOf_2 : decode cX0_mutualOf 2 = .ok (.iconst 0, 1) := by decide +kernel
theorem dX0_mutualOf_3 : decode cX0_mutualOf 3 = .ok (.istore_n 3, 1) := by decide +kernel
theorem dX0_mutualOf_4 : decode cX0_mutualOf 4 = .ok (.iload_n 3, 1) := by decide +kernel
theorem dX0_mutualOf_5 : decode cX0_mutualOf 5 = .ok (.aload_n 0, 1) := by decide +kernel
theorem dX0_mutualOf_6 : decode cX0_mutualOf 6 = .ok (.getfield 27, 3) := by decide +kernel
theorem dX0_mutualOf_9 : decode cX0_mutualOf 9 = .ok (.if_icmp .ge 58, 3) := by decide +kernel
theorem dX0_mutualOf_12 : decode cX0_mutualOf 12 = .ok (.aload_n 1, 1) := by decide +kernel
theorem dX0_mutualOf_13 : decode cX0_mutualOf 13 = .ok (.invokevirtual 182, 3) := by decide +kernel
theorem dX0_mutualOf_16 : decode cX0_mutualOf 16 = .ok (.ifCond .eq 51, 3) := by decide +kernel
theorem dX0_mutualOf_19 : decode cX0_mutualOf 19 = .ok (.aload_n 0, 1) := by decide +kernel
theorem dX0_mutualOf_20 : decode cX0_mutualOf 20 = .ok (.getfield 11, 3) := by decide +kernel
theorem dX0_mutualOf_23 : decode cX0_mutualOf 23 = .ok (.iload_n 3, 1) := by decide +kernel
theorem dX0_mutualOf_24 : decode cX0_mutualOf 24 = .ok (.aaload, 1) := by decide +kernel
theorem dX0_mutualOf_25 : decode cX0_mutualOf 25 = .ok (.astore 4, 2) := by decide +kernel
theorem dX0_mutualOf_27 : decode cX0_mutualOf 27 = .ok (.aload 4, 2) := by decide +kernel
theorem dX0_mutualOf_29 : decode cX0_mutualOf 29 = .ok (.invokevirtual 182, 3) := by decide +kernel
theorem dX0_mutualOf_32 : decode cX0_mutualOf 32 = .ok (.ifCond .eq 29, 3) := by decide +kernel
theorem dX0_mutualOf_35 : decode cX0_mutualOf 35 = .ok (.aload_n 1, 1) := by decide +kernel
theorem dX0_mutualOf_36 : decode cX0_mutualOf 36 = .ok (.aload 4, 2) := by decide +kernel
theorem dX0_mutualOf_38 : decode cX0_mutualOf 38 = .ok (.invokevirtual 172, 3) := by decide +kernel
theorem dX0_mutualOf_41 : decode cX0_mutualOf 41 = .ok (.ifCond .eq 20, 3) := by decide +kernel
theorem dX0_mutualOf_44 : decode cX0_mutualOf 44 = .ok (.aload 4, 2) := by decide +kernel
theorem dX0_mutualOf_46 : decode cX0_mutualOf 46 = .ok (.aload_n 1, 1) := by decide +kernel
theorem dX0_mutualOf_47 : decode cX0_mutualOf 47 = .ok (.invokevirtual 172, 3) := by decide +kernel
theorem dX0_mutualOf_50 : decode cX0_mutualOf 50 = .ok (.ifCond .eq 11, 3) := by decide +kernel
theorem dX0_mutualOf_53 : decode cX0_mutualOf 53 = .ok (.iload_n 2, 1) := by decide +kernel
theorem dX0_mutualOf_54 : decode cX0_mutualOf 54 = .ok (.aload 4, 2) := by decide +kernel
theorem dX0_mutualOf_56 : decode cX0_mutualOf 56 = .ok (.getfield 176, 3) := by decide +kernel
theorem dX0_mutualOf_59 : decode cX0_mutualOf 59 = .ok (.ior, 1) := by decide +kernel
theorem dX0_mutualOf_60 : decode cX0_mutualOf 60 = .ok (.istore_n 2, 1) := by decide +kernel
theorem dX0_mutualOf_61 : decode cX0_mutualOf 61 = .ok (.iinc 3 1, 3) := by decide +kernel
theorem dX0_mutualOf_64 : decode cX0_mutualOf 64 = .ok (.goto (-60), 3) := by decide +kernel
theorem dX0_mutualOf_67 : decode cX0_mutualOf 67 = .ok (.iload_n 2, 1) := by decide +kernel
theorem dX0_mutualOf_68 : decode cX0_mutualOf 68 = .ok (.ireturn, 1) := by decide +kernel
theorem dX0_mutualTwos_0 : decode cX0_mutualTwos 0 = .ok (.iconst 0, 1) := by decide +kernel
theorem dX0_mutualTwos_1 : decode cX0_mutualTwos 1 = .ok (.istore_n 1, 1) := by decide +kernel
theorem dX0_mutualTwos_2 : decode cX0_mutualTwos 2 = .ok (.iconst 0, 1) := by decide +kernel
theorem dX0_mutualTwos_3 : decode cX0_mutualTwos 3 = .ok (.istore_n 2, 1) := by decide +kernel
theorem dX0_mutualTwos_4 : decode cX0_mutualTwos 4 = .ok (.iload_n 2, 1) := by decide +kernel
theorem dX0_mutualTwos_5 : decode cX0_mutualTwos 5 = .ok (.aload_n 0, 1) := by decide +kernel
theorem dX0_mutualTwos_6 : decode cX0_mutualTwos 6 = .ok (.getfield 71, 3) := by decide +kernel
theorem dX0_mutualTwos_9 : decode cX0_mutualTwos 9 = .ok (.if_icmp .ge 25, 3) := by decide +kernel
theorem dX0_mutualTwos_12 : decode cX0_mutualTwos 12 = .ok (.iload_n 1, 1) := by decide +kernel
theorem dX0_mutualTwos_13 : decode cX0_mutualTwos 13 = .ok (.aload_n 0, 1) := by decide +kernel
theorem dX0_mutualTwos_14 : decode cX0_mutualTwos 14 = .ok (.aload_n 0, 1) := by decide +kernel
theorem dX0_mutualTwos_15 : decode cX0_mutualTwos 15 = .ok (.getfield 11, 3) := by decide +kernel
theorem dX0_mutualTwos_18 : decode cX0_mutualTwos 18 = .ok (.iload_n 2, 1) := by decide +kernel
theorem dX0_mutualTwos_19 : decode cX0_mutualTwos 19 = .ok (.aaload, 1) := by decide +kernel
theorem dX0_mutualTwos_20 : decode cX0_mutualTwos 20 = .ok (.invokevirtual 190, 3) := by decide +kernel
theorem dX0_mutualTwos_23 : decode cX0_mutualTwos 23 = .ok (.invokestatic 185, 3) := by decide +kernel
theorem dX0_mutualTwos_26 : decode cX0_mutualTwos 26 = .ok (.iadd, 1) := by decide +kernel
theorem dX0_mutualTwos_27 : decode cX0_mutualTwos 27 = .ok (.istore_n 1, 1) := by decide +kernel
theorem dX0_mutualTwos_28 : decode cX0_mutualTwos 28 = .ok (.iinc 2 1, 3) := by decide +kernel
theorem dX0_mutualTwos_31 : decode cX0_mutualTwos 31 = .ok (.goto (-27), 3) := by decide +kernel
theorem dX0_mutualTwos_34 : decode cX0_mutualTwos 34 = .ok (.iload_n 1, 1) := by decide +kernel
theorem dX0_mutualTwos_35 : decode cX0_mutualTwos 35 = .ok (.ireturn, 1) := by decide +kernel
theorem dX0_toAsk_0 : decode cX0_toAsk 0 = .ok (.aload_n 0, 1) := by decide +kernel
theorem dX0_toAsk_1 : decode cX0_toAsk 1 = .ok (.getfield 20, 3) := by decide +kernel
theorem dX0_toAsk_4 : decode cX0_toAsk 4 = .ok (.aload_n 1, 1) := by decide +kernel
theorem dX0_toAsk_5 : decode cX0_toAsk 5 = .ok (.aload_n 0, 1) := by decide +kernel
theorem dX0_toAsk_6 : decode cX0_toAsk 6 = .ok (.getfield 11, 3) := by decide +kernel
theorem dX0_toAsk_9 : decode cX0_toAsk 9 = .ok (.invokevirtual 152, 3) := by decide +kernel
theorem dX0_toAsk_12 : decode cX0_toAsk 12 = .ok (.istore_n 2, 1) := by decide +kernel
theorem dX0_toAsk_13 : decode cX0_toAsk 13 = .ok (.iconst (-1), 1) := by decide +kernel
theorem dX0_toAsk_14 : decode cX0_toAsk 14 = .ok (.istore_n 3, 1) := by decide +kernel
theorem dX0_toAsk_15 : decode cX0_toAsk 15 = .ok (.iload_n 2, 1) := by decide +kernel
theorem dX0_toAsk_16 : decode cX0_toAsk 16 = .ok (.invokestatic 185, 3) := by decide +kernel
theorem dX0_toAsk_19 : decode cX0_toAsk 19 = .ok (.iconst 1, 1) := by decide +kernel
theorem dX0_toAsk_20 : decode cX0_toAsk 20 = .ok (.iadd, 1) := by decide +kernel
theorem dX0_toAsk_21 : decode cX0_toAsk 21 = .ok (.istore 4, 2) := by decide +kernel
theorem dX0_toAsk_23 : decode cX0_toAsk 23 = .ok (.iconst 0, 1) := by decide +kernel
theorem dX0_toAsk_24 : decode cX0_toAsk 24 = .ok (.istore 5, 2) := by decide +kernel
theorem dX0_toAsk_26 : decode cX0_toAsk 26 = .ok (.iload 5, 2) := by decide +kernel
theorem dX0_toAsk_28 : decode cX0_toAsk 28 = .ok (.aload_n 0, 1) := by decide +kernel
theorem dX0_toAsk_29 : decode cX0_toAsk 29 = .ok (.getfield 27, 3) := by decide +kernel
theorem dX0_toAsk_32 : decode cX0_toAsk 32 = .ok (.if_icmp .ge 60, 3) := by decide +kernel
theorem dX0_toAsk_35 : decode cX0_toAsk 35 = .ok (.iload_n 2, 1) := by decide +kernel
theorem dX0_toAsk_36 : decode cX0_toAsk 36 = .ok (.ifCond .eq 56, 3) := by decide +kernel
theorem dX0_toAsk_39 : decode cX0_toAsk 39 = .ok (.aload_n 0, 1) := by decide +kernel
theorem dX0_toAsk_40 : decode cX0_toAsk 40 = .ok (.getfield 11, 3) := by decide +kernel
theorem dX0_toAsk_43 : decode cX0_toAsk 43 = .ok (.iload 5, 2) := by decide +kernel
theorem dX0_toAsk_45 : decode cX0_toAsk 45 = .ok (.aaload, 1) := by decide +kernel
theorem dX0_toAsk_46 : decode cX0_toAsk 46 = .ok (.astore 6, 2) := by decide +kernel
theorem dX0_toAsk_48 : decode cX0_toAsk 48 = .ok (.aload_n 1, 1) := by decide +kernel
theorem dX0_toAsk_49 : decode cX0_toAsk 49 = .ok (.iload_n 2, 1) := by decide +kernel
theorem dX0_toAsk_50 : decode cX0_toAsk 50 = .ok (.aload 6, 2) := by decide +kernel
theorem dX0_toAsk_52 : decode cX0_toAsk 52 = .ok (.invokevirtual 122, 3) := by decide +kernel
theorem dX0_toAsk_55 : decode cX0_toAsk 55 = .ok (.invokestatic 193, 3) := by decide +kernel
theorem dX0_toAsk_58 : decode cX0_toAsk 58 = .ok (.istore 7, 2) := by decide +kernel
theorem dX0_toAsk_60 : decode cX0_toAsk 60 = .ok (.aload 6, 2) := by decide +kernel
theorem dX0_toAsk_62 : decode cX0_toAsk 62 = .ok (.getfield 50, 3) := by decide +kernel
theorem dX0_toAsk_65 : decode cX0_toAsk 65 = .ok (.aload_n 1, 1) := by decide +kernel
theorem dX0_toAsk_66 : decode cX0_toAsk 66 = .ok (.getfield 50, 3) := by decide +kernel
theorem dX0_toAsk_69 : decode cX0_toAsk 69 = .ok (.if_icmp .eq 17, 3) := by decide +kernel
theorem dX0_toAsk_72 : decode cX0_toAsk 72 = .ok (.iload 7, 2) := by decide +kernel
theorem dX0_toAsk_74 : decode cX0_toAsk 74 = .ok (.iload 4, 2) := by decide +kernel
theorem dX0_toAsk_76 : decode cX0_toAsk 76 = .ok (.if_icmp .ge 10, 3) := by decide +kernel
theorem dX0_toAsk_79 : decode cX0_toAsk 79 = .ok (.iload 7, 2) := by decide +kernel
theorem dX0_toAsk_81 : decode cX0_toAsk 81 = .ok (.istore 4, 2) := by decide +kernel
theorem dX0_toAsk_83 : decode cX0_toAsk 83 = .ok (.iload 5, 2) := by decide +kernel
theorem dX0_toAsk_85 : decode cX0_toAsk 85 = .ok (.istore_n 3, 1) := by decide +kernel
theorem dX0_toAsk_86 : decode cX0_toAsk 86 = .ok (.iinc 5 1, 3) := by decide +kernel
theorem dX0_toAsk_89 : decode cX0_toAsk 89 = .ok (.goto (-63), 3) := by decide +kernel
theorem dX0_toAsk_92 : decode cX0_toAsk 92 = .ok (.iload_n 3, 1) := by decide +kernel
theorem dX0_toAsk_93 : decode cX0_toAsk 93 = .ok (.ireturn, 1) := by decide +kernel
theorem dX0_leftAtWorst_0 : decode cX0_leftAtWorst 0 = .ok (.iconst 0, 1) := by decide +kernel
theorem dX0_leftAtWorst_1 : decode cX0_leftAtWorst 1 = .ok (.istore_n 3, 1) := by decide +kernel
theorem dX0_leftAtWorst_2 : decode cX0_leftAtWorst 2 = .ok (.iconst 0, 1) := by decide +kernel
theorem dX0_leftAtWorst_3 : decode cX0_leftAtWorst 3 = .ok (.istore 4, 2) := by decide +kernel
theorem dX0_leftAtWorst_5 : decode cX0_leftAtWorst 5 = .ok (.iconst 0, 1) := by decide +kernel
theorem dX0_leftAtWorst_6 : decode cX0_leftAtWorst 6 = .ok (.istore 5, 2) := by decide +kernel
theorem dX0_leftAtWorst_8 : decode cX0_leftAtWorst 8 = .ok (.iload 5, 2) := by decide +kernel
theorem dX0_leftAtWorst_10 : decode cX0_leftAtWorst 10 = .ok (.bipush 9, 2) := by decide +kernel
theorem dX0_leftAtWorst_12 : decode cX0_leftAtWorst 12 = .ok (.if_icmp .gt 40, 3) := by decide +kernel
theorem dX0_leftAtWorst_15 : decode cX0_leftAtWorst 15 = .ok (.iload_n 1, 1) := by decide +kernel
theorem dX0_leftAtWorst_16 : decode cX0_leftAtWorst 16 = .ok (.iconst 1, 1) := by decide +kernel
theorem dX0_leftAtWorst_17 : decode cX0_leftAtWorst 17 = .ok (.iload 5, 2) := by decide +kernel
theorem dX0_leftAtWorst_19 : decode cX0_leftAtWorst 19 = .ok (.ishl, 1) := by decide +kernel
theorem dX0_leftAtWorst_20 : decode cX0_leftAtWorst 20 = .ok (.iand, 1) := by decide +kernel
theorem dX0_leftAtWorst_21 : decode cX0_leftAtWorst 21 = .ok (.ifCond .ne 6, 3) := by decide +kernel
theorem dX0_leftAtWorst_24 : decode cX0_leftAtWorst 24 = .ok (.goto 22, 3) := by decide +kernel
theorem dX0_leftAtWorst_27 : decode cX0_leftAtWorst 27 = .ok (.aload_n 0, 1) := by decide +kernel
theorem dX0_leftAtWorst_28 : decode cX0_leftAtWorst 28 = .ok (.iload 5, 2) := by decide +kernel
theorem dX0_leftAtWorst_30 : decode cX0_leftAtWorst 30 = .ok (.iload_n 2, 1) := by decide +kernel
theorem dX0_leftAtWorst_31 : decode cX0_leftAtWorst 31 = .ok (.invokevirtual 197, 3) := by decide +kernel
theorem dX0_leftAtWorst_34 : decode cX0_leftAtWorst 34 = .ok (.ifCond .eq 9, 3) := by decide +kernel
theorem dX0_leftAtWorst_37 : decode cX0_leftAtWorst 37 = .ok (.iinc 3 1, 3) := by decide +kernel
theorem dX0_leftAtWorst_40 : decode cX0_leftAtWorst 40 = .ok (.goto 6, 3) := by decide +kernel
theorem dX0_leftAtWorst_43 : decode cX0_leftAtWorst 43 = .ok (.iinc 4 1, 3) := by decide +kernel
theorem dX0_leftAtWorst_46 : decode cX0_leftAtWorst 46 = .ok (.iinc 5 1, 3) := by decide +kernel
theorem dX0_leftAtWorst_49 : decode cX0_leftAtWorst 49 = .ok (.goto (-41), 3) := by decide +kernel
theorem dX0_leftAtWorst_52 : decode cX0_leftAtWorst 52 = .ok (.iload_n 3, 1) := by decide +kernel
theorem dX0_leftAtWorst_53 : decode cX0_leftAtWorst 53 = .ok (.iload 4, 2) := by decide +kernel
theorem dX0_leftAtWorst_55 : decode cX0_leftAtWorst 55 = .ok (.invokestatic 201, 3) := by decide +kernel
theorem dX0_leftAtWorst_58 : decode cX0_leftAtWorst 58 = .ok (.ireturn, 1) := by decide +kernel
theorem dX1_next_0 : decode cX1_next 0 = .ok (.ldc2_w 7, 3) := by decide +kernel
theorem dX1_next_3 : decode cX1_next 3 = .ok (.lload_n 0, 1) := by decide +kernel
theorem dX1_next_4 : decode cX1_next 4 = .ok (.lmul, 1) := by decide +kernel
theorem dX1_next_5 : decode cX1_next 5 = .ok (.ldc2_w 9, 3) := by decide +kernel
theorem dX1_next_8 : decode cX1_next 8 = .ok (.ladd, 1) := by decide +kernel
theorem dX1_next_9 : decode cX1_next 9 = .ok (.ldc2_w 11, 3) := by decide +kernel
theorem dX1_next_12 : decode cX1_next 12 = .ok (.land, 1) := by decide +kernel
theorem dX1_next_13 : decode cX1_next 13 = .ok (.lreturn, 1) := by decide +kernel
theorem dX1_pick_0 : decode cX1_pick 0 = .ok (.iload_n 2, 1) := by decide +kernel
theorem dX1_pick_1 : decode cX1_pick 1 = .ok (.ifCond .le 15, 3) := by decide +kernel
theorem dX1_pick_4 : decode cX1_pick 4 = .ok (.lload_n 0, 1) := by decide +kernel
theorem dX1_pick_5 : decode cX1_pick 5 = .ok (.ldc2_w 13, 3) := by decide +kernel
theorem dX1_pick_8 : decode cX1_pick 8 = .ok (.ldiv, 1) := by decide +kernel
theorem dX1_pick_9 : decode cX1_pick 9 = .ok (.iload_n 2, 1) := by decide +kernel
theorem dX1_pick_10 : decode cX1_pick 10 = .ok (.i2l, 1) := by decide +kernel
theorem dX1_pick_11 : decode cX1_pick 11 = .ok (.lrem, 1) := by decide +kernel
theorem dX1_pick_12 : decode cX1_pick 12 = .ok (.l2i, 1) := by decide +kernel
theorem dX1_pick_13 : decode cX1_pick 13 = .ok (.goto 4, 3) := by decide +kernel
theorem dX1_pick_16 : decode cX1_pick 16 = .ok (.iconst 0, 1) := by decide +kernel
theorem dX1_pick_17 : decode cX1_pick 17 = .ok (.ireturn, 1) := by decide +kernel
theorem dX2_isNumber_0 : decode cX2_isNumber 0 = .ok (.iload_n 0, 1) := by decide +kernel
theorem dX2_isNumber_1 : decode cX2_isNumber 1 = .ok (.ifCond .lt 15, 3) := by decide +kernel
theorem dX2_isNumber_4 : decode cX2_isNumber 4 = .ok (.iload_n 0, 1) := by decide +kernel
theorem dX2_isNumber_5 : decode cX2_isNumber 5 = .ok (.getstatic 45, 3) := by decide +kernel
theorem dX2_isNumber_8 : decode cX2_isNumber 8 = .ok (.arraylength, 1) := by decide +kernel
theorem dX2_isNumber_9 : decode cX2_isNumber 9 = .ok (.if_icmp .ge 7, 3) := by decide +kernel
theorem dX2_isNumber_12 : decode cX2_isNumber 12 = .ok (.iconst 1, 1) := by decide +kernel
theorem dX2_isNumber_13 : decode cX2_isNumber 13 = .ok (.goto 4, 3) := by decide +kernel
theorem dX2_isNumber_16 : decode cX2_isNumber 16 = .ok (.iconst 0, 1) := by decide +kernel
theorem dX2_isNumber_17 : decode cX2_isNumber 17 = .ok (.ireturn, 1) := by decide +kernel
theorem dX2_isLetter_0 : decode cX2_isLetter 0 = .ok (.iconst 0, 1) := by decide +kernel
theorem dX2_isLetter_1 : decode cX2_isLetter 1 = .ok (.istore_n 1, 1) := by decide +kernel
theorem dX2_isLetter_2 : decode cX2_isLetter 2 = .ok (.iload_n 1, 1) := by decide +kernel
theorem dX2_isLetter_3 : decode cX2_isLetter 3 = .ok (.getstatic 45, 3) := by decide +kernel
theorem dX2_isLetter_6 : decode cX2_isLetter 6 = .ok (.arraylength, 1) := by decide +kernel
theorem dX2_isLetter_7 : decode cX2_isLetter 7 = .ok (.if_icmp .ge 23, 3) := by decide +kernel
theorem dX2_isLetter_10 : decode cX2_isLetter 10 = .ok (.getstatic 45, 3) := by decide +kernel
theorem dX2_isLetter_13 : decode cX2_isLetter 13 = .ok (.iload_n 1, 1) := by decide +kernel
theorem dX2_isLetter_14 : decode cX2_isLetter 14 = .ok (.aaload, 1) := by decide +kernel
theorem dX2_isLetter_15 : decode cX2_isLetter 15 = .ok (.getfield 42, 3) := by decide +kernel
theorem dX2_isLetter_18 : decode cX2_isLetter 18 = .ok (.iload_n 0, 1) := by decide +kernel
theorem dX2_isLetter_19 : decode cX2_isLetter 19 = .ok (.if_icmp .ne 5, 3) := by decide +kernel
theorem dX2_isLetter_22 : decode cX2_isLetter 22 = .ok (.iconst 1, 1) := by decide +kernel
theorem dX2_isLetter_23 : decode cX2_isLetter 23 = .ok (.ireturn, 1) := by decide +kernel
theorem dX2_isLetter_24 : decode cX2_isLetter 24 = .ok (.iinc 1 1, 3) := by decide +kernel
theorem dX2_isLetter_27 : decode cX2_isLetter 27 = .ok (.goto (-25), 3) := by decide +kernel
theorem dX2_isLetter_30 : decode cX2_isLetter 30 = .ok (.iconst 0, 1) := by decide +kernel
theorem dX2_isLetter_31 : decode cX2_isLetter 31 = .ok (.ireturn, 1) := by decide +kernel
theorem dX2_ofLetter_0 : decode cX2_ofLetter 0 = .ok (.iconst 0, 1) := by decide +kernel
theorem dX2_ofLetter_1 : decode cX2_ofLetter 1 = .ok (.istore_n 1, 1) := by decide +kernel
theorem dX2_ofLetter_2 : decode cX2_ofLetter 2 = .ok (.iload_n 1, 1) := by decide +kernel
theorem dX2_ofLetter_3 : decode cX2_ofLetter 3 = .ok (.getstatic 45, 3) := by decide +kernel
theorem dX2_ofLetter_6 : decode cX2_ofLetter 6 = .ok (.arraylength, 1) := by decide +kernel
theorem dX2_ofLetter_7 : decode cX2_ofLetter 7 = .ok (.if_icmp .ge 27, 3) := by decide +kernel
theorem dX2_ofLetter_10 : decode cX2_ofLetter 10 = .ok (.getstatic 45, 3) := by decide +kernel
theorem dX2_ofLetter_13 : decode cX2_ofLetter 13 = .ok (.iload_n 1, 1) := by decide +kernel
theorem dX2_ofLetter_14 : decode cX2_ofLetter 14 = .ok (.aaload, 1) := by decide +kernel
theorem dX2_ofLetter_15 : decode cX2_ofLetter 15 = .ok (.getfield 42, 3) := by decide +kernel
theorem dX2_ofLetter_18 : decode cX2_ofLetter 18 = .ok (.iload_n 0, 1) := by decide +kernel
theorem dX2_ofLetter_19 : decode cX2_ofLetter 19 = .ok (.if_icmp .ne 9, 3) := by decide +kernel
theorem dX2_ofLetter_22 : decode cX2_ofLetter 22 = .ok (.getstatic 45, 3) := by decide +kernel
theorem dX2_ofLetter_25 : decode cX2_ofLetter 25 = .ok (.iload_n 1, 1) := by decide +kernel
theorem dX2_ofLetter_26 : decode cX2_ofLetter 26 = .ok (.aaload, 1) := by decide +kernel
theorem dX2_ofLetter_27 : decode cX2_ofLetter 27 = .ok (.areturn, 1) := by decide +kernel
theorem dX2_ofLetter_28 : decode cX2_ofLetter 28 = .ok (.iinc 1 1, 3) := by decide +kernel
theorem dX2_ofLetter_31 : decode cX2_ofLetter 31 = .ok (.goto (-29), 3) := by decide +kernel
theorem dX2_ofLetter_34 : decode cX2_ofLetter 34 = .ok (.getstatic 3, 3) := by decide +kernel
theorem dX2_ofLetter_37 : decode cX2_ofLetter 37 = .ok (.areturn, 1) := by decide +kernel
theorem dX2_isA_0 : decode cX2_isA 0 = .ok (.iload_n 1, 1) := by decide +kernel
theorem dX2_isA_1 : decode cX2_isA 1 = .ok (.getstatic 3, 3) := by decide +kernel
theorem dX2_isA_4 : decode cX2_isA 4 = .ok (.getfield 38, 3) := by decide +kernel
theorem dX2_isA_7 : decode cX2_isA 7 = .ok (.if_icmp .eq 28, 3) := by decide +kernel
theorem dX2_isA_10 : decode cX2_isA 10 = .ok (.iload_n 1, 1) := by decide +kernel
theorem dX2_isA_11 : decode cX2_isA 11 = .ok (.aload_n 0, 1) := by decide +kernel
theorem dX2_isA_12 : decode cX2_isA 12 = .ok (.getfield 38, 3) := by decide +kernel
theorem dX2_isA_15 : decode cX2_isA 15 = .ok (.if_icmp .eq 20, 3) := by decide +kernel
theorem dX2_isA_18 : decode cX2_isA 18 = .ok (.iload_n 1, 1) := by decide +kernel
theorem dX2_isA_19 : decode cX2_isA 19 = .ok (.getstatic 13, 3) := by decide +kernel
theorem dX2_isA_22 : decode cX2_isA 22 = .ok (.getfield 38, 3) := by decide +kernel
theorem dX2_isA_25 : decode cX2_isA 25 = .ok (.if_icmp .ne 14, 3) := by decide +kernel
theorem dX2_isA_28 : decode cX2_isA 28 = .ok (.aload_n 0, 1) := by decide +kernel
theorem dX2_isA_29 : decode cX2_isA 29 = .ok (.getstatic 16, 3) := by decide +kernel
theorem dX2_isA_32 : decode cX2_isA 32 = .ok (.if_acmp .ne 7, 3) := by decide +kernel
theorem dX2_isA_35 : decode cX2_isA 35 = .ok (.iconst 1, 1) := by decide +kernel
theorem dX2_isA_36 : decode cX2_isA 36 = .ok (.goto 4, 3) := by decide +kernel
theorem dX2_isA_39 : decode cX2_isA 39 = .ok (.iconst 0, 1) := by decide +kernel
theorem dX2_isA_40 : decode cX2_isA 40 = .ok (.ireturn, 1) := by decide +kernel
theorem dX3_init_0 : decode cX3_init 0 = .ok (.aload_n 0, 1) := by decide +kernel
theorem dX3_init_1 : decode cX3_init 1 = .ok (.invokespecial 3, 3) := by decide +kernel
theorem dX3_init_4 : decode cX3_init 4 = .ok (.aload_n 0, 1) := by decide +kernel
theorem dX3_init_5 : decode cX3_init 5 = .ok (.bipush 8, 2) := by decide +kernel
theorem dX3_init_7 : decode cX3_init 7 = .ok (.newarray .int, 2) := by decide +kernel
theorem dX3_init_9 : decode cX3_init 9 = .ok (.putfield 9, 3) := by decide +kernel
theorem dX3_init_12 : decode cX3_init 12 = .ok (.aload_n 0, 1) := by decide +kernel
theorem dX3_init_13 : decode cX3_init 13 = .ok (.bipush 8, 2) := by decide +kernel
theorem dX3_init_15 : decode cX3_init 15 = .ok (.newarray .int, 2) := by decide +kernel
theorem dX3_init_17 : decode cX3_init 17 = .ok (.putfield 15, 3) := by decide +kernel
theorem dX3_init_20 : decode cX3_init 20 = .ok (.aload_n 0, 1) := by decide +kernel
theorem dX3_init_21 : decode cX3_init 21 = .ok (.bipush 8, 2) := by decide +kernel
theorem dX3_init_23 : decode cX3_init 23 = .ok (.newarray .int, 2) := by decide +kernel
theorem dX3_init_25 : decode cX3_init 25 = .ok (.putfield 18, 3) := by decide +kernel
theorem dX3_init_28 : decode cX3_init 28 = .ok (.aload_n 0, 1) := by decide +kernel
theorem dX3_init_29 : decode cX3_init 29 = .ok (.bipush 8, 2) := by decide +kernel
theorem dX3_init_31 : decode cX3_init 31 = .ok (.newarray .int, 2) := by decide +kernel
theorem dX3_init_33 : decode cX3_init 33 = .ok (.putfield 21, 3) := by decide +kernel
theorem dX3_init_36 : decode cX3_init 36 = .ok (.aload_n 0, 1) := by decide +kernel
theorem dX3_init_37 : decode cX3_init 37 = .ok (.iconst 4, 1) := by decide +kernel
theorem dX3_init_38 : decode cX3_init 38 = .ok (.newarray .int, 2) := by decide +kernel
theorem dX3_init_40 : decode cX3_init 40 = .ok (.putfield 24, 3) := by decide +kernel
theorem dX3_init_43 : decode cX3_init 43 = .ok (.return_, 1) := by decide +kernel
theorem dX3_canTell_0 : decode cX3_canTell 0 = .ok (.iload_n 0, 1) := by decide +kernel
theorem dX3_canTell_1 : decode cX3_canTell 1 = .ok (.ifCond .eq 19, 3) := by decide +kernel
theorem dX3_canTell_4 : decode cX3_canTell 4 = .ok (.iload_n 0, 1) := by decide +kernel
theorem dX3_canTell_5 : decode cX3_canTell 5 = .ok (.iconst 1, 1) := by decide +kernel
theorem dX3_canTell_6 : decode cX3_canTell 6 = .ok (.if_icmp .eq 14, 3) := by decide +kernel
theorem dX3_canTell_9 : decode cX3_canTell 9 = .ok (.iload_n 0, 1) := by decide +kernel
theorem dX3_canTell_10 : decode cX3_canTell 10 = .ok (.bipush 10, 2) := by decide +kernel
theorem dX3_canTell_12 : decode cX3_canTell 12 = .ok (.bipush 13, 2) := by decide +kernel
theorem dX3_canTell_14 : decode cX3_canTell 14 = .ok (.invokestatic 27, 3) := by decide +kernel
theorem dX3_canTell_17 : decode cX3_canTell 17 = .ok (.ifCond .eq 7, 3) := by decide +kernel
theorem dX3_canTell_20 : decode cX3_canTell 20 = .ok (.iconst 1, 1) := by decide +kernel
theorem dX3_canTell_21 : decode cX3_canTell 21 = .ok (.goto 4, 3) := by decide +kernel
theorem dX3_canTell_24 : decode cX3_canTell 24 = .ok (.iconst 0, 1) := by decide +kernel
theorem dX3_canTell_25 : decode cX3_canTell 25 = .ok (.ireturn, 1) := by decide +kernel
theorem dX3_tell_0 : decode cX3_tell 0 = .ok (.iload_n 1, 1) := by decide +kernel
theorem dX3_tell_1 : decode cX3_tell 1 = .ok (.ifCond .ne 8, 3) := by decide +kernel
theorem dX3_tell_4 : decode cX3_tell 4 = .ok (.aload_n 0, 1) := by decide +kernel
theorem dX3_tell_5 : decode cX3_tell 5 = .ok (.getfield 31, 3) := by decide +kernel
theorem dX3_tell_8 : decode cX3_tell 8 = .ok (.ireturn, 1) := by decide +kernel
theorem dX3_tell_9 : decode cX3_tell 9 = .ok (.iload_n 1, 1) := by decide +kernel
theorem dX3_tell_10 : decode cX3_tell 10 = .ok (.iconst 1, 1) := by decide +kernel
theorem dX3_tell_11 : decode cX3_tell 11 = .ok (.if_icmp .ne 8, 3) := by decide +kernel
theorem dX3_tell_14 : decode cX3_tell 14 = .ok (.aload_n 0, 1) := by decide +kernel
theorem dX3_tell_15 : decode cX3_tell 15 = .ok (.invokevirtual 35, 3) := by decide +kernel
theorem dX3_tell_18 : decode cX3_tell 18 = .ok (.ireturn, 1) := by decide +kernel
theorem dX3_tell_19 : decode cX3_tell 19 = .ok (.iload_n 1, 1) := by decide +kernel
theorem dX3_tell_20 : decode cX3_tell 20 = .ok (.bipush 10, 2) := by decide +kernel
theorem dX3_tell_22 : decode cX3_tell 22 = .ok (.isub, 1) := by decide +kernel
theorem dX3_tell_23 : decode cX3_tell 23 = .ok (.istore_n 2, 1) := by decide +kernel
theorem dX3_tell_24 : decode cX3_tell 24 = .ok (.iload_n 2, 1) := by decide +kernel
theorem dX3_tell_25 : decode cX3_tell 25 = .ok (.ifCond .lt 21, 3) := by decide +kernel
theorem dX3_tell_28 : decode cX3_tell 28 = .ok (.iload_n 2, 1) := by decide +kernel
theorem dX3_tell_29 : decode cX3_tell 29 = .ok (.aload_n 0, 1) := by decide +kernel
theorem dX3_tell_30 : decode cX3_tell 30 = .ok (.getfield 24, 3) := by decide +kernel
theorem dX3_tell_33 : decode cX3_tell 33 = .ok (.arraylength, 1) := by decide +kernel
theorem dX3_tell_34 : decode cX3_tell 34 = .ok (.if_icmp .ge 12, 3) := by decide +kernel
theorem dX3_tell_37 : decode cX3_tell 37 = .ok (.aload_n 0, 1) := by decide +kernel
theorem dX3_tell_38 : decode cX3_tell 38 = .ok (.getfield 24, 3) := by decide +kernel
theorem dX3_tell_41 : decode cX3_tell 41 = .ok (.iload_n 2, 1) := by decide +kernel
theorem dX3_tell_42 : decode cX3_tell 42 = .ok (.iaload, 1) := by decide +kernel
theorem dX3_tell_43 : decode cX3_tell 43 = .ok (.goto 5, 3) := by decide +kernel
theorem dX3_tell_46 : decode cX3_tell 46 = .ok (.bipush (-102), 2) := by decide +kernel
theorem dX3_tell_48 : decode cX3_tell 48 = .ok (.ireturn, 1) := by decide +kernel
theorem dX3_toldCouples_0 : decode cX3_toldCouples 0 = .ok (.iconst 0, 1) := by decide +kernel
theorem dX3_toldCouples_1 : decode cX3_toldCouples 1 = .ok (.istore_n 1, 1) := by decide +kernel
theorem dX3_toldCouples_2 : decode cX3_toldCouples 2 = .ok (.iconst 0, 1) := by decide +kernel
theorem dX3_toldCouples_3 : decode cX3_toldCouples 3 = .ok (.istore_n 2, 1) := by decide +kernel
theorem dX3_toldCouples_4 : decode cX3_toldCouples 4 = .ok (.iload_n 2, 1) := by decide +kernel
theorem dX3_toldCouples_5 : decode cX3_toldCouples 5 = .ok (.aload_n 0, 1) := by decide +kernel
theorem dX3_toldCouples_6 : decode cX3_toldCouples 6 = .ok (.getfield 24, 3) := by decide +kernel
theorem dX3_toldCouples_9 : decode cX3_toldCouples 9 = .ok (.arraylength, 1) := by decide +kernel
theorem dX3_toldCouples_10 : decode cX3_toldCouples 10 = .ok (.if_icmp .ge 27, 3) := by decide +kernel
theorem dX3_toldCouples_13 : decode cX3_toldCouples 13 = .ok (.iload_n 1, 1) := by decide +kernel
theorem dX3_toldCouples_14 : decode cX3_toldCouples 14 = .ok (.aload_n 0, 1) := by decide +kernel
theorem dX3_toldCouples_15 : decode cX3_toldCouples 15 = .ok (.getfield 24, 3) := by decide +kernel
theorem dX3_toldCouples_18 : decode cX3_toldCouples 18 = .ok (.iload_n 2, 1) := by decide +kernel
theorem dX3_toldCouples_19 : decode cX3_toldCouples 19 = .ok (.iaload, 1) := by decide +kernel
theorem dX3_toldCouples_20 : decode cX3_toldCouples 20 = .ok (.iconst (-1), 1) := by decide +kernel
theorem dX3_toldCouples_21 : decode cX3_toldCouples 21 = .ok (.if_icmp .eq 7, 3) := by decide +kernel
theorem dX3_toldCouples_24 : decode cX3_toldCouples 24 = .ok (.iconst 1, 1) := by decide +kernel
theorem dX3_toldCouples_25 : decode cX3_toldCouples 25 = .ok (.goto 4, 3) := by decide +kernel
theorem dX3_toldCouples_28 : decode cX3_toldCouples 28 = .ok (.iconst 0, 1) := by decide +kernel
theorem dX3_toldCouples_29 : decode cX3_toldCouples 29 = .ok (.iadd, 1) := by decide +kernel
theorem dX3_toldCouples_30 : decode cX3_toldCouples 30 = .ok (.istore_n 1, 1) := by decide +kernel
theorem dX3_toldCouples_31 : decode cX3_toldCouples 31 = .ok (.iinc 2 1, 3) := by decide +kernel
theorem dX3_toldCouples_34 : decode cX3_toldCouples 34 = .ok (.goto (-30), 3) := by decide +kernel
theorem dX3_toldCouples_37 : decode cX3_toldCouples 37 = .ok (.iload_n 1, 1) := by decide +kernel
theorem dX3_toldCouples_38 : decode cX3_toldCouples 38 = .ok (.ireturn, 1) := by decide +kernel
theorem dX3_workOut_0 : decode cX3_workOut 0 = .ok (.aload_n 0, 1) := by decide +kernel
theorem dX3_workOut_1 : decode cX3_workOut 1 = .ok (.iconst 0, 1) := by decide +kernel
theorem dX3_workOut_2 : decode cX3_workOut 2 = .ok (.putfield 31, 3) := by decide +kernel
theorem dX3_workOut_5 : decode cX3_workOut 5 = .ok (.iconst 0, 1) := by decide +kernel
theorem dX3_workOut_6 : decode cX3_workOut 6 = .ok (.istore_n 2, 1) := by decide +kernel
theorem dX3_workOut_7 : decode cX3_workOut 7 = .ok (.iload_n 2, 1) := by decide +kernel
theorem dX3_workOut_8 : decode cX3_workOut 8 = .ok (.aload_n 0, 1) := by decide +kernel
theorem dX3_workOut_9 : decode cX3_workOut 9 = .ok (.getfield 24, 3) := by decide +kernel
theorem dX3_workOut_12 : decode cX3_workOut 12 = .ok (.arraylength, 1) := by decide +kernel
theorem dX3_workOut_13 : decode cX3_workOut 13 = .ok (.if_icmp .ge 16, 3) := by decide +kernel
theorem dX3_workOut_16 : decode cX3_workOut 16 = .ok (.aload_n 0, 1) := by decide +kernel
theorem dX3_workOut_17 : decode cX3_workOut 17 = .ok (.getfield 24, 3) := by decide +kernel
theorem dX3_workOut_20 : decode cX3_workOut 20 = .ok (.iload_n 2, 1) := by decide +kernel
theorem dX3_workOut_21 : decode cX3_workOut 21 = .ok (.iconst (-1), 1) := by decide +kernel
theorem dX3_workOut_22 : decode cX3_workOut 22 = .ok (.iastore, 1) := by decide +kernel
theorem dX3_workOut_23 : decode cX3_workOut 23 = .ok (.iinc 2 1, 3) := by decide +kernel
theorem dX3_workOut_26 : decode cX3_workOut 26 = .ok (.goto (-19), 3) := by decide +kernel
theorem dX3_workOut_29 : decode cX3_workOut 29 = .ok (.aload_n 1, 1) := by decide +kernel
theorem dX3_workOut_30 : decode cX3_workOut 30 = .ok (.aload_n 0, 1) := by decide +kernel
theorem dX3_workOut_31 : decode cX3_workOut 31 = .ok (.getfield 9, 3) := by decide +kernel
theorem dX3_workOut_34 : decode cX3_workOut 34 = .ok (.iconst 1, 1) := by decide +kernel
theorem dX3_workOut_35 : decode cX3_workOut 35 = .ok (.invokevirtual 39, 3) := by decide +kernel
theorem dX3_workOut_38 : decode cX3_workOut 38 = .ok (.iconst 0, 1) := by decide +kernel
theorem dX3_workOut_39 : decode cX3_workOut 39 = .ok (.istore_n 2, 1) := by decide +kernel
theorem dX3_workOut_40 : decode cX3_workOut 40 = .ok (.iload_n 2, 1) := by decide +kernel
theorem dX3_workOut_41 : decode cX3_workOut 41 = .ok (.aload_n 1, 1) := by decide +kernel
theorem dX3_workOut_42 : decode cX3_workOut 42 = .ok (.getfield 45, 3) := by decide +kernel
theorem dX3_workOut_45 : decode cX3_workOut 45 = .ok (.if_icmp .ge 44, 3) := by decide +kernel
theorem dX3_workOut_48 : decode cX3_workOut 48 = .ok (.aload_n 0, 1) := by decide +kernel
theorem dX3_workOut_49 : decode cX3_workOut 49 = .ok (.getfield 15, 3) := by decide +kernel
theorem dX3_workOut_52 : decode cX3_workOut 52 = .ok (.aload_n 0, 1) := by decide +kernel
theorem dX3_workOut_53 : decode cX3_workOut 53 = .ok (.getfield 9, 3) := by decide +kernel
theorem dX3_workOut_56 : decode cX3_workOut 56 = .ok (.iload_n 2, 1) := by decide +kernel
theorem dX3_workOut_57 : decode cX3_workOut 57 = .ok (.iaload, 1) := by decide +kernel
theorem dX3_workOut_58 : decode cX3_workOut 58 = .ok (.iload_n 2, 1) := by decide +kernel
theorem dX3_workOut_59 : decode cX3_workOut 59 = .ok (.iastore, 1) := by decide +kernel
theorem dX3_workOut_60 : decode cX3_workOut 60 = .ok (.aload_n 0, 1) := by decide +kernel
theorem dX3_workOut_61 : decode cX3_workOut 61 = .ok (.getfield 18, 3) := by decide +kernel
theorem dX3_workOut_64 : decode cX3_workOut 64 = .ok (.iload_n 2, 1) := by decide +kernel
theorem dX3_workOut_65 : decode cX3_workOut 65 = .ok (.aload_n 1, 1) := by decide +kernel
theorem dX3_workOut_66 : decode cX3_workOut 66 = .ok (.aload_n 1, 1) := by decide +kernel
theorem dX3_workOut_67 : decode cX3_workOut 67 = .ok (.getfield 48, 3) := by decide +kernel
theorem dX3_workOut_70 : decode cX3_workOut 70 = .ok (.iload_n 2, 1) := by decide +kernel
theorem dX3_workOut_71 : decode cX3_workOut 71 = .ok (.aaload, 1) := by decide +kernel
theorem dX3_workOut_72 : decode cX3_workOut 72 = .ok (.invokevirtual 52, 3) := by decide +kernel
theorem dX3_workOut_75 : decode cX3_workOut 75 = .ok (.iastore, 1) := by decide +kernel
theorem dX3_workOut_76 : decode cX3_workOut 76 = .ok (.aload_n 0, 1) := by decide +kernel
theorem dX3_workOut_77 : decode cX3_workOut 77 = .ok (.getfield 21, 3) := by decide +kernel
theorem dX3_workOut_80 : decode cX3_workOut 80 = .ok (.iload_n 2, 1) := by decide +kernel
theorem dX3_workOut_81 : decode cX3_workOut 81 = .ok (.iconst (-1), 1) := by decide +kernel
theorem dX3_workOut_82 : decode cX3_workOut 82 = .ok (.iastore, 1) := by decide +kernel
theorem dX3_workOut_83 : decode cX3_workOut 83 = .ok (.iinc 2 1, 3) := by decide +kernel
theorem dX3_workOut_86 : decode cX3_workOut 86 = .ok (.goto (-46), 3) := by decide +kernel
theorem dX3_workOut_89 : decode cX3_workOut 89 = .ok (.aload_n 0, 1) := by decide +kernel
theorem dX3_workOut_90 : decode cX3_workOut 90 = .ok (.iconst 0, 1) := by decide +kernel
theorem dX3_workOut_91 : decode cX3_workOut 91 = .ok (.aload_n 1, 1) := by decide +kernel
theorem dX3_workOut_92 : decode cX3_workOut 92 = .ok (.getfield 56, 3) := by decide +kernel
theorem dX3_workOut_95 : decode cX3_workOut 95 = .ok (.aload_n 1, 1) := by decide +kernel
theorem dX3_workOut_96 : decode cX3_workOut 96 = .ok (.getfield 45, 3) := by decide +kernel
theorem dX3_workOut_99 : decode cX3_workOut 99 = .ok (.invokevirtual 59, 3) := by decide +kernel
theorem dX3_workOut_102 : decode cX3_workOut 102 = .ok (.return_, 1) := by decide +kernel
theorem dX3_tryFrom_0 : decode cX3_tryFrom 0 = .ok (.iload_n 1, 1) := by decide +kernel
theorem dX3_tryFrom_1 : decode cX3_tryFrom 1 = .ok (.iload_n 2, 1) := by decide +kernel
theorem dX3_tryFrom_2 : decode cX3_tryFrom 2 = .ok (.if_icmp .ge 8, 3) := by decide +kernel
theorem dX3_tryFrom_5 : decode cX3_tryFrom 5 = .ok (.iload_n 1, 1) := by decide +kernel
theorem dX3_tryFrom_6 : decode cX3_tryFrom 6 = .ok (.iconst 4, 1) := by decide +kernel
theorem dX3_tryFrom_7 : decode cX3_tryFrom 7 = .ok (.if_icmp .lt 18, 3) := by decide +kernel
theorem dX3_tryFrom_10 : decode cX3_tryFrom 10 = .ok (.aload_n 0, 1) := by decide +kernel
theorem dX3_tryFrom_11 : decode cX3_tryFrom 11 = .ok (.iload_n 2, 1) := by decide +kernel
theorem dX3_tryFrom_12 : decode cX3_tryFrom 12 = .ok (.iload_n 3, 1) := by decide +kernel
theorem dX3_tryFrom_13 : decode cX3_tryFrom 13 = .ok (.invokevirtual 63, 3) := by decide +kernel
theorem dX3_tryFrom_16 : decode cX3_tryFrom 16 = .ok (.ifCond .eq 8, 3) := by decide +kernel
theorem dX3_tryFrom_19 : decode cX3_tryFrom 19 = .ok (.aload_n 0, 1) := by decide +kernel
theorem dX3_tryFrom_20 : decode cX3_tryFrom 20 = .ok (.iload_n 2, 1) := by decide +kernel
theorem dX3_tryFrom_21 : decode cX3_tryFrom 21 = .ok (.invokevirtual 67, 3) := by decide +kernel
theorem dX3_tryFrom_24 : decode cX3_tryFrom 24 = .ok (.return_, 1) := by decide +kernel
theorem dX3_tryFrom_25 : decode cX3_tryFrom 25 = .ok (.iconst 0, 1) := by decide +kernel
theorem dX3_tryFrom_26 : decode cX3_tryFrom 26 = .ok (.istore 4, 2) := by decide +kernel
theorem dX3_tryFrom_28 : decode cX3_tryFrom 28 = .ok (.iload 4, 2) := by decide +kernel
theorem dX3_tryFrom_30 : decode cX3_tryFrom 30 = .ok (.iload_n 3, 1) := by decide +kernel
theorem dX3_tryFrom_31 : decode cX3_tryFrom 31 = .ok (.if_icmp .ge 79, 3) := by decide +kernel
theorem dX3_tryFrom_34 : decode cX3_tryFrom 34 = .ok (.aload_n 0, 1) := by decide +kernel
theorem dX3_tryFrom_35 : decode cX3_tryFrom 35 = .ok (.getfield 9, 3) := by decide +kernel
theorem dX3_tryFrom_38 : decode cX3_tryFrom 38 = .ok (.iload 4, 2) := by decide +kernel
theorem dX3_tryFrom_40 : decode cX3_tryFrom 40 = .ok (.iaload, 1) := by decide +kernel
theorem dX3_tryFrom_41 : decode cX3_tryFrom 41 = .ok (.istore 5, 2) := by decide +kernel
theorem dX3_tryFrom_43 : decode cX3_tryFrom 43 = .ok (.aload_n 0, 1) := by decide +kernel
theorem dX3_tryFrom_44 : decode cX3_tryFrom 44 = .ok (.iload_n 1, 1) := by decide +kernel
theorem dX3_tryFrom_45 : decode cX3_tryFrom 45 = .ok (.iload 5, 2) := by decide +kernel
theorem dX3_tryFrom_47 : decode cX3_tryFrom 47 = .ok (.invokevirtual 71, 3) := by decide +kernel
theorem dX3_tryFrom_50 : decode cX3_tryFrom 50 = .ok (.ifCond .eq 54, 3) := by decide +kernel
theorem dX3_tryFrom_53 : decode cX3_tryFrom 53 = .ok (.aload_n 0, 1) := by decide +kernel
theorem dX3_tryFrom_54 : decode cX3_tryFrom 54 = .ok (.getfield 21, 3) := by decide +kernel
theorem dX3_tryFrom_57 : decode cX3_tryFrom 57 = .ok (.iload 5, 2) := by decide +kernel
theorem dX3_tryFrom_59 : decode cX3_tryFrom 59 = .ok (.iaload, 1) := by decide +kernel
theorem dX3_tryFrom_60 : decode cX3_tryFrom 60 = .ok (.iconst (-1), 1) := by decide +kernel
theorem dX3_tryFrom_61 : decode cX3_tryFrom 61 = .ok (.if_icmp .ne 43, 3) := by decide +kernel
theorem dX3_tryFrom_64 : decode cX3_tryFrom 64 = .ok (.aload_n 0, 1) := by decide +kernel
theorem dX3_tryFrom_65 : decode cX3_tryFrom 65 = .ok (.getfield 21, 3) := by decide +kernel
theorem dX3_tryFrom_68 : decode cX3_tryFrom 68 = .ok (.iload_n 1, 1) := by decide +kernel
theorem dX3_tryFrom_69 : decode cX3_tryFrom 69 = .ok (.iload 5, 2) := by decide +kernel
theorem dX3_tryFrom_71 : decode cX3_tryFrom 71 = .ok (.iastore, 1) := by decide +kernel
theorem dX3_tryFrom_72 : decode cX3_tryFrom 72 = .ok (.aload_n 0, 1) := by decide +kernel
theorem dX3_tryFrom_73 : decode cX3_tryFrom 73 = .ok (.getfield 21, 3) := by decide +kernel
theorem dX3_tryFrom_76 : decode cX3_tryFrom 76 = .ok (.iload 5, 2) := by decide +kernel
theorem dX3_tryFrom_78 : decode cX3_tryFrom 78 = .ok (.iload_n 1, 1) := by decide +kernel
theorem dX3_tryFrom_79 : decode cX3_tryFrom 79 = .ok (.iastore, 1) := by decide +kernel
theorem dX3_tryFrom_80 : decode cX3_tryFrom 80 = .ok (.aload_n 0, 1) := by decide +kernel
theorem dX3_tryFrom_81 : decode cX3_tryFrom 81 = .ok (.iload_n 1, 1) := by decide +kernel
theorem dX3_tryFrom_82 : decode cX3_tryFrom 82 = .ok (.iconst 1, 1) := by decide +kernel
theorem dX3_tryFrom_83 : decode cX3_tryFrom 83 = .ok (.iadd, 1) := by decide +kernel
theorem dX3_tryFrom_84 : decode cX3_tryFrom 84 = .ok (.iload_n 2, 1) := by decide +kernel
theorem dX3_tryFrom_85 : decode cX3_tryFrom 85 = .ok (.iload_n 3, 1) := by decide +kernel
theorem dX3_tryFrom_86 : decode cX3_tryFrom 86 = .ok (.invokevirtual 59, 3) := by decide +kernel
theorem dX3_tryFrom_89 : decode cX3_tryFrom 89 = .ok (.aload_n 0, 1) := by decide +kernel
theorem dX3_tryFrom_90 : decode cX3_tryFrom 90 = .ok (.getfield 21, 3) := by decide +kernel
theorem dX3_tryFrom_93 : decode cX3_tryFrom 93 = .ok (.iload_n 1, 1) := by decide +kernel
theorem dX3_tryFrom_94 : decode cX3_tryFrom 94 = .ok (.iconst (-1), 1) := by decide +kernel
theorem dX3_tryFrom_95 : decode cX3_tryFrom 95 = .ok (.iastore, 1) := by decide +kernel
theorem dX3_tryFrom_96 : decode cX3_tryFrom 96 = .ok (.aload_n 0, 1) := by decide +kernel
theorem dX3_tryFrom_97 : decode cX3_tryFrom 97 = .ok (.getfield 21, 3) := by decide +kernel
theorem dX3_tryFrom_100 : decode cX3_tryFrom 100 = .ok (.iload 5, 2) := by decide +kernel
theorem dX3_tryFrom_102 : decode cX3_tryFrom 102 = .ok (.iconst (-1), 1) := by decide +kernel
theorem dX3_tryFrom_103 : decode cX3_tryFrom 103 = .ok (.iastore, 1) := by decide +kernel
theorem dX3_tryFrom_104 : decode cX3_tryFrom 104 = .ok (.iinc 4 1, 3) := by decide +kernel
theorem dX3_tryFrom_107 : decode cX3_tryFrom 107 = .ok (.goto (-79), 3) := by decide +kernel
theorem dX3_tryFrom_110 : decode cX3_tryFrom 110 = .ok (.aload_n 0, 1) := by decide +kernel
theorem dX3_tryFrom_111 : decode cX3_tryFrom 111 = .ok (.iload_n 1, 1) := by decide +kernel
theorem dX3_tryFrom_112 : decode cX3_tryFrom 112 = .ok (.iconst 1, 1) := by decide +kernel
theorem dX3_tryFrom_113 : decode cX3_tryFrom 113 = .ok (.iadd, 1) := by decide +kernel
theorem dX3_tryFrom_114 : decode cX3_tryFrom 114 = .ok (.iload_n 2, 1) := by decide +kernel
theorem dX3_tryFrom_115 : decode cX3_tryFrom 115 = .ok (.iload_n 3, 1) := by decide +kernel
theorem dX3_tryFrom_116 : decode cX3_tryFrom 116 = .ok (.invokevirtual 59, 3) := by decide +kernel
theorem dX3_tryFrom_119 : decode cX3_tryFrom 119 = .ok (.return_, 1) := by decide +kernel
theorem dX3_lasts_0 : decode cX3_lasts 0 = .ok (.iconst 0, 1) := by decide +kernel
theorem dX3_lasts_1 : decode cX3_lasts 1 = .ok (.istore_n 3, 1) := by decide +kernel
theorem dX3_lasts_2 : decode cX3_lasts 2 = .ok (.iload_n 3, 1) := by decide +kernel
theorem dX3_lasts_3 : decode cX3_lasts 3 = .ok (.iload_n 1, 1) := by decide +kernel
theorem dX3_lasts_4 : decode cX3_lasts 4 = .ok (.if_icmp .ge 56, 3) := by decide +kernel
theorem dX3_lasts_7 : decode cX3_lasts 7 = .ok (.iload_n 1, 1) := by decide +kernel
theorem dX3_lasts_8 : decode cX3_lasts 8 = .ok (.istore 4, 2) := by decide +kernel
theorem dX3_lasts_10 : decode cX3_lasts 10 = .ok (.iload 4, 2) := by decide +kernel
theorem dX3_lasts_12 : decode cX3_lasts 12 = .ok (.iload_n 2, 1) := by decide +kernel
theorem dX3_lasts_13 : decode cX3_lasts 13 = .ok (.if_icmp .ge 41, 3) := by decide +kernel
theorem dX3_lasts_16 : decode cX3_lasts 16 = .ok (.aload_n 0, 1) := by decide +kernel
theorem dX3_lasts_17 : decode cX3_lasts 17 = .ok (.iload_n 3, 1) := by decide +kernel
theorem dX3_lasts_18 : decode cX3_lasts 18 = .ok (.iload 4, 2) := by decide +kernel
theorem dX3_lasts_20 : decode cX3_lasts 20 = .ok (.invokevirtual 71, 3) := by decide +kernel
theorem dX3_lasts_23 : decode cX3_lasts 23 = .ok (.ifCond .eq 25, 3) := by decide +kernel
theorem dX3_lasts_26 : decode cX3_lasts 26 = .ok (.aload_n 0, 1) := by decide +kernel
theorem dX3_lasts_27 : decode cX3_lasts 27 = .ok (.iload_n 3, 1) := by decide +kernel
theorem dX3_lasts_28 : decode cX3_lasts 28 = .ok (.iload 4, 2) := by decide +kernel
theorem dX3_lasts_30 : decode cX3_lasts 30 = .ok (.invokevirtual 74, 3) := by decide +kernel
theorem dX3_lasts_33 : decode cX3_lasts 33 = .ok (.ifCond .eq 15, 3) := by decide +kernel
theorem dX3_lasts_36 : decode cX3_lasts 36 = .ok (.aload_n 0, 1) := by decide +kernel
theorem dX3_lasts_37 : decode cX3_lasts 37 = .ok (.iload 4, 2) := by decide +kernel
theorem dX3_lasts_39 : decode cX3_lasts 39 = .ok (.iload_n 3, 1) := by decide +kernel
theorem dX3_lasts_40 : decode cX3_lasts 40 = .ok (.invokevirtual 74, 3) := by decide +kernel
theorem dX3_lasts_43 : decode cX3_lasts 43 = .ok (.ifCond .eq 5, 3) := by decide +kernel
theorem dX3_lasts_46 : decode cX3_lasts 46 = .ok (.iconst 0, 1) := by decide +kernel
theorem dX3_lasts_47 : decode cX3_lasts 47 = .ok (.ireturn, 1) := by decide +kernel
theorem dX3_lasts_48 : decode cX3_lasts 48 = .ok (.iinc 4 1, 3) := by decide +kernel
theorem dX3_lasts_51 : decode cX3_lasts 51 = .ok (.goto (-41), 3) := by decide +kernel
theorem dX3_lasts_54 : decode cX3_lasts 54 = .ok (.iinc 3 1, 3) := by decide +kernel
theorem dX3_lasts_57 : decode cX3_lasts 57 = .ok (.goto (-55), 3) := by decide +kernel
theorem dX3_lasts_60 : decode cX3_lasts 60 = .ok (.iconst 1, 1) := by decide +kernel
theorem dX3_lasts_61 : decode cX3_lasts 61 = .ok (.ireturn, 1) := by decide +kernel
theorem dX3_keepRow_0 : decode cX3_keepRow 0 = .ok (.iconst 0, 1) := by decide +kernel
theorem dX3_keepRow_1 : decode cX3_keepRow 1 = .ok (.istore_n 2, 1) := by decide +kernel
theorem dX3_keepRow_2 : decode cX3_keepRow 2 = .ok (.iload_n 2, 1) := by decide +kernel
theorem dX3_keepRow_3 : decode cX3_keepRow 3 = .ok (.iload_n 1, 1) := by decide +kernel
theorem dX3_keepRow_4 : decode cX3_keepRow 4 = .ok (.if_icmp .ge 37, 3) := by decide +kernel
theorem dX3_keepRow_7 : decode cX3_keepRow 7 = .ok (.iload_n 2, 1) := by decide +kernel
theorem dX3_keepRow_8 : decode cX3_keepRow 8 = .ok (.aload_n 0, 1) := by decide +kernel
theorem dX3_keepRow_9 : decode cX3_keepRow 9 = .ok (.getfield 24, 3) := by decide +kernel
theorem dX3_keepRow_12 : decode cX3_keepRow 12 = .ok (.arraylength, 1) := by decide +kernel
theorem dX3_keepRow_13 : decode cX3_keepRow 13 = .ok (.if_icmp .ge 28, 3) := by decide +kernel
theorem dX3_keepRow_16 : decode cX3_keepRow 16 = .ok (.aload_n 0, 1) := by decide +kernel
theorem dX3_keepRow_17 : decode cX3_keepRow 17 = .ok (.getfield 31, 3) := by decide +kernel
theorem dX3_keepRow_20 : decode cX3_keepRow 20 = .ok (.ifCond .ne 21, 3) := by decide +kernel
theorem dX3_keepRow_23 : decode cX3_keepRow 23 = .ok (.aload_n 0, 1) := by decide +kernel
theorem dX3_keepRow_24 : decode cX3_keepRow 24 = .ok (.getfield 24, 3) := by decide +kernel
theorem dX3_keepRow_27 : decode cX3_keepRow 27 = .ok (.iload_n 2, 1) := by decide +kernel
theorem dX3_keepRow_28 : decode cX3_keepRow 28 = .ok (.aload_n 0, 1) := by decide +kernel
theorem dX3_keepRow_29 : decode cX3_keepRow 29 = .ok (.getfield 21, 3) := by decide +kernel
theorem dX3_keepRow_32 : decode cX3_keepRow 32 = .ok (.iload_n 2, 1) := by decide +kernel
theorem dX3_keepRow_33 : decode cX3_keepRow 33 = .ok (.iaload, 1) := by decide +kernel
theorem dX3_keepRow_34 : decode cX3_keepRow 34 = .ok (.iastore, 1) := by decide +kernel
theorem dX3_keepRow_35 : decode cX3_keepRow 35 = .ok (.iinc 2 1, 3) := by decide +kernel
theorem dX3_keepRow_38 : decode cX3_keepRow 38 = .ok (.goto (-36), 3) := by decide +kernel
theorem dX3_keepRow_41 : decode cX3_keepRow 41 = .ok (.aload_n 0, 1) := by decide +kernel
theorem dX3_keepRow_42 : decode cX3_keepRow 42 = .ok (.dup, 1) := by decide +kernel
theorem dX3_keepRow_43 : decode cX3_keepRow 43 = .ok (.getfield 31, 3) := by decide +kernel
theorem dX3_keepRow_46 : decode cX3_keepRow 46 = .ok (.iconst 1, 1) := by decide +kernel
theorem dX3_keepRow_47 : decode cX3_keepRow 47 = .ok (.iadd, 1) := by decide +kernel
theorem dX3_keepRow_48 : decode cX3_keepRow 48 = .ok (.putfield 31, 3) := by decide +kernel
theorem dX3_keepRow_51 : decode cX3_keepRow 51 = .ok (.return_, 1) := by decide +kernel
theorem dX3_isMutual_0 : decode cX3_isMutual 0 = .ok (.aload_n 0, 1) := by decide +kernel
theorem dX3_isMutual_1 : decode cX3_isMutual 1 = .ok (.getfield 18, 3) := by decide +kernel
theorem dX3_isMutual_4 : decode cX3_isMutual 4 = .ok (.iload_n 1, 1) := by decide +kernel
theorem dX3_isMutual_5 : decode cX3_isMutual 5 = .ok (.iaload, 1) := by decide +kernel
theorem dX3_isMutual_6 : decode cX3_isMutual 6 = .ok (.iconst 1, 1) := by decide +kernel
end
section
theorem dX3_isMutual_7 : decode cX3_isMutual 7 = .ok (.iload_n 2, 1) := by decide +kernel
theorem dX3_isMutual_8 : decode cX3_isMutual 8 = .ok (.ishl, 1) := by decide +kernel
theorem dX3_isMutual_9 : decode cX3_isMutual 9 = .ok (.iand, 1) := by decide +kernel
theorem dX3_isMutual_10 : decode cX3_isMutual 10 = .ok (.ifCond .eq 7, 3) := by decide +kernel
theorem dX3_isMutual_13 : decode cX3_isMutual 13 = .ok (.iconst 1, 1) := by decide +kernel
theorem dX3_isMutual_14 : decode cX3_isMutual 14 = .ok (.goto 4, 3) := by decide +kernel
theorem dX3_isMutual_17 : decode cX3_isMutual 17 = .ok (.iconst 0, 1) := by decide +kernel
theorem dX3_isMutual_18 : decode cX3_isMutual 18 = .ok (.ireturn, 1) := by decide +kernel
theorem dX3_wants_0 : decode cX3_wants 0 = .ok (.aload_n 0, 1) := by decide +kernel
theorem dX3_wants_1 : decode cX3_wants 1 = .ok (.getfield 21, 3) := by decide +kernel
theorem dX3_wants_4 : decode cX3_wants 4 = .ok (.iload_n 1, 1) := by decide +kernel
theorem dX3_wants_5 : decode cX3_wants 5 = .ok (.iaload, 1) := by decide +kernel
theorem dX3_wants_6 : decode cX3_wants 6 = .ok (.iconst (-1), 1) := by decide +kernel
theorem dX3_wants_7 : decode cX3_wants 7 = .ok (.if_icmp .eq 23, 3) := by decide +kernel
theorem dX3_wants_10 : decode cX3_wants 10 = .ok (.aload_n 0, 1) := by decide +kernel
theorem dX3_wants_11 : decode cX3_wants 11 = .ok (.getfield 15, 3) := by decide +kernel
theorem dX3_wants_14 : decode cX3_wants 14 = .ok (.iload_n 2, 1) := by decide +kernel
theorem dX3_wants_15 : decode cX3_wants 15 = .ok (.iaload, 1) := by decide +kernel
theorem dX3_wants_16 : decode cX3_wants 16 = .ok (.aload_n 0, 1) := by decide +kernel
theorem dX3_wants_17 : decode cX3_wants 17 = .ok (.getfield 15, 3) := by decide +kernel
theorem dX3_wants_20 : decode cX3_wants 20 = .ok (.aload_n 0, 1) := by decide +kernel
theorem dX3_wants_21 : decode cX3_wants 21 = .ok (.getfield 21, 3) := by decide +kernel
theorem dX3_wants_24 : decode cX3_wants 24 = .ok (.iload_n 1, 1) := by decide +kernel
theorem dX3_wants_25 : decode cX3_wants 25 = .ok (.iaload, 1) := by decide +kernel
theorem dX3_wants_26 : decode cX3_wants 26 = .ok (.iaload, 1) := by decide +kernel
theorem dX3_wants_27 : decode cX3_wants 27 = .ok (.if_icmp .ge 7, 3) := by decide +kernel
theorem dX3_wants_30 : decode cX3_wants 30 = .ok (.iconst 1, 1) := by decide +kernel
theorem dX3_wants_31 : decode cX3_wants 31 = .ok (.goto 4, 3) := by decide +kernel
theorem dX3_wants_34 : decode cX3_wants 34 = .ok (.iconst 0, 1) := by decide +kernel
theorem dX3_wants_35 : decode cX3_wants 35 = .ok (.ireturn, 1) := by decide +kernel
theorem dX4_init_0 : decode cX4_init 0 = .ok (.aload_n 0, 1) := by decide +kernel
theorem dX4_init_1 : decode cX4_init 1 = .ok (.invokespecial 3, 3) := by decide +kernel
theorem dX4_init_4 : decode cX4_init 4 = .ok (.aload_n 0, 1) := by decide +kernel
theorem dX4_init_5 : decode cX4_init 5 = .ok (.bipush 41, 2) := by decide +kernel
theorem dX4_init_7 : decode cX4_init 7 = .ok (.newarray .int, 2) := by decide +kernel
theorem dX4_init_9 : decode cX4_init 9 = .ok (.putfield 9, 3) := by decide +kernel
theorem dX4_init_12 : decode cX4_init 12 = .ok (.return_, 1) := by decide +kernel
theorem dX4_add_0 : decode cX4_add 0 = .ok (.aload_n 0, 1) := by decide +kernel
theorem dX4_add_1 : decode cX4_add 1 = .ok (.getfield 15, 3) := by decide +kernel
theorem dX4_add_4 : decode cX4_add 4 = .ok (.aload_n 0, 1) := by decide +kernel
theorem dX4_add_5 : decode cX4_add 5 = .ok (.getfield 9, 3) := by decide +kernel
theorem dX4_add_8 : decode cX4_add 8 = .ok (.arraylength, 1) := by decide +kernel
theorem dX4_add_9 : decode cX4_add 9 = .ok (.if_icmp .lt 5, 3) := by decide +kernel
theorem dX4_add_12 : decode cX4_add 12 = .ok (.iconst 0, 1) := by decide +kernel
theorem dX4_add_13 : decode cX4_add 13 = .ok (.ireturn, 1) := by decide +kernel
theorem dX4_add_14 : decode cX4_add 14 = .ok (.aload_n 0, 1) := by decide +kernel
theorem dX4_add_15 : decode cX4_add 15 = .ok (.getfield 9, 3) := by decide +kernel
theorem dX4_add_18 : decode cX4_add 18 = .ok (.aload_n 0, 1) := by decide +kernel
theorem dX4_add_19 : decode cX4_add 19 = .ok (.getfield 15, 3) := by decide +kernel
theorem dX4_add_22 : decode cX4_add 22 = .ok (.iload_n 1, 1) := by decide +kernel
theorem dX4_add_23 : decode cX4_add 23 = .ok (.iastore, 1) := by decide +kernel
theorem dX4_add_24 : decode cX4_add 24 = .ok (.aload_n 0, 1) := by decide +kernel
theorem dX4_add_25 : decode cX4_add 25 = .ok (.dup, 1) := by decide +kernel
theorem dX4_add_26 : decode cX4_add 26 = .ok (.getfield 15, 3) := by decide +kernel
theorem dX4_add_29 : decode cX4_add 29 = .ok (.iconst 1, 1) := by decide +kernel
theorem dX4_add_30 : decode cX4_add 30 = .ok (.iadd, 1) := by decide +kernel
theorem dX4_add_31 : decode cX4_add 31 = .ok (.putfield 15, 3) := by decide +kernel
theorem dX4_add_34 : decode cX4_add 34 = .ok (.iconst 1, 1) := by decide +kernel
theorem dX4_add_35 : decode cX4_add 35 = .ok (.ireturn, 1) := by decide +kernel
theorem dX4_clear_0 : decode cX4_clear 0 = .ok (.aload_n 0, 1) := by decide +kernel
theorem dX4_clear_1 : decode cX4_clear 1 = .ok (.iconst 0, 1) := by decide +kernel
theorem dX4_clear_2 : decode cX4_clear 2 = .ok (.putfield 15, 3) := by decide +kernel
theorem dX4_clear_5 : decode cX4_clear 5 = .ok (.return_, 1) := by decide +kernel
theorem dX4_letterAt_0 : decode cX4_letterAt 0 = .ok (.iload_n 1, 1) := by decide +kernel
theorem dX4_letterAt_1 : decode cX4_letterAt 1 = .ok (.ifCond .lt 20, 3) := by decide +kernel
theorem dX4_letterAt_4 : decode cX4_letterAt 4 = .ok (.iload_n 1, 1) := by decide +kernel
theorem dX4_letterAt_5 : decode cX4_letterAt 5 = .ok (.aload_n 0, 1) := by decide +kernel
theorem dX4_letterAt_6 : decode cX4_letterAt 6 = .ok (.getfield 15, 3) := by decide +kernel
theorem dX4_letterAt_9 : decode cX4_letterAt 9 = .ok (.if_icmp .ge 12, 3) := by decide +kernel
theorem dX4_letterAt_12 : decode cX4_letterAt 12 = .ok (.aload_n 0, 1) := by decide +kernel
theorem dX4_letterAt_13 : decode cX4_letterAt 13 = .ok (.getfield 9, 3) := by decide +kernel
theorem dX4_letterAt_16 : decode cX4_letterAt 16 = .ok (.iload_n 1, 1) := by decide +kernel
theorem dX4_letterAt_17 : decode cX4_letterAt 17 = .ok (.iaload, 1) := by decide +kernel
theorem dX4_letterAt_18 : decode cX4_letterAt 18 = .ok (.goto 4, 3) := by decide +kernel
theorem dX4_letterAt_21 : decode cX4_letterAt 21 = .ok (.iconst (-1), 1) := by decide +kernel
theorem dX4_letterAt_22 : decode cX4_letterAt 22 = .ok (.ireturn, 1) := by decide +kernel
theorem dX4_digitAt_0 : decode cX4_digitAt 0 = .ok (.aload_n 0, 1) := by decide +kernel
theorem dX4_digitAt_1 : decode cX4_digitAt 1 = .ok (.iload_n 1, 1) := by decide +kernel
theorem dX4_digitAt_2 : decode cX4_digitAt 2 = .ok (.invokevirtual 19, 3) := by decide +kernel
theorem dX4_digitAt_5 : decode cX4_digitAt 5 = .ok (.bipush 48, 2) := by decide +kernel
theorem dX4_digitAt_7 : decode cX4_digitAt 7 = .ok (.isub, 1) := by decide +kernel
theorem dX4_digitAt_8 : decode cX4_digitAt 8 = .ok (.ireturn, 1) := by decide +kernel
theorem dX4_endsSideAt_0 : decode cX4_endsSideAt 0 = .ok (.aload_n 0, 1) := by decide +kernel
theorem dX4_endsSideAt_1 : decode cX4_endsSideAt 1 = .ok (.iload_n 1, 1) := by decide +kernel
theorem dX4_endsSideAt_2 : decode cX4_endsSideAt 2 = .ok (.invokevirtual 19, 3) := by decide +kernel
theorem dX4_endsSideAt_5 : decode cX4_endsSideAt 5 = .ok (.bipush 59, 2) := by decide +kernel
theorem dX4_endsSideAt_7 : decode cX4_endsSideAt 7 = .ok (.if_icmp .ne 7, 3) := by decide +kernel
theorem dX4_endsSideAt_10 : decode cX4_endsSideAt 10 = .ok (.iconst 1, 1) := by decide +kernel
theorem dX4_endsSideAt_11 : decode cX4_endsSideAt 11 = .ok (.goto 4, 3) := by decide +kernel
theorem dX4_endsSideAt_14 : decode cX4_endsSideAt 14 = .ok (.iconst 0, 1) := by decide +kernel
theorem dX4_endsSideAt_15 : decode cX4_endsSideAt 15 = .ok (.ireturn, 1) := by decide +kernel
theorem dX4_firstFault_0 : decode cX4_firstFault 0 = .ok (.iconst 0, 1) := by decide +kernel
theorem dX4_firstFault_1 : decode cX4_firstFault 1 = .ok (.istore_n 1, 1) := by decide +kernel
theorem dX4_firstFault_2 : decode cX4_firstFault 2 = .ok (.iconst 0, 1) := by decide +kernel
theorem dX4_firstFault_3 : decode cX4_firstFault 3 = .ok (.istore_n 2, 1) := by decide +kernel
theorem dX4_firstFault_4 : decode cX4_firstFault 4 = .ok (.iconst 0, 1) := by decide +kernel
theorem dX4_firstFault_5 : decode cX4_firstFault 5 = .ok (.istore_n 3, 1) := by decide +kernel
theorem dX4_firstFault_6 : decode cX4_firstFault 6 = .ok (.iload_n 3, 1) := by decide +kernel
theorem dX4_firstFault_7 : decode cX4_firstFault 7 = .ok (.aload_n 0, 1) := by decide +kernel
theorem dX4_firstFault_8 : decode cX4_firstFault 8 = .ok (.getfield 15, 3) := by decide +kernel
theorem dX4_firstFault_11 : decode cX4_firstFault 11 = .ok (.if_icmp .ge 76, 3) := by decide +kernel
theorem dX4_firstFault_14 : decode cX4_firstFault 14 = .ok (.iload_n 3, 1) := by decide +kernel
theorem dX4_firstFault_15 : decode cX4_firstFault 15 = .ok (.iconst 5, 1) := by decide +kernel
theorem dX4_firstFault_16 : decode cX4_firstFault 16 = .ok (.irem, 1) := by decide +kernel
theorem dX4_firstFault_17 : decode cX4_firstFault 17 = .ok (.istore 4, 2) := by decide +kernel
theorem dX4_firstFault_19 : decode cX4_firstFault 19 = .ok (.iload 4, 2) := by decide +kernel
theorem dX4_firstFault_21 : decode cX4_firstFault 21 = .ok (.iconst 4, 1) := by decide +kernel
theorem dX4_firstFault_22 : decode cX4_firstFault 22 = .ok (.if_icmp .eq 19, 3) := by decide +kernel
theorem dX4_firstFault_25 : decode cX4_firstFault 25 = .ok (.iload 4, 2) := by decide +kernel
theorem dX4_firstFault_27 : decode cX4_firstFault 27 = .ok (.aload_n 0, 1) := by decide +kernel
theorem dX4_firstFault_28 : decode cX4_firstFault 28 = .ok (.getfield 9, 3) := by decide +kernel
theorem dX4_firstFault_31 : decode cX4_firstFault 31 = .ok (.iload_n 3, 1) := by decide +kernel
theorem dX4_firstFault_32 : decode cX4_firstFault 32 = .ok (.iaload, 1) := by decide +kernel
theorem dX4_firstFault_33 : decode cX4_firstFault 33 = .ok (.invokestatic 23, 3) := by decide +kernel
theorem dX4_firstFault_36 : decode cX4_firstFault 36 = .ok (.ifCond .ne 45, 3) := by decide +kernel
theorem dX4_firstFault_39 : decode cX4_firstFault 39 = .ok (.iload_n 3, 1) := by decide +kernel
theorem dX4_firstFault_40 : decode cX4_firstFault 40 = .ok (.ireturn, 1) := by decide +kernel
theorem dX4_firstFault_41 : decode cX4_firstFault 41 = .ok (.iinc 2 1, 3) := by decide +kernel
theorem dX4_firstFault_44 : decode cX4_firstFault 44 = .ok (.aload_n 0, 1) := by decide +kernel
theorem dX4_firstFault_45 : decode cX4_firstFault 45 = .ok (.iload_n 3, 1) := by decide +kernel
theorem dX4_firstFault_46 : decode cX4_firstFault 46 = .ok (.invokevirtual 27, 3) := by decide +kernel
theorem dX4_firstFault_49 : decode cX4_firstFault 49 = .ok (.ifCond .eq 14, 3) := by decide +kernel
theorem dX4_firstFault_52 : decode cX4_firstFault 52 = .ok (.iload_n 1, 1) := by decide +kernel
theorem dX4_firstFault_53 : decode cX4_firstFault 53 = .ok (.ifCond .ne 10, 3) := by decide +kernel
theorem dX4_firstFault_56 : decode cX4_firstFault 56 = .ok (.iconst 1, 1) := by decide +kernel
theorem dX4_firstFault_57 : decode cX4_firstFault 57 = .ok (.istore_n 1, 1) := by decide +kernel
theorem dX4_firstFault_58 : decode cX4_firstFault 58 = .ok (.iconst 0, 1) := by decide +kernel
theorem dX4_firstFault_59 : decode cX4_firstFault 59 = .ok (.istore_n 2, 1) := by decide +kernel
theorem dX4_firstFault_60 : decode cX4_firstFault 60 = .ok (.goto 21, 3) := by decide +kernel
theorem dX4_firstFault_63 : decode cX4_firstFault 63 = .ok (.aload_n 0, 1) := by decide +kernel
theorem dX4_firstFault_64 : decode cX4_firstFault 64 = .ok (.getfield 9, 3) := by decide +kernel
theorem dX4_firstFault_67 : decode cX4_firstFault 67 = .ok (.iload_n 3, 1) := by decide +kernel
theorem dX4_firstFault_68 : decode cX4_firstFault 68 = .ok (.iaload, 1) := by decide +kernel
theorem dX4_firstFault_69 : decode cX4_firstFault 69 = .ok (.bipush 44, 2) := by decide +kernel
theorem dX4_firstFault_71 : decode cX4_firstFault 71 = .ok (.if_icmp .ne 8, 3) := by decide +kernel
theorem dX4_firstFault_74 : decode cX4_firstFault 74 = .ok (.iload_n 2, 1) := by decide +kernel
theorem dX4_firstFault_75 : decode cX4_firstFault 75 = .ok (.iconst 4, 1) := by decide +kernel
theorem dX4_firstFault_76 : decode cX4_firstFault 76 = .ok (.if_icmp .lt 5, 3) := by decide +kernel
theorem dX4_firstFault_79 : decode cX4_firstFault 79 = .ok (.iload_n 3, 1) := by decide +kernel
theorem dX4_firstFault_80 : decode cX4_firstFault 80 = .ok (.ireturn, 1) := by decide +kernel
theorem dX4_firstFault_81 : decode cX4_firstFault 81 = .ok (.iinc 3 1, 3) := by decide +kernel
theorem dX4_firstFault_84 : decode cX4_firstFault 84 = .ok (.goto (-78), 3) := by decide +kernel
theorem dX4_firstFault_87 : decode cX4_firstFault 87 = .ok (.aload_n 0, 1) := by decide +kernel
theorem dX4_firstFault_88 : decode cX4_firstFault 88 = .ok (.getfield 15, 3) := by decide +kernel
theorem dX4_firstFault_91 : decode cX4_firstFault 91 = .ok (.ireturn, 1) := by decide +kernel
theorem dX4_isSea_0 : decode cX4_isSea 0 = .ok (.aload_n 0, 1) := by decide +kernel
theorem dX4_isSea_1 : decode cX4_isSea 1 = .ok (.invokevirtual 31, 3) := by decide +kernel
theorem dX4_isSea_4 : decode cX4_isSea 4 = .ok (.aload_n 0, 1) := by decide +kernel
theorem dX4_isSea_5 : decode cX4_isSea 5 = .ok (.getfield 15, 3) := by decide +kernel
theorem dX4_isSea_8 : decode cX4_isSea 8 = .ok (.if_icmp .ne 24, 3) := by decide +kernel
theorem dX4_isSea_11 : decode cX4_isSea 11 = .ok (.aload_n 0, 1) := by decide +kernel
theorem dX4_isSea_12 : decode cX4_isSea 12 = .ok (.getfield 15, 3) := by decide +kernel
theorem dX4_isSea_15 : decode cX4_isSea 15 = .ok (.iconst 5, 1) := by decide +kernel
theorem dX4_isSea_16 : decode cX4_isSea 16 = .ok (.irem, 1) := by decide +kernel
theorem dX4_isSea_17 : decode cX4_isSea 17 = .ok (.iconst 4, 1) := by decide +kernel
theorem dX4_isSea_18 : decode cX4_isSea 18 = .ok (.if_icmp .ne 14, 3) := by decide +kernel
theorem dX4_isSea_21 : decode cX4_isSea 21 = .ok (.aload_n 0, 1) := by decide +kernel
theorem dX4_isSea_22 : decode cX4_isSea 22 = .ok (.invokevirtual 35, 3) := by decide +kernel
theorem dX4_isSea_25 : decode cX4_isSea 25 = .ok (.ifCond .eq 7, 3) := by decide +kernel
theorem dX4_isSea_28 : decode cX4_isSea 28 = .ok (.iconst 1, 1) := by decide +kernel
theorem dX4_isSea_29 : decode cX4_isSea 29 = .ok (.goto 4, 3) := by decide +kernel
theorem dX4_isSea_32 : decode cX4_isSea 32 = .ok (.iconst 0, 1) := by decide +kernel
theorem dX4_isSea_33 : decode cX4_isSea 33 = .ok (.ireturn, 1) := by decide +kernel
theorem dX4_hasTwoSides_0 : decode cX4_hasTwoSides 0 = .ok (.iconst 4, 1) := by decide +kernel
theorem dX4_hasTwoSides_1 : decode cX4_hasTwoSides 1 = .ok (.istore_n 1, 1) := by decide +kernel
theorem dX4_hasTwoSides_2 : decode cX4_hasTwoSides 2 = .ok (.iload_n 1, 1) := by decide +kernel
theorem dX4_hasTwoSides_3 : decode cX4_hasTwoSides 3 = .ok (.aload_n 0, 1) := by decide +kernel
theorem dX4_hasTwoSides_4 : decode cX4_hasTwoSides 4 = .ok (.getfield 15, 3) := by decide +kernel
theorem dX4_hasTwoSides_7 : decode cX4_hasTwoSides 7 = .ok (.if_icmp .ge 19, 3) := by decide +kernel
theorem dX4_hasTwoSides_10 : decode cX4_hasTwoSides 10 = .ok (.aload_n 0, 1) := by decide +kernel
theorem dX4_hasTwoSides_11 : decode cX4_hasTwoSides 11 = .ok (.iload_n 1, 1) := by decide +kernel
theorem dX4_hasTwoSides_12 : decode cX4_hasTwoSides 12 = .ok (.invokevirtual 27, 3) := by decide +kernel
theorem dX4_hasTwoSides_15 : decode cX4_hasTwoSides 15 = .ok (.ifCond .eq 5, 3) := by decide +kernel
theorem dX4_hasTwoSides_18 : decode cX4_hasTwoSides 18 = .ok (.iconst 1, 1) := by decide +kernel
theorem dX4_hasTwoSides_19 : decode cX4_hasTwoSides 19 = .ok (.ireturn, 1) := by decide +kernel
theorem dX4_hasTwoSides_20 : decode cX4_hasTwoSides 20 = .ok (.iinc 1 5, 3) := by decide +kernel
theorem dX4_hasTwoSides_23 : decode cX4_hasTwoSides 23 = .ok (.goto (-21), 3) := by decide +kernel
theorem dX4_hasTwoSides_26 : decode cX4_hasTwoSides 26 = .ok (.iconst 0, 1) := by decide +kernel
theorem dX4_hasTwoSides_27 : decode cX4_hasTwoSides 27 = .ok (.ireturn, 1) := by decide +kernel
theorem dX4_fitsPerson_0 : decode cX4_fitsPerson 0 = .ok (.iload_n 0, 1) := by decide +kernel
theorem dX4_fitsPerson_1 : decode cX4_fitsPerson 1 = .ok (.ifCond .ne 8, 3) := by decide +kernel
theorem dX4_fitsPerson_4 : decode cX4_fitsPerson 4 = .ok (.iload_n 1, 1) := by decide +kernel
theorem dX4_fitsPerson_5 : decode cX4_fitsPerson 5 = .ok (.invokestatic 39, 3) := by decide +kernel
theorem dX4_fitsPerson_8 : decode cX4_fitsPerson 8 = .ok (.ireturn, 1) := by decide +kernel
theorem dX4_fitsPerson_9 : decode cX4_fitsPerson 9 = .ok (.iload_n 0, 1) := by decide +kernel
theorem dX4_fitsPerson_10 : decode cX4_fitsPerson 10 = .ok (.iconst 2, 1) := by decide +kernel
theorem dX4_fitsPerson_11 : decode cX4_fitsPerson 11 = .ok (.if_icmp .ne 7, 3) := by decide +kernel
theorem dX4_fitsPerson_14 : decode cX4_fitsPerson 14 = .ok (.iconst 3, 1) := by decide +kernel
theorem dX4_fitsPerson_15 : decode cX4_fitsPerson 15 = .ok (.goto 5, 3) := by decide +kernel
theorem dX4_fitsPerson_18 : decode cX4_fitsPerson 18 = .ok (.bipush 9, 2) := by decide +kernel
theorem dX4_fitsPerson_20 : decode cX4_fitsPerson 20 = .ok (.istore_n 2, 1) := by decide +kernel
theorem dX4_fitsPerson_21 : decode cX4_fitsPerson 21 = .ok (.iload_n 1, 1) := by decide +kernel
theorem dX4_fitsPerson_22 : decode cX4_fitsPerson 22 = .ok (.bipush 48, 2) := by decide +kernel
theorem dX4_fitsPerson_24 : decode cX4_fitsPerson 24 = .ok (.isub, 1) := by decide +kernel
theorem dX4_fitsPerson_25 : decode cX4_fitsPerson 25 = .ok (.iconst 0, 1) := by decide +kernel
theorem dX4_fitsPerson_26 : decode cX4_fitsPerson 26 = .ok (.iload_n 2, 1) := by decide +kernel
theorem dX4_fitsPerson_27 : decode cX4_fitsPerson 27 = .ok (.invokestatic 44, 3) := by decide +kernel
theorem dX4_fitsPerson_30 : decode cX4_fitsPerson 30 = .ok (.ireturn, 1) := by decide +kernel
theorem dX5_init_0 : decode cX5_init 0 = .ok (.aload_n 0, 1) := by decide +kernel
theorem dX5_init_1 : decode cX5_init 1 = .ok (.invokespecial 3, 3) := by decide +kernel
theorem dX5_init_4 : decode cX5_init 4 = .ok (.aload_n 0, 1) := by decide +kernel
theorem dX5_init_5 : decode cX5_init 5 = .ok (.getstatic 9, 3) := by decide +kernel
theorem dX5_init_8 : decode cX5_init 8 = .ok (.putfield 15, 3) := by decide +kernel
theorem dX5_init_11 : decode cX5_init 11 = .ok (.aload_n 0, 1) := by decide +kernel
theorem dX5_init_12 : decode cX5_init 12 = .ok (.iconst (-1), 1) := by decide +kernel
theorem dX5_init_13 : decode cX5_init 13 = .ok (.putfield 20, 3) := by decide +kernel
theorem dX5_init_16 : decode cX5_init 16 = .ok (.aload_n 0, 1) := by decide +kernel
theorem dX5_init_17 : decode cX5_init 17 = .ok (.iload_n 1, 1) := by decide +kernel
theorem dX5_init_18 : decode cX5_init 18 = .ok (.putfield 24, 3) := by decide +kernel
theorem dX5_init_21 : decode cX5_init 21 = .ok (.aload_n 0, 1) := by decide +kernel
theorem dX5_init_22 : decode cX5_init 22 = .ok (.iconst 1, 1) := by decide +kernel
theorem dX5_init_23 : decode cX5_init 23 = .ok (.iload_n 1, 1) := by decide +kernel
theorem dX5_init_24 : decode cX5_init 24 = .ok (.ishl, 1) := by decide +kernel
theorem dX5_init_25 : decode cX5_init 25 = .ok (.putfield 27, 3) := by decide +kernel
theorem dX5_init_28 : decode cX5_init 28 = .ok (.return_, 1) := by decide +kernel
theorem dX5_copyFrom_0 : decode cX5_copyFrom 0 = .ok (.aload_n 0, 1) := by decide +kernel
theorem dX5_copyFrom_1 : decode cX5_copyFrom 1 = .ok (.aload_n 1, 1) := by decide +kernel
theorem dX5_copyFrom_2 : decode cX5_copyFrom 2 = .ok (.getfield 15, 3) := by decide +kernel
theorem dX5_copyFrom_5 : decode cX5_copyFrom 5 = .ok (.putfield 15, 3) := by decide +kernel
theorem dX5_copyFrom_8 : decode cX5_copyFrom 8 = .ok (.aload_n 0, 1) := by decide +kernel
theorem dX5_copyFrom_9 : decode cX5_copyFrom 9 = .ok (.aload_n 1, 1) := by decide +kernel
theorem dX5_copyFrom_10 : decode cX5_copyFrom 10 = .ok (.getfield 30, 3) := by decide +kernel
theorem dX5_copyFrom_13 : decode cX5_copyFrom 13 = .ok (.putfield 30, 3) := by decide +kernel
theorem dX5_copyFrom_16 : decode cX5_copyFrom 16 = .ok (.aload_n 0, 1) := by decide +kernel
theorem dX5_copyFrom_17 : decode cX5_copyFrom 17 = .ok (.aload_n 1, 1) := by decide +kernel
theorem dX5_copyFrom_18 : decode cX5_copyFrom 18 = .ok (.getfield 33, 3) := by decide +kernel
theorem dX5_copyFrom_21 : decode cX5_copyFrom 21 = .ok (.putfield 33, 3) := by decide +kernel
theorem dX5_copyFrom_24 : decode cX5_copyFrom 24 = .ok (.aload_n 0, 1) := by decide +kernel
theorem dX5_copyFrom_25 : decode cX5_copyFrom 25 = .ok (.aload_n 1, 1) := by decide +kernel
theorem dX5_copyFrom_26 : decode cX5_copyFrom 26 = .ok (.getfield 36, 3) := by decide +kernel
theorem dX5_copyFrom_29 : decode cX5_copyFrom 29 = .ok (.putfield 36, 3) := by decide +kernel
theorem dX5_copyFrom_32 : decode cX5_copyFrom 32 = .ok (.aload_n 0, 1) := by decide +kernel
theorem dX5_copyFrom_33 : decode cX5_copyFrom 33 = .ok (.aload_n 1, 1) := by decide +kernel
theorem dX5_copyFrom_34 : decode cX5_copyFrom 34 = .ok (.getfield 39, 3) := by decide +kernel
theorem dX5_copyFrom_37 : decode cX5_copyFrom 37 = .ok (.putfield 39, 3) := by decide +kernel
theorem dX5_copyFrom_40 : decode cX5_copyFrom 40 = .ok (.aload_n 0, 1) := by decide +kernel
theorem dX5_copyFrom_41 : decode cX5_copyFrom 41 = .ok (.aload_n 1, 1) := by decide +kernel
theorem dX5_copyFrom_42 : decode cX5_copyFrom 42 = .ok (.getfield 42, 3) := by decide +kernel
theorem dX5_copyFrom_45 : decode cX5_copyFrom 45 = .ok (.putfield 42, 3) := by decide +kernel
theorem dX5_copyFrom_48 : decode cX5_copyFrom 48 = .ok (.aload_n 0, 1) := by decide +kernel
theorem dX5_copyFrom_49 : decode cX5_copyFrom 49 = .ok (.aload_n 1, 1) := by decide +kernel
theorem dX5_copyFrom_50 : decode cX5_copyFrom 50 = .ok (.getfield 45, 3) := by decide +kernel
theorem dX5_copyFrom_53 : decode cX5_copyFrom 53 = .ok (.putfield 45, 3) := by decide +kernel
theorem dX5_copyFrom_56 : decode cX5_copyFrom 56 = .ok (.aload_n 0, 1) := by decide +kernel
theorem dX5_copyFrom_57 : decode cX5_copyFrom 57 = .ok (.aload_n 1, 1) := by decide +kernel
theorem dX5_copyFrom_58 : decode cX5_copyFrom 58 = .ok (.getfield 48, 3) := by decide +kernel
theorem dX5_copyFrom_61 : decode cX5_copyFrom 61 = .ok (.putfield 48, 3) := by decide +kernel
theorem dX5_copyFrom_64 : decode cX5_copyFrom 64 = .ok (.aload_n 0, 1) := by decide +kernel
theorem dX5_copyFrom_65 : decode cX5_copyFrom 65 = .ok (.aload_n 1, 1) := by decide +kernel
theorem dX5_copyFrom_66 : decode cX5_copyFrom 66 = .ok (.getfield 51, 3) := by decide +kernel
theorem dX5_copyFrom_69 : decode cX5_copyFrom 69 = .ok (.putfield 51, 3) := by decide +kernel
theorem dX5_copyFrom_72 : decode cX5_copyFrom 72 = .ok (.aload_n 0, 1) := by decide +kernel
theorem dX5_copyFrom_73 : decode cX5_copyFrom 73 = .ok (.aload_n 1, 1) := by decide +kernel
theorem dX5_copyFrom_74 : decode cX5_copyFrom 74 = .ok (.getfield 20, 3) := by decide +kernel
theorem dX5_copyFrom_77 : decode cX5_copyFrom 77 = .ok (.putfield 20, 3) := by decide +kernel
theorem dX5_copyFrom_80 : decode cX5_copyFrom 80 = .ok (.return_, 1) := by decide +kernel
theorem dX5_clearShown_0 : decode cX5_clearShown 0 = .ok (.aload_n 0, 1) := by decide +kernel
theorem dX5_clearShown_1 : decode cX5_clearShown 1 = .ok (.iconst 0, 1) := by decide +kernel
theorem dX5_clearShown_2 : decode cX5_clearShown 2 = .ok (.putfield 42, 3) := by decide +kernel
theorem dX5_clearShown_5 : decode cX5_clearShown 5 = .ok (.aload_n 0, 1) := by decide +kernel
theorem dX5_clearShown_6 : decode cX5_clearShown 6 = .ok (.iconst 0, 1) := by decide +kernel
theorem dX5_clearShown_7 : decode cX5_clearShown 7 = .ok (.putfield 45, 3) := by decide +kernel
theorem dX5_clearShown_10 : decode cX5_clearShown 10 = .ok (.aload_n 0, 1) := by decide +kernel
theorem dX5_clearShown_11 : decode cX5_clearShown 11 = .ok (.iconst 0, 1) := by decide +kernel
theorem dX5_clearShown_12 : decode cX5_clearShown 12 = .ok (.putfield 48, 3) := by decide +kernel
theorem dX5_clearShown_15 : decode cX5_clearShown 15 = .ok (.aload_n 0, 1) := by decide +kernel
theorem dX5_clearShown_16 : decode cX5_clearShown 16 = .ok (.iconst 0, 1) := by decide +kernel
theorem dX5_clearShown_17 : decode cX5_clearShown 17 = .ok (.putfield 51, 3) := by decide +kernel
theorem dX5_clearShown_20 : decode cX5_clearShown 20 = .ok (.return_, 1) := by decide +kernel
theorem dX5_picture_0 : decode cX5_picture 0 = .ok (.aload_n 0, 1) := by decide +kernel
theorem dX5_picture_1 : decode cX5_picture 1 = .ok (.getfield 33, 3) := by decide +kernel
theorem dX5_picture_4 : decode cX5_picture 4 = .ok (.aload_n 0, 1) := by decide +kernel
theorem dX5_picture_5 : decode cX5_picture 5 = .ok (.getfield 36, 3) := by decide +kernel
theorem dX5_picture_8 : decode cX5_picture 8 = .ok (.iadd, 1) := by decide +kernel
theorem dX5_picture_9 : decode cX5_picture 9 = .ok (.ireturn, 1) := by decide +kernel
theorem dX5_isTaken_0 : decode cX5_isTaken 0 = .ok (.aload_n 0, 1) := by decide +kernel
theorem dX5_isTaken_1 : decode cX5_isTaken 1 = .ok (.getfield 20, 3) := by decide +kernel
theorem dX5_isTaken_4 : decode cX5_isTaken 4 = .ok (.iconst (-1), 1) := by decide +kernel
theorem dX5_isTaken_5 : decode cX5_isTaken 5 = .ok (.if_icmp .eq 7, 3) := by decide +kernel
theorem dX5_isTaken_8 : decode cX5_isTaken 8 = .ok (.iconst 1, 1) := by decide +kernel
theorem dX5_isTaken_9 : decode cX5_isTaken 9 = .ok (.goto 4, 3) := by decide +kernel
theorem dX5_isTaken_12 : decode cX5_isTaken 12 = .ok (.iconst 0, 1) := by decide +kernel
theorem dX5_isTaken_13 : decode cX5_isTaken 13 = .ok (.ireturn, 1) := by decide +kernel
theorem dX5_isGone_0 : decode cX5_isGone 0 = .ok (.aload_n 0, 1) := by decide +kernel
theorem dX5_isGone_1 : decode cX5_isGone 1 = .ok (.getfield 15, 3) := by decide +kernel
theorem dX5_isGone_4 : decode cX5_isGone 4 = .ok (.getstatic 54, 3) := by decide +kernel
theorem dX5_isGone_7 : decode cX5_isGone 7 = .ok (.if_acmp .ne 7, 3) := by decide +kernel
theorem dX5_isGone_10 : decode cX5_isGone 10 = .ok (.iconst 1, 1) := by decide +kernel
theorem dX5_isGone_11 : decode cX5_isGone 11 = .ok (.goto 4, 3) := by decide +kernel
theorem dX5_isGone_14 : decode cX5_isGone 14 = .ok (.iconst 0, 1) := by decide +kernel
theorem dX5_isGone_15 : decode cX5_isGone 15 = .ok (.ireturn, 1) := by decide +kernel
theorem dX5_isFree_0 : decode cX5_isFree 0 = .ok (.aload_n 0, 1) := by decide +kernel
theorem dX5_isFree_1 : decode cX5_isFree 1 = .ok (.invokevirtual 57, 3) := by decide +kernel
theorem dX5_isFree_4 : decode cX5_isFree 4 = .ok (.ifCond .ne 14, 3) := by decide +kernel
theorem dX5_isFree_7 : decode cX5_isFree 7 = .ok (.aload_n 0, 1) := by decide +kernel
theorem dX5_isFree_8 : decode cX5_isFree 8 = .ok (.invokevirtual 61, 3) := by decide +kernel
theorem dX5_isFree_11 : decode cX5_isFree 11 = .ok (.ifCond .ne 7, 3) := by decide +kernel
theorem dX5_isFree_14 : decode cX5_isFree 14 = .ok (.iconst 1, 1) := by decide +kernel
theorem dX5_isFree_15 : decode cX5_isFree 15 = .ok (.goto 4, 3) := by decide +kernel
theorem dX5_isFree_18 : decode cX5_isFree 18 = .ok (.iconst 0, 1) := by decide +kernel
theorem dX5_isFree_19 : decode cX5_isFree 19 = .ok (.ireturn, 1) := by decide +kernel
theorem dX5_isCoupleWith_0 : decode cX5_isCoupleWith 0 = .ok (.aload_n 0, 1) := by decide +kernel
theorem dX5_isCoupleWith_1 : decode cX5_isCoupleWith 1 = .ok (.getfield 20, 3) := by decide +kernel
theorem dX5_isCoupleWith_4 : decode cX5_isCoupleWith 4 = .ok (.aload_n 1, 1) := by decide +kernel
theorem dX5_isCoupleWith_5 : decode cX5_isCoupleWith 5 = .ok (.getfield 24, 3) := by decide +kernel
theorem dX5_isCoupleWith_8 : decode cX5_isCoupleWith 8 = .ok (.if_icmp .ne 7, 3) := by decide +kernel
theorem dX5_isCoupleWith_11 : decode cX5_isCoupleWith 11 = .ok (.iconst 1, 1) := by decide +kernel
theorem dX5_isCoupleWith_12 : decode cX5_isCoupleWith 12 = .ok (.goto 4, 3) := by decide +kernel
theorem dX5_isCoupleWith_15 : decode cX5_isCoupleWith 15 = .ok (.iconst 0, 1) := by decide +kernel
theorem dX5_isCoupleWith_16 : decode cX5_isCoupleWith 16 = .ok (.ireturn, 1) := by decide +kernel
theorem dX5_isContentWith_0 : decode cX5_isContentWith 0 = .ok (.aload_n 0, 1) := by decide +kernel
theorem dX5_isContentWith_1 : decode cX5_isContentWith 1 = .ok (.aload_n 0, 1) := by decide +kernel
theorem dX5_isContentWith_2 : decode cX5_isContentWith 2 = .ok (.getfield 39, 3) := by decide +kernel
theorem dX5_isContentWith_5 : decode cX5_isContentWith 5 = .ok (.iload_n 1, 1) := by decide +kernel
theorem dX5_isContentWith_6 : decode cX5_isContentWith 6 = .ok (.invokevirtual 64, 3) := by decide +kernel
theorem dX5_isContentWith_9 : decode cX5_isContentWith 9 = .ok (.ireturn, 1) := by decide +kernel
theorem dX5_wouldBeContent_0 : decode cX5_wouldBeContent 0 = .ok (.aload_n 0, 1) := by decide +kernel
theorem dX5_wouldBeContent_1 : decode cX5_wouldBeContent 1 = .ok (.getfield 15, 3) := by decide +kernel
theorem dX5_wouldBeContent_4 : decode cX5_wouldBeContent 4 = .ok (.getstatic 68, 3) := by decide +kernel
theorem dX5_wouldBeContent_7 : decode cX5_wouldBeContent 7 = .ok (.if_acmp .eq 8, 3) := by decide +kernel
theorem dX5_wouldBeContent_10 : decode cX5_wouldBeContent 10 = .ok (.iload_n 2, 1) := by decide +kernel
theorem dX5_wouldBeContent_11 : decode cX5_wouldBeContent 11 = .ok (.iload_n 1, 1) := by decide +kernel
theorem dX5_wouldBeContent_12 : decode cX5_wouldBeContent 12 = .ok (.if_icmp .lt 7, 3) := by decide +kernel
theorem dX5_wouldBeContent_15 : decode cX5_wouldBeContent 15 = .ok (.iconst 1, 1) := by decide +kernel
theorem dX5_wouldBeContent_16 : decode cX5_wouldBeContent 16 = .ok (.goto 4, 3) := by decide +kernel
theorem dX5_wouldBeContent_19 : decode cX5_wouldBeContent 19 = .ok (.iconst 0, 1) := by decide +kernel
theorem dX5_wouldBeContent_20 : decode cX5_wouldBeContent 20 = .ok (.ireturn, 1) := by decide +kernel
theorem dX5_likes_0 : decode cX5_likes 0 = .ok (.aload_n 0, 1) := by decide +kernel
theorem dX5_likes_1 : decode cX5_likes 1 = .ok (.getfield 30, 3) := by decide +kernel
theorem dX5_likes_4 : decode cX5_likes 4 = .ok (.aload_n 1, 1) := by decide +kernel
theorem dX5_likes_5 : decode cX5_likes 5 = .ok (.getfield 30, 3) := by decide +kernel
theorem dX5_likes_8 : decode cX5_likes 8 = .ok (.if_icmp .eq 22, 3) := by decide +kernel
theorem dX5_likes_11 : decode cX5_likes 11 = .ok (.aload_n 0, 1) := by decide +kernel
theorem dX5_likes_12 : decode cX5_likes 12 = .ok (.aload_n 0, 1) := by decide +kernel
theorem dX5_likes_13 : decode cX5_likes 13 = .ok (.getfield 39, 3) := by decide +kernel
theorem dX5_likes_16 : decode cX5_likes 16 = .ok (.aload_n 1, 1) := by decide +kernel
theorem dX5_likes_17 : decode cX5_likes 17 = .ok (.invokevirtual 71, 3) := by decide +kernel
theorem dX5_likes_20 : decode cX5_likes 20 = .ok (.invokevirtual 64, 3) := by decide +kernel
theorem dX5_likes_23 : decode cX5_likes 23 = .ok (.ifCond .eq 7, 3) := by decide +kernel
theorem dX5_likes_26 : decode cX5_likes 26 = .ok (.iconst 1, 1) := by decide +kernel
theorem dX5_likes_27 : decode cX5_likes 27 = .ok (.goto 4, 3) := by decide +kernel
theorem dX5_likes_30 : decode cX5_likes 30 = .ok (.iconst 0, 1) := by decide +kernel
theorem dX5_likes_31 : decode cX5_likes 31 = .ok (.ireturn, 1) := by decide +kernel
theorem dX5_wentRightOn_0 : decode cX5_wentRightOn 0 = .ok (.aload_n 0, 1) := by decide +kernel
theorem dX5_wentRightOn_1 : decode cX5_wentRightOn 1 = .ok (.getfield 42, 3) := by decide +kernel
theorem dX5_wentRightOn_4 : decode cX5_wentRightOn 4 = .ok (.aload_n 1, 1) := by decide +kernel
theorem dX5_wentRightOn_5 : decode cX5_wentRightOn 5 = .ok (.getfield 27, 3) := by decide +kernel
theorem dX5_wentRightOn_8 : decode cX5_wentRightOn 8 = .ok (.iand, 1) := by decide +kernel
theorem dX5_wentRightOn_9 : decode cX5_wentRightOn 9 = .ok (.ifCond .eq 7, 3) := by decide +kernel
theorem dX5_wentRightOn_12 : decode cX5_wentRightOn 12 = .ok (.iconst 1, 1) := by decide +kernel
theorem dX5_wentRightOn_13 : decode cX5_wentRightOn 13 = .ok (.goto 4, 3) := by decide +kernel
theorem dX5_wentRightOn_16 : decode cX5_wentRightOn 16 = .ok (.iconst 0, 1) := by decide +kernel
theorem dX5_wentRightOn_17 : decode cX5_wentRightOn 17 = .ok (.ireturn, 1) := by decide +kernel
theorem dX5_wasShown_0 : decode cX5_wasShown 0 = .ok (.aload_n 0, 1) := by decide +kernel
theorem dX5_wasShown_1 : decode cX5_wasShown 1 = .ok (.getfield 42, 3) := by decide +kernel
theorem dX5_wasShown_4 : decode cX5_wasShown 4 = .ok (.aload_n 0, 1) := by decide +kernel
theorem dX5_wasShown_5 : decode cX5_wasShown 5 = .ok (.getfield 45, 3) := by decide +kernel
theorem dX5_wasShown_8 : decode cX5_wasShown 8 = .ok (.ior, 1) := by decide +kernel
theorem dX5_wasShown_9 : decode cX5_wasShown 9 = .ok (.aload_n 1, 1) := by decide +kernel
theorem dX5_wasShown_10 : decode cX5_wasShown 10 = .ok (.getfield 27, 3) := by decide +kernel
theorem dX5_wasShown_13 : decode cX5_wasShown 13 = .ok (.iand, 1) := by decide +kernel
theorem dX5_wasShown_14 : decode cX5_wasShown 14 = .ok (.ifCond .eq 7, 3) := by decide +kernel
theorem dX5_wasShown_17 : decode cX5_wasShown 17 = .ok (.iconst 1, 1) := by decide +kernel
theorem dX5_wasShown_18 : decode cX5_wasShown 18 = .ok (.goto 4, 3) := by decide +kernel
theorem dX5_wasShown_21 : decode cX5_wasShown 21 = .ok (.iconst 0, 1) := by decide +kernel
theorem dX5_wasShown_22 : decode cX5_wasShown 22 = .ok (.ireturn, 1) := by decide +kernel
theorem dX5_isMatchOf_0 : decode cX5_isMatchOf 0 = .ok (.aload_n 0, 1) := by decide +kernel
theorem dX5_isMatchOf_1 : decode cX5_isMatchOf 1 = .ok (.aload_n 1, 1) := by decide +kernel
theorem dX5_isMatchOf_2 : decode cX5_isMatchOf 2 = .ok (.invokevirtual 75, 3) := by decide +kernel
theorem dX5_isMatchOf_5 : decode cX5_isMatchOf 5 = .ok (.ifCond .eq 15, 3) := by decide +kernel
theorem dX5_isMatchOf_8 : decode cX5_isMatchOf 8 = .ok (.aload_n 1, 1) := by decide +kernel
theorem dX5_isMatchOf_9 : decode cX5_isMatchOf 9 = .ok (.aload_n 0, 1) := by decide +kernel
theorem dX5_isMatchOf_10 : decode cX5_isMatchOf 10 = .ok (.invokevirtual 75, 3) := by decide +kernel
theorem dX5_isMatchOf_13 : decode cX5_isMatchOf 13 = .ok (.ifCond .eq 7, 3) := by decide +kernel
theorem dX5_isMatchOf_16 : decode cX5_isMatchOf 16 = .ok (.iconst 1, 1) := by decide +kernel
theorem dX5_isMatchOf_17 : decode cX5_isMatchOf 17 = .ok (.goto 4, 3) := by decide +kernel
theorem dX5_isMatchOf_20 : decode cX5_isMatchOf 20 = .ok (.iconst 0, 1) := by decide +kernel
theorem dX5_isMatchOf_21 : decode cX5_isMatchOf 21 = .ok (.ireturn, 1) := by decide +kernel
theorem dX5_canBeShown_0 : decode cX5_canBeShown 0 = .ok (.aload_n 0, 1) := by decide +kernel
theorem dX5_canBeShown_1 : decode cX5_canBeShown 1 = .ok (.getfield 30, 3) := by decide +kernel
theorem dX5_canBeShown_4 : decode cX5_canBeShown 4 = .ok (.aload_n 1, 1) := by decide +kernel
theorem dX5_canBeShown_5 : decode cX5_canBeShown 5 = .ok (.getfield 30, 3) := by decide +kernel
theorem dX5_canBeShown_8 : decode cX5_canBeShown 8 = .ok (.if_icmp .eq 29, 3) := by decide +kernel
theorem dX5_canBeShown_11 : decode cX5_canBeShown 11 = .ok (.aload_n 0, 1) := by decide +kernel
theorem dX5_canBeShown_12 : decode cX5_canBeShown 12 = .ok (.invokevirtual 79, 3) := by decide +kernel
theorem dX5_canBeShown_15 : decode cX5_canBeShown 15 = .ok (.ifCond .eq 22, 3) := by decide +kernel
theorem dX5_canBeShown_18 : decode cX5_canBeShown 18 = .ok (.aload_n 1, 1) := by decide +kernel
theorem dX5_canBeShown_19 : decode cX5_canBeShown 19 = .ok (.invokevirtual 57, 3) := by decide +kernel
theorem dX5_canBeShown_22 : decode cX5_canBeShown 22 = .ok (.ifCond .ne 15, 3) := by decide +kernel
theorem dX5_canBeShown_25 : decode cX5_canBeShown 25 = .ok (.aload_n 0, 1) := by decide +kernel
theorem dX5_canBeShown_26 : decode cX5_canBeShown 26 = .ok (.aload_n 1, 1) := by decide +kernel
theorem dX5_canBeShown_27 : decode cX5_canBeShown 27 = .ok (.invokevirtual 82, 3) := by decide +kernel
theorem dX5_canBeShown_30 : decode cX5_canBeShown 30 = .ok (.ifCond .ne 7, 3) := by decide +kernel
theorem dX5_canBeShown_33 : decode cX5_canBeShown 33 = .ok (.iconst 1, 1) := by decide +kernel
theorem dX5_canBeShown_34 : decode cX5_canBeShown 34 = .ok (.goto 4, 3) := by decide +kernel
theorem dX5_canBeShown_37 : decode cX5_canBeShown 37 = .ok (.iconst 0, 1) := by decide +kernel
theorem dX5_canBeShown_38 : decode cX5_canBeShown 38 = .ok (.ireturn, 1) := by decide +kernel
theorem dX5_goesRightOn_0 : decode cX5_goesRightOn 0 = .ok (.aload_n 0, 1) := by decide +kernel
theorem dX5_goesRightOn_1 : decode cX5_goesRightOn 1 = .ok (.aload_n 1, 1) := by decide +kernel
theorem dX5_goesRightOn_2 : decode cX5_goesRightOn 2 = .ok (.invokevirtual 85, 3) := by decide +kernel
theorem dX5_goesRightOn_5 : decode cX5_goesRightOn 5 = .ok (.ifCond .eq 11, 3) := by decide +kernel
theorem dX5_goesRightOn_8 : decode cX5_goesRightOn 8 = .ok (.aload_n 0, 1) := by decide +kernel
theorem dX5_goesRightOn_9 : decode cX5_goesRightOn 9 = .ok (.getfield 51, 3) := by decide +kernel
theorem dX5_goesRightOn_12 : decode cX5_goesRightOn 12 = .ok (.iload_n 2, 1) := by decide +kernel
theorem dX5_goesRightOn_13 : decode cX5_goesRightOn 13 = .ok (.if_icmp .lt 5, 3) := by decide +kernel
theorem dX5_goesRightOn_16 : decode cX5_goesRightOn 16 = .ok (.iconst 0, 1) := by decide +kernel
theorem dX5_goesRightOn_17 : decode cX5_goesRightOn 17 = .ok (.ireturn, 1) := by decide +kernel
theorem dX5_goesRightOn_18 : decode cX5_goesRightOn 18 = .ok (.aload_n 0, 1) := by decide +kernel
theorem dX5_goesRightOn_19 : decode cX5_goesRightOn 19 = .ok (.getfield 15, 3) := by decide +kernel
theorem dX5_goesRightOn_22 : decode cX5_goesRightOn 22 = .ok (.getstatic 88, 3) := by decide +kernel
theorem dX5_goesRightOn_25 : decode cX5_goesRightOn 25 = .ok (.if_acmp .ne 12, 3) := by decide +kernel
theorem dX5_goesRightOn_28 : decode cX5_goesRightOn 28 = .ok (.aload_n 0, 1) := by decide +kernel
theorem dX5_goesRightOn_29 : decode cX5_goesRightOn 29 = .ok (.invokevirtual 91, 3) := by decide +kernel
theorem dX5_goesRightOn_32 : decode cX5_goesRightOn 32 = .ok (.ifCond .eq 5, 3) := by decide +kernel
theorem dX5_goesRightOn_35 : decode cX5_goesRightOn 35 = .ok (.iconst 0, 1) := by decide +kernel
theorem dX5_goesRightOn_36 : decode cX5_goesRightOn 36 = .ok (.ireturn, 1) := by decide +kernel
theorem dX5_goesRightOn_37 : decode cX5_goesRightOn 37 = .ok (.aload_n 0, 1) := by decide +kernel
theorem dX5_goesRightOn_38 : decode cX5_goesRightOn 38 = .ok (.getfield 15, 3) := by decide +kernel
theorem dX5_goesRightOn_41 : decode cX5_goesRightOn 41 = .ok (.getstatic 94, 3) := by decide +kernel
theorem dX5_goesRightOn_44 : decode cX5_goesRightOn 44 = .ok (.getfield 97, 3) := by decide +kernel
theorem dX5_goesRightOn_47 : decode cX5_goesRightOn 47 = .ok (.invokevirtual 98, 3) := by decide +kernel
theorem dX5_goesRightOn_50 : decode cX5_goesRightOn 50 = .ok (.ifCond .eq 11, 3) := by decide +kernel
theorem dX5_goesRightOn_53 : decode cX5_goesRightOn 53 = .ok (.aload_n 1, 1) := by decide +kernel
theorem dX5_goesRightOn_54 : decode cX5_goesRightOn 54 = .ok (.aload_n 0, 1) := by decide +kernel
theorem dX5_goesRightOn_55 : decode cX5_goesRightOn 55 = .ok (.invokevirtual 75, 3) := by decide +kernel
theorem dX5_goesRightOn_58 : decode cX5_goesRightOn 58 = .ok (.ifCond .eq 7, 3) := by decide +kernel
theorem dX5_goesRightOn_61 : decode cX5_goesRightOn 61 = .ok (.iconst 1, 1) := by decide +kernel
theorem dX5_goesRightOn_62 : decode cX5_goesRightOn 62 = .ok (.goto 4, 3) := by decide +kernel
theorem dX5_goesRightOn_65 : decode cX5_goesRightOn 65 = .ok (.iconst 0, 1) := by decide +kernel
theorem dX5_goesRightOn_66 : decode cX5_goesRightOn 66 = .ok (.ireturn, 1) := by decide +kernel
theorem dX5_isTurnToHasten_0 : decode cX5_isTurnToHasten 0 = .ok (.aload_n 0, 1) := by decide +kernel
theorem dX5_isTurnToHasten_1 : decode cX5_isTurnToHasten 1 = .ok (.getfield 48, 3) := by decide +kernel
theorem dX5_isTurnToHasten_4 : decode cX5_isTurnToHasten 4 = .ok (.iconst 3, 1) := by decide +kernel
theorem dX5_isTurnToHasten_5 : decode cX5_isTurnToHasten 5 = .ok (.irem, 1) := by decide +kernel
theorem dX5_isTurnToHasten_6 : decode cX5_isTurnToHasten 6 = .ok (.iconst 2, 1) := by decide +kernel
theorem dX5_isTurnToHasten_7 : decode cX5_isTurnToHasten 7 = .ok (.if_icmp .ne 7, 3) := by decide +kernel
theorem dX5_isTurnToHasten_10 : decode cX5_isTurnToHasten 10 = .ok (.iconst 1, 1) := by decide +kernel
theorem dX5_isTurnToHasten_11 : decode cX5_isTurnToHasten 11 = .ok (.goto 4, 3) := by decide +kernel
theorem dX5_isTurnToHasten_14 : decode cX5_isTurnToHasten 14 = .ok (.iconst 0, 1) := by decide +kernel
theorem dX5_isTurnToHasten_15 : decode cX5_isTurnToHasten 15 = .ok (.ireturn, 1) := by decide +kernel
theorem dX5_goRightOn_0 : decode cX5_goRightOn 0 = .ok (.aload_n 0, 1) := by decide +kernel
theorem dX5_goRightOn_1 : decode cX5_goRightOn 1 = .ok (.dup, 1) := by decide +kernel
theorem dX5_goRightOn_2 : decode cX5_goRightOn 2 = .ok (.getfield 42, 3) := by decide +kernel
theorem dX5_goRightOn_5 : decode cX5_goRightOn 5 = .ok (.aload_n 1, 1) := by decide +kernel
theorem dX5_goRightOn_6 : decode cX5_goRightOn 6 = .ok (.getfield 27, 3) := by decide +kernel
theorem dX5_goRightOn_9 : decode cX5_goRightOn 9 = .ok (.ior, 1) := by decide +kernel
theorem dX5_goRightOn_10 : decode cX5_goRightOn 10 = .ok (.putfield 42, 3) := by decide +kernel
theorem dX5_goRightOn_13 : decode cX5_goRightOn 13 = .ok (.aload_n 0, 1) := by decide +kernel
theorem dX5_goRightOn_14 : decode cX5_goRightOn 14 = .ok (.iconst 0, 1) := by decide +kernel
theorem dX5_goRightOn_15 : decode cX5_goRightOn 15 = .ok (.putfield 48, 3) := by decide +kernel
theorem dX5_goRightOn_18 : decode cX5_goRightOn 18 = .ok (.aload_n 0, 1) := by decide +kernel
theorem dX5_goRightOn_19 : decode cX5_goRightOn 19 = .ok (.dup, 1) := by decide +kernel
theorem dX5_goRightOn_20 : decode cX5_goRightOn 20 = .ok (.getfield 51, 3) := by decide +kernel
theorem dX5_goRightOn_23 : decode cX5_goRightOn 23 = .ok (.iconst 1, 1) := by decide +kernel
theorem dX5_goRightOn_24 : decode cX5_goRightOn 24 = .ok (.iadd, 1) := by decide +kernel
theorem dX5_goRightOn_25 : decode cX5_goRightOn 25 = .ok (.putfield 51, 3) := by decide +kernel
theorem dX5_goRightOn_28 : decode cX5_goRightOn 28 = .ok (.return_, 1) := by decide +kernel
theorem dX5_goLeftOn_0 : decode cX5_goLeftOn 0 = .ok (.aload_n 0, 1) := by decide +kernel
theorem dX5_goLeftOn_1 : decode cX5_goLeftOn 1 = .ok (.dup, 1) := by decide +kernel
theorem dX5_goLeftOn_2 : decode cX5_goLeftOn 2 = .ok (.getfield 45, 3) := by decide +kernel
theorem dX5_goLeftOn_5 : decode cX5_goLeftOn 5 = .ok (.aload_n 1, 1) := by decide +kernel
theorem dX5_goLeftOn_6 : decode cX5_goLeftOn 6 = .ok (.getfield 27, 3) := by decide +kernel
theorem dX5_goLeftOn_9 : decode cX5_goLeftOn 9 = .ok (.ior, 1) := by decide +kernel
theorem dX5_goLeftOn_10 : decode cX5_goLeftOn 10 = .ok (.putfield 45, 3) := by decide +kernel
theorem dX5_goLeftOn_13 : decode cX5_goLeftOn 13 = .ok (.aload_n 0, 1) := by decide +kernel
theorem dX5_goLeftOn_14 : decode cX5_goLeftOn 14 = .ok (.dup, 1) := by decide +kernel
theorem dX5_goLeftOn_15 : decode cX5_goLeftOn 15 = .ok (.getfield 48, 3) := by decide +kernel
theorem dX5_goLeftOn_18 : decode cX5_goLeftOn 18 = .ok (.iconst 1, 1) := by decide +kernel
theorem dX5_goLeftOn_19 : decode cX5_goLeftOn 19 = .ok (.iadd, 1) := by decide +kernel
theorem dX5_goLeftOn_20 : decode cX5_goLeftOn 20 = .ok (.putfield 48, 3) := by decide +kernel
theorem dX5_goLeftOn_23 : decode cX5_goLeftOn 23 = .ok (.return_, 1) := by decide +kernel
theorem dX5_turnLeftOn_0 : decode cX5_turnLeftOn 0 = .ok (.aload_n 0, 1) := by decide +kernel
theorem dX5_turnLeftOn_1 : decode cX5_turnLeftOn 1 = .ok (.dup, 1) := by decide +kernel
theorem dX5_turnLeftOn_2 : decode cX5_turnLeftOn 2 = .ok (.getfield 42, 3) := by decide +kernel
theorem dX5_turnLeftOn_5 : decode cX5_turnLeftOn 5 = .ok (.aload_n 1, 1) := by decide +kernel
theorem dX5_turnLeftOn_6 : decode cX5_turnLeftOn 6 = .ok (.getfield 27, 3) := by decide +kernel
theorem dX5_turnLeftOn_9 : decode cX5_turnLeftOn 9 = .ok (.iconst (-1), 1) := by decide +kernel
theorem dX5_turnLeftOn_10 : decode cX5_turnLeftOn 10 = .ok (.ixor, 1) := by decide +kernel
theorem dX5_turnLeftOn_11 : decode cX5_turnLeftOn 11 = .ok (.iand, 1) := by decide +kernel
theorem dX5_turnLeftOn_12 : decode cX5_turnLeftOn 12 = .ok (.putfield 42, 3) := by decide +kernel
theorem dX5_turnLeftOn_15 : decode cX5_turnLeftOn 15 = .ok (.aload_n 0, 1) := by decide +kernel
theorem dX5_turnLeftOn_16 : decode cX5_turnLeftOn 16 = .ok (.dup, 1) := by decide +kernel
theorem dX5_turnLeftOn_17 : decode cX5_turnLeftOn 17 = .ok (.getfield 45, 3) := by decide +kernel
theorem dX5_turnLeftOn_20 : decode cX5_turnLeftOn 20 = .ok (.aload_n 1, 1) := by decide +kernel
theorem dX5_turnLeftOn_21 : decode cX5_turnLeftOn 21 = .ok (.getfield 27, 3) := by decide +kernel
theorem dX5_turnLeftOn_24 : decode cX5_turnLeftOn 24 = .ok (.ior, 1) := by decide +kernel
theorem dX5_turnLeftOn_25 : decode cX5_turnLeftOn 25 = .ok (.putfield 45, 3) := by decide +kernel
theorem dX5_turnLeftOn_28 : decode cX5_turnLeftOn 28 = .ok (.return_, 1) := by decide +kernel
theorem dX5_takeBack_0 : decode cX5_takeBack 0 = .ok (.aload_n 0, 1) := by decide +kernel
theorem dX5_takeBack_1 : decode cX5_takeBack 1 = .ok (.dup, 1) := by decide +kernel
theorem dX5_takeBack_2 : decode cX5_takeBack 2 = .ok (.getfield 42, 3) := by decide +kernel
theorem dX5_takeBack_5 : decode cX5_takeBack 5 = .ok (.aload_n 1, 1) := by decide +kernel
theorem dX5_takeBack_6 : decode cX5_takeBack 6 = .ok (.getfield 27, 3) := by decide +kernel
theorem dX5_takeBack_9 : decode cX5_takeBack 9 = .ok (.iconst (-1), 1) := by decide +kernel
theorem dX5_takeBack_10 : decode cX5_takeBack 10 = .ok (.ixor, 1) := by decide +kernel
theorem dX5_takeBack_11 : decode cX5_takeBack 11 = .ok (.iand, 1) := by decide +kernel
theorem dX5_takeBack_12 : decode cX5_takeBack 12 = .ok (.putfield 42, 3) := by decide +kernel
theorem dX5_takeBack_15 : decode cX5_takeBack 15 = .ok (.aload_n 0, 1) := by decide +kernel
theorem dX5_takeBack_16 : decode cX5_takeBack 16 = .ok (.dup, 1) := by decide +kernel
theorem dX5_takeBack_17 : decode cX5_takeBack 17 = .ok (.getfield 45, 3) := by decide +kernel
theorem dX5_takeBack_20 : decode cX5_takeBack 20 = .ok (.aload_n 1, 1) := by decide +kernel
theorem dX5_takeBack_21 : decode cX5_takeBack 21 = .ok (.getfield 27, 3) := by decide +kernel
theorem dX5_takeBack_24 : decode cX5_takeBack 24 = .ok (.iconst (-1), 1) := by decide +kernel
theorem dX5_takeBack_25 : decode cX5_takeBack 25 = .ok (.ixor, 1) := by decide +kernel
theorem dX5_takeBack_26 : decode cX5_takeBack 26 = .ok (.iand, 1) := by decide +kernel
theorem dX5_takeBack_27 : decode cX5_takeBack 27 = .ok (.putfield 45, 3) := by decide +kernel
theorem dX5_takeBack_30 : decode cX5_takeBack 30 = .ok (.return_, 1) := by decide +kernel
theorem dX6_init_0 : decode cX6_init 0 = .ok (.aload_n 0, 1) := by decide +kernel
theorem dX6_init_1 : decode cX6_init 1 = .ok (.invokespecial 3, 3) := by decide +kernel
theorem dX6_init_4 : decode cX6_init 4 = .ok (.aload_n 0, 1) := by decide +kernel
theorem dX6_init_5 : decode cX6_init 5 = .ok (.bipush 8, 2) := by decide +kernel
theorem dX6_init_7 : decode cX6_init 7 = .ok (.newarray .int, 2) := by decide +kernel
theorem dX6_init_9 : decode cX6_init 9 = .ok (.putfield 9, 3) := by decide +kernel
theorem dX6_init_12 : decode cX6_init 12 = .ok (.aload_n 0, 1) := by decide +kernel
theorem dX6_init_13 : decode cX6_init 13 = .ok (.bipush 8, 2) := by decide +kernel
theorem dX6_init_15 : decode cX6_init 15 = .ok (.newarray .int, 2) := by decide +kernel
theorem dX6_init_17 : decode cX6_init 17 = .ok (.putfield 15, 3) := by decide +kernel
theorem dX6_init_20 : decode cX6_init 20 = .ok (.aload_n 0, 1) := by decide +kernel
theorem dX6_init_21 : decode cX6_init 21 = .ok (.bipush 8, 2) := by decide +kernel
theorem dX6_init_23 : decode cX6_init 23 = .ok (.newarray .boolean, 2) := by decide +kernel
theorem dX6_init_25 : decode cX6_init 25 = .ok (.putfield 18, 3) := by decide +kernel
theorem dX6_init_28 : decode cX6_init 28 = .ok (.return_, 1) := by decide +kernel
theorem dX6_add_0 : decode cX6_add 0 = .ok (.aload_n 0, 1) := by decide +kernel
theorem dX6_add_1 : decode cX6_add 1 = .ok (.getfield 22, 3) := by decide +kernel
theorem dX6_add_4 : decode cX6_add 4 = .ok (.bipush 8, 2) := by decide +kernel
theorem dX6_add_6 : decode cX6_add 6 = .ok (.if_icmp .lt 5, 3) := by decide +kernel
theorem dX6_add_9 : decode cX6_add 9 = .ok (.iconst 0, 1) := by decide +kernel
theorem dX6_add_10 : decode cX6_add 10 = .ok (.ireturn, 1) := by decide +kernel
theorem dX6_add_11 : decode cX6_add 11 = .ok (.aload_n 0, 1) := by decide +kernel
theorem dX6_add_12 : decode cX6_add 12 = .ok (.getfield 9, 3) := by decide +kernel
theorem dX6_add_15 : decode cX6_add 15 = .ok (.aload_n 0, 1) := by decide +kernel
theorem dX6_add_16 : decode cX6_add 16 = .ok (.getfield 22, 3) := by decide +kernel
theorem dX6_add_19 : decode cX6_add 19 = .ok (.iload_n 1, 1) := by decide +kernel
theorem dX6_add_20 : decode cX6_add 20 = .ok (.iastore, 1) := by decide +kernel
theorem dX6_add_21 : decode cX6_add 21 = .ok (.aload_n 0, 1) := by decide +kernel
theorem dX6_add_22 : decode cX6_add 22 = .ok (.getfield 15, 3) := by decide +kernel
theorem dX6_add_25 : decode cX6_add 25 = .ok (.aload_n 0, 1) := by decide +kernel
theorem dX6_add_26 : decode cX6_add 26 = .ok (.getfield 22, 3) := by decide +kernel
theorem dX6_add_29 : decode cX6_add 29 = .ok (.iload_n 2, 1) := by decide +kernel
theorem dX6_add_30 : decode cX6_add 30 = .ok (.iastore, 1) := by decide +kernel
theorem dX6_add_31 : decode cX6_add 31 = .ok (.aload_n 0, 1) := by decide +kernel
theorem dX6_add_32 : decode cX6_add 32 = .ok (.getfield 18, 3) := by decide +kernel
theorem dX6_add_35 : decode cX6_add 35 = .ok (.aload_n 0, 1) := by decide +kernel
theorem dX6_add_36 : decode cX6_add 36 = .ok (.getfield 22, 3) := by decide +kernel
theorem dX6_add_39 : decode cX6_add 39 = .ok (.iload_n 3, 1) := by decide +kernel
theorem dX6_add_40 : decode cX6_add 40 = .ok (.bastore, 1) := by decide +kernel
theorem dX6_add_41 : decode cX6_add 41 = .ok (.aload_n 0, 1) := by decide +kernel
theorem dX6_add_42 : decode cX6_add 42 = .ok (.dup, 1) := by decide +kernel
theorem dX6_add_43 : decode cX6_add 43 = .ok (.getfield 22, 3) := by decide +kernel
theorem dX6_add_46 : decode cX6_add 46 = .ok (.iconst 1, 1) := by decide +kernel
theorem dX6_add_47 : decode cX6_add 47 = .ok (.iadd, 1) := by decide +kernel
theorem dX6_add_48 : decode cX6_add 48 = .ok (.putfield 22, 3) := by decide +kernel
theorem dX6_add_51 : decode cX6_add 51 = .ok (.iconst 1, 1) := by decide +kernel
theorem dX6_add_52 : decode cX6_add 52 = .ok (.ireturn, 1) := by decide +kernel
theorem dX6_clear_0 : decode cX6_clear 0 = .ok (.aload_n 0, 1) := by decide +kernel
theorem dX6_clear_1 : decode cX6_clear 1 = .ok (.iconst 0, 1) := by decide +kernel
theorem dX6_clear_2 : decode cX6_clear 2 = .ok (.putfield 22, 3) := by decide +kernel
theorem dX6_clear_5 : decode cX6_clear 5 = .ok (.return_, 1) := by decide +kernel
theorem dX6_copyFrom_0 : decode cX6_copyFrom 0 = .ok (.aload_n 0, 1) := by decide +kernel
theorem dX6_copyFrom_1 : decode cX6_copyFrom 1 = .ok (.aload_n 1, 1) := by decide +kernel
theorem dX6_copyFrom_2 : decode cX6_copyFrom 2 = .ok (.getfield 22, 3) := by decide +kernel
theorem dX6_copyFrom_5 : decode cX6_copyFrom 5 = .ok (.putfield 22, 3) := by decide +kernel
theorem dX6_copyFrom_8 : decode cX6_copyFrom 8 = .ok (.iconst 0, 1) := by decide +kernel
theorem dX6_copyFrom_9 : decode cX6_copyFrom 9 = .ok (.istore_n 2, 1) := by decide +kernel
theorem dX6_copyFrom_10 : decode cX6_copyFrom 10 = .ok (.iload_n 2, 1) := by decide +kernel
theorem dX6_copyFrom_11 : decode cX6_copyFrom 11 = .ok (.bipush 8, 2) := by decide +kernel
theorem dX6_copyFrom_13 : decode cX6_copyFrom 13 = .ok (.if_icmp .ge 45, 3) := by decide +kernel
theorem dX6_copyFrom_16 : decode cX6_copyFrom 16 = .ok (.aload_n 0, 1) := by decide +kernel
theorem dX6_copyFrom_17 : decode cX6_copyFrom 17 = .ok (.getfield 9, 3) := by decide +kernel
theorem dX6_copyFrom_20 : decode cX6_copyFrom 20 = .ok (.iload_n 2, 1) := by decide +kernel
theorem dX6_copyFrom_21 : decode cX6_copyFrom 21 = .ok (.aload_n 1, 1) := by decide +kernel
theorem dX6_copyFrom_22 : decode cX6_copyFrom 22 = .ok (.getfield 9, 3) := by decide +kernel
theorem dX6_copyFrom_25 : decode cX6_copyFrom 25 = .ok (.iload_n 2, 1) := by decide +kernel
theorem dX6_copyFrom_26 : decode cX6_copyFrom 26 = .ok (.iaload, 1) := by decide +kernel
theorem dX6_copyFrom_27 : decode cX6_copyFrom 27 = .ok (.iastore, 1) := by decide +kernel
theorem dX6_copyFrom_28 : decode cX6_copyFrom 28 = .ok (.aload_n 0, 1) := by decide +kernel
theorem dX6_copyFrom_29 : decode cX6_copyFrom 29 = .ok (.getfield 15, 3) := by decide +kernel
theorem dX6_copyFrom_32 : decode cX6_copyFrom 32 = .ok (.iload_n 2, 1) := by decide +kernel
theorem dX6_copyFrom_33 : decode cX6_copyFrom 33 = .ok (.aload_n 1, 1) := by decide +kernel
theorem dX6_copyFrom_34 : decode cX6_copyFrom 34 = .ok (.getfield 15, 3) := by decide +kernel
theorem dX6_copyFrom_37 : decode cX6_copyFrom 37 = .ok (.iload_n 2, 1) := by decide +kernel
theorem dX6_copyFrom_38 : decode cX6_copyFrom 38 = .ok (.iaload, 1) := by decide +kernel
theorem dX6_copyFrom_39 : decode cX6_copyFrom 39 = .ok (.iastore, 1) := by decide +kernel
theorem dX6_copyFrom_40 : decode cX6_copyFrom 40 = .ok (.aload_n 0, 1) := by decide +kernel
theorem dX6_copyFrom_41 : decode cX6_copyFrom 41 = .ok (.getfield 18, 3) := by decide +kernel
theorem dX6_copyFrom_44 : decode cX6_copyFrom 44 = .ok (.iload_n 2, 1) := by decide +kernel
theorem dX6_copyFrom_45 : decode cX6_copyFrom 45 = .ok (.aload_n 1, 1) := by decide +kernel
theorem dX6_copyFrom_46 : decode cX6_copyFrom 46 = .ok (.getfield 18, 3) := by decide +kernel
theorem dX6_copyFrom_49 : decode cX6_copyFrom 49 = .ok (.iload_n 2, 1) := by decide +kernel
theorem dX6_copyFrom_50 : decode cX6_copyFrom 50 = .ok (.baload, 1) := by decide +kernel
theorem dX6_copyFrom_51 : decode cX6_copyFrom 51 = .ok (.bastore, 1) := by decide +kernel
theorem dX6_copyFrom_52 : decode cX6_copyFrom 52 = .ok (.iinc 2 1, 3) := by decide +kernel
theorem dX6_copyFrom_55 : decode cX6_copyFrom 55 = .ok (.goto (-45), 3) := by decide +kernel
theorem dX6_copyFrom_58 : decode cX6_copyFrom 58 = .ok (.return_, 1) := by decide +kernel
theorem dX6_choosiesOf_0 : decode cX6_choosiesOf 0 = .ok (.iconst 0, 1) := by decide +kernel
theorem dX6_choosiesOf_1 : decode cX6_choosiesOf 1 = .ok (.istore_n 3, 1) := by decide +kernel
theorem dX6_choosiesOf_2 : decode cX6_choosiesOf 2 = .ok (.iconst 0, 1) := by decide +kernel
theorem dX6_choosiesOf_3 : decode cX6_choosiesOf 3 = .ok (.istore 4, 2) := by decide +kernel
theorem dX6_choosiesOf_5 : decode cX6_choosiesOf 5 = .ok (.iload 4, 2) := by decide +kernel
theorem dX6_choosiesOf_7 : decode cX6_choosiesOf 7 = .ok (.bipush 9, 2) := by decide +kernel
theorem dX6_choosiesOf_9 : decode cX6_choosiesOf 9 = .ok (.if_icmp .gt 27, 3) := by decide +kernel
theorem dX6_choosiesOf_12 : decode cX6_choosiesOf 12 = .ok (.aload_n 0, 1) := by decide +kernel
theorem dX6_choosiesOf_13 : decode cX6_choosiesOf 13 = .ok (.aload_n 1, 1) := by decide +kernel
theorem dX6_choosiesOf_14 : decode cX6_choosiesOf 14 = .ok (.iload 4, 2) := by decide +kernel
theorem dX6_choosiesOf_16 : decode cX6_choosiesOf 16 = .ok (.aload_n 2, 1) := by decide +kernel
theorem dX6_choosiesOf_17 : decode cX6_choosiesOf 17 = .ok (.invokevirtual 26, 3) := by decide +kernel
theorem dX6_choosiesOf_20 : decode cX6_choosiesOf 20 = .ok (.ifCond .eq 10, 3) := by decide +kernel
theorem dX6_choosiesOf_23 : decode cX6_choosiesOf 23 = .ok (.iload_n 3, 1) := by decide +kernel
theorem dX6_choosiesOf_24 : decode cX6_choosiesOf 24 = .ok (.iconst 1, 1) := by decide +kernel
theorem dX6_choosiesOf_25 : decode cX6_choosiesOf 25 = .ok (.iload 4, 2) := by decide +kernel
theorem dX6_choosiesOf_27 : decode cX6_choosiesOf 27 = .ok (.ishl, 1) := by decide +kernel
theorem dX6_choosiesOf_28 : decode cX6_choosiesOf 28 = .ok (.ior, 1) := by decide +kernel
theorem dX6_choosiesOf_29 : decode cX6_choosiesOf 29 = .ok (.istore_n 3, 1) := by decide +kernel
theorem dX6_choosiesOf_30 : decode cX6_choosiesOf 30 = .ok (.iinc 4 1, 3) := by decide +kernel
theorem dX6_choosiesOf_33 : decode cX6_choosiesOf 33 = .ok (.goto (-28), 3) := by decide +kernel
theorem dX6_choosiesOf_36 : decode cX6_choosiesOf 36 = .ok (.iload_n 3, 1) := by decide +kernel
theorem dX6_choosiesOf_37 : decode cX6_choosiesOf 37 = .ok (.ireturn, 1) := by decide +kernel
theorem dX6_isSoFor_0 : decode cX6_isSoFor 0 = .ok (.iconst 0, 1) := by decide +kernel
theorem dX6_isSoFor_1 : decode cX6_isSoFor 1 = .ok (.istore 4, 2) := by decide +kernel
theorem dX6_isSoFor_3 : decode cX6_isSoFor 3 = .ok (.iload 4, 2) := by decide +kernel
theorem dX6_isSoFor_5 : decode cX6_isSoFor 5 = .ok (.aload_n 0, 1) := by decide +kernel
theorem dX6_isSoFor_6 : decode cX6_isSoFor 6 = .ok (.getfield 22, 3) := by decide +kernel
theorem dX6_isSoFor_9 : decode cX6_isSoFor 9 = .ok (.if_icmp .ge 68, 3) := by decide +kernel
theorem dX6_isSoFor_12 : decode cX6_isSoFor 12 = .ok (.aload_n 0, 1) := by decide +kernel
theorem dX6_isSoFor_13 : decode cX6_isSoFor 13 = .ok (.getfield 15, 3) := by decide +kernel
theorem dX6_isSoFor_16 : decode cX6_isSoFor 16 = .ok (.iload 4, 2) := by decide +kernel
theorem dX6_isSoFor_18 : decode cX6_isSoFor 18 = .ok (.iaload, 1) := by decide +kernel
theorem dX6_isSoFor_19 : decode cX6_isSoFor 19 = .ok (.istore 5, 2) := by decide +kernel
theorem dX6_isSoFor_21 : decode cX6_isSoFor 21 = .ok (.aload_n 0, 1) := by decide +kernel
theorem dX6_isSoFor_22 : decode cX6_isSoFor 22 = .ok (.getfield 9, 3) := by decide +kernel
theorem dX6_isSoFor_25 : decode cX6_isSoFor 25 = .ok (.iload 4, 2) := by decide +kernel
theorem dX6_isSoFor_27 : decode cX6_isSoFor 27 = .ok (.iaload, 1) := by decide +kernel
theorem dX6_isSoFor_28 : decode cX6_isSoFor 28 = .ok (.aload_n 1, 1) := by decide +kernel
theorem dX6_isSoFor_29 : decode cX6_isSoFor 29 = .ok (.getfield 30, 3) := by decide +kernel
theorem dX6_isSoFor_32 : decode cX6_isSoFor 32 = .ok (.if_icmp .ne 39, 3) := by decide +kernel
theorem dX6_isSoFor_35 : decode cX6_isSoFor 35 = .ok (.iload 5, 2) := by decide +kernel
theorem dX6_isSoFor_37 : decode cX6_isSoFor 37 = .ok (.ifCond .lt 34, 3) := by decide +kernel
theorem dX6_isSoFor_40 : decode cX6_isSoFor 40 = .ok (.iload 5, 2) := by decide +kernel
theorem dX6_isSoFor_42 : decode cX6_isSoFor 42 = .ok (.aload_n 3, 1) := by decide +kernel
theorem dX6_isSoFor_43 : decode cX6_isSoFor 43 = .ok (.arraylength, 1) := by decide +kernel
theorem dX6_isSoFor_44 : decode cX6_isSoFor 44 = .ok (.if_icmp .ge 27, 3) := by decide +kernel
theorem dX6_isSoFor_47 : decode cX6_isSoFor 47 = .ok (.aload_n 1, 1) := by decide +kernel
theorem dX6_isSoFor_48 : decode cX6_isSoFor 48 = .ok (.iload_n 2, 1) := by decide +kernel
theorem dX6_isSoFor_49 : decode cX6_isSoFor 49 = .ok (.aload_n 3, 1) := by decide +kernel
theorem dX6_isSoFor_50 : decode cX6_isSoFor 50 = .ok (.iload 5, 2) := by decide +kernel
theorem dX6_isSoFor_52 : decode cX6_isSoFor 52 = .ok (.aaload, 1) := by decide +kernel
theorem dX6_isSoFor_53 : decode cX6_isSoFor 53 = .ok (.invokevirtual 35, 3) := by decide +kernel
theorem dX6_isSoFor_56 : decode cX6_isSoFor 56 = .ok (.invokevirtual 39, 3) := by decide +kernel
theorem dX6_isSoFor_59 : decode cX6_isSoFor 59 = .ok (.aload_n 0, 1) := by decide +kernel
theorem dX6_isSoFor_60 : decode cX6_isSoFor 60 = .ok (.getfield 18, 3) := by decide +kernel
theorem dX6_isSoFor_63 : decode cX6_isSoFor 63 = .ok (.iload 4, 2) := by decide +kernel
theorem dX6_isSoFor_65 : decode cX6_isSoFor 65 = .ok (.baload, 1) := by decide +kernel
theorem dX6_isSoFor_66 : decode cX6_isSoFor 66 = .ok (.if_icmp .eq 5, 3) := by decide +kernel
theorem dX6_isSoFor_69 : decode cX6_isSoFor 69 = .ok (.iconst 0, 1) := by decide +kernel
theorem dX6_isSoFor_70 : decode cX6_isSoFor 70 = .ok (.ireturn, 1) := by decide +kernel
theorem dX6_isSoFor_71 : decode cX6_isSoFor 71 = .ok (.iinc 4 1, 3) := by decide +kernel
theorem dX6_isSoFor_74 : decode cX6_isSoFor 74 = .ok (.goto (-71), 3) := by decide +kernel
theorem dX6_isSoFor_77 : decode cX6_isSoFor 77 = .ok (.iconst 1, 1) := by decide +kernel
theorem dX6_isSoFor_78 : decode cX6_isSoFor 78 = .ok (.ireturn, 1) := by decide +kernel
theorem dX7_init_0 : decode cX7_init 0 = .ok (.aload_n 0, 1) := by decide +kernel
theorem dX7_init_1 : decode cX7_init 1 = .ok (.invokespecial 3, 3) := by decide +kernel
theorem dX7_init_4 : decode cX7_init 4 = .ok (.aload_n 0, 1) := by decide +kernel
theorem dX7_init_5 : decode cX7_init 5 = .ok (.new 9, 3) := by decide +kernel
theorem dX7_init_8 : decode cX7_init 8 = .ok (.dup, 1) := by decide +kernel
theorem dX7_init_9 : decode cX7_init 9 = .ok (.invokespecial 11, 3) := by decide +kernel
theorem dX7_init_12 : decode cX7_init 12 = .ok (.putfield 12, 3) := by decide +kernel
theorem dX7_init_15 : decode cX7_init 15 = .ok (.aload_n 0, 1) := by decide +kernel
theorem dX7_init_16 : decode cX7_init 16 = .ok (.bipush 8, 2) := by decide +kernel
theorem dX7_init_18 : decode cX7_init 18 = .ok (.newarray .int, 2) := by decide +kernel
theorem dX7_init_20 : decode cX7_init 20 = .ok (.putfield 18, 3) := by decide +kernel
theorem dX7_init_23 : decode cX7_init 23 = .ok (.return_, 1) := by decide +kernel
theorem dX7_isDays_0 : decode cX7_isDays 0 = .ok (.iload_n 0, 1) := by decide +kernel
theorem dX7_isDays_1 : decode cX7_isDays 1 = .ok (.iconst 1, 1) := by decide +kernel
theorem dX7_isDays_2 : decode cX7_isDays 2 = .ok (.bipush 8, 2) := by decide +kernel
theorem dX7_isDays_4 : decode cX7_isDays 4 = .ok (.invokestatic 22, 3) := by decide +kernel
theorem dX7_isDays_7 : decode cX7_isDays 7 = .ok (.ireturn, 1) := by decide +kernel
theorem dX7_isOrder_0 : decode cX7_isOrder 0 = .ok (.iload_n 0, 1) := by decide +kernel
theorem dX7_isOrder_1 : decode cX7_isOrder 1 = .ok (.iconst 0, 1) := by decide +kernel
theorem dX7_isOrder_2 : decode cX7_isOrder 2 = .ok (.iconst 1, 1) := by decide +kernel
theorem dX7_isOrder_3 : decode cX7_isOrder 3 = .ok (.invokestatic 22, 3) := by decide +kernel
theorem dX7_isOrder_6 : decode cX7_isOrder 6 = .ok (.ireturn, 1) := by decide +kernel
theorem dX7_bestLimit_0 : decode cX7_bestLimit 0 = .ok (.iconst 1, 1) := by decide +kernel
theorem dX7_bestLimit_1 : decode cX7_bestLimit 1 = .ok (.istore 4, 2) := by decide +kernel
theorem dX7_bestLimit_3 : decode cX7_bestLimit 3 = .ok (.aload_n 0, 1) := by decide +kernel
theorem dX7_bestLimit_4 : decode cX7_bestLimit 4 = .ok (.aload_n 1, 1) := by decide +kernel
theorem dX7_bestLimit_5 : decode cX7_bestLimit 5 = .ok (.iload_n 2, 1) := by decide +kernel
theorem dX7_bestLimit_6 : decode cX7_bestLimit 6 = .ok (.iconst 1, 1) := by decide +kernel
theorem dX7_bestLimit_7 : decode cX7_bestLimit 7 = .ok (.iload_n 3, 1) := by decide +kernel
theorem dX7_bestLimit_8 : decode cX7_bestLimit 8 = .ok (.invokevirtual 26, 3) := by decide +kernel
theorem dX7_bestLimit_11 : decode cX7_bestLimit 11 = .ok (.istore 5, 2) := by decide +kernel
theorem dX7_bestLimit_13 : decode cX7_bestLimit 13 = .ok (.iconst 2, 1) := by decide +kernel
theorem dX7_bestLimit_14 : decode cX7_bestLimit 14 = .ok (.istore 6, 2) := by decide +kernel
theorem dX7_bestLimit_16 : decode cX7_bestLimit 16 = .ok (.iload 6, 2) := by decide +kernel
theorem dX7_bestLimit_18 : decode cX7_bestLimit 18 = .ok (.bipush 9, 2) := by decide +kernel
theorem dX7_bestLimit_20 : decode cX7_bestLimit 20 = .ok (.if_icmp .gt 35, 3) := by decide +kernel
theorem dX7_bestLimit_23 : decode cX7_bestLimit 23 = .ok (.aload_n 0, 1) := by decide +kernel
theorem dX7_bestLimit_24 : decode cX7_bestLimit 24 = .ok (.aload_n 1, 1) := by decide +kernel
theorem dX7_bestLimit_25 : decode cX7_bestLimit 25 = .ok (.iload_n 2, 1) := by decide +kernel
theorem dX7_bestLimit_26 : decode cX7_bestLimit 26 = .ok (.iload 6, 2) := by decide +kernel
theorem dX7_bestLimit_28 : decode cX7_bestLimit 28 = .ok (.iload_n 3, 1) := by decide +kernel
theorem dX7_bestLimit_29 : decode cX7_bestLimit 29 = .ok (.invokevirtual 26, 3) := by decide +kernel
theorem dX7_bestLimit_32 : decode cX7_bestLimit 32 = .ok (.istore 7, 2) := by decide +kernel
theorem dX7_bestLimit_34 : decode cX7_bestLimit 34 = .ok (.iload 7, 2) := by decide +kernel
theorem dX7_bestLimit_36 : decode cX7_bestLimit 36 = .ok (.iload 5, 2) := by decide +kernel
theorem dX7_bestLimit_38 : decode cX7_bestLimit 38 = .ok (.if_icmp .le 11, 3) := by decide +kernel
theorem dX7_bestLimit_41 : decode cX7_bestLimit 41 = .ok (.iload 7, 2) := by decide +kernel
theorem dX7_bestLimit_43 : decode cX7_bestLimit 43 = .ok (.istore 5, 2) := by decide +kernel
theorem dX7_bestLimit_45 : decode cX7_bestLimit 45 = .ok (.iload 6, 2) := by decide +kernel
theorem dX7_bestLimit_47 : decode cX7_bestLimit 47 = .ok (.istore 4, 2) := by decide +kernel
theorem dX7_bestLimit_49 : decode cX7_bestLimit 49 = .ok (.iinc 6 1, 3) := by decide +kernel
theorem dX7_bestLimit_52 : decode cX7_bestLimit 52 = .ok (.goto (-36), 3) := by decide +kernel
theorem dX7_bestLimit_55 : decode cX7_bestLimit 55 = .ok (.iload 4, 2) := by decide +kernel
theorem dX7_bestLimit_57 : decode cX7_bestLimit 57 = .ok (.ireturn, 1) := by decide +kernel
theorem dX7_matchesAfter_0 : decode cX7_matchesAfter 0 = .ok (.aload_n 0, 1) := by decide +kernel
theorem dX7_matchesAfter_1 : decode cX7_matchesAfter 1 = .ok (.getfield 12, 3) := by decide +kernel
theorem dX7_matchesAfter_4 : decode cX7_matchesAfter 4 = .ok (.aload_n 1, 1) := by decide +kernel
theorem dX7_matchesAfter_5 : decode cX7_matchesAfter 5 = .ok (.invokevirtual 30, 3) := by decide +kernel
theorem dX7_matchesAfter_8 : decode cX7_matchesAfter 8 = .ok (.aload_n 0, 1) := by decide +kernel
theorem dX7_matchesAfter_9 : decode cX7_matchesAfter 9 = .ok (.getfield 12, 3) := by decide +kernel
theorem dX7_matchesAfter_12 : decode cX7_matchesAfter 12 = .ok (.invokevirtual 34, 3) := by decide +kernel
theorem dX7_matchesAfter_15 : decode cX7_matchesAfter 15 = .ok (.aload_n 0, 1) := by decide +kernel
theorem dX7_matchesAfter_16 : decode cX7_matchesAfter 16 = .ok (.getfield 12, 3) := by decide +kernel
theorem dX7_matchesAfter_19 : decode cX7_matchesAfter 19 = .ok (.iload_n 3, 1) := by decide +kernel
theorem dX7_matchesAfter_20 : decode cX7_matchesAfter 20 = .ok (.putfield 37, 3) := by decide +kernel
theorem dX7_matchesAfter_23 : decode cX7_matchesAfter 23 = .ok (.aload_n 0, 1) := by decide +kernel
theorem dX7_matchesAfter_24 : decode cX7_matchesAfter 24 = .ok (.getfield 12, 3) := by decide +kernel
theorem dX7_matchesAfter_27 : decode cX7_matchesAfter 27 = .ok (.aload_n 0, 1) := by decide +kernel
theorem dX7_matchesAfter_28 : decode cX7_matchesAfter 28 = .ok (.getfield 18, 3) := by decide +kernel
theorem dX7_matchesAfter_31 : decode cX7_matchesAfter 31 = .ok (.iload 4, 2) := by decide +kernel
theorem dX7_matchesAfter_33 : decode cX7_matchesAfter 33 = .ok (.iconst 1, 1) := by decide +kernel
theorem dX7_matchesAfter_34 : decode cX7_matchesAfter 34 = .ok (.if_icmp .ne 7, 3) := by decide +kernel
theorem dX7_matchesAfter_37 : decode cX7_matchesAfter 37 = .ok (.iconst 1, 1) := by decide +kernel
theorem dX7_matchesAfter_38 : decode cX7_matchesAfter 38 = .ok (.goto 4, 3) := by decide +kernel
theorem dX7_matchesAfter_41 : decode cX7_matchesAfter 41 = .ok (.iconst 0, 1) := by decide +kernel
theorem dX7_matchesAfter_42 : decode cX7_matchesAfter 42 = .ok (.invokevirtual 41, 3) := by decide +kernel
theorem dX7_matchesAfter_45 : decode cX7_matchesAfter 45 = .ok (.iconst 0, 1) := by decide +kernel
theorem dX7_matchesAfter_46 : decode cX7_matchesAfter 46 = .ok (.istore 5, 2) := by decide +kernel
theorem dX7_matchesAfter_48 : decode cX7_matchesAfter 48 = .ok (.iload 5, 2) := by decide +kernel
theorem dX7_matchesAfter_50 : decode cX7_matchesAfter 50 = .ok (.iload_n 2, 1) := by decide +kernel
theorem dX7_matchesAfter_51 : decode cX7_matchesAfter 51 = .ok (.if_icmp .ge 51, 3) := by decide +kernel
theorem dX7_matchesAfter_54 : decode cX7_matchesAfter 54 = .ok (.aload_n 0, 1) := by decide +kernel
theorem dX7_matchesAfter_55 : decode cX7_matchesAfter 55 = .ok (.getfield 12, 3) := by decide +kernel
theorem dX7_matchesAfter_58 : decode cX7_matchesAfter 58 = .ok (.invokevirtual 45, 3) := by decide +kernel
theorem dX7_matchesAfter_61 : decode cX7_matchesAfter 61 = .ok (.iconst 0, 1) := by decide +kernel
theorem dX7_matchesAfter_62 : decode cX7_matchesAfter 62 = .ok (.istore 6, 2) := by decide +kernel
theorem dX7_matchesAfter_64 : decode cX7_matchesAfter 64 = .ok (.iload 6, 2) := by decide +kernel
theorem dX7_matchesAfter_66 : decode cX7_matchesAfter 66 = .ok (.aload_n 0, 1) := by decide +kernel
theorem dX7_matchesAfter_67 : decode cX7_matchesAfter 67 = .ok (.getfield 12, 3) := by decide +kernel
theorem dX7_matchesAfter_70 : decode cX7_matchesAfter 70 = .ok (.getfield 48, 3) := by decide +kernel
theorem dX7_matchesAfter_73 : decode cX7_matchesAfter 73 = .ok (.if_icmp .ge 23, 3) := by decide +kernel
theorem dX7_matchesAfter_76 : decode cX7_matchesAfter 76 = .ok (.aload_n 0, 1) := by decide +kernel
theorem dX7_matchesAfter_77 : decode cX7_matchesAfter 77 = .ok (.aload_n 0, 1) := by decide +kernel
theorem dX7_matchesAfter_78 : decode cX7_matchesAfter 78 = .ok (.getfield 12, 3) := by decide +kernel
theorem dX7_matchesAfter_81 : decode cX7_matchesAfter 81 = .ok (.getfield 51, 3) := by decide +kernel
theorem dX7_matchesAfter_84 : decode cX7_matchesAfter 84 = .ok (.iload 6, 2) := by decide +kernel
theorem dX7_matchesAfter_86 : decode cX7_matchesAfter 86 = .ok (.aaload, 1) := by decide +kernel
theorem dX7_matchesAfter_87 : decode cX7_matchesAfter 87 = .ok (.invokevirtual 55, 3) := by decide +kernel
theorem dX7_matchesAfter_90 : decode cX7_matchesAfter 90 = .ok (.iinc 6 1, 3) := by decide +kernel
theorem dX7_matchesAfter_93 : decode cX7_matchesAfter 93 = .ok (.goto (-29), 3) := by decide +kernel
theorem dX7_matchesAfter_96 : decode cX7_matchesAfter 96 = .ok (.iinc 5 1, 3) := by decide +kernel
theorem dX7_matchesAfter_99 : decode cX7_matchesAfter 99 = .ok (.goto (-51), 3) := by decide +kernel
theorem dX7_matchesAfter_102 : decode cX7_matchesAfter 102 = .ok (.aload_n 0, 1) := by decide +kernel
theorem dX7_matchesAfter_103 : decode cX7_matchesAfter 103 = .ok (.getfield 12, 3) := by decide +kernel
theorem dX7_matchesAfter_106 : decode cX7_matchesAfter 106 = .ok (.invokevirtual 59, 3) := by decide +kernel
theorem dX7_matchesAfter_109 : decode cX7_matchesAfter 109 = .ok (.ireturn, 1) := by decide +kernel
theorem dX7_showNextTo_0 : decode cX7_showNextTo 0 = .ok (.iconst 0, 1) := by decide +kernel
theorem dX7_showNextTo_1 : decode cX7_showNextTo 1 = .ok (.istore_n 2, 1) := by decide +kernel
theorem dX7_showNextTo_2 : decode cX7_showNextTo 2 = .ok (.iconst 0, 1) := by decide +kernel
theorem dX7_showNextTo_3 : decode cX7_showNextTo 3 = .ok (.istore_n 3, 1) := by decide +kernel
theorem dX7_showNextTo_4 : decode cX7_showNextTo 4 = .ok (.iload_n 3, 1) := by decide +kernel
theorem dX7_showNextTo_5 : decode cX7_showNextTo 5 = .ok (.aload_n 0, 1) := by decide +kernel
theorem dX7_showNextTo_6 : decode cX7_showNextTo 6 = .ok (.getfield 12, 3) := by decide +kernel
theorem dX7_showNextTo_9 : decode cX7_showNextTo 9 = .ok (.getfield 48, 3) := by decide +kernel
theorem dX7_showNextTo_12 : decode cX7_showNextTo 12 = .ok (.if_icmp .ge 53, 3) := by decide +kernel
theorem dX7_showNextTo_15 : decode cX7_showNextTo 15 = .ok (.iload_n 2, 1) := by decide +kernel
theorem dX7_showNextTo_16 : decode cX7_showNextTo 16 = .ok (.iconst 3, 1) := by decide +kernel
theorem dX7_showNextTo_17 : decode cX7_showNextTo 17 = .ok (.if_icmp .ge 48, 3) := by decide +kernel
theorem dX7_showNextTo_20 : decode cX7_showNextTo 20 = .ok (.aload_n 0, 1) := by decide +kernel
theorem dX7_showNextTo_21 : decode cX7_showNextTo 21 = .ok (.getfield 12, 3) := by decide +kernel
theorem dX7_showNextTo_24 : decode cX7_showNextTo 24 = .ok (.getfield 51, 3) := by decide +kernel
theorem dX7_showNextTo_27 : decode cX7_showNextTo 27 = .ok (.aload_n 0, 1) := by decide +kernel
theorem dX7_showNextTo_28 : decode cX7_showNextTo 28 = .ok (.getfield 18, 3) := by decide +kernel
theorem dX7_showNextTo_31 : decode cX7_showNextTo 31 = .ok (.iload_n 3, 1) := by decide +kernel
theorem dX7_showNextTo_32 : decode cX7_showNextTo 32 = .ok (.iaload, 1) := by decide +kernel
theorem dX7_showNextTo_33 : decode cX7_showNextTo 33 = .ok (.aaload, 1) := by decide +kernel
theorem dX7_showNextTo_34 : decode cX7_showNextTo 34 = .ok (.astore 4, 2) := by decide +kernel
theorem dX7_showNextTo_36 : decode cX7_showNextTo 36 = .ok (.aload_n 1, 1) := by decide +kernel
theorem dX7_showNextTo_37 : decode cX7_showNextTo 37 = .ok (.aload 4, 2) := by decide +kernel
theorem dX7_showNextTo_39 : decode cX7_showNextTo 39 = .ok (.invokevirtual 63, 3) := by decide +kernel
theorem dX7_showNextTo_42 : decode cX7_showNextTo 42 = .ok (.ifCond .eq 17, 3) := by decide +kernel
theorem dX7_showNextTo_45 : decode cX7_showNextTo 45 = .ok (.aload_n 0, 1) := by decide +kernel
theorem dX7_showNextTo_46 : decode cX7_showNextTo 46 = .ok (.getfield 12, 3) := by decide +kernel
theorem dX7_showNextTo_49 : decode cX7_showNextTo 49 = .ok (.aload_n 1, 1) := by decide +kernel
theorem dX7_showNextTo_50 : decode cX7_showNextTo 50 = .ok (.aload 4, 2) := by decide +kernel
theorem dX7_showNextTo_52 : decode cX7_showNextTo 52 = .ok (.invokevirtual 69, 3) := by decide +kernel
theorem dX7_showNextTo_55 : decode cX7_showNextTo 55 = .ok (.pop, 1) := by decide +kernel
theorem dX7_showNextTo_56 : decode cX7_showNextTo 56 = .ok (.iinc 2 1, 3) := by decide +kernel
theorem dX7_showNextTo_59 : decode cX7_showNextTo 59 = .ok (.iinc 3 1, 3) := by decide +kernel
theorem dX7_showNextTo_62 : decode cX7_showNextTo 62 = .ok (.goto (-58), 3) := by decide +kernel
theorem dX7_showNextTo_65 : decode cX7_showNextTo 65 = .ok (.return_, 1) := by decide +kernel
theorem dX8_isOthers_0 : decode cX8_isOthers 0 = .ok (.iload_n 0, 1) := by decide +kernel
theorem dX8_isOthers_1 : decode cX8_isOthers 1 = .ok (.iconst 2, 1) := by decide +kernel
theorem dX8_isOthers_2 : decode cX8_isOthers 2 = .ok (.bipush 8, 2) := by decide +kernel
theorem dX8_isOthers_4 : decode cX8_isOthers 4 = .ok (.invokestatic 9, 3) := by decide +kernel
theorem dX8_isOthers_7 : decode cX8_isOthers 7 = .ok (.ireturn, 1) := by decide +kernel
theorem dX8_partsOfAll_0 : decode cX8_partsOfAll 0 = .ok (.iload_n 0, 1) := by decide +kernel
theorem dX8_partsOfAll_1 : decode cX8_partsOfAll 1 = .ok (.sipush 420, 3) := by decide +kernel
theorem dX8_partsOfAll_4 : decode cX8_partsOfAll 4 = .ok (.imul, 1) := by decide +kernel
theorem dX8_partsOfAll_5 : decode cX8_partsOfAll 5 = .ok (.ireturn, 1) := by decide +kernel
theorem dX8_partsOfBest_0 : decode cX8_partsOfBest 0 = .ok (.iload_n 1, 1) := by decide +kernel
theorem dX8_partsOfBest_1 : decode cX8_partsOfBest 1 = .ok (.ifCond .ne 7, 3) := by decide +kernel
theorem dX8_partsOfBest_4 : decode cX8_partsOfBest 4 = .ok (.sipush 420, 3) := by decide +kernel
theorem dX8_partsOfBest_7 : decode cX8_partsOfBest 7 = .ok (.ireturn, 1) := by decide +kernel
theorem dX8_partsOfBest_8 : decode cX8_partsOfBest 8 = .ok (.iconst 0, 1) := by decide +kernel
theorem dX8_partsOfBest_9 : decode cX8_partsOfBest 9 = .ok (.istore_n 2, 1) := by decide +kernel
theorem dX8_partsOfBest_10 : decode cX8_partsOfBest 10 = .ok (.iconst 1, 1) := by decide +kernel
theorem dX8_partsOfBest_11 : decode cX8_partsOfBest 11 = .ok (.istore_n 3, 1) := by decide +kernel
theorem dX8_partsOfBest_12 : decode cX8_partsOfBest 12 = .ok (.iload_n 3, 1) := by decide +kernel
theorem dX8_partsOfBest_13 : decode cX8_partsOfBest 13 = .ok (.iload_n 0, 1) := by decide +kernel
theorem dX8_partsOfBest_14 : decode cX8_partsOfBest 14 = .ok (.if_icmp .ge 28, 3) := by decide +kernel
theorem dX8_partsOfBest_17 : decode cX8_partsOfBest 17 = .ok (.iload_n 2, 1) := by decide +kernel
theorem dX8_partsOfBest_18 : decode cX8_partsOfBest 18 = .ok (.iload_n 3, 1) := by decide +kernel
theorem dX8_partsOfBest_19 : decode cX8_partsOfBest 19 = .ok (.iload_n 1, 1) := by decide +kernel
theorem dX8_partsOfBest_20 : decode cX8_partsOfBest 20 = .ok (.if_icmp .lt 13, 3) := by decide +kernel
theorem dX8_partsOfBest_23 : decode cX8_partsOfBest 23 = .ok (.iload_n 1, 1) := by decide +kernel
theorem dX8_partsOfBest_24 : decode cX8_partsOfBest 24 = .ok (.sipush 420, 3) := by decide +kernel
theorem dX8_partsOfBest_27 : decode cX8_partsOfBest 27 = .ok (.imul, 1) := by decide +kernel
theorem dX8_partsOfBest_28 : decode cX8_partsOfBest 28 = .ok (.iload_n 3, 1) := by decide +kernel
theorem dX8_partsOfBest_29 : decode cX8_partsOfBest 29 = .ok (.idiv, 1) := by decide +kernel
theorem dX8_partsOfBest_30 : decode cX8_partsOfBest 30 = .ok (.goto 4, 3) := by decide +kernel
theorem dX8_partsOfBest_33 : decode cX8_partsOfBest 33 = .ok (.iconst 0, 1) := by decide +kernel
theorem dX8_partsOfBest_34 : decode cX8_partsOfBest 34 = .ok (.iadd, 1) := by decide +kernel
theorem dX8_partsOfBest_35 : decode cX8_partsOfBest 35 = .ok (.istore_n 2, 1) := by decide +kernel
theorem dX8_partsOfBest_36 : decode cX8_partsOfBest 36 = .ok (.iinc 3 1, 3) := by decide +kernel
theorem dX8_partsOfBest_39 : decode cX8_partsOfBest 39 = .ok (.goto (-27), 3) := by decide +kernel
theorem dX8_partsOfBest_42 : decode cX8_partsOfBest 42 = .ok (.iload_n 2, 1) := by decide +kernel
theorem dX8_partsOfBest_43 : decode cX8_partsOfBest 43 = .ok (.ireturn, 1) := by decide +kernel
theorem dX8_likeliest_0 : decode cX8_likeliest 0 = .ok (.iconst 0, 1) := by decide +kernel
theorem dX8_likeliest_1 : decode cX8_likeliest 1 = .ok (.istore_n 1, 1) := by decide +kernel
theorem dX8_likeliest_2 : decode cX8_likeliest 2 = .ok (.iconst 1, 1) := by decide +kernel
theorem dX8_likeliest_3 : decode cX8_likeliest 3 = .ok (.istore_n 2, 1) := by decide +kernel
theorem dX8_likeliest_4 : decode cX8_likeliest 4 = .ok (.iload_n 2, 1) := by decide +kernel
theorem dX8_likeliest_5 : decode cX8_likeliest 5 = .ok (.iload_n 0, 1) := by decide +kernel
theorem dX8_likeliest_6 : decode cX8_likeliest 6 = .ok (.if_icmp .ge 24, 3) := by decide +kernel
theorem dX8_likeliest_9 : decode cX8_likeliest 9 = .ok (.iload_n 0, 1) := by decide +kernel
theorem dX8_likeliest_10 : decode cX8_likeliest 10 = .ok (.iload_n 2, 1) := by decide +kernel
theorem dX8_likeliest_11 : decode cX8_likeliest 11 = .ok (.invokestatic 15, 3) := by decide +kernel
theorem dX8_likeliest_14 : decode cX8_likeliest 14 = .ok (.iload_n 0, 1) := by decide +kernel
theorem dX8_likeliest_15 : decode cX8_likeliest 15 = .ok (.iload_n 1, 1) := by decide +kernel
theorem dX8_likeliest_16 : decode cX8_likeliest 16 = .ok (.invokestatic 15, 3) := by decide +kernel
theorem dX8_likeliest_19 : decode cX8_likeliest 19 = .ok (.if_icmp .le 5, 3) := by decide +kernel
theorem dX8_likeliest_22 : decode cX8_likeliest 22 = .ok (.iload_n 2, 1) := by decide +kernel
theorem dX8_likeliest_23 : decode cX8_likeliest 23 = .ok (.istore_n 1, 1) := by decide +kernel
theorem dX8_likeliest_24 : decode cX8_likeliest 24 = .ok (.iinc 2 1, 3) := by decide +kernel
theorem dX8_likeliest_27 : decode cX8_likeliest 27 = .ok (.goto (-23), 3) := by decide +kernel
theorem dX8_likeliest_30 : decode cX8_likeliest 30 = .ok (.iload_n 1, 1) := by decide +kernel
theorem dX8_likeliest_31 : decode cX8_likeliest 31 = .ok (.ireturn, 1) := by decide +kernel
theorem dX8_greatestDivisor_0 : decode cX8_greatestDivisor 0 = .ok (.iload_n 1, 1) := by decide +kernel
theorem dX8_greatestDivisor_1 : decode cX8_greatestDivisor 1 = .ok (.istore_n 2, 1) := by decide +kernel
theorem dX8_greatestDivisor_2 : decode cX8_greatestDivisor 2 = .ok (.iload_n 0, 1) := by decide +kernel
theorem dX8_greatestDivisor_3 : decode cX8_greatestDivisor 3 = .ok (.istore_n 3, 1) := by decide +kernel
theorem dX8_greatestDivisor_4 : decode cX8_greatestDivisor 4 = .ok (.iconst 0, 1) := by decide +kernel
theorem dX8_greatestDivisor_5 : decode cX8_greatestDivisor 5 = .ok (.istore 4, 2) := by decide +kernel
theorem dX8_greatestDivisor_7 : decode cX8_greatestDivisor 7 = .ok (.iload 4, 2) := by decide +kernel
theorem dX8_greatestDivisor_9 : decode cX8_greatestDivisor 9 = .ok (.bipush 32, 2) := by decide +kernel
theorem dX8_greatestDivisor_11 : decode cX8_greatestDivisor 11 = .ok (.if_icmp .ge 23, 3) := by decide +kernel
theorem dX8_greatestDivisor_14 : decode cX8_greatestDivisor 14 = .ok (.iload_n 3, 1) := by decide +kernel
theorem dX8_greatestDivisor_15 : decode cX8_greatestDivisor 15 = .ok (.ifCond .eq 19, 3) := by decide +kernel
theorem dX8_greatestDivisor_18 : decode cX8_greatestDivisor 18 = .ok (.iload_n 2, 1) := by decide +kernel
theorem dX8_greatestDivisor_19 : decode cX8_greatestDivisor 19 = .ok (.iload_n 3, 1) := by decide +kernel
theorem dX8_greatestDivisor_20 : decode cX8_greatestDivisor 20 = .ok (.irem, 1) := by decide +kernel
theorem dX8_greatestDivisor_21 : decode cX8_greatestDivisor 21 = .ok (.istore 5, 2) := by decide +kernel
theorem dX8_greatestDivisor_23 : decode cX8_greatestDivisor 23 = .ok (.iload_n 3, 1) := by decide +kernel
theorem dX8_greatestDivisor_24 : decode cX8_greatestDivisor 24 = .ok (.istore_n 2, 1) := by decide +kernel
theorem dX8_greatestDivisor_25 : decode cX8_greatestDivisor 25 = .ok (.iload 5, 2) := by decide +kernel
theorem dX8_greatestDivisor_27 : decode cX8_greatestDivisor 27 = .ok (.istore_n 3, 1) := by decide +kernel
theorem dX8_greatestDivisor_28 : decode cX8_greatestDivisor 28 = .ok (.iinc 4 1, 3) := by decide +kernel
theorem dX8_greatestDivisor_31 : decode cX8_greatestDivisor 31 = .ok (.goto (-24), 3) := by decide +kernel
theorem dX8_greatestDivisor_34 : decode cX8_greatestDivisor 34 = .ok (.iload_n 2, 1) := by decide +kernel
theorem dX8_greatestDivisor_35 : decode cX8_greatestDivisor 35 = .ok (.ifCond .ne 7, 3) := by decide +kernel
theorem dX8_greatestDivisor_38 : decode cX8_greatestDivisor 38 = .ok (.iconst 1, 1) := by decide +kernel
theorem dX8_greatestDivisor_39 : decode cX8_greatestDivisor 39 = .ok (.goto 4, 3) := by decide +kernel
theorem dX8_greatestDivisor_42 : decode cX8_greatestDivisor 42 = .ok (.iload_n 2, 1) := by decide +kernel
theorem dX8_greatestDivisor_43 : decode cX8_greatestDivisor 43 = .ok (.ireturn, 1) := by decide +kernel
theorem dX9_init_0 : decode cX9_init 0 = .ok (.aload_n 0, 1) := by decide +kernel
theorem dX9_init_1 : decode cX9_init 1 = .ok (.invokespecial 3, 3) := by decide +kernel
theorem dX9_init_4 : decode cX9_init 4 = .ok (.aload_n 0, 1) := by decide +kernel
theorem dX9_init_5 : decode cX9_init 5 = .ok (.new 9, 3) := by decide +kernel
theorem dX9_init_8 : decode cX9_init 8 = .ok (.dup, 1) := by decide +kernel
theorem dX9_init_9 : decode cX9_init 9 = .ok (.invokespecial 11, 3) := by decide +kernel
theorem dX9_init_12 : decode cX9_init 12 = .ok (.putfield 12, 3) := by decide +kernel
theorem dX9_init_15 : decode cX9_init 15 = .ok (.aload_n 0, 1) := by decide +kernel
theorem dX9_init_16 : decode cX9_init 16 = .ok (.new 16, 3) := by decide +kernel
theorem dX9_init_19 : decode cX9_init 19 = .ok (.dup, 1) := by decide +kernel
theorem dX9_init_20 : decode cX9_init 20 = .ok (.invokespecial 18, 3) := by decide +kernel
theorem dX9_init_23 : decode cX9_init 23 = .ok (.putfield 19, 3) := by decide +kernel
theorem dX9_init_26 : decode cX9_init 26 = .ok (.aload_n 0, 1) := by decide +kernel
theorem dX9_init_27 : decode cX9_init 27 = .ok (.new 16, 3) := by decide +kernel
theorem dX9_init_30 : decode cX9_init 30 = .ok (.dup, 1) := by decide +kernel
theorem dX9_init_31 : decode cX9_init 31 = .ok (.invokespecial 18, 3) := by decide +kernel
theorem dX9_init_34 : decode cX9_init 34 = .ok (.putfield 23, 3) := by decide +kernel
theorem dX9_init_37 : decode cX9_init 37 = .ok (.aload_n 0, 1) := by decide +kernel
theorem dX9_init_38 : decode cX9_init 38 = .ok (.new 26, 3) := by decide +kernel
theorem dX9_init_41 : decode cX9_init 41 = .ok (.dup, 1) := by decide +kernel
theorem dX9_init_42 : decode cX9_init 42 = .ok (.invokespecial 28, 3) := by decide +kernel
theorem dX9_init_45 : decode cX9_init 45 = .ok (.putfield 29, 3) := by decide +kernel
theorem dX9_init_48 : decode cX9_init 48 = .ok (.aload_n 0, 1) := by decide +kernel
theorem dX9_init_49 : decode cX9_init 49 = .ok (.new 33, 3) := by decide +kernel
theorem dX9_init_52 : decode cX9_init 52 = .ok (.dup, 1) := by decide +kernel
theorem dX9_init_53 : decode cX9_init 53 = .ok (.invokespecial 35, 3) := by decide +kernel
theorem dX9_init_56 : decode cX9_init 56 = .ok (.putfield 36, 3) := by decide +kernel
theorem dX9_init_59 : decode cX9_init 59 = .ok (.return_, 1) := by decide +kernel
theorem dX9_letter_0 : decode cX9_letter 0 = .ok (.iload_n 1, 1) := by decide +kernel
theorem dX9_letter_1 : decode cX9_letter 1 = .ok (.bipush 32, 2) := by decide +kernel
theorem dX9_letter_3 : decode cX9_letter 3 = .ok (.bipush 126, 2) := by decide +kernel
theorem dX9_letter_5 : decode cX9_letter 5 = .ok (.invokestatic 40, 3) := by decide +kernel
theorem dX9_letter_8 : decode cX9_letter 8 = .ok (.ifCond .ne 6, 3) := by decide +kernel
theorem dX9_letter_11 : decode cX9_letter 11 = .ok (.bipush (-102), 2) := by decide +kernel
theorem dX9_letter_13 : decode cX9_letter 13 = .ok (.ireturn, 1) := by decide +kernel
theorem dX9_letter_14 : decode cX9_letter 14 = .ok (.aload_n 0, 1) := by decide +kernel
theorem dX9_letter_15 : decode cX9_letter 15 = .ok (.getfield 12, 3) := by decide +kernel
theorem dX9_letter_18 : decode cX9_letter 18 = .ok (.iload_n 1, 1) := by decide +kernel
theorem dX9_letter_19 : decode cX9_letter 19 = .ok (.invokevirtual 44, 3) := by decide +kernel
theorem dX9_letter_22 : decode cX9_letter 22 = .ok (.ifCond .eq 13, 3) := by decide +kernel
theorem dX9_letter_25 : decode cX9_letter 25 = .ok (.aload_n 0, 1) := by decide +kernel
theorem dX9_letter_26 : decode cX9_letter 26 = .ok (.getfield 12, 3) := by decide +kernel
theorem dX9_letter_29 : decode cX9_letter 29 = .ok (.getfield 48, 3) := by decide +kernel
theorem dX9_letter_32 : decode cX9_letter 32 = .ok (.goto 5, 3) := by decide +kernel
theorem dX9_letter_35 : decode cX9_letter 35 = .ok (.bipush (-104), 2) := by decide +kernel
theorem dX9_letter_37 : decode cX9_letter 37 = .ok (.ireturn, 1) := by decide +kernel
theorem dX9_blank_0 : decode cX9_blank 0 = .ok (.aload_n 0, 1) := by decide +kernel
theorem dX9_blank_1 : decode cX9_blank 1 = .ok (.getfield 12, 3) := by decide +kernel
theorem dX9_blank_4 : decode cX9_blank 4 = .ok (.getfield 48, 3) := by decide +kernel
theorem dX9_blank_7 : decode cX9_blank 7 = .ok (.istore_n 1, 1) := by decide +kernel
theorem dX9_blank_8 : decode cX9_blank 8 = .ok (.aload_n 0, 1) := by decide +kernel
theorem dX9_blank_9 : decode cX9_blank 9 = .ok (.getfield 12, 3) := by decide +kernel
theorem dX9_blank_12 : decode cX9_blank 12 = .ok (.invokevirtual 52, 3) := by decide +kernel
theorem dX9_blank_15 : decode cX9_blank 15 = .ok (.iload_n 1, 1) := by decide +kernel
theorem dX9_blank_16 : decode cX9_blank 16 = .ok (.ireturn, 1) := by decide +kernel
theorem dX9_fault_0 : decode cX9_fault 0 = .ok (.aload_n 0, 1) := by decide +kernel
theorem dX9_fault_1 : decode cX9_fault 1 = .ok (.getfield 12, 3) := by decide +kernel
theorem dX9_fault_4 : decode cX9_fault 4 = .ok (.invokevirtual 55, 3) := by decide +kernel
theorem dX9_fault_7 : decode cX9_fault 7 = .ok (.ireturn, 1) := by decide +kernel
theorem dX9_sea_0 : decode cX9_sea 0 = .ok (.aload_n 0, 1) := by decide +kernel
theorem dX9_sea_1 : decode cX9_sea 1 = .ok (.getfield 12, 3) := by decide +kernel
theorem dX9_sea_4 : decode cX9_sea 4 = .ok (.invokevirtual 59, 3) := by decide +kernel
theorem dX9_sea_7 : decode cX9_sea 7 = .ok (.ifCond .ne 6, 3) := by decide +kernel
theorem dX9_sea_10 : decode cX9_sea 10 = .ok (.bipush (-103), 2) := by decide +kernel
theorem dX9_sea_12 : decode cX9_sea 12 = .ok (.ireturn, 1) := by decide +kernel
theorem dX9_sea_13 : decode cX9_sea 13 = .ok (.aload_n 0, 1) := by decide +kernel
theorem dX9_sea_14 : decode cX9_sea 14 = .ok (.getfield 19, 3) := by decide +kernel
theorem dX9_sea_17 : decode cX9_sea 17 = .ok (.aload_n 0, 1) := by decide +kernel
theorem dX9_sea_18 : decode cX9_sea 18 = .ok (.getfield 12, 3) := by decide +kernel
theorem dX9_sea_21 : decode cX9_sea 21 = .ok (.invokevirtual 63, 3) := by decide +kernel
theorem dX9_sea_24 : decode cX9_sea 24 = .ok (.aload_n 0, 1) := by decide +kernel
theorem dX9_sea_25 : decode cX9_sea 25 = .ok (.getfield 12, 3) := by decide +kernel
theorem dX9_sea_28 : decode cX9_sea 28 = .ok (.invokevirtual 52, 3) := by decide +kernel
theorem dX9_sea_31 : decode cX9_sea 31 = .ok (.aload_n 0, 1) := by decide +kernel
theorem dX9_sea_32 : decode cX9_sea 32 = .ok (.iconst 0, 1) := by decide +kernel
theorem dX9_sea_33 : decode cX9_sea 33 = .ok (.putfield 67, 3) := by decide +kernel
theorem dX9_sea_36 : decode cX9_sea 36 = .ok (.aload_n 0, 1) := by decide +kernel
theorem dX9_sea_37 : decode cX9_sea 37 = .ok (.dup, 1) := by decide +kernel
theorem dX9_sea_38 : decode cX9_sea 38 = .ok (.getfield 71, 3) := by decide +kernel
theorem dX9_sea_41 : decode cX9_sea 41 = .ok (.iconst 1, 1) := by decide +kernel
theorem dX9_sea_42 : decode cX9_sea 42 = .ok (.iadd, 1) := by decide +kernel
theorem dX9_sea_43 : decode cX9_sea 43 = .ok (.putfield 71, 3) := by decide +kernel
theorem dX9_sea_46 : decode cX9_sea 46 = .ok (.aload_n 0, 1) := by decide +kernel
theorem dX9_sea_47 : decode cX9_sea 47 = .ok (.getfield 19, 3) := by decide +kernel
theorem dX9_sea_50 : decode cX9_sea 50 = .ok (.getfield 74, 3) := by decide +kernel
theorem dX9_sea_53 : decode cX9_sea 53 = .ok (.ireturn, 1) := by decide +kernel
theorem dX9_person_0 : decode cX9_person 0 = .ok (.aload_n 0, 1) := by decide +kernel
theorem dX9_person_1 : decode cX9_person 1 = .ok (.getfield 19, 3) := by decide +kernel
theorem dX9_person_4 : decode cX9_person 4 = .ok (.iload_n 1, 1) := by decide +kernel
theorem dX9_person_5 : decode cX9_person 5 = .ok (.invokevirtual 77, 3) := by decide +kernel
theorem dX9_person_8 : decode cX9_person 8 = .ok (.ifCond .ne 6, 3) := by decide +kernel
theorem dX9_person_11 : decode cX9_person 11 = .ok (.bipush (-101), 2) := by decide +kernel
theorem dX9_person_13 : decode cX9_person 13 = .ok (.ireturn, 1) := by decide +kernel
theorem dX9_person_14 : decode cX9_person 14 = .ok (.aload_n 0, 1) := by decide +kernel
theorem dX9_person_15 : decode cX9_person 15 = .ok (.getfield 19, 3) := by decide +kernel
theorem dX9_person_18 : decode cX9_person 18 = .ok (.aload_n 0, 1) := by decide +kernel
theorem dX9_person_19 : decode cX9_person 19 = .ok (.getfield 19, 3) := by decide +kernel
theorem dX9_person_22 : decode cX9_person 22 = .ok (.getfield 80, 3) := by decide +kernel
theorem dX9_person_25 : decode cX9_person 25 = .ok (.iload_n 1, 1) := by decide +kernel
theorem dX9_person_26 : decode cX9_person 26 = .ok (.aaload, 1) := by decide +kernel
theorem dX9_person_27 : decode cX9_person 27 = .ok (.iload_n 2, 1) := by decide +kernel
theorem dX9_person_28 : decode cX9_person 28 = .ok (.invokevirtual 84, 3) := by decide +kernel
theorem dX9_person_31 : decode cX9_person 31 = .ok (.ireturn, 1) := by decide +kernel
theorem dX9_as_0 : decode cX9_as 0 = .ok (.aload_n 0, 1) := by decide +kernel
theorem dX9_as_1 : decode cX9_as 1 = .ok (.getfield 19, 3) := by decide +kernel
theorem dX9_as_4 : decode cX9_as 4 = .ok (.iload_n 1, 1) := by decide +kernel
theorem dX9_as_5 : decode cX9_as 5 = .ok (.invokevirtual 77, 3) := by decide +kernel
theorem dX9_as_8 : decode cX9_as 8 = .ok (.ifCond .ne 6, 3) := by decide +kernel
theorem dX9_as_11 : decode cX9_as 11 = .ok (.bipush (-101), 2) := by decide +kernel
theorem dX9_as_13 : decode cX9_as 13 = .ok (.ireturn, 1) := by decide +kernel
theorem dX9_as_14 : decode cX9_as 14 = .ok (.iload_n 2, 1) := by decide +kernel
theorem dX9_as_15 : decode cX9_as 15 = .ok (.invokestatic 88, 3) := by decide +kernel
theorem dX9_as_18 : decode cX9_as 18 = .ok (.ifCond .ne 6, 3) := by decide +kernel
theorem dX9_as_21 : decode cX9_as 21 = .ok (.bipush (-102), 2) := by decide +kernel
theorem dX9_as_23 : decode cX9_as 23 = .ok (.ireturn, 1) := by decide +kernel
theorem dX9_as_24 : decode cX9_as 24 = .ok (.aload_n 0, 1) := by decide +kernel
theorem dX9_as_25 : decode cX9_as 25 = .ok (.getfield 19, 3) := by decide +kernel
theorem dX9_as_28 : decode cX9_as 28 = .ok (.getfield 80, 3) := by decide +kernel
theorem dX9_as_31 : decode cX9_as 31 = .ok (.iload_n 1, 1) := by decide +kernel
theorem dX9_as_32 : decode cX9_as 32 = .ok (.aaload, 1) := by decide +kernel
theorem dX9_as_33 : decode cX9_as 33 = .ok (.getfield 93, 3) := by decide +kernel
theorem dX9_as_36 : decode cX9_as 36 = .ok (.iload_n 2, 1) := by decide +kernel
theorem dX9_as_37 : decode cX9_as 37 = .ok (.invokevirtual 99, 3) := by decide +kernel
theorem dX9_as_40 : decode cX9_as 40 = .ok (.ifCond .eq 7, 3) := by decide +kernel
theorem dX9_as_43 : decode cX9_as 43 = .ok (.iload_n 1, 1) := by decide +kernel
theorem dX9_as_44 : decode cX9_as 44 = .ok (.goto 4, 3) := by decide +kernel
theorem dX9_as_47 : decode cX9_as 47 = .ok (.iconst (-1), 1) := by decide +kernel
theorem dX9_as_48 : decode cX9_as 48 = .ok (.ireturn, 1) := by decide +kernel
theorem dX9_choose_0 : decode cX9_choose 0 = .ok (.aload_n 0, 1) := by decide +kernel
theorem dX9_choose_1 : decode cX9_choose 1 = .ok (.getfield 19, 3) := by decide +kernel
theorem dX9_choose_4 : decode cX9_choose 4 = .ok (.iload_n 1, 1) := by decide +kernel
theorem dX9_choose_5 : decode cX9_choose 5 = .ok (.invokevirtual 77, 3) := by decide +kernel
theorem dX9_choose_8 : decode cX9_choose 8 = .ok (.ifCond .ne 6, 3) := by decide +kernel
theorem dX9_choose_11 : decode cX9_choose 11 = .ok (.bipush (-101), 2) := by decide +kernel
theorem dX9_choose_13 : decode cX9_choose 13 = .ok (.ireturn, 1) := by decide +kernel
theorem dX9_choose_14 : decode cX9_choose 14 = .ok (.iload_n 2, 1) := by decide +kernel
theorem dX9_choose_15 : decode cX9_choose 15 = .ok (.iconst 0, 1) := by decide +kernel
theorem dX9_choose_16 : decode cX9_choose 16 = .ok (.bipush 9, 2) := by decide +kernel
theorem dX9_choose_18 : decode cX9_choose 18 = .ok (.invokestatic 40, 3) := by decide +kernel
theorem dX9_choose_21 : decode cX9_choose 21 = .ok (.ifCond .ne 6, 3) := by decide +kernel
theorem dX9_choose_24 : decode cX9_choose 24 = .ok (.bipush (-102), 2) := by decide +kernel
theorem dX9_choose_26 : decode cX9_choose 26 = .ok (.ireturn, 1) := by decide +kernel
theorem dX9_choose_27 : decode cX9_choose 27 = .ok (.aload_n 0, 1) := by decide +kernel
theorem dX9_choose_28 : decode cX9_choose 28 = .ok (.getfield 19, 3) := by decide +kernel
theorem dX9_choose_31 : decode cX9_choose 31 = .ok (.getfield 80, 3) := by decide +kernel
theorem dX9_choose_34 : decode cX9_choose 34 = .ok (.iload_n 1, 1) := by decide +kernel
theorem dX9_choose_35 : decode cX9_choose 35 = .ok (.aaload, 1) := by decide +kernel
theorem dX9_choose_36 : decode cX9_choose 36 = .ok (.getfield 102, 3) := by decide +kernel
theorem dX9_choose_39 : decode cX9_choose 39 = .ok (.istore_n 3, 1) := by decide +kernel
theorem dX9_choose_40 : decode cX9_choose 40 = .ok (.aload_n 0, 1) := by decide +kernel
theorem dX9_choose_41 : decode cX9_choose 41 = .ok (.getfield 19, 3) := by decide +kernel
theorem dX9_choose_44 : decode cX9_choose 44 = .ok (.getfield 80, 3) := by decide +kernel
theorem dX9_choose_47 : decode cX9_choose 47 = .ok (.iload_n 1, 1) := by decide +kernel
theorem dX9_choose_48 : decode cX9_choose 48 = .ok (.aaload, 1) := by decide +kernel
theorem dX9_choose_49 : decode cX9_choose 49 = .ok (.iload_n 2, 1) := by decide +kernel
theorem dX9_choose_50 : decode cX9_choose 50 = .ok (.putfield 102, 3) := by decide +kernel
theorem dX9_choose_53 : decode cX9_choose 53 = .ok (.iload_n 3, 1) := by decide +kernel
theorem dX9_choose_54 : decode cX9_choose 54 = .ok (.ireturn, 1) := by decide +kernel
theorem dX9_paint_0 : decode cX9_paint 0 = .ok (.aload_n 0, 1) := by decide +kernel
theorem dX9_paint_1 : decode cX9_paint 1 = .ok (.getfield 19, 3) := by decide +kernel
theorem dX9_paint_4 : decode cX9_paint 4 = .ok (.iload_n 1, 1) := by decide +kernel
theorem dX9_paint_5 : decode cX9_paint 5 = .ok (.invokevirtual 77, 3) := by decide +kernel
theorem dX9_paint_8 : decode cX9_paint 8 = .ok (.ifCond .ne 6, 3) := by decide +kernel
theorem dX9_paint_11 : decode cX9_paint 11 = .ok (.bipush (-101), 2) := by decide +kernel
theorem dX9_paint_13 : decode cX9_paint 13 = .ok (.ireturn, 1) := by decide +kernel
theorem dX9_paint_14 : decode cX9_paint 14 = .ok (.iload_n 2, 1) := by decide +kernel
theorem dX9_paint_15 : decode cX9_paint 15 = .ok (.iconst 0, 1) := by decide +kernel
theorem dX9_paint_16 : decode cX9_paint 16 = .ok (.iconst 3, 1) := by decide +kernel
theorem dX9_paint_17 : decode cX9_paint 17 = .ok (.invokestatic 40, 3) := by decide +kernel
theorem dX9_paint_20 : decode cX9_paint 20 = .ok (.ifCond .ne 6, 3) := by decide +kernel
theorem dX9_paint_23 : decode cX9_paint 23 = .ok (.bipush (-102), 2) := by decide +kernel
theorem dX9_paint_25 : decode cX9_paint 25 = .ok (.ireturn, 1) := by decide +kernel
theorem dX9_paint_26 : decode cX9_paint 26 = .ok (.aload_n 0, 1) := by decide +kernel
theorem dX9_paint_27 : decode cX9_paint 27 = .ok (.getfield 19, 3) := by decide +kernel
theorem dX9_paint_30 : decode cX9_paint 30 = .ok (.getfield 80, 3) := by decide +kernel
theorem dX9_paint_33 : decode cX9_paint 33 = .ok (.iload_n 1, 1) := by decide +kernel
theorem dX9_paint_34 : decode cX9_paint 34 = .ok (.aaload, 1) := by decide +kernel
theorem dX9_paint_35 : decode cX9_paint 35 = .ok (.getfield 105, 3) := by decide +kernel
theorem dX9_paint_38 : decode cX9_paint 38 = .ok (.istore_n 3, 1) := by decide +kernel
theorem dX9_paint_39 : decode cX9_paint 39 = .ok (.aload_n 0, 1) := by decide +kernel
theorem dX9_paint_40 : decode cX9_paint 40 = .ok (.getfield 19, 3) := by decide +kernel
theorem dX9_paint_43 : decode cX9_paint 43 = .ok (.getfield 80, 3) := by decide +kernel
theorem dX9_paint_46 : decode cX9_paint 46 = .ok (.iload_n 1, 1) := by decide +kernel
theorem dX9_paint_47 : decode cX9_paint 47 = .ok (.aaload, 1) := by decide +kernel
theorem dX9_paint_48 : decode cX9_paint 48 = .ok (.iload_n 2, 1) := by decide +kernel
theorem dX9_paint_49 : decode cX9_paint 49 = .ok (.putfield 105, 3) := by decide +kernel
theorem dX9_paint_52 : decode cX9_paint 52 = .ok (.iload_n 3, 1) := by decide +kernel
theorem dX9_paint_53 : decode cX9_paint 53 = .ok (.ireturn, 1) := by decide +kernel
theorem dX9_limit_0 : decode cX9_limit 0 = .ok (.iload_n 1, 1) := by decide +kernel
theorem dX9_limit_1 : decode cX9_limit 1 = .ok (.invokestatic 108, 3) := by decide +kernel
theorem dX9_limit_4 : decode cX9_limit 4 = .ok (.ifCond .ne 6, 3) := by decide +kernel
theorem dX9_limit_7 : decode cX9_limit 7 = .ok (.bipush (-102), 2) := by decide +kernel
theorem dX9_limit_9 : decode cX9_limit 9 = .ok (.ireturn, 1) := by decide +kernel
theorem dX9_limit_10 : decode cX9_limit 10 = .ok (.aload_n 0, 1) := by decide +kernel
theorem dX9_limit_11 : decode cX9_limit 11 = .ok (.getfield 19, 3) := by decide +kernel
theorem dX9_limit_14 : decode cX9_limit 14 = .ok (.invokevirtual 111, 3) := by decide +kernel
theorem dX9_limit_17 : decode cX9_limit 17 = .ok (.ifCond .eq 6, 3) := by decide +kernel
theorem dX9_limit_20 : decode cX9_limit 20 = .ok (.bipush (-103), 2) := by decide +kernel
theorem dX9_limit_22 : decode cX9_limit 22 = .ok (.ireturn, 1) := by decide +kernel
theorem dX9_limit_23 : decode cX9_limit 23 = .ok (.aload_n 0, 1) := by decide +kernel
theorem dX9_limit_24 : decode cX9_limit 24 = .ok (.getfield 19, 3) := by decide +kernel
theorem dX9_limit_27 : decode cX9_limit 27 = .ok (.getfield 114, 3) := by decide +kernel
theorem dX9_limit_30 : decode cX9_limit 30 = .ok (.istore_n 2, 1) := by decide +kernel
theorem dX9_limit_31 : decode cX9_limit 31 = .ok (.aload_n 0, 1) := by decide +kernel
theorem dX9_limit_32 : decode cX9_limit 32 = .ok (.getfield 19, 3) := by decide +kernel
theorem dX9_limit_35 : decode cX9_limit 35 = .ok (.iload_n 1, 1) := by decide +kernel
theorem dX9_limit_36 : decode cX9_limit 36 = .ok (.putfield 114, 3) := by decide +kernel
theorem dX9_limit_39 : decode cX9_limit 39 = .ok (.iload_n 2, 1) := by decide +kernel
theorem dX9_limit_40 : decode cX9_limit 40 = .ok (.ireturn, 1) := by decide +kernel
theorem dX9_show_0 : decode cX9_show 0 = .ok (.aload_n 0, 1) := by decide +kernel
theorem dX9_show_1 : decode cX9_show 1 = .ok (.getfield 19, 3) := by decide +kernel
theorem dX9_show_4 : decode cX9_show 4 = .ok (.iload_n 1, 1) := by decide +kernel
theorem dX9_show_5 : decode cX9_show 5 = .ok (.invokevirtual 77, 3) := by decide +kernel
theorem dX9_show_8 : decode cX9_show 8 = .ok (.ifCond .eq 14, 3) := by decide +kernel
theorem dX9_show_11 : decode cX9_show 11 = .ok (.aload_n 0, 1) := by decide +kernel
theorem dX9_show_12 : decode cX9_show 12 = .ok (.getfield 19, 3) := by decide +kernel
end
section
theorem dX9_show_15 : decode cX9_show 15 = .ok (.iload_n 2, 1) := by decide +kernel
theorem dX9_show_16 : decode cX9_show 16 = .ok (.invokevirtual 77, 3) := by decide +kernel
theorem dX9_show_19 : decode cX9_show 19 = .ok (.ifCond .ne 6, 3) := by decide +kernel
theorem dX9_show_22 : decode cX9_show 22 = .ok (.bipush (-101), 2) := by decide +kernel
theorem dX9_show_24 : decode cX9_show 24 = .ok (.ireturn, 1) := by decide +kernel
theorem dX9_show_25 : decode cX9_show 25 = .ok (.aload_n 0, 1) := by decide +kernel
theorem dX9_show_26 : decode cX9_show 26 = .ok (.getfield 19, 3) := by decide +kernel
theorem dX9_show_29 : decode cX9_show 29 = .ok (.getfield 80, 3) := by decide +kernel
theorem dX9_show_32 : decode cX9_show 32 = .ok (.iload_n 1, 1) := by decide +kernel
theorem dX9_show_33 : decode cX9_show 33 = .ok (.aaload, 1) := by decide +kernel
theorem dX9_show_34 : decode cX9_show 34 = .ok (.astore_n 3, 1) := by decide +kernel
theorem dX9_show_35 : decode cX9_show 35 = .ok (.aload_n 0, 1) := by decide +kernel
theorem dX9_show_36 : decode cX9_show 36 = .ok (.getfield 19, 3) := by decide +kernel
theorem dX9_show_39 : decode cX9_show 39 = .ok (.getfield 80, 3) := by decide +kernel
theorem dX9_show_42 : decode cX9_show 42 = .ok (.iload_n 2, 1) := by decide +kernel
theorem dX9_show_43 : decode cX9_show 43 = .ok (.aaload, 1) := by decide +kernel
theorem dX9_show_44 : decode cX9_show 44 = .ok (.astore 4, 2) := by decide +kernel
theorem dX9_show_46 : decode cX9_show 46 = .ok (.aload_n 3, 1) := by decide +kernel
theorem dX9_show_47 : decode cX9_show 47 = .ok (.aload 4, 2) := by decide +kernel
theorem dX9_show_49 : decode cX9_show 49 = .ok (.invokevirtual 117, 3) := by decide +kernel
theorem dX9_show_52 : decode cX9_show 52 = .ok (.ifCond .ne 6, 3) := by decide +kernel
theorem dX9_show_55 : decode cX9_show 55 = .ok (.bipush (-103), 2) := by decide +kernel
theorem dX9_show_57 : decode cX9_show 57 = .ok (.ireturn, 1) := by decide +kernel
theorem dX9_show_58 : decode cX9_show 58 = .ok (.aload_n 0, 1) := by decide +kernel
theorem dX9_show_59 : decode cX9_show 59 = .ok (.getfield 19, 3) := by decide +kernel
theorem dX9_show_62 : decode cX9_show 62 = .ok (.aload_n 3, 1) := by decide +kernel
theorem dX9_show_63 : decode cX9_show 63 = .ok (.aload 4, 2) := by decide +kernel
theorem dX9_show_65 : decode cX9_show 65 = .ok (.invokevirtual 121, 3) := by decide +kernel
theorem dX9_show_68 : decode cX9_show 68 = .ok (.ifCond .ne 5, 3) := by decide +kernel
theorem dX9_show_71 : decode cX9_show 71 = .ok (.iconst 0, 1) := by decide +kernel
theorem dX9_show_72 : decode cX9_show 72 = .ok (.ireturn, 1) := by decide +kernel
theorem dX9_show_73 : decode cX9_show 73 = .ok (.aload_n 3, 1) := by decide +kernel
theorem dX9_show_74 : decode cX9_show 74 = .ok (.aload 4, 2) := by decide +kernel
theorem dX9_show_76 : decode cX9_show 76 = .ok (.invokevirtual 125, 3) := by decide +kernel
theorem dX9_show_79 : decode cX9_show 79 = .ok (.ifCond .eq 7, 3) := by decide +kernel
theorem dX9_show_82 : decode cX9_show 82 = .ok (.iconst 2, 1) := by decide +kernel
theorem dX9_show_83 : decode cX9_show 83 = .ok (.goto 4, 3) := by decide +kernel
theorem dX9_show_86 : decode cX9_show 86 = .ok (.iconst 1, 1) := by decide +kernel
theorem dX9_show_87 : decode cX9_show 87 = .ok (.ireturn, 1) := by decide +kernel
theorem dX9_back_0 : decode cX9_back 0 = .ok (.aload_n 0, 1) := by decide +kernel
theorem dX9_back_1 : decode cX9_back 1 = .ok (.getfield 19, 3) := by decide +kernel
theorem dX9_back_4 : decode cX9_back 4 = .ok (.iload_n 1, 1) := by decide +kernel
theorem dX9_back_5 : decode cX9_back 5 = .ok (.invokevirtual 77, 3) := by decide +kernel
theorem dX9_back_8 : decode cX9_back 8 = .ok (.ifCond .eq 14, 3) := by decide +kernel
theorem dX9_back_11 : decode cX9_back 11 = .ok (.aload_n 0, 1) := by decide +kernel
theorem dX9_back_12 : decode cX9_back 12 = .ok (.getfield 19, 3) := by decide +kernel
theorem dX9_back_15 : decode cX9_back 15 = .ok (.iload_n 2, 1) := by decide +kernel
theorem dX9_back_16 : decode cX9_back 16 = .ok (.invokevirtual 77, 3) := by decide +kernel
theorem dX9_back_19 : decode cX9_back 19 = .ok (.ifCond .ne 6, 3) := by decide +kernel
theorem dX9_back_22 : decode cX9_back 22 = .ok (.bipush (-101), 2) := by decide +kernel
theorem dX9_back_24 : decode cX9_back 24 = .ok (.ireturn, 1) := by decide +kernel
theorem dX9_back_25 : decode cX9_back 25 = .ok (.aload_n 0, 1) := by decide +kernel
theorem dX9_back_26 : decode cX9_back 26 = .ok (.getfield 19, 3) := by decide +kernel
theorem dX9_back_29 : decode cX9_back 29 = .ok (.getfield 80, 3) := by decide +kernel
theorem dX9_back_32 : decode cX9_back 32 = .ok (.iload_n 1, 1) := by decide +kernel
theorem dX9_back_33 : decode cX9_back 33 = .ok (.aaload, 1) := by decide +kernel
theorem dX9_back_34 : decode cX9_back 34 = .ok (.astore_n 3, 1) := by decide +kernel
theorem dX9_back_35 : decode cX9_back 35 = .ok (.aload_n 0, 1) := by decide +kernel
theorem dX9_back_36 : decode cX9_back 36 = .ok (.getfield 19, 3) := by decide +kernel
theorem dX9_back_39 : decode cX9_back 39 = .ok (.getfield 80, 3) := by decide +kernel
theorem dX9_back_42 : decode cX9_back 42 = .ok (.iload_n 2, 1) := by decide +kernel
theorem dX9_back_43 : decode cX9_back 43 = .ok (.aaload, 1) := by decide +kernel
theorem dX9_back_44 : decode cX9_back 44 = .ok (.astore 4, 2) := by decide +kernel
theorem dX9_back_46 : decode cX9_back 46 = .ok (.aload_n 3, 1) := by decide +kernel
theorem dX9_back_47 : decode cX9_back 47 = .ok (.aload 4, 2) := by decide +kernel
theorem dX9_back_49 : decode cX9_back 49 = .ok (.invokevirtual 128, 3) := by decide +kernel
theorem dX9_back_52 : decode cX9_back 52 = .ok (.ifCond .eq 12, 3) := by decide +kernel
theorem dX9_back_55 : decode cX9_back 55 = .ok (.aload_n 3, 1) := by decide +kernel
theorem dX9_back_56 : decode cX9_back 56 = .ok (.aload 4, 2) := by decide +kernel
theorem dX9_back_58 : decode cX9_back 58 = .ok (.invokevirtual 131, 3) := by decide +kernel
theorem dX9_back_61 : decode cX9_back 61 = .ok (.ifCond .eq 6, 3) := by decide +kernel
theorem dX9_back_64 : decode cX9_back 64 = .ok (.bipush (-103), 2) := by decide +kernel
theorem dX9_back_66 : decode cX9_back 66 = .ok (.ireturn, 1) := by decide +kernel
theorem dX9_back_67 : decode cX9_back 67 = .ok (.aload_n 3, 1) := by decide +kernel
theorem dX9_back_68 : decode cX9_back 68 = .ok (.aload 4, 2) := by decide +kernel
theorem dX9_back_70 : decode cX9_back 70 = .ok (.invokevirtual 134, 3) := by decide +kernel
theorem dX9_back_73 : decode cX9_back 73 = .ok (.ifCond .eq 7, 3) := by decide +kernel
theorem dX9_back_76 : decode cX9_back 76 = .ok (.iconst 1, 1) := by decide +kernel
theorem dX9_back_77 : decode cX9_back 77 = .ok (.goto 4, 3) := by decide +kernel
theorem dX9_back_80 : decode cX9_back 80 = .ok (.iconst 0, 1) := by decide +kernel
theorem dX9_back_81 : decode cX9_back 81 = .ok (.istore 5, 2) := by decide +kernel
theorem dX9_back_83 : decode cX9_back 83 = .ok (.aload_n 3, 1) := by decide +kernel
theorem dX9_back_84 : decode cX9_back 84 = .ok (.aload 4, 2) := by decide +kernel
theorem dX9_back_86 : decode cX9_back 86 = .ok (.invokevirtual 137, 3) := by decide +kernel
theorem dX9_back_89 : decode cX9_back 89 = .ok (.aload_n 0, 1) := by decide +kernel
theorem dX9_back_90 : decode cX9_back 90 = .ok (.getfield 19, 3) := by decide +kernel
theorem dX9_back_93 : decode cX9_back 93 = .ok (.dup, 1) := by decide +kernel
theorem dX9_back_94 : decode cX9_back 94 = .ok (.getfield 141, 3) := by decide +kernel
theorem dX9_back_97 : decode cX9_back 97 = .ok (.iconst 1, 1) := by decide +kernel
theorem dX9_back_98 : decode cX9_back 98 = .ok (.iadd, 1) := by decide +kernel
theorem dX9_back_99 : decode cX9_back 99 = .ok (.putfield 141, 3) := by decide +kernel
theorem dX9_back_102 : decode cX9_back 102 = .ok (.iload 5, 2) := by decide +kernel
theorem dX9_back_104 : decode cX9_back 104 = .ok (.ireturn, 1) := by decide +kernel
theorem dX9_day_0 : decode cX9_day 0 = .ok (.aload_n 0, 1) := by decide +kernel
theorem dX9_day_1 : decode cX9_day 1 = .ok (.getfield 19, 3) := by decide +kernel
theorem dX9_day_4 : decode cX9_day 4 = .ok (.invokevirtual 111, 3) := by decide +kernel
theorem dX9_day_7 : decode cX9_day 7 = .ok (.ifCond .eq 6, 3) := by decide +kernel
theorem dX9_day_10 : decode cX9_day 10 = .ok (.bipush (-103), 2) := by decide +kernel
theorem dX9_day_12 : decode cX9_day 12 = .ok (.ireturn, 1) := by decide +kernel
theorem dX9_day_13 : decode cX9_day 13 = .ok (.aload_n 0, 1) := by decide +kernel
theorem dX9_day_14 : decode cX9_day 14 = .ok (.getfield 19, 3) := by decide +kernel
theorem dX9_day_17 : decode cX9_day 17 = .ok (.getfield 144, 3) := by decide +kernel
theorem dX9_day_20 : decode cX9_day 20 = .ok (.bipush 99, 2) := by decide +kernel
theorem dX9_day_22 : decode cX9_day 22 = .ok (.if_icmp .lt 6, 3) := by decide +kernel
theorem dX9_day_25 : decode cX9_day 25 = .ok (.bipush (-104), 2) := by decide +kernel
theorem dX9_day_27 : decode cX9_day 27 = .ok (.ireturn, 1) := by decide +kernel
theorem dX9_day_28 : decode cX9_day 28 = .ok (.aload_n 0, 1) := by decide +kernel
theorem dX9_day_29 : decode cX9_day 29 = .ok (.getfield 19, 3) := by decide +kernel
theorem dX9_day_32 : decode cX9_day 32 = .ok (.dup, 1) := by decide +kernel
theorem dX9_day_33 : decode cX9_day 33 = .ok (.getfield 144, 3) := by decide +kernel
theorem dX9_day_36 : decode cX9_day 36 = .ok (.iconst 1, 1) := by decide +kernel
theorem dX9_day_37 : decode cX9_day 37 = .ok (.iadd, 1) := by decide +kernel
theorem dX9_day_38 : decode cX9_day 38 = .ok (.putfield 144, 3) := by decide +kernel
theorem dX9_day_41 : decode cX9_day 41 = .ok (.aload_n 0, 1) := by decide +kernel
theorem dX9_day_42 : decode cX9_day 42 = .ok (.getfield 19, 3) := by decide +kernel
theorem dX9_day_45 : decode cX9_day 45 = .ok (.invokevirtual 147, 3) := by decide +kernel
theorem dX9_day_48 : decode cX9_day 48 = .ok (.aload_n 0, 1) := by decide +kernel
theorem dX9_day_49 : decode cX9_day 49 = .ok (.getfield 19, 3) := by decide +kernel
theorem dX9_day_52 : decode cX9_day 52 = .ok (.getfield 144, 3) := by decide +kernel
theorem dX9_day_55 : decode cX9_day 55 = .ok (.ireturn, 1) := by decide +kernel
theorem dX9_meet_0 : decode cX9_meet 0 = .ok (.aload_n 0, 1) := by decide +kernel
theorem dX9_meet_1 : decode cX9_meet 1 = .ok (.getfield 19, 3) := by decide +kernel
theorem dX9_meet_4 : decode cX9_meet 4 = .ok (.iload_n 1, 1) := by decide +kernel
theorem dX9_meet_5 : decode cX9_meet 5 = .ok (.invokevirtual 77, 3) := by decide +kernel
theorem dX9_meet_8 : decode cX9_meet 8 = .ok (.ifCond .eq 14, 3) := by decide +kernel
theorem dX9_meet_11 : decode cX9_meet 11 = .ok (.aload_n 0, 1) := by decide +kernel
theorem dX9_meet_12 : decode cX9_meet 12 = .ok (.getfield 19, 3) := by decide +kernel
theorem dX9_meet_15 : decode cX9_meet 15 = .ok (.iload_n 2, 1) := by decide +kernel
theorem dX9_meet_16 : decode cX9_meet 16 = .ok (.invokevirtual 77, 3) := by decide +kernel
theorem dX9_meet_19 : decode cX9_meet 19 = .ok (.ifCond .ne 6, 3) := by decide +kernel
theorem dX9_meet_22 : decode cX9_meet 22 = .ok (.bipush (-101), 2) := by decide +kernel
theorem dX9_meet_24 : decode cX9_meet 24 = .ok (.ireturn, 1) := by decide +kernel
theorem dX9_meet_25 : decode cX9_meet 25 = .ok (.aload_n 0, 1) := by decide +kernel
theorem dX9_meet_26 : decode cX9_meet 26 = .ok (.getfield 19, 3) := by decide +kernel
theorem dX9_meet_29 : decode cX9_meet 29 = .ok (.getfield 80, 3) := by decide +kernel
theorem dX9_meet_32 : decode cX9_meet 32 = .ok (.iload_n 1, 1) := by decide +kernel
theorem dX9_meet_33 : decode cX9_meet 33 = .ok (.aaload, 1) := by decide +kernel
theorem dX9_meet_34 : decode cX9_meet 34 = .ok (.astore_n 3, 1) := by decide +kernel
theorem dX9_meet_35 : decode cX9_meet 35 = .ok (.aload_n 0, 1) := by decide +kernel
theorem dX9_meet_36 : decode cX9_meet 36 = .ok (.getfield 19, 3) := by decide +kernel
theorem dX9_meet_39 : decode cX9_meet 39 = .ok (.getfield 80, 3) := by decide +kernel
theorem dX9_meet_42 : decode cX9_meet 42 = .ok (.iload_n 2, 1) := by decide +kernel
theorem dX9_meet_43 : decode cX9_meet 43 = .ok (.aaload, 1) := by decide +kernel
theorem dX9_meet_44 : decode cX9_meet 44 = .ok (.astore 4, 2) := by decide +kernel
theorem dX9_meet_46 : decode cX9_meet 46 = .ok (.aload_n 3, 1) := by decide +kernel
theorem dX9_meet_47 : decode cX9_meet 47 = .ok (.aload 4, 2) := by decide +kernel
theorem dX9_meet_49 : decode cX9_meet 49 = .ok (.invokevirtual 125, 3) := by decide +kernel
theorem dX9_meet_52 : decode cX9_meet 52 = .ok (.ifCond .eq 18, 3) := by decide +kernel
theorem dX9_meet_55 : decode cX9_meet 55 = .ok (.aload_n 3, 1) := by decide +kernel
theorem dX9_meet_56 : decode cX9_meet 56 = .ok (.invokevirtual 150, 3) := by decide +kernel
theorem dX9_meet_59 : decode cX9_meet 59 = .ok (.ifCond .ne 11, 3) := by decide +kernel
theorem dX9_meet_62 : decode cX9_meet 62 = .ok (.aload 4, 2) := by decide +kernel
theorem dX9_meet_64 : decode cX9_meet 64 = .ok (.invokevirtual 150, 3) := by decide +kernel
theorem dX9_meet_67 : decode cX9_meet 67 = .ok (.ifCond .eq 6, 3) := by decide +kernel
theorem dX9_meet_70 : decode cX9_meet 70 = .ok (.bipush (-103), 2) := by decide +kernel
theorem dX9_meet_72 : decode cX9_meet 72 = .ok (.ireturn, 1) := by decide +kernel
theorem dX9_meet_73 : decode cX9_meet 73 = .ok (.aload_n 0, 1) := by decide +kernel
theorem dX9_meet_74 : decode cX9_meet 74 = .ok (.getfield 19, 3) := by decide +kernel
theorem dX9_meet_77 : decode cX9_meet 77 = .ok (.dup, 1) := by decide +kernel
theorem dX9_meet_78 : decode cX9_meet 78 = .ok (.getfield 153, 3) := by decide +kernel
theorem dX9_meet_81 : decode cX9_meet 81 = .ok (.iconst 1, 1) := by decide +kernel
theorem dX9_meet_82 : decode cX9_meet 82 = .ok (.iadd, 1) := by decide +kernel
theorem dX9_meet_83 : decode cX9_meet 83 = .ok (.putfield 153, 3) := by decide +kernel
theorem dX9_meet_86 : decode cX9_meet 86 = .ok (.aload_n 3, 1) := by decide +kernel
theorem dX9_meet_87 : decode cX9_meet 87 = .ok (.aload 4, 2) := by decide +kernel
theorem dX9_meet_89 : decode cX9_meet 89 = .ok (.getfield 156, 3) := by decide +kernel
theorem dX9_meet_92 : decode cX9_meet 92 = .ok (.invokevirtual 159, 3) := by decide +kernel
theorem dX9_meet_95 : decode cX9_meet 95 = .ok (.ifCond .eq 28, 3) := by decide +kernel
theorem dX9_meet_98 : decode cX9_meet 98 = .ok (.aload 4, 2) := by decide +kernel
theorem dX9_meet_100 : decode cX9_meet 100 = .ok (.aload_n 3, 1) := by decide +kernel
theorem dX9_meet_101 : decode cX9_meet 101 = .ok (.getfield 156, 3) := by decide +kernel
theorem dX9_meet_104 : decode cX9_meet 104 = .ok (.invokevirtual 159, 3) := by decide +kernel
theorem dX9_meet_107 : decode cX9_meet 107 = .ok (.ifCond .eq 16, 3) := by decide +kernel
theorem dX9_meet_110 : decode cX9_meet 110 = .ok (.aload_n 3, 1) := by decide +kernel
theorem dX9_meet_111 : decode cX9_meet 111 = .ok (.iload_n 2, 1) := by decide +kernel
theorem dX9_meet_112 : decode cX9_meet 112 = .ok (.putfield 162, 3) := by decide +kernel
theorem dX9_meet_115 : decode cX9_meet 115 = .ok (.aload 4, 2) := by decide +kernel
theorem dX9_meet_117 : decode cX9_meet 117 = .ok (.iload_n 1, 1) := by decide +kernel
theorem dX9_meet_118 : decode cX9_meet 118 = .ok (.putfield 162, 3) := by decide +kernel
theorem dX9_meet_121 : decode cX9_meet 121 = .ok (.iconst 1, 1) := by decide +kernel
theorem dX9_meet_122 : decode cX9_meet 122 = .ok (.ireturn, 1) := by decide +kernel
theorem dX9_meet_123 : decode cX9_meet 123 = .ok (.aload_n 3, 1) := by decide +kernel
theorem dX9_meet_124 : decode cX9_meet 124 = .ok (.aload 4, 2) := by decide +kernel
theorem dX9_meet_126 : decode cX9_meet 126 = .ok (.invokevirtual 165, 3) := by decide +kernel
theorem dX9_meet_129 : decode cX9_meet 129 = .ok (.aload 4, 2) := by decide +kernel
theorem dX9_meet_131 : decode cX9_meet 131 = .ok (.aload_n 3, 1) := by decide +kernel
theorem dX9_meet_132 : decode cX9_meet 132 = .ok (.invokevirtual 165, 3) := by decide +kernel
theorem dX9_meet_135 : decode cX9_meet 135 = .ok (.iconst 0, 1) := by decide +kernel
theorem dX9_meet_136 : decode cX9_meet 136 = .ok (.ireturn, 1) := by decide +kernel
theorem dX9_part_0 : decode cX9_part 0 = .ok (.aload_n 0, 1) := by decide +kernel
theorem dX9_part_1 : decode cX9_part 1 = .ok (.getfield 19, 3) := by decide +kernel
theorem dX9_part_4 : decode cX9_part 4 = .ok (.iload_n 1, 1) := by decide +kernel
theorem dX9_part_5 : decode cX9_part 5 = .ok (.invokevirtual 77, 3) := by decide +kernel
theorem dX9_part_8 : decode cX9_part 8 = .ok (.ifCond .ne 6, 3) := by decide +kernel
theorem dX9_part_11 : decode cX9_part 11 = .ok (.bipush (-101), 2) := by decide +kernel
theorem dX9_part_13 : decode cX9_part 13 = .ok (.ireturn, 1) := by decide +kernel
theorem dX9_part_14 : decode cX9_part 14 = .ok (.aload_n 0, 1) := by decide +kernel
theorem dX9_part_15 : decode cX9_part 15 = .ok (.getfield 19, 3) := by decide +kernel
theorem dX9_part_18 : decode cX9_part 18 = .ok (.getfield 80, 3) := by decide +kernel
theorem dX9_part_21 : decode cX9_part 21 = .ok (.iload_n 1, 1) := by decide +kernel
theorem dX9_part_22 : decode cX9_part 22 = .ok (.aaload, 1) := by decide +kernel
theorem dX9_part_23 : decode cX9_part 23 = .ok (.astore_n 2, 1) := by decide +kernel
theorem dX9_part_24 : decode cX9_part 24 = .ok (.aload_n 2, 1) := by decide +kernel
theorem dX9_part_25 : decode cX9_part 25 = .ok (.getfield 162, 3) := by decide +kernel
theorem dX9_part_28 : decode cX9_part 28 = .ok (.istore_n 3, 1) := by decide +kernel
theorem dX9_part_29 : decode cX9_part 29 = .ok (.aload_n 0, 1) := by decide +kernel
theorem dX9_part_30 : decode cX9_part 30 = .ok (.getfield 19, 3) := by decide +kernel
theorem dX9_part_33 : decode cX9_part 33 = .ok (.iload_n 3, 1) := by decide +kernel
theorem dX9_part_34 : decode cX9_part 34 = .ok (.invokevirtual 77, 3) := by decide +kernel
theorem dX9_part_37 : decode cX9_part 37 = .ok (.ifCond .ne 6, 3) := by decide +kernel
theorem dX9_part_40 : decode cX9_part 40 = .ok (.bipush (-103), 2) := by decide +kernel
theorem dX9_part_42 : decode cX9_part 42 = .ok (.ireturn, 1) := by decide +kernel
theorem dX9_part_43 : decode cX9_part 43 = .ok (.aload_n 0, 1) := by decide +kernel
theorem dX9_part_44 : decode cX9_part 44 = .ok (.getfield 19, 3) := by decide +kernel
theorem dX9_part_47 : decode cX9_part 47 = .ok (.getfield 80, 3) := by decide +kernel
theorem dX9_part_50 : decode cX9_part 50 = .ok (.iload_n 3, 1) := by decide +kernel
theorem dX9_part_51 : decode cX9_part 51 = .ok (.aaload, 1) := by decide +kernel
theorem dX9_part_52 : decode cX9_part 52 = .ok (.astore 4, 2) := by decide +kernel
theorem dX9_part_54 : decode cX9_part 54 = .ok (.aload_n 2, 1) := by decide +kernel
theorem dX9_part_55 : decode cX9_part 55 = .ok (.iconst (-1), 1) := by decide +kernel
theorem dX9_part_56 : decode cX9_part 56 = .ok (.putfield 162, 3) := by decide +kernel
theorem dX9_part_59 : decode cX9_part 59 = .ok (.aload 4, 2) := by decide +kernel
theorem dX9_part_61 : decode cX9_part 61 = .ok (.iconst (-1), 1) := by decide +kernel
theorem dX9_part_62 : decode cX9_part 62 = .ok (.putfield 162, 3) := by decide +kernel
theorem dX9_part_65 : decode cX9_part 65 = .ok (.aload_n 2, 1) := by decide +kernel
theorem dX9_part_66 : decode cX9_part 66 = .ok (.aload 4, 2) := by decide +kernel
theorem dX9_part_68 : decode cX9_part 68 = .ok (.invokevirtual 165, 3) := by decide +kernel
theorem dX9_part_71 : decode cX9_part 71 = .ok (.aload 4, 2) := by decide +kernel
theorem dX9_part_73 : decode cX9_part 73 = .ok (.aload_n 2, 1) := by decide +kernel
theorem dX9_part_74 : decode cX9_part 74 = .ok (.invokevirtual 165, 3) := by decide +kernel
theorem dX9_part_77 : decode cX9_part 77 = .ok (.iload_n 3, 1) := by decide +kernel
theorem dX9_part_78 : decode cX9_part 78 = .ok (.ireturn, 1) := by decide +kernel
theorem dX9_lasting_0 : decode cX9_lasting 0 = .ok (.iload_n 1, 1) := by decide +kernel
theorem dX9_lasting_1 : decode cX9_lasting 1 = .ok (.invokestatic 168, 3) := by decide +kernel
theorem dX9_lasting_4 : decode cX9_lasting 4 = .ok (.ifCond .ne 6, 3) := by decide +kernel
theorem dX9_lasting_7 : decode cX9_lasting 7 = .ok (.bipush (-102), 2) := by decide +kernel
theorem dX9_lasting_9 : decode cX9_lasting 9 = .ok (.ireturn, 1) := by decide +kernel
theorem dX9_lasting_10 : decode cX9_lasting 10 = .ok (.aload_n 0, 1) := by decide +kernel
theorem dX9_lasting_11 : decode cX9_lasting 11 = .ok (.getfield 19, 3) := by decide +kernel
theorem dX9_lasting_14 : decode cX9_lasting 14 = .ok (.invokevirtual 111, 3) := by decide +kernel
theorem dX9_lasting_17 : decode cX9_lasting 17 = .ok (.ifCond .eq 6, 3) := by decide +kernel
theorem dX9_lasting_20 : decode cX9_lasting 20 = .ok (.bipush (-103), 2) := by decide +kernel
theorem dX9_lasting_22 : decode cX9_lasting 22 = .ok (.ireturn, 1) := by decide +kernel
theorem dX9_lasting_23 : decode cX9_lasting 23 = .ok (.aload_n 0, 1) := by decide +kernel
theorem dX9_lasting_24 : decode cX9_lasting 24 = .ok (.getfield 36, 3) := by decide +kernel
theorem dX9_lasting_27 : decode cX9_lasting 27 = .ok (.aload_n 0, 1) := by decide +kernel
theorem dX9_lasting_28 : decode cX9_lasting 28 = .ok (.getfield 19, 3) := by decide +kernel
theorem dX9_lasting_31 : decode cX9_lasting 31 = .ok (.invokevirtual 171, 3) := by decide +kernel
theorem dX9_lasting_34 : decode cX9_lasting 34 = .ok (.aload_n 0, 1) := by decide +kernel
theorem dX9_lasting_35 : decode cX9_lasting 35 = .ok (.getfield 36, 3) := by decide +kernel
theorem dX9_lasting_38 : decode cX9_lasting 38 = .ok (.iload_n 1, 1) := by decide +kernel
theorem dX9_lasting_39 : decode cX9_lasting 39 = .ok (.invokevirtual 175, 3) := by decide +kernel
theorem dX9_lasting_42 : decode cX9_lasting 42 = .ok (.ireturn, 1) := by decide +kernel
theorem dX9_mutual_0 : decode cX9_mutual 0 = .ok (.aload_n 0, 1) := by decide +kernel
theorem dX9_mutual_1 : decode cX9_mutual 1 = .ok (.getfield 19, 3) := by decide +kernel
theorem dX9_mutual_4 : decode cX9_mutual 4 = .ok (.invokevirtual 111, 3) := by decide +kernel
theorem dX9_mutual_7 : decode cX9_mutual 7 = .ok (.ifCond .eq 6, 3) := by decide +kernel
theorem dX9_mutual_10 : decode cX9_mutual 10 = .ok (.bipush (-103), 2) := by decide +kernel
theorem dX9_mutual_12 : decode cX9_mutual 12 = .ok (.ireturn, 1) := by decide +kernel
theorem dX9_mutual_13 : decode cX9_mutual 13 = .ok (.aload_n 0, 1) := by decide +kernel
theorem dX9_mutual_14 : decode cX9_mutual 14 = .ok (.getfield 19, 3) := by decide +kernel
theorem dX9_mutual_17 : decode cX9_mutual 17 = .ok (.invokevirtual 179, 3) := by decide +kernel
theorem dX9_mutual_20 : decode cX9_mutual 20 = .ok (.ireturn, 1) := by decide +kernel
theorem dX9_comes_0 : decode cX9_comes 0 = .ok (.iload_n 1, 1) := by decide +kernel
theorem dX9_comes_1 : decode cX9_comes 1 = .ok (.invokestatic 182, 3) := by decide +kernel
theorem dX9_comes_4 : decode cX9_comes 4 = .ok (.ifCond .eq 17, 3) := by decide +kernel
theorem dX9_comes_7 : decode cX9_comes 7 = .ok (.iload_n 2, 1) := by decide +kernel
theorem dX9_comes_8 : decode cX9_comes 8 = .ok (.invokestatic 108, 3) := by decide +kernel
theorem dX9_comes_11 : decode cX9_comes 11 = .ok (.ifCond .eq 10, 3) := by decide +kernel
theorem dX9_comes_14 : decode cX9_comes 14 = .ok (.iload_n 3, 1) := by decide +kernel
theorem dX9_comes_15 : decode cX9_comes 15 = .ok (.invokestatic 185, 3) := by decide +kernel
theorem dX9_comes_18 : decode cX9_comes 18 = .ok (.ifCond .ne 6, 3) := by decide +kernel
theorem dX9_comes_21 : decode cX9_comes 21 = .ok (.bipush (-102), 2) := by decide +kernel
theorem dX9_comes_23 : decode cX9_comes 23 = .ok (.ireturn, 1) := by decide +kernel
theorem dX9_comes_24 : decode cX9_comes 24 = .ok (.aload_n 0, 1) := by decide +kernel
theorem dX9_comes_25 : decode cX9_comes 25 = .ok (.getfield 19, 3) := by decide +kernel
theorem dX9_comes_28 : decode cX9_comes 28 = .ok (.invokevirtual 111, 3) := by decide +kernel
theorem dX9_comes_31 : decode cX9_comes 31 = .ok (.ifCond .eq 6, 3) := by decide +kernel
theorem dX9_comes_34 : decode cX9_comes 34 = .ok (.bipush (-103), 2) := by decide +kernel
theorem dX9_comes_36 : decode cX9_comes 36 = .ok (.ireturn, 1) := by decide +kernel
theorem dX9_comes_37 : decode cX9_comes 37 = .ok (.aload_n 0, 1) := by decide +kernel
theorem dX9_comes_38 : decode cX9_comes 38 = .ok (.getfield 29, 3) := by decide +kernel
theorem dX9_comes_41 : decode cX9_comes 41 = .ok (.aload_n 0, 1) := by decide +kernel
theorem dX9_comes_42 : decode cX9_comes 42 = .ok (.getfield 19, 3) := by decide +kernel
theorem dX9_comes_45 : decode cX9_comes 45 = .ok (.iload_n 1, 1) := by decide +kernel
theorem dX9_comes_46 : decode cX9_comes 46 = .ok (.iload_n 2, 1) := by decide +kernel
theorem dX9_comes_47 : decode cX9_comes 47 = .ok (.iload_n 3, 1) := by decide +kernel
theorem dX9_comes_48 : decode cX9_comes 48 = .ok (.invokevirtual 188, 3) := by decide +kernel
theorem dX9_comes_51 : decode cX9_comes 51 = .ok (.ireturn, 1) := by decide +kernel
theorem dX9_best_0 : decode cX9_best 0 = .ok (.iload_n 1, 1) := by decide +kernel
theorem dX9_best_1 : decode cX9_best 1 = .ok (.invokestatic 182, 3) := by decide +kernel
theorem dX9_best_4 : decode cX9_best 4 = .ok (.ifCond .eq 10, 3) := by decide +kernel
theorem dX9_best_7 : decode cX9_best 7 = .ok (.iload_n 2, 1) := by decide +kernel
theorem dX9_best_8 : decode cX9_best 8 = .ok (.invokestatic 185, 3) := by decide +kernel
theorem dX9_best_11 : decode cX9_best 11 = .ok (.ifCond .ne 6, 3) := by decide +kernel
theorem dX9_best_14 : decode cX9_best 14 = .ok (.bipush (-102), 2) := by decide +kernel
theorem dX9_best_16 : decode cX9_best 16 = .ok (.ireturn, 1) := by decide +kernel
theorem dX9_best_17 : decode cX9_best 17 = .ok (.aload_n 0, 1) := by decide +kernel
theorem dX9_best_18 : decode cX9_best 18 = .ok (.getfield 19, 3) := by decide +kernel
theorem dX9_best_21 : decode cX9_best 21 = .ok (.invokevirtual 111, 3) := by decide +kernel
theorem dX9_best_24 : decode cX9_best 24 = .ok (.ifCond .eq 6, 3) := by decide +kernel
theorem dX9_best_27 : decode cX9_best 27 = .ok (.bipush (-103), 2) := by decide +kernel
theorem dX9_best_29 : decode cX9_best 29 = .ok (.ireturn, 1) := by decide +kernel
theorem dX9_best_30 : decode cX9_best 30 = .ok (.aload_n 0, 1) := by decide +kernel
theorem dX9_best_31 : decode cX9_best 31 = .ok (.getfield 29, 3) := by decide +kernel
theorem dX9_best_34 : decode cX9_best 34 = .ok (.aload_n 0, 1) := by decide +kernel
theorem dX9_best_35 : decode cX9_best 35 = .ok (.getfield 19, 3) := by decide +kernel
theorem dX9_best_38 : decode cX9_best 38 = .ok (.iload_n 1, 1) := by decide +kernel
theorem dX9_best_39 : decode cX9_best 39 = .ok (.iload_n 2, 1) := by decide +kernel
theorem dX9_best_40 : decode cX9_best 40 = .ok (.invokevirtual 192, 3) := by decide +kernel
theorem dX9_best_43 : decode cX9_best 43 = .ok (.ireturn, 1) := by decide +kernel
theorem dX9_waiting_0 : decode cX9_waiting 0 = .ok (.iload_n 1, 1) := by decide +kernel
theorem dX9_waiting_1 : decode cX9_waiting 1 = .ok (.invokestatic 196, 3) := by decide +kernel
theorem dX9_waiting_4 : decode cX9_waiting 4 = .ok (.ifCond .eq 23, 3) := by decide +kernel
theorem dX9_waiting_7 : decode cX9_waiting 7 = .ok (.iload_n 2, 1) := by decide +kernel
theorem dX9_waiting_8 : decode cX9_waiting 8 = .ok (.iconst 0, 1) := by decide +kernel
theorem dX9_waiting_9 : decode cX9_waiting 9 = .ok (.iload_n 1, 1) := by decide +kernel
theorem dX9_waiting_10 : decode cX9_waiting 10 = .ok (.iconst 1, 1) := by decide +kernel
theorem dX9_waiting_11 : decode cX9_waiting 11 = .ok (.isub, 1) := by decide +kernel
theorem dX9_waiting_12 : decode cX9_waiting 12 = .ok (.invokestatic 40, 3) := by decide +kernel
theorem dX9_waiting_15 : decode cX9_waiting 15 = .ok (.ifCond .eq 12, 3) := by decide +kernel
theorem dX9_waiting_18 : decode cX9_waiting 18 = .ok (.iload_n 3, 1) := by decide +kernel
theorem dX9_waiting_19 : decode cX9_waiting 19 = .ok (.iconst 0, 1) := by decide +kernel
theorem dX9_waiting_20 : decode cX9_waiting 20 = .ok (.iconst 1, 1) := by decide +kernel
theorem dX9_waiting_21 : decode cX9_waiting 21 = .ok (.invokestatic 40, 3) := by decide +kernel
theorem dX9_waiting_24 : decode cX9_waiting 24 = .ok (.ifCond .ne 6, 3) := by decide +kernel
theorem dX9_waiting_27 : decode cX9_waiting 27 = .ok (.bipush (-102), 2) := by decide +kernel
theorem dX9_waiting_29 : decode cX9_waiting 29 = .ok (.ireturn, 1) := by decide +kernel
theorem dX9_waiting_30 : decode cX9_waiting 30 = .ok (.iload_n 1, 1) := by decide +kernel
theorem dX9_waiting_31 : decode cX9_waiting 31 = .ok (.iload_n 2, 1) := by decide +kernel
theorem dX9_waiting_32 : decode cX9_waiting 32 = .ok (.invokestatic 201, 3) := by decide +kernel
theorem dX9_waiting_35 : decode cX9_waiting 35 = .ok (.istore 4, 2) := by decide +kernel
theorem dX9_waiting_37 : decode cX9_waiting 37 = .ok (.iload_n 1, 1) := by decide +kernel
theorem dX9_waiting_38 : decode cX9_waiting 38 = .ok (.invokestatic 205, 3) := by decide +kernel
theorem dX9_waiting_41 : decode cX9_waiting 41 = .ok (.istore 5, 2) := by decide +kernel
theorem dX9_waiting_43 : decode cX9_waiting 43 = .ok (.iload 4, 2) := by decide +kernel
theorem dX9_waiting_45 : decode cX9_waiting 45 = .ok (.iload 5, 2) := by decide +kernel
theorem dX9_waiting_47 : decode cX9_waiting 47 = .ok (.invokestatic 208, 3) := by decide +kernel
theorem dX9_waiting_50 : decode cX9_waiting 50 = .ok (.istore 6, 2) := by decide +kernel
theorem dX9_waiting_52 : decode cX9_waiting 52 = .ok (.iload_n 3, 1) := by decide +kernel
theorem dX9_waiting_53 : decode cX9_waiting 53 = .ok (.ifCond .ne 8, 3) := by decide +kernel
theorem dX9_waiting_56 : decode cX9_waiting 56 = .ok (.iload 4, 2) := by decide +kernel
theorem dX9_waiting_58 : decode cX9_waiting 58 = .ok (.goto 5, 3) := by decide +kernel
theorem dX9_waiting_61 : decode cX9_waiting 61 = .ok (.iload 5, 2) := by decide +kernel
theorem dX9_waiting_63 : decode cX9_waiting 63 = .ok (.iload 6, 2) := by decide +kernel
theorem dX9_waiting_65 : decode cX9_waiting 65 = .ok (.idiv, 1) := by decide +kernel
theorem dX9_waiting_66 : decode cX9_waiting 66 = .ok (.ireturn, 1) := by decide +kernel
theorem dX9_howMany_0 : decode cX9_howMany 0 = .ok (.iload_n 1, 1) := by decide +kernel
theorem dX9_howMany_1 : decode cX9_howMany 1 = .ok (.invokestatic 196, 3) := by decide +kernel
theorem dX9_howMany_4 : decode cX9_howMany 4 = .ok (.ifCond .ne 6, 3) := by decide +kernel
theorem dX9_howMany_7 : decode cX9_howMany 7 = .ok (.bipush (-102), 2) := by decide +kernel
theorem dX9_howMany_9 : decode cX9_howMany 9 = .ok (.ireturn, 1) := by decide +kernel
theorem dX9_howMany_10 : decode cX9_howMany 10 = .ok (.iload_n 1, 1) := by decide +kernel
theorem dX9_howMany_11 : decode cX9_howMany 11 = .ok (.invokestatic 211, 3) := by decide +kernel
theorem dX9_howMany_14 : decode cX9_howMany 14 = .ok (.ireturn, 1) := by decide +kernel
theorem dX9_see_0 : decode cX9_see 0 = .ok (.aload_n 0, 1) := by decide +kernel
theorem dX9_see_1 : decode cX9_see 1 = .ok (.getfield 19, 3) := by decide +kernel
theorem dX9_see_4 : decode cX9_see 4 = .ok (.iload_n 1, 1) := by decide +kernel
theorem dX9_see_5 : decode cX9_see 5 = .ok (.invokevirtual 77, 3) := by decide +kernel
theorem dX9_see_8 : decode cX9_see 8 = .ok (.ifCond .eq 14, 3) := by decide +kernel
theorem dX9_see_11 : decode cX9_see 11 = .ok (.aload_n 0, 1) := by decide +kernel
theorem dX9_see_12 : decode cX9_see 12 = .ok (.getfield 19, 3) := by decide +kernel
theorem dX9_see_15 : decode cX9_see 15 = .ok (.iload_n 2, 1) := by decide +kernel
theorem dX9_see_16 : decode cX9_see 16 = .ok (.invokevirtual 77, 3) := by decide +kernel
theorem dX9_see_19 : decode cX9_see 19 = .ok (.ifCond .ne 6, 3) := by decide +kernel
theorem dX9_see_22 : decode cX9_see 22 = .ok (.bipush (-101), 2) := by decide +kernel
theorem dX9_see_24 : decode cX9_see 24 = .ok (.ireturn, 1) := by decide +kernel
theorem dX9_see_25 : decode cX9_see 25 = .ok (.aload_n 0, 1) := by decide +kernel
theorem dX9_see_26 : decode cX9_see 26 = .ok (.getfield 19, 3) := by decide +kernel
theorem dX9_see_29 : decode cX9_see 29 = .ok (.getfield 80, 3) := by decide +kernel
theorem dX9_see_32 : decode cX9_see 32 = .ok (.iload_n 1, 1) := by decide +kernel
theorem dX9_see_33 : decode cX9_see 33 = .ok (.aaload, 1) := by decide +kernel
theorem dX9_see_34 : decode cX9_see 34 = .ok (.getfield 214, 3) := by decide +kernel
theorem dX9_see_37 : decode cX9_see 37 = .ok (.aload_n 0, 1) := by decide +kernel
theorem dX9_see_38 : decode cX9_see 38 = .ok (.getfield 19, 3) := by decide +kernel
theorem dX9_see_41 : decode cX9_see 41 = .ok (.getfield 80, 3) := by decide +kernel
theorem dX9_see_44 : decode cX9_see 44 = .ok (.iload_n 2, 1) := by decide +kernel
theorem dX9_see_45 : decode cX9_see 45 = .ok (.aaload, 1) := by decide +kernel
theorem dX9_see_46 : decode cX9_see 46 = .ok (.getfield 214, 3) := by decide +kernel
theorem dX9_see_49 : decode cX9_see 49 = .ok (.if_icmp .ne 6, 3) := by decide +kernel
theorem dX9_see_52 : decode cX9_see 52 = .ok (.bipush (-103), 2) := by decide +kernel
theorem dX9_see_54 : decode cX9_see 54 = .ok (.ireturn, 1) := by decide +kernel
theorem dX9_see_55 : decode cX9_see 55 = .ok (.aload_n 0, 1) := by decide +kernel
theorem dX9_see_56 : decode cX9_see 56 = .ok (.getfield 19, 3) := by decide +kernel
theorem dX9_see_59 : decode cX9_see 59 = .ok (.getfield 217, 3) := by decide +kernel
theorem dX9_see_62 : decode cX9_see 62 = .ok (.iload_n 1, 1) := by decide +kernel
theorem dX9_see_63 : decode cX9_see 63 = .ok (.iload_n 2, 1) := by decide +kernel
theorem dX9_see_64 : decode cX9_see 64 = .ok (.iload_n 3, 1) := by decide +kernel
theorem dX9_see_65 : decode cX9_see 65 = .ok (.invokevirtual 221, 3) := by decide +kernel
theorem dX9_see_68 : decode cX9_see 68 = .ok (.ifCond .eq 16, 3) := by decide +kernel
theorem dX9_see_71 : decode cX9_see 71 = .ok (.aload_n 0, 1) := by decide +kernel
theorem dX9_see_72 : decode cX9_see 72 = .ok (.getfield 19, 3) := by decide +kernel
theorem dX9_see_75 : decode cX9_see 75 = .ok (.getfield 217, 3) := by decide +kernel
theorem dX9_see_78 : decode cX9_see 78 = .ok (.getfield 226, 3) := by decide +kernel
theorem dX9_see_81 : decode cX9_see 81 = .ok (.goto 5, 3) := by decide +kernel
theorem dX9_see_84 : decode cX9_see 84 = .ok (.bipush (-104), 2) := by decide +kernel
theorem dX9_see_86 : decode cX9_see 86 = .ok (.ireturn, 1) := by decide +kernel
theorem dX9_forget_0 : decode cX9_forget 0 = .ok (.aload_n 0, 1) := by decide +kernel
theorem dX9_forget_1 : decode cX9_forget 1 = .ok (.getfield 19, 3) := by decide +kernel
theorem dX9_forget_4 : decode cX9_forget 4 = .ok (.getfield 217, 3) := by decide +kernel
theorem dX9_forget_7 : decode cX9_forget 7 = .ok (.getfield 226, 3) := by decide +kernel
theorem dX9_forget_10 : decode cX9_forget 10 = .ok (.istore_n 1, 1) := by decide +kernel
theorem dX9_forget_11 : decode cX9_forget 11 = .ok (.aload_n 0, 1) := by decide +kernel
theorem dX9_forget_12 : decode cX9_forget 12 = .ok (.getfield 19, 3) := by decide +kernel
theorem dX9_forget_15 : decode cX9_forget 15 = .ok (.getfield 217, 3) := by decide +kernel
theorem dX9_forget_18 : decode cX9_forget 18 = .ok (.invokevirtual 227, 3) := by decide +kernel
theorem dX9_forget_21 : decode cX9_forget 21 = .ok (.iload_n 1, 1) := by decide +kernel
theorem dX9_forget_22 : decode cX9_forget 22 = .ok (.ireturn, 1) := by decide +kernel
theorem dX9_seasons_0 : decode cX9_seasons 0 = .ok (.iload_n 1, 1) := by decide +kernel
theorem dX9_seasons_1 : decode cX9_seasons 1 = .ok (.iconst 1, 1) := by decide +kernel
theorem dX9_seasons_2 : decode cX9_seasons 2 = .ok (.bipush 60, 2) := by decide +kernel
theorem dX9_seasons_4 : decode cX9_seasons 4 = .ok (.invokestatic 40, 3) := by decide +kernel
theorem dX9_seasons_7 : decode cX9_seasons 7 = .ok (.ifCond .eq 16, 3) := by decide +kernel
theorem dX9_seasons_10 : decode cX9_seasons 10 = .ok (.iload_n 2, 1) := by decide +kernel
theorem dX9_seasons_11 : decode cX9_seasons 11 = .ok (.ifCond .lt 12, 3) := by decide +kernel
theorem dX9_seasons_14 : decode cX9_seasons 14 = .ok (.iload_n 3, 1) := by decide +kernel
theorem dX9_seasons_15 : decode cX9_seasons 15 = .ok (.iconst 0, 1) := by decide +kernel
theorem dX9_seasons_16 : decode cX9_seasons 16 = .ok (.iconst 2, 1) := by decide +kernel
theorem dX9_seasons_17 : decode cX9_seasons 17 = .ok (.invokestatic 40, 3) := by decide +kernel
theorem dX9_seasons_20 : decode cX9_seasons 20 = .ok (.ifCond .ne 6, 3) := by decide +kernel
theorem dX9_seasons_23 : decode cX9_seasons 23 = .ok (.bipush (-102), 2) := by decide +kernel
theorem dX9_seasons_25 : decode cX9_seasons 25 = .ok (.ireturn, 1) := by decide +kernel
theorem dX9_seasons_26 : decode cX9_seasons 26 = .ok (.aload_n 0, 1) := by decide +kernel
theorem dX9_seasons_27 : decode cX9_seasons 27 = .ok (.getfield 19, 3) := by decide +kernel
theorem dX9_seasons_30 : decode cX9_seasons 30 = .ok (.invokevirtual 111, 3) := by decide +kernel
theorem dX9_seasons_33 : decode cX9_seasons 33 = .ok (.ifCond .eq 6, 3) := by decide +kernel
theorem dX9_seasons_36 : decode cX9_seasons 36 = .ok (.bipush (-103), 2) := by decide +kernel
theorem dX9_seasons_38 : decode cX9_seasons 38 = .ok (.ireturn, 1) := by decide +kernel
theorem dX9_seasons_39 : decode cX9_seasons 39 = .ok (.iload_n 2, 1) := by decide +kernel
theorem dX9_seasons_40 : decode cX9_seasons 40 = .ok (.i2l, 1) := by decide +kernel
theorem dX9_seasons_41 : decode cX9_seasons 41 = .ok (.lstore 4, 2) := by decide +kernel
theorem dX9_seasons_43 : decode cX9_seasons 43 = .ok (.iconst 0, 1) := by decide +kernel
theorem dX9_seasons_44 : decode cX9_seasons 44 = .ok (.istore 6, 2) := by decide +kernel
theorem dX9_seasons_46 : decode cX9_seasons 46 = .ok (.iconst 0, 1) := by decide +kernel
theorem dX9_seasons_47 : decode cX9_seasons 47 = .ok (.istore 7, 2) := by decide +kernel
theorem dX9_seasons_49 : decode cX9_seasons 49 = .ok (.iconst 0, 1) := by decide +kernel
theorem dX9_seasons_50 : decode cX9_seasons 50 = .ok (.istore 8, 2) := by decide +kernel
theorem dX9_seasons_52 : decode cX9_seasons 52 = .ok (.iload 8, 2) := by decide +kernel
theorem dX9_seasons_54 : decode cX9_seasons 54 = .ok (.iload_n 1, 1) := by decide +kernel
theorem dX9_seasons_55 : decode cX9_seasons 55 = .ok (.if_icmp .ge 125, 3) := by decide +kernel
theorem dX9_seasons_58 : decode cX9_seasons 58 = .ok (.lload 4, 2) := by decide +kernel
theorem dX9_seasons_60 : decode cX9_seasons 60 = .ok (.invokestatic 228, 3) := by decide +kernel
theorem dX9_seasons_63 : decode cX9_seasons 63 = .ok (.lstore 4, 2) := by decide +kernel
theorem dX9_seasons_65 : decode cX9_seasons 65 = .ok (.aload_n 0, 1) := by decide +kernel
theorem dX9_seasons_66 : decode cX9_seasons 66 = .ok (.getfield 19, 3) := by decide +kernel
theorem dX9_seasons_69 : decode cX9_seasons 69 = .ok (.getfield 80, 3) := by decide +kernel
theorem dX9_seasons_72 : decode cX9_seasons 72 = .ok (.lload 4, 2) := by decide +kernel
theorem dX9_seasons_74 : decode cX9_seasons 74 = .ok (.aload_n 0, 1) := by decide +kernel
theorem dX9_seasons_75 : decode cX9_seasons 75 = .ok (.getfield 19, 3) := by decide +kernel
theorem dX9_seasons_78 : decode cX9_seasons 78 = .ok (.getfield 234, 3) := by decide +kernel
theorem dX9_seasons_81 : decode cX9_seasons 81 = .ok (.invokestatic 237, 3) := by decide +kernel
theorem dX9_seasons_84 : decode cX9_seasons 84 = .ok (.aaload, 1) := by decide +kernel
theorem dX9_seasons_85 : decode cX9_seasons 85 = .ok (.astore 9, 2) := by decide +kernel
theorem dX9_seasons_87 : decode cX9_seasons 87 = .ok (.lload 4, 2) := by decide +kernel
theorem dX9_seasons_89 : decode cX9_seasons 89 = .ok (.invokestatic 228, 3) := by decide +kernel
theorem dX9_seasons_92 : decode cX9_seasons 92 = .ok (.lstore 4, 2) := by decide +kernel
theorem dX9_seasons_94 : decode cX9_seasons 94 = .ok (.aload_n 0, 1) := by decide +kernel
theorem dX9_seasons_95 : decode cX9_seasons 95 = .ok (.getfield 19, 3) := by decide +kernel
theorem dX9_seasons_98 : decode cX9_seasons 98 = .ok (.getfield 80, 3) := by decide +kernel
theorem dX9_seasons_101 : decode cX9_seasons 101 = .ok (.aload_n 0, 1) := by decide +kernel
theorem dX9_seasons_102 : decode cX9_seasons 102 = .ok (.getfield 19, 3) := by decide +kernel
theorem dX9_seasons_105 : decode cX9_seasons 105 = .ok (.getfield 234, 3) := by decide +kernel
theorem dX9_seasons_108 : decode cX9_seasons 108 = .ok (.lload 4, 2) := by decide +kernel
theorem dX9_seasons_110 : decode cX9_seasons 110 = .ok (.aload_n 0, 1) := by decide +kernel
theorem dX9_seasons_111 : decode cX9_seasons 111 = .ok (.getfield 19, 3) := by decide +kernel
theorem dX9_seasons_114 : decode cX9_seasons 114 = .ok (.getfield 74, 3) := by decide +kernel
theorem dX9_seasons_117 : decode cX9_seasons 117 = .ok (.aload_n 0, 1) := by decide +kernel
theorem dX9_seasons_118 : decode cX9_seasons 118 = .ok (.getfield 19, 3) := by decide +kernel
theorem dX9_seasons_121 : decode cX9_seasons 121 = .ok (.getfield 234, 3) := by decide +kernel
theorem dX9_seasons_124 : decode cX9_seasons 124 = .ok (.isub, 1) := by decide +kernel
theorem dX9_seasons_125 : decode cX9_seasons 125 = .ok (.invokestatic 237, 3) := by decide +kernel
theorem dX9_seasons_128 : decode cX9_seasons 128 = .ok (.iadd, 1) := by decide +kernel
theorem dX9_seasons_129 : decode cX9_seasons 129 = .ok (.aaload, 1) := by decide +kernel
theorem dX9_seasons_130 : decode cX9_seasons 130 = .ok (.astore 10, 2) := by decide +kernel
theorem dX9_seasons_132 : decode cX9_seasons 132 = .ok (.aload 9, 2) := by decide +kernel
theorem dX9_seasons_134 : decode cX9_seasons 134 = .ok (.aload 10, 2) := by decide +kernel
theorem dX9_seasons_136 : decode cX9_seasons 136 = .ok (.invokevirtual 241, 3) := by decide +kernel
theorem dX9_seasons_139 : decode cX9_seasons 139 = .ok (.ifCond .eq 35, 3) := by decide +kernel
theorem dX9_seasons_142 : decode cX9_seasons 142 = .ok (.aload 10, 2) := by decide +kernel
theorem dX9_seasons_144 : decode cX9_seasons 144 = .ok (.aload 9, 2) := by decide +kernel
theorem dX9_seasons_146 : decode cX9_seasons 146 = .ok (.invokevirtual 241, 3) := by decide +kernel
theorem dX9_seasons_149 : decode cX9_seasons 149 = .ok (.ifCond .eq 25, 3) := by decide +kernel
theorem dX9_seasons_152 : decode cX9_seasons 152 = .ok (.iinc 6 1, 3) := by decide +kernel
theorem dX9_seasons_155 : decode cX9_seasons 155 = .ok (.iload 7, 2) := by decide +kernel
theorem dX9_seasons_157 : decode cX9_seasons 157 = .ok (.aload 9, 2) := by decide +kernel
theorem dX9_seasons_159 : decode cX9_seasons 159 = .ok (.getfield 156, 3) := by decide +kernel
theorem dX9_seasons_162 : decode cX9_seasons 162 = .ok (.aload 10, 2) := by decide +kernel
theorem dX9_seasons_164 : decode cX9_seasons 164 = .ok (.getfield 156, 3) := by decide +kernel
theorem dX9_seasons_167 : decode cX9_seasons 167 = .ok (.isub, 1) := by decide +kernel
theorem dX9_seasons_168 : decode cX9_seasons 168 = .ok (.invokestatic 244, 3) := by decide +kernel
theorem dX9_seasons_171 : decode cX9_seasons 171 = .ok (.iadd, 1) := by decide +kernel
theorem dX9_seasons_172 : decode cX9_seasons 172 = .ok (.istore 7, 2) := by decide +kernel
theorem dX9_seasons_174 : decode cX9_seasons 174 = .ok (.iinc 8 1, 3) := by decide +kernel
theorem dX9_seasons_177 : decode cX9_seasons 177 = .ok (.goto (-125), 3) := by decide +kernel
theorem dX9_seasons_180 : decode cX9_seasons 180 = .ok (.iload_n 3, 1) := by decide +kernel
theorem dX9_seasons_181 : decode cX9_seasons 181 = .ok (.iconst 2, 1) := by decide +kernel
theorem dX9_seasons_182 : decode cX9_seasons 182 = .ok (.if_icmp .ne 7, 3) := by decide +kernel
theorem dX9_seasons_185 : decode cX9_seasons 185 = .ok (.lload 4, 2) := by decide +kernel
theorem dX9_seasons_187 : decode cX9_seasons 187 = .ok (.l2i, 1) := by decide +kernel
theorem dX9_seasons_188 : decode cX9_seasons 188 = .ok (.ireturn, 1) := by decide +kernel
theorem dX9_seasons_189 : decode cX9_seasons 189 = .ok (.iload_n 3, 1) := by decide +kernel
theorem dX9_seasons_190 : decode cX9_seasons 190 = .ok (.ifCond .ne 8, 3) := by decide +kernel
theorem dX9_seasons_193 : decode cX9_seasons 193 = .ok (.iload 6, 2) := by decide +kernel
theorem dX9_seasons_195 : decode cX9_seasons 195 = .ok (.goto 5, 3) := by decide +kernel
theorem dX9_seasons_198 : decode cX9_seasons 198 = .ok (.iload 7, 2) := by decide +kernel
theorem dX9_seasons_200 : decode cX9_seasons 200 = .ok (.ireturn, 1) := by decide +kernel
theorem dX9_image_0 : decode cX9_image 0 = .ok (.aload_n 0, 1) := by decide +kernel
theorem dX9_image_1 : decode cX9_image 1 = .ok (.getfield 19, 3) := by decide +kernel
theorem dX9_image_4 : decode cX9_image 4 = .ok (.invokevirtual 111, 3) := by decide +kernel
theorem dX9_image_7 : decode cX9_image 7 = .ok (.ifCond .eq 6, 3) := by decide +kernel
theorem dX9_image_10 : decode cX9_image 10 = .ok (.bipush (-103), 2) := by decide +kernel
theorem dX9_image_12 : decode cX9_image 12 = .ok (.ireturn, 1) := by decide +kernel
theorem dX9_image_13 : decode cX9_image 13 = .ok (.aload_n 0, 1) := by decide +kernel
theorem dX9_image_14 : decode cX9_image 14 = .ok (.getfield 23, 3) := by decide +kernel
theorem dX9_image_17 : decode cX9_image 17 = .ok (.aload_n 0, 1) := by decide +kernel
theorem dX9_image_18 : decode cX9_image 18 = .ok (.getfield 19, 3) := by decide +kernel
theorem dX9_image_21 : decode cX9_image 21 = .ok (.invokevirtual 249, 3) := by decide +kernel
theorem dX9_image_24 : decode cX9_image 24 = .ok (.aload_n 0, 1) := by decide +kernel
theorem dX9_image_25 : decode cX9_image 25 = .ok (.iconst 1, 1) := by decide +kernel
theorem dX9_image_26 : decode cX9_image 26 = .ok (.putfield 67, 3) := by decide +kernel
theorem dX9_image_29 : decode cX9_image 29 = .ok (.aload_n 0, 1) := by decide +kernel
theorem dX9_image_30 : decode cX9_image 30 = .ok (.getfield 23, 3) := by decide +kernel
theorem dX9_image_33 : decode cX9_image 33 = .ok (.getfield 144, 3) := by decide +kernel
theorem dX9_image_36 : decode cX9_image 36 = .ok (.ireturn, 1) := by decide +kernel
theorem dX9_restore_0 : decode cX9_restore 0 = .ok (.aload_n 0, 1) := by decide +kernel
theorem dX9_restore_1 : decode cX9_restore 1 = .ok (.getfield 67, 3) := by decide +kernel
theorem dX9_restore_4 : decode cX9_restore 4 = .ok (.ifCond .ne 6, 3) := by decide +kernel
theorem dX9_restore_7 : decode cX9_restore 7 = .ok (.bipush (-103), 2) := by decide +kernel
theorem dX9_restore_9 : decode cX9_restore 9 = .ok (.ireturn, 1) := by decide +kernel
theorem dX9_restore_10 : decode cX9_restore 10 = .ok (.aload_n 0, 1) := by decide +kernel
theorem dX9_restore_11 : decode cX9_restore 11 = .ok (.getfield 19, 3) := by decide +kernel
theorem dX9_restore_14 : decode cX9_restore 14 = .ok (.aload_n 0, 1) := by decide +kernel
theorem dX9_restore_15 : decode cX9_restore 15 = .ok (.getfield 23, 3) := by decide +kernel
theorem dX9_restore_18 : decode cX9_restore 18 = .ok (.invokevirtual 249, 3) := by decide +kernel
theorem dX9_restore_21 : decode cX9_restore 21 = .ok (.aload_n 0, 1) := by decide +kernel
theorem dX9_restore_22 : decode cX9_restore 22 = .ok (.getfield 19, 3) := by decide +kernel
theorem dX9_restore_25 : decode cX9_restore 25 = .ok (.getfield 144, 3) := by decide +kernel
theorem dX9_restore_28 : decode cX9_restore 28 = .ok (.ireturn, 1) := by decide +kernel
theorem dX9_count_0 : decode cX9_count 0 = .ok (.iload_n 1, 1) := by decide +kernel
theorem dX9_count_1 : decode cX9_count 1 = .ok (.bipush 13, 2) := by decide +kernel
theorem dX9_count_3 : decode cX9_count 3 = .ok (.if_icmp .ne 11, 3) := by decide +kernel
theorem dX9_count_6 : decode cX9_count 6 = .ok (.aload_n 0, 1) := by decide +kernel
theorem dX9_count_7 : decode cX9_count 7 = .ok (.getfield 12, 3) := by decide +kernel
theorem dX9_count_10 : decode cX9_count 10 = .ok (.getfield 48, 3) := by decide +kernel
theorem dX9_count_13 : decode cX9_count 13 = .ok (.ireturn, 1) := by decide +kernel
theorem dX9_count_14 : decode cX9_count 14 = .ok (.iload_n 1, 1) := by decide +kernel
theorem dX9_count_15 : decode cX9_count 15 = .ok (.bipush 14, 2) := by decide +kernel
theorem dX9_count_17 : decode cX9_count 17 = .ok (.if_icmp .ne 8, 3) := by decide +kernel
theorem dX9_count_20 : decode cX9_count 20 = .ok (.aload_n 0, 1) := by decide +kernel
theorem dX9_count_21 : decode cX9_count 21 = .ok (.getfield 71, 3) := by decide +kernel
theorem dX9_count_24 : decode cX9_count 24 = .ok (.ireturn, 1) := by decide +kernel
theorem dX9_count_25 : decode cX9_count 25 = .ok (.aload_n 0, 1) := by decide +kernel
theorem dX9_count_26 : decode cX9_count 26 = .ok (.getfield 19, 3) := by decide +kernel
theorem dX9_count_29 : decode cX9_count 29 = .ok (.iload_n 1, 1) := by decide +kernel
theorem dX9_count_30 : decode cX9_count 30 = .ok (.invokevirtual 252, 3) := by decide +kernel
theorem dX9_count_33 : decode cX9_count 33 = .ok (.ireturn, 1) := by decide +kernel
theorem dX9_digest_0 : decode cX9_digest 0 = .ok (.ldc2_w 253, 3) := by decide +kernel
theorem dX9_digest_3 : decode cX9_digest 3 = .ok (.lstore_n 1, 1) := by decide +kernel
theorem dX9_digest_4 : decode cX9_digest 4 = .ok (.iconst 0, 1) := by decide +kernel
theorem dX9_digest_5 : decode cX9_digest 5 = .ok (.istore_n 3, 1) := by decide +kernel
theorem dX9_digest_6 : decode cX9_digest 6 = .ok (.iload_n 3, 1) := by decide +kernel
theorem dX9_digest_7 : decode cX9_digest 7 = .ok (.aload_n 0, 1) := by decide +kernel
theorem dX9_digest_8 : decode cX9_digest 8 = .ok (.getfield 19, 3) := by decide +kernel
theorem dX9_digest_11 : decode cX9_digest 11 = .ok (.getfield 74, 3) := by decide +kernel
theorem dX9_digest_14 : decode cX9_digest 14 = .ok (.if_icmp .ge 40, 3) := by decide +kernel
theorem dX9_digest_17 : decode cX9_digest 17 = .ok (.iconst 0, 1) := by decide +kernel
theorem dX9_digest_18 : decode cX9_digest 18 = .ok (.istore 4, 2) := by decide +kernel
theorem dX9_digest_20 : decode cX9_digest 20 = .ok (.iload 4, 2) := by decide +kernel
theorem dX9_digest_22 : decode cX9_digest 22 = .ok (.bipush 14, 2) := by decide +kernel
theorem dX9_digest_24 : decode cX9_digest 24 = .ok (.if_icmp .gt 24, 3) := by decide +kernel
theorem dX9_digest_27 : decode cX9_digest 27 = .ok (.ldc2_w 255, 3) := by decide +kernel
theorem dX9_digest_30 : decode cX9_digest 30 = .ok (.lload_n 1, 1) := by decide +kernel
theorem dX9_digest_31 : decode cX9_digest 31 = .ok (.lmul, 1) := by decide +kernel
theorem dX9_digest_32 : decode cX9_digest 32 = .ok (.aload_n 0, 1) := by decide +kernel
theorem dX9_digest_33 : decode cX9_digest 33 = .ok (.iload_n 3, 1) := by decide +kernel
theorem dX9_digest_34 : decode cX9_digest 34 = .ok (.iload 4, 2) := by decide +kernel
theorem dX9_digest_36 : decode cX9_digest 36 = .ok (.invokevirtual 257, 3) := by decide +kernel
theorem dX9_digest_39 : decode cX9_digest 39 = .ok (.i2l, 1) := by decide +kernel
theorem dX9_digest_40 : decode cX9_digest 40 = .ok (.ladd, 1) := by decide +kernel
theorem dX9_digest_41 : decode cX9_digest 41 = .ok (.lstore_n 1, 1) := by decide +kernel
theorem dX9_digest_42 : decode cX9_digest 42 = .ok (.iinc 4 1, 3) := by decide +kernel
theorem dX9_digest_45 : decode cX9_digest 45 = .ok (.goto (-25), 3) := by decide +kernel
theorem dX9_digest_48 : decode cX9_digest 48 = .ok (.iinc 3 1, 3) := by decide +kernel
theorem dX9_digest_51 : decode cX9_digest 51 = .ok (.goto (-45), 3) := by decide +kernel
theorem dX9_digest_54 : decode cX9_digest 54 = .ok (.aload_n 0, 1) := by decide +kernel
theorem dX9_digest_55 : decode cX9_digest 55 = .ok (.getfield 19, 3) := by decide +kernel
theorem dX9_digest_58 : decode cX9_digest 58 = .ok (.invokevirtual 111, 3) := by decide +kernel
theorem dX9_digest_61 : decode cX9_digest 61 = .ok (.ifCond .ne 66, 3) := by decide +kernel
theorem dX9_digest_64 : decode cX9_digest 64 = .ok (.aload_n 0, 1) := by decide +kernel
theorem dX9_digest_65 : decode cX9_digest 65 = .ok (.lload_n 1, 1) := by decide +kernel
theorem dX9_digest_66 : decode cX9_digest 66 = .ok (.invokevirtual 260, 3) := by decide +kernel
theorem dX9_digest_69 : decode cX9_digest 69 = .ok (.lstore_n 1, 1) := by decide +kernel
theorem dX9_digest_70 : decode cX9_digest 70 = .ok (.ldc2_w 255, 3) := by decide +kernel
theorem dX9_digest_73 : decode cX9_digest 73 = .ok (.lload_n 1, 1) := by decide +kernel
theorem dX9_digest_74 : decode cX9_digest 74 = .ok (.lmul, 1) := by decide +kernel
theorem dX9_digest_75 : decode cX9_digest 75 = .ok (.aload_n 0, 1) := by decide +kernel
theorem dX9_digest_76 : decode cX9_digest 76 = .ok (.getfield 19, 3) := by decide +kernel
theorem dX9_digest_79 : decode cX9_digest 79 = .ok (.invokevirtual 179, 3) := by decide +kernel
theorem dX9_digest_82 : decode cX9_digest 82 = .ok (.i2l, 1) := by decide +kernel
theorem dX9_digest_83 : decode cX9_digest 83 = .ok (.ladd, 1) := by decide +kernel
theorem dX9_digest_84 : decode cX9_digest 84 = .ok (.lstore_n 1, 1) := by decide +kernel
theorem dX9_digest_85 : decode cX9_digest 85 = .ok (.ldc2_w 255, 3) := by decide +kernel
theorem dX9_digest_88 : decode cX9_digest 88 = .ok (.lload_n 1, 1) := by decide +kernel
theorem dX9_digest_89 : decode cX9_digest 89 = .ok (.lmul, 1) := by decide +kernel
theorem dX9_digest_90 : decode cX9_digest 90 = .ok (.aload_n 0, 1) := by decide +kernel
theorem dX9_digest_91 : decode cX9_digest 91 = .ok (.getfield 29, 3) := by decide +kernel
theorem dX9_digest_94 : decode cX9_digest 94 = .ok (.aload_n 0, 1) := by decide +kernel
theorem dX9_digest_95 : decode cX9_digest 95 = .ok (.getfield 19, 3) := by decide +kernel
theorem dX9_digest_98 : decode cX9_digest 98 = .ok (.iconst 3, 1) := by decide +kernel
theorem dX9_digest_99 : decode cX9_digest 99 = .ok (.iconst 0, 1) := by decide +kernel
theorem dX9_digest_100 : decode cX9_digest 100 = .ok (.invokevirtual 192, 3) := by decide +kernel
theorem dX9_digest_103 : decode cX9_digest 103 = .ok (.i2l, 1) := by decide +kernel
theorem dX9_digest_104 : decode cX9_digest 104 = .ok (.ladd, 1) := by decide +kernel
theorem dX9_digest_105 : decode cX9_digest 105 = .ok (.lstore_n 1, 1) := by decide +kernel
theorem dX9_digest_106 : decode cX9_digest 106 = .ok (.ldc2_w 255, 3) := by decide +kernel
theorem dX9_digest_109 : decode cX9_digest 109 = .ok (.lload_n 1, 1) := by decide +kernel
theorem dX9_digest_110 : decode cX9_digest 110 = .ok (.lmul, 1) := by decide +kernel
theorem dX9_digest_111 : decode cX9_digest 111 = .ok (.aload_n 0, 1) := by decide +kernel
theorem dX9_digest_112 : decode cX9_digest 112 = .ok (.getfield 29, 3) := by decide +kernel
theorem dX9_digest_115 : decode cX9_digest 115 = .ok (.aload_n 0, 1) := by decide +kernel
theorem dX9_digest_116 : decode cX9_digest 116 = .ok (.getfield 19, 3) := by decide +kernel
theorem dX9_digest_119 : decode cX9_digest 119 = .ok (.iconst 3, 1) := by decide +kernel
theorem dX9_digest_120 : decode cX9_digest 120 = .ok (.iconst 1, 1) := by decide +kernel
theorem dX9_digest_121 : decode cX9_digest 121 = .ok (.invokevirtual 192, 3) := by decide +kernel
theorem dX9_digest_124 : decode cX9_digest 124 = .ok (.i2l, 1) := by decide +kernel
theorem dX9_digest_125 : decode cX9_digest 125 = .ok (.ladd, 1) := by decide +kernel
theorem dX9_digest_126 : decode cX9_digest 126 = .ok (.lstore_n 1, 1) := by decide +kernel
theorem dX9_digest_127 : decode cX9_digest 127 = .ok (.iconst 0, 1) := by decide +kernel
theorem dX9_digest_128 : decode cX9_digest 128 = .ok (.istore_n 3, 1) := by decide +kernel
theorem dX9_digest_129 : decode cX9_digest 129 = .ok (.iload_n 3, 1) := by decide +kernel
theorem dX9_digest_130 : decode cX9_digest 130 = .ok (.aload_n 0, 1) := by decide +kernel
theorem dX9_digest_131 : decode cX9_digest 131 = .ok (.getfield 12, 3) := by decide +kernel
theorem dX9_digest_134 : decode cX9_digest 134 = .ok (.getfield 48, 3) := by decide +kernel
theorem dX9_digest_137 : decode cX9_digest 137 = .ok (.if_icmp .ge 25, 3) := by decide +kernel
theorem dX9_digest_140 : decode cX9_digest 140 = .ok (.ldc2_w 255, 3) := by decide +kernel
theorem dX9_digest_143 : decode cX9_digest 143 = .ok (.lload_n 1, 1) := by decide +kernel
theorem dX9_digest_144 : decode cX9_digest 144 = .ok (.lmul, 1) := by decide +kernel
theorem dX9_digest_145 : decode cX9_digest 145 = .ok (.aload_n 0, 1) := by decide +kernel
theorem dX9_digest_146 : decode cX9_digest 146 = .ok (.getfield 12, 3) := by decide +kernel
theorem dX9_digest_149 : decode cX9_digest 149 = .ok (.iload_n 3, 1) := by decide +kernel
theorem dX9_digest_150 : decode cX9_digest 150 = .ok (.invokevirtual 263, 3) := by decide +kernel
theorem dX9_digest_153 : decode cX9_digest 153 = .ok (.i2l, 1) := by decide +kernel
theorem dX9_digest_154 : decode cX9_digest 154 = .ok (.ladd, 1) := by decide +kernel
theorem dX9_digest_155 : decode cX9_digest 155 = .ok (.lstore_n 1, 1) := by decide +kernel
theorem dX9_digest_156 : decode cX9_digest 156 = .ok (.iinc 3 1, 3) := by decide +kernel
theorem dX9_digest_159 : decode cX9_digest 159 = .ok (.goto (-30), 3) := by decide +kernel
theorem dX9_digest_162 : decode cX9_digest 162 = .ok (.iconst 0, 1) := by decide +kernel
theorem dX9_digest_163 : decode cX9_digest 163 = .ok (.istore_n 3, 1) := by decide +kernel
theorem dX9_digest_164 : decode cX9_digest 164 = .ok (.iload_n 3, 1) := by decide +kernel
theorem dX9_digest_165 : decode cX9_digest 165 = .ok (.bipush 14, 2) := by decide +kernel
theorem dX9_digest_167 : decode cX9_digest 167 = .ok (.if_icmp .gt 22, 3) := by decide +kernel
theorem dX9_digest_170 : decode cX9_digest 170 = .ok (.ldc2_w 255, 3) := by decide +kernel
theorem dX9_digest_173 : decode cX9_digest 173 = .ok (.lload_n 1, 1) := by decide +kernel
theorem dX9_digest_174 : decode cX9_digest 174 = .ok (.lmul, 1) := by decide +kernel
theorem dX9_digest_175 : decode cX9_digest 175 = .ok (.aload_n 0, 1) := by decide +kernel
theorem dX9_digest_176 : decode cX9_digest 176 = .ok (.iload_n 3, 1) := by decide +kernel
theorem dX9_digest_177 : decode cX9_digest 177 = .ok (.invokevirtual 266, 3) := by decide +kernel
theorem dX9_digest_180 : decode cX9_digest 180 = .ok (.i2l, 1) := by decide +kernel
theorem dX9_digest_181 : decode cX9_digest 181 = .ok (.ladd, 1) := by decide +kernel
theorem dX9_digest_182 : decode cX9_digest 182 = .ok (.lstore_n 1, 1) := by decide +kernel
theorem dX9_digest_183 : decode cX9_digest 183 = .ok (.iinc 3 1, 3) := by decide +kernel
theorem dX9_digest_186 : decode cX9_digest 186 = .ok (.goto (-22), 3) := by decide +kernel
theorem dX9_digest_189 : decode cX9_digest 189 = .ok (.lload_n 1, 1) := by decide +kernel
theorem dX9_digest_190 : decode cX9_digest 190 = .ok (.lreturn, 1) := by decide +kernel
theorem dX9_foldLasting_0 : decode cX9_foldLasting 0 = .ok (.aload_n 0, 1) := by decide +kernel
theorem dX9_foldLasting_1 : decode cX9_foldLasting 1 = .ok (.getfield 36, 3) := by decide +kernel
theorem dX9_foldLasting_4 : decode cX9_foldLasting 4 = .ok (.aload_n 0, 1) := by decide +kernel
theorem dX9_foldLasting_5 : decode cX9_foldLasting 5 = .ok (.getfield 19, 3) := by decide +kernel
theorem dX9_foldLasting_8 : decode cX9_foldLasting 8 = .ok (.invokevirtual 171, 3) := by decide +kernel
theorem dX9_foldLasting_11 : decode cX9_foldLasting 11 = .ok (.ldc2_w 255, 3) := by decide +kernel
theorem dX9_foldLasting_14 : decode cX9_foldLasting 14 = .ok (.lload_n 1, 1) := by decide +kernel
theorem dX9_foldLasting_15 : decode cX9_foldLasting 15 = .ok (.lmul, 1) := by decide +kernel
theorem dX9_foldLasting_16 : decode cX9_foldLasting 16 = .ok (.aload_n 0, 1) := by decide +kernel
theorem dX9_foldLasting_17 : decode cX9_foldLasting 17 = .ok (.getfield 36, 3) := by decide +kernel
theorem dX9_foldLasting_20 : decode cX9_foldLasting 20 = .ok (.iconst 0, 1) := by decide +kernel
theorem dX9_foldLasting_21 : decode cX9_foldLasting 21 = .ok (.invokevirtual 175, 3) := by decide +kernel
theorem dX9_foldLasting_24 : decode cX9_foldLasting 24 = .ok (.i2l, 1) := by decide +kernel
theorem dX9_foldLasting_25 : decode cX9_foldLasting 25 = .ok (.ladd, 1) := by decide +kernel
theorem dX9_foldLasting_26 : decode cX9_foldLasting 26 = .ok (.lstore_n 3, 1) := by decide +kernel
theorem dX9_foldLasting_27 : decode cX9_foldLasting 27 = .ok (.ldc2_w 255, 3) := by decide +kernel
theorem dX9_foldLasting_30 : decode cX9_foldLasting 30 = .ok (.lload_n 3, 1) := by decide +kernel
theorem dX9_foldLasting_31 : decode cX9_foldLasting 31 = .ok (.lmul, 1) := by decide +kernel
theorem dX9_foldLasting_32 : decode cX9_foldLasting 32 = .ok (.aload_n 0, 1) := by decide +kernel
theorem dX9_foldLasting_33 : decode cX9_foldLasting 33 = .ok (.getfield 36, 3) := by decide +kernel
theorem dX9_foldLasting_36 : decode cX9_foldLasting 36 = .ok (.iconst 1, 1) := by decide +kernel
theorem dX9_foldLasting_37 : decode cX9_foldLasting 37 = .ok (.invokevirtual 175, 3) := by decide +kernel
theorem dX9_foldLasting_40 : decode cX9_foldLasting 40 = .ok (.i2l, 1) := by decide +kernel
theorem dX9_foldLasting_41 : decode cX9_foldLasting 41 = .ok (.ladd, 1) := by decide +kernel
theorem dX9_foldLasting_42 : decode cX9_foldLasting 42 = .ok (.lstore_n 3, 1) := by decide +kernel
theorem dX9_foldLasting_43 : decode cX9_foldLasting 43 = .ok (.bipush 10, 2) := by decide +kernel
theorem dX9_foldLasting_45 : decode cX9_foldLasting 45 = .ok (.istore 5, 2) := by decide +kernel
theorem dX9_foldLasting_47 : decode cX9_foldLasting 47 = .ok (.iload 5, 2) := by decide +kernel
theorem dX9_foldLasting_49 : decode cX9_foldLasting 49 = .ok (.bipush 13, 2) := by decide +kernel
theorem dX9_foldLasting_51 : decode cX9_foldLasting 51 = .ok (.if_icmp .gt 26, 3) := by decide +kernel
theorem dX9_foldLasting_54 : decode cX9_foldLasting 54 = .ok (.ldc2_w 255, 3) := by decide +kernel
theorem dX9_foldLasting_57 : decode cX9_foldLasting 57 = .ok (.lload_n 3, 1) := by decide +kernel
theorem dX9_foldLasting_58 : decode cX9_foldLasting 58 = .ok (.lmul, 1) := by decide +kernel
theorem dX9_foldLasting_59 : decode cX9_foldLasting 59 = .ok (.aload_n 0, 1) := by decide +kernel
theorem dX9_foldLasting_60 : decode cX9_foldLasting 60 = .ok (.getfield 36, 3) := by decide +kernel
theorem dX9_foldLasting_63 : decode cX9_foldLasting 63 = .ok (.iload 5, 2) := by decide +kernel
theorem dX9_foldLasting_65 : decode cX9_foldLasting 65 = .ok (.invokevirtual 175, 3) := by decide +kernel
theorem dX9_foldLasting_68 : decode cX9_foldLasting 68 = .ok (.i2l, 1) := by decide +kernel
theorem dX9_foldLasting_69 : decode cX9_foldLasting 69 = .ok (.ladd, 1) := by decide +kernel
theorem dX9_foldLasting_70 : decode cX9_foldLasting 70 = .ok (.lstore_n 3, 1) := by decide +kernel
theorem dX9_foldLasting_71 : decode cX9_foldLasting 71 = .ok (.iinc 5 1, 3) := by decide +kernel
theorem dX9_foldLasting_74 : decode cX9_foldLasting 74 = .ok (.goto (-27), 3) := by decide +kernel
theorem dX9_foldLasting_77 : decode cX9_foldLasting 77 = .ok (.lload_n 3, 1) := by decide +kernel
theorem dX9_foldLasting_78 : decode cX9_foldLasting 78 = .ok (.lreturn, 1) := by decide +kernel
theorem dX9_isWithin_0 : decode cX9_isWithin 0 = .ok (.iload_n 0, 1) := by decide +kernel
theorem dX9_isWithin_1 : decode cX9_isWithin 1 = .ok (.iload_n 1, 1) := by decide +kernel
theorem dX9_isWithin_2 : decode cX9_isWithin 2 = .ok (.if_icmp .lt 12, 3) := by decide +kernel
theorem dX9_isWithin_5 : decode cX9_isWithin 5 = .ok (.iload_n 0, 1) := by decide +kernel
theorem dX9_isWithin_6 : decode cX9_isWithin 6 = .ok (.iload_n 2, 1) := by decide +kernel
theorem dX9_isWithin_7 : decode cX9_isWithin 7 = .ok (.if_icmp .gt 7, 3) := by decide +kernel
theorem dX9_isWithin_10 : decode cX9_isWithin 10 = .ok (.iconst 1, 1) := by decide +kernel
theorem dX9_isWithin_11 : decode cX9_isWithin 11 = .ok (.goto 4, 3) := by decide +kernel
theorem dX9_isWithin_14 : decode cX9_isWithin 14 = .ok (.iconst 0, 1) := by decide +kernel
theorem dX9_isWithin_15 : decode cX9_isWithin 15 = .ok (.ireturn, 1) := by decide +kernel
theorem dX9_isLimit_0 : decode cX9_isLimit 0 = .ok (.iload_n 0, 1) := by decide +kernel
theorem dX9_isLimit_1 : decode cX9_isLimit 1 = .ok (.iconst 1, 1) := by decide +kernel
theorem dX9_isLimit_2 : decode cX9_isLimit 2 = .ok (.bipush 9, 2) := by decide +kernel
theorem dX9_isLimit_4 : decode cX9_isLimit 4 = .ok (.invokestatic 40, 3) := by decide +kernel
theorem dX9_isLimit_7 : decode cX9_isLimit 7 = .ok (.ireturn, 1) := by decide +kernel
theorem dX10_init_0 : decode cX10_init 0 = .ok (.aload_n 0, 1) := by decide +kernel
theorem dX10_init_1 : decode cX10_init 1 = .ok (.invokespecial 1, 3) := by decide +kernel
theorem dX10_init_4 : decode cX10_init 4 = .ok (.aload_n 0, 1) := by decide +kernel
theorem dX10_init_5 : decode cX10_init 5 = .ok (.bipush 8, 2) := by decide +kernel
theorem dX10_init_7 : decode cX10_init 7 = .ok (.newarray .int, 2) := by decide +kernel
theorem dX10_init_9 : decode cX10_init 9 = .ok (.putfield 7, 3) := by decide +kernel
theorem dX10_init_12 : decode cX10_init 12 = .ok (.aload_n 0, 1) := by decide +kernel
theorem dX10_init_13 : decode cX10_init 13 = .ok (.bipush 8, 2) := by decide +kernel
theorem dX10_init_15 : decode cX10_init 15 = .ok (.newarray .int, 2) := by decide +kernel
theorem dX10_init_17 : decode cX10_init 17 = .ok (.putfield 13, 3) := by decide +kernel
theorem dX10_init_20 : decode cX10_init 20 = .ok (.aload_n 0, 1) := by decide +kernel
theorem dX10_init_21 : decode cX10_init 21 = .ok (.bipush 8, 2) := by decide +kernel
theorem dX10_init_23 : decode cX10_init 23 = .ok (.newarray .int, 2) := by decide +kernel
theorem dX10_init_25 : decode cX10_init 25 = .ok (.putfield 16, 3) := by decide +kernel
theorem dX10_init_28 : decode cX10_init 28 = .ok (.aload_n 0, 1) := by decide +kernel
theorem dX10_init_29 : decode cX10_init 29 = .ok (.bipush 8, 2) := by decide +kernel
theorem dX10_init_31 : decode cX10_init 31 = .ok (.newarray .int, 2) := by decide +kernel
theorem dX10_init_33 : decode cX10_init 33 = .ok (.putfield 19, 3) := by decide +kernel
theorem dX10_init_36 : decode cX10_init 36 = .ok (.aload_n 0, 1) := by decide +kernel
theorem dX10_init_37 : decode cX10_init 37 = .ok (.bipush 8, 2) := by decide +kernel
theorem dX10_init_39 : decode cX10_init 39 = .ok (.newarray .int, 2) := by decide +kernel
theorem dX10_init_41 : decode cX10_init 41 = .ok (.putfield 22, 3) := by decide +kernel
theorem dX10_init_44 : decode cX10_init 44 = .ok (.aload_n 0, 1) := by decide +kernel
theorem dX10_init_45 : decode cX10_init 45 = .ok (.bipush 8, 2) := by decide +kernel
theorem dX10_init_47 : decode cX10_init 47 = .ok (.newarray .int, 2) := by decide +kernel
theorem dX10_init_49 : decode cX10_init 49 = .ok (.putfield 25, 3) := by decide +kernel
theorem dX10_init_52 : decode cX10_init 52 = .ok (.aload_n 0, 1) := by decide +kernel
theorem dX10_init_53 : decode cX10_init 53 = .ok (.bipush 8, 2) := by decide +kernel
theorem dX10_init_55 : decode cX10_init 55 = .ok (.newarray .int, 2) := by decide +kernel
theorem dX10_init_57 : decode cX10_init 57 = .ok (.putfield 28, 3) := by decide +kernel
theorem dX10_init_60 : decode cX10_init 60 = .ok (.aload_n 0, 1) := by decide +kernel
theorem dX10_init_61 : decode cX10_init 61 = .ok (.bipush 8, 2) := by decide +kernel
theorem dX10_init_63 : decode cX10_init 63 = .ok (.newarray .int, 2) := by decide +kernel
theorem dX10_init_65 : decode cX10_init 65 = .ok (.putfield 31, 3) := by decide +kernel
theorem dX10_init_68 : decode cX10_init 68 = .ok (.aload_n 0, 1) := by decide +kernel
theorem dX10_init_69 : decode cX10_init 69 = .ok (.bipush 8, 2) := by decide +kernel
theorem dX10_init_71 : decode cX10_init 71 = .ok (.newarray .int, 2) := by decide +kernel
theorem dX10_init_73 : decode cX10_init 73 = .ok (.putfield 34, 3) := by decide +kernel
theorem dX10_init_76 : decode cX10_init 76 = .ok (.aload_n 0, 1) := by decide +kernel
theorem dX10_init_77 : decode cX10_init 77 = .ok (.bipush 8, 2) := by decide +kernel
theorem dX10_init_79 : decode cX10_init 79 = .ok (.newarray .int, 2) := by decide +kernel
theorem dX10_init_81 : decode cX10_init 81 = .ok (.putfield 37, 3) := by decide +kernel
theorem dX10_init_84 : decode cX10_init 84 = .ok (.aload_n 0, 1) := by decide +kernel
theorem dX10_init_85 : decode cX10_init 85 = .ok (.bipush 8, 2) := by decide +kernel
theorem dX10_init_87 : decode cX10_init 87 = .ok (.newarray .int, 2) := by decide +kernel
theorem dX10_init_89 : decode cX10_init 89 = .ok (.putfield 40, 3) := by decide +kernel
theorem dX10_init_92 : decode cX10_init 92 = .ok (.aload_n 0, 1) := by decide +kernel
theorem dX10_init_93 : decode cX10_init 93 = .ok (.bipush 8, 2) := by decide +kernel
theorem dX10_init_95 : decode cX10_init 95 = .ok (.newarray .int, 2) := by decide +kernel
theorem dX10_init_97 : decode cX10_init 97 = .ok (.putfield 43, 3) := by decide +kernel
theorem dX10_init_100 : decode cX10_init 100 = .ok (.aload_n 0, 1) := by decide +kernel
theorem dX10_init_101 : decode cX10_init 101 = .ok (.bipush 41, 2) := by decide +kernel
theorem dX10_init_103 : decode cX10_init 103 = .ok (.newarray .byte, 2) := by decide +kernel
theorem dX10_init_105 : decode cX10_init 105 = .ok (.putfield 46, 3) := by decide +kernel
theorem dX10_init_108 : decode cX10_init 108 = .ok (.aload_n 0, 1) := by decide +kernel
theorem dX10_init_109 : decode cX10_init 109 = .ok (.iconst 4, 1) := by decide +kernel
theorem dX10_init_110 : decode cX10_init 110 = .ok (.newarray .int, 2) := by decide +kernel
theorem dX10_init_112 : decode cX10_init 112 = .ok (.putfield 50, 3) := by decide +kernel
theorem dX10_init_115 : decode cX10_init 115 = .ok (.aload_n 0, 1) := by decide +kernel
theorem dX10_init_116 : decode cX10_init 116 = .ok (.iconst 4, 1) := by decide +kernel
theorem dX10_init_117 : decode cX10_init 117 = .ok (.newarray .int, 2) := by decide +kernel
theorem dX10_init_119 : decode cX10_init 119 = .ok (.putfield 53, 3) := by decide +kernel
theorem dX10_init_122 : decode cX10_init 122 = .ok (.aload_n 0, 1) := by decide +kernel
theorem dX10_init_123 : decode cX10_init 123 = .ok (.bipush 8, 2) := by decide +kernel
theorem dX10_init_125 : decode cX10_init 125 = .ok (.newarray .int, 2) := by decide +kernel
theorem dX10_init_127 : decode cX10_init 127 = .ok (.putfield 56, 3) := by decide +kernel
theorem dX10_init_130 : decode cX10_init 130 = .ok (.aload_n 0, 1) := by decide +kernel
theorem dX10_init_131 : decode cX10_init 131 = .ok (.bipush 8, 2) := by decide +kernel
theorem dX10_init_133 : decode cX10_init 133 = .ok (.newarray .int, 2) := by decide +kernel
theorem dX10_init_135 : decode cX10_init 135 = .ok (.putfield 59, 3) := by decide +kernel
theorem dX10_init_138 : decode cX10_init 138 = .ok (.aload_n 0, 1) := by decide +kernel
theorem dX10_init_139 : decode cX10_init 139 = .ok (.bipush 8, 2) := by decide +kernel
theorem dX10_init_141 : decode cX10_init 141 = .ok (.newarray .int, 2) := by decide +kernel
theorem dX10_init_143 : decode cX10_init 143 = .ok (.putfield 62, 3) := by decide +kernel
theorem dX10_init_146 : decode cX10_init 146 = .ok (.aload_n 0, 1) := by decide +kernel
theorem dX10_init_147 : decode cX10_init 147 = .ok (.bipush 8, 2) := by decide +kernel
theorem dX10_init_149 : decode cX10_init 149 = .ok (.newarray .int, 2) := by decide +kernel
theorem dX10_init_151 : decode cX10_init 151 = .ok (.putfield 65, 3) := by decide +kernel
theorem dX10_init_154 : decode cX10_init 154 = .ok (.aload_n 0, 1) := by decide +kernel
theorem dX10_init_155 : decode cX10_init 155 = .ok (.bipush 8, 2) := by decide +kernel
theorem dX10_init_157 : decode cX10_init 157 = .ok (.newarray .int, 2) := by decide +kernel
theorem dX10_init_159 : decode cX10_init 159 = .ok (.putfield 68, 3) := by decide +kernel
theorem dX10_init_162 : decode cX10_init 162 = .ok (.aload_n 0, 1) := by decide +kernel
theorem dX10_init_163 : decode cX10_init 163 = .ok (.bipush 8, 2) := by decide +kernel
theorem dX10_init_165 : decode cX10_init 165 = .ok (.newarray .int, 2) := by decide +kernel
theorem dX10_init_167 : decode cX10_init 167 = .ok (.putfield 71, 3) := by decide +kernel
theorem dX10_init_170 : decode cX10_init 170 = .ok (.aload_n 0, 1) := by decide +kernel
theorem dX10_init_171 : decode cX10_init 171 = .ok (.bipush 8, 2) := by decide +kernel
theorem dX10_init_173 : decode cX10_init 173 = .ok (.newarray .int, 2) := by decide +kernel
theorem dX10_init_175 : decode cX10_init 175 = .ok (.putfield 74, 3) := by decide +kernel
theorem dX10_init_178 : decode cX10_init 178 = .ok (.aload_n 0, 1) := by decide +kernel
theorem dX10_init_179 : decode cX10_init 179 = .ok (.bipush 8, 2) := by decide +kernel
theorem dX10_init_181 : decode cX10_init 181 = .ok (.newarray .int, 2) := by decide +kernel
theorem dX10_init_183 : decode cX10_init 183 = .ok (.putfield 77, 3) := by decide +kernel
theorem dX10_init_186 : decode cX10_init 186 = .ok (.aload_n 0, 1) := by decide +kernel
theorem dX10_init_187 : decode cX10_init 187 = .ok (.bipush 8, 2) := by decide +kernel
theorem dX10_init_189 : decode cX10_init 189 = .ok (.newarray .int, 2) := by decide +kernel
theorem dX10_init_191 : decode cX10_init 191 = .ok (.putfield 80, 3) := by decide +kernel
theorem dX10_init_194 : decode cX10_init 194 = .ok (.aload_n 0, 1) := by decide +kernel
theorem dX10_init_195 : decode cX10_init 195 = .ok (.bipush 8, 2) := by decide +kernel
theorem dX10_init_197 : decode cX10_init 197 = .ok (.newarray .int, 2) := by decide +kernel
theorem dX10_init_199 : decode cX10_init 199 = .ok (.putfield 83, 3) := by decide +kernel
theorem dX10_init_202 : decode cX10_init 202 = .ok (.aload_n 0, 1) := by decide +kernel
theorem dX10_init_203 : decode cX10_init 203 = .ok (.bipush 8, 2) := by decide +kernel
theorem dX10_init_205 : decode cX10_init 205 = .ok (.newarray .int, 2) := by decide +kernel
theorem dX10_init_207 : decode cX10_init 207 = .ok (.putfield 86, 3) := by decide +kernel
theorem dX10_init_210 : decode cX10_init 210 = .ok (.aload_n 0, 1) := by decide +kernel
theorem dX10_init_211 : decode cX10_init 211 = .ok (.bipush 8, 2) := by decide +kernel
theorem dX10_init_213 : decode cX10_init 213 = .ok (.newarray .int, 2) := by decide +kernel
theorem dX10_init_215 : decode cX10_init 215 = .ok (.putfield 89, 3) := by decide +kernel
theorem dX10_init_218 : decode cX10_init 218 = .ok (.aload_n 0, 1) := by decide +kernel
theorem dX10_init_219 : decode cX10_init 219 = .ok (.bipush 8, 2) := by decide +kernel
theorem dX10_init_221 : decode cX10_init 221 = .ok (.newarray .int, 2) := by decide +kernel
theorem dX10_init_223 : decode cX10_init 223 = .ok (.putfield 92, 3) := by decide +kernel
theorem dX10_init_226 : decode cX10_init 226 = .ok (.aload_n 0, 1) := by decide +kernel
theorem dX10_init_227 : decode cX10_init 227 = .ok (.bipush 8, 2) := by decide +kernel
theorem dX10_init_229 : decode cX10_init 229 = .ok (.newarray .int, 2) := by decide +kernel
theorem dX10_init_231 : decode cX10_init 231 = .ok (.putfield 95, 3) := by decide +kernel
theorem dX10_init_234 : decode cX10_init 234 = .ok (.return_, 1) := by decide +kernel
theorem dX10_within_0 : decode cX10_within 0 = .ok (.iload_n 0, 1) := by decide +kernel
theorem dX10_within_1 : decode cX10_within 1 = .ok (.iload_n 1, 1) := by decide +kernel
theorem dX10_within_2 : decode cX10_within 2 = .ok (.if_icmp .lt 12, 3) := by decide +kernel
theorem dX10_within_5 : decode cX10_within 5 = .ok (.iload_n 0, 1) := by decide +kernel
theorem dX10_within_6 : decode cX10_within 6 = .ok (.iload_n 2, 1) := by decide +kernel
theorem dX10_within_7 : decode cX10_within 7 = .ok (.if_icmp .gt 7, 3) := by decide +kernel
theorem dX10_within_10 : decode cX10_within 10 = .ok (.iconst 1, 1) := by decide +kernel
theorem dX10_within_11 : decode cX10_within 11 = .ok (.goto 4, 3) := by decide +kernel
theorem dX10_within_14 : decode cX10_within 14 = .ok (.iconst 0, 1) := by decide +kernel
theorem dX10_within_15 : decode cX10_within 15 = .ok (.ireturn, 1) := by decide +kernel
theorem dX10_isIn_0 : decode cX10_isIn 0 = .ok (.iload_n 0, 1) := by decide +kernel
theorem dX10_isIn_1 : decode cX10_isIn 1 = .ok (.iload_n 1, 1) := by decide +kernel
theorem dX10_isIn_2 : decode cX10_isIn 2 = .ok (.ishr, 1) := by decide +kernel
theorem dX10_isIn_3 : decode cX10_isIn 3 = .ok (.iconst 1, 1) := by decide +kernel
theorem dX10_isIn_4 : decode cX10_isIn 4 = .ok (.iand, 1) := by decide +kernel
theorem dX10_isIn_5 : decode cX10_isIn 5 = .ok (.iconst 1, 1) := by decide +kernel
theorem dX10_isIn_6 : decode cX10_isIn 6 = .ok (.if_icmp .ne 7, 3) := by decide +kernel
theorem dX10_isIn_9 : decode cX10_isIn 9 = .ok (.iconst 1, 1) := by decide +kernel
theorem dX10_isIn_10 : decode cX10_isIn 10 = .ok (.goto 4, 3) := by decide +kernel
theorem dX10_isIn_13 : decode cX10_isIn 13 = .ok (.iconst 0, 1) := by decide +kernel
theorem dX10_isIn_14 : decode cX10_isIn 14 = .ok (.ireturn, 1) := by decide +kernel
theorem dX10_size_0 : decode cX10_size 0 = .ok (.iconst 0, 1) := by decide +kernel
theorem dX10_size_1 : decode cX10_size 1 = .ok (.istore_n 1, 1) := by decide +kernel
theorem dX10_size_2 : decode cX10_size 2 = .ok (.iconst 0, 1) := by decide +kernel
theorem dX10_size_3 : decode cX10_size 3 = .ok (.istore_n 2, 1) := by decide +kernel
theorem dX10_size_4 : decode cX10_size 4 = .ok (.iload_n 2, 1) := by decide +kernel
theorem dX10_size_5 : decode cX10_size 5 = .ok (.bipush 10, 2) := by decide +kernel
theorem dX10_size_7 : decode cX10_size 7 = .ok (.if_icmp .ge 17, 3) := by decide +kernel
theorem dX10_size_10 : decode cX10_size 10 = .ok (.iload_n 1, 1) := by decide +kernel
theorem dX10_size_11 : decode cX10_size 11 = .ok (.iload_n 0, 1) := by decide +kernel
theorem dX10_size_12 : decode cX10_size 12 = .ok (.iload_n 2, 1) := by decide +kernel
theorem dX10_size_13 : decode cX10_size 13 = .ok (.ishr, 1) := by decide +kernel
theorem dX10_size_14 : decode cX10_size 14 = .ok (.iconst 1, 1) := by decide +kernel
theorem dX10_size_15 : decode cX10_size 15 = .ok (.iand, 1) := by decide +kernel
theorem dX10_size_16 : decode cX10_size 16 = .ok (.iadd, 1) := by decide +kernel
theorem dX10_size_17 : decode cX10_size 17 = .ok (.istore_n 1, 1) := by decide +kernel
theorem dX10_size_18 : decode cX10_size 18 = .ok (.iinc 2 1, 3) := by decide +kernel
theorem dX10_size_21 : decode cX10_size 21 = .ok (.goto (-17), 3) := by decide +kernel
theorem dX10_size_24 : decode cX10_size 24 = .ok (.iload_n 1, 1) := by decide +kernel
theorem dX10_size_25 : decode cX10_size 25 = .ok (.ireturn, 1) := by decide +kernel
theorem dX10_divisor_0 : decode cX10_divisor 0 = .ok (.iload_n 0, 1) := by decide +kernel
theorem dX10_divisor_1 : decode cX10_divisor 1 = .ok (.istore_n 2, 1) := by decide +kernel
theorem dX10_divisor_2 : decode cX10_divisor 2 = .ok (.iload_n 1, 1) := by decide +kernel
theorem dX10_divisor_3 : decode cX10_divisor 3 = .ok (.istore_n 3, 1) := by decide +kernel
theorem dX10_divisor_4 : decode cX10_divisor 4 = .ok (.iload_n 3, 1) := by decide +kernel
theorem dX10_divisor_5 : decode cX10_divisor 5 = .ok (.ifCond .eq 16, 3) := by decide +kernel
theorem dX10_divisor_8 : decode cX10_divisor 8 = .ok (.iload_n 2, 1) := by decide +kernel
theorem dX10_divisor_9 : decode cX10_divisor 9 = .ok (.iload_n 3, 1) := by decide +kernel
theorem dX10_divisor_10 : decode cX10_divisor 10 = .ok (.irem, 1) := by decide +kernel
theorem dX10_divisor_11 : decode cX10_divisor 11 = .ok (.istore 4, 2) := by decide +kernel
theorem dX10_divisor_13 : decode cX10_divisor 13 = .ok (.iload_n 3, 1) := by decide +kernel
theorem dX10_divisor_14 : decode cX10_divisor 14 = .ok (.istore_n 2, 1) := by decide +kernel
theorem dX10_divisor_15 : decode cX10_divisor 15 = .ok (.iload 4, 2) := by decide +kernel
theorem dX10_divisor_17 : decode cX10_divisor 17 = .ok (.istore_n 3, 1) := by decide +kernel
theorem dX10_divisor_18 : decode cX10_divisor 18 = .ok (.goto (-14), 3) := by decide +kernel
theorem dX10_divisor_21 : decode cX10_divisor 21 = .ok (.iload_n 2, 1) := by decide +kernel
theorem dX10_divisor_22 : decode cX10_divisor 22 = .ok (.ireturn, 1) := by decide +kernel
theorem dX10_letter_0 : decode cX10_letter 0 = .ok (.iload_n 1, 1) := by decide +kernel
theorem dX10_letter_1 : decode cX10_letter 1 = .ok (.bipush 32, 2) := by decide +kernel
theorem dX10_letter_3 : decode cX10_letter 3 = .ok (.bipush 126, 2) := by decide +kernel
theorem dX10_letter_5 : decode cX10_letter 5 = .ok (.invokestatic 98, 3) := by decide +kernel
theorem dX10_letter_8 : decode cX10_letter 8 = .ok (.ifCond .ne 6, 3) := by decide +kernel
theorem dX10_letter_11 : decode cX10_letter 11 = .ok (.bipush (-102), 2) := by decide +kernel
theorem dX10_letter_13 : decode cX10_letter 13 = .ok (.ireturn, 1) := by decide +kernel
theorem dX10_letter_14 : decode cX10_letter 14 = .ok (.aload_n 0, 1) := by decide +kernel
theorem dX10_letter_15 : decode cX10_letter 15 = .ok (.getfield 102, 3) := by decide +kernel
theorem dX10_letter_18 : decode cX10_letter 18 = .ok (.bipush 41, 2) := by decide +kernel
theorem dX10_letter_20 : decode cX10_letter 20 = .ok (.if_icmp .ne 6, 3) := by decide +kernel
theorem dX10_letter_23 : decode cX10_letter 23 = .ok (.bipush (-104), 2) := by decide +kernel
theorem dX10_letter_25 : decode cX10_letter 25 = .ok (.ireturn, 1) := by decide +kernel
theorem dX10_letter_26 : decode cX10_letter 26 = .ok (.aload_n 0, 1) := by decide +kernel
theorem dX10_letter_27 : decode cX10_letter 27 = .ok (.getfield 46, 3) := by decide +kernel
theorem dX10_letter_30 : decode cX10_letter 30 = .ok (.aload_n 0, 1) := by decide +kernel
theorem dX10_letter_31 : decode cX10_letter 31 = .ok (.getfield 102, 3) := by decide +kernel
theorem dX10_letter_34 : decode cX10_letter 34 = .ok (.iload_n 1, 1) := by decide +kernel
theorem dX10_letter_35 : decode cX10_letter 35 = .ok (.i2b, 1) := by decide +kernel
theorem dX10_letter_36 : decode cX10_letter 36 = .ok (.bastore, 1) := by decide +kernel
theorem dX10_letter_37 : decode cX10_letter 37 = .ok (.aload_n 0, 1) := by decide +kernel
theorem dX10_letter_38 : decode cX10_letter 38 = .ok (.dup, 1) := by decide +kernel
theorem dX10_letter_39 : decode cX10_letter 39 = .ok (.getfield 102, 3) := by decide +kernel
theorem dX10_letter_42 : decode cX10_letter 42 = .ok (.iconst 1, 1) := by decide +kernel
theorem dX10_letter_43 : decode cX10_letter 43 = .ok (.iadd, 1) := by decide +kernel
theorem dX10_letter_44 : decode cX10_letter 44 = .ok (.putfield 102, 3) := by decide +kernel
theorem dX10_letter_47 : decode cX10_letter 47 = .ok (.aload_n 0, 1) := by decide +kernel
theorem dX10_letter_48 : decode cX10_letter 48 = .ok (.getfield 102, 3) := by decide +kernel
theorem dX10_letter_51 : decode cX10_letter 51 = .ok (.ireturn, 1) := by decide +kernel
theorem dX10_blank_0 : decode cX10_blank 0 = .ok (.aload_n 0, 1) := by decide +kernel
theorem dX10_blank_1 : decode cX10_blank 1 = .ok (.getfield 102, 3) := by decide +kernel
theorem dX10_blank_4 : decode cX10_blank 4 = .ok (.istore_n 1, 1) := by decide +kernel
theorem dX10_blank_5 : decode cX10_blank 5 = .ok (.aload_n 0, 1) := by decide +kernel
theorem dX10_blank_6 : decode cX10_blank 6 = .ok (.iconst 0, 1) := by decide +kernel
theorem dX10_blank_7 : decode cX10_blank 7 = .ok (.putfield 102, 3) := by decide +kernel
theorem dX10_blank_10 : decode cX10_blank 10 = .ok (.iload_n 1, 1) := by decide +kernel
theorem dX10_blank_11 : decode cX10_blank 11 = .ok (.ireturn, 1) := by decide +kernel
theorem dX10_kindBy_0 : decode cX10_kindBy 0 = .ok (.iload_n 0, 1) := by decide +kernel
theorem dX10_kindBy_1 : decode cX10_kindBy 1 = .ok (.tableswitch 85 101 115 #[77, 85, 83, 79, 85, 85, 85, 85, 85, 85, 75, 85, 85, 85, 81], 75) := by decide +kernel
theorem dX10_kindBy_76 : decode cX10_kindBy 76 = .ok (.iconst 0, 1) := by decide +kernel
theorem dX10_kindBy_77 : decode cX10_kindBy 77 = .ok (.ireturn, 1) := by decide +kernel
theorem dX10_kindBy_78 : decode cX10_kindBy 78 = .ok (.iconst 1, 1) := by decide +kernel
theorem dX10_kindBy_79 : decode cX10_kindBy 79 = .ok (.ireturn, 1) := by decide +kernel
theorem dX10_kindBy_80 : decode cX10_kindBy 80 = .ok (.iconst 2, 1) := by decide +kernel
theorem dX10_kindBy_81 : decode cX10_kindBy 81 = .ok (.ireturn, 1) := by decide +kernel
theorem dX10_kindBy_82 : decode cX10_kindBy 82 = .ok (.iconst 3, 1) := by decide +kernel
theorem dX10_kindBy_83 : decode cX10_kindBy 83 = .ok (.ireturn, 1) := by decide +kernel
theorem dX10_kindBy_84 : decode cX10_kindBy 84 = .ok (.iconst 4, 1) := by decide +kernel
theorem dX10_kindBy_85 : decode cX10_kindBy 85 = .ok (.ireturn, 1) := by decide +kernel
theorem dX10_kindBy_86 : decode cX10_kindBy 86 = .ok (.iconst (-1), 1) := by decide +kernel
theorem dX10_kindBy_87 : decode cX10_kindBy 87 = .ok (.ireturn, 1) := by decide +kernel
theorem dX10_at_0 : decode cX10_at 0 = .ok (.iload_n 1, 1) := by decide +kernel
theorem dX10_at_1 : decode cX10_at 1 = .ok (.aload_n 0, 1) := by decide +kernel
theorem dX10_at_2 : decode cX10_at 2 = .ok (.getfield 102, 3) := by decide +kernel
theorem dX10_at_5 : decode cX10_at 5 = .ok (.if_icmp .ge 12, 3) := by decide +kernel
theorem dX10_at_8 : decode cX10_at 8 = .ok (.aload_n 0, 1) := by decide +kernel
theorem dX10_at_9 : decode cX10_at 9 = .ok (.getfield 46, 3) := by decide +kernel
theorem dX10_at_12 : decode cX10_at 12 = .ok (.iload_n 1, 1) := by decide +kernel
theorem dX10_at_13 : decode cX10_at 13 = .ok (.baload, 1) := by decide +kernel
theorem dX10_at_14 : decode cX10_at 14 = .ok (.goto 4, 3) := by decide +kernel
theorem dX10_at_17 : decode cX10_at 17 = .ok (.iconst 0, 1) := by decide +kernel
theorem dX10_at_18 : decode cX10_at 18 = .ok (.ireturn, 1) := by decide +kernel
theorem dX10_isFigure_0 : decode cX10_isFigure 0 = .ok (.aload_n 0, 1) := by decide +kernel
theorem dX10_isFigure_1 : decode cX10_isFigure 1 = .ok (.iload_n 1, 1) := by decide +kernel
theorem dX10_isFigure_2 : decode cX10_isFigure 2 = .ok (.invokevirtual 106, 3) := by decide +kernel
theorem dX10_isFigure_5 : decode cX10_isFigure 5 = .ok (.bipush 48, 2) := by decide +kernel
theorem dX10_isFigure_7 : decode cX10_isFigure 7 = .ok (.isub, 1) := by decide +kernel
theorem dX10_isFigure_8 : decode cX10_isFigure 8 = .ok (.iconst 0, 1) := by decide +kernel
theorem dX10_isFigure_9 : decode cX10_isFigure 9 = .ok (.iload_n 2, 1) := by decide +kernel
theorem dX10_isFigure_10 : decode cX10_isFigure 10 = .ok (.invokestatic 98, 3) := by decide +kernel
theorem dX10_isFigure_13 : decode cX10_isFigure 13 = .ok (.ireturn, 1) := by decide +kernel
theorem dX10_readOne_0 : decode cX10_readOne 0 = .ok (.aload_n 0, 1) := by decide +kernel
theorem dX10_readOne_1 : decode cX10_readOne 1 = .ok (.iload_n 1, 1) := by decide +kernel
theorem dX10_readOne_2 : decode cX10_readOne 2 = .ok (.invokevirtual 106, 3) := by decide +kernel
theorem dX10_readOne_5 : decode cX10_readOne 5 = .ok (.invokestatic 110, 3) := by decide +kernel
theorem dX10_readOne_8 : decode cX10_readOne 8 = .ok (.iconst (-1), 1) := by decide +kernel
theorem dX10_readOne_9 : decode cX10_readOne 9 = .ok (.if_icmp .ne 5, 3) := by decide +kernel
theorem dX10_readOne_12 : decode cX10_readOne 12 = .ok (.iload_n 1, 1) := by decide +kernel
theorem dX10_readOne_13 : decode cX10_readOne 13 = .ok (.ireturn, 1) := by decide +kernel
theorem dX10_readOne_14 : decode cX10_readOne 14 = .ok (.aload_n 0, 1) := by decide +kernel
theorem dX10_readOne_15 : decode cX10_readOne 15 = .ok (.iload_n 1, 1) := by decide +kernel
theorem dX10_readOne_16 : decode cX10_readOne 16 = .ok (.iconst 1, 1) := by decide +kernel
theorem dX10_readOne_17 : decode cX10_readOne 17 = .ok (.iadd, 1) := by decide +kernel
theorem dX10_readOne_18 : decode cX10_readOne 18 = .ok (.bipush 9, 2) := by decide +kernel
theorem dX10_readOne_20 : decode cX10_readOne 20 = .ok (.invokevirtual 113, 3) := by decide +kernel
theorem dX10_readOne_23 : decode cX10_readOne 23 = .ok (.ifCond .ne 9, 3) := by decide +kernel
theorem dX10_readOne_26 : decode cX10_readOne 26 = .ok (.iload_n 1, 1) := by decide +kernel
theorem dX10_readOne_27 : decode cX10_readOne 27 = .ok (.iconst 1, 1) := by decide +kernel
theorem dX10_readOne_28 : decode cX10_readOne 28 = .ok (.iadd, 1) := by decide +kernel
theorem dX10_readOne_29 : decode cX10_readOne 29 = .ok (.goto 41, 3) := by decide +kernel
theorem dX10_readOne_32 : decode cX10_readOne 32 = .ok (.aload_n 0, 1) := by decide +kernel
theorem dX10_readOne_33 : decode cX10_readOne 33 = .ok (.iload_n 1, 1) := by decide +kernel
theorem dX10_readOne_34 : decode cX10_readOne 34 = .ok (.iconst 2, 1) := by decide +kernel
theorem dX10_readOne_35 : decode cX10_readOne 35 = .ok (.iadd, 1) := by decide +kernel
theorem dX10_readOne_36 : decode cX10_readOne 36 = .ok (.iconst 3, 1) := by decide +kernel
theorem dX10_readOne_37 : decode cX10_readOne 37 = .ok (.invokevirtual 113, 3) := by decide +kernel
theorem dX10_readOne_40 : decode cX10_readOne 40 = .ok (.ifCond .ne 9, 3) := by decide +kernel
theorem dX10_readOne_43 : decode cX10_readOne 43 = .ok (.iload_n 1, 1) := by decide +kernel
theorem dX10_readOne_44 : decode cX10_readOne 44 = .ok (.iconst 2, 1) := by decide +kernel
theorem dX10_readOne_45 : decode cX10_readOne 45 = .ok (.iadd, 1) := by decide +kernel
theorem dX10_readOne_46 : decode cX10_readOne 46 = .ok (.goto 24, 3) := by decide +kernel
theorem dX10_readOne_49 : decode cX10_readOne 49 = .ok (.aload_n 0, 1) := by decide +kernel
theorem dX10_readOne_50 : decode cX10_readOne 50 = .ok (.iload_n 1, 1) := by decide +kernel
theorem dX10_readOne_51 : decode cX10_readOne 51 = .ok (.iconst 3, 1) := by decide +kernel
theorem dX10_readOne_52 : decode cX10_readOne 52 = .ok (.iadd, 1) := by decide +kernel
theorem dX10_readOne_53 : decode cX10_readOne 53 = .ok (.bipush 9, 2) := by decide +kernel
theorem dX10_readOne_55 : decode cX10_readOne 55 = .ok (.invokevirtual 113, 3) := by decide +kernel
theorem dX10_readOne_58 : decode cX10_readOne 58 = .ok (.ifCond .ne 9, 3) := by decide +kernel
theorem dX10_readOne_61 : decode cX10_readOne 61 = .ok (.iload_n 1, 1) := by decide +kernel
theorem dX10_readOne_62 : decode cX10_readOne 62 = .ok (.iconst 3, 1) := by decide +kernel
theorem dX10_readOne_63 : decode cX10_readOne 63 = .ok (.iadd, 1) := by decide +kernel
theorem dX10_readOne_64 : decode cX10_readOne 64 = .ok (.goto 6, 3) := by decide +kernel
theorem dX10_readOne_67 : decode cX10_readOne 67 = .ok (.iload_n 1, 1) := by decide +kernel
theorem dX10_readOne_68 : decode cX10_readOne 68 = .ok (.iconst 4, 1) := by decide +kernel
theorem dX10_readOne_69 : decode cX10_readOne 69 = .ok (.iadd, 1) := by decide +kernel
theorem dX10_readOne_70 : decode cX10_readOne 70 = .ok (.ireturn, 1) := by decide +kernel
theorem dX10_readSide_0 : decode cX10_readSide 0 = .ok (.aload_n 0, 1) := by decide +kernel
theorem dX10_readSide_1 : decode cX10_readSide 1 = .ok (.iconst 0, 1) := by decide +kernel
theorem dX10_readSide_2 : decode cX10_readSide 2 = .ok (.putfield 117, 3) := by decide +kernel
theorem dX10_readSide_5 : decode cX10_readSide 5 = .ok (.aload_n 0, 1) := by decide +kernel
theorem dX10_readSide_6 : decode cX10_readSide 6 = .ok (.iconst 0, 1) := by decide +kernel
theorem dX10_readSide_7 : decode cX10_readSide 7 = .ok (.putfield 120, 3) := by decide +kernel
theorem dX10_readSide_10 : decode cX10_readSide 10 = .ok (.iload_n 1, 1) := by decide +kernel
theorem dX10_readSide_11 : decode cX10_readSide 11 = .ok (.istore_n 2, 1) := by decide +kernel
theorem dX10_readSide_12 : decode cX10_readSide 12 = .ok (.aload_n 0, 1) := by decide +kernel
theorem dX10_readSide_13 : decode cX10_readSide 13 = .ok (.iload_n 2, 1) := by decide +kernel
theorem dX10_readSide_14 : decode cX10_readSide 14 = .ok (.invokevirtual 124, 3) := by decide +kernel
theorem dX10_readSide_17 : decode cX10_readSide 17 = .ok (.istore_n 3, 1) := by decide +kernel
theorem dX10_readSide_18 : decode cX10_readSide 18 = .ok (.iload_n 3, 1) := by decide +kernel
theorem dX10_readSide_19 : decode cX10_readSide 19 = .ok (.iload_n 2, 1) := by decide +kernel
theorem dX10_readSide_20 : decode cX10_readSide 20 = .ok (.iconst 4, 1) := by decide +kernel
theorem dX10_readSide_21 : decode cX10_readSide 21 = .ok (.iadd, 1) := by decide +kernel
theorem dX10_readSide_22 : decode cX10_readSide 22 = .ok (.if_icmp .eq 5, 3) := by decide +kernel
theorem dX10_readSide_25 : decode cX10_readSide 25 = .ok (.iload_n 3, 1) := by decide +kernel
theorem dX10_readSide_26 : decode cX10_readSide 26 = .ok (.ireturn, 1) := by decide +kernel
theorem dX10_readSide_27 : decode cX10_readSide 27 = .ok (.aload_n 0, 1) := by decide +kernel
theorem dX10_readSide_28 : decode cX10_readSide 28 = .ok (.dup, 1) := by decide +kernel
theorem dX10_readSide_29 : decode cX10_readSide 29 = .ok (.getfield 117, 3) := by decide +kernel
theorem dX10_readSide_32 : decode cX10_readSide 32 = .ok (.iconst 1, 1) := by decide +kernel
theorem dX10_readSide_33 : decode cX10_readSide 33 = .ok (.iadd, 1) := by decide +kernel
theorem dX10_readSide_34 : decode cX10_readSide 34 = .ok (.putfield 117, 3) := by decide +kernel
theorem dX10_readSide_37 : decode cX10_readSide 37 = .ok (.iload_n 3, 1) := by decide +kernel
theorem dX10_readSide_38 : decode cX10_readSide 38 = .ok (.istore_n 2, 1) := by decide +kernel
theorem dX10_readSide_39 : decode cX10_readSide 39 = .ok (.aload_n 0, 1) := by decide +kernel
theorem dX10_readSide_40 : decode cX10_readSide 40 = .ok (.iconst 1, 1) := by decide +kernel
theorem dX10_readSide_41 : decode cX10_readSide 41 = .ok (.putfield 120, 3) := by decide +kernel
theorem dX10_readSide_44 : decode cX10_readSide 44 = .ok (.aload_n 0, 1) := by decide +kernel
theorem dX10_readSide_45 : decode cX10_readSide 45 = .ok (.getfield 117, 3) := by decide +kernel
theorem dX10_readSide_48 : decode cX10_readSide 48 = .ok (.iconst 4, 1) := by decide +kernel
theorem dX10_readSide_49 : decode cX10_readSide 49 = .ok (.if_icmp .eq 13, 3) := by decide +kernel
theorem dX10_readSide_52 : decode cX10_readSide 52 = .ok (.aload_n 0, 1) := by decide +kernel
theorem dX10_readSide_53 : decode cX10_readSide 53 = .ok (.iload_n 2, 1) := by decide +kernel
theorem dX10_readSide_54 : decode cX10_readSide 54 = .ok (.invokevirtual 106, 3) := by decide +kernel
theorem dX10_readSide_57 : decode cX10_readSide 57 = .ok (.bipush 44, 2) := by decide +kernel
theorem dX10_readSide_59 : decode cX10_readSide 59 = .ok (.if_icmp .eq 5, 3) := by decide +kernel
theorem dX10_readSide_62 : decode cX10_readSide 62 = .ok (.iload_n 2, 1) := by decide +kernel
theorem dX10_readSide_63 : decode cX10_readSide 63 = .ok (.ireturn, 1) := by decide +kernel
theorem dX10_readSide_64 : decode cX10_readSide 64 = .ok (.aload_n 0, 1) := by decide +kernel
theorem dX10_readSide_65 : decode cX10_readSide 65 = .ok (.iconst 0, 1) := by decide +kernel
theorem dX10_readSide_66 : decode cX10_readSide 66 = .ok (.putfield 120, 3) := by decide +kernel
theorem dX10_readSide_69 : decode cX10_readSide 69 = .ok (.iinc 2 1, 3) := by decide +kernel
theorem dX10_readSide_72 : decode cX10_readSide 72 = .ok (.goto (-60), 3) := by decide +kernel
theorem dX10_read_0 : decode cX10_read 0 = .ok (.aload_n 0, 1) := by decide +kernel
theorem dX10_read_1 : decode cX10_read 1 = .ok (.iconst 0, 1) := by decide +kernel
theorem dX10_read_2 : decode cX10_read 2 = .ok (.invokevirtual 127, 3) := by decide +kernel
theorem dX10_read_5 : decode cX10_read 5 = .ok (.istore_n 1, 1) := by decide +kernel
theorem dX10_read_6 : decode cX10_read 6 = .ok (.aload_n 0, 1) := by decide +kernel
theorem dX10_read_7 : decode cX10_read 7 = .ok (.aload_n 0, 1) := by decide +kernel
theorem dX10_read_8 : decode cX10_read 8 = .ok (.getfield 117, 3) := by decide +kernel
theorem dX10_read_11 : decode cX10_read 11 = .ok (.putfield 130, 3) := by decide +kernel
theorem dX10_read_14 : decode cX10_read 14 = .ok (.aload_n 0, 1) := by decide +kernel
theorem dX10_read_15 : decode cX10_read 15 = .ok (.getfield 120, 3) := by decide +kernel
theorem dX10_read_18 : decode cX10_read 18 = .ok (.ifCond .eq 13, 3) := by decide +kernel
theorem dX10_read_21 : decode cX10_read 21 = .ok (.aload_n 0, 1) := by decide +kernel
theorem dX10_read_22 : decode cX10_read 22 = .ok (.iload_n 1, 1) := by decide +kernel
theorem dX10_read_23 : decode cX10_read 23 = .ok (.invokevirtual 106, 3) := by decide +kernel
theorem dX10_read_26 : decode cX10_read 26 = .ok (.bipush 59, 2) := by decide +kernel
theorem dX10_read_28 : decode cX10_read 28 = .ok (.if_icmp .eq 10, 3) := by decide +kernel
theorem dX10_read_31 : decode cX10_read 31 = .ok (.aload_n 0, 1) := by decide +kernel
theorem dX10_read_32 : decode cX10_read 32 = .ok (.iconst 0, 1) := by decide +kernel
theorem dX10_read_33 : decode cX10_read 33 = .ok (.putfield 120, 3) := by decide +kernel
theorem dX10_read_36 : decode cX10_read 36 = .ok (.iload_n 1, 1) := by decide +kernel
theorem dX10_read_37 : decode cX10_read 37 = .ok (.ireturn, 1) := by decide +kernel
theorem dX10_read_38 : decode cX10_read 38 = .ok (.aload_n 0, 1) := by decide +kernel
theorem dX10_read_39 : decode cX10_read 39 = .ok (.iload_n 1, 1) := by decide +kernel
theorem dX10_read_40 : decode cX10_read 40 = .ok (.iconst 1, 1) := by decide +kernel
theorem dX10_read_41 : decode cX10_read 41 = .ok (.iadd, 1) := by decide +kernel
theorem dX10_read_42 : decode cX10_read 42 = .ok (.invokevirtual 127, 3) := by decide +kernel
theorem dX10_read_45 : decode cX10_read 45 = .ok (.istore_n 2, 1) := by decide +kernel
theorem dX10_read_46 : decode cX10_read 46 = .ok (.aload_n 0, 1) := by decide +kernel
theorem dX10_read_47 : decode cX10_read 47 = .ok (.aload_n 0, 1) := by decide +kernel
theorem dX10_read_48 : decode cX10_read 48 = .ok (.getfield 120, 3) := by decide +kernel
theorem dX10_read_51 : decode cX10_read 51 = .ok (.ifCond .eq 15, 3) := by decide +kernel
theorem dX10_read_54 : decode cX10_read 54 = .ok (.iload_n 2, 1) := by decide +kernel
theorem dX10_read_55 : decode cX10_read 55 = .ok (.aload_n 0, 1) := by decide +kernel
theorem dX10_read_56 : decode cX10_read 56 = .ok (.getfield 102, 3) := by decide +kernel
theorem dX10_read_59 : decode cX10_read 59 = .ok (.if_icmp .ne 7, 3) := by decide +kernel
theorem dX10_read_62 : decode cX10_read 62 = .ok (.iconst 1, 1) := by decide +kernel
theorem dX10_read_63 : decode cX10_read 63 = .ok (.goto 4, 3) := by decide +kernel
theorem dX10_read_66 : decode cX10_read 66 = .ok (.iconst 0, 1) := by decide +kernel
theorem dX10_read_67 : decode cX10_read 67 = .ok (.putfield 120, 3) := by decide +kernel
end
section
theorem dX10_read_70 : decode cX10_read 70 = .ok (.iload_n 2, 1) := by decide +kernel
theorem dX10_read_71 : decode cX10_read 71 = .ok (.ireturn, 1) := by decide +kernel
theorem dX10_fault_0 : decode cX10_fault 0 = .ok (.aload_n 0, 1) := by decide +kernel
theorem dX10_fault_1 : decode cX10_fault 1 = .ok (.invokevirtual 133, 3) := by decide +kernel
theorem dX10_fault_4 : decode cX10_fault 4 = .ok (.ireturn, 1) := by decide +kernel
theorem dX10_sea_0 : decode cX10_sea 0 = .ok (.aload_n 0, 1) := by decide +kernel
theorem dX10_sea_1 : decode cX10_sea 1 = .ok (.invokevirtual 133, 3) := by decide +kernel
theorem dX10_sea_4 : decode cX10_sea 4 = .ok (.pop, 1) := by decide +kernel
theorem dX10_sea_5 : decode cX10_sea 5 = .ok (.aload_n 0, 1) := by decide +kernel
theorem dX10_sea_6 : decode cX10_sea 6 = .ok (.getfield 120, 3) := by decide +kernel
theorem dX10_sea_9 : decode cX10_sea 9 = .ok (.ifCond .ne 6, 3) := by decide +kernel
theorem dX10_sea_12 : decode cX10_sea 12 = .ok (.bipush (-103), 2) := by decide +kernel
theorem dX10_sea_14 : decode cX10_sea 14 = .ok (.ireturn, 1) := by decide +kernel
theorem dX10_sea_15 : decode cX10_sea 15 = .ok (.aload_n 0, 1) := by decide +kernel
theorem dX10_sea_16 : decode cX10_sea 16 = .ok (.aload_n 0, 1) := by decide +kernel
theorem dX10_sea_17 : decode cX10_sea 17 = .ok (.getfield 130, 3) := by decide +kernel
theorem dX10_sea_20 : decode cX10_sea 20 = .ok (.putfield 137, 3) := by decide +kernel
theorem dX10_sea_23 : decode cX10_sea 23 = .ok (.aload_n 0, 1) := by decide +kernel
theorem dX10_sea_24 : decode cX10_sea 24 = .ok (.aload_n 0, 1) := by decide +kernel
theorem dX10_sea_25 : decode cX10_sea 25 = .ok (.getfield 130, 3) := by decide +kernel
theorem dX10_sea_28 : decode cX10_sea 28 = .ok (.aload_n 0, 1) := by decide +kernel
theorem dX10_sea_29 : decode cX10_sea 29 = .ok (.getfield 117, 3) := by decide +kernel
theorem dX10_sea_32 : decode cX10_sea 32 = .ok (.iadd, 1) := by decide +kernel
theorem dX10_sea_33 : decode cX10_sea 33 = .ok (.putfield 140, 3) := by decide +kernel
theorem dX10_sea_36 : decode cX10_sea 36 = .ok (.iconst 0, 1) := by decide +kernel
theorem dX10_sea_37 : decode cX10_sea 37 = .ok (.istore_n 1, 1) := by decide +kernel
theorem dX10_sea_38 : decode cX10_sea 38 = .ok (.iload_n 1, 1) := by decide +kernel
theorem dX10_sea_39 : decode cX10_sea 39 = .ok (.aload_n 0, 1) := by decide +kernel
theorem dX10_sea_40 : decode cX10_sea 40 = .ok (.getfield 140, 3) := by decide +kernel
theorem dX10_sea_43 : decode cX10_sea 43 = .ok (.if_icmp .ge 118, 3) := by decide +kernel
theorem dX10_sea_46 : decode cX10_sea 46 = .ok (.aload_n 0, 1) := by decide +kernel
theorem dX10_sea_47 : decode cX10_sea 47 = .ok (.getfield 7, 3) := by decide +kernel
theorem dX10_sea_50 : decode cX10_sea 50 = .ok (.iload_n 1, 1) := by decide +kernel
theorem dX10_sea_51 : decode cX10_sea 51 = .ok (.aload_n 0, 1) := by decide +kernel
theorem dX10_sea_52 : decode cX10_sea 52 = .ok (.getfield 46, 3) := by decide +kernel
theorem dX10_sea_55 : decode cX10_sea 55 = .ok (.iconst 5, 1) := by decide +kernel
theorem dX10_sea_56 : decode cX10_sea 56 = .ok (.iload_n 1, 1) := by decide +kernel
theorem dX10_sea_57 : decode cX10_sea 57 = .ok (.imul, 1) := by decide +kernel
theorem dX10_sea_58 : decode cX10_sea 58 = .ok (.baload, 1) := by decide +kernel
theorem dX10_sea_59 : decode cX10_sea 59 = .ok (.invokestatic 110, 3) := by decide +kernel
theorem dX10_sea_62 : decode cX10_sea 62 = .ok (.iastore, 1) := by decide +kernel
theorem dX10_sea_63 : decode cX10_sea 63 = .ok (.aload_n 0, 1) := by decide +kernel
theorem dX10_sea_64 : decode cX10_sea 64 = .ok (.getfield 13, 3) := by decide +kernel
theorem dX10_sea_67 : decode cX10_sea 67 = .ok (.iload_n 1, 1) := by decide +kernel
theorem dX10_sea_68 : decode cX10_sea 68 = .ok (.aload_n 0, 1) := by decide +kernel
theorem dX10_sea_69 : decode cX10_sea 69 = .ok (.getfield 46, 3) := by decide +kernel
theorem dX10_sea_72 : decode cX10_sea 72 = .ok (.iconst 5, 1) := by decide +kernel
theorem dX10_sea_73 : decode cX10_sea 73 = .ok (.iload_n 1, 1) := by decide +kernel
theorem dX10_sea_74 : decode cX10_sea 74 = .ok (.imul, 1) := by decide +kernel
theorem dX10_sea_75 : decode cX10_sea 75 = .ok (.iconst 1, 1) := by decide +kernel
theorem dX10_sea_76 : decode cX10_sea 76 = .ok (.iadd, 1) := by decide +kernel
theorem dX10_sea_77 : decode cX10_sea 77 = .ok (.baload, 1) := by decide +kernel
theorem dX10_sea_78 : decode cX10_sea 78 = .ok (.bipush 48, 2) := by decide +kernel
theorem dX10_sea_80 : decode cX10_sea 80 = .ok (.isub, 1) := by decide +kernel
theorem dX10_sea_81 : decode cX10_sea 81 = .ok (.iastore, 1) := by decide +kernel
theorem dX10_sea_82 : decode cX10_sea 82 = .ok (.aload_n 0, 1) := by decide +kernel
theorem dX10_sea_83 : decode cX10_sea 83 = .ok (.getfield 16, 3) := by decide +kernel
theorem dX10_sea_86 : decode cX10_sea 86 = .ok (.iload_n 1, 1) := by decide +kernel
theorem dX10_sea_87 : decode cX10_sea 87 = .ok (.aload_n 0, 1) := by decide +kernel
theorem dX10_sea_88 : decode cX10_sea 88 = .ok (.getfield 46, 3) := by decide +kernel
theorem dX10_sea_91 : decode cX10_sea 91 = .ok (.iconst 5, 1) := by decide +kernel
theorem dX10_sea_92 : decode cX10_sea 92 = .ok (.iload_n 1, 1) := by decide +kernel
theorem dX10_sea_93 : decode cX10_sea 93 = .ok (.imul, 1) := by decide +kernel
theorem dX10_sea_94 : decode cX10_sea 94 = .ok (.iconst 2, 1) := by decide +kernel
theorem dX10_sea_95 : decode cX10_sea 95 = .ok (.iadd, 1) := by decide +kernel
theorem dX10_sea_96 : decode cX10_sea 96 = .ok (.baload, 1) := by decide +kernel
theorem dX10_sea_97 : decode cX10_sea 97 = .ok (.bipush 48, 2) := by decide +kernel
theorem dX10_sea_99 : decode cX10_sea 99 = .ok (.isub, 1) := by decide +kernel
theorem dX10_sea_100 : decode cX10_sea 100 = .ok (.iastore, 1) := by decide +kernel
theorem dX10_sea_101 : decode cX10_sea 101 = .ok (.aload_n 0, 1) := by decide +kernel
theorem dX10_sea_102 : decode cX10_sea 102 = .ok (.getfield 19, 3) := by decide +kernel
theorem dX10_sea_105 : decode cX10_sea 105 = .ok (.iload_n 1, 1) := by decide +kernel
theorem dX10_sea_106 : decode cX10_sea 106 = .ok (.aload_n 0, 1) := by decide +kernel
theorem dX10_sea_107 : decode cX10_sea 107 = .ok (.getfield 46, 3) := by decide +kernel
theorem dX10_sea_110 : decode cX10_sea 110 = .ok (.iconst 5, 1) := by decide +kernel
theorem dX10_sea_111 : decode cX10_sea 111 = .ok (.iload_n 1, 1) := by decide +kernel
theorem dX10_sea_112 : decode cX10_sea 112 = .ok (.imul, 1) := by decide +kernel
theorem dX10_sea_113 : decode cX10_sea 113 = .ok (.iconst 3, 1) := by decide +kernel
theorem dX10_sea_114 : decode cX10_sea 114 = .ok (.iadd, 1) := by decide +kernel
theorem dX10_sea_115 : decode cX10_sea 115 = .ok (.baload, 1) := by decide +kernel
theorem dX10_sea_116 : decode cX10_sea 116 = .ok (.bipush 48, 2) := by decide +kernel
theorem dX10_sea_118 : decode cX10_sea 118 = .ok (.isub, 1) := by decide +kernel
theorem dX10_sea_119 : decode cX10_sea 119 = .ok (.iastore, 1) := by decide +kernel
theorem dX10_sea_120 : decode cX10_sea 120 = .ok (.aload_n 0, 1) := by decide +kernel
theorem dX10_sea_121 : decode cX10_sea 121 = .ok (.getfield 22, 3) := by decide +kernel
theorem dX10_sea_124 : decode cX10_sea 124 = .ok (.iload_n 1, 1) := by decide +kernel
theorem dX10_sea_125 : decode cX10_sea 125 = .ok (.iconst 0, 1) := by decide +kernel
theorem dX10_sea_126 : decode cX10_sea 126 = .ok (.iastore, 1) := by decide +kernel
theorem dX10_sea_127 : decode cX10_sea 127 = .ok (.aload_n 0, 1) := by decide +kernel
theorem dX10_sea_128 : decode cX10_sea 128 = .ok (.getfield 25, 3) := by decide +kernel
theorem dX10_sea_131 : decode cX10_sea 131 = .ok (.iload_n 1, 1) := by decide +kernel
theorem dX10_sea_132 : decode cX10_sea 132 = .ok (.iconst 0, 1) := by decide +kernel
theorem dX10_sea_133 : decode cX10_sea 133 = .ok (.iastore, 1) := by decide +kernel
theorem dX10_sea_134 : decode cX10_sea 134 = .ok (.aload_n 0, 1) := by decide +kernel
theorem dX10_sea_135 : decode cX10_sea 135 = .ok (.getfield 28, 3) := by decide +kernel
theorem dX10_sea_138 : decode cX10_sea 138 = .ok (.iload_n 1, 1) := by decide +kernel
theorem dX10_sea_139 : decode cX10_sea 139 = .ok (.iconst 0, 1) := by decide +kernel
theorem dX10_sea_140 : decode cX10_sea 140 = .ok (.iastore, 1) := by decide +kernel
theorem dX10_sea_141 : decode cX10_sea 141 = .ok (.aload_n 0, 1) := by decide +kernel
theorem dX10_sea_142 : decode cX10_sea 142 = .ok (.getfield 31, 3) := by decide +kernel
theorem dX10_sea_145 : decode cX10_sea 145 = .ok (.iload_n 1, 1) := by decide +kernel
theorem dX10_sea_146 : decode cX10_sea 146 = .ok (.iconst 0, 1) := by decide +kernel
theorem dX10_sea_147 : decode cX10_sea 147 = .ok (.iastore, 1) := by decide +kernel
theorem dX10_sea_148 : decode cX10_sea 148 = .ok (.aload_n 0, 1) := by decide +kernel
theorem dX10_sea_149 : decode cX10_sea 149 = .ok (.getfield 34, 3) := by decide +kernel
theorem dX10_sea_152 : decode cX10_sea 152 = .ok (.iload_n 1, 1) := by decide +kernel
theorem dX10_sea_153 : decode cX10_sea 153 = .ok (.iconst (-1), 1) := by decide +kernel
theorem dX10_sea_154 : decode cX10_sea 154 = .ok (.iastore, 1) := by decide +kernel
theorem dX10_sea_155 : decode cX10_sea 155 = .ok (.iinc 1 1, 3) := by decide +kernel
theorem dX10_sea_158 : decode cX10_sea 158 = .ok (.goto (-120), 3) := by decide +kernel
theorem dX10_sea_161 : decode cX10_sea 161 = .ok (.aload_n 0, 1) := by decide +kernel
theorem dX10_sea_162 : decode cX10_sea 162 = .ok (.bipush 9, 2) := by decide +kernel
theorem dX10_sea_164 : decode cX10_sea 164 = .ok (.putfield 143, 3) := by decide +kernel
theorem dX10_sea_167 : decode cX10_sea 167 = .ok (.aload_n 0, 1) := by decide +kernel
theorem dX10_sea_168 : decode cX10_sea 168 = .ok (.iconst 0, 1) := by decide +kernel
theorem dX10_sea_169 : decode cX10_sea 169 = .ok (.putfield 146, 3) := by decide +kernel
theorem dX10_sea_172 : decode cX10_sea 172 = .ok (.aload_n 0, 1) := by decide +kernel
theorem dX10_sea_173 : decode cX10_sea 173 = .ok (.iconst 0, 1) := by decide +kernel
theorem dX10_sea_174 : decode cX10_sea 174 = .ok (.putfield 149, 3) := by decide +kernel
theorem dX10_sea_177 : decode cX10_sea 177 = .ok (.aload_n 0, 1) := by decide +kernel
theorem dX10_sea_178 : decode cX10_sea 178 = .ok (.iconst 0, 1) := by decide +kernel
theorem dX10_sea_179 : decode cX10_sea 179 = .ok (.putfield 152, 3) := by decide +kernel
theorem dX10_sea_182 : decode cX10_sea 182 = .ok (.aload_n 0, 1) := by decide +kernel
theorem dX10_sea_183 : decode cX10_sea 183 = .ok (.iconst 0, 1) := by decide +kernel
theorem dX10_sea_184 : decode cX10_sea 184 = .ok (.putfield 155, 3) := by decide +kernel
theorem dX10_sea_187 : decode cX10_sea 187 = .ok (.aload_n 0, 1) := by decide +kernel
theorem dX10_sea_188 : decode cX10_sea 188 = .ok (.iconst 0, 1) := by decide +kernel
theorem dX10_sea_189 : decode cX10_sea 189 = .ok (.putfield 158, 3) := by decide +kernel
theorem dX10_sea_192 : decode cX10_sea 192 = .ok (.aload_n 0, 1) := by decide +kernel
theorem dX10_sea_193 : decode cX10_sea 193 = .ok (.dup, 1) := by decide +kernel
theorem dX10_sea_194 : decode cX10_sea 194 = .ok (.getfield 161, 3) := by decide +kernel
theorem dX10_sea_197 : decode cX10_sea 197 = .ok (.iconst 1, 1) := by decide +kernel
theorem dX10_sea_198 : decode cX10_sea 198 = .ok (.iadd, 1) := by decide +kernel
theorem dX10_sea_199 : decode cX10_sea 199 = .ok (.putfield 161, 3) := by decide +kernel
theorem dX10_sea_202 : decode cX10_sea 202 = .ok (.aload_n 0, 1) := by decide +kernel
theorem dX10_sea_203 : decode cX10_sea 203 = .ok (.iconst 0, 1) := by decide +kernel
theorem dX10_sea_204 : decode cX10_sea 204 = .ok (.putfield 164, 3) := by decide +kernel
theorem dX10_sea_207 : decode cX10_sea 207 = .ok (.aload_n 0, 1) := by decide +kernel
theorem dX10_sea_208 : decode cX10_sea 208 = .ok (.iconst 0, 1) := by decide +kernel
theorem dX10_sea_209 : decode cX10_sea 209 = .ok (.putfield 102, 3) := by decide +kernel
theorem dX10_sea_212 : decode cX10_sea 212 = .ok (.aload_n 0, 1) := by decide +kernel
theorem dX10_sea_213 : decode cX10_sea 213 = .ok (.getfield 140, 3) := by decide +kernel
theorem dX10_sea_216 : decode cX10_sea 216 = .ok (.ireturn, 1) := by decide +kernel
theorem dX10_isPerson_0 : decode cX10_isPerson 0 = .ok (.iload_n 1, 1) := by decide +kernel
theorem dX10_isPerson_1 : decode cX10_isPerson 1 = .ok (.iconst 0, 1) := by decide +kernel
theorem dX10_isPerson_2 : decode cX10_isPerson 2 = .ok (.aload_n 0, 1) := by decide +kernel
theorem dX10_isPerson_3 : decode cX10_isPerson 3 = .ok (.getfield 140, 3) := by decide +kernel
theorem dX10_isPerson_6 : decode cX10_isPerson 6 = .ok (.iconst 1, 1) := by decide +kernel
theorem dX10_isPerson_7 : decode cX10_isPerson 7 = .ok (.isub, 1) := by decide +kernel
theorem dX10_isPerson_8 : decode cX10_isPerson 8 = .ok (.invokestatic 98, 3) := by decide +kernel
theorem dX10_isPerson_11 : decode cX10_isPerson 11 = .ok (.ireturn, 1) := by decide +kernel
theorem dX10_areTwo_0 : decode cX10_areTwo 0 = .ok (.aload_n 0, 1) := by decide +kernel
theorem dX10_areTwo_1 : decode cX10_areTwo 1 = .ok (.iload_n 1, 1) := by decide +kernel
theorem dX10_areTwo_2 : decode cX10_areTwo 2 = .ok (.invokevirtual 167, 3) := by decide +kernel
theorem dX10_areTwo_5 : decode cX10_areTwo 5 = .ok (.ifCond .eq 15, 3) := by decide +kernel
theorem dX10_areTwo_8 : decode cX10_areTwo 8 = .ok (.aload_n 0, 1) := by decide +kernel
theorem dX10_areTwo_9 : decode cX10_areTwo 9 = .ok (.iload_n 2, 1) := by decide +kernel
theorem dX10_areTwo_10 : decode cX10_areTwo 10 = .ok (.invokevirtual 167, 3) := by decide +kernel
theorem dX10_areTwo_13 : decode cX10_areTwo 13 = .ok (.ifCond .eq 7, 3) := by decide +kernel
theorem dX10_areTwo_16 : decode cX10_areTwo 16 = .ok (.iconst 1, 1) := by decide +kernel
theorem dX10_areTwo_17 : decode cX10_areTwo 17 = .ok (.goto 4, 3) := by decide +kernel
theorem dX10_areTwo_20 : decode cX10_areTwo 20 = .ok (.iconst 0, 1) := by decide +kernel
theorem dX10_areTwo_21 : decode cX10_areTwo 21 = .ok (.ireturn, 1) := by decide +kernel
theorem dX10_sideOf_0 : decode cX10_sideOf 0 = .ok (.iload_n 1, 1) := by decide +kernel
theorem dX10_sideOf_1 : decode cX10_sideOf 1 = .ok (.aload_n 0, 1) := by decide +kernel
theorem dX10_sideOf_2 : decode cX10_sideOf 2 = .ok (.getfield 137, 3) := by decide +kernel
theorem dX10_sideOf_5 : decode cX10_sideOf 5 = .ok (.if_icmp .ge 7, 3) := by decide +kernel
theorem dX10_sideOf_8 : decode cX10_sideOf 8 = .ok (.iconst 0, 1) := by decide +kernel
theorem dX10_sideOf_9 : decode cX10_sideOf 9 = .ok (.goto 4, 3) := by decide +kernel
theorem dX10_sideOf_12 : decode cX10_sideOf 12 = .ok (.iconst 1, 1) := by decide +kernel
theorem dX10_sideOf_13 : decode cX10_sideOf 13 = .ok (.ireturn, 1) := by decide +kernel
theorem dX10_areOther_0 : decode cX10_areOther 0 = .ok (.aload_n 0, 1) := by decide +kernel
theorem dX10_areOther_1 : decode cX10_areOther 1 = .ok (.iload_n 1, 1) := by decide +kernel
theorem dX10_areOther_2 : decode cX10_areOther 2 = .ok (.invokevirtual 171, 3) := by decide +kernel
theorem dX10_areOther_5 : decode cX10_areOther 5 = .ok (.aload_n 0, 1) := by decide +kernel
theorem dX10_areOther_6 : decode cX10_areOther 6 = .ok (.iload_n 2, 1) := by decide +kernel
theorem dX10_areOther_7 : decode cX10_areOther 7 = .ok (.invokevirtual 171, 3) := by decide +kernel
theorem dX10_areOther_10 : decode cX10_areOther 10 = .ok (.if_icmp .eq 7, 3) := by decide +kernel
theorem dX10_areOther_13 : decode cX10_areOther 13 = .ok (.iconst 1, 1) := by decide +kernel
theorem dX10_areOther_14 : decode cX10_areOther 14 = .ok (.goto 4, 3) := by decide +kernel
theorem dX10_areOther_17 : decode cX10_areOther 17 = .ok (.iconst 0, 1) := by decide +kernel
theorem dX10_areOther_18 : decode cX10_areOther 18 = .ok (.ireturn, 1) := by decide +kernel
theorem dX10_isFree_0 : decode cX10_isFree 0 = .ok (.aload_n 0, 1) := by decide +kernel
theorem dX10_isFree_1 : decode cX10_isFree 1 = .ok (.getfield 7, 3) := by decide +kernel
theorem dX10_isFree_4 : decode cX10_isFree 4 = .ok (.iload_n 1, 1) := by decide +kernel
theorem dX10_isFree_5 : decode cX10_isFree 5 = .ok (.iaload, 1) := by decide +kernel
theorem dX10_isFree_6 : decode cX10_isFree 6 = .ok (.iconst 4, 1) := by decide +kernel
theorem dX10_isFree_7 : decode cX10_isFree 7 = .ok (.if_icmp .eq 17, 3) := by decide +kernel
theorem dX10_isFree_10 : decode cX10_isFree 10 = .ok (.aload_n 0, 1) := by decide +kernel
theorem dX10_isFree_11 : decode cX10_isFree 11 = .ok (.getfield 34, 3) := by decide +kernel
theorem dX10_isFree_14 : decode cX10_isFree 14 = .ok (.iload_n 1, 1) := by decide +kernel
theorem dX10_isFree_15 : decode cX10_isFree 15 = .ok (.iaload, 1) := by decide +kernel
theorem dX10_isFree_16 : decode cX10_isFree 16 = .ok (.iconst (-1), 1) := by decide +kernel
theorem dX10_isFree_17 : decode cX10_isFree 17 = .ok (.if_icmp .ne 7, 3) := by decide +kernel
theorem dX10_isFree_20 : decode cX10_isFree 20 = .ok (.iconst 1, 1) := by decide +kernel
theorem dX10_isFree_21 : decode cX10_isFree 21 = .ok (.goto 4, 3) := by decide +kernel
theorem dX10_isFree_24 : decode cX10_isFree 24 = .ok (.iconst 0, 1) := by decide +kernel
theorem dX10_isFree_25 : decode cX10_isFree 25 = .ok (.ireturn, 1) := by decide +kernel
theorem dX10_picture_0 : decode cX10_picture 0 = .ok (.aload_n 0, 1) := by decide +kernel
theorem dX10_picture_1 : decode cX10_picture 1 = .ok (.getfield 13, 3) := by decide +kernel
theorem dX10_picture_4 : decode cX10_picture 4 = .ok (.iload_n 1, 1) := by decide +kernel
theorem dX10_picture_5 : decode cX10_picture 5 = .ok (.iaload, 1) := by decide +kernel
theorem dX10_picture_6 : decode cX10_picture 6 = .ok (.aload_n 0, 1) := by decide +kernel
theorem dX10_picture_7 : decode cX10_picture 7 = .ok (.getfield 16, 3) := by decide +kernel
theorem dX10_picture_10 : decode cX10_picture 10 = .ok (.iload_n 1, 1) := by decide +kernel
theorem dX10_picture_11 : decode cX10_picture 11 = .ok (.iaload, 1) := by decide +kernel
theorem dX10_picture_12 : decode cX10_picture 12 = .ok (.iadd, 1) := by decide +kernel
theorem dX10_picture_13 : decode cX10_picture 13 = .ok (.ireturn, 1) := by decide +kernel
theorem dX10_likes_0 : decode cX10_likes 0 = .ok (.aload_n 0, 1) := by decide +kernel
theorem dX10_likes_1 : decode cX10_likes 1 = .ok (.iload_n 1, 1) := by decide +kernel
theorem dX10_likes_2 : decode cX10_likes 2 = .ok (.iload_n 2, 1) := by decide +kernel
theorem dX10_likes_3 : decode cX10_likes 3 = .ok (.invokevirtual 174, 3) := by decide +kernel
theorem dX10_likes_6 : decode cX10_likes 6 = .ok (.ifCond .eq 31, 3) := by decide +kernel
theorem dX10_likes_9 : decode cX10_likes 9 = .ok (.aload_n 0, 1) := by decide +kernel
theorem dX10_likes_10 : decode cX10_likes 10 = .ok (.getfield 7, 3) := by decide +kernel
theorem dX10_likes_13 : decode cX10_likes 13 = .ok (.iload_n 1, 1) := by decide +kernel
theorem dX10_likes_14 : decode cX10_likes 14 = .ok (.iaload, 1) := by decide +kernel
theorem dX10_likes_15 : decode cX10_likes 15 = .ok (.iconst 1, 1) := by decide +kernel
theorem dX10_likes_16 : decode cX10_likes 16 = .ok (.if_icmp .eq 17, 3) := by decide +kernel
theorem dX10_likes_19 : decode cX10_likes 19 = .ok (.aload_n 0, 1) := by decide +kernel
theorem dX10_likes_20 : decode cX10_likes 20 = .ok (.iload_n 2, 1) := by decide +kernel
theorem dX10_likes_21 : decode cX10_likes 21 = .ok (.invokevirtual 177, 3) := by decide +kernel
theorem dX10_likes_24 : decode cX10_likes 24 = .ok (.aload_n 0, 1) := by decide +kernel
theorem dX10_likes_25 : decode cX10_likes 25 = .ok (.getfield 19, 3) := by decide +kernel
theorem dX10_likes_28 : decode cX10_likes 28 = .ok (.iload_n 1, 1) := by decide +kernel
theorem dX10_likes_29 : decode cX10_likes 29 = .ok (.iaload, 1) := by decide +kernel
theorem dX10_likes_30 : decode cX10_likes 30 = .ok (.if_icmp .lt 7, 3) := by decide +kernel
theorem dX10_likes_33 : decode cX10_likes 33 = .ok (.iconst 1, 1) := by decide +kernel
theorem dX10_likes_34 : decode cX10_likes 34 = .ok (.goto 4, 3) := by decide +kernel
theorem dX10_likes_37 : decode cX10_likes 37 = .ok (.iconst 0, 1) := by decide +kernel
theorem dX10_likes_38 : decode cX10_likes 38 = .ok (.ireturn, 1) := by decide +kernel
theorem dX10_likeEachOther_0 : decode cX10_likeEachOther 0 = .ok (.aload_n 0, 1) := by decide +kernel
theorem dX10_likeEachOther_1 : decode cX10_likeEachOther 1 = .ok (.iload_n 1, 1) := by decide +kernel
theorem dX10_likeEachOther_2 : decode cX10_likeEachOther 2 = .ok (.iload_n 2, 1) := by decide +kernel
theorem dX10_likeEachOther_3 : decode cX10_likeEachOther 3 = .ok (.invokevirtual 180, 3) := by decide +kernel
theorem dX10_likeEachOther_6 : decode cX10_likeEachOther 6 = .ok (.ifCond .eq 16, 3) := by decide +kernel
theorem dX10_likeEachOther_9 : decode cX10_likeEachOther 9 = .ok (.aload_n 0, 1) := by decide +kernel
theorem dX10_likeEachOther_10 : decode cX10_likeEachOther 10 = .ok (.iload_n 2, 1) := by decide +kernel
theorem dX10_likeEachOther_11 : decode cX10_likeEachOther 11 = .ok (.iload_n 1, 1) := by decide +kernel
theorem dX10_likeEachOther_12 : decode cX10_likeEachOther 12 = .ok (.invokevirtual 180, 3) := by decide +kernel
theorem dX10_likeEachOther_15 : decode cX10_likeEachOther 15 = .ok (.ifCond .eq 7, 3) := by decide +kernel
theorem dX10_likeEachOther_18 : decode cX10_likeEachOther 18 = .ok (.iconst 1, 1) := by decide +kernel
theorem dX10_likeEachOther_19 : decode cX10_likeEachOther 19 = .ok (.goto 4, 3) := by decide +kernel
theorem dX10_likeEachOther_22 : decode cX10_likeEachOther 22 = .ok (.iconst 0, 1) := by decide +kernel
theorem dX10_likeEachOther_23 : decode cX10_likeEachOther 23 = .ok (.ireturn, 1) := by decide +kernel
theorem dX10_isMatch_0 : decode cX10_isMatch 0 = .ok (.aload_n 0, 1) := by decide +kernel
theorem dX10_isMatch_1 : decode cX10_isMatch 1 = .ok (.getfield 22, 3) := by decide +kernel
theorem dX10_isMatch_4 : decode cX10_isMatch 4 = .ok (.iload_n 1, 1) := by decide +kernel
theorem dX10_isMatch_5 : decode cX10_isMatch 5 = .ok (.iaload, 1) := by decide +kernel
theorem dX10_isMatch_6 : decode cX10_isMatch 6 = .ok (.iload_n 2, 1) := by decide +kernel
theorem dX10_isMatch_7 : decode cX10_isMatch 7 = .ok (.invokestatic 183, 3) := by decide +kernel
theorem dX10_isMatch_10 : decode cX10_isMatch 10 = .ok (.ifCond .eq 20, 3) := by decide +kernel
theorem dX10_isMatch_13 : decode cX10_isMatch 13 = .ok (.aload_n 0, 1) := by decide +kernel
theorem dX10_isMatch_14 : decode cX10_isMatch 14 = .ok (.getfield 22, 3) := by decide +kernel
theorem dX10_isMatch_17 : decode cX10_isMatch 17 = .ok (.iload_n 2, 1) := by decide +kernel
theorem dX10_isMatch_18 : decode cX10_isMatch 18 = .ok (.iaload, 1) := by decide +kernel
theorem dX10_isMatch_19 : decode cX10_isMatch 19 = .ok (.iload_n 1, 1) := by decide +kernel
theorem dX10_isMatch_20 : decode cX10_isMatch 20 = .ok (.invokestatic 183, 3) := by decide +kernel
theorem dX10_isMatch_23 : decode cX10_isMatch 23 = .ok (.ifCond .eq 7, 3) := by decide +kernel
theorem dX10_isMatch_26 : decode cX10_isMatch 26 = .ok (.iconst 1, 1) := by decide +kernel
theorem dX10_isMatch_27 : decode cX10_isMatch 27 = .ok (.goto 4, 3) := by decide +kernel
theorem dX10_isMatch_30 : decode cX10_isMatch 30 = .ok (.iconst 0, 1) := by decide +kernel
theorem dX10_isMatch_31 : decode cX10_isMatch 31 = .ok (.ireturn, 1) := by decide +kernel
theorem dX10_likedBy_0 : decode cX10_likedBy 0 = .ok (.iconst 0, 1) := by decide +kernel
theorem dX10_likedBy_1 : decode cX10_likedBy 1 = .ok (.istore_n 2, 1) := by decide +kernel
theorem dX10_likedBy_2 : decode cX10_likedBy 2 = .ok (.iconst 0, 1) := by decide +kernel
theorem dX10_likedBy_3 : decode cX10_likedBy 3 = .ok (.istore_n 3, 1) := by decide +kernel
theorem dX10_likedBy_4 : decode cX10_likedBy 4 = .ok (.iload_n 3, 1) := by decide +kernel
theorem dX10_likedBy_5 : decode cX10_likedBy 5 = .ok (.aload_n 0, 1) := by decide +kernel
theorem dX10_likedBy_6 : decode cX10_likedBy 6 = .ok (.getfield 140, 3) := by decide +kernel
theorem dX10_likedBy_9 : decode cX10_likedBy 9 = .ok (.if_icmp .ge 28, 3) := by decide +kernel
theorem dX10_likedBy_12 : decode cX10_likedBy 12 = .ok (.iload_n 2, 1) := by decide +kernel
theorem dX10_likedBy_13 : decode cX10_likedBy 13 = .ok (.aload_n 0, 1) := by decide +kernel
theorem dX10_likedBy_14 : decode cX10_likedBy 14 = .ok (.iload_n 1, 1) := by decide +kernel
theorem dX10_likedBy_15 : decode cX10_likedBy 15 = .ok (.iload_n 3, 1) := by decide +kernel
theorem dX10_likedBy_16 : decode cX10_likedBy 16 = .ok (.invokevirtual 180, 3) := by decide +kernel
theorem dX10_likedBy_19 : decode cX10_likedBy 19 = .ok (.ifCond .eq 9, 3) := by decide +kernel
theorem dX10_likedBy_22 : decode cX10_likedBy 22 = .ok (.iconst 1, 1) := by decide +kernel
theorem dX10_likedBy_23 : decode cX10_likedBy 23 = .ok (.iload_n 3, 1) := by decide +kernel
theorem dX10_likedBy_24 : decode cX10_likedBy 24 = .ok (.ishl, 1) := by decide +kernel
theorem dX10_likedBy_25 : decode cX10_likedBy 25 = .ok (.goto 4, 3) := by decide +kernel
theorem dX10_likedBy_28 : decode cX10_likedBy 28 = .ok (.iconst 0, 1) := by decide +kernel
theorem dX10_likedBy_29 : decode cX10_likedBy 29 = .ok (.ior, 1) := by decide +kernel
theorem dX10_likedBy_30 : decode cX10_likedBy 30 = .ok (.istore_n 2, 1) := by decide +kernel
theorem dX10_likedBy_31 : decode cX10_likedBy 31 = .ok (.iinc 3 1, 3) := by decide +kernel
theorem dX10_likedBy_34 : decode cX10_likedBy 34 = .ok (.goto (-30), 3) := by decide +kernel
theorem dX10_likedBy_37 : decode cX10_likedBy 37 = .ok (.iload_n 2, 1) := by decide +kernel
theorem dX10_likedBy_38 : decode cX10_likedBy 38 = .ok (.ireturn, 1) := by decide +kernel
theorem dX10_matchedWith_0 : decode cX10_matchedWith 0 = .ok (.iconst 0, 1) := by decide +kernel
theorem dX10_matchedWith_1 : decode cX10_matchedWith 1 = .ok (.istore_n 2, 1) := by decide +kernel
theorem dX10_matchedWith_2 : decode cX10_matchedWith 2 = .ok (.iconst 0, 1) := by decide +kernel
theorem dX10_matchedWith_3 : decode cX10_matchedWith 3 = .ok (.istore_n 3, 1) := by decide +kernel
theorem dX10_matchedWith_4 : decode cX10_matchedWith 4 = .ok (.iload_n 3, 1) := by decide +kernel
theorem dX10_matchedWith_5 : decode cX10_matchedWith 5 = .ok (.aload_n 0, 1) := by decide +kernel
theorem dX10_matchedWith_6 : decode cX10_matchedWith 6 = .ok (.getfield 140, 3) := by decide +kernel
theorem dX10_matchedWith_9 : decode cX10_matchedWith 9 = .ok (.if_icmp .ge 28, 3) := by decide +kernel
theorem dX10_matchedWith_12 : decode cX10_matchedWith 12 = .ok (.iload_n 2, 1) := by decide +kernel
theorem dX10_matchedWith_13 : decode cX10_matchedWith 13 = .ok (.aload_n 0, 1) := by decide +kernel
theorem dX10_matchedWith_14 : decode cX10_matchedWith 14 = .ok (.iload_n 1, 1) := by decide +kernel
theorem dX10_matchedWith_15 : decode cX10_matchedWith 15 = .ok (.iload_n 3, 1) := by decide +kernel
theorem dX10_matchedWith_16 : decode cX10_matchedWith 16 = .ok (.invokevirtual 186, 3) := by decide +kernel
theorem dX10_matchedWith_19 : decode cX10_matchedWith 19 = .ok (.ifCond .eq 9, 3) := by decide +kernel
theorem dX10_matchedWith_22 : decode cX10_matchedWith 22 = .ok (.iconst 1, 1) := by decide +kernel
theorem dX10_matchedWith_23 : decode cX10_matchedWith 23 = .ok (.iload_n 3, 1) := by decide +kernel
theorem dX10_matchedWith_24 : decode cX10_matchedWith 24 = .ok (.ishl, 1) := by decide +kernel
theorem dX10_matchedWith_25 : decode cX10_matchedWith 25 = .ok (.goto 4, 3) := by decide +kernel
theorem dX10_matchedWith_28 : decode cX10_matchedWith 28 = .ok (.iconst 0, 1) := by decide +kernel
theorem dX10_matchedWith_29 : decode cX10_matchedWith 29 = .ok (.ior, 1) := by decide +kernel
theorem dX10_matchedWith_30 : decode cX10_matchedWith 30 = .ok (.istore_n 2, 1) := by decide +kernel
theorem dX10_matchedWith_31 : decode cX10_matchedWith 31 = .ok (.iinc 3 1, 3) := by decide +kernel
theorem dX10_matchedWith_34 : decode cX10_matchedWith 34 = .ok (.goto (-30), 3) := by decide +kernel
theorem dX10_matchedWith_37 : decode cX10_matchedWith 37 = .ok (.iload_n 2, 1) := by decide +kernel
theorem dX10_matchedWith_38 : decode cX10_matchedWith 38 = .ok (.ireturn, 1) := by decide +kernel
theorem dX10_personNow_0 : decode cX10_personNow 0 = .ok (.iload_n 2, 1) := by decide +kernel
theorem dX10_personNow_1 : decode cX10_personNow 1 = .ok (.tableswitch 188 0 13 #[71, 78, 85, 92, 99, 105, 135, 142, 148, 155, 162, 168, 175, 182], 71) := by decide +kernel
theorem dX10_personNow_72 : decode cX10_personNow 72 = .ok (.aload_n 0, 1) := by decide +kernel
theorem dX10_personNow_73 : decode cX10_personNow 73 = .ok (.getfield 7, 3) := by decide +kernel
theorem dX10_personNow_76 : decode cX10_personNow 76 = .ok (.iload_n 1, 1) := by decide +kernel
theorem dX10_personNow_77 : decode cX10_personNow 77 = .ok (.iaload, 1) := by decide +kernel
theorem dX10_personNow_78 : decode cX10_personNow 78 = .ok (.ireturn, 1) := by decide +kernel
theorem dX10_personNow_79 : decode cX10_personNow 79 = .ok (.aload_n 0, 1) := by decide +kernel
theorem dX10_personNow_80 : decode cX10_personNow 80 = .ok (.getfield 13, 3) := by decide +kernel
theorem dX10_personNow_83 : decode cX10_personNow 83 = .ok (.iload_n 1, 1) := by decide +kernel
theorem dX10_personNow_84 : decode cX10_personNow 84 = .ok (.iaload, 1) := by decide +kernel
theorem dX10_personNow_85 : decode cX10_personNow 85 = .ok (.ireturn, 1) := by decide +kernel
theorem dX10_personNow_86 : decode cX10_personNow 86 = .ok (.aload_n 0, 1) := by decide +kernel
theorem dX10_personNow_87 : decode cX10_personNow 87 = .ok (.getfield 16, 3) := by decide +kernel
theorem dX10_personNow_90 : decode cX10_personNow 90 = .ok (.iload_n 1, 1) := by decide +kernel
theorem dX10_personNow_91 : decode cX10_personNow 91 = .ok (.iaload, 1) := by decide +kernel
theorem dX10_personNow_92 : decode cX10_personNow 92 = .ok (.ireturn, 1) := by decide +kernel
theorem dX10_personNow_93 : decode cX10_personNow 93 = .ok (.aload_n 0, 1) := by decide +kernel
theorem dX10_personNow_94 : decode cX10_personNow 94 = .ok (.getfield 19, 3) := by decide +kernel
theorem dX10_personNow_97 : decode cX10_personNow 97 = .ok (.iload_n 1, 1) := by decide +kernel
theorem dX10_personNow_98 : decode cX10_personNow 98 = .ok (.iaload, 1) := by decide +kernel
theorem dX10_personNow_99 : decode cX10_personNow 99 = .ok (.ireturn, 1) := by decide +kernel
theorem dX10_personNow_100 : decode cX10_personNow 100 = .ok (.aload_n 0, 1) := by decide +kernel
theorem dX10_personNow_101 : decode cX10_personNow 101 = .ok (.iload_n 1, 1) := by decide +kernel
theorem dX10_personNow_102 : decode cX10_personNow 102 = .ok (.invokevirtual 171, 3) := by decide +kernel
theorem dX10_personNow_105 : decode cX10_personNow 105 = .ok (.ireturn, 1) := by decide +kernel
theorem dX10_personNow_106 : decode cX10_personNow 106 = .ok (.aload_n 0, 1) := by decide +kernel
theorem dX10_personNow_107 : decode cX10_personNow 107 = .ok (.getfield 7, 3) := by decide +kernel
theorem dX10_personNow_110 : decode cX10_personNow 110 = .ok (.iload_n 1, 1) := by decide +kernel
theorem dX10_personNow_111 : decode cX10_personNow 111 = .ok (.iaload, 1) := by decide +kernel
theorem dX10_personNow_112 : decode cX10_personNow 112 = .ok (.iconst 4, 1) := by decide +kernel
theorem dX10_personNow_113 : decode cX10_personNow 113 = .ok (.if_icmp .ne 7, 3) := by decide +kernel
theorem dX10_personNow_116 : decode cX10_personNow 116 = .ok (.iconst 2, 1) := by decide +kernel
theorem dX10_personNow_117 : decode cX10_personNow 117 = .ok (.goto 18, 3) := by decide +kernel
theorem dX10_personNow_120 : decode cX10_personNow 120 = .ok (.aload_n 0, 1) := by decide +kernel
theorem dX10_personNow_121 : decode cX10_personNow 121 = .ok (.getfield 34, 3) := by decide +kernel
theorem dX10_personNow_124 : decode cX10_personNow 124 = .ok (.iload_n 1, 1) := by decide +kernel
theorem dX10_personNow_125 : decode cX10_personNow 125 = .ok (.iaload, 1) := by decide +kernel
theorem dX10_personNow_126 : decode cX10_personNow 126 = .ok (.iconst (-1), 1) := by decide +kernel
theorem dX10_personNow_127 : decode cX10_personNow 127 = .ok (.if_icmp .ne 7, 3) := by decide +kernel
theorem dX10_personNow_130 : decode cX10_personNow 130 = .ok (.iconst 0, 1) := by decide +kernel
theorem dX10_personNow_131 : decode cX10_personNow 131 = .ok (.goto 4, 3) := by decide +kernel
theorem dX10_personNow_134 : decode cX10_personNow 134 = .ok (.iconst 1, 1) := by decide +kernel
theorem dX10_personNow_135 : decode cX10_personNow 135 = .ok (.ireturn, 1) := by decide +kernel
theorem dX10_personNow_136 : decode cX10_personNow 136 = .ok (.aload_n 0, 1) := by decide +kernel
theorem dX10_personNow_137 : decode cX10_personNow 137 = .ok (.getfield 34, 3) := by decide +kernel
theorem dX10_personNow_140 : decode cX10_personNow 140 = .ok (.iload_n 1, 1) := by decide +kernel
theorem dX10_personNow_141 : decode cX10_personNow 141 = .ok (.iaload, 1) := by decide +kernel
theorem dX10_personNow_142 : decode cX10_personNow 142 = .ok (.ireturn, 1) := by decide +kernel
theorem dX10_personNow_143 : decode cX10_personNow 143 = .ok (.aload_n 0, 1) := by decide +kernel
theorem dX10_personNow_144 : decode cX10_personNow 144 = .ok (.iload_n 1, 1) := by decide +kernel
theorem dX10_personNow_145 : decode cX10_personNow 145 = .ok (.invokevirtual 189, 3) := by decide +kernel
theorem dX10_personNow_148 : decode cX10_personNow 148 = .ok (.ireturn, 1) := by decide +kernel
theorem dX10_personNow_149 : decode cX10_personNow 149 = .ok (.aload_n 0, 1) := by decide +kernel
theorem dX10_personNow_150 : decode cX10_personNow 150 = .ok (.getfield 22, 3) := by decide +kernel
theorem dX10_personNow_153 : decode cX10_personNow 153 = .ok (.iload_n 1, 1) := by decide +kernel
theorem dX10_personNow_154 : decode cX10_personNow 154 = .ok (.iaload, 1) := by decide +kernel
theorem dX10_personNow_155 : decode cX10_personNow 155 = .ok (.ireturn, 1) := by decide +kernel
theorem dX10_personNow_156 : decode cX10_personNow 156 = .ok (.aload_n 0, 1) := by decide +kernel
theorem dX10_personNow_157 : decode cX10_personNow 157 = .ok (.getfield 25, 3) := by decide +kernel
theorem dX10_personNow_160 : decode cX10_personNow 160 = .ok (.iload_n 1, 1) := by decide +kernel
theorem dX10_personNow_161 : decode cX10_personNow 161 = .ok (.iaload, 1) := by decide +kernel
theorem dX10_personNow_162 : decode cX10_personNow 162 = .ok (.ireturn, 1) := by decide +kernel
theorem dX10_personNow_163 : decode cX10_personNow 163 = .ok (.aload_n 0, 1) := by decide +kernel
theorem dX10_personNow_164 : decode cX10_personNow 164 = .ok (.iload_n 1, 1) := by decide +kernel
theorem dX10_personNow_165 : decode cX10_personNow 165 = .ok (.invokevirtual 192, 3) := by decide +kernel
theorem dX10_personNow_168 : decode cX10_personNow 168 = .ok (.ireturn, 1) := by decide +kernel
theorem dX10_personNow_169 : decode cX10_personNow 169 = .ok (.aload_n 0, 1) := by decide +kernel
theorem dX10_personNow_170 : decode cX10_personNow 170 = .ok (.getfield 28, 3) := by decide +kernel
theorem dX10_personNow_173 : decode cX10_personNow 173 = .ok (.iload_n 1, 1) := by decide +kernel
theorem dX10_personNow_174 : decode cX10_personNow 174 = .ok (.iaload, 1) := by decide +kernel
theorem dX10_personNow_175 : decode cX10_personNow 175 = .ok (.ireturn, 1) := by decide +kernel
theorem dX10_personNow_176 : decode cX10_personNow 176 = .ok (.aload_n 0, 1) := by decide +kernel
theorem dX10_personNow_177 : decode cX10_personNow 177 = .ok (.getfield 31, 3) := by decide +kernel
theorem dX10_personNow_180 : decode cX10_personNow 180 = .ok (.iload_n 1, 1) := by decide +kernel
theorem dX10_personNow_181 : decode cX10_personNow 181 = .ok (.iaload, 1) := by decide +kernel
theorem dX10_personNow_182 : decode cX10_personNow 182 = .ok (.ireturn, 1) := by decide +kernel
theorem dX10_personNow_183 : decode cX10_personNow 183 = .ok (.aload_n 0, 1) := by decide +kernel
theorem dX10_personNow_184 : decode cX10_personNow 184 = .ok (.iload_n 1, 1) := by decide +kernel
theorem dX10_personNow_185 : decode cX10_personNow 185 = .ok (.invokevirtual 195, 3) := by decide +kernel
theorem dX10_personNow_188 : decode cX10_personNow 188 = .ok (.ireturn, 1) := by decide +kernel
theorem dX10_personNow_189 : decode cX10_personNow 189 = .ok (.aload_n 0, 1) := by decide +kernel
theorem dX10_personNow_190 : decode cX10_personNow 190 = .ok (.iload_n 1, 1) := by decide +kernel
theorem dX10_personNow_191 : decode cX10_personNow 191 = .ok (.invokevirtual 198, 3) := by decide +kernel
theorem dX10_personNow_194 : decode cX10_personNow 194 = .ok (.ireturn, 1) := by decide +kernel
theorem dX10_person_0 : decode cX10_person 0 = .ok (.aload_n 0, 1) := by decide +kernel
theorem dX10_person_1 : decode cX10_person 1 = .ok (.iload_n 1, 1) := by decide +kernel
theorem dX10_person_2 : decode cX10_person 2 = .ok (.invokevirtual 167, 3) := by decide +kernel
theorem dX10_person_5 : decode cX10_person 5 = .ok (.ifCond .ne 8, 3) := by decide +kernel
theorem dX10_person_8 : decode cX10_person 8 = .ok (.bipush (-101), 2) := by decide +kernel
theorem dX10_person_10 : decode cX10_person 10 = .ok (.goto 24, 3) := by decide +kernel
theorem dX10_person_13 : decode cX10_person 13 = .ok (.iload_n 2, 1) := by decide +kernel
theorem dX10_person_14 : decode cX10_person 14 = .ok (.iconst 0, 1) := by decide +kernel
theorem dX10_person_15 : decode cX10_person 15 = .ok (.bipush 14, 2) := by decide +kernel
theorem dX10_person_17 : decode cX10_person 17 = .ok (.invokestatic 98, 3) := by decide +kernel
theorem dX10_person_20 : decode cX10_person 20 = .ok (.ifCond .eq 12, 3) := by decide +kernel
theorem dX10_person_23 : decode cX10_person 23 = .ok (.aload_n 0, 1) := by decide +kernel
theorem dX10_person_24 : decode cX10_person 24 = .ok (.iload_n 1, 1) := by decide +kernel
theorem dX10_person_25 : decode cX10_person 25 = .ok (.iload_n 2, 1) := by decide +kernel
theorem dX10_person_26 : decode cX10_person 26 = .ok (.invokevirtual 201, 3) := by decide +kernel
theorem dX10_person_29 : decode cX10_person 29 = .ok (.goto 5, 3) := by decide +kernel
theorem dX10_person_32 : decode cX10_person 32 = .ok (.bipush (-102), 2) := by decide +kernel
theorem dX10_person_34 : decode cX10_person 34 = .ok (.ireturn, 1) := by decide +kernel
theorem dX10_as_0 : decode cX10_as 0 = .ok (.aload_n 0, 1) := by decide +kernel
theorem dX10_as_1 : decode cX10_as 1 = .ok (.iload_n 1, 1) := by decide +kernel
theorem dX10_as_2 : decode cX10_as 2 = .ok (.invokevirtual 167, 3) := by decide +kernel
theorem dX10_as_5 : decode cX10_as 5 = .ok (.ifCond .ne 6, 3) := by decide +kernel
theorem dX10_as_8 : decode cX10_as 8 = .ok (.bipush (-101), 2) := by decide +kernel
theorem dX10_as_10 : decode cX10_as 10 = .ok (.ireturn, 1) := by decide +kernel
theorem dX10_as_11 : decode cX10_as 11 = .ok (.iload_n 2, 1) := by decide +kernel
theorem dX10_as_12 : decode cX10_as 12 = .ok (.iconst 0, 1) := by decide +kernel
theorem dX10_as_13 : decode cX10_as 13 = .ok (.iconst 4, 1) := by decide +kernel
theorem dX10_as_14 : decode cX10_as 14 = .ok (.invokestatic 98, 3) := by decide +kernel
theorem dX10_as_17 : decode cX10_as 17 = .ok (.ifCond .ne 6, 3) := by decide +kernel
theorem dX10_as_20 : decode cX10_as 20 = .ok (.bipush (-102), 2) := by decide +kernel
theorem dX10_as_22 : decode cX10_as 22 = .ok (.ireturn, 1) := by decide +kernel
theorem dX10_as_23 : decode cX10_as 23 = .ok (.aload_n 0, 1) := by decide +kernel
theorem dX10_as_24 : decode cX10_as 24 = .ok (.getfield 7, 3) := by decide +kernel
theorem dX10_as_27 : decode cX10_as 27 = .ok (.iload_n 1, 1) := by decide +kernel
theorem dX10_as_28 : decode cX10_as 28 = .ok (.iaload, 1) := by decide +kernel
theorem dX10_as_29 : decode cX10_as 29 = .ok (.istore_n 3, 1) := by decide +kernel
theorem dX10_as_30 : decode cX10_as 30 = .ok (.iload_n 2, 1) := by decide +kernel
theorem dX10_as_31 : decode cX10_as 31 = .ok (.ifCond .eq 18, 3) := by decide +kernel
theorem dX10_as_34 : decode cX10_as 34 = .ok (.iload_n 3, 1) := by decide +kernel
theorem dX10_as_35 : decode cX10_as 35 = .ok (.iload_n 2, 1) := by decide +kernel
theorem dX10_as_36 : decode cX10_as 36 = .ok (.if_icmp .eq 13, 3) := by decide +kernel
theorem dX10_as_39 : decode cX10_as 39 = .ok (.iload_n 2, 1) := by decide +kernel
theorem dX10_as_40 : decode cX10_as 40 = .ok (.iconst 3, 1) := by decide +kernel
theorem dX10_as_41 : decode cX10_as 41 = .ok (.if_icmp .ne 12, 3) := by decide +kernel
theorem dX10_as_44 : decode cX10_as 44 = .ok (.iload_n 3, 1) := by decide +kernel
theorem dX10_as_45 : decode cX10_as 45 = .ok (.iconst 4, 1) := by decide +kernel
theorem dX10_as_46 : decode cX10_as 46 = .ok (.if_icmp .ne 7, 3) := by decide +kernel
theorem dX10_as_49 : decode cX10_as 49 = .ok (.iload_n 1, 1) := by decide +kernel
theorem dX10_as_50 : decode cX10_as 50 = .ok (.goto 4, 3) := by decide +kernel
theorem dX10_as_53 : decode cX10_as 53 = .ok (.iconst (-1), 1) := by decide +kernel
theorem dX10_as_54 : decode cX10_as 54 = .ok (.ireturn, 1) := by decide +kernel
theorem dX10_choose_0 : decode cX10_choose 0 = .ok (.aload_n 0, 1) := by decide +kernel
theorem dX10_choose_1 : decode cX10_choose 1 = .ok (.iload_n 1, 1) := by decide +kernel
theorem dX10_choose_2 : decode cX10_choose 2 = .ok (.invokevirtual 167, 3) := by decide +kernel
theorem dX10_choose_5 : decode cX10_choose 5 = .ok (.ifCond .ne 6, 3) := by decide +kernel
theorem dX10_choose_8 : decode cX10_choose 8 = .ok (.bipush (-101), 2) := by decide +kernel
theorem dX10_choose_10 : decode cX10_choose 10 = .ok (.ireturn, 1) := by decide +kernel
theorem dX10_choose_11 : decode cX10_choose 11 = .ok (.iload_n 2, 1) := by decide +kernel
theorem dX10_choose_12 : decode cX10_choose 12 = .ok (.iconst 0, 1) := by decide +kernel
theorem dX10_choose_13 : decode cX10_choose 13 = .ok (.bipush 9, 2) := by decide +kernel
theorem dX10_choose_15 : decode cX10_choose 15 = .ok (.invokestatic 98, 3) := by decide +kernel
theorem dX10_choose_18 : decode cX10_choose 18 = .ok (.ifCond .ne 6, 3) := by decide +kernel
theorem dX10_choose_21 : decode cX10_choose 21 = .ok (.bipush (-102), 2) := by decide +kernel
theorem dX10_choose_23 : decode cX10_choose 23 = .ok (.ireturn, 1) := by decide +kernel
theorem dX10_choose_24 : decode cX10_choose 24 = .ok (.aload_n 0, 1) := by decide +kernel
theorem dX10_choose_25 : decode cX10_choose 25 = .ok (.getfield 19, 3) := by decide +kernel
theorem dX10_choose_28 : decode cX10_choose 28 = .ok (.iload_n 1, 1) := by decide +kernel
theorem dX10_choose_29 : decode cX10_choose 29 = .ok (.iaload, 1) := by decide +kernel
theorem dX10_choose_30 : decode cX10_choose 30 = .ok (.istore_n 3, 1) := by decide +kernel
theorem dX10_choose_31 : decode cX10_choose 31 = .ok (.aload_n 0, 1) := by decide +kernel
theorem dX10_choose_32 : decode cX10_choose 32 = .ok (.getfield 19, 3) := by decide +kernel
theorem dX10_choose_35 : decode cX10_choose 35 = .ok (.iload_n 1, 1) := by decide +kernel
theorem dX10_choose_36 : decode cX10_choose 36 = .ok (.iload_n 2, 1) := by decide +kernel
theorem dX10_choose_37 : decode cX10_choose 37 = .ok (.iastore, 1) := by decide +kernel
theorem dX10_choose_38 : decode cX10_choose 38 = .ok (.iload_n 3, 1) := by decide +kernel
theorem dX10_choose_39 : decode cX10_choose 39 = .ok (.ireturn, 1) := by decide +kernel
theorem dX10_paint_0 : decode cX10_paint 0 = .ok (.aload_n 0, 1) := by decide +kernel
theorem dX10_paint_1 : decode cX10_paint 1 = .ok (.iload_n 1, 1) := by decide +kernel
theorem dX10_paint_2 : decode cX10_paint 2 = .ok (.invokevirtual 167, 3) := by decide +kernel
theorem dX10_paint_5 : decode cX10_paint 5 = .ok (.ifCond .ne 6, 3) := by decide +kernel
theorem dX10_paint_8 : decode cX10_paint 8 = .ok (.bipush (-101), 2) := by decide +kernel
theorem dX10_paint_10 : decode cX10_paint 10 = .ok (.ireturn, 1) := by decide +kernel
theorem dX10_paint_11 : decode cX10_paint 11 = .ok (.iload_n 2, 1) := by decide +kernel
theorem dX10_paint_12 : decode cX10_paint 12 = .ok (.iconst 0, 1) := by decide +kernel
theorem dX10_paint_13 : decode cX10_paint 13 = .ok (.iconst 3, 1) := by decide +kernel
theorem dX10_paint_14 : decode cX10_paint 14 = .ok (.invokestatic 98, 3) := by decide +kernel
theorem dX10_paint_17 : decode cX10_paint 17 = .ok (.ifCond .ne 6, 3) := by decide +kernel
theorem dX10_paint_20 : decode cX10_paint 20 = .ok (.bipush (-102), 2) := by decide +kernel
theorem dX10_paint_22 : decode cX10_paint 22 = .ok (.ireturn, 1) := by decide +kernel
theorem dX10_paint_23 : decode cX10_paint 23 = .ok (.aload_n 0, 1) := by decide +kernel
theorem dX10_paint_24 : decode cX10_paint 24 = .ok (.getfield 16, 3) := by decide +kernel
theorem dX10_paint_27 : decode cX10_paint 27 = .ok (.iload_n 1, 1) := by decide +kernel
theorem dX10_paint_28 : decode cX10_paint 28 = .ok (.iaload, 1) := by decide +kernel
theorem dX10_paint_29 : decode cX10_paint 29 = .ok (.istore_n 3, 1) := by decide +kernel
theorem dX10_paint_30 : decode cX10_paint 30 = .ok (.aload_n 0, 1) := by decide +kernel
theorem dX10_paint_31 : decode cX10_paint 31 = .ok (.getfield 16, 3) := by decide +kernel
theorem dX10_paint_34 : decode cX10_paint 34 = .ok (.iload_n 1, 1) := by decide +kernel
theorem dX10_paint_35 : decode cX10_paint 35 = .ok (.iload_n 2, 1) := by decide +kernel
theorem dX10_paint_36 : decode cX10_paint 36 = .ok (.iastore, 1) := by decide +kernel
theorem dX10_paint_37 : decode cX10_paint 37 = .ok (.iload_n 3, 1) := by decide +kernel
theorem dX10_paint_38 : decode cX10_paint 38 = .ok (.ireturn, 1) := by decide +kernel
theorem dX10_limit_0 : decode cX10_limit 0 = .ok (.iload_n 1, 1) := by decide +kernel
theorem dX10_limit_1 : decode cX10_limit 1 = .ok (.iconst 1, 1) := by decide +kernel
theorem dX10_limit_2 : decode cX10_limit 2 = .ok (.bipush 9, 2) := by decide +kernel
theorem dX10_limit_4 : decode cX10_limit 4 = .ok (.invokestatic 98, 3) := by decide +kernel
theorem dX10_limit_7 : decode cX10_limit 7 = .ok (.ifCond .ne 6, 3) := by decide +kernel
theorem dX10_limit_10 : decode cX10_limit 10 = .ok (.bipush (-102), 2) := by decide +kernel
theorem dX10_limit_12 : decode cX10_limit 12 = .ok (.ireturn, 1) := by decide +kernel
theorem dX10_limit_13 : decode cX10_limit 13 = .ok (.aload_n 0, 1) := by decide +kernel
theorem dX10_limit_14 : decode cX10_limit 14 = .ok (.getfield 140, 3) := by decide +kernel
theorem dX10_limit_17 : decode cX10_limit 17 = .ok (.ifCond .ne 6, 3) := by decide +kernel
theorem dX10_limit_20 : decode cX10_limit 20 = .ok (.bipush (-103), 2) := by decide +kernel
theorem dX10_limit_22 : decode cX10_limit 22 = .ok (.ireturn, 1) := by decide +kernel
theorem dX10_limit_23 : decode cX10_limit 23 = .ok (.aload_n 0, 1) := by decide +kernel
theorem dX10_limit_24 : decode cX10_limit 24 = .ok (.getfield 143, 3) := by decide +kernel
theorem dX10_limit_27 : decode cX10_limit 27 = .ok (.istore_n 2, 1) := by decide +kernel
theorem dX10_limit_28 : decode cX10_limit 28 = .ok (.aload_n 0, 1) := by decide +kernel
theorem dX10_limit_29 : decode cX10_limit 29 = .ok (.iload_n 1, 1) := by decide +kernel
theorem dX10_limit_30 : decode cX10_limit 30 = .ok (.putfield 143, 3) := by decide +kernel
theorem dX10_limit_33 : decode cX10_limit 33 = .ok (.iload_n 2, 1) := by decide +kernel
theorem dX10_limit_34 : decode cX10_limit 34 = .ok (.ireturn, 1) := by decide +kernel
theorem dX10_goesRight_0 : decode cX10_goesRight 0 = .ok (.aload_n 0, 1) := by decide +kernel
theorem dX10_goesRight_1 : decode cX10_goesRight 1 = .ok (.iload_n 1, 1) := by decide +kernel
theorem dX10_goesRight_2 : decode cX10_goesRight 2 = .ok (.iload_n 2, 1) := by decide +kernel
theorem dX10_goesRight_3 : decode cX10_goesRight 3 = .ok (.invokevirtual 180, 3) := by decide +kernel
theorem dX10_goesRight_6 : decode cX10_goesRight 6 = .ok (.ifCond .eq 20, 3) := by decide +kernel
theorem dX10_goesRight_9 : decode cX10_goesRight 9 = .ok (.aload_n 0, 1) := by decide +kernel
theorem dX10_goesRight_10 : decode cX10_goesRight 10 = .ok (.getfield 31, 3) := by decide +kernel
theorem dX10_goesRight_13 : decode cX10_goesRight 13 = .ok (.iload_n 1, 1) := by decide +kernel
theorem dX10_goesRight_14 : decode cX10_goesRight 14 = .ok (.iaload, 1) := by decide +kernel
theorem dX10_goesRight_15 : decode cX10_goesRight 15 = .ok (.aload_n 0, 1) := by decide +kernel
theorem dX10_goesRight_16 : decode cX10_goesRight 16 = .ok (.getfield 143, 3) := by decide +kernel
theorem dX10_goesRight_19 : decode cX10_goesRight 19 = .ok (.if_icmp .ge 7, 3) := by decide +kernel
theorem dX10_goesRight_22 : decode cX10_goesRight 22 = .ok (.iconst 1, 1) := by decide +kernel
theorem dX10_goesRight_23 : decode cX10_goesRight 23 = .ok (.goto 4, 3) := by decide +kernel
theorem dX10_goesRight_26 : decode cX10_goesRight 26 = .ok (.iconst 0, 1) := by decide +kernel
theorem dX10_goesRight_27 : decode cX10_goesRight 27 = .ok (.istore_n 3, 1) := by decide +kernel
theorem dX10_goesRight_28 : decode cX10_goesRight 28 = .ok (.iload_n 3, 1) := by decide +kernel
theorem dX10_goesRight_29 : decode cX10_goesRight 29 = .ok (.ifCond .eq 29, 3) := by decide +kernel
theorem dX10_goesRight_32 : decode cX10_goesRight 32 = .ok (.aload_n 0, 1) := by decide +kernel
theorem dX10_goesRight_33 : decode cX10_goesRight 33 = .ok (.getfield 7, 3) := by decide +kernel
theorem dX10_goesRight_36 : decode cX10_goesRight 36 = .ok (.iload_n 1, 1) := by decide +kernel
theorem dX10_goesRight_37 : decode cX10_goesRight 37 = .ok (.iaload, 1) := by decide +kernel
theorem dX10_goesRight_38 : decode cX10_goesRight 38 = .ok (.iconst 2, 1) := by decide +kernel
theorem dX10_goesRight_39 : decode cX10_goesRight 39 = .ok (.if_icmp .ne 15, 3) := by decide +kernel
theorem dX10_goesRight_42 : decode cX10_goesRight 42 = .ok (.aload_n 0, 1) := by decide +kernel
theorem dX10_goesRight_43 : decode cX10_goesRight 43 = .ok (.getfield 28, 3) := by decide +kernel
theorem dX10_goesRight_46 : decode cX10_goesRight 46 = .ok (.iload_n 1, 1) := by decide +kernel
theorem dX10_goesRight_47 : decode cX10_goesRight 47 = .ok (.iaload, 1) := by decide +kernel
theorem dX10_goesRight_48 : decode cX10_goesRight 48 = .ok (.iconst 3, 1) := by decide +kernel
theorem dX10_goesRight_49 : decode cX10_goesRight 49 = .ok (.irem, 1) := by decide +kernel
theorem dX10_goesRight_50 : decode cX10_goesRight 50 = .ok (.iconst 2, 1) := by decide +kernel
theorem dX10_goesRight_51 : decode cX10_goesRight 51 = .ok (.if_icmp .eq 7, 3) := by decide +kernel
theorem dX10_goesRight_54 : decode cX10_goesRight 54 = .ok (.iconst 1, 1) := by decide +kernel
theorem dX10_goesRight_55 : decode cX10_goesRight 55 = .ok (.goto 4, 3) := by decide +kernel
theorem dX10_goesRight_58 : decode cX10_goesRight 58 = .ok (.iconst 0, 1) := by decide +kernel
theorem dX10_goesRight_59 : decode cX10_goesRight 59 = .ok (.istore_n 3, 1) := by decide +kernel
theorem dX10_goesRight_60 : decode cX10_goesRight 60 = .ok (.iload_n 3, 1) := by decide +kernel
theorem dX10_goesRight_61 : decode cX10_goesRight 61 = .ok (.ifCond .eq 40, 3) := by decide +kernel
theorem dX10_goesRight_64 : decode cX10_goesRight 64 = .ok (.aload_n 0, 1) := by decide +kernel
theorem dX10_goesRight_65 : decode cX10_goesRight 65 = .ok (.getfield 7, 3) := by decide +kernel
theorem dX10_goesRight_68 : decode cX10_goesRight 68 = .ok (.iload_n 1, 1) := by decide +kernel
theorem dX10_goesRight_69 : decode cX10_goesRight 69 = .ok (.iaload, 1) := by decide +kernel
theorem dX10_goesRight_70 : decode cX10_goesRight 70 = .ok (.iconst 3, 1) := by decide +kernel
theorem dX10_goesRight_71 : decode cX10_goesRight 71 = .ok (.if_icmp .eq 13, 3) := by decide +kernel
theorem dX10_goesRight_74 : decode cX10_goesRight 74 = .ok (.aload_n 0, 1) := by decide +kernel
theorem dX10_goesRight_75 : decode cX10_goesRight 75 = .ok (.getfield 7, 3) := by decide +kernel
theorem dX10_goesRight_78 : decode cX10_goesRight 78 = .ok (.iload_n 1, 1) := by decide +kernel
theorem dX10_goesRight_79 : decode cX10_goesRight 79 = .ok (.iaload, 1) := by decide +kernel
theorem dX10_goesRight_80 : decode cX10_goesRight 80 = .ok (.iconst 4, 1) := by decide +kernel
theorem dX10_goesRight_81 : decode cX10_goesRight 81 = .ok (.if_icmp .ne 16, 3) := by decide +kernel
theorem dX10_goesRight_84 : decode cX10_goesRight 84 = .ok (.aload_n 0, 1) := by decide +kernel
theorem dX10_goesRight_85 : decode cX10_goesRight 85 = .ok (.getfield 22, 3) := by decide +kernel
theorem dX10_goesRight_88 : decode cX10_goesRight 88 = .ok (.iload_n 2, 1) := by decide +kernel
theorem dX10_goesRight_89 : decode cX10_goesRight 89 = .ok (.iaload, 1) := by decide +kernel
theorem dX10_goesRight_90 : decode cX10_goesRight 90 = .ok (.iload_n 1, 1) := by decide +kernel
theorem dX10_goesRight_91 : decode cX10_goesRight 91 = .ok (.invokestatic 183, 3) := by decide +kernel
theorem dX10_goesRight_94 : decode cX10_goesRight 94 = .ok (.ifCond .eq 7, 3) := by decide +kernel
theorem dX10_goesRight_97 : decode cX10_goesRight 97 = .ok (.iconst 1, 1) := by decide +kernel
theorem dX10_goesRight_98 : decode cX10_goesRight 98 = .ok (.goto 4, 3) := by decide +kernel
theorem dX10_goesRight_101 : decode cX10_goesRight 101 = .ok (.iconst 0, 1) := by decide +kernel
theorem dX10_goesRight_102 : decode cX10_goesRight 102 = .ok (.ireturn, 1) := by decide +kernel
theorem dX10_shown_0 : decode cX10_shown 0 = .ok (.aload_n 0, 1) := by decide +kernel
theorem dX10_shown_1 : decode cX10_shown 1 = .ok (.iload_n 1, 1) := by decide +kernel
theorem dX10_shown_2 : decode cX10_shown 2 = .ok (.iload_n 2, 1) := by decide +kernel
theorem dX10_shown_3 : decode cX10_shown 3 = .ok (.invokevirtual 205, 3) := by decide +kernel
theorem dX10_shown_6 : decode cX10_shown 6 = .ok (.ifCond .eq 44, 3) := by decide +kernel
theorem dX10_shown_9 : decode cX10_shown 9 = .ok (.aload_n 0, 1) := by decide +kernel
theorem dX10_shown_10 : decode cX10_shown 10 = .ok (.getfield 22, 3) := by decide +kernel
theorem dX10_shown_13 : decode cX10_shown 13 = .ok (.iload_n 1, 1) := by decide +kernel
theorem dX10_shown_14 : decode cX10_shown 14 = .ok (.dup2, 1) := by decide +kernel
theorem dX10_shown_15 : decode cX10_shown 15 = .ok (.iaload, 1) := by decide +kernel
theorem dX10_shown_16 : decode cX10_shown 16 = .ok (.iconst 1, 1) := by decide +kernel
theorem dX10_shown_17 : decode cX10_shown 17 = .ok (.iload_n 2, 1) := by decide +kernel
theorem dX10_shown_18 : decode cX10_shown 18 = .ok (.ishl, 1) := by decide +kernel
theorem dX10_shown_19 : decode cX10_shown 19 = .ok (.ior, 1) := by decide +kernel
theorem dX10_shown_20 : decode cX10_shown 20 = .ok (.iastore, 1) := by decide +kernel
theorem dX10_shown_21 : decode cX10_shown 21 = .ok (.aload_n 0, 1) := by decide +kernel
theorem dX10_shown_22 : decode cX10_shown 22 = .ok (.getfield 28, 3) := by decide +kernel
theorem dX10_shown_25 : decode cX10_shown 25 = .ok (.iload_n 1, 1) := by decide +kernel
theorem dX10_shown_26 : decode cX10_shown 26 = .ok (.iconst 0, 1) := by decide +kernel
theorem dX10_shown_27 : decode cX10_shown 27 = .ok (.iastore, 1) := by decide +kernel
theorem dX10_shown_28 : decode cX10_shown 28 = .ok (.aload_n 0, 1) := by decide +kernel
theorem dX10_shown_29 : decode cX10_shown 29 = .ok (.getfield 31, 3) := by decide +kernel
theorem dX10_shown_32 : decode cX10_shown 32 = .ok (.iload_n 1, 1) := by decide +kernel
theorem dX10_shown_33 : decode cX10_shown 33 = .ok (.dup2, 1) := by decide +kernel
theorem dX10_shown_34 : decode cX10_shown 34 = .ok (.iaload, 1) := by decide +kernel
theorem dX10_shown_35 : decode cX10_shown 35 = .ok (.iconst 1, 1) := by decide +kernel
theorem dX10_shown_36 : decode cX10_shown 36 = .ok (.iadd, 1) := by decide +kernel
theorem dX10_shown_37 : decode cX10_shown 37 = .ok (.iastore, 1) := by decide +kernel
theorem dX10_shown_38 : decode cX10_shown 38 = .ok (.aload_n 0, 1) := by decide +kernel
theorem dX10_shown_39 : decode cX10_shown 39 = .ok (.dup, 1) := by decide +kernel
theorem dX10_shown_40 : decode cX10_shown 40 = .ok (.getfield 149, 3) := by decide +kernel
theorem dX10_shown_43 : decode cX10_shown 43 = .ok (.iconst 1, 1) := by decide +kernel
theorem dX10_shown_44 : decode cX10_shown 44 = .ok (.iadd, 1) := by decide +kernel
theorem dX10_shown_45 : decode cX10_shown 45 = .ok (.putfield 149, 3) := by decide +kernel
theorem dX10_shown_48 : decode cX10_shown 48 = .ok (.iconst 1, 1) := by decide +kernel
theorem dX10_shown_49 : decode cX10_shown 49 = .ok (.ireturn, 1) := by decide +kernel
theorem dX10_shown_50 : decode cX10_shown 50 = .ok (.aload_n 0, 1) := by decide +kernel
theorem dX10_shown_51 : decode cX10_shown 51 = .ok (.getfield 25, 3) := by decide +kernel
theorem dX10_shown_54 : decode cX10_shown 54 = .ok (.iload_n 1, 1) := by decide +kernel
theorem dX10_shown_55 : decode cX10_shown 55 = .ok (.dup2, 1) := by decide +kernel
theorem dX10_shown_56 : decode cX10_shown 56 = .ok (.iaload, 1) := by decide +kernel
theorem dX10_shown_57 : decode cX10_shown 57 = .ok (.iconst 1, 1) := by decide +kernel
theorem dX10_shown_58 : decode cX10_shown 58 = .ok (.iload_n 2, 1) := by decide +kernel
theorem dX10_shown_59 : decode cX10_shown 59 = .ok (.ishl, 1) := by decide +kernel
theorem dX10_shown_60 : decode cX10_shown 60 = .ok (.ior, 1) := by decide +kernel
theorem dX10_shown_61 : decode cX10_shown 61 = .ok (.iastore, 1) := by decide +kernel
theorem dX10_shown_62 : decode cX10_shown 62 = .ok (.aload_n 0, 1) := by decide +kernel
theorem dX10_shown_63 : decode cX10_shown 63 = .ok (.getfield 28, 3) := by decide +kernel
theorem dX10_shown_66 : decode cX10_shown 66 = .ok (.iload_n 1, 1) := by decide +kernel
theorem dX10_shown_67 : decode cX10_shown 67 = .ok (.dup2, 1) := by decide +kernel
theorem dX10_shown_68 : decode cX10_shown 68 = .ok (.iaload, 1) := by decide +kernel
theorem dX10_shown_69 : decode cX10_shown 69 = .ok (.iconst 1, 1) := by decide +kernel
theorem dX10_shown_70 : decode cX10_shown 70 = .ok (.iadd, 1) := by decide +kernel
theorem dX10_shown_71 : decode cX10_shown 71 = .ok (.iastore, 1) := by decide +kernel
theorem dX10_shown_72 : decode cX10_shown 72 = .ok (.aload_n 0, 1) := by decide +kernel
theorem dX10_shown_73 : decode cX10_shown 73 = .ok (.dup, 1) := by decide +kernel
theorem dX10_shown_74 : decode cX10_shown 74 = .ok (.getfield 152, 3) := by decide +kernel
theorem dX10_shown_77 : decode cX10_shown 77 = .ok (.iconst 1, 1) := by decide +kernel
theorem dX10_shown_78 : decode cX10_shown 78 = .ok (.iadd, 1) := by decide +kernel
theorem dX10_shown_79 : decode cX10_shown 79 = .ok (.putfield 152, 3) := by decide +kernel
theorem dX10_shown_82 : decode cX10_shown 82 = .ok (.iconst 0, 1) := by decide +kernel
theorem dX10_shown_83 : decode cX10_shown 83 = .ok (.ireturn, 1) := by decide +kernel
theorem dX10_wasShown_0 : decode cX10_wasShown 0 = .ok (.aload_n 0, 1) := by decide +kernel
theorem dX10_wasShown_1 : decode cX10_wasShown 1 = .ok (.getfield 22, 3) := by decide +kernel
theorem dX10_wasShown_4 : decode cX10_wasShown 4 = .ok (.iload_n 1, 1) := by decide +kernel
theorem dX10_wasShown_5 : decode cX10_wasShown 5 = .ok (.iaload, 1) := by decide +kernel
theorem dX10_wasShown_6 : decode cX10_wasShown 6 = .ok (.aload_n 0, 1) := by decide +kernel
theorem dX10_wasShown_7 : decode cX10_wasShown 7 = .ok (.getfield 25, 3) := by decide +kernel
theorem dX10_wasShown_10 : decode cX10_wasShown 10 = .ok (.iload_n 1, 1) := by decide +kernel
theorem dX10_wasShown_11 : decode cX10_wasShown 11 = .ok (.iaload, 1) := by decide +kernel
theorem dX10_wasShown_12 : decode cX10_wasShown 12 = .ok (.ior, 1) := by decide +kernel
theorem dX10_wasShown_13 : decode cX10_wasShown 13 = .ok (.iload_n 2, 1) := by decide +kernel
theorem dX10_wasShown_14 : decode cX10_wasShown 14 = .ok (.invokestatic 183, 3) := by decide +kernel
theorem dX10_wasShown_17 : decode cX10_wasShown 17 = .ok (.ireturn, 1) := by decide +kernel
theorem dX10_show_0 : decode cX10_show 0 = .ok (.aload_n 0, 1) := by decide +kernel
theorem dX10_show_1 : decode cX10_show 1 = .ok (.iload_n 1, 1) := by decide +kernel
theorem dX10_show_2 : decode cX10_show 2 = .ok (.iload_n 2, 1) := by decide +kernel
theorem dX10_show_3 : decode cX10_show 3 = .ok (.invokevirtual 208, 3) := by decide +kernel
theorem dX10_show_6 : decode cX10_show 6 = .ok (.ifCond .ne 6, 3) := by decide +kernel
theorem dX10_show_9 : decode cX10_show 9 = .ok (.bipush (-101), 2) := by decide +kernel
theorem dX10_show_11 : decode cX10_show 11 = .ok (.ireturn, 1) := by decide +kernel
theorem dX10_show_12 : decode cX10_show 12 = .ok (.aload_n 0, 1) := by decide +kernel
theorem dX10_show_13 : decode cX10_show 13 = .ok (.iload_n 1, 1) := by decide +kernel
theorem dX10_show_14 : decode cX10_show 14 = .ok (.iload_n 2, 1) := by decide +kernel
theorem dX10_show_15 : decode cX10_show 15 = .ok (.invokevirtual 174, 3) := by decide +kernel
theorem dX10_show_18 : decode cX10_show 18 = .ok (.ifCond .eq 34, 3) := by decide +kernel
theorem dX10_show_21 : decode cX10_show 21 = .ok (.aload_n 0, 1) := by decide +kernel
theorem dX10_show_22 : decode cX10_show 22 = .ok (.iload_n 1, 1) := by decide +kernel
theorem dX10_show_23 : decode cX10_show 23 = .ok (.iload_n 2, 1) := by decide +kernel
theorem dX10_show_24 : decode cX10_show 24 = .ok (.invokevirtual 211, 3) := by decide +kernel
theorem dX10_show_27 : decode cX10_show 27 = .ok (.ifCond .ne 25, 3) := by decide +kernel
theorem dX10_show_30 : decode cX10_show 30 = .ok (.aload_n 0, 1) := by decide +kernel
theorem dX10_show_31 : decode cX10_show 31 = .ok (.iload_n 1, 1) := by decide +kernel
theorem dX10_show_32 : decode cX10_show 32 = .ok (.invokevirtual 214, 3) := by decide +kernel
theorem dX10_show_35 : decode cX10_show 35 = .ok (.ifCond .eq 17, 3) := by decide +kernel
theorem dX10_show_38 : decode cX10_show 38 = .ok (.aload_n 0, 1) := by decide +kernel
theorem dX10_show_39 : decode cX10_show 39 = .ok (.getfield 34, 3) := by decide +kernel
theorem dX10_show_42 : decode cX10_show 42 = .ok (.iload_n 2, 1) := by decide +kernel
theorem dX10_show_43 : decode cX10_show 43 = .ok (.iaload, 1) := by decide +kernel
theorem dX10_show_44 : decode cX10_show 44 = .ok (.iconst (-1), 1) := by decide +kernel
theorem dX10_show_45 : decode cX10_show 45 = .ok (.if_icmp .ne 7, 3) := by decide +kernel
theorem dX10_show_48 : decode cX10_show 48 = .ok (.iconst 1, 1) := by decide +kernel
theorem dX10_show_49 : decode cX10_show 49 = .ok (.goto 4, 3) := by decide +kernel
theorem dX10_show_52 : decode cX10_show 52 = .ok (.iconst 0, 1) := by decide +kernel
theorem dX10_show_53 : decode cX10_show 53 = .ok (.istore_n 3, 1) := by decide +kernel
theorem dX10_show_54 : decode cX10_show 54 = .ok (.iload_n 3, 1) := by decide +kernel
theorem dX10_show_55 : decode cX10_show 55 = .ok (.ifCond .ne 6, 3) := by decide +kernel
theorem dX10_show_58 : decode cX10_show 58 = .ok (.bipush (-103), 2) := by decide +kernel
theorem dX10_show_60 : decode cX10_show 60 = .ok (.ireturn, 1) := by decide +kernel
theorem dX10_show_61 : decode cX10_show 61 = .ok (.aload_n 0, 1) := by decide +kernel
theorem dX10_show_62 : decode cX10_show 62 = .ok (.iload_n 1, 1) := by decide +kernel
theorem dX10_show_63 : decode cX10_show 63 = .ok (.iload_n 2, 1) := by decide +kernel
theorem dX10_show_64 : decode cX10_show 64 = .ok (.invokevirtual 217, 3) := by decide +kernel
theorem dX10_show_67 : decode cX10_show 67 = .ok (.ifCond .ne 7, 3) := by decide +kernel
theorem dX10_show_70 : decode cX10_show 70 = .ok (.iconst 0, 1) := by decide +kernel
theorem dX10_show_71 : decode cX10_show 71 = .ok (.goto 17, 3) := by decide +kernel
theorem dX10_show_74 : decode cX10_show 74 = .ok (.aload_n 0, 1) := by decide +kernel
theorem dX10_show_75 : decode cX10_show 75 = .ok (.iload_n 1, 1) := by decide +kernel
theorem dX10_show_76 : decode cX10_show 76 = .ok (.iload_n 2, 1) := by decide +kernel
theorem dX10_show_77 : decode cX10_show 77 = .ok (.invokevirtual 186, 3) := by decide +kernel
theorem dX10_show_80 : decode cX10_show 80 = .ok (.ifCond .eq 7, 3) := by decide +kernel
theorem dX10_show_83 : decode cX10_show 83 = .ok (.iconst 2, 1) := by decide +kernel
theorem dX10_show_84 : decode cX10_show 84 = .ok (.goto 4, 3) := by decide +kernel
theorem dX10_show_87 : decode cX10_show 87 = .ok (.iconst 1, 1) := by decide +kernel
theorem dX10_show_88 : decode cX10_show 88 = .ok (.ireturn, 1) := by decide +kernel
theorem dX10_back_0 : decode cX10_back 0 = .ok (.aload_n 0, 1) := by decide +kernel
theorem dX10_back_1 : decode cX10_back 1 = .ok (.iload_n 1, 1) := by decide +kernel
theorem dX10_back_2 : decode cX10_back 2 = .ok (.iload_n 2, 1) := by decide +kernel
theorem dX10_back_3 : decode cX10_back 3 = .ok (.invokevirtual 208, 3) := by decide +kernel
theorem dX10_back_6 : decode cX10_back 6 = .ok (.ifCond .ne 6, 3) := by decide +kernel
theorem dX10_back_9 : decode cX10_back 9 = .ok (.bipush (-101), 2) := by decide +kernel
theorem dX10_back_11 : decode cX10_back 11 = .ok (.ireturn, 1) := by decide +kernel
theorem dX10_back_12 : decode cX10_back 12 = .ok (.aload_n 0, 1) := by decide +kernel
theorem dX10_back_13 : decode cX10_back 13 = .ok (.iload_n 1, 1) := by decide +kernel
theorem dX10_back_14 : decode cX10_back 14 = .ok (.iload_n 2, 1) := by decide +kernel
theorem dX10_back_15 : decode cX10_back 15 = .ok (.invokevirtual 211, 3) := by decide +kernel
theorem dX10_back_18 : decode cX10_back 18 = .ok (.ifCond .eq 13, 3) := by decide +kernel
theorem dX10_back_21 : decode cX10_back 21 = .ok (.aload_n 0, 1) := by decide +kernel
theorem dX10_back_22 : decode cX10_back 22 = .ok (.getfield 34, 3) := by decide +kernel
theorem dX10_back_25 : decode cX10_back 25 = .ok (.iload_n 1, 1) := by decide +kernel
theorem dX10_back_26 : decode cX10_back 26 = .ok (.iaload, 1) := by decide +kernel
theorem dX10_back_27 : decode cX10_back 27 = .ok (.iload_n 2, 1) := by decide +kernel
theorem dX10_back_28 : decode cX10_back 28 = .ok (.if_icmp .ne 6, 3) := by decide +kernel
theorem dX10_back_31 : decode cX10_back 31 = .ok (.bipush (-103), 2) := by decide +kernel
theorem dX10_back_33 : decode cX10_back 33 = .ok (.ireturn, 1) := by decide +kernel
theorem dX10_back_34 : decode cX10_back 34 = .ok (.aload_n 0, 1) := by decide +kernel
theorem dX10_back_35 : decode cX10_back 35 = .ok (.getfield 22, 3) := by decide +kernel
theorem dX10_back_38 : decode cX10_back 38 = .ok (.iload_n 1, 1) := by decide +kernel
theorem dX10_back_39 : decode cX10_back 39 = .ok (.iaload, 1) := by decide +kernel
theorem dX10_back_40 : decode cX10_back 40 = .ok (.iload_n 2, 1) := by decide +kernel
theorem dX10_back_41 : decode cX10_back 41 = .ok (.ishr, 1) := by decide +kernel
theorem dX10_back_42 : decode cX10_back 42 = .ok (.iconst 1, 1) := by decide +kernel
theorem dX10_back_43 : decode cX10_back 43 = .ok (.iand, 1) := by decide +kernel
theorem dX10_back_44 : decode cX10_back 44 = .ok (.istore_n 3, 1) := by decide +kernel
theorem dX10_back_45 : decode cX10_back 45 = .ok (.aload_n 0, 1) := by decide +kernel
theorem dX10_back_46 : decode cX10_back 46 = .ok (.getfield 22, 3) := by decide +kernel
theorem dX10_back_49 : decode cX10_back 49 = .ok (.iload_n 1, 1) := by decide +kernel
theorem dX10_back_50 : decode cX10_back 50 = .ok (.dup2, 1) := by decide +kernel
theorem dX10_back_51 : decode cX10_back 51 = .ok (.iaload, 1) := by decide +kernel
theorem dX10_back_52 : decode cX10_back 52 = .ok (.iconst 1, 1) := by decide +kernel
theorem dX10_back_53 : decode cX10_back 53 = .ok (.iload_n 2, 1) := by decide +kernel
theorem dX10_back_54 : decode cX10_back 54 = .ok (.ishl, 1) := by decide +kernel
theorem dX10_back_55 : decode cX10_back 55 = .ok (.iconst (-1), 1) := by decide +kernel
theorem dX10_back_56 : decode cX10_back 56 = .ok (.ixor, 1) := by decide +kernel
theorem dX10_back_57 : decode cX10_back 57 = .ok (.iand, 1) := by decide +kernel
theorem dX10_back_58 : decode cX10_back 58 = .ok (.iastore, 1) := by decide +kernel
theorem dX10_back_59 : decode cX10_back 59 = .ok (.aload_n 0, 1) := by decide +kernel
theorem dX10_back_60 : decode cX10_back 60 = .ok (.getfield 25, 3) := by decide +kernel
theorem dX10_back_63 : decode cX10_back 63 = .ok (.iload_n 1, 1) := by decide +kernel
theorem dX10_back_64 : decode cX10_back 64 = .ok (.dup2, 1) := by decide +kernel
theorem dX10_back_65 : decode cX10_back 65 = .ok (.iaload, 1) := by decide +kernel
theorem dX10_back_66 : decode cX10_back 66 = .ok (.iconst 1, 1) := by decide +kernel
theorem dX10_back_67 : decode cX10_back 67 = .ok (.iload_n 2, 1) := by decide +kernel
theorem dX10_back_68 : decode cX10_back 68 = .ok (.ishl, 1) := by decide +kernel
theorem dX10_back_69 : decode cX10_back 69 = .ok (.iconst (-1), 1) := by decide +kernel
theorem dX10_back_70 : decode cX10_back 70 = .ok (.ixor, 1) := by decide +kernel
theorem dX10_back_71 : decode cX10_back 71 = .ok (.iand, 1) := by decide +kernel
theorem dX10_back_72 : decode cX10_back 72 = .ok (.iastore, 1) := by decide +kernel
theorem dX10_back_73 : decode cX10_back 73 = .ok (.aload_n 0, 1) := by decide +kernel
theorem dX10_back_74 : decode cX10_back 74 = .ok (.dup, 1) := by decide +kernel
theorem dX10_back_75 : decode cX10_back 75 = .ok (.getfield 155, 3) := by decide +kernel
theorem dX10_back_78 : decode cX10_back 78 = .ok (.iconst 1, 1) := by decide +kernel
theorem dX10_back_79 : decode cX10_back 79 = .ok (.iadd, 1) := by decide +kernel
theorem dX10_back_80 : decode cX10_back 80 = .ok (.putfield 155, 3) := by decide +kernel
theorem dX10_back_83 : decode cX10_back 83 = .ok (.iload_n 3, 1) := by decide +kernel
theorem dX10_back_84 : decode cX10_back 84 = .ok (.ireturn, 1) := by decide +kernel
theorem dX10_day_0 : decode cX10_day 0 = .ok (.aload_n 0, 1) := by decide +kernel
theorem dX10_day_1 : decode cX10_day 1 = .ok (.getfield 140, 3) := by decide +kernel
theorem dX10_day_4 : decode cX10_day 4 = .ok (.ifCond .ne 6, 3) := by decide +kernel
theorem dX10_day_7 : decode cX10_day 7 = .ok (.bipush (-103), 2) := by decide +kernel
theorem dX10_day_9 : decode cX10_day 9 = .ok (.ireturn, 1) := by decide +kernel
theorem dX10_day_10 : decode cX10_day 10 = .ok (.aload_n 0, 1) := by decide +kernel
theorem dX10_day_11 : decode cX10_day 11 = .ok (.getfield 146, 3) := by decide +kernel
theorem dX10_day_14 : decode cX10_day 14 = .ok (.bipush 99, 2) := by decide +kernel
theorem dX10_day_16 : decode cX10_day 16 = .ok (.if_icmp .ne 6, 3) := by decide +kernel
theorem dX10_day_19 : decode cX10_day 19 = .ok (.bipush (-104), 2) := by decide +kernel
theorem dX10_day_21 : decode cX10_day 21 = .ok (.ireturn, 1) := by decide +kernel
theorem dX10_day_22 : decode cX10_day 22 = .ok (.iconst 0, 1) := by decide +kernel
theorem dX10_day_23 : decode cX10_day 23 = .ok (.istore_n 1, 1) := by decide +kernel
theorem dX10_day_24 : decode cX10_day 24 = .ok (.iload_n 1, 1) := by decide +kernel
theorem dX10_day_25 : decode cX10_day 25 = .ok (.aload_n 0, 1) := by decide +kernel
theorem dX10_day_26 : decode cX10_day 26 = .ok (.getfield 140, 3) := by decide +kernel
theorem dX10_day_29 : decode cX10_day 29 = .ok (.if_icmp .ge 16, 3) := by decide +kernel
theorem dX10_day_32 : decode cX10_day 32 = .ok (.aload_n 0, 1) := by decide +kernel
theorem dX10_day_33 : decode cX10_day 33 = .ok (.getfield 31, 3) := by decide +kernel
theorem dX10_day_36 : decode cX10_day 36 = .ok (.iload_n 1, 1) := by decide +kernel
theorem dX10_day_37 : decode cX10_day 37 = .ok (.iconst 0, 1) := by decide +kernel
theorem dX10_day_38 : decode cX10_day 38 = .ok (.iastore, 1) := by decide +kernel
theorem dX10_day_39 : decode cX10_day 39 = .ok (.iinc 1 1, 3) := by decide +kernel
theorem dX10_day_42 : decode cX10_day 42 = .ok (.goto (-18), 3) := by decide +kernel
theorem dX10_day_45 : decode cX10_day 45 = .ok (.aload_n 0, 1) := by decide +kernel
theorem dX10_day_46 : decode cX10_day 46 = .ok (.dup, 1) := by decide +kernel
theorem dX10_day_47 : decode cX10_day 47 = .ok (.getfield 146, 3) := by decide +kernel
theorem dX10_day_50 : decode cX10_day 50 = .ok (.iconst 1, 1) := by decide +kernel
theorem dX10_day_51 : decode cX10_day 51 = .ok (.iadd, 1) := by decide +kernel
theorem dX10_day_52 : decode cX10_day 52 = .ok (.putfield 146, 3) := by decide +kernel
theorem dX10_day_55 : decode cX10_day 55 = .ok (.aload_n 0, 1) := by decide +kernel
theorem dX10_day_56 : decode cX10_day 56 = .ok (.getfield 146, 3) := by decide +kernel
theorem dX10_day_59 : decode cX10_day 59 = .ok (.ireturn, 1) := by decide +kernel
theorem dX10_isContent_0 : decode cX10_isContent 0 = .ok (.aload_n 0, 1) := by decide +kernel
theorem dX10_isContent_1 : decode cX10_isContent 1 = .ok (.getfield 7, 3) := by decide +kernel
theorem dX10_isContent_4 : decode cX10_isContent 4 = .ok (.iload_n 1, 1) := by decide +kernel
theorem dX10_isContent_5 : decode cX10_isContent 5 = .ok (.iaload, 1) := by decide +kernel
theorem dX10_isContent_6 : decode cX10_isContent 6 = .ok (.iconst 1, 1) := by decide +kernel
theorem dX10_isContent_7 : decode cX10_isContent 7 = .ok (.if_icmp .eq 18, 3) := by decide +kernel
theorem dX10_isContent_10 : decode cX10_isContent 10 = .ok (.aload_n 0, 1) := by decide +kernel
theorem dX10_isContent_11 : decode cX10_isContent 11 = .ok (.getfield 13, 3) := by decide +kernel
theorem dX10_isContent_14 : decode cX10_isContent 14 = .ok (.iload_n 2, 1) := by decide +kernel
theorem dX10_isContent_15 : decode cX10_isContent 15 = .ok (.iaload, 1) := by decide +kernel
theorem dX10_isContent_16 : decode cX10_isContent 16 = .ok (.aload_n 0, 1) := by decide +kernel
theorem dX10_isContent_17 : decode cX10_isContent 17 = .ok (.getfield 19, 3) := by decide +kernel
theorem dX10_isContent_20 : decode cX10_isContent 20 = .ok (.iload_n 1, 1) := by decide +kernel
theorem dX10_isContent_21 : decode cX10_isContent 21 = .ok (.iaload, 1) := by decide +kernel
theorem dX10_isContent_22 : decode cX10_isContent 22 = .ok (.if_icmp .lt 7, 3) := by decide +kernel
theorem dX10_isContent_25 : decode cX10_isContent 25 = .ok (.iconst 1, 1) := by decide +kernel
theorem dX10_isContent_26 : decode cX10_isContent 26 = .ok (.goto 4, 3) := by decide +kernel
theorem dX10_isContent_29 : decode cX10_isContent 29 = .ok (.iconst 0, 1) := by decide +kernel
theorem dX10_isContent_30 : decode cX10_isContent 30 = .ok (.ireturn, 1) := by decide +kernel
theorem dX10_leaves_0 : decode cX10_leaves 0 = .ok (.aload_n 0, 1) := by decide +kernel
theorem dX10_leaves_1 : decode cX10_leaves 1 = .ok (.getfield 22, 3) := by decide +kernel
theorem dX10_leaves_4 : decode cX10_leaves 4 = .ok (.iload_n 1, 1) := by decide +kernel
theorem dX10_leaves_5 : decode cX10_leaves 5 = .ok (.dup2, 1) := by decide +kernel
theorem dX10_leaves_6 : decode cX10_leaves 6 = .ok (.iaload, 1) := by decide +kernel
theorem dX10_leaves_7 : decode cX10_leaves 7 = .ok (.iconst 1, 1) := by decide +kernel
theorem dX10_leaves_8 : decode cX10_leaves 8 = .ok (.iload_n 2, 1) := by decide +kernel
theorem dX10_leaves_9 : decode cX10_leaves 9 = .ok (.ishl, 1) := by decide +kernel
theorem dX10_leaves_10 : decode cX10_leaves 10 = .ok (.iconst (-1), 1) := by decide +kernel
theorem dX10_leaves_11 : decode cX10_leaves 11 = .ok (.ixor, 1) := by decide +kernel
theorem dX10_leaves_12 : decode cX10_leaves 12 = .ok (.iand, 1) := by decide +kernel
theorem dX10_leaves_13 : decode cX10_leaves 13 = .ok (.iastore, 1) := by decide +kernel
theorem dX10_leaves_14 : decode cX10_leaves 14 = .ok (.aload_n 0, 1) := by decide +kernel
theorem dX10_leaves_15 : decode cX10_leaves 15 = .ok (.getfield 25, 3) := by decide +kernel
theorem dX10_leaves_18 : decode cX10_leaves 18 = .ok (.iload_n 1, 1) := by decide +kernel
theorem dX10_leaves_19 : decode cX10_leaves 19 = .ok (.dup2, 1) := by decide +kernel
theorem dX10_leaves_20 : decode cX10_leaves 20 = .ok (.iaload, 1) := by decide +kernel
theorem dX10_leaves_21 : decode cX10_leaves 21 = .ok (.iconst 1, 1) := by decide +kernel
theorem dX10_leaves_22 : decode cX10_leaves 22 = .ok (.iload_n 2, 1) := by decide +kernel
theorem dX10_leaves_23 : decode cX10_leaves 23 = .ok (.ishl, 1) := by decide +kernel
theorem dX10_leaves_24 : decode cX10_leaves 24 = .ok (.ior, 1) := by decide +kernel
theorem dX10_leaves_25 : decode cX10_leaves 25 = .ok (.iastore, 1) := by decide +kernel
theorem dX10_leaves_26 : decode cX10_leaves 26 = .ok (.return_, 1) := by decide +kernel
theorem dX10_meet_0 : decode cX10_meet 0 = .ok (.aload_n 0, 1) := by decide +kernel
theorem dX10_meet_1 : decode cX10_meet 1 = .ok (.iload_n 1, 1) := by decide +kernel
theorem dX10_meet_2 : decode cX10_meet 2 = .ok (.iload_n 2, 1) := by decide +kernel
theorem dX10_meet_3 : decode cX10_meet 3 = .ok (.invokevirtual 208, 3) := by decide +kernel
theorem dX10_meet_6 : decode cX10_meet 6 = .ok (.ifCond .ne 6, 3) := by decide +kernel
theorem dX10_meet_9 : decode cX10_meet 9 = .ok (.bipush (-101), 2) := by decide +kernel
theorem dX10_meet_11 : decode cX10_meet 11 = .ok (.ireturn, 1) := by decide +kernel
theorem dX10_meet_12 : decode cX10_meet 12 = .ok (.aload_n 0, 1) := by decide +kernel
theorem dX10_meet_13 : decode cX10_meet 13 = .ok (.iload_n 1, 1) := by decide +kernel
theorem dX10_meet_14 : decode cX10_meet 14 = .ok (.iload_n 2, 1) := by decide +kernel
theorem dX10_meet_15 : decode cX10_meet 15 = .ok (.invokevirtual 186, 3) := by decide +kernel
theorem dX10_meet_18 : decode cX10_meet 18 = .ok (.ifCond .eq 23, 3) := by decide +kernel
theorem dX10_meet_21 : decode cX10_meet 21 = .ok (.aload_n 0, 1) := by decide +kernel
theorem dX10_meet_22 : decode cX10_meet 22 = .ok (.getfield 34, 3) := by decide +kernel
theorem dX10_meet_25 : decode cX10_meet 25 = .ok (.iload_n 1, 1) := by decide +kernel
theorem dX10_meet_26 : decode cX10_meet 26 = .ok (.iaload, 1) := by decide +kernel
theorem dX10_meet_27 : decode cX10_meet 27 = .ok (.iconst (-1), 1) := by decide +kernel
theorem dX10_meet_28 : decode cX10_meet 28 = .ok (.if_icmp .ne 13, 3) := by decide +kernel
theorem dX10_meet_31 : decode cX10_meet 31 = .ok (.aload_n 0, 1) := by decide +kernel
theorem dX10_meet_32 : decode cX10_meet 32 = .ok (.getfield 34, 3) := by decide +kernel
theorem dX10_meet_35 : decode cX10_meet 35 = .ok (.iload_n 2, 1) := by decide +kernel
theorem dX10_meet_36 : decode cX10_meet 36 = .ok (.iaload, 1) := by decide +kernel
theorem dX10_meet_37 : decode cX10_meet 37 = .ok (.iconst (-1), 1) := by decide +kernel
theorem dX10_meet_38 : decode cX10_meet 38 = .ok (.if_icmp .eq 6, 3) := by decide +kernel
theorem dX10_meet_41 : decode cX10_meet 41 = .ok (.bipush (-103), 2) := by decide +kernel
theorem dX10_meet_43 : decode cX10_meet 43 = .ok (.ireturn, 1) := by decide +kernel
theorem dX10_meet_44 : decode cX10_meet 44 = .ok (.aload_n 0, 1) := by decide +kernel
theorem dX10_meet_45 : decode cX10_meet 45 = .ok (.dup, 1) := by decide +kernel
theorem dX10_meet_46 : decode cX10_meet 46 = .ok (.getfield 158, 3) := by decide +kernel
theorem dX10_meet_49 : decode cX10_meet 49 = .ok (.iconst 1, 1) := by decide +kernel
theorem dX10_meet_50 : decode cX10_meet 50 = .ok (.iadd, 1) := by decide +kernel
theorem dX10_meet_51 : decode cX10_meet 51 = .ok (.putfield 158, 3) := by decide +kernel
theorem dX10_meet_54 : decode cX10_meet 54 = .ok (.aload_n 0, 1) := by decide +kernel
theorem dX10_meet_55 : decode cX10_meet 55 = .ok (.iload_n 1, 1) := by decide +kernel
theorem dX10_meet_56 : decode cX10_meet 56 = .ok (.iload_n 2, 1) := by decide +kernel
theorem dX10_meet_57 : decode cX10_meet 57 = .ok (.invokevirtual 220, 3) := by decide +kernel
theorem dX10_meet_60 : decode cX10_meet 60 = .ok (.ifCond .eq 28, 3) := by decide +kernel
theorem dX10_meet_63 : decode cX10_meet 63 = .ok (.aload_n 0, 1) := by decide +kernel
theorem dX10_meet_64 : decode cX10_meet 64 = .ok (.iload_n 2, 1) := by decide +kernel
theorem dX10_meet_65 : decode cX10_meet 65 = .ok (.iload_n 1, 1) := by decide +kernel
theorem dX10_meet_66 : decode cX10_meet 66 = .ok (.invokevirtual 220, 3) := by decide +kernel
theorem dX10_meet_69 : decode cX10_meet 69 = .ok (.ifCond .eq 19, 3) := by decide +kernel
theorem dX10_meet_72 : decode cX10_meet 72 = .ok (.aload_n 0, 1) := by decide +kernel
theorem dX10_meet_73 : decode cX10_meet 73 = .ok (.getfield 34, 3) := by decide +kernel
theorem dX10_meet_76 : decode cX10_meet 76 = .ok (.iload_n 1, 1) := by decide +kernel
theorem dX10_meet_77 : decode cX10_meet 77 = .ok (.iload_n 2, 1) := by decide +kernel
theorem dX10_meet_78 : decode cX10_meet 78 = .ok (.iastore, 1) := by decide +kernel
theorem dX10_meet_79 : decode cX10_meet 79 = .ok (.aload_n 0, 1) := by decide +kernel
theorem dX10_meet_80 : decode cX10_meet 80 = .ok (.getfield 34, 3) := by decide +kernel
theorem dX10_meet_83 : decode cX10_meet 83 = .ok (.iload_n 2, 1) := by decide +kernel
theorem dX10_meet_84 : decode cX10_meet 84 = .ok (.iload_n 1, 1) := by decide +kernel
theorem dX10_meet_85 : decode cX10_meet 85 = .ok (.iastore, 1) := by decide +kernel
theorem dX10_meet_86 : decode cX10_meet 86 = .ok (.iconst 1, 1) := by decide +kernel
theorem dX10_meet_87 : decode cX10_meet 87 = .ok (.ireturn, 1) := by decide +kernel
theorem dX10_meet_88 : decode cX10_meet 88 = .ok (.aload_n 0, 1) := by decide +kernel
theorem dX10_meet_89 : decode cX10_meet 89 = .ok (.iload_n 1, 1) := by decide +kernel
theorem dX10_meet_90 : decode cX10_meet 90 = .ok (.iload_n 2, 1) := by decide +kernel
theorem dX10_meet_91 : decode cX10_meet 91 = .ok (.invokevirtual 223, 3) := by decide +kernel
theorem dX10_meet_94 : decode cX10_meet 94 = .ok (.aload_n 0, 1) := by decide +kernel
theorem dX10_meet_95 : decode cX10_meet 95 = .ok (.iload_n 2, 1) := by decide +kernel
theorem dX10_meet_96 : decode cX10_meet 96 = .ok (.iload_n 1, 1) := by decide +kernel
theorem dX10_meet_97 : decode cX10_meet 97 = .ok (.invokevirtual 223, 3) := by decide +kernel
theorem dX10_meet_100 : decode cX10_meet 100 = .ok (.iconst 0, 1) := by decide +kernel
theorem dX10_meet_101 : decode cX10_meet 101 = .ok (.ireturn, 1) := by decide +kernel
theorem dX10_part_0 : decode cX10_part 0 = .ok (.aload_n 0, 1) := by decide +kernel
theorem dX10_part_1 : decode cX10_part 1 = .ok (.iload_n 1, 1) := by decide +kernel
theorem dX10_part_2 : decode cX10_part 2 = .ok (.invokevirtual 167, 3) := by decide +kernel
theorem dX10_part_5 : decode cX10_part 5 = .ok (.ifCond .ne 6, 3) := by decide +kernel
theorem dX10_part_8 : decode cX10_part 8 = .ok (.bipush (-101), 2) := by decide +kernel
theorem dX10_part_10 : decode cX10_part 10 = .ok (.ireturn, 1) := by decide +kernel
theorem dX10_part_11 : decode cX10_part 11 = .ok (.aload_n 0, 1) := by decide +kernel
theorem dX10_part_12 : decode cX10_part 12 = .ok (.getfield 34, 3) := by decide +kernel
theorem dX10_part_15 : decode cX10_part 15 = .ok (.iload_n 1, 1) := by decide +kernel
theorem dX10_part_16 : decode cX10_part 16 = .ok (.iaload, 1) := by decide +kernel
theorem dX10_part_17 : decode cX10_part 17 = .ok (.istore_n 2, 1) := by decide +kernel
theorem dX10_part_18 : decode cX10_part 18 = .ok (.iload_n 2, 1) := by decide +kernel
theorem dX10_part_19 : decode cX10_part 19 = .ok (.iconst (-1), 1) := by decide +kernel
theorem dX10_part_20 : decode cX10_part 20 = .ok (.if_icmp .ne 6, 3) := by decide +kernel
theorem dX10_part_23 : decode cX10_part 23 = .ok (.bipush (-103), 2) := by decide +kernel
theorem dX10_part_25 : decode cX10_part 25 = .ok (.ireturn, 1) := by decide +kernel
theorem dX10_part_26 : decode cX10_part 26 = .ok (.aload_n 0, 1) := by decide +kernel
theorem dX10_part_27 : decode cX10_part 27 = .ok (.getfield 34, 3) := by decide +kernel
theorem dX10_part_30 : decode cX10_part 30 = .ok (.iload_n 1, 1) := by decide +kernel
theorem dX10_part_31 : decode cX10_part 31 = .ok (.iconst (-1), 1) := by decide +kernel
theorem dX10_part_32 : decode cX10_part 32 = .ok (.iastore, 1) := by decide +kernel
theorem dX10_part_33 : decode cX10_part 33 = .ok (.aload_n 0, 1) := by decide +kernel
theorem dX10_part_34 : decode cX10_part 34 = .ok (.getfield 34, 3) := by decide +kernel
theorem dX10_part_37 : decode cX10_part 37 = .ok (.iload_n 2, 1) := by decide +kernel
theorem dX10_part_38 : decode cX10_part 38 = .ok (.iconst (-1), 1) := by decide +kernel
theorem dX10_part_39 : decode cX10_part 39 = .ok (.iastore, 1) := by decide +kernel
theorem dX10_part_40 : decode cX10_part 40 = .ok (.aload_n 0, 1) := by decide +kernel
theorem dX10_part_41 : decode cX10_part 41 = .ok (.iload_n 1, 1) := by decide +kernel
theorem dX10_part_42 : decode cX10_part 42 = .ok (.iload_n 2, 1) := by decide +kernel
theorem dX10_part_43 : decode cX10_part 43 = .ok (.invokevirtual 223, 3) := by decide +kernel
theorem dX10_part_46 : decode cX10_part 46 = .ok (.aload_n 0, 1) := by decide +kernel
theorem dX10_part_47 : decode cX10_part 47 = .ok (.iload_n 2, 1) := by decide +kernel
theorem dX10_part_48 : decode cX10_part 48 = .ok (.iload_n 1, 1) := by decide +kernel
theorem dX10_part_49 : decode cX10_part 49 = .ok (.invokevirtual 223, 3) := by decide +kernel
theorem dX10_part_52 : decode cX10_part 52 = .ok (.iload_n 2, 1) := by decide +kernel
theorem dX10_part_53 : decode cX10_part 53 = .ok (.ireturn, 1) := by decide +kernel
theorem dX10_prefers_0 : decode cX10_prefers 0 = .ok (.aload_n 0, 1) := by decide +kernel
theorem dX10_prefers_1 : decode cX10_prefers 1 = .ok (.iload_n 1, 1) := by decide +kernel
theorem dX10_prefers_2 : decode cX10_prefers 2 = .ok (.invokevirtual 177, 3) := by decide +kernel
theorem dX10_prefers_5 : decode cX10_prefers 5 = .ok (.aload_n 0, 1) := by decide +kernel
theorem dX10_prefers_6 : decode cX10_prefers 6 = .ok (.iload_n 2, 1) := by decide +kernel
theorem dX10_prefers_7 : decode cX10_prefers 7 = .ok (.invokevirtual 177, 3) := by decide +kernel
theorem dX10_prefers_10 : decode cX10_prefers 10 = .ok (.if_icmp .gt 21, 3) := by decide +kernel
theorem dX10_prefers_13 : decode cX10_prefers 13 = .ok (.aload_n 0, 1) := by decide +kernel
theorem dX10_prefers_14 : decode cX10_prefers 14 = .ok (.iload_n 1, 1) := by decide +kernel
theorem dX10_prefers_15 : decode cX10_prefers 15 = .ok (.invokevirtual 177, 3) := by decide +kernel
theorem dX10_prefers_18 : decode cX10_prefers 18 = .ok (.aload_n 0, 1) := by decide +kernel
theorem dX10_prefers_19 : decode cX10_prefers 19 = .ok (.iload_n 2, 1) := by decide +kernel
theorem dX10_prefers_20 : decode cX10_prefers 20 = .ok (.invokevirtual 177, 3) := by decide +kernel
theorem dX10_prefers_23 : decode cX10_prefers 23 = .ok (.if_icmp .ne 12, 3) := by decide +kernel
theorem dX10_prefers_26 : decode cX10_prefers 26 = .ok (.iload_n 1, 1) := by decide +kernel
theorem dX10_prefers_27 : decode cX10_prefers 27 = .ok (.iload_n 2, 1) := by decide +kernel
theorem dX10_prefers_28 : decode cX10_prefers 28 = .ok (.if_icmp .ge 7, 3) := by decide +kernel
theorem dX10_prefers_31 : decode cX10_prefers 31 = .ok (.iconst 1, 1) := by decide +kernel
theorem dX10_prefers_32 : decode cX10_prefers 32 = .ok (.goto 4, 3) := by decide +kernel
theorem dX10_prefers_35 : decode cX10_prefers 35 = .ok (.iconst 0, 1) := by decide +kernel
theorem dX10_prefers_36 : decode cX10_prefers 36 = .ok (.ireturn, 1) := by decide +kernel
theorem dX10_mayBe_0 : decode cX10_mayBe 0 = .ok (.aload_n 0, 1) := by decide +kernel
theorem dX10_mayBe_1 : decode cX10_mayBe 1 = .ok (.iload_n 1, 1) := by decide +kernel
theorem dX10_mayBe_2 : decode cX10_mayBe 2 = .ok (.invokevirtual 214, 3) := by decide +kernel
theorem dX10_mayBe_5 : decode cX10_mayBe 5 = .ok (.ifCond .eq 24, 3) := by decide +kernel
theorem dX10_mayBe_8 : decode cX10_mayBe 8 = .ok (.aload_n 0, 1) := by decide +kernel
theorem dX10_mayBe_9 : decode cX10_mayBe 9 = .ok (.iload_n 2, 1) := by decide +kernel
theorem dX10_mayBe_10 : decode cX10_mayBe 10 = .ok (.invokevirtual 214, 3) := by decide +kernel
theorem dX10_mayBe_13 : decode cX10_mayBe 13 = .ok (.ifCond .eq 16, 3) := by decide +kernel
theorem dX10_mayBe_16 : decode cX10_mayBe 16 = .ok (.aload_n 0, 1) := by decide +kernel
theorem dX10_mayBe_17 : decode cX10_mayBe 17 = .ok (.iload_n 1, 1) := by decide +kernel
theorem dX10_mayBe_18 : decode cX10_mayBe 18 = .ok (.iload_n 2, 1) := by decide +kernel
theorem dX10_mayBe_19 : decode cX10_mayBe 19 = .ok (.invokevirtual 227, 3) := by decide +kernel
theorem dX10_mayBe_22 : decode cX10_mayBe 22 = .ok (.ifCond .eq 7, 3) := by decide +kernel
theorem dX10_mayBe_25 : decode cX10_mayBe 25 = .ok (.iconst 1, 1) := by decide +kernel
theorem dX10_mayBe_26 : decode cX10_mayBe 26 = .ok (.goto 4, 3) := by decide +kernel
theorem dX10_mayBe_29 : decode cX10_mayBe 29 = .ok (.iconst 0, 1) := by decide +kernel
theorem dX10_mayBe_30 : decode cX10_mayBe 30 = .ok (.ireturn, 1) := by decide +kernel
theorem dX10_whoHas_0 : decode cX10_whoHas 0 = .ok (.iconst (-1), 1) := by decide +kernel
theorem dX10_whoHas_1 : decode cX10_whoHas 1 = .ok (.istore_n 2, 1) := by decide +kernel
theorem dX10_whoHas_2 : decode cX10_whoHas 2 = .ok (.iconst 0, 1) := by decide +kernel
theorem dX10_whoHas_3 : decode cX10_whoHas 3 = .ok (.istore_n 3, 1) := by decide +kernel
theorem dX10_whoHas_4 : decode cX10_whoHas 4 = .ok (.iload_n 3, 1) := by decide +kernel
theorem dX10_whoHas_5 : decode cX10_whoHas 5 = .ok (.aload_n 0, 1) := by decide +kernel
theorem dX10_whoHas_6 : decode cX10_whoHas 6 = .ok (.getfield 137, 3) := by decide +kernel
theorem dX10_whoHas_9 : decode cX10_whoHas 9 = .ok (.if_icmp .ge 27, 3) := by decide +kernel
theorem dX10_whoHas_12 : decode cX10_whoHas 12 = .ok (.aload_n 0, 1) := by decide +kernel
theorem dX10_whoHas_13 : decode cX10_whoHas 13 = .ok (.getfield 50, 3) := by decide +kernel
theorem dX10_whoHas_16 : decode cX10_whoHas 16 = .ok (.iload_n 3, 1) := by decide +kernel
theorem dX10_whoHas_17 : decode cX10_whoHas 17 = .ok (.iaload, 1) := by decide +kernel
theorem dX10_whoHas_18 : decode cX10_whoHas 18 = .ok (.iload_n 1, 1) := by decide +kernel
theorem dX10_whoHas_19 : decode cX10_whoHas 19 = .ok (.iconst 1, 1) := by decide +kernel
theorem dX10_whoHas_20 : decode cX10_whoHas 20 = .ok (.iadd, 1) := by decide +kernel
theorem dX10_whoHas_21 : decode cX10_whoHas 21 = .ok (.if_icmp .ne 7, 3) := by decide +kernel
theorem dX10_whoHas_24 : decode cX10_whoHas 24 = .ok (.iload_n 3, 1) := by decide +kernel
theorem dX10_whoHas_25 : decode cX10_whoHas 25 = .ok (.goto 4, 3) := by decide +kernel
theorem dX10_whoHas_28 : decode cX10_whoHas 28 = .ok (.iload_n 2, 1) := by decide +kernel
theorem dX10_whoHas_29 : decode cX10_whoHas 29 = .ok (.istore_n 2, 1) := by decide +kernel
theorem dX10_whoHas_30 : decode cX10_whoHas 30 = .ok (.iinc 3 1, 3) := by decide +kernel
theorem dX10_whoHas_33 : decode cX10_whoHas 33 = .ok (.goto (-29), 3) := by decide +kernel
theorem dX10_whoHas_36 : decode cX10_whoHas 36 = .ok (.iload_n 2, 1) := by decide +kernel
theorem dX10_whoHas_37 : decode cX10_whoHas 37 = .ok (.ireturn, 1) := by decide +kernel
theorem dX10_isRow_0 : decode cX10_isRow 0 = .ok (.iconst 0, 1) := by decide +kernel
theorem dX10_isRow_1 : decode cX10_isRow 1 = .ok (.istore_n 1, 1) := by decide +kernel
theorem dX10_isRow_2 : decode cX10_isRow 2 = .ok (.iconst 0, 1) := by decide +kernel
theorem dX10_isRow_3 : decode cX10_isRow 3 = .ok (.istore_n 2, 1) := by decide +kernel
theorem dX10_isRow_4 : decode cX10_isRow 4 = .ok (.iload_n 2, 1) := by decide +kernel
theorem dX10_isRow_5 : decode cX10_isRow 5 = .ok (.aload_n 0, 1) := by decide +kernel
theorem dX10_isRow_6 : decode cX10_isRow 6 = .ok (.getfield 137, 3) := by decide +kernel
theorem dX10_isRow_9 : decode cX10_isRow 9 = .ok (.if_icmp .ge 47, 3) := by decide +kernel
theorem dX10_isRow_12 : decode cX10_isRow 12 = .ok (.aload_n 0, 1) := by decide +kernel
theorem dX10_isRow_13 : decode cX10_isRow 13 = .ok (.getfield 50, 3) := by decide +kernel
theorem dX10_isRow_16 : decode cX10_isRow 16 = .ok (.iload_n 2, 1) := by decide +kernel
theorem dX10_isRow_17 : decode cX10_isRow 17 = .ok (.iaload, 1) := by decide +kernel
theorem dX10_isRow_18 : decode cX10_isRow 18 = .ok (.iconst 1, 1) := by decide +kernel
theorem dX10_isRow_19 : decode cX10_isRow 19 = .ok (.isub, 1) := by decide +kernel
theorem dX10_isRow_20 : decode cX10_isRow 20 = .ok (.istore_n 3, 1) := by decide +kernel
theorem dX10_isRow_21 : decode cX10_isRow 21 = .ok (.iload_n 3, 1) := by decide +kernel
theorem dX10_isRow_22 : decode cX10_isRow 22 = .ok (.ifCond .lt 28, 3) := by decide +kernel
theorem dX10_isRow_25 : decode cX10_isRow 25 = .ok (.aload_n 0, 1) := by decide +kernel
theorem dX10_isRow_26 : decode cX10_isRow 26 = .ok (.iload_n 2, 1) := by decide +kernel
theorem dX10_isRow_27 : decode cX10_isRow 27 = .ok (.iload_n 3, 1) := by decide +kernel
theorem dX10_isRow_28 : decode cX10_isRow 28 = .ok (.invokevirtual 230, 3) := by decide +kernel
theorem dX10_isRow_31 : decode cX10_isRow 31 = .ok (.ifCond .eq 11, 3) := by decide +kernel
theorem dX10_isRow_34 : decode cX10_isRow 34 = .ok (.iload_n 1, 1) := by decide +kernel
theorem dX10_isRow_35 : decode cX10_isRow 35 = .ok (.iload_n 3, 1) := by decide +kernel
theorem dX10_isRow_36 : decode cX10_isRow 36 = .ok (.invokestatic 183, 3) := by decide +kernel
theorem dX10_isRow_39 : decode cX10_isRow 39 = .ok (.ifCond .eq 5, 3) := by decide +kernel
theorem dX10_isRow_42 : decode cX10_isRow 42 = .ok (.iconst 0, 1) := by decide +kernel
theorem dX10_isRow_43 : decode cX10_isRow 43 = .ok (.ireturn, 1) := by decide +kernel
theorem dX10_isRow_44 : decode cX10_isRow 44 = .ok (.iload_n 1, 1) := by decide +kernel
theorem dX10_isRow_45 : decode cX10_isRow 45 = .ok (.iconst 1, 1) := by decide +kernel
theorem dX10_isRow_46 : decode cX10_isRow 46 = .ok (.iload_n 3, 1) := by decide +kernel
theorem dX10_isRow_47 : decode cX10_isRow 47 = .ok (.ishl, 1) := by decide +kernel
theorem dX10_isRow_48 : decode cX10_isRow 48 = .ok (.ior, 1) := by decide +kernel
theorem dX10_isRow_49 : decode cX10_isRow 49 = .ok (.istore_n 1, 1) := by decide +kernel
theorem dX10_isRow_50 : decode cX10_isRow 50 = .ok (.iinc 2 1, 3) := by decide +kernel
theorem dX10_isRow_53 : decode cX10_isRow 53 = .ok (.goto (-49), 3) := by decide +kernel
theorem dX10_isRow_56 : decode cX10_isRow 56 = .ok (.iconst 1, 1) := by decide +kernel
theorem dX10_isRow_57 : decode cX10_isRow 57 = .ok (.ireturn, 1) := by decide +kernel
theorem dX10_wouldLeave_0 : decode cX10_wouldLeave 0 = .ok (.aload_n 0, 1) := by decide +kernel
theorem dX10_wouldLeave_1 : decode cX10_wouldLeave 1 = .ok (.getfield 50, 3) := by decide +kernel
theorem dX10_wouldLeave_4 : decode cX10_wouldLeave 4 = .ok (.iload_n 1, 1) := by decide +kernel
theorem dX10_wouldLeave_5 : decode cX10_wouldLeave 5 = .ok (.iaload, 1) := by decide +kernel
theorem dX10_wouldLeave_6 : decode cX10_wouldLeave 6 = .ok (.iconst 1, 1) := by decide +kernel
theorem dX10_wouldLeave_7 : decode cX10_wouldLeave 7 = .ok (.isub, 1) := by decide +kernel
theorem dX10_wouldLeave_8 : decode cX10_wouldLeave 8 = .ok (.istore_n 3, 1) := by decide +kernel
theorem dX10_wouldLeave_9 : decode cX10_wouldLeave 9 = .ok (.aload_n 0, 1) := by decide +kernel
theorem dX10_wouldLeave_10 : decode cX10_wouldLeave 10 = .ok (.iload_n 2, 1) := by decide +kernel
theorem dX10_wouldLeave_11 : decode cX10_wouldLeave 11 = .ok (.invokevirtual 233, 3) := by decide +kernel
theorem dX10_wouldLeave_14 : decode cX10_wouldLeave 14 = .ok (.istore 4, 2) := by decide +kernel
theorem dX10_wouldLeave_16 : decode cX10_wouldLeave 16 = .ok (.aload_n 0, 1) := by decide +kernel
theorem dX10_wouldLeave_17 : decode cX10_wouldLeave 17 = .ok (.iload_n 1, 1) := by decide +kernel
theorem dX10_wouldLeave_18 : decode cX10_wouldLeave 18 = .ok (.iload_n 2, 1) := by decide +kernel
theorem dX10_wouldLeave_19 : decode cX10_wouldLeave 19 = .ok (.invokevirtual 230, 3) := by decide +kernel
theorem dX10_wouldLeave_22 : decode cX10_wouldLeave 22 = .ok (.ifCond .eq 41, 3) := by decide +kernel
theorem dX10_wouldLeave_25 : decode cX10_wouldLeave 25 = .ok (.iload_n 3, 1) := by decide +kernel
theorem dX10_wouldLeave_26 : decode cX10_wouldLeave 26 = .ok (.iload_n 2, 1) := by decide +kernel
theorem dX10_wouldLeave_27 : decode cX10_wouldLeave 27 = .ok (.if_icmp .eq 36, 3) := by decide +kernel
theorem dX10_wouldLeave_30 : decode cX10_wouldLeave 30 = .ok (.iload_n 3, 1) := by decide +kernel
theorem dX10_wouldLeave_31 : decode cX10_wouldLeave 31 = .ok (.ifCond .lt 12, 3) := by decide +kernel
theorem dX10_wouldLeave_34 : decode cX10_wouldLeave 34 = .ok (.aload_n 0, 1) := by decide +kernel
theorem dX10_wouldLeave_35 : decode cX10_wouldLeave 35 = .ok (.iload_n 2, 1) := by decide +kernel
theorem dX10_wouldLeave_36 : decode cX10_wouldLeave 36 = .ok (.iload_n 3, 1) := by decide +kernel
theorem dX10_wouldLeave_37 : decode cX10_wouldLeave 37 = .ok (.invokevirtual 236, 3) := by decide +kernel
theorem dX10_wouldLeave_40 : decode cX10_wouldLeave 40 = .ok (.ifCond .eq 23, 3) := by decide +kernel
theorem dX10_wouldLeave_43 : decode cX10_wouldLeave 43 = .ok (.iload 4, 2) := by decide +kernel
theorem dX10_wouldLeave_45 : decode cX10_wouldLeave 45 = .ok (.iconst (-1), 1) := by decide +kernel
theorem dX10_wouldLeave_46 : decode cX10_wouldLeave 46 = .ok (.if_icmp .eq 13, 3) := by decide +kernel
theorem dX10_wouldLeave_49 : decode cX10_wouldLeave 49 = .ok (.aload_n 0, 1) := by decide +kernel
theorem dX10_wouldLeave_50 : decode cX10_wouldLeave 50 = .ok (.iload_n 1, 1) := by decide +kernel
theorem dX10_wouldLeave_51 : decode cX10_wouldLeave 51 = .ok (.iload 4, 2) := by decide +kernel
theorem dX10_wouldLeave_53 : decode cX10_wouldLeave 53 = .ok (.invokevirtual 236, 3) := by decide +kernel
theorem dX10_wouldLeave_56 : decode cX10_wouldLeave 56 = .ok (.ifCond .eq 7, 3) := by decide +kernel
theorem dX10_wouldLeave_59 : decode cX10_wouldLeave 59 = .ok (.iconst 1, 1) := by decide +kernel
theorem dX10_wouldLeave_60 : decode cX10_wouldLeave 60 = .ok (.goto 4, 3) := by decide +kernel
theorem dX10_wouldLeave_63 : decode cX10_wouldLeave 63 = .ok (.iconst 0, 1) := by decide +kernel
theorem dX10_wouldLeave_64 : decode cX10_wouldLeave 64 = .ok (.ireturn, 1) := by decide +kernel
theorem dX10_isLasting_0 : decode cX10_isLasting 0 = .ok (.aload_n 0, 1) := by decide +kernel
theorem dX10_isLasting_1 : decode cX10_isLasting 1 = .ok (.invokevirtual 239, 3) := by decide +kernel
theorem dX10_isLasting_4 : decode cX10_isLasting 4 = .ok (.istore_n 1, 1) := by decide +kernel
theorem dX10_isLasting_5 : decode cX10_isLasting 5 = .ok (.iconst 0, 1) := by decide +kernel
theorem dX10_isLasting_6 : decode cX10_isLasting 6 = .ok (.istore_n 2, 1) := by decide +kernel
theorem dX10_isLasting_7 : decode cX10_isLasting 7 = .ok (.iload_n 2, 1) := by decide +kernel
theorem dX10_isLasting_8 : decode cX10_isLasting 8 = .ok (.aload_n 0, 1) := by decide +kernel
theorem dX10_isLasting_9 : decode cX10_isLasting 9 = .ok (.getfield 137, 3) := by decide +kernel
theorem dX10_isLasting_12 : decode cX10_isLasting 12 = .ok (.if_icmp .ge 51, 3) := by decide +kernel
theorem dX10_isLasting_15 : decode cX10_isLasting 15 = .ok (.iload_n 1, 1) := by decide +kernel
theorem dX10_isLasting_16 : decode cX10_isLasting 16 = .ok (.ifCond .eq 47, 3) := by decide +kernel
theorem dX10_isLasting_19 : decode cX10_isLasting 19 = .ok (.aload_n 0, 1) := by decide +kernel
theorem dX10_isLasting_20 : decode cX10_isLasting 20 = .ok (.getfield 137, 3) := by decide +kernel
theorem dX10_isLasting_23 : decode cX10_isLasting 23 = .ok (.istore_n 3, 1) := by decide +kernel
theorem dX10_isLasting_24 : decode cX10_isLasting 24 = .ok (.iload_n 3, 1) := by decide +kernel
theorem dX10_isLasting_25 : decode cX10_isLasting 25 = .ok (.aload_n 0, 1) := by decide +kernel
theorem dX10_isLasting_26 : decode cX10_isLasting 26 = .ok (.getfield 140, 3) := by decide +kernel
theorem dX10_isLasting_29 : decode cX10_isLasting 29 = .ok (.if_icmp .ge 28, 3) := by decide +kernel
theorem dX10_isLasting_32 : decode cX10_isLasting 32 = .ok (.iload_n 1, 1) := by decide +kernel
theorem dX10_isLasting_33 : decode cX10_isLasting 33 = .ok (.ifCond .eq 16, 3) := by decide +kernel
theorem dX10_isLasting_36 : decode cX10_isLasting 36 = .ok (.aload_n 0, 1) := by decide +kernel
end
section
theorem dX10_isLasting_37 : decode cX10_isLasting 37 = .ok (.iload_n 2, 1) := by decide +kernel
theorem dX10_isLasting_38 : decode cX10_isLasting 38 = .ok (.iload_n 3, 1) := by decide +kernel
theorem dX10_isLasting_39 : decode cX10_isLasting 39 = .ok (.invokevirtual 243, 3) := by decide +kernel
theorem dX10_isLasting_42 : decode cX10_isLasting 42 = .ok (.ifCond .ne 7, 3) := by decide +kernel
theorem dX10_isLasting_45 : decode cX10_isLasting 45 = .ok (.iconst 1, 1) := by decide +kernel
theorem dX10_isLasting_46 : decode cX10_isLasting 46 = .ok (.goto 4, 3) := by decide +kernel
theorem dX10_isLasting_49 : decode cX10_isLasting 49 = .ok (.iconst 0, 1) := by decide +kernel
theorem dX10_isLasting_50 : decode cX10_isLasting 50 = .ok (.istore_n 1, 1) := by decide +kernel
theorem dX10_isLasting_51 : decode cX10_isLasting 51 = .ok (.iinc 3 1, 3) := by decide +kernel
theorem dX10_isLasting_54 : decode cX10_isLasting 54 = .ok (.goto (-30), 3) := by decide +kernel
theorem dX10_isLasting_57 : decode cX10_isLasting 57 = .ok (.iinc 2 1, 3) := by decide +kernel
theorem dX10_isLasting_60 : decode cX10_isLasting 60 = .ok (.goto (-53), 3) := by decide +kernel
theorem dX10_isLasting_63 : decode cX10_isLasting 63 = .ok (.iload_n 1, 1) := by decide +kernel
theorem dX10_isLasting_64 : decode cX10_isLasting 64 = .ok (.ireturn, 1) := by decide +kernel
theorem dX10_nextRow_0 : decode cX10_nextRow 0 = .ok (.aload_n 0, 1) := by decide +kernel
theorem dX10_nextRow_1 : decode cX10_nextRow 1 = .ok (.getfield 137, 3) := by decide +kernel
theorem dX10_nextRow_4 : decode cX10_nextRow 4 = .ok (.iconst 1, 1) := by decide +kernel
theorem dX10_nextRow_5 : decode cX10_nextRow 5 = .ok (.isub, 1) := by decide +kernel
theorem dX10_nextRow_6 : decode cX10_nextRow 6 = .ok (.istore_n 1, 1) := by decide +kernel
theorem dX10_nextRow_7 : decode cX10_nextRow 7 = .ok (.iload_n 1, 1) := by decide +kernel
theorem dX10_nextRow_8 : decode cX10_nextRow 8 = .ok (.ifCond .lt 29, 3) := by decide +kernel
theorem dX10_nextRow_11 : decode cX10_nextRow 11 = .ok (.aload_n 0, 1) := by decide +kernel
theorem dX10_nextRow_12 : decode cX10_nextRow 12 = .ok (.getfield 50, 3) := by decide +kernel
theorem dX10_nextRow_15 : decode cX10_nextRow 15 = .ok (.iload_n 1, 1) := by decide +kernel
theorem dX10_nextRow_16 : decode cX10_nextRow 16 = .ok (.iaload, 1) := by decide +kernel
theorem dX10_nextRow_17 : decode cX10_nextRow 17 = .ok (.aload_n 0, 1) := by decide +kernel
theorem dX10_nextRow_18 : decode cX10_nextRow 18 = .ok (.getfield 140, 3) := by decide +kernel
theorem dX10_nextRow_21 : decode cX10_nextRow 21 = .ok (.if_icmp .ne 16, 3) := by decide +kernel
theorem dX10_nextRow_24 : decode cX10_nextRow 24 = .ok (.aload_n 0, 1) := by decide +kernel
theorem dX10_nextRow_25 : decode cX10_nextRow 25 = .ok (.getfield 50, 3) := by decide +kernel
theorem dX10_nextRow_28 : decode cX10_nextRow 28 = .ok (.iload_n 1, 1) := by decide +kernel
theorem dX10_nextRow_29 : decode cX10_nextRow 29 = .ok (.iconst 0, 1) := by decide +kernel
theorem dX10_nextRow_30 : decode cX10_nextRow 30 = .ok (.iastore, 1) := by decide +kernel
theorem dX10_nextRow_31 : decode cX10_nextRow 31 = .ok (.iinc 1 (-1), 3) := by decide +kernel
theorem dX10_nextRow_34 : decode cX10_nextRow 34 = .ok (.goto (-27), 3) := by decide +kernel
theorem dX10_nextRow_37 : decode cX10_nextRow 37 = .ok (.iload_n 1, 1) := by decide +kernel
theorem dX10_nextRow_38 : decode cX10_nextRow 38 = .ok (.ifCond .ge 5, 3) := by decide +kernel
theorem dX10_nextRow_41 : decode cX10_nextRow 41 = .ok (.iconst 0, 1) := by decide +kernel
theorem dX10_nextRow_42 : decode cX10_nextRow 42 = .ok (.ireturn, 1) := by decide +kernel
theorem dX10_nextRow_43 : decode cX10_nextRow 43 = .ok (.aload_n 0, 1) := by decide +kernel
theorem dX10_nextRow_44 : decode cX10_nextRow 44 = .ok (.getfield 50, 3) := by decide +kernel
theorem dX10_nextRow_47 : decode cX10_nextRow 47 = .ok (.iload_n 1, 1) := by decide +kernel
theorem dX10_nextRow_48 : decode cX10_nextRow 48 = .ok (.aload_n 0, 1) := by decide +kernel
theorem dX10_nextRow_49 : decode cX10_nextRow 49 = .ok (.getfield 50, 3) := by decide +kernel
theorem dX10_nextRow_52 : decode cX10_nextRow 52 = .ok (.iload_n 1, 1) := by decide +kernel
theorem dX10_nextRow_53 : decode cX10_nextRow 53 = .ok (.iaload, 1) := by decide +kernel
theorem dX10_nextRow_54 : decode cX10_nextRow 54 = .ok (.ifCond .ne 12, 3) := by decide +kernel
theorem dX10_nextRow_57 : decode cX10_nextRow 57 = .ok (.aload_n 0, 1) := by decide +kernel
theorem dX10_nextRow_58 : decode cX10_nextRow 58 = .ok (.getfield 137, 3) := by decide +kernel
theorem dX10_nextRow_61 : decode cX10_nextRow 61 = .ok (.iconst 1, 1) := by decide +kernel
theorem dX10_nextRow_62 : decode cX10_nextRow 62 = .ok (.iadd, 1) := by decide +kernel
theorem dX10_nextRow_63 : decode cX10_nextRow 63 = .ok (.goto 11, 3) := by decide +kernel
theorem dX10_nextRow_66 : decode cX10_nextRow 66 = .ok (.aload_n 0, 1) := by decide +kernel
theorem dX10_nextRow_67 : decode cX10_nextRow 67 = .ok (.getfield 50, 3) := by decide +kernel
theorem dX10_nextRow_70 : decode cX10_nextRow 70 = .ok (.iload_n 1, 1) := by decide +kernel
theorem dX10_nextRow_71 : decode cX10_nextRow 71 = .ok (.iaload, 1) := by decide +kernel
theorem dX10_nextRow_72 : decode cX10_nextRow 72 = .ok (.iconst 1, 1) := by decide +kernel
theorem dX10_nextRow_73 : decode cX10_nextRow 73 = .ok (.iadd, 1) := by decide +kernel
theorem dX10_nextRow_74 : decode cX10_nextRow 74 = .ok (.iastore, 1) := by decide +kernel
theorem dX10_nextRow_75 : decode cX10_nextRow 75 = .ok (.iconst 1, 1) := by decide +kernel
theorem dX10_nextRow_76 : decode cX10_nextRow 76 = .ok (.ireturn, 1) := by decide +kernel
theorem dX10_layLasting_0 : decode cX10_layLasting 0 = .ok (.aload_n 0, 1) := by decide +kernel
theorem dX10_layLasting_1 : decode cX10_layLasting 1 = .ok (.iconst 0, 1) := by decide +kernel
theorem dX10_layLasting_2 : decode cX10_layLasting 2 = .ok (.putfield 246, 3) := by decide +kernel
theorem dX10_layLasting_5 : decode cX10_layLasting 5 = .ok (.iconst 0, 1) := by decide +kernel
theorem dX10_layLasting_6 : decode cX10_layLasting 6 = .ok (.istore_n 1, 1) := by decide +kernel
theorem dX10_layLasting_7 : decode cX10_layLasting 7 = .ok (.iload_n 1, 1) := by decide +kernel
theorem dX10_layLasting_8 : decode cX10_layLasting 8 = .ok (.iconst 4, 1) := by decide +kernel
theorem dX10_layLasting_9 : decode cX10_layLasting 9 = .ok (.if_icmp .ge 23, 3) := by decide +kernel
theorem dX10_layLasting_12 : decode cX10_layLasting 12 = .ok (.aload_n 0, 1) := by decide +kernel
theorem dX10_layLasting_13 : decode cX10_layLasting 13 = .ok (.getfield 50, 3) := by decide +kernel
theorem dX10_layLasting_16 : decode cX10_layLasting 16 = .ok (.iload_n 1, 1) := by decide +kernel
theorem dX10_layLasting_17 : decode cX10_layLasting 17 = .ok (.iconst 0, 1) := by decide +kernel
theorem dX10_layLasting_18 : decode cX10_layLasting 18 = .ok (.iastore, 1) := by decide +kernel
theorem dX10_layLasting_19 : decode cX10_layLasting 19 = .ok (.aload_n 0, 1) := by decide +kernel
theorem dX10_layLasting_20 : decode cX10_layLasting 20 = .ok (.getfield 53, 3) := by decide +kernel
theorem dX10_layLasting_23 : decode cX10_layLasting 23 = .ok (.iload_n 1, 1) := by decide +kernel
theorem dX10_layLasting_24 : decode cX10_layLasting 24 = .ok (.iconst 0, 1) := by decide +kernel
theorem dX10_layLasting_25 : decode cX10_layLasting 25 = .ok (.iastore, 1) := by decide +kernel
theorem dX10_layLasting_26 : decode cX10_layLasting 26 = .ok (.iinc 1 1, 3) := by decide +kernel
theorem dX10_layLasting_29 : decode cX10_layLasting 29 = .ok (.goto (-22), 3) := by decide +kernel
theorem dX10_layLasting_32 : decode cX10_layLasting 32 = .ok (.iconst 1, 1) := by decide +kernel
theorem dX10_layLasting_33 : decode cX10_layLasting 33 = .ok (.istore_n 1, 1) := by decide +kernel
theorem dX10_layLasting_34 : decode cX10_layLasting 34 = .ok (.iload_n 1, 1) := by decide +kernel
theorem dX10_layLasting_35 : decode cX10_layLasting 35 = .ok (.ifCond .eq 73, 3) := by decide +kernel
theorem dX10_layLasting_38 : decode cX10_layLasting 38 = .ok (.aload_n 0, 1) := by decide +kernel
theorem dX10_layLasting_39 : decode cX10_layLasting 39 = .ok (.invokevirtual 249, 3) := by decide +kernel
theorem dX10_layLasting_42 : decode cX10_layLasting 42 = .ok (.ifCond .eq 58, 3) := by decide +kernel
theorem dX10_layLasting_45 : decode cX10_layLasting 45 = .ok (.iconst 0, 1) := by decide +kernel
theorem dX10_layLasting_46 : decode cX10_layLasting 46 = .ok (.istore_n 2, 1) := by decide +kernel
theorem dX10_layLasting_47 : decode cX10_layLasting 47 = .ok (.iload_n 2, 1) := by decide +kernel
theorem dX10_layLasting_48 : decode cX10_layLasting 48 = .ok (.aload_n 0, 1) := by decide +kernel
theorem dX10_layLasting_49 : decode cX10_layLasting 49 = .ok (.getfield 137, 3) := by decide +kernel
theorem dX10_layLasting_52 : decode cX10_layLasting 52 = .ok (.if_icmp .ge 38, 3) := by decide +kernel
theorem dX10_layLasting_55 : decode cX10_layLasting 55 = .ok (.aload_n 0, 1) := by decide +kernel
theorem dX10_layLasting_56 : decode cX10_layLasting 56 = .ok (.getfield 53, 3) := by decide +kernel
theorem dX10_layLasting_59 : decode cX10_layLasting 59 = .ok (.iload_n 2, 1) := by decide +kernel
theorem dX10_layLasting_60 : decode cX10_layLasting 60 = .ok (.aload_n 0, 1) := by decide +kernel
theorem dX10_layLasting_61 : decode cX10_layLasting 61 = .ok (.iload_n 2, 1) := by decide +kernel
theorem dX10_layLasting_62 : decode cX10_layLasting 62 = .ok (.invokevirtual 252, 3) := by decide +kernel
theorem dX10_layLasting_65 : decode cX10_layLasting 65 = .ok (.ifCond .eq 12, 3) := by decide +kernel
theorem dX10_layLasting_68 : decode cX10_layLasting 68 = .ok (.aload_n 0, 1) := by decide +kernel
theorem dX10_layLasting_69 : decode cX10_layLasting 69 = .ok (.getfield 50, 3) := by decide +kernel
theorem dX10_layLasting_72 : decode cX10_layLasting 72 = .ok (.iload_n 2, 1) := by decide +kernel
theorem dX10_layLasting_73 : decode cX10_layLasting 73 = .ok (.iaload, 1) := by decide +kernel
theorem dX10_layLasting_74 : decode cX10_layLasting 74 = .ok (.goto 9, 3) := by decide +kernel
theorem dX10_layLasting_77 : decode cX10_layLasting 77 = .ok (.aload_n 0, 1) := by decide +kernel
theorem dX10_layLasting_78 : decode cX10_layLasting 78 = .ok (.getfield 53, 3) := by decide +kernel
theorem dX10_layLasting_81 : decode cX10_layLasting 81 = .ok (.iload_n 2, 1) := by decide +kernel
theorem dX10_layLasting_82 : decode cX10_layLasting 82 = .ok (.iaload, 1) := by decide +kernel
theorem dX10_layLasting_83 : decode cX10_layLasting 83 = .ok (.iastore, 1) := by decide +kernel
theorem dX10_layLasting_84 : decode cX10_layLasting 84 = .ok (.iinc 2 1, 3) := by decide +kernel
theorem dX10_layLasting_87 : decode cX10_layLasting 87 = .ok (.goto (-40), 3) := by decide +kernel
theorem dX10_layLasting_90 : decode cX10_layLasting 90 = .ok (.aload_n 0, 1) := by decide +kernel
theorem dX10_layLasting_91 : decode cX10_layLasting 91 = .ok (.dup, 1) := by decide +kernel
theorem dX10_layLasting_92 : decode cX10_layLasting 92 = .ok (.getfield 246, 3) := by decide +kernel
theorem dX10_layLasting_95 : decode cX10_layLasting 95 = .ok (.iconst 1, 1) := by decide +kernel
theorem dX10_layLasting_96 : decode cX10_layLasting 96 = .ok (.iadd, 1) := by decide +kernel
theorem dX10_layLasting_97 : decode cX10_layLasting 97 = .ok (.putfield 246, 3) := by decide +kernel
theorem dX10_layLasting_100 : decode cX10_layLasting 100 = .ok (.aload_n 0, 1) := by decide +kernel
theorem dX10_layLasting_101 : decode cX10_layLasting 101 = .ok (.invokevirtual 255, 3) := by decide +kernel
theorem dX10_layLasting_104 : decode cX10_layLasting 104 = .ok (.istore_n 1, 1) := by decide +kernel
theorem dX10_layLasting_105 : decode cX10_layLasting 105 = .ok (.goto (-71), 3) := by decide +kernel
theorem dX10_layLasting_108 : decode cX10_layLasting 108 = .ok (.return_, 1) := by decide +kernel
theorem dX10_isBest_0 : decode cX10_isBest 0 = .ok (.aload_n 0, 1) := by decide +kernel
theorem dX10_isBest_1 : decode cX10_isBest 1 = .ok (.getfield 50, 3) := by decide +kernel
theorem dX10_isBest_4 : decode cX10_isBest 4 = .ok (.iload_n 1, 1) := by decide +kernel
theorem dX10_isBest_5 : decode cX10_isBest 5 = .ok (.iaload, 1) := by decide +kernel
theorem dX10_isBest_6 : decode cX10_isBest 6 = .ok (.ifCond .le 39, 3) := by decide +kernel
theorem dX10_isBest_9 : decode cX10_isBest 9 = .ok (.aload_n 0, 1) := by decide +kernel
theorem dX10_isBest_10 : decode cX10_isBest 10 = .ok (.getfield 53, 3) := by decide +kernel
theorem dX10_isBest_13 : decode cX10_isBest 13 = .ok (.iload_n 1, 1) := by decide +kernel
theorem dX10_isBest_14 : decode cX10_isBest 14 = .ok (.iaload, 1) := by decide +kernel
theorem dX10_isBest_15 : decode cX10_isBest 15 = .ok (.ifCond .eq 26, 3) := by decide +kernel
theorem dX10_isBest_18 : decode cX10_isBest 18 = .ok (.aload_n 0, 1) := by decide +kernel
theorem dX10_isBest_19 : decode cX10_isBest 19 = .ok (.aload_n 0, 1) := by decide +kernel
theorem dX10_isBest_20 : decode cX10_isBest 20 = .ok (.getfield 50, 3) := by decide +kernel
theorem dX10_isBest_23 : decode cX10_isBest 23 = .ok (.iload_n 1, 1) := by decide +kernel
theorem dX10_isBest_24 : decode cX10_isBest 24 = .ok (.iaload, 1) := by decide +kernel
theorem dX10_isBest_25 : decode cX10_isBest 25 = .ok (.iconst 1, 1) := by decide +kernel
theorem dX10_isBest_26 : decode cX10_isBest 26 = .ok (.isub, 1) := by decide +kernel
theorem dX10_isBest_27 : decode cX10_isBest 27 = .ok (.aload_n 0, 1) := by decide +kernel
theorem dX10_isBest_28 : decode cX10_isBest 28 = .ok (.getfield 53, 3) := by decide +kernel
theorem dX10_isBest_31 : decode cX10_isBest 31 = .ok (.iload_n 1, 1) := by decide +kernel
theorem dX10_isBest_32 : decode cX10_isBest 32 = .ok (.iaload, 1) := by decide +kernel
theorem dX10_isBest_33 : decode cX10_isBest 33 = .ok (.iconst 1, 1) := by decide +kernel
theorem dX10_isBest_34 : decode cX10_isBest 34 = .ok (.isub, 1) := by decide +kernel
theorem dX10_isBest_35 : decode cX10_isBest 35 = .ok (.invokevirtual 236, 3) := by decide +kernel
theorem dX10_isBest_38 : decode cX10_isBest 38 = .ok (.ifCond .eq 7, 3) := by decide +kernel
theorem dX10_isBest_41 : decode cX10_isBest 41 = .ok (.iconst 1, 1) := by decide +kernel
theorem dX10_isBest_42 : decode cX10_isBest 42 = .ok (.goto 4, 3) := by decide +kernel
theorem dX10_isBest_45 : decode cX10_isBest 45 = .ok (.iconst 0, 1) := by decide +kernel
theorem dX10_isBest_46 : decode cX10_isBest 46 = .ok (.ireturn, 1) := by decide +kernel
theorem dX10_lastingNow_0 : decode cX10_lastingNow 0 = .ok (.aload_n 0, 1) := by decide +kernel
theorem dX10_lastingNow_1 : decode cX10_lastingNow 1 = .ok (.invokevirtual 258, 3) := by decide +kernel
theorem dX10_lastingNow_4 : decode cX10_lastingNow 4 = .ok (.iconst 0, 1) := by decide +kernel
theorem dX10_lastingNow_5 : decode cX10_lastingNow 5 = .ok (.istore_n 2, 1) := by decide +kernel
theorem dX10_lastingNow_6 : decode cX10_lastingNow 6 = .ok (.iconst 0, 1) := by decide +kernel
theorem dX10_lastingNow_7 : decode cX10_lastingNow 7 = .ok (.istore_n 3, 1) := by decide +kernel
theorem dX10_lastingNow_8 : decode cX10_lastingNow 8 = .ok (.iload_n 3, 1) := by decide +kernel
theorem dX10_lastingNow_9 : decode cX10_lastingNow 9 = .ok (.aload_n 0, 1) := by decide +kernel
theorem dX10_lastingNow_10 : decode cX10_lastingNow 10 = .ok (.getfield 137, 3) := by decide +kernel
theorem dX10_lastingNow_13 : decode cX10_lastingNow 13 = .ok (.if_icmp .ge 26, 3) := by decide +kernel
theorem dX10_lastingNow_16 : decode cX10_lastingNow 16 = .ok (.iload_n 2, 1) := by decide +kernel
theorem dX10_lastingNow_17 : decode cX10_lastingNow 17 = .ok (.aload_n 0, 1) := by decide +kernel
theorem dX10_lastingNow_18 : decode cX10_lastingNow 18 = .ok (.getfield 53, 3) := by decide +kernel
theorem dX10_lastingNow_21 : decode cX10_lastingNow 21 = .ok (.iload_n 3, 1) := by decide +kernel
theorem dX10_lastingNow_22 : decode cX10_lastingNow 22 = .ok (.iaload, 1) := by decide +kernel
theorem dX10_lastingNow_23 : decode cX10_lastingNow 23 = .ok (.ifCond .le 7, 3) := by decide +kernel
theorem dX10_lastingNow_26 : decode cX10_lastingNow 26 = .ok (.iconst 1, 1) := by decide +kernel
theorem dX10_lastingNow_27 : decode cX10_lastingNow 27 = .ok (.goto 4, 3) := by decide +kernel
theorem dX10_lastingNow_30 : decode cX10_lastingNow 30 = .ok (.iconst 0, 1) := by decide +kernel
theorem dX10_lastingNow_31 : decode cX10_lastingNow 31 = .ok (.iadd, 1) := by decide +kernel
theorem dX10_lastingNow_32 : decode cX10_lastingNow 32 = .ok (.istore_n 2, 1) := by decide +kernel
theorem dX10_lastingNow_33 : decode cX10_lastingNow 33 = .ok (.iinc 3 1, 3) := by decide +kernel
theorem dX10_lastingNow_36 : decode cX10_lastingNow 36 = .ok (.goto (-28), 3) := by decide +kernel
theorem dX10_lastingNow_39 : decode cX10_lastingNow 39 = .ok (.iload_n 1, 1) := by decide +kernel
theorem dX10_lastingNow_40 : decode cX10_lastingNow 40 = .ok (.ifCond .ne 10, 3) := by decide +kernel
theorem dX10_lastingNow_43 : decode cX10_lastingNow 43 = .ok (.aload_n 0, 1) := by decide +kernel
theorem dX10_lastingNow_44 : decode cX10_lastingNow 44 = .ok (.getfield 246, 3) := by decide +kernel
theorem dX10_lastingNow_47 : decode cX10_lastingNow 47 = .ok (.goto 23, 3) := by decide +kernel
theorem dX10_lastingNow_50 : decode cX10_lastingNow 50 = .ok (.iload_n 1, 1) := by decide +kernel
theorem dX10_lastingNow_51 : decode cX10_lastingNow 51 = .ok (.iconst 1, 1) := by decide +kernel
theorem dX10_lastingNow_52 : decode cX10_lastingNow 52 = .ok (.if_icmp .ne 7, 3) := by decide +kernel
theorem dX10_lastingNow_55 : decode cX10_lastingNow 55 = .ok (.iload_n 2, 1) := by decide +kernel
theorem dX10_lastingNow_56 : decode cX10_lastingNow 56 = .ok (.goto 14, 3) := by decide +kernel
theorem dX10_lastingNow_59 : decode cX10_lastingNow 59 = .ok (.aload_n 0, 1) := by decide +kernel
theorem dX10_lastingNow_60 : decode cX10_lastingNow 60 = .ok (.getfield 53, 3) := by decide +kernel
theorem dX10_lastingNow_63 : decode cX10_lastingNow 63 = .ok (.iload_n 1, 1) := by decide +kernel
theorem dX10_lastingNow_64 : decode cX10_lastingNow 64 = .ok (.bipush 10, 2) := by decide +kernel
theorem dX10_lastingNow_66 : decode cX10_lastingNow 66 = .ok (.isub, 1) := by decide +kernel
theorem dX10_lastingNow_67 : decode cX10_lastingNow 67 = .ok (.iaload, 1) := by decide +kernel
theorem dX10_lastingNow_68 : decode cX10_lastingNow 68 = .ok (.iconst 1, 1) := by decide +kernel
theorem dX10_lastingNow_69 : decode cX10_lastingNow 69 = .ok (.isub, 1) := by decide +kernel
theorem dX10_lastingNow_70 : decode cX10_lastingNow 70 = .ok (.ireturn, 1) := by decide +kernel
theorem dX10_lasting_0 : decode cX10_lasting 0 = .ok (.iload_n 1, 1) := by decide +kernel
theorem dX10_lasting_1 : decode cX10_lasting 1 = .ok (.iconst 0, 1) := by decide +kernel
theorem dX10_lasting_2 : decode cX10_lasting 2 = .ok (.iconst 1, 1) := by decide +kernel
theorem dX10_lasting_3 : decode cX10_lasting 3 = .ok (.invokestatic 98, 3) := by decide +kernel
theorem dX10_lasting_6 : decode cX10_lasting 6 = .ok (.ifCond .ne 17, 3) := by decide +kernel
theorem dX10_lasting_9 : decode cX10_lasting 9 = .ok (.iload_n 1, 1) := by decide +kernel
theorem dX10_lasting_10 : decode cX10_lasting 10 = .ok (.bipush 10, 2) := by decide +kernel
theorem dX10_lasting_12 : decode cX10_lasting 12 = .ok (.bipush 13, 2) := by decide +kernel
theorem dX10_lasting_14 : decode cX10_lasting 14 = .ok (.invokestatic 98, 3) := by decide +kernel
theorem dX10_lasting_17 : decode cX10_lasting 17 = .ok (.ifCond .ne 6, 3) := by decide +kernel
theorem dX10_lasting_20 : decode cX10_lasting 20 = .ok (.bipush (-102), 2) := by decide +kernel
theorem dX10_lasting_22 : decode cX10_lasting 22 = .ok (.ireturn, 1) := by decide +kernel
theorem dX10_lasting_23 : decode cX10_lasting 23 = .ok (.aload_n 0, 1) := by decide +kernel
theorem dX10_lasting_24 : decode cX10_lasting 24 = .ok (.getfield 140, 3) := by decide +kernel
theorem dX10_lasting_27 : decode cX10_lasting 27 = .ok (.ifCond .ne 8, 3) := by decide +kernel
theorem dX10_lasting_30 : decode cX10_lasting 30 = .ok (.bipush (-103), 2) := by decide +kernel
theorem dX10_lasting_32 : decode cX10_lasting 32 = .ok (.goto 8, 3) := by decide +kernel
theorem dX10_lasting_35 : decode cX10_lasting 35 = .ok (.aload_n 0, 1) := by decide +kernel
theorem dX10_lasting_36 : decode cX10_lasting 36 = .ok (.iload_n 1, 1) := by decide +kernel
theorem dX10_lasting_37 : decode cX10_lasting 37 = .ok (.invokevirtual 261, 3) := by decide +kernel
theorem dX10_lasting_40 : decode cX10_lasting 40 = .ok (.ireturn, 1) := by decide +kernel
theorem dX10_mutualNow_0 : decode cX10_mutualNow 0 = .ok (.iconst 0, 1) := by decide +kernel
theorem dX10_mutualNow_1 : decode cX10_mutualNow 1 = .ok (.istore_n 1, 1) := by decide +kernel
theorem dX10_mutualNow_2 : decode cX10_mutualNow 2 = .ok (.iconst 0, 1) := by decide +kernel
theorem dX10_mutualNow_3 : decode cX10_mutualNow 3 = .ok (.istore_n 2, 1) := by decide +kernel
theorem dX10_mutualNow_4 : decode cX10_mutualNow 4 = .ok (.iload_n 2, 1) := by decide +kernel
theorem dX10_mutualNow_5 : decode cX10_mutualNow 5 = .ok (.aload_n 0, 1) := by decide +kernel
theorem dX10_mutualNow_6 : decode cX10_mutualNow 6 = .ok (.getfield 137, 3) := by decide +kernel
theorem dX10_mutualNow_9 : decode cX10_mutualNow 9 = .ok (.if_icmp .ge 45, 3) := by decide +kernel
theorem dX10_mutualNow_12 : decode cX10_mutualNow 12 = .ok (.aload_n 0, 1) := by decide +kernel
theorem dX10_mutualNow_13 : decode cX10_mutualNow 13 = .ok (.getfield 137, 3) := by decide +kernel
theorem dX10_mutualNow_16 : decode cX10_mutualNow 16 = .ok (.istore_n 3, 1) := by decide +kernel
theorem dX10_mutualNow_17 : decode cX10_mutualNow 17 = .ok (.iload_n 3, 1) := by decide +kernel
theorem dX10_mutualNow_18 : decode cX10_mutualNow 18 = .ok (.aload_n 0, 1) := by decide +kernel
theorem dX10_mutualNow_19 : decode cX10_mutualNow 19 = .ok (.getfield 140, 3) := by decide +kernel
theorem dX10_mutualNow_22 : decode cX10_mutualNow 22 = .ok (.if_icmp .ge 26, 3) := by decide +kernel
theorem dX10_mutualNow_25 : decode cX10_mutualNow 25 = .ok (.iload_n 1, 1) := by decide +kernel
theorem dX10_mutualNow_26 : decode cX10_mutualNow 26 = .ok (.aload_n 0, 1) := by decide +kernel
theorem dX10_mutualNow_27 : decode cX10_mutualNow 27 = .ok (.iload_n 2, 1) := by decide +kernel
theorem dX10_mutualNow_28 : decode cX10_mutualNow 28 = .ok (.iload_n 3, 1) := by decide +kernel
theorem dX10_mutualNow_29 : decode cX10_mutualNow 29 = .ok (.invokevirtual 230, 3) := by decide +kernel
theorem dX10_mutualNow_32 : decode cX10_mutualNow 32 = .ok (.ifCond .eq 7, 3) := by decide +kernel
theorem dX10_mutualNow_35 : decode cX10_mutualNow 35 = .ok (.iconst 1, 1) := by decide +kernel
theorem dX10_mutualNow_36 : decode cX10_mutualNow 36 = .ok (.goto 4, 3) := by decide +kernel
theorem dX10_mutualNow_39 : decode cX10_mutualNow 39 = .ok (.iconst 0, 1) := by decide +kernel
theorem dX10_mutualNow_40 : decode cX10_mutualNow 40 = .ok (.iadd, 1) := by decide +kernel
theorem dX10_mutualNow_41 : decode cX10_mutualNow 41 = .ok (.istore_n 1, 1) := by decide +kernel
theorem dX10_mutualNow_42 : decode cX10_mutualNow 42 = .ok (.iinc 3 1, 3) := by decide +kernel
theorem dX10_mutualNow_45 : decode cX10_mutualNow 45 = .ok (.goto (-28), 3) := by decide +kernel
theorem dX10_mutualNow_48 : decode cX10_mutualNow 48 = .ok (.iinc 2 1, 3) := by decide +kernel
theorem dX10_mutualNow_51 : decode cX10_mutualNow 51 = .ok (.goto (-47), 3) := by decide +kernel
theorem dX10_mutualNow_54 : decode cX10_mutualNow 54 = .ok (.iload_n 1, 1) := by decide +kernel
theorem dX10_mutualNow_55 : decode cX10_mutualNow 55 = .ok (.ireturn, 1) := by decide +kernel
theorem dX10_mutual_0 : decode cX10_mutual 0 = .ok (.aload_n 0, 1) := by decide +kernel
theorem dX10_mutual_1 : decode cX10_mutual 1 = .ok (.getfield 140, 3) := by decide +kernel
theorem dX10_mutual_4 : decode cX10_mutual 4 = .ok (.ifCond .ne 8, 3) := by decide +kernel
theorem dX10_mutual_7 : decode cX10_mutual 7 = .ok (.bipush (-103), 2) := by decide +kernel
theorem dX10_mutual_9 : decode cX10_mutual 9 = .ok (.goto 7, 3) := by decide +kernel
theorem dX10_mutual_12 : decode cX10_mutual 12 = .ok (.aload_n 0, 1) := by decide +kernel
theorem dX10_mutual_13 : decode cX10_mutual 13 = .ok (.invokevirtual 264, 3) := by decide +kernel
theorem dX10_mutual_16 : decode cX10_mutual 16 = .ok (.ireturn, 1) := by decide +kernel
theorem dX10_save_0 : decode cX10_save 0 = .ok (.aload_n 0, 1) := by decide +kernel
theorem dX10_save_1 : decode cX10_save 1 = .ok (.aload_n 0, 1) := by decide +kernel
theorem dX10_save_2 : decode cX10_save 2 = .ok (.getfield 143, 3) := by decide +kernel
theorem dX10_save_5 : decode cX10_save 5 = .ok (.putfield 267, 3) := by decide +kernel
theorem dX10_save_8 : decode cX10_save 8 = .ok (.aload_n 0, 1) := by decide +kernel
theorem dX10_save_9 : decode cX10_save 9 = .ok (.aload_n 0, 1) := by decide +kernel
theorem dX10_save_10 : decode cX10_save 10 = .ok (.getfield 149, 3) := by decide +kernel
theorem dX10_save_13 : decode cX10_save 13 = .ok (.putfield 270, 3) := by decide +kernel
theorem dX10_save_16 : decode cX10_save 16 = .ok (.aload_n 0, 1) := by decide +kernel
theorem dX10_save_17 : decode cX10_save 17 = .ok (.aload_n 0, 1) := by decide +kernel
theorem dX10_save_18 : decode cX10_save 18 = .ok (.getfield 152, 3) := by decide +kernel
theorem dX10_save_21 : decode cX10_save 21 = .ok (.putfield 273, 3) := by decide +kernel
theorem dX10_save_24 : decode cX10_save 24 = .ok (.iconst 0, 1) := by decide +kernel
theorem dX10_save_25 : decode cX10_save 25 = .ok (.istore_n 1, 1) := by decide +kernel
theorem dX10_save_26 : decode cX10_save 26 = .ok (.iload_n 1, 1) := by decide +kernel
theorem dX10_save_27 : decode cX10_save 27 = .ok (.bipush 8, 2) := by decide +kernel
theorem dX10_save_29 : decode cX10_save 29 = .ok (.if_icmp .ge 57, 3) := by decide +kernel
theorem dX10_save_32 : decode cX10_save 32 = .ok (.aload_n 0, 1) := by decide +kernel
theorem dX10_save_33 : decode cX10_save 33 = .ok (.getfield 56, 3) := by decide +kernel
theorem dX10_save_36 : decode cX10_save 36 = .ok (.iload_n 1, 1) := by decide +kernel
theorem dX10_save_37 : decode cX10_save 37 = .ok (.aload_n 0, 1) := by decide +kernel
theorem dX10_save_38 : decode cX10_save 38 = .ok (.getfield 22, 3) := by decide +kernel
theorem dX10_save_41 : decode cX10_save 41 = .ok (.iload_n 1, 1) := by decide +kernel
theorem dX10_save_42 : decode cX10_save 42 = .ok (.iaload, 1) := by decide +kernel
theorem dX10_save_43 : decode cX10_save 43 = .ok (.iastore, 1) := by decide +kernel
theorem dX10_save_44 : decode cX10_save 44 = .ok (.aload_n 0, 1) := by decide +kernel
theorem dX10_save_45 : decode cX10_save 45 = .ok (.getfield 59, 3) := by decide +kernel
theorem dX10_save_48 : decode cX10_save 48 = .ok (.iload_n 1, 1) := by decide +kernel
theorem dX10_save_49 : decode cX10_save 49 = .ok (.aload_n 0, 1) := by decide +kernel
theorem dX10_save_50 : decode cX10_save 50 = .ok (.getfield 25, 3) := by decide +kernel
theorem dX10_save_53 : decode cX10_save 53 = .ok (.iload_n 1, 1) := by decide +kernel
theorem dX10_save_54 : decode cX10_save 54 = .ok (.iaload, 1) := by decide +kernel
theorem dX10_save_55 : decode cX10_save 55 = .ok (.iastore, 1) := by decide +kernel
theorem dX10_save_56 : decode cX10_save 56 = .ok (.aload_n 0, 1) := by decide +kernel
theorem dX10_save_57 : decode cX10_save 57 = .ok (.getfield 62, 3) := by decide +kernel
theorem dX10_save_60 : decode cX10_save 60 = .ok (.iload_n 1, 1) := by decide +kernel
theorem dX10_save_61 : decode cX10_save 61 = .ok (.aload_n 0, 1) := by decide +kernel
theorem dX10_save_62 : decode cX10_save 62 = .ok (.getfield 28, 3) := by decide +kernel
theorem dX10_save_65 : decode cX10_save 65 = .ok (.iload_n 1, 1) := by decide +kernel
theorem dX10_save_66 : decode cX10_save 66 = .ok (.iaload, 1) := by decide +kernel
theorem dX10_save_67 : decode cX10_save 67 = .ok (.iastore, 1) := by decide +kernel
theorem dX10_save_68 : decode cX10_save 68 = .ok (.aload_n 0, 1) := by decide +kernel
theorem dX10_save_69 : decode cX10_save 69 = .ok (.getfield 65, 3) := by decide +kernel
theorem dX10_save_72 : decode cX10_save 72 = .ok (.iload_n 1, 1) := by decide +kernel
theorem dX10_save_73 : decode cX10_save 73 = .ok (.aload_n 0, 1) := by decide +kernel
theorem dX10_save_74 : decode cX10_save 74 = .ok (.getfield 31, 3) := by decide +kernel
theorem dX10_save_77 : decode cX10_save 77 = .ok (.iload_n 1, 1) := by decide +kernel
theorem dX10_save_78 : decode cX10_save 78 = .ok (.iaload, 1) := by decide +kernel
theorem dX10_save_79 : decode cX10_save 79 = .ok (.iastore, 1) := by decide +kernel
theorem dX10_save_80 : decode cX10_save 80 = .ok (.iinc 1 1, 3) := by decide +kernel
theorem dX10_save_83 : decode cX10_save 83 = .ok (.goto (-57), 3) := by decide +kernel
theorem dX10_save_86 : decode cX10_save 86 = .ok (.return_, 1) := by decide +kernel
theorem dX10_load_0 : decode cX10_load 0 = .ok (.aload_n 0, 1) := by decide +kernel
theorem dX10_load_1 : decode cX10_load 1 = .ok (.aload_n 0, 1) := by decide +kernel
theorem dX10_load_2 : decode cX10_load 2 = .ok (.getfield 267, 3) := by decide +kernel
theorem dX10_load_5 : decode cX10_load 5 = .ok (.putfield 143, 3) := by decide +kernel
theorem dX10_load_8 : decode cX10_load 8 = .ok (.aload_n 0, 1) := by decide +kernel
theorem dX10_load_9 : decode cX10_load 9 = .ok (.aload_n 0, 1) := by decide +kernel
theorem dX10_load_10 : decode cX10_load 10 = .ok (.getfield 270, 3) := by decide +kernel
theorem dX10_load_13 : decode cX10_load 13 = .ok (.putfield 149, 3) := by decide +kernel
theorem dX10_load_16 : decode cX10_load 16 = .ok (.aload_n 0, 1) := by decide +kernel
theorem dX10_load_17 : decode cX10_load 17 = .ok (.aload_n 0, 1) := by decide +kernel
theorem dX10_load_18 : decode cX10_load 18 = .ok (.getfield 273, 3) := by decide +kernel
theorem dX10_load_21 : decode cX10_load 21 = .ok (.putfield 152, 3) := by decide +kernel
theorem dX10_load_24 : decode cX10_load 24 = .ok (.iconst 0, 1) := by decide +kernel
theorem dX10_load_25 : decode cX10_load 25 = .ok (.istore_n 1, 1) := by decide +kernel
theorem dX10_load_26 : decode cX10_load 26 = .ok (.iload_n 1, 1) := by decide +kernel
theorem dX10_load_27 : decode cX10_load 27 = .ok (.bipush 8, 2) := by decide +kernel
theorem dX10_load_29 : decode cX10_load 29 = .ok (.if_icmp .ge 57, 3) := by decide +kernel
theorem dX10_load_32 : decode cX10_load 32 = .ok (.aload_n 0, 1) := by decide +kernel
theorem dX10_load_33 : decode cX10_load 33 = .ok (.getfield 22, 3) := by decide +kernel
theorem dX10_load_36 : decode cX10_load 36 = .ok (.iload_n 1, 1) := by decide +kernel
theorem dX10_load_37 : decode cX10_load 37 = .ok (.aload_n 0, 1) := by decide +kernel
theorem dX10_load_38 : decode cX10_load 38 = .ok (.getfield 56, 3) := by decide +kernel
theorem dX10_load_41 : decode cX10_load 41 = .ok (.iload_n 1, 1) := by decide +kernel
theorem dX10_load_42 : decode cX10_load 42 = .ok (.iaload, 1) := by decide +kernel
theorem dX10_load_43 : decode cX10_load 43 = .ok (.iastore, 1) := by decide +kernel
theorem dX10_load_44 : decode cX10_load 44 = .ok (.aload_n 0, 1) := by decide +kernel
theorem dX10_load_45 : decode cX10_load 45 = .ok (.getfield 25, 3) := by decide +kernel
theorem dX10_load_48 : decode cX10_load 48 = .ok (.iload_n 1, 1) := by decide +kernel
theorem dX10_load_49 : decode cX10_load 49 = .ok (.aload_n 0, 1) := by decide +kernel
theorem dX10_load_50 : decode cX10_load 50 = .ok (.getfield 59, 3) := by decide +kernel
theorem dX10_load_53 : decode cX10_load 53 = .ok (.iload_n 1, 1) := by decide +kernel
theorem dX10_load_54 : decode cX10_load 54 = .ok (.iaload, 1) := by decide +kernel
theorem dX10_load_55 : decode cX10_load 55 = .ok (.iastore, 1) := by decide +kernel
theorem dX10_load_56 : decode cX10_load 56 = .ok (.aload_n 0, 1) := by decide +kernel
theorem dX10_load_57 : decode cX10_load 57 = .ok (.getfield 28, 3) := by decide +kernel
theorem dX10_load_60 : decode cX10_load 60 = .ok (.iload_n 1, 1) := by decide +kernel
theorem dX10_load_61 : decode cX10_load 61 = .ok (.aload_n 0, 1) := by decide +kernel
theorem dX10_load_62 : decode cX10_load 62 = .ok (.getfield 62, 3) := by decide +kernel
theorem dX10_load_65 : decode cX10_load 65 = .ok (.iload_n 1, 1) := by decide +kernel
theorem dX10_load_66 : decode cX10_load 66 = .ok (.iaload, 1) := by decide +kernel
theorem dX10_load_67 : decode cX10_load 67 = .ok (.iastore, 1) := by decide +kernel
theorem dX10_load_68 : decode cX10_load 68 = .ok (.aload_n 0, 1) := by decide +kernel
theorem dX10_load_69 : decode cX10_load 69 = .ok (.getfield 31, 3) := by decide +kernel
theorem dX10_load_72 : decode cX10_load 72 = .ok (.iload_n 1, 1) := by decide +kernel
theorem dX10_load_73 : decode cX10_load 73 = .ok (.aload_n 0, 1) := by decide +kernel
theorem dX10_load_74 : decode cX10_load 74 = .ok (.getfield 65, 3) := by decide +kernel
theorem dX10_load_77 : decode cX10_load 77 = .ok (.iload_n 1, 1) := by decide +kernel
theorem dX10_load_78 : decode cX10_load 78 = .ok (.iaload, 1) := by decide +kernel
theorem dX10_load_79 : decode cX10_load 79 = .ok (.iastore, 1) := by decide +kernel
theorem dX10_load_80 : decode cX10_load 80 = .ok (.iinc 1 1, 3) := by decide +kernel
theorem dX10_load_83 : decode cX10_load 83 = .ok (.goto (-57), 3) := by decide +kernel
theorem dX10_load_86 : decode cX10_load 86 = .ok (.return_, 1) := by decide +kernel
theorem dX10_nextFor_0 : decode cX10_nextFor 0 = .ok (.iconst (-1), 1) := by decide +kernel
theorem dX10_nextFor_1 : decode cX10_nextFor 1 = .ok (.istore_n 3, 1) := by decide +kernel
theorem dX10_nextFor_2 : decode cX10_nextFor 2 = .ok (.iconst 0, 1) := by decide +kernel
theorem dX10_nextFor_3 : decode cX10_nextFor 3 = .ok (.istore 4, 2) := by decide +kernel
theorem dX10_nextFor_5 : decode cX10_nextFor 5 = .ok (.iload 4, 2) := by decide +kernel
theorem dX10_nextFor_7 : decode cX10_nextFor 7 = .ok (.aload_n 0, 1) := by decide +kernel
theorem dX10_nextFor_8 : decode cX10_nextFor 8 = .ok (.getfield 140, 3) := by decide +kernel
theorem dX10_nextFor_11 : decode cX10_nextFor 11 = .ok (.if_icmp .ge 91, 3) := by decide +kernel
theorem dX10_nextFor_14 : decode cX10_nextFor 14 = .ok (.aload_n 0, 1) := by decide +kernel
theorem dX10_nextFor_15 : decode cX10_nextFor 15 = .ok (.iload_n 1, 1) := by decide +kernel
theorem dX10_nextFor_16 : decode cX10_nextFor 16 = .ok (.iload 4, 2) := by decide +kernel
theorem dX10_nextFor_18 : decode cX10_nextFor 18 = .ok (.invokevirtual 174, 3) := by decide +kernel
theorem dX10_nextFor_21 : decode cX10_nextFor 21 = .ok (.ifCond .eq 28, 3) := by decide +kernel
theorem dX10_nextFor_24 : decode cX10_nextFor 24 = .ok (.aload_n 0, 1) := by decide +kernel
theorem dX10_nextFor_25 : decode cX10_nextFor 25 = .ok (.getfield 34, 3) := by decide +kernel
theorem dX10_nextFor_28 : decode cX10_nextFor 28 = .ok (.iload 4, 2) := by decide +kernel
theorem dX10_nextFor_30 : decode cX10_nextFor 30 = .ok (.iaload, 1) := by decide +kernel
theorem dX10_nextFor_31 : decode cX10_nextFor 31 = .ok (.iconst (-1), 1) := by decide +kernel
theorem dX10_nextFor_32 : decode cX10_nextFor 32 = .ok (.if_icmp .ne 17, 3) := by decide +kernel
theorem dX10_nextFor_35 : decode cX10_nextFor 35 = .ok (.aload_n 0, 1) := by decide +kernel
theorem dX10_nextFor_36 : decode cX10_nextFor 36 = .ok (.iload_n 1, 1) := by decide +kernel
theorem dX10_nextFor_37 : decode cX10_nextFor 37 = .ok (.iload 4, 2) := by decide +kernel
theorem dX10_nextFor_39 : decode cX10_nextFor 39 = .ok (.invokevirtual 211, 3) := by decide +kernel
theorem dX10_nextFor_42 : decode cX10_nextFor 42 = .ok (.ifCond .ne 7, 3) := by decide +kernel
theorem dX10_nextFor_45 : decode cX10_nextFor 45 = .ok (.iconst 1, 1) := by decide +kernel
theorem dX10_nextFor_46 : decode cX10_nextFor 46 = .ok (.goto 4, 3) := by decide +kernel
theorem dX10_nextFor_49 : decode cX10_nextFor 49 = .ok (.iconst 0, 1) := by decide +kernel
theorem dX10_nextFor_50 : decode cX10_nextFor 50 = .ok (.istore 5, 2) := by decide +kernel
theorem dX10_nextFor_52 : decode cX10_nextFor 52 = .ok (.iload_n 3, 1) := by decide +kernel
theorem dX10_nextFor_53 : decode cX10_nextFor 53 = .ok (.iconst (-1), 1) := by decide +kernel
theorem dX10_nextFor_54 : decode cX10_nextFor 54 = .ok (.if_icmp .eq 18, 3) := by decide +kernel
theorem dX10_nextFor_57 : decode cX10_nextFor 57 = .ok (.iload_n 2, 1) := by decide +kernel
theorem dX10_nextFor_58 : decode cX10_nextFor 58 = .ok (.iconst 1, 1) := by decide +kernel
theorem dX10_nextFor_59 : decode cX10_nextFor 59 = .ok (.if_icmp .ne 17, 3) := by decide +kernel
theorem dX10_nextFor_62 : decode cX10_nextFor 62 = .ok (.aload_n 0, 1) := by decide +kernel
theorem dX10_nextFor_63 : decode cX10_nextFor 63 = .ok (.iload 4, 2) := by decide +kernel
theorem dX10_nextFor_65 : decode cX10_nextFor 65 = .ok (.iload_n 3, 1) := by decide +kernel
theorem dX10_nextFor_66 : decode cX10_nextFor 66 = .ok (.invokevirtual 236, 3) := by decide +kernel
theorem dX10_nextFor_69 : decode cX10_nextFor 69 = .ok (.ifCond .eq 7, 3) := by decide +kernel
theorem dX10_nextFor_72 : decode cX10_nextFor 72 = .ok (.iconst 1, 1) := by decide +kernel
theorem dX10_nextFor_73 : decode cX10_nextFor 73 = .ok (.goto 4, 3) := by decide +kernel
theorem dX10_nextFor_76 : decode cX10_nextFor 76 = .ok (.iconst 0, 1) := by decide +kernel
theorem dX10_nextFor_77 : decode cX10_nextFor 77 = .ok (.istore 6, 2) := by decide +kernel
theorem dX10_nextFor_79 : decode cX10_nextFor 79 = .ok (.iload 5, 2) := by decide +kernel
theorem dX10_nextFor_81 : decode cX10_nextFor 81 = .ok (.ifCond .eq 13, 3) := by decide +kernel
theorem dX10_nextFor_84 : decode cX10_nextFor 84 = .ok (.iload 6, 2) := by decide +kernel
theorem dX10_nextFor_86 : decode cX10_nextFor 86 = .ok (.ifCond .eq 8, 3) := by decide +kernel
theorem dX10_nextFor_89 : decode cX10_nextFor 89 = .ok (.iload 4, 2) := by decide +kernel
theorem dX10_nextFor_91 : decode cX10_nextFor 91 = .ok (.goto 4, 3) := by decide +kernel
theorem dX10_nextFor_94 : decode cX10_nextFor 94 = .ok (.iload_n 3, 1) := by decide +kernel
theorem dX10_nextFor_95 : decode cX10_nextFor 95 = .ok (.istore_n 3, 1) := by decide +kernel
theorem dX10_nextFor_96 : decode cX10_nextFor 96 = .ok (.iinc 4 1, 3) := by decide +kernel
theorem dX10_nextFor_99 : decode cX10_nextFor 99 = .ok (.goto (-94), 3) := by decide +kernel
theorem dX10_nextFor_102 : decode cX10_nextFor 102 = .ok (.iload_n 3, 1) := by decide +kernel
theorem dX10_nextFor_103 : decode cX10_nextFor 103 = .ok (.ireturn, 1) := by decide +kernel
theorem dX10_showThree_0 : decode cX10_showThree 0 = .ok (.iconst 0, 1) := by decide +kernel
theorem dX10_showThree_1 : decode cX10_showThree 1 = .ok (.istore_n 3, 1) := by decide +kernel
theorem dX10_showThree_2 : decode cX10_showThree 2 = .ok (.iload_n 3, 1) := by decide +kernel
theorem dX10_showThree_3 : decode cX10_showThree 3 = .ok (.iconst 3, 1) := by decide +kernel
theorem dX10_showThree_4 : decode cX10_showThree 4 = .ok (.if_icmp .ge 31, 3) := by decide +kernel
theorem dX10_showThree_7 : decode cX10_showThree 7 = .ok (.aload_n 0, 1) := by decide +kernel
theorem dX10_showThree_8 : decode cX10_showThree 8 = .ok (.iload_n 1, 1) := by decide +kernel
theorem dX10_showThree_9 : decode cX10_showThree 9 = .ok (.iload_n 2, 1) := by decide +kernel
theorem dX10_showThree_10 : decode cX10_showThree 10 = .ok (.invokevirtual 276, 3) := by decide +kernel
theorem dX10_showThree_13 : decode cX10_showThree 13 = .ok (.istore 4, 2) := by decide +kernel
theorem dX10_showThree_15 : decode cX10_showThree 15 = .ok (.iload 4, 2) := by decide +kernel
theorem dX10_showThree_17 : decode cX10_showThree 17 = .ok (.iconst (-1), 1) := by decide +kernel
theorem dX10_showThree_18 : decode cX10_showThree 18 = .ok (.if_icmp .eq 11, 3) := by decide +kernel
theorem dX10_showThree_21 : decode cX10_showThree 21 = .ok (.aload_n 0, 1) := by decide +kernel
theorem dX10_showThree_22 : decode cX10_showThree 22 = .ok (.iload_n 1, 1) := by decide +kernel
theorem dX10_showThree_23 : decode cX10_showThree 23 = .ok (.iload 4, 2) := by decide +kernel
theorem dX10_showThree_25 : decode cX10_showThree 25 = .ok (.invokevirtual 217, 3) := by decide +kernel
theorem dX10_showThree_28 : decode cX10_showThree 28 = .ok (.pop, 1) := by decide +kernel
theorem dX10_showThree_29 : decode cX10_showThree 29 = .ok (.iinc 3 1, 3) := by decide +kernel
theorem dX10_showThree_32 : decode cX10_showThree 32 = .ok (.goto (-30), 3) := by decide +kernel
theorem dX10_showThree_35 : decode cX10_showThree 35 = .ok (.return_, 1) := by decide +kernel
theorem dX10_matches_0 : decode cX10_matches 0 = .ok (.iconst 0, 1) := by decide +kernel
theorem dX10_matches_1 : decode cX10_matches 1 = .ok (.istore_n 1, 1) := by decide +kernel
theorem dX10_matches_2 : decode cX10_matches 2 = .ok (.iconst 0, 1) := by decide +kernel
theorem dX10_matches_3 : decode cX10_matches 3 = .ok (.istore_n 2, 1) := by decide +kernel
theorem dX10_matches_4 : decode cX10_matches 4 = .ok (.iload_n 2, 1) := by decide +kernel
theorem dX10_matches_5 : decode cX10_matches 5 = .ok (.aload_n 0, 1) := by decide +kernel
theorem dX10_matches_6 : decode cX10_matches 6 = .ok (.getfield 137, 3) := by decide +kernel
theorem dX10_matches_9 : decode cX10_matches 9 = .ok (.if_icmp .ge 20, 3) := by decide +kernel
theorem dX10_matches_12 : decode cX10_matches 12 = .ok (.iload_n 1, 1) := by decide +kernel
theorem dX10_matches_13 : decode cX10_matches 13 = .ok (.aload_n 0, 1) := by decide +kernel
theorem dX10_matches_14 : decode cX10_matches 14 = .ok (.iload_n 2, 1) := by decide +kernel
theorem dX10_matches_15 : decode cX10_matches 15 = .ok (.invokevirtual 192, 3) := by decide +kernel
theorem dX10_matches_18 : decode cX10_matches 18 = .ok (.invokestatic 279, 3) := by decide +kernel
theorem dX10_matches_21 : decode cX10_matches 21 = .ok (.iadd, 1) := by decide +kernel
theorem dX10_matches_22 : decode cX10_matches 22 = .ok (.istore_n 1, 1) := by decide +kernel
theorem dX10_matches_23 : decode cX10_matches 23 = .ok (.iinc 2 1, 3) := by decide +kernel
theorem dX10_matches_26 : decode cX10_matches 26 = .ok (.goto (-22), 3) := by decide +kernel
theorem dX10_matches_29 : decode cX10_matches 29 = .ok (.iload_n 1, 1) := by decide +kernel
theorem dX10_matches_30 : decode cX10_matches 30 = .ok (.ireturn, 1) := by decide +kernel
theorem dX10_comesNow_0 : decode cX10_comesNow 0 = .ok (.aload_n 0, 1) := by decide +kernel
theorem dX10_comesNow_1 : decode cX10_comesNow 1 = .ok (.invokevirtual 282, 3) := by decide +kernel
theorem dX10_comesNow_4 : decode cX10_comesNow 4 = .ok (.aload_n 0, 1) := by decide +kernel
theorem dX10_comesNow_5 : decode cX10_comesNow 5 = .ok (.iload_n 2, 1) := by decide +kernel
theorem dX10_comesNow_6 : decode cX10_comesNow 6 = .ok (.putfield 143, 3) := by decide +kernel
theorem dX10_comesNow_9 : decode cX10_comesNow 9 = .ok (.iconst 0, 1) := by decide +kernel
theorem dX10_comesNow_10 : decode cX10_comesNow 10 = .ok (.istore 4, 2) := by decide +kernel
theorem dX10_comesNow_12 : decode cX10_comesNow 12 = .ok (.iload 4, 2) := by decide +kernel
theorem dX10_comesNow_14 : decode cX10_comesNow 14 = .ok (.aload_n 0, 1) := by decide +kernel
theorem dX10_comesNow_15 : decode cX10_comesNow 15 = .ok (.getfield 140, 3) := by decide +kernel
theorem dX10_comesNow_18 : decode cX10_comesNow 18 = .ok (.if_icmp .ge 33, 3) := by decide +kernel
theorem dX10_comesNow_21 : decode cX10_comesNow 21 = .ok (.aload_n 0, 1) := by decide +kernel
theorem dX10_comesNow_22 : decode cX10_comesNow 22 = .ok (.getfield 22, 3) := by decide +kernel
theorem dX10_comesNow_25 : decode cX10_comesNow 25 = .ok (.iload 4, 2) := by decide +kernel
theorem dX10_comesNow_27 : decode cX10_comesNow 27 = .ok (.iconst 0, 1) := by decide +kernel
theorem dX10_comesNow_28 : decode cX10_comesNow 28 = .ok (.iastore, 1) := by decide +kernel
theorem dX10_comesNow_29 : decode cX10_comesNow 29 = .ok (.aload_n 0, 1) := by decide +kernel
theorem dX10_comesNow_30 : decode cX10_comesNow 30 = .ok (.getfield 25, 3) := by decide +kernel
theorem dX10_comesNow_33 : decode cX10_comesNow 33 = .ok (.iload 4, 2) := by decide +kernel
theorem dX10_comesNow_35 : decode cX10_comesNow 35 = .ok (.iconst 0, 1) := by decide +kernel
theorem dX10_comesNow_36 : decode cX10_comesNow 36 = .ok (.iastore, 1) := by decide +kernel
theorem dX10_comesNow_37 : decode cX10_comesNow 37 = .ok (.aload_n 0, 1) := by decide +kernel
theorem dX10_comesNow_38 : decode cX10_comesNow 38 = .ok (.getfield 28, 3) := by decide +kernel
theorem dX10_comesNow_41 : decode cX10_comesNow 41 = .ok (.iload 4, 2) := by decide +kernel
theorem dX10_comesNow_43 : decode cX10_comesNow 43 = .ok (.iconst 0, 1) := by decide +kernel
theorem dX10_comesNow_44 : decode cX10_comesNow 44 = .ok (.iastore, 1) := by decide +kernel
theorem dX10_comesNow_45 : decode cX10_comesNow 45 = .ok (.iinc 4 1, 3) := by decide +kernel
theorem dX10_comesNow_48 : decode cX10_comesNow 48 = .ok (.goto (-36), 3) := by decide +kernel
theorem dX10_comesNow_51 : decode cX10_comesNow 51 = .ok (.iconst 0, 1) := by decide +kernel
theorem dX10_comesNow_52 : decode cX10_comesNow 52 = .ok (.istore 4, 2) := by decide +kernel
theorem dX10_comesNow_54 : decode cX10_comesNow 54 = .ok (.iload 4, 2) := by decide +kernel
theorem dX10_comesNow_56 : decode cX10_comesNow 56 = .ok (.iload_n 1, 1) := by decide +kernel
theorem dX10_comesNow_57 : decode cX10_comesNow 57 = .ok (.if_icmp .ge 69, 3) := by decide +kernel
theorem dX10_comesNow_60 : decode cX10_comesNow 60 = .ok (.iconst 0, 1) := by decide +kernel
theorem dX10_comesNow_61 : decode cX10_comesNow 61 = .ok (.istore 5, 2) := by decide +kernel
theorem dX10_comesNow_63 : decode cX10_comesNow 63 = .ok (.iload 5, 2) := by decide +kernel
theorem dX10_comesNow_65 : decode cX10_comesNow 65 = .ok (.aload_n 0, 1) := by decide +kernel
theorem dX10_comesNow_66 : decode cX10_comesNow 66 = .ok (.getfield 140, 3) := by decide +kernel
theorem dX10_comesNow_69 : decode cX10_comesNow 69 = .ok (.if_icmp .ge 17, 3) := by decide +kernel
theorem dX10_comesNow_72 : decode cX10_comesNow 72 = .ok (.aload_n 0, 1) := by decide +kernel
theorem dX10_comesNow_73 : decode cX10_comesNow 73 = .ok (.getfield 31, 3) := by decide +kernel
theorem dX10_comesNow_76 : decode cX10_comesNow 76 = .ok (.iload 5, 2) := by decide +kernel
theorem dX10_comesNow_78 : decode cX10_comesNow 78 = .ok (.iconst 0, 1) := by decide +kernel
theorem dX10_comesNow_79 : decode cX10_comesNow 79 = .ok (.iastore, 1) := by decide +kernel
theorem dX10_comesNow_80 : decode cX10_comesNow 80 = .ok (.iinc 5 1, 3) := by decide +kernel
theorem dX10_comesNow_83 : decode cX10_comesNow 83 = .ok (.goto (-20), 3) := by decide +kernel
theorem dX10_comesNow_86 : decode cX10_comesNow 86 = .ok (.iconst 0, 1) := by decide +kernel
theorem dX10_comesNow_87 : decode cX10_comesNow 87 = .ok (.istore 5, 2) := by decide +kernel
theorem dX10_comesNow_89 : decode cX10_comesNow 89 = .ok (.iload 5, 2) := by decide +kernel
theorem dX10_comesNow_91 : decode cX10_comesNow 91 = .ok (.aload_n 0, 1) := by decide +kernel
theorem dX10_comesNow_92 : decode cX10_comesNow 92 = .ok (.getfield 140, 3) := by decide +kernel
theorem dX10_comesNow_95 : decode cX10_comesNow 95 = .ok (.if_icmp .ge 25, 3) := by decide +kernel
theorem dX10_comesNow_98 : decode cX10_comesNow 98 = .ok (.aload_n 0, 1) := by decide +kernel
theorem dX10_comesNow_99 : decode cX10_comesNow 99 = .ok (.iload 5, 2) := by decide +kernel
theorem dX10_comesNow_101 : decode cX10_comesNow 101 = .ok (.invokevirtual 214, 3) := by decide +kernel
theorem dX10_comesNow_104 : decode cX10_comesNow 104 = .ok (.ifCond .eq 10, 3) := by decide +kernel
theorem dX10_comesNow_107 : decode cX10_comesNow 107 = .ok (.aload_n 0, 1) := by decide +kernel
theorem dX10_comesNow_108 : decode cX10_comesNow 108 = .ok (.iload 5, 2) := by decide +kernel
theorem dX10_comesNow_110 : decode cX10_comesNow 110 = .ok (.iload_n 3, 1) := by decide +kernel
theorem dX10_comesNow_111 : decode cX10_comesNow 111 = .ok (.invokevirtual 285, 3) := by decide +kernel
theorem dX10_comesNow_114 : decode cX10_comesNow 114 = .ok (.iinc 5 1, 3) := by decide +kernel
theorem dX10_comesNow_117 : decode cX10_comesNow 117 = .ok (.goto (-28), 3) := by decide +kernel
theorem dX10_comesNow_120 : decode cX10_comesNow 120 = .ok (.iinc 4 1, 3) := by decide +kernel
theorem dX10_comesNow_123 : decode cX10_comesNow 123 = .ok (.goto (-69), 3) := by decide +kernel
theorem dX10_comesNow_126 : decode cX10_comesNow 126 = .ok (.aload_n 0, 1) := by decide +kernel
theorem dX10_comesNow_127 : decode cX10_comesNow 127 = .ok (.invokevirtual 288, 3) := by decide +kernel
theorem dX10_comesNow_130 : decode cX10_comesNow 130 = .ok (.istore 4, 2) := by decide +kernel
theorem dX10_comesNow_132 : decode cX10_comesNow 132 = .ok (.aload_n 0, 1) := by decide +kernel
theorem dX10_comesNow_133 : decode cX10_comesNow 133 = .ok (.invokevirtual 291, 3) := by decide +kernel
theorem dX10_comesNow_136 : decode cX10_comesNow 136 = .ok (.iload 4, 2) := by decide +kernel
theorem dX10_comesNow_138 : decode cX10_comesNow 138 = .ok (.ireturn, 1) := by decide +kernel
theorem dX10_comes_0 : decode cX10_comes 0 = .ok (.iload_n 1, 1) := by decide +kernel
theorem dX10_comes_1 : decode cX10_comes 1 = .ok (.iconst 1, 1) := by decide +kernel
theorem dX10_comes_2 : decode cX10_comes 2 = .ok (.bipush 8, 2) := by decide +kernel
theorem dX10_comes_4 : decode cX10_comes 4 = .ok (.invokestatic 98, 3) := by decide +kernel
theorem dX10_comes_7 : decode cX10_comes 7 = .ok (.ifCond .eq 22, 3) := by decide +kernel
theorem dX10_comes_10 : decode cX10_comes 10 = .ok (.iload_n 2, 1) := by decide +kernel
theorem dX10_comes_11 : decode cX10_comes 11 = .ok (.iconst 1, 1) := by decide +kernel
theorem dX10_comes_12 : decode cX10_comes 12 = .ok (.bipush 9, 2) := by decide +kernel
theorem dX10_comes_14 : decode cX10_comes 14 = .ok (.invokestatic 98, 3) := by decide +kernel
theorem dX10_comes_17 : decode cX10_comes 17 = .ok (.ifCond .eq 12, 3) := by decide +kernel
theorem dX10_comes_20 : decode cX10_comes 20 = .ok (.iload_n 3, 1) := by decide +kernel
theorem dX10_comes_21 : decode cX10_comes 21 = .ok (.iconst 0, 1) := by decide +kernel
theorem dX10_comes_22 : decode cX10_comes 22 = .ok (.iconst 1, 1) := by decide +kernel
theorem dX10_comes_23 : decode cX10_comes 23 = .ok (.invokestatic 98, 3) := by decide +kernel
theorem dX10_comes_26 : decode cX10_comes 26 = .ok (.ifCond .ne 6, 3) := by decide +kernel
theorem dX10_comes_29 : decode cX10_comes 29 = .ok (.bipush (-102), 2) := by decide +kernel
theorem dX10_comes_31 : decode cX10_comes 31 = .ok (.ireturn, 1) := by decide +kernel
theorem dX10_comes_32 : decode cX10_comes 32 = .ok (.aload_n 0, 1) := by decide +kernel
theorem dX10_comes_33 : decode cX10_comes 33 = .ok (.getfield 140, 3) := by decide +kernel
theorem dX10_comes_36 : decode cX10_comes 36 = .ok (.ifCond .ne 8, 3) := by decide +kernel
theorem dX10_comes_39 : decode cX10_comes 39 = .ok (.bipush (-103), 2) := by decide +kernel
theorem dX10_comes_41 : decode cX10_comes 41 = .ok (.goto 10, 3) := by decide +kernel
theorem dX10_comes_44 : decode cX10_comes 44 = .ok (.aload_n 0, 1) := by decide +kernel
theorem dX10_comes_45 : decode cX10_comes 45 = .ok (.iload_n 1, 1) := by decide +kernel
theorem dX10_comes_46 : decode cX10_comes 46 = .ok (.iload_n 2, 1) := by decide +kernel
theorem dX10_comes_47 : decode cX10_comes 47 = .ok (.iload_n 3, 1) := by decide +kernel
theorem dX10_comes_48 : decode cX10_comes 48 = .ok (.invokevirtual 294, 3) := by decide +kernel
theorem dX10_comes_51 : decode cX10_comes 51 = .ok (.ireturn, 1) := by decide +kernel
theorem dX10_bestNow_0 : decode cX10_bestNow 0 = .ok (.iconst 1, 1) := by decide +kernel
theorem dX10_bestNow_1 : decode cX10_bestNow 1 = .ok (.istore_n 3, 1) := by decide +kernel
theorem dX10_bestNow_2 : decode cX10_bestNow 2 = .ok (.iconst (-1), 1) := by decide +kernel
theorem dX10_bestNow_3 : decode cX10_bestNow 3 = .ok (.istore 4, 2) := by decide +kernel
theorem dX10_bestNow_5 : decode cX10_bestNow 5 = .ok (.iconst 1, 1) := by decide +kernel
theorem dX10_bestNow_6 : decode cX10_bestNow 6 = .ok (.istore 5, 2) := by decide +kernel
theorem dX10_bestNow_8 : decode cX10_bestNow 8 = .ok (.iload 5, 2) := by decide +kernel
theorem dX10_bestNow_10 : decode cX10_bestNow 10 = .ok (.bipush 9, 2) := by decide +kernel
theorem dX10_bestNow_12 : decode cX10_bestNow 12 = .ok (.if_icmp .gt 49, 3) := by decide +kernel
theorem dX10_bestNow_15 : decode cX10_bestNow 15 = .ok (.aload_n 0, 1) := by decide +kernel
theorem dX10_bestNow_16 : decode cX10_bestNow 16 = .ok (.iload_n 1, 1) := by decide +kernel
theorem dX10_bestNow_17 : decode cX10_bestNow 17 = .ok (.iload 5, 2) := by decide +kernel
theorem dX10_bestNow_19 : decode cX10_bestNow 19 = .ok (.iload_n 2, 1) := by decide +kernel
theorem dX10_bestNow_20 : decode cX10_bestNow 20 = .ok (.invokevirtual 294, 3) := by decide +kernel
theorem dX10_bestNow_23 : decode cX10_bestNow 23 = .ok (.istore 6, 2) := by decide +kernel
theorem dX10_bestNow_25 : decode cX10_bestNow 25 = .ok (.iload 6, 2) := by decide +kernel
theorem dX10_bestNow_27 : decode cX10_bestNow 27 = .ok (.iload 4, 2) := by decide +kernel
theorem dX10_bestNow_29 : decode cX10_bestNow 29 = .ok (.if_icmp .le 8, 3) := by decide +kernel
theorem dX10_bestNow_32 : decode cX10_bestNow 32 = .ok (.iload 5, 2) := by decide +kernel
theorem dX10_bestNow_34 : decode cX10_bestNow 34 = .ok (.goto 4, 3) := by decide +kernel
theorem dX10_bestNow_37 : decode cX10_bestNow 37 = .ok (.iload_n 3, 1) := by decide +kernel
theorem dX10_bestNow_38 : decode cX10_bestNow 38 = .ok (.istore_n 3, 1) := by decide +kernel
theorem dX10_bestNow_39 : decode cX10_bestNow 39 = .ok (.iload 6, 2) := by decide +kernel
theorem dX10_bestNow_41 : decode cX10_bestNow 41 = .ok (.iload 4, 2) := by decide +kernel
theorem dX10_bestNow_43 : decode cX10_bestNow 43 = .ok (.if_icmp .le 8, 3) := by decide +kernel
theorem dX10_bestNow_46 : decode cX10_bestNow 46 = .ok (.iload 6, 2) := by decide +kernel
theorem dX10_bestNow_48 : decode cX10_bestNow 48 = .ok (.goto 5, 3) := by decide +kernel
theorem dX10_bestNow_51 : decode cX10_bestNow 51 = .ok (.iload 4, 2) := by decide +kernel
theorem dX10_bestNow_53 : decode cX10_bestNow 53 = .ok (.istore 4, 2) := by decide +kernel
theorem dX10_bestNow_55 : decode cX10_bestNow 55 = .ok (.iinc 5 1, 3) := by decide +kernel
theorem dX10_bestNow_58 : decode cX10_bestNow 58 = .ok (.goto (-50), 3) := by decide +kernel
theorem dX10_bestNow_61 : decode cX10_bestNow 61 = .ok (.iload_n 3, 1) := by decide +kernel
theorem dX10_bestNow_62 : decode cX10_bestNow 62 = .ok (.ireturn, 1) := by decide +kernel
theorem dX10_best_0 : decode cX10_best 0 = .ok (.iload_n 1, 1) := by decide +kernel
theorem dX10_best_1 : decode cX10_best 1 = .ok (.iconst 1, 1) := by decide +kernel
theorem dX10_best_2 : decode cX10_best 2 = .ok (.bipush 8, 2) := by decide +kernel
theorem dX10_best_4 : decode cX10_best 4 = .ok (.invokestatic 98, 3) := by decide +kernel
theorem dX10_best_7 : decode cX10_best 7 = .ok (.ifCond .eq 12, 3) := by decide +kernel
theorem dX10_best_10 : decode cX10_best 10 = .ok (.iload_n 2, 1) := by decide +kernel
theorem dX10_best_11 : decode cX10_best 11 = .ok (.iconst 0, 1) := by decide +kernel
theorem dX10_best_12 : decode cX10_best 12 = .ok (.iconst 1, 1) := by decide +kernel
theorem dX10_best_13 : decode cX10_best 13 = .ok (.invokestatic 98, 3) := by decide +kernel
theorem dX10_best_16 : decode cX10_best 16 = .ok (.ifCond .ne 6, 3) := by decide +kernel
theorem dX10_best_19 : decode cX10_best 19 = .ok (.bipush (-102), 2) := by decide +kernel
theorem dX10_best_21 : decode cX10_best 21 = .ok (.ireturn, 1) := by decide +kernel
theorem dX10_best_22 : decode cX10_best 22 = .ok (.aload_n 0, 1) := by decide +kernel
theorem dX10_best_23 : decode cX10_best 23 = .ok (.getfield 140, 3) := by decide +kernel
theorem dX10_best_26 : decode cX10_best 26 = .ok (.ifCond .ne 8, 3) := by decide +kernel
theorem dX10_best_29 : decode cX10_best 29 = .ok (.bipush (-103), 2) := by decide +kernel
theorem dX10_best_31 : decode cX10_best 31 = .ok (.goto 9, 3) := by decide +kernel
theorem dX10_best_34 : decode cX10_best 34 = .ok (.aload_n 0, 1) := by decide +kernel
theorem dX10_best_35 : decode cX10_best 35 = .ok (.iload_n 1, 1) := by decide +kernel
theorem dX10_best_36 : decode cX10_best 36 = .ok (.iload_n 2, 1) := by decide +kernel
theorem dX10_best_37 : decode cX10_best 37 = .ok (.invokevirtual 298, 3) := by decide +kernel
theorem dX10_best_40 : decode cX10_best 40 = .ok (.ireturn, 1) := by decide +kernel
theorem dX10_likely_0 : decode cX10_likely 0 = .ok (.iload_n 1, 1) := by decide +kernel
theorem dX10_likely_1 : decode cX10_likely 1 = .ok (.ifCond .ne 7, 3) := by decide +kernel
theorem dX10_likely_4 : decode cX10_likely 4 = .ok (.sipush 420, 3) := by decide +kernel
theorem dX10_likely_7 : decode cX10_likely 7 = .ok (.ireturn, 1) := by decide +kernel
theorem dX10_likely_8 : decode cX10_likely 8 = .ok (.iconst 0, 1) := by decide +kernel
theorem dX10_likely_9 : decode cX10_likely 9 = .ok (.istore_n 2, 1) := by decide +kernel
theorem dX10_likely_10 : decode cX10_likely 10 = .ok (.iload_n 1, 1) := by decide +kernel
theorem dX10_likely_11 : decode cX10_likely 11 = .ok (.iconst 1, 1) := by decide +kernel
theorem dX10_likely_12 : decode cX10_likely 12 = .ok (.iadd, 1) := by decide +kernel
theorem dX10_likely_13 : decode cX10_likely 13 = .ok (.istore_n 3, 1) := by decide +kernel
theorem dX10_likely_14 : decode cX10_likely 14 = .ok (.iload_n 3, 1) := by decide +kernel
theorem dX10_likely_15 : decode cX10_likely 15 = .ok (.iload_n 0, 1) := by decide +kernel
theorem dX10_likely_16 : decode cX10_likely 16 = .ok (.if_icmp .gt 19, 3) := by decide +kernel
theorem dX10_likely_19 : decode cX10_likely 19 = .ok (.iload_n 2, 1) := by decide +kernel
theorem dX10_likely_20 : decode cX10_likely 20 = .ok (.sipush 420, 3) := by decide +kernel
theorem dX10_likely_23 : decode cX10_likely 23 = .ok (.iload_n 3, 1) := by decide +kernel
theorem dX10_likely_24 : decode cX10_likely 24 = .ok (.iconst 1, 1) := by decide +kernel
theorem dX10_likely_25 : decode cX10_likely 25 = .ok (.isub, 1) := by decide +kernel
theorem dX10_likely_26 : decode cX10_likely 26 = .ok (.idiv, 1) := by decide +kernel
theorem dX10_likely_27 : decode cX10_likely 27 = .ok (.iadd, 1) := by decide +kernel
theorem dX10_likely_28 : decode cX10_likely 28 = .ok (.istore_n 2, 1) := by decide +kernel
theorem dX10_likely_29 : decode cX10_likely 29 = .ok (.iinc 3 1, 3) := by decide +kernel
theorem dX10_likely_32 : decode cX10_likely 32 = .ok (.goto (-18), 3) := by decide +kernel
theorem dX10_likely_35 : decode cX10_likely 35 = .ok (.iload_n 1, 1) := by decide +kernel
theorem dX10_likely_36 : decode cX10_likely 36 = .ok (.iload_n 2, 1) := by decide +kernel
theorem dX10_likely_37 : decode cX10_likely 37 = .ok (.imul, 1) := by decide +kernel
theorem dX10_likely_38 : decode cX10_likely 38 = .ok (.ireturn, 1) := by decide +kernel
theorem dX10_waiting_0 : decode cX10_waiting 0 = .ok (.iload_n 1, 1) := by decide +kernel
theorem dX10_waiting_1 : decode cX10_waiting 1 = .ok (.iconst 2, 1) := by decide +kernel
theorem dX10_waiting_2 : decode cX10_waiting 2 = .ok (.bipush 8, 2) := by decide +kernel
theorem dX10_waiting_4 : decode cX10_waiting 4 = .ok (.invokestatic 98, 3) := by decide +kernel
theorem dX10_waiting_7 : decode cX10_waiting 7 = .ok (.ifCond .eq 23, 3) := by decide +kernel
theorem dX10_waiting_10 : decode cX10_waiting 10 = .ok (.iload_n 2, 1) := by decide +kernel
theorem dX10_waiting_11 : decode cX10_waiting 11 = .ok (.iconst 0, 1) := by decide +kernel
theorem dX10_waiting_12 : decode cX10_waiting 12 = .ok (.iload_n 1, 1) := by decide +kernel
theorem dX10_waiting_13 : decode cX10_waiting 13 = .ok (.iconst 1, 1) := by decide +kernel
theorem dX10_waiting_14 : decode cX10_waiting 14 = .ok (.isub, 1) := by decide +kernel
theorem dX10_waiting_15 : decode cX10_waiting 15 = .ok (.invokestatic 98, 3) := by decide +kernel
theorem dX10_waiting_18 : decode cX10_waiting 18 = .ok (.ifCond .eq 12, 3) := by decide +kernel
theorem dX10_waiting_21 : decode cX10_waiting 21 = .ok (.iload_n 3, 1) := by decide +kernel
theorem dX10_waiting_22 : decode cX10_waiting 22 = .ok (.iconst 0, 1) := by decide +kernel
theorem dX10_waiting_23 : decode cX10_waiting 23 = .ok (.iconst 1, 1) := by decide +kernel
theorem dX10_waiting_24 : decode cX10_waiting 24 = .ok (.invokestatic 98, 3) := by decide +kernel
theorem dX10_waiting_27 : decode cX10_waiting 27 = .ok (.ifCond .ne 6, 3) := by decide +kernel
theorem dX10_waiting_30 : decode cX10_waiting 30 = .ok (.bipush (-102), 2) := by decide +kernel
theorem dX10_waiting_32 : decode cX10_waiting 32 = .ok (.ireturn, 1) := by decide +kernel
theorem dX10_waiting_33 : decode cX10_waiting 33 = .ok (.iload_n 1, 1) := by decide +kernel
theorem dX10_waiting_34 : decode cX10_waiting 34 = .ok (.iload_n 2, 1) := by decide +kernel
theorem dX10_waiting_35 : decode cX10_waiting 35 = .ok (.invokestatic 301, 3) := by decide +kernel
theorem dX10_waiting_38 : decode cX10_waiting 38 = .ok (.istore 4, 2) := by decide +kernel
theorem dX10_waiting_40 : decode cX10_waiting 40 = .ok (.sipush 420, 3) := by decide +kernel
theorem dX10_waiting_43 : decode cX10_waiting 43 = .ok (.iload_n 1, 1) := by decide +kernel
theorem dX10_waiting_44 : decode cX10_waiting 44 = .ok (.imul, 1) := by decide +kernel
theorem dX10_waiting_45 : decode cX10_waiting 45 = .ok (.istore 5, 2) := by decide +kernel
theorem dX10_waiting_47 : decode cX10_waiting 47 = .ok (.iload 4, 2) := by decide +kernel
theorem dX10_waiting_49 : decode cX10_waiting 49 = .ok (.iload 5, 2) := by decide +kernel
theorem dX10_waiting_51 : decode cX10_waiting 51 = .ok (.invokestatic 304, 3) := by decide +kernel
theorem dX10_waiting_54 : decode cX10_waiting 54 = .ok (.istore 6, 2) := by decide +kernel
theorem dX10_waiting_56 : decode cX10_waiting 56 = .ok (.iload_n 3, 1) := by decide +kernel
theorem dX10_waiting_57 : decode cX10_waiting 57 = .ok (.ifCond .ne 11, 3) := by decide +kernel
theorem dX10_waiting_60 : decode cX10_waiting 60 = .ok (.iload 4, 2) := by decide +kernel
theorem dX10_waiting_62 : decode cX10_waiting 62 = .ok (.iload 6, 2) := by decide +kernel
theorem dX10_waiting_64 : decode cX10_waiting 64 = .ok (.idiv, 1) := by decide +kernel
theorem dX10_waiting_65 : decode cX10_waiting 65 = .ok (.goto 8, 3) := by decide +kernel
theorem dX10_waiting_68 : decode cX10_waiting 68 = .ok (.iload 5, 2) := by decide +kernel
theorem dX10_waiting_70 : decode cX10_waiting 70 = .ok (.iload 6, 2) := by decide +kernel
theorem dX10_waiting_72 : decode cX10_waiting 72 = .ok (.idiv, 1) := by decide +kernel
theorem dX10_waiting_73 : decode cX10_waiting 73 = .ok (.ireturn, 1) := by decide +kernel
theorem dX10_howMany_0 : decode cX10_howMany 0 = .ok (.iload_n 1, 1) := by decide +kernel
theorem dX10_howMany_1 : decode cX10_howMany 1 = .ok (.iconst 2, 1) := by decide +kernel
theorem dX10_howMany_2 : decode cX10_howMany 2 = .ok (.bipush 8, 2) := by decide +kernel
theorem dX10_howMany_4 : decode cX10_howMany 4 = .ok (.invokestatic 98, 3) := by decide +kernel
theorem dX10_howMany_7 : decode cX10_howMany 7 = .ok (.ifCond .ne 6, 3) := by decide +kernel
theorem dX10_howMany_10 : decode cX10_howMany 10 = .ok (.bipush (-102), 2) := by decide +kernel
theorem dX10_howMany_12 : decode cX10_howMany 12 = .ok (.ireturn, 1) := by decide +kernel
theorem dX10_howMany_13 : decode cX10_howMany 13 = .ok (.iconst 0, 1) := by decide +kernel
theorem dX10_howMany_14 : decode cX10_howMany 14 = .ok (.istore_n 2, 1) := by decide +kernel
theorem dX10_howMany_15 : decode cX10_howMany 15 = .ok (.iconst 1, 1) := by decide +kernel
theorem dX10_howMany_16 : decode cX10_howMany 16 = .ok (.istore_n 3, 1) := by decide +kernel
theorem dX10_howMany_17 : decode cX10_howMany 17 = .ok (.iload_n 3, 1) := by decide +kernel
theorem dX10_howMany_18 : decode cX10_howMany 18 = .ok (.iload_n 1, 1) := by decide +kernel
theorem dX10_howMany_19 : decode cX10_howMany 19 = .ok (.if_icmp .ge 28, 3) := by decide +kernel
theorem dX10_howMany_22 : decode cX10_howMany 22 = .ok (.iload_n 1, 1) := by decide +kernel
theorem dX10_howMany_23 : decode cX10_howMany 23 = .ok (.iload_n 3, 1) := by decide +kernel
theorem dX10_howMany_24 : decode cX10_howMany 24 = .ok (.invokestatic 301, 3) := by decide +kernel
theorem dX10_howMany_27 : decode cX10_howMany 27 = .ok (.iload_n 1, 1) := by decide +kernel
theorem dX10_howMany_28 : decode cX10_howMany 28 = .ok (.iload_n 2, 1) := by decide +kernel
theorem dX10_howMany_29 : decode cX10_howMany 29 = .ok (.invokestatic 301, 3) := by decide +kernel
theorem dX10_howMany_32 : decode cX10_howMany 32 = .ok (.if_icmp .le 7, 3) := by decide +kernel
theorem dX10_howMany_35 : decode cX10_howMany 35 = .ok (.iload_n 3, 1) := by decide +kernel
theorem dX10_howMany_36 : decode cX10_howMany 36 = .ok (.goto 4, 3) := by decide +kernel
theorem dX10_howMany_39 : decode cX10_howMany 39 = .ok (.iload_n 2, 1) := by decide +kernel
theorem dX10_howMany_40 : decode cX10_howMany 40 = .ok (.istore_n 2, 1) := by decide +kernel
theorem dX10_howMany_41 : decode cX10_howMany 41 = .ok (.iinc 3 1, 3) := by decide +kernel
theorem dX10_howMany_44 : decode cX10_howMany 44 = .ok (.goto (-27), 3) := by decide +kernel
theorem dX10_howMany_47 : decode cX10_howMany 47 = .ok (.iload_n 2, 1) := by decide +kernel
theorem dX10_howMany_48 : decode cX10_howMany 48 = .ok (.ireturn, 1) := by decide +kernel
theorem dX10_see_0 : decode cX10_see 0 = .ok (.aload_n 0, 1) := by decide +kernel
theorem dX10_see_1 : decode cX10_see 1 = .ok (.iload_n 1, 1) := by decide +kernel
theorem dX10_see_2 : decode cX10_see 2 = .ok (.iload_n 2, 1) := by decide +kernel
theorem dX10_see_3 : decode cX10_see 3 = .ok (.invokevirtual 208, 3) := by decide +kernel
theorem dX10_see_6 : decode cX10_see 6 = .ok (.ifCond .ne 6, 3) := by decide +kernel
theorem dX10_see_9 : decode cX10_see 9 = .ok (.bipush (-101), 2) := by decide +kernel
theorem dX10_see_11 : decode cX10_see 11 = .ok (.ireturn, 1) := by decide +kernel
theorem dX10_see_12 : decode cX10_see 12 = .ok (.aload_n 0, 1) := by decide +kernel
theorem dX10_see_13 : decode cX10_see 13 = .ok (.iload_n 1, 1) := by decide +kernel
theorem dX10_see_14 : decode cX10_see 14 = .ok (.iload_n 2, 1) := by decide +kernel
theorem dX10_see_15 : decode cX10_see 15 = .ok (.invokevirtual 174, 3) := by decide +kernel
theorem dX10_see_18 : decode cX10_see 18 = .ok (.ifCond .ne 6, 3) := by decide +kernel
theorem dX10_see_21 : decode cX10_see 21 = .ok (.bipush (-103), 2) := by decide +kernel
theorem dX10_see_23 : decode cX10_see 23 = .ok (.ireturn, 1) := by decide +kernel
theorem dX10_see_24 : decode cX10_see 24 = .ok (.aload_n 0, 1) := by decide +kernel
theorem dX10_see_25 : decode cX10_see 25 = .ok (.getfield 164, 3) := by decide +kernel
theorem dX10_see_28 : decode cX10_see 28 = .ok (.bipush 8, 2) := by decide +kernel
theorem dX10_see_30 : decode cX10_see 30 = .ok (.if_icmp .ne 6, 3) := by decide +kernel
theorem dX10_see_33 : decode cX10_see 33 = .ok (.bipush (-104), 2) := by decide +kernel
theorem dX10_see_35 : decode cX10_see 35 = .ok (.ireturn, 1) := by decide +kernel
theorem dX10_see_36 : decode cX10_see 36 = .ok (.aload_n 0, 1) := by decide +kernel
theorem dX10_see_37 : decode cX10_see 37 = .ok (.getfield 37, 3) := by decide +kernel
theorem dX10_see_40 : decode cX10_see 40 = .ok (.aload_n 0, 1) := by decide +kernel
theorem dX10_see_41 : decode cX10_see 41 = .ok (.getfield 164, 3) := by decide +kernel
theorem dX10_see_44 : decode cX10_see 44 = .ok (.iload_n 1, 1) := by decide +kernel
theorem dX10_see_45 : decode cX10_see 45 = .ok (.iastore, 1) := by decide +kernel
theorem dX10_see_46 : decode cX10_see 46 = .ok (.aload_n 0, 1) := by decide +kernel
theorem dX10_see_47 : decode cX10_see 47 = .ok (.getfield 40, 3) := by decide +kernel
theorem dX10_see_50 : decode cX10_see 50 = .ok (.aload_n 0, 1) := by decide +kernel
theorem dX10_see_51 : decode cX10_see 51 = .ok (.getfield 164, 3) := by decide +kernel
theorem dX10_see_54 : decode cX10_see 54 = .ok (.iload_n 2, 1) := by decide +kernel
theorem dX10_see_55 : decode cX10_see 55 = .ok (.iastore, 1) := by decide +kernel
theorem dX10_see_56 : decode cX10_see 56 = .ok (.aload_n 0, 1) := by decide +kernel
theorem dX10_see_57 : decode cX10_see 57 = .ok (.getfield 43, 3) := by decide +kernel
theorem dX10_see_60 : decode cX10_see 60 = .ok (.aload_n 0, 1) := by decide +kernel
theorem dX10_see_61 : decode cX10_see 61 = .ok (.getfield 164, 3) := by decide +kernel
theorem dX10_see_64 : decode cX10_see 64 = .ok (.iload_n 3, 1) := by decide +kernel
theorem dX10_see_65 : decode cX10_see 65 = .ok (.ifCond .eq 7, 3) := by decide +kernel
theorem dX10_see_68 : decode cX10_see 68 = .ok (.iconst 1, 1) := by decide +kernel
theorem dX10_see_69 : decode cX10_see 69 = .ok (.goto 4, 3) := by decide +kernel
theorem dX10_see_72 : decode cX10_see 72 = .ok (.iconst 0, 1) := by decide +kernel
theorem dX10_see_73 : decode cX10_see 73 = .ok (.iastore, 1) := by decide +kernel
theorem dX10_see_74 : decode cX10_see 74 = .ok (.aload_n 0, 1) := by decide +kernel
theorem dX10_see_75 : decode cX10_see 75 = .ok (.dup, 1) := by decide +kernel
theorem dX10_see_76 : decode cX10_see 76 = .ok (.getfield 164, 3) := by decide +kernel
theorem dX10_see_79 : decode cX10_see 79 = .ok (.iconst 1, 1) := by decide +kernel
theorem dX10_see_80 : decode cX10_see 80 = .ok (.iadd, 1) := by decide +kernel
theorem dX10_see_81 : decode cX10_see 81 = .ok (.putfield 164, 3) := by decide +kernel
theorem dX10_see_84 : decode cX10_see 84 = .ok (.aload_n 0, 1) := by decide +kernel
theorem dX10_see_85 : decode cX10_see 85 = .ok (.getfield 164, 3) := by decide +kernel
theorem dX10_see_88 : decode cX10_see 88 = .ok (.ireturn, 1) := by decide +kernel
theorem dX10_forget_0 : decode cX10_forget 0 = .ok (.aload_n 0, 1) := by decide +kernel
theorem dX10_forget_1 : decode cX10_forget 1 = .ok (.getfield 164, 3) := by decide +kernel
theorem dX10_forget_4 : decode cX10_forget 4 = .ok (.istore_n 1, 1) := by decide +kernel
theorem dX10_forget_5 : decode cX10_forget 5 = .ok (.aload_n 0, 1) := by decide +kernel
theorem dX10_forget_6 : decode cX10_forget 6 = .ok (.iconst 0, 1) := by decide +kernel
theorem dX10_forget_7 : decode cX10_forget 7 = .ok (.putfield 164, 3) := by decide +kernel
theorem dX10_forget_10 : decode cX10_forget 10 = .ok (.iload_n 1, 1) := by decide +kernel
theorem dX10_forget_11 : decode cX10_forget 11 = .ok (.ireturn, 1) := by decide +kernel
theorem dX10_wouldLike_0 : decode cX10_wouldLike 0 = .ok (.aload_n 0, 1) := by decide +kernel
theorem dX10_wouldLike_1 : decode cX10_wouldLike 1 = .ok (.getfield 7, 3) := by decide +kernel
theorem dX10_wouldLike_4 : decode cX10_wouldLike 4 = .ok (.iload_n 1, 1) := by decide +kernel
theorem dX10_wouldLike_5 : decode cX10_wouldLike 5 = .ok (.iaload, 1) := by decide +kernel
theorem dX10_wouldLike_6 : decode cX10_wouldLike 6 = .ok (.iconst 1, 1) := by decide +kernel
theorem dX10_wouldLike_7 : decode cX10_wouldLike 7 = .ok (.if_icmp .eq 12, 3) := by decide +kernel
theorem dX10_wouldLike_10 : decode cX10_wouldLike 10 = .ok (.aload_n 0, 1) := by decide +kernel
theorem dX10_wouldLike_11 : decode cX10_wouldLike 11 = .ok (.iload_n 3, 1) := by decide +kernel
theorem dX10_wouldLike_12 : decode cX10_wouldLike 12 = .ok (.invokevirtual 177, 3) := by decide +kernel
theorem dX10_wouldLike_15 : decode cX10_wouldLike 15 = .ok (.iload_n 2, 1) := by decide +kernel
theorem dX10_wouldLike_16 : decode cX10_wouldLike 16 = .ok (.if_icmp .lt 7, 3) := by decide +kernel
theorem dX10_wouldLike_19 : decode cX10_wouldLike 19 = .ok (.iconst 1, 1) := by decide +kernel
theorem dX10_wouldLike_20 : decode cX10_wouldLike 20 = .ok (.goto 4, 3) := by decide +kernel
theorem dX10_wouldLike_23 : decode cX10_wouldLike 23 = .ok (.iconst 0, 1) := by decide +kernel
theorem dX10_wouldLike_24 : decode cX10_wouldLike 24 = .ok (.ireturn, 1) := by decide +kernel
theorem dX10_choosiesOf_0 : decode cX10_choosiesOf 0 = .ok (.iconst 0, 1) := by decide +kernel
theorem dX10_choosiesOf_1 : decode cX10_choosiesOf 1 = .ok (.istore_n 2, 1) := by decide +kernel
theorem dX10_choosiesOf_2 : decode cX10_choosiesOf 2 = .ok (.iconst 0, 1) := by decide +kernel
theorem dX10_choosiesOf_3 : decode cX10_choosiesOf 3 = .ok (.istore_n 3, 1) := by decide +kernel
theorem dX10_choosiesOf_4 : decode cX10_choosiesOf 4 = .ok (.iload_n 3, 1) := by decide +kernel
theorem dX10_choosiesOf_5 : decode cX10_choosiesOf 5 = .ok (.bipush 9, 2) := by decide +kernel
theorem dX10_choosiesOf_7 : decode cX10_choosiesOf 7 = .ok (.if_icmp .gt 100, 3) := by decide +kernel
theorem dX10_choosiesOf_10 : decode cX10_choosiesOf 10 = .ok (.iconst 1, 1) := by decide +kernel
theorem dX10_choosiesOf_11 : decode cX10_choosiesOf 11 = .ok (.istore 4, 2) := by decide +kernel
theorem dX10_choosiesOf_13 : decode cX10_choosiesOf 13 = .ok (.iconst 0, 1) := by decide +kernel
theorem dX10_choosiesOf_14 : decode cX10_choosiesOf 14 = .ok (.istore 5, 2) := by decide +kernel
theorem dX10_choosiesOf_16 : decode cX10_choosiesOf 16 = .ok (.iload 5, 2) := by decide +kernel
theorem dX10_choosiesOf_18 : decode cX10_choosiesOf 18 = .ok (.aload_n 0, 1) := by decide +kernel
theorem dX10_choosiesOf_19 : decode cX10_choosiesOf 19 = .ok (.getfield 164, 3) := by decide +kernel
theorem dX10_choosiesOf_22 : decode cX10_choosiesOf 22 = .ok (.if_icmp .ge 64, 3) := by decide +kernel
theorem dX10_choosiesOf_25 : decode cX10_choosiesOf 25 = .ok (.iload 4, 2) := by decide +kernel
theorem dX10_choosiesOf_27 : decode cX10_choosiesOf 27 = .ok (.ifCond .eq 50, 3) := by decide +kernel
theorem dX10_choosiesOf_30 : decode cX10_choosiesOf 30 = .ok (.aload_n 0, 1) := by decide +kernel
theorem dX10_choosiesOf_31 : decode cX10_choosiesOf 31 = .ok (.getfield 37, 3) := by decide +kernel
theorem dX10_choosiesOf_34 : decode cX10_choosiesOf 34 = .ok (.iload 5, 2) := by decide +kernel
theorem dX10_choosiesOf_36 : decode cX10_choosiesOf 36 = .ok (.iaload, 1) := by decide +kernel
theorem dX10_choosiesOf_37 : decode cX10_choosiesOf 37 = .ok (.iload_n 1, 1) := by decide +kernel
theorem dX10_choosiesOf_38 : decode cX10_choosiesOf 38 = .ok (.if_icmp .ne 35, 3) := by decide +kernel
theorem dX10_choosiesOf_41 : decode cX10_choosiesOf 41 = .ok (.aload_n 0, 1) := by decide +kernel
theorem dX10_choosiesOf_42 : decode cX10_choosiesOf 42 = .ok (.iload_n 1, 1) := by decide +kernel
theorem dX10_choosiesOf_43 : decode cX10_choosiesOf 43 = .ok (.iload_n 3, 1) := by decide +kernel
theorem dX10_choosiesOf_44 : decode cX10_choosiesOf 44 = .ok (.aload_n 0, 1) := by decide +kernel
theorem dX10_choosiesOf_45 : decode cX10_choosiesOf 45 = .ok (.getfield 40, 3) := by decide +kernel
theorem dX10_choosiesOf_48 : decode cX10_choosiesOf 48 = .ok (.iload 5, 2) := by decide +kernel
theorem dX10_choosiesOf_50 : decode cX10_choosiesOf 50 = .ok (.iaload, 1) := by decide +kernel
theorem dX10_choosiesOf_51 : decode cX10_choosiesOf 51 = .ok (.invokevirtual 307, 3) := by decide +kernel
theorem dX10_choosiesOf_54 : decode cX10_choosiesOf 54 = .ok (.aload_n 0, 1) := by decide +kernel
theorem dX10_choosiesOf_55 : decode cX10_choosiesOf 55 = .ok (.getfield 43, 3) := by decide +kernel
theorem dX10_choosiesOf_58 : decode cX10_choosiesOf 58 = .ok (.iload 5, 2) := by decide +kernel
theorem dX10_choosiesOf_60 : decode cX10_choosiesOf 60 = .ok (.iaload, 1) := by decide +kernel
theorem dX10_choosiesOf_61 : decode cX10_choosiesOf 61 = .ok (.iconst 1, 1) := by decide +kernel
theorem dX10_choosiesOf_62 : decode cX10_choosiesOf 62 = .ok (.if_icmp .ne 7, 3) := by decide +kernel
theorem dX10_choosiesOf_65 : decode cX10_choosiesOf 65 = .ok (.iconst 1, 1) := by decide +kernel
theorem dX10_choosiesOf_66 : decode cX10_choosiesOf 66 = .ok (.goto 4, 3) := by decide +kernel
theorem dX10_choosiesOf_69 : decode cX10_choosiesOf 69 = .ok (.iconst 0, 1) := by decide +kernel
theorem dX10_choosiesOf_70 : decode cX10_choosiesOf 70 = .ok (.if_icmp .ne 7, 3) := by decide +kernel
theorem dX10_choosiesOf_73 : decode cX10_choosiesOf 73 = .ok (.iconst 1, 1) := by decide +kernel
theorem dX10_choosiesOf_74 : decode cX10_choosiesOf 74 = .ok (.goto 4, 3) := by decide +kernel
theorem dX10_choosiesOf_77 : decode cX10_choosiesOf 77 = .ok (.iconst 0, 1) := by decide +kernel
theorem dX10_choosiesOf_78 : decode cX10_choosiesOf 78 = .ok (.istore 4, 2) := by decide +kernel
theorem dX10_choosiesOf_80 : decode cX10_choosiesOf 80 = .ok (.iinc 5 1, 3) := by decide +kernel
theorem dX10_choosiesOf_83 : decode cX10_choosiesOf 83 = .ok (.goto (-67), 3) := by decide +kernel
theorem dX10_choosiesOf_86 : decode cX10_choosiesOf 86 = .ok (.iload_n 2, 1) := by decide +kernel
theorem dX10_choosiesOf_87 : decode cX10_choosiesOf 87 = .ok (.iload 4, 2) := by decide +kernel
theorem dX10_choosiesOf_89 : decode cX10_choosiesOf 89 = .ok (.ifCond .eq 9, 3) := by decide +kernel
theorem dX10_choosiesOf_92 : decode cX10_choosiesOf 92 = .ok (.iconst 1, 1) := by decide +kernel
theorem dX10_choosiesOf_93 : decode cX10_choosiesOf 93 = .ok (.iload_n 3, 1) := by decide +kernel
theorem dX10_choosiesOf_94 : decode cX10_choosiesOf 94 = .ok (.ishl, 1) := by decide +kernel
theorem dX10_choosiesOf_95 : decode cX10_choosiesOf 95 = .ok (.goto 4, 3) := by decide +kernel
theorem dX10_choosiesOf_98 : decode cX10_choosiesOf 98 = .ok (.iconst 0, 1) := by decide +kernel
theorem dX10_choosiesOf_99 : decode cX10_choosiesOf 99 = .ok (.ior, 1) := by decide +kernel
theorem dX10_choosiesOf_100 : decode cX10_choosiesOf 100 = .ok (.istore_n 2, 1) := by decide +kernel
theorem dX10_choosiesOf_101 : decode cX10_choosiesOf 101 = .ok (.iinc 3 1, 3) := by decide +kernel
theorem dX10_choosiesOf_104 : decode cX10_choosiesOf 104 = .ok (.goto (-100), 3) := by decide +kernel
theorem dX10_choosiesOf_107 : decode cX10_choosiesOf 107 = .ok (.iload_n 2, 1) := by decide +kernel
theorem dX10_choosiesOf_108 : decode cX10_choosiesOf 108 = .ok (.ireturn, 1) := by decide +kernel
theorem dX10_askFor_0 : decode cX10_askFor 0 = .ok (.aload_n 0, 1) := by decide +kernel
theorem dX10_askFor_1 : decode cX10_askFor 1 = .ok (.iload_n 1, 1) := by decide +kernel
theorem dX10_askFor_2 : decode cX10_askFor 2 = .ok (.invokevirtual 195, 3) := by decide +kernel
theorem dX10_askFor_5 : decode cX10_askFor 5 = .ok (.istore_n 2, 1) := by decide +kernel
theorem dX10_askFor_6 : decode cX10_askFor 6 = .ok (.iconst (-1), 1) := by decide +kernel
theorem dX10_askFor_7 : decode cX10_askFor 7 = .ok (.istore_n 3, 1) := by decide +kernel
theorem dX10_askFor_8 : decode cX10_askFor 8 = .ok (.ldc_w 310, 3) := by decide +kernel
theorem dX10_askFor_11 : decode cX10_askFor 11 = .ok (.istore 4, 2) := by decide +kernel
theorem dX10_askFor_13 : decode cX10_askFor 13 = .ok (.iconst 0, 1) := by decide +kernel
theorem dX10_askFor_14 : decode cX10_askFor 14 = .ok (.istore 5, 2) := by decide +kernel
theorem dX10_askFor_16 : decode cX10_askFor 16 = .ok (.iload 5, 2) := by decide +kernel
theorem dX10_askFor_18 : decode cX10_askFor 18 = .ok (.aload_n 0, 1) := by decide +kernel
theorem dX10_askFor_19 : decode cX10_askFor 19 = .ok (.getfield 140, 3) := by decide +kernel
theorem dX10_askFor_22 : decode cX10_askFor 22 = .ok (.if_icmp .ge 134, 3) := by decide +kernel
theorem dX10_askFor_25 : decode cX10_askFor 25 = .ok (.iload_n 2, 1) := by decide +kernel
theorem dX10_askFor_26 : decode cX10_askFor 26 = .ok (.ifCond .eq 130, 3) := by decide +kernel
theorem dX10_askFor_29 : decode cX10_askFor 29 = .ok (.iconst 0, 1) := by decide +kernel
theorem dX10_askFor_30 : decode cX10_askFor 30 = .ok (.istore 6, 2) := by decide +kernel
theorem dX10_askFor_32 : decode cX10_askFor 32 = .ok (.iconst 0, 1) := by decide +kernel
theorem dX10_askFor_33 : decode cX10_askFor 33 = .ok (.istore 7, 2) := by decide +kernel
theorem dX10_askFor_35 : decode cX10_askFor 35 = .ok (.iload 7, 2) := by decide +kernel
theorem dX10_askFor_37 : decode cX10_askFor 37 = .ok (.bipush 9, 2) := by decide +kernel
theorem dX10_askFor_39 : decode cX10_askFor 39 = .ok (.if_icmp .gt 40, 3) := by decide +kernel
theorem dX10_askFor_42 : decode cX10_askFor 42 = .ok (.iload 6, 2) := by decide +kernel
theorem dX10_askFor_44 : decode cX10_askFor 44 = .ok (.iload_n 2, 1) := by decide +kernel
theorem dX10_askFor_45 : decode cX10_askFor 45 = .ok (.iload 7, 2) := by decide +kernel
theorem dX10_askFor_47 : decode cX10_askFor 47 = .ok (.invokestatic 183, 3) := by decide +kernel
theorem dX10_askFor_50 : decode cX10_askFor 50 = .ok (.ifCond .eq 19, 3) := by decide +kernel
theorem dX10_askFor_53 : decode cX10_askFor 53 = .ok (.aload_n 0, 1) := by decide +kernel
theorem dX10_askFor_54 : decode cX10_askFor 54 = .ok (.iload_n 1, 1) := by decide +kernel
theorem dX10_askFor_55 : decode cX10_askFor 55 = .ok (.iload 7, 2) := by decide +kernel
theorem dX10_askFor_57 : decode cX10_askFor 57 = .ok (.iload 5, 2) := by decide +kernel
theorem dX10_askFor_59 : decode cX10_askFor 59 = .ok (.invokevirtual 307, 3) := by decide +kernel
theorem dX10_askFor_62 : decode cX10_askFor 62 = .ok (.ifCond .eq 7, 3) := by decide +kernel
theorem dX10_askFor_65 : decode cX10_askFor 65 = .ok (.iconst 1, 1) := by decide +kernel
theorem dX10_askFor_66 : decode cX10_askFor 66 = .ok (.goto 4, 3) := by decide +kernel
theorem dX10_askFor_69 : decode cX10_askFor 69 = .ok (.iconst 0, 1) := by decide +kernel
theorem dX10_askFor_70 : decode cX10_askFor 70 = .ok (.iadd, 1) := by decide +kernel
theorem dX10_askFor_71 : decode cX10_askFor 71 = .ok (.istore 6, 2) := by decide +kernel
theorem dX10_askFor_73 : decode cX10_askFor 73 = .ok (.iinc 7 1, 3) := by decide +kernel
theorem dX10_askFor_76 : decode cX10_askFor 76 = .ok (.goto (-41), 3) := by decide +kernel
theorem dX10_askFor_79 : decode cX10_askFor 79 = .ok (.iload_n 2, 1) := by decide +kernel
theorem dX10_askFor_80 : decode cX10_askFor 80 = .ok (.invokestatic 279, 3) := by decide +kernel
theorem dX10_askFor_83 : decode cX10_askFor 83 = .ok (.iload 6, 2) := by decide +kernel
theorem dX10_askFor_85 : decode cX10_askFor 85 = .ok (.isub, 1) := by decide +kernel
theorem dX10_askFor_86 : decode cX10_askFor 86 = .ok (.istore 7, 2) := by decide +kernel
theorem dX10_askFor_88 : decode cX10_askFor 88 = .ok (.aload_n 0, 1) := by decide +kernel
theorem dX10_askFor_89 : decode cX10_askFor 89 = .ok (.iload_n 1, 1) := by decide +kernel
theorem dX10_askFor_90 : decode cX10_askFor 90 = .ok (.iload 5, 2) := by decide +kernel
theorem dX10_askFor_92 : decode cX10_askFor 92 = .ok (.invokevirtual 174, 3) := by decide +kernel
theorem dX10_askFor_95 : decode cX10_askFor 95 = .ok (.ifCond .ne 9, 3) := by decide +kernel
theorem dX10_askFor_98 : decode cX10_askFor 98 = .ok (.ldc_w 310, 3) := by decide +kernel
theorem dX10_askFor_101 : decode cX10_askFor 101 = .ok (.goto 17, 3) := by decide +kernel
theorem dX10_askFor_104 : decode cX10_askFor 104 = .ok (.iload 6, 2) := by decide +kernel
theorem dX10_askFor_106 : decode cX10_askFor 106 = .ok (.iload 7, 2) := by decide +kernel
theorem dX10_askFor_108 : decode cX10_askFor 108 = .ok (.if_icmp .le 8, 3) := by decide +kernel
theorem dX10_askFor_111 : decode cX10_askFor 111 = .ok (.iload 6, 2) := by decide +kernel
theorem dX10_askFor_113 : decode cX10_askFor 113 = .ok (.goto 5, 3) := by decide +kernel
theorem dX10_askFor_116 : decode cX10_askFor 116 = .ok (.iload 7, 2) := by decide +kernel
theorem dX10_askFor_118 : decode cX10_askFor 118 = .ok (.istore 8, 2) := by decide +kernel
theorem dX10_askFor_120 : decode cX10_askFor 120 = .ok (.iload 8, 2) := by decide +kernel
theorem dX10_askFor_122 : decode cX10_askFor 122 = .ok (.iload 4, 2) := by decide +kernel
theorem dX10_askFor_124 : decode cX10_askFor 124 = .ok (.if_icmp .ge 8, 3) := by decide +kernel
theorem dX10_askFor_127 : decode cX10_askFor 127 = .ok (.iload 5, 2) := by decide +kernel
theorem dX10_askFor_129 : decode cX10_askFor 129 = .ok (.goto 4, 3) := by decide +kernel
theorem dX10_askFor_132 : decode cX10_askFor 132 = .ok (.iload_n 3, 1) := by decide +kernel
theorem dX10_askFor_133 : decode cX10_askFor 133 = .ok (.istore_n 3, 1) := by decide +kernel
theorem dX10_askFor_134 : decode cX10_askFor 134 = .ok (.iload 8, 2) := by decide +kernel
theorem dX10_askFor_136 : decode cX10_askFor 136 = .ok (.iload 4, 2) := by decide +kernel
theorem dX10_askFor_138 : decode cX10_askFor 138 = .ok (.if_icmp .ge 8, 3) := by decide +kernel
theorem dX10_askFor_141 : decode cX10_askFor 141 = .ok (.iload 8, 2) := by decide +kernel
theorem dX10_askFor_143 : decode cX10_askFor 143 = .ok (.goto 5, 3) := by decide +kernel
theorem dX10_askFor_146 : decode cX10_askFor 146 = .ok (.iload 4, 2) := by decide +kernel
theorem dX10_askFor_148 : decode cX10_askFor 148 = .ok (.istore 4, 2) := by decide +kernel
theorem dX10_askFor_150 : decode cX10_askFor 150 = .ok (.iinc 5 1, 3) := by decide +kernel
theorem dX10_askFor_153 : decode cX10_askFor 153 = .ok (.goto (-137), 3) := by decide +kernel
theorem dX10_askFor_156 : decode cX10_askFor 156 = .ok (.iload_n 3, 1) := by decide +kernel
theorem dX10_askFor_157 : decode cX10_askFor 157 = .ok (.ireturn, 1) := by decide +kernel
theorem dX10_draw_0 : decode cX10_draw 0 = .ok (.aload_n 0, 1) := by decide +kernel
theorem dX10_draw_1 : decode cX10_draw 1 = .ok (.ldc2_w 311, 3) := by decide +kernel
theorem dX10_draw_4 : decode cX10_draw 4 = .ok (.aload_n 0, 1) := by decide +kernel
theorem dX10_draw_5 : decode cX10_draw 5 = .ok (.getfield 313, 3) := by decide +kernel
theorem dX10_draw_8 : decode cX10_draw 8 = .ok (.lmul, 1) := by decide +kernel
theorem dX10_draw_9 : decode cX10_draw 9 = .ok (.ldc2_w 317, 3) := by decide +kernel
theorem dX10_draw_12 : decode cX10_draw 12 = .ok (.ladd, 1) := by decide +kernel
theorem dX10_draw_13 : decode cX10_draw 13 = .ok (.ldc2_w 319, 3) := by decide +kernel
theorem dX10_draw_16 : decode cX10_draw 16 = .ok (.land, 1) := by decide +kernel
theorem dX10_draw_17 : decode cX10_draw 17 = .ok (.putfield 313, 3) := by decide +kernel
theorem dX10_draw_20 : decode cX10_draw 20 = .ok (.aload_n 0, 1) := by decide +kernel
theorem dX10_draw_21 : decode cX10_draw 21 = .ok (.getfield 313, 3) := by decide +kernel
theorem dX10_draw_24 : decode cX10_draw 24 = .ok (.ldc2_w 321, 3) := by decide +kernel
theorem dX10_draw_27 : decode cX10_draw 27 = .ok (.ldiv, 1) := by decide +kernel
theorem dX10_draw_28 : decode cX10_draw 28 = .ok (.iload_n 1, 1) := by decide +kernel
theorem dX10_draw_29 : decode cX10_draw 29 = .ok (.i2l, 1) := by decide +kernel
theorem dX10_draw_30 : decode cX10_draw 30 = .ok (.lrem, 1) := by decide +kernel
theorem dX10_draw_31 : decode cX10_draw 31 = .ok (.l2i, 1) := by decide +kernel
theorem dX10_draw_32 : decode cX10_draw 32 = .ok (.ireturn, 1) := by decide +kernel
theorem dX10_seasonsNow_0 : decode cX10_seasonsNow 0 = .ok (.aload_n 0, 1) := by decide +kernel
theorem dX10_seasonsNow_1 : decode cX10_seasonsNow 1 = .ok (.iload_n 2, 1) := by decide +kernel
theorem dX10_seasonsNow_2 : decode cX10_seasonsNow 2 = .ok (.i2l, 1) := by decide +kernel
theorem dX10_seasonsNow_3 : decode cX10_seasonsNow 3 = .ok (.putfield 313, 3) := by decide +kernel
theorem dX10_seasonsNow_6 : decode cX10_seasonsNow 6 = .ok (.iconst 0, 1) := by decide +kernel
theorem dX10_seasonsNow_7 : decode cX10_seasonsNow 7 = .ok (.istore 4, 2) := by decide +kernel
theorem dX10_seasonsNow_9 : decode cX10_seasonsNow 9 = .ok (.iconst 0, 1) := by decide +kernel
theorem dX10_seasonsNow_10 : decode cX10_seasonsNow 10 = .ok (.istore 5, 2) := by decide +kernel
theorem dX10_seasonsNow_12 : decode cX10_seasonsNow 12 = .ok (.iconst 0, 1) := by decide +kernel
theorem dX10_seasonsNow_13 : decode cX10_seasonsNow 13 = .ok (.istore 6, 2) := by decide +kernel
theorem dX10_seasonsNow_15 : decode cX10_seasonsNow 15 = .ok (.iload 6, 2) := by decide +kernel
theorem dX10_seasonsNow_17 : decode cX10_seasonsNow 17 = .ok (.iload_n 1, 1) := by decide +kernel
theorem dX10_seasonsNow_18 : decode cX10_seasonsNow 18 = .ok (.if_icmp .ge 134, 3) := by decide +kernel
theorem dX10_seasonsNow_21 : decode cX10_seasonsNow 21 = .ok (.aload_n 0, 1) := by decide +kernel
theorem dX10_seasonsNow_22 : decode cX10_seasonsNow 22 = .ok (.aload_n 0, 1) := by decide +kernel
theorem dX10_seasonsNow_23 : decode cX10_seasonsNow 23 = .ok (.getfield 137, 3) := by decide +kernel
theorem dX10_seasonsNow_26 : decode cX10_seasonsNow 26 = .ok (.invokevirtual 323, 3) := by decide +kernel
theorem dX10_seasonsNow_29 : decode cX10_seasonsNow 29 = .ok (.istore 7, 2) := by decide +kernel
theorem dX10_seasonsNow_31 : decode cX10_seasonsNow 31 = .ok (.aload_n 0, 1) := by decide +kernel
theorem dX10_seasonsNow_32 : decode cX10_seasonsNow 32 = .ok (.getfield 137, 3) := by decide +kernel
theorem dX10_seasonsNow_35 : decode cX10_seasonsNow 35 = .ok (.aload_n 0, 1) := by decide +kernel
theorem dX10_seasonsNow_36 : decode cX10_seasonsNow 36 = .ok (.aload_n 0, 1) := by decide +kernel
theorem dX10_seasonsNow_37 : decode cX10_seasonsNow 37 = .ok (.getfield 140, 3) := by decide +kernel
theorem dX10_seasonsNow_40 : decode cX10_seasonsNow 40 = .ok (.aload_n 0, 1) := by decide +kernel
theorem dX10_seasonsNow_41 : decode cX10_seasonsNow 41 = .ok (.getfield 137, 3) := by decide +kernel
theorem dX10_seasonsNow_44 : decode cX10_seasonsNow 44 = .ok (.isub, 1) := by decide +kernel
theorem dX10_seasonsNow_45 : decode cX10_seasonsNow 45 = .ok (.invokevirtual 323, 3) := by decide +kernel
theorem dX10_seasonsNow_48 : decode cX10_seasonsNow 48 = .ok (.iadd, 1) := by decide +kernel
theorem dX10_seasonsNow_49 : decode cX10_seasonsNow 49 = .ok (.istore 8, 2) := by decide +kernel
theorem dX10_seasonsNow_51 : decode cX10_seasonsNow 51 = .ok (.aload_n 0, 1) := by decide +kernel
theorem dX10_seasonsNow_52 : decode cX10_seasonsNow 52 = .ok (.getfield 13, 3) := by decide +kernel
theorem dX10_seasonsNow_55 : decode cX10_seasonsNow 55 = .ok (.iload 7, 2) := by decide +kernel
theorem dX10_seasonsNow_57 : decode cX10_seasonsNow 57 = .ok (.iaload, 1) := by decide +kernel
theorem dX10_seasonsNow_58 : decode cX10_seasonsNow 58 = .ok (.aload_n 0, 1) := by decide +kernel
theorem dX10_seasonsNow_59 : decode cX10_seasonsNow 59 = .ok (.getfield 13, 3) := by decide +kernel
theorem dX10_seasonsNow_62 : decode cX10_seasonsNow 62 = .ok (.iload 8, 2) := by decide +kernel
theorem dX10_seasonsNow_64 : decode cX10_seasonsNow 64 = .ok (.iaload, 1) := by decide +kernel
theorem dX10_seasonsNow_65 : decode cX10_seasonsNow 65 = .ok (.if_icmp .le 21, 3) := by decide +kernel
theorem dX10_seasonsNow_68 : decode cX10_seasonsNow 68 = .ok (.aload_n 0, 1) := by decide +kernel
theorem dX10_seasonsNow_69 : decode cX10_seasonsNow 69 = .ok (.getfield 13, 3) := by decide +kernel
theorem dX10_seasonsNow_72 : decode cX10_seasonsNow 72 = .ok (.iload 7, 2) := by decide +kernel
theorem dX10_seasonsNow_74 : decode cX10_seasonsNow 74 = .ok (.iaload, 1) := by decide +kernel
theorem dX10_seasonsNow_75 : decode cX10_seasonsNow 75 = .ok (.aload_n 0, 1) := by decide +kernel
theorem dX10_seasonsNow_76 : decode cX10_seasonsNow 76 = .ok (.getfield 13, 3) := by decide +kernel
theorem dX10_seasonsNow_79 : decode cX10_seasonsNow 79 = .ok (.iload 8, 2) := by decide +kernel
theorem dX10_seasonsNow_81 : decode cX10_seasonsNow 81 = .ok (.iaload, 1) := by decide +kernel
theorem dX10_seasonsNow_82 : decode cX10_seasonsNow 82 = .ok (.isub, 1) := by decide +kernel
theorem dX10_seasonsNow_83 : decode cX10_seasonsNow 83 = .ok (.goto 18, 3) := by decide +kernel
theorem dX10_seasonsNow_86 : decode cX10_seasonsNow 86 = .ok (.aload_n 0, 1) := by decide +kernel
theorem dX10_seasonsNow_87 : decode cX10_seasonsNow 87 = .ok (.getfield 13, 3) := by decide +kernel
theorem dX10_seasonsNow_90 : decode cX10_seasonsNow 90 = .ok (.iload 8, 2) := by decide +kernel
theorem dX10_seasonsNow_92 : decode cX10_seasonsNow 92 = .ok (.iaload, 1) := by decide +kernel
theorem dX10_seasonsNow_93 : decode cX10_seasonsNow 93 = .ok (.aload_n 0, 1) := by decide +kernel
theorem dX10_seasonsNow_94 : decode cX10_seasonsNow 94 = .ok (.getfield 13, 3) := by decide +kernel
theorem dX10_seasonsNow_97 : decode cX10_seasonsNow 97 = .ok (.iload 7, 2) := by decide +kernel
theorem dX10_seasonsNow_99 : decode cX10_seasonsNow 99 = .ok (.iaload, 1) := by decide +kernel
theorem dX10_seasonsNow_100 : decode cX10_seasonsNow 100 = .ok (.isub, 1) := by decide +kernel
theorem dX10_seasonsNow_101 : decode cX10_seasonsNow 101 = .ok (.istore 9, 2) := by decide +kernel
theorem dX10_seasonsNow_103 : decode cX10_seasonsNow 103 = .ok (.iload 4, 2) := by decide +kernel
theorem dX10_seasonsNow_105 : decode cX10_seasonsNow 105 = .ok (.aload_n 0, 1) := by decide +kernel
theorem dX10_seasonsNow_106 : decode cX10_seasonsNow 106 = .ok (.iload 7, 2) := by decide +kernel
theorem dX10_seasonsNow_108 : decode cX10_seasonsNow 108 = .ok (.iload 8, 2) := by decide +kernel
theorem dX10_seasonsNow_110 : decode cX10_seasonsNow 110 = .ok (.invokevirtual 227, 3) := by decide +kernel
theorem dX10_seasonsNow_113 : decode cX10_seasonsNow 113 = .ok (.ifCond .eq 7, 3) := by decide +kernel
theorem dX10_seasonsNow_116 : decode cX10_seasonsNow 116 = .ok (.iconst 1, 1) := by decide +kernel
theorem dX10_seasonsNow_117 : decode cX10_seasonsNow 117 = .ok (.goto 4, 3) := by decide +kernel
theorem dX10_seasonsNow_120 : decode cX10_seasonsNow 120 = .ok (.iconst 0, 1) := by decide +kernel
theorem dX10_seasonsNow_121 : decode cX10_seasonsNow 121 = .ok (.iadd, 1) := by decide +kernel
theorem dX10_seasonsNow_122 : decode cX10_seasonsNow 122 = .ok (.istore 4, 2) := by decide +kernel
theorem dX10_seasonsNow_124 : decode cX10_seasonsNow 124 = .ok (.iload 5, 2) := by decide +kernel
theorem dX10_seasonsNow_126 : decode cX10_seasonsNow 126 = .ok (.aload_n 0, 1) := by decide +kernel
theorem dX10_seasonsNow_127 : decode cX10_seasonsNow 127 = .ok (.iload 7, 2) := by decide +kernel
theorem dX10_seasonsNow_129 : decode cX10_seasonsNow 129 = .ok (.iload 8, 2) := by decide +kernel
theorem dX10_seasonsNow_131 : decode cX10_seasonsNow 131 = .ok (.invokevirtual 227, 3) := by decide +kernel
theorem dX10_seasonsNow_134 : decode cX10_seasonsNow 134 = .ok (.ifCond .eq 8, 3) := by decide +kernel
theorem dX10_seasonsNow_137 : decode cX10_seasonsNow 137 = .ok (.iload 9, 2) := by decide +kernel
theorem dX10_seasonsNow_139 : decode cX10_seasonsNow 139 = .ok (.goto 4, 3) := by decide +kernel
theorem dX10_seasonsNow_142 : decode cX10_seasonsNow 142 = .ok (.iconst 0, 1) := by decide +kernel
theorem dX10_seasonsNow_143 : decode cX10_seasonsNow 143 = .ok (.iadd, 1) := by decide +kernel
theorem dX10_seasonsNow_144 : decode cX10_seasonsNow 144 = .ok (.istore 5, 2) := by decide +kernel
theorem dX10_seasonsNow_146 : decode cX10_seasonsNow 146 = .ok (.iinc 6 1, 3) := by decide +kernel
theorem dX10_seasonsNow_149 : decode cX10_seasonsNow 149 = .ok (.goto (-134), 3) := by decide +kernel
theorem dX10_seasonsNow_152 : decode cX10_seasonsNow 152 = .ok (.iload_n 3, 1) := by decide +kernel
theorem dX10_seasonsNow_153 : decode cX10_seasonsNow 153 = .ok (.ifCond .ne 8, 3) := by decide +kernel
theorem dX10_seasonsNow_156 : decode cX10_seasonsNow 156 = .ok (.iload 4, 2) := by decide +kernel
theorem dX10_seasonsNow_158 : decode cX10_seasonsNow 158 = .ok (.goto 18, 3) := by decide +kernel
theorem dX10_seasonsNow_161 : decode cX10_seasonsNow 161 = .ok (.iload_n 3, 1) := by decide +kernel
theorem dX10_seasonsNow_162 : decode cX10_seasonsNow 162 = .ok (.iconst 1, 1) := by decide +kernel
theorem dX10_seasonsNow_163 : decode cX10_seasonsNow 163 = .ok (.if_icmp .ne 8, 3) := by decide +kernel
theorem dX10_seasonsNow_166 : decode cX10_seasonsNow 166 = .ok (.iload 5, 2) := by decide +kernel
theorem dX10_seasonsNow_168 : decode cX10_seasonsNow 168 = .ok (.goto 8, 3) := by decide +kernel
theorem dX10_seasonsNow_171 : decode cX10_seasonsNow 171 = .ok (.aload_n 0, 1) := by decide +kernel
theorem dX10_seasonsNow_172 : decode cX10_seasonsNow 172 = .ok (.getfield 313, 3) := by decide +kernel
theorem dX10_seasonsNow_175 : decode cX10_seasonsNow 175 = .ok (.l2i, 1) := by decide +kernel
theorem dX10_seasonsNow_176 : decode cX10_seasonsNow 176 = .ok (.ireturn, 1) := by decide +kernel
theorem dX10_seasons_0 : decode cX10_seasons 0 = .ok (.iload_n 1, 1) := by decide +kernel
theorem dX10_seasons_1 : decode cX10_seasons 1 = .ok (.iconst 1, 1) := by decide +kernel
theorem dX10_seasons_2 : decode cX10_seasons 2 = .ok (.bipush 60, 2) := by decide +kernel
theorem dX10_seasons_4 : decode cX10_seasons 4 = .ok (.invokestatic 98, 3) := by decide +kernel
theorem dX10_seasons_7 : decode cX10_seasons 7 = .ok (.ifCond .eq 16, 3) := by decide +kernel
theorem dX10_seasons_10 : decode cX10_seasons 10 = .ok (.iload_n 2, 1) := by decide +kernel
theorem dX10_seasons_11 : decode cX10_seasons 11 = .ok (.ifCond .lt 12, 3) := by decide +kernel
theorem dX10_seasons_14 : decode cX10_seasons 14 = .ok (.iload_n 3, 1) := by decide +kernel
theorem dX10_seasons_15 : decode cX10_seasons 15 = .ok (.iconst 0, 1) := by decide +kernel
theorem dX10_seasons_16 : decode cX10_seasons 16 = .ok (.iconst 2, 1) := by decide +kernel
theorem dX10_seasons_17 : decode cX10_seasons 17 = .ok (.invokestatic 98, 3) := by decide +kernel
theorem dX10_seasons_20 : decode cX10_seasons 20 = .ok (.ifCond .ne 6, 3) := by decide +kernel
theorem dX10_seasons_23 : decode cX10_seasons 23 = .ok (.bipush (-102), 2) := by decide +kernel
theorem dX10_seasons_25 : decode cX10_seasons 25 = .ok (.ireturn, 1) := by decide +kernel
theorem dX10_seasons_26 : decode cX10_seasons 26 = .ok (.aload_n 0, 1) := by decide +kernel
theorem dX10_seasons_27 : decode cX10_seasons 27 = .ok (.getfield 140, 3) := by decide +kernel
theorem dX10_seasons_30 : decode cX10_seasons 30 = .ok (.ifCond .ne 8, 3) := by decide +kernel
theorem dX10_seasons_33 : decode cX10_seasons 33 = .ok (.bipush (-103), 2) := by decide +kernel
theorem dX10_seasons_35 : decode cX10_seasons 35 = .ok (.goto 10, 3) := by decide +kernel
theorem dX10_seasons_38 : decode cX10_seasons 38 = .ok (.aload_n 0, 1) := by decide +kernel
theorem dX10_seasons_39 : decode cX10_seasons 39 = .ok (.iload_n 1, 1) := by decide +kernel
theorem dX10_seasons_40 : decode cX10_seasons 40 = .ok (.iload_n 2, 1) := by decide +kernel
theorem dX10_seasons_41 : decode cX10_seasons 41 = .ok (.iload_n 3, 1) := by decide +kernel
theorem dX10_seasons_42 : decode cX10_seasons 42 = .ok (.invokevirtual 326, 3) := by decide +kernel
theorem dX10_seasons_45 : decode cX10_seasons 45 = .ok (.ireturn, 1) := by decide +kernel
theorem dX10_image_0 : decode cX10_image 0 = .ok (.aload_n 0, 1) := by decide +kernel
theorem dX10_image_1 : decode cX10_image 1 = .ok (.getfield 140, 3) := by decide +kernel
theorem dX10_image_4 : decode cX10_image 4 = .ok (.ifCond .ne 6, 3) := by decide +kernel
theorem dX10_image_7 : decode cX10_image 7 = .ok (.bipush (-103), 2) := by decide +kernel
theorem dX10_image_9 : decode cX10_image 9 = .ok (.ireturn, 1) := by decide +kernel
theorem dX10_image_10 : decode cX10_image 10 = .ok (.aload_n 0, 1) := by decide +kernel
theorem dX10_image_11 : decode cX10_image 11 = .ok (.iconst 1, 1) := by decide +kernel
theorem dX10_image_12 : decode cX10_image 12 = .ok (.putfield 329, 3) := by decide +kernel
theorem dX10_image_15 : decode cX10_image 15 = .ok (.aload_n 0, 1) := by decide +kernel
theorem dX10_image_16 : decode cX10_image 16 = .ok (.aload_n 0, 1) := by decide +kernel
theorem dX10_image_17 : decode cX10_image 17 = .ok (.getfield 161, 3) := by decide +kernel
theorem dX10_image_20 : decode cX10_image 20 = .ok (.putfield 332, 3) := by decide +kernel
theorem dX10_image_23 : decode cX10_image 23 = .ok (.aload_n 0, 1) := by decide +kernel
theorem dX10_image_24 : decode cX10_image 24 = .ok (.aload_n 0, 1) := by decide +kernel
theorem dX10_image_25 : decode cX10_image 25 = .ok (.getfield 143, 3) := by decide +kernel
theorem dX10_image_28 : decode cX10_image 28 = .ok (.putfield 335, 3) := by decide +kernel
theorem dX10_image_31 : decode cX10_image 31 = .ok (.aload_n 0, 1) := by decide +kernel
theorem dX10_image_32 : decode cX10_image 32 = .ok (.aload_n 0, 1) := by decide +kernel
theorem dX10_image_33 : decode cX10_image 33 = .ok (.getfield 146, 3) := by decide +kernel
theorem dX10_image_36 : decode cX10_image 36 = .ok (.putfield 338, 3) := by decide +kernel
theorem dX10_image_39 : decode cX10_image 39 = .ok (.aload_n 0, 1) := by decide +kernel
theorem dX10_image_40 : decode cX10_image 40 = .ok (.aload_n 0, 1) := by decide +kernel
theorem dX10_image_41 : decode cX10_image 41 = .ok (.getfield 149, 3) := by decide +kernel
theorem dX10_image_44 : decode cX10_image 44 = .ok (.putfield 341, 3) := by decide +kernel
theorem dX10_image_47 : decode cX10_image 47 = .ok (.aload_n 0, 1) := by decide +kernel
theorem dX10_image_48 : decode cX10_image 48 = .ok (.aload_n 0, 1) := by decide +kernel
theorem dX10_image_49 : decode cX10_image 49 = .ok (.getfield 152, 3) := by decide +kernel
theorem dX10_image_52 : decode cX10_image 52 = .ok (.putfield 344, 3) := by decide +kernel
theorem dX10_image_55 : decode cX10_image 55 = .ok (.aload_n 0, 1) := by decide +kernel
theorem dX10_image_56 : decode cX10_image 56 = .ok (.aload_n 0, 1) := by decide +kernel
theorem dX10_image_57 : decode cX10_image 57 = .ok (.getfield 155, 3) := by decide +kernel
theorem dX10_image_60 : decode cX10_image 60 = .ok (.putfield 347, 3) := by decide +kernel
theorem dX10_image_63 : decode cX10_image 63 = .ok (.aload_n 0, 1) := by decide +kernel
theorem dX10_image_64 : decode cX10_image 64 = .ok (.aload_n 0, 1) := by decide +kernel
theorem dX10_image_65 : decode cX10_image 65 = .ok (.getfield 158, 3) := by decide +kernel
theorem dX10_image_68 : decode cX10_image 68 = .ok (.putfield 350, 3) := by decide +kernel
theorem dX10_image_71 : decode cX10_image 71 = .ok (.aload_n 0, 1) := by decide +kernel
theorem dX10_image_72 : decode cX10_image 72 = .ok (.aload_n 0, 1) := by decide +kernel
theorem dX10_image_73 : decode cX10_image 73 = .ok (.getfield 164, 3) := by decide +kernel
theorem dX10_image_76 : decode cX10_image 76 = .ok (.putfield 353, 3) := by decide +kernel
theorem dX10_image_79 : decode cX10_image 79 = .ok (.iconst 0, 1) := by decide +kernel
theorem dX10_image_80 : decode cX10_image 80 = .ok (.istore_n 1, 1) := by decide +kernel
end
section
theorem dX10_image_81 : decode cX10_image 81 = .ok (.iload_n 1, 1) := by decide +kernel
theorem dX10_image_82 : decode cX10_image 82 = .ok (.bipush 8, 2) := by decide +kernel
theorem dX10_image_84 : decode cX10_image 84 = .ok (.if_icmp .ge 129, 3) := by decide +kernel
theorem dX10_image_87 : decode cX10_image 87 = .ok (.aload_n 0, 1) := by decide +kernel
theorem dX10_image_88 : decode cX10_image 88 = .ok (.getfield 68, 3) := by decide +kernel
theorem dX10_image_91 : decode cX10_image 91 = .ok (.iload_n 1, 1) := by decide +kernel
theorem dX10_image_92 : decode cX10_image 92 = .ok (.aload_n 0, 1) := by decide +kernel
theorem dX10_image_93 : decode cX10_image 93 = .ok (.getfield 16, 3) := by decide +kernel
theorem dX10_image_96 : decode cX10_image 96 = .ok (.iload_n 1, 1) := by decide +kernel
theorem dX10_image_97 : decode cX10_image 97 = .ok (.iaload, 1) := by decide +kernel
theorem dX10_image_98 : decode cX10_image 98 = .ok (.iastore, 1) := by decide +kernel
theorem dX10_image_99 : decode cX10_image 99 = .ok (.aload_n 0, 1) := by decide +kernel
theorem dX10_image_100 : decode cX10_image 100 = .ok (.getfield 71, 3) := by decide +kernel
theorem dX10_image_103 : decode cX10_image 103 = .ok (.iload_n 1, 1) := by decide +kernel
theorem dX10_image_104 : decode cX10_image 104 = .ok (.aload_n 0, 1) := by decide +kernel
theorem dX10_image_105 : decode cX10_image 105 = .ok (.getfield 19, 3) := by decide +kernel
theorem dX10_image_108 : decode cX10_image 108 = .ok (.iload_n 1, 1) := by decide +kernel
theorem dX10_image_109 : decode cX10_image 109 = .ok (.iaload, 1) := by decide +kernel
theorem dX10_image_110 : decode cX10_image 110 = .ok (.iastore, 1) := by decide +kernel
theorem dX10_image_111 : decode cX10_image 111 = .ok (.aload_n 0, 1) := by decide +kernel
theorem dX10_image_112 : decode cX10_image 112 = .ok (.getfield 74, 3) := by decide +kernel
theorem dX10_image_115 : decode cX10_image 115 = .ok (.iload_n 1, 1) := by decide +kernel
theorem dX10_image_116 : decode cX10_image 116 = .ok (.aload_n 0, 1) := by decide +kernel
theorem dX10_image_117 : decode cX10_image 117 = .ok (.getfield 22, 3) := by decide +kernel
theorem dX10_image_120 : decode cX10_image 120 = .ok (.iload_n 1, 1) := by decide +kernel
theorem dX10_image_121 : decode cX10_image 121 = .ok (.iaload, 1) := by decide +kernel
theorem dX10_image_122 : decode cX10_image 122 = .ok (.iastore, 1) := by decide +kernel
theorem dX10_image_123 : decode cX10_image 123 = .ok (.aload_n 0, 1) := by decide +kernel
theorem dX10_image_124 : decode cX10_image 124 = .ok (.getfield 77, 3) := by decide +kernel
theorem dX10_image_127 : decode cX10_image 127 = .ok (.iload_n 1, 1) := by decide +kernel
theorem dX10_image_128 : decode cX10_image 128 = .ok (.aload_n 0, 1) := by decide +kernel
theorem dX10_image_129 : decode cX10_image 129 = .ok (.getfield 25, 3) := by decide +kernel
theorem dX10_image_132 : decode cX10_image 132 = .ok (.iload_n 1, 1) := by decide +kernel
theorem dX10_image_133 : decode cX10_image 133 = .ok (.iaload, 1) := by decide +kernel
theorem dX10_image_134 : decode cX10_image 134 = .ok (.iastore, 1) := by decide +kernel
theorem dX10_image_135 : decode cX10_image 135 = .ok (.aload_n 0, 1) := by decide +kernel
theorem dX10_image_136 : decode cX10_image 136 = .ok (.getfield 80, 3) := by decide +kernel
theorem dX10_image_139 : decode cX10_image 139 = .ok (.iload_n 1, 1) := by decide +kernel
theorem dX10_image_140 : decode cX10_image 140 = .ok (.aload_n 0, 1) := by decide +kernel
theorem dX10_image_141 : decode cX10_image 141 = .ok (.getfield 28, 3) := by decide +kernel
theorem dX10_image_144 : decode cX10_image 144 = .ok (.iload_n 1, 1) := by decide +kernel
theorem dX10_image_145 : decode cX10_image 145 = .ok (.iaload, 1) := by decide +kernel
theorem dX10_image_146 : decode cX10_image 146 = .ok (.iastore, 1) := by decide +kernel
theorem dX10_image_147 : decode cX10_image 147 = .ok (.aload_n 0, 1) := by decide +kernel
theorem dX10_image_148 : decode cX10_image 148 = .ok (.getfield 83, 3) := by decide +kernel
theorem dX10_image_151 : decode cX10_image 151 = .ok (.iload_n 1, 1) := by decide +kernel
theorem dX10_image_152 : decode cX10_image 152 = .ok (.aload_n 0, 1) := by decide +kernel
theorem dX10_image_153 : decode cX10_image 153 = .ok (.getfield 31, 3) := by decide +kernel
theorem dX10_image_156 : decode cX10_image 156 = .ok (.iload_n 1, 1) := by decide +kernel
theorem dX10_image_157 : decode cX10_image 157 = .ok (.iaload, 1) := by decide +kernel
theorem dX10_image_158 : decode cX10_image 158 = .ok (.iastore, 1) := by decide +kernel
theorem dX10_image_159 : decode cX10_image 159 = .ok (.aload_n 0, 1) := by decide +kernel
theorem dX10_image_160 : decode cX10_image 160 = .ok (.getfield 86, 3) := by decide +kernel
theorem dX10_image_163 : decode cX10_image 163 = .ok (.iload_n 1, 1) := by decide +kernel
theorem dX10_image_164 : decode cX10_image 164 = .ok (.aload_n 0, 1) := by decide +kernel
theorem dX10_image_165 : decode cX10_image 165 = .ok (.getfield 34, 3) := by decide +kernel
theorem dX10_image_168 : decode cX10_image 168 = .ok (.iload_n 1, 1) := by decide +kernel
theorem dX10_image_169 : decode cX10_image 169 = .ok (.iaload, 1) := by decide +kernel
theorem dX10_image_170 : decode cX10_image 170 = .ok (.iastore, 1) := by decide +kernel
theorem dX10_image_171 : decode cX10_image 171 = .ok (.aload_n 0, 1) := by decide +kernel
theorem dX10_image_172 : decode cX10_image 172 = .ok (.getfield 89, 3) := by decide +kernel
theorem dX10_image_175 : decode cX10_image 175 = .ok (.iload_n 1, 1) := by decide +kernel
theorem dX10_image_176 : decode cX10_image 176 = .ok (.aload_n 0, 1) := by decide +kernel
theorem dX10_image_177 : decode cX10_image 177 = .ok (.getfield 37, 3) := by decide +kernel
theorem dX10_image_180 : decode cX10_image 180 = .ok (.iload_n 1, 1) := by decide +kernel
theorem dX10_image_181 : decode cX10_image 181 = .ok (.iaload, 1) := by decide +kernel
theorem dX10_image_182 : decode cX10_image 182 = .ok (.iastore, 1) := by decide +kernel
theorem dX10_image_183 : decode cX10_image 183 = .ok (.aload_n 0, 1) := by decide +kernel
theorem dX10_image_184 : decode cX10_image 184 = .ok (.getfield 92, 3) := by decide +kernel
theorem dX10_image_187 : decode cX10_image 187 = .ok (.iload_n 1, 1) := by decide +kernel
theorem dX10_image_188 : decode cX10_image 188 = .ok (.aload_n 0, 1) := by decide +kernel
theorem dX10_image_189 : decode cX10_image 189 = .ok (.getfield 40, 3) := by decide +kernel
theorem dX10_image_192 : decode cX10_image 192 = .ok (.iload_n 1, 1) := by decide +kernel
theorem dX10_image_193 : decode cX10_image 193 = .ok (.iaload, 1) := by decide +kernel
theorem dX10_image_194 : decode cX10_image 194 = .ok (.iastore, 1) := by decide +kernel
theorem dX10_image_195 : decode cX10_image 195 = .ok (.aload_n 0, 1) := by decide +kernel
theorem dX10_image_196 : decode cX10_image 196 = .ok (.getfield 95, 3) := by decide +kernel
theorem dX10_image_199 : decode cX10_image 199 = .ok (.iload_n 1, 1) := by decide +kernel
theorem dX10_image_200 : decode cX10_image 200 = .ok (.aload_n 0, 1) := by decide +kernel
theorem dX10_image_201 : decode cX10_image 201 = .ok (.getfield 43, 3) := by decide +kernel
theorem dX10_image_204 : decode cX10_image 204 = .ok (.iload_n 1, 1) := by decide +kernel
theorem dX10_image_205 : decode cX10_image 205 = .ok (.iaload, 1) := by decide +kernel
theorem dX10_image_206 : decode cX10_image 206 = .ok (.iastore, 1) := by decide +kernel
theorem dX10_image_207 : decode cX10_image 207 = .ok (.iinc 1 1, 3) := by decide +kernel
theorem dX10_image_210 : decode cX10_image 210 = .ok (.goto (-129), 3) := by decide +kernel
theorem dX10_image_213 : decode cX10_image 213 = .ok (.aload_n 0, 1) := by decide +kernel
theorem dX10_image_214 : decode cX10_image 214 = .ok (.getfield 146, 3) := by decide +kernel
theorem dX10_image_217 : decode cX10_image 217 = .ok (.ireturn, 1) := by decide +kernel
theorem dX10_restore_0 : decode cX10_restore 0 = .ok (.aload_n 0, 1) := by decide +kernel
theorem dX10_restore_1 : decode cX10_restore 1 = .ok (.getfield 329, 3) := by decide +kernel
theorem dX10_restore_4 : decode cX10_restore 4 = .ok (.ifCond .eq 14, 3) := by decide +kernel
theorem dX10_restore_7 : decode cX10_restore 7 = .ok (.aload_n 0, 1) := by decide +kernel
theorem dX10_restore_8 : decode cX10_restore 8 = .ok (.getfield 332, 3) := by decide +kernel
theorem dX10_restore_11 : decode cX10_restore 11 = .ok (.aload_n 0, 1) := by decide +kernel
theorem dX10_restore_12 : decode cX10_restore 12 = .ok (.getfield 161, 3) := by decide +kernel
theorem dX10_restore_15 : decode cX10_restore 15 = .ok (.if_icmp .eq 6, 3) := by decide +kernel
theorem dX10_restore_18 : decode cX10_restore 18 = .ok (.bipush (-103), 2) := by decide +kernel
theorem dX10_restore_20 : decode cX10_restore 20 = .ok (.ireturn, 1) := by decide +kernel
theorem dX10_restore_21 : decode cX10_restore 21 = .ok (.aload_n 0, 1) := by decide +kernel
theorem dX10_restore_22 : decode cX10_restore 22 = .ok (.aload_n 0, 1) := by decide +kernel
theorem dX10_restore_23 : decode cX10_restore 23 = .ok (.getfield 335, 3) := by decide +kernel
theorem dX10_restore_26 : decode cX10_restore 26 = .ok (.putfield 143, 3) := by decide +kernel
theorem dX10_restore_29 : decode cX10_restore 29 = .ok (.aload_n 0, 1) := by decide +kernel
theorem dX10_restore_30 : decode cX10_restore 30 = .ok (.aload_n 0, 1) := by decide +kernel
theorem dX10_restore_31 : decode cX10_restore 31 = .ok (.getfield 338, 3) := by decide +kernel
theorem dX10_restore_34 : decode cX10_restore 34 = .ok (.putfield 146, 3) := by decide +kernel
theorem dX10_restore_37 : decode cX10_restore 37 = .ok (.aload_n 0, 1) := by decide +kernel
theorem dX10_restore_38 : decode cX10_restore 38 = .ok (.aload_n 0, 1) := by decide +kernel
theorem dX10_restore_39 : decode cX10_restore 39 = .ok (.getfield 341, 3) := by decide +kernel
theorem dX10_restore_42 : decode cX10_restore 42 = .ok (.putfield 149, 3) := by decide +kernel
theorem dX10_restore_45 : decode cX10_restore 45 = .ok (.aload_n 0, 1) := by decide +kernel
theorem dX10_restore_46 : decode cX10_restore 46 = .ok (.aload_n 0, 1) := by decide +kernel
theorem dX10_restore_47 : decode cX10_restore 47 = .ok (.getfield 344, 3) := by decide +kernel
theorem dX10_restore_50 : decode cX10_restore 50 = .ok (.putfield 152, 3) := by decide +kernel
theorem dX10_restore_53 : decode cX10_restore 53 = .ok (.aload_n 0, 1) := by decide +kernel
theorem dX10_restore_54 : decode cX10_restore 54 = .ok (.aload_n 0, 1) := by decide +kernel
theorem dX10_restore_55 : decode cX10_restore 55 = .ok (.getfield 347, 3) := by decide +kernel
theorem dX10_restore_58 : decode cX10_restore 58 = .ok (.putfield 155, 3) := by decide +kernel
theorem dX10_restore_61 : decode cX10_restore 61 = .ok (.aload_n 0, 1) := by decide +kernel
theorem dX10_restore_62 : decode cX10_restore 62 = .ok (.aload_n 0, 1) := by decide +kernel
theorem dX10_restore_63 : decode cX10_restore 63 = .ok (.getfield 350, 3) := by decide +kernel
theorem dX10_restore_66 : decode cX10_restore 66 = .ok (.putfield 158, 3) := by decide +kernel
theorem dX10_restore_69 : decode cX10_restore 69 = .ok (.aload_n 0, 1) := by decide +kernel
theorem dX10_restore_70 : decode cX10_restore 70 = .ok (.aload_n 0, 1) := by decide +kernel
theorem dX10_restore_71 : decode cX10_restore 71 = .ok (.getfield 353, 3) := by decide +kernel
theorem dX10_restore_74 : decode cX10_restore 74 = .ok (.putfield 164, 3) := by decide +kernel
theorem dX10_restore_77 : decode cX10_restore 77 = .ok (.iconst 0, 1) := by decide +kernel
theorem dX10_restore_78 : decode cX10_restore 78 = .ok (.istore_n 1, 1) := by decide +kernel
theorem dX10_restore_79 : decode cX10_restore 79 = .ok (.iload_n 1, 1) := by decide +kernel
theorem dX10_restore_80 : decode cX10_restore 80 = .ok (.bipush 8, 2) := by decide +kernel
theorem dX10_restore_82 : decode cX10_restore 82 = .ok (.if_icmp .ge 129, 3) := by decide +kernel
theorem dX10_restore_85 : decode cX10_restore 85 = .ok (.aload_n 0, 1) := by decide +kernel
theorem dX10_restore_86 : decode cX10_restore 86 = .ok (.getfield 16, 3) := by decide +kernel
theorem dX10_restore_89 : decode cX10_restore 89 = .ok (.iload_n 1, 1) := by decide +kernel
theorem dX10_restore_90 : decode cX10_restore 90 = .ok (.aload_n 0, 1) := by decide +kernel
theorem dX10_restore_91 : decode cX10_restore 91 = .ok (.getfield 68, 3) := by decide +kernel
theorem dX10_restore_94 : decode cX10_restore 94 = .ok (.iload_n 1, 1) := by decide +kernel
theorem dX10_restore_95 : decode cX10_restore 95 = .ok (.iaload, 1) := by decide +kernel
theorem dX10_restore_96 : decode cX10_restore 96 = .ok (.iastore, 1) := by decide +kernel
theorem dX10_restore_97 : decode cX10_restore 97 = .ok (.aload_n 0, 1) := by decide +kernel
theorem dX10_restore_98 : decode cX10_restore 98 = .ok (.getfield 19, 3) := by decide +kernel
theorem dX10_restore_101 : decode cX10_restore 101 = .ok (.iload_n 1, 1) := by decide +kernel
theorem dX10_restore_102 : decode cX10_restore 102 = .ok (.aload_n 0, 1) := by decide +kernel
theorem dX10_restore_103 : decode cX10_restore 103 = .ok (.getfield 71, 3) := by decide +kernel
theorem dX10_restore_106 : decode cX10_restore 106 = .ok (.iload_n 1, 1) := by decide +kernel
theorem dX10_restore_107 : decode cX10_restore 107 = .ok (.iaload, 1) := by decide +kernel
theorem dX10_restore_108 : decode cX10_restore 108 = .ok (.iastore, 1) := by decide +kernel
theorem dX10_restore_109 : decode cX10_restore 109 = .ok (.aload_n 0, 1) := by decide +kernel
theorem dX10_restore_110 : decode cX10_restore 110 = .ok (.getfield 22, 3) := by decide +kernel
theorem dX10_restore_113 : decode cX10_restore 113 = .ok (.iload_n 1, 1) := by decide +kernel
theorem dX10_restore_114 : decode cX10_restore 114 = .ok (.aload_n 0, 1) := by decide +kernel
theorem dX10_restore_115 : decode cX10_restore 115 = .ok (.getfield 74, 3) := by decide +kernel
theorem dX10_restore_118 : decode cX10_restore 118 = .ok (.iload_n 1, 1) := by decide +kernel
theorem dX10_restore_119 : decode cX10_restore 119 = .ok (.iaload, 1) := by decide +kernel
theorem dX10_restore_120 : decode cX10_restore 120 = .ok (.iastore, 1) := by decide +kernel
theorem dX10_restore_121 : decode cX10_restore 121 = .ok (.aload_n 0, 1) := by decide +kernel
theorem dX10_restore_122 : decode cX10_restore 122 = .ok (.getfield 25, 3) := by decide +kernel
theorem dX10_restore_125 : decode cX10_restore 125 = .ok (.iload_n 1, 1) := by decide +kernel
theorem dX10_restore_126 : decode cX10_restore 126 = .ok (.aload_n 0, 1) := by decide +kernel
theorem dX10_restore_127 : decode cX10_restore 127 = .ok (.getfield 77, 3) := by decide +kernel
theorem dX10_restore_130 : decode cX10_restore 130 = .ok (.iload_n 1, 1) := by decide +kernel
theorem dX10_restore_131 : decode cX10_restore 131 = .ok (.iaload, 1) := by decide +kernel
theorem dX10_restore_132 : decode cX10_restore 132 = .ok (.iastore, 1) := by decide +kernel
theorem dX10_restore_133 : decode cX10_restore 133 = .ok (.aload_n 0, 1) := by decide +kernel
theorem dX10_restore_134 : decode cX10_restore 134 = .ok (.getfield 28, 3) := by decide +kernel
theorem dX10_restore_137 : decode cX10_restore 137 = .ok (.iload_n 1, 1) := by decide +kernel
theorem dX10_restore_138 : decode cX10_restore 138 = .ok (.aload_n 0, 1) := by decide +kernel
theorem dX10_restore_139 : decode cX10_restore 139 = .ok (.getfield 80, 3) := by decide +kernel
theorem dX10_restore_142 : decode cX10_restore 142 = .ok (.iload_n 1, 1) := by decide +kernel
theorem dX10_restore_143 : decode cX10_restore 143 = .ok (.iaload, 1) := by decide +kernel
theorem dX10_restore_144 : decode cX10_restore 144 = .ok (.iastore, 1) := by decide +kernel
theorem dX10_restore_145 : decode cX10_restore 145 = .ok (.aload_n 0, 1) := by decide +kernel
theorem dX10_restore_146 : decode cX10_restore 146 = .ok (.getfield 31, 3) := by decide +kernel
theorem dX10_restore_149 : decode cX10_restore 149 = .ok (.iload_n 1, 1) := by decide +kernel
theorem dX10_restore_150 : decode cX10_restore 150 = .ok (.aload_n 0, 1) := by decide +kernel
theorem dX10_restore_151 : decode cX10_restore 151 = .ok (.getfield 83, 3) := by decide +kernel
theorem dX10_restore_154 : decode cX10_restore 154 = .ok (.iload_n 1, 1) := by decide +kernel
theorem dX10_restore_155 : decode cX10_restore 155 = .ok (.iaload, 1) := by decide +kernel
theorem dX10_restore_156 : decode cX10_restore 156 = .ok (.iastore, 1) := by decide +kernel
theorem dX10_restore_157 : decode cX10_restore 157 = .ok (.aload_n 0, 1) := by decide +kernel
theorem dX10_restore_158 : decode cX10_restore 158 = .ok (.getfield 34, 3) := by decide +kernel
theorem dX10_restore_161 : decode cX10_restore 161 = .ok (.iload_n 1, 1) := by decide +kernel
theorem dX10_restore_162 : decode cX10_restore 162 = .ok (.aload_n 0, 1) := by decide +kernel
theorem dX10_restore_163 : decode cX10_restore 163 = .ok (.getfield 86, 3) := by decide +kernel
theorem dX10_restore_166 : decode cX10_restore 166 = .ok (.iload_n 1, 1) := by decide +kernel
theorem dX10_restore_167 : decode cX10_restore 167 = .ok (.iaload, 1) := by decide +kernel
theorem dX10_restore_168 : decode cX10_restore 168 = .ok (.iastore, 1) := by decide +kernel
theorem dX10_restore_169 : decode cX10_restore 169 = .ok (.aload_n 0, 1) := by decide +kernel
theorem dX10_restore_170 : decode cX10_restore 170 = .ok (.getfield 37, 3) := by decide +kernel
theorem dX10_restore_173 : decode cX10_restore 173 = .ok (.iload_n 1, 1) := by decide +kernel
theorem dX10_restore_174 : decode cX10_restore 174 = .ok (.aload_n 0, 1) := by decide +kernel
theorem dX10_restore_175 : decode cX10_restore 175 = .ok (.getfield 89, 3) := by decide +kernel
theorem dX10_restore_178 : decode cX10_restore 178 = .ok (.iload_n 1, 1) := by decide +kernel
theorem dX10_restore_179 : decode cX10_restore 179 = .ok (.iaload, 1) := by decide +kernel
theorem dX10_restore_180 : decode cX10_restore 180 = .ok (.iastore, 1) := by decide +kernel
theorem dX10_restore_181 : decode cX10_restore 181 = .ok (.aload_n 0, 1) := by decide +kernel
theorem dX10_restore_182 : decode cX10_restore 182 = .ok (.getfield 40, 3) := by decide +kernel
theorem dX10_restore_185 : decode cX10_restore 185 = .ok (.iload_n 1, 1) := by decide +kernel
theorem dX10_restore_186 : decode cX10_restore 186 = .ok (.aload_n 0, 1) := by decide +kernel
theorem dX10_restore_187 : decode cX10_restore 187 = .ok (.getfield 92, 3) := by decide +kernel
theorem dX10_restore_190 : decode cX10_restore 190 = .ok (.iload_n 1, 1) := by decide +kernel
theorem dX10_restore_191 : decode cX10_restore 191 = .ok (.iaload, 1) := by decide +kernel
theorem dX10_restore_192 : decode cX10_restore 192 = .ok (.iastore, 1) := by decide +kernel
theorem dX10_restore_193 : decode cX10_restore 193 = .ok (.aload_n 0, 1) := by decide +kernel
theorem dX10_restore_194 : decode cX10_restore 194 = .ok (.getfield 43, 3) := by decide +kernel
theorem dX10_restore_197 : decode cX10_restore 197 = .ok (.iload_n 1, 1) := by decide +kernel
theorem dX10_restore_198 : decode cX10_restore 198 = .ok (.aload_n 0, 1) := by decide +kernel
theorem dX10_restore_199 : decode cX10_restore 199 = .ok (.getfield 95, 3) := by decide +kernel
theorem dX10_restore_202 : decode cX10_restore 202 = .ok (.iload_n 1, 1) := by decide +kernel
theorem dX10_restore_203 : decode cX10_restore 203 = .ok (.iaload, 1) := by decide +kernel
theorem dX10_restore_204 : decode cX10_restore 204 = .ok (.iastore, 1) := by decide +kernel
theorem dX10_restore_205 : decode cX10_restore 205 = .ok (.iinc 1 1, 3) := by decide +kernel
theorem dX10_restore_208 : decode cX10_restore 208 = .ok (.goto (-129), 3) := by decide +kernel
theorem dX10_restore_211 : decode cX10_restore 211 = .ok (.aload_n 0, 1) := by decide +kernel
theorem dX10_restore_212 : decode cX10_restore 212 = .ok (.getfield 146, 3) := by decide +kernel
theorem dX10_restore_215 : decode cX10_restore 215 = .ok (.ireturn, 1) := by decide +kernel
theorem dX10_peopleNow_0 : decode cX10_peopleNow 0 = .ok (.iconst 0, 1) := by decide +kernel
theorem dX10_peopleNow_1 : decode cX10_peopleNow 1 = .ok (.istore_n 2, 1) := by decide +kernel
theorem dX10_peopleNow_2 : decode cX10_peopleNow 2 = .ok (.iconst 0, 1) := by decide +kernel
theorem dX10_peopleNow_3 : decode cX10_peopleNow 3 = .ok (.istore_n 3, 1) := by decide +kernel
theorem dX10_peopleNow_4 : decode cX10_peopleNow 4 = .ok (.iload_n 3, 1) := by decide +kernel
theorem dX10_peopleNow_5 : decode cX10_peopleNow 5 = .ok (.aload_n 0, 1) := by decide +kernel
theorem dX10_peopleNow_6 : decode cX10_peopleNow 6 = .ok (.getfield 140, 3) := by decide +kernel
theorem dX10_peopleNow_9 : decode cX10_peopleNow 9 = .ok (.if_icmp .ge 27, 3) := by decide +kernel
theorem dX10_peopleNow_12 : decode cX10_peopleNow 12 = .ok (.iload_n 2, 1) := by decide +kernel
theorem dX10_peopleNow_13 : decode cX10_peopleNow 13 = .ok (.aload_n 0, 1) := by decide +kernel
theorem dX10_peopleNow_14 : decode cX10_peopleNow 14 = .ok (.iload_n 3, 1) := by decide +kernel
theorem dX10_peopleNow_15 : decode cX10_peopleNow 15 = .ok (.iconst 5, 1) := by decide +kernel
theorem dX10_peopleNow_16 : decode cX10_peopleNow 16 = .ok (.invokevirtual 201, 3) := by decide +kernel
theorem dX10_peopleNow_19 : decode cX10_peopleNow 19 = .ok (.iload_n 1, 1) := by decide +kernel
theorem dX10_peopleNow_20 : decode cX10_peopleNow 20 = .ok (.if_icmp .ne 7, 3) := by decide +kernel
theorem dX10_peopleNow_23 : decode cX10_peopleNow 23 = .ok (.iconst 1, 1) := by decide +kernel
theorem dX10_peopleNow_24 : decode cX10_peopleNow 24 = .ok (.goto 4, 3) := by decide +kernel
theorem dX10_peopleNow_27 : decode cX10_peopleNow 27 = .ok (.iconst 0, 1) := by decide +kernel
theorem dX10_peopleNow_28 : decode cX10_peopleNow 28 = .ok (.iadd, 1) := by decide +kernel
theorem dX10_peopleNow_29 : decode cX10_peopleNow 29 = .ok (.istore_n 2, 1) := by decide +kernel
theorem dX10_peopleNow_30 : decode cX10_peopleNow 30 = .ok (.iinc 3 1, 3) := by decide +kernel
theorem dX10_peopleNow_33 : decode cX10_peopleNow 33 = .ok (.goto (-29), 3) := by decide +kernel
theorem dX10_peopleNow_36 : decode cX10_peopleNow 36 = .ok (.iload_n 2, 1) := by decide +kernel
theorem dX10_peopleNow_37 : decode cX10_peopleNow 37 = .ok (.ireturn, 1) := by decide +kernel
theorem dX10_howManyOf_0 : decode cX10_howManyOf 0 = .ok (.iload_n 1, 1) := by decide +kernel
theorem dX10_howManyOf_1 : decode cX10_howManyOf 1 = .ok (.tableswitch 168 0 14 #[75, 80, 90, 96, 104, 110, 123, 128, 133, 138, 143, 148, 153, 158, 163], 75) := by decide +kernel
theorem dX10_howManyOf_76 : decode cX10_howManyOf 76 = .ok (.aload_n 0, 1) := by decide +kernel
theorem dX10_howManyOf_77 : decode cX10_howManyOf 77 = .ok (.getfield 137, 3) := by decide +kernel
theorem dX10_howManyOf_80 : decode cX10_howManyOf 80 = .ok (.ireturn, 1) := by decide +kernel
theorem dX10_howManyOf_81 : decode cX10_howManyOf 81 = .ok (.aload_n 0, 1) := by decide +kernel
theorem dX10_howManyOf_82 : decode cX10_howManyOf 82 = .ok (.getfield 140, 3) := by decide +kernel
theorem dX10_howManyOf_85 : decode cX10_howManyOf 85 = .ok (.aload_n 0, 1) := by decide +kernel
theorem dX10_howManyOf_86 : decode cX10_howManyOf 86 = .ok (.getfield 137, 3) := by decide +kernel
theorem dX10_howManyOf_89 : decode cX10_howManyOf 89 = .ok (.isub, 1) := by decide +kernel
theorem dX10_howManyOf_90 : decode cX10_howManyOf 90 = .ok (.ireturn, 1) := by decide +kernel
theorem dX10_howManyOf_91 : decode cX10_howManyOf 91 = .ok (.aload_n 0, 1) := by decide +kernel
theorem dX10_howManyOf_92 : decode cX10_howManyOf 92 = .ok (.iconst 0, 1) := by decide +kernel
theorem dX10_howManyOf_93 : decode cX10_howManyOf 93 = .ok (.invokevirtual 356, 3) := by decide +kernel
theorem dX10_howManyOf_96 : decode cX10_howManyOf 96 = .ok (.ireturn, 1) := by decide +kernel
theorem dX10_howManyOf_97 : decode cX10_howManyOf 97 = .ok (.aload_n 0, 1) := by decide +kernel
theorem dX10_howManyOf_98 : decode cX10_howManyOf 98 = .ok (.iconst 1, 1) := by decide +kernel
theorem dX10_howManyOf_99 : decode cX10_howManyOf 99 = .ok (.invokevirtual 356, 3) := by decide +kernel
theorem dX10_howManyOf_102 : decode cX10_howManyOf 102 = .ok (.iconst 2, 1) := by decide +kernel
theorem dX10_howManyOf_103 : decode cX10_howManyOf 103 = .ok (.idiv, 1) := by decide +kernel
theorem dX10_howManyOf_104 : decode cX10_howManyOf 104 = .ok (.ireturn, 1) := by decide +kernel
theorem dX10_howManyOf_105 : decode cX10_howManyOf 105 = .ok (.aload_n 0, 1) := by decide +kernel
theorem dX10_howManyOf_106 : decode cX10_howManyOf 106 = .ok (.iconst 2, 1) := by decide +kernel
theorem dX10_howManyOf_107 : decode cX10_howManyOf 107 = .ok (.invokevirtual 356, 3) := by decide +kernel
theorem dX10_howManyOf_110 : decode cX10_howManyOf 110 = .ok (.ireturn, 1) := by decide +kernel
theorem dX10_howManyOf_111 : decode cX10_howManyOf 111 = .ok (.aload_n 0, 1) := by decide +kernel
theorem dX10_howManyOf_112 : decode cX10_howManyOf 112 = .ok (.invokevirtual 288, 3) := by decide +kernel
theorem dX10_howManyOf_115 : decode cX10_howManyOf 115 = .ok (.aload_n 0, 1) := by decide +kernel
theorem dX10_howManyOf_116 : decode cX10_howManyOf 116 = .ok (.iconst 1, 1) := by decide +kernel
theorem dX10_howManyOf_117 : decode cX10_howManyOf 117 = .ok (.invokevirtual 356, 3) := by decide +kernel
theorem dX10_howManyOf_120 : decode cX10_howManyOf 120 = .ok (.iconst 2, 1) := by decide +kernel
theorem dX10_howManyOf_121 : decode cX10_howManyOf 121 = .ok (.idiv, 1) := by decide +kernel
theorem dX10_howManyOf_122 : decode cX10_howManyOf 122 = .ok (.isub, 1) := by decide +kernel
theorem dX10_howManyOf_123 : decode cX10_howManyOf 123 = .ok (.ireturn, 1) := by decide +kernel
theorem dX10_howManyOf_124 : decode cX10_howManyOf 124 = .ok (.aload_n 0, 1) := by decide +kernel
theorem dX10_howManyOf_125 : decode cX10_howManyOf 125 = .ok (.getfield 149, 3) := by decide +kernel
theorem dX10_howManyOf_128 : decode cX10_howManyOf 128 = .ok (.ireturn, 1) := by decide +kernel
theorem dX10_howManyOf_129 : decode cX10_howManyOf 129 = .ok (.aload_n 0, 1) := by decide +kernel
theorem dX10_howManyOf_130 : decode cX10_howManyOf 130 = .ok (.getfield 152, 3) := by decide +kernel
theorem dX10_howManyOf_133 : decode cX10_howManyOf 133 = .ok (.ireturn, 1) := by decide +kernel
theorem dX10_howManyOf_134 : decode cX10_howManyOf 134 = .ok (.aload_n 0, 1) := by decide +kernel
theorem dX10_howManyOf_135 : decode cX10_howManyOf 135 = .ok (.getfield 143, 3) := by decide +kernel
theorem dX10_howManyOf_138 : decode cX10_howManyOf 138 = .ok (.ireturn, 1) := by decide +kernel
theorem dX10_howManyOf_139 : decode cX10_howManyOf 139 = .ok (.aload_n 0, 1) := by decide +kernel
theorem dX10_howManyOf_140 : decode cX10_howManyOf 140 = .ok (.getfield 146, 3) := by decide +kernel
theorem dX10_howManyOf_143 : decode cX10_howManyOf 143 = .ok (.ireturn, 1) := by decide +kernel
theorem dX10_howManyOf_144 : decode cX10_howManyOf 144 = .ok (.aload_n 0, 1) := by decide +kernel
theorem dX10_howManyOf_145 : decode cX10_howManyOf 145 = .ok (.getfield 155, 3) := by decide +kernel
theorem dX10_howManyOf_148 : decode cX10_howManyOf 148 = .ok (.ireturn, 1) := by decide +kernel
theorem dX10_howManyOf_149 : decode cX10_howManyOf 149 = .ok (.aload_n 0, 1) := by decide +kernel
theorem dX10_howManyOf_150 : decode cX10_howManyOf 150 = .ok (.getfield 158, 3) := by decide +kernel
theorem dX10_howManyOf_153 : decode cX10_howManyOf 153 = .ok (.ireturn, 1) := by decide +kernel
theorem dX10_howManyOf_154 : decode cX10_howManyOf 154 = .ok (.aload_n 0, 1) := by decide +kernel
theorem dX10_howManyOf_155 : decode cX10_howManyOf 155 = .ok (.getfield 164, 3) := by decide +kernel
theorem dX10_howManyOf_158 : decode cX10_howManyOf 158 = .ok (.ireturn, 1) := by decide +kernel
theorem dX10_howManyOf_159 : decode cX10_howManyOf 159 = .ok (.aload_n 0, 1) := by decide +kernel
theorem dX10_howManyOf_160 : decode cX10_howManyOf 160 = .ok (.getfield 102, 3) := by decide +kernel
theorem dX10_howManyOf_163 : decode cX10_howManyOf 163 = .ok (.ireturn, 1) := by decide +kernel
theorem dX10_howManyOf_164 : decode cX10_howManyOf 164 = .ok (.aload_n 0, 1) := by decide +kernel
theorem dX10_howManyOf_165 : decode cX10_howManyOf 165 = .ok (.getfield 161, 3) := by decide +kernel
theorem dX10_howManyOf_168 : decode cX10_howManyOf 168 = .ok (.ireturn, 1) := by decide +kernel
theorem dX10_howManyOf_169 : decode cX10_howManyOf 169 = .ok (.bipush (-102), 2) := by decide +kernel
theorem dX10_howManyOf_171 : decode cX10_howManyOf 171 = .ok (.ireturn, 1) := by decide +kernel
theorem dX10_count_0 : decode cX10_count 0 = .ok (.aload_n 0, 1) := by decide +kernel
theorem dX10_count_1 : decode cX10_count 1 = .ok (.iload_n 1, 1) := by decide +kernel
theorem dX10_count_2 : decode cX10_count 2 = .ok (.invokevirtual 359, 3) := by decide +kernel
theorem dX10_count_5 : decode cX10_count 5 = .ok (.ireturn, 1) := by decide +kernel
theorem dX10_mix_0 : decode cX10_mix 0 = .ok (.aload_n 0, 1) := by decide +kernel
theorem dX10_mix_1 : decode cX10_mix 1 = .ok (.ldc2_w 362, 3) := by decide +kernel
theorem dX10_mix_4 : decode cX10_mix 4 = .ok (.aload_n 0, 1) := by decide +kernel
theorem dX10_mix_5 : decode cX10_mix 5 = .ok (.getfield 364, 3) := by decide +kernel
theorem dX10_mix_8 : decode cX10_mix 8 = .ok (.lmul, 1) := by decide +kernel
theorem dX10_mix_9 : decode cX10_mix 9 = .ok (.lload_n 1, 1) := by decide +kernel
theorem dX10_mix_10 : decode cX10_mix 10 = .ok (.ladd, 1) := by decide +kernel
theorem dX10_mix_11 : decode cX10_mix 11 = .ok (.putfield 364, 3) := by decide +kernel
theorem dX10_mix_14 : decode cX10_mix 14 = .ok (.return_, 1) := by decide +kernel
theorem dX10_digest_0 : decode cX10_digest 0 = .ok (.aload_n 0, 1) := by decide +kernel
theorem dX10_digest_1 : decode cX10_digest 1 = .ok (.ldc2_w 367, 3) := by decide +kernel
theorem dX10_digest_4 : decode cX10_digest 4 = .ok (.putfield 364, 3) := by decide +kernel
theorem dX10_digest_7 : decode cX10_digest 7 = .ok (.iconst 0, 1) := by decide +kernel
theorem dX10_digest_8 : decode cX10_digest 8 = .ok (.istore_n 1, 1) := by decide +kernel
theorem dX10_digest_9 : decode cX10_digest 9 = .ok (.iload_n 1, 1) := by decide +kernel
theorem dX10_digest_10 : decode cX10_digest 10 = .ok (.aload_n 0, 1) := by decide +kernel
theorem dX10_digest_11 : decode cX10_digest 11 = .ok (.getfield 140, 3) := by decide +kernel
theorem dX10_digest_14 : decode cX10_digest 14 = .ok (.if_icmp .ge 34, 3) := by decide +kernel
theorem dX10_digest_17 : decode cX10_digest 17 = .ok (.iconst 0, 1) := by decide +kernel
theorem dX10_digest_18 : decode cX10_digest 18 = .ok (.istore_n 2, 1) := by decide +kernel
theorem dX10_digest_19 : decode cX10_digest 19 = .ok (.iload_n 2, 1) := by decide +kernel
theorem dX10_digest_20 : decode cX10_digest 20 = .ok (.bipush 15, 2) := by decide +kernel
theorem dX10_digest_22 : decode cX10_digest 22 = .ok (.if_icmp .ge 20, 3) := by decide +kernel
theorem dX10_digest_25 : decode cX10_digest 25 = .ok (.aload_n 0, 1) := by decide +kernel
theorem dX10_digest_26 : decode cX10_digest 26 = .ok (.aload_n 0, 1) := by decide +kernel
theorem dX10_digest_27 : decode cX10_digest 27 = .ok (.iload_n 1, 1) := by decide +kernel
theorem dX10_digest_28 : decode cX10_digest 28 = .ok (.iload_n 2, 1) := by decide +kernel
theorem dX10_digest_29 : decode cX10_digest 29 = .ok (.invokevirtual 201, 3) := by decide +kernel
theorem dX10_digest_32 : decode cX10_digest 32 = .ok (.i2l, 1) := by decide +kernel
theorem dX10_digest_33 : decode cX10_digest 33 = .ok (.invokevirtual 369, 3) := by decide +kernel
theorem dX10_digest_36 : decode cX10_digest 36 = .ok (.iinc 2 1, 3) := by decide +kernel
theorem dX10_digest_39 : decode cX10_digest 39 = .ok (.goto (-20), 3) := by decide +kernel
theorem dX10_digest_42 : decode cX10_digest 42 = .ok (.iinc 1 1, 3) := by decide +kernel
theorem dX10_digest_45 : decode cX10_digest 45 = .ok (.goto (-36), 3) := by decide +kernel
theorem dX10_digest_48 : decode cX10_digest 48 = .ok (.aload_n 0, 1) := by decide +kernel
theorem dX10_digest_49 : decode cX10_digest 49 = .ok (.getfield 140, 3) := by decide +kernel
theorem dX10_digest_52 : decode cX10_digest 52 = .ok (.ifCond .le 79, 3) := by decide +kernel
theorem dX10_digest_55 : decode cX10_digest 55 = .ok (.aload_n 0, 1) := by decide +kernel
theorem dX10_digest_56 : decode cX10_digest 56 = .ok (.aload_n 0, 1) := by decide +kernel
theorem dX10_digest_57 : decode cX10_digest 57 = .ok (.iconst 0, 1) := by decide +kernel
theorem dX10_digest_58 : decode cX10_digest 58 = .ok (.invokevirtual 261, 3) := by decide +kernel
theorem dX10_digest_61 : decode cX10_digest 61 = .ok (.i2l, 1) := by decide +kernel
theorem dX10_digest_62 : decode cX10_digest 62 = .ok (.invokevirtual 369, 3) := by decide +kernel
theorem dX10_digest_65 : decode cX10_digest 65 = .ok (.aload_n 0, 1) := by decide +kernel
theorem dX10_digest_66 : decode cX10_digest 66 = .ok (.aload_n 0, 1) := by decide +kernel
theorem dX10_digest_67 : decode cX10_digest 67 = .ok (.iconst 1, 1) := by decide +kernel
theorem dX10_digest_68 : decode cX10_digest 68 = .ok (.invokevirtual 261, 3) := by decide +kernel
theorem dX10_digest_71 : decode cX10_digest 71 = .ok (.i2l, 1) := by decide +kernel
theorem dX10_digest_72 : decode cX10_digest 72 = .ok (.invokevirtual 369, 3) := by decide +kernel
theorem dX10_digest_75 : decode cX10_digest 75 = .ok (.bipush 10, 2) := by decide +kernel
theorem dX10_digest_77 : decode cX10_digest 77 = .ok (.istore_n 1, 1) := by decide +kernel
theorem dX10_digest_78 : decode cX10_digest 78 = .ok (.iload_n 1, 1) := by decide +kernel
theorem dX10_digest_79 : decode cX10_digest 79 = .ok (.bipush 14, 2) := by decide +kernel
theorem dX10_digest_81 : decode cX10_digest 81 = .ok (.if_icmp .ge 19, 3) := by decide +kernel
theorem dX10_digest_84 : decode cX10_digest 84 = .ok (.aload_n 0, 1) := by decide +kernel
theorem dX10_digest_85 : decode cX10_digest 85 = .ok (.aload_n 0, 1) := by decide +kernel
theorem dX10_digest_86 : decode cX10_digest 86 = .ok (.iload_n 1, 1) := by decide +kernel
theorem dX10_digest_87 : decode cX10_digest 87 = .ok (.invokevirtual 261, 3) := by decide +kernel
theorem dX10_digest_90 : decode cX10_digest 90 = .ok (.i2l, 1) := by decide +kernel
theorem dX10_digest_91 : decode cX10_digest 91 = .ok (.invokevirtual 369, 3) := by decide +kernel
theorem dX10_digest_94 : decode cX10_digest 94 = .ok (.iinc 1 1, 3) := by decide +kernel
theorem dX10_digest_97 : decode cX10_digest 97 = .ok (.goto (-19), 3) := by decide +kernel
theorem dX10_digest_100 : decode cX10_digest 100 = .ok (.aload_n 0, 1) := by decide +kernel
theorem dX10_digest_101 : decode cX10_digest 101 = .ok (.aload_n 0, 1) := by decide +kernel
theorem dX10_digest_102 : decode cX10_digest 102 = .ok (.invokevirtual 264, 3) := by decide +kernel
theorem dX10_digest_105 : decode cX10_digest 105 = .ok (.i2l, 1) := by decide +kernel
theorem dX10_digest_106 : decode cX10_digest 106 = .ok (.invokevirtual 369, 3) := by decide +kernel
theorem dX10_digest_109 : decode cX10_digest 109 = .ok (.aload_n 0, 1) := by decide +kernel
theorem dX10_digest_110 : decode cX10_digest 110 = .ok (.aload_n 0, 1) := by decide +kernel
theorem dX10_digest_111 : decode cX10_digest 111 = .ok (.iconst 3, 1) := by decide +kernel
theorem dX10_digest_112 : decode cX10_digest 112 = .ok (.iconst 0, 1) := by decide +kernel
theorem dX10_digest_113 : decode cX10_digest 113 = .ok (.invokevirtual 298, 3) := by decide +kernel
theorem dX10_digest_116 : decode cX10_digest 116 = .ok (.i2l, 1) := by decide +kernel
theorem dX10_digest_117 : decode cX10_digest 117 = .ok (.invokevirtual 369, 3) := by decide +kernel
theorem dX10_digest_120 : decode cX10_digest 120 = .ok (.aload_n 0, 1) := by decide +kernel
theorem dX10_digest_121 : decode cX10_digest 121 = .ok (.aload_n 0, 1) := by decide +kernel
theorem dX10_digest_122 : decode cX10_digest 122 = .ok (.iconst 3, 1) := by decide +kernel
theorem dX10_digest_123 : decode cX10_digest 123 = .ok (.iconst 1, 1) := by decide +kernel
theorem dX10_digest_124 : decode cX10_digest 124 = .ok (.invokevirtual 298, 3) := by decide +kernel
theorem dX10_digest_127 : decode cX10_digest 127 = .ok (.i2l, 1) := by decide +kernel
theorem dX10_digest_128 : decode cX10_digest 128 = .ok (.invokevirtual 369, 3) := by decide +kernel
theorem dX10_digest_131 : decode cX10_digest 131 = .ok (.iconst 0, 1) := by decide +kernel
theorem dX10_digest_132 : decode cX10_digest 132 = .ok (.istore_n 1, 1) := by decide +kernel
theorem dX10_digest_133 : decode cX10_digest 133 = .ok (.iload_n 1, 1) := by decide +kernel
theorem dX10_digest_134 : decode cX10_digest 134 = .ok (.aload_n 0, 1) := by decide +kernel
theorem dX10_digest_135 : decode cX10_digest 135 = .ok (.getfield 102, 3) := by decide +kernel
theorem dX10_digest_138 : decode cX10_digest 138 = .ok (.if_icmp .ge 20, 3) := by decide +kernel
theorem dX10_digest_141 : decode cX10_digest 141 = .ok (.aload_n 0, 1) := by decide +kernel
theorem dX10_digest_142 : decode cX10_digest 142 = .ok (.aload_n 0, 1) := by decide +kernel
theorem dX10_digest_143 : decode cX10_digest 143 = .ok (.getfield 46, 3) := by decide +kernel
theorem dX10_digest_146 : decode cX10_digest 146 = .ok (.iload_n 1, 1) := by decide +kernel
theorem dX10_digest_147 : decode cX10_digest 147 = .ok (.baload, 1) := by decide +kernel
theorem dX10_digest_148 : decode cX10_digest 148 = .ok (.i2l, 1) := by decide +kernel
theorem dX10_digest_149 : decode cX10_digest 149 = .ok (.invokevirtual 369, 3) := by decide +kernel
theorem dX10_digest_152 : decode cX10_digest 152 = .ok (.iinc 1 1, 3) := by decide +kernel
theorem dX10_digest_155 : decode cX10_digest 155 = .ok (.goto (-22), 3) := by decide +kernel
theorem dX10_digest_158 : decode cX10_digest 158 = .ok (.iconst 0, 1) := by decide +kernel
theorem dX10_digest_159 : decode cX10_digest 159 = .ok (.istore_n 1, 1) := by decide +kernel
theorem dX10_digest_160 : decode cX10_digest 160 = .ok (.iload_n 1, 1) := by decide +kernel
theorem dX10_digest_161 : decode cX10_digest 161 = .ok (.bipush 15, 2) := by decide +kernel
theorem dX10_digest_163 : decode cX10_digest 163 = .ok (.if_icmp .ge 19, 3) := by decide +kernel
theorem dX10_digest_166 : decode cX10_digest 166 = .ok (.aload_n 0, 1) := by decide +kernel
theorem dX10_digest_167 : decode cX10_digest 167 = .ok (.aload_n 0, 1) := by decide +kernel
theorem dX10_digest_168 : decode cX10_digest 168 = .ok (.iload_n 1, 1) := by decide +kernel
theorem dX10_digest_169 : decode cX10_digest 169 = .ok (.invokevirtual 359, 3) := by decide +kernel
theorem dX10_digest_172 : decode cX10_digest 172 = .ok (.i2l, 1) := by decide +kernel
theorem dX10_digest_173 : decode cX10_digest 173 = .ok (.invokevirtual 369, 3) := by decide +kernel
theorem dX10_digest_176 : decode cX10_digest 176 = .ok (.iinc 1 1, 3) := by decide +kernel
theorem dX10_digest_179 : decode cX10_digest 179 = .ok (.goto (-19), 3) := by decide +kernel
theorem dX10_digest_182 : decode cX10_digest 182 = .ok (.aload_n 0, 1) := by decide +kernel
theorem dX10_digest_183 : decode cX10_digest 183 = .ok (.getfield 364, 3) := by decide +kernel
theorem dX10_digest_186 : decode cX10_digest 186 = .ok (.lreturn, 1) := by decide +kernel
theorem dJ6_bitCount_0f7a4_0 : decode cJ6_bitCount_0f7a4 0 = .ok (.iload_n 0, 1) := by decide +kernel
theorem dJ6_bitCount_0f7a4_1 : decode cJ6_bitCount_0f7a4 1 = .ok (.iload_n 0, 1) := by decide +kernel
theorem dJ6_bitCount_0f7a4_2 : decode cJ6_bitCount_0f7a4 2 = .ok (.iconst 1, 1) := by decide +kernel
theorem dJ6_bitCount_0f7a4_3 : decode cJ6_bitCount_0f7a4 3 = .ok (.iushr, 1) := by decide +kernel
theorem dJ6_bitCount_0f7a4_4 : decode cJ6_bitCount_0f7a4 4 = .ok (.ldc_w 265, 3) := by decide +kernel
theorem dJ6_bitCount_0f7a4_7 : decode cJ6_bitCount_0f7a4 7 = .ok (.iand, 1) := by decide +kernel
theorem dJ6_bitCount_0f7a4_8 : decode cJ6_bitCount_0f7a4 8 = .ok (.isub, 1) := by decide +kernel
theorem dJ6_bitCount_0f7a4_9 : decode cJ6_bitCount_0f7a4 9 = .ok (.istore_n 0, 1) := by decide +kernel
theorem dJ6_bitCount_0f7a4_10 : decode cJ6_bitCount_0f7a4 10 = .ok (.iload_n 0, 1) := by decide +kernel
theorem dJ6_bitCount_0f7a4_11 : decode cJ6_bitCount_0f7a4 11 = .ok (.ldc_w 266, 3) := by decide +kernel
theorem dJ6_bitCount_0f7a4_14 : decode cJ6_bitCount_0f7a4 14 = .ok (.iand, 1) := by decide +kernel
theorem dJ6_bitCount_0f7a4_15 : decode cJ6_bitCount_0f7a4 15 = .ok (.iload_n 0, 1) := by decide +kernel
theorem dJ6_bitCount_0f7a4_16 : decode cJ6_bitCount_0f7a4 16 = .ok (.iconst 2, 1) := by decide +kernel
theorem dJ6_bitCount_0f7a4_17 : decode cJ6_bitCount_0f7a4 17 = .ok (.iushr, 1) := by decide +kernel
theorem dJ6_bitCount_0f7a4_18 : decode cJ6_bitCount_0f7a4 18 = .ok (.ldc_w 266, 3) := by decide +kernel
theorem dJ6_bitCount_0f7a4_21 : decode cJ6_bitCount_0f7a4 21 = .ok (.iand, 1) := by decide +kernel
theorem dJ6_bitCount_0f7a4_22 : decode cJ6_bitCount_0f7a4 22 = .ok (.iadd, 1) := by decide +kernel
theorem dJ6_bitCount_0f7a4_23 : decode cJ6_bitCount_0f7a4 23 = .ok (.istore_n 0, 1) := by decide +kernel
theorem dJ6_bitCount_0f7a4_24 : decode cJ6_bitCount_0f7a4 24 = .ok (.iload_n 0, 1) := by decide +kernel
theorem dJ6_bitCount_0f7a4_25 : decode cJ6_bitCount_0f7a4 25 = .ok (.iload_n 0, 1) := by decide +kernel
theorem dJ6_bitCount_0f7a4_26 : decode cJ6_bitCount_0f7a4 26 = .ok (.iconst 4, 1) := by decide +kernel
theorem dJ6_bitCount_0f7a4_27 : decode cJ6_bitCount_0f7a4 27 = .ok (.iushr, 1) := by decide +kernel
theorem dJ6_bitCount_0f7a4_28 : decode cJ6_bitCount_0f7a4 28 = .ok (.iadd, 1) := by decide +kernel
theorem dJ6_bitCount_0f7a4_29 : decode cJ6_bitCount_0f7a4 29 = .ok (.ldc_w 267, 3) := by decide +kernel
theorem dJ6_bitCount_0f7a4_32 : decode cJ6_bitCount_0f7a4 32 = .ok (.iand, 1) := by decide +kernel
theorem dJ6_bitCount_0f7a4_33 : decode cJ6_bitCount_0f7a4 33 = .ok (.istore_n 0, 1) := by decide +kernel
theorem dJ6_bitCount_0f7a4_34 : decode cJ6_bitCount_0f7a4 34 = .ok (.iload_n 0, 1) := by decide +kernel
theorem dJ6_bitCount_0f7a4_35 : decode cJ6_bitCount_0f7a4 35 = .ok (.iload_n 0, 1) := by decide +kernel
theorem dJ6_bitCount_0f7a4_36 : decode cJ6_bitCount_0f7a4 36 = .ok (.bipush 8, 2) := by decide +kernel
theorem dJ6_bitCount_0f7a4_38 : decode cJ6_bitCount_0f7a4 38 = .ok (.iushr, 1) := by decide +kernel
theorem dJ6_bitCount_0f7a4_39 : decode cJ6_bitCount_0f7a4 39 = .ok (.iadd, 1) := by decide +kernel
theorem dJ6_bitCount_0f7a4_40 : decode cJ6_bitCount_0f7a4 40 = .ok (.istore_n 0, 1) := by decide +kernel
theorem dJ6_bitCount_0f7a4_41 : decode cJ6_bitCount_0f7a4 41 = .ok (.iload_n 0, 1) := by decide +kernel
theorem dJ6_bitCount_0f7a4_42 : decode cJ6_bitCount_0f7a4 42 = .ok (.iload_n 0, 1) := by decide +kernel
theorem dJ6_bitCount_0f7a4_43 : decode cJ6_bitCount_0f7a4 43 = .ok (.bipush 16, 2) := by decide +kernel
theorem dJ6_bitCount_0f7a4_45 : decode cJ6_bitCount_0f7a4 45 = .ok (.iushr, 1) := by decide +kernel
theorem dJ6_bitCount_0f7a4_46 : decode cJ6_bitCount_0f7a4 46 = .ok (.iadd, 1) := by decide +kernel
theorem dJ6_bitCount_0f7a4_47 : decode cJ6_bitCount_0f7a4 47 = .ok (.istore_n 0, 1) := by decide +kernel
theorem dJ6_bitCount_0f7a4_48 : decode cJ6_bitCount_0f7a4 48 = .ok (.iload_n 0, 1) := by decide +kernel
theorem dJ6_bitCount_0f7a4_49 : decode cJ6_bitCount_0f7a4 49 = .ok (.bipush 63, 2) := by decide +kernel
theorem dJ6_bitCount_0f7a4_51 : decode cJ6_bitCount_0f7a4 51 = .ok (.iand, 1) := by decide +kernel
theorem dJ6_bitCount_0f7a4_52 : decode cJ6_bitCount_0f7a4 52 = .ok (.ireturn, 1) := by decide +kernel
theorem dJ9_abs_0f7a4_0 : decode cJ9_abs_0f7a4 0 = .ok (.iload_n 0, 1) := by decide +kernel
theorem dJ9_abs_0f7a4_1 : decode cJ9_abs_0f7a4 1 = .ok (.ifCond .ge 8, 3) := by decide +kernel
theorem dJ9_abs_0f7a4_4 : decode cJ9_abs_0f7a4 4 = .ok (.iload_n 0, 1) := by decide +kernel
theorem dJ9_abs_0f7a4_5 : decode cJ9_abs_0f7a4 5 = .ok (.ineg, 1) := by decide +kernel
theorem dJ9_abs_0f7a4_6 : decode cJ9_abs_0f7a4 6 = .ok (.goto 4, 3) := by decide +kernel
theorem dJ9_abs_0f7a4_9 : decode cJ9_abs_0f7a4 9 = .ok (.iload_n 0, 1) := by decide +kernel
theorem dJ9_abs_0f7a4_10 : decode cJ9_abs_0f7a4 10 = .ok (.ireturn, 1) := by decide +kernel
theorem dJ9_max_7cf53_0 : decode cJ9_max_7cf53 0 = .ok (.iload_n 0, 1) := by decide +kernel
theorem dJ9_max_7cf53_1 : decode cJ9_max_7cf53 1 = .ok (.iload_n 1, 1) := by decide +kernel
theorem dJ9_max_7cf53_2 : decode cJ9_max_7cf53 2 = .ok (.if_icmp .lt 7, 3) := by decide +kernel
theorem dJ9_max_7cf53_5 : decode cJ9_max_7cf53 5 = .ok (.iload_n 0, 1) := by decide +kernel
theorem dJ9_max_7cf53_6 : decode cJ9_max_7cf53 6 = .ok (.goto 4, 3) := by decide +kernel
theorem dJ9_max_7cf53_9 : decode cJ9_max_7cf53 9 = .ok (.iload_n 1, 1) := by decide +kernel
theorem dJ9_max_7cf53_10 : decode cJ9_max_7cf53 10 = .ok (.ireturn, 1) := by decide +kernel
theorem dL_law_0 : decode cL_law 0 = .ok (.new 7, 3) := by decide +kernel
theorem dL_law_3 : decode cL_law 3 = .ok (.dup, 1) := by decide +kernel
theorem dL_law_4 : decode cL_law 4 = .ok (.invokespecial 9, 3) := by decide +kernel
theorem dL_law_7 : decode cL_law 7 = .ok (.astore_n 1, 1) := by decide +kernel
theorem dL_law_8 : decode cL_law 8 = .ok (.new 10, 3) := by decide +kernel
theorem dL_law_11 : decode cL_law 11 = .ok (.dup, 1) := by decide +kernel
theorem dL_law_12 : decode cL_law 12 = .ok (.invokespecial 12, 3) := by decide +kernel
theorem dL_law_15 : decode cL_law 15 = .ok (.astore_n 2, 1) := by decide +kernel
theorem dL_law_16 : decode cL_law 16 = .ok (.iconst 0, 1) := by decide +kernel
theorem dL_law_17 : decode cL_law 17 = .ok (.istore_n 3, 1) := by decide +kernel
theorem dL_law_18 : decode cL_law 18 = .ok (.iload_n 3, 1) := by decide +kernel
theorem dL_law_19 : decode cL_law 19 = .ok (.aload_n 0, 1) := by decide +kernel
theorem dL_law_20 : decode cL_law 20 = .ok (.arraylength, 1) := by decide +kernel
theorem dL_law_21 : decode cL_law 21 = .ok (.iconst 4, 1) := by decide +kernel
theorem dL_law_22 : decode cL_law 22 = .ok (.isub, 1) := by decide +kernel
theorem dL_law_23 : decode cL_law 23 = .ok (.if_icmp .gt 847, 3) := by decide +kernel
theorem dL_law_26 : decode cL_law 26 = .ok (.aload_n 0, 1) := by decide +kernel
theorem dL_law_27 : decode cL_law 27 = .ok (.iload_n 3, 1) := by decide +kernel
theorem dL_law_28 : decode cL_law 28 = .ok (.iaload, 1) := by decide +kernel
theorem dL_law_29 : decode cL_law 29 = .ok (.bipush 31, 2) := by decide +kernel
theorem dL_law_31 : decode cL_law 31 = .ok (.iand, 1) := by decide +kernel
theorem dL_law_32 : decode cL_law 32 = .ok (.tableswitch 832 0 26 #[124, 147, 160, 173, 186, 219, 252, 285, 318, 341, 374, 407, 420, 453, 476, 499, 512, 555, 588, 631, 654, 713, 726, 769, 782, 795, 818], 124) := by decide +kernel
theorem dL_law_156 : decode cL_law 156 = .ok (.aload_n 1, 1) := by decide +kernel
theorem dL_law_157 : decode cL_law 157 = .ok (.aload_n 0, 1) := by decide +kernel
theorem dL_law_158 : decode cL_law 158 = .ok (.iload_n 3, 1) := by decide +kernel
theorem dL_law_159 : decode cL_law 159 = .ok (.iconst 1, 1) := by decide +kernel
theorem dL_law_160 : decode cL_law 160 = .ok (.iadd, 1) := by decide +kernel
theorem dL_law_161 : decode cL_law 161 = .ok (.iaload, 1) := by decide +kernel
theorem dL_law_162 : decode cL_law 162 = .ok (.invokevirtual 13, 3) := by decide +kernel
theorem dL_law_165 : decode cL_law 165 = .ok (.aload_n 2, 1) := by decide +kernel
theorem dL_law_166 : decode cL_law 166 = .ok (.aload_n 0, 1) := by decide +kernel
theorem dL_law_167 : decode cL_law 167 = .ok (.iload_n 3, 1) := by decide +kernel
theorem dL_law_168 : decode cL_law 168 = .ok (.iconst 1, 1) := by decide +kernel
theorem dL_law_169 : decode cL_law 169 = .ok (.iadd, 1) := by decide +kernel
theorem dL_law_170 : decode cL_law 170 = .ok (.iaload, 1) := by decide +kernel
theorem dL_law_171 : decode cL_law 171 = .ok (.invokevirtual 17, 3) := by decide +kernel
theorem dL_law_174 : decode cL_law 174 = .ok (.if_icmp .eq 690, 3) := by decide +kernel
theorem dL_law_177 : decode cL_law 177 = .ok (.iconst 0, 1) := by decide +kernel
theorem dL_law_178 : decode cL_law 178 = .ok (.ireturn, 1) := by decide +kernel
theorem dL_law_179 : decode cL_law 179 = .ok (.aload_n 1, 1) := by decide +kernel
theorem dL_law_180 : decode cL_law 180 = .ok (.invokevirtual 18, 3) := by decide +kernel
theorem dL_law_183 : decode cL_law 183 = .ok (.aload_n 2, 1) := by decide +kernel
theorem dL_law_184 : decode cL_law 184 = .ok (.invokevirtual 22, 3) := by decide +kernel
theorem dL_law_187 : decode cL_law 187 = .ok (.if_icmp .eq 677, 3) := by decide +kernel
theorem dL_law_190 : decode cL_law 190 = .ok (.iconst 0, 1) := by decide +kernel
theorem dL_law_191 : decode cL_law 191 = .ok (.ireturn, 1) := by decide +kernel
theorem dL_law_192 : decode cL_law 192 = .ok (.aload_n 1, 1) := by decide +kernel
theorem dL_law_193 : decode cL_law 193 = .ok (.invokevirtual 23, 3) := by decide +kernel
theorem dL_law_196 : decode cL_law 196 = .ok (.aload_n 2, 1) := by decide +kernel
theorem dL_law_197 : decode cL_law 197 = .ok (.invokevirtual 26, 3) := by decide +kernel
theorem dL_law_200 : decode cL_law 200 = .ok (.if_icmp .eq 664, 3) := by decide +kernel
theorem dL_law_203 : decode cL_law 203 = .ok (.iconst 0, 1) := by decide +kernel
theorem dL_law_204 : decode cL_law 204 = .ok (.ireturn, 1) := by decide +kernel
theorem dL_law_205 : decode cL_law 205 = .ok (.aload_n 1, 1) := by decide +kernel
theorem dL_law_206 : decode cL_law 206 = .ok (.invokevirtual 27, 3) := by decide +kernel
theorem dL_law_209 : decode cL_law 209 = .ok (.aload_n 2, 1) := by decide +kernel
theorem dL_law_210 : decode cL_law 210 = .ok (.invokevirtual 30, 3) := by decide +kernel
theorem dL_law_213 : decode cL_law 213 = .ok (.if_icmp .eq 651, 3) := by decide +kernel
theorem dL_law_216 : decode cL_law 216 = .ok (.iconst 0, 1) := by decide +kernel
theorem dL_law_217 : decode cL_law 217 = .ok (.ireturn, 1) := by decide +kernel
theorem dL_law_218 : decode cL_law 218 = .ok (.aload_n 1, 1) := by decide +kernel
theorem dL_law_219 : decode cL_law 219 = .ok (.aload_n 0, 1) := by decide +kernel
theorem dL_law_220 : decode cL_law 220 = .ok (.iload_n 3, 1) := by decide +kernel
theorem dL_law_221 : decode cL_law 221 = .ok (.iconst 1, 1) := by decide +kernel
theorem dL_law_222 : decode cL_law 222 = .ok (.iadd, 1) := by decide +kernel
theorem dL_law_223 : decode cL_law 223 = .ok (.iaload, 1) := by decide +kernel
theorem dL_law_224 : decode cL_law 224 = .ok (.aload_n 0, 1) := by decide +kernel
theorem dL_law_225 : decode cL_law 225 = .ok (.iload_n 3, 1) := by decide +kernel
theorem dL_law_226 : decode cL_law 226 = .ok (.iconst 2, 1) := by decide +kernel
theorem dL_law_227 : decode cL_law 227 = .ok (.iadd, 1) := by decide +kernel
theorem dL_law_228 : decode cL_law 228 = .ok (.iaload, 1) := by decide +kernel
theorem dL_law_229 : decode cL_law 229 = .ok (.invokevirtual 31, 3) := by decide +kernel
theorem dL_law_232 : decode cL_law 232 = .ok (.aload_n 2, 1) := by decide +kernel
theorem dL_law_233 : decode cL_law 233 = .ok (.aload_n 0, 1) := by decide +kernel
theorem dL_law_234 : decode cL_law 234 = .ok (.iload_n 3, 1) := by decide +kernel
theorem dL_law_235 : decode cL_law 235 = .ok (.iconst 1, 1) := by decide +kernel
theorem dL_law_236 : decode cL_law 236 = .ok (.iadd, 1) := by decide +kernel
theorem dL_law_237 : decode cL_law 237 = .ok (.iaload, 1) := by decide +kernel
theorem dL_law_238 : decode cL_law 238 = .ok (.aload_n 0, 1) := by decide +kernel
theorem dL_law_239 : decode cL_law 239 = .ok (.iload_n 3, 1) := by decide +kernel
theorem dL_law_240 : decode cL_law 240 = .ok (.iconst 2, 1) := by decide +kernel
theorem dL_law_241 : decode cL_law 241 = .ok (.iadd, 1) := by decide +kernel
theorem dL_law_242 : decode cL_law 242 = .ok (.iaload, 1) := by decide +kernel
theorem dL_law_243 : decode cL_law 243 = .ok (.invokevirtual 35, 3) := by decide +kernel
theorem dL_law_246 : decode cL_law 246 = .ok (.if_icmp .eq 618, 3) := by decide +kernel
theorem dL_law_249 : decode cL_law 249 = .ok (.iconst 0, 1) := by decide +kernel
theorem dL_law_250 : decode cL_law 250 = .ok (.ireturn, 1) := by decide +kernel
theorem dL_law_251 : decode cL_law 251 = .ok (.aload_n 1, 1) := by decide +kernel
theorem dL_law_252 : decode cL_law 252 = .ok (.aload_n 0, 1) := by decide +kernel
theorem dL_law_253 : decode cL_law 253 = .ok (.iload_n 3, 1) := by decide +kernel
theorem dL_law_254 : decode cL_law 254 = .ok (.iconst 1, 1) := by decide +kernel
theorem dL_law_255 : decode cL_law 255 = .ok (.iadd, 1) := by decide +kernel
theorem dL_law_256 : decode cL_law 256 = .ok (.iaload, 1) := by decide +kernel
theorem dL_law_257 : decode cL_law 257 = .ok (.aload_n 0, 1) := by decide +kernel
theorem dL_law_258 : decode cL_law 258 = .ok (.iload_n 3, 1) := by decide +kernel
theorem dL_law_259 : decode cL_law 259 = .ok (.iconst 2, 1) := by decide +kernel
theorem dL_law_260 : decode cL_law 260 = .ok (.iadd, 1) := by decide +kernel
theorem dL_law_261 : decode cL_law 261 = .ok (.iaload, 1) := by decide +kernel
theorem dL_law_262 : decode cL_law 262 = .ok (.invokevirtual 36, 3) := by decide +kernel
theorem dL_law_265 : decode cL_law 265 = .ok (.aload_n 2, 1) := by decide +kernel
theorem dL_law_266 : decode cL_law 266 = .ok (.aload_n 0, 1) := by decide +kernel
theorem dL_law_267 : decode cL_law 267 = .ok (.iload_n 3, 1) := by decide +kernel
theorem dL_law_268 : decode cL_law 268 = .ok (.iconst 1, 1) := by decide +kernel
theorem dL_law_269 : decode cL_law 269 = .ok (.iadd, 1) := by decide +kernel
theorem dL_law_270 : decode cL_law 270 = .ok (.iaload, 1) := by decide +kernel
theorem dL_law_271 : decode cL_law 271 = .ok (.aload_n 0, 1) := by decide +kernel
theorem dL_law_272 : decode cL_law 272 = .ok (.iload_n 3, 1) := by decide +kernel
theorem dL_law_273 : decode cL_law 273 = .ok (.iconst 2, 1) := by decide +kernel
theorem dL_law_274 : decode cL_law 274 = .ok (.iadd, 1) := by decide +kernel
theorem dL_law_275 : decode cL_law 275 = .ok (.iaload, 1) := by decide +kernel
theorem dL_law_276 : decode cL_law 276 = .ok (.invokevirtual 39, 3) := by decide +kernel
theorem dL_law_279 : decode cL_law 279 = .ok (.if_icmp .eq 585, 3) := by decide +kernel
theorem dL_law_282 : decode cL_law 282 = .ok (.iconst 0, 1) := by decide +kernel
theorem dL_law_283 : decode cL_law 283 = .ok (.ireturn, 1) := by decide +kernel
theorem dL_law_284 : decode cL_law 284 = .ok (.aload_n 1, 1) := by decide +kernel
theorem dL_law_285 : decode cL_law 285 = .ok (.aload_n 0, 1) := by decide +kernel
theorem dL_law_286 : decode cL_law 286 = .ok (.iload_n 3, 1) := by decide +kernel
theorem dL_law_287 : decode cL_law 287 = .ok (.iconst 1, 1) := by decide +kernel
theorem dL_law_288 : decode cL_law 288 = .ok (.iadd, 1) := by decide +kernel
theorem dL_law_289 : decode cL_law 289 = .ok (.iaload, 1) := by decide +kernel
theorem dL_law_290 : decode cL_law 290 = .ok (.aload_n 0, 1) := by decide +kernel
theorem dL_law_291 : decode cL_law 291 = .ok (.iload_n 3, 1) := by decide +kernel
theorem dL_law_292 : decode cL_law 292 = .ok (.iconst 2, 1) := by decide +kernel
theorem dL_law_293 : decode cL_law 293 = .ok (.iadd, 1) := by decide +kernel
theorem dL_law_294 : decode cL_law 294 = .ok (.iaload, 1) := by decide +kernel
theorem dL_law_295 : decode cL_law 295 = .ok (.invokevirtual 40, 3) := by decide +kernel
theorem dL_law_298 : decode cL_law 298 = .ok (.aload_n 2, 1) := by decide +kernel
theorem dL_law_299 : decode cL_law 299 = .ok (.aload_n 0, 1) := by decide +kernel
theorem dL_law_300 : decode cL_law 300 = .ok (.iload_n 3, 1) := by decide +kernel
theorem dL_law_301 : decode cL_law 301 = .ok (.iconst 1, 1) := by decide +kernel
theorem dL_law_302 : decode cL_law 302 = .ok (.iadd, 1) := by decide +kernel
theorem dL_law_303 : decode cL_law 303 = .ok (.iaload, 1) := by decide +kernel
theorem dL_law_304 : decode cL_law 304 = .ok (.aload_n 0, 1) := by decide +kernel
theorem dL_law_305 : decode cL_law 305 = .ok (.iload_n 3, 1) := by decide +kernel
theorem dL_law_306 : decode cL_law 306 = .ok (.iconst 2, 1) := by decide +kernel
theorem dL_law_307 : decode cL_law 307 = .ok (.iadd, 1) := by decide +kernel
theorem dL_law_308 : decode cL_law 308 = .ok (.iaload, 1) := by decide +kernel
theorem dL_law_309 : decode cL_law 309 = .ok (.invokevirtual 43, 3) := by decide +kernel
theorem dL_law_312 : decode cL_law 312 = .ok (.if_icmp .eq 552, 3) := by decide +kernel
theorem dL_law_315 : decode cL_law 315 = .ok (.iconst 0, 1) := by decide +kernel
theorem dL_law_316 : decode cL_law 316 = .ok (.ireturn, 1) := by decide +kernel
theorem dL_law_317 : decode cL_law 317 = .ok (.aload_n 1, 1) := by decide +kernel
theorem dL_law_318 : decode cL_law 318 = .ok (.aload_n 0, 1) := by decide +kernel
theorem dL_law_319 : decode cL_law 319 = .ok (.iload_n 3, 1) := by decide +kernel
theorem dL_law_320 : decode cL_law 320 = .ok (.iconst 1, 1) := by decide +kernel
theorem dL_law_321 : decode cL_law 321 = .ok (.iadd, 1) := by decide +kernel
theorem dL_law_322 : decode cL_law 322 = .ok (.iaload, 1) := by decide +kernel
theorem dL_law_323 : decode cL_law 323 = .ok (.aload_n 0, 1) := by decide +kernel
theorem dL_law_324 : decode cL_law 324 = .ok (.iload_n 3, 1) := by decide +kernel
theorem dL_law_325 : decode cL_law 325 = .ok (.iconst 2, 1) := by decide +kernel
theorem dL_law_326 : decode cL_law 326 = .ok (.iadd, 1) := by decide +kernel
theorem dL_law_327 : decode cL_law 327 = .ok (.iaload, 1) := by decide +kernel
theorem dL_law_328 : decode cL_law 328 = .ok (.invokevirtual 44, 3) := by decide +kernel
theorem dL_law_331 : decode cL_law 331 = .ok (.aload_n 2, 1) := by decide +kernel
theorem dL_law_332 : decode cL_law 332 = .ok (.aload_n 0, 1) := by decide +kernel
theorem dL_law_333 : decode cL_law 333 = .ok (.iload_n 3, 1) := by decide +kernel
theorem dL_law_334 : decode cL_law 334 = .ok (.iconst 1, 1) := by decide +kernel
theorem dL_law_335 : decode cL_law 335 = .ok (.iadd, 1) := by decide +kernel
theorem dL_law_336 : decode cL_law 336 = .ok (.iaload, 1) := by decide +kernel
theorem dL_law_337 : decode cL_law 337 = .ok (.aload_n 0, 1) := by decide +kernel
theorem dL_law_338 : decode cL_law 338 = .ok (.iload_n 3, 1) := by decide +kernel
theorem dL_law_339 : decode cL_law 339 = .ok (.iconst 2, 1) := by decide +kernel
theorem dL_law_340 : decode cL_law 340 = .ok (.iadd, 1) := by decide +kernel
theorem dL_law_341 : decode cL_law 341 = .ok (.iaload, 1) := by decide +kernel
theorem dL_law_342 : decode cL_law 342 = .ok (.invokevirtual 47, 3) := by decide +kernel
theorem dL_law_345 : decode cL_law 345 = .ok (.if_icmp .eq 519, 3) := by decide +kernel
theorem dL_law_348 : decode cL_law 348 = .ok (.iconst 0, 1) := by decide +kernel
theorem dL_law_349 : decode cL_law 349 = .ok (.ireturn, 1) := by decide +kernel
theorem dL_law_350 : decode cL_law 350 = .ok (.aload_n 1, 1) := by decide +kernel
theorem dL_law_351 : decode cL_law 351 = .ok (.aload_n 0, 1) := by decide +kernel
theorem dL_law_352 : decode cL_law 352 = .ok (.iload_n 3, 1) := by decide +kernel
theorem dL_law_353 : decode cL_law 353 = .ok (.iconst 1, 1) := by decide +kernel
theorem dL_law_354 : decode cL_law 354 = .ok (.iadd, 1) := by decide +kernel
theorem dL_law_355 : decode cL_law 355 = .ok (.iaload, 1) := by decide +kernel
theorem dL_law_356 : decode cL_law 356 = .ok (.invokevirtual 48, 3) := by decide +kernel
theorem dL_law_359 : decode cL_law 359 = .ok (.aload_n 2, 1) := by decide +kernel
theorem dL_law_360 : decode cL_law 360 = .ok (.aload_n 0, 1) := by decide +kernel
theorem dL_law_361 : decode cL_law 361 = .ok (.iload_n 3, 1) := by decide +kernel
theorem dL_law_362 : decode cL_law 362 = .ok (.iconst 1, 1) := by decide +kernel
theorem dL_law_363 : decode cL_law 363 = .ok (.iadd, 1) := by decide +kernel
theorem dL_law_364 : decode cL_law 364 = .ok (.iaload, 1) := by decide +kernel
theorem dL_law_365 : decode cL_law 365 = .ok (.invokevirtual 51, 3) := by decide +kernel
theorem dL_law_368 : decode cL_law 368 = .ok (.if_icmp .eq 496, 3) := by decide +kernel
theorem dL_law_371 : decode cL_law 371 = .ok (.iconst 0, 1) := by decide +kernel
theorem dL_law_372 : decode cL_law 372 = .ok (.ireturn, 1) := by decide +kernel
theorem dL_law_373 : decode cL_law 373 = .ok (.aload_n 1, 1) := by decide +kernel
theorem dL_law_374 : decode cL_law 374 = .ok (.aload_n 0, 1) := by decide +kernel
theorem dL_law_375 : decode cL_law 375 = .ok (.iload_n 3, 1) := by decide +kernel
theorem dL_law_376 : decode cL_law 376 = .ok (.iconst 1, 1) := by decide +kernel
theorem dL_law_377 : decode cL_law 377 = .ok (.iadd, 1) := by decide +kernel
theorem dL_law_378 : decode cL_law 378 = .ok (.iaload, 1) := by decide +kernel
theorem dL_law_379 : decode cL_law 379 = .ok (.aload_n 0, 1) := by decide +kernel
theorem dL_law_380 : decode cL_law 380 = .ok (.iload_n 3, 1) := by decide +kernel
theorem dL_law_381 : decode cL_law 381 = .ok (.iconst 2, 1) := by decide +kernel
theorem dL_law_382 : decode cL_law 382 = .ok (.iadd, 1) := by decide +kernel
theorem dL_law_383 : decode cL_law 383 = .ok (.iaload, 1) := by decide +kernel
theorem dL_law_384 : decode cL_law 384 = .ok (.invokevirtual 52, 3) := by decide +kernel
theorem dL_law_387 : decode cL_law 387 = .ok (.aload_n 2, 1) := by decide +kernel
theorem dL_law_388 : decode cL_law 388 = .ok (.aload_n 0, 1) := by decide +kernel
theorem dL_law_389 : decode cL_law 389 = .ok (.iload_n 3, 1) := by decide +kernel
theorem dL_law_390 : decode cL_law 390 = .ok (.iconst 1, 1) := by decide +kernel
theorem dL_law_391 : decode cL_law 391 = .ok (.iadd, 1) := by decide +kernel
theorem dL_law_392 : decode cL_law 392 = .ok (.iaload, 1) := by decide +kernel
theorem dL_law_393 : decode cL_law 393 = .ok (.aload_n 0, 1) := by decide +kernel
theorem dL_law_394 : decode cL_law 394 = .ok (.iload_n 3, 1) := by decide +kernel
theorem dL_law_395 : decode cL_law 395 = .ok (.iconst 2, 1) := by decide +kernel
theorem dL_law_396 : decode cL_law 396 = .ok (.iadd, 1) := by decide +kernel
theorem dL_law_397 : decode cL_law 397 = .ok (.iaload, 1) := by decide +kernel
theorem dL_law_398 : decode cL_law 398 = .ok (.invokevirtual 55, 3) := by decide +kernel
theorem dL_law_401 : decode cL_law 401 = .ok (.if_icmp .eq 463, 3) := by decide +kernel
theorem dL_law_404 : decode cL_law 404 = .ok (.iconst 0, 1) := by decide +kernel
theorem dL_law_405 : decode cL_law 405 = .ok (.ireturn, 1) := by decide +kernel
theorem dL_law_406 : decode cL_law 406 = .ok (.aload_n 1, 1) := by decide +kernel
theorem dL_law_407 : decode cL_law 407 = .ok (.aload_n 0, 1) := by decide +kernel
theorem dL_law_408 : decode cL_law 408 = .ok (.iload_n 3, 1) := by decide +kernel
theorem dL_law_409 : decode cL_law 409 = .ok (.iconst 1, 1) := by decide +kernel
theorem dL_law_410 : decode cL_law 410 = .ok (.iadd, 1) := by decide +kernel
theorem dL_law_411 : decode cL_law 411 = .ok (.iaload, 1) := by decide +kernel
theorem dL_law_412 : decode cL_law 412 = .ok (.aload_n 0, 1) := by decide +kernel
theorem dL_law_413 : decode cL_law 413 = .ok (.iload_n 3, 1) := by decide +kernel
theorem dL_law_414 : decode cL_law 414 = .ok (.iconst 2, 1) := by decide +kernel
theorem dL_law_415 : decode cL_law 415 = .ok (.iadd, 1) := by decide +kernel
theorem dL_law_416 : decode cL_law 416 = .ok (.iaload, 1) := by decide +kernel
theorem dL_law_417 : decode cL_law 417 = .ok (.invokevirtual 56, 3) := by decide +kernel
theorem dL_law_420 : decode cL_law 420 = .ok (.aload_n 2, 1) := by decide +kernel
theorem dL_law_421 : decode cL_law 421 = .ok (.aload_n 0, 1) := by decide +kernel
theorem dL_law_422 : decode cL_law 422 = .ok (.iload_n 3, 1) := by decide +kernel
theorem dL_law_423 : decode cL_law 423 = .ok (.iconst 1, 1) := by decide +kernel
theorem dL_law_424 : decode cL_law 424 = .ok (.iadd, 1) := by decide +kernel
theorem dL_law_425 : decode cL_law 425 = .ok (.iaload, 1) := by decide +kernel
theorem dL_law_426 : decode cL_law 426 = .ok (.aload_n 0, 1) := by decide +kernel
theorem dL_law_427 : decode cL_law 427 = .ok (.iload_n 3, 1) := by decide +kernel
theorem dL_law_428 : decode cL_law 428 = .ok (.iconst 2, 1) := by decide +kernel
theorem dL_law_429 : decode cL_law 429 = .ok (.iadd, 1) := by decide +kernel
theorem dL_law_430 : decode cL_law 430 = .ok (.iaload, 1) := by decide +kernel
theorem dL_law_431 : decode cL_law 431 = .ok (.invokevirtual 59, 3) := by decide +kernel
theorem dL_law_434 : decode cL_law 434 = .ok (.if_icmp .eq 430, 3) := by decide +kernel
theorem dL_law_437 : decode cL_law 437 = .ok (.iconst 0, 1) := by decide +kernel
theorem dL_law_438 : decode cL_law 438 = .ok (.ireturn, 1) := by decide +kernel
theorem dL_law_439 : decode cL_law 439 = .ok (.aload_n 1, 1) := by decide +kernel
theorem dL_law_440 : decode cL_law 440 = .ok (.invokevirtual 60, 3) := by decide +kernel
theorem dL_law_443 : decode cL_law 443 = .ok (.aload_n 2, 1) := by decide +kernel
theorem dL_law_444 : decode cL_law 444 = .ok (.invokevirtual 63, 3) := by decide +kernel
theorem dL_law_447 : decode cL_law 447 = .ok (.if_icmp .eq 417, 3) := by decide +kernel
theorem dL_law_450 : decode cL_law 450 = .ok (.iconst 0, 1) := by decide +kernel
theorem dL_law_451 : decode cL_law 451 = .ok (.ireturn, 1) := by decide +kernel
theorem dL_law_452 : decode cL_law 452 = .ok (.aload_n 1, 1) := by decide +kernel
theorem dL_law_453 : decode cL_law 453 = .ok (.aload_n 0, 1) := by decide +kernel
theorem dL_law_454 : decode cL_law 454 = .ok (.iload_n 3, 1) := by decide +kernel
theorem dL_law_455 : decode cL_law 455 = .ok (.iconst 1, 1) := by decide +kernel
theorem dL_law_456 : decode cL_law 456 = .ok (.iadd, 1) := by decide +kernel
theorem dL_law_457 : decode cL_law 457 = .ok (.iaload, 1) := by decide +kernel
theorem dL_law_458 : decode cL_law 458 = .ok (.aload_n 0, 1) := by decide +kernel
theorem dL_law_459 : decode cL_law 459 = .ok (.iload_n 3, 1) := by decide +kernel
theorem dL_law_460 : decode cL_law 460 = .ok (.iconst 2, 1) := by decide +kernel
theorem dL_law_461 : decode cL_law 461 = .ok (.iadd, 1) := by decide +kernel
theorem dL_law_462 : decode cL_law 462 = .ok (.iaload, 1) := by decide +kernel
theorem dL_law_463 : decode cL_law 463 = .ok (.invokevirtual 64, 3) := by decide +kernel
theorem dL_law_466 : decode cL_law 466 = .ok (.aload_n 2, 1) := by decide +kernel
theorem dL_law_467 : decode cL_law 467 = .ok (.aload_n 0, 1) := by decide +kernel
theorem dL_law_468 : decode cL_law 468 = .ok (.iload_n 3, 1) := by decide +kernel
theorem dL_law_469 : decode cL_law 469 = .ok (.iconst 1, 1) := by decide +kernel
theorem dL_law_470 : decode cL_law 470 = .ok (.iadd, 1) := by decide +kernel
theorem dL_law_471 : decode cL_law 471 = .ok (.iaload, 1) := by decide +kernel
theorem dL_law_472 : decode cL_law 472 = .ok (.aload_n 0, 1) := by decide +kernel
theorem dL_law_473 : decode cL_law 473 = .ok (.iload_n 3, 1) := by decide +kernel
theorem dL_law_474 : decode cL_law 474 = .ok (.iconst 2, 1) := by decide +kernel
theorem dL_law_475 : decode cL_law 475 = .ok (.iadd, 1) := by decide +kernel
theorem dL_law_476 : decode cL_law 476 = .ok (.iaload, 1) := by decide +kernel
theorem dL_law_477 : decode cL_law 477 = .ok (.invokevirtual 67, 3) := by decide +kernel
theorem dL_law_480 : decode cL_law 480 = .ok (.if_icmp .eq 384, 3) := by decide +kernel
theorem dL_law_483 : decode cL_law 483 = .ok (.iconst 0, 1) := by decide +kernel
theorem dL_law_484 : decode cL_law 484 = .ok (.ireturn, 1) := by decide +kernel
theorem dL_law_485 : decode cL_law 485 = .ok (.aload_n 1, 1) := by decide +kernel
theorem dL_law_486 : decode cL_law 486 = .ok (.aload_n 0, 1) := by decide +kernel
theorem dL_law_487 : decode cL_law 487 = .ok (.iload_n 3, 1) := by decide +kernel
theorem dL_law_488 : decode cL_law 488 = .ok (.iconst 1, 1) := by decide +kernel
theorem dL_law_489 : decode cL_law 489 = .ok (.iadd, 1) := by decide +kernel
theorem dL_law_490 : decode cL_law 490 = .ok (.iaload, 1) := by decide +kernel
theorem dL_law_491 : decode cL_law 491 = .ok (.invokevirtual 68, 3) := by decide +kernel
theorem dL_law_494 : decode cL_law 494 = .ok (.aload_n 2, 1) := by decide +kernel
theorem dL_law_495 : decode cL_law 495 = .ok (.aload_n 0, 1) := by decide +kernel
theorem dL_law_496 : decode cL_law 496 = .ok (.iload_n 3, 1) := by decide +kernel
theorem dL_law_497 : decode cL_law 497 = .ok (.iconst 1, 1) := by decide +kernel
theorem dL_law_498 : decode cL_law 498 = .ok (.iadd, 1) := by decide +kernel
theorem dL_law_499 : decode cL_law 499 = .ok (.iaload, 1) := by decide +kernel
theorem dL_law_500 : decode cL_law 500 = .ok (.invokevirtual 71, 3) := by decide +kernel
theorem dL_law_503 : decode cL_law 503 = .ok (.if_icmp .eq 361, 3) := by decide +kernel
theorem dL_law_506 : decode cL_law 506 = .ok (.iconst 0, 1) := by decide +kernel
theorem dL_law_507 : decode cL_law 507 = .ok (.ireturn, 1) := by decide +kernel
theorem dL_law_508 : decode cL_law 508 = .ok (.aload_n 1, 1) := by decide +kernel
theorem dL_law_509 : decode cL_law 509 = .ok (.aload_n 0, 1) := by decide +kernel
theorem dL_law_510 : decode cL_law 510 = .ok (.iload_n 3, 1) := by decide +kernel
theorem dL_law_511 : decode cL_law 511 = .ok (.iconst 1, 1) := by decide +kernel
theorem dL_law_512 : decode cL_law 512 = .ok (.iadd, 1) := by decide +kernel
theorem dL_law_513 : decode cL_law 513 = .ok (.iaload, 1) := by decide +kernel
theorem dL_law_514 : decode cL_law 514 = .ok (.invokevirtual 72, 3) := by decide +kernel
theorem dL_law_517 : decode cL_law 517 = .ok (.aload_n 2, 1) := by decide +kernel
theorem dL_law_518 : decode cL_law 518 = .ok (.aload_n 0, 1) := by decide +kernel
theorem dL_law_519 : decode cL_law 519 = .ok (.iload_n 3, 1) := by decide +kernel
theorem dL_law_520 : decode cL_law 520 = .ok (.iconst 1, 1) := by decide +kernel
theorem dL_law_521 : decode cL_law 521 = .ok (.iadd, 1) := by decide +kernel
theorem dL_law_522 : decode cL_law 522 = .ok (.iaload, 1) := by decide +kernel
theorem dL_law_523 : decode cL_law 523 = .ok (.invokevirtual 75, 3) := by decide +kernel
theorem dL_law_526 : decode cL_law 526 = .ok (.if_icmp .eq 338, 3) := by decide +kernel
theorem dL_law_529 : decode cL_law 529 = .ok (.iconst 0, 1) := by decide +kernel
theorem dL_law_530 : decode cL_law 530 = .ok (.ireturn, 1) := by decide +kernel
theorem dL_law_531 : decode cL_law 531 = .ok (.aload_n 1, 1) := by decide +kernel
theorem dL_law_532 : decode cL_law 532 = .ok (.invokevirtual 76, 3) := by decide +kernel
theorem dL_law_535 : decode cL_law 535 = .ok (.aload_n 2, 1) := by decide +kernel
theorem dL_law_536 : decode cL_law 536 = .ok (.invokevirtual 79, 3) := by decide +kernel
theorem dL_law_539 : decode cL_law 539 = .ok (.if_icmp .eq 325, 3) := by decide +kernel
theorem dL_law_542 : decode cL_law 542 = .ok (.iconst 0, 1) := by decide +kernel
theorem dL_law_543 : decode cL_law 543 = .ok (.ireturn, 1) := by decide +kernel
theorem dL_law_544 : decode cL_law 544 = .ok (.aload_n 1, 1) := by decide +kernel
theorem dL_law_545 : decode cL_law 545 = .ok (.aload_n 0, 1) := by decide +kernel
theorem dL_law_546 : decode cL_law 546 = .ok (.iload_n 3, 1) := by decide +kernel
theorem dL_law_547 : decode cL_law 547 = .ok (.iconst 1, 1) := by decide +kernel
theorem dL_law_548 : decode cL_law 548 = .ok (.iadd, 1) := by decide +kernel
theorem dL_law_549 : decode cL_law 549 = .ok (.iaload, 1) := by decide +kernel
theorem dL_law_550 : decode cL_law 550 = .ok (.aload_n 0, 1) := by decide +kernel
theorem dL_law_551 : decode cL_law 551 = .ok (.iload_n 3, 1) := by decide +kernel
theorem dL_law_552 : decode cL_law 552 = .ok (.iconst 2, 1) := by decide +kernel
theorem dL_law_553 : decode cL_law 553 = .ok (.iadd, 1) := by decide +kernel
theorem dL_law_554 : decode cL_law 554 = .ok (.iaload, 1) := by decide +kernel
theorem dL_law_555 : decode cL_law 555 = .ok (.aload_n 0, 1) := by decide +kernel
theorem dL_law_556 : decode cL_law 556 = .ok (.iload_n 3, 1) := by decide +kernel
theorem dL_law_557 : decode cL_law 557 = .ok (.iconst 3, 1) := by decide +kernel
theorem dL_law_558 : decode cL_law 558 = .ok (.iadd, 1) := by decide +kernel
theorem dL_law_559 : decode cL_law 559 = .ok (.iaload, 1) := by decide +kernel
theorem dL_law_560 : decode cL_law 560 = .ok (.invokevirtual 80, 3) := by decide +kernel
theorem dL_law_563 : decode cL_law 563 = .ok (.aload_n 2, 1) := by decide +kernel
theorem dL_law_564 : decode cL_law 564 = .ok (.aload_n 0, 1) := by decide +kernel
theorem dL_law_565 : decode cL_law 565 = .ok (.iload_n 3, 1) := by decide +kernel
theorem dL_law_566 : decode cL_law 566 = .ok (.iconst 1, 1) := by decide +kernel
theorem dL_law_567 : decode cL_law 567 = .ok (.iadd, 1) := by decide +kernel
theorem dL_law_568 : decode cL_law 568 = .ok (.iaload, 1) := by decide +kernel
theorem dL_law_569 : decode cL_law 569 = .ok (.aload_n 0, 1) := by decide +kernel
theorem dL_law_570 : decode cL_law 570 = .ok (.iload_n 3, 1) := by decide +kernel
theorem dL_law_571 : decode cL_law 571 = .ok (.iconst 2, 1) := by decide +kernel
theorem dL_law_572 : decode cL_law 572 = .ok (.iadd, 1) := by decide +kernel
theorem dL_law_573 : decode cL_law 573 = .ok (.iaload, 1) := by decide +kernel
theorem dL_law_574 : decode cL_law 574 = .ok (.aload_n 0, 1) := by decide +kernel
theorem dL_law_575 : decode cL_law 575 = .ok (.iload_n 3, 1) := by decide +kernel
theorem dL_law_576 : decode cL_law 576 = .ok (.iconst 3, 1) := by decide +kernel
theorem dL_law_577 : decode cL_law 577 = .ok (.iadd, 1) := by decide +kernel
theorem dL_law_578 : decode cL_law 578 = .ok (.iaload, 1) := by decide +kernel
theorem dL_law_579 : decode cL_law 579 = .ok (.invokevirtual 84, 3) := by decide +kernel
theorem dL_law_582 : decode cL_law 582 = .ok (.if_icmp .eq 282, 3) := by decide +kernel
theorem dL_law_585 : decode cL_law 585 = .ok (.iconst 0, 1) := by decide +kernel
theorem dL_law_586 : decode cL_law 586 = .ok (.ireturn, 1) := by decide +kernel
theorem dL_law_587 : decode cL_law 587 = .ok (.aload_n 1, 1) := by decide +kernel
theorem dL_law_588 : decode cL_law 588 = .ok (.aload_n 0, 1) := by decide +kernel
theorem dL_law_589 : decode cL_law 589 = .ok (.iload_n 3, 1) := by decide +kernel
theorem dL_law_590 : decode cL_law 590 = .ok (.iconst 1, 1) := by decide +kernel
theorem dL_law_591 : decode cL_law 591 = .ok (.iadd, 1) := by decide +kernel
theorem dL_law_592 : decode cL_law 592 = .ok (.iaload, 1) := by decide +kernel
theorem dL_law_593 : decode cL_law 593 = .ok (.aload_n 0, 1) := by decide +kernel
theorem dL_law_594 : decode cL_law 594 = .ok (.iload_n 3, 1) := by decide +kernel
theorem dL_law_595 : decode cL_law 595 = .ok (.iconst 2, 1) := by decide +kernel
theorem dL_law_596 : decode cL_law 596 = .ok (.iadd, 1) := by decide +kernel
theorem dL_law_597 : decode cL_law 597 = .ok (.iaload, 1) := by decide +kernel
theorem dL_law_598 : decode cL_law 598 = .ok (.invokevirtual 85, 3) := by decide +kernel
theorem dL_law_601 : decode cL_law 601 = .ok (.aload_n 2, 1) := by decide +kernel
theorem dL_law_602 : decode cL_law 602 = .ok (.aload_n 0, 1) := by decide +kernel
theorem dL_law_603 : decode cL_law 603 = .ok (.iload_n 3, 1) := by decide +kernel
theorem dL_law_604 : decode cL_law 604 = .ok (.iconst 1, 1) := by decide +kernel
theorem dL_law_605 : decode cL_law 605 = .ok (.iadd, 1) := by decide +kernel
theorem dL_law_606 : decode cL_law 606 = .ok (.iaload, 1) := by decide +kernel
theorem dL_law_607 : decode cL_law 607 = .ok (.aload_n 0, 1) := by decide +kernel
theorem dL_law_608 : decode cL_law 608 = .ok (.iload_n 3, 1) := by decide +kernel
theorem dL_law_609 : decode cL_law 609 = .ok (.iconst 2, 1) := by decide +kernel
theorem dL_law_610 : decode cL_law 610 = .ok (.iadd, 1) := by decide +kernel
theorem dL_law_611 : decode cL_law 611 = .ok (.iaload, 1) := by decide +kernel
theorem dL_law_612 : decode cL_law 612 = .ok (.invokevirtual 88, 3) := by decide +kernel
theorem dL_law_615 : decode cL_law 615 = .ok (.if_icmp .eq 249, 3) := by decide +kernel
theorem dL_law_618 : decode cL_law 618 = .ok (.iconst 0, 1) := by decide +kernel
theorem dL_law_619 : decode cL_law 619 = .ok (.ireturn, 1) := by decide +kernel
theorem dL_law_620 : decode cL_law 620 = .ok (.aload_n 1, 1) := by decide +kernel
theorem dL_law_621 : decode cL_law 621 = .ok (.aload_n 0, 1) := by decide +kernel
theorem dL_law_622 : decode cL_law 622 = .ok (.iload_n 3, 1) := by decide +kernel
theorem dL_law_623 : decode cL_law 623 = .ok (.iconst 1, 1) := by decide +kernel
theorem dL_law_624 : decode cL_law 624 = .ok (.iadd, 1) := by decide +kernel
theorem dL_law_625 : decode cL_law 625 = .ok (.iaload, 1) := by decide +kernel
theorem dL_law_626 : decode cL_law 626 = .ok (.aload_n 0, 1) := by decide +kernel
theorem dL_law_627 : decode cL_law 627 = .ok (.iload_n 3, 1) := by decide +kernel
theorem dL_law_628 : decode cL_law 628 = .ok (.iconst 2, 1) := by decide +kernel
theorem dL_law_629 : decode cL_law 629 = .ok (.iadd, 1) := by decide +kernel
theorem dL_law_630 : decode cL_law 630 = .ok (.iaload, 1) := by decide +kernel
theorem dL_law_631 : decode cL_law 631 = .ok (.aload_n 0, 1) := by decide +kernel
theorem dL_law_632 : decode cL_law 632 = .ok (.iload_n 3, 1) := by decide +kernel
theorem dL_law_633 : decode cL_law 633 = .ok (.iconst 3, 1) := by decide +kernel
theorem dL_law_634 : decode cL_law 634 = .ok (.iadd, 1) := by decide +kernel
theorem dL_law_635 : decode cL_law 635 = .ok (.iaload, 1) := by decide +kernel
theorem dL_law_636 : decode cL_law 636 = .ok (.invokevirtual 89, 3) := by decide +kernel
theorem dL_law_639 : decode cL_law 639 = .ok (.aload_n 2, 1) := by decide +kernel
theorem dL_law_640 : decode cL_law 640 = .ok (.aload_n 0, 1) := by decide +kernel
theorem dL_law_641 : decode cL_law 641 = .ok (.iload_n 3, 1) := by decide +kernel
theorem dL_law_642 : decode cL_law 642 = .ok (.iconst 1, 1) := by decide +kernel
theorem dL_law_643 : decode cL_law 643 = .ok (.iadd, 1) := by decide +kernel
theorem dL_law_644 : decode cL_law 644 = .ok (.iaload, 1) := by decide +kernel
theorem dL_law_645 : decode cL_law 645 = .ok (.aload_n 0, 1) := by decide +kernel
theorem dL_law_646 : decode cL_law 646 = .ok (.iload_n 3, 1) := by decide +kernel
theorem dL_law_647 : decode cL_law 647 = .ok (.iconst 2, 1) := by decide +kernel
theorem dL_law_648 : decode cL_law 648 = .ok (.iadd, 1) := by decide +kernel
theorem dL_law_649 : decode cL_law 649 = .ok (.iaload, 1) := by decide +kernel
theorem dL_law_650 : decode cL_law 650 = .ok (.aload_n 0, 1) := by decide +kernel
theorem dL_law_651 : decode cL_law 651 = .ok (.iload_n 3, 1) := by decide +kernel
theorem dL_law_652 : decode cL_law 652 = .ok (.iconst 3, 1) := by decide +kernel
theorem dL_law_653 : decode cL_law 653 = .ok (.iadd, 1) := by decide +kernel
theorem dL_law_654 : decode cL_law 654 = .ok (.iaload, 1) := by decide +kernel
theorem dL_law_655 : decode cL_law 655 = .ok (.invokevirtual 92, 3) := by decide +kernel
theorem dL_law_658 : decode cL_law 658 = .ok (.if_icmp .eq 206, 3) := by decide +kernel
theorem dL_law_661 : decode cL_law 661 = .ok (.iconst 0, 1) := by decide +kernel
theorem dL_law_662 : decode cL_law 662 = .ok (.ireturn, 1) := by decide +kernel
theorem dL_law_663 : decode cL_law 663 = .ok (.aload_n 1, 1) := by decide +kernel
theorem dL_law_664 : decode cL_law 664 = .ok (.aload_n 0, 1) := by decide +kernel
theorem dL_law_665 : decode cL_law 665 = .ok (.iload_n 3, 1) := by decide +kernel
theorem dL_law_666 : decode cL_law 666 = .ok (.iconst 1, 1) := by decide +kernel
theorem dL_law_667 : decode cL_law 667 = .ok (.iadd, 1) := by decide +kernel
theorem dL_law_668 : decode cL_law 668 = .ok (.iaload, 1) := by decide +kernel
theorem dL_law_669 : decode cL_law 669 = .ok (.invokevirtual 93, 3) := by decide +kernel
theorem dL_law_672 : decode cL_law 672 = .ok (.aload_n 2, 1) := by decide +kernel
theorem dL_law_673 : decode cL_law 673 = .ok (.aload_n 0, 1) := by decide +kernel
theorem dL_law_674 : decode cL_law 674 = .ok (.iload_n 3, 1) := by decide +kernel
theorem dL_law_675 : decode cL_law 675 = .ok (.iconst 1, 1) := by decide +kernel
theorem dL_law_676 : decode cL_law 676 = .ok (.iadd, 1) := by decide +kernel
theorem dL_law_677 : decode cL_law 677 = .ok (.iaload, 1) := by decide +kernel
theorem dL_law_678 : decode cL_law 678 = .ok (.invokevirtual 96, 3) := by decide +kernel
theorem dL_law_681 : decode cL_law 681 = .ok (.if_icmp .eq 183, 3) := by decide +kernel
theorem dL_law_684 : decode cL_law 684 = .ok (.iconst 0, 1) := by decide +kernel
theorem dL_law_685 : decode cL_law 685 = .ok (.ireturn, 1) := by decide +kernel
theorem dL_law_686 : decode cL_law 686 = .ok (.aload_n 1, 1) := by decide +kernel
theorem dL_law_687 : decode cL_law 687 = .ok (.aload_n 0, 1) := by decide +kernel
theorem dL_law_688 : decode cL_law 688 = .ok (.iload_n 3, 1) := by decide +kernel
theorem dL_law_689 : decode cL_law 689 = .ok (.iconst 1, 1) := by decide +kernel
theorem dL_law_690 : decode cL_law 690 = .ok (.iadd, 1) := by decide +kernel
theorem dL_law_691 : decode cL_law 691 = .ok (.iaload, 1) := by decide +kernel
theorem dL_law_692 : decode cL_law 692 = .ok (.aload_n 0, 1) := by decide +kernel
theorem dL_law_693 : decode cL_law 693 = .ok (.iload_n 3, 1) := by decide +kernel
theorem dL_law_694 : decode cL_law 694 = .ok (.iconst 2, 1) := by decide +kernel
theorem dL_law_695 : decode cL_law 695 = .ok (.iadd, 1) := by decide +kernel
theorem dL_law_696 : decode cL_law 696 = .ok (.iaload, 1) := by decide +kernel
theorem dL_law_697 : decode cL_law 697 = .ok (.aload_n 0, 1) := by decide +kernel
theorem dL_law_698 : decode cL_law 698 = .ok (.iload_n 3, 1) := by decide +kernel
theorem dL_law_699 : decode cL_law 699 = .ok (.iconst 3, 1) := by decide +kernel
theorem dL_law_700 : decode cL_law 700 = .ok (.iadd, 1) := by decide +kernel
theorem dL_law_701 : decode cL_law 701 = .ok (.iaload, 1) := by decide +kernel
theorem dL_law_702 : decode cL_law 702 = .ok (.ifCond .eq 7, 3) := by decide +kernel
theorem dL_law_705 : decode cL_law 705 = .ok (.iconst 1, 1) := by decide +kernel
theorem dL_law_706 : decode cL_law 706 = .ok (.goto 4, 3) := by decide +kernel
theorem dL_law_709 : decode cL_law 709 = .ok (.iconst 0, 1) := by decide +kernel
theorem dL_law_710 : decode cL_law 710 = .ok (.invokevirtual 97, 3) := by decide +kernel
theorem dL_law_713 : decode cL_law 713 = .ok (.aload_n 2, 1) := by decide +kernel
theorem dL_law_714 : decode cL_law 714 = .ok (.aload_n 0, 1) := by decide +kernel
theorem dL_law_715 : decode cL_law 715 = .ok (.iload_n 3, 1) := by decide +kernel
theorem dL_law_716 : decode cL_law 716 = .ok (.iconst 1, 1) := by decide +kernel
theorem dL_law_717 : decode cL_law 717 = .ok (.iadd, 1) := by decide +kernel
theorem dL_law_718 : decode cL_law 718 = .ok (.iaload, 1) := by decide +kernel
theorem dL_law_719 : decode cL_law 719 = .ok (.aload_n 0, 1) := by decide +kernel
theorem dL_law_720 : decode cL_law 720 = .ok (.iload_n 3, 1) := by decide +kernel
theorem dL_law_721 : decode cL_law 721 = .ok (.iconst 2, 1) := by decide +kernel
theorem dL_law_722 : decode cL_law 722 = .ok (.iadd, 1) := by decide +kernel
theorem dL_law_723 : decode cL_law 723 = .ok (.iaload, 1) := by decide +kernel
theorem dL_law_724 : decode cL_law 724 = .ok (.aload_n 0, 1) := by decide +kernel
theorem dL_law_725 : decode cL_law 725 = .ok (.iload_n 3, 1) := by decide +kernel
theorem dL_law_726 : decode cL_law 726 = .ok (.iconst 3, 1) := by decide +kernel
theorem dL_law_727 : decode cL_law 727 = .ok (.iadd, 1) := by decide +kernel
theorem dL_law_728 : decode cL_law 728 = .ok (.iaload, 1) := by decide +kernel
theorem dL_law_729 : decode cL_law 729 = .ok (.ifCond .eq 7, 3) := by decide +kernel
theorem dL_law_732 : decode cL_law 732 = .ok (.iconst 1, 1) := by decide +kernel
theorem dL_law_733 : decode cL_law 733 = .ok (.goto 4, 3) := by decide +kernel
theorem dL_law_736 : decode cL_law 736 = .ok (.iconst 0, 1) := by decide +kernel
theorem dL_law_737 : decode cL_law 737 = .ok (.invokevirtual 101, 3) := by decide +kernel
theorem dL_law_740 : decode cL_law 740 = .ok (.if_icmp .eq 124, 3) := by decide +kernel
theorem dL_law_743 : decode cL_law 743 = .ok (.iconst 0, 1) := by decide +kernel
theorem dL_law_744 : decode cL_law 744 = .ok (.ireturn, 1) := by decide +kernel
theorem dL_law_745 : decode cL_law 745 = .ok (.aload_n 1, 1) := by decide +kernel
theorem dL_law_746 : decode cL_law 746 = .ok (.invokevirtual 102, 3) := by decide +kernel
theorem dL_law_749 : decode cL_law 749 = .ok (.aload_n 2, 1) := by decide +kernel
theorem dL_law_750 : decode cL_law 750 = .ok (.invokevirtual 105, 3) := by decide +kernel
theorem dL_law_753 : decode cL_law 753 = .ok (.if_icmp .eq 111, 3) := by decide +kernel
theorem dL_law_756 : decode cL_law 756 = .ok (.iconst 0, 1) := by decide +kernel
theorem dL_law_757 : decode cL_law 757 = .ok (.ireturn, 1) := by decide +kernel
theorem dL_law_758 : decode cL_law 758 = .ok (.aload_n 1, 1) := by decide +kernel
theorem dL_law_759 : decode cL_law 759 = .ok (.aload_n 0, 1) := by decide +kernel
theorem dL_law_760 : decode cL_law 760 = .ok (.iload_n 3, 1) := by decide +kernel
theorem dL_law_761 : decode cL_law 761 = .ok (.iconst 1, 1) := by decide +kernel
theorem dL_law_762 : decode cL_law 762 = .ok (.iadd, 1) := by decide +kernel
theorem dL_law_763 : decode cL_law 763 = .ok (.iaload, 1) := by decide +kernel
theorem dL_law_764 : decode cL_law 764 = .ok (.aload_n 0, 1) := by decide +kernel
theorem dL_law_765 : decode cL_law 765 = .ok (.iload_n 3, 1) := by decide +kernel
theorem dL_law_766 : decode cL_law 766 = .ok (.iconst 2, 1) := by decide +kernel
theorem dL_law_767 : decode cL_law 767 = .ok (.iadd, 1) := by decide +kernel
theorem dL_law_768 : decode cL_law 768 = .ok (.iaload, 1) := by decide +kernel
theorem dL_law_769 : decode cL_law 769 = .ok (.aload_n 0, 1) := by decide +kernel
theorem dL_law_770 : decode cL_law 770 = .ok (.iload_n 3, 1) := by decide +kernel
theorem dL_law_771 : decode cL_law 771 = .ok (.iconst 3, 1) := by decide +kernel
theorem dL_law_772 : decode cL_law 772 = .ok (.iadd, 1) := by decide +kernel
theorem dL_law_773 : decode cL_law 773 = .ok (.iaload, 1) := by decide +kernel
theorem dL_law_774 : decode cL_law 774 = .ok (.invokevirtual 106, 3) := by decide +kernel
theorem dL_law_777 : decode cL_law 777 = .ok (.aload_n 2, 1) := by decide +kernel
theorem dL_law_778 : decode cL_law 778 = .ok (.aload_n 0, 1) := by decide +kernel
theorem dL_law_779 : decode cL_law 779 = .ok (.iload_n 3, 1) := by decide +kernel
theorem dL_law_780 : decode cL_law 780 = .ok (.iconst 1, 1) := by decide +kernel
theorem dL_law_781 : decode cL_law 781 = .ok (.iadd, 1) := by decide +kernel
theorem dL_law_782 : decode cL_law 782 = .ok (.iaload, 1) := by decide +kernel
theorem dL_law_783 : decode cL_law 783 = .ok (.aload_n 0, 1) := by decide +kernel
theorem dL_law_784 : decode cL_law 784 = .ok (.iload_n 3, 1) := by decide +kernel
theorem dL_law_785 : decode cL_law 785 = .ok (.iconst 2, 1) := by decide +kernel
theorem dL_law_786 : decode cL_law 786 = .ok (.iadd, 1) := by decide +kernel
theorem dL_law_787 : decode cL_law 787 = .ok (.iaload, 1) := by decide +kernel
theorem dL_law_788 : decode cL_law 788 = .ok (.aload_n 0, 1) := by decide +kernel
theorem dL_law_789 : decode cL_law 789 = .ok (.iload_n 3, 1) := by decide +kernel
theorem dL_law_790 : decode cL_law 790 = .ok (.iconst 3, 1) := by decide +kernel
theorem dL_law_791 : decode cL_law 791 = .ok (.iadd, 1) := by decide +kernel
theorem dL_law_792 : decode cL_law 792 = .ok (.iaload, 1) := by decide +kernel
theorem dL_law_793 : decode cL_law 793 = .ok (.invokevirtual 109, 3) := by decide +kernel
theorem dL_law_796 : decode cL_law 796 = .ok (.if_icmp .eq 68, 3) := by decide +kernel
theorem dL_law_799 : decode cL_law 799 = .ok (.iconst 0, 1) := by decide +kernel
theorem dL_law_800 : decode cL_law 800 = .ok (.ireturn, 1) := by decide +kernel
theorem dL_law_801 : decode cL_law 801 = .ok (.aload_n 1, 1) := by decide +kernel
theorem dL_law_802 : decode cL_law 802 = .ok (.invokevirtual 110, 3) := by decide +kernel
theorem dL_law_805 : decode cL_law 805 = .ok (.aload_n 2, 1) := by decide +kernel
theorem dL_law_806 : decode cL_law 806 = .ok (.invokevirtual 113, 3) := by decide +kernel
theorem dL_law_809 : decode cL_law 809 = .ok (.if_icmp .eq 55, 3) := by decide +kernel
theorem dL_law_812 : decode cL_law 812 = .ok (.iconst 0, 1) := by decide +kernel
theorem dL_law_813 : decode cL_law 813 = .ok (.ireturn, 1) := by decide +kernel
theorem dL_law_814 : decode cL_law 814 = .ok (.aload_n 1, 1) := by decide +kernel
theorem dL_law_815 : decode cL_law 815 = .ok (.invokevirtual 114, 3) := by decide +kernel
theorem dL_law_818 : decode cL_law 818 = .ok (.aload_n 2, 1) := by decide +kernel
theorem dL_law_819 : decode cL_law 819 = .ok (.invokevirtual 117, 3) := by decide +kernel
theorem dL_law_822 : decode cL_law 822 = .ok (.if_icmp .eq 42, 3) := by decide +kernel
theorem dL_law_825 : decode cL_law 825 = .ok (.iconst 0, 1) := by decide +kernel
theorem dL_law_826 : decode cL_law 826 = .ok (.ireturn, 1) := by decide +kernel
theorem dL_law_827 : decode cL_law 827 = .ok (.aload_n 1, 1) := by decide +kernel
theorem dL_law_828 : decode cL_law 828 = .ok (.aload_n 0, 1) := by decide +kernel
theorem dL_law_829 : decode cL_law 829 = .ok (.iload_n 3, 1) := by decide +kernel
theorem dL_law_830 : decode cL_law 830 = .ok (.iconst 1, 1) := by decide +kernel
theorem dL_law_831 : decode cL_law 831 = .ok (.iadd, 1) := by decide +kernel
theorem dL_law_832 : decode cL_law 832 = .ok (.iaload, 1) := by decide +kernel
theorem dL_law_833 : decode cL_law 833 = .ok (.invokevirtual 118, 3) := by decide +kernel
theorem dL_law_836 : decode cL_law 836 = .ok (.aload_n 2, 1) := by decide +kernel
theorem dL_law_837 : decode cL_law 837 = .ok (.aload_n 0, 1) := by decide +kernel
theorem dL_law_838 : decode cL_law 838 = .ok (.iload_n 3, 1) := by decide +kernel
theorem dL_law_839 : decode cL_law 839 = .ok (.iconst 1, 1) := by decide +kernel
theorem dL_law_840 : decode cL_law 840 = .ok (.iadd, 1) := by decide +kernel
theorem dL_law_841 : decode cL_law 841 = .ok (.iaload, 1) := by decide +kernel
theorem dL_law_842 : decode cL_law 842 = .ok (.invokevirtual 121, 3) := by decide +kernel
theorem dL_law_845 : decode cL_law 845 = .ok (.if_icmp .eq 19, 3) := by decide +kernel
theorem dL_law_848 : decode cL_law 848 = .ok (.iconst 0, 1) := by decide +kernel
theorem dL_law_849 : decode cL_law 849 = .ok (.ireturn, 1) := by decide +kernel
theorem dL_law_850 : decode cL_law 850 = .ok (.aload_n 1, 1) := by decide +kernel
theorem dL_law_851 : decode cL_law 851 = .ok (.invokevirtual 122, 3) := by decide +kernel
theorem dL_law_854 : decode cL_law 854 = .ok (.aload_n 2, 1) := by decide +kernel
theorem dL_law_855 : decode cL_law 855 = .ok (.invokevirtual 126, 3) := by decide +kernel
theorem dL_law_858 : decode cL_law 858 = .ok (.lcmp, 1) := by decide +kernel
theorem dL_law_859 : decode cL_law 859 = .ok (.ifCond .eq 5, 3) := by decide +kernel
theorem dL_law_862 : decode cL_law 862 = .ok (.iconst 0, 1) := by decide +kernel
theorem dL_law_863 : decode cL_law 863 = .ok (.ireturn, 1) := by decide +kernel
theorem dL_law_864 : decode cL_law 864 = .ok (.iinc 3 4, 3) := by decide +kernel
theorem dL_law_867 : decode cL_law 867 = .ok (.goto (-849), 3) := by decide +kernel
theorem dL_law_870 : decode cL_law 870 = .ok (.iconst 1, 1) := by decide +kernel
theorem dL_law_871 : decode cL_law 871 = .ok (.ireturn, 1) := by decide +kernel
end
section
/-! ===== the abstract heap and the derived logic ===== -/
/-- words that hold wherever the tables are warmer -/
def xtbl : List Cond := lw_tbl.filter goodWord
theorem xt_in {w : Cond} (i : Nat) (h : tables_1[i]? = some w) (hg : goodWord w = true) : w ∈ xtbl := List.mem_filter.mpr ⟨List.mem_append_right _ (List.mem_of_getElem? h), hg⟩
theorem xt_sel {w : Cond} (i : Nat) (h : (k2_sels lw_privs)[i]? = some w) (hg : goodWord w = true) : w ∈ xtbl := List.mem_filter.mpr ⟨List.mem_append_left _ (List.mem_of_getElem? h), hg⟩
theorem xt_list {ws : List Cond} (ps : List Nat) (hp : ws = ps.filterMap (fun i => tables_1[i]?)) (hg : ws.all goodWord = true) : ∀ w ∈ ws, w ∈ xtbl := by
  intro w hw
  have h1 := List.all_eq_true.mp hg w hw
  rw [hp] at hw
  obtain ⟨i, -, hi⟩ := List.mem_filterMap.mp hw
  exact xt_in i hi h1
/-- ints, longs, references, by cell and place -/
abbrev XH : Type := (Nat → Nat → Int32) × (Nat → Nat → Int64) × (Nat → Nat → Option Nat)
/-- base; the kinds' addresses; ALL's; the classes; the array classes; the script -/
abbrev XE : Type := Nat × (Nat → Nat) × Nat × va_G × (ClassId × ClassId × ClassId × ClassId) × (Nat × Nat × (Nat → Int32))
abbrev XM : Type := MethodName × ByteArray × Nat × Option FieldType
abbrev XL : Type := List (Option Value)
def xa (E : XE) (a : Nat) : Nat := if a < 1000 then E.1 + a else if a = 2000 then E.2.2.1 else if a = 3000 then E.2.2.2.2.2.1 else E.2.1 (a - 1000)
def xv (E : XE) (v : Value) : Value := match v with
  | .ref a => .ref (xa E a)
  | .int x => .int x
  | .long x => .long x
  | .float x => .float x
  | .double x => .double x
  | .null => .null
  | .retAddr x => .retAddr x
theorem xa_lt {E : XE} {a : Nat} (h : a < 1000) : xa E a = E.1 + a := if_pos h
theorem xa_k {E : XE} {j : Nat} (h : j < 5) : xa E (1000 + j) = E.2.1 j := by
  unfold xa
  rw [if_neg (by omega), if_neg (by omega), if_neg (by omega), Nat.add_sub_cancel_left]
theorem xa_t {E : XE} : xa E 2000 = E.2.2.1 := rfl
theorem xa_s {E : XE} : xa E 3000 = E.2.2.2.2.2.1 := rfl
theorem xv_cat (E : XE) (v : Value) : (xv E v).category = v.category := by cases v <;> rfl
theorem xv_cats (E : XE) (st : List Value) : ((st.map (xv E)).map fun v => v.category).sum = (st.map fun v => v.category).sum := by
  rw [List.map_map]
  congr 1
  exact List.map_congr_left (fun v _ => xv_cat E v)
def xnf (ci : Nat) : Nat := [10, 6, 2, 12, 4, 2, 7, 58].getD ci 0
def xsh : List (Nat × Nat) := [(0, 6), (0, 2), (1, 41), (0, 0), (4, 8), (0, 4), (1, 8), (1, 8), (2, 8), (0, 3), (0, 3), (0, 3), (0, 3), (0, 3), (0, 3), (0, 3), (0, 3), (0, 0), (4, 8), (0, 4), (1, 8), (1, 8), (2, 8), (0, 3), (0, 3), (0, 3), (0, 3), (0, 3), (0, 3), (0, 3), (0, 3), (0, 5), (0, 0), (4, 8), (0, 4), (1, 8), (1, 8), (2, 8), (0, 3), (0, 3), (0, 3), (0, 3), (0, 3), (0, 3), (0, 3), (0, 3), (1, 8), (0, 1), (1, 8), (1, 8), (1, 8), (1, 8), (1, 4), (0, 7), (1, 8), (1, 8), (1, 8), (1, 8), (1, 8), (1, 8), (1, 8), (1, 8), (1, 8), (1, 8), (1, 8), (1, 8), (3, 41), (1, 4), (1, 4), (1, 8), (1, 8), (1, 8), (1, 8), (1, 8), (1, 8), (1, 8), (1, 8), (1, 8), (1, 8), (1, 8), (1, 8), (1, 8), (1, 8)]
def xftL : List (List Nat) := [[2, 2, 0, 0, 0, 0, 0, 0, 0, 0], [2, 2, 2, 2, 2, 0], [2, 0], [0, 0, 3, 0, 0, 0, 0, 0, 0, 0, 0, 0], [2, 2, 2, 0], [2, 2], [2, 2, 2, 2, 2, 0, 0], [0, 0, 0, 2, 2, 2, 2, 2, 2, 2, 2, 2, 0, 0, 0, 0, 0, 0, 0, 2, 2, 2, 0, 2, 0, 0, 0, 2, 2, 0, 2, 2, 2, 2, 0, 0, 0, 1, 0, 0, 0, 0, 0, 0, 0, 0, 0, 2, 2, 2, 2, 2, 2, 2, 2, 2, 2, 1]]
def xft (ci k : Nat) : Nat := (xftL.getD ci []).getD k 0
def xk (x : Int32) : Option Nat := if x = 0 then some 0 else if x = 1 then some 1 else if x = 2 then some 2 else if x = 3 then some 3 else if x = 4 then some 4 else none
theorem xk_of {j : Nat} (h : j < 5) : xk (nI j) = some j := by
  match j, h with
  | 0, _ => rfl
  | 1, _ => rfl
  | 2, _ => rfl
  | 3, _ => rfl
  | 4, _ => rfl
def xfv (E : XE) (h : XH) (a k t : Nat) : Value := match t with
  | 0 => .int (h.1 a k)
  | 1 => .long (h.2.1 a k)
  | 2 => va_rf ((h.2.2 a k).map (xa E))
  | _ => va_re E.2.1 (xk (h.1 a k))
def xcell (E : XE) (h : XH) (a : Nat) : va_E := match xsh.getD a (9, 0) with
  | (0, ci) => .inr (ci, (List.range (xnf ci)).map (fun k => xfv E h a k (xft ci k)))
  | (1, n) => .inl (E.2.2.2.2.1.1, n, .inl (h.1 a))
  | (2, n) => .inl (E.2.2.2.2.1.2.1, n, .inl (h.1 a))
  | (3, n) => .inl (E.2.2.2.2.1.2.2.1, n, .inl (h.1 a))
  | (_, n) => .inl (E.2.2.2.2.1.2.2.2, n, .inr (.inr (.inr (.inr (fun k => (h.2.2 a k).map (xa E))))))
def xw (E : XE) (cnt : Nat) (h : XH) : va_W := (List.range cnt).map (fun a => (E.1 + a, xcell E h a))
theorem xw_at (E : XE) {cnt : Nat} (h : XH) {a : Nat} (ha : a < cnt) : (xw E cnt h)[a]? = some (E.1 + a, xcell E h a) := by
  unfold xw
  rw [List.getElem?_map, List.getElem?_range ha]
  rfl
theorem xw_len (E : XE) (cnt : Nat) (h : XH) : (xw E cnt h).length = cnt := by
  unfold xw
  rw [List.length_map, List.length_range]
def xA (E : XE) : Nat → Prop := fun q => E.1 ≤ q
theorem xw_D (E : XE) (cnt : Nat) (h : XH) : va_D (xA E) (xw E cnt h) := by
  have key : ∀ (k : Nat) (q : Nat × va_E), (xw E cnt h)[k]? = some q → q.1 = E.1 + k := by
    intro k q hk
    have hl := (List.getElem?_eq_some_iff.mp hk).1
    rw [xw_len] at hl
    rw [xw_at E h hl] at hk
    cases hk
    rfl
  refine ⟨fun i j p q hi hj hpq => ?_, fun k q hk => ?_⟩
  · have h1 := key i p hi
    have h2 := key j q hj
    omega
  · have h1 := key k q hk
    show E.1 ≤ q.1
    omega
theorem xw_set {E : XE} {cnt : Nat} {h h' : XH} {a : Nat} {e : va_E} (ha : a < cnt) (he : e = xcell E h' a) (ho : ∀ b, b ≠ a → xcell E h' b = xcell E h b) : (xw E cnt h).set a (E.1 + a, e) = xw E cnt h' := by
  apply List.ext_getElem?
  intro i
  by_cases hi : i = a
  · subst hi
    rw [List.getElem?_set_self (by rw [xw_len]; exact ha), xw_at E h' ha, he]
  · rw [List.getElem?_set_ne (Ne.symm hi)]
    by_cases hl : i < cnt
    · rw [xw_at E h hl, xw_at E h' hl, ho i hi]
    · rw [List.getElem?_eq_none (by rw [xw_len]; omega), List.getElem?_eq_none (by rw [xw_len]; omega)]
theorem xw_push {E : XE} {cnt : Nat} {h h' : XH} {e : va_E} (he : e = xcell E h' cnt) (ho : ∀ b, b < cnt → xcell E h' b = xcell E h b) : xw E cnt h ++ [(E.1 + cnt, e)] = xw E (cnt + 1) h' := by
  unfold xw
  rw [List.range_succ, List.map_append, List.map_singleton, he]
  congr 1
  exact List.map_congr_left (fun b hb => by rw [ho b (List.mem_range.mp hb)])
def upI (f : Nat → Nat → Int32) (a k : Nat) (v : Int32) : Nat → Nat → Int32 := fun b j => if b = a ∧ j = k then v else f b j
def upL (f : Nat → Nat → Int64) (a k : Nat) (v : Int64) : Nat → Nat → Int64 := fun b j => if b = a ∧ j = k then v else f b j
def upR (f : Nat → Nat → Option Nat) (a k : Nat) (v : Option Nat) : Nat → Nat → Option Nat := fun b j => if b = a ∧ j = k then v else f b j
theorem xc_off {E : XE} {h h' : XH} {b : Nat} (h1 : h'.1 b = h.1 b) (h2 : h'.2.1 b = h.2.1 b) (h3 : h'.2.2 b = h.2.2 b) : xcell E h' b = xcell E h b := by
  have e1 : ∀ k t, xfv E h' b k t = xfv E h b k t := by
    intro k t
    unfold xfv
    rw [h1, h2, h3]
  unfold xcell
  rw [h1, h3]
  simp only [e1]
theorem upI_off {f : Nat → Nat → Int32} {a k : Nat} {v : Int32} {b : Nat} (hb : b ≠ a) : upI f a k v b = f b := by
  funext j
  exact if_neg (fun q => hb q.1)
theorem upL_off {f : Nat → Nat → Int64} {a k : Nat} {v : Int64} {b : Nat} (hb : b ≠ a) : upL f a k v b = f b := by
  funext j
  exact if_neg (fun q => hb q.1)
theorem upR_off {f : Nat → Nat → Option Nat} {a k : Nat} {v : Option Nat} {b : Nat} (hb : b ≠ a) : upR f a k v b = f b := by
  funext j
  exact if_neg (fun q => hb q.1)
theorem upI_on {f : Nat → Nat → Int32} {a k : Nat} {v : Int32} : upI f a k v a = upd (f a) k v := by
  funext j
  unfold upI upd
  by_cases hj : j = k
  · rw [if_pos ⟨rfl, hj⟩, if_pos hj]
  · rw [if_neg (fun q => hj q.2), if_neg hj]
theorem upR_on {f : Nat → Nat → Option Nat} {a k : Nat} {v : Option Nat} : upR f a k v a = va_up (f a) k v := by
  funext j
  unfold upR va_up
  by_cases hj : j = k
  · rw [if_pos ⟨rfl, hj⟩, if_pos hj]
  · rw [if_neg (fun q => hj q.2), if_neg hj]
theorem xc_obj {E : XE} {h : XH} {a ci : Nat} (hs : xsh.getD a (9, 0) = (0, ci)) : xcell E h a = .inr (ci, (List.range (xnf ci)).map (fun k => xfv E h a k (xft ci k))) := by
  unfold xcell
  rw [hs]
  rfl
theorem xc_int {E : XE} {h : XH} {a n : Nat} (hs : xsh.getD a (9, 0) = (1, n)) : xcell E h a = .inl (E.2.2.2.2.1.1, n, .inl (h.1 a)) := by
  unfold xcell
  rw [hs]
  rfl
theorem xc_boo {E : XE} {h : XH} {a n : Nat} (hs : xsh.getD a (9, 0) = (2, n)) : xcell E h a = .inl (E.2.2.2.2.1.2.1, n, .inl (h.1 a)) := by
  unfold xcell
  rw [hs]
  rfl
theorem xc_byt {E : XE} {h : XH} {a n : Nat} (hs : xsh.getD a (9, 0) = (3, n)) : xcell E h a = .inl (E.2.2.2.2.1.2.2.1, n, .inl (h.1 a)) := by
  unfold xcell
  rw [hs]
  rfl
theorem xc_ref {E : XE} {h : XH} {a n : Nat} (hs : xsh.getD a (9, 0) = (4, n)) : xcell E h a = .inl (E.2.2.2.2.1.2.2.2, n, .inr (.inr (.inr (.inr (fun k => (h.2.2 a k).map (xa E)))))) := by
  unfold xcell
  rw [hs]
  rfl
theorem xfs_get {E : XE} {h : XH} {a ci k : Nat} (hk : k < xnf ci) : ((List.range (xnf ci)).map (fun k => xfv E h a k (xft ci k)))[k]? = some (xfv E h a k (xft ci k)) := by
  rw [List.getElem?_map, List.getElem?_range hk]
  rfl
theorem xfs_set {E : XE} {h h' : XH} {a ci k : Nat} {v : Value} (hv : v = xfv E h' a k (xft ci k)) (ho : ∀ j, j ≠ k → xfv E h' a j (xft ci j) = xfv E h a j (xft ci j)) : ((List.range (xnf ci)).map (fun k => xfv E h a k (xft ci k))).set k v = (List.range (xnf ci)).map (fun k => xfv E h' a k (xft ci k)) := by
  apply List.ext_getElem?
  intro i
  by_cases hl : i < xnf ci
  · by_cases hi : i = k
    · subst hi
      rw [List.getElem?_set_self (by rw [List.length_map, List.length_range]; exact hl), xfs_get hl, hv]
    · rw [List.getElem?_set_ne (Ne.symm hi), xfs_get hl, xfs_get hl, ho i hi]
  · rw [List.getElem?_eq_none (by rw [List.length_set, List.length_map, List.length_range]; omega), List.getElem?_eq_none (by rw [List.length_map, List.length_range]; omega)]
/-! what is known of the tables and of the constants -/
def xnm : List String := ["ONE", "EAGER", "HASTY", "SHY", "GONE"]
def xF : List (String × String × String × List Int32) := [("ThumbSea$Kind", "number", "I", [0, 1, 2, 3, 4]), ("ThumbSea$Kind", "letter", "I", [111, 101, 104, 115, 103])]
def xtys (E : XE) : List (ClassId × FieldType) := [(E.2.2.2.2.1.1, .int), (E.2.2.2.2.1.2.1, .boolean), (E.2.2.2.2.1.2.2.1, .byte), (E.2.2.2.2.1.2.2.2, .object "ThumbSea$Person")]
def xnest : List (String × Nat × MethodName × String) := [(RX9, 11, yX4_init, "ThumbSea"), (RX0, 19, yX6_init, "ThumbSea"), (RX9, 28, yX7_init, "ThumbSea"), (RX9, 35, yX3_init, "ThumbSea"), (RX4, 44, yX9_isWithin, "ThumbSea"), (RX3, 27, yX9_isWithin, "ThumbSea"), (RX7, 22, yX9_isWithin, "ThumbSea"), (RX8, 9, yX9_isWithin, "ThumbSea")]
def XK (E : XE) (U : State) (H : Heap) : Prop :=
  va_K E.2.2.2.1 vwCl (xtys E) U ∧ (∀ q ∈ xnest, va_Nw (.methodLinkNest q.1 q.2.1 q.2.2.1 q.2.2.2) U) ∧ va_AO "ThumbSea$Person" U ∧ va_En "ThumbSea$Kind" "LThumbSea$Kind;" xnm xF E.2.1 (xA E) U H ∧
  va_Z "ThumbSea$Kind" "ALL" "[LThumbSea$Kind;" (.ref E.2.2.1) (xA E) U H ∧ va_T (.object "ThumbSea$Kind") E.2.2.1 5 (fun j => .ref (E.2.1 j)) (xA E) U H ∧ va_X E.2.2.2.2.2.1 E.2.2.2.2.2.2.1 E.2.2.2.2.2.2.2 U H ∧ E.2.2.2.2.2.1 < E.1
theorem XK.step {E : XE} {s U : State} {H : Heap} {locs : List Loc} (h : XK E s s.heap) (hS : va_S (xA E) s.heap H locs) (hb : E.1 ≤ s.heap.size) (hW : s.WarmedH U.vm) : XK E U H := by
  obtain ⟨h1, h2, h3, h4, h5, h6, h7, h8⟩ := h
  have ha := hW.alike
  refine ⟨h1.moved ha, fun q hq => (h2 q hq).warmM hW, h3.moved ha, (h4.moved ha).kept hS.2.1, (h5.moved ha).kept hS.2.1, (h6.moved ha).kept hS.2.1, (h7.moved ha).kept (hS.2.1 _ (by omega) (fun q => ?_)), h8⟩
  have : E.1 ≤ E.2.2.2.2.2.1 := q
  omega
theorem XK.same {E : XE} {u U : State} {H : Heap} (h : XK E u H) (hv : u.vm = U.vm) : XK E U H := by
  obtain ⟨h1, h2, h3, h4, h5, h6, h7, h8⟩ := h
  have ha : u.vm.Alike U.vm := by rw [hv]; exact Vm.Alike.refl U.vm
  exact ⟨h1.moved ha, fun q hq => (h2 q hq).same rfl hv, h3.moved ha, h4.moved ha, h5.moved ha, h6.moved ha, h7.moved ha, h8⟩
def XI (E : XE) (cnt : Nat) (h : XH) (U : State) : Prop := U.heap.size = E.1 + cnt ∧ cnt ≤ 1000 ∧ va_P E.2.2.2.1 vwCl (xw E cnt h) U.heap ∧ XK E U U.heap
def xws (M : XM) : List Cond := .code M.1 M.2.1 M.2.2.1 M.2.2.2 :: xtbl
def xroom (d mc ms : Nat) : Room := { frames := d, cells := mc, slots := ms, locals := 60 * d }
def XQ (E : XE) (cF : Nat) (Q : Option Value → XH → Prop) : Array Value → State → Outcome → State → Prop := fun _ st o t => (∃ (r : Option Value) (h : XH), o = .returned (r.map (xv E)) ∧ Q r h ∧ XI E cF h t) ∧ va_F (xA E) st t
/-- a method's contract at these arguments and this heap; mc cells and ms slots are made -/
def MC (E : XE) (l : Launch) (d : Nat) (M : XM) (avs : List Value) (cnt : Nat) (h : XH) (mc ms : Nat) (Q : Option Value → XH → Prop) : Prop :=
  Met l M.1 (xws M) (xroom d mc ms) (va_Pc (avs.map (xv E)) (XI E cnt h)) (XQ E (cnt + mc) Q) mc ms (xA E)
def xl (E : XE) : Nat → XL → List (Nat × Value)
  | _, [] => []
  | i, none :: r => xl E (i + 1) r
  | i, some v :: r => (i, xv E v) :: xl E (i + 1) r
theorem xl_mem {E : XE} : ∀ {ls : XL} {i : Nat} {q : Nat × Value}, q ∈ xl E i ls ↔ ∃ (k : Nat) (v : Value), ls[k]? = some (some v) ∧ q = (i + k, xv E v)
  | [], i, q => by simp [xl]
  | none :: r, i, q => by
    rw [xl, xl_mem]
    constructor
    · rintro ⟨k, v, h1, h2⟩
      exact ⟨k + 1, v, by simpa using h1, by rw [h2]; congr 1; omega⟩
    · rintro ⟨k, v, h1, h2⟩
      cases k with
      | zero => simp at h1
      | succ k => exact ⟨k, v, by simpa using h1, by rw [h2]; congr 1; omega⟩
  | some w :: r, i, q => by
    rw [xl, List.mem_cons, xl_mem]
    constructor
    · rintro (h | ⟨k, v, h1, h2⟩)
      · exact ⟨0, w, rfl, by rw [h]; rfl⟩
      · exact ⟨k + 1, v, by simpa using h1, by rw [h2]; congr 1; omega⟩
    · rintro ⟨k, v, h1, h2⟩
      cases k with
      | zero =>
        left
        simp at h1
        rw [h2, h1]
        rfl
      | succ k =>
        right
        exact ⟨k, v, by simpa using h1, by rw [h2]; congr 1; omega⟩
def XLS (E : XE) (lsA : Array Slot) (n : Nat) (ls : XL) : Prop := lv_has lsA n (xl E 0 ls)
theorem XLS.get {E : XE} {lsA : Array Slot} {n : Nat} {ls : XL} (h : XLS E lsA n ls) {i : Nat} {v : Value} (hi : ls[i]? = some (some v)) : lsA[i]? = some (.val (xv E v)) := h.2.2 (i, xv E v) (xl_mem.mpr ⟨i, v, hi, by rw [Nat.zero_add]⟩)
def xcat2 (v : Option Value) : Bool := match v with
  | some (.long _) => true
  | some (.double _) => true
  | _ => false
theorem xcat2_of {v : Value} (h : xcat2 (some v) = false) : (v.category == 2) = false := by
  cases v <;> first | rfl | cases h
/-- no long just below the place -/
def xok (ls : XL) (i : Nat) : Bool := match i with
  | 0 => true
  | i + 1 => !(xcat2 (ls.getD i none))
theorem XLS.put {E : XE} {lsA : Array Slot} {n : Nat} {ls : XL} {i : Nat} {v : Value} (hok : xok ls i = true) (h : lv_has lsA n ((i, xv E v) :: (xl E 0 ls).filter (fun q => !(q.1 == i) && !(q.1 + 1 == i && q.2.category == 2)))) : XLS E lsA n (ls.set i (some v)) := by
  refine ⟨h.1, h.2.1, fun q hq => ?_⟩
  obtain ⟨k, w, h1, h2⟩ := xl_mem.mp hq
  rw [Nat.zero_add] at h2
  by_cases hk : k = i
  · subst hk
    have hl := (List.getElem?_eq_some_iff.mp h1).1
    rw [List.length_set] at hl
    rw [List.getElem?_set_self hl] at h1
    cases h1
    exact h.2.2 q (by rw [h2]; exact List.mem_cons_self)
  · rw [List.getElem?_set_ne (Ne.symm hk)] at h1
    refine h.2.2 q (List.mem_cons_of_mem _ (List.mem_filter.mpr ⟨xl_mem.mpr ⟨k, w, h1, by rw [Nat.zero_add]; exact h2⟩, ?_⟩))
    rw [h2]
    have e1 : (k == i) = false := by simpa using hk
    by_cases hk1 : k + 1 = i
    · subst hk1
      have e3 : xcat2 (some w) = false := by
        have hok' : (!(xcat2 (ls.getD k none))) = true := hok
        rw [List.getD_eq_getElem?_getD, h1] at hok'
        simpa using hok'
      have e4 := xcat2_of e3
      simp [e1, xv_cat, e4]
    · have e2 : (k + 1 == i) = false := by simpa using hk1
      simp [e1, e2]
theorem XLS.putL {E : XE} {lsA : Array Slot} {n : Nat} {ls : XL} {i : Nat} {v : Value} (hok : xok ls i = true) (h : lv_has lsA n ((i, xv E v) :: (xl E 0 ls).filter (fun q => !(q.1 == i) && (!(q.1 == i + 1) && !(q.1 + 1 == i && q.2.category == 2))))) : XLS E lsA n ((ls.set i (some v)).set (i + 1) none) := by
  refine ⟨h.1, h.2.1, fun q hq => ?_⟩
  obtain ⟨k, w, h1, h2⟩ := xl_mem.mp hq
  rw [Nat.zero_add] at h2
  by_cases hk2 : k = i + 1
  · subst hk2
    have hl := (List.getElem?_eq_some_iff.mp h1).1
    rw [List.length_set] at hl
    rw [List.getElem?_set_self hl] at h1
    cases h1
  rw [List.getElem?_set_ne (Ne.symm hk2)] at h1
  by_cases hk : k = i
  · subst hk
    have hl := (List.getElem?_eq_some_iff.mp h1).1
    rw [List.length_set] at hl
    rw [List.getElem?_set_self hl] at h1
    cases h1
    exact h.2.2 q (by rw [h2]; exact List.mem_cons_self)
  · rw [List.getElem?_set_ne (Ne.symm hk)] at h1
    refine h.2.2 q (List.mem_cons_of_mem _ (List.mem_filter.mpr ⟨xl_mem.mpr ⟨k, w, h1, by rw [Nat.zero_add]; exact h2⟩, ?_⟩))
    rw [h2]
    have e1 : (k == i) = false := by simpa using hk
    have e0 : (k == i + 1) = false := by simpa using hk2
    by_cases hk1 : k + 1 = i
    · subst hk1
      have e3 : xcat2 (some w) = false := by
        have hok' : (!(xcat2 (ls.getD k none))) = true := hok
        rw [List.getD_eq_getElem?_getD, h1] at hok'
        simpa using hok'
      have e4 := xcat2_of e3
      simp [e1, xv_cat, e4, hk2]
    · have e2 : (k + 1 == i) = false := by simpa using hk1
      simp [e1, e2, e0]
/-- a return: which instruction, which type -/
def xret (M : XM) (pc : Nat) (r : Option Value) : Prop := match r with
  | none => decode M.2.1 pc = .ok (.return_, 1) ∧ M.2.2.2 = none
  | some (.int v) => decode M.2.1 pc = .ok (.ireturn, 1) ∧ ∃ ty, M.2.2.2 = some ty ∧ narrow ty (.int v) = .int v
  | some (.long _) => decode M.2.1 pc = .ok (.lreturn, 1) ∧ M.2.2.2 = some .long
  | some (.ref _) => decode M.2.1 pc = .ok (.areturn, 1) ∧ ∃ n, M.2.2.2 = some (.object n)
  | _ => False
/-- the heap, the locals and the room at a point -/
def XR (E : XE) (M : XM) (s : State) (cF ms mr sr cnt : Nat) (h : XH) (ls : XL) (H : Heap) (locs : List Loc) (cells slots : Nat) (lsA : Array Slot) : Prop :=
  s.heap.size + cells = E.1 + cnt ∧ cnt ≤ 1000 ∧ va_P E.2.2.2.1 vwCl (xw E cnt h) H ∧ va_S (xA E) s.heap H locs ∧ XLS E lsA M.2.2.1 ls ∧ cnt + mr = cF ∧ slots + sr ≤ ms
def XC (E : XE) (l : Launch) (d : Nat) (M : XM) (Q : Option Value → XH → Prop) (p : Program) (e : Env) (s : State) (m : MethodId) (args : Array Value) (below : List Frame) (meth : Method) (c : Code) (R : Room) (Fin : State → Prop) (cF ms : Nat) : Prop :=
  p.tables.exec = Jvm.exec ∧ c.code = M.2.1 ∧ c.maxLocals = M.2.2.1 ∧ s.vm.findClass M.1.cls = some m.cls ∧ meth.name = M.1.name ∧ (∀ w ∈ xtbl, w.before args s = true) ∧ (d ≤ R.frames ∧ 60 * d ≤ R.locals ∧ E.1 + cF ≤ s.heap.size + R.cells ∧ ms ≤ R.slots) ∧ E.1 ≤ s.heap.size ∧ XK E s s.heap ∧
  ∀ (r : Option Value) (h : XH) (H : Heap) (locs : List Loc) (cells slots : Nat) (lsA : Array Slot) (ls : XL) (sr pc : Nat), XR E M s cF ms 0 sr cF h ls H locs cells slots lsA → Q r h → xret M pc r → W p l e R s m args below meth c H locs cells slots Fin (F0 m pc lsA (r.map (xv E)).toList)
/-- from here, with these locals, this stack, this heap and this room, the method comes to its end with Q -/
def G (E : XE) (l : Launch) (d : Nat) (M : XM) (pc : Nat) (ls : XL) (st : List Value) (cnt : Nat) (h : XH) (mr sr : Nat) (Q : Option Value → XH → Prop) : Prop :=
  ∀ (p : Program) (e : Env) (s : State) (m : MethodId) (args : Array Value) (below : List Frame) (meth : Method) (c : Code) (R : Room) (Fin : State → Prop) (cF ms : Nat), XC E l d M Q p e s m args below meth c R Fin cF ms →
    ∀ (H : Heap) (locs : List Loc) (cells slots : Nat) (lsA : Array Slot), XR E M s cF ms mr sr cnt h ls H locs cells slots lsA → W p l e R s m args below meth c H locs cells slots Fin (F0 m pc lsA (st.map (xv E)))
theorem W.size {p : Program} {l : Launch} {e : Env} {R : Room} {s : State} {m : MethodId} {args : Array Value} {below : List Frame} {meth : Method} {c : Code} {H : Heap} {locs : List Loc} {cells slots : Nat} {Fin : State → Prop} {g : JFrame} (k : H.size ≤ s.heap.size + cells → W p l e R s m args below meth c H locs cells slots Fin g) : W p l e R s m args below meth c H locs cells slots Fin g :=
  fun T hT X => k (by have := X.heapSize; rw [hT] at this; exact this) T hT X
theorem XR.size {E : XE} {M : XM} {s : State} {cF ms mr sr cnt : Nat} {h : XH} {ls : XL} {H : Heap} {locs : List Loc} {cells slots : Nat} {lsA : Array Slot} (r : XR E M s cF ms mr sr cnt h ls H locs cells slots lsA) (hb : E.1 ≤ s.heap.size) (hz : H.size ≤ s.heap.size + cells) : H.size = E.1 + cnt := by
  have h1 := r.1
  have h4 := r.2.2.2.1.1
  cases hc : cnt with
  | zero => omega
  | succ n =>
    have h5 : n < cnt := by omega
    have h6 := (r.2.2.1 n _ (xw_at E h h5)).lt
    have h7 : E.1 + n < H.size := h6
    omega
section XRows
variable {E : XE} {l : Launch} {d : Nat} {M : XM} {pc : Nat} {ls : XL} {st : List Value} {cnt : Nat} {h : XH} {mr sr : Nat} {Q : Option Value → XH → Prop}

theorem g_iconst {n : Int} {v : Int32} (hd : decode M.2.1 pc = .ok (.iconst n, 1)) (hv : Int32.ofInt n = v) (k : G E l d M (pc + 1) ls (.int v :: st) cnt h mr sr Q) : G E l d M pc ls (st) cnt h mr sr Q := by
  intro p e s m args below meth c R Fin cF ms X H locs cells slots lsA r
  exact lv_iconst X.1 X.2.1 hd hv (k p e s m args below meth c R Fin cF ms X H locs cells slots lsA r)
theorem g_bipush {n : Int} {v : Int32} (hd : decode M.2.1 pc = .ok (.bipush n, 2)) (hv : (Int8.ofInt n).toInt32 = v) (k : G E l d M (pc + 2) ls (.int v :: st) cnt h mr sr Q) : G E l d M pc ls (st) cnt h mr sr Q := by
  intro p e s m args below meth c R Fin cF ms X H locs cells slots lsA r
  exact lv_bipush X.1 X.2.1 hd hv (k p e s m args below meth c R Fin cF ms X H locs cells slots lsA r)
theorem g_sipush {n : Int} {v : Int32} (hd : decode M.2.1 pc = .ok (.sipush n, 3)) (hv : (Int16.ofInt n).toInt32 = v) (k : G E l d M (pc + 3) ls (.int v :: st) cnt h mr sr Q) : G E l d M pc ls (st) cnt h mr sr Q := by
  intro p e s m args below meth c R Fin cF ms X H locs cells slots lsA r
  exact lv_sipush X.1 X.2.1 hd hv (k p e s m args below meth c R Fin cF ms X H locs cells slots lsA r)
theorem g_lconst {n : Fin 2} {v : Int64} (hd : decode M.2.1 pc = .ok (.lconst n, 1)) (hv : Int64.ofNat (n : Nat) = v) (k : G E l d M (pc + 1) ls (.long v :: st) cnt h mr sr Q) : G E l d M pc ls (st) cnt h mr sr Q := by
  intro p e s m args below meth c R Fin cF ms X H locs cells slots lsA r
  exact lv_lconst X.1 X.2.1 hd hv (k p e s m args below meth c R Fin cF ms X H locs cells slots lsA r)
theorem g_ldc {i : Nat} {v : Int32} (hd : decode M.2.1 pc = .ok (.ldc i, 2)) (hw : Cond.constant M.1.cls i v ∈ xtbl) (k : G E l d M (pc + 2) ls (.int v :: st) cnt h mr sr Q) : G E l d M pc ls (st) cnt h mr sr Q := by
  intro p e s m args below meth c R Fin cF ms X H locs cells slots lsA r
  exact lv_ldc X.1 X.2.1 X.2.2.2.1 (X.2.2.2.2.2.1 _ hw) hd (k p e s m args below meth c R Fin cF ms X H locs cells slots lsA r)
theorem g_ldcw {i : Nat} {v : Int32} (hd : decode M.2.1 pc = .ok (.ldc_w i, 3)) (hw : Cond.constant M.1.cls i v ∈ xtbl) (k : G E l d M (pc + 3) ls (.int v :: st) cnt h mr sr Q) : G E l d M pc ls (st) cnt h mr sr Q := by
  intro p e s m args below meth c R Fin cF ms X H locs cells slots lsA r
  exact lv_ldcw X.1 X.2.1 X.2.2.2.1 (X.2.2.2.2.2.1 _ hw) hd (k p e s m args below meth c R Fin cF ms X H locs cells slots lsA r)
theorem g_ldc2 {i : Nat} {v : Int64} (hd : decode M.2.1 pc = .ok (.ldc2_w i, 3)) (hw : Cond.constantLong M.1.cls i v ∈ xtbl) (k : G E l d M (pc + 3) ls (.long v :: st) cnt h mr sr Q) : G E l d M pc ls (st) cnt h mr sr Q := by
  intro p e s m args below meth c R Fin cF ms X H locs cells slots lsA r
  exact lv_ldc2 X.1 X.2.1 X.2.2.2.1 (X.2.2.2.2.2.1 _ hw) hd (k p e s m args below meth c R Fin cF ms X H locs cells slots lsA r)
theorem g_iload_n {k4 : Fin 4} {x : Int32} (hd : decode M.2.1 pc = .ok (.iload_n k4, 1)) (hl : ls[(k4 : Nat)]? = some (some (.int x))) (k : G E l d M (pc + 1) ls (.int x :: st) cnt h mr sr Q) : G E l d M pc ls st cnt h mr sr Q := by
  intro p e s m args below meth c R Fin cF ms X H locs cells slots lsA r
  exact lv_iload_n X.1 X.2.1 hd rfl (r.2.2.2.2.1.get hl) (k p e s m args below meth c R Fin cF ms X H locs cells slots lsA r)
theorem g_iload {i : Nat} {x : Int32} (hd : decode M.2.1 pc = .ok (.iload i, 2)) (hl : ls[i]? = some (some (.int x))) (k : G E l d M (pc + 2) ls (.int x :: st) cnt h mr sr Q) : G E l d M pc ls st cnt h mr sr Q := by
  intro p e s m args below meth c R Fin cF ms X H locs cells slots lsA r
  exact lv_iload X.1 X.2.1 hd (r.2.2.2.2.1.get hl) (k p e s m args below meth c R Fin cF ms X H locs cells slots lsA r)
theorem g_lload_n {k4 : Fin 4} {x : Int64} (hd : decode M.2.1 pc = .ok (.lload_n k4, 1)) (hl : ls[(k4 : Nat)]? = some (some (.long x))) (k : G E l d M (pc + 1) ls (.long x :: st) cnt h mr sr Q) : G E l d M pc ls st cnt h mr sr Q := by
  intro p e s m args below meth c R Fin cF ms X H locs cells slots lsA r
  exact lv_lload_n X.1 X.2.1 hd rfl (r.2.2.2.2.1.get hl) (k p e s m args below meth c R Fin cF ms X H locs cells slots lsA r)
theorem g_lload {i : Nat} {x : Int64} (hd : decode M.2.1 pc = .ok (.lload i, 2)) (hl : ls[i]? = some (some (.long x))) (k : G E l d M (pc + 2) ls (.long x :: st) cnt h mr sr Q) : G E l d M pc ls st cnt h mr sr Q := by
  intro p e s m args below meth c R Fin cF ms X H locs cells slots lsA r
  exact lv_lload X.1 X.2.1 hd (r.2.2.2.2.1.get hl) (k p e s m args below meth c R Fin cF ms X H locs cells slots lsA r)
theorem g_aload_n {k4 : Fin 4} {x : Nat} (hd : decode M.2.1 pc = .ok (.aload_n k4, 1)) (hl : ls[(k4 : Nat)]? = some (some (.ref x))) (k : G E l d M (pc + 1) ls (.ref x :: st) cnt h mr sr Q) : G E l d M pc ls st cnt h mr sr Q := by
  intro p e s m args below meth c R Fin cF ms X H locs cells slots lsA r
  exact lv_aload_n X.1 X.2.1 hd rfl (r.2.2.2.2.1.get hl) (k p e s m args below meth c R Fin cF ms X H locs cells slots lsA r)
theorem g_aload {i : Nat} {x : Nat} (hd : decode M.2.1 pc = .ok (.aload i, 2)) (hl : ls[i]? = some (some (.ref x))) (k : G E l d M (pc + 2) ls (.ref x :: st) cnt h mr sr Q) : G E l d M pc ls st cnt h mr sr Q := by
  intro p e s m args below meth c R Fin cF ms X H locs cells slots lsA r
  exact lv_aload X.1 X.2.1 hd (r.2.2.2.2.1.get hl) (k p e s m args below meth c R Fin cF ms X H locs cells slots lsA r)
theorem g_istore_n {k4 : Fin 4} {x : Int32} {ls' : XL} (hd : decode M.2.1 pc = .ok (.istore_n k4, 1)) (hn : (k4 : Nat) < M.2.2.1) (ho : xok ls (k4 : Nat) = true) (he : (ls.set (k4 : Nat) (some (.int x))) = ls') (k : G E l d M (pc + 1) ls' st cnt h mr sr Q) : G E l d M pc ls (.int x :: st) cnt h mr sr Q := by
  intro p e s m args below meth c R Fin cF ms X H locs cells slots lsA r
  refine lv_istore_n X.1 X.2.1 hd rfl r.2.2.2.2.1 hn rfl (fun lsB hl => k p e s m args below meth c R Fin cF ms X H locs cells slots lsB ⟨r.1, r.2.1, r.2.2.1, r.2.2.2.1, he ▸ XLS.put (v := .int x) ho hl, r.2.2.2.2.2⟩)
theorem g_istore {i : Nat} {x : Int32} {ls' : XL} (hd : decode M.2.1 pc = .ok (.istore i, 2)) (hn : i < M.2.2.1) (ho : xok ls i = true) (he : (ls.set i (some (.int x))) = ls') (k : G E l d M (pc + 2) ls' st cnt h mr sr Q) : G E l d M pc ls (.int x :: st) cnt h mr sr Q := by
  intro p e s m args below meth c R Fin cF ms X H locs cells slots lsA r
  refine lv_istore X.1 X.2.1 hd r.2.2.2.2.1 hn rfl (fun lsB hl => k p e s m args below meth c R Fin cF ms X H locs cells slots lsB ⟨r.1, r.2.1, r.2.2.1, r.2.2.2.1, he ▸ XLS.put (v := .int x) ho hl, r.2.2.2.2.2⟩)
theorem g_astore_n {k4 : Fin 4} {x : Nat} {ls' : XL} (hd : decode M.2.1 pc = .ok (.astore_n k4, 1)) (hn : (k4 : Nat) < M.2.2.1) (ho : xok ls (k4 : Nat) = true) (he : (ls.set (k4 : Nat) (some (.ref x))) = ls') (k : G E l d M (pc + 1) ls' st cnt h mr sr Q) : G E l d M pc ls (.ref x :: st) cnt h mr sr Q := by
  intro p e s m args below meth c R Fin cF ms X H locs cells slots lsA r
  refine lv_astore_n X.1 X.2.1 hd rfl r.2.2.2.2.1 hn rfl (fun lsB hl => k p e s m args below meth c R Fin cF ms X H locs cells slots lsB ⟨r.1, r.2.1, r.2.2.1, r.2.2.2.1, he ▸ XLS.put (v := .ref x) ho hl, r.2.2.2.2.2⟩)
theorem g_astore {i : Nat} {x : Nat} {ls' : XL} (hd : decode M.2.1 pc = .ok (.astore i, 2)) (hn : i < M.2.2.1) (ho : xok ls i = true) (he : (ls.set i (some (.ref x))) = ls') (k : G E l d M (pc + 2) ls' st cnt h mr sr Q) : G E l d M pc ls (.ref x :: st) cnt h mr sr Q := by
  intro p e s m args below meth c R Fin cF ms X H locs cells slots lsA r
  refine lv_astore X.1 X.2.1 hd r.2.2.2.2.1 hn rfl (fun lsB hl => k p e s m args below meth c R Fin cF ms X H locs cells slots lsB ⟨r.1, r.2.1, r.2.2.1, r.2.2.2.1, he ▸ XLS.put (v := .ref x) ho hl, r.2.2.2.2.2⟩)
theorem g_lstore_n {k4 : Fin 4} {x : Int64} {ls' : XL} (hd : decode M.2.1 pc = .ok (.lstore_n k4, 1)) (hn : (k4 : Nat) + 1 < M.2.2.1) (ho : xok ls (k4 : Nat) = true) (he : ((ls.set (k4 : Nat) (some (.long x))).set ((k4 : Nat) + 1) none) = ls') (k : G E l d M (pc + 1) ls' st cnt h mr sr Q) : G E l d M pc ls (.long x :: st) cnt h mr sr Q := by
  intro p e s m args below meth c R Fin cF ms X H locs cells slots lsA r
  refine lv_lstore_n X.1 X.2.1 hd rfl r.2.2.2.2.1 hn rfl (fun lsB hl => k p e s m args below meth c R Fin cF ms X H locs cells slots lsB ⟨r.1, r.2.1, r.2.2.1, r.2.2.2.1, he ▸ XLS.putL (v := .long x) ho hl, r.2.2.2.2.2⟩)
theorem g_lstore {i : Nat} {x : Int64} {ls' : XL} (hd : decode M.2.1 pc = .ok (.lstore i, 2)) (hn : i + 1 < M.2.2.1) (ho : xok ls i = true) (he : ((ls.set i (some (.long x))).set (i + 1) none) = ls') (k : G E l d M (pc + 2) ls' st cnt h mr sr Q) : G E l d M pc ls (.long x :: st) cnt h mr sr Q := by
  intro p e s m args below meth c R Fin cF ms X H locs cells slots lsA r
  refine lv_lstore X.1 X.2.1 hd r.2.2.2.2.1 hn rfl (fun lsB hl => k p e s m args below meth c R Fin cF ms X H locs cells slots lsB ⟨r.1, r.2.1, r.2.2.1, r.2.2.2.1, he ▸ XLS.putL (v := .long x) ho hl, r.2.2.2.2.2⟩)
theorem g_iinc {i : Nat} {n : Int} {x v : Int32} {ls' : XL} (hd : decode M.2.1 pc = .ok (.iinc i n, 3)) (hl : ls[i]? = some (some (.int x))) (hv : x + Int32.ofInt n = v) (hn : i < M.2.2.1) (ho : xok ls i = true) (he : (ls.set i (some (.int v))) = ls') (k : G E l d M (pc + 3) ls' st cnt h mr sr Q) : G E l d M pc ls st cnt h mr sr Q := by
  intro p e s m args below meth c R Fin cF ms X H locs cells slots lsA r
  obtain ⟨kk, hk⟩ := List.getElem?_of_mem (xl_mem.mpr ⟨i, .int x, hl, rfl⟩ : (0 + i, xv E (.int x)) ∈ xl E 0 ls)
  rw [Nat.zero_add] at hk
  refine lv_iinc (k := kk) (v := v) X.1 X.2.1 hd r.2.2.2.2.1 hk hv hn rfl (fun lsB hl => k p e s m args below meth c R Fin cF ms X H locs cells slots lsB ⟨r.1, r.2.1, r.2.2.1, r.2.2.2.1, he ▸ XLS.put (v := .int v) ho hl, r.2.2.2.2.2⟩)
theorem g_iadd {x y : Int32} (hd : decode M.2.1 pc = .ok (.iadd, 1)) (k : G E l d M (pc + 1) ls (.int (x + y) :: st) cnt h mr sr Q) : G E l d M pc ls (.int y :: .int x :: st) cnt h mr sr Q := by
  intro p e s m args below meth c R Fin cF ms X H locs cells slots lsA r
  exact lv_iadd X.1 X.2.1 hd (k p e s m args below meth c R Fin cF ms X H locs cells slots lsA r)
theorem g_isub {x y : Int32} (hd : decode M.2.1 pc = .ok (.isub, 1)) (k : G E l d M (pc + 1) ls (.int (x - y) :: st) cnt h mr sr Q) : G E l d M pc ls (.int y :: .int x :: st) cnt h mr sr Q := by
  intro p e s m args below meth c R Fin cF ms X H locs cells slots lsA r
  exact lv_isub X.1 X.2.1 hd (k p e s m args below meth c R Fin cF ms X H locs cells slots lsA r)
theorem g_imul {x y : Int32} (hd : decode M.2.1 pc = .ok (.imul, 1)) (k : G E l d M (pc + 1) ls (.int (x * y) :: st) cnt h mr sr Q) : G E l d M pc ls (.int y :: .int x :: st) cnt h mr sr Q := by
  intro p e s m args below meth c R Fin cF ms X H locs cells slots lsA r
  exact lv_imul X.1 X.2.1 hd (k p e s m args below meth c R Fin cF ms X H locs cells slots lsA r)
theorem g_iand {x y : Int32} (hd : decode M.2.1 pc = .ok (.iand, 1)) (k : G E l d M (pc + 1) ls (.int (x &&& y) :: st) cnt h mr sr Q) : G E l d M pc ls (.int y :: .int x :: st) cnt h mr sr Q := by
  intro p e s m args below meth c R Fin cF ms X H locs cells slots lsA r
  exact lv_iand X.1 X.2.1 hd (k p e s m args below meth c R Fin cF ms X H locs cells slots lsA r)
theorem g_ior {x y : Int32} (hd : decode M.2.1 pc = .ok (.ior, 1)) (k : G E l d M (pc + 1) ls (.int (x ||| y) :: st) cnt h mr sr Q) : G E l d M pc ls (.int y :: .int x :: st) cnt h mr sr Q := by
  intro p e s m args below meth c R Fin cF ms X H locs cells slots lsA r
  exact lv_ior X.1 X.2.1 hd (k p e s m args below meth c R Fin cF ms X H locs cells slots lsA r)
theorem g_ixor {x y : Int32} (hd : decode M.2.1 pc = .ok (.ixor, 1)) (k : G E l d M (pc + 1) ls (.int (x ^^^ y) :: st) cnt h mr sr Q) : G E l d M pc ls (.int y :: .int x :: st) cnt h mr sr Q := by
  intro p e s m args below meth c R Fin cF ms X H locs cells slots lsA r
  exact lv_ixor X.1 X.2.1 hd (k p e s m args below meth c R Fin cF ms X H locs cells slots lsA r)
theorem g_ishl {x y : Int32} (hd : decode M.2.1 pc = .ok (.ishl, 1)) (k : G E l d M (pc + 1) ls (.int (x <<< (y &&& 31)) :: st) cnt h mr sr Q) : G E l d M pc ls (.int y :: .int x :: st) cnt h mr sr Q := by
  intro p e s m args below meth c R Fin cF ms X H locs cells slots lsA r
  exact lv_ishl X.1 X.2.1 hd (k p e s m args below meth c R Fin cF ms X H locs cells slots lsA r)
theorem g_ishr {x y : Int32} (hd : decode M.2.1 pc = .ok (.ishr, 1)) (k : G E l d M (pc + 1) ls (.int (x >>> (y &&& 31)) :: st) cnt h mr sr Q) : G E l d M pc ls (.int y :: .int x :: st) cnt h mr sr Q := by
  intro p e s m args below meth c R Fin cF ms X H locs cells slots lsA r
  exact lv_ishr X.1 X.2.1 hd (k p e s m args below meth c R Fin cF ms X H locs cells slots lsA r)
theorem g_idiv {x y : Int32} (hd : decode M.2.1 pc = .ok (.idiv, 1)) (hne : ¬ y = 0) (k : G E l d M (pc + 1) ls (.int (x / y) :: st) cnt h mr sr Q) : G E l d M pc ls (.int y :: .int x :: st) cnt h mr sr Q := by
  intro p e s m args below meth c R Fin cF ms X H locs cells slots lsA r
  exact lv_idiv X.1 X.2.1 hd hne (k p e s m args below meth c R Fin cF ms X H locs cells slots lsA r)
theorem g_irem {x y : Int32} (hd : decode M.2.1 pc = .ok (.irem, 1)) (hne : ¬ y = 0) (k : G E l d M (pc + 1) ls (.int (x - x / y * y) :: st) cnt h mr sr Q) : G E l d M pc ls (.int y :: .int x :: st) cnt h mr sr Q := by
  intro p e s m args below meth c R Fin cF ms X H locs cells slots lsA r
  exact lv_irem X.1 X.2.1 hd hne (k p e s m args below meth c R Fin cF ms X H locs cells slots lsA r)
theorem g_ladd {x y : Int64} (hd : decode M.2.1 pc = .ok (.ladd, 1)) (k : G E l d M (pc + 1) ls (.long (x + y) :: st) cnt h mr sr Q) : G E l d M pc ls (.long y :: .long x :: st) cnt h mr sr Q := by
  intro p e s m args below meth c R Fin cF ms X H locs cells slots lsA r
  exact lv_ladd X.1 X.2.1 hd (k p e s m args below meth c R Fin cF ms X H locs cells slots lsA r)
theorem g_lmul {x y : Int64} (hd : decode M.2.1 pc = .ok (.lmul, 1)) (k : G E l d M (pc + 1) ls (.long (x * y) :: st) cnt h mr sr Q) : G E l d M pc ls (.long y :: .long x :: st) cnt h mr sr Q := by
  intro p e s m args below meth c R Fin cF ms X H locs cells slots lsA r
  exact lv_lmul X.1 X.2.1 hd (k p e s m args below meth c R Fin cF ms X H locs cells slots lsA r)
theorem g_land {x y : Int64} (hd : decode M.2.1 pc = .ok (.land, 1)) (k : G E l d M (pc + 1) ls (.long (x &&& y) :: st) cnt h mr sr Q) : G E l d M pc ls (.long y :: .long x :: st) cnt h mr sr Q := by
  intro p e s m args below meth c R Fin cF ms X H locs cells slots lsA r
  exact lv_land X.1 X.2.1 hd (k p e s m args below meth c R Fin cF ms X H locs cells slots lsA r)
theorem g_ldiv {x y : Int64} (hd : decode M.2.1 pc = .ok (.ldiv, 1)) (hne : ¬ y = 0) (k : G E l d M (pc + 1) ls (.long (x / y) :: st) cnt h mr sr Q) : G E l d M pc ls (.long y :: .long x :: st) cnt h mr sr Q := by
  intro p e s m args below meth c R Fin cF ms X H locs cells slots lsA r
  exact lv_ldiv X.1 X.2.1 hd hne (k p e s m args below meth c R Fin cF ms X H locs cells slots lsA r)
theorem g_lrem {x y : Int64} (hd : decode M.2.1 pc = .ok (.lrem, 1)) (hne : ¬ y = 0) (k : G E l d M (pc + 1) ls (.long (x - x / y * y) :: st) cnt h mr sr Q) : G E l d M pc ls (.long y :: .long x :: st) cnt h mr sr Q := by
  intro p e s m args below meth c R Fin cF ms X H locs cells slots lsA r
  exact lv_lrem X.1 X.2.1 hd hne (k p e s m args below meth c R Fin cF ms X H locs cells slots lsA r)
theorem g_lcmp {x y : Int64} (hd : decode M.2.1 pc = .ok (.lcmp, 1)) (k : G E l d M (pc + 1) ls (.int (lg_cmp x y) :: st) cnt h mr sr Q) : G E l d M pc ls (.long y :: .long x :: st) cnt h mr sr Q := by
  intro p e s m args below meth c R Fin cF ms X H locs cells slots lsA r
  exact W.lcmp X.1 X.2.1 hd (k p e s m args below meth c R Fin cF ms X H locs cells slots lsA r)
theorem g_iushr {x y : Int32} (hd : decode M.2.1 pc = .ok (.iushr, 1)) (k : G E l d M (pc + 1) ls (.int ((x.toUInt32 >>> (y.toUInt32 &&& Int32.toUInt32 31)).toInt32) :: st) cnt h mr sr Q) : G E l d M pc ls (.int y :: .int x :: st) cnt h mr sr Q := by
  intro p e s m args below meth c R Fin cF ms X H locs cells slots lsA r
  exact lv_iushr X.1 X.2.1 hd rfl (k p e s m args below meth c R Fin cF ms X H locs cells slots lsA r)
theorem g_ineg {x : Int32} (hd : decode M.2.1 pc = .ok (.ineg, 1)) (k : G E l d M (pc + 1) ls (.int (-x) :: st) cnt h mr sr Q) : G E l d M pc ls (.int x :: st) cnt h mr sr Q := by
  intro p e s m args below meth c R Fin cF ms X H locs cells slots lsA r
  exact lv_ineg X.1 X.2.1 hd (k p e s m args below meth c R Fin cF ms X H locs cells slots lsA r)
theorem g_i2l {x : Int32} (hd : decode M.2.1 pc = .ok (.i2l, 1)) (k : G E l d M (pc + 1) ls (.long x.toInt64 :: st) cnt h mr sr Q) : G E l d M pc ls (.int x :: st) cnt h mr sr Q := by
  intro p e s m args below meth c R Fin cF ms X H locs cells slots lsA r
  exact lv_i2l X.1 X.2.1 hd rfl (k p e s m args below meth c R Fin cF ms X H locs cells slots lsA r)
theorem g_l2i {x : Int64} (hd : decode M.2.1 pc = .ok (.l2i, 1)) (k : G E l d M (pc + 1) ls (.int x.toInt32 :: st) cnt h mr sr Q) : G E l d M pc ls (.long x :: st) cnt h mr sr Q := by
  intro p e s m args below meth c R Fin cF ms X H locs cells slots lsA r
  exact lv_l2i X.1 X.2.1 hd rfl (k p e s m args below meth c R Fin cF ms X H locs cells slots lsA r)
theorem g_i2b {x : Int32} (hd : decode M.2.1 pc = .ok (.i2b, 1)) (k : G E l d M (pc + 1) ls (.int x.toInt8.toInt32 :: st) cnt h mr sr Q) : G E l d M pc ls (.int x :: st) cnt h mr sr Q := by
  intro p e s m args below meth c R Fin cF ms X H locs cells slots lsA r
  exact lv_i2b X.1 X.2.1 hd rfl (k p e s m args below meth c R Fin cF ms X H locs cells slots lsA r)
theorem g_dup {v : Value} (hd : decode M.2.1 pc = .ok (.dup, 1)) (hc : v.category = 1) (k : G E l d M (pc + 1) ls (v :: v :: st) cnt h mr sr Q) : G E l d M pc ls (v :: st) cnt h mr sr Q := by
  intro p e s m args below meth c R Fin cF ms X H locs cells slots lsA r
  exact lv_dup X.1 X.2.1 hd (by rw [xv_cat]; exact hc) (k p e s m args below meth c R Fin cF ms X H locs cells slots lsA r)
theorem g_pop {v : Value} (hd : decode M.2.1 pc = .ok (.pop, 1)) (hc : v.category = 1) (k : G E l d M (pc + 1) ls st cnt h mr sr Q) : G E l d M pc ls (v :: st) cnt h mr sr Q := by
  intro p e s m args below meth c R Fin cF ms X H locs cells slots lsA r
  exact lv_pop X.1 X.2.1 hd (by rw [xv_cat]; exact hc) (k p e s m args below meth c R Fin cF ms X H locs cells slots lsA r)
theorem g_dup2 {v w : Value} (hd : decode M.2.1 pc = .ok (.dup2, 1)) (hc : v.category = 1) (hc2 : w.category = 1) (k : G E l d M (pc + 1) ls (v :: w :: v :: w :: st) cnt h mr sr Q) : G E l d M pc ls (v :: w :: st) cnt h mr sr Q := by
  intro p e s m args below meth c R Fin cF ms X H locs cells slots lsA r
  exact lv_dup2_11 X.1 X.2.1 hd (by rw [xv_cat]; exact hc) (by rw [xv_cat]; exact hc2) (k p e s m args below meth c R Fin cF ms X H locs cells slots lsA r)
theorem g_goto {off : Int} (tgt : Nat) (hd : decode M.2.1 pc = .ok (.goto off, 3)) (ht : (pc : Int) + off = (tgt : Int)) (k : G E l d M tgt ls st cnt h mr sr Q) : G E l d M pc ls st cnt h mr sr Q := by
  intro p e s m args below meth c R Fin cF ms X H locs cells slots lsA r
  exact lv_goto X.1 X.2.1 hd ht (k p e s m args below meth c R Fin cF ms X H locs cells slots lsA r)
theorem g_ifeq {x : Int32} {off : Int} (tgt : Nat) (hd : decode M.2.1 pc = .ok (.ifCond .eq off, 3)) (ht : (pc : Int) + off = (tgt : Int)) (kt : x = 0 → G E l d M tgt ls st cnt h mr sr Q) (kf : ¬ x = 0 → G E l d M (pc + 3) ls st cnt h mr sr Q) : G E l d M pc ls (.int x :: st) cnt h mr sr Q := by
  intro p e s m args below meth c R Fin cF ms X H locs cells slots lsA r
  exact lv_if_eq X.1 X.2.1 hd ht (fun q => kt q p e s m args below meth c R Fin cF ms X H locs cells slots lsA r) (fun q => kf q p e s m args below meth c R Fin cF ms X H locs cells slots lsA r)
theorem g_ifne {x : Int32} {off : Int} (tgt : Nat) (hd : decode M.2.1 pc = .ok (.ifCond .ne off, 3)) (ht : (pc : Int) + off = (tgt : Int)) (kt : ¬ x = 0 → G E l d M tgt ls st cnt h mr sr Q) (kf : x = 0 → G E l d M (pc + 3) ls st cnt h mr sr Q) : G E l d M pc ls (.int x :: st) cnt h mr sr Q := by
  intro p e s m args below meth c R Fin cF ms X H locs cells slots lsA r
  exact lv_if_ne X.1 X.2.1 hd ht (fun q => kt q p e s m args below meth c R Fin cF ms X H locs cells slots lsA r) (fun q => kf q p e s m args below meth c R Fin cF ms X H locs cells slots lsA r)
theorem g_iflt {x : Int32} {off : Int} (tgt : Nat) (hd : decode M.2.1 pc = .ok (.ifCond .lt off, 3)) (ht : (pc : Int) + off = (tgt : Int)) (kt : x < 0 → G E l d M tgt ls st cnt h mr sr Q) (kf : ¬ x < 0 → G E l d M (pc + 3) ls st cnt h mr sr Q) : G E l d M pc ls (.int x :: st) cnt h mr sr Q := by
  intro p e s m args below meth c R Fin cF ms X H locs cells slots lsA r
  exact lv_if_lt X.1 X.2.1 hd ht (fun q => kt q p e s m args below meth c R Fin cF ms X H locs cells slots lsA r) (fun q => kf q p e s m args below meth c R Fin cF ms X H locs cells slots lsA r)
theorem g_ifge {x : Int32} {off : Int} (tgt : Nat) (hd : decode M.2.1 pc = .ok (.ifCond .ge off, 3)) (ht : (pc : Int) + off = (tgt : Int)) (kt : 0 ≤ x → G E l d M tgt ls st cnt h mr sr Q) (kf : ¬ 0 ≤ x → G E l d M (pc + 3) ls st cnt h mr sr Q) : G E l d M pc ls (.int x :: st) cnt h mr sr Q := by
  intro p e s m args below meth c R Fin cF ms X H locs cells slots lsA r
  exact lv_if_ge X.1 X.2.1 hd ht (fun q => kt q p e s m args below meth c R Fin cF ms X H locs cells slots lsA r) (fun q => kf q p e s m args below meth c R Fin cF ms X H locs cells slots lsA r)
theorem g_ifgt {x : Int32} {off : Int} (tgt : Nat) (hd : decode M.2.1 pc = .ok (.ifCond .gt off, 3)) (ht : (pc : Int) + off = (tgt : Int)) (kt : 0 < x → G E l d M tgt ls st cnt h mr sr Q) (kf : ¬ 0 < x → G E l d M (pc + 3) ls st cnt h mr sr Q) : G E l d M pc ls (.int x :: st) cnt h mr sr Q := by
  intro p e s m args below meth c R Fin cF ms X H locs cells slots lsA r
  exact lv_if_gt X.1 X.2.1 hd ht (fun q => kt q p e s m args below meth c R Fin cF ms X H locs cells slots lsA r) (fun q => kf q p e s m args below meth c R Fin cF ms X H locs cells slots lsA r)
theorem g_ifle {x : Int32} {off : Int} (tgt : Nat) (hd : decode M.2.1 pc = .ok (.ifCond .le off, 3)) (ht : (pc : Int) + off = (tgt : Int)) (kt : x ≤ 0 → G E l d M tgt ls st cnt h mr sr Q) (kf : ¬ x ≤ 0 → G E l d M (pc + 3) ls st cnt h mr sr Q) : G E l d M pc ls (.int x :: st) cnt h mr sr Q := by
  intro p e s m args below meth c R Fin cF ms X H locs cells slots lsA r
  exact lv_if_le X.1 X.2.1 hd ht (fun q => kt q p e s m args below meth c R Fin cF ms X H locs cells slots lsA r) (fun q => kf q p e s m args below meth c R Fin cF ms X H locs cells slots lsA r)
theorem g_icmpeq {x y : Int32} {off : Int} (tgt : Nat) (hd : decode M.2.1 pc = .ok (.if_icmp .eq off, 3)) (ht : (pc : Int) + off = (tgt : Int)) (kt : x = y → G E l d M tgt ls st cnt h mr sr Q) (kf : ¬ x = y → G E l d M (pc + 3) ls st cnt h mr sr Q) : G E l d M pc ls (.int y :: .int x :: st) cnt h mr sr Q := by
  intro p e s m args below meth c R Fin cF ms X H locs cells slots lsA r
  exact lv_icmp_eq X.1 X.2.1 hd ht (fun q => kt q p e s m args below meth c R Fin cF ms X H locs cells slots lsA r) (fun q => kf q p e s m args below meth c R Fin cF ms X H locs cells slots lsA r)
theorem g_icmpne {x y : Int32} {off : Int} (tgt : Nat) (hd : decode M.2.1 pc = .ok (.if_icmp .ne off, 3)) (ht : (pc : Int) + off = (tgt : Int)) (kt : ¬ x = y → G E l d M tgt ls st cnt h mr sr Q) (kf : x = y → G E l d M (pc + 3) ls st cnt h mr sr Q) : G E l d M pc ls (.int y :: .int x :: st) cnt h mr sr Q := by
  intro p e s m args below meth c R Fin cF ms X H locs cells slots lsA r
  exact lv_icmp_ne X.1 X.2.1 hd ht (fun q => kt q p e s m args below meth c R Fin cF ms X H locs cells slots lsA r) (fun q => kf q p e s m args below meth c R Fin cF ms X H locs cells slots lsA r)
theorem g_icmplt {x y : Int32} {off : Int} (tgt : Nat) (hd : decode M.2.1 pc = .ok (.if_icmp .lt off, 3)) (ht : (pc : Int) + off = (tgt : Int)) (kt : x < y → G E l d M tgt ls st cnt h mr sr Q) (kf : ¬ x < y → G E l d M (pc + 3) ls st cnt h mr sr Q) : G E l d M pc ls (.int y :: .int x :: st) cnt h mr sr Q := by
  intro p e s m args below meth c R Fin cF ms X H locs cells slots lsA r
  exact lv_icmp_lt X.1 X.2.1 hd ht (fun q => kt q p e s m args below meth c R Fin cF ms X H locs cells slots lsA r) (fun q => kf q p e s m args below meth c R Fin cF ms X H locs cells slots lsA r)
theorem g_icmpge {x y : Int32} {off : Int} (tgt : Nat) (hd : decode M.2.1 pc = .ok (.if_icmp .ge off, 3)) (ht : (pc : Int) + off = (tgt : Int)) (kt : y ≤ x → G E l d M tgt ls st cnt h mr sr Q) (kf : ¬ y ≤ x → G E l d M (pc + 3) ls st cnt h mr sr Q) : G E l d M pc ls (.int y :: .int x :: st) cnt h mr sr Q := by
  intro p e s m args below meth c R Fin cF ms X H locs cells slots lsA r
  exact lv_icmp_ge X.1 X.2.1 hd ht (fun q => kt q p e s m args below meth c R Fin cF ms X H locs cells slots lsA r) (fun q => kf q p e s m args below meth c R Fin cF ms X H locs cells slots lsA r)
theorem g_icmpgt {x y : Int32} {off : Int} (tgt : Nat) (hd : decode M.2.1 pc = .ok (.if_icmp .gt off, 3)) (ht : (pc : Int) + off = (tgt : Int)) (kt : y < x → G E l d M tgt ls st cnt h mr sr Q) (kf : ¬ y < x → G E l d M (pc + 3) ls st cnt h mr sr Q) : G E l d M pc ls (.int y :: .int x :: st) cnt h mr sr Q := by
  intro p e s m args below meth c R Fin cF ms X H locs cells slots lsA r
  exact lv_icmp_gt X.1 X.2.1 hd ht (fun q => kt q p e s m args below meth c R Fin cF ms X H locs cells slots lsA r) (fun q => kf q p e s m args below meth c R Fin cF ms X H locs cells slots lsA r)
theorem g_icmple {x y : Int32} {off : Int} (tgt : Nat) (hd : decode M.2.1 pc = .ok (.if_icmp .le off, 3)) (ht : (pc : Int) + off = (tgt : Int)) (kt : x ≤ y → G E l d M tgt ls st cnt h mr sr Q) (kf : ¬ x ≤ y → G E l d M (pc + 3) ls st cnt h mr sr Q) : G E l d M pc ls (.int y :: .int x :: st) cnt h mr sr Q := by
  intro p e s m args below meth c R Fin cF ms X H locs cells slots lsA r
  exact lv_icmp_le X.1 X.2.1 hd ht (fun q => kt q p e s m args below meth c R Fin cF ms X H locs cells slots lsA r) (fun q => kf q p e s m args below meth c R Fin cF ms X H locs cells slots lsA r)
theorem xk_inj {E : XE} {s : State} (h : XK E s s.heap) {i j : Nat} (hi : i < 5) (hj : j < 5) : (some (E.2.1 i) = some (E.2.1 j)) ↔ i = j := by
  constructor
  · intro q
    exact h.2.2.2.1.2 i j hi hj (Option.some.inj q)
  · intro q
    rw [q]
theorem g_acmpne {i j : Nat} {off : Int} (tgt : Nat) (hd : decode M.2.1 pc = .ok (.if_acmp .ne off, 3)) (ht : (pc : Int) + off = (tgt : Int)) (hi : i < 5) (hj : j < 5) (kt : ¬ i = j → G E l d M tgt ls st cnt h mr sr Q) (kf : i = j → G E l d M (pc + 3) ls st cnt h mr sr Q) : G E l d M pc ls (.ref (1000 + j) :: .ref (1000 + i) :: st) cnt h mr sr Q := by
  intro p e s m args below meth c R Fin cF ms X H locs cells slots lsA r
  have hz := xk_inj X.2.2.2.2.2.2.2.2.1 hi hj
  have key := lv_acmp_ne (l := l) (e := e) (args := args) (below := below) (meth := meth) (H := H) (locs := locs) (cells := cells) (slots := slots) (Q := Fin) (R := R) (s := s) (m := m) (ls := lsA) (rest := st.map (xv E)) (rx := some (E.2.1 i)) (ry := some (E.2.1 j)) X.1 X.2.1 hd ht (fun q => kt (fun z => q (hz.mpr z)) p e s m args below meth c R Fin cF ms X H locs cells slots lsA r) (fun q => kf (hz.mp q) p e s m args below meth c R Fin cF ms X H locs cells slots lsA r)
  show W p l e R s m args below meth c H locs cells slots Fin (F0 m pc lsA (.ref (xa E (1000 + j)) :: .ref (xa E (1000 + i)) :: st.map (xv E)))
  rw [xa_k hi, xa_k hj]
  exact key
theorem g_acmpeq {i j : Nat} {off : Int} (tgt : Nat) (hd : decode M.2.1 pc = .ok (.if_acmp .eq off, 3)) (ht : (pc : Int) + off = (tgt : Int)) (hi : i < 5) (hj : j < 5) (kt : i = j → G E l d M tgt ls st cnt h mr sr Q) (kf : ¬ i = j → G E l d M (pc + 3) ls st cnt h mr sr Q) : G E l d M pc ls (.ref (1000 + j) :: .ref (1000 + i) :: st) cnt h mr sr Q := by
  intro p e s m args below meth c R Fin cF ms X H locs cells slots lsA r
  have hz := xk_inj X.2.2.2.2.2.2.2.2.1 hi hj
  have key := lv_acmp_eq (l := l) (e := e) (args := args) (below := below) (meth := meth) (H := H) (locs := locs) (cells := cells) (slots := slots) (Q := Fin) (R := R) (s := s) (m := m) (ls := lsA) (rest := st.map (xv E)) (rx := some (E.2.1 i)) (ry := some (E.2.1 j)) X.1 X.2.1 hd ht (fun q => kt (hz.mp q) p e s m args below meth c R Fin cF ms X H locs cells slots lsA r) (fun q => kf (fun z => q (hz.mpr z)) p e s m args below meth c R Fin cF ms X H locs cells slots lsA r)
  show W p l e R s m args below meth c H locs cells slots Fin (F0 m pc lsA (.ref (xa E (1000 + j)) :: .ref (xa E (1000 + i)) :: st.map (xv E)))
  rw [xa_k hi, xa_k hj]
  exact key
theorem g_lookup {dflt : Int} {ps : Array (Int × Int)} {len : Nat} {x : Int32} {off : Int} (tgt : Nat) (hd : decode M.2.1 pc = .ok (.lookupswitch dflt ps, len)) (hp : (ps.toList.zip (ps.toList.drop 1)).all (fun (a, next) => a.1 < next.1) = true) (ho : Op.lookupswitch.offset ps.toList dflt x.toInt = off) (ht : (pc : Int) + off = (tgt : Int)) (k : G E l d M tgt ls st cnt h mr sr Q) : G E l d M pc ls (.int x :: st) cnt h mr sr Q := by
  intro p e s m args below meth c R Fin cF ms X H locs cells slots lsA r
  exact lv_lookup X.1 X.2.1 hd hp ho ht (k p e s m args below meth c R Fin cF ms X H locs cells slots lsA r)
theorem g_tableOut {dflt lo hi : Int} {offs : Array Int} {len : Nat} {x : Int32} (tgt : Nat) (hd : decode M.2.1 pc = .ok (.tableswitch dflt lo hi offs, len)) (hh : x.toInt < lo ∨ hi < x.toInt) (ht : (pc : Int) + dflt = (tgt : Int)) (k : G E l d M tgt ls st cnt h mr sr Q) : G E l d M pc ls (.int x :: st) cnt h mr sr Q := by
  intro p e s m args below meth c R Fin cF ms X H locs cells slots lsA r
  exact lv_tableOut X.1 X.2.1 hd hh ht (k p e s m args below meth c R Fin cF ms X H locs cells slots lsA r)
theorem g_tableIn {dflt lo hi : Int} {offs : Array Int} {len : Nat} {x : Int32} {off : Int} (tgt : Nat) (hd : decode M.2.1 pc = .ok (.tableswitch dflt lo hi offs, len)) (h1 : ¬ x.toInt < lo) (h2 : ¬ hi < x.toInt) (ho : offs[(x.toInt - lo).toNat]? = some off) (ht : (pc : Int) + off = (tgt : Int)) (k : G E l d M tgt ls st cnt h mr sr Q) : G E l d M pc ls (.int x :: st) cnt h mr sr Q := by
  intro p e s m args below meth c R Fin cF ms X H locs cells slots lsA r
  exact lv_tableIn X.1 X.2.1 hd h1 h2 ho ht (k p e s m args below meth c R Fin cF ms X H locs cells slots lsA r)
theorem g_ireturn {x : Int32} {ty : FieldType} (hd : decode M.2.1 pc = .ok (.ireturn, 1)) (ht : M.2.2.2 = some ty) (hn : narrow ty (.int x) = .int x) (hq : Q (some (.int x)) h) : G E l d M pc ls [.int x] cnt h 0 sr Q := by
  intro p e s m args below meth c R Fin cF ms X H locs cells slots lsA r
  have hcF : cnt = cF := r.2.2.2.2.2.1
  subst hcF
  exact X.2.2.2.2.2.2.2.2.2 (some (.int x)) h H locs cells slots lsA ls sr pc r hq ⟨hd, ty, ht, hn⟩
theorem g_lreturn {x : Int64} (hd : decode M.2.1 pc = .ok (.lreturn, 1)) (ht : M.2.2.2 = some .long) (hq : Q (some (.long x)) h) : G E l d M pc ls [.long x] cnt h 0 sr Q := by
  intro p e s m args below meth c R Fin cF ms X H locs cells slots lsA r
  have hcF : cnt = cF := r.2.2.2.2.2.1
  subst hcF
  exact X.2.2.2.2.2.2.2.2.2 (some (.long x)) h H locs cells slots lsA ls sr pc r hq ⟨hd, ht⟩
theorem g_areturn {x : Nat} {n : String} (hd : decode M.2.1 pc = .ok (.areturn, 1)) (ht : M.2.2.2 = some (.object n)) (hq : Q (some (.ref x)) h) : G E l d M pc ls [.ref x] cnt h 0 sr Q := by
  intro p e s m args below meth c R Fin cF ms X H locs cells slots lsA r
  have hcF : cnt = cF := r.2.2.2.2.2.1
  subst hcF
  exact X.2.2.2.2.2.2.2.2.2 (some (.ref x)) h H locs cells slots lsA ls sr pc r hq ⟨hd, n, ht⟩
theorem g_return (hd : decode M.2.1 pc = .ok (.return_, 1)) (ht : M.2.2.2 = none) (hq : Q none h) : G E l d M pc ls [] cnt h 0 sr Q := by
  intro p e s m args below meth c R Fin cF ms X H locs cells slots lsA r
  have hcF : cnt = cF := r.2.2.2.2.2.1
  subst hcF
  exact X.2.2.2.2.2.2.2.2.2 none h H locs cells slots lsA ls sr pc r hq ⟨hd, ht⟩
/-- another heap of the same cells -/
theorem g_heap {h' : XH} (he : xw E cnt h = xw E cnt h') (k : G E l d M pc ls st cnt h' mr sr Q) : G E l d M pc ls st cnt h mr sr Q := by
  intro p e s m args below meth c R Fin cF ms X H locs cells slots lsA r
  exact k p e s m args below meth c R Fin cF ms X H locs cells slots lsA ⟨r.1, r.2.1, he ▸ r.2.2.1, r.2.2.2⟩
/-- less room -/
theorem g_less {sr' : Nat} (h2 : sr' ≤ sr) (k : G E l d M pc ls st cnt h mr sr' Q) : G E l d M pc ls st cnt h mr sr Q := by
  intro p e s m args below meth c R Fin cF ms X H locs cells slots lsA r
  exact k p e s m args below meth c R Fin cF ms X H locs cells slots lsA ⟨r.1, r.2.1, r.2.2.1, r.2.2.2.1, r.2.2.2.2.1, r.2.2.2.2.2.1, by have := r.2.2.2.2.2.2; omega⟩
/-- fewer locals -/
theorem g_locals {ls' : XL} (h1 : ∀ (i : Nat) (v : Value), ls'[i]? = some (some v) → ls[i]? = some (some v)) (k : G E l d M pc ls' st cnt h mr sr Q) : G E l d M pc ls st cnt h mr sr Q := by
  intro p e s m args below meth c R Fin cF ms X H locs cells slots lsA r
  refine k p e s m args below meth c R Fin cF ms X H locs cells slots lsA ⟨r.1, r.2.1, r.2.2.1, r.2.2.2.1, ⟨r.2.2.2.2.1.1, r.2.2.2.2.1.2.1, fun q hq => ?_⟩, r.2.2.2.2.2⟩
  obtain ⟨i, v, h2, h3⟩ := xl_mem.mp hq
  exact r.2.2.2.2.1.2.2 q (xl_mem.mpr ⟨i, v, h1 i v h2, h3⟩)
end XRows
end
section
/-- a field's link, its type, whether it is final -/
def XF (own : String) (idx ci k : Nat) (ty : FieldType) (fin : Bool) : Prop := ∃ (C : String) (T : u_T), vwCl[ci]? = some (C, T, xnf ci) ∧ k < xnf ci ∧ Cond.fieldLink own idx (T k).1 (T k).2.1 (T k).2.2.1 ∈ xtbl ∧ (T k).2.2.2 = fin ∧ parseFieldDescriptor (T k).2.2.1 = some ty ∧ (T k).1 = C
theorem xin_0 : ∀ w ∈ u_ws RX0 TX0 10, w ∈ xtbl := xt_list [155, 157, 159, 161, 163, 165, 167, 169, 171, 173] (by decide +kernel) (by decide +kernel)
theorem xin_1 : ∀ w ∈ u_ws RX3 TX3 6, w ∈ xtbl := xt_list [203, 205, 207, 209, 211, 213] (by decide +kernel) (by decide +kernel)
theorem xin_2 : ∀ w ∈ u_ws RX4 TX4 2, w ∈ xtbl := xt_list [33, 35] (by decide +kernel) (by decide +kernel)
theorem xin_3 : ∀ w ∈ u_ws RX5 TX5 12, w ∈ xtbl := xt_list [106, 108, 110, 112, 114, 116, 118, 120, 122, 124, 126, 128] (by decide +kernel) (by decide +kernel)
theorem xin_4 : ∀ w ∈ u_ws RX6 TX6 4, w ∈ xtbl := xt_list [59, 61, 63, 65] (by decide +kernel) (by decide +kernel)
theorem xin_5 : ∀ w ∈ u_ws RX7 TX7 2, w ∈ xtbl := xt_list [186, 188] (by decide +kernel) (by decide +kernel)
theorem xin_6 : ∀ w ∈ u_ws RX9 TX9 7, w ∈ xtbl := xt_list [223, 225, 227, 229, 231, 233, 235] (by decide +kernel) (by decide +kernel)
theorem xin_7 : ∀ w ∈ u_ws RX10 TX10 58, w ∈ xtbl := xt_list [790, 792, 794, 796, 798, 800, 802, 804, 806, 808, 810, 812, 814, 816, 818, 820, 822, 824, 826, 828, 830, 832, 834, 836, 838, 840, 842, 844, 846, 848, 850, 852, 854, 856, 858, 860, 862, 864, 866, 868, 870, 872, 874, 876, 878, 880, 882, 884, 886, 888, 890, 892, 894, 896, 898, 900, 902, 904] (by decide +kernel) (by decide +kernel)
theorem xcls {ci : Nat} {C : String} {T : u_T} (h : vwCl[ci]? = some (C, T, xnf ci)) : (∀ w ∈ u_ws C T (xnf ci), w ∈ xtbl) ∧ ∃ ty0 : Nat → FieldType, (∀ k, k < xnf ci → parseFieldDescriptor (T k).2.2.1 = some (ty0 k)) ∧ ∀ a, a < xnf ci → ∀ b, b < xnf ci → a ≠ b → (T a).2.1 ≠ (T b).2.1 := by
  match ci, h with
  | 0, h => cases h; exact ⟨xin_0, tyX0, tyX0_ok, nmX0⟩
  | 1, h => cases h; exact ⟨xin_1, tyX3, tyX3_ok, nmX3⟩
  | 2, h => cases h; exact ⟨xin_2, tyX4, tyX4_ok, nmX4⟩
  | 3, h => cases h; exact ⟨xin_3, tyX5, tyX5_ok, nmX5⟩
  | 4, h => cases h; exact ⟨xin_4, tyX6, tyX6_ok, nmX6⟩
  | 5, h => cases h; exact ⟨xin_5, tyX7, tyX7_ok, nmX7⟩
  | 6, h => cases h; exact ⟨xin_6, tyX9, tyX9_ok, nmX9⟩
  | 7, h => cases h; exact ⟨xin_7, tyX10, tyX10_ok, nmX10⟩
  | n + 8, h => simp [vwCl] at h
theorem x_recv {E : XE} {s : State} {H : Heap} {cnt : Nat} {h : XH} {a ci : Nat} {C : String} (hK : XK E s s.heap) (hP : va_P E.2.2.2.1 vwCl (xw E cnt h) H) (ha : a < cnt) (hs : xsh.getD a (9, 0) = (0, ci)) (hc : (vwCl[ci]?).map (fun q => q.1) = some C) : ∃ cell : Cell, H[E.1 + a]? = some cell ∧ cell.vm.isStatics = false ∧ s.vm.findClass C = some cell.cls := by
  cases hq : vwCl[ci]? with
  | none => rw [hq] at hc; cases hc
  | some q =>
    rw [hq] at hc
    cases hc
    exact va_recv hK.1 hP hq ((xw_at E h ha).trans (by rw [xc_obj hs]))
section XHeap
variable {E : XE} {l : Launch} {d : Nat} {M : XM} {pc : Nat} {ls : XL} {st : List Value} {cnt : Nat} {h : XH} {mr sr : Nat} {Q : Option Value → XH → Prop}

theorem g_geti {idx ci k a : Nat} {ty : FieldType} {fin : Bool} (hd : decode M.2.1 pc = .ok (.getfield idx, 3)) (hf : XF M.1.cls idx ci k ty fin) (ht : xft ci k = 0) (ha : a < cnt) (hs : xsh.getD a (9, 0) = (0, ci)) (kk : G E l d M (pc + 3) ls (.int (h.1 a k) :: st) cnt h mr sr Q) : G E l d M pc ls (.ref a :: st) cnt h mr sr Q := by
  intro p e s m args below meth c R Fin cF ms X H locs cells slots lsA r
  obtain ⟨C, T, hc, hk, hw, -, -, -⟩ := hf
  have e1 : xa E a = E.1 + a := xa_lt (by have := r.2.1; omega)
  show W p l e R s m args below meth c H locs cells slots Fin (F0 m pc lsA (.ref (xa E a) :: st.map (xv E)))
  rw [e1]
  exact va_get (v := .int (h.1 a k)) X.1 X.2.1 X.2.2.2.2.2.1 (xcls hc).1 X.2.2.2.1 X.2.2.2.2.2.2.2.2.1.1 r.2.2.1 a ((xw_at E h ha).trans (by rw [xc_obj hs])) hc k hk (X.2.2.2.2.2.1 _ hw) (fun _ q => q) ((xfs_get hk).trans (by rw [ht]; rfl)) hd (kk p e s m args below meth c R Fin cF ms X H locs cells slots lsA r)
theorem g_getl {idx ci k a : Nat} {ty : FieldType} {fin : Bool} (hd : decode M.2.1 pc = .ok (.getfield idx, 3)) (hf : XF M.1.cls idx ci k ty fin) (ht : xft ci k = 1) (ha : a < cnt) (hs : xsh.getD a (9, 0) = (0, ci)) (kk : G E l d M (pc + 3) ls (.long (h.2.1 a k) :: st) cnt h mr sr Q) : G E l d M pc ls (.ref a :: st) cnt h mr sr Q := by
  intro p e s m args below meth c R Fin cF ms X H locs cells slots lsA r
  obtain ⟨C, T, hc, hk, hw, -, -, -⟩ := hf
  have e1 : xa E a = E.1 + a := xa_lt (by have := r.2.1; omega)
  show W p l e R s m args below meth c H locs cells slots Fin (F0 m pc lsA (.ref (xa E a) :: st.map (xv E)))
  rw [e1]
  exact va_get (v := .long (h.2.1 a k)) X.1 X.2.1 X.2.2.2.2.2.1 (xcls hc).1 X.2.2.2.1 X.2.2.2.2.2.2.2.2.1.1 r.2.2.1 a ((xw_at E h ha).trans (by rw [xc_obj hs])) hc k hk (X.2.2.2.2.2.1 _ hw) (fun _ q => q) ((xfs_get hk).trans (by rw [ht]; rfl)) hd (kk p e s m args below meth c R Fin cF ms X H locs cells slots lsA r)
theorem g_getr {idx ci k a : Nat} {ty : FieldType} {fin : Bool} {b : Nat} (hd : decode M.2.1 pc = .ok (.getfield idx, 3)) (hf : XF M.1.cls idx ci k ty fin) (ht : xft ci k = 2) (ha : a < cnt) (hs : xsh.getD a (9, 0) = (0, ci)) (hb : h.2.2 a k = some b) (kk : G E l d M (pc + 3) ls (.ref b :: st) cnt h mr sr Q) : G E l d M pc ls (.ref a :: st) cnt h mr sr Q := by
  intro p e s m args below meth c R Fin cF ms X H locs cells slots lsA r
  obtain ⟨C, T, hc, hk, hw, -, -, -⟩ := hf
  have e1 : xa E a = E.1 + a := xa_lt (by have := r.2.1; omega)
  show W p l e R s m args below meth c H locs cells slots Fin (F0 m pc lsA (.ref (xa E a) :: st.map (xv E)))
  rw [e1]
  exact va_get (v := xv E (.ref b)) X.1 X.2.1 X.2.2.2.2.2.1 (xcls hc).1 X.2.2.2.1 X.2.2.2.2.2.2.2.2.1.1 r.2.2.1 a ((xw_at E h ha).trans (by rw [xc_obj hs])) hc k hk (X.2.2.2.2.2.1 _ hw) (fun _ q => q) ((xfs_get hk).trans (by rw [ht]; show some (va_rf ((h.2.2 a k).map (xa E))) = _; rw [hb]; rfl)) hd (kk p e s m args below meth c R Fin cF ms X H locs cells slots lsA r)
theorem g_getk {idx ci k a : Nat} {ty : FieldType} {fin : Bool} {j : Nat} (hd : decode M.2.1 pc = .ok (.getfield idx, 3)) (hf : XF M.1.cls idx ci k ty fin) (ht : xft ci k = 3) (ha : a < cnt) (hs : xsh.getD a (9, 0) = (0, ci)) (hj : h.1 a k = nI j) (hj5 : j < 5) (kk : G E l d M (pc + 3) ls (.ref (1000 + j) :: st) cnt h mr sr Q) : G E l d M pc ls (.ref a :: st) cnt h mr sr Q := by
  intro p e s m args below meth c R Fin cF ms X H locs cells slots lsA r
  obtain ⟨C, T, hc, hk, hw, -, -, -⟩ := hf
  have e1 : xa E a = E.1 + a := xa_lt (by have := r.2.1; omega)
  show W p l e R s m args below meth c H locs cells slots Fin (F0 m pc lsA (.ref (xa E a) :: st.map (xv E)))
  rw [e1]
  exact va_get (v := xv E (.ref (1000 + j))) X.1 X.2.1 X.2.2.2.2.2.1 (xcls hc).1 X.2.2.2.1 X.2.2.2.2.2.2.2.2.1.1 r.2.2.1 a ((xw_at E h ha).trans (by rw [xc_obj hs])) hc k hk (X.2.2.2.2.2.1 _ hw) (fun _ q => q) ((xfs_get hk).trans (by rw [ht]; show some (va_re E.2.1 (xk (h.1 a k))) = _; rw [hj, xk_of hj5]; show some (Value.ref (E.2.1 j)) = some (Value.ref (xa E (1000 + j))); rw [xa_k hj5])) hd (kk p e s m args below meth c R Fin cF ms X H locs cells slots lsA r)
theorem g_getn {idx i : Nat} {f : Nat} (hd : decode M.2.1 pc = .ok (.getfield idx, 3)) (hi : i < 5) {q : String × String × String × List Int32} (hq : xF[f]? = some q) (hl : Cond.fieldLink M.1.cls idx q.1 q.2.1 q.2.2.1 ∈ xtbl) (kk : G E l d M (pc + 3) ls (.int (q.2.2.2.getD i 0) :: st) cnt h mr sr Q) : G E l d M pc ls (.ref (1000 + i) :: st) cnt h mr sr Q := by
  intro p e s m args below meth c R Fin cF ms X H locs cells slots lsA r
  show W p l e R s m args below meth c H locs cells slots Fin (F0 m pc lsA (.ref (xa E (1000 + i)) :: st.map (xv E)))
  rw [xa_k hi]
  exact va_getE X.1 X.2.1 X.2.2.2.2.2.2.2.2.1.2.2.2.1 hi r.2.2.2.1 X.2.2.2.1 (List.mem_of_getElem? hq) (X.2.2.2.2.2.1 _ hl) (fun _ z => z) hd (kk p e s m args below meth c R Fin cF ms X H locs cells slots lsA r)
theorem g_getsK {idx i : Nat} {n : String} (hd : decode M.2.1 pc = .ok (.getstatic idx, 3)) (hi : i < 5) (hn : xnm.getD i "" = n) (hl : Cond.fieldLink M.1.cls idx "ThumbSea$Kind" n "LThumbSea$Kind;" ∈ xtbl) (kk : G E l d M (pc + 3) ls (.ref (1000 + i) :: st) cnt h mr sr Q) : G E l d M pc ls st cnt h mr sr Q := by
  intro p e s m args below meth c R Fin cF ms X H locs cells slots lsA r
  have hz := (X.2.2.2.2.2.2.2.2.1.2.2.2.1.1 i hi).1
  rw [hn] at hz
  have k2 := kk p e s m args below meth c R Fin cF ms X H locs cells slots lsA r
  have k3 : W p l e R s m args below meth c H locs cells slots Fin (F0 m (pc + 3) lsA (.ref (E.2.1 i) :: st.map (xv E))) := by
    rw [← xa_k hi]
    exact k2
  exact va_gets X.1 X.2.1 hz r.2.2.2.1 X.2.2.2.1 (X.2.2.2.2.2.1 _ hl) (fun _ z => z) hd k3
theorem g_getsA {idx : Nat} (hd : decode M.2.1 pc = .ok (.getstatic idx, 3)) (hl : Cond.fieldLink M.1.cls idx "ThumbSea$Kind" "ALL" "[LThumbSea$Kind;" ∈ xtbl) (kk : G E l d M (pc + 3) ls (.ref 2000 :: st) cnt h mr sr Q) : G E l d M pc ls st cnt h mr sr Q := by
  intro p e s m args below meth c R Fin cF ms X H locs cells slots lsA r
  exact va_gets X.1 X.2.1 X.2.2.2.2.2.2.2.2.1.2.2.2.2.1 r.2.2.2.1 X.2.2.2.1 (X.2.2.2.2.2.1 _ hl) (fun _ z => z) hd (kk p e s m args below meth c R Fin cF ms X H locs cells slots lsA r)
theorem g_aldA {i : Nat} {x : Int32} (hd : decode M.2.1 pc = .ok (.aaload, 1)) (hi : i < 5) (hx : x = nI i) (kk : G E l d M (pc + 1) ls (.ref (1000 + i) :: st) cnt h mr sr Q) : G E l d M pc ls (.int x :: .ref 2000 :: st) cnt h mr sr Q := by
  intro p e s m args below meth c R Fin cF ms X H locs cells slots lsA r
  subst hx
  refine vb_tq (v := .ref (E.2.1 i)) X.1 X.2.1 X.2.2.2.2.2.2.2.2.1.2.2.2.2.2.1 r.2.2.2.1 (vp_in_nI hi (by omega)) (by show Value.ref (E.2.1 _) = _; rw [nI_clamp (by omega)]) hd ?_
  have k2 := kk p e s m args below meth c R Fin cF ms X H locs cells slots lsA r
  rw [← xa_k hi]
  exact k2
theorem g_alenA (hd : decode M.2.1 pc = .ok (.arraylength, 1)) (kk : G E l d M (pc + 1) ls (.int 5 :: st) cnt h mr sr Q) : G E l d M pc ls (.ref 2000 :: st) cnt h mr sr Q := by
  intro p e s m args below meth c R Fin cF ms X H locs cells slots lsA r
  exact va_tlen X.1 X.2.1 X.2.2.2.2.2.2.2.2.1.2.2.2.2.2.1 r.2.2.2.1 rfl hd (kk p e s m args below meth c R Fin cF ms X H locs cells slots lsA r)
theorem g_sald {x : Int32} (hd : decode M.2.1 pc = .ok (.iaload, 1)) (hx : vp_in x E.2.2.2.2.2.2.1) (kk : G E l d M (pc + 1) ls (.int (E.2.2.2.2.2.2.2 x.toNatClampNeg) :: st) cnt h mr sr Q) : G E l d M pc ls (.int x :: .ref 3000 :: st) cnt h mr sr Q := by
  intro p e s m args below meth c R Fin cF ms X H locs cells slots lsA r
  have hb : E.2.2.2.2.2.1 < E.1 := X.2.2.2.2.2.2.2.2.1.2.2.2.2.2.2.2
  exact va_sld (b := E.2.2.2.2.2.1) X.1 X.2.1 X.2.2.2.2.2.2.2.2.1.2.2.2.2.2.2.1 (by have := X.2.2.2.2.2.2.2.1; omega) (fun q => by have q2 : E.1 ≤ E.2.2.2.2.2.1 := q; omega) r.2.2.2.1 hx hd (kk p e s m args below meth c R Fin cF ms X H locs cells slots lsA r)
theorem g_slen (hd : decode M.2.1 pc = .ok (.arraylength, 1)) (kk : G E l d M (pc + 1) ls (.int (Int32.ofNat E.2.2.2.2.2.2.1) :: st) cnt h mr sr Q) : G E l d M pc ls (.ref 3000 :: st) cnt h mr sr Q := by
  intro p e s m args below meth c R Fin cF ms X H locs cells slots lsA r
  have hb : E.2.2.2.2.2.1 < E.1 := X.2.2.2.2.2.2.2.2.1.2.2.2.2.2.2.2
  exact va_slen (b := E.2.2.2.2.2.1) X.1 X.2.1 X.2.2.2.2.2.2.2.2.1.2.2.2.2.2.2.1 (by have := X.2.2.2.2.2.2.2.1; omega) (fun q => by have q2 : E.1 ≤ E.2.2.2.2.2.1 := q; omega) r.2.2.2.1 hd (kk p e s m args below meth c R Fin cF ms X H locs cells slots lsA r)
theorem g_puti {idx ci k a : Nat} {ty : FieldType} {x : Int32} (hd : decode M.2.1 pc = .ok (.putfield idx, 3)) (hf : XF M.1.cls idx ci k ty false) (ht : xft ci k = 0) (ha : a < cnt) (hs : xsh.getD a (9, 0) = (0, ci)) (hn : narrow ty (.int x) = .int x) (hfit : fits ty (.int x) = true) (kk : G E l d M (pc + 3) ls st cnt ((upI h.1 a k x, h.2.1, h.2.2) : XH) mr sr Q) : G E l d M pc ls (.int x :: .ref a :: st) cnt h mr sr Q := by
  intro p e s m args below meth c R Fin cF ms X H locs cells slots lsA r
  obtain ⟨C, T, hc, hk, hw, hfin, hty, hC⟩ := hf
  have e1 : xa E a = E.1 + a := xa_lt (by have := r.2.1; omega)
  show W p l e R s m args below meth c H locs cells slots Fin (F0 m pc lsA (.int x :: .ref (xa E a) :: st.map (xv E)))
  rw [e1]
  obtain ⟨hin, ty0, hty0, hnm⟩ := xcls hc
  refine va_put (v := .int x) X.1 X.2.1 X.2.2.2.2.2.1 hin ty0 hty0 hnm X.2.2.2.1 X.2.2.2.2.2.2.2.2.1.1 r.2.2.1 (xw_D E cnt h) r.2.2.2.1 a ((xw_at E h ha).trans (by rw [xc_obj hs])) hc k hk (X.2.2.2.2.2.1 _ hw) (fun _ q => q) hfin hty hn hfit (by rw [List.length_map, List.length_range]; exact hk) hd (fun H1 locs1 hP1 hD1 hS1 => ?_)
  refine kk p e s m args below meth c R Fin cF ms X H1 locs1 cells slots lsA ⟨r.1, r.2.1, ?_, hS1, r.2.2.2.2⟩
  rw [xw_set (h' := ((upI h.1 a k x, h.2.1, h.2.2) : XH)) ha ?_ ?_] at hP1
  · exact hP1
  · rw [xc_obj hs]
    congr 2
    refine xfs_set ?_ ?_
    · rw [ht]
      show Value.int x = .int (upI h.1 a k x a k); unfold upI; rw [if_pos ⟨rfl, rfl⟩]
    · intro jj hj
      unfold xfv
      have e5 : ((upI h.1 a k x, h.2.1, h.2.2) : XH).1 a jj = h.1 a jj := if_neg (fun q => hj q.2)
      have e6 : ((upI h.1 a k x, h.2.1, h.2.2) : XH).2.1 a jj = h.2.1 a jj := rfl
      have e7 : ((upI h.1 a k x, h.2.1, h.2.2) : XH).2.2 a jj = h.2.2 a jj := rfl
      rw [e5, e6, e7]
  · intro b hb
    exact xc_off (upI_off hb) rfl rfl
theorem g_putiF {idx ci k a : Nat} {ty : FieldType} {x : Int32} (hd : decode M.2.1 pc = .ok (.putfield idx, 3)) (hf : XF M.1.cls idx ci k ty true) (ht : xft ci k = 0) (ha : a < cnt) (hs : xsh.getD a (9, 0) = (0, ci)) (hn : narrow ty (.int x) = .int x) (hfit : fits ty (.int x) = true) (hin2 : M.1.name = "<init>") (hown : M.1.cls = (vwCl.getD ci ("", fun _ => ("", "", "", false), 0)).1) (kk : G E l d M (pc + 3) ls st cnt ((upI h.1 a k x, h.2.1, h.2.2) : XH) mr sr Q) : G E l d M pc ls (.int x :: .ref a :: st) cnt h mr sr Q := by
  intro p e s m args below meth c R Fin cF ms X H locs cells slots lsA r
  obtain ⟨C, T, hc, hk, hw, hfin, hty, hC⟩ := hf
  have e1 : xa E a = E.1 + a := xa_lt (by have := r.2.1; omega)
  show W p l e R s m args below meth c H locs cells slots Fin (F0 m pc lsA (.int x :: .ref (xa E a) :: st.map (xv E)))
  rw [e1]
  obtain ⟨hin, ty0, hty0, hnm⟩ := xcls hc
  refine va_putF (v := .int x) X.1 X.2.1 X.2.2.2.2.2.1 hin ty0 hty0 hnm X.2.2.2.1 X.2.2.2.2.2.2.2.2.1.1 r.2.2.1 (xw_D E cnt h) r.2.2.2.1 a ((xw_at E h ha).trans (by rw [xc_obj hs])) hc k hk (X.2.2.2.2.2.1 _ hw) (fun _ q => q) hfin (X.2.2.2.2.1.trans hin2) (by rw [hC, hown, List.getD_eq_getElem?_getD, hc]; rfl) hty hn hfit (by rw [List.length_map, List.length_range]; exact hk) hd (fun H1 locs1 hP1 hD1 hS1 => ?_)
  refine kk p e s m args below meth c R Fin cF ms X H1 locs1 cells slots lsA ⟨r.1, r.2.1, ?_, hS1, r.2.2.2.2⟩
  rw [xw_set (h' := ((upI h.1 a k x, h.2.1, h.2.2) : XH)) ha ?_ ?_] at hP1
  · exact hP1
  · rw [xc_obj hs]
    congr 2
    refine xfs_set ?_ ?_
    · rw [ht]
      show Value.int x = .int (upI h.1 a k x a k); unfold upI; rw [if_pos ⟨rfl, rfl⟩]
    · intro jj hj
      unfold xfv
      have e5 : ((upI h.1 a k x, h.2.1, h.2.2) : XH).1 a jj = h.1 a jj := if_neg (fun q => hj q.2)
      have e6 : ((upI h.1 a k x, h.2.1, h.2.2) : XH).2.1 a jj = h.2.1 a jj := rfl
      have e7 : ((upI h.1 a k x, h.2.1, h.2.2) : XH).2.2 a jj = h.2.2 a jj := rfl
      rw [e5, e6, e7]
  · intro b hb
    exact xc_off (upI_off hb) rfl rfl
theorem g_putl {idx ci k a : Nat} {ty : FieldType} {x : Int64} (hd : decode M.2.1 pc = .ok (.putfield idx, 3)) (hf : XF M.1.cls idx ci k ty false) (ht : xft ci k = 1) (ha : a < cnt) (hs : xsh.getD a (9, 0) = (0, ci)) (hlt : ty = .long) (kk : G E l d M (pc + 3) ls st cnt ((h.1, upL h.2.1 a k x, h.2.2) : XH) mr sr Q) : G E l d M pc ls (.long x :: .ref a :: st) cnt h mr sr Q := by
  intro p e s m args below meth c R Fin cF ms X H locs cells slots lsA r
  obtain ⟨C, T, hc, hk, hw, hfin, hty, hC⟩ := hf
  have e1 : xa E a = E.1 + a := xa_lt (by have := r.2.1; omega)
  show W p l e R s m args below meth c H locs cells slots Fin (F0 m pc lsA (.long x :: .ref (xa E a) :: st.map (xv E)))
  rw [e1]
  obtain ⟨hin, ty0, hty0, hnm⟩ := xcls hc
  refine va_put (v := .long x) X.1 X.2.1 X.2.2.2.2.2.1 hin ty0 hty0 hnm X.2.2.2.1 X.2.2.2.2.2.2.2.2.1.1 r.2.2.1 (xw_D E cnt h) r.2.2.2.1 a ((xw_at E h ha).trans (by rw [xc_obj hs])) hc k hk (X.2.2.2.2.2.1 _ hw) (fun _ q => q) hfin hty (by rw [hlt]; rfl) (by rw [hlt]; rfl) (by rw [List.length_map, List.length_range]; exact hk) hd (fun H1 locs1 hP1 hD1 hS1 => ?_)
  refine kk p e s m args below meth c R Fin cF ms X H1 locs1 cells slots lsA ⟨r.1, r.2.1, ?_, hS1, r.2.2.2.2⟩
  rw [xw_set (h' := ((h.1, upL h.2.1 a k x, h.2.2) : XH)) ha ?_ ?_] at hP1
  · exact hP1
  · rw [xc_obj hs]
    congr 2
    refine xfs_set ?_ ?_
    · rw [ht]
      show Value.long x = .long (upL h.2.1 a k x a k); unfold upL; rw [if_pos ⟨rfl, rfl⟩]
    · intro jj hj
      unfold xfv
      have e5 : ((h.1, upL h.2.1 a k x, h.2.2) : XH).1 a jj = h.1 a jj := rfl
      have e6 : ((h.1, upL h.2.1 a k x, h.2.2) : XH).2.1 a jj = h.2.1 a jj := if_neg (fun q => hj q.2)
      have e7 : ((h.1, upL h.2.1 a k x, h.2.2) : XH).2.2 a jj = h.2.2 a jj := rfl
      rw [e5, e6, e7]
  · intro b hb
    exact xc_off rfl (upL_off hb) rfl
theorem g_putk {idx ci k a : Nat} {ty : FieldType} {j : Nat} (hd : decode M.2.1 pc = .ok (.putfield idx, 3)) (hf : XF M.1.cls idx ci k ty false) (ht : xft ci k = 3) (ha : a < cnt) (hs : xsh.getD a (9, 0) = (0, ci)) (hj5 : j < 5) (hty1 : ∃ n, ty = .object n) (kk : G E l d M (pc + 3) ls st cnt ((upI h.1 a k (nI j), h.2.1, h.2.2) : XH) mr sr Q) : G E l d M pc ls (.ref (1000 + j) :: .ref a :: st) cnt h mr sr Q := by
  intro p e s m args below meth c R Fin cF ms X H locs cells slots lsA r
  obtain ⟨C, T, hc, hk, hw, hfin, hty, hC⟩ := hf
  have e1 : xa E a = E.1 + a := xa_lt (by have := r.2.1; omega)
  show W p l e R s m args below meth c H locs cells slots Fin (F0 m pc lsA (.ref (xa E (1000 + j)) :: .ref (xa E a) :: st.map (xv E)))
  rw [e1]
  obtain ⟨hin, ty0, hty0, hnm⟩ := xcls hc
  refine va_put (v := .ref (xa E (1000 + j))) X.1 X.2.1 X.2.2.2.2.2.1 hin ty0 hty0 hnm X.2.2.2.1 X.2.2.2.2.2.2.2.2.1.1 r.2.2.1 (xw_D E cnt h) r.2.2.2.1 a ((xw_at E h ha).trans (by rw [xc_obj hs])) hc k hk (X.2.2.2.2.2.1 _ hw) (fun _ q => q) hfin hty (by obtain ⟨n, rfl⟩ := hty1; rfl) (by obtain ⟨n, rfl⟩ := hty1; rfl) (by rw [List.length_map, List.length_range]; exact hk) hd (fun H1 locs1 hP1 hD1 hS1 => ?_)
  refine kk p e s m args below meth c R Fin cF ms X H1 locs1 cells slots lsA ⟨r.1, r.2.1, ?_, hS1, r.2.2.2.2⟩
  rw [xw_set (h' := ((upI h.1 a k (nI j), h.2.1, h.2.2) : XH)) ha ?_ ?_] at hP1
  · exact hP1
  · rw [xc_obj hs]
    congr 2
    refine xfs_set ?_ ?_
    · rw [ht]
      show Value.ref (xa E (1000 + j)) = va_re E.2.1 (xk (upI h.1 a k (nI j) a k)); unfold upI; rw [if_pos ⟨rfl, rfl⟩, xk_of hj5, xa_k hj5]; rfl
    · intro jj hj
      unfold xfv
      have e5 : ((upI h.1 a k (nI j), h.2.1, h.2.2) : XH).1 a jj = h.1 a jj := if_neg (fun q => hj q.2)
      have e6 : ((upI h.1 a k (nI j), h.2.1, h.2.2) : XH).2.1 a jj = h.2.1 a jj := rfl
      have e7 : ((upI h.1 a k (nI j), h.2.1, h.2.2) : XH).2.2 a jj = h.2.2 a jj := rfl
      rw [e5, e6, e7]
  · intro b hb
    exact xc_off (upI_off hb) rfl rfl
theorem g_putrF {idx ci k a : Nat} {ty : FieldType} {b : Nat} (hd : decode M.2.1 pc = .ok (.putfield idx, 3)) (hf : XF M.1.cls idx ci k ty true) (ht : xft ci k = 2) (ha : a < cnt) (hs : xsh.getD a (9, 0) = (0, ci)) (hty1 : (∃ n, ty = .object n) ∨ ∃ t, ty = .array t) (hin2 : M.1.name = "<init>") (hown : M.1.cls = (vwCl.getD ci ("", fun _ => ("", "", "", false), 0)).1) (kk : G E l d M (pc + 3) ls st cnt ((h.1, h.2.1, upR h.2.2 a k (some b)) : XH) mr sr Q) : G E l d M pc ls (.ref b :: .ref a :: st) cnt h mr sr Q := by
  intro p e s m args below meth c R Fin cF ms X H locs cells slots lsA r
  obtain ⟨C, T, hc, hk, hw, hfin, hty, hC⟩ := hf
  have e1 : xa E a = E.1 + a := xa_lt (by have := r.2.1; omega)
  show W p l e R s m args below meth c H locs cells slots Fin (F0 m pc lsA (.ref (xa E b) :: .ref (xa E a) :: st.map (xv E)))
  rw [e1]
  obtain ⟨hin, ty0, hty0, hnm⟩ := xcls hc
  refine va_putF (v := .ref (xa E b)) X.1 X.2.1 X.2.2.2.2.2.1 hin ty0 hty0 hnm X.2.2.2.1 X.2.2.2.2.2.2.2.2.1.1 r.2.2.1 (xw_D E cnt h) r.2.2.2.1 a ((xw_at E h ha).trans (by rw [xc_obj hs])) hc k hk (X.2.2.2.2.2.1 _ hw) (fun _ q => q) hfin (X.2.2.2.2.1.trans hin2) (by rw [hC, hown, List.getD_eq_getElem?_getD, hc]; rfl) hty (by rcases hty1 with ⟨n, rfl⟩ | ⟨n, rfl⟩ <;> rfl) (by rcases hty1 with ⟨n, rfl⟩ | ⟨n, rfl⟩ <;> rfl) (by rw [List.length_map, List.length_range]; exact hk) hd (fun H1 locs1 hP1 hD1 hS1 => ?_)
  refine kk p e s m args below meth c R Fin cF ms X H1 locs1 cells slots lsA ⟨r.1, r.2.1, ?_, hS1, r.2.2.2.2⟩
  rw [xw_set (h' := ((h.1, h.2.1, upR h.2.2 a k (some b)) : XH)) ha ?_ ?_] at hP1
  · exact hP1
  · rw [xc_obj hs]
    congr 2
    refine xfs_set ?_ ?_
    · rw [ht]
      show Value.ref (xa E b) = va_rf ((upR h.2.2 a k (some b) a k).map (xa E)); unfold upR; rw [if_pos ⟨rfl, rfl⟩]; rfl
    · intro jj hj
      unfold xfv
      have e5 : ((h.1, h.2.1, upR h.2.2 a k (some b)) : XH).1 a jj = h.1 a jj := rfl
      have e6 : ((h.1, h.2.1, upR h.2.2 a k (some b)) : XH).2.1 a jj = h.2.1 a jj := rfl
      have e7 : ((h.1, h.2.1, upR h.2.2 a k (some b)) : XH).2.2 a jj = h.2.2 a jj := if_neg (fun q => hj q.2)
      rw [e5, e6, e7]
  · intro b hb
    exact xc_off rfl rfl (upR_off hb)
theorem g_iald {a n : Nat} {x : Int32} (hd : decode M.2.1 pc = .ok (.iaload, 1)) (ha : a < cnt) (hs : xsh.getD a (9, 0) = (1, n)) (hx : vp_in x n) (kk : G E l d M (pc + 1) ls (.int (h.1 a x.toNatClampNeg) :: st) cnt h mr sr Q) : G E l d M pc ls (.int x :: .ref a :: st) cnt h mr sr Q := by
  intro p e s m args below meth c R Fin cF ms X H locs cells slots lsA r
  have e1 : xa E a = E.1 + a := xa_lt (by have := r.2.1; omega)
  show W p l e R s m args below meth c H locs cells slots Fin (F0 m pc lsA (.int x :: .ref (xa E a) :: st.map (xv E)))
  rw [e1]
  exact va_iald X.1 X.2.1 X.2.2.2.2.2.2.2.2.1.1 r.2.2.1 a 0 ((xw_at E h ha).trans (by rw [xc_int hs])) rfl hx hd (kk p e s m args below meth c R Fin cF ms X H locs cells slots lsA r)
theorem g_zald {a n : Nat} {x : Int32} (hd : decode M.2.1 pc = .ok (.baload, 1)) (ha : a < cnt) (hs : xsh.getD a (9, 0) = (2, n)) (hx : vp_in x n) (kk : G E l d M (pc + 1) ls (.int (h.1 a x.toNatClampNeg) :: st) cnt h mr sr Q) : G E l d M pc ls (.int x :: .ref a :: st) cnt h mr sr Q := by
  intro p e s m args below meth c R Fin cF ms X H locs cells slots lsA r
  have e1 : xa E a = E.1 + a := xa_lt (by have := r.2.1; omega)
  show W p l e R s m args below meth c H locs cells slots Fin (F0 m pc lsA (.int x :: .ref (xa E a) :: st.map (xv E)))
  rw [e1]
  exact va_zald X.1 X.2.1 X.2.2.2.2.2.2.2.2.1.1 r.2.2.1 a 1 ((xw_at E h ha).trans (by rw [xc_boo hs])) rfl hx hd (kk p e s m args below meth c R Fin cF ms X H locs cells slots lsA r)
theorem g_bald {a n : Nat} {x : Int32} (hd : decode M.2.1 pc = .ok (.baload, 1)) (ha : a < cnt) (hs : xsh.getD a (9, 0) = (3, n)) (hx : vp_in x n) (kk : G E l d M (pc + 1) ls (.int (h.1 a x.toNatClampNeg) :: st) cnt h mr sr Q) : G E l d M pc ls (.int x :: .ref a :: st) cnt h mr sr Q := by
  intro p e s m args below meth c R Fin cF ms X H locs cells slots lsA r
  have e1 : xa E a = E.1 + a := xa_lt (by have := r.2.1; omega)
  show W p l e R s m args below meth c H locs cells slots Fin (F0 m pc lsA (.int x :: .ref (xa E a) :: st.map (xv E)))
  rw [e1]
  exact va_bald X.1 X.2.1 X.2.2.2.2.2.2.2.2.1.1 r.2.2.1 a 2 ((xw_at E h ha).trans (by rw [xc_byt hs])) rfl hx hd (kk p e s m args below meth c R Fin cF ms X H locs cells slots lsA r)
theorem g_aald {a n i b : Nat} {x : Int32} (hd : decode M.2.1 pc = .ok (.aaload, 1)) (ha : a < cnt) (hs : xsh.getD a (9, 0) = (4, n)) (hx : x = nI i) (hi : i < n) (hn : n < 2 ^ 31) (hb : h.2.2 a i = some b) (kk : G E l d M (pc + 1) ls (.ref b :: st) cnt h mr sr Q) : G E l d M pc ls (.int x :: .ref a :: st) cnt h mr sr Q := by
  intro p e s m args below meth c R Fin cF ms X H locs cells slots lsA r
  have e1 : xa E a = E.1 + a := xa_lt (by have := r.2.1; omega)
  show W p l e R s m args below meth c H locs cells slots Fin (F0 m pc lsA (.int x :: .ref (xa E a) :: st.map (xv E)))
  rw [e1]
  subst hx
  refine va_aldq X.1 X.2.1 X.2.2.2.2.2.2.2.2.1.1 r.2.2.1 a 3 ((xw_at E h ha).trans (by rw [xc_ref hs])) rfl (vp_in_nI hi hn) hd ?_
  rw [nI_clamp (by omega), hb]
  exact (kk p e s m args below meth c R Fin cF ms X H locs cells slots lsA r)
theorem g_alen {a n t : Nat} (hd : decode M.2.1 pc = .ok (.arraylength, 1)) (ha : a < cnt) (hs : xsh.getD a (9, 0) = (t, n)) (ht : t = 1 ∨ t = 4) (kk : G E l d M (pc + 1) ls (.int (nI n) :: st) cnt h mr sr Q) : G E l d M pc ls (.ref a :: st) cnt h mr sr Q := by
  intro p e s m args below meth c R Fin cF ms X H locs cells slots lsA r
  have e1 : xa E a = E.1 + a := xa_lt (by have := r.2.1; omega)
  show W p l e R s m args below meth c H locs cells slots Fin (F0 m pc lsA (.ref (xa E a) :: st.map (xv E)))
  rw [e1]
  rcases ht with rfl | rfl
  · exact va_alen (x := (n, .inl (h.1 a))) (v := nI n) X.1 X.2.1 X.2.2.2.2.2.2.2.2.1.1 r.2.2.1 a 0 ((xw_at E h ha).trans (by rw [xc_int hs])) rfl rfl hd (kk p e s m args below meth c R Fin cF ms X H locs cells slots lsA r)
  · exact va_alen (x := (n, .inr (.inr (.inr (.inr (fun k => (h.2.2 a k).map (xa E))))))) (v := nI n) X.1 X.2.1 X.2.2.2.2.2.2.2.2.1.1 r.2.2.1 a 3 ((xw_at E h ha).trans (by rw [xc_ref hs])) rfl rfl hd (kk p e s m args below meth c R Fin cF ms X H locs cells slots lsA r)
theorem g_iast {a n : Nat} {x y : Int32} (hd : decode M.2.1 pc = .ok (.iastore, 1)) (ha : a < cnt) (hs : xsh.getD a (9, 0) = (1, n)) (hx : vp_in x n) (kk : G E l d M (pc + 1) ls st cnt ((upI h.1 a x.toNatClampNeg y, h.2.1, h.2.2) : XH) mr sr Q) : G E l d M pc ls (.int y :: .int x :: .ref a :: st) cnt h mr sr Q := by
  intro p e s m args below meth c R Fin cF ms X H locs cells slots lsA r
  have e1 : xa E a = E.1 + a := xa_lt (by have := r.2.1; omega)
  show W p l e R s m args below meth c H locs cells slots Fin (F0 m pc lsA (.int y :: .int x :: .ref (xa E a) :: st.map (xv E)))
  rw [e1]
  refine va_iast X.1 X.2.1 X.2.2.2.2.2.2.2.2.1.1 r.2.2.1 (xw_D E cnt h) r.2.2.2.1 a 0 ((xw_at E h ha).trans (by rw [xc_int hs])) rfl hx hd (fun H1 locs1 hP1 hD1 hS1 => ?_)
  refine kk p e s m args below meth c R Fin cF ms X H1 locs1 cells slots lsA ⟨r.1, r.2.1, ?_, hS1, r.2.2.2.2⟩
  rw [xw_set (h' := ((upI h.1 a x.toNatClampNeg y, h.2.1, h.2.2) : XH)) ha ?_ ?_] at hP1
  · exact hP1
  · rw [xc_int hs]
    show _ = Sum.inl (_, n, Sum.inl (upI h.1 a x.toNatClampNeg y a))
    rw [upI_on]
  · intro b hb
    exact xc_off (upI_off hb) rfl rfl
theorem g_zast {a n : Nat} {x y : Int32} (hd : decode M.2.1 pc = .ok (.bastore, 1)) (ha : a < cnt) (hs : xsh.getD a (9, 0) = (2, n)) (hx : vp_in x n) (kk : G E l d M (pc + 1) ls st cnt ((upI h.1 a x.toNatClampNeg (vp_nar .boolean y), h.2.1, h.2.2) : XH) mr sr Q) : G E l d M pc ls (.int y :: .int x :: .ref a :: st) cnt h mr sr Q := by
  intro p e s m args below meth c R Fin cF ms X H locs cells slots lsA r
  have e1 : xa E a = E.1 + a := xa_lt (by have := r.2.1; omega)
  show W p l e R s m args below meth c H locs cells slots Fin (F0 m pc lsA (.int y :: .int x :: .ref (xa E a) :: st.map (xv E)))
  rw [e1]
  refine va_zast X.1 X.2.1 X.2.2.2.2.2.2.2.2.1.1 r.2.2.1 (xw_D E cnt h) r.2.2.2.1 a 1 ((xw_at E h ha).trans (by rw [xc_boo hs])) rfl hx hd (fun H1 locs1 hP1 hD1 hS1 => ?_)
  refine kk p e s m args below meth c R Fin cF ms X H1 locs1 cells slots lsA ⟨r.1, r.2.1, ?_, hS1, r.2.2.2.2⟩
  rw [xw_set (h' := ((upI h.1 a x.toNatClampNeg (vp_nar .boolean y), h.2.1, h.2.2) : XH)) ha ?_ ?_] at hP1
  · exact hP1
  · rw [xc_boo hs]
    show _ = Sum.inl (_, n, Sum.inl (upI h.1 a x.toNatClampNeg (vp_nar .boolean y) a))
    rw [upI_on]
  · intro b hb
    exact xc_off (upI_off hb) rfl rfl
theorem g_bast {a n : Nat} {x y : Int32} (hd : decode M.2.1 pc = .ok (.bastore, 1)) (ha : a < cnt) (hs : xsh.getD a (9, 0) = (3, n)) (hx : vp_in x n) (kk : G E l d M (pc + 1) ls st cnt ((upI h.1 a x.toNatClampNeg (vp_nar .byte y), h.2.1, h.2.2) : XH) mr sr Q) : G E l d M pc ls (.int y :: .int x :: .ref a :: st) cnt h mr sr Q := by
  intro p e s m args below meth c R Fin cF ms X H locs cells slots lsA r
  have e1 : xa E a = E.1 + a := xa_lt (by have := r.2.1; omega)
  show W p l e R s m args below meth c H locs cells slots Fin (F0 m pc lsA (.int y :: .int x :: .ref (xa E a) :: st.map (xv E)))
  rw [e1]
  refine va_bast X.1 X.2.1 X.2.2.2.2.2.2.2.2.1.1 r.2.2.1 (xw_D E cnt h) r.2.2.2.1 a 2 ((xw_at E h ha).trans (by rw [xc_byt hs])) rfl hx hd (fun H1 locs1 hP1 hD1 hS1 => ?_)
  refine kk p e s m args below meth c R Fin cF ms X H1 locs1 cells slots lsA ⟨r.1, r.2.1, ?_, hS1, r.2.2.2.2⟩
  rw [xw_set (h' := ((upI h.1 a x.toNatClampNeg (vp_nar .byte y), h.2.1, h.2.2) : XH)) ha ?_ ?_] at hP1
  · exact hP1
  · rw [xc_byt hs]
    show _ = Sum.inl (_, n, Sum.inl (upI h.1 a x.toNatClampNeg (vp_nar .byte y) a))
    rw [upI_on]
  · intro b hb
    exact xc_off (upI_off hb) rfl rfl
theorem g_aast {a n i b : Nat} {x : Int32} (hd : decode M.2.1 pc = .ok (.aastore, 1)) (ha : a < cnt) (hs : xsh.getD a (9, 0) = (4, n)) (hx : x = nI i) (hi : i < n) (hn : n < 2 ^ 31) (hb : b < cnt) (hsb : xsh.getD b (9, 0) = (0, 3)) (kk : G E l d M (pc + 1) ls st cnt ((h.1, h.2.1, upR h.2.2 a i (some b)) : XH) mr sr Q) : G E l d M pc ls (.ref b :: .int x :: .ref a :: st) cnt h mr sr Q := by
  intro p e s m args below meth c R Fin cF ms X H locs cells slots lsA r
  have e1 : xa E a = E.1 + a := xa_lt (by have := r.2.1; omega)
  have e2 : xa E b = E.1 + b := xa_lt (by have := r.2.1; omega)
  show W p l e R s m args below meth c H locs cells slots Fin (F0 m pc lsA (.ref (xa E b) :: .int x :: .ref (xa E a) :: st.map (xv E)))
  rw [e1, e2]
  subst hx
  refine va_astq (r := (RX5, TX5, 12)) X.1 X.2.1 X.2.2.2.2.2.2.2.2.1.1 r.2.2.1 (xw_D E cnt h) r.2.2.2.1 a 3 b 3 ((xw_at E h ha).trans (by rw [xc_ref hs])) rfl ((xw_at E h hb).trans (by rw [xc_obj hsb])) rfl (vp_in_nI hi hn) hd (fun H1 locs1 hP1 hD1 hS1 => ?_)
  refine kk p e s m args below meth c R Fin cF ms X H1 locs1 cells slots lsA ⟨r.1, r.2.1, ?_, hS1, r.2.2.2.2⟩
  rw [xw_set (h' := ((h.1, h.2.1, upR h.2.2 a i (some b)) : XH)) ha ?_ ?_] at hP1
  · exact hP1
  · rw [xc_ref hs, nI_clamp (by omega)]
    show _ = Sum.inl (_, n, Sum.inr (Sum.inr (Sum.inr (Sum.inr (fun k => (upR h.2.2 a i (some b) a k).map (xa E))))))
    rw [upR_on, ← e2]
    congr 7
    funext j
    unfold va_up
    by_cases hj : j = i
    · rw [if_pos hj, if_pos hj]
      rfl
    · rw [if_neg hj, if_neg hj]
  · intro b2 hb2
    exact xc_off rfl rfl (upR_off hb2)
/-- a new cell: noughts, no references; a kind that is none -/
def hnew (h : XH) (a : Nat) : XH := (fun b k => if b = a then (if xsh.getD a (9, 0) = (0, 3) ∧ k = 2 then 5 else 0) else h.1 b k, fun b k => if b = a then 0 else h.2.1 b k, fun b k => if b = a then none else h.2.2 b k)
theorem x_fresh {E : XE} {cnt : Nat} {h : XH} {q : Nat} {e : va_E} {H1 : Heap} {D : va_G} {cl : List vw_C} (hD : va_D (xA E) (xw E cnt h ++ [(q, e)])) (hP : va_P D cl (xw E cnt h ++ [(q, e)]) H1) (hz : H1.size ≤ E.1 + cnt + 1) : q = E.1 + cnt := by
  have h1 : (xw E cnt h ++ [(q, e)])[cnt]? = some (q, e) := by
    rw [List.getElem?_append_right (by rw [xw_len]; exact Nat.le_refl _), xw_len, Nat.sub_self]
    rfl
  have h2 : q < H1.size := (hP cnt _ h1).lt
  have h3 : E.1 ≤ q := hD.2 cnt _ h1
  refine Classical.byContradiction (fun hne => ?_)
  have h4 : q - E.1 < cnt := by omega
  have h5 : (xw E cnt h ++ [(q, e)])[q - E.1]? = some (E.1 + (q - E.1), xcell E h (q - E.1)) := by
    rw [List.getElem?_append_left (by rw [xw_len]; exact h4), xw_at E h h4]
  have h6 := hD.1 _ _ _ _ h5 h1 (by show E.1 + (q - E.1) = q; omega)
  omega
theorem hnew_off {h : XH} {a b : Nat} {E : XE} (hb : b < a) : xcell E (hnew h a) b = xcell E h b := by
  have hne : ¬ b = a := by omega
  refine xc_off ?_ ?_ ?_
  · funext k; exact if_neg hne
  · funext k; exact if_neg hne
  · funext k; exact if_neg hne

theorem g_new {idx ci : Nat} {C : String} {T : u_T} {ty : Nat → FieldType} (hd : decode M.2.1 pc = .ok (.new idx, 3)) (hc : vwCl[ci]? = some (C, T, xnf ci)) (hw : Cond.classLink M.1.cls idx C ∈ xtbl ∧ Cond.instantiable C (xnf ci) ∈ xtbl ∧ Cond.initialized C ∈ xtbl) (hty : ∀ k, k < xnf ci → parseFieldDescriptor (T k).2.2.1 = some (ty k)) (hs : xsh.getD cnt (9, 0) = (0, ci)) (hdv : ∀ j, j < xnf ci → defaultValue (ty j) = xfv E (hnew h cnt) cnt j (xft ci j)) (hcn : cnt < 1000) (kk : G E l d M (pc + 3) ls (.ref cnt :: st) (cnt + 1) (hnew h cnt) mr sr Q) : G E l d M pc ls st cnt h (mr + 1) (sr + xnf ci) Q := by
  intro p e s m args below meth c R Fin cF ms X H locs cells slots lsA r
  refine W.size (fun hz => ?_)
  have hsz := r.size X.2.2.2.2.2.2.2.1 hz
  have hb := X.2.2.2.2.2.2.2.1
  have r1 := r.1
  have r6 := r.2.2.2.2.2.1
  have r7 := r.2.2.2.2.2.2
  have hR := X.2.2.2.2.2.2.1
  refine va_new (fs := (List.range (xnf ci)).map (fun k => xfv E (hnew h cnt) cnt k (xft ci k))) X.1 X.2.1 X.2.2.2.2.2.1 (xcls hc).1 ty hty X.2.2.2.1 (X.2.2.2.2.2.1 _ hw.1) (X.2.2.2.2.2.1 _ hw.2.1) (X.2.2.2.2.2.1 _ hw.2.2) X.2.2.2.2.2.2.2.2.1.1 r.2.2.1 (xw_D E cnt h) r.2.2.2.1 (fun q hq => by show E.1 ≤ q; omega) hc (fun j hj => by rw [hdv j hj]; unfold vp_V; rw [List.getD_eq_getElem?_getD, xfs_get hj]; rfl) (by omega) (by omega) hd (fun q H1 hP1 hD1 hS1 => ?_)
  refine W.size (fun hz1 => ?_)
  have hq : q = E.1 + cnt := x_fresh hD1 hP1 (by omega)
  subst hq
  rw [xw_push (h' := hnew h cnt) (by rw [xc_obj hs]) (fun b hb2 => hnew_off hb2)] at hP1
  have k2 := kk p e s m args below meth c R Fin cF ms X H1 locs (cells + 1) (slots + xnf ci) lsA ⟨by omega, by omega, hP1, hS1, r.2.2.2.2.1, by omega, by omega⟩
  rw [← xa_lt hcn]
  exact k2
theorem g_newI {n : Nat} {x : Int32} (hd : decode M.2.1 pc = .ok (.newarray .int, 2)) (hw : Cond.arrayClass .int ∈ xtbl) (hx : x = nI n) (hn : n ≤ 1000) (hs : xsh.getD cnt (9, 0) = (1, n)) (hcn : cnt < 1000) (kk : G E l d M (pc + 2) ls (.ref cnt :: st) (cnt + 1) (hnew h cnt) mr sr Q) : G E l d M pc ls (.int x :: st) cnt h (mr + 1) (sr + n) Q := by
  intro p e s m args below meth c R Fin cF ms X H locs cells slots lsA r
  refine W.size (fun hz => ?_)
  have hsz := r.size X.2.2.2.2.2.2.2.1 hz
  have hb := X.2.2.2.2.2.2.2.1
  have r1 := r.1
  have r6 := r.2.2.2.2.2.1
  have r7 := r.2.2.2.2.2.2
  have hR := X.2.2.2.2.2.2.1
  subst hx
  refine va_newa (atype := .int) (ty := .int) (N' := n) (a0 := (n, .inl (fun _ => 0))) X.1 X.2.1 (X.2.2.2.2.2.1 _ hw) rfl X.2.2.2.2.2.2.2.2.1.1 r.2.2.1 (xw_D E cnt h) r.2.2.2.1 (fun q hq => by show E.1 ≤ q; omega) (fun cA => rfl) (nI_pos (by omega)) (nI_clamp (by omega)) (by show n * _ ≤ 536870912; exact Nat.le_trans (Nat.mul_le_mul hn (by decide : componentBytes .int ≤ 8)) (by decide)) (by omega) (by omega) hd (fun q cA H1 hK1 hP1 hD1 hS1 => ?_)
  have hcA : cA = E.2.2.2.2.1.1 := by
    have h1 := (hK1.2 4 (cA, .int) rfl).2
    have h2 := ((X.2.2.2.2.2.2.2.2.1).1.2 0 _ rfl).2
    exact Option.some.inj (h1.symm.trans h2)
  subst hcA
  refine W.size (fun hz1 => ?_)
  have hq : q = E.1 + cnt := x_fresh hD1 hP1 (by omega)
  subst hq
  have hnew0 : (hnew h cnt).1 cnt = fun _ => 0 := by
    funext k
    show (if cnt = cnt then (if xsh.getD cnt (9, 0) = (0, 3) ∧ k = 2 then (5 : Int32) else 0) else h.1 cnt k) = 0
    rw [if_pos rfl, if_neg (by rw [hs]; intro q; cases q.1)]
  rw [xw_push (h' := hnew h cnt) (by rw [xc_int hs, hnew0]) (fun b hb2 => hnew_off hb2)] at hP1
  have k2 := kk p e s m args below meth c R Fin cF ms X H1 locs (cells + 1) (slots + n) lsA ⟨by omega, by omega, hP1, hS1, r.2.2.2.2.1, by omega, by omega⟩
  rw [← xa_lt hcn]
  exact k2
theorem g_newZ {n : Nat} {x : Int32} (hd : decode M.2.1 pc = .ok (.newarray .boolean, 2)) (hw : Cond.arrayClass .boolean ∈ xtbl) (hx : x = nI n) (hn : n ≤ 1000) (hs : xsh.getD cnt (9, 0) = (2, n)) (hcn : cnt < 1000) (kk : G E l d M (pc + 2) ls (.ref cnt :: st) (cnt + 1) (hnew h cnt) mr sr Q) : G E l d M pc ls (.int x :: st) cnt h (mr + 1) (sr + n) Q := by
  intro p e s m args below meth c R Fin cF ms X H locs cells slots lsA r
  refine W.size (fun hz => ?_)
  have hsz := r.size X.2.2.2.2.2.2.2.1 hz
  have hb := X.2.2.2.2.2.2.2.1
  have r1 := r.1
  have r6 := r.2.2.2.2.2.1
  have r7 := r.2.2.2.2.2.2
  have hR := X.2.2.2.2.2.2.1
  subst hx
  refine va_newa (atype := .boolean) (ty := .boolean) (N' := n) (a0 := (n, .inl (fun _ => 0))) X.1 X.2.1 (X.2.2.2.2.2.1 _ hw) rfl X.2.2.2.2.2.2.2.2.1.1 r.2.2.1 (xw_D E cnt h) r.2.2.2.1 (fun q hq => by show E.1 ≤ q; omega) (fun cA => rfl) (nI_pos (by omega)) (nI_clamp (by omega)) (by show n * _ ≤ 536870912; exact Nat.le_trans (Nat.mul_le_mul hn (by decide : componentBytes .boolean ≤ 8)) (by decide)) (by omega) (by omega) hd (fun q cA H1 hK1 hP1 hD1 hS1 => ?_)
  have hcA : cA = E.2.2.2.2.1.2.1 := by
    have h1 := (hK1.2 4 (cA, .boolean) rfl).2
    have h2 := ((X.2.2.2.2.2.2.2.2.1).1.2 1 _ rfl).2
    exact Option.some.inj (h1.symm.trans h2)
  subst hcA
  refine W.size (fun hz1 => ?_)
  have hq : q = E.1 + cnt := x_fresh hD1 hP1 (by omega)
  subst hq
  have hnew0 : (hnew h cnt).1 cnt = fun _ => 0 := by
    funext k
    show (if cnt = cnt then (if xsh.getD cnt (9, 0) = (0, 3) ∧ k = 2 then (5 : Int32) else 0) else h.1 cnt k) = 0
    rw [if_pos rfl, if_neg (by rw [hs]; intro q; cases q.1)]
  rw [xw_push (h' := hnew h cnt) (by rw [xc_boo hs, hnew0]) (fun b hb2 => hnew_off hb2)] at hP1
  have k2 := kk p e s m args below meth c R Fin cF ms X H1 locs (cells + 1) (slots + n) lsA ⟨by omega, by omega, hP1, hS1, r.2.2.2.2.1, by omega, by omega⟩
  rw [← xa_lt hcn]
  exact k2
theorem g_newB {n : Nat} {x : Int32} (hd : decode M.2.1 pc = .ok (.newarray .byte, 2)) (hw : Cond.arrayClass .byte ∈ xtbl) (hx : x = nI n) (hn : n ≤ 1000) (hs : xsh.getD cnt (9, 0) = (3, n)) (hcn : cnt < 1000) (kk : G E l d M (pc + 2) ls (.ref cnt :: st) (cnt + 1) (hnew h cnt) mr sr Q) : G E l d M pc ls (.int x :: st) cnt h (mr + 1) (sr + n) Q := by
  intro p e s m args below meth c R Fin cF ms X H locs cells slots lsA r
  refine W.size (fun hz => ?_)
  have hsz := r.size X.2.2.2.2.2.2.2.1 hz
  have hb := X.2.2.2.2.2.2.2.1
  have r1 := r.1
  have r6 := r.2.2.2.2.2.1
  have r7 := r.2.2.2.2.2.2
  have hR := X.2.2.2.2.2.2.1
  subst hx
  refine va_newa (atype := .byte) (ty := .byte) (N' := n) (a0 := (n, .inl (fun _ => 0))) X.1 X.2.1 (X.2.2.2.2.2.1 _ hw) rfl X.2.2.2.2.2.2.2.2.1.1 r.2.2.1 (xw_D E cnt h) r.2.2.2.1 (fun q hq => by show E.1 ≤ q; omega) (fun cA => rfl) (nI_pos (by omega)) (nI_clamp (by omega)) (by show n * _ ≤ 536870912; exact Nat.le_trans (Nat.mul_le_mul hn (by decide : componentBytes .byte ≤ 8)) (by decide)) (by omega) (by omega) hd (fun q cA H1 hK1 hP1 hD1 hS1 => ?_)
  have hcA : cA = E.2.2.2.2.1.2.2.1 := by
    have h1 := (hK1.2 4 (cA, .byte) rfl).2
    have h2 := ((X.2.2.2.2.2.2.2.2.1).1.2 2 _ rfl).2
    exact Option.some.inj (h1.symm.trans h2)
  subst hcA
  refine W.size (fun hz1 => ?_)
  have hq : q = E.1 + cnt := x_fresh hD1 hP1 (by omega)
  subst hq
  have hnew0 : (hnew h cnt).1 cnt = fun _ => 0 := by
    funext k
    show (if cnt = cnt then (if xsh.getD cnt (9, 0) = (0, 3) ∧ k = 2 then (5 : Int32) else 0) else h.1 cnt k) = 0
    rw [if_pos rfl, if_neg (by rw [hs]; intro q; cases q.1)]
  rw [xw_push (h' := hnew h cnt) (by rw [xc_byt hs, hnew0]) (fun b hb2 => hnew_off hb2)] at hP1
  have k2 := kk p e s m args below meth c R Fin cF ms X H1 locs (cells + 1) (slots + n) lsA ⟨by omega, by omega, hP1, hS1, r.2.2.2.2.1, by omega, by omega⟩
  rw [← xa_lt hcn]
  exact k2
theorem g_newP {n idx : Nat} {x : Int32} (hd : decode M.2.1 pc = .ok (.anewarray idx, 3)) (hw : Cond.classLink M.1.cls idx "ThumbSea$Person" ∈ xtbl) (hx : x = nI n) (hn : n ≤ 1000) (hs : xsh.getD cnt (9, 0) = (4, n)) (hcn : cnt < 1000) (kk : G E l d M (pc + 3) ls (.ref cnt :: st) (cnt + 1) (hnew h cnt) mr sr Q) : G E l d M pc ls (.int x :: st) cnt h (mr + 1) (sr + n) Q := by
  intro p e s m args below meth c R Fin cF ms X H locs cells slots lsA r
  refine W.size (fun hz => ?_)
  have hsz := r.size X.2.2.2.2.2.2.2.1 hz
  have hb := X.2.2.2.2.2.2.2.1
  have r1 := r.1
  have r6 := r.2.2.2.2.2.1
  have r7 := r.2.2.2.2.2.2
  have hR := X.2.2.2.2.2.2.1
  subst hx
  refine va_newq (N' := n) X.1 X.2.1 X.2.2.2.1 (X.2.2.2.2.2.1 _ hw) X.2.2.2.2.2.2.2.2.1.2.2.1 X.2.2.2.2.2.2.2.2.1.1 r.2.2.1 (xw_D E cnt h) r.2.2.2.1 (fun q hq => by show E.1 ≤ q; omega) (nI_pos (by omega)) (nI_clamp (by omega)) (by omega) (by omega) (by omega) hd (fun q cA H1 hK1 hP1 hD1 hS1 => ?_)
  have hcA : cA = E.2.2.2.2.1.2.2.2 := by
    obtain ⟨kA, comp, -, -, -, h1⟩ := (hK1.2 4 (cA, .object "ThumbSea$Person") rfl).2
    obtain ⟨kA2, comp2, -, -, -, h2⟩ := ((X.2.2.2.2.2.2.2.2.1).1.2 3 _ rfl).2
    exact Option.some.inj (h1.symm.trans h2)
  subst hcA
  refine W.size (fun hz1 => ?_)
  have hq : q = E.1 + cnt := x_fresh hD1 hP1 (by omega)
  subst hq
  rw [xw_push (h' := hnew h cnt) (by rw [xc_ref hs]; congr 7; funext k; show none = Option.map _ (if cnt = cnt then none else h.2.2 cnt k); rw [if_pos rfl]; rfl) (fun b hb2 => hnew_off hb2)] at hP1
  have k2 := kk p e s m args below meth c R Fin cF ms X H1 locs (cells + 1) (slots + n) lsA ⟨by omega, by omega, hP1, hS1, r.2.2.2.2.1, by omega, by omega⟩
  rw [← xa_lt hcn]
  exact k2
theorem g_objInit {idx a : Nat} (hd : decode M.2.1 pc = .ok (.invokespecial idx, 3)) (hw : Cond.methodLink M.1.cls idx objectInit ∈ xtbl ∧ Cond.instanceMethod objectInit ∈ xtbl ∧ Cond.code objectInit ⟨#[0xb1]⟩ 1 none ∈ xtbl) (hd1 : 1 ≤ d) (hst : (st.map fun v => v.category).sum ≤ 8) (kk : G E l d M (pc + 3) ls st cnt h mr sr Q) : G E l d M pc ls (.ref a :: st) cnt h mr sr Q := by
  intro p e s m args below meth c R Fin cF ms X H locs cells slots lsA r
  have hR := X.2.2.2.2.2.2.1
  refine W.objInit X.1 X.2.1 X.2.2.2.1 (X.2.2.2.2.2.1 _ hw.1) (X.2.2.2.2.2.1 _ hw.2.1) (X.2.2.2.2.2.1 _ hw.2.2) rfl (r.2.2.2.2.1.1.trans X.2.2.1.symm) rfl hd (by omega) ?_ (kk p e s m args below meth c R Fin cF ms X H locs cells slots lsA r)
  have h2 := xv_cats E st
  show 2 * 0 + ((st.map (xv E)).map fun v => v.category).sum + 12 ≤ R.locals
  omega
/-! calls -/
/-- what is known of a method: its code is in the tables, its class is ready, its parameters' number -/
def XMf (M' : XM) (n : Nat) : Prop := Cond.initialized M'.1.cls ∈ xtbl ∧ Cond.code M'.1 M'.2.1 M'.2.2.1 M'.2.2.2 ∈ xtbl ∧ (M'.1.cls ≠ "java/lang/invoke/MethodHandle" ∧ M'.1.cls ≠ "java/lang/invoke/VarHandle" ∧ (parseMethodDescriptor M'.1.desc).map (fun d => d.parameters.length) = some n) ∧ M'.2.2.1 ≤ 41
theorem XI.blind {avs : List Value} {E : XE} {cnt : Nat} {h : XH} : FrameBlind (va_Pc (avs.map (xv E)) (XI E cnt h)) := fun a U g mk q => ⟨q.1, q.2.1, q.2.2.1, q.2.2.2.1, q.2.2.2.2.same rfl⟩
theorem x_good {M M' : XM} {n : Nat} (hm : XMf M' n) : GoodIn xtbl (xws M') := by
  intro w hw
  rcases List.mem_cons.mp hw with rfl | hw
  · exact ⟨hm.2.1, good_of_word (List.mem_filter.mp hm.2.1).2⟩
  · exact ⟨hw, good_of_word (List.mem_filter.mp hw).2⟩
/-- behind a call -/
theorem x_run {p : Program} {e : Env} {s : State} {m : MethodId} {args : Array Value} {below : List Frame} {meth : Method} {c : Code} {R : Room} {Fin : State → Prop} {cF ms : Nat} {H : Heap} {locs : List Loc} {cells slots : Nat} {lsA : Array Slot} {mc' ms' : Nat} {a : Array Value} {st0 : List Value} {Q' : Option Value → XH → Prop}
    (X : XC E l d M Q p e s m args below meth c R Fin cF ms) (r : XR E M s cF ms (mr + mc') (sr + ms') cnt h ls H locs cells slots lsA) (hrun : va_Run p l e R s m args below meth c H locs cells slots mc' ms' (F0 m pc lsA st0) (st.map (xv E)) (XQ E (cnt + mc') Q' a) (xA E))
    (kk : ∀ (v : Option Value) (h' : XH), Q' v h' → G E l d M (pc + 3) ls (v.toList ++ st) (cnt + mc') h' mr sr Q) : W p l e R s m args below meth c H locs cells slots Fin (F0 m pc lsA st0) := by
  intro T hT XS
  obtain ⟨v, st₀, t, T', L, h0, X', hL, e1, e2, ⟨⟨v', h', hv, hq, hI⟩, hz, hk⟩, stp⟩ := hrun T hT XS
  cases hv
  rw [h0] at hz hk
  have hS := r.2.2.2.1
  have r1 := r.1
  have r6 := r.2.2.2.2.2.1
  have r7 := r.2.2.2.2.2.2
  have k2 := kk v' h' hq p e s m args below meth c R Fin cF ms X T'.heap (locs ++ L) (cells + mc') (slots + ms') lsA ⟨by omega, hI.2.1, by rw [e1]; exact hI.2.2.1, ⟨Nat.le_trans hS.1 (by rw [e1]; exact hz), fun q h1 h2 => by rw [e1, hk q (Nat.lt_of_lt_of_le h1 hS.1) h2]; exact hS.2.1 q h1 h2, fun q hq2 => by
      rcases List.mem_append.mp hq2 with h9 | h9
      · exact hS.2.2 q h9
      · exact hL q h9⟩, r.2.2.2.2.1, by omega, by omega⟩
  have e9 : (v'.map (xv E)).toList ++ st.map (xv E) = (v'.toList ++ st).map (xv E) := by cases v' <;> rfl
  rw [← e9] at k2
  obtain ⟨t2, a1, b1⟩ := k2 T' rfl X'
  exact ⟨t2, stp t2 a1, b1⟩
theorem x_pre {p : Program} {e : Env} {s : State} {m : MethodId} {args : Array Value} {below : List Frame} {meth : Method} {c : Code} {R : Room} {Fin : State → Prop} {cF ms : Nat} {H : Heap} {locs : List Loc} {cells slots : Nat} {lsA : Array Slot} (X : XC E l d M Q p e s m args below meth c R Fin cF ms) (r : XR E M s cF ms mr sr cnt h ls H locs cells slots lsA) (hz : H.size ≤ s.heap.size + cells) : ∀ U : State, U.heap = H → s.WarmedH U.vm → XI E cnt h U := by
  intro U hU hW
  have hb := X.2.2.2.2.2.2.2.1
  refine ⟨by rw [hU]; exact r.size hb hz, r.2.1, by rw [hU]; exact r.2.2.1, ?_⟩
  rw [hU]
  exact XK.step X.2.2.2.2.2.2.2.2.1 r.2.2.2.1 hb hW

theorem g_callV0 {M' : XM} {idx b ci d' mc' ms' : Nat} {Q' : Option Value → XH → Prop} (hd : decode M.2.1 pc = .ok (.invokevirtual idx, 3)) (hl : Cond.methodLink M.1.cls idx M'.1 ∈ xtbl) (hv : Cond.instanceMethod M'.1 ∈ xtbl ∧ Cond.selects M'.1.cls M'.1 M'.1 ∈ xtbl) (hb : b < cnt) (hs : xsh.getD b (9, 0) = (0, ci)) (hcn : (vwCl[ci]?).map (fun q => q.1) = some M'.1.cls) (hm : XMf M' 0) (hst : (st.map fun v => v.category).sum ≤ 8) (hdd : d' + 1 ≤ d) (hM : MC E l d' M' (.ref b :: []) cnt h mc' ms' Q') (kk : ∀ (v : Option Value) (h' : XH), Q' v h' → G E l d M (pc + 3) ls (v.toList ++ st) (cnt + mc') h' mr sr Q) : G E l d M pc ls (.ref b :: st) cnt h (mr + mc') (sr + ms') Q := by
  intro p e s m args below meth c R Fin cF ms X H locs cells slots lsA r
  refine W.size (fun hz => ?_)
  have hR := X.2.2.2.2.2.2.1
  have hm4 := hm.2.2.2
  have e1 : xa E b = E.1 + b := xa_lt (by have := r.2.1; omega)
  refine x_run (a := (Value.ref (xa E b) :: []).toArray) X r (va_runV (C := M'.1.cls) (ws := xws M') (rm := xroom d' mc' ms') (bytes := M'.2.1) (maxL := M'.2.2.1) (ret := M'.2.2.2) (n := 0) (b := xa E b) (As := []) ⟨X.1, X.2.1, X.2.2.1, X.2.2.2.1, X.2.2.2.2.2.1⟩ hM ⟨callB_of 0 X.2.2.2.2.2.1 (x_good (M := M) hm) rfl rfl rfl (X.2.2.2.2.2.1 _ hm.1) (X.2.2.2.2.2.1 _ hl) hm.2.2.1 ⟨by show d' + 1 ≤ R.frames; omega, by show 8 + (M'.2.2.1 + 11) + 60 * d' ≤ R.locals; omega⟩, X.2.2.2.2.2.1 _ hv.1, X.2.2.2.2.2.1 _ hv.2⟩ ⟨XI.blind (avs := .ref b :: []), by rw [e1]; exact x_recv X.2.2.2.2.2.2.2.2.1 r.2.2.1 hb hs hcn, fun U hU hW => ⟨rfl, x_pre X r hz U hU hW⟩⟩ rfl rfl r.2.2.2.2.1.1 rfl (by rw [xv_cats]; show 2 * 0 + _ ≤ 8; omega) hd ⟨by have := r.1; have := r.2.2.2.2.2.1; omega, by have := r.2.2.2.2.2.2; omega⟩) kk
theorem g_callI0 {M' : XM} {idx b d' mc' ms' : Nat} {Q' : Option Value → XH → Prop} (hd : decode M.2.1 pc = .ok (.invokespecial idx, 3)) (hl : Cond.methodLink M.1.cls idx M'.1 ∈ xtbl) (hv : Cond.instanceMethod M'.1 ∈ xtbl) (hret : M'.2.2.2 = none) (hname : M'.1.name = "<init>") (hm : XMf M' 0) (hst : (st.map fun v => v.category).sum ≤ 8) (hdd : d' + 1 ≤ d) (hM : MC E l d' M' (.ref b :: []) cnt h mc' ms' Q') (kk : ∀ (v : Option Value) (h' : XH), Q' v h' → G E l d M (pc + 3) ls (v.toList ++ st) (cnt + mc') h' mr sr Q) : G E l d M pc ls (.ref b :: st) cnt h (mr + mc') (sr + ms') Q := by
  intro p e s m args below meth c R Fin cF ms X H locs cells slots lsA r
  refine W.size (fun hz => ?_)
  have hR := X.2.2.2.2.2.2.1
  have hm4 := hm.2.2.2
  refine x_run (a := (Value.ref (xa E b) :: []).toArray) X r (va_runI (ws := xws M') (rm := xroom d' mc' ms') (bytes := M'.2.1) (maxL := M'.2.2.1) (n := 0) (b := xa E b) (As := []) ⟨X.1, X.2.1, X.2.2.1, X.2.2.2.1, X.2.2.2.2.2.1⟩ hM ⟨callB_of 0 X.2.2.2.2.2.1 (x_good (M := M) hm) (by unfold xws; rw [hret]) rfl rfl (X.2.2.2.2.2.1 _ hm.1) (X.2.2.2.2.2.1 _ hl) hm.2.2.1 ⟨by show d' + 1 ≤ R.frames; omega, by show 8 + (M'.2.2.1 + 11) + 60 * d' ≤ R.locals; omega⟩, hname, X.2.2.2.2.2.1 _ hv⟩ ⟨XI.blind (avs := .ref b :: []), fun U hU hW => ⟨rfl, x_pre X r hz U hU hW⟩⟩ rfl rfl r.2.2.2.2.1.1 rfl (by rw [xv_cats]; show 2 * 0 + _ ≤ 8; omega) hd ⟨by have := r.1; have := r.2.2.2.2.2.1; omega, by have := r.2.2.2.2.2.2; omega⟩) kk
theorem g_callIN0 {M' : XM} {idx b d' mc' ms' : Nat} {host : String} {Q' : Option Value → XH → Prop} (hd : decode M.2.1 pc = .ok (.invokespecial idx, 3)) (hl : (M.1.cls, idx, M'.1, host) ∈ xnest) (hv : Cond.instanceMethod M'.1 ∈ xtbl) (hret : M'.2.2.2 = none) (hname : M'.1.name = "<init>") (hm : XMf M' 0) (hst : (st.map fun v => v.category).sum ≤ 8) (hdd : d' + 1 ≤ d) (hM : MC E l d' M' (.ref b :: []) cnt h mc' ms' Q') (kk : ∀ (v : Option Value) (h' : XH), Q' v h' → G E l d M (pc + 3) ls (v.toList ++ st) (cnt + mc') h' mr sr Q) : G E l d M pc ls (.ref b :: st) cnt h (mr + mc') (sr + ms') Q := by
  intro p e s m args below meth c R Fin cF ms X H locs cells slots lsA r
  refine W.size (fun hz => ?_)
  have hR := X.2.2.2.2.2.2.1
  have hm4 := hm.2.2.2
  refine x_run (a := (Value.ref (xa E b) :: []).toArray) X r (va_runIN (host := host) (ws := xws M') (rm := xroom d' mc' ms') (bytes := M'.2.1) (maxL := M'.2.2.1) (n := 0) (b := xa E b) (As := []) ⟨X.1, X.2.1, X.2.2.1, X.2.2.2.1, X.2.2.2.2.2.1⟩ hM ⟨va_cnB 0 X.2.2.2.2.2.1 (x_good (M := M) hm) (by unfold xws; rw [hret]) rfl rfl (X.2.2.2.2.2.2.2.2.1.2.1 _ hl) (X.2.2.2.2.2.1 _ hm.1) hm.2.2.1 ⟨by show d' + 1 ≤ R.frames; omega, by show 8 + (M'.2.2.1 + 11) + 60 * d' ≤ R.locals; omega⟩, hname, X.2.2.2.2.2.1 _ hv⟩ ⟨XI.blind (avs := .ref b :: []), fun U hU hW => ⟨rfl, x_pre X r hz U hU hW⟩⟩ rfl rfl r.2.2.2.2.1.1 rfl (by rw [xv_cats]; show 2 * 0 + _ ≤ 8; omega) hd ⟨by have := r.1; have := r.2.2.2.2.2.1; omega, by have := r.2.2.2.2.2.2; omega⟩) kk
theorem g_callV1 {M' : XM} {idx b ci d' mc' ms' : Nat} {x0 : Value} {Q' : Option Value → XH → Prop} (hd : decode M.2.1 pc = .ok (.invokevirtual idx, 3)) (hl : Cond.methodLink M.1.cls idx M'.1 ∈ xtbl) (hv : Cond.instanceMethod M'.1 ∈ xtbl ∧ Cond.selects M'.1.cls M'.1 M'.1 ∈ xtbl) (hb : b < cnt) (hs : xsh.getD b (9, 0) = (0, ci)) (hcn : (vwCl[ci]?).map (fun q => q.1) = some M'.1.cls) (hm : XMf M' 1) (hst : (st.map fun v => v.category).sum ≤ 8) (hdd : d' + 1 ≤ d) (hM : MC E l d' M' (.ref b :: [x0]) cnt h mc' ms' Q') (kk : ∀ (v : Option Value) (h' : XH), Q' v h' → G E l d M (pc + 3) ls (v.toList ++ st) (cnt + mc') h' mr sr Q) : G E l d M pc ls (x0 :: .ref b :: st) cnt h (mr + mc') (sr + ms') Q := by
  intro p e s m args below meth c R Fin cF ms X H locs cells slots lsA r
  refine W.size (fun hz => ?_)
  have hR := X.2.2.2.2.2.2.1
  have hm4 := hm.2.2.2
  have e1 : xa E b = E.1 + b := xa_lt (by have := r.2.1; omega)
  refine x_run (a := (Value.ref (xa E b) :: [xv E x0]).toArray) X r (va_runV (C := M'.1.cls) (ws := xws M') (rm := xroom d' mc' ms') (bytes := M'.2.1) (maxL := M'.2.2.1) (ret := M'.2.2.2) (n := 1) (b := xa E b) (As := [xv E x0]) ⟨X.1, X.2.1, X.2.2.1, X.2.2.2.1, X.2.2.2.2.2.1⟩ hM ⟨callB_of 1 X.2.2.2.2.2.1 (x_good (M := M) hm) rfl rfl rfl (X.2.2.2.2.2.1 _ hm.1) (X.2.2.2.2.2.1 _ hl) hm.2.2.1 ⟨by show d' + 1 ≤ R.frames; omega, by show 8 + (M'.2.2.1 + 11) + 60 * d' ≤ R.locals; omega⟩, X.2.2.2.2.2.1 _ hv.1, X.2.2.2.2.2.1 _ hv.2⟩ ⟨XI.blind (avs := .ref b :: [x0]), by rw [e1]; exact x_recv X.2.2.2.2.2.2.2.2.1 r.2.2.1 hb hs hcn, fun U hU hW => ⟨rfl, x_pre X r hz U hU hW⟩⟩ rfl rfl r.2.2.2.2.1.1 rfl (by rw [xv_cats]; show 2 * 0 + _ ≤ 8; omega) hd ⟨by have := r.1; have := r.2.2.2.2.2.1; omega, by have := r.2.2.2.2.2.2; omega⟩) kk
theorem g_callK1 {M' : XM} {idx b d' mc' ms' : Nat} {x0 : Value} {Q' : Option Value → XH → Prop} (hd : decode M.2.1 pc = .ok (.invokevirtual idx, 3)) (hl : Cond.methodLink M.1.cls idx M'.1 ∈ xtbl) (hv : Cond.instanceMethod M'.1 ∈ xtbl ∧ Cond.selects M'.1.cls M'.1 M'.1 ∈ xtbl) (hb : b < 5) (hcn : M'.1.cls = "ThumbSea$Kind") (hm : XMf M' 1) (hst : (st.map fun v => v.category).sum ≤ 8) (hdd : d' + 1 ≤ d) (hM : MC E l d' M' (.ref (1000 + b) :: [x0]) cnt h mc' ms' Q') (kk : ∀ (v : Option Value) (h' : XH), Q' v h' → G E l d M (pc + 3) ls (v.toList ++ st) (cnt + mc') h' mr sr Q) : G E l d M pc ls (x0 :: .ref (1000 + b) :: st) cnt h (mr + mc') (sr + ms') Q := by
  intro p e s m args below meth c R Fin cF ms X H locs cells slots lsA r
  refine W.size (fun hz => ?_)
  have hR := X.2.2.2.2.2.2.1
  have hm4 := hm.2.2.2
  refine x_run (a := (Value.ref (xa E (1000 + b)) :: [xv E x0]).toArray) X r (va_runV (C := M'.1.cls) (ws := xws M') (rm := xroom d' mc' ms') (bytes := M'.2.1) (maxL := M'.2.2.1) (ret := M'.2.2.2) (n := 1) (b := xa E (1000 + b)) (As := [xv E x0]) ⟨X.1, X.2.1, X.2.2.1, X.2.2.2.1, X.2.2.2.2.2.1⟩ hM ⟨callB_of 1 X.2.2.2.2.2.1 (x_good (M := M) hm) rfl rfl rfl (X.2.2.2.2.2.1 _ hm.1) (X.2.2.2.2.2.1 _ hl) hm.2.2.1 ⟨by show d' + 1 ≤ R.frames; omega, by show 8 + (M'.2.2.1 + 11) + 60 * d' ≤ R.locals; omega⟩, X.2.2.2.2.2.1 _ hv.1, X.2.2.2.2.2.1 _ hv.2⟩ ⟨XI.blind (avs := .ref (1000 + b) :: [x0]), by rw [xa_k hb, hcn]; exact va_recvE X.2.2.2.2.2.2.2.2.1.2.2.2.1 hb r.2.2.2.1, fun U hU hW => ⟨rfl, x_pre X r hz U hU hW⟩⟩ rfl rfl r.2.2.2.2.1.1 rfl (by rw [xv_cats]; show 2 * 0 + _ ≤ 8; omega) hd ⟨by have := r.1; have := r.2.2.2.2.2.1; omega, by have := r.2.2.2.2.2.2; omega⟩) kk
theorem g_callS1 {M' : XM} {idx d' mc' ms' : Nat} {x0 : Value} {Q' : Option Value → XH → Prop} (hd : decode M.2.1 pc = .ok (.invokestatic idx, 3)) (hl : Cond.methodLink M.1.cls idx M'.1 ∈ xtbl) (hv : Cond.static M'.1 ∈ xtbl) (hm : XMf M' 1) (hst : (st.map fun v => v.category).sum ≤ 8) (hdd : d' + 1 ≤ d) (hM : MC E l d' M' [x0] cnt h mc' ms' Q') (kk : ∀ (v : Option Value) (h' : XH), Q' v h' → G E l d M (pc + 3) ls (v.toList ++ st) (cnt + mc') h' mr sr Q) : G E l d M pc ls (x0 :: st) cnt h (mr + mc') (sr + ms') Q := by
  intro p e s m args below meth c R Fin cF ms X H locs cells slots lsA r
  refine W.size (fun hz => ?_)
  have hR := X.2.2.2.2.2.2.1
  have hm4 := hm.2.2.2
  refine x_run (a := ([xv E x0] : List Value).toArray) X r (va_runS (ws := xws M') (rm := xroom d' mc' ms') (bytes := M'.2.1) (maxL := M'.2.2.1) (ret := M'.2.2.2) (n := 1) (As := [xv E x0]) ⟨X.1, X.2.1, X.2.2.1, X.2.2.2.1, X.2.2.2.2.2.1⟩ hM ⟨callB_of 1 X.2.2.2.2.2.1 (x_good (M := M) hm) rfl rfl rfl (X.2.2.2.2.2.1 _ hm.1) (X.2.2.2.2.2.1 _ hl) hm.2.2.1 ⟨by show d' + 1 ≤ R.frames; omega, by show 8 + (M'.2.2.1 + 11) + 60 * d' ≤ R.locals; omega⟩, X.2.2.2.2.2.1 _ hv⟩ ⟨XI.blind (avs := [x0]), fun U hU hW => ⟨rfl, x_pre X r hz U hU hW⟩⟩ rfl rfl r.2.2.2.2.1.1 rfl (by rw [xv_cats]; show 2 * 0 + _ ≤ 8; omega) hd ⟨by have := r.1; have := r.2.2.2.2.2.1; omega, by have := r.2.2.2.2.2.2; omega⟩) kk
theorem g_callI1 {M' : XM} {idx b d' mc' ms' : Nat} {x0 : Value} {Q' : Option Value → XH → Prop} (hd : decode M.2.1 pc = .ok (.invokespecial idx, 3)) (hl : Cond.methodLink M.1.cls idx M'.1 ∈ xtbl) (hv : Cond.instanceMethod M'.1 ∈ xtbl) (hret : M'.2.2.2 = none) (hname : M'.1.name = "<init>") (hm : XMf M' 1) (hst : (st.map fun v => v.category).sum ≤ 8) (hdd : d' + 1 ≤ d) (hM : MC E l d' M' (.ref b :: [x0]) cnt h mc' ms' Q') (kk : ∀ (v : Option Value) (h' : XH), Q' v h' → G E l d M (pc + 3) ls (v.toList ++ st) (cnt + mc') h' mr sr Q) : G E l d M pc ls (x0 :: .ref b :: st) cnt h (mr + mc') (sr + ms') Q := by
  intro p e s m args below meth c R Fin cF ms X H locs cells slots lsA r
  refine W.size (fun hz => ?_)
  have hR := X.2.2.2.2.2.2.1
  have hm4 := hm.2.2.2
  refine x_run (a := (Value.ref (xa E b) :: [xv E x0]).toArray) X r (va_runI (ws := xws M') (rm := xroom d' mc' ms') (bytes := M'.2.1) (maxL := M'.2.2.1) (n := 1) (b := xa E b) (As := [xv E x0]) ⟨X.1, X.2.1, X.2.2.1, X.2.2.2.1, X.2.2.2.2.2.1⟩ hM ⟨callB_of 1 X.2.2.2.2.2.1 (x_good (M := M) hm) (by unfold xws; rw [hret]) rfl rfl (X.2.2.2.2.2.1 _ hm.1) (X.2.2.2.2.2.1 _ hl) hm.2.2.1 ⟨by show d' + 1 ≤ R.frames; omega, by show 8 + (M'.2.2.1 + 11) + 60 * d' ≤ R.locals; omega⟩, hname, X.2.2.2.2.2.1 _ hv⟩ ⟨XI.blind (avs := .ref b :: [x0]), fun U hU hW => ⟨rfl, x_pre X r hz U hU hW⟩⟩ rfl rfl r.2.2.2.2.1.1 rfl (by rw [xv_cats]; show 2 * 0 + _ ≤ 8; omega) hd ⟨by have := r.1; have := r.2.2.2.2.2.1; omega, by have := r.2.2.2.2.2.2; omega⟩) kk
theorem g_callV2 {M' : XM} {idx b ci d' mc' ms' : Nat} {x0 : Value} {x1 : Value} {Q' : Option Value → XH → Prop} (hd : decode M.2.1 pc = .ok (.invokevirtual idx, 3)) (hl : Cond.methodLink M.1.cls idx M'.1 ∈ xtbl) (hv : Cond.instanceMethod M'.1 ∈ xtbl ∧ Cond.selects M'.1.cls M'.1 M'.1 ∈ xtbl) (hb : b < cnt) (hs : xsh.getD b (9, 0) = (0, ci)) (hcn : (vwCl[ci]?).map (fun q => q.1) = some M'.1.cls) (hm : XMf M' 2) (hst : (st.map fun v => v.category).sum ≤ 8) (hdd : d' + 1 ≤ d) (hM : MC E l d' M' (.ref b :: [x0, x1]) cnt h mc' ms' Q') (kk : ∀ (v : Option Value) (h' : XH), Q' v h' → G E l d M (pc + 3) ls (v.toList ++ st) (cnt + mc') h' mr sr Q) : G E l d M pc ls (x1 :: x0 :: .ref b :: st) cnt h (mr + mc') (sr + ms') Q := by
  intro p e s m args below meth c R Fin cF ms X H locs cells slots lsA r
  refine W.size (fun hz => ?_)
  have hR := X.2.2.2.2.2.2.1
  have hm4 := hm.2.2.2
  have e1 : xa E b = E.1 + b := xa_lt (by have := r.2.1; omega)
  refine x_run (a := (Value.ref (xa E b) :: [xv E x0, xv E x1]).toArray) X r (va_runV (C := M'.1.cls) (ws := xws M') (rm := xroom d' mc' ms') (bytes := M'.2.1) (maxL := M'.2.2.1) (ret := M'.2.2.2) (n := 2) (b := xa E b) (As := [xv E x0, xv E x1]) ⟨X.1, X.2.1, X.2.2.1, X.2.2.2.1, X.2.2.2.2.2.1⟩ hM ⟨callB_of 2 X.2.2.2.2.2.1 (x_good (M := M) hm) rfl rfl rfl (X.2.2.2.2.2.1 _ hm.1) (X.2.2.2.2.2.1 _ hl) hm.2.2.1 ⟨by show d' + 1 ≤ R.frames; omega, by show 8 + (M'.2.2.1 + 11) + 60 * d' ≤ R.locals; omega⟩, X.2.2.2.2.2.1 _ hv.1, X.2.2.2.2.2.1 _ hv.2⟩ ⟨XI.blind (avs := .ref b :: [x0, x1]), by rw [e1]; exact x_recv X.2.2.2.2.2.2.2.2.1 r.2.2.1 hb hs hcn, fun U hU hW => ⟨rfl, x_pre X r hz U hU hW⟩⟩ rfl rfl r.2.2.2.2.1.1 rfl (by rw [xv_cats]; show 2 * 0 + _ ≤ 8; omega) hd ⟨by have := r.1; have := r.2.2.2.2.2.1; omega, by have := r.2.2.2.2.2.2; omega⟩) kk
theorem g_callS2 {M' : XM} {idx d' mc' ms' : Nat} {x0 : Value} {x1 : Value} {Q' : Option Value → XH → Prop} (hd : decode M.2.1 pc = .ok (.invokestatic idx, 3)) (hl : Cond.methodLink M.1.cls idx M'.1 ∈ xtbl) (hv : Cond.static M'.1 ∈ xtbl) (hm : XMf M' 2) (hst : (st.map fun v => v.category).sum ≤ 8) (hdd : d' + 1 ≤ d) (hM : MC E l d' M' [x0, x1] cnt h mc' ms' Q') (kk : ∀ (v : Option Value) (h' : XH), Q' v h' → G E l d M (pc + 3) ls (v.toList ++ st) (cnt + mc') h' mr sr Q) : G E l d M pc ls (x1 :: x0 :: st) cnt h (mr + mc') (sr + ms') Q := by
  intro p e s m args below meth c R Fin cF ms X H locs cells slots lsA r
  refine W.size (fun hz => ?_)
  have hR := X.2.2.2.2.2.2.1
  have hm4 := hm.2.2.2
  refine x_run (a := ([xv E x0, xv E x1] : List Value).toArray) X r (va_runS (ws := xws M') (rm := xroom d' mc' ms') (bytes := M'.2.1) (maxL := M'.2.2.1) (ret := M'.2.2.2) (n := 2) (As := [xv E x0, xv E x1]) ⟨X.1, X.2.1, X.2.2.1, X.2.2.2.1, X.2.2.2.2.2.1⟩ hM ⟨callB_of 2 X.2.2.2.2.2.1 (x_good (M := M) hm) rfl rfl rfl (X.2.2.2.2.2.1 _ hm.1) (X.2.2.2.2.2.1 _ hl) hm.2.2.1 ⟨by show d' + 1 ≤ R.frames; omega, by show 8 + (M'.2.2.1 + 11) + 60 * d' ≤ R.locals; omega⟩, X.2.2.2.2.2.1 _ hv⟩ ⟨XI.blind (avs := [x0, x1]), fun U hU hW => ⟨rfl, x_pre X r hz U hU hW⟩⟩ rfl rfl r.2.2.2.2.1.1 rfl (by rw [xv_cats]; show 2 * 0 + _ ≤ 8; omega) hd ⟨by have := r.1; have := r.2.2.2.2.2.1; omega, by have := r.2.2.2.2.2.2; omega⟩) kk
theorem g_callV3 {M' : XM} {idx b ci d' mc' ms' : Nat} {x0 : Value} {x1 : Value} {x2 : Value} {Q' : Option Value → XH → Prop} (hd : decode M.2.1 pc = .ok (.invokevirtual idx, 3)) (hl : Cond.methodLink M.1.cls idx M'.1 ∈ xtbl) (hv : Cond.instanceMethod M'.1 ∈ xtbl ∧ Cond.selects M'.1.cls M'.1 M'.1 ∈ xtbl) (hb : b < cnt) (hs : xsh.getD b (9, 0) = (0, ci)) (hcn : (vwCl[ci]?).map (fun q => q.1) = some M'.1.cls) (hm : XMf M' 3) (hst : (st.map fun v => v.category).sum ≤ 8) (hdd : d' + 1 ≤ d) (hM : MC E l d' M' (.ref b :: [x0, x1, x2]) cnt h mc' ms' Q') (kk : ∀ (v : Option Value) (h' : XH), Q' v h' → G E l d M (pc + 3) ls (v.toList ++ st) (cnt + mc') h' mr sr Q) : G E l d M pc ls (x2 :: x1 :: x0 :: .ref b :: st) cnt h (mr + mc') (sr + ms') Q := by
  intro p e s m args below meth c R Fin cF ms X H locs cells slots lsA r
  refine W.size (fun hz => ?_)
  have hR := X.2.2.2.2.2.2.1
  have hm4 := hm.2.2.2
  have e1 : xa E b = E.1 + b := xa_lt (by have := r.2.1; omega)
  refine x_run (a := (Value.ref (xa E b) :: [xv E x0, xv E x1, xv E x2]).toArray) X r (va_runV (C := M'.1.cls) (ws := xws M') (rm := xroom d' mc' ms') (bytes := M'.2.1) (maxL := M'.2.2.1) (ret := M'.2.2.2) (n := 3) (b := xa E b) (As := [xv E x0, xv E x1, xv E x2]) ⟨X.1, X.2.1, X.2.2.1, X.2.2.2.1, X.2.2.2.2.2.1⟩ hM ⟨callB_of 3 X.2.2.2.2.2.1 (x_good (M := M) hm) rfl rfl rfl (X.2.2.2.2.2.1 _ hm.1) (X.2.2.2.2.2.1 _ hl) hm.2.2.1 ⟨by show d' + 1 ≤ R.frames; omega, by show 8 + (M'.2.2.1 + 11) + 60 * d' ≤ R.locals; omega⟩, X.2.2.2.2.2.1 _ hv.1, X.2.2.2.2.2.1 _ hv.2⟩ ⟨XI.blind (avs := .ref b :: [x0, x1, x2]), by rw [e1]; exact x_recv X.2.2.2.2.2.2.2.2.1 r.2.2.1 hb hs hcn, fun U hU hW => ⟨rfl, x_pre X r hz U hU hW⟩⟩ rfl rfl r.2.2.2.2.1.1 rfl (by rw [xv_cats]; show 2 * 0 + _ ≤ 8; omega) hd ⟨by have := r.1; have := r.2.2.2.2.2.1; omega, by have := r.2.2.2.2.2.2; omega⟩) kk
theorem g_callS3 {M' : XM} {idx d' mc' ms' : Nat} {x0 : Value} {x1 : Value} {x2 : Value} {Q' : Option Value → XH → Prop} (hd : decode M.2.1 pc = .ok (.invokestatic idx, 3)) (hl : Cond.methodLink M.1.cls idx M'.1 ∈ xtbl) (hv : Cond.static M'.1 ∈ xtbl) (hm : XMf M' 3) (hst : (st.map fun v => v.category).sum ≤ 8) (hdd : d' + 1 ≤ d) (hM : MC E l d' M' [x0, x1, x2] cnt h mc' ms' Q') (kk : ∀ (v : Option Value) (h' : XH), Q' v h' → G E l d M (pc + 3) ls (v.toList ++ st) (cnt + mc') h' mr sr Q) : G E l d M pc ls (x2 :: x1 :: x0 :: st) cnt h (mr + mc') (sr + ms') Q := by
  intro p e s m args below meth c R Fin cF ms X H locs cells slots lsA r
  refine W.size (fun hz => ?_)
  have hR := X.2.2.2.2.2.2.1
  have hm4 := hm.2.2.2
  refine x_run (a := ([xv E x0, xv E x1, xv E x2] : List Value).toArray) X r (va_runS (ws := xws M') (rm := xroom d' mc' ms') (bytes := M'.2.1) (maxL := M'.2.2.1) (ret := M'.2.2.2) (n := 3) (As := [xv E x0, xv E x1, xv E x2]) ⟨X.1, X.2.1, X.2.2.1, X.2.2.2.1, X.2.2.2.2.2.1⟩ hM ⟨callB_of 3 X.2.2.2.2.2.1 (x_good (M := M) hm) rfl rfl rfl (X.2.2.2.2.2.1 _ hm.1) (X.2.2.2.2.2.1 _ hl) hm.2.2.1 ⟨by show d' + 1 ≤ R.frames; omega, by show 8 + (M'.2.2.1 + 11) + 60 * d' ≤ R.locals; omega⟩, X.2.2.2.2.2.1 _ hv⟩ ⟨XI.blind (avs := [x0, x1, x2]), fun U hU hW => ⟨rfl, x_pre X r hz U hU hW⟩⟩ rfl rfl r.2.2.2.2.1.1 rfl (by rw [xv_cats]; show 2 * 0 + _ ≤ 8; omega) hd ⟨by have := r.1; have := r.2.2.2.2.2.1; omega, by have := r.2.2.2.2.2.2; omega⟩) kk
theorem g_callSN3 {M' : XM} {idx d' mc' ms' : Nat} {host : String} {x0 : Value} {x1 : Value} {x2 : Value} {Q' : Option Value → XH → Prop} (hd : decode M.2.1 pc = .ok (.invokestatic idx, 3)) (hl : (M.1.cls, idx, M'.1, host) ∈ xnest) (hv : Cond.static M'.1 ∈ xtbl) (hm : XMf M' 3) (hst : (st.map fun v => v.category).sum ≤ 8) (hdd : d' + 1 ≤ d) (hM : MC E l d' M' [x0, x1, x2] cnt h mc' ms' Q') (kk : ∀ (v : Option Value) (h' : XH), Q' v h' → G E l d M (pc + 3) ls (v.toList ++ st) (cnt + mc') h' mr sr Q) : G E l d M pc ls (x2 :: x1 :: x0 :: st) cnt h (mr + mc') (sr + ms') Q := by
  intro p e s m args below meth c R Fin cF ms X H locs cells slots lsA r
  refine W.size (fun hz => ?_)
  have hR := X.2.2.2.2.2.2.1
  have hm4 := hm.2.2.2
  refine x_run (a := ([xv E x0, xv E x1, xv E x2] : List Value).toArray) X r (va_runSN (host := host) (ws := xws M') (rm := xroom d' mc' ms') (bytes := M'.2.1) (maxL := M'.2.2.1) (ret := M'.2.2.2) (n := 3) (As := [xv E x0, xv E x1, xv E x2]) ⟨X.1, X.2.1, X.2.2.1, X.2.2.2.1, X.2.2.2.2.2.1⟩ hM ⟨va_cnB 3 X.2.2.2.2.2.1 (x_good (M := M) hm) rfl rfl rfl (X.2.2.2.2.2.2.2.2.1.2.1 _ hl) (X.2.2.2.2.2.1 _ hm.1) hm.2.2.1 ⟨by show d' + 1 ≤ R.frames; omega, by show 8 + (M'.2.2.1 + 11) + 60 * d' ≤ R.locals; omega⟩, X.2.2.2.2.2.1 _ hv, trivial⟩ ⟨XI.blind (avs := [x0, x1, x2]), fun U hU hW => ⟨rfl, x_pre X r hz U hU hW⟩⟩ rfl rfl r.2.2.2.2.1.1 rfl (by rw [xv_cats]; show 2 * 0 + _ ≤ 8; omega) hd ⟨by have := r.1; have := r.2.2.2.2.2.1; omega, by have := r.2.2.2.2.2.2; omega⟩) kk
theorem g_callV4 {M' : XM} {idx b ci d' mc' ms' : Nat} {x0 : Value} {x1 : Value} {x2 : Value} {x3 : Value} {Q' : Option Value → XH → Prop} (hd : decode M.2.1 pc = .ok (.invokevirtual idx, 3)) (hl : Cond.methodLink M.1.cls idx M'.1 ∈ xtbl) (hv : Cond.instanceMethod M'.1 ∈ xtbl ∧ Cond.selects M'.1.cls M'.1 M'.1 ∈ xtbl) (hb : b < cnt) (hs : xsh.getD b (9, 0) = (0, ci)) (hcn : (vwCl[ci]?).map (fun q => q.1) = some M'.1.cls) (hm : XMf M' 4) (hst : (st.map fun v => v.category).sum ≤ 8) (hdd : d' + 1 ≤ d) (hM : MC E l d' M' (.ref b :: [x0, x1, x2, x3]) cnt h mc' ms' Q') (kk : ∀ (v : Option Value) (h' : XH), Q' v h' → G E l d M (pc + 3) ls (v.toList ++ st) (cnt + mc') h' mr sr Q) : G E l d M pc ls (x3 :: x2 :: x1 :: x0 :: .ref b :: st) cnt h (mr + mc') (sr + ms') Q := by
  intro p e s m args below meth c R Fin cF ms X H locs cells slots lsA r
  refine W.size (fun hz => ?_)
  have hR := X.2.2.2.2.2.2.1
  have hm4 := hm.2.2.2
  have e1 : xa E b = E.1 + b := xa_lt (by have := r.2.1; omega)
  refine x_run (a := (Value.ref (xa E b) :: [xv E x0, xv E x1, xv E x2, xv E x3]).toArray) X r (va_runV (C := M'.1.cls) (ws := xws M') (rm := xroom d' mc' ms') (bytes := M'.2.1) (maxL := M'.2.2.1) (ret := M'.2.2.2) (n := 4) (b := xa E b) (As := [xv E x0, xv E x1, xv E x2, xv E x3]) ⟨X.1, X.2.1, X.2.2.1, X.2.2.2.1, X.2.2.2.2.2.1⟩ hM ⟨callB_of 4 X.2.2.2.2.2.1 (x_good (M := M) hm) rfl rfl rfl (X.2.2.2.2.2.1 _ hm.1) (X.2.2.2.2.2.1 _ hl) hm.2.2.1 ⟨by show d' + 1 ≤ R.frames; omega, by show 8 + (M'.2.2.1 + 11) + 60 * d' ≤ R.locals; omega⟩, X.2.2.2.2.2.1 _ hv.1, X.2.2.2.2.2.1 _ hv.2⟩ ⟨XI.blind (avs := .ref b :: [x0, x1, x2, x3]), by rw [e1]; exact x_recv X.2.2.2.2.2.2.2.2.1 r.2.2.1 hb hs hcn, fun U hU hW => ⟨rfl, x_pre X r hz U hU hW⟩⟩ rfl rfl r.2.2.2.2.1.1 rfl (by rw [xv_cats]; show 2 * 0 + _ ≤ 8; omega) hd ⟨by have := r.1; have := r.2.2.2.2.2.1; omega, by have := r.2.2.2.2.2.2; omega⟩) kk
end XHeap
/-- a contract out of the walk from the entry -/
theorem MC.of {E : XE} {l : Launch} {d : Nat} {M : XM} {avs : List Value} {cnt : Nat} {h : XH} {mc ms : Nat} {Q : Option Value → XH → Prop} (ls : XL) (hy : plainName M.1.cls = true) (hls : xl E 0 ls = lv_args 0 (avs.map (xv E))) (hlen : (lg_sl (avs.map (xv E))).length ≤ M.2.2.1) (g : G E l d M 0 ls [] cnt h mc ms Q) : MC E l d M avs cnt h mc ms Q := by
  refine Met.ofW (cc := M.2.1) (maxL := M.2.2.1) (ret := M.2.2.2) hy rfl ?_
  intro p e s m args below meth c s₁ B hml hv
  obtain ⟨rfl, hI⟩ := hv
  have hts := atoms_spec (ws := xws M) B.pre
  have hlocks := B.notSynchronized
  have hown : s.vm.findClass M.1.cls = some m.cls := findClass_of_methodNamed B.named
  have hl := lv_entry (avs.map (xv E)) (n := M.2.2.1) hlen
  rw [lg_entry_eq]
  generalize (lg_sl (avs.map (xv E)) ++ List.replicate (M.2.2.1 - (lg_sl (avs.map (xv E))).length) Slot.unset).toArray = lsA at hl ⊢
  rw [← hls] at hl
  refine g p e s m _ below meth c _ _ (cnt + mc) ms ⟨B.exec, B.bytes, hml, hown, (name_of_methodNamed B.named B.method).1, fun w hw => hts w (List.mem_cons_of_mem _ hw), ⟨Nat.le_refl d, Nat.le_refl (60 * d), by have h1 := hI.1; show E.1 + (cnt + mc) ≤ s.heap.size + mc; omega, Nat.le_refl ms⟩, by have h1 := hI.1; omega, hI.2.2.2, ?_⟩ s.heap [] 0 0 lsA ⟨hI.1, hI.2.1, hI.2.2.1, va_S.rf, hl, rfl, by omega⟩
  intro r h2 H locs cells slots lsB ls2 sr pc hr hq hret
  refine W.size (fun hz => ?_)
  have hb : E.1 ≤ s.heap.size := by have h1 := hI.1; omega
  have hsz := hr.size hb hz
  have hcells : cells = mc := by have h1 := hr.1; have h3 := hI.1; omega
  have hslots : slots ≤ ms := by have h1 := hr.2.2.2.2.2.2; omega
  subst hcells
  refine W.widen (k := cells) (n := ms) (Nat.le_refl _) hslots ?_
  have hend : ∀ t : State, t.heap = H → s.WarmedH t.vm → XQ E (cnt + cells) Q (avs.map (xv E)).toArray s (.returned (r.map (xv E))) t := fun t ht hW => ⟨⟨r, h2, rfl, hq, by rw [ht]; exact hsz, hr.2.1, by rw [ht]; exact hr.2.2.1, by rw [ht]; exact XK.step hI.2.2.2 hr.2.2.2.1 hb hW⟩, hr.2.2.2.1.F ht⟩
  have hrt := B.returns
  cases r with
  | none =>
    obtain ⟨h5, h6⟩ := hret
    exact W.vret B.exec B.bytes (hrt.trans h6) hend hr.2.2.2.1.2.2 h5 hlocks
  | some v =>
    cases v with
    | int x =>
      obtain ⟨h5, ty, h6, h7⟩ := hret
      exact W.zret B.exec B.bytes (hrt.trans h6) h7 hend hr.2.2.2.1.2.2 h5 hlocks
    | long x =>
      obtain ⟨h5, h6⟩ := hret
      exact W.lret B.exec B.bytes (hrt.trans h6) hend hr.2.2.2.1.2.2 h5 hlocks
    | ref a =>
      obtain ⟨h5, n, h6⟩ := hret
      exact W.aret B.exec B.bytes (hrt.trans h6) (Or.inl ⟨n, rfl⟩) (Or.inr ⟨xa E a, rfl⟩) hend hr.2.2.2.1.2.2 h5 hlocks
    | float x => exact hret.elim
    | double x => exact hret.elim
    | null => exact hret.elim
    | retAddr x => exact hret.elim
/-- a weaker end -/
theorem MC.weaken {E : XE} {l : Launch} {d : Nat} {M : XM} {avs : List Value} {cnt : Nat} {h : XH} {mc ms : Nat} {Q Q' : Option Value → XH → Prop} (hM : MC E l d M avs cnt h mc ms Q) (hq : ∀ r h', Q r h' → Q' r h') : MC E l d M avs cnt h mc ms Q' := by
  intro p e ha hc hk s m args below hf happ hP hT
  obtain ⟨k, o, h1, h2, h3, ⟨⟨r, h', h4, h5, h6⟩, h7⟩, h8⟩ := hM p e ha hc hk s m args below hf happ hP hT
  exact ⟨k, o, h1, h2, h3, ⟨⟨r, h', h4, hq r h' h5, h6⟩, h7⟩, h8⟩
end
section
abbrev mJ6_bitCount_0f7a4 : XM := (yJ6_bitCount_0f7a4, cJ6_bitCount_0f7a4, 1, (some .int))
theorem f_mJ6_bitCount_0f7a4 : XMf mJ6_bitCount_0f7a4 1 := ⟨xt_in 11 (by decide +kernel) rfl, xt_in 389 (by decide +kernel) rfl, ⟨by decide +kernel, by decide +kernel, by decide +kernel⟩, by decide⟩
theorem s_mJ6_bitCount_0f7a4 : Cond.static yJ6_bitCount_0f7a4 ∈ xtbl := xt_in 388 (by decide +kernel) rfl
abbrev mJ9_abs_0f7a4 : XM := (yJ9_abs_0f7a4, cJ9_abs_0f7a4, 1, (some .int))
theorem f_mJ9_abs_0f7a4 : XMf mJ9_abs_0f7a4 1 := ⟨xt_in 12 (by decide +kernel) rfl, xt_in 682 (by decide +kernel) rfl, ⟨by decide +kernel, by decide +kernel, by decide +kernel⟩, by decide⟩
theorem s_mJ9_abs_0f7a4 : Cond.static yJ9_abs_0f7a4 ∈ xtbl := xt_in 681 (by decide +kernel) rfl
abbrev mJ9_max_7cf53 : XM := (yJ9_max_7cf53, cJ9_max_7cf53, 2, (some .int))
theorem f_mJ9_max_7cf53 : XMf mJ9_max_7cf53 2 := ⟨xt_in 12 (by decide +kernel) rfl, xt_in 400 (by decide +kernel) rfl, ⟨by decide +kernel, by decide +kernel, by decide +kernel⟩, by decide⟩
theorem s_mJ9_max_7cf53 : Cond.static yJ9_max_7cf53 ∈ xtbl := xt_in 399 (by decide +kernel) rfl
abbrev mX0_clearHistory : XM := (yX0_clearHistory, cX0_clearHistory, 1, none)
theorem f_mX0_clearHistory : XMf mX0_clearHistory 0 := ⟨xt_in 3 (by decide +kernel) rfl, xt_in 316 (by decide +kernel) rfl, ⟨by decide +kernel, by decide +kernel, by decide +kernel⟩, by decide⟩
theorem s_mX0_clearHistory : Cond.instanceMethod yX0_clearHistory ∈ xtbl ∧ Cond.selects yX0_clearHistory.cls yX0_clearHistory yX0_clearHistory ∈ xtbl := ⟨xt_in 315 (by decide +kernel) rfl, xt_sel 1 (by decide +kernel) rfl⟩
abbrev mX0_clearShown : XM := (yX0_clearShown, cX0_clearShown, 2, none)
theorem f_mX0_clearShown : XMf mX0_clearShown 0 := ⟨xt_in 3 (by decide +kernel) rfl, xt_in 605 (by decide +kernel) rfl, ⟨by decide +kernel, by decide +kernel, by decide +kernel⟩, by decide⟩
theorem s_mX0_clearShown : Cond.instanceMethod yX0_clearShown ∈ xtbl ∧ Cond.selects yX0_clearShown.cls yX0_clearShown yX0_clearShown ∈ xtbl := ⟨xt_in 603 (by decide +kernel) rfl, xt_in 604 (by decide +kernel) rfl⟩
abbrev mX0_copyFrom : XM := (yX0_copyFrom, cX0_copyFrom, 3, none)
theorem f_mX0_copyFrom : XMf mX0_copyFrom 1 := ⟨xt_in 3 (by decide +kernel) rfl, xt_in 593 (by decide +kernel) rfl, ⟨by decide +kernel, by decide +kernel, by decide +kernel⟩, by decide⟩
theorem s_mX0_copyFrom : Cond.instanceMethod yX0_copyFrom ∈ xtbl ∧ Cond.selects yX0_copyFrom.cls yX0_copyFrom yX0_copyFrom ∈ xtbl := ⟨xt_in 591 (by decide +kernel) rfl, xt_in 592 (by decide +kernel) rfl⟩
abbrev mX0_couples : XM := (yX0_couples, cX0_couples, 3, (some .int))
theorem f_mX0_couples : XMf mX0_couples 0 := ⟨xt_in 3 (by decide +kernel) rfl, xt_in 707 (by decide +kernel) rfl, ⟨by decide +kernel, by decide +kernel, by decide +kernel⟩, by decide⟩
theorem s_mX0_couples : Cond.instanceMethod yX0_couples ∈ xtbl ∧ Cond.selects yX0_couples.cls yX0_couples yX0_couples ∈ xtbl := ⟨xt_in 706 (by decide +kernel) rfl, xt_sel 15 (by decide +kernel) rfl⟩
abbrev mX0_freeOnes : XM := (yX0_freeOnes, cX0_freeOnes, 3, (some .int))
theorem f_mX0_freeOnes : XMf mX0_freeOnes 0 := ⟨xt_in 3 (by decide +kernel) rfl, xt_in 703 (by decide +kernel) rfl, ⟨by decide +kernel, by decide +kernel, by decide +kernel⟩, by decide⟩
theorem s_mX0_freeOnes : Cond.instanceMethod yX0_freeOnes ∈ xtbl ∧ Cond.selects yX0_freeOnes.cls yX0_freeOnes yX0_freeOnes ∈ xtbl := ⟨xt_in 702 (by decide +kernel) rfl, xt_sel 14 (by decide +kernel) rfl⟩
abbrev mX0_goneOnes : XM := (yX0_goneOnes, cX0_goneOnes, 3, (some .int))
theorem f_mX0_goneOnes : XMf mX0_goneOnes 0 := ⟨xt_in 3 (by decide +kernel) rfl, xt_in 711 (by decide +kernel) rfl, ⟨by decide +kernel, by decide +kernel, by decide +kernel⟩, by decide⟩
theorem s_mX0_goneOnes : Cond.instanceMethod yX0_goneOnes ∈ xtbl ∧ Cond.selects yX0_goneOnes.cls yX0_goneOnes yX0_goneOnes ∈ xtbl := ⟨xt_in 710 (by decide +kernel) rfl, xt_sel 16 (by decide +kernel) rfl⟩
abbrev mX0_has : XM := (yX0_has, cX0_has, 2, (some .boolean))
theorem f_mX0_has : XMf mX0_has 1 := ⟨xt_in 3 (by decide +kernel) rfl, xt_in 328 (by decide +kernel) rfl, ⟨by decide +kernel, by decide +kernel, by decide +kernel⟩, by decide⟩
theorem s_mX0_has : Cond.instanceMethod yX0_has ∈ xtbl ∧ Cond.selects yX0_has.cls yX0_has yX0_has ∈ xtbl := ⟨xt_in 326 (by decide +kernel) rfl, xt_in 327 (by decide +kernel) rfl⟩
abbrev mX0_init : XM := (yX0_init, cX0_init, 2, none)
theorem f_mX0_init : XMf mX0_init 0 := ⟨xt_in 3 (by decide +kernel) rfl, xt_in 43 (by decide +kernel) rfl, ⟨by decide +kernel, by decide +kernel, by decide +kernel⟩, by decide⟩
theorem s_mX0_init : Cond.instanceMethod yX0_init ∈ xtbl := xt_in 42 (by decide +kernel) rfl
abbrev mX0_isEmpty : XM := (yX0_isEmpty, cX0_isEmpty, 1, (some .boolean))
theorem f_mX0_isEmpty : XMf mX0_isEmpty 0 := ⟨xt_in 3 (by decide +kernel) rfl, xt_in 433 (by decide +kernel) rfl, ⟨by decide +kernel, by decide +kernel, by decide +kernel⟩, by decide⟩
theorem s_mX0_isEmpty : Cond.instanceMethod yX0_isEmpty ∈ xtbl ∧ Cond.selects yX0_isEmpty.cls yX0_isEmpty yX0_isEmpty ∈ xtbl := ⟨xt_in 431 (by decide +kernel) rfl, xt_in 432 (by decide +kernel) rfl⟩
abbrev mX0_leftAtWorst : XM := (yX0_leftAtWorst, cX0_leftAtWorst, 6, (some .int))
theorem f_mX0_leftAtWorst : XMf mX0_leftAtWorst 3 := ⟨xt_in 3 (by decide +kernel) rfl, xt_in 396 (by decide +kernel) rfl, ⟨by decide +kernel, by decide +kernel, by decide +kernel⟩, by decide⟩
theorem s_mX0_leftAtWorst : Cond.static yX0_leftAtWorst ∈ xtbl := xt_in 395 (by decide +kernel) rfl
abbrev mX0_likedBy : XM := (yX0_likedBy, cX0_likedBy, 4, (some .int))
theorem f_mX0_likedBy : XMf mX0_likedBy 1 := ⟨xt_in 3 (by decide +kernel) rfl, xt_in 346 (by decide +kernel) rfl, ⟨by decide +kernel, by decide +kernel, by decide +kernel⟩, by decide⟩
theorem s_mX0_likedBy : Cond.instanceMethod yX0_likedBy ∈ xtbl ∧ Cond.selects yX0_likedBy.cls yX0_likedBy yX0_likedBy ∈ xtbl := ⟨xt_in 345 (by decide +kernel) rfl, xt_sel 2 (by decide +kernel) rfl⟩
abbrev mX0_matchesOf : XM := (yX0_matchesOf, cX0_matchesOf, 4, (some .int))
theorem f_mX0_matchesOf : XMf mX0_matchesOf 1 := ⟨xt_in 3 (by decide +kernel) rfl, xt_in 364 (by decide +kernel) rfl, ⟨by decide +kernel, by decide +kernel, by decide +kernel⟩, by decide⟩
theorem s_mX0_matchesOf : Cond.instanceMethod yX0_matchesOf ∈ xtbl ∧ Cond.selects yX0_matchesOf.cls yX0_matchesOf yX0_matchesOf ∈ xtbl := ⟨xt_in 363 (by decide +kernel) rfl, xt_sel 3 (by decide +kernel) rfl⟩
abbrev mX0_mutualOf : XM := (yX0_mutualOf, cX0_mutualOf, 5, (some .int))
theorem f_mX0_mutualOf : XMf mX0_mutualOf 1 := ⟨xt_in 3 (by decide +kernel) rfl, xt_in 536 (by decide +kernel) rfl, ⟨by decide +kernel, by decide +kernel, by decide +kernel⟩, by decide⟩
theorem s_mX0_mutualOf : Cond.instanceMethod yX0_mutualOf ∈ xtbl ∧ Cond.selects yX0_mutualOf.cls yX0_mutualOf yX0_mutualOf ∈ xtbl := ⟨xt_in 534 (by decide +kernel) rfl, xt_in 535 (by decide +kernel) rfl⟩
abbrev mX0_mutualTwos : XM := (yX0_mutualTwos, cX0_mutualTwos, 3, (some .int))
theorem f_mX0_mutualTwos : XMf mX0_mutualTwos 0 := ⟨xt_in 3 (by decide +kernel) rfl, xt_in 573 (by decide +kernel) rfl, ⟨by decide +kernel, by decide +kernel, by decide +kernel⟩, by decide⟩
theorem s_mX0_mutualTwos : Cond.instanceMethod yX0_mutualTwos ∈ xtbl ∧ Cond.selects yX0_mutualTwos.cls yX0_mutualTwos yX0_mutualTwos ∈ xtbl := ⟨xt_in 571 (by decide +kernel) rfl, xt_in 572 (by decide +kernel) rfl⟩
abbrev mX0_openMatches : XM := (yX0_openMatches, cX0_openMatches, 5, (some .int))
theorem f_mX0_openMatches : XMf mX0_openMatches 0 := ⟨xt_in 3 (by decide +kernel) rfl, xt_in 617 (by decide +kernel) rfl, ⟨by decide +kernel, by decide +kernel, by decide +kernel⟩, by decide⟩
theorem s_mX0_openMatches : Cond.instanceMethod yX0_openMatches ∈ xtbl ∧ Cond.selects yX0_openMatches.cls yX0_openMatches yX0_openMatches ∈ xtbl := ⟨xt_in 615 (by decide +kernel) rfl, xt_in 616 (by decide +kernel) rfl⟩
abbrev mX0_present : XM := (yX0_present, cX0_present, 3, (some .boolean))
theorem f_mX0_present : XMf mX0_present 2 := ⟨xt_in 3 (by decide +kernel) rfl, xt_in 455 (by decide +kernel) rfl, ⟨by decide +kernel, by decide +kernel, by decide +kernel⟩, by decide⟩
theorem s_mX0_present : Cond.instanceMethod yX0_present ∈ xtbl ∧ Cond.selects yX0_present.cls yX0_present yX0_present ∈ xtbl := ⟨xt_in 453 (by decide +kernel) rfl, xt_in 454 (by decide +kernel) rfl⟩
abbrev mX0_putInOrder : XM := (yX0_putInOrder, cX0_putInOrder, 5, none)
theorem f_mX0_putInOrder : XMf mX0_putInOrder 2 := ⟨xt_in 3 (by decide +kernel) rfl, xt_in 532 (by decide +kernel) rfl, ⟨by decide +kernel, by decide +kernel, by decide +kernel⟩, by decide⟩
theorem s_mX0_putInOrder : Cond.instanceMethod yX0_putInOrder ∈ xtbl ∧ Cond.selects yX0_putInOrder.cls yX0_putInOrder yX0_putInOrder ∈ xtbl := ⟨xt_in 530 (by decide +kernel) rfl, xt_in 531 (by decide +kernel) rfl⟩
abbrev mX0_readFrom : XM := (yX0_readFrom, cX0_readFrom, 5, none)
theorem f_mX0_readFrom : XMf mX0_readFrom 1 := ⟨xt_in 3 (by decide +kernel) rfl, xt_in 298 (by decide +kernel) rfl, ⟨by decide +kernel, by decide +kernel, by decide +kernel⟩, by decide⟩
theorem s_mX0_readFrom : Cond.instanceMethod yX0_readFrom ∈ xtbl ∧ Cond.selects yX0_readFrom.cls yX0_readFrom yX0_readFrom ∈ xtbl := ⟨xt_in 296 (by decide +kernel) rfl, xt_in 297 (by decide +kernel) rfl⟩
abbrev mX0_startDay : XM := (yX0_startDay, cX0_startDay, 2, none)
theorem f_mX0_startDay : XMf mX0_startDay 0 := ⟨xt_in 3 (by decide +kernel) rfl, xt_in 499 (by decide +kernel) rfl, ⟨by decide +kernel, by decide +kernel, by decide +kernel⟩, by decide⟩
theorem s_mX0_startDay : Cond.instanceMethod yX0_startDay ∈ xtbl ∧ Cond.selects yX0_startDay.cls yX0_startDay yX0_startDay ∈ xtbl := ⟨xt_in 497 (by decide +kernel) rfl, xt_in 498 (by decide +kernel) rfl⟩
abbrev mX0_tell : XM := (yX0_tell, cX0_tell, 2, (some .int))
theorem f_mX0_tell : XMf mX0_tell 1 := ⟨xt_in 3 (by decide +kernel) rfl, xt_in 699 (by decide +kernel) rfl, ⟨by decide +kernel, by decide +kernel, by decide +kernel⟩, by decide⟩
theorem s_mX0_tell : Cond.instanceMethod yX0_tell ∈ xtbl ∧ Cond.selects yX0_tell.cls yX0_tell yX0_tell ∈ xtbl := ⟨xt_in 697 (by decide +kernel) rfl, xt_in 698 (by decide +kernel) rfl⟩
abbrev mX0_tellOf : XM := (yX0_tellOf, cX0_tellOf, 3, (some .int))
theorem f_mX0_tellOf : XMf mX0_tellOf 2 := ⟨xt_in 3 (by decide +kernel) rfl, xt_in 332 (by decide +kernel) rfl, ⟨by decide +kernel, by decide +kernel, by decide +kernel⟩, by decide⟩
theorem s_mX0_tellOf : Cond.instanceMethod yX0_tellOf ∈ xtbl ∧ Cond.selects yX0_tellOf.cls yX0_tellOf yX0_tellOf ∈ xtbl := ⟨xt_in 330 (by decide +kernel) rfl, xt_in 331 (by decide +kernel) rfl⟩
abbrev mX0_toAsk : XM := (yX0_toAsk, cX0_toAsk, 8, (some .int))
theorem f_mX0_toAsk : XMf mX0_toAsk 1 := ⟨xt_in 3 (by decide +kernel) rfl, xt_in 386 (by decide +kernel) rfl, ⟨by decide +kernel, by decide +kernel, by decide +kernel⟩, by decide⟩
theorem s_mX0_toAsk : Cond.instanceMethod yX0_toAsk ∈ xtbl ∧ Cond.selects yX0_toAsk.cls yX0_toAsk yX0_toAsk ∈ xtbl := ⟨xt_in 385 (by decide +kernel) rfl, xt_sel 5 (by decide +kernel) rfl⟩
abbrev mX10_areOther : XM := (yX10_areOther, cX10_areOther, 3, (some .boolean))
theorem f_mX10_areOther : XMf mX10_areOther 2 := ⟨xt_in 10 (by decide +kernel) rfl, xt_in 977 (by decide +kernel) rfl, ⟨by decide +kernel, by decide +kernel, by decide +kernel⟩, by decide⟩
theorem s_mX10_areOther : Cond.instanceMethod yX10_areOther ∈ xtbl ∧ Cond.selects yX10_areOther.cls yX10_areOther yX10_areOther ∈ xtbl := ⟨xt_in 976 (by decide +kernel) rfl, xt_sel 28 (by decide +kernel) rfl⟩
abbrev mX10_areTwo : XM := (yX10_areTwo, cX10_areTwo, 3, (some .boolean))
theorem f_mX10_areTwo : XMf mX10_areTwo 2 := ⟨xt_in 10 (by decide +kernel) rfl, xt_in 1032 (by decide +kernel) rfl, ⟨by decide +kernel, by decide +kernel, by decide +kernel⟩, by decide⟩
theorem s_mX10_areTwo : Cond.instanceMethod yX10_areTwo ∈ xtbl ∧ Cond.selects yX10_areTwo.cls yX10_areTwo yX10_areTwo ∈ xtbl := ⟨xt_in 1031 (by decide +kernel) rfl, xt_sel 35 (by decide +kernel) rfl⟩
abbrev mX10_as : XM := (yX10_as, cX10_as, 4, (some .int))
theorem f_mX10_as : XMf mX10_as 2 := ⟨xt_in 10 (by decide +kernel) rfl, xt_in 1012 (by decide +kernel) rfl, ⟨by decide +kernel, by decide +kernel, by decide +kernel⟩, by decide⟩
theorem s_mX10_as : Cond.instanceMethod yX10_as ∈ xtbl ∧ Cond.selects yX10_as.cls yX10_as yX10_as ∈ xtbl := ⟨xt_in 1010 (by decide +kernel) rfl, xt_in 1011 (by decide +kernel) rfl⟩
abbrev mX10_askFor : XM := (yX10_askFor, cX10_askFor, 9, (some .int))
theorem f_mX10_askFor : XMf mX10_askFor 1 := ⟨xt_in 10 (by decide +kernel) rfl, xt_in 1004 (by decide +kernel) rfl, ⟨by decide +kernel, by decide +kernel, by decide +kernel⟩, by decide⟩
theorem s_mX10_askFor : Cond.instanceMethod yX10_askFor ∈ xtbl ∧ Cond.selects yX10_askFor.cls yX10_askFor yX10_askFor ∈ xtbl := ⟨xt_in 1003 (by decide +kernel) rfl, xt_sel 34 (by decide +kernel) rfl⟩
abbrev mX10_at : XM := (yX10_at, cX10_at, 2, (some .int))
theorem f_mX10_at : XMf mX10_at 1 := ⟨xt_in 10 (by decide +kernel) rfl, xt_in 938 (by decide +kernel) rfl, ⟨by decide +kernel, by decide +kernel, by decide +kernel⟩, by decide⟩
theorem s_mX10_at : Cond.instanceMethod yX10_at ∈ xtbl ∧ Cond.selects yX10_at.cls yX10_at yX10_at ∈ xtbl := ⟨xt_in 937 (by decide +kernel) rfl, xt_sel 21 (by decide +kernel) rfl⟩
abbrev mX10_back : XM := (yX10_back, cX10_back, 4, (some .int))
theorem f_mX10_back : XMf mX10_back 2 := ⟨xt_in 10 (by decide +kernel) rfl, xt_in 1052 (by decide +kernel) rfl, ⟨by decide +kernel, by decide +kernel, by decide +kernel⟩, by decide⟩
theorem s_mX10_back : Cond.instanceMethod yX10_back ∈ xtbl ∧ Cond.selects yX10_back.cls yX10_back yX10_back ∈ xtbl := ⟨xt_in 1050 (by decide +kernel) rfl, xt_in 1051 (by decide +kernel) rfl⟩
abbrev mX10_best : XM := (yX10_best, cX10_best, 3, (some .int))
theorem f_mX10_best : XMf mX10_best 2 := ⟨xt_in 10 (by decide +kernel) rfl, xt_in 1160 (by decide +kernel) rfl, ⟨by decide +kernel, by decide +kernel, by decide +kernel⟩, by decide⟩
theorem s_mX10_best : Cond.instanceMethod yX10_best ∈ xtbl ∧ Cond.selects yX10_best.cls yX10_best yX10_best ∈ xtbl := ⟨xt_in 1158 (by decide +kernel) rfl, xt_in 1159 (by decide +kernel) rfl⟩
abbrev mX10_bestNow : XM := (yX10_bestNow, cX10_bestNow, 7, (some .int))
theorem f_mX10_bestNow : XMf mX10_bestNow 2 := ⟨xt_in 10 (by decide +kernel) rfl, xt_in 1164 (by decide +kernel) rfl, ⟨by decide +kernel, by decide +kernel, by decide +kernel⟩, by decide⟩
theorem s_mX10_bestNow : Cond.instanceMethod yX10_bestNow ∈ xtbl ∧ Cond.selects yX10_bestNow.cls yX10_bestNow yX10_bestNow ∈ xtbl := ⟨xt_in 1163 (by decide +kernel) rfl, xt_sel 60 (by decide +kernel) rfl⟩
abbrev mX10_blank : XM := (yX10_blank, cX10_blank, 2, (some .int))
theorem f_mX10_blank : XMf mX10_blank 0 := ⟨xt_in 10 (by decide +kernel) rfl, xt_in 918 (by decide +kernel) rfl, ⟨by decide +kernel, by decide +kernel, by decide +kernel⟩, by decide⟩
theorem s_mX10_blank : Cond.instanceMethod yX10_blank ∈ xtbl ∧ Cond.selects yX10_blank.cls yX10_blank yX10_blank ∈ xtbl := ⟨xt_in 916 (by decide +kernel) rfl, xt_in 917 (by decide +kernel) rfl⟩
abbrev mX10_choose : XM := (yX10_choose, cX10_choose, 4, (some .int))
theorem f_mX10_choose : XMf mX10_choose 2 := ⟨xt_in 10 (by decide +kernel) rfl, xt_in 1016 (by decide +kernel) rfl, ⟨by decide +kernel, by decide +kernel, by decide +kernel⟩, by decide⟩
theorem s_mX10_choose : Cond.instanceMethod yX10_choose ∈ xtbl ∧ Cond.selects yX10_choose.cls yX10_choose yX10_choose ∈ xtbl := ⟨xt_in 1014 (by decide +kernel) rfl, xt_in 1015 (by decide +kernel) rfl⟩
abbrev mX10_choosiesOf : XM := (yX10_choosiesOf, cX10_choosiesOf, 6, (some .int))
theorem f_mX10_choosiesOf : XMf mX10_choosiesOf 1 := ⟨xt_in 10 (by decide +kernel) rfl, xt_in 996 (by decide +kernel) rfl, ⟨by decide +kernel, by decide +kernel, by decide +kernel⟩, by decide⟩
theorem s_mX10_choosiesOf : Cond.instanceMethod yX10_choosiesOf ∈ xtbl ∧ Cond.selects yX10_choosiesOf.cls yX10_choosiesOf yX10_choosiesOf ∈ xtbl := ⟨xt_in 995 (by decide +kernel) rfl, xt_sel 32 (by decide +kernel) rfl⟩
abbrev mX10_comes : XM := (yX10_comes, cX10_comes, 4, (some .int))
theorem f_mX10_comes : XMf mX10_comes 3 := ⟨xt_in 10 (by decide +kernel) rfl, xt_in 1132 (by decide +kernel) rfl, ⟨by decide +kernel, by decide +kernel, by decide +kernel⟩, by decide⟩
theorem s_mX10_comes : Cond.instanceMethod yX10_comes ∈ xtbl ∧ Cond.selects yX10_comes.cls yX10_comes yX10_comes ∈ xtbl := ⟨xt_in 1130 (by decide +kernel) rfl, xt_in 1131 (by decide +kernel) rfl⟩
abbrev mX10_comesNow : XM := (yX10_comesNow, cX10_comesNow, 6, (some .int))
theorem f_mX10_comesNow : XMf mX10_comesNow 3 := ⟨xt_in 10 (by decide +kernel) rfl, xt_in 1136 (by decide +kernel) rfl, ⟨by decide +kernel, by decide +kernel, by decide +kernel⟩, by decide⟩
theorem s_mX10_comesNow : Cond.instanceMethod yX10_comesNow ∈ xtbl ∧ Cond.selects yX10_comesNow.cls yX10_comesNow yX10_comesNow ∈ xtbl := ⟨xt_in 1135 (by decide +kernel) rfl, xt_sel 54 (by decide +kernel) rfl⟩
abbrev mX10_count : XM := (yX10_count, cX10_count, 2, (some .int))
theorem f_mX10_count : XMf mX10_count 1 := ⟨xt_in 10 (by decide +kernel) rfl, xt_in 1214 (by decide +kernel) rfl, ⟨by decide +kernel, by decide +kernel, by decide +kernel⟩, by decide⟩
theorem s_mX10_count : Cond.instanceMethod yX10_count ∈ xtbl ∧ Cond.selects yX10_count.cls yX10_count yX10_count ∈ xtbl := ⟨xt_in 1212 (by decide +kernel) rfl, xt_in 1213 (by decide +kernel) rfl⟩
abbrev mX10_day : XM := (yX10_day, cX10_day, 2, (some .int))
theorem f_mX10_day : XMf mX10_day 0 := ⟨xt_in 10 (by decide +kernel) rfl, xt_in 1056 (by decide +kernel) rfl, ⟨by decide +kernel, by decide +kernel, by decide +kernel⟩, by decide⟩
theorem s_mX10_day : Cond.instanceMethod yX10_day ∈ xtbl ∧ Cond.selects yX10_day.cls yX10_day yX10_day ∈ xtbl := ⟨xt_in 1054 (by decide +kernel) rfl, xt_in 1055 (by decide +kernel) rfl⟩
abbrev mX10_digest : XM := (yX10_digest, cX10_digest, 3, (some .long))
theorem f_mX10_digest : XMf mX10_digest 0 := ⟨xt_in 10 (by decide +kernel) rfl, xt_in 1226 (by decide +kernel) rfl, ⟨by decide +kernel, by decide +kernel, by decide +kernel⟩, by decide⟩
theorem s_mX10_digest : Cond.instanceMethod yX10_digest ∈ xtbl ∧ Cond.selects yX10_digest.cls yX10_digest yX10_digest ∈ xtbl := ⟨xt_in 1224 (by decide +kernel) rfl, xt_in 1225 (by decide +kernel) rfl⟩
abbrev mX10_divisor : XM := (yX10_divisor, cX10_divisor, 5, (some .int))
theorem f_mX10_divisor : XMf mX10_divisor 2 := ⟨xt_in 10 (by decide +kernel) rfl, xt_in 1174 (by decide +kernel) rfl, ⟨by decide +kernel, by decide +kernel, by decide +kernel⟩, by decide⟩
theorem s_mX10_divisor : Cond.static yX10_divisor ∈ xtbl := xt_in 1173 (by decide +kernel) rfl
abbrev mX10_draw : XM := (yX10_draw, cX10_draw, 2, (some .int))
theorem f_mX10_draw : XMf mX10_draw 1 := ⟨xt_in 10 (by decide +kernel) rfl, xt_in 1198 (by decide +kernel) rfl, ⟨by decide +kernel, by decide +kernel, by decide +kernel⟩, by decide⟩
theorem s_mX10_draw : Cond.instanceMethod yX10_draw ∈ xtbl ∧ Cond.selects yX10_draw.cls yX10_draw yX10_draw ∈ xtbl := ⟨xt_in 1197 (by decide +kernel) rfl, xt_sel 62 (by decide +kernel) rfl⟩
abbrev mX10_fault : XM := (yX10_fault, cX10_fault, 1, (some .int))
theorem f_mX10_fault : XMf mX10_fault 0 := ⟨xt_in 10 (by decide +kernel) rfl, xt_in 922 (by decide +kernel) rfl, ⟨by decide +kernel, by decide +kernel, by decide +kernel⟩, by decide⟩
theorem s_mX10_fault : Cond.instanceMethod yX10_fault ∈ xtbl ∧ Cond.selects yX10_fault.cls yX10_fault yX10_fault ∈ xtbl := ⟨xt_in 920 (by decide +kernel) rfl, xt_in 921 (by decide +kernel) rfl⟩
abbrev mX10_forget : XM := (yX10_forget, cX10_forget, 2, (some .int))
theorem f_mX10_forget : XMf mX10_forget 0 := ⟨xt_in 10 (by decide +kernel) rfl, xt_in 1186 (by decide +kernel) rfl, ⟨by decide +kernel, by decide +kernel, by decide +kernel⟩, by decide⟩
theorem s_mX10_forget : Cond.instanceMethod yX10_forget ∈ xtbl ∧ Cond.selects yX10_forget.cls yX10_forget yX10_forget ∈ xtbl := ⟨xt_in 1184 (by decide +kernel) rfl, xt_in 1185 (by decide +kernel) rfl⟩
abbrev mX10_goesRight : XM := (yX10_goesRight, cX10_goesRight, 4, (some .boolean))
theorem f_mX10_goesRight : XMf mX10_goesRight 2 := ⟨xt_in 10 (by decide +kernel) rfl, xt_in 1048 (by decide +kernel) rfl, ⟨by decide +kernel, by decide +kernel, by decide +kernel⟩, by decide⟩
theorem s_mX10_goesRight : Cond.instanceMethod yX10_goesRight ∈ xtbl ∧ Cond.selects yX10_goesRight.cls yX10_goesRight yX10_goesRight ∈ xtbl := ⟨xt_in 1047 (by decide +kernel) rfl, xt_sel 39 (by decide +kernel) rfl⟩
abbrev mX10_howMany : XM := (yX10_howMany, cX10_howMany, 4, (some .int))
theorem f_mX10_howMany : XMf mX10_howMany 1 := ⟨xt_in 10 (by decide +kernel) rfl, xt_in 1178 (by decide +kernel) rfl, ⟨by decide +kernel, by decide +kernel, by decide +kernel⟩, by decide⟩
theorem s_mX10_howMany : Cond.instanceMethod yX10_howMany ∈ xtbl ∧ Cond.selects yX10_howMany.cls yX10_howMany yX10_howMany ∈ xtbl := ⟨xt_in 1176 (by decide +kernel) rfl, xt_in 1177 (by decide +kernel) rfl⟩
abbrev mX10_howManyOf : XM := (yX10_howManyOf, cX10_howManyOf, 2, (some .int))
theorem f_mX10_howManyOf : XMf mX10_howManyOf 1 := ⟨xt_in 10 (by decide +kernel) rfl, xt_in 1218 (by decide +kernel) rfl, ⟨by decide +kernel, by decide +kernel, by decide +kernel⟩, by decide⟩
theorem s_mX10_howManyOf : Cond.instanceMethod yX10_howManyOf ∈ xtbl ∧ Cond.selects yX10_howManyOf.cls yX10_howManyOf yX10_howManyOf ∈ xtbl := ⟨xt_in 1217 (by decide +kernel) rfl, xt_sel 63 (by decide +kernel) rfl⟩
abbrev mX10_image : XM := (yX10_image, cX10_image, 2, (some .int))
theorem f_mX10_image : XMf mX10_image 0 := ⟨xt_in 10 (by decide +kernel) rfl, xt_in 1206 (by decide +kernel) rfl, ⟨by decide +kernel, by decide +kernel, by decide +kernel⟩, by decide⟩
theorem s_mX10_image : Cond.instanceMethod yX10_image ∈ xtbl ∧ Cond.selects yX10_image.cls yX10_image yX10_image ∈ xtbl := ⟨xt_in 1204 (by decide +kernel) rfl, xt_in 1205 (by decide +kernel) rfl⟩
abbrev mX10_init : XM := (yX10_init, cX10_init, 1, none)
theorem f_mX10_init : XMf mX10_init 0 := ⟨xt_in 10 (by decide +kernel) rfl, xt_in 730 (by decide +kernel) rfl, ⟨by decide +kernel, by decide +kernel, by decide +kernel⟩, by decide⟩
theorem s_mX10_init : Cond.instanceMethod yX10_init ∈ xtbl := xt_in 729 (by decide +kernel) rfl
abbrev mX10_isBest : XM := (yX10_isBest, cX10_isBest, 2, (some .boolean))
theorem f_mX10_isBest : XMf mX10_isBest 1 := ⟨xt_in 10 (by decide +kernel) rfl, xt_in 1116 (by decide +kernel) rfl, ⟨by decide +kernel, by decide +kernel, by decide +kernel⟩, by decide⟩
theorem s_mX10_isBest : Cond.instanceMethod yX10_isBest ∈ xtbl ∧ Cond.selects yX10_isBest.cls yX10_isBest yX10_isBest ∈ xtbl := ⟨xt_in 1115 (by decide +kernel) rfl, xt_sel 51 (by decide +kernel) rfl⟩
abbrev mX10_isContent : XM := (yX10_isContent, cX10_isContent, 3, (some .boolean))
theorem f_mX10_isContent : XMf mX10_isContent 2 := ⟨xt_in 10 (by decide +kernel) rfl, xt_in 1064 (by decide +kernel) rfl, ⟨by decide +kernel, by decide +kernel, by decide +kernel⟩, by decide⟩
theorem s_mX10_isContent : Cond.instanceMethod yX10_isContent ∈ xtbl ∧ Cond.selects yX10_isContent.cls yX10_isContent yX10_isContent ∈ xtbl := ⟨xt_in 1063 (by decide +kernel) rfl, xt_sel 40 (by decide +kernel) rfl⟩
abbrev mX10_isFigure : XM := (yX10_isFigure, cX10_isFigure, 3, (some .boolean))
theorem f_mX10_isFigure : XMf mX10_isFigure 2 := ⟨xt_in 10 (by decide +kernel) rfl, xt_in 945 (by decide +kernel) rfl, ⟨by decide +kernel, by decide +kernel, by decide +kernel⟩, by decide⟩
theorem s_mX10_isFigure : Cond.instanceMethod yX10_isFigure ∈ xtbl ∧ Cond.selects yX10_isFigure.cls yX10_isFigure yX10_isFigure ∈ xtbl := ⟨xt_in 944 (by decide +kernel) rfl, xt_sel 22 (by decide +kernel) rfl⟩
abbrev mX10_isFree : XM := (yX10_isFree, cX10_isFree, 2, (some .boolean))
theorem f_mX10_isFree : XMf mX10_isFree 1 := ⟨xt_in 10 (by decide +kernel) rfl, xt_in 1040 (by decide +kernel) rfl, ⟨by decide +kernel, by decide +kernel, by decide +kernel⟩, by decide⟩
theorem s_mX10_isFree : Cond.instanceMethod yX10_isFree ∈ xtbl ∧ Cond.selects yX10_isFree.cls yX10_isFree yX10_isFree ∈ xtbl := ⟨xt_in 1039 (by decide +kernel) rfl, xt_sel 37 (by decide +kernel) rfl⟩
abbrev mX10_isIn : XM := (yX10_isIn, cX10_isIn, 2, (some .boolean))
theorem f_mX10_isIn : XMf mX10_isIn 2 := ⟨xt_in 10 (by decide +kernel) rfl, xt_in 992 (by decide +kernel) rfl, ⟨by decide +kernel, by decide +kernel, by decide +kernel⟩, by decide⟩
theorem s_mX10_isIn : Cond.static yX10_isIn ∈ xtbl := xt_in 991 (by decide +kernel) rfl
abbrev mX10_isLasting : XM := (yX10_isLasting, cX10_isLasting, 4, (some .boolean))
theorem f_mX10_isLasting : XMf mX10_isLasting 0 := ⟨xt_in 10 (by decide +kernel) rfl, xt_in 1088 (by decide +kernel) rfl, ⟨by decide +kernel, by decide +kernel, by decide +kernel⟩, by decide⟩
theorem s_mX10_isLasting : Cond.instanceMethod yX10_isLasting ∈ xtbl ∧ Cond.selects yX10_isLasting.cls yX10_isLasting yX10_isLasting ∈ xtbl := ⟨xt_in 1087 (by decide +kernel) rfl, xt_sel 44 (by decide +kernel) rfl⟩
abbrev mX10_isMatch : XM := (yX10_isMatch, cX10_isMatch, 3, (some .boolean))
theorem f_mX10_isMatch : XMf mX10_isMatch 2 := ⟨xt_in 10 (by decide +kernel) rfl, xt_in 989 (by decide +kernel) rfl, ⟨by decide +kernel, by decide +kernel, by decide +kernel⟩, by decide⟩
theorem s_mX10_isMatch : Cond.instanceMethod yX10_isMatch ∈ xtbl ∧ Cond.selects yX10_isMatch.cls yX10_isMatch yX10_isMatch ∈ xtbl := ⟨xt_in 988 (by decide +kernel) rfl, xt_sel 31 (by decide +kernel) rfl⟩
abbrev mX10_isPerson : XM := (yX10_isPerson, cX10_isPerson, 2, (some .boolean))
theorem f_mX10_isPerson : XMf mX10_isPerson 1 := ⟨xt_in 10 (by decide +kernel) rfl, xt_in 957 (by decide +kernel) rfl, ⟨by decide +kernel, by decide +kernel, by decide +kernel⟩, by decide⟩
theorem s_mX10_isPerson : Cond.instanceMethod yX10_isPerson ∈ xtbl ∧ Cond.selects yX10_isPerson.cls yX10_isPerson yX10_isPerson ∈ xtbl := ⟨xt_in 956 (by decide +kernel) rfl, xt_sel 23 (by decide +kernel) rfl⟩
abbrev mX10_isRow : XM := (yX10_isRow, cX10_isRow, 4, (some .boolean))
theorem f_mX10_isRow : XMf mX10_isRow 0 := ⟨xt_in 10 (by decide +kernel) rfl, xt_in 1092 (by decide +kernel) rfl, ⟨by decide +kernel, by decide +kernel, by decide +kernel⟩, by decide⟩
theorem s_mX10_isRow : Cond.instanceMethod yX10_isRow ∈ xtbl ∧ Cond.selects yX10_isRow.cls yX10_isRow yX10_isRow ∈ xtbl := ⟨xt_in 1091 (by decide +kernel) rfl, xt_sel 45 (by decide +kernel) rfl⟩
abbrev mX10_kindBy : XM := (yX10_kindBy, cX10_kindBy, 1, (some .int))
theorem f_mX10_kindBy : XMf mX10_kindBy 1 := ⟨xt_in 10 (by decide +kernel) rfl, xt_in 941 (by decide +kernel) rfl, ⟨by decide +kernel, by decide +kernel, by decide +kernel⟩, by decide⟩
theorem s_mX10_kindBy : Cond.static yX10_kindBy ∈ xtbl := xt_in 940 (by decide +kernel) rfl
abbrev mX10_lasting : XM := (yX10_lasting, cX10_lasting, 2, (some .int))
theorem f_mX10_lasting : XMf mX10_lasting 1 := ⟨xt_in 10 (by decide +kernel) rfl, xt_in 1076 (by decide +kernel) rfl, ⟨by decide +kernel, by decide +kernel, by decide +kernel⟩, by decide⟩
theorem s_mX10_lasting : Cond.instanceMethod yX10_lasting ∈ xtbl ∧ Cond.selects yX10_lasting.cls yX10_lasting yX10_lasting ∈ xtbl := ⟨xt_in 1074 (by decide +kernel) rfl, xt_in 1075 (by decide +kernel) rfl⟩
abbrev mX10_lastingNow : XM := (yX10_lastingNow, cX10_lastingNow, 4, (some .int))
theorem f_mX10_lastingNow : XMf mX10_lastingNow 1 := ⟨xt_in 10 (by decide +kernel) rfl, xt_in 1080 (by decide +kernel) rfl, ⟨by decide +kernel, by decide +kernel, by decide +kernel⟩, by decide⟩
theorem s_mX10_lastingNow : Cond.instanceMethod yX10_lastingNow ∈ xtbl ∧ Cond.selects yX10_lastingNow.cls yX10_lastingNow yX10_lastingNow ∈ xtbl := ⟨xt_in 1079 (by decide +kernel) rfl, xt_sel 42 (by decide +kernel) rfl⟩
abbrev mX10_layLasting : XM := (yX10_layLasting, cX10_layLasting, 3, none)
theorem f_mX10_layLasting : XMf mX10_layLasting 0 := ⟨xt_in 10 (by decide +kernel) rfl, xt_in 1084 (by decide +kernel) rfl, ⟨by decide +kernel, by decide +kernel, by decide +kernel⟩, by decide⟩
theorem s_mX10_layLasting : Cond.instanceMethod yX10_layLasting ∈ xtbl ∧ Cond.selects yX10_layLasting.cls yX10_layLasting yX10_layLasting ∈ xtbl := ⟨xt_in 1083 (by decide +kernel) rfl, xt_sel 43 (by decide +kernel) rfl⟩
abbrev mX10_leaves : XM := (yX10_leaves, cX10_leaves, 3, none)
theorem f_mX10_leaves : XMf mX10_leaves 2 := ⟨xt_in 10 (by decide +kernel) rfl, xt_in 1068 (by decide +kernel) rfl, ⟨by decide +kernel, by decide +kernel, by decide +kernel⟩, by decide⟩
theorem s_mX10_leaves : Cond.instanceMethod yX10_leaves ∈ xtbl ∧ Cond.selects yX10_leaves.cls yX10_leaves yX10_leaves ∈ xtbl := ⟨xt_in 1067 (by decide +kernel) rfl, xt_sel 41 (by decide +kernel) rfl⟩
abbrev mX10_letter : XM := (yX10_letter, cX10_letter, 2, (some .int))
theorem f_mX10_letter : XMf mX10_letter 1 := ⟨xt_in 10 (by decide +kernel) rfl, xt_in 911 (by decide +kernel) rfl, ⟨by decide +kernel, by decide +kernel, by decide +kernel⟩, by decide⟩
theorem s_mX10_letter : Cond.instanceMethod yX10_letter ∈ xtbl ∧ Cond.selects yX10_letter.cls yX10_letter yX10_letter ∈ xtbl := ⟨xt_in 909 (by decide +kernel) rfl, xt_in 910 (by decide +kernel) rfl⟩
abbrev mX10_likeEachOther : XM := (yX10_likeEachOther, cX10_likeEachOther, 3, (some .boolean))
theorem f_mX10_likeEachOther : XMf mX10_likeEachOther 2 := ⟨xt_in 10 (by decide +kernel) rfl, xt_in 1100 (by decide +kernel) rfl, ⟨by decide +kernel, by decide +kernel, by decide +kernel⟩, by decide⟩
theorem s_mX10_likeEachOther : Cond.instanceMethod yX10_likeEachOther ∈ xtbl ∧ Cond.selects yX10_likeEachOther.cls yX10_likeEachOther yX10_likeEachOther ∈ xtbl := ⟨xt_in 1099 (by decide +kernel) rfl, xt_sel 47 (by decide +kernel) rfl⟩
abbrev mX10_likedBy : XM := (yX10_likedBy, cX10_likedBy, 4, (some .int))
theorem f_mX10_likedBy : XMf mX10_likedBy 1 := ⟨xt_in 10 (by decide +kernel) rfl, xt_in 969 (by decide +kernel) rfl, ⟨by decide +kernel, by decide +kernel, by decide +kernel⟩, by decide⟩
theorem s_mX10_likedBy : Cond.instanceMethod yX10_likedBy ∈ xtbl ∧ Cond.selects yX10_likedBy.cls yX10_likedBy yX10_likedBy ∈ xtbl := ⟨xt_in 968 (by decide +kernel) rfl, xt_sel 26 (by decide +kernel) rfl⟩
abbrev mX10_likely : XM := (yX10_likely, cX10_likely, 4, (some .int))
theorem f_mX10_likely : XMf mX10_likely 2 := ⟨xt_in 10 (by decide +kernel) rfl, xt_in 1171 (by decide +kernel) rfl, ⟨by decide +kernel, by decide +kernel, by decide +kernel⟩, by decide⟩
theorem s_mX10_likely : Cond.static yX10_likely ∈ xtbl := xt_in 1170 (by decide +kernel) rfl
abbrev mX10_likes : XM := (yX10_likes, cX10_likes, 3, (some .boolean))
theorem f_mX10_likes : XMf mX10_likes 2 := ⟨xt_in 10 (by decide +kernel) rfl, xt_in 973 (by decide +kernel) rfl, ⟨by decide +kernel, by decide +kernel, by decide +kernel⟩, by decide⟩
theorem s_mX10_likes : Cond.instanceMethod yX10_likes ∈ xtbl ∧ Cond.selects yX10_likes.cls yX10_likes yX10_likes ∈ xtbl := ⟨xt_in 972 (by decide +kernel) rfl, xt_sel 27 (by decide +kernel) rfl⟩
abbrev mX10_limit : XM := (yX10_limit, cX10_limit, 3, (some .int))
theorem f_mX10_limit : XMf mX10_limit 1 := ⟨xt_in 10 (by decide +kernel) rfl, xt_in 1024 (by decide +kernel) rfl, ⟨by decide +kernel, by decide +kernel, by decide +kernel⟩, by decide⟩
theorem s_mX10_limit : Cond.instanceMethod yX10_limit ∈ xtbl ∧ Cond.selects yX10_limit.cls yX10_limit yX10_limit ∈ xtbl := ⟨xt_in 1022 (by decide +kernel) rfl, xt_in 1023 (by decide +kernel) rfl⟩
abbrev mX10_load : XM := (yX10_load, cX10_load, 2, none)
theorem f_mX10_load : XMf mX10_load 0 := ⟨xt_in 10 (by decide +kernel) rfl, xt_in 1156 (by decide +kernel) rfl, ⟨by decide +kernel, by decide +kernel, by decide +kernel⟩, by decide⟩
theorem s_mX10_load : Cond.instanceMethod yX10_load ∈ xtbl ∧ Cond.selects yX10_load.cls yX10_load yX10_load ∈ xtbl := ⟨xt_in 1155 (by decide +kernel) rfl, xt_sel 59 (by decide +kernel) rfl⟩
abbrev mX10_matchedWith : XM := (yX10_matchedWith, cX10_matchedWith, 4, (some .int))
theorem f_mX10_matchedWith : XMf mX10_matchedWith 1 := ⟨xt_in 10 (by decide +kernel) rfl, xt_in 985 (by decide +kernel) rfl, ⟨by decide +kernel, by decide +kernel, by decide +kernel⟩, by decide⟩
theorem s_mX10_matchedWith : Cond.instanceMethod yX10_matchedWith ∈ xtbl ∧ Cond.selects yX10_matchedWith.cls yX10_matchedWith yX10_matchedWith ∈ xtbl := ⟨xt_in 984 (by decide +kernel) rfl, xt_sel 30 (by decide +kernel) rfl⟩
abbrev mX10_matches : XM := (yX10_matches, cX10_matches, 3, (some .int))
theorem f_mX10_matches : XMf mX10_matches 0 := ⟨xt_in 10 (by decide +kernel) rfl, xt_in 1152 (by decide +kernel) rfl, ⟨by decide +kernel, by decide +kernel, by decide +kernel⟩, by decide⟩
theorem s_mX10_matches : Cond.instanceMethod yX10_matches ∈ xtbl ∧ Cond.selects yX10_matches.cls yX10_matches yX10_matches ∈ xtbl := ⟨xt_in 1151 (by decide +kernel) rfl, xt_sel 58 (by decide +kernel) rfl⟩
abbrev mX10_mayBe : XM := (yX10_mayBe, cX10_mayBe, 3, (some .boolean))
theorem f_mX10_mayBe : XMf mX10_mayBe 2 := ⟨xt_in 10 (by decide +kernel) rfl, xt_in 1096 (by decide +kernel) rfl, ⟨by decide +kernel, by decide +kernel, by decide +kernel⟩, by decide⟩
theorem s_mX10_mayBe : Cond.instanceMethod yX10_mayBe ∈ xtbl ∧ Cond.selects yX10_mayBe.cls yX10_mayBe yX10_mayBe ∈ xtbl := ⟨xt_in 1095 (by decide +kernel) rfl, xt_sel 46 (by decide +kernel) rfl⟩
abbrev mX10_meet : XM := (yX10_meet, cX10_meet, 3, (some .int))
theorem f_mX10_meet : XMf mX10_meet 2 := ⟨xt_in 10 (by decide +kernel) rfl, xt_in 1060 (by decide +kernel) rfl, ⟨by decide +kernel, by decide +kernel, by decide +kernel⟩, by decide⟩
theorem s_mX10_meet : Cond.instanceMethod yX10_meet ∈ xtbl ∧ Cond.selects yX10_meet.cls yX10_meet yX10_meet ∈ xtbl := ⟨xt_in 1058 (by decide +kernel) rfl, xt_in 1059 (by decide +kernel) rfl⟩
abbrev mX10_mix : XM := (yX10_mix, cX10_mix, 3, none)
theorem f_mX10_mix : XMf mX10_mix 1 := ⟨xt_in 10 (by decide +kernel) rfl, xt_in 1231 (by decide +kernel) rfl, ⟨by decide +kernel, by decide +kernel, by decide +kernel⟩, by decide⟩
theorem s_mX10_mix : Cond.instanceMethod yX10_mix ∈ xtbl ∧ Cond.selects yX10_mix.cls yX10_mix yX10_mix ∈ xtbl := ⟨xt_in 1230 (by decide +kernel) rfl, xt_sel 65 (by decide +kernel) rfl⟩
abbrev mX10_mutual : XM := (yX10_mutual, cX10_mutual, 1, (some .int))
theorem f_mX10_mutual : XMf mX10_mutual 0 := ⟨xt_in 10 (by decide +kernel) rfl, xt_in 1124 (by decide +kernel) rfl, ⟨by decide +kernel, by decide +kernel, by decide +kernel⟩, by decide⟩
theorem s_mX10_mutual : Cond.instanceMethod yX10_mutual ∈ xtbl ∧ Cond.selects yX10_mutual.cls yX10_mutual yX10_mutual ∈ xtbl := ⟨xt_in 1122 (by decide +kernel) rfl, xt_in 1123 (by decide +kernel) rfl⟩
abbrev mX10_mutualNow : XM := (yX10_mutualNow, cX10_mutualNow, 4, (some .int))
theorem f_mX10_mutualNow : XMf mX10_mutualNow 0 := ⟨xt_in 10 (by decide +kernel) rfl, xt_in 1128 (by decide +kernel) rfl, ⟨by decide +kernel, by decide +kernel, by decide +kernel⟩, by decide⟩
theorem s_mX10_mutualNow : Cond.instanceMethod yX10_mutualNow ∈ xtbl ∧ Cond.selects yX10_mutualNow.cls yX10_mutualNow yX10_mutualNow ∈ xtbl := ⟨xt_in 1127 (by decide +kernel) rfl, xt_sel 53 (by decide +kernel) rfl⟩
abbrev mX10_nextFor : XM := (yX10_nextFor, cX10_nextFor, 7, (some .int))
theorem f_mX10_nextFor : XMf mX10_nextFor 2 := ⟨xt_in 10 (by decide +kernel) rfl, xt_in 1148 (by decide +kernel) rfl, ⟨by decide +kernel, by decide +kernel, by decide +kernel⟩, by decide⟩
theorem s_mX10_nextFor : Cond.instanceMethod yX10_nextFor ∈ xtbl ∧ Cond.selects yX10_nextFor.cls yX10_nextFor yX10_nextFor ∈ xtbl := ⟨xt_in 1147 (by decide +kernel) rfl, xt_sel 57 (by decide +kernel) rfl⟩
abbrev mX10_nextRow : XM := (yX10_nextRow, cX10_nextRow, 2, (some .boolean))
theorem f_mX10_nextRow : XMf mX10_nextRow 0 := ⟨xt_in 10 (by decide +kernel) rfl, xt_in 1120 (by decide +kernel) rfl, ⟨by decide +kernel, by decide +kernel, by decide +kernel⟩, by decide⟩
theorem s_mX10_nextRow : Cond.instanceMethod yX10_nextRow ∈ xtbl ∧ Cond.selects yX10_nextRow.cls yX10_nextRow yX10_nextRow ∈ xtbl := ⟨xt_in 1119 (by decide +kernel) rfl, xt_sel 52 (by decide +kernel) rfl⟩
abbrev mX10_paint : XM := (yX10_paint, cX10_paint, 4, (some .int))
theorem f_mX10_paint : XMf mX10_paint 2 := ⟨xt_in 10 (by decide +kernel) rfl, xt_in 1020 (by decide +kernel) rfl, ⟨by decide +kernel, by decide +kernel, by decide +kernel⟩, by decide⟩
theorem s_mX10_paint : Cond.instanceMethod yX10_paint ∈ xtbl ∧ Cond.selects yX10_paint.cls yX10_paint yX10_paint ∈ xtbl := ⟨xt_in 1018 (by decide +kernel) rfl, xt_in 1019 (by decide +kernel) rfl⟩
abbrev mX10_part : XM := (yX10_part, cX10_part, 3, (some .int))
theorem f_mX10_part : XMf mX10_part 1 := ⟨xt_in 10 (by decide +kernel) rfl, xt_in 1072 (by decide +kernel) rfl, ⟨by decide +kernel, by decide +kernel, by decide +kernel⟩, by decide⟩
theorem s_mX10_part : Cond.instanceMethod yX10_part ∈ xtbl ∧ Cond.selects yX10_part.cls yX10_part yX10_part ∈ xtbl := ⟨xt_in 1070 (by decide +kernel) rfl, xt_in 1071 (by decide +kernel) rfl⟩
abbrev mX10_peopleNow : XM := (yX10_peopleNow, cX10_peopleNow, 4, (some .int))
theorem f_mX10_peopleNow : XMf mX10_peopleNow 1 := ⟨xt_in 10 (by decide +kernel) rfl, xt_in 1222 (by decide +kernel) rfl, ⟨by decide +kernel, by decide +kernel, by decide +kernel⟩, by decide⟩
theorem s_mX10_peopleNow : Cond.instanceMethod yX10_peopleNow ∈ xtbl ∧ Cond.selects yX10_peopleNow.cls yX10_peopleNow yX10_peopleNow ∈ xtbl := ⟨xt_in 1221 (by decide +kernel) rfl, xt_sel 64 (by decide +kernel) rfl⟩
abbrev mX10_person : XM := (yX10_person, cX10_person, 3, (some .int))
theorem f_mX10_person : XMf mX10_person 2 := ⟨xt_in 10 (by decide +kernel) rfl, xt_in 953 (by decide +kernel) rfl, ⟨by decide +kernel, by decide +kernel, by decide +kernel⟩, by decide⟩
theorem s_mX10_person : Cond.instanceMethod yX10_person ∈ xtbl ∧ Cond.selects yX10_person.cls yX10_person yX10_person ∈ xtbl := ⟨xt_in 951 (by decide +kernel) rfl, xt_in 952 (by decide +kernel) rfl⟩
abbrev mX10_personNow : XM := (yX10_personNow, cX10_personNow, 3, (some .int))
theorem f_mX10_personNow : XMf mX10_personNow 2 := ⟨xt_in 10 (by decide +kernel) rfl, xt_in 961 (by decide +kernel) rfl, ⟨by decide +kernel, by decide +kernel, by decide +kernel⟩, by decide⟩
theorem s_mX10_personNow : Cond.instanceMethod yX10_personNow ∈ xtbl ∧ Cond.selects yX10_personNow.cls yX10_personNow yX10_personNow ∈ xtbl := ⟨xt_in 960 (by decide +kernel) rfl, xt_sel 24 (by decide +kernel) rfl⟩
abbrev mX10_picture : XM := (yX10_picture, cX10_picture, 2, (some .int))
theorem f_mX10_picture : XMf mX10_picture 1 := ⟨xt_in 10 (by decide +kernel) rfl, xt_in 981 (by decide +kernel) rfl, ⟨by decide +kernel, by decide +kernel, by decide +kernel⟩, by decide⟩
theorem s_mX10_picture : Cond.instanceMethod yX10_picture ∈ xtbl ∧ Cond.selects yX10_picture.cls yX10_picture yX10_picture ∈ xtbl := ⟨xt_in 980 (by decide +kernel) rfl, xt_sel 29 (by decide +kernel) rfl⟩
abbrev mX10_prefers : XM := (yX10_prefers, cX10_prefers, 3, (some .boolean))
theorem f_mX10_prefers : XMf mX10_prefers 2 := ⟨xt_in 10 (by decide +kernel) rfl, xt_in 1112 (by decide +kernel) rfl, ⟨by decide +kernel, by decide +kernel, by decide +kernel⟩, by decide⟩
theorem s_mX10_prefers : Cond.instanceMethod yX10_prefers ∈ xtbl ∧ Cond.selects yX10_prefers.cls yX10_prefers yX10_prefers ∈ xtbl := ⟨xt_in 1111 (by decide +kernel) rfl, xt_sel 50 (by decide +kernel) rfl⟩
abbrev mX10_read : XM := (yX10_read, cX10_read, 3, (some .int))
theorem f_mX10_read : XMf mX10_read 0 := ⟨xt_in 10 (by decide +kernel) rfl, xt_in 926 (by decide +kernel) rfl, ⟨by decide +kernel, by decide +kernel, by decide +kernel⟩, by decide⟩
theorem s_mX10_read : Cond.instanceMethod yX10_read ∈ xtbl ∧ Cond.selects yX10_read.cls yX10_read yX10_read ∈ xtbl := ⟨xt_in 925 (by decide +kernel) rfl, xt_sel 18 (by decide +kernel) rfl⟩
abbrev mX10_readOne : XM := (yX10_readOne, cX10_readOne, 2, (some .int))
theorem f_mX10_readOne : XMf mX10_readOne 1 := ⟨xt_in 10 (by decide +kernel) rfl, xt_in 934 (by decide +kernel) rfl, ⟨by decide +kernel, by decide +kernel, by decide +kernel⟩, by decide⟩
theorem s_mX10_readOne : Cond.instanceMethod yX10_readOne ∈ xtbl ∧ Cond.selects yX10_readOne.cls yX10_readOne yX10_readOne ∈ xtbl := ⟨xt_in 933 (by decide +kernel) rfl, xt_sel 20 (by decide +kernel) rfl⟩
abbrev mX10_readSide : XM := (yX10_readSide, cX10_readSide, 4, (some .int))
theorem f_mX10_readSide : XMf mX10_readSide 1 := ⟨xt_in 10 (by decide +kernel) rfl, xt_in 930 (by decide +kernel) rfl, ⟨by decide +kernel, by decide +kernel, by decide +kernel⟩, by decide⟩
theorem s_mX10_readSide : Cond.instanceMethod yX10_readSide ∈ xtbl ∧ Cond.selects yX10_readSide.cls yX10_readSide yX10_readSide ∈ xtbl := ⟨xt_in 929 (by decide +kernel) rfl, xt_sel 19 (by decide +kernel) rfl⟩
abbrev mX10_restore : XM := (yX10_restore, cX10_restore, 2, (some .int))
theorem f_mX10_restore : XMf mX10_restore 0 := ⟨xt_in 10 (by decide +kernel) rfl, xt_in 1210 (by decide +kernel) rfl, ⟨by decide +kernel, by decide +kernel, by decide +kernel⟩, by decide⟩
theorem s_mX10_restore : Cond.instanceMethod yX10_restore ∈ xtbl ∧ Cond.selects yX10_restore.cls yX10_restore yX10_restore ∈ xtbl := ⟨xt_in 1208 (by decide +kernel) rfl, xt_in 1209 (by decide +kernel) rfl⟩
abbrev mX10_save : XM := (yX10_save, cX10_save, 2, none)
theorem f_mX10_save : XMf mX10_save 0 := ⟨xt_in 10 (by decide +kernel) rfl, xt_in 1140 (by decide +kernel) rfl, ⟨by decide +kernel, by decide +kernel, by decide +kernel⟩, by decide⟩
theorem s_mX10_save : Cond.instanceMethod yX10_save ∈ xtbl ∧ Cond.selects yX10_save.cls yX10_save yX10_save ∈ xtbl := ⟨xt_in 1139 (by decide +kernel) rfl, xt_sel 55 (by decide +kernel) rfl⟩
abbrev mX10_sea : XM := (yX10_sea, cX10_sea, 2, (some .int))
theorem f_mX10_sea : XMf mX10_sea 0 := ⟨xt_in 10 (by decide +kernel) rfl, xt_in 949 (by decide +kernel) rfl, ⟨by decide +kernel, by decide +kernel, by decide +kernel⟩, by decide⟩
theorem s_mX10_sea : Cond.instanceMethod yX10_sea ∈ xtbl ∧ Cond.selects yX10_sea.cls yX10_sea yX10_sea ∈ xtbl := ⟨xt_in 947 (by decide +kernel) rfl, xt_in 948 (by decide +kernel) rfl⟩
abbrev mX10_seasons : XM := (yX10_seasons, cX10_seasons, 4, (some .int))
theorem f_mX10_seasons : XMf mX10_seasons 3 := ⟨xt_in 10 (by decide +kernel) rfl, xt_in 1190 (by decide +kernel) rfl, ⟨by decide +kernel, by decide +kernel, by decide +kernel⟩, by decide⟩
theorem s_mX10_seasons : Cond.instanceMethod yX10_seasons ∈ xtbl ∧ Cond.selects yX10_seasons.cls yX10_seasons yX10_seasons ∈ xtbl := ⟨xt_in 1188 (by decide +kernel) rfl, xt_in 1189 (by decide +kernel) rfl⟩
abbrev mX10_seasonsNow : XM := (yX10_seasonsNow, cX10_seasonsNow, 10, (some .int))
theorem f_mX10_seasonsNow : XMf mX10_seasonsNow 3 := ⟨xt_in 10 (by decide +kernel) rfl, xt_in 1194 (by decide +kernel) rfl, ⟨by decide +kernel, by decide +kernel, by decide +kernel⟩, by decide⟩
theorem s_mX10_seasonsNow : Cond.instanceMethod yX10_seasonsNow ∈ xtbl ∧ Cond.selects yX10_seasonsNow.cls yX10_seasonsNow yX10_seasonsNow ∈ xtbl := ⟨xt_in 1193 (by decide +kernel) rfl, xt_sel 61 (by decide +kernel) rfl⟩
abbrev mX10_see : XM := (yX10_see, cX10_see, 4, (some .int))
theorem f_mX10_see : XMf mX10_see 3 := ⟨xt_in 10 (by decide +kernel) rfl, xt_in 1182 (by decide +kernel) rfl, ⟨by decide +kernel, by decide +kernel, by decide +kernel⟩, by decide⟩
theorem s_mX10_see : Cond.instanceMethod yX10_see ∈ xtbl ∧ Cond.selects yX10_see.cls yX10_see yX10_see ∈ xtbl := ⟨xt_in 1180 (by decide +kernel) rfl, xt_in 1181 (by decide +kernel) rfl⟩
abbrev mX10_show : XM := (yX10_show, cX10_show, 4, (some .int))
theorem f_mX10_show : XMf mX10_show 2 := ⟨xt_in 10 (by decide +kernel) rfl, xt_in 1028 (by decide +kernel) rfl, ⟨by decide +kernel, by decide +kernel, by decide +kernel⟩, by decide⟩
theorem s_mX10_show : Cond.instanceMethod yX10_show ∈ xtbl ∧ Cond.selects yX10_show.cls yX10_show yX10_show ∈ xtbl := ⟨xt_in 1026 (by decide +kernel) rfl, xt_in 1027 (by decide +kernel) rfl⟩
abbrev mX10_showThree : XM := (yX10_showThree, cX10_showThree, 5, none)
theorem f_mX10_showThree : XMf mX10_showThree 2 := ⟨xt_in 10 (by decide +kernel) rfl, xt_in 1144 (by decide +kernel) rfl, ⟨by decide +kernel, by decide +kernel, by decide +kernel⟩, by decide⟩
theorem s_mX10_showThree : Cond.instanceMethod yX10_showThree ∈ xtbl ∧ Cond.selects yX10_showThree.cls yX10_showThree yX10_showThree ∈ xtbl := ⟨xt_in 1143 (by decide +kernel) rfl, xt_sel 56 (by decide +kernel) rfl⟩
abbrev mX10_shown : XM := (yX10_shown, cX10_shown, 3, (some .boolean))
theorem f_mX10_shown : XMf mX10_shown 2 := ⟨xt_in 10 (by decide +kernel) rfl, xt_in 1044 (by decide +kernel) rfl, ⟨by decide +kernel, by decide +kernel, by decide +kernel⟩, by decide⟩
theorem s_mX10_shown : Cond.instanceMethod yX10_shown ∈ xtbl ∧ Cond.selects yX10_shown.cls yX10_shown yX10_shown ∈ xtbl := ⟨xt_in 1043 (by decide +kernel) rfl, xt_sel 38 (by decide +kernel) rfl⟩
abbrev mX10_sideOf : XM := (yX10_sideOf, cX10_sideOf, 2, (some .int))
theorem f_mX10_sideOf : XMf mX10_sideOf 1 := ⟨xt_in 10 (by decide +kernel) rfl, xt_in 965 (by decide +kernel) rfl, ⟨by decide +kernel, by decide +kernel, by decide +kernel⟩, by decide⟩
theorem s_mX10_sideOf : Cond.instanceMethod yX10_sideOf ∈ xtbl ∧ Cond.selects yX10_sideOf.cls yX10_sideOf yX10_sideOf ∈ xtbl := ⟨xt_in 964 (by decide +kernel) rfl, xt_sel 25 (by decide +kernel) rfl⟩
abbrev mX10_size : XM := (yX10_size, cX10_size, 3, (some .int))
theorem f_mX10_size : XMf mX10_size 1 := ⟨xt_in 10 (by decide +kernel) rfl, xt_in 1008 (by decide +kernel) rfl, ⟨by decide +kernel, by decide +kernel, by decide +kernel⟩, by decide⟩
theorem s_mX10_size : Cond.static yX10_size ∈ xtbl := xt_in 1007 (by decide +kernel) rfl
abbrev mX10_waiting : XM := (yX10_waiting, cX10_waiting, 7, (some .int))
theorem f_mX10_waiting : XMf mX10_waiting 3 := ⟨xt_in 10 (by decide +kernel) rfl, xt_in 1168 (by decide +kernel) rfl, ⟨by decide +kernel, by decide +kernel, by decide +kernel⟩, by decide⟩
theorem s_mX10_waiting : Cond.instanceMethod yX10_waiting ∈ xtbl ∧ Cond.selects yX10_waiting.cls yX10_waiting yX10_waiting ∈ xtbl := ⟨xt_in 1166 (by decide +kernel) rfl, xt_in 1167 (by decide +kernel) rfl⟩
abbrev mX10_wasShown : XM := (yX10_wasShown, cX10_wasShown, 3, (some .boolean))
theorem f_mX10_wasShown : XMf mX10_wasShown 2 := ⟨xt_in 10 (by decide +kernel) rfl, xt_in 1036 (by decide +kernel) rfl, ⟨by decide +kernel, by decide +kernel, by decide +kernel⟩, by decide⟩
theorem s_mX10_wasShown : Cond.instanceMethod yX10_wasShown ∈ xtbl ∧ Cond.selects yX10_wasShown.cls yX10_wasShown yX10_wasShown ∈ xtbl := ⟨xt_in 1035 (by decide +kernel) rfl, xt_sel 36 (by decide +kernel) rfl⟩
abbrev mX10_whoHas : XM := (yX10_whoHas, cX10_whoHas, 4, (some .int))
theorem f_mX10_whoHas : XMf mX10_whoHas 1 := ⟨xt_in 10 (by decide +kernel) rfl, xt_in 1108 (by decide +kernel) rfl, ⟨by decide +kernel, by decide +kernel, by decide +kernel⟩, by decide⟩
theorem s_mX10_whoHas : Cond.instanceMethod yX10_whoHas ∈ xtbl ∧ Cond.selects yX10_whoHas.cls yX10_whoHas yX10_whoHas ∈ xtbl := ⟨xt_in 1107 (by decide +kernel) rfl, xt_sel 49 (by decide +kernel) rfl⟩
abbrev mX10_within : XM := (yX10_within, cX10_within, 3, (some .boolean))
theorem f_mX10_within : XMf mX10_within 3 := ⟨xt_in 10 (by decide +kernel) rfl, xt_in 914 (by decide +kernel) rfl, ⟨by decide +kernel, by decide +kernel, by decide +kernel⟩, by decide⟩
theorem s_mX10_within : Cond.static yX10_within ∈ xtbl := xt_in 913 (by decide +kernel) rfl
abbrev mX10_wouldLeave : XM := (yX10_wouldLeave, cX10_wouldLeave, 5, (some .boolean))
theorem f_mX10_wouldLeave : XMf mX10_wouldLeave 2 := ⟨xt_in 10 (by decide +kernel) rfl, xt_in 1104 (by decide +kernel) rfl, ⟨by decide +kernel, by decide +kernel, by decide +kernel⟩, by decide⟩
theorem s_mX10_wouldLeave : Cond.instanceMethod yX10_wouldLeave ∈ xtbl ∧ Cond.selects yX10_wouldLeave.cls yX10_wouldLeave yX10_wouldLeave ∈ xtbl := ⟨xt_in 1103 (by decide +kernel) rfl, xt_sel 48 (by decide +kernel) rfl⟩
abbrev mX10_wouldLike : XM := (yX10_wouldLike, cX10_wouldLike, 4, (some .boolean))
theorem f_mX10_wouldLike : XMf mX10_wouldLike 3 := ⟨xt_in 10 (by decide +kernel) rfl, xt_in 1000 (by decide +kernel) rfl, ⟨by decide +kernel, by decide +kernel, by decide +kernel⟩, by decide⟩
theorem s_mX10_wouldLike : Cond.instanceMethod yX10_wouldLike ∈ xtbl ∧ Cond.selects yX10_wouldLike.cls yX10_wouldLike yX10_wouldLike ∈ xtbl := ⟨xt_in 999 (by decide +kernel) rfl, xt_sel 33 (by decide +kernel) rfl⟩
abbrev mX1_next : XM := (yX1_next, cX1_next, 2, (some .long))
theorem f_mX1_next : XMf mX1_next 1 := ⟨xt_in 14 (by decide +kernel) rfl, xt_in 671 (by decide +kernel) rfl, ⟨by decide +kernel, by decide +kernel, by decide +kernel⟩, by decide⟩
theorem s_mX1_next : Cond.static yX1_next ∈ xtbl := xt_in 670 (by decide +kernel) rfl
abbrev mX1_pick : XM := (yX1_pick, cX1_pick, 3, (some .int))
theorem f_mX1_pick : XMf mX1_pick 2 := ⟨xt_in 14 (by decide +kernel) rfl, xt_in 677 (by decide +kernel) rfl, ⟨by decide +kernel, by decide +kernel, by decide +kernel⟩, by decide⟩
theorem s_mX1_pick : Cond.static yX1_pick ∈ xtbl := xt_in 676 (by decide +kernel) rfl
abbrev mX2_isA : XM := (yX2_isA, cX2_isA, 2, (some .boolean))
theorem f_mX2_isA : XMf mX2_isA 1 := ⟨xt_in 7 (by decide +kernel) rfl, xt_in 411 (by decide +kernel) rfl, ⟨by decide +kernel, by decide +kernel, by decide +kernel⟩, by decide⟩
theorem s_mX2_isA : Cond.instanceMethod yX2_isA ∈ xtbl ∧ Cond.selects yX2_isA.cls yX2_isA yX2_isA ∈ xtbl := ⟨xt_in 409 (by decide +kernel) rfl, xt_in 410 (by decide +kernel) rfl⟩
abbrev mX2_isLetter : XM := (yX2_isLetter, cX2_isLetter, 2, (some .boolean))
theorem f_mX2_isLetter : XMf mX2_isLetter 1 := ⟨xt_in 7 (by decide +kernel) rfl, xt_in 270 (by decide +kernel) rfl, ⟨by decide +kernel, by decide +kernel, by decide +kernel⟩, by decide⟩
theorem s_mX2_isLetter : Cond.static yX2_isLetter ∈ xtbl := xt_in 269 (by decide +kernel) rfl
abbrev mX2_isNumber : XM := (yX2_isNumber, cX2_isNumber, 1, (some .boolean))
theorem f_mX2_isNumber : XMf mX2_isNumber 1 := ⟨xt_in 7 (by decide +kernel) rfl, xt_in 407 (by decide +kernel) rfl, ⟨by decide +kernel, by decide +kernel, by decide +kernel⟩, by decide⟩
theorem s_mX2_isNumber : Cond.static yX2_isNumber ∈ xtbl := xt_in 406 (by decide +kernel) rfl
abbrev mX2_ofLetter : XM := (yX2_ofLetter, cX2_ofLetter, 2, (some (.object "ThumbSea$Kind")))
theorem f_mX2_ofLetter : XMf mX2_ofLetter 1 := ⟨xt_in 7 (by decide +kernel) rfl, xt_in 302 (by decide +kernel) rfl, ⟨by decide +kernel, by decide +kernel, by decide +kernel⟩, by decide⟩
theorem s_mX2_ofLetter : Cond.static yX2_ofLetter ∈ xtbl := xt_in 301 (by decide +kernel) rfl
abbrev mX3_canTell : XM := (yX3_canTell, cX3_canTell, 1, (some .boolean))
theorem f_mX3_canTell : XMf mX3_canTell 1 := ⟨xt_in 9 (by decide +kernel) rfl, xt_in 523 (by decide +kernel) rfl, ⟨by decide +kernel, by decide +kernel, by decide +kernel⟩, by decide⟩
theorem s_mX3_canTell : Cond.static yX3_canTell ∈ xtbl := xt_in 522 (by decide +kernel) rfl
abbrev mX3_init : XM := (yX3_init, cX3_init, 1, none)
theorem f_mX3_init : XMf mX3_init 0 := ⟨xt_in 9 (by decide +kernel) rfl, xt_in 195 (by decide +kernel) rfl, ⟨by decide +kernel, by decide +kernel, by decide +kernel⟩, by decide⟩
theorem s_mX3_init : Cond.instanceMethod yX3_init ∈ xtbl := xt_in 194 (by decide +kernel) rfl
abbrev mX3_isMutual : XM := (yX3_isMutual, cX3_isMutual, 3, (some .boolean))
theorem f_mX3_isMutual : XMf mX3_isMutual 2 := ⟨xt_in 9 (by decide +kernel) rfl, xt_in 549 (by decide +kernel) rfl, ⟨by decide +kernel, by decide +kernel, by decide +kernel⟩, by decide⟩
theorem s_mX3_isMutual : Cond.instanceMethod yX3_isMutual ∈ xtbl ∧ Cond.selects yX3_isMutual.cls yX3_isMutual yX3_isMutual ∈ xtbl := ⟨xt_in 548 (by decide +kernel) rfl, xt_sel 9 (by decide +kernel) rfl⟩
abbrev mX3_keepRow : XM := (yX3_keepRow, cX3_keepRow, 3, none)
theorem f_mX3_keepRow : XMf mX3_keepRow 1 := ⟨xt_in 9 (by decide +kernel) rfl, xt_in 557 (by decide +kernel) rfl, ⟨by decide +kernel, by decide +kernel, by decide +kernel⟩, by decide⟩
theorem s_mX3_keepRow : Cond.instanceMethod yX3_keepRow ∈ xtbl ∧ Cond.selects yX3_keepRow.cls yX3_keepRow yX3_keepRow ∈ xtbl := ⟨xt_in 556 (by decide +kernel) rfl, xt_sel 11 (by decide +kernel) rfl⟩
abbrev mX3_lasts : XM := (yX3_lasts, cX3_lasts, 5, (some .boolean))
theorem f_mX3_lasts : XMf mX3_lasts 2 := ⟨xt_in 9 (by decide +kernel) rfl, xt_in 545 (by decide +kernel) rfl, ⟨by decide +kernel, by decide +kernel, by decide +kernel⟩, by decide⟩
theorem s_mX3_lasts : Cond.instanceMethod yX3_lasts ∈ xtbl ∧ Cond.selects yX3_lasts.cls yX3_lasts yX3_lasts ∈ xtbl := ⟨xt_in 544 (by decide +kernel) rfl, xt_sel 8 (by decide +kernel) rfl⟩
abbrev mX3_tell : XM := (yX3_tell, cX3_tell, 3, (some .int))
theorem f_mX3_tell : XMf mX3_tell 1 := ⟨xt_in 9 (by decide +kernel) rfl, xt_in 561 (by decide +kernel) rfl, ⟨by decide +kernel, by decide +kernel, by decide +kernel⟩, by decide⟩
theorem s_mX3_tell : Cond.instanceMethod yX3_tell ∈ xtbl ∧ Cond.selects yX3_tell.cls yX3_tell yX3_tell ∈ xtbl := ⟨xt_in 559 (by decide +kernel) rfl, xt_in 560 (by decide +kernel) rfl⟩
abbrev mX3_toldCouples : XM := (yX3_toldCouples, cX3_toldCouples, 3, (some .int))
theorem f_mX3_toldCouples : XMf mX3_toldCouples 0 := ⟨xt_in 9 (by decide +kernel) rfl, xt_in 565 (by decide +kernel) rfl, ⟨by decide +kernel, by decide +kernel, by decide +kernel⟩, by decide⟩
theorem s_mX3_toldCouples : Cond.instanceMethod yX3_toldCouples ∈ xtbl ∧ Cond.selects yX3_toldCouples.cls yX3_toldCouples yX3_toldCouples ∈ xtbl := ⟨xt_in 564 (by decide +kernel) rfl, xt_sel 12 (by decide +kernel) rfl⟩
abbrev mX3_tryFrom : XM := (yX3_tryFrom, cX3_tryFrom, 6, none)
theorem f_mX3_tryFrom : XMf mX3_tryFrom 3 := ⟨xt_in 9 (by decide +kernel) rfl, xt_in 541 (by decide +kernel) rfl, ⟨by decide +kernel, by decide +kernel, by decide +kernel⟩, by decide⟩
theorem s_mX3_tryFrom : Cond.instanceMethod yX3_tryFrom ∈ xtbl ∧ Cond.selects yX3_tryFrom.cls yX3_tryFrom yX3_tryFrom ∈ xtbl := ⟨xt_in 540 (by decide +kernel) rfl, xt_sel 7 (by decide +kernel) rfl⟩
abbrev mX3_wants : XM := (yX3_wants, cX3_wants, 3, (some .boolean))
theorem f_mX3_wants : XMf mX3_wants 2 := ⟨xt_in 9 (by decide +kernel) rfl, xt_in 553 (by decide +kernel) rfl, ⟨by decide +kernel, by decide +kernel, by decide +kernel⟩, by decide⟩
theorem s_mX3_wants : Cond.instanceMethod yX3_wants ∈ xtbl ∧ Cond.selects yX3_wants.cls yX3_wants yX3_wants ∈ xtbl := ⟨xt_in 552 (by decide +kernel) rfl, xt_sel 10 (by decide +kernel) rfl⟩
abbrev mX3_workOut : XM := (yX3_workOut, cX3_workOut, 3, none)
theorem f_mX3_workOut : XMf mX3_workOut 1 := ⟨xt_in 9 (by decide +kernel) rfl, xt_in 528 (by decide +kernel) rfl, ⟨by decide +kernel, by decide +kernel, by decide +kernel⟩, by decide⟩
theorem s_mX3_workOut : Cond.instanceMethod yX3_workOut ∈ xtbl ∧ Cond.selects yX3_workOut.cls yX3_workOut yX3_workOut ∈ xtbl := ⟨xt_in 526 (by decide +kernel) rfl, xt_in 527 (by decide +kernel) rfl⟩
abbrev mX4_add : XM := (yX4_add, cX4_add, 2, (some .boolean))
theorem f_mX4_add : XMf mX4_add 1 := ⟨xt_in 2 (by decide +kernel) rfl, xt_in 248 (by decide +kernel) rfl, ⟨by decide +kernel, by decide +kernel, by decide +kernel⟩, by decide⟩
theorem s_mX4_add : Cond.instanceMethod yX4_add ∈ xtbl ∧ Cond.selects yX4_add.cls yX4_add yX4_add ∈ xtbl := ⟨xt_in 246 (by decide +kernel) rfl, xt_in 247 (by decide +kernel) rfl⟩
abbrev mX4_clear : XM := (yX4_clear, cX4_clear, 1, none)
theorem f_mX4_clear : XMf mX4_clear 0 := ⟨xt_in 2 (by decide +kernel) rfl, xt_in 256 (by decide +kernel) rfl, ⟨by decide +kernel, by decide +kernel, by decide +kernel⟩, by decide⟩
theorem s_mX4_clear : Cond.instanceMethod yX4_clear ∈ xtbl ∧ Cond.selects yX4_clear.cls yX4_clear yX4_clear ∈ xtbl := ⟨xt_in 254 (by decide +kernel) rfl, xt_in 255 (by decide +kernel) rfl⟩
abbrev mX4_digitAt : XM := (yX4_digitAt, cX4_digitAt, 2, (some .int))
theorem f_mX4_digitAt : XMf mX4_digitAt 1 := ⟨xt_in 2 (by decide +kernel) rfl, xt_in 307 (by decide +kernel) rfl, ⟨by decide +kernel, by decide +kernel, by decide +kernel⟩, by decide⟩
theorem s_mX4_digitAt : Cond.instanceMethod yX4_digitAt ∈ xtbl ∧ Cond.selects yX4_digitAt.cls yX4_digitAt yX4_digitAt ∈ xtbl := ⟨xt_in 305 (by decide +kernel) rfl, xt_in 306 (by decide +kernel) rfl⟩
abbrev mX4_endsSideAt : XM := (yX4_endsSideAt, cX4_endsSideAt, 2, (some .boolean))
theorem f_mX4_endsSideAt : XMf mX4_endsSideAt 1 := ⟨xt_in 2 (by decide +kernel) rfl, xt_in 277 (by decide +kernel) rfl, ⟨by decide +kernel, by decide +kernel, by decide +kernel⟩, by decide⟩
theorem s_mX4_endsSideAt : Cond.instanceMethod yX4_endsSideAt ∈ xtbl ∧ Cond.selects yX4_endsSideAt.cls yX4_endsSideAt yX4_endsSideAt ∈ xtbl := ⟨xt_in 275 (by decide +kernel) rfl, xt_in 276 (by decide +kernel) rfl⟩
abbrev mX4_firstFault : XM := (yX4_firstFault, cX4_firstFault, 5, (some .int))
theorem f_mX4_firstFault : XMf mX4_firstFault 0 := ⟨xt_in 2 (by decide +kernel) rfl, xt_in 264 (by decide +kernel) rfl, ⟨by decide +kernel, by decide +kernel, by decide +kernel⟩, by decide⟩
theorem s_mX4_firstFault : Cond.instanceMethod yX4_firstFault ∈ xtbl ∧ Cond.selects yX4_firstFault.cls yX4_firstFault yX4_firstFault ∈ xtbl := ⟨xt_in 262 (by decide +kernel) rfl, xt_in 263 (by decide +kernel) rfl⟩
abbrev mX4_fitsPerson : XM := (yX4_fitsPerson, cX4_fitsPerson, 3, (some .boolean))
theorem f_mX4_fitsPerson : XMf mX4_fitsPerson 2 := ⟨xt_in 2 (by decide +kernel) rfl, xt_in 267 (by decide +kernel) rfl, ⟨by decide +kernel, by decide +kernel, by decide +kernel⟩, by decide⟩
theorem s_mX4_fitsPerson : Cond.static yX4_fitsPerson ∈ xtbl := xt_in 266 (by decide +kernel) rfl
abbrev mX4_hasTwoSides : XM := (yX4_hasTwoSides, cX4_hasTwoSides, 2, (some .boolean))
theorem f_mX4_hasTwoSides : XMf mX4_hasTwoSides 0 := ⟨xt_in 2 (by decide +kernel) rfl, xt_in 294 (by decide +kernel) rfl, ⟨by decide +kernel, by decide +kernel, by decide +kernel⟩, by decide⟩
theorem s_mX4_hasTwoSides : Cond.instanceMethod yX4_hasTwoSides ∈ xtbl ∧ Cond.selects yX4_hasTwoSides.cls yX4_hasTwoSides yX4_hasTwoSides ∈ xtbl := ⟨xt_in 293 (by decide +kernel) rfl, xt_sel 0 (by decide +kernel) rfl⟩
abbrev mX4_init : XM := (yX4_init, cX4_init, 1, none)
theorem f_mX4_init : XMf mX4_init 0 := ⟨xt_in 2 (by decide +kernel) rfl, xt_in 27 (by decide +kernel) rfl, ⟨by decide +kernel, by decide +kernel, by decide +kernel⟩, by decide⟩
theorem s_mX4_init : Cond.instanceMethod yX4_init ∈ xtbl := xt_in 26 (by decide +kernel) rfl
abbrev mX4_isSea : XM := (yX4_isSea, cX4_isSea, 1, (some .boolean))
theorem f_mX4_isSea : XMf mX4_isSea 0 := ⟨xt_in 2 (by decide +kernel) rfl, xt_in 289 (by decide +kernel) rfl, ⟨by decide +kernel, by decide +kernel, by decide +kernel⟩, by decide⟩
theorem s_mX4_isSea : Cond.instanceMethod yX4_isSea ∈ xtbl ∧ Cond.selects yX4_isSea.cls yX4_isSea yX4_isSea ∈ xtbl := ⟨xt_in 287 (by decide +kernel) rfl, xt_in 288 (by decide +kernel) rfl⟩
abbrev mX4_letterAt : XM := (yX4_letterAt, cX4_letterAt, 2, (some .int))
theorem f_mX4_letterAt : XMf mX4_letterAt 1 := ⟨xt_in 2 (by decide +kernel) rfl, xt_in 281 (by decide +kernel) rfl, ⟨by decide +kernel, by decide +kernel, by decide +kernel⟩, by decide⟩
theorem s_mX4_letterAt : Cond.instanceMethod yX4_letterAt ∈ xtbl ∧ Cond.selects yX4_letterAt.cls yX4_letterAt yX4_letterAt ∈ xtbl := ⟨xt_in 279 (by decide +kernel) rfl, xt_in 280 (by decide +kernel) rfl⟩
abbrev mX5_canBeShown : XM := (yX5_canBeShown, cX5_canBeShown, 2, (some .boolean))
theorem f_mX5_canBeShown : XMf mX5_canBeShown 1 := ⟨xt_in 5 (by decide +kernel) rfl, xt_in 441 (by decide +kernel) rfl, ⟨by decide +kernel, by decide +kernel, by decide +kernel⟩, by decide⟩
theorem s_mX5_canBeShown : Cond.instanceMethod yX5_canBeShown ∈ xtbl ∧ Cond.selects yX5_canBeShown.cls yX5_canBeShown yX5_canBeShown ∈ xtbl := ⟨xt_in 439 (by decide +kernel) rfl, xt_in 440 (by decide +kernel) rfl⟩
abbrev mX5_clearShown : XM := (yX5_clearShown, cX5_clearShown, 1, none)
theorem f_mX5_clearShown : XMf mX5_clearShown 0 := ⟨xt_in 5 (by decide +kernel) rfl, xt_in 311 (by decide +kernel) rfl, ⟨by decide +kernel, by decide +kernel, by decide +kernel⟩, by decide⟩
theorem s_mX5_clearShown : Cond.instanceMethod yX5_clearShown ∈ xtbl ∧ Cond.selects yX5_clearShown.cls yX5_clearShown yX5_clearShown ∈ xtbl := ⟨xt_in 309 (by decide +kernel) rfl, xt_in 310 (by decide +kernel) rfl⟩
abbrev mX5_copyFrom : XM := (yX5_copyFrom, cX5_copyFrom, 2, none)
theorem f_mX5_copyFrom : XMf mX5_copyFrom 1 := ⟨xt_in 5 (by decide +kernel) rfl, xt_in 597 (by decide +kernel) rfl, ⟨by decide +kernel, by decide +kernel, by decide +kernel⟩, by decide⟩
theorem s_mX5_copyFrom : Cond.instanceMethod yX5_copyFrom ∈ xtbl ∧ Cond.selects yX5_copyFrom.cls yX5_copyFrom yX5_copyFrom ∈ xtbl := ⟨xt_in 595 (by decide +kernel) rfl, xt_in 596 (by decide +kernel) rfl⟩
abbrev mX5_goLeftOn : XM := (yX5_goLeftOn, cX5_goLeftOn, 2, none)
theorem f_mX5_goLeftOn : XMf mX5_goLeftOn 1 := ⟨xt_in 5 (by decide +kernel) rfl, xt_in 476 (by decide +kernel) rfl, ⟨by decide +kernel, by decide +kernel, by decide +kernel⟩, by decide⟩
theorem s_mX5_goLeftOn : Cond.instanceMethod yX5_goLeftOn ∈ xtbl ∧ Cond.selects yX5_goLeftOn.cls yX5_goLeftOn yX5_goLeftOn ∈ xtbl := ⟨xt_in 474 (by decide +kernel) rfl, xt_in 475 (by decide +kernel) rfl⟩
abbrev mX5_goRightOn : XM := (yX5_goRightOn, cX5_goRightOn, 2, none)
theorem f_mX5_goRightOn : XMf mX5_goRightOn 1 := ⟨xt_in 5 (by decide +kernel) rfl, xt_in 472 (by decide +kernel) rfl, ⟨by decide +kernel, by decide +kernel, by decide +kernel⟩, by decide⟩
theorem s_mX5_goRightOn : Cond.instanceMethod yX5_goRightOn ∈ xtbl ∧ Cond.selects yX5_goRightOn.cls yX5_goRightOn yX5_goRightOn ∈ xtbl := ⟨xt_in 470 (by decide +kernel) rfl, xt_in 471 (by decide +kernel) rfl⟩
abbrev mX5_goesRightOn : XM := (yX5_goesRightOn, cX5_goesRightOn, 3, (some .boolean))
theorem f_mX5_goesRightOn : XMf mX5_goesRightOn 2 := ⟨xt_in 5 (by decide +kernel) rfl, xt_in 459 (by decide +kernel) rfl, ⟨by decide +kernel, by decide +kernel, by decide +kernel⟩, by decide⟩
theorem s_mX5_goesRightOn : Cond.instanceMethod yX5_goesRightOn ∈ xtbl ∧ Cond.selects yX5_goesRightOn.cls yX5_goesRightOn yX5_goesRightOn ∈ xtbl := ⟨xt_in 457 (by decide +kernel) rfl, xt_in 458 (by decide +kernel) rfl⟩
abbrev mX5_init : XM := (yX5_init, cX5_init, 2, none)
theorem f_mX5_init : XMf mX5_init 1 := ⟨xt_in 5 (by decide +kernel) rfl, xt_in 72 (by decide +kernel) rfl, ⟨by decide +kernel, by decide +kernel, by decide +kernel⟩, by decide⟩
theorem s_mX5_init : Cond.instanceMethod yX5_init ∈ xtbl := xt_in 71 (by decide +kernel) rfl
abbrev mX5_isContentWith : XM := (yX5_isContentWith, cX5_isContentWith, 2, (some .boolean))
theorem f_mX5_isContentWith : XMf mX5_isContentWith 1 := ⟨xt_in 5 (by decide +kernel) rfl, xt_in 508 (by decide +kernel) rfl, ⟨by decide +kernel, by decide +kernel, by decide +kernel⟩, by decide⟩
theorem s_mX5_isContentWith : Cond.instanceMethod yX5_isContentWith ∈ xtbl ∧ Cond.selects yX5_isContentWith.cls yX5_isContentWith yX5_isContentWith ∈ xtbl := ⟨xt_in 506 (by decide +kernel) rfl, xt_in 507 (by decide +kernel) rfl⟩
abbrev mX5_isCoupleWith : XM := (yX5_isCoupleWith, cX5_isCoupleWith, 2, (some .boolean))
theorem f_mX5_isCoupleWith : XMf mX5_isCoupleWith 1 := ⟨xt_in 5 (by decide +kernel) rfl, xt_in 486 (by decide +kernel) rfl, ⟨by decide +kernel, by decide +kernel, by decide +kernel⟩, by decide⟩
theorem s_mX5_isCoupleWith : Cond.instanceMethod yX5_isCoupleWith ∈ xtbl ∧ Cond.selects yX5_isCoupleWith.cls yX5_isCoupleWith yX5_isCoupleWith ∈ xtbl := ⟨xt_in 484 (by decide +kernel) rfl, xt_in 485 (by decide +kernel) rfl⟩
abbrev mX5_isFree : XM := (yX5_isFree, cX5_isFree, 1, (some .boolean))
theorem f_mX5_isFree : XMf mX5_isFree 0 := ⟨xt_in 5 (by decide +kernel) rfl, xt_in 445 (by decide +kernel) rfl, ⟨by decide +kernel, by decide +kernel, by decide +kernel⟩, by decide⟩
theorem s_mX5_isFree : Cond.instanceMethod yX5_isFree ∈ xtbl ∧ Cond.selects yX5_isFree.cls yX5_isFree yX5_isFree ∈ xtbl := ⟨xt_in 443 (by decide +kernel) rfl, xt_in 444 (by decide +kernel) rfl⟩
abbrev mX5_isGone : XM := (yX5_isGone, cX5_isGone, 1, (some .boolean))
theorem f_mX5_isGone : XMf mX5_isGone 0 := ⟨xt_in 5 (by decide +kernel) rfl, xt_in 340 (by decide +kernel) rfl, ⟨by decide +kernel, by decide +kernel, by decide +kernel⟩, by decide⟩
theorem s_mX5_isGone : Cond.instanceMethod yX5_isGone ∈ xtbl ∧ Cond.selects yX5_isGone.cls yX5_isGone yX5_isGone ∈ xtbl := ⟨xt_in 338 (by decide +kernel) rfl, xt_in 339 (by decide +kernel) rfl⟩
abbrev mX5_isMatchOf : XM := (yX5_isMatchOf, cX5_isMatchOf, 2, (some .boolean))
theorem f_mX5_isMatchOf : XMf mX5_isMatchOf 1 := ⟨xt_in 5 (by decide +kernel) rfl, xt_in 368 (by decide +kernel) rfl, ⟨by decide +kernel, by decide +kernel, by decide +kernel⟩, by decide⟩
theorem s_mX5_isMatchOf : Cond.instanceMethod yX5_isMatchOf ∈ xtbl ∧ Cond.selects yX5_isMatchOf.cls yX5_isMatchOf yX5_isMatchOf ∈ xtbl := ⟨xt_in 366 (by decide +kernel) rfl, xt_in 367 (by decide +kernel) rfl⟩
abbrev mX5_isTaken : XM := (yX5_isTaken, cX5_isTaken, 1, (some .boolean))
theorem f_mX5_isTaken : XMf mX5_isTaken 0 := ⟨xt_in 5 (by decide +kernel) rfl, xt_in 336 (by decide +kernel) rfl, ⟨by decide +kernel, by decide +kernel, by decide +kernel⟩, by decide⟩
theorem s_mX5_isTaken : Cond.instanceMethod yX5_isTaken ∈ xtbl ∧ Cond.selects yX5_isTaken.cls yX5_isTaken yX5_isTaken ∈ xtbl := ⟨xt_in 334 (by decide +kernel) rfl, xt_in 335 (by decide +kernel) rfl⟩
abbrev mX5_isTurnToHasten : XM := (yX5_isTurnToHasten, cX5_isTurnToHasten, 1, (some .boolean))
theorem f_mX5_isTurnToHasten : XMf mX5_isTurnToHasten 0 := ⟨xt_in 5 (by decide +kernel) rfl, xt_in 466 (by decide +kernel) rfl, ⟨by decide +kernel, by decide +kernel, by decide +kernel⟩, by decide⟩
theorem s_mX5_isTurnToHasten : Cond.instanceMethod yX5_isTurnToHasten ∈ xtbl ∧ Cond.selects yX5_isTurnToHasten.cls yX5_isTurnToHasten yX5_isTurnToHasten ∈ xtbl := ⟨xt_in 465 (by decide +kernel) rfl, xt_sel 6 (by decide +kernel) rfl⟩
abbrev mX5_likes : XM := (yX5_likes, cX5_likes, 2, (some .boolean))
theorem f_mX5_likes : XMf mX5_likes 1 := ⟨xt_in 5 (by decide +kernel) rfl, xt_in 350 (by decide +kernel) rfl, ⟨by decide +kernel, by decide +kernel, by decide +kernel⟩, by decide⟩
theorem s_mX5_likes : Cond.instanceMethod yX5_likes ∈ xtbl ∧ Cond.selects yX5_likes.cls yX5_likes yX5_likes ∈ xtbl := ⟨xt_in 348 (by decide +kernel) rfl, xt_in 349 (by decide +kernel) rfl⟩
abbrev mX5_picture : XM := (yX5_picture, cX5_picture, 1, (some .int))
theorem f_mX5_picture : XMf mX5_picture 0 := ⟨xt_in 5 (by decide +kernel) rfl, xt_in 354 (by decide +kernel) rfl, ⟨by decide +kernel, by decide +kernel, by decide +kernel⟩, by decide⟩
theorem s_mX5_picture : Cond.instanceMethod yX5_picture ∈ xtbl ∧ Cond.selects yX5_picture.cls yX5_picture yX5_picture ∈ xtbl := ⟨xt_in 352 (by decide +kernel) rfl, xt_in 353 (by decide +kernel) rfl⟩
abbrev mX5_takeBack : XM := (yX5_takeBack, cX5_takeBack, 2, none)
theorem f_mX5_takeBack : XMf mX5_takeBack 1 := ⟨xt_in 5 (by decide +kernel) rfl, xt_in 491 (by decide +kernel) rfl, ⟨by decide +kernel, by decide +kernel, by decide +kernel⟩, by decide⟩
theorem s_mX5_takeBack : Cond.instanceMethod yX5_takeBack ∈ xtbl ∧ Cond.selects yX5_takeBack.cls yX5_takeBack yX5_takeBack ∈ xtbl := ⟨xt_in 489 (by decide +kernel) rfl, xt_in 490 (by decide +kernel) rfl⟩
abbrev mX5_turnLeftOn : XM := (yX5_turnLeftOn, cX5_turnLeftOn, 2, none)
theorem f_mX5_turnLeftOn : XMf mX5_turnLeftOn 1 := ⟨xt_in 5 (by decide +kernel) rfl, xt_in 512 (by decide +kernel) rfl, ⟨by decide +kernel, by decide +kernel, by decide +kernel⟩, by decide⟩
theorem s_mX5_turnLeftOn : Cond.instanceMethod yX5_turnLeftOn ∈ xtbl ∧ Cond.selects yX5_turnLeftOn.cls yX5_turnLeftOn yX5_turnLeftOn ∈ xtbl := ⟨xt_in 510 (by decide +kernel) rfl, xt_in 511 (by decide +kernel) rfl⟩
abbrev mX5_wasShown : XM := (yX5_wasShown, cX5_wasShown, 2, (some .boolean))
theorem f_mX5_wasShown : XMf mX5_wasShown 1 := ⟨xt_in 5 (by decide +kernel) rfl, xt_in 451 (by decide +kernel) rfl, ⟨by decide +kernel, by decide +kernel, by decide +kernel⟩, by decide⟩
theorem s_mX5_wasShown : Cond.instanceMethod yX5_wasShown ∈ xtbl ∧ Cond.selects yX5_wasShown.cls yX5_wasShown yX5_wasShown ∈ xtbl := ⟨xt_in 449 (by decide +kernel) rfl, xt_in 450 (by decide +kernel) rfl⟩
abbrev mX5_wentRightOn : XM := (yX5_wentRightOn, cX5_wentRightOn, 2, (some .boolean))
theorem f_mX5_wentRightOn : XMf mX5_wentRightOn 1 := ⟨xt_in 5 (by decide +kernel) rfl, xt_in 372 (by decide +kernel) rfl, ⟨by decide +kernel, by decide +kernel, by decide +kernel⟩, by decide⟩
theorem s_mX5_wentRightOn : Cond.instanceMethod yX5_wentRightOn ∈ xtbl ∧ Cond.selects yX5_wentRightOn.cls yX5_wentRightOn yX5_wentRightOn ∈ xtbl := ⟨xt_in 370 (by decide +kernel) rfl, xt_in 371 (by decide +kernel) rfl⟩
abbrev mX5_wouldBeContent : XM := (yX5_wouldBeContent, cX5_wouldBeContent, 3, (some .boolean))
theorem f_mX5_wouldBeContent : XMf mX5_wouldBeContent 2 := ⟨xt_in 5 (by decide +kernel) rfl, xt_in 358 (by decide +kernel) rfl, ⟨by decide +kernel, by decide +kernel, by decide +kernel⟩, by decide⟩
theorem s_mX5_wouldBeContent : Cond.instanceMethod yX5_wouldBeContent ∈ xtbl ∧ Cond.selects yX5_wouldBeContent.cls yX5_wouldBeContent yX5_wouldBeContent ∈ xtbl := ⟨xt_in 356 (by decide +kernel) rfl, xt_in 357 (by decide +kernel) rfl⟩
abbrev mX6_add : XM := (yX6_add, cX6_add, 4, (some .boolean))
theorem f_mX6_add : XMf mX6_add 3 := ⟨xt_in 4 (by decide +kernel) rfl, xt_in 659 (by decide +kernel) rfl, ⟨by decide +kernel, by decide +kernel, by decide +kernel⟩, by decide⟩
theorem s_mX6_add : Cond.instanceMethod yX6_add ∈ xtbl ∧ Cond.selects yX6_add.cls yX6_add yX6_add ∈ xtbl := ⟨xt_in 657 (by decide +kernel) rfl, xt_in 658 (by decide +kernel) rfl⟩
abbrev mX6_choosiesOf : XM := (yX6_choosiesOf, cX6_choosiesOf, 5, (some .int))
theorem f_mX6_choosiesOf : XMf mX6_choosiesOf 2 := ⟨xt_in 4 (by decide +kernel) rfl, xt_in 376 (by decide +kernel) rfl, ⟨by decide +kernel, by decide +kernel, by decide +kernel⟩, by decide⟩
theorem s_mX6_choosiesOf : Cond.instanceMethod yX6_choosiesOf ∈ xtbl ∧ Cond.selects yX6_choosiesOf.cls yX6_choosiesOf yX6_choosiesOf ∈ xtbl := ⟨xt_in 374 (by decide +kernel) rfl, xt_in 375 (by decide +kernel) rfl⟩
abbrev mX6_clear : XM := (yX6_clear, cX6_clear, 1, none)
theorem f_mX6_clear : XMf mX6_clear 0 := ⟨xt_in 4 (by decide +kernel) rfl, xt_in 320 (by decide +kernel) rfl, ⟨by decide +kernel, by decide +kernel, by decide +kernel⟩, by decide⟩
theorem s_mX6_clear : Cond.instanceMethod yX6_clear ∈ xtbl ∧ Cond.selects yX6_clear.cls yX6_clear yX6_clear ∈ xtbl := ⟨xt_in 318 (by decide +kernel) rfl, xt_in 319 (by decide +kernel) rfl⟩
abbrev mX6_copyFrom : XM := (yX6_copyFrom, cX6_copyFrom, 3, none)
theorem f_mX6_copyFrom : XMf mX6_copyFrom 1 := ⟨xt_in 4 (by decide +kernel) rfl, xt_in 601 (by decide +kernel) rfl, ⟨by decide +kernel, by decide +kernel, by decide +kernel⟩, by decide⟩
theorem s_mX6_copyFrom : Cond.instanceMethod yX6_copyFrom ∈ xtbl ∧ Cond.selects yX6_copyFrom.cls yX6_copyFrom yX6_copyFrom ∈ xtbl := ⟨xt_in 599 (by decide +kernel) rfl, xt_in 600 (by decide +kernel) rfl⟩
abbrev mX6_init : XM := (yX6_init, cX6_init, 1, none)
theorem f_mX6_init : XMf mX6_init 0 := ⟨xt_in 4 (by decide +kernel) rfl, xt_in 51 (by decide +kernel) rfl, ⟨by decide +kernel, by decide +kernel, by decide +kernel⟩, by decide⟩
theorem s_mX6_init : Cond.instanceMethod yX6_init ∈ xtbl := xt_in 50 (by decide +kernel) rfl
abbrev mX6_isSoFor : XM := (yX6_isSoFor, cX6_isSoFor, 6, (some .boolean))
theorem f_mX6_isSoFor : XMf mX6_isSoFor 3 := ⟨xt_in 4 (by decide +kernel) rfl, xt_in 380 (by decide +kernel) rfl, ⟨by decide +kernel, by decide +kernel, by decide +kernel⟩, by decide⟩
theorem s_mX6_isSoFor : Cond.instanceMethod yX6_isSoFor ∈ xtbl ∧ Cond.selects yX6_isSoFor.cls yX6_isSoFor yX6_isSoFor ∈ xtbl := ⟨xt_in 379 (by decide +kernel) rfl, xt_sel 4 (by decide +kernel) rfl⟩
abbrev mX7_bestLimit : XM := (yX7_bestLimit, cX7_bestLimit, 8, (some .int))
theorem f_mX7_bestLimit : XMf mX7_bestLimit 3 := ⟨xt_in 8 (by decide +kernel) rfl, xt_in 625 (by decide +kernel) rfl, ⟨by decide +kernel, by decide +kernel, by decide +kernel⟩, by decide⟩
theorem s_mX7_bestLimit : Cond.instanceMethod yX7_bestLimit ∈ xtbl ∧ Cond.selects yX7_bestLimit.cls yX7_bestLimit yX7_bestLimit ∈ xtbl := ⟨xt_in 623 (by decide +kernel) rfl, xt_in 624 (by decide +kernel) rfl⟩
abbrev mX7_init : XM := (yX7_init, cX7_init, 1, none)
theorem f_mX7_init : XMf mX7_init 0 := ⟨xt_in 8 (by decide +kernel) rfl, xt_in 180 (by decide +kernel) rfl, ⟨by decide +kernel, by decide +kernel, by decide +kernel⟩, by decide⟩
theorem s_mX7_init : Cond.instanceMethod yX7_init ∈ xtbl := xt_in 179 (by decide +kernel) rfl
abbrev mX7_isDays : XM := (yX7_isDays, cX7_isDays, 1, (some .boolean))
theorem f_mX7_isDays : XMf mX7_isDays 1 := ⟨xt_in 8 (by decide +kernel) rfl, xt_in 581 (by decide +kernel) rfl, ⟨by decide +kernel, by decide +kernel, by decide +kernel⟩, by decide⟩
theorem s_mX7_isDays : Cond.static yX7_isDays ∈ xtbl := xt_in 580 (by decide +kernel) rfl
abbrev mX7_isOrder : XM := (yX7_isOrder, cX7_isOrder, 1, (some .boolean))
theorem f_mX7_isOrder : XMf mX7_isOrder 1 := ⟨xt_in 8 (by decide +kernel) rfl, xt_in 585 (by decide +kernel) rfl, ⟨by decide +kernel, by decide +kernel, by decide +kernel⟩, by decide⟩
theorem s_mX7_isOrder : Cond.static yX7_isOrder ∈ xtbl := xt_in 584 (by decide +kernel) rfl
abbrev mX7_matchesAfter : XM := (yX7_matchesAfter, cX7_matchesAfter, 7, (some .int))
theorem f_mX7_matchesAfter : XMf mX7_matchesAfter 4 := ⟨xt_in 8 (by decide +kernel) rfl, xt_in 589 (by decide +kernel) rfl, ⟨by decide +kernel, by decide +kernel, by decide +kernel⟩, by decide⟩
theorem s_mX7_matchesAfter : Cond.instanceMethod yX7_matchesAfter ∈ xtbl ∧ Cond.selects yX7_matchesAfter.cls yX7_matchesAfter yX7_matchesAfter ∈ xtbl := ⟨xt_in 587 (by decide +kernel) rfl, xt_in 588 (by decide +kernel) rfl⟩
abbrev mX7_showNextTo : XM := (yX7_showNextTo, cX7_showNextTo, 5, none)
theorem f_mX7_showNextTo : XMf mX7_showNextTo 1 := ⟨xt_in 8 (by decide +kernel) rfl, xt_in 611 (by decide +kernel) rfl, ⟨by decide +kernel, by decide +kernel, by decide +kernel⟩, by decide⟩
theorem s_mX7_showNextTo : Cond.instanceMethod yX7_showNextTo ∈ xtbl ∧ Cond.selects yX7_showNextTo.cls yX7_showNextTo yX7_showNextTo ∈ xtbl := ⟨xt_in 610 (by decide +kernel) rfl, xt_sel 13 (by decide +kernel) rfl⟩
abbrev mX8_greatestDivisor : XM := (yX8_greatestDivisor, cX8_greatestDivisor, 6, (some .int))
theorem f_mX8_greatestDivisor : XMf mX8_greatestDivisor 2 := ⟨xt_in 13 (by decide +kernel) rfl, xt_in 643 (by decide +kernel) rfl, ⟨by decide +kernel, by decide +kernel, by decide +kernel⟩, by decide⟩
theorem s_mX8_greatestDivisor : Cond.static yX8_greatestDivisor ∈ xtbl := xt_in 642 (by decide +kernel) rfl
abbrev mX8_isOthers : XM := (yX8_isOthers, cX8_isOthers, 1, (some .boolean))
theorem f_mX8_isOthers : XMf mX8_isOthers 1 := ⟨xt_in 13 (by decide +kernel) rfl, xt_in 633 (by decide +kernel) rfl, ⟨by decide +kernel, by decide +kernel, by decide +kernel⟩, by decide⟩
theorem s_mX8_isOthers : Cond.static yX8_isOthers ∈ xtbl := xt_in 632 (by decide +kernel) rfl
abbrev mX8_likeliest : XM := (yX8_likeliest, cX8_likeliest, 3, (some .int))
theorem f_mX8_likeliest : XMf mX8_likeliest 1 := ⟨xt_in 13 (by decide +kernel) rfl, xt_in 650 (by decide +kernel) rfl, ⟨by decide +kernel, by decide +kernel, by decide +kernel⟩, by decide⟩
theorem s_mX8_likeliest : Cond.static yX8_likeliest ∈ xtbl := xt_in 649 (by decide +kernel) rfl
abbrev mX8_partsOfAll : XM := (yX8_partsOfAll, cX8_partsOfAll, 1, (some .int))
theorem f_mX8_partsOfAll : XMf mX8_partsOfAll 1 := ⟨xt_in 13 (by decide +kernel) rfl, xt_in 640 (by decide +kernel) rfl, ⟨by decide +kernel, by decide +kernel, by decide +kernel⟩, by decide⟩
theorem s_mX8_partsOfAll : Cond.static yX8_partsOfAll ∈ xtbl := xt_in 639 (by decide +kernel) rfl
abbrev mX8_partsOfBest : XM := (yX8_partsOfBest, cX8_partsOfBest, 4, (some .int))
theorem f_mX8_partsOfBest : XMf mX8_partsOfBest 2 := ⟨xt_in 13 (by decide +kernel) rfl, xt_in 637 (by decide +kernel) rfl, ⟨by decide +kernel, by decide +kernel, by decide +kernel⟩, by decide⟩
theorem s_mX8_partsOfBest : Cond.static yX8_partsOfBest ∈ xtbl := xt_in 636 (by decide +kernel) rfl
abbrev mX9_as : XM := (yX9_as, cX9_as, 3, (some .int))
theorem f_mX9_as : XMf mX9_as 2 := ⟨xt_in 1 (by decide +kernel) rfl, xt_in 404 (by decide +kernel) rfl, ⟨by decide +kernel, by decide +kernel, by decide +kernel⟩, by decide⟩
theorem s_mX9_as : Cond.instanceMethod yX9_as ∈ xtbl ∧ Cond.selects yX9_as.cls yX9_as yX9_as ∈ xtbl := ⟨xt_in 402 (by decide +kernel) rfl, xt_in 403 (by decide +kernel) rfl⟩
abbrev mX9_back : XM := (yX9_back, cX9_back, 6, (some .int))
theorem f_mX9_back : XMf mX9_back 2 := ⟨xt_in 1 (by decide +kernel) rfl, xt_in 481 (by decide +kernel) rfl, ⟨by decide +kernel, by decide +kernel, by decide +kernel⟩, by decide⟩
theorem s_mX9_back : Cond.instanceMethod yX9_back ∈ xtbl ∧ Cond.selects yX9_back.cls yX9_back yX9_back ∈ xtbl := ⟨xt_in 479 (by decide +kernel) rfl, xt_in 480 (by decide +kernel) rfl⟩
abbrev mX9_best : XM := (yX9_best, cX9_best, 3, (some .int))
theorem f_mX9_best : XMf mX9_best 2 := ⟨xt_in 1 (by decide +kernel) rfl, xt_in 621 (by decide +kernel) rfl, ⟨by decide +kernel, by decide +kernel, by decide +kernel⟩, by decide⟩
theorem s_mX9_best : Cond.instanceMethod yX9_best ∈ xtbl ∧ Cond.selects yX9_best.cls yX9_best yX9_best ∈ xtbl := ⟨xt_in 619 (by decide +kernel) rfl, xt_in 620 (by decide +kernel) rfl⟩
abbrev mX9_blank : XM := (yX9_blank, cX9_blank, 2, (some .int))
theorem f_mX9_blank : XMf mX9_blank 0 := ⟨xt_in 1 (by decide +kernel) rfl, xt_in 252 (by decide +kernel) rfl, ⟨by decide +kernel, by decide +kernel, by decide +kernel⟩, by decide⟩
theorem s_mX9_blank : Cond.instanceMethod yX9_blank ∈ xtbl ∧ Cond.selects yX9_blank.cls yX9_blank yX9_blank ∈ xtbl := ⟨xt_in 250 (by decide +kernel) rfl, xt_in 251 (by decide +kernel) rfl⟩
abbrev mX9_choose : XM := (yX9_choose, cX9_choose, 4, (some .int))
theorem f_mX9_choose : XMf mX9_choose 2 := ⟨xt_in 1 (by decide +kernel) rfl, xt_in 418 (by decide +kernel) rfl, ⟨by decide +kernel, by decide +kernel, by decide +kernel⟩, by decide⟩
theorem s_mX9_choose : Cond.instanceMethod yX9_choose ∈ xtbl ∧ Cond.selects yX9_choose.cls yX9_choose yX9_choose ∈ xtbl := ⟨xt_in 416 (by decide +kernel) rfl, xt_in 417 (by decide +kernel) rfl⟩
abbrev mX9_comes : XM := (yX9_comes, cX9_comes, 4, (some .int))
theorem f_mX9_comes : XMf mX9_comes 3 := ⟨xt_in 1 (by decide +kernel) rfl, xt_in 578 (by decide +kernel) rfl, ⟨by decide +kernel, by decide +kernel, by decide +kernel⟩, by decide⟩
theorem s_mX9_comes : Cond.instanceMethod yX9_comes ∈ xtbl ∧ Cond.selects yX9_comes.cls yX9_comes yX9_comes ∈ xtbl := ⟨xt_in 576 (by decide +kernel) rfl, xt_in 577 (by decide +kernel) rfl⟩
abbrev mX9_count : XM := (yX9_count, cX9_count, 2, (some .int))
theorem f_mX9_count : XMf mX9_count 1 := ⟨xt_in 1 (by decide +kernel) rfl, xt_in 695 (by decide +kernel) rfl, ⟨by decide +kernel, by decide +kernel, by decide +kernel⟩, by decide⟩
theorem s_mX9_count : Cond.instanceMethod yX9_count ∈ xtbl ∧ Cond.selects yX9_count.cls yX9_count yX9_count ∈ xtbl := ⟨xt_in 693 (by decide +kernel) rfl, xt_in 694 (by decide +kernel) rfl⟩
abbrev mX9_day : XM := (yX9_day, cX9_day, 1, (some .int))
theorem f_mX9_day : XMf mX9_day 0 := ⟨xt_in 1 (by decide +kernel) rfl, xt_in 495 (by decide +kernel) rfl, ⟨by decide +kernel, by decide +kernel, by decide +kernel⟩, by decide⟩
theorem s_mX9_day : Cond.instanceMethod yX9_day ∈ xtbl ∧ Cond.selects yX9_day.cls yX9_day yX9_day ∈ xtbl := ⟨xt_in 493 (by decide +kernel) rfl, xt_in 494 (by decide +kernel) rfl⟩
abbrev mX9_digest : XM := (yX9_digest, cX9_digest, 5, (some .long))
theorem f_mX9_digest : XMf mX9_digest 0 := ⟨xt_in 1 (by decide +kernel) rfl, xt_in 716 (by decide +kernel) rfl, ⟨by decide +kernel, by decide +kernel, by decide +kernel⟩, by decide⟩
theorem s_mX9_digest : Cond.instanceMethod yX9_digest ∈ xtbl ∧ Cond.selects yX9_digest.cls yX9_digest yX9_digest ∈ xtbl := ⟨xt_in 714 (by decide +kernel) rfl, xt_in 715 (by decide +kernel) rfl⟩
abbrev mX9_fault : XM := (yX9_fault, cX9_fault, 1, (some .int))
theorem f_mX9_fault : XMf mX9_fault 0 := ⟨xt_in 1 (by decide +kernel) rfl, xt_in 260 (by decide +kernel) rfl, ⟨by decide +kernel, by decide +kernel, by decide +kernel⟩, by decide⟩
theorem s_mX9_fault : Cond.instanceMethod yX9_fault ∈ xtbl ∧ Cond.selects yX9_fault.cls yX9_fault yX9_fault ∈ xtbl := ⟨xt_in 258 (by decide +kernel) rfl, xt_in 259 (by decide +kernel) rfl⟩
abbrev mX9_foldLasting : XM := (yX9_foldLasting, cX9_foldLasting, 6, (some .long))
theorem f_mX9_foldLasting : XMf mX9_foldLasting 1 := ⟨xt_in 1 (by decide +kernel) rfl, xt_in 723 (by decide +kernel) rfl, ⟨by decide +kernel, by decide +kernel, by decide +kernel⟩, by decide⟩
theorem s_mX9_foldLasting : Cond.instanceMethod yX9_foldLasting ∈ xtbl ∧ Cond.selects yX9_foldLasting.cls yX9_foldLasting yX9_foldLasting ∈ xtbl := ⟨xt_in 722 (by decide +kernel) rfl, xt_sel 17 (by decide +kernel) rfl⟩
abbrev mX9_forget : XM := (yX9_forget, cX9_forget, 2, (some .int))
theorem f_mX9_forget : XMf mX9_forget 0 := ⟨xt_in 1 (by decide +kernel) rfl, xt_in 663 (by decide +kernel) rfl, ⟨by decide +kernel, by decide +kernel, by decide +kernel⟩, by decide⟩
theorem s_mX9_forget : Cond.instanceMethod yX9_forget ∈ xtbl ∧ Cond.selects yX9_forget.cls yX9_forget yX9_forget ∈ xtbl := ⟨xt_in 661 (by decide +kernel) rfl, xt_in 662 (by decide +kernel) rfl⟩
abbrev mX9_howMany : XM := (yX9_howMany, cX9_howMany, 2, (some .int))
theorem f_mX9_howMany : XMf mX9_howMany 1 := ⟨xt_in 1 (by decide +kernel) rfl, xt_in 647 (by decide +kernel) rfl, ⟨by decide +kernel, by decide +kernel, by decide +kernel⟩, by decide⟩
theorem s_mX9_howMany : Cond.instanceMethod yX9_howMany ∈ xtbl ∧ Cond.selects yX9_howMany.cls yX9_howMany yX9_howMany ∈ xtbl := ⟨xt_in 645 (by decide +kernel) rfl, xt_in 646 (by decide +kernel) rfl⟩
abbrev mX9_image : XM := (yX9_image, cX9_image, 1, (some .int))
theorem f_mX9_image : XMf mX9_image 0 := ⟨xt_in 1 (by decide +kernel) rfl, xt_in 686 (by decide +kernel) rfl, ⟨by decide +kernel, by decide +kernel, by decide +kernel⟩, by decide⟩
theorem s_mX9_image : Cond.instanceMethod yX9_image ∈ xtbl ∧ Cond.selects yX9_image.cls yX9_image yX9_image ∈ xtbl := ⟨xt_in 684 (by decide +kernel) rfl, xt_in 685 (by decide +kernel) rfl⟩
abbrev mX9_init : XM := (yX9_init, cX9_init, 1, none)
theorem f_mX9_init : XMf mX9_init 0 := ⟨xt_in 1 (by decide +kernel) rfl, xt_in 19 (by decide +kernel) rfl, ⟨by decide +kernel, by decide +kernel, by decide +kernel⟩, by decide⟩
theorem s_mX9_init : Cond.instanceMethod yX9_init ∈ xtbl := xt_in 18 (by decide +kernel) rfl
abbrev mX9_isLimit : XM := (yX9_isLimit, cX9_isLimit, 1, (some .boolean))
theorem f_mX9_isLimit : XMf mX9_isLimit 1 := ⟨xt_in 1 (by decide +kernel) rfl, xt_in 429 (by decide +kernel) rfl, ⟨by decide +kernel, by decide +kernel, by decide +kernel⟩, by decide⟩
theorem s_mX9_isLimit : Cond.static yX9_isLimit ∈ xtbl := xt_in 428 (by decide +kernel) rfl
abbrev mX9_isWithin : XM := (yX9_isWithin, cX9_isWithin, 3, (some .boolean))
theorem f_mX9_isWithin : XMf mX9_isWithin 3 := ⟨xt_in 1 (by decide +kernel) rfl, xt_in 244 (by decide +kernel) rfl, ⟨by decide +kernel, by decide +kernel, by decide +kernel⟩, by decide⟩
theorem s_mX9_isWithin : Cond.static yX9_isWithin ∈ xtbl := xt_in 243 (by decide +kernel) rfl
abbrev mX9_lasting : XM := (yX9_lasting, cX9_lasting, 2, (some .int))
theorem f_mX9_lasting : XMf mX9_lasting 1 := ⟨xt_in 1 (by decide +kernel) rfl, xt_in 520 (by decide +kernel) rfl, ⟨by decide +kernel, by decide +kernel, by decide +kernel⟩, by decide⟩
theorem s_mX9_lasting : Cond.instanceMethod yX9_lasting ∈ xtbl ∧ Cond.selects yX9_lasting.cls yX9_lasting yX9_lasting ∈ xtbl := ⟨xt_in 518 (by decide +kernel) rfl, xt_in 519 (by decide +kernel) rfl⟩
abbrev mX9_letter : XM := (yX9_letter, cX9_letter, 2, (some .int))
theorem f_mX9_letter : XMf mX9_letter 1 := ⟨xt_in 1 (by decide +kernel) rfl, xt_in 241 (by decide +kernel) rfl, ⟨by decide +kernel, by decide +kernel, by decide +kernel⟩, by decide⟩
theorem s_mX9_letter : Cond.instanceMethod yX9_letter ∈ xtbl ∧ Cond.selects yX9_letter.cls yX9_letter yX9_letter ∈ xtbl := ⟨xt_in 239 (by decide +kernel) rfl, xt_in 240 (by decide +kernel) rfl⟩
abbrev mX9_limit : XM := (yX9_limit, cX9_limit, 3, (some .int))
theorem f_mX9_limit : XMf mX9_limit 1 := ⟨xt_in 1 (by decide +kernel) rfl, xt_in 426 (by decide +kernel) rfl, ⟨by decide +kernel, by decide +kernel, by decide +kernel⟩, by decide⟩
theorem s_mX9_limit : Cond.instanceMethod yX9_limit ∈ xtbl ∧ Cond.selects yX9_limit.cls yX9_limit yX9_limit ∈ xtbl := ⟨xt_in 424 (by decide +kernel) rfl, xt_in 425 (by decide +kernel) rfl⟩
abbrev mX9_meet : XM := (yX9_meet, cX9_meet, 5, (some .int))
theorem f_mX9_meet : XMf mX9_meet 2 := ⟨xt_in 1 (by decide +kernel) rfl, xt_in 503 (by decide +kernel) rfl, ⟨by decide +kernel, by decide +kernel, by decide +kernel⟩, by decide⟩
theorem s_mX9_meet : Cond.instanceMethod yX9_meet ∈ xtbl ∧ Cond.selects yX9_meet.cls yX9_meet yX9_meet ∈ xtbl := ⟨xt_in 501 (by decide +kernel) rfl, xt_in 502 (by decide +kernel) rfl⟩
abbrev mX9_mutual : XM := (yX9_mutual, cX9_mutual, 1, (some .int))
theorem f_mX9_mutual : XMf mX9_mutual 0 := ⟨xt_in 1 (by decide +kernel) rfl, xt_in 569 (by decide +kernel) rfl, ⟨by decide +kernel, by decide +kernel, by decide +kernel⟩, by decide⟩
theorem s_mX9_mutual : Cond.instanceMethod yX9_mutual ∈ xtbl ∧ Cond.selects yX9_mutual.cls yX9_mutual yX9_mutual ∈ xtbl := ⟨xt_in 567 (by decide +kernel) rfl, xt_in 568 (by decide +kernel) rfl⟩
abbrev mX9_paint : XM := (yX9_paint, cX9_paint, 4, (some .int))
theorem f_mX9_paint : XMf mX9_paint 2 := ⟨xt_in 1 (by decide +kernel) rfl, xt_in 422 (by decide +kernel) rfl, ⟨by decide +kernel, by decide +kernel, by decide +kernel⟩, by decide⟩
theorem s_mX9_paint : Cond.instanceMethod yX9_paint ∈ xtbl ∧ Cond.selects yX9_paint.cls yX9_paint yX9_paint ∈ xtbl := ⟨xt_in 420 (by decide +kernel) rfl, xt_in 421 (by decide +kernel) rfl⟩
abbrev mX9_part : XM := (yX9_part, cX9_part, 5, (some .int))
theorem f_mX9_part : XMf mX9_part 1 := ⟨xt_in 1 (by decide +kernel) rfl, xt_in 516 (by decide +kernel) rfl, ⟨by decide +kernel, by decide +kernel, by decide +kernel⟩, by decide⟩
theorem s_mX9_part : Cond.instanceMethod yX9_part ∈ xtbl ∧ Cond.selects yX9_part.cls yX9_part yX9_part ∈ xtbl := ⟨xt_in 514 (by decide +kernel) rfl, xt_in 515 (by decide +kernel) rfl⟩
abbrev mX9_person : XM := (yX9_person, cX9_person, 3, (some .int))
theorem f_mX9_person : XMf mX9_person 2 := ⟨xt_in 1 (by decide +kernel) rfl, xt_in 324 (by decide +kernel) rfl, ⟨by decide +kernel, by decide +kernel, by decide +kernel⟩, by decide⟩
theorem s_mX9_person : Cond.instanceMethod yX9_person ∈ xtbl ∧ Cond.selects yX9_person.cls yX9_person yX9_person ∈ xtbl := ⟨xt_in 322 (by decide +kernel) rfl, xt_in 323 (by decide +kernel) rfl⟩
abbrev mX9_restore : XM := (yX9_restore, cX9_restore, 1, (some .int))
theorem f_mX9_restore : XMf mX9_restore 0 := ⟨xt_in 1 (by decide +kernel) rfl, xt_in 691 (by decide +kernel) rfl, ⟨by decide +kernel, by decide +kernel, by decide +kernel⟩, by decide⟩
theorem s_mX9_restore : Cond.instanceMethod yX9_restore ∈ xtbl ∧ Cond.selects yX9_restore.cls yX9_restore yX9_restore ∈ xtbl := ⟨xt_in 689 (by decide +kernel) rfl, xt_in 690 (by decide +kernel) rfl⟩
abbrev mX9_sea : XM := (yX9_sea, cX9_sea, 1, (some .int))
theorem f_mX9_sea : XMf mX9_sea 0 := ⟨xt_in 1 (by decide +kernel) rfl, xt_in 285 (by decide +kernel) rfl, ⟨by decide +kernel, by decide +kernel, by decide +kernel⟩, by decide⟩
theorem s_mX9_sea : Cond.instanceMethod yX9_sea ∈ xtbl ∧ Cond.selects yX9_sea.cls yX9_sea yX9_sea ∈ xtbl := ⟨xt_in 283 (by decide +kernel) rfl, xt_in 284 (by decide +kernel) rfl⟩
abbrev mX9_seasons : XM := (yX9_seasons, cX9_seasons, 11, (some .int))
theorem f_mX9_seasons : XMf mX9_seasons 3 := ⟨xt_in 1 (by decide +kernel) rfl, xt_in 668 (by decide +kernel) rfl, ⟨by decide +kernel, by decide +kernel, by decide +kernel⟩, by decide⟩
theorem s_mX9_seasons : Cond.instanceMethod yX9_seasons ∈ xtbl ∧ Cond.selects yX9_seasons.cls yX9_seasons yX9_seasons ∈ xtbl := ⟨xt_in 666 (by decide +kernel) rfl, xt_in 667 (by decide +kernel) rfl⟩
abbrev mX9_see : XM := (yX9_see, cX9_see, 4, (some .int))
theorem f_mX9_see : XMf mX9_see 3 := ⟨xt_in 1 (by decide +kernel) rfl, xt_in 655 (by decide +kernel) rfl, ⟨by decide +kernel, by decide +kernel, by decide +kernel⟩, by decide⟩
theorem s_mX9_see : Cond.instanceMethod yX9_see ∈ xtbl ∧ Cond.selects yX9_see.cls yX9_see yX9_see ∈ xtbl := ⟨xt_in 653 (by decide +kernel) rfl, xt_in 654 (by decide +kernel) rfl⟩
abbrev mX9_show : XM := (yX9_show, cX9_show, 5, (some .int))
theorem f_mX9_show : XMf mX9_show 2 := ⟨xt_in 1 (by decide +kernel) rfl, xt_in 437 (by decide +kernel) rfl, ⟨by decide +kernel, by decide +kernel, by decide +kernel⟩, by decide⟩
theorem s_mX9_show : Cond.instanceMethod yX9_show ∈ xtbl ∧ Cond.selects yX9_show.cls yX9_show yX9_show ∈ xtbl := ⟨xt_in 435 (by decide +kernel) rfl, xt_in 436 (by decide +kernel) rfl⟩
abbrev mX9_waiting : XM := (yX9_waiting, cX9_waiting, 7, (some .int))
theorem f_mX9_waiting : XMf mX9_waiting 3 := ⟨xt_in 1 (by decide +kernel) rfl, xt_in 630 (by decide +kernel) rfl, ⟨by decide +kernel, by decide +kernel, by decide +kernel⟩, by decide⟩
theorem s_mX9_waiting : Cond.instanceMethod yX9_waiting ∈ xtbl ∧ Cond.selects yX9_waiting.cls yX9_waiting yX9_waiting ∈ xtbl := ⟨xt_in 628 (by decide +kernel) rfl, xt_in 629 (by decide +kernel) rfl⟩
theorem l_L_9 : Cond.methodLink RL 9 yX9_init ∈ xtbl := xt_in 17 (by decide +kernel) rfl
theorem l_X9_3 : Cond.methodLink RX9 3 objectInit ∈ xtbl ∧ Cond.instanceMethod objectInit ∈ xtbl ∧ Cond.code objectInit ⟨#[0xb1]⟩ 1 none ∈ xtbl := ⟨xt_in 20 (by decide +kernel) rfl, xt_in 21 (by decide +kernel) rfl, xt_in 22 (by decide +kernel) rfl⟩
theorem l_X4_3 : Cond.methodLink RX4 3 objectInit ∈ xtbl ∧ Cond.instanceMethod objectInit ∈ xtbl ∧ Cond.code objectInit ⟨#[0xb1]⟩ 1 none ∈ xtbl := ⟨xt_in 28 (by decide +kernel) rfl, xt_in 21 (by decide +kernel) rfl, xt_in 22 (by decide +kernel) rfl⟩
theorem l_X9_18 : Cond.methodLink RX9 18 yX0_init ∈ xtbl := xt_in 41 (by decide +kernel) rfl
theorem l_X0_3 : Cond.methodLink RX0 3 objectInit ∈ xtbl ∧ Cond.instanceMethod objectInit ∈ xtbl ∧ Cond.code objectInit ⟨#[0xb1]⟩ 1 none ∈ xtbl := ⟨xt_in 44 (by decide +kernel) rfl, xt_in 21 (by decide +kernel) rfl, xt_in 22 (by decide +kernel) rfl⟩
theorem l_X6_3 : Cond.methodLink RX6 3 objectInit ∈ xtbl ∧ Cond.instanceMethod objectInit ∈ xtbl ∧ Cond.code objectInit ⟨#[0xb1]⟩ 1 none ∈ xtbl := ⟨xt_in 52 (by decide +kernel) rfl, xt_in 21 (by decide +kernel) rfl, xt_in 22 (by decide +kernel) rfl⟩
theorem l_X0_24 : Cond.methodLink RX0 24 yX5_init ∈ xtbl := xt_in 70 (by decide +kernel) rfl
theorem l_X5_3 : Cond.methodLink RX5 3 objectInit ∈ xtbl ∧ Cond.instanceMethod objectInit ∈ xtbl ∧ Cond.code objectInit ⟨#[0xb1]⟩ 1 none ∈ xtbl := ⟨xt_in 73 (by decide +kernel) rfl, xt_in 21 (by decide +kernel) rfl, xt_in 22 (by decide +kernel) rfl⟩
theorem l_X7_3 : Cond.methodLink RX7 3 objectInit ∈ xtbl ∧ Cond.instanceMethod objectInit ∈ xtbl ∧ Cond.code objectInit ⟨#[0xb1]⟩ 1 none ∈ xtbl := ⟨xt_in 181 (by decide +kernel) rfl, xt_in 21 (by decide +kernel) rfl, xt_in 22 (by decide +kernel) rfl⟩
theorem l_X7_11 : Cond.methodLink RX7 11 yX0_init ∈ xtbl := xt_in 183 (by decide +kernel) rfl
theorem l_X3_3 : Cond.methodLink RX3 3 objectInit ∈ xtbl ∧ Cond.instanceMethod objectInit ∈ xtbl ∧ Cond.code objectInit ⟨#[0xb1]⟩ 1 none ∈ xtbl := ⟨xt_in 196 (by decide +kernel) rfl, xt_in 21 (by decide +kernel) rfl, xt_in 22 (by decide +kernel) rfl⟩
theorem l_L_13 : Cond.methodLink RL 13 yX9_letter ∈ xtbl := xt_in 238 (by decide +kernel) rfl
theorem l_X9_40 : Cond.methodLink RX9 40 yX9_isWithin ∈ xtbl := xt_in 242 (by decide +kernel) rfl
theorem l_X9_44 : Cond.methodLink RX9 44 yX4_add ∈ xtbl := xt_in 245 (by decide +kernel) rfl
theorem l_L_18 : Cond.methodLink RL 18 yX9_blank ∈ xtbl := xt_in 249 (by decide +kernel) rfl
theorem l_X9_52 : Cond.methodLink RX9 52 yX4_clear ∈ xtbl := xt_in 253 (by decide +kernel) rfl
theorem l_L_23 : Cond.methodLink RL 23 yX9_fault ∈ xtbl := xt_in 257 (by decide +kernel) rfl
theorem l_X9_55 : Cond.methodLink RX9 55 yX4_firstFault ∈ xtbl := xt_in 261 (by decide +kernel) rfl
theorem l_X4_23 : Cond.methodLink RX4 23 yX4_fitsPerson ∈ xtbl := xt_in 265 (by decide +kernel) rfl
theorem l_X4_39 : Cond.methodLink RX4 39 yX2_isLetter ∈ xtbl := xt_in 268 (by decide +kernel) rfl
theorem l_X4_27 : Cond.methodLink RX4 27 yX4_endsSideAt ∈ xtbl := xt_in 274 (by decide +kernel) rfl
theorem l_X4_19 : Cond.methodLink RX4 19 yX4_letterAt ∈ xtbl := xt_in 278 (by decide +kernel) rfl
theorem l_L_27 : Cond.methodLink RL 27 yX9_sea ∈ xtbl := xt_in 282 (by decide +kernel) rfl
theorem l_X9_59 : Cond.methodLink RX9 59 yX4_isSea ∈ xtbl := xt_in 286 (by decide +kernel) rfl
theorem l_X4_31 : Cond.methodLink RX4 31 yX4_firstFault ∈ xtbl := xt_in 290 (by decide +kernel) rfl
theorem l_X4_35 : Cond.methodLink RX4 35 yX4_hasTwoSides ∈ xtbl := xt_in 291 (by decide +kernel) rfl
theorem l_X9_63 : Cond.methodLink RX9 63 yX0_readFrom ∈ xtbl := xt_in 295 (by decide +kernel) rfl
theorem l_X0_36 : Cond.methodLink RX0 36 yX4_letterAt ∈ xtbl := xt_in 299 (by decide +kernel) rfl
theorem l_X0_40 : Cond.methodLink RX0 40 yX2_ofLetter ∈ xtbl := xt_in 300 (by decide +kernel) rfl
theorem l_X0_53 : Cond.methodLink RX0 53 yX4_digitAt ∈ xtbl := xt_in 304 (by decide +kernel) rfl
theorem l_X0_68 : Cond.methodLink RX0 68 yX5_clearShown ∈ xtbl := xt_in 308 (by decide +kernel) rfl
theorem l_X0_74 : Cond.methodLink RX0 74 yX4_endsSideAt ∈ xtbl := xt_in 312 (by decide +kernel) rfl
theorem l_X0_78 : Cond.methodLink RX0 78 yX0_clearHistory ∈ xtbl := xt_in 313 (by decide +kernel) rfl
theorem l_X0_99 : Cond.methodLink RX0 99 yX6_clear ∈ xtbl := xt_in 317 (by decide +kernel) rfl
theorem l_L_31 : Cond.methodLink RL 31 yX9_person ∈ xtbl := xt_in 321 (by decide +kernel) rfl
theorem l_X9_77 : Cond.methodLink RX9 77 yX0_has ∈ xtbl := xt_in 325 (by decide +kernel) rfl
theorem l_X9_84 : Cond.methodLink RX9 84 yX0_tellOf ∈ xtbl := xt_in 329 (by decide +kernel) rfl
theorem l_X0_129 : Cond.methodLink RX0 129 yX5_isTaken ∈ xtbl := xt_in 333 (by decide +kernel) rfl
theorem l_X0_133 : Cond.methodLink RX0 133 yX5_isGone ∈ xtbl := xt_in 337 (by decide +kernel) rfl
theorem l_X0_136 : Cond.methodLink RX0 136 yX0_likedBy ∈ xtbl := xt_in 343 (by decide +kernel) rfl
theorem l_X0_172 : Cond.methodLink RX0 172 yX5_likes ∈ xtbl := xt_in 347 (by decide +kernel) rfl
theorem l_X5_71 : Cond.methodLink RX5 71 yX5_picture ∈ xtbl := xt_in 351 (by decide +kernel) rfl
theorem l_X5_64 : Cond.methodLink RX5 64 yX5_wouldBeContent ∈ xtbl := xt_in 355 (by decide +kernel) rfl
theorem l_X0_146 : Cond.methodLink RX0 146 yX0_matchesOf ∈ xtbl := xt_in 361 (by decide +kernel) rfl
theorem l_X0_179 : Cond.methodLink RX0 179 yX5_isMatchOf ∈ xtbl := xt_in 365 (by decide +kernel) rfl
theorem l_X5_75 : Cond.methodLink RX5 75 yX5_wentRightOn ∈ xtbl := xt_in 369 (by decide +kernel) rfl
theorem l_X0_152 : Cond.methodLink RX0 152 yX6_choosiesOf ∈ xtbl := xt_in 373 (by decide +kernel) rfl
theorem l_X6_26 : Cond.methodLink RX6 26 yX6_isSoFor ∈ xtbl := xt_in 377 (by decide +kernel) rfl
theorem l_X6_35 : Cond.methodLink RX6 35 yX5_picture ∈ xtbl := xt_in 381 (by decide +kernel) rfl
theorem l_X6_39 : Cond.methodLink RX6 39 yX5_wouldBeContent ∈ xtbl := xt_in 382 (by decide +kernel) rfl
theorem l_X0_156 : Cond.methodLink RX0 156 yX0_toAsk ∈ xtbl := xt_in 383 (by decide +kernel) rfl
theorem l_X0_185 : Cond.methodLink RX0 185 yJ6_bitCount_0f7a4 ∈ xtbl := xt_in 387 (by decide +kernel) rfl
theorem l_X0_122 : Cond.methodLink RX0 122 yX5_picture ∈ xtbl := xt_in 393 (by decide +kernel) rfl
theorem l_X0_193 : Cond.methodLink RX0 193 yX0_leftAtWorst ∈ xtbl := xt_in 394 (by decide +kernel) rfl
theorem l_X0_197 : Cond.methodLink RX0 197 yX5_wouldBeContent ∈ xtbl := xt_in 397 (by decide +kernel) rfl
theorem l_X0_201 : Cond.methodLink RX0 201 yJ9_max_7cf53 ∈ xtbl := xt_in 398 (by decide +kernel) rfl
theorem l_L_36 : Cond.methodLink RL 36 yX9_as ∈ xtbl := xt_in 401 (by decide +kernel) rfl
theorem l_X9_88 : Cond.methodLink RX9 88 yX2_isNumber ∈ xtbl := xt_in 405 (by decide +kernel) rfl
theorem l_X9_99 : Cond.methodLink RX9 99 yX2_isA ∈ xtbl := xt_in 408 (by decide +kernel) rfl
theorem l_L_40 : Cond.methodLink RL 40 yX9_choose ∈ xtbl := xt_in 415 (by decide +kernel) rfl
theorem l_L_44 : Cond.methodLink RL 44 yX9_paint ∈ xtbl := xt_in 419 (by decide +kernel) rfl
theorem l_L_48 : Cond.methodLink RL 48 yX9_limit ∈ xtbl := xt_in 423 (by decide +kernel) rfl
theorem l_X9_108 : Cond.methodLink RX9 108 yX9_isLimit ∈ xtbl := xt_in 427 (by decide +kernel) rfl
theorem l_X9_111 : Cond.methodLink RX9 111 yX0_isEmpty ∈ xtbl := xt_in 430 (by decide +kernel) rfl
theorem l_L_52 : Cond.methodLink RL 52 yX9_show ∈ xtbl := xt_in 434 (by decide +kernel) rfl
theorem l_X9_117 : Cond.methodLink RX9 117 yX5_canBeShown ∈ xtbl := xt_in 438 (by decide +kernel) rfl
theorem l_X5_79 : Cond.methodLink RX5 79 yX5_isFree ∈ xtbl := xt_in 442 (by decide +kernel) rfl
theorem l_X5_57 : Cond.methodLink RX5 57 yX5_isTaken ∈ xtbl := xt_in 446 (by decide +kernel) rfl
theorem l_X5_61 : Cond.methodLink RX5 61 yX5_isGone ∈ xtbl := xt_in 447 (by decide +kernel) rfl
theorem l_X5_82 : Cond.methodLink RX5 82 yX5_wasShown ∈ xtbl := xt_in 448 (by decide +kernel) rfl
theorem l_X9_121 : Cond.methodLink RX9 121 yX0_present ∈ xtbl := xt_in 452 (by decide +kernel) rfl
theorem l_X0_112 : Cond.methodLink RX0 112 yX5_goesRightOn ∈ xtbl := xt_in 456 (by decide +kernel) rfl
theorem l_X5_85 : Cond.methodLink RX5 85 yX5_likes ∈ xtbl := xt_in 460 (by decide +kernel) rfl
theorem l_X5_91 : Cond.methodLink RX5 91 yX5_isTurnToHasten ∈ xtbl := xt_in 463 (by decide +kernel) rfl
theorem l_X5_98 : Cond.methodLink RX5 98 yX2_isA ∈ xtbl := xt_in 468 (by decide +kernel) rfl
theorem l_X0_116 : Cond.methodLink RX0 116 yX5_goRightOn ∈ xtbl := xt_in 469 (by decide +kernel) rfl
theorem l_X0_119 : Cond.methodLink RX0 119 yX5_goLeftOn ∈ xtbl := xt_in 473 (by decide +kernel) rfl
theorem l_X9_125 : Cond.methodLink RX9 125 yX5_isMatchOf ∈ xtbl := xt_in 477 (by decide +kernel) rfl
theorem l_L_56 : Cond.methodLink RL 56 yX9_back ∈ xtbl := xt_in 478 (by decide +kernel) rfl
theorem l_X9_128 : Cond.methodLink RX9 128 yX5_wasShown ∈ xtbl := xt_in 482 (by decide +kernel) rfl
theorem l_X9_131 : Cond.methodLink RX9 131 yX5_isCoupleWith ∈ xtbl := xt_in 483 (by decide +kernel) rfl
theorem l_X9_134 : Cond.methodLink RX9 134 yX5_wentRightOn ∈ xtbl := xt_in 487 (by decide +kernel) rfl
theorem l_X9_137 : Cond.methodLink RX9 137 yX5_takeBack ∈ xtbl := xt_in 488 (by decide +kernel) rfl
theorem l_L_60 : Cond.methodLink RL 60 yX9_day ∈ xtbl := xt_in 492 (by decide +kernel) rfl
theorem l_X9_147 : Cond.methodLink RX9 147 yX0_startDay ∈ xtbl := xt_in 496 (by decide +kernel) rfl
theorem l_L_64 : Cond.methodLink RL 64 yX9_meet ∈ xtbl := xt_in 500 (by decide +kernel) rfl
theorem l_X9_150 : Cond.methodLink RX9 150 yX5_isTaken ∈ xtbl := xt_in 504 (by decide +kernel) rfl
theorem l_X9_159 : Cond.methodLink RX9 159 yX5_isContentWith ∈ xtbl := xt_in 505 (by decide +kernel) rfl
theorem l_X9_165 : Cond.methodLink RX9 165 yX5_turnLeftOn ∈ xtbl := xt_in 509 (by decide +kernel) rfl
theorem l_L_68 : Cond.methodLink RL 68 yX9_part ∈ xtbl := xt_in 513 (by decide +kernel) rfl
theorem l_L_72 : Cond.methodLink RL 72 yX9_lasting ∈ xtbl := xt_in 517 (by decide +kernel) rfl
theorem l_X9_168 : Cond.methodLink RX9 168 yX3_canTell ∈ xtbl := xt_in 521 (by decide +kernel) rfl
theorem l_X9_171 : Cond.methodLink RX9 171 yX3_workOut ∈ xtbl := xt_in 525 (by decide +kernel) rfl
theorem l_X3_39 : Cond.methodLink RX3 39 yX0_putInOrder ∈ xtbl := xt_in 529 (by decide +kernel) rfl
theorem l_X3_52 : Cond.methodLink RX3 52 yX0_mutualOf ∈ xtbl := xt_in 533 (by decide +kernel) rfl
theorem l_X0_182 : Cond.methodLink RX0 182 yX5_isFree ∈ xtbl := xt_in 537 (by decide +kernel) rfl
theorem l_X3_59 : Cond.methodLink RX3 59 yX3_tryFrom ∈ xtbl := xt_in 538 (by decide +kernel) rfl
theorem l_X3_63 : Cond.methodLink RX3 63 yX3_lasts ∈ xtbl := xt_in 542 (by decide +kernel) rfl
theorem l_X3_71 : Cond.methodLink RX3 71 yX3_isMutual ∈ xtbl := xt_in 546 (by decide +kernel) rfl
theorem l_X3_74 : Cond.methodLink RX3 74 yX3_wants ∈ xtbl := xt_in 550 (by decide +kernel) rfl
theorem l_X3_67 : Cond.methodLink RX3 67 yX3_keepRow ∈ xtbl := xt_in 554 (by decide +kernel) rfl
theorem l_X9_175 : Cond.methodLink RX9 175 yX3_tell ∈ xtbl := xt_in 558 (by decide +kernel) rfl
theorem l_X3_35 : Cond.methodLink RX3 35 yX3_toldCouples ∈ xtbl := xt_in 562 (by decide +kernel) rfl
theorem l_L_76 : Cond.methodLink RL 76 yX9_mutual ∈ xtbl := xt_in 566 (by decide +kernel) rfl
theorem l_X9_179 : Cond.methodLink RX9 179 yX0_mutualTwos ∈ xtbl := xt_in 570 (by decide +kernel) rfl
theorem l_X0_190 : Cond.methodLink RX0 190 yX0_mutualOf ∈ xtbl := xt_in 574 (by decide +kernel) rfl
theorem l_L_80 : Cond.methodLink RL 80 yX9_comes ∈ xtbl := xt_in 575 (by decide +kernel) rfl
theorem l_X9_182 : Cond.methodLink RX9 182 yX7_isDays ∈ xtbl := xt_in 579 (by decide +kernel) rfl
theorem l_X9_185 : Cond.methodLink RX9 185 yX7_isOrder ∈ xtbl := xt_in 583 (by decide +kernel) rfl
theorem l_X9_188 : Cond.methodLink RX9 188 yX7_matchesAfter ∈ xtbl := xt_in 586 (by decide +kernel) rfl
theorem l_X7_30 : Cond.methodLink RX7 30 yX0_copyFrom ∈ xtbl := xt_in 590 (by decide +kernel) rfl
theorem l_X0_102 : Cond.methodLink RX0 102 yX5_copyFrom ∈ xtbl := xt_in 594 (by decide +kernel) rfl
theorem l_X0_106 : Cond.methodLink RX0 106 yX6_copyFrom ∈ xtbl := xt_in 598 (by decide +kernel) rfl
theorem l_X7_34 : Cond.methodLink RX7 34 yX0_clearShown ∈ xtbl := xt_in 602 (by decide +kernel) rfl
theorem l_X7_41 : Cond.methodLink RX7 41 yX0_putInOrder ∈ xtbl := xt_in 606 (by decide +kernel) rfl
theorem l_X7_45 : Cond.methodLink RX7 45 yX0_startDay ∈ xtbl := xt_in 607 (by decide +kernel) rfl
theorem l_X7_55 : Cond.methodLink RX7 55 yX7_showNextTo ∈ xtbl := xt_in 608 (by decide +kernel) rfl
theorem l_X7_63 : Cond.methodLink RX7 63 yX5_canBeShown ∈ xtbl := xt_in 612 (by decide +kernel) rfl
theorem l_X7_69 : Cond.methodLink RX7 69 yX0_present ∈ xtbl := xt_in 613 (by decide +kernel) rfl
theorem l_X7_59 : Cond.methodLink RX7 59 yX0_openMatches ∈ xtbl := xt_in 614 (by decide +kernel) rfl
theorem l_L_85 : Cond.methodLink RL 85 yX9_best ∈ xtbl := xt_in 618 (by decide +kernel) rfl
theorem l_X9_192 : Cond.methodLink RX9 192 yX7_bestLimit ∈ xtbl := xt_in 622 (by decide +kernel) rfl
theorem l_X7_26 : Cond.methodLink RX7 26 yX7_matchesAfter ∈ xtbl := xt_in 626 (by decide +kernel) rfl
theorem l_L_89 : Cond.methodLink RL 89 yX9_waiting ∈ xtbl := xt_in 627 (by decide +kernel) rfl
theorem l_X9_196 : Cond.methodLink RX9 196 yX8_isOthers ∈ xtbl := xt_in 631 (by decide +kernel) rfl
theorem l_X9_201 : Cond.methodLink RX9 201 yX8_partsOfBest ∈ xtbl := xt_in 635 (by decide +kernel) rfl
theorem l_X9_205 : Cond.methodLink RX9 205 yX8_partsOfAll ∈ xtbl := xt_in 638 (by decide +kernel) rfl
theorem l_X9_208 : Cond.methodLink RX9 208 yX8_greatestDivisor ∈ xtbl := xt_in 641 (by decide +kernel) rfl
theorem l_L_93 : Cond.methodLink RL 93 yX9_howMany ∈ xtbl := xt_in 644 (by decide +kernel) rfl
theorem l_X9_211 : Cond.methodLink RX9 211 yX8_likeliest ∈ xtbl := xt_in 648 (by decide +kernel) rfl
theorem l_X8_15 : Cond.methodLink RX8 15 yX8_partsOfBest ∈ xtbl := xt_in 651 (by decide +kernel) rfl
theorem l_L_97 : Cond.methodLink RL 97 yX9_see ∈ xtbl := xt_in 652 (by decide +kernel) rfl
theorem l_X9_221 : Cond.methodLink RX9 221 yX6_add ∈ xtbl := xt_in 656 (by decide +kernel) rfl
theorem l_L_102 : Cond.methodLink RL 102 yX9_forget ∈ xtbl := xt_in 660 (by decide +kernel) rfl
theorem l_X9_227 : Cond.methodLink RX9 227 yX6_clear ∈ xtbl := xt_in 664 (by decide +kernel) rfl
theorem l_L_106 : Cond.methodLink RL 106 yX9_seasons ∈ xtbl := xt_in 665 (by decide +kernel) rfl
theorem l_X9_228 : Cond.methodLink RX9 228 yX1_next ∈ xtbl := xt_in 669 (by decide +kernel) rfl
theorem l_X9_237 : Cond.methodLink RX9 237 yX1_pick ∈ xtbl := xt_in 675 (by decide +kernel) rfl
theorem l_X9_241 : Cond.methodLink RX9 241 yX5_likes ∈ xtbl := xt_in 679 (by decide +kernel) rfl
theorem l_X9_244 : Cond.methodLink RX9 244 yJ9_abs_0f7a4 ∈ xtbl := xt_in 680 (by decide +kernel) rfl
theorem l_L_110 : Cond.methodLink RL 110 yX9_image ∈ xtbl := xt_in 683 (by decide +kernel) rfl
theorem l_X9_249 : Cond.methodLink RX9 249 yX0_copyFrom ∈ xtbl := xt_in 687 (by decide +kernel) rfl
theorem l_L_114 : Cond.methodLink RL 114 yX9_restore ∈ xtbl := xt_in 688 (by decide +kernel) rfl
theorem l_L_118 : Cond.methodLink RL 118 yX9_count ∈ xtbl := xt_in 692 (by decide +kernel) rfl
theorem l_X9_252 : Cond.methodLink RX9 252 yX0_tell ∈ xtbl := xt_in 696 (by decide +kernel) rfl
theorem l_X0_159 : Cond.methodLink RX0 159 yX0_freeOnes ∈ xtbl := xt_in 700 (by decide +kernel) rfl
theorem l_X0_162 : Cond.methodLink RX0 162 yX0_couples ∈ xtbl := xt_in 704 (by decide +kernel) rfl
theorem l_X0_165 : Cond.methodLink RX0 165 yX0_goneOnes ∈ xtbl := xt_in 708 (by decide +kernel) rfl
theorem l_X0_168 : Cond.methodLink RX0 168 yX0_openMatches ∈ xtbl := xt_in 712 (by decide +kernel) rfl
theorem l_L_122 : Cond.methodLink RL 122 yX9_digest ∈ xtbl := xt_in 713 (by decide +kernel) rfl
theorem l_X9_257 : Cond.methodLink RX9 257 yX9_person ∈ xtbl := xt_in 719 (by decide +kernel) rfl
theorem l_X9_260 : Cond.methodLink RX9 260 yX9_foldLasting ∈ xtbl := xt_in 720 (by decide +kernel) rfl
theorem l_X9_263 : Cond.methodLink RX9 263 yX4_letterAt ∈ xtbl := xt_in 724 (by decide +kernel) rfl
theorem l_X9_266 : Cond.methodLink RX9 266 yX9_count ∈ xtbl := xt_in 725 (by decide +kernel) rfl
theorem l_L_12 : Cond.methodLink RL 12 yX10_init ∈ xtbl := xt_in 728 (by decide +kernel) rfl
theorem l_X10_1 : Cond.methodLink RX10 1 objectInit ∈ xtbl ∧ Cond.instanceMethod objectInit ∈ xtbl ∧ Cond.code objectInit ⟨#[0xb1]⟩ 1 none ∈ xtbl := ⟨xt_in 731 (by decide +kernel) rfl, xt_in 21 (by decide +kernel) rfl, xt_in 22 (by decide +kernel) rfl⟩
theorem l_L_17 : Cond.methodLink RL 17 yX10_letter ∈ xtbl := xt_in 908 (by decide +kernel) rfl
theorem l_X10_98 : Cond.methodLink RX10 98 yX10_within ∈ xtbl := xt_in 912 (by decide +kernel) rfl
theorem l_L_22 : Cond.methodLink RL 22 yX10_blank ∈ xtbl := xt_in 915 (by decide +kernel) rfl
theorem l_L_26 : Cond.methodLink RL 26 yX10_fault ∈ xtbl := xt_in 919 (by decide +kernel) rfl
theorem l_X10_133 : Cond.methodLink RX10 133 yX10_read ∈ xtbl := xt_in 923 (by decide +kernel) rfl
theorem l_X10_127 : Cond.methodLink RX10 127 yX10_readSide ∈ xtbl := xt_in 927 (by decide +kernel) rfl
theorem l_X10_124 : Cond.methodLink RX10 124 yX10_readOne ∈ xtbl := xt_in 931 (by decide +kernel) rfl
theorem l_X10_106 : Cond.methodLink RX10 106 yX10_at ∈ xtbl := xt_in 935 (by decide +kernel) rfl
theorem l_X10_110 : Cond.methodLink RX10 110 yX10_kindBy ∈ xtbl := xt_in 939 (by decide +kernel) rfl
theorem l_X10_113 : Cond.methodLink RX10 113 yX10_isFigure ∈ xtbl := xt_in 942 (by decide +kernel) rfl
theorem l_L_30 : Cond.methodLink RL 30 yX10_sea ∈ xtbl := xt_in 946 (by decide +kernel) rfl
theorem l_L_35 : Cond.methodLink RL 35 yX10_person ∈ xtbl := xt_in 950 (by decide +kernel) rfl
theorem l_X10_167 : Cond.methodLink RX10 167 yX10_isPerson ∈ xtbl := xt_in 954 (by decide +kernel) rfl
theorem l_X10_201 : Cond.methodLink RX10 201 yX10_personNow ∈ xtbl := xt_in 958 (by decide +kernel) rfl
theorem l_X10_171 : Cond.methodLink RX10 171 yX10_sideOf ∈ xtbl := xt_in 962 (by decide +kernel) rfl
theorem l_X10_189 : Cond.methodLink RX10 189 yX10_likedBy ∈ xtbl := xt_in 966 (by decide +kernel) rfl
theorem l_X10_180 : Cond.methodLink RX10 180 yX10_likes ∈ xtbl := xt_in 970 (by decide +kernel) rfl
theorem l_X10_174 : Cond.methodLink RX10 174 yX10_areOther ∈ xtbl := xt_in 974 (by decide +kernel) rfl
theorem l_X10_177 : Cond.methodLink RX10 177 yX10_picture ∈ xtbl := xt_in 978 (by decide +kernel) rfl
theorem l_X10_192 : Cond.methodLink RX10 192 yX10_matchedWith ∈ xtbl := xt_in 982 (by decide +kernel) rfl
theorem l_X10_186 : Cond.methodLink RX10 186 yX10_isMatch ∈ xtbl := xt_in 986 (by decide +kernel) rfl
theorem l_X10_183 : Cond.methodLink RX10 183 yX10_isIn ∈ xtbl := xt_in 990 (by decide +kernel) rfl
theorem l_X10_195 : Cond.methodLink RX10 195 yX10_choosiesOf ∈ xtbl := xt_in 993 (by decide +kernel) rfl
theorem l_X10_307 : Cond.methodLink RX10 307 yX10_wouldLike ∈ xtbl := xt_in 997 (by decide +kernel) rfl
theorem l_X10_198 : Cond.methodLink RX10 198 yX10_askFor ∈ xtbl := xt_in 1001 (by decide +kernel) rfl
theorem l_X10_279 : Cond.methodLink RX10 279 yX10_size ∈ xtbl := xt_in 1006 (by decide +kernel) rfl
theorem l_L_39 : Cond.methodLink RL 39 yX10_as ∈ xtbl := xt_in 1009 (by decide +kernel) rfl
theorem l_L_43 : Cond.methodLink RL 43 yX10_choose ∈ xtbl := xt_in 1013 (by decide +kernel) rfl
theorem l_L_47 : Cond.methodLink RL 47 yX10_paint ∈ xtbl := xt_in 1017 (by decide +kernel) rfl
theorem l_L_51 : Cond.methodLink RL 51 yX10_limit ∈ xtbl := xt_in 1021 (by decide +kernel) rfl
theorem l_L_55 : Cond.methodLink RL 55 yX10_show ∈ xtbl := xt_in 1025 (by decide +kernel) rfl
theorem l_X10_208 : Cond.methodLink RX10 208 yX10_areTwo ∈ xtbl := xt_in 1029 (by decide +kernel) rfl
theorem l_X10_211 : Cond.methodLink RX10 211 yX10_wasShown ∈ xtbl := xt_in 1033 (by decide +kernel) rfl
theorem l_X10_214 : Cond.methodLink RX10 214 yX10_isFree ∈ xtbl := xt_in 1037 (by decide +kernel) rfl
theorem l_X10_217 : Cond.methodLink RX10 217 yX10_shown ∈ xtbl := xt_in 1041 (by decide +kernel) rfl
theorem l_X10_205 : Cond.methodLink RX10 205 yX10_goesRight ∈ xtbl := xt_in 1045 (by decide +kernel) rfl
theorem l_L_59 : Cond.methodLink RL 59 yX10_back ∈ xtbl := xt_in 1049 (by decide +kernel) rfl
theorem l_L_63 : Cond.methodLink RL 63 yX10_day ∈ xtbl := xt_in 1053 (by decide +kernel) rfl
theorem l_L_67 : Cond.methodLink RL 67 yX10_meet ∈ xtbl := xt_in 1057 (by decide +kernel) rfl
theorem l_X10_220 : Cond.methodLink RX10 220 yX10_isContent ∈ xtbl := xt_in 1061 (by decide +kernel) rfl
theorem l_X10_223 : Cond.methodLink RX10 223 yX10_leaves ∈ xtbl := xt_in 1065 (by decide +kernel) rfl
theorem l_L_71 : Cond.methodLink RL 71 yX10_part ∈ xtbl := xt_in 1069 (by decide +kernel) rfl
theorem l_L_75 : Cond.methodLink RL 75 yX10_lasting ∈ xtbl := xt_in 1073 (by decide +kernel) rfl
theorem l_X10_261 : Cond.methodLink RX10 261 yX10_lastingNow ∈ xtbl := xt_in 1077 (by decide +kernel) rfl
theorem l_X10_258 : Cond.methodLink RX10 258 yX10_layLasting ∈ xtbl := xt_in 1081 (by decide +kernel) rfl
theorem l_X10_249 : Cond.methodLink RX10 249 yX10_isLasting ∈ xtbl := xt_in 1085 (by decide +kernel) rfl
theorem l_X10_239 : Cond.methodLink RX10 239 yX10_isRow ∈ xtbl := xt_in 1089 (by decide +kernel) rfl
theorem l_X10_230 : Cond.methodLink RX10 230 yX10_mayBe ∈ xtbl := xt_in 1093 (by decide +kernel) rfl
theorem l_X10_227 : Cond.methodLink RX10 227 yX10_likeEachOther ∈ xtbl := xt_in 1097 (by decide +kernel) rfl
theorem l_X10_243 : Cond.methodLink RX10 243 yX10_wouldLeave ∈ xtbl := xt_in 1101 (by decide +kernel) rfl
theorem l_X10_233 : Cond.methodLink RX10 233 yX10_whoHas ∈ xtbl := xt_in 1105 (by decide +kernel) rfl
theorem l_X10_236 : Cond.methodLink RX10 236 yX10_prefers ∈ xtbl := xt_in 1109 (by decide +kernel) rfl
theorem l_X10_252 : Cond.methodLink RX10 252 yX10_isBest ∈ xtbl := xt_in 1113 (by decide +kernel) rfl
theorem l_X10_255 : Cond.methodLink RX10 255 yX10_nextRow ∈ xtbl := xt_in 1117 (by decide +kernel) rfl
theorem l_L_79 : Cond.methodLink RL 79 yX10_mutual ∈ xtbl := xt_in 1121 (by decide +kernel) rfl
theorem l_X10_264 : Cond.methodLink RX10 264 yX10_mutualNow ∈ xtbl := xt_in 1125 (by decide +kernel) rfl
theorem l_L_84 : Cond.methodLink RL 84 yX10_comes ∈ xtbl := xt_in 1129 (by decide +kernel) rfl
theorem l_X10_294 : Cond.methodLink RX10 294 yX10_comesNow ∈ xtbl := xt_in 1133 (by decide +kernel) rfl
theorem l_X10_282 : Cond.methodLink RX10 282 yX10_save ∈ xtbl := xt_in 1137 (by decide +kernel) rfl
theorem l_X10_285 : Cond.methodLink RX10 285 yX10_showThree ∈ xtbl := xt_in 1141 (by decide +kernel) rfl
theorem l_X10_276 : Cond.methodLink RX10 276 yX10_nextFor ∈ xtbl := xt_in 1145 (by decide +kernel) rfl
theorem l_X10_288 : Cond.methodLink RX10 288 yX10_matches ∈ xtbl := xt_in 1149 (by decide +kernel) rfl
theorem l_X10_291 : Cond.methodLink RX10 291 yX10_load ∈ xtbl := xt_in 1153 (by decide +kernel) rfl
theorem l_L_88 : Cond.methodLink RL 88 yX10_best ∈ xtbl := xt_in 1157 (by decide +kernel) rfl
theorem l_X10_298 : Cond.methodLink RX10 298 yX10_bestNow ∈ xtbl := xt_in 1161 (by decide +kernel) rfl
theorem l_L_92 : Cond.methodLink RL 92 yX10_waiting ∈ xtbl := xt_in 1165 (by decide +kernel) rfl
theorem l_X10_301 : Cond.methodLink RX10 301 yX10_likely ∈ xtbl := xt_in 1169 (by decide +kernel) rfl
theorem l_X10_304 : Cond.methodLink RX10 304 yX10_divisor ∈ xtbl := xt_in 1172 (by decide +kernel) rfl
theorem l_L_96 : Cond.methodLink RL 96 yX10_howMany ∈ xtbl := xt_in 1175 (by decide +kernel) rfl
theorem l_L_101 : Cond.methodLink RL 101 yX10_see ∈ xtbl := xt_in 1179 (by decide +kernel) rfl
theorem l_L_105 : Cond.methodLink RL 105 yX10_forget ∈ xtbl := xt_in 1183 (by decide +kernel) rfl
theorem l_L_109 : Cond.methodLink RL 109 yX10_seasons ∈ xtbl := xt_in 1187 (by decide +kernel) rfl
theorem l_X10_326 : Cond.methodLink RX10 326 yX10_seasonsNow ∈ xtbl := xt_in 1191 (by decide +kernel) rfl
theorem l_X10_323 : Cond.methodLink RX10 323 yX10_draw ∈ xtbl := xt_in 1195 (by decide +kernel) rfl
theorem l_L_113 : Cond.methodLink RL 113 yX10_image ∈ xtbl := xt_in 1203 (by decide +kernel) rfl
theorem l_L_117 : Cond.methodLink RL 117 yX10_restore ∈ xtbl := xt_in 1207 (by decide +kernel) rfl
theorem l_L_121 : Cond.methodLink RL 121 yX10_count ∈ xtbl := xt_in 1211 (by decide +kernel) rfl
theorem l_X10_359 : Cond.methodLink RX10 359 yX10_howManyOf ∈ xtbl := xt_in 1215 (by decide +kernel) rfl
theorem l_X10_356 : Cond.methodLink RX10 356 yX10_peopleNow ∈ xtbl := xt_in 1219 (by decide +kernel) rfl
theorem l_L_126 : Cond.methodLink RL 126 yX10_digest ∈ xtbl := xt_in 1223 (by decide +kernel) rfl
theorem l_X10_369 : Cond.methodLink RX10 369 yX10_mix ∈ xtbl := xt_in 1228 (by decide +kernel) rfl
theorem l_X9_11 : (RX9, 11, yX4_init, "ThumbSea") ∈ xnest := List.mem_of_getElem? (i := 0) rfl
theorem l_X0_19 : (RX0, 19, yX6_init, "ThumbSea") ∈ xnest := List.mem_of_getElem? (i := 1) rfl
theorem l_X9_28 : (RX9, 28, yX7_init, "ThumbSea") ∈ xnest := List.mem_of_getElem? (i := 2) rfl
theorem l_X9_35 : (RX9, 35, yX3_init, "ThumbSea") ∈ xnest := List.mem_of_getElem? (i := 3) rfl
theorem l_X4_44 : (RX4, 44, yX9_isWithin, "ThumbSea") ∈ xnest := List.mem_of_getElem? (i := 4) rfl
theorem l_X3_27 : (RX3, 27, yX9_isWithin, "ThumbSea") ∈ xnest := List.mem_of_getElem? (i := 5) rfl
theorem l_X7_22 : (RX7, 22, yX9_isWithin, "ThumbSea") ∈ xnest := List.mem_of_getElem? (i := 6) rfl
theorem l_X8_9 : (RX8, 9, yX9_isWithin, "ThumbSea") ∈ xnest := List.mem_of_getElem? (i := 7) rfl
theorem k_X4_9 : XF RX4 9 2 0 (.array .int) true := ⟨_, _, rfl, by decide, xt_in 29 (by decide +kernel) rfl, rfl, by decide +kernel, rfl⟩
theorem k_X4_15 : XF RX4 15 2 1 .int false := ⟨_, _, rfl, by decide, xt_in 30 (by decide +kernel) rfl, rfl, by decide +kernel, rfl⟩
theorem k_X9_48 : XF RX9 48 2 1 .int false := ⟨_, _, rfl, by decide, xt_in 31 (by decide +kernel) rfl, rfl, by decide +kernel, rfl⟩
theorem k_X0_31 : XF RX0 31 2 1 .int false := ⟨_, _, rfl, by decide, xt_in 32 (by decide +kernel) rfl, rfl, by decide +kernel, rfl⟩
theorem k_X6_9 : XF RX6 9 4 0 (.array .int) true := ⟨_, _, rfl, by decide, xt_in 53 (by decide +kernel) rfl, rfl, by decide +kernel, rfl⟩
theorem k_X6_15 : XF RX6 15 4 1 (.array .int) true := ⟨_, _, rfl, by decide, xt_in 54 (by decide +kernel) rfl, rfl, by decide +kernel, rfl⟩
theorem k_X6_18 : XF RX6 18 4 2 (.array .boolean) true := ⟨_, _, rfl, by decide, xt_in 55 (by decide +kernel) rfl, rfl, by decide +kernel, rfl⟩
theorem k_X6_22 : XF RX6 22 4 3 .int false := ⟨_, _, rfl, by decide, xt_in 56 (by decide +kernel) rfl, rfl, by decide +kernel, rfl⟩
theorem k_X0_171 : XF RX0 171 4 3 .int false := ⟨_, _, rfl, by decide, xt_in 57 (by decide +kernel) rfl, rfl, by decide +kernel, rfl⟩
theorem k_X9_226 : XF RX9 226 4 3 .int false := ⟨_, _, rfl, by decide, xt_in 58 (by decide +kernel) rfl, rfl, by decide +kernel, rfl⟩
theorem k_X5_9 : Cond.fieldLink RX5 9 "ThumbSea$Kind" "ONE" "LThumbSea$Kind;" ∈ xtbl := xt_in 74 (by decide +kernel) rfl
theorem k_X5_24 : XF RX5 24 3 0 .int true := ⟨_, _, rfl, by decide, xt_in 76 (by decide +kernel) rfl, rfl, by decide +kernel, rfl⟩
theorem k_X6_30 : XF RX6 30 3 0 .int true := ⟨_, _, rfl, by decide, xt_in 77 (by decide +kernel) rfl, rfl, by decide +kernel, rfl⟩
theorem k_X5_27 : XF RX5 27 3 1 .int true := ⟨_, _, rfl, by decide, xt_in 78 (by decide +kernel) rfl, rfl, by decide +kernel, rfl⟩
theorem k_X0_176 : XF RX0 176 3 1 .int true := ⟨_, _, rfl, by decide, xt_in 79 (by decide +kernel) rfl, rfl, by decide +kernel, rfl⟩
theorem k_X5_15 : XF RX5 15 3 2 (.object "ThumbSea$Kind") false := ⟨_, _, rfl, by decide, xt_in 80 (by decide +kernel) rfl, rfl, by decide +kernel, rfl⟩
theorem k_X0_46 : XF RX0 46 3 2 (.object "ThumbSea$Kind") false := ⟨_, _, rfl, by decide, xt_in 81 (by decide +kernel) rfl, rfl, by decide +kernel, rfl⟩
theorem k_X9_93 : XF RX9 93 3 2 (.object "ThumbSea$Kind") false := ⟨_, _, rfl, by decide, xt_in 82 (by decide +kernel) rfl, rfl, by decide +kernel, rfl⟩
theorem k_X5_30 : XF RX5 30 3 3 .int false := ⟨_, _, rfl, by decide, xt_in 83 (by decide +kernel) rfl, rfl, by decide +kernel, rfl⟩
theorem k_X0_50 : XF RX0 50 3 3 .int false := ⟨_, _, rfl, by decide, xt_in 84 (by decide +kernel) rfl, rfl, by decide +kernel, rfl⟩
theorem k_X9_214 : XF RX9 214 3 3 .int false := ⟨_, _, rfl, by decide, xt_in 85 (by decide +kernel) rfl, rfl, by decide +kernel, rfl⟩
theorem k_X5_33 : XF RX5 33 3 4 .int false := ⟨_, _, rfl, by decide, xt_in 86 (by decide +kernel) rfl, rfl, by decide +kernel, rfl⟩
theorem k_X0_56 : XF RX0 56 3 4 .int false := ⟨_, _, rfl, by decide, xt_in 87 (by decide +kernel) rfl, rfl, by decide +kernel, rfl⟩
theorem k_X9_156 : XF RX9 156 3 4 .int false := ⟨_, _, rfl, by decide, xt_in 88 (by decide +kernel) rfl, rfl, by decide +kernel, rfl⟩
theorem k_X5_36 : XF RX5 36 3 5 .int false := ⟨_, _, rfl, by decide, xt_in 89 (by decide +kernel) rfl, rfl, by decide +kernel, rfl⟩
theorem k_X0_59 : XF RX0 59 3 5 .int false := ⟨_, _, rfl, by decide, xt_in 90 (by decide +kernel) rfl, rfl, by decide +kernel, rfl⟩
theorem k_X9_105 : XF RX9 105 3 5 .int false := ⟨_, _, rfl, by decide, xt_in 91 (by decide +kernel) rfl, rfl, by decide +kernel, rfl⟩
theorem k_X5_39 : XF RX5 39 3 6 .int false := ⟨_, _, rfl, by decide, xt_in 92 (by decide +kernel) rfl, rfl, by decide +kernel, rfl⟩
theorem k_X0_62 : XF RX0 62 3 6 .int false := ⟨_, _, rfl, by decide, xt_in 93 (by decide +kernel) rfl, rfl, by decide +kernel, rfl⟩
theorem k_X9_102 : XF RX9 102 3 6 .int false := ⟨_, _, rfl, by decide, xt_in 94 (by decide +kernel) rfl, rfl, by decide +kernel, rfl⟩
theorem k_X5_42 : XF RX5 42 3 7 .int false := ⟨_, _, rfl, by decide, xt_in 95 (by decide +kernel) rfl, rfl, by decide +kernel, rfl⟩
theorem k_X0_140 : XF RX0 140 3 7 .int false := ⟨_, _, rfl, by decide, xt_in 96 (by decide +kernel) rfl, rfl, by decide +kernel, rfl⟩
theorem k_X5_45 : XF RX5 45 3 8 .int false := ⟨_, _, rfl, by decide, xt_in 97 (by decide +kernel) rfl, rfl, by decide +kernel, rfl⟩
theorem k_X0_143 : XF RX0 143 3 8 .int false := ⟨_, _, rfl, by decide, xt_in 98 (by decide +kernel) rfl, rfl, by decide +kernel, rfl⟩
theorem k_X5_48 : XF RX5 48 3 9 .int false := ⟨_, _, rfl, by decide, xt_in 99 (by decide +kernel) rfl, rfl, by decide +kernel, rfl⟩
theorem k_X0_149 : XF RX0 149 3 9 .int false := ⟨_, _, rfl, by decide, xt_in 100 (by decide +kernel) rfl, rfl, by decide +kernel, rfl⟩
theorem k_X5_51 : XF RX5 51 3 10 .int false := ⟨_, _, rfl, by decide, xt_in 101 (by decide +kernel) rfl, rfl, by decide +kernel, rfl⟩
theorem k_X0_109 : XF RX0 109 3 10 .int false := ⟨_, _, rfl, by decide, xt_in 102 (by decide +kernel) rfl, rfl, by decide +kernel, rfl⟩
theorem k_X5_20 : XF RX5 20 3 11 .int false := ⟨_, _, rfl, by decide, xt_in 103 (by decide +kernel) rfl, rfl, by decide +kernel, rfl⟩
theorem k_X0_65 : XF RX0 65 3 11 .int false := ⟨_, _, rfl, by decide, xt_in 104 (by decide +kernel) rfl, rfl, by decide +kernel, rfl⟩
theorem k_X9_162 : XF RX9 162 3 11 .int false := ⟨_, _, rfl, by decide, xt_in 105 (by decide +kernel) rfl, rfl, by decide +kernel, rfl⟩
theorem k_X0_11 : XF RX0 11 0 0 (.array (.object "ThumbSea$Person")) true := ⟨_, _, rfl, by decide, xt_in 131 (by decide +kernel) rfl, rfl, by decide +kernel, rfl⟩
theorem k_X3_48 : XF RX3 48 0 0 (.array (.object "ThumbSea$Person")) true := ⟨_, _, rfl, by decide, xt_in 132 (by decide +kernel) rfl, rfl, by decide +kernel, rfl⟩
theorem k_X7_51 : XF RX7 51 0 0 (.array (.object "ThumbSea$Person")) true := ⟨_, _, rfl, by decide, xt_in 133 (by decide +kernel) rfl, rfl, by decide +kernel, rfl⟩
theorem k_X9_80 : XF RX9 80 0 0 (.array (.object "ThumbSea$Person")) true := ⟨_, _, rfl, by decide, xt_in 134 (by decide +kernel) rfl, rfl, by decide +kernel, rfl⟩
theorem k_X0_20 : XF RX0 20 0 1 (.object "ThumbSea$Seen") true := ⟨_, _, rfl, by decide, xt_in 135 (by decide +kernel) rfl, rfl, by decide +kernel, rfl⟩
theorem k_X9_217 : XF RX9 217 0 1 (.object "ThumbSea$Seen") true := ⟨_, _, rfl, by decide, xt_in 136 (by decide +kernel) rfl, rfl, by decide +kernel, rfl⟩
theorem k_X0_71 : XF RX0 71 0 2 .int false := ⟨_, _, rfl, by decide, xt_in 137 (by decide +kernel) rfl, rfl, by decide +kernel, rfl⟩
theorem k_X3_56 : XF RX3 56 0 2 .int false := ⟨_, _, rfl, by decide, xt_in 138 (by decide +kernel) rfl, rfl, by decide +kernel, rfl⟩
theorem k_X9_234 : XF RX9 234 0 2 .int false := ⟨_, _, rfl, by decide, xt_in 139 (by decide +kernel) rfl, rfl, by decide +kernel, rfl⟩
theorem k_X0_27 : XF RX0 27 0 3 .int false := ⟨_, _, rfl, by decide, xt_in 140 (by decide +kernel) rfl, rfl, by decide +kernel, rfl⟩
theorem k_X3_45 : XF RX3 45 0 3 .int false := ⟨_, _, rfl, by decide, xt_in 141 (by decide +kernel) rfl, rfl, by decide +kernel, rfl⟩
theorem k_X9_74 : XF RX9 74 0 3 .int false := ⟨_, _, rfl, by decide, xt_in 142 (by decide +kernel) rfl, rfl, by decide +kernel, rfl⟩
theorem k_X7_48 : XF RX7 48 0 3 .int false := ⟨_, _, rfl, by decide, xt_in 143 (by decide +kernel) rfl, rfl, by decide +kernel, rfl⟩
theorem k_X0_81 : XF RX0 81 0 4 .int false := ⟨_, _, rfl, by decide, xt_in 144 (by decide +kernel) rfl, rfl, by decide +kernel, rfl⟩
theorem k_X7_37 : XF RX7 37 0 4 .int false := ⟨_, _, rfl, by decide, xt_in 145 (by decide +kernel) rfl, rfl, by decide +kernel, rfl⟩
theorem k_X9_114 : XF RX9 114 0 4 .int false := ⟨_, _, rfl, by decide, xt_in 146 (by decide +kernel) rfl, rfl, by decide +kernel, rfl⟩
theorem k_X0_84 : XF RX0 84 0 5 .int false := ⟨_, _, rfl, by decide, xt_in 147 (by decide +kernel) rfl, rfl, by decide +kernel, rfl⟩
theorem k_X9_144 : XF RX9 144 0 5 .int false := ⟨_, _, rfl, by decide, xt_in 148 (by decide +kernel) rfl, rfl, by decide +kernel, rfl⟩
theorem k_X0_87 : XF RX0 87 0 6 .int false := ⟨_, _, rfl, by decide, xt_in 149 (by decide +kernel) rfl, rfl, by decide +kernel, rfl⟩
theorem k_X9_141 : XF RX9 141 0 6 .int false := ⟨_, _, rfl, by decide, xt_in 150 (by decide +kernel) rfl, rfl, by decide +kernel, rfl⟩
theorem k_X0_90 : XF RX0 90 0 7 .int false := ⟨_, _, rfl, by decide, xt_in 151 (by decide +kernel) rfl, rfl, by decide +kernel, rfl⟩
theorem k_X9_153 : XF RX9 153 0 7 .int false := ⟨_, _, rfl, by decide, xt_in 152 (by decide +kernel) rfl, rfl, by decide +kernel, rfl⟩
theorem k_X0_93 : XF RX0 93 0 8 .int false := ⟨_, _, rfl, by decide, xt_in 153 (by decide +kernel) rfl, rfl, by decide +kernel, rfl⟩
theorem k_X0_96 : XF RX0 96 0 9 .int false := ⟨_, _, rfl, by decide, xt_in 154 (by decide +kernel) rfl, rfl, by decide +kernel, rfl⟩
theorem k_X7_12 : XF RX7 12 5 0 (.object "ThumbSea$Crowd") true := ⟨_, _, rfl, by decide, xt_in 184 (by decide +kernel) rfl, rfl, by decide +kernel, rfl⟩
theorem k_X7_18 : XF RX7 18 5 1 (.array .int) true := ⟨_, _, rfl, by decide, xt_in 185 (by decide +kernel) rfl, rfl, by decide +kernel, rfl⟩
theorem k_X3_9 : XF RX3 9 1 0 (.array .int) true := ⟨_, _, rfl, by decide, xt_in 197 (by decide +kernel) rfl, rfl, by decide +kernel, rfl⟩
theorem k_X3_15 : XF RX3 15 1 1 (.array .int) true := ⟨_, _, rfl, by decide, xt_in 198 (by decide +kernel) rfl, rfl, by decide +kernel, rfl⟩
theorem k_X3_18 : XF RX3 18 1 2 (.array .int) true := ⟨_, _, rfl, by decide, xt_in 199 (by decide +kernel) rfl, rfl, by decide +kernel, rfl⟩
theorem k_X3_21 : XF RX3 21 1 3 (.array .int) true := ⟨_, _, rfl, by decide, xt_in 200 (by decide +kernel) rfl, rfl, by decide +kernel, rfl⟩
theorem k_X3_24 : XF RX3 24 1 4 (.array .int) true := ⟨_, _, rfl, by decide, xt_in 201 (by decide +kernel) rfl, rfl, by decide +kernel, rfl⟩
theorem k_X3_31 : XF RX3 31 1 5 .int false := ⟨_, _, rfl, by decide, xt_in 202 (by decide +kernel) rfl, rfl, by decide +kernel, rfl⟩
theorem k_X9_12 : XF RX9 12 6 0 (.object "ThumbSea$Page") true := ⟨_, _, rfl, by decide, xt_in 216 (by decide +kernel) rfl, rfl, by decide +kernel, rfl⟩
theorem k_X9_19 : XF RX9 19 6 1 (.object "ThumbSea$Crowd") true := ⟨_, _, rfl, by decide, xt_in 217 (by decide +kernel) rfl, rfl, by decide +kernel, rfl⟩
theorem k_X9_23 : XF RX9 23 6 2 (.object "ThumbSea$Crowd") true := ⟨_, _, rfl, by decide, xt_in 218 (by decide +kernel) rfl, rfl, by decide +kernel, rfl⟩
theorem k_X9_29 : XF RX9 29 6 3 (.object "ThumbSea$Trial") true := ⟨_, _, rfl, by decide, xt_in 219 (by decide +kernel) rfl, rfl, by decide +kernel, rfl⟩
theorem k_X9_36 : XF RX9 36 6 4 (.object "ThumbSea$LastingRows") true := ⟨_, _, rfl, by decide, xt_in 220 (by decide +kernel) rfl, rfl, by decide +kernel, rfl⟩
theorem k_X9_67 : XF RX9 67 6 5 .boolean false := ⟨_, _, rfl, by decide, xt_in 221 (by decide +kernel) rfl, rfl, by decide +kernel, rfl⟩
theorem k_X9_71 : XF RX9 71 6 6 .int false := ⟨_, _, rfl, by decide, xt_in 222 (by decide +kernel) rfl, rfl, by decide +kernel, rfl⟩
theorem k_X2_45 : Cond.fieldLink RX2 45 "ThumbSea$Kind" "ALL" "[LThumbSea$Kind;" ∈ xtbl := xt_in 271 (by decide +kernel) rfl
theorem k_X2_3 : Cond.fieldLink RX2 3 "ThumbSea$Kind" "ONE" "LThumbSea$Kind;" ∈ xtbl := xt_in 303 (by decide +kernel) rfl
theorem k_X5_54 : Cond.fieldLink RX5 54 "ThumbSea$Kind" "GONE" "LThumbSea$Kind;" ∈ xtbl := xt_in 341 (by decide +kernel) rfl
theorem k_X5_68 : Cond.fieldLink RX5 68 "ThumbSea$Kind" "EAGER" "LThumbSea$Kind;" ∈ xtbl := xt_in 359 (by decide +kernel) rfl
theorem k_X2_13 : Cond.fieldLink RX2 13 "ThumbSea$Kind" "SHY" "LThumbSea$Kind;" ∈ xtbl := xt_in 412 (by decide +kernel) rfl
theorem k_X2_16 : Cond.fieldLink RX2 16 "ThumbSea$Kind" "GONE" "LThumbSea$Kind;" ∈ xtbl := xt_in 414 (by decide +kernel) rfl
theorem k_X5_88 : Cond.fieldLink RX5 88 "ThumbSea$Kind" "HASTY" "LThumbSea$Kind;" ∈ xtbl := xt_in 461 (by decide +kernel) rfl
theorem k_X5_94 : Cond.fieldLink RX5 94 "ThumbSea$Kind" "SHY" "LThumbSea$Kind;" ∈ xtbl := xt_in 467 (by decide +kernel) rfl
theorem k_X10_161 : XF RX10 161 7 0 .int false := ⟨_, _, rfl, by decide, xt_in 732 (by decide +kernel) rfl, rfl, by decide +kernel, rfl⟩
theorem k_X10_137 : XF RX10 137 7 1 .int false := ⟨_, _, rfl, by decide, xt_in 733 (by decide +kernel) rfl, rfl, by decide +kernel, rfl⟩
theorem k_X10_140 : XF RX10 140 7 2 .int false := ⟨_, _, rfl, by decide, xt_in 734 (by decide +kernel) rfl, rfl, by decide +kernel, rfl⟩
theorem k_X10_7 : XF RX10 7 7 3 (.array .int) true := ⟨_, _, rfl, by decide, xt_in 735 (by decide +kernel) rfl, rfl, by decide +kernel, rfl⟩
theorem k_X10_13 : XF RX10 13 7 4 (.array .int) true := ⟨_, _, rfl, by decide, xt_in 736 (by decide +kernel) rfl, rfl, by decide +kernel, rfl⟩
theorem k_X10_16 : XF RX10 16 7 5 (.array .int) true := ⟨_, _, rfl, by decide, xt_in 737 (by decide +kernel) rfl, rfl, by decide +kernel, rfl⟩
theorem k_X10_19 : XF RX10 19 7 6 (.array .int) true := ⟨_, _, rfl, by decide, xt_in 738 (by decide +kernel) rfl, rfl, by decide +kernel, rfl⟩
theorem k_X10_22 : XF RX10 22 7 7 (.array .int) true := ⟨_, _, rfl, by decide, xt_in 739 (by decide +kernel) rfl, rfl, by decide +kernel, rfl⟩
theorem k_X10_25 : XF RX10 25 7 8 (.array .int) true := ⟨_, _, rfl, by decide, xt_in 740 (by decide +kernel) rfl, rfl, by decide +kernel, rfl⟩
theorem k_X10_28 : XF RX10 28 7 9 (.array .int) true := ⟨_, _, rfl, by decide, xt_in 741 (by decide +kernel) rfl, rfl, by decide +kernel, rfl⟩
theorem k_X10_31 : XF RX10 31 7 10 (.array .int) true := ⟨_, _, rfl, by decide, xt_in 742 (by decide +kernel) rfl, rfl, by decide +kernel, rfl⟩
theorem k_X10_34 : XF RX10 34 7 11 (.array .int) true := ⟨_, _, rfl, by decide, xt_in 743 (by decide +kernel) rfl, rfl, by decide +kernel, rfl⟩
theorem k_X10_143 : XF RX10 143 7 12 .int false := ⟨_, _, rfl, by decide, xt_in 744 (by decide +kernel) rfl, rfl, by decide +kernel, rfl⟩
theorem k_X10_146 : XF RX10 146 7 13 .int false := ⟨_, _, rfl, by decide, xt_in 745 (by decide +kernel) rfl, rfl, by decide +kernel, rfl⟩
theorem k_X10_149 : XF RX10 149 7 14 .int false := ⟨_, _, rfl, by decide, xt_in 746 (by decide +kernel) rfl, rfl, by decide +kernel, rfl⟩
theorem k_X10_152 : XF RX10 152 7 15 .int false := ⟨_, _, rfl, by decide, xt_in 747 (by decide +kernel) rfl, rfl, by decide +kernel, rfl⟩
theorem k_X10_155 : XF RX10 155 7 16 .int false := ⟨_, _, rfl, by decide, xt_in 748 (by decide +kernel) rfl, rfl, by decide +kernel, rfl⟩
theorem k_X10_158 : XF RX10 158 7 17 .int false := ⟨_, _, rfl, by decide, xt_in 749 (by decide +kernel) rfl, rfl, by decide +kernel, rfl⟩
theorem k_X10_164 : XF RX10 164 7 18 .int false := ⟨_, _, rfl, by decide, xt_in 750 (by decide +kernel) rfl, rfl, by decide +kernel, rfl⟩
theorem k_X10_37 : XF RX10 37 7 19 (.array .int) true := ⟨_, _, rfl, by decide, xt_in 751 (by decide +kernel) rfl, rfl, by decide +kernel, rfl⟩
theorem k_X10_40 : XF RX10 40 7 20 (.array .int) true := ⟨_, _, rfl, by decide, xt_in 752 (by decide +kernel) rfl, rfl, by decide +kernel, rfl⟩
theorem k_X10_43 : XF RX10 43 7 21 (.array .int) true := ⟨_, _, rfl, by decide, xt_in 753 (by decide +kernel) rfl, rfl, by decide +kernel, rfl⟩
theorem k_X10_102 : XF RX10 102 7 22 .int false := ⟨_, _, rfl, by decide, xt_in 754 (by decide +kernel) rfl, rfl, by decide +kernel, rfl⟩
theorem k_X10_46 : XF RX10 46 7 23 (.array .byte) true := ⟨_, _, rfl, by decide, xt_in 755 (by decide +kernel) rfl, rfl, by decide +kernel, rfl⟩
theorem k_X10_120 : XF RX10 120 7 24 .boolean false := ⟨_, _, rfl, by decide, xt_in 756 (by decide +kernel) rfl, rfl, by decide +kernel, rfl⟩
theorem k_X10_117 : XF RX10 117 7 25 .int false := ⟨_, _, rfl, by decide, xt_in 757 (by decide +kernel) rfl, rfl, by decide +kernel, rfl⟩
theorem k_X10_130 : XF RX10 130 7 26 .int false := ⟨_, _, rfl, by decide, xt_in 758 (by decide +kernel) rfl, rfl, by decide +kernel, rfl⟩
theorem k_X10_50 : XF RX10 50 7 27 (.array .int) true := ⟨_, _, rfl, by decide, xt_in 759 (by decide +kernel) rfl, rfl, by decide +kernel, rfl⟩
theorem k_X10_53 : XF RX10 53 7 28 (.array .int) true := ⟨_, _, rfl, by decide, xt_in 760 (by decide +kernel) rfl, rfl, by decide +kernel, rfl⟩
theorem k_X10_246 : XF RX10 246 7 29 .int false := ⟨_, _, rfl, by decide, xt_in 761 (by decide +kernel) rfl, rfl, by decide +kernel, rfl⟩
theorem k_X10_56 : XF RX10 56 7 30 (.array .int) true := ⟨_, _, rfl, by decide, xt_in 762 (by decide +kernel) rfl, rfl, by decide +kernel, rfl⟩
theorem k_X10_59 : XF RX10 59 7 31 (.array .int) true := ⟨_, _, rfl, by decide, xt_in 763 (by decide +kernel) rfl, rfl, by decide +kernel, rfl⟩
theorem k_X10_62 : XF RX10 62 7 32 (.array .int) true := ⟨_, _, rfl, by decide, xt_in 764 (by decide +kernel) rfl, rfl, by decide +kernel, rfl⟩
theorem k_X10_65 : XF RX10 65 7 33 (.array .int) true := ⟨_, _, rfl, by decide, xt_in 765 (by decide +kernel) rfl, rfl, by decide +kernel, rfl⟩
theorem k_X10_267 : XF RX10 267 7 34 .int false := ⟨_, _, rfl, by decide, xt_in 766 (by decide +kernel) rfl, rfl, by decide +kernel, rfl⟩
theorem k_X10_270 : XF RX10 270 7 35 .int false := ⟨_, _, rfl, by decide, xt_in 767 (by decide +kernel) rfl, rfl, by decide +kernel, rfl⟩
theorem k_X10_273 : XF RX10 273 7 36 .int false := ⟨_, _, rfl, by decide, xt_in 768 (by decide +kernel) rfl, rfl, by decide +kernel, rfl⟩
theorem k_X10_313 : XF RX10 313 7 37 .long false := ⟨_, _, rfl, by decide, xt_in 769 (by decide +kernel) rfl, rfl, by decide +kernel, rfl⟩
theorem k_X10_329 : XF RX10 329 7 38 .boolean false := ⟨_, _, rfl, by decide, xt_in 770 (by decide +kernel) rfl, rfl, by decide +kernel, rfl⟩
theorem k_X10_332 : XF RX10 332 7 39 .int false := ⟨_, _, rfl, by decide, xt_in 771 (by decide +kernel) rfl, rfl, by decide +kernel, rfl⟩
theorem k_X10_335 : XF RX10 335 7 40 .int false := ⟨_, _, rfl, by decide, xt_in 772 (by decide +kernel) rfl, rfl, by decide +kernel, rfl⟩
theorem k_X10_338 : XF RX10 338 7 41 .int false := ⟨_, _, rfl, by decide, xt_in 773 (by decide +kernel) rfl, rfl, by decide +kernel, rfl⟩
theorem k_X10_341 : XF RX10 341 7 42 .int false := ⟨_, _, rfl, by decide, xt_in 774 (by decide +kernel) rfl, rfl, by decide +kernel, rfl⟩
theorem k_X10_344 : XF RX10 344 7 43 .int false := ⟨_, _, rfl, by decide, xt_in 775 (by decide +kernel) rfl, rfl, by decide +kernel, rfl⟩
theorem k_X10_347 : XF RX10 347 7 44 .int false := ⟨_, _, rfl, by decide, xt_in 776 (by decide +kernel) rfl, rfl, by decide +kernel, rfl⟩
theorem k_X10_350 : XF RX10 350 7 45 .int false := ⟨_, _, rfl, by decide, xt_in 777 (by decide +kernel) rfl, rfl, by decide +kernel, rfl⟩
theorem k_X10_353 : XF RX10 353 7 46 .int false := ⟨_, _, rfl, by decide, xt_in 778 (by decide +kernel) rfl, rfl, by decide +kernel, rfl⟩
theorem k_X10_68 : XF RX10 68 7 47 (.array .int) true := ⟨_, _, rfl, by decide, xt_in 779 (by decide +kernel) rfl, rfl, by decide +kernel, rfl⟩
theorem k_X10_71 : XF RX10 71 7 48 (.array .int) true := ⟨_, _, rfl, by decide, xt_in 780 (by decide +kernel) rfl, rfl, by decide +kernel, rfl⟩
theorem k_X10_74 : XF RX10 74 7 49 (.array .int) true := ⟨_, _, rfl, by decide, xt_in 781 (by decide +kernel) rfl, rfl, by decide +kernel, rfl⟩
theorem k_X10_77 : XF RX10 77 7 50 (.array .int) true := ⟨_, _, rfl, by decide, xt_in 782 (by decide +kernel) rfl, rfl, by decide +kernel, rfl⟩
theorem k_X10_80 : XF RX10 80 7 51 (.array .int) true := ⟨_, _, rfl, by decide, xt_in 783 (by decide +kernel) rfl, rfl, by decide +kernel, rfl⟩
theorem k_X10_83 : XF RX10 83 7 52 (.array .int) true := ⟨_, _, rfl, by decide, xt_in 784 (by decide +kernel) rfl, rfl, by decide +kernel, rfl⟩
theorem k_X10_86 : XF RX10 86 7 53 (.array .int) true := ⟨_, _, rfl, by decide, xt_in 785 (by decide +kernel) rfl, rfl, by decide +kernel, rfl⟩
theorem k_X10_89 : XF RX10 89 7 54 (.array .int) true := ⟨_, _, rfl, by decide, xt_in 786 (by decide +kernel) rfl, rfl, by decide +kernel, rfl⟩
theorem k_X10_92 : XF RX10 92 7 55 (.array .int) true := ⟨_, _, rfl, by decide, xt_in 787 (by decide +kernel) rfl, rfl, by decide +kernel, rfl⟩
theorem k_X10_95 : XF RX10 95 7 56 (.array .int) true := ⟨_, _, rfl, by decide, xt_in 788 (by decide +kernel) rfl, rfl, by decide +kernel, rfl⟩
theorem k_X10_364 : XF RX10 364 7 57 .long false := ⟨_, _, rfl, by decide, xt_in 789 (by decide +kernel) rfl, rfl, by decide +kernel, rfl⟩
theorem k_X2_42 : Cond.fieldLink RX2 42 "ThumbSea$Kind" "letter" "I" ∈ xtbl := xt_in 1233 (by decide +kernel) rfl
theorem k_X0_126 : Cond.fieldLink RX0 126 "ThumbSea$Kind" "number" "I" ∈ xtbl := xt_in 1234 (by decide +kernel) rfl
theorem k_X2_38 : Cond.fieldLink RX2 38 "ThumbSea$Kind" "number" "I" ∈ xtbl := xt_in 1235 (by decide +kernel) rfl
theorem k_X5_97 : Cond.fieldLink RX5 97 "ThumbSea$Kind" "number" "I" ∈ xtbl := xt_in 1236 (by decide +kernel) rfl
theorem n_L_7 : Cond.classLink RL 7 RX9 ∈ xtbl ∧ Cond.instantiable RX9 (xnf 6) ∈ xtbl ∧ Cond.initialized RX9 ∈ xtbl := ⟨xt_in 15 (by decide +kernel) rfl, xt_in 16 (by decide +kernel) rfl, xt_in 1 (by decide +kernel) rfl⟩
theorem n_X9_9 : Cond.classLink RX9 9 RX4 ∈ xtbl ∧ Cond.instantiable RX4 (xnf 2) ∈ xtbl ∧ Cond.initialized RX4 ∈ xtbl := ⟨xt_in 23 (by decide +kernel) rfl, xt_in 24 (by decide +kernel) rfl, xt_in 2 (by decide +kernel) rfl⟩
theorem n_X9_16 : Cond.classLink RX9 16 RX0 ∈ xtbl ∧ Cond.instantiable RX0 (xnf 0) ∈ xtbl ∧ Cond.initialized RX0 ∈ xtbl := ⟨xt_in 39 (by decide +kernel) rfl, xt_in 40 (by decide +kernel) rfl, xt_in 3 (by decide +kernel) rfl⟩
theorem n_X0_9 : Cond.classLink RX0 9 RX5 ∈ xtbl ∧ Cond.instantiable RX5 (xnf 3) ∈ xtbl ∧ Cond.initialized RX5 ∈ xtbl := ⟨xt_in 45 (by decide +kernel) rfl, xt_in 69 (by decide +kernel) rfl, xt_in 5 (by decide +kernel) rfl⟩
theorem n_X0_17 : Cond.classLink RX0 17 RX6 ∈ xtbl ∧ Cond.instantiable RX6 (xnf 4) ∈ xtbl ∧ Cond.initialized RX6 ∈ xtbl := ⟨xt_in 47 (by decide +kernel) rfl, xt_in 48 (by decide +kernel) rfl, xt_in 4 (by decide +kernel) rfl⟩
theorem n_X9_26 : Cond.classLink RX9 26 RX7 ∈ xtbl ∧ Cond.instantiable RX7 (xnf 5) ∈ xtbl ∧ Cond.initialized RX7 ∈ xtbl := ⟨xt_in 176 (by decide +kernel) rfl, xt_in 177 (by decide +kernel) rfl, xt_in 8 (by decide +kernel) rfl⟩
theorem n_X7_9 : Cond.classLink RX7 9 RX0 ∈ xtbl ∧ Cond.instantiable RX0 (xnf 0) ∈ xtbl ∧ Cond.initialized RX0 ∈ xtbl := ⟨xt_in 182 (by decide +kernel) rfl, xt_in 40 (by decide +kernel) rfl, xt_in 3 (by decide +kernel) rfl⟩
theorem n_X9_33 : Cond.classLink RX9 33 RX3 ∈ xtbl ∧ Cond.instantiable RX3 (xnf 1) ∈ xtbl ∧ Cond.initialized RX3 ∈ xtbl := ⟨xt_in 191 (by decide +kernel) rfl, xt_in 192 (by decide +kernel) rfl, xt_in 9 (by decide +kernel) rfl⟩
theorem c_J6_265 : Cond.constant RJ6 265 1431655765 ∈ xtbl := xt_in 390 (by decide +kernel) rfl
theorem c_J6_266 : Cond.constant RJ6 266 858993459 ∈ xtbl := xt_in 391 (by decide +kernel) rfl
theorem c_J6_267 : Cond.constant RJ6 267 252645135 ∈ xtbl := xt_in 392 (by decide +kernel) rfl
theorem c_X1_7 : Cond.constantLong RX1 7 1103515245 ∈ xtbl := xt_in 672 (by decide +kernel) rfl
theorem c_X1_9 : Cond.constantLong RX1 9 12345 ∈ xtbl := xt_in 673 (by decide +kernel) rfl
theorem c_X1_11 : Cond.constantLong RX1 11 2147483647 ∈ xtbl := xt_in 674 (by decide +kernel) rfl
theorem c_X1_13 : Cond.constantLong RX1 13 65536 ∈ xtbl := xt_in 678 (by decide +kernel) rfl
theorem c_X9_253 : Cond.constantLong RX9 253 1123 ∈ xtbl := xt_in 717 (by decide +kernel) rfl
theorem c_X9_255 : Cond.constantLong RX9 255 31 ∈ xtbl := xt_in 718 (by decide +kernel) rfl
theorem n_L_10 : Cond.classLink RL 10 RX10 ∈ xtbl ∧ Cond.instantiable RX10 (xnf 7) ∈ xtbl ∧ Cond.initialized RX10 ∈ xtbl := ⟨xt_in 726 (by decide +kernel) rfl, xt_in 727 (by decide +kernel) rfl, xt_in 10 (by decide +kernel) rfl⟩
theorem c_X10_310 : Cond.constant RX10 310 268435456 ∈ xtbl := xt_in 1005 (by decide +kernel) rfl
theorem c_X10_311 : Cond.constantLong RX10 311 1103515245 ∈ xtbl := xt_in 1199 (by decide +kernel) rfl
theorem c_X10_317 : Cond.constantLong RX10 317 12345 ∈ xtbl := xt_in 1200 (by decide +kernel) rfl
theorem c_X10_319 : Cond.constantLong RX10 319 2147483647 ∈ xtbl := xt_in 1201 (by decide +kernel) rfl
theorem c_X10_321 : Cond.constantLong RX10 321 65536 ∈ xtbl := xt_in 1202 (by decide +kernel) rfl
theorem c_X10_367 : Cond.constantLong RX10 367 1123 ∈ xtbl := xt_in 1227 (by decide +kernel) rfl
theorem c_X10_362 : Cond.constantLong RX10 362 31 ∈ xtbl := xt_in 1232 (by decide +kernel) rfl
theorem a_int : Cond.arrayClass .int ∈ xtbl := xt_in 38 (by decide +kernel) rfl
theorem a_boolean : Cond.arrayClass .boolean ∈ xtbl := xt_in 68 (by decide +kernel) rfl
theorem a_byte : Cond.arrayClass .byte ∈ xtbl := xt_in 907 (by decide +kernel) rfl
end
section
def rtL : List (List (Option Nat)) := [[some 1, some 3, some 17, some 31, some 47], [some 2], [], [some 4, some 5], [some 9, some 10, some 11, some 12, some 13, some 14, some 15, some 16], [some 6, some 7, some 8], [], [], [], [], [], [], [], [], [], [], [], [some 18, some 19], [some 23, some 24, some 25, some 26, some 27, some 28, some 29, some 30], [some 20, some 21, some 22], [], [], [], [], [], [], [], [], [], [], [], [some 32, some 46], [some 33, some 34], [some 38, some 39, some 40, some 41, some 42, some 43, some 44, some 45], [some 35, some 36, some 37], [], [], [], [], [], [], [], [], [], [], [], [], [some 48, some 49, some 50, some 51, some 52], [], [], [], [], [], [none, none, none, some 54, some 55, some 56, some 57, some 58, some 59, some 60, some 61, some 62, none, none, none, none, none, none, none, some 63, some 64, some 65, none, some 66, none, none, none, some 67, some 68, none, some 69, some 70, some 71, some 72, none, none, none, none, none, none, none, none, none, none, none, none, none, some 73, some 74, some 75, some 76, some 77, some 78, some 79, some 80, some 81, some 82, none], [], [], [], [], [], [], [], [], [], [], [], [], [], [], [], [], [], [], [], [], [], [], [], [], [], [], [], [], []]
def RT (a k : Nat) : Option Nat := (rtL.getD a []).getD k none
/-- an object of class ci stands at a -/
def XO (ci a : Nat) : Prop := a < 83 ∧ xsh.getD a (9, 0) = (0, ci)
/-- the three crowds -/
def isC (c : Nat) : Prop := c = 3 ∨ c = 17 ∨ c = 32
theorem isC.o {c : Nat} (h : isC c) : XO 0 c := by rcases h with rfl | rfl | rfl <;> exact ⟨by decide, rfl⟩
theorem isC.people {c : Nat} (h : isC c) : RT c 0 = some (c + 1) := by rcases h with rfl | rfl | rfl <;> rfl
theorem isC.seen {c : Nat} (h : isC c) : RT c 1 = some (c + 2) := by rcases h with rfl | rfl | rfl <;> rfl
theorem isC.a1 {c : Nat} (h : isC c) : c + 1 < 83 ∧ xsh.getD (c + 1) (9, 0) = (4, 8) := by rcases h with rfl | rfl | rfl <;> exact ⟨by decide, rfl⟩
theorem isC.o2 {c : Nat} (h : isC c) : XO 4 (c + 2) := by rcases h with rfl | rfl | rfl <;> exact ⟨by decide, rfl⟩
theorem isC.r3 {c : Nat} (h : isC c) : RT (c + 2) 0 = some (c + 3) := by rcases h with rfl | rfl | rfl <;> rfl
theorem isC.r4 {c : Nat} (h : isC c) : RT (c + 2) 1 = some (c + 4) := by rcases h with rfl | rfl | rfl <;> rfl
theorem isC.r5 {c : Nat} (h : isC c) : RT (c + 2) 2 = some (c + 5) := by rcases h with rfl | rfl | rfl <;> rfl
theorem isC.a3 {c : Nat} (h : isC c) : c + 3 < 83 ∧ xsh.getD (c + 3) (9, 0) = (1, 8) := by rcases h with rfl | rfl | rfl <;> exact ⟨by decide, rfl⟩
theorem isC.a4 {c : Nat} (h : isC c) : c + 4 < 83 ∧ xsh.getD (c + 4) (9, 0) = (1, 8) := by rcases h with rfl | rfl | rfl <;> exact ⟨by decide, rfl⟩
theorem isC.a5 {c : Nat} (h : isC c) : c + 5 < 83 ∧ xsh.getD (c + 5) (9, 0) = (2, 8) := by rcases h with rfl | rfl | rfl <;> exact ⟨by decide, rfl⟩
theorem isC.rp {c i : Nat} (h : isC c) (hi : i < 8) : RT (c + 1) i = some (c + 6 + i) := by
  match i, hi with
  | 0, _ => rcases h with rfl | rfl | rfl <;> rfl
  | 1, _ => rcases h with rfl | rfl | rfl <;> rfl
  | 2, _ => rcases h with rfl | rfl | rfl <;> rfl
  | 3, _ => rcases h with rfl | rfl | rfl <;> rfl
  | 4, _ => rcases h with rfl | rfl | rfl <;> rfl
  | 5, _ => rcases h with rfl | rfl | rfl <;> rfl
  | 6, _ => rcases h with rfl | rfl | rfl <;> rfl
  | 7, _ => rcases h with rfl | rfl | rfl <;> rfl
theorem isC.p {c i : Nat} (h : isC c) (hi : i < 8) : XO 3 (c + 6 + i) := by
  match i, hi with
  | 0, _ => rcases h with rfl | rfl | rfl <;> exact ⟨by decide, rfl⟩
  | 1, _ => rcases h with rfl | rfl | rfl <;> exact ⟨by decide, rfl⟩
  | 2, _ => rcases h with rfl | rfl | rfl <;> exact ⟨by decide, rfl⟩
  | 3, _ => rcases h with rfl | rfl | rfl <;> exact ⟨by decide, rfl⟩
  | 4, _ => rcases h with rfl | rfl | rfl <;> exact ⟨by decide, rfl⟩
  | 5, _ => rcases h with rfl | rfl | rfl <;> exact ⟨by decide, rfl⟩
  | 6, _ => rcases h with rfl | rfl | rfl <;> exact ⟨by decide, rfl⟩
  | 7, _ => rcases h with rfl | rfl | rfl <;> exact ⟨by decide, rfl⟩
/-- every person has a kind -/
def KV (hi : Nat → Nat → Int32) : Prop := ∀ p, XO 3 p → ∃ j : Nat, j < 5 ∧ hi p 2 = nI j
def bI (b : Bool) : Int32 := if b = true then 1 else 0
theorem bI_0 {b : Bool} : bI b = 0 ↔ b = false := by cases b <;> decide
theorem bI_n {b : Bool} : ¬ bI b = 0 ↔ b = true := by cases b <;> decide
theorem bI_nar (b : Bool) : narrow .boolean (.int (bI b)) = .int (bI b) := by cases b <;> rfl
theorem upI_s {f : Nat → Nat → Int32} {a k : Nat} {v : Int32} : upI f a k v a k = v := if_pos ⟨rfl, rfl⟩
theorem upI_k {f : Nat → Nat → Int32} {a b k j : Nat} {v : Int32} (h : j ≠ k) : upI f a k v b j = f b j := if_neg (fun q => h q.2)
theorem upI_a {f : Nat → Nat → Int32} {a b k j : Nat} {v : Int32} (h : b ≠ a) : upI f a k v b j = f b j := if_neg (fun q => h q.1)
theorem upI_nz {x : Int32} {j c : Nat} (h : x = nI j) (hj : j < 5) (hc : c < 5) : x = nI c ↔ j = c := by rw [h]; exact nI_eq (by omega) (by omega)
theorem kx0 {x : Int32} {j : Nat} (h : x = nI j) (hj : j < 5) : x = 0 ↔ j = 0 := upI_nz h hj (by decide)
theorem kx1 {x : Int32} {j : Nat} (h : x = nI j) (hj : j < 5) : x = 1 ↔ j = 1 := upI_nz h hj (by decide)
theorem kx2 {x : Int32} {j : Nat} (h : x = nI j) (hj : j < 5) : x = 2 ↔ j = 2 := upI_nz h hj (by decide)
theorem kx3 {x : Int32} {j : Nat} (h : x = nI j) (hj : j < 5) : x = 3 ↔ j = 3 := upI_nz h hj (by decide)
theorem kx4 {x : Int32} {j : Nat} (h : x = nI j) (hj : j < 5) : x = 4 ↔ j = 4 := upI_nz h hj (by decide)

/-! what a person is and does, by his cell p -/
def pPic (hi : Nat → Nat → Int32) (p : Nat) : Int32 := hi p 4 + hi p 5
def pTaken (hi : Nat → Nat → Int32) (p : Nat) : Bool := !decide (hi p 11 = -1)
def pGone (hi : Nat → Nat → Int32) (p : Nat) : Bool := decide (hi p 2 = 4)
def pFree (hi : Nat → Nat → Int32) (p : Nat) : Bool := !pTaken hi p && !pGone hi p
def pCont (hi : Nat → Nat → Int32) (p : Nat) (s a : Int32) : Bool := decide (hi p 2 = 1) || !decide (a < s)
def pLikes (hi : Nat → Nat → Int32) (p q : Nat) : Bool := !decide (hi p 3 = hi q 3) && pCont hi p (hi p 6) (pPic hi q)
def pWent (hi : Nat → Nat → Int32) (p q : Nat) : Bool := !decide (hi p 7 &&& hi q 1 = 0)
def pShown (hi : Nat → Nat → Int32) (p q : Nat) : Bool := !decide ((hi p 7 ||| hi p 8) &&& hi q 1 = 0)
def pMatch (hi : Nat → Nat → Int32) (p q : Nat) : Bool := pWent hi p q && pWent hi q p
def pCan (hi : Nat → Nat → Int32) (p q : Nat) : Bool := !decide (hi p 3 = hi q 3) && (pFree hi p && (!pTaken hi q && !pShown hi p q))
def kIsA (k w : Int32) : Bool := decide (w = 0) || (decide (w = k) || (decide (w = 3) && decide (k = 4)))
def pHasten (hi : Nat → Nat → Int32) (p : Nat) : Bool := decide (hi p 9 - hi p 9 / 3 * 3 = 2)
def pRight (hi : Nat → Nat → Int32) (p q : Nat) (lim : Int32) : Bool := (pLikes hi p q && !decide (lim ≤ hi p 10)) && (!(decide (hi p 2 = 2) && pHasten hi p) && (!kIsA (hi p 2) 3 || pWent hi q p))
end
section
section
variable {E : XE} {l : Launch} {hi : Nat → Nat → Int32} {hl : Nat → Nat → Int64}

set_option maxRecDepth 100000 in
set_option maxHeartbeats 4000000 in
theorem ct_picture {p : Nat} (hp : XO 3 p) : MC E l 1 mX5_picture [.ref p] 83 (hi, hl, RT) 0 0 (fun r h' => r = some (.int (pPic hi p)) ∧ h' = (hi, hl, RT)) := by
  refine MC.of [some (.ref p)] (by decide) rfl (Nat.le_of_ble_eq_true rfl) ?_
  refine g_aload_n dX5_picture_0 rfl ?_
  refine g_geti dX5_picture_1 k_X5_33 rfl hp.1 hp.2 ?_
  refine g_aload_n dX5_picture_4 rfl ?_
  refine g_geti dX5_picture_5 k_X5_36 rfl hp.1 hp.2 ?_
  refine g_iadd dX5_picture_8 ?_
  exact g_ireturn dX5_picture_9 rfl rfl ⟨rfl, rfl⟩

set_option maxRecDepth 100000 in
set_option maxHeartbeats 4000000 in
theorem ct_isTaken {p : Nat} (hp : XO 3 p) : MC E l 1 mX5_isTaken [.ref p] 83 (hi, hl, RT) 0 0 (fun r h' => r = some (.int (bI (pTaken hi p))) ∧ h' = (hi, hl, RT)) := by
  refine MC.of [some (.ref p)] (by decide) rfl (Nat.le_of_ble_eq_true rfl) ?_
  refine g_aload_n dX5_isTaken_0 rfl ?_
  refine g_geti dX5_isTaken_1 k_X5_20 rfl hp.1 hp.2 ?_
  refine g_iconst (v := -1) dX5_isTaken_4 (by decide) ?_
  refine g_icmpeq 12 dX5_isTaken_5 (by decide) (fun c5 => ?_) (fun c5 => ?_)
  · skip
    refine g_iconst (v := 0) dX5_isTaken_12 (by decide) ?_
    exact g_ireturn dX5_isTaken_13 rfl rfl ⟨by simp_all [bI, pTaken], rfl⟩
  · skip
    refine g_iconst (v := 1) dX5_isTaken_8 (by decide) ?_
    refine g_goto 13 dX5_isTaken_9 (by decide) ?_
    exact g_ireturn dX5_isTaken_13 rfl rfl ⟨by simp_all [bI, pTaken], rfl⟩

set_option maxRecDepth 100000 in
set_option maxHeartbeats 4000000 in
theorem ct_isGone (hkv : KV hi) {p : Nat} (hp : XO 3 p) : MC E l 1 mX5_isGone [.ref p] 83 (hi, hl, RT) 0 0 (fun r h' => r = some (.int (bI (pGone hi p))) ∧ h' = (hi, hl, RT)) := by
  refine MC.of [some (.ref p)] (by decide) rfl (Nat.le_of_ble_eq_true rfl) ?_
  obtain ⟨jkp, h5p, hjp⟩ := hkv p hp
  have e4 := kx4 hjp h5p
  refine g_aload_n dX5_isGone_0 rfl ?_
  refine g_getk dX5_isGone_1 k_X5_15 rfl hp.1 hp.2 hjp h5p ?_
  refine g_getsK (i := 4) dX5_isGone_4 (by decide) rfl k_X5_54 ?_
  refine g_acmpne 14 dX5_isGone_7 (by decide) h5p (by decide) (fun c7 => ?_) (fun c7 => ?_)
  · skip
    refine g_iconst (v := 0) dX5_isGone_14 (by decide) ?_
    exact g_ireturn dX5_isGone_15 rfl rfl ⟨by simp_all [bI, pGone], rfl⟩
  · skip
    refine g_iconst (v := 1) dX5_isGone_10 (by decide) ?_
    refine g_goto 15 dX5_isGone_11 (by decide) ?_
    exact g_ireturn dX5_isGone_15 rfl rfl ⟨by simp_all [bI, pGone], rfl⟩

set_option maxRecDepth 100000 in
set_option maxHeartbeats 4000000 in
theorem ct_isFree (hkv : KV hi) {p : Nat} (hp : XO 3 p) : MC E l 2 mX5_isFree [.ref p] 83 (hi, hl, RT) 0 0 (fun r h' => r = some (.int (bI (pFree hi p))) ∧ h' = (hi, hl, RT)) := by
  refine MC.of [some (.ref p)] (by decide) rfl (Nat.le_of_ble_eq_true rfl) ?_
  refine g_aload_n dX5_isFree_0 rfl ?_
  refine g_callV0 dX5_isFree_1 l_X5_57 s_mX5_isTaken hp.1 hp.2 rfl f_mX5_isTaken (Nat.le_of_ble_eq_true rfl) (by decide) (ct_isTaken hp) ?_
  rintro _ _ ⟨rfl, rfl⟩
  refine g_ifne 18 dX5_isFree_4 (by decide) (fun c4 => ?_) (fun c4 => ?_)
  · skip
    refine g_iconst (v := 0) dX5_isFree_18 (by decide) ?_
    exact g_ireturn dX5_isFree_19 rfl rfl ⟨by simp_all [bI, pFree], rfl⟩
  · skip
    refine g_aload_n dX5_isFree_7 rfl ?_
    refine g_callV0 dX5_isFree_8 l_X5_61 s_mX5_isGone hp.1 hp.2 rfl f_mX5_isGone (Nat.le_of_ble_eq_true rfl) (by decide) (ct_isGone hkv hp) ?_
    rintro _ _ ⟨rfl, rfl⟩
    refine g_ifne 18 dX5_isFree_11 (by decide) (fun c11 => ?_) (fun c11 => ?_)
    · skip
      refine g_iconst (v := 0) dX5_isFree_18 (by decide) ?_
      exact g_ireturn dX5_isFree_19 rfl rfl ⟨by simp_all [bI, pFree], rfl⟩
    · skip
      refine g_iconst (v := 1) dX5_isFree_14 (by decide) ?_
      refine g_goto 19 dX5_isFree_15 (by decide) ?_
      exact g_ireturn dX5_isFree_19 rfl rfl ⟨by simp_all [bI, pFree], rfl⟩

set_option maxRecDepth 100000 in
set_option maxHeartbeats 4000000 in
theorem ct_isCoupleWith {p q : Nat} (hp : XO 3 p) (hq : XO 3 q) : MC E l 1 mX5_isCoupleWith [.ref p, .ref q] 83 (hi, hl, RT) 0 0 (fun r h' => r = some (.int (bI (decide (hi p 11 = hi q 0)))) ∧ h' = (hi, hl, RT)) := by
  refine MC.of [some (.ref p), some (.ref q)] (by decide) rfl (Nat.le_of_ble_eq_true rfl) ?_
  refine g_aload_n dX5_isCoupleWith_0 rfl ?_
  refine g_geti dX5_isCoupleWith_1 k_X5_20 rfl hp.1 hp.2 ?_
  refine g_aload_n dX5_isCoupleWith_4 rfl ?_
  refine g_geti dX5_isCoupleWith_5 k_X5_24 rfl hq.1 hq.2 ?_
  refine g_icmpne 15 dX5_isCoupleWith_8 (by decide) (fun c8 => ?_) (fun c8 => ?_)
  · skip
    refine g_iconst (v := 0) dX5_isCoupleWith_15 (by decide) ?_
    exact g_ireturn dX5_isCoupleWith_16 rfl rfl ⟨by simp_all [bI], rfl⟩
  · skip
    refine g_iconst (v := 1) dX5_isCoupleWith_11 (by decide) ?_
    refine g_goto 16 dX5_isCoupleWith_12 (by decide) ?_
    exact g_ireturn dX5_isCoupleWith_16 rfl rfl ⟨by simp_all [bI], rfl⟩

set_option maxRecDepth 100000 in
set_option maxHeartbeats 4000000 in
theorem ct_wouldBeContent (hkv : KV hi) {p : Nat} (hp : XO 3 p) (s a : Int32) : MC E l 1 mX5_wouldBeContent [.ref p, .int s, .int a] 83 (hi, hl, RT) 0 0 (fun r h' => r = some (.int (bI (pCont hi p s a))) ∧ h' = (hi, hl, RT)) := by
  refine MC.of [some (.ref p), some (.int s), some (.int a)] (by decide) rfl (Nat.le_of_ble_eq_true rfl) ?_
  obtain ⟨jkp, h5p, hjp⟩ := hkv p hp
  have e1 := kx1 hjp h5p
  refine g_aload_n dX5_wouldBeContent_0 rfl ?_
  refine g_getk dX5_wouldBeContent_1 k_X5_15 rfl hp.1 hp.2 hjp h5p ?_
  refine g_getsK (i := 1) dX5_wouldBeContent_4 (by decide) rfl k_X5_68 ?_
  refine g_acmpeq 15 dX5_wouldBeContent_7 (by decide) h5p (by decide) (fun c7 => ?_) (fun c7 => ?_)
  · skip
    refine g_iconst (v := 1) dX5_wouldBeContent_15 (by decide) ?_
    refine g_goto 20 dX5_wouldBeContent_16 (by decide) ?_
    exact g_ireturn dX5_wouldBeContent_20 rfl rfl ⟨by simp_all [bI, pCont], rfl⟩
  · skip
    refine g_iload_n dX5_wouldBeContent_10 rfl ?_
    refine g_iload_n dX5_wouldBeContent_11 rfl ?_
    refine g_icmplt 19 dX5_wouldBeContent_12 (by decide) (fun c12 => ?_) (fun c12 => ?_)
    · skip
      refine g_iconst (v := 0) dX5_wouldBeContent_19 (by decide) ?_
      exact g_ireturn dX5_wouldBeContent_20 rfl rfl ⟨by simp_all [bI, pCont], rfl⟩
    · skip
      refine g_iconst (v := 1) dX5_wouldBeContent_15 (by decide) ?_
      refine g_goto 20 dX5_wouldBeContent_16 (by decide) ?_
      exact g_ireturn dX5_wouldBeContent_20 rfl rfl ⟨by simp_all [bI, pCont], rfl⟩

set_option maxRecDepth 100000 in
set_option maxHeartbeats 4000000 in
theorem ct_isContentWith (hkv : KV hi) {p : Nat} (hp : XO 3 p) (a : Int32) : MC E l 2 mX5_isContentWith [.ref p, .int a] 83 (hi, hl, RT) 0 0 (fun r h' => r = some (.int (bI (pCont hi p (hi p 6) a))) ∧ h' = (hi, hl, RT)) := by
  refine MC.of [some (.ref p), some (.int a)] (by decide) rfl (Nat.le_of_ble_eq_true rfl) ?_
  refine g_aload_n dX5_isContentWith_0 rfl ?_
  refine g_aload_n dX5_isContentWith_1 rfl ?_
  refine g_geti dX5_isContentWith_2 k_X5_39 rfl hp.1 hp.2 ?_
  refine g_iload_n dX5_isContentWith_5 rfl ?_
  refine g_callV2 dX5_isContentWith_6 l_X5_64 s_mX5_wouldBeContent hp.1 hp.2 rfl f_mX5_wouldBeContent (Nat.le_of_ble_eq_true rfl) (by decide) (ct_wouldBeContent hkv hp _ _) ?_
  rintro _ _ ⟨rfl, rfl⟩
  exact g_ireturn dX5_isContentWith_9 rfl (bI_nar _) ⟨rfl, rfl⟩

set_option maxRecDepth 100000 in
set_option maxHeartbeats 4000000 in
theorem ct_likes (hkv : KV hi) {p q : Nat} (hp : XO 3 p) (hq : XO 3 q) : MC E l 2 mX5_likes [.ref p, .ref q] 83 (hi, hl, RT) 0 0 (fun r h' => r = some (.int (bI (pLikes hi p q))) ∧ h' = (hi, hl, RT)) := by
  refine MC.of [some (.ref p), some (.ref q)] (by decide) rfl (Nat.le_of_ble_eq_true rfl) ?_
  refine g_aload_n dX5_likes_0 rfl ?_
  refine g_geti dX5_likes_1 k_X5_30 rfl hp.1 hp.2 ?_
  refine g_aload_n dX5_likes_4 rfl ?_
  refine g_geti dX5_likes_5 k_X5_30 rfl hq.1 hq.2 ?_
  refine g_icmpeq 30 dX5_likes_8 (by decide) (fun c8 => ?_) (fun c8 => ?_)
  · skip
    refine g_iconst (v := 0) dX5_likes_30 (by decide) ?_
    exact g_ireturn dX5_likes_31 rfl rfl ⟨by simp_all [bI, pLikes], rfl⟩
  · skip
    refine g_aload_n dX5_likes_11 rfl ?_
    refine g_aload_n dX5_likes_12 rfl ?_
    refine g_geti dX5_likes_13 k_X5_39 rfl hp.1 hp.2 ?_
    refine g_aload_n dX5_likes_16 rfl ?_
    refine g_callV0 dX5_likes_17 l_X5_71 s_mX5_picture hq.1 hq.2 rfl f_mX5_picture (Nat.le_of_ble_eq_true rfl) (by decide) (ct_picture hq) ?_
    rintro _ _ ⟨rfl, rfl⟩
    refine g_callV2 dX5_likes_20 l_X5_64 s_mX5_wouldBeContent hp.1 hp.2 rfl f_mX5_wouldBeContent (Nat.le_of_ble_eq_true rfl) (by decide) (ct_wouldBeContent hkv hp _ _) ?_
    rintro _ _ ⟨rfl, rfl⟩
    refine g_ifeq 30 dX5_likes_23 (by decide) (fun c23 => ?_) (fun c23 => ?_)
    · skip
      refine g_iconst (v := 0) dX5_likes_30 (by decide) ?_
      exact g_ireturn dX5_likes_31 rfl rfl ⟨by simp_all [bI, pLikes], rfl⟩
    · skip
      refine g_iconst (v := 1) dX5_likes_26 (by decide) ?_
      refine g_goto 31 dX5_likes_27 (by decide) ?_
      exact g_ireturn dX5_likes_31 rfl rfl ⟨by simp_all [bI, pLikes], rfl⟩

set_option maxRecDepth 100000 in
set_option maxHeartbeats 4000000 in
theorem ct_wentRightOn {p q : Nat} (hp : XO 3 p) (hq : XO 3 q) : MC E l 1 mX5_wentRightOn [.ref p, .ref q] 83 (hi, hl, RT) 0 0 (fun r h' => r = some (.int (bI (pWent hi p q))) ∧ h' = (hi, hl, RT)) := by
  refine MC.of [some (.ref p), some (.ref q)] (by decide) rfl (Nat.le_of_ble_eq_true rfl) ?_
  refine g_aload_n dX5_wentRightOn_0 rfl ?_
  refine g_geti dX5_wentRightOn_1 k_X5_42 rfl hp.1 hp.2 ?_
  refine g_aload_n dX5_wentRightOn_4 rfl ?_
  refine g_geti dX5_wentRightOn_5 k_X5_27 rfl hq.1 hq.2 ?_
  refine g_iand dX5_wentRightOn_8 ?_
  refine g_ifeq 16 dX5_wentRightOn_9 (by decide) (fun c9 => ?_) (fun c9 => ?_)
  · skip
    refine g_iconst (v := 0) dX5_wentRightOn_16 (by decide) ?_
    exact g_ireturn dX5_wentRightOn_17 rfl rfl ⟨by simp_all [bI, pWent], rfl⟩
  · skip
    refine g_iconst (v := 1) dX5_wentRightOn_12 (by decide) ?_
    refine g_goto 17 dX5_wentRightOn_13 (by decide) ?_
    exact g_ireturn dX5_wentRightOn_17 rfl rfl ⟨by simp_all [bI, pWent], rfl⟩

set_option maxRecDepth 100000 in
set_option maxHeartbeats 4000000 in
theorem ct_wasShown {p q : Nat} (hp : XO 3 p) (hq : XO 3 q) : MC E l 1 mX5_wasShown [.ref p, .ref q] 83 (hi, hl, RT) 0 0 (fun r h' => r = some (.int (bI (pShown hi p q))) ∧ h' = (hi, hl, RT)) := by
  refine MC.of [some (.ref p), some (.ref q)] (by decide) rfl (Nat.le_of_ble_eq_true rfl) ?_
  refine g_aload_n dX5_wasShown_0 rfl ?_
  refine g_geti dX5_wasShown_1 k_X5_42 rfl hp.1 hp.2 ?_
  refine g_aload_n dX5_wasShown_4 rfl ?_
  refine g_geti dX5_wasShown_5 k_X5_45 rfl hp.1 hp.2 ?_
  refine g_ior dX5_wasShown_8 ?_
  refine g_aload_n dX5_wasShown_9 rfl ?_
  refine g_geti dX5_wasShown_10 k_X5_27 rfl hq.1 hq.2 ?_
  refine g_iand dX5_wasShown_13 ?_
  refine g_ifeq 21 dX5_wasShown_14 (by decide) (fun c14 => ?_) (fun c14 => ?_)
  · skip
    refine g_iconst (v := 0) dX5_wasShown_21 (by decide) ?_
    exact g_ireturn dX5_wasShown_22 rfl rfl ⟨by simp_all [bI, pShown], rfl⟩
  · skip
    refine g_iconst (v := 1) dX5_wasShown_17 (by decide) ?_
    refine g_goto 22 dX5_wasShown_18 (by decide) ?_
    exact g_ireturn dX5_wasShown_22 rfl rfl ⟨by simp_all [bI, pShown], rfl⟩

set_option maxRecDepth 100000 in
set_option maxHeartbeats 4000000 in
theorem ct_isMatchOf {p q : Nat} (hp : XO 3 p) (hq : XO 3 q) : MC E l 2 mX5_isMatchOf [.ref p, .ref q] 83 (hi, hl, RT) 0 0 (fun r h' => r = some (.int (bI (pMatch hi p q))) ∧ h' = (hi, hl, RT)) := by
  refine MC.of [some (.ref p), some (.ref q)] (by decide) rfl (Nat.le_of_ble_eq_true rfl) ?_
  refine g_aload_n dX5_isMatchOf_0 rfl ?_
  refine g_aload_n dX5_isMatchOf_1 rfl ?_
  refine g_callV1 dX5_isMatchOf_2 l_X5_75 s_mX5_wentRightOn hp.1 hp.2 rfl f_mX5_wentRightOn (Nat.le_of_ble_eq_true rfl) (by decide) (ct_wentRightOn hp hq) ?_
  rintro _ _ ⟨rfl, rfl⟩
  refine g_ifeq 20 dX5_isMatchOf_5 (by decide) (fun c5 => ?_) (fun c5 => ?_)
  · skip
    refine g_iconst (v := 0) dX5_isMatchOf_20 (by decide) ?_
    exact g_ireturn dX5_isMatchOf_21 rfl rfl ⟨by simp_all [bI, pMatch], rfl⟩
  · skip
    refine g_aload_n dX5_isMatchOf_8 rfl ?_
    refine g_aload_n dX5_isMatchOf_9 rfl ?_
    refine g_callV1 dX5_isMatchOf_10 l_X5_75 s_mX5_wentRightOn hq.1 hq.2 rfl f_mX5_wentRightOn (Nat.le_of_ble_eq_true rfl) (by decide) (ct_wentRightOn hq hp) ?_
    rintro _ _ ⟨rfl, rfl⟩
    refine g_ifeq 20 dX5_isMatchOf_13 (by decide) (fun c13 => ?_) (fun c13 => ?_)
    · skip
      refine g_iconst (v := 0) dX5_isMatchOf_20 (by decide) ?_
      exact g_ireturn dX5_isMatchOf_21 rfl rfl ⟨by simp_all [bI, pMatch], rfl⟩
    · skip
      refine g_iconst (v := 1) dX5_isMatchOf_16 (by decide) ?_
      refine g_goto 21 dX5_isMatchOf_17 (by decide) ?_
      exact g_ireturn dX5_isMatchOf_21 rfl rfl ⟨by simp_all [bI, pMatch], rfl⟩

set_option maxRecDepth 100000 in
set_option maxHeartbeats 4000000 in
theorem ct_canBeShown (hkv : KV hi) {p q : Nat} (hp : XO 3 p) (hq : XO 3 q) : MC E l 3 mX5_canBeShown [.ref p, .ref q] 83 (hi, hl, RT) 0 0 (fun r h' => r = some (.int (bI (pCan hi p q))) ∧ h' = (hi, hl, RT)) := by
  refine MC.of [some (.ref p), some (.ref q)] (by decide) rfl (Nat.le_of_ble_eq_true rfl) ?_
  refine g_aload_n dX5_canBeShown_0 rfl ?_
  refine g_geti dX5_canBeShown_1 k_X5_30 rfl hp.1 hp.2 ?_
  refine g_aload_n dX5_canBeShown_4 rfl ?_
  refine g_geti dX5_canBeShown_5 k_X5_30 rfl hq.1 hq.2 ?_
  refine g_icmpeq 37 dX5_canBeShown_8 (by decide) (fun c8 => ?_) (fun c8 => ?_)
  · skip
    refine g_iconst (v := 0) dX5_canBeShown_37 (by decide) ?_
    exact g_ireturn dX5_canBeShown_38 rfl rfl ⟨by simp_all [bI, pCan], rfl⟩
  · skip
    refine g_aload_n dX5_canBeShown_11 rfl ?_
    refine g_callV0 dX5_canBeShown_12 l_X5_79 s_mX5_isFree hp.1 hp.2 rfl f_mX5_isFree (Nat.le_of_ble_eq_true rfl) (by decide) (ct_isFree hkv hp) ?_
    rintro _ _ ⟨rfl, rfl⟩
    refine g_ifeq 37 dX5_canBeShown_15 (by decide) (fun c15 => ?_) (fun c15 => ?_)
    · skip
      refine g_iconst (v := 0) dX5_canBeShown_37 (by decide) ?_
      exact g_ireturn dX5_canBeShown_38 rfl rfl ⟨by simp_all [bI, pCan], rfl⟩
    · skip
      refine g_aload_n dX5_canBeShown_18 rfl ?_
      refine g_callV0 dX5_canBeShown_19 l_X5_57 s_mX5_isTaken hq.1 hq.2 rfl f_mX5_isTaken (Nat.le_of_ble_eq_true rfl) (by decide) (ct_isTaken hq) ?_
      rintro _ _ ⟨rfl, rfl⟩
      refine g_ifne 37 dX5_canBeShown_22 (by decide) (fun c22 => ?_) (fun c22 => ?_)
      · skip
        refine g_iconst (v := 0) dX5_canBeShown_37 (by decide) ?_
        exact g_ireturn dX5_canBeShown_38 rfl rfl ⟨by simp_all [bI, pCan], rfl⟩
      · skip
        refine g_aload_n dX5_canBeShown_25 rfl ?_
        refine g_aload_n dX5_canBeShown_26 rfl ?_
        refine g_callV1 dX5_canBeShown_27 l_X5_82 s_mX5_wasShown hp.1 hp.2 rfl f_mX5_wasShown (Nat.le_of_ble_eq_true rfl) (by decide) (ct_wasShown hp hq) ?_
        rintro _ _ ⟨rfl, rfl⟩
        refine g_ifne 37 dX5_canBeShown_30 (by decide) (fun c30 => ?_) (fun c30 => ?_)
        · skip
          refine g_iconst (v := 0) dX5_canBeShown_37 (by decide) ?_
          exact g_ireturn dX5_canBeShown_38 rfl rfl ⟨by simp_all [bI, pCan], rfl⟩
        · skip
          refine g_iconst (v := 1) dX5_canBeShown_33 (by decide) ?_
          refine g_goto 38 dX5_canBeShown_34 (by decide) ?_
          exact g_ireturn dX5_canBeShown_38 rfl rfl ⟨by simp_all [bI, pCan], rfl⟩

set_option maxRecDepth 100000 in
set_option maxHeartbeats 4000000 in
theorem ct_isTurnToHasten {p : Nat} (hp : XO 3 p) : MC E l 1 mX5_isTurnToHasten [.ref p] 83 (hi, hl, RT) 0 0 (fun r h' => r = some (.int (bI (pHasten hi p))) ∧ h' = (hi, hl, RT)) := by
  refine MC.of [some (.ref p)] (by decide) rfl (Nat.le_of_ble_eq_true rfl) ?_
  refine g_aload_n dX5_isTurnToHasten_0 rfl ?_
  refine g_geti dX5_isTurnToHasten_1 k_X5_48 rfl hp.1 hp.2 ?_
  refine g_iconst (v := 3) dX5_isTurnToHasten_4 (by decide) ?_
  refine g_irem dX5_isTurnToHasten_5 (by decide) ?_
  refine g_iconst (v := 2) dX5_isTurnToHasten_6 (by decide) ?_
  refine g_icmpne 14 dX5_isTurnToHasten_7 (by decide) (fun c7 => ?_) (fun c7 => ?_)
  · skip
    refine g_iconst (v := 0) dX5_isTurnToHasten_14 (by decide) ?_
    exact g_ireturn dX5_isTurnToHasten_15 rfl rfl ⟨by simp_all [bI, pHasten], rfl⟩
  · skip
    refine g_iconst (v := 1) dX5_isTurnToHasten_10 (by decide) ?_
    refine g_goto 15 dX5_isTurnToHasten_11 (by decide) ?_
    exact g_ireturn dX5_isTurnToHasten_15 rfl rfl ⟨by simp_all [bI, pHasten], rfl⟩

set_option maxRecDepth 100000 in
set_option maxHeartbeats 4000000 in
theorem ct_isA {k : Nat} (hk : k < 5) (w : Int32) : MC E l 1 mX2_isA [.ref (1000 + k), .int w] 83 (hi, hl, RT) 0 0 (fun r h' => r = some (.int (bI (kIsA (nI k) w))) ∧ h' = (hi, hl, RT)) := by
  refine MC.of [some (.ref (1000 + k)), some (.int w)] (by decide) rfl (Nat.le_of_ble_eq_true rfl) ?_
  have e4 : nI k = 4 ↔ k = 4 := kx4 rfl hk
  have e9 : [(0 : Int32), 1, 2, 3, 4].getD k 0 = nI k := by match k, hk with | 0, _ => rfl | 1, _ => rfl | 2, _ => rfl | 3, _ => rfl | 4, _ => rfl
  refine g_iload_n dX2_isA_0 rfl ?_
  refine g_getsK (i := 0) dX2_isA_1 (by decide) rfl k_X2_3 ?_
  refine g_getn (f := 0) dX2_isA_4 (by decide) rfl k_X2_38 ?_
  refine g_icmpeq 35 dX2_isA_7 (by decide) (fun c7 => ?_) (fun c7 => ?_)
  · skip
    refine g_iconst (v := 1) dX2_isA_35 (by decide) ?_
    refine g_goto 40 dX2_isA_36 (by decide) ?_
    exact g_ireturn dX2_isA_40 rfl rfl ⟨by simp_all [bI, kIsA], rfl⟩
  · skip
    refine g_iload_n dX2_isA_10 rfl ?_
    refine g_aload_n dX2_isA_11 rfl ?_
    refine g_getn (f := 0) dX2_isA_12 hk rfl k_X2_38 ?_
    refine g_icmpeq 35 dX2_isA_15 (by decide) (fun c15 => ?_) (fun c15 => ?_)
    · skip
      refine g_iconst (v := 1) dX2_isA_35 (by decide) ?_
      refine g_goto 40 dX2_isA_36 (by decide) ?_
      exact g_ireturn dX2_isA_40 rfl rfl ⟨by simp_all [bI, kIsA], rfl⟩
    · skip
      refine g_iload_n dX2_isA_18 rfl ?_
      refine g_getsK (i := 3) dX2_isA_19 (by decide) rfl k_X2_13 ?_
      refine g_getn (f := 0) dX2_isA_22 (by decide) rfl k_X2_38 ?_
      refine g_icmpne 39 dX2_isA_25 (by decide) (fun c25 => ?_) (fun c25 => ?_)
      · skip
        refine g_iconst (v := 0) dX2_isA_39 (by decide) ?_
        exact g_ireturn dX2_isA_40 rfl rfl ⟨by simp_all [bI, kIsA], rfl⟩
      · skip
        refine g_aload_n dX2_isA_28 rfl ?_
        refine g_getsK (i := 4) dX2_isA_29 (by decide) rfl k_X2_16 ?_
        refine g_acmpne 39 dX2_isA_32 (by decide) hk (by decide) (fun c32 => ?_) (fun c32 => ?_)
        · skip
          refine g_iconst (v := 0) dX2_isA_39 (by decide) ?_
          exact g_ireturn dX2_isA_40 rfl rfl ⟨by simp_all [bI, kIsA], rfl⟩
        · skip
          refine g_iconst (v := 1) dX2_isA_35 (by decide) ?_
          refine g_goto 40 dX2_isA_36 (by decide) ?_
          exact g_ireturn dX2_isA_40 rfl rfl ⟨by simp_all [bI, kIsA], rfl⟩

set_option maxRecDepth 100000 in
set_option maxHeartbeats 4000000 in
theorem ct_goesRightOn (hkv : KV hi) {p q : Nat} (hp : XO 3 p) (hq : XO 3 q) (lim : Int32) : MC E l 3 mX5_goesRightOn [.ref p, .ref q, .int lim] 83 (hi, hl, RT) 0 0 (fun r h' => r = some (.int (bI (pRight hi p q lim))) ∧ h' = (hi, hl, RT)) := by
  refine MC.of [some (.ref p), some (.ref q), some (.int lim)] (by decide) rfl (Nat.le_of_ble_eq_true rfl) ?_
  obtain ⟨jkp, h5p, hjp⟩ := hkv p hp
  have e2 := kx2 hjp h5p
  refine g_aload_n dX5_goesRightOn_0 rfl ?_
  refine g_aload_n dX5_goesRightOn_1 rfl ?_
  refine g_callV1 dX5_goesRightOn_2 l_X5_85 s_mX5_likes hp.1 hp.2 rfl f_mX5_likes (Nat.le_of_ble_eq_true rfl) (by decide) (ct_likes hkv hp hq) ?_
  rintro _ _ ⟨rfl, rfl⟩
  refine g_ifeq 16 dX5_goesRightOn_5 (by decide) (fun c5 => ?_) (fun c5 => ?_)
  · skip
    refine g_iconst (v := 0) dX5_goesRightOn_16 (by decide) ?_
    exact g_ireturn dX5_goesRightOn_17 rfl rfl ⟨by simp_all [bI, pRight], rfl⟩
  · skip
    refine g_aload_n dX5_goesRightOn_8 rfl ?_
    refine g_geti dX5_goesRightOn_9 k_X5_51 rfl hp.1 hp.2 ?_
    refine g_iload_n dX5_goesRightOn_12 rfl ?_
    refine g_icmplt 18 dX5_goesRightOn_13 (by decide) (fun c13 => ?_) (fun c13 => ?_)
    · skip
      refine g_aload_n dX5_goesRightOn_18 rfl ?_
      refine g_getk dX5_goesRightOn_19 k_X5_15 rfl hp.1 hp.2 hjp h5p ?_
      refine g_getsK (i := 2) dX5_goesRightOn_22 (by decide) rfl k_X5_88 ?_
      refine g_acmpne 37 dX5_goesRightOn_25 (by decide) h5p (by decide) (fun c25 => ?_) (fun c25 => ?_)
      · skip
        refine g_aload_n dX5_goesRightOn_37 rfl ?_
        refine g_getk dX5_goesRightOn_38 k_X5_15 rfl hp.1 hp.2 hjp h5p ?_
        refine g_getsK (i := 3) dX5_goesRightOn_41 (by decide) rfl k_X5_94 ?_
        refine g_getn (f := 0) dX5_goesRightOn_44 (by decide) rfl k_X5_97 ?_
        refine g_callK1 dX5_goesRightOn_47 l_X5_98 s_mX2_isA h5p rfl f_mX2_isA (Nat.le_of_ble_eq_true rfl) (by decide) (ct_isA h5p _) ?_
        rintro _ _ ⟨rfl, rfl⟩
        refine g_ifeq 61 dX5_goesRightOn_50 (by decide) (fun c50 => ?_) (fun c50 => ?_)
        · skip
          refine g_iconst (v := 1) dX5_goesRightOn_61 (by decide) ?_
          refine g_goto 66 dX5_goesRightOn_62 (by decide) ?_
          exact g_ireturn dX5_goesRightOn_66 rfl rfl ⟨by simp_all [bI, pRight], rfl⟩
        · skip
          refine g_aload_n dX5_goesRightOn_53 rfl ?_
          refine g_aload_n dX5_goesRightOn_54 rfl ?_
          refine g_callV1 dX5_goesRightOn_55 l_X5_75 s_mX5_wentRightOn hq.1 hq.2 rfl f_mX5_wentRightOn (Nat.le_of_ble_eq_true rfl) (by decide) (ct_wentRightOn hq hp) ?_
          rintro _ _ ⟨rfl, rfl⟩
          refine g_ifeq 65 dX5_goesRightOn_58 (by decide) (fun c58 => ?_) (fun c58 => ?_)
          · skip
            refine g_iconst (v := 0) dX5_goesRightOn_65 (by decide) ?_
            exact g_ireturn dX5_goesRightOn_66 rfl rfl ⟨by simp_all [bI, pRight], rfl⟩
          · skip
            refine g_iconst (v := 1) dX5_goesRightOn_61 (by decide) ?_
            refine g_goto 66 dX5_goesRightOn_62 (by decide) ?_
            exact g_ireturn dX5_goesRightOn_66 rfl rfl ⟨by simp_all [bI, pRight], rfl⟩
      · skip
        refine g_aload_n dX5_goesRightOn_28 rfl ?_
        refine g_callV0 dX5_goesRightOn_29 l_X5_91 s_mX5_isTurnToHasten hp.1 hp.2 rfl f_mX5_isTurnToHasten (Nat.le_of_ble_eq_true rfl) (by decide) (ct_isTurnToHasten hp) ?_
        rintro _ _ ⟨rfl, rfl⟩
        refine g_ifeq 37 dX5_goesRightOn_32 (by decide) (fun c32 => ?_) (fun c32 => ?_)
        · skip
          refine g_aload_n dX5_goesRightOn_37 rfl ?_
          refine g_getk dX5_goesRightOn_38 k_X5_15 rfl hp.1 hp.2 hjp h5p ?_
          refine g_getsK (i := 3) dX5_goesRightOn_41 (by decide) rfl k_X5_94 ?_
          refine g_getn (f := 0) dX5_goesRightOn_44 (by decide) rfl k_X5_97 ?_
          refine g_callK1 dX5_goesRightOn_47 l_X5_98 s_mX2_isA h5p rfl f_mX2_isA (Nat.le_of_ble_eq_true rfl) (by decide) (ct_isA h5p _) ?_
          rintro _ _ ⟨rfl, rfl⟩
          refine g_ifeq 61 dX5_goesRightOn_50 (by decide) (fun c50 => ?_) (fun c50 => ?_)
          · skip
            refine g_iconst (v := 1) dX5_goesRightOn_61 (by decide) ?_
            refine g_goto 66 dX5_goesRightOn_62 (by decide) ?_
            exact g_ireturn dX5_goesRightOn_66 rfl rfl ⟨by simp_all [bI, pRight], rfl⟩
          · skip
            refine g_aload_n dX5_goesRightOn_53 rfl ?_
            refine g_aload_n dX5_goesRightOn_54 rfl ?_
            refine g_callV1 dX5_goesRightOn_55 l_X5_75 s_mX5_wentRightOn hq.1 hq.2 rfl f_mX5_wentRightOn (Nat.le_of_ble_eq_true rfl) (by decide) (ct_wentRightOn hq hp) ?_
            rintro _ _ ⟨rfl, rfl⟩
            refine g_ifeq 65 dX5_goesRightOn_58 (by decide) (fun c58 => ?_) (fun c58 => ?_)
            · skip
              refine g_iconst (v := 0) dX5_goesRightOn_65 (by decide) ?_
              exact g_ireturn dX5_goesRightOn_66 rfl rfl ⟨by simp_all [bI, pRight], rfl⟩
            · skip
              refine g_iconst (v := 1) dX5_goesRightOn_61 (by decide) ?_
              refine g_goto 66 dX5_goesRightOn_62 (by decide) ?_
              exact g_ireturn dX5_goesRightOn_66 rfl rfl ⟨by simp_all [bI, pRight], rfl⟩
        · skip
          refine g_iconst (v := 0) dX5_goesRightOn_35 (by decide) ?_
          exact g_ireturn dX5_goesRightOn_36 rfl rfl ⟨by simp_all [bI, pRight], rfl⟩
    · skip
      refine g_iconst (v := 0) dX5_goesRightOn_16 (by decide) ?_
      exact g_ireturn dX5_goesRightOn_17 rfl rfl ⟨by simp_all [bI, pRight], rfl⟩

set_option maxRecDepth 100000 in
set_option maxHeartbeats 4000000 in
theorem ct_goRightOn {p q : Nat} (hp : XO 3 p) (hq : XO 3 q) : MC E l 1 mX5_goRightOn [.ref p, .ref q] 83 (hi, hl, RT) 0 0 (fun r h' => r = none ∧ h' = (upI (upI (upI hi p 7 (hi p 7 ||| hi q 1)) p 9 0) p 10 (hi p 10 + 1), hl, RT)) := by
  refine MC.of [some (.ref p), some (.ref q)] (by decide) rfl (Nat.le_of_ble_eq_true rfl) ?_
  refine g_aload_n dX5_goRightOn_0 rfl ?_
  refine g_dup dX5_goRightOn_1 rfl ?_
  refine g_geti dX5_goRightOn_2 k_X5_42 rfl hp.1 hp.2 ?_
  refine g_aload_n dX5_goRightOn_5 rfl ?_
  refine g_geti dX5_goRightOn_6 k_X5_27 rfl hq.1 hq.2 ?_
  refine g_ior dX5_goRightOn_9 ?_
  refine g_puti dX5_goRightOn_10 k_X5_42 rfl hp.1 hp.2 rfl rfl ?_
  refine g_aload_n dX5_goRightOn_13 rfl ?_
  refine g_iconst (v := 0) dX5_goRightOn_14 (by decide) ?_
  refine g_puti dX5_goRightOn_15 k_X5_48 rfl hp.1 hp.2 rfl rfl ?_
  refine g_aload_n dX5_goRightOn_18 rfl ?_
  refine g_dup dX5_goRightOn_19 rfl ?_
  refine g_geti dX5_goRightOn_20 k_X5_51 rfl hp.1 hp.2 ?_
  refine g_iconst (v := 1) dX5_goRightOn_23 (by decide) ?_
  refine g_iadd dX5_goRightOn_24 ?_
  refine g_puti dX5_goRightOn_25 k_X5_51 rfl hp.1 hp.2 rfl rfl ?_
  exact g_return dX5_goRightOn_28 rfl ⟨rfl, by simp [upI_k]⟩

set_option maxRecDepth 100000 in
set_option maxHeartbeats 4000000 in
theorem ct_goLeftOn {p q : Nat} (hp : XO 3 p) (hq : XO 3 q) : MC E l 1 mX5_goLeftOn [.ref p, .ref q] 83 (hi, hl, RT) 0 0 (fun r h' => r = none ∧ h' = (upI (upI hi p 8 (hi p 8 ||| hi q 1)) p 9 (hi p 9 + 1), hl, RT)) := by
  refine MC.of [some (.ref p), some (.ref q)] (by decide) rfl (Nat.le_of_ble_eq_true rfl) ?_
  refine g_aload_n dX5_goLeftOn_0 rfl ?_
  refine g_dup dX5_goLeftOn_1 rfl ?_
  refine g_geti dX5_goLeftOn_2 k_X5_45 rfl hp.1 hp.2 ?_
  refine g_aload_n dX5_goLeftOn_5 rfl ?_
  refine g_geti dX5_goLeftOn_6 k_X5_27 rfl hq.1 hq.2 ?_
  refine g_ior dX5_goLeftOn_9 ?_
  refine g_puti dX5_goLeftOn_10 k_X5_45 rfl hp.1 hp.2 rfl rfl ?_
  refine g_aload_n dX5_goLeftOn_13 rfl ?_
  refine g_dup dX5_goLeftOn_14 rfl ?_
  refine g_geti dX5_goLeftOn_15 k_X5_48 rfl hp.1 hp.2 ?_
  refine g_iconst (v := 1) dX5_goLeftOn_18 (by decide) ?_
  refine g_iadd dX5_goLeftOn_19 ?_
  refine g_puti dX5_goLeftOn_20 k_X5_48 rfl hp.1 hp.2 rfl rfl ?_
  exact g_return dX5_goLeftOn_23 rfl ⟨rfl, by simp [upI_k]⟩

set_option maxRecDepth 100000 in
set_option maxHeartbeats 4000000 in
theorem ct_turnLeftOn {p q : Nat} (hp : XO 3 p) (hq : XO 3 q) : MC E l 1 mX5_turnLeftOn [.ref p, .ref q] 83 (hi, hl, RT) 0 0 (fun r h' => r = none ∧ h' = (upI (upI hi p 7 (hi p 7 &&& (hi q 1 ^^^ -1))) p 8 (hi p 8 ||| hi q 1), hl, RT)) := by
  refine MC.of [some (.ref p), some (.ref q)] (by decide) rfl (Nat.le_of_ble_eq_true rfl) ?_
  refine g_aload_n dX5_turnLeftOn_0 rfl ?_
  refine g_dup dX5_turnLeftOn_1 rfl ?_
  refine g_geti dX5_turnLeftOn_2 k_X5_42 rfl hp.1 hp.2 ?_
  refine g_aload_n dX5_turnLeftOn_5 rfl ?_
  refine g_geti dX5_turnLeftOn_6 k_X5_27 rfl hq.1 hq.2 ?_
  refine g_iconst (v := -1) dX5_turnLeftOn_9 (by decide) ?_
  refine g_ixor dX5_turnLeftOn_10 ?_
  refine g_iand dX5_turnLeftOn_11 ?_
  refine g_puti dX5_turnLeftOn_12 k_X5_42 rfl hp.1 hp.2 rfl rfl ?_
  refine g_aload_n dX5_turnLeftOn_15 rfl ?_
  refine g_dup dX5_turnLeftOn_16 rfl ?_
  refine g_geti dX5_turnLeftOn_17 k_X5_45 rfl hp.1 hp.2 ?_
  refine g_aload_n dX5_turnLeftOn_20 rfl ?_
  refine g_geti dX5_turnLeftOn_21 k_X5_27 rfl hq.1 hq.2 ?_
  refine g_ior dX5_turnLeftOn_24 ?_
  refine g_puti dX5_turnLeftOn_25 k_X5_45 rfl hp.1 hp.2 rfl rfl ?_
  exact g_return dX5_turnLeftOn_28 rfl ⟨rfl, by simp [upI_k]⟩

set_option maxRecDepth 100000 in
set_option maxHeartbeats 4000000 in
theorem ct_takeBack {p q : Nat} (hp : XO 3 p) (hq : XO 3 q) : MC E l 1 mX5_takeBack [.ref p, .ref q] 83 (hi, hl, RT) 0 0 (fun r h' => r = none ∧ h' = (upI (upI hi p 7 (hi p 7 &&& (hi q 1 ^^^ -1))) p 8 (hi p 8 &&& (hi q 1 ^^^ -1)), hl, RT)) := by
  refine MC.of [some (.ref p), some (.ref q)] (by decide) rfl (Nat.le_of_ble_eq_true rfl) ?_
  refine g_aload_n dX5_takeBack_0 rfl ?_
  refine g_dup dX5_takeBack_1 rfl ?_
  refine g_geti dX5_takeBack_2 k_X5_42 rfl hp.1 hp.2 ?_
  refine g_aload_n dX5_takeBack_5 rfl ?_
  refine g_geti dX5_takeBack_6 k_X5_27 rfl hq.1 hq.2 ?_
  refine g_iconst (v := -1) dX5_takeBack_9 (by decide) ?_
  refine g_ixor dX5_takeBack_10 ?_
  refine g_iand dX5_takeBack_11 ?_
  refine g_puti dX5_takeBack_12 k_X5_42 rfl hp.1 hp.2 rfl rfl ?_
  refine g_aload_n dX5_takeBack_15 rfl ?_
  refine g_dup dX5_takeBack_16 rfl ?_
  refine g_geti dX5_takeBack_17 k_X5_45 rfl hp.1 hp.2 ?_
  refine g_aload_n dX5_takeBack_20 rfl ?_
  refine g_geti dX5_takeBack_21 k_X5_27 rfl hq.1 hq.2 ?_
  refine g_iconst (v := -1) dX5_takeBack_24 (by decide) ?_
  refine g_ixor dX5_takeBack_25 ?_
  refine g_iand dX5_takeBack_26 ?_
  refine g_puti dX5_takeBack_27 k_X5_45 rfl hp.1 hp.2 rfl rfl ?_
  exact g_return dX5_takeBack_30 rfl ⟨rfl, by simp [upI_k]⟩

set_option maxRecDepth 100000 in
set_option maxHeartbeats 4000000 in
theorem ct_clearShown {p : Nat} (hp : XO 3 p) : MC E l 1 mX5_clearShown [.ref p] 83 (hi, hl, RT) 0 0 (fun r h' => r = none ∧ h' = (upI (upI (upI (upI hi p 7 0) p 8 0) p 9 0) p 10 0, hl, RT)) := by
  refine MC.of [some (.ref p)] (by decide) rfl (Nat.le_of_ble_eq_true rfl) ?_
  refine g_aload_n dX5_clearShown_0 rfl ?_
  refine g_iconst (v := 0) dX5_clearShown_1 (by decide) ?_
  refine g_puti dX5_clearShown_2 k_X5_42 rfl hp.1 hp.2 rfl rfl ?_
  refine g_aload_n dX5_clearShown_5 rfl ?_
  refine g_iconst (v := 0) dX5_clearShown_6 (by decide) ?_
  refine g_puti dX5_clearShown_7 k_X5_45 rfl hp.1 hp.2 rfl rfl ?_
  refine g_aload_n dX5_clearShown_10 rfl ?_
  refine g_iconst (v := 0) dX5_clearShown_11 (by decide) ?_
  refine g_puti dX5_clearShown_12 k_X5_48 rfl hp.1 hp.2 rfl rfl ?_
  refine g_aload_n dX5_clearShown_15 rfl ?_
  refine g_iconst (v := 0) dX5_clearShown_16 (by decide) ?_
  refine g_puti dX5_clearShown_17 k_X5_51 rfl hp.1 hp.2 rfl rfl ?_
  exact g_return dX5_clearShown_20 rfl ⟨rfl, rfl⟩

theorem copy_aux {f : Nat → Nat → Int32} {p q : Nat} (hne : p ≠ q) (v : Int32) (k j : Nat) : upI f p k v q j = f q j := upI_a (Ne.symm hne)
def cpP (hi : Nat → Nat → Int32) (p q : Nat) : Nat → Nat → Int32 := fun a k => if a = p ∧ 2 ≤ k ∧ k ≤ 11 then hi q k else hi a k
set_option maxRecDepth 100000 in
set_option maxHeartbeats 4000000 in
theorem ct_copyFrom (hkv : KV hi) {p q : Nat} (hp : XO 3 p) (hq : XO 3 q) (hne : p ≠ q) : MC E l 1 mX5_copyFrom [.ref p, .ref q] 83 (hi, hl, RT) 0 0 (fun r h' => r = none ∧ h' = (cpP hi p q, hl, RT)) := by
  refine MC.of [some (.ref p), some (.ref q)] (by decide) rfl (Nat.le_of_ble_eq_true rfl) ?_
  obtain ⟨jkq, h5q, hjq⟩ := hkv q hq
  refine g_aload_n dX5_copyFrom_0 rfl ?_
  refine g_aload_n dX5_copyFrom_1 rfl ?_
  refine g_getk dX5_copyFrom_2 k_X5_15 rfl hq.1 hq.2 hjq h5q ?_
  refine g_putk dX5_copyFrom_5 k_X5_15 rfl hp.1 hp.2 h5q ⟨_, rfl⟩ ?_
  refine g_aload_n dX5_copyFrom_8 rfl ?_
  refine g_aload_n dX5_copyFrom_9 rfl ?_
  refine g_geti dX5_copyFrom_10 k_X5_30 rfl hq.1 hq.2 ?_
  refine g_puti dX5_copyFrom_13 k_X5_30 rfl hp.1 hp.2 rfl rfl ?_
  refine g_aload_n dX5_copyFrom_16 rfl ?_
  refine g_aload_n dX5_copyFrom_17 rfl ?_
  refine g_geti dX5_copyFrom_18 k_X5_33 rfl hq.1 hq.2 ?_
  refine g_puti dX5_copyFrom_21 k_X5_33 rfl hp.1 hp.2 rfl rfl ?_
  refine g_aload_n dX5_copyFrom_24 rfl ?_
  refine g_aload_n dX5_copyFrom_25 rfl ?_
  refine g_geti dX5_copyFrom_26 k_X5_36 rfl hq.1 hq.2 ?_
  refine g_puti dX5_copyFrom_29 k_X5_36 rfl hp.1 hp.2 rfl rfl ?_
  refine g_aload_n dX5_copyFrom_32 rfl ?_
  refine g_aload_n dX5_copyFrom_33 rfl ?_
  refine g_geti dX5_copyFrom_34 k_X5_39 rfl hq.1 hq.2 ?_
  refine g_puti dX5_copyFrom_37 k_X5_39 rfl hp.1 hp.2 rfl rfl ?_
  refine g_aload_n dX5_copyFrom_40 rfl ?_
  refine g_aload_n dX5_copyFrom_41 rfl ?_
  refine g_geti dX5_copyFrom_42 k_X5_42 rfl hq.1 hq.2 ?_
  refine g_puti dX5_copyFrom_45 k_X5_42 rfl hp.1 hp.2 rfl rfl ?_
  refine g_aload_n dX5_copyFrom_48 rfl ?_
  refine g_aload_n dX5_copyFrom_49 rfl ?_
  refine g_geti dX5_copyFrom_50 k_X5_45 rfl hq.1 hq.2 ?_
  refine g_puti dX5_copyFrom_53 k_X5_45 rfl hp.1 hp.2 rfl rfl ?_
  refine g_aload_n dX5_copyFrom_56 rfl ?_
  refine g_aload_n dX5_copyFrom_57 rfl ?_
  refine g_geti dX5_copyFrom_58 k_X5_48 rfl hq.1 hq.2 ?_
  refine g_puti dX5_copyFrom_61 k_X5_48 rfl hp.1 hp.2 rfl rfl ?_
  refine g_aload_n dX5_copyFrom_64 rfl ?_
  refine g_aload_n dX5_copyFrom_65 rfl ?_
  refine g_geti dX5_copyFrom_66 k_X5_51 rfl hq.1 hq.2 ?_
  refine g_puti dX5_copyFrom_69 k_X5_51 rfl hp.1 hp.2 rfl rfl ?_
  refine g_aload_n dX5_copyFrom_72 rfl ?_
  refine g_aload_n dX5_copyFrom_73 rfl ?_
  refine g_geti dX5_copyFrom_74 k_X5_20 rfl hq.1 hq.2 ?_
  refine g_puti dX5_copyFrom_77 k_X5_20 rfl hp.1 hp.2 rfl rfl ?_
  exact g_return dX5_copyFrom_80 rfl ⟨rfl, by
      refine congrArg (fun f => ((f, hl, RT) : XH)) ?_
      funext a k
      simp only [copy_aux hne, upI, cpP, ← hjq]
      by_cases ha : a = p
      · subst ha
        by_cases h2 : k < 2
        · simp only [true_and]
          rw [if_neg (by omega), if_neg (by omega), if_neg (by omega), if_neg (by omega), if_neg (by omega), if_neg (by omega), if_neg (by omega), if_neg (by omega), if_neg (by omega), if_neg (by omega), if_neg (by omega)]
        · by_cases h11 : 11 < k
          · simp only [true_and]
            rw [if_neg (by omega), if_neg (by omega), if_neg (by omega), if_neg (by omega), if_neg (by omega), if_neg (by omega), if_neg (by omega), if_neg (by omega), if_neg (by omega), if_neg (by omega), if_neg (by omega)]
          · have hk : k = 2 ∨ k = 3 ∨ k = 4 ∨ k = 5 ∨ k = 6 ∨ k = 7 ∨ k = 8 ∨ k = 9 ∨ k = 10 ∨ k = 11 := by omega
            rcases hk with rfl | rfl | rfl | rfl | rfl | rfl | rfl | rfl | rfl | rfl <;> simp
      · simp [ha]⟩

end
end
section
section
variable {E : XE} {l : Launch} {hi : Nat → Nat → Int32} {hl : Nat → Nat → Int64}

/-! small numbers, and what loops gather -/
theorem nI_inc (i : Nat) : nI i + Int32.ofInt 1 = nI (i + 1) := by
  rw [show Int32.ofInt 1 = 1 from by decide]
  exact nI_1 i
theorem ge_out {x : Int32} {i N : Nat} (hx : x = nI N) (c : x ≤ nI i) (h1 : N < 2 ^ 31) (h2 : i < 2 ^ 31) : N ≤ i := (nI_leI h1 h2).mp (hx ▸ c)
theorem lt_in {x : Int32} {i N : Nat} (hx : x = nI N) (c : ¬ x ≤ nI i) (h1 : N < 2 ^ 31) (h2 : i < 2 ^ 31) : i < N := Nat.not_le.mp (fun q => c (by rw [hx]; exact nI_le q h2))
def allB (P : Nat → Bool) : Nat → Bool
  | 0 => true
  | n + 1 => allB P n && P n
theorem allB_no {P : Nat → Bool} {i : Nat} (h : P i = false) : ∀ {n : Nat}, i < n → allB P n = false
  | 0, q => absurd q (Nat.not_lt_zero i)
  | n + 1, q => by
    rcases Nat.lt_or_ge i n with z | z
    · rw [allB, allB_no h z]; rfl
    · have : i = n := by omega
      subst this
      rw [allB, h, Bool.and_false]
def orB (P : Nat → Bool) (w : Nat → Int32) : Nat → Int32
  | 0 => 0
  | n + 1 => orB P w n ||| (if P n = true then w n else 0)
theorem or0 (x : Int32) : x ||| 0 = x := by
  cases x
  simp
theorem orB_y {P : Nat → Bool} {w : Nat → Int32} {i : Nat} (h : P i = true) : orB P w (i + 1) = orB P w i ||| w i := by rw [orB, if_pos h]
theorem orB_n {P : Nat → Bool} {w : Nat → Int32} {i : Nat} (h : P i = false) : orB P w (i + 1) = orB P w i := by rw [orB, if_neg (by rw [h]; decide), or0]
def cntB (P : Nat → Bool) : Nat → Int32
  | 0 => 0
  | n + 1 => cntB P n + bI (P n)
def sumI (f : Nat → Int32) : Nat → Int32
  | 0 => 0
  | n + 1 => sumI f n + f n
/-! draws -/
def dNext (s : Int64) : Int64 := (1103515245 * s + 12345) &&& 2147483647
def dPick (s : Int64) (a : Int32) : Int32 := if a ≤ 0 then 0 else (s / 65536 - s / 65536 / a.toInt64 * a.toInt64).toInt32
set_option maxRecDepth 100000 in
set_option maxHeartbeats 4000000 in
theorem ct_next (s : Int64) : MC E l 1 mX1_next [.long s] 83 (hi, hl, RT) 0 0 (fun r h' => r = some (.long (dNext s)) ∧ h' = (hi, hl, RT)) := by
  refine MC.of [some (.long s), none] (by decide) rfl (Nat.le_of_ble_eq_true rfl) ?_
  refine g_ldc2 dX1_next_0 c_X1_7 ?_
  refine g_lload_n dX1_next_3 rfl ?_
  refine g_lmul dX1_next_4 ?_
  refine g_ldc2 dX1_next_5 c_X1_9 ?_
  refine g_ladd dX1_next_8 ?_
  refine g_ldc2 dX1_next_9 c_X1_11 ?_
  refine g_land dX1_next_12 ?_
  exact g_lreturn dX1_next_13 rfl ⟨rfl, rfl⟩

theorem le0_of {a : Int32} (h : a.toInt64 = 0) : a ≤ 0 := by
  have h1 : a.toInt64.toInt = (0 : Int64).toInt := congrArg Int64.toInt h
  rw [Int32.toInt_toInt64] at h1
  exact Int32.le_iff_toInt_le.mpr (by rw [h1]; decide)
set_option maxRecDepth 100000 in
set_option maxHeartbeats 4000000 in
theorem ct_pick (s : Int64) (a : Int32) : MC E l 1 mX1_pick [.long s, .int a] 83 (hi, hl, RT) 0 0 (fun r h' => r = some (.int (dPick s a)) ∧ h' = (hi, hl, RT)) := by
  refine MC.of [some (.long s), none, some (.int a)] (by decide) rfl (Nat.le_of_ble_eq_true rfl) ?_
  refine g_iload_n dX1_pick_0 rfl ?_
  refine g_ifle 16 dX1_pick_1 (by decide) (fun c1 => ?_) (fun c1 => ?_)
  · skip
    refine g_iconst (v := 0) dX1_pick_16 (by decide) ?_
    exact g_ireturn dX1_pick_17 rfl rfl ⟨by rw [dPick, if_pos c1], rfl⟩
  · skip
    refine g_lload_n dX1_pick_4 rfl ?_
    refine g_ldc2 dX1_pick_5 c_X1_13 ?_
    refine g_ldiv dX1_pick_8 (by decide) ?_
    refine g_iload_n dX1_pick_9 rfl ?_
    refine g_i2l dX1_pick_10 ?_
    refine g_lrem dX1_pick_11 (fun q => c1 (le0_of q)) ?_
    refine g_l2i dX1_pick_12 ?_
    refine g_goto 17 dX1_pick_13 (by decide) ?_
    exact g_ireturn dX1_pick_17 rfl rfl ⟨by rw [dPick, if_neg c1], rfl⟩

set_option maxRecDepth 100000 in
set_option maxHeartbeats 4000000 in
theorem ct_isWithin (x a b : Int32) : MC E l 1 mX9_isWithin [.int x, .int a, .int b] 83 (hi, hl, RT) 0 0 (fun r h' => r = some (.int (bI (!decide (x < a) && !decide (b < x)))) ∧ h' = (hi, hl, RT)) := by
  refine MC.of [some (.int x), some (.int a), some (.int b)] (by decide) rfl (Nat.le_of_ble_eq_true rfl) ?_
  refine g_iload_n dX9_isWithin_0 rfl ?_
  refine g_iload_n dX9_isWithin_1 rfl ?_
  refine g_icmplt 14 dX9_isWithin_2 (by decide) (fun c2 => ?_) (fun c2 => ?_)
  · skip
    refine g_iconst (v := 0) dX9_isWithin_14 (by decide) ?_
    exact g_ireturn dX9_isWithin_15 rfl rfl ⟨by simp_all [bI], rfl⟩
  · skip
    refine g_iload_n dX9_isWithin_5 rfl ?_
    refine g_iload_n dX9_isWithin_6 rfl ?_
    refine g_icmpgt 14 dX9_isWithin_7 (by decide) (fun c7 => ?_) (fun c7 => ?_)
    · skip
      refine g_iconst (v := 0) dX9_isWithin_14 (by decide) ?_
      exact g_ireturn dX9_isWithin_15 rfl rfl ⟨by simp_all [bI], rfl⟩
    · skip
      refine g_iconst (v := 1) dX9_isWithin_10 (by decide) ?_
      refine g_goto 15 dX9_isWithin_11 (by decide) ?_
      exact g_ireturn dX9_isWithin_15 rfl rfl ⟨by simp_all [bI], rfl⟩

set_option maxRecDepth 100000 in
set_option maxHeartbeats 4000000 in
theorem ct_isLimit (x : Int32) : MC E l 2 mX9_isLimit [.int x] 83 (hi, hl, RT) 0 0 (fun r h' => r = some (.int (bI (!decide (x < 1) && !decide (9 < x)))) ∧ h' = (hi, hl, RT)) := by
  refine MC.of [some (.int x)] (by decide) rfl (Nat.le_of_ble_eq_true rfl) ?_
  refine g_iload_n dX9_isLimit_0 rfl ?_
  refine g_iconst (v := 1) dX9_isLimit_1 (by decide) ?_
  refine g_bipush (v := 9) dX9_isLimit_2 (by decide) ?_
  refine g_callS3 dX9_isLimit_4 l_X9_40 s_mX9_isWithin f_mX9_isWithin (Nat.le_of_ble_eq_true rfl) (by decide) (ct_isWithin _ _ _) ?_
  rintro _ _ ⟨rfl, rfl⟩
  exact g_ireturn dX9_isLimit_7 rfl (bI_nar _) ⟨rfl, rfl⟩

set_option maxRecDepth 100000 in
set_option maxHeartbeats 4000000 in
theorem ct_isOthers (x : Int32) : MC E l 2 mX8_isOthers [.int x] 83 (hi, hl, RT) 0 0 (fun r h' => r = some (.int (bI (!decide (x < 2) && !decide (8 < x)))) ∧ h' = (hi, hl, RT)) := by
  refine MC.of [some (.int x)] (by decide) rfl (Nat.le_of_ble_eq_true rfl) ?_
  refine g_iload_n dX8_isOthers_0 rfl ?_
  refine g_iconst (v := 2) dX8_isOthers_1 (by decide) ?_
  refine g_bipush (v := 8) dX8_isOthers_2 (by decide) ?_
  refine g_callSN3 dX8_isOthers_4 l_X8_9 s_mX9_isWithin f_mX9_isWithin (Nat.le_of_ble_eq_true rfl) (by decide) (ct_isWithin _ _ _) ?_
  rintro _ _ ⟨rfl, rfl⟩
  exact g_ireturn dX8_isOthers_7 rfl (bI_nar _) ⟨rfl, rfl⟩

set_option maxRecDepth 100000 in
set_option maxHeartbeats 4000000 in
theorem ct_partsOfAll (x : Int32) : MC E l 1 mX8_partsOfAll [.int x] 83 (hi, hl, RT) 0 0 (fun r h' => r = some (.int (x * 420)) ∧ h' = (hi, hl, RT)) := by
  refine MC.of [some (.int x)] (by decide) rfl (Nat.le_of_ble_eq_true rfl) ?_
  refine g_iload_n dX8_partsOfAll_0 rfl ?_
  refine g_sipush (v := 420) dX8_partsOfAll_1 (by decide) ?_
  refine g_imul dX8_partsOfAll_4 ?_
  exact g_ireturn dX8_partsOfAll_5 rfl rfl ⟨rfl, rfl⟩

set_option maxRecDepth 100000 in
set_option maxHeartbeats 4000000 in
theorem ct_isNumber (x : Int32) : MC E l 1 mX2_isNumber [.int x] 83 (hi, hl, RT) 0 0 (fun r h' => r = some (.int (bI (!decide (x < 0) && !decide (5 ≤ x)))) ∧ h' = (hi, hl, RT)) := by
  refine MC.of [some (.int x)] (by decide) rfl (Nat.le_of_ble_eq_true rfl) ?_
  refine g_iload_n dX2_isNumber_0 rfl ?_
  refine g_iflt 16 dX2_isNumber_1 (by decide) (fun c1 => ?_) (fun c1 => ?_)
  · skip
    refine g_iconst (v := 0) dX2_isNumber_16 (by decide) ?_
    exact g_ireturn dX2_isNumber_17 rfl rfl ⟨by simp_all [bI], rfl⟩
  · skip
    refine g_iload_n dX2_isNumber_4 rfl ?_
    refine g_getsA dX2_isNumber_5 k_X2_45 ?_
    refine g_alenA dX2_isNumber_8 ?_
    refine g_icmpge 16 dX2_isNumber_9 (by decide) (fun c9 => ?_) (fun c9 => ?_)
    · skip
      refine g_iconst (v := 0) dX2_isNumber_16 (by decide) ?_
      exact g_ireturn dX2_isNumber_17 rfl rfl ⟨by simp_all [bI], rfl⟩
    · skip
      refine g_iconst (v := 1) dX2_isNumber_12 (by decide) ?_
      refine g_goto 17 dX2_isNumber_13 (by decide) ?_
      exact g_ireturn dX2_isNumber_17 rfl rfl ⟨by simp_all [bI], rfl⟩

def kLet (x : Int32) : Bool := decide (111 = x) || (decide (101 = x) || (decide (104 = x) || (decide (115 = x) || decide (103 = x))))
def kOf (x : Int32) : Nat := if 111 = x then 0 else if 101 = x then 1 else if 104 = x then 2 else if 115 = x then 3 else if 103 = x then 4 else 0
set_option maxRecDepth 100000 in
set_option maxHeartbeats 4000000 in
theorem ct_isLetter (x : Int32) : MC E l 1 mX2_isLetter [.int x] 83 (hi, hl, RT) 0 0 (fun r h' => r = some (.int (bI (kLet x))) ∧ h' = (hi, hl, RT)) := by
  refine MC.of [some (.int x), none] (by decide) rfl (Nat.le_of_ble_eq_true rfl) ?_
  refine g_iconst (v := 0) dX2_isLetter_0 (by decide) ?_
  refine g_istore_n dX2_isLetter_1 (by decide) rfl rfl ?_
  refine g_iload_n dX2_isLetter_2 rfl ?_
  refine g_getsA dX2_isLetter_3 k_X2_45 ?_
  refine g_alenA dX2_isLetter_6 ?_
  refine g_icmpge 30 dX2_isLetter_7 (by decide) (fun c => absurd c (by decide)) (fun _ => ?_)
  refine g_getsA dX2_isLetter_10 k_X2_45 ?_
  refine g_iload_n dX2_isLetter_13 rfl ?_
  refine g_aldA (i := 0) dX2_isLetter_14 (by decide) rfl ?_
  refine g_getn (f := 1) dX2_isLetter_15 (by decide) rfl k_X2_42 ?_
  refine g_iload_n dX2_isLetter_18 rfl ?_
  refine g_icmpne 24 dX2_isLetter_19 (by decide) (fun c19 => ?_) (fun c19 => ?_)
  · skip
    refine g_iinc (v := 1) dX2_isLetter_24 rfl (by decide) (by decide) rfl rfl ?_
    refine g_goto 2 dX2_isLetter_27 (by decide) ?_
    refine g_iload_n dX2_isLetter_2 rfl ?_
    refine g_getsA dX2_isLetter_3 k_X2_45 ?_
    refine g_alenA dX2_isLetter_6 ?_
    refine g_icmpge 30 dX2_isLetter_7 (by decide) (fun c => absurd c (by decide)) (fun _ => ?_)
    refine g_getsA dX2_isLetter_10 k_X2_45 ?_
    refine g_iload_n dX2_isLetter_13 rfl ?_
    refine g_aldA (i := 1) dX2_isLetter_14 (by decide) rfl ?_
    refine g_getn (f := 1) dX2_isLetter_15 (by decide) rfl k_X2_42 ?_
    refine g_iload_n dX2_isLetter_18 rfl ?_
    refine g_icmpne 24 dX2_isLetter_19 (by decide) (fun c19 => ?_) (fun c19 => ?_)
    · skip
      refine g_iinc (v := 2) dX2_isLetter_24 rfl (by decide) (by decide) rfl rfl ?_
      refine g_goto 2 dX2_isLetter_27 (by decide) ?_
      refine g_iload_n dX2_isLetter_2 rfl ?_
      refine g_getsA dX2_isLetter_3 k_X2_45 ?_
      refine g_alenA dX2_isLetter_6 ?_
      refine g_icmpge 30 dX2_isLetter_7 (by decide) (fun c => absurd c (by decide)) (fun _ => ?_)
      refine g_getsA dX2_isLetter_10 k_X2_45 ?_
      refine g_iload_n dX2_isLetter_13 rfl ?_
      refine g_aldA (i := 2) dX2_isLetter_14 (by decide) rfl ?_
      refine g_getn (f := 1) dX2_isLetter_15 (by decide) rfl k_X2_42 ?_
      refine g_iload_n dX2_isLetter_18 rfl ?_
      refine g_icmpne 24 dX2_isLetter_19 (by decide) (fun c19 => ?_) (fun c19 => ?_)
      · skip
        refine g_iinc (v := 3) dX2_isLetter_24 rfl (by decide) (by decide) rfl rfl ?_
        refine g_goto 2 dX2_isLetter_27 (by decide) ?_
        refine g_iload_n dX2_isLetter_2 rfl ?_
        refine g_getsA dX2_isLetter_3 k_X2_45 ?_
        refine g_alenA dX2_isLetter_6 ?_
        refine g_icmpge 30 dX2_isLetter_7 (by decide) (fun c => absurd c (by decide)) (fun _ => ?_)
        refine g_getsA dX2_isLetter_10 k_X2_45 ?_
        refine g_iload_n dX2_isLetter_13 rfl ?_
        refine g_aldA (i := 3) dX2_isLetter_14 (by decide) rfl ?_
        refine g_getn (f := 1) dX2_isLetter_15 (by decide) rfl k_X2_42 ?_
        refine g_iload_n dX2_isLetter_18 rfl ?_
        refine g_icmpne 24 dX2_isLetter_19 (by decide) (fun c19 => ?_) (fun c19 => ?_)
        · skip
          refine g_iinc (v := 4) dX2_isLetter_24 rfl (by decide) (by decide) rfl rfl ?_
          refine g_goto 2 dX2_isLetter_27 (by decide) ?_
          refine g_iload_n dX2_isLetter_2 rfl ?_
          refine g_getsA dX2_isLetter_3 k_X2_45 ?_
          refine g_alenA dX2_isLetter_6 ?_
          refine g_icmpge 30 dX2_isLetter_7 (by decide) (fun c => absurd c (by decide)) (fun _ => ?_)
          refine g_getsA dX2_isLetter_10 k_X2_45 ?_
          refine g_iload_n dX2_isLetter_13 rfl ?_
          refine g_aldA (i := 4) dX2_isLetter_14 (by decide) rfl ?_
          refine g_getn (f := 1) dX2_isLetter_15 (by decide) rfl k_X2_42 ?_
          refine g_iload_n dX2_isLetter_18 rfl ?_
          refine g_icmpne 24 dX2_isLetter_19 (by decide) (fun c19 => ?_) (fun c19 => ?_)
          · skip
            refine g_iinc (v := 5) dX2_isLetter_24 rfl (by decide) (by decide) rfl rfl ?_
            refine g_goto 2 dX2_isLetter_27 (by decide) ?_
            refine g_iload_n dX2_isLetter_2 rfl ?_
            refine g_getsA dX2_isLetter_3 k_X2_45 ?_
            refine g_alenA dX2_isLetter_6 ?_
            refine g_icmpge 30 dX2_isLetter_7 (by decide) (fun _ => ?_) (fun c => absurd c (by decide))
            refine g_iconst (v := 0) dX2_isLetter_30 (by decide) ?_
            exact g_ireturn dX2_isLetter_31 rfl rfl ⟨by simp_all [bI, kLet], rfl⟩
          · skip
            refine g_iconst (v := 1) dX2_isLetter_22 (by decide) ?_
            exact g_ireturn dX2_isLetter_23 rfl rfl ⟨by simp_all [bI, kLet], rfl⟩
        · skip
          refine g_iconst (v := 1) dX2_isLetter_22 (by decide) ?_
          exact g_ireturn dX2_isLetter_23 rfl rfl ⟨by simp_all [bI, kLet], rfl⟩
      · skip
        refine g_iconst (v := 1) dX2_isLetter_22 (by decide) ?_
        exact g_ireturn dX2_isLetter_23 rfl rfl ⟨by simp_all [bI, kLet], rfl⟩
    · skip
      refine g_iconst (v := 1) dX2_isLetter_22 (by decide) ?_
      exact g_ireturn dX2_isLetter_23 rfl rfl ⟨by simp_all [bI, kLet], rfl⟩
  · skip
    refine g_iconst (v := 1) dX2_isLetter_22 (by decide) ?_
    exact g_ireturn dX2_isLetter_23 rfl rfl ⟨by simp_all [bI, kLet], rfl⟩

set_option maxRecDepth 100000 in
set_option maxHeartbeats 4000000 in
theorem ct_ofLetter (x : Int32) : MC E l 1 mX2_ofLetter [.int x] 83 (hi, hl, RT) 0 0 (fun r h' => r = some (.ref (1000 + kOf x)) ∧ h' = (hi, hl, RT)) := by
  refine MC.of [some (.int x), none] (by decide) rfl (Nat.le_of_ble_eq_true rfl) ?_
  refine g_iconst (v := 0) dX2_ofLetter_0 (by decide) ?_
  refine g_istore_n dX2_ofLetter_1 (by decide) rfl rfl ?_
  refine g_iload_n dX2_ofLetter_2 rfl ?_
  refine g_getsA dX2_ofLetter_3 k_X2_45 ?_
  refine g_alenA dX2_ofLetter_6 ?_
  refine g_icmpge 34 dX2_ofLetter_7 (by decide) (fun c => absurd c (by decide)) (fun _ => ?_)
  refine g_getsA dX2_ofLetter_10 k_X2_45 ?_
  refine g_iload_n dX2_ofLetter_13 rfl ?_
  refine g_aldA (i := 0) dX2_ofLetter_14 (by decide) rfl ?_
  refine g_getn (f := 1) dX2_ofLetter_15 (by decide) rfl k_X2_42 ?_
  refine g_iload_n dX2_ofLetter_18 rfl ?_
  refine g_icmpne 28 dX2_ofLetter_19 (by decide) (fun c19 => ?_) (fun c19 => ?_)
  · skip
    refine g_iinc (v := 1) dX2_ofLetter_28 rfl (by decide) (by decide) rfl rfl ?_
    refine g_goto 2 dX2_ofLetter_31 (by decide) ?_
    refine g_iload_n dX2_ofLetter_2 rfl ?_
    refine g_getsA dX2_ofLetter_3 k_X2_45 ?_
    refine g_alenA dX2_ofLetter_6 ?_
    refine g_icmpge 34 dX2_ofLetter_7 (by decide) (fun c => absurd c (by decide)) (fun _ => ?_)
    refine g_getsA dX2_ofLetter_10 k_X2_45 ?_
    refine g_iload_n dX2_ofLetter_13 rfl ?_
    refine g_aldA (i := 1) dX2_ofLetter_14 (by decide) rfl ?_
    refine g_getn (f := 1) dX2_ofLetter_15 (by decide) rfl k_X2_42 ?_
    refine g_iload_n dX2_ofLetter_18 rfl ?_
    refine g_icmpne 28 dX2_ofLetter_19 (by decide) (fun c19 => ?_) (fun c19 => ?_)
    · skip
      refine g_iinc (v := 2) dX2_ofLetter_28 rfl (by decide) (by decide) rfl rfl ?_
      refine g_goto 2 dX2_ofLetter_31 (by decide) ?_
      refine g_iload_n dX2_ofLetter_2 rfl ?_
      refine g_getsA dX2_ofLetter_3 k_X2_45 ?_
      refine g_alenA dX2_ofLetter_6 ?_
      refine g_icmpge 34 dX2_ofLetter_7 (by decide) (fun c => absurd c (by decide)) (fun _ => ?_)
      refine g_getsA dX2_ofLetter_10 k_X2_45 ?_
      refine g_iload_n dX2_ofLetter_13 rfl ?_
      refine g_aldA (i := 2) dX2_ofLetter_14 (by decide) rfl ?_
      refine g_getn (f := 1) dX2_ofLetter_15 (by decide) rfl k_X2_42 ?_
      refine g_iload_n dX2_ofLetter_18 rfl ?_
      refine g_icmpne 28 dX2_ofLetter_19 (by decide) (fun c19 => ?_) (fun c19 => ?_)
      · skip
        refine g_iinc (v := 3) dX2_ofLetter_28 rfl (by decide) (by decide) rfl rfl ?_
        refine g_goto 2 dX2_ofLetter_31 (by decide) ?_
        refine g_iload_n dX2_ofLetter_2 rfl ?_
        refine g_getsA dX2_ofLetter_3 k_X2_45 ?_
        refine g_alenA dX2_ofLetter_6 ?_
        refine g_icmpge 34 dX2_ofLetter_7 (by decide) (fun c => absurd c (by decide)) (fun _ => ?_)
        refine g_getsA dX2_ofLetter_10 k_X2_45 ?_
        refine g_iload_n dX2_ofLetter_13 rfl ?_
        refine g_aldA (i := 3) dX2_ofLetter_14 (by decide) rfl ?_
        refine g_getn (f := 1) dX2_ofLetter_15 (by decide) rfl k_X2_42 ?_
        refine g_iload_n dX2_ofLetter_18 rfl ?_
        refine g_icmpne 28 dX2_ofLetter_19 (by decide) (fun c19 => ?_) (fun c19 => ?_)
        · skip
          refine g_iinc (v := 4) dX2_ofLetter_28 rfl (by decide) (by decide) rfl rfl ?_
          refine g_goto 2 dX2_ofLetter_31 (by decide) ?_
          refine g_iload_n dX2_ofLetter_2 rfl ?_
          refine g_getsA dX2_ofLetter_3 k_X2_45 ?_
          refine g_alenA dX2_ofLetter_6 ?_
          refine g_icmpge 34 dX2_ofLetter_7 (by decide) (fun c => absurd c (by decide)) (fun _ => ?_)
          refine g_getsA dX2_ofLetter_10 k_X2_45 ?_
          refine g_iload_n dX2_ofLetter_13 rfl ?_
          refine g_aldA (i := 4) dX2_ofLetter_14 (by decide) rfl ?_
          refine g_getn (f := 1) dX2_ofLetter_15 (by decide) rfl k_X2_42 ?_
          refine g_iload_n dX2_ofLetter_18 rfl ?_
          refine g_icmpne 28 dX2_ofLetter_19 (by decide) (fun c19 => ?_) (fun c19 => ?_)
          · skip
            refine g_iinc (v := 5) dX2_ofLetter_28 rfl (by decide) (by decide) rfl rfl ?_
            refine g_goto 2 dX2_ofLetter_31 (by decide) ?_
            refine g_iload_n dX2_ofLetter_2 rfl ?_
            refine g_getsA dX2_ofLetter_3 k_X2_45 ?_
            refine g_alenA dX2_ofLetter_6 ?_
            refine g_icmpge 34 dX2_ofLetter_7 (by decide) (fun _ => ?_) (fun c => absurd c (by decide))
            refine g_getsK (i := 0) dX2_ofLetter_34 (by decide) rfl k_X2_3 ?_
            exact g_areturn dX2_ofLetter_37 rfl ⟨by simp_all [kOf], rfl⟩
          · skip
            refine g_getsA dX2_ofLetter_22 k_X2_45 ?_
            refine g_iload_n dX2_ofLetter_25 rfl ?_
            refine g_aldA (i := 4) dX2_ofLetter_26 (by decide) rfl ?_
            exact g_areturn dX2_ofLetter_27 rfl ⟨by simp_all [kOf], rfl⟩
        · skip
          refine g_getsA dX2_ofLetter_22 k_X2_45 ?_
          refine g_iload_n dX2_ofLetter_25 rfl ?_
          refine g_aldA (i := 3) dX2_ofLetter_26 (by decide) rfl ?_
          exact g_areturn dX2_ofLetter_27 rfl ⟨by simp_all [kOf], rfl⟩
      · skip
        refine g_getsA dX2_ofLetter_22 k_X2_45 ?_
        refine g_iload_n dX2_ofLetter_25 rfl ?_
        refine g_aldA (i := 2) dX2_ofLetter_26 (by decide) rfl ?_
        exact g_areturn dX2_ofLetter_27 rfl ⟨by simp_all [kOf], rfl⟩
    · skip
      refine g_getsA dX2_ofLetter_22 k_X2_45 ?_
      refine g_iload_n dX2_ofLetter_25 rfl ?_
      refine g_aldA (i := 1) dX2_ofLetter_26 (by decide) rfl ?_
      exact g_areturn dX2_ofLetter_27 rfl ⟨by simp_all [kOf], rfl⟩
  · skip
    refine g_getsA dX2_ofLetter_22 k_X2_45 ?_
    refine g_iload_n dX2_ofLetter_25 rfl ?_
    refine g_aldA (i := 0) dX2_ofLetter_26 (by decide) rfl ?_
    exact g_areturn dX2_ofLetter_27 rfl ⟨by simp_all [kOf], rfl⟩

/-! the page -/
def PL (hi : Nat → Nat → Int32) : Prop := ∃ L : Nat, L ≤ 41 ∧ hi 1 1 = nI L
def lAt (hi : Nat → Nat → Int32) (x : Int32) : Int32 := if x < 0 then -1 else if hi 1 1 ≤ x then -1 else hi 2 x.toNatClampNeg
theorem vin_of {x y : Int32} {L n : Nat} (hy : y = nI L) (hL : L ≤ n) (hn : n < 2 ^ 31) (h0 : ¬ x < 0) (h1 : ¬ y ≤ x) : vp_in x n := by
  obtain ⟨j, hj, rfl⟩ := nI_of h0
  have := lt_in hy h1 (by omega) hj
  exact vp_in_nI (by omega) hn
set_option maxRecDepth 100000 in
set_option maxHeartbeats 4000000 in
theorem ct_letterAt (x : Int32) (hL : PL hi) : MC E l 1 mX4_letterAt [.ref 1, .int x] 83 (hi, hl, RT) 0 0 (fun r h' => r = some (.int (lAt hi x)) ∧ h' = (hi, hl, RT)) := by
  refine MC.of [some (.ref 1), some (.int x)] (by decide) rfl (Nat.le_of_ble_eq_true rfl) ?_
  obtain ⟨L, hL1, hL2⟩ := hL
  refine g_iload_n dX4_letterAt_0 rfl ?_
  refine g_iflt 21 dX4_letterAt_1 (by decide) (fun c1 => ?_) (fun c1 => ?_)
  · skip
    refine g_iconst (v := -1) dX4_letterAt_21 (by decide) ?_
    exact g_ireturn dX4_letterAt_22 rfl rfl ⟨by rw [lAt, if_pos c1], rfl⟩
  · skip
    refine g_iload_n dX4_letterAt_4 rfl ?_
    refine g_aload_n dX4_letterAt_5 rfl ?_
    refine g_geti dX4_letterAt_6 k_X4_15 rfl (by decide) rfl ?_
    refine g_icmpge 21 dX4_letterAt_9 (by decide) (fun c9 => ?_) (fun c9 => ?_)
    · skip
      refine g_iconst (v := -1) dX4_letterAt_21 (by decide) ?_
      exact g_ireturn dX4_letterAt_22 rfl rfl ⟨by rw [lAt, if_neg c1, if_pos c9], rfl⟩
    · skip
      refine g_aload_n dX4_letterAt_12 rfl ?_
      refine g_getr dX4_letterAt_13 k_X4_9 rfl (by decide) rfl rfl ?_
      refine g_iload_n dX4_letterAt_16 rfl ?_
      refine g_iald dX4_letterAt_17 (by decide) rfl (vin_of hL2 hL1 (by decide) c1 c9) ?_
      refine g_goto 22 dX4_letterAt_18 (by decide) ?_
      exact g_ireturn dX4_letterAt_22 rfl rfl ⟨by rw [lAt, if_neg c1, if_neg c9], rfl⟩

set_option maxRecDepth 100000 in
set_option maxHeartbeats 4000000 in
theorem ct_digitAt (x : Int32) (hL : PL hi) : MC E l 2 mX4_digitAt [.ref 1, .int x] 83 (hi, hl, RT) 0 0 (fun r h' => r = some (.int (lAt hi x - 48)) ∧ h' = (hi, hl, RT)) := by
  refine MC.of [some (.ref 1), some (.int x)] (by decide) rfl (Nat.le_of_ble_eq_true rfl) ?_
  refine g_aload_n dX4_digitAt_0 rfl ?_
  refine g_iload_n dX4_digitAt_1 rfl ?_
  refine g_callV1 dX4_digitAt_2 l_X4_19 s_mX4_letterAt (by decide) rfl rfl f_mX4_letterAt (Nat.le_of_ble_eq_true rfl) (by decide) (ct_letterAt _ hL) ?_
  rintro _ _ ⟨rfl, rfl⟩
  refine g_bipush (v := 48) dX4_digitAt_5 (by decide) ?_
  refine g_isub dX4_digitAt_7 ?_
  exact g_ireturn dX4_digitAt_8 rfl rfl ⟨rfl, rfl⟩

set_option maxRecDepth 100000 in
set_option maxHeartbeats 4000000 in
theorem ct_endsSideAt (x : Int32) (hL : PL hi) : MC E l 2 mX4_endsSideAt [.ref 1, .int x] 83 (hi, hl, RT) 0 0 (fun r h' => r = some (.int (bI (decide (lAt hi x = 59)))) ∧ h' = (hi, hl, RT)) := by
  refine MC.of [some (.ref 1), some (.int x)] (by decide) rfl (Nat.le_of_ble_eq_true rfl) ?_
  refine g_aload_n dX4_endsSideAt_0 rfl ?_
  refine g_iload_n dX4_endsSideAt_1 rfl ?_
  refine g_callV1 dX4_endsSideAt_2 l_X4_19 s_mX4_letterAt (by decide) rfl rfl f_mX4_letterAt (Nat.le_of_ble_eq_true rfl) (by decide) (ct_letterAt _ hL) ?_
  rintro _ _ ⟨rfl, rfl⟩
  refine g_bipush (v := 59) dX4_endsSideAt_5 (by decide) ?_
  refine g_icmpne 14 dX4_endsSideAt_7 (by decide) (fun c7 => ?_) (fun c7 => ?_)
  · skip
    refine g_iconst (v := 0) dX4_endsSideAt_14 (by decide) ?_
    exact g_ireturn dX4_endsSideAt_15 rfl rfl ⟨by simp_all [bI], rfl⟩
  · skip
    refine g_iconst (v := 1) dX4_endsSideAt_10 (by decide) ?_
    refine g_goto 15 dX4_endsSideAt_11 (by decide) ?_
    exact g_ireturn dX4_endsSideAt_15 rfl rfl ⟨by simp_all [bI], rfl⟩

set_option maxRecDepth 100000 in
set_option maxHeartbeats 4000000 in
theorem ct_pclear  : MC E l 1 mX4_clear [.ref 1] 83 (hi, hl, RT) 0 0 (fun r h' => r = none ∧ h' = (upI hi 1 1 0, hl, RT)) := by
  refine MC.of [some (.ref 1)] (by decide) rfl (Nat.le_of_ble_eq_true rfl) ?_
  refine g_aload_n dX4_clear_0 rfl ?_
  refine g_iconst (v := 0) dX4_clear_1 (by decide) ?_
  refine g_puti dX4_clear_2 k_X4_15 rfl (by decide) rfl rfl rfl ?_
  exact g_return dX4_clear_5 rfl ⟨rfl, rfl⟩

set_option maxRecDepth 100000 in
set_option maxHeartbeats 4000000 in
theorem ct_padd (x : Int32) {L : Nat} (hL1 : L ≤ 41) (hL2 : hi 1 1 = nI L) : MC E l 1 mX4_add [.ref 1, .int x] 83 (hi, hl, RT) 0 0 (fun r h' => (L = 41 ∧ r = some (.int 0) ∧ h' = (hi, hl, RT)) ∨ (L < 41 ∧ r = some (.int 1) ∧ h' = (upI (upI hi 2 L x) 1 1 (nI (L + 1)), hl, RT))) := by
  refine MC.of [some (.ref 1), some (.int x)] (by decide) rfl (Nat.le_of_ble_eq_true rfl) ?_
  refine g_aload_n dX4_add_0 rfl ?_
  refine g_geti dX4_add_1 k_X4_15 rfl (by decide) rfl ?_
  refine g_aload_n dX4_add_4 rfl ?_
  refine g_getr dX4_add_5 k_X4_9 rfl (by decide) rfl rfl ?_
  refine g_alen dX4_add_8 (by decide) rfl (Or.inl rfl) ?_
  refine g_icmplt 14 dX4_add_9 (by decide) (fun c9 => ?_) (fun c9 => ?_)
  · skip
    have hlt : L < 41 := (nI_ltI (by omega) (by decide)).mp (hL2 ▸ c9)
    refine g_aload_n dX4_add_14 rfl ?_
    refine g_getr dX4_add_15 k_X4_9 rfl (by decide) rfl rfl ?_
    refine g_aload_n dX4_add_18 rfl ?_
    refine g_geti dX4_add_19 k_X4_15 rfl (by decide) rfl ?_
    refine g_iload_n dX4_add_22 rfl ?_
    refine g_iast dX4_add_23 (by decide) rfl (by show vp_in (hi 1 1) 41; rw [hL2]; exact vp_in_nI (by assumption) (by decide)) ?_
    refine g_aload_n dX4_add_24 rfl ?_
    refine g_dup dX4_add_25 rfl ?_
    refine g_geti dX4_add_26 k_X4_15 rfl (by decide) rfl ?_
    refine g_iconst (v := 1) dX4_add_29 (by decide) ?_
    refine g_iadd dX4_add_30 ?_
    refine g_puti dX4_add_31 k_X4_15 rfl (by decide) rfl rfl rfl ?_
    refine g_iconst (v := 1) dX4_add_34 (by decide) ?_
    exact g_ireturn dX4_add_35 rfl rfl (Or.inr ⟨hlt, rfl, by
      have e1 : (hi 1 1).toNatClampNeg = L := by rw [hL2]; exact nI_clamp (by omega)
      have e2 : upI hi 2 L x 1 1 = nI L := (upI_a (by decide)).trans hL2
      show ((upI (upI hi 2 (hi 1 1).toNatClampNeg x) 1 1 (upI hi 2 (hi 1 1).toNatClampNeg x 1 1 + 1), hl, RT) : XH) = _
      rw [e1, e2, nI_1]⟩)
  · skip
    have hge : ¬ L < 41 := fun q => c9 (by show hi 1 1 < nI 41; rw [hL2]; exact nI_lt q (by decide))
    refine g_iconst (v := 0) dX4_add_12 (by decide) ?_
    exact g_ireturn dX4_add_13 rfl rfl (Or.inl ⟨by omega, rfl, rfl⟩)

def pFit (w x : Int32) : Bool := if w = 0 then kLet x else !decide (x - 48 < 0) && !decide ((if w = 2 then 3 else 9) < x - 48)
set_option maxRecDepth 100000 in
set_option maxHeartbeats 4000000 in
theorem ct_fitsPerson (w x : Int32) : MC E l 2 mX4_fitsPerson [.int w, .int x] 83 (hi, hl, RT) 0 0 (fun r h' => r = some (.int (bI (pFit w x))) ∧ h' = (hi, hl, RT)) := by
  refine MC.of [some (.int w), some (.int x), none] (by decide) rfl (Nat.le_of_ble_eq_true rfl) ?_
  refine g_iload_n dX4_fitsPerson_0 rfl ?_
  refine g_ifne 9 dX4_fitsPerson_1 (by decide) (fun c1 => ?_) (fun c1 => ?_)
  · skip
    refine g_iload_n dX4_fitsPerson_9 rfl ?_
    refine g_iconst (v := 2) dX4_fitsPerson_10 (by decide) ?_
    refine g_icmpne 18 dX4_fitsPerson_11 (by decide) (fun c11 => ?_) (fun c11 => ?_)
    · skip
      refine g_bipush (v := 9) dX4_fitsPerson_18 (by decide) ?_
      refine g_istore_n dX4_fitsPerson_20 (by decide) rfl rfl ?_
      refine g_iload_n dX4_fitsPerson_21 rfl ?_
      refine g_bipush (v := 48) dX4_fitsPerson_22 (by decide) ?_
      refine g_isub dX4_fitsPerson_24 ?_
      refine g_iconst (v := 0) dX4_fitsPerson_25 (by decide) ?_
      refine g_iload_n dX4_fitsPerson_26 rfl ?_
      refine g_callSN3 dX4_fitsPerson_27 l_X4_44 s_mX9_isWithin f_mX9_isWithin (Nat.le_of_ble_eq_true rfl) (by decide) (ct_isWithin _ _ _) ?_
      rintro _ _ ⟨rfl, rfl⟩
      exact g_ireturn dX4_fitsPerson_30 rfl (bI_nar _) ⟨by simp_all [pFit], rfl⟩
    · skip
      refine g_iconst (v := 3) dX4_fitsPerson_14 (by decide) ?_
      refine g_goto 20 dX4_fitsPerson_15 (by decide) ?_
      refine g_istore_n dX4_fitsPerson_20 (by decide) rfl rfl ?_
      refine g_iload_n dX4_fitsPerson_21 rfl ?_
      refine g_bipush (v := 48) dX4_fitsPerson_22 (by decide) ?_
      refine g_isub dX4_fitsPerson_24 ?_
      refine g_iconst (v := 0) dX4_fitsPerson_25 (by decide) ?_
      refine g_iload_n dX4_fitsPerson_26 rfl ?_
      refine g_callSN3 dX4_fitsPerson_27 l_X4_44 s_mX9_isWithin f_mX9_isWithin (Nat.le_of_ble_eq_true rfl) (by decide) (ct_isWithin _ _ _) ?_
      rintro _ _ ⟨rfl, rfl⟩
      exact g_ireturn dX4_fitsPerson_30 rfl (bI_nar _) ⟨by simp_all [pFit], rfl⟩
  · skip
    refine g_iload_n dX4_fitsPerson_4 rfl ?_
    refine g_callS1 dX4_fitsPerson_5 l_X4_39 s_mX2_isLetter f_mX2_isLetter (Nat.le_of_ble_eq_true rfl) (by decide) (ct_isLetter _) ?_
    rintro _ _ ⟨rfl, rfl⟩
    exact g_ireturn dX4_fitsPerson_8 rfl (bI_nar _) ⟨by simp_all [pFit], rfl⟩

end
end
