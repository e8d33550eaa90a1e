-- ===== PART A: goes FIRST, ahead of the names: the tables' words, and 'selects' of the private methods out of them =====
/-- a private method of a class that the tables say can be made, by its rows of tables_1 -/
def lw_okq (q : MethodName × Nat) : Prop := (q.1.cls ≠ "java/lang/invoke/MethodHandle" ∧ q.1.cls ≠ "java/lang/invoke/VarHandle") ∧ Cond.instantiable q.1.cls q.2 ∈ tables_1 ∧ Cond.privateMethod q.1 ∈ tables_1 ∧ Cond.instanceMethod q.1 ∈ tables_1
theorem lw_p0 : lw_okq (⟨"ArkTerrace$Reader", "takeToken", "()Z"⟩, 12) := ⟨⟨by decide +kernel, by decide +kernel⟩, List.mem_of_getElem? (i := 117) (by decide +kernel), List.mem_of_getElem? (i := 296) (by decide +kernel), List.mem_of_getElem? (i := 297) (by decide +kernel)⟩
theorem lw_p1 : lw_okq (⟨"ArkTerrace$Reader", "passLetters", "()V"⟩, 12) := ⟨⟨by decide +kernel, by decide +kernel⟩, List.mem_of_getElem? (i := 117) (by decide +kernel), List.mem_of_getElem? (i := 304) (by decide +kernel), List.mem_of_getElem? (i := 305) (by decide +kernel)⟩
theorem lw_p2 : lw_okq (⟨"ArkTerrace$Reader", "takeFigures", "()Z"⟩, 12) := ⟨⟨by decide +kernel, by decide +kernel⟩, List.mem_of_getElem? (i := 117) (by decide +kernel), List.mem_of_getElem? (i := 311) (by decide +kernel), List.mem_of_getElem? (i := 312) (by decide +kernel)⟩
theorem lw_p3 : lw_okq (⟨"ArkTerrace$Reader", "refuse", "(II)Z"⟩, 12) := ⟨⟨by decide +kernel, by decide +kernel⟩, List.mem_of_getElem? (i := 117) (by decide +kernel), List.mem_of_getElem? (i := 315) (by decide +kernel), List.mem_of_getElem? (i := 316) (by decide +kernel)⟩
theorem lw_p4 : lw_okq (⟨"ArkTerrace$Reader", "takeLine", "()Z"⟩, 12) := ⟨⟨by decide +kernel, by decide +kernel⟩, List.mem_of_getElem? (i := 117) (by decide +kernel), List.mem_of_getElem? (i := 319) (by decide +kernel), List.mem_of_getElem? (i := 320) (by decide +kernel)⟩
theorem lw_p5 : lw_okq (⟨"ArkTerrace$Reader", "wordHere", "()I"⟩, 12) := ⟨⟨by decide +kernel, by decide +kernel⟩, List.mem_of_getElem? (i := 117) (by decide +kernel), List.mem_of_getElem? (i := 323) (by decide +kernel), List.mem_of_getElem? (i := 324) (by decide +kernel)⟩
theorem lw_p6 : lw_okq (⟨"ArkTerrace$Reader", "isSpelled", "(Ljava/lang/String;)Z"⟩, 12) := ⟨⟨by decide +kernel, by decide +kernel⟩, List.mem_of_getElem? (i := 117) (by decide +kernel), List.mem_of_getElem? (i := 338) (by decide +kernel), List.mem_of_getElem? (i := 339) (by decide +kernel)⟩
theorem lw_p7 : lw_okq (⟨"ArkTerrace$Reader", "mayBegin", "(I)Z"⟩, 12) := ⟨⟨by decide +kernel, by decide +kernel⟩, List.mem_of_getElem? (i := 117) (by decide +kernel), List.mem_of_getElem? (i := 390) (by decide +kernel), List.mem_of_getElem? (i := 391) (by decide +kernel)⟩
theorem lw_p8 : lw_okq (⟨"ArkTerrace$Reader", "takeNumbers", "(I)Z"⟩, 12) := ⟨⟨by decide +kernel, by decide +kernel⟩, List.mem_of_getElem? (i := 117) (by decide +kernel), List.mem_of_getElem? (i := 394) (by decide +kernel), List.mem_of_getElem? (i := 395) (by decide +kernel)⟩
theorem lw_p9 : lw_okq (⟨"ArkTerrace$Reader", "tellLine", "(I)V"⟩, 12) := ⟨⟨by decide +kernel, by decide +kernel⟩, List.mem_of_getElem? (i := 117) (by decide +kernel), List.mem_of_getElem? (i := 415) (by decide +kernel), List.mem_of_getElem? (i := 416) (by decide +kernel)⟩
theorem lw_p10 : lw_okq (⟨"ArkTerrace$Terrace", "passHouse", "(II)V"⟩, 18) := ⟨⟨by decide +kernel, by decide +kernel⟩, List.mem_of_getElem? (i := 26) (by decide +kernel), List.mem_of_getElem? (i := 589) (by decide +kernel), List.mem_of_getElem? (i := 590) (by decide +kernel)⟩
theorem lw_p11 : lw_okq (⟨"ArkTerrace$Terrace", "loseWhatIsOut", "(I)V"⟩, 18) := ⟨⟨by decide +kernel, by decide +kernel⟩, List.mem_of_getElem? (i := 26) (by decide +kernel), List.mem_of_getElem? (i := 593) (by decide +kernel), List.mem_of_getElem? (i := 594) (by decide +kernel)⟩
theorem lw_p12 : lw_okq (⟨"ArkTerrace$Terrace", "loseThing", "(I)V"⟩, 18) := ⟨⟨by decide +kernel, by decide +kernel⟩, List.mem_of_getElem? (i := 26) (by decide +kernel), List.mem_of_getElem? (i := 597) (by decide +kernel), List.mem_of_getElem? (i := 598) (by decide +kernel)⟩
theorem lw_p13 : lw_okq (⟨"ArkTerrace$Terrace", "loseWhatIsOver", "(I)V"⟩, 18) := ⟨⟨by decide +kernel, by decide +kernel⟩, List.mem_of_getElem? (i := 26) (by decide +kernel), List.mem_of_getElem? (i := 602) (by decide +kernel), List.mem_of_getElem? (i := 603) (by decide +kernel)⟩
theorem lw_p14 : lw_okq (⟨"ArkTerrace", "copyOfNow", "()LArkTerrace$Terrace;"⟩, 10) := ⟨⟨by decide +kernel, by decide +kernel⟩, List.mem_of_getElem? (i := 18) (by decide +kernel), List.mem_of_getElem? (i := 613) (by decide +kernel), List.mem_of_getElem? (i := 614) (by decide +kernel)⟩
theorem lw_p15 : lw_okq (⟨"ArkTerrace", "dearestSet", "(I)I"⟩, 10) := ⟨⟨by decide +kernel, by decide +kernel⟩, List.mem_of_getElem? (i := 18) (by decide +kernel), List.mem_of_getElem? (i := 635) (by decide +kernel), List.mem_of_getElem? (i := 636) (by decide +kernel)⟩
def lw_privs_1 : List (MethodName × Nat) := [(⟨"ArkTerrace$Reader", "takeToken", "()Z"⟩, 12), (⟨"ArkTerrace$Reader", "passLetters", "()V"⟩, 12), (⟨"ArkTerrace$Reader", "takeFigures", "()Z"⟩, 12), (⟨"ArkTerrace$Reader", "refuse", "(II)Z"⟩, 12), (⟨"ArkTerrace$Reader", "takeLine", "()Z"⟩, 12), (⟨"ArkTerrace$Reader", "wordHere", "()I"⟩, 12), (⟨"ArkTerrace$Reader", "isSpelled", "(Ljava/lang/String;)Z"⟩, 12), (⟨"ArkTerrace$Reader", "mayBegin", "(I)Z"⟩, 12), (⟨"ArkTerrace$Reader", "takeNumbers", "(I)Z"⟩, 12), (⟨"ArkTerrace$Reader", "tellLine", "(I)V"⟩, 12), (⟨"ArkTerrace$Terrace", "passHouse", "(II)V"⟩, 18), (⟨"ArkTerrace$Terrace", "loseWhatIsOut", "(I)V"⟩, 18), (⟨"ArkTerrace$Terrace", "loseThing", "(I)V"⟩, 18), (⟨"ArkTerrace$Terrace", "loseWhatIsOver", "(I)V"⟩, 18), (⟨"ArkTerrace", "copyOfNow", "()LArkTerrace$Terrace;"⟩, 10), (⟨"ArkTerrace", "dearestSet", "(I)I"⟩, 10)]
theorem lw_r1 : ∀ q ∈ lw_privs_1, lw_okq q := List.forall_mem_cons.mpr ⟨lw_p0, List.forall_mem_cons.mpr ⟨lw_p1, List.forall_mem_cons.mpr ⟨lw_p2, List.forall_mem_cons.mpr ⟨lw_p3, List.forall_mem_cons.mpr ⟨lw_p4, List.forall_mem_cons.mpr ⟨lw_p5, List.forall_mem_cons.mpr ⟨lw_p6, List.forall_mem_cons.mpr ⟨lw_p7, List.forall_mem_cons.mpr ⟨lw_p8, List.forall_mem_cons.mpr ⟨lw_p9, List.forall_mem_cons.mpr ⟨lw_p10, List.forall_mem_cons.mpr ⟨lw_p11, List.forall_mem_cons.mpr ⟨lw_p12, List.forall_mem_cons.mpr ⟨lw_p13, List.forall_mem_cons.mpr ⟨lw_p14, List.forall_mem_cons.mpr ⟨lw_p15, fun _ h => absurd h List.not_mem_nil⟩⟩⟩⟩⟩⟩⟩⟩⟩⟩⟩⟩⟩⟩⟩⟩
theorem lw_p16 : lw_okq (⟨"ArkTerrace", "bestOrSorrow", "(III)I"⟩, 10) := ⟨⟨by decide +kernel, by decide +kernel⟩, List.mem_of_getElem? (i := 18) (by decide +kernel), List.mem_of_getElem? (i := 677) (by decide +kernel), List.mem_of_getElem? (i := 678) (by decide +kernel)⟩
theorem lw_p17 : lw_okq (⟨"ArkTerrace", "behindStorms", "(II)LArkTerrace$Terrace;"⟩, 10) := ⟨⟨by decide +kernel, by decide +kernel⟩, List.mem_of_getElem? (i := 18) (by decide +kernel), List.mem_of_getElem? (i := 706) (by decide +kernel), List.mem_of_getElem? (i := 707) (by decide +kernel)⟩
theorem lw_p18 : lw_okq (⟨"ArkTerrace$Sightings", "agreeWith", "(LArkTerrace$Futures;I)Z"⟩, 3) := ⟨⟨by decide +kernel, by decide +kernel⟩, List.mem_of_getElem? (i := 183) (by decide +kernel), List.mem_of_getElem? (i := 757) (by decide +kernel), List.mem_of_getElem? (i := 758) (by decide +kernel)⟩
theorem lw_p19 : lw_okq (⟨"ArkTerrace", "tellRooms", "(II)V"⟩, 10) := ⟨⟨by decide +kernel, by decide +kernel⟩, List.mem_of_getElem? (i := 18) (by decide +kernel), List.mem_of_getElem? (i := 773) (by decide +kernel), List.mem_of_getElem? (i := 774) (by decide +kernel)⟩
theorem lw_p20 : lw_okq (⟨"ArkTerrace$Futures", "alikeFrom", "(III)I"⟩, 2) := ⟨⟨by decide +kernel, by decide +kernel⟩, List.mem_of_getElem? (i := 200) (by decide +kernel), List.mem_of_getElem? (i := 785) (by decide +kernel), List.mem_of_getElem? (i := 786) (by decide +kernel)⟩
theorem lw_p21 : lw_okq (⟨"ArkTerraceModel", "step", "()V"⟩, 29) := ⟨⟨by decide +kernel, by decide +kernel⟩, List.mem_of_getElem? (i := 844) (by decide +kernel), List.mem_of_getElem? (i := 955) (by decide +kernel), List.mem_of_getElem? (i := 956) (by decide +kernel)⟩
theorem lw_p22 : lw_okq (⟨"ArkTerraceModel", "byteAt", "(I)I"⟩, 29) := ⟨⟨by decide +kernel, by decide +kernel⟩, List.mem_of_getElem? (i := 844) (by decide +kernel), List.mem_of_getElem? (i := 959) (by decide +kernel), List.mem_of_getElem? (i := 960) (by decide +kernel)⟩
theorem lw_p23 : lw_okq (⟨"ArkTerraceModel", "fails", "(I)V"⟩, 29) := ⟨⟨by decide +kernel, by decide +kernel⟩, List.mem_of_getElem? (i := 844) (by decide +kernel), List.mem_of_getElem? (i := 967) (by decide +kernel), List.mem_of_getElem? (i := 968) (by decide +kernel)⟩
theorem lw_p24 : lw_okq (⟨"ArkTerraceModel", "readLine", "()V"⟩, 29) := ⟨⟨by decide +kernel, by decide +kernel⟩, List.mem_of_getElem? (i := 844) (by decide +kernel), List.mem_of_getElem? (i := 971) (by decide +kernel), List.mem_of_getElem? (i := 972) (by decide +kernel)⟩
theorem lw_p25 : lw_okq (⟨"ArkTerraceModel", "nameHere", "()I"⟩, 29) := ⟨⟨by decide +kernel, by decide +kernel⟩, List.mem_of_getElem? (i := 844) (by decide +kernel), List.mem_of_getElem? (i := 975) (by decide +kernel), List.mem_of_getElem? (i := 976) (by decide +kernel)⟩
theorem lw_p26 : lw_okq (⟨"ArkTerraceModel", "readMore", "(I)V"⟩, 29) := ⟨⟨by decide +kernel, by decide +kernel⟩, List.mem_of_getElem? (i := 844) (by decide +kernel), List.mem_of_getElem? (i := 980) (by decide +kernel), List.mem_of_getElem? (i := 981) (by decide +kernel)⟩
theorem lw_p27 : lw_okq (⟨"ArkTerraceModel", "readThing", "(I)V"⟩, 29) := ⟨⟨by decide +kernel, by decide +kernel⟩, List.mem_of_getElem? (i := 844) (by decide +kernel), List.mem_of_getElem? (i := 984) (by decide +kernel), List.mem_of_getElem? (i := 985) (by decide +kernel)⟩
theorem lw_p28 : lw_okq (⟨"ArkTerraceModel", "number", "(II)I"⟩, 29) := ⟨⟨by decide +kernel, by decide +kernel⟩, List.mem_of_getElem? (i := 844) (by decide +kernel), List.mem_of_getElem? (i := 988) (by decide +kernel), List.mem_of_getElem? (i := 989) (by decide +kernel)⟩
theorem lw_p29 : lw_okq (⟨"ArkTerraceModel", "readHouse", "()V"⟩, 29) := ⟨⟨by decide +kernel, by decide +kernel⟩, List.mem_of_getElem? (i := 844) (by decide +kernel), List.mem_of_getElem? (i := 992) (by decide +kernel), List.mem_of_getElem? (i := 993) (by decide +kernel)⟩
theorem lw_p30 : lw_okq (⟨"ArkTerraceModel", "readRise", "()V"⟩, 29) := ⟨⟨by decide +kernel, by decide +kernel⟩, List.mem_of_getElem? (i := 844) (by decide +kernel), List.mem_of_getElem? (i := 996) (by decide +kernel), List.mem_of_getElem? (i := 997) (by decide +kernel)⟩
theorem lw_p31 : lw_okq (⟨"ArkTerraceModel", "afloatOn", "(I)I"⟩, 29) := ⟨⟨by decide +kernel, by decide +kernel⟩, List.mem_of_getElem? (i := 844) (by decide +kernel), List.mem_of_getElem? (i := 1009) (by decide +kernel), List.mem_of_getElem? (i := 1010) (by decide +kernel)⟩
def lw_privs_2 : List (MethodName × Nat) := [(⟨"ArkTerrace", "bestOrSorrow", "(III)I"⟩, 10), (⟨"ArkTerrace", "behindStorms", "(II)LArkTerrace$Terrace;"⟩, 10), (⟨"ArkTerrace$Sightings", "agreeWith", "(LArkTerrace$Futures;I)Z"⟩, 3), (⟨"ArkTerrace", "tellRooms", "(II)V"⟩, 10), (⟨"ArkTerrace$Futures", "alikeFrom", "(III)I"⟩, 2), (⟨"ArkTerraceModel", "step", "()V"⟩, 29), (⟨"ArkTerraceModel", "byteAt", "(I)I"⟩, 29), (⟨"ArkTerraceModel", "fails", "(I)V"⟩, 29), (⟨"ArkTerraceModel", "readLine", "()V"⟩, 29), (⟨"ArkTerraceModel", "nameHere", "()I"⟩, 29), (⟨"ArkTerraceModel", "readMore", "(I)V"⟩, 29), (⟨"ArkTerraceModel", "readThing", "(I)V"⟩, 29), (⟨"ArkTerraceModel", "number", "(II)I"⟩, 29), (⟨"ArkTerraceModel", "readHouse", "()V"⟩, 29), (⟨"ArkTerraceModel", "readRise", "()V"⟩, 29), (⟨"ArkTerraceModel", "afloatOn", "(I)I"⟩, 29)]
theorem lw_r2 : ∀ q ∈ lw_privs_2, lw_okq q := List.forall_mem_cons.mpr ⟨lw_p16, List.forall_mem_cons.mpr ⟨lw_p17, List.forall_mem_cons.mpr ⟨lw_p18, List.forall_mem_cons.mpr ⟨lw_p19, List.forall_mem_cons.mpr ⟨lw_p20, List.forall_mem_cons.mpr ⟨lw_p21, List.forall_mem_cons.mpr ⟨lw_p22, List.forall_mem_cons.mpr ⟨lw_p23, List.forall_mem_cons.mpr ⟨lw_p24, List.forall_mem_cons.mpr ⟨lw_p25, List.forall_mem_cons.mpr ⟨lw_p26, List.forall_mem_cons.mpr ⟨lw_p27, List.forall_mem_cons.mpr ⟨lw_p28, List.forall_mem_cons.mpr ⟨lw_p29, List.forall_mem_cons.mpr ⟨lw_p30, List.forall_mem_cons.mpr ⟨lw_p31, fun _ h => absurd h List.not_mem_nil⟩⟩⟩⟩⟩⟩⟩⟩⟩⟩⟩⟩⟩⟩⟩⟩
theorem lw_p32 : lw_okq (⟨"ArkTerraceModel", "thoseOn", "(II)I"⟩, 29) := ⟨⟨by decide +kernel, by decide +kernel⟩, List.mem_of_getElem? (i := 844) (by decide +kernel), List.mem_of_getElem? (i := 1013) (by decide +kernel), List.mem_of_getElem? (i := 1014) (by decide +kernel)⟩
theorem lw_p33 : lw_okq (⟨"ArkTerraceModel", "isHouse", "(I)Z"⟩, 29) := ⟨⟨by decide +kernel, by decide +kernel⟩, List.mem_of_getElem? (i := 844) (by decide +kernel), List.mem_of_getElem? (i := 1021) (by decide +kernel), List.mem_of_getElem? (i := 1022) (by decide +kernel)⟩
theorem lw_p34 : lw_okq (⟨"ArkTerraceModel", "filledOn", "(II)I"⟩, 29) := ⟨⟨by decide +kernel, by decide +kernel⟩, List.mem_of_getElem? (i := 844) (by decide +kernel), List.mem_of_getElem? (i := 1026) (by decide +kernel), List.mem_of_getElem? (i := 1027) (by decide +kernel)⟩
theorem lw_p35 : lw_okq (⟨"ArkTerraceModel", "fillsOn", "(II)I"⟩, 29) := ⟨⟨by decide +kernel, by decide +kernel⟩, List.mem_of_getElem? (i := 844) (by decide +kernel), List.mem_of_getElem? (i := 1030) (by decide +kernel), List.mem_of_getElem? (i := 1031) (by decide +kernel)⟩
theorem lw_p36 : lw_okq (⟨"ArkTerraceModel", "ofHouse", "(II)I"⟩, 29) := ⟨⟨by decide +kernel, by decide +kernel⟩, List.mem_of_getElem? (i := 844) (by decide +kernel), List.mem_of_getElem? (i := 1034) (by decide +kernel), List.mem_of_getElem? (i := 1035) (by decide +kernel)⟩
theorem lw_p37 : lw_okq (⟨"ArkTerraceModel", "isThing", "(I)Z"⟩, 29) := ⟨⟨by decide +kernel, by decide +kernel⟩, List.mem_of_getElem? (i := 844) (by decide +kernel), List.mem_of_getElem? (i := 1042) (by decide +kernel), List.mem_of_getElem? (i := 1043) (by decide +kernel)⟩
theorem lw_p38 : lw_okq (⟨"ArkTerraceModel", "costsOn", "(II)I"⟩, 29) := ⟨⟨by decide +kernel, by decide +kernel⟩, List.mem_of_getElem? (i := 844) (by decide +kernel), List.mem_of_getElem? (i := 1046) (by decide +kernel), List.mem_of_getElem? (i := 1047) (by decide +kernel)⟩
theorem lw_p39 : lw_okq (⟨"ArkTerraceModel", "puts", "(ZIII)I"⟩, 29) := ⟨⟨by decide +kernel, by decide +kernel⟩, List.mem_of_getElem? (i := 844) (by decide +kernel), List.mem_of_getElem? (i := 1059) (by decide +kernel), List.mem_of_getElem? (i := 1060) (by decide +kernel)⟩
theorem lw_p40 : lw_okq (⟨"ArkTerraceModel", "stowsOn", "(II)I"⟩, 29) := ⟨⟨by decide +kernel, by decide +kernel⟩, List.mem_of_getElem? (i := 844) (by decide +kernel), List.mem_of_getElem? (i := 1081) (by decide +kernel), List.mem_of_getElem? (i := 1082) (by decide +kernel)⟩
theorem lw_p41 : lw_okq (⟨"ArkTerraceModel", "riseOn", "(I)I"⟩, 29) := ⟨⟨by decide +kernel, by decide +kernel⟩, List.mem_of_getElem? (i := 844) (by decide +kernel), List.mem_of_getElem? (i := 1094) (by decide +kernel), List.mem_of_getElem? (i := 1095) (by decide +kernel)⟩
theorem lw_p42 : lw_okq (⟨"ArkTerraceModel", "dayOn", "(II)V"⟩, 29) := ⟨⟨by decide +kernel, by decide +kernel⟩, List.mem_of_getElem? (i := 844) (by decide +kernel), List.mem_of_getElem? (i := 1098) (by decide +kernel), List.mem_of_getElem? (i := 1099) (by decide +kernel)⟩
theorem lw_p43 : lw_okq (⟨"ArkTerraceModel", "losesOn", "(II)V"⟩, 29) := ⟨⟨by decide +kernel, by decide +kernel⟩, List.mem_of_getElem? (i := 844) (by decide +kernel), List.mem_of_getElem? (i := 1102) (by decide +kernel), List.mem_of_getElem? (i := 1103) (by decide +kernel)⟩
theorem lw_p44 : lw_okq (⟨"ArkTerraceModel", "floatsOn", "(II)V"⟩, 29) := ⟨⟨by decide +kernel, by decide +kernel⟩, List.mem_of_getElem? (i := 844) (by decide +kernel), List.mem_of_getElem? (i := 1106) (by decide +kernel), List.mem_of_getElem? (i := 1107) (by decide +kernel)⟩
theorem lw_p45 : lw_okq (⟨"ArkTerraceModel", "daysGo", "(II)I"⟩, 29) := ⟨⟨by decide +kernel, by decide +kernel⟩, List.mem_of_getElem? (i := 844) (by decide +kernel), List.mem_of_getElem? (i := 1115) (by decide +kernel), List.mem_of_getElem? (i := 1116) (by decide +kernel)⟩
theorem lw_p46 : lw_okq (⟨"ArkTerraceModel", "copies", "(II)V"⟩, 29) := ⟨⟨by decide +kernel, by decide +kernel⟩, List.mem_of_getElem? (i := 844) (by decide +kernel), List.mem_of_getElem? (i := 1119) (by decide +kernel), List.mem_of_getElem? (i := 1120) (by decide +kernel)⟩
theorem lw_p47 : lw_okq (⟨"ArkTerraceModel", "byStorm", "(IIII)J"⟩, 29) := ⟨⟨by decide +kernel, by decide +kernel⟩, List.mem_of_getElem? (i := 844) (by decide +kernel), List.mem_of_getElem? (i := 1169) (by decide +kernel), List.mem_of_getElem? (i := 1170) (by decide +kernel)⟩
def lw_privs_3 : List (MethodName × Nat) := [(⟨"ArkTerraceModel", "thoseOn", "(II)I"⟩, 29), (⟨"ArkTerraceModel", "isHouse", "(I)Z"⟩, 29), (⟨"ArkTerraceModel", "filledOn", "(II)I"⟩, 29), (⟨"ArkTerraceModel", "fillsOn", "(II)I"⟩, 29), (⟨"ArkTerraceModel", "ofHouse", "(II)I"⟩, 29), (⟨"ArkTerraceModel", "isThing", "(I)Z"⟩, 29), (⟨"ArkTerraceModel", "costsOn", "(II)I"⟩, 29), (⟨"ArkTerraceModel", "puts", "(ZIII)I"⟩, 29), (⟨"ArkTerraceModel", "stowsOn", "(II)I"⟩, 29), (⟨"ArkTerraceModel", "riseOn", "(I)I"⟩, 29), (⟨"ArkTerraceModel", "dayOn", "(II)V"⟩, 29), (⟨"ArkTerraceModel", "losesOn", "(II)V"⟩, 29), (⟨"ArkTerraceModel", "floatsOn", "(II)V"⟩, 29), (⟨"ArkTerraceModel", "daysGo", "(II)I"⟩, 29), (⟨"ArkTerraceModel", "copies", "(II)V"⟩, 29), (⟨"ArkTerraceModel", "byStorm", "(IIII)J"⟩, 29)]
theorem lw_r3 : ∀ q ∈ lw_privs_3, lw_okq q := List.forall_mem_cons.mpr ⟨lw_p32, List.forall_mem_cons.mpr ⟨lw_p33, List.forall_mem_cons.mpr ⟨lw_p34, List.forall_mem_cons.mpr ⟨lw_p35, List.forall_mem_cons.mpr ⟨lw_p36, List.forall_mem_cons.mpr ⟨lw_p37, List.forall_mem_cons.mpr ⟨lw_p38, List.forall_mem_cons.mpr ⟨lw_p39, List.forall_mem_cons.mpr ⟨lw_p40, List.forall_mem_cons.mpr ⟨lw_p41, List.forall_mem_cons.mpr ⟨lw_p42, List.forall_mem_cons.mpr ⟨lw_p43, List.forall_mem_cons.mpr ⟨lw_p44, List.forall_mem_cons.mpr ⟨lw_p45, List.forall_mem_cons.mpr ⟨lw_p46, List.forall_mem_cons.mpr ⟨lw_p47, fun _ h => absurd h List.not_mem_nil⟩⟩⟩⟩⟩⟩⟩⟩⟩⟩⟩⟩⟩⟩⟩⟩
theorem lw_p48 : lw_okq (⟨"ArkTerraceModel", "numbersAt", "(II)I"⟩, 29) := ⟨⟨by decide +kernel, by decide +kernel⟩, List.mem_of_getElem? (i := 844) (by decide +kernel), List.mem_of_getElem? (i := 1195) (by decide +kernel), List.mem_of_getElem? (i := 1196) (by decide +kernel)⟩
theorem lw_p49 : lw_okq (⟨"ArkTerraceModel", "isAsSeen", "(I)Z"⟩, 29) := ⟨⟨by decide +kernel, by decide +kernel⟩, List.mem_of_getElem? (i := 844) (by decide +kernel), List.mem_of_getElem? (i := 1199) (by decide +kernel), List.mem_of_getElem? (i := 1200) (by decide +kernel)⟩
def lw_privs_4 : List (MethodName × Nat) := [(⟨"ArkTerraceModel", "numbersAt", "(II)I"⟩, 29), (⟨"ArkTerraceModel", "isAsSeen", "(I)Z"⟩, 29)]
theorem lw_r4 : ∀ q ∈ lw_privs_4, lw_okq q := List.forall_mem_cons.mpr ⟨lw_p48, List.forall_mem_cons.mpr ⟨lw_p49, fun _ h => absurd h List.not_mem_nil⟩⟩
def lw_privs : List (MethodName × Nat) := lw_privs_1 ++ (lw_privs_2 ++ (lw_privs_3 ++ (lw_privs_4)))
def lw_tbl : List Cond := k2_sels lw_privs ++ tables_1
theorem lw_privs_ok : ∀ q ∈ lw_privs, lw_okq q := by
  show ∀ q ∈ lw_privs_1 ++ (lw_privs_2 ++ (lw_privs_3 ++ (lw_privs_4))), lw_okq q
  exact List.forall_mem_append.mpr ⟨lw_r1, List.forall_mem_append.mpr ⟨lw_r2, List.forall_mem_append.mpr ⟨lw_r3, lw_r4⟩⟩⟩

def RX0 : String := "ArkTerrace$Futures"
def TX0 : u_T := fun k => match k with
  | 0 => ("ArkTerrace$Futures", "sorrows", "[I", true)
  | _ => ("ArkTerrace$Futures", "rows", "I", false)
def tyX0 : Nat → FieldType := fun k => match k with
  | 0 => .array .int
  | _ => .int
abbrev wsX00 : List Cond := u_ws RX0 TX0 2
theorem nmX0 : ∀ a, a < 2 → ∀ b, b < 2 → a ≠ b → (TX0 a).2.1 ≠ (TX0 b).2.1 := by decide +kernel
theorem tyX0_ok : ∀ k, k < 2 → parseFieldDescriptor (TX0 k).2.2.1 = some (tyX0 k) := by decide +kernel
abbrev cX0_init : ByteArray := prog_2_method_1_code
def yX0_init : MethodName := ⟨RX0, "<init>", "()V"⟩
abbrev cX0_empty : ByteArray := prog_2_method_2_code
def yX0_empty : MethodName := ⟨RX0, "empty", "()V"⟩
abbrev cX0_addRow : ByteArray := prog_2_method_3_code
def yX0_addRow : MethodName := ⟨RX0, "addRow", "(LArkTerrace$Terrace;I)V"⟩
abbrev cX0_sorrowOf : ByteArray := prog_2_method_4_code
def yX0_sorrowOf : MethodName := ⟨RX0, "sorrowOf", "(II)I"⟩
abbrev cX0_leftAtWorst : ByteArray := prog_2_method_5_code
def yX0_leftAtWorst : MethodName := ⟨RX0, "leftAtWorst", "(II)I"⟩
abbrev cX0_alikeFrom : ByteArray := prog_2_method_6_code
def yX0_alikeFrom : MethodName := ⟨RX0, "alikeFrom", "(III)I"⟩
def RX1 : String := "ArkTerrace$Reader"
def TX1 : u_T := fun k => match k with
  | 0 => ("ArkTerrace$Reader", "tape", "LArkTerrace$Tape;", true)
  | 1 => ("ArkTerrace$Reader", "draft", "LArkTerrace$Terrace;", true)
  | 2 => ("ArkTerrace$Reader", "numbers", "[I", true)
  | 3 => ("ArkTerrace$Reader", "at", "I", false)
  | 4 => ("ArkTerrace$Reader", "token", "I", false)
  | 5 => ("ArkTerrace$Reader", "tokenFrom", "I", false)
  | 6 => ("ArkTerrace$Reader", "tokenValue", "I", false)
  | 7 => ("ArkTerrace$Reader", "windTold", "Z", false)
  | 8 => ("ArkTerrace$Reader", "levelTold", "Z", false)
  | 9 => ("ArkTerrace$Reader", "daysTold", "I", false)
  | 10 => ("ArkTerrace$Reader", "faultFound", "I", false)
  | _ => ("ArkTerrace$Reader", "faultPlace", "I", false)
def tyX1 : Nat → FieldType := fun k => match k with
  | 0 => .object "ArkTerrace$Tape"
  | 1 => .object "ArkTerrace$Terrace"
  | 2 => .array .int
  | 3 => .int
  | 4 => .int
  | 5 => .int
  | 6 => .int
  | 7 => .boolean
  | 8 => .boolean
  | 9 => .int
  | 10 => .int
  | _ => .int
abbrev wsX10 : List Cond := u_ws RX1 TX1 12
theorem nmX1 : ∀ a, a < 12 → ∀ b, b < 12 → a ≠ b → (TX1 a).2.1 ≠ (TX1 b).2.1 := by decide +kernel
theorem tyX1_ok : ∀ k, k < 12 → parseFieldDescriptor (TX1 k).2.2.1 = some (tyX1 k) := by decide +kernel
abbrev cX1_init : ByteArray := prog_3_method_1_code
def yX1_init : MethodName := ⟨RX1, "<init>", "()V"⟩
abbrev cX1_readLines : ByteArray := prog_3_method_2_code
def yX1_readLines : MethodName := ⟨RX1, "readLines", "()I"⟩
abbrev cX1_refuse : ByteArray := prog_3_method_3_code
def yX1_refuse : MethodName := ⟨RX1, "refuse", "(II)Z"⟩
abbrev cX1_takeLine : ByteArray := prog_3_method_4_code
def yX1_takeLine : MethodName := ⟨RX1, "takeLine", "()Z"⟩
abbrev cX1_mayBegin : ByteArray := prog_3_method_5_code
def yX1_mayBegin : MethodName := ⟨RX1, "mayBegin", "(I)Z"⟩
abbrev cX1_takeNumbers : ByteArray := prog_3_method_6_code
def yX1_takeNumbers : MethodName := ⟨RX1, "takeNumbers", "(I)Z"⟩
abbrev cX1_mostOf : ByteArray := prog_3_method_7_code
def yX1_mostOf : MethodName := ⟨RX1, "mostOf", "(I)[I"⟩
abbrev cX1_tellLine : ByteArray := prog_3_method_8_code
def yX1_tellLine : MethodName := ⟨RX1, "tellLine", "(I)V"⟩
abbrev cX1_takeToken : ByteArray := prog_3_method_9_code
def yX1_takeToken : MethodName := ⟨RX1, "takeToken", "()Z"⟩
abbrev cX1_passLetters : ByteArray := prog_3_method_10_code
def yX1_passLetters : MethodName := ⟨RX1, "passLetters", "()V"⟩
abbrev cX1_takeFigures : ByteArray := prog_3_method_11_code
def yX1_takeFigures : MethodName := ⟨RX1, "takeFigures", "()Z"⟩
abbrev cX1_isLetter : ByteArray := prog_3_method_12_code
def yX1_isLetter : MethodName := ⟨RX1, "isLetter", "(I)Z"⟩
abbrev cX1_isFigure : ByteArray := prog_3_method_13_code
def yX1_isFigure : MethodName := ⟨RX1, "isFigure", "(I)Z"⟩
abbrev cX1_wordHere : ByteArray := prog_3_method_14_code
def yX1_wordHere : MethodName := ⟨RX1, "wordHere", "()I"⟩
abbrev cX1_spellingOf : ByteArray := prog_3_method_15_code
def yX1_spellingOf : MethodName := ⟨RX1, "spellingOf", "(I)Ljava/lang/String;"⟩
abbrev cX1_isSpelled : ByteArray := prog_3_method_16_code
def yX1_isSpelled : MethodName := ⟨RX1, "isSpelled", "(Ljava/lang/String;)Z"⟩
def RX2 : String := "ArkTerrace$Sheet"
def TX2 : u_T := fun k => match k with
  | 0 => ("ArkTerrace$Sheet", "cells", "[I", true)
  | 1 => ("ArkTerrace$Sheet", "made", "Z", false)
  | 2 => ("ArkTerrace$Sheet", "lane", "I", false)
  | _ => ("ArkTerrace$Sheet", "size", "I", false)
def tyX2 : Nat → FieldType := fun k => match k with
  | 0 => .array .int
  | 1 => .boolean
  | 2 => .int
  | _ => .int
abbrev wsX20 : List Cond := u_ws RX2 TX2 4
theorem nmX2 : ∀ a, a < 4 → ∀ b, b < 4 → a ≠ b → (TX2 a).2.1 ≠ (TX2 b).2.1 := by decide +kernel
theorem tyX2_ok : ∀ k, k < 4 → parseFieldDescriptor (TX2 k).2.2.1 = some (tyX2 k) := by decide +kernel
abbrev cX2_init : ByteArray := prog_4_method_1_code
def yX2_init : MethodName := ⟨RX2, "<init>", "()V"⟩
abbrev cX2_renew : ByteArray := prog_4_method_2_code
def yX2_renew : MethodName := ⟨RX2, "renew", "(II)V"⟩
abbrev cX2_faultAt : ByteArray := prog_4_method_3_code
def yX2_faultAt : MethodName := ⟨RX2, "faultAt", "(II)I"⟩
abbrev cX2_lowestBits : ByteArray := prog_4_method_4_code
def yX2_lowestBits : MethodName := ⟨RX2, "lowestBits", "(I)I"⟩
def RX3 : String := "ArkTerrace$Sightings"
def TX3 : u_T := fun k => match k with
  | 0 => ("ArkTerrace$Sightings", "behind", "[I", true)
  | 1 => ("ArkTerrace$Sightings", "sorrows", "[I", true)
  | _ => ("ArkTerrace$Sightings", "size", "I", false)
def tyX3 : Nat → FieldType := fun k => match k with
  | 0 => .array .int
  | 1 => .array .int
  | _ => .int
abbrev wsX30 : List Cond := u_ws RX3 TX3 3
theorem nmX3 : ∀ a, a < 3 → ∀ b, b < 3 → a ≠ b → (TX3 a).2.1 ≠ (TX3 b).2.1 := by decide +kernel
theorem tyX3_ok : ∀ k, k < 3 → parseFieldDescriptor (TX3 k).2.2.1 = some (tyX3 k) := by decide +kernel
abbrev cX3_init : ByteArray := prog_5_method_1_code
def yX3_init : MethodName := ⟨RX3, "<init>", "()V"⟩
abbrev cX3_addSighting : ByteArray := prog_5_method_2_code
def yX3_addSighting : MethodName := ⟨RX3, "addSighting", "(II)Z"⟩
abbrev cX3_latestDay : ByteArray := prog_5_method_3_code
def yX3_latestDay : MethodName := ⟨RX3, "latestDay", "()I"⟩
abbrev cX3_rowsAsSeen : ByteArray := prog_5_method_4_code
def yX3_rowsAsSeen : MethodName := ⟨RX3, "rowsAsSeen", "(LArkTerrace$Futures;)I"⟩
abbrev cX3_agreeWith : ByteArray := prog_5_method_5_code
def yX3_agreeWith : MethodName := ⟨RX3, "agreeWith", "(LArkTerrace$Futures;I)Z"⟩
def RX4 : String := "ArkTerrace$Tape"
def TX4 : u_T := fun k => match k with
  | 0 => ("ArkTerrace$Tape", "bytes", "[B", true)
  | _ => ("ArkTerrace$Tape", "length", "I", false)
def tyX4 : Nat → FieldType := fun k => match k with
  | 0 => .array .byte
  | _ => .int
abbrev wsX40 : List Cond := u_ws RX4 TX4 2
theorem nmX4 : ∀ a, a < 2 → ∀ b, b < 2 → a ≠ b → (TX4 a).2.1 ≠ (TX4 b).2.1 := by decide +kernel
theorem tyX4_ok : ∀ k, k < 2 → parseFieldDescriptor (TX4 k).2.2.1 = some (tyX4 k) := by decide +kernel
abbrev cX4_init : ByteArray := prog_6_method_1_code
def yX4_init : MethodName := ⟨RX4, "<init>", "()V"⟩
abbrev cX4_addByte : ByteArray := prog_6_method_2_code
def yX4_addByte : MethodName := ⟨RX4, "addByte", "(I)Z"⟩
def RX5 : String := "ArkTerrace$Terrace"
def TX5 : u_T := fun k => match k with
  | 0 => ("ArkTerrace$Terrace", "houses", "I", false)
  | 1 => ("ArkTerrace$Terrace", "height", "[I", true)
  | 2 => ("ArkTerrace$Terrace", "room", "[I", true)
  | 3 => ("ArkTerrace$Terrace", "leakOf", "[I", true)
  | 4 => ("ArkTerrace$Terrace", "place", "[I", true)
  | 5 => ("ArkTerrace$Terrace", "afloat", "I", false)
  | 6 => ("ArkTerrace$Terrace", "things", "I", false)
  | 7 => ("ArkTerrace$Terrace", "kindOf", "[I", true)
  | 8 => ("ArkTerrace$Terrace", "homeOf", "[I", true)
  | 9 => ("ArkTerrace$Terrace", "sizeOf", "[I", true)
  | 10 => ("ArkTerrace$Terrace", "worthOf", "[I", true)
  | 11 => ("ArkTerrace$Terrace", "stowed", "I", false)
  | 12 => ("ArkTerrace$Terrace", "gone", "I", false)
  | 13 => ("ArkTerrace$Terrace", "rises", "[I", true)
  | 14 => ("ArkTerrace$Terrace", "wind", "I", false)
  | 15 => ("ArkTerrace$Terrace", "level", "I", false)
  | 16 => ("ArkTerrace$Terrace", "day", "I", false)
  | _ => ("ArkTerrace$Terrace", "sorrow", "I", false)
def tyX5 : Nat → FieldType := fun k => match k with
  | 0 => .int
  | 1 => .array .int
  | 2 => .array .int
  | 3 => .array .int
  | 4 => .array .int
  | 5 => .int
  | 6 => .int
  | 7 => .array .int
  | 8 => .array .int
  | 9 => .array .int
  | 10 => .array .int
  | 11 => .int
  | 12 => .int
  | 13 => .array .int
  | 14 => .int
  | 15 => .int
  | 16 => .int
  | _ => .int
abbrev wsX50 : List Cond := u_ws RX5 TX5 18
theorem nmX5 : ∀ a, a < 18 → ∀ b, b < 18 → a ≠ b → (TX5 a).2.1 ≠ (TX5 b).2.1 := by decide +kernel
theorem tyX5_ok : ∀ k, k < 18 → parseFieldDescriptor (TX5 k).2.2.1 = some (tyX5 k) := by decide +kernel
abbrev cX5_init : ByteArray := prog_7_method_1_code
def yX5_init : MethodName := ⟨RX5, "<init>", "()V"⟩
abbrev cX5_clear : ByteArray := prog_7_method_2_code
def yX5_clear : MethodName := ⟨RX5, "clear", "()V"⟩
abbrev cX5_copyFrom : ByteArray := prog_7_method_3_code
def yX5_copyFrom : MethodName := ⟨RX5, "copyFrom", "(LArkTerrace$Terrace;)V"⟩
abbrev cX5_copyRow : ByteArray := prog_7_method_4_code
def yX5_copyRow : MethodName := ⟨RX5, "copyRow", "([I[I)V"⟩
abbrev cX5_addHouse : ByteArray := prog_7_method_5_code
def yX5_addHouse : MethodName := ⟨RX5, "addHouse", "(III)V"⟩
abbrev cX5_addThing : ByteArray := prog_7_method_6_code
def yX5_addThing : MethodName := ⟨RX5, "addThing", "(IIII)V"⟩
abbrev cX5_isHouse : ByteArray := prog_7_method_7_code
def yX5_isHouse : MethodName := ⟨RX5, "isHouse", "(I)Z"⟩
abbrev cX5_isThing : ByteArray := prog_7_method_8_code
def yX5_isThing : MethodName := ⟨RX5, "isThing", "(I)Z"⟩
abbrev cX5_hasHomes : ByteArray := prog_7_method_9_code
def yX5_hasHomes : MethodName := ⟨RX5, "hasHomes", "()Z"⟩
abbrev cX5_houseRow : ByteArray := prog_7_method_10_code
def yX5_houseRow : MethodName := ⟨RX5, "houseRow", "(I)[I"⟩
abbrev cX5_thingRow : ByteArray := prog_7_method_11_code
def yX5_thingRow : MethodName := ⟨RX5, "thingRow", "(I)[I"⟩
abbrev cX5_isAfloat : ByteArray := prog_7_method_12_code
def yX5_isAfloat : MethodName := ⟨RX5, "isAfloat", "(I)Z"⟩
abbrev cX5_isIn : ByteArray := prog_7_method_13_code
def yX5_isIn : MethodName := ⟨RX5, "isIn", "(I)Z"⟩
abbrev cX5_isGone : ByteArray := prog_7_method_14_code
def yX5_isGone : MethodName := ⟨RX5, "isGone", "(I)Z"⟩
abbrev cX5_whereIs : ByteArray := prog_7_method_15_code
def yX5_whereIs : MethodName := ⟨RX5, "whereIs", "(I)I"⟩
abbrev cX5_fillOf : ByteArray := prog_7_method_16_code
def yX5_fillOf : MethodName := ⟨RX5, "fillOf", "(I)I"⟩
abbrev cX5_costOf : ByteArray := prog_7_method_17_code
def yX5_costOf : MethodName := ⟨RX5, "costOf", "(I)I"⟩
abbrev cX5_thingsOf : ByteArray := prog_7_method_18_code
def yX5_thingsOf : MethodName := ⟨RX5, "thingsOf", "(I)I"⟩
abbrev cX5_fillOfSet : ByteArray := prog_7_method_19_code
def yX5_fillOfSet : MethodName := ⟨RX5, "fillOfSet", "(I)I"⟩
abbrev cX5_costOfSet : ByteArray := prog_7_method_20_code
def yX5_costOfSet : MethodName := ⟨RX5, "costOfSet", "(I)I"⟩
abbrev cX5_filledOf : ByteArray := prog_7_method_21_code
def yX5_filledOf : MethodName := ⟨RX5, "filledOf", "(I)I"⟩
abbrev cX5_putIn : ByteArray := prog_7_method_22_code
def yX5_putIn : MethodName := ⟨RX5, "putIn", "(I)I"⟩
abbrev cX5_takeOut : ByteArray := prog_7_method_23_code
def yX5_takeOut : MethodName := ⟨RX5, "takeOut", "(I)I"⟩
abbrev cX5_mayChangeHomes : ByteArray := prog_7_method_24_code
def yX5_mayChangeHomes : MethodName := ⟨RX5, "mayChangeHomes", "(II)Z"⟩
abbrev cX5_changeHomes : ByteArray := prog_7_method_25_code
def yX5_changeHomes : MethodName := ⟨RX5, "changeHomes", "(II)V"⟩
abbrev cX5_riseToday : ByteArray := prog_7_method_26_code
def yX5_riseToday : MethodName := ⟨RX5, "riseToday", "()I"⟩
abbrev cX5_passDays : ByteArray := prog_7_method_27_code
def yX5_passDays : MethodName := ⟨RX5, "passDays", "(I)V"⟩
abbrev cX5_passDay : ByteArray := prog_7_method_28_code
def yX5_passDay : MethodName := ⟨RX5, "passDay", "(II)V"⟩
abbrev cX5_passHouse : ByteArray := prog_7_method_29_code
def yX5_passHouse : MethodName := ⟨RX5, "passHouse", "(II)V"⟩
abbrev cX5_loseWhatIsOut : ByteArray := prog_7_method_30_code
def yX5_loseWhatIsOut : MethodName := ⟨RX5, "loseWhatIsOut", "(I)V"⟩
abbrev cX5_loseWhatIsOver : ByteArray := prog_7_method_31_code
def yX5_loseWhatIsOver : MethodName := ⟨RX5, "loseWhatIsOver", "(I)V"⟩
abbrev cX5_loseThing : ByteArray := prog_7_method_32_code
def yX5_loseThing : MethodName := ⟨RX5, "loseThing", "(I)V"⟩
def RX6 : String := "ArkTerrace"
def TX6 : u_T := fun k => match k with
  | 0 => ("ArkTerrace", "now", "LArkTerrace$Terrace;", true)
  | 1 => ("ArkTerrace", "trial", "LArkTerrace$Terrace;", true)
  | 2 => ("ArkTerrace", "images", "[LArkTerrace$Terrace;", true)
  | 3 => ("ArkTerrace", "imagesKept", "I", false)
  | 4 => ("ArkTerrace", "reader", "LArkTerrace$Reader;", true)
  | 5 => ("ArkTerrace", "textFault", "I", false)
  | 6 => ("ArkTerrace", "sightings", "LArkTerrace$Sightings;", true)
  | 7 => ("ArkTerrace", "futures", "LArkTerrace$Futures;", true)
  | 8 => ("ArkTerrace", "sheets", "[LArkTerrace$Sheet;", true)
  | _ => ("ArkTerrace", "readFault", "I", false)
def tyX6 : Nat → FieldType := fun k => match k with
  | 0 => .object "ArkTerrace$Terrace"
  | 1 => .object "ArkTerrace$Terrace"
  | 2 => .array (.object "ArkTerrace$Terrace")
  | 3 => .int
  | 4 => .object "ArkTerrace$Reader"
  | 5 => .int
  | 6 => .object "ArkTerrace$Sightings"
  | 7 => .object "ArkTerrace$Futures"
  | 8 => .array (.object "ArkTerrace$Sheet")
  | _ => .int
abbrev wsX60 : List Cond := u_ws RX6 TX6 10
theorem nmX6 : ∀ a, a < 10 → ∀ b, b < 10 → a ≠ b → (TX6 a).2.1 ≠ (TX6 b).2.1 := by decide +kernel
theorem tyX6_ok : ∀ k, k < 10 → parseFieldDescriptor (TX6 k).2.2.1 = some (tyX6 k) := by decide +kernel
abbrev cX6_init : ByteArray := prog_1_method_1_code
def yX6_init : MethodName := ⟨RX6, "<init>", "()V"⟩
abbrev cX6_feed : ByteArray := prog_1_method_2_code
def yX6_feed : MethodName := ⟨RX6, "feed", "(I)I"⟩
abbrev cX6_end : ByteArray := prog_1_method_3_code
def yX6_end : MethodName := ⟨RX6, "end", "(I)I"⟩
abbrev cX6_text : ByteArray := prog_1_method_4_code
def yX6_text : MethodName := ⟨RX6, "text", "()I"⟩
abbrev cX6_fault : ByteArray := prog_1_method_5_code
def yX6_fault : MethodName := ⟨RX6, "fault", "()I"⟩
abbrev cX6_rule : ByteArray := prog_1_method_6_code
def yX6_rule : MethodName := ⟨RX6, "rule", "(I)I"⟩
abbrev cX6_house : ByteArray := prog_1_method_7_code
def yX6_house : MethodName := ⟨RX6, "house", "(II)I"⟩
abbrev cX6_thing : ByteArray := prog_1_method_8_code
def yX6_thing : MethodName := ⟨RX6, "thing", "(II)I"⟩
abbrev cX6_rise : ByteArray := prog_1_method_9_code
def yX6_rise : MethodName := ⟨RX6, "rise", "(I)I"⟩
abbrev cX6_build : ByteArray := prog_1_method_10_code
def yX6_build : MethodName := ⟨RX6, "build", "(III)I"⟩
abbrev cX6_alter : ByteArray := prog_1_method_11_code
def yX6_alter : MethodName := ⟨RX6, "alter", "(III)I"⟩
abbrev cX6_tide : ByteArray := prog_1_method_12_code
def yX6_tide : MethodName := ⟨RX6, "tide", "(II)I"⟩
abbrev cX6_blow : ByteArray := prog_1_method_13_code
def yX6_blow : MethodName := ⟨RX6, "blow", "(I)I"⟩
abbrev cX6_stow : ByteArray := prog_1_method_14_code
def yX6_stow : MethodName := ⟨RX6, "stow", "(I)I"⟩
abbrev cX6_fetch : ByteArray := prog_1_method_15_code
def yX6_fetch : MethodName := ⟨RX6, "fetch", "(I)I"⟩
abbrev cX6_days : ByteArray := prog_1_method_16_code
def yX6_days : MethodName := ⟨RX6, "days", "(I)I"⟩
abbrev cX6_runs : ByteArray := prog_1_method_17_code
def yX6_runs : MethodName := ⟨RX6, "runs", "(II)I"⟩
abbrev cX6_ahead : ByteArray := prog_1_method_18_code
def yX6_ahead : MethodName := ⟨RX6, "ahead", "(III)I"⟩
abbrev cX6_lost : ByteArray := prog_1_method_19_code
def yX6_lost : MethodName := ⟨RX6, "lost", "(I)I"⟩
abbrev cX6_meet : ByteArray := prog_1_method_20_code
def yX6_meet : MethodName := ⟨RX6, "meet", "(II)I"⟩
abbrev cX6_pack : ByteArray := prog_1_method_21_code
def yX6_pack : MethodName := ⟨RX6, "pack", "(II)I"⟩
abbrev cX6_need : ByteArray := prog_1_method_22_code
def yX6_need : MethodName := ⟨RX6, "need", "(II)I"⟩
abbrev cX6_high : ByteArray := prog_1_method_23_code
def yX6_high : MethodName := ⟨RX6, "high", "(II)I"⟩
abbrev cX6_leak : ByteArray := prog_1_method_24_code
def yX6_leak : MethodName := ⟨RX6, "leak", "(II)I"⟩
abbrev cX6_swap : ByteArray := prog_1_method_25_code
def yX6_swap : MethodName := ⟨RX6, "swap", "(II)I"⟩
abbrev cX6_save : ByteArray := prog_1_method_26_code
def yX6_save : MethodName := ⟨RX6, "save", "(II)I"⟩
abbrev cX6_kind : ByteArray := prog_1_method_27_code
def yX6_kind : MethodName := ⟨RX6, "kind", "(III)I"⟩
abbrev cX6_luck : ByteArray := prog_1_method_28_code
def yX6_luck : MethodName := ⟨RX6, "luck", "(IIII)J"⟩
abbrev cX6_mean : ByteArray := prog_1_method_29_code
def yX6_mean : MethodName := ⟨RX6, "mean", "(III)J"⟩
abbrev cX6_see : ByteArray := prog_1_method_30_code
def yX6_see : MethodName := ⟨RX6, "see", "(II)I"⟩
abbrev cX6_forget : ByteArray := prog_1_method_31_code
def yX6_forget : MethodName := ⟨RX6, "forget", "(I)I"⟩
abbrev cX6_kinds : ByteArray := prog_1_method_32_code
def yX6_kinds : MethodName := ⟨RX6, "kinds", "(I)I"⟩
abbrev cX6_leaks : ByteArray := prog_1_method_33_code
def yX6_leaks : MethodName := ⟨RX6, "leaks", "(I)I"⟩
abbrev cX6_rooms : ByteArray := prog_1_method_34_code
def yX6_rooms : MethodName := ⟨RX6, "rooms", "(I)I"⟩
abbrev cX6_ask : ByteArray := prog_1_method_35_code
def yX6_ask : MethodName := ⟨RX6, "ask", "(II)I"⟩
abbrev cX6_drift : ByteArray := prog_1_method_36_code
def yX6_drift : MethodName := ⟨RX6, "drift", "(III)I"⟩
abbrev cX6_keep : ByteArray := prog_1_method_37_code
def yX6_keep : MethodName := ⟨RX6, "keep", "(I)I"⟩
abbrev cX6_back : ByteArray := prog_1_method_38_code
def yX6_back : MethodName := ⟨RX6, "back", "(I)I"⟩
abbrev cX6_sheet : ByteArray := prog_1_method_39_code
def yX6_sheet : MethodName := ⟨RX6, "sheet", "(III)I"⟩
abbrev cX6_lay : ByteArray := prog_1_method_40_code
def yX6_lay : MethodName := ⟨RX6, "lay", "(III)I"⟩
abbrev cX6_read : ByteArray := prog_1_method_41_code
def yX6_read : MethodName := ⟨RX6, "read", "(IIII)I"⟩
abbrev cX6_torn : ByteArray := prog_1_method_42_code
def yX6_torn : MethodName := ⟨RX6, "torn", "()I"⟩
abbrev cX6_count : ByteArray := prog_1_method_43_code
def yX6_count : MethodName := ⟨RX6, "count", "(I)I"⟩
abbrev cX6_within : ByteArray := prog_1_method_44_code
def yX6_within : MethodName := ⟨RX6, "within", "(III)Z"⟩
abbrev cX6_bounded : ByteArray := prog_1_method_45_code
def yX6_bounded : MethodName := ⟨RX6, "bounded", "(II)I"⟩
abbrev cX6_isWeekday : ByteArray := prog_1_method_46_code
def yX6_isWeekday : MethodName := ⟨RX6, "isWeekday", "(I)Z"⟩
abbrev cX6_isAhead : ByteArray := prog_1_method_47_code
def yX6_isAhead : MethodName := ⟨RX6, "isAhead", "(I)Z"⟩
abbrev cX6_isSheet : ByteArray := prog_1_method_48_code
def yX6_isSheet : MethodName := ⟨RX6, "isSheet", "(I)Z"⟩
abbrev cX6_replace : ByteArray := prog_1_method_49_code
def yX6_replace : MethodName := ⟨RX6, "replace", "([III)I"⟩
abbrev cX6_sumOf : ByteArray := prog_1_method_50_code
def yX6_sumOf : MethodName := ⟨RX6, "sumOf", "([II)I"⟩
abbrev cX6_copyOfNow : ByteArray := prog_1_method_51_code
def yX6_copyOfNow : MethodName := ⟨RX6, "copyOfNow", "()LArkTerrace$Terrace;"⟩
abbrev cX6_sorrowBehind : ByteArray := prog_1_method_52_code
def yX6_sorrowBehind : MethodName := ⟨RX6, "sorrowBehind", "(LArkTerrace$Terrace;I)I"⟩
abbrev cX6_losesNoneOf : ByteArray := prog_1_method_53_code
def yX6_losesNoneOf : MethodName := ⟨RX6, "losesNoneOf", "(LArkTerrace$Terrace;II)Z"⟩
abbrev cX6_bestOrSorrow : ByteArray := prog_1_method_54_code
def yX6_bestOrSorrow : MethodName := ⟨RX6, "bestOrSorrow", "(III)I"⟩
abbrev cX6_dearestSet : ByteArray := prog_1_method_55_code
def yX6_dearestSet : MethodName := ⟨RX6, "dearestSet", "(I)I"⟩
abbrev cX6_power : ByteArray := prog_1_method_56_code
def yX6_power : MethodName := ⟨RX6, "power", "(II)J"⟩
abbrev cX6_weightOf : ByteArray := prog_1_method_57_code
def yX6_weightOf : MethodName := ⟨RX6, "weightOf", "(III)J"⟩
abbrev cX6_behindStorms : ByteArray := prog_1_method_58_code
def yX6_behindStorms : MethodName := ⟨RX6, "behindStorms", "(II)LArkTerrace$Terrace;"⟩
abbrev cX6_commonDivisor : ByteArray := prog_1_method_59_code
def yX6_commonDivisor : MethodName := ⟨RX6, "commonDivisor", "(JJ)J"⟩
abbrev cX6_fractionPart : ByteArray := prog_1_method_60_code
def yX6_fractionPart : MethodName := ⟨RX6, "fractionPart", "(JJI)J"⟩
abbrev cX6_tellRooms : ByteArray := prog_1_method_61_code
def yX6_tellRooms : MethodName := ⟨RX6, "tellRooms", "(II)V"⟩
def RX7 : String := "ArkTerraceModel"
def TX7 : u_T := fun k => match k with
  | 0 => ("ArkTerraceModel", "state", "[I", true)
  | 1 => ("ArkTerraceModel", "houseMany", "I", false)
  | 2 => ("ArkTerraceModel", "thingMany", "I", false)
  | 3 => ("ArkTerraceModel", "readPage", "[I", true)
  | 4 => ("ArkTerraceModel", "readHouses", "I", false)
  | 5 => ("ArkTerraceModel", "readThings", "I", false)
  | 6 => ("ArkTerraceModel", "toldOnce", "I", false)
  | 7 => ("ArkTerraceModel", "toldDays", "I", false)
  | 8 => ("ArkTerraceModel", "topHouse", "I", false)
  | 9 => ("ArkTerraceModel", "tape", "[I", true)
  | 10 => ("ArkTerraceModel", "taped", "I", false)
  | 11 => ("ArkTerraceModel", "fault", "I", false)
  | 12 => ("ArkTerraceModel", "broken", "I", false)
  | 13 => ("ArkTerraceModel", "brokenAt", "I", false)
  | 14 => ("ArkTerraceModel", "spot", "I", false)
  | 15 => ("ArkTerraceModel", "here", "I", false)
  | 16 => ("ArkTerraceModel", "token", "I", false)
  | 17 => ("ArkTerraceModel", "value", "I", false)
  | 18 => ("ArkTerraceModel", "ends", "[I", true)
  | 19 => ("ArkTerraceModel", "letters", "[I", true)
  | 20 => ("ArkTerraceModel", "greatest", "I", false)
  | 21 => ("ArkTerraceModel", "seen", "[I", true)
  | 22 => ("ArkTerraceModel", "seenMany", "I", false)
  | 23 => ("ArkTerraceModel", "sorrowBy", "[I", true)
  | 24 => ("ArkTerraceModel", "isKept", "[Z", true)
  | 25 => ("ArkTerraceModel", "lanes", "[I", true)
  | 26 => ("ArkTerraceModel", "lengths", "[I", true)
  | 27 => ("ArkTerraceModel", "cells", "[I", true)
  | _ => ("ArkTerraceModel", "torn", "I", false)
def tyX7 : Nat → FieldType := fun k => match k with
  | 0 => .array .int
  | 1 => .int
  | 2 => .int
  | 3 => .array .int
  | 4 => .int
  | 5 => .int
  | 6 => .int
  | 7 => .int
  | 8 => .int
  | 9 => .array .int
  | 10 => .int
  | 11 => .int
  | 12 => .int
  | 13 => .int
  | 14 => .int
  | 15 => .int
  | 16 => .int
  | 17 => .int
  | 18 => .array .int
  | 19 => .array .int
  | 20 => .int
  | 21 => .array .int
  | 22 => .int
  | 23 => .array .int
  | 24 => .array .boolean
  | 25 => .array .int
  | 26 => .array .int
  | 27 => .array .int
  | _ => .int
abbrev wsX70 : List Cond := u_ws RX7 TX7 29
theorem nmX7 : ∀ a, a < 29 → ∀ b, b < 29 → a ≠ b → (TX7 a).2.1 ≠ (TX7 b).2.1 := by decide +kernel
theorem tyX7_ok : ∀ k, k < 29 → parseFieldDescriptor (TX7 k).2.2.1 = some (tyX7 k) := by decide +kernel
abbrev cX7_init : ByteArray := prog_9_method_1_code
def yX7_init : MethodName := ⟨RX7, "<init>", "()V"⟩
abbrev cX7_in : ByteArray := prog_9_method_3_code
def yX7_in : MethodName := ⟨RX7, "in", "(JJJ)Z"⟩
abbrev cX7_feed : ByteArray := prog_9_method_4_code
def yX7_feed : MethodName := ⟨RX7, "feed", "(I)I"⟩
abbrev cX7_end : ByteArray := prog_9_method_5_code
def yX7_end : MethodName := ⟨RX7, "end", "(I)I"⟩
abbrev cX7_byteAt : ByteArray := prog_9_method_6_code
def yX7_byteAt : MethodName := ⟨RX7, "byteAt", "(I)I"⟩
abbrev cX7_fails : ByteArray := prog_9_method_7_code
def yX7_fails : MethodName := ⟨RX7, "fails", "(I)V"⟩
abbrev cX7_nameHere : ByteArray := prog_9_method_8_code
def yX7_nameHere : MethodName := ⟨RX7, "nameHere", "()I"⟩
abbrev cX7_step : ByteArray := prog_9_method_9_code
def yX7_step : MethodName := ⟨RX7, "step", "()V"⟩
abbrev cX7_number : ByteArray := prog_9_method_10_code
def yX7_number : MethodName := ⟨RX7, "number", "(II)I"⟩
abbrev cX7_readThing : ByteArray := prog_9_method_11_code
def yX7_readThing : MethodName := ⟨RX7, "readThing", "(I)V"⟩
abbrev cX7_readHouse : ByteArray := prog_9_method_12_code
def yX7_readHouse : MethodName := ⟨RX7, "readHouse", "()V"⟩
abbrev cX7_readRise : ByteArray := prog_9_method_13_code
def yX7_readRise : MethodName := ⟨RX7, "readRise", "()V"⟩
abbrev cX7_readMore : ByteArray := prog_9_method_14_code
def yX7_readMore : MethodName := ⟨RX7, "readMore", "(I)V"⟩
abbrev cX7_readLine : ByteArray := prog_9_method_15_code
def yX7_readLine : MethodName := ⟨RX7, "readLine", "()V"⟩
abbrev cX7_text : ByteArray := prog_9_method_16_code
def yX7_text : MethodName := ⟨RX7, "text", "()I"⟩
abbrev cX7_fault : ByteArray := prog_9_method_17_code
def yX7_fault : MethodName := ⟨RX7, "fault", "()I"⟩
abbrev cX7_isHouse : ByteArray := prog_9_method_18_code
def yX7_isHouse : MethodName := ⟨RX7, "isHouse", "(I)Z"⟩
abbrev cX7_isThing : ByteArray := prog_9_method_19_code
def yX7_isThing : MethodName := ⟨RX7, "isThing", "(I)Z"⟩
abbrev cX7_fillsOn : ByteArray := prog_9_method_20_code
def yX7_fillsOn : MethodName := ⟨RX7, "fillsOn", "(II)I"⟩
abbrev cX7_costsOn : ByteArray := prog_9_method_21_code
def yX7_costsOn : MethodName := ⟨RX7, "costsOn", "(II)I"⟩
abbrev cX7_filledOn : ByteArray := prog_9_method_22_code
def yX7_filledOn : MethodName := ⟨RX7, "filledOn", "(II)I"⟩
abbrev cX7_losesOn : ByteArray := prog_9_method_23_code
def yX7_losesOn : MethodName := ⟨RX7, "losesOn", "(II)V"⟩
abbrev cX7_floatsOn : ByteArray := prog_9_method_24_code
def yX7_floatsOn : MethodName := ⟨RX7, "floatsOn", "(II)V"⟩
abbrev cX7_dayOn : ByteArray := prog_9_method_25_code
def yX7_dayOn : MethodName := ⟨RX7, "dayOn", "(II)V"⟩
abbrev cX7_riseOn : ByteArray := prog_9_method_26_code
def yX7_riseOn : MethodName := ⟨RX7, "riseOn", "(I)I"⟩
abbrev cX7_afloatOn : ByteArray := prog_9_method_27_code
def yX7_afloatOn : MethodName := ⟨RX7, "afloatOn", "(I)I"⟩
abbrev cX7_thoseOn : ByteArray := prog_9_method_28_code
def yX7_thoseOn : MethodName := ⟨RX7, "thoseOn", "(II)I"⟩
abbrev cX7_bitsOf : ByteArray := prog_9_method_29_code
def yX7_bitsOf : MethodName := ⟨RX7, "bitsOf", "(I)I"⟩
abbrev cX7_ofHouse : ByteArray := prog_9_method_30_code
def yX7_ofHouse : MethodName := ⟨RX7, "ofHouse", "(II)I"⟩
abbrev cX7_rule : ByteArray := prog_9_method_31_code
def yX7_rule : MethodName := ⟨RX7, "rule", "(I)I"⟩
abbrev cX7_house : ByteArray := prog_9_method_32_code
def yX7_house : MethodName := ⟨RX7, "house", "(II)I"⟩
abbrev cX7_thing : ByteArray := prog_9_method_33_code
def yX7_thing : MethodName := ⟨RX7, "thing", "(II)I"⟩
abbrev cX7_rise : ByteArray := prog_9_method_34_code
def yX7_rise : MethodName := ⟨RX7, "rise", "(I)I"⟩
abbrev cX7_puts : ByteArray := prog_9_method_35_code
def yX7_puts : MethodName := ⟨RX7, "puts", "(ZIII)I"⟩
abbrev cX7_build : ByteArray := prog_9_method_36_code
def yX7_build : MethodName := ⟨RX7, "build", "(III)I"⟩
abbrev cX7_alter : ByteArray := prog_9_method_37_code
def yX7_alter : MethodName := ⟨RX7, "alter", "(III)I"⟩
abbrev cX7_tide : ByteArray := prog_9_method_38_code
def yX7_tide : MethodName := ⟨RX7, "tide", "(II)I"⟩
abbrev cX7_blow : ByteArray := prog_9_method_39_code
def yX7_blow : MethodName := ⟨RX7, "blow", "(I)I"⟩
abbrev cX7_stowsOn : ByteArray := prog_9_method_40_code
def yX7_stowsOn : MethodName := ⟨RX7, "stowsOn", "(II)I"⟩
abbrev cX7_stow : ByteArray := prog_9_method_41_code
def yX7_stow : MethodName := ⟨RX7, "stow", "(I)I"⟩
abbrev cX7_fetch : ByteArray := prog_9_method_42_code
def yX7_fetch : MethodName := ⟨RX7, "fetch", "(I)I"⟩
abbrev cX7_days : ByteArray := prog_9_method_43_code
def yX7_days : MethodName := ⟨RX7, "days", "(I)I"⟩
abbrev cX7_copies : ByteArray := prog_9_method_44_code
def yX7_copies : MethodName := ⟨RX7, "copies", "(II)V"⟩
abbrev cX7_daysGo : ByteArray := prog_9_method_45_code
def yX7_daysGo : MethodName := ⟨RX7, "daysGo", "(II)I"⟩
abbrev cX7_runs : ByteArray := prog_9_method_46_code
def yX7_runs : MethodName := ⟨RX7, "runs", "(II)I"⟩
abbrev cX7_ahead : ByteArray := prog_9_method_47_code
def yX7_ahead : MethodName := ⟨RX7, "ahead", "(III)I"⟩
abbrev cX7_lost : ByteArray := prog_9_method_48_code
def yX7_lost : MethodName := ⟨RX7, "lost", "(I)I"⟩
abbrev cX7_meet : ByteArray := prog_9_method_49_code
def yX7_meet : MethodName := ⟨RX7, "meet", "(II)I"⟩
abbrev cX7_pack : ByteArray := prog_9_method_50_code
def yX7_pack : MethodName := ⟨RX7, "pack", "(II)I"⟩
abbrev cX7_need : ByteArray := prog_9_method_51_code
def yX7_need : MethodName := ⟨RX7, "need", "(II)I"⟩
abbrev cX7_high : ByteArray := prog_9_method_52_code
def yX7_high : MethodName := ⟨RX7, "high", "(II)I"⟩
abbrev cX7_leak : ByteArray := prog_9_method_53_code
def yX7_leak : MethodName := ⟨RX7, "leak", "(II)I"⟩
abbrev cX7_swap : ByteArray := prog_9_method_54_code
def yX7_swap : MethodName := ⟨RX7, "swap", "(II)I"⟩
abbrev cX7_save : ByteArray := prog_9_method_55_code
def yX7_save : MethodName := ⟨RX7, "save", "(II)I"⟩
abbrev cX7_kind : ByteArray := prog_9_method_56_code
def yX7_kind : MethodName := ⟨RX7, "kind", "(III)I"⟩
abbrev cX7_lowest : ByteArray := prog_9_method_57_code
def yX7_lowest : MethodName := ⟨RX7, "lowest", "(JJI)J"⟩
abbrev cX7_byStorm : ByteArray := prog_9_method_58_code
def yX7_byStorm : MethodName := ⟨RX7, "byStorm", "(IIII)J"⟩
abbrev cX7_luck : ByteArray := prog_9_method_59_code
def yX7_luck : MethodName := ⟨RX7, "luck", "(IIII)J"⟩
abbrev cX7_mean : ByteArray := prog_9_method_60_code
def yX7_mean : MethodName := ⟨RX7, "mean", "(III)J"⟩
abbrev cX7_see : ByteArray := prog_9_method_61_code
def yX7_see : MethodName := ⟨RX7, "see", "(II)I"⟩
abbrev cX7_forget : ByteArray := prog_9_method_62_code
def yX7_forget : MethodName := ⟨RX7, "forget", "(I)I"⟩
abbrev cX7_isAsSeen : ByteArray := prog_9_method_63_code
def yX7_isAsSeen : MethodName := ⟨RX7, "isAsSeen", "(I)Z"⟩
abbrev cX7_numbersAt : ByteArray := prog_9_method_64_code
def yX7_numbersAt : MethodName := ⟨RX7, "numbersAt", "(II)I"⟩
abbrev cX7_kinds : ByteArray := prog_9_method_65_code
def yX7_kinds : MethodName := ⟨RX7, "kinds", "(I)I"⟩
abbrev cX7_leaks : ByteArray := prog_9_method_66_code
def yX7_leaks : MethodName := ⟨RX7, "leaks", "(I)I"⟩
abbrev cX7_rooms : ByteArray := prog_9_method_67_code
def yX7_rooms : MethodName := ⟨RX7, "rooms", "(I)I"⟩
abbrev cX7_ask : ByteArray := prog_9_method_68_code
def yX7_ask : MethodName := ⟨RX7, "ask", "(II)I"⟩
abbrev cX7_drift : ByteArray := prog_9_method_69_code
def yX7_drift : MethodName := ⟨RX7, "drift", "(III)I"⟩
abbrev cX7_keep : ByteArray := prog_9_method_70_code
def yX7_keep : MethodName := ⟨RX7, "keep", "(I)I"⟩
abbrev cX7_back : ByteArray := prog_9_method_71_code
def yX7_back : MethodName := ⟨RX7, "back", "(I)I"⟩
abbrev cX7_sheet : ByteArray := prog_9_method_72_code
def yX7_sheet : MethodName := ⟨RX7, "sheet", "(III)I"⟩
abbrev cX7_lay : ByteArray := prog_9_method_73_code
def yX7_lay : MethodName := ⟨RX7, "lay", "(III)I"⟩
abbrev cX7_read : ByteArray := prog_9_method_74_code
def yX7_read : MethodName := ⟨RX7, "read", "(IIII)I"⟩
abbrev cX7_torn : ByteArray := prog_9_method_75_code
def yX7_torn : MethodName := ⟨RX7, "torn", "()I"⟩
abbrev cX7_count : ByteArray := prog_9_method_76_code
def yX7_count : MethodName := ⟨RX7, "count", "(I)I"⟩
def RJ6 : String := "java/lang/Integer"
def TJ6 : u_T := fun k => match k with
  | _ => ("", "", "", false)
def tyJ6 : Nat → FieldType := fun k => match k with
  | _ => .int
theorem nmJ6 : ∀ a, a < 0 → ∀ b, b < 0 → a ≠ b → (TJ6 a).2.1 ≠ (TJ6 b).2.1 := by decide +kernel
theorem tyJ6_ok : ∀ k, k < 0 → parseFieldDescriptor (TJ6 k).2.2.1 = some (tyJ6 k) := by decide +kernel
abbrev cJ6_bitCount_0f7a4 : ByteArray := prog_10_method_49_code
def yJ6_bitCount_0f7a4 : MethodName := ⟨RJ6, "bitCount", "(I)I"⟩
def RJ9 : String := "java/lang/Math"
def TJ9 : u_T := fun k => match k with
  | _ => ("", "", "", false)
def tyJ9 : Nat → FieldType := fun k => match k with
  | _ => .int
theorem nmJ9 : ∀ a, a < 0 → ∀ b, b < 0 → a ≠ b → (TJ9 a).2.1 ≠ (TJ9 b).2.1 := by decide +kernel
theorem tyJ9_ok : ∀ k, k < 0 → parseFieldDescriptor (TJ9 k).2.2.1 = some (tyJ9 k) := by decide +kernel
abbrev cJ9_floorMod_7cf53 : ByteArray := prog_11_method_50_code
def yJ9_floorMod_7cf53 : MethodName := ⟨RJ9, "floorMod", "(II)I"⟩
abbrev cJ9_max_7cf53 : ByteArray := prog_11_method_65_code
def yJ9_max_7cf53 : MethodName := ⟨RJ9, "max", "(II)I"⟩
abbrev cJ9_min_7cf53 : ByteArray := prog_11_method_69_code
def yJ9_min_7cf53 : MethodName := ⟨RJ9, "min", "(II)I"⟩
def RJ0 : String := "java/lang/String"
def TJ0 : u_T := fun k => match k with
  | _ => ("", "", "", false)
def tyJ0 : Nat → FieldType := fun k => match k with
  | _ => .int
theorem nmJ0 : ∀ a, a < 0 → ∀ b, b < 0 → a ≠ b → (TJ0 a).2.1 ≠ (TJ0 b).2.1 := by decide +kernel
theorem tyJ0_ok : ∀ k, k < 0 → parseFieldDescriptor (TJ0 k).2.2.1 = some (tyJ0 k) := by decide +kernel
abbrev cJ0_length_8abf5 : ByteArray := prog_12_method_54_code
def yJ0_length_8abf5 : MethodName := ⟨RJ0, "length", "()I"⟩
abbrev cJ0_charAt_5068e : ByteArray := prog_12_method_56_code
def yJ0_charAt_5068e : MethodName := ⟨RJ0, "charAt", "(I)C"⟩
abbrev cJ0_coder_7d493 : ByteArray := prog_12_method_152_code
def yJ0_coder_7d493 : MethodName := ⟨RJ0, "coder", "()B"⟩
abbrev cJ0_isLatin1_aae02 : ByteArray := prog_12_method_154_code
def yJ0_isLatin1_aae02 : MethodName := ⟨RJ0, "isLatin1", "()Z"⟩
abbrev cJ0_checkIndex_df160 : ByteArray := prog_12_method_155_code
def yJ0_checkIndex_df160 : MethodName := ⟨RJ0, "checkIndex", "(II)V"⟩
def RJ1 : String := "java/lang/StringLatin1"
def TJ1 : u_T := fun k => match k with
  | _ => ("", "", "", false)
def tyJ1 : Nat → FieldType := fun k => match k with
  | _ => .int
theorem nmJ1 : ∀ a, a < 0 → ∀ b, b < 0 → a ≠ b → (TJ1 a).2.1 ≠ (TJ1 b).2.1 := by decide +kernel
theorem tyJ1_ok : ∀ k, k < 0 → parseFieldDescriptor (TJ1 k).2.2.1 = some (tyJ1 k) := by decide +kernel
abbrev cJ1_charAt_3b067 : ByteArray := prog_13_method_2_code
def yJ1_charAt_3b067 : MethodName := ⟨RJ1, "charAt", "([BI)C"⟩
def RJ2 : String := "java/lang/StringUTF16"
def TJ2 : u_T := fun k => match k with
  | _ => ("", "", "", false)
def tyJ2 : Nat → FieldType := fun k => match k with
  | _ => .int
theorem nmJ2 : ∀ a, a < 0 → ∀ b, b < 0 → a ≠ b → (TJ2 a).2.1 ≠ (TJ2 b).2.1 := by decide +kernel
theorem tyJ2_ok : ∀ k, k < 0 → parseFieldDescriptor (TJ2 k).2.2.1 = some (tyJ2 k) := by decide +kernel
abbrev cJ2_getChar_3b067 : ByteArray := prog_14_method_5_code
def yJ2_getChar_3b067 : MethodName := ⟨RJ2, "getChar", "([BI)C"⟩
abbrev cJ2_length_9d52b : ByteArray := prog_14_method_6_code
def yJ2_length_9d52b : MethodName := ⟨RJ2, "length", "([B)I"⟩
abbrev cJ2_charAt_3b067 : ByteArray := prog_14_method_83_code
def yJ2_charAt_3b067 : MethodName := ⟨RJ2, "charAt", "([BI)C"⟩
abbrev cJ2_checkIndex_2214a : ByteArray := prog_14_method_91_code
def yJ2_checkIndex_2214a : MethodName := ⟨RJ2, "checkIndex", "(I[B)V"⟩
def RJ10 : String := "java/lang/System"
def TJ10 : u_T := fun k => match k with
  | _ => ("", "", "", false)
def tyJ10 : Nat → FieldType := fun k => match k with
  | _ => .int
theorem nmJ10 : ∀ a, a < 0 → ∀ b, b < 0 → a ≠ b → (TJ10 a).2.1 ≠ (TJ10 b).2.1 := by decide +kernel
theorem tyJ10_ok : ∀ k, k < 0 → parseFieldDescriptor (TJ10 k).2.2.1 = some (tyJ10 k) := by decide +kernel
def RJ7 : String := "java/util/Arrays"
def TJ7 : u_T := fun k => match k with
  | _ => ("", "", "", false)
def tyJ7 : Nat → FieldType := fun k => match k with
  | _ => .int
theorem nmJ7 : ∀ a, a < 0 → ∀ b, b < 0 → a ≠ b → (TJ7 a).2.1 ≠ (TJ7 b).2.1 := by decide +kernel
theorem tyJ7_ok : ∀ k, k < 0 → parseFieldDescriptor (TJ7 k).2.2.1 = some (tyJ7 k) := by decide +kernel
abbrev cJ7_fill_53178 : ByteArray := prog_16_method_103_code
def yJ7_fill_53178 : MethodName := ⟨RJ7, "fill", "([II)V"⟩
def RJ3 : String := "jdk/internal/util/Preconditions"
def TJ3 : u_T := fun k => match k with
  | _ => ("", "", "", false)
def tyJ3 : Nat → FieldType := fun k => match k with
  | _ => .int
theorem nmJ3 : ∀ a, a < 0 → ∀ b, b < 0 → a ≠ b → (TJ3 a).2.1 ≠ (TJ3 b).2.1 := by decide +kernel
theorem tyJ3_ok : ∀ k, k < 0 → parseFieldDescriptor (TJ3 k).2.2.1 = some (tyJ3 k) := by decide +kernel
abbrev cJ3_checkIndex_8e157 : ByteArray := prog_17_method_11_code
def yJ3_checkIndex_8e157 : MethodName := ⟨RJ3, "checkIndex", "(IILjava/util/function/BiFunction;)I"⟩
def RL : String := "ArkTerraceLaw"
abbrev cL_law : ByteArray := code
def yL_law : MethodName := ⟨RL, "law", "([I)Z"⟩
abbrev vwCl : List vw_C := [(RX0, TX0, 2), (RX1, TX1, 12), (RX2, TX2, 4), (RX3, TX3, 3), (RX4, TX4, 2), (RX5, TX5, 18), (RX6, TX6, 10), (RX7, TX7, 29)]
