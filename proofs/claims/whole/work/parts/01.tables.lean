-- ===== PART A: goes FIRST, ahead of the names: the tables' words, and 'selects' of the private methods out of them =====
/-- a private method of a class that the tables say can be made, by its rows of tables_1 -/
def lw_okq (q : MethodName × Nat) : Prop := (q.1.cls ≠ "java/lang/invoke/MethodHandle" ∧ q.1.cls ≠ "java/lang/invoke/VarHandle") ∧ Cond.instantiable q.1.cls q.2 ∈ tables_1 ∧ Cond.privateMethod q.1 ∈ tables_1 ∧ Cond.instanceMethod q.1 ∈ tables_1
theorem lw_p0 : lw_okq (⟨"BentPictures$Ray", "consider", "(LBentPictures$Wall;)V"⟩, 10) := ⟨⟨by decide +kernel, by decide +kernel⟩, List.mem_of_getElem? (i := 56) (by decide +kernel), List.mem_of_getElem? (i := 539) (by decide +kernel), List.mem_of_getElem? (i := 540) (by decide +kernel)⟩
theorem lw_p1 : lw_okq (⟨"BentPictures$Ray", "cellAlong", "(IIII)I"⟩, 10) := ⟨⟨by decide +kernel, by decide +kernel⟩, List.mem_of_getElem? (i := 56) (by decide +kernel), List.mem_of_getElem? (i := 543) (by decide +kernel), List.mem_of_getElem? (i := 544) (by decide +kernel)⟩
theorem lw_p2 : lw_okq (⟨"BentPictures$Ray", "turnBack", "(LBentPictures$Flat;)V"⟩, 10) := ⟨⟨by decide +kernel, by decide +kernel⟩, List.mem_of_getElem? (i := 56) (by decide +kernel), List.mem_of_getElem? (i := 559) (by decide +kernel), List.mem_of_getElem? (i := 560) (by decide +kernel)⟩
theorem lw_p3 : lw_okq (⟨"BentPictures$Gallery", "lookFrom", "(IIII)I"⟩, 15) := ⟨⟨by decide +kernel, by decide +kernel⟩, List.mem_of_getElem? (i := 95) (by decide +kernel), List.mem_of_getElem? (i := 575) (by decide +kernel), List.mem_of_getElem? (i := 576) (by decide +kernel)⟩
theorem lw_p4 : lw_okq (⟨"BentPictures$Gallery", "isWish", "(III)Z"⟩, 15) := ⟨⟨by decide +kernel, by decide +kernel⟩, List.mem_of_getElem? (i := 95) (by decide +kernel), List.mem_of_getElem? (i := 597) (by decide +kernel), List.mem_of_getElem? (i := 598) (by decide +kernel)⟩
theorem lw_p5 : lw_okq (⟨"BentPictures$Gallery", "fateOf", "(II)I"⟩, 15) := ⟨⟨by decide +kernel, by decide +kernel⟩, List.mem_of_getElem? (i := 95) (by decide +kernel), List.mem_of_getElem? (i := 602) (by decide +kernel), List.mem_of_getElem? (i := 603) (by decide +kernel)⟩
theorem lw_p6 : lw_okq (⟨"BentPictures$Gallery", "paintWall", "(I)V"⟩, 15) := ⟨⟨by decide +kernel, by decide +kernel⟩, List.mem_of_getElem? (i := 95) (by decide +kernel), List.mem_of_getElem? (i := 625) (by decide +kernel), List.mem_of_getElem? (i := 626) (by decide +kernel)⟩
theorem lw_p7 : lw_okq (⟨"BentPictures$Gallery", "mostVoted", "(I)I"⟩, 15) := ⟨⟨by decide +kernel, by decide +kernel⟩, List.mem_of_getElem? (i := 95) (by decide +kernel), List.mem_of_getElem? (i := 631) (by decide +kernel), List.mem_of_getElem? (i := 632) (by decide +kernel)⟩
theorem lw_p8 : lw_okq (⟨"BentPictures$Gallery", "countUnmet", "(IIII)I"⟩, 15) := ⟨⟨by decide +kernel, by decide +kernel⟩, List.mem_of_getElem? (i := 95) (by decide +kernel), List.mem_of_getElem? (i := 680) (by decide +kernel), List.mem_of_getElem? (i := 681) (by decide +kernel)⟩
theorem lw_p9 : lw_okq (⟨"BentPictures$Light", "countWantedAt", "(I)I"⟩, 8) := ⟨⟨by decide +kernel, by decide +kernel⟩, List.mem_of_getElem? (i := 211) (by decide +kernel), List.mem_of_getElem? (i := 735) (by decide +kernel), List.mem_of_getElem? (i := 736) (by decide +kernel)⟩
theorem lw_p10 : lw_okq (⟨"BentPictures$Holes", "firstWith", "(II)I"⟩, 9) := ⟨⟨by decide +kernel, by decide +kernel⟩, List.mem_of_getElem? (i := 217) (by decide +kernel), List.mem_of_getElem? (i := 783) (by decide +kernel), List.mem_of_getElem? (i := 784) (by decide +kernel)⟩
theorem lw_p11 : lw_okq (⟨"BentPictures$Holes", "pick", "(IIIJJ)Z"⟩, 9) := ⟨⟨by decide +kernel, by decide +kernel⟩, List.mem_of_getElem? (i := 217) (by decide +kernel), List.mem_of_getElem? (i := 797) (by decide +kernel), List.mem_of_getElem? (i := 798) (by decide +kernel)⟩
theorem lw_p12 : lw_okq (⟨"BentPictures$Gallery", "countColours", "()V"⟩, 15) := ⟨⟨by decide +kernel, by decide +kernel⟩, List.mem_of_getElem? (i := 95) (by decide +kernel), List.mem_of_getElem? (i := 818) (by decide +kernel), List.mem_of_getElem? (i := 819) (by decide +kernel)⟩
theorem lw_p13 : lw_okq (⟨"BentPictures$Gallery", "sumOfDifferences", "(I)I"⟩, 15) := ⟨⟨by decide +kernel, by decide +kernel⟩, List.mem_of_getElem? (i := 95) (by decide +kernel), List.mem_of_getElem? (i := 828) (by decide +kernel), List.mem_of_getElem? (i := 829) (by decide +kernel)⟩
theorem lw_p14 : lw_okq (⟨"BentPicturesModel", "layFlat", "(IIIIIII)V"⟩, 39) := ⟨⟨by decide +kernel, by decide +kernel⟩, List.mem_of_getElem? (i := 936) (by decide +kernel), List.mem_of_getElem? (i := 1071) (by decide +kernel), List.mem_of_getElem? (i := 1072) (by decide +kernel)⟩
theorem lw_p15 : lw_okq (⟨"BentPicturesModel", "isSurface", "(I)Z"⟩, 39) := ⟨⟨by decide +kernel, by decide +kernel⟩, List.mem_of_getElem? (i := 936) (by decide +kernel), List.mem_of_getElem? (i := 1079) (by decide +kernel), List.mem_of_getElem? (i := 1080) (by decide +kernel)⟩
def lw_privs_1 : List (MethodName × Nat) := [(⟨"BentPictures$Ray", "consider", "(LBentPictures$Wall;)V"⟩, 10), (⟨"BentPictures$Ray", "cellAlong", "(IIII)I"⟩, 10), (⟨"BentPictures$Ray", "turnBack", "(LBentPictures$Flat;)V"⟩, 10), (⟨"BentPictures$Gallery", "lookFrom", "(IIII)I"⟩, 15), (⟨"BentPictures$Gallery", "isWish", "(III)Z"⟩, 15), (⟨"BentPictures$Gallery", "fateOf", "(II)I"⟩, 15), (⟨"BentPictures$Gallery", "paintWall", "(I)V"⟩, 15), (⟨"BentPictures$Gallery", "mostVoted", "(I)I"⟩, 15), (⟨"BentPictures$Gallery", "countUnmet", "(IIII)I"⟩, 15), (⟨"BentPictures$Light", "countWantedAt", "(I)I"⟩, 8), (⟨"BentPictures$Holes", "firstWith", "(II)I"⟩, 9), (⟨"BentPictures$Holes", "pick", "(IIIJJ)Z"⟩, 9), (⟨"BentPictures$Gallery", "countColours", "()V"⟩, 15), (⟨"BentPictures$Gallery", "sumOfDifferences", "(I)I"⟩, 15), (⟨"BentPicturesModel", "layFlat", "(IIIIIII)V"⟩, 39), (⟨"BentPicturesModel", "isSurface", "(I)Z"⟩, 39)]
theorem lw_r1 : ∀ q ∈ lw_privs_1, lw_okq q := List.forall_mem_cons.mpr ⟨lw_p0, List.forall_mem_cons.mpr ⟨lw_p1, List.forall_mem_cons.mpr ⟨lw_p2, List.forall_mem_cons.mpr ⟨lw_p3, List.forall_mem_cons.mpr ⟨lw_p4, List.forall_mem_cons.mpr ⟨lw_p5, List.forall_mem_cons.mpr ⟨lw_p6, List.forall_mem_cons.mpr ⟨lw_p7, List.forall_mem_cons.mpr ⟨lw_p8, List.forall_mem_cons.mpr ⟨lw_p9, List.forall_mem_cons.mpr ⟨lw_p10, List.forall_mem_cons.mpr ⟨lw_p11, List.forall_mem_cons.mpr ⟨lw_p12, List.forall_mem_cons.mpr ⟨lw_p13, List.forall_mem_cons.mpr ⟨lw_p14, List.forall_mem_cons.mpr ⟨lw_p15, fun _ h => absurd h List.not_mem_nil⟩⟩⟩⟩⟩⟩⟩⟩⟩⟩⟩⟩⟩⟩⟩⟩
theorem lw_p16 : lw_okq (⟨"BentPicturesModel", "painted", "(I)I"⟩, 39) := ⟨⟨by decide +kernel, by decide +kernel⟩, List.mem_of_getElem? (i := 936) (by decide +kernel), List.mem_of_getElem? (i := 1083) (by decide +kernel), List.mem_of_getElem? (i := 1084) (by decide +kernel)⟩
theorem lw_p17 : lw_okq (⟨"BentPicturesModel", "cellsOf", "(I)I"⟩, 39) := ⟨⟨by decide +kernel, by decide +kernel⟩, List.mem_of_getElem? (i := 936) (by decide +kernel), List.mem_of_getElem? (i := 1087) (by decide +kernel), List.mem_of_getElem? (i := 1088) (by decide +kernel)⟩
theorem lw_p18 : lw_okq (⟨"BentPicturesModel", "boardCells", "()I"⟩, 39) := ⟨⟨by decide +kernel, by decide +kernel⟩, List.mem_of_getElem? (i := 936) (by decide +kernel), List.mem_of_getElem? (i := 1115) (by decide +kernel), List.mem_of_getElem? (i := 1116) (by decide +kernel)⟩
theorem lw_p19 : lw_okq (⟨"BentPicturesModel", "needBoard", "()V"⟩, 39) := ⟨⟨by decide +kernel, by decide +kernel⟩, List.mem_of_getElem? (i := 936) (by decide +kernel), List.mem_of_getElem? (i := 1119) (by decide +kernel), List.mem_of_getElem? (i := 1120) (by decide +kernel)⟩
theorem lw_p20 : lw_okq (⟨"BentPicturesModel", "against", "(IIIII)I"⟩, 39) := ⟨⟨by decide +kernel, by decide +kernel⟩, List.mem_of_getElem? (i := 936) (by decide +kernel), List.mem_of_getElem? (i := 1123) (by decide +kernel), List.mem_of_getElem? (i := 1124) (by decide +kernel)⟩
theorem lw_p21 : lw_okq (⟨"BentPicturesModel", "fails", "(I)I"⟩, 39) := ⟨⟨by decide +kernel, by decide +kernel⟩, List.mem_of_getElem? (i := 936) (by decide +kernel), List.mem_of_getElem? (i := 1127) (by decide +kernel), List.mem_of_getElem? (i := 1128) (by decide +kernel)⟩
theorem lw_p22 : lw_okq (⟨"BentPicturesModel", "isCell", "(II)Z"⟩, 39) := ⟨⟨by decide +kernel, by decide +kernel⟩, List.mem_of_getElem? (i := 936) (by decide +kernel), List.mem_of_getElem? (i := 1139) (by decide +kernel), List.mem_of_getElem? (i := 1140) (by decide +kernel)⟩
theorem lw_p23 : lw_okq (⟨"BentPicturesModel", "isRay", "(IIIIII)Z"⟩, 39) := ⟨⟨by decide +kernel, by decide +kernel⟩, List.mem_of_getElem? (i := 936) (by decide +kernel), List.mem_of_getElem? (i := 1151) (by decide +kernel), List.mem_of_getElem? (i := 1152) (by decide +kernel)⟩
theorem lw_p24 : lw_okq (⟨"BentPicturesModel", "go", "(IIIIII)I"⟩, 39) := ⟨⟨by decide +kernel, by decide +kernel⟩, List.mem_of_getElem? (i := 936) (by decide +kernel), List.mem_of_getElem? (i := 1155) (by decide +kernel), List.mem_of_getElem? (i := 1156) (by decide +kernel)⟩
theorem lw_p25 : lw_okq (⟨"BentPicturesModel", "endOf", "()I"⟩, 39) := ⟨⟨by decide +kernel, by decide +kernel⟩, List.mem_of_getElem? (i := 936) (by decide +kernel), List.mem_of_getElem? (i := 1159) (by decide +kernel), List.mem_of_getElem? (i := 1160) (by decide +kernel)⟩
theorem lw_p26 : lw_okq (⟨"BentPicturesModel", "comesTo", "(I)I"⟩, 39) := ⟨⟨by decide +kernel, by decide +kernel⟩, List.mem_of_getElem? (i := 936) (by decide +kernel), List.mem_of_getElem? (i := 1163) (by decide +kernel), List.mem_of_getElem? (i := 1164) (by decide +kernel)⟩
theorem lw_p27 : lw_okq (⟨"BentPicturesModel", "wholeAt", "(I)J"⟩, 39) := ⟨⟨by decide +kernel, by decide +kernel⟩, List.mem_of_getElem? (i := 936) (by decide +kernel), List.mem_of_getElem? (i := 1170) (by decide +kernel), List.mem_of_getElem? (i := 1171) (by decide +kernel)⟩
theorem lw_p28 : lw_okq (⟨"BentPicturesModel", "throwsBack", "(II)Z"⟩, 39) := ⟨⟨by decide +kernel, by decide +kernel⟩, List.mem_of_getElem? (i := 936) (by decide +kernel), List.mem_of_getElem? (i := 1180) (by decide +kernel), List.mem_of_getElem? (i := 1181) (by decide +kernel)⟩
theorem lw_p29 : lw_okq (⟨"BentPicturesModel", "seenBy", "(II)I"⟩, 39) := ⟨⟨by decide +kernel, by decide +kernel⟩, List.mem_of_getElem? (i := 936) (by decide +kernel), List.mem_of_getElem? (i := 1192) (by decide +kernel), List.mem_of_getElem? (i := 1193) (by decide +kernel)⟩
theorem lw_p30 : lw_okq (⟨"BentPicturesModel", "seenFrom", "(IIII)I"⟩, 39) := ⟨⟨by decide +kernel, by decide +kernel⟩, List.mem_of_getElem? (i := 936) (by decide +kernel), List.mem_of_getElem? (i := 1196) (by decide +kernel), List.mem_of_getElem? (i := 1197) (by decide +kernel)⟩
theorem lw_p31 : lw_okq (⟨"BentPicturesModel", "findMiddle", "(II)V"⟩, 39) := ⟨⟨by decide +kernel, by decide +kernel⟩, List.mem_of_getElem? (i := 936) (by decide +kernel), List.mem_of_getElem? (i := 1200) (by decide +kernel), List.mem_of_getElem? (i := 1201) (by decide +kernel)⟩
def lw_privs_2 : List (MethodName × Nat) := [(⟨"BentPicturesModel", "painted", "(I)I"⟩, 39), (⟨"BentPicturesModel", "cellsOf", "(I)I"⟩, 39), (⟨"BentPicturesModel", "boardCells", "()I"⟩, 39), (⟨"BentPicturesModel", "needBoard", "()V"⟩, 39), (⟨"BentPicturesModel", "against", "(IIIII)I"⟩, 39), (⟨"BentPicturesModel", "fails", "(I)I"⟩, 39), (⟨"BentPicturesModel", "isCell", "(II)Z"⟩, 39), (⟨"BentPicturesModel", "isRay", "(IIIIII)Z"⟩, 39), (⟨"BentPicturesModel", "go", "(IIIIII)I"⟩, 39), (⟨"BentPicturesModel", "endOf", "()I"⟩, 39), (⟨"BentPicturesModel", "comesTo", "(I)I"⟩, 39), (⟨"BentPicturesModel", "wholeAt", "(I)J"⟩, 39), (⟨"BentPicturesModel", "throwsBack", "(II)Z"⟩, 39), (⟨"BentPicturesModel", "seenBy", "(II)I"⟩, 39), (⟨"BentPicturesModel", "seenFrom", "(IIII)I"⟩, 39), (⟨"BentPicturesModel", "findMiddle", "(II)V"⟩, 39)]
theorem lw_r2 : ∀ q ∈ lw_privs_2, lw_okq q := List.forall_mem_cons.mpr ⟨lw_p16, List.forall_mem_cons.mpr ⟨lw_p17, List.forall_mem_cons.mpr ⟨lw_p18, List.forall_mem_cons.mpr ⟨lw_p19, List.forall_mem_cons.mpr ⟨lw_p20, List.forall_mem_cons.mpr ⟨lw_p21, List.forall_mem_cons.mpr ⟨lw_p22, List.forall_mem_cons.mpr ⟨lw_p23, List.forall_mem_cons.mpr ⟨lw_p24, List.forall_mem_cons.mpr ⟨lw_p25, List.forall_mem_cons.mpr ⟨lw_p26, List.forall_mem_cons.mpr ⟨lw_p27, List.forall_mem_cons.mpr ⟨lw_p28, List.forall_mem_cons.mpr ⟨lw_p29, List.forall_mem_cons.mpr ⟨lw_p30, List.forall_mem_cons.mpr ⟨lw_p31, fun _ h => absurd h List.not_mem_nil⟩⟩⟩⟩⟩⟩⟩⟩⟩⟩⟩⟩⟩⟩⟩⟩
theorem lw_p32 : lw_okq (⟨"BentPicturesModel", "colourAt", "(I)I"⟩, 39) := ⟨⟨by decide +kernel, by decide +kernel⟩, List.mem_of_getElem? (i := 936) (by decide +kernel), List.mem_of_getElem? (i := 1211) (by decide +kernel), List.mem_of_getElem? (i := 1212) (by decide +kernel)⟩
theorem lw_p33 : lw_okq (⟨"BentPicturesModel", "allPainted", "()I"⟩, 39) := ⟨⟨by decide +kernel, by decide +kernel⟩, List.mem_of_getElem? (i := 936) (by decide +kernel), List.mem_of_getElem? (i := 1219) (by decide +kernel), List.mem_of_getElem? (i := 1220) (by decide +kernel)⟩
theorem lw_p34 : lw_okq (⟨"BentPicturesModel", "notMet", "(IIII)I"⟩, 39) := ⟨⟨by decide +kernel, by decide +kernel⟩, List.mem_of_getElem? (i := 936) (by decide +kernel), List.mem_of_getElem? (i := 1236) (by decide +kernel), List.mem_of_getElem? (i := 1237) (by decide +kernel)⟩
theorem lw_p35 : lw_okq (⟨"BentPicturesModel", "isHour", "(I)Z"⟩, 39) := ⟨⟨by decide +kernel, by decide +kernel⟩, List.mem_of_getElem? (i := 936) (by decide +kernel), List.mem_of_getElem? (i := 1252) (by decide +kernel), List.mem_of_getElem? (i := 1253) (by decide +kernel)⟩
theorem lw_p36 : lw_okq (⟨"BentPicturesModel", "litBy", "(II)I"⟩, 39) := ⟨⟨by decide +kernel, by decide +kernel⟩, List.mem_of_getElem? (i := 936) (by decide +kernel), List.mem_of_getElem? (i := 1264) (by decide +kernel), List.mem_of_getElem? (i := 1265) (by decide +kernel)⟩
theorem lw_p37 : lw_okq (⟨"BentPicturesModel", "mayBe", "(I)Z"⟩, 39) := ⟨⟨by decide +kernel, by decide +kernel⟩, List.mem_of_getElem? (i := 936) (by decide +kernel), List.mem_of_getElem? (i := 1272) (by decide +kernel), List.mem_of_getElem? (i := 1273) (by decide +kernel)⟩
theorem lw_p38 : lw_okq (⟨"BentPicturesModel", "findFewest", "()I"⟩, 39) := ⟨⟨by decide +kernel, by decide +kernel⟩, List.mem_of_getElem? (i := 936) (by decide +kernel), List.mem_of_getElem? (i := 1280) (by decide +kernel), List.mem_of_getElem? (i := 1281) (by decide +kernel)⟩
theorem lw_p39 : lw_okq (⟨"BentPicturesModel", "doLight", "(I)Z"⟩, 39) := ⟨⟨by decide +kernel, by decide +kernel⟩, List.mem_of_getElem? (i := 936) (by decide +kernel), List.mem_of_getElem? (i := 1284) (by decide +kernel), List.mem_of_getElem? (i := 1285) (by decide +kernel)⟩
theorem lw_p40 : lw_okq (⟨"BentPicturesModel", "findBits", "()I"⟩, 39) := ⟨⟨by decide +kernel, by decide +kernel⟩, List.mem_of_getElem? (i := 936) (by decide +kernel), List.mem_of_getElem? (i := 1288) (by decide +kernel), List.mem_of_getElem? (i := 1289) (by decide +kernel)⟩
theorem lw_p41 : lw_okq (⟨"BentPicturesModel", "sumOf", "(I)I"⟩, 39) := ⟨⟨by decide +kernel, by decide +kernel⟩, List.mem_of_getElem? (i := 936) (by decide +kernel), List.mem_of_getElem? (i := 1306) (by decide +kernel), List.mem_of_getElem? (i := 1307) (by decide +kernel)⟩
theorem lw_p42 : lw_okq (⟨"BentPicturesModel", "lost", "(I)J"⟩, 39) := ⟨⟨by decide +kernel, by decide +kernel⟩, List.mem_of_getElem? (i := 936) (by decide +kernel), List.mem_of_getElem? (i := 1327) (by decide +kernel), List.mem_of_getElem? (i := 1328) (by decide +kernel)⟩
theorem lw_p43 : lw_okq (⟨"BentPicturesModel", "begins", "(I)V"⟩, 39) := ⟨⟨by decide +kernel, by decide +kernel⟩, List.mem_of_getElem? (i := 936) (by decide +kernel), List.mem_of_getElem? (i := 1335) (by decide +kernel), List.mem_of_getElem? (i := 1336) (by decide +kernel)⟩
theorem lw_p44 : lw_okq (⟨"BentPicturesModel", "wantedMany", "()I"⟩, 39) := ⟨⟨by decide +kernel, by decide +kernel⟩, List.mem_of_getElem? (i := 936) (by decide +kernel), List.mem_of_getElem? (i := 1359) (by decide +kernel), List.mem_of_getElem? (i := 1360) (by decide +kernel)⟩
def lw_privs_3 : List (MethodName × Nat) := [(⟨"BentPicturesModel", "colourAt", "(I)I"⟩, 39), (⟨"BentPicturesModel", "allPainted", "()I"⟩, 39), (⟨"BentPicturesModel", "notMet", "(IIII)I"⟩, 39), (⟨"BentPicturesModel", "isHour", "(I)Z"⟩, 39), (⟨"BentPicturesModel", "litBy", "(II)I"⟩, 39), (⟨"BentPicturesModel", "mayBe", "(I)Z"⟩, 39), (⟨"BentPicturesModel", "findFewest", "()I"⟩, 39), (⟨"BentPicturesModel", "doLight", "(I)Z"⟩, 39), (⟨"BentPicturesModel", "findBits", "()I"⟩, 39), (⟨"BentPicturesModel", "sumOf", "(I)I"⟩, 39), (⟨"BentPicturesModel", "lost", "(I)J"⟩, 39), (⟨"BentPicturesModel", "begins", "(I)V"⟩, 39), (⟨"BentPicturesModel", "wantedMany", "()I"⟩, 39)]
theorem lw_r3 : ∀ q ∈ lw_privs_3, lw_okq q := List.forall_mem_cons.mpr ⟨lw_p32, List.forall_mem_cons.mpr ⟨lw_p33, List.forall_mem_cons.mpr ⟨lw_p34, List.forall_mem_cons.mpr ⟨lw_p35, List.forall_mem_cons.mpr ⟨lw_p36, List.forall_mem_cons.mpr ⟨lw_p37, List.forall_mem_cons.mpr ⟨lw_p38, List.forall_mem_cons.mpr ⟨lw_p39, List.forall_mem_cons.mpr ⟨lw_p40, List.forall_mem_cons.mpr ⟨lw_p41, List.forall_mem_cons.mpr ⟨lw_p42, List.forall_mem_cons.mpr ⟨lw_p43, List.forall_mem_cons.mpr ⟨lw_p44, fun _ h => absurd h List.not_mem_nil⟩⟩⟩⟩⟩⟩⟩⟩⟩⟩⟩⟩⟩
def lw_privs : List (MethodName × Nat) := lw_privs_1 ++ (lw_privs_2 ++ (lw_privs_3))
def lw_tbl : List Cond := k2_sels lw_privs ++ tables_1
theorem lw_privs_ok : ∀ q ∈ lw_privs, lw_okq q := by
  show ∀ q ∈ lw_privs_1 ++ (lw_privs_2 ++ (lw_privs_3)), lw_okq q
  exact List.forall_mem_append.mpr ⟨lw_r1, List.forall_mem_append.mpr ⟨lw_r2, lw_r3⟩⟩

def RX0 : String := "BentPictures$Faint"
def TX0 : u_T := fun k => match k with
  | 0 => ("BentPictures$Wall", "number", "I", true)
  | 1 => ("BentPictures$Wall", "flat", "LBentPictures$Flat;", true)
  | _ => ("BentPictures$Wall", "colours", "[I", true)
def tyX0 : Nat → FieldType := fun k => match k with
  | 0 => .int
  | 1 => .object "BentPictures$Flat"
  | _ => .array .int
abbrev wsX00 : List Cond := u_ws RX0 TX0 3
theorem nmX0 : ∀ a, a < 3 → ∀ b, b < 3 → a ≠ b → (TX0 a).2.1 ≠ (TX0 b).2.1 := by decide +kernel
theorem tyX0_ok : ∀ k, k < 3 → parseFieldDescriptor (TX0 k).2.2.1 = some (tyX0 k) := by decide +kernel
abbrev cX0_init : ByteArray := prog_2_method_1_code
def yX0_init : MethodName := ⟨RX0, "<init>", "(ILBentPictures$Flat;)V"⟩
abbrev cX0_kind : ByteArray := prog_2_method_2_code
def yX0_kind : MethodName := ⟨RX0, "kind", "()I"⟩
abbrev cX0_takesColours : ByteArray := prog_2_method_3_code
def yX0_takesColours : MethodName := ⟨RX0, "takesColours", "()Z"⟩
abbrev cX0_throwsBack : ByteArray := prog_2_method_4_code
def yX0_throwsBack : MethodName := ⟨RX0, "throwsBack", "(I)Z"⟩
abbrev cX0_told : ByteArray := prog_2_method_5_code
def yX0_told : MethodName := ⟨RX0, "told", "(LBentPictures$Trace;)I"⟩
abbrev cX0_named : ByteArray := prog_2_method_6_code
def yX0_named : MethodName := ⟨RX0, "named", "(LBentPictures$Trace;)I"⟩
def RX1 : String := "BentPictures$Flat"
def TX1 : u_T := fun k => match k with
  | 0 => ("BentPictures$Flat", "axis", "I", true)
  | 1 => ("BentPictures$Flat", "c", "I", true)
  | 2 => ("BentPictures$Flat", "u", "I", true)
  | 3 => ("BentPictures$Flat", "v", "I", true)
  | 4 => ("BentPictures$Flat", "w", "I", true)
  | 5 => ("BentPictures$Flat", "h", "I", true)
  | 6 => ("BentPictures$Flat", "first", "I", true)
  | 7 => ("BentPictures$Flat", "second", "I", true)
  | _ => ("BentPictures$Flat", "cells", "I", true)
def tyX1 : Nat → FieldType := fun k => match k with
  | 0 => .int
  | 1 => .int
  | 2 => .int
  | 3 => .int
  | 4 => .int
  | 5 => .int
  | 6 => .int
  | 7 => .int
  | _ => .int
abbrev wsX10 : List Cond := u_ws RX1 TX1 9
theorem nmX1 : ∀ a, a < 9 → ∀ b, b < 9 → a ≠ b → (TX1 a).2.1 ≠ (TX1 b).2.1 := by decide +kernel
theorem tyX1_ok : ∀ k, k < 9 → parseFieldDescriptor (TX1 k).2.2.1 = some (tyX1 k) := by decide +kernel
abbrev cX1_init : ByteArray := prog_3_method_1_code
def yX1_init : MethodName := ⟨RX1, "<init>", "(IIIIII)V"⟩
abbrev cX1_fits : ByteArray := prog_3_method_2_code
def yX1_fits : MethodName := ⟨RX1, "fits", "(IIIIII)Z"⟩
abbrev cX1_sideFits : ByteArray := prog_3_method_3_code
def yX1_sideFits : MethodName := ⟨RX1, "sideFits", "(II)Z"⟩
abbrev cX1_has : ByteArray := prog_3_method_4_code
def yX1_has : MethodName := ⟨RX1, "has", "(I)Z"⟩
abbrev cX1_twiceMiddle : ByteArray := prog_3_method_5_code
def yX1_twiceMiddle : MethodName := ⟨RX1, "twiceMiddle", "(II)I"⟩
def RX2 : String := "BentPictures$Gallery"
def TX2 : u_T := fun k => match k with
  | 0 => ("BentPictures$Gallery", "space", "LBentPictures$Space;", true)
  | 1 => ("BentPictures$Gallery", "ray", "LBentPictures$Ray;", true)
  | 2 => ("BentPictures$Gallery", "places", "[I", true)
  | 3 => ("BentPictures$Gallery", "pictures", "[[I", true)
  | 4 => ("BentPictures$Gallery", "ends", "[I", true)
  | 5 => ("BentPictures$Gallery", "votes", "[I", true)
  | 6 => ("BentPictures$Gallery", "marks", "[J", true)
  | 7 => ("BentPictures$Gallery", "tally", "[I", true)
  | 8 => ("BentPictures$Gallery", "board", "LBentPictures$Flat;", false)
  | 9 => ("BentPictures$Gallery", "worst", "I", false)
  | 10 => ("BentPictures$Gallery", "worstX", "I", false)
  | 11 => ("BentPictures$Gallery", "worstY", "I", false)
  | 12 => ("BentPictures$Gallery", "worstZ", "I", false)
  | 13 => ("BentPictures$Gallery", "fewSet", "I", false)
  | _ => ("BentPictures$Gallery", "fewSum", "I", false)
def tyX2 : Nat → FieldType := fun k => match k with
  | 0 => .object "BentPictures$Space"
  | 1 => .object "BentPictures$Ray"
  | 2 => .array .int
  | 3 => .array (.array .int)
  | 4 => .array .int
  | 5 => .array .int
  | 6 => .array .long
  | 7 => .array .int
  | 8 => .object "BentPictures$Flat"
  | 9 => .int
  | 10 => .int
  | 11 => .int
  | 12 => .int
  | 13 => .int
  | _ => .int
abbrev wsX20 : List Cond := u_ws RX2 TX2 15
theorem nmX2 : ∀ a, a < 15 → ∀ b, b < 15 → a ≠ b → (TX2 a).2.1 ≠ (TX2 b).2.1 := by decide +kernel
theorem tyX2_ok : ∀ k, k < 15 → parseFieldDescriptor (TX2 k).2.2.1 = some (tyX2 k) := by decide +kernel
abbrev cX2_init : ByteArray := prog_4_method_1_code
def yX2_init : MethodName := ⟨RX2, "<init>", "(LBentPictures$Space;LBentPictures$Ray;)V"⟩
abbrev cX2_hasEye : ByteArray := prog_4_method_2_code
def yX2_hasEye : MethodName := ⟨RX2, "hasEye", "(I)Z"⟩
abbrev cX2_sees : ByteArray := prog_4_method_3_code
def yX2_sees : MethodName := ⟨RX2, "sees", "(II)Z"⟩
abbrev cX2_hang : ByteArray := prog_4_method_4_code
def yX2_hang : MethodName := ⟨RX2, "hang", "(LBentPictures$Flat;)I"⟩
abbrev cX2_moveEye : ByteArray := prog_4_method_5_code
def yX2_moveEye : MethodName := ⟨RX2, "moveEye", "(IIII)V"⟩
abbrev cX2_takePicture : ByteArray := prog_4_method_6_code
def yX2_takePicture : MethodName := ⟨RX2, "takePicture", "(ILBentPictures$Sheets;II)I"⟩
abbrev cX2_wished : ByteArray := prog_4_method_7_code
def yX2_wished : MethodName := ⟨RX2, "wished", "(II)I"⟩
abbrev cX2_isWish : ByteArray := prog_4_method_8_code
def yX2_isWish : MethodName := ⟨RX2, "isWish", "(III)Z"⟩
abbrev cX2_look : ByteArray := prog_4_method_9_code
def yX2_look : MethodName := ⟨RX2, "look", "(II)I"⟩
abbrev cX2_lookFrom : ByteArray := prog_4_method_10_code
def yX2_lookFrom : MethodName := ⟨RX2, "lookFrom", "(IIII)I"⟩
abbrev cX2_countWishes : ByteArray := prog_4_method_11_code
def yX2_countWishes : MethodName := ⟨RX2, "countWishes", "(II)I"⟩
abbrev cX2_fateOf : ByteArray := prog_4_method_12_code
def yX2_fateOf : MethodName := ⟨RX2, "fateOf", "(II)I"⟩
abbrev cX2_paintFor : ByteArray := prog_4_method_13_code
def yX2_paintFor : MethodName := ⟨RX2, "paintFor", "(I)V"⟩
abbrev cX2_paintWall : ByteArray := prog_4_method_14_code
def yX2_paintWall : MethodName := ⟨RX2, "paintWall", "(I)V"⟩
abbrev cX2_mostVoted : ByteArray := prog_4_method_15_code
def yX2_mostVoted : MethodName := ⟨RX2, "mostVoted", "(I)I"⟩
abbrev cX2_countIdle : ByteArray := prog_4_method_16_code
def yX2_countIdle : MethodName := ⟨RX2, "countIdle", "(I)I"⟩
abbrev cX2_findWorst : ByteArray := prog_4_method_17_code
def yX2_findWorst : MethodName := ⟨RX2, "findWorst", "(II)V"⟩
abbrev cX2_countUnmet : ByteArray := prog_4_method_18_code
def yX2_countUnmet : MethodName := ⟨RX2, "countUnmet", "(IIII)I"⟩
abbrev cX2_findFew : ByteArray := prog_4_method_19_code
def yX2_findFew : MethodName := ⟨RX2, "findFew", "(I)V"⟩
abbrev cX2_countColours : ByteArray := prog_4_method_20_code
def yX2_countColours : MethodName := ⟨RX2, "countColours", "()V"⟩
abbrev cX2_sumOfDifferences : ByteArray := prog_4_method_21_code
def yX2_sumOfDifferences : MethodName := ⟨RX2, "sumOfDifferences", "(I)I"⟩
abbrev cX2_nearestDifference : ByteArray := prog_4_method_22_code
def yX2_nearestDifference : MethodName := ⟨RX2, "nearestDifference", "(II)I"⟩
def RX3 : String := "BentPictures$Holes"
def TX3 : u_T := fun k => match k with
  | 0 => ("BentPictures$Holes", "cells", "[I", true)
  | 1 => ("BentPictures$Holes", "ends", "[I", true)
  | 2 => ("BentPictures$Holes", "low", "[J", true)
  | 3 => ("BentPictures$Holes", "high", "[J", true)
  | 4 => ("BentPictures$Holes", "restLow", "[J", true)
  | 5 => ("BentPictures$Holes", "restHigh", "[J", true)
  | 6 => ("BentPictures$Holes", "count", "I", false)
  | 7 => ("BentPictures$Holes", "brightest", "I", false)
  | _ => ("BentPictures$Holes", "chosen", "I", false)
def tyX3 : Nat → FieldType := fun k => match k with
  | 0 => .array .int
  | 1 => .array .int
  | 2 => .array .long
  | 3 => .array .long
  | 4 => .array .long
  | 5 => .array .long
  | 6 => .int
  | 7 => .int
  | _ => .int
abbrev wsX30 : List Cond := u_ws RX3 TX3 9
theorem nmX3 : ∀ a, a < 9 → ∀ b, b < 9 → a ≠ b → (TX3 a).2.1 ≠ (TX3 b).2.1 := by decide +kernel
theorem tyX3_ok : ∀ k, k < 9 → parseFieldDescriptor (TX3 k).2.2.1 = some (tyX3 k) := by decide +kernel
abbrev cX3_init : ByteArray := prog_5_method_1_code
def yX3_init : MethodName := ⟨RX3, "<init>", "()V"⟩
abbrev cX3_clear : ByteArray := prog_5_method_2_code
def yX3_clear : MethodName := ⟨RX3, "clear", "()V"⟩
abbrev cX3_isFull : ByteArray := prog_5_method_3_code
def yX3_isFull : MethodName := ⟨RX3, "isFull", "()Z"⟩
abbrev cX3_add : ByteArray := prog_5_method_4_code
def yX3_add : MethodName := ⟨RX3, "add", "(I[II)V"⟩
abbrev cX3_firstWith : ByteArray := prog_5_method_5_code
def yX3_firstWith : MethodName := ⟨RX3, "firstWith", "(II)I"⟩
abbrev cX3_choose : ByteArray := prog_5_method_6_code
def yX3_choose : MethodName := ⟨RX3, "choose", "(I)I"⟩
abbrev cX3_pick : ByteArray := prog_5_method_7_code
def yX3_pick : MethodName := ⟨RX3, "pick", "(IIIJJ)Z"⟩
abbrev cX3_isChosen : ByteArray := prog_5_method_8_code
def yX3_isChosen : MethodName := ⟨RX3, "isChosen", "(I)Z"⟩
def RX4 : String := "BentPictures$Light"
def TX4 : u_T := fun k => match k with
  | 0 => ("BentPictures$Light", "space", "LBentPictures$Space;", true)
  | 1 => ("BentPictures$Light", "ray", "LBentPictures$Ray;", true)
  | 2 => ("BentPictures$Light", "ways", "[I", true)
  | 3 => ("BentPictures$Light", "wantedCells", "[J", true)
  | 4 => ("BentPictures$Light", "shines", "[I", true)
  | 5 => ("BentPictures$Light", "holes", "LBentPictures$Holes;", true)
  | 6 => ("BentPictures$Light", "hours", "I", false)
  | _ => ("BentPictures$Light", "plateNumber", "I", false)
def tyX4 : Nat → FieldType := fun k => match k with
  | 0 => .object "BentPictures$Space"
  | 1 => .object "BentPictures$Ray"
  | 2 => .array .int
  | 3 => .array .long
  | 4 => .array .int
  | 5 => .object "BentPictures$Holes"
  | 6 => .int
  | _ => .int
abbrev wsX40 : List Cond := u_ws RX4 TX4 8
theorem nmX4 : ∀ a, a < 8 → ∀ b, b < 8 → a ≠ b → (TX4 a).2.1 ≠ (TX4 b).2.1 := by decide +kernel
theorem tyX4_ok : ∀ k, k < 8 → parseFieldDescriptor (TX4 k).2.2.1 = some (tyX4 k) := by decide +kernel
abbrev cX4_init : ByteArray := prog_6_method_1_code
def yX4_init : MethodName := ⟨RX4, "<init>", "(LBentPictures$Space;LBentPictures$Ray;)V"⟩
abbrev cX4_hasHour : ByteArray := prog_6_method_2_code
def yX4_hasHour : MethodName := ⟨RX4, "hasHour", "(I)Z"⟩
abbrev cX4_hasPlate : ByteArray := prog_6_method_3_code
def yX4_hasPlate : MethodName := ⟨RX4, "hasPlate", "()Z"⟩
abbrev cX4_addHour : ByteArray := prog_6_method_4_code
def yX4_addHour : MethodName := ⟨RX4, "addHour", "(III)I"⟩
abbrev cX4_isWanted : ByteArray := prog_6_method_5_code
def yX4_isWanted : MethodName := ⟨RX4, "isWanted", "(III)Z"⟩
abbrev cX4_turnWanted : ByteArray := prog_6_method_6_code
def yX4_turnWanted : MethodName := ⟨RX4, "turnWanted", "(III)V"⟩
abbrev cX4_countWanted : ByteArray := prog_6_method_7_code
def yX4_countWanted : MethodName := ⟨RX4, "countWanted", "()I"⟩
abbrev cX4_countWantedAt : ByteArray := prog_6_method_8_code
def yX4_countWantedAt : MethodName := ⟨RX4, "countWantedAt", "(I)I"⟩
abbrev cX4_takeWanted : ByteArray := prog_6_method_9_code
def yX4_takeWanted : MethodName := ⟨RX4, "takeWanted", "(ILBentPictures$Sheets;III)I"⟩
abbrev cX4_shine : ByteArray := prog_6_method_10_code
def yX4_shine : MethodName := ⟨RX4, "shine", "(II)I"⟩
abbrev cX4_mayHave : ByteArray := prog_6_method_11_code
def yX4_mayHave : MethodName := ⟨RX4, "mayHave", "(I)Z"⟩
abbrev cX4_findFewest : ByteArray := prog_6_method_12_code
def yX4_findFewest : MethodName := ⟨RX4, "findFewest", "()I"⟩
def RX5 : String := "BentPictures$Mirror"
def TX5 : u_T := fun k => match k with
  | 0 => ("BentPictures$Wall", "number", "I", true)
  | 1 => ("BentPictures$Wall", "flat", "LBentPictures$Flat;", true)
  | _ => ("BentPictures$Wall", "colours", "[I", true)
def tyX5 : Nat → FieldType := fun k => match k with
  | 0 => .int
  | 1 => .object "BentPictures$Flat"
  | _ => .array .int
abbrev wsX50 : List Cond := u_ws RX5 TX5 3
theorem nmX5 : ∀ a, a < 3 → ∀ b, b < 3 → a ≠ b → (TX5 a).2.1 ≠ (TX5 b).2.1 := by decide +kernel
theorem tyX5_ok : ∀ k, k < 3 → parseFieldDescriptor (TX5 k).2.2.1 = some (tyX5 k) := by decide +kernel
abbrev cX5_init : ByteArray := prog_7_method_1_code
def yX5_init : MethodName := ⟨RX5, "<init>", "(ILBentPictures$Flat;)V"⟩
abbrev cX5_kind : ByteArray := prog_7_method_2_code
def yX5_kind : MethodName := ⟨RX5, "kind", "()I"⟩
abbrev cX5_takesColours : ByteArray := prog_7_method_3_code
def yX5_takesColours : MethodName := ⟨RX5, "takesColours", "()Z"⟩
abbrev cX5_throwsBack : ByteArray := prog_7_method_4_code
def yX5_throwsBack : MethodName := ⟨RX5, "throwsBack", "(I)Z"⟩
abbrev cX5_told : ByteArray := prog_7_method_5_code
def yX5_told : MethodName := ⟨RX5, "told", "(LBentPictures$Trace;)I"⟩
def RX6 : String := "BentPictures$Ray"
def TX6 : u_T := fun k => match k with
  | 0 => ("BentPictures$Ray", "space", "LBentPictures$Space;", true)
  | 1 => ("BentPictures$Ray", "start", "[I", true)
  | 2 => ("BentPictures$Ray", "way", "[I", true)
  | 3 => ("BentPictures$Ray", "turnOver", "I", false)
  | 4 => ("BentPictures$Ray", "turnUnder", "I", false)
  | 5 => ("BentPictures$Ray", "next", "LBentPictures$Wall;", false)
  | 6 => ("BentPictures$Ray", "nextCell", "I", false)
  | 7 => ("BentPictures$Ray", "nextOver", "I", false)
  | 8 => ("BentPictures$Ray", "nextUnder", "I", false)
  | _ => ("BentPictures$Ray", "thrown", "I", false)
def tyX6 : Nat → FieldType := fun k => match k with
  | 0 => .object "BentPictures$Space"
  | 1 => .array .int
  | 2 => .array .int
  | 3 => .int
  | 4 => .int
  | 5 => .object "BentPictures$Wall"
  | 6 => .int
  | 7 => .int
  | 8 => .int
  | _ => .int
abbrev wsX60 : List Cond := u_ws RX6 TX6 10
theorem nmX6 : ∀ a, a < 10 → ∀ b, b < 10 → a ≠ b → (TX6 a).2.1 ≠ (TX6 b).2.1 := by decide +kernel
theorem tyX6_ok : ∀ k, k < 10 → parseFieldDescriptor (TX6 k).2.2.1 = some (tyX6 k) := by decide +kernel
abbrev cX6_init : ByteArray := prog_8_method_1_code
def yX6_init : MethodName := ⟨RX6, "<init>", "(LBentPictures$Space;)V"⟩
abbrev cX6_standAt : ByteArray := prog_8_method_2_code
def yX6_standAt : MethodName := ⟨RX6, "standAt", "(III)V"⟩
abbrev cX6_headFor : ByteArray := prog_8_method_3_code
def yX6_headFor : MethodName := ⟨RX6, "headFor", "(III)V"⟩
abbrev cX6_go : ByteArray := prog_8_method_4_code
def yX6_go : MethodName := ⟨RX6, "go", "(I)I"⟩
abbrev cX6_turnBack : ByteArray := prog_8_method_5_code
def yX6_turnBack : MethodName := ⟨RX6, "turnBack", "(LBentPictures$Flat;)V"⟩
abbrev cX6_consider : ByteArray := prog_8_method_6_code
def yX6_consider : MethodName := ⟨RX6, "consider", "(LBentPictures$Wall;)V"⟩
abbrev cX6_cellAlong : ByteArray := prog_8_method_7_code
def yX6_cellAlong : MethodName := ⟨RX6, "cellAlong", "(IIII)I"⟩
def RX7 : String := "BentPictures$Sheets"
def TX7 : u_T := fun k => match k with
  | 0 => ("BentPictures$Sheets", "rows", "[[I", true)
  | 1 => ("BentPictures$Sheets", "lanes", "[I", true)
  | 2 => ("BentPictures$Sheets", "lengths", "[I", true)
  | _ => ("BentPictures$Sheets", "latestFault", "I", false)
def tyX7 : Nat → FieldType := fun k => match k with
  | 0 => .array (.array .int)
  | 1 => .array .int
  | 2 => .array .int
  | _ => .int
abbrev wsX70 : List Cond := u_ws RX7 TX7 4
theorem nmX7 : ∀ a, a < 4 → ∀ b, b < 4 → a ≠ b → (TX7 a).2.1 ≠ (TX7 b).2.1 := by decide +kernel
theorem tyX7_ok : ∀ k, k < 4 → parseFieldDescriptor (TX7 k).2.2.1 = some (tyX7 k) := by decide +kernel
abbrev cX7_init : ByteArray := prog_9_method_1_code
def yX7_init : MethodName := ⟨RX7, "<init>", "()V"⟩
abbrev cX7_has : ByteArray := prog_9_method_2_code
def yX7_has : MethodName := ⟨RX7, "has", "(I)Z"⟩
abbrev cX7_isLane : ByteArray := prog_9_method_3_code
def yX7_isLane : MethodName := ⟨RX7, "isLane", "(I)Z"⟩
abbrev cX7_laneOf : ByteArray := prog_9_method_4_code
def yX7_laneOf : MethodName := ⟨RX7, "laneOf", "(I)I"⟩
abbrev cX7_begin : ByteArray := prog_9_method_5_code
def yX7_begin : MethodName := ⟨RX7, "begin", "()V"⟩
abbrev cX7_failBy : ByteArray := prog_9_method_6_code
def yX7_failBy : MethodName := ⟨RX7, "failBy", "(I)I"⟩
abbrev cX7_renew : ByteArray := prog_9_method_7_code
def yX7_renew : MethodName := ⟨RX7, "renew", "(III)V"⟩
abbrev cX7_drop : ByteArray := prog_9_method_8_code
def yX7_drop : MethodName := ⟨RX7, "drop", "(I)Z"⟩
abbrev cX7_faultOfTaking : ByteArray := prog_9_method_9_code
def yX7_faultOfTaking : MethodName := ⟨RX7, "faultOfTaking", "(IIIJ)I"⟩
abbrev cX7_read : ByteArray := prog_9_method_10_code
def yX7_read : MethodName := ⟨RX7, "read", "(II)I"⟩
abbrev cX7_write : ByteArray := prog_9_method_11_code
def yX7_write : MethodName := ⟨RX7, "write", "(III)V"⟩
def RX8 : String := "BentPictures$Space"
def TX8 : u_T := fun k => match k with
  | 0 => ("BentPictures$Space", "walls", "[LBentPictures$Wall;", true)
  | _ => ("BentPictures$Space", "surfaces", "I", false)
def tyX8 : Nat → FieldType := fun k => match k with
  | 0 => .array (.object "BentPictures$Wall")
  | _ => .int
abbrev wsX80 : List Cond := u_ws RX8 TX8 2
theorem nmX8 : ∀ a, a < 2 → ∀ b, b < 2 → a ≠ b → (TX8 a).2.1 ≠ (TX8 b).2.1 := by decide +kernel
theorem tyX8_ok : ∀ k, k < 2 → parseFieldDescriptor (TX8 k).2.2.1 = some (tyX8 k) := by decide +kernel
abbrev cX8_init : ByteArray := prog_10_method_1_code
def yX8_init : MethodName := ⟨RX8, "<init>", "()V"⟩
abbrev cX8_isFull : ByteArray := prog_10_method_2_code
def yX8_isFull : MethodName := ⟨RX8, "isFull", "()Z"⟩
abbrev cX8_add : ByteArray := prog_10_method_3_code
def yX8_add : MethodName := ⟨RX8, "add", "(ILBentPictures$Flat;)I"⟩
abbrev cX8_wall : ByteArray := prog_10_method_4_code
def yX8_wall : MethodName := ⟨RX8, "wall", "(I)LBentPictures$Wall;"⟩
abbrev cX8_hasCell : ByteArray := prog_10_method_5_code
def yX8_hasCell : MethodName := ⟨RX8, "hasCell", "(II)Z"⟩
abbrev cX8_colourOf : ByteArray := prog_10_method_6_code
def yX8_colourOf : MethodName := ⟨RX8, "colourOf", "(I)I"⟩
abbrev cX8_countCells : ByteArray := prog_10_method_7_code
def yX8_countCells : MethodName := ⟨RX8, "countCells", "()I"⟩
abbrev cX8_countTakers : ByteArray := prog_10_method_8_code
def yX8_countTakers : MethodName := ⟨RX8, "countTakers", "()I"⟩
abbrev cX8_notBare : ByteArray := prog_10_method_9_code
def yX8_notBare : MethodName := ⟨RX8, "notBare", "()I"⟩
abbrev cX8_becomeBare : ByteArray := prog_10_method_10_code
def yX8_becomeBare : MethodName := ⟨RX8, "becomeBare", "()V"⟩
def RX9 : String := "BentPictures$Trace"
def TX9 : u_T := fun k => match k with
  | _ => ("BentPictures$Trace", "value", "I", false)
def tyX9 : Nat → FieldType := fun k => match k with
  | _ => .int
abbrev wsX90 : List Cond := u_ws RX9 TX9 1
theorem nmX9 : ∀ a, a < 1 → ∀ b, b < 1 → a ≠ b → (TX9 a).2.1 ≠ (TX9 b).2.1 := by decide +kernel
theorem tyX9_ok : ∀ k, k < 1 → parseFieldDescriptor (TX9 k).2.2.1 = some (tyX9 k) := by decide +kernel
abbrev cX9_init : ByteArray := prog_11_method_1_code
def yX9_init : MethodName := ⟨RX9, "<init>", "()V"⟩
abbrev cX9_leave : ByteArray := prog_11_method_2_code
def yX9_leave : MethodName := ⟨RX9, "leave", "(I)V"⟩
def RX10 : String := "BentPictures$Wall"
def TX10 : u_T := fun k => match k with
  | 0 => ("BentPictures$Wall", "number", "I", true)
  | 1 => ("BentPictures$Wall", "flat", "LBentPictures$Flat;", true)
  | _ => ("BentPictures$Wall", "colours", "[I", true)
def tyX10 : Nat → FieldType := fun k => match k with
  | 0 => .int
  | 1 => .object "BentPictures$Flat"
  | _ => .array .int
abbrev wsX100 : List Cond := u_ws RX10 TX10 3
theorem nmX10 : ∀ a, a < 3 → ∀ b, b < 3 → a ≠ b → (TX10 a).2.1 ≠ (TX10 b).2.1 := by decide +kernel
theorem tyX10_ok : ∀ k, k < 3 → parseFieldDescriptor (TX10 k).2.2.1 = some (tyX10 k) := by decide +kernel
abbrev cX10_init : ByteArray := prog_12_method_1_code
def yX10_init : MethodName := ⟨RX10, "<init>", "(ILBentPictures$Flat;)V"⟩
abbrev cX10_kind : ByteArray := prog_12_method_2_code
def yX10_kind : MethodName := ⟨RX10, "kind", "()I"⟩
abbrev cX10_takesColours : ByteArray := prog_12_method_3_code
def yX10_takesColours : MethodName := ⟨RX10, "takesColours", "()Z"⟩
abbrev cX10_throwsBack : ByteArray := prog_12_method_4_code
def yX10_throwsBack : MethodName := ⟨RX10, "throwsBack", "(I)Z"⟩
abbrev cX10_told : ByteArray := prog_12_method_5_code
def yX10_told : MethodName := ⟨RX10, "told", "(LBentPictures$Trace;)I"⟩
abbrev cX10_toldAsWall : ByteArray := prog_12_method_6_code
def yX10_toldAsWall : MethodName := ⟨RX10, "toldAsWall", "(LBentPictures$Trace;)I"⟩
abbrev cX10_named : ByteArray := prog_12_method_7_code
def yX10_named : MethodName := ⟨RX10, "named", "(LBentPictures$Trace;)I"⟩
abbrev cX10_notBare : ByteArray := prog_12_method_8_code
def yX10_notBare : MethodName := ⟨RX10, "notBare", "()I"⟩
def RX11 : String := "BentPictures"
def TX11 : u_T := fun k => match k with
  | 0 => ("BentPictures", "trail", "LBentPictures$Trace;", true)
  | 1 => ("BentPictures", "space", "LBentPictures$Space;", true)
  | 2 => ("BentPictures", "beam", "LBentPictures$Ray;", true)
  | 3 => ("BentPictures", "gallery", "LBentPictures$Gallery;", true)
  | 4 => ("BentPictures", "light", "LBentPictures$Light;", true)
  | _ => ("BentPictures", "sheets", "LBentPictures$Sheets;", true)
def tyX11 : Nat → FieldType := fun k => match k with
  | 0 => .object "BentPictures$Trace"
  | 1 => .object "BentPictures$Space"
  | 2 => .object "BentPictures$Ray"
  | 3 => .object "BentPictures$Gallery"
  | 4 => .object "BentPictures$Light"
  | _ => .object "BentPictures$Sheets"
abbrev wsX110 : List Cond := u_ws RX11 TX11 6
theorem nmX11 : ∀ a, a < 6 → ∀ b, b < 6 → a ≠ b → (TX11 a).2.1 ≠ (TX11 b).2.1 := by decide +kernel
theorem tyX11_ok : ∀ k, k < 6 → parseFieldDescriptor (TX11 k).2.2.1 = some (tyX11 k) := by decide +kernel
abbrev cX11_init : ByteArray := prog_1_method_1_code
def yX11_init : MethodName := ⟨RX11, "<init>", "()V"⟩
abbrev cX11_surface : ByteArray := prog_1_method_2_code
def yX11_surface : MethodName := ⟨RX11, "surface", "(IIIIIII)I"⟩
abbrev cX11_about : ByteArray := prog_1_method_3_code
def yX11_about : MethodName := ⟨RX11, "about", "(II)I"⟩
abbrev cX11_board : ByteArray := prog_1_method_4_code
def yX11_board : MethodName := ⟨RX11, "board", "(IIIIII)I"⟩
abbrev cX11_eye : ByteArray := prog_1_method_5_code
def yX11_eye : MethodName := ⟨RX11, "eye", "(IIII)I"⟩
abbrev cX11_picture : ByteArray := prog_1_method_6_code
def yX11_picture : MethodName := ⟨RX11, "picture", "(IIII)I"⟩
abbrev cX11_wish : ByteArray := prog_1_method_7_code
def yX11_wish : MethodName := ⟨RX11, "wish", "(II)I"⟩
abbrev cX11_paint : ByteArray := prog_1_method_8_code
def yX11_paint : MethodName := ⟨RX11, "paint", "(III)I"⟩
abbrev cX11_colour : ByteArray := prog_1_method_9_code
def yX11_colour : MethodName := ⟨RX11, "colour", "(II)I"⟩
abbrev cX11_ray : ByteArray := prog_1_method_10_code
def yX11_ray : MethodName := ⟨RX11, "ray", "(IIIIII)I"⟩
abbrev cX11_bounces : ByteArray := prog_1_method_11_code
def yX11_bounces : MethodName := ⟨RX11, "bounces", "(IIIIII)I"⟩
abbrev cX11_seen : ByteArray := prog_1_method_12_code
def yX11_seen : MethodName := ⟨RX11, "seen", "(II)I"⟩
abbrev cX11_wishes : ByteArray := prog_1_method_13_code
def yX11_wishes : MethodName := ⟨RX11, "wishes", "(II)I"⟩
abbrev cX11_painting : ByteArray := prog_1_method_14_code
def yX11_painting : MethodName := ⟨RX11, "painting", "(I)I"⟩
abbrev cX11_wash : ByteArray := prog_1_method_15_code
def yX11_wash : MethodName := ⟨RX11, "wash", "()I"⟩
abbrev cX11_idle : ByteArray := prog_1_method_16_code
def yX11_idle : MethodName := ⟨RX11, "idle", "(I)I"⟩
abbrev cX11_sway : ByteArray := prog_1_method_17_code
def yX11_sway : MethodName := ⟨RX11, "sway", "(III)I"⟩
abbrev cX11_hour : ByteArray := prog_1_method_18_code
def yX11_hour : MethodName := ⟨RX11, "hour", "(III)I"⟩
abbrev cX11_plate : ByteArray := prog_1_method_19_code
def yX11_plate : MethodName := ⟨RX11, "plate", "(I)I"⟩
abbrev cX11_want : ByteArray := prog_1_method_20_code
def yX11_want : MethodName := ⟨RX11, "want", "(IIIZ)I"⟩
abbrev cX11_wanted : ByteArray := prog_1_method_21_code
def yX11_wanted : MethodName := ⟨RX11, "wanted", "(IIIII)I"⟩
abbrev cX11_lit : ByteArray := prog_1_method_22_code
def yX11_lit : MethodName := ⟨RX11, "lit", "(II)I"⟩
abbrev cX11_may : ByteArray := prog_1_method_23_code
def yX11_may : MethodName := ⟨RX11, "may", "(I)I"⟩
abbrev cX11_fewest : ByteArray := prog_1_method_24_code
def yX11_fewest : MethodName := ⟨RX11, "fewest", "()I"⟩
abbrev cX11_hole : ByteArray := prog_1_method_25_code
def yX11_hole : MethodName := ⟨RX11, "hole", "(I)I"⟩
abbrev cX11_few : ByteArray := prog_1_method_26_code
def yX11_few : MethodName := ⟨RX11, "few", "(II)I"⟩
abbrev cX11_sheet : ByteArray := prog_1_method_27_code
def yX11_sheet : MethodName := ⟨RX11, "sheet", "(III)I"⟩
abbrev cX11_lose : ByteArray := prog_1_method_28_code
def yX11_lose : MethodName := ⟨RX11, "lose", "(I)I"⟩
abbrev cX11_put : ByteArray := prog_1_method_29_code
def yX11_put : MethodName := ⟨RX11, "put", "(III)I"⟩
abbrev cX11_at : ByteArray := prog_1_method_30_code
def yX11_at : MethodName := ⟨RX11, "at", "(III)J"⟩
abbrev cX11_tell : ByteArray := prog_1_method_31_code
def yX11_tell : MethodName := ⟨RX11, "tell", "(I)I"⟩
abbrev cX11_name : ByteArray := prog_1_method_32_code
def yX11_name : MethodName := ⟨RX11, "name", "(I)I"⟩
abbrev cX11_as : ByteArray := prog_1_method_33_code
def yX11_as : MethodName := ⟨RX11, "as", "(II)I"⟩
abbrev cX11_trace : ByteArray := prog_1_method_34_code
def yX11_trace : MethodName := ⟨RX11, "trace", "()I"⟩
abbrev cX11_fault : ByteArray := prog_1_method_35_code
def yX11_fault : MethodName := ⟨RX11, "fault", "()I"⟩
abbrev cX11_many : ByteArray := prog_1_method_36_code
def yX11_many : MethodName := ⟨RX11, "many", "(I)I"⟩
abbrev cX11_within : ByteArray := prog_1_method_37_code
def yX11_within : MethodName := ⟨RX11, "within", "(III)Z"⟩
abbrev cX11_isPlace : ByteArray := prog_1_method_38_code
def yX11_isPlace : MethodName := ⟨RX11, "isPlace", "(III)Z"⟩
abbrev cX11_isDirection : ByteArray := prog_1_method_39_code
def yX11_isDirection : MethodName := ⟨RX11, "isDirection", "(IIII)Z"⟩
abbrev cX11_isColour : ByteArray := prog_1_method_40_code
def yX11_isColour : MethodName := ⟨RX11, "isColour", "(I)Z"⟩
abbrev cX11_isSetOfEyes : ByteArray := prog_1_method_41_code
def yX11_isSetOfEyes : MethodName := ⟨RX11, "isSetOfEyes", "(I)Z"⟩
def RX12 : String := "BentPicturesModel"
def TX12 : u_T := fun k => match k with
  | 0 => ("BentPicturesModel", "fault", "I", false)
  | 1 => ("BentPicturesModel", "trace", "I", false)
  | 2 => ("BentPicturesModel", "surfaces", "I", false)
  | 3 => ("BentPicturesModel", "kinds", "[I", true)
  | 4 => ("BentPicturesModel", "flat", "[I", true)
  | 5 => ("BentPicturesModel", "colours", "[I", true)
  | 6 => ("BentPicturesModel", "eyes", "[I", true)
  | 7 => ("BentPicturesModel", "pictures", "[I", true)
  | 8 => ("BentPicturesModel", "isBoard", "Z", false)
  | 9 => ("BentPicturesModel", "lanes", "[I", true)
  | 10 => ("BentPicturesModel", "sheetLong", "[I", true)
  | 11 => ("BentPicturesModel", "cells", "[I", true)
  | 12 => ("BentPicturesModel", "place", "[I", true)
  | 13 => ("BentPicturesModel", "way", "[I", true)
  | 14 => ("BentPicturesModel", "fine", "I", false)
  | 15 => ("BentPicturesModel", "without", "I", false)
  | 16 => ("BentPicturesModel", "backs", "I", false)
  | 17 => ("BentPicturesModel", "lastUp", "J", false)
  | 18 => ("BentPicturesModel", "lastDown", "J", false)
  | 19 => ("BentPicturesModel", "upNow", "J", false)
  | 20 => ("BentPicturesModel", "downNow", "J", false)
  | 21 => ("BentPicturesModel", "middle", "[I", true)
  | 22 => ("BentPicturesModel", "wants", "[I", true)
  | 23 => ("BentPicturesModel", "isSeen", "[Z", true)
  | 24 => ("BentPicturesModel", "hours", "I", false)
  | 25 => ("BentPicturesModel", "lights", "[I", true)
  | 26 => ("BentPicturesModel", "plate", "I", false)
  | 27 => ("BentPicturesModel", "isWanted", "[Z", true)
  | 28 => ("BentPicturesModel", "holeMany", "I", false)
  | 29 => ("BentPicturesModel", "holes", "[I", true)
  | 30 => ("BentPicturesModel", "lightsUp", "[I", true)
  | 31 => ("BentPicturesModel", "isLit", "[Z", true)
  | 32 => ("BentPicturesModel", "chosen", "[I", true)
  | 33 => ("BentPicturesModel", "lowOf", "[J", true)
  | 34 => ("BentPicturesModel", "highOf", "[J", true)
  | 35 => ("BentPicturesModel", "bitOf", "[I", true)
  | 36 => ("BentPicturesModel", "often", "[I", true)
  | 37 => ("BentPicturesModel", "bestSet", "I", false)
  | _ => ("BentPicturesModel", "bestSum", "I", false)
def tyX12 : Nat → FieldType := fun k => match k with
  | 0 => .int
  | 1 => .int
  | 2 => .int
  | 3 => .array .int
  | 4 => .array .int
  | 5 => .array .int
  | 6 => .array .int
  | 7 => .array .int
  | 8 => .boolean
  | 9 => .array .int
  | 10 => .array .int
  | 11 => .array .int
  | 12 => .array .int
  | 13 => .array .int
  | 14 => .int
  | 15 => .int
  | 16 => .int
  | 17 => .long
  | 18 => .long
  | 19 => .long
  | 20 => .long
  | 21 => .array .int
  | 22 => .array .int
  | 23 => .array .boolean
  | 24 => .int
  | 25 => .array .int
  | 26 => .int
  | 27 => .array .boolean
  | 28 => .int
  | 29 => .array .int
  | 30 => .array .int
  | 31 => .array .boolean
  | 32 => .array .int
  | 33 => .array .long
  | 34 => .array .long
  | 35 => .array .int
  | 36 => .array .int
  | 37 => .int
  | _ => .int
abbrev wsX120 : List Cond := u_ws RX12 TX12 39
theorem nmX12 : ∀ a, a < 39 → ∀ b, b < 39 → a ≠ b → (TX12 a).2.1 ≠ (TX12 b).2.1 := by decide +kernel
theorem tyX12_ok : ∀ k, k < 39 → parseFieldDescriptor (TX12 k).2.2.1 = some (tyX12 k) := by decide +kernel
abbrev cX12_init : ByteArray := prog_14_method_1_code
def yX12_init : MethodName := ⟨RX12, "<init>", "()V"⟩
abbrev cX12_fails : ByteArray := prog_14_method_3_code
def yX12_fails : MethodName := ⟨RX12, "fails", "(I)I"⟩
abbrev cX12_lost : ByteArray := prog_14_method_4_code
def yX12_lost : MethodName := ⟨RX12, "lost", "(I)J"⟩
abbrev cX12_within : ByteArray := prog_14_method_5_code
def yX12_within : MethodName := ⟨RX12, "within", "(III)Z"⟩
abbrev cX12_isFlat : ByteArray := prog_14_method_6_code
def yX12_isFlat : MethodName := ⟨RX12, "isFlat", "(IIIIII)Z"⟩
abbrev cX12_layFlat : ByteArray := prog_14_method_7_code
def yX12_layFlat : MethodName := ⟨RX12, "layFlat", "(IIIIIII)V"⟩
abbrev cX12_cellsOf : ByteArray := prog_14_method_8_code
def yX12_cellsOf : MethodName := ⟨RX12, "cellsOf", "(I)I"⟩
abbrev cX12_isSurface : ByteArray := prog_14_method_9_code
def yX12_isSurface : MethodName := ⟨RX12, "isSurface", "(I)Z"⟩
abbrev cX12_isCell : ByteArray := prog_14_method_10_code
def yX12_isCell : MethodName := ⟨RX12, "isCell", "(II)Z"⟩
abbrev cX12_needBoard : ByteArray := prog_14_method_11_code
def yX12_needBoard : MethodName := ⟨RX12, "needBoard", "()V"⟩
abbrev cX12_boardCells : ByteArray := prog_14_method_12_code
def yX12_boardCells : MethodName := ⟨RX12, "boardCells", "()I"⟩
abbrev cX12_surface : ByteArray := prog_14_method_13_code
def yX12_surface : MethodName := ⟨RX12, "surface", "(IIIIIII)I"⟩
abbrev cX12_painted : ByteArray := prog_14_method_14_code
def yX12_painted : MethodName := ⟨RX12, "painted", "(I)I"⟩
abbrev cX12_about : ByteArray := prog_14_method_15_code
def yX12_about : MethodName := ⟨RX12, "about", "(II)I"⟩
abbrev cX12_board : ByteArray := prog_14_method_16_code
def yX12_board : MethodName := ⟨RX12, "board", "(IIIIII)I"⟩
abbrev cX12_isEye : ByteArray := prog_14_method_17_code
def yX12_isEye : MethodName := ⟨RX12, "isEye", "(I)Z"⟩
abbrev cX12_isPlace : ByteArray := prog_14_method_18_code
def yX12_isPlace : MethodName := ⟨RX12, "isPlace", "(III)Z"⟩
abbrev cX12_eye : ByteArray := prog_14_method_19_code
def yX12_eye : MethodName := ⟨RX12, "eye", "(IIII)I"⟩
abbrev cX12_against : ByteArray := prog_14_method_20_code
def yX12_against : MethodName := ⟨RX12, "against", "(IIIII)I"⟩
abbrev cX12_isSheet : ByteArray := prog_14_method_21_code
def yX12_isSheet : MethodName := ⟨RX12, "isSheet", "(I)Z"⟩
abbrev cX12_isLane : ByteArray := prog_14_method_22_code
def yX12_isLane : MethodName := ⟨RX12, "isLane", "(I)Z"⟩
abbrev cX12_picture : ByteArray := prog_14_method_23_code
def yX12_picture : MethodName := ⟨RX12, "picture", "(IIII)I"⟩
abbrev cX12_wish : ByteArray := prog_14_method_24_code
def yX12_wish : MethodName := ⟨RX12, "wish", "(II)I"⟩
abbrev cX12_paint : ByteArray := prog_14_method_25_code
def yX12_paint : MethodName := ⟨RX12, "paint", "(III)I"⟩
abbrev cX12_colour : ByteArray := prog_14_method_26_code
def yX12_colour : MethodName := ⟨RX12, "colour", "(II)I"⟩
abbrev cX12_floorOf : ByteArray := prog_14_method_27_code
def yX12_floorOf : MethodName := ⟨RX12, "floorOf", "(JJ)J"⟩
abbrev cX12_firstOther : ByteArray := prog_14_method_28_code
def yX12_firstOther : MethodName := ⟨RX12, "firstOther", "(I)I"⟩
abbrev cX12_secondOther : ByteArray := prog_14_method_29_code
def yX12_secondOther : MethodName := ⟨RX12, "secondOther", "(I)I"⟩
abbrev cX12_wholeAt : ByteArray := prog_14_method_30_code
def yX12_wholeAt : MethodName := ⟨RX12, "wholeAt", "(I)J"⟩
abbrev cX12_comesTo : ByteArray := prog_14_method_31_code
def yX12_comesTo : MethodName := ⟨RX12, "comesTo", "(I)I"⟩
abbrev cX12_throwsBack : ByteArray := prog_14_method_32_code
def yX12_throwsBack : MethodName := ⟨RX12, "throwsBack", "(II)Z"⟩
abbrev cX12_endOf : ByteArray := prog_14_method_33_code
def yX12_endOf : MethodName := ⟨RX12, "endOf", "()I"⟩
abbrev cX12_isRay : ByteArray := prog_14_method_34_code
def yX12_isRay : MethodName := ⟨RX12, "isRay", "(IIIIII)Z"⟩
abbrev cX12_go : ByteArray := prog_14_method_35_code
def yX12_go : MethodName := ⟨RX12, "go", "(IIIIII)I"⟩
abbrev cX12_ray : ByteArray := prog_14_method_36_code
def yX12_ray : MethodName := ⟨RX12, "ray", "(IIIIII)I"⟩
abbrev cX12_bounces : ByteArray := prog_14_method_37_code
def yX12_bounces : MethodName := ⟨RX12, "bounces", "(IIIIII)I"⟩
abbrev cX12_findMiddle : ByteArray := prog_14_method_38_code
def yX12_findMiddle : MethodName := ⟨RX12, "findMiddle", "(II)V"⟩
abbrev cX12_seenFrom : ByteArray := prog_14_method_39_code
def yX12_seenFrom : MethodName := ⟨RX12, "seenFrom", "(IIII)I"⟩
abbrev cX12_seenBy : ByteArray := prog_14_method_40_code
def yX12_seenBy : MethodName := ⟨RX12, "seenBy", "(II)I"⟩
abbrev cX12_seen : ByteArray := prog_14_method_41_code
def yX12_seen : MethodName := ⟨RX12, "seen", "(II)I"⟩
abbrev cX12_areEyes : ByteArray := prog_14_method_42_code
def yX12_areEyes : MethodName := ⟨RX12, "areEyes", "(I)Z"⟩
abbrev cX12_colourAt : ByteArray := prog_14_method_43_code
def yX12_colourAt : MethodName := ⟨RX12, "colourAt", "(I)I"⟩
abbrev cX12_wishes : ByteArray := prog_14_method_44_code
def yX12_wishes : MethodName := ⟨RX12, "wishes", "(II)I"⟩
abbrev cX12_allPainted : ByteArray := prog_14_method_45_code
def yX12_allPainted : MethodName := ⟨RX12, "allPainted", "()I"⟩
abbrev cX12_wash : ByteArray := prog_14_method_46_code
def yX12_wash : MethodName := ⟨RX12, "wash", "()I"⟩
abbrev cX12_painting : ByteArray := prog_14_method_47_code
def yX12_painting : MethodName := ⟨RX12, "painting", "(I)I"⟩
abbrev cX12_idle : ByteArray := prog_14_method_48_code
def yX12_idle : MethodName := ⟨RX12, "idle", "(I)I"⟩
abbrev cX12_notMet : ByteArray := prog_14_method_49_code
def yX12_notMet : MethodName := ⟨RX12, "notMet", "(IIII)I"⟩
abbrev cX12_sway : ByteArray := prog_14_method_50_code
def yX12_sway : MethodName := ⟨RX12, "sway", "(III)I"⟩
abbrev cX12_hour : ByteArray := prog_14_method_51_code
def yX12_hour : MethodName := ⟨RX12, "hour", "(III)I"⟩
abbrev cX12_plate : ByteArray := prog_14_method_52_code
def yX12_plate : MethodName := ⟨RX12, "plate", "(I)I"⟩
abbrev cX12_isHour : ByteArray := prog_14_method_53_code
def yX12_isHour : MethodName := ⟨RX12, "isHour", "(I)Z"⟩
abbrev cX12_want : ByteArray := prog_14_method_54_code
def yX12_want : MethodName := ⟨RX12, "want", "(IIIZ)I"⟩
abbrev cX12_wanted : ByteArray := prog_14_method_55_code
def yX12_wanted : MethodName := ⟨RX12, "wanted", "(IIIII)I"⟩
abbrev cX12_litBy : ByteArray := prog_14_method_56_code
def yX12_litBy : MethodName := ⟨RX12, "litBy", "(II)I"⟩
abbrev cX12_lit : ByteArray := prog_14_method_57_code
def yX12_lit : MethodName := ⟨RX12, "lit", "(II)I"⟩
abbrev cX12_mayBe : ByteArray := prog_14_method_58_code
def yX12_mayBe : MethodName := ⟨RX12, "mayBe", "(I)Z"⟩
abbrev cX12_may : ByteArray := prog_14_method_59_code
def yX12_may : MethodName := ⟨RX12, "may", "(I)I"⟩
abbrev cX12_doLight : ByteArray := prog_14_method_60_code
def yX12_doLight : MethodName := ⟨RX12, "doLight", "(I)Z"⟩
abbrev cX12_wantedMany : ByteArray := prog_14_method_61_code
def yX12_wantedMany : MethodName := ⟨RX12, "wantedMany", "()I"⟩
abbrev cX12_isOn : ByteArray := prog_14_method_62_code
def yX12_isOn : MethodName := ⟨RX12, "isOn", "(JJI)Z"⟩
abbrev cX12_findBits : ByteArray := prog_14_method_63_code
def yX12_findBits : MethodName := ⟨RX12, "findBits", "()I"⟩
abbrev cX12_findFewest : ByteArray := prog_14_method_64_code
def yX12_findFewest : MethodName := ⟨RX12, "findFewest", "()I"⟩
abbrev cX12_fewest : ByteArray := prog_14_method_65_code
def yX12_fewest : MethodName := ⟨RX12, "fewest", "()I"⟩
abbrev cX12_hole : ByteArray := prog_14_method_66_code
def yX12_hole : MethodName := ⟨RX12, "hole", "(I)I"⟩
abbrev cX12_sizeOf : ByteArray := prog_14_method_67_code
def yX12_sizeOf : MethodName := ⟨RX12, "sizeOf", "(I)I"⟩
abbrev cX12_sumOf : ByteArray := prog_14_method_68_code
def yX12_sumOf : MethodName := ⟨RX12, "sumOf", "(I)I"⟩
abbrev cX12_few : ByteArray := prog_14_method_69_code
def yX12_few : MethodName := ⟨RX12, "few", "(II)I"⟩
abbrev cX12_sheet : ByteArray := prog_14_method_70_code
def yX12_sheet : MethodName := ⟨RX12, "sheet", "(III)I"⟩
abbrev cX12_lose : ByteArray := prog_14_method_71_code
def yX12_lose : MethodName := ⟨RX12, "lose", "(I)I"⟩
abbrev cX12_put : ByteArray := prog_14_method_72_code
def yX12_put : MethodName := ⟨RX12, "put", "(III)I"⟩
abbrev cX12_at : ByteArray := prog_14_method_73_code
def yX12_at : MethodName := ⟨RX12, "at", "(III)J"⟩
abbrev cX12_begins : ByteArray := prog_14_method_74_code
def yX12_begins : MethodName := ⟨RX12, "begins", "(I)V"⟩
abbrev cX12_tell : ByteArray := prog_14_method_75_code
def yX12_tell : MethodName := ⟨RX12, "tell", "(I)I"⟩
abbrev cX12_name : ByteArray := prog_14_method_76_code
def yX12_name : MethodName := ⟨RX12, "name", "(I)I"⟩
abbrev cX12_as : ByteArray := prog_14_method_77_code
def yX12_as : MethodName := ⟨RX12, "as", "(II)I"⟩
abbrev cX12_trace : ByteArray := prog_14_method_78_code
def yX12_trace : MethodName := ⟨RX12, "trace", "()I"⟩
abbrev cX12_fault : ByteArray := prog_14_method_79_code
def yX12_fault : MethodName := ⟨RX12, "fault", "()I"⟩
abbrev cX12_many : ByteArray := prog_14_method_80_code
def yX12_many : MethodName := ⟨RX12, "many", "(I)I"⟩
def RJ6 : String := "java/lang/Integer"
abbrev cJ6_bitCount_0f7a4 : ByteArray := prog_15_method_49_code
def yJ6_bitCount_0f7a4 : MethodName := ⟨RJ6, "bitCount", "(I)I"⟩
def RJ13 : String := "java/lang/Long"
abbrev cJ13_bitCount_95d88 : ByteArray := prog_16_method_50_code
def yJ13_bitCount_95d88 : MethodName := ⟨RJ13, "bitCount", "(J)I"⟩
def RJ9 : String := "java/lang/Math"
abbrev cJ9_max_7cf53 : ByteArray := prog_17_method_65_code
def yJ9_max_7cf53 : MethodName := ⟨RJ9, "max", "(II)I"⟩
def RJ7 : String := "java/util/Arrays"
abbrev cJ7_rangeCheck_23922 : ByteArray := prog_18_method_30_code
def yJ7_rangeCheck_23922 : MethodName := ⟨RJ7, "rangeCheck", "(III)V"⟩
abbrev cJ7_fill_d0a16 : ByteArray := prog_18_method_101_code
def yJ7_fill_d0a16 : MethodName := ⟨RJ7, "fill", "([JJ)V"⟩
abbrev cJ7_fill_bad5a : ByteArray := prog_18_method_102_code
def yJ7_fill_bad5a : MethodName := ⟨RJ7, "fill", "([JIIJ)V"⟩
abbrev cJ7_fill_53178 : ByteArray := prog_18_method_103_code
def yJ7_fill_53178 : MethodName := ⟨RJ7, "fill", "([II)V"⟩
def RL : String := "BentPicturesLaw"
abbrev cL_law : ByteArray := code
def yL_law : MethodName := ⟨RL, "law", "([I)Z"⟩
abbrev vwCl : List vw_C := [(RX0, TX0, 3), (RX1, TX1, 9), (RX2, TX2, 15), (RX3, TX3, 9), (RX4, TX4, 8), (RX5, TX5, 3), (RX6, TX6, 10), (RX7, TX7, 4), (RX8, TX8, 2), (RX9, TX9, 1), (RX10, TX10, 3), (RX11, TX11, 6), (RX12, TX12, 39)]
