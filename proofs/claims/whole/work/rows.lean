section
-- ===== PART A: goes FIRST, ahead of the names: the tables' words, and 'selects' of the private methods out of them =====
/-- a private method of a class that the tables say can be made, by its rows of tables_1 -/
def lw_okq (q : MethodName × Nat) : Prop := (q.1.cls ≠ "java/lang/invoke/MethodHandle" ∧ q.1.cls ≠ "java/lang/invoke/VarHandle") ∧ Cond.instantiable q.1.cls q.2 ∈ tables_1 ∧ Cond.privateMethod q.1 ∈ tables_1 ∧ Cond.instanceMethod q.1 ∈ tables_1
theorem lw_p0 : lw_okq (⟨"BentPictures$Ray", "consider", "(LBentPictures$Wall;)V"⟩, 10) := ⟨⟨by decide +kernel, by decide +kernel⟩, List.mem_of_getElem? (i := 57) (by decide +kernel), List.mem_of_getElem? (i := 539) (by decide +kernel), List.mem_of_getElem? (i := 540) (by decide +kernel)⟩
theorem lw_p1 : lw_okq (⟨"BentPictures$Ray", "cellAlong", "(IIII)I"⟩, 10) := ⟨⟨by decide +kernel, by decide +kernel⟩, List.mem_of_getElem? (i := 57) (by decide +kernel), List.mem_of_getElem? (i := 543) (by decide +kernel), List.mem_of_getElem? (i := 544) (by decide +kernel)⟩
theorem lw_p2 : lw_okq (⟨"BentPictures$Ray", "turnBack", "(LBentPictures$Flat;)V"⟩, 10) := ⟨⟨by decide +kernel, by decide +kernel⟩, List.mem_of_getElem? (i := 57) (by decide +kernel), List.mem_of_getElem? (i := 559) (by decide +kernel), List.mem_of_getElem? (i := 560) (by decide +kernel)⟩
theorem lw_p3 : lw_okq (⟨"BentPictures$Gallery", "lookFrom", "(IIII)I"⟩, 15) := ⟨⟨by decide +kernel, by decide +kernel⟩, List.mem_of_getElem? (i := 96) (by decide +kernel), List.mem_of_getElem? (i := 575) (by decide +kernel), List.mem_of_getElem? (i := 576) (by decide +kernel)⟩
theorem lw_p4 : lw_okq (⟨"BentPictures$Gallery", "isWish", "(III)Z"⟩, 15) := ⟨⟨by decide +kernel, by decide +kernel⟩, List.mem_of_getElem? (i := 96) (by decide +kernel), List.mem_of_getElem? (i := 597) (by decide +kernel), List.mem_of_getElem? (i := 598) (by decide +kernel)⟩
theorem lw_p5 : lw_okq (⟨"BentPictures$Gallery", "fateOf", "(II)I"⟩, 15) := ⟨⟨by decide +kernel, by decide +kernel⟩, List.mem_of_getElem? (i := 96) (by decide +kernel), List.mem_of_getElem? (i := 602) (by decide +kernel), List.mem_of_getElem? (i := 603) (by decide +kernel)⟩
theorem lw_p6 : lw_okq (⟨"BentPictures$Gallery", "paintWall", "(I)V"⟩, 15) := ⟨⟨by decide +kernel, by decide +kernel⟩, List.mem_of_getElem? (i := 96) (by decide +kernel), List.mem_of_getElem? (i := 625) (by decide +kernel), List.mem_of_getElem? (i := 626) (by decide +kernel)⟩
theorem lw_p7 : lw_okq (⟨"BentPictures$Gallery", "mostVoted", "(I)I"⟩, 15) := ⟨⟨by decide +kernel, by decide +kernel⟩, List.mem_of_getElem? (i := 96) (by decide +kernel), List.mem_of_getElem? (i := 631) (by decide +kernel), List.mem_of_getElem? (i := 632) (by decide +kernel)⟩
theorem lw_p8 : lw_okq (⟨"BentPictures$Gallery", "countUnmet", "(IIII)I"⟩, 15) := ⟨⟨by decide +kernel, by decide +kernel⟩, List.mem_of_getElem? (i := 96) (by decide +kernel), List.mem_of_getElem? (i := 680) (by decide +kernel), List.mem_of_getElem? (i := 681) (by decide +kernel)⟩
theorem lw_p9 : lw_okq (⟨"BentPictures$Light", "countWantedAt", "(I)I"⟩, 8) := ⟨⟨by decide +kernel, by decide +kernel⟩, List.mem_of_getElem? (i := 212) (by decide +kernel), List.mem_of_getElem? (i := 735) (by decide +kernel), List.mem_of_getElem? (i := 736) (by decide +kernel)⟩
theorem lw_p10 : lw_okq (⟨"BentPictures$Holes", "firstWith", "(II)I"⟩, 9) := ⟨⟨by decide +kernel, by decide +kernel⟩, List.mem_of_getElem? (i := 218) (by decide +kernel), List.mem_of_getElem? (i := 783) (by decide +kernel), List.mem_of_getElem? (i := 784) (by decide +kernel)⟩
theorem lw_p11 : lw_okq (⟨"BentPictures$Holes", "pick", "(IIIJJ)Z"⟩, 9) := ⟨⟨by decide +kernel, by decide +kernel⟩, List.mem_of_getElem? (i := 218) (by decide +kernel), List.mem_of_getElem? (i := 797) (by decide +kernel), List.mem_of_getElem? (i := 798) (by decide +kernel)⟩
theorem lw_p12 : lw_okq (⟨"BentPictures$Gallery", "countColours", "()V"⟩, 15) := ⟨⟨by decide +kernel, by decide +kernel⟩, List.mem_of_getElem? (i := 96) (by decide +kernel), List.mem_of_getElem? (i := 818) (by decide +kernel), List.mem_of_getElem? (i := 819) (by decide +kernel)⟩
theorem lw_p13 : lw_okq (⟨"BentPictures$Gallery", "sumOfDifferences", "(I)I"⟩, 15) := ⟨⟨by decide +kernel, by decide +kernel⟩, List.mem_of_getElem? (i := 96) (by decide +kernel), List.mem_of_getElem? (i := 828) (by decide +kernel), List.mem_of_getElem? (i := 829) (by decide +kernel)⟩
theorem lw_p14 : lw_okq (⟨"BentPicturesModel", "layFlat", "(IIIIIII)V"⟩, 39) := ⟨⟨by decide +kernel, by decide +kernel⟩, List.mem_of_getElem? (i := 936) (by decide +kernel), List.mem_of_getElem? (i := 1071) (by decide +kernel), List.mem_of_getElem? (i := 1072) (by decide +kernel)⟩
theorem lw_p15 : lw_okq (⟨"BentPicturesModel", "isSurface", "(I)Z"⟩, 39) := ⟨⟨by decide +kernel, by decide +kernel⟩, List.mem_of_getElem? (i := 936) (by decide +kernel), List.mem_of_getElem? (i := 1079) (by decide +kernel), List.mem_of_getElem? (i := 1080) (by decide +kernel)⟩
def lw_privs_1 : List (MethodName × Nat) := [(⟨"BentPictures$Ray", "consider", "(LBentPictures$Wall;)V"⟩, 10), (⟨"BentPictures$Ray", "cellAlong", "(IIII)I"⟩, 10), (⟨"BentPictures$Ray", "turnBack", "(LBentPictures$Flat;)V"⟩, 10), (⟨"BentPictures$Gallery", "lookFrom", "(IIII)I"⟩, 15), (⟨"BentPictures$Gallery", "isWish", "(III)Z"⟩, 15), (⟨"BentPictures$Gallery", "fateOf", "(II)I"⟩, 15), (⟨"BentPictures$Gallery", "paintWall", "(I)V"⟩, 15), (⟨"BentPictures$Gallery", "mostVoted", "(I)I"⟩, 15), (⟨"BentPictures$Gallery", "countUnmet", "(IIII)I"⟩, 15), (⟨"BentPictures$Light", "countWantedAt", "(I)I"⟩, 8), (⟨"BentPictures$Holes", "firstWith", "(II)I"⟩, 9), (⟨"BentPictures$Holes", "pick", "(IIIJJ)Z"⟩, 9), (⟨"BentPictures$Gallery", "countColours", "()V"⟩, 15), (⟨"BentPictures$Gallery", "sumOfDifferences", "(I)I"⟩, 15), (⟨"BentPicturesModel", "layFlat", "(IIIIIII)V"⟩, 39), (⟨"BentPicturesModel", "isSurface", "(I)Z"⟩, 39)]
theorem lw_r1 : ∀ q ∈ lw_privs_1, lw_okq q := List.forall_mem_cons.mpr ⟨lw_p0, List.forall_mem_cons.mpr ⟨lw_p1, List.forall_mem_cons.mpr ⟨lw_p2, List.forall_mem_cons.mpr ⟨lw_p3, List.forall_mem_cons.mpr ⟨lw_p4, List.forall_mem_cons.mpr ⟨lw_p5, List.forall_mem_cons.mpr ⟨lw_p6, List.forall_mem_cons.mpr ⟨lw_p7, List.forall_mem_cons.mpr ⟨lw_p8, List.forall_mem_cons.mpr ⟨lw_p9, List.forall_mem_cons.mpr ⟨lw_p10, List.forall_mem_cons.mpr ⟨lw_p11, List.forall_mem_cons.mpr ⟨lw_p12, List.forall_mem_cons.mpr ⟨lw_p13, List.forall_mem_cons.mpr ⟨lw_p14, List.forall_mem_cons.mpr ⟨lw_p15, fun _ h => absurd h List.not_mem_nil⟩⟩⟩⟩⟩⟩⟩⟩⟩⟩⟩⟩⟩⟩⟩⟩
theorem lw_p16 : lw_okq (⟨"BentPicturesModel", "painted", "(I)I"⟩, 39) := ⟨⟨by decide +kernel, by decide +kernel⟩, List.mem_of_getElem? (i := 936) (by decide +kernel), List.mem_of_getElem? (i := 1083) (by decide +kernel), List.mem_of_getElem? (i := 1084) (by decide +kernel)⟩
theorem lw_p17 : lw_okq (⟨"BentPicturesModel", "cellsOf", "(I)I"⟩, 39) := ⟨⟨by decide +kernel, by decide +kernel⟩, List.mem_of_getElem? (i := 936) (by decide +kernel), List.mem_of_getElem? (i := 1087) (by decide +kernel), List.mem_of_getElem? (i := 1088) (by decide +kernel)⟩
theorem lw_p18 : lw_okq (⟨"BentPicturesModel", "boardCells", "()I"⟩, 39) := ⟨⟨by decide +kernel, by decide +kernel⟩, List.mem_of_getElem? (i := 936) (by decide +kernel), List.mem_of_getElem? (i := 1115) (by decide +kernel), List.mem_of_getElem? (i := 1116) (by decide +kernel)⟩
theorem lw_p19 : lw_okq (⟨"BentPicturesModel", "needBoard", "()V"⟩, 39) := ⟨⟨by decide +kernel, by decide +kernel⟩, List.mem_of_getElem? (i := 936) (by decide +kernel), List.mem_of_getElem? (i := 1119) (by decide +kernel), List.mem_of_getElem? (i := 1120) (by decide +kernel)⟩
theorem lw_p20 : lw_okq (⟨"BentPicturesModel", "against", "(IIIII)I"⟩, 39) := ⟨⟨by decide +kernel, by decide +kernel⟩, List.mem_of_getElem? (i := 936) (by decide +kernel), List.mem_of_getElem? (i := 1123) (by decide +kernel), List.mem_of_getElem? (i := 1124) (by decide +kernel)⟩
theorem lw_p21 : lw_okq (⟨"BentPicturesModel", "fails", "(I)I"⟩, 39) := ⟨⟨by decide +kernel, by decide +kernel⟩, List.mem_of_getElem? (i := 936) (by decide +kernel), List.mem_of_getElem? (i := 1127) (by decide +kernel), List.mem_of_getElem? (i := 1128) (by decide +kernel)⟩
theorem lw_p22 : lw_okq (⟨"BentPicturesModel", "isCell", "(II)Z"⟩, 39) := ⟨⟨by decide +kernel, by decide +kernel⟩, List.mem_of_getElem? (i := 936) (by decide +kernel), List.mem_of_getElem? (i := 1139) (by decide +kernel), List.mem_of_getElem? (i := 1140) (by decide +kernel)⟩
theorem lw_p23 : lw_okq (⟨"BentPicturesModel", "isRay", "(IIIIII)Z"⟩, 39) := ⟨⟨by decide +kernel, by decide +kernel⟩, List.mem_of_getElem? (i := 936) (by decide +kernel), List.mem_of_getElem? (i := 1151) (by decide +kernel), List.mem_of_getElem? (i := 1152) (by decide +kernel)⟩
theorem lw_p24 : lw_okq (⟨"BentPicturesModel", "go", "(IIIIII)I"⟩, 39) := ⟨⟨by decide +kernel, by decide +kernel⟩, List.mem_of_getElem? (i := 936) (by decide +kernel), List.mem_of_getElem? (i := 1155) (by decide +kernel), List.mem_of_getElem? (i := 1156) (by decide +kernel)⟩
theorem lw_p25 : lw_okq (⟨"BentPicturesModel", "endOf", "()I"⟩, 39) := ⟨⟨by decide +kernel, by decide +kernel⟩, List.mem_of_getElem? (i := 936) (by decide +kernel), List.mem_of_getElem? (i := 1159) (by decide +kernel), List.mem_of_getElem? (i := 1160) (by decide +kernel)⟩
theorem lw_p26 : lw_okq (⟨"BentPicturesModel", "comesTo", "(I)I"⟩, 39) := ⟨⟨by decide +kernel, by decide +kernel⟩, List.mem_of_getElem? (i := 936) (by decide +kernel), List.mem_of_getElem? (i := 1163) (by decide +kernel), List.mem_of_getElem? (i := 1164) (by decide +kernel)⟩
theorem lw_p27 : lw_okq (⟨"BentPicturesModel", "wholeAt", "(I)J"⟩, 39) := ⟨⟨by decide +kernel, by decide +kernel⟩, List.mem_of_getElem? (i := 936) (by decide +kernel), List.mem_of_getElem? (i := 1170) (by decide +kernel), List.mem_of_getElem? (i := 1171) (by decide +kernel)⟩
theorem lw_p28 : lw_okq (⟨"BentPicturesModel", "throwsBack", "(II)Z"⟩, 39) := ⟨⟨by decide +kernel, by decide +kernel⟩, List.mem_of_getElem? (i := 936) (by decide +kernel), List.mem_of_getElem? (i := 1180) (by decide +kernel), List.mem_of_getElem? (i := 1181) (by decide +kernel)⟩
theorem lw_p29 : lw_okq (⟨"BentPicturesModel", "seenBy", "(II)I"⟩, 39) := ⟨⟨by decide +kernel, by decide +kernel⟩, List.mem_of_getElem? (i := 936) (by decide +kernel), List.mem_of_getElem? (i := 1192) (by decide +kernel), List.mem_of_getElem? (i := 1193) (by decide +kernel)⟩
theorem lw_p30 : lw_okq (⟨"BentPicturesModel", "seenFrom", "(IIII)I"⟩, 39) := ⟨⟨by decide +kernel, by decide +kernel⟩, List.mem_of_getElem? (i := 936) (by decide +kernel), List.mem_of_getElem? (i := 1196) (by decide +kernel), List.mem_of_getElem? (i := 1197) (by decide +kernel)⟩
theorem lw_p31 : lw_okq (⟨"BentPicturesModel", "findMiddle", "(II)V"⟩, 39) := ⟨⟨by decide +kernel, by decide +kernel⟩, List.mem_of_getElem? (i := 936) (by decide +kernel), List.mem_of_getElem? (i := 1200) (by decide +kernel), List.mem_of_getElem? (i := 1201) (by decide +kernel)⟩
def lw_privs_2 : List (MethodName × Nat) := [(⟨"BentPicturesModel", "painted", "(I)I"⟩, 39), (⟨"BentPicturesModel", "cellsOf", "(I)I"⟩, 39), (⟨"BentPicturesModel", "boardCells", "()I"⟩, 39), (⟨"BentPicturesModel", "needBoard", "()V"⟩, 39), (⟨"BentPicturesModel", "against", "(IIIII)I"⟩, 39), (⟨"BentPicturesModel", "fails", "(I)I"⟩, 39), (⟨"BentPicturesModel", "isCell", "(II)Z"⟩, 39), (⟨"BentPicturesModel", "isRay", "(IIIIII)Z"⟩, 39), (⟨"BentPicturesModel", "go", "(IIIIII)I"⟩, 39), (⟨"BentPicturesModel", "endOf", "()I"⟩, 39), (⟨"BentPicturesModel", "comesTo", "(I)I"⟩, 39), (⟨"BentPicturesModel", "wholeAt", "(I)J"⟩, 39), (⟨"BentPicturesModel", "throwsBack", "(II)Z"⟩, 39), (⟨"BentPicturesModel", "seenBy", "(II)I"⟩, 39), (⟨"BentPicturesModel", "seenFrom", "(IIII)I"⟩, 39), (⟨"BentPicturesModel", "findMiddle", "(II)V"⟩, 39)]
theorem lw_r2 : ∀ q ∈ lw_privs_2, lw_okq q := List.forall_mem_cons.mpr ⟨lw_p16, List.forall_mem_cons.mpr ⟨lw_p17, List.forall_mem_cons.mpr ⟨lw_p18, List.forall_mem_cons.mpr ⟨lw_p19, List.forall_mem_cons.mpr ⟨lw_p20, List.forall_mem_cons.mpr ⟨lw_p21, List.forall_mem_cons.mpr ⟨lw_p22, List.forall_mem_cons.mpr ⟨lw_p23, List.forall_mem_cons.mpr ⟨lw_p24, List.forall_mem_cons.mpr ⟨lw_p25, List.forall_mem_cons.mpr ⟨lw_p26, List.forall_mem_cons.mpr ⟨lw_p27, List.forall_mem_cons.mpr ⟨lw_p28, List.forall_mem_cons.mpr ⟨lw_p29, List.forall_mem_cons.mpr ⟨lw_p30, List.forall_mem_cons.mpr ⟨lw_p31, fun _ h => absurd h List.not_mem_nil⟩⟩⟩⟩⟩⟩⟩⟩⟩⟩⟩⟩⟩⟩⟩⟩
theorem lw_p32 : lw_okq (⟨"BentPicturesModel", "colourAt", "(I)I"⟩, 39) := ⟨⟨by decide +kernel, by decide +kernel⟩, List.mem_of_getElem? (i := 936) (by decide +kernel), List.mem_of_getElem? (i := 1211) (by decide +kernel), List.mem_of_getElem? (i := 1212) (by decide +kernel)⟩
theorem lw_p33 : lw_okq (⟨"BentPicturesModel", "allPainted", "()I"⟩, 39) := ⟨⟨by decide +kernel, by decide +kernel⟩, List.mem_of_getElem? (i := 936) (by decide +kernel), List.mem_of_getElem? (i := 1219) (by decide +kernel), List.mem_of_getElem? (i := 1220) (by decide +kernel)⟩
theorem lw_p34 : lw_okq (⟨"BentPicturesModel", "notMet", "(IIII)I"⟩, 39) := ⟨⟨by decide +kernel, by decide +kernel⟩, List.mem_of_getElem? (i := 936) (by decide +kernel), List.mem_of_getElem? (i := 1236) (by decide +kernel), List.mem_of_getElem? (i := 1237) (by decide +kernel)⟩
theorem lw_p35 : lw_okq (⟨"BentPicturesModel", "isHour", "(I)Z"⟩, 39) := ⟨⟨by decide +kernel, by decide +kernel⟩, List.mem_of_getElem? (i := 936) (by decide +kernel), List.mem_of_getElem? (i := 1252) (by decide +kernel), List.mem_of_getElem? (i := 1253) (by decide +kernel)⟩
theorem lw_p36 : lw_okq (⟨"BentPicturesModel", "litBy", "(II)I"⟩, 39) := ⟨⟨by decide +kernel, by decide +kernel⟩, List.mem_of_getElem? (i := 936) (by decide +kernel), List.mem_of_getElem? (i := 1264) (by decide +kernel), List.mem_of_getElem? (i := 1265) (by decide +kernel)⟩
theorem lw_p37 : lw_okq (⟨"BentPicturesModel", "mayBe", "(I)Z"⟩, 39) := ⟨⟨by decide +kernel, by decide +kernel⟩, List.mem_of_getElem? (i := 936) (by decide +kernel), List.mem_of_getElem? (i := 1272) (by decide +kernel), List.mem_of_getElem? (i := 1273) (by decide +kernel)⟩
theorem lw_p38 : lw_okq (⟨"BentPicturesModel", "findFewest", "()I"⟩, 39) := ⟨⟨by decide +kernel, by decide +kernel⟩, List.mem_of_getElem? (i := 936) (by decide +kernel), List.mem_of_getElem? (i := 1280) (by decide +kernel), List.mem_of_getElem? (i := 1281) (by decide +kernel)⟩
theorem lw_p39 : lw_okq (⟨"BentPicturesModel", "doLight", "(I)Z"⟩, 39) := ⟨⟨by decide +kernel, by decide +kernel⟩, List.mem_of_getElem? (i := 936) (by decide +kernel), List.mem_of_getElem? (i := 1284) (by decide +kernel), List.mem_of_getElem? (i := 1285) (by decide +kernel)⟩
theorem lw_p40 : lw_okq (⟨"BentPicturesModel", "findBits", "()I"⟩, 39) := ⟨⟨by decide +kernel, by decide +kernel⟩, List.mem_of_getElem? (i := 936) (by decide +kernel), List.mem_of_getElem? (i := 1288) (by decide +kernel), List.mem_of_getElem? (i := 1289) (by decide +kernel)⟩
theorem lw_p41 : lw_okq (⟨"BentPicturesModel", "sumOf", "(I)I"⟩, 39) := ⟨⟨by decide +kernel, by decide +kernel⟩, List.mem_of_getElem? (i := 936) (by decide +kernel), List.mem_of_getElem? (i := 1306) (by decide +kernel), List.mem_of_getElem? (i := 1307) (by decide +kernel)⟩
theorem lw_p42 : lw_okq (⟨"BentPicturesModel", "lost", "(I)J"⟩, 39) := ⟨⟨by decide +kernel, by decide +kernel⟩, List.mem_of_getElem? (i := 936) (by decide +kernel), List.mem_of_getElem? (i := 1327) (by decide +kernel), List.mem_of_getElem? (i := 1328) (by decide +kernel)⟩
theorem lw_p43 : lw_okq (⟨"BentPicturesModel", "begins", "(I)V"⟩, 39) := ⟨⟨by decide +kernel, by decide +kernel⟩, List.mem_of_getElem? (i := 936) (by decide +kernel), List.mem_of_getElem? (i := 1335) (by decide +kernel), List.mem_of_getElem? (i := 1336) (by decide +kernel)⟩
theorem lw_p44 : lw_okq (⟨"BentPicturesModel", "wantedMany", "()I"⟩, 39) := ⟨⟨by decide +kernel, by decide +kernel⟩, List.mem_of_getElem? (i := 936) (by decide +kernel), List.mem_of_getElem? (i := 1359) (by decide +kernel), List.mem_of_getElem? (i := 1360) (by decide +kernel)⟩
def lw_privs_3 : List (MethodName × Nat) := [(⟨"BentPicturesModel", "colourAt", "(I)I"⟩, 39), (⟨"BentPicturesModel", "allPainted", "()I"⟩, 39), (⟨"BentPicturesModel", "notMet", "(IIII)I"⟩, 39), (⟨"BentPicturesModel", "isHour", "(I)Z"⟩, 39), (⟨"BentPicturesModel", "litBy", "(II)I"⟩, 39), (⟨"BentPicturesModel", "mayBe", "(I)Z"⟩, 39), (⟨"BentPicturesModel", "findFewest", "()I"⟩, 39), (⟨"BentPicturesModel", "doLight", "(I)Z"⟩, 39), (⟨"BentPicturesModel", "findBits", "()I"⟩, 39), (⟨"BentPicturesModel", "sumOf", "(I)I"⟩, 39), (⟨"BentPicturesModel", "lost", "(I)J"⟩, 39), (⟨"BentPicturesModel", "begins", "(I)V"⟩, 39), (⟨"BentPicturesModel", "wantedMany", "()I"⟩, 39)]
theorem lw_r3 : ∀ q ∈ lw_privs_3, lw_okq q := List.forall_mem_cons.mpr ⟨lw_p32, List.forall_mem_cons.mpr ⟨lw_p33, List.forall_mem_cons.mpr ⟨lw_p34, List.forall_mem_cons.mpr ⟨lw_p35, List.forall_mem_cons.mpr ⟨lw_p36, List.forall_mem_cons.mpr ⟨lw_p37, List.forall_mem_cons.mpr ⟨lw_p38, List.forall_mem_cons.mpr ⟨lw_p39, List.forall_mem_cons.mpr ⟨lw_p40, List.forall_mem_cons.mpr ⟨lw_p41, List.forall_mem_cons.mpr ⟨lw_p42, List.forall_mem_cons.mpr ⟨lw_p43, List.forall_mem_cons.mpr ⟨lw_p44, fun _ h => absurd h List.not_mem_nil⟩⟩⟩⟩⟩⟩⟩⟩⟩⟩⟩⟩⟩
def lw_privs : List (MethodName × Nat) := lw_privs_1 ++ (lw_privs_2 ++ (lw_privs_3))
def lw_tbl : List Cond := k2_sels lw_privs ++ tables_1
theorem lw_privs_ok : ∀ q ∈ lw_privs, lw_okq q := by
  show ∀ q ∈ lw_privs_1 ++ (lw_privs_2 ++ (lw_privs_3)), lw_okq q
  exact List.forall_mem_append.mpr ⟨lw_r1, List.forall_mem_append.mpr ⟨lw_r2, lw_r3⟩⟩

def RX0 : String := "BentPictures$Faint"
def TX0 : u_T := fun k => match k with
  | 0 => ("BentPictures$Wall", "number", "I", true)
  | 1 => ("BentPictures$Wall", "flat", "LBentPictures$Flat;", true)
  | _ => ("BentPictures$Wall", "colours", "[I", true)
def tyX0 : Nat → FieldType := fun k => match k with
  | 0 => .int
  | 1 => .object "BentPictures$Flat"
  | _ => .array .int
abbrev wsX00 : List Cond := u_ws RX0 TX0 3
theorem nmX0 : ∀ a, a < 3 → ∀ b, b < 3 → a ≠ b → (TX0 a).2.1 ≠ (TX0 b).2.1 := by decide +kernel
theorem tyX0_ok : ∀ k, k < 3 → parseFieldDescriptor (TX0 k).2.2.1 = some (tyX0 k) := by decide +kernel
abbrev cX0_init : ByteArray := prog_2_method_1_code
def yX0_init : MethodName := ⟨RX0, "<init>", "(ILBentPictures$Flat;)V"⟩
abbrev cX0_kind : ByteArray := prog_2_method_2_code
def yX0_kind : MethodName := ⟨RX0, "kind", "()I"⟩
abbrev cX0_takesColours : ByteArray := prog_2_method_3_code
def yX0_takesColours : MethodName := ⟨RX0, "takesColours", "()Z"⟩
abbrev cX0_throwsBack : ByteArray := prog_2_method_4_code
def yX0_throwsBack : MethodName := ⟨RX0, "throwsBack", "(I)Z"⟩
abbrev cX0_told : ByteArray := prog_2_method_5_code
def yX0_told : MethodName := ⟨RX0, "told", "(LBentPictures$Trace;)I"⟩
abbrev cX0_named : ByteArray := prog_2_method_6_code
def yX0_named : MethodName := ⟨RX0, "named", "(LBentPictures$Trace;)I"⟩
def RX1 : String := "BentPictures$Flat"
def TX1 : u_T := fun k => match k with
  | 0 => ("BentPictures$Flat", "axis", "I", true)
  | 1 => ("BentPictures$Flat", "c", "I", true)
  | 2 => ("BentPictures$Flat", "u", "I", true)
  | 3 => ("BentPictures$Flat", "v", "I", true)
  | 4 => ("BentPictures$Flat", "w", "I", true)
  | 5 => ("BentPictures$Flat", "h", "I", true)
  | 6 => ("BentPictures$Flat", "first", "I", true)
  | 7 => ("BentPictures$Flat", "second", "I", true)
  | _ => ("BentPictures$Flat", "cells", "I", true)
def tyX1 : Nat → FieldType := fun k => match k with
  | 0 => .int
  | 1 => .int
  | 2 => .int
  | 3 => .int
  | 4 => .int
  | 5 => .int
  | 6 => .int
  | 7 => .int
  | _ => .int
abbrev wsX10 : List Cond := u_ws RX1 TX1 9
theorem nmX1 : ∀ a, a < 9 → ∀ b, b < 9 → a ≠ b → (TX1 a).2.1 ≠ (TX1 b).2.1 := by decide +kernel
theorem tyX1_ok : ∀ k, k < 9 → parseFieldDescriptor (TX1 k).2.2.1 = some (tyX1 k) := by decide +kernel
abbrev cX1_init : ByteArray := prog_3_method_1_code
def yX1_init : MethodName := ⟨RX1, "<init>", "(IIIIII)V"⟩
abbrev cX1_fits : ByteArray := prog_3_method_2_code
def yX1_fits : MethodName := ⟨RX1, "fits", "(IIIIII)Z"⟩
abbrev cX1_sideFits : ByteArray := prog_3_method_3_code
def yX1_sideFits : MethodName := ⟨RX1, "sideFits", "(II)Z"⟩
abbrev cX1_has : ByteArray := prog_3_method_4_code
def yX1_has : MethodName := ⟨RX1, "has", "(I)Z"⟩
abbrev cX1_twiceMiddle : ByteArray := prog_3_method_5_code
def yX1_twiceMiddle : MethodName := ⟨RX1, "twiceMiddle", "(II)I"⟩
def RX2 : String := "BentPictures$Gallery"
def TX2 : u_T := fun k => match k with
  | 0 => ("BentPictures$Gallery", "space", "LBentPictures$Space;", true)
  | 1 => ("BentPictures$Gallery", "ray", "LBentPictures$Ray;", true)
  | 2 => ("BentPictures$Gallery", "places", "[I", true)
  | 3 => ("BentPictures$Gallery", "pictures", "[[I", true)
  | 4 => ("BentPictures$Gallery", "ends", "[I", true)
  | 5 => ("BentPictures$Gallery", "votes", "[I", true)
  | 6 => ("BentPictures$Gallery", "marks", "[J", true)
  | 7 => ("BentPictures$Gallery", "tally", "[I", true)
  | 8 => ("BentPictures$Gallery", "board", "LBentPictures$Flat;", false)
  | 9 => ("BentPictures$Gallery", "worst", "I", false)
  | 10 => ("BentPictures$Gallery", "worstX", "I", false)
  | 11 => ("BentPictures$Gallery", "worstY", "I", false)
  | 12 => ("BentPictures$Gallery", "worstZ", "I", false)
  | 13 => ("BentPictures$Gallery", "fewSet", "I", false)
  | _ => ("BentPictures$Gallery", "fewSum", "I", false)
def tyX2 : Nat → FieldType := fun k => match k with
  | 0 => .object "BentPictures$Space"
  | 1 => .object "BentPictures$Ray"
  | 2 => .array .int
  | 3 => .array (.array .int)
  | 4 => .array .int
  | 5 => .array .int
  | 6 => .array .long
  | 7 => .array .int
  | 8 => .object "BentPictures$Flat"
  | 9 => .int
  | 10 => .int
  | 11 => .int
  | 12 => .int
  | 13 => .int
  | _ => .int
abbrev wsX20 : List Cond := u_ws RX2 TX2 15
theorem nmX2 : ∀ a, a < 15 → ∀ b, b < 15 → a ≠ b → (TX2 a).2.1 ≠ (TX2 b).2.1 := by decide +kernel
theorem tyX2_ok : ∀ k, k < 15 → parseFieldDescriptor (TX2 k).2.2.1 = some (tyX2 k) := by decide +kernel
abbrev cX2_init : ByteArray := prog_4_method_1_code
def yX2_init : MethodName := ⟨RX2, "<init>", "(LBentPictures$Space;LBentPictures$Ray;)V"⟩
abbrev cX2_hasEye : ByteArray := prog_4_method_2_code
def yX2_hasEye : MethodName := ⟨RX2, "hasEye", "(I)Z"⟩
abbrev cX2_sees : ByteArray := prog_4_method_3_code
def yX2_sees : MethodName := ⟨RX2, "sees", "(II)Z"⟩
abbrev cX2_hang : ByteArray := prog_4_method_4_code
def yX2_hang : MethodName := ⟨RX2, "hang", "(LBentPictures$Flat;)I"⟩
abbrev cX2_moveEye : ByteArray := prog_4_method_5_code
def yX2_moveEye : MethodName := ⟨RX2, "moveEye", "(IIII)V"⟩
abbrev cX2_takePicture : ByteArray := prog_4_method_6_code
def yX2_takePicture : MethodName := ⟨RX2, "takePicture", "(ILBentPictures$Sheets;II)I"⟩
abbrev cX2_wished : ByteArray := prog_4_method_7_code
def yX2_wished : MethodName := ⟨RX2, "wished", "(II)I"⟩
abbrev cX2_isWish : ByteArray := prog_4_method_8_code
def yX2_isWish : MethodName := ⟨RX2, "isWish", "(III)Z"⟩
abbrev cX2_look : ByteArray := prog_4_method_9_code
def yX2_look : MethodName := ⟨RX2, "look", "(II)I"⟩
abbrev cX2_lookFrom : ByteArray := prog_4_method_10_code
def yX2_lookFrom : MethodName := ⟨RX2, "lookFrom", "(IIII)I"⟩
abbrev cX2_countWishes : ByteArray := prog_4_method_11_code
def yX2_countWishes : MethodName := ⟨RX2, "countWishes", "(II)I"⟩
abbrev cX2_fateOf : ByteArray := prog_4_method_12_code
def yX2_fateOf : MethodName := ⟨RX2, "fateOf", "(II)I"⟩
abbrev cX2_paintFor : ByteArray := prog_4_method_13_code
def yX2_paintFor : MethodName := ⟨RX2, "paintFor", "(I)V"⟩
abbrev cX2_paintWall : ByteArray := prog_4_method_14_code
def yX2_paintWall : MethodName := ⟨RX2, "paintWall", "(I)V"⟩
abbrev cX2_mostVoted : ByteArray := prog_4_method_15_code
def yX2_mostVoted : MethodName := ⟨RX2, "mostVoted", "(I)I"⟩
abbrev cX2_countIdle : ByteArray := prog_4_method_16_code
def yX2_countIdle : MethodName := ⟨RX2, "countIdle", "(I)I"⟩
abbrev cX2_findWorst : ByteArray := prog_4_method_17_code
def yX2_findWorst : MethodName := ⟨RX2, "findWorst", "(II)V"⟩
abbrev cX2_countUnmet : ByteArray := prog_4_method_18_code
def yX2_countUnmet : MethodName := ⟨RX2, "countUnmet", "(IIII)I"⟩
abbrev cX2_findFew : ByteArray := prog_4_method_19_code
def yX2_findFew : MethodName := ⟨RX2, "findFew", "(I)V"⟩
abbrev cX2_countColours : ByteArray := prog_4_method_20_code
def yX2_countColours : MethodName := ⟨RX2, "countColours", "()V"⟩
abbrev cX2_sumOfDifferences : ByteArray := prog_4_method_21_code
def yX2_sumOfDifferences : MethodName := ⟨RX2, "sumOfDifferences", "(I)I"⟩
abbrev cX2_nearestDifference : ByteArray := prog_4_method_22_code
def yX2_nearestDifference : MethodName := ⟨RX2, "nearestDifference", "(II)I"⟩
def RX3 : String := "BentPictures$Holes"
def TX3 : u_T := fun k => match k with
  | 0 => ("BentPictures$Holes", "cells", "[I", true)
  | 1 => ("BentPictures$Holes", "ends", "[I", true)
  | 2 => ("BentPictures$Holes", "low", "[J", true)
  | 3 => ("BentPictures$Holes", "high", "[J", true)
  | 4 => ("BentPictures$Holes", "restLow", "[J", true)
  | 5 => ("BentPictures$Holes", "restHigh", "[J", true)
  | 6 => ("BentPictures$Holes", "count", "I", false)
  | 7 => ("BentPictures$Holes", "brightest", "I", false)
  | _ => ("BentPictures$Holes", "chosen", "I", false)
def tyX3 : Nat → FieldType := fun k => match k with
  | 0 => .array .int
  | 1 => .array .int
  | 2 => .array .long
  | 3 => .array .long
  | 4 => .array .long
  | 5 => .array .long
  | 6 => .int
  | 7 => .int
  | _ => .int
abbrev wsX30 : List Cond := u_ws RX3 TX3 9
theorem nmX3 : ∀ a, a < 9 → ∀ b, b < 9 → a ≠ b → (TX3 a).2.1 ≠ (TX3 b).2.1 := by decide +kernel
theorem tyX3_ok : ∀ k, k < 9 → parseFieldDescriptor (TX3 k).2.2.1 = some (tyX3 k) := by decide +kernel
abbrev cX3_init : ByteArray := prog_5_method_1_code
def yX3_init : MethodName := ⟨RX3, "<init>", "()V"⟩
abbrev cX3_clear : ByteArray := prog_5_method_2_code
def yX3_clear : MethodName := ⟨RX3, "clear", "()V"⟩
abbrev cX3_isFull : ByteArray := prog_5_method_3_code
def yX3_isFull : MethodName := ⟨RX3, "isFull", "()Z"⟩
abbrev cX3_add : ByteArray := prog_5_method_4_code
def yX3_add : MethodName := ⟨RX3, "add", "(I[II)V"⟩
abbrev cX3_firstWith : ByteArray := prog_5_method_5_code
def yX3_firstWith : MethodName := ⟨RX3, "firstWith", "(II)I"⟩
abbrev cX3_choose : ByteArray := prog_5_method_6_code
def yX3_choose : MethodName := ⟨RX3, "choose", "(I)I"⟩
abbrev cX3_pick : ByteArray := prog_5_method_7_code
def yX3_pick : MethodName := ⟨RX3, "pick", "(IIIJJ)Z"⟩
abbrev cX3_isChosen : ByteArray := prog_5_method_8_code
def yX3_isChosen : MethodName := ⟨RX3, "isChosen", "(I)Z"⟩
def RX4 : String := "BentPictures$Light"
def TX4 : u_T := fun k => match k with
  | 0 => ("BentPictures$Light", "space", "LBentPictures$Space;", true)
  | 1 => ("BentPictures$Light", "ray", "LBentPictures$Ray;", true)
  | 2 => ("BentPictures$Light", "ways", "[I", true)
  | 3 => ("BentPictures$Light", "wantedCells", "[J", true)
  | 4 => ("BentPictures$Light", "shines", "[I", true)
  | 5 => ("BentPictures$Light", "holes", "LBentPictures$Holes;", true)
  | 6 => ("BentPictures$Light", "hours", "I", false)
  | _ => ("BentPictures$Light", "plateNumber", "I", false)
def tyX4 : Nat → FieldType := fun k => match k with
  | 0 => .object "BentPictures$Space"
  | 1 => .object "BentPictures$Ray"
  | 2 => .array .int
  | 3 => .array .long
  | 4 => .array .int
  | 5 => .object "BentPictures$Holes"
  | 6 => .int
  | _ => .int
abbrev wsX40 : List Cond := u_ws RX4 TX4 8
theorem nmX4 : ∀ a, a < 8 → ∀ b, b < 8 → a ≠ b → (TX4 a).2.1 ≠ (TX4 b).2.1 := by decide +kernel
theorem tyX4_ok : ∀ k, k < 8 → parseFieldDescriptor (TX4 k).2.2.1 = some (tyX4 k) := by decide +kernel
abbrev cX4_init : ByteArray := prog_6_method_1_code
def yX4_init : MethodName := ⟨RX4, "<init>", "(LBentPictures$Space;LBentPictures$Ray;)V"⟩
abbrev cX4_hasHour : ByteArray := prog_6_method_2_code
def yX4_hasHour : MethodName := ⟨RX4, "hasHour", "(I)Z"⟩
abbrev cX4_hasPlate : ByteArray := prog_6_method_3_code
def yX4_hasPlate : MethodName := ⟨RX4, "hasPlate", "()Z"⟩
abbrev cX4_addHour : ByteArray := prog_6_method_4_code
def yX4_addHour : MethodName := ⟨RX4, "addHour", "(III)I"⟩
abbrev cX4_isWanted : ByteArray := prog_6_method_5_code
def yX4_isWanted : MethodName := ⟨RX4, "isWanted", "(III)Z"⟩
abbrev cX4_turnWanted : ByteArray := prog_6_method_6_code
def yX4_turnWanted : MethodName := ⟨RX4, "turnWanted", "(III)V"⟩
abbrev cX4_countWanted : ByteArray := prog_6_method_7_code
def yX4_countWanted : MethodName := ⟨RX4, "countWanted", "()I"⟩
abbrev cX4_countWantedAt : ByteArray := prog_6_method_8_code
def yX4_countWantedAt : MethodName := ⟨RX4, "countWantedAt", "(I)I"⟩
abbrev cX4_takeWanted : ByteArray := prog_6_method_9_code
def yX4_takeWanted : MethodName := ⟨RX4, "takeWanted", "(ILBentPictures$Sheets;III)I"⟩
abbrev cX4_shine : ByteArray := prog_6_method_10_code
def yX4_shine : MethodName := ⟨RX4, "shine", "(II)I"⟩
abbrev cX4_mayHave : ByteArray := prog_6_method_11_code
def yX4_mayHave : MethodName := ⟨RX4, "mayHave", "(I)Z"⟩
abbrev cX4_findFewest : ByteArray := prog_6_method_12_code
def yX4_findFewest : MethodName := ⟨RX4, "findFewest", "()I"⟩
def RX5 : String := "BentPictures$Mirror"
def TX5 : u_T := fun k => match k with
  | 0 => ("BentPictures$Wall", "number", "I", true)
  | 1 => ("BentPictures$Wall", "flat", "LBentPictures$Flat;", true)
  | _ => ("BentPictures$Wall", "colours", "[I", true)
def tyX5 : Nat → FieldType := fun k => match k with
  | 0 => .int
  | 1 => .object "BentPictures$Flat"
  | _ => .array .int
abbrev wsX50 : List Cond := u_ws RX5 TX5 3
theorem nmX5 : ∀ a, a < 3 → ∀ b, b < 3 → a ≠ b → (TX5 a).2.1 ≠ (TX5 b).2.1 := by decide +kernel
theorem tyX5_ok : ∀ k, k < 3 → parseFieldDescriptor (TX5 k).2.2.1 = some (tyX5 k) := by decide +kernel
abbrev cX5_init : ByteArray := prog_7_method_1_code
def yX5_init : MethodName := ⟨RX5, "<init>", "(ILBentPictures$Flat;)V"⟩
abbrev cX5_kind : ByteArray := prog_7_method_2_code
def yX5_kind : MethodName := ⟨RX5, "kind", "()I"⟩
abbrev cX5_takesColours : ByteArray := prog_7_method_3_code
def yX5_takesColours : MethodName := ⟨RX5, "takesColours", "()Z"⟩
abbrev cX5_throwsBack : ByteArray := prog_7_method_4_code
def yX5_throwsBack : MethodName := ⟨RX5, "throwsBack", "(I)Z"⟩
abbrev cX5_told : ByteArray := prog_7_method_5_code
def yX5_told : MethodName := ⟨RX5, "told", "(LBentPictures$Trace;)I"⟩
def RX6 : String := "BentPictures$Ray"
def TX6 : u_T := fun k => match k with
  | 0 => ("BentPictures$Ray", "space", "LBentPictures$Space;", true)
  | 1 => ("BentPictures$Ray", "start", "[I", true)
  | 2 => ("BentPictures$Ray", "way", "[I", true)
  | 3 => ("BentPictures$Ray", "turnOver", "I", false)
  | 4 => ("BentPictures$Ray", "turnUnder", "I", false)
  | 5 => ("BentPictures$Ray", "next", "LBentPictures$Wall;", false)
  | 6 => ("BentPictures$Ray", "nextCell", "I", false)
  | 7 => ("BentPictures$Ray", "nextOver", "I", false)
  | 8 => ("BentPictures$Ray", "nextUnder", "I", false)
  | _ => ("BentPictures$Ray", "thrown", "I", false)
def tyX6 : Nat → FieldType := fun k => match k with
  | 0 => .object "BentPictures$Space"
  | 1 => .array .int
  | 2 => .array .int
  | 3 => .int
  | 4 => .int
  | 5 => .object "BentPictures$Wall"
  | 6 => .int
  | 7 => .int
  | 8 => .int
  | _ => .int
abbrev wsX60 : List Cond := u_ws RX6 TX6 10
theorem nmX6 : ∀ a, a < 10 → ∀ b, b < 10 → a ≠ b → (TX6 a).2.1 ≠ (TX6 b).2.1 := by decide +kernel
theorem tyX6_ok : ∀ k, k < 10 → parseFieldDescriptor (TX6 k).2.2.1 = some (tyX6 k) := by decide +kernel
abbrev cX6_init : ByteArray := prog_8_method_1_code
def yX6_init : MethodName := ⟨RX6, "<init>", "(LBentPictures$Space;)V"⟩
abbrev cX6_standAt : ByteArray := prog_8_method_2_code
def yX6_standAt : MethodName := ⟨RX6, "standAt", "(III)V"⟩
abbrev cX6_headFor : ByteArray := prog_8_method_3_code
def yX6_headFor : MethodName := ⟨RX6, "headFor", "(III)V"⟩
abbrev cX6_go : ByteArray := prog_8_method_4_code
def yX6_go : MethodName := ⟨RX6, "go", "(I)I"⟩
abbrev cX6_turnBack : ByteArray := prog_8_method_5_code
def yX6_turnBack : MethodName := ⟨RX6, "turnBack", "(LBentPictures$Flat;)V"⟩
abbrev cX6_consider : ByteArray := prog_8_method_6_code
def yX6_consider : MethodName := ⟨RX6, "consider", "(LBentPictures$Wall;)V"⟩
abbrev cX6_cellAlong : ByteArray := prog_8_method_7_code
def yX6_cellAlong : MethodName := ⟨RX6, "cellAlong", "(IIII)I"⟩
def RX7 : String := "BentPictures$Sheets"
def TX7 : u_T := fun k => match k with
  | 0 => ("BentPictures$Sheets", "rows", "[[I", true)
  | 1 => ("BentPictures$Sheets", "lanes", "[I", true)
  | 2 => ("BentPictures$Sheets", "lengths", "[I", true)
  | _ => ("BentPictures$Sheets", "latestFault", "I", false)
def tyX7 : Nat → FieldType := fun k => match k with
  | 0 => .array (.array .int)
  | 1 => .array .int
  | 2 => .array .int
  | _ => .int
abbrev wsX70 : List Cond := u_ws RX7 TX7 4
theorem nmX7 : ∀ a, a < 4 → ∀ b, b < 4 → a ≠ b → (TX7 a).2.1 ≠ (TX7 b).2.1 := by decide +kernel
theorem tyX7_ok : ∀ k, k < 4 → parseFieldDescriptor (TX7 k).2.2.1 = some (tyX7 k) := by decide +kernel
abbrev cX7_init : ByteArray := prog_9_method_1_code
def yX7_init : MethodName := ⟨RX7, "<init>", "()V"⟩
abbrev cX7_has : ByteArray := prog_9_method_2_code
def yX7_has : MethodName := ⟨RX7, "has", "(I)Z"⟩
abbrev cX7_isLane : ByteArray := prog_9_method_3_code
def yX7_isLane : MethodName := ⟨RX7, "isLane", "(I)Z"⟩
abbrev cX7_laneOf : ByteArray := prog_9_method_4_code
def yX7_laneOf : MethodName := ⟨RX7, "laneOf", "(I)I"⟩
abbrev cX7_begin : ByteArray := prog_9_method_5_code
def yX7_begin : MethodName := ⟨RX7, "begin", "()V"⟩
abbrev cX7_failBy : ByteArray := prog_9_method_6_code
def yX7_failBy : MethodName := ⟨RX7, "failBy", "(I)I"⟩
abbrev cX7_renew : ByteArray := prog_9_method_7_code
def yX7_renew : MethodName := ⟨RX7, "renew", "(III)V"⟩
abbrev cX7_drop : ByteArray := prog_9_method_8_code
def yX7_drop : MethodName := ⟨RX7, "drop", "(I)Z"⟩
abbrev cX7_faultOfTaking : ByteArray := prog_9_method_9_code
def yX7_faultOfTaking : MethodName := ⟨RX7, "faultOfTaking", "(IIIJ)I"⟩
abbrev cX7_read : ByteArray := prog_9_method_10_code
def yX7_read : MethodName := ⟨RX7, "read", "(II)I"⟩
abbrev cX7_write : ByteArray := prog_9_method_11_code
def yX7_write : MethodName := ⟨RX7, "write", "(III)V"⟩
def RX8 : String := "BentPictures$Space"
def TX8 : u_T := fun k => match k with
  | 0 => ("BentPictures$Space", "walls", "[LBentPictures$Wall;", true)
  | _ => ("BentPictures$Space", "surfaces", "I", false)
def tyX8 : Nat → FieldType := fun k => match k with
  | 0 => .array (.object "BentPictures$Wall")
  | _ => .int
abbrev wsX80 : List Cond := u_ws RX8 TX8 2
theorem nmX8 : ∀ a, a < 2 → ∀ b, b < 2 → a ≠ b → (TX8 a).2.1 ≠ (TX8 b).2.1 := by decide +kernel
theorem tyX8_ok : ∀ k, k < 2 → parseFieldDescriptor (TX8 k).2.2.1 = some (tyX8 k) := by decide +kernel
abbrev cX8_init : ByteArray := prog_10_method_1_code
def yX8_init : MethodName := ⟨RX8, "<init>", "()V"⟩
abbrev cX8_isFull : ByteArray := prog_10_method_2_code
def yX8_isFull : MethodName := ⟨RX8, "isFull", "()Z"⟩
abbrev cX8_add : ByteArray := prog_10_method_3_code
def yX8_add : MethodName := ⟨RX8, "add", "(ILBentPictures$Flat;)I"⟩
abbrev cX8_wall : ByteArray := prog_10_method_4_code
def yX8_wall : MethodName := ⟨RX8, "wall", "(I)LBentPictures$Wall;"⟩
abbrev cX8_hasCell : ByteArray := prog_10_method_5_code
def yX8_hasCell : MethodName := ⟨RX8, "hasCell", "(II)Z"⟩
abbrev cX8_colourOf : ByteArray := prog_10_method_6_code
def yX8_colourOf : MethodName := ⟨RX8, "colourOf", "(I)I"⟩
abbrev cX8_countCells : ByteArray := prog_10_method_7_code
def yX8_countCells : MethodName := ⟨RX8, "countCells", "()I"⟩
abbrev cX8_countTakers : ByteArray := prog_10_method_8_code
def yX8_countTakers : MethodName := ⟨RX8, "countTakers", "()I"⟩
abbrev cX8_notBare : ByteArray := prog_10_method_9_code
def yX8_notBare : MethodName := ⟨RX8, "notBare", "()I"⟩
abbrev cX8_becomeBare : ByteArray := prog_10_method_10_code
def yX8_becomeBare : MethodName := ⟨RX8, "becomeBare", "()V"⟩
def RX9 : String := "BentPictures$Trace"
def TX9 : u_T := fun k => match k with
  | _ => ("BentPictures$Trace", "value", "I", false)
def tyX9 : Nat → FieldType := fun k => match k with
  | _ => .int
abbrev wsX90 : List Cond := u_ws RX9 TX9 1
theorem nmX9 : ∀ a, a < 1 → ∀ b, b < 1 → a ≠ b → (TX9 a).2.1 ≠ (TX9 b).2.1 := by decide +kernel
theorem tyX9_ok : ∀ k, k < 1 → parseFieldDescriptor (TX9 k).2.2.1 = some (tyX9 k) := by decide +kernel
abbrev cX9_init : ByteArray := prog_11_method_1_code
def yX9_init : MethodName := ⟨RX9, "<init>", "()V"⟩
abbrev cX9_leave : ByteArray := prog_11_method_2_code
def yX9_leave : MethodName := ⟨RX9, "leave", "(I)V"⟩
def RX10 : String := "BentPictures$Wall"
def TX10 : u_T := fun k => match k with
  | 0 => ("BentPictures$Wall", "number", "I", true)
  | 1 => ("BentPictures$Wall", "flat", "LBentPictures$Flat;", true)
  | _ => ("BentPictures$Wall", "colours", "[I", true)
def tyX10 : Nat → FieldType := fun k => match k with
  | 0 => .int
  | 1 => .object "BentPictures$Flat"
  | _ => .array .int
abbrev wsX100 : List Cond := u_ws RX10 TX10 3
theorem nmX10 : ∀ a, a < 3 → ∀ b, b < 3 → a ≠ b → (TX10 a).2.1 ≠ (TX10 b).2.1 := by decide +kernel
theorem tyX10_ok : ∀ k, k < 3 → parseFieldDescriptor (TX10 k).2.2.1 = some (tyX10 k) := by decide +kernel
abbrev cX10_init : ByteArray := prog_12_method_1_code
def yX10_init : MethodName := ⟨RX10, "<init>", "(ILBentPictures$Flat;)V"⟩
abbrev cX10_kind : ByteArray := prog_12_method_2_code
def yX10_kind : MethodName := ⟨RX10, "kind", "()I"⟩
abbrev cX10_takesColours : ByteArray := prog_12_method_3_code
def yX10_takesColours : MethodName := ⟨RX10, "takesColours", "()Z"⟩
abbrev cX10_throwsBack : ByteArray := prog_12_method_4_code
def yX10_throwsBack : MethodName := ⟨RX10, "throwsBack", "(I)Z"⟩
abbrev cX10_told : ByteArray := prog_12_method_5_code
def yX10_told : MethodName := ⟨RX10, "told", "(LBentPictures$Trace;)I"⟩
abbrev cX10_toldAsWall : ByteArray := prog_12_method_6_code
def yX10_toldAsWall : MethodName := ⟨RX10, "toldAsWall", "(LBentPictures$Trace;)I"⟩
abbrev cX10_named : ByteArray := prog_12_method_7_code
def yX10_named : MethodName := ⟨RX10, "named", "(LBentPictures$Trace;)I"⟩
abbrev cX10_notBare : ByteArray := prog_12_method_8_code
def yX10_notBare : MethodName := ⟨RX10, "notBare", "()I"⟩
def RX11 : String := "BentPictures"
def TX11 : u_T := fun k => match k with
  | 0 => ("BentPictures", "trail", "LBentPictures$Trace;", true)
  | 1 => ("BentPictures", "space", "LBentPictures$Space;", true)
  | 2 => ("BentPictures", "beam", "LBentPictures$Ray;", true)
  | 3 => ("BentPictures", "gallery", "LBentPictures$Gallery;", true)
  | 4 => ("BentPictures", "light", "LBentPictures$Light;", true)
  | _ => ("BentPictures", "sheets", "LBentPictures$Sheets;", true)
def tyX11 : Nat → FieldType := fun k => match k with
  | 0 => .object "BentPictures$Trace"
  | 1 => .object "BentPictures$Space"
  | 2 => .object "BentPictures$Ray"
  | 3 => .object "BentPictures$Gallery"
  | 4 => .object "BentPictures$Light"
  | _ => .object "BentPictures$Sheets"
abbrev wsX110 : List Cond := u_ws RX11 TX11 6
theorem nmX11 : ∀ a, a < 6 → ∀ b, b < 6 → a ≠ b → (TX11 a).2.1 ≠ (TX11 b).2.1 := by decide +kernel
theorem tyX11_ok : ∀ k, k < 6 → parseFieldDescriptor (TX11 k).2.2.1 = some (tyX11 k) := by decide +kernel
abbrev cX11_init : ByteArray := prog_1_method_1_code
def yX11_init : MethodName := ⟨RX11, "<init>", "()V"⟩
abbrev cX11_surface : ByteArray := prog_1_method_2_code
def yX11_surface : MethodName := ⟨RX11, "surface", "(IIIIIII)I"⟩
abbrev cX11_about : ByteArray := prog_1_method_3_code
def yX11_about : MethodName := ⟨RX11, "about", "(II)I"⟩
abbrev cX11_board : ByteArray := prog_1_method_4_code
def yX11_board : MethodName := ⟨RX11, "board", "(IIIIII)I"⟩
abbrev cX11_eye : ByteArray := prog_1_method_5_code
def yX11_eye : MethodName := ⟨RX11, "eye", "(IIII)I"⟩
abbrev cX11_picture : ByteArray := prog_1_method_6_code
def yX11_picture : MethodName := ⟨RX11, "picture", "(IIII)I"⟩
abbrev cX11_wish : ByteArray := prog_1_method_7_code
def yX11_wish : MethodName := ⟨RX11, "wish", "(II)I"⟩
abbrev cX11_paint : ByteArray := prog_1_method_8_code
def yX11_paint : MethodName := ⟨RX11, "paint", "(III)I"⟩
abbrev cX11_colour : ByteArray := prog_1_method_9_code
def yX11_colour : MethodName := ⟨RX11, "colour", "(II)I"⟩
abbrev cX11_ray : ByteArray := prog_1_method_10_code
def yX11_ray : MethodName := ⟨RX11, "ray", "(IIIIII)I"⟩
abbrev cX11_bounces : ByteArray := prog_1_method_11_code
def yX11_bounces : MethodName := ⟨RX11, "bounces", "(IIIIII)I"⟩
abbrev cX11_seen : ByteArray := prog_1_method_12_code
def yX11_seen : MethodName := ⟨RX11, "seen", "(II)I"⟩
abbrev cX11_wishes : ByteArray := prog_1_method_13_code
def yX11_wishes : MethodName := ⟨RX11, "wishes", "(II)I"⟩
abbrev cX11_painting : ByteArray := prog_1_method_14_code
def yX11_painting : MethodName := ⟨RX11, "painting", "(I)I"⟩
abbrev cX11_wash : ByteArray := prog_1_method_15_code
def yX11_wash : MethodName := ⟨RX11, "wash", "()I"⟩
abbrev cX11_idle : ByteArray := prog_1_method_16_code
def yX11_idle : MethodName := ⟨RX11, "idle", "(I)I"⟩
abbrev cX11_sway : ByteArray := prog_1_method_17_code
def yX11_sway : MethodName := ⟨RX11, "sway", "(III)I"⟩
abbrev cX11_hour : ByteArray := prog_1_method_18_code
def yX11_hour : MethodName := ⟨RX11, "hour", "(III)I"⟩
abbrev cX11_plate : ByteArray := prog_1_method_19_code
def yX11_plate : MethodName := ⟨RX11, "plate", "(I)I"⟩
abbrev cX11_want : ByteArray := prog_1_method_20_code
def yX11_want : MethodName := ⟨RX11, "want", "(IIIZ)I"⟩
abbrev cX11_wanted : ByteArray := prog_1_method_21_code
def yX11_wanted : MethodName := ⟨RX11, "wanted", "(IIIII)I"⟩
abbrev cX11_lit : ByteArray := prog_1_method_22_code
def yX11_lit : MethodName := ⟨RX11, "lit", "(II)I"⟩
abbrev cX11_may : ByteArray := prog_1_method_23_code
def yX11_may : MethodName := ⟨RX11, "may", "(I)I"⟩
abbrev cX11_fewest : ByteArray := prog_1_method_24_code
def yX11_fewest : MethodName := ⟨RX11, "fewest", "()I"⟩
abbrev cX11_hole : ByteArray := prog_1_method_25_code
def yX11_hole : MethodName := ⟨RX11, "hole", "(I)I"⟩
abbrev cX11_few : ByteArray := prog_1_method_26_code
def yX11_few : MethodName := ⟨RX11, "few", "(II)I"⟩
abbrev cX11_sheet : ByteArray := prog_1_method_27_code
def yX11_sheet : MethodName := ⟨RX11, "sheet", "(III)I"⟩
abbrev cX11_lose : ByteArray := prog_1_method_28_code
def yX11_lose : MethodName := ⟨RX11, "lose", "(I)I"⟩
abbrev cX11_put : ByteArray := prog_1_method_29_code
def yX11_put : MethodName := ⟨RX11, "put", "(III)I"⟩
abbrev cX11_at : ByteArray := prog_1_method_30_code
def yX11_at : MethodName := ⟨RX11, "at", "(III)J"⟩
abbrev cX11_tell : ByteArray := prog_1_method_31_code
def yX11_tell : MethodName := ⟨RX11, "tell", "(I)I"⟩
abbrev cX11_name : ByteArray := prog_1_method_32_code
def yX11_name : MethodName := ⟨RX11, "name", "(I)I"⟩
abbrev cX11_as : ByteArray := prog_1_method_33_code
def yX11_as : MethodName := ⟨RX11, "as", "(II)I"⟩
abbrev cX11_trace : ByteArray := prog_1_method_34_code
def yX11_trace : MethodName := ⟨RX11, "trace", "()I"⟩
abbrev cX11_fault : ByteArray := prog_1_method_35_code
def yX11_fault : MethodName := ⟨RX11, "fault", "()I"⟩
abbrev cX11_many : ByteArray := prog_1_method_36_code
def yX11_many : MethodName := ⟨RX11, "many", "(I)I"⟩
abbrev cX11_within : ByteArray := prog_1_method_37_code
def yX11_within : MethodName := ⟨RX11, "within", "(III)Z"⟩
abbrev cX11_isPlace : ByteArray := prog_1_method_38_code
def yX11_isPlace : MethodName := ⟨RX11, "isPlace", "(III)Z"⟩
abbrev cX11_isDirection : ByteArray := prog_1_method_39_code
def yX11_isDirection : MethodName := ⟨RX11, "isDirection", "(IIII)Z"⟩
abbrev cX11_isColour : ByteArray := prog_1_method_40_code
def yX11_isColour : MethodName := ⟨RX11, "isColour", "(I)Z"⟩
abbrev cX11_isSetOfEyes : ByteArray := prog_1_method_41_code
def yX11_isSetOfEyes : MethodName := ⟨RX11, "isSetOfEyes", "(I)Z"⟩
def RX12 : String := "BentPicturesModel"
def TX12 : u_T := fun k => match k with
  | 0 => ("BentPicturesModel", "fault", "I", false)
  | 1 => ("BentPicturesModel", "trace", "I", false)
  | 2 => ("BentPicturesModel", "surfaces", "I", false)
  | 3 => ("BentPicturesModel", "kinds", "[I", true)
  | 4 => ("BentPicturesModel", "flat", "[I", true)
  | 5 => ("BentPicturesModel", "colours", "[I", true)
  | 6 => ("BentPicturesModel", "eyes", "[I", true)
  | 7 => ("BentPicturesModel", "pictures", "[I", true)
  | 8 => ("BentPicturesModel", "isBoard", "Z", false)
  | 9 => ("BentPicturesModel", "lanes", "[I", true)
  | 10 => ("BentPicturesModel", "sheetLong", "[I", true)
  | 11 => ("BentPicturesModel", "cells", "[I", true)
  | 12 => ("BentPicturesModel", "place", "[I", true)
  | 13 => ("BentPicturesModel", "way", "[I", true)
  | 14 => ("BentPicturesModel", "fine", "I", false)
  | 15 => ("BentPicturesModel", "without", "I", false)
  | 16 => ("BentPicturesModel", "backs", "I", false)
  | 17 => ("BentPicturesModel", "lastUp", "J", false)
  | 18 => ("BentPicturesModel", "lastDown", "J", false)
  | 19 => ("BentPicturesModel", "upNow", "J", false)
  | 20 => ("BentPicturesModel", "downNow", "J", false)
  | 21 => ("BentPicturesModel", "middle", "[I", true)
  | 22 => ("BentPicturesModel", "wants", "[I", true)
  | 23 => ("BentPicturesModel", "isSeen", "[Z", true)
  | 24 => ("BentPicturesModel", "hours", "I", false)
  | 25 => ("BentPicturesModel", "lights", "[I", true)
  | 26 => ("BentPicturesModel", "plate", "I", false)
  | 27 => ("BentPicturesModel", "isWanted", "[Z", true)
  | 28 => ("BentPicturesModel", "holeMany", "I", false)
  | 29 => ("BentPicturesModel", "holes", "[I", true)
  | 30 => ("BentPicturesModel", "lightsUp", "[I", true)
  | 31 => ("BentPicturesModel", "isLit", "[Z", true)
  | 32 => ("BentPicturesModel", "chosen", "[I", true)
  | 33 => ("BentPicturesModel", "lowOf", "[J", true)
  | 34 => ("BentPicturesModel", "highOf", "[J", true)
  | 35 => ("BentPicturesModel", "bitOf", "[I", true)
  | 36 => ("BentPicturesModel", "often", "[I", true)
  | 37 => ("BentPicturesModel", "bestSet", "I", false)
  | _ => ("BentPicturesModel", "bestSum", "I", false)
def tyX12 : Nat → FieldType := fun k => match k with
  | 0 => .int
  | 1 => .int
  | 2 => .int
  | 3 => .array .int
  | 4 => .array .int
  | 5 => .array .int
  | 6 => .array .int
  | 7 => .array .int
  | 8 => .boolean
  | 9 => .array .int
  | 10 => .array .int
  | 11 => .array .int
  | 12 => .array .int
  | 13 => .array .int
  | 14 => .int
  | 15 => .int
  | 16 => .int
  | 17 => .long
  | 18 => .long
  | 19 => .long
  | 20 => .long
  | 21 => .array .int
  | 22 => .array .int
  | 23 => .array .boolean
  | 24 => .int
  | 25 => .array .int
  | 26 => .int
  | 27 => .array .boolean
  | 28 => .int
  | 29 => .array .int
  | 30 => .array .int
  | 31 => .array .boolean
  | 32 => .array .int
  | 33 => .array .long
  | 34 => .array .long
  | 35 => .array .int
  | 36 => .array .int
  | 37 => .int
  | _ => .int
abbrev wsX120 : List Cond := u_ws RX12 TX12 39
theorem nmX12 : ∀ a, a < 39 → ∀ b, b < 39 → a ≠ b → (TX12 a).2.1 ≠ (TX12 b).2.1 := by decide +kernel
theorem tyX12_ok : ∀ k, k < 39 → parseFieldDescriptor (TX12 k).2.2.1 = some (tyX12 k) := by decide +kernel
abbrev cX12_init : ByteArray := prog_14_method_1_code
def yX12_init : MethodName := ⟨RX12, "<init>", "()V"⟩
abbrev cX12_fails : ByteArray := prog_14_method_3_code
def yX12_fails : MethodName := ⟨RX12, "fails", "(I)I"⟩
abbrev cX12_lost : ByteArray := prog_14_method_4_code
def yX12_lost : MethodName := ⟨RX12, "lost", "(I)J"⟩
abbrev cX12_within : ByteArray := prog_14_method_5_code
def yX12_within : MethodName := ⟨RX12, "within", "(III)Z"⟩
abbrev cX12_isFlat : ByteArray := prog_14_method_6_code
def yX12_isFlat : MethodName := ⟨RX12, "isFlat", "(IIIIII)Z"⟩
abbrev cX12_layFlat : ByteArray := prog_14_method_7_code
def yX12_layFlat : MethodName := ⟨RX12, "layFlat", "(IIIIIII)V"⟩
abbrev cX12_cellsOf : ByteArray := prog_14_method_8_code
def yX12_cellsOf : MethodName := ⟨RX12, "cellsOf", "(I)I"⟩
abbrev cX12_isSurface : ByteArray := prog_14_method_9_code
def yX12_isSurface : MethodName := ⟨RX12, "isSurface", "(I)Z"⟩
abbrev cX12_isCell : ByteArray := prog_14_method_10_code
def yX12_isCell : MethodName := ⟨RX12, "isCell", "(II)Z"⟩
abbrev cX12_needBoard : ByteArray := prog_14_method_11_code
def yX12_needBoard : MethodName := ⟨RX12, "needBoard", "()V"⟩
abbrev cX12_boardCells : ByteArray := prog_14_method_12_code
def yX12_boardCells : MethodName := ⟨RX12, "boardCells", "()I"⟩
abbrev cX12_surface : ByteArray := prog_14_method_13_code
def yX12_surface : MethodName := ⟨RX12, "surface", "(IIIIIII)I"⟩
abbrev cX12_painted : ByteArray := prog_14_method_14_code
def yX12_painted : MethodName := ⟨RX12, "painted", "(I)I"⟩
abbrev cX12_about : ByteArray := prog_14_method_15_code
def yX12_about : MethodName := ⟨RX12, "about", "(II)I"⟩
abbrev cX12_board : ByteArray := prog_14_method_16_code
def yX12_board : MethodName := ⟨RX12, "board", "(IIIIII)I"⟩
abbrev cX12_isEye : ByteArray := prog_14_method_17_code
def yX12_isEye : MethodName := ⟨RX12, "isEye", "(I)Z"⟩
abbrev cX12_isPlace : ByteArray := prog_14_method_18_code
def yX12_isPlace : MethodName := ⟨RX12, "isPlace", "(III)Z"⟩
abbrev cX12_eye : ByteArray := prog_14_method_19_code
def yX12_eye : MethodName := ⟨RX12, "eye", "(IIII)I"⟩
abbrev cX12_against : ByteArray := prog_14_method_20_code
def yX12_against : MethodName := ⟨RX12, "against", "(IIIII)I"⟩
abbrev cX12_isSheet : ByteArray := prog_14_method_21_code
def yX12_isSheet : MethodName := ⟨RX12, "isSheet", "(I)Z"⟩
abbrev cX12_isLane : ByteArray := prog_14_method_22_code
def yX12_isLane : MethodName := ⟨RX12, "isLane", "(I)Z"⟩
abbrev cX12_picture : ByteArray := prog_14_method_23_code
def yX12_picture : MethodName := ⟨RX12, "picture", "(IIII)I"⟩
abbrev cX12_wish : ByteArray := prog_14_method_24_code
def yX12_wish : MethodName := ⟨RX12, "wish", "(II)I"⟩
abbrev cX12_paint : ByteArray := prog_14_method_25_code
def yX12_paint : MethodName := ⟨RX12, "paint", "(III)I"⟩
abbrev cX12_colour : ByteArray := prog_14_method_26_code
def yX12_colour : MethodName := ⟨RX12, "colour", "(II)I"⟩
abbrev cX12_floorOf : ByteArray := prog_14_method_27_code
def yX12_floorOf : MethodName := ⟨RX12, "floorOf", "(JJ)J"⟩
abbrev cX12_firstOther : ByteArray := prog_14_method_28_code
def yX12_firstOther : MethodName := ⟨RX12, "firstOther", "(I)I"⟩
abbrev cX12_secondOther : ByteArray := prog_14_method_29_code
def yX12_secondOther : MethodName := ⟨RX12, "secondOther", "(I)I"⟩
abbrev cX12_wholeAt : ByteArray := prog_14_method_30_code
def yX12_wholeAt : MethodName := ⟨RX12, "wholeAt", "(I)J"⟩
abbrev cX12_comesTo : ByteArray := prog_14_method_31_code
def yX12_comesTo : MethodName := ⟨RX12, "comesTo", "(I)I"⟩
abbrev cX12_throwsBack : ByteArray := prog_14_method_32_code
def yX12_throwsBack : MethodName := ⟨RX12, "throwsBack", "(II)Z"⟩
abbrev cX12_endOf : ByteArray := prog_14_method_33_code
def yX12_endOf : MethodName := ⟨RX12, "endOf", "()I"⟩
abbrev cX12_isRay : ByteArray := prog_14_method_34_code
def yX12_isRay : MethodName := ⟨RX12, "isRay", "(IIIIII)Z"⟩
abbrev cX12_go : ByteArray := prog_14_method_35_code
def yX12_go : MethodName := ⟨RX12, "go", "(IIIIII)I"⟩
abbrev cX12_ray : ByteArray := prog_14_method_36_code
def yX12_ray : MethodName := ⟨RX12, "ray", "(IIIIII)I"⟩
abbrev cX12_bounces : ByteArray := prog_14_method_37_code
def yX12_bounces : MethodName := ⟨RX12, "bounces", "(IIIIII)I"⟩
abbrev cX12_findMiddle : ByteArray := prog_14_method_38_code
def yX12_findMiddle : MethodName := ⟨RX12, "findMiddle", "(II)V"⟩
abbrev cX12_seenFrom : ByteArray := prog_14_method_39_code
def yX12_seenFrom : MethodName := ⟨RX12, "seenFrom", "(IIII)I"⟩
abbrev cX12_seenBy : ByteArray := prog_14_method_40_code
def yX12_seenBy : MethodName := ⟨RX12, "seenBy", "(II)I"⟩
abbrev cX12_seen : ByteArray := prog_14_method_41_code
def yX12_seen : MethodName := ⟨RX12, "seen", "(II)I"⟩
abbrev cX12_areEyes : ByteArray := prog_14_method_42_code
def yX12_areEyes : MethodName := ⟨RX12, "areEyes", "(I)Z"⟩
abbrev cX12_colourAt : ByteArray := prog_14_method_43_code
def yX12_colourAt : MethodName := ⟨RX12, "colourAt", "(I)I"⟩
abbrev cX12_wishes : ByteArray := prog_14_method_44_code
def yX12_wishes : MethodName := ⟨RX12, "wishes", "(II)I"⟩
abbrev cX12_allPainted : ByteArray := prog_14_method_45_code
def yX12_allPainted : MethodName := ⟨RX12, "allPainted", "()I"⟩
abbrev cX12_wash : ByteArray := prog_14_method_46_code
def yX12_wash : MethodName := ⟨RX12, "wash", "()I"⟩
abbrev cX12_painting : ByteArray := prog_14_method_47_code
def yX12_painting : MethodName := ⟨RX12, "painting", "(I)I"⟩
abbrev cX12_idle : ByteArray := prog_14_method_48_code
def yX12_idle : MethodName := ⟨RX12, "idle", "(I)I"⟩
abbrev cX12_notMet : ByteArray := prog_14_method_49_code
def yX12_notMet : MethodName := ⟨RX12, "notMet", "(IIII)I"⟩
abbrev cX12_sway : ByteArray := prog_14_method_50_code
def yX12_sway : MethodName := ⟨RX12, "sway", "(III)I"⟩
abbrev cX12_hour : ByteArray := prog_14_method_51_code
def yX12_hour : MethodName := ⟨RX12, "hour", "(III)I"⟩
abbrev cX12_plate : ByteArray := prog_14_method_52_code
def yX12_plate : MethodName := ⟨RX12, "plate", "(I)I"⟩
abbrev cX12_isHour : ByteArray := prog_14_method_53_code
def yX12_isHour : MethodName := ⟨RX12, "isHour", "(I)Z"⟩
abbrev cX12_want : ByteArray := prog_14_method_54_code
def yX12_want : MethodName := ⟨RX12, "want", "(IIIZ)I"⟩
abbrev cX12_wanted : ByteArray := prog_14_method_55_code
def yX12_wanted : MethodName := ⟨RX12, "wanted", "(IIIII)I"⟩
abbrev cX12_litBy : ByteArray := prog_14_method_56_code
def yX12_litBy : MethodName := ⟨RX12, "litBy", "(II)I"⟩
abbrev cX12_lit : ByteArray := prog_14_method_57_code
def yX12_lit : MethodName := ⟨RX12, "lit", "(II)I"⟩
abbrev cX12_mayBe : ByteArray := prog_14_method_58_code
def yX12_mayBe : MethodName := ⟨RX12, "mayBe", "(I)Z"⟩
abbrev cX12_may : ByteArray := prog_14_method_59_code
def yX12_may : MethodName := ⟨RX12, "may", "(I)I"⟩
abbrev cX12_doLight : ByteArray := prog_14_method_60_code
def yX12_doLight : MethodName := ⟨RX12, "doLight", "(I)Z"⟩
abbrev cX12_wantedMany : ByteArray := prog_14_method_61_code
def yX12_wantedMany : MethodName := ⟨RX12, "wantedMany", "()I"⟩
abbrev cX12_isOn : ByteArray := prog_14_method_62_code
def yX12_isOn : MethodName := ⟨RX12, "isOn", "(JJI)Z"⟩
abbrev cX12_findBits : ByteArray := prog_14_method_63_code
def yX12_findBits : MethodName := ⟨RX12, "findBits", "()I"⟩
abbrev cX12_findFewest : ByteArray := prog_14_method_64_code
def yX12_findFewest : MethodName := ⟨RX12, "findFewest", "()I"⟩
abbrev cX12_fewest : ByteArray := prog_14_method_65_code
def yX12_fewest : MethodName := ⟨RX12, "fewest", "()I"⟩
abbrev cX12_hole : ByteArray := prog_14_method_66_code
def yX12_hole : MethodName := ⟨RX12, "hole", "(I)I"⟩
abbrev cX12_sizeOf : ByteArray := prog_14_method_67_code
def yX12_sizeOf : MethodName := ⟨RX12, "sizeOf", "(I)I"⟩
abbrev cX12_sumOf : ByteArray := prog_14_method_68_code
def yX12_sumOf : MethodName := ⟨RX12, "sumOf", "(I)I"⟩
abbrev cX12_few : ByteArray := prog_14_method_69_code
def yX12_few : MethodName := ⟨RX12, "few", "(II)I"⟩
abbrev cX12_sheet : ByteArray := prog_14_method_70_code
def yX12_sheet : MethodName := ⟨RX12, "sheet", "(III)I"⟩
abbrev cX12_lose : ByteArray := prog_14_method_71_code
def yX12_lose : MethodName := ⟨RX12, "lose", "(I)I"⟩
abbrev cX12_put : ByteArray := prog_14_method_72_code
def yX12_put : MethodName := ⟨RX12, "put", "(III)I"⟩
abbrev cX12_at : ByteArray := prog_14_method_73_code
def yX12_at : MethodName := ⟨RX12, "at", "(III)J"⟩
abbrev cX12_begins : ByteArray := prog_14_method_74_code
def yX12_begins : MethodName := ⟨RX12, "begins", "(I)V"⟩
abbrev cX12_tell : ByteArray := prog_14_method_75_code
def yX12_tell : MethodName := ⟨RX12, "tell", "(I)I"⟩
abbrev cX12_name : ByteArray := prog_14_method_76_code
def yX12_name : MethodName := ⟨RX12, "name", "(I)I"⟩
abbrev cX12_as : ByteArray := prog_14_method_77_code
def yX12_as : MethodName := ⟨RX12, "as", "(II)I"⟩
abbrev cX12_trace : ByteArray := prog_14_method_78_code
def yX12_trace : MethodName := ⟨RX12, "trace", "()I"⟩
abbrev cX12_fault : ByteArray := prog_14_method_79_code
def yX12_fault : MethodName := ⟨RX12, "fault", "()I"⟩
abbrev cX12_many : ByteArray := prog_14_method_80_code
def yX12_many : MethodName := ⟨RX12, "many", "(I)I"⟩
def RJ6 : String := "java/lang/Integer"
abbrev cJ6_bitCount_0f7a4 : ByteArray := prog_15_method_49_code
def yJ6_bitCount_0f7a4 : MethodName := ⟨RJ6, "bitCount", "(I)I"⟩
def RJ13 : String := "java/lang/Long"
abbrev cJ13_bitCount_95d88 : ByteArray := prog_16_method_50_code
def yJ13_bitCount_95d88 : MethodName := ⟨RJ13, "bitCount", "(J)I"⟩
def RJ9 : String := "java/lang/Math"
abbrev cJ9_max_7cf53 : ByteArray := prog_17_method_65_code
def yJ9_max_7cf53 : MethodName := ⟨RJ9, "max", "(II)I"⟩
def RJ7 : String := "java/util/Arrays"
abbrev cJ7_rangeCheck_23922 : ByteArray := prog_18_method_30_code
def yJ7_rangeCheck_23922 : MethodName := ⟨RJ7, "rangeCheck", "(III)V"⟩
abbrev cJ7_fill_d0a16 : ByteArray := prog_18_method_101_code
def yJ7_fill_d0a16 : MethodName := ⟨RJ7, "fill", "([JJ)V"⟩
abbrev cJ7_fill_bad5a : ByteArray := prog_18_method_102_code
def yJ7_fill_bad5a : MethodName := ⟨RJ7, "fill", "([JIIJ)V"⟩
abbrev cJ7_fill_53178 : ByteArray := prog_18_method_103_code
def yJ7_fill_53178 : MethodName := ⟨RJ7, "fill", "([II)V"⟩
def RL : String := "BentPicturesLaw"
abbrev cL_law : ByteArray := code
def yL_law : MethodName := ⟨RL, "law", "([I)Z"⟩
abbrev vwCl : List vw_C := [(RX0, TX0, 3), (RX1, TX1, 9), (RX2, TX2, 15), (RX3, TX3, 9), (RX4, TX4, 8), (RX5, TX5, 3), (RX6, TX6, 10), (RX7, TX7, 4), (RX8, TX8, 2), (RX9, TX9, 1), (RX10, TX10, 3), (RX11, TX11, 6), (RX12, TX12, 39)]
end
section
/-! The abstract memory: shapes S (a class, or an array's kind and length), references P, ints I, longs J, by address and place.
Address 0 is the script; address a + 1 is the real cell base + a. -/
abbrev x_Sh : Type := Nat ⊕ (Nat × Nat)
abbrev x_S : Type := Nat → x_Sh
abbrev x_P : Type := Nat → Nat → Option Nat
abbrev x_I : Type := Nat → Nat → Int32
abbrev x_J : Type := Nat → Nat → Int64
abbrev x_K : Type := Option Value → x_S → x_P → x_I → x_J → Nat → Prop
/-- a method: its code, its locals, its name, its answer's type, its room -/
abbrev x_F : Type := ByteArray × Nat × MethodName × Option FieldType × Room
def x_u1 {α : Type} (f : Nat → α) (a : Nat) (v : α) : Nat → α := fun b => bif Nat.beq b a then v else f b
def x_u2 {α : Type} (f : Nat → Nat → α) (a k : Nat) (v : α) : Nat → Nat → α := fun b j => bif (Nat.beq b a && Nat.beq j k) then v else f b j
theorem x_bq (b a : Nat) : Nat.beq b a = decide (b = a) := by
  by_cases h : b = a
  · subst h; rw [decide_eq_true rfl]; exact Nat.beq_refl b
  · rw [decide_eq_false h]
    cases hc : Nat.beq b a with
    | true => exact absurd (Nat.eq_of_beq_eq_true hc) h
    | false => rfl
theorem x_u1_at {α : Type} (f : Nat → α) (a : Nat) (v : α) (b : Nat) : x_u1 f a v b = if b = a then v else f b := by
  unfold x_u1
  rw [x_bq]
  by_cases h : b = a <;> simp [h]
theorem x_u2_at {α : Type} (f : Nat → Nat → α) (a k : Nat) (v : α) (b j : Nat) : x_u2 f a k v b j = if b = a ∧ j = k then v else f b j := by
  unfold x_u2
  rw [x_bq, x_bq]
  by_cases h : b = a <;> by_cases h2 : j = k <;> simp [h, h2]
theorem x_u1_s {α : Type} (f : Nat → α) (a : Nat) (v : α) : x_u1 f a v a = v := by simp [x_u1_at]
theorem x_u1_n {α : Type} (f : Nat → α) {a : Nat} (v : α) {b : Nat} (h : b ≠ a) : x_u1 f a v b = f b := by simp [x_u1_at, h]
theorem x_u2_s {α : Type} (f : Nat → Nat → α) (a k : Nat) (v : α) : x_u2 f a k v a k = v := by simp [x_u2_at]
theorem x_u2_na {α : Type} (f : Nat → Nat → α) {a : Nat} (k : Nat) (v : α) {b : Nat} (j : Nat) (h : b ≠ a) : x_u2 f a k v b j = f b j := by simp [x_u2_at, h]
theorem x_u2_nr {α : Type} (f : Nat → Nat → α) {a : Nat} (k : Nat) (v : α) {b : Nat} (h : b ≠ a) : x_u2 f a k v b = f b := by funext j; simp [x_u2_at, h]
theorem x_u2_nk {α : Type} (f : Nat → Nat → α) (a : Nat) {k : Nat} (v : α) (b : Nat) {j : Nat} (h : j ≠ k) : x_u2 f a k v b j = f b j := by simp [x_u2_at, h]
/-- what a field or a place holds, by its code: 0 an int, 1 a long, 2 a reference -/
def x_fv (P : x_P) (I : x_I) (J : x_J) (t a k : Nat) : Value := match t with
  | 0 => .int (I a k)
  | 1 => .long (J a k)
  | _ => va_rf (P a k)
def x_kt (t : Nat) : FieldType := match t with
  | 0 => .int
  | 1 => .long
  | 2 => .boolean
  | 3 => .object "BentPictures$Wall"
  | _ => .array .int
def x_kc (t : Nat) : Nat := match t with
  | 0 => 0
  | 1 => 1
  | 2 => 0
  | _ => 2
def x_ad (b base a : Nat) : Nat := match a with
  | 0 => b
  | n + 1 => base + n
def x_tr (b base : Nat) (v : Value) : Value := match v with
  | .ref a => .ref (x_ad b base a)
  | w => w
theorem x_tr_cat (b base : Nat) (v : Value) : (x_tr b base v).category = v.category := by cases v <;> rfl
theorem x_ad_inj {b base a c : Nat} (hb : b < base) (h : x_ad b base a = x_ad b base c) : a = c := by
  cases a <;> cases c <;> simp [x_ad] at h <;> omega
/-- types of fields by class and place -/
def x_tc (ty : FieldType) : Nat := match ty with
  | .long => 1
  | .object _ => 2
  | .array _ => 2
  | _ => 0
def x_tys (ci : Nat) : Nat → FieldType := match ci with
  | 0 => tyX0 | 1 => tyX1 | 2 => tyX2 | 3 => tyX3 | 4 => tyX4 | 5 => tyX5 | 6 => tyX6 | 7 => tyX7 | 8 => tyX8 | 9 => tyX9 | 10 => tyX10 | 11 => tyX11 | _ => tyX12
def x_ft (ci k : Nat) : Nat := x_tc (x_tys ci k)
/-- one cell -/
def x_at (D : va_G) (U : State) (b base : Nat) (S : x_S) (P : x_P) (I : x_I) (J : x_J) (a : Nat) (H : Heap) : Prop := match S a with
  | .inl ci => ∃ r : vw_C, vwCl[ci]? = some r ∧ t_OB (x_ad b base a) (D.1 ci) r.2.2 (D.2 ci) H (fun k => x_tr b base (x_fv P I J (x_ft ci k) a k))
  | .inr (t, n) => ∃ cA : ClassId, ArrOfT U cA (x_kt t) ∧ (t = 3 → va_RA U cA (x_kt t)) ∧ H[x_ad b base a]? = some (arrV cA n (fun j => x_tr b base (x_fv P I J (x_kc t) a j)))
def x_H (D : va_G) (U : State) (b base : Nat) (S : x_S) (P : x_P) (I : x_I) (J : x_J) (n : Nat) (H : Heap) : Prop :=
  H.size = base + n ∧ (∀ a, n < a → S a = .inr (8, 0)) ∧ ∀ a, 0 < a → a ≤ n → x_at D U b base S P I J a H
/-- the locals -/
def x_L (b base : Nat) (lr : Array Slot) (nL : Nat) (ls : List (Option Value)) : Prop := lr.size = nL ∧ lv_wf lr ∧ ∀ (i : Nat) (v : Value), ls[i]? = some (some v) → lr[i]? = some (.val (x_tr b base v))
def x_c2 (v : Option Value) : Bool := match v with
  | some (.long _) => true
  | some (.double _) => true
  | _ => false
def x_kl (ls : List (Option Value)) (i : Nat) : List (Option Value) := match i with
  | 0 => ls
  | j + 1 => bif x_c2 (ls.getD j none) then ls.set j none else ls
def x_s1 (ls : List (Option Value)) (i : Nat) (v : Value) : List (Option Value) := (x_kl ls i).set i (some v)
def x_s2 (ls : List (Option Value)) (i : Nat) (v : Value) : List (Option Value) := ((x_kl ls i).set i (some v)).set (i + 1) none
def x_al (b base : Nat) (ls : List (Option Value)) : List (Nat × Value) := (List.range ls.length).filterMap (fun i => match ls[i]? with
  | some (some v) => some (i, x_tr b base v)
  | _ => none)
theorem x_al_mem {b base : Nat} {ls : List (Option Value)} {i : Nat} {v : Value} (h : ls[i]? = some (some v)) : (i, x_tr b base v) ∈ x_al b base ls := by
  refine List.mem_filterMap.mpr ⟨i, List.mem_range.mpr (List.getElem?_eq_some_iff.mp h).1, ?_⟩
  rw [h]
theorem x_al_of {b base : Nat} {ls : List (Option Value)} {q : Nat × Value} (h : q ∈ x_al b base ls) : ∃ v, ls[q.1]? = some (some v) ∧ q.2 = x_tr b base v := by
  obtain ⟨i, -, hi⟩ := List.mem_filterMap.mp h
  split at hi
  · rename_i v hv
    cases hi
    exact ⟨v, hv, rfl⟩
  · cases hi
theorem x_L.has {b base : Nat} {lr : Array Slot} {nL : Nat} {ls : List (Option Value)} (h : x_L b base lr nL ls) : lv_has lr nL (x_al b base ls) := by
  refine ⟨h.1, h.2.1, fun q hq => ?_⟩
  obtain ⟨v, h1, h2⟩ := x_al_of hq
  rw [h2]
  exact h.2.2 _ _ h1
theorem x_kl_of {ls : List (Option Value)} {i j : Nat} {w : Value} (h : (x_kl ls i)[j]? = some (some w)) : ls[j]? = some (some w) ∧ ¬ (j + 1 = i ∧ w.category = 2) := by
  cases i with
  | zero => exact ⟨h, by omega⟩
  | succ k =>
    replace h : (bif x_c2 (ls.getD k none) then ls.set k none else ls)[j]? = some (some w) := h
    cases hc : x_c2 (ls.getD k none) with
    | true =>
      rw [hc] at h
      simp only [cond_true] at h
      by_cases e : k = j
      · subst e
        rw [List.getElem?_set_self'] at h
        cases hl : ls[k]? with
        | none => rw [hl] at h; cases h
        | some z => rw [hl] at h; cases h
      · rw [List.getElem?_set_ne e] at h
        exact ⟨h, by omega⟩
    | false =>
      rw [hc] at h
      simp only [cond_false] at h
      refine ⟨h, fun ⟨e, hw⟩ => ?_⟩
      have e2 : j = k := by omega
      subst e2
      rw [List.getD_eq_getElem?_getD, h] at hc
      cases w <;> simp [Value.category, x_c2] at hw hc
theorem x_L.s1 {b base : Nat} {lr' : Array Slot} {nL : Nat} {ls : List (Option Value)} {i : Nat} {v : Value} (h : lv_has lr' nL ((i, x_tr b base v) :: (x_al b base ls).filter (fun q => !(q.1 == i) && !(q.1 + 1 == i && q.2.category == 2)))) : x_L b base lr' nL (x_s1 ls i v) := by
  refine ⟨h.1, h.2.1, fun j w hj => ?_⟩
  unfold x_s1 at hj
  by_cases e : i = j
  · subst e
    rw [List.getElem?_set_self'] at hj
    have hw : w = v := by
      cases hl : (x_kl ls i)[i]? with
      | none => rw [hl] at hj; cases hj
      | some z => rw [hl] at hj; cases hj; rfl
    subst hw
    exact h.2.2 (i, x_tr b base w) List.mem_cons_self
  · rw [List.getElem?_set_ne e] at hj
    obtain ⟨h1, h2⟩ := x_kl_of hj
    refine h.2.2 (j, x_tr b base w) (List.mem_cons_of_mem _ (List.mem_filter.mpr ⟨x_al_mem h1, ?_⟩))
    have e3 : ¬ j = i := fun q => e q.symm
    simp only [x_tr_cat, Bool.and_eq_true, Bool.not_eq_true', beq_eq_false_iff_ne, ne_eq, e3, not_false_eq_true, true_and, Bool.and_eq_false_iff]
    by_cases e4 : j + 1 = i
    · exact Or.inr (fun q => h2 ⟨e4, q⟩)
    · exact Or.inl e4
theorem x_L.s2 {b base : Nat} {lr' : Array Slot} {nL : Nat} {ls : List (Option Value)} {i : Nat} {v : Value} (h : lv_has lr' nL ((i, x_tr b base v) :: (x_al b base ls).filter (fun q => !(q.1 == i) && (!(q.1 == i + 1) && !(q.1 + 1 == i && q.2.category == 2))))) : x_L b base lr' nL (x_s2 ls i v) := by
  refine ⟨h.1, h.2.1, fun j w hj => ?_⟩
  unfold x_s2 at hj
  by_cases e5 : i + 1 = j
  · subst e5
    rw [List.getElem?_set_self'] at hj
    cases hl : ((x_kl ls i).set i (some v))[i + 1]? with
    | none => rw [hl] at hj; cases hj
    | some z => rw [hl] at hj; cases hj
  · rw [List.getElem?_set_ne e5] at hj
    by_cases e : i = j
    · subst e
      rw [List.getElem?_set_self'] at hj
      have hw : w = v := by
        cases hl : (x_kl ls i)[i]? with
        | none => rw [hl] at hj; cases hj
        | some z => rw [hl] at hj; cases hj; rfl
      subst hw
      exact h.2.2 (i, x_tr b base w) List.mem_cons_self
    · rw [List.getElem?_set_ne e] at hj
      obtain ⟨h1, h2⟩ := x_kl_of hj
      refine h.2.2 (j, x_tr b base w) (List.mem_cons_of_mem _ (List.mem_filter.mpr ⟨x_al_mem h1, ?_⟩))
      have e3 : ¬ j = i := fun q => e q.symm
      have e6 : ¬ j = i + 1 := fun q => e5 q.symm
      simp only [x_tr_cat, Bool.and_eq_true, Bool.not_eq_true', beq_eq_false_iff_ne, ne_eq, e3, e6, not_false_eq_true, true_and, Bool.and_eq_false_iff]
      by_cases e4 : j + 1 = i
      · exact Or.inr (fun q => h2 ⟨e4, q⟩)
      · exact Or.inl e4
/-- the locals at a method's entry -/
def x_en : List Value → List (Option Value)
  | [] => []
  | .long x :: vs => some (.long x) :: none :: x_en vs
  | .double x :: vs => some (.double x) :: none :: x_en vs
  | v :: vs => some v :: x_en vs

theorem x_en_cons (v : Value) (vs : List Value) : x_en (v :: vs) = if v.category = 2 then some v :: none :: x_en vs else some v :: x_en vs := by
  cases v <;> simp [x_en, Value.category]
theorem x_en_args {b base : Nat} : ∀ (vs : List Value) (i0 j : Nat) (v : Value), (x_en vs)[j]? = some (some v) → (i0 + j, x_tr b base v) ∈ lv_args i0 (vs.map (x_tr b base))
  | [], i0, j, v, h => by simp [x_en] at h
  | u :: vs, i0, j, v, h => by
    rw [x_en_cons] at h
    rw [List.map_cons]
    unfold lv_args
    rw [x_tr_cat]
    by_cases hc : u.category = 2
    · rw [if_pos hc] at h ⊢
      match j, h with
      | 0, h => cases h; exact List.mem_cons_self
      | 1, h => cases h
      | k + 2, h =>
        have := x_en_args (b := b) (base := base) vs (i0 + 2) k v h
        rw [show i0 + (k + 2) = i0 + 2 + k by omega]
        exact List.mem_cons_of_mem _ this
    · rw [if_neg hc] at h ⊢
      match j, h with
      | 0, h => cases h; exact List.mem_cons_self
      | k + 1, h =>
        have := x_en_args (b := b) (base := base) vs (i0 + 1) k v h
        rw [show i0 + (k + 1) = i0 + 1 + k by omega]
        exact List.mem_cons_of_mem _ this
theorem x_sl_len (b base : Nat) : ∀ vs : List Value, (lg_sl (vs.map (x_tr b base))).length = (x_en vs).length
  | [] => rfl
  | u :: vs => by
    have ih := x_sl_len b base vs
    unfold lg_sl at ih ⊢
    rw [List.map_cons, List.flatMap_cons, x_en_cons, x_tr_cat, List.length_append, ih]
    by_cases hc : u.category = 2
    · rw [if_pos hc, if_pos hc]; simp; omega
    · rw [if_neg hc, if_neg hc]; simp; omega
theorem x_L.entry {b base n : Nat} (vs : List Value) (k : Nat) (h : (x_en vs).length ≤ n) : x_L b base ((lg_sl (vs.map (x_tr b base)) ++ List.replicate (n - (lg_sl (vs.map (x_tr b base))).length) Slot.unset).toArray) n (x_en vs ++ List.replicate k none) := by
  have h1 := lv_entry (vs.map (x_tr b base)) (n := n) (by rw [x_sl_len]; exact h)
  refine ⟨h1.1, h1.2.1, fun i v hi => ?_⟩
  by_cases hl : i < (x_en vs).length
  · rw [List.getElem?_append_left hl] at hi
    have := x_en_args (b := b) (base := base) vs 0 i v hi
    rw [Nat.zero_add] at this
    exact h1.2.2 _ this
  · rw [List.getElem?_append_right (by omega)] at hi
    have := List.mem_of_getElem? hi
    have := (List.mem_replicate.mp this).2
    cases this
end
section
/-! The judgement x_V (the machine stands in a method, over an abstract memory), contracts x_Call, and what moves them. -/
theorem x_AOA {t : FieldType} {u U : State} {A A' : Array Value} (hvm : u.vm.Alike U.vm) (h : (Cond.arrayOver (.array t)).before A u = true) : (Cond.arrayOver (.array t)).before A' U = true := by
  simp only [Cond.before, Cond.holds, Cond.value, beq_iff_eq] at h ⊢
  cases hc : u.vm.findClass (FieldType.array t).toString with
  | none => simp [hc] at h
  | some comp =>
    simp only [hc, Option.bind_some, Option.bind_eq_some_iff, Option.map_eq_some_iff] at h
    obtain ⟨c, hi, k, hk, hb⟩ := h
    obtain ⟨k', hk', he⟩ := hvm.2.2 _ _ hk
    have hi2 : (U.vm.classes.findIdx? fun (x : Class) => match x.kind with | .array component _ => component == comp | _ => false) = some c := by
      have e0 := va_idx_bare U.vm comp
      rw [hvm.bare_eq] at e0
      exact (e0.symm.trans (va_idx_bare u.vm comp)).trans hi
    have hkind : k'.kind = k.kind := by rw [he]
    simp only [hvm.findClass, hc, Option.bind_some, Option.bind_eq_some_iff, Option.map_eq_some_iff]
    refine ⟨c, hi2, k', hk', ?_⟩
    rw [hkind]
    exact hb
def x_ok (w : Cond) : Bool := match w with
  | .fieldLinkNest _ _ _ _ _ _ => true
  | .methodLinkNest _ _ _ _ => true
  | .castable _ _ => true
  | .declares _ => true
  | .privateMethod _ => true
  | .arrayOver (.object _) => true
  | .arrayOver (.array _) => true
  | w => goodWord w
theorem x_tbl_ok : lw_tbl.all x_ok = true := by decide +kernel
theorem x_warm {w : Cond} (h : x_ok w = true) {s U : State} (hW : s.WarmedH U.vm) {a a' : Array Value} (hb : w.before a s = true) : w.before a' U = true := by
  unfold x_ok at h
  split at h
  · exact va_Nw.use rfl (va_Nw.warmF hW (va_Nw.of rfl hb))
  · exact va_Nw.use rfl (va_Nw.warmM hW (va_Nw.of rfl hb))
  · exact va_Nw.use rfl (va_Nw.warmC hW (va_Nw.of rfl hb))
  · exact va_Nw.use rfl (va_Nw.warmD hW (va_Nw.of rfl hb))
  · rename_i x
    have h2 : (Cond.privateMethod x).before a (s.setVm U.vm) = true := Cond.faceAtom_setVm hW.alike (.privateMethod x) rfl hb
    exact va_tabs (u := s.setVm U.vm) rfl rfl h2
  · exact va_AO.use (va_AO.moved hW.alike (va_AO.of hb))
  · exact x_AOA hW.alike hb
  · exact word_at hW (good_of_word h) hb
/-- what the tables say, at a state -/
def x_Wd (D : va_G) (U : State) : Prop := (∀ w ∈ lw_tbl, ∀ a : Array Value, w.before a U = true) ∧ (∀ (c : Nat) (q : vw_C), vwCl[c]? = some q → u_Kn U q.1 q.2.1 q.2.2 (D.1 c) (D.2 c)) ∧
  va_Nc RX10 RX5 U ∧ va_Nc RX10 RX0 U ∧ va_Nc RX5 RX0 U
theorem x_Wd.warm {D : va_G} {s U : State} (hW : s.WarmedH U.vm) (h : x_Wd D s) : x_Wd D U :=
  ⟨fun w hw a => x_warm (List.all_eq_true.mp x_tbl_ok w hw) hW (h.1 w hw #[]), fun c q hq => u_Kn_moved hW.alike (h.2.1 c q hq), h.2.2.1.moved hW.alike, h.2.2.2.1.moved hW.alike, h.2.2.2.2.moved hW.alike⟩
theorem x_at.moved {D : va_G} {u U : State} {b base : Nat} {S : x_S} {P : x_P} {I : x_I} {J : x_J} {a : Nat} {H : Heap} (hvm : u.vm.Alike U.vm) (h : x_at D u b base S P I J a H) : x_at D U b base S P I J a H := by
  unfold x_at at h ⊢
  split at h
  · exact h
  · obtain ⟨cA, h1, h2, h3⟩ := h
    exact ⟨cA, arrOfT_moved hvm h1, fun e => (h2 e).moved hvm, h3⟩
theorem x_H.moved {D : va_G} {u U : State} {b base : Nat} {S : x_S} {P : x_P} {I : x_I} {J : x_J} {n : Nat} {H : Heap} (hvm : u.vm.Alike U.vm) (h : x_H D u b base S P I J n H) : x_H D U b base S P I J n H :=
  ⟨h.1, h.2.1, fun a h0 h1 => (h.2.2 a h0 h1).moved hvm⟩
theorem x_at.congr {D : va_G} {U : State} {b base : Nat} {S S' : x_S} {P P' : x_P} {I I' : x_I} {J J' : x_J} {a : Nat} {H H' : Heap} (h : x_at D U b base S P I J a H) (hS : S' a = S a) (hP : P' a = P a) (hI : I' a = I a) (hJ : J' a = J a) (hH : H'[x_ad b base a]? = H[x_ad b base a]?) : x_at D U b base S' P' I' J' a H' := by
  have hv : ∀ t k, x_fv P' I' J' t a k = x_fv P I J t a k := fun t k => by
    unfold x_fv
    rw [hP, hI, hJ]
  unfold x_at at h ⊢
  rw [hS]
  split at h
  · obtain ⟨r, h1, h2⟩ := h
    exact ⟨r, h1, (h2.to (fun k _ => by rw [hv])).kept hH⟩
  · obtain ⟨cA, h1, h2, h3⟩ := h
    refine ⟨cA, h1, h2, ?_⟩
    rw [hH, h3]
    congr 2
    funext j
    rw [hv]
theorem x_H.in {D : va_G} {U : State} {b base : Nat} {S : x_S} {P : x_P} {I : x_I} {J : x_J} {n a L : Nat} {H : Heap} (h : x_H D U b base S P I J n H) (h0 : S 0 = .inr (9, L)) {z : x_Sh} (hs : S a = z) (h8 : z ≠ .inr (8, 0)) (h9 : z ≠ .inr (9, L)) : 0 < a ∧ a ≤ n := by
  refine ⟨Nat.pos_of_ne_zero fun e => ?_, Nat.not_lt.mp fun e => ?_⟩
  · subst e; exact h9 (hs.symm.trans h0)
  · exact h8 (hs.symm.trans (h.2.1 a e))
/-- one cell is written -/
theorem x_H.put {D : va_G} {U : State} {b base : Nat} {S : x_S} {P P' : x_P} {I I' : x_I} {J J' : x_J} {n a : Nat} {H H' : Heap} (hb : b < base) (h : x_H D U b base S P I J n H) (hz : H'.size = H.size) (ho : ∀ q, q ≠ x_ad b base a → H'[q]? = H[q]?) (hP : ∀ c, c ≠ a → P' c = P c) (hI : ∀ c, c ≠ a → I' c = I c) (hJ : ∀ c, c ≠ a → J' c = J c) (ha : x_at D U b base S P' I' J' a H') : x_H D U b base S P' I' J' n H' := by
  refine ⟨hz.trans h.1, h.2.1, fun c h0 h1 => ?_⟩
  by_cases e : c = a
  · subst e; exact ha
  · exact (h.2.2 c h0 h1).congr rfl (hP c e) (hI c e) (hJ c e) (ho _ fun q => e (x_ad_inj hb q))
/-- one cell is made -/
theorem x_H.new {D : va_G} {U : State} {b base : Nat} {S : x_S} {P : x_P} {I : x_I} {J : x_J} {n : Nat} {H H' : Heap} {z : x_Sh} {r : Nat → Option Nat} {f : Nat → Int32} {g : Nat → Int64} (hb : b < base) (h : x_H D U b base S P I J n H) (hz : H'.size = H.size + 1) (ho : ∀ q, q < H.size → H'[q]? = H[q]?) (ha : x_at D U b base (x_u1 S (n + 1) z) (x_u1 P (n + 1) r) (x_u1 I (n + 1) f) (x_u1 J (n + 1) g) (n + 1) H') :
    x_H D U b base (x_u1 S (n + 1) z) (x_u1 P (n + 1) r) (x_u1 I (n + 1) f) (x_u1 J (n + 1) g) (n + 1) H' := by
  refine ⟨by rw [hz, h.1]; omega, fun a h1 => ?_, fun c h0 h1 => ?_⟩
  · rw [x_u1_n _ _ (by omega)]; exact h.2.1 a (by omega)
  · by_cases e : c = n + 1
    · subst e; exact ha
    · refine (h.2.2 c h0 (by omega)).congr (x_u1_n _ _ e) (x_u1_n _ _ e) (x_u1_n _ _ e) (x_u1_n _ _ e) (ho _ ?_)
      rw [h.1]
      cases c with
      | zero => show b < _; omega
      | succ k => show base + k < _; omega
/-- inside a method -/
def x_Cx (F : x_F) (D : va_G) (b base L : Nat) (xs : Nat → Int32) (p : Program) (s : State) (m : MethodId) (meth : Method) (c : Code) : Prop :=
  p.tables.exec = Jvm.exec ∧ c.code = F.1 ∧ c.maxLocals = F.2.1 ∧ s.vm.findClass F.2.2.1.cls = some m.cls ∧ meth.locks = false ∧ meth.name = F.2.2.1.name ∧ meth.sig.returnType = F.2.2.2.1 ∧ x_Wd D s ∧ va_X b L xs s s.heap ∧ b < base ∧ base ≤ s.heap.size
def x_ro (v : Option Value) (rt : Option FieldType) (i : Instr) : Prop := match v with
  | none => i = .return_ ∧ rt = none
  | some (.int x) => i = .ireturn ∧ ∃ ty, rt = some ty ∧ narrow ty (.int x) = .int x
  | some (.long _) => i = .lreturn ∧ rt = some .long
  | some (.ref _) => i = .areturn ∧ ∃ nm, rt = some (.object nm)
  | some .null => i = .areturn ∧ ∃ nm, rt = some (.object nm)
  | _ => False
def x_A (base : Nat) : Nat → Prop := fun q => base ≤ q
def x_Rt (F : x_F) (K : x_K) (D : va_G) (b base L : Nat) (xs : Nat → Int32) (p : Program) (l : Launch) (e : Env) (s : State) (m : MethodId) (args : Array Value) (below : List Frame) (meth : Method) (c : Code) (Q : State → Prop) : Prop :=
  ∀ (v : Option Value) (S : x_S) (P : x_P) (I : x_I) (J : x_J) (n : Nat) (H : Heap) (locs : List Loc) (pc : Nat) (lr : Array Slot) (cs sl : Nat) (i : Instr), K v S P I J n → x_H D s b base S P I J n H → va_S (x_A base) s.heap H locs → S 0 = .inr (9, L) → I 0 = xs →
    decode F.1 pc = .ok (i, 1) → x_ro v F.2.2.2.1 i → cs ≤ F.2.2.2.2.cells → sl ≤ F.2.2.2.2.slots → W p l e F.2.2.2.2 s m args below meth c H locs cs sl Q (F0 m pc lr (v.toList.map (x_tr b base)))
def x_V (F : x_F) (K : x_K) (pc : Nat) (ls : List (Option Value)) (st : List Value) (S : x_S) (P : x_P) (I : x_I) (J : x_J) (n cs sl : Nat) : Prop :=
  ∀ (D : va_G) (b base L : Nat) (xs : Nat → Int32) (p : Program) (l : Launch) (e : Env) (s : State) (m : MethodId) (args : Array Value) (below : List Frame) (meth : Method) (c : Code) (H : Heap) (locs : List Loc) (Q : State → Prop) (lr : Array Slot),
    x_Cx F D b base L xs p s m meth c → x_H D s b base S P I J n H → va_S (x_A base) s.heap H locs → S 0 = .inr (9, L) → I 0 = xs → x_L b base lr F.2.1 ls → x_Rt F K D b base L xs p l e s m args below meth c Q →
    W p l e F.2.2.2.2 s m args below meth c H locs cs sl Q (F0 m pc lr (st.map (x_tr b base)))
/-- what a call needs of its start, and says of its end -/
def x_Pre (D : va_G) (b base L : Nat) (xs : Nat → Int32) (S : x_S) (P : x_P) (I : x_I) (J : x_J) (n : Nat) (U : State) : Prop := x_H D U b base S P I J n U.heap ∧ x_Wd D U ∧ va_X b L xs U U.heap ∧ b < base
def x_Q (D : va_G) (b base L : Nat) (xs : Nat → Int32) (K : x_K) : Array Value → State → Outcome → State → Prop := fun _ st oc t =>
  (∃ (v : Option Value) (S : x_S) (P : x_P) (I : x_I) (J : x_J) (n : Nat), oc = .returned (v.map (x_tr b base)) ∧ K v S P I J n ∧ x_H D t b base S P I J n t.heap ∧ S 0 = .inr (9, L) ∧ I 0 = xs) ∧ va_F (x_A base) st t
def x_Call (F : x_F) (as : List Value) (K : x_K) (S : x_S) (P : x_P) (I : x_I) (J : x_J) (n : Nat) : Prop :=
  ∀ (D : va_G) (b base L : Nat) (xs : Nat → Int32) (l : Launch), S 0 = .inr (9, L) → I 0 = xs →
    Met l F.2.2.1 [.code F.2.2.1 F.1 F.2.1 F.2.2.2.1] F.2.2.2.2 (va_Pc (as.map (x_tr b base)) (x_Pre D b base L xs S P I J n)) (x_Q D b base L xs K) F.2.2.2.2.cells F.2.2.2.2.slots (x_A base)
theorem x_Pre.blind {D : va_G} {b base L : Nat} {xs : Nat → Int32} {S : x_S} {P : x_P} {I : x_I} {J : x_J} {n : Nat} {as : List Value} : FrameBlind (va_Pc as (x_Pre D b base L xs S P I J n)) := by
  intro a U g mk h
  obtain ⟨h1, h2, h3, h4, h5⟩ := h
  exact ⟨h1, x_H.moved (u := U) (U := U.calling g mk a) (Vm.Alike.refl U.vm) h2, h3.warm (U := U.calling g mk a) (State.WarmedH.refl U), va_X.moved (u := U) (U := U.calling g mk a) (Vm.Alike.refl U.vm) h4, h5⟩
/-- a method meets its contract, if its body does from its entry -/
theorem x_intro {F : x_F} {as : List Value} {K : x_K} {S : x_S} {P : x_P} {I : x_I} {J : x_J} {n : Nat} (hy : plainName F.2.2.1.cls = true) (k : Nat) {ls : List (Option Value)} (hls : x_en as ++ List.replicate k none = ls) (hn : (x_en as).length ≤ F.2.1) (hv : x_V F K 0 ls [] S P I J n 0 0) : x_Call F as K S P I J n := by
  intro D b base L xs l h0 hI
  refine Met.ofW (cc := F.1) (maxL := F.2.1) (ret := F.2.2.2.1) hy rfl ?_
  intro p e s m args below meth c s₁ B hml hp
  obtain ⟨rfl, hH, hW, hX, hb⟩ := hp
  have hbs : base ≤ s.heap.size := by rw [hH.1]; omega
  have hlocks := B.notSynchronized
  have C : x_Cx F D b base L xs p s m meth c := ⟨B.exec, B.bytes, hml, findClass_of_methodNamed B.named, B.notSynchronized, (name_of_methodNamed B.named B.method).1, B.returns, hW, hX, hb, hbs⟩
  rw [lg_entry_eq]
  refine hv D b base L xs p l e s m _ below meth c s.heap [] _ _ C hH va_S.rf h0 hI (hls ▸ x_L.entry as k hn) ?_
  intro v S' P' I' J' n' H' locs' pc lr cs sl i hK hH' hS' h0' hI' hd hro hcs hsl
  have hq : ∀ t : State, t.heap = H' → s.WarmedH t.vm → x_Q D b base L xs K (as.map (x_tr b base)).toArray s (.returned (v.map (x_tr b base))) t := fun t ht hw =>
    ⟨⟨v, S', P', I', J', n', rfl, hK, by rw [ht]; exact hH'.moved hw.alike, h0', hI'⟩, hS'.F ht⟩
  have hf : ∀ q ∈ locs', x_A base q.base := hS'.2.2
  refine W.widen hcs hsl ?_
  unfold x_ro at hro
  split at hro
  · obtain ⟨rfl, hr⟩ := hro
    exact W.vret B.exec B.bytes (B.returns.trans hr) hq hf hd
  · obtain ⟨rfl, ty, hr, hnar⟩ := hro
    exact W.zret B.exec B.bytes (B.returns.trans hr) hnar hq hf hd
  · obtain ⟨rfl, hr⟩ := hro
    exact W.lret B.exec B.bytes (B.returns.trans hr) hq hf hd
  · obtain ⟨rfl, nm, hr⟩ := hro
    exact W.aret B.exec B.bytes (B.returns.trans hr) (Or.inl ⟨nm, rfl⟩) (Or.inr ⟨_, rfl⟩) hq hf hd
  · obtain ⟨rfl, nm, hr⟩ := hro
    exact W.aret B.exec B.bytes (B.returns.trans hr) (Or.inl ⟨nm, rfl⟩) (Or.inl rfl) hq hf hd
  · exact hro.elim
/-- a stronger end -/
theorem x_V.mono {F : x_F} {K K' : x_K} {pc : Nat} {ls : List (Option Value)} {st : List Value} {S : x_S} {P : x_P} {I : x_I} {J : x_J} {n cs sl : Nat} (h : x_V F K pc ls st S P I J n cs sl) (hK : ∀ v S P I J n, K v S P I J n → K' v S P I J n) : x_V F K' pc ls st S P I J n cs sl := by
  intro D b base L xs p l e s m args below meth c H locs Q lr C hH hS h0 hI hL hR
  exact h D b base L xs p l e s m args below meth c H locs Q lr C hH hS h0 hI hL (fun v S P I J n H locs pc lr cs sl i k => hR v S P I J n H locs pc lr cs sl i (hK v S P I J n k))
/-- behind a call -/
theorem x_run {F : x_F} {K' : x_K} {D : va_G} {b base L : Nat} {xs : Nat → Int32} {p : Program} {l : Launch} {e : Env} {R : Room} {s : State} {m : MethodId} {args : Array Value} {below : List Frame} {meth : Method} {c : Code} {H : Heap} {locs : List Loc} {cs sl mc ms pc : Nat} {lr : Array Slot} {st0 rest : List Value} {a : Array Value} {Q : State → Prop}
    (hr : va_Run p l e R s m args below meth c H locs cs sl mc ms (F0 m pc lr st0) rest (x_Q D b base L xs K' a) (x_A base)) (hS : va_S (x_A base) s.heap H locs)
    (kk : ∀ (v : Option Value) (S : x_S) (P : x_P) (I : x_I) (J : x_J) (n : Nat) (H1 : Heap) (locs1 : List Loc), K' v S P I J n → x_H D s b base S P I J n H1 → va_S (x_A base) s.heap H1 locs1 → S 0 = .inr (9, L) → I 0 = xs →
      W p l e R s m args below meth c H1 locs1 (cs + mc) (sl + ms) Q (F0 m (pc + 3) lr (v.toList.map (x_tr b base) ++ rest))) : W p l e R s m args below meth c H locs cs sl Q (F0 m pc lr st0) := by
  intro T hT X
  obtain ⟨v, st₀, t, T', L', h0, X', hL, e1, e2, ⟨⟨v', S, P, I, J, n, hv, hK, hH, hs0, hi0⟩, hz, hk⟩, st⟩ := hr T hT X
  cases hv
  rw [h0] at hz hk
  have hal : s.vm.Alike t.vm := by rw [← e2]; exact X'.warmed.alike
  obtain ⟨t2, a1, b1⟩ := kk v' S P I J n T'.heap (locs ++ L') hK (by rw [e1]; exact hH.moved hal.symm)
    ⟨Nat.le_trans hS.1 (by rw [e1]; exact hz), fun q h1 h2 => by rw [e1, hk q (Nat.lt_of_lt_of_le h1 hS.1) h2]; exact hS.2.1 q h1 h2, fun q hq => by
      rcases List.mem_append.mp hq with h | h
      · exact hS.2.2 q h
      · exact hL q h⟩ hs0 hi0 T' rfl X'
  refine ⟨t2, st t2 ?_, b1⟩
  cases v' <;> exact a1
end
section
/-! One rule an instruction, over x_V. -/
def x_d (cc : ByteArray) (len pc : Nat) (i : Instr) (pc' : Nat) : Prop := decode cc pc = .ok (i, len) ∧ pc + len = pc'
def x_j (cc : ByteArray) (pc : Nat) (i : Instr) (off : Int) (tgt pc' : Nat) : Prop := decode cc pc = .ok (i, 3) ∧ (pc : Int) + off = (tgt : Int) ∧ pc + 3 = pc'
section XRULES
variable {F : x_F} {K : x_K} {pc pc' : Nat} {ls : List (Option Value)} {st : List Value} {S : x_S} {P : x_P} {I : x_I} {J : x_J} {n cs sl : Nat}
theorem v_iconst {z : Int} {v : Int32} (hd : x_d F.1 1 pc (.iconst z) pc') (hv : Int32.ofInt z = v) (kk : x_V F K pc' ls (.int v :: st) S P I J n cs sl) : x_V F K pc ls (st) S P I J n cs sl := by
  intro D b base L xs p l e s m args below meth c H locs Q lr C hH hS h0 hI hL hR
  obtain ⟨hd1, rfl⟩ := hd
  exact lv_iconst C.1 C.2.1 hd1 hv (kk D b base L xs p l e s m args below meth c H locs Q lr C hH hS h0 hI hL hR)
theorem v_bipush {z : Int} {v : Int32} (hd : x_d F.1 2 pc (.bipush z) pc') (hv : (Int8.ofInt z).toInt32 = v) (kk : x_V F K pc' ls (.int v :: st) S P I J n cs sl) : x_V F K pc ls (st) S P I J n cs sl := by
  intro D b base L xs p l e s m args below meth c H locs Q lr C hH hS h0 hI hL hR
  obtain ⟨hd1, rfl⟩ := hd
  exact lv_bipush C.1 C.2.1 hd1 hv (kk D b base L xs p l e s m args below meth c H locs Q lr C hH hS h0 hI hL hR)
theorem v_sipush {z : Int} {v : Int32} (hd : x_d F.1 3 pc (.sipush z) pc') (hv : (Int16.ofInt z).toInt32 = v) (kk : x_V F K pc' ls (.int v :: st) S P I J n cs sl) : x_V F K pc ls (st) S P I J n cs sl := by
  intro D b base L xs p l e s m args below meth c H locs Q lr C hH hS h0 hI hL hR
  obtain ⟨hd1, rfl⟩ := hd
  exact lv_sipush C.1 C.2.1 hd1 hv (kk D b base L xs p l e s m args below meth c H locs Q lr C hH hS h0 hI hL hR)
theorem v_lconst {z : Fin 2} {v : Int64} (hd : x_d F.1 1 pc (.lconst z) pc') (hv : Int64.ofNat (z : Nat) = v) (kk : x_V F K pc' ls (.long v :: st) S P I J n cs sl) : x_V F K pc ls (st) S P I J n cs sl := by
  intro D b base L xs p l e s m args below meth c H locs Q lr C hH hS h0 hI hL hR
  obtain ⟨hd1, rfl⟩ := hd
  exact lv_lconst C.1 C.2.1 hd1 hv (kk D b base L xs p l e s m args below meth c H locs Q lr C hH hS h0 hI hL hR)
theorem v_null  (hd : x_d F.1 1 pc (.aconst_null) pc')  (kk : x_V F K pc' ls (.null :: st) S P I J n cs sl) : x_V F K pc ls (st) S P I J n cs sl := by
  intro D b base L xs p l e s m args below meth c H locs Q lr C hH hS h0 hI hL hR
  obtain ⟨hd1, rfl⟩ := hd
  exact lv_null C.1 C.2.1 hd1  (kk D b base L xs p l e s m args below meth c H locs Q lr C hH hS h0 hI hL hR)
theorem v_iadd {x y : Int32} (hd : x_d F.1 1 pc (.iadd) pc')  (kk : x_V F K pc' ls (.int (x + y) :: st) S P I J n cs sl) : x_V F K pc ls (.int y :: .int x :: st) S P I J n cs sl := by
  intro D b base L xs p l e s m args below meth c H locs Q lr C hH hS h0 hI hL hR
  obtain ⟨hd1, rfl⟩ := hd
  exact lv_iadd C.1 C.2.1 hd1  (kk D b base L xs p l e s m args below meth c H locs Q lr C hH hS h0 hI hL hR)
theorem v_isub {x y : Int32} (hd : x_d F.1 1 pc (.isub) pc')  (kk : x_V F K pc' ls (.int (x - y) :: st) S P I J n cs sl) : x_V F K pc ls (.int y :: .int x :: st) S P I J n cs sl := by
  intro D b base L xs p l e s m args below meth c H locs Q lr C hH hS h0 hI hL hR
  obtain ⟨hd1, rfl⟩ := hd
  exact lv_isub C.1 C.2.1 hd1  (kk D b base L xs p l e s m args below meth c H locs Q lr C hH hS h0 hI hL hR)
theorem v_imul {x y : Int32} (hd : x_d F.1 1 pc (.imul) pc')  (kk : x_V F K pc' ls (.int (x * y) :: st) S P I J n cs sl) : x_V F K pc ls (.int y :: .int x :: st) S P I J n cs sl := by
  intro D b base L xs p l e s m args below meth c H locs Q lr C hH hS h0 hI hL hR
  obtain ⟨hd1, rfl⟩ := hd
  exact lv_imul C.1 C.2.1 hd1  (kk D b base L xs p l e s m args below meth c H locs Q lr C hH hS h0 hI hL hR)
theorem v_iand {x y : Int32} (hd : x_d F.1 1 pc (.iand) pc')  (kk : x_V F K pc' ls (.int (x &&& y) :: st) S P I J n cs sl) : x_V F K pc ls (.int y :: .int x :: st) S P I J n cs sl := by
  intro D b base L xs p l e s m args below meth c H locs Q lr C hH hS h0 hI hL hR
  obtain ⟨hd1, rfl⟩ := hd
  exact lv_iand C.1 C.2.1 hd1  (kk D b base L xs p l e s m args below meth c H locs Q lr C hH hS h0 hI hL hR)
theorem v_ior {x y : Int32} (hd : x_d F.1 1 pc (.ior) pc')  (kk : x_V F K pc' ls (.int (x ||| y) :: st) S P I J n cs sl) : x_V F K pc ls (.int y :: .int x :: st) S P I J n cs sl := by
  intro D b base L xs p l e s m args below meth c H locs Q lr C hH hS h0 hI hL hR
  obtain ⟨hd1, rfl⟩ := hd
  exact lv_ior C.1 C.2.1 hd1  (kk D b base L xs p l e s m args below meth c H locs Q lr C hH hS h0 hI hL hR)
theorem v_ixor {x y : Int32} (hd : x_d F.1 1 pc (.ixor) pc')  (kk : x_V F K pc' ls (.int (x ^^^ y) :: st) S P I J n cs sl) : x_V F K pc ls (.int y :: .int x :: st) S P I J n cs sl := by
  intro D b base L xs p l e s m args below meth c H locs Q lr C hH hS h0 hI hL hR
  obtain ⟨hd1, rfl⟩ := hd
  exact lv_ixor C.1 C.2.1 hd1  (kk D b base L xs p l e s m args below meth c H locs Q lr C hH hS h0 hI hL hR)
theorem v_iaddN {x y : Nat} (hd : x_d F.1 1 pc (.iadd) pc')  (kk : x_V F K pc' ls (.int (nI (x + y)) :: st) S P I J n cs sl) : x_V F K pc ls (.int (nI y) :: .int (nI x) :: st) S P I J n cs sl := by
  intro D b base L xs p l e s m args below meth c H locs Q lr C hH hS h0 hI hL hR
  obtain ⟨hd1, rfl⟩ := hd
  rw [← nI_add] at kk
  exact lv_iadd C.1 C.2.1 hd1 (kk D b base L xs p l e s m args below meth c H locs Q lr C hH hS h0 hI hL hR)
theorem v_imulN {x y : Nat} (hd : x_d F.1 1 pc (.imul) pc')  (kk : x_V F K pc' ls (.int (nI (x * y)) :: st) S P I J n cs sl) : x_V F K pc ls (.int (nI y) :: .int (nI x) :: st) S P I J n cs sl := by
  intro D b base L xs p l e s m args below meth c H locs Q lr C hH hS h0 hI hL hR
  obtain ⟨hd1, rfl⟩ := hd
  rw [← pk_mul] at kk
  exact lv_imul C.1 C.2.1 hd1 (kk D b base L xs p l e s m args below meth c H locs Q lr C hH hS h0 hI hL hR)
theorem v_ladd {x y : Int64} (hd : x_d F.1 1 pc (.ladd) pc')  (kk : x_V F K pc' ls (.long (x + y) :: st) S P I J n cs sl) : x_V F K pc ls (.long y :: .long x :: st) S P I J n cs sl := by
  intro D b base L xs p l e s m args below meth c H locs Q lr C hH hS h0 hI hL hR
  obtain ⟨hd1, rfl⟩ := hd
  exact lv_ladd C.1 C.2.1 hd1  (kk D b base L xs p l e s m args below meth c H locs Q lr C hH hS h0 hI hL hR)
theorem v_lsub {x y : Int64} (hd : x_d F.1 1 pc (.lsub) pc')  (kk : x_V F K pc' ls (.long (x - y) :: st) S P I J n cs sl) : x_V F K pc ls (.long y :: .long x :: st) S P I J n cs sl := by
  intro D b base L xs p l e s m args below meth c H locs Q lr C hH hS h0 hI hL hR
  obtain ⟨hd1, rfl⟩ := hd
  exact lv_lsub C.1 C.2.1 hd1  (kk D b base L xs p l e s m args below meth c H locs Q lr C hH hS h0 hI hL hR)
theorem v_lmul {x y : Int64} (hd : x_d F.1 1 pc (.lmul) pc')  (kk : x_V F K pc' ls (.long (x * y) :: st) S P I J n cs sl) : x_V F K pc ls (.long y :: .long x :: st) S P I J n cs sl := by
  intro D b base L xs p l e s m args below meth c H locs Q lr C hH hS h0 hI hL hR
  obtain ⟨hd1, rfl⟩ := hd
  exact lv_lmul C.1 C.2.1 hd1  (kk D b base L xs p l e s m args below meth c H locs Q lr C hH hS h0 hI hL hR)
theorem v_land {x y : Int64} (hd : x_d F.1 1 pc (.land) pc')  (kk : x_V F K pc' ls (.long (x &&& y) :: st) S P I J n cs sl) : x_V F K pc ls (.long y :: .long x :: st) S P I J n cs sl := by
  intro D b base L xs p l e s m args below meth c H locs Q lr C hH hS h0 hI hL hR
  obtain ⟨hd1, rfl⟩ := hd
  exact lv_land C.1 C.2.1 hd1  (kk D b base L xs p l e s m args below meth c H locs Q lr C hH hS h0 hI hL hR)
theorem v_lor {x y : Int64} (hd : x_d F.1 1 pc (.lor) pc')  (kk : x_V F K pc' ls (.long (x ||| y) :: st) S P I J n cs sl) : x_V F K pc ls (.long y :: .long x :: st) S P I J n cs sl := by
  intro D b base L xs p l e s m args below meth c H locs Q lr C hH hS h0 hI hL hR
  obtain ⟨hd1, rfl⟩ := hd
  exact lv_lor C.1 C.2.1 hd1  (kk D b base L xs p l e s m args below meth c H locs Q lr C hH hS h0 hI hL hR)
theorem v_lxor {x y : Int64} (hd : x_d F.1 1 pc (.lxor) pc')  (kk : x_V F K pc' ls (.long (x ^^^ y) :: st) S P I J n cs sl) : x_V F K pc ls (.long y :: .long x :: st) S P I J n cs sl := by
  intro D b base L xs p l e s m args below meth c H locs Q lr C hH hS h0 hI hL hR
  obtain ⟨hd1, rfl⟩ := hd
  exact lv_lxor C.1 C.2.1 hd1  (kk D b base L xs p l e s m args below meth c H locs Q lr C hH hS h0 hI hL hR)
theorem v_idiv {x y : Int32} (hd : x_d F.1 1 pc (.idiv) pc') (hne : ¬ y = 0) (kk : x_V F K pc' ls (.int (x / y) :: st) S P I J n cs sl) : x_V F K pc ls (.int y :: .int x :: st) S P I J n cs sl := by
  intro D b base L xs p l e s m args below meth c H locs Q lr C hH hS h0 hI hL hR
  obtain ⟨hd1, rfl⟩ := hd
  exact lv_idiv C.1 C.2.1 hd1 hne (kk D b base L xs p l e s m args below meth c H locs Q lr C hH hS h0 hI hL hR)
theorem v_irem {x y : Int32} (hd : x_d F.1 1 pc (.irem) pc') (hne : ¬ y = 0) (kk : x_V F K pc' ls (.int (x - x / y * y) :: st) S P I J n cs sl) : x_V F K pc ls (.int y :: .int x :: st) S P I J n cs sl := by
  intro D b base L xs p l e s m args below meth c H locs Q lr C hH hS h0 hI hL hR
  obtain ⟨hd1, rfl⟩ := hd
  exact lv_irem C.1 C.2.1 hd1 hne (kk D b base L xs p l e s m args below meth c H locs Q lr C hH hS h0 hI hL hR)
theorem v_ldiv {x y : Int64} (hd : x_d F.1 1 pc (.ldiv) pc') (hne : ¬ y = 0) (kk : x_V F K pc' ls (.long (x / y) :: st) S P I J n cs sl) : x_V F K pc ls (.long y :: .long x :: st) S P I J n cs sl := by
  intro D b base L xs p l e s m args below meth c H locs Q lr C hH hS h0 hI hL hR
  obtain ⟨hd1, rfl⟩ := hd
  exact lv_ldiv C.1 C.2.1 hd1 hne (kk D b base L xs p l e s m args below meth c H locs Q lr C hH hS h0 hI hL hR)
theorem v_lrem {x y : Int64} (hd : x_d F.1 1 pc (.lrem) pc') (hne : ¬ y = 0) (kk : x_V F K pc' ls (.long (x - x / y * y) :: st) S P I J n cs sl) : x_V F K pc ls (.long y :: .long x :: st) S P I J n cs sl := by
  intro D b base L xs p l e s m args below meth c H locs Q lr C hH hS h0 hI hL hR
  obtain ⟨hd1, rfl⟩ := hd
  exact lv_lrem C.1 C.2.1 hd1 hne (kk D b base L xs p l e s m args below meth c H locs Q lr C hH hS h0 hI hL hR)
theorem v_ineg {x : Int32} (hd : x_d F.1 1 pc (.ineg) pc')  (kk : x_V F K pc' ls (.int (-x) :: st) S P I J n cs sl) : x_V F K pc ls (.int x :: st) S P I J n cs sl := by
  intro D b base L xs p l e s m args below meth c H locs Q lr C hH hS h0 hI hL hR
  obtain ⟨hd1, rfl⟩ := hd
  exact lv_ineg C.1 C.2.1 hd1  (kk D b base L xs p l e s m args below meth c H locs Q lr C hH hS h0 hI hL hR)
theorem v_lneg {x : Int64} (hd : x_d F.1 1 pc (.lneg) pc')  (kk : x_V F K pc' ls (.long (-x) :: st) S P I J n cs sl) : x_V F K pc ls (.long x :: st) S P I J n cs sl := by
  intro D b base L xs p l e s m args below meth c H locs Q lr C hH hS h0 hI hL hR
  obtain ⟨hd1, rfl⟩ := hd
  exact lv_lneg C.1 C.2.1 hd1  (kk D b base L xs p l e s m args below meth c H locs Q lr C hH hS h0 hI hL hR)
theorem v_ishl {x y : Int32} (hd : x_d F.1 1 pc (.ishl) pc')  (kk : x_V F K pc' ls (.int (x <<< (y &&& 31)) :: st) S P I J n cs sl) : x_V F K pc ls (.int y :: .int x :: st) S P I J n cs sl := by
  intro D b base L xs p l e s m args below meth c H locs Q lr C hH hS h0 hI hL hR
  obtain ⟨hd1, rfl⟩ := hd
  exact lv_ishl C.1 C.2.1 hd1  (kk D b base L xs p l e s m args below meth c H locs Q lr C hH hS h0 hI hL hR)
theorem v_ishr {x y : Int32} (hd : x_d F.1 1 pc (.ishr) pc')  (kk : x_V F K pc' ls (.int (x >>> (y &&& 31)) :: st) S P I J n cs sl) : x_V F K pc ls (.int y :: .int x :: st) S P I J n cs sl := by
  intro D b base L xs p l e s m args below meth c H locs Q lr C hH hS h0 hI hL hR
  obtain ⟨hd1, rfl⟩ := hd
  exact lv_ishr C.1 C.2.1 hd1  (kk D b base L xs p l e s m args below meth c H locs Q lr C hH hS h0 hI hL hR)
theorem v_iushr {x y : Int32} (hd : x_d F.1 1 pc (.iushr) pc')  (kk : x_V F K pc' ls (.int ((x.toUInt32 >>> (y.toUInt32 &&& Int32.toUInt32 31)).toInt32) :: st) S P I J n cs sl) : x_V F K pc ls (.int y :: .int x :: st) S P I J n cs sl := by
  intro D b base L xs p l e s m args below meth c H locs Q lr C hH hS h0 hI hL hR
  obtain ⟨hd1, rfl⟩ := hd
  exact lv_iushr C.1 C.2.1 hd1 rfl (kk D b base L xs p l e s m args below meth c H locs Q lr C hH hS h0 hI hL hR)
theorem v_lshl {x : Int64} {y : Int32} (hd : x_d F.1 1 pc (.lshl) pc')  (kk : x_V F K pc' ls (.long (x <<< (y.toInt64 &&& 63)) :: st) S P I J n cs sl) : x_V F K pc ls (.int y :: .long x :: st) S P I J n cs sl := by
  intro D b base L xs p l e s m args below meth c H locs Q lr C hH hS h0 hI hL hR
  obtain ⟨hd1, rfl⟩ := hd
  exact lv_lshl C.1 C.2.1 hd1 rfl (kk D b base L xs p l e s m args below meth c H locs Q lr C hH hS h0 hI hL hR)
theorem v_lshr {x : Int64} {y : Int32} (hd : x_d F.1 1 pc (.lshr) pc')  (kk : x_V F K pc' ls (.long (x >>> (y.toInt64 &&& 63)) :: st) S P I J n cs sl) : x_V F K pc ls (.int y :: .long x :: st) S P I J n cs sl := by
  intro D b base L xs p l e s m args below meth c H locs Q lr C hH hS h0 hI hL hR
  obtain ⟨hd1, rfl⟩ := hd
  exact lv_lshr C.1 C.2.1 hd1 rfl (kk D b base L xs p l e s m args below meth c H locs Q lr C hH hS h0 hI hL hR)
theorem v_lushr {x : Int64} {y : Int32} (hd : x_d F.1 1 pc (.lushr) pc')  (kk : x_V F K pc' ls (.long ((x.toUInt64 >>> (y.toInt64.toUInt64 &&& Int64.toUInt64 63)).toInt64) :: st) S P I J n cs sl) : x_V F K pc ls (.int y :: .long x :: st) S P I J n cs sl := by
  intro D b base L xs p l e s m args below meth c H locs Q lr C hH hS h0 hI hL hR
  obtain ⟨hd1, rfl⟩ := hd
  exact lv_lushr C.1 C.2.1 hd1 rfl (kk D b base L xs p l e s m args below meth c H locs Q lr C hH hS h0 hI hL hR)
theorem v_i2l {x : Int32} (hd : x_d F.1 1 pc (.i2l) pc')  (kk : x_V F K pc' ls (.long x.toInt64 :: st) S P I J n cs sl) : x_V F K pc ls (.int x :: st) S P I J n cs sl := by
  intro D b base L xs p l e s m args below meth c H locs Q lr C hH hS h0 hI hL hR
  obtain ⟨hd1, rfl⟩ := hd
  exact lv_i2l C.1 C.2.1 hd1 rfl (kk D b base L xs p l e s m args below meth c H locs Q lr C hH hS h0 hI hL hR)
theorem v_l2i {x : Int64} (hd : x_d F.1 1 pc (.l2i) pc')  (kk : x_V F K pc' ls (.int x.toInt32 :: st) S P I J n cs sl) : x_V F K pc ls (.long x :: st) S P I J n cs sl := by
  intro D b base L xs p l e s m args below meth c H locs Q lr C hH hS h0 hI hL hR
  obtain ⟨hd1, rfl⟩ := hd
  exact lv_l2i C.1 C.2.1 hd1 rfl (kk D b base L xs p l e s m args below meth c H locs Q lr C hH hS h0 hI hL hR)
theorem v_i2b {x : Int32} (hd : x_d F.1 1 pc (.i2b) pc')  (kk : x_V F K pc' ls (.int x.toInt8.toInt32 :: st) S P I J n cs sl) : x_V F K pc ls (.int x :: st) S P I J n cs sl := by
  intro D b base L xs p l e s m args below meth c H locs Q lr C hH hS h0 hI hL hR
  obtain ⟨hd1, rfl⟩ := hd
  exact lv_i2b C.1 C.2.1 hd1 rfl (kk D b base L xs p l e s m args below meth c H locs Q lr C hH hS h0 hI hL hR)
theorem v_i2s {x : Int32} (hd : x_d F.1 1 pc (.i2s) pc')  (kk : x_V F K pc' ls (.int x.toInt16.toInt32 :: st) S P I J n cs sl) : x_V F K pc ls (.int x :: st) S P I J n cs sl := by
  intro D b base L xs p l e s m args below meth c H locs Q lr C hH hS h0 hI hL hR
  obtain ⟨hd1, rfl⟩ := hd
  exact lv_i2s C.1 C.2.1 hd1 rfl (kk D b base L xs p l e s m args below meth c H locs Q lr C hH hS h0 hI hL hR)
theorem v_lcmp {x y : Int64} (hd : x_d F.1 1 pc (.lcmp) pc')  (kk : x_V F K pc' ls (.int (lg_cmp x y) :: st) S P I J n cs sl) : x_V F K pc ls (.long y :: .long x :: st) S P I J n cs sl := by
  intro D b base L xs p l e s m args below meth c H locs Q lr C hH hS h0 hI hL hR
  obtain ⟨hd1, rfl⟩ := hd
  exact W.lcmp C.1 C.2.1 hd1  (kk D b base L xs p l e s m args below meth c H locs Q lr C hH hS h0 hI hL hR)
theorem v_dup {va : Value} (hd : x_d F.1 1 pc .dup pc') (hc : va.category = 1) (kk : x_V F K pc' ls (va :: va :: st) S P I J n cs sl) : x_V F K pc ls (va :: st) S P I J n cs sl := by
  intro D b base L xs p l e s m args below meth c H locs Q lr C hH hS h0 hI hL hR
  obtain ⟨hd1, rfl⟩ := hd
  exact lv_dup C.1 C.2.1 hd1 (by rw [x_tr_cat]; exact hc) (kk D b base L xs p l e s m args below meth c H locs Q lr C hH hS h0 hI hL hR)
theorem v_pop {va : Value} (hd : x_d F.1 1 pc .pop pc') (hc : va.category = 1) (kk : x_V F K pc' ls st S P I J n cs sl) : x_V F K pc ls (va :: st) S P I J n cs sl := by
  intro D b base L xs p l e s m args below meth c H locs Q lr C hH hS h0 hI hL hR
  obtain ⟨hd1, rfl⟩ := hd
  exact lv_pop C.1 C.2.1 hd1 (by rw [x_tr_cat]; exact hc) (kk D b base L xs p l e s m args below meth c H locs Q lr C hH hS h0 hI hL hR)
theorem v_dup2 {va vb : Value} (hd : x_d F.1 1 pc .dup2 pc') (hc : va.category = 1) (hc2 : vb.category = 1) (kk : x_V F K pc' ls (va :: vb :: va :: vb :: st) S P I J n cs sl) : x_V F K pc ls (va :: vb :: st) S P I J n cs sl := by
  intro D b base L xs p l e s m args below meth c H locs Q lr C hH hS h0 hI hL hR
  obtain ⟨hd1, rfl⟩ := hd
  exact lv_dup2_11 C.1 C.2.1 hd1 (by rw [x_tr_cat]; exact hc) (by rw [x_tr_cat]; exact hc2) (kk D b base L xs p l e s m args below meth c H locs Q lr C hH hS h0 hI hL hR)
theorem v_iload_n {k : Fin 4} {x : Int32} (hd : x_d F.1 1 pc (.iload_n k) pc') (hk : ls[(k : Nat)]? = some (some (.int x))) (kk : x_V F K pc' ls (.int x :: st) S P I J n cs sl) : x_V F K pc ls st S P I J n cs sl := by
  intro D b base L xs p l e s m args below meth c H locs Q lr C hH hS h0 hI hL hR
  obtain ⟨hd1, rfl⟩ := hd
  exact lv_iload_n C.1 C.2.1 hd1 rfl (hL.2.2 _ _ hk) (kk D b base L xs p l e s m args below meth c H locs Q lr C hH hS h0 hI hL hR)
theorem v_iload {k : Nat} {x : Int32} (hd : x_d F.1 2 pc (.iload k) pc') (hk : ls[k]? = some (some (.int x))) (kk : x_V F K pc' ls (.int x :: st) S P I J n cs sl) : x_V F K pc ls st S P I J n cs sl := by
  intro D b base L xs p l e s m args below meth c H locs Q lr C hH hS h0 hI hL hR
  obtain ⟨hd1, rfl⟩ := hd
  exact lv_iload C.1 C.2.1 hd1 (hL.2.2 _ _ hk) (kk D b base L xs p l e s m args below meth c H locs Q lr C hH hS h0 hI hL hR)
theorem v_lload_n {k : Fin 4} {x : Int64} (hd : x_d F.1 1 pc (.lload_n k) pc') (hk : ls[(k : Nat)]? = some (some (.long x))) (kk : x_V F K pc' ls (.long x :: st) S P I J n cs sl) : x_V F K pc ls st S P I J n cs sl := by
  intro D b base L xs p l e s m args below meth c H locs Q lr C hH hS h0 hI hL hR
  obtain ⟨hd1, rfl⟩ := hd
  exact lv_lload_n C.1 C.2.1 hd1 rfl (hL.2.2 _ _ hk) (kk D b base L xs p l e s m args below meth c H locs Q lr C hH hS h0 hI hL hR)
theorem v_lload {k : Nat} {x : Int64} (hd : x_d F.1 2 pc (.lload k) pc') (hk : ls[k]? = some (some (.long x))) (kk : x_V F K pc' ls (.long x :: st) S P I J n cs sl) : x_V F K pc ls st S P I J n cs sl := by
  intro D b base L xs p l e s m args below meth c H locs Q lr C hH hS h0 hI hL hR
  obtain ⟨hd1, rfl⟩ := hd
  exact lv_lload C.1 C.2.1 hd1 (hL.2.2 _ _ hk) (kk D b base L xs p l e s m args below meth c H locs Q lr C hH hS h0 hI hL hR)
theorem v_aload_n {k : Fin 4} {x : Nat} (hd : x_d F.1 1 pc (.aload_n k) pc') (hk : ls[(k : Nat)]? = some (some (.ref x))) (kk : x_V F K pc' ls (.ref x :: st) S P I J n cs sl) : x_V F K pc ls st S P I J n cs sl := by
  intro D b base L xs p l e s m args below meth c H locs Q lr C hH hS h0 hI hL hR
  obtain ⟨hd1, rfl⟩ := hd
  exact lv_aload_n C.1 C.2.1 hd1 rfl (hL.2.2 _ _ hk) (kk D b base L xs p l e s m args below meth c H locs Q lr C hH hS h0 hI hL hR)
theorem v_aload {k : Nat} {x : Nat} (hd : x_d F.1 2 pc (.aload k) pc') (hk : ls[k]? = some (some (.ref x))) (kk : x_V F K pc' ls (.ref x :: st) S P I J n cs sl) : x_V F K pc ls st S P I J n cs sl := by
  intro D b base L xs p l e s m args below meth c H locs Q lr C hH hS h0 hI hL hR
  obtain ⟨hd1, rfl⟩ := hd
  exact lv_aload C.1 C.2.1 hd1 (hL.2.2 _ _ hk) (kk D b base L xs p l e s m args below meth c H locs Q lr C hH hS h0 hI hL hR)
theorem v_aload_nN {k : Fin 4} (hd : x_d F.1 1 pc (.aload_n k) pc') (hk : ls[(k : Nat)]? = some (some .null)) (kk : x_V F K pc' ls (.null :: st) S P I J n cs sl) : x_V F K pc ls st S P I J n cs sl := by
  intro D b base L xs p l e s m args below meth c H locs Q lr C hH hS h0 hI hL hR
  obtain ⟨hd1, rfl⟩ := hd
  exact lv_aload_nN C.1 C.2.1 hd1 rfl (hL.2.2 _ _ hk) (kk D b base L xs p l e s m args below meth c H locs Q lr C hH hS h0 hI hL hR)
theorem v_aloadN {k : Nat} (hd : x_d F.1 2 pc (.aload k) pc') (hk : ls[k]? = some (some .null)) (kk : x_V F K pc' ls (.null :: st) S P I J n cs sl) : x_V F K pc ls st S P I J n cs sl := by
  intro D b base L xs p l e s m args below meth c H locs Q lr C hH hS h0 hI hL hR
  obtain ⟨hd1, rfl⟩ := hd
  exact lv_aloadN C.1 C.2.1 hd1 (hL.2.2 _ _ hk) (kk D b base L xs p l e s m args below meth c H locs Q lr C hH hS h0 hI hL hR)
theorem v_istore_n {k : Fin 4} {x : Int32} {ls' : List (Option Value)} (hd : x_d F.1 1 pc (.istore_n k) pc') (hb : (k : Nat) < F.2.1) (hl : x_s1 ls k (.int x) = ls') (kk : x_V F K pc' ls' st S P I J n cs sl) : x_V F K pc ls (.int x :: st) S P I J n cs sl := by
  intro D b base L xs p l e s m args below meth c H locs Q lr C hH hS h0 hI hL hR
  obtain ⟨hd1, rfl⟩ := hd
  exact lv_istore_n C.1 C.2.1 hd1 rfl hL.has hb rfl (fun lr' h' => kk D b base L xs p l e s m args below meth c H locs Q lr' C hH hS h0 hI (hl ▸ x_L.s1 (v := .int x) h') hR)
theorem v_istore {k : Nat} {x : Int32} {ls' : List (Option Value)} (hd : x_d F.1 2 pc (.istore k) pc') (hb : k < F.2.1) (hl : x_s1 ls k (.int x) = ls') (kk : x_V F K pc' ls' st S P I J n cs sl) : x_V F K pc ls (.int x :: st) S P I J n cs sl := by
  intro D b base L xs p l e s m args below meth c H locs Q lr C hH hS h0 hI hL hR
  obtain ⟨hd1, rfl⟩ := hd
  exact lv_istore C.1 C.2.1 hd1 hL.has hb rfl (fun lr' h' => kk D b base L xs p l e s m args below meth c H locs Q lr' C hH hS h0 hI (hl ▸ x_L.s1 (v := .int x) h') hR)
theorem v_lstore_n {k : Fin 4} {x : Int64} {ls' : List (Option Value)} (hd : x_d F.1 1 pc (.lstore_n k) pc') (hb : (k : Nat) + 1 < F.2.1) (hl : x_s2 ls k (.long x) = ls') (kk : x_V F K pc' ls' st S P I J n cs sl) : x_V F K pc ls (.long x :: st) S P I J n cs sl := by
  intro D b base L xs p l e s m args below meth c H locs Q lr C hH hS h0 hI hL hR
  obtain ⟨hd1, rfl⟩ := hd
  exact lv_lstore_n C.1 C.2.1 hd1 rfl hL.has hb rfl (fun lr' h' => kk D b base L xs p l e s m args below meth c H locs Q lr' C hH hS h0 hI (hl ▸ x_L.s2 (v := .long x) h') hR)
theorem v_lstore {k : Nat} {x : Int64} {ls' : List (Option Value)} (hd : x_d F.1 2 pc (.lstore k) pc') (hb : k + 1 < F.2.1) (hl : x_s2 ls k (.long x) = ls') (kk : x_V F K pc' ls' st S P I J n cs sl) : x_V F K pc ls (.long x :: st) S P I J n cs sl := by
  intro D b base L xs p l e s m args below meth c H locs Q lr C hH hS h0 hI hL hR
  obtain ⟨hd1, rfl⟩ := hd
  exact lv_lstore C.1 C.2.1 hd1 hL.has hb rfl (fun lr' h' => kk D b base L xs p l e s m args below meth c H locs Q lr' C hH hS h0 hI (hl ▸ x_L.s2 (v := .long x) h') hR)
theorem v_astore_n {k : Fin 4} {x : Nat} {ls' : List (Option Value)} (hd : x_d F.1 1 pc (.astore_n k) pc') (hb : (k : Nat) < F.2.1) (hl : x_s1 ls k (.ref x) = ls') (kk : x_V F K pc' ls' st S P I J n cs sl) : x_V F K pc ls (.ref x :: st) S P I J n cs sl := by
  intro D b base L xs p l e s m args below meth c H locs Q lr C hH hS h0 hI hL hR
  obtain ⟨hd1, rfl⟩ := hd
  exact lv_astore_n C.1 C.2.1 hd1 rfl hL.has hb rfl (fun lr' h' => kk D b base L xs p l e s m args below meth c H locs Q lr' C hH hS h0 hI (hl ▸ x_L.s1 (v := .ref x) h') hR)
theorem v_astore {k : Nat} {x : Nat} {ls' : List (Option Value)} (hd : x_d F.1 2 pc (.astore k) pc') (hb : k < F.2.1) (hl : x_s1 ls k (.ref x) = ls') (kk : x_V F K pc' ls' st S P I J n cs sl) : x_V F K pc ls (.ref x :: st) S P I J n cs sl := by
  intro D b base L xs p l e s m args below meth c H locs Q lr C hH hS h0 hI hL hR
  obtain ⟨hd1, rfl⟩ := hd
  exact lv_astore C.1 C.2.1 hd1 hL.has hb rfl (fun lr' h' => kk D b base L xs p l e s m args below meth c H locs Q lr' C hH hS h0 hI (hl ▸ x_L.s1 (v := .ref x) h') hR)
theorem v_astore_nN {k : Fin 4} {ls' : List (Option Value)} (hd : x_d F.1 1 pc (.astore_n k) pc') (hb : (k : Nat) < F.2.1) (hl : x_s1 ls k .null = ls') (kk : x_V F K pc' ls' st S P I J n cs sl) : x_V F K pc ls (.null :: st) S P I J n cs sl := by
  intro D b base L xs p l e s m args below meth c H locs Q lr C hH hS h0 hI hL hR
  obtain ⟨hd1, rfl⟩ := hd
  exact lv_astore_nN C.1 C.2.1 hd1 rfl hL.has hb rfl (fun lr' h' => kk D b base L xs p l e s m args below meth c H locs Q lr' C hH hS h0 hI (hl ▸ x_L.s1 (v := .null) h') hR)
theorem v_astoreN {k : Nat} {ls' : List (Option Value)} (hd : x_d F.1 2 pc (.astore k) pc') (hb : k < F.2.1) (hl : x_s1 ls k .null = ls') (kk : x_V F K pc' ls' st S P I J n cs sl) : x_V F K pc ls (.null :: st) S P I J n cs sl := by
  intro D b base L xs p l e s m args below meth c H locs Q lr C hH hS h0 hI hL hR
  obtain ⟨hd1, rfl⟩ := hd
  exact lv_astoreN C.1 C.2.1 hd1 hL.has hb rfl (fun lr' h' => kk D b base L xs p l e s m args below meth c H locs Q lr' C hH hS h0 hI (hl ▸ x_L.s1 (v := .null) h') hR)
theorem v_iinc {k : Nat} {z : Int} {x v : Int32} {ls' : List (Option Value)} (hd : x_d F.1 3 pc (.iinc k z) pc') (hk : ls[k]? = some (some (.int x))) (hv : x + Int32.ofInt z = v) (hb : k < F.2.1) (hl : x_s1 ls k (.int v) = ls') (kk : x_V F K pc' ls' st S P I J n cs sl) : x_V F K pc ls st S P I J n cs sl := by
  intro D b base L xs p l e s m args below meth c H locs Q lr C hH hS h0 hI hL hR
  obtain ⟨hd1, rfl⟩ := hd
  obtain ⟨q, hq⟩ := List.getElem?_of_mem (x_al_mem (b := b) (base := base) hk)
  exact lv_iinc C.1 C.2.1 hd1 hL.has hq hv hb rfl (fun lr' h' => kk D b base L xs p l e s m args below meth c H locs Q lr' C hH hS h0 hI (hl ▸ x_L.s1 (v := .int v) h') hR)
theorem v_goto {off : Int} {tgt : Nat} (hd : x_j F.1 pc (.goto off) off tgt pc') (kk : x_V F K tgt ls st S P I J n cs sl) : x_V F K pc ls st S P I J n cs sl := by
  intro D b base L xs p l e s m args below meth c H locs Q lr C hH hS h0 hI hL hR
  obtain ⟨hd1, ht, -⟩ := hd
  exact lv_goto C.1 C.2.1 hd1 ht (kk D b base L xs p l e s m args below meth c H locs Q lr C hH hS h0 hI hL hR)
theorem v_if_eq {x : Int32} {off : Int} {tgt : Nat} (hd : x_j F.1 pc (.ifCond .eq off) off tgt pc') (kt : x = 0 → x_V F K tgt ls st S P I J n cs sl) (kf : ¬ x = 0 → x_V F K pc' ls st S P I J n cs sl) : x_V F K pc ls (.int x :: st) S P I J n cs sl := by
  intro D b base L xs p l e s m args below meth c H locs Q lr C hH hS h0 hI hL hR
  obtain ⟨hd1, ht, rfl⟩ := hd
  exact lv_if_eq C.1 C.2.1 hd1 ht (fun h => kt h D b base L xs p l e s m args below meth c H locs Q lr C hH hS h0 hI hL hR) (fun h => kf h D b base L xs p l e s m args below meth c H locs Q lr C hH hS h0 hI hL hR)
theorem v_if_ne {x : Int32} {off : Int} {tgt : Nat} (hd : x_j F.1 pc (.ifCond .ne off) off tgt pc') (kt : ¬ x = 0 → x_V F K tgt ls st S P I J n cs sl) (kf : x = 0 → x_V F K pc' ls st S P I J n cs sl) : x_V F K pc ls (.int x :: st) S P I J n cs sl := by
  intro D b base L xs p l e s m args below meth c H locs Q lr C hH hS h0 hI hL hR
  obtain ⟨hd1, ht, rfl⟩ := hd
  exact lv_if_ne C.1 C.2.1 hd1 ht (fun h => kt h D b base L xs p l e s m args below meth c H locs Q lr C hH hS h0 hI hL hR) (fun h => kf h D b base L xs p l e s m args below meth c H locs Q lr C hH hS h0 hI hL hR)
theorem v_if_lt {x : Int32} {off : Int} {tgt : Nat} (hd : x_j F.1 pc (.ifCond .lt off) off tgt pc') (kt : x < 0 → x_V F K tgt ls st S P I J n cs sl) (kf : ¬ x < 0 → x_V F K pc' ls st S P I J n cs sl) : x_V F K pc ls (.int x :: st) S P I J n cs sl := by
  intro D b base L xs p l e s m args below meth c H locs Q lr C hH hS h0 hI hL hR
  obtain ⟨hd1, ht, rfl⟩ := hd
  exact lv_if_lt C.1 C.2.1 hd1 ht (fun h => kt h D b base L xs p l e s m args below meth c H locs Q lr C hH hS h0 hI hL hR) (fun h => kf h D b base L xs p l e s m args below meth c H locs Q lr C hH hS h0 hI hL hR)
theorem v_if_ge {x : Int32} {off : Int} {tgt : Nat} (hd : x_j F.1 pc (.ifCond .ge off) off tgt pc') (kt : 0 ≤ x → x_V F K tgt ls st S P I J n cs sl) (kf : ¬ 0 ≤ x → x_V F K pc' ls st S P I J n cs sl) : x_V F K pc ls (.int x :: st) S P I J n cs sl := by
  intro D b base L xs p l e s m args below meth c H locs Q lr C hH hS h0 hI hL hR
  obtain ⟨hd1, ht, rfl⟩ := hd
  exact lv_if_ge C.1 C.2.1 hd1 ht (fun h => kt h D b base L xs p l e s m args below meth c H locs Q lr C hH hS h0 hI hL hR) (fun h => kf h D b base L xs p l e s m args below meth c H locs Q lr C hH hS h0 hI hL hR)
theorem v_if_gt {x : Int32} {off : Int} {tgt : Nat} (hd : x_j F.1 pc (.ifCond .gt off) off tgt pc') (kt : 0 < x → x_V F K tgt ls st S P I J n cs sl) (kf : ¬ 0 < x → x_V F K pc' ls st S P I J n cs sl) : x_V F K pc ls (.int x :: st) S P I J n cs sl := by
  intro D b base L xs p l e s m args below meth c H locs Q lr C hH hS h0 hI hL hR
  obtain ⟨hd1, ht, rfl⟩ := hd
  exact lv_if_gt C.1 C.2.1 hd1 ht (fun h => kt h D b base L xs p l e s m args below meth c H locs Q lr C hH hS h0 hI hL hR) (fun h => kf h D b base L xs p l e s m args below meth c H locs Q lr C hH hS h0 hI hL hR)
theorem v_if_le {x : Int32} {off : Int} {tgt : Nat} (hd : x_j F.1 pc (.ifCond .le off) off tgt pc') (kt : x ≤ 0 → x_V F K tgt ls st S P I J n cs sl) (kf : ¬ x ≤ 0 → x_V F K pc' ls st S P I J n cs sl) : x_V F K pc ls (.int x :: st) S P I J n cs sl := by
  intro D b base L xs p l e s m args below meth c H locs Q lr C hH hS h0 hI hL hR
  obtain ⟨hd1, ht, rfl⟩ := hd
  exact lv_if_le C.1 C.2.1 hd1 ht (fun h => kt h D b base L xs p l e s m args below meth c H locs Q lr C hH hS h0 hI hL hR) (fun h => kf h D b base L xs p l e s m args below meth c H locs Q lr C hH hS h0 hI hL hR)
theorem v_icmp_eq {x y : Int32} {off : Int} {tgt : Nat} (hd : x_j F.1 pc (.if_icmp .eq off) off tgt pc') (kt : x = y → x_V F K tgt ls st S P I J n cs sl) (kf : ¬ x = y → x_V F K pc' ls st S P I J n cs sl) : x_V F K pc ls (.int y :: .int x :: st) S P I J n cs sl := by
  intro D b base L xs p l e s m args below meth c H locs Q lr C hH hS h0 hI hL hR
  obtain ⟨hd1, ht, rfl⟩ := hd
  exact lv_icmp_eq C.1 C.2.1 hd1 ht (fun h => kt h D b base L xs p l e s m args below meth c H locs Q lr C hH hS h0 hI hL hR) (fun h => kf h D b base L xs p l e s m args below meth c H locs Q lr C hH hS h0 hI hL hR)
theorem v_icmp_ne {x y : Int32} {off : Int} {tgt : Nat} (hd : x_j F.1 pc (.if_icmp .ne off) off tgt pc') (kt : ¬ x = y → x_V F K tgt ls st S P I J n cs sl) (kf : x = y → x_V F K pc' ls st S P I J n cs sl) : x_V F K pc ls (.int y :: .int x :: st) S P I J n cs sl := by
  intro D b base L xs p l e s m args below meth c H locs Q lr C hH hS h0 hI hL hR
  obtain ⟨hd1, ht, rfl⟩ := hd
  exact lv_icmp_ne C.1 C.2.1 hd1 ht (fun h => kt h D b base L xs p l e s m args below meth c H locs Q lr C hH hS h0 hI hL hR) (fun h => kf h D b base L xs p l e s m args below meth c H locs Q lr C hH hS h0 hI hL hR)
theorem v_icmp_lt {x y : Int32} {off : Int} {tgt : Nat} (hd : x_j F.1 pc (.if_icmp .lt off) off tgt pc') (kt : x < y → x_V F K tgt ls st S P I J n cs sl) (kf : ¬ x < y → x_V F K pc' ls st S P I J n cs sl) : x_V F K pc ls (.int y :: .int x :: st) S P I J n cs sl := by
  intro D b base L xs p l e s m args below meth c H locs Q lr C hH hS h0 hI hL hR
  obtain ⟨hd1, ht, rfl⟩ := hd
  exact lv_icmp_lt C.1 C.2.1 hd1 ht (fun h => kt h D b base L xs p l e s m args below meth c H locs Q lr C hH hS h0 hI hL hR) (fun h => kf h D b base L xs p l e s m args below meth c H locs Q lr C hH hS h0 hI hL hR)
theorem v_icmp_ge {x y : Int32} {off : Int} {tgt : Nat} (hd : x_j F.1 pc (.if_icmp .ge off) off tgt pc') (kt : y ≤ x → x_V F K tgt ls st S P I J n cs sl) (kf : ¬ y ≤ x → x_V F K pc' ls st S P I J n cs sl) : x_V F K pc ls (.int y :: .int x :: st) S P I J n cs sl := by
  intro D b base L xs p l e s m args below meth c H locs Q lr C hH hS h0 hI hL hR
  obtain ⟨hd1, ht, rfl⟩ := hd
  exact lv_icmp_ge C.1 C.2.1 hd1 ht (fun h => kt h D b base L xs p l e s m args below meth c H locs Q lr C hH hS h0 hI hL hR) (fun h => kf h D b base L xs p l e s m args below meth c H locs Q lr C hH hS h0 hI hL hR)
theorem v_icmp_gt {x y : Int32} {off : Int} {tgt : Nat} (hd : x_j F.1 pc (.if_icmp .gt off) off tgt pc') (kt : y < x → x_V F K tgt ls st S P I J n cs sl) (kf : ¬ y < x → x_V F K pc' ls st S P I J n cs sl) : x_V F K pc ls (.int y :: .int x :: st) S P I J n cs sl := by
  intro D b base L xs p l e s m args below meth c H locs Q lr C hH hS h0 hI hL hR
  obtain ⟨hd1, ht, rfl⟩ := hd
  exact lv_icmp_gt C.1 C.2.1 hd1 ht (fun h => kt h D b base L xs p l e s m args below meth c H locs Q lr C hH hS h0 hI hL hR) (fun h => kf h D b base L xs p l e s m args below meth c H locs Q lr C hH hS h0 hI hL hR)
theorem v_icmp_le {x y : Int32} {off : Int} {tgt : Nat} (hd : x_j F.1 pc (.if_icmp .le off) off tgt pc') (kt : x ≤ y → x_V F K tgt ls st S P I J n cs sl) (kf : ¬ x ≤ y → x_V F K pc' ls st S P I J n cs sl) : x_V F K pc ls (.int y :: .int x :: st) S P I J n cs sl := by
  intro D b base L xs p l e s m args below meth c H locs Q lr C hH hS h0 hI hL hR
  obtain ⟨hd1, ht, rfl⟩ := hd
  exact lv_icmp_le C.1 C.2.1 hd1 ht (fun h => kt h D b base L xs p l e s m args below meth c H locs Q lr C hH hS h0 hI hL hR) (fun h => kf h D b base L xs p l e s m args below meth c H locs Q lr C hH hS h0 hI hL hR)
theorem v_ifnull {x : Nat} {off : Int} {tgt : Nat} (hd : x_j F.1 pc (.ifnull off) off tgt pc') (kk : x_V F K pc' ls st S P I J n cs sl) : x_V F K pc ls (.ref x :: st) S P I J n cs sl := by
  intro D b base L xs p l e s m args below meth c H locs Q lr C hH hS h0 hI hL hR
  obtain ⟨hd1, ht, rfl⟩ := hd
  exact lv_ifnull C.1 C.2.1 hd1 (kk D b base L xs p l e s m args below meth c H locs Q lr C hH hS h0 hI hL hR)
theorem v_ifnonnull {x : Nat} {off : Int} {tgt : Nat} (hd : x_j F.1 pc (.ifnonnull off) off tgt pc') (kk : x_V F K tgt ls st S P I J n cs sl) : x_V F K pc ls (.ref x :: st) S P I J n cs sl := by
  intro D b base L xs p l e s m args below meth c H locs Q lr C hH hS h0 hI hL hR
  obtain ⟨hd1, ht, -⟩ := hd
  exact lv_ifnonnull C.1 C.2.1 hd1 ht (kk D b base L xs p l e s m args below meth c H locs Q lr C hH hS h0 hI hL hR)
theorem v_ifnullN {off : Int} {tgt : Nat} (hd : x_j F.1 pc (.ifnull off) off tgt pc') (kk : x_V F K tgt ls st S P I J n cs sl) : x_V F K pc ls (.null :: st) S P I J n cs sl := by
  intro D b base L xs p l e s m args below meth c H locs Q lr C hH hS h0 hI hL hR
  obtain ⟨hd1, ht, -⟩ := hd
  exact lv_ifnullN C.1 C.2.1 hd1 ht (kk D b base L xs p l e s m args below meth c H locs Q lr C hH hS h0 hI hL hR)
theorem v_ifnonnullN {off : Int} {tgt : Nat} (hd : x_j F.1 pc (.ifnonnull off) off tgt pc') (kk : x_V F K pc' ls st S P I J n cs sl) : x_V F K pc ls (.null :: st) S P I J n cs sl := by
  intro D b base L xs p l e s m args below meth c H locs Q lr C hH hS h0 hI hL hR
  obtain ⟨hd1, ht, rfl⟩ := hd
  exact lv_ifnonnullN C.1 C.2.1 hd1 (kk D b base L xs p l e s m args below meth c H locs Q lr C hH hS h0 hI hL hR)
theorem v_tin {dflt lo hi : Int} {offs : Array Int} {len : Nat} {x : Int32} {off : Int} {tgt : Nat} (hd : x_d F.1 len pc (.tableswitch dflt lo hi offs) pc') (h1 : ¬ x.toInt < lo) (h2 : ¬ hi < x.toInt) (ho : offs[(x.toInt - lo).toNat]? = some off) (ht : (pc : Int) + off = (tgt : Int)) (kk : x_V F K tgt ls st S P I J n cs sl) : x_V F K pc ls (.int x :: st) S P I J n cs sl := by
  intro D b base L xs p l e s m args below meth c H locs Q lr C hH hS h0 hI hL hR
  exact lv_tableIn C.1 C.2.1 hd.1 h1 h2 ho ht (kk D b base L xs p l e s m args below meth c H locs Q lr C hH hS h0 hI hL hR)
theorem v_tout {dflt lo hi : Int} {offs : Array Int} {len : Nat} {x : Int32} {tgt : Nat} (hd : x_d F.1 len pc (.tableswitch dflt lo hi offs) pc') (h : x.toInt < lo ∨ hi < x.toInt) (ht : (pc : Int) + dflt = (tgt : Int)) (kk : x_V F K tgt ls st S P I J n cs sl) : x_V F K pc ls (.int x :: st) S P I J n cs sl := by
  intro D b base L xs p l e s m args below meth c H locs Q lr C hH hS h0 hI hL hR
  exact lv_tableOut C.1 C.2.1 hd.1 h ht (kk D b base L xs p l e s m args below meth c H locs Q lr C hH hS h0 hI hL hR)
theorem v_look {dflt : Int} {ps : Array (Int × Int)} {len : Nat} {x : Int32} {off : Int} {tgt : Nat} (hd : x_d F.1 len pc (.lookupswitch dflt ps) pc') (hp : (ps.toList.zip (ps.toList.drop 1)).all (fun (a, next) => a.1 < next.1) = true) (ho : Op.lookupswitch.offset ps.toList dflt x.toInt = off) (ht : (pc : Int) + off = (tgt : Int)) (kk : x_V F K tgt ls st S P I J n cs sl) : x_V F K pc ls (.int x :: st) S P I J n cs sl := by
  intro D b base L xs p l e s m args below meth c H locs Q lr C hH hS h0 hI hL hR
  exact lv_lookup C.1 C.2.1 hd.1 hp ho ht (kk D b base L xs p l e s m args below meth c H locs Q lr C hH hS h0 hI hL hR)
theorem v_ldc2 {idx : Nat} {v : Int64} (hd : x_d F.1 3 pc (.ldc2_w idx) pc') (hw : Cond.constantLong F.2.2.1.cls idx v ∈ lw_tbl) (kk : x_V F K pc' ls (.long v :: st) S P I J n cs sl) : x_V F K pc ls st S P I J n cs sl := by
  intro D b base L xs p l e s m args below meth c H locs Q lr C hH hS h0 hI hL hR
  obtain ⟨hd1, rfl⟩ := hd
  exact lv_ldc2 C.1 C.2.1 C.2.2.2.1 (C.2.2.2.2.2.2.2.1.1 _ hw _) hd1 (kk D b base L xs p l e s m args below meth c H locs Q lr C hH hS h0 hI hL hR)
theorem v_ldcw {idx : Nat} {v : Int32} (hd : x_d F.1 3 pc (.ldc_w idx) pc') (hw : Cond.constant F.2.2.1.cls idx v ∈ lw_tbl) (kk : x_V F K pc' ls (.int v :: st) S P I J n cs sl) : x_V F K pc ls st S P I J n cs sl := by
  intro D b base L xs p l e s m args below meth c H locs Q lr C hH hS h0 hI hL hR
  obtain ⟨hd1, rfl⟩ := hd
  exact lv_ldcw C.1 C.2.1 C.2.2.2.1 (C.2.2.2.2.2.2.2.1.1 _ hw _) hd1 (kk D b base L xs p l e s m args below meth c H locs Q lr C hH hS h0 hI hL hR)
theorem v_ret {v : Option Value} {i : Instr} (hd : x_d F.1 1 pc i pc') (hv : v.toList = st) (hro : x_ro v F.2.2.2.1 i) (hc : cs ≤ F.2.2.2.2.cells) (hsl : sl ≤ F.2.2.2.2.slots) (hK : K v S P I J n) : x_V F K pc ls st S P I J n cs sl := by
  intro D b base L xs p l e s m args below meth c H locs Q lr C hH hS h0 hI hL hR
  subst hv
  exact hR v S P I J n H locs pc lr cs sl i hK hH hS h0 hI hd.1 hro hc hsl
end XRULES
end
section
/-! Fields, arrays, new cells. -/
/-- a class's table: its row of vwCl, its words, its types, its names -/
def x_CK (ci : Nat) (Cn : String) (T : u_T) (N : Nat) : Prop := vwCl[ci]? = some (Cn, T, N) ∧ (∀ w ∈ u_ws Cn T N, w ∈ lw_tbl) ∧ (∀ k, k < N → parseFieldDescriptor (T k).2.2.1 = some (x_tys ci k)) ∧ (∀ a, a < N → ∀ b, b < N → a ≠ b → (T a).2.1 ≠ (T b).2.1)
/-- a field link: from the class own, the pool's entry idx, to field k of class ci -/
def x_fl (own : String) (idx ci k : Nat) : Prop := ∃ (Cn : String) (T : u_T) (N : Nat) (ref : String), x_CK ci Cn T N ∧ k < N ∧
  (Cond.fieldLink own idx ref (T k).2.1 (T k).2.2.1 ∈ lw_tbl ∨ ∃ host, Cond.fieldLinkNest own idx ref (T k).2.1 (T k).2.2.1 host ∈ lw_tbl) ∧ (ref = (T k).1 ∨ Cond.sameField ref (T k).1 (T k).2.1 (T k).2.2.1 ∈ lw_tbl)
def x_pf (own name : String) (idx ci k : Nat) : Prop := ∃ (Cn : String) (T : u_T) (N : Nat) (ref : String), x_CK ci Cn T N ∧ k < N ∧
  Cond.fieldLink own idx ref (T k).2.1 (T k).2.2.1 ∈ lw_tbl ∧ (ref = (T k).1 ∨ Cond.sameField ref (T k).1 (T k).2.1 (T k).2.2.1 ∈ lw_tbl) ∧ ((T k).2.2.2 = false ∨ ((T k).2.2.2 = true ∧ name = "<init>" ∧ (T k).1 = own))
section XMEM
variable {F : x_F} {K : x_K} {D : va_G} {b base L : Nat} {xs : Nat → Int32} {p : Program} {l : Launch} {e : Env} {s : State} {m : MethodId} {args : Array Value} {below : List Frame} {meth : Method} {c : Code} {H : Heap} {locs : List Loc} {Q : State → Prop} {lr : Array Slot}
variable {S : x_S} {P P' : x_P} {I I' : x_I} {J J' : x_J} {n cs sl pc a : Nat} {rest : List Value} {R : Room}
theorem x_same {ref o nm ds : String} (hW : x_Wd D s) (h : ref = o ∨ Cond.sameField ref o nm ds ∈ lw_tbl) (x : ClassId × Class × Nat × Field) (hx : s.fieldFound? o nm ds = some x) : s.fieldFound? ref nm ds = some x := by
  rcases h with rfl | h
  · exact hx
  · exact u_same (hW.1 _ h #[]) x hx
theorem x_getf {idx ci k : Nat} (C : x_Cx F D b base L xs p s m meth c) (hH : x_H D s b base S P I J n H) (h0 : S 0 = .inr (9, L)) (hl : x_fl F.2.2.1.cls idx ci k) (hs : S a = .inl ci) (hdg : decode F.1 pc = .ok (.getfield idx, 3))
    (kk : W p l e R s m args below meth c H locs cs sl Q (F0 m (pc + 3) lr (x_tr b base (x_fv P I J (x_ft ci k) a k) :: rest))) : W p l e R s m args below meth c H locs cs sl Q (F0 m pc lr (.ref (x_ad b base a) :: rest)) := by
  obtain ⟨Cn, T, N, ref, ⟨hc, hin, hty, hnm⟩, hk, hlk, hsm⟩ := hl
  obtain ⟨p0, p1⟩ := hH.in h0 hs (by intro q; cases q) (by intro q; cases q)
  have ha := hH.2.2 a p0 p1
  unfold x_at at ha
  rw [hs] at ha
  obtain ⟨r, h1, cell, q1, q2, q3, q4⟩ := ha
  have hr : r = (Cn, T, N) := Option.some.inj (h1.symm.trans hc)
  subst hr
  have hW := C.2.2.2.2.2.2.2.1
  have hts : ∀ w ∈ lw_tbl, w.before args s = true := fun w hw => hW.1 w hw args
  obtain ⟨hS, hfc, kC, hkC, hkind⟩ := hW.2.1 ci _ hc
  obtain ⟨cf, kf, fi, f, hi, hsl⟩ := hS k hk
  have hst := (u_facts hfc hkC (u_lays hts hin hk) hi).1
  rcases hlk with hlk | ⟨host, hlk⟩
  · refine W.getf C.1 C.2.1 C.2.2.2.1 (hts _ hlk) (x_same hW hsm _ hi) hst q1 (by rw [q3]; exact fun h => by cases h) (v := x_tr b base (x_fv P I J (x_ft ci k) a k)) ?_ rfl rfl hdg kk
    rw [hsl, q4 k hk]
  · refine va_Wgetf C.1 C.2.1 C.2.2.2.1 (hts _ hlk) (x_same hW hsm _ hi) hst q1 (by rw [q3]; exact fun h => by cases h) (v := x_tr b base (x_fv P I J (x_ft ci k) a k)) ?_ rfl rfl hdg kk
    rw [hsl, q4 k hk]
theorem x_ad_A {b base a : Nat} (h : 0 < a) : x_A base (x_ad b base a) := by
  cases a with
  | zero => omega
  | succ k => show base ≤ base + k; omega
theorem x_putf {idx ci k : Nat} {v : Value} (C : x_Cx F D b base L xs p s m meth c) (hH : x_H D s b base S P I J n H) (hSv : va_S (x_A base) s.heap H locs) (h0 : S 0 = .inr (9, L)) (hl : x_pf F.2.2.1.cls F.2.2.1.name idx ci k) (hs : S a = .inl ci)
    (hn : narrow (x_tys ci k) (x_tr b base v) = x_tr b base v) (hfit : fits (x_tys ci k) (x_tr b base v) = true) (hP : ∀ c, c ≠ a → P' c = P c) (hI : ∀ c, c ≠ a → I' c = I c) (hJ : ∀ c, c ≠ a → J' c = J c)
    (hv : ∀ j, x_fv P' I' J' (x_ft ci j) a j = if j = k then v else x_fv P I J (x_ft ci j) a j) (hdg : decode F.1 pc = .ok (.putfield idx, 3))
    (kk : ∀ (H1 : Heap) (locs1 : List Loc), x_H D s b base S P' I' J' n H1 → va_S (x_A base) s.heap H1 locs1 → W p l e R s m args below meth c H1 locs1 cs sl Q (F0 m (pc + 3) lr rest)) : W p l e R s m args below meth c H locs cs sl Q (F0 m pc lr (x_tr b base v :: .ref (x_ad b base a) :: rest)) := by
  obtain ⟨Cn, T, N, ref, ⟨hc, hin, hty, hnm⟩, hk, hlk, hsm, hfin⟩ := hl
  obtain ⟨p0, p1⟩ := hH.in h0 hs (by intro q; cases q) (by intro q; cases q)
  have ha := hH.2.2 a p0 p1
  unfold x_at at ha
  rw [hs] at ha
  obtain ⟨r, h1, cell, q1, q2, q3, q4⟩ := ha
  have hr : r = (Cn, T, N) := Option.some.inj (h1.symm.trans hc)
  subst hr
  have hW := C.2.2.2.2.2.2.2.1
  have hts : ∀ w ∈ lw_tbl, w.before args s = true := fun w hw => hW.1 w hw args
  obtain ⟨hS, hfc, kC, hkC, hkind⟩ := hW.2.1 ci _ hc
  obtain ⟨cf, kf, fi, f, hi, hsl⟩ := hS k hk
  have hst := (u_facts hfc hkC (u_lays hts hin hk) hi).1
  have hap : ∀ x y, x < N → y < N → x ≠ y → (D.2 ci) x ≠ (D.2 ci) y := by
    intro x y hx hy hne
    obtain ⟨_, _, _, fa, hia, ea⟩ := hS x hx
    obtain ⟨_, _, _, fb, hib, eb⟩ := hS y hy
    rw [← ea, ← eb]
    refine u_apart (u_lays hts hin hx) (u_lays hts hin hy) hia hib ?_
    rw [(State.fieldFound?_type hia (hty x hx)).1, (State.fieldFound?_type hib (hty y hy)).1]
    exact hnm x hx y hy hne
  have hlay := hts _ (hin _ (u_in_lay hk))
  unfold u_lay at hlay
  have fin : ∀ H' : Heap, H'[x_ad b base a]? = some (cell.setSlot (D.2 ci k) (x_tr b base v)) → H'.size = H.size → (∀ q, q ≠ x_ad b base a → H'[q]? = H[q]?) → W p l e R s m args below meth c H' (locs ++ [⟨x_ad b base a, D.2 ci k⟩]) cs sl Q (F0 m (pc + 3) lr rest) := by
    intro H' e1 e2 e3
    refine kk H' _ (hH.put C.2.2.2.2.2.2.2.2.2.1 e2 e3 hP hI hJ ?_) (hSv.put e2 e3 (x_ad_A p0))
    unfold x_at
    rw [hs]
    refine ⟨_, hc, _, e1, q2, q3, fun j hj => ?_⟩
    rw [t_set q4 hap hk (x_tr b base v) j hj]
    show some (updV _ k (x_tr b base v) j) = some (x_tr b base (x_fv P' I' J' (x_ft ci j) a j))
    rw [hv j]
    unfold updV
    by_cases hjk : j = k
    · rw [if_pos hjk, if_pos hjk]
    · rw [if_neg hjk, if_neg hjk]
  rcases hfin with hfin | ⟨hfin, hin2, hdecl⟩
  · rw [if_neg (by rw [hfin]; decide)] at hlay
    have h6 := u_store hfc hkC hkind hlay hi (hty k hk) hn hfit
    refine W.putK C.1 C.2.1 (f := f) ⟨C.2.2.2.1, hts _ hlk, ⟨_, _, _, x_same hW hsm _ hi⟩, hst⟩ (by rw [q2]; exact h6) q1 q3 (by rw [hsl]; exact k2_hasslot (q4 k hk)) rfl rfl hdg fun H' e1 e2 e3 => ?_
    rw [hsl] at e1 ⊢
    exact fin H' e1 e2 e3
  · rw [if_pos hfin] at hlay
    have hcf : m.cls = cf := by
      obtain ⟨_, _, c', _, _, _, -, -, hf', -, -, -, hown2, -⟩ := Cond.laysFinal_spec hlay
      have e1 : c' = cf := by have := hi.symm.trans hf'; simp at this; exact this.1.symm
      rw [hdecl] at hown2
      rw [← e1]; exact Option.some.inj (C.2.2.2.1.symm.trans hown2)
    have h6 := u_fits hfc hkC hkind (Or.inr hlay) hi (hty k hk) hn hfit
    refine W.putFinK C.1 C.2.1 C.2.2.2.1 (hts _ hlk) (x_same hW hsm _ hi) hst hcf (C.2.2.2.2.2.1.trans hin2) (by rw [q2]; exact h6) q1 q3 (by rw [hsl]; exact k2_hasslot (q4 k hk)) rfl rfl hdg fun H' e1 e2 e3 => ?_
    rw [hsl] at e1 ⊢
    exact fin H' e1 e2 e3
end XMEM
section XMEM2
variable {F : x_F} {K : x_K} {pc pc' : Nat} {ls : List (Option Value)} {st : List Value} {S : x_S} {P : x_P} {I : x_I} {J : x_J} {n cs sl a : Nat}
theorem x_xI {I : x_I} {a k : Nat} {v : Int32} {xs : Nat → Int32} (h : I 0 = xs) (ha : 0 < a) : x_u2 I a k v 0 = xs := by rw [x_u2_nr _ _ _ (by omega)]; exact h
theorem v_gi {idx ci k : Nat} (hd : x_d F.1 3 pc (.getfield idx) pc') (hl : x_fl F.2.2.1.cls idx ci k) (ht : x_ft ci k = 0) (hs : S a = .inl ci) (kk : x_V F K pc' ls (.int (I a k) :: st) S P I J n cs sl) : x_V F K pc ls (.ref a :: st) S P I J n cs sl := by
  intro D b base L xs p l e s m args below meth c H locs Q lr C hH hS h0 hI hL hR
  obtain ⟨hd1, rfl⟩ := hd
  refine x_getf C hH h0 hl hs hd1 ?_
  rw [ht]
  exact kk D b base L xs p l e s m args below meth c H locs Q lr C hH hS h0 hI hL hR
theorem v_gl {idx ci k : Nat} (hd : x_d F.1 3 pc (.getfield idx) pc') (hl : x_fl F.2.2.1.cls idx ci k) (ht : x_ft ci k = 1) (hs : S a = .inl ci) (kk : x_V F K pc' ls (.long (J a k) :: st) S P I J n cs sl) : x_V F K pc ls (.ref a :: st) S P I J n cs sl := by
  intro D b base L xs p l e s m args below meth c H locs Q lr C hH hS h0 hI hL hR
  obtain ⟨hd1, rfl⟩ := hd
  refine x_getf C hH h0 hl hs hd1 ?_
  rw [ht]
  exact kk D b base L xs p l e s m args below meth c H locs Q lr C hH hS h0 hI hL hR
theorem v_gr {idx ci k r : Nat} (hd : x_d F.1 3 pc (.getfield idx) pc') (hl : x_fl F.2.2.1.cls idx ci k) (ht : x_ft ci k = 2) (hs : S a = .inl ci) (hr : P a k = some r) (kk : x_V F K pc' ls (.ref r :: st) S P I J n cs sl) : x_V F K pc ls (.ref a :: st) S P I J n cs sl := by
  intro D b base L xs p l e s m args below meth c H locs Q lr C hH hS h0 hI hL hR
  obtain ⟨hd1, rfl⟩ := hd
  refine x_getf C hH h0 hl hs hd1 ?_
  rw [ht]
  simp only [x_fv, hr]
  exact kk D b base L xs p l e s m args below meth c H locs Q lr C hH hS h0 hI hL hR
theorem v_gn {idx ci k : Nat} (hd : x_d F.1 3 pc (.getfield idx) pc') (hl : x_fl F.2.2.1.cls idx ci k) (ht : x_ft ci k = 2) (hs : S a = .inl ci) (hr : P a k = none) (kk : x_V F K pc' ls (.null :: st) S P I J n cs sl) : x_V F K pc ls (.ref a :: st) S P I J n cs sl := by
  intro D b base L xs p l e s m args below meth c H locs Q lr C hH hS h0 hI hL hR
  obtain ⟨hd1, rfl⟩ := hd
  refine x_getf C hH h0 hl hs hd1 ?_
  rw [ht]
  simp only [x_fv, hr]
  exact kk D b base L xs p l e s m args below meth c H locs Q lr C hH hS h0 hI hL hR
theorem v_pi {idx ci k : Nat} {x : Int32} (hd : x_d F.1 3 pc (.putfield idx) pc') (hl : x_pf F.2.2.1.cls F.2.2.1.name idx ci k) (ht : x_ft ci k = 0) (hs : S a = .inl ci) (hn : narrow (x_tys ci k) (.int x) = .int x) (hf : fits (x_tys ci k) (.int x) = true) (kk : x_V F K pc' ls st S P (x_u2 I a k x) J n cs sl) : x_V F K pc ls (.int x :: .ref a :: st) S P I J n cs sl := by
  intro D b base L xs p l e s m args below meth c H locs Q lr C hH hS h0 hI hL hR
  obtain ⟨hd1, rfl⟩ := hd
  obtain ⟨p0, -⟩ := hH.in h0 hs (by intro q; cases q) (by intro q; cases q)
  refine x_putf (v := .int x) (P' := P) (I' := x_u2 I a k x) (J' := J) C hH hS h0 hl hs hn hf (fun _ _ => rfl) (fun q hq => x_u2_nr _ _ _ hq) (fun _ _ => rfl) (fun j => ?_) hd1 (fun H1 locs1 hH1 hS1 => kk D b base L xs p l e s m args below meth c H1 locs1 Q lr C hH1 hS1 h0 (x_xI hI p0) hL hR)
  by_cases hj : j = k
  · subst hj; rw [ht, if_pos rfl]; simp only [x_fv, x_u2_s]
  · rw [if_neg hj]; unfold x_fv; simp only [x_u2_nk _ _ _ _ hj]
theorem v_pl {idx ci k : Nat} {x : Int64} (hd : x_d F.1 3 pc (.putfield idx) pc') (hl : x_pf F.2.2.1.cls F.2.2.1.name idx ci k) (ht : x_ft ci k = 1) (hs : S a = .inl ci) (hn : narrow (x_tys ci k) (.long x) = .long x) (hf : fits (x_tys ci k) (.long x) = true) (kk : x_V F K pc' ls st S P I (x_u2 J a k x) n cs sl) : x_V F K pc ls (.long x :: .ref a :: st) S P I J n cs sl := by
  intro D b base L xs p l e s m args below meth c H locs Q lr C hH hS h0 hI hL hR
  obtain ⟨hd1, rfl⟩ := hd
  refine x_putf (v := .long x) (P' := P) (I' := I) (J' := x_u2 J a k x) C hH hS h0 hl hs hn hf (fun _ _ => rfl) (fun _ _ => rfl) (fun q hq => x_u2_nr _ _ _ hq) (fun j => ?_) hd1 (fun H1 locs1 hH1 hS1 => kk D b base L xs p l e s m args below meth c H1 locs1 Q lr C hH1 hS1 h0 hI hL hR)
  by_cases hj : j = k
  · subst hj; rw [ht, if_pos rfl]; simp only [x_fv, x_u2_s]
  · rw [if_neg hj]; unfold x_fv; simp only [x_u2_nk _ _ _ _ hj]
theorem v_pr {idx ci k r : Nat} (hd : x_d F.1 3 pc (.putfield idx) pc') (hl : x_pf F.2.2.1.cls F.2.2.1.name idx ci k) (ht : x_ft ci k = 2) (hs : S a = .inl ci) (hn : ∀ z, narrow (x_tys ci k) (.ref z) = .ref z) (hf : ∀ z, fits (x_tys ci k) (.ref z) = true) (kk : x_V F K pc' ls st S (x_u2 P a k (some r)) I J n cs sl) : x_V F K pc ls (.ref r :: .ref a :: st) S P I J n cs sl := by
  intro D b base L xs p l e s m args below meth c H locs Q lr C hH hS h0 hI hL hR
  obtain ⟨hd1, rfl⟩ := hd
  refine x_putf (v := .ref r) (P' := x_u2 P a k (some r)) (I' := I) (J' := J) C hH hS h0 hl hs (hn _) (hf _) (fun q hq => x_u2_nr _ _ _ hq) (fun _ _ => rfl) (fun _ _ => rfl) (fun j => ?_) hd1 (fun H1 locs1 hH1 hS1 => kk D b base L xs p l e s m args below meth c H1 locs1 Q lr C hH1 hS1 h0 hI hL hR)
  by_cases hj : j = k
  · subst hj; rw [ht, if_pos rfl]; simp only [x_fv, x_u2_s]; rfl
  · rw [if_neg hj]; unfold x_fv; simp only [x_u2_nk _ _ _ _ hj]
theorem v_pn {idx ci k : Nat} (hd : x_d F.1 3 pc (.putfield idx) pc') (hl : x_pf F.2.2.1.cls F.2.2.1.name idx ci k) (ht : x_ft ci k = 2) (hs : S a = .inl ci) (hn : narrow (x_tys ci k) .null = .null) (hf : fits (x_tys ci k) .null = true) (kk : x_V F K pc' ls st S (x_u2 P a k none) I J n cs sl) : x_V F K pc ls (.null :: .ref a :: st) S P I J n cs sl := by
  intro D b base L xs p l e s m args below meth c H locs Q lr C hH hS h0 hI hL hR
  obtain ⟨hd1, rfl⟩ := hd
  refine x_putf (v := .null) (P' := x_u2 P a k none) (I' := I) (J' := J) C hH hS h0 hl hs hn hf (fun q hq => x_u2_nr _ _ _ hq) (fun _ _ => rfl) (fun _ _ => rfl) (fun j => ?_) hd1 (fun H1 locs1 hH1 hS1 => kk D b base L xs p l e s m args below meth c H1 locs1 Q lr C hH1 hS1 h0 hI hL hR)
  by_cases hj : j = k
  · subst hj; rw [ht, if_pos rfl]; simp only [x_fv, x_u2_s]; rfl
  · rw [if_neg hj]; unfold x_fv; simp only [x_u2_nk _ _ _ _ hj]
/-- a place of an array: j below N, both small -/
def x_in (j N : Nat) : Prop := j < N ∧ j < 2147483648
theorem x_in.not {i : Int32} {j N : Nat} (h : x_in j N) (hi : i = nI j) : ¬ (i < 0 ∨ N ≤ i.toNatClampNeg) := by
  subst hi
  intro q
  rcases q with q | q
  · exact nI_pos h.2 q
  · rw [nI_clamp h.2] at q; have := h.1; omega
theorem v_iald {i : Int32} {N : Nat} (j : Nat) (hd : x_d F.1 1 pc .iaload pc') (hi : i = nI j) (hs : S a = .inr (0, N)) (hj : x_in j N) {v : Int32} (hv : I a j = v) (kk : x_V F K pc' ls (.int v :: st) S P I J n cs sl) : x_V F K pc ls (.int i :: .ref a :: st) S P I J n cs sl := by
  intro D b base L xs p l e s m args below meth c H locs Q lr C hH hS h0 hI hL hR
  obtain ⟨hd1, rfl⟩ := hd
  obtain ⟨p0, p1⟩ := hH.in h0 hs (by intro q; cases q) (by intro q; cases q)
  have ha := hH.2.2 a p0 p1
  unfold x_at at ha
  rw [hs] at ha
  obtain ⟨cA, hA, -, hc⟩ := ha
  subst hv
  refine W.iald C.1 C.2.1 hc (hA N _) (fun q => by cases q) (by rw [arrV_size]; exact hj.not hi) (v := .int (I a j)) ?_ rfl rfl hd1 (kk D b base L xs p l e s m args below meth c H locs Q lr C hH hS h0 hI hL hR)
  rw [hi, nI_clamp hj.2]
  exact arrV_read _ _ hj.1
theorem v_zald {i : Int32} {N : Nat} (j : Nat) (hd : x_d F.1 1 pc .baload pc') (hi : i = nI j) (hs : S a = .inr (2, N)) (hj : x_in j N) {v : Int32} (hv : I a j = v) (kk : x_V F K pc' ls (.int v :: st) S P I J n cs sl) : x_V F K pc ls (.int i :: .ref a :: st) S P I J n cs sl := by
  intro D b base L xs p l e s m args below meth c H locs Q lr C hH hS h0 hI hL hR
  obtain ⟨hd1, rfl⟩ := hd
  obtain ⟨p0, p1⟩ := hH.in h0 hs (by intro q; cases q) (by intro q; cases q)
  have ha := hH.2.2 a p0 p1
  unfold x_at at ha
  rw [hs] at ha
  obtain ⟨cA, hA, -, hc⟩ := ha
  subst hv
  refine W.zald C.1 C.2.1 hc (hA N _) (fun q => by cases q) (by rw [arrV_size]; exact hj.not hi) (v := .int (I a j)) ?_ rfl rfl hd1 (kk D b base L xs p l e s m args below meth c H locs Q lr C hH hS h0 hI hL hR)
  rw [hi, nI_clamp hj.2]
  exact arrV_read _ _ hj.1
theorem v_lald {i : Int32} {N : Nat} (j : Nat) (hd : x_d F.1 1 pc .laload pc') (hi : i = nI j) (hs : S a = .inr (1, N)) (hj : x_in j N) {v : Int64} (hv : J a j = v) (kk : x_V F K pc' ls (.long v :: st) S P I J n cs sl) : x_V F K pc ls (.int i :: .ref a :: st) S P I J n cs sl := by
  intro D b base L xs p l e s m args below meth c H locs Q lr C hH hS h0 hI hL hR
  obtain ⟨hd1, rfl⟩ := hd
  obtain ⟨p0, p1⟩ := hH.in h0 hs (by intro q; cases q) (by intro q; cases q)
  have ha := hH.2.2 a p0 p1
  unfold x_at at ha
  rw [hs] at ha
  obtain ⟨cA, hA, -, hc⟩ := ha
  subst hv
  refine W.lald C.1 C.2.1 hc (hA N _) (fun q => by cases q) (by rw [arrV_size]; exact hj.not hi) (v := .long (J a j)) ?_ rfl rfl hd1 (kk D b base L xs p l e s m args below meth c H locs Q lr C hH hS h0 hI hL hR)
  rw [hi, nI_clamp hj.2]
  exact arrV_read _ _ hj.1
/-- kinds 3 (Wall[]) and 4 (int[][]) -/
theorem v_aald {i : Int32} {t N r : Nat} (j : Nat) (hd : x_d F.1 1 pc .aaload pc') (hi : i = nI j) (hs : S a = .inr (t, N)) (ht : t = 3 ∨ t = 4) (hj : x_in j N) (hr : P a j = some r) (kk : x_V F K pc' ls (.ref r :: st) S P I J n cs sl) : x_V F K pc ls (.int i :: .ref a :: st) S P I J n cs sl := by
  intro D b base L xs p l e s m args below meth c H locs Q lr C hH hS h0 hI hL hR
  obtain ⟨hd1, rfl⟩ := hd
  obtain ⟨p0, p1⟩ := hH.in h0 hs (by rcases ht with rfl | rfl <;> (intro q; cases q)) (by rcases ht with rfl | rfl <;> (intro q; cases q))
  have ha := hH.2.2 a p0 p1
  unfold x_at at ha
  rw [hs] at ha
  obtain ⟨cA, hA, -, hc⟩ := ha
  have hk : x_fv P I J (x_kc t) a j = .ref r := by rcases ht with rfl | rfl <;> simp only [x_kc, x_fv, hr] <;> rfl
  refine W.aald C.1 C.2.1 hc (hA N _) (by rcases ht with rfl | rfl <;> rfl) (fun q => by cases q) (by rw [arrV_size]; exact hj.not hi) (v := x_tr b base (.ref r)) ?_ rfl rfl hd1 (kk D b base L xs p l e s m args below meth c H locs Q lr C hH hS h0 hI hL hR)
  rw [hi, nI_clamp hj.2, ← hk]
  exact arrV_read _ _ hj.1
theorem v_aaldN {i : Int32} {N : Nat} (j : Nat) (hd : x_d F.1 1 pc .aaload pc') (hi : i = nI j) (hs : S a = .inr (3, N)) (hj : x_in j N) (hr : P a j = none) (kk : x_V F K pc' ls (.null :: st) S P I J n cs sl) : x_V F K pc ls (.int i :: .ref a :: st) S P I J n cs sl := by
  intro D b base L xs p l e s m args below meth c H locs Q lr C hH hS h0 hI hL hR
  obtain ⟨hd1, rfl⟩ := hd
  obtain ⟨p0, p1⟩ := hH.in h0 hs (by intro q; cases q) (by intro q; cases q)
  have ha := hH.2.2 a p0 p1
  unfold x_at at ha
  rw [hs] at ha
  obtain ⟨cA, hA, -, hc⟩ := ha
  have hk : x_fv P I J (x_kc 3) a j = .null := by simp only [x_kc, x_fv, hr]; rfl
  refine W.aald C.1 C.2.1 hc (hA N _) rfl (fun q => by cases q) (by rw [arrV_size]; exact hj.not hi) (v := x_tr b base .null) ?_ rfl rfl hd1 (kk D b base L xs p l e s m args below meth c H locs Q lr C hH hS h0 hI hL hR)
  rw [hi, nI_clamp hj.2, ← hk]
  exact arrV_read _ _ hj.1
theorem v_alen {N t : Nat} (hd : x_d F.1 1 pc .arraylength pc') (hs : S a = .inr (t, N)) (ht : t ≤ 4) (kk : x_V F K pc' ls (.int (nI N) :: st) S P I J n cs sl) : x_V F K pc ls (.ref a :: st) S P I J n cs sl := by
  intro D b base L xs p l e s m args below meth c H locs Q lr C hH hS h0 hI hL hR
  obtain ⟨hd1, rfl⟩ := hd
  obtain ⟨p0, p1⟩ := hH.in h0 hs (by intro q; cases q; omega) (by intro q; cases q; omega)
  have ha := hH.2.2 a p0 p1
  unfold x_at at ha
  rw [hs] at ha
  obtain ⟨cA, hA, -, hc⟩ := ha
  exact W.alen C.1 C.2.1 hc (hA N _) (by rw [arrV_size]; rfl) rfl rfl hd1 (kk D b base L xs p l e s m args below meth c H locs Q lr C hH hS h0 hI hL hR)
theorem v_sld {i : Int32} {N : Nat} (j : Nat) (hd : x_d F.1 1 pc .iaload pc') (hi : i = nI j) (hs : S 0 = .inr (9, N)) (hj : x_in j N) (kk : x_V F K pc' ls (.int (I 0 j) :: st) S P I J n cs sl) : x_V F K pc ls (.int i :: .ref 0 :: st) S P I J n cs sl := by
  intro D b base L xs p l e s m args below meth c H locs Q lr C hH hS h0 hI hL hR
  obtain ⟨hd1, rfl⟩ := hd
  have hLN : L = N := by have := h0.symm.trans hs; cases this; rfl
  subst hLN
  have hb := C.2.2.2.2.2.2.2.2.2.1
  have hX := C.2.2.2.2.2.2.2.2.1
  have hbs := C.2.2.2.2.2.2.2.2.2.2
  refine va_sld C.1 C.2.1 hX (Nat.lt_of_lt_of_le hb hbs) (show ¬ base ≤ b by omega) hS (hj.not hi) hd1 ?_
  rw [hi, nI_clamp hj.2, ← hI]
  exact kk D b base L xs p l e s m args below meth c H locs Q lr C hH hS h0 hI hL hR
theorem v_slen {N : Nat} (hd : x_d F.1 1 pc .arraylength pc') (hs : S 0 = .inr (9, N)) (kk : x_V F K pc' ls (.int (nI N) :: st) S P I J n cs sl) : x_V F K pc ls (.ref 0 :: st) S P I J n cs sl := by
  intro D b base L xs p l e s m args below meth c H locs Q lr C hH hS h0 hI hL hR
  obtain ⟨hd1, rfl⟩ := hd
  have hLN : L = N := by have := h0.symm.trans hs; cases this; rfl
  subst hLN
  have hb := C.2.2.2.2.2.2.2.2.2.1
  exact va_slen C.1 C.2.1 C.2.2.2.2.2.2.2.2.1 (Nat.lt_of_lt_of_le hb C.2.2.2.2.2.2.2.2.2.2) (show ¬ base ≤ b by omega) hS hd1 (kk D b base L xs p l e s m args below meth c H locs Q lr C hH hS h0 hI hL hR)
theorem v_iast {i x : Int32} {N : Nat} (j : Nat) (hd : x_d F.1 1 pc .iastore pc') (hi : i = nI j) (hs : S a = .inr (0, N)) (hj : x_in j N) (kk : x_V F K pc' ls st S P (x_u2 I a j x) J n cs sl) : x_V F K pc ls (.int x :: .int i :: .ref a :: st) S P I J n cs sl := by
  intro D b base L xs p l e s m args below meth c H locs Q lr C hH hS h0 hI hL hR
  obtain ⟨hd1, rfl⟩ := hd
  obtain ⟨p0, p1⟩ := hH.in h0 hs (by intro q; cases q) (by intro q; cases q)
  have ha := hH.2.2 a p0 p1
  unfold x_at at ha
  rw [hs] at ha
  obtain ⟨cA, hA, -, hc⟩ := ha
  refine W.iast C.1 C.2.1 hc (hA N _) (fun q => by cases q) (by rw [arrV_size]; exact hj.not hi) rfl rfl hd1 (fun H1 e1 e2 e3 => ?_)
  refine kk D b base L xs p l e s m args below meth c H1 _ Q lr C (hH.put C.2.2.2.2.2.2.2.2.2.1 e2 e3 (fun _ _ => rfl) (fun q hq => x_u2_nr _ _ _ hq) (fun _ _ => rfl) ?_) (hS.put e2 e3 (x_ad_A p0)) h0 (x_xI hI p0) hL hR
  unfold x_at
  rw [hs]
  refine ⟨cA, hA, (fun q => by cases q), ?_⟩
  rw [e1, arrV_store, hi, nI_clamp hj.2]
  congr 2
  funext q
  unfold updV
  by_cases hq : q = j
  · subst hq; simp [x_kc, x_fv, x_tr, x_u2_s]
  · simp [x_kc, x_fv, x_tr, hq, x_u2_nk _ _ _ _ hq]
theorem v_zast {i x : Int32} {N : Nat} (j : Nat) (hd : x_d F.1 1 pc .bastore pc') (hi : i = nI j) (hs : S a = .inr (2, N)) (hj : x_in j N) (hx : narrow .boolean (.int x) = .int x) (kk : x_V F K pc' ls st S P (x_u2 I a j x) J n cs sl) : x_V F K pc ls (.int x :: .int i :: .ref a :: st) S P I J n cs sl := by
  intro D b base L xs p l e s m args below meth c H locs Q lr C hH hS h0 hI hL hR
  obtain ⟨hd1, rfl⟩ := hd
  obtain ⟨p0, p1⟩ := hH.in h0 hs (by intro q; cases q) (by intro q; cases q)
  have ha := hH.2.2 a p0 p1
  unfold x_at at ha
  rw [hs] at ha
  obtain ⟨cA, hA, -, hc⟩ := ha
  refine W.zast C.1 C.2.1 hc (hA N _) (fun q => by cases q) (by rw [arrV_size]; exact hj.not hi) rfl rfl hd1 (fun H1 e1 e2 e3 => ?_)
  refine kk D b base L xs p l e s m args below meth c H1 _ Q lr C (hH.put C.2.2.2.2.2.2.2.2.2.1 e2 e3 (fun _ _ => rfl) (fun q hq => x_u2_nr _ _ _ hq) (fun _ _ => rfl) ?_) (hS.put e2 e3 (x_ad_A p0)) h0 (x_xI hI p0) hL hR
  unfold x_at
  rw [hs]
  refine ⟨cA, hA, (fun q => by cases q), ?_⟩
  rw [e1, hx, arrV_store, hi, nI_clamp hj.2]
  congr 2
  funext q
  unfold updV
  by_cases hq : q = j
  · subst hq; simp [x_kc, x_fv, x_tr, x_u2_s]
  · simp [x_kc, x_fv, x_tr, hq, x_u2_nk _ _ _ _ hq]
theorem v_last {i : Int32} {x : Int64} {N : Nat} (j : Nat) (hd : x_d F.1 1 pc .lastore pc') (hi : i = nI j) (hs : S a = .inr (1, N)) (hj : x_in j N) (kk : x_V F K pc' ls st S P I (x_u2 J a j x) n cs sl) : x_V F K pc ls (.long x :: .int i :: .ref a :: st) S P I J n cs sl := by
  intro D b base L xs p l e s m args below meth c H locs Q lr C hH hS h0 hI hL hR
  obtain ⟨hd1, rfl⟩ := hd
  obtain ⟨p0, p1⟩ := hH.in h0 hs (by intro q; cases q) (by intro q; cases q)
  have ha := hH.2.2 a p0 p1
  unfold x_at at ha
  rw [hs] at ha
  obtain ⟨cA, hA, -, hc⟩ := ha
  refine W.last C.1 C.2.1 hc (hA N _) (fun q => by cases q) (by rw [arrV_size]; exact hj.not hi) rfl rfl hd1 (fun H1 e1 e2 e3 => ?_)
  refine kk D b base L xs p l e s m args below meth c H1 _ Q lr C (hH.put C.2.2.2.2.2.2.2.2.2.1 e2 e3 (fun _ _ => rfl) (fun _ _ => rfl) (fun q hq => x_u2_nr _ _ _ hq) ?_) (hS.put e2 e3 (x_ad_A p0)) h0 hI hL hR
  unfold x_at
  rw [hs]
  refine ⟨cA, hA, (fun q => by cases q), ?_⟩
  rw [e1, arrV_store, hi, nI_clamp hj.2]
  congr 2
  funext q
  unfold updV
  by_cases hq : q = j
  · subst hq; simp [x_kc, x_fv, x_tr, x_u2_s]
  · simp [x_kc, x_fv, x_tr, hq, x_u2_nk _ _ _ _ hq]
/-- a Wall, a Mirror or a Faint into the Wall[] -/
theorem v_aast {i : Int32} {N r cj : Nat} {q : vw_C} (j : Nat) (hd : x_d F.1 1 pc .aastore pc') (hi : i = nI j) (hs : S a = .inr (3, N)) (hj : x_in j N) (hr : S r = .inl cj) (hq : vwCl[cj]? = some q) (hca : q.1 = RX10 ∨ Cond.castable q.1 RX10 ∈ lw_tbl) (kk : x_V F K pc' ls st S (x_u2 P a j (some r)) I J n cs sl) : x_V F K pc ls (.ref r :: .int i :: .ref a :: st) S P I J n cs sl := by
  intro D b base L xs p l e s m args below meth c H locs Q lr C hH hS h0 hI hL hR
  obtain ⟨hd1, rfl⟩ := hd
  obtain ⟨p0, p1⟩ := hH.in h0 hs (by intro q; cases q) (by intro q; cases q)
  obtain ⟨r0, r1⟩ := hH.in h0 hr (by intro q; cases q) (by intro q; cases q)
  have ha := hH.2.2 a p0 p1
  unfold x_at at ha
  rw [hs] at ha
  obtain ⟨cA, hA, hRA, hc⟩ := ha
  have hra := hH.2.2 r r0 r1
  unfold x_at at hra
  rw [hr] at hra
  obtain ⟨q', hq', cellV, g1, g2, g3, -⟩ := hra
  have hW := C.2.2.2.2.2.2.2.1
  obtain ⟨kA, comp, k1, k2, k3, -⟩ := hRA rfl
  have hcw := (hW.2.1 10 _ (show vwCl[10]? = some (RX10, TX10, 3) from rfl)).2
  have hcv := (hW.2.1 cj q hq).2
  have hcomp : comp = D.1 10 := Option.some.inj (k3.symm.trans hcw.1)
  subst hcomp
  obtain ⟨kC, hkC, -⟩ := hcw.2
  obtain ⟨kV, hkV, -⟩ := hcv.2
  have hass : s.vm.assignable (D.1 cj) (D.1 10) = true := by
    rcases hca with e | hca
    · have e2 : D.1 cj = D.1 10 := Option.some.inj (hcv.1.symm.trans (by rw [e]; exact hcw.1))
      rw [e2]
      exact va_assign hcw
    · obtain ⟨c1, c2, w1, w2, w3⟩ := Cond.castable_spec (hW.1 _ hca #[])
      rw [Option.some.inj (w1.symm.trans hcv.1), Option.some.inj (w2.symm.trans hcw.1)] at w3
      exact w3
  refine W.aast C.1 C.2.1 hc (fun q h => by cases h) (fun h => by cases h) k1 k2 rfl hkC ⟨fun z => hj.not hi (Or.inl z), by rw [arrV_size, hi, nI_clamp hj.2]; exact hj.1⟩ g1 (fun q h => by rw [g3] at h; cases h) (by rw [g2]; exact hkV) (by rw [g2]; exact hass) rfl rfl hd1 (fun H1 e1 e2 e3 => ?_)
  refine kk D b base L xs p l e s m args below meth c H1 _ Q lr C (hH.put C.2.2.2.2.2.2.2.2.2.1 e2 e3 (fun q hq => x_u2_nr _ _ _ hq) (fun _ _ => rfl) (fun _ _ => rfl) ?_) (hS.put e2 e3 (x_ad_A p0)) h0 hI hL hR
  unfold x_at
  rw [hs]
  refine ⟨cA, hA, hRA, ?_⟩
  rw [e1, arrV_store, hi, nI_clamp hj.2]
  congr 2
  funext q
  unfold updV
  by_cases hq : q = j
  · subst hq; simp [x_kc, x_fv, x_tr, x_u2_s, va_rf]
  · simp [x_kc, x_fv, x_tr, hq, x_u2_nk _ _ _ _ hq]
end XMEM2
end
