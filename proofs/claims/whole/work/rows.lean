section
-- ===== PART A: goes FIRST, ahead of the names: the tables' words, and 'selects' of the private methods out of them =====
/-- a private method of a class that the tables say can be made, by its rows of tables_1 -/
def lw_okq (q : MethodName × Nat) : Prop := (q.1.cls ≠ "java/lang/invoke/MethodHandle" ∧ q.1.cls ≠ "java/lang/invoke/VarHandle") ∧ Cond.instantiable q.1.cls q.2 ∈ tables_1 ∧ Cond.privateMethod q.1 ∈ tables_1 ∧ Cond.instanceMethod q.1 ∈ tables_1
theorem lw_p0 : lw_okq (⟨"SofaRailway$Routes", "unite", "(III)V"⟩, 3) := ⟨⟨by decide +kernel, by decide +kernel⟩, List.mem_of_getElem? (i := 140) (by decide +kernel), List.mem_of_getElem? (i := 292) (by decide +kernel), List.mem_of_getElem? (i := 293) (by decide +kernel)⟩
theorem lw_p1 : lw_okq (⟨"SofaRailway$Routes", "nearestOpen", "(II)I"⟩, 3) := ⟨⟨by decide +kernel, by decide +kernel⟩, List.mem_of_getElem? (i := 140) (by decide +kernel), List.mem_of_getElem? (i := 321) (by decide +kernel), List.mem_of_getElem? (i := 322) (by decide +kernel)⟩
theorem lw_p2 : lw_okq (⟨"SofaRailway$Traffic", "leadsBack", "(II)Z"⟩, 3) := ⟨⟨by decide +kernel, by decide +kernel⟩, List.mem_of_getElem? (i := 159) (by decide +kernel), List.mem_of_getElem? (i := 329) (by decide +kernel), List.mem_of_getElem? (i := 330) (by decide +kernel)⟩
theorem lw_p3 : lw_okq (⟨"SofaRailway$Routes", "shortenFrom", "(LSofaRailway$Layout;I)Z"⟩, 3) := ⟨⟨by decide +kernel, by decide +kernel⟩, List.mem_of_getElem? (i := 140) (by decide +kernel), List.mem_of_getElem? (i := 382) (by decide +kernel), List.mem_of_getElem? (i := 383) (by decide +kernel)⟩
theorem lw_p4 : lw_okq (⟨"SofaRailway", "changed", "(I)I"⟩, 11) := ⟨⟨by decide +kernel, by decide +kernel⟩, List.mem_of_getElem? (i := 30) (by decide +kernel), List.mem_of_getElem? (i := 419) (by decide +kernel), List.mem_of_getElem? (i := 420) (by decide +kernel)⟩
theorem lw_p5 : lw_okq (⟨"java/lang/Throwable", "fillInStackTrace", "(I)Ljava/lang/Throwable;"⟩, 6) := ⟨⟨by decide +kernel, by decide +kernel⟩, List.mem_of_getElem? (i := 465) (by decide +kernel), List.mem_of_getElem? (i := 463) (by decide +kernel), List.mem_of_getElem? (i := 464) (by decide +kernel)⟩
theorem lw_p6 : lw_okq (⟨"SofaRailway$Layout", "countLinks", "()I"⟩, 15) := ⟨⟨by decide +kernel, by decide +kernel⟩, List.mem_of_getElem? (i := 38) (by decide +kernel), List.mem_of_getElem? (i := 610) (by decide +kernel), List.mem_of_getElem? (i := 611) (by decide +kernel)⟩
theorem lw_p7 : lw_okq (⟨"SofaRailway", "needBlock", "(I)V"⟩, 11) := ⟨⟨by decide +kernel, by decide +kernel⟩, List.mem_of_getElem? (i := 30) (by decide +kernel), List.mem_of_getElem? (i := 662) (by decide +kernel), List.mem_of_getElem? (i := 663) (by decide +kernel)⟩
theorem lw_p8 : lw_okq (⟨"SofaRailway", "needTrain", "(I)V"⟩, 11) := ⟨⟨by decide +kernel, by decide +kernel⟩, List.mem_of_getElem? (i := 30) (by decide +kernel), List.mem_of_getElem? (i := 748) (by decide +kernel), List.mem_of_getElem? (i := 749) (by decide +kernel)⟩
theorem lw_p9 : lw_okq (⟨"SofaRailway$Layout", "countHolds", "()I"⟩, 15) := ⟨⟨by decide +kernel, by decide +kernel⟩, List.mem_of_getElem? (i := 38) (by decide +kernel), List.mem_of_getElem? (i := 817) (by decide +kernel), List.mem_of_getElem? (i := 818) (by decide +kernel)⟩
theorem lw_p10 : lw_okq (⟨"SofaRailway$Traffic", "consider", "(LSofaRailway$Layout;I)V"⟩, 3) := ⟨⟨by decide +kernel, by decide +kernel⟩, List.mem_of_getElem? (i := 159) (by decide +kernel), List.mem_of_getElem? (i := 916) (by decide +kernel), List.mem_of_getElem? (i := 917) (by decide +kernel)⟩
theorem lw_p11 : lw_okq (⟨"SofaRailway$CommandReader", "match", "(Ljava/lang/String;I)I"⟩, 7) := ⟨⟨by decide +kernel, by decide +kernel⟩, List.mem_of_getElem? (i := 177) (by decide +kernel), List.mem_of_getElem? (i := 1030) (by decide +kernel), List.mem_of_getElem? (i := 1031) (by decide +kernel)⟩
theorem lw_p12 : lw_okq (⟨"SofaRailway$CommandReader", "isDigit", "(I)Z"⟩, 7) := ⟨⟨by decide +kernel, by decide +kernel⟩, List.mem_of_getElem? (i := 177) (by decide +kernel), List.mem_of_getElem? (i := 1082) (by decide +kernel), List.mem_of_getElem? (i := 1083) (by decide +kernel)⟩
theorem lw_p13 : lw_okq (⟨"SofaRailway$CommandReader", "putNumber", "(III)V"⟩, 7) := ⟨⟨by decide +kernel, by decide +kernel⟩, List.mem_of_getElem? (i := 177) (by decide +kernel), List.mem_of_getElem? (i := 1086) (by decide +kernel), List.mem_of_getElem? (i := 1087) (by decide +kernel)⟩
theorem lw_p14 : lw_okq (⟨"SofaRailway$CommandReader", "closeCommand", "(I)Z"⟩, 7) := ⟨⟨by decide +kernel, by decide +kernel⟩, List.mem_of_getElem? (i := 177) (by decide +kernel), List.mem_of_getElem? (i := 1090) (by decide +kernel), List.mem_of_getElem? (i := 1091) (by decide +kernel)⟩
theorem lw_p15 : lw_okq (⟨"SofaRailway", "perform", "(LSofaRailway$Command;II)I"⟩, 11) := ⟨⟨by decide +kernel, by decide +kernel⟩, List.mem_of_getElem? (i := 30) (by decide +kernel), List.mem_of_getElem? (i := 1104) (by decide +kernel), List.mem_of_getElem? (i := 1105) (by decide +kernel)⟩
def lw_privs_1 : List (MethodName × Nat) := [(⟨"SofaRailway$Routes", "unite", "(III)V"⟩, 3), (⟨"SofaRailway$Routes", "nearestOpen", "(II)I"⟩, 3), (⟨"SofaRailway$Traffic", "leadsBack", "(II)Z"⟩, 3), (⟨"SofaRailway$Routes", "shortenFrom", "(LSofaRailway$Layout;I)Z"⟩, 3), (⟨"SofaRailway", "changed", "(I)I"⟩, 11), (⟨"java/lang/Throwable", "fillInStackTrace", "(I)Ljava/lang/Throwable;"⟩, 6), (⟨"SofaRailway$Layout", "countLinks", "()I"⟩, 15), (⟨"SofaRailway", "needBlock", "(I)V"⟩, 11), (⟨"SofaRailway", "needTrain", "(I)V"⟩, 11), (⟨"SofaRailway$Layout", "countHolds", "()I"⟩, 15), (⟨"SofaRailway$Traffic", "consider", "(LSofaRailway$Layout;I)V"⟩, 3), (⟨"SofaRailway$CommandReader", "match", "(Ljava/lang/String;I)I"⟩, 7), (⟨"SofaRailway$CommandReader", "isDigit", "(I)Z"⟩, 7), (⟨"SofaRailway$CommandReader", "putNumber", "(III)V"⟩, 7), (⟨"SofaRailway$CommandReader", "closeCommand", "(I)Z"⟩, 7), (⟨"SofaRailway", "perform", "(LSofaRailway$Command;II)I"⟩, 11)]
theorem lw_r1 : ∀ q ∈ lw_privs_1, lw_okq q := List.forall_mem_cons.mpr ⟨lw_p0, List.forall_mem_cons.mpr ⟨lw_p1, List.forall_mem_cons.mpr ⟨lw_p2, List.forall_mem_cons.mpr ⟨lw_p3, List.forall_mem_cons.mpr ⟨lw_p4, List.forall_mem_cons.mpr ⟨lw_p5, List.forall_mem_cons.mpr ⟨lw_p6, List.forall_mem_cons.mpr ⟨lw_p7, List.forall_mem_cons.mpr ⟨lw_p8, List.forall_mem_cons.mpr ⟨lw_p9, List.forall_mem_cons.mpr ⟨lw_p10, List.forall_mem_cons.mpr ⟨lw_p11, List.forall_mem_cons.mpr ⟨lw_p12, List.forall_mem_cons.mpr ⟨lw_p13, List.forall_mem_cons.mpr ⟨lw_p14, List.forall_mem_cons.mpr ⟨lw_p15, fun _ h => absurd h List.not_mem_nil⟩⟩⟩⟩⟩⟩⟩⟩⟩⟩⟩⟩⟩⟩⟩⟩
theorem lw_p16 : lw_okq (⟨"SofaRailwayModel", "remembers", "()V"⟩, 22) := ⟨⟨by decide +kernel, by decide +kernel⟩, List.mem_of_getElem? (i := 1159) (by decide +kernel), List.mem_of_getElem? (i := 1240) (by decide +kernel), List.mem_of_getElem? (i := 1241) (by decide +kernel)⟩
theorem lw_p17 : lw_okq (⟨"SofaRailwayModel", "adds", "(II)I"⟩, 22) := ⟨⟨by decide +kernel, by decide +kernel⟩, List.mem_of_getElem? (i := 1159) (by decide +kernel), List.mem_of_getElem? (i := 1244) (by decide +kernel), List.mem_of_getElem? (i := 1245) (by decide +kernel)⟩
theorem lw_p18 : lw_okq (⟨"SofaRailwayModel", "done", "(I)I"⟩, 22) := ⟨⟨by decide +kernel, by decide +kernel⟩, List.mem_of_getElem? (i := 1159) (by decide +kernel), List.mem_of_getElem? (i := 1251) (by decide +kernel), List.mem_of_getElem? (i := 1252) (by decide +kernel)⟩
theorem lw_p19 : lw_okq (⟨"SofaRailwayModel", "ends", "(I)I"⟩, 22) := ⟨⟨by decide +kernel, by decide +kernel⟩, List.mem_of_getElem? (i := 1159) (by decide +kernel), List.mem_of_getElem? (i := 1255) (by decide +kernel), List.mem_of_getElem? (i := 1256) (by decide +kernel)⟩
theorem lw_p20 : lw_okq (⟨"SofaRailwayModel", "changed", "(I)I"⟩, 22) := ⟨⟨by decide +kernel, by decide +kernel⟩, List.mem_of_getElem? (i := 1159) (by decide +kernel), List.mem_of_getElem? (i := 1259) (by decide +kernel), List.mem_of_getElem? (i := 1260) (by decide +kernel)⟩
theorem lw_p21 : lw_okq (⟨"SofaRailwayModel", "fails", "(I)I"⟩, 22) := ⟨⟨by decide +kernel, by decide +kernel⟩, List.mem_of_getElem? (i := 1159) (by decide +kernel), List.mem_of_getElem? (i := 1263) (by decide +kernel), List.mem_of_getElem? (i := 1264) (by decide +kernel)⟩
theorem lw_p22 : lw_okq (⟨"SofaRailwayModel", "joins", "(II)I"⟩, 22) := ⟨⟨by decide +kernel, by decide +kernel⟩, List.mem_of_getElem? (i := 1159) (by decide +kernel), List.mem_of_getElem? (i := 1275) (by decide +kernel), List.mem_of_getElem? (i := 1276) (by decide +kernel)⟩
theorem lw_p23 : lw_okq (⟨"SofaRailwayModel", "isBlock", "(I)Z"⟩, 22) := ⟨⟨by decide +kernel, by decide +kernel⟩, List.mem_of_getElem? (i := 1159) (by decide +kernel), List.mem_of_getElem? (i := 1279) (by decide +kernel), List.mem_of_getElem? (i := 1280) (by decide +kernel)⟩
theorem lw_p24 : lw_okq (⟨"SofaRailwayModel", "linked", "(II)Z"⟩, 22) := ⟨⟨by decide +kernel, by decide +kernel⟩, List.mem_of_getElem? (i := 1159) (by decide +kernel), List.mem_of_getElem? (i := 1283) (by decide +kernel), List.mem_of_getElem? (i := 1284) (by decide +kernel)⟩
theorem lw_p25 : lw_okq (⟨"SofaRailwayModel", "links", "()I"⟩, 22) := ⟨⟨by decide +kernel, by decide +kernel⟩, List.mem_of_getElem? (i := 1159) (by decide +kernel), List.mem_of_getElem? (i := 1287) (by decide +kernel), List.mem_of_getElem? (i := 1288) (by decide +kernel)⟩
theorem lw_p26 : lw_okq (⟨"SofaRailwayModel", "parts", "(II)I"⟩, 22) := ⟨⟨by decide +kernel, by decide +kernel⟩, List.mem_of_getElem? (i := 1159) (by decide +kernel), List.mem_of_getElem? (i := 1295) (by decide +kernel), List.mem_of_getElem? (i := 1296) (by decide +kernel)⟩
theorem lw_p27 : lw_okq (⟨"SofaRailwayModel", "seats", "(I)I"⟩, 22) := ⟨⟨by decide +kernel, by decide +kernel⟩, List.mem_of_getElem? (i := 1159) (by decide +kernel), List.mem_of_getElem? (i := 1303) (by decide +kernel), List.mem_of_getElem? (i := 1304) (by decide +kernel)⟩
theorem lw_p28 : lw_okq (⟨"SofaRailwayModel", "block", "(II)I"⟩, 22) := ⟨⟨by decide +kernel, by decide +kernel⟩, List.mem_of_getElem? (i := 1159) (by decide +kernel), List.mem_of_getElem? (i := 1307) (by decide +kernel), List.mem_of_getElem? (i := 1308) (by decide +kernel)⟩
theorem lw_p29 : lw_okq (⟨"SofaRailwayModel", "inside", "(I)I"⟩, 22) := ⟨⟨by decide +kernel, by decide +kernel⟩, List.mem_of_getElem? (i := 1159) (by decide +kernel), List.mem_of_getElem? (i := 1311) (by decide +kernel), List.mem_of_getElem? (i := 1312) (by decide +kernel)⟩
theorem lw_p30 : lw_okq (⟨"SofaRailwayModel", "train", "(II)I"⟩, 22) := ⟨⟨by decide +kernel, by decide +kernel⟩, List.mem_of_getElem? (i := 1159) (by decide +kernel), List.mem_of_getElem? (i := 1315) (by decide +kernel), List.mem_of_getElem? (i := 1316) (by decide +kernel)⟩
theorem lw_p31 : lw_okq (⟨"SofaRailwayModel", "cats", "()I"⟩, 22) := ⟨⟨by decide +kernel, by decide +kernel⟩, List.mem_of_getElem? (i := 1159) (by decide +kernel), List.mem_of_getElem? (i := 1319) (by decide +kernel), List.mem_of_getElem? (i := 1320) (by decide +kernel)⟩
def lw_privs_2 : List (MethodName × Nat) := [(⟨"SofaRailwayModel", "remembers", "()V"⟩, 22), (⟨"SofaRailwayModel", "adds", "(II)I"⟩, 22), (⟨"SofaRailwayModel", "done", "(I)I"⟩, 22), (⟨"SofaRailwayModel", "ends", "(I)I"⟩, 22), (⟨"SofaRailwayModel", "changed", "(I)I"⟩, 22), (⟨"SofaRailwayModel", "fails", "(I)I"⟩, 22), (⟨"SofaRailwayModel", "joins", "(II)I"⟩, 22), (⟨"SofaRailwayModel", "isBlock", "(I)Z"⟩, 22), (⟨"SofaRailwayModel", "linked", "(II)Z"⟩, 22), (⟨"SofaRailwayModel", "links", "()I"⟩, 22), (⟨"SofaRailwayModel", "parts", "(II)I"⟩, 22), (⟨"SofaRailwayModel", "seats", "(I)I"⟩, 22), (⟨"SofaRailwayModel", "block", "(II)I"⟩, 22), (⟨"SofaRailwayModel", "inside", "(I)I"⟩, 22), (⟨"SofaRailwayModel", "train", "(II)I"⟩, 22), (⟨"SofaRailwayModel", "cats", "()I"⟩, 22)]
theorem lw_r2 : ∀ q ∈ lw_privs_2, lw_okq q := List.forall_mem_cons.mpr ⟨lw_p16, List.forall_mem_cons.mpr ⟨lw_p17, List.forall_mem_cons.mpr ⟨lw_p18, List.forall_mem_cons.mpr ⟨lw_p19, List.forall_mem_cons.mpr ⟨lw_p20, List.forall_mem_cons.mpr ⟨lw_p21, List.forall_mem_cons.mpr ⟨lw_p22, List.forall_mem_cons.mpr ⟨lw_p23, List.forall_mem_cons.mpr ⟨lw_p24, List.forall_mem_cons.mpr ⟨lw_p25, List.forall_mem_cons.mpr ⟨lw_p26, List.forall_mem_cons.mpr ⟨lw_p27, List.forall_mem_cons.mpr ⟨lw_p28, List.forall_mem_cons.mpr ⟨lw_p29, List.forall_mem_cons.mpr ⟨lw_p30, List.forall_mem_cons.mpr ⟨lw_p31, fun _ h => absurd h List.not_mem_nil⟩⟩⟩⟩⟩⟩⟩⟩⟩⟩⟩⟩⟩⟩⟩⟩
theorem lw_p32 : lw_okq (⟨"SofaRailwayModel", "shoos", "(I)I"⟩, 22) := ⟨⟨by decide +kernel, by decide +kernel⟩, List.mem_of_getElem? (i := 1159) (by decide +kernel), List.mem_of_getElem? (i := 1327) (by decide +kernel), List.mem_of_getElem? (i := 1328) (by decide +kernel)⟩
theorem lw_p33 : lw_okq (⟨"SofaRailwayModel", "askedBlock", "(II)I"⟩, 22) := ⟨⟨by decide +kernel, by decide +kernel⟩, List.mem_of_getElem? (i := 1159) (by decide +kernel), List.mem_of_getElem? (i := 1339) (by decide +kernel), List.mem_of_getElem? (i := 1340) (by decide +kernel)⟩
theorem lw_p34 : lw_okq (⟨"SofaRailwayModel", "holder", "(I)I"⟩, 22) := ⟨⟨by decide +kernel, by decide +kernel⟩, List.mem_of_getElem? (i := 1159) (by decide +kernel), List.mem_of_getElem? (i := 1367) (by decide +kernel), List.mem_of_getElem? (i := 1368) (by decide +kernel)⟩
theorem lw_p35 : lw_okq (⟨"SofaRailwayModel", "sign", "(I)I"⟩, 22) := ⟨⟨by decide +kernel, by decide +kernel⟩, List.mem_of_getElem? (i := 1159) (by decide +kernel), List.mem_of_getElem? (i := 1375) (by decide +kernel), List.mem_of_getElem? (i := 1376) (by decide +kernel)⟩
theorem lw_p36 : lw_okq (⟨"SofaRailwayModel", "ways", "(I)V"⟩, 22) := ⟨⟨by decide +kernel, by decide +kernel⟩, List.mem_of_getElem? (i := 1159) (by decide +kernel), List.mem_of_getElem? (i := 1383) (by decide +kernel), List.mem_of_getElem? (i := 1384) (by decide +kernel)⟩
theorem lw_p37 : lw_okq (⟨"SofaRailwayModel", "isTrain", "(I)Z"⟩, 22) := ⟨⟨by decide +kernel, by decide +kernel⟩, List.mem_of_getElem? (i := 1159) (by decide +kernel), List.mem_of_getElem? (i := 1396) (by decide +kernel), List.mem_of_getElem? (i := 1397) (by decide +kernel)⟩
theorem lw_p38 : lw_okq (⟨"SofaRailwayModel", "next", "(I)I"⟩, 22) := ⟨⟨by decide +kernel, by decide +kernel⟩, List.mem_of_getElem? (i := 1159) (by decide +kernel), List.mem_of_getElem? (i := 1400) (by decide +kernel), List.mem_of_getElem? (i := 1401) (by decide +kernel)⟩
theorem lw_p39 : lw_okq (⟨"SofaRailwayModel", "goalOf", "(I)I"⟩, 22) := ⟨⟨by decide +kernel, by decide +kernel⟩, List.mem_of_getElem? (i := 1159) (by decide +kernel), List.mem_of_getElem? (i := 1404) (by decide +kernel), List.mem_of_getElem? (i := 1405) (by decide +kernel)⟩
theorem lw_p40 : lw_okq (⟨"SofaRailwayModel", "starts", "(II)I"⟩, 22) := ⟨⟨by decide +kernel, by decide +kernel⟩, List.mem_of_getElem? (i := 1159) (by decide +kernel), List.mem_of_getElem? (i := 1425) (by decide +kernel), List.mem_of_getElem? (i := 1426) (by decide +kernel)⟩
theorem lw_p41 : lw_okq (⟨"SofaRailwayModel", "sets", "(III)V"⟩, 22) := ⟨⟨by decide +kernel, by decide +kernel⟩, List.mem_of_getElem? (i := 1159) (by decide +kernel), List.mem_of_getElem? (i := 1429) (by decide +kernel), List.mem_of_getElem? (i := 1430) (by decide +kernel)⟩
theorem lw_p42 : lw_okq (⟨"SofaRailwayModel", "aims", "(II)I"⟩, 22) := ⟨⟨by decide +kernel, by decide +kernel⟩, List.mem_of_getElem? (i := 1159) (by decide +kernel), List.mem_of_getElem? (i := 1437) (by decide +kernel), List.mem_of_getElem? (i := 1438) (by decide +kernel)⟩
theorem lw_p43 : lw_okq (⟨"SofaRailwayModel", "forgets", "(I)I"⟩, 22) := ⟨⟨by decide +kernel, by decide +kernel⟩, List.mem_of_getElem? (i := 1159) (by decide +kernel), List.mem_of_getElem? (i := 1445) (by decide +kernel), List.mem_of_getElem? (i := 1446) (by decide +kernel)⟩
theorem lw_p44 : lw_okq (⟨"SofaRailwayModel", "holds", "(II)I"⟩, 22) := ⟨⟨by decide +kernel, by decide +kernel⟩, List.mem_of_getElem? (i := 1159) (by decide +kernel), List.mem_of_getElem? (i := 1453) (by decide +kernel), List.mem_of_getElem? (i := 1454) (by decide +kernel)⟩
theorem lw_p45 : lw_okq (⟨"SofaRailwayModel", "held", "(I)I"⟩, 22) := ⟨⟨by decide +kernel, by decide +kernel⟩, List.mem_of_getElem? (i := 1159) (by decide +kernel), List.mem_of_getElem? (i := 1457) (by decide +kernel), List.mem_of_getElem? (i := 1458) (by decide +kernel)⟩
theorem lw_p46 : lw_okq (⟨"SofaRailwayModel", "frees", "(I)I"⟩, 22) := ⟨⟨by decide +kernel, by decide +kernel⟩, List.mem_of_getElem? (i := 1159) (by decide +kernel), List.mem_of_getElem? (i := 1465) (by decide +kernel), List.mem_of_getElem? (i := 1466) (by decide +kernel)⟩
theorem lw_p47 : lw_okq (⟨"SofaRailwayModel", "rescues", "(I)I"⟩, 22) := ⟨⟨by decide +kernel, by decide +kernel⟩, List.mem_of_getElem? (i := 1159) (by decide +kernel), List.mem_of_getElem? (i := 1473) (by decide +kernel), List.mem_of_getElem? (i := 1474) (by decide +kernel)⟩
def lw_privs_3 : List (MethodName × Nat) := [(⟨"SofaRailwayModel", "shoos", "(I)I"⟩, 22), (⟨"SofaRailwayModel", "askedBlock", "(II)I"⟩, 22), (⟨"SofaRailwayModel", "holder", "(I)I"⟩, 22), (⟨"SofaRailwayModel", "sign", "(I)I"⟩, 22), (⟨"SofaRailwayModel", "ways", "(I)V"⟩, 22), (⟨"SofaRailwayModel", "isTrain", "(I)Z"⟩, 22), (⟨"SofaRailwayModel", "next", "(I)I"⟩, 22), (⟨"SofaRailwayModel", "goalOf", "(I)I"⟩, 22), (⟨"SofaRailwayModel", "starts", "(II)I"⟩, 22), (⟨"SofaRailwayModel", "sets", "(III)V"⟩, 22), (⟨"SofaRailwayModel", "aims", "(II)I"⟩, 22), (⟨"SofaRailwayModel", "forgets", "(I)I"⟩, 22), (⟨"SofaRailwayModel", "holds", "(II)I"⟩, 22), (⟨"SofaRailwayModel", "held", "(I)I"⟩, 22), (⟨"SofaRailwayModel", "frees", "(I)I"⟩, 22), (⟨"SofaRailwayModel", "rescues", "(I)I"⟩, 22)]
theorem lw_r3 : ∀ q ∈ lw_privs_3, lw_okq q := List.forall_mem_cons.mpr ⟨lw_p32, List.forall_mem_cons.mpr ⟨lw_p33, List.forall_mem_cons.mpr ⟨lw_p34, List.forall_mem_cons.mpr ⟨lw_p35, List.forall_mem_cons.mpr ⟨lw_p36, List.forall_mem_cons.mpr ⟨lw_p37, List.forall_mem_cons.mpr ⟨lw_p38, List.forall_mem_cons.mpr ⟨lw_p39, List.forall_mem_cons.mpr ⟨lw_p40, List.forall_mem_cons.mpr ⟨lw_p41, List.forall_mem_cons.mpr ⟨lw_p42, List.forall_mem_cons.mpr ⟨lw_p43, List.forall_mem_cons.mpr ⟨lw_p44, List.forall_mem_cons.mpr ⟨lw_p45, List.forall_mem_cons.mpr ⟨lw_p46, List.forall_mem_cons.mpr ⟨lw_p47, fun _ h => absurd h List.not_mem_nil⟩⟩⟩⟩⟩⟩⟩⟩⟩⟩⟩⟩⟩⟩⟩⟩
theorem lw_p48 : lw_okq (⟨"SofaRailwayModel", "asked", "(II)I"⟩, 22) := ⟨⟨by decide +kernel, by decide +kernel⟩, List.mem_of_getElem? (i := 1159) (by decide +kernel), List.mem_of_getElem? (i := 1485) (by decide +kernel), List.mem_of_getElem? (i := 1486) (by decide +kernel)⟩
theorem lw_p49 : lw_okq (⟨"SofaRailwayModel", "ranked", "(I)I"⟩, 22) := ⟨⟨by decide +kernel, by decide +kernel⟩, List.mem_of_getElem? (i := 1159) (by decide +kernel), List.mem_of_getElem? (i := 1513) (by decide +kernel), List.mem_of_getElem? (i := 1514) (by decide +kernel)⟩
theorem lw_p50 : lw_okq (⟨"SofaRailwayModel", "blocker", "(I)I"⟩, 22) := ⟨⟨by decide +kernel, by decide +kernel⟩, List.mem_of_getElem? (i := 1159) (by decide +kernel), List.mem_of_getElem? (i := 1521) (by decide +kernel), List.mem_of_getElem? (i := 1522) (by decide +kernel)⟩
theorem lw_p51 : lw_okq (⟨"SofaRailwayModel", "passes", "(I)I"⟩, 22) := ⟨⟨by decide +kernel, by decide +kernel⟩, List.mem_of_getElem? (i := 1159) (by decide +kernel), List.mem_of_getElem? (i := 1538) (by decide +kernel), List.mem_of_getElem? (i := 1539) (by decide +kernel)⟩
theorem lw_p52 : lw_okq (⟨"SofaRailwayModel", "oneTick", "()I"⟩, 22) := ⟨⟨by decide +kernel, by decide +kernel⟩, List.mem_of_getElem? (i := 1159) (by decide +kernel), List.mem_of_getElem? (i := 1542) (by decide +kernel), List.mem_of_getElem? (i := 1543) (by decide +kernel)⟩
theorem lw_p53 : lw_okq (⟨"SofaRailwayModel", "acts", "(I)Z"⟩, 22) := ⟨⟨by decide +kernel, by decide +kernel⟩, List.mem_of_getElem? (i := 1159) (by decide +kernel), List.mem_of_getElem? (i := 1546) (by decide +kernel), List.mem_of_getElem? (i := 1547) (by decide +kernel)⟩
theorem lw_p54 : lw_okq (⟨"SofaRailwayModel", "writes", "(I)V"⟩, 22) := ⟨⟨by decide +kernel, by decide +kernel⟩, List.mem_of_getElem? (i := 1159) (by decide +kernel), List.mem_of_getElem? (i := 1574) (by decide +kernel), List.mem_of_getElem? (i := 1575) (by decide +kernel)⟩
theorem lw_p55 : lw_okq (⟨"SofaRailwayModel", "writesNumber", "(I)V"⟩, 22) := ⟨⟨by decide +kernel, by decide +kernel⟩, List.mem_of_getElem? (i := 1159) (by decide +kernel), List.mem_of_getElem? (i := 1578) (by decide +kernel), List.mem_of_getElem? (i := 1579) (by decide +kernel)⟩
theorem lw_p56 : lw_okq (⟨"SofaRailwayModel", "readsOne", "()V"⟩, 22) := ⟨⟨by decide +kernel, by decide +kernel⟩, List.mem_of_getElem? (i := 1159) (by decide +kernel), List.mem_of_getElem? (i := 1602) (by decide +kernel), List.mem_of_getElem? (i := 1603) (by decide +kernel)⟩
theorem lw_p57 : lw_okq (⟨"SofaRailwayModel", "here", "(I)I"⟩, 22) := ⟨⟨by decide +kernel, by decide +kernel⟩, List.mem_of_getElem? (i := 1159) (by decide +kernel), List.mem_of_getElem? (i := 1606) (by decide +kernel), List.mem_of_getElem? (i := 1607) (by decide +kernel)⟩
theorem lw_p58 : lw_okq (⟨"SofaRailwayModel", "one", "(ILjava/lang/String;I)V"⟩, 22) := ⟨⟨by decide +kernel, by decide +kernel⟩, List.mem_of_getElem? (i := 1159) (by decide +kernel), List.mem_of_getElem? (i := 1611) (by decide +kernel), List.mem_of_getElem? (i := 1612) (by decide +kernel)⟩
theorem lw_p59 : lw_okq (⟨"SofaRailwayModel", "says", "(Ljava/lang/String;)V"⟩, 22) := ⟨⟨by decide +kernel, by decide +kernel⟩, List.mem_of_getElem? (i := 1159) (by decide +kernel), List.mem_of_getElem? (i := 1615) (by decide +kernel), List.mem_of_getElem? (i := 1616) (by decide +kernel)⟩
theorem lw_p60 : lw_okq (⟨"SofaRailwayModel", "number", "(II)V"⟩, 22) := ⟨⟨by decide +kernel, by decide +kernel⟩, List.mem_of_getElem? (i := 1159) (by decide +kernel), List.mem_of_getElem? (i := 1621) (by decide +kernel), List.mem_of_getElem? (i := 1622) (by decide +kernel)⟩
theorem lw_p61 : lw_okq (⟨"SofaRailwayModel", "two", "(ILjava/lang/String;ILjava/lang/String;I)V"⟩, 22) := ⟨⟨by decide +kernel, by decide +kernel⟩, List.mem_of_getElem? (i := 1159) (by decide +kernel), List.mem_of_getElem? (i := 1629) (by decide +kernel), List.mem_of_getElem? (i := 1630) (by decide +kernel)⟩
theorem lw_p62 : lw_okq (⟨"SofaRailwayModel", "does", "(I)I"⟩, 22) := ⟨⟨by decide +kernel, by decide +kernel⟩, List.mem_of_getElem? (i := 1159) (by decide +kernel), List.mem_of_getElem? (i := 1641) (by decide +kernel), List.mem_of_getElem? (i := 1642) (by decide +kernel)⟩
def lw_privs_4 : List (MethodName × Nat) := [(⟨"SofaRailwayModel", "asked", "(II)I"⟩, 22), (⟨"SofaRailwayModel", "ranked", "(I)I"⟩, 22), (⟨"SofaRailwayModel", "blocker", "(I)I"⟩, 22), (⟨"SofaRailwayModel", "passes", "(I)I"⟩, 22), (⟨"SofaRailwayModel", "oneTick", "()I"⟩, 22), (⟨"SofaRailwayModel", "acts", "(I)Z"⟩, 22), (⟨"SofaRailwayModel", "writes", "(I)V"⟩, 22), (⟨"SofaRailwayModel", "writesNumber", "(I)V"⟩, 22), (⟨"SofaRailwayModel", "readsOne", "()V"⟩, 22), (⟨"SofaRailwayModel", "here", "(I)I"⟩, 22), (⟨"SofaRailwayModel", "one", "(ILjava/lang/String;I)V"⟩, 22), (⟨"SofaRailwayModel", "says", "(Ljava/lang/String;)V"⟩, 22), (⟨"SofaRailwayModel", "number", "(II)V"⟩, 22), (⟨"SofaRailwayModel", "two", "(ILjava/lang/String;ILjava/lang/String;I)V"⟩, 22), (⟨"SofaRailwayModel", "does", "(I)I"⟩, 22)]
theorem lw_r4 : ∀ q ∈ lw_privs_4, lw_okq q := List.forall_mem_cons.mpr ⟨lw_p48, List.forall_mem_cons.mpr ⟨lw_p49, List.forall_mem_cons.mpr ⟨lw_p50, List.forall_mem_cons.mpr ⟨lw_p51, List.forall_mem_cons.mpr ⟨lw_p52, List.forall_mem_cons.mpr ⟨lw_p53, List.forall_mem_cons.mpr ⟨lw_p54, List.forall_mem_cons.mpr ⟨lw_p55, List.forall_mem_cons.mpr ⟨lw_p56, List.forall_mem_cons.mpr ⟨lw_p57, List.forall_mem_cons.mpr ⟨lw_p58, List.forall_mem_cons.mpr ⟨lw_p59, List.forall_mem_cons.mpr ⟨lw_p60, List.forall_mem_cons.mpr ⟨lw_p61, List.forall_mem_cons.mpr ⟨lw_p62, fun _ h => absurd h List.not_mem_nil⟩⟩⟩⟩⟩⟩⟩⟩⟩⟩⟩⟩⟩⟩⟩
def lw_privs : List (MethodName × Nat) := lw_privs_1 ++ (lw_privs_2 ++ (lw_privs_3 ++ (lw_privs_4)))
def lw_tbl : List Cond := k2_sels lw_privs ++ tables_1
theorem lw_privs_ok : ∀ q ∈ lw_privs, lw_okq q := by
  show ∀ q ∈ lw_privs_1 ++ (lw_privs_2 ++ (lw_privs_3 ++ (lw_privs_4))), lw_okq q
  exact List.forall_mem_append.mpr ⟨lw_r1, List.forall_mem_append.mpr ⟨lw_r2, List.forall_mem_append.mpr ⟨lw_r3, lw_r4⟩⟩⟩
/-- the streams that the claim lets the run draw from -/
abbrev lw_cs : List Choice := [Jvm.Choice.named "NaN.bits"]
theorem lw_bits : nanBits ∈ lw_cs := by first | decide | exact List.mem_cons_self | simp [lw_cs, nanBits]

/-! ===== BEGIN words of one list among another's, by their places ===== -/
theorem goodIn_r {big : List Cond} (ws : List Cond) (ps : List Nat) (hp : ws = ps.filterMap (fun i => big[i]?)) (h : ws.all goodWord = true) : GoodIn big ws := by
  intro w hw
  have h1 := List.all_eq_true.mp h w hw
  rw [hp] at hw
  obtain ⟨i, -, hi⟩ := List.mem_filterMap.mp hw
  have hm : w ∈ big := by first | exact List.mem_of_getElem? hi | exact List.getElem?_mem hi
  exact ⟨hm, good_of_word h1⟩
theorem goodIn_app {big a b : List Cond} (ha : GoodIn big a) (hb : GoodIn big b) : GoodIn big (a ++ b) := fun w h => (List.mem_append.mp h).elim (ha w) (hb w)
theorem goodIn_ca {big a b : List Cond} {c : Cond} (ha : GoodIn big (c :: a)) (hb : GoodIn big b) : GoodIn big (c :: (a ++ b)) := fun w h => (List.mem_cons.mp h).elim (fun e => ha w (List.mem_cons.mpr (Or.inl e))) (fun h => (List.mem_append.mp h).elim (fun h => ha w (List.mem_cons.mpr (Or.inr h))) (hb w))
theorem goodIn_sub {big ws : List Cond} (hm : ∀ w ∈ ws, w ∈ big) (h : ws.all goodWord = true) : GoodIn big ws := fun w hw => ⟨hm w hw, good_of_word (List.all_eq_true.mp h w hw)⟩
/-! ===== END ===== -/

/-! ===== BEGIN exceptions that leave a method, and their catching by the caller (launches without stack traces) ===== -/
section VXA
/-! The laws vx_back, vx_callV, vx_callS, vx_callSW, vx_throw0, vx_throwS follow proofs of the library, with one case more: JvmDerived/Free/Laws.lean (Back.of_free), Shelf42/LK1.lean (callV, callS), Shelf/KitTraced.lean (throwNew0V, throwNewS). -/
/-- where a method has thrown q: the class by its name, the cell, what was written, the world -/
def vx_T (XC : String → State → State → Prop) (st : State) (q : Addr) (t : State) (mc ms : Nat) (free : Addr → Prop) : Prop :=
  ∃ (E : String) (ce : Cell) (L : List Loc), XC E st t ∧ t.heap[q]? = some ce ∧ ce.vm = .none ∧ st.vm.findClass E = some ce.cls ∧ st.WarmedH t.vm ∧ st.sameButNew ({ t with vm := st.vm } : State) L mc ms ∧ ∀ z ∈ L, free z.base
def vx_Q (Qc : Array Value → State → Outcome → State → Prop) (XC : String → State → State → Prop) (mc ms : Nat) (free : Addr → Prop) : Array Value → State → Outcome → State → Prop := fun a st o t =>
  (Qc a st o t ∧ ∃ L, FrameEnd st o t L mc ms ∧ ∀ q ∈ L, free q.base) ∨ ∃ q, o = .threw q ∧ vx_T XC st q t mc ms free
/-- a callee that returns or throws -/
def vx_Met (l : Launch) (y : MethodName) (ws : List Cond) (rm : Room) (Pc : Array Value → State → Prop) (Qc : Array Value → State → Outcome → State → Prop) (XC : String → State → State → Prop) (mc ms : Nat) (free : Addr → Prop) : Prop :=
  MetFree l y (headSpec ws rm) Pc (fun _ _ _ _ _ => True) (vx_Q Qc XC mc ms free)
def vx_Post (XC : String → State → State → Prop) (mc ms : Nat) (free : Addr → Prop) : Pt → Array Value → Addr → Pt → Prop := fun A a q B =>
  ∃ (g : JFrame) (mk : MethodId) (t : State) (L : List Loc) (E : String) (ce : Cell), B.U.heap = t.heap ∧ B.U.vm = t.vm ∧ XC E (A.U.calling g mk a) t ∧ t.heap[q]? = some ce ∧ ce.vm = .none ∧ A.U.vm.findClass E = some ce.cls ∧ B.locs = A.locs ++ L ∧ (∀ z ∈ L, free z.base) ∧ B.cells = A.cells + mc ∧ B.slots = A.slots + ms
def vx_Back (l : Launch) (R : Room) (p : Program) (e : Env) (below : List Frame) (s : State) (sargs : Array Value) (y : MethodName) (len W9 : Nat)
    (Pre : Pt → Array Value → Prop) (Post : Pt → Array Value → Option Value → Pt → Prop) (PostX : Pt → Array Value → Addr → Pt → Prop) : Prop :=
  ∀ (m : MethodId) (meth : Method) (c : Code) (A : Pt) (g : JFrame) (ig : Instr) (mk : MethodId) (a : Array Value),
    Stand p l e R s m sargs below meth c A.U A.locs A.cells A.slots → g.method = m → g.locals.size = c.maxLocals → decode c.code g.pc = .ok (ig, len) →
    2 * g.monitorRoom + (g.stack.map fun v => v.category).sum ≤ W9 → A.U.methodNamed? y = some mk → Pre A a →
    (∃ (v : Option Value) (B : Pt), Stand p l e R s m sargs below meth c B.U B.locs B.cells B.slots ∧ Post A a v B ∧
      Steps p.tables e below (doInvoke e (A.U.setTop g) [] mk a).1 (B.U.setTop { g with pc := g.pc + len, stack := v.toList ++ g.stack })) ∨
    (∃ (q : Addr) (B : Pt), Stand p l e R s m sargs below meth c B.U B.locs B.cells B.slots ∧ PostX A a q B ∧
      Steps p.tables e below (doInvoke e (A.U.setTop g) [] mk a).1 ((B.U.setTop g).pushFrame (.throwing q)))
section Payer
variable {l : Launch} {R : Room} {p : Program} {e : Env} {below : List Frame} {s : State} {sargs : Array Value} {y : MethodName} {len W9 : Nat}
theorem vx_back {ws : List Cond} {rm : Room} {Pc : Array Value → State → Prop} {Qc : Array Value → State → Outcome → State → Prop} {XC : String → State → State → Prop} {mc ms : Nat} {free : Addr → Prop} {bytes : ByteArray} {maxL : Nat} {ret : Option FieldType}
    (hM : vx_Met l y ws rm Pc Qc XC mc ms free) (hblind : FrameBlind Pc) (hrc : rm.cells = mc) (hrs : rm.slots = ms)
    (hframes : rm.frames + 1 ≤ R.frames) (hlocals : W9 + (maxL + 11) + rm.locals ≤ R.locals)
    (hws : ∀ w ∈ ws, ∀ a' U, s.WarmedH U.vm → w.before a' U = true) (hcode : Cond.code y bytes maxL ret ∈ ws) (hinit : ∀ a' U, s.WarmedH U.vm → (Cond.initialized y.cls).before a' U = true) :
    vx_Back l R p e below s sargs y len W9 (PreOf R mc ms Pc) (PostOf Qc mc ms free) (vx_Post XC mc ms free) := by
  intro m meth c A g ig mk a X hg hsize hdg hW hn hp
  have h1 : (headSpec ws rm).pre.before a A.U = true := atoms_intro fun w hw => hws w hw _ _ X.warmed
  have h2 : (Cond.code y bytes maxL ret).before a A.U = true := hws _ hcode _ _ X.warmed
  have h3 : (Cond.initialized y.cls).before a A.U = true := hinit _ _ X.warmed
  have h4 : A.cells + (headSpec ws rm).room.cells ≤ R.cells := by rw [show (headSpec ws rm).room.cells = mc from hrc]; exact hp.1
  have h5 : A.slots + (headSpec ws rm).room.slots ≤ R.slots := by rw [show (headSpec ws rm).room.slots = ms from hrs]; exact hp.2.1
  have hPc : Pc a (A.U.calling g mk a) := hblind _ _ _ _ hp.2.2
  obtain ⟨U, Ls, c0, s0⟩ := A
  dsimp only [Pt.U, Pt.locs, Pt.cells, Pt.slots] at h1 h2 h3 h4 h5 X hn hPc ⊢
  obtain ⟨methY, cY, hmY, hcY, -, hlY, -, -, -, -⟩ := Cond.code_spec hn h2
  obtain ⟨kY, hkY, -⟩ := className_of_methodNamed hn
  have hinitY : kY.init = .initialized := Cond.initialized_spec (findClass_of_methodNamed hn) hkY h3
  have h : At U g.method c below := by rw [hg]; exact X.here
  have hlocals9 : W9 + (maxL + 11) + (headSpec ws rm).room.locals ≤ R.locals := hlocals
  have happ : (headSpec ws rm).appliesLoose y e.platform (U.calling g mk a) = true :=
    Spec.appliesLoose_calling (g := g) h hdg hn hkY hinitY
      (X.room_calling (g := g) (R' := (headSpec ws rm).room) hsize hmY hcY hframes (by rw [hlY]; omega) h4 h5) h1
  obtain ⟨mid, hmid⟩ := h.above
  have hfr : (U.setTop g).frames = (.java g :: mid) ++ below := by rw [State.frames_setTop' g h.top, hmid]; rfl
  obtain ⟨o, s₂, hsteps, -, hend, hq⟩ := Steps.callFree hM p X.admits X.cas X.clock (acts := []) hfr happ hPc trivial
  have hq' : vx_Q Qc XC mc ms free a (U.calling g mk a) o s₂ := hq
  rw [State.frames_setTop' g h.top] at hend
  obtain ⟨g₀, hg0⟩ := Option.isSome_iff_exists.mp h.top
  obtain ⟨r, hr⟩ := State.topJava?_eq_some.mp hg0
  have hr' : (({ U with heap := s₂.heap, slotsUsed := s₂.slotsUsed } : State).setVm s₂.vm).frames = .java g₀ :: r := hr
  rcases hq' with ⟨hqc, L, hfe, hL⟩ | ⟨q, rfl, E, ce, L, hx, hce, hcv, hcl, hW₂, hsm, hL⟩
  · obtain ⟨⟨v, rfl⟩, hW₂, e2, q2, q3, q4, q5, q6⟩ := id hfe
    have e3 : s₂ = ({ (U.calling g mk a).setFrames s₂.frames with heap := s₂.heap, slotsUsed := s₂.slotsUsed } : State).setVm s₂.vm := by
      have : s₂ = ({ s₂ with vm := (U.calling g mk a).vm } : State).setVm s₂.vm := rfl
      rw [e2] at this
      exact this
    obtain ⟨c₂, i₂, len₂, hc₂, hd₂, hf₂⟩ := hend
    have hW' : U.WarmedH s₂.vm := hW₂
    have hcc : c₂ = c := by
      have h1 : s₂.code? g.method = U.code? g.method := by
        rw [State.code?_eq, State.code?_eq, hW'.alike.method?]
      exact Option.some.inj (hc₂.symm.trans (h1.trans h.code))
    subst hcc
    have hlen : len₂ = len := by rw [hdg] at hd₂; cases hd₂; rfl
    subst hlen
    have hs₂ : s₂ = (({ U with heap := s₂.heap, slotsUsed := s₂.slotsUsed } : State).setVm s₂.vm).setTop { g with pc := g.pc + len₂, stack := v.toList ++ g.stack } := by
      refine e3.trans ?_
      rw [hf₂, State.calling_eq h.top, State.setFrames_setFrames, State.setTop_of_frames _ hr', hr]
      rfl
    have hsame : U.sameButNew ({ U with heap := s₂.heap, slotsUsed := s₂.slotsUsed } : State) L mc ms := by
      refine ⟨?_, q2, q3, q4, q5, q6⟩
      obtain ⟨t, ht, -⟩ := State.frames_cons hr
      show ({ U with heap := s₂.heap, slotsUsed := s₂.slotsUsed } : State) = { U.setFrames U.frames with heap := s₂.heap, slotsUsed := s₂.slotsUsed }
      rw [State.setFrames_self ht]
    subst hg
    refine Or.inl ⟨v, ⟨(({ U with heap := s₂.heap, slotsUsed := s₂.slotsUsed } : State).setVm s₂.vm), Ls ++ L, c0 + mc, s0 + ms⟩,
      ⟨X.admits, X.cas, X.clock, X.frames, X.room, X.hears, X.method, X.code, (X.here.setHeapUsed s₂.heap s₂.slotsUsed).setVm hW'.alike, X.tail, State.WarmedH.trans X.warmed hW', X.limits, X.bytes, X.same.trans (hsame.setVm s.vm)⟩,
      ⟨g, mk, s₂, L, rfl, rfl, hqc, rfl, hL, rfl, rfl⟩, ?_⟩
    show Steps p.tables e below _ ((({ U with heap := s₂.heap, slotsUsed := s₂.slotsUsed } : State).setVm s₂.vm).setTop { g with pc := g.pc + len₂, stack := v.toList ++ g.stack })
    rw [← hs₂]
    exact hsteps
  · obtain ⟨e2, q2, q3, q4, q5, q6⟩ := id hsm
    have e3 : s₂ = ({ (U.calling g mk a).setFrames s₂.frames with heap := s₂.heap, slotsUsed := s₂.slotsUsed } : State).setVm s₂.vm := by
      have : s₂ = ({ s₂ with vm := (U.calling g mk a).vm } : State).setVm s₂.vm := rfl
      rw [e2] at this
      exact this
    have hf₂ : s₂.frames = .throwing q :: .java g :: U.frames.tail := hend
    have hW' : U.WarmedH s₂.vm := hW₂
    have hs₂ : s₂ = ((({ U with heap := s₂.heap, slotsUsed := s₂.slotsUsed } : State).setVm s₂.vm).setTop g).pushFrame (.throwing q) := by
      refine e3.trans ?_
      rw [hf₂, State.calling_eq h.top, State.setFrames_setFrames, State.pushFrame, State.frames_setTop _ hr', State.setTop_of_frames _ hr', State.setFrames_setFrames, hr]
      rfl
    have hsame : U.sameButNew ({ U with heap := s₂.heap, slotsUsed := s₂.slotsUsed } : State) L mc ms := by
      refine ⟨?_, q2, q3, q4, q5, q6⟩
      obtain ⟨t, ht, -⟩ := State.frames_cons hr
      show ({ U with heap := s₂.heap, slotsUsed := s₂.slotsUsed } : State) = { U.setFrames U.frames with heap := s₂.heap, slotsUsed := s₂.slotsUsed }
      rw [State.setFrames_self ht]
    subst hg
    refine Or.inr ⟨q, ⟨(({ U with heap := s₂.heap, slotsUsed := s₂.slotsUsed } : State).setVm s₂.vm), Ls ++ L, c0 + mc, s0 + ms⟩,
      ⟨X.admits, X.cas, X.clock, X.frames, X.room, X.hears, X.method, X.code, (X.here.setHeapUsed s₂.heap s₂.slotsUsed).setVm hW'.alike, X.tail, State.WarmedH.trans X.warmed hW', X.limits, X.bytes, X.same.trans (hsame.setVm s.vm)⟩,
      ⟨g, mk, s₂, L, E, ce, rfl, rfl, hx, hce, hcv, hcl, rfl, hL, rfl, rfl⟩, ?_⟩
    show Steps p.tables e below _ (((({ U with heap := s₂.heap, slotsUsed := s₂.slotsUsed } : State).setVm s₂.vm).setTop g).pushFrame (.throwing q))
    rw [← hs₂]
    exact hsteps
end Payer
section Calls
variable {p : Program} {l : Launch} {e : Env} {R : Room} {s : State} {m : MethodId} {args : Array Value} {below : List Frame} {meth : Method} {c : Code} {T : State} {locs : List Loc} {cells slots : Nat}
theorem vx_callV (X : Stand p l e R s m args below meth c T locs cells slots) (hexec : p.tables.exec = Jvm.exec) {own C : String} {index : Nat} {y : MethodName} {bytes : ByteArray} {maxL : Nat} {ret : Option FieldType}
    (hown : s.vm.findClass own = some m.cls) (hlink : (Cond.methodLink own index y).before args s = true) (hinst : (Cond.instanceMethod y).before args s = true) (hsel : (Cond.selects C y y).before args s = true)
    (hcode : (Cond.code y bytes maxL ret).before args s = true) (hy : y.cls ≠ "java/lang/invoke/MethodHandle" ∧ y.cls ≠ "java/lang/invoke/VarHandle")
    {W9 : Nat} {Pre : Pt → Array Value → Prop} {Post : Pt → Array Value → Option Value → Pt → Prop} {PostX : Pt → Array Value → Addr → Pt → Prop} (hK : vx_Back l R p e below s args y 3 W9 Pre Post PostX)
    {b : Addr} {cellB : Cell} (hcell : T.heap[b]? = some cellB) (hobj : cellB.vm.isStatics = false) (hcls : s.vm.findClass C = some cellB.cls)
    {g : JFrame} (hg : g.method = m) (hsize : g.locals.size = c.maxLocals) {argsL rest : List Value} (hlen : ∀ sig, parseMethodDescriptor y.desc = some sig → argsL.length = sig.parameters.length)
    (hstack : g.stack = argsL.reverse ++ .ref b :: rest) (hW : 2 * g.monitorRoom + (rest.map fun v => v.category).sum ≤ W9) (hdg : decode c.code g.pc = .ok (.invokevirtual index, 3))
    (hpre : ∀ vm₁, s.WarmedH vm₁ → Pre ⟨T.setVm vm₁, locs, cells, slots⟩ (Value.ref b :: argsL).toArray) :
    (∃ (v : Option Value) (vm₁ : Vm) (B : Pt), s.WarmedH vm₁ ∧ Stand p l e R s m args below meth c B.U B.locs B.cells B.slots ∧ Post ⟨T.setVm vm₁, locs, cells, slots⟩ (Value.ref b :: argsL).toArray v B ∧
      ∀ target, Steps p.tables e below (B.U.setTop { g with pc := g.pc + 3, stack := v.toList ++ rest }) target → Steps p.tables e below (T.setTop g) target) ∨
    (∃ (q : Addr) (vm₁ : Vm) (B : Pt), s.WarmedH vm₁ ∧ Stand p l e R s m args below meth c B.U B.locs B.cells B.slots ∧ PostX ⟨T.setVm vm₁, locs, cells, slots⟩ (Value.ref b :: argsL).toArray q B ∧
      Steps p.tables e below (T.setTop g) ((B.U.setTop { g with stack := rest }).pushFrame (.throwing q))) := by
  obtain ⟨mk, methM, hnamed, hmethM, hstM, habM⟩ := Cond.instanceMethod_spec hinst
  obtain ⟨methM', cM, hmethM', -, -, -, -, -, -, hsigM⟩ := Cond.code_spec hnamed hcode
  cases hmethM.symm.trans hmethM'
  obtain ⟨c2, r2, m2, q1, q2, q3, q4, kP, hkP, hkPi⟩ := Cond.selects_spec hsel
  cases hcls.symm.trans q1
  cases (State.methodFound?_of_named hnamed hy).symm.trans q2
  cases hnamed.symm.trans q3
  have hselP : selectMethod e.platform s.vm cellB.cls mk = .method mk := by rw [Launch.admits_selectMethod X.admits]; exact q4
  obtain ⟨vm₁, X₁, hstep₁⟩ := X.invokevirtual hexec hown hlink hnamed hmethM hstM hkP hkPi hy (a := b) (cell := cellB) hcell
    (fun z h => by rw [h] at hobj; cases hobj) hselP hmethM habM hkP hkPi (g := g) hg (argsL := argsL) (rest := rest) (hlen _ hsigM) hstack hdg
  rcases hK m meth c ⟨T.setVm vm₁, locs, cells, slots⟩ { g with stack := rest } (.invokevirtual index) mk (Value.ref b :: argsL).toArray X₁ hg hsize hdg hW (X₁.named hnamed) (hpre vm₁ X₁.warmed) with ⟨v, B, X', hpost, hsteps⟩ | ⟨q, B, X', hpost, hsteps⟩
  · exact Or.inl ⟨v, vm₁, B, X₁.warmed, X', hpost, fun target h => hstep₁ _ fun acts => by rw [doInvoke_state]; exact hsteps.trans h⟩
  · exact Or.inr ⟨q, vm₁, B, X₁.warmed, X', hpost, hstep₁ _ fun acts => by rw [doInvoke_state]; exact hsteps⟩
theorem vx_callS (X : Stand p l e R s m args below meth c T locs cells slots) (hexec : p.tables.exec = Jvm.exec) {own : String} {index : Nat} {y : MethodName} {bytes : ByteArray} {maxL : Nat} {ret : Option FieldType}
    (hown : s.vm.findClass own = some m.cls) (hlink : (Cond.methodLink own index y).before args s = true) (hstat : (Cond.static y).before args s = true) (hinit : (Cond.initialized y.cls).before args s = true)
    (hcode : (Cond.code y bytes maxL ret).before args s = true) (hy : y.cls ≠ "java/lang/invoke/MethodHandle" ∧ y.cls ≠ "java/lang/invoke/VarHandle")
    {W9 : Nat} {Pre : Pt → Array Value → Prop} {Post : Pt → Array Value → Option Value → Pt → Prop} {PostX : Pt → Array Value → Addr → Pt → Prop} (hK : vx_Back l R p e below s args y 3 W9 Pre Post PostX)
    {g : JFrame} (hg : g.method = m) (hsize : g.locals.size = c.maxLocals) {argsL rest : List Value} (hlen : ∀ sig, parseMethodDescriptor y.desc = some sig → argsL.length = sig.parameters.length)
    (hstack : g.stack = argsL.reverse ++ rest) (hW : 2 * g.monitorRoom + (rest.map fun v => v.category).sum ≤ W9) (hdg : decode c.code g.pc = .ok (.invokestatic index, 3))
    (hpre : ∀ vm₁, s.WarmedH vm₁ → Pre ⟨T.setVm vm₁, locs, cells, slots⟩ argsL.toArray) :
    (∃ (v : Option Value) (vm₁ : Vm) (B : Pt), s.WarmedH vm₁ ∧ Stand p l e R s m args below meth c B.U B.locs B.cells B.slots ∧ Post ⟨T.setVm vm₁, locs, cells, slots⟩ argsL.toArray v B ∧
      ∀ target, Steps p.tables e below (B.U.setTop { g with pc := g.pc + 3, stack := v.toList ++ rest }) target → Steps p.tables e below (T.setTop g) target) ∨
    (∃ (q : Addr) (vm₁ : Vm) (B : Pt), s.WarmedH vm₁ ∧ Stand p l e R s m args below meth c B.U B.locs B.cells B.slots ∧ PostX ⟨T.setVm vm₁, locs, cells, slots⟩ argsL.toArray q B ∧
      Steps p.tables e below (T.setTop g) ((B.U.setTop { g with stack := rest }).pushFrame (.throwing q))) := by
  obtain ⟨mk, hnamed⟩ := Cond.code_named hcode
  obtain ⟨methM, cM, hmethM, -, -, -, -, -, -, hsigM⟩ := Cond.code_spec hnamed hcode
  have hstatic : methM.isStatic = true := Cond.static_spec hnamed hmethM hstat
  obtain ⟨kP, hkP, -⟩ := className_of_methodNamed hnamed
  have hinitP : kP.init = .initialized := Cond.initialized_spec (findClass_of_methodNamed hnamed) hkP hinit
  obtain ⟨vm₁, X₁, hstep₁⟩ := X.invokestatic hexec hown hlink hnamed hmethM hstatic hkP hinitP hy (g := g) hg (argsL := argsL) (rest := rest) (hlen _ hsigM) hstack hdg
  rcases hK m meth c ⟨T.setVm vm₁, locs, cells, slots⟩ { g with stack := rest } (.invokestatic index) mk argsL.toArray X₁ hg hsize hdg hW (X₁.named hnamed) (hpre vm₁ X₁.warmed) with ⟨v, B, X', hpost, hsteps⟩ | ⟨q, B, X', hpost, hsteps⟩
  · exact Or.inl ⟨v, vm₁, B, X₁.warmed, X', hpost, fun target h => hstep₁ _ fun acts => by rw [doInvoke_state]; exact hsteps.trans h⟩
  · exact Or.inr ⟨q, vm₁, B, X₁.warmed, X', hpost, hstep₁ _ fun acts => by rw [doInvoke_state]; exact hsteps⟩
end Calls
theorem vx_cls {s : State} {T : State} {vm₁ : Vm} {E : String} {k : ClassId} (hW : s.WarmedH vm₁) (h : (T.setVm vm₁).vm.findClass E = some k) : s.vm.findClass E = some k := by
  have h1 : vm₁.findClass E = some k := h
  rw [hW.alike.findClass] at h1
  exact h1
/-- the method's frame g, with q thrown over it -/
def vx_W (p : Program) (l : Launch) (e : Env) (R : Room) (s : State) (m : MethodId) (args : Array Value) (below : List Frame) (meth : Method) (c : Code) (H : Heap) (locs : List Loc) (cells slots : Nat) (Q : State → Prop) (g : JFrame) (q : Addr) : Prop :=
  ∀ T : State, T.heap = H → Stand p l e R s m args below meth c T locs cells slots → ∃ t, Steps p.tables e below ((T.setTop g).pushFrame (.throwing q)) t ∧ Q t
def vx_Run (p : Program) (l : Launch) (e : Env) (R : Room) (s : State) (m : MethodId) (args : Array Value) (below : List Frame) (meth : Method) (c : Code) (H : Heap) (locs : List Loc) (cells slots mc ms : Nat) (g : JFrame) (rest : List Value) (Qa : State → Outcome → State → Prop) (XC : String → State → State → Prop) (free : Addr → Prop) : Prop :=
  ∀ T : State, T.heap = H → Stand p l e R s m args below meth c T locs cells slots →
    (∃ (v : Option Value) (st₀ t T' : State) (L : List Loc), st₀.heap = H ∧ Stand p l e R s m args below meth c T' (locs ++ L) (cells + mc) (slots + ms) ∧ (∀ q ∈ L, free q.base) ∧ T'.heap = t.heap ∧ T'.vm = t.vm ∧ Qa st₀ (.returned v) t ∧
      Goes p e below T g T' { g with pc := g.pc + 3, stack := v.toList ++ rest }) ∨
    (∃ (q : Addr) (st₀ t T' : State) (L : List Loc) (E : String) (ce : Cell), st₀.heap = H ∧ Stand p l e R s m args below meth c T' (locs ++ L) (cells + mc) (slots + ms) ∧ (∀ z ∈ L, free z.base) ∧ T'.heap = t.heap ∧ T'.vm = t.vm ∧ XC E st₀ t ∧ t.heap[q]? = some ce ∧ ce.vm = .none ∧ s.vm.findClass E = some ce.cls ∧
      Steps p.tables e below (T.setTop g) ((T'.setTop { g with stack := rest }).pushFrame (.throwing q)))
def vx_X {S : Type} (px : S → Prop) (B : String → S → State → Prop) (A : Nat → Prop) : String → State → State → Prop := fun E st t => ∃ u : S, px u ∧ B E u t ∧ va_F A st t
section Runs
variable {p : Program} {l : Launch} {e : Env} {R : Room} {s : State} {m : MethodId} {args : Array Value} {below : List Frame} {meth : Method} {c : Code} {H : Heap} {locs : List Loc} {cells slots : Nat}
variable {y : MethodName} {bytes cc : ByteArray} {maxL nL mc ms n index : Nat} {ret : Option FieldType} {ws : List Cond} {rm : Room} {Pc : Array Value → State → Prop} {Qc : Array Value → State → Outcome → State → Prop} {XC : String → State → State → Prop} {free : Addr → Prop} {Ts : List Cond} {own C : String} {b : Addr} {As rest : List Value} {g : JFrame}
theorem vx_callBack (cb : CallB R s args own index y bytes maxL ret ws rm mc ms n) (hM : vx_Met l y ws rm Pc Qc XC mc ms free) (hbl : FrameBlind Pc) : vx_Back l R p e below s args y 3 8 (PreOf R mc ms Pc) (PostOf Qc mc ms free) (vx_Post XC mc ms free) := by
  obtain ⟨hrc, hrs, hfr, hlo, hws, hcw, -, hini, -⟩ := cb
  exact vx_back (bytes := bytes) (maxL := maxL) (ret := ret) hM hbl hrc hrs hfr hlo hws hcw (fun a' U hW => word_at hW (Or.inl (by first | rfl | simp [Cond.onTables, Cond.keeps, Cond.steady])) hini)
theorem vx_runV (S : CallFix p m c cc nL s args Ts own) (hM : vx_Met l y ws rm Pc Qc XC mc ms free) (cw : CallW R s args own C index y bytes maxL ret ws rm mc ms n) (hp : PreV s H C b Pc As)
    (hg : g.method = m) (hn : As.length = n) (hsize : g.locals.size = nL) (hstack : g.stack = As.reverse ++ .ref b :: rest) (hW : 2 * g.monitorRoom + (rest.map fun v => v.category).sum ≤ 8) (hdg : decode cc g.pc = .ok (.invokevirtual index, 3)) (hf : cells + mc ≤ R.cells ∧ slots + ms ≤ R.slots) :
    vx_Run p l e R s m args below meth c H locs cells slots mc ms g rest (Qc (Value.ref b :: As).toArray) XC free := by
  have hK : vx_Back l R p e below s args y 3 8 (PreOf R mc ms Pc) (PostOf Qc mc ms free) (vx_Post XC mc ms free) := vx_callBack cw.1 hM hp.1
  obtain ⟨⟨-, -, -, -, -, -, hcode, -, hy, hlen, hl⟩, hin, hse⟩ := cw
  obtain ⟨hx, hb, hml, ho, -⟩ := S
  obtain ⟨-, ⟨cellB, hcB, hoB, hclB⟩, hPc⟩ := hp
  intro T hT X
  rcases vx_callV X hx (C := C) (bytes := bytes) (maxL := maxL) (ret := ret) ho hl hin hse hcode hy hK (by rw [hT]; exact hcB) hoB hclB hg (hsize.trans hml.symm) (argsL := As) (rest := rest) (fun sig h => hn.trans (hlen sig h)) hstack hW (by rw [hb]; exact hdg)
    (fun vm₁ hW₁ => ⟨hf.1, hf.2, hPc (T.setVm vm₁) hT hW₁⟩) with ⟨v, vm₁, ⟨U', l2, c2, s2⟩, hW₁, X', ⟨g', mk, t, L, e1, e2, hq, h1, hL, h2, h3⟩, st⟩ | ⟨q, vm₁, ⟨U', l2, c2, s2⟩, hW₁, X', ⟨g', mk, t, L, E, ce, e1, e2, hq, hce, hcv, hcl, h1, hL, h2, h3⟩, st⟩
  · dsimp only [Pt.U, Pt.locs, Pt.cells, Pt.slots] at X' e1 e2 h1 h2 h3 st
    subst h1; subst h2; subst h3
    exact Or.inl ⟨v, (T.setVm vm₁).calling g' mk (Value.ref b :: As).toArray, t, U', L, hT, X', hL, e1, e2, hq, st⟩
  · dsimp only [Pt.U, Pt.locs, Pt.cells, Pt.slots] at X' e1 e2 h1 h2 h3 st hcl
    subst h1; subst h2; subst h3
    exact Or.inr ⟨q, (T.setVm vm₁).calling g' mk (Value.ref b :: As).toArray, t, U', L, E, ce, hT, X', hL, e1, e2, hq, hce, hcv, vx_cls hW₁ hcl, st⟩
theorem vx_runS (S : CallFix p m c cc nL s args Ts own) (hM : vx_Met l y ws rm Pc Qc XC mc ms free) (cw : CallB R s args own index y bytes maxL ret ws rm mc ms n ∧ (Cond.static y).before args s = true) (hp : PreS s H Pc As)
    (hg : g.method = m) (hn : As.length = n) (hsize : g.locals.size = nL) (hstack : g.stack = As.reverse ++ rest) (hW : 2 * g.monitorRoom + (rest.map fun v => v.category).sum ≤ 8) (hdg : decode cc g.pc = .ok (.invokestatic index, 3)) (hf : cells + mc ≤ R.cells ∧ slots + ms ≤ R.slots) :
    vx_Run p l e R s m args below meth c H locs cells slots mc ms g rest (Qc As.toArray) XC free := by
  have hK : vx_Back l R p e below s args y 3 8 (PreOf R mc ms Pc) (PostOf Qc mc ms free) (vx_Post XC mc ms free) := vx_callBack cw.1 hM hp.1
  obtain ⟨⟨-, -, -, -, -, -, hcode, hini, hy, hlen, hl⟩, hstt⟩ := cw
  obtain ⟨hx, hb, hml, ho, -⟩ := S
  intro T hT X
  rcases vx_callS X hx (bytes := bytes) (maxL := maxL) (ret := ret) ho hl hstt hini hcode hy hK hg (hsize.trans hml.symm) (argsL := As) (rest := rest) (fun sig h => hn.trans (hlen sig h)) hstack hW (by rw [hb]; exact hdg)
    (fun vm₁ hW₁ => ⟨hf.1, hf.2, hp.2 (T.setVm vm₁) hT hW₁⟩) with ⟨v, vm₁, ⟨U', l2, c2, s2⟩, hW₁, X', ⟨g', mk, t, L, e1, e2, hq, h1, hL, h2, h3⟩, st⟩ | ⟨q, vm₁, ⟨U', l2, c2, s2⟩, hW₁, X', ⟨g', mk, t, L, E, ce, e1, e2, hq, hce, hcv, hcl, h1, hL, h2, h3⟩, st⟩
  · dsimp only [Pt.U, Pt.locs, Pt.cells, Pt.slots] at X' e1 e2 h1 h2 h3 st
    subst h1; subst h2; subst h3
    exact Or.inl ⟨v, (T.setVm vm₁).calling g' mk As.toArray, t, U', L, hT, X', hL, e1, e2, hq, st⟩
  · dsimp only [Pt.U, Pt.locs, Pt.cells, Pt.slots] at X' e1 e2 h1 h2 h3 st hcl
    subst h1; subst h2; subst h3
    exact Or.inr ⟨q, (T.setVm vm₁).calling g' mk As.toArray, t, U', L, E, ce, hT, X', hL, e1, e2, hq, hce, hcv, vx_cls hW₁ hcl, st⟩
end Runs
section Rows
variable {p : Program} {l : Launch} {e : Env} {R : Room} {s : State} {m : MethodId} {args : Array Value} {below : List Frame} {meth : Method} {c : Code} {H : Heap} {locs : List Loc} {cells slots : Nat} {Q : State → Prop}
variable {mc ms : Nat} {free : Addr → Prop} {A0 A1 : Nat → Prop} {H0 : Heap} {a : Array Value} {pc : Nat} {ls : Array Slot} {st0 rest : List Value}
theorem vx_keep {st₀ t T' : State} {L : List Loc} (h0 : st₀.heap = H) (e1 : T'.heap = t.heap) (hS : va_S A0 H0 H locs) (hA : ∀ q, q < H.size → A1 q → A0 q) (hf : ∀ q, free q → A0 q) (hL : ∀ q ∈ L, free q.base) (hF : va_F A1 st₀ t) :
    H.size ≤ T'.heap.size ∧ (∀ q : Nat, q < H.size → ¬ A1 q → T'.heap[q]? = H[q]?) ∧ va_S A0 H0 T'.heap (locs ++ L) := by
  obtain ⟨hz, hk⟩ := hF
  rw [h0] at hz hk
  exact ⟨by rw [e1]; exact hz, fun q h1 h2 => by rw [e1]; exact hk q h1 h2,
    ⟨Nat.le_trans hS.1 (by rw [e1]; exact hz), fun q h1 h2 => by rw [e1, hk q (Nat.lt_of_lt_of_le h1 hS.1) (fun z => h2 (hA q (Nat.lt_of_lt_of_le h1 hS.1) z))]; exact hS.2.1 q h1 h2, fun q hq => by
      rcases List.mem_append.mp hq with h | h
      · exact hS.2.2 q h
      · exact hf _ (hL q h)⟩⟩
theorem vx_calli {S SX : Type} {post : Int32 → S → Prop} {px : SX → Prop} {B : S → State → Prop} {BX : String → SX → State → Prop} {AX : Nat → Prop} (hr : vx_Run p l e R s m args below meth c H locs cells slots mc ms (F0 m pc ls st0) rest (va_Qi post B A1 a) (vx_X px BX AX) free) (hS : va_S A0 H0 H locs) (hA : ∀ q, q < H.size → A1 q → A0 q) (hf : ∀ q, free q → A0 q) (hAX : ∀ q, q < H.size → AX q → A0 q)
    (kx : ∀ (E : String) (ce : Cell) (q9 : Addr) (u : SX) (t : State) (H1 : Heap) (locs1 : List Loc), t.heap = H1 → s.vm.Alike t.vm → px u → BX E u t → H.size ≤ H1.size → (∀ q : Nat, q < H.size → ¬ AX q → H1[q]? = H[q]?) → va_S A0 H0 H1 locs1 → H1[q9]? = some ce → ce.vm = .none → s.vm.findClass E = some ce.cls → vx_W p l e R s m args below meth c H1 locs1 (cells + mc) (slots + ms) Q (F0 m pc ls rest) q9)
    (kk : ∀ (r : Int32) (u : S) (t : State) (H1 : Heap) (locs1 : List Loc), t.heap = H1 → s.vm.Alike t.vm → post r u → B u t → H.size ≤ H1.size → (∀ q : Nat, q < H.size → ¬ A1 q → H1[q]? = H[q]?) → va_S A0 H0 H1 locs1 → W p l e R s m args below meth c H1 locs1 (cells + mc) (slots + ms) Q (F0 m (pc + 3) ls (.int r :: rest))) : W p l e R s m args below meth c H locs cells slots Q (F0 m pc ls st0) := by
  intro T hT X
  rcases hr T hT X with ⟨v, st₀, t, T', L, h0, X', hL, e1, e2, ⟨⟨r, u, hv, hp, hb⟩, hF⟩, st⟩ | ⟨q, st₀, t, T', L, E, ce, h0, X', hL, e1, e2, ⟨u, hp, hb, hF⟩, hce, hcv, hcl, st⟩
  · cases hv
    obtain ⟨k1, k2, k3⟩ := vx_keep h0 e1 hS hA hf hL hF
    obtain ⟨t2, a1, b1⟩ := kk r u t T'.heap (locs ++ L) e1.symm (by rw [← e2]; exact X'.warmed.alike) hp hb k1 k2 k3 T' rfl X'
    exact ⟨t2, st t2 a1, b1⟩
  · obtain ⟨k1, k2, k3⟩ := vx_keep h0 e1 hS hAX hf hL hF
    obtain ⟨t2, a1, b1⟩ := kx E ce q u t T'.heap (locs ++ L) e1.symm (by rw [← e2]; exact X'.warmed.alike) hp hb k1 k2 k3 (by rw [e1]; exact hce) hcv hcl T' rfl X'
    exact ⟨t2, st.trans a1, b1⟩
theorem vx_calll {S SX : Type} {post : Int64 → S → Prop} {px : SX → Prop} {B : S → State → Prop} {BX : String → SX → State → Prop} {AX : Nat → Prop} (hr : vx_Run p l e R s m args below meth c H locs cells slots mc ms (F0 m pc ls st0) rest (va_Ql post B A1 a) (vx_X px BX AX) free) (hS : va_S A0 H0 H locs) (hA : ∀ q, q < H.size → A1 q → A0 q) (hf : ∀ q, free q → A0 q) (hAX : ∀ q, q < H.size → AX q → A0 q)
    (kx : ∀ (E : String) (ce : Cell) (q9 : Addr) (u : SX) (t : State) (H1 : Heap) (locs1 : List Loc), t.heap = H1 → s.vm.Alike t.vm → px u → BX E u t → H.size ≤ H1.size → (∀ q : Nat, q < H.size → ¬ AX q → H1[q]? = H[q]?) → va_S A0 H0 H1 locs1 → H1[q9]? = some ce → ce.vm = .none → s.vm.findClass E = some ce.cls → vx_W p l e R s m args below meth c H1 locs1 (cells + mc) (slots + ms) Q (F0 m pc ls rest) q9)
    (kk : ∀ (r : Int64) (u : S) (t : State) (H1 : Heap) (locs1 : List Loc), t.heap = H1 → s.vm.Alike t.vm → post r u → B u t → H.size ≤ H1.size → (∀ q : Nat, q < H.size → ¬ A1 q → H1[q]? = H[q]?) → va_S A0 H0 H1 locs1 → W p l e R s m args below meth c H1 locs1 (cells + mc) (slots + ms) Q (F0 m (pc + 3) ls (.long r :: rest))) : W p l e R s m args below meth c H locs cells slots Q (F0 m pc ls st0) := by
  intro T hT X
  rcases hr T hT X with ⟨v, st₀, t, T', L, h0, X', hL, e1, e2, ⟨⟨r, u, hv, hp, hb⟩, hF⟩, st⟩ | ⟨q, st₀, t, T', L, E, ce, h0, X', hL, e1, e2, ⟨u, hp, hb, hF⟩, hce, hcv, hcl, st⟩
  · cases hv
    obtain ⟨k1, k2, k3⟩ := vx_keep h0 e1 hS hA hf hL hF
    obtain ⟨t2, a1, b1⟩ := kk r u t T'.heap (locs ++ L) e1.symm (by rw [← e2]; exact X'.warmed.alike) hp hb k1 k2 k3 T' rfl X'
    exact ⟨t2, st t2 a1, b1⟩
  · obtain ⟨k1, k2, k3⟩ := vx_keep h0 e1 hS hAX hf hL hF
    obtain ⟨t2, a1, b1⟩ := kx E ce q u t T'.heap (locs ++ L) e1.symm (by rw [← e2]; exact X'.warmed.alike) hp hb k1 k2 k3 (by rw [e1]; exact hce) hcv hcl T' rfl X'
    exact ⟨t2, st.trans a1, b1⟩
theorem vx_callf {S SX : Type} {post : UInt32 → S → Prop} {px : SX → Prop} {B : S → State → Prop} {BX : String → SX → State → Prop} {AX : Nat → Prop} (hr : vx_Run p l e R s m args below meth c H locs cells slots mc ms (F0 m pc ls st0) rest (va_Qf post B A1 a) (vx_X px BX AX) free) (hS : va_S A0 H0 H locs) (hA : ∀ q, q < H.size → A1 q → A0 q) (hf : ∀ q, free q → A0 q) (hAX : ∀ q, q < H.size → AX q → A0 q)
    (kx : ∀ (E : String) (ce : Cell) (q9 : Addr) (u : SX) (t : State) (H1 : Heap) (locs1 : List Loc), t.heap = H1 → s.vm.Alike t.vm → px u → BX E u t → H.size ≤ H1.size → (∀ q : Nat, q < H.size → ¬ AX q → H1[q]? = H[q]?) → va_S A0 H0 H1 locs1 → H1[q9]? = some ce → ce.vm = .none → s.vm.findClass E = some ce.cls → vx_W p l e R s m args below meth c H1 locs1 (cells + mc) (slots + ms) Q (F0 m pc ls rest) q9)
    (kk : ∀ (r : UInt32) (u : S) (t : State) (H1 : Heap) (locs1 : List Loc), t.heap = H1 → s.vm.Alike t.vm → post r u → B u t → H.size ≤ H1.size → (∀ q : Nat, q < H.size → ¬ A1 q → H1[q]? = H[q]?) → va_S A0 H0 H1 locs1 → W p l e R s m args below meth c H1 locs1 (cells + mc) (slots + ms) Q (F0 m (pc + 3) ls (.float r :: rest))) : W p l e R s m args below meth c H locs cells slots Q (F0 m pc ls st0) := by
  intro T hT X
  rcases hr T hT X with ⟨v, st₀, t, T', L, h0, X', hL, e1, e2, ⟨⟨r, u, hv, hp, hb⟩, hF⟩, st⟩ | ⟨q, st₀, t, T', L, E, ce, h0, X', hL, e1, e2, ⟨u, hp, hb, hF⟩, hce, hcv, hcl, st⟩
  · cases hv
    obtain ⟨k1, k2, k3⟩ := vx_keep h0 e1 hS hA hf hL hF
    obtain ⟨t2, a1, b1⟩ := kk r u t T'.heap (locs ++ L) e1.symm (by rw [← e2]; exact X'.warmed.alike) hp hb k1 k2 k3 T' rfl X'
    exact ⟨t2, st t2 a1, b1⟩
  · obtain ⟨k1, k2, k3⟩ := vx_keep h0 e1 hS hAX hf hL hF
    obtain ⟨t2, a1, b1⟩ := kx E ce q u t T'.heap (locs ++ L) e1.symm (by rw [← e2]; exact X'.warmed.alike) hp hb k1 k2 k3 (by rw [e1]; exact hce) hcv hcl T' rfl X'
    exact ⟨t2, st.trans a1, b1⟩
theorem vx_calld {S SX : Type} {post : UInt64 → S → Prop} {px : SX → Prop} {B : S → State → Prop} {BX : String → SX → State → Prop} {AX : Nat → Prop} (hr : vx_Run p l e R s m args below meth c H locs cells slots mc ms (F0 m pc ls st0) rest (va_Qd post B A1 a) (vx_X px BX AX) free) (hS : va_S A0 H0 H locs) (hA : ∀ q, q < H.size → A1 q → A0 q) (hf : ∀ q, free q → A0 q) (hAX : ∀ q, q < H.size → AX q → A0 q)
    (kx : ∀ (E : String) (ce : Cell) (q9 : Addr) (u : SX) (t : State) (H1 : Heap) (locs1 : List Loc), t.heap = H1 → s.vm.Alike t.vm → px u → BX E u t → H.size ≤ H1.size → (∀ q : Nat, q < H.size → ¬ AX q → H1[q]? = H[q]?) → va_S A0 H0 H1 locs1 → H1[q9]? = some ce → ce.vm = .none → s.vm.findClass E = some ce.cls → vx_W p l e R s m args below meth c H1 locs1 (cells + mc) (slots + ms) Q (F0 m pc ls rest) q9)
    (kk : ∀ (r : UInt64) (u : S) (t : State) (H1 : Heap) (locs1 : List Loc), t.heap = H1 → s.vm.Alike t.vm → post r u → B u t → H.size ≤ H1.size → (∀ q : Nat, q < H.size → ¬ A1 q → H1[q]? = H[q]?) → va_S A0 H0 H1 locs1 → W p l e R s m args below meth c H1 locs1 (cells + mc) (slots + ms) Q (F0 m (pc + 3) ls (.double r :: rest))) : W p l e R s m args below meth c H locs cells slots Q (F0 m pc ls st0) := by
  intro T hT X
  rcases hr T hT X with ⟨v, st₀, t, T', L, h0, X', hL, e1, e2, ⟨⟨r, u, hv, hp, hb⟩, hF⟩, st⟩ | ⟨q, st₀, t, T', L, E, ce, h0, X', hL, e1, e2, ⟨u, hp, hb, hF⟩, hce, hcv, hcl, st⟩
  · cases hv
    obtain ⟨k1, k2, k3⟩ := vx_keep h0 e1 hS hA hf hL hF
    obtain ⟨t2, a1, b1⟩ := kk r u t T'.heap (locs ++ L) e1.symm (by rw [← e2]; exact X'.warmed.alike) hp hb k1 k2 k3 T' rfl X'
    exact ⟨t2, st t2 a1, b1⟩
  · obtain ⟨k1, k2, k3⟩ := vx_keep h0 e1 hS hAX hf hL hF
    obtain ⟨t2, a1, b1⟩ := kx E ce q u t T'.heap (locs ++ L) e1.symm (by rw [← e2]; exact X'.warmed.alike) hp hb k1 k2 k3 (by rw [e1]; exact hce) hcv hcl T' rfl X'
    exact ⟨t2, st.trans a1, b1⟩
theorem vx_callv {S SX : Type} {post : S → Prop} {px : SX → Prop} {B : S → State → Prop} {BX : String → SX → State → Prop} {AX : Nat → Prop} (hr : vx_Run p l e R s m args below meth c H locs cells slots mc ms (F0 m pc ls st0) rest (va_Qv post B A1 a) (vx_X px BX AX) free) (hS : va_S A0 H0 H locs) (hA : ∀ q, q < H.size → A1 q → A0 q) (hf : ∀ q, free q → A0 q) (hAX : ∀ q, q < H.size → AX q → A0 q)
    (kx : ∀ (E : String) (ce : Cell) (q9 : Addr) (u : SX) (t : State) (H1 : Heap) (locs1 : List Loc), t.heap = H1 → s.vm.Alike t.vm → px u → BX E u t → H.size ≤ H1.size → (∀ q : Nat, q < H.size → ¬ AX q → H1[q]? = H[q]?) → va_S A0 H0 H1 locs1 → H1[q9]? = some ce → ce.vm = .none → s.vm.findClass E = some ce.cls → vx_W p l e R s m args below meth c H1 locs1 (cells + mc) (slots + ms) Q (F0 m pc ls rest) q9)
    (kk : ∀ (u : S) (t : State) (H1 : Heap) (locs1 : List Loc), t.heap = H1 → s.vm.Alike t.vm → post u → B u t → H.size ≤ H1.size → (∀ q : Nat, q < H.size → ¬ A1 q → H1[q]? = H[q]?) → va_S A0 H0 H1 locs1 → W p l e R s m args below meth c H1 locs1 (cells + mc) (slots + ms) Q (F0 m (pc + 3) ls (rest))) : W p l e R s m args below meth c H locs cells slots Q (F0 m pc ls st0) := by
  intro T hT X
  rcases hr T hT X with ⟨v, st₀, t, T', L, h0, X', hL, e1, e2, ⟨⟨u, hv, hp, hb⟩, hF⟩, st⟩ | ⟨q, st₀, t, T', L, E, ce, h0, X', hL, e1, e2, ⟨u, hp, hb, hF⟩, hce, hcv, hcl, st⟩
  · cases hv
    obtain ⟨k1, k2, k3⟩ := vx_keep h0 e1 hS hA hf hL hF
    obtain ⟨t2, a1, b1⟩ := kk u t T'.heap (locs ++ L) e1.symm (by rw [← e2]; exact X'.warmed.alike) hp hb k1 k2 k3 T' rfl X'
    exact ⟨t2, st t2 a1, b1⟩
  · obtain ⟨k1, k2, k3⟩ := vx_keep h0 e1 hS hAX hf hL hF
    obtain ⟨t2, a1, b1⟩ := kx E ce q u t T'.heap (locs ++ L) e1.symm (by rw [← e2]; exact X'.warmed.alike) hp hb k1 k2 k3 (by rw [e1]; exact hce) hcv hcl T' rfl X'
    exact ⟨t2, st.trans a1, b1⟩
/-- caught by the row x of this method's table; the rows ahead don't take it -/
theorem vx_catch {own name : String} {E : String} {ce : Cell} {q : Addr} (hown : s.vm.findClass own = some m.cls) (pre : List ExceptionTableEntry) (x : ExceptionTableEntry) (suf : List ExceptionTableEntry) (hsplit : c.exceptionTable.toList = pre ++ x :: suf)
    (hpass : ∀ z ∈ pre, covers z pc = false ∨ (z.catchType ≠ 0 ∧ ∃ nm : String, (Cond.classLink own z.catchType nm).before args s = true ∧ va_Nc E nm s)) (hx : covers x pc = true) (h0 : x.catchType ≠ 0)
    (hlink : (Cond.classLink own x.catchType name).before args s = true) (hcast : (Cond.castable E name).before args s = true) (hcell : H[q]? = some ce) (hv : ce.vm = .none) (hcl : s.vm.findClass E = some ce.cls)
    (kk : W p l e R s m args below meth c H locs cells slots Q (F0 m x.handlerPc ls [.ref q])) : vx_W p l e R s m args below meth c H locs cells slots Q (F0 m pc ls rest) q := by
  intro T hT X
  have hpl : e.platform.magicAccessors = ({} : Platform).magicAccessors := by rw [X.admits.platform]
  obtain ⟨c3, c4, hc3, hc4, hasg⟩ := Cond.castable_spec hcast
  cases Option.some.inj (hc3.symm.trans hcl)
  obtain ⟨c5, hc5, hcl5⟩ := Cond.classLink_spec hown hlink e.platform hpl
  cases Option.some.inj (hc4.symm.trans hc5)
  obtain ⟨vm', X', st⟩ := X.thenCaughtThrough q (g := F0 m pc ls rest) rfl (Steps.refl _) (by rw [hT]; exact hcell) (by rw [hv]; rfl) (by obtain ⟨k9, h9, -⟩ := Vm.findClass_spec hcl; exact ⟨k9, h9⟩) pre x suf hsplit
    (fun z hz => by
      rcases hpass z hz with h | ⟨hz0, nm, hl1, hn1⟩
      · exact Or.inl h
      · obtain ⟨c6, hc6, hcl6⟩ := Cond.classLink_spec hown hl1 e.platform hpl
        obtain ⟨a8, b8, h1, h2, h3⟩ := hn1
        cases Option.some.inj (h1.symm.trans hcl)
        cases Option.some.inj (h2.symm.trans hc6)
        exact Or.inr ⟨hz0, _, hcl6, h3⟩) hx (Or.inr ⟨h0, c4, hcl5, hasg⟩)
  obtain ⟨t, a1, b1⟩ := kk (T.setVm vm') hT X'
  exact ⟨t, st.trans a1, b1⟩
end Rows
section Ends
variable {p : Program} {l : Launch} {e : Env} {R : Room} {s : State} {m : MethodId} {args : Array Value} {below : List Frame} {meth : Method} {c : Code} {H : Heap} {locs : List Loc} {cells slots : Nat} {Q : State → Prop}
variable {mc ms : Nat} {free : Addr → Prop} {A0 A1 : Nat → Prop} {H0 : Heap} {a : Array Value} {ls : Array Slot} {st0 rest : List Value}
variable {Qc : Array Value → State → Outcome → State → Prop} {XC : String → State → State → Prop}
/-- what a body that may throw owes at its end -/
def vx_MQ (below : List Frame) (Qc : Array Value → State → Outcome → State → Prop) (XC : String → State → State → Prop) (a : Array Value) (s : State) (mc ms : Nat) (free : Addr → Prop) : State → Prop := fun t =>
  ∃ o, t.status = .running ∧ Ended t below o ∧ vx_Q Qc XC mc ms free a s o t
theorem vx_ret {g : JFrame} {mc ms : Nat} (k : W p l e R s m args below meth c H locs cells slots (MQ below Qc args s mc ms free) g) : W p l e R s m args below meth c H locs cells slots (vx_MQ below Qc XC args s mc ms free) g := by
  intro T hT X
  obtain ⟨t, a1, o, b1, b2, b3, b4⟩ := k T hT X
  exact ⟨t, a1, o, b1, b2, Or.inl ⟨b3, b4⟩⟩
/-- not caught here: it goes on to the caller -/
theorem vx_widen {g : JFrame} {q : Addr} {k n : Nat} (h1 : cells ≤ k) (h2 : slots ≤ n) (kk : vx_W p l e R s m args below meth c H locs k n Q g q) : vx_W p l e R s m args below meth c H locs cells slots Q g q := fun T hT X => kk T hT (stand_widen X h1 h2)
theorem vx_out {pc : Nat} {E : String} {ce : Cell} {q : Addr} {mc ms : Nat} (hout : ∀ x ∈ c.exceptionTable.toList, covers x pc = false) (hlocks : meth.locks = false) (hcell : H[q]? = some ce) (hv : ce.vm = .none) (hcl : s.vm.findClass E = some ce.cls)
    (hx : ∀ t : State, t.heap = H → s.vm.Alike t.vm → XC E s t) (hf : ∀ z ∈ locs, free z.base) (hc : cells ≤ mc) (hs : slots ≤ ms) :
    vx_W p l e R s m args below meth c H locs cells slots (vx_MQ below Qc XC args s mc ms free) (F0 m pc ls rest) q := by
  intro T hT X
  obtain ⟨st1, hrun, hend, hW, hsm⟩ := X.leaveThrown q (g := F0 m pc ls rest) rfl rfl rfl hout hlocks
  have hcell9 : (T.setFrames (.throwing q :: below)).heap[q]? = some ce := by
    show T.heap[q]? = some ce
    rw [hT]; exact hcell
  exact ⟨_, st1, .threw q, hrun, hend, Or.inr ⟨q, rfl, E, ce, locs, hx _ hT hW.alike, hcell9, hv, hcl, hW, hsm.mono hc hs, hf⟩⟩
theorem vx_frame {U : State} {k n : Nat} (h : s.sameButNew ({ U with vm := s.vm } : State) locs k n) : s.heap.size ≤ U.heap.size ∧ ∀ q : Nat, q < s.heap.size → (∀ z ∈ locs, z.base ≠ q) → U.heap[q]? = s.heap[q]? := by
  obtain ⟨-, h2, -, -, -, h6⟩ := h
  refine ⟨h2, fun q hq hz => ?_⟩
  obtain ⟨c9, e1, e2, e3, e4⟩ := h6 q _ (Array.getElem?_eq_getElem hq)
  have hs : c9.slots = (s.heap[q]).slots := Array.ext_getElem? fun i => e4 i fun hm => hz _ hm rfl
  have h9 : c9 = s.heap[q] := by
    rw [hs] at e2
    exact e2
  have e5 : U.heap[q]? = some c9 := e1
  rw [e5, h9, Array.getElem?_eq_getElem hq]
/-- the words of a throw but the four that speak of the heap -/
def vx_no (w : Cond) : Bool := decide (w ≠ .isRef (.static Bundle.tN "UNASSIGNED_STACK" Bundle.steD)) && decide (w ≠ .isRef (.static Bundle.tN "SUPPRESSED_SENTINEL" Bundle.listD)) && decide (w ≠ .laysStatic Bundle.tN "UNASSIGNED_STACK" Bundle.steD) && decide (w ≠ .laysStatic Bundle.tN "SUPPRESSED_SENTINEL" Bundle.listD)
def vx_at0 (own : String) (ic : Nat) (X : String) (names : List String) : List Cond := (Bundle.ownAtoms0 own ic X names).filter vx_no
def vx_atS (own : String) (ic : Nat) (X : String) (names : List String) : List Cond := (Bundle.ownAtoms own ic X names).filter vx_no
/-- a word that the tables alone decide, or a good one -/
def vx_ot (w : Cond) : Bool := w.onTables || goodWord w
theorem vx_ot_at {args a' : Array Value} {s U : State} {w : Cond} (hW : s.WarmedH U.vm) (hvm : s.vm = U.vm) (hg : vx_ot w = true) (h : w.before args s = true) : w.before a' U = true := by
  simp only [vx_ot, Bool.or_eq_true] at hg
  rcases hg with hg | hg
  · exact va_tabs hg hvm h
  · exact word_at hW (good_of_word hg) h
/-- a list's words: the good ones out of the method's own list, the others by premises of their own -/
theorem vx_hat {args : Array Value} {s : State} {L B : List Cond} (h1 : ∀ w ∈ L.filter goodWord, w.before args s = true) (h2 : ∀ w ∈ L.filter (fun w => !goodWord w), w ∈ B) (h3 : ∀ w ∈ B, w.before args s = true) : ∀ w ∈ L, w.before args s = true := by
  intro w hw
  by_cases g : goodWord w = true
  · exact h1 w (List.mem_filter.mpr ⟨hw, g⟩)
  · refine h3 w (h2 w (List.mem_filter.mpr ⟨hw, ?_⟩))
    show (!goodWord w) = true
    cases hgw : goodWord w
    · rfl
    · exact absurd hgw g
theorem vx_c {args : Array Value} {s : State} {w : Cond} {B : List Cond} (h : w.before args s = true) (t : ∀ w ∈ B, w.before args s = true) : ∀ w' ∈ w :: B, w'.before args s = true := fun w' h' => (List.mem_cons.mp h').elim (fun e => by rw [e]; exact h) (t w')
theorem vx_n {args : Array Value} {s : State} : ∀ w ∈ ([] : List Cond), w.before args s = true := fun _ h => nomatch h
theorem vx_own {args : Array Value} {s : State} {L : List Cond} (h1 : ∀ w ∈ L.filter vx_no, w.before args s = true)
    (hU : (Cond.isRef (.static Bundle.tN "UNASSIGNED_STACK" Bundle.steD)).before args s = true) (hN : (Cond.isRef (.static Bundle.tN "SUPPRESSED_SENTINEL" Bundle.listD)).before args s = true)
    (lU : (Cond.laysStatic Bundle.tN "UNASSIGNED_STACK" Bundle.steD).before args s = true) (lN : (Cond.laysStatic Bundle.tN "SUPPRESSED_SENTINEL" Bundle.listD).before args s = true) : ∀ w ∈ L, w.before args s = true := by
  intro w hw
  by_cases e1 : w = .isRef (.static Bundle.tN "UNASSIGNED_STACK" Bundle.steD)
  · rw [e1]; exact hU
  · by_cases e2 : w = .isRef (.static Bundle.tN "SUPPRESSED_SENTINEL" Bundle.listD)
    · rw [e2]; exact hN
    · by_cases e3 : w = .laysStatic Bundle.tN "UNASSIGNED_STACK" Bundle.steD
      · rw [e3]; exact lU
      · by_cases e4 : w = .laysStatic Bundle.tN "SUPPRESSED_SENTINEL" Bundle.listD
        · rw [e4]; exact lN
        · exact h1 w (List.mem_filter.mpr ⟨hw, by unfold vx_no; rw [decide_eq_true e1, decide_eq_true e2, decide_eq_true e3, decide_eq_true e4]; rfl⟩)
/-- where a static field lies, its class's statics cell in H -/
def vx_L (C n d : String) (A : Nat → Prop) (U : State) (H : Heap) : Prop := ∃ (c : ClassId) (k : Class) (i : Nat) (f : Field) (a : Nat) (cell : Cell), U.vm.findClass C = some c ∧ U.fieldFound? C n d = some (c, k, i, f) ∧ f.isStatic = true ∧ k.statics = some a ∧ H[a]? = some cell ∧ cell.vm.isStatics = true ∧ cell.cls = c ∧ f.slot < cell.slots.size ∧ k.staticTypes[f.slot]? = some f.type ∧ ¬ A a
theorem vx_L.moved {C n d : String} {A : Nat → Prop} {u U : State} {H : Heap} (hvm : u.vm.Alike U.vm) (h : vx_L C n d A u H) : vx_L C n d A U H := by
  obtain ⟨c, k, i, f, a, cell, h1, h2, h3, h4, h5, h6, h7, h8, h9, h10⟩ := h
  obtain ⟨k', hi', he⟩ := State.fieldFound?_setVm hvm h2
  exact ⟨c, k', i, f, a, cell, by rw [hvm.findClass]; exact h1, hi', h3, by rw [he]; exact h4, h5, h6, h7, h8, by rw [he]; exact h9, h10⟩
theorem vx_L.kept {C n d : String} {A : Nat → Prop} {U : State} {H H1 : Heap} (h : vx_L C n d A U H) (hq : ∀ a : Nat, a < H.size → ¬ A a → H1[a]? = H[a]?) : vx_L C n d A U H1 := by
  obtain ⟨c, k, i, f, a, cell, h1, h2, h3, h4, h5, h6, h7, h8, h9, h10⟩ := h
  exact ⟨c, k, i, f, a, cell, h1, h2, h3, h4, by rw [hq a (Array.getElem?_eq_some_iff.mp h5).1 h10]; exact h5, h6, h7, h8, h9, h10⟩
theorem vx_L.narrow {C n d : String} {A B : Nat → Prop} {U : State} {H : Heap} (h : vx_L C n d A U H) (hAB : ∀ q, B q → A q) : vx_L C n d B U H := by
  obtain ⟨c, k, i, f, a, cell, h1, h2, h3, h4, h5, h6, h7, h8, h9, h10⟩ := h
  exact ⟨c, k, i, f, a, cell, h1, h2, h3, h4, h5, h6, h7, h8, h9, fun z => h10 (hAB _ z)⟩
theorem vx_L.word {C n d : String} {A : Nat → Prop} {s : State} {args : Array Value} (h : vx_L C n d A s s.heap) : (Cond.laysStatic C n d).before args s = true := by
  obtain ⟨c, k, i, f, a, cell, h1, h2, h3, h4, h5, h6, h7, h8, h9, -⟩ := h
  show (Cond.laysStatic C n d).holds args s none s [] = true
  exact Cond.laysStatic_of h1 h2 h3 h4 h5 h6 h7 h8 h9
/-- .. and what it holds: null or some reference -/
def vx_Zq (C n d : String) (A : Nat → Prop) (U : State) (H : Heap) : Prop := va_Zq C n d A U H ∧ vx_L C n d A U H
theorem vx_Zq.moved {C n d : String} {A : Nat → Prop} {u U : State} {H : Heap} (hvm : u.vm.Alike U.vm) (h : vx_Zq C n d A u H) : vx_Zq C n d A U H := ⟨va_Zq.moved hvm h.1, vx_L.moved hvm h.2⟩
theorem vx_Zq.kept {C n d : String} {A : Nat → Prop} {U : State} {H H1 : Heap} (h : vx_Zq C n d A U H) (hq : ∀ a : Nat, a < H.size → ¬ A a → H1[a]? = H[a]?) : vx_Zq C n d A U H1 := ⟨va_Zq.kept h.1 hq, vx_L.kept h.2 hq⟩
theorem vx_Zq.narrow {C n d : String} {A B : Nat → Prop} {U : State} {H : Heap} (h : vx_Zq C n d A U H) (hAB : ∀ q, B q → A q) : vx_Zq C n d B U H := ⟨va_Zq.narrow h.1 hAB, vx_L.narrow h.2 hAB⟩
theorem vx_Zqof {args : Array Value} {s : State} {C n d : String} {A : Nat → Prop} (hl : (Cond.laysStatic C n d).before args s = true) (hini : (Cond.initialized C).before args s = true) (h : (Cond.isRef (.static C n d)).before args s = true) (hA : ∀ a : Nat, a < s.heap.size → ¬ A a) : vx_Zq C n d A s s.heap := by
  refine ⟨va_Zqof hl hini h hA, ?_⟩
  obtain ⟨c, k, i, f, a, cell, h1, h2, h3, h4, h5, h6, h7, h8, h9⟩ := Cond.laysStatic_spec hl
  exact ⟨c, k, i, f, a, cell, h1, h2, h3, h4, h5, h6, h7, h8, h9, hA a (Array.getElem?_eq_some_iff.mp h5).1⟩
theorem vx_isRef {C n d : String} {v : Value} {A : Nat → Prop} {s : State} {args : Array Value} (h : va_Z C n d v A s s.heap) (hv : v.isRef = true) : (Cond.isRef (.static C n d)).before args s = true := by
  obtain ⟨cf, kf, fi, f, a, cell, h1, h2, h3, h4, h5, h6, h7, -⟩ := h
  have he : (Term.static C n d).eval args s none [] s = some v := by
    simp [Term.eval, State.fieldNamed?, h1, h2, h4, h5, h6, h7]
  simp only [Cond.before, Cond.holds, Cond.value, he]
  cases v <;> simp_all [Value.isRef]
theorem vx_isRefq {C n d : String} {A : Nat → Prop} {s : State} {args : Array Value} (h : va_Zq C n d A s s.heap) : (Cond.isRef (.static C n d)).before args s = true := by
  rcases h with h | ⟨t, h⟩
  · exact vx_isRef h rfl
  · exact vx_isRef h rfl
/-- the same frame, seen from here: as if the method were called anew in this heap -/
theorem vx_rebase {T : State} (X : Stand p l e R s m args below meth c T locs cells slots) {R' : Room} (hf : R'.frames ≤ R.frames) (hl : R'.locals ≤ R.locals) (hc : cells + R'.cells ≤ R.cells) (hs : slots + R'.slots ≤ R.slots) :
    Stand p l e R' ((T.setVm s.vm).setFrames (.invoking m args :: below)) m args below meth c T [] 0 0 := by
  have htop : (T.setVm s.vm).topJava?.isSome := X.here.top
  have hF : ((T.setVm s.vm).setFrames (.invoking m args :: below)).frames = .invoking m args :: below := State.frames_setFrames _ (State.cur_lt_of_top htop)
  obtain ⟨g₀, hg0⟩ := Option.isSome_iff_exists.mp htop
  obtain ⟨r, hr⟩ := State.topJava?_eq_some.mp hg0
  have hl9 : e.platform.stackLimits (T.setVm s.vm).me = e.platform.stackLimits s.me := X.limits
  have hb9 : (T.setVm s.vm).me.stackBytes = s.me.stackBytes := X.bytes
  refine ⟨X.admits, X.cas, X.clock, hF, ?_, X.hears, X.method, X.code, X.here, X.tail, X.warmed, ?_, ?_, ?_⟩
  · have h := X.room
    have hU : ((T.setVm s.vm).setFrames (.invoking m args :: below)).localsInUse = s.localsInUse := by
      rw [State.localsInUse_invoking hF (meth := meth) (c := c) X.method X.code, State.localsInUse_invoking X.frames X.method X.code]
    simp only [State.hasRoom, Bool.and_eq_true, decide_eq_true_eq] at h ⊢
    obtain ⟨⟨⟨⟨h1, h2, h3, h4, h5, h6⟩, h7⟩, h8⟩, h9⟩ := h
    rw [X.frames, List.length_cons] at h2 h3
    have q1 := X.heapSize
    have q2 := X.used
    simp only [hF, hU, List.length_cons, State.stackLimits_setFrames, State.stackBytes_setFrames, hl9, hb9]
    refine ⟨⟨⟨⟨by omega, by omega, by omega, by omega, by omega, h6⟩, ?_⟩, ?_⟩, X.book⟩
    · show T.heap.size + R'.cells ≤ e.platform.maxCells
      omega
    · show T.slotsUsed + R'.slots ≤ e.platform.maxSlots
      omega
  · rw [State.stackLimits_setFrames]; rfl
  · rw [State.stackBytes_setFrames]; rfl
  · refine ⟨?_, Nat.le_refl _, Nat.le_refl _, ?_, ?_, fun a c9 h9 => ⟨c9, h9, rfl, rfl, fun _ _ => rfl⟩⟩
    · obtain ⟨t, ht, -⟩ := State.frames_cons hr
      show T.setVm s.vm = { ((T.setVm s.vm).setFrames (.invoking m args :: below)).setFrames (T.setVm s.vm).frames with heap := T.heap, slotsUsed := T.slotsUsed }
      rw [State.setFrames_setFrames, State.setFrames_self ht]
      rfl
    · show T.slotsUsed = T.slotsUsed + ((T.heap.toList.drop T.heap.size).map (·.slots.size)).sum
      rw [List.drop_eq_nil_of_le (Nat.le_of_eq Array.length_toList)]
      rfl
    · show ((T.heap.toList.drop T.heap.size).map (·.slots.size)).sum ≤ 0
      rw [List.drop_eq_nil_of_le (Nat.le_of_eq Array.length_toList)]
      exact Nat.le_refl _
/-- 'throw new E()': new; dup; invokespecial; athrow -/
theorem vx_throw0 {cc : ByteArray} {pc : Nat} (hexec : p.tables.exec = Jvm.exec) (hb : c.code = cc) (hl : l.stackTraces = false) {own cls : String} {names : List String} {ik ic mc ms : Nat} {A : Nat → Prop}
    (hown : s.vm.findClass own = some m.cls) (hcls : Bundle.fit cls = true) (hnames : ∀ n ∈ names, Bundle.fit n = true)
    (hk : (Cond.classLink own ik cls).before args s = true) (hini : (Cond.initialized cls).before args s = true) (hat : ∀ w ∈ vx_at0 own ic cls names, w.before args s = true)
    (hgood : ∀ w ∈ Cond.classLink own ik cls :: Cond.initialized cls :: vx_at0 own ic cls names, vx_ot w = true)
    (hU : vx_Zq Bundle.tN "UNASSIGNED_STACK" Bundle.steD A s s.heap) (hN : vx_Zq Bundle.tN "SUPPRESSED_SENTINEL" Bundle.listD A s s.heap) (hS : va_S A s.heap H locs) (hsize : ls.size = c.maxLocals)
    (d0 : decode cc pc = .ok (.new ik, 3)) (d3 : decode cc (pc + 3) = .ok (.dup, 1)) (d4 : decode cc (pc + 4) = .ok (.invokespecial ic, 3)) (d7 : decode cc (pc + 7) = .ok (.athrow, 1))
    (hout : ∀ x ∈ c.exceptionTable.toList, covers x (pc + 7) = false)
    (hRframes : names.length + 3 < R.frames) (hRlocals : (rest.map fun v => v.category).sum + (13 * (names.length + 1) + 42) ≤ R.locals) (hRcells : cells + 1 ≤ R.cells) (hRslots : slots + 6 ≤ R.slots) (hlocks : meth.locks = false)
    (hx : ∀ t : State, s.vm.Alike t.vm → H.size ≤ t.heap.size → (∀ q : Nat, q < H.size → t.heap[q]? = H[q]?) → XC cls s t)
    (hf : ∀ z ∈ locs, free z.base) (hc : cells + 1 ≤ mc) (hs : slots + 6 ≤ ms) :
    W p l e R s m args below meth c H locs cells slots (vx_MQ below Qc XC args s mc ms free) (F0 m pc ls rest) := by
  intro T hT X
  have htr : e.platform.stackTraces = false := (show e.platform.stackTraces = l.stackTraces by rw [X.admits.platform]).trans hl
  have Y := vx_rebase X (R' := { frames := R.frames, locals := R.locals, cells := 1, slots := 6 }) (Nat.le_refl _) (Nat.le_refl _) hRcells hRslots
  obtain ⟨s', hA⟩ : ∃ z, z = (T.setVm s.vm).setFrames (.invoking m args :: below) := ⟨_, rfl⟩
  rw [← hA] at Y
  have hvm : s'.vm = s.vm := by rw [hA]; rfl
  have hhp : s'.heap = H := by rw [hA]; exact hT
  have hW0 : s.WarmedH s'.vm := by rw [hvm]; exact State.WarmedH.refl s
  have hat' : ∀ w ∈ vx_at0 own ic cls names, w.before args s' = true := fun w hw => vx_ot_at hW0 hvm.symm (hgood w (List.mem_cons_of_mem _ (List.mem_cons_of_mem _ hw))) (hat w hw)
  have hk' : (Cond.classLink own ik cls).before args s' = true := vx_ot_at hW0 hvm.symm (hgood _ List.mem_cons_self) hk
  have hini' : (Cond.initialized cls).before args s' = true := vx_ot_at hW0 hvm.symm (hgood _ (List.mem_cons_of_mem _ List.mem_cons_self)) hini
  have hU' : vx_Zq Bundle.tN "UNASSIGNED_STACK" Bundle.steD A s' s'.heap := by rw [hhp]; exact vx_Zq.moved hW0.alike (hU.kept hS.2.1)
  have hN' : vx_Zq Bundle.tN "SUPPRESSED_SENTINEL" Bundle.listD A s' s'.heap := by rw [hhp]; exact vx_Zq.moved hW0.alike (hN.kept hS.2.1)
  have h : ∀ w ∈ Bundle.ownAtoms0 own ic cls names, w.before args s' = true := vx_own hat' (vx_isRefq hU'.1) (vx_isRefq hN'.1) hU'.2.word hN'.2.word
  have hown' : s'.vm.findClass own = some m.cls := by rw [hvm]; exact hown
  have hins : (Cond.instantiable cls 6).before args s' = true := h _ (by simp [Bundle.ownAtoms0])
  obtain ⟨vm₁, cX, kX, hfX, hkX, -, -, X₁, st1⟩ := Y.newCold hexec (own := own) (C := cls) (index := ik) (n := 6) hown' hk' hins hini'
    (g := F0 m pc ls rest) rfl (by rw [hb]; exact d0) (Nat.le_refl _) (Nat.le_refl _)
  generalize hT1 : (T.setVm vm₁).pushCell { cls := cX, slots := kX.instanceTypes.map defaultValue, vm := .none } = T1 at X₁ st1
  have hcat : (Value.ref T.heap.size).category = 1 := rfl
  have hcellA : T1.heap[T.heap.size]? = some (freshCell cX kX) := by rw [← hT1]; exact State.heap_pushCell_size _ _
  have d3' : decode c.code (pc + 3) = .ok (.dup, 1) := by rw [hb]; exact d3
  obtain ⟨U, hsteps, hrun, hend, hW, hsame, ce, hce, hO⟩ := X₁.ctorThrow0 hexec htr (own := own) (cls := cls) (names := names) (ic := ic) hown' hcls hnames h (fun x hx => nomatch hx) hfX hkX hcellA (by rw [hhp, hT]; exact Nat.le_refl _)
    (g := { method := m, pc := pc + 4, locals := ls, stack := .ref T.heap.size :: .ref T.heap.size :: rest, locked := none }) rfl hsize rfl rfl (rest := rest) rfl
    (by rw [hb]; exact d4) (by rw [hb]; exact d7) hout hRframes (by simp only [List.map_cons, List.sum_cons, hcat]; omega) hlocks
  obtain ⟨f1, f2⟩ := vx_frame hsame
  rw [hhp] at f1 f2
  have hWs : s.WarmedH U.vm := State.WarmedH.trans hW0 hW
  have hcl : s.vm.findClass cls = some ce.cls := by
    have h9 := hO.cls
    rw [hvm] at h9
    exact h9
  have hall : s.sameButNew ({ U with vm := s.vm } : State) locs mc ms := by
    subst hA
    obtain ⟨e1, e2⟩ := hsame
    rw [State.setFrames_setFrames] at e1
    have h2 : (T.setVm s.vm).sameButNew ({ U with vm := s.vm } : State) [] (0 + 1) (0 + 6) := ⟨e1, e2⟩
    have h3 := X.same.trans h2
    rw [List.append_nil] at h3
    exact h3.mono hc hs
  refine ⟨U, ?_, .threw T.heap.size, hrun, hend, Or.inr ⟨T.heap.size, rfl, cls, ce, locs, hx U hWs.alike f1 (fun q hq => f2 q hq (fun z hz => nomatch hz)), hce, hO.vm, hcl, hWs, hall, hf⟩⟩
  refine st1 _ ?_
  show Steps p.tables e below (T1.setTop { method := m, pc := pc + 3, locals := ls, stack := .ref T.heap.size :: rest, locked := none }) _
  jvm_step X₁.here [X₁.here.top, hexec, d3', Value.category]
  exact hsteps
/-- 'throw new E("text")': new; dup; ldc; invokespecial; athrow -/
theorem vx_throwS {cc : ByteArray} {pc : Nat} (hexec : p.tables.exec = Jvm.exec) (hb : c.code = cc) (hl : l.stackTraces = false) {own cls text : String} {names : List String} {ik is ic mc ms sa : Nat} {A : Nat → Prop}
    (hown : s.vm.findClass own = some m.cls) (hcls : Bundle.fit cls = true) (hnames : ∀ n ∈ names, Bundle.fit n = true)
    (hk : (Cond.classLink own ik cls).before args s = true) (hini : (Cond.initialized cls).before args s = true) (hstr : vk_R own is text sa s) (hat : ∀ w ∈ vx_atS own ic cls names, w.before args s = true)
    (hgood : ∀ w ∈ Cond.classLink own ik cls :: Cond.initialized cls :: vx_atS own ic cls names, vx_ot w = true)
    (hU : vx_Zq Bundle.tN "UNASSIGNED_STACK" Bundle.steD A s s.heap) (hN : vx_Zq Bundle.tN "SUPPRESSED_SENTINEL" Bundle.listD A s s.heap) (hS : va_S A s.heap H locs) (hsize : ls.size = c.maxLocals)
    (d0 : decode cc pc = .ok (.new ik, 3)) (d3 : decode cc (pc + 3) = .ok (.dup, 1)) (d4 : decode cc (pc + 4) = .ok (.ldc is, 2)) (d6 : decode cc (pc + 6) = .ok (.invokespecial ic, 3)) (d9 : decode cc (pc + 9) = .ok (.athrow, 1))
    (hout : ∀ x ∈ c.exceptionTable.toList, covers x (pc + 9) = false)
    (hRframes : names.length + 3 < R.frames) (hRlocals : (rest.map fun v => v.category).sum + (13 * (names.length + 1) + 43) ≤ R.locals) (hRcells : cells + 1 ≤ R.cells) (hRslots : slots + 6 ≤ R.slots) (hlocks : meth.locks = false)
    (hx : ∀ t : State, s.vm.Alike t.vm → H.size ≤ t.heap.size → (∀ q : Nat, q < H.size → t.heap[q]? = H[q]?) → XC cls s t)
    (hf : ∀ z ∈ locs, free z.base) (hc : cells + 1 ≤ mc) (hs : slots + 6 ≤ ms) :
    W p l e R s m args below meth c H locs cells slots (vx_MQ below Qc XC args s mc ms free) (F0 m pc ls rest) := by
  intro T hT X
  have htr : e.platform.stackTraces = false := (show e.platform.stackTraces = l.stackTraces by rw [X.admits.platform]).trans hl
  have Y := vx_rebase X (R' := { frames := R.frames, locals := R.locals, cells := 1, slots := 6 }) (Nat.le_refl _) (Nat.le_refl _) hRcells hRslots
  obtain ⟨s', hA⟩ : ∃ z, z = (T.setVm s.vm).setFrames (.invoking m args :: below) := ⟨_, rfl⟩
  rw [← hA] at Y
  have hvm : s'.vm = s.vm := by rw [hA]; rfl
  have hhp : s'.heap = H := by rw [hA]; exact hT
  have hW0 : s.WarmedH s'.vm := by rw [hvm]; exact State.WarmedH.refl s
  have hat' : ∀ w ∈ vx_atS own ic cls names, w.before args s' = true := fun w hw => vx_ot_at hW0 hvm.symm (hgood w (List.mem_cons_of_mem _ (List.mem_cons_of_mem _ hw))) (hat w hw)
  have hk' : (Cond.classLink own ik cls).before args s' = true := vx_ot_at hW0 hvm.symm (hgood _ List.mem_cons_self) hk
  have hini' : (Cond.initialized cls).before args s' = true := vx_ot_at hW0 hvm.symm (hgood _ (List.mem_cons_of_mem _ List.mem_cons_self)) hini
  have hU' : vx_Zq Bundle.tN "UNASSIGNED_STACK" Bundle.steD A s' s'.heap := by rw [hhp]; exact vx_Zq.moved hW0.alike (hU.kept hS.2.1)
  have hN' : vx_Zq Bundle.tN "SUPPRESSED_SENTINEL" Bundle.listD A s' s'.heap := by rw [hhp]; exact vx_Zq.moved hW0.alike (hN.kept hS.2.1)
  have h : ∀ w ∈ Bundle.ownAtoms own ic cls names, w.before args s' = true := vx_own hat' (vx_isRefq hU'.1) (vx_isRefq hN'.1) hU'.2.word hN'.2.word
  have hown' : s'.vm.findClass own = some m.cls := by rw [hvm]; exact hown
  have hins : (Cond.instantiable cls 6).before args s' = true := h _ (by simp [Bundle.ownAtoms])
  obtain ⟨vm₁, cX, kX, hfX, hkX, -, -, X₁, st1⟩ := Y.newCold hexec (own := own) (C := cls) (index := ik) (n := 6) hown' hk' hins hini'
    (g := F0 m pc ls rest) rfl (by rw [hb]; exact d0) (Nat.le_refl _) (Nat.le_refl _)
  generalize hT1 : (T.setVm vm₁).pushCell { cls := cX, slots := kX.instanceTypes.map defaultValue, vm := .none } = T1 at X₁ st1
  have hcat : (Value.ref T.heap.size).category = 1 := rfl
  have hcellA : T1.heap[T.heap.size]? = some (freshCell cX kX) := by rw [← hT1]; exact State.heap_pushCell_size _ _
  have d3' : decode c.code (pc + 3) = .ok (.dup, 1) := by rw [hb]; exact d3
  have d4' : decode c.code (pc + 4) = .ok (.ldc is, 2) := by rw [hb]; exact d4
  have hstr' : vk_R own is text sa s' := vk_R.warm hW0 hstr
  obtain ⟨U, hsteps, hrun, hend, hW, hsame, ce, hce, hO⟩ := X₁.ctorThrowS hexec htr (own := own) (cls := cls) (names := names) (ic := ic) hown' hcls hnames h (fun x hx => nomatch hx) hfX hkX hcellA (by rw [hhp, hT]; exact Nat.le_refl _) (msg := .ref sa) rfl
    (g := { method := m, pc := pc + 6, locals := ls, stack := .ref sa :: .ref T.heap.size :: .ref T.heap.size :: rest, locked := none }) rfl hsize rfl rfl (rest := rest) rfl
    (by rw [hb]; exact d6) (by rw [hb]; exact d9) hout hRframes (by simp only [List.map_cons, List.sum_cons, hcat]; omega) hlocks
  obtain ⟨f1, f2⟩ := vx_frame hsame
  rw [hhp] at f1 f2
  have hWs : s.WarmedH U.vm := State.WarmedH.trans hW0 hW
  have hcl : s.vm.findClass cls = some ce.cls := by
    have h9 := hO.cls
    rw [hvm] at h9
    exact h9
  have hall : s.sameButNew ({ U with vm := s.vm } : State) locs mc ms := by
    subst hA
    obtain ⟨e1, e2⟩ := hsame
    rw [State.setFrames_setFrames] at e1
    have h2 : (T.setVm s.vm).sameButNew ({ U with vm := s.vm } : State) [] (0 + 1) (0 + 6) := ⟨e1, e2⟩
    have h3 := X.same.trans h2
    rw [List.append_nil] at h3
    exact h3.mono hc hs
  refine ⟨U, ?_, .threw T.heap.size, hrun, hend, Or.inr ⟨T.heap.size, rfl, cls, ce, locs, hx U hWs.alike f1 (fun q hq => f2 q hq (fun z hz => nomatch hz)), hce, hO.vm, hcl, hWs, hall, hf⟩⟩
  refine st1 _ ?_
  show Steps p.tables e below (T1.setTop { method := m, pc := pc + 3, locals := ls, stack := .ref T.heap.size :: rest, locked := none }) _
  jvm_step X₁.here [X₁.here.top, hexec, d3', Value.category]
  exact X₁.ldcString hexec (own := own) (text := text) (index := is) (a := sa) hown' hstr'.1 hstr'.2
    (g := { method := m, pc := pc + 4, locals := ls, stack := .ref T.heap.size :: .ref T.heap.size :: rest, locked := none }) rfl d4' _ hsteps
/-- 'throw new E("text")', the text by a wide index -/
theorem vx_throwSW {cc : ByteArray} {pc : Nat} (hexec : p.tables.exec = Jvm.exec) (hb : c.code = cc) (hl : l.stackTraces = false) {own cls text : String} {names : List String} {ik is ic mc ms sa : Nat} {A : Nat → Prop}
    (hown : s.vm.findClass own = some m.cls) (hcls : Bundle.fit cls = true) (hnames : ∀ n ∈ names, Bundle.fit n = true)
    (hk : (Cond.classLink own ik cls).before args s = true) (hini : (Cond.initialized cls).before args s = true) (hstr : vk_R own is text sa s) (hat : ∀ w ∈ vx_atS own ic cls names, w.before args s = true)
    (hgood : ∀ w ∈ Cond.classLink own ik cls :: Cond.initialized cls :: vx_atS own ic cls names, vx_ot w = true)
    (hU : vx_Zq Bundle.tN "UNASSIGNED_STACK" Bundle.steD A s s.heap) (hN : vx_Zq Bundle.tN "SUPPRESSED_SENTINEL" Bundle.listD A s s.heap) (hS : va_S A s.heap H locs) (hsize : ls.size = c.maxLocals)
    (d0 : decode cc pc = .ok (.new ik, 3)) (d3 : decode cc (pc + 3) = .ok (.dup, 1)) (d4 : decode cc (pc + 4) = .ok (.ldc_w is, 3)) (d7 : decode cc (pc + 7) = .ok (.invokespecial ic, 3)) (d10 : decode cc (pc + 10) = .ok (.athrow, 1))
    (hout : ∀ x ∈ c.exceptionTable.toList, covers x (pc + 10) = false)
    (hRframes : names.length + 3 < R.frames) (hRlocals : (rest.map fun v => v.category).sum + (13 * (names.length + 1) + 43) ≤ R.locals) (hRcells : cells + 1 ≤ R.cells) (hRslots : slots + 6 ≤ R.slots) (hlocks : meth.locks = false)
    (hx : ∀ t : State, s.vm.Alike t.vm → H.size ≤ t.heap.size → (∀ q : Nat, q < H.size → t.heap[q]? = H[q]?) → XC cls s t)
    (hf : ∀ z ∈ locs, free z.base) (hc : cells + 1 ≤ mc) (hs : slots + 6 ≤ ms) :
    W p l e R s m args below meth c H locs cells slots (vx_MQ below Qc XC args s mc ms free) (F0 m pc ls rest) := by
  intro T hT X
  have htr : e.platform.stackTraces = false := (show e.platform.stackTraces = l.stackTraces by rw [X.admits.platform]).trans hl
  have Y := vx_rebase X (R' := { frames := R.frames, locals := R.locals, cells := 1, slots := 6 }) (Nat.le_refl _) (Nat.le_refl _) hRcells hRslots
  obtain ⟨s', hA⟩ : ∃ z, z = (T.setVm s.vm).setFrames (.invoking m args :: below) := ⟨_, rfl⟩
  rw [← hA] at Y
  have hvm : s'.vm = s.vm := by rw [hA]; rfl
  have hhp : s'.heap = H := by rw [hA]; exact hT
  have hW0 : s.WarmedH s'.vm := by rw [hvm]; exact State.WarmedH.refl s
  have hat' : ∀ w ∈ vx_atS own ic cls names, w.before args s' = true := fun w hw => vx_ot_at hW0 hvm.symm (hgood w (List.mem_cons_of_mem _ (List.mem_cons_of_mem _ hw))) (hat w hw)
  have hk' : (Cond.classLink own ik cls).before args s' = true := vx_ot_at hW0 hvm.symm (hgood _ List.mem_cons_self) hk
  have hini' : (Cond.initialized cls).before args s' = true := vx_ot_at hW0 hvm.symm (hgood _ (List.mem_cons_of_mem _ List.mem_cons_self)) hini
  have hU' : vx_Zq Bundle.tN "UNASSIGNED_STACK" Bundle.steD A s' s'.heap := by rw [hhp]; exact vx_Zq.moved hW0.alike (hU.kept hS.2.1)
  have hN' : vx_Zq Bundle.tN "SUPPRESSED_SENTINEL" Bundle.listD A s' s'.heap := by rw [hhp]; exact vx_Zq.moved hW0.alike (hN.kept hS.2.1)
  have h : ∀ w ∈ Bundle.ownAtoms own ic cls names, w.before args s' = true := vx_own hat' (vx_isRefq hU'.1) (vx_isRefq hN'.1) hU'.2.word hN'.2.word
  have hown' : s'.vm.findClass own = some m.cls := by rw [hvm]; exact hown
  have hins : (Cond.instantiable cls 6).before args s' = true := h _ (by simp [Bundle.ownAtoms])
  obtain ⟨vm₁, cX, kX, hfX, hkX, -, -, X₁, st1⟩ := Y.newCold hexec (own := own) (C := cls) (index := ik) (n := 6) hown' hk' hins hini'
    (g := F0 m pc ls rest) rfl (by rw [hb]; exact d0) (Nat.le_refl _) (Nat.le_refl _)
  generalize hT1 : (T.setVm vm₁).pushCell { cls := cX, slots := kX.instanceTypes.map defaultValue, vm := .none } = T1 at X₁ st1
  have hcat : (Value.ref T.heap.size).category = 1 := rfl
  have hcellA : T1.heap[T.heap.size]? = some (freshCell cX kX) := by rw [← hT1]; exact State.heap_pushCell_size _ _
  have d3' : decode c.code (pc + 3) = .ok (.dup, 1) := by rw [hb]; exact d3
  have d4' : decode c.code (pc + 4) = .ok (.ldc_w is, 3) := by rw [hb]; exact d4
  have hstr' : vk_R own is text sa s' := vk_R.warm hW0 hstr
  obtain ⟨U, hsteps, hrun, hend, hW, hsame, ce, hce, hO⟩ := X₁.ctorThrowS hexec htr (own := own) (cls := cls) (names := names) (ic := ic) hown' hcls hnames h (fun x hx => nomatch hx) hfX hkX hcellA (by rw [hhp, hT]; exact Nat.le_refl _) (msg := .ref sa) rfl
    (g := { method := m, pc := pc + 7, locals := ls, stack := .ref sa :: .ref T.heap.size :: .ref T.heap.size :: rest, locked := none }) rfl hsize rfl rfl (rest := rest) rfl
    (by rw [hb]; exact d7) (by rw [hb]; exact d10) hout hRframes (by simp only [List.map_cons, List.sum_cons, hcat]; omega) hlocks
  obtain ⟨f1, f2⟩ := vx_frame hsame
  rw [hhp] at f1 f2
  have hWs : s.WarmedH U.vm := State.WarmedH.trans hW0 hW
  have hcl : s.vm.findClass cls = some ce.cls := by
    have h9 := hO.cls
    rw [hvm] at h9
    exact h9
  have hall : s.sameButNew ({ U with vm := s.vm } : State) locs mc ms := by
    subst hA
    obtain ⟨e1, e2⟩ := hsame
    rw [State.setFrames_setFrames] at e1
    have h2 : (T.setVm s.vm).sameButNew ({ U with vm := s.vm } : State) [] (0 + 1) (0 + 6) := ⟨e1, e2⟩
    have h3 := X.same.trans h2
    rw [List.append_nil] at h3
    exact h3.mono hc hs
  refine ⟨U, ?_, .threw T.heap.size, hrun, hend, Or.inr ⟨T.heap.size, rfl, cls, ce, locs, hx U hWs.alike f1 (fun q hq => f2 q hq (fun z hz => nomatch hz)), hce, hO.vm, hcl, hWs, hall, hf⟩⟩
  refine st1 _ ?_
  show Steps p.tables e below (T1.setTop { method := m, pc := pc + 3, locals := ls, stack := .ref T.heap.size :: rest, locked := none }) _
  jvm_step X₁.here [X₁.here.top, hexec, d3', Value.category]
  exact X₁.ldcStringW hexec (own := own) (text := text) (index := is) (a := sa) hown' hstr'.1 hstr'.2
    (g := { method := m, pc := pc + 4, locals := ls, stack := .ref T.heap.size :: .ref T.heap.size :: rest, locked := none }) rfl d4' _ hsteps
end Ends
section Bodies
variable {l : Launch}
theorem vx_ofW {y : MethodName} {ws ws' : List Cond} {rm : Room} {Pc : Array Value → State → Prop} {Qc : Array Value → State → Outcome → State → Prop} {XC : String → State → State → Prop} {mc ms : Nat} {free : Addr → Prop} {cc : ByteArray} {maxL : Nat} {ret : Option FieldType}
    (hy : plainName y.cls = true) (hw : ws = Cond.code y cc maxL ret :: ws')
    (body : ∀ p e s m args below meth c s₁, BodyLoose p l y (headSpec ws rm) cc maxL ret e s m args below meth c s₁ → c.maxLocals = maxL → (∀ x ∈ c.exceptionTable.toList, False) → Pc args s →
      W p l e (headSpec ws rm).room s m args below meth c s.heap [] 0 0 (vx_MQ below Qc XC args s mc ms free) (entryFrame m args maxL)) : vx_Met l y ws rm Pc Qc XC mc ms free := by
  refine MetFree.of_bodyS (code := cc) (maxLocals := maxL) (ret := ret) hy ?_ ?_
  · intro args s m h hn
    obtain ⟨meth, c, h1, h2, h3, h4, h5, h6, -, -⟩ := Cond.code_spec hn (atoms_spec (ws := ws) h _ (by rw [hw]; exact List.mem_cons_self))
    exact ⟨meth, c, h1, h2, h3, h4, h5, h6⟩
  · intro p e s m args below meth c s₁ B hml hP _
    have hh0 : s₁.heap = s.heap := by rw [B.state]; rfl
    have ht : ∀ x ∈ c.exceptionTable.toList, False := by
      obtain ⟨meth9, c9, h1, h2, -, -, -, -, h7, -⟩ := Cond.code_spec B.named (atoms_spec (ws := ws) B.pre _ (by rw [hw]; exact List.mem_cons_self))
      cases Option.some.inj (h1.symm.trans B.method)
      cases Option.some.inj (h2.symm.trans (Stand.of_body B).code)
      intro x hx
      rw [Array.isEmpty_iff.mp h7] at hx
      cases hx
    obtain ⟨t, a1, o, b1, b2, b3⟩ := body p e s m args below meth c s₁ B hml ht hP s₁ hh0 (Stand.of_body B)
    exact ⟨t, o, a1, b1, b2, b3⟩
/-- the table of a body with handlers -/
theorem vx_table {p : Program} {x y : MethodName} {S : Spec} {cc bytes : ByteArray} {maxL maxL' : Nat} {ret ret' : Option FieldType} {e : Env} {s s₁ : State} {m : MethodId} {args : Array Value} {below : List Frame} {meth : Method} {c : Code} {hh : List (Nat × Nat × Nat × Nat)}
    (B : BodyLoose p l y S cc maxL ret e s m args below meth c s₁) (h : (Cond.codeWith y bytes maxL' ret' hh).before args s = true) : c.exceptionTable.toList = tableOf hh := by
  obtain ⟨m9, meth9, c9, hn9, h1, h2, -, -, h6, -⟩ := Cond.codeWith_spec h
  cases Option.some.inj (hn9.symm.trans B.named)
  cases Option.some.inj (h1.symm.trans B.method)
  cases Option.some.inj (h2.symm.trans (Stand.of_body B).code)
  rw [← h6, table_eq]
end Bodies
end VXA
/-! ===== END ===== -/
/-! ===== BEGIN a static call of a method with an exception table ===== -/
section VXS
variable {p : Program} {l : Launch} {e : Env} {R : Room} {s : State} {m : MethodId} {args : Array Value} {below : List Frame} {meth : Method} {c : Code} {T : State} {H : Heap} {locs : List Loc} {cells slots : Nat}
abbrev vx_CSW (R : Room) (s : State) (args : Array Value) (own : String) (index : Nat) (y : MethodName) (bytes : ByteArray) (maxL : Nat) (ret : Option FieldType) (hh : List (Nat × Nat × Nat × Nat)) (ws : List Cond) (rm : Room) (mc ms n : Nat) : Prop :=
  (rm.cells = mc ∧ rm.slots = ms ∧ rm.frames + 1 ≤ R.frames ∧ 8 + (maxL + 11) + rm.locals ≤ R.locals ∧ (∀ w ∈ ws, ∀ (a' : Array Value) (U : State), s.WarmedH U.vm → w.before a' U = true) ∧ Cond.codeWith y bytes maxL ret hh ∈ ws) ∧
  (Cond.codeWith y bytes maxL ret hh).before args s = true ∧ (Cond.initialized y.cls).before args s = true ∧ (y.cls ≠ "java/lang/invoke/MethodHandle" ∧ y.cls ≠ "java/lang/invoke/VarHandle") ∧
  (∀ sig, parseMethodDescriptor y.desc = some sig → n = sig.parameters.length) ∧ (Cond.methodLink own index y).before args s = true ∧ (Cond.static y).before args s = true
theorem vx_cwSW {own : String} {index maxL mc ms : Nat} {y : MethodName} {bytes : ByteArray} {ret : Option FieldType} {hh : List (Nat × Nat × Nat × Nat)} {Ts ws ws' : List Cond} {rm : Room} (n : Nat) (ht : ∀ w ∈ Ts, w.before args s = true) (hT : GoodIn Ts (va_wsS own index y ws)) (hw : ws = Cond.codeWith y bytes maxL ret hh :: ws') (hrc : rm.cells = mc) (hrs : rm.slots = ms)
    (hd : y.cls ≠ "java/lang/invoke/MethodHandle" ∧ y.cls ≠ "java/lang/invoke/VarHandle" ∧ (parseMethodDescriptor y.desc).map (fun d => d.parameters.length) = some n) (hR : rm.frames + 1 ≤ R.frames ∧ 8 + (maxL + 11) + rm.locals ≤ R.locals) :
    vx_CSW R s args own index y bytes maxL ret hh ws rm mc ms n := by
  have ok : ∀ w ∈ va_wsS own index y ws, w.before args s = true := fun w h => ht w (hT w h).1
  have hG : GoodIn Ts ws := fun w h => hT w (by unfold va_wsS; exact List.mem_append_right _ h)
  have hc : Cond.codeWith y bytes maxL ret hh ∈ ws := by rw [hw]; exact List.mem_cons_self
  refine ⟨⟨hrc, hrs, hR.1, hR.2, pay_in ht hG, hc⟩, ht _ (hG _ hc).1, ok _ (by simp [va_wsS]), ⟨hd.1, hd.2.1⟩, fun sig h => ?_, ok _ (by simp [va_wsS]), ok _ (by simp [va_wsS])⟩
  have h2 := hd.2.2
  rw [h] at h2
  exact (Option.some.inj h2).symm
theorem vx_callSW (X : Stand p l e R s m args below meth c T locs cells slots) (hexec : p.tables.exec = Jvm.exec) {own : String} {index : Nat} {y : MethodName} {bytes : ByteArray} {maxL : Nat} {ret : Option FieldType} {hh : List (Nat × Nat × Nat × Nat)}
    (hown : s.vm.findClass own = some m.cls) (hlink : (Cond.methodLink own index y).before args s = true) (hstat : (Cond.static y).before args s = true) (hinit : (Cond.initialized y.cls).before args s = true)
    (hcode : (Cond.codeWith y bytes maxL ret hh).before args s = true) (hy : y.cls ≠ "java/lang/invoke/MethodHandle" ∧ y.cls ≠ "java/lang/invoke/VarHandle")
    {W9 : Nat} {Pre : Pt → Array Value → Prop} {Post : Pt → Array Value → Option Value → Pt → Prop} (hK : Back l R p e below s args y 3 W9 Pre Post)
    {g : JFrame} (hg : g.method = m) (hsize : g.locals.size = c.maxLocals) {argsL rest : List Value} (hlen : ∀ sig, parseMethodDescriptor y.desc = some sig → argsL.length = sig.parameters.length)
    (hstack : g.stack = argsL.reverse ++ rest) (hW : 2 * g.monitorRoom + (rest.map fun v => v.category).sum ≤ W9) (hdg : decode c.code g.pc = .ok (.invokestatic index, 3))
    (hpre : ∀ vm₁, s.WarmedH vm₁ → Pre ⟨T.setVm vm₁, locs, cells, slots⟩ argsL.toArray) :
    ∃ (v : Option Value) (vm₁ : Vm) (B : Pt), s.WarmedH vm₁ ∧ Stand p l e R s m args below meth c B.U B.locs B.cells B.slots ∧ Post ⟨T.setVm vm₁, locs, cells, slots⟩ argsL.toArray v B ∧
      ∀ target, Steps p.tables e below (B.U.setTop { g with pc := g.pc + 3, stack := v.toList ++ rest }) target → Steps p.tables e below (T.setTop g) target := by
  obtain ⟨mk, methM, cM, hnamed, hmethM, -, -, -, -, -, -, hsigM⟩ := Cond.codeWith_spec hcode
  have hstatic : methM.isStatic = true := Cond.static_spec hnamed hmethM hstat
  obtain ⟨kP, hkP, -⟩ := className_of_methodNamed hnamed
  have hinitP : kP.init = .initialized := Cond.initialized_spec (findClass_of_methodNamed hnamed) hkP hinit
  obtain ⟨vm₁, X₁, hstep₁⟩ := X.invokestatic hexec hown hlink hnamed hmethM hstatic hkP hinitP hy (g := g) hg (argsL := argsL) (rest := rest) (hlen _ hsigM) hstack hdg
  obtain ⟨v, B, X', hpost, hsteps⟩ := hK m meth c ⟨T.setVm vm₁, locs, cells, slots⟩ { g with stack := rest } (.invokestatic index) mk argsL.toArray X₁ hg hsize hdg hW (X₁.named hnamed) (hpre vm₁ X₁.warmed)
  exact ⟨v, vm₁, B, X₁.warmed, X', hpost, fun target h => hstep₁ _ fun acts => by rw [doInvoke_state]; exact hsteps.trans h⟩
theorem vx_runSW {y : MethodName} {bytes cc : ByteArray} {maxL nL mc ms n index : Nat} {ret : Option FieldType} {hh : List (Nat × Nat × Nat × Nat)} {ws : List Cond} {rm : Room} {Pc : Array Value → State → Prop} {Qc : Array Value → State → Outcome → State → Prop} {free : Addr → Prop} {Ts : List Cond} {own : String} {As rest : List Value} {g : JFrame}
    (S : CallFix p m c cc nL s args Ts own) (hM : Met l y ws rm Pc Qc mc ms free) (cw : vx_CSW R s args own index y bytes maxL ret hh ws rm mc ms n) (hp : PreS s H Pc As)
    (hg : g.method = m) (hn : As.length = n) (hsize : g.locals.size = nL) (hstack : g.stack = As.reverse ++ rest) (hW : 2 * g.monitorRoom + (rest.map fun v => v.category).sum ≤ 8) (hdg : decode cc g.pc = .ok (.invokestatic index, 3)) (hf : cells + mc ≤ R.cells ∧ slots + ms ≤ R.slots) :
    va_Run p l e R s m args below meth c H locs cells slots mc ms g rest (Qc As.toArray) (free) := by
  obtain ⟨⟨hrc, hrs, hfr, hlo, hws, hcw⟩, hcode, hini, hy, hlen, hl, hstt⟩ := cw
  have hK : Back l R p e below s args y 3 8 (PreOf R mc ms Pc) (PostOf Qc mc ms free) := va_backW (hh := hh) (bytes := bytes) (maxL := maxL) (ret := ret) hM hp.1 hrc hrs hfr hlo hws hcw (fun a' U hW => word_at hW (Or.inl (by first | rfl | simp [Cond.onTables, Cond.keeps, Cond.steady])) hini)
  obtain ⟨hx, hb, hml, ho, -⟩ := S
  intro T hT X
  obtain ⟨v, vm₁, ⟨U', l2, c2, s2⟩, hW₁, X', ⟨g', mk, t, L, e1, e2, hq, h1, hL, h2, h3⟩, st⟩ := vx_callSW X hx (hh := hh) (bytes := bytes) (maxL := maxL) (ret := ret) ho hl hstt hini hcode hy hK hg (hsize.trans hml.symm) (argsL := As) (rest := rest) (fun sig h => hn.trans (hlen sig h)) hstack hW (by rw [hb]; exact hdg)
    (fun vm₁ hW₁ => ⟨hf.1, hf.2, hp.2 (T.setVm vm₁) hT hW₁⟩)
  dsimp only [Pt.U, Pt.locs, Pt.cells, Pt.slots] at X' e1 e2 h1 h2 h3 st
  subst h1; subst h2; subst h3
  exact ⟨v, (T.setVm vm₁).calling g' mk As.toArray, t, U', L, hT, X', hL, e1, e2, hq, st⟩
/-- not caught here, past rows that name other classes: it goes on to the caller -/
theorem vx_outP {p : Program} {l : Launch} {e : Env} {R : Room} {s : State} {m : MethodId} {args : Array Value} {below : List Frame} {meth : Method} {c : Code} {H : Heap} {locs : List Loc} {cells slots : Nat} {free : Addr → Prop} {ls : Array Slot} {rest : List Value} {Qc : Array Value → State → Outcome → State → Prop} {XC : String → State → State → Prop}
    {pc : Nat} {own E : String} {ce : Cell} {q : Addr} {mc ms : Nat} (hown : s.vm.findClass own = some m.cls) (hlocks : meth.locks = false)
    (hpass : ∀ z ∈ c.exceptionTable.toList, covers z pc = false ∨ (z.catchType ≠ 0 ∧ ∃ nm : String, (Cond.classLink own z.catchType nm).before args s = true ∧ va_Nc E nm s)) (hcell : H[q]? = some ce) (hv : ce.vm = .none) (hcl : s.vm.findClass E = some ce.cls)
    (hx : ∀ t : State, t.heap = H → s.vm.Alike t.vm → XC E s t) (hf : ∀ z ∈ locs, free z.base) (hc : cells ≤ mc) (hs : slots ≤ ms) :
    vx_W p l e R s m args below meth c H locs cells slots (vx_MQ below Qc XC args s mc ms free) (F0 m pc ls rest) q := by
  intro T hT X
  have hpl : e.platform.magicAccessors = ({} : Platform).magicAccessors := by rw [X.admits.platform]
  obtain ⟨vm', hW', X', st⟩ := X.outThrough hlocks q (g := F0 m pc ls rest) rfl rfl rfl (cell := ce) (by rw [hT]; exact hcell) (by rw [hv]; rfl)
    (by obtain ⟨k9, h9, -⟩ := Vm.findClass_spec hcl; exact ⟨k9, h9⟩) (fun z hz => by
      rcases hpass z hz with h | ⟨hz0, nm, hl1, hn1⟩
      · exact Or.inl h
      · obtain ⟨c6, hc6, hcl6⟩ := Cond.classLink_spec hown hl1 e.platform hpl
        obtain ⟨a8, b8, h1, h2, h3⟩ := hn1
        cases Option.some.inj (h1.symm.trans hcl)
        cases Option.some.inj (h2.symm.trans hc6)
        exact Or.inr ⟨hz0, _, hcl6, h3⟩)
  obtain ⟨g₀, hfr⟩ := X'.frames_eq
  have hcell9 : ((T.setVm vm').setFrames (.throwing q :: below)).heap[q]? = some ce := by
    show T.heap[q]? = some ce
    rw [hT]; exact hcell
  have hend : Ended ((T.setVm vm').setFrames (.throwing q :: below)) below (.threw q) := State.frames_setFrames _ (State.cur_lt_of_frames hfr)
  refine ⟨(T.setVm vm').setFrames (.throwing q :: below), ?_, .threw q, X'.here.running, hend, Or.inr ⟨q, rfl, E, ce, locs, hx _ hT (X'.ends _).1.alike, hcell9, hv, hcl, (X'.ends _).1, (X'.ends _).2.mono hc hs, hf⟩⟩
  rw [X.pushThrowing_eq]
  exact st
/-- a thing of a world lies in the heap -/
theorem vx_lt {D : va_G} {cl : List vw_C} {ws : va_W} {H1 : Heap} (h : va_P D cl ws H1) {k : Nat} {q : Nat × va_E} (hk : ws[k]? = some q) : q.1 < H1.size := (h k q hk).lt
end VXS
/-! ===== END ===== -/
/-! ===== BEGIN methods with a table of their own: called by a name, returning or throwing ===== -/
section VXH
/-! vx_backW, vx_callVX, vx_callSX, vx_callVW, vx_runVW, vx_runVX, vx_runSX, vx_ofWH follow the same proofs as their sisters above (Free/Laws.lean, Shelf42/LK1.lean); vx_outP calls Shelf42/NT130.lean (outThrough). -/
section
variable {l : Launch} {R : Room} {p : Program} {e : Env} {below : List Frame} {s : State} {sargs : Array Value} {y : MethodName} {len W9 : Nat}
theorem vx_backW {ws : List Cond} {rm : Room} {Pc : Array Value → State → Prop} {Qc : Array Value → State → Outcome → State → Prop} {XC : String → State → State → Prop} {mc ms : Nat} {free : Addr → Prop} {bytes : ByteArray} {maxL : Nat} {ret : Option FieldType} {hh : List (Nat × Nat × Nat × Nat)}
    (hM : vx_Met l y ws rm Pc Qc XC mc ms free) (hblind : FrameBlind Pc) (hrc : rm.cells = mc) (hrs : rm.slots = ms)
    (hframes : rm.frames + 1 ≤ R.frames) (hlocals : W9 + (maxL + 11) + rm.locals ≤ R.locals)
    (hws : ∀ w ∈ ws, ∀ a' U, s.WarmedH U.vm → w.before a' U = true) (hcode : Cond.codeWith y bytes maxL ret hh ∈ ws) (hinit : ∀ a' U, s.WarmedH U.vm → (Cond.initialized y.cls).before a' U = true) :
    vx_Back l R p e below s sargs y len W9 (PreOf R mc ms Pc) (PostOf Qc mc ms free) (vx_Post XC mc ms free) := by
  intro m meth c A g ig mk a X hg hsize hdg hW hn hp
  have h1 : (headSpec ws rm).pre.before a A.U = true := atoms_intro fun w hw => hws w hw _ _ X.warmed
  have h2 : (Cond.codeWith y bytes maxL ret hh).before a A.U = true := hws _ hcode _ _ X.warmed
  have h3 : (Cond.initialized y.cls).before a A.U = true := hinit _ _ X.warmed
  have h4 : A.cells + (headSpec ws rm).room.cells ≤ R.cells := by rw [show (headSpec ws rm).room.cells = mc from hrc]; exact hp.1
  have h5 : A.slots + (headSpec ws rm).room.slots ≤ R.slots := by rw [show (headSpec ws rm).room.slots = ms from hrs]; exact hp.2.1
  have hPc : Pc a (A.U.calling g mk a) := hblind _ _ _ _ hp.2.2
  obtain ⟨U, Ls, c0, s0⟩ := A
  dsimp only [Pt.U, Pt.locs, Pt.cells, Pt.slots] at h1 h2 h3 h4 h5 X hn hPc ⊢
  obtain ⟨m9, methY, cY, hn9, hmY, hcY, -, hlY, -⟩ := Cond.codeWith_spec h2
  cases Option.some.inj (hn9.symm.trans hn)
  obtain ⟨kY, hkY, -⟩ := className_of_methodNamed hn
  have hinitY : kY.init = .initialized := Cond.initialized_spec (findClass_of_methodNamed hn) hkY h3
  have h : At U g.method c below := by rw [hg]; exact X.here
  have hlocals9 : W9 + (maxL + 11) + (headSpec ws rm).room.locals ≤ R.locals := hlocals
  have happ : (headSpec ws rm).appliesLoose y e.platform (U.calling g mk a) = true :=
    Spec.appliesLoose_calling (g := g) h hdg hn hkY hinitY
      (X.room_calling (g := g) (R' := (headSpec ws rm).room) hsize hmY hcY hframes (by rw [hlY]; omega) h4 h5) h1
  obtain ⟨mid, hmid⟩ := h.above
  have hfr : (U.setTop g).frames = (.java g :: mid) ++ below := by rw [State.frames_setTop' g h.top, hmid]; rfl
  obtain ⟨o, s₂, hsteps, -, hend, hq⟩ := Steps.callFree hM p X.admits X.cas X.clock (acts := []) hfr happ hPc trivial
  have hq' : vx_Q Qc XC mc ms free a (U.calling g mk a) o s₂ := hq
  rw [State.frames_setTop' g h.top] at hend
  obtain ⟨g₀, hg0⟩ := Option.isSome_iff_exists.mp h.top
  obtain ⟨r, hr⟩ := State.topJava?_eq_some.mp hg0
  have hr' : (({ U with heap := s₂.heap, slotsUsed := s₂.slotsUsed } : State).setVm s₂.vm).frames = .java g₀ :: r := hr
  rcases hq' with ⟨hqc, L, hfe, hL⟩ | ⟨q, rfl, E, ce, L, hx, hce, hcv, hcl, hW₂, hsm, hL⟩
  · obtain ⟨⟨v, rfl⟩, hW₂, e2, q2, q3, q4, q5, q6⟩ := id hfe
    have e3 : s₂ = ({ (U.calling g mk a).setFrames s₂.frames with heap := s₂.heap, slotsUsed := s₂.slotsUsed } : State).setVm s₂.vm := by
      have : s₂ = ({ s₂ with vm := (U.calling g mk a).vm } : State).setVm s₂.vm := rfl
      rw [e2] at this
      exact this
    obtain ⟨c₂, i₂, len₂, hc₂, hd₂, hf₂⟩ := hend
    have hW' : U.WarmedH s₂.vm := hW₂
    have hcc : c₂ = c := by
      have h1 : s₂.code? g.method = U.code? g.method := by
        rw [State.code?_eq, State.code?_eq, hW'.alike.method?]
      exact Option.some.inj (hc₂.symm.trans (h1.trans h.code))
    subst hcc
    have hlen : len₂ = len := by rw [hdg] at hd₂; cases hd₂; rfl
    subst hlen
    have hs₂ : s₂ = (({ U with heap := s₂.heap, slotsUsed := s₂.slotsUsed } : State).setVm s₂.vm).setTop { g with pc := g.pc + len₂, stack := v.toList ++ g.stack } := by
      refine e3.trans ?_
      rw [hf₂, State.calling_eq h.top, State.setFrames_setFrames, State.setTop_of_frames _ hr', hr]
      rfl
    have hsame : U.sameButNew ({ U with heap := s₂.heap, slotsUsed := s₂.slotsUsed } : State) L mc ms := by
      refine ⟨?_, q2, q3, q4, q5, q6⟩
      obtain ⟨t, ht, -⟩ := State.frames_cons hr
      show ({ U with heap := s₂.heap, slotsUsed := s₂.slotsUsed } : State) = { U.setFrames U.frames with heap := s₂.heap, slotsUsed := s₂.slotsUsed }
      rw [State.setFrames_self ht]
    subst hg
    refine Or.inl ⟨v, ⟨(({ U with heap := s₂.heap, slotsUsed := s₂.slotsUsed } : State).setVm s₂.vm), Ls ++ L, c0 + mc, s0 + ms⟩,
      ⟨X.admits, X.cas, X.clock, X.frames, X.room, X.hears, X.method, X.code, (X.here.setHeapUsed s₂.heap s₂.slotsUsed).setVm hW'.alike, X.tail, State.WarmedH.trans X.warmed hW', X.limits, X.bytes, X.same.trans (hsame.setVm s.vm)⟩,
      ⟨g, mk, s₂, L, rfl, rfl, hqc, rfl, hL, rfl, rfl⟩, ?_⟩
    show Steps p.tables e below _ ((({ U with heap := s₂.heap, slotsUsed := s₂.slotsUsed } : State).setVm s₂.vm).setTop { g with pc := g.pc + len₂, stack := v.toList ++ g.stack })
    rw [← hs₂]
    exact hsteps
  · obtain ⟨e2, q2, q3, q4, q5, q6⟩ := id hsm
    have e3 : s₂ = ({ (U.calling g mk a).setFrames s₂.frames with heap := s₂.heap, slotsUsed := s₂.slotsUsed } : State).setVm s₂.vm := by
      have : s₂ = ({ s₂ with vm := (U.calling g mk a).vm } : State).setVm s₂.vm := rfl
      rw [e2] at this
      exact this
    have hf₂ : s₂.frames = .throwing q :: .java g :: U.frames.tail := hend
    have hW' : U.WarmedH s₂.vm := hW₂
    have hs₂ : s₂ = ((({ U with heap := s₂.heap, slotsUsed := s₂.slotsUsed } : State).setVm s₂.vm).setTop g).pushFrame (.throwing q) := by
      refine e3.trans ?_
      rw [hf₂, State.calling_eq h.top, State.setFrames_setFrames, State.pushFrame, State.frames_setTop _ hr', State.setTop_of_frames _ hr', State.setFrames_setFrames, hr]
      rfl
    have hsame : U.sameButNew ({ U with heap := s₂.heap, slotsUsed := s₂.slotsUsed } : State) L mc ms := by
      refine ⟨?_, q2, q3, q4, q5, q6⟩
      obtain ⟨t, ht, -⟩ := State.frames_cons hr
      show ({ U with heap := s₂.heap, slotsUsed := s₂.slotsUsed } : State) = { U.setFrames U.frames with heap := s₂.heap, slotsUsed := s₂.slotsUsed }
      rw [State.setFrames_self ht]
    subst hg
    refine Or.inr ⟨q, ⟨(({ U with heap := s₂.heap, slotsUsed := s₂.slotsUsed } : State).setVm s₂.vm), Ls ++ L, c0 + mc, s0 + ms⟩,
      ⟨X.admits, X.cas, X.clock, X.frames, X.room, X.hears, X.method, X.code, (X.here.setHeapUsed s₂.heap s₂.slotsUsed).setVm hW'.alike, X.tail, State.WarmedH.trans X.warmed hW', X.limits, X.bytes, X.same.trans (hsame.setVm s.vm)⟩,
      ⟨g, mk, s₂, L, E, ce, rfl, rfl, hx, hce, hcv, hcl, rfl, hL, rfl, rfl⟩, ?_⟩
    show Steps p.tables e below _ (((({ U with heap := s₂.heap, slotsUsed := s₂.slotsUsed } : State).setVm s₂.vm).setTop g).pushFrame (.throwing q))
    rw [← hs₂]
    exact hsteps
end
variable {p : Program} {l : Launch} {e : Env} {R : Room} {s : State} {m : MethodId} {args : Array Value} {below : List Frame} {meth : Method} {c : Code} {T : State} {H : Heap} {locs : List Loc} {cells slots : Nat}
theorem vx_callVX (X : Stand p l e R s m args below meth c T locs cells slots) (hexec : p.tables.exec = Jvm.exec) {own C : String} {index : Nat} {y : MethodName} {bytes : ByteArray} {maxL : Nat} {ret : Option FieldType} {hh : List (Nat × Nat × Nat × Nat)}
    (hown : s.vm.findClass own = some m.cls) (hlink : (Cond.methodLink own index y).before args s = true) (hinst : (Cond.instanceMethod y).before args s = true) (hsel : (Cond.selects C y y).before args s = true)
    (hcode : (Cond.codeWith y bytes maxL ret hh).before args s = true) (hy : y.cls ≠ "java/lang/invoke/MethodHandle" ∧ y.cls ≠ "java/lang/invoke/VarHandle")
    {W9 : Nat} {Pre : Pt → Array Value → Prop} {Post : Pt → Array Value → Option Value → Pt → Prop} {PostX : Pt → Array Value → Addr → Pt → Prop} (hK : vx_Back l R p e below s args y 3 W9 Pre Post PostX)
    {b : Addr} {cellB : Cell} (hcell : T.heap[b]? = some cellB) (hobj : cellB.vm.isStatics = false) (hcls : s.vm.findClass C = some cellB.cls)
    {g : JFrame} (hg : g.method = m) (hsize : g.locals.size = c.maxLocals) {argsL rest : List Value} (hlen : ∀ sig, parseMethodDescriptor y.desc = some sig → argsL.length = sig.parameters.length)
    (hstack : g.stack = argsL.reverse ++ .ref b :: rest) (hW : 2 * g.monitorRoom + (rest.map fun v => v.category).sum ≤ W9) (hdg : decode c.code g.pc = .ok (.invokevirtual index, 3))
    (hpre : ∀ vm₁, s.WarmedH vm₁ → Pre ⟨T.setVm vm₁, locs, cells, slots⟩ (Value.ref b :: argsL).toArray) :
    (∃ (v : Option Value) (vm₁ : Vm) (B : Pt), s.WarmedH vm₁ ∧ Stand p l e R s m args below meth c B.U B.locs B.cells B.slots ∧ Post ⟨T.setVm vm₁, locs, cells, slots⟩ (Value.ref b :: argsL).toArray v B ∧
      ∀ target, Steps p.tables e below (B.U.setTop { g with pc := g.pc + 3, stack := v.toList ++ rest }) target → Steps p.tables e below (T.setTop g) target) ∨
    (∃ (q : Addr) (vm₁ : Vm) (B : Pt), s.WarmedH vm₁ ∧ Stand p l e R s m args below meth c B.U B.locs B.cells B.slots ∧ PostX ⟨T.setVm vm₁, locs, cells, slots⟩ (Value.ref b :: argsL).toArray q B ∧
      Steps p.tables e below (T.setTop g) ((B.U.setTop { g with stack := rest }).pushFrame (.throwing q))) := by
  obtain ⟨mk, methM, hnamed, hmethM, hstM, habM⟩ := Cond.instanceMethod_spec hinst
  obtain ⟨m8, methM', cM, hn8, hmethM', -, -, -, -, -, -, hsigM⟩ := Cond.codeWith_spec hcode
  cases Option.some.inj (hn8.symm.trans hnamed)
  cases hmethM.symm.trans hmethM'
  obtain ⟨c2, r2, m2, q1, q2, q3, q4, kP, hkP, hkPi⟩ := Cond.selects_spec hsel
  cases hcls.symm.trans q1
  cases (State.methodFound?_of_named hnamed hy).symm.trans q2
  cases hnamed.symm.trans q3
  have hselP : selectMethod e.platform s.vm cellB.cls mk = .method mk := by rw [Launch.admits_selectMethod X.admits]; exact q4
  obtain ⟨vm₁, X₁, hstep₁⟩ := X.invokevirtual hexec hown hlink hnamed hmethM hstM hkP hkPi hy (a := b) (cell := cellB) hcell
    (fun z h => by rw [h] at hobj; cases hobj) hselP hmethM habM hkP hkPi (g := g) hg (argsL := argsL) (rest := rest) (hlen _ hsigM) hstack hdg
  rcases hK m meth c ⟨T.setVm vm₁, locs, cells, slots⟩ { g with stack := rest } (.invokevirtual index) mk (Value.ref b :: argsL).toArray X₁ hg hsize hdg hW (X₁.named hnamed) (hpre vm₁ X₁.warmed) with ⟨v, B, X', hpost, hsteps⟩ | ⟨q, B, X', hpost, hsteps⟩
  · exact Or.inl ⟨v, vm₁, B, X₁.warmed, X', hpost, fun target h => hstep₁ _ fun acts => by rw [doInvoke_state]; exact hsteps.trans h⟩
  · exact Or.inr ⟨q, vm₁, B, X₁.warmed, X', hpost, hstep₁ _ fun acts => by rw [doInvoke_state]; exact hsteps⟩
theorem vx_callSX (X : Stand p l e R s m args below meth c T locs cells slots) (hexec : p.tables.exec = Jvm.exec) {own : String} {index : Nat} {y : MethodName} {bytes : ByteArray} {maxL : Nat} {ret : Option FieldType} {hh : List (Nat × Nat × Nat × Nat)}
    (hown : s.vm.findClass own = some m.cls) (hlink : (Cond.methodLink own index y).before args s = true) (hstat : (Cond.static y).before args s = true) (hinit : (Cond.initialized y.cls).before args s = true)
    (hcode : (Cond.codeWith y bytes maxL ret hh).before args s = true) (hy : y.cls ≠ "java/lang/invoke/MethodHandle" ∧ y.cls ≠ "java/lang/invoke/VarHandle")
    {W9 : Nat} {Pre : Pt → Array Value → Prop} {Post : Pt → Array Value → Option Value → Pt → Prop} {PostX : Pt → Array Value → Addr → Pt → Prop} (hK : vx_Back l R p e below s args y 3 W9 Pre Post PostX)
    {g : JFrame} (hg : g.method = m) (hsize : g.locals.size = c.maxLocals) {argsL rest : List Value} (hlen : ∀ sig, parseMethodDescriptor y.desc = some sig → argsL.length = sig.parameters.length)
    (hstack : g.stack = argsL.reverse ++ rest) (hW : 2 * g.monitorRoom + (rest.map fun v => v.category).sum ≤ W9) (hdg : decode c.code g.pc = .ok (.invokestatic index, 3))
    (hpre : ∀ vm₁, s.WarmedH vm₁ → Pre ⟨T.setVm vm₁, locs, cells, slots⟩ argsL.toArray) :
    (∃ (v : Option Value) (vm₁ : Vm) (B : Pt), s.WarmedH vm₁ ∧ Stand p l e R s m args below meth c B.U B.locs B.cells B.slots ∧ Post ⟨T.setVm vm₁, locs, cells, slots⟩ argsL.toArray v B ∧
      ∀ target, Steps p.tables e below (B.U.setTop { g with pc := g.pc + 3, stack := v.toList ++ rest }) target → Steps p.tables e below (T.setTop g) target) ∨
    (∃ (q : Addr) (vm₁ : Vm) (B : Pt), s.WarmedH vm₁ ∧ Stand p l e R s m args below meth c B.U B.locs B.cells B.slots ∧ PostX ⟨T.setVm vm₁, locs, cells, slots⟩ argsL.toArray q B ∧
      Steps p.tables e below (T.setTop g) ((B.U.setTop { g with stack := rest }).pushFrame (.throwing q))) := by
  obtain ⟨mk, methM, cM, hnamed, hmethM, -, -, -, -, -, -, hsigM⟩ := Cond.codeWith_spec hcode
  have hstatic : methM.isStatic = true := Cond.static_spec hnamed hmethM hstat
  obtain ⟨kP, hkP, -⟩ := className_of_methodNamed hnamed
  have hinitP : kP.init = .initialized := Cond.initialized_spec (findClass_of_methodNamed hnamed) hkP hinit
  obtain ⟨vm₁, X₁, hstep₁⟩ := X.invokestatic hexec hown hlink hnamed hmethM hstatic hkP hinitP hy (g := g) hg (argsL := argsL) (rest := rest) (hlen _ hsigM) hstack hdg
  rcases hK m meth c ⟨T.setVm vm₁, locs, cells, slots⟩ { g with stack := rest } (.invokestatic index) mk argsL.toArray X₁ hg hsize hdg hW (X₁.named hnamed) (hpre vm₁ X₁.warmed) with ⟨v, B, X', hpost, hsteps⟩ | ⟨q, B, X', hpost, hsteps⟩
  · exact Or.inl ⟨v, vm₁, B, X₁.warmed, X', hpost, fun target h => hstep₁ _ fun acts => by rw [doInvoke_state]; exact hsteps.trans h⟩
  · exact Or.inr ⟨q, vm₁, B, X₁.warmed, X', hpost, hstep₁ _ fun acts => by rw [doInvoke_state]; exact hsteps⟩
theorem vx_callVW (X : Stand p l e R s m args below meth c T locs cells slots) (hexec : p.tables.exec = Jvm.exec) {own C : String} {index : Nat} {y : MethodName} {bytes : ByteArray} {maxL : Nat} {ret : Option FieldType} {hh : List (Nat × Nat × Nat × Nat)}
    (hown : s.vm.findClass own = some m.cls) (hlink : (Cond.methodLink own index y).before args s = true) (hinst : (Cond.instanceMethod y).before args s = true) (hsel : (Cond.selects C y y).before args s = true)
    (hcode : (Cond.codeWith y bytes maxL ret hh).before args s = true) (hy : y.cls ≠ "java/lang/invoke/MethodHandle" ∧ y.cls ≠ "java/lang/invoke/VarHandle")
    {W9 : Nat} {Pre : Pt → Array Value → Prop} {Post : Pt → Array Value → Option Value → Pt → Prop} (hK : Back l R p e below s args y 3 W9 Pre Post)
    {b : Addr} {cellB : Cell} (hcell : T.heap[b]? = some cellB) (hobj : cellB.vm.isStatics = false) (hcls : s.vm.findClass C = some cellB.cls)
    {g : JFrame} (hg : g.method = m) (hsize : g.locals.size = c.maxLocals) {argsL rest : List Value} (hlen : ∀ sig, parseMethodDescriptor y.desc = some sig → argsL.length = sig.parameters.length)
    (hstack : g.stack = argsL.reverse ++ .ref b :: rest) (hW : 2 * g.monitorRoom + (rest.map fun v => v.category).sum ≤ W9) (hdg : decode c.code g.pc = .ok (.invokevirtual index, 3))
    (hpre : ∀ vm₁, s.WarmedH vm₁ → Pre ⟨T.setVm vm₁, locs, cells, slots⟩ (Value.ref b :: argsL).toArray) :
    ∃ (v : Option Value) (vm₁ : Vm) (B : Pt), s.WarmedH vm₁ ∧ Stand p l e R s m args below meth c B.U B.locs B.cells B.slots ∧ Post ⟨T.setVm vm₁, locs, cells, slots⟩ (Value.ref b :: argsL).toArray v B ∧
      ∀ target, Steps p.tables e below (B.U.setTop { g with pc := g.pc + 3, stack := v.toList ++ rest }) target → Steps p.tables e below (T.setTop g) target := by
  obtain ⟨mk, methM, hnamed, hmethM, hstM, habM⟩ := Cond.instanceMethod_spec hinst
  obtain ⟨m8, methM', cM, hn8, hmethM', -, -, -, -, -, -, hsigM⟩ := Cond.codeWith_spec hcode
  cases Option.some.inj (hn8.symm.trans hnamed)
  cases hmethM.symm.trans hmethM'
  obtain ⟨c2, r2, m2, q1, q2, q3, q4, kP, hkP, hkPi⟩ := Cond.selects_spec hsel
  cases hcls.symm.trans q1
  cases (State.methodFound?_of_named hnamed hy).symm.trans q2
  cases hnamed.symm.trans q3
  have hselP : selectMethod e.platform s.vm cellB.cls mk = .method mk := by rw [Launch.admits_selectMethod X.admits]; exact q4
  obtain ⟨vm₁, X₁, hstep₁⟩ := X.invokevirtual hexec hown hlink hnamed hmethM hstM hkP hkPi hy (a := b) (cell := cellB) hcell
    (fun z h => by rw [h] at hobj; cases hobj) hselP hmethM habM hkP hkPi (g := g) hg (argsL := argsL) (rest := rest) (hlen _ hsigM) hstack hdg
  obtain ⟨v, B, X', hpost, hsteps⟩ := hK m meth c ⟨T.setVm vm₁, locs, cells, slots⟩ { g with stack := rest } (.invokevirtual index) mk (Value.ref b :: argsL).toArray X₁ hg hsize hdg hW (X₁.named hnamed) (hpre vm₁ X₁.warmed)
  exact ⟨v, vm₁, B, X₁.warmed, X', hpost, fun target h => hstep₁ _ fun acts => by rw [doInvoke_state]; exact hsteps.trans h⟩
abbrev vx_CVW (R : Room) (s : State) (args : Array Value) (own C : String) (index : Nat) (y : MethodName) (bytes : ByteArray) (maxL : Nat) (ret : Option FieldType) (hh : List (Nat × Nat × Nat × Nat)) (ws : List Cond) (rm : Room) (mc ms n : Nat) : Prop :=
  (rm.cells = mc ∧ rm.slots = ms ∧ rm.frames + 1 ≤ R.frames ∧ 8 + (maxL + 11) + rm.locals ≤ R.locals ∧ (∀ w ∈ ws, ∀ (a' : Array Value) (U : State), s.WarmedH U.vm → w.before a' U = true) ∧ Cond.codeWith y bytes maxL ret hh ∈ ws) ∧
  (Cond.codeWith y bytes maxL ret hh).before args s = true ∧ (Cond.initialized y.cls).before args s = true ∧ (y.cls ≠ "java/lang/invoke/MethodHandle" ∧ y.cls ≠ "java/lang/invoke/VarHandle") ∧
  (∀ sig, parseMethodDescriptor y.desc = some sig → n = sig.parameters.length) ∧ (Cond.methodLink own index y).before args s = true ∧ (Cond.instanceMethod y).before args s = true ∧ (Cond.selects C y y).before args s = true
theorem vx_cwVW {own C : String} {index maxL mc ms : Nat} {y : MethodName} {bytes : ByteArray} {ret : Option FieldType} {hh : List (Nat × Nat × Nat × Nat)} {Ts ws ws' : List Cond} {rm : Room} (n : Nat) (ht : ∀ w ∈ Ts, w.before args s = true) (hT : GoodIn Ts (wsV own index C y ws)) (hw : ws = Cond.codeWith y bytes maxL ret hh :: ws') (hrc : rm.cells = mc) (hrs : rm.slots = ms)
    (hd : y.cls = C ∧ y.cls ≠ "java/lang/invoke/MethodHandle" ∧ y.cls ≠ "java/lang/invoke/VarHandle" ∧ (parseMethodDescriptor y.desc).map (fun d => d.parameters.length) = some n) (hR : rm.frames + 1 ≤ R.frames ∧ 8 + (maxL + 11) + rm.locals ≤ R.locals) :
    vx_CVW R s args own C index y bytes maxL ret hh ws rm mc ms n := by
  obtain ⟨hC, hd⟩ := hd
  subst hC
  have ok : ∀ w ∈ wsV own index y.cls y ws, w.before args s = true := fun w h => ht w (hT w h).1
  have hG : GoodIn Ts ws := fun w h => hT w (by unfold wsV; exact List.mem_append_right _ h)
  have hc : Cond.codeWith y bytes maxL ret hh ∈ ws := by rw [hw]; exact List.mem_cons_self
  refine ⟨⟨hrc, hrs, hR.1, hR.2, pay_in ht hG, hc⟩, ht _ (hG _ hc).1, ok _ (by simp [wsV]), ⟨hd.1, hd.2.1⟩, fun sig h => ?_, ok _ (by simp [wsV]), ok _ (by simp [wsV]), ok _ (by simp [wsV])⟩
  have h2 := hd.2.2
  rw [h] at h2
  exact (Option.some.inj h2).symm
theorem vx_runVW {y : MethodName} {bytes cc : ByteArray} {maxL nL mc ms n index : Nat} {ret : Option FieldType} {hh : List (Nat × Nat × Nat × Nat)} {ws : List Cond} {rm : Room} {Pc : Array Value → State → Prop} {Qc : Array Value → State → Outcome → State → Prop} {free : Addr → Prop} {Ts : List Cond} {own C : String} {b : Addr} {As rest : List Value} {g : JFrame}
    (S : CallFix p m c cc nL s args Ts own) (hM : Met l y ws rm Pc Qc mc ms free) (cw : vx_CVW R s args own C index y bytes maxL ret hh ws rm mc ms n) (hp : PreV s H C b Pc As)
    (hg : g.method = m) (hn : As.length = n) (hsize : g.locals.size = nL) (hstack : g.stack = As.reverse ++ .ref b :: rest) (hW : 2 * g.monitorRoom + (rest.map fun v => v.category).sum ≤ 8) (hdg : decode cc g.pc = .ok (.invokevirtual index, 3)) (hf : cells + mc ≤ R.cells ∧ slots + ms ≤ R.slots) :
    va_Run p l e R s m args below meth c H locs cells slots mc ms g rest (Qc (Value.ref b :: As).toArray) free := by
  obtain ⟨⟨hrc, hrs, hfr, hlo, hws, hcw⟩, hcode, hini, hy, hlen, hl, hin, hse⟩ := cw
  have hK : Back l R p e below s args y 3 8 (PreOf R mc ms Pc) (PostOf Qc mc ms free) := va_backW (hh := hh) (bytes := bytes) (maxL := maxL) (ret := ret) hM hp.1 hrc hrs hfr hlo hws hcw (fun a' U hW => word_at hW (Or.inl (by first | rfl | simp [Cond.onTables, Cond.keeps, Cond.steady])) hini)
  obtain ⟨hx, hb, hml, ho, -⟩ := S
  obtain ⟨-, ⟨cellB, hcB, hoB, hclB⟩, hPc⟩ := hp
  intro T hT X
  obtain ⟨v, vm₁, ⟨U', l2, c2, s2⟩, hW₁, X', ⟨g', mk, t, L, e1, e2, hq, h1, hL, h2, h3⟩, st⟩ := vx_callVW X hx (C := C) (hh := hh) (bytes := bytes) (maxL := maxL) (ret := ret) ho hl hin hse hcode hy hK (by rw [hT]; exact hcB) hoB hclB hg (hsize.trans hml.symm) (argsL := As) (rest := rest) (fun sig h => hn.trans (hlen sig h)) hstack hW (by rw [hb]; exact hdg)
    (fun vm₁ hW₁ => ⟨hf.1, hf.2, hPc (T.setVm vm₁) hT hW₁⟩)
  dsimp only [Pt.U, Pt.locs, Pt.cells, Pt.slots] at X' e1 e2 h1 h2 h3 st
  subst h1; subst h2; subst h3
  exact ⟨v, (T.setVm vm₁).calling g' mk (Value.ref b :: As).toArray, t, U', L, hT, X', hL, e1, e2, hq, st⟩
section
variable {y : MethodName} {bytes cc : ByteArray} {maxL nL mc ms n index : Nat} {ret : Option FieldType} {ws : List Cond} {rm : Room} {Pc : Array Value → State → Prop} {Qc : Array Value → State → Outcome → State → Prop} {XC : String → State → State → Prop} {free : Addr → Prop} {Ts : List Cond} {own C : String} {b : Addr} {As rest : List Value} {g : JFrame}
theorem vx_runVX {hh : List (Nat × Nat × Nat × Nat)} (S : CallFix p m c cc nL s args Ts own) (hM : vx_Met l y ws rm Pc Qc XC mc ms free) (cw : vx_CVW R s args own C index y bytes maxL ret hh ws rm mc ms n) (hp : PreV s H C b Pc As)
    (hg : g.method = m) (hn : As.length = n) (hsize : g.locals.size = nL) (hstack : g.stack = As.reverse ++ .ref b :: rest) (hW : 2 * g.monitorRoom + (rest.map fun v => v.category).sum ≤ 8) (hdg : decode cc g.pc = .ok (.invokevirtual index, 3)) (hf : cells + mc ≤ R.cells ∧ slots + ms ≤ R.slots) :
    vx_Run p l e R s m args below meth c H locs cells slots mc ms g rest (Qc (Value.ref b :: As).toArray) XC free := by
  obtain ⟨⟨hrc, hrs, hfr, hlo, hws, hcw⟩, hcode, hini, hy, hlen, hl, hin, hse⟩ := cw
  have hK : vx_Back l R p e below s args y 3 8 (PreOf R mc ms Pc) (PostOf Qc mc ms free) (vx_Post XC mc ms free) := vx_backW (hh := hh) (bytes := bytes) (maxL := maxL) (ret := ret) hM hp.1 hrc hrs hfr hlo hws hcw (fun a' U hW => word_at hW (Or.inl (by first | rfl | simp [Cond.onTables, Cond.keeps, Cond.steady])) hini)
  obtain ⟨hx, hb, hml, ho, -⟩ := S
  obtain ⟨-, ⟨cellB, hcB, hoB, hclB⟩, hPc⟩ := hp
  intro T hT X
  rcases vx_callVX X hx (C := C) (hh := hh) (bytes := bytes) (maxL := maxL) (ret := ret) ho hl hin hse hcode hy hK (by rw [hT]; exact hcB) hoB hclB hg (hsize.trans hml.symm) (argsL := As) (rest := rest) (fun sig h => hn.trans (hlen sig h)) hstack hW (by rw [hb]; exact hdg)
    (fun vm₁ hW₁ => ⟨hf.1, hf.2, hPc (T.setVm vm₁) hT hW₁⟩) with ⟨v, vm₁, ⟨U', l2, c2, s2⟩, hW₁, X', ⟨g', mk, t, L, e1, e2, hq, h1, hL, h2, h3⟩, st⟩ | ⟨q, vm₁, ⟨U', l2, c2, s2⟩, hW₁, X', ⟨g', mk, t, L, E, ce, e1, e2, hq, hce, hcv, hcl, h1, hL, h2, h3⟩, st⟩
  · dsimp only [Pt.U, Pt.locs, Pt.cells, Pt.slots] at X' e1 e2 h1 h2 h3 st
    subst h1; subst h2; subst h3
    exact Or.inl ⟨v, (T.setVm vm₁).calling g' mk (Value.ref b :: As).toArray, t, U', L, hT, X', hL, e1, e2, hq, st⟩
  · dsimp only [Pt.U, Pt.locs, Pt.cells, Pt.slots] at X' e1 e2 h1 h2 h3 st hcl
    subst h1; subst h2; subst h3
    exact Or.inr ⟨q, (T.setVm vm₁).calling g' mk (Value.ref b :: As).toArray, t, U', L, E, ce, hT, X', hL, e1, e2, hq, hce, hcv, vx_cls hW₁ hcl, st⟩
theorem vx_runSX {hh : List (Nat × Nat × Nat × Nat)} (S : CallFix p m c cc nL s args Ts own) (hM : vx_Met l y ws rm Pc Qc XC mc ms free) (cw : vx_CSW R s args own index y bytes maxL ret hh ws rm mc ms n) (hp : PreS s H Pc As)
    (hg : g.method = m) (hn : As.length = n) (hsize : g.locals.size = nL) (hstack : g.stack = As.reverse ++ rest) (hW : 2 * g.monitorRoom + (rest.map fun v => v.category).sum ≤ 8) (hdg : decode cc g.pc = .ok (.invokestatic index, 3)) (hf : cells + mc ≤ R.cells ∧ slots + ms ≤ R.slots) :
    vx_Run p l e R s m args below meth c H locs cells slots mc ms g rest (Qc As.toArray) XC free := by
  obtain ⟨⟨hrc, hrs, hfr, hlo, hws, hcw⟩, hcode, hini, hy, hlen, hl, hstt⟩ := cw
  have hK : vx_Back l R p e below s args y 3 8 (PreOf R mc ms Pc) (PostOf Qc mc ms free) (vx_Post XC mc ms free) := vx_backW (hh := hh) (bytes := bytes) (maxL := maxL) (ret := ret) hM hp.1 hrc hrs hfr hlo hws hcw (fun a' U hW => word_at hW (Or.inl (by first | rfl | simp [Cond.onTables, Cond.keeps, Cond.steady])) hini)
  obtain ⟨hx, hb, hml, ho, -⟩ := S
  intro T hT X
  rcases vx_callSX X hx (hh := hh) (bytes := bytes) (maxL := maxL) (ret := ret) ho hl hstt hini hcode hy hK hg (hsize.trans hml.symm) (argsL := As) (rest := rest) (fun sig h => hn.trans (hlen sig h)) hstack hW (by rw [hb]; exact hdg)
    (fun vm₁ hW₁ => ⟨hf.1, hf.2, hp.2 (T.setVm vm₁) hT hW₁⟩) with ⟨v, vm₁, ⟨U', l2, c2, s2⟩, hW₁, X', ⟨g', mk, t, L, e1, e2, hq, h1, hL, h2, h3⟩, st⟩ | ⟨q, vm₁, ⟨U', l2, c2, s2⟩, hW₁, X', ⟨g', mk, t, L, E, ce, e1, e2, hq, hce, hcv, hcl, h1, hL, h2, h3⟩, st⟩
  · dsimp only [Pt.U, Pt.locs, Pt.cells, Pt.slots] at X' e1 e2 h1 h2 h3 st
    subst h1; subst h2; subst h3
    exact Or.inl ⟨v, (T.setVm vm₁).calling g' mk As.toArray, t, U', L, hT, X', hL, e1, e2, hq, st⟩
  · dsimp only [Pt.U, Pt.locs, Pt.cells, Pt.slots] at X' e1 e2 h1 h2 h3 st hcl
    subst h1; subst h2; subst h3
    exact Or.inr ⟨q, (T.setVm vm₁).calling g' mk As.toArray, t, U', L, E, ce, hT, X', hL, e1, e2, hq, hce, hcv, vx_cls hW₁ hcl, st⟩
end
end VXH
theorem vx_ofWH {l : Launch} {y : MethodName} {ws ws' : List Cond} {rm : Room} {Pc : Array Value → State → Prop} {Qc : Array Value → State → Outcome → State → Prop} {XC : String → State → State → Prop} {mc ms : Nat} {free : Addr → Prop} {cc : ByteArray} {maxL : Nat} {ret : Option FieldType} {hh : List (Nat × Nat × Nat × Nat)}
    (hy : plainName y.cls = true) (hw : ws = Cond.codeWith y cc maxL ret hh :: ws')
    (body : ∀ p e s m args below meth c s₁, BodyLoose p l y (headSpec ws rm) cc maxL ret e s m args below meth c s₁ → c.maxLocals = maxL → Pc args s →
      W p l e (headSpec ws rm).room s m args below meth c s.heap [] 0 0 (vx_MQ below Qc XC args s mc ms free) (entryFrame m args maxL)) : vx_Met l y ws rm Pc Qc XC mc ms free := by
  refine MetFree.of_bodyS (code := cc) (maxLocals := maxL) (ret := ret) hy ?_ ?_
  · intro args s m h hn
    obtain ⟨m9, meth, c, hn9, h1, h2, h3, h4, -, h5, h6, -⟩ := Cond.codeWith_spec (atoms_spec (ws := ws) h _ (by rw [hw]; exact List.mem_cons_self))
    cases hn.symm.trans hn9
    exact ⟨meth, c, h1, h2, h3, h4, h5, h6⟩
  · intro p e s m args below meth c s₁ B hml hP _
    have hh0 : s₁.heap = s.heap := by rw [B.state]; rfl
    obtain ⟨t, a1, o, b1, b2, b3⟩ := body p e s m args below meth c s₁ B hml hP s₁ hh0 (Stand.of_body B)
    exact ⟨t, o, a1, b1, b2, b3⟩
/-! ===== END ===== -/

/-! ===== BEGIN printed: names, fields, word lists, decode rows ===== -/
def RX0 : String := "SofaRailway$1"
def TX0 : u_T := fun k => match k with
  | _ => ("", "", "", false)
def tyX0 : Nat → FieldType := fun k => match k with
  | _ => .int
abbrev wsX00 : List Cond := u_ws RX0 TX0 0
theorem nmX0 : ∀ a, a < 0 → ∀ b, b < 0 → a ≠ b → (TX0 a).2.1 ≠ (TX0 b).2.1 := by decide +kernel
theorem tyX0_ok : ∀ k, k < 0 → parseFieldDescriptor (TX0 k).2.2.1 = some (tyX0 k) := by decide +kernel
def RX1 : String := "SofaRailway$Command"
def TX1 : u_T := fun k => match k with
  | _ => ("", "", "", false)
def tyX1 : Nat → FieldType := fun k => match k with
  | _ => .int
abbrev wsX10 : List Cond := u_ws RX1 TX1 0
theorem nmX1 : ∀ a, a < 0 → ∀ b, b < 0 → a ≠ b → (TX1 a).2.1 ≠ (TX1 b).2.1 := by decide +kernel
theorem tyX1_ok : ∀ k, k < 0 → parseFieldDescriptor (TX1 k).2.2.1 = some (tyX1 k) := by decide +kernel
def RX2 : String := "SofaRailway$CommandReader"
def TX2 : u_T := fun k => match k with
  | 0 => ("SofaRailway$CommandReader", "text", "[C", true)
  | 1 => ("SofaRailway$CommandReader", "size", "I", false)
  | 2 => ("SofaRailway$CommandReader", "position", "I", false)
  | 3 => ("SofaRailway$CommandReader", "ended", "Z", false)
  | 4 => ("SofaRailway$CommandReader", "command", "LSofaRailway$Command;", false)
  | 5 => ("SofaRailway$CommandReader", "first", "I", false)
  | _ => ("SofaRailway$CommandReader", "second", "I", false)
def tyX2 : Nat → FieldType := fun k => match k with
  | 0 => .array .char
  | 1 => .int
  | 2 => .int
  | 3 => .boolean
  | 4 => .object "SofaRailway$Command"
  | 5 => .int
  | _ => .int
abbrev wsX20 : List Cond := u_ws RX2 TX2 7
theorem nmX2 : ∀ a, a < 7 → ∀ b, b < 7 → a ≠ b → (TX2 a).2.1 ≠ (TX2 b).2.1 := by decide +kernel
theorem tyX2_ok : ∀ k, k < 7 → parseFieldDescriptor (TX2 k).2.2.1 = some (tyX2 k) := by decide +kernel
abbrev cX2_init : ByteArray := prog_4_method_1_code
def yX2_init : MethodName := ⟨RX2, "<init>", "()V"⟩
abbrev cX2_append : ByteArray := prog_4_method_2_code
def yX2_append : MethodName := ⟨RX2, "append", "(C)Z"⟩
abbrev cX2_clear : ByteArray := prog_4_method_3_code
def yX2_clear : MethodName := ⟨RX2, "clear", "()V"⟩
abbrev cX2_rewind : ByteArray := prog_4_method_4_code
def yX2_rewind : MethodName := ⟨RX2, "rewind", "()V"⟩
abbrev cX2_findError : ByteArray := prog_4_method_5_code
def yX2_findError : MethodName := ⟨RX2, "findError", "()I"⟩
abbrev cX2_readCommand : ByteArray := prog_4_method_6_code
def yX2_readCommand : MethodName := ⟨RX2, "readCommand", "()Z"⟩
abbrev cX2_closeCommand : ByteArray := prog_4_method_7_code
def yX2_closeCommand : MethodName := ⟨RX2, "closeCommand", "(I)Z"⟩
abbrev cX2_match : ByteArray := prog_4_method_8_code
def yX2_match : MethodName := ⟨RX2, "match", "(Ljava/lang/String;I)I"⟩
abbrev cX2_putNumber : ByteArray := prog_4_method_9_code
def yX2_putNumber : MethodName := ⟨RX2, "putNumber", "(III)V"⟩
abbrev cX2_isDigit : ByteArray := prog_4_method_10_code
def yX2_isDigit : MethodName := ⟨RX2, "isDigit", "(I)Z"⟩
def RX3 : String := "SofaRailway$History"
def TX3 : u_T := fun k => match k with
  | 0 => ("SofaRailway$History", "slots", "[LSofaRailway$Layout;", true)
  | 1 => ("SofaRailway$History", "next", "I", false)
  | _ => ("SofaRailway$History", "count", "I", false)
def tyX3 : Nat → FieldType := fun k => match k with
  | 0 => .array (.object "SofaRailway$Layout")
  | 1 => .int
  | _ => .int
abbrev wsX30 : List Cond := u_ws RX3 TX3 3
theorem nmX3 : ∀ a, a < 3 → ∀ b, b < 3 → a ≠ b → (TX3 a).2.1 ≠ (TX3 b).2.1 := by decide +kernel
theorem tyX3_ok : ∀ k, k < 3 → parseFieldDescriptor (TX3 k).2.2.1 = some (tyX3 k) := by decide +kernel
abbrev cX3_init : ByteArray := prog_5_method_1_code
def yX3_init : MethodName := ⟨RX3, "<init>", "()V"⟩
abbrev cX3_keep : ByteArray := prog_5_method_2_code
def yX3_keep : MethodName := ⟨RX3, "keep", "(LSofaRailway$Layout;)V"⟩
abbrev cX3_confirm : ByteArray := prog_5_method_3_code
def yX3_confirm : MethodName := ⟨RX3, "confirm", "()V"⟩
abbrev cX3_revert : ByteArray := prog_5_method_4_code
def yX3_revert : MethodName := ⟨RX3, "revert", "(LSofaRailway$Layout;)V"⟩
abbrev cX3_stepBack : ByteArray := prog_5_method_5_code
def yX3_stepBack : MethodName := ⟨RX3, "stepBack", "(LSofaRailway$Layout;)I"⟩
abbrev cX3_forget : ByteArray := prog_5_method_6_code
def yX3_forget : MethodName := ⟨RX3, "forget", "()V"⟩
def RX4 : String := "SofaRailway$Layout"
def TX4 : u_T := fun k => match k with
  | 0 => ("SofaRailway$Layout", "blocks", "I", false)
  | 1 => ("SofaRailway$Layout", "trains", "I", false)
  | 2 => ("SofaRailway$Layout", "ticks", "I", false)
  | 3 => ("SofaRailway$Layout", "arrivals", "I", false)
  | 4 => ("SofaRailway$Layout", "cushions", "I", false)
  | 5 => ("SofaRailway$Layout", "cats", "I", false)
  | 6 => ("SofaRailway$Layout", "derailed", "I", false)
  | 7 => ("SofaRailway$Layout", "lengths", "[I", true)
  | 8 => ("SofaRailway$Layout", "links", "[I", true)
  | 9 => ("SofaRailway$Layout", "places", "[I", true)
  | 10 => ("SofaRailway$Layout", "priorities", "[I", true)
  | 11 => ("SofaRailway$Layout", "remaining", "[I", true)
  | 12 => ("SofaRailway$Layout", "goals", "[I", true)
  | 13 => ("SofaRailway$Layout", "holds", "[I", true)
  | _ => ("SofaRailway$Layout", "waits", "[I", true)
def tyX4 : Nat → FieldType := fun k => match k with
  | 0 => .int
  | 1 => .int
  | 2 => .int
  | 3 => .int
  | 4 => .int
  | 5 => .int
  | 6 => .int
  | 7 => .array .int
  | 8 => .array .int
  | 9 => .array .int
  | 10 => .array .int
  | 11 => .array .int
  | 12 => .array .int
  | 13 => .array .int
  | _ => .array .int
abbrev wsX40 : List Cond := u_ws RX4 TX4 15
theorem nmX4 : ∀ a, a < 15 → ∀ b, b < 15 → a ≠ b → (TX4 a).2.1 ≠ (TX4 b).2.1 := by decide +kernel
theorem tyX4_ok : ∀ k, k < 15 → parseFieldDescriptor (TX4 k).2.2.1 = some (tyX4 k) := by decide +kernel
abbrev cX4_init : ByteArray := prog_6_method_1_code
def yX4_init : MethodName := ⟨RX4, "<init>", "()V"⟩
abbrev cX4_copyFrom : ByteArray := prog_6_method_2_code
def yX4_copyFrom : MethodName := ⟨RX4, "copyFrom", "(LSofaRailway$Layout;)V"⟩
abbrev cX4_isBlock : ByteArray := prog_6_method_3_code
def yX4_isBlock : MethodName := ⟨RX4, "isBlock", "(I)Z"⟩
abbrev cX4_isTrain : ByteArray := prog_6_method_4_code
def yX4_isTrain : MethodName := ⟨RX4, "isTrain", "(I)Z"⟩
abbrev cX4_isJoined : ByteArray := prog_6_method_5_code
def yX4_isJoined : MethodName := ⟨RX4, "isJoined", "(II)Z"⟩
abbrev cX4_trainAt : ByteArray := prog_6_method_6_code
def yX4_trainAt : MethodName := ⟨RX4, "trainAt", "(I)I"⟩
abbrev cX4_holderOf : ByteArray := prog_6_method_7_code
def yX4_holderOf : MethodName := ⟨RX4, "holderOf", "(I)I"⟩
abbrev cX4_signalOf : ByteArray := prog_6_method_8_code
def yX4_signalOf : MethodName := ⟨RX4, "signalOf", "(I)C"⟩
abbrev cX4_trainAtRank : ByteArray := prog_6_method_9_code
def yX4_trainAtRank : MethodName := ⟨RX4, "trainAtRank", "(I)I"⟩
abbrev cX4_allWaits : ByteArray := prog_6_method_10_code
def yX4_allWaits : MethodName := ⟨RX4, "allWaits", "()I"⟩
abbrev cX4_placeBlock : ByteArray := prog_6_method_11_code
def yX4_placeBlock : MethodName := ⟨RX4, "placeBlock", "(IZ)I"⟩
abbrev cX4_join : ByteArray := prog_6_method_12_code
def yX4_join : MethodName := ⟨RX4, "join", "(II)I"⟩
abbrev cX4_separate : ByteArray := prog_6_method_13_code
def yX4_separate : MethodName := ⟨RX4, "separate", "(II)I"⟩
abbrev cX4_seatCat : ByteArray := prog_6_method_14_code
def yX4_seatCat : MethodName := ⟨RX4, "seatCat", "(I)I"⟩
abbrev cX4_liftCat : ByteArray := prog_6_method_15_code
def yX4_liftCat : MethodName := ⟨RX4, "liftCat", "(I)I"⟩
abbrev cX4_placeTrain : ByteArray := prog_6_method_16_code
def yX4_placeTrain : MethodName := ⟨RX4, "placeTrain", "(II)I"⟩
abbrev cX4_dropGoal : ByteArray := prog_6_method_17_code
def yX4_dropGoal : MethodName := ⟨RX4, "dropGoal", "(I)I"⟩
abbrev cX4_hold : ByteArray := prog_6_method_18_code
def yX4_hold : MethodName := ⟨RX4, "hold", "(II)I"⟩
abbrev cX4_release : ByteArray := prog_6_method_19_code
def yX4_release : MethodName := ⟨RX4, "release", "(I)I"⟩
abbrev cX4_rerail : ByteArray := prog_6_method_20_code
def yX4_rerail : MethodName := ⟨RX4, "rerail", "(I)I"⟩
abbrev cX4_letsIn : ByteArray := prog_6_method_21_code
def yX4_letsIn : MethodName := ⟨RX4, "letsIn", "(II)Z"⟩
abbrev cX4_moveTrain : ByteArray := prog_6_method_22_code
def yX4_moveTrain : MethodName := ⟨RX4, "moveTrain", "(II)V"⟩
abbrev cX4_countLinks : ByteArray := prog_6_method_23_code
def yX4_countLinks : MethodName := ⟨RX4, "countLinks", "()I"⟩
abbrev cX4_countHolds : ByteArray := prog_6_method_24_code
def yX4_countHolds : MethodName := ⟨RX4, "countHolds", "()I"⟩
def RX5 : String := "SofaRailway$Output"
def TX5 : u_T := fun k => match k with
  | 0 => ("SofaRailway$Output", "signs", "[C", true)
  | _ => ("SofaRailway$Output", "size", "I", false)
def tyX5 : Nat → FieldType := fun k => match k with
  | 0 => .array .char
  | _ => .int
abbrev wsX50 : List Cond := u_ws RX5 TX5 2
theorem nmX5 : ∀ a, a < 2 → ∀ b, b < 2 → a ≠ b → (TX5 a).2.1 ≠ (TX5 b).2.1 := by decide +kernel
theorem tyX5_ok : ∀ k, k < 2 → parseFieldDescriptor (TX5 k).2.2.1 = some (tyX5 k) := by decide +kernel
abbrev cX5_init : ByteArray := prog_7_method_1_code
def yX5_init : MethodName := ⟨RX5, "<init>", "()V"⟩
abbrev cX5_clear : ByteArray := prog_7_method_2_code
def yX5_clear : MethodName := ⟨RX5, "clear", "()V"⟩
abbrev cX5_put : ByteArray := prog_7_method_3_code
def yX5_put : MethodName := ⟨RX5, "put", "(C)V"⟩
abbrev cX5_putMarked : ByteArray := prog_7_method_4_code
def yX5_putMarked : MethodName := ⟨RX5, "putMarked", "(CI)V"⟩
def RX6 : String := "SofaRailway$Routes"
def TX6 : u_T := fun k => match k with
  | 0 => ("SofaRailway$Routes", "byNearest", "[I", true)
  | 1 => ("SofaRailway$Routes", "byRounds", "[I", true)
  | _ => ("SofaRailway$Routes", "groups", "[I", true)
def tyX6 : Nat → FieldType := fun k => match k with
  | 0 => .array .int
  | 1 => .array .int
  | _ => .array .int
abbrev wsX60 : List Cond := u_ws RX6 TX6 3
theorem nmX6 : ∀ a, a < 3 → ∀ b, b < 3 → a ≠ b → (TX6 a).2.1 ≠ (TX6 b).2.1 := by decide +kernel
theorem tyX6_ok : ∀ k, k < 3 → parseFieldDescriptor (TX6 k).2.2.1 = some (tyX6 k) := by decide +kernel
abbrev cX6_init : ByteArray := prog_8_method_1_code
def yX6_init : MethodName := ⟨RX6, "<init>", "()V"⟩
abbrev cX6_measureByNearest : ByteArray := prog_8_method_2_code
def yX6_measureByNearest : MethodName := ⟨RX6, "measureByNearest", "(LSofaRailway$Layout;I)V"⟩
abbrev cX6_nearestOpen : ByteArray := prog_8_method_3_code
def yX6_nearestOpen : MethodName := ⟨RX6, "nearestOpen", "(II)I"⟩
abbrev cX6_measureByRounds : ByteArray := prog_8_method_4_code
def yX6_measureByRounds : MethodName := ⟨RX6, "measureByRounds", "(LSofaRailway$Layout;I)V"⟩
abbrev cX6_shortenFrom : ByteArray := prog_8_method_5_code
def yX6_shortenFrom : MethodName := ⟨RX6, "shortenFrom", "(LSofaRailway$Layout;I)Z"⟩
abbrev cX6_distancesAgree : ByteArray := prog_8_method_6_code
def yX6_distancesAgree : MethodName := ⟨RX6, "distancesAgree", "(LSofaRailway$Layout;)Z"⟩
abbrev cX6_nextFor : ByteArray := prog_8_method_7_code
def yX6_nextFor : MethodName := ⟨RX6, "nextFor", "(LSofaRailway$Layout;I)I"⟩
abbrev cX6_cushionNear : ByteArray := prog_8_method_8_code
def yX6_cushionNear : MethodName := ⟨RX6, "cushionNear", "(LSofaRailway$Layout;I)I"⟩
abbrev cX6_partsByWalks : ByteArray := prog_8_method_9_code
def yX6_partsByWalks : MethodName := ⟨RX6, "partsByWalks", "(LSofaRailway$Layout;)I"⟩
abbrev cX6_walk : ByteArray := prog_8_method_10_code
def yX6_walk : MethodName := ⟨RX6, "walk", "(LSofaRailway$Layout;III)I"⟩
abbrev cX6_partsByUnions : ByteArray := prog_8_method_11_code
def yX6_partsByUnions : MethodName := ⟨RX6, "partsByUnions", "(LSofaRailway$Layout;)I"⟩
abbrev cX6_unite : ByteArray := prog_8_method_12_code
def yX6_unite : MethodName := ⟨RX6, "unite", "(III)V"⟩
def RX7 : String := "SofaRailway$Traffic"
def TX7 : u_T := fun k => match k with
  | 0 => ("SofaRailway$Traffic", "routes", "LSofaRailway$Routes;", true)
  | 1 => ("SofaRailway$Traffic", "blockers", "[I", true)
  | _ => ("SofaRailway$Traffic", "table", "[I", true)
def tyX7 : Nat → FieldType := fun k => match k with
  | 0 => .object "SofaRailway$Routes"
  | 1 => .array .int
  | _ => .array .int
abbrev wsX70 : List Cond := u_ws RX7 TX7 3
theorem nmX7 : ∀ a, a < 3 → ∀ b, b < 3 → a ≠ b → (TX7 a).2.1 ≠ (TX7 b).2.1 := by decide +kernel
theorem tyX7_ok : ∀ k, k < 3 → parseFieldDescriptor (TX7 k).2.2.1 = some (tyX7 k) := by decide +kernel
abbrev cX7_init : ByteArray := prog_9_method_1_code
def yX7_init : MethodName := ⟨RX7, "<init>", "()V"⟩
abbrev cX7_aim : ByteArray := prog_9_method_2_code
def yX7_aim : MethodName := ⟨RX7, "aim", "(LSofaRailway$Layout;II)I"⟩
abbrev cX7_letPass : ByteArray := prog_9_method_3_code
def yX7_letPass : MethodName := ⟨RX7, "letPass", "(LSofaRailway$Layout;I)I"⟩
abbrev cX7_consider : ByteArray := prog_9_method_4_code
def yX7_consider : MethodName := ⟨RX7, "consider", "(LSofaRailway$Layout;I)V"⟩
abbrev cX7_ticksToGoal : ByteArray := prog_9_method_5_code
def yX7_ticksToGoal : MethodName := ⟨RX7, "ticksToGoal", "(LSofaRailway$Layout;I)I"⟩
abbrev cX7_blockerOf : ByteArray := prog_9_method_6_code
def yX7_blockerOf : MethodName := ⟨RX7, "blockerOf", "(LSofaRailway$Layout;I)I"⟩
abbrev cX7_stuckByFollowing : ByteArray := prog_9_method_7_code
def yX7_stuckByFollowing : MethodName := ⟨RX7, "stuckByFollowing", "(LSofaRailway$Layout;)I"⟩
abbrev cX7_leadsBack : ByteArray := prog_9_method_8_code
def yX7_leadsBack : MethodName := ⟨RX7, "leadsBack", "(II)Z"⟩
abbrev cX7_stuckByTable : ByteArray := prog_9_method_9_code
def yX7_stuckByTable : MethodName := ⟨RX7, "stuckByTable", "(LSofaRailway$Layout;)I"⟩
def RX8 : String := "SofaRailway"
def TX8 : u_T := fun k => match k with
  | 0 => ("SofaRailway", "now", "LSofaRailway$Layout;", true)
  | 1 => ("SofaRailway", "saved", "LSofaRailway$Layout;", true)
  | 2 => ("SofaRailway", "forecast", "LSofaRailway$Layout;", true)
  | 3 => ("SofaRailway", "history", "LSofaRailway$History;", true)
  | 4 => ("SofaRailway", "routes", "LSofaRailway$Routes;", true)
  | 5 => ("SofaRailway", "traffic", "LSofaRailway$Traffic;", true)
  | 6 => ("SofaRailway", "reader", "LSofaRailway$CommandReader;", true)
  | 7 => ("SofaRailway", "output", "LSofaRailway$Output;", true)
  | 8 => ("SofaRailway", "hasSaved", "Z", false)
  | 9 => ("SofaRailway", "keptErrorPosition", "I", false)
  | _ => ("SofaRailway", "keptFailedCommand", "I", false)
def tyX8 : Nat → FieldType := fun k => match k with
  | 0 => .object "SofaRailway$Layout"
  | 1 => .object "SofaRailway$Layout"
  | 2 => .object "SofaRailway$Layout"
  | 3 => .object "SofaRailway$History"
  | 4 => .object "SofaRailway$Routes"
  | 5 => .object "SofaRailway$Traffic"
  | 6 => .object "SofaRailway$CommandReader"
  | 7 => .object "SofaRailway$Output"
  | 8 => .boolean
  | 9 => .int
  | _ => .int
abbrev wsX80 : List Cond := u_ws RX8 TX8 11
theorem nmX8 : ∀ a, a < 11 → ∀ b, b < 11 → a ≠ b → (TX8 a).2.1 ≠ (TX8 b).2.1 := by decide +kernel
theorem tyX8_ok : ∀ k, k < 11 → parseFieldDescriptor (TX8 k).2.2.1 = some (tyX8 k) := by decide +kernel
abbrev cX8_init : ByteArray := prog_1_method_1_code
def yX8_init : MethodName := ⟨RX8, "<init>", "()V"⟩
abbrev cX8_addBlock : ByteArray := prog_1_method_2_code
def yX8_addBlock : MethodName := ⟨RX8, "addBlock", "(I)I"⟩
abbrev cX8_addCushion : ByteArray := prog_1_method_3_code
def yX8_addCushion : MethodName := ⟨RX8, "addCushion", "(I)I"⟩
abbrev cX8_link : ByteArray := prog_1_method_4_code
def yX8_link : MethodName := ⟨RX8, "link", "(II)I"⟩
abbrev cX8_unlink : ByteArray := prog_1_method_5_code
def yX8_unlink : MethodName := ⟨RX8, "unlink", "(II)I"⟩
abbrev cX8_putCat : ByteArray := prog_1_method_6_code
def yX8_putCat : MethodName := ⟨RX8, "putCat", "(I)I"⟩
abbrev cX8_removeCat : ByteArray := prog_1_method_7_code
def yX8_removeCat : MethodName := ⟨RX8, "removeCat", "(I)I"⟩
abbrev cX8_blockCount : ByteArray := prog_1_method_8_code
def yX8_blockCount : MethodName := ⟨RX8, "blockCount", "()I"⟩
abbrev cX8_length : ByteArray := prog_1_method_9_code
def yX8_length : MethodName := ⟨RX8, "length", "(I)I"⟩
abbrev cX8_isCushion : ByteArray := prog_1_method_10_code
def yX8_isCushion : MethodName := ⟨RX8, "isCushion", "(I)Z"⟩
abbrev cX8_hasCat : ByteArray := prog_1_method_11_code
def yX8_hasCat : MethodName := ⟨RX8, "hasCat", "(I)Z"⟩
abbrev cX8_areLinked : ByteArray := prog_1_method_12_code
def yX8_areLinked : MethodName := ⟨RX8, "areLinked", "(II)Z"⟩
abbrev cX8_degree : ByteArray := prog_1_method_13_code
def yX8_degree : MethodName := ⟨RX8, "degree", "(I)I"⟩
abbrev cX8_trainIn : ByteArray := prog_1_method_14_code
def yX8_trainIn : MethodName := ⟨RX8, "trainIn", "(I)I"⟩
abbrev cX8_reservedBy : ByteArray := prog_1_method_15_code
def yX8_reservedBy : MethodName := ⟨RX8, "reservedBy", "(I)I"⟩
abbrev cX8_signal : ByteArray := prog_1_method_16_code
def yX8_signal : MethodName := ⟨RX8, "signal", "(I)C"⟩
abbrev cX8_distance : ByteArray := prog_1_method_17_code
def yX8_distance : MethodName := ⟨RX8, "distance", "(II)I"⟩
abbrev cX8_distanceByRounds : ByteArray := prog_1_method_18_code
def yX8_distanceByRounds : MethodName := ⟨RX8, "distanceByRounds", "(II)I"⟩
abbrev cX8_nextBlock : ByteArray := prog_1_method_19_code
def yX8_nextBlock : MethodName := ⟨RX8, "nextBlock", "(I)I"⟩
abbrev cX8_partCount : ByteArray := prog_1_method_20_code
def yX8_partCount : MethodName := ⟨RX8, "partCount", "()I"⟩
abbrev cX8_partCountByUnions : ByteArray := prog_1_method_21_code
def yX8_partCountByUnions : MethodName := ⟨RX8, "partCountByUnions", "()I"⟩
abbrev cX8_nearestCushion : ByteArray := prog_1_method_22_code
def yX8_nearestCushion : MethodName := ⟨RX8, "nearestCushion", "(I)I"⟩
abbrev cX8_addTrain : ByteArray := prog_1_method_23_code
def yX8_addTrain : MethodName := ⟨RX8, "addTrain", "(II)I"⟩
abbrev cX8_setGoal : ByteArray := prog_1_method_24_code
def yX8_setGoal : MethodName := ⟨RX8, "setGoal", "(II)I"⟩
abbrev cX8_clearGoal : ByteArray := prog_1_method_25_code
def yX8_clearGoal : MethodName := ⟨RX8, "clearGoal", "(I)I"⟩
abbrev cX8_reserve : ByteArray := prog_1_method_26_code
def yX8_reserve : MethodName := ⟨RX8, "reserve", "(II)I"⟩
abbrev cX8_cancelReservation : ByteArray := prog_1_method_27_code
def yX8_cancelReservation : MethodName := ⟨RX8, "cancelReservation", "(I)I"⟩
abbrev cX8_rescue : ByteArray := prog_1_method_28_code
def yX8_rescue : MethodName := ⟨RX8, "rescue", "(I)I"⟩
abbrev cX8_trainCount : ByteArray := prog_1_method_29_code
def yX8_trainCount : MethodName := ⟨RX8, "trainCount", "()I"⟩
abbrev cX8_blockOf : ByteArray := prog_1_method_30_code
def yX8_blockOf : MethodName := ⟨RX8, "blockOf", "(I)I"⟩
abbrev cX8_priority : ByteArray := prog_1_method_31_code
def yX8_priority : MethodName := ⟨RX8, "priority", "(I)I"⟩
abbrev cX8_remainingTicks : ByteArray := prog_1_method_32_code
def yX8_remainingTicks : MethodName := ⟨RX8, "remainingTicks", "(I)I"⟩
abbrev cX8_goal : ByteArray := prog_1_method_33_code
def yX8_goal : MethodName := ⟨RX8, "goal", "(I)I"⟩
abbrev cX8_isDerailed : ByteArray := prog_1_method_34_code
def yX8_isDerailed : MethodName := ⟨RX8, "isDerailed", "(I)Z"⟩
abbrev cX8_waits : ByteArray := prog_1_method_35_code
def yX8_waits : MethodName := ⟨RX8, "waits", "(I)I"⟩
abbrev cX8_trainByPriority : ByteArray := prog_1_method_36_code
def yX8_trainByPriority : MethodName := ⟨RX8, "trainByPriority", "(I)I"⟩
abbrev cX8_blockedBy : ByteArray := prog_1_method_37_code
def yX8_blockedBy : MethodName := ⟨RX8, "blockedBy", "(I)I"⟩
abbrev cX8_deadlocked : ByteArray := prog_1_method_38_code
def yX8_deadlocked : MethodName := ⟨RX8, "deadlocked", "()I"⟩
abbrev cX8_deadlockedByTable : ByteArray := prog_1_method_39_code
def yX8_deadlockedByTable : MethodName := ⟨RX8, "deadlockedByTable", "()I"⟩
abbrev cX8_passTicks : ByteArray := prog_1_method_40_code
def yX8_passTicks : MethodName := ⟨RX8, "passTicks", "(I)I"⟩
abbrev cX8_ticks : ByteArray := prog_1_method_41_code
def yX8_ticks : MethodName := ⟨RX8, "ticks", "()I"⟩
abbrev cX8_arrivals : ByteArray := prog_1_method_42_code
def yX8_arrivals : MethodName := ⟨RX8, "arrivals", "()I"⟩
abbrev cX8_ticksUntilArrival : ByteArray := prog_1_method_43_code
def yX8_ticksUntilArrival : MethodName := ⟨RX8, "ticksUntilArrival", "(I)I"⟩
abbrev cX8_meanWaits : ByteArray := prog_1_method_44_code
def yX8_meanWaits : MethodName := ⟨RX8, "meanWaits", "()D"⟩
abbrev cX8_occupiedFraction : ByteArray := prog_1_method_45_code
def yX8_occupiedFraction : MethodName := ⟨RX8, "occupiedFraction", "()F"⟩
abbrev cX8_writeTrain : ByteArray := prog_1_method_46_code
def yX8_writeTrain : MethodName := ⟨RX8, "writeTrain", "(I)I"⟩
abbrev cX8_writeSignals : ByteArray := prog_1_method_47_code
def yX8_writeSignals : MethodName := ⟨RX8, "writeSignals", "()I"⟩
abbrev cX8_outputCharacter : ByteArray := prog_1_method_48_code
def yX8_outputCharacter : MethodName := ⟨RX8, "outputCharacter", "(I)C"⟩
abbrev cX8_isConsistent : ByteArray := prog_1_method_49_code
def yX8_isConsistent : MethodName := ⟨RX8, "isConsistent", "()Z"⟩
abbrev cX8_feed : ByteArray := prog_1_method_50_code
def yX8_feed : MethodName := ⟨RX8, "feed", "(C)I"⟩
abbrev cX8_execute : ByteArray := prog_1_method_51_code
def yX8_execute : MethodName := ⟨RX8, "execute", "()I"⟩
abbrev cX8_errorPosition : ByteArray := prog_1_method_52_code
def yX8_errorPosition : MethodName := ⟨RX8, "errorPosition", "()I"⟩
abbrev cX8_failedCommand : ByteArray := prog_1_method_53_code
def yX8_failedCommand : MethodName := ⟨RX8, "failedCommand", "()I"⟩
abbrev cX8_undo : ByteArray := prog_1_method_54_code
def yX8_undo : MethodName := ⟨RX8, "undo", "()I"⟩
abbrev cX8_undoCount : ByteArray := prog_1_method_55_code
def yX8_undoCount : MethodName := ⟨RX8, "undoCount", "()I"⟩
abbrev cX8_save : ByteArray := prog_1_method_56_code
def yX8_save : MethodName := ⟨RX8, "save", "()I"⟩
abbrev cX8_restore : ByteArray := prog_1_method_57_code
def yX8_restore : MethodName := ⟨RX8, "restore", "()I"⟩
abbrev cX8_needBlock : ByteArray := prog_1_method_58_code
def yX8_needBlock : MethodName := ⟨RX8, "needBlock", "(I)V"⟩
abbrev cX8_needTrain : ByteArray := prog_1_method_59_code
def yX8_needTrain : MethodName := ⟨RX8, "needTrain", "(I)V"⟩
abbrev cX8_has : ByteArray := prog_1_method_60_code
def yX8_has : MethodName := ⟨RX8, "has", "(II)Z"⟩
abbrev cX8_found : ByteArray := prog_1_method_61_code
def yX8_found : MethodName := ⟨RX8, "found", "(I)I"⟩
abbrev cX8_changed : ByteArray := prog_1_method_62_code
def yX8_changed : MethodName := ⟨RX8, "changed", "(I)I"⟩
abbrev cX8_perform : ByteArray := prog_1_method_63_code
def yX8_perform : MethodName := ⟨RX8, "perform", "(LSofaRailway$Command;II)I"⟩
def RX9 : String := "SofaRailwayModel"
def TX9 : u_T := fun k => match k with
  | 0 => ("SofaRailwayModel", "thrown", "I", false)
  | 1 => ("SofaRailwayModel", "s", "[I", true)
  | 2 => ("SofaRailwayModel", "frame", "[I", true)
  | 3 => ("SofaRailwayModel", "saved", "[I", true)
  | 4 => ("SofaRailwayModel", "history", "[I", true)
  | 5 => ("SofaRailwayModel", "thought", "[I", true)
  | 6 => ("SofaRailwayModel", "kept", "I", false)
  | 7 => ("SofaRailwayModel", "hasSaved", "Z", false)
  | 8 => ("SofaRailwayModel", "text", "[I", true)
  | 9 => ("SofaRailwayModel", "told", "[I", true)
  | 10 => ("SofaRailwayModel", "out", "[I", true)
  | 11 => ("SofaRailwayModel", "far", "[I", true)
  | 12 => ("SofaRailwayModel", "mark", "[I", true)
  | 13 => ("SofaRailwayModel", "fed", "I", false)
  | 14 => ("SofaRailwayModel", "outLength", "I", false)
  | 15 => ("SofaRailwayModel", "faultAt", "I", false)
  | 16 => ("SofaRailwayModel", "failedAt", "I", false)
  | 17 => ("SofaRailwayModel", "answer", "I", false)
  | 18 => ("SofaRailwayModel", "spot", "I", false)
  | 19 => ("SofaRailwayModel", "end", "I", false)
  | 20 => ("SofaRailwayModel", "commands", "I", false)
  | _ => ("SofaRailwayModel", "isWrong", "Z", false)
def tyX9 : Nat → FieldType := fun k => match k with
  | 0 => .int
  | 1 => .array .int
  | 2 => .array .int
  | 3 => .array .int
  | 4 => .array .int
  | 5 => .array .int
  | 6 => .int
  | 7 => .boolean
  | 8 => .array .int
  | 9 => .array .int
  | 10 => .array .int
  | 11 => .array .int
  | 12 => .array .int
  | 13 => .int
  | 14 => .int
  | 15 => .int
  | 16 => .int
  | 17 => .int
  | 18 => .int
  | 19 => .int
  | 20 => .int
  | _ => .boolean
abbrev wsX90 : List Cond := u_ws RX9 TX9 22
theorem nmX9 : ∀ a, a < 22 → ∀ b, b < 22 → a ≠ b → (TX9 a).2.1 ≠ (TX9 b).2.1 := by decide +kernel
theorem tyX9_ok : ∀ k, k < 22 → parseFieldDescriptor (TX9 k).2.2.1 = some (tyX9 k) := by decide +kernel
abbrev cX9_init : ByteArray := prog_11_method_1_code
def yX9_init : MethodName := ⟨RX9, "<init>", "()V"⟩
abbrev cX9_thrown : ByteArray := prog_11_method_2_code
def yX9_thrown : MethodName := ⟨RX9, "thrown", "()I"⟩
abbrev cX9_fails : ByteArray := prog_11_method_3_code
def yX9_fails : MethodName := ⟨RX9, "fails", "(I)I"⟩
abbrev cX9_in : ByteArray := prog_11_method_4_code
def yX9_in : MethodName := ⟨RX9, "in", "(III)Z"⟩
abbrev cX9_remembers : ByteArray := prog_11_method_5_code
def yX9_remembers : MethodName := ⟨RX9, "remembers", "()V"⟩
abbrev cX9_changed : ByteArray := prog_11_method_6_code
def yX9_changed : MethodName := ⟨RX9, "changed", "(I)I"⟩
abbrev cX9_done : ByteArray := prog_11_method_7_code
def yX9_done : MethodName := ⟨RX9, "done", "(I)I"⟩
abbrev cX9_ends : ByteArray := prog_11_method_8_code
def yX9_ends : MethodName := ⟨RX9, "ends", "(I)I"⟩
abbrev cX9_isBlock : ByteArray := prog_11_method_9_code
def yX9_isBlock : MethodName := ⟨RX9, "isBlock", "(I)Z"⟩
abbrev cX9_isTrain : ByteArray := prog_11_method_10_code
def yX9_isTrain : MethodName := ⟨RX9, "isTrain", "(I)Z"⟩
abbrev cX9_block : ByteArray := prog_11_method_11_code
def yX9_block : MethodName := ⟨RX9, "block", "(II)I"⟩
abbrev cX9_train : ByteArray := prog_11_method_12_code
def yX9_train : MethodName := ⟨RX9, "train", "(II)I"⟩
abbrev cX9_sets : ByteArray := prog_11_method_13_code
def yX9_sets : MethodName := ⟨RX9, "sets", "(III)V"⟩
abbrev cX9_linked : ByteArray := prog_11_method_14_code
def yX9_linked : MethodName := ⟨RX9, "linked", "(II)Z"⟩
abbrev cX9_links : ByteArray := prog_11_method_15_code
def yX9_links : MethodName := ⟨RX9, "links", "()I"⟩
abbrev cX9_cats : ByteArray := prog_11_method_16_code
def yX9_cats : MethodName := ⟨RX9, "cats", "()I"⟩
abbrev cX9_inside : ByteArray := prog_11_method_17_code
def yX9_inside : MethodName := ⟨RX9, "inside", "(I)I"⟩
abbrev cX9_holder : ByteArray := prog_11_method_18_code
def yX9_holder : MethodName := ⟨RX9, "holder", "(I)I"⟩
abbrev cX9_held : ByteArray := prog_11_method_19_code
def yX9_held : MethodName := ⟨RX9, "held", "(I)I"⟩
abbrev cX9_goalOf : ByteArray := prog_11_method_20_code
def yX9_goalOf : MethodName := ⟨RX9, "goalOf", "(I)I"⟩
abbrev cX9_ways : ByteArray := prog_11_method_21_code
def yX9_ways : MethodName := ⟨RX9, "ways", "(I)V"⟩
abbrev cX9_next : ByteArray := prog_11_method_22_code
def yX9_next : MethodName := ⟨RX9, "next", "(I)I"⟩
abbrev cX9_adds : ByteArray := prog_11_method_23_code
def yX9_adds : MethodName := ⟨RX9, "adds", "(II)I"⟩
abbrev cX9_joins : ByteArray := prog_11_method_24_code
def yX9_joins : MethodName := ⟨RX9, "joins", "(II)I"⟩
abbrev cX9_parts : ByteArray := prog_11_method_25_code
def yX9_parts : MethodName := ⟨RX9, "parts", "(II)I"⟩
abbrev cX9_seats : ByteArray := prog_11_method_26_code
def yX9_seats : MethodName := ⟨RX9, "seats", "(I)I"⟩
abbrev cX9_shoos : ByteArray := prog_11_method_27_code
def yX9_shoos : MethodName := ⟨RX9, "shoos", "(I)I"⟩
abbrev cX9_starts : ByteArray := prog_11_method_28_code
def yX9_starts : MethodName := ⟨RX9, "starts", "(II)I"⟩
abbrev cX9_aims : ByteArray := prog_11_method_29_code
def yX9_aims : MethodName := ⟨RX9, "aims", "(II)I"⟩
abbrev cX9_forgets : ByteArray := prog_11_method_30_code
def yX9_forgets : MethodName := ⟨RX9, "forgets", "(I)I"⟩
abbrev cX9_holds : ByteArray := prog_11_method_31_code
def yX9_holds : MethodName := ⟨RX9, "holds", "(II)I"⟩
abbrev cX9_frees : ByteArray := prog_11_method_32_code
def yX9_frees : MethodName := ⟨RX9, "frees", "(I)I"⟩
abbrev cX9_rescues : ByteArray := prog_11_method_33_code
def yX9_rescues : MethodName := ⟨RX9, "rescues", "(I)I"⟩
abbrev cX9_ranked : ByteArray := prog_11_method_34_code
def yX9_ranked : MethodName := ⟨RX9, "ranked", "(I)I"⟩
abbrev cX9_acts : ByteArray := prog_11_method_35_code
def yX9_acts : MethodName := ⟨RX9, "acts", "(I)Z"⟩
abbrev cX9_oneTick : ByteArray := prog_11_method_36_code
def yX9_oneTick : MethodName := ⟨RX9, "oneTick", "()I"⟩
abbrev cX9_passes : ByteArray := prog_11_method_37_code
def yX9_passes : MethodName := ⟨RX9, "passes", "(I)I"⟩
abbrev cX9_addBlock : ByteArray := prog_11_method_38_code
def yX9_addBlock : MethodName := ⟨RX9, "addBlock", "(I)I"⟩
abbrev cX9_addCushion : ByteArray := prog_11_method_39_code
def yX9_addCushion : MethodName := ⟨RX9, "addCushion", "(I)I"⟩
abbrev cX9_link : ByteArray := prog_11_method_40_code
def yX9_link : MethodName := ⟨RX9, "link", "(II)I"⟩
abbrev cX9_unlink : ByteArray := prog_11_method_41_code
def yX9_unlink : MethodName := ⟨RX9, "unlink", "(II)I"⟩
abbrev cX9_putCat : ByteArray := prog_11_method_42_code
def yX9_putCat : MethodName := ⟨RX9, "putCat", "(I)I"⟩
abbrev cX9_removeCat : ByteArray := prog_11_method_43_code
def yX9_removeCat : MethodName := ⟨RX9, "removeCat", "(I)I"⟩
abbrev cX9_blockCount : ByteArray := prog_11_method_44_code
def yX9_blockCount : MethodName := ⟨RX9, "blockCount", "()I"⟩
abbrev cX9_askedBlock : ByteArray := prog_11_method_45_code
def yX9_askedBlock : MethodName := ⟨RX9, "askedBlock", "(II)I"⟩
abbrev cX9_length : ByteArray := prog_11_method_46_code
def yX9_length : MethodName := ⟨RX9, "length", "(I)I"⟩
abbrev cX9_isCushion : ByteArray := prog_11_method_47_code
def yX9_isCushion : MethodName := ⟨RX9, "isCushion", "(I)Z"⟩
abbrev cX9_hasCat : ByteArray := prog_11_method_48_code
def yX9_hasCat : MethodName := ⟨RX9, "hasCat", "(I)Z"⟩
abbrev cX9_areLinked : ByteArray := prog_11_method_49_code
def yX9_areLinked : MethodName := ⟨RX9, "areLinked", "(II)Z"⟩
abbrev cX9_degree : ByteArray := prog_11_method_50_code
def yX9_degree : MethodName := ⟨RX9, "degree", "(I)I"⟩
abbrev cX9_trainIn : ByteArray := prog_11_method_51_code
def yX9_trainIn : MethodName := ⟨RX9, "trainIn", "(I)I"⟩
abbrev cX9_reservedBy : ByteArray := prog_11_method_52_code
def yX9_reservedBy : MethodName := ⟨RX9, "reservedBy", "(I)I"⟩
abbrev cX9_sign : ByteArray := prog_11_method_53_code
def yX9_sign : MethodName := ⟨RX9, "sign", "(I)I"⟩
abbrev cX9_signal : ByteArray := prog_11_method_54_code
def yX9_signal : MethodName := ⟨RX9, "signal", "(I)C"⟩
abbrev cX9_distance : ByteArray := prog_11_method_55_code
def yX9_distance : MethodName := ⟨RX9, "distance", "(II)I"⟩
abbrev cX9_distanceByRounds : ByteArray := prog_11_method_56_code
def yX9_distanceByRounds : MethodName := ⟨RX9, "distanceByRounds", "(II)I"⟩
abbrev cX9_nextBlock : ByteArray := prog_11_method_57_code
def yX9_nextBlock : MethodName := ⟨RX9, "nextBlock", "(I)I"⟩
abbrev cX9_partCount : ByteArray := prog_11_method_58_code
def yX9_partCount : MethodName := ⟨RX9, "partCount", "()I"⟩
abbrev cX9_partCountByUnions : ByteArray := prog_11_method_59_code
def yX9_partCountByUnions : MethodName := ⟨RX9, "partCountByUnions", "()I"⟩
abbrev cX9_nearestCushion : ByteArray := prog_11_method_60_code
def yX9_nearestCushion : MethodName := ⟨RX9, "nearestCushion", "(I)I"⟩
abbrev cX9_addTrain : ByteArray := prog_11_method_61_code
def yX9_addTrain : MethodName := ⟨RX9, "addTrain", "(II)I"⟩
abbrev cX9_setGoal : ByteArray := prog_11_method_62_code
def yX9_setGoal : MethodName := ⟨RX9, "setGoal", "(II)I"⟩
abbrev cX9_clearGoal : ByteArray := prog_11_method_63_code
def yX9_clearGoal : MethodName := ⟨RX9, "clearGoal", "(I)I"⟩
abbrev cX9_reserve : ByteArray := prog_11_method_64_code
def yX9_reserve : MethodName := ⟨RX9, "reserve", "(II)I"⟩
abbrev cX9_cancelReservation : ByteArray := prog_11_method_65_code
def yX9_cancelReservation : MethodName := ⟨RX9, "cancelReservation", "(I)I"⟩
abbrev cX9_rescue : ByteArray := prog_11_method_66_code
def yX9_rescue : MethodName := ⟨RX9, "rescue", "(I)I"⟩
abbrev cX9_trainCount : ByteArray := prog_11_method_67_code
def yX9_trainCount : MethodName := ⟨RX9, "trainCount", "()I"⟩
abbrev cX9_asked : ByteArray := prog_11_method_68_code
def yX9_asked : MethodName := ⟨RX9, "asked", "(II)I"⟩
abbrev cX9_blockOf : ByteArray := prog_11_method_69_code
def yX9_blockOf : MethodName := ⟨RX9, "blockOf", "(I)I"⟩
abbrev cX9_priority : ByteArray := prog_11_method_70_code
def yX9_priority : MethodName := ⟨RX9, "priority", "(I)I"⟩
abbrev cX9_remainingTicks : ByteArray := prog_11_method_71_code
def yX9_remainingTicks : MethodName := ⟨RX9, "remainingTicks", "(I)I"⟩
abbrev cX9_goal : ByteArray := prog_11_method_72_code
def yX9_goal : MethodName := ⟨RX9, "goal", "(I)I"⟩
abbrev cX9_isDerailed : ByteArray := prog_11_method_73_code
def yX9_isDerailed : MethodName := ⟨RX9, "isDerailed", "(I)Z"⟩
abbrev cX9_waits : ByteArray := prog_11_method_74_code
def yX9_waits : MethodName := ⟨RX9, "waits", "(I)I"⟩
abbrev cX9_trainByPriority : ByteArray := prog_11_method_75_code
def yX9_trainByPriority : MethodName := ⟨RX9, "trainByPriority", "(I)I"⟩
abbrev cX9_blocker : ByteArray := prog_11_method_76_code
def yX9_blocker : MethodName := ⟨RX9, "blocker", "(I)I"⟩
abbrev cX9_blockedBy : ByteArray := prog_11_method_77_code
def yX9_blockedBy : MethodName := ⟨RX9, "blockedBy", "(I)I"⟩
abbrev cX9_deadlocked : ByteArray := prog_11_method_78_code
def yX9_deadlocked : MethodName := ⟨RX9, "deadlocked", "()I"⟩
abbrev cX9_deadlockedByTable : ByteArray := prog_11_method_79_code
def yX9_deadlockedByTable : MethodName := ⟨RX9, "deadlockedByTable", "()I"⟩
abbrev cX9_passTicks : ByteArray := prog_11_method_80_code
def yX9_passTicks : MethodName := ⟨RX9, "passTicks", "(I)I"⟩
abbrev cX9_ticks : ByteArray := prog_11_method_81_code
def yX9_ticks : MethodName := ⟨RX9, "ticks", "()I"⟩
abbrev cX9_arrivals : ByteArray := prog_11_method_82_code
def yX9_arrivals : MethodName := ⟨RX9, "arrivals", "()I"⟩
abbrev cX9_ticksUntilArrival : ByteArray := prog_11_method_83_code
def yX9_ticksUntilArrival : MethodName := ⟨RX9, "ticksUntilArrival", "(I)I"⟩
abbrev cX9_meanWaits : ByteArray := prog_11_method_84_code
def yX9_meanWaits : MethodName := ⟨RX9, "meanWaits", "()D"⟩
abbrev cX9_occupiedFraction : ByteArray := prog_11_method_85_code
def yX9_occupiedFraction : MethodName := ⟨RX9, "occupiedFraction", "()F"⟩
abbrev cX9_writes : ByteArray := prog_11_method_86_code
def yX9_writes : MethodName := ⟨RX9, "writes", "(I)V"⟩
abbrev cX9_writesNumber : ByteArray := prog_11_method_87_code
def yX9_writesNumber : MethodName := ⟨RX9, "writesNumber", "(I)V"⟩
abbrev cX9_writeTrain : ByteArray := prog_11_method_88_code
def yX9_writeTrain : MethodName := ⟨RX9, "writeTrain", "(I)I"⟩
abbrev cX9_writeSignals : ByteArray := prog_11_method_89_code
def yX9_writeSignals : MethodName := ⟨RX9, "writeSignals", "()I"⟩
abbrev cX9_outputCharacter : ByteArray := prog_11_method_90_code
def yX9_outputCharacter : MethodName := ⟨RX9, "outputCharacter", "(I)C"⟩
abbrev cX9_isConsistent : ByteArray := prog_11_method_91_code
def yX9_isConsistent : MethodName := ⟨RX9, "isConsistent", "()Z"⟩
abbrev cX9_feed : ByteArray := prog_11_method_92_code
def yX9_feed : MethodName := ⟨RX9, "feed", "(C)I"⟩
abbrev cX9_here : ByteArray := prog_11_method_93_code
def yX9_here : MethodName := ⟨RX9, "here", "(I)I"⟩
abbrev cX9_says : ByteArray := prog_11_method_94_code
def yX9_says : MethodName := ⟨RX9, "says", "(Ljava/lang/String;)V"⟩
abbrev cX9_number : ByteArray := prog_11_method_95_code
def yX9_number : MethodName := ⟨RX9, "number", "(II)V"⟩
abbrev cX9_one : ByteArray := prog_11_method_96_code
def yX9_one : MethodName := ⟨RX9, "one", "(ILjava/lang/String;I)V"⟩
abbrev cX9_two : ByteArray := prog_11_method_97_code
def yX9_two : MethodName := ⟨RX9, "two", "(ILjava/lang/String;ILjava/lang/String;I)V"⟩
abbrev cX9_readsOne : ByteArray := prog_11_method_98_code
def yX9_readsOne : MethodName := ⟨RX9, "readsOne", "()V"⟩
abbrev cX9_does : ByteArray := prog_11_method_99_code
def yX9_does : MethodName := ⟨RX9, "does", "(I)I"⟩
abbrev cX9_execute : ByteArray := prog_11_method_100_code
def yX9_execute : MethodName := ⟨RX9, "execute", "()I"⟩
abbrev cX9_errorPosition : ByteArray := prog_11_method_101_code
def yX9_errorPosition : MethodName := ⟨RX9, "errorPosition", "()I"⟩
abbrev cX9_failedCommand : ByteArray := prog_11_method_102_code
def yX9_failedCommand : MethodName := ⟨RX9, "failedCommand", "()I"⟩
abbrev cX9_undo : ByteArray := prog_11_method_103_code
def yX9_undo : MethodName := ⟨RX9, "undo", "()I"⟩
abbrev cX9_undoCount : ByteArray := prog_11_method_104_code
def yX9_undoCount : MethodName := ⟨RX9, "undoCount", "()I"⟩
abbrev cX9_save : ByteArray := prog_11_method_105_code
def yX9_save : MethodName := ⟨RX9, "save", "()I"⟩
abbrev cX9_restore : ByteArray := prog_11_method_106_code
def yX9_restore : MethodName := ⟨RX9, "restore", "()I"⟩
def RJx145de : String := "java/io/Serializable"
def TJx145de : u_T := fun k => match k with
  | _ => ("", "", "", false)
def tyJx145de : Nat → FieldType := fun k => match k with
  | _ => .int
abbrev wsJx145de0 : List Cond := u_ws RJx145de TJx145de 0
theorem nmJx145de : ∀ a, a < 0 → ∀ b, b < 0 → a ≠ b → (TJx145de a).2.1 ≠ (TJx145de b).2.1 := by decide +kernel
theorem tyJx145de_ok : ∀ k, k < 0 → parseFieldDescriptor (TJx145de k).2.2.1 = some (tyJx145de k) := by decide +kernel
def RJx00060 : String := "java/lang/ArrayIndexOutOfBoundsException"
def TJx00060 : u_T := fun k => match k with
  | 0 => ("java/lang/Throwable", "backtrace", "Ljava/lang/Object;", false)
  | 1 => ("java/lang/Throwable", "detailMessage", "Ljava/lang/String;", false)
  | 2 => ("java/lang/Throwable", "cause", "Ljava/lang/Throwable;", false)
  | 3 => ("java/lang/Throwable", "stackTrace", "[Ljava/lang/StackTraceElement;", false)
  | 4 => ("java/lang/Throwable", "depth", "I", false)
  | _ => ("java/lang/Throwable", "suppressedExceptions", "Ljava/util/List;", false)
def tyJx00060 : Nat → FieldType := fun k => match k with
  | 0 => .object "java/lang/Object"
  | 1 => .object "java/lang/String"
  | 2 => .object "java/lang/Throwable"
  | 3 => .array (.object "java/lang/StackTraceElement")
  | 4 => .int
  | _ => .object "java/util/List"
abbrev wsJx000600 : List Cond := u_ws RJx00060 TJx00060 6
theorem nmJx00060 : ∀ a, a < 6 → ∀ b, b < 6 → a ≠ b → (TJx00060 a).2.1 ≠ (TJx00060 b).2.1 := by decide +kernel
theorem tyJx00060_ok : ∀ k, k < 6 → parseFieldDescriptor (TJx00060 k).2.2.1 = some (tyJx00060 k) := by decide +kernel
abbrev cJx00060_init_a7421 : ByteArray := prog_14_method_2_code
def yJx00060_init_a7421 : MethodName := ⟨RJx00060, "<init>", "(Ljava/lang/String;)V"⟩
def RJx9f9b0 : String := "java/lang/CharSequence"
def TJx9f9b0 : u_T := fun k => match k with
  | _ => ("", "", "", false)
def tyJx9f9b0 : Nat → FieldType := fun k => match k with
  | _ => .int
abbrev wsJx9f9b00 : List Cond := u_ws RJx9f9b0 TJx9f9b0 0
theorem nmJx9f9b0 : ∀ a, a < 0 → ∀ b, b < 0 → a ≠ b → (TJx9f9b0 a).2.1 ≠ (TJx9f9b0 b).2.1 := by decide +kernel
theorem tyJx9f9b0_ok : ∀ k, k < 0 → parseFieldDescriptor (TJx9f9b0 k).2.2.1 = some (tyJx9f9b0 k) := by decide +kernel
def RJxb160c : String := "java/lang/Comparable"
def TJxb160c : u_T := fun k => match k with
  | _ => ("", "", "", false)
def tyJxb160c : Nat → FieldType := fun k => match k with
  | _ => .int
abbrev wsJxb160c0 : List Cond := u_ws RJxb160c TJxb160c 0
theorem nmJxb160c : ∀ a, a < 0 → ∀ b, b < 0 → a ≠ b → (TJxb160c a).2.1 ≠ (TJxb160c b).2.1 := by decide +kernel
theorem tyJxb160c_ok : ∀ k, k < 0 → parseFieldDescriptor (TJxb160c k).2.2.1 = some (tyJxb160c k) := by decide +kernel
def RJx29ce0 : String := "java/lang/Enum"
def TJx29ce0 : u_T := fun k => match k with
  | _ => ("", "", "", false)
def tyJx29ce0 : Nat → FieldType := fun k => match k with
  | _ => .int
abbrev wsJx29ce00 : List Cond := u_ws RJx29ce0 TJx29ce0 0
theorem nmJx29ce0 : ∀ a, a < 0 → ∀ b, b < 0 → a ≠ b → (TJx29ce0 a).2.1 ≠ (TJx29ce0 b).2.1 := by decide +kernel
theorem tyJx29ce0_ok : ∀ k, k < 0 → parseFieldDescriptor (TJx29ce0 k).2.2.1 = some (tyJx29ce0 k) := by decide +kernel
abbrev cJx29ce0_ordinal_8abf5 : ByteArray := prog_17_method_2_code
def yJx29ce0_ordinal_8abf5 : MethodName := ⟨RJx29ce0, "ordinal", "()I"⟩
def RJ6 : String := "java/lang/Integer"
def TJ6 : u_T := fun k => match k with
  | _ => ("", "", "", false)
def tyJ6 : Nat → FieldType := fun k => match k with
  | _ => .int
abbrev wsJ60 : List Cond := u_ws RJ6 TJ6 0
theorem nmJ6 : ∀ a, a < 0 → ∀ b, b < 0 → a ≠ b → (TJ6 a).2.1 ≠ (TJ6 b).2.1 := by decide +kernel
theorem tyJ6_ok : ∀ k, k < 0 → parseFieldDescriptor (TJ6 k).2.2.1 = some (tyJ6 k) := by decide +kernel
abbrev cJ6_bitCount_0f7a4 : ByteArray := prog_22_method_49_code
def yJ6_bitCount_0f7a4 : MethodName := ⟨RJ6, "bitCount", "(I)I"⟩
def RJ9 : String := "java/lang/Math"
def TJ9 : u_T := fun k => match k with
  | _ => ("", "", "", false)
def tyJ9 : Nat → FieldType := fun k => match k with
  | _ => .int
abbrev wsJ90 : List Cond := u_ws RJ9 TJ9 0
theorem nmJ9 : ∀ a, a < 0 → ∀ b, b < 0 → a ≠ b → (TJ9 a).2.1 ≠ (TJ9 b).2.1 := by decide +kernel
theorem tyJ9_ok : ∀ k, k < 0 → parseFieldDescriptor (TJ9 k).2.2.1 = some (tyJ9 k) := by decide +kernel
abbrev cJ9_max_7cf53 : ByteArray := prog_23_method_65_code
def yJ9_max_7cf53 : MethodName := ⟨RJ9, "max", "(II)I"⟩
abbrev cJ9_min_7cf53 : ByteArray := prog_23_method_69_code
def yJ9_min_7cf53 : MethodName := ⟨RJ9, "min", "(II)I"⟩
def RJ0 : String := "java/lang/String"
def TJ0 : u_T := fun k => match k with
  | 0 => ("java/lang/String", "value", "[B", true)
  | _ => ("java/lang/String", "coder", "B", true)
def tyJ0 : Nat → FieldType := fun k => match k with
  | 0 => .array .byte
  | _ => .byte
abbrev wsJ00 : List Cond := u_ws RJ0 TJ0 2
theorem nmJ0 : ∀ a, a < 2 → ∀ b, b < 2 → a ≠ b → (TJ0 a).2.1 ≠ (TJ0 b).2.1 := by decide +kernel
theorem tyJ0_ok : ∀ k, k < 2 → parseFieldDescriptor (TJ0 k).2.2.1 = some (tyJ0 k) := by decide +kernel
abbrev cJ0_length_8abf5 : ByteArray := prog_25_method_54_code
def yJ0_length_8abf5 : MethodName := ⟨RJ0, "length", "()I"⟩
abbrev cJ0_charAt_5068e : ByteArray := prog_25_method_56_code
def yJ0_charAt_5068e : MethodName := ⟨RJ0, "charAt", "(I)C"⟩
abbrev cJ0_coder_7d493 : ByteArray := prog_25_method_152_code
def yJ0_coder_7d493 : MethodName := ⟨RJ0, "coder", "()B"⟩
abbrev cJ0_isLatin1_aae02 : ByteArray := prog_25_method_154_code
def yJ0_isLatin1_aae02 : MethodName := ⟨RJ0, "isLatin1", "()Z"⟩
abbrev cJ0_checkIndex_df160 : ByteArray := prog_25_method_155_code
def yJ0_checkIndex_df160 : MethodName := ⟨RJ0, "checkIndex", "(II)V"⟩
def RJ1 : String := "java/lang/StringLatin1"
def TJ1 : u_T := fun k => match k with
  | _ => ("", "", "", false)
def tyJ1 : Nat → FieldType := fun k => match k with
  | _ => .int
abbrev wsJ10 : List Cond := u_ws RJ1 TJ1 0
theorem nmJ1 : ∀ a, a < 0 → ∀ b, b < 0 → a ≠ b → (TJ1 a).2.1 ≠ (TJ1 b).2.1 := by decide +kernel
theorem tyJ1_ok : ∀ k, k < 0 → parseFieldDescriptor (TJ1 k).2.2.1 = some (tyJ1 k) := by decide +kernel
abbrev cJ1_charAt_3b067 : ByteArray := prog_26_method_2_code
def yJ1_charAt_3b067 : MethodName := ⟨RJ1, "charAt", "([BI)C"⟩
def RJ2 : String := "java/lang/StringUTF16"
def TJ2 : u_T := fun k => match k with
  | _ => ("", "", "", false)
def tyJ2 : Nat → FieldType := fun k => match k with
  | _ => .int
abbrev wsJ20 : List Cond := u_ws RJ2 TJ2 0
theorem nmJ2 : ∀ a, a < 0 → ∀ b, b < 0 → a ≠ b → (TJ2 a).2.1 ≠ (TJ2 b).2.1 := by decide +kernel
theorem tyJ2_ok : ∀ k, k < 0 → parseFieldDescriptor (TJ2 k).2.2.1 = some (tyJ2 k) := by decide +kernel
abbrev cJ2_getChar_3b067 : ByteArray := prog_27_method_5_code
def yJ2_getChar_3b067 : MethodName := ⟨RJ2, "getChar", "([BI)C"⟩
abbrev cJ2_length_9d52b : ByteArray := prog_27_method_6_code
def yJ2_length_9d52b : MethodName := ⟨RJ2, "length", "([B)I"⟩
abbrev cJ2_charAt_3b067 : ByteArray := prog_27_method_83_code
def yJ2_charAt_3b067 : MethodName := ⟨RJ2, "charAt", "([BI)C"⟩
abbrev cJ2_checkIndex_2214a : ByteArray := prog_27_method_91_code
def yJ2_checkIndex_2214a : MethodName := ⟨RJ2, "checkIndex", "(I[B)V"⟩
def RJ10 : String := "java/lang/System"
def TJ10 : u_T := fun k => match k with
  | _ => ("", "", "", false)
def tyJ10 : Nat → FieldType := fun k => match k with
  | _ => .int
abbrev wsJ100 : List Cond := u_ws RJ10 TJ10 0
theorem nmJ10 : ∀ a, a < 0 → ∀ b, b < 0 → a ≠ b → (TJ10 a).2.1 ≠ (TJ10 b).2.1 := by decide +kernel
theorem tyJ10_ok : ∀ k, k < 0 → parseFieldDescriptor (TJ10 k).2.2.1 = some (tyJ10 k) := by decide +kernel
def RJxfd54e : String := "java/lang/constant/Constable"
def TJxfd54e : u_T := fun k => match k with
  | _ => ("", "", "", false)
def tyJxfd54e : Nat → FieldType := fun k => match k with
  | _ => .int
abbrev wsJxfd54e0 : List Cond := u_ws RJxfd54e TJxfd54e 0
theorem nmJxfd54e : ∀ a, a < 0 → ∀ b, b < 0 → a ≠ b → (TJxfd54e a).2.1 ≠ (TJxfd54e b).2.1 := by decide +kernel
theorem tyJxfd54e_ok : ∀ k, k < 0 → parseFieldDescriptor (TJxfd54e k).2.2.1 = some (tyJxfd54e k) := by decide +kernel
def RJx3cf43 : String := "java/lang/constant/ConstantDesc"
def TJx3cf43 : u_T := fun k => match k with
  | _ => ("", "", "", false)
def tyJx3cf43 : Nat → FieldType := fun k => match k with
  | _ => .int
abbrev wsJx3cf430 : List Cond := u_ws RJx3cf43 TJx3cf43 0
theorem nmJx3cf43 : ∀ a, a < 0 → ∀ b, b < 0 → a ≠ b → (TJx3cf43 a).2.1 ≠ (TJx3cf43 b).2.1 := by decide +kernel
theorem tyJx3cf43_ok : ∀ k, k < 0 → parseFieldDescriptor (TJx3cf43 k).2.2.1 = some (tyJx3cf43 k) := by decide +kernel
def RJ3 : String := "jdk/internal/util/Preconditions"
def TJ3 : u_T := fun k => match k with
  | _ => ("", "", "", false)
def tyJ3 : Nat → FieldType := fun k => match k with
  | _ => .int
abbrev wsJ30 : List Cond := u_ws RJ3 TJ3 0
theorem nmJ3 : ∀ a, a < 0 → ∀ b, b < 0 → a ≠ b → (TJ3 a).2.1 ≠ (TJ3 b).2.1 := by decide +kernel
theorem tyJ3_ok : ∀ k, k < 0 → parseFieldDescriptor (TJ3 k).2.2.1 = some (tyJ3 k) := by decide +kernel
abbrev cJ3_checkIndex_8e157 : ByteArray := prog_34_method_11_code
def yJ3_checkIndex_8e157 : MethodName := ⟨RJ3, "checkIndex", "(IILjava/util/function/BiFunction;)I"⟩
def RL : String := "SofaRailwayLaw"
abbrev cL_addBlock : ByteArray := method_3_code
def yL_addBlock : MethodName := ⟨RL, "addBlock", "(LSofaRailway;I[J)I"⟩
abbrev cL_addCushion : ByteArray := method_4_code
def yL_addCushion : MethodName := ⟨RL, "addCushion", "(LSofaRailway;I[J)I"⟩
abbrev cL_link : ByteArray := method_5_code
def yL_link : MethodName := ⟨RL, "link", "(LSofaRailway;II[J)I"⟩
abbrev cL_unlink : ByteArray := method_6_code
def yL_unlink : MethodName := ⟨RL, "unlink", "(LSofaRailway;II[J)I"⟩
abbrev cL_putCat : ByteArray := method_7_code
def yL_putCat : MethodName := ⟨RL, "putCat", "(LSofaRailway;I[J)I"⟩
abbrev cL_removeCat : ByteArray := method_8_code
def yL_removeCat : MethodName := ⟨RL, "removeCat", "(LSofaRailway;I[J)I"⟩
abbrev cL_length : ByteArray := method_9_code
def yL_length : MethodName := ⟨RL, "length", "(LSofaRailway;I[J)I"⟩
abbrev cL_isCushion : ByteArray := method_10_code
def yL_isCushion : MethodName := ⟨RL, "isCushion", "(LSofaRailway;I[J)I"⟩
abbrev cL_hasCat : ByteArray := method_11_code
def yL_hasCat : MethodName := ⟨RL, "hasCat", "(LSofaRailway;I[J)I"⟩
abbrev cL_areLinked : ByteArray := method_12_code
def yL_areLinked : MethodName := ⟨RL, "areLinked", "(LSofaRailway;II[J)I"⟩
abbrev cL_degree : ByteArray := method_13_code
def yL_degree : MethodName := ⟨RL, "degree", "(LSofaRailway;I[J)I"⟩
abbrev cL_trainIn : ByteArray := method_14_code
def yL_trainIn : MethodName := ⟨RL, "trainIn", "(LSofaRailway;I[J)I"⟩
abbrev cL_reservedBy : ByteArray := method_15_code
def yL_reservedBy : MethodName := ⟨RL, "reservedBy", "(LSofaRailway;I[J)I"⟩
abbrev cL_signal : ByteArray := method_16_code
def yL_signal : MethodName := ⟨RL, "signal", "(LSofaRailway;I[J)I"⟩
abbrev cL_distance : ByteArray := method_17_code
def yL_distance : MethodName := ⟨RL, "distance", "(LSofaRailway;II[J)I"⟩
abbrev cL_distanceByRounds : ByteArray := method_18_code
def yL_distanceByRounds : MethodName := ⟨RL, "distanceByRounds", "(LSofaRailway;II[J)I"⟩
abbrev cL_nextBlock : ByteArray := method_19_code
def yL_nextBlock : MethodName := ⟨RL, "nextBlock", "(LSofaRailway;I[J)I"⟩
abbrev cL_nearestCushion : ByteArray := method_20_code
def yL_nearestCushion : MethodName := ⟨RL, "nearestCushion", "(LSofaRailway;I[J)I"⟩
abbrev cL_addTrain : ByteArray := method_21_code
def yL_addTrain : MethodName := ⟨RL, "addTrain", "(LSofaRailway;II[J)I"⟩
abbrev cL_setGoal : ByteArray := method_22_code
def yL_setGoal : MethodName := ⟨RL, "setGoal", "(LSofaRailway;II[J)I"⟩
abbrev cL_clearGoal : ByteArray := method_23_code
def yL_clearGoal : MethodName := ⟨RL, "clearGoal", "(LSofaRailway;I[J)I"⟩
abbrev cL_reserve : ByteArray := method_24_code
def yL_reserve : MethodName := ⟨RL, "reserve", "(LSofaRailway;II[J)I"⟩
abbrev cL_cancelReservation : ByteArray := method_25_code
def yL_cancelReservation : MethodName := ⟨RL, "cancelReservation", "(LSofaRailway;I[J)I"⟩
abbrev cL_rescue : ByteArray := method_26_code
def yL_rescue : MethodName := ⟨RL, "rescue", "(LSofaRailway;I[J)I"⟩
abbrev cL_blockOf : ByteArray := method_27_code
def yL_blockOf : MethodName := ⟨RL, "blockOf", "(LSofaRailway;I[J)I"⟩
abbrev cL_priority : ByteArray := method_28_code
def yL_priority : MethodName := ⟨RL, "priority", "(LSofaRailway;I[J)I"⟩
abbrev cL_remainingTicks : ByteArray := method_29_code
def yL_remainingTicks : MethodName := ⟨RL, "remainingTicks", "(LSofaRailway;I[J)I"⟩
abbrev cL_goal : ByteArray := method_30_code
def yL_goal : MethodName := ⟨RL, "goal", "(LSofaRailway;I[J)I"⟩
abbrev cL_isDerailed : ByteArray := method_31_code
def yL_isDerailed : MethodName := ⟨RL, "isDerailed", "(LSofaRailway;I[J)I"⟩
abbrev cL_waits : ByteArray := method_32_code
def yL_waits : MethodName := ⟨RL, "waits", "(LSofaRailway;I[J)I"⟩
abbrev cL_trainByPriority : ByteArray := method_33_code
def yL_trainByPriority : MethodName := ⟨RL, "trainByPriority", "(LSofaRailway;I[J)I"⟩
abbrev cL_blockedBy : ByteArray := method_34_code
def yL_blockedBy : MethodName := ⟨RL, "blockedBy", "(LSofaRailway;I[J)I"⟩
abbrev cL_passTicks : ByteArray := method_35_code
def yL_passTicks : MethodName := ⟨RL, "passTicks", "(LSofaRailway;I[J)I"⟩
abbrev cL_ticksUntilArrival : ByteArray := method_36_code
def yL_ticksUntilArrival : MethodName := ⟨RL, "ticksUntilArrival", "(LSofaRailway;I[J)I"⟩
abbrev cL_meanWaits : ByteArray := method_37_code
def yL_meanWaits : MethodName := ⟨RL, "meanWaits", "(LSofaRailway;[D)I"⟩
abbrev cL_occupiedFraction : ByteArray := method_38_code
def yL_occupiedFraction : MethodName := ⟨RL, "occupiedFraction", "(LSofaRailway;[D)I"⟩
abbrev cL_writeTrain : ByteArray := method_39_code
def yL_writeTrain : MethodName := ⟨RL, "writeTrain", "(LSofaRailway;I[J)I"⟩
abbrev cL_outputCharacter : ByteArray := method_40_code
def yL_outputCharacter : MethodName := ⟨RL, "outputCharacter", "(LSofaRailway;I[J)I"⟩
abbrev cL_feed : ByteArray := method_41_code
def yL_feed : MethodName := ⟨RL, "feed", "(LSofaRailway;C[J)I"⟩
abbrev cL_execute : ByteArray := method_42_code
def yL_execute : MethodName := ⟨RL, "execute", "(LSofaRailway;[J)I"⟩
abbrev cL_errorPosition : ByteArray := method_43_code
def yL_errorPosition : MethodName := ⟨RL, "errorPosition", "(LSofaRailway;[J)I"⟩
abbrev cL_failedCommand : ByteArray := method_44_code
def yL_failedCommand : MethodName := ⟨RL, "failedCommand", "(LSofaRailway;[J)I"⟩
abbrev cL_undo : ByteArray := method_45_code
def yL_undo : MethodName := ⟨RL, "undo", "(LSofaRailway;[J)I"⟩
abbrev cL_restore : ByteArray := method_46_code
def yL_restore : MethodName := ⟨RL, "restore", "(LSofaRailway;[J)I"⟩
abbrev cL_law : ByteArray := code
def yL_law : MethodName := ⟨RL, "law", "([I)Z"⟩
abbrev vwCl : List vw_C := [(RJ0, TJ0, 2), (RJx00060, TJx00060, 6), (RX2, TX2, 7), (RX3, TX3, 3), (RX4, TX4, 15), (RX5, TX5, 2), (RX6, TX6, 3), (RX7, TX7, 3), (RX8, TX8, 11), (RX9, TX9, 22)]
/-! ===== END printed: names ===== -/
end
section
/-! THE LOGIC. A judgement J over a world of cells that bear numbers (refs below 100 are the old heap's constants, the others are the cells that the run makes, in the order of their making); it hides the machine. One rule an instruction; MC is a method's contract. -/
section JLOGIC
def AL : List Cond := lw_tbl.filter goodWord
theorem AL_in {w : Cond} (h : w ∈ lw_tbl) (g : goodWord w = true) : w ∈ AL := List.mem_filter.mpr ⟨h, g⟩
theorem AL_tbl {w : Cond} (h : w ∈ AL) : w ∈ lw_tbl := (List.mem_filter.mp h).1
theorem AL_good {w : Cond} (h : w ∈ AL) : goodWord w = true := (List.mem_filter.mp h).2
theorem AL_goodIn {ws : List Cond} (h : ∀ w ∈ ws, w ∈ AL) : GoodIn AL ws := fun w hw => ⟨h w hw, good_of_word (AL_good (h w hw))⟩
abbrev Ce : Type := (Nat × vp_A) ⊕ (Nat × List Value)
abbrev Wd : Type := (Nat → Ce) × Nat × Bool
abbrev MI : Type := MethodName × ByteArray × Nat × Option FieldType × List (Nat × Nat × Nat × Nat)
abbrev Po : Type := (Option Value ⊕ String) → Wd → Prop
def adr (sa : Nat → Nat) (z r : Nat) : Nat := if r < 100 then sa r else z + (r - 100)
def mv (sa : Nat → Nat) (z : Nat) : Value → Value
  | .ref r => .ref (adr sa z r)
  | .int x => .int x
  | .long x => .long x
  | .float x => .float x
  | .double x => .double x
  | .null => .null
  | .retAddr x => .retAddr x
theorem mv_cat (sa : Nat → Nat) (z : Nat) (v : Value) : (mv sa z v).category = v.category := by cases v <;> rfl
theorem mv_cats (sa : Nat → Nat) (z : Nat) (st : List Value) : ((st.map (mv sa z)).map fun v => v.category).sum = (st.map fun v => v.category).sum := by
  rw [List.map_map]
  congr 1
  apply List.map_congr_left
  intro v _
  exact mv_cat sa z v
def trA (sa : Nat → Nat) (z : Nat) : vp_A → vp_A
  | (n, .inl f) => (n, .inl f)
  | (n, .inr (.inl f)) => (n, .inr (.inl f))
  | (n, .inr (.inr (.inl f))) => (n, .inr (.inr (.inl f)))
  | (n, .inr (.inr (.inr (.inl f)))) => (n, .inr (.inr (.inr (.inl f))))
  | (n, .inr (.inr (.inr (.inr f)))) => (n, .inr (.inr (.inr (.inr fun j => (f j).map (adr sa z)))))
def tr (sa : Nat → Nat) (z : Nat) (dA : Nat → ClassId) : Ce → va_E
  | .inl (t, a) => .inl (dA t, trA sa z a)
  | .inr (c, fs) => .inr (c, fs.map (mv sa z))
def dead : Ce := .inr (9999, [])
def eT : Nat → FieldType
  | 0 => .int
  | 1 => .char
  | 2 => .long
  | 3 => .double
  | _ => .object RX4
def tyL (dA : Nat → ClassId) : List (ClassId × FieldType) := [(dA 0, .int), (dA 1, .char), (dA 2, .long), (dA 3, .double), (dA 4, .object RX4)]
/-- the world w, of cells from z on, lies in the heap H; the third component says that the heap's end is the world's -/
def Rel (D : va_G) (dA : Nat → ClassId) (sa : Nat → Nat) (z : Nat) (w : Wd) (H : Heap) : Prop :=
  (w.2.2 = true → H.size = z + w.2.1) ∧ ∀ a : Nat, w.1 a = dead ∨ (100 ≤ a ∧ a < 100 + w.2.1 ∧ va_at D vwCl (adr sa z a, tr sa z dA (w.1 a)) H)
theorem adr_ge {sa : Nat → Nat} {z a : Nat} (h : 100 ≤ a) : adr sa z a = z + (a - 100) := by
  unfold adr
  rw [if_neg (by omega)]
theorem Rel.at {D : va_G} {dA : Nat → ClassId} {sa : Nat → Nat} {z : Nat} {w : Wd} {H : Heap} (h : Rel D dA sa z w H) {a : Nat} {x : Ce} (hx : w.1 a = x) (hd : x ≠ dead) : 100 ≤ a ∧ a < 100 + w.2.1 ∧ va_at D vwCl (adr sa z a, tr sa z dA x) H := by
  rcases h.2 a with e | e
  · exact absurd (hx.symm.trans e) hd
  · rw [hx] at e; exact e
theorem adr_inj {sa : Nat → Nat} {z a b : Nat} (ha : 100 ≤ a) (hb : 100 ≤ b) (h : adr sa z a = adr sa z b) : a = b := by
  rw [adr_ge ha, adr_ge hb] at h
  omega
def upW (w : Wd) (a : Nat) (x : Ce) : Wd := (fun b => if b = a then x else w.1 b, w.2)
/-- a cell that is there is written -/
theorem Rel.set {D : va_G} {dA : Nat → ClassId} {sa : Nat → Nat} {z : Nat} {w : Wd} {H H1 : Heap} (h : Rel D dA sa z w H) {a : Nat} {x x' : Ce} (hx : w.1 a = x) (hd : x ≠ dead) (hz : H1.size = H.size) (ho : ∀ q : Nat, q ≠ adr sa z a → H1[q]? = H[q]?) (he : va_at D vwCl (adr sa z a, tr sa z dA x') H1) : Rel D dA sa z (upW w a x') H1 := by
  obtain ⟨g1, g2, g3⟩ := Rel.at h hx hd
  obtain ⟨h2, h3⟩ := h
  refine ⟨fun e => by rw [hz]; exact h2 e, fun b => ?_⟩
  by_cases hb : b = a
  · subst hb
    refine Or.inr ⟨g1, g2, ?_⟩
    show va_at D vwCl (_, tr sa z dA (if b = b then x' else w.1 b)) H1
    rw [if_pos rfl]
    exact he
  · show (if b = a then x' else w.1 b) = dead ∨ _
    rw [if_neg hb]
    rcases h3 b with e | ⟨e1, e2, e3⟩
    · exact Or.inl e
    · refine Or.inr ⟨e1, e2, ?_⟩
      show va_at D vwCl (_, tr sa z dA (if b = a then x' else w.1 b)) H1
      rw [if_neg hb]
      exact e3.kept (ho _ (fun q => hb (adr_inj e1 g1 q)))
def nwW (w : Wd) (x : Ce) : Wd := (fun b => if b = 100 + w.2.1 then x else w.1 b, w.2.1 + 1, true)
/-- a cell is made -/
theorem Rel.new {D : va_G} {dA : Nat → ClassId} {sa : Nat → Nat} {z : Nat} {w : Wd} {H H1 : Heap} (h : Rel D dA sa z w H) (hf : w.2.2 = true) {x : Ce} (hz : H1.size = H.size + 1) (ho : ∀ q : Nat, q < H.size → H1[q]? = H[q]?) (he : va_at D vwCl (H.size, tr sa z dA x) H1) : Rel D dA sa z (nwW w x) H1 := by
  obtain ⟨E, n, f⟩ := w
  obtain ⟨h2, h3⟩ := h
  have h2 : H.size = z + n := h2 hf
  refine ⟨fun _ => by show H1.size = z + (n + 1); omega, fun b => ?_⟩
  by_cases hb : b = 100 + n
  · subst hb
    refine Or.inr ⟨by omega, by show _ < 100 + (n + 1); omega, ?_⟩
    show va_at D vwCl (_, tr sa z dA (if 100 + n = 100 + n then x else E _)) H1
    rw [if_pos rfl, adr_ge (by omega), show z + (100 + n - 100) = H.size by omega]
    exact he
  · show (if b = 100 + n then x else E b) = dead ∨ _
    rw [if_neg hb]
    rcases h3 b with e | ⟨e1, e2, e3⟩
    · exact Or.inl e
    · have e2 : b < 100 + n := e2
      refine Or.inr ⟨e1, by show b < 100 + (n + 1); omega, ?_⟩
      show va_at D vwCl (_, tr sa z dA (if b = 100 + n then x else E b)) H1
      rw [if_neg hb]
      exact e3.kept (ho _ e3.lt)
def stW (w : Wd) : Wd := (w.1, w.2.1, false)
/-- the heap grew, by things that have no number -/
theorem Rel.grown {D : va_G} {dA : Nat → ClassId} {sa : Nat → Nat} {z : Nat} {w : Wd} {H H1 : Heap} (h : Rel D dA sa z w H) (ho : ∀ q : Nat, q < H.size → H1[q]? = H[q]?) : Rel D dA sa z (stW w) H1 := by
  obtain ⟨h2, h3⟩ := h
  refine ⟨fun e => (by cases e), fun b => ?_⟩
  rcases h3 b with e | ⟨e1, e2, e3⟩
  · exact Or.inl e
  · exact Or.inr ⟨e1, e2, e3.kept (ho _ e3.lt)⟩
/-! the old heap's constants: a number below 100 each. 0: COMMANDS; 1: the switch map; 10 + j: the j-th command; 20 + i: the i-th text (nine forms, then the model's words); 50 + i: its bytes; 2: the formatter, if there is one -/
def txS (i : Nat) : List Int32 := ([[98, 108, 111, 99, 107, 32, 49], [99, 117, 115, 104, 105, 111, 110, 32, 49], [108, 105, 110, 107, 32, 50, 45, 50], [116, 114, 97, 105, 110, 32, 50, 42, 49], [103, 111, 97, 108, 32, 49, 62, 50], [99, 97, 116, 32, 50], [104, 111, 108, 100, 32, 49, 64, 50], [114, 101, 115, 99, 117, 101, 32, 49], [116, 105, 99, 107, 32, 50], [98, 108, 111, 99, 107, 32], [99, 97, 116, 32], [99, 117, 115, 104, 105, 111, 110, 32], [108, 105, 110, 107, 32], [45], [116, 105, 99, 107, 32], [116, 114, 97, 105, 110, 32], [42], [103, 111, 97, 108, 32], [62], [104, 111, 108, 100, 32], [64], [114, 101, 115, 99, 117, 101, 32]] : List (List Int32)).getD i []
def nTx : Nat := 22
def SFZ : List (String × String × String × Value) := [("SofaRailway", "COMMANDS", "[LSofaRailway$Command;", .ref 0), ("SofaRailway$1", "$SwitchMap$SofaRailway$Command", "[I", .ref 1), ("SofaRailway$Command", "BLOCK", "LSofaRailway$Command;", .ref 10), ("java/lang/String", "COMPACT_STRINGS", "Z", .int 1)]
def SFT : List (FieldType × Nat × Nat × (Nat → Value)) := [(.object "SofaRailway$Command", 0, 9, fun j => .ref (10 + j)), (.int, 1, 9, fun j => .int (nI (j + 1)))] ++ (List.range nTx).map (fun i => (.byte, 50 + i, (txS i).length, fun j => .int ((txS i).getD j 0)))
def SFO : List (String × Nat) := (List.range 9).map (fun j => ("SofaRailway$Command", 10 + j)) ++ (List.range nTx).map (fun i => ("java/lang/String", 20 + i))
def SFF : List (String × String × String × Value × Nat) := (List.range 9).map (fun j => ("java/lang/Enum", "ordinal", "I", .int (nI j), 10 + j)) ++ ((List.range 9).map (fun j => ("SofaRailway$Command", "form", "Ljava/lang/String;", .ref (20 + j), 10 + j)) ++ ((List.range nTx).map (fun i => ("java/lang/String", "coder", "B", .int 0, 20 + i)) ++ (List.range nTx).map (fun i => ("java/lang/String", "value", "[B", .ref (50 + i), 20 + i))))
def SFR : List (String × Nat × String × Nat) := [("SofaRailwayModel", 239, "block ", 29), ("SofaRailwayModel", 241, "cat ", 30), ("SofaRailwayModel", 243, "cushion ", 31), ("SofaRailwayModel", 245, "link ", 32), ("SofaRailwayModel", 247, "-", 33), ("SofaRailwayModel", 253, "tick ", 34), ("SofaRailwayModel", 255, "train ", 35), ("SofaRailwayModel", 257, "*", 36), ("SofaRailwayModel", 259, "goal ", 37), ("SofaRailwayModel", 261, ">", 38), ("SofaRailwayModel", 263, "hold ", 39), ("SofaRailwayModel", 265, "@", 40), ("SofaRailwayModel", 267, "rescue ", 41)]
def SFX : List (String × Nat × String) := [("SofaRailway", 354, "there is no such block or train"), ("SofaRailway", 356, "this argument is not allowed"), ("SofaRailway", 358, "the railway is not in the state for this"), ("SofaRailway", 360, "the block does not allow this"), ("SofaRailway", 352, "there is none"), ("SofaRailway", 345, "there is no such block"), ("SofaRailway", 350, "there is no such train"), ("SofaRailway", 231, "the train has no goal"), ("SofaRailway", 244, "there are no trains"), ("SofaRailway", 251, "there are no blocks"), ("SofaRailway", 269, "there is no such character"), ("SofaRailway", 286, "the input buffer is full"), ("SofaRailway", 296, "the text is malformed"), ("SofaRailway", 325, "a command failed"), ("SofaRailway", 331, "there is nothing to undo"), ("SofaRailway", 336, "nothing was saved")]
def SFM : List (String × Nat × MethodName × String) := [("SofaRailway", 11, ⟨"SofaRailway$Layout", "<init>", "()V"⟩, "SofaRailway"), ("SofaRailway$History", 24, ⟨"SofaRailway$Layout", "<init>", "()V"⟩, "SofaRailway"), ("SofaRailway", 31, ⟨"SofaRailway$Routes", "<init>", "()V"⟩, "SofaRailway"), ("SofaRailway", 38, ⟨"SofaRailway$Traffic", "<init>", "()V"⟩, "SofaRailway"), ("SofaRailway$Traffic", 11, ⟨"SofaRailway$Routes", "<init>", "()V"⟩, "SofaRailway"), ("SofaRailway", 45, ⟨"SofaRailway$CommandReader", "<init>", "()V"⟩, "SofaRailway"), ("SofaRailway", 52, ⟨"SofaRailway$Output", "<init>", "()V"⟩, "SofaRailway"), ("SofaRailway$Routes", 37, ⟨"SofaRailway", "has", "(II)Z"⟩, "SofaRailway"), ("SofaRailway$Layout", 64, ⟨"SofaRailway", "has", "(II)Z"⟩, "SofaRailway"), ("SofaRailway$Traffic", 38, ⟨"SofaRailway", "has", "(II)Z"⟩, "SofaRailway")]
def SFG : List (String × Nat × String × String × String × String) := [("SofaRailway$CommandReader", 48, "SofaRailway", "COMMANDS", "[LSofaRailway$Command;", "SofaRailway")]
def SFC : List (String × String) := [("java/lang/IndexOutOfBoundsException", "java/lang/IllegalArgumentException"), ("java/lang/IllegalStateException", "java/lang/IllegalArgumentException"), ("java/lang/UnsupportedOperationException", "java/lang/IllegalArgumentException"), ("java/util/NoSuchElementException", "java/lang/IllegalArgumentException"), ("java/lang/ArrayIndexOutOfBoundsException", "java/lang/IllegalArgumentException"), ("java/lang/ArithmeticException", "java/lang/IllegalArgumentException"), ("java/lang/IndexOutOfBoundsException", "java/lang/IllegalStateException"), ("java/lang/IllegalArgumentException", "java/lang/IllegalStateException"), ("java/lang/UnsupportedOperationException", "java/lang/IllegalStateException"), ("java/util/NoSuchElementException", "java/lang/IllegalStateException"), ("java/lang/ArrayIndexOutOfBoundsException", "java/lang/IllegalStateException"), ("java/lang/ArithmeticException", "java/lang/IllegalStateException"), ("java/lang/IllegalArgumentException", "java/lang/IndexOutOfBoundsException"), ("java/lang/IllegalStateException", "java/lang/IndexOutOfBoundsException"), ("java/lang/UnsupportedOperationException", "java/lang/IndexOutOfBoundsException"), ("java/util/NoSuchElementException", "java/lang/IndexOutOfBoundsException"), ("java/lang/ArithmeticException", "java/lang/IndexOutOfBoundsException"), ("java/lang/IndexOutOfBoundsException", "java/util/NoSuchElementException"), ("java/lang/IllegalArgumentException", "java/util/NoSuchElementException"), ("java/lang/IllegalStateException", "java/util/NoSuchElementException"), ("java/lang/UnsupportedOperationException", "java/util/NoSuchElementException"), ("java/lang/ArrayIndexOutOfBoundsException", "java/util/NoSuchElementException"), ("java/lang/ArithmeticException", "java/util/NoSuchElementException"), ("java/lang/IndexOutOfBoundsException", "java/lang/UnsupportedOperationException"), ("java/lang/IllegalArgumentException", "java/lang/UnsupportedOperationException"), ("java/lang/IllegalStateException", "java/lang/UnsupportedOperationException"), ("java/util/NoSuchElementException", "java/lang/UnsupportedOperationException"), ("java/lang/ArrayIndexOutOfBoundsException", "java/lang/UnsupportedOperationException"), ("java/lang/ArithmeticException", "java/lang/UnsupportedOperationException"), ("java/lang/IndexOutOfBoundsException", "java/lang/ArithmeticException"), ("java/lang/IllegalArgumentException", "java/lang/ArithmeticException"), ("java/lang/IllegalStateException", "java/lang/ArithmeticException"), ("java/lang/UnsupportedOperationException", "java/lang/ArithmeticException"), ("java/util/NoSuchElementException", "java/lang/ArithmeticException"), ("java/lang/ArrayIndexOutOfBoundsException", "java/lang/ArithmeticException")]
def isDC : Cond → Bool
  | .declares _ => true
  | .castable _ _ => true
  | _ => false
theorem isDC_cases {w : Cond} (h : isDC w = true) : (∃ x, w = .declares x) ∨ ∃ a b, w = .castable a b := by
  cases w <;> first | exact Or.inl ⟨_, rfl⟩ | exact Or.inr ⟨_, _, rfl⟩ | cases h
def OL : List Cond := lw_tbl.filter isDC
theorem OL_in {w : Cond} (h : w ∈ lw_tbl) (g : isDC w = true) : w ∈ OL := List.mem_filter.mpr ⟨h, g⟩
abbrev jPre : String := "jdk/internal/util/Preconditions"
abbrev jFmt : String := "Ljava/util/function/BiFunction;"
def SF (sa : Nat → Nat) (A : Nat → Prop) (U : State) (H : Heap) : Prop :=
  (∀ q ∈ SFZ, va_Z q.1 q.2.1 q.2.2.1 (mv sa 0 q.2.2.2) A U H) ∧
  (∀ q ∈ SFT, va_T q.1 (sa q.2.1) q.2.2.1 (fun j => mv sa 0 (q.2.2.2 j)) A U H) ∧
  (∀ q ∈ SFO, va_O q.1 (sa q.2) A U H) ∧
  (∀ q ∈ SFF, va_OF q.1 q.2.1 q.2.2.1 (mv sa 0 q.2.2.2.1) (sa q.2.2.2.2) A U H) ∧
  (∀ q ∈ SFR, vk_R q.1 q.2.1 q.2.2.1 (sa q.2.2.2) U) ∧
  (∀ q ∈ SFX, ∃ a, vk_R q.1 q.2.1 q.2.2 a U) ∧
  (∀ q ∈ SFM, va_Nw (.methodLinkNest q.1 q.2.1 q.2.2.1 q.2.2.2) U) ∧
  (∀ q ∈ SFG, va_Nw (.fieldLinkNest q.1 q.2.1 q.2.2.1 q.2.2.2.1 q.2.2.2.2.1 q.2.2.2.2.2) U) ∧
  (∀ q ∈ SFC, va_Nc q.1 q.2 U) ∧
  (va_Z jPre "SIOOBE_FORMATTER" jFmt .null A U H ∨ va_Z jPre "SIOOBE_FORMATTER" jFmt (.ref (sa 2)) A U H) ∧
  vx_Zq Bundle.tN "UNASSIGNED_STACK" Bundle.steD A U H ∧ vx_Zq Bundle.tN "SUPPRESSED_SENTINEL" Bundle.listD A U H ∧ va_AO RX4 U ∧ ∀ w ∈ OL, va_Nw w U
theorem SF.warm {sa : Nat → Nat} {A : Nat → Prop} {s U : State} {H : Heap} (hW : s.WarmedH U.vm) (h : SF sa A s H) : SF sa A U H := by
  obtain ⟨h1, h2, h3, h4, h5, h6, h7, h8, h9, h10, h11, h12, h13, h14⟩ := h
  refine ⟨fun q hq => va_Z.moved hW.alike (h1 q hq), fun q hq => va_T.moved hW.alike (h2 q hq), fun q hq => va_O.moved hW.alike (h3 q hq), fun q hq => va_OF.moved hW.alike (h4 q hq), fun q hq => vk_R.warm hW (h5 q hq), fun q hq => ?_, fun q hq => va_Nw.warmM hW (h7 q hq), fun q hq => va_Nw.warmF hW (h8 q hq), fun q hq => va_Nc.moved hW.alike (h9 q hq), ?_, vx_Zq.moved hW.alike h11, vx_Zq.moved hW.alike h12, va_AO.moved hW.alike h13, fun w hw => ?_⟩
  · obtain ⟨a, ha⟩ := h6 q hq
    exact ⟨a, vk_R.warm hW ha⟩
  · rcases h10 with h | h
    · exact Or.inl (va_Z.moved hW.alike h)
    · exact Or.inr (va_Z.moved hW.alike h)
  · have h := h14 w hw
    rcases isDC_cases ((List.mem_filter.mp hw).2) with ⟨x, rfl⟩ | ⟨a, b, rfl⟩
    · exact va_tabs rfl (rfl : (s.setVm U.vm).vm = U.vm) (show (Cond.declares x).before #[] (s.setVm U.vm) = true by rw [Cond.declares_setVm hW.alike]; exact h)
    · exact va_tabs rfl (rfl : (s.setVm U.vm).vm = U.vm) (show (Cond.castable a b).before #[] (s.setVm U.vm) = true by rw [Cond.castable_setVm hW.alike]; exact h)
theorem SF.vm {sa : Nat → Nat} {A : Nat → Prop} {u U : State} {H : Heap} (hv : u.vm = U.vm) (h : SF sa A u H) : SF sa A U H := by
  have hW : u.WarmedH U.vm := by rw [← hv]; exact State.WarmedH.refl u
  exact SF.warm hW h
theorem SF.kept {sa : Nat → Nat} {A : Nat → Prop} {U : State} {H H1 : Heap} (h : SF sa A U H) (hq : ∀ a : Nat, a < H.size → ¬ A a → H1[a]? = H[a]?) : SF sa A U H1 := by
  obtain ⟨h1, h2, h3, h4, h5, h6, h7, h8, h9, h10, h11, h12, h13, h14⟩ := h
  refine ⟨fun q h => (h1 q h).kept hq, fun q h => (h2 q h).kept hq, fun q h => (h3 q h).kept hq, fun q h => (h4 q h).kept hq, h5, h6, h7, h8, h9, ?_, h11.kept hq, h12.kept hq, h13, h14⟩
  rcases h10 with h | h
  · exact Or.inl (h.kept hq)
  · exact Or.inr (h.kept hq)
abbrev Az (z : Nat) : Nat → Prop := fun q => z ≤ q
/-- what a frame of the method mi stands on -/
def Cx (d : Nat) (mi : MI) (p : Program) (l : Launch) (R : Room) (s : State) (m : MethodId) (args : Array Value) (meth : Method) (c : Code) (z : Nat) (sa : Nat → Nat) (D : va_G) (dA : Nat → ClassId) : Prop :=
  (p.tables.exec = Jvm.exec ∧ c.code = mi.2.1 ∧ c.maxLocals = mi.2.2.1 ∧ s.vm.findClass mi.1.cls = some m.cls ∧ ∀ w ∈ AL, w.before args s = true) ∧
  meth.sig.returnType = mi.2.2.2.1 ∧ meth.locks = false ∧ meth.name = mi.1.name ∧ c.exceptionTable.toList = tableOf mi.2.2.2.2 ∧ l.stackTraces = false ∧
  (d ≤ R.frames ∧ 64 * d ≤ R.locals) ∧ va_K D vwCl (tyL dA) s ∧ SF sa (Az z) s s.heap ∧ z ≤ s.heap.size
def retI (rt : Option FieldType) (i : Instr) (v : Option Value) : Prop :=
  (i = .return_ ∧ v = none ∧ rt = none) ∨ (i = .ireturn ∧ ∃ (x : Int32) (ty : FieldType), v = some (.int x) ∧ rt = some ty ∧ narrow ty (.int x) = .int x) ∨
  (i = .dreturn ∧ ∃ x : UInt64, v = some (.double x) ∧ rt = some .double) ∨ (i = .freturn ∧ ∃ x : UInt32, v = some (.float x) ∧ rt = some .float)
abbrev jRTE : String := "java/lang/RuntimeException"
abbrev jEXC : String := "java/lang/Exception"
/-- the words of a throw of E, whose constructor (its bytes, its link's number k) calls RuntimeException's -/
def jAt (own : String) (ic : Nat) (E : String) (k : Nat) (bytes : ByteArray) : List Cond :=
  Bundle.throwableAtoms ++ (Bundle.throwableSAtoms ++ (Bundle.passSAtoms E jRTE k bytes ++ (Bundle.chainSAtoms jRTE [jEXC] ++
  [.methodLink own ic (Bundle.initS E), .instantiable E 6, .castable E E, .selects E Bundle.tFill0 Bundle.tFill0, .selects E Bundle.tFill Bundle.tFill,
   .lays E Bundle.tN "cause" "Ljava/lang/Throwable;", .lays E Bundle.tN "stackTrace" Bundle.steD, .lays E Bundle.tN "suppressedExceptions" Bundle.listD, .lays E Bundle.tN "detailMessage" "Ljava/lang/String;",
   .isRef (.static Bundle.tN "UNASSIGNED_STACK" Bundle.steD), .isRef (.static Bundle.tN "SUPPRESSED_SENTINEL" Bundle.listD),
   .fieldLink Bundle.tN 198 Bundle.tN "backtrace" "Ljava/lang/Object;", .lays Bundle.tN Bundle.tN "backtrace" "Ljava/lang/Object;", .lays E Bundle.tN "backtrace" "Ljava/lang/Object;"])))
/-- the bytecode of 'throw new E("text")', at pc, with its words -/
def ThrI (mi : MI) (pc : Nat) (E : String) : Prop :=
  ∃ (ik is ic ld k : Nat) (bytes : ByteArray) (text : String), (mi.1.cls, is, text) ∈ SFX ∧ decode mi.2.1 pc = .ok (.new ik, 3) ∧ decode mi.2.1 (pc + 3) = .ok (.dup, 1) ∧ ((ld = 2 ∧ decode mi.2.1 (pc + 4) = .ok (.ldc is, 2)) ∨ (ld = 3 ∧ decode mi.2.1 (pc + 4) = .ok (.ldc_w is, 3))) ∧
    decode mi.2.1 (pc + 4 + ld) = .ok (.invokespecial ic, 3) ∧ decode mi.2.1 (pc + 4 + ld + 3) = .ok (.athrow, 1) ∧ Cond.classLink mi.1.cls ik E ∈ AL ∧ Cond.initialized E ∈ AL ∧ Bundle.fit E = true ∧
    (decode bytes 0 = .ok (.aload_n 0, 1) ∧ decode bytes 1 = .ok (.aload_n 1, 1) ∧ decode bytes 2 = .ok (.invokespecial k, 3) ∧ decode bytes 5 = .ok (.return_, 1)) ∧
    (∀ w ∈ (jAt mi.1.cls ic E k bytes).filter vx_no, w ∈ lw_tbl ∧ (goodWord w || isDC w) = true) ∧ mi.2.2.2.2 = []
/-- the locals -/
def lrel (sa : Nat → Nat) (z : Nat) (nL : Nat) (lc : List (Option Value)) (ls : Array Slot) : Prop := ls.size = nL ∧ lv_wf ls ∧ ∀ (i : Nat) (v : Value), lc[i]? = some (some v) → ls[i]? = some (.val (mv sa z v))
/-- what the judgement's post asks of an end by return -/
def HR (mi : MI) (p : Program) (l : Launch) (e : Env) (R : Room) (s : State) (m : MethodId) (args : Array Value) (below : List Frame) (meth : Method) (c : Code) (z : Nat) (sa : Nat → Nat) (D : va_G) (dA : Nat → ClassId) (Q : Po) (Z : State → Prop) (mc ms : Nat) : Prop :=
  ∀ (v : Option Value) (w : Wd) (H : Heap) (locs : List Loc) (pc : Nat) (ls : Array Slot) (i : Instr), Q (.inl v) w → Rel D dA sa z w H → va_S (Az z) s.heap H locs → retI mi.2.2.2.1 i v → decode c.code pc = .ok (i, 1) → W p l e R s m args below meth c H locs mc ms Z (F0 m pc ls (v.toList.map (mv sa z)))
/-- .. by an exception that came from a call -/
def HX (mi : MI) (p : Program) (l : Launch) (e : Env) (R : Room) (s : State) (m : MethodId) (args : Array Value) (below : List Frame) (meth : Method) (c : Code) (z : Nat) (sa : Nat → Nat) (D : va_G) (dA : Nat → ClassId) (Q : Po) (Z : State → Prop) (mc ms : Nat) : Prop :=
  ∀ (E : String) (w : Wd) (H : Heap) (locs : List Loc) (pc : Nat) (ls : Array Slot) (rest : List Value) (q : Addr) (ce : Cell), Q (.inr E) w → Rel D dA sa z w H → va_S (Az z) s.heap H locs → (∀ x ∈ tableOf mi.2.2.2.2, covers x pc = false) → H[q]? = some ce → ce.vm = .none → s.vm.findClass E = some ce.cls → vx_W p l e R s m args below meth c H locs mc ms Z (F0 m pc ls rest) q
/-- .. by a throw statement -/
def HT (mi : MI) (p : Program) (l : Launch) (e : Env) (R : Room) (s : State) (m : MethodId) (args : Array Value) (below : List Frame) (meth : Method) (c : Code) (z : Nat) (sa : Nat → Nat) (D : va_G) (dA : Nat → ClassId) (Q : Po) (Z : State → Prop) (mc ms : Nat) : Prop :=
  ∀ (E : String) (w : Wd) (H : Heap) (locs : List Loc) (cells slots pc : Nat) (ls : Array Slot), Q (.inr E) (stW w) → Rel D dA sa z w H → va_S (Az z) s.heap H locs → ls.size = mi.2.2.1 → ThrI mi pc E → cells + 1 ≤ mc → slots + 6 ≤ ms → W p l e R s m args below meth c H locs cells slots Z (F0 m pc ls [])
/-- THE JUDGEMENT: the frame of mi at pc, with the locals lc and the stack st, in the world w, with room for kb cells of sb slots (and d frames), comes to an end that Q allows -/
def J (d : Nat) (mi : MI) (pc : Nat) (lc : List (Option Value)) (st : List Value) (w : Wd) (kb sb : Nat) (Q : Po) : Prop :=
  ∀ (p : Program) (l : Launch) (e : Env) (R : Room) (s : State) (m : MethodId) (args : Array Value) (below : List Frame) (meth : Method) (c : Code) (z : Nat) (sa : Nat → Nat) (D : va_G) (dA : Nat → ClassId) (Z : State → Prop) (mc ms : Nat),
    Cx d mi p l R s m args meth c z sa D dA → HR mi p l e R s m args below meth c z sa D dA Q Z mc ms → HX mi p l e R s m args below meth c z sa D dA Q Z mc ms → HT mi p l e R s m args below meth c z sa D dA Q Z mc ms → mc ≤ R.cells → ms ≤ R.slots →
    ∀ (H : Heap) (locs : List Loc) (cells slots : Nat) (ls : Array Slot), Rel D dA sa z w H → va_S (Az z) s.heap H locs → lrel sa z mi.2.2.1 lc ls → cells + kb ≤ mc → slots + sb ≤ ms →
    W p l e R s m args below meth c H locs cells slots Z (F0 m pc ls (st.map (mv sa z)))
/-- .. with an exception of the class E in flight -/
def JX (d : Nat) (mi : MI) (pc : Nat) (lc : List (Option Value)) (w : Wd) (kb sb : Nat) (Q : Po) (E : String) : Prop :=
  ∀ (p : Program) (l : Launch) (e : Env) (R : Room) (s : State) (m : MethodId) (args : Array Value) (below : List Frame) (meth : Method) (c : Code) (z : Nat) (sa : Nat → Nat) (D : va_G) (dA : Nat → ClassId) (Z : State → Prop) (mc ms : Nat),
    Cx d mi p l R s m args meth c z sa D dA → HR mi p l e R s m args below meth c z sa D dA Q Z mc ms → HX mi p l e R s m args below meth c z sa D dA Q Z mc ms → HT mi p l e R s m args below meth c z sa D dA Q Z mc ms → mc ≤ R.cells → ms ≤ R.slots →
    ∀ (H : Heap) (locs : List Loc) (cells slots : Nat) (ls : Array Slot) (rest : List Value) (q : Addr) (ce : Cell), Rel D dA sa z w H → va_S (Az z) s.heap H locs → lrel sa z mi.2.2.1 lc ls → cells + kb ≤ mc → slots + sb ≤ ms → H[q]? = some ce → ce.vm = .none → s.vm.findClass E = some ce.cls →
    vx_W p l e R s m args below meth c H locs cells slots Z (F0 m pc ls rest) q
/-! stack, locals, arithmetic -/
section
variable {d : Nat} {mi : MI} {pc : Nat} {lc : List (Option Value)} {st : List Value} {w : Wd} {kb sb : Nat} {Q : Po}
theorem J_iconst {n : Int} {v : Int32} (hd : decode mi.2.1 pc = .ok (.iconst n, 1)) (hv : Int32.ofInt n = v) (k : J d mi (pc + 1) lc (.int v :: st) w kb sb Q) : J d mi pc lc (st) w kb sb Q := by
  intro p l e R s m args below meth c z sa D dA Z mc ms C h1 h2 h3 h4 h5 H locs cells slots ls hR hS hl h6 h7
  exact lv_iconst C.1.1 C.1.2.1 hd hv (k p l e R s m args below meth c z sa D dA Z mc ms C h1 h2 h3 h4 h5 H locs cells slots ls hR hS hl h6 h7)
theorem J_bipush {n : Int} {v : Int32} (hd : decode mi.2.1 pc = .ok (.bipush n, 2)) (hv : (Int8.ofInt n).toInt32 = v) (k : J d mi (pc + 2) lc (.int v :: st) w kb sb Q) : J d mi pc lc (st) w kb sb Q := by
  intro p l e R s m args below meth c z sa D dA Z mc ms C h1 h2 h3 h4 h5 H locs cells slots ls hR hS hl h6 h7
  exact lv_bipush C.1.1 C.1.2.1 hd hv (k p l e R s m args below meth c z sa D dA Z mc ms C h1 h2 h3 h4 h5 H locs cells slots ls hR hS hl h6 h7)
theorem J_sipush {n : Int} {v : Int32} (hd : decode mi.2.1 pc = .ok (.sipush n, 3)) (hv : (Int16.ofInt n).toInt32 = v) (k : J d mi (pc + 3) lc (.int v :: st) w kb sb Q) : J d mi pc lc (st) w kb sb Q := by
  intro p l e R s m args below meth c z sa D dA Z mc ms C h1 h2 h3 h4 h5 H locs cells slots ls hR hS hl h6 h7
  exact lv_sipush C.1.1 C.1.2.1 hd hv (k p l e R s m args below meth c z sa D dA Z mc ms C h1 h2 h3 h4 h5 H locs cells slots ls hR hS hl h6 h7)
theorem J_lconst {n : Fin 2} {v : Int64} (hd : decode mi.2.1 pc = .ok (.lconst n, 1)) (hv : Int64.ofNat (n : Nat) = v) (k : J d mi (pc + 1) lc (.long v :: st) w kb sb Q) : J d mi pc lc (st) w kb sb Q := by
  intro p l e R s m args below meth c z sa D dA Z mc ms C h1 h2 h3 h4 h5 H locs cells slots ls hR hS hl h6 h7
  exact lv_lconst C.1.1 C.1.2.1 hd hv (k p l e R s m args below meth c z sa D dA Z mc ms C h1 h2 h3 h4 h5 H locs cells slots ls hR hS hl h6 h7)
theorem J_iadd {x y : Int32} (hd : decode mi.2.1 pc = .ok (.iadd, 1)) (k : J d mi (pc + 1) lc (.int (x + y) :: st) w kb sb Q) : J d mi pc lc (.int y :: .int x :: st) w kb sb Q := by
  intro p l e R s m args below meth c z sa D dA Z mc ms C h1 h2 h3 h4 h5 H locs cells slots ls hR hS hl h6 h7
  exact lv_iadd C.1.1 C.1.2.1 hd (k p l e R s m args below meth c z sa D dA Z mc ms C h1 h2 h3 h4 h5 H locs cells slots ls hR hS hl h6 h7)
theorem J_isub {x y : Int32} (hd : decode mi.2.1 pc = .ok (.isub, 1)) (k : J d mi (pc + 1) lc (.int (x - y) :: st) w kb sb Q) : J d mi pc lc (.int y :: .int x :: st) w kb sb Q := by
  intro p l e R s m args below meth c z sa D dA Z mc ms C h1 h2 h3 h4 h5 H locs cells slots ls hR hS hl h6 h7
  exact lv_isub C.1.1 C.1.2.1 hd (k p l e R s m args below meth c z sa D dA Z mc ms C h1 h2 h3 h4 h5 H locs cells slots ls hR hS hl h6 h7)
theorem J_imul {x y : Int32} (hd : decode mi.2.1 pc = .ok (.imul, 1)) (k : J d mi (pc + 1) lc (.int (x * y) :: st) w kb sb Q) : J d mi pc lc (.int y :: .int x :: st) w kb sb Q := by
  intro p l e R s m args below meth c z sa D dA Z mc ms C h1 h2 h3 h4 h5 H locs cells slots ls hR hS hl h6 h7
  exact lv_imul C.1.1 C.1.2.1 hd (k p l e R s m args below meth c z sa D dA Z mc ms C h1 h2 h3 h4 h5 H locs cells slots ls hR hS hl h6 h7)
theorem J_iand {x y : Int32} (hd : decode mi.2.1 pc = .ok (.iand, 1)) (k : J d mi (pc + 1) lc (.int (x &&& y) :: st) w kb sb Q) : J d mi pc lc (.int y :: .int x :: st) w kb sb Q := by
  intro p l e R s m args below meth c z sa D dA Z mc ms C h1 h2 h3 h4 h5 H locs cells slots ls hR hS hl h6 h7
  exact lv_iand C.1.1 C.1.2.1 hd (k p l e R s m args below meth c z sa D dA Z mc ms C h1 h2 h3 h4 h5 H locs cells slots ls hR hS hl h6 h7)
theorem J_ior {x y : Int32} (hd : decode mi.2.1 pc = .ok (.ior, 1)) (k : J d mi (pc + 1) lc (.int (x ||| y) :: st) w kb sb Q) : J d mi pc lc (.int y :: .int x :: st) w kb sb Q := by
  intro p l e R s m args below meth c z sa D dA Z mc ms C h1 h2 h3 h4 h5 H locs cells slots ls hR hS hl h6 h7
  exact lv_ior C.1.1 C.1.2.1 hd (k p l e R s m args below meth c z sa D dA Z mc ms C h1 h2 h3 h4 h5 H locs cells slots ls hR hS hl h6 h7)
theorem J_ixor {x y : Int32} (hd : decode mi.2.1 pc = .ok (.ixor, 1)) (k : J d mi (pc + 1) lc (.int (x ^^^ y) :: st) w kb sb Q) : J d mi pc lc (.int y :: .int x :: st) w kb sb Q := by
  intro p l e R s m args below meth c z sa D dA Z mc ms C h1 h2 h3 h4 h5 H locs cells slots ls hR hS hl h6 h7
  exact lv_ixor C.1.1 C.1.2.1 hd (k p l e R s m args below meth c z sa D dA Z mc ms C h1 h2 h3 h4 h5 H locs cells slots ls hR hS hl h6 h7)
theorem J_ishl {x y : Int32} (hd : decode mi.2.1 pc = .ok (.ishl, 1)) (k : J d mi (pc + 1) lc (.int (x <<< (y &&& 31)) :: st) w kb sb Q) : J d mi pc lc (.int y :: .int x :: st) w kb sb Q := by
  intro p l e R s m args below meth c z sa D dA Z mc ms C h1 h2 h3 h4 h5 H locs cells slots ls hR hS hl h6 h7
  exact lv_ishl C.1.1 C.1.2.1 hd (k p l e R s m args below meth c z sa D dA Z mc ms C h1 h2 h3 h4 h5 H locs cells slots ls hR hS hl h6 h7)
theorem J_ishr {x y : Int32} (hd : decode mi.2.1 pc = .ok (.ishr, 1)) (k : J d mi (pc + 1) lc (.int (x >>> (y &&& 31)) :: st) w kb sb Q) : J d mi pc lc (.int y :: .int x :: st) w kb sb Q := by
  intro p l e R s m args below meth c z sa D dA Z mc ms C h1 h2 h3 h4 h5 H locs cells slots ls hR hS hl h6 h7
  exact lv_ishr C.1.1 C.1.2.1 hd (k p l e R s m args below meth c z sa D dA Z mc ms C h1 h2 h3 h4 h5 H locs cells slots ls hR hS hl h6 h7)
theorem J_iushr {x y v : Int32} (hd : decode mi.2.1 pc = .ok (.iushr, 1)) (hv : (x.toUInt32 >>> (y.toUInt32 &&& Int32.toUInt32 31)).toInt32 = v) (k : J d mi (pc + 1) lc (.int v :: st) w kb sb Q) : J d mi pc lc (.int y :: .int x :: st) w kb sb Q := by
  intro p l e R s m args below meth c z sa D dA Z mc ms C h1 h2 h3 h4 h5 H locs cells slots ls hR hS hl h6 h7
  exact lv_iushr C.1.1 C.1.2.1 hd hv (k p l e R s m args below meth c z sa D dA Z mc ms C h1 h2 h3 h4 h5 H locs cells slots ls hR hS hl h6 h7)
theorem J_idiv {x y : Int32} (hd : decode mi.2.1 pc = .ok (.idiv, 1)) (hne : ¬ y = 0) (k : J d mi (pc + 1) lc (.int (x / y) :: st) w kb sb Q) : J d mi pc lc (.int y :: .int x :: st) w kb sb Q := by
  intro p l e R s m args below meth c z sa D dA Z mc ms C h1 h2 h3 h4 h5 H locs cells slots ls hR hS hl h6 h7
  exact lv_idiv C.1.1 C.1.2.1 hd hne (k p l e R s m args below meth c z sa D dA Z mc ms C h1 h2 h3 h4 h5 H locs cells slots ls hR hS hl h6 h7)
theorem J_irem {x y : Int32} (hd : decode mi.2.1 pc = .ok (.irem, 1)) (hne : ¬ y = 0) (k : J d mi (pc + 1) lc (.int (x - x / y * y) :: st) w kb sb Q) : J d mi pc lc (.int y :: .int x :: st) w kb sb Q := by
  intro p l e R s m args below meth c z sa D dA Z mc ms C h1 h2 h3 h4 h5 H locs cells slots ls hR hS hl h6 h7
  exact lv_irem C.1.1 C.1.2.1 hd hne (k p l e R s m args below meth c z sa D dA Z mc ms C h1 h2 h3 h4 h5 H locs cells slots ls hR hS hl h6 h7)
theorem J_i2l {x : Int32} {v : Int64} (hd : decode mi.2.1 pc = .ok (.i2l, 1)) (hv : x.toInt64 = v) (k : J d mi (pc + 1) lc (.long v :: st) w kb sb Q) : J d mi pc lc (.int x :: st) w kb sb Q := by
  intro p l e R s m args below meth c z sa D dA Z mc ms C h1 h2 h3 h4 h5 H locs cells slots ls hR hS hl h6 h7
  exact lv_i2l C.1.1 C.1.2.1 hd hv (k p l e R s m args below meth c z sa D dA Z mc ms C h1 h2 h3 h4 h5 H locs cells slots ls hR hS hl h6 h7)
theorem J_i2c {x v : Int32} (hd : decode mi.2.1 pc = .ok (.i2c, 1)) (hv : (x.toUInt32 % 65536).toInt32 = v) (k : J d mi (pc + 1) lc (.int v :: st) w kb sb Q) : J d mi pc lc (.int x :: st) w kb sb Q := by
  intro p l e R s m args below meth c z sa D dA Z mc ms C h1 h2 h3 h4 h5 H locs cells slots ls hR hS hl h6 h7
  exact lv_i2c C.1.1 C.1.2.1 hd hv (k p l e R s m args below meth c z sa D dA Z mc ms C h1 h2 h3 h4 h5 H locs cells slots ls hR hS hl h6 h7)
theorem J_i2d {x : Int32} (hd : decode mi.2.1 pc = .ok (.i2d, 1)) (k : J d mi (pc + 1) lc (.double (FP.i2d x) :: st) w kb sb Q) : J d mi pc lc (.int x :: st) w kb sb Q := by
  intro p l e R s m args below meth c z sa D dA Z mc ms C h1 h2 h3 h4 h5 H locs cells slots ls hR hS hl h6 h7
  exact lv_i2d C.1.1 C.1.2.1 hd (k p l e R s m args below meth c z sa D dA Z mc ms C h1 h2 h3 h4 h5 H locs cells slots ls hR hS hl h6 h7)
theorem J_i2f {x : Int32} (hd : decode mi.2.1 pc = .ok (.i2f, 1)) (k : J d mi (pc + 1) lc (.float (FP.i2f x) :: st) w kb sb Q) : J d mi pc lc (.int x :: st) w kb sb Q := by
  intro p l e R s m args below meth c z sa D dA Z mc ms C h1 h2 h3 h4 h5 H locs cells slots ls hR hS hl h6 h7
  exact lv_i2f C.1.1 C.1.2.1 hd (k p l e R s m args below meth c z sa D dA Z mc ms C h1 h2 h3 h4 h5 H locs cells slots ls hR hS hl h6 h7)
theorem J_ddiv {x y : UInt64} (hd : decode mi.2.1 pc = .ok (.ddiv, 1)) (hne : vf_n64 (FP.ddiv x y)) (k : J d mi (pc + 1) lc (.double (FP.ddiv x y) :: st) w kb sb Q) : J d mi pc lc (.double y :: .double x :: st) w kb sb Q := by
  intro p l e R s m args below meth c z sa D dA Z mc ms C h1 h2 h3 h4 h5 H locs cells slots ls hR hS hl h6 h7
  exact lv_ddiv C.1.1 C.1.2.1 hd hne (k p l e R s m args below meth c z sa D dA Z mc ms C h1 h2 h3 h4 h5 H locs cells slots ls hR hS hl h6 h7)
theorem J_fdiv {x y : UInt32} (hd : decode mi.2.1 pc = .ok (.fdiv, 1)) (hne : vf_n32 (FP.fdiv x y)) (k : J d mi (pc + 1) lc (.float (FP.fdiv x y) :: st) w kb sb Q) : J d mi pc lc (.float y :: .float x :: st) w kb sb Q := by
  intro p l e R s m args below meth c z sa D dA Z mc ms C h1 h2 h3 h4 h5 H locs cells slots ls hR hS hl h6 h7
  exact lv_fdiv C.1.1 C.1.2.1 hd hne (k p l e R s m args below meth c z sa D dA Z mc ms C h1 h2 h3 h4 h5 H locs cells slots ls hR hS hl h6 h7)
theorem J_f2d {x : UInt32} (hd : decode mi.2.1 pc = .ok (.f2d, 1)) (hne : vf_n64 (FP.f2d x)) (k : J d mi (pc + 1) lc (.double (FP.f2d x) :: st) w kb sb Q) : J d mi pc lc (.float x :: st) w kb sb Q := by
  intro p l e R s m args below meth c z sa D dA Z mc ms C h1 h2 h3 h4 h5 H locs cells slots ls hR hS hl h6 h7
  exact lv_f2d C.1.1 C.1.2.1 hd hne (k p l e R s m args below meth c z sa D dA Z mc ms C h1 h2 h3 h4 h5 H locs cells slots ls hR hS hl h6 h7)
theorem J_dcmp {x y : UInt64} {op : CmpOp} (hd : decode mi.2.1 pc = .ok (.dcmp op, 1)) (k : J d mi (pc + 1) lc (.int (Op.cmpValue (FP.dcmp x y) op) :: st) w kb sb Q) : J d mi pc lc (.double y :: .double x :: st) w kb sb Q := by
  intro p l e R s m args below meth c z sa D dA Z mc ms C h1 h2 h3 h4 h5 H locs cells slots ls hR hS hl h6 h7
  exact lv_dcmp C.1.1 C.1.2.1 hd (k p l e R s m args below meth c z sa D dA Z mc ms C h1 h2 h3 h4 h5 H locs cells slots ls hR hS hl h6 h7)
theorem J_fcmp {x y : UInt32} {op : CmpOp} (hd : decode mi.2.1 pc = .ok (.fcmp op, 1)) (k : J d mi (pc + 1) lc (.int (Op.cmpValue (FP.fcmp x y) op) :: st) w kb sb Q) : J d mi pc lc (.float y :: .float x :: st) w kb sb Q := by
  intro p l e R s m args below meth c z sa D dA Z mc ms C h1 h2 h3 h4 h5 H locs cells slots ls hR hS hl h6 h7
  exact lv_fcmp C.1.1 C.1.2.1 hd (k p l e R s m args below meth c z sa D dA Z mc ms C h1 h2 h3 h4 h5 H locs cells slots ls hR hS hl h6 h7)
theorem J_lcmp {x y : Int64} (hd : decode mi.2.1 pc = .ok (.lcmp, 1)) (k : J d mi (pc + 1) lc (.int (lg_cmp x y) :: st) w kb sb Q) : J d mi pc lc (.long y :: .long x :: st) w kb sb Q := by
  intro p l e R s m args below meth c z sa D dA Z mc ms C h1 h2 h3 h4 h5 H locs cells slots ls hR hS hl h6 h7
  exact W.lcmp C.1.1 C.1.2.1 hd (k p l e R s m args below meth c z sa D dA Z mc ms C h1 h2 h3 h4 h5 H locs cells slots ls hR hS hl h6 h7)
theorem J_dup {va : Value} (hd : decode mi.2.1 pc = .ok (.dup, 1)) (hva : va.category = 1) (k : J d mi (pc + 1) lc (va :: va :: st) w kb sb Q) : J d mi pc lc (va :: st) w kb sb Q := by
  intro p l e R s m args below meth c z sa D dA Z mc ms C h1 h2 h3 h4 h5 H locs cells slots ls hR hS hl h6 h7
  exact lv_dup C.1.1 C.1.2.1 hd ((mv_cat sa z va).trans hva) (k p l e R s m args below meth c z sa D dA Z mc ms C h1 h2 h3 h4 h5 H locs cells slots ls hR hS hl h6 h7)
theorem J_pop {va : Value} (hd : decode mi.2.1 pc = .ok (.pop, 1)) (hva : va.category = 1) (k : J d mi (pc + 1) lc (st) w kb sb Q) : J d mi pc lc (va :: st) w kb sb Q := by
  intro p l e R s m args below meth c z sa D dA Z mc ms C h1 h2 h3 h4 h5 H locs cells slots ls hR hS hl h6 h7
  exact lv_pop C.1.1 C.1.2.1 hd ((mv_cat sa z va).trans hva) (k p l e R s m args below meth c z sa D dA Z mc ms C h1 h2 h3 h4 h5 H locs cells slots ls hR hS hl h6 h7)
theorem J_dup_x1 {va vb : Value} (hd : decode mi.2.1 pc = .ok (.dup_x1, 1)) (hva : va.category = 1) (hvb : vb.category = 1) (k : J d mi (pc + 1) lc (va :: vb :: va :: st) w kb sb Q) : J d mi pc lc (va :: vb :: st) w kb sb Q := by
  intro p l e R s m args below meth c z sa D dA Z mc ms C h1 h2 h3 h4 h5 H locs cells slots ls hR hS hl h6 h7
  exact lv_dup_x1 C.1.1 C.1.2.1 hd ((mv_cat sa z va).trans hva) ((mv_cat sa z vb).trans hvb) (k p l e R s m args below meth c z sa D dA Z mc ms C h1 h2 h3 h4 h5 H locs cells slots ls hR hS hl h6 h7)
theorem J_dup2 {va vb : Value} (hd : decode mi.2.1 pc = .ok (.dup2, 1)) (hva : va.category = 1) (hvb : vb.category = 1) (k : J d mi (pc + 1) lc (va :: vb :: va :: vb :: st) w kb sb Q) : J d mi pc lc (va :: vb :: st) w kb sb Q := by
  intro p l e R s m args below meth c z sa D dA Z mc ms C h1 h2 h3 h4 h5 H locs cells slots ls hR hS hl h6 h7
  exact lv_dup2_11 C.1.1 C.1.2.1 hd ((mv_cat sa z va).trans hva) ((mv_cat sa z vb).trans hvb) (k p l e R s m args below meth c z sa D dA Z mc ms C h1 h2 h3 h4 h5 H locs cells slots ls hR hS hl h6 h7)
theorem J_iload_n {n : Fin 4} {i : Nat} {x : Int32} (hd : decode mi.2.1 pc = .ok (.iload_n n, 1)) (hi : (n : Nat) = i) (hv : lc[i]? = some (some (.int x))) (k : J d mi (pc + 1) lc (.int x :: st) w kb sb Q) : J d mi pc lc st w kb sb Q := by
  intro p l e R s m args below meth c z sa D dA Z mc ms C h1 h2 h3 h4 h5 H locs cells slots ls hR hS hl h6 h7
  exact lv_iload_n C.1.1 C.1.2.1 hd hi (hl.2.2 i _ hv) (k p l e R s m args below meth c z sa D dA Z mc ms C h1 h2 h3 h4 h5 H locs cells slots ls hR hS hl h6 h7)
theorem J_iload {i : Nat} {x : Int32} (hd : decode mi.2.1 pc = .ok (.iload i, 2)) (hv : lc[i]? = some (some (.int x))) (k : J d mi (pc + 2) lc (.int x :: st) w kb sb Q) : J d mi pc lc st w kb sb Q := by
  intro p l e R s m args below meth c z sa D dA Z mc ms C h1 h2 h3 h4 h5 H locs cells slots ls hR hS hl h6 h7
  exact lv_iload C.1.1 C.1.2.1 hd (hl.2.2 i _ hv) (k p l e R s m args below meth c z sa D dA Z mc ms C h1 h2 h3 h4 h5 H locs cells slots ls hR hS hl h6 h7)
theorem J_lload_n {n : Fin 4} {i : Nat} {x : Int64} (hd : decode mi.2.1 pc = .ok (.lload_n n, 1)) (hi : (n : Nat) = i) (hv : lc[i]? = some (some (.long x))) (k : J d mi (pc + 1) lc (.long x :: st) w kb sb Q) : J d mi pc lc st w kb sb Q := by
  intro p l e R s m args below meth c z sa D dA Z mc ms C h1 h2 h3 h4 h5 H locs cells slots ls hR hS hl h6 h7
  exact lv_lload_n C.1.1 C.1.2.1 hd hi (hl.2.2 i _ hv) (k p l e R s m args below meth c z sa D dA Z mc ms C h1 h2 h3 h4 h5 H locs cells slots ls hR hS hl h6 h7)
theorem J_lload {i : Nat} {x : Int64} (hd : decode mi.2.1 pc = .ok (.lload i, 2)) (hv : lc[i]? = some (some (.long x))) (k : J d mi (pc + 2) lc (.long x :: st) w kb sb Q) : J d mi pc lc st w kb sb Q := by
  intro p l e R s m args below meth c z sa D dA Z mc ms C h1 h2 h3 h4 h5 H locs cells slots ls hR hS hl h6 h7
  exact lv_lload C.1.1 C.1.2.1 hd (hl.2.2 i _ hv) (k p l e R s m args below meth c z sa D dA Z mc ms C h1 h2 h3 h4 h5 H locs cells slots ls hR hS hl h6 h7)
theorem J_dload_n {n : Fin 4} {i : Nat} {x : UInt64} (hd : decode mi.2.1 pc = .ok (.dload_n n, 1)) (hi : (n : Nat) = i) (hv : lc[i]? = some (some (.double x))) (k : J d mi (pc + 1) lc (.double x :: st) w kb sb Q) : J d mi pc lc st w kb sb Q := by
  intro p l e R s m args below meth c z sa D dA Z mc ms C h1 h2 h3 h4 h5 H locs cells slots ls hR hS hl h6 h7
  exact lv_dload_n C.1.1 C.1.2.1 hd hi (hl.2.2 i _ hv) (k p l e R s m args below meth c z sa D dA Z mc ms C h1 h2 h3 h4 h5 H locs cells slots ls hR hS hl h6 h7)
theorem J_dload {i : Nat} {x : UInt64} (hd : decode mi.2.1 pc = .ok (.dload i, 2)) (hv : lc[i]? = some (some (.double x))) (k : J d mi (pc + 2) lc (.double x :: st) w kb sb Q) : J d mi pc lc st w kb sb Q := by
  intro p l e R s m args below meth c z sa D dA Z mc ms C h1 h2 h3 h4 h5 H locs cells slots ls hR hS hl h6 h7
  exact lv_dload C.1.1 C.1.2.1 hd (hl.2.2 i _ hv) (k p l e R s m args below meth c z sa D dA Z mc ms C h1 h2 h3 h4 h5 H locs cells slots ls hR hS hl h6 h7)
theorem J_fload {i : Nat} {x : UInt32} (hd : decode mi.2.1 pc = .ok (.fload i, 2)) (hv : lc[i]? = some (some (.float x))) (k : J d mi (pc + 2) lc (.float x :: st) w kb sb Q) : J d mi pc lc st w kb sb Q := by
  intro p l e R s m args below meth c z sa D dA Z mc ms C h1 h2 h3 h4 h5 H locs cells slots ls hR hS hl h6 h7
  exact lv_fload C.1.1 C.1.2.1 hd (hl.2.2 i _ hv) (k p l e R s m args below meth c z sa D dA Z mc ms C h1 h2 h3 h4 h5 H locs cells slots ls hR hS hl h6 h7)
theorem J_aload_n {n : Fin 4} {i : Nat} {x : Nat} (hd : decode mi.2.1 pc = .ok (.aload_n n, 1)) (hi : (n : Nat) = i) (hv : lc[i]? = some (some (.ref x))) (k : J d mi (pc + 1) lc (.ref x :: st) w kb sb Q) : J d mi pc lc st w kb sb Q := by
  intro p l e R s m args below meth c z sa D dA Z mc ms C h1 h2 h3 h4 h5 H locs cells slots ls hR hS hl h6 h7
  exact lv_aload_n C.1.1 C.1.2.1 hd hi (hl.2.2 i _ hv) (k p l e R s m args below meth c z sa D dA Z mc ms C h1 h2 h3 h4 h5 H locs cells slots ls hR hS hl h6 h7)
theorem J_aload {i : Nat} {x : Nat} (hd : decode mi.2.1 pc = .ok (.aload i, 2)) (hv : lc[i]? = some (some (.ref x))) (k : J d mi (pc + 2) lc (.ref x :: st) w kb sb Q) : J d mi pc lc st w kb sb Q := by
  intro p l e R s m args below meth c z sa D dA Z mc ms C h1 h2 h3 h4 h5 H locs cells slots ls hR hS hl h6 h7
  exact lv_aload C.1.1 C.1.2.1 hd (hl.2.2 i _ hv) (k p l e R s m args below meth c z sa D dA Z mc ms C h1 h2 h3 h4 h5 H locs cells slots ls hR hS hl h6 h7)
def okst (lc : List (Option Value)) : Nat → Bool
  | 0 => true
  | j + 1 => match lc[j]? with
    | some (some v) => !(v.category == 2)
    | _ => true
def lcL (sa : Nat → Nat) (z : Nat) (lc : List (Option Value)) : List (Nat × Value) := (List.range lc.length).filterMap (fun i => (lc[i]?.join).map (fun v => (i, mv sa z v)))
theorem lcL_mem {sa : Nat → Nat} {z : Nat} {lc : List (Option Value)} {i : Nat} {v : Value} (h : lc[i]? = some (some v)) : (i, mv sa z v) ∈ lcL sa z lc := by
  unfold lcL
  refine List.mem_filterMap.mpr ⟨i, List.mem_range.mpr (List.getElem?_eq_some_iff.mp h).1, ?_⟩
  rw [h]
  rfl
theorem lrel.has {sa : Nat → Nat} {z nL : Nat} {lc : List (Option Value)} {ls : Array Slot} (h : lrel sa z nL lc ls) : lv_has ls nL (lcL sa z lc) := by
  refine ⟨h.1, h.2.1, fun q hq => ?_⟩
  obtain ⟨i, -, hi⟩ := List.mem_filterMap.mp hq
  cases hc : lc[i]? with
  | none => rw [hc] at hi; cases hi
  | some o =>
    cases o with
    | none => rw [hc] at hi; cases hi
    | some v =>
      rw [hc] at hi
      cases hi
      exact h.2.2 i v hc
theorem lrel.store {sa : Nat → Nat} {z nL : Nat} {lc : List (Option Value)} {ls' : Array Slot} {i : Nat} {x : Value} {L : List (Nat × Value)} (hL : ∀ q ∈ lcL sa z lc, q ∈ L) (hok : okst lc i = true) (h : lv_has ls' nL ((i, mv sa z x) :: L.filter (fun q => !(q.1 == i) && !(q.1 + 1 == i && q.2.category == 2)))) : lrel sa z nL (lc.set i (some x)) ls' := by
  refine ⟨h.1, h.2.1, fun j v hj => ?_⟩
  by_cases e : j = i
  · subst e
    by_cases hl : j < lc.length
    · rw [List.getElem?_set_self hl] at hj
      cases hj
      exact h.2.2 (j, mv sa z x) List.mem_cons_self
    · rw [List.getElem?_eq_none (by rw [List.length_set]; omega)] at hj
      cases hj
  · rw [List.getElem?_set_ne (Ne.symm e)] at hj
    refine h.2.2 (j, mv sa z v) (List.mem_cons_of_mem _ (List.mem_filter.mpr ⟨hL _ (lcL_mem hj), ?_⟩))
    have e1 : (j == i) = false := by simpa using e
    simp only [e1, Bool.not_false, Bool.true_and, mv_cat]
    cases i with
    | zero => simp
    | succ n =>
      by_cases e2 : j = n
      · subst e2
        simp only [okst, hj] at hok
        simpa using hok
      · have e3 : (j + 1 == n + 1) = false := by simpa using e2
        rw [e3]; rfl
theorem lrel.store2 {sa : Nat → Nat} {z nL : Nat} {lc : List (Option Value)} {ls' : Array Slot} {i : Nat} {x : Value} {L : List (Nat × Value)} (hL : ∀ q ∈ lcL sa z lc, q ∈ L) (hok : okst lc i = true) (h : lv_has ls' nL ((i, mv sa z x) :: L.filter (fun q => !(q.1 == i) && (!(q.1 == i + 1) && !(q.1 + 1 == i && q.2.category == 2))))) : lrel sa z nL ((lc.set i (some x)).set (i + 1) none) ls' := by
  refine ⟨h.1, h.2.1, fun j v hj => ?_⟩
  by_cases e0 : j = i + 1
  · subst e0
    by_cases hl : i + 1 < lc.length
    · rw [List.getElem?_set_self (by rw [List.length_set]; exact hl)] at hj
      cases hj
    · rw [List.getElem?_eq_none (by rw [List.length_set, List.length_set]; omega)] at hj
      cases hj
  · rw [List.getElem?_set_ne (Ne.symm e0)] at hj
    by_cases e : j = i
    · subst e
      by_cases hl : j < lc.length
      · rw [List.getElem?_set_self hl] at hj
        cases hj
        exact h.2.2 (j, mv sa z x) List.mem_cons_self
      · rw [List.getElem?_eq_none (by rw [List.length_set]; omega)] at hj
        cases hj
    · rw [List.getElem?_set_ne (Ne.symm e)] at hj
      refine h.2.2 (j, mv sa z v) (List.mem_cons_of_mem _ (List.mem_filter.mpr ⟨hL _ (lcL_mem hj), ?_⟩))
      have e1 : (j == i) = false := by simpa using e
      have e2 : (j == i + 1) = false := by simpa using e0
      simp only [e1, e2, Bool.not_false, Bool.true_and, mv_cat]
      cases i with
      | zero => simp
      | succ n =>
        by_cases e3 : j = n
        · subst e3
          simp only [okst, hj] at hok
          simpa using hok
        · have e4 : (j + 1 == n + 1) = false := by simpa using e3
          rw [e4]; rfl
theorem J_istore_n {n : Fin 4} {i : Nat} {x : Int32} (hd : decode mi.2.1 pc = .ok (.istore_n n, 1)) (hi : (n : Nat) = i) (hn : i < mi.2.2.1) (hok : okst lc i = true) (k : J d mi (pc + 1) (lc.set i (some (.int x))) st w kb sb Q) : J d mi pc lc (.int x :: st) w kb sb Q := by
  intro p l e R s m args below meth c z sa D dA Z mc ms C h1 h2 h3 h4 h5 H locs cells slots ls hR hS hl h6 h7
  exact lv_istore_n C.1.1 C.1.2.1 hd hi hl.has hn rfl (fun ls' h' => k p l e R s m args below meth c z sa D dA Z mc ms C h1 h2 h3 h4 h5 H locs cells slots ls' hR hS (lrel.store (x := .int x) (fun _ h => h) hok h') h6 h7)
theorem J_istore {i : Nat} {x : Int32} (hd : decode mi.2.1 pc = .ok (.istore i, 2)) (hn : i < mi.2.2.1) (hok : okst lc i = true) (k : J d mi (pc + 2) (lc.set i (some (.int x))) st w kb sb Q) : J d mi pc lc (.int x :: st) w kb sb Q := by
  intro p l e R s m args below meth c z sa D dA Z mc ms C h1 h2 h3 h4 h5 H locs cells slots ls hR hS hl h6 h7
  exact lv_istore C.1.1 C.1.2.1 hd hl.has hn rfl (fun ls' h' => k p l e R s m args below meth c z sa D dA Z mc ms C h1 h2 h3 h4 h5 H locs cells slots ls' hR hS (lrel.store (x := .int x) (fun _ h => h) hok h') h6 h7)
theorem J_astore_n {n : Fin 4} {i : Nat} {x : Nat} (hd : decode mi.2.1 pc = .ok (.astore_n n, 1)) (hi : (n : Nat) = i) (hn : i < mi.2.2.1) (hok : okst lc i = true) (k : J d mi (pc + 1) (lc.set i (some (.ref x))) st w kb sb Q) : J d mi pc lc (.ref x :: st) w kb sb Q := by
  intro p l e R s m args below meth c z sa D dA Z mc ms C h1 h2 h3 h4 h5 H locs cells slots ls hR hS hl h6 h7
  exact lv_astore_n C.1.1 C.1.2.1 hd hi hl.has hn rfl (fun ls' h' => k p l e R s m args below meth c z sa D dA Z mc ms C h1 h2 h3 h4 h5 H locs cells slots ls' hR hS (lrel.store (x := .ref x) (fun _ h => h) hok h') h6 h7)
theorem J_astore {i : Nat} {x : Nat} (hd : decode mi.2.1 pc = .ok (.astore i, 2)) (hn : i < mi.2.2.1) (hok : okst lc i = true) (k : J d mi (pc + 2) (lc.set i (some (.ref x))) st w kb sb Q) : J d mi pc lc (.ref x :: st) w kb sb Q := by
  intro p l e R s m args below meth c z sa D dA Z mc ms C h1 h2 h3 h4 h5 H locs cells slots ls hR hS hl h6 h7
  exact lv_astore C.1.1 C.1.2.1 hd hl.has hn rfl (fun ls' h' => k p l e R s m args below meth c z sa D dA Z mc ms C h1 h2 h3 h4 h5 H locs cells slots ls' hR hS (lrel.store (x := .ref x) (fun _ h => h) hok h') h6 h7)
theorem J_fstore {i : Nat} {x : UInt32} (hd : decode mi.2.1 pc = .ok (.fstore i, 2)) (hn : i < mi.2.2.1) (hok : okst lc i = true) (k : J d mi (pc + 2) (lc.set i (some (.float x))) st w kb sb Q) : J d mi pc lc (.float x :: st) w kb sb Q := by
  intro p l e R s m args below meth c z sa D dA Z mc ms C h1 h2 h3 h4 h5 H locs cells slots ls hR hS hl h6 h7
  exact lv_fstore C.1.1 C.1.2.1 hd hl.has hn rfl (fun ls' h' => k p l e R s m args below meth c z sa D dA Z mc ms C h1 h2 h3 h4 h5 H locs cells slots ls' hR hS (lrel.store (x := .float x) (fun _ h => h) hok h') h6 h7)
theorem J_dstore {i : Nat} {x : UInt64} (hd : decode mi.2.1 pc = .ok (.dstore i, 2)) (hn : i + 1 < mi.2.2.1) (hok : okst lc i = true) (k : J d mi (pc + 2) ((lc.set i (some (.double x))).set (i + 1) none) st w kb sb Q) : J d mi pc lc (.double x :: st) w kb sb Q := by
  intro p l e R s m args below meth c z sa D dA Z mc ms C h1 h2 h3 h4 h5 H locs cells slots ls hR hS hl h6 h7
  exact lv_dstore C.1.1 C.1.2.1 hd hl.has hn rfl (fun ls' h' => k p l e R s m args below meth c z sa D dA Z mc ms C h1 h2 h3 h4 h5 H locs cells slots ls' hR hS (lrel.store2 (x := .double x) (fun _ h => h) hok h') h6 h7)
theorem J_iinc {i : Nat} {n : Int} {x v : Int32} (hd : decode mi.2.1 pc = .ok (.iinc i n, 3)) (hv : lc[i]? = some (some (.int x))) (he : x + Int32.ofInt n = v) (hn : i < mi.2.2.1) (hok : okst lc i = true) (k : J d mi (pc + 3) (lc.set i (some (.int v))) st w kb sb Q) : J d mi pc lc st w kb sb Q := by
  intro p l e R s m args below meth c z sa D dA Z mc ms C h1 h2 h3 h4 h5 H locs cells slots ls hR hS hl h6 h7
  have hh : lv_has ls mi.2.2.1 ((i, .int x) :: lcL sa z lc) := ⟨hl.1, hl.2.1, fun q hq => by
    rcases List.mem_cons.mp hq with rfl | hq
    · exact hl.2.2 i _ hv
    · exact hl.has.2.2 q hq⟩
  exact lv_iinc C.1.1 C.1.2.1 hd hh (k := 0) rfl he hn rfl (fun ls' h' => k p l e R s m args below meth c z sa D dA Z mc ms C h1 h2 h3 h4 h5 H locs cells slots ls' hR hS (lrel.store (x := .int v) (fun _ h => List.mem_cons_of_mem _ h) hok h') h6 h7)
theorem J_if_eq {x : Int32} {off : Int} {tgt : Nat} (hd : decode mi.2.1 pc = .ok (.ifCond .eq off, 3)) (ht : (pc : Int) + off = (tgt : Int)) (kt : x = 0 → J d mi tgt lc st w kb sb Q) (kf : ¬ x = 0 → J d mi (pc + 3) lc st w kb sb Q) : J d mi pc lc (.int x :: st) w kb sb Q := by
  intro p l e R s m args below meth c z sa D dA Z mc ms C h1 h2 h3 h4 h5 H locs cells slots ls hR hS hl h6 h7
  exact lv_if_eq C.1.1 C.1.2.1 hd ht (fun q => kt q p l e R s m args below meth c z sa D dA Z mc ms C h1 h2 h3 h4 h5 H locs cells slots ls hR hS hl h6 h7) (fun q => kf q p l e R s m args below meth c z sa D dA Z mc ms C h1 h2 h3 h4 h5 H locs cells slots ls hR hS hl h6 h7)
theorem J_if_ne {x : Int32} {off : Int} {tgt : Nat} (hd : decode mi.2.1 pc = .ok (.ifCond .ne off, 3)) (ht : (pc : Int) + off = (tgt : Int)) (kt : ¬ x = 0 → J d mi tgt lc st w kb sb Q) (kf : x = 0 → J d mi (pc + 3) lc st w kb sb Q) : J d mi pc lc (.int x :: st) w kb sb Q := by
  intro p l e R s m args below meth c z sa D dA Z mc ms C h1 h2 h3 h4 h5 H locs cells slots ls hR hS hl h6 h7
  exact lv_if_ne C.1.1 C.1.2.1 hd ht (fun q => kt q p l e R s m args below meth c z sa D dA Z mc ms C h1 h2 h3 h4 h5 H locs cells slots ls hR hS hl h6 h7) (fun q => kf q p l e R s m args below meth c z sa D dA Z mc ms C h1 h2 h3 h4 h5 H locs cells slots ls hR hS hl h6 h7)
theorem J_if_lt {x : Int32} {off : Int} {tgt : Nat} (hd : decode mi.2.1 pc = .ok (.ifCond .lt off, 3)) (ht : (pc : Int) + off = (tgt : Int)) (kt : x < 0 → J d mi tgt lc st w kb sb Q) (kf : ¬ x < 0 → J d mi (pc + 3) lc st w kb sb Q) : J d mi pc lc (.int x :: st) w kb sb Q := by
  intro p l e R s m args below meth c z sa D dA Z mc ms C h1 h2 h3 h4 h5 H locs cells slots ls hR hS hl h6 h7
  exact lv_if_lt C.1.1 C.1.2.1 hd ht (fun q => kt q p l e R s m args below meth c z sa D dA Z mc ms C h1 h2 h3 h4 h5 H locs cells slots ls hR hS hl h6 h7) (fun q => kf q p l e R s m args below meth c z sa D dA Z mc ms C h1 h2 h3 h4 h5 H locs cells slots ls hR hS hl h6 h7)
theorem J_if_ge {x : Int32} {off : Int} {tgt : Nat} (hd : decode mi.2.1 pc = .ok (.ifCond .ge off, 3)) (ht : (pc : Int) + off = (tgt : Int)) (kt : 0 ≤ x → J d mi tgt lc st w kb sb Q) (kf : ¬ 0 ≤ x → J d mi (pc + 3) lc st w kb sb Q) : J d mi pc lc (.int x :: st) w kb sb Q := by
  intro p l e R s m args below meth c z sa D dA Z mc ms C h1 h2 h3 h4 h5 H locs cells slots ls hR hS hl h6 h7
  exact lv_if_ge C.1.1 C.1.2.1 hd ht (fun q => kt q p l e R s m args below meth c z sa D dA Z mc ms C h1 h2 h3 h4 h5 H locs cells slots ls hR hS hl h6 h7) (fun q => kf q p l e R s m args below meth c z sa D dA Z mc ms C h1 h2 h3 h4 h5 H locs cells slots ls hR hS hl h6 h7)
theorem J_if_gt {x : Int32} {off : Int} {tgt : Nat} (hd : decode mi.2.1 pc = .ok (.ifCond .gt off, 3)) (ht : (pc : Int) + off = (tgt : Int)) (kt : 0 < x → J d mi tgt lc st w kb sb Q) (kf : ¬ 0 < x → J d mi (pc + 3) lc st w kb sb Q) : J d mi pc lc (.int x :: st) w kb sb Q := by
  intro p l e R s m args below meth c z sa D dA Z mc ms C h1 h2 h3 h4 h5 H locs cells slots ls hR hS hl h6 h7
  exact lv_if_gt C.1.1 C.1.2.1 hd ht (fun q => kt q p l e R s m args below meth c z sa D dA Z mc ms C h1 h2 h3 h4 h5 H locs cells slots ls hR hS hl h6 h7) (fun q => kf q p l e R s m args below meth c z sa D dA Z mc ms C h1 h2 h3 h4 h5 H locs cells slots ls hR hS hl h6 h7)
theorem J_if_le {x : Int32} {off : Int} {tgt : Nat} (hd : decode mi.2.1 pc = .ok (.ifCond .le off, 3)) (ht : (pc : Int) + off = (tgt : Int)) (kt : x ≤ 0 → J d mi tgt lc st w kb sb Q) (kf : ¬ x ≤ 0 → J d mi (pc + 3) lc st w kb sb Q) : J d mi pc lc (.int x :: st) w kb sb Q := by
  intro p l e R s m args below meth c z sa D dA Z mc ms C h1 h2 h3 h4 h5 H locs cells slots ls hR hS hl h6 h7
  exact lv_if_le C.1.1 C.1.2.1 hd ht (fun q => kt q p l e R s m args below meth c z sa D dA Z mc ms C h1 h2 h3 h4 h5 H locs cells slots ls hR hS hl h6 h7) (fun q => kf q p l e R s m args below meth c z sa D dA Z mc ms C h1 h2 h3 h4 h5 H locs cells slots ls hR hS hl h6 h7)
theorem J_icmp_eq {x y : Int32} {off : Int} {tgt : Nat} (hd : decode mi.2.1 pc = .ok (.if_icmp .eq off, 3)) (ht : (pc : Int) + off = (tgt : Int)) (kt : x = y → J d mi tgt lc st w kb sb Q) (kf : ¬ x = y → J d mi (pc + 3) lc st w kb sb Q) : J d mi pc lc (.int y :: .int x :: st) w kb sb Q := by
  intro p l e R s m args below meth c z sa D dA Z mc ms C h1 h2 h3 h4 h5 H locs cells slots ls hR hS hl h6 h7
  exact lv_icmp_eq C.1.1 C.1.2.1 hd ht (fun q => kt q p l e R s m args below meth c z sa D dA Z mc ms C h1 h2 h3 h4 h5 H locs cells slots ls hR hS hl h6 h7) (fun q => kf q p l e R s m args below meth c z sa D dA Z mc ms C h1 h2 h3 h4 h5 H locs cells slots ls hR hS hl h6 h7)
theorem J_icmp_ne {x y : Int32} {off : Int} {tgt : Nat} (hd : decode mi.2.1 pc = .ok (.if_icmp .ne off, 3)) (ht : (pc : Int) + off = (tgt : Int)) (kt : ¬ x = y → J d mi tgt lc st w kb sb Q) (kf : x = y → J d mi (pc + 3) lc st w kb sb Q) : J d mi pc lc (.int y :: .int x :: st) w kb sb Q := by
  intro p l e R s m args below meth c z sa D dA Z mc ms C h1 h2 h3 h4 h5 H locs cells slots ls hR hS hl h6 h7
  exact lv_icmp_ne C.1.1 C.1.2.1 hd ht (fun q => kt q p l e R s m args below meth c z sa D dA Z mc ms C h1 h2 h3 h4 h5 H locs cells slots ls hR hS hl h6 h7) (fun q => kf q p l e R s m args below meth c z sa D dA Z mc ms C h1 h2 h3 h4 h5 H locs cells slots ls hR hS hl h6 h7)
theorem J_icmp_lt {x y : Int32} {off : Int} {tgt : Nat} (hd : decode mi.2.1 pc = .ok (.if_icmp .lt off, 3)) (ht : (pc : Int) + off = (tgt : Int)) (kt : x < y → J d mi tgt lc st w kb sb Q) (kf : ¬ x < y → J d mi (pc + 3) lc st w kb sb Q) : J d mi pc lc (.int y :: .int x :: st) w kb sb Q := by
  intro p l e R s m args below meth c z sa D dA Z mc ms C h1 h2 h3 h4 h5 H locs cells slots ls hR hS hl h6 h7
  exact lv_icmp_lt C.1.1 C.1.2.1 hd ht (fun q => kt q p l e R s m args below meth c z sa D dA Z mc ms C h1 h2 h3 h4 h5 H locs cells slots ls hR hS hl h6 h7) (fun q => kf q p l e R s m args below meth c z sa D dA Z mc ms C h1 h2 h3 h4 h5 H locs cells slots ls hR hS hl h6 h7)
theorem J_icmp_ge {x y : Int32} {off : Int} {tgt : Nat} (hd : decode mi.2.1 pc = .ok (.if_icmp .ge off, 3)) (ht : (pc : Int) + off = (tgt : Int)) (kt : y ≤ x → J d mi tgt lc st w kb sb Q) (kf : ¬ y ≤ x → J d mi (pc + 3) lc st w kb sb Q) : J d mi pc lc (.int y :: .int x :: st) w kb sb Q := by
  intro p l e R s m args below meth c z sa D dA Z mc ms C h1 h2 h3 h4 h5 H locs cells slots ls hR hS hl h6 h7
  exact lv_icmp_ge C.1.1 C.1.2.1 hd ht (fun q => kt q p l e R s m args below meth c z sa D dA Z mc ms C h1 h2 h3 h4 h5 H locs cells slots ls hR hS hl h6 h7) (fun q => kf q p l e R s m args below meth c z sa D dA Z mc ms C h1 h2 h3 h4 h5 H locs cells slots ls hR hS hl h6 h7)
theorem J_icmp_gt {x y : Int32} {off : Int} {tgt : Nat} (hd : decode mi.2.1 pc = .ok (.if_icmp .gt off, 3)) (ht : (pc : Int) + off = (tgt : Int)) (kt : y < x → J d mi tgt lc st w kb sb Q) (kf : ¬ y < x → J d mi (pc + 3) lc st w kb sb Q) : J d mi pc lc (.int y :: .int x :: st) w kb sb Q := by
  intro p l e R s m args below meth c z sa D dA Z mc ms C h1 h2 h3 h4 h5 H locs cells slots ls hR hS hl h6 h7
  exact lv_icmp_gt C.1.1 C.1.2.1 hd ht (fun q => kt q p l e R s m args below meth c z sa D dA Z mc ms C h1 h2 h3 h4 h5 H locs cells slots ls hR hS hl h6 h7) (fun q => kf q p l e R s m args below meth c z sa D dA Z mc ms C h1 h2 h3 h4 h5 H locs cells slots ls hR hS hl h6 h7)
theorem J_icmp_le {x y : Int32} {off : Int} {tgt : Nat} (hd : decode mi.2.1 pc = .ok (.if_icmp .le off, 3)) (ht : (pc : Int) + off = (tgt : Int)) (kt : x ≤ y → J d mi tgt lc st w kb sb Q) (kf : ¬ x ≤ y → J d mi (pc + 3) lc st w kb sb Q) : J d mi pc lc (.int y :: .int x :: st) w kb sb Q := by
  intro p l e R s m args below meth c z sa D dA Z mc ms C h1 h2 h3 h4 h5 H locs cells slots ls hR hS hl h6 h7
  exact lv_icmp_le C.1.1 C.1.2.1 hd ht (fun q => kt q p l e R s m args below meth c z sa D dA Z mc ms C h1 h2 h3 h4 h5 H locs cells slots ls hR hS hl h6 h7) (fun q => kf q p l e R s m args below meth c z sa D dA Z mc ms C h1 h2 h3 h4 h5 H locs cells slots ls hR hS hl h6 h7)
theorem J_goto {off : Int} {tgt : Nat} (hd : decode mi.2.1 pc = .ok (.goto off, 3)) (ht : (pc : Int) + off = (tgt : Int)) (k : J d mi tgt lc st w kb sb Q) : J d mi pc lc st w kb sb Q := by
  intro p l e R s m args below meth c z sa D dA Z mc ms C h1 h2 h3 h4 h5 H locs cells slots ls hR hS hl h6 h7
  exact lv_goto C.1.1 C.1.2.1 hd ht (k p l e R s m args below meth c z sa D dA Z mc ms C h1 h2 h3 h4 h5 H locs cells slots ls hR hS hl h6 h7)
theorem J_tableIn {dflt lo hi : Int} {offs : Array Int} {len : Nat} {x : Int32} {off : Int} {tgt : Nat} (hd : decode mi.2.1 pc = .ok (.tableswitch dflt lo hi offs, len)) (g1 : ¬ x.toInt < lo) (g2 : ¬ hi < x.toInt) (ho : offs[(x.toInt - lo).toNat]? = some off) (ht : (pc : Int) + off = (tgt : Int)) (k : J d mi tgt lc st w kb sb Q) : J d mi pc lc (.int x :: st) w kb sb Q := by
  intro p l e R s m args below meth c z sa D dA Z mc ms C h1 h2 h3 h4 h5 H locs cells slots ls hR hS hl h6 h7
  exact lv_tableIn C.1.1 C.1.2.1 hd g1 g2 ho ht (k p l e R s m args below meth c z sa D dA Z mc ms C h1 h2 h3 h4 h5 H locs cells slots ls hR hS hl h6 h7)
theorem J_tableOut {dflt lo hi : Int} {offs : Array Int} {len : Nat} {x : Int32} {tgt : Nat} (hd : decode mi.2.1 pc = .ok (.tableswitch dflt lo hi offs, len)) (g : x.toInt < lo ∨ hi < x.toInt) (ht : (pc : Int) + dflt = (tgt : Int)) (k : J d mi tgt lc st w kb sb Q) : J d mi pc lc (.int x :: st) w kb sb Q := by
  intro p l e R s m args below meth c z sa D dA Z mc ms C h1 h2 h3 h4 h5 H locs cells slots ls hR hS hl h6 h7
  exact lv_tableOut C.1.1 C.1.2.1 hd g ht (k p l e R s m args below meth c z sa D dA Z mc ms C h1 h2 h3 h4 h5 H locs cells slots ls hR hS hl h6 h7)
theorem J.widen {kb' sb' : Nat} (h1 : kb' ≤ kb) (h2 : sb' ≤ sb) (k : J d mi pc lc st w kb' sb' Q) : J d mi pc lc st w kb sb Q := by
  intro p l e R s m args below meth c z sa D dA Z mc ms C g1 g2 h3 h4 h5 H locs cells slots ls hR hS hl h6 h7
  exact k p l e R s m args below meth c z sa D dA Z mc ms C g1 g2 h3 h4 h5 H locs cells slots ls hR hS hl (by omega) (by omega)
theorem J_ret {v : Option Value} {i : Instr} (hd : decode mi.2.1 pc = .ok (i, 1)) (hv : retI mi.2.2.2.1 i v) (hq : Q (.inl v) w) : J d mi pc lc v.toList w kb sb Q := by
  intro p l e R s m args below meth c z sa D dA Z mc ms C h1 h2 h3 h4 h5 H locs cells slots ls hR hS hl h6 h7
  exact W.widen (by omega) (by omega) (h1 v w H locs pc ls i hq hR hS hv (by rw [C.1.2.1]; exact hd))
theorem J_return (hd : decode mi.2.1 pc = .ok (.return_, 1)) (hr : mi.2.2.2.1 = none) (hq : Q (.inl none) w) : J d mi pc lc [] w kb sb Q := J_ret (v := none) hd (Or.inl ⟨rfl, rfl, hr⟩) hq
theorem J_ireturn {x : Int32} {ty : FieldType} (hd : decode mi.2.1 pc = .ok (.ireturn, 1)) (hr : mi.2.2.2.1 = some ty) (hn : narrow ty (.int x) = .int x) (hq : Q (.inl (some (.int x))) w) : J d mi pc lc [.int x] w kb sb Q := J_ret (v := some (.int x)) hd (Or.inr (Or.inl ⟨rfl, x, ty, rfl, hr, hn⟩)) hq
theorem J_dreturn {x : UInt64} (hd : decode mi.2.1 pc = .ok (.dreturn, 1)) (hr : mi.2.2.2.1 = some .double) (hq : Q (.inl (some (.double x))) w) : J d mi pc lc [.double x] w kb sb Q := J_ret (v := some (.double x)) hd (Or.inr (Or.inr (Or.inl ⟨rfl, x, rfl, hr⟩))) hq
theorem J_freturn {x : UInt32} (hd : decode mi.2.1 pc = .ok (.freturn, 1)) (hr : mi.2.2.2.1 = some .float) (hq : Q (.inl (some (.float x))) w) : J d mi pc lc [.float x] w kb sb Q := J_ret (v := some (.float x)) hd (Or.inr (Or.inr (Or.inr ⟨rfl, x, rfl, hr⟩))) hq
theorem J_throw {E : String} (ht : ThrI mi pc E) (hk : 1 ≤ kb) (hs : 6 ≤ sb) (hq : Q (.inr E) (stW w)) : J d mi pc lc [] w kb sb Q := by
  intro p l e R s m args below meth c z sa D dA Z mc ms C h1 h2 h3 h4 h5 H locs cells slots ls hR hS hl h6 h7
  exact h3 E w H locs cells slots pc ls hq hR hS hl.1 ht (by omega) (by omega)
theorem JX_out {E : String} (hc : ∀ x ∈ tableOf mi.2.2.2.2, covers x pc = false) (hq : Q (.inr E) w) : JX d mi pc lc w kb sb Q E := by
  intro p l e R s m args below meth c z sa D dA Z mc ms C h1 h2 h3 h4 h5 H locs cells slots ls rest q ce hR hS hl h6 h7 g1 g2 g3
  exact vx_widen (by omega) (by omega) (h2 E w H locs pc ls rest q ce hq hR hS hc g1 g2 g3)
end
end JLOGIC
end
section
/-! fields, arrays, things that are made, calls -/
section JHEAP
variable {d : Nat} {mi : MI} {pc : Nat} {lc : List (Option Value)} {st : List Value} {w : Wd} {kb sb : Nat} {Q : Po}
theorem Cx.hts {d : Nat} {mi : MI} {p : Program} {l : Launch} {R : Room} {s : State} {m : MethodId} {args : Array Value} {meth : Method} {c : Code} {z : Nat} {sa : Nat → Nat} {D : va_G} {dA : Nat → ClassId} (C : Cx d mi p l R s m args meth c z sa D dA) : ∀ w ∈ AL, w.before args s = true := C.1.2.2.2.2
theorem Cx.own {d : Nat} {mi : MI} {p : Program} {l : Launch} {R : Room} {s : State} {m : MethodId} {args : Array Value} {meth : Method} {c : Code} {z : Nat} {sa : Nat → Nat} {D : va_G} {dA : Nat → ClassId} (C : Cx d mi p l R s m args meth c z sa D dA) : s.vm.findClass mi.1.cls = some m.cls := C.1.2.2.2.1
theorem Cx.hK {d : Nat} {mi : MI} {p : Program} {l : Launch} {R : Room} {s : State} {m : MethodId} {args : Array Value} {meth : Method} {c : Code} {z : Nat} {sa : Nat → Nat} {D : va_G} {dA : Nat → ClassId} (C : Cx d mi p l R s m args meth c z sa D dA) : va_K D vwCl (tyL dA) s := C.2.2.2.2.2.2.2.1
theorem Cx.hF {d : Nat} {mi : MI} {p : Program} {l : Launch} {R : Room} {s : State} {m : MethodId} {args : Array Value} {meth : Method} {c : Code} {z : Nat} {sa : Nat → Nat} {D : va_G} {dA : Nat → ClassId} (C : Cx d mi p l R s m args meth c z sa D dA) : SF sa (Az z) s s.heap := C.2.2.2.2.2.2.2.2.1
theorem Cx.hz {d : Nat} {mi : MI} {p : Program} {l : Launch} {R : Room} {s : State} {m : MethodId} {args : Array Value} {meth : Method} {c : Code} {z : Nat} {sa : Nat → Nat} {D : va_G} {dA : Nat → ClassId} (C : Cx d mi p l R s m args meth c z sa D dA) : z ≤ s.heap.size := C.2.2.2.2.2.2.2.2.2
theorem Cx.room {d : Nat} {mi : MI} {p : Program} {l : Launch} {R : Room} {s : State} {m : MethodId} {args : Array Value} {meth : Method} {c : Code} {z : Nat} {sa : Nat → Nat} {D : va_G} {dA : Nat → ClassId} (C : Cx d mi p l R s m args meth c z sa D dA) : d ≤ R.frames ∧ 64 * d ≤ R.locals := C.2.2.2.2.2.2.1
/-- the field k of the objects ci, of the type ty, as the entry idx of the class own names it -/
def FL (own : String) (idx ci k : Nat) (ty : FieldType) (fin : Nat) : Prop :=
  ∃ (C : String) (T : u_T) (N : Nat) (tys : Nat → FieldType), vwCl[ci]? = some (C, T, N) ∧ k < N ∧ (∀ w ∈ u_ws C T N, w ∈ AL) ∧ (∀ j, j < N → parseFieldDescriptor (T j).2.2.1 = some (tys j)) ∧ (∀ a, a < N → ∀ b, b < N → a ≠ b → (T a).2.1 ≠ (T b).2.1) ∧
    Cond.fieldLink own idx (T k).1 (T k).2.1 (T k).2.2.1 ∈ AL ∧ tys k = ty ∧ ((fin = 0 ∧ (T k).2.2.2 = false) ∨ (fin = 1 ∧ (T k).2.2.2 = true ∧ (T k).1 = own) ∨ fin = 2)
theorem FL.ne_dead {own : String} {idx ci k : Nat} {ty : FieldType} {fin : Nat} (h : FL own idx ci k ty fin) (fs : List Value) : (Sum.inr (ci, fs) : Ce) ≠ dead := by
  obtain ⟨C, T, N, tys, hc, -⟩ := h
  intro e
  unfold dead at e
  injection e with e
  injection e with e1 e2
  subst e1
  rw [show vwCl[9999]? = none from rfl] at hc
  cases hc
theorem J_getfield {idx ci k : Nat} {ty : FieldType} {fin : Nat} {a : Nat} {fs : List Value} {v : Value} (hd : decode mi.2.1 pc = .ok (.getfield idx, 3)) (hL : FL mi.1.cls idx ci k ty fin) (ha : w.1 a = .inr (ci, fs)) (hv : fs[k]? = some v) (kk : J d mi (pc + 3) lc (v :: st) w kb sb Q) : J d mi pc lc (.ref a :: st) w kb sb Q := by
  intro p l e R s m args below meth c z sa D dA Z mc ms C h1 h2 h3 h4 h5 H locs cells slots ls hR hS hl h6 h7
  obtain ⟨g1, g2, g3⟩ := hR.at ha (hL.ne_dead fs)
  obtain ⟨CC, T, N, tys, hc, hk, hws, -, -, hlk, -, -⟩ := hL
  exact va_get (D := D) (cl := vwCl) (tys := tyL dA) (ws := [(adr sa z a, tr sa z dA (.inr (ci, fs)))]) C.1.1 C.1.2.1 C.hts hws C.own C.hK (fun k q hq => by
    cases k with
    | zero => cases hq; exact g3
    | succ k => cases hq) 0 rfl hc k hk (C.hts _ hlk) (fun _ h => h) (v := mv sa z v) (by simp [hv]) hd (kk p l e R s m args below meth c z sa D dA Z mc ms C h1 h2 h3 h4 h5 H locs cells slots ls hR hS hl h6 h7)
theorem mv_defv {sa : Nat → Nat} {z : Nat} (ty : FieldType) : mv sa z (defaultValue ty) = defaultValue ty := by cases ty <;> rfl
theorem J_putG {idx ci k : Nat} {ty : FieldType} {fin : Nat} {a : Nat} {fs : List Value} {v : Value} (hd : decode mi.2.1 pc = .ok (.putfield idx, 3)) (hL : FL mi.1.cls idx ci k ty fin) (hini : fin = 0 ∨ (fin = 1 ∧ mi.1.name = "<init>")) (ha : w.1 a = .inr (ci, fs)) (hlen : k < fs.length) (hn : ∀ sa z, narrow ty (mv sa z v) = mv sa z v) (hfit : ∀ sa z, fits ty (mv sa z v) = true) (kk : J d mi (pc + 3) lc st (upW w a (.inr (ci, fs.set k v))) kb sb Q) : J d mi pc lc (v :: .ref a :: st) w kb sb Q := by
  intro p l e R s m args below meth c z sa D dA Z mc ms C h1 h2 h3 h4 h5 H locs cells slots ls hR hS hl h6 h7
  have hnd := hL.ne_dead fs
  obtain ⟨g1, g2, g3⟩ := hR.at ha hnd
  obtain ⟨CC, T, N, tys, hc, hk, hws, htys, hnm, hlk, hty, hfin⟩ := hL
  have hap := va_apart (own := mi.1.cls) C.hts hws tys htys hnm C.hK hc
  obtain ⟨r, q0, cell, q1, q2, q3, q4⟩ := g3
  have hr : r = (CC, T, N) := Option.some.inj (q0.symm.trans hc)
  subst hr
  obtain ⟨hSl, hfc, kC, hkC, hkind⟩ := C.hK.1 ci _ hc
  obtain ⟨cf, kf, fi, f, hi, hsl⟩ := hSl k hk
  have hlays := u_lays C.hts hws hk
  obtain ⟨hst, hcast, hity⟩ := u_facts hfc hkC hlays hi
  obtain ⟨n1, n2⟩ := u_fits (v := mv sa z v) hfc hkC hkind hlays hi (htys k hk) (by rw [hty]; exact hn sa z) (by rw [hty]; exact hfit sa z)
  have hfl : hasFlag f.accessFlags Acc.final = false ∨ (m.cls = cf ∧ meth.name = "<init>") := by
    have hcase : (T k).2.2.2 = false ∨ ((T k).2.2.2 = true ∧ (T k).1 = mi.1.cls ∧ mi.1.name = "<init>") := by
      rcases hfin with ⟨-, h⟩ | ⟨e1, h, h'⟩ | e2
      · exact Or.inl h
      · rcases hini with e3 | ⟨-, e3⟩
        · omega
        · exact Or.inr ⟨h, h', e3⟩
      · rcases hini with e3 | ⟨e3, -⟩ <;> omega
    rcases hcase with hfb | ⟨hfb, hdec, hin2⟩
    · refine Or.inl ?_
      have hlay := C.hts _ (hws _ (u_in_lay hk))
      unfold u_lay at hlay
      rw [if_neg (by rw [hfb]; decide)] at hlay
      exact (u_store (v := mv sa z v) hfc hkC hkind hlay hi (htys k hk) (by rw [hty]; exact hn sa z) (by rw [hty]; exact hfit sa z)).1
    · refine Or.inr ⟨?_, by rw [C.2.2.2.1]; exact hin2⟩
      have hlay := C.hts _ (hws _ (u_in_lay hk))
      unfold u_lay at hlay
      rw [if_pos hfb] at hlay
      obtain ⟨_, _, c', _, _, _, -, -, hf', -, -, -, hown2, -⟩ := Cond.laysFinal_spec hlay
      have e1 : c' = cf := by have := hi.symm.trans hf'; simp at this; exact this.1.symm
      rw [hdec] at hown2
      rw [← e1]
      exact Option.some.inj (C.own.symm.trans hown2)
  have hlt : f.slot < cell.slots.size := by
    rw [hsl]
    exact k2_hasslot (q4 k hk)
  refine W.of (H' := H.setIfInBounds (adr sa z a) (cell.setSlot f.slot (mv sa z v))) (locs' := locs ++ [⟨adr sa z a, f.slot⟩]) (cells' := cells) (slots' := slots) (g2 := F0 m (pc + 3) ls (st.map (mv sa z))) (fun T0 hT X => ?_) ?_
  · subst hT
    obtain ⟨vm', X', stp⟩ := X.putfield C.1.1 C.own (C.hts _ hlk) hi hst hfl q1 (by rw [q3]; exact fun h => by cases h) hlt n1 (by rw [q2, q3]; exact n2) (g := F0 m pc ls ((v :: .ref a :: st).map (mv sa z))) rfl rfl (by rw [C.1.2.1]; exact hd)
    exact ⟨_, rfl, X', stp⟩
  · have ha' : adr sa z a < H.size := (Array.getElem?_eq_some_iff.mp q1).1
    have o1 : ∀ q : Nat, q ≠ adr sa z a → (H.setIfInBounds (adr sa z a) (cell.setSlot f.slot (mv sa z v)))[q]? = H[q]? := fun q hq => by simp [Array.getElem?_setIfInBounds, Ne.symm hq]
    have e1 : (H.setIfInBounds (adr sa z a) (cell.setSlot f.slot (mv sa z v)))[adr sa z a]? = some (cell.setSlot f.slot (mv sa z v)) := by simp [Array.getElem?_setIfInBounds, ha']
    refine kk p l e R s m args below meth c z sa D dA Z mc ms C h1 h2 h3 h4 h5 _ _ cells slots ls (hR.set ha hnd (by simp) o1 ?_) (hS.put (by simp) o1 (by show z ≤ _; rw [adr_ge g1]; omega)) hl h6 h7
    show va_at D vwCl (_, .inr (ci, (fs.set k v).map (mv sa z))) _
    refine ⟨_, hc, ?_⟩
    rw [List.map_set]
    rw [hsl] at e1 ⊢
    exact t_OB.to (V := updV (vp_V (fs.map (mv sa z))) k (mv sa z v)) ⟨_, e1, q2, q3, t_set q4 hap hk _⟩ (fun j _ => vp_updV_set (by rw [List.length_map]; exact hlen) _ j)
theorem inl_nd (x : Nat × vp_A) : (Sum.inl x : Ce) ≠ dead := by
  unfold dead
  exact fun e => by cases e
def ov : Option Nat → Value
  | none => .null
  | some r => .ref r
theorem ov_mv (sa : Nat → Nat) (z : Nat) (o : Option Nat) : va_rf (o.map (adr sa z)) = mv sa z (ov o) := by cases o <;> rfl
theorem one_P {D : va_G} {q : Nat × va_E} {H : Heap} (h : va_at D vwCl q H) : va_P D vwCl [q] H := fun k x hx => by
  cases k with
  | zero => cases hx; exact h
  | succ k => cases hx
theorem J_iaload {a n : Nat} {f : Nat → Int32} {i : Int32} (hd : decode mi.2.1 pc = .ok (.iaload, 1)) (ha : w.1 a = .inl (0, n, .inl f)) (hi : vp_in i n) (kk : J d mi (pc + 1) lc (.int (f i.toNatClampNeg) :: st) w kb sb Q) : J d mi pc lc (.int i :: .ref a :: st) w kb sb Q := by
  intro p l e R s m args below meth c z sa D dA Z mc ms C h1 h2 h3 h4 h5 H locs cells slots ls hR hS hl h6 h7
  obtain ⟨g1, g2, g3⟩ := hR.at ha (inl_nd _)
  exact va_iald (tys := tyL dA) C.1.1 C.1.2.1 C.hK (one_P g3) 0 0 (cA := dA 0) (n := n) (f := f) rfl rfl hi hd (kk p l e R s m args below meth c z sa D dA Z mc ms C h1 h2 h3 h4 h5 H locs cells slots ls hR hS hl h6 h7)
theorem J_caload {a n : Nat} {f : Nat → Int32} {i : Int32} (hd : decode mi.2.1 pc = .ok (.caload, 1)) (ha : w.1 a = .inl (1, n, .inl f)) (hi : vp_in i n) (kk : J d mi (pc + 1) lc (.int (f i.toNatClampNeg) :: st) w kb sb Q) : J d mi pc lc (.int i :: .ref a :: st) w kb sb Q := by
  intro p l e R s m args below meth c z sa D dA Z mc ms C h1 h2 h3 h4 h5 H locs cells slots ls hR hS hl h6 h7
  obtain ⟨g1, g2, g3⟩ := hR.at ha (inl_nd _)
  exact va_cald (tys := tyL dA) C.1.1 C.1.2.1 C.hK (one_P g3) 0 1 (cA := dA 1) (n := n) (f := f) rfl rfl hi hd (kk p l e R s m args below meth c z sa D dA Z mc ms C h1 h2 h3 h4 h5 H locs cells slots ls hR hS hl h6 h7)
theorem J_laload {a n : Nat} {f : Nat → Int64} {i : Int32} (hd : decode mi.2.1 pc = .ok (.laload, 1)) (ha : w.1 a = .inl (2, n, .inr (.inl f))) (hi : vp_in i n) (kk : J d mi (pc + 1) lc (.long (f i.toNatClampNeg) :: st) w kb sb Q) : J d mi pc lc (.int i :: .ref a :: st) w kb sb Q := by
  intro p l e R s m args below meth c z sa D dA Z mc ms C h1 h2 h3 h4 h5 H locs cells slots ls hR hS hl h6 h7
  obtain ⟨g1, g2, g3⟩ := hR.at ha (inl_nd _)
  exact va_lald (tys := tyL dA) C.1.1 C.1.2.1 C.hK (one_P g3) 0 2 (cA := dA 2) (n := n) (f := f) rfl rfl hi hd (kk p l e R s m args below meth c z sa D dA Z mc ms C h1 h2 h3 h4 h5 H locs cells slots ls hR hS hl h6 h7)
theorem J_daload {a n : Nat} {f : Nat → UInt64} {i : Int32} (hd : decode mi.2.1 pc = .ok (.daload, 1)) (ha : w.1 a = .inl (3, n, .inr (.inr (.inr (.inl f))))) (hi : vp_in i n) (kk : J d mi (pc + 1) lc (.double (f i.toNatClampNeg) :: st) w kb sb Q) : J d mi pc lc (.int i :: .ref a :: st) w kb sb Q := by
  intro p l e R s m args below meth c z sa D dA Z mc ms C h1 h2 h3 h4 h5 H locs cells slots ls hR hS hl h6 h7
  obtain ⟨g1, g2, g3⟩ := hR.at ha (inl_nd _)
  exact va_dald (tys := tyL dA) C.1.1 C.1.2.1 C.hK (one_P g3) 0 3 (cA := dA 3) (n := n) (f := f) rfl rfl hi hd (kk p l e R s m args below meth c z sa D dA Z mc ms C h1 h2 h3 h4 h5 H locs cells slots ls hR hS hl h6 h7)
theorem J_aaload {a n : Nat} {f : Nat → Option Nat} {i : Int32} (hd : decode mi.2.1 pc = .ok (.aaload, 1)) (ha : w.1 a = .inl (4, n, .inr (.inr (.inr (.inr f))))) (hi : vp_in i n) (kk : J d mi (pc + 1) lc (ov (f i.toNatClampNeg) :: st) w kb sb Q) : J d mi pc lc (.int i :: .ref a :: st) w kb sb Q := by
  intro p l e R s m args below meth c z sa D dA Z mc ms C h1 h2 h3 h4 h5 H locs cells slots ls hR hS hl h6 h7
  obtain ⟨g1, g2, g3⟩ := hR.at ha (inl_nd _)
  refine va_aldq (tys := tyL dA) C.1.1 C.1.2.1 C.hK (one_P g3) 0 4 (cA := dA 4) (C := RX4) (n := n) (f := fun j => (f j).map (adr sa z)) rfl rfl hi hd ?_
  have h := kk p l e R s m args below meth c z sa D dA Z mc ms C h1 h2 h3 h4 h5 H locs cells slots ls hR hS hl h6 h7
  rw [List.map_cons, ← ov_mv] at h
  exact h
theorem J_alen {a t n : Nat} {x : (Nat → Int32) ⊕ (Nat → Int64) ⊕ (Nat → UInt32) ⊕ (Nat → UInt64) ⊕ (Nat → Option Nat)} {v : Int32} (hd : decode mi.2.1 pc = .ok (.arraylength, 1)) (ha : w.1 a = .inl (t, n, x)) (ht : t < 5) (hv : Int32.ofNat n = v) (kk : J d mi (pc + 1) lc (.int v :: st) w kb sb Q) : J d mi pc lc (.ref a :: st) w kb sb Q := by
  intro p l e R s m args below meth c z sa D dA Z mc ms C h1 h2 h3 h4 h5 H locs cells slots ls hR hS hl h6 h7
  obtain ⟨g1, g2, g3⟩ := hR.at ha (inl_nd _)
  obtain ⟨ty, hty⟩ : ∃ ty, (tyL dA)[t]? = some (dA t, ty) := by
    match t, ht with
    | 0, _ => exact ⟨_, rfl⟩
    | 1, _ => exact ⟨_, rfl⟩
    | 2, _ => exact ⟨_, rfl⟩
    | 3, _ => exact ⟨_, rfl⟩
    | 4, _ => exact ⟨_, rfl⟩
  refine va_alen (tys := tyL dA) C.1.1 C.1.2.1 C.hK (one_P g3) 0 t (cA := dA t) (x := trA sa z (n, x)) rfl hty ?_ hd (kk p l e R s m args below meth c z sa D dA Z mc ms C h1 h2 h3 h4 h5 H locs cells slots ls hR hS hl h6 h7)
  rw [← hv]
  rcases x with f | f | f | f | f <;> rfl
theorem J_iastore {a n : Nat} {f : Nat → Int32} {i : Int32} {x : Int32} (hd : decode mi.2.1 pc = .ok (.iastore, 1)) (ha : w.1 a = .inl (0, n, .inl f)) (hi : vp_in i n) (kk : J d mi (pc + 1) lc st (upW w a (.inl (0, n, .inl (upd f i.toNatClampNeg x)))) kb sb Q) : J d mi pc lc (.int x :: .int i :: .ref a :: st) w kb sb Q := by
  intro p l e R s m args below meth c z sa D dA Z mc ms C h1 h2 h3 h4 h5 H locs cells slots ls hR hS hl h6 h7
  obtain ⟨g1, g2, g3⟩ := hR.at ha (inl_nd _)
  have g4 : H[adr sa z a]? = some (vp_cell (dA 0) (n, .inl f)) := g3
  refine W.iast C.1.1 C.1.2.1 g4 ((C.hK.2 0 _ rfl).1 n (fun j => .int (f j))) (fun q => by cases q) (by show ¬ (i < 0 ∨ (arrV _ _ _).slots.size ≤ _); rw [arrV_size]; exact hi) rfl rfl hd fun H1 e1 zq oq => ?_
  refine kk p l e R s m args below meth c z sa D dA Z mc ms C h1 h2 h3 h4 h5 H1 _ cells slots ls (hR.set ha (inl_nd _) zq oq ?_) (hS.put zq oq (by show z ≤ _; rw [adr_ge g1]; omega)) hl h6 h7
  show H1[adr sa z a]? = some (vp_cell (dA 0) (n, .inl (upd f i.toNatClampNeg x)))
  rw [e1]
  rw [vp_cell_i, vp_cell_i, arrV_store]
  congr 2
  funext q
  by_cases hq : q = i.toNatClampNeg
  · subst hq
    simp [updV, upd, vp_nar]
    try rfl
  · simp [updV, upd, hq]
theorem J_castore {a n : Nat} {f : Nat → Int32} {i : Int32} {x : Int32} (hd : decode mi.2.1 pc = .ok (.castore, 1)) (ha : w.1 a = .inl (1, n, .inl f)) (hi : vp_in i n) (kk : J d mi (pc + 1) lc st (upW w a (.inl (1, n, .inl (upd f i.toNatClampNeg (vp_nar .char x))))) kb sb Q) : J d mi pc lc (.int x :: .int i :: .ref a :: st) w kb sb Q := by
  intro p l e R s m args below meth c z sa D dA Z mc ms C h1 h2 h3 h4 h5 H locs cells slots ls hR hS hl h6 h7
  obtain ⟨g1, g2, g3⟩ := hR.at ha (inl_nd _)
  have g4 : H[adr sa z a]? = some (vp_cell (dA 1) (n, .inl f)) := g3
  refine W.cast C.1.1 C.1.2.1 g4 ((C.hK.2 1 _ rfl).1 n (fun j => .int (f j))) (fun q => by cases q) (by show ¬ (i < 0 ∨ (arrV _ _ _).slots.size ≤ _); rw [arrV_size]; exact hi) rfl rfl hd fun H1 e1 zq oq => ?_
  refine kk p l e R s m args below meth c z sa D dA Z mc ms C h1 h2 h3 h4 h5 H1 _ cells slots ls (hR.set ha (inl_nd _) zq oq ?_) (hS.put zq oq (by show z ≤ _; rw [adr_ge g1]; omega)) hl h6 h7
  show H1[adr sa z a]? = some (vp_cell (dA 1) (n, .inl (upd f i.toNatClampNeg (vp_nar .char x))))
  rw [e1]
  rw [vp_cell_i, vp_cell_i, arrV_store]
  congr 2
  funext q
  by_cases hq : q = i.toNatClampNeg
  · subst hq
    simp [updV, upd, vp_nar]
    try rfl
  · simp [updV, upd, hq]
theorem J_lastore {a n : Nat} {f : Nat → Int64} {i : Int32} {x : Int64} (hd : decode mi.2.1 pc = .ok (.lastore, 1)) (ha : w.1 a = .inl (2, n, .inr (.inl f))) (hi : vp_in i n) (kk : J d mi (pc + 1) lc st (upW w a (.inl (2, n, .inr (.inl (vp_updL f i.toNatClampNeg x))))) kb sb Q) : J d mi pc lc (.long x :: .int i :: .ref a :: st) w kb sb Q := by
  intro p l e R s m args below meth c z sa D dA Z mc ms C h1 h2 h3 h4 h5 H locs cells slots ls hR hS hl h6 h7
  obtain ⟨g1, g2, g3⟩ := hR.at ha (inl_nd _)
  have g4 : H[adr sa z a]? = some (vp_cell (dA 2) (n, .inr (.inl f))) := g3
  refine W.last C.1.1 C.1.2.1 g4 ((C.hK.2 2 _ rfl).1 n (fun j => .long (f j))) (fun q => by cases q) (by show ¬ (i < 0 ∨ (arrV _ _ _).slots.size ≤ _); rw [arrV_size]; exact hi) rfl rfl hd fun H1 e1 zq oq => ?_
  refine kk p l e R s m args below meth c z sa D dA Z mc ms C h1 h2 h3 h4 h5 H1 _ cells slots ls (hR.set ha (inl_nd _) zq oq ?_) (hS.put zq oq (by show z ≤ _; rw [adr_ge g1]; omega)) hl h6 h7
  show H1[adr sa z a]? = some (vp_cell (dA 2) (n, .inr (.inl (vp_updL f i.toNatClampNeg x))))
  rw [e1]
  rw [vp_cell_l, vp_cell_l, arrV_store]
  congr 2
  funext q
  by_cases hq : q = i.toNatClampNeg
  · subst hq
    simp [updV, vp_updL, vp_nar]
    try rfl
  · simp [updV, vp_updL, hq]
theorem J_dastore {a n : Nat} {f : Nat → UInt64} {i : Int32} {x : UInt64} (hd : decode mi.2.1 pc = .ok (.dastore, 1)) (ha : w.1 a = .inl (3, n, .inr (.inr (.inr (.inl f))))) (hi : vp_in i n) (kk : J d mi (pc + 1) lc st (upW w a (.inl (3, n, .inr (.inr (.inr (.inl (vf_upd f i.toNatClampNeg x))))))) kb sb Q) : J d mi pc lc (.double x :: .int i :: .ref a :: st) w kb sb Q := by
  intro p l e R s m args below meth c z sa D dA Z mc ms C h1 h2 h3 h4 h5 H locs cells slots ls hR hS hl h6 h7
  obtain ⟨g1, g2, g3⟩ := hR.at ha (inl_nd _)
  have g4 : H[adr sa z a]? = some (vp_cell (dA 3) (n, .inr (.inr (.inr (.inl f))))) := g3
  refine W.dast C.1.1 C.1.2.1 g4 ((C.hK.2 3 _ rfl).1 n (fun j => .double (f j))) (fun q => by cases q) (by show ¬ (i < 0 ∨ (arrV _ _ _).slots.size ≤ _); rw [arrV_size]; exact hi) rfl rfl hd fun H1 e1 zq oq => ?_
  refine kk p l e R s m args below meth c z sa D dA Z mc ms C h1 h2 h3 h4 h5 H1 _ cells slots ls (hR.set ha (inl_nd _) zq oq ?_) (hS.put zq oq (by show z ≤ _; rw [adr_ge g1]; omega)) hl h6 h7
  show H1[adr sa z a]? = some (vp_cell (dA 3) (n, .inr (.inr (.inr (.inl (vf_upd f i.toNatClampNeg x))))))
  rw [e1]
  rw [vp_cell_d, vp_cell_d, arrV_store]
  congr 2
  funext q
  by_cases hq : q = i.toNatClampNeg
  · subst hq
    simp [updV, vf_upd, vp_nar]
    try rfl
  · simp [updV, vf_upd, hq]
theorem J_aastore {a b n ci : Nat} {f : Nat → Option Nat} {fs : List Value} {i : Int32} (hd : decode mi.2.1 pc = .ok (.aastore, 1)) (ha : w.1 a = .inl (4, n, .inr (.inr (.inr (.inr f))))) (hb : w.1 b = .inr (ci, fs)) (hci : ci = 4) (hi : vp_in i n) (kk : J d mi (pc + 1) lc st (upW w a (.inl (4, n, .inr (.inr (.inr (.inr (va_up f i.toNatClampNeg (some b)))))))) kb sb Q) : J d mi pc lc (.ref b :: .int i :: .ref a :: st) w kb sb Q := by
  intro p l e R s m args below meth c z sa D dA Z mc ms C h1 h2 h3 h4 h5 H locs cells slots ls hR hS hl h6 h7
  subst hci
  obtain ⟨g1, g2, g3⟩ := hR.at ha (inl_nd _)
  obtain ⟨f1, f2, f3⟩ := hR.at hb (by unfold dead; exact fun e => by cases e)
  have g4 : H[adr sa z a]? = some (vp_cell (dA 4) (n, .inr (.inr (.inr (.inr fun j => (f j).map (adr sa z)))))) := g3
  have hlt : i.toNatClampNeg < n := Nat.not_le.mp fun q => hi (Or.inr q)
  have h0 : ¬ i < 0 := fun q => hi (Or.inl q)
  obtain ⟨r', hr', cellV, k1, k2, k3, -⟩ := f3
  have hcl : vwCl[4]? = some (RX4, TX4, 15) := rfl
  have hcls := (C.hK.1 4 _ hcl).2
  obtain ⟨kA, comp, m1, m2, m3, -⟩ := (C.hK.2 4 _ rfl).2
  have hcomp : comp = D.1 4 := Option.some.inj (m3.symm.trans hcls.1)
  subst hcomp
  obtain ⟨kC, hkC, -⟩ := hcls.2
  refine W.aast C.1.1 C.1.2.1 g4 (fun q h => by cases h) (fun h => by cases h) m1 m2 rfl hkC ⟨h0, by show _ < (arrV _ _ _).slots.size; rw [arrV_size]; exact hlt⟩ k1 (fun q h => by rw [k3] at h; cases h) (by rw [k2]; exact hkC) (by rw [k2]; exact va_assign hcls) rfl rfl hd fun H1 e1 zq oq => ?_
  refine kk p l e R s m args below meth c z sa D dA Z mc ms C h1 h2 h3 h4 h5 H1 _ cells slots ls (hR.set ha (inl_nd _) zq oq ?_) (hS.put zq oq (by show z ≤ _; rw [adr_ge g1]; omega)) hl h6 h7
  show H1[adr sa z a]? = some (vp_cell (dA 4) (n, .inr (.inr (.inr (.inr fun j => (va_up f i.toNatClampNeg (some b) j).map (adr sa z))))))
  rw [e1]
  rw [vp_cell_q, vp_cell_q, arrV_store]
  congr 2
  funext q
  by_cases hq : q = i.toNatClampNeg
  · subst hq
    simp [updV, va_up, va_rf]
  · simp [updV, va_up, hq]
/-- the objects ci can be made: their class by the entry idx, their fields' defaults -/
def NL (own : String) (idx ci N : Nat) (fs : List Value) : Prop :=
  ∃ (C : String) (T : u_T) (tys : Nat → FieldType), vwCl[ci]? = some (C, T, N) ∧ (∀ w ∈ u_ws C T N, w ∈ AL) ∧ (∀ j, j < N → parseFieldDescriptor (T j).2.2.1 = some (tys j)) ∧ Cond.classLink own idx C ∈ AL ∧ Cond.instantiable C N ∈ AL ∧ Cond.initialized C ∈ AL ∧ fs = (List.range N).map (fun j => defaultValue (tys j))
theorem J_new {idx ci N : Nat} {fs : List Value} (hd : decode mi.2.1 pc = .ok (.new idx, 3)) (hL : NL mi.1.cls idx ci N fs) (hf : w.2.2 = true) (kk : J d mi (pc + 3) lc (.ref (100 + w.2.1) :: st) (nwW w (.inr (ci, fs))) kb sb Q) : J d mi pc lc st w (kb + 1) (sb + N) Q := by
  intro p l e R s m args below meth c z sa D dA Z mc ms C h1 h2 h3 h4 h5 H locs cells slots ls hR hS hl h6 h7
  obtain ⟨CC, T, tys, hc, hws, htys, w1, w2, w3, hfs⟩ := hL
  have hKn := C.hK.1 ci _ hc
  refine W.newcK C.1.1 C.1.2.1 C.own (C.hts _ w1) (C.hts _ w2) (C.hts _ w3) rfl hd (by omega) (by omega) hKn.2.1 rfl fun H1 kC hkC e1 z1 o1 => ?_
  have hadr : adr sa z (100 + w.2.1) = H.size := by rw [adr_ge (by omega), hR.1 hf]; omega
  have hs : va_S (Az z) s.heap H1 locs := ⟨Nat.le_trans hS.1 (by omega), fun x a1 a2 => (o1 x (Nat.lt_of_lt_of_le a1 hS.1)).trans (hS.2.1 x a1 a2), hS.2.2⟩
  have hmap : fs.map (mv sa z) = fs := by
    rw [hfs, List.map_map]
    exact List.map_congr_left fun j _ => mv_defv _
  have k := kk p l e R s m args below meth c z sa D dA Z mc ms C h1 h2 h3 h4 h5 H1 locs (cells + 1) (slots + N) ls (hR.new hf z1 o1 (x := .inr (ci, fs)) ⟨_, hc, (u_born tys C.hts hws hKn hkC e1 htys).to (fun j hj => ?_)⟩) hs hl (by omega) (by omega)
  · show W p l e R s m args below meth c H1 locs (cells + 1) (slots + N) Z (F0 m (pc + 3) ls (.ref H.size :: st.map (mv sa z)))
    rw [← hadr]
    exact k
  · show _ = vp_V (fs.map (mv sa z)) j
    rw [hmap, hfs]
    simp [vp_V, List.getD_eq_getElem?_getD, hj]
theorem J_newa_int {x : Int32} {N : Nat} (hd : decode mi.2.1 pc = .ok (.newarray .int, 2)) (hw : Cond.arrayClass (newarray.typeOf .int) ∈ AL) (hx : ¬ x < 0) (hN : x.toNatClampNeg = N) (hB : N * 8 ≤ 536870912) (hf : w.2.2 = true) (kk : J d mi (pc + 2) lc (.ref (100 + w.2.1) :: st) (nwW w (.inl (0, N, .inl fun _ => 0))) kb sb Q) : J d mi pc lc (.int x :: st) w (kb + 1) (sb + N) Q := by
  intro p l e R s m args below meth c z sa D dA Z mc ms C h1 h2 h3 h4 h5 H locs cells slots ls hR hS hl h6 h7
  refine va_newaK (atype := .int) C.1.1 C.1.2.1 (C.hts _ hw) rfl hd rfl hx hN (by show N * 4 ≤ _; omega) (by omega) (by omega) rfl fun H1 cA e1 z1 o1 hA hcA => ?_
  have hcA' : cA = dA 0 := Option.some.inj (hcA.symm.trans (C.hK.2 0 _ rfl).2)
  subst hcA'
  have hadr : adr sa z (100 + w.2.1) = H.size := by rw [adr_ge (by omega), hR.1 hf]; omega
  have hs : va_S (Az z) s.heap H1 locs := ⟨Nat.le_trans hS.1 (by omega), fun x a1 a2 => (o1 x (Nat.lt_of_lt_of_le a1 hS.1)).trans (hS.2.1 x a1 a2), hS.2.2⟩
  have k := kk p l e R s m args below meth c z sa D dA Z mc ms C h1 h2 h3 h4 h5 H1 locs (cells + 1) (slots + N) ls (hR.new hf z1 o1 (x := .inl (0, N, .inl fun _ => 0)) e1) hs hl (by omega) (by omega)
  show W p l e R s m args below meth c H1 locs (cells + 1) (slots + N) Z (F0 m (pc + 2) ls (.ref H.size :: st.map (mv sa z)))
  rw [← hadr]
  exact k
theorem J_newa_char {x : Int32} {N : Nat} (hd : decode mi.2.1 pc = .ok (.newarray .char, 2)) (hw : Cond.arrayClass (newarray.typeOf .char) ∈ AL) (hx : ¬ x < 0) (hN : x.toNatClampNeg = N) (hB : N * 8 ≤ 536870912) (hf : w.2.2 = true) (kk : J d mi (pc + 2) lc (.ref (100 + w.2.1) :: st) (nwW w (.inl (1, N, .inl fun _ => 0))) kb sb Q) : J d mi pc lc (.int x :: st) w (kb + 1) (sb + N) Q := by
  intro p l e R s m args below meth c z sa D dA Z mc ms C h1 h2 h3 h4 h5 H locs cells slots ls hR hS hl h6 h7
  refine va_newaK (atype := .char) C.1.1 C.1.2.1 (C.hts _ hw) rfl hd rfl hx hN (by show N * 2 ≤ _; omega) (by omega) (by omega) rfl fun H1 cA e1 z1 o1 hA hcA => ?_
  have hcA' : cA = dA 1 := Option.some.inj (hcA.symm.trans (C.hK.2 1 _ rfl).2)
  subst hcA'
  have hadr : adr sa z (100 + w.2.1) = H.size := by rw [adr_ge (by omega), hR.1 hf]; omega
  have hs : va_S (Az z) s.heap H1 locs := ⟨Nat.le_trans hS.1 (by omega), fun x a1 a2 => (o1 x (Nat.lt_of_lt_of_le a1 hS.1)).trans (hS.2.1 x a1 a2), hS.2.2⟩
  have k := kk p l e R s m args below meth c z sa D dA Z mc ms C h1 h2 h3 h4 h5 H1 locs (cells + 1) (slots + N) ls (hR.new hf z1 o1 (x := .inl (1, N, .inl fun _ => 0)) e1) hs hl (by omega) (by omega)
  show W p l e R s m args below meth c H1 locs (cells + 1) (slots + N) Z (F0 m (pc + 2) ls (.ref H.size :: st.map (mv sa z)))
  rw [← hadr]
  exact k
theorem J_newa_long {x : Int32} {N : Nat} (hd : decode mi.2.1 pc = .ok (.newarray .long, 2)) (hw : Cond.arrayClass (newarray.typeOf .long) ∈ AL) (hx : ¬ x < 0) (hN : x.toNatClampNeg = N) (hB : N * 8 ≤ 536870912) (hf : w.2.2 = true) (kk : J d mi (pc + 2) lc (.ref (100 + w.2.1) :: st) (nwW w (.inl (2, N, .inr (.inl fun _ => 0)))) kb sb Q) : J d mi pc lc (.int x :: st) w (kb + 1) (sb + N) Q := by
  intro p l e R s m args below meth c z sa D dA Z mc ms C h1 h2 h3 h4 h5 H locs cells slots ls hR hS hl h6 h7
  refine va_newaK (atype := .long) C.1.1 C.1.2.1 (C.hts _ hw) rfl hd rfl hx hN (by show N * 8 ≤ _; omega) (by omega) (by omega) rfl fun H1 cA e1 z1 o1 hA hcA => ?_
  have hcA' : cA = dA 2 := Option.some.inj (hcA.symm.trans (C.hK.2 2 _ rfl).2)
  subst hcA'
  have hadr : adr sa z (100 + w.2.1) = H.size := by rw [adr_ge (by omega), hR.1 hf]; omega
  have hs : va_S (Az z) s.heap H1 locs := ⟨Nat.le_trans hS.1 (by omega), fun x a1 a2 => (o1 x (Nat.lt_of_lt_of_le a1 hS.1)).trans (hS.2.1 x a1 a2), hS.2.2⟩
  have k := kk p l e R s m args below meth c z sa D dA Z mc ms C h1 h2 h3 h4 h5 H1 locs (cells + 1) (slots + N) ls (hR.new hf z1 o1 (x := .inl (2, N, .inr (.inl fun _ => 0))) e1) hs hl (by omega) (by omega)
  show W p l e R s m args below meth c H1 locs (cells + 1) (slots + N) Z (F0 m (pc + 2) ls (.ref H.size :: st.map (mv sa z)))
  rw [← hadr]
  exact k
theorem J_newa_double {x : Int32} {N : Nat} (hd : decode mi.2.1 pc = .ok (.newarray .double, 2)) (hw : Cond.arrayClass (newarray.typeOf .double) ∈ AL) (hx : ¬ x < 0) (hN : x.toNatClampNeg = N) (hB : N * 8 ≤ 536870912) (hf : w.2.2 = true) (kk : J d mi (pc + 2) lc (.ref (100 + w.2.1) :: st) (nwW w (.inl (3, N, .inr (.inr (.inr (.inl fun _ => 0)))))) kb sb Q) : J d mi pc lc (.int x :: st) w (kb + 1) (sb + N) Q := by
  intro p l e R s m args below meth c z sa D dA Z mc ms C h1 h2 h3 h4 h5 H locs cells slots ls hR hS hl h6 h7
  refine va_newaK (atype := .double) C.1.1 C.1.2.1 (C.hts _ hw) rfl hd rfl hx hN (by show N * 8 ≤ _; omega) (by omega) (by omega) rfl fun H1 cA e1 z1 o1 hA hcA => ?_
  have hcA' : cA = dA 3 := Option.some.inj (hcA.symm.trans (C.hK.2 3 _ rfl).2)
  subst hcA'
  have hadr : adr sa z (100 + w.2.1) = H.size := by rw [adr_ge (by omega), hR.1 hf]; omega
  have hs : va_S (Az z) s.heap H1 locs := ⟨Nat.le_trans hS.1 (by omega), fun x a1 a2 => (o1 x (Nat.lt_of_lt_of_le a1 hS.1)).trans (hS.2.1 x a1 a2), hS.2.2⟩
  have k := kk p l e R s m args below meth c z sa D dA Z mc ms C h1 h2 h3 h4 h5 H1 locs (cells + 1) (slots + N) ls (hR.new hf z1 o1 (x := .inl (3, N, .inr (.inr (.inr (.inl fun _ => 0))))) e1) hs hl (by omega) (by omega)
  show W p l e R s m args below meth c H1 locs (cells + 1) (slots + N) Z (F0 m (pc + 2) ls (.ref H.size :: st.map (mv sa z)))
  rw [← hadr]
  exact k
theorem J_anew {idx : Nat} {x : Int32} {N : Nat} (hd : decode mi.2.1 pc = .ok (.anewarray idx, 3)) (hw : Cond.classLink mi.1.cls idx RX4 ∈ AL) (hx : ¬ x < 0) (hN : x.toNatClampNeg = N) (hB : N * 4 ≤ 536870912) (hf : w.2.2 = true) (kk : J d mi (pc + 3) lc (.ref (100 + w.2.1) :: st) (nwW w (.inl (4, N, .inr (.inr (.inr (.inr fun _ => none)))))) kb sb Q) : J d mi pc lc (.int x :: st) w (kb + 1) (sb + N) Q := by
  intro p l e R s m args below meth c z sa D dA Z mc ms C h1 h2 h3 h4 h5 H locs cells slots ls hR hS hl h6 h7
  subst hN
  have hao : va_AO RX4 s := C.hF.2.2.2.2.2.2.2.2.2.2.2.2.1
  refine W.anew C.1.1 C.1.2.1 C.own (C.hts _ hw) (va_AO.use hao) rfl hd rfl hx hB (by omega) (by omega) fun cA kA comp f1 f2 f3 f4 => ?_
  have hcA' : cA = dA 4 := by
    obtain ⟨kA', comp', m1, m2, m3, m4⟩ := (C.hK.2 4 _ rfl).2
    exact Option.some.inj (f1.symm.trans m4)
  subst hcA'
  have hadr : adr sa z (100 + w.2.1) = H.size := by rw [adr_ge (by omega), hR.1 hf]; omega
  have z1 : (H.push { cls := dA 4, slots := Array.replicate x.toNatClampNeg Value.null, vm := .none }).size = H.size + 1 := by simp
  have o1 : ∀ q : Nat, q < H.size → (H.push { cls := dA 4, slots := Array.replicate x.toNatClampNeg Value.null, vm := .none })[q]? = H[q]? := fun q hq => by
    rw [Array.getElem?_push, if_neg (Nat.ne_of_lt hq)]
  have e1 : (H.push { cls := dA 4, slots := Array.replicate x.toNatClampNeg Value.null, vm := .none })[H.size]? = some (vp_cell (dA 4) (x.toNatClampNeg, .inr (.inr (.inr (.inr fun _ => none))))) := by
    rw [vp_cell_q, show (fun j : Nat => va_rf ((fun _ => none : Nat → Option Nat) j)) = fun _ => Value.null from rfl, ← arrV_new]
    simp
  have hs : va_S (Az z) s.heap (H.push { cls := dA 4, slots := Array.replicate x.toNatClampNeg Value.null, vm := .none }) locs := ⟨Nat.le_trans hS.1 (by omega), fun x a1 a2 => (o1 x (Nat.lt_of_lt_of_le a1 hS.1)).trans (hS.2.1 x a1 a2), hS.2.2⟩
  have k := kk p l e R s m args below meth c z sa D dA Z mc ms C h1 h2 h3 h4 h5 _ locs (cells + 1) (slots + x.toNatClampNeg) ls (hR.new hf z1 o1 (x := .inl (4, x.toNatClampNeg, .inr (.inr (.inr (.inr fun _ => none))))) e1) hs hl (by omega) (by omega)
  show W p l e R s m args below meth c _ locs (cells + 1) (slots + x.toNatClampNeg) Z (F0 m (pc + 3) ls (.ref H.size :: st.map (mv sa z)))
  rw [← hadr]
  exact k
end JHEAP
end
section
/-! A THROW STATEMENT, whatever the number of the link by which the constructor calls RuntimeException's (follows ctorThrowS of JvmDerived/BundleOwnThrow.lean, and vx_throwS of the names) -/
section JTHROW
/-- the chain of the constructors: E's own, then RuntimeException's and Exception's -/
theorem jchain {args : Array Value} {s : State} {pl : Platform} (hpl : pl.magicAccessors = ({} : Platform).magicAccessors) {top : MethodId} (htop : s.methodNamed? (Bundle.initS Bundle.tN) = some top) {E : String} {k : Nat} {bytes : ByteArray} (hE : Bundle.fit E = true)
    (hb : decode bytes 0 = .ok (.aload_n 0, 1) ∧ decode bytes 1 = .ok (.aload_n 1, 1) ∧ decode bytes 2 = .ok (.invokespecial k, 3) ∧ decode bytes 5 = .ok (.return_, 1))
    (h1 : ∀ c ∈ Bundle.passSAtoms E jRTE k bytes, c.before args s = true) (h2 : ∀ c ∈ Bundle.chainSAtoms jRTE [jEXC], c.before args s = true) :
    ∃ (P1 : PassC) (Ps : List PassC), Ps.length = 2 ∧ P1.LinksS pl s ∧ (∀ P, P ∈ Ps → P.LinksS pl s) ∧ s.methodNamed? (Bundle.initS E) = some P1.m ∧
        P1.sup = firstOf top (Ps.map (·.toPassT)) ∧ PassesOn top (Ps.map (·.toPassT)) := by
  obtain ⟨P, L, hm, hs⟩ := PassC.ofS_atoms (args := args) (s := s) hpl (X := E) (Y := jRTE) (Bundle.fit_spec hE).1 (by decide) hb.1 hb.2.1 hb.2.2.1 hb.2.2.2 h1
  obtain ⟨P', Ps, hlen, L', hL, hm', hsup, hpass⟩ := Bundle.chainS (args := args) hpl htop [jEXC] jRTE (by decide) (fun n hn => by rw [List.mem_singleton.mp hn]; decide) h2
  refine ⟨P, P' :: Ps, by simp [hlen], L, fun Q hQ => ?_, hm, Option.some.inj (hs.symm.trans hm'), hsup, hpass⟩
  rcases List.mem_cons.mp hQ with rfl | hQ
  · exact L'
  · exact hL Q hQ
set_option maxHeartbeats 4000000 in
theorem jctor {p : Program} {l : Launch} {e : Env} {R : Room} {s : State} {m₀ : MethodId} {args : Array Value} {below : List Frame} {meth : Method} {c : Code} {W : State} {cells slots : Nat} (X : Stand p l e R s m₀ args below meth c W [] cells slots) (hexec : p.tables.exec = Jvm.exec) (htr : e.platform.stackTraces = false) {own cls : String} {ic k : Nat} {bytes : ByteArray}
    (hown : s.vm.findClass own = some m₀.cls) (hcls : Bundle.fit cls = true) (hb : decode bytes 0 = .ok (.aload_n 0, 1) ∧ decode bytes 1 = .ok (.aload_n 1, 1) ∧ decode bytes 2 = .ok (.invokespecial k, 3) ∧ decode bytes 5 = .ok (.return_, 1))
    (h : ∀ a ∈ jAt own ic cls k bytes, a.before args s = true)
    {a : Addr} {cX : ClassId} {kX : Class} (hfoundX : s.vm.findClass cls = some cX) (hkX : s.vm.classes[cX]? = some kX) (hcell : W.heap[a]? = some (freshCell cX kX)) (hnew : s.heap.size ≤ a)
    {msg : Value} (hmsg : msg.isRef = true)
    {g : JFrame} (hg : g.method = m₀) (hsize : g.locals.size = c.maxLocals) (hlocked : g.locked = none) (hentered : g.entered = []) {rest : List Value} (hstack : g.stack = msg :: .ref a :: .ref a :: rest)
    (hd6 : decode c.code g.pc = .ok (.invokespecial ic, 3)) (hd9 : decode c.code (g.pc + 3) = .ok (.athrow, 1)) (hout : ∀ x ∈ c.exceptionTable.toList, covers x (g.pc + 3) = false)
    (hRframes : 5 < R.frames) (hRlocals : 2 * g.monitorRoom + ((Value.ref a :: rest).map fun v => v.category).sum + 81 ≤ R.locals) (hlocks : meth.locks = false) :
    ∃ U : State, Steps p.tables e below (W.setTop g) U ∧ U.status = .running ∧ Ended U below (.threw a) ∧ s.WarmedH U.vm ∧ s.sameButNew ({ U with vm := s.vm } : State) [] cells slots ∧
      ∃ ce : Cell, U.heap[a]? = some ce ∧ ce.vm = .none ∧ s.vm.findClass cls = some ce.cls := by
  have howns : e.platform.frameOwnsMonitors = true := by rw [X.admits.platform]
  have hfin : e.platform.finalization = false := by rw [X.admits.platform]
  have hpl : e.platform.magicAccessors = ({} : Platform).magicAccessors := by rw [X.admits.platform]
  have a' : ∀ x, x ∈ jAt own ic cls k bytes → x.holds args s none s [] = true := fun x hx => h x hx
  obtain ⟨T, Z0, L, -, Y⟩ := ThrowableC.of_atoms (args := args) howns hfin hpl (fun x hx => h x (by simp [jAt, hx]))
  obtain ⟨Z, M, LZ, LM, hnZ⟩ := Init0T.ofS_atoms (args := args) hpl L Y (fun x hx => h x (by simp [jAt, hx]))
  obtain ⟨P1, Ps, hlen, L1, hL, hP1m, hlink1, hlink⟩ := jchain (args := args) hpl hnZ hcls hb (fun x hx => h x (by simp [jAt, hx])) (fun x hx => h x (by simp [jAt, hx]))
  have hfound : s.vm.findClass cls = some P1.m.cls := findClass_of_methodNamed hP1m
  cases Option.some.inj (hfoundX.symm.trans hfound)
  obtain ⟨c1, kX', hc1, hk, hord, -, -, hn6⟩ := Cond.instantiable_spec (a' (.instantiable cls 6) (by simp [jAt]))
  cases Option.some.inj (hc1.symm.trans hfound)
  cases Option.some.inj (hkX.symm.trans hk)
  have hsel0 : selectMethod e.platform s.vm P1.m.cls T.fill0 = .method T.fill0 := by
    obtain ⟨c2, r2, m2, q1, q2, q3, q4, -⟩ := Cond.selects_spec (a' (.selects cls Bundle.tFill0 Bundle.tFill0) (by simp [jAt]))
    cases Option.some.inj (q1.symm.trans hfound)
    cases Option.some.inj (q2.symm.trans (State.methodFound?_of_named Y.fill0 (by decide)))
    cases Option.some.inj (q3.symm.trans Y.fill0)
    rw [Launch.admits_selectMethod X.admits]
    exact q4
  have hselF : selectMethod e.platform s.vm P1.m.cls T.fill = .method T.fill := by
    obtain ⟨c2, r2, m2, q1, q2, q3, q4, -⟩ := Cond.selects_spec (a' (.selects cls Bundle.tFill Bundle.tFill) (by simp [jAt]))
    cases Option.some.inj (q1.symm.trans hfound)
    cases Option.some.inj (q2.symm.trans (State.methodFound?_of_named Y.fill (by decide)))
    cases Option.some.inj (q3.symm.trans Y.fill)
    rw [Launch.admits_selectMethod X.admits]
    exact q4
  obtain ⟨cellS0, hcS0, hiss⟩ := Y.statics
  obtain ⟨u0, hu0⟩ := Cond.staticRefV Y.unassigned L.unassignedStatic L.statics hcS0 hiss (a' (.isRef (.static Bundle.tN "UNASSIGNED_STACK" Bundle.steD)) (by simp [jAt]))
  obtain ⟨sen, hsen⟩ := Cond.staticRefV Y.sentinel L.sentinelStatic L.statics hcS0 hiss (a' (.isRef (.static Bundle.tN "SUPPRESSED_SENTINEL" Bundle.listD)) (by simp [jAt]))
  obtain ⟨ci198, i198, fB, hk198, hg198, ha198, hsB, -, hnB, htB, hffB⟩ := Cond.ownField (t := .object "java/lang/Object") Y.found L.cls (by decide +kernel) (a' (.fieldLink Bundle.tN 198 Bundle.tN "backtrace" "Ljava/lang/Object;") (by simp [jAt])) (a' (.lays Bundle.tN Bundle.tN "backtrace" "Ljava/lang/Object;") (by simp [jAt])) e.platform hpl
  obtain ⟨cellS, hcS', heS, -, hkeep⟩ := X.same.2.2.2.2.2 T.aS cellS0 hcS0
  have hcellS : W.heap[T.aS]? = some cellS := hcS'
  have hknownS : cellS.vm ≠ .unknown := by
    rw [heS]; intro hu
    rw [show cellS0.vm = .unknown from hu] at hiss
    cases hiss
  have hneS : T.aS ≠ a := Nat.ne_of_lt (Nat.lt_of_lt_of_le (Array.getElem?_eq_some_iff.mp hcS0).1 hnew)
  obtain ⟨iM, hffM⟩ := Y.msg
  obtain ⟨tyC, dC, hdC, hdnC⟩ := Cond.laysAt hfound hk Y.cause (a' (.lays cls Bundle.tN "cause" "Ljava/lang/Throwable;") (by simp [jAt]))
  obtain ⟨tyS, dS, hdS, hdnS⟩ := Cond.laysAt hfound hk Y.stack (a' (.lays cls Bundle.tN "stackTrace" Bundle.steD) (by simp [jAt]))
  obtain ⟨tyP, dP, hdP, hdnP⟩ := Cond.laysAt hfound hk Y.supp (a' (.lays cls Bundle.tN "suppressedExceptions" Bundle.listD) (by simp [jAt]))
  obtain ⟨tyM, dM, hdM, hdnM⟩ := Cond.laysAt hfound hk hffM (a' (.lays cls Bundle.tN "detailMessage" "Ljava/lang/String;") (by simp [jAt]))
  obtain ⟨tyB, dB, hdB, hdnB⟩ := Cond.laysAt hfound hk hffB (a' (.lays cls Bundle.tN "backtrace" "Ljava/lang/Object;") (by simp [jAt]))
  have bC := Cond.laysApart hdB hdC hdnB hdnC (by rw [hnB, Y.causeName]; decide)
  have bS := Cond.laysApart hdB hdS hdnB hdnS (by rw [hnB, Y.stackName]; decide)
  have bP := Cond.laysApart hdB hdP hdnB hdnP (by rw [hnB, Y.suppName]; decide)
  have hskip : SkipFacts T e.platform s (fun u => u) u0 ((preparedCellV T.toThrowableT (freshCell P1.m.cls kX) a u0 sen).withEntry W.cur) :=
    ⟨{ ci198 := ci198, i198 := i198, fBack := fB }, ⟨hk198, hg198, ha198, hsB⟩, by
      have := fresh_default (c := P1.m.cls) tyB
      rw [htB] at this
      simpa [preparedCellV, Cell.setSlot, Cell.withEntry, Array.getElem?_setIfInBounds, bC, bS, bP, bC.symm, bS.symm, bP.symm, defaultValue] using this, fun _ _ => rfl⟩
  obtain ⟨tm, methC, cdC, kC, vm₁, hnC, -, -, -, -, -, -, -, hW₁, st1⟩ := Steps.initColdS (tb := p.tables) (e := e) (below := below) (s := s) (U := W) X.here hexec X.warmed hpl hown (t := Bundle.initS cls) rfl rfl (Bundle.fit_spec hcls).2
    (a' (.methodLink own ic (Bundle.initS cls)) (by simp [jAt])) (h (.instanceMethod (Bundle.initS cls)) (by simp [jAt, Bundle.passSAtoms])) (bytes := bytes) (maxL := 2) (h (.code (Bundle.initS cls) bytes 2 none) (by simp [jAt, Bundle.passSAtoms]))
    (f := g) hg (a := a) (msg := msg) (rest := .ref a :: rest) hstack hd6
  cases Option.some.inj (hnC.symm.trans hP1m)
  have X₁ := X.noted hW₁
  obtain ⟨vm₂, X₂, st2⟩ := X₁.ctorMessageOffV hexec (g := { g with stack := .ref a :: rest }) hg hsize T L Z LZ M LM (P1 :: Ps)
    (fun P hP => by rcases List.mem_cons.mp hP with rfl | hP; exact L1; exact hL P hP) ⟨hlink1, hlink⟩ (u0 := u0) (sen := sen) (self := a) hmsg (cell := freshCell P1.m.cls kX) (cellS := cellS)
    hcell (fun _ => by simp) (by simp) rfl rfl hsel0 hselF hcellS hneS hknownS (by rw [hkeep _ (fun q => by cases q)]; exact hu0) (by rw [hkeep _ (fun q => by cases q)]; exact hsen)
    (Takes.of_laid hk hord tyC (by rw [Y.causeType]; rfl)) (Takes.of_laid hk hord tyS (by rw [Y.stackType]; exact fits_refV_array _ u0)) (Takes.of_laid hk hord tyP (by rw [Y.suppType]; exact fits_refV_object _ sen))
    (Takes.of_laid hk hord tyM (by rw [Y.msgType]; exact fits_refV_object _ ⟨msg, hmsg⟩)) Y.objLocals hskip htr [] hd6
    (by simp only [List.length_cons, hlen]; omega) (by simp only [List.length_cons, hlen]; exact hRlocals)
  obtain ⟨hwalk, hrun, hended, hWU, hsame⟩ := X₂.athrowLeaves hexec (g := { g with stack := .ref a :: rest, pc := g.pc + 3 }) hg hlocked hentered hout (a := a) (rest := rest) rfl hd9
  have hlt : a < ((W.setVm vm₁).setVm vm₂).heap.size := (Array.getElem?_eq_some_iff.mp hcell).1
  have hU := heapAt_setCell_self (s := (W.setVm vm₁).setVm vm₂) (plainBareV T.toThrowableT (freshCell P1.m.cls kX) a u0 sen msg) hlt
  refine ⟨_, st1 _ (fun acts => ?_), hrun, hended, hWU, hsame.weaken (fun y hy hlt' => ?_) (Nat.le_refl _) (Nat.le_refl _), _, hU, rfl, hfound⟩
  · rw [doInvoke_state]
    exact st2 _ hwalk
  · rcases List.mem_append.mp hy with h1 | h1
    · exact h1
    · exfalso
      have hb9 : y.base = a := by
        simp only [List.mem_cons, List.not_mem_nil, or_false] at h1
        rcases h1 with rfl | rfl | rfl | rfl | rfl <;> rfl
      rw [hb9] at hlt'
      exact Nat.not_lt.mpr hnew hlt'
set_option maxHeartbeats 4000000 in
/-- the throw statement, from its first instruction to the method's end -/
theorem jthrow {p : Program} {l : Launch} {e : Env} {R : Room} {s : State} {m : MethodId} {args : Array Value} {below : List Frame} {meth : Method} {c : Code} {H : Heap} {locs : List Loc} {cells slots : Nat} {Qc : Array Value → State → Outcome → State → Prop} {XC : String → State → State → Prop} {free : Addr → Prop} {ls : Array Slot}
    {mi : MI} {pc mc ms : Nat} {cls : String} {A : Nat → Prop} {sa : Nat → Nat} (hexec : p.tables.exec = Jvm.exec) (hb : c.code = mi.2.1) (hl : l.stackTraces = false)
    (hown : s.vm.findClass mi.1.cls = some m.cls) (hts : ∀ w ∈ AL, w.before args s = true) (hF : SF sa A s s.heap) (hS : va_S A s.heap H locs) (hsize : ls.size = c.maxLocals) (hTI : ThrI mi pc cls) (htab : c.exceptionTable.toList = [])
    (hRframes : 5 < R.frames) (hRlocals : 84 ≤ R.locals) (hRcells : cells + 1 ≤ R.cells) (hRslots : slots + 6 ≤ R.slots) (hlocks : meth.locks = false)
    (hx : ∀ t : State, s.vm.Alike t.vm → H.size ≤ t.heap.size → (∀ q : Nat, q < H.size → t.heap[q]? = H[q]?) → XC cls s t)
    (hf : ∀ z ∈ locs, free z.base) (hc : cells + 1 ≤ mc) (hs : slots + 6 ≤ ms) :
    W p l e R s m args below meth c H locs cells slots (vx_MQ below Qc XC args s mc ms free) (F0 m pc ls []) := by
  intro T hT X
  obtain ⟨ik, is, ic, ld, k, bytes, text, hmem, d0, d3, d4, d6, d9, hk, hini, hcls, hby, hws, -⟩ := hTI
  obtain ⟨-, -, -, -, -, hmsgs, -, -, -, -, hU, hN, -, hol⟩ := hF
  obtain ⟨sta, hstr⟩ := hmsgs _ hmem
  have htr : e.platform.stackTraces = false := (show e.platform.stackTraces = l.stackTraces by rw [X.admits.platform]).trans hl
  have Y := vx_rebase X (R' := { frames := R.frames, locals := R.locals, cells := 1, slots := 6 }) (Nat.le_refl _) (Nat.le_refl _) hRcells hRslots
  obtain ⟨s', hA⟩ : ∃ z, z = (T.setVm s.vm).setFrames (.invoking m args :: below) := ⟨_, rfl⟩
  rw [← hA] at Y
  have hvm : s'.vm = s.vm := by rw [hA]; rfl
  have hhp : s'.heap = H := by rw [hA]; exact hT
  have hW0 : s.WarmedH s'.vm := by rw [hvm]; exact State.WarmedH.refl s
  have good' : ∀ w : Cond, (goodWord w || isDC w) = true → w ∈ lw_tbl → w.before args s' = true := fun w hg hw => by
    by_cases hgw : goodWord w = true
    · exact word_at hW0 (good_of_word hgw) (hts _ (AL_in hw hgw))
    · have hdc : isDC w = true := by
        cases hq : goodWord w with
        | true => exact absurd hq hgw
        | false => rw [hq] at hg; simpa using hg
      have h1 := hol w (OL_in hw hdc)
      rcases isDC_cases hdc with ⟨x, rfl⟩ | ⟨a, b, rfl⟩
      · exact va_tabs rfl hvm.symm h1
      · exact va_tabs rfl hvm.symm h1
  have hat' : ∀ w ∈ (jAt mi.1.cls ic cls k bytes).filter vx_no, w.before args s' = true := fun w hw => good' w (hws w hw).2 (hws w hw).1
  have hk' : (Cond.classLink mi.1.cls ik cls).before args s' = true := word_at hW0 (good_of_word (AL_good hk)) (hts _ hk)
  have hini' : (Cond.initialized cls).before args s' = true := word_at hW0 (good_of_word (AL_good hini)) (hts _ hini)
  have hU' : vx_Zq Bundle.tN "UNASSIGNED_STACK" Bundle.steD A s' s'.heap := by rw [hhp]; exact vx_Zq.moved hW0.alike (hU.kept hS.2.1)
  have hN' : vx_Zq Bundle.tN "SUPPRESSED_SENTINEL" Bundle.listD A s' s'.heap := by rw [hhp]; exact vx_Zq.moved hW0.alike (hN.kept hS.2.1)
  have h : ∀ w ∈ jAt mi.1.cls ic cls k bytes, w.before args s' = true := vx_own hat' (vx_isRefq hU'.1) (vx_isRefq hN'.1) hU'.2.word hN'.2.word
  have hown' : s'.vm.findClass mi.1.cls = some m.cls := by rw [hvm]; exact hown
  have hins : (Cond.instantiable cls 6).before args s' = true := h _ (by simp [jAt])
  obtain ⟨vm₁, cX, kX, hfX, hkX, -, -, X₁, st1⟩ := Y.newCold hexec (own := mi.1.cls) (C := cls) (index := ik) (n := 6) hown' hk' hins hini'
    (g := F0 m pc ls []) rfl (by rw [hb]; exact d0) (Nat.le_refl _) (Nat.le_refl _)
  generalize hT1 : (T.setVm vm₁).pushCell { cls := cX, slots := kX.instanceTypes.map defaultValue, vm := .none } = T1 at X₁ st1
  have hcat : (Value.ref T.heap.size).category = 1 := rfl
  have hcellA : T1.heap[T.heap.size]? = some (freshCell cX kX) := by rw [← hT1]; exact State.heap_pushCell_size _ _
  have d3' : decode c.code (pc + 3) = .ok (.dup, 1) := by rw [hb]; exact d3
  have hstr' : vk_R mi.1.cls is text sta s' := vk_R.warm hW0 hstr
  obtain ⟨U, hsteps, hrun, hend, hW, hsame, ce, hce, hcv, hcc⟩ := jctor X₁ hexec htr (own := mi.1.cls) (cls := cls) (ic := ic) hown' hcls hby h hfX hkX hcellA (by rw [hhp, hT]; exact Nat.le_refl _) (msg := .ref sta) rfl
    (g := { method := m, pc := pc + 4 + ld, locals := ls, stack := .ref sta :: .ref T.heap.size :: .ref T.heap.size :: [], locked := none }) rfl hsize rfl rfl (rest := []) rfl
    (by rw [hb]; exact d6) (by rw [hb]; exact d9) (by rw [htab]; exact fun x hx => by cases hx) hRframes (by show 2 * 0 + (1 + 0) + 81 ≤ R.locals; omega) hlocks
  obtain ⟨f1, f2⟩ := vx_frame hsame
  rw [hhp] at f1 f2
  have hWs : s.WarmedH U.vm := State.WarmedH.trans hW0 hW
  have hcl : s.vm.findClass cls = some ce.cls := by
    rw [hvm] at hcc
    exact hcc
  have hall : s.sameButNew ({ U with vm := s.vm } : State) locs mc ms := by
    subst hA
    obtain ⟨e1, e2⟩ := hsame
    rw [State.setFrames_setFrames] at e1
    have h2 : (T.setVm s.vm).sameButNew ({ U with vm := s.vm } : State) [] (0 + 1) (0 + 6) := ⟨e1, e2⟩
    have h3 := X.same.trans h2
    rw [List.append_nil] at h3
    exact h3.mono hc hs
  refine ⟨U, ?_, .threw T.heap.size, hrun, hend, Or.inr ⟨T.heap.size, rfl, cls, ce, locs, hx U hWs.alike f1 (fun q hq => f2 q hq (fun z hz => nomatch hz)), hce, hcv, hcl, hWs, hall, hf⟩⟩
  refine st1 _ ?_
  show Steps p.tables e below (T1.setTop { method := m, pc := pc + 3, locals := ls, stack := .ref T.heap.size :: [], locked := none }) _
  jvm_step X₁.here [X₁.here.top, hexec, d3', Value.category]
  rcases d4 with ⟨rfl, d4⟩ | ⟨rfl, d4⟩
  · exact X₁.ldcString hexec (own := mi.1.cls) (text := text) (index := is) (a := sta) hown' hstr'.1 hstr'.2
      (g := { method := m, pc := pc + 4, locals := ls, stack := .ref T.heap.size :: .ref T.heap.size :: [], locked := none }) rfl (by rw [hb]; exact d4) _ hsteps
  · exact X₁.ldcStringW hexec (own := mi.1.cls) (text := text) (index := is) (a := sta) hown' hstr'.1 hstr'.2
      (g := { method := m, pc := pc + 4, locals := ls, stack := .ref T.heap.size :: .ref T.heap.size :: [], locked := none }) rfl (by rw [hb]; exact d4) _ hsteps
end JTHROW
end
section
/-! CONTRACTS: a method's (MC), its proof out of the judgement, its use at a call -/
section JCALLS
def headC (mi : MI) : Cond := match mi.2.2.2.2 with
  | [] => .code mi.1 mi.2.1 mi.2.2.1 mi.2.2.2.1
  | hh => .codeWith mi.1 mi.2.1 mi.2.2.1 mi.2.2.2.1 hh
def PcM (av : List Value) (w : Wd) (z : Nat) (sa : Nat → Nat) (D : va_G) (dA : Nat → ClassId) : Array Value → State → Prop := fun a U => a = (av.map (mv sa z)).toArray ∧ Rel D dA sa z w U.heap ∧ va_K D vwCl (tyL dA) U ∧ SF sa (Az z) U U.heap ∧ z ≤ U.heap.size
def QcM (Q : Po) (z : Nat) (sa : Nat → Nat) (D : va_G) (dA : Nat → ClassId) : Array Value → State → Outcome → State → Prop := fun _ st o t => ∃ (v : Option Value) (w : Wd), o = .returned (v.map (mv sa z)) ∧ Q (.inl v) w ∧ Rel D dA sa z w t.heap ∧ va_F (Az z) st t
def XcM (Q : Po) (z : Nat) (sa : Nat → Nat) (D : va_G) (dA : Nat → ClassId) : String → State → State → Prop := fun E st t => ∃ w : Wd, Q (.inr E) w ∧ Rel D dA sa z w t.heap ∧ va_F (Az z) st t
def rmM (d kb sb : Nat) : Room := { frames := d, cells := kb, slots := sb, locals := 64 * d }
/-- the method mi, called with av in the world w, with d frames and room for kb cells of sb slots, comes to an end that Q allows -/
def MC (d : Nat) (mi : MI) (kb sb : Nat) (av : List Value) (w : Wd) (Q : Po) : Prop :=
  ∀ (l : Launch), l.stackTraces = false → ∀ (z : Nat) (sa : Nat → Nat) (D : va_G) (dA : Nat → ClassId), vx_Met l mi.1 (headC mi :: AL) (rmM d kb sb) (PcM av w z sa D dA) (QcM Q z sa D dA) (XcM Q z sa D dA) kb sb (Az z)
theorem PcM_blind (av : List Value) (w : Wd) (z : Nat) (sa : Nat → Nat) (D : va_G) (dA : Nat → ClassId) : FrameBlind (PcM av w z sa D dA) := fun a U g mk q => by
  obtain ⟨q1, q2, q3, q4, q5⟩ := q
  exact ⟨q1, q2, va_K.moved (u := U) (U := U.calling g mk a) (Vm.Alike.refl U.vm) q3, SF.vm (u := U) (U := U.calling g mk a) rfl q4, q5⟩
theorem lv_args_at (vs : List Value) (hc : ∀ v ∈ vs, v.category = 1) : ∀ (i k : Nat) (v : Value), vs[k]? = some v → (i + k, v) ∈ lv_args i vs := by
  induction vs with
  | nil => intro i k v h; simp at h
  | cons a l ih =>
    intro i k v h
    have ha : ¬ a.category = 2 := by rw [hc a List.mem_cons_self]; decide
    unfold lv_args
    rw [if_neg ha]
    cases k with
    | zero =>
      cases h
      exact List.mem_cons_self
    | succ k =>
      have := ih (fun v hv => hc v (List.mem_cons_of_mem _ hv)) (i + 1) k v (by simpa using h)
      rw [show i + (k + 1) = i + 1 + k by omega]
      exact List.mem_cons_of_mem _ this
theorem lg_sl_len (vs : List Value) (hc : ∀ v ∈ vs, v.category = 1) : (lg_sl vs).length = vs.length := by
  induction vs with
  | nil => rfl
  | cons a l ih =>
    have ha : ¬ a.category = 2 := by rw [hc a List.mem_cons_self]; decide
    have e : lg_sl (a :: l) = Slot.val a :: lg_sl l := by
      unfold lg_sl
      rw [List.flatMap_cons, if_neg ha]
      rfl
    rw [e, List.length_cons, List.length_cons, ih (fun v hv => hc v (List.mem_cons_of_mem _ hv))]
def lc0 (av : List Value) (n : Nat) : List (Option Value) := av.map some ++ List.replicate (n - av.length) none
theorem lc0_rel {sa : Nat → Nat} {z nL : Nat} {av : List Value} (hc : ∀ v ∈ av, v.category = 1) (hl : av.length ≤ nL) : lrel sa z nL (lc0 av nL) ((lg_sl (av.map (mv sa z)) ++ List.replicate (nL - (lg_sl (av.map (mv sa z))).length) Slot.unset).toArray) := by
  have hc' : ∀ v ∈ av.map (mv sa z), v.category = 1 := fun v hv => by
    obtain ⟨u, hu, rfl⟩ := List.mem_map.mp hv
    rw [mv_cat]
    exact hc u hu
  have h := lv_entry (av.map (mv sa z)) (n := nL) (by rw [lg_sl_len _ hc', List.length_map]; exact hl)
  refine ⟨h.1, h.2.1, fun i v hv => ?_⟩
  unfold lc0 at hv
  by_cases hi : i < av.length
  · rw [List.getElem?_append_left (by rw [List.length_map]; exact hi), List.getElem?_map] at hv
    cases ha : av[i]? with
    | none => rw [ha] at hv; cases hv
    | some u =>
      rw [ha] at hv
      have e : u = v := Option.some.inj (Option.some.inj hv)
      subst e
      have := lv_args_at (av.map (mv sa z)) hc' 0 i (mv sa z u) (by rw [List.getElem?_map, ha]; rfl)
      rw [Nat.zero_add] at this
      exact h.2.2 _ this
  · rw [List.getElem?_append_right (by rw [List.length_map]; omega), List.getElem?_replicate] at hv
    split at hv <;> cases hv
theorem covers_nil {pc : Nat} : ∀ x ∈ tableOf [], covers x pc = false := fun x h => by cases h
/-- the ends of a body -/
theorem J_ends {d : Nat} {mi : MI} {kb sb : Nat} {Q : Po} {p : Program} {l : Launch} {e : Env} {s : State} {m : MethodId} {args : Array Value} {below : List Frame} {meth : Method} {c : Code} {z : Nat} {sa : Nat → Nat} {D : va_G} {dA : Nat → ClassId} {R : Room} (C : Cx d mi p l R s m args meth c z sa D dA) (hd : 6 ≤ d ∨ ∀ E w, ¬ Q (.inr E) w) (hc1 : kb ≤ R.cells) (hc2 : sb ≤ R.slots) :
    HR mi p l e R s m args below meth c z sa D dA Q (vx_MQ below (QcM Q z sa D dA) (XcM Q z sa D dA) args s kb sb (Az z)) kb sb ∧ HX mi p l e R s m args below meth c z sa D dA Q (vx_MQ below (QcM Q z sa D dA) (XcM Q z sa D dA) args s kb sb (Az z)) kb sb ∧ HT mi p l e R s m args below meth c z sa D dA Q (vx_MQ below (QcM Q z sa D dA) (XcM Q z sa D dA) args s kb sb (Az z)) kb sb := by
  have hlocks : meth.locks = false := C.2.2.1
  refine ⟨fun v w H locs pc ls i hq hR hS hret hdec => ?_, fun E w H locs pc ls rest q ce hq hR hS hcov hce hcv hcl => ?_, fun E w H locs cells slots pc ls hq hR hS hls hT hk hs => ?_⟩
  · refine vx_ret ?_
    have qc : ∀ t : State, t.heap = H → s.WarmedH t.vm → QcM Q z sa D dA args s (.returned (v.map (mv sa z))) t := fun t ht _ => ⟨v, w, rfl, hq, by rw [ht]; exact hR, hS.F ht⟩
    rcases hret with ⟨rfl, rfl, hr⟩ | ⟨rfl, x, ty, rfl, hr, hn⟩ | ⟨rfl, x, rfl, hr⟩ | ⟨rfl, x, rfl, hr⟩
    · exact W.vret C.1.1 rfl (C.2.1.trans hr) qc hS.2.2 hdec hlocks
    · exact W.zret C.1.1 rfl (C.2.1.trans hr) hn qc hS.2.2 hdec hlocks
    · exact W.dret C.1.1 rfl (C.2.1.trans hr) qc hS.2.2 hdec hlocks
    · exact W.fret C.1.1 rfl (C.2.1.trans hr) qc hS.2.2 hdec hlocks
  · exact vx_out (by rw [C.2.2.2.2.1]; exact hcov) hlocks hce hcv hcl (fun t ht _ => ⟨w, hq, by rw [ht]; exact hR, hS.F ht⟩) hS.2.2 (Nat.le_refl _) (Nat.le_refl _)
  · rcases hd with hd | hd
    · have hroom := C.room
      refine jthrow (mi := mi) (A := Az z) C.1.1 C.1.2.1 C.2.2.2.2.2.1 C.own C.hts C.hF hS (by rw [hls, C.1.2.2.1]) hT ?_ (by omega) (by omega) (by omega) (by omega) hlocks (fun t ha hsz hkp => ⟨stW w, hq, hR.grown hkp, ⟨Nat.le_trans hS.1 hsz, fun q g1 g2 => (hkp q (Nat.lt_of_lt_of_le g1 hS.1)).trans (hS.2.1 q g1 g2)⟩⟩) hS.2.2 hk hs
      rw [C.2.2.2.2.1]
      obtain ⟨ik, is, ic, ld, k, bytes, text, -, -, -, -, -, -, -, -, -, -, -, hh⟩ := hT
      rw [hh]
      rfl
    · exact absurd hq (hd _ _)
/-- a contract out of the judgement at the body's start -/
theorem MC_of {d : Nat} {mi : MI} {kb sb : Nat} {av : List Value} {w : Wd} {Q : Po} (hy : plainName mi.1.cls = true) (hh : mi.2.2.2.2 = []) (hcat : ∀ v ∈ av, v.category = 1) (hlen : av.length ≤ mi.2.2.1) (hd : 6 ≤ d ∨ ∀ E w, ¬ Q (.inr E) w) (h : J d mi 0 (lc0 av mi.2.2.1) [] w kb sb Q) : MC d mi kb sb av w Q := by
  intro l hl z sa D dA
  refine vx_ofW (cc := mi.2.1) (maxL := mi.2.2.1) (ret := mi.2.2.2.1) hy (by unfold headC; rw [hh]) ?_
  intro p e s m args below meth c s₁ B hml htab hv
  obtain ⟨rfl, hR, hK, hF, hz⟩ := hv
  have hts := atoms_spec (ws := headC mi :: AL) B.pre
  have C : Cx d mi p l (rmM d kb sb) s m (av.map (mv sa z)).toArray meth c z sa D dA := by
    refine ⟨⟨B.exec, B.bytes, hml, findClass_of_methodNamed B.named, fun w h => hts w (List.mem_cons_of_mem _ h)⟩, B.returns, B.notSynchronized, (name_of_methodNamed B.named B.method).1, ?_, hl, ⟨Nat.le_refl _, Nat.le_refl _⟩, hK, hF, hz⟩
    rw [hh]
    exact List.eq_nil_iff_forall_not_mem.mpr htab
  obtain ⟨k1, k2, k3⟩ := J_ends (e := e) (below := below) (Q := Q) (kb := kb) (sb := sb) C hd (Nat.le_refl _) (Nat.le_refl _)
  rw [lg_entry_eq]
  exact h p l e (rmM d kb sb) s m _ below meth c z sa D dA _ kb sb C k1 k2 k3 (Nat.le_refl _) (Nat.le_refl _) s.heap [] 0 0 _ hR va_S.rf (lc0_rel hcat hlen) (by omega) (by omega)
/-- .. of a method with handlers -/
theorem MC_ofH {d : Nat} {mi : MI} {kb sb : Nat} {av : List Value} {w : Wd} {Q : Po} (hy : plainName mi.1.cls = true) (hh : headC mi = .codeWith mi.1 mi.2.1 mi.2.2.1 mi.2.2.2.1 mi.2.2.2.2) (hcat : ∀ v ∈ av, v.category = 1) (hlen : av.length ≤ mi.2.2.1) (hd : ∀ E w, ¬ Q (.inr E) w) (h : J d mi 0 (lc0 av mi.2.2.1) [] w kb sb Q) : MC d mi kb sb av w Q := by
  intro l hl z sa D dA
  refine vx_ofWH (cc := mi.2.1) (maxL := mi.2.2.1) (ret := mi.2.2.2.1) (hh := mi.2.2.2.2) hy (by rw [hh]) ?_
  intro p e s m args below meth c s₁ B hml hv
  obtain ⟨rfl, hR, hK, hF, hz⟩ := hv
  have hts := atoms_spec (ws := headC mi :: AL) B.pre
  have C : Cx d mi p l (rmM d kb sb) s m (av.map (mv sa z)).toArray meth c z sa D dA := by
    refine ⟨⟨B.exec, B.bytes, hml, findClass_of_methodNamed B.named, fun w h => hts w (List.mem_cons_of_mem _ h)⟩, B.returns, B.notSynchronized, (name_of_methodNamed B.named B.method).1, ?_, hl, ⟨Nat.le_refl _, Nat.le_refl _⟩, hK, hF, hz⟩
    exact vx_table (x := mi.1) (y := mi.1) B (by rw [← hh]; exact hts _ List.mem_cons_self)
  obtain ⟨k1, k2, k3⟩ := J_ends (e := e) (below := below) (Q := Q) (kb := kb) (sb := sb) C (Or.inr hd) (Nat.le_refl _) (Nat.le_refl _)
  rw [lg_entry_eq]
  exact h p l e (rmM d kb sb) s m _ below meth c z sa D dA _ kb sb C k1 k2 k3 (Nat.le_refl _) (Nat.le_refl _) s.heap [] 0 0 _ hR va_S.rf (lc0_rel hcat hlen) (by omega) (by omega)
theorem Met_of_vx {l : Launch} {y : MethodName} {ws : List Cond} {rm : Room} {Pc : Array Value → State → Prop} {Qc : Array Value → State → Outcome → State → Prop} {XC : String → State → State → Prop} {mc ms : Nat} {free : Addr → Prop} (h : vx_Met l y ws rm Pc Qc XC mc ms free) (hx : ∀ E st t, ¬ XC E st t) : Met l y ws rm Pc Qc mc ms free := by
  intro p e h1 h2 h3 s m args below h4 h5 h6 h7
  obtain ⟨n, o, a, b, c, q⟩ := h p e h1 h2 h3 s m args below h4 h5 h6 h7
  refine ⟨n, o, a, b, c, ?_⟩
  rcases q with q | ⟨q, _, E, ce, L, hX, _⟩
  · exact q
  · exact absurd hX (hx _ _ _)

section
variable {d : Nat} {mi : MI} {pc : Nat} {lc : List (Option Value)} {st : List Value} {w : Wd} {kb sb : Nat} {Q : Po}
/-- the method y as it is called: its words -/
def YL (y : MI) (n : Nat) : Prop := headC y = .code y.1 y.2.1 y.2.2.1 y.2.2.2.1 ∧ headC y ∈ AL ∧ Cond.initialized y.1.cls ∈ AL ∧ (y.1.cls ≠ "java/lang/invoke/MethodHandle" ∧ y.1.cls ≠ "java/lang/invoke/VarHandle" ∧ (parseMethodDescriptor y.1.desc).map (fun d => d.parameters.length) = some n) ∧ y.2.2.1 ≤ 40
/-- who is called: a cell of the world, or a constant -/
def Rc (w : Wd) (a : Nat) (CC : String) : Prop := (∃ (ci : Nat) (fs : List Value) (T : u_T) (N : Nat), vwCl[ci]? = some (CC, T, N) ∧ w.1 a = .inr (ci, fs)) ∨ (CC, a) ∈ SFO
theorem SFO_lt {q : String × Nat} (h : q ∈ SFO) : q.2 < 100 := by
  unfold SFO at h
  rcases List.mem_append.mp h with h | h
  · obtain ⟨j, hj, rfl⟩ := List.mem_map.mp h
    have := List.mem_range.mp hj
    show 10 + j < 100
    omega
  · obtain ⟨j, hj, rfl⟩ := List.mem_map.mp h
    have h9 : j < nTx := List.mem_range.mp hj
    have : nTx = 22 := rfl
    show 20 + j < 100
    omega
theorem adr_lt {sa : Nat → Nat} {z a : Nat} (h : a < 100) : adr sa z a = sa a := by
  unfold adr
  rw [if_pos h]
theorem Rc.cell {a : Nat} {CC : String} (h : Rc w a CC) {z : Nat} {sa : Nat → Nat} {D : va_G} {dA : Nat → ClassId} {s : State} {H : Heap} {locs : List Loc} (hR : Rel D dA sa z w H) (hK : va_K D vwCl (tyL dA) s) (hF : SF sa (Az z) s s.heap) (hS : va_S (Az z) s.heap H locs) : ∃ cellB : Cell, H[adr sa z a]? = some cellB ∧ cellB.vm.isStatics = false ∧ s.vm.findClass CC = some cellB.cls := by
  rcases h with ⟨ci, fs, T, N, hc, ha⟩ | h
  · have hnd : (Sum.inr (ci, fs) : Ce) ≠ dead := by
      intro e
      unfold dead at e
      injection e with e
      injection e with e1 e2
      subst e1
      rw [show vwCl[9999]? = none from rfl] at hc
      cases hc
    obtain ⟨g1, g2, g3⟩ := hR.at ha hnd
    obtain ⟨q', k1, cell, k2, k3, k4, -⟩ := g3
    exact ⟨cell, k2, by rw [k4]; rfl, by rw [k3]; exact (hK.1 ci _ hc).2.1⟩
  · have hO := (hF.2.2.1 _ h).kept hS.2.1
    obtain ⟨cell, k1, k2, k3, -⟩ := hO
    exact ⟨cell, by rw [adr_lt (SFO_lt h)]; exact k1, k2, k3⟩
/-- what is the callee's at its start -/
theorem Pre_of {av : List Value} {z : Nat} {sa : Nat → Nat} {D : va_G} {dA : Nat → ClassId} {s : State} {H : Heap} {locs : List Loc} (hR : Rel D dA sa z w H) (hK : va_K D vwCl (tyL dA) s) (hF : SF sa (Az z) s s.heap) (hS : va_S (Az z) s.heap H locs) (hz : z ≤ s.heap.size) : ∀ U : State, U.heap = H → s.WarmedH U.vm → PcM av w z sa D dA (av.map (mv sa z)).toArray U := fun U hU hW => by
  refine ⟨rfl, by rw [hU]; exact hR, va_K.moved hW.alike hK, ?_, by rw [hU]; exact Nat.le_trans hz hS.1⟩
  rw [hU]
  exact (hF.kept hS.2.1).warm hW
theorem opt_map {sa : Nat → Nat} {z : Nat} (v : Option Value) (st : List Value) : (v.map (mv sa z)).toList ++ st.map (mv sa z) = (v.toList ++ st).map (mv sa z) := by cases v <;> rfl
/-- behind a call that returns or throws -/
theorem J_run {d' kb' sb' : Nat} {st0 av : List Value} {y : MI} {QY : Po} {p : Program} {l : Launch} {e : Env} {R : Room} {s : State} {m : MethodId} {args : Array Value} {below : List Frame} {meth : Method} {c : Code} {z : Nat} {sa : Nat → Nat} {D : va_G} {dA : Nat → ClassId} {Z : State → Prop} {mc ms : Nat} (C : Cx d mi p l R s m args meth c z sa D dA) (h1 : HR mi p l e R s m args below meth c z sa D dA Q Z mc ms) (h2 : HX mi p l e R s m args below meth c z sa D dA Q Z mc ms) (h3 : HT mi p l e R s m args below meth c z sa D dA Q Z mc ms) (h4 : mc ≤ R.cells) (h5 : ms ≤ R.slots)
    {H : Heap} {locs : List Loc} {cells slots : Nat} {ls : Array Slot} (hS : va_S (Az z) s.heap H locs) (hl : lrel sa z mi.2.2.1 lc ls) (h6 : cells + (kb + kb') ≤ mc) (h7 : slots + (sb + sb') ≤ ms)
    (hr : vx_Run p l e R s m args below meth c H locs cells slots kb' sb' (F0 m pc ls st0) (st.map (mv sa z)) (QcM QY z sa D dA (av.map (mv sa z)).toArray) (XcM QY z sa D dA) (Az z))
    (kk : ∀ (v : Option Value) (w' : Wd), QY (.inl v) w' → J d mi (pc + 3) lc (v.toList ++ st) w' kb sb Q) (kx : ∀ (E : String) (w' : Wd), QY (.inr E) w' → JX d mi pc lc w' kb sb Q E) : W p l e R s m args below meth c H locs cells slots Z (F0 m pc ls st0) := by
  intro T hT X
  rcases hr T hT X with ⟨v, st₀, t, T', L, h0, X', hL, e1, e2, ⟨v0, w', hv, hq, hR', hF⟩, stp⟩ | ⟨q, st₀, t, T', L, E, ce, h0, X', hL, e1, e2, ⟨w', hq, hR', hF⟩, hce, hcv, hcl, stp⟩
  · cases hv
    obtain ⟨g1, g2, g3⟩ := vx_keep (A1 := Az z) h0 e1 hS (fun _ _ h => h) (fun _ h => h) hL hF
    have k := kk v0 w' hq p l e R s m args below meth c z sa D dA Z mc ms C h1 h2 h3 h4 h5 T'.heap (locs ++ L) (cells + kb') (slots + sb') ls (by rw [e1]; exact hR') g3 hl (by omega) (by omega)
    rw [← opt_map] at k
    obtain ⟨t2, a1, b1⟩ := k T' rfl X'
    exact ⟨t2, stp t2 a1, b1⟩
  · obtain ⟨g1, g2, g3⟩ := vx_keep (A1 := Az z) h0 e1 hS (fun _ _ h => h) (fun _ h => h) hL hF
    obtain ⟨t2, a1, b1⟩ := kx E w' hq p l e R s m args below meth c z sa D dA Z mc ms C h1 h2 h3 h4 h5 T'.heap (locs ++ L) (cells + kb') (slots + sb') ls (st.map (mv sa z)) q ce (by rw [e1]; exact hR') g3 hl (by omega) (by omega) (by rw [e1]; exact hce) hcv hcl T' rfl X'
    exact ⟨t2, stp.trans a1, b1⟩
/-- behind a call that returns -/
theorem J_runN {d' kb' sb' : Nat} {st0 av : List Value} {y : MI} {QY : Po} {p : Program} {l : Launch} {e : Env} {R : Room} {s : State} {m : MethodId} {args : Array Value} {below : List Frame} {meth : Method} {c : Code} {z : Nat} {sa : Nat → Nat} {D : va_G} {dA : Nat → ClassId} {Z : State → Prop} {mc ms : Nat} (C : Cx d mi p l R s m args meth c z sa D dA) (h1 : HR mi p l e R s m args below meth c z sa D dA Q Z mc ms) (h2 : HX mi p l e R s m args below meth c z sa D dA Q Z mc ms) (h3 : HT mi p l e R s m args below meth c z sa D dA Q Z mc ms) (h4 : mc ≤ R.cells) (h5 : ms ≤ R.slots)
    {H : Heap} {locs : List Loc} {cells slots : Nat} {ls : Array Slot} (hS : va_S (Az z) s.heap H locs) (hl : lrel sa z mi.2.2.1 lc ls) (h6 : cells + (kb + kb') ≤ mc) (h7 : slots + (sb + sb') ≤ ms)
    (hr : va_Run p l e R s m args below meth c H locs cells slots kb' sb' (F0 m pc ls st0) (st.map (mv sa z)) (QcM QY z sa D dA (av.map (mv sa z)).toArray) (Az z))
    (kk : ∀ (v : Option Value) (w' : Wd), QY (.inl v) w' → J d mi (pc + 3) lc (v.toList ++ st) w' kb sb Q) : W p l e R s m args below meth c H locs cells slots Z (F0 m pc ls st0) := by
  intro T hT X
  obtain ⟨v, st₀, t, T', L, h0, X', hL, e1, e2, ⟨v0, w', hv, hq, hR', hF⟩, stp⟩ := hr T hT X
  cases hv
  obtain ⟨g1, g2, g3⟩ := vx_keep (A1 := Az z) h0 e1 hS (fun _ _ h => h) (fun _ h => h) hL hF
  have k := kk v0 w' hq p l e R s m args below meth c z sa D dA Z mc ms C h1 h2 h3 h4 h5 T'.heap (locs ++ L) (cells + kb') (slots + sb') ls (by rw [e1]; exact hR') g3 hl (by omega) (by omega)
  rw [← opt_map] at k
  obtain ⟨t2, a1, b1⟩ := k T' rfl X'
  exact ⟨t2, stp t2 a1, b1⟩
theorem ws_in {y : MI} (hh : headC y ∈ AL) : ∀ w ∈ headC y :: AL, w ∈ AL := fun w h => (List.mem_cons.mp h).elim (fun e => e ▸ hh) (fun h => h)
theorem J_callV {idx n d' kb' sb' : Nat} {y : MI} {a : Nat} {As st0 : List Value} {QY : Po} (hd : decode mi.2.1 pc = .ok (.invokevirtual idx, 3)) (hY : YL y n) (hL : Cond.methodLink mi.1.cls idx y.1 ∈ AL ∧ Cond.instanceMethod y.1 ∈ AL ∧ Cond.selects y.1.cls y.1 y.1 ∈ AL) (hrec : Rc w a y.1.cls)
    (hM : MC d' y kb' sb' (.ref a :: As) w QY) (hn : As.length = n) (hst : st0 = As.reverse ++ .ref a :: st) (hcat : (st.map fun v => v.category).sum ≤ 8) (hdd : d' + 1 ≤ d)
    (kk : ∀ (v : Option Value) (w' : Wd), QY (.inl v) w' → J d mi (pc + 3) lc (v.toList ++ st) w' kb sb Q) (kx : ∀ (E : String) (w' : Wd), QY (.inr E) w' → JX d mi pc lc w' kb sb Q E) : J d mi pc lc st0 w (kb + kb') (sb + sb') Q := by
  intro p l e R s m args below meth c z sa D dA Z mc ms C h1 h2 h3 h4 h5 H locs cells slots ls hR hS hl h6 h7
  obtain ⟨y1, y2, y3, y4, y5⟩ := hY
  have hroom := C.room
  have hws : ∀ w ∈ wsV mi.1.cls idx y.1.cls y.1 (headC y :: AL), w ∈ AL := fun w h => by
    rcases List.mem_append.mp h with h | h
    · simp only [List.mem_cons, List.not_mem_nil, or_false] at h
      rcases h with rfl | rfl | rfl | rfl
      · exact hL.1
      · exact hL.2.1
      · exact hL.2.2
      · exact y3
    · exact ws_in y2 w h
  refine J_run (y := y) (d' := d') (av := .ref a :: As) C h1 h2 h3 h4 h5 hS hl h6 h7 (vx_runV (As := As.map (mv sa z)) (b := adr sa z a) C.1 (hM l C.2.2.2.2.2.1 z sa D dA) (cwV n C.hts (AL_goodIn hws) (by rw [y1]) rfl rfl ⟨rfl, y4.1, y4.2.1, y4.2.2⟩ ⟨by show d' + 1 ≤ R.frames; omega, by show 8 + (y.2.2.1 + 11) + 64 * d' ≤ R.locals; omega⟩) ⟨PcM_blind _ _ _ _ _ _, hrec.cell hR C.hK C.hF hS, fun U hU hW => Pre_of hR C.hK C.hF hS C.hz U hU hW⟩ rfl (by rw [List.length_map]; exact hn) hl.1 (by rw [hst]; simp [mv]) (lv_room (by rw [mv_cats]; exact hcat)) hd ⟨by omega, by omega⟩) kk kx
theorem J_callS {idx n d' kb' sb' : Nat} {y : MI} {As st0 : List Value} {QY : Po} (hd : decode mi.2.1 pc = .ok (.invokestatic idx, 3)) (hY : YL y n) (hL : Cond.methodLink mi.1.cls idx y.1 ∈ AL ∧ Cond.static y.1 ∈ AL)
    (hM : MC d' y kb' sb' As w QY) (hn : As.length = n) (hst : st0 = As.reverse ++ st) (hcat : (st.map fun v => v.category).sum ≤ 8) (hdd : d' + 1 ≤ d)
    (kk : ∀ (v : Option Value) (w' : Wd), QY (.inl v) w' → J d mi (pc + 3) lc (v.toList ++ st) w' kb sb Q) (kx : ∀ (E : String) (w' : Wd), QY (.inr E) w' → JX d mi pc lc w' kb sb Q E) : J d mi pc lc st0 w (kb + kb') (sb + sb') Q := by
  intro p l e R s m args below meth c z sa D dA Z mc ms C h1 h2 h3 h4 h5 H locs cells slots ls hR hS hl h6 h7
  obtain ⟨y1, y2, y3, y4, y5⟩ := hY
  have hroom := C.room
  have hws : ∀ w ∈ va_wsS mi.1.cls idx y.1 (headC y :: AL), w ∈ AL := fun w h => by
    rcases List.mem_append.mp h with h | h
    · simp only [List.mem_cons, List.not_mem_nil, or_false] at h
      rcases h with rfl | rfl | rfl
      · exact hL.1
      · exact hL.2
      · exact y3
    · exact ws_in y2 w h
  refine J_run (y := y) (d' := d') (av := As) C h1 h2 h3 h4 h5 hS hl h6 h7 (vx_runS (As := As.map (mv sa z)) C.1 (hM l C.2.2.2.2.2.1 z sa D dA) (va_cwS n C.hts (AL_goodIn hws) (by rw [y1]) rfl rfl ⟨y4.1, y4.2.1, y4.2.2⟩ ⟨by show d' + 1 ≤ R.frames; omega, by show 8 + (y.2.2.1 + 11) + 64 * d' ≤ R.locals; omega⟩) ⟨PcM_blind _ _ _ _ _ _, fun U hU hW => Pre_of hR C.hK C.hF hS C.hz U hU hW⟩ rfl (by rw [List.length_map]; exact hn) hl.1 (by rw [hst]; simp) (lv_room (by rw [mv_cats]; exact hcat)) hd ⟨by omega, by omega⟩) kk kx
theorem J_callSH {idx n d' kb' sb' : Nat} {y : MI} {As st0 : List Value} {QY : Po} (hd : decode mi.2.1 pc = .ok (.invokestatic idx, 3)) (hh : headC y = .codeWith y.1 y.2.1 y.2.2.1 y.2.2.2.1 y.2.2.2.2) (hY : headC y ∈ AL ∧ Cond.initialized y.1.cls ∈ AL ∧ (y.1.cls ≠ "java/lang/invoke/MethodHandle" ∧ y.1.cls ≠ "java/lang/invoke/VarHandle" ∧ (parseMethodDescriptor y.1.desc).map (fun d => d.parameters.length) = some n) ∧ y.2.2.1 ≤ 40) (hL : Cond.methodLink mi.1.cls idx y.1 ∈ AL ∧ Cond.static y.1 ∈ AL)
    (hM : MC d' y kb' sb' As w QY) (hn : As.length = n) (hst : st0 = As.reverse ++ st) (hcat : (st.map fun v => v.category).sum ≤ 8) (hdd : d' + 1 ≤ d)
    (kk : ∀ (v : Option Value) (w' : Wd), QY (.inl v) w' → J d mi (pc + 3) lc (v.toList ++ st) w' kb sb Q) (kx : ∀ (E : String) (w' : Wd), QY (.inr E) w' → JX d mi pc lc w' kb sb Q E) : J d mi pc lc st0 w (kb + kb') (sb + sb') Q := by
  intro p l e R s m args below meth c z sa D dA Z mc ms C h1 h2 h3 h4 h5 H locs cells slots ls hR hS hl h6 h7
  obtain ⟨y2, y3, y4, y5⟩ := hY
  have hroom := C.room
  have hws : ∀ w ∈ va_wsS mi.1.cls idx y.1 (headC y :: AL), w ∈ AL := fun w h => by
    rcases List.mem_append.mp h with h | h
    · simp only [List.mem_cons, List.not_mem_nil, or_false] at h
      rcases h with rfl | rfl | rfl
      · exact hL.1
      · exact hL.2
      · exact y3
    · exact ws_in y2 w h
  refine J_run (y := y) (d' := d') (av := As) C h1 h2 h3 h4 h5 hS hl h6 h7 (vx_runSX (hh := y.2.2.2.2) (As := As.map (mv sa z)) C.1 (hM l C.2.2.2.2.2.1 z sa D dA) (vx_cwSW n C.hts (AL_goodIn hws) (by rw [hh]) rfl rfl ⟨y4.1, y4.2.1, y4.2.2⟩ ⟨by show d' + 1 ≤ R.frames; omega, by show 8 + (y.2.2.1 + 11) + 64 * d' ≤ R.locals; omega⟩) ⟨PcM_blind _ _ _ _ _ _, fun U hU hW => Pre_of hR C.hK C.hF hS C.hz U hU hW⟩ rfl (by rw [List.length_map]; exact hn) hl.1 (by rw [hst]; simp) (lv_room (by rw [mv_cats]; exact hcat)) hd ⟨by omega, by omega⟩) kk kx
theorem no_X {QY : Po} (h : ∀ E w, ¬ QY (.inr E) w) (z : Nat) (sa : Nat → Nat) (D : va_G) (dA : Nat → ClassId) : ∀ E st t, ¬ XcM QY z sa D dA E st t := fun E st t ⟨w, hq, _⟩ => h E w hq
/-- a private method of a nest mate -/
theorem J_callSN {idx n d' kb' sb' : Nat} {y : MI} {As st0 : List Value} {QY : Po} {host : String} (hd : decode mi.2.1 pc = .ok (.invokestatic idx, 3)) (hY : YL y n) (hL : (mi.1.cls, idx, y.1, host) ∈ SFM ∧ Cond.static y.1 ∈ AL)
    (hM : MC d' y kb' sb' As w QY) (hno : ∀ E w, ¬ QY (.inr E) w) (hn : As.length = n) (hst : st0 = As.reverse ++ st) (hcat : (st.map fun v => v.category).sum ≤ 8) (hdd : d' + 1 ≤ d)
    (kk : ∀ (v : Option Value) (w' : Wd), QY (.inl v) w' → J d mi (pc + 3) lc (v.toList ++ st) w' kb sb Q) : J d mi pc lc st0 w (kb + kb') (sb + sb') Q := by
  intro p l e R s m args below meth c z sa D dA Z mc ms C h1 h2 h3 h4 h5 H locs cells slots ls hR hS hl h6 h7
  obtain ⟨y1, y2, y3, y4, y5⟩ := hY
  have hroom := C.room
  refine J_runN (y := y) (d' := d') (av := As) C h1 h2 h3 h4 h5 hS hl h6 h7 (va_runSN (host := host) (As := As.map (mv sa z)) C.1 (Met_of_vx (hM l C.2.2.2.2.2.1 z sa D dA) (no_X hno z sa D dA)) ⟨va_cnB n C.hts (AL_goodIn (ws_in y2)) (by rw [y1]) rfl rfl (C.hF.2.2.2.2.2.2.1 _ hL.1) (C.hts _ y3) ⟨y4.1, y4.2.1, y4.2.2⟩ ⟨by show d' + 1 ≤ R.frames; omega, by show 8 + (y.2.2.1 + 11) + 64 * d' ≤ R.locals; omega⟩, C.hts _ hL.2, trivial⟩ ⟨PcM_blind _ _ _ _ _ _, fun U hU hW => Pre_of hR C.hK C.hF hS C.hz U hU hW⟩ rfl (by rw [List.length_map]; exact hn) hl.1 (by rw [hst]; simp) (lv_room (by rw [mv_cats]; exact hcat)) hd ⟨by omega, by omega⟩) kk
/-- a constructor -/
theorem J_callI {idx n d' kb' sb' : Nat} {y : MI} {a : Nat} {As st0 : List Value} {QY : Po} (hd : decode mi.2.1 pc = .ok (.invokespecial idx, 3)) (hY : YL y n) (hr : y.2.2.2.1 = none) (hy : y.1.name = "<init>") (hL : Cond.methodLink mi.1.cls idx y.1 ∈ AL ∧ Cond.instanceMethod y.1 ∈ AL)
    (hM : MC d' y kb' sb' (.ref a :: As) w QY) (hno : ∀ E w, ¬ QY (.inr E) w) (hn : As.length = n) (hst : st0 = As.reverse ++ .ref a :: st) (hcat : (st.map fun v => v.category).sum ≤ 8) (hdd : d' + 1 ≤ d)
    (kk : ∀ (v : Option Value) (w' : Wd), QY (.inl v) w' → J d mi (pc + 3) lc (v.toList ++ st) w' kb sb Q) : J d mi pc lc st0 w (kb + kb') (sb + sb') Q := by
  intro p l e R s m args below meth c z sa D dA Z mc ms C h1 h2 h3 h4 h5 H locs cells slots ls hR hS hl h6 h7
  obtain ⟨y1, y2, y3, y4, y5⟩ := hY
  have hroom := C.room
  refine J_runN (y := y) (d' := d') (av := .ref a :: As) C h1 h2 h3 h4 h5 hS hl h6 h7 (va_runI (b := adr sa z a) (As := As.map (mv sa z)) C.1 (Met_of_vx (hM l C.2.2.2.2.2.1 z sa D dA) (no_X hno z sa D dA)) (cwI n C.hts (AL_goodIn (ws_in y2)) (by rw [y1, hr]) rfl rfl (C.hts _ y3) (C.hts _ hL.1) (C.hts _ hL.2) hy ⟨y4.1, y4.2.1, y4.2.2⟩ ⟨by show d' + 1 ≤ R.frames; omega, by show 8 + (y.2.2.1 + 11) + 64 * d' ≤ R.locals; omega⟩) ⟨PcM_blind _ _ _ _ _ _, fun U hU hW => Pre_of hR C.hK C.hF hS C.hz U hU hW⟩ rfl (by rw [List.length_map]; exact hn) hl.1 (by rw [hst]; simp [mv]) (lv_room (by rw [mv_cats]; exact hcat)) hd ⟨by omega, by omega⟩) kk
/-- a nest mate's private constructor -/
theorem J_callIN {idx n d' kb' sb' : Nat} {y : MI} {a : Nat} {As st0 : List Value} {QY : Po} {host : String} (hd : decode mi.2.1 pc = .ok (.invokespecial idx, 3)) (hY : YL y n) (hr : y.2.2.2.1 = none) (hy : y.1.name = "<init>") (hL : (mi.1.cls, idx, y.1, host) ∈ SFM ∧ Cond.instanceMethod y.1 ∈ AL)
    (hM : MC d' y kb' sb' (.ref a :: As) w QY) (hno : ∀ E w, ¬ QY (.inr E) w) (hn : As.length = n) (hst : st0 = As.reverse ++ .ref a :: st) (hcat : (st.map fun v => v.category).sum ≤ 8) (hdd : d' + 1 ≤ d)
    (kk : ∀ (v : Option Value) (w' : Wd), QY (.inl v) w' → J d mi (pc + 3) lc (v.toList ++ st) w' kb sb Q) : J d mi pc lc st0 w (kb + kb') (sb + sb') Q := by
  intro p l e R s m args below meth c z sa D dA Z mc ms C h1 h2 h3 h4 h5 H locs cells slots ls hR hS hl h6 h7
  obtain ⟨y1, y2, y3, y4, y5⟩ := hY
  have hroom := C.room
  refine J_runN (y := y) (d' := d') (av := .ref a :: As) C h1 h2 h3 h4 h5 hS hl h6 h7 (va_runIN (host := host) (b := adr sa z a) (As := As.map (mv sa z)) C.1 (Met_of_vx (hM l C.2.2.2.2.2.1 z sa D dA) (no_X hno z sa D dA)) ⟨va_cnB n C.hts (AL_goodIn (ws_in y2)) (by rw [y1, hr]) rfl rfl (C.hF.2.2.2.2.2.2.1 _ hL.1) (C.hts _ y3) ⟨y4.1, y4.2.1, y4.2.2⟩ ⟨by show d' + 1 ≤ R.frames; omega, by show 8 + (y.2.2.1 + 11) + 64 * d' ≤ R.locals; omega⟩, hy, C.hts _ hL.2⟩ ⟨PcM_blind _ _ _ _ _ _, fun U hU hW => Pre_of hR C.hK C.hF hS C.hz U hU hW⟩ rfl (by rw [List.length_map]; exact hn) hl.1 (by rw [hst]; simp [mv]) (lv_room (by rw [mv_cats]; exact hcat)) hd ⟨by omega, by omega⟩) kk
/-- an inherited method of a superclass that isn't the class's own: Enum.ordinal -/
theorem J_callU {idx n d' kb' sb' : Nat} {y : MI} {x : MethodName} {CC : String} {a : Nat} {As st0 : List Value} {QY : Po} (hd : decode mi.2.1 pc = .ok (.invokevirtual idx, 3)) (hY : YL y n) (hyx : y.1 = ⟨y.1.cls, x.name, x.desc⟩) (hL : Cond.methodLink mi.1.cls idx x ∈ AL ∧ Cond.sameMethod x.cls y.1.cls x.name x.desc ∈ AL ∧ Cond.selects CC x y.1 ∈ AL ∧ Cond.instanceMethod y.1 ∈ AL) (hrec : Rc w a CC)
    (hM : MC d' y kb' sb' (.ref a :: As) w QY) (hno : ∀ E w, ¬ QY (.inr E) w) (hn : As.length = n) (hst : st0 = As.reverse ++ .ref a :: st) (hcat : (st.map fun v => v.category).sum ≤ 8) (hdd : d' + 1 ≤ d)
    (kk : ∀ (v : Option Value) (w' : Wd), QY (.inl v) w' → J d mi (pc + 3) lc (v.toList ++ st) w' kb sb Q) : J d mi pc lc st0 w (kb + kb') (sb + sb') Q := by
  intro p l e R s m args below meth c z sa D dA Z mc ms C h1 h2 h3 h4 h5 H locs cells slots ls hR hS hl h6 h7
  obtain ⟨y1, y2, y3, y4, y5⟩ := hY
  have hroom := C.room
  have hws : ∀ w ∈ va_wsU mi.1.cls idx CC y.1.cls x y.1 (headC y :: AL), w ∈ AL := fun w h => by
    rcases List.mem_append.mp h with h | h
    · simp only [List.mem_cons, List.not_mem_nil, or_false] at h
      rcases h with rfl | rfl | rfl | rfl | rfl
      · exact hL.1
      · exact hL.2.1
      · exact hL.2.2.1
      · exact hL.2.2.2
      · exact y3
    · exact ws_in y2 w h
  have hdx : (parseMethodDescriptor x.desc).map (fun d => d.parameters.length) = some n := by
    have := y4.2.2
    rw [hyx] at this
    exact this
  refine J_runN (y := y) (d' := d') (av := .ref a :: As) C h1 h2 h3 h4 h5 hS hl h6 h7 (va_runU (x := x) (owner := y.1.cls) (b := adr sa z a) (As := As.map (mv sa z)) C.1 (Met_of_vx (hM l C.2.2.2.2.2.1 z sa D dA) (no_X hno z sa D dA)) (va_cwU n C.hts (AL_goodIn hws) (by rw [y1]) rfl rfl hyx ⟨y4.1, y4.2.1, hdx⟩ ⟨by show d' + 1 ≤ R.frames; omega, by show 8 + (y.2.2.1 + 11) + 64 * d' ≤ R.locals; omega⟩) ⟨PcM_blind _ _ _ _ _ _, hrec.cell hR C.hK C.hF hS, fun U hU hW => Pre_of hR C.hK C.hF hS C.hz U hU hW⟩ rfl (by rw [List.length_map]; exact hn) hl.1 (by rw [hst]; simp [mv]) (lv_room (by rw [mv_cats]; exact hcat)) hd ⟨by omega, by omega⟩) kk
theorem J_objInit {idx : Nat} {a : Nat} (hd : decode mi.2.1 pc = .ok (.invokespecial idx, 3)) (hL : Cond.methodLink mi.1.cls idx Lib.objectInit ∈ AL ∧ Cond.instanceMethod Lib.objectInit ∈ AL ∧ Cond.code Lib.objectInit ⟨#[0xb1]⟩ 1 none ∈ AL) (hcat : (st.map fun v => v.category).sum ≤ 8) (hdd : 1 ≤ d) (kk : J d mi (pc + 3) lc st w kb sb Q) : J d mi pc lc (.ref a :: st) w kb sb Q := by
  intro p l e R s m args below meth c z sa D dA Z mc ms C h1 h2 h3 h4 h5 H locs cells slots ls hR hS hl h6 h7
  have hroom := C.room
  exact W.objInit C.1.1 C.1.2.1 C.own (C.hts _ hL.1) (C.hts _ hL.2.1) (C.hts _ hL.2.2) rfl (by rw [C.1.2.2.1]; exact hl.1) (a := adr sa z a) (rest := st.map (mv sa z)) rfl hd (by omega) (by rw [mv_cats]; show 2 * 0 + _ + 12 ≤ _; omega) (kk p l e R s m args below meth c z sa D dA Z mc ms C h1 h2 h3 h4 h5 H locs cells slots ls hR hS hl h6 h7)
end
end JCALLS
end
section
/-! constants of the old heap, texts, copies of rows, what is caught -/
section JSTAT
variable {d : Nat} {mi : MI} {pc : Nat} {lc : List (Option Value)} {st : List Value} {w : Wd} {kb sb : Nat} {Q : Po}
/-- a value that is no cell of the world -/
def sv : Value → Bool
  | .ref r => decide (r < 100)
  | _ => true
theorem sv_mv {sa : Nat → Nat} {z : Nat} {v : Value} (h : sv v = true) : mv sa z v = mv sa 0 v := by
  cases v with
  | ref r =>
    have hr : r < 100 := by simpa [sv] using h
    show Value.ref (adr sa z r) = Value.ref (adr sa 0 r)
    rw [adr_lt hr, adr_lt hr]
  | _ => rfl
theorem J_getstatic {idx : Nat} {CC n ds : String} {v : Value} (hd : decode mi.2.1 pc = .ok (.getstatic idx, 3)) (hm : (CC, n, ds, v) ∈ SFZ) (hv : sv v = true) (hL : Cond.fieldLink mi.1.cls idx CC n ds ∈ AL) (k : J d mi (pc + 3) lc (v :: st) w kb sb Q) : J d mi pc lc st w kb sb Q := by
  intro p l e R s m args below meth c z sa D dA Z mc ms C h1 h2 h3 h4 h5 H locs cells slots ls hR hS hl h6 h7
  have k1 := k p l e R s m args below meth c z sa D dA Z mc ms C h1 h2 h3 h4 h5 H locs cells slots ls hR hS hl h6 h7
  rw [List.map_cons, sv_mv hv] at k1
  exact va_gets C.1.1 C.1.2.1 (C.hF.1 _ hm) hS C.own (C.hts _ hL) (fun _ h => h) hd k1
theorem J_getstaticN {idx : Nat} {CC n ds host : String} {v : Value} (hd : decode mi.2.1 pc = .ok (.getstatic idx, 3)) (hm : (CC, n, ds, v) ∈ SFZ) (hv : sv v = true) (hL : (mi.1.cls, idx, CC, n, ds, host) ∈ SFG) (k : J d mi (pc + 3) lc (v :: st) w kb sb Q) : J d mi pc lc st w kb sb Q := by
  intro p l e R s m args below meth c z sa D dA Z mc ms C h1 h2 h3 h4 h5 H locs cells slots ls hR hS hl h6 h7
  have k1 := k p l e R s m args below meth c z sa D dA Z mc ms C h1 h2 h3 h4 h5 H locs cells slots ls hR hS hl h6 h7
  rw [List.map_cons, sv_mv hv] at k1
  exact va_getsN C.1.1 C.1.2.1 (C.hF.1 _ hm) hS C.own (va_Nw.use rfl (C.hF.2.2.2.2.2.2.2.1 _ hL)) (fun _ h => h) hd k1
theorem J_getsQ {idx : Nat} (hd : decode mi.2.1 pc = .ok (.getstatic idx, 3)) (hL : Cond.fieldLink mi.1.cls idx jPre "SIOOBE_FORMATTER" jFmt ∈ AL) (k : ∀ v : Value, v.category = 1 → J d mi (pc + 3) lc (v :: st) w kb sb Q) : J d mi pc lc st w kb sb Q := by
  intro p l e R s m args below meth c z sa D dA Z mc ms C h1 h2 h3 h4 h5 H locs cells slots ls hR hS hl h6 h7
  rcases C.hF.2.2.2.2.2.2.2.2.2.1 with h | h
  · exact va_gets C.1.1 C.1.2.1 h hS C.own (C.hts _ hL) (fun _ h => h) hd (k .null rfl p l e R s m args below meth c z sa D dA Z mc ms C h1 h2 h3 h4 h5 H locs cells slots ls hR hS hl h6 h7)
  · exact va_gets C.1.1 C.1.2.1 h hS C.own (C.hts _ hL) (fun _ h => h) hd (k (.ref 2) rfl p l e R s m args below meth c z sa D dA Z mc ms C h1 h2 h3 h4 h5 H locs cells slots ls hR hS hl h6 h7)
theorem J_sgetf {idx id : Nat} {o n ds : String} {v : Value} (hd : decode mi.2.1 pc = .ok (.getfield idx, 3)) (hm : (o, n, ds, v, id) ∈ SFF) (hv : sv v = true) (hi : id < 100) (hL : Cond.fieldLink mi.1.cls idx o n ds ∈ AL) (k : J d mi (pc + 3) lc (v :: st) w kb sb Q) : J d mi pc lc (.ref id :: st) w kb sb Q := by
  intro p l e R s m args below meth c z sa D dA Z mc ms C h1 h2 h3 h4 h5 H locs cells slots ls hR hS hl h6 h7
  have k1 := k p l e R s m args below meth c z sa D dA Z mc ms C h1 h2 h3 h4 h5 H locs cells slots ls hR hS hl h6 h7
  rw [List.map_cons, sv_mv hv] at k1
  rw [List.map_cons, show mv sa z (.ref id) = .ref (sa id) by show Value.ref (adr sa z id) = _; rw [adr_lt hi]]
  exact vk_getf C.1.1 C.1.2.1 (C.hF.2.2.2.1 _ hm) hS C.own (C.hts _ hL) (fun _ h => h) hd k1
theorem J_salen {id N : Nat} {ty : FieldType} {f : Nat → Value} {v : Int32} (hd : decode mi.2.1 pc = .ok (.arraylength, 1)) (hm : (ty, id, N, f) ∈ SFT) (hi : id < 100) (hv : Int32.ofNat N = v) (k : J d mi (pc + 1) lc (.int v :: st) w kb sb Q) : J d mi pc lc (.ref id :: st) w kb sb Q := by
  intro p l e R s m args below meth c z sa D dA Z mc ms C h1 h2 h3 h4 h5 H locs cells slots ls hR hS hl h6 h7
  rw [List.map_cons, show mv sa z (.ref id) = .ref (sa id) by show Value.ref (adr sa z id) = _; rw [adr_lt hi]]
  exact va_tlen C.1.1 C.1.2.1 (C.hF.2.1 _ hm) hS hv hd (k p l e R s m args below meth c z sa D dA Z mc ms C h1 h2 h3 h4 h5 H locs cells slots ls hR hS hl h6 h7)
theorem J_siald {id N : Nat} {f : Nat → Value} {i : Int32} {v : Value} (hd : decode mi.2.1 pc = .ok (.iaload, 1)) (hm : (.int, id, N, f) ∈ SFT) (hi : id < 100) (hin : vp_in i N) (hv : f i.toNatClampNeg = v) (hs : sv v = true) (k : J d mi (pc + 1) lc (v :: st) w kb sb Q) : J d mi pc lc (.int i :: .ref id :: st) w kb sb Q := by
  intro p l e R s m args below meth c z sa D dA Z mc ms C h1 h2 h3 h4 h5 H locs cells slots ls hR hS hl h6 h7
  have k1 := k p l e R s m args below meth c z sa D dA Z mc ms C h1 h2 h3 h4 h5 H locs cells slots ls hR hS hl h6 h7
  rw [List.map_cons, sv_mv hs] at k1
  rw [List.map_cons, List.map_cons, show mv sa z (.ref id) = .ref (sa id) by show Value.ref (adr sa z id) = _; rw [adr_lt hi]]
  exact va_ti C.1.1 C.1.2.1 (C.hF.2.1 _ hm) hS hin (by rw [← hv]) hd k1
theorem J_sbald {id N : Nat} {f : Nat → Value} {i : Int32} {v : Value} (hd : decode mi.2.1 pc = .ok (.baload, 1)) (hm : (.byte, id, N, f) ∈ SFT) (hi : id < 100) (hin : vp_in i N) (hv : f i.toNatClampNeg = v) (hs : sv v = true) (k : J d mi (pc + 1) lc (v :: st) w kb sb Q) : J d mi pc lc (.int i :: .ref id :: st) w kb sb Q := by
  intro p l e R s m args below meth c z sa D dA Z mc ms C h1 h2 h3 h4 h5 H locs cells slots ls hR hS hl h6 h7
  have k1 := k p l e R s m args below meth c z sa D dA Z mc ms C h1 h2 h3 h4 h5 H locs cells slots ls hR hS hl h6 h7
  rw [List.map_cons, sv_mv hs] at k1
  rw [List.map_cons, List.map_cons, show mv sa z (.ref id) = .ref (sa id) by show Value.ref (adr sa z id) = _; rw [adr_lt hi]]
  exact va_tb C.1.1 C.1.2.1 (C.hF.2.1 _ hm) hS hin (by rw [← hv]) hd k1
theorem J_saald {id N : Nat} {EE : String} {f : Nat → Value} {i : Int32} {v : Value} (hd : decode mi.2.1 pc = .ok (.aaload, 1)) (hm : (.object EE, id, N, f) ∈ SFT) (hi : id < 100) (hin : vp_in i N) (hv : f i.toNatClampNeg = v) (hs : sv v = true) (k : J d mi (pc + 1) lc (v :: st) w kb sb Q) : J d mi pc lc (.int i :: .ref id :: st) w kb sb Q := by
  intro p l e R s m args below meth c z sa D dA Z mc ms C h1 h2 h3 h4 h5 H locs cells slots ls hR hS hl h6 h7
  have k1 := k p l e R s m args below meth c z sa D dA Z mc ms C h1 h2 h3 h4 h5 H locs cells slots ls hR hS hl h6 h7
  rw [List.map_cons, sv_mv hs] at k1
  rw [List.map_cons, List.map_cons, show mv sa z (.ref id) = .ref (sa id) by show Value.ref (adr sa z id) = _; rw [adr_lt hi]]
  exact vb_tq C.1.1 C.1.2.1 (C.hF.2.1 _ hm) hS hin (by rw [← hv]) hd k1
theorem J_ldcS {idx id : Nat} {tx : String} (hd : decode mi.2.1 pc = .ok (.ldc idx, 2)) (hm : (mi.1.cls, idx, tx, id) ∈ SFR) (hi : id < 100) (k : J d mi (pc + 2) lc (.ref id :: st) w kb sb Q) : J d mi pc lc st w kb sb Q := by
  intro p l e R s m args below meth c z sa D dA Z mc ms C h1 h2 h3 h4 h5 H locs cells slots ls hR hS hl h6 h7
  have k1 := k p l e R s m args below meth c z sa D dA Z mc ms C h1 h2 h3 h4 h5 H locs cells slots ls hR hS hl h6 h7
  rw [List.map_cons, show mv sa z (.ref id) = .ref (sa id) by show Value.ref (adr sa z id) = _; rw [adr_lt hi]] at k1
  exact va_ldcS C.1.1 C.1.2.1 C.own (C.hF.2.2.2.2.1 _ hm) hd k1
theorem J_ldcwS {idx id : Nat} {tx : String} (hd : decode mi.2.1 pc = .ok (.ldc_w idx, 3)) (hm : (mi.1.cls, idx, tx, id) ∈ SFR) (hi : id < 100) (k : J d mi (pc + 3) lc (.ref id :: st) w kb sb Q) : J d mi pc lc st w kb sb Q := by
  intro p l e R s m args below meth c z sa D dA Z mc ms C h1 h2 h3 h4 h5 H locs cells slots ls hR hS hl h6 h7
  have k1 := k p l e R s m args below meth c z sa D dA Z mc ms C h1 h2 h3 h4 h5 H locs cells slots ls hR hS hl h6 h7
  rw [List.map_cons, show mv sa z (.ref id) = .ref (sa id) by show Value.ref (adr sa z id) = _; rw [adr_lt hi]] at k1
  intro T hT X
  obtain ⟨t, a1, b1⟩ := k1 T hT X
  exact ⟨t, X.ldcStringW C.1.1 C.own (text := tx) (a := sa id) (C.hF.2.2.2.2.1 _ hm).1 (C.hF.2.2.2.2.1 _ hm).2 (g := F0 m pc ls (st.map (mv sa z))) rfl (by rw [C.1.2.1]; exact hd) t a1, b1⟩
theorem J_ldcw {idx : Nat} {v : Int32} (hd : decode mi.2.1 pc = .ok (.ldc_w idx, 3)) (hL : Cond.constant mi.1.cls idx v ∈ AL) (k : J d mi (pc + 3) lc (.int v :: st) w kb sb Q) : J d mi pc lc st w kb sb Q := by
  intro p l e R s m args below meth c z sa D dA Z mc ms C h1 h2 h3 h4 h5 H locs cells slots ls hR hS hl h6 h7
  exact lv_ldcw C.1.1 C.1.2.1 C.own (C.hts _ hL) hd (k p l e R s m args below meth c z sa D dA Z mc ms C h1 h2 h3 h4 h5 H locs cells slots ls hR hS hl h6 h7)
theorem J_dconst0 (hd : decode mi.2.1 pc = .ok (.dconst 0, 1)) (k : J d mi (pc + 1) lc (.double (FP.i2d 0) :: st) w kb sb Q) : J d mi pc lc st w kb sb Q := by
  intro p l e R s m args below meth c z sa D dA Z mc ms C h1 h2 h3 h4 h5 H locs cells slots ls hR hS hl h6 h7
  exact lv_dconst0 C.1.1 C.1.2.1 hd (k p l e R s m args below meth c z sa D dA Z mc ms C h1 h2 h3 h4 h5 H locs cells slots ls hR hS hl h6 h7)
theorem J_fconst0 (hd : decode mi.2.1 pc = .ok (.fconst 0, 1)) (k : J d mi (pc + 1) lc (.float (FP.i2f 0) :: st) w kb sb Q) : J d mi pc lc st w kb sb Q := by
  intro p l e R s m args below meth c z sa D dA Z mc ms C h1 h2 h3 h4 h5 H locs cells slots ls hR hS hl h6 h7
  exact lv_fconst0 C.1.1 C.1.2.1 hd (k p l e R s m args below meth c z sa D dA Z mc ms C h1 h2 h3 h4 h5 H locs cells slots ls hR hS hl h6 h7)
/-- an exception is caught by the row k of the table, and put away into the local i -/
theorem JX_catch {E name : String} {x : ExceptionTableEntry} {pre suf : List ExceptionTableEntry} {i : Nat} {n : Fin 4} (hsplit : tableOf mi.2.2.2.2 = pre ++ x :: suf) (hpass : ∀ y ∈ pre, covers y pc = false ∨ (y.catchType ≠ 0 ∧ ∃ nm : String, Cond.classLink mi.1.cls y.catchType nm ∈ AL ∧ (E, nm) ∈ SFC)) (hx : covers x pc = true) (h0 : x.catchType ≠ 0) (hlink : Cond.classLink mi.1.cls x.catchType name ∈ AL) (hcast : Cond.castable E name ∈ OL)
    (hst : (decode mi.2.1 x.handlerPc = .ok (.astore_n n, 1) ∧ (n : Nat) = i ∧ ∃ j, j = 1 ∧ J d mi (x.handlerPc + j) (lc.set i none) [] w kb sb Q) ∨ (decode mi.2.1 x.handlerPc = .ok (.astore i, 2) ∧ J d mi (x.handlerPc + 2) (lc.set i none) [] w kb sb Q)) (hi : i < mi.2.2.1) (hok : okst lc i = true) : JX d mi pc lc w kb sb Q E := by
  intro p l e R s m args below meth c z sa D dA Z mc ms C h1 h2 h3 h4 h5 H locs cells slots ls rest q ce hR hS hl h6 h7 g1 g2 g3
  refine vx_catch C.own pre x suf (by rw [C.2.2.2.2.1]; exact hsplit) (fun y hy => ?_) hx h0 (C.hts _ hlink) (va_Nw.use (by rfl) (C.hF.2.2.2.2.2.2.2.2.2.2.2.2.2 _ hcast)) g1 g2 g3 ?_
  · rcases hpass y hy with h | ⟨ha, nm, hb, hc⟩
    · exact Or.inl h
    · exact Or.inr ⟨ha, nm, C.hts _ hb, C.hF.2.2.2.2.2.2.2.2.1 _ hc⟩
  · have key : ∀ ls' : Array Slot, lv_has ls' mi.2.2.1 ((i, .ref q) :: (lcL sa z lc).filter (fun q => !(q.1 == i) && !(q.1 + 1 == i && q.2.category == 2))) → lrel sa z mi.2.2.1 (lc.set i none) ls' := fun ls' h' => by
      refine ⟨h'.1, h'.2.1, fun j v hj => ?_⟩
      by_cases e : j = i
      · subst e
        by_cases hlt : j < lc.length
        · rw [List.getElem?_set_self hlt] at hj
          cases hj
        · rw [List.getElem?_eq_none (by rw [List.length_set]; omega)] at hj
          cases hj
      · rw [List.getElem?_set_ne (Ne.symm e)] at hj
        refine h'.2.2 (j, mv sa z v) (List.mem_cons_of_mem _ (List.mem_filter.mpr ⟨lcL_mem hj, ?_⟩))
        have e1 : (j == i) = false := by simpa using e
        simp only [e1, Bool.not_false, Bool.true_and, mv_cat]
        cases i with
        | zero => simp
        | succ n =>
          by_cases e2 : j = n
          · subst e2
            simp only [okst, hj] at hok
            simpa using hok
          · have e3 : (j + 1 == n + 1) = false := by simpa using e2
            rw [e3]; rfl
    rcases hst with ⟨hd, hn, j, rfl, k⟩ | ⟨hd, k⟩
    · exact lv_astore_n C.1.1 C.1.2.1 hd hn hl.has hi rfl (fun ls' h' => k p l e R s m args below meth c z sa D dA Z mc ms C h1 h2 h3 h4 h5 H locs cells slots ls' hR hS (key ls' h') h6 h7)
    · exact lv_astore C.1.1 C.1.2.1 hd hl.has hi rfl (fun ls' h' => k p l e R s m args below meth c z sa D dA Z mc ms C h1 h2 h3 h4 h5 H locs cells slots ls' hR hS (key ls' h') h6 h7)
/-- System.arraycopy of a row of ints onto another one -/
theorem J_copyi {idx a b n0 n1 : Nat} {f g : Nat → Int32} {sp dp n : Int32} (hd : decode mi.2.1 pc = .ok (.invokestatic idx, 3)) (hL : Cond.methodLink mi.1.cls idx arraycopyName ∈ AL ∧ Cond.native arraycopyName ∈ AL ∧ Cond.static arraycopyName ∈ AL ∧ Cond.initialized "java/lang/System" ∈ AL) (ha : w.1 a = .inl (0, n0, .inl f)) (hb : w.1 b = .inl (0, n1, .inl g)) (g1 : ¬ sp < 0) (g2 : ¬ dp < 0) (g3 : ¬ n < 0) (g4 : sp.toNatClampNeg + n.toNatClampNeg ≤ n0) (g5 : dp.toNatClampNeg + n.toNatClampNeg ≤ n1) (hcat : (st.map fun v => v.category).sum ≤ 8) (hdd : 2 ≤ d)
    (kk : J d mi (pc + 3) lc st (upW w b (.inl (0, n1, .inl (va_cpy f g sp.toNatClampNeg dp.toNatClampNeg n.toNatClampNeg)))) kb sb Q) : J d mi pc lc (.int n :: .int dp :: .ref b :: .int sp :: .ref a :: st) w kb sb Q := by
  intro p l e R s m args below meth c z sa D dA Z mc ms C h1 h2 h3 h4 h5 H locs cells slots ls hR hS hl h6 h7
  obtain ⟨a1, a2, a3⟩ := hR.at ha (inl_nd _)
  obtain ⟨b1, b2, b3⟩ := hR.at hb (inl_nd _)
  have hroom := C.room
  have hc0 : H[adr sa z a]? = some (vp_cell (dA 0) (n0, .inl f)) := a3
  have hc1 : H[adr sa z b]? = some (vp_cell (dA 0) (n1, .inl g)) := b3
  have nn : ∀ x : Int32, ¬ x < 0 → x.toInt = (x.toNatClampNeg : Int) := by
    intro x hx
    have hx0 : (0 : Int) ≤ x.toInt := by
      have := Int32.not_lt.mp hx
      simpa using Int32.le_iff_toInt_le.mp this
    show x.toInt = ((x.toInt.toNat : Nat) : Int)
    omega
  obtain ⟨-, k0, hk0, cm0, hkk0⟩ := (C.hK.2 0 _ rfl).1 n0 (fun j => .int (f j))
  obtain ⟨-, k1, hk1, cm1, hkk1⟩ := (C.hK.2 0 _ rfl).1 n1 (fun j => .int (g j))
  intro T hT X
  obtain ⟨vm', X', step⟩ := X.arraycopy C.1.1 C.own (C.hts _ hL.1) (C.hts _ hL.2.1) (C.hts _ hL.2.2.1) (C.hts _ hL.2.2.2) (src := adr sa z a) (dst := adr sa z b) (cs := vp_cell (dA 0) (n0, .inl f)) (cd := vp_cell (dA 0) (n1, .inl g)) (srcPos := sp) (destPos := dp) (n := n) (by rw [hT]; exact hc0) (by rw [hT]; exact hc1)
    (fun _ h => by cases h) (fun _ h => by cases h) (fun h => by cases h) (fun h => by cases h) hk0 hk1 hkk0 hkk1 (by rfl) g1 g2 g3
    (by rw [nn sp g1, nn n g3]; show ¬ _ > ((arrV (dA 0) n0 (fun j => .int (f j))).slots.size : Int); rw [arrV_size]; omega)
    (by rw [nn dp g2, nn n g3]; show ¬ _ > ((arrV (dA 0) n1 (fun j => .int (g j))).slots.size : Int); rw [arrV_size]; omega)
    (fun vm₁ _ i hi => by
      have e : (vp_cell (dA 0) (n0, .inl f)).slots.getD (sp.toNatClampNeg + i) .null = .int (f (sp.toNatClampNeg + i)) := by
        show (arrV (dA 0) n0 (fun j => .int (f j))).slots.getD _ _ = _
        rw [Array.getD_eq_getD_getElem?, arrV_read _ _ (by omega)]
        rfl
      refine ⟨?_, ?_⟩
      · rw [e]
        rfl
      · rw [e]
        exact trivial)
    (g := F0 m pc ls ((.int n :: .int dp :: .ref b :: .int sp :: .ref a :: st).map (mv sa z))) rfl (by rw [C.1.2.2.1]; exact hl.1) (rest := st.map (mv sa z)) rfl (by rw [C.1.2.1]; exact hd) (by omega) (by
      have := mv_cats sa z st
      have h9 : nativeFrameWords "java/lang/System" "arraycopy" 5 + 11 ≤ 100 := by decide +kernel
      rw [mv_cats]
      show 2 * 0 + _ + _ ≤ _
      omega)
  have e1 : copied (vp_cell (dA 0) (n0, .inl f)) (vp_cell (dA 0) (n1, .inl g)) sp dp n = vp_cell (dA 0) (n1, .inl (va_cpy f g sp.toNatClampNeg dp.toNatClampNeg n.toNatClampNeg)) := va_copied (fun z => .int z) (dA 0) (dA 0) f g g4
  rw [e1] at X' step
  have hl9 : adr sa z b < H.size := (Array.getElem?_eq_some_iff.mp hc1).1
  have hheap : ((T.setVm vm').setCell (adr sa z b) (vp_cell (dA 0) (n1, .inl (va_cpy f g sp.toNatClampNeg dp.toNatClampNeg n.toNatClampNeg)))).heap = H.setIfInBounds (adr sa z b) (vp_cell (dA 0) (n1, .inl (va_cpy f g sp.toNatClampNeg dp.toNatClampNeg n.toNatClampNeg))) := by rw [← hT]; rfl
  have oq : ∀ q : Nat, q ≠ adr sa z b → (H.setIfInBounds (adr sa z b) (vp_cell (dA 0) (n1, .inl (va_cpy f g sp.toNatClampNeg dp.toNatClampNeg n.toNatClampNeg))))[q]? = H[q]? := fun q hq => by simp [Array.getElem?_setIfInBounds, Ne.symm hq]
  have hzb : z ≤ adr sa z b := by rw [adr_ge b1]; omega
  have hS1 : ∀ L : List Loc, (∀ q ∈ L, q.base = adr sa z b) → va_S (Az z) s.heap (H.setIfInBounds (adr sa z b) (vp_cell (dA 0) (n1, .inl (va_cpy f g sp.toNatClampNeg dp.toNatClampNeg n.toNatClampNeg)))) (locs ++ L) := by
    intro L hL9
    refine ⟨by simp; exact hS.1, fun q q1 q2 => ?_, fun q hq => ?_⟩
    · rw [oq q (fun e => q2 (by rw [e]; exact hzb))]
      exact hS.2.1 q q1 q2
    · rcases List.mem_append.mp hq with h | h
      · exact hS.2.2 q h
      · rw [hL9 q h]
        exact hzb
  obtain ⟨t, t1, t2⟩ := kk p l e R s m args below meth c z sa D dA Z mc ms C h1 h2 h3 h4 h5 _ _ cells slots ls (hR.set hb (inl_nd _) (by simp) oq (show va_at D vwCl (adr sa z b, tr sa z dA (.inl (0, n1, .inl (va_cpy f g sp.toNatClampNeg dp.toNatClampNeg n.toNatClampNeg)))) _ from (show (H.setIfInBounds (adr sa z b) _)[adr sa z b]? = some _ by simp [Array.getElem?_setIfInBounds, hl9]; rfl))) (hS1 _ (fun q hq => by obtain ⟨y, -, hy⟩ := List.mem_map.mp hq; rw [← hy])) hl h6 h7 _ hheap X'
  exact ⟨t, step t t1, t2⟩
end JSTAT
end
section
section JLINKS
theorem T0 {w : Cond} (h : w ∈ k2_sels lw_privs) : w ∈ lw_tbl := List.mem_append_left _ h
theorem T1 {w : Cond} (h : w ∈ tables_1_1) : w ∈ lw_tbl := List.mem_append_right _ (List.mem_append_left _ h)
theorem T2 {w : Cond} (h : w ∈ tables_1_2) : w ∈ lw_tbl := List.mem_append_right _ (List.mem_append_right _ (List.mem_append_left _ h))
theorem T3 {w : Cond} (h : w ∈ tables_1_3) : w ∈ lw_tbl := List.mem_append_right _ (List.mem_append_right _ (List.mem_append_right _ (List.mem_append_left _ h)))
theorem T4 {w : Cond} (h : w ∈ tables_1_4) : w ∈ lw_tbl := List.mem_append_right _ (List.mem_append_right _ (List.mem_append_right _ (List.mem_append_right _ (List.mem_append_left _ h))))
theorem T5 {w : Cond} (h : w ∈ tables_1_5) : w ∈ lw_tbl := List.mem_append_right _ (List.mem_append_right _ (List.mem_append_right _ (List.mem_append_right _ (List.mem_append_right _ (List.mem_append_left _ h)))))
theorem T6 {w : Cond} (h : w ∈ tables_1_6) : w ∈ lw_tbl := List.mem_append_right _ (List.mem_append_right _ (List.mem_append_right _ (List.mem_append_right _ (List.mem_append_right _ (List.mem_append_right _ (List.mem_append_left _ h))))))
theorem T7 {w : Cond} (h : w ∈ tables_1_7) : w ∈ lw_tbl := List.mem_append_right _ (List.mem_append_right _ (List.mem_append_right _ (List.mem_append_right _ (List.mem_append_right _ (List.mem_append_right _ (List.mem_append_right _ (List.mem_append_left _ h)))))))
theorem T8 {w : Cond} (h : w ∈ tables_1_8) : w ∈ lw_tbl := List.mem_append_right _ (List.mem_append_right _ (List.mem_append_right _ (List.mem_append_right _ (List.mem_append_right _ (List.mem_append_right _ (List.mem_append_right _ (List.mem_append_right _ h)))))))
abbrev mX2_init : MI := (yX2_init, cX2_init, 1, none, [])
theorem w1_180 : Cond.code yX2_init cX2_init 1 none ∈ AL := AL_in (T1 (List.mem_of_getElem? (i := 180) rfl)) rfl
theorem w1_6 : Cond.initialized RX2 ∈ AL := AL_in (T1 (List.mem_of_getElem? (i := 6) rfl)) rfl
theorem YX2_init : YL mX2_init 0 := ⟨rfl, w1_180, w1_6, ⟨by decide, by decide, by decide +kernel⟩, by decide⟩
abbrev mX2_append : MI := (yX2_append, cX2_append, 2, (some .boolean), [])
theorem w5_46 : Cond.code yX2_append cX2_append 2 (some .boolean) ∈ AL := AL_in (T5 (List.mem_of_getElem? (i := 46) rfl)) rfl
theorem YX2_append : YL mX2_append 1 := ⟨rfl, w5_46, w1_6, ⟨by decide, by decide, by decide +kernel⟩, by decide⟩
abbrev mX2_clear : MI := (yX2_clear, cX2_clear, 1, none, [])
theorem w5_139 : Cond.code yX2_clear cX2_clear 1 none ∈ AL := AL_in (T5 (List.mem_of_getElem? (i := 139) rfl)) rfl
theorem YX2_clear : YL mX2_clear 0 := ⟨rfl, w5_139, w1_6, ⟨by decide, by decide, by decide +kernel⟩, by decide⟩
abbrev mX2_rewind : MI := (yX2_rewind, cX2_rewind, 1, none, [])
theorem w5_62 : Cond.code yX2_rewind cX2_rewind 1 none ∈ AL := AL_in (T5 (List.mem_of_getElem? (i := 62) rfl)) rfl
theorem YX2_rewind : YL mX2_rewind 0 := ⟨rfl, w5_62, w1_6, ⟨by decide, by decide, by decide +kernel⟩, by decide⟩
abbrev mX2_findError : MI := (yX2_findError, cX2_findError, 2, (some .int), [])
theorem w5_58 : Cond.code yX2_findError cX2_findError 2 (some .int) ∈ AL := AL_in (T5 (List.mem_of_getElem? (i := 58) rfl)) rfl
theorem YX2_findError : YL mX2_findError 0 := ⟨rfl, w5_58, w1_6, ⟨by decide, by decide, by decide +kernel⟩, by decide⟩
abbrev mX2_readCommand : MI := (yX2_readCommand, cX2_readCommand, 7, (some .boolean), [])
theorem w5_66 : Cond.code yX2_readCommand cX2_readCommand 7 (some .boolean) ∈ AL := AL_in (T5 (List.mem_of_getElem? (i := 66) rfl)) rfl
theorem YX2_readCommand : YL mX2_readCommand 0 := ⟨rfl, w5_66, w1_6, ⟨by decide, by decide, by decide +kernel⟩, by decide⟩
abbrev mX2_closeCommand : MI := (yX2_closeCommand, cX2_closeCommand, 2, (some .boolean), [])
theorem w5_132 : Cond.code yX2_closeCommand cX2_closeCommand 2 (some .boolean) ∈ AL := AL_in (T5 (List.mem_of_getElem? (i := 132) rfl)) rfl
theorem YX2_closeCommand : YL mX2_closeCommand 1 := ⟨rfl, w5_132, w1_6, ⟨by decide, by decide, by decide +kernel⟩, by decide⟩
abbrev mX2_match : MI := (yX2_match, cX2_match, 8, (some .int), [])
theorem w5_72 : Cond.code yX2_match cX2_match 8 (some .int) ∈ AL := AL_in (T5 (List.mem_of_getElem? (i := 72) rfl)) rfl
theorem YX2_match : YL mX2_match 2 := ⟨rfl, w5_72, w1_6, ⟨by decide, by decide, by decide +kernel⟩, by decide⟩
abbrev mX2_putNumber : MI := (yX2_putNumber, cX2_putNumber, 6, none, [])
theorem w5_128 : Cond.code yX2_putNumber cX2_putNumber 6 none ∈ AL := AL_in (T5 (List.mem_of_getElem? (i := 128) rfl)) rfl
theorem YX2_putNumber : YL mX2_putNumber 3 := ⟨rfl, w5_128, w1_6, ⟨by decide, by decide, by decide +kernel⟩, by decide⟩
abbrev mX2_isDigit : MI := (yX2_isDigit, cX2_isDigit, 2, (some .boolean), [])
theorem w5_124 : Cond.code yX2_isDigit cX2_isDigit 2 (some .boolean) ∈ AL := AL_in (T5 (List.mem_of_getElem? (i := 124) rfl)) rfl
theorem YX2_isDigit : YL mX2_isDigit 1 := ⟨rfl, w5_124, w1_6, ⟨by decide, by decide, by decide +kernel⟩, by decide⟩
abbrev mX3_init : MI := (yX3_init, cX3_init, 2, none, [])
theorem w1_123 : Cond.code yX3_init cX3_init 2 none ∈ AL := AL_in (T1 (List.mem_of_getElem? (i := 123) rfl)) rfl
theorem w1_3 : Cond.initialized RX3 ∈ AL := AL_in (T1 (List.mem_of_getElem? (i := 3) rfl)) rfl
theorem YX3_init : YL mX3_init 0 := ⟨rfl, w1_123, w1_3, ⟨by decide, by decide, by decide +kernel⟩, by decide⟩
abbrev mX3_keep : MI := (yX3_keep, cX3_keep, 2, none, [])
theorem w2_172 : Cond.code yX3_keep cX3_keep 2 none ∈ AL := AL_in (T2 (List.mem_of_getElem? (i := 172) rfl)) rfl
theorem YX3_keep : YL mX3_keep 1 := ⟨rfl, w2_172, w1_3, ⟨by decide, by decide, by decide +kernel⟩, by decide⟩
abbrev mX3_confirm : MI := (yX3_confirm, cX3_confirm, 1, none, [])
theorem w3_81 : Cond.code yX3_confirm cX3_confirm 1 none ∈ AL := AL_in (T3 (List.mem_of_getElem? (i := 81) rfl)) rfl
theorem YX3_confirm : YL mX3_confirm 0 := ⟨rfl, w3_81, w1_3, ⟨by decide, by decide, by decide +kernel⟩, by decide⟩
abbrev mX3_revert : MI := (yX3_revert, cX3_revert, 2, none, [])
theorem w5_158 : Cond.code yX3_revert cX3_revert 2 none ∈ AL := AL_in (T5 (List.mem_of_getElem? (i := 158) rfl)) rfl
theorem YX3_revert : YL mX3_revert 1 := ⟨rfl, w5_158, w1_3, ⟨by decide, by decide, by decide +kernel⟩, by decide⟩
abbrev mX3_stepBack : MI := (yX3_stepBack, cX3_stepBack, 2, (some .int), [])
theorem w5_185 : Cond.code yX3_stepBack cX3_stepBack 2 (some .int) ∈ AL := AL_in (T5 (List.mem_of_getElem? (i := 185) rfl)) rfl
theorem YX3_stepBack : YL mX3_stepBack 1 := ⟨rfl, w5_185, w1_3, ⟨by decide, by decide, by decide +kernel⟩, by decide⟩
abbrev mX3_forget : MI := (yX3_forget, cX3_forget, 1, none, [])
theorem w5_197 : Cond.code yX3_forget cX3_forget 1 none ∈ AL := AL_in (T5 (List.mem_of_getElem? (i := 197) rfl)) rfl
theorem YX3_forget : YL mX3_forget 0 := ⟨rfl, w5_197, w1_3, ⟨by decide, by decide, by decide +kernel⟩, by decide⟩
abbrev mX4_init : MI := (yX4_init, cX4_init, 1, none, [])
theorem w1_41 : Cond.code yX4_init cX4_init 1 none ∈ AL := AL_in (T1 (List.mem_of_getElem? (i := 41) rfl)) rfl
theorem w1_2 : Cond.initialized RX4 ∈ AL := AL_in (T1 (List.mem_of_getElem? (i := 2) rfl)) rfl
theorem YX4_init : YL mX4_init 0 := ⟨rfl, w1_41, w1_2, ⟨by decide, by decide, by decide +kernel⟩, by decide⟩
abbrev mX4_copyFrom : MI := (yX4_copyFrom, cX4_copyFrom, 2, none, [])
theorem w2_156 : Cond.code yX4_copyFrom cX4_copyFrom 2 none ∈ AL := AL_in (T2 (List.mem_of_getElem? (i := 156) rfl)) rfl
theorem YX4_copyFrom : YL mX4_copyFrom 1 := ⟨rfl, w2_156, w1_2, ⟨by decide, by decide, by decide +kernel⟩, by decide⟩
abbrev mX4_isBlock : MI := (yX4_isBlock, cX4_isBlock, 2, (some .boolean), [])
theorem w3_127 : Cond.code yX4_isBlock cX4_isBlock 2 (some .boolean) ∈ AL := AL_in (T3 (List.mem_of_getElem? (i := 127) rfl)) rfl
theorem YX4_isBlock : YL mX4_isBlock 1 := ⟨rfl, w3_127, w1_2, ⟨by decide, by decide, by decide +kernel⟩, by decide⟩
abbrev mX4_isTrain : MI := (yX4_isTrain, cX4_isTrain, 2, (some .boolean), [])
theorem w4_34 : Cond.code yX4_isTrain cX4_isTrain 2 (some .boolean) ∈ AL := AL_in (T4 (List.mem_of_getElem? (i := 34) rfl)) rfl
theorem YX4_isTrain : YL mX4_isTrain 1 := ⟨rfl, w4_34, w1_2, ⟨by decide, by decide, by decide +kernel⟩, by decide⟩
abbrev mX4_isJoined : MI := (yX4_isJoined, cX4_isJoined, 3, (some .boolean), [])
theorem w2_41 : Cond.code yX4_isJoined cX4_isJoined 3 (some .boolean) ∈ AL := AL_in (T2 (List.mem_of_getElem? (i := 41) rfl)) rfl
theorem YX4_isJoined : YL mX4_isJoined 2 := ⟨rfl, w2_41, w1_2, ⟨by decide, by decide, by decide +kernel⟩, by decide⟩
abbrev mX4_trainAt : MI := (yX4_trainAt, cX4_trainAt, 3, (some .int), [])
theorem w2_87 : Cond.code yX4_trainAt cX4_trainAt 3 (some .int) ∈ AL := AL_in (T2 (List.mem_of_getElem? (i := 87) rfl)) rfl
theorem YX4_trainAt : YL mX4_trainAt 1 := ⟨rfl, w2_87, w1_2, ⟨by decide, by decide, by decide +kernel⟩, by decide⟩
abbrev mX4_holderOf : MI := (yX4_holderOf, cX4_holderOf, 3, (some .int), [])
theorem w2_124 : Cond.code yX4_holderOf cX4_holderOf 3 (some .int) ∈ AL := AL_in (T2 (List.mem_of_getElem? (i := 124) rfl)) rfl
theorem YX4_holderOf : YL mX4_holderOf 1 := ⟨rfl, w2_124, w1_2, ⟨by decide, by decide, by decide +kernel⟩, by decide⟩
abbrev mX4_signalOf : MI := (yX4_signalOf, cX4_signalOf, 2, (some .char), [])
theorem w2_119 : Cond.code yX4_signalOf cX4_signalOf 2 (some .char) ∈ AL := AL_in (T2 (List.mem_of_getElem? (i := 119) rfl)) rfl
theorem YX4_signalOf : YL mX4_signalOf 1 := ⟨rfl, w2_119, w1_2, ⟨by decide, by decide, by decide +kernel⟩, by decide⟩
abbrev mX4_trainAtRank : MI := (yX4_trainAtRank, cX4_trainAtRank, 5, (some .int), [])
theorem w4_174 : Cond.code yX4_trainAtRank cX4_trainAtRank 5 (some .int) ∈ AL := AL_in (T4 (List.mem_of_getElem? (i := 174) rfl)) rfl
theorem YX4_trainAtRank : YL mX4_trainAtRank 1 := ⟨rfl, w4_174, w1_2, ⟨by decide, by decide, by decide +kernel⟩, by decide⟩
abbrev mX4_allWaits : MI := (yX4_allWaits, cX4_allWaits, 3, (some .int), [])
theorem w5_7 : Cond.code yX4_allWaits cX4_allWaits 3 (some .int) ∈ AL := AL_in (T5 (List.mem_of_getElem? (i := 7) rfl)) rfl
theorem YX4_allWaits : YL mX4_allWaits 0 := ⟨rfl, w5_7, w1_2, ⟨by decide, by decide, by decide +kernel⟩, by decide⟩
abbrev mX4_placeBlock : MI := (yX4_placeBlock, cX4_placeBlock, 4, (some .int), [])
theorem w2_177 : Cond.code yX4_placeBlock cX4_placeBlock 4 (some .int) ∈ AL := AL_in (T2 (List.mem_of_getElem? (i := 177) rfl)) rfl
theorem YX4_placeBlock : YL mX4_placeBlock 2 := ⟨rfl, w2_177, w1_2, ⟨by decide, by decide, by decide +kernel⟩, by decide⟩
abbrev mX4_join : MI := (yX4_join, cX4_join, 3, (some .int), [])
theorem w3_123 : Cond.code yX4_join cX4_join 3 (some .int) ∈ AL := AL_in (T3 (List.mem_of_getElem? (i := 123) rfl)) rfl
theorem YX4_join : YL mX4_join 2 := ⟨rfl, w3_123, w1_2, ⟨by decide, by decide, by decide +kernel⟩, by decide⟩
abbrev mX4_separate : MI := (yX4_separate, cX4_separate, 3, (some .int), [])
theorem w3_150 : Cond.code yX4_separate cX4_separate 3 (some .int) ∈ AL := AL_in (T3 (List.mem_of_getElem? (i := 150) rfl)) rfl
theorem YX4_separate : YL mX4_separate 2 := ⟨rfl, w3_150, w1_2, ⟨by decide, by decide, by decide +kernel⟩, by decide⟩
abbrev mX4_seatCat : MI := (yX4_seatCat, cX4_seatCat, 2, (some .int), [])
theorem w3_162 : Cond.code yX4_seatCat cX4_seatCat 2 (some .int) ∈ AL := AL_in (T3 (List.mem_of_getElem? (i := 162) rfl)) rfl
theorem YX4_seatCat : YL mX4_seatCat 1 := ⟨rfl, w3_162, w1_2, ⟨by decide, by decide, by decide +kernel⟩, by decide⟩
abbrev mX4_liftCat : MI := (yX4_liftCat, cX4_liftCat, 2, (some .int), [])
theorem w3_173 : Cond.code yX4_liftCat cX4_liftCat 2 (some .int) ∈ AL := AL_in (T3 (List.mem_of_getElem? (i := 173) rfl)) rfl
theorem YX4_liftCat : YL mX4_liftCat 1 := ⟨rfl, w3_173, w1_2, ⟨by decide, by decide, by decide +kernel⟩, by decide⟩
abbrev mX4_placeTrain : MI := (yX4_placeTrain, cX4_placeTrain, 4, (some .int), [])
theorem w4_58 : Cond.code yX4_placeTrain cX4_placeTrain 4 (some .int) ∈ AL := AL_in (T4 (List.mem_of_getElem? (i := 58) rfl)) rfl
theorem YX4_placeTrain : YL mX4_placeTrain 2 := ⟨rfl, w4_58, w1_2, ⟨by decide, by decide, by decide +kernel⟩, by decide⟩
abbrev mX4_dropGoal : MI := (yX4_dropGoal, cX4_dropGoal, 3, (some .int), [])
theorem w4_83 : Cond.code yX4_dropGoal cX4_dropGoal 3 (some .int) ∈ AL := AL_in (T4 (List.mem_of_getElem? (i := 83) rfl)) rfl
theorem YX4_dropGoal : YL mX4_dropGoal 1 := ⟨rfl, w4_83, w1_2, ⟨by decide, by decide, by decide +kernel⟩, by decide⟩
abbrev mX4_hold : MI := (yX4_hold, cX4_hold, 3, (some .int), [])
theorem w4_95 : Cond.code yX4_hold cX4_hold 3 (some .int) ∈ AL := AL_in (T4 (List.mem_of_getElem? (i := 95) rfl)) rfl
theorem YX4_hold : YL mX4_hold 2 := ⟨rfl, w4_95, w1_2, ⟨by decide, by decide, by decide +kernel⟩, by decide⟩
abbrev mX4_release : MI := (yX4_release, cX4_release, 3, (some .int), [])
theorem w4_110 : Cond.code yX4_release cX4_release 3 (some .int) ∈ AL := AL_in (T4 (List.mem_of_getElem? (i := 110) rfl)) rfl
theorem YX4_release : YL mX4_release 1 := ⟨rfl, w4_110, w1_2, ⟨by decide, by decide, by decide +kernel⟩, by decide⟩
abbrev mX4_rerail : MI := (yX4_rerail, cX4_rerail, 2, (some .int), [])
theorem w4_121 : Cond.code yX4_rerail cX4_rerail 2 (some .int) ∈ AL := AL_in (T4 (List.mem_of_getElem? (i := 121) rfl)) rfl
theorem YX4_rerail : YL mX4_rerail 1 := ⟨rfl, w4_121, w1_2, ⟨by decide, by decide, by decide +kernel⟩, by decide⟩
abbrev mX4_letsIn : MI := (yX4_letsIn, cX4_letsIn, 4, (some .boolean), [])
theorem w4_202 : Cond.code yX4_letsIn cX4_letsIn 4 (some .boolean) ∈ AL := AL_in (T4 (List.mem_of_getElem? (i := 202) rfl)) rfl
theorem YX4_letsIn : YL mX4_letsIn 2 := ⟨rfl, w4_202, w1_2, ⟨by decide, by decide, by decide +kernel⟩, by decide⟩
abbrev mX4_moveTrain : MI := (yX4_moveTrain, cX4_moveTrain, 3, none, [])
theorem w4_206 : Cond.code yX4_moveTrain cX4_moveTrain 3 none ∈ AL := AL_in (T4 (List.mem_of_getElem? (i := 206) rfl)) rfl
theorem YX4_moveTrain : YL mX4_moveTrain 2 := ⟨rfl, w4_206, w1_2, ⟨by decide, by decide, by decide +kernel⟩, by decide⟩
abbrev mX4_countLinks : MI := (yX4_countLinks, cX4_countLinks, 3, (some .int), [])
theorem w3_132 : Cond.code yX4_countLinks cX4_countLinks 3 (some .int) ∈ AL := AL_in (T3 (List.mem_of_getElem? (i := 132) rfl)) rfl
theorem YX4_countLinks : YL mX4_countLinks 0 := ⟨rfl, w3_132, w1_2, ⟨by decide, by decide, by decide +kernel⟩, by decide⟩
abbrev mX4_countHolds : MI := (yX4_countHolds, cX4_countHolds, 3, (some .int), [])
theorem w4_99 : Cond.code yX4_countHolds cX4_countHolds 3 (some .int) ∈ AL := AL_in (T4 (List.mem_of_getElem? (i := 99) rfl)) rfl
theorem YX4_countHolds : YL mX4_countHolds 0 := ⟨rfl, w4_99, w1_2, ⟨by decide, by decide, by decide +kernel⟩, by decide⟩
abbrev mX5_init : MI := (yX5_init, cX5_init, 1, none, [])
theorem w1_215 : Cond.code yX5_init cX5_init 1 none ∈ AL := AL_in (T1 (List.mem_of_getElem? (i := 215) rfl)) rfl
theorem w1_9 : Cond.initialized RX5 ∈ AL := AL_in (T1 (List.mem_of_getElem? (i := 9) rfl)) rfl
theorem YX5_init : YL mX5_init 0 := ⟨rfl, w1_215, w1_9, ⟨by decide, by decide, by decide +kernel⟩, by decide⟩
abbrev mX5_clear : MI := (yX5_clear, cX5_clear, 1, none, [])
theorem w2_115 : Cond.code yX5_clear cX5_clear 1 none ∈ AL := AL_in (T2 (List.mem_of_getElem? (i := 115) rfl)) rfl
theorem YX5_clear : YL mX5_clear 0 := ⟨rfl, w2_115, w1_9, ⟨by decide, by decide, by decide +kernel⟩, by decide⟩
abbrev mX5_put : MI := (yX5_put, cX5_put, 2, none, [])
theorem w2_128 : Cond.code yX5_put cX5_put 2 none ∈ AL := AL_in (T2 (List.mem_of_getElem? (i := 128) rfl)) rfl
theorem YX5_put : YL mX5_put 1 := ⟨rfl, w2_128, w1_9, ⟨by decide, by decide, by decide +kernel⟩, by decide⟩
abbrev mX5_putMarked : MI := (yX5_putMarked, cX5_putMarked, 3, none, [])
theorem w5_26 : Cond.code yX5_putMarked cX5_putMarked 3 none ∈ AL := AL_in (T5 (List.mem_of_getElem? (i := 26) rfl)) rfl
theorem YX5_putMarked : YL mX5_putMarked 2 := ⟨rfl, w5_26, w1_9, ⟨by decide, by decide, by decide +kernel⟩, by decide⟩
abbrev mX6_init : MI := (yX6_init, cX6_init, 1, none, [])
theorem w1_143 : Cond.code yX6_init cX6_init 1 none ∈ AL := AL_in (T1 (List.mem_of_getElem? (i := 143) rfl)) rfl
theorem w1_4 : Cond.initialized RX6 ∈ AL := AL_in (T1 (List.mem_of_getElem? (i := 4) rfl)) rfl
theorem YX6_init : YL mX6_init 0 := ⟨rfl, w1_143, w1_4, ⟨by decide, by decide, by decide +kernel⟩, by decide⟩
abbrev mX6_measureByNearest : MI := (yX6_measureByNearest, cX6_measureByNearest, 8, none, [])
theorem w2_79 : Cond.code yX6_measureByNearest cX6_measureByNearest 8 none ∈ AL := AL_in (T2 (List.mem_of_getElem? (i := 79) rfl)) rfl
theorem YX6_measureByNearest : YL mX6_measureByNearest 2 := ⟨rfl, w2_79, w1_4, ⟨by decide, by decide, by decide +kernel⟩, by decide⟩
abbrev mX6_nearestOpen : MI := (yX6_nearestOpen, cX6_nearestOpen, 6, (some .int), [])
theorem w2_83 : Cond.code yX6_nearestOpen cX6_nearestOpen 6 (some .int) ∈ AL := AL_in (T2 (List.mem_of_getElem? (i := 83) rfl)) rfl
theorem YX6_nearestOpen : YL mX6_nearestOpen 2 := ⟨rfl, w2_83, w1_4, ⟨by decide, by decide, by decide +kernel⟩, by decide⟩
abbrev mX6_measureByRounds : MI := (yX6_measureByRounds, cX6_measureByRounds, 6, none, [])
theorem w2_140 : Cond.code yX6_measureByRounds cX6_measureByRounds 6 none ∈ AL := AL_in (T2 (List.mem_of_getElem? (i := 140) rfl)) rfl
theorem YX6_measureByRounds : YL mX6_measureByRounds 2 := ⟨rfl, w2_140, w1_4, ⟨by decide, by decide, by decide +kernel⟩, by decide⟩
abbrev mX6_shortenFrom : MI := (yX6_shortenFrom, cX6_shortenFrom, 6, (some .boolean), [])
theorem w2_144 : Cond.code yX6_shortenFrom cX6_shortenFrom 6 (some .boolean) ∈ AL := AL_in (T2 (List.mem_of_getElem? (i := 144) rfl)) rfl
theorem YX6_shortenFrom : YL mX6_shortenFrom 2 := ⟨rfl, w2_144, w1_4, ⟨by decide, by decide, by decide +kernel⟩, by decide⟩
abbrev mX6_distancesAgree : MI := (yX6_distancesAgree, cX6_distancesAgree, 4, (some .boolean), [])
theorem w2_136 : Cond.code yX6_distancesAgree cX6_distancesAgree 4 (some .boolean) ∈ AL := AL_in (T2 (List.mem_of_getElem? (i := 136) rfl)) rfl
theorem YX6_distancesAgree : YL mX6_distancesAgree 1 := ⟨rfl, w2_136, w1_4, ⟨by decide, by decide, by decide +kernel⟩, by decide⟩
abbrev mX6_nextFor : MI := (yX6_nextFor, cX6_nextFor, 8, (some .int), [])
theorem w2_75 : Cond.code yX6_nextFor cX6_nextFor 8 (some .int) ∈ AL := AL_in (T2 (List.mem_of_getElem? (i := 75) rfl)) rfl
theorem YX6_nextFor : YL mX6_nextFor 2 := ⟨rfl, w2_75, w1_4, ⟨by decide, by decide, by decide +kernel⟩, by decide⟩
abbrev mX6_cushionNear : MI := (yX6_cushionNear, cX6_cushionNear, 6, (some .int), [])
theorem w4_47 : Cond.code yX6_cushionNear cX6_cushionNear 6 (some .int) ∈ AL := AL_in (T4 (List.mem_of_getElem? (i := 47) rfl)) rfl
theorem YX6_cushionNear : YL mX6_cushionNear 2 := ⟨rfl, w4_47, w1_4, ⟨by decide, by decide, by decide +kernel⟩, by decide⟩
abbrev mX6_partsByWalks : MI := (yX6_partsByWalks, cX6_partsByWalks, 5, (some .int), [])
theorem w2_31 : Cond.code yX6_partsByWalks cX6_partsByWalks 5 (some .int) ∈ AL := AL_in (T2 (List.mem_of_getElem? (i := 31) rfl)) rfl
theorem YX6_partsByWalks : YL mX6_partsByWalks 1 := ⟨rfl, w2_31, w1_4, ⟨by decide, by decide, by decide +kernel⟩, by decide⟩
abbrev mX6_walk : MI := (yX6_walk, cX6_walk, 6, (some .int), [])
theorem w2_37 : Cond.code yX6_walk cX6_walk 6 (some .int) ∈ AL := AL_in (T2 (List.mem_of_getElem? (i := 37) rfl)) rfl
theorem YX6_walk : YL mX6_walk 4 := ⟨rfl, w2_37, w1_4, ⟨by decide, by decide, by decide +kernel⟩, by decide⟩
abbrev mX6_partsByUnions : MI := (yX6_partsByUnions, cX6_partsByUnions, 5, (some .int), [])
theorem w2_50 : Cond.code yX6_partsByUnions cX6_partsByUnions 5 (some .int) ∈ AL := AL_in (T2 (List.mem_of_getElem? (i := 50) rfl)) rfl
theorem YX6_partsByUnions : YL mX6_partsByUnions 1 := ⟨rfl, w2_50, w1_4, ⟨by decide, by decide, by decide +kernel⟩, by decide⟩
abbrev mX6_unite : MI := (yX6_unite, cX6_unite, 5, none, [])
theorem w2_54 : Cond.code yX6_unite cX6_unite 5 none ∈ AL := AL_in (T2 (List.mem_of_getElem? (i := 54) rfl)) rfl
theorem YX6_unite : YL mX6_unite 3 := ⟨rfl, w2_54, w1_4, ⟨by decide, by decide, by decide +kernel⟩, by decide⟩
abbrev mX7_init : MI := (yX7_init, cX7_init, 1, none, [])
theorem w1_162 : Cond.code yX7_init cX7_init 1 none ∈ AL := AL_in (T1 (List.mem_of_getElem? (i := 162) rfl)) rfl
theorem w1_5 : Cond.initialized RX7 ∈ AL := AL_in (T1 (List.mem_of_getElem? (i := 5) rfl)) rfl
theorem YX7_init : YL mX7_init 0 := ⟨rfl, w1_162, w1_5, ⟨by decide, by decide, by decide +kernel⟩, by decide⟩
abbrev mX7_aim : MI := (yX7_aim, cX7_aim, 5, (some .int), [])
theorem w4_69 : Cond.code yX7_aim cX7_aim 5 (some .int) ∈ AL := AL_in (T4 (List.mem_of_getElem? (i := 69) rfl)) rfl
theorem YX7_aim : YL mX7_aim 3 := ⟨rfl, w4_69, w1_5, ⟨by decide, by decide, by decide +kernel⟩, by decide⟩
abbrev mX7_letPass : MI := (yX7_letPass, cX7_letPass, 6, (some .int), [])
theorem w4_193 : Cond.code yX7_letPass cX7_letPass 6 (some .int) ∈ AL := AL_in (T4 (List.mem_of_getElem? (i := 193) rfl)) rfl
theorem YX7_letPass : YL mX7_letPass 2 := ⟨rfl, w4_193, w1_5, ⟨by decide, by decide, by decide +kernel⟩, by decide⟩
abbrev mX7_consider : MI := (yX7_consider, cX7_consider, 4, none, [])
theorem w4_198 : Cond.code yX7_consider cX7_consider 4 none ∈ AL := AL_in (T4 (List.mem_of_getElem? (i := 198) rfl)) rfl
theorem YX7_consider : YL mX7_consider 2 := ⟨rfl, w4_198, w1_5, ⟨by decide, by decide, by decide +kernel⟩, by decide⟩
abbrev mX7_ticksToGoal : MI := (yX7_ticksToGoal, cX7_ticksToGoal, 4, (some .int), [])
theorem w4_218 : Cond.code yX7_ticksToGoal cX7_ticksToGoal 4 (some .int) ∈ AL := AL_in (T4 (List.mem_of_getElem? (i := 218) rfl)) rfl
theorem YX7_ticksToGoal : YL mX7_ticksToGoal 2 := ⟨rfl, w4_218, w1_5, ⟨by decide, by decide, by decide +kernel⟩, by decide⟩
abbrev mX7_blockerOf : MI := (yX7_blockerOf, cX7_blockerOf, 4, (some .int), [])
theorem w2_70 : Cond.code yX7_blockerOf cX7_blockerOf 4 (some .int) ∈ AL := AL_in (T2 (List.mem_of_getElem? (i := 70) rfl)) rfl
theorem YX7_blockerOf : YL mX7_blockerOf 2 := ⟨rfl, w2_70, w1_5, ⟨by decide, by decide, by decide +kernel⟩, by decide⟩
abbrev mX7_stuckByFollowing : MI := (yX7_stuckByFollowing, cX7_stuckByFollowing, 4, (some .int), [])
theorem w2_66 : Cond.code yX7_stuckByFollowing cX7_stuckByFollowing 4 (some .int) ∈ AL := AL_in (T2 (List.mem_of_getElem? (i := 66) rfl)) rfl
theorem YX7_stuckByFollowing : YL mX7_stuckByFollowing 1 := ⟨rfl, w2_66, w1_5, ⟨by decide, by decide, by decide +kernel⟩, by decide⟩
abbrev mX7_leadsBack : MI := (yX7_leadsBack, cX7_leadsBack, 5, (some .boolean), [])
theorem w2_91 : Cond.code yX7_leadsBack cX7_leadsBack 5 (some .boolean) ∈ AL := AL_in (T2 (List.mem_of_getElem? (i := 91) rfl)) rfl
theorem YX7_leadsBack : YL mX7_leadsBack 2 := ⟨rfl, w2_91, w1_5, ⟨by decide, by decide, by decide +kernel⟩, by decide⟩
abbrev mX7_stuckByTable : MI := (yX7_stuckByTable, cX7_stuckByTable, 4, (some .int), [])
theorem w2_99 : Cond.code yX7_stuckByTable cX7_stuckByTable 4 (some .int) ∈ AL := AL_in (T2 (List.mem_of_getElem? (i := 99) rfl)) rfl
theorem YX7_stuckByTable : YL mX7_stuckByTable 1 := ⟨rfl, w2_99, w1_5, ⟨by decide, by decide, by decide +kernel⟩, by decide⟩
abbrev mX8_init : MI := (yX8_init, cX8_init, 1, none, [])
theorem w1_33 : Cond.code yX8_init cX8_init 1 none ∈ AL := AL_in (T1 (List.mem_of_getElem? (i := 33) rfl)) rfl
theorem w1_1 : Cond.initialized RX8 ∈ AL := AL_in (T1 (List.mem_of_getElem? (i := 1) rfl)) rfl
theorem YX8_init : YL mX8_init 0 := ⟨rfl, w1_33, w1_1, ⟨by decide, by decide, by decide +kernel⟩, by decide⟩
abbrev mX8_addBlock : MI := (yX8_addBlock, cX8_addBlock, 2, (some .int), [])
theorem w2_168 : Cond.code yX8_addBlock cX8_addBlock 2 (some .int) ∈ AL := AL_in (T2 (List.mem_of_getElem? (i := 168) rfl)) rfl
theorem YX8_addBlock : YL mX8_addBlock 1 := ⟨rfl, w2_168, w1_1, ⟨by decide, by decide, by decide +kernel⟩, by decide⟩
abbrev mX8_addCushion : MI := (yX8_addCushion, cX8_addCushion, 2, (some .int), [])
theorem w3_91 : Cond.code yX8_addCushion cX8_addCushion 2 (some .int) ∈ AL := AL_in (T3 (List.mem_of_getElem? (i := 91) rfl)) rfl
theorem YX8_addCushion : YL mX8_addCushion 1 := ⟨rfl, w3_91, w1_1, ⟨by decide, by decide, by decide +kernel⟩, by decide⟩
abbrev mX8_link : MI := (yX8_link, cX8_link, 3, (some .int), [])
theorem w3_119 : Cond.code yX8_link cX8_link 3 (some .int) ∈ AL := AL_in (T3 (List.mem_of_getElem? (i := 119) rfl)) rfl
theorem YX8_link : YL mX8_link 2 := ⟨rfl, w3_119, w1_1, ⟨by decide, by decide, by decide +kernel⟩, by decide⟩
abbrev mX8_unlink : MI := (yX8_unlink, cX8_unlink, 3, (some .int), [])
theorem w3_146 : Cond.code yX8_unlink cX8_unlink 3 (some .int) ∈ AL := AL_in (T3 (List.mem_of_getElem? (i := 146) rfl)) rfl
theorem YX8_unlink : YL mX8_unlink 2 := ⟨rfl, w3_146, w1_1, ⟨by decide, by decide, by decide +kernel⟩, by decide⟩
abbrev mX8_putCat : MI := (yX8_putCat, cX8_putCat, 2, (some .int), [])
theorem w3_158 : Cond.code yX8_putCat cX8_putCat 2 (some .int) ∈ AL := AL_in (T3 (List.mem_of_getElem? (i := 158) rfl)) rfl
theorem YX8_putCat : YL mX8_putCat 1 := ⟨rfl, w3_158, w1_1, ⟨by decide, by decide, by decide +kernel⟩, by decide⟩
abbrev mX8_removeCat : MI := (yX8_removeCat, cX8_removeCat, 2, (some .int), [])
theorem w3_169 : Cond.code yX8_removeCat cX8_removeCat 2 (some .int) ∈ AL := AL_in (T3 (List.mem_of_getElem? (i := 169) rfl)) rfl
theorem YX8_removeCat : YL mX8_removeCat 1 := ⟨rfl, w3_169, w1_1, ⟨by decide, by decide, by decide +kernel⟩, by decide⟩
abbrev mX8_blockCount : MI := (yX8_blockCount, cX8_blockCount, 1, (some .int), [])
theorem w2_23 : Cond.code yX8_blockCount cX8_blockCount 1 (some .int) ∈ AL := AL_in (T2 (List.mem_of_getElem? (i := 23) rfl)) rfl
theorem YX8_blockCount : YL mX8_blockCount 0 := ⟨rfl, w2_23, w1_1, ⟨by decide, by decide, by decide +kernel⟩, by decide⟩
abbrev mX8_length : MI := (yX8_length, cX8_length, 2, (some .int), [])
theorem w3_180 : Cond.code yX8_length cX8_length 2 (some .int) ∈ AL := AL_in (T3 (List.mem_of_getElem? (i := 180) rfl)) rfl
theorem YX8_length : YL mX8_length 1 := ⟨rfl, w3_180, w1_1, ⟨by decide, by decide, by decide +kernel⟩, by decide⟩
abbrev mX8_isCushion : MI := (yX8_isCushion, cX8_isCushion, 2, (some .boolean), [])
theorem w3_193 : Cond.code yX8_isCushion cX8_isCushion 2 (some .boolean) ∈ AL := AL_in (T3 (List.mem_of_getElem? (i := 193) rfl)) rfl
theorem YX8_isCushion : YL mX8_isCushion 1 := ⟨rfl, w3_193, w1_1, ⟨by decide, by decide, by decide +kernel⟩, by decide⟩
abbrev mX8_hasCat : MI := (yX8_hasCat, cX8_hasCat, 2, (some .boolean), [])
theorem w3_201 : Cond.code yX8_hasCat cX8_hasCat 2 (some .boolean) ∈ AL := AL_in (T3 (List.mem_of_getElem? (i := 201) rfl)) rfl
theorem YX8_hasCat : YL mX8_hasCat 1 := ⟨rfl, w3_201, w1_1, ⟨by decide, by decide, by decide +kernel⟩, by decide⟩
abbrev mX8_areLinked : MI := (yX8_areLinked, cX8_areLinked, 3, (some .boolean), [])
theorem w3_208 : Cond.code yX8_areLinked cX8_areLinked 3 (some .boolean) ∈ AL := AL_in (T3 (List.mem_of_getElem? (i := 208) rfl)) rfl
theorem YX8_areLinked : YL mX8_areLinked 2 := ⟨rfl, w3_208, w1_1, ⟨by decide, by decide, by decide +kernel⟩, by decide⟩
abbrev mX8_degree : MI := (yX8_degree, cX8_degree, 2, (some .int), [])
theorem w3_216 : Cond.code yX8_degree cX8_degree 2 (some .int) ∈ AL := AL_in (T3 (List.mem_of_getElem? (i := 216) rfl)) rfl
theorem YX8_degree : YL mX8_degree 1 := ⟨rfl, w3_216, w1_1, ⟨by decide, by decide, by decide +kernel⟩, by decide⟩
abbrev mX8_trainIn : MI := (yX8_trainIn, cX8_trainIn, 2, (some .int), [])
theorem w3_224 : Cond.code yX8_trainIn cX8_trainIn 2 (some .int) ∈ AL := AL_in (T3 (List.mem_of_getElem? (i := 224) rfl)) rfl
theorem YX8_trainIn : YL mX8_trainIn 1 := ⟨rfl, w3_224, w1_1, ⟨by decide, by decide, by decide +kernel⟩, by decide⟩
abbrev mX8_reservedBy : MI := (yX8_reservedBy, cX8_reservedBy, 2, (some .int), [])
theorem w3_235 : Cond.code yX8_reservedBy cX8_reservedBy 2 (some .int) ∈ AL := AL_in (T3 (List.mem_of_getElem? (i := 235) rfl)) rfl
theorem YX8_reservedBy : YL mX8_reservedBy 1 := ⟨rfl, w3_235, w1_1, ⟨by decide, by decide, by decide +kernel⟩, by decide⟩
abbrev mX8_signal : MI := (yX8_signal, cX8_signal, 2, (some .char), [])
theorem w4_3 : Cond.code yX8_signal cX8_signal 2 (some .char) ∈ AL := AL_in (T4 (List.mem_of_getElem? (i := 3) rfl)) rfl
theorem YX8_signal : YL mX8_signal 1 := ⟨rfl, w4_3, w1_1, ⟨by decide, by decide, by decide +kernel⟩, by decide⟩
abbrev mX8_distance : MI := (yX8_distance, cX8_distance, 3, (some .int), [])
theorem w4_10 : Cond.code yX8_distance cX8_distance 3 (some .int) ∈ AL := AL_in (T4 (List.mem_of_getElem? (i := 10) rfl)) rfl
theorem YX8_distance : YL mX8_distance 2 := ⟨rfl, w4_10, w1_1, ⟨by decide, by decide, by decide +kernel⟩, by decide⟩
abbrev mX8_distanceByRounds : MI := (yX8_distanceByRounds, cX8_distanceByRounds, 3, (some .int), [])
theorem w4_18 : Cond.code yX8_distanceByRounds cX8_distanceByRounds 3 (some .int) ∈ AL := AL_in (T4 (List.mem_of_getElem? (i := 18) rfl)) rfl
theorem YX8_distanceByRounds : YL mX8_distanceByRounds 2 := ⟨rfl, w4_18, w1_1, ⟨by decide, by decide, by decide +kernel⟩, by decide⟩
abbrev mX8_nextBlock : MI := (yX8_nextBlock, cX8_nextBlock, 2, (some .int), [])
theorem w4_26 : Cond.code yX8_nextBlock cX8_nextBlock 2 (some .int) ∈ AL := AL_in (T4 (List.mem_of_getElem? (i := 26) rfl)) rfl
theorem YX8_nextBlock : YL mX8_nextBlock 1 := ⟨rfl, w4_26, w1_1, ⟨by decide, by decide, by decide +kernel⟩, by decide⟩
abbrev mX8_partCount : MI := (yX8_partCount, cX8_partCount, 1, (some .int), [])
theorem w2_27 : Cond.code yX8_partCount cX8_partCount 1 (some .int) ∈ AL := AL_in (T2 (List.mem_of_getElem? (i := 27) rfl)) rfl
theorem YX8_partCount : YL mX8_partCount 0 := ⟨rfl, w2_27, w1_1, ⟨by decide, by decide, by decide +kernel⟩, by decide⟩
abbrev mX8_partCountByUnions : MI := (yX8_partCountByUnions, cX8_partCountByUnions, 1, (some .int), [])
theorem w2_46 : Cond.code yX8_partCountByUnions cX8_partCountByUnions 1 (some .int) ∈ AL := AL_in (T2 (List.mem_of_getElem? (i := 46) rfl)) rfl
theorem YX8_partCountByUnions : YL mX8_partCountByUnions 0 := ⟨rfl, w2_46, w1_1, ⟨by decide, by decide, by decide +kernel⟩, by decide⟩
abbrev mX8_nearestCushion : MI := (yX8_nearestCushion, cX8_nearestCushion, 2, (some .int), [])
theorem w4_43 : Cond.code yX8_nearestCushion cX8_nearestCushion 2 (some .int) ∈ AL := AL_in (T4 (List.mem_of_getElem? (i := 43) rfl)) rfl
theorem YX8_nearestCushion : YL mX8_nearestCushion 1 := ⟨rfl, w4_43, w1_1, ⟨by decide, by decide, by decide +kernel⟩, by decide⟩
abbrev mX8_addTrain : MI := (yX8_addTrain, cX8_addTrain, 3, (some .int), [])
theorem w4_54 : Cond.code yX8_addTrain cX8_addTrain 3 (some .int) ∈ AL := AL_in (T4 (List.mem_of_getElem? (i := 54) rfl)) rfl
theorem YX8_addTrain : YL mX8_addTrain 2 := ⟨rfl, w4_54, w1_1, ⟨by decide, by decide, by decide +kernel⟩, by decide⟩
abbrev mX8_setGoal : MI := (yX8_setGoal, cX8_setGoal, 3, (some .int), [])
theorem w4_65 : Cond.code yX8_setGoal cX8_setGoal 3 (some .int) ∈ AL := AL_in (T4 (List.mem_of_getElem? (i := 65) rfl)) rfl
theorem YX8_setGoal : YL mX8_setGoal 2 := ⟨rfl, w4_65, w1_1, ⟨by decide, by decide, by decide +kernel⟩, by decide⟩
abbrev mX8_clearGoal : MI := (yX8_clearGoal, cX8_clearGoal, 2, (some .int), [])
theorem w4_79 : Cond.code yX8_clearGoal cX8_clearGoal 2 (some .int) ∈ AL := AL_in (T4 (List.mem_of_getElem? (i := 79) rfl)) rfl
theorem YX8_clearGoal : YL mX8_clearGoal 1 := ⟨rfl, w4_79, w1_1, ⟨by decide, by decide, by decide +kernel⟩, by decide⟩
abbrev mX8_reserve : MI := (yX8_reserve, cX8_reserve, 3, (some .int), [])
theorem w4_91 : Cond.code yX8_reserve cX8_reserve 3 (some .int) ∈ AL := AL_in (T4 (List.mem_of_getElem? (i := 91) rfl)) rfl
theorem YX8_reserve : YL mX8_reserve 2 := ⟨rfl, w4_91, w1_1, ⟨by decide, by decide, by decide +kernel⟩, by decide⟩
abbrev mX8_cancelReservation : MI := (yX8_cancelReservation, cX8_cancelReservation, 2, (some .int), [])
theorem w4_106 : Cond.code yX8_cancelReservation cX8_cancelReservation 2 (some .int) ∈ AL := AL_in (T4 (List.mem_of_getElem? (i := 106) rfl)) rfl
theorem YX8_cancelReservation : YL mX8_cancelReservation 1 := ⟨rfl, w4_106, w1_1, ⟨by decide, by decide, by decide +kernel⟩, by decide⟩
abbrev mX8_rescue : MI := (yX8_rescue, cX8_rescue, 2, (some .int), [])
theorem w4_117 : Cond.code yX8_rescue cX8_rescue 2 (some .int) ∈ AL := AL_in (T4 (List.mem_of_getElem? (i := 117) rfl)) rfl
theorem YX8_rescue : YL mX8_rescue 1 := ⟨rfl, w4_117, w1_1, ⟨by decide, by decide, by decide +kernel⟩, by decide⟩
abbrev mX8_trainCount : MI := (yX8_trainCount, cX8_trainCount, 1, (some .int), [])
theorem w2_58 : Cond.code yX8_trainCount cX8_trainCount 1 (some .int) ∈ AL := AL_in (T2 (List.mem_of_getElem? (i := 58) rfl)) rfl
theorem YX8_trainCount : YL mX8_trainCount 0 := ⟨rfl, w2_58, w1_1, ⟨by decide, by decide, by decide +kernel⟩, by decide⟩
abbrev mX8_blockOf : MI := (yX8_blockOf, cX8_blockOf, 2, (some .int), [])
theorem w4_128 : Cond.code yX8_blockOf cX8_blockOf 2 (some .int) ∈ AL := AL_in (T4 (List.mem_of_getElem? (i := 128) rfl)) rfl
theorem YX8_blockOf : YL mX8_blockOf 1 := ⟨rfl, w4_128, w1_1, ⟨by decide, by decide, by decide +kernel⟩, by decide⟩
abbrev mX8_priority : MI := (yX8_priority, cX8_priority, 2, (some .int), [])
theorem w4_135 : Cond.code yX8_priority cX8_priority 2 (some .int) ∈ AL := AL_in (T4 (List.mem_of_getElem? (i := 135) rfl)) rfl
theorem YX8_priority : YL mX8_priority 1 := ⟨rfl, w4_135, w1_1, ⟨by decide, by decide, by decide +kernel⟩, by decide⟩
abbrev mX8_remainingTicks : MI := (yX8_remainingTicks, cX8_remainingTicks, 2, (some .int), [])
theorem w4_142 : Cond.code yX8_remainingTicks cX8_remainingTicks 2 (some .int) ∈ AL := AL_in (T4 (List.mem_of_getElem? (i := 142) rfl)) rfl
theorem YX8_remainingTicks : YL mX8_remainingTicks 1 := ⟨rfl, w4_142, w1_1, ⟨by decide, by decide, by decide +kernel⟩, by decide⟩
abbrev mX8_goal : MI := (yX8_goal, cX8_goal, 2, (some .int), [])
theorem w4_149 : Cond.code yX8_goal cX8_goal 2 (some .int) ∈ AL := AL_in (T4 (List.mem_of_getElem? (i := 149) rfl)) rfl
theorem YX8_goal : YL mX8_goal 1 := ⟨rfl, w4_149, w1_1, ⟨by decide, by decide, by decide +kernel⟩, by decide⟩
abbrev mX8_isDerailed : MI := (yX8_isDerailed, cX8_isDerailed, 2, (some .boolean), [])
theorem w4_156 : Cond.code yX8_isDerailed cX8_isDerailed 2 (some .boolean) ∈ AL := AL_in (T4 (List.mem_of_getElem? (i := 156) rfl)) rfl
theorem YX8_isDerailed : YL mX8_isDerailed 1 := ⟨rfl, w4_156, w1_1, ⟨by decide, by decide, by decide +kernel⟩, by decide⟩
abbrev mX8_waits : MI := (yX8_waits, cX8_waits, 2, (some .int), [])
theorem w4_163 : Cond.code yX8_waits cX8_waits 2 (some .int) ∈ AL := AL_in (T4 (List.mem_of_getElem? (i := 163) rfl)) rfl
theorem YX8_waits : YL mX8_waits 1 := ⟨rfl, w4_163, w1_1, ⟨by decide, by decide, by decide +kernel⟩, by decide⟩
abbrev mX8_trainByPriority : MI := (yX8_trainByPriority, cX8_trainByPriority, 2, (some .int), [])
theorem w4_170 : Cond.code yX8_trainByPriority cX8_trainByPriority 2 (some .int) ∈ AL := AL_in (T4 (List.mem_of_getElem? (i := 170) rfl)) rfl
theorem YX8_trainByPriority : YL mX8_trainByPriority 1 := ⟨rfl, w4_170, w1_1, ⟨by decide, by decide, by decide +kernel⟩, by decide⟩
abbrev mX8_blockedBy : MI := (yX8_blockedBy, cX8_blockedBy, 2, (some .int), [])
theorem w4_181 : Cond.code yX8_blockedBy cX8_blockedBy 2 (some .int) ∈ AL := AL_in (T4 (List.mem_of_getElem? (i := 181) rfl)) rfl
theorem YX8_blockedBy : YL mX8_blockedBy 1 := ⟨rfl, w4_181, w1_1, ⟨by decide, by decide, by decide +kernel⟩, by decide⟩
abbrev mX8_deadlocked : MI := (yX8_deadlocked, cX8_deadlocked, 1, (some .int), [])
theorem w2_62 : Cond.code yX8_deadlocked cX8_deadlocked 1 (some .int) ∈ AL := AL_in (T2 (List.mem_of_getElem? (i := 62) rfl)) rfl
theorem YX8_deadlocked : YL mX8_deadlocked 0 := ⟨rfl, w2_62, w1_1, ⟨by decide, by decide, by decide +kernel⟩, by decide⟩
abbrev mX8_deadlockedByTable : MI := (yX8_deadlockedByTable, cX8_deadlockedByTable, 1, (some .int), [])
theorem w2_95 : Cond.code yX8_deadlockedByTable cX8_deadlockedByTable 1 (some .int) ∈ AL := AL_in (T2 (List.mem_of_getElem? (i := 95) rfl)) rfl
theorem YX8_deadlockedByTable : YL mX8_deadlockedByTable 0 := ⟨rfl, w2_95, w1_1, ⟨by decide, by decide, by decide +kernel⟩, by decide⟩
abbrev mX8_passTicks : MI := (yX8_passTicks, cX8_passTicks, 2, (some .int), [])
theorem w4_189 : Cond.code yX8_passTicks cX8_passTicks 2 (some .int) ∈ AL := AL_in (T4 (List.mem_of_getElem? (i := 189) rfl)) rfl
theorem YX8_passTicks : YL mX8_passTicks 1 := ⟨rfl, w4_189, w1_1, ⟨by decide, by decide, by decide +kernel⟩, by decide⟩
abbrev mX8_ticks : MI := (yX8_ticks, cX8_ticks, 1, (some .int), [])
theorem w2_103 : Cond.code yX8_ticks cX8_ticks 1 (some .int) ∈ AL := AL_in (T2 (List.mem_of_getElem? (i := 103) rfl)) rfl
theorem YX8_ticks : YL mX8_ticks 0 := ⟨rfl, w2_103, w1_1, ⟨by decide, by decide, by decide +kernel⟩, by decide⟩
abbrev mX8_arrivals : MI := (yX8_arrivals, cX8_arrivals, 1, (some .int), [])
theorem w2_107 : Cond.code yX8_arrivals cX8_arrivals 1 (some .int) ∈ AL := AL_in (T2 (List.mem_of_getElem? (i := 107) rfl)) rfl
theorem YX8_arrivals : YL mX8_arrivals 0 := ⟨rfl, w2_107, w1_1, ⟨by decide, by decide, by decide +kernel⟩, by decide⟩
abbrev mX8_ticksUntilArrival : MI := (yX8_ticksUntilArrival, cX8_ticksUntilArrival, 2, (some .int), [])
theorem w4_213 : Cond.code yX8_ticksUntilArrival cX8_ticksUntilArrival 2 (some .int) ∈ AL := AL_in (T4 (List.mem_of_getElem? (i := 213) rfl)) rfl
theorem YX8_ticksUntilArrival : YL mX8_ticksUntilArrival 1 := ⟨rfl, w4_213, w1_1, ⟨by decide, by decide, by decide +kernel⟩, by decide⟩
abbrev mX8_meanWaits : MI := (yX8_meanWaits, cX8_meanWaits, 1, (some .double), [])
theorem w5_0 : Cond.code yX8_meanWaits cX8_meanWaits 1 (some .double) ∈ AL := AL_in (T5 (List.mem_of_getElem? (i := 0) rfl)) rfl
theorem YX8_meanWaits : YL mX8_meanWaits 0 := ⟨rfl, w5_0, w1_1, ⟨by decide, by decide, by decide +kernel⟩, by decide⟩
abbrev mX8_occupiedFraction : MI := (yX8_occupiedFraction, cX8_occupiedFraction, 1, (some .float), [])
theorem w5_14 : Cond.code yX8_occupiedFraction cX8_occupiedFraction 1 (some .float) ∈ AL := AL_in (T5 (List.mem_of_getElem? (i := 14) rfl)) rfl
theorem YX8_occupiedFraction : YL mX8_occupiedFraction 0 := ⟨rfl, w5_14, w1_1, ⟨by decide, by decide, by decide +kernel⟩, by decide⟩
abbrev mX8_writeTrain : MI := (yX8_writeTrain, cX8_writeTrain, 2, (some .int), [])
theorem w5_22 : Cond.code yX8_writeTrain cX8_writeTrain 2 (some .int) ∈ AL := AL_in (T5 (List.mem_of_getElem? (i := 22) rfl)) rfl
theorem YX8_writeTrain : YL mX8_writeTrain 1 := ⟨rfl, w5_22, w1_1, ⟨by decide, by decide, by decide +kernel⟩, by decide⟩
abbrev mX8_writeSignals : MI := (yX8_writeSignals, cX8_writeSignals, 2, (some .int), [])
theorem w2_111 : Cond.code yX8_writeSignals cX8_writeSignals 2 (some .int) ∈ AL := AL_in (T2 (List.mem_of_getElem? (i := 111) rfl)) rfl
theorem YX8_writeSignals : YL mX8_writeSignals 0 := ⟨rfl, w2_111, w1_1, ⟨by decide, by decide, by decide +kernel⟩, by decide⟩
abbrev mX8_outputCharacter : MI := (yX8_outputCharacter, cX8_outputCharacter, 2, (some .char), [])
theorem w5_34 : Cond.code yX8_outputCharacter cX8_outputCharacter 2 (some .char) ∈ AL := AL_in (T5 (List.mem_of_getElem? (i := 34) rfl)) rfl
theorem YX8_outputCharacter : YL mX8_outputCharacter 1 := ⟨rfl, w5_34, w1_1, ⟨by decide, by decide, by decide +kernel⟩, by decide⟩
abbrev mX8_isConsistent : MI := (yX8_isConsistent, cX8_isConsistent, 1, (some .boolean), [])
theorem w2_132 : Cond.code yX8_isConsistent cX8_isConsistent 1 (some .boolean) ∈ AL := AL_in (T2 (List.mem_of_getElem? (i := 132) rfl)) rfl
theorem YX8_isConsistent : YL mX8_isConsistent 0 := ⟨rfl, w2_132, w1_1, ⟨by decide, by decide, by decide +kernel⟩, by decide⟩
abbrev mX8_feed : MI := (yX8_feed, cX8_feed, 2, (some .int), [])
theorem w5_42 : Cond.code yX8_feed cX8_feed 2 (some .int) ∈ AL := AL_in (T5 (List.mem_of_getElem? (i := 42) rfl)) rfl
theorem YX8_feed : YL mX8_feed 1 := ⟨rfl, w5_42, w1_1, ⟨by decide, by decide, by decide +kernel⟩, by decide⟩
abbrev mX8_execute : MI := (yX8_execute, cX8_execute, 4, (some .int), [])
theorem w5_54 : Cond.code yX8_execute cX8_execute 4 (some .int) ∈ AL := AL_in (T5 (List.mem_of_getElem? (i := 54) rfl)) rfl
theorem YX8_execute : YL mX8_execute 0 := ⟨rfl, w5_54, w1_1, ⟨by decide, by decide, by decide +kernel⟩, by decide⟩
abbrev mX8_errorPosition : MI := (yX8_errorPosition, cX8_errorPosition, 1, (some .int), [])
theorem w5_166 : Cond.code yX8_errorPosition cX8_errorPosition 1 (some .int) ∈ AL := AL_in (T5 (List.mem_of_getElem? (i := 166) rfl)) rfl
theorem YX8_errorPosition : YL mX8_errorPosition 0 := ⟨rfl, w5_166, w1_1, ⟨by decide, by decide, by decide +kernel⟩, by decide⟩
abbrev mX8_failedCommand : MI := (yX8_failedCommand, cX8_failedCommand, 1, (some .int), [])
theorem w5_173 : Cond.code yX8_failedCommand cX8_failedCommand 1 (some .int) ∈ AL := AL_in (T5 (List.mem_of_getElem? (i := 173) rfl)) rfl
theorem YX8_failedCommand : YL mX8_failedCommand 0 := ⟨rfl, w5_173, w1_1, ⟨by decide, by decide, by decide +kernel⟩, by decide⟩
abbrev mX8_undo : MI := (yX8_undo, cX8_undo, 1, (some .int), [])
theorem w5_180 : Cond.code yX8_undo cX8_undo 1 (some .int) ∈ AL := AL_in (T5 (List.mem_of_getElem? (i := 180) rfl)) rfl
theorem YX8_undo : YL mX8_undo 0 := ⟨rfl, w5_180, w1_1, ⟨by decide, by decide, by decide +kernel⟩, by decide⟩
abbrev mX8_undoCount : MI := (yX8_undoCount, cX8_undoCount, 1, (some .int), [])
theorem w2_148 : Cond.code yX8_undoCount cX8_undoCount 1 (some .int) ∈ AL := AL_in (T2 (List.mem_of_getElem? (i := 148) rfl)) rfl
theorem YX8_undoCount : YL mX8_undoCount 0 := ⟨rfl, w2_148, w1_1, ⟨by decide, by decide, by decide +kernel⟩, by decide⟩
abbrev mX8_save : MI := (yX8_save, cX8_save, 1, (some .int), [])
theorem w2_152 : Cond.code yX8_save cX8_save 1 (some .int) ∈ AL := AL_in (T2 (List.mem_of_getElem? (i := 152) rfl)) rfl
theorem YX8_save : YL mX8_save 0 := ⟨rfl, w2_152, w1_1, ⟨by decide, by decide, by decide +kernel⟩, by decide⟩
abbrev mX8_restore : MI := (yX8_restore, cX8_restore, 1, (some .int), [])
theorem w5_192 : Cond.code yX8_restore cX8_restore 1 (some .int) ∈ AL := AL_in (T5 (List.mem_of_getElem? (i := 192) rfl)) rfl
theorem YX8_restore : YL mX8_restore 0 := ⟨rfl, w5_192, w1_1, ⟨by decide, by decide, by decide +kernel⟩, by decide⟩
abbrev mX8_needBlock : MI := (yX8_needBlock, cX8_needBlock, 2, none, [])
theorem w3_184 : Cond.code yX8_needBlock cX8_needBlock 2 none ∈ AL := AL_in (T3 (List.mem_of_getElem? (i := 184) rfl)) rfl
theorem YX8_needBlock : YL mX8_needBlock 1 := ⟨rfl, w3_184, w1_1, ⟨by decide, by decide, by decide +kernel⟩, by decide⟩
abbrev mX8_needTrain : MI := (yX8_needTrain, cX8_needTrain, 2, none, [])
theorem w4_30 : Cond.code yX8_needTrain cX8_needTrain 2 none ∈ AL := AL_in (T4 (List.mem_of_getElem? (i := 30) rfl)) rfl
theorem YX8_needTrain : YL mX8_needTrain 1 := ⟨rfl, w4_30, w1_1, ⟨by decide, by decide, by decide +kernel⟩, by decide⟩
abbrev mX8_has : MI := (yX8_has, cX8_has, 2, (some .boolean), [])
theorem w2_34 : Cond.code yX8_has cX8_has 2 (some .boolean) ∈ AL := AL_in (T2 (List.mem_of_getElem? (i := 34) rfl)) rfl
theorem YX8_has : YL mX8_has 2 := ⟨rfl, w2_34, w1_1, ⟨by decide, by decide, by decide +kernel⟩, by decide⟩
abbrev mX8_found : MI := (yX8_found, cX8_found, 1, (some .int), [])
theorem w3_228 : Cond.code yX8_found cX8_found 1 (some .int) ∈ AL := AL_in (T3 (List.mem_of_getElem? (i := 228) rfl)) rfl
theorem YX8_found : YL mX8_found 1 := ⟨rfl, w3_228, w1_1, ⟨by decide, by decide, by decide +kernel⟩, by decide⟩
abbrev mX8_changed : MI := (yX8_changed, cX8_changed, 2, (some .int), [])
theorem w2_181 : Cond.code yX8_changed cX8_changed 2 (some .int) ∈ AL := AL_in (T2 (List.mem_of_getElem? (i := 181) rfl)) rfl
theorem YX8_changed : YL mX8_changed 1 := ⟨rfl, w2_181, w1_1, ⟨by decide, by decide, by decide +kernel⟩, by decide⟩
abbrev mX8_perform : MI := (yX8_perform, cX8_perform, 4, (some .int), [])
theorem w5_146 : Cond.code yX8_perform cX8_perform 4 (some .int) ∈ AL := AL_in (T5 (List.mem_of_getElem? (i := 146) rfl)) rfl
theorem YX8_perform : YL mX8_perform 3 := ⟨rfl, w5_146, w1_1, ⟨by decide, by decide, by decide +kernel⟩, by decide⟩
abbrev mX9_init : MI := (yX9_init, cX9_init, 1, none, [])
theorem w5_202 : Cond.code yX9_init cX9_init 1 none ∈ AL := AL_in (T5 (List.mem_of_getElem? (i := 202) rfl)) rfl
theorem w1_10 : Cond.initialized RX9 ∈ AL := AL_in (T1 (List.mem_of_getElem? (i := 10) rfl)) rfl
theorem YX9_init : YL mX9_init 0 := ⟨rfl, w5_202, w1_10, ⟨by decide, by decide, by decide +kernel⟩, by decide⟩
abbrev mX9_thrown : MI := (yX9_thrown, cX9_thrown, 1, (some .int), [])
theorem w6_34 : Cond.code yX9_thrown cX9_thrown 1 (some .int) ∈ AL := AL_in (T6 (List.mem_of_getElem? (i := 34) rfl)) rfl
theorem YX9_thrown : YL mX9_thrown 0 := ⟨rfl, w6_34, w1_10, ⟨by decide, by decide, by decide +kernel⟩, by decide⟩
abbrev mX9_fails : MI := (yX9_fails, cX9_fails, 2, (some .int), [])
theorem w6_65 : Cond.code yX9_fails cX9_fails 2 (some .int) ∈ AL := AL_in (T6 (List.mem_of_getElem? (i := 65) rfl)) rfl
theorem YX9_fails : YL mX9_fails 1 := ⟨rfl, w6_65, w1_10, ⟨by decide, by decide, by decide +kernel⟩, by decide⟩
abbrev mX9_in : MI := (yX9_in, cX9_in, 3, (some .boolean), [])
theorem w6_49 : Cond.code yX9_in cX9_in 3 (some .boolean) ∈ AL := AL_in (T6 (List.mem_of_getElem? (i := 49) rfl)) rfl
theorem YX9_in : YL mX9_in 3 := ⟨rfl, w6_49, w1_10, ⟨by decide, by decide, by decide +kernel⟩, by decide⟩
abbrev mX9_remembers : MI := (yX9_remembers, cX9_remembers, 2, none, [])
theorem w6_42 : Cond.code yX9_remembers cX9_remembers 2 none ∈ AL := AL_in (T6 (List.mem_of_getElem? (i := 42) rfl)) rfl
theorem YX9_remembers : YL mX9_remembers 0 := ⟨rfl, w6_42, w1_10, ⟨by decide, by decide, by decide +kernel⟩, by decide⟩
abbrev mX9_changed : MI := (yX9_changed, cX9_changed, 3, (some .int), [])
theorem w6_61 : Cond.code yX9_changed cX9_changed 3 (some .int) ∈ AL := AL_in (T6 (List.mem_of_getElem? (i := 61) rfl)) rfl
theorem YX9_changed : YL mX9_changed 1 := ⟨rfl, w6_61, w1_10, ⟨by decide, by decide, by decide +kernel⟩, by decide⟩
abbrev mX9_done : MI := (yX9_done, cX9_done, 2, (some .int), [])
theorem w6_53 : Cond.code yX9_done cX9_done 2 (some .int) ∈ AL := AL_in (T6 (List.mem_of_getElem? (i := 53) rfl)) rfl
theorem YX9_done : YL mX9_done 1 := ⟨rfl, w6_53, w1_10, ⟨by decide, by decide, by decide +kernel⟩, by decide⟩
abbrev mX9_ends : MI := (yX9_ends, cX9_ends, 2, (some .int), [])
theorem w6_57 : Cond.code yX9_ends cX9_ends 2 (some .int) ∈ AL := AL_in (T6 (List.mem_of_getElem? (i := 57) rfl)) rfl
theorem YX9_ends : YL mX9_ends 1 := ⟨rfl, w6_57, w1_10, ⟨by decide, by decide, by decide +kernel⟩, by decide⟩
abbrev mX9_isBlock : MI := (yX9_isBlock, cX9_isBlock, 2, (some .boolean), [])
theorem w6_81 : Cond.code yX9_isBlock cX9_isBlock 2 (some .boolean) ∈ AL := AL_in (T6 (List.mem_of_getElem? (i := 81) rfl)) rfl
theorem YX9_isBlock : YL mX9_isBlock 1 := ⟨rfl, w6_81, w1_10, ⟨by decide, by decide, by decide +kernel⟩, by decide⟩
abbrev mX9_isTrain : MI := (yX9_isTrain, cX9_isTrain, 2, (some .boolean), [])
theorem w6_198 : Cond.code yX9_isTrain cX9_isTrain 2 (some .boolean) ∈ AL := AL_in (T6 (List.mem_of_getElem? (i := 198) rfl)) rfl
theorem YX9_isTrain : YL mX9_isTrain 1 := ⟨rfl, w6_198, w1_10, ⟨by decide, by decide, by decide +kernel⟩, by decide⟩
abbrev mX9_block : MI := (yX9_block, cX9_block, 3, (some .int), [])
theorem w6_109 : Cond.code yX9_block cX9_block 3 (some .int) ∈ AL := AL_in (T6 (List.mem_of_getElem? (i := 109) rfl)) rfl
theorem YX9_block : YL mX9_block 2 := ⟨rfl, w6_109, w1_10, ⟨by decide, by decide, by decide +kernel⟩, by decide⟩
abbrev mX9_train : MI := (yX9_train, cX9_train, 3, (some .int), [])
theorem w6_117 : Cond.code yX9_train cX9_train 3 (some .int) ∈ AL := AL_in (T6 (List.mem_of_getElem? (i := 117) rfl)) rfl
theorem YX9_train : YL mX9_train 2 := ⟨rfl, w6_117, w1_10, ⟨by decide, by decide, by decide +kernel⟩, by decide⟩
abbrev mX9_sets : MI := (yX9_sets, cX9_sets, 4, none, [])
theorem w6_231 : Cond.code yX9_sets cX9_sets 4 none ∈ AL := AL_in (T6 (List.mem_of_getElem? (i := 231) rfl)) rfl
theorem YX9_sets : YL mX9_sets 3 := ⟨rfl, w6_231, w1_10, ⟨by decide, by decide, by decide +kernel⟩, by decide⟩
abbrev mX9_linked : MI := (yX9_linked, cX9_linked, 3, (some .boolean), [])
theorem w6_85 : Cond.code yX9_linked cX9_linked 3 (some .boolean) ∈ AL := AL_in (T6 (List.mem_of_getElem? (i := 85) rfl)) rfl
theorem YX9_linked : YL mX9_linked 2 := ⟨rfl, w6_85, w1_10, ⟨by decide, by decide, by decide +kernel⟩, by decide⟩
abbrev mX9_links : MI := (yX9_links, cX9_links, 4, (some .int), [])
theorem w6_89 : Cond.code yX9_links cX9_links 4 (some .int) ∈ AL := AL_in (T6 (List.mem_of_getElem? (i := 89) rfl)) rfl
theorem YX9_links : YL mX9_links 0 := ⟨rfl, w6_89, w1_10, ⟨by decide, by decide, by decide +kernel⟩, by decide⟩
abbrev mX9_cats : MI := (yX9_cats, cX9_cats, 3, (some .int), [])
theorem w6_121 : Cond.code yX9_cats cX9_cats 3 (some .int) ∈ AL := AL_in (T6 (List.mem_of_getElem? (i := 121) rfl)) rfl
theorem YX9_cats : YL mX9_cats 0 := ⟨rfl, w6_121, w1_10, ⟨by decide, by decide, by decide +kernel⟩, by decide⟩
abbrev mX9_inside : MI := (yX9_inside, cX9_inside, 3, (some .int), [])
theorem w6_113 : Cond.code yX9_inside cX9_inside 3 (some .int) ∈ AL := AL_in (T6 (List.mem_of_getElem? (i := 113) rfl)) rfl
theorem YX9_inside : YL mX9_inside 1 := ⟨rfl, w6_113, w1_10, ⟨by decide, by decide, by decide +kernel⟩, by decide⟩
abbrev mX9_holder : MI := (yX9_holder, cX9_holder, 2, (some .int), [])
theorem w6_169 : Cond.code yX9_holder cX9_holder 2 (some .int) ∈ AL := AL_in (T6 (List.mem_of_getElem? (i := 169) rfl)) rfl
theorem YX9_holder : YL mX9_holder 1 := ⟨rfl, w6_169, w1_10, ⟨by decide, by decide, by decide +kernel⟩, by decide⟩
abbrev mX9_held : MI := (yX9_held, cX9_held, 3, (some .int), [])
theorem w7_19 : Cond.code yX9_held cX9_held 3 (some .int) ∈ AL := AL_in (T7 (List.mem_of_getElem? (i := 19) rfl)) rfl
theorem YX9_held : YL mX9_held 1 := ⟨rfl, w7_19, w1_10, ⟨by decide, by decide, by decide +kernel⟩, by decide⟩
abbrev mX9_goalOf : MI := (yX9_goalOf, cX9_goalOf, 2, (some .int), [])
theorem w6_206 : Cond.code yX9_goalOf cX9_goalOf 2 (some .int) ∈ AL := AL_in (T6 (List.mem_of_getElem? (i := 206) rfl)) rfl
theorem YX9_goalOf : YL mX9_goalOf 1 := ⟨rfl, w6_206, w1_10, ⟨by decide, by decide, by decide +kernel⟩, by decide⟩
abbrev mX9_ways : MI := (yX9_ways, cX9_ways, 5, none, [])
theorem w6_185 : Cond.code yX9_ways cX9_ways 5 none ∈ AL := AL_in (T6 (List.mem_of_getElem? (i := 185) rfl)) rfl
theorem YX9_ways : YL mX9_ways 1 := ⟨rfl, w6_185, w1_10, ⟨by decide, by decide, by decide +kernel⟩, by decide⟩
abbrev mX9_next : MI := (yX9_next, cX9_next, 5, (some .int), [])
theorem w6_202 : Cond.code yX9_next cX9_next 5 (some .int) ∈ AL := AL_in (T6 (List.mem_of_getElem? (i := 202) rfl)) rfl
theorem YX9_next : YL mX9_next 1 := ⟨rfl, w6_202, w1_10, ⟨by decide, by decide, by decide +kernel⟩, by decide⟩
abbrev mX9_adds : MI := (yX9_adds, cX9_adds, 4, (some .int), [])
theorem w6_46 : Cond.code yX9_adds cX9_adds 4 (some .int) ∈ AL := AL_in (T6 (List.mem_of_getElem? (i := 46) rfl)) rfl
theorem YX9_adds : YL mX9_adds 2 := ⟨rfl, w6_46, w1_10, ⟨by decide, by decide, by decide +kernel⟩, by decide⟩
abbrev mX9_joins : MI := (yX9_joins, cX9_joins, 3, (some .int), [])
theorem w6_77 : Cond.code yX9_joins cX9_joins 3 (some .int) ∈ AL := AL_in (T6 (List.mem_of_getElem? (i := 77) rfl)) rfl
theorem YX9_joins : YL mX9_joins 2 := ⟨rfl, w6_77, w1_10, ⟨by decide, by decide, by decide +kernel⟩, by decide⟩
abbrev mX9_parts : MI := (yX9_parts, cX9_parts, 3, (some .int), [])
theorem w6_97 : Cond.code yX9_parts cX9_parts 3 (some .int) ∈ AL := AL_in (T6 (List.mem_of_getElem? (i := 97) rfl)) rfl
theorem YX9_parts : YL mX9_parts 2 := ⟨rfl, w6_97, w1_10, ⟨by decide, by decide, by decide +kernel⟩, by decide⟩
abbrev mX9_seats : MI := (yX9_seats, cX9_seats, 2, (some .int), [])
theorem w6_105 : Cond.code yX9_seats cX9_seats 2 (some .int) ∈ AL := AL_in (T6 (List.mem_of_getElem? (i := 105) rfl)) rfl
theorem YX9_seats : YL mX9_seats 1 := ⟨rfl, w6_105, w1_10, ⟨by decide, by decide, by decide +kernel⟩, by decide⟩
abbrev mX9_shoos : MI := (yX9_shoos, cX9_shoos, 2, (some .int), [])
theorem w6_129 : Cond.code yX9_shoos cX9_shoos 2 (some .int) ∈ AL := AL_in (T6 (List.mem_of_getElem? (i := 129) rfl)) rfl
theorem YX9_shoos : YL mX9_shoos 1 := ⟨rfl, w6_129, w1_10, ⟨by decide, by decide, by decide +kernel⟩, by decide⟩
abbrev mX9_starts : MI := (yX9_starts, cX9_starts, 5, (some .int), [])
theorem w6_227 : Cond.code yX9_starts cX9_starts 5 (some .int) ∈ AL := AL_in (T6 (List.mem_of_getElem? (i := 227) rfl)) rfl
theorem YX9_starts : YL mX9_starts 2 := ⟨rfl, w6_227, w1_10, ⟨by decide, by decide, by decide +kernel⟩, by decide⟩
abbrev mX9_aims : MI := (yX9_aims, cX9_aims, 3, (some .int), [])
theorem w6_239 : Cond.code yX9_aims cX9_aims 3 (some .int) ∈ AL := AL_in (T6 (List.mem_of_getElem? (i := 239) rfl)) rfl
theorem YX9_aims : YL mX9_aims 2 := ⟨rfl, w6_239, w1_10, ⟨by decide, by decide, by decide +kernel⟩, by decide⟩
abbrev mX9_forgets : MI := (yX9_forgets, cX9_forgets, 3, (some .int), [])
theorem w7_7 : Cond.code yX9_forgets cX9_forgets 3 (some .int) ∈ AL := AL_in (T7 (List.mem_of_getElem? (i := 7) rfl)) rfl
theorem YX9_forgets : YL mX9_forgets 1 := ⟨rfl, w7_7, w1_10, ⟨by decide, by decide, by decide +kernel⟩, by decide⟩
abbrev mX9_holds : MI := (yX9_holds, cX9_holds, 5, (some .int), [])
theorem w7_15 : Cond.code yX9_holds cX9_holds 5 (some .int) ∈ AL := AL_in (T7 (List.mem_of_getElem? (i := 15) rfl)) rfl
theorem YX9_holds : YL mX9_holds 2 := ⟨rfl, w7_15, w1_10, ⟨by decide, by decide, by decide +kernel⟩, by decide⟩
abbrev mX9_frees : MI := (yX9_frees, cX9_frees, 3, (some .int), [])
theorem w7_27 : Cond.code yX9_frees cX9_frees 3 (some .int) ∈ AL := AL_in (T7 (List.mem_of_getElem? (i := 27) rfl)) rfl
theorem YX9_frees : YL mX9_frees 1 := ⟨rfl, w7_27, w1_10, ⟨by decide, by decide, by decide +kernel⟩, by decide⟩
abbrev mX9_rescues : MI := (yX9_rescues, cX9_rescues, 4, (some .int), [])
theorem w7_35 : Cond.code yX9_rescues cX9_rescues 4 (some .int) ∈ AL := AL_in (T7 (List.mem_of_getElem? (i := 35) rfl)) rfl
theorem YX9_rescues : YL mX9_rescues 1 := ⟨rfl, w7_35, w1_10, ⟨by decide, by decide, by decide +kernel⟩, by decide⟩
abbrev mX9_ranked : MI := (yX9_ranked, cX9_ranked, 5, (some .int), [])
theorem w7_75 : Cond.code yX9_ranked cX9_ranked 5 (some .int) ∈ AL := AL_in (T7 (List.mem_of_getElem? (i := 75) rfl)) rfl
theorem YX9_ranked : YL mX9_ranked 1 := ⟨rfl, w7_75, w1_10, ⟨by decide, by decide, by decide +kernel⟩, by decide⟩
abbrev mX9_acts : MI := (yX9_acts, cX9_acts, 4, (some .boolean), [])
theorem w7_108 : Cond.code yX9_acts cX9_acts 4 (some .boolean) ∈ AL := AL_in (T7 (List.mem_of_getElem? (i := 108) rfl)) rfl
theorem YX9_acts : YL mX9_acts 1 := ⟨rfl, w7_108, w1_10, ⟨by decide, by decide, by decide +kernel⟩, by decide⟩
abbrev mX9_oneTick : MI := (yX9_oneTick, cX9_oneTick, 4, (some .int), [])
theorem w7_104 : Cond.code yX9_oneTick cX9_oneTick 4 (some .int) ∈ AL := AL_in (T7 (List.mem_of_getElem? (i := 104) rfl)) rfl
theorem YX9_oneTick : YL mX9_oneTick 0 := ⟨rfl, w7_104, w1_10, ⟨by decide, by decide, by decide +kernel⟩, by decide⟩
abbrev mX9_passes : MI := (yX9_passes, cX9_passes, 5, (some .int), [])
theorem w7_100 : Cond.code yX9_passes cX9_passes 5 (some .int) ∈ AL := AL_in (T7 (List.mem_of_getElem? (i := 100) rfl)) rfl
theorem YX9_passes : YL mX9_passes 1 := ⟨rfl, w7_100, w1_10, ⟨by decide, by decide, by decide +kernel⟩, by decide⟩
abbrev mX9_addBlock : MI := (yX9_addBlock, cX9_addBlock, 2, (some .int), [])
theorem w6_38 : Cond.code yX9_addBlock cX9_addBlock 2 (some .int) ∈ AL := AL_in (T6 (List.mem_of_getElem? (i := 38) rfl)) rfl
theorem YX9_addBlock : YL mX9_addBlock 1 := ⟨rfl, w6_38, w1_10, ⟨by decide, by decide, by decide +kernel⟩, by decide⟩
abbrev mX9_addCushion : MI := (yX9_addCushion, cX9_addCushion, 2, (some .int), [])
theorem w6_69 : Cond.code yX9_addCushion cX9_addCushion 2 (some .int) ∈ AL := AL_in (T6 (List.mem_of_getElem? (i := 69) rfl)) rfl
theorem YX9_addCushion : YL mX9_addCushion 1 := ⟨rfl, w6_69, w1_10, ⟨by decide, by decide, by decide +kernel⟩, by decide⟩
abbrev mX9_link : MI := (yX9_link, cX9_link, 3, (some .int), [])
theorem w6_73 : Cond.code yX9_link cX9_link 3 (some .int) ∈ AL := AL_in (T6 (List.mem_of_getElem? (i := 73) rfl)) rfl
theorem YX9_link : YL mX9_link 2 := ⟨rfl, w6_73, w1_10, ⟨by decide, by decide, by decide +kernel⟩, by decide⟩
abbrev mX9_unlink : MI := (yX9_unlink, cX9_unlink, 3, (some .int), [])
theorem w6_93 : Cond.code yX9_unlink cX9_unlink 3 (some .int) ∈ AL := AL_in (T6 (List.mem_of_getElem? (i := 93) rfl)) rfl
theorem YX9_unlink : YL mX9_unlink 2 := ⟨rfl, w6_93, w1_10, ⟨by decide, by decide, by decide +kernel⟩, by decide⟩
abbrev mX9_putCat : MI := (yX9_putCat, cX9_putCat, 2, (some .int), [])
theorem w6_101 : Cond.code yX9_putCat cX9_putCat 2 (some .int) ∈ AL := AL_in (T6 (List.mem_of_getElem? (i := 101) rfl)) rfl
theorem YX9_putCat : YL mX9_putCat 1 := ⟨rfl, w6_101, w1_10, ⟨by decide, by decide, by decide +kernel⟩, by decide⟩
abbrev mX9_removeCat : MI := (yX9_removeCat, cX9_removeCat, 2, (some .int), [])
theorem w6_125 : Cond.code yX9_removeCat cX9_removeCat 2 (some .int) ∈ AL := AL_in (T6 (List.mem_of_getElem? (i := 125) rfl)) rfl
theorem YX9_removeCat : YL mX9_removeCat 1 := ⟨rfl, w6_125, w1_10, ⟨by decide, by decide, by decide +kernel⟩, by decide⟩
abbrev mX9_blockCount : MI := (yX9_blockCount, cX9_blockCount, 1, (some .int), [])
theorem w6_133 : Cond.code yX9_blockCount cX9_blockCount 1 (some .int) ∈ AL := AL_in (T6 (List.mem_of_getElem? (i := 133) rfl)) rfl
theorem YX9_blockCount : YL mX9_blockCount 0 := ⟨rfl, w6_133, w1_10, ⟨by decide, by decide, by decide +kernel⟩, by decide⟩
abbrev mX9_askedBlock : MI := (yX9_askedBlock, cX9_askedBlock, 3, (some .int), [])
theorem w6_141 : Cond.code yX9_askedBlock cX9_askedBlock 3 (some .int) ∈ AL := AL_in (T6 (List.mem_of_getElem? (i := 141) rfl)) rfl
theorem YX9_askedBlock : YL mX9_askedBlock 2 := ⟨rfl, w6_141, w1_10, ⟨by decide, by decide, by decide +kernel⟩, by decide⟩
abbrev mX9_length : MI := (yX9_length, cX9_length, 2, (some .int), [])
theorem w6_137 : Cond.code yX9_length cX9_length 2 (some .int) ∈ AL := AL_in (T6 (List.mem_of_getElem? (i := 137) rfl)) rfl
theorem YX9_length : YL mX9_length 1 := ⟨rfl, w6_137, w1_10, ⟨by decide, by decide, by decide +kernel⟩, by decide⟩
abbrev mX9_isCushion : MI := (yX9_isCushion, cX9_isCushion, 2, (some .boolean), [])
theorem w6_145 : Cond.code yX9_isCushion cX9_isCushion 2 (some .boolean) ∈ AL := AL_in (T6 (List.mem_of_getElem? (i := 145) rfl)) rfl
theorem YX9_isCushion : YL mX9_isCushion 1 := ⟨rfl, w6_145, w1_10, ⟨by decide, by decide, by decide +kernel⟩, by decide⟩
abbrev mX9_hasCat : MI := (yX9_hasCat, cX9_hasCat, 2, (some .boolean), [])
theorem w6_149 : Cond.code yX9_hasCat cX9_hasCat 2 (some .boolean) ∈ AL := AL_in (T6 (List.mem_of_getElem? (i := 149) rfl)) rfl
theorem YX9_hasCat : YL mX9_hasCat 1 := ⟨rfl, w6_149, w1_10, ⟨by decide, by decide, by decide +kernel⟩, by decide⟩
abbrev mX9_areLinked : MI := (yX9_areLinked, cX9_areLinked, 3, (some .boolean), [])
theorem w6_153 : Cond.code yX9_areLinked cX9_areLinked 3 (some .boolean) ∈ AL := AL_in (T6 (List.mem_of_getElem? (i := 153) rfl)) rfl
theorem YX9_areLinked : YL mX9_areLinked 2 := ⟨rfl, w6_153, w1_10, ⟨by decide, by decide, by decide +kernel⟩, by decide⟩
abbrev mX9_degree : MI := (yX9_degree, cX9_degree, 4, (some .int), [])
theorem w6_157 : Cond.code yX9_degree cX9_degree 4 (some .int) ∈ AL := AL_in (T6 (List.mem_of_getElem? (i := 157) rfl)) rfl
theorem YX9_degree : YL mX9_degree 1 := ⟨rfl, w6_157, w1_10, ⟨by decide, by decide, by decide +kernel⟩, by decide⟩
abbrev mX9_trainIn : MI := (yX9_trainIn, cX9_trainIn, 2, (some .int), [])
theorem w6_161 : Cond.code yX9_trainIn cX9_trainIn 2 (some .int) ∈ AL := AL_in (T6 (List.mem_of_getElem? (i := 161) rfl)) rfl
theorem YX9_trainIn : YL mX9_trainIn 1 := ⟨rfl, w6_161, w1_10, ⟨by decide, by decide, by decide +kernel⟩, by decide⟩
abbrev mX9_reservedBy : MI := (yX9_reservedBy, cX9_reservedBy, 2, (some .int), [])
theorem w6_165 : Cond.code yX9_reservedBy cX9_reservedBy 2 (some .int) ∈ AL := AL_in (T6 (List.mem_of_getElem? (i := 165) rfl)) rfl
theorem YX9_reservedBy : YL mX9_reservedBy 1 := ⟨rfl, w6_165, w1_10, ⟨by decide, by decide, by decide +kernel⟩, by decide⟩
abbrev mX9_sign : MI := (yX9_sign, cX9_sign, 2, (some .int), [])
theorem w6_177 : Cond.code yX9_sign cX9_sign 2 (some .int) ∈ AL := AL_in (T6 (List.mem_of_getElem? (i := 177) rfl)) rfl
theorem YX9_sign : YL mX9_sign 1 := ⟨rfl, w6_177, w1_10, ⟨by decide, by decide, by decide +kernel⟩, by decide⟩
abbrev mX9_signal : MI := (yX9_signal, cX9_signal, 2, (some .char), [])
theorem w6_173 : Cond.code yX9_signal cX9_signal 2 (some .char) ∈ AL := AL_in (T6 (List.mem_of_getElem? (i := 173) rfl)) rfl
theorem YX9_signal : YL mX9_signal 1 := ⟨rfl, w6_173, w1_10, ⟨by decide, by decide, by decide +kernel⟩, by decide⟩
abbrev mX9_distance : MI := (yX9_distance, cX9_distance, 3, (some .int), [])
theorem w6_181 : Cond.code yX9_distance cX9_distance 3 (some .int) ∈ AL := AL_in (T6 (List.mem_of_getElem? (i := 181) rfl)) rfl
theorem YX9_distance : YL mX9_distance 2 := ⟨rfl, w6_181, w1_10, ⟨by decide, by decide, by decide +kernel⟩, by decide⟩
abbrev mX9_distanceByRounds : MI := (yX9_distanceByRounds, cX9_distanceByRounds, 3, (some .int), [])
theorem w6_189 : Cond.code yX9_distanceByRounds cX9_distanceByRounds 3 (some .int) ∈ AL := AL_in (T6 (List.mem_of_getElem? (i := 189) rfl)) rfl
theorem YX9_distanceByRounds : YL mX9_distanceByRounds 2 := ⟨rfl, w6_189, w1_10, ⟨by decide, by decide, by decide +kernel⟩, by decide⟩
abbrev mX9_nextBlock : MI := (yX9_nextBlock, cX9_nextBlock, 3, (some .int), [])
theorem w6_194 : Cond.code yX9_nextBlock cX9_nextBlock 3 (some .int) ∈ AL := AL_in (T6 (List.mem_of_getElem? (i := 194) rfl)) rfl
theorem YX9_nextBlock : YL mX9_nextBlock 1 := ⟨rfl, w6_194, w1_10, ⟨by decide, by decide, by decide +kernel⟩, by decide⟩
abbrev mX9_partCount : MI := (yX9_partCount, cX9_partCount, 5, (some .int), [])
theorem w6_210 : Cond.code yX9_partCount cX9_partCount 5 (some .int) ∈ AL := AL_in (T6 (List.mem_of_getElem? (i := 210) rfl)) rfl
theorem YX9_partCount : YL mX9_partCount 0 := ⟨rfl, w6_210, w1_10, ⟨by decide, by decide, by decide +kernel⟩, by decide⟩
abbrev mX9_partCountByUnions : MI := (yX9_partCountByUnions, cX9_partCountByUnions, 1, (some .int), [])
theorem w6_214 : Cond.code yX9_partCountByUnions cX9_partCountByUnions 1 (some .int) ∈ AL := AL_in (T6 (List.mem_of_getElem? (i := 214) rfl)) rfl
theorem YX9_partCountByUnions : YL mX9_partCountByUnions 0 := ⟨rfl, w6_214, w1_10, ⟨by decide, by decide, by decide +kernel⟩, by decide⟩
abbrev mX9_nearestCushion : MI := (yX9_nearestCushion, cX9_nearestCushion, 5, (some .int), [])
theorem w6_219 : Cond.code yX9_nearestCushion cX9_nearestCushion 5 (some .int) ∈ AL := AL_in (T6 (List.mem_of_getElem? (i := 219) rfl)) rfl
theorem YX9_nearestCushion : YL mX9_nearestCushion 1 := ⟨rfl, w6_219, w1_10, ⟨by decide, by decide, by decide +kernel⟩, by decide⟩
abbrev mX9_addTrain : MI := (yX9_addTrain, cX9_addTrain, 3, (some .int), [])
theorem w6_223 : Cond.code yX9_addTrain cX9_addTrain 3 (some .int) ∈ AL := AL_in (T6 (List.mem_of_getElem? (i := 223) rfl)) rfl
theorem YX9_addTrain : YL mX9_addTrain 2 := ⟨rfl, w6_223, w1_10, ⟨by decide, by decide, by decide +kernel⟩, by decide⟩
abbrev mX9_setGoal : MI := (yX9_setGoal, cX9_setGoal, 3, (some .int), [])
theorem w6_235 : Cond.code yX9_setGoal cX9_setGoal 3 (some .int) ∈ AL := AL_in (T6 (List.mem_of_getElem? (i := 235) rfl)) rfl
theorem YX9_setGoal : YL mX9_setGoal 2 := ⟨rfl, w6_235, w1_10, ⟨by decide, by decide, by decide +kernel⟩, by decide⟩
abbrev mX9_clearGoal : MI := (yX9_clearGoal, cX9_clearGoal, 2, (some .int), [])
theorem w7_3 : Cond.code yX9_clearGoal cX9_clearGoal 2 (some .int) ∈ AL := AL_in (T7 (List.mem_of_getElem? (i := 3) rfl)) rfl
theorem YX9_clearGoal : YL mX9_clearGoal 1 := ⟨rfl, w7_3, w1_10, ⟨by decide, by decide, by decide +kernel⟩, by decide⟩
abbrev mX9_reserve : MI := (yX9_reserve, cX9_reserve, 3, (some .int), [])
theorem w7_11 : Cond.code yX9_reserve cX9_reserve 3 (some .int) ∈ AL := AL_in (T7 (List.mem_of_getElem? (i := 11) rfl)) rfl
theorem YX9_reserve : YL mX9_reserve 2 := ⟨rfl, w7_11, w1_10, ⟨by decide, by decide, by decide +kernel⟩, by decide⟩
abbrev mX9_cancelReservation : MI := (yX9_cancelReservation, cX9_cancelReservation, 2, (some .int), [])
theorem w7_23 : Cond.code yX9_cancelReservation cX9_cancelReservation 2 (some .int) ∈ AL := AL_in (T7 (List.mem_of_getElem? (i := 23) rfl)) rfl
theorem YX9_cancelReservation : YL mX9_cancelReservation 1 := ⟨rfl, w7_23, w1_10, ⟨by decide, by decide, by decide +kernel⟩, by decide⟩
abbrev mX9_rescue : MI := (yX9_rescue, cX9_rescue, 2, (some .int), [])
theorem w7_31 : Cond.code yX9_rescue cX9_rescue 2 (some .int) ∈ AL := AL_in (T7 (List.mem_of_getElem? (i := 31) rfl)) rfl
theorem YX9_rescue : YL mX9_rescue 1 := ⟨rfl, w7_31, w1_10, ⟨by decide, by decide, by decide +kernel⟩, by decide⟩
abbrev mX9_trainCount : MI := (yX9_trainCount, cX9_trainCount, 1, (some .int), [])
theorem w7_39 : Cond.code yX9_trainCount cX9_trainCount 1 (some .int) ∈ AL := AL_in (T7 (List.mem_of_getElem? (i := 39) rfl)) rfl
theorem YX9_trainCount : YL mX9_trainCount 0 := ⟨rfl, w7_39, w1_10, ⟨by decide, by decide, by decide +kernel⟩, by decide⟩
abbrev mX9_asked : MI := (yX9_asked, cX9_asked, 3, (some .int), [])
theorem w7_47 : Cond.code yX9_asked cX9_asked 3 (some .int) ∈ AL := AL_in (T7 (List.mem_of_getElem? (i := 47) rfl)) rfl
theorem YX9_asked : YL mX9_asked 2 := ⟨rfl, w7_47, w1_10, ⟨by decide, by decide, by decide +kernel⟩, by decide⟩
abbrev mX9_blockOf : MI := (yX9_blockOf, cX9_blockOf, 2, (some .int), [])
theorem w7_43 : Cond.code yX9_blockOf cX9_blockOf 2 (some .int) ∈ AL := AL_in (T7 (List.mem_of_getElem? (i := 43) rfl)) rfl
theorem YX9_blockOf : YL mX9_blockOf 1 := ⟨rfl, w7_43, w1_10, ⟨by decide, by decide, by decide +kernel⟩, by decide⟩
abbrev mX9_priority : MI := (yX9_priority, cX9_priority, 2, (some .int), [])
theorem w7_51 : Cond.code yX9_priority cX9_priority 2 (some .int) ∈ AL := AL_in (T7 (List.mem_of_getElem? (i := 51) rfl)) rfl
theorem YX9_priority : YL mX9_priority 1 := ⟨rfl, w7_51, w1_10, ⟨by decide, by decide, by decide +kernel⟩, by decide⟩
abbrev mX9_remainingTicks : MI := (yX9_remainingTicks, cX9_remainingTicks, 2, (some .int), [])
theorem w7_55 : Cond.code yX9_remainingTicks cX9_remainingTicks 2 (some .int) ∈ AL := AL_in (T7 (List.mem_of_getElem? (i := 55) rfl)) rfl
theorem YX9_remainingTicks : YL mX9_remainingTicks 1 := ⟨rfl, w7_55, w1_10, ⟨by decide, by decide, by decide +kernel⟩, by decide⟩
abbrev mX9_goal : MI := (yX9_goal, cX9_goal, 2, (some .int), [])
theorem w7_59 : Cond.code yX9_goal cX9_goal 2 (some .int) ∈ AL := AL_in (T7 (List.mem_of_getElem? (i := 59) rfl)) rfl
theorem YX9_goal : YL mX9_goal 1 := ⟨rfl, w7_59, w1_10, ⟨by decide, by decide, by decide +kernel⟩, by decide⟩
abbrev mX9_isDerailed : MI := (yX9_isDerailed, cX9_isDerailed, 2, (some .boolean), [])
theorem w7_63 : Cond.code yX9_isDerailed cX9_isDerailed 2 (some .boolean) ∈ AL := AL_in (T7 (List.mem_of_getElem? (i := 63) rfl)) rfl
theorem YX9_isDerailed : YL mX9_isDerailed 1 := ⟨rfl, w7_63, w1_10, ⟨by decide, by decide, by decide +kernel⟩, by decide⟩
abbrev mX9_waits : MI := (yX9_waits, cX9_waits, 2, (some .int), [])
theorem w7_67 : Cond.code yX9_waits cX9_waits 2 (some .int) ∈ AL := AL_in (T7 (List.mem_of_getElem? (i := 67) rfl)) rfl
theorem YX9_waits : YL mX9_waits 1 := ⟨rfl, w7_67, w1_10, ⟨by decide, by decide, by decide +kernel⟩, by decide⟩
abbrev mX9_trainByPriority : MI := (yX9_trainByPriority, cX9_trainByPriority, 3, (some .int), [])
theorem w7_71 : Cond.code yX9_trainByPriority cX9_trainByPriority 3 (some .int) ∈ AL := AL_in (T7 (List.mem_of_getElem? (i := 71) rfl)) rfl
theorem YX9_trainByPriority : YL mX9_trainByPriority 1 := ⟨rfl, w7_71, w1_10, ⟨by decide, by decide, by decide +kernel⟩, by decide⟩
abbrev mX9_blocker : MI := (yX9_blocker, cX9_blocker, 3, (some .int), [])
theorem w7_83 : Cond.code yX9_blocker cX9_blocker 3 (some .int) ∈ AL := AL_in (T7 (List.mem_of_getElem? (i := 83) rfl)) rfl
theorem YX9_blocker : YL mX9_blocker 1 := ⟨rfl, w7_83, w1_10, ⟨by decide, by decide, by decide +kernel⟩, by decide⟩
abbrev mX9_blockedBy : MI := (yX9_blockedBy, cX9_blockedBy, 3, (some .int), [])
theorem w7_79 : Cond.code yX9_blockedBy cX9_blockedBy 3 (some .int) ∈ AL := AL_in (T7 (List.mem_of_getElem? (i := 79) rfl)) rfl
theorem YX9_blockedBy : YL mX9_blockedBy 1 := ⟨rfl, w7_79, w1_10, ⟨by decide, by decide, by decide +kernel⟩, by decide⟩
abbrev mX9_deadlocked : MI := (yX9_deadlocked, cX9_deadlocked, 5, (some .int), [])
theorem w7_87 : Cond.code yX9_deadlocked cX9_deadlocked 5 (some .int) ∈ AL := AL_in (T7 (List.mem_of_getElem? (i := 87) rfl)) rfl
theorem YX9_deadlocked : YL mX9_deadlocked 0 := ⟨rfl, w7_87, w1_10, ⟨by decide, by decide, by decide +kernel⟩, by decide⟩
abbrev mX9_deadlockedByTable : MI := (yX9_deadlockedByTable, cX9_deadlockedByTable, 1, (some .int), [])
theorem w7_91 : Cond.code yX9_deadlockedByTable cX9_deadlockedByTable 1 (some .int) ∈ AL := AL_in (T7 (List.mem_of_getElem? (i := 91) rfl)) rfl
theorem YX9_deadlockedByTable : YL mX9_deadlockedByTable 0 := ⟨rfl, w7_91, w1_10, ⟨by decide, by decide, by decide +kernel⟩, by decide⟩
abbrev mX9_passTicks : MI := (yX9_passTicks, cX9_passTicks, 2, (some .int), [])
theorem w7_96 : Cond.code yX9_passTicks cX9_passTicks 2 (some .int) ∈ AL := AL_in (T7 (List.mem_of_getElem? (i := 96) rfl)) rfl
theorem YX9_passTicks : YL mX9_passTicks 1 := ⟨rfl, w7_96, w1_10, ⟨by decide, by decide, by decide +kernel⟩, by decide⟩
abbrev mX9_ticks : MI := (yX9_ticks, cX9_ticks, 1, (some .int), [])
theorem w7_112 : Cond.code yX9_ticks cX9_ticks 1 (some .int) ∈ AL := AL_in (T7 (List.mem_of_getElem? (i := 112) rfl)) rfl
theorem YX9_ticks : YL mX9_ticks 0 := ⟨rfl, w7_112, w1_10, ⟨by decide, by decide, by decide +kernel⟩, by decide⟩
abbrev mX9_arrivals : MI := (yX9_arrivals, cX9_arrivals, 1, (some .int), [])
theorem w7_116 : Cond.code yX9_arrivals cX9_arrivals 1 (some .int) ∈ AL := AL_in (T7 (List.mem_of_getElem? (i := 116) rfl)) rfl
theorem YX9_arrivals : YL mX9_arrivals 0 := ⟨rfl, w7_116, w1_10, ⟨by decide, by decide, by decide +kernel⟩, by decide⟩
abbrev mX9_ticksUntilArrival : MI := (yX9_ticksUntilArrival, cX9_ticksUntilArrival, 4, (some .int), [])
theorem w7_120 : Cond.code yX9_ticksUntilArrival cX9_ticksUntilArrival 4 (some .int) ∈ AL := AL_in (T7 (List.mem_of_getElem? (i := 120) rfl)) rfl
theorem YX9_ticksUntilArrival : YL mX9_ticksUntilArrival 1 := ⟨rfl, w7_120, w1_10, ⟨by decide, by decide, by decide +kernel⟩, by decide⟩
abbrev mX9_meanWaits : MI := (yX9_meanWaits, cX9_meanWaits, 3, (some .double), [])
theorem w7_124 : Cond.code yX9_meanWaits cX9_meanWaits 3 (some .double) ∈ AL := AL_in (T7 (List.mem_of_getElem? (i := 124) rfl)) rfl
theorem YX9_meanWaits : YL mX9_meanWaits 0 := ⟨rfl, w7_124, w1_10, ⟨by decide, by decide, by decide +kernel⟩, by decide⟩
abbrev mX9_occupiedFraction : MI := (yX9_occupiedFraction, cX9_occupiedFraction, 1, (some .float), [])
theorem w7_128 : Cond.code yX9_occupiedFraction cX9_occupiedFraction 1 (some .float) ∈ AL := AL_in (T7 (List.mem_of_getElem? (i := 128) rfl)) rfl
theorem YX9_occupiedFraction : YL mX9_occupiedFraction 0 := ⟨rfl, w7_128, w1_10, ⟨by decide, by decide, by decide +kernel⟩, by decide⟩
abbrev mX9_writes : MI := (yX9_writes, cX9_writes, 2, none, [])
theorem w7_136 : Cond.code yX9_writes cX9_writes 2 none ∈ AL := AL_in (T7 (List.mem_of_getElem? (i := 136) rfl)) rfl
theorem YX9_writes : YL mX9_writes 1 := ⟨rfl, w7_136, w1_10, ⟨by decide, by decide, by decide +kernel⟩, by decide⟩
abbrev mX9_writesNumber : MI := (yX9_writesNumber, cX9_writesNumber, 2, none, [])
theorem w7_140 : Cond.code yX9_writesNumber cX9_writesNumber 2 none ∈ AL := AL_in (T7 (List.mem_of_getElem? (i := 140) rfl)) rfl
theorem YX9_writesNumber : YL mX9_writesNumber 1 := ⟨rfl, w7_140, w1_10, ⟨by decide, by decide, by decide +kernel⟩, by decide⟩
abbrev mX9_writeTrain : MI := (yX9_writeTrain, cX9_writeTrain, 2, (some .int), [])
theorem w7_132 : Cond.code yX9_writeTrain cX9_writeTrain 2 (some .int) ∈ AL := AL_in (T7 (List.mem_of_getElem? (i := 132) rfl)) rfl
theorem YX9_writeTrain : YL mX9_writeTrain 1 := ⟨rfl, w7_132, w1_10, ⟨by decide, by decide, by decide +kernel⟩, by decide⟩
abbrev mX9_writeSignals : MI := (yX9_writeSignals, cX9_writeSignals, 2, (some .int), [])
theorem w7_144 : Cond.code yX9_writeSignals cX9_writeSignals 2 (some .int) ∈ AL := AL_in (T7 (List.mem_of_getElem? (i := 144) rfl)) rfl
theorem YX9_writeSignals : YL mX9_writeSignals 0 := ⟨rfl, w7_144, w1_10, ⟨by decide, by decide, by decide +kernel⟩, by decide⟩
abbrev mX9_outputCharacter : MI := (yX9_outputCharacter, cX9_outputCharacter, 2, (some .char), [])
theorem w7_148 : Cond.code yX9_outputCharacter cX9_outputCharacter 2 (some .char) ∈ AL := AL_in (T7 (List.mem_of_getElem? (i := 148) rfl)) rfl
theorem YX9_outputCharacter : YL mX9_outputCharacter 1 := ⟨rfl, w7_148, w1_10, ⟨by decide, by decide, by decide +kernel⟩, by decide⟩
abbrev mX9_isConsistent : MI := (yX9_isConsistent, cX9_isConsistent, 1, (some .boolean), [])
theorem w7_152 : Cond.code yX9_isConsistent cX9_isConsistent 1 (some .boolean) ∈ AL := AL_in (T7 (List.mem_of_getElem? (i := 152) rfl)) rfl
theorem YX9_isConsistent : YL mX9_isConsistent 0 := ⟨rfl, w7_152, w1_10, ⟨by decide, by decide, by decide +kernel⟩, by decide⟩
abbrev mX9_feed : MI := (yX9_feed, cX9_feed, 2, (some .int), [])
theorem w7_156 : Cond.code yX9_feed cX9_feed 2 (some .int) ∈ AL := AL_in (T7 (List.mem_of_getElem? (i := 156) rfl)) rfl
theorem YX9_feed : YL mX9_feed 1 := ⟨rfl, w7_156, w1_10, ⟨by decide, by decide, by decide +kernel⟩, by decide⟩
abbrev mX9_here : MI := (yX9_here, cX9_here, 2, (some .int), [])
theorem w7_168 : Cond.code yX9_here cX9_here 2 (some .int) ∈ AL := AL_in (T7 (List.mem_of_getElem? (i := 168) rfl)) rfl
theorem YX9_here : YL mX9_here 1 := ⟨rfl, w7_168, w1_10, ⟨by decide, by decide, by decide +kernel⟩, by decide⟩
abbrev mX9_says : MI := (yX9_says, cX9_says, 3, none, [])
theorem w7_177 : Cond.code yX9_says cX9_says 3 none ∈ AL := AL_in (T7 (List.mem_of_getElem? (i := 177) rfl)) rfl
theorem YX9_says : YL mX9_says 1 := ⟨rfl, w7_177, w1_10, ⟨by decide, by decide, by decide +kernel⟩, by decide⟩
abbrev mX9_number : MI := (yX9_number, cX9_number, 5, none, [])
theorem w7_183 : Cond.code yX9_number cX9_number 5 none ∈ AL := AL_in (T7 (List.mem_of_getElem? (i := 183) rfl)) rfl
theorem YX9_number : YL mX9_number 2 := ⟨rfl, w7_183, w1_10, ⟨by decide, by decide, by decide +kernel⟩, by decide⟩
abbrev mX9_one : MI := (yX9_one, cX9_one, 4, none, [])
theorem w7_173 : Cond.code yX9_one cX9_one 4 none ∈ AL := AL_in (T7 (List.mem_of_getElem? (i := 173) rfl)) rfl
theorem YX9_one : YL mX9_one 3 := ⟨rfl, w7_173, w1_10, ⟨by decide, by decide, by decide +kernel⟩, by decide⟩
abbrev mX9_two : MI := (yX9_two, cX9_two, 6, none, [])
theorem w7_191 : Cond.code yX9_two cX9_two 6 none ∈ AL := AL_in (T7 (List.mem_of_getElem? (i := 191) rfl)) rfl
theorem YX9_two : YL mX9_two 5 := ⟨rfl, w7_191, w1_10, ⟨by decide, by decide, by decide +kernel⟩, by decide⟩
abbrev mX9_readsOne : MI := (yX9_readsOne, cX9_readsOne, 1, none, [])
theorem w7_164 : Cond.code yX9_readsOne cX9_readsOne 1 none ∈ AL := AL_in (T7 (List.mem_of_getElem? (i := 164) rfl)) rfl
theorem YX9_readsOne : YL mX9_readsOne 0 := ⟨rfl, w7_164, w1_10, ⟨by decide, by decide, by decide +kernel⟩, by decide⟩
abbrev mX9_does : MI := (yX9_does, cX9_does, 4, (some .int), [])
theorem w7_203 : Cond.code yX9_does cX9_does 4 (some .int) ∈ AL := AL_in (T7 (List.mem_of_getElem? (i := 203) rfl)) rfl
theorem YX9_does : YL mX9_does 1 := ⟨rfl, w7_203, w1_10, ⟨by decide, by decide, by decide +kernel⟩, by decide⟩
abbrev mX9_execute : MI := (yX9_execute, cX9_execute, 3, (some .int), [])
theorem w7_160 : Cond.code yX9_execute cX9_execute 3 (some .int) ∈ AL := AL_in (T7 (List.mem_of_getElem? (i := 160) rfl)) rfl
theorem YX9_execute : YL mX9_execute 0 := ⟨rfl, w7_160, w1_10, ⟨by decide, by decide, by decide +kernel⟩, by decide⟩
abbrev mX9_errorPosition : MI := (yX9_errorPosition, cX9_errorPosition, 1, (some .int), [])
theorem w7_207 : Cond.code yX9_errorPosition cX9_errorPosition 1 (some .int) ∈ AL := AL_in (T7 (List.mem_of_getElem? (i := 207) rfl)) rfl
theorem YX9_errorPosition : YL mX9_errorPosition 0 := ⟨rfl, w7_207, w1_10, ⟨by decide, by decide, by decide +kernel⟩, by decide⟩
abbrev mX9_failedCommand : MI := (yX9_failedCommand, cX9_failedCommand, 1, (some .int), [])
theorem w7_211 : Cond.code yX9_failedCommand cX9_failedCommand 1 (some .int) ∈ AL := AL_in (T7 (List.mem_of_getElem? (i := 211) rfl)) rfl
theorem YX9_failedCommand : YL mX9_failedCommand 0 := ⟨rfl, w7_211, w1_10, ⟨by decide, by decide, by decide +kernel⟩, by decide⟩
abbrev mX9_undo : MI := (yX9_undo, cX9_undo, 2, (some .int), [])
theorem w7_215 : Cond.code yX9_undo cX9_undo 2 (some .int) ∈ AL := AL_in (T7 (List.mem_of_getElem? (i := 215) rfl)) rfl
theorem YX9_undo : YL mX9_undo 0 := ⟨rfl, w7_215, w1_10, ⟨by decide, by decide, by decide +kernel⟩, by decide⟩
abbrev mX9_undoCount : MI := (yX9_undoCount, cX9_undoCount, 1, (some .int), [])
theorem w7_219 : Cond.code yX9_undoCount cX9_undoCount 1 (some .int) ∈ AL := AL_in (T7 (List.mem_of_getElem? (i := 219) rfl)) rfl
theorem YX9_undoCount : YL mX9_undoCount 0 := ⟨rfl, w7_219, w1_10, ⟨by decide, by decide, by decide +kernel⟩, by decide⟩
abbrev mX9_save : MI := (yX9_save, cX9_save, 2, (some .int), [])
theorem w7_223 : Cond.code yX9_save cX9_save 2 (some .int) ∈ AL := AL_in (T7 (List.mem_of_getElem? (i := 223) rfl)) rfl
theorem YX9_save : YL mX9_save 0 := ⟨rfl, w7_223, w1_10, ⟨by decide, by decide, by decide +kernel⟩, by decide⟩
abbrev mX9_restore : MI := (yX9_restore, cX9_restore, 2, (some .int), [])
theorem w7_227 : Cond.code yX9_restore cX9_restore 2 (some .int) ∈ AL := AL_in (T7 (List.mem_of_getElem? (i := 227) rfl)) rfl
theorem YX9_restore : YL mX9_restore 0 := ⟨rfl, w7_227, w1_10, ⟨by decide, by decide, by decide +kernel⟩, by decide⟩
abbrev mJx00060_init_a7421 : MI := (yJx00060_init_a7421, cJx00060_init_a7421, 2, none, [])
theorem w3_98 : Cond.code yJx00060_init_a7421 cJx00060_init_a7421 2 none ∈ AL := AL_in (T3 (List.mem_of_getElem? (i := 98) rfl)) rfl
theorem w1_21 : Cond.initialized RJx00060 ∈ AL := AL_in (T1 (List.mem_of_getElem? (i := 21) rfl)) rfl
theorem YJx00060_init_a7421 : YL mJx00060_init_a7421 1 := ⟨rfl, w3_98, w1_21, ⟨by decide, by decide, by decide +kernel⟩, by decide⟩
abbrev mJx29ce0_ordinal_8abf5 : MI := (yJx29ce0_ordinal_8abf5, cJx29ce0_ordinal_8abf5, 1, (some .int), [])
theorem w5_154 : Cond.code yJx29ce0_ordinal_8abf5 cJx29ce0_ordinal_8abf5 1 (some .int) ∈ AL := AL_in (T5 (List.mem_of_getElem? (i := 154) rfl)) rfl
theorem w1_7 : Cond.initialized RJx29ce0 ∈ AL := AL_in (T1 (List.mem_of_getElem? (i := 7) rfl)) rfl
theorem YJx29ce0_ordinal_8abf5 : YL mJx29ce0_ordinal_8abf5 0 := ⟨rfl, w5_154, w1_7, ⟨by decide, by decide, by decide +kernel⟩, by decide⟩
abbrev mJ6_bitCount_0f7a4 : MI := (yJ6_bitCount_0f7a4, cJ6_bitCount_0f7a4, 1, (some .int), [])
theorem w3_135 : Cond.code yJ6_bitCount_0f7a4 cJ6_bitCount_0f7a4 1 (some .int) ∈ AL := AL_in (T3 (List.mem_of_getElem? (i := 135) rfl)) rfl
theorem w1_23 : Cond.initialized RJ6 ∈ AL := AL_in (T1 (List.mem_of_getElem? (i := 23) rfl)) rfl
theorem YJ6_bitCount_0f7a4 : YL mJ6_bitCount_0f7a4 1 := ⟨rfl, w3_135, w1_23, ⟨by decide, by decide, by decide +kernel⟩, by decide⟩
abbrev mJ9_max_7cf53 : MI := (yJ9_max_7cf53, cJ9_max_7cf53, 2, (some .int), [])
theorem w5_135 : Cond.code yJ9_max_7cf53 cJ9_max_7cf53 2 (some .int) ∈ AL := AL_in (T5 (List.mem_of_getElem? (i := 135) rfl)) rfl
theorem w1_20 : Cond.initialized RJ9 ∈ AL := AL_in (T1 (List.mem_of_getElem? (i := 20) rfl)) rfl
theorem YJ9_max_7cf53 : YL mJ9_max_7cf53 2 := ⟨rfl, w5_135, w1_20, ⟨by decide, by decide, by decide +kernel⟩, by decide⟩
abbrev mJ9_min_7cf53 : MI := (yJ9_min_7cf53, cJ9_min_7cf53, 2, (some .int), [])
theorem w3_84 : Cond.code yJ9_min_7cf53 cJ9_min_7cf53 2 (some .int) ∈ AL := AL_in (T3 (List.mem_of_getElem? (i := 84) rfl)) rfl
theorem YJ9_min_7cf53 : YL mJ9_min_7cf53 2 := ⟨rfl, w3_84, w1_20, ⟨by decide, by decide, by decide +kernel⟩, by decide⟩
abbrev mJ0_length_8abf5 : MI := (yJ0_length_8abf5, cJ0_length_8abf5, 1, (some .int), [])
theorem w5_76 : Cond.code yJ0_length_8abf5 cJ0_length_8abf5 1 (some .int) ∈ AL := AL_in (T5 (List.mem_of_getElem? (i := 76) rfl)) rfl
theorem w1_22 : Cond.initialized RJ0 ∈ AL := AL_in (T1 (List.mem_of_getElem? (i := 22) rfl)) rfl
theorem YJ0_length_8abf5 : YL mJ0_length_8abf5 0 := ⟨rfl, w5_76, w1_22, ⟨by decide, by decide, by decide +kernel⟩, by decide⟩
abbrev mJ0_charAt_5068e : MI := (yJ0_charAt_5068e, cJ0_charAt_5068e, 2, (some .char), [])
theorem w5_86 : Cond.code yJ0_charAt_5068e cJ0_charAt_5068e 2 (some .char) ∈ AL := AL_in (T5 (List.mem_of_getElem? (i := 86) rfl)) rfl
theorem YJ0_charAt_5068e : YL mJ0_charAt_5068e 1 := ⟨rfl, w5_86, w1_22, ⟨by decide, by decide, by decide +kernel⟩, by decide⟩
abbrev mJ0_coder_7d493 : MI := (yJ0_coder_7d493, cJ0_coder_7d493, 1, (some .byte), [])
theorem w5_80 : Cond.code yJ0_coder_7d493 cJ0_coder_7d493 1 (some .byte) ∈ AL := AL_in (T5 (List.mem_of_getElem? (i := 80) rfl)) rfl
theorem YJ0_coder_7d493 : YL mJ0_coder_7d493 0 := ⟨rfl, w5_80, w1_22, ⟨by decide, by decide, by decide +kernel⟩, by decide⟩
abbrev mJ0_isLatin1_aae02 : MI := (yJ0_isLatin1_aae02, cJ0_isLatin1_aae02, 1, (some .boolean), [])
theorem w5_90 : Cond.code yJ0_isLatin1_aae02 cJ0_isLatin1_aae02 1 (some .boolean) ∈ AL := AL_in (T5 (List.mem_of_getElem? (i := 90) rfl)) rfl
theorem YJ0_isLatin1_aae02 : YL mJ0_isLatin1_aae02 0 := ⟨rfl, w5_90, w1_22, ⟨by decide, by decide, by decide +kernel⟩, by decide⟩
abbrev mJ0_checkIndex_df160 : MI := (yJ0_checkIndex_df160, cJ0_checkIndex_df160, 2, none, [])
theorem w5_96 : Cond.code yJ0_checkIndex_df160 cJ0_checkIndex_df160 2 none ∈ AL := AL_in (T5 (List.mem_of_getElem? (i := 96) rfl)) rfl
theorem YJ0_checkIndex_df160 : YL mJ0_checkIndex_df160 2 := ⟨rfl, w5_96, w1_22, ⟨by decide, by decide, by decide +kernel⟩, by decide⟩
abbrev mJ1_charAt_3b067 : MI := (yJ1_charAt_3b067, cJ1_charAt_3b067, 2, (some .char), [])
theorem w5_93 : Cond.code yJ1_charAt_3b067 cJ1_charAt_3b067 2 (some .char) ∈ AL := AL_in (T5 (List.mem_of_getElem? (i := 93) rfl)) rfl
theorem w1_25 : Cond.initialized RJ1 ∈ AL := AL_in (T1 (List.mem_of_getElem? (i := 25) rfl)) rfl
theorem YJ1_charAt_3b067 : YL mJ1_charAt_3b067 2 := ⟨rfl, w5_93, w1_25, ⟨by decide, by decide, by decide +kernel⟩, by decide⟩
abbrev mJ2_getChar_3b067 : MI := (yJ2_getChar_3b067, cJ2_getChar_3b067, 2, (some .char), [])
theorem w5_114 : Cond.code yJ2_getChar_3b067 cJ2_getChar_3b067 2 (some .char) ∈ AL := AL_in (T5 (List.mem_of_getElem? (i := 114) rfl)) rfl
theorem w1_27 : Cond.initialized RJ2 ∈ AL := AL_in (T1 (List.mem_of_getElem? (i := 27) rfl)) rfl
theorem YJ2_getChar_3b067 : YL mJ2_getChar_3b067 2 := ⟨rfl, w5_114, w1_27, ⟨by decide, by decide, by decide +kernel⟩, by decide⟩
abbrev mJ2_length_9d52b : MI := (yJ2_length_9d52b, cJ2_length_9d52b, 1, (some .int), [])
theorem w5_110 : Cond.code yJ2_length_9d52b cJ2_length_9d52b 1 (some .int) ∈ AL := AL_in (T5 (List.mem_of_getElem? (i := 110) rfl)) rfl
theorem YJ2_length_9d52b : YL mJ2_length_9d52b 1 := ⟨rfl, w5_110, w1_27, ⟨by decide, by decide, by decide +kernel⟩, by decide⟩
abbrev mJ2_charAt_3b067 : MI := (yJ2_charAt_3b067, cJ2_charAt_3b067, 2, (some .char), [])
theorem w5_104 : Cond.code yJ2_charAt_3b067 cJ2_charAt_3b067 2 (some .char) ∈ AL := AL_in (T5 (List.mem_of_getElem? (i := 104) rfl)) rfl
theorem YJ2_charAt_3b067 : YL mJ2_charAt_3b067 2 := ⟨rfl, w5_104, w1_27, ⟨by decide, by decide, by decide +kernel⟩, by decide⟩
abbrev mJ2_checkIndex_2214a : MI := (yJ2_checkIndex_2214a, cJ2_checkIndex_2214a, 2, none, [])
theorem w5_107 : Cond.code yJ2_checkIndex_2214a cJ2_checkIndex_2214a 2 none ∈ AL := AL_in (T5 (List.mem_of_getElem? (i := 107) rfl)) rfl
theorem YJ2_checkIndex_2214a : YL mJ2_checkIndex_2214a 2 := ⟨rfl, w5_107, w1_27, ⟨by decide, by decide, by decide +kernel⟩, by decide⟩
abbrev mJ3_checkIndex_8e157 : MI := (yJ3_checkIndex_8e157, cJ3_checkIndex_8e157, 3, (some .int), [])
theorem w5_101 : Cond.code yJ3_checkIndex_8e157 cJ3_checkIndex_8e157 3 (some .int) ∈ AL := AL_in (T5 (List.mem_of_getElem? (i := 101) rfl)) rfl
theorem w1_26 : Cond.initialized RJ3 ∈ AL := AL_in (T1 (List.mem_of_getElem? (i := 26) rfl)) rfl
theorem YJ3_checkIndex_8e157 : YL mJ3_checkIndex_8e157 3 := ⟨rfl, w5_101, w1_26, ⟨by decide, by decide, by decide +kernel⟩, by decide⟩
abbrev mL_addBlock : MI := (yL_addBlock, cL_addBlock, 4, (some .int), [(0, 9, 12, 13), (0, 9, 15, 15)])
theorem w2_162 : Cond.codeWith yL_addBlock cL_addBlock 4 (some .int) [(0, 9, 12, 13), (0, 9, 15, 15)] ∈ AL := AL_in (T2 (List.mem_of_getElem? (i := 162) rfl)) rfl
theorem w1_0 : Cond.initialized RL ∈ AL := AL_in (T1 (List.mem_of_getElem? (i := 0) rfl)) rfl
theorem YL_addBlock : headC mL_addBlock ∈ AL ∧ Cond.initialized mL_addBlock.1.cls ∈ AL ∧ (mL_addBlock.1.cls ≠ "java/lang/invoke/MethodHandle" ∧ mL_addBlock.1.cls ≠ "java/lang/invoke/VarHandle" ∧ (parseMethodDescriptor mL_addBlock.1.desc).map (fun d => d.parameters.length) = some 3) ∧ mL_addBlock.2.2.1 ≤ 40 := ⟨w2_162, w1_0, ⟨by decide, by decide, by decide +kernel⟩, by decide⟩
abbrev mL_addCushion : MI := (yL_addCushion, cL_addCushion, 4, (some .int), [(0, 9, 12, 13), (0, 9, 15, 15)])
theorem w3_87 : Cond.codeWith yL_addCushion cL_addCushion 4 (some .int) [(0, 9, 12, 13), (0, 9, 15, 15)] ∈ AL := AL_in (T3 (List.mem_of_getElem? (i := 87) rfl)) rfl
theorem YL_addCushion : headC mL_addCushion ∈ AL ∧ Cond.initialized mL_addCushion.1.cls ∈ AL ∧ (mL_addCushion.1.cls ≠ "java/lang/invoke/MethodHandle" ∧ mL_addCushion.1.cls ≠ "java/lang/invoke/VarHandle" ∧ (parseMethodDescriptor mL_addCushion.1.desc).map (fun d => d.parameters.length) = some 3) ∧ mL_addCushion.2.2.1 ≤ 40 := ⟨w3_87, w1_0, ⟨by decide, by decide, by decide +kernel⟩, by decide⟩
abbrev mL_link : MI := (yL_link, cL_link, 5, (some .int), [(0, 10, 13, 24), (0, 10, 17, 13), (0, 10, 21, 15)])
theorem w3_94 : Cond.codeWith yL_link cL_link 5 (some .int) [(0, 10, 13, 24), (0, 10, 17, 13), (0, 10, 21, 15)] ∈ AL := AL_in (T3 (List.mem_of_getElem? (i := 94) rfl)) rfl
theorem YL_link : headC mL_link ∈ AL ∧ Cond.initialized mL_link.1.cls ∈ AL ∧ (mL_link.1.cls ≠ "java/lang/invoke/MethodHandle" ∧ mL_link.1.cls ≠ "java/lang/invoke/VarHandle" ∧ (parseMethodDescriptor mL_link.1.desc).map (fun d => d.parameters.length) = some 4) ∧ mL_link.2.2.1 ≤ 40 := ⟨w3_94, w1_0, ⟨by decide, by decide, by decide +kernel⟩, by decide⟩
abbrev mL_unlink : MI := (yL_unlink, cL_unlink, 5, (some .int), [(0, 10, 13, 24), (0, 10, 17, 29)])
theorem w3_141 : Cond.codeWith yL_unlink cL_unlink 5 (some .int) [(0, 10, 13, 24), (0, 10, 17, 29)] ∈ AL := AL_in (T3 (List.mem_of_getElem? (i := 141) rfl)) rfl
theorem YL_unlink : headC mL_unlink ∈ AL ∧ Cond.initialized mL_unlink.1.cls ∈ AL ∧ (mL_unlink.1.cls ≠ "java/lang/invoke/MethodHandle" ∧ mL_unlink.1.cls ≠ "java/lang/invoke/VarHandle" ∧ (parseMethodDescriptor mL_unlink.1.desc).map (fun d => d.parameters.length) = some 4) ∧ mL_unlink.2.2.1 ≤ 40 := ⟨w3_141, w1_0, ⟨by decide, by decide, by decide +kernel⟩, by decide⟩
abbrev mL_putCat : MI := (yL_putCat, cL_putCat, 4, (some .int), [(0, 9, 12, 24), (0, 9, 15, 15), (0, 9, 18, 34)])
theorem w3_153 : Cond.codeWith yL_putCat cL_putCat 4 (some .int) [(0, 9, 12, 24), (0, 9, 15, 15), (0, 9, 18, 34)] ∈ AL := AL_in (T3 (List.mem_of_getElem? (i := 153) rfl)) rfl
theorem YL_putCat : headC mL_putCat ∈ AL ∧ Cond.initialized mL_putCat.1.cls ∈ AL ∧ (mL_putCat.1.cls ≠ "java/lang/invoke/MethodHandle" ∧ mL_putCat.1.cls ≠ "java/lang/invoke/VarHandle" ∧ (parseMethodDescriptor mL_putCat.1.desc).map (fun d => d.parameters.length) = some 3) ∧ mL_putCat.2.2.1 ≤ 40 := ⟨w3_153, w1_0, ⟨by decide, by decide, by decide +kernel⟩, by decide⟩
abbrev mL_removeCat : MI := (yL_removeCat, cL_removeCat, 4, (some .int), [(0, 9, 12, 24), (0, 9, 15, 29)])
theorem w3_165 : Cond.codeWith yL_removeCat cL_removeCat 4 (some .int) [(0, 9, 12, 24), (0, 9, 15, 29)] ∈ AL := AL_in (T3 (List.mem_of_getElem? (i := 165) rfl)) rfl
theorem YL_removeCat : headC mL_removeCat ∈ AL ∧ Cond.initialized mL_removeCat.1.cls ∈ AL ∧ (mL_removeCat.1.cls ≠ "java/lang/invoke/MethodHandle" ∧ mL_removeCat.1.cls ≠ "java/lang/invoke/VarHandle" ∧ (parseMethodDescriptor mL_removeCat.1.desc).map (fun d => d.parameters.length) = some 3) ∧ mL_removeCat.2.2.1 ≤ 40 := ⟨w3_165, w1_0, ⟨by decide, by decide, by decide +kernel⟩, by decide⟩
abbrev mL_length : MI := (yL_length, cL_length, 4, (some .int), [(0, 9, 12, 24)])
theorem w3_176 : Cond.codeWith yL_length cL_length 4 (some .int) [(0, 9, 12, 24)] ∈ AL := AL_in (T3 (List.mem_of_getElem? (i := 176) rfl)) rfl
theorem YL_length : headC mL_length ∈ AL ∧ Cond.initialized mL_length.1.cls ∈ AL ∧ (mL_length.1.cls ≠ "java/lang/invoke/MethodHandle" ∧ mL_length.1.cls ≠ "java/lang/invoke/VarHandle" ∧ (parseMethodDescriptor mL_length.1.desc).map (fun d => d.parameters.length) = some 3) ∧ mL_length.2.2.1 ≤ 40 := ⟨w3_176, w1_0, ⟨by decide, by decide, by decide +kernel⟩, by decide⟩
abbrev mL_isCushion : MI := (yL_isCushion, cL_isCushion, 4, (some .int), [(0, 16, 19, 24)])
theorem w3_189 : Cond.codeWith yL_isCushion cL_isCushion 4 (some .int) [(0, 16, 19, 24)] ∈ AL := AL_in (T3 (List.mem_of_getElem? (i := 189) rfl)) rfl
theorem YL_isCushion : headC mL_isCushion ∈ AL ∧ Cond.initialized mL_isCushion.1.cls ∈ AL ∧ (mL_isCushion.1.cls ≠ "java/lang/invoke/MethodHandle" ∧ mL_isCushion.1.cls ≠ "java/lang/invoke/VarHandle" ∧ (parseMethodDescriptor mL_isCushion.1.desc).map (fun d => d.parameters.length) = some 3) ∧ mL_isCushion.2.2.1 ≤ 40 := ⟨w3_189, w1_0, ⟨by decide, by decide, by decide +kernel⟩, by decide⟩
abbrev mL_hasCat : MI := (yL_hasCat, cL_hasCat, 4, (some .int), [(0, 16, 19, 24)])
theorem w3_197 : Cond.codeWith yL_hasCat cL_hasCat 4 (some .int) [(0, 16, 19, 24)] ∈ AL := AL_in (T3 (List.mem_of_getElem? (i := 197) rfl)) rfl
theorem YL_hasCat : headC mL_hasCat ∈ AL ∧ Cond.initialized mL_hasCat.1.cls ∈ AL ∧ (mL_hasCat.1.cls ≠ "java/lang/invoke/MethodHandle" ∧ mL_hasCat.1.cls ≠ "java/lang/invoke/VarHandle" ∧ (parseMethodDescriptor mL_hasCat.1.desc).map (fun d => d.parameters.length) = some 3) ∧ mL_hasCat.2.2.1 ≤ 40 := ⟨w3_197, w1_0, ⟨by decide, by decide, by decide +kernel⟩, by decide⟩
abbrev mL_areLinked : MI := (yL_areLinked, cL_areLinked, 5, (some .int), [(0, 17, 20, 24)])
theorem w3_204 : Cond.codeWith yL_areLinked cL_areLinked 5 (some .int) [(0, 17, 20, 24)] ∈ AL := AL_in (T3 (List.mem_of_getElem? (i := 204) rfl)) rfl
theorem YL_areLinked : headC mL_areLinked ∈ AL ∧ Cond.initialized mL_areLinked.1.cls ∈ AL ∧ (mL_areLinked.1.cls ≠ "java/lang/invoke/MethodHandle" ∧ mL_areLinked.1.cls ≠ "java/lang/invoke/VarHandle" ∧ (parseMethodDescriptor mL_areLinked.1.desc).map (fun d => d.parameters.length) = some 4) ∧ mL_areLinked.2.2.1 ≤ 40 := ⟨w3_204, w1_0, ⟨by decide, by decide, by decide +kernel⟩, by decide⟩
abbrev mL_degree : MI := (yL_degree, cL_degree, 4, (some .int), [(0, 9, 12, 24)])
theorem w3_212 : Cond.codeWith yL_degree cL_degree 4 (some .int) [(0, 9, 12, 24)] ∈ AL := AL_in (T3 (List.mem_of_getElem? (i := 212) rfl)) rfl
theorem YL_degree : headC mL_degree ∈ AL ∧ Cond.initialized mL_degree.1.cls ∈ AL ∧ (mL_degree.1.cls ≠ "java/lang/invoke/MethodHandle" ∧ mL_degree.1.cls ≠ "java/lang/invoke/VarHandle" ∧ (parseMethodDescriptor mL_degree.1.desc).map (fun d => d.parameters.length) = some 3) ∧ mL_degree.2.2.1 ≤ 40 := ⟨w3_212, w1_0, ⟨by decide, by decide, by decide +kernel⟩, by decide⟩
abbrev mL_trainIn : MI := (yL_trainIn, cL_trainIn, 4, (some .int), [(0, 9, 12, 24), (0, 9, 15, 29)])
theorem w3_220 : Cond.codeWith yL_trainIn cL_trainIn 4 (some .int) [(0, 9, 12, 24), (0, 9, 15, 29)] ∈ AL := AL_in (T3 (List.mem_of_getElem? (i := 220) rfl)) rfl
theorem YL_trainIn : headC mL_trainIn ∈ AL ∧ Cond.initialized mL_trainIn.1.cls ∈ AL ∧ (mL_trainIn.1.cls ≠ "java/lang/invoke/MethodHandle" ∧ mL_trainIn.1.cls ≠ "java/lang/invoke/VarHandle" ∧ (parseMethodDescriptor mL_trainIn.1.desc).map (fun d => d.parameters.length) = some 3) ∧ mL_trainIn.2.2.1 ≤ 40 := ⟨w3_220, w1_0, ⟨by decide, by decide, by decide +kernel⟩, by decide⟩
abbrev mL_reservedBy : MI := (yL_reservedBy, cL_reservedBy, 4, (some .int), [(0, 9, 12, 24), (0, 9, 15, 29)])
theorem w3_231 : Cond.codeWith yL_reservedBy cL_reservedBy 4 (some .int) [(0, 9, 12, 24), (0, 9, 15, 29)] ∈ AL := AL_in (T3 (List.mem_of_getElem? (i := 231) rfl)) rfl
theorem YL_reservedBy : headC mL_reservedBy ∈ AL ∧ Cond.initialized mL_reservedBy.1.cls ∈ AL ∧ (mL_reservedBy.1.cls ≠ "java/lang/invoke/MethodHandle" ∧ mL_reservedBy.1.cls ≠ "java/lang/invoke/VarHandle" ∧ (parseMethodDescriptor mL_reservedBy.1.desc).map (fun d => d.parameters.length) = some 3) ∧ mL_reservedBy.2.2.1 ≤ 40 := ⟨w3_231, w1_0, ⟨by decide, by decide, by decide +kernel⟩, by decide⟩
abbrev mL_signal : MI := (yL_signal, cL_signal, 4, (some .int), [(0, 9, 12, 24)])
theorem w3_239 : Cond.codeWith yL_signal cL_signal 4 (some .int) [(0, 9, 12, 24)] ∈ AL := AL_in (T3 (List.mem_of_getElem? (i := 239) rfl)) rfl
theorem YL_signal : headC mL_signal ∈ AL ∧ Cond.initialized mL_signal.1.cls ∈ AL ∧ (mL_signal.1.cls ≠ "java/lang/invoke/MethodHandle" ∧ mL_signal.1.cls ≠ "java/lang/invoke/VarHandle" ∧ (parseMethodDescriptor mL_signal.1.desc).map (fun d => d.parameters.length) = some 3) ∧ mL_signal.2.2.1 ≤ 40 := ⟨w3_239, w1_0, ⟨by decide, by decide, by decide +kernel⟩, by decide⟩
abbrev mL_distance : MI := (yL_distance, cL_distance, 5, (some .int), [(0, 10, 13, 24), (0, 10, 17, 29)])
theorem w4_6 : Cond.codeWith yL_distance cL_distance 5 (some .int) [(0, 10, 13, 24), (0, 10, 17, 29)] ∈ AL := AL_in (T4 (List.mem_of_getElem? (i := 6) rfl)) rfl
theorem YL_distance : headC mL_distance ∈ AL ∧ Cond.initialized mL_distance.1.cls ∈ AL ∧ (mL_distance.1.cls ≠ "java/lang/invoke/MethodHandle" ∧ mL_distance.1.cls ≠ "java/lang/invoke/VarHandle" ∧ (parseMethodDescriptor mL_distance.1.desc).map (fun d => d.parameters.length) = some 4) ∧ mL_distance.2.2.1 ≤ 40 := ⟨w4_6, w1_0, ⟨by decide, by decide, by decide +kernel⟩, by decide⟩
abbrev mL_distanceByRounds : MI := (yL_distanceByRounds, cL_distanceByRounds, 5, (some .int), [(0, 10, 13, 24), (0, 10, 17, 29)])
theorem w4_14 : Cond.codeWith yL_distanceByRounds cL_distanceByRounds 5 (some .int) [(0, 10, 13, 24), (0, 10, 17, 29)] ∈ AL := AL_in (T4 (List.mem_of_getElem? (i := 14) rfl)) rfl
theorem YL_distanceByRounds : headC mL_distanceByRounds ∈ AL ∧ Cond.initialized mL_distanceByRounds.1.cls ∈ AL ∧ (mL_distanceByRounds.1.cls ≠ "java/lang/invoke/MethodHandle" ∧ mL_distanceByRounds.1.cls ≠ "java/lang/invoke/VarHandle" ∧ (parseMethodDescriptor mL_distanceByRounds.1.desc).map (fun d => d.parameters.length) = some 4) ∧ mL_distanceByRounds.2.2.1 ≤ 40 := ⟨w4_14, w1_0, ⟨by decide, by decide, by decide +kernel⟩, by decide⟩
abbrev mL_nextBlock : MI := (yL_nextBlock, cL_nextBlock, 4, (some .int), [(0, 9, 12, 24), (0, 9, 15, 29)])
theorem w4_22 : Cond.codeWith yL_nextBlock cL_nextBlock 4 (some .int) [(0, 9, 12, 24), (0, 9, 15, 29)] ∈ AL := AL_in (T4 (List.mem_of_getElem? (i := 22) rfl)) rfl
theorem YL_nextBlock : headC mL_nextBlock ∈ AL ∧ Cond.initialized mL_nextBlock.1.cls ∈ AL ∧ (mL_nextBlock.1.cls ≠ "java/lang/invoke/MethodHandle" ∧ mL_nextBlock.1.cls ≠ "java/lang/invoke/VarHandle" ∧ (parseMethodDescriptor mL_nextBlock.1.desc).map (fun d => d.parameters.length) = some 3) ∧ mL_nextBlock.2.2.1 ≤ 40 := ⟨w4_22, w1_0, ⟨by decide, by decide, by decide +kernel⟩, by decide⟩
abbrev mL_nearestCushion : MI := (yL_nearestCushion, cL_nearestCushion, 4, (some .int), [(0, 9, 12, 24), (0, 9, 15, 29)])
theorem w4_39 : Cond.codeWith yL_nearestCushion cL_nearestCushion 4 (some .int) [(0, 9, 12, 24), (0, 9, 15, 29)] ∈ AL := AL_in (T4 (List.mem_of_getElem? (i := 39) rfl)) rfl
theorem YL_nearestCushion : headC mL_nearestCushion ∈ AL ∧ Cond.initialized mL_nearestCushion.1.cls ∈ AL ∧ (mL_nearestCushion.1.cls ≠ "java/lang/invoke/MethodHandle" ∧ mL_nearestCushion.1.cls ≠ "java/lang/invoke/VarHandle" ∧ (parseMethodDescriptor mL_nearestCushion.1.desc).map (fun d => d.parameters.length) = some 3) ∧ mL_nearestCushion.2.2.1 ≤ 40 := ⟨w4_39, w1_0, ⟨by decide, by decide, by decide +kernel⟩, by decide⟩
abbrev mL_addTrain : MI := (yL_addTrain, cL_addTrain, 5, (some .int), [(0, 10, 13, 24), (0, 10, 17, 13), (0, 10, 21, 15), (0, 10, 25, 34)])
theorem w4_50 : Cond.codeWith yL_addTrain cL_addTrain 5 (some .int) [(0, 10, 13, 24), (0, 10, 17, 13), (0, 10, 21, 15), (0, 10, 25, 34)] ∈ AL := AL_in (T4 (List.mem_of_getElem? (i := 50) rfl)) rfl
theorem YL_addTrain : headC mL_addTrain ∈ AL ∧ Cond.initialized mL_addTrain.1.cls ∈ AL ∧ (mL_addTrain.1.cls ≠ "java/lang/invoke/MethodHandle" ∧ mL_addTrain.1.cls ≠ "java/lang/invoke/VarHandle" ∧ (parseMethodDescriptor mL_addTrain.1.desc).map (fun d => d.parameters.length) = some 4) ∧ mL_addTrain.2.2.1 ≤ 40 := ⟨w4_50, w1_0, ⟨by decide, by decide, by decide +kernel⟩, by decide⟩
abbrev mL_setGoal : MI := (yL_setGoal, cL_setGoal, 5, (some .int), [(0, 10, 13, 24), (0, 10, 17, 13), (0, 10, 21, 34), (0, 10, 25, 29)])
theorem w4_61 : Cond.codeWith yL_setGoal cL_setGoal 5 (some .int) [(0, 10, 13, 24), (0, 10, 17, 13), (0, 10, 21, 34), (0, 10, 25, 29)] ∈ AL := AL_in (T4 (List.mem_of_getElem? (i := 61) rfl)) rfl
theorem YL_setGoal : headC mL_setGoal ∈ AL ∧ Cond.initialized mL_setGoal.1.cls ∈ AL ∧ (mL_setGoal.1.cls ≠ "java/lang/invoke/MethodHandle" ∧ mL_setGoal.1.cls ≠ "java/lang/invoke/VarHandle" ∧ (parseMethodDescriptor mL_setGoal.1.desc).map (fun d => d.parameters.length) = some 4) ∧ mL_setGoal.2.2.1 ≤ 40 := ⟨w4_61, w1_0, ⟨by decide, by decide, by decide +kernel⟩, by decide⟩
abbrev mL_clearGoal : MI := (yL_clearGoal, cL_clearGoal, 4, (some .int), [(0, 9, 12, 24), (0, 9, 15, 29)])
theorem w4_75 : Cond.codeWith yL_clearGoal cL_clearGoal 4 (some .int) [(0, 9, 12, 24), (0, 9, 15, 29)] ∈ AL := AL_in (T4 (List.mem_of_getElem? (i := 75) rfl)) rfl
theorem YL_clearGoal : headC mL_clearGoal ∈ AL ∧ Cond.initialized mL_clearGoal.1.cls ∈ AL ∧ (mL_clearGoal.1.cls ≠ "java/lang/invoke/MethodHandle" ∧ mL_clearGoal.1.cls ≠ "java/lang/invoke/VarHandle" ∧ (parseMethodDescriptor mL_clearGoal.1.desc).map (fun d => d.parameters.length) = some 3) ∧ mL_clearGoal.2.2.1 ≤ 40 := ⟨w4_75, w1_0, ⟨by decide, by decide, by decide +kernel⟩, by decide⟩
abbrev mL_reserve : MI := (yL_reserve, cL_reserve, 5, (some .int), [(0, 10, 13, 24), (0, 10, 17, 13), (0, 10, 21, 15), (0, 10, 25, 34)])
theorem w4_87 : Cond.codeWith yL_reserve cL_reserve 5 (some .int) [(0, 10, 13, 24), (0, 10, 17, 13), (0, 10, 21, 15), (0, 10, 25, 34)] ∈ AL := AL_in (T4 (List.mem_of_getElem? (i := 87) rfl)) rfl
theorem YL_reserve : headC mL_reserve ∈ AL ∧ Cond.initialized mL_reserve.1.cls ∈ AL ∧ (mL_reserve.1.cls ≠ "java/lang/invoke/MethodHandle" ∧ mL_reserve.1.cls ≠ "java/lang/invoke/VarHandle" ∧ (parseMethodDescriptor mL_reserve.1.desc).map (fun d => d.parameters.length) = some 4) ∧ mL_reserve.2.2.1 ≤ 40 := ⟨w4_87, w1_0, ⟨by decide, by decide, by decide +kernel⟩, by decide⟩
abbrev mL_cancelReservation : MI := (yL_cancelReservation, cL_cancelReservation, 4, (some .int), [(0, 9, 12, 24), (0, 9, 15, 29)])
theorem w4_102 : Cond.codeWith yL_cancelReservation cL_cancelReservation 4 (some .int) [(0, 9, 12, 24), (0, 9, 15, 29)] ∈ AL := AL_in (T4 (List.mem_of_getElem? (i := 102) rfl)) rfl
theorem YL_cancelReservation : headC mL_cancelReservation ∈ AL ∧ Cond.initialized mL_cancelReservation.1.cls ∈ AL ∧ (mL_cancelReservation.1.cls ≠ "java/lang/invoke/MethodHandle" ∧ mL_cancelReservation.1.cls ≠ "java/lang/invoke/VarHandle" ∧ (parseMethodDescriptor mL_cancelReservation.1.desc).map (fun d => d.parameters.length) = some 3) ∧ mL_cancelReservation.2.2.1 ≤ 40 := ⟨w4_102, w1_0, ⟨by decide, by decide, by decide +kernel⟩, by decide⟩
abbrev mL_rescue : MI := (yL_rescue, cL_rescue, 4, (some .int), [(0, 9, 12, 24), (0, 9, 15, 15)])
theorem w4_113 : Cond.codeWith yL_rescue cL_rescue 4 (some .int) [(0, 9, 12, 24), (0, 9, 15, 15)] ∈ AL := AL_in (T4 (List.mem_of_getElem? (i := 113) rfl)) rfl
theorem YL_rescue : headC mL_rescue ∈ AL ∧ Cond.initialized mL_rescue.1.cls ∈ AL ∧ (mL_rescue.1.cls ≠ "java/lang/invoke/MethodHandle" ∧ mL_rescue.1.cls ≠ "java/lang/invoke/VarHandle" ∧ (parseMethodDescriptor mL_rescue.1.desc).map (fun d => d.parameters.length) = some 3) ∧ mL_rescue.2.2.1 ≤ 40 := ⟨w4_113, w1_0, ⟨by decide, by decide, by decide +kernel⟩, by decide⟩
abbrev mL_blockOf : MI := (yL_blockOf, cL_blockOf, 4, (some .int), [(0, 9, 12, 24)])
theorem w4_124 : Cond.codeWith yL_blockOf cL_blockOf 4 (some .int) [(0, 9, 12, 24)] ∈ AL := AL_in (T4 (List.mem_of_getElem? (i := 124) rfl)) rfl
theorem YL_blockOf : headC mL_blockOf ∈ AL ∧ Cond.initialized mL_blockOf.1.cls ∈ AL ∧ (mL_blockOf.1.cls ≠ "java/lang/invoke/MethodHandle" ∧ mL_blockOf.1.cls ≠ "java/lang/invoke/VarHandle" ∧ (parseMethodDescriptor mL_blockOf.1.desc).map (fun d => d.parameters.length) = some 3) ∧ mL_blockOf.2.2.1 ≤ 40 := ⟨w4_124, w1_0, ⟨by decide, by decide, by decide +kernel⟩, by decide⟩
abbrev mL_priority : MI := (yL_priority, cL_priority, 4, (some .int), [(0, 9, 12, 24)])
theorem w4_131 : Cond.codeWith yL_priority cL_priority 4 (some .int) [(0, 9, 12, 24)] ∈ AL := AL_in (T4 (List.mem_of_getElem? (i := 131) rfl)) rfl
theorem YL_priority : headC mL_priority ∈ AL ∧ Cond.initialized mL_priority.1.cls ∈ AL ∧ (mL_priority.1.cls ≠ "java/lang/invoke/MethodHandle" ∧ mL_priority.1.cls ≠ "java/lang/invoke/VarHandle" ∧ (parseMethodDescriptor mL_priority.1.desc).map (fun d => d.parameters.length) = some 3) ∧ mL_priority.2.2.1 ≤ 40 := ⟨w4_131, w1_0, ⟨by decide, by decide, by decide +kernel⟩, by decide⟩
abbrev mL_remainingTicks : MI := (yL_remainingTicks, cL_remainingTicks, 4, (some .int), [(0, 9, 12, 24)])
theorem w4_138 : Cond.codeWith yL_remainingTicks cL_remainingTicks 4 (some .int) [(0, 9, 12, 24)] ∈ AL := AL_in (T4 (List.mem_of_getElem? (i := 138) rfl)) rfl
theorem YL_remainingTicks : headC mL_remainingTicks ∈ AL ∧ Cond.initialized mL_remainingTicks.1.cls ∈ AL ∧ (mL_remainingTicks.1.cls ≠ "java/lang/invoke/MethodHandle" ∧ mL_remainingTicks.1.cls ≠ "java/lang/invoke/VarHandle" ∧ (parseMethodDescriptor mL_remainingTicks.1.desc).map (fun d => d.parameters.length) = some 3) ∧ mL_remainingTicks.2.2.1 ≤ 40 := ⟨w4_138, w1_0, ⟨by decide, by decide, by decide +kernel⟩, by decide⟩
abbrev mL_goal : MI := (yL_goal, cL_goal, 4, (some .int), [(0, 9, 12, 24), (0, 9, 15, 29)])
theorem w4_145 : Cond.codeWith yL_goal cL_goal 4 (some .int) [(0, 9, 12, 24), (0, 9, 15, 29)] ∈ AL := AL_in (T4 (List.mem_of_getElem? (i := 145) rfl)) rfl
theorem YL_goal : headC mL_goal ∈ AL ∧ Cond.initialized mL_goal.1.cls ∈ AL ∧ (mL_goal.1.cls ≠ "java/lang/invoke/MethodHandle" ∧ mL_goal.1.cls ≠ "java/lang/invoke/VarHandle" ∧ (parseMethodDescriptor mL_goal.1.desc).map (fun d => d.parameters.length) = some 3) ∧ mL_goal.2.2.1 ≤ 40 := ⟨w4_145, w1_0, ⟨by decide, by decide, by decide +kernel⟩, by decide⟩
abbrev mL_isDerailed : MI := (yL_isDerailed, cL_isDerailed, 4, (some .int), [(0, 16, 19, 24)])
theorem w4_152 : Cond.codeWith yL_isDerailed cL_isDerailed 4 (some .int) [(0, 16, 19, 24)] ∈ AL := AL_in (T4 (List.mem_of_getElem? (i := 152) rfl)) rfl
theorem YL_isDerailed : headC mL_isDerailed ∈ AL ∧ Cond.initialized mL_isDerailed.1.cls ∈ AL ∧ (mL_isDerailed.1.cls ≠ "java/lang/invoke/MethodHandle" ∧ mL_isDerailed.1.cls ≠ "java/lang/invoke/VarHandle" ∧ (parseMethodDescriptor mL_isDerailed.1.desc).map (fun d => d.parameters.length) = some 3) ∧ mL_isDerailed.2.2.1 ≤ 40 := ⟨w4_152, w1_0, ⟨by decide, by decide, by decide +kernel⟩, by decide⟩
abbrev mL_waits : MI := (yL_waits, cL_waits, 4, (some .int), [(0, 9, 12, 24)])
theorem w4_159 : Cond.codeWith yL_waits cL_waits 4 (some .int) [(0, 9, 12, 24)] ∈ AL := AL_in (T4 (List.mem_of_getElem? (i := 159) rfl)) rfl
theorem YL_waits : headC mL_waits ∈ AL ∧ Cond.initialized mL_waits.1.cls ∈ AL ∧ (mL_waits.1.cls ≠ "java/lang/invoke/MethodHandle" ∧ mL_waits.1.cls ≠ "java/lang/invoke/VarHandle" ∧ (parseMethodDescriptor mL_waits.1.desc).map (fun d => d.parameters.length) = some 3) ∧ mL_waits.2.2.1 ≤ 40 := ⟨w4_159, w1_0, ⟨by decide, by decide, by decide +kernel⟩, by decide⟩
abbrev mL_trainByPriority : MI := (yL_trainByPriority, cL_trainByPriority, 4, (some .int), [(0, 9, 12, 29)])
theorem w4_166 : Cond.codeWith yL_trainByPriority cL_trainByPriority 4 (some .int) [(0, 9, 12, 29)] ∈ AL := AL_in (T4 (List.mem_of_getElem? (i := 166) rfl)) rfl
theorem YL_trainByPriority : headC mL_trainByPriority ∈ AL ∧ Cond.initialized mL_trainByPriority.1.cls ∈ AL ∧ (mL_trainByPriority.1.cls ≠ "java/lang/invoke/MethodHandle" ∧ mL_trainByPriority.1.cls ≠ "java/lang/invoke/VarHandle" ∧ (parseMethodDescriptor mL_trainByPriority.1.desc).map (fun d => d.parameters.length) = some 3) ∧ mL_trainByPriority.2.2.1 ≤ 40 := ⟨w4_166, w1_0, ⟨by decide, by decide, by decide +kernel⟩, by decide⟩
abbrev mL_blockedBy : MI := (yL_blockedBy, cL_blockedBy, 4, (some .int), [(0, 9, 12, 24), (0, 9, 15, 29)])
theorem w4_177 : Cond.codeWith yL_blockedBy cL_blockedBy 4 (some .int) [(0, 9, 12, 24), (0, 9, 15, 29)] ∈ AL := AL_in (T4 (List.mem_of_getElem? (i := 177) rfl)) rfl
theorem YL_blockedBy : headC mL_blockedBy ∈ AL ∧ Cond.initialized mL_blockedBy.1.cls ∈ AL ∧ (mL_blockedBy.1.cls ≠ "java/lang/invoke/MethodHandle" ∧ mL_blockedBy.1.cls ≠ "java/lang/invoke/VarHandle" ∧ (parseMethodDescriptor mL_blockedBy.1.desc).map (fun d => d.parameters.length) = some 3) ∧ mL_blockedBy.2.2.1 ≤ 40 := ⟨w4_177, w1_0, ⟨by decide, by decide, by decide +kernel⟩, by decide⟩
abbrev mL_passTicks : MI := (yL_passTicks, cL_passTicks, 4, (some .int), [(0, 9, 12, 13)])
theorem w4_185 : Cond.codeWith yL_passTicks cL_passTicks 4 (some .int) [(0, 9, 12, 13)] ∈ AL := AL_in (T4 (List.mem_of_getElem? (i := 185) rfl)) rfl
theorem YL_passTicks : headC mL_passTicks ∈ AL ∧ Cond.initialized mL_passTicks.1.cls ∈ AL ∧ (mL_passTicks.1.cls ≠ "java/lang/invoke/MethodHandle" ∧ mL_passTicks.1.cls ≠ "java/lang/invoke/VarHandle" ∧ (parseMethodDescriptor mL_passTicks.1.desc).map (fun d => d.parameters.length) = some 3) ∧ mL_passTicks.2.2.1 ≤ 40 := ⟨w4_185, w1_0, ⟨by decide, by decide, by decide +kernel⟩, by decide⟩
abbrev mL_ticksUntilArrival : MI := (yL_ticksUntilArrival, cL_ticksUntilArrival, 4, (some .int), [(0, 9, 12, 24), (0, 9, 15, 29)])
theorem w4_209 : Cond.codeWith yL_ticksUntilArrival cL_ticksUntilArrival 4 (some .int) [(0, 9, 12, 24), (0, 9, 15, 29)] ∈ AL := AL_in (T4 (List.mem_of_getElem? (i := 209) rfl)) rfl
theorem YL_ticksUntilArrival : headC mL_ticksUntilArrival ∈ AL ∧ Cond.initialized mL_ticksUntilArrival.1.cls ∈ AL ∧ (mL_ticksUntilArrival.1.cls ≠ "java/lang/invoke/MethodHandle" ∧ mL_ticksUntilArrival.1.cls ≠ "java/lang/invoke/VarHandle" ∧ (parseMethodDescriptor mL_ticksUntilArrival.1.desc).map (fun d => d.parameters.length) = some 3) ∧ mL_ticksUntilArrival.2.2.1 ≤ 40 := ⟨w4_209, w1_0, ⟨by decide, by decide, by decide +kernel⟩, by decide⟩
abbrev mL_meanWaits : MI := (yL_meanWaits, cL_meanWaits, 3, (some .int), [(0, 7, 10, 130)])
theorem w4_222 : Cond.codeWith yL_meanWaits cL_meanWaits 3 (some .int) [(0, 7, 10, 130)] ∈ AL := AL_in (T4 (List.mem_of_getElem? (i := 222) rfl)) rfl
theorem YL_meanWaits : headC mL_meanWaits ∈ AL ∧ Cond.initialized mL_meanWaits.1.cls ∈ AL ∧ (mL_meanWaits.1.cls ≠ "java/lang/invoke/MethodHandle" ∧ mL_meanWaits.1.cls ≠ "java/lang/invoke/VarHandle" ∧ (parseMethodDescriptor mL_meanWaits.1.desc).map (fun d => d.parameters.length) = some 2) ∧ mL_meanWaits.2.2.1 ≤ 40 := ⟨w4_222, w1_0, ⟨by decide, by decide, by decide +kernel⟩, by decide⟩
abbrev mL_occupiedFraction : MI := (yL_occupiedFraction, cL_occupiedFraction, 3, (some .int), [(0, 8, 11, 130)])
theorem w5_10 : Cond.codeWith yL_occupiedFraction cL_occupiedFraction 3 (some .int) [(0, 8, 11, 130)] ∈ AL := AL_in (T5 (List.mem_of_getElem? (i := 10) rfl)) rfl
theorem YL_occupiedFraction : headC mL_occupiedFraction ∈ AL ∧ Cond.initialized mL_occupiedFraction.1.cls ∈ AL ∧ (mL_occupiedFraction.1.cls ≠ "java/lang/invoke/MethodHandle" ∧ mL_occupiedFraction.1.cls ≠ "java/lang/invoke/VarHandle" ∧ (parseMethodDescriptor mL_occupiedFraction.1.desc).map (fun d => d.parameters.length) = some 2) ∧ mL_occupiedFraction.2.2.1 ≤ 40 := ⟨w5_10, w1_0, ⟨by decide, by decide, by decide +kernel⟩, by decide⟩
abbrev mL_writeTrain : MI := (yL_writeTrain, cL_writeTrain, 4, (some .int), [(0, 9, 12, 24)])
theorem w5_18 : Cond.codeWith yL_writeTrain cL_writeTrain 4 (some .int) [(0, 9, 12, 24)] ∈ AL := AL_in (T5 (List.mem_of_getElem? (i := 18) rfl)) rfl
theorem YL_writeTrain : headC mL_writeTrain ∈ AL ∧ Cond.initialized mL_writeTrain.1.cls ∈ AL ∧ (mL_writeTrain.1.cls ≠ "java/lang/invoke/MethodHandle" ∧ mL_writeTrain.1.cls ≠ "java/lang/invoke/VarHandle" ∧ (parseMethodDescriptor mL_writeTrain.1.desc).map (fun d => d.parameters.length) = some 3) ∧ mL_writeTrain.2.2.1 ≤ 40 := ⟨w5_18, w1_0, ⟨by decide, by decide, by decide +kernel⟩, by decide⟩
abbrev mL_outputCharacter : MI := (yL_outputCharacter, cL_outputCharacter, 4, (some .int), [(0, 9, 12, 24)])
theorem w5_30 : Cond.codeWith yL_outputCharacter cL_outputCharacter 4 (some .int) [(0, 9, 12, 24)] ∈ AL := AL_in (T5 (List.mem_of_getElem? (i := 30) rfl)) rfl
theorem YL_outputCharacter : headC mL_outputCharacter ∈ AL ∧ Cond.initialized mL_outputCharacter.1.cls ∈ AL ∧ (mL_outputCharacter.1.cls ≠ "java/lang/invoke/MethodHandle" ∧ mL_outputCharacter.1.cls ≠ "java/lang/invoke/VarHandle" ∧ (parseMethodDescriptor mL_outputCharacter.1.desc).map (fun d => d.parameters.length) = some 3) ∧ mL_outputCharacter.2.2.1 ≤ 40 := ⟨w5_30, w1_0, ⟨by decide, by decide, by decide +kernel⟩, by decide⟩
abbrev mL_feed : MI := (yL_feed, cL_feed, 4, (some .int), [(0, 9, 12, 15)])
theorem w5_38 : Cond.codeWith yL_feed cL_feed 4 (some .int) [(0, 9, 12, 15)] ∈ AL := AL_in (T5 (List.mem_of_getElem? (i := 38) rfl)) rfl
theorem YL_feed : headC mL_feed ∈ AL ∧ Cond.initialized mL_feed.1.cls ∈ AL ∧ (mL_feed.1.cls ≠ "java/lang/invoke/MethodHandle" ∧ mL_feed.1.cls ≠ "java/lang/invoke/VarHandle" ∧ (parseMethodDescriptor mL_feed.1.desc).map (fun d => d.parameters.length) = some 3) ∧ mL_feed.2.2.1 ≤ 40 := ⟨w5_38, w1_0, ⟨by decide, by decide, by decide +kernel⟩, by decide⟩
abbrev mL_execute : MI := (yL_execute, cL_execute, 3, (some .int), [(0, 8, 11, 13), (0, 8, 14, 34)])
theorem w5_50 : Cond.codeWith yL_execute cL_execute 3 (some .int) [(0, 8, 11, 13), (0, 8, 14, 34)] ∈ AL := AL_in (T5 (List.mem_of_getElem? (i := 50) rfl)) rfl
theorem YL_execute : headC mL_execute ∈ AL ∧ Cond.initialized mL_execute.1.cls ∈ AL ∧ (mL_execute.1.cls ≠ "java/lang/invoke/MethodHandle" ∧ mL_execute.1.cls ≠ "java/lang/invoke/VarHandle" ∧ (parseMethodDescriptor mL_execute.1.desc).map (fun d => d.parameters.length) = some 2) ∧ mL_execute.2.2.1 ≤ 40 := ⟨w5_50, w1_0, ⟨by decide, by decide, by decide +kernel⟩, by decide⟩
abbrev mL_errorPosition : MI := (yL_errorPosition, cL_errorPosition, 3, (some .int), [(0, 8, 11, 29)])
theorem w5_162 : Cond.codeWith yL_errorPosition cL_errorPosition 3 (some .int) [(0, 8, 11, 29)] ∈ AL := AL_in (T5 (List.mem_of_getElem? (i := 162) rfl)) rfl
theorem YL_errorPosition : headC mL_errorPosition ∈ AL ∧ Cond.initialized mL_errorPosition.1.cls ∈ AL ∧ (mL_errorPosition.1.cls ≠ "java/lang/invoke/MethodHandle" ∧ mL_errorPosition.1.cls ≠ "java/lang/invoke/VarHandle" ∧ (parseMethodDescriptor mL_errorPosition.1.desc).map (fun d => d.parameters.length) = some 2) ∧ mL_errorPosition.2.2.1 ≤ 40 := ⟨w5_162, w1_0, ⟨by decide, by decide, by decide +kernel⟩, by decide⟩
abbrev mL_failedCommand : MI := (yL_failedCommand, cL_failedCommand, 3, (some .int), [(0, 8, 11, 29)])
theorem w5_169 : Cond.codeWith yL_failedCommand cL_failedCommand 3 (some .int) [(0, 8, 11, 29)] ∈ AL := AL_in (T5 (List.mem_of_getElem? (i := 169) rfl)) rfl
theorem YL_failedCommand : headC mL_failedCommand ∈ AL ∧ Cond.initialized mL_failedCommand.1.cls ∈ AL ∧ (mL_failedCommand.1.cls ≠ "java/lang/invoke/MethodHandle" ∧ mL_failedCommand.1.cls ≠ "java/lang/invoke/VarHandle" ∧ (parseMethodDescriptor mL_failedCommand.1.desc).map (fun d => d.parameters.length) = some 2) ∧ mL_failedCommand.2.2.1 ≤ 40 := ⟨w5_169, w1_0, ⟨by decide, by decide, by decide +kernel⟩, by decide⟩
abbrev mL_undo : MI := (yL_undo, cL_undo, 3, (some .int), [(0, 8, 11, 15)])
theorem w5_176 : Cond.codeWith yL_undo cL_undo 3 (some .int) [(0, 8, 11, 15)] ∈ AL := AL_in (T5 (List.mem_of_getElem? (i := 176) rfl)) rfl
theorem YL_undo : headC mL_undo ∈ AL ∧ Cond.initialized mL_undo.1.cls ∈ AL ∧ (mL_undo.1.cls ≠ "java/lang/invoke/MethodHandle" ∧ mL_undo.1.cls ≠ "java/lang/invoke/VarHandle" ∧ (parseMethodDescriptor mL_undo.1.desc).map (fun d => d.parameters.length) = some 2) ∧ mL_undo.2.2.1 ≤ 40 := ⟨w5_176, w1_0, ⟨by decide, by decide, by decide +kernel⟩, by decide⟩
abbrev mL_restore : MI := (yL_restore, cL_restore, 3, (some .int), [(0, 8, 11, 15)])
theorem w5_188 : Cond.codeWith yL_restore cL_restore 3 (some .int) [(0, 8, 11, 15)] ∈ AL := AL_in (T5 (List.mem_of_getElem? (i := 188) rfl)) rfl
theorem YL_restore : headC mL_restore ∈ AL ∧ Cond.initialized mL_restore.1.cls ∈ AL ∧ (mL_restore.1.cls ≠ "java/lang/invoke/MethodHandle" ∧ mL_restore.1.cls ≠ "java/lang/invoke/VarHandle" ∧ (parseMethodDescriptor mL_restore.1.desc).map (fun d => d.parameters.length) = some 2) ∧ mL_restore.2.2.1 ≤ 40 := ⟨w5_188, w1_0, ⟨by decide, by decide, by decide +kernel⟩, by decide⟩
theorem w1_31 : Cond.methodLink RL 162 yX8_init ∈ AL := AL_in (T1 (List.mem_of_getElem? (i := 31) rfl)) rfl
theorem w1_32 : Cond.instanceMethod yX8_init ∈ AL := AL_in (T1 (List.mem_of_getElem? (i := 32) rfl)) rfl
theorem kL_162 : Cond.methodLink RL 162 yX8_init ∈ AL ∧ Cond.instanceMethod yX8_init ∈ AL := ⟨w1_31, w1_32⟩
theorem w1_34 : Cond.methodLink RX8 3 Lib.objectInit ∈ AL := AL_in (T1 (List.mem_of_getElem? (i := 34) rfl)) rfl
theorem w1_35 : Cond.instanceMethod Lib.objectInit ∈ AL := AL_in (T1 (List.mem_of_getElem? (i := 35) rfl)) rfl
theorem w1_36 : Cond.code Lib.objectInit ⟨#[0xb1]⟩ 1 none ∈ AL := AL_in (T1 (List.mem_of_getElem? (i := 36) rfl)) rfl
theorem kX8_3 : Cond.methodLink RX8 3 Lib.objectInit ∈ AL ∧ Cond.instanceMethod Lib.objectInit ∈ AL ∧ Cond.code Lib.objectInit ⟨#[0xb1]⟩ 1 none ∈ AL := ⟨w1_34, w1_35, w1_36⟩
theorem w1_42 : Cond.methodLink RX4 3 Lib.objectInit ∈ AL := AL_in (T1 (List.mem_of_getElem? (i := 42) rfl)) rfl
theorem kX4_3 : Cond.methodLink RX4 3 Lib.objectInit ∈ AL ∧ Cond.instanceMethod Lib.objectInit ∈ AL ∧ Cond.code Lib.objectInit ⟨#[0xb1]⟩ 1 none ∈ AL := ⟨w1_42, w1_35, w1_36⟩
theorem w1_121 : Cond.methodLink RX8 24 yX3_init ∈ AL := AL_in (T1 (List.mem_of_getElem? (i := 121) rfl)) rfl
theorem w1_122 : Cond.instanceMethod yX3_init ∈ AL := AL_in (T1 (List.mem_of_getElem? (i := 122) rfl)) rfl
theorem kX8_24 : Cond.methodLink RX8 24 yX3_init ∈ AL ∧ Cond.instanceMethod yX3_init ∈ AL := ⟨w1_121, w1_122⟩
theorem w1_124 : Cond.methodLink RX3 3 Lib.objectInit ∈ AL := AL_in (T1 (List.mem_of_getElem? (i := 124) rfl)) rfl
theorem kX3_3 : Cond.methodLink RX3 3 Lib.objectInit ∈ AL ∧ Cond.instanceMethod Lib.objectInit ∈ AL ∧ Cond.code Lib.objectInit ⟨#[0xb1]⟩ 1 none ∈ AL := ⟨w1_124, w1_35, w1_36⟩
theorem w1_144 : Cond.methodLink RX6 3 Lib.objectInit ∈ AL := AL_in (T1 (List.mem_of_getElem? (i := 144) rfl)) rfl
theorem kX6_3 : Cond.methodLink RX6 3 Lib.objectInit ∈ AL ∧ Cond.instanceMethod Lib.objectInit ∈ AL ∧ Cond.code Lib.objectInit ⟨#[0xb1]⟩ 1 none ∈ AL := ⟨w1_144, w1_35, w1_36⟩
theorem w1_163 : Cond.methodLink RX7 3 Lib.objectInit ∈ AL := AL_in (T1 (List.mem_of_getElem? (i := 163) rfl)) rfl
theorem kX7_3 : Cond.methodLink RX7 3 Lib.objectInit ∈ AL ∧ Cond.instanceMethod Lib.objectInit ∈ AL ∧ Cond.code Lib.objectInit ⟨#[0xb1]⟩ 1 none ∈ AL := ⟨w1_163, w1_35, w1_36⟩
theorem w1_181 : Cond.methodLink RX2 3 Lib.objectInit ∈ AL := AL_in (T1 (List.mem_of_getElem? (i := 181) rfl)) rfl
theorem kX2_3 : Cond.methodLink RX2 3 Lib.objectInit ∈ AL ∧ Cond.instanceMethod Lib.objectInit ∈ AL ∧ Cond.code Lib.objectInit ⟨#[0xb1]⟩ 1 none ∈ AL := ⟨w1_181, w1_35, w1_36⟩
theorem w1_216 : Cond.methodLink RX5 3 Lib.objectInit ∈ AL := AL_in (T1 (List.mem_of_getElem? (i := 216) rfl)) rfl
theorem kX5_3 : Cond.methodLink RX5 3 Lib.objectInit ∈ AL ∧ Cond.instanceMethod Lib.objectInit ∈ AL ∧ Cond.code Lib.objectInit ⟨#[0xb1]⟩ 1 none ∈ AL := ⟨w1_216, w1_35, w1_36⟩
theorem w2_20 : Cond.methodLink RL 191 yX8_blockCount ∈ AL := AL_in (T2 (List.mem_of_getElem? (i := 20) rfl)) rfl
theorem w2_21 : Cond.instanceMethod yX8_blockCount ∈ AL := AL_in (T2 (List.mem_of_getElem? (i := 21) rfl)) rfl
theorem w2_22 : Cond.selects RX8 yX8_blockCount yX8_blockCount ∈ AL := AL_in (T2 (List.mem_of_getElem? (i := 22) rfl)) rfl
theorem kL_191 : Cond.methodLink RL 191 yX8_blockCount ∈ AL ∧ Cond.instanceMethod yX8_blockCount ∈ AL ∧ Cond.selects mX8_blockCount.1.cls yX8_blockCount yX8_blockCount ∈ AL := ⟨w2_20, w2_21, w2_22⟩
theorem w2_24 : Cond.methodLink RL 228 yX8_partCount ∈ AL := AL_in (T2 (List.mem_of_getElem? (i := 24) rfl)) rfl
theorem w2_25 : Cond.instanceMethod yX8_partCount ∈ AL := AL_in (T2 (List.mem_of_getElem? (i := 25) rfl)) rfl
theorem w2_26 : Cond.selects RX8 yX8_partCount yX8_partCount ∈ AL := AL_in (T2 (List.mem_of_getElem? (i := 26) rfl)) rfl
theorem kL_228 : Cond.methodLink RL 228 yX8_partCount ∈ AL ∧ Cond.instanceMethod yX8_partCount ∈ AL ∧ Cond.selects mX8_partCount.1.cls yX8_partCount yX8_partCount ∈ AL := ⟨w2_24, w2_25, w2_26⟩
theorem w2_28 : Cond.methodLink RX8 158 yX6_partsByWalks ∈ AL := AL_in (T2 (List.mem_of_getElem? (i := 28) rfl)) rfl
theorem w2_29 : Cond.instanceMethod yX6_partsByWalks ∈ AL := AL_in (T2 (List.mem_of_getElem? (i := 29) rfl)) rfl
theorem w2_30 : Cond.selects RX6 yX6_partsByWalks yX6_partsByWalks ∈ AL := AL_in (T2 (List.mem_of_getElem? (i := 30) rfl)) rfl
theorem kX8_158 : Cond.methodLink RX8 158 yX6_partsByWalks ∈ AL ∧ Cond.instanceMethod yX6_partsByWalks ∈ AL ∧ Cond.selects mX6_partsByWalks.1.cls yX6_partsByWalks yX6_partsByWalks ∈ AL := ⟨w2_28, w2_29, w2_30⟩
theorem w2_35 : Cond.methodLink RX6 64 yX6_walk ∈ AL := AL_in (T2 (List.mem_of_getElem? (i := 35) rfl)) rfl
theorem w2_36 : Cond.static yX6_walk ∈ AL := AL_in (T2 (List.mem_of_getElem? (i := 36) rfl)) rfl
theorem kX6_64 : Cond.methodLink RX6 64 yX6_walk ∈ AL ∧ Cond.static yX6_walk ∈ AL := ⟨w2_35, w2_36⟩
theorem w2_38 : Cond.methodLink RX6 45 yX4_isJoined ∈ AL := AL_in (T2 (List.mem_of_getElem? (i := 38) rfl)) rfl
theorem w2_39 : Cond.instanceMethod yX4_isJoined ∈ AL := AL_in (T2 (List.mem_of_getElem? (i := 39) rfl)) rfl
theorem w2_40 : Cond.selects RX4 yX4_isJoined yX4_isJoined ∈ AL := AL_in (T2 (List.mem_of_getElem? (i := 40) rfl)) rfl
theorem kX6_45 : Cond.methodLink RX6 45 yX4_isJoined ∈ AL ∧ Cond.instanceMethod yX4_isJoined ∈ AL ∧ Cond.selects mX4_isJoined.1.cls yX4_isJoined yX4_isJoined ∈ AL := ⟨w2_38, w2_39, w2_40⟩
theorem w2_43 : Cond.methodLink RL 232 yX8_partCountByUnions ∈ AL := AL_in (T2 (List.mem_of_getElem? (i := 43) rfl)) rfl
theorem w2_44 : Cond.instanceMethod yX8_partCountByUnions ∈ AL := AL_in (T2 (List.mem_of_getElem? (i := 44) rfl)) rfl
theorem w2_45 : Cond.selects RX8 yX8_partCountByUnions yX8_partCountByUnions ∈ AL := AL_in (T2 (List.mem_of_getElem? (i := 45) rfl)) rfl
theorem kL_232 : Cond.methodLink RL 232 yX8_partCountByUnions ∈ AL ∧ Cond.instanceMethod yX8_partCountByUnions ∈ AL ∧ Cond.selects mX8_partCountByUnions.1.cls yX8_partCountByUnions yX8_partCountByUnions ∈ AL := ⟨w2_43, w2_44, w2_45⟩
theorem w2_47 : Cond.methodLink RX8 162 yX6_partsByUnions ∈ AL := AL_in (T2 (List.mem_of_getElem? (i := 47) rfl)) rfl
theorem w2_48 : Cond.instanceMethod yX6_partsByUnions ∈ AL := AL_in (T2 (List.mem_of_getElem? (i := 48) rfl)) rfl
theorem w2_49 : Cond.selects RX6 yX6_partsByUnions yX6_partsByUnions ∈ AL := AL_in (T2 (List.mem_of_getElem? (i := 49) rfl)) rfl
theorem kX8_162 : Cond.methodLink RX8 162 yX6_partsByUnions ∈ AL ∧ Cond.instanceMethod yX6_partsByUnions ∈ AL ∧ Cond.selects mX6_partsByUnions.1.cls yX6_partsByUnions yX6_partsByUnions ∈ AL := ⟨w2_47, w2_48, w2_49⟩
theorem w2_51 : Cond.methodLink RX6 68 yX6_unite ∈ AL := AL_in (T2 (List.mem_of_getElem? (i := 51) rfl)) rfl
theorem w2_53 : Cond.instanceMethod yX6_unite ∈ AL := AL_in (T2 (List.mem_of_getElem? (i := 53) rfl)) rfl
theorem w0_0 : Cond.selects RX6 yX6_unite yX6_unite ∈ AL := AL_in (T0 (List.mem_of_getElem? (i := 0) rfl)) rfl
theorem kX6_68 : Cond.methodLink RX6 68 yX6_unite ∈ AL ∧ Cond.instanceMethod yX6_unite ∈ AL ∧ Cond.selects mX6_unite.1.cls yX6_unite yX6_unite ∈ AL := ⟨w2_51, w2_53, w0_0⟩
theorem w2_55 : Cond.methodLink RL 257 yX8_trainCount ∈ AL := AL_in (T2 (List.mem_of_getElem? (i := 55) rfl)) rfl
theorem w2_56 : Cond.instanceMethod yX8_trainCount ∈ AL := AL_in (T2 (List.mem_of_getElem? (i := 56) rfl)) rfl
theorem w2_57 : Cond.selects RX8 yX8_trainCount yX8_trainCount ∈ AL := AL_in (T2 (List.mem_of_getElem? (i := 57) rfl)) rfl
theorem kL_257 : Cond.methodLink RL 257 yX8_trainCount ∈ AL ∧ Cond.instanceMethod yX8_trainCount ∈ AL ∧ Cond.selects mX8_trainCount.1.cls yX8_trainCount yX8_trainCount ∈ AL := ⟨w2_55, w2_56, w2_57⟩
theorem w2_59 : Cond.methodLink RL 285 yX8_deadlocked ∈ AL := AL_in (T2 (List.mem_of_getElem? (i := 59) rfl)) rfl
theorem w2_60 : Cond.instanceMethod yX8_deadlocked ∈ AL := AL_in (T2 (List.mem_of_getElem? (i := 60) rfl)) rfl
theorem w2_61 : Cond.selects RX8 yX8_deadlocked yX8_deadlocked ∈ AL := AL_in (T2 (List.mem_of_getElem? (i := 61) rfl)) rfl
theorem kL_285 : Cond.methodLink RL 285 yX8_deadlocked ∈ AL ∧ Cond.instanceMethod yX8_deadlocked ∈ AL ∧ Cond.selects mX8_deadlocked.1.cls yX8_deadlocked yX8_deadlocked ∈ AL := ⟨w2_59, w2_60, w2_61⟩
theorem w2_63 : Cond.methodLink RX8 214 yX7_stuckByFollowing ∈ AL := AL_in (T2 (List.mem_of_getElem? (i := 63) rfl)) rfl
theorem w2_64 : Cond.instanceMethod yX7_stuckByFollowing ∈ AL := AL_in (T2 (List.mem_of_getElem? (i := 64) rfl)) rfl
theorem w2_65 : Cond.selects RX7 yX7_stuckByFollowing yX7_stuckByFollowing ∈ AL := AL_in (T2 (List.mem_of_getElem? (i := 65) rfl)) rfl
theorem kX8_214 : Cond.methodLink RX8 214 yX7_stuckByFollowing ∈ AL ∧ Cond.instanceMethod yX7_stuckByFollowing ∈ AL ∧ Cond.selects mX7_stuckByFollowing.1.cls yX7_stuckByFollowing yX7_stuckByFollowing ∈ AL := ⟨w2_63, w2_64, w2_65⟩
theorem w2_67 : Cond.methodLink RX7 97 yX7_blockerOf ∈ AL := AL_in (T2 (List.mem_of_getElem? (i := 67) rfl)) rfl
theorem w2_68 : Cond.instanceMethod yX7_blockerOf ∈ AL := AL_in (T2 (List.mem_of_getElem? (i := 68) rfl)) rfl
theorem w2_69 : Cond.selects RX7 yX7_blockerOf yX7_blockerOf ∈ AL := AL_in (T2 (List.mem_of_getElem? (i := 69) rfl)) rfl
theorem kX7_97 : Cond.methodLink RX7 97 yX7_blockerOf ∈ AL ∧ Cond.instanceMethod yX7_blockerOf ∈ AL ∧ Cond.selects mX7_blockerOf.1.cls yX7_blockerOf yX7_blockerOf ∈ AL := ⟨w2_67, w2_68, w2_69⟩
theorem w2_72 : Cond.methodLink RX7 77 yX6_nextFor ∈ AL := AL_in (T2 (List.mem_of_getElem? (i := 72) rfl)) rfl
theorem w2_73 : Cond.instanceMethod yX6_nextFor ∈ AL := AL_in (T2 (List.mem_of_getElem? (i := 73) rfl)) rfl
theorem w2_74 : Cond.selects RX6 yX6_nextFor yX6_nextFor ∈ AL := AL_in (T2 (List.mem_of_getElem? (i := 74) rfl)) rfl
theorem kX7_77 : Cond.methodLink RX7 77 yX6_nextFor ∈ AL ∧ Cond.instanceMethod yX6_nextFor ∈ AL ∧ Cond.selects mX6_nextFor.1.cls yX6_nextFor yX6_nextFor ∈ AL := ⟨w2_72, w2_73, w2_74⟩
theorem w2_76 : Cond.methodLink RX6 48 yX6_measureByNearest ∈ AL := AL_in (T2 (List.mem_of_getElem? (i := 76) rfl)) rfl
theorem w2_77 : Cond.instanceMethod yX6_measureByNearest ∈ AL := AL_in (T2 (List.mem_of_getElem? (i := 77) rfl)) rfl
theorem w2_78 : Cond.selects RX6 yX6_measureByNearest yX6_measureByNearest ∈ AL := AL_in (T2 (List.mem_of_getElem? (i := 78) rfl)) rfl
theorem kX6_48 : Cond.methodLink RX6 48 yX6_measureByNearest ∈ AL ∧ Cond.instanceMethod yX6_measureByNearest ∈ AL ∧ Cond.selects mX6_measureByNearest.1.cls yX6_measureByNearest yX6_measureByNearest ∈ AL := ⟨w2_76, w2_77, w2_78⟩
theorem w2_80 : Cond.methodLink RX6 27 yX6_nearestOpen ∈ AL := AL_in (T2 (List.mem_of_getElem? (i := 80) rfl)) rfl
theorem w2_82 : Cond.instanceMethod yX6_nearestOpen ∈ AL := AL_in (T2 (List.mem_of_getElem? (i := 82) rfl)) rfl
theorem w0_1 : Cond.selects RX6 yX6_nearestOpen yX6_nearestOpen ∈ AL := AL_in (T0 (List.mem_of_getElem? (i := 1) rfl)) rfl
theorem kX6_27 : Cond.methodLink RX6 27 yX6_nearestOpen ∈ AL ∧ Cond.instanceMethod yX6_nearestOpen ∈ AL ∧ Cond.selects mX6_nearestOpen.1.cls yX6_nearestOpen yX6_nearestOpen ∈ AL := ⟨w2_80, w2_82, w0_1⟩
theorem w2_84 : Cond.methodLink RX7 94 yX4_trainAt ∈ AL := AL_in (T2 (List.mem_of_getElem? (i := 84) rfl)) rfl
theorem w2_85 : Cond.instanceMethod yX4_trainAt ∈ AL := AL_in (T2 (List.mem_of_getElem? (i := 85) rfl)) rfl
theorem w2_86 : Cond.selects RX4 yX4_trainAt yX4_trainAt ∈ AL := AL_in (T2 (List.mem_of_getElem? (i := 86) rfl)) rfl
theorem kX7_94 : Cond.methodLink RX7 94 yX4_trainAt ∈ AL ∧ Cond.instanceMethod yX4_trainAt ∈ AL ∧ Cond.selects mX4_trainAt.1.cls yX4_trainAt yX4_trainAt ∈ AL := ⟨w2_84, w2_85, w2_86⟩
theorem w2_88 : Cond.methodLink RX7 100 yX7_leadsBack ∈ AL := AL_in (T2 (List.mem_of_getElem? (i := 88) rfl)) rfl
theorem w2_90 : Cond.instanceMethod yX7_leadsBack ∈ AL := AL_in (T2 (List.mem_of_getElem? (i := 90) rfl)) rfl
theorem w0_2 : Cond.selects RX7 yX7_leadsBack yX7_leadsBack ∈ AL := AL_in (T0 (List.mem_of_getElem? (i := 2) rfl)) rfl
theorem kX7_100 : Cond.methodLink RX7 100 yX7_leadsBack ∈ AL ∧ Cond.instanceMethod yX7_leadsBack ∈ AL ∧ Cond.selects mX7_leadsBack.1.cls yX7_leadsBack yX7_leadsBack ∈ AL := ⟨w2_88, w2_90, w0_2⟩
theorem w2_92 : Cond.methodLink RL 289 yX8_deadlockedByTable ∈ AL := AL_in (T2 (List.mem_of_getElem? (i := 92) rfl)) rfl
theorem w2_93 : Cond.instanceMethod yX8_deadlockedByTable ∈ AL := AL_in (T2 (List.mem_of_getElem? (i := 93) rfl)) rfl
theorem w2_94 : Cond.selects RX8 yX8_deadlockedByTable yX8_deadlockedByTable ∈ AL := AL_in (T2 (List.mem_of_getElem? (i := 94) rfl)) rfl
theorem kL_289 : Cond.methodLink RL 289 yX8_deadlockedByTable ∈ AL ∧ Cond.instanceMethod yX8_deadlockedByTable ∈ AL ∧ Cond.selects mX8_deadlockedByTable.1.cls yX8_deadlockedByTable yX8_deadlockedByTable ∈ AL := ⟨w2_92, w2_93, w2_94⟩
theorem w2_96 : Cond.methodLink RX8 217 yX7_stuckByTable ∈ AL := AL_in (T2 (List.mem_of_getElem? (i := 96) rfl)) rfl
theorem w2_97 : Cond.instanceMethod yX7_stuckByTable ∈ AL := AL_in (T2 (List.mem_of_getElem? (i := 97) rfl)) rfl
theorem w2_98 : Cond.selects RX7 yX7_stuckByTable yX7_stuckByTable ∈ AL := AL_in (T2 (List.mem_of_getElem? (i := 98) rfl)) rfl
theorem kX8_217 : Cond.methodLink RX8 217 yX7_stuckByTable ∈ AL ∧ Cond.instanceMethod yX7_stuckByTable ∈ AL ∧ Cond.selects mX7_stuckByTable.1.cls yX7_stuckByTable yX7_stuckByTable ∈ AL := ⟨w2_96, w2_97, w2_98⟩
theorem w2_100 : Cond.methodLink RL 296 yX8_ticks ∈ AL := AL_in (T2 (List.mem_of_getElem? (i := 100) rfl)) rfl
theorem w2_101 : Cond.instanceMethod yX8_ticks ∈ AL := AL_in (T2 (List.mem_of_getElem? (i := 101) rfl)) rfl
theorem w2_102 : Cond.selects RX8 yX8_ticks yX8_ticks ∈ AL := AL_in (T2 (List.mem_of_getElem? (i := 102) rfl)) rfl
theorem kL_296 : Cond.methodLink RL 296 yX8_ticks ∈ AL ∧ Cond.instanceMethod yX8_ticks ∈ AL ∧ Cond.selects mX8_ticks.1.cls yX8_ticks yX8_ticks ∈ AL := ⟨w2_100, w2_101, w2_102⟩
theorem w2_104 : Cond.methodLink RL 300 yX8_arrivals ∈ AL := AL_in (T2 (List.mem_of_getElem? (i := 104) rfl)) rfl
theorem w2_105 : Cond.instanceMethod yX8_arrivals ∈ AL := AL_in (T2 (List.mem_of_getElem? (i := 105) rfl)) rfl
theorem w2_106 : Cond.selects RX8 yX8_arrivals yX8_arrivals ∈ AL := AL_in (T2 (List.mem_of_getElem? (i := 106) rfl)) rfl
theorem kL_300 : Cond.methodLink RL 300 yX8_arrivals ∈ AL ∧ Cond.instanceMethod yX8_arrivals ∈ AL ∧ Cond.selects mX8_arrivals.1.cls yX8_arrivals yX8_arrivals ∈ AL := ⟨w2_104, w2_105, w2_106⟩
theorem w2_108 : Cond.methodLink RL 317 yX8_writeSignals ∈ AL := AL_in (T2 (List.mem_of_getElem? (i := 108) rfl)) rfl
theorem w2_109 : Cond.instanceMethod yX8_writeSignals ∈ AL := AL_in (T2 (List.mem_of_getElem? (i := 109) rfl)) rfl
theorem w2_110 : Cond.selects RX8 yX8_writeSignals yX8_writeSignals ∈ AL := AL_in (T2 (List.mem_of_getElem? (i := 110) rfl)) rfl
theorem kL_317 : Cond.methodLink RL 317 yX8_writeSignals ∈ AL ∧ Cond.instanceMethod yX8_writeSignals ∈ AL ∧ Cond.selects mX8_writeSignals.1.cls yX8_writeSignals yX8_writeSignals ∈ AL := ⟨w2_108, w2_109, w2_110⟩
theorem w2_112 : Cond.methodLink RX8 253 yX5_clear ∈ AL := AL_in (T2 (List.mem_of_getElem? (i := 112) rfl)) rfl
theorem w2_113 : Cond.instanceMethod yX5_clear ∈ AL := AL_in (T2 (List.mem_of_getElem? (i := 113) rfl)) rfl
theorem w2_114 : Cond.selects RX5 yX5_clear yX5_clear ∈ AL := AL_in (T2 (List.mem_of_getElem? (i := 114) rfl)) rfl
theorem kX8_253 : Cond.methodLink RX8 253 yX5_clear ∈ AL ∧ Cond.instanceMethod yX5_clear ∈ AL ∧ Cond.selects mX5_clear.1.cls yX5_clear yX5_clear ∈ AL := ⟨w2_112, w2_113, w2_114⟩
theorem w2_116 : Cond.methodLink RX8 134 yX4_signalOf ∈ AL := AL_in (T2 (List.mem_of_getElem? (i := 116) rfl)) rfl
theorem w2_117 : Cond.instanceMethod yX4_signalOf ∈ AL := AL_in (T2 (List.mem_of_getElem? (i := 117) rfl)) rfl
theorem w2_118 : Cond.selects RX4 yX4_signalOf yX4_signalOf ∈ AL := AL_in (T2 (List.mem_of_getElem? (i := 118) rfl)) rfl
theorem kX8_134 : Cond.methodLink RX8 134 yX4_signalOf ∈ AL ∧ Cond.instanceMethod yX4_signalOf ∈ AL ∧ Cond.selects mX4_signalOf.1.cls yX4_signalOf yX4_signalOf ∈ AL := ⟨w2_116, w2_117, w2_118⟩
theorem w2_120 : Cond.methodLink RX4 68 yX4_trainAt ∈ AL := AL_in (T2 (List.mem_of_getElem? (i := 120) rfl)) rfl
theorem kX4_68 : Cond.methodLink RX4 68 yX4_trainAt ∈ AL ∧ Cond.instanceMethod yX4_trainAt ∈ AL ∧ Cond.selects mX4_trainAt.1.cls yX4_trainAt yX4_trainAt ∈ AL := ⟨w2_120, w2_85, w2_86⟩
theorem w2_121 : Cond.methodLink RX4 72 yX4_holderOf ∈ AL := AL_in (T2 (List.mem_of_getElem? (i := 121) rfl)) rfl
theorem w2_122 : Cond.instanceMethod yX4_holderOf ∈ AL := AL_in (T2 (List.mem_of_getElem? (i := 122) rfl)) rfl
theorem w2_123 : Cond.selects RX4 yX4_holderOf yX4_holderOf ∈ AL := AL_in (T2 (List.mem_of_getElem? (i := 123) rfl)) rfl
theorem kX4_72 : Cond.methodLink RX4 72 yX4_holderOf ∈ AL ∧ Cond.instanceMethod yX4_holderOf ∈ AL ∧ Cond.selects mX4_holderOf.1.cls yX4_holderOf yX4_holderOf ∈ AL := ⟨w2_121, w2_122, w2_123⟩
theorem w2_125 : Cond.methodLink RX8 260 yX5_put ∈ AL := AL_in (T2 (List.mem_of_getElem? (i := 125) rfl)) rfl
theorem w2_126 : Cond.instanceMethod yX5_put ∈ AL := AL_in (T2 (List.mem_of_getElem? (i := 126) rfl)) rfl
theorem w2_127 : Cond.selects RX5 yX5_put yX5_put ∈ AL := AL_in (T2 (List.mem_of_getElem? (i := 127) rfl)) rfl
theorem kX8_260 : Cond.methodLink RX8 260 yX5_put ∈ AL ∧ Cond.instanceMethod yX5_put ∈ AL ∧ Cond.selects mX5_put.1.cls yX5_put yX5_put ∈ AL := ⟨w2_125, w2_126, w2_127⟩
theorem w2_129 : Cond.methodLink RL 324 yX8_isConsistent ∈ AL := AL_in (T2 (List.mem_of_getElem? (i := 129) rfl)) rfl
theorem w2_130 : Cond.instanceMethod yX8_isConsistent ∈ AL := AL_in (T2 (List.mem_of_getElem? (i := 130) rfl)) rfl
theorem w2_131 : Cond.selects RX8 yX8_isConsistent yX8_isConsistent ∈ AL := AL_in (T2 (List.mem_of_getElem? (i := 131) rfl)) rfl
theorem kL_324 : Cond.methodLink RL 324 yX8_isConsistent ∈ AL ∧ Cond.instanceMethod yX8_isConsistent ∈ AL ∧ Cond.selects mX8_isConsistent.1.cls yX8_isConsistent yX8_isConsistent ∈ AL := ⟨w2_129, w2_130, w2_131⟩
theorem w2_133 : Cond.methodLink RX8 276 yX6_distancesAgree ∈ AL := AL_in (T2 (List.mem_of_getElem? (i := 133) rfl)) rfl
theorem w2_134 : Cond.instanceMethod yX6_distancesAgree ∈ AL := AL_in (T2 (List.mem_of_getElem? (i := 134) rfl)) rfl
theorem w2_135 : Cond.selects RX6 yX6_distancesAgree yX6_distancesAgree ∈ AL := AL_in (T2 (List.mem_of_getElem? (i := 135) rfl)) rfl
theorem kX8_276 : Cond.methodLink RX8 276 yX6_distancesAgree ∈ AL ∧ Cond.instanceMethod yX6_distancesAgree ∈ AL ∧ Cond.selects mX6_distancesAgree.1.cls yX6_distancesAgree yX6_distancesAgree ∈ AL := ⟨w2_133, w2_134, w2_135⟩
theorem w2_137 : Cond.methodLink RX6 52 yX6_measureByRounds ∈ AL := AL_in (T2 (List.mem_of_getElem? (i := 137) rfl)) rfl
theorem w2_138 : Cond.instanceMethod yX6_measureByRounds ∈ AL := AL_in (T2 (List.mem_of_getElem? (i := 138) rfl)) rfl
theorem w2_139 : Cond.selects RX6 yX6_measureByRounds yX6_measureByRounds ∈ AL := AL_in (T2 (List.mem_of_getElem? (i := 139) rfl)) rfl
theorem kX6_52 : Cond.methodLink RX6 52 yX6_measureByRounds ∈ AL ∧ Cond.instanceMethod yX6_measureByRounds ∈ AL ∧ Cond.selects mX6_measureByRounds.1.cls yX6_measureByRounds yX6_measureByRounds ∈ AL := ⟨w2_137, w2_138, w2_139⟩
theorem w2_141 : Cond.methodLink RX6 41 yX6_shortenFrom ∈ AL := AL_in (T2 (List.mem_of_getElem? (i := 141) rfl)) rfl
theorem w2_143 : Cond.instanceMethod yX6_shortenFrom ∈ AL := AL_in (T2 (List.mem_of_getElem? (i := 143) rfl)) rfl
theorem w0_3 : Cond.selects RX6 yX6_shortenFrom yX6_shortenFrom ∈ AL := AL_in (T0 (List.mem_of_getElem? (i := 3) rfl)) rfl
theorem kX6_41 : Cond.methodLink RX6 41 yX6_shortenFrom ∈ AL ∧ Cond.instanceMethod yX6_shortenFrom ∈ AL ∧ Cond.selects mX6_shortenFrom.1.cls yX6_shortenFrom yX6_shortenFrom ∈ AL := ⟨w2_141, w2_143, w0_3⟩
theorem w2_145 : Cond.methodLink RL 346 yX8_undoCount ∈ AL := AL_in (T2 (List.mem_of_getElem? (i := 145) rfl)) rfl
theorem w2_146 : Cond.instanceMethod yX8_undoCount ∈ AL := AL_in (T2 (List.mem_of_getElem? (i := 146) rfl)) rfl
theorem w2_147 : Cond.selects RX8 yX8_undoCount yX8_undoCount ∈ AL := AL_in (T2 (List.mem_of_getElem? (i := 147) rfl)) rfl
theorem kL_346 : Cond.methodLink RL 346 yX8_undoCount ∈ AL ∧ Cond.instanceMethod yX8_undoCount ∈ AL ∧ Cond.selects mX8_undoCount.1.cls yX8_undoCount yX8_undoCount ∈ AL := ⟨w2_145, w2_146, w2_147⟩
theorem w2_149 : Cond.methodLink RL 350 yX8_save ∈ AL := AL_in (T2 (List.mem_of_getElem? (i := 149) rfl)) rfl
theorem w2_150 : Cond.instanceMethod yX8_save ∈ AL := AL_in (T2 (List.mem_of_getElem? (i := 150) rfl)) rfl
theorem w2_151 : Cond.selects RX8 yX8_save yX8_save ∈ AL := AL_in (T2 (List.mem_of_getElem? (i := 151) rfl)) rfl
theorem kL_350 : Cond.methodLink RL 350 yX8_save ∈ AL ∧ Cond.instanceMethod yX8_save ∈ AL ∧ Cond.selects mX8_save.1.cls yX8_save yX8_save ∈ AL := ⟨w2_149, w2_150, w2_151⟩
theorem w2_153 : Cond.methodLink RX8 236 yX4_copyFrom ∈ AL := AL_in (T2 (List.mem_of_getElem? (i := 153) rfl)) rfl
theorem w2_154 : Cond.instanceMethod yX4_copyFrom ∈ AL := AL_in (T2 (List.mem_of_getElem? (i := 154) rfl)) rfl
theorem w2_155 : Cond.selects RX4 yX4_copyFrom yX4_copyFrom ∈ AL := AL_in (T2 (List.mem_of_getElem? (i := 155) rfl)) rfl
theorem kX8_236 : Cond.methodLink RX8 236 yX4_copyFrom ∈ AL ∧ Cond.instanceMethod yX4_copyFrom ∈ AL ∧ Cond.selects mX4_copyFrom.1.cls yX4_copyFrom yX4_copyFrom ∈ AL := ⟨w2_153, w2_154, w2_155⟩
theorem w2_157 : Cond.methodLink RX4 58 arraycopyName ∈ AL := AL_in (T2 (List.mem_of_getElem? (i := 157) rfl)) rfl
theorem w2_159 : Cond.native arraycopyName ∈ AL := AL_in (T2 (List.mem_of_getElem? (i := 159) rfl)) rfl
theorem w2_158 : Cond.static arraycopyName ∈ AL := AL_in (T2 (List.mem_of_getElem? (i := 158) rfl)) rfl
theorem w1_11 : Cond.initialized "java/lang/System" ∈ AL := AL_in (T1 (List.mem_of_getElem? (i := 11) rfl)) rfl
theorem kX4_58 : Cond.methodLink RX4 58 arraycopyName ∈ AL ∧ Cond.native arraycopyName ∈ AL ∧ Cond.static arraycopyName ∈ AL ∧ Cond.initialized "java/lang/System" ∈ AL := ⟨w2_157, w2_159, w2_158, w1_11⟩
theorem w2_160 : Cond.methodLink RL 166 yL_addBlock ∈ AL := AL_in (T2 (List.mem_of_getElem? (i := 160) rfl)) rfl
theorem w2_161 : Cond.static yL_addBlock ∈ AL := AL_in (T2 (List.mem_of_getElem? (i := 161) rfl)) rfl
theorem kL_166 : Cond.methodLink RL 166 yL_addBlock ∈ AL ∧ Cond.static yL_addBlock ∈ AL := ⟨w2_160, w2_161⟩
theorem w2_165 : Cond.methodLink RL 7 yX8_addBlock ∈ AL := AL_in (T2 (List.mem_of_getElem? (i := 165) rfl)) rfl
theorem w2_166 : Cond.instanceMethod yX8_addBlock ∈ AL := AL_in (T2 (List.mem_of_getElem? (i := 166) rfl)) rfl
theorem w2_167 : Cond.selects RX8 yX8_addBlock yX8_addBlock ∈ AL := AL_in (T2 (List.mem_of_getElem? (i := 167) rfl)) rfl
theorem kL_7 : Cond.methodLink RL 7 yX8_addBlock ∈ AL ∧ Cond.instanceMethod yX8_addBlock ∈ AL ∧ Cond.selects mX8_addBlock.1.cls yX8_addBlock yX8_addBlock ∈ AL := ⟨w2_165, w2_166, w2_167⟩
theorem w2_169 : Cond.methodLink RX8 68 yX3_keep ∈ AL := AL_in (T2 (List.mem_of_getElem? (i := 169) rfl)) rfl
theorem w2_170 : Cond.instanceMethod yX3_keep ∈ AL := AL_in (T2 (List.mem_of_getElem? (i := 170) rfl)) rfl
theorem w2_171 : Cond.selects RX3 yX3_keep yX3_keep ∈ AL := AL_in (T2 (List.mem_of_getElem? (i := 171) rfl)) rfl
theorem kX8_68 : Cond.methodLink RX8 68 yX3_keep ∈ AL ∧ Cond.instanceMethod yX3_keep ∈ AL ∧ Cond.selects mX3_keep.1.cls yX3_keep yX3_keep ∈ AL := ⟨w2_169, w2_170, w2_171⟩
theorem w2_173 : Cond.methodLink RX3 25 yX4_copyFrom ∈ AL := AL_in (T2 (List.mem_of_getElem? (i := 173) rfl)) rfl
theorem kX3_25 : Cond.methodLink RX3 25 yX4_copyFrom ∈ AL ∧ Cond.instanceMethod yX4_copyFrom ∈ AL ∧ Cond.selects mX4_copyFrom.1.cls yX4_copyFrom yX4_copyFrom ∈ AL := ⟨w2_173, w2_154, w2_155⟩
theorem w2_174 : Cond.methodLink RX8 72 yX4_placeBlock ∈ AL := AL_in (T2 (List.mem_of_getElem? (i := 174) rfl)) rfl
theorem w2_175 : Cond.instanceMethod yX4_placeBlock ∈ AL := AL_in (T2 (List.mem_of_getElem? (i := 175) rfl)) rfl
theorem w2_176 : Cond.selects RX4 yX4_placeBlock yX4_placeBlock ∈ AL := AL_in (T2 (List.mem_of_getElem? (i := 176) rfl)) rfl
theorem kX8_72 : Cond.methodLink RX8 72 yX4_placeBlock ∈ AL ∧ Cond.instanceMethod yX4_placeBlock ∈ AL ∧ Cond.selects mX4_placeBlock.1.cls yX4_placeBlock yX4_placeBlock ∈ AL := ⟨w2_174, w2_175, w2_176⟩
theorem w2_178 : Cond.methodLink RX8 76 yX8_changed ∈ AL := AL_in (T2 (List.mem_of_getElem? (i := 178) rfl)) rfl
theorem w2_180 : Cond.instanceMethod yX8_changed ∈ AL := AL_in (T2 (List.mem_of_getElem? (i := 180) rfl)) rfl
theorem w0_4 : Cond.selects RX8 yX8_changed yX8_changed ∈ AL := AL_in (T0 (List.mem_of_getElem? (i := 4) rfl)) rfl
theorem kX8_76 : Cond.methodLink RX8 76 yX8_changed ∈ AL ∧ Cond.instanceMethod yX8_changed ∈ AL ∧ Cond.selects mX8_changed.1.cls yX8_changed yX8_changed ∈ AL := ⟨w2_178, w2_180, w0_4⟩
theorem w3_78 : Cond.methodLink RX8 362 yX3_confirm ∈ AL := AL_in (T3 (List.mem_of_getElem? (i := 78) rfl)) rfl
theorem w3_79 : Cond.instanceMethod yX3_confirm ∈ AL := AL_in (T3 (List.mem_of_getElem? (i := 79) rfl)) rfl
theorem w3_80 : Cond.selects RX3 yX3_confirm yX3_confirm ∈ AL := AL_in (T3 (List.mem_of_getElem? (i := 80) rfl)) rfl
theorem kX8_362 : Cond.methodLink RX8 362 yX3_confirm ∈ AL ∧ Cond.instanceMethod yX3_confirm ∈ AL ∧ Cond.selects mX3_confirm.1.cls yX3_confirm yX3_confirm ∈ AL := ⟨w3_78, w3_79, w3_80⟩
theorem w3_82 : Cond.methodLink RX3 29 yJ9_min_7cf53 ∈ AL := AL_in (T3 (List.mem_of_getElem? (i := 82) rfl)) rfl
theorem w3_83 : Cond.static yJ9_min_7cf53 ∈ AL := AL_in (T3 (List.mem_of_getElem? (i := 83) rfl)) rfl
theorem kX3_29 : Cond.methodLink RX3 29 yJ9_min_7cf53 ∈ AL ∧ Cond.static yJ9_min_7cf53 ∈ AL := ⟨w3_82, w3_83⟩
theorem w3_85 : Cond.methodLink RL 175 yL_addCushion ∈ AL := AL_in (T3 (List.mem_of_getElem? (i := 85) rfl)) rfl
theorem w3_86 : Cond.static yL_addCushion ∈ AL := AL_in (T3 (List.mem_of_getElem? (i := 86) rfl)) rfl
theorem kL_175 : Cond.methodLink RL 175 yL_addCushion ∈ AL ∧ Cond.static yL_addCushion ∈ AL := ⟨w3_85, w3_86⟩
theorem w3_88 : Cond.methodLink RL 17 yX8_addCushion ∈ AL := AL_in (T3 (List.mem_of_getElem? (i := 88) rfl)) rfl
theorem w3_89 : Cond.instanceMethod yX8_addCushion ∈ AL := AL_in (T3 (List.mem_of_getElem? (i := 89) rfl)) rfl
theorem w3_90 : Cond.selects RX8 yX8_addCushion yX8_addCushion ∈ AL := AL_in (T3 (List.mem_of_getElem? (i := 90) rfl)) rfl
theorem kL_17 : Cond.methodLink RL 17 yX8_addCushion ∈ AL ∧ Cond.instanceMethod yX8_addCushion ∈ AL ∧ Cond.selects mX8_addCushion.1.cls yX8_addCushion yX8_addCushion ∈ AL := ⟨w3_88, w3_89, w3_90⟩
theorem w3_92 : Cond.methodLink RL 178 yL_link ∈ AL := AL_in (T3 (List.mem_of_getElem? (i := 92) rfl)) rfl
theorem w3_93 : Cond.static yL_link ∈ AL := AL_in (T3 (List.mem_of_getElem? (i := 93) rfl)) rfl
theorem kL_178 : Cond.methodLink RL 178 yL_link ∈ AL ∧ Cond.static yL_link ∈ AL := ⟨w3_92, w3_93⟩
theorem w3_116 : Cond.methodLink RL 20 yX8_link ∈ AL := AL_in (T3 (List.mem_of_getElem? (i := 116) rfl)) rfl
theorem w3_117 : Cond.instanceMethod yX8_link ∈ AL := AL_in (T3 (List.mem_of_getElem? (i := 117) rfl)) rfl
theorem w3_118 : Cond.selects RX8 yX8_link yX8_link ∈ AL := AL_in (T3 (List.mem_of_getElem? (i := 118) rfl)) rfl
theorem kL_20 : Cond.methodLink RL 20 yX8_link ∈ AL ∧ Cond.instanceMethod yX8_link ∈ AL ∧ Cond.selects mX8_link.1.cls yX8_link yX8_link ∈ AL := ⟨w3_116, w3_117, w3_118⟩
theorem w3_120 : Cond.methodLink RX8 80 yX4_join ∈ AL := AL_in (T3 (List.mem_of_getElem? (i := 120) rfl)) rfl
theorem w3_121 : Cond.instanceMethod yX4_join ∈ AL := AL_in (T3 (List.mem_of_getElem? (i := 121) rfl)) rfl
theorem w3_122 : Cond.selects RX4 yX4_join yX4_join ∈ AL := AL_in (T3 (List.mem_of_getElem? (i := 122) rfl)) rfl
theorem kX8_80 : Cond.methodLink RX8 80 yX4_join ∈ AL ∧ Cond.instanceMethod yX4_join ∈ AL ∧ Cond.selects mX4_join.1.cls yX4_join yX4_join ∈ AL := ⟨w3_120, w3_121, w3_122⟩
theorem w3_124 : Cond.methodLink RX4 75 yX4_isBlock ∈ AL := AL_in (T3 (List.mem_of_getElem? (i := 124) rfl)) rfl
theorem w3_125 : Cond.instanceMethod yX4_isBlock ∈ AL := AL_in (T3 (List.mem_of_getElem? (i := 125) rfl)) rfl
theorem w3_126 : Cond.selects RX4 yX4_isBlock yX4_isBlock ∈ AL := AL_in (T3 (List.mem_of_getElem? (i := 126) rfl)) rfl
theorem kX4_75 : Cond.methodLink RX4 75 yX4_isBlock ∈ AL ∧ Cond.instanceMethod yX4_isBlock ∈ AL ∧ Cond.selects mX4_isBlock.1.cls yX4_isBlock yX4_isBlock ∈ AL := ⟨w3_124, w3_125, w3_126⟩
theorem w3_128 : Cond.methodLink RX4 79 yX4_isJoined ∈ AL := AL_in (T3 (List.mem_of_getElem? (i := 128) rfl)) rfl
theorem kX4_79 : Cond.methodLink RX4 79 yX4_isJoined ∈ AL ∧ Cond.instanceMethod yX4_isJoined ∈ AL ∧ Cond.selects mX4_isJoined.1.cls yX4_isJoined yX4_isJoined ∈ AL := ⟨w3_128, w2_39, w2_40⟩
theorem w3_129 : Cond.methodLink RX4 82 yX4_countLinks ∈ AL := AL_in (T3 (List.mem_of_getElem? (i := 129) rfl)) rfl
theorem w3_131 : Cond.instanceMethod yX4_countLinks ∈ AL := AL_in (T3 (List.mem_of_getElem? (i := 131) rfl)) rfl
theorem w0_6 : Cond.selects RX4 yX4_countLinks yX4_countLinks ∈ AL := AL_in (T0 (List.mem_of_getElem? (i := 6) rfl)) rfl
theorem kX4_82 : Cond.methodLink RX4 82 yX4_countLinks ∈ AL ∧ Cond.instanceMethod yX4_countLinks ∈ AL ∧ Cond.selects mX4_countLinks.1.cls yX4_countLinks yX4_countLinks ∈ AL := ⟨w3_129, w3_131, w0_6⟩
theorem w3_133 : Cond.methodLink RX4 86 yJ6_bitCount_0f7a4 ∈ AL := AL_in (T3 (List.mem_of_getElem? (i := 133) rfl)) rfl
theorem w3_134 : Cond.static yJ6_bitCount_0f7a4 ∈ AL := AL_in (T3 (List.mem_of_getElem? (i := 134) rfl)) rfl
theorem kX4_86 : Cond.methodLink RX4 86 yJ6_bitCount_0f7a4 ∈ AL ∧ Cond.static yJ6_bitCount_0f7a4 ∈ AL := ⟨w3_133, w3_134⟩
theorem w3_139 : Cond.methodLink RL 182 yL_unlink ∈ AL := AL_in (T3 (List.mem_of_getElem? (i := 139) rfl)) rfl
theorem w3_140 : Cond.static yL_unlink ∈ AL := AL_in (T3 (List.mem_of_getElem? (i := 140) rfl)) rfl
theorem kL_182 : Cond.methodLink RL 182 yL_unlink ∈ AL ∧ Cond.static yL_unlink ∈ AL := ⟨w3_139, w3_140⟩
theorem w3_143 : Cond.methodLink RL 26 yX8_unlink ∈ AL := AL_in (T3 (List.mem_of_getElem? (i := 143) rfl)) rfl
theorem w3_144 : Cond.instanceMethod yX8_unlink ∈ AL := AL_in (T3 (List.mem_of_getElem? (i := 144) rfl)) rfl
theorem w3_145 : Cond.selects RX8 yX8_unlink yX8_unlink ∈ AL := AL_in (T3 (List.mem_of_getElem? (i := 145) rfl)) rfl
theorem kL_26 : Cond.methodLink RL 26 yX8_unlink ∈ AL ∧ Cond.instanceMethod yX8_unlink ∈ AL ∧ Cond.selects mX8_unlink.1.cls yX8_unlink yX8_unlink ∈ AL := ⟨w3_143, w3_144, w3_145⟩
theorem w3_147 : Cond.methodLink RX8 84 yX4_separate ∈ AL := AL_in (T3 (List.mem_of_getElem? (i := 147) rfl)) rfl
theorem w3_148 : Cond.instanceMethod yX4_separate ∈ AL := AL_in (T3 (List.mem_of_getElem? (i := 148) rfl)) rfl
theorem w3_149 : Cond.selects RX4 yX4_separate yX4_separate ∈ AL := AL_in (T3 (List.mem_of_getElem? (i := 149) rfl)) rfl
theorem kX8_84 : Cond.methodLink RX8 84 yX4_separate ∈ AL ∧ Cond.instanceMethod yX4_separate ∈ AL ∧ Cond.selects mX4_separate.1.cls yX4_separate yX4_separate ∈ AL := ⟨w3_147, w3_148, w3_149⟩
theorem w3_151 : Cond.methodLink RL 185 yL_putCat ∈ AL := AL_in (T3 (List.mem_of_getElem? (i := 151) rfl)) rfl
theorem w3_152 : Cond.static yL_putCat ∈ AL := AL_in (T3 (List.mem_of_getElem? (i := 152) rfl)) rfl
theorem kL_185 : Cond.methodLink RL 185 yL_putCat ∈ AL ∧ Cond.static yL_putCat ∈ AL := ⟨w3_151, w3_152⟩
theorem w3_155 : Cond.methodLink RL 31 yX8_putCat ∈ AL := AL_in (T3 (List.mem_of_getElem? (i := 155) rfl)) rfl
theorem w3_156 : Cond.instanceMethod yX8_putCat ∈ AL := AL_in (T3 (List.mem_of_getElem? (i := 156) rfl)) rfl
theorem w3_157 : Cond.selects RX8 yX8_putCat yX8_putCat ∈ AL := AL_in (T3 (List.mem_of_getElem? (i := 157) rfl)) rfl
theorem kL_31 : Cond.methodLink RL 31 yX8_putCat ∈ AL ∧ Cond.instanceMethod yX8_putCat ∈ AL ∧ Cond.selects mX8_putCat.1.cls yX8_putCat yX8_putCat ∈ AL := ⟨w3_155, w3_156, w3_157⟩
theorem w3_159 : Cond.methodLink RX8 87 yX4_seatCat ∈ AL := AL_in (T3 (List.mem_of_getElem? (i := 159) rfl)) rfl
theorem w3_160 : Cond.instanceMethod yX4_seatCat ∈ AL := AL_in (T3 (List.mem_of_getElem? (i := 160) rfl)) rfl
theorem w3_161 : Cond.selects RX4 yX4_seatCat yX4_seatCat ∈ AL := AL_in (T3 (List.mem_of_getElem? (i := 161) rfl)) rfl
theorem kX8_87 : Cond.methodLink RX8 87 yX4_seatCat ∈ AL ∧ Cond.instanceMethod yX4_seatCat ∈ AL ∧ Cond.selects mX4_seatCat.1.cls yX4_seatCat yX4_seatCat ∈ AL := ⟨w3_159, w3_160, w3_161⟩
theorem w3_163 : Cond.methodLink RL 188 yL_removeCat ∈ AL := AL_in (T3 (List.mem_of_getElem? (i := 163) rfl)) rfl
theorem w3_164 : Cond.static yL_removeCat ∈ AL := AL_in (T3 (List.mem_of_getElem? (i := 164) rfl)) rfl
theorem kL_188 : Cond.methodLink RL 188 yL_removeCat ∈ AL ∧ Cond.static yL_removeCat ∈ AL := ⟨w3_163, w3_164⟩
theorem w3_166 : Cond.methodLink RL 36 yX8_removeCat ∈ AL := AL_in (T3 (List.mem_of_getElem? (i := 166) rfl)) rfl
theorem w3_167 : Cond.instanceMethod yX8_removeCat ∈ AL := AL_in (T3 (List.mem_of_getElem? (i := 167) rfl)) rfl
theorem w3_168 : Cond.selects RX8 yX8_removeCat yX8_removeCat ∈ AL := AL_in (T3 (List.mem_of_getElem? (i := 168) rfl)) rfl
theorem kL_36 : Cond.methodLink RL 36 yX8_removeCat ∈ AL ∧ Cond.instanceMethod yX8_removeCat ∈ AL ∧ Cond.selects mX8_removeCat.1.cls yX8_removeCat yX8_removeCat ∈ AL := ⟨w3_166, w3_167, w3_168⟩
theorem w3_170 : Cond.methodLink RX8 90 yX4_liftCat ∈ AL := AL_in (T3 (List.mem_of_getElem? (i := 170) rfl)) rfl
theorem w3_171 : Cond.instanceMethod yX4_liftCat ∈ AL := AL_in (T3 (List.mem_of_getElem? (i := 171) rfl)) rfl
theorem w3_172 : Cond.selects RX4 yX4_liftCat yX4_liftCat ∈ AL := AL_in (T3 (List.mem_of_getElem? (i := 172) rfl)) rfl
theorem kX8_90 : Cond.methodLink RX8 90 yX4_liftCat ∈ AL ∧ Cond.instanceMethod yX4_liftCat ∈ AL ∧ Cond.selects mX4_liftCat.1.cls yX4_liftCat yX4_liftCat ∈ AL := ⟨w3_170, w3_171, w3_172⟩
theorem w3_174 : Cond.methodLink RL 195 yL_length ∈ AL := AL_in (T3 (List.mem_of_getElem? (i := 174) rfl)) rfl
theorem w3_175 : Cond.static yL_length ∈ AL := AL_in (T3 (List.mem_of_getElem? (i := 175) rfl)) rfl
theorem kL_195 : Cond.methodLink RL 195 yL_length ∈ AL ∧ Cond.static yL_length ∈ AL := ⟨w3_174, w3_175⟩
theorem w3_177 : Cond.methodLink RL 39 yX8_length ∈ AL := AL_in (T3 (List.mem_of_getElem? (i := 177) rfl)) rfl
theorem w3_178 : Cond.instanceMethod yX8_length ∈ AL := AL_in (T3 (List.mem_of_getElem? (i := 178) rfl)) rfl
theorem w3_179 : Cond.selects RX8 yX8_length yX8_length ∈ AL := AL_in (T3 (List.mem_of_getElem? (i := 179) rfl)) rfl
theorem kL_39 : Cond.methodLink RL 39 yX8_length ∈ AL ∧ Cond.instanceMethod yX8_length ∈ AL ∧ Cond.selects mX8_length.1.cls yX8_length yX8_length ∈ AL := ⟨w3_177, w3_178, w3_179⟩
theorem w3_181 : Cond.methodLink RX8 96 yX8_needBlock ∈ AL := AL_in (T3 (List.mem_of_getElem? (i := 181) rfl)) rfl
theorem w3_183 : Cond.instanceMethod yX8_needBlock ∈ AL := AL_in (T3 (List.mem_of_getElem? (i := 183) rfl)) rfl
theorem w0_7 : Cond.selects RX8 yX8_needBlock yX8_needBlock ∈ AL := AL_in (T0 (List.mem_of_getElem? (i := 7) rfl)) rfl
theorem kX8_96 : Cond.methodLink RX8 96 yX8_needBlock ∈ AL ∧ Cond.instanceMethod yX8_needBlock ∈ AL ∧ Cond.selects mX8_needBlock.1.cls yX8_needBlock yX8_needBlock ∈ AL := ⟨w3_181, w3_183, w0_7⟩
theorem w3_185 : Cond.methodLink RX8 341 yX4_isBlock ∈ AL := AL_in (T3 (List.mem_of_getElem? (i := 185) rfl)) rfl
theorem kX8_341 : Cond.methodLink RX8 341 yX4_isBlock ∈ AL ∧ Cond.instanceMethod yX4_isBlock ∈ AL ∧ Cond.selects mX4_isBlock.1.cls yX4_isBlock yX4_isBlock ∈ AL := ⟨w3_185, w3_125, w3_126⟩
theorem w3_187 : Cond.methodLink RL 198 yL_isCushion ∈ AL := AL_in (T3 (List.mem_of_getElem? (i := 187) rfl)) rfl
theorem w3_188 : Cond.static yL_isCushion ∈ AL := AL_in (T3 (List.mem_of_getElem? (i := 188) rfl)) rfl
theorem kL_198 : Cond.methodLink RL 198 yL_isCushion ∈ AL ∧ Cond.static yL_isCushion ∈ AL := ⟨w3_187, w3_188⟩
theorem w3_190 : Cond.methodLink RL 42 yX8_isCushion ∈ AL := AL_in (T3 (List.mem_of_getElem? (i := 190) rfl)) rfl
theorem w3_191 : Cond.instanceMethod yX8_isCushion ∈ AL := AL_in (T3 (List.mem_of_getElem? (i := 191) rfl)) rfl
theorem w3_192 : Cond.selects RX8 yX8_isCushion yX8_isCushion ∈ AL := AL_in (T3 (List.mem_of_getElem? (i := 192) rfl)) rfl
theorem kL_42 : Cond.methodLink RL 42 yX8_isCushion ∈ AL ∧ Cond.instanceMethod yX8_isCushion ∈ AL ∧ Cond.selects mX8_isCushion.1.cls yX8_isCushion yX8_isCushion ∈ AL := ⟨w3_190, w3_191, w3_192⟩
theorem w3_194 : Cond.methodLink RX8 107 yX8_has ∈ AL := AL_in (T3 (List.mem_of_getElem? (i := 194) rfl)) rfl
theorem w2_33 : Cond.static yX8_has ∈ AL := AL_in (T2 (List.mem_of_getElem? (i := 33) rfl)) rfl
theorem kX8_107 : Cond.methodLink RX8 107 yX8_has ∈ AL ∧ Cond.static yX8_has ∈ AL := ⟨w3_194, w2_33⟩
theorem w3_195 : Cond.methodLink RL 201 yL_hasCat ∈ AL := AL_in (T3 (List.mem_of_getElem? (i := 195) rfl)) rfl
theorem w3_196 : Cond.static yL_hasCat ∈ AL := AL_in (T3 (List.mem_of_getElem? (i := 196) rfl)) rfl
theorem kL_201 : Cond.methodLink RL 201 yL_hasCat ∈ AL ∧ Cond.static yL_hasCat ∈ AL := ⟨w3_195, w3_196⟩
theorem w3_198 : Cond.methodLink RL 46 yX8_hasCat ∈ AL := AL_in (T3 (List.mem_of_getElem? (i := 198) rfl)) rfl
theorem w3_199 : Cond.instanceMethod yX8_hasCat ∈ AL := AL_in (T3 (List.mem_of_getElem? (i := 199) rfl)) rfl
theorem w3_200 : Cond.selects RX8 yX8_hasCat yX8_hasCat ∈ AL := AL_in (T3 (List.mem_of_getElem? (i := 200) rfl)) rfl
theorem kL_46 : Cond.methodLink RL 46 yX8_hasCat ∈ AL ∧ Cond.instanceMethod yX8_hasCat ∈ AL ∧ Cond.selects mX8_hasCat.1.cls yX8_hasCat yX8_hasCat ∈ AL := ⟨w3_198, w3_199, w3_200⟩
theorem w3_202 : Cond.methodLink RL 204 yL_areLinked ∈ AL := AL_in (T3 (List.mem_of_getElem? (i := 202) rfl)) rfl
theorem w3_203 : Cond.static yL_areLinked ∈ AL := AL_in (T3 (List.mem_of_getElem? (i := 203) rfl)) rfl
theorem kL_204 : Cond.methodLink RL 204 yL_areLinked ∈ AL ∧ Cond.static yL_areLinked ∈ AL := ⟨w3_202, w3_203⟩
theorem w3_205 : Cond.methodLink RL 49 yX8_areLinked ∈ AL := AL_in (T3 (List.mem_of_getElem? (i := 205) rfl)) rfl
theorem w3_206 : Cond.instanceMethod yX8_areLinked ∈ AL := AL_in (T3 (List.mem_of_getElem? (i := 206) rfl)) rfl
theorem w3_207 : Cond.selects RX8 yX8_areLinked yX8_areLinked ∈ AL := AL_in (T3 (List.mem_of_getElem? (i := 207) rfl)) rfl
theorem kL_49 : Cond.methodLink RL 49 yX8_areLinked ∈ AL ∧ Cond.instanceMethod yX8_areLinked ∈ AL ∧ Cond.selects mX8_areLinked.1.cls yX8_areLinked yX8_areLinked ∈ AL := ⟨w3_205, w3_206, w3_207⟩
theorem w3_209 : Cond.methodLink RX8 114 yX4_isJoined ∈ AL := AL_in (T3 (List.mem_of_getElem? (i := 209) rfl)) rfl
theorem kX8_114 : Cond.methodLink RX8 114 yX4_isJoined ∈ AL ∧ Cond.instanceMethod yX4_isJoined ∈ AL ∧ Cond.selects mX4_isJoined.1.cls yX4_isJoined yX4_isJoined ∈ AL := ⟨w3_209, w2_39, w2_40⟩
theorem w3_210 : Cond.methodLink RL 207 yL_degree ∈ AL := AL_in (T3 (List.mem_of_getElem? (i := 210) rfl)) rfl
theorem w3_211 : Cond.static yL_degree ∈ AL := AL_in (T3 (List.mem_of_getElem? (i := 211) rfl)) rfl
theorem kL_207 : Cond.methodLink RL 207 yL_degree ∈ AL ∧ Cond.static yL_degree ∈ AL := ⟨w3_210, w3_211⟩
theorem w3_213 : Cond.methodLink RL 53 yX8_degree ∈ AL := AL_in (T3 (List.mem_of_getElem? (i := 213) rfl)) rfl
theorem w3_214 : Cond.instanceMethod yX8_degree ∈ AL := AL_in (T3 (List.mem_of_getElem? (i := 214) rfl)) rfl
theorem w3_215 : Cond.selects RX8 yX8_degree yX8_degree ∈ AL := AL_in (T3 (List.mem_of_getElem? (i := 215) rfl)) rfl
theorem kL_53 : Cond.methodLink RL 53 yX8_degree ∈ AL ∧ Cond.instanceMethod yX8_degree ∈ AL ∧ Cond.selects mX8_degree.1.cls yX8_degree yX8_degree ∈ AL := ⟨w3_213, w3_214, w3_215⟩
theorem w3_217 : Cond.methodLink RX8 120 yJ6_bitCount_0f7a4 ∈ AL := AL_in (T3 (List.mem_of_getElem? (i := 217) rfl)) rfl
theorem kX8_120 : Cond.methodLink RX8 120 yJ6_bitCount_0f7a4 ∈ AL ∧ Cond.static yJ6_bitCount_0f7a4 ∈ AL := ⟨w3_217, w3_134⟩
theorem w3_218 : Cond.methodLink RL 210 yL_trainIn ∈ AL := AL_in (T3 (List.mem_of_getElem? (i := 218) rfl)) rfl
theorem w3_219 : Cond.static yL_trainIn ∈ AL := AL_in (T3 (List.mem_of_getElem? (i := 219) rfl)) rfl
theorem kL_210 : Cond.methodLink RL 210 yL_trainIn ∈ AL ∧ Cond.static yL_trainIn ∈ AL := ⟨w3_218, w3_219⟩
theorem w3_221 : Cond.methodLink RL 56 yX8_trainIn ∈ AL := AL_in (T3 (List.mem_of_getElem? (i := 221) rfl)) rfl
theorem w3_222 : Cond.instanceMethod yX8_trainIn ∈ AL := AL_in (T3 (List.mem_of_getElem? (i := 222) rfl)) rfl
theorem w3_223 : Cond.selects RX8 yX8_trainIn yX8_trainIn ∈ AL := AL_in (T3 (List.mem_of_getElem? (i := 223) rfl)) rfl
theorem kL_56 : Cond.methodLink RL 56 yX8_trainIn ∈ AL ∧ Cond.instanceMethod yX8_trainIn ∈ AL ∧ Cond.selects mX8_trainIn.1.cls yX8_trainIn yX8_trainIn ∈ AL := ⟨w3_221, w3_222, w3_223⟩
theorem w3_225 : Cond.methodLink RX8 125 yX4_trainAt ∈ AL := AL_in (T3 (List.mem_of_getElem? (i := 225) rfl)) rfl
theorem kX8_125 : Cond.methodLink RX8 125 yX4_trainAt ∈ AL ∧ Cond.instanceMethod yX4_trainAt ∈ AL ∧ Cond.selects mX4_trainAt.1.cls yX4_trainAt yX4_trainAt ∈ AL := ⟨w3_225, w2_85, w2_86⟩
theorem w3_226 : Cond.methodLink RX8 128 yX8_found ∈ AL := AL_in (T3 (List.mem_of_getElem? (i := 226) rfl)) rfl
theorem w3_227 : Cond.static yX8_found ∈ AL := AL_in (T3 (List.mem_of_getElem? (i := 227) rfl)) rfl
theorem kX8_128 : Cond.methodLink RX8 128 yX8_found ∈ AL ∧ Cond.static yX8_found ∈ AL := ⟨w3_226, w3_227⟩
theorem w3_229 : Cond.methodLink RL 213 yL_reservedBy ∈ AL := AL_in (T3 (List.mem_of_getElem? (i := 229) rfl)) rfl
theorem w3_230 : Cond.static yL_reservedBy ∈ AL := AL_in (T3 (List.mem_of_getElem? (i := 230) rfl)) rfl
theorem kL_213 : Cond.methodLink RL 213 yL_reservedBy ∈ AL ∧ Cond.static yL_reservedBy ∈ AL := ⟨w3_229, w3_230⟩
theorem w3_232 : Cond.methodLink RL 59 yX8_reservedBy ∈ AL := AL_in (T3 (List.mem_of_getElem? (i := 232) rfl)) rfl
theorem w3_233 : Cond.instanceMethod yX8_reservedBy ∈ AL := AL_in (T3 (List.mem_of_getElem? (i := 233) rfl)) rfl
theorem w3_234 : Cond.selects RX8 yX8_reservedBy yX8_reservedBy ∈ AL := AL_in (T3 (List.mem_of_getElem? (i := 234) rfl)) rfl
theorem kL_59 : Cond.methodLink RL 59 yX8_reservedBy ∈ AL ∧ Cond.instanceMethod yX8_reservedBy ∈ AL ∧ Cond.selects mX8_reservedBy.1.cls yX8_reservedBy yX8_reservedBy ∈ AL := ⟨w3_232, w3_233, w3_234⟩
theorem w3_236 : Cond.methodLink RX8 131 yX4_holderOf ∈ AL := AL_in (T3 (List.mem_of_getElem? (i := 236) rfl)) rfl
theorem kX8_131 : Cond.methodLink RX8 131 yX4_holderOf ∈ AL ∧ Cond.instanceMethod yX4_holderOf ∈ AL ∧ Cond.selects mX4_holderOf.1.cls yX4_holderOf yX4_holderOf ∈ AL := ⟨w3_236, w2_122, w2_123⟩
theorem w3_237 : Cond.methodLink RL 216 yL_signal ∈ AL := AL_in (T3 (List.mem_of_getElem? (i := 237) rfl)) rfl
theorem w3_238 : Cond.static yL_signal ∈ AL := AL_in (T3 (List.mem_of_getElem? (i := 238) rfl)) rfl
theorem kL_216 : Cond.methodLink RL 216 yL_signal ∈ AL ∧ Cond.static yL_signal ∈ AL := ⟨w3_237, w3_238⟩
theorem w4_0 : Cond.methodLink RL 62 yX8_signal ∈ AL := AL_in (T4 (List.mem_of_getElem? (i := 0) rfl)) rfl
theorem w4_1 : Cond.instanceMethod yX8_signal ∈ AL := AL_in (T4 (List.mem_of_getElem? (i := 1) rfl)) rfl
theorem w4_2 : Cond.selects RX8 yX8_signal yX8_signal ∈ AL := AL_in (T4 (List.mem_of_getElem? (i := 2) rfl)) rfl
theorem kL_62 : Cond.methodLink RL 62 yX8_signal ∈ AL ∧ Cond.instanceMethod yX8_signal ∈ AL ∧ Cond.selects mX8_signal.1.cls yX8_signal yX8_signal ∈ AL := ⟨w4_0, w4_1, w4_2⟩
theorem w4_4 : Cond.methodLink RL 219 yL_distance ∈ AL := AL_in (T4 (List.mem_of_getElem? (i := 4) rfl)) rfl
theorem w4_5 : Cond.static yL_distance ∈ AL := AL_in (T4 (List.mem_of_getElem? (i := 5) rfl)) rfl
theorem kL_219 : Cond.methodLink RL 219 yL_distance ∈ AL ∧ Cond.static yL_distance ∈ AL := ⟨w4_4, w4_5⟩
theorem w4_7 : Cond.methodLink RL 66 yX8_distance ∈ AL := AL_in (T4 (List.mem_of_getElem? (i := 7) rfl)) rfl
theorem w4_8 : Cond.instanceMethod yX8_distance ∈ AL := AL_in (T4 (List.mem_of_getElem? (i := 8) rfl)) rfl
theorem w4_9 : Cond.selects RX8 yX8_distance yX8_distance ∈ AL := AL_in (T4 (List.mem_of_getElem? (i := 9) rfl)) rfl
theorem kL_66 : Cond.methodLink RL 66 yX8_distance ∈ AL ∧ Cond.instanceMethod yX8_distance ∈ AL ∧ Cond.selects mX8_distance.1.cls yX8_distance yX8_distance ∈ AL := ⟨w4_7, w4_8, w4_9⟩
theorem w4_11 : Cond.methodLink RX8 138 yX6_measureByNearest ∈ AL := AL_in (T4 (List.mem_of_getElem? (i := 11) rfl)) rfl
theorem kX8_138 : Cond.methodLink RX8 138 yX6_measureByNearest ∈ AL ∧ Cond.instanceMethod yX6_measureByNearest ∈ AL ∧ Cond.selects mX6_measureByNearest.1.cls yX6_measureByNearest yX6_measureByNearest ∈ AL := ⟨w4_11, w2_77, w2_78⟩
theorem w4_12 : Cond.methodLink RL 222 yL_distanceByRounds ∈ AL := AL_in (T4 (List.mem_of_getElem? (i := 12) rfl)) rfl
theorem w4_13 : Cond.static yL_distanceByRounds ∈ AL := AL_in (T4 (List.mem_of_getElem? (i := 13) rfl)) rfl
theorem kL_222 : Cond.methodLink RL 222 yL_distanceByRounds ∈ AL ∧ Cond.static yL_distanceByRounds ∈ AL := ⟨w4_12, w4_13⟩
theorem w4_15 : Cond.methodLink RL 69 yX8_distanceByRounds ∈ AL := AL_in (T4 (List.mem_of_getElem? (i := 15) rfl)) rfl
theorem w4_16 : Cond.instanceMethod yX8_distanceByRounds ∈ AL := AL_in (T4 (List.mem_of_getElem? (i := 16) rfl)) rfl
theorem w4_17 : Cond.selects RX8 yX8_distanceByRounds yX8_distanceByRounds ∈ AL := AL_in (T4 (List.mem_of_getElem? (i := 17) rfl)) rfl
theorem kL_69 : Cond.methodLink RL 69 yX8_distanceByRounds ∈ AL ∧ Cond.instanceMethod yX8_distanceByRounds ∈ AL ∧ Cond.selects mX8_distanceByRounds.1.cls yX8_distanceByRounds yX8_distanceByRounds ∈ AL := ⟨w4_15, w4_16, w4_17⟩
theorem w4_19 : Cond.methodLink RX8 145 yX6_measureByRounds ∈ AL := AL_in (T4 (List.mem_of_getElem? (i := 19) rfl)) rfl
theorem kX8_145 : Cond.methodLink RX8 145 yX6_measureByRounds ∈ AL ∧ Cond.instanceMethod yX6_measureByRounds ∈ AL ∧ Cond.selects mX6_measureByRounds.1.cls yX6_measureByRounds yX6_measureByRounds ∈ AL := ⟨w4_19, w2_138, w2_139⟩
theorem w4_20 : Cond.methodLink RL 225 yL_nextBlock ∈ AL := AL_in (T4 (List.mem_of_getElem? (i := 20) rfl)) rfl
theorem w4_21 : Cond.static yL_nextBlock ∈ AL := AL_in (T4 (List.mem_of_getElem? (i := 21) rfl)) rfl
theorem kL_225 : Cond.methodLink RL 225 yL_nextBlock ∈ AL ∧ Cond.static yL_nextBlock ∈ AL := ⟨w4_20, w4_21⟩
theorem w4_23 : Cond.methodLink RL 72 yX8_nextBlock ∈ AL := AL_in (T4 (List.mem_of_getElem? (i := 23) rfl)) rfl
theorem w4_24 : Cond.instanceMethod yX8_nextBlock ∈ AL := AL_in (T4 (List.mem_of_getElem? (i := 24) rfl)) rfl
theorem w4_25 : Cond.selects RX8 yX8_nextBlock yX8_nextBlock ∈ AL := AL_in (T4 (List.mem_of_getElem? (i := 25) rfl)) rfl
theorem kL_72 : Cond.methodLink RL 72 yX8_nextBlock ∈ AL ∧ Cond.instanceMethod yX8_nextBlock ∈ AL ∧ Cond.selects mX8_nextBlock.1.cls yX8_nextBlock yX8_nextBlock ∈ AL := ⟨w4_23, w4_24, w4_25⟩
theorem w4_27 : Cond.methodLink RX8 151 yX8_needTrain ∈ AL := AL_in (T4 (List.mem_of_getElem? (i := 27) rfl)) rfl
theorem w4_29 : Cond.instanceMethod yX8_needTrain ∈ AL := AL_in (T4 (List.mem_of_getElem? (i := 29) rfl)) rfl
theorem w0_8 : Cond.selects RX8 yX8_needTrain yX8_needTrain ∈ AL := AL_in (T0 (List.mem_of_getElem? (i := 8) rfl)) rfl
theorem kX8_151 : Cond.methodLink RX8 151 yX8_needTrain ∈ AL ∧ Cond.instanceMethod yX8_needTrain ∈ AL ∧ Cond.selects mX8_needTrain.1.cls yX8_needTrain yX8_needTrain ∈ AL := ⟨w4_27, w4_29, w0_8⟩
theorem w4_31 : Cond.methodLink RX8 347 yX4_isTrain ∈ AL := AL_in (T4 (List.mem_of_getElem? (i := 31) rfl)) rfl
theorem w4_32 : Cond.instanceMethod yX4_isTrain ∈ AL := AL_in (T4 (List.mem_of_getElem? (i := 32) rfl)) rfl
theorem w4_33 : Cond.selects RX4 yX4_isTrain yX4_isTrain ∈ AL := AL_in (T4 (List.mem_of_getElem? (i := 33) rfl)) rfl
theorem kX8_347 : Cond.methodLink RX8 347 yX4_isTrain ∈ AL ∧ Cond.instanceMethod yX4_isTrain ∈ AL ∧ Cond.selects mX4_isTrain.1.cls yX4_isTrain yX4_isTrain ∈ AL := ⟨w4_31, w4_32, w4_33⟩
theorem w4_36 : Cond.methodLink RX8 154 yX6_nextFor ∈ AL := AL_in (T4 (List.mem_of_getElem? (i := 36) rfl)) rfl
theorem kX8_154 : Cond.methodLink RX8 154 yX6_nextFor ∈ AL ∧ Cond.instanceMethod yX6_nextFor ∈ AL ∧ Cond.selects mX6_nextFor.1.cls yX6_nextFor yX6_nextFor ∈ AL := ⟨w4_36, w2_73, w2_74⟩
theorem w4_37 : Cond.methodLink RL 236 yL_nearestCushion ∈ AL := AL_in (T4 (List.mem_of_getElem? (i := 37) rfl)) rfl
theorem w4_38 : Cond.static yL_nearestCushion ∈ AL := AL_in (T4 (List.mem_of_getElem? (i := 38) rfl)) rfl
theorem kL_236 : Cond.methodLink RL 236 yL_nearestCushion ∈ AL ∧ Cond.static yL_nearestCushion ∈ AL := ⟨w4_37, w4_38⟩
theorem w4_40 : Cond.methodLink RL 75 yX8_nearestCushion ∈ AL := AL_in (T4 (List.mem_of_getElem? (i := 40) rfl)) rfl
theorem w4_41 : Cond.instanceMethod yX8_nearestCushion ∈ AL := AL_in (T4 (List.mem_of_getElem? (i := 41) rfl)) rfl
theorem w4_42 : Cond.selects RX8 yX8_nearestCushion yX8_nearestCushion ∈ AL := AL_in (T4 (List.mem_of_getElem? (i := 42) rfl)) rfl
theorem kL_75 : Cond.methodLink RL 75 yX8_nearestCushion ∈ AL ∧ Cond.instanceMethod yX8_nearestCushion ∈ AL ∧ Cond.selects mX8_nearestCushion.1.cls yX8_nearestCushion yX8_nearestCushion ∈ AL := ⟨w4_40, w4_41, w4_42⟩
theorem w4_44 : Cond.methodLink RX8 165 yX6_cushionNear ∈ AL := AL_in (T4 (List.mem_of_getElem? (i := 44) rfl)) rfl
theorem w4_45 : Cond.instanceMethod yX6_cushionNear ∈ AL := AL_in (T4 (List.mem_of_getElem? (i := 45) rfl)) rfl
theorem w4_46 : Cond.selects RX6 yX6_cushionNear yX6_cushionNear ∈ AL := AL_in (T4 (List.mem_of_getElem? (i := 46) rfl)) rfl
theorem kX8_165 : Cond.methodLink RX8 165 yX6_cushionNear ∈ AL ∧ Cond.instanceMethod yX6_cushionNear ∈ AL ∧ Cond.selects mX6_cushionNear.1.cls yX6_cushionNear yX6_cushionNear ∈ AL := ⟨w4_44, w4_45, w4_46⟩
theorem w4_48 : Cond.methodLink RL 239 yL_addTrain ∈ AL := AL_in (T4 (List.mem_of_getElem? (i := 48) rfl)) rfl
theorem w4_49 : Cond.static yL_addTrain ∈ AL := AL_in (T4 (List.mem_of_getElem? (i := 49) rfl)) rfl
theorem kL_239 : Cond.methodLink RL 239 yL_addTrain ∈ AL ∧ Cond.static yL_addTrain ∈ AL := ⟨w4_48, w4_49⟩
theorem w4_51 : Cond.methodLink RL 78 yX8_addTrain ∈ AL := AL_in (T4 (List.mem_of_getElem? (i := 51) rfl)) rfl
theorem w4_52 : Cond.instanceMethod yX8_addTrain ∈ AL := AL_in (T4 (List.mem_of_getElem? (i := 52) rfl)) rfl
theorem w4_53 : Cond.selects RX8 yX8_addTrain yX8_addTrain ∈ AL := AL_in (T4 (List.mem_of_getElem? (i := 53) rfl)) rfl
theorem kL_78 : Cond.methodLink RL 78 yX8_addTrain ∈ AL ∧ Cond.instanceMethod yX8_addTrain ∈ AL ∧ Cond.selects mX8_addTrain.1.cls yX8_addTrain yX8_addTrain ∈ AL := ⟨w4_51, w4_52, w4_53⟩
theorem w4_55 : Cond.methodLink RX8 168 yX4_placeTrain ∈ AL := AL_in (T4 (List.mem_of_getElem? (i := 55) rfl)) rfl
theorem w4_56 : Cond.instanceMethod yX4_placeTrain ∈ AL := AL_in (T4 (List.mem_of_getElem? (i := 56) rfl)) rfl
theorem w4_57 : Cond.selects RX4 yX4_placeTrain yX4_placeTrain ∈ AL := AL_in (T4 (List.mem_of_getElem? (i := 57) rfl)) rfl
theorem kX8_168 : Cond.methodLink RX8 168 yX4_placeTrain ∈ AL ∧ Cond.instanceMethod yX4_placeTrain ∈ AL ∧ Cond.selects mX4_placeTrain.1.cls yX4_placeTrain yX4_placeTrain ∈ AL := ⟨w4_55, w4_56, w4_57⟩
theorem w4_59 : Cond.methodLink RL 242 yL_setGoal ∈ AL := AL_in (T4 (List.mem_of_getElem? (i := 59) rfl)) rfl
theorem w4_60 : Cond.static yL_setGoal ∈ AL := AL_in (T4 (List.mem_of_getElem? (i := 60) rfl)) rfl
theorem kL_242 : Cond.methodLink RL 242 yL_setGoal ∈ AL ∧ Cond.static yL_setGoal ∈ AL := ⟨w4_59, w4_60⟩
theorem w4_62 : Cond.methodLink RL 81 yX8_setGoal ∈ AL := AL_in (T4 (List.mem_of_getElem? (i := 62) rfl)) rfl
theorem w4_63 : Cond.instanceMethod yX8_setGoal ∈ AL := AL_in (T4 (List.mem_of_getElem? (i := 63) rfl)) rfl
theorem w4_64 : Cond.selects RX8 yX8_setGoal yX8_setGoal ∈ AL := AL_in (T4 (List.mem_of_getElem? (i := 64) rfl)) rfl
theorem kL_81 : Cond.methodLink RL 81 yX8_setGoal ∈ AL ∧ Cond.instanceMethod yX8_setGoal ∈ AL ∧ Cond.selects mX8_setGoal.1.cls yX8_setGoal yX8_setGoal ∈ AL := ⟨w4_62, w4_63, w4_64⟩
theorem w4_66 : Cond.methodLink RX8 171 yX7_aim ∈ AL := AL_in (T4 (List.mem_of_getElem? (i := 66) rfl)) rfl
theorem w4_67 : Cond.instanceMethod yX7_aim ∈ AL := AL_in (T4 (List.mem_of_getElem? (i := 67) rfl)) rfl
theorem w4_68 : Cond.selects RX7 yX7_aim yX7_aim ∈ AL := AL_in (T4 (List.mem_of_getElem? (i := 68) rfl)) rfl
theorem kX8_171 : Cond.methodLink RX8 171 yX7_aim ∈ AL ∧ Cond.instanceMethod yX7_aim ∈ AL ∧ Cond.selects mX7_aim.1.cls yX7_aim yX7_aim ∈ AL := ⟨w4_66, w4_67, w4_68⟩
theorem w4_70 : Cond.methodLink RX7 25 yX4_isTrain ∈ AL := AL_in (T4 (List.mem_of_getElem? (i := 70) rfl)) rfl
theorem kX7_25 : Cond.methodLink RX7 25 yX4_isTrain ∈ AL ∧ Cond.instanceMethod yX4_isTrain ∈ AL ∧ Cond.selects mX4_isTrain.1.cls yX4_isTrain yX4_isTrain ∈ AL := ⟨w4_70, w4_32, w4_33⟩
theorem w4_71 : Cond.methodLink RX7 31 yX4_isBlock ∈ AL := AL_in (T4 (List.mem_of_getElem? (i := 71) rfl)) rfl
theorem kX7_31 : Cond.methodLink RX7 31 yX4_isBlock ∈ AL ∧ Cond.instanceMethod yX4_isBlock ∈ AL ∧ Cond.selects mX4_isBlock.1.cls yX4_isBlock yX4_isBlock ∈ AL := ⟨w4_71, w3_125, w3_126⟩
theorem w4_72 : Cond.methodLink RX7 45 yX6_measureByNearest ∈ AL := AL_in (T4 (List.mem_of_getElem? (i := 72) rfl)) rfl
theorem kX7_45 : Cond.methodLink RX7 45 yX6_measureByNearest ∈ AL ∧ Cond.instanceMethod yX6_measureByNearest ∈ AL ∧ Cond.selects mX6_measureByNearest.1.cls yX6_measureByNearest yX6_measureByNearest ∈ AL := ⟨w4_72, w2_77, w2_78⟩
theorem w4_73 : Cond.methodLink RL 245 yL_clearGoal ∈ AL := AL_in (T4 (List.mem_of_getElem? (i := 73) rfl)) rfl
theorem w4_74 : Cond.static yL_clearGoal ∈ AL := AL_in (T4 (List.mem_of_getElem? (i := 74) rfl)) rfl
theorem kL_245 : Cond.methodLink RL 245 yL_clearGoal ∈ AL ∧ Cond.static yL_clearGoal ∈ AL := ⟨w4_73, w4_74⟩
theorem w4_76 : Cond.methodLink RL 84 yX8_clearGoal ∈ AL := AL_in (T4 (List.mem_of_getElem? (i := 76) rfl)) rfl
theorem w4_77 : Cond.instanceMethod yX8_clearGoal ∈ AL := AL_in (T4 (List.mem_of_getElem? (i := 77) rfl)) rfl
theorem w4_78 : Cond.selects RX8 yX8_clearGoal yX8_clearGoal ∈ AL := AL_in (T4 (List.mem_of_getElem? (i := 78) rfl)) rfl
theorem kL_84 : Cond.methodLink RL 84 yX8_clearGoal ∈ AL ∧ Cond.instanceMethod yX8_clearGoal ∈ AL ∧ Cond.selects mX8_clearGoal.1.cls yX8_clearGoal yX8_clearGoal ∈ AL := ⟨w4_76, w4_77, w4_78⟩
theorem w4_80 : Cond.methodLink RX8 175 yX4_dropGoal ∈ AL := AL_in (T4 (List.mem_of_getElem? (i := 80) rfl)) rfl
theorem w4_81 : Cond.instanceMethod yX4_dropGoal ∈ AL := AL_in (T4 (List.mem_of_getElem? (i := 81) rfl)) rfl
theorem w4_82 : Cond.selects RX4 yX4_dropGoal yX4_dropGoal ∈ AL := AL_in (T4 (List.mem_of_getElem? (i := 82) rfl)) rfl
theorem kX8_175 : Cond.methodLink RX8 175 yX4_dropGoal ∈ AL ∧ Cond.instanceMethod yX4_dropGoal ∈ AL ∧ Cond.selects mX4_dropGoal.1.cls yX4_dropGoal yX4_dropGoal ∈ AL := ⟨w4_80, w4_81, w4_82⟩
theorem w4_84 : Cond.methodLink RX4 91 yX4_isTrain ∈ AL := AL_in (T4 (List.mem_of_getElem? (i := 84) rfl)) rfl
theorem kX4_91 : Cond.methodLink RX4 91 yX4_isTrain ∈ AL ∧ Cond.instanceMethod yX4_isTrain ∈ AL ∧ Cond.selects mX4_isTrain.1.cls yX4_isTrain yX4_isTrain ∈ AL := ⟨w4_84, w4_32, w4_33⟩
theorem w4_85 : Cond.methodLink RL 248 yL_reserve ∈ AL := AL_in (T4 (List.mem_of_getElem? (i := 85) rfl)) rfl
theorem w4_86 : Cond.static yL_reserve ∈ AL := AL_in (T4 (List.mem_of_getElem? (i := 86) rfl)) rfl
theorem kL_248 : Cond.methodLink RL 248 yL_reserve ∈ AL ∧ Cond.static yL_reserve ∈ AL := ⟨w4_85, w4_86⟩
theorem w4_88 : Cond.methodLink RL 87 yX8_reserve ∈ AL := AL_in (T4 (List.mem_of_getElem? (i := 88) rfl)) rfl
theorem w4_89 : Cond.instanceMethod yX8_reserve ∈ AL := AL_in (T4 (List.mem_of_getElem? (i := 89) rfl)) rfl
theorem w4_90 : Cond.selects RX8 yX8_reserve yX8_reserve ∈ AL := AL_in (T4 (List.mem_of_getElem? (i := 90) rfl)) rfl
theorem kL_87 : Cond.methodLink RL 87 yX8_reserve ∈ AL ∧ Cond.instanceMethod yX8_reserve ∈ AL ∧ Cond.selects mX8_reserve.1.cls yX8_reserve yX8_reserve ∈ AL := ⟨w4_88, w4_89, w4_90⟩
theorem w4_92 : Cond.methodLink RX8 178 yX4_hold ∈ AL := AL_in (T4 (List.mem_of_getElem? (i := 92) rfl)) rfl
theorem w4_93 : Cond.instanceMethod yX4_hold ∈ AL := AL_in (T4 (List.mem_of_getElem? (i := 93) rfl)) rfl
theorem w4_94 : Cond.selects RX4 yX4_hold yX4_hold ∈ AL := AL_in (T4 (List.mem_of_getElem? (i := 94) rfl)) rfl
theorem kX8_178 : Cond.methodLink RX8 178 yX4_hold ∈ AL ∧ Cond.instanceMethod yX4_hold ∈ AL ∧ Cond.selects mX4_hold.1.cls yX4_hold yX4_hold ∈ AL := ⟨w4_92, w4_93, w4_94⟩
theorem w4_96 : Cond.methodLink RX4 94 yX4_countHolds ∈ AL := AL_in (T4 (List.mem_of_getElem? (i := 96) rfl)) rfl
theorem w4_98 : Cond.instanceMethod yX4_countHolds ∈ AL := AL_in (T4 (List.mem_of_getElem? (i := 98) rfl)) rfl
theorem w0_9 : Cond.selects RX4 yX4_countHolds yX4_countHolds ∈ AL := AL_in (T0 (List.mem_of_getElem? (i := 9) rfl)) rfl
theorem kX4_94 : Cond.methodLink RX4 94 yX4_countHolds ∈ AL ∧ Cond.instanceMethod yX4_countHolds ∈ AL ∧ Cond.selects mX4_countHolds.1.cls yX4_countHolds yX4_countHolds ∈ AL := ⟨w4_96, w4_98, w0_9⟩
theorem w4_100 : Cond.methodLink RL 251 yL_cancelReservation ∈ AL := AL_in (T4 (List.mem_of_getElem? (i := 100) rfl)) rfl
theorem w4_101 : Cond.static yL_cancelReservation ∈ AL := AL_in (T4 (List.mem_of_getElem? (i := 101) rfl)) rfl
theorem kL_251 : Cond.methodLink RL 251 yL_cancelReservation ∈ AL ∧ Cond.static yL_cancelReservation ∈ AL := ⟨w4_100, w4_101⟩
theorem w4_103 : Cond.methodLink RL 90 yX8_cancelReservation ∈ AL := AL_in (T4 (List.mem_of_getElem? (i := 103) rfl)) rfl
theorem w4_104 : Cond.instanceMethod yX8_cancelReservation ∈ AL := AL_in (T4 (List.mem_of_getElem? (i := 104) rfl)) rfl
theorem w4_105 : Cond.selects RX8 yX8_cancelReservation yX8_cancelReservation ∈ AL := AL_in (T4 (List.mem_of_getElem? (i := 105) rfl)) rfl
theorem kL_90 : Cond.methodLink RL 90 yX8_cancelReservation ∈ AL ∧ Cond.instanceMethod yX8_cancelReservation ∈ AL ∧ Cond.selects mX8_cancelReservation.1.cls yX8_cancelReservation yX8_cancelReservation ∈ AL := ⟨w4_103, w4_104, w4_105⟩
theorem w4_107 : Cond.methodLink RX8 181 yX4_release ∈ AL := AL_in (T4 (List.mem_of_getElem? (i := 107) rfl)) rfl
theorem w4_108 : Cond.instanceMethod yX4_release ∈ AL := AL_in (T4 (List.mem_of_getElem? (i := 108) rfl)) rfl
theorem w4_109 : Cond.selects RX4 yX4_release yX4_release ∈ AL := AL_in (T4 (List.mem_of_getElem? (i := 109) rfl)) rfl
theorem kX8_181 : Cond.methodLink RX8 181 yX4_release ∈ AL ∧ Cond.instanceMethod yX4_release ∈ AL ∧ Cond.selects mX4_release.1.cls yX4_release yX4_release ∈ AL := ⟨w4_107, w4_108, w4_109⟩
theorem w4_111 : Cond.methodLink RL 254 yL_rescue ∈ AL := AL_in (T4 (List.mem_of_getElem? (i := 111) rfl)) rfl
theorem w4_112 : Cond.static yL_rescue ∈ AL := AL_in (T4 (List.mem_of_getElem? (i := 112) rfl)) rfl
theorem kL_254 : Cond.methodLink RL 254 yL_rescue ∈ AL ∧ Cond.static yL_rescue ∈ AL := ⟨w4_111, w4_112⟩
theorem w4_114 : Cond.methodLink RL 93 yX8_rescue ∈ AL := AL_in (T4 (List.mem_of_getElem? (i := 114) rfl)) rfl
theorem w4_115 : Cond.instanceMethod yX8_rescue ∈ AL := AL_in (T4 (List.mem_of_getElem? (i := 115) rfl)) rfl
theorem w4_116 : Cond.selects RX8 yX8_rescue yX8_rescue ∈ AL := AL_in (T4 (List.mem_of_getElem? (i := 116) rfl)) rfl
theorem kL_93 : Cond.methodLink RL 93 yX8_rescue ∈ AL ∧ Cond.instanceMethod yX8_rescue ∈ AL ∧ Cond.selects mX8_rescue.1.cls yX8_rescue yX8_rescue ∈ AL := ⟨w4_114, w4_115, w4_116⟩
theorem w4_118 : Cond.methodLink RX8 184 yX4_rerail ∈ AL := AL_in (T4 (List.mem_of_getElem? (i := 118) rfl)) rfl
theorem w4_119 : Cond.instanceMethod yX4_rerail ∈ AL := AL_in (T4 (List.mem_of_getElem? (i := 119) rfl)) rfl
theorem w4_120 : Cond.selects RX4 yX4_rerail yX4_rerail ∈ AL := AL_in (T4 (List.mem_of_getElem? (i := 120) rfl)) rfl
theorem kX8_184 : Cond.methodLink RX8 184 yX4_rerail ∈ AL ∧ Cond.instanceMethod yX4_rerail ∈ AL ∧ Cond.selects mX4_rerail.1.cls yX4_rerail yX4_rerail ∈ AL := ⟨w4_118, w4_119, w4_120⟩
theorem w4_122 : Cond.methodLink RL 261 yL_blockOf ∈ AL := AL_in (T4 (List.mem_of_getElem? (i := 122) rfl)) rfl
theorem w4_123 : Cond.static yL_blockOf ∈ AL := AL_in (T4 (List.mem_of_getElem? (i := 123) rfl)) rfl
theorem kL_261 : Cond.methodLink RL 261 yL_blockOf ∈ AL ∧ Cond.static yL_blockOf ∈ AL := ⟨w4_122, w4_123⟩
theorem w4_125 : Cond.methodLink RL 96 yX8_blockOf ∈ AL := AL_in (T4 (List.mem_of_getElem? (i := 125) rfl)) rfl
theorem w4_126 : Cond.instanceMethod yX8_blockOf ∈ AL := AL_in (T4 (List.mem_of_getElem? (i := 126) rfl)) rfl
theorem w4_127 : Cond.selects RX8 yX8_blockOf yX8_blockOf ∈ AL := AL_in (T4 (List.mem_of_getElem? (i := 127) rfl)) rfl
theorem kL_96 : Cond.methodLink RL 96 yX8_blockOf ∈ AL ∧ Cond.instanceMethod yX8_blockOf ∈ AL ∧ Cond.selects mX8_blockOf.1.cls yX8_blockOf yX8_blockOf ∈ AL := ⟨w4_125, w4_126, w4_127⟩
theorem w4_129 : Cond.methodLink RL 264 yL_priority ∈ AL := AL_in (T4 (List.mem_of_getElem? (i := 129) rfl)) rfl
theorem w4_130 : Cond.static yL_priority ∈ AL := AL_in (T4 (List.mem_of_getElem? (i := 130) rfl)) rfl
theorem kL_264 : Cond.methodLink RL 264 yL_priority ∈ AL ∧ Cond.static yL_priority ∈ AL := ⟨w4_129, w4_130⟩
theorem w4_132 : Cond.methodLink RL 99 yX8_priority ∈ AL := AL_in (T4 (List.mem_of_getElem? (i := 132) rfl)) rfl
theorem w4_133 : Cond.instanceMethod yX8_priority ∈ AL := AL_in (T4 (List.mem_of_getElem? (i := 133) rfl)) rfl
theorem w4_134 : Cond.selects RX8 yX8_priority yX8_priority ∈ AL := AL_in (T4 (List.mem_of_getElem? (i := 134) rfl)) rfl
theorem kL_99 : Cond.methodLink RL 99 yX8_priority ∈ AL ∧ Cond.instanceMethod yX8_priority ∈ AL ∧ Cond.selects mX8_priority.1.cls yX8_priority yX8_priority ∈ AL := ⟨w4_132, w4_133, w4_134⟩
theorem w4_136 : Cond.methodLink RL 267 yL_remainingTicks ∈ AL := AL_in (T4 (List.mem_of_getElem? (i := 136) rfl)) rfl
theorem w4_137 : Cond.static yL_remainingTicks ∈ AL := AL_in (T4 (List.mem_of_getElem? (i := 137) rfl)) rfl
theorem kL_267 : Cond.methodLink RL 267 yL_remainingTicks ∈ AL ∧ Cond.static yL_remainingTicks ∈ AL := ⟨w4_136, w4_137⟩
theorem w4_139 : Cond.methodLink RL 102 yX8_remainingTicks ∈ AL := AL_in (T4 (List.mem_of_getElem? (i := 139) rfl)) rfl
theorem w4_140 : Cond.instanceMethod yX8_remainingTicks ∈ AL := AL_in (T4 (List.mem_of_getElem? (i := 140) rfl)) rfl
theorem w4_141 : Cond.selects RX8 yX8_remainingTicks yX8_remainingTicks ∈ AL := AL_in (T4 (List.mem_of_getElem? (i := 141) rfl)) rfl
theorem kL_102 : Cond.methodLink RL 102 yX8_remainingTicks ∈ AL ∧ Cond.instanceMethod yX8_remainingTicks ∈ AL ∧ Cond.selects mX8_remainingTicks.1.cls yX8_remainingTicks yX8_remainingTicks ∈ AL := ⟨w4_139, w4_140, w4_141⟩
theorem w4_143 : Cond.methodLink RL 270 yL_goal ∈ AL := AL_in (T4 (List.mem_of_getElem? (i := 143) rfl)) rfl
theorem w4_144 : Cond.static yL_goal ∈ AL := AL_in (T4 (List.mem_of_getElem? (i := 144) rfl)) rfl
theorem kL_270 : Cond.methodLink RL 270 yL_goal ∈ AL ∧ Cond.static yL_goal ∈ AL := ⟨w4_143, w4_144⟩
theorem w4_146 : Cond.methodLink RL 105 yX8_goal ∈ AL := AL_in (T4 (List.mem_of_getElem? (i := 146) rfl)) rfl
theorem w4_147 : Cond.instanceMethod yX8_goal ∈ AL := AL_in (T4 (List.mem_of_getElem? (i := 147) rfl)) rfl
theorem w4_148 : Cond.selects RX8 yX8_goal yX8_goal ∈ AL := AL_in (T4 (List.mem_of_getElem? (i := 148) rfl)) rfl
theorem kL_105 : Cond.methodLink RL 105 yX8_goal ∈ AL ∧ Cond.instanceMethod yX8_goal ∈ AL ∧ Cond.selects mX8_goal.1.cls yX8_goal yX8_goal ∈ AL := ⟨w4_146, w4_147, w4_148⟩
theorem w4_150 : Cond.methodLink RL 273 yL_isDerailed ∈ AL := AL_in (T4 (List.mem_of_getElem? (i := 150) rfl)) rfl
theorem w4_151 : Cond.static yL_isDerailed ∈ AL := AL_in (T4 (List.mem_of_getElem? (i := 151) rfl)) rfl
theorem kL_273 : Cond.methodLink RL 273 yL_isDerailed ∈ AL ∧ Cond.static yL_isDerailed ∈ AL := ⟨w4_150, w4_151⟩
theorem w4_153 : Cond.methodLink RL 108 yX8_isDerailed ∈ AL := AL_in (T4 (List.mem_of_getElem? (i := 153) rfl)) rfl
theorem w4_154 : Cond.instanceMethod yX8_isDerailed ∈ AL := AL_in (T4 (List.mem_of_getElem? (i := 154) rfl)) rfl
theorem w4_155 : Cond.selects RX8 yX8_isDerailed yX8_isDerailed ∈ AL := AL_in (T4 (List.mem_of_getElem? (i := 155) rfl)) rfl
theorem kL_108 : Cond.methodLink RL 108 yX8_isDerailed ∈ AL ∧ Cond.instanceMethod yX8_isDerailed ∈ AL ∧ Cond.selects mX8_isDerailed.1.cls yX8_isDerailed yX8_isDerailed ∈ AL := ⟨w4_153, w4_154, w4_155⟩
theorem w4_157 : Cond.methodLink RL 276 yL_waits ∈ AL := AL_in (T4 (List.mem_of_getElem? (i := 157) rfl)) rfl
theorem w4_158 : Cond.static yL_waits ∈ AL := AL_in (T4 (List.mem_of_getElem? (i := 158) rfl)) rfl
theorem kL_276 : Cond.methodLink RL 276 yL_waits ∈ AL ∧ Cond.static yL_waits ∈ AL := ⟨w4_157, w4_158⟩
theorem w4_160 : Cond.methodLink RL 111 yX8_waits ∈ AL := AL_in (T4 (List.mem_of_getElem? (i := 160) rfl)) rfl
theorem w4_161 : Cond.instanceMethod yX8_waits ∈ AL := AL_in (T4 (List.mem_of_getElem? (i := 161) rfl)) rfl
theorem w4_162 : Cond.selects RX8 yX8_waits yX8_waits ∈ AL := AL_in (T4 (List.mem_of_getElem? (i := 162) rfl)) rfl
theorem kL_111 : Cond.methodLink RL 111 yX8_waits ∈ AL ∧ Cond.instanceMethod yX8_waits ∈ AL ∧ Cond.selects mX8_waits.1.cls yX8_waits yX8_waits ∈ AL := ⟨w4_160, w4_161, w4_162⟩
theorem w4_164 : Cond.methodLink RL 279 yL_trainByPriority ∈ AL := AL_in (T4 (List.mem_of_getElem? (i := 164) rfl)) rfl
theorem w4_165 : Cond.static yL_trainByPriority ∈ AL := AL_in (T4 (List.mem_of_getElem? (i := 165) rfl)) rfl
theorem kL_279 : Cond.methodLink RL 279 yL_trainByPriority ∈ AL ∧ Cond.static yL_trainByPriority ∈ AL := ⟨w4_164, w4_165⟩
theorem w4_167 : Cond.methodLink RL 114 yX8_trainByPriority ∈ AL := AL_in (T4 (List.mem_of_getElem? (i := 167) rfl)) rfl
theorem w4_168 : Cond.instanceMethod yX8_trainByPriority ∈ AL := AL_in (T4 (List.mem_of_getElem? (i := 168) rfl)) rfl
theorem w4_169 : Cond.selects RX8 yX8_trainByPriority yX8_trainByPriority ∈ AL := AL_in (T4 (List.mem_of_getElem? (i := 169) rfl)) rfl
theorem kL_114 : Cond.methodLink RL 114 yX8_trainByPriority ∈ AL ∧ Cond.instanceMethod yX8_trainByPriority ∈ AL ∧ Cond.selects mX8_trainByPriority.1.cls yX8_trainByPriority yX8_trainByPriority ∈ AL := ⟨w4_167, w4_168, w4_169⟩
theorem w4_171 : Cond.methodLink RX8 208 yX4_trainAtRank ∈ AL := AL_in (T4 (List.mem_of_getElem? (i := 171) rfl)) rfl
theorem w4_172 : Cond.instanceMethod yX4_trainAtRank ∈ AL := AL_in (T4 (List.mem_of_getElem? (i := 172) rfl)) rfl
theorem w4_173 : Cond.selects RX4 yX4_trainAtRank yX4_trainAtRank ∈ AL := AL_in (T4 (List.mem_of_getElem? (i := 173) rfl)) rfl
theorem kX8_208 : Cond.methodLink RX8 208 yX4_trainAtRank ∈ AL ∧ Cond.instanceMethod yX4_trainAtRank ∈ AL ∧ Cond.selects mX4_trainAtRank.1.cls yX4_trainAtRank yX4_trainAtRank ∈ AL := ⟨w4_171, w4_172, w4_173⟩
theorem w4_175 : Cond.methodLink RL 282 yL_blockedBy ∈ AL := AL_in (T4 (List.mem_of_getElem? (i := 175) rfl)) rfl
theorem w4_176 : Cond.static yL_blockedBy ∈ AL := AL_in (T4 (List.mem_of_getElem? (i := 176) rfl)) rfl
theorem kL_282 : Cond.methodLink RL 282 yL_blockedBy ∈ AL ∧ Cond.static yL_blockedBy ∈ AL := ⟨w4_175, w4_176⟩
theorem w4_178 : Cond.methodLink RL 117 yX8_blockedBy ∈ AL := AL_in (T4 (List.mem_of_getElem? (i := 178) rfl)) rfl
theorem w4_179 : Cond.instanceMethod yX8_blockedBy ∈ AL := AL_in (T4 (List.mem_of_getElem? (i := 179) rfl)) rfl
theorem w4_180 : Cond.selects RX8 yX8_blockedBy yX8_blockedBy ∈ AL := AL_in (T4 (List.mem_of_getElem? (i := 180) rfl)) rfl
theorem kL_117 : Cond.methodLink RL 117 yX8_blockedBy ∈ AL ∧ Cond.instanceMethod yX8_blockedBy ∈ AL ∧ Cond.selects mX8_blockedBy.1.cls yX8_blockedBy yX8_blockedBy ∈ AL := ⟨w4_178, w4_179, w4_180⟩
theorem w4_182 : Cond.methodLink RX8 211 yX7_blockerOf ∈ AL := AL_in (T4 (List.mem_of_getElem? (i := 182) rfl)) rfl
theorem kX8_211 : Cond.methodLink RX8 211 yX7_blockerOf ∈ AL ∧ Cond.instanceMethod yX7_blockerOf ∈ AL ∧ Cond.selects mX7_blockerOf.1.cls yX7_blockerOf yX7_blockerOf ∈ AL := ⟨w4_182, w2_68, w2_69⟩
theorem w4_183 : Cond.methodLink RL 293 yL_passTicks ∈ AL := AL_in (T4 (List.mem_of_getElem? (i := 183) rfl)) rfl
theorem w4_184 : Cond.static yL_passTicks ∈ AL := AL_in (T4 (List.mem_of_getElem? (i := 184) rfl)) rfl
theorem kL_293 : Cond.methodLink RL 293 yL_passTicks ∈ AL ∧ Cond.static yL_passTicks ∈ AL := ⟨w4_183, w4_184⟩
theorem w4_186 : Cond.methodLink RL 120 yX8_passTicks ∈ AL := AL_in (T4 (List.mem_of_getElem? (i := 186) rfl)) rfl
theorem w4_187 : Cond.instanceMethod yX8_passTicks ∈ AL := AL_in (T4 (List.mem_of_getElem? (i := 187) rfl)) rfl
theorem w4_188 : Cond.selects RX8 yX8_passTicks yX8_passTicks ∈ AL := AL_in (T4 (List.mem_of_getElem? (i := 188) rfl)) rfl
theorem kL_120 : Cond.methodLink RL 120 yX8_passTicks ∈ AL ∧ Cond.instanceMethod yX8_passTicks ∈ AL ∧ Cond.selects mX8_passTicks.1.cls yX8_passTicks yX8_passTicks ∈ AL := ⟨w4_186, w4_187, w4_188⟩
theorem w4_190 : Cond.methodLink RX8 220 yX7_letPass ∈ AL := AL_in (T4 (List.mem_of_getElem? (i := 190) rfl)) rfl
theorem w4_191 : Cond.instanceMethod yX7_letPass ∈ AL := AL_in (T4 (List.mem_of_getElem? (i := 191) rfl)) rfl
theorem w4_192 : Cond.selects RX7 yX7_letPass yX7_letPass ∈ AL := AL_in (T4 (List.mem_of_getElem? (i := 192) rfl)) rfl
theorem kX8_220 : Cond.methodLink RX8 220 yX7_letPass ∈ AL ∧ Cond.instanceMethod yX7_letPass ∈ AL ∧ Cond.selects mX7_letPass.1.cls yX7_letPass yX7_letPass ∈ AL := ⟨w4_190, w4_191, w4_192⟩
theorem w4_194 : Cond.methodLink RX7 61 yX4_trainAtRank ∈ AL := AL_in (T4 (List.mem_of_getElem? (i := 194) rfl)) rfl
theorem kX7_61 : Cond.methodLink RX7 61 yX4_trainAtRank ∈ AL ∧ Cond.instanceMethod yX4_trainAtRank ∈ AL ∧ Cond.selects mX4_trainAtRank.1.cls yX4_trainAtRank yX4_trainAtRank ∈ AL := ⟨w4_194, w4_172, w4_173⟩
theorem w4_195 : Cond.methodLink RX7 65 yX7_consider ∈ AL := AL_in (T4 (List.mem_of_getElem? (i := 195) rfl)) rfl
theorem w4_197 : Cond.instanceMethod yX7_consider ∈ AL := AL_in (T4 (List.mem_of_getElem? (i := 197) rfl)) rfl
theorem w0_10 : Cond.selects RX7 yX7_consider yX7_consider ∈ AL := AL_in (T0 (List.mem_of_getElem? (i := 10) rfl)) rfl
theorem kX7_65 : Cond.methodLink RX7 65 yX7_consider ∈ AL ∧ Cond.instanceMethod yX7_consider ∈ AL ∧ Cond.selects mX7_consider.1.cls yX7_consider yX7_consider ∈ AL := ⟨w4_195, w4_197, w0_10⟩
theorem w4_199 : Cond.methodLink RX7 81 yX4_letsIn ∈ AL := AL_in (T4 (List.mem_of_getElem? (i := 199) rfl)) rfl
theorem w4_200 : Cond.instanceMethod yX4_letsIn ∈ AL := AL_in (T4 (List.mem_of_getElem? (i := 200) rfl)) rfl
theorem w4_201 : Cond.selects RX4 yX4_letsIn yX4_letsIn ∈ AL := AL_in (T4 (List.mem_of_getElem? (i := 201) rfl)) rfl
theorem kX7_81 : Cond.methodLink RX7 81 yX4_letsIn ∈ AL ∧ Cond.instanceMethod yX4_letsIn ∈ AL ∧ Cond.selects mX4_letsIn.1.cls yX4_letsIn yX4_letsIn ∈ AL := ⟨w4_199, w4_200, w4_201⟩
theorem w4_203 : Cond.methodLink RX7 84 yX4_moveTrain ∈ AL := AL_in (T4 (List.mem_of_getElem? (i := 203) rfl)) rfl
theorem w4_204 : Cond.instanceMethod yX4_moveTrain ∈ AL := AL_in (T4 (List.mem_of_getElem? (i := 204) rfl)) rfl
theorem w4_205 : Cond.selects RX4 yX4_moveTrain yX4_moveTrain ∈ AL := AL_in (T4 (List.mem_of_getElem? (i := 205) rfl)) rfl
theorem kX7_84 : Cond.methodLink RX7 84 yX4_moveTrain ∈ AL ∧ Cond.instanceMethod yX4_moveTrain ∈ AL ∧ Cond.selects mX4_moveTrain.1.cls yX4_moveTrain yX4_moveTrain ∈ AL := ⟨w4_203, w4_204, w4_205⟩
theorem w4_207 : Cond.methodLink RL 304 yL_ticksUntilArrival ∈ AL := AL_in (T4 (List.mem_of_getElem? (i := 207) rfl)) rfl
theorem w4_208 : Cond.static yL_ticksUntilArrival ∈ AL := AL_in (T4 (List.mem_of_getElem? (i := 208) rfl)) rfl
theorem kL_304 : Cond.methodLink RL 304 yL_ticksUntilArrival ∈ AL ∧ Cond.static yL_ticksUntilArrival ∈ AL := ⟨w4_207, w4_208⟩
theorem w4_210 : Cond.methodLink RL 123 yX8_ticksUntilArrival ∈ AL := AL_in (T4 (List.mem_of_getElem? (i := 210) rfl)) rfl
theorem w4_211 : Cond.instanceMethod yX8_ticksUntilArrival ∈ AL := AL_in (T4 (List.mem_of_getElem? (i := 211) rfl)) rfl
theorem w4_212 : Cond.selects RX8 yX8_ticksUntilArrival yX8_ticksUntilArrival ∈ AL := AL_in (T4 (List.mem_of_getElem? (i := 212) rfl)) rfl
theorem kL_123 : Cond.methodLink RL 123 yX8_ticksUntilArrival ∈ AL ∧ Cond.instanceMethod yX8_ticksUntilArrival ∈ AL ∧ Cond.selects mX8_ticksUntilArrival.1.cls yX8_ticksUntilArrival yX8_ticksUntilArrival ∈ AL := ⟨w4_210, w4_211, w4_212⟩
theorem w4_215 : Cond.methodLink RX8 239 yX7_ticksToGoal ∈ AL := AL_in (T4 (List.mem_of_getElem? (i := 215) rfl)) rfl
theorem w4_216 : Cond.instanceMethod yX7_ticksToGoal ∈ AL := AL_in (T4 (List.mem_of_getElem? (i := 216) rfl)) rfl
theorem w4_217 : Cond.selects RX7 yX7_ticksToGoal yX7_ticksToGoal ∈ AL := AL_in (T4 (List.mem_of_getElem? (i := 217) rfl)) rfl
theorem kX8_239 : Cond.methodLink RX8 239 yX7_ticksToGoal ∈ AL ∧ Cond.instanceMethod yX7_ticksToGoal ∈ AL ∧ Cond.selects mX7_ticksToGoal.1.cls yX7_ticksToGoal yX7_ticksToGoal ∈ AL := ⟨w4_215, w4_216, w4_217⟩
theorem w4_219 : Cond.methodLink RX7 91 yX7_letPass ∈ AL := AL_in (T4 (List.mem_of_getElem? (i := 219) rfl)) rfl
theorem kX7_91 : Cond.methodLink RX7 91 yX7_letPass ∈ AL ∧ Cond.instanceMethod yX7_letPass ∈ AL ∧ Cond.selects mX7_letPass.1.cls yX7_letPass yX7_letPass ∈ AL := ⟨w4_219, w4_191, w4_192⟩
theorem w4_220 : Cond.methodLink RL 307 yL_meanWaits ∈ AL := AL_in (T4 (List.mem_of_getElem? (i := 220) rfl)) rfl
theorem w4_221 : Cond.static yL_meanWaits ∈ AL := AL_in (T4 (List.mem_of_getElem? (i := 221) rfl)) rfl
theorem kL_307 : Cond.methodLink RL 307 yL_meanWaits ∈ AL ∧ Cond.static yL_meanWaits ∈ AL := ⟨w4_220, w4_221⟩
theorem w4_237 : Cond.methodLink RL 126 yX8_meanWaits ∈ AL := AL_in (T4 (List.mem_of_getElem? (i := 237) rfl)) rfl
theorem w4_238 : Cond.instanceMethod yX8_meanWaits ∈ AL := AL_in (T4 (List.mem_of_getElem? (i := 238) rfl)) rfl
theorem w4_239 : Cond.selects RX8 yX8_meanWaits yX8_meanWaits ∈ AL := AL_in (T4 (List.mem_of_getElem? (i := 239) rfl)) rfl
theorem kL_126 : Cond.methodLink RL 126 yX8_meanWaits ∈ AL ∧ Cond.instanceMethod yX8_meanWaits ∈ AL ∧ Cond.selects mX8_meanWaits.1.cls yX8_meanWaits yX8_meanWaits ∈ AL := ⟨w4_237, w4_238, w4_239⟩
theorem w5_4 : Cond.methodLink RX8 247 yX4_allWaits ∈ AL := AL_in (T5 (List.mem_of_getElem? (i := 4) rfl)) rfl
theorem w5_5 : Cond.instanceMethod yX4_allWaits ∈ AL := AL_in (T5 (List.mem_of_getElem? (i := 5) rfl)) rfl
theorem w5_6 : Cond.selects RX4 yX4_allWaits yX4_allWaits ∈ AL := AL_in (T5 (List.mem_of_getElem? (i := 6) rfl)) rfl
theorem kX8_247 : Cond.methodLink RX8 247 yX4_allWaits ∈ AL ∧ Cond.instanceMethod yX4_allWaits ∈ AL ∧ Cond.selects mX4_allWaits.1.cls yX4_allWaits yX4_allWaits ∈ AL := ⟨w5_4, w5_5, w5_6⟩
theorem w5_8 : Cond.methodLink RL 311 yL_occupiedFraction ∈ AL := AL_in (T5 (List.mem_of_getElem? (i := 8) rfl)) rfl
theorem w5_9 : Cond.static yL_occupiedFraction ∈ AL := AL_in (T5 (List.mem_of_getElem? (i := 9) rfl)) rfl
theorem kL_311 : Cond.methodLink RL 311 yL_occupiedFraction ∈ AL ∧ Cond.static yL_occupiedFraction ∈ AL := ⟨w5_8, w5_9⟩
theorem w5_11 : Cond.methodLink RL 132 yX8_occupiedFraction ∈ AL := AL_in (T5 (List.mem_of_getElem? (i := 11) rfl)) rfl
theorem w5_12 : Cond.instanceMethod yX8_occupiedFraction ∈ AL := AL_in (T5 (List.mem_of_getElem? (i := 12) rfl)) rfl
theorem w5_13 : Cond.selects RX8 yX8_occupiedFraction yX8_occupiedFraction ∈ AL := AL_in (T5 (List.mem_of_getElem? (i := 13) rfl)) rfl
theorem kL_132 : Cond.methodLink RL 132 yX8_occupiedFraction ∈ AL ∧ Cond.instanceMethod yX8_occupiedFraction ∈ AL ∧ Cond.selects mX8_occupiedFraction.1.cls yX8_occupiedFraction yX8_occupiedFraction ∈ AL := ⟨w5_11, w5_12, w5_13⟩
theorem w5_16 : Cond.methodLink RL 314 yL_writeTrain ∈ AL := AL_in (T5 (List.mem_of_getElem? (i := 16) rfl)) rfl
theorem w5_17 : Cond.static yL_writeTrain ∈ AL := AL_in (T5 (List.mem_of_getElem? (i := 17) rfl)) rfl
theorem kL_314 : Cond.methodLink RL 314 yL_writeTrain ∈ AL ∧ Cond.static yL_writeTrain ∈ AL := ⟨w5_16, w5_17⟩
theorem w5_19 : Cond.methodLink RL 136 yX8_writeTrain ∈ AL := AL_in (T5 (List.mem_of_getElem? (i := 19) rfl)) rfl
theorem w5_20 : Cond.instanceMethod yX8_writeTrain ∈ AL := AL_in (T5 (List.mem_of_getElem? (i := 20) rfl)) rfl
theorem w5_21 : Cond.selects RX8 yX8_writeTrain yX8_writeTrain ∈ AL := AL_in (T5 (List.mem_of_getElem? (i := 21) rfl)) rfl
theorem kL_136 : Cond.methodLink RL 136 yX8_writeTrain ∈ AL ∧ Cond.instanceMethod yX8_writeTrain ∈ AL ∧ Cond.selects mX8_writeTrain.1.cls yX8_writeTrain yX8_writeTrain ∈ AL := ⟨w5_19, w5_20, w5_21⟩
theorem w5_23 : Cond.methodLink RX8 256 yX5_putMarked ∈ AL := AL_in (T5 (List.mem_of_getElem? (i := 23) rfl)) rfl
theorem w5_24 : Cond.instanceMethod yX5_putMarked ∈ AL := AL_in (T5 (List.mem_of_getElem? (i := 24) rfl)) rfl
theorem w5_25 : Cond.selects RX5 yX5_putMarked yX5_putMarked ∈ AL := AL_in (T5 (List.mem_of_getElem? (i := 25) rfl)) rfl
theorem kX8_256 : Cond.methodLink RX8 256 yX5_putMarked ∈ AL ∧ Cond.instanceMethod yX5_putMarked ∈ AL ∧ Cond.selects mX5_putMarked.1.cls yX5_putMarked yX5_putMarked ∈ AL := ⟨w5_23, w5_24, w5_25⟩
theorem w5_27 : Cond.methodLink RX5 19 yX5_put ∈ AL := AL_in (T5 (List.mem_of_getElem? (i := 27) rfl)) rfl
theorem kX5_19 : Cond.methodLink RX5 19 yX5_put ∈ AL ∧ Cond.instanceMethod yX5_put ∈ AL ∧ Cond.selects mX5_put.1.cls yX5_put yX5_put ∈ AL := ⟨w5_27, w2_126, w2_127⟩
theorem w5_28 : Cond.methodLink RL 321 yL_outputCharacter ∈ AL := AL_in (T5 (List.mem_of_getElem? (i := 28) rfl)) rfl
theorem w5_29 : Cond.static yL_outputCharacter ∈ AL := AL_in (T5 (List.mem_of_getElem? (i := 29) rfl)) rfl
theorem kL_321 : Cond.methodLink RL 321 yL_outputCharacter ∈ AL ∧ Cond.static yL_outputCharacter ∈ AL := ⟨w5_28, w5_29⟩
theorem w5_31 : Cond.methodLink RL 139 yX8_outputCharacter ∈ AL := AL_in (T5 (List.mem_of_getElem? (i := 31) rfl)) rfl
theorem w5_32 : Cond.instanceMethod yX8_outputCharacter ∈ AL := AL_in (T5 (List.mem_of_getElem? (i := 32) rfl)) rfl
theorem w5_33 : Cond.selects RX8 yX8_outputCharacter yX8_outputCharacter ∈ AL := AL_in (T5 (List.mem_of_getElem? (i := 33) rfl)) rfl
theorem kL_139 : Cond.methodLink RL 139 yX8_outputCharacter ∈ AL ∧ Cond.instanceMethod yX8_outputCharacter ∈ AL ∧ Cond.selects mX8_outputCharacter.1.cls yX8_outputCharacter yX8_outputCharacter ∈ AL := ⟨w5_31, w5_32, w5_33⟩
theorem w5_36 : Cond.methodLink RL 329 yL_feed ∈ AL := AL_in (T5 (List.mem_of_getElem? (i := 36) rfl)) rfl
theorem w5_37 : Cond.static yL_feed ∈ AL := AL_in (T5 (List.mem_of_getElem? (i := 37) rfl)) rfl
theorem kL_329 : Cond.methodLink RL 329 yL_feed ∈ AL ∧ Cond.static yL_feed ∈ AL := ⟨w5_36, w5_37⟩
theorem w5_39 : Cond.methodLink RL 142 yX8_feed ∈ AL := AL_in (T5 (List.mem_of_getElem? (i := 39) rfl)) rfl
theorem w5_40 : Cond.instanceMethod yX8_feed ∈ AL := AL_in (T5 (List.mem_of_getElem? (i := 40) rfl)) rfl
theorem w5_41 : Cond.selects RX8 yX8_feed yX8_feed ∈ AL := AL_in (T5 (List.mem_of_getElem? (i := 41) rfl)) rfl
theorem kL_142 : Cond.methodLink RL 142 yX8_feed ∈ AL ∧ Cond.instanceMethod yX8_feed ∈ AL ∧ Cond.selects mX8_feed.1.cls yX8_feed yX8_feed ∈ AL := ⟨w5_39, w5_40, w5_41⟩
theorem w5_43 : Cond.methodLink RX8 280 yX2_append ∈ AL := AL_in (T5 (List.mem_of_getElem? (i := 43) rfl)) rfl
theorem w5_44 : Cond.instanceMethod yX2_append ∈ AL := AL_in (T5 (List.mem_of_getElem? (i := 44) rfl)) rfl
theorem w5_45 : Cond.selects RX2 yX2_append yX2_append ∈ AL := AL_in (T5 (List.mem_of_getElem? (i := 45) rfl)) rfl
theorem kX8_280 : Cond.methodLink RX8 280 yX2_append ∈ AL ∧ Cond.instanceMethod yX2_append ∈ AL ∧ Cond.selects mX2_append.1.cls yX2_append yX2_append ∈ AL := ⟨w5_43, w5_44, w5_45⟩
theorem w5_48 : Cond.methodLink RL 333 yL_execute ∈ AL := AL_in (T5 (List.mem_of_getElem? (i := 48) rfl)) rfl
theorem w5_49 : Cond.static yL_execute ∈ AL := AL_in (T5 (List.mem_of_getElem? (i := 49) rfl)) rfl
theorem kL_333 : Cond.methodLink RL 333 yL_execute ∈ AL ∧ Cond.static yL_execute ∈ AL := ⟨w5_48, w5_49⟩
theorem w5_51 : Cond.methodLink RL 146 yX8_execute ∈ AL := AL_in (T5 (List.mem_of_getElem? (i := 51) rfl)) rfl
theorem w5_52 : Cond.instanceMethod yX8_execute ∈ AL := AL_in (T5 (List.mem_of_getElem? (i := 52) rfl)) rfl
theorem w5_53 : Cond.selects RX8 yX8_execute yX8_execute ∈ AL := AL_in (T5 (List.mem_of_getElem? (i := 53) rfl)) rfl
theorem kL_146 : Cond.methodLink RL 146 yX8_execute ∈ AL ∧ Cond.instanceMethod yX8_execute ∈ AL ∧ Cond.selects mX8_execute.1.cls yX8_execute yX8_execute ∈ AL := ⟨w5_51, w5_52, w5_53⟩
theorem w5_55 : Cond.methodLink RX8 290 yX2_findError ∈ AL := AL_in (T5 (List.mem_of_getElem? (i := 55) rfl)) rfl
theorem w5_56 : Cond.instanceMethod yX2_findError ∈ AL := AL_in (T5 (List.mem_of_getElem? (i := 56) rfl)) rfl
theorem w5_57 : Cond.selects RX2 yX2_findError yX2_findError ∈ AL := AL_in (T5 (List.mem_of_getElem? (i := 57) rfl)) rfl
theorem kX8_290 : Cond.methodLink RX8 290 yX2_findError ∈ AL ∧ Cond.instanceMethod yX2_findError ∈ AL ∧ Cond.selects mX2_findError.1.cls yX2_findError yX2_findError ∈ AL := ⟨w5_55, w5_56, w5_57⟩
theorem w5_59 : Cond.methodLink RX2 41 yX2_rewind ∈ AL := AL_in (T5 (List.mem_of_getElem? (i := 59) rfl)) rfl
theorem w5_60 : Cond.instanceMethod yX2_rewind ∈ AL := AL_in (T5 (List.mem_of_getElem? (i := 60) rfl)) rfl
theorem w5_61 : Cond.selects RX2 yX2_rewind yX2_rewind ∈ AL := AL_in (T5 (List.mem_of_getElem? (i := 61) rfl)) rfl
theorem kX2_41 : Cond.methodLink RX2 41 yX2_rewind ∈ AL ∧ Cond.instanceMethod yX2_rewind ∈ AL ∧ Cond.selects mX2_rewind.1.cls yX2_rewind yX2_rewind ∈ AL := ⟨w5_59, w5_60, w5_61⟩
theorem w5_63 : Cond.methodLink RX2 44 yX2_readCommand ∈ AL := AL_in (T5 (List.mem_of_getElem? (i := 63) rfl)) rfl
theorem w5_64 : Cond.instanceMethod yX2_readCommand ∈ AL := AL_in (T5 (List.mem_of_getElem? (i := 64) rfl)) rfl
theorem w5_65 : Cond.selects RX2 yX2_readCommand yX2_readCommand ∈ AL := AL_in (T5 (List.mem_of_getElem? (i := 65) rfl)) rfl
theorem kX2_44 : Cond.methodLink RX2 44 yX2_readCommand ∈ AL ∧ Cond.instanceMethod yX2_readCommand ∈ AL ∧ Cond.selects mX2_readCommand.1.cls yX2_readCommand yX2_readCommand ∈ AL := ⟨w5_63, w5_64, w5_65⟩
theorem w5_69 : Cond.methodLink RX2 56 yX2_match ∈ AL := AL_in (T5 (List.mem_of_getElem? (i := 69) rfl)) rfl
theorem w5_71 : Cond.instanceMethod yX2_match ∈ AL := AL_in (T5 (List.mem_of_getElem? (i := 71) rfl)) rfl
theorem w0_11 : Cond.selects RX2 yX2_match yX2_match ∈ AL := AL_in (T0 (List.mem_of_getElem? (i := 11) rfl)) rfl
theorem kX2_56 : Cond.methodLink RX2 56 yX2_match ∈ AL ∧ Cond.instanceMethod yX2_match ∈ AL ∧ Cond.selects mX2_match.1.cls yX2_match yX2_match ∈ AL := ⟨w5_69, w5_71, w0_11⟩
theorem w5_73 : Cond.methodLink RX2 70 yJ0_length_8abf5 ∈ AL := AL_in (T5 (List.mem_of_getElem? (i := 73) rfl)) rfl
theorem w5_74 : Cond.instanceMethod yJ0_length_8abf5 ∈ AL := AL_in (T5 (List.mem_of_getElem? (i := 74) rfl)) rfl
theorem w5_75 : Cond.selects RJ0 yJ0_length_8abf5 yJ0_length_8abf5 ∈ AL := AL_in (T5 (List.mem_of_getElem? (i := 75) rfl)) rfl
theorem kX2_70 : Cond.methodLink RX2 70 yJ0_length_8abf5 ∈ AL ∧ Cond.instanceMethod yJ0_length_8abf5 ∈ AL ∧ Cond.selects mJ0_length_8abf5.1.cls yJ0_length_8abf5 yJ0_length_8abf5 ∈ AL := ⟨w5_73, w5_74, w5_75⟩
theorem w5_77 : Cond.methodLink RJ0 335 yJ0_coder_7d493 ∈ AL := AL_in (T5 (List.mem_of_getElem? (i := 77) rfl)) rfl
theorem w5_78 : Cond.instanceMethod yJ0_coder_7d493 ∈ AL := AL_in (T5 (List.mem_of_getElem? (i := 78) rfl)) rfl
theorem w5_79 : Cond.selects RJ0 yJ0_coder_7d493 yJ0_coder_7d493 ∈ AL := AL_in (T5 (List.mem_of_getElem? (i := 79) rfl)) rfl
theorem kJ0_335 : Cond.methodLink RJ0 335 yJ0_coder_7d493 ∈ AL ∧ Cond.instanceMethod yJ0_coder_7d493 ∈ AL ∧ Cond.selects mJ0_coder_7d493.1.cls yJ0_coder_7d493 yJ0_coder_7d493 ∈ AL := ⟨w5_77, w5_78, w5_79⟩
theorem w5_83 : Cond.methodLink RX2 76 yJ0_charAt_5068e ∈ AL := AL_in (T5 (List.mem_of_getElem? (i := 83) rfl)) rfl
theorem w5_84 : Cond.instanceMethod yJ0_charAt_5068e ∈ AL := AL_in (T5 (List.mem_of_getElem? (i := 84) rfl)) rfl
theorem w5_85 : Cond.selects RJ0 yJ0_charAt_5068e yJ0_charAt_5068e ∈ AL := AL_in (T5 (List.mem_of_getElem? (i := 85) rfl)) rfl
theorem kX2_76 : Cond.methodLink RX2 76 yJ0_charAt_5068e ∈ AL ∧ Cond.instanceMethod yJ0_charAt_5068e ∈ AL ∧ Cond.selects mJ0_charAt_5068e.1.cls yJ0_charAt_5068e yJ0_charAt_5068e ∈ AL := ⟨w5_83, w5_84, w5_85⟩
theorem w5_87 : Cond.methodLink RJ0 492 yJ0_isLatin1_aae02 ∈ AL := AL_in (T5 (List.mem_of_getElem? (i := 87) rfl)) rfl
theorem w5_88 : Cond.instanceMethod yJ0_isLatin1_aae02 ∈ AL := AL_in (T5 (List.mem_of_getElem? (i := 88) rfl)) rfl
theorem w5_89 : Cond.selects RJ0 yJ0_isLatin1_aae02 yJ0_isLatin1_aae02 ∈ AL := AL_in (T5 (List.mem_of_getElem? (i := 89) rfl)) rfl
theorem kJ0_492 : Cond.methodLink RJ0 492 yJ0_isLatin1_aae02 ∈ AL ∧ Cond.instanceMethod yJ0_isLatin1_aae02 ∈ AL ∧ Cond.selects mJ0_isLatin1_aae02.1.cls yJ0_isLatin1_aae02 yJ0_isLatin1_aae02 ∈ AL := ⟨w5_87, w5_88, w5_89⟩
theorem w5_91 : Cond.methodLink RJ0 495 yJ1_charAt_3b067 ∈ AL := AL_in (T5 (List.mem_of_getElem? (i := 91) rfl)) rfl
theorem w5_92 : Cond.static yJ1_charAt_3b067 ∈ AL := AL_in (T5 (List.mem_of_getElem? (i := 92) rfl)) rfl
theorem kJ0_495 : Cond.methodLink RJ0 495 yJ1_charAt_3b067 ∈ AL ∧ Cond.static yJ1_charAt_3b067 ∈ AL := ⟨w5_91, w5_92⟩
theorem w5_94 : Cond.methodLink RJ1 9 yJ0_checkIndex_df160 ∈ AL := AL_in (T5 (List.mem_of_getElem? (i := 94) rfl)) rfl
theorem w5_95 : Cond.static yJ0_checkIndex_df160 ∈ AL := AL_in (T5 (List.mem_of_getElem? (i := 95) rfl)) rfl
theorem kJ1_9 : Cond.methodLink RJ1 9 yJ0_checkIndex_df160 ∈ AL ∧ Cond.static yJ0_checkIndex_df160 ∈ AL := ⟨w5_94, w5_95⟩
theorem w5_99 : Cond.methodLink RJ0 1059 yJ3_checkIndex_8e157 ∈ AL := AL_in (T5 (List.mem_of_getElem? (i := 99) rfl)) rfl
theorem w5_100 : Cond.static yJ3_checkIndex_8e157 ∈ AL := AL_in (T5 (List.mem_of_getElem? (i := 100) rfl)) rfl
theorem kJ0_1059 : Cond.methodLink RJ0 1059 yJ3_checkIndex_8e157 ∈ AL ∧ Cond.static yJ3_checkIndex_8e157 ∈ AL := ⟨w5_99, w5_100⟩
theorem w5_102 : Cond.methodLink RJ0 498 yJ2_charAt_3b067 ∈ AL := AL_in (T5 (List.mem_of_getElem? (i := 102) rfl)) rfl
theorem w5_103 : Cond.static yJ2_charAt_3b067 ∈ AL := AL_in (T5 (List.mem_of_getElem? (i := 103) rfl)) rfl
theorem kJ0_498 : Cond.methodLink RJ0 498 yJ2_charAt_3b067 ∈ AL ∧ Cond.static yJ2_charAt_3b067 ∈ AL := ⟨w5_102, w5_103⟩
theorem w5_105 : Cond.methodLink RJ2 67 yJ2_checkIndex_2214a ∈ AL := AL_in (T5 (List.mem_of_getElem? (i := 105) rfl)) rfl
theorem w5_106 : Cond.static yJ2_checkIndex_2214a ∈ AL := AL_in (T5 (List.mem_of_getElem? (i := 106) rfl)) rfl
theorem kJ2_67 : Cond.methodLink RJ2 67 yJ2_checkIndex_2214a ∈ AL ∧ Cond.static yJ2_checkIndex_2214a ∈ AL := ⟨w5_105, w5_106⟩
theorem w5_108 : Cond.methodLink RJ2 48 yJ2_length_9d52b ∈ AL := AL_in (T5 (List.mem_of_getElem? (i := 108) rfl)) rfl
theorem w5_109 : Cond.static yJ2_length_9d52b ∈ AL := AL_in (T5 (List.mem_of_getElem? (i := 109) rfl)) rfl
theorem kJ2_48 : Cond.methodLink RJ2 48 yJ2_length_9d52b ∈ AL ∧ Cond.static yJ2_length_9d52b ∈ AL := ⟨w5_108, w5_109⟩
theorem w5_111 : Cond.methodLink RJ2 414 yJ0_checkIndex_df160 ∈ AL := AL_in (T5 (List.mem_of_getElem? (i := 111) rfl)) rfl
theorem kJ2_414 : Cond.methodLink RJ2 414 yJ0_checkIndex_df160 ∈ AL ∧ Cond.static yJ0_checkIndex_df160 ∈ AL := ⟨w5_111, w5_95⟩
theorem w5_112 : Cond.methodLink RJ2 71 yJ2_getChar_3b067 ∈ AL := AL_in (T5 (List.mem_of_getElem? (i := 112) rfl)) rfl
theorem w5_113 : Cond.static yJ2_getChar_3b067 ∈ AL := AL_in (T5 (List.mem_of_getElem? (i := 113) rfl)) rfl
theorem kJ2_71 : Cond.methodLink RJ2 71 yJ2_getChar_3b067 ∈ AL ∧ Cond.static yJ2_getChar_3b067 ∈ AL := ⟨w5_112, w5_113⟩
theorem w5_121 : Cond.methodLink RX2 80 yX2_isDigit ∈ AL := AL_in (T5 (List.mem_of_getElem? (i := 121) rfl)) rfl
theorem w5_123 : Cond.instanceMethod yX2_isDigit ∈ AL := AL_in (T5 (List.mem_of_getElem? (i := 123) rfl)) rfl
theorem w0_12 : Cond.selects RX2 yX2_isDigit yX2_isDigit ∈ AL := AL_in (T0 (List.mem_of_getElem? (i := 12) rfl)) rfl
theorem kX2_80 : Cond.methodLink RX2 80 yX2_isDigit ∈ AL ∧ Cond.instanceMethod yX2_isDigit ∈ AL ∧ Cond.selects mX2_isDigit.1.cls yX2_isDigit yX2_isDigit ∈ AL := ⟨w5_121, w5_123, w0_12⟩
theorem w5_125 : Cond.methodLink RX2 83 yX2_putNumber ∈ AL := AL_in (T5 (List.mem_of_getElem? (i := 125) rfl)) rfl
theorem w5_127 : Cond.instanceMethod yX2_putNumber ∈ AL := AL_in (T5 (List.mem_of_getElem? (i := 127) rfl)) rfl
theorem w0_13 : Cond.selects RX2 yX2_putNumber yX2_putNumber ∈ AL := AL_in (T0 (List.mem_of_getElem? (i := 13) rfl)) rfl
theorem kX2_83 : Cond.methodLink RX2 83 yX2_putNumber ∈ AL ∧ Cond.instanceMethod yX2_putNumber ∈ AL ∧ Cond.selects mX2_putNumber.1.cls yX2_putNumber yX2_putNumber ∈ AL := ⟨w5_125, w5_127, w0_13⟩
theorem w5_129 : Cond.methodLink RX2 60 yX2_closeCommand ∈ AL := AL_in (T5 (List.mem_of_getElem? (i := 129) rfl)) rfl
theorem w5_131 : Cond.instanceMethod yX2_closeCommand ∈ AL := AL_in (T5 (List.mem_of_getElem? (i := 131) rfl)) rfl
theorem w0_14 : Cond.selects RX2 yX2_closeCommand yX2_closeCommand ∈ AL := AL_in (T0 (List.mem_of_getElem? (i := 14) rfl)) rfl
theorem kX2_60 : Cond.methodLink RX2 60 yX2_closeCommand ∈ AL ∧ Cond.instanceMethod yX2_closeCommand ∈ AL ∧ Cond.selects mX2_closeCommand.1.cls yX2_closeCommand yX2_closeCommand ∈ AL := ⟨w5_129, w5_131, w0_14⟩
theorem w5_133 : Cond.methodLink RX2 64 yJ9_max_7cf53 ∈ AL := AL_in (T5 (List.mem_of_getElem? (i := 133) rfl)) rfl
theorem w5_134 : Cond.static yJ9_max_7cf53 ∈ AL := AL_in (T5 (List.mem_of_getElem? (i := 134) rfl)) rfl
theorem kX2_64 : Cond.methodLink RX2 64 yJ9_max_7cf53 ∈ AL ∧ Cond.static yJ9_max_7cf53 ∈ AL := ⟨w5_133, w5_134⟩
theorem w5_136 : Cond.methodLink RX8 293 yX2_clear ∈ AL := AL_in (T5 (List.mem_of_getElem? (i := 136) rfl)) rfl
theorem w5_137 : Cond.instanceMethod yX2_clear ∈ AL := AL_in (T5 (List.mem_of_getElem? (i := 137) rfl)) rfl
theorem w5_138 : Cond.selects RX2 yX2_clear yX2_clear ∈ AL := AL_in (T5 (List.mem_of_getElem? (i := 138) rfl)) rfl
theorem kX8_293 : Cond.methodLink RX8 293 yX2_clear ∈ AL ∧ Cond.instanceMethod yX2_clear ∈ AL ∧ Cond.selects mX2_clear.1.cls yX2_clear yX2_clear ∈ AL := ⟨w5_136, w5_137, w5_138⟩
theorem w5_141 : Cond.methodLink RX8 299 yX2_rewind ∈ AL := AL_in (T5 (List.mem_of_getElem? (i := 141) rfl)) rfl
theorem kX8_299 : Cond.methodLink RX8 299 yX2_rewind ∈ AL ∧ Cond.instanceMethod yX2_rewind ∈ AL ∧ Cond.selects mX2_rewind.1.cls yX2_rewind yX2_rewind ∈ AL := ⟨w5_141, w5_60, w5_61⟩
theorem w5_142 : Cond.methodLink RX8 302 yX2_readCommand ∈ AL := AL_in (T5 (List.mem_of_getElem? (i := 142) rfl)) rfl
theorem kX8_302 : Cond.methodLink RX8 302 yX2_readCommand ∈ AL ∧ Cond.instanceMethod yX2_readCommand ∈ AL ∧ Cond.selects mX2_readCommand.1.cls yX2_readCommand yX2_readCommand ∈ AL := ⟨w5_142, w5_64, w5_65⟩
theorem w5_143 : Cond.methodLink RX8 316 yX8_perform ∈ AL := AL_in (T5 (List.mem_of_getElem? (i := 143) rfl)) rfl
theorem w5_145 : Cond.instanceMethod yX8_perform ∈ AL := AL_in (T5 (List.mem_of_getElem? (i := 145) rfl)) rfl
theorem w0_15 : Cond.selects RX8 yX8_perform yX8_perform ∈ AL := AL_in (T0 (List.mem_of_getElem? (i := 15) rfl)) rfl
theorem kX8_316 : Cond.methodLink RX8 316 yX8_perform ∈ AL ∧ Cond.instanceMethod yX8_perform ∈ AL ∧ Cond.selects mX8_perform.1.cls yX8_perform yX8_perform ∈ AL := ⟨w5_143, w5_145, w0_15⟩
theorem w5_149 : Cond.methodLink RX8 370 ⟨RX1, "ordinal", "()I"⟩ ∈ AL := AL_in (T5 (List.mem_of_getElem? (i := 149) rfl)) rfl
theorem w5_150 : Cond.sameMethod RX1 "java/lang/Enum" "ordinal" "()I" ∈ AL := AL_in (T5 (List.mem_of_getElem? (i := 150) rfl)) rfl
theorem w5_152 : Cond.selects RX1 ⟨RX1, "ordinal", "()I"⟩ yJx29ce0_ordinal_8abf5 ∈ AL := AL_in (T5 (List.mem_of_getElem? (i := 152) rfl)) rfl
theorem w5_153 : Cond.instanceMethod yJx29ce0_ordinal_8abf5 ∈ AL := AL_in (T5 (List.mem_of_getElem? (i := 153) rfl)) rfl
theorem kX8_370 : Cond.methodLink RX8 370 ⟨RX1, "ordinal", "()I"⟩ ∈ AL ∧ Cond.sameMethod RX1 mJx29ce0_ordinal_8abf5.1.cls "ordinal" "()I" ∈ AL ∧ Cond.selects RX1 ⟨RX1, "ordinal", "()I"⟩ yJx29ce0_ordinal_8abf5 ∈ AL ∧ Cond.instanceMethod yJx29ce0_ordinal_8abf5 ∈ AL := ⟨w5_149, w5_150, w5_152, w5_153⟩
theorem w5_155 : Cond.methodLink RX8 320 yX3_revert ∈ AL := AL_in (T5 (List.mem_of_getElem? (i := 155) rfl)) rfl
theorem w5_156 : Cond.instanceMethod yX3_revert ∈ AL := AL_in (T5 (List.mem_of_getElem? (i := 156) rfl)) rfl
theorem w5_157 : Cond.selects RX3 yX3_revert yX3_revert ∈ AL := AL_in (T5 (List.mem_of_getElem? (i := 157) rfl)) rfl
theorem kX8_320 : Cond.methodLink RX8 320 yX3_revert ∈ AL ∧ Cond.instanceMethod yX3_revert ∈ AL ∧ Cond.selects mX3_revert.1.cls yX3_revert yX3_revert ∈ AL := ⟨w5_155, w5_156, w5_157⟩
theorem w5_160 : Cond.methodLink RL 337 yL_errorPosition ∈ AL := AL_in (T5 (List.mem_of_getElem? (i := 160) rfl)) rfl
theorem w5_161 : Cond.static yL_errorPosition ∈ AL := AL_in (T5 (List.mem_of_getElem? (i := 161) rfl)) rfl
theorem kL_337 : Cond.methodLink RL 337 yL_errorPosition ∈ AL ∧ Cond.static yL_errorPosition ∈ AL := ⟨w5_160, w5_161⟩
theorem w5_163 : Cond.methodLink RL 150 yX8_errorPosition ∈ AL := AL_in (T5 (List.mem_of_getElem? (i := 163) rfl)) rfl
theorem w5_164 : Cond.instanceMethod yX8_errorPosition ∈ AL := AL_in (T5 (List.mem_of_getElem? (i := 164) rfl)) rfl
theorem w5_165 : Cond.selects RX8 yX8_errorPosition yX8_errorPosition ∈ AL := AL_in (T5 (List.mem_of_getElem? (i := 165) rfl)) rfl
theorem kL_150 : Cond.methodLink RL 150 yX8_errorPosition ∈ AL ∧ Cond.instanceMethod yX8_errorPosition ∈ AL ∧ Cond.selects mX8_errorPosition.1.cls yX8_errorPosition yX8_errorPosition ∈ AL := ⟨w5_163, w5_164, w5_165⟩
theorem w5_167 : Cond.methodLink RL 340 yL_failedCommand ∈ AL := AL_in (T5 (List.mem_of_getElem? (i := 167) rfl)) rfl
theorem w5_168 : Cond.static yL_failedCommand ∈ AL := AL_in (T5 (List.mem_of_getElem? (i := 168) rfl)) rfl
theorem kL_340 : Cond.methodLink RL 340 yL_failedCommand ∈ AL ∧ Cond.static yL_failedCommand ∈ AL := ⟨w5_167, w5_168⟩
theorem w5_170 : Cond.methodLink RL 153 yX8_failedCommand ∈ AL := AL_in (T5 (List.mem_of_getElem? (i := 170) rfl)) rfl
theorem w5_171 : Cond.instanceMethod yX8_failedCommand ∈ AL := AL_in (T5 (List.mem_of_getElem? (i := 171) rfl)) rfl
theorem w5_172 : Cond.selects RX8 yX8_failedCommand yX8_failedCommand ∈ AL := AL_in (T5 (List.mem_of_getElem? (i := 172) rfl)) rfl
theorem kL_153 : Cond.methodLink RL 153 yX8_failedCommand ∈ AL ∧ Cond.instanceMethod yX8_failedCommand ∈ AL ∧ Cond.selects mX8_failedCommand.1.cls yX8_failedCommand yX8_failedCommand ∈ AL := ⟨w5_170, w5_171, w5_172⟩
theorem w5_174 : Cond.methodLink RL 343 yL_undo ∈ AL := AL_in (T5 (List.mem_of_getElem? (i := 174) rfl)) rfl
theorem w5_175 : Cond.static yL_undo ∈ AL := AL_in (T5 (List.mem_of_getElem? (i := 175) rfl)) rfl
theorem kL_343 : Cond.methodLink RL 343 yL_undo ∈ AL ∧ Cond.static yL_undo ∈ AL := ⟨w5_174, w5_175⟩
theorem w5_177 : Cond.methodLink RL 156 yX8_undo ∈ AL := AL_in (T5 (List.mem_of_getElem? (i := 177) rfl)) rfl
theorem w5_178 : Cond.instanceMethod yX8_undo ∈ AL := AL_in (T5 (List.mem_of_getElem? (i := 178) rfl)) rfl
theorem w5_179 : Cond.selects RX8 yX8_undo yX8_undo ∈ AL := AL_in (T5 (List.mem_of_getElem? (i := 179) rfl)) rfl
theorem kL_156 : Cond.methodLink RL 156 yX8_undo ∈ AL ∧ Cond.instanceMethod yX8_undo ∈ AL ∧ Cond.selects mX8_undo.1.cls yX8_undo yX8_undo ∈ AL := ⟨w5_177, w5_178, w5_179⟩
theorem w5_182 : Cond.methodLink RX8 333 yX3_stepBack ∈ AL := AL_in (T5 (List.mem_of_getElem? (i := 182) rfl)) rfl
theorem w5_183 : Cond.instanceMethod yX3_stepBack ∈ AL := AL_in (T5 (List.mem_of_getElem? (i := 183) rfl)) rfl
theorem w5_184 : Cond.selects RX3 yX3_stepBack yX3_stepBack ∈ AL := AL_in (T5 (List.mem_of_getElem? (i := 184) rfl)) rfl
theorem kX8_333 : Cond.methodLink RX8 333 yX3_stepBack ∈ AL ∧ Cond.instanceMethod yX3_stepBack ∈ AL ∧ Cond.selects mX3_stepBack.1.cls yX3_stepBack yX3_stepBack ∈ AL := ⟨w5_182, w5_183, w5_184⟩
theorem w5_186 : Cond.methodLink RL 354 yL_restore ∈ AL := AL_in (T5 (List.mem_of_getElem? (i := 186) rfl)) rfl
theorem w5_187 : Cond.static yL_restore ∈ AL := AL_in (T5 (List.mem_of_getElem? (i := 187) rfl)) rfl
theorem kL_354 : Cond.methodLink RL 354 yL_restore ∈ AL ∧ Cond.static yL_restore ∈ AL := ⟨w5_186, w5_187⟩
theorem w5_189 : Cond.methodLink RL 159 yX8_restore ∈ AL := AL_in (T5 (List.mem_of_getElem? (i := 189) rfl)) rfl
theorem w5_190 : Cond.instanceMethod yX8_restore ∈ AL := AL_in (T5 (List.mem_of_getElem? (i := 190) rfl)) rfl
theorem w5_191 : Cond.selects RX8 yX8_restore yX8_restore ∈ AL := AL_in (T5 (List.mem_of_getElem? (i := 191) rfl)) rfl
theorem kL_159 : Cond.methodLink RL 159 yX8_restore ∈ AL ∧ Cond.instanceMethod yX8_restore ∈ AL ∧ Cond.selects mX8_restore.1.cls yX8_restore yX8_restore ∈ AL := ⟨w5_189, w5_190, w5_191⟩
theorem w5_194 : Cond.methodLink RX8 338 yX3_forget ∈ AL := AL_in (T5 (List.mem_of_getElem? (i := 194) rfl)) rfl
theorem w5_195 : Cond.instanceMethod yX3_forget ∈ AL := AL_in (T5 (List.mem_of_getElem? (i := 195) rfl)) rfl
theorem w5_196 : Cond.selects RX3 yX3_forget yX3_forget ∈ AL := AL_in (T5 (List.mem_of_getElem? (i := 196) rfl)) rfl
theorem kX8_338 : Cond.methodLink RX8 338 yX3_forget ∈ AL ∧ Cond.instanceMethod yX3_forget ∈ AL ∧ Cond.selects mX3_forget.1.cls yX3_forget yX3_forget ∈ AL := ⟨w5_194, w5_195, w5_196⟩
theorem w5_200 : Cond.methodLink RL 165 yX9_init ∈ AL := AL_in (T5 (List.mem_of_getElem? (i := 200) rfl)) rfl
theorem w5_201 : Cond.instanceMethod yX9_init ∈ AL := AL_in (T5 (List.mem_of_getElem? (i := 201) rfl)) rfl
theorem kL_165 : Cond.methodLink RL 165 yX9_init ∈ AL ∧ Cond.instanceMethod yX9_init ∈ AL := ⟨w5_200, w5_201⟩
theorem w5_203 : Cond.methodLink RX9 1 Lib.objectInit ∈ AL := AL_in (T5 (List.mem_of_getElem? (i := 203) rfl)) rfl
theorem kX9_1 : Cond.methodLink RX9 1 Lib.objectInit ∈ AL ∧ Cond.instanceMethod Lib.objectInit ∈ AL ∧ Cond.code Lib.objectInit ⟨#[0xb1]⟩ 1 none ∈ AL := ⟨w5_203, w1_35, w1_36⟩
theorem w6_31 : Cond.methodLink RL 172 yX9_thrown ∈ AL := AL_in (T6 (List.mem_of_getElem? (i := 31) rfl)) rfl
theorem w6_32 : Cond.instanceMethod yX9_thrown ∈ AL := AL_in (T6 (List.mem_of_getElem? (i := 32) rfl)) rfl
theorem w6_33 : Cond.selects RX9 yX9_thrown yX9_thrown ∈ AL := AL_in (T6 (List.mem_of_getElem? (i := 33) rfl)) rfl
theorem kL_172 : Cond.methodLink RL 172 yX9_thrown ∈ AL ∧ Cond.instanceMethod yX9_thrown ∈ AL ∧ Cond.selects mX9_thrown.1.cls yX9_thrown yX9_thrown ∈ AL := ⟨w6_31, w6_32, w6_33⟩
theorem w6_35 : Cond.methodLink RL 171 yX9_addBlock ∈ AL := AL_in (T6 (List.mem_of_getElem? (i := 35) rfl)) rfl
theorem w6_36 : Cond.instanceMethod yX9_addBlock ∈ AL := AL_in (T6 (List.mem_of_getElem? (i := 36) rfl)) rfl
theorem w6_37 : Cond.selects RX9 yX9_addBlock yX9_addBlock ∈ AL := AL_in (T6 (List.mem_of_getElem? (i := 37) rfl)) rfl
theorem kL_171 : Cond.methodLink RL 171 yX9_addBlock ∈ AL ∧ Cond.instanceMethod yX9_addBlock ∈ AL ∧ Cond.selects mX9_addBlock.1.cls yX9_addBlock yX9_addBlock ∈ AL := ⟨w6_35, w6_36, w6_37⟩
theorem w6_39 : Cond.methodLink RX9 127 yX9_remembers ∈ AL := AL_in (T6 (List.mem_of_getElem? (i := 39) rfl)) rfl
theorem w6_41 : Cond.instanceMethod yX9_remembers ∈ AL := AL_in (T6 (List.mem_of_getElem? (i := 41) rfl)) rfl
theorem w0_16 : Cond.selects RX9 yX9_remembers yX9_remembers ∈ AL := AL_in (T0 (List.mem_of_getElem? (i := 16) rfl)) rfl
theorem kX9_127 : Cond.methodLink RX9 127 yX9_remembers ∈ AL ∧ Cond.instanceMethod yX9_remembers ∈ AL ∧ Cond.selects mX9_remembers.1.cls yX9_remembers yX9_remembers ∈ AL := ⟨w6_39, w6_41, w0_16⟩
theorem w6_43 : Cond.methodLink RX9 130 yX9_adds ∈ AL := AL_in (T6 (List.mem_of_getElem? (i := 43) rfl)) rfl
theorem w6_45 : Cond.instanceMethod yX9_adds ∈ AL := AL_in (T6 (List.mem_of_getElem? (i := 45) rfl)) rfl
theorem w0_17 : Cond.selects RX9 yX9_adds yX9_adds ∈ AL := AL_in (T0 (List.mem_of_getElem? (i := 17) rfl)) rfl
theorem kX9_130 : Cond.methodLink RX9 130 yX9_adds ∈ AL ∧ Cond.instanceMethod yX9_adds ∈ AL ∧ Cond.selects mX9_adds.1.cls yX9_adds yX9_adds ∈ AL := ⟨w6_43, w6_45, w0_17⟩
theorem w6_47 : Cond.methodLink RX9 63 yX9_in ∈ AL := AL_in (T6 (List.mem_of_getElem? (i := 47) rfl)) rfl
theorem w6_48 : Cond.static yX9_in ∈ AL := AL_in (T6 (List.mem_of_getElem? (i := 48) rfl)) rfl
theorem kX9_63 : Cond.methodLink RX9 63 yX9_in ∈ AL ∧ Cond.static yX9_in ∈ AL := ⟨w6_47, w6_48⟩
theorem w6_50 : Cond.methodLink RX9 88 yX9_done ∈ AL := AL_in (T6 (List.mem_of_getElem? (i := 50) rfl)) rfl
theorem w6_52 : Cond.instanceMethod yX9_done ∈ AL := AL_in (T6 (List.mem_of_getElem? (i := 52) rfl)) rfl
theorem w0_18 : Cond.selects RX9 yX9_done yX9_done ∈ AL := AL_in (T0 (List.mem_of_getElem? (i := 18) rfl)) rfl
theorem kX9_88 : Cond.methodLink RX9 88 yX9_done ∈ AL ∧ Cond.instanceMethod yX9_done ∈ AL ∧ Cond.selects mX9_done.1.cls yX9_done yX9_done ∈ AL := ⟨w6_50, w6_52, w0_18⟩
theorem w6_54 : Cond.methodLink RX9 133 yX9_ends ∈ AL := AL_in (T6 (List.mem_of_getElem? (i := 54) rfl)) rfl
theorem w6_56 : Cond.instanceMethod yX9_ends ∈ AL := AL_in (T6 (List.mem_of_getElem? (i := 56) rfl)) rfl
theorem w0_19 : Cond.selects RX9 yX9_ends yX9_ends ∈ AL := AL_in (T0 (List.mem_of_getElem? (i := 19) rfl)) rfl
theorem kX9_133 : Cond.methodLink RX9 133 yX9_ends ∈ AL ∧ Cond.instanceMethod yX9_ends ∈ AL ∧ Cond.selects mX9_ends.1.cls yX9_ends yX9_ends ∈ AL := ⟨w6_54, w6_56, w0_19⟩
theorem w6_58 : Cond.methodLink RX9 56 yX9_changed ∈ AL := AL_in (T6 (List.mem_of_getElem? (i := 58) rfl)) rfl
theorem w6_60 : Cond.instanceMethod yX9_changed ∈ AL := AL_in (T6 (List.mem_of_getElem? (i := 60) rfl)) rfl
theorem w0_20 : Cond.selects RX9 yX9_changed yX9_changed ∈ AL := AL_in (T0 (List.mem_of_getElem? (i := 20) rfl)) rfl
theorem kX9_56 : Cond.methodLink RX9 56 yX9_changed ∈ AL ∧ Cond.instanceMethod yX9_changed ∈ AL ∧ Cond.selects mX9_changed.1.cls yX9_changed yX9_changed ∈ AL := ⟨w6_58, w6_60, w0_20⟩
theorem w6_62 : Cond.methodLink RX9 60 yX9_fails ∈ AL := AL_in (T6 (List.mem_of_getElem? (i := 62) rfl)) rfl
theorem w6_64 : Cond.instanceMethod yX9_fails ∈ AL := AL_in (T6 (List.mem_of_getElem? (i := 64) rfl)) rfl
theorem w0_21 : Cond.selects RX9 yX9_fails yX9_fails ∈ AL := AL_in (T0 (List.mem_of_getElem? (i := 21) rfl)) rfl
theorem kX9_60 : Cond.methodLink RX9 60 yX9_fails ∈ AL ∧ Cond.instanceMethod yX9_fails ∈ AL ∧ Cond.selects mX9_fails.1.cls yX9_fails yX9_fails ∈ AL := ⟨w6_62, w6_64, w0_21⟩
theorem w6_66 : Cond.methodLink RL 177 yX9_addCushion ∈ AL := AL_in (T6 (List.mem_of_getElem? (i := 66) rfl)) rfl
theorem w6_67 : Cond.instanceMethod yX9_addCushion ∈ AL := AL_in (T6 (List.mem_of_getElem? (i := 67) rfl)) rfl
theorem w6_68 : Cond.selects RX9 yX9_addCushion yX9_addCushion ∈ AL := AL_in (T6 (List.mem_of_getElem? (i := 68) rfl)) rfl
theorem kL_177 : Cond.methodLink RL 177 yX9_addCushion ∈ AL ∧ Cond.instanceMethod yX9_addCushion ∈ AL ∧ Cond.selects mX9_addCushion.1.cls yX9_addCushion yX9_addCushion ∈ AL := ⟨w6_66, w6_67, w6_68⟩
theorem w6_70 : Cond.methodLink RL 181 yX9_link ∈ AL := AL_in (T6 (List.mem_of_getElem? (i := 70) rfl)) rfl
theorem w6_71 : Cond.instanceMethod yX9_link ∈ AL := AL_in (T6 (List.mem_of_getElem? (i := 71) rfl)) rfl
theorem w6_72 : Cond.selects RX9 yX9_link yX9_link ∈ AL := AL_in (T6 (List.mem_of_getElem? (i := 72) rfl)) rfl
theorem kL_181 : Cond.methodLink RL 181 yX9_link ∈ AL ∧ Cond.instanceMethod yX9_link ∈ AL ∧ Cond.selects mX9_link.1.cls yX9_link yX9_link ∈ AL := ⟨w6_70, w6_71, w6_72⟩
theorem w6_74 : Cond.methodLink RX9 136 yX9_joins ∈ AL := AL_in (T6 (List.mem_of_getElem? (i := 74) rfl)) rfl
theorem w6_76 : Cond.instanceMethod yX9_joins ∈ AL := AL_in (T6 (List.mem_of_getElem? (i := 76) rfl)) rfl
theorem w0_22 : Cond.selects RX9 yX9_joins yX9_joins ∈ AL := AL_in (T0 (List.mem_of_getElem? (i := 22) rfl)) rfl
theorem kX9_136 : Cond.methodLink RX9 136 yX9_joins ∈ AL ∧ Cond.instanceMethod yX9_joins ∈ AL ∧ Cond.selects mX9_joins.1.cls yX9_joins yX9_joins ∈ AL := ⟨w6_74, w6_76, w0_22⟩
theorem w6_78 : Cond.methodLink RX9 91 yX9_isBlock ∈ AL := AL_in (T6 (List.mem_of_getElem? (i := 78) rfl)) rfl
theorem w6_80 : Cond.instanceMethod yX9_isBlock ∈ AL := AL_in (T6 (List.mem_of_getElem? (i := 80) rfl)) rfl
theorem w0_23 : Cond.selects RX9 yX9_isBlock yX9_isBlock ∈ AL := AL_in (T0 (List.mem_of_getElem? (i := 23) rfl)) rfl
theorem kX9_91 : Cond.methodLink RX9 91 yX9_isBlock ∈ AL ∧ Cond.instanceMethod yX9_isBlock ∈ AL ∧ Cond.selects mX9_isBlock.1.cls yX9_isBlock yX9_isBlock ∈ AL := ⟨w6_78, w6_80, w0_23⟩
theorem w6_82 : Cond.methodLink RX9 67 yX9_linked ∈ AL := AL_in (T6 (List.mem_of_getElem? (i := 82) rfl)) rfl
theorem w6_84 : Cond.instanceMethod yX9_linked ∈ AL := AL_in (T6 (List.mem_of_getElem? (i := 84) rfl)) rfl
theorem w0_24 : Cond.selects RX9 yX9_linked yX9_linked ∈ AL := AL_in (T0 (List.mem_of_getElem? (i := 24) rfl)) rfl
theorem kX9_67 : Cond.methodLink RX9 67 yX9_linked ∈ AL ∧ Cond.instanceMethod yX9_linked ∈ AL ∧ Cond.selects mX9_linked.1.cls yX9_linked yX9_linked ∈ AL := ⟨w6_82, w6_84, w0_24⟩
theorem w6_86 : Cond.methodLink RX9 95 yX9_links ∈ AL := AL_in (T6 (List.mem_of_getElem? (i := 86) rfl)) rfl
theorem w6_88 : Cond.instanceMethod yX9_links ∈ AL := AL_in (T6 (List.mem_of_getElem? (i := 88) rfl)) rfl
theorem w0_25 : Cond.selects RX9 yX9_links yX9_links ∈ AL := AL_in (T0 (List.mem_of_getElem? (i := 25) rfl)) rfl
theorem kX9_95 : Cond.methodLink RX9 95 yX9_links ∈ AL ∧ Cond.instanceMethod yX9_links ∈ AL ∧ Cond.selects mX9_links.1.cls yX9_links yX9_links ∈ AL := ⟨w6_86, w6_88, w0_25⟩
theorem w6_90 : Cond.methodLink RL 184 yX9_unlink ∈ AL := AL_in (T6 (List.mem_of_getElem? (i := 90) rfl)) rfl
theorem w6_91 : Cond.instanceMethod yX9_unlink ∈ AL := AL_in (T6 (List.mem_of_getElem? (i := 91) rfl)) rfl
theorem w6_92 : Cond.selects RX9 yX9_unlink yX9_unlink ∈ AL := AL_in (T6 (List.mem_of_getElem? (i := 92) rfl)) rfl
theorem kL_184 : Cond.methodLink RL 184 yX9_unlink ∈ AL ∧ Cond.instanceMethod yX9_unlink ∈ AL ∧ Cond.selects mX9_unlink.1.cls yX9_unlink yX9_unlink ∈ AL := ⟨w6_90, w6_91, w6_92⟩
theorem w6_94 : Cond.methodLink RX9 139 yX9_parts ∈ AL := AL_in (T6 (List.mem_of_getElem? (i := 94) rfl)) rfl
theorem w6_96 : Cond.instanceMethod yX9_parts ∈ AL := AL_in (T6 (List.mem_of_getElem? (i := 96) rfl)) rfl
theorem w0_26 : Cond.selects RX9 yX9_parts yX9_parts ∈ AL := AL_in (T0 (List.mem_of_getElem? (i := 26) rfl)) rfl
theorem kX9_139 : Cond.methodLink RX9 139 yX9_parts ∈ AL ∧ Cond.instanceMethod yX9_parts ∈ AL ∧ Cond.selects mX9_parts.1.cls yX9_parts yX9_parts ∈ AL := ⟨w6_94, w6_96, w0_26⟩
theorem w6_98 : Cond.methodLink RL 187 yX9_putCat ∈ AL := AL_in (T6 (List.mem_of_getElem? (i := 98) rfl)) rfl
theorem w6_99 : Cond.instanceMethod yX9_putCat ∈ AL := AL_in (T6 (List.mem_of_getElem? (i := 99) rfl)) rfl
theorem w6_100 : Cond.selects RX9 yX9_putCat yX9_putCat ∈ AL := AL_in (T6 (List.mem_of_getElem? (i := 100) rfl)) rfl
theorem kL_187 : Cond.methodLink RL 187 yX9_putCat ∈ AL ∧ Cond.instanceMethod yX9_putCat ∈ AL ∧ Cond.selects mX9_putCat.1.cls yX9_putCat yX9_putCat ∈ AL := ⟨w6_98, w6_99, w6_100⟩
theorem w6_102 : Cond.methodLink RX9 142 yX9_seats ∈ AL := AL_in (T6 (List.mem_of_getElem? (i := 102) rfl)) rfl
theorem w6_104 : Cond.instanceMethod yX9_seats ∈ AL := AL_in (T6 (List.mem_of_getElem? (i := 104) rfl)) rfl
theorem w0_27 : Cond.selects RX9 yX9_seats yX9_seats ∈ AL := AL_in (T0 (List.mem_of_getElem? (i := 27) rfl)) rfl
theorem kX9_142 : Cond.methodLink RX9 142 yX9_seats ∈ AL ∧ Cond.instanceMethod yX9_seats ∈ AL ∧ Cond.selects mX9_seats.1.cls yX9_seats yX9_seats ∈ AL := ⟨w6_102, w6_104, w0_27⟩
theorem w6_106 : Cond.methodLink RX9 71 yX9_block ∈ AL := AL_in (T6 (List.mem_of_getElem? (i := 106) rfl)) rfl
theorem w6_108 : Cond.instanceMethod yX9_block ∈ AL := AL_in (T6 (List.mem_of_getElem? (i := 108) rfl)) rfl
theorem w0_28 : Cond.selects RX9 yX9_block yX9_block ∈ AL := AL_in (T0 (List.mem_of_getElem? (i := 28) rfl)) rfl
theorem kX9_71 : Cond.methodLink RX9 71 yX9_block ∈ AL ∧ Cond.instanceMethod yX9_block ∈ AL ∧ Cond.selects mX9_block.1.cls yX9_block yX9_block ∈ AL := ⟨w6_106, w6_108, w0_28⟩
theorem w6_110 : Cond.methodLink RX9 99 yX9_inside ∈ AL := AL_in (T6 (List.mem_of_getElem? (i := 110) rfl)) rfl
theorem w6_112 : Cond.instanceMethod yX9_inside ∈ AL := AL_in (T6 (List.mem_of_getElem? (i := 112) rfl)) rfl
theorem w0_29 : Cond.selects RX9 yX9_inside yX9_inside ∈ AL := AL_in (T0 (List.mem_of_getElem? (i := 29) rfl)) rfl
theorem kX9_99 : Cond.methodLink RX9 99 yX9_inside ∈ AL ∧ Cond.instanceMethod yX9_inside ∈ AL ∧ Cond.selects mX9_inside.1.cls yX9_inside yX9_inside ∈ AL := ⟨w6_110, w6_112, w0_29⟩
theorem w6_114 : Cond.methodLink RX9 75 yX9_train ∈ AL := AL_in (T6 (List.mem_of_getElem? (i := 114) rfl)) rfl
theorem w6_116 : Cond.instanceMethod yX9_train ∈ AL := AL_in (T6 (List.mem_of_getElem? (i := 116) rfl)) rfl
theorem w0_30 : Cond.selects RX9 yX9_train yX9_train ∈ AL := AL_in (T0 (List.mem_of_getElem? (i := 30) rfl)) rfl
theorem kX9_75 : Cond.methodLink RX9 75 yX9_train ∈ AL ∧ Cond.instanceMethod yX9_train ∈ AL ∧ Cond.selects mX9_train.1.cls yX9_train yX9_train ∈ AL := ⟨w6_114, w6_116, w0_30⟩
theorem w6_118 : Cond.methodLink RX9 102 yX9_cats ∈ AL := AL_in (T6 (List.mem_of_getElem? (i := 118) rfl)) rfl
theorem w6_120 : Cond.instanceMethod yX9_cats ∈ AL := AL_in (T6 (List.mem_of_getElem? (i := 120) rfl)) rfl
theorem w0_31 : Cond.selects RX9 yX9_cats yX9_cats ∈ AL := AL_in (T0 (List.mem_of_getElem? (i := 31) rfl)) rfl
theorem kX9_102 : Cond.methodLink RX9 102 yX9_cats ∈ AL ∧ Cond.instanceMethod yX9_cats ∈ AL ∧ Cond.selects mX9_cats.1.cls yX9_cats yX9_cats ∈ AL := ⟨w6_118, w6_120, w0_31⟩
theorem w6_122 : Cond.methodLink RL 190 yX9_removeCat ∈ AL := AL_in (T6 (List.mem_of_getElem? (i := 122) rfl)) rfl
theorem w6_123 : Cond.instanceMethod yX9_removeCat ∈ AL := AL_in (T6 (List.mem_of_getElem? (i := 123) rfl)) rfl
theorem w6_124 : Cond.selects RX9 yX9_removeCat yX9_removeCat ∈ AL := AL_in (T6 (List.mem_of_getElem? (i := 124) rfl)) rfl
theorem kL_190 : Cond.methodLink RL 190 yX9_removeCat ∈ AL ∧ Cond.instanceMethod yX9_removeCat ∈ AL ∧ Cond.selects mX9_removeCat.1.cls yX9_removeCat yX9_removeCat ∈ AL := ⟨w6_122, w6_123, w6_124⟩
theorem w6_126 : Cond.methodLink RX9 145 yX9_shoos ∈ AL := AL_in (T6 (List.mem_of_getElem? (i := 126) rfl)) rfl
theorem w6_128 : Cond.instanceMethod yX9_shoos ∈ AL := AL_in (T6 (List.mem_of_getElem? (i := 128) rfl)) rfl
theorem w0_32 : Cond.selects RX9 yX9_shoos yX9_shoos ∈ AL := AL_in (T0 (List.mem_of_getElem? (i := 32) rfl)) rfl
theorem kX9_145 : Cond.methodLink RX9 145 yX9_shoos ∈ AL ∧ Cond.instanceMethod yX9_shoos ∈ AL ∧ Cond.selects mX9_shoos.1.cls yX9_shoos yX9_shoos ∈ AL := ⟨w6_126, w6_128, w0_32⟩
theorem w6_130 : Cond.methodLink RL 194 yX9_blockCount ∈ AL := AL_in (T6 (List.mem_of_getElem? (i := 130) rfl)) rfl
theorem w6_131 : Cond.instanceMethod yX9_blockCount ∈ AL := AL_in (T6 (List.mem_of_getElem? (i := 131) rfl)) rfl
theorem w6_132 : Cond.selects RX9 yX9_blockCount yX9_blockCount ∈ AL := AL_in (T6 (List.mem_of_getElem? (i := 132) rfl)) rfl
theorem kL_194 : Cond.methodLink RL 194 yX9_blockCount ∈ AL ∧ Cond.instanceMethod yX9_blockCount ∈ AL ∧ Cond.selects mX9_blockCount.1.cls yX9_blockCount yX9_blockCount ∈ AL := ⟨w6_130, w6_131, w6_132⟩
theorem w6_134 : Cond.methodLink RL 197 yX9_length ∈ AL := AL_in (T6 (List.mem_of_getElem? (i := 134) rfl)) rfl
theorem w6_135 : Cond.instanceMethod yX9_length ∈ AL := AL_in (T6 (List.mem_of_getElem? (i := 135) rfl)) rfl
theorem w6_136 : Cond.selects RX9 yX9_length yX9_length ∈ AL := AL_in (T6 (List.mem_of_getElem? (i := 136) rfl)) rfl
theorem kL_197 : Cond.methodLink RL 197 yX9_length ∈ AL ∧ Cond.instanceMethod yX9_length ∈ AL ∧ Cond.selects mX9_length.1.cls yX9_length yX9_length ∈ AL := ⟨w6_134, w6_135, w6_136⟩
theorem w6_138 : Cond.methodLink RX9 148 yX9_askedBlock ∈ AL := AL_in (T6 (List.mem_of_getElem? (i := 138) rfl)) rfl
theorem w6_140 : Cond.instanceMethod yX9_askedBlock ∈ AL := AL_in (T6 (List.mem_of_getElem? (i := 140) rfl)) rfl
theorem w0_33 : Cond.selects RX9 yX9_askedBlock yX9_askedBlock ∈ AL := AL_in (T0 (List.mem_of_getElem? (i := 33) rfl)) rfl
theorem kX9_148 : Cond.methodLink RX9 148 yX9_askedBlock ∈ AL ∧ Cond.instanceMethod yX9_askedBlock ∈ AL ∧ Cond.selects mX9_askedBlock.1.cls yX9_askedBlock yX9_askedBlock ∈ AL := ⟨w6_138, w6_140, w0_33⟩
theorem w6_142 : Cond.methodLink RL 200 yX9_isCushion ∈ AL := AL_in (T6 (List.mem_of_getElem? (i := 142) rfl)) rfl
theorem w6_143 : Cond.instanceMethod yX9_isCushion ∈ AL := AL_in (T6 (List.mem_of_getElem? (i := 143) rfl)) rfl
theorem w6_144 : Cond.selects RX9 yX9_isCushion yX9_isCushion ∈ AL := AL_in (T6 (List.mem_of_getElem? (i := 144) rfl)) rfl
theorem kL_200 : Cond.methodLink RL 200 yX9_isCushion ∈ AL ∧ Cond.instanceMethod yX9_isCushion ∈ AL ∧ Cond.selects mX9_isCushion.1.cls yX9_isCushion yX9_isCushion ∈ AL := ⟨w6_142, w6_143, w6_144⟩
theorem w6_146 : Cond.methodLink RL 203 yX9_hasCat ∈ AL := AL_in (T6 (List.mem_of_getElem? (i := 146) rfl)) rfl
theorem w6_147 : Cond.instanceMethod yX9_hasCat ∈ AL := AL_in (T6 (List.mem_of_getElem? (i := 147) rfl)) rfl
theorem w6_148 : Cond.selects RX9 yX9_hasCat yX9_hasCat ∈ AL := AL_in (T6 (List.mem_of_getElem? (i := 148) rfl)) rfl
theorem kL_203 : Cond.methodLink RL 203 yX9_hasCat ∈ AL ∧ Cond.instanceMethod yX9_hasCat ∈ AL ∧ Cond.selects mX9_hasCat.1.cls yX9_hasCat yX9_hasCat ∈ AL := ⟨w6_146, w6_147, w6_148⟩
theorem w6_150 : Cond.methodLink RL 206 yX9_areLinked ∈ AL := AL_in (T6 (List.mem_of_getElem? (i := 150) rfl)) rfl
theorem w6_151 : Cond.instanceMethod yX9_areLinked ∈ AL := AL_in (T6 (List.mem_of_getElem? (i := 151) rfl)) rfl
theorem w6_152 : Cond.selects RX9 yX9_areLinked yX9_areLinked ∈ AL := AL_in (T6 (List.mem_of_getElem? (i := 152) rfl)) rfl
theorem kL_206 : Cond.methodLink RL 206 yX9_areLinked ∈ AL ∧ Cond.instanceMethod yX9_areLinked ∈ AL ∧ Cond.selects mX9_areLinked.1.cls yX9_areLinked yX9_areLinked ∈ AL := ⟨w6_150, w6_151, w6_152⟩
theorem w6_154 : Cond.methodLink RL 209 yX9_degree ∈ AL := AL_in (T6 (List.mem_of_getElem? (i := 154) rfl)) rfl
theorem w6_155 : Cond.instanceMethod yX9_degree ∈ AL := AL_in (T6 (List.mem_of_getElem? (i := 155) rfl)) rfl
theorem w6_156 : Cond.selects RX9 yX9_degree yX9_degree ∈ AL := AL_in (T6 (List.mem_of_getElem? (i := 156) rfl)) rfl
theorem kL_209 : Cond.methodLink RL 209 yX9_degree ∈ AL ∧ Cond.instanceMethod yX9_degree ∈ AL ∧ Cond.selects mX9_degree.1.cls yX9_degree yX9_degree ∈ AL := ⟨w6_154, w6_155, w6_156⟩
theorem w6_158 : Cond.methodLink RL 212 yX9_trainIn ∈ AL := AL_in (T6 (List.mem_of_getElem? (i := 158) rfl)) rfl
theorem w6_159 : Cond.instanceMethod yX9_trainIn ∈ AL := AL_in (T6 (List.mem_of_getElem? (i := 159) rfl)) rfl
theorem w6_160 : Cond.selects RX9 yX9_trainIn yX9_trainIn ∈ AL := AL_in (T6 (List.mem_of_getElem? (i := 160) rfl)) rfl
theorem kL_212 : Cond.methodLink RL 212 yX9_trainIn ∈ AL ∧ Cond.instanceMethod yX9_trainIn ∈ AL ∧ Cond.selects mX9_trainIn.1.cls yX9_trainIn yX9_trainIn ∈ AL := ⟨w6_158, w6_159, w6_160⟩
theorem w6_162 : Cond.methodLink RL 215 yX9_reservedBy ∈ AL := AL_in (T6 (List.mem_of_getElem? (i := 162) rfl)) rfl
theorem w6_163 : Cond.instanceMethod yX9_reservedBy ∈ AL := AL_in (T6 (List.mem_of_getElem? (i := 163) rfl)) rfl
theorem w6_164 : Cond.selects RX9 yX9_reservedBy yX9_reservedBy ∈ AL := AL_in (T6 (List.mem_of_getElem? (i := 164) rfl)) rfl
theorem kL_215 : Cond.methodLink RL 215 yX9_reservedBy ∈ AL ∧ Cond.instanceMethod yX9_reservedBy ∈ AL ∧ Cond.selects mX9_reservedBy.1.cls yX9_reservedBy yX9_reservedBy ∈ AL := ⟨w6_162, w6_163, w6_164⟩
theorem w6_166 : Cond.methodLink RX9 78 yX9_holder ∈ AL := AL_in (T6 (List.mem_of_getElem? (i := 166) rfl)) rfl
theorem w6_168 : Cond.instanceMethod yX9_holder ∈ AL := AL_in (T6 (List.mem_of_getElem? (i := 168) rfl)) rfl
theorem w0_34 : Cond.selects RX9 yX9_holder yX9_holder ∈ AL := AL_in (T0 (List.mem_of_getElem? (i := 34) rfl)) rfl
theorem kX9_78 : Cond.methodLink RX9 78 yX9_holder ∈ AL ∧ Cond.instanceMethod yX9_holder ∈ AL ∧ Cond.selects mX9_holder.1.cls yX9_holder yX9_holder ∈ AL := ⟨w6_166, w6_168, w0_34⟩
theorem w6_170 : Cond.methodLink RL 218 yX9_signal ∈ AL := AL_in (T6 (List.mem_of_getElem? (i := 170) rfl)) rfl
theorem w6_171 : Cond.instanceMethod yX9_signal ∈ AL := AL_in (T6 (List.mem_of_getElem? (i := 171) rfl)) rfl
theorem w6_172 : Cond.selects RX9 yX9_signal yX9_signal ∈ AL := AL_in (T6 (List.mem_of_getElem? (i := 172) rfl)) rfl
theorem kL_218 : Cond.methodLink RL 218 yX9_signal ∈ AL ∧ Cond.instanceMethod yX9_signal ∈ AL ∧ Cond.selects mX9_signal.1.cls yX9_signal yX9_signal ∈ AL := ⟨w6_170, w6_171, w6_172⟩
theorem w6_174 : Cond.methodLink RX9 151 yX9_sign ∈ AL := AL_in (T6 (List.mem_of_getElem? (i := 174) rfl)) rfl
theorem w6_176 : Cond.instanceMethod yX9_sign ∈ AL := AL_in (T6 (List.mem_of_getElem? (i := 176) rfl)) rfl
theorem w0_35 : Cond.selects RX9 yX9_sign yX9_sign ∈ AL := AL_in (T0 (List.mem_of_getElem? (i := 35) rfl)) rfl
theorem kX9_151 : Cond.methodLink RX9 151 yX9_sign ∈ AL ∧ Cond.instanceMethod yX9_sign ∈ AL ∧ Cond.selects mX9_sign.1.cls yX9_sign yX9_sign ∈ AL := ⟨w6_174, w6_176, w0_35⟩
theorem w6_178 : Cond.methodLink RL 221 yX9_distance ∈ AL := AL_in (T6 (List.mem_of_getElem? (i := 178) rfl)) rfl
theorem w6_179 : Cond.instanceMethod yX9_distance ∈ AL := AL_in (T6 (List.mem_of_getElem? (i := 179) rfl)) rfl
theorem w6_180 : Cond.selects RX9 yX9_distance yX9_distance ∈ AL := AL_in (T6 (List.mem_of_getElem? (i := 180) rfl)) rfl
theorem kL_221 : Cond.methodLink RL 221 yX9_distance ∈ AL ∧ Cond.instanceMethod yX9_distance ∈ AL ∧ Cond.selects mX9_distance.1.cls yX9_distance yX9_distance ∈ AL := ⟨w6_178, w6_179, w6_180⟩
theorem w6_182 : Cond.methodLink RX9 84 yX9_ways ∈ AL := AL_in (T6 (List.mem_of_getElem? (i := 182) rfl)) rfl
theorem w6_184 : Cond.instanceMethod yX9_ways ∈ AL := AL_in (T6 (List.mem_of_getElem? (i := 184) rfl)) rfl
theorem w0_36 : Cond.selects RX9 yX9_ways yX9_ways ∈ AL := AL_in (T0 (List.mem_of_getElem? (i := 36) rfl)) rfl
theorem kX9_84 : Cond.methodLink RX9 84 yX9_ways ∈ AL ∧ Cond.instanceMethod yX9_ways ∈ AL ∧ Cond.selects mX9_ways.1.cls yX9_ways yX9_ways ∈ AL := ⟨w6_182, w6_184, w0_36⟩
theorem w6_186 : Cond.methodLink RL 224 yX9_distanceByRounds ∈ AL := AL_in (T6 (List.mem_of_getElem? (i := 186) rfl)) rfl
theorem w6_187 : Cond.instanceMethod yX9_distanceByRounds ∈ AL := AL_in (T6 (List.mem_of_getElem? (i := 187) rfl)) rfl
theorem w6_188 : Cond.selects RX9 yX9_distanceByRounds yX9_distanceByRounds ∈ AL := AL_in (T6 (List.mem_of_getElem? (i := 188) rfl)) rfl
theorem kL_224 : Cond.methodLink RL 224 yX9_distanceByRounds ∈ AL ∧ Cond.instanceMethod yX9_distanceByRounds ∈ AL ∧ Cond.selects mX9_distanceByRounds.1.cls yX9_distanceByRounds yX9_distanceByRounds ∈ AL := ⟨w6_186, w6_187, w6_188⟩
theorem w6_190 : Cond.methodLink RX9 154 yX9_distance ∈ AL := AL_in (T6 (List.mem_of_getElem? (i := 190) rfl)) rfl
theorem kX9_154 : Cond.methodLink RX9 154 yX9_distance ∈ AL ∧ Cond.instanceMethod yX9_distance ∈ AL ∧ Cond.selects mX9_distance.1.cls yX9_distance yX9_distance ∈ AL := ⟨w6_190, w6_179, w6_180⟩
theorem w6_191 : Cond.methodLink RL 227 yX9_nextBlock ∈ AL := AL_in (T6 (List.mem_of_getElem? (i := 191) rfl)) rfl
theorem w6_192 : Cond.instanceMethod yX9_nextBlock ∈ AL := AL_in (T6 (List.mem_of_getElem? (i := 192) rfl)) rfl
theorem w6_193 : Cond.selects RX9 yX9_nextBlock yX9_nextBlock ∈ AL := AL_in (T6 (List.mem_of_getElem? (i := 193) rfl)) rfl
theorem kL_227 : Cond.methodLink RL 227 yX9_nextBlock ∈ AL ∧ Cond.instanceMethod yX9_nextBlock ∈ AL ∧ Cond.selects mX9_nextBlock.1.cls yX9_nextBlock yX9_nextBlock ∈ AL := ⟨w6_191, w6_192, w6_193⟩
theorem w6_195 : Cond.methodLink RX9 109 yX9_isTrain ∈ AL := AL_in (T6 (List.mem_of_getElem? (i := 195) rfl)) rfl
theorem w6_197 : Cond.instanceMethod yX9_isTrain ∈ AL := AL_in (T6 (List.mem_of_getElem? (i := 197) rfl)) rfl
theorem w0_37 : Cond.selects RX9 yX9_isTrain yX9_isTrain ∈ AL := AL_in (T0 (List.mem_of_getElem? (i := 37) rfl)) rfl
theorem kX9_109 : Cond.methodLink RX9 109 yX9_isTrain ∈ AL ∧ Cond.instanceMethod yX9_isTrain ∈ AL ∧ Cond.selects mX9_isTrain.1.cls yX9_isTrain yX9_isTrain ∈ AL := ⟨w6_195, w6_197, w0_37⟩
theorem w6_199 : Cond.methodLink RX9 115 yX9_next ∈ AL := AL_in (T6 (List.mem_of_getElem? (i := 199) rfl)) rfl
theorem w6_201 : Cond.instanceMethod yX9_next ∈ AL := AL_in (T6 (List.mem_of_getElem? (i := 201) rfl)) rfl
theorem w0_38 : Cond.selects RX9 yX9_next yX9_next ∈ AL := AL_in (T0 (List.mem_of_getElem? (i := 38) rfl)) rfl
theorem kX9_115 : Cond.methodLink RX9 115 yX9_next ∈ AL ∧ Cond.instanceMethod yX9_next ∈ AL ∧ Cond.selects mX9_next.1.cls yX9_next yX9_next ∈ AL := ⟨w6_199, w6_201, w0_38⟩
theorem w6_203 : Cond.methodLink RX9 81 yX9_goalOf ∈ AL := AL_in (T6 (List.mem_of_getElem? (i := 203) rfl)) rfl
theorem w6_205 : Cond.instanceMethod yX9_goalOf ∈ AL := AL_in (T6 (List.mem_of_getElem? (i := 205) rfl)) rfl
theorem w0_39 : Cond.selects RX9 yX9_goalOf yX9_goalOf ∈ AL := AL_in (T0 (List.mem_of_getElem? (i := 39) rfl)) rfl
theorem kX9_81 : Cond.methodLink RX9 81 yX9_goalOf ∈ AL ∧ Cond.instanceMethod yX9_goalOf ∈ AL ∧ Cond.selects mX9_goalOf.1.cls yX9_goalOf yX9_goalOf ∈ AL := ⟨w6_203, w6_205, w0_39⟩
theorem w6_207 : Cond.methodLink RL 231 yX9_partCount ∈ AL := AL_in (T6 (List.mem_of_getElem? (i := 207) rfl)) rfl
theorem w6_208 : Cond.instanceMethod yX9_partCount ∈ AL := AL_in (T6 (List.mem_of_getElem? (i := 208) rfl)) rfl
theorem w6_209 : Cond.selects RX9 yX9_partCount yX9_partCount ∈ AL := AL_in (T6 (List.mem_of_getElem? (i := 209) rfl)) rfl
theorem kL_231 : Cond.methodLink RL 231 yX9_partCount ∈ AL ∧ Cond.instanceMethod yX9_partCount ∈ AL ∧ Cond.selects mX9_partCount.1.cls yX9_partCount yX9_partCount ∈ AL := ⟨w6_207, w6_208, w6_209⟩
theorem w6_211 : Cond.methodLink RL 235 yX9_partCountByUnions ∈ AL := AL_in (T6 (List.mem_of_getElem? (i := 211) rfl)) rfl
theorem w6_212 : Cond.instanceMethod yX9_partCountByUnions ∈ AL := AL_in (T6 (List.mem_of_getElem? (i := 212) rfl)) rfl
theorem w6_213 : Cond.selects RX9 yX9_partCountByUnions yX9_partCountByUnions ∈ AL := AL_in (T6 (List.mem_of_getElem? (i := 213) rfl)) rfl
theorem kL_235 : Cond.methodLink RL 235 yX9_partCountByUnions ∈ AL ∧ Cond.instanceMethod yX9_partCountByUnions ∈ AL ∧ Cond.selects mX9_partCountByUnions.1.cls yX9_partCountByUnions yX9_partCountByUnions ∈ AL := ⟨w6_211, w6_212, w6_213⟩
theorem w6_215 : Cond.methodLink RX9 157 yX9_partCount ∈ AL := AL_in (T6 (List.mem_of_getElem? (i := 215) rfl)) rfl
theorem kX9_157 : Cond.methodLink RX9 157 yX9_partCount ∈ AL ∧ Cond.instanceMethod yX9_partCount ∈ AL ∧ Cond.selects mX9_partCount.1.cls yX9_partCount yX9_partCount ∈ AL := ⟨w6_215, w6_208, w6_209⟩
theorem w6_216 : Cond.methodLink RL 238 yX9_nearestCushion ∈ AL := AL_in (T6 (List.mem_of_getElem? (i := 216) rfl)) rfl
theorem w6_217 : Cond.instanceMethod yX9_nearestCushion ∈ AL := AL_in (T6 (List.mem_of_getElem? (i := 217) rfl)) rfl
theorem w6_218 : Cond.selects RX9 yX9_nearestCushion yX9_nearestCushion ∈ AL := AL_in (T6 (List.mem_of_getElem? (i := 218) rfl)) rfl
theorem kL_238 : Cond.methodLink RL 238 yX9_nearestCushion ∈ AL ∧ Cond.instanceMethod yX9_nearestCushion ∈ AL ∧ Cond.selects mX9_nearestCushion.1.cls yX9_nearestCushion yX9_nearestCushion ∈ AL := ⟨w6_216, w6_217, w6_218⟩
theorem w6_220 : Cond.methodLink RL 241 yX9_addTrain ∈ AL := AL_in (T6 (List.mem_of_getElem? (i := 220) rfl)) rfl
theorem w6_221 : Cond.instanceMethod yX9_addTrain ∈ AL := AL_in (T6 (List.mem_of_getElem? (i := 221) rfl)) rfl
theorem w6_222 : Cond.selects RX9 yX9_addTrain yX9_addTrain ∈ AL := AL_in (T6 (List.mem_of_getElem? (i := 222) rfl)) rfl
theorem kL_241 : Cond.methodLink RL 241 yX9_addTrain ∈ AL ∧ Cond.instanceMethod yX9_addTrain ∈ AL ∧ Cond.selects mX9_addTrain.1.cls yX9_addTrain yX9_addTrain ∈ AL := ⟨w6_220, w6_221, w6_222⟩
theorem w6_224 : Cond.methodLink RX9 160 yX9_starts ∈ AL := AL_in (T6 (List.mem_of_getElem? (i := 224) rfl)) rfl
theorem w6_226 : Cond.instanceMethod yX9_starts ∈ AL := AL_in (T6 (List.mem_of_getElem? (i := 226) rfl)) rfl
theorem w0_40 : Cond.selects RX9 yX9_starts yX9_starts ∈ AL := AL_in (T0 (List.mem_of_getElem? (i := 40) rfl)) rfl
theorem kX9_160 : Cond.methodLink RX9 160 yX9_starts ∈ AL ∧ Cond.instanceMethod yX9_starts ∈ AL ∧ Cond.selects mX9_starts.1.cls yX9_starts yX9_starts ∈ AL := ⟨w6_224, w6_226, w0_40⟩
theorem w6_228 : Cond.methodLink RX9 105 yX9_sets ∈ AL := AL_in (T6 (List.mem_of_getElem? (i := 228) rfl)) rfl
theorem w6_230 : Cond.instanceMethod yX9_sets ∈ AL := AL_in (T6 (List.mem_of_getElem? (i := 230) rfl)) rfl
theorem w0_41 : Cond.selects RX9 yX9_sets yX9_sets ∈ AL := AL_in (T0 (List.mem_of_getElem? (i := 41) rfl)) rfl
theorem kX9_105 : Cond.methodLink RX9 105 yX9_sets ∈ AL ∧ Cond.instanceMethod yX9_sets ∈ AL ∧ Cond.selects mX9_sets.1.cls yX9_sets yX9_sets ∈ AL := ⟨w6_228, w6_230, w0_41⟩
theorem w6_232 : Cond.methodLink RL 244 yX9_setGoal ∈ AL := AL_in (T6 (List.mem_of_getElem? (i := 232) rfl)) rfl
theorem w6_233 : Cond.instanceMethod yX9_setGoal ∈ AL := AL_in (T6 (List.mem_of_getElem? (i := 233) rfl)) rfl
theorem w6_234 : Cond.selects RX9 yX9_setGoal yX9_setGoal ∈ AL := AL_in (T6 (List.mem_of_getElem? (i := 234) rfl)) rfl
theorem kL_244 : Cond.methodLink RL 244 yX9_setGoal ∈ AL ∧ Cond.instanceMethod yX9_setGoal ∈ AL ∧ Cond.selects mX9_setGoal.1.cls yX9_setGoal yX9_setGoal ∈ AL := ⟨w6_232, w6_233, w6_234⟩
theorem w6_236 : Cond.methodLink RX9 163 yX9_aims ∈ AL := AL_in (T6 (List.mem_of_getElem? (i := 236) rfl)) rfl
theorem w6_238 : Cond.instanceMethod yX9_aims ∈ AL := AL_in (T6 (List.mem_of_getElem? (i := 238) rfl)) rfl
theorem w0_42 : Cond.selects RX9 yX9_aims yX9_aims ∈ AL := AL_in (T0 (List.mem_of_getElem? (i := 42) rfl)) rfl
theorem kX9_163 : Cond.methodLink RX9 163 yX9_aims ∈ AL ∧ Cond.instanceMethod yX9_aims ∈ AL ∧ Cond.selects mX9_aims.1.cls yX9_aims yX9_aims ∈ AL := ⟨w6_236, w6_238, w0_42⟩
theorem w7_0 : Cond.methodLink RL 247 yX9_clearGoal ∈ AL := AL_in (T7 (List.mem_of_getElem? (i := 0) rfl)) rfl
theorem w7_1 : Cond.instanceMethod yX9_clearGoal ∈ AL := AL_in (T7 (List.mem_of_getElem? (i := 1) rfl)) rfl
theorem w7_2 : Cond.selects RX9 yX9_clearGoal yX9_clearGoal ∈ AL := AL_in (T7 (List.mem_of_getElem? (i := 2) rfl)) rfl
theorem kL_247 : Cond.methodLink RL 247 yX9_clearGoal ∈ AL ∧ Cond.instanceMethod yX9_clearGoal ∈ AL ∧ Cond.selects mX9_clearGoal.1.cls yX9_clearGoal yX9_clearGoal ∈ AL := ⟨w7_0, w7_1, w7_2⟩
theorem w7_4 : Cond.methodLink RX9 166 yX9_forgets ∈ AL := AL_in (T7 (List.mem_of_getElem? (i := 4) rfl)) rfl
theorem w7_6 : Cond.instanceMethod yX9_forgets ∈ AL := AL_in (T7 (List.mem_of_getElem? (i := 6) rfl)) rfl
theorem w0_43 : Cond.selects RX9 yX9_forgets yX9_forgets ∈ AL := AL_in (T0 (List.mem_of_getElem? (i := 43) rfl)) rfl
theorem kX9_166 : Cond.methodLink RX9 166 yX9_forgets ∈ AL ∧ Cond.instanceMethod yX9_forgets ∈ AL ∧ Cond.selects mX9_forgets.1.cls yX9_forgets yX9_forgets ∈ AL := ⟨w7_4, w7_6, w0_43⟩
theorem w7_8 : Cond.methodLink RL 250 yX9_reserve ∈ AL := AL_in (T7 (List.mem_of_getElem? (i := 8) rfl)) rfl
theorem w7_9 : Cond.instanceMethod yX9_reserve ∈ AL := AL_in (T7 (List.mem_of_getElem? (i := 9) rfl)) rfl
theorem w7_10 : Cond.selects RX9 yX9_reserve yX9_reserve ∈ AL := AL_in (T7 (List.mem_of_getElem? (i := 10) rfl)) rfl
theorem kL_250 : Cond.methodLink RL 250 yX9_reserve ∈ AL ∧ Cond.instanceMethod yX9_reserve ∈ AL ∧ Cond.selects mX9_reserve.1.cls yX9_reserve yX9_reserve ∈ AL := ⟨w7_8, w7_9, w7_10⟩
theorem w7_12 : Cond.methodLink RX9 169 yX9_holds ∈ AL := AL_in (T7 (List.mem_of_getElem? (i := 12) rfl)) rfl
theorem w7_14 : Cond.instanceMethod yX9_holds ∈ AL := AL_in (T7 (List.mem_of_getElem? (i := 14) rfl)) rfl
theorem w0_44 : Cond.selects RX9 yX9_holds yX9_holds ∈ AL := AL_in (T0 (List.mem_of_getElem? (i := 44) rfl)) rfl
theorem kX9_169 : Cond.methodLink RX9 169 yX9_holds ∈ AL ∧ Cond.instanceMethod yX9_holds ∈ AL ∧ Cond.selects mX9_holds.1.cls yX9_holds yX9_holds ∈ AL := ⟨w7_12, w7_14, w0_44⟩
theorem w7_16 : Cond.methodLink RX9 112 yX9_held ∈ AL := AL_in (T7 (List.mem_of_getElem? (i := 16) rfl)) rfl
theorem w7_18 : Cond.instanceMethod yX9_held ∈ AL := AL_in (T7 (List.mem_of_getElem? (i := 18) rfl)) rfl
theorem w0_45 : Cond.selects RX9 yX9_held yX9_held ∈ AL := AL_in (T0 (List.mem_of_getElem? (i := 45) rfl)) rfl
theorem kX9_112 : Cond.methodLink RX9 112 yX9_held ∈ AL ∧ Cond.instanceMethod yX9_held ∈ AL ∧ Cond.selects mX9_held.1.cls yX9_held yX9_held ∈ AL := ⟨w7_16, w7_18, w0_45⟩
theorem w7_20 : Cond.methodLink RL 253 yX9_cancelReservation ∈ AL := AL_in (T7 (List.mem_of_getElem? (i := 20) rfl)) rfl
theorem w7_21 : Cond.instanceMethod yX9_cancelReservation ∈ AL := AL_in (T7 (List.mem_of_getElem? (i := 21) rfl)) rfl
theorem w7_22 : Cond.selects RX9 yX9_cancelReservation yX9_cancelReservation ∈ AL := AL_in (T7 (List.mem_of_getElem? (i := 22) rfl)) rfl
theorem kL_253 : Cond.methodLink RL 253 yX9_cancelReservation ∈ AL ∧ Cond.instanceMethod yX9_cancelReservation ∈ AL ∧ Cond.selects mX9_cancelReservation.1.cls yX9_cancelReservation yX9_cancelReservation ∈ AL := ⟨w7_20, w7_21, w7_22⟩
theorem w7_24 : Cond.methodLink RX9 172 yX9_frees ∈ AL := AL_in (T7 (List.mem_of_getElem? (i := 24) rfl)) rfl
theorem w7_26 : Cond.instanceMethod yX9_frees ∈ AL := AL_in (T7 (List.mem_of_getElem? (i := 26) rfl)) rfl
theorem w0_46 : Cond.selects RX9 yX9_frees yX9_frees ∈ AL := AL_in (T0 (List.mem_of_getElem? (i := 46) rfl)) rfl
theorem kX9_172 : Cond.methodLink RX9 172 yX9_frees ∈ AL ∧ Cond.instanceMethod yX9_frees ∈ AL ∧ Cond.selects mX9_frees.1.cls yX9_frees yX9_frees ∈ AL := ⟨w7_24, w7_26, w0_46⟩
theorem w7_28 : Cond.methodLink RL 256 yX9_rescue ∈ AL := AL_in (T7 (List.mem_of_getElem? (i := 28) rfl)) rfl
theorem w7_29 : Cond.instanceMethod yX9_rescue ∈ AL := AL_in (T7 (List.mem_of_getElem? (i := 29) rfl)) rfl
theorem w7_30 : Cond.selects RX9 yX9_rescue yX9_rescue ∈ AL := AL_in (T7 (List.mem_of_getElem? (i := 30) rfl)) rfl
theorem kL_256 : Cond.methodLink RL 256 yX9_rescue ∈ AL ∧ Cond.instanceMethod yX9_rescue ∈ AL ∧ Cond.selects mX9_rescue.1.cls yX9_rescue yX9_rescue ∈ AL := ⟨w7_28, w7_29, w7_30⟩
theorem w7_32 : Cond.methodLink RX9 175 yX9_rescues ∈ AL := AL_in (T7 (List.mem_of_getElem? (i := 32) rfl)) rfl
theorem w7_34 : Cond.instanceMethod yX9_rescues ∈ AL := AL_in (T7 (List.mem_of_getElem? (i := 34) rfl)) rfl
theorem w0_47 : Cond.selects RX9 yX9_rescues yX9_rescues ∈ AL := AL_in (T0 (List.mem_of_getElem? (i := 47) rfl)) rfl
theorem kX9_175 : Cond.methodLink RX9 175 yX9_rescues ∈ AL ∧ Cond.instanceMethod yX9_rescues ∈ AL ∧ Cond.selects mX9_rescues.1.cls yX9_rescues yX9_rescues ∈ AL := ⟨w7_32, w7_34, w0_47⟩
theorem w7_36 : Cond.methodLink RL 260 yX9_trainCount ∈ AL := AL_in (T7 (List.mem_of_getElem? (i := 36) rfl)) rfl
theorem w7_37 : Cond.instanceMethod yX9_trainCount ∈ AL := AL_in (T7 (List.mem_of_getElem? (i := 37) rfl)) rfl
theorem w7_38 : Cond.selects RX9 yX9_trainCount yX9_trainCount ∈ AL := AL_in (T7 (List.mem_of_getElem? (i := 38) rfl)) rfl
theorem kL_260 : Cond.methodLink RL 260 yX9_trainCount ∈ AL ∧ Cond.instanceMethod yX9_trainCount ∈ AL ∧ Cond.selects mX9_trainCount.1.cls yX9_trainCount yX9_trainCount ∈ AL := ⟨w7_36, w7_37, w7_38⟩
theorem w7_40 : Cond.methodLink RL 263 yX9_blockOf ∈ AL := AL_in (T7 (List.mem_of_getElem? (i := 40) rfl)) rfl
theorem w7_41 : Cond.instanceMethod yX9_blockOf ∈ AL := AL_in (T7 (List.mem_of_getElem? (i := 41) rfl)) rfl
theorem w7_42 : Cond.selects RX9 yX9_blockOf yX9_blockOf ∈ AL := AL_in (T7 (List.mem_of_getElem? (i := 42) rfl)) rfl
theorem kL_263 : Cond.methodLink RL 263 yX9_blockOf ∈ AL ∧ Cond.instanceMethod yX9_blockOf ∈ AL ∧ Cond.selects mX9_blockOf.1.cls yX9_blockOf yX9_blockOf ∈ AL := ⟨w7_40, w7_41, w7_42⟩
theorem w7_44 : Cond.methodLink RX9 178 yX9_asked ∈ AL := AL_in (T7 (List.mem_of_getElem? (i := 44) rfl)) rfl
theorem w7_46 : Cond.instanceMethod yX9_asked ∈ AL := AL_in (T7 (List.mem_of_getElem? (i := 46) rfl)) rfl
theorem w0_48 : Cond.selects RX9 yX9_asked yX9_asked ∈ AL := AL_in (T0 (List.mem_of_getElem? (i := 48) rfl)) rfl
theorem kX9_178 : Cond.methodLink RX9 178 yX9_asked ∈ AL ∧ Cond.instanceMethod yX9_asked ∈ AL ∧ Cond.selects mX9_asked.1.cls yX9_asked yX9_asked ∈ AL := ⟨w7_44, w7_46, w0_48⟩
theorem w7_48 : Cond.methodLink RL 266 yX9_priority ∈ AL := AL_in (T7 (List.mem_of_getElem? (i := 48) rfl)) rfl
theorem w7_49 : Cond.instanceMethod yX9_priority ∈ AL := AL_in (T7 (List.mem_of_getElem? (i := 49) rfl)) rfl
theorem w7_50 : Cond.selects RX9 yX9_priority yX9_priority ∈ AL := AL_in (T7 (List.mem_of_getElem? (i := 50) rfl)) rfl
theorem kL_266 : Cond.methodLink RL 266 yX9_priority ∈ AL ∧ Cond.instanceMethod yX9_priority ∈ AL ∧ Cond.selects mX9_priority.1.cls yX9_priority yX9_priority ∈ AL := ⟨w7_48, w7_49, w7_50⟩
theorem w7_52 : Cond.methodLink RL 269 yX9_remainingTicks ∈ AL := AL_in (T7 (List.mem_of_getElem? (i := 52) rfl)) rfl
theorem w7_53 : Cond.instanceMethod yX9_remainingTicks ∈ AL := AL_in (T7 (List.mem_of_getElem? (i := 53) rfl)) rfl
theorem w7_54 : Cond.selects RX9 yX9_remainingTicks yX9_remainingTicks ∈ AL := AL_in (T7 (List.mem_of_getElem? (i := 54) rfl)) rfl
theorem kL_269 : Cond.methodLink RL 269 yX9_remainingTicks ∈ AL ∧ Cond.instanceMethod yX9_remainingTicks ∈ AL ∧ Cond.selects mX9_remainingTicks.1.cls yX9_remainingTicks yX9_remainingTicks ∈ AL := ⟨w7_52, w7_53, w7_54⟩
theorem w7_56 : Cond.methodLink RL 272 yX9_goal ∈ AL := AL_in (T7 (List.mem_of_getElem? (i := 56) rfl)) rfl
theorem w7_57 : Cond.instanceMethod yX9_goal ∈ AL := AL_in (T7 (List.mem_of_getElem? (i := 57) rfl)) rfl
theorem w7_58 : Cond.selects RX9 yX9_goal yX9_goal ∈ AL := AL_in (T7 (List.mem_of_getElem? (i := 58) rfl)) rfl
theorem kL_272 : Cond.methodLink RL 272 yX9_goal ∈ AL ∧ Cond.instanceMethod yX9_goal ∈ AL ∧ Cond.selects mX9_goal.1.cls yX9_goal yX9_goal ∈ AL := ⟨w7_56, w7_57, w7_58⟩
theorem w7_60 : Cond.methodLink RL 275 yX9_isDerailed ∈ AL := AL_in (T7 (List.mem_of_getElem? (i := 60) rfl)) rfl
theorem w7_61 : Cond.instanceMethod yX9_isDerailed ∈ AL := AL_in (T7 (List.mem_of_getElem? (i := 61) rfl)) rfl
theorem w7_62 : Cond.selects RX9 yX9_isDerailed yX9_isDerailed ∈ AL := AL_in (T7 (List.mem_of_getElem? (i := 62) rfl)) rfl
theorem kL_275 : Cond.methodLink RL 275 yX9_isDerailed ∈ AL ∧ Cond.instanceMethod yX9_isDerailed ∈ AL ∧ Cond.selects mX9_isDerailed.1.cls yX9_isDerailed yX9_isDerailed ∈ AL := ⟨w7_60, w7_61, w7_62⟩
theorem w7_64 : Cond.methodLink RL 278 yX9_waits ∈ AL := AL_in (T7 (List.mem_of_getElem? (i := 64) rfl)) rfl
theorem w7_65 : Cond.instanceMethod yX9_waits ∈ AL := AL_in (T7 (List.mem_of_getElem? (i := 65) rfl)) rfl
theorem w7_66 : Cond.selects RX9 yX9_waits yX9_waits ∈ AL := AL_in (T7 (List.mem_of_getElem? (i := 66) rfl)) rfl
theorem kL_278 : Cond.methodLink RL 278 yX9_waits ∈ AL ∧ Cond.instanceMethod yX9_waits ∈ AL ∧ Cond.selects mX9_waits.1.cls yX9_waits yX9_waits ∈ AL := ⟨w7_64, w7_65, w7_66⟩
theorem w7_68 : Cond.methodLink RL 281 yX9_trainByPriority ∈ AL := AL_in (T7 (List.mem_of_getElem? (i := 68) rfl)) rfl
theorem w7_69 : Cond.instanceMethod yX9_trainByPriority ∈ AL := AL_in (T7 (List.mem_of_getElem? (i := 69) rfl)) rfl
theorem w7_70 : Cond.selects RX9 yX9_trainByPriority yX9_trainByPriority ∈ AL := AL_in (T7 (List.mem_of_getElem? (i := 70) rfl)) rfl
theorem kL_281 : Cond.methodLink RL 281 yX9_trainByPriority ∈ AL ∧ Cond.instanceMethod yX9_trainByPriority ∈ AL ∧ Cond.selects mX9_trainByPriority.1.cls yX9_trainByPriority yX9_trainByPriority ∈ AL := ⟨w7_68, w7_69, w7_70⟩
theorem w7_72 : Cond.methodLink RX9 118 yX9_ranked ∈ AL := AL_in (T7 (List.mem_of_getElem? (i := 72) rfl)) rfl
theorem w7_74 : Cond.instanceMethod yX9_ranked ∈ AL := AL_in (T7 (List.mem_of_getElem? (i := 74) rfl)) rfl
theorem w0_49 : Cond.selects RX9 yX9_ranked yX9_ranked ∈ AL := AL_in (T0 (List.mem_of_getElem? (i := 49) rfl)) rfl
theorem kX9_118 : Cond.methodLink RX9 118 yX9_ranked ∈ AL ∧ Cond.instanceMethod yX9_ranked ∈ AL ∧ Cond.selects mX9_ranked.1.cls yX9_ranked yX9_ranked ∈ AL := ⟨w7_72, w7_74, w0_49⟩
theorem w7_76 : Cond.methodLink RL 284 yX9_blockedBy ∈ AL := AL_in (T7 (List.mem_of_getElem? (i := 76) rfl)) rfl
theorem w7_77 : Cond.instanceMethod yX9_blockedBy ∈ AL := AL_in (T7 (List.mem_of_getElem? (i := 77) rfl)) rfl
theorem w7_78 : Cond.selects RX9 yX9_blockedBy yX9_blockedBy ∈ AL := AL_in (T7 (List.mem_of_getElem? (i := 78) rfl)) rfl
theorem kL_284 : Cond.methodLink RL 284 yX9_blockedBy ∈ AL ∧ Cond.instanceMethod yX9_blockedBy ∈ AL ∧ Cond.selects mX9_blockedBy.1.cls yX9_blockedBy yX9_blockedBy ∈ AL := ⟨w7_76, w7_77, w7_78⟩
theorem w7_80 : Cond.methodLink RX9 181 yX9_blocker ∈ AL := AL_in (T7 (List.mem_of_getElem? (i := 80) rfl)) rfl
theorem w7_82 : Cond.instanceMethod yX9_blocker ∈ AL := AL_in (T7 (List.mem_of_getElem? (i := 82) rfl)) rfl
theorem w0_50 : Cond.selects RX9 yX9_blocker yX9_blocker ∈ AL := AL_in (T0 (List.mem_of_getElem? (i := 50) rfl)) rfl
theorem kX9_181 : Cond.methodLink RX9 181 yX9_blocker ∈ AL ∧ Cond.instanceMethod yX9_blocker ∈ AL ∧ Cond.selects mX9_blocker.1.cls yX9_blocker yX9_blocker ∈ AL := ⟨w7_80, w7_82, w0_50⟩
theorem w7_84 : Cond.methodLink RL 288 yX9_deadlocked ∈ AL := AL_in (T7 (List.mem_of_getElem? (i := 84) rfl)) rfl
theorem w7_85 : Cond.instanceMethod yX9_deadlocked ∈ AL := AL_in (T7 (List.mem_of_getElem? (i := 85) rfl)) rfl
theorem w7_86 : Cond.selects RX9 yX9_deadlocked yX9_deadlocked ∈ AL := AL_in (T7 (List.mem_of_getElem? (i := 86) rfl)) rfl
theorem kL_288 : Cond.methodLink RL 288 yX9_deadlocked ∈ AL ∧ Cond.instanceMethod yX9_deadlocked ∈ AL ∧ Cond.selects mX9_deadlocked.1.cls yX9_deadlocked yX9_deadlocked ∈ AL := ⟨w7_84, w7_85, w7_86⟩
theorem w7_88 : Cond.methodLink RL 292 yX9_deadlockedByTable ∈ AL := AL_in (T7 (List.mem_of_getElem? (i := 88) rfl)) rfl
theorem w7_89 : Cond.instanceMethod yX9_deadlockedByTable ∈ AL := AL_in (T7 (List.mem_of_getElem? (i := 89) rfl)) rfl
theorem w7_90 : Cond.selects RX9 yX9_deadlockedByTable yX9_deadlockedByTable ∈ AL := AL_in (T7 (List.mem_of_getElem? (i := 90) rfl)) rfl
theorem kL_292 : Cond.methodLink RL 292 yX9_deadlockedByTable ∈ AL ∧ Cond.instanceMethod yX9_deadlockedByTable ∈ AL ∧ Cond.selects mX9_deadlockedByTable.1.cls yX9_deadlockedByTable yX9_deadlockedByTable ∈ AL := ⟨w7_88, w7_89, w7_90⟩
theorem w7_92 : Cond.methodLink RX9 184 yX9_deadlocked ∈ AL := AL_in (T7 (List.mem_of_getElem? (i := 92) rfl)) rfl
theorem kX9_184 : Cond.methodLink RX9 184 yX9_deadlocked ∈ AL ∧ Cond.instanceMethod yX9_deadlocked ∈ AL ∧ Cond.selects mX9_deadlocked.1.cls yX9_deadlocked yX9_deadlocked ∈ AL := ⟨w7_92, w7_85, w7_86⟩
theorem w7_93 : Cond.methodLink RL 295 yX9_passTicks ∈ AL := AL_in (T7 (List.mem_of_getElem? (i := 93) rfl)) rfl
theorem w7_94 : Cond.instanceMethod yX9_passTicks ∈ AL := AL_in (T7 (List.mem_of_getElem? (i := 94) rfl)) rfl
theorem w7_95 : Cond.selects RX9 yX9_passTicks yX9_passTicks ∈ AL := AL_in (T7 (List.mem_of_getElem? (i := 95) rfl)) rfl
theorem kL_295 : Cond.methodLink RL 295 yX9_passTicks ∈ AL ∧ Cond.instanceMethod yX9_passTicks ∈ AL ∧ Cond.selects mX9_passTicks.1.cls yX9_passTicks yX9_passTicks ∈ AL := ⟨w7_93, w7_94, w7_95⟩
theorem w7_97 : Cond.methodLink RX9 187 yX9_passes ∈ AL := AL_in (T7 (List.mem_of_getElem? (i := 97) rfl)) rfl
theorem w7_99 : Cond.instanceMethod yX9_passes ∈ AL := AL_in (T7 (List.mem_of_getElem? (i := 99) rfl)) rfl
theorem w0_51 : Cond.selects RX9 yX9_passes yX9_passes ∈ AL := AL_in (T0 (List.mem_of_getElem? (i := 51) rfl)) rfl
theorem kX9_187 : Cond.methodLink RX9 187 yX9_passes ∈ AL ∧ Cond.instanceMethod yX9_passes ∈ AL ∧ Cond.selects mX9_passes.1.cls yX9_passes yX9_passes ∈ AL := ⟨w7_97, w7_99, w0_51⟩
theorem w7_101 : Cond.methodLink RX9 124 yX9_oneTick ∈ AL := AL_in (T7 (List.mem_of_getElem? (i := 101) rfl)) rfl
theorem w7_103 : Cond.instanceMethod yX9_oneTick ∈ AL := AL_in (T7 (List.mem_of_getElem? (i := 103) rfl)) rfl
theorem w0_52 : Cond.selects RX9 yX9_oneTick yX9_oneTick ∈ AL := AL_in (T0 (List.mem_of_getElem? (i := 52) rfl)) rfl
theorem kX9_124 : Cond.methodLink RX9 124 yX9_oneTick ∈ AL ∧ Cond.instanceMethod yX9_oneTick ∈ AL ∧ Cond.selects mX9_oneTick.1.cls yX9_oneTick yX9_oneTick ∈ AL := ⟨w7_101, w7_103, w0_52⟩
theorem w7_105 : Cond.methodLink RX9 121 yX9_acts ∈ AL := AL_in (T7 (List.mem_of_getElem? (i := 105) rfl)) rfl
theorem w7_107 : Cond.instanceMethod yX9_acts ∈ AL := AL_in (T7 (List.mem_of_getElem? (i := 107) rfl)) rfl
theorem w0_53 : Cond.selects RX9 yX9_acts yX9_acts ∈ AL := AL_in (T0 (List.mem_of_getElem? (i := 53) rfl)) rfl
theorem kX9_121 : Cond.methodLink RX9 121 yX9_acts ∈ AL ∧ Cond.instanceMethod yX9_acts ∈ AL ∧ Cond.selects mX9_acts.1.cls yX9_acts yX9_acts ∈ AL := ⟨w7_105, w7_107, w0_53⟩
theorem w7_109 : Cond.methodLink RL 299 yX9_ticks ∈ AL := AL_in (T7 (List.mem_of_getElem? (i := 109) rfl)) rfl
theorem w7_110 : Cond.instanceMethod yX9_ticks ∈ AL := AL_in (T7 (List.mem_of_getElem? (i := 110) rfl)) rfl
theorem w7_111 : Cond.selects RX9 yX9_ticks yX9_ticks ∈ AL := AL_in (T7 (List.mem_of_getElem? (i := 111) rfl)) rfl
theorem kL_299 : Cond.methodLink RL 299 yX9_ticks ∈ AL ∧ Cond.instanceMethod yX9_ticks ∈ AL ∧ Cond.selects mX9_ticks.1.cls yX9_ticks yX9_ticks ∈ AL := ⟨w7_109, w7_110, w7_111⟩
theorem w7_113 : Cond.methodLink RL 303 yX9_arrivals ∈ AL := AL_in (T7 (List.mem_of_getElem? (i := 113) rfl)) rfl
theorem w7_114 : Cond.instanceMethod yX9_arrivals ∈ AL := AL_in (T7 (List.mem_of_getElem? (i := 114) rfl)) rfl
theorem w7_115 : Cond.selects RX9 yX9_arrivals yX9_arrivals ∈ AL := AL_in (T7 (List.mem_of_getElem? (i := 115) rfl)) rfl
theorem kL_303 : Cond.methodLink RL 303 yX9_arrivals ∈ AL ∧ Cond.instanceMethod yX9_arrivals ∈ AL ∧ Cond.selects mX9_arrivals.1.cls yX9_arrivals yX9_arrivals ∈ AL := ⟨w7_113, w7_114, w7_115⟩
theorem w7_117 : Cond.methodLink RL 306 yX9_ticksUntilArrival ∈ AL := AL_in (T7 (List.mem_of_getElem? (i := 117) rfl)) rfl
theorem w7_118 : Cond.instanceMethod yX9_ticksUntilArrival ∈ AL := AL_in (T7 (List.mem_of_getElem? (i := 118) rfl)) rfl
theorem w7_119 : Cond.selects RX9 yX9_ticksUntilArrival yX9_ticksUntilArrival ∈ AL := AL_in (T7 (List.mem_of_getElem? (i := 119) rfl)) rfl
theorem kL_306 : Cond.methodLink RL 306 yX9_ticksUntilArrival ∈ AL ∧ Cond.instanceMethod yX9_ticksUntilArrival ∈ AL ∧ Cond.selects mX9_ticksUntilArrival.1.cls yX9_ticksUntilArrival yX9_ticksUntilArrival ∈ AL := ⟨w7_117, w7_118, w7_119⟩
theorem w7_121 : Cond.methodLink RL 310 yX9_meanWaits ∈ AL := AL_in (T7 (List.mem_of_getElem? (i := 121) rfl)) rfl
theorem w7_122 : Cond.instanceMethod yX9_meanWaits ∈ AL := AL_in (T7 (List.mem_of_getElem? (i := 122) rfl)) rfl
theorem w7_123 : Cond.selects RX9 yX9_meanWaits yX9_meanWaits ∈ AL := AL_in (T7 (List.mem_of_getElem? (i := 123) rfl)) rfl
theorem kL_310 : Cond.methodLink RL 310 yX9_meanWaits ∈ AL ∧ Cond.instanceMethod yX9_meanWaits ∈ AL ∧ Cond.selects mX9_meanWaits.1.cls yX9_meanWaits yX9_meanWaits ∈ AL := ⟨w7_121, w7_122, w7_123⟩
theorem w7_125 : Cond.methodLink RL 313 yX9_occupiedFraction ∈ AL := AL_in (T7 (List.mem_of_getElem? (i := 125) rfl)) rfl
theorem w7_126 : Cond.instanceMethod yX9_occupiedFraction ∈ AL := AL_in (T7 (List.mem_of_getElem? (i := 126) rfl)) rfl
theorem w7_127 : Cond.selects RX9 yX9_occupiedFraction yX9_occupiedFraction ∈ AL := AL_in (T7 (List.mem_of_getElem? (i := 127) rfl)) rfl
theorem kL_313 : Cond.methodLink RL 313 yX9_occupiedFraction ∈ AL ∧ Cond.instanceMethod yX9_occupiedFraction ∈ AL ∧ Cond.selects mX9_occupiedFraction.1.cls yX9_occupiedFraction yX9_occupiedFraction ∈ AL := ⟨w7_125, w7_126, w7_127⟩
theorem w7_129 : Cond.methodLink RL 316 yX9_writeTrain ∈ AL := AL_in (T7 (List.mem_of_getElem? (i := 129) rfl)) rfl
theorem w7_130 : Cond.instanceMethod yX9_writeTrain ∈ AL := AL_in (T7 (List.mem_of_getElem? (i := 130) rfl)) rfl
theorem w7_131 : Cond.selects RX9 yX9_writeTrain yX9_writeTrain ∈ AL := AL_in (T7 (List.mem_of_getElem? (i := 131) rfl)) rfl
theorem kL_316 : Cond.methodLink RL 316 yX9_writeTrain ∈ AL ∧ Cond.instanceMethod yX9_writeTrain ∈ AL ∧ Cond.selects mX9_writeTrain.1.cls yX9_writeTrain yX9_writeTrain ∈ AL := ⟨w7_129, w7_130, w7_131⟩
theorem w7_133 : Cond.methodLink RX9 193 yX9_writes ∈ AL := AL_in (T7 (List.mem_of_getElem? (i := 133) rfl)) rfl
theorem w7_135 : Cond.instanceMethod yX9_writes ∈ AL := AL_in (T7 (List.mem_of_getElem? (i := 135) rfl)) rfl
theorem w0_54 : Cond.selects RX9 yX9_writes yX9_writes ∈ AL := AL_in (T0 (List.mem_of_getElem? (i := 54) rfl)) rfl
theorem kX9_193 : Cond.methodLink RX9 193 yX9_writes ∈ AL ∧ Cond.instanceMethod yX9_writes ∈ AL ∧ Cond.selects mX9_writes.1.cls yX9_writes yX9_writes ∈ AL := ⟨w7_133, w7_135, w0_54⟩
theorem w7_137 : Cond.methodLink RX9 196 yX9_writesNumber ∈ AL := AL_in (T7 (List.mem_of_getElem? (i := 137) rfl)) rfl
theorem w7_139 : Cond.instanceMethod yX9_writesNumber ∈ AL := AL_in (T7 (List.mem_of_getElem? (i := 139) rfl)) rfl
theorem w0_55 : Cond.selects RX9 yX9_writesNumber yX9_writesNumber ∈ AL := AL_in (T0 (List.mem_of_getElem? (i := 55) rfl)) rfl
theorem kX9_196 : Cond.methodLink RX9 196 yX9_writesNumber ∈ AL ∧ Cond.instanceMethod yX9_writesNumber ∈ AL ∧ Cond.selects mX9_writesNumber.1.cls yX9_writesNumber yX9_writesNumber ∈ AL := ⟨w7_137, w7_139, w0_55⟩
theorem w7_141 : Cond.methodLink RL 320 yX9_writeSignals ∈ AL := AL_in (T7 (List.mem_of_getElem? (i := 141) rfl)) rfl
theorem w7_142 : Cond.instanceMethod yX9_writeSignals ∈ AL := AL_in (T7 (List.mem_of_getElem? (i := 142) rfl)) rfl
theorem w7_143 : Cond.selects RX9 yX9_writeSignals yX9_writeSignals ∈ AL := AL_in (T7 (List.mem_of_getElem? (i := 143) rfl)) rfl
theorem kL_320 : Cond.methodLink RL 320 yX9_writeSignals ∈ AL ∧ Cond.instanceMethod yX9_writeSignals ∈ AL ∧ Cond.selects mX9_writeSignals.1.cls yX9_writeSignals yX9_writeSignals ∈ AL := ⟨w7_141, w7_142, w7_143⟩
theorem w7_145 : Cond.methodLink RL 323 yX9_outputCharacter ∈ AL := AL_in (T7 (List.mem_of_getElem? (i := 145) rfl)) rfl
theorem w7_146 : Cond.instanceMethod yX9_outputCharacter ∈ AL := AL_in (T7 (List.mem_of_getElem? (i := 146) rfl)) rfl
theorem w7_147 : Cond.selects RX9 yX9_outputCharacter yX9_outputCharacter ∈ AL := AL_in (T7 (List.mem_of_getElem? (i := 147) rfl)) rfl
theorem kL_323 : Cond.methodLink RL 323 yX9_outputCharacter ∈ AL ∧ Cond.instanceMethod yX9_outputCharacter ∈ AL ∧ Cond.selects mX9_outputCharacter.1.cls yX9_outputCharacter yX9_outputCharacter ∈ AL := ⟨w7_145, w7_146, w7_147⟩
theorem w7_149 : Cond.methodLink RL 328 yX9_isConsistent ∈ AL := AL_in (T7 (List.mem_of_getElem? (i := 149) rfl)) rfl
theorem w7_150 : Cond.instanceMethod yX9_isConsistent ∈ AL := AL_in (T7 (List.mem_of_getElem? (i := 150) rfl)) rfl
theorem w7_151 : Cond.selects RX9 yX9_isConsistent yX9_isConsistent ∈ AL := AL_in (T7 (List.mem_of_getElem? (i := 151) rfl)) rfl
theorem kL_328 : Cond.methodLink RL 328 yX9_isConsistent ∈ AL ∧ Cond.instanceMethod yX9_isConsistent ∈ AL ∧ Cond.selects mX9_isConsistent.1.cls yX9_isConsistent yX9_isConsistent ∈ AL := ⟨w7_149, w7_150, w7_151⟩
theorem w7_153 : Cond.methodLink RL 332 yX9_feed ∈ AL := AL_in (T7 (List.mem_of_getElem? (i := 153) rfl)) rfl
theorem w7_154 : Cond.instanceMethod yX9_feed ∈ AL := AL_in (T7 (List.mem_of_getElem? (i := 154) rfl)) rfl
theorem w7_155 : Cond.selects RX9 yX9_feed yX9_feed ∈ AL := AL_in (T7 (List.mem_of_getElem? (i := 155) rfl)) rfl
theorem kL_332 : Cond.methodLink RL 332 yX9_feed ∈ AL ∧ Cond.instanceMethod yX9_feed ∈ AL ∧ Cond.selects mX9_feed.1.cls yX9_feed yX9_feed ∈ AL := ⟨w7_153, w7_154, w7_155⟩
theorem w7_157 : Cond.methodLink RL 336 yX9_execute ∈ AL := AL_in (T7 (List.mem_of_getElem? (i := 157) rfl)) rfl
theorem w7_158 : Cond.instanceMethod yX9_execute ∈ AL := AL_in (T7 (List.mem_of_getElem? (i := 158) rfl)) rfl
theorem w7_159 : Cond.selects RX9 yX9_execute yX9_execute ∈ AL := AL_in (T7 (List.mem_of_getElem? (i := 159) rfl)) rfl
theorem kL_336 : Cond.methodLink RL 336 yX9_execute ∈ AL ∧ Cond.instanceMethod yX9_execute ∈ AL ∧ Cond.selects mX9_execute.1.cls yX9_execute yX9_execute ∈ AL := ⟨w7_157, w7_158, w7_159⟩
theorem w7_161 : Cond.methodLink RX9 269 yX9_readsOne ∈ AL := AL_in (T7 (List.mem_of_getElem? (i := 161) rfl)) rfl
theorem w7_163 : Cond.instanceMethod yX9_readsOne ∈ AL := AL_in (T7 (List.mem_of_getElem? (i := 163) rfl)) rfl
theorem w0_56 : Cond.selects RX9 yX9_readsOne yX9_readsOne ∈ AL := AL_in (T0 (List.mem_of_getElem? (i := 56) rfl)) rfl
theorem kX9_269 : Cond.methodLink RX9 269 yX9_readsOne ∈ AL ∧ Cond.instanceMethod yX9_readsOne ∈ AL ∧ Cond.selects mX9_readsOne.1.cls yX9_readsOne yX9_readsOne ∈ AL := ⟨w7_161, w7_163, w0_56⟩
theorem w7_165 : Cond.methodLink RX9 217 yX9_here ∈ AL := AL_in (T7 (List.mem_of_getElem? (i := 165) rfl)) rfl
theorem w7_167 : Cond.instanceMethod yX9_here ∈ AL := AL_in (T7 (List.mem_of_getElem? (i := 167) rfl)) rfl
theorem w0_57 : Cond.selects RX9 yX9_here yX9_here ∈ AL := AL_in (T0 (List.mem_of_getElem? (i := 57) rfl)) rfl
theorem kX9_217 : Cond.methodLink RX9 217 yX9_here ∈ AL ∧ Cond.instanceMethod yX9_here ∈ AL ∧ Cond.selects mX9_here.1.cls yX9_here yX9_here ∈ AL := ⟨w7_165, w7_167, w0_57⟩
theorem w7_170 : Cond.methodLink RX9 235 yX9_one ∈ AL := AL_in (T7 (List.mem_of_getElem? (i := 170) rfl)) rfl
theorem w7_172 : Cond.instanceMethod yX9_one ∈ AL := AL_in (T7 (List.mem_of_getElem? (i := 172) rfl)) rfl
theorem w0_58 : Cond.selects RX9 yX9_one yX9_one ∈ AL := AL_in (T0 (List.mem_of_getElem? (i := 58) rfl)) rfl
theorem kX9_235 : Cond.methodLink RX9 235 yX9_one ∈ AL ∧ Cond.instanceMethod yX9_one ∈ AL ∧ Cond.selects mX9_one.1.cls yX9_one yX9_one ∈ AL := ⟨w7_170, w7_172, w0_58⟩
theorem w7_174 : Cond.methodLink RX9 227 yX9_says ∈ AL := AL_in (T7 (List.mem_of_getElem? (i := 174) rfl)) rfl
theorem w7_176 : Cond.instanceMethod yX9_says ∈ AL := AL_in (T7 (List.mem_of_getElem? (i := 176) rfl)) rfl
theorem w0_59 : Cond.selects RX9 yX9_says yX9_says ∈ AL := AL_in (T0 (List.mem_of_getElem? (i := 59) rfl)) rfl
theorem kX9_227 : Cond.methodLink RX9 227 yX9_says ∈ AL ∧ Cond.instanceMethod yX9_says ∈ AL ∧ Cond.selects mX9_says.1.cls yX9_says yX9_says ∈ AL := ⟨w7_174, w7_176, w0_59⟩
theorem w7_178 : Cond.methodLink RX9 208 yJ0_length_8abf5 ∈ AL := AL_in (T7 (List.mem_of_getElem? (i := 178) rfl)) rfl
theorem kX9_208 : Cond.methodLink RX9 208 yJ0_length_8abf5 ∈ AL ∧ Cond.instanceMethod yJ0_length_8abf5 ∈ AL ∧ Cond.selects mJ0_length_8abf5.1.cls yJ0_length_8abf5 yJ0_length_8abf5 ∈ AL := ⟨w7_178, w5_74, w5_75⟩
theorem w7_179 : Cond.methodLink RX9 220 yJ0_charAt_5068e ∈ AL := AL_in (T7 (List.mem_of_getElem? (i := 179) rfl)) rfl
theorem kX9_220 : Cond.methodLink RX9 220 yJ0_charAt_5068e ∈ AL ∧ Cond.instanceMethod yJ0_charAt_5068e ∈ AL ∧ Cond.selects mJ0_charAt_5068e.1.cls yJ0_charAt_5068e yJ0_charAt_5068e ∈ AL := ⟨w7_179, w5_84, w5_85⟩
theorem w7_180 : Cond.methodLink RX9 231 yX9_number ∈ AL := AL_in (T7 (List.mem_of_getElem? (i := 180) rfl)) rfl
theorem w7_182 : Cond.instanceMethod yX9_number ∈ AL := AL_in (T7 (List.mem_of_getElem? (i := 182) rfl)) rfl
theorem w0_60 : Cond.selects RX9 yX9_number yX9_number ∈ AL := AL_in (T0 (List.mem_of_getElem? (i := 60) rfl)) rfl
theorem kX9_231 : Cond.methodLink RX9 231 yX9_number ∈ AL ∧ Cond.instanceMethod yX9_number ∈ AL ∧ Cond.selects mX9_number.1.cls yX9_number yX9_number ∈ AL := ⟨w7_180, w7_182, w0_60⟩
theorem w7_188 : Cond.methodLink RX9 249 yX9_two ∈ AL := AL_in (T7 (List.mem_of_getElem? (i := 188) rfl)) rfl
theorem w7_190 : Cond.instanceMethod yX9_two ∈ AL := AL_in (T7 (List.mem_of_getElem? (i := 190) rfl)) rfl
theorem w0_61 : Cond.selects RX9 yX9_two yX9_two ∈ AL := AL_in (T0 (List.mem_of_getElem? (i := 61) rfl)) rfl
theorem kX9_249 : Cond.methodLink RX9 249 yX9_two ∈ AL ∧ Cond.instanceMethod yX9_two ∈ AL ∧ Cond.selects mX9_two.1.cls yX9_two yX9_two ∈ AL := ⟨w7_188, w7_190, w0_61⟩
theorem w7_200 : Cond.methodLink RX9 272 yX9_does ∈ AL := AL_in (T7 (List.mem_of_getElem? (i := 200) rfl)) rfl
theorem w7_202 : Cond.instanceMethod yX9_does ∈ AL := AL_in (T7 (List.mem_of_getElem? (i := 202) rfl)) rfl
theorem w0_62 : Cond.selects RX9 yX9_does yX9_does ∈ AL := AL_in (T0 (List.mem_of_getElem? (i := 62) rfl)) rfl
theorem kX9_272 : Cond.methodLink RX9 272 yX9_does ∈ AL ∧ Cond.instanceMethod yX9_does ∈ AL ∧ Cond.selects mX9_does.1.cls yX9_does yX9_does ∈ AL := ⟨w7_200, w7_202, w0_62⟩
theorem w7_204 : Cond.methodLink RL 339 yX9_errorPosition ∈ AL := AL_in (T7 (List.mem_of_getElem? (i := 204) rfl)) rfl
theorem w7_205 : Cond.instanceMethod yX9_errorPosition ∈ AL := AL_in (T7 (List.mem_of_getElem? (i := 205) rfl)) rfl
theorem w7_206 : Cond.selects RX9 yX9_errorPosition yX9_errorPosition ∈ AL := AL_in (T7 (List.mem_of_getElem? (i := 206) rfl)) rfl
theorem kL_339 : Cond.methodLink RL 339 yX9_errorPosition ∈ AL ∧ Cond.instanceMethod yX9_errorPosition ∈ AL ∧ Cond.selects mX9_errorPosition.1.cls yX9_errorPosition yX9_errorPosition ∈ AL := ⟨w7_204, w7_205, w7_206⟩
theorem w7_208 : Cond.methodLink RL 342 yX9_failedCommand ∈ AL := AL_in (T7 (List.mem_of_getElem? (i := 208) rfl)) rfl
theorem w7_209 : Cond.instanceMethod yX9_failedCommand ∈ AL := AL_in (T7 (List.mem_of_getElem? (i := 209) rfl)) rfl
theorem w7_210 : Cond.selects RX9 yX9_failedCommand yX9_failedCommand ∈ AL := AL_in (T7 (List.mem_of_getElem? (i := 210) rfl)) rfl
theorem kL_342 : Cond.methodLink RL 342 yX9_failedCommand ∈ AL ∧ Cond.instanceMethod yX9_failedCommand ∈ AL ∧ Cond.selects mX9_failedCommand.1.cls yX9_failedCommand yX9_failedCommand ∈ AL := ⟨w7_208, w7_209, w7_210⟩
theorem w7_212 : Cond.methodLink RL 345 yX9_undo ∈ AL := AL_in (T7 (List.mem_of_getElem? (i := 212) rfl)) rfl
theorem w7_213 : Cond.instanceMethod yX9_undo ∈ AL := AL_in (T7 (List.mem_of_getElem? (i := 213) rfl)) rfl
theorem w7_214 : Cond.selects RX9 yX9_undo yX9_undo ∈ AL := AL_in (T7 (List.mem_of_getElem? (i := 214) rfl)) rfl
theorem kL_345 : Cond.methodLink RL 345 yX9_undo ∈ AL ∧ Cond.instanceMethod yX9_undo ∈ AL ∧ Cond.selects mX9_undo.1.cls yX9_undo yX9_undo ∈ AL := ⟨w7_212, w7_213, w7_214⟩
theorem w7_216 : Cond.methodLink RL 349 yX9_undoCount ∈ AL := AL_in (T7 (List.mem_of_getElem? (i := 216) rfl)) rfl
theorem w7_217 : Cond.instanceMethod yX9_undoCount ∈ AL := AL_in (T7 (List.mem_of_getElem? (i := 217) rfl)) rfl
theorem w7_218 : Cond.selects RX9 yX9_undoCount yX9_undoCount ∈ AL := AL_in (T7 (List.mem_of_getElem? (i := 218) rfl)) rfl
theorem kL_349 : Cond.methodLink RL 349 yX9_undoCount ∈ AL ∧ Cond.instanceMethod yX9_undoCount ∈ AL ∧ Cond.selects mX9_undoCount.1.cls yX9_undoCount yX9_undoCount ∈ AL := ⟨w7_216, w7_217, w7_218⟩
theorem w7_220 : Cond.methodLink RL 353 yX9_save ∈ AL := AL_in (T7 (List.mem_of_getElem? (i := 220) rfl)) rfl
theorem w7_221 : Cond.instanceMethod yX9_save ∈ AL := AL_in (T7 (List.mem_of_getElem? (i := 221) rfl)) rfl
theorem w7_222 : Cond.selects RX9 yX9_save yX9_save ∈ AL := AL_in (T7 (List.mem_of_getElem? (i := 222) rfl)) rfl
theorem kL_353 : Cond.methodLink RL 353 yX9_save ∈ AL ∧ Cond.instanceMethod yX9_save ∈ AL ∧ Cond.selects mX9_save.1.cls yX9_save yX9_save ∈ AL := ⟨w7_220, w7_221, w7_222⟩
theorem w7_224 : Cond.methodLink RL 356 yX9_restore ∈ AL := AL_in (T7 (List.mem_of_getElem? (i := 224) rfl)) rfl
theorem w7_225 : Cond.instanceMethod yX9_restore ∈ AL := AL_in (T7 (List.mem_of_getElem? (i := 225) rfl)) rfl
theorem w7_226 : Cond.selects RX9 yX9_restore yX9_restore ∈ AL := AL_in (T7 (List.mem_of_getElem? (i := 226) rfl)) rfl
theorem kL_356 : Cond.methodLink RL 356 yX9_restore ∈ AL ∧ Cond.instanceMethod yX9_restore ∈ AL ∧ Cond.selects mX9_restore.1.cls yX9_restore yX9_restore ∈ AL := ⟨w7_224, w7_225, w7_226⟩
theorem w1_40 : Cond.instanceMethod yX4_init ∈ AL := AL_in (T1 (List.mem_of_getElem? (i := 40) rfl)) rfl
theorem kX8_11 : (RX8, 11, yX4_init, "SofaRailway") ∈ SFM ∧ Cond.instanceMethod yX4_init ∈ AL := ⟨List.mem_of_getElem? (i := 0) rfl, w1_40⟩
theorem kX3_24 : (RX3, 24, yX4_init, "SofaRailway") ∈ SFM ∧ Cond.instanceMethod yX4_init ∈ AL := ⟨List.mem_of_getElem? (i := 1) rfl, w1_40⟩
theorem w1_142 : Cond.instanceMethod yX6_init ∈ AL := AL_in (T1 (List.mem_of_getElem? (i := 142) rfl)) rfl
theorem kX8_31 : (RX8, 31, yX6_init, "SofaRailway") ∈ SFM ∧ Cond.instanceMethod yX6_init ∈ AL := ⟨List.mem_of_getElem? (i := 2) rfl, w1_142⟩
theorem w1_161 : Cond.instanceMethod yX7_init ∈ AL := AL_in (T1 (List.mem_of_getElem? (i := 161) rfl)) rfl
theorem kX8_38 : (RX8, 38, yX7_init, "SofaRailway") ∈ SFM ∧ Cond.instanceMethod yX7_init ∈ AL := ⟨List.mem_of_getElem? (i := 3) rfl, w1_161⟩
theorem kX7_11 : (RX7, 11, yX6_init, "SofaRailway") ∈ SFM ∧ Cond.instanceMethod yX6_init ∈ AL := ⟨List.mem_of_getElem? (i := 4) rfl, w1_142⟩
theorem w1_179 : Cond.instanceMethod yX2_init ∈ AL := AL_in (T1 (List.mem_of_getElem? (i := 179) rfl)) rfl
theorem kX8_45 : (RX8, 45, yX2_init, "SofaRailway") ∈ SFM ∧ Cond.instanceMethod yX2_init ∈ AL := ⟨List.mem_of_getElem? (i := 5) rfl, w1_179⟩
theorem w1_214 : Cond.instanceMethod yX5_init ∈ AL := AL_in (T1 (List.mem_of_getElem? (i := 214) rfl)) rfl
theorem kX8_52 : (RX8, 52, yX5_init, "SofaRailway") ∈ SFM ∧ Cond.instanceMethod yX5_init ∈ AL := ⟨List.mem_of_getElem? (i := 6) rfl, w1_214⟩
theorem kX6_37 : (RX6, 37, yX8_has, "SofaRailway") ∈ SFM ∧ Cond.static yX8_has ∈ AL := ⟨List.mem_of_getElem? (i := 7) rfl, w2_33⟩
theorem kX4_64 : (RX4, 64, yX8_has, "SofaRailway") ∈ SFM ∧ Cond.static yX8_has ∈ AL := ⟨List.mem_of_getElem? (i := 8) rfl, w2_33⟩
theorem kX7_38 : (RX7, 38, yX8_has, "SofaRailway") ∈ SFM ∧ Cond.static yX8_has ∈ AL := ⟨List.mem_of_getElem? (i := 9) rfl, w2_33⟩
theorem w1_195 : Cond.laysFinal RX2 "SofaRailway$CommandReader" "text" "[C" ∈ AL := AL_in (T1 (List.mem_of_getElem? (i := 195) rfl)) rfl
theorem w1_197 : Cond.lays RX2 "SofaRailway$CommandReader" "size" "I" ∈ AL := AL_in (T1 (List.mem_of_getElem? (i := 197) rfl)) rfl
theorem w1_199 : Cond.lays RX2 "SofaRailway$CommandReader" "position" "I" ∈ AL := AL_in (T1 (List.mem_of_getElem? (i := 199) rfl)) rfl
theorem w1_201 : Cond.lays RX2 "SofaRailway$CommandReader" "ended" "Z" ∈ AL := AL_in (T1 (List.mem_of_getElem? (i := 201) rfl)) rfl
theorem w1_203 : Cond.lays RX2 "SofaRailway$CommandReader" "command" "LSofaRailway$Command;" ∈ AL := AL_in (T1 (List.mem_of_getElem? (i := 203) rfl)) rfl
theorem w1_205 : Cond.lays RX2 "SofaRailway$CommandReader" "first" "I" ∈ AL := AL_in (T1 (List.mem_of_getElem? (i := 205) rfl)) rfl
theorem w1_207 : Cond.lays RX2 "SofaRailway$CommandReader" "second" "I" ∈ AL := AL_in (T1 (List.mem_of_getElem? (i := 207) rfl)) rfl
theorem uwX2 : ∀ w ∈ u_ws RX2 TX2 7, w ∈ AL := List.forall_mem_cons.mpr ⟨w1_195, List.forall_mem_cons.mpr ⟨w1_197, List.forall_mem_cons.mpr ⟨w1_199, List.forall_mem_cons.mpr ⟨w1_201, List.forall_mem_cons.mpr ⟨w1_203, List.forall_mem_cons.mpr ⟨w1_205, List.forall_mem_cons.mpr ⟨w1_207, fun _ h => absurd h List.not_mem_nil⟩⟩⟩⟩⟩⟩⟩
theorem w1_132 : Cond.laysFinal RX3 "SofaRailway$History" "slots" "[LSofaRailway$Layout;" ∈ AL := AL_in (T1 (List.mem_of_getElem? (i := 132) rfl)) rfl
theorem w1_134 : Cond.lays RX3 "SofaRailway$History" "next" "I" ∈ AL := AL_in (T1 (List.mem_of_getElem? (i := 134) rfl)) rfl
theorem w1_136 : Cond.lays RX3 "SofaRailway$History" "count" "I" ∈ AL := AL_in (T1 (List.mem_of_getElem? (i := 136) rfl)) rfl
theorem uwX3 : ∀ w ∈ u_ws RX3 TX3 3, w ∈ AL := List.forall_mem_cons.mpr ⟨w1_132, List.forall_mem_cons.mpr ⟨w1_134, List.forall_mem_cons.mpr ⟨w1_136, fun _ h => absurd h List.not_mem_nil⟩⟩⟩
theorem w1_87 : Cond.lays RX4 "SofaRailway$Layout" "blocks" "I" ∈ AL := AL_in (T1 (List.mem_of_getElem? (i := 87) rfl)) rfl
theorem w1_89 : Cond.lays RX4 "SofaRailway$Layout" "trains" "I" ∈ AL := AL_in (T1 (List.mem_of_getElem? (i := 89) rfl)) rfl
theorem w1_91 : Cond.lays RX4 "SofaRailway$Layout" "ticks" "I" ∈ AL := AL_in (T1 (List.mem_of_getElem? (i := 91) rfl)) rfl
theorem w1_93 : Cond.lays RX4 "SofaRailway$Layout" "arrivals" "I" ∈ AL := AL_in (T1 (List.mem_of_getElem? (i := 93) rfl)) rfl
theorem w1_95 : Cond.lays RX4 "SofaRailway$Layout" "cushions" "I" ∈ AL := AL_in (T1 (List.mem_of_getElem? (i := 95) rfl)) rfl
theorem w1_97 : Cond.lays RX4 "SofaRailway$Layout" "cats" "I" ∈ AL := AL_in (T1 (List.mem_of_getElem? (i := 97) rfl)) rfl
theorem w1_99 : Cond.lays RX4 "SofaRailway$Layout" "derailed" "I" ∈ AL := AL_in (T1 (List.mem_of_getElem? (i := 99) rfl)) rfl
theorem w1_101 : Cond.laysFinal RX4 "SofaRailway$Layout" "lengths" "[I" ∈ AL := AL_in (T1 (List.mem_of_getElem? (i := 101) rfl)) rfl
theorem w1_103 : Cond.laysFinal RX4 "SofaRailway$Layout" "links" "[I" ∈ AL := AL_in (T1 (List.mem_of_getElem? (i := 103) rfl)) rfl
theorem w1_105 : Cond.laysFinal RX4 "SofaRailway$Layout" "places" "[I" ∈ AL := AL_in (T1 (List.mem_of_getElem? (i := 105) rfl)) rfl
theorem w1_107 : Cond.laysFinal RX4 "SofaRailway$Layout" "priorities" "[I" ∈ AL := AL_in (T1 (List.mem_of_getElem? (i := 107) rfl)) rfl
theorem w1_109 : Cond.laysFinal RX4 "SofaRailway$Layout" "remaining" "[I" ∈ AL := AL_in (T1 (List.mem_of_getElem? (i := 109) rfl)) rfl
theorem w1_111 : Cond.laysFinal RX4 "SofaRailway$Layout" "goals" "[I" ∈ AL := AL_in (T1 (List.mem_of_getElem? (i := 111) rfl)) rfl
theorem w1_113 : Cond.laysFinal RX4 "SofaRailway$Layout" "holds" "[I" ∈ AL := AL_in (T1 (List.mem_of_getElem? (i := 113) rfl)) rfl
theorem w1_115 : Cond.laysFinal RX4 "SofaRailway$Layout" "waits" "[I" ∈ AL := AL_in (T1 (List.mem_of_getElem? (i := 115) rfl)) rfl
theorem uwX4 : ∀ w ∈ u_ws RX4 TX4 15, w ∈ AL := List.forall_mem_cons.mpr ⟨w1_87, List.forall_mem_cons.mpr ⟨w1_89, List.forall_mem_cons.mpr ⟨w1_91, List.forall_mem_cons.mpr ⟨w1_93, List.forall_mem_cons.mpr ⟨w1_95, List.forall_mem_cons.mpr ⟨w1_97, List.forall_mem_cons.mpr ⟨w1_99, List.forall_mem_cons.mpr ⟨w1_101, List.forall_mem_cons.mpr ⟨w1_103, List.forall_mem_cons.mpr ⟨w1_105, List.forall_mem_cons.mpr ⟨w1_107, List.forall_mem_cons.mpr ⟨w1_109, List.forall_mem_cons.mpr ⟨w1_111, List.forall_mem_cons.mpr ⟨w1_113, List.forall_mem_cons.mpr ⟨w1_115, fun _ h => absurd h List.not_mem_nil⟩⟩⟩⟩⟩⟩⟩⟩⟩⟩⟩⟩⟩⟩⟩
theorem w1_221 : Cond.laysFinal RX5 "SofaRailway$Output" "signs" "[C" ∈ AL := AL_in (T1 (List.mem_of_getElem? (i := 221) rfl)) rfl
theorem w1_223 : Cond.lays RX5 "SofaRailway$Output" "size" "I" ∈ AL := AL_in (T1 (List.mem_of_getElem? (i := 223) rfl)) rfl
theorem uwX5 : ∀ w ∈ u_ws RX5 TX5 2, w ∈ AL := List.forall_mem_cons.mpr ⟨w1_221, List.forall_mem_cons.mpr ⟨w1_223, fun _ h => absurd h List.not_mem_nil⟩⟩
theorem w1_151 : Cond.laysFinal RX6 "SofaRailway$Routes" "byNearest" "[I" ∈ AL := AL_in (T1 (List.mem_of_getElem? (i := 151) rfl)) rfl
theorem w1_153 : Cond.laysFinal RX6 "SofaRailway$Routes" "byRounds" "[I" ∈ AL := AL_in (T1 (List.mem_of_getElem? (i := 153) rfl)) rfl
theorem w1_155 : Cond.laysFinal RX6 "SofaRailway$Routes" "groups" "[I" ∈ AL := AL_in (T1 (List.mem_of_getElem? (i := 155) rfl)) rfl
theorem uwX6 : ∀ w ∈ u_ws RX6 TX6 3, w ∈ AL := List.forall_mem_cons.mpr ⟨w1_151, List.forall_mem_cons.mpr ⟨w1_153, List.forall_mem_cons.mpr ⟨w1_155, fun _ h => absurd h List.not_mem_nil⟩⟩⟩
theorem w1_169 : Cond.laysFinal RX7 "SofaRailway$Traffic" "routes" "LSofaRailway$Routes;" ∈ AL := AL_in (T1 (List.mem_of_getElem? (i := 169) rfl)) rfl
theorem w1_171 : Cond.laysFinal RX7 "SofaRailway$Traffic" "blockers" "[I" ∈ AL := AL_in (T1 (List.mem_of_getElem? (i := 171) rfl)) rfl
theorem w1_173 : Cond.laysFinal RX7 "SofaRailway$Traffic" "table" "[I" ∈ AL := AL_in (T1 (List.mem_of_getElem? (i := 173) rfl)) rfl
theorem uwX7 : ∀ w ∈ u_ws RX7 TX7 3, w ∈ AL := List.forall_mem_cons.mpr ⟨w1_169, List.forall_mem_cons.mpr ⟨w1_171, List.forall_mem_cons.mpr ⟨w1_173, fun _ h => absurd h List.not_mem_nil⟩⟩⟩
theorem w1_237 : Cond.laysFinal RX8 "SofaRailway" "now" "LSofaRailway$Layout;" ∈ AL := AL_in (T1 (List.mem_of_getElem? (i := 237) rfl)) rfl
theorem w1_239 : Cond.laysFinal RX8 "SofaRailway" "saved" "LSofaRailway$Layout;" ∈ AL := AL_in (T1 (List.mem_of_getElem? (i := 239) rfl)) rfl
theorem w2_1 : Cond.laysFinal RX8 "SofaRailway" "forecast" "LSofaRailway$Layout;" ∈ AL := AL_in (T2 (List.mem_of_getElem? (i := 1) rfl)) rfl
theorem w2_3 : Cond.laysFinal RX8 "SofaRailway" "history" "LSofaRailway$History;" ∈ AL := AL_in (T2 (List.mem_of_getElem? (i := 3) rfl)) rfl
theorem w2_5 : Cond.laysFinal RX8 "SofaRailway" "routes" "LSofaRailway$Routes;" ∈ AL := AL_in (T2 (List.mem_of_getElem? (i := 5) rfl)) rfl
theorem w2_7 : Cond.laysFinal RX8 "SofaRailway" "traffic" "LSofaRailway$Traffic;" ∈ AL := AL_in (T2 (List.mem_of_getElem? (i := 7) rfl)) rfl
theorem w2_9 : Cond.laysFinal RX8 "SofaRailway" "reader" "LSofaRailway$CommandReader;" ∈ AL := AL_in (T2 (List.mem_of_getElem? (i := 9) rfl)) rfl
theorem w2_11 : Cond.laysFinal RX8 "SofaRailway" "output" "LSofaRailway$Output;" ∈ AL := AL_in (T2 (List.mem_of_getElem? (i := 11) rfl)) rfl
theorem w2_13 : Cond.lays RX8 "SofaRailway" "hasSaved" "Z" ∈ AL := AL_in (T2 (List.mem_of_getElem? (i := 13) rfl)) rfl
theorem w2_15 : Cond.lays RX8 "SofaRailway" "keptErrorPosition" "I" ∈ AL := AL_in (T2 (List.mem_of_getElem? (i := 15) rfl)) rfl
theorem w2_17 : Cond.lays RX8 "SofaRailway" "keptFailedCommand" "I" ∈ AL := AL_in (T2 (List.mem_of_getElem? (i := 17) rfl)) rfl
theorem uwX8 : ∀ w ∈ u_ws RX8 TX8 11, w ∈ AL := List.forall_mem_cons.mpr ⟨w1_237, List.forall_mem_cons.mpr ⟨w1_239, List.forall_mem_cons.mpr ⟨w2_1, List.forall_mem_cons.mpr ⟨w2_3, List.forall_mem_cons.mpr ⟨w2_5, List.forall_mem_cons.mpr ⟨w2_7, List.forall_mem_cons.mpr ⟨w2_9, List.forall_mem_cons.mpr ⟨w2_11, List.forall_mem_cons.mpr ⟨w2_13, List.forall_mem_cons.mpr ⟨w2_15, List.forall_mem_cons.mpr ⟨w2_17, fun _ h => absurd h List.not_mem_nil⟩⟩⟩⟩⟩⟩⟩⟩⟩⟩⟩
theorem w5_226 : Cond.lays RX9 "SofaRailwayModel" "thrown" "I" ∈ AL := AL_in (T5 (List.mem_of_getElem? (i := 226) rfl)) rfl
theorem w5_228 : Cond.laysFinal RX9 "SofaRailwayModel" "s" "[I" ∈ AL := AL_in (T5 (List.mem_of_getElem? (i := 228) rfl)) rfl
theorem w5_230 : Cond.laysFinal RX9 "SofaRailwayModel" "frame" "[I" ∈ AL := AL_in (T5 (List.mem_of_getElem? (i := 230) rfl)) rfl
theorem w5_232 : Cond.laysFinal RX9 "SofaRailwayModel" "saved" "[I" ∈ AL := AL_in (T5 (List.mem_of_getElem? (i := 232) rfl)) rfl
theorem w5_234 : Cond.laysFinal RX9 "SofaRailwayModel" "history" "[I" ∈ AL := AL_in (T5 (List.mem_of_getElem? (i := 234) rfl)) rfl
theorem w5_236 : Cond.laysFinal RX9 "SofaRailwayModel" "thought" "[I" ∈ AL := AL_in (T5 (List.mem_of_getElem? (i := 236) rfl)) rfl
theorem w5_238 : Cond.lays RX9 "SofaRailwayModel" "kept" "I" ∈ AL := AL_in (T5 (List.mem_of_getElem? (i := 238) rfl)) rfl
theorem w6_0 : Cond.lays RX9 "SofaRailwayModel" "hasSaved" "Z" ∈ AL := AL_in (T6 (List.mem_of_getElem? (i := 0) rfl)) rfl
theorem w6_2 : Cond.laysFinal RX9 "SofaRailwayModel" "text" "[I" ∈ AL := AL_in (T6 (List.mem_of_getElem? (i := 2) rfl)) rfl
theorem w6_4 : Cond.laysFinal RX9 "SofaRailwayModel" "told" "[I" ∈ AL := AL_in (T6 (List.mem_of_getElem? (i := 4) rfl)) rfl
theorem w6_6 : Cond.laysFinal RX9 "SofaRailwayModel" "out" "[I" ∈ AL := AL_in (T6 (List.mem_of_getElem? (i := 6) rfl)) rfl
theorem w6_8 : Cond.laysFinal RX9 "SofaRailwayModel" "far" "[I" ∈ AL := AL_in (T6 (List.mem_of_getElem? (i := 8) rfl)) rfl
theorem w6_10 : Cond.laysFinal RX9 "SofaRailwayModel" "mark" "[I" ∈ AL := AL_in (T6 (List.mem_of_getElem? (i := 10) rfl)) rfl
theorem w6_12 : Cond.lays RX9 "SofaRailwayModel" "fed" "I" ∈ AL := AL_in (T6 (List.mem_of_getElem? (i := 12) rfl)) rfl
theorem w6_14 : Cond.lays RX9 "SofaRailwayModel" "outLength" "I" ∈ AL := AL_in (T6 (List.mem_of_getElem? (i := 14) rfl)) rfl
theorem w6_16 : Cond.lays RX9 "SofaRailwayModel" "faultAt" "I" ∈ AL := AL_in (T6 (List.mem_of_getElem? (i := 16) rfl)) rfl
theorem w6_18 : Cond.lays RX9 "SofaRailwayModel" "failedAt" "I" ∈ AL := AL_in (T6 (List.mem_of_getElem? (i := 18) rfl)) rfl
theorem w6_20 : Cond.lays RX9 "SofaRailwayModel" "answer" "I" ∈ AL := AL_in (T6 (List.mem_of_getElem? (i := 20) rfl)) rfl
theorem w6_22 : Cond.lays RX9 "SofaRailwayModel" "spot" "I" ∈ AL := AL_in (T6 (List.mem_of_getElem? (i := 22) rfl)) rfl
theorem w6_24 : Cond.lays RX9 "SofaRailwayModel" "end" "I" ∈ AL := AL_in (T6 (List.mem_of_getElem? (i := 24) rfl)) rfl
theorem w6_26 : Cond.lays RX9 "SofaRailwayModel" "commands" "I" ∈ AL := AL_in (T6 (List.mem_of_getElem? (i := 26) rfl)) rfl
theorem w6_28 : Cond.lays RX9 "SofaRailwayModel" "isWrong" "Z" ∈ AL := AL_in (T6 (List.mem_of_getElem? (i := 28) rfl)) rfl
theorem uwX9 : ∀ w ∈ u_ws RX9 TX9 22, w ∈ AL := List.forall_mem_cons.mpr ⟨w5_226, List.forall_mem_cons.mpr ⟨w5_228, List.forall_mem_cons.mpr ⟨w5_230, List.forall_mem_cons.mpr ⟨w5_232, List.forall_mem_cons.mpr ⟨w5_234, List.forall_mem_cons.mpr ⟨w5_236, List.forall_mem_cons.mpr ⟨w5_238, List.forall_mem_cons.mpr ⟨w6_0, List.forall_mem_cons.mpr ⟨w6_2, List.forall_mem_cons.mpr ⟨w6_4, List.forall_mem_cons.mpr ⟨w6_6, List.forall_mem_cons.mpr ⟨w6_8, List.forall_mem_cons.mpr ⟨w6_10, List.forall_mem_cons.mpr ⟨w6_12, List.forall_mem_cons.mpr ⟨w6_14, List.forall_mem_cons.mpr ⟨w6_16, List.forall_mem_cons.mpr ⟨w6_18, List.forall_mem_cons.mpr ⟨w6_20, List.forall_mem_cons.mpr ⟨w6_22, List.forall_mem_cons.mpr ⟨w6_24, List.forall_mem_cons.mpr ⟨w6_26, List.forall_mem_cons.mpr ⟨w6_28, fun _ h => absurd h List.not_mem_nil⟩⟩⟩⟩⟩⟩⟩⟩⟩⟩⟩⟩⟩⟩⟩⟩⟩⟩⟩⟩⟩⟩
theorem w1_43 : Cond.fieldLink RX4 9 "SofaRailway$Layout" "blocks" "I" ∈ AL := AL_in (T1 (List.mem_of_getElem? (i := 43) rfl)) rfl
theorem fX4_9 : FL RX4 9 4 0 .int 0 := ⟨RX4, TX4, 15, tyX4, rfl, by decide, uwX4, tyX4_ok, nmX4, w1_43, rfl, Or.inl ⟨rfl, rfl⟩⟩
theorem w1_44 : Cond.fieldLink RX6 21 "SofaRailway$Layout" "blocks" "I" ∈ AL := AL_in (T1 (List.mem_of_getElem? (i := 44) rfl)) rfl
theorem fX6_21 : FL RX6 21 4 0 .int 0 := ⟨RX4, TX4, 15, tyX4, rfl, by decide, uwX4, tyX4_ok, nmX4, w1_44, rfl, Or.inl ⟨rfl, rfl⟩⟩
theorem w1_45 : Cond.fieldLink RX8 93 "SofaRailway$Layout" "blocks" "I" ∈ AL := AL_in (T1 (List.mem_of_getElem? (i := 45) rfl)) rfl
theorem fX8_93 : FL RX8 93 4 0 .int 0 := ⟨RX4, TX4, 15, tyX4, rfl, by decide, uwX4, tyX4_ok, nmX4, w1_45, rfl, Or.inl ⟨rfl, rfl⟩⟩
theorem w1_46 : Cond.fieldLink RX4 15 "SofaRailway$Layout" "trains" "I" ∈ AL := AL_in (T1 (List.mem_of_getElem? (i := 46) rfl)) rfl
theorem fX4_15 : FL RX4 15 4 1 .int 0 := ⟨RX4, TX4, 15, tyX4, rfl, by decide, uwX4, tyX4_ok, nmX4, w1_46, rfl, Or.inl ⟨rfl, rfl⟩⟩
theorem w1_47 : Cond.fieldLink RX7 58 "SofaRailway$Layout" "trains" "I" ∈ AL := AL_in (T1 (List.mem_of_getElem? (i := 47) rfl)) rfl
theorem fX7_58 : FL RX7 58 4 1 .int 0 := ⟨RX4, TX4, 15, tyX4, rfl, by decide, uwX4, tyX4_ok, nmX4, w1_47, rfl, Or.inl ⟨rfl, rfl⟩⟩
theorem w1_48 : Cond.fieldLink RX8 187 "SofaRailway$Layout" "trains" "I" ∈ AL := AL_in (T1 (List.mem_of_getElem? (i := 48) rfl)) rfl
theorem fX8_187 : FL RX8 187 4 1 .int 0 := ⟨RX4, TX4, 15, tyX4, rfl, by decide, uwX4, tyX4_ok, nmX4, w1_48, rfl, Or.inl ⟨rfl, rfl⟩⟩
theorem w1_49 : Cond.fieldLink RX4 18 "SofaRailway$Layout" "ticks" "I" ∈ AL := AL_in (T1 (List.mem_of_getElem? (i := 49) rfl)) rfl
theorem fX4_18 : FL RX4 18 4 2 .int 0 := ⟨RX4, TX4, 15, tyX4, rfl, by decide, uwX4, tyX4_ok, nmX4, w1_49, rfl, Or.inl ⟨rfl, rfl⟩⟩
theorem w1_50 : Cond.fieldLink RX7 68 "SofaRailway$Layout" "ticks" "I" ∈ AL := AL_in (T1 (List.mem_of_getElem? (i := 50) rfl)) rfl
theorem fX7_68 : FL RX7 68 4 2 .int 0 := ⟨RX4, TX4, 15, tyX4, rfl, by decide, uwX4, tyX4_ok, nmX4, w1_50, rfl, Or.inl ⟨rfl, rfl⟩⟩
theorem w1_51 : Cond.fieldLink RX8 223 "SofaRailway$Layout" "ticks" "I" ∈ AL := AL_in (T1 (List.mem_of_getElem? (i := 51) rfl)) rfl
theorem fX8_223 : FL RX8 223 4 2 .int 0 := ⟨RX4, TX4, 15, tyX4, rfl, by decide, uwX4, tyX4_ok, nmX4, w1_51, rfl, Or.inl ⟨rfl, rfl⟩⟩
theorem w1_52 : Cond.fieldLink RX4 21 "SofaRailway$Layout" "arrivals" "I" ∈ AL := AL_in (T1 (List.mem_of_getElem? (i := 52) rfl)) rfl
theorem fX4_21 : FL RX4 21 4 3 .int 0 := ⟨RX4, TX4, 15, tyX4, rfl, by decide, uwX4, tyX4_ok, nmX4, w1_52, rfl, Or.inl ⟨rfl, rfl⟩⟩
theorem w1_53 : Cond.fieldLink RX7 55 "SofaRailway$Layout" "arrivals" "I" ∈ AL := AL_in (T1 (List.mem_of_getElem? (i := 53) rfl)) rfl
theorem fX7_55 : FL RX7 55 4 3 .int 0 := ⟨RX4, TX4, 15, tyX4, rfl, by decide, uwX4, tyX4_ok, nmX4, w1_53, rfl, Or.inl ⟨rfl, rfl⟩⟩
theorem w1_54 : Cond.fieldLink RX8 226 "SofaRailway$Layout" "arrivals" "I" ∈ AL := AL_in (T1 (List.mem_of_getElem? (i := 54) rfl)) rfl
theorem fX8_226 : FL RX8 226 4 3 .int 0 := ⟨RX4, TX4, 15, tyX4, rfl, by decide, uwX4, tyX4_ok, nmX4, w1_54, rfl, Or.inl ⟨rfl, rfl⟩⟩
theorem w1_55 : Cond.fieldLink RX4 24 "SofaRailway$Layout" "cushions" "I" ∈ AL := AL_in (T1 (List.mem_of_getElem? (i := 55) rfl)) rfl
theorem fX4_24 : FL RX4 24 4 4 .int 0 := ⟨RX4, TX4, 15, tyX4, rfl, by decide, uwX4, tyX4_ok, nmX4, w1_55, rfl, Or.inl ⟨rfl, rfl⟩⟩
theorem w1_56 : Cond.fieldLink RX7 34 "SofaRailway$Layout" "cushions" "I" ∈ AL := AL_in (T1 (List.mem_of_getElem? (i := 56) rfl)) rfl
theorem fX7_34 : FL RX7 34 4 4 .int 0 := ⟨RX4, TX4, 15, tyX4, rfl, by decide, uwX4, tyX4_ok, nmX4, w1_56, rfl, Or.inl ⟨rfl, rfl⟩⟩
theorem w1_57 : Cond.fieldLink RX6 61 "SofaRailway$Layout" "cushions" "I" ∈ AL := AL_in (T1 (List.mem_of_getElem? (i := 57) rfl)) rfl
theorem fX6_61 : FL RX6 61 4 4 .int 0 := ⟨RX4, TX4, 15, tyX4, rfl, by decide, uwX4, tyX4_ok, nmX4, w1_57, rfl, Or.inl ⟨rfl, rfl⟩⟩
theorem w1_58 : Cond.fieldLink RX8 104 "SofaRailway$Layout" "cushions" "I" ∈ AL := AL_in (T1 (List.mem_of_getElem? (i := 58) rfl)) rfl
theorem fX8_104 : FL RX8 104 4 4 .int 0 := ⟨RX4, TX4, 15, tyX4, rfl, by decide, uwX4, tyX4_ok, nmX4, w1_58, rfl, Or.inl ⟨rfl, rfl⟩⟩
theorem w1_59 : Cond.fieldLink RX4 27 "SofaRailway$Layout" "cats" "I" ∈ AL := AL_in (T1 (List.mem_of_getElem? (i := 59) rfl)) rfl
theorem fX4_27 : FL RX4 27 4 5 .int 0 := ⟨RX4, TX4, 15, tyX4, rfl, by decide, uwX4, tyX4_ok, nmX4, w1_59, rfl, Or.inl ⟨rfl, rfl⟩⟩
theorem w1_60 : Cond.fieldLink RX8 111 "SofaRailway$Layout" "cats" "I" ∈ AL := AL_in (T1 (List.mem_of_getElem? (i := 60) rfl)) rfl
theorem fX8_111 : FL RX8 111 4 5 .int 0 := ⟨RX4, TX4, 15, tyX4, rfl, by decide, uwX4, tyX4_ok, nmX4, w1_60, rfl, Or.inl ⟨rfl, rfl⟩⟩
theorem w1_61 : Cond.fieldLink RX4 30 "SofaRailway$Layout" "derailed" "I" ∈ AL := AL_in (T1 (List.mem_of_getElem? (i := 61) rfl)) rfl
theorem fX4_30 : FL RX4 30 4 6 .int 0 := ⟨RX4, TX4, 15, tyX4, rfl, by decide, uwX4, tyX4_ok, nmX4, w1_61, rfl, Or.inl ⟨rfl, rfl⟩⟩
theorem w1_62 : Cond.fieldLink RX7 71 "SofaRailway$Layout" "derailed" "I" ∈ AL := AL_in (T1 (List.mem_of_getElem? (i := 62) rfl)) rfl
theorem fX7_71 : FL RX7 71 4 6 .int 0 := ⟨RX4, TX4, 15, tyX4, rfl, by decide, uwX4, tyX4_ok, nmX4, w1_62, rfl, Or.inl ⟨rfl, rfl⟩⟩
theorem w1_63 : Cond.fieldLink RX8 202 "SofaRailway$Layout" "derailed" "I" ∈ AL := AL_in (T1 (List.mem_of_getElem? (i := 63) rfl)) rfl
theorem fX8_202 : FL RX8 202 4 6 .int 0 := ⟨RX4, TX4, 15, tyX4, rfl, by decide, uwX4, tyX4_ok, nmX4, w1_63, rfl, Or.inl ⟨rfl, rfl⟩⟩
theorem w1_64 : Cond.fieldLink RX4 33 "SofaRailway$Layout" "lengths" "[I" ∈ AL := AL_in (T1 (List.mem_of_getElem? (i := 64) rfl)) rfl
theorem fX4_33 : FL RX4 33 4 7 (.array .int) 1 := ⟨RX4, TX4, 15, tyX4, rfl, by decide, uwX4, tyX4_ok, nmX4, w1_64, rfl, Or.inr (Or.inl ⟨rfl, rfl, rfl⟩)⟩
theorem w1_65 : Cond.fieldLink RX6 31 "SofaRailway$Layout" "lengths" "[I" ∈ AL := AL_in (T1 (List.mem_of_getElem? (i := 65) rfl)) rfl
theorem fX6_31 : FL RX6 31 4 7 (.array .int) 2 := ⟨RX4, TX4, 15, tyX4, rfl, by decide, uwX4, tyX4_ok, nmX4, w1_65, rfl, Or.inr (Or.inr rfl)⟩
theorem w1_66 : Cond.fieldLink RX8 100 "SofaRailway$Layout" "lengths" "[I" ∈ AL := AL_in (T1 (List.mem_of_getElem? (i := 66) rfl)) rfl
theorem fX8_100 : FL RX8 100 4 7 (.array .int) 2 := ⟨RX4, TX4, 15, tyX4, rfl, by decide, uwX4, tyX4_ok, nmX4, w1_66, rfl, Or.inr (Or.inr rfl)⟩
theorem w1_67 : Cond.fieldLink RX4 37 "SofaRailway$Layout" "links" "[I" ∈ AL := AL_in (T1 (List.mem_of_getElem? (i := 67) rfl)) rfl
theorem fX4_37 : FL RX4 37 4 8 (.array .int) 1 := ⟨RX4, TX4, 15, tyX4, rfl, by decide, uwX4, tyX4_ok, nmX4, w1_67, rfl, Or.inr (Or.inl ⟨rfl, rfl, rfl⟩)⟩
theorem w1_68 : Cond.fieldLink RX6 34 "SofaRailway$Layout" "links" "[I" ∈ AL := AL_in (T1 (List.mem_of_getElem? (i := 68) rfl)) rfl
theorem fX6_34 : FL RX6 34 4 8 (.array .int) 2 := ⟨RX4, TX4, 15, tyX4, rfl, by decide, uwX4, tyX4_ok, nmX4, w1_68, rfl, Or.inr (Or.inr rfl)⟩
theorem w1_69 : Cond.fieldLink RX8 117 "SofaRailway$Layout" "links" "[I" ∈ AL := AL_in (T1 (List.mem_of_getElem? (i := 69) rfl)) rfl
theorem fX8_117 : FL RX8 117 4 8 (.array .int) 2 := ⟨RX4, TX4, 15, tyX4, rfl, by decide, uwX4, tyX4_ok, nmX4, w1_69, rfl, Or.inr (Or.inr rfl)⟩
theorem w1_70 : Cond.fieldLink RX4 40 "SofaRailway$Layout" "places" "[I" ∈ AL := AL_in (T1 (List.mem_of_getElem? (i := 70) rfl)) rfl
theorem fX4_40 : FL RX4 40 4 9 (.array .int) 1 := ⟨RX4, TX4, 15, tyX4, rfl, by decide, uwX4, tyX4_ok, nmX4, w1_70, rfl, Or.inr (Or.inl ⟨rfl, rfl, rfl⟩)⟩
theorem w1_71 : Cond.fieldLink RX7 42 "SofaRailway$Layout" "places" "[I" ∈ AL := AL_in (T1 (List.mem_of_getElem? (i := 71) rfl)) rfl
theorem fX7_42 : FL RX7 42 4 9 (.array .int) 2 := ⟨RX4, TX4, 15, tyX4, rfl, by decide, uwX4, tyX4_ok, nmX4, w1_71, rfl, Or.inr (Or.inr rfl)⟩
theorem w1_72 : Cond.fieldLink RX6 58 "SofaRailway$Layout" "places" "[I" ∈ AL := AL_in (T1 (List.mem_of_getElem? (i := 72) rfl)) rfl
theorem fX6_58 : FL RX6 58 4 9 (.array .int) 2 := ⟨RX4, TX4, 15, tyX4, rfl, by decide, uwX4, tyX4_ok, nmX4, w1_72, rfl, Or.inr (Or.inr rfl)⟩
theorem w1_73 : Cond.fieldLink RX8 190 "SofaRailway$Layout" "places" "[I" ∈ AL := AL_in (T1 (List.mem_of_getElem? (i := 73) rfl)) rfl
theorem fX8_190 : FL RX8 190 4 9 (.array .int) 2 := ⟨RX4, TX4, 15, tyX4, rfl, by decide, uwX4, tyX4_ok, nmX4, w1_73, rfl, Or.inr (Or.inr rfl)⟩
theorem w1_74 : Cond.fieldLink RX4 43 "SofaRailway$Layout" "priorities" "[I" ∈ AL := AL_in (T1 (List.mem_of_getElem? (i := 74) rfl)) rfl
theorem fX4_43 : FL RX4 43 4 10 (.array .int) 1 := ⟨RX4, TX4, 15, tyX4, rfl, by decide, uwX4, tyX4_ok, nmX4, w1_74, rfl, Or.inr (Or.inl ⟨rfl, rfl, rfl⟩)⟩
theorem w1_75 : Cond.fieldLink RX8 193 "SofaRailway$Layout" "priorities" "[I" ∈ AL := AL_in (T1 (List.mem_of_getElem? (i := 75) rfl)) rfl
theorem fX8_193 : FL RX8 193 4 10 (.array .int) 2 := ⟨RX4, TX4, 15, tyX4, rfl, by decide, uwX4, tyX4_ok, nmX4, w1_75, rfl, Or.inr (Or.inr rfl)⟩
theorem w1_76 : Cond.fieldLink RX4 46 "SofaRailway$Layout" "remaining" "[I" ∈ AL := AL_in (T1 (List.mem_of_getElem? (i := 76) rfl)) rfl
theorem fX4_46 : FL RX4 46 4 11 (.array .int) 1 := ⟨RX4, TX4, 15, tyX4, rfl, by decide, uwX4, tyX4_ok, nmX4, w1_76, rfl, Or.inr (Or.inl ⟨rfl, rfl, rfl⟩)⟩
theorem w1_77 : Cond.fieldLink RX7 74 "SofaRailway$Layout" "remaining" "[I" ∈ AL := AL_in (T1 (List.mem_of_getElem? (i := 77) rfl)) rfl
theorem fX7_74 : FL RX7 74 4 11 (.array .int) 2 := ⟨RX4, TX4, 15, tyX4, rfl, by decide, uwX4, tyX4_ok, nmX4, w1_77, rfl, Or.inr (Or.inr rfl)⟩
theorem w1_78 : Cond.fieldLink RX8 196 "SofaRailway$Layout" "remaining" "[I" ∈ AL := AL_in (T1 (List.mem_of_getElem? (i := 78) rfl)) rfl
theorem fX8_196 : FL RX8 196 4 11 (.array .int) 2 := ⟨RX4, TX4, 15, tyX4, rfl, by decide, uwX4, tyX4_ok, nmX4, w1_78, rfl, Or.inr (Or.inr rfl)⟩
theorem w1_79 : Cond.fieldLink RX4 49 "SofaRailway$Layout" "goals" "[I" ∈ AL := AL_in (T1 (List.mem_of_getElem? (i := 79) rfl)) rfl
theorem fX4_49 : FL RX4 49 4 12 (.array .int) 1 := ⟨RX4, TX4, 15, tyX4, rfl, by decide, uwX4, tyX4_ok, nmX4, w1_79, rfl, Or.inr (Or.inl ⟨rfl, rfl, rfl⟩)⟩
theorem w1_80 : Cond.fieldLink RX7 52 "SofaRailway$Layout" "goals" "[I" ∈ AL := AL_in (T1 (List.mem_of_getElem? (i := 80) rfl)) rfl
theorem fX7_52 : FL RX7 52 4 12 (.array .int) 2 := ⟨RX4, TX4, 15, tyX4, rfl, by decide, uwX4, tyX4_ok, nmX4, w1_80, rfl, Or.inr (Or.inr rfl)⟩
theorem w1_81 : Cond.fieldLink RX6 55 "SofaRailway$Layout" "goals" "[I" ∈ AL := AL_in (T1 (List.mem_of_getElem? (i := 81) rfl)) rfl
theorem fX6_55 : FL RX6 55 4 12 (.array .int) 2 := ⟨RX4, TX4, 15, tyX4, rfl, by decide, uwX4, tyX4_ok, nmX4, w1_81, rfl, Or.inr (Or.inr rfl)⟩
theorem w1_82 : Cond.fieldLink RX8 199 "SofaRailway$Layout" "goals" "[I" ∈ AL := AL_in (T1 (List.mem_of_getElem? (i := 82) rfl)) rfl
theorem fX8_199 : FL RX8 199 4 12 (.array .int) 2 := ⟨RX4, TX4, 15, tyX4, rfl, by decide, uwX4, tyX4_ok, nmX4, w1_82, rfl, Or.inr (Or.inr rfl)⟩
theorem w1_83 : Cond.fieldLink RX4 52 "SofaRailway$Layout" "holds" "[I" ∈ AL := AL_in (T1 (List.mem_of_getElem? (i := 83) rfl)) rfl
theorem fX4_52 : FL RX4 52 4 13 (.array .int) 1 := ⟨RX4, TX4, 15, tyX4, rfl, by decide, uwX4, tyX4_ok, nmX4, w1_83, rfl, Or.inr (Or.inl ⟨rfl, rfl, rfl⟩)⟩
theorem w1_84 : Cond.fieldLink RX4 55 "SofaRailway$Layout" "waits" "[I" ∈ AL := AL_in (T1 (List.mem_of_getElem? (i := 84) rfl)) rfl
theorem fX4_55 : FL RX4 55 4 14 (.array .int) 1 := ⟨RX4, TX4, 15, tyX4, rfl, by decide, uwX4, tyX4_ok, nmX4, w1_84, rfl, Or.inr (Or.inl ⟨rfl, rfl, rfl⟩)⟩
theorem w1_85 : Cond.fieldLink RX7 88 "SofaRailway$Layout" "waits" "[I" ∈ AL := AL_in (T1 (List.mem_of_getElem? (i := 85) rfl)) rfl
theorem fX7_88 : FL RX7 88 4 14 (.array .int) 2 := ⟨RX4, TX4, 15, tyX4, rfl, by decide, uwX4, tyX4_ok, nmX4, w1_85, rfl, Or.inr (Or.inr rfl)⟩
theorem w1_86 : Cond.fieldLink RX8 205 "SofaRailway$Layout" "waits" "[I" ∈ AL := AL_in (T1 (List.mem_of_getElem? (i := 86) rfl)) rfl
theorem fX8_205 : FL RX8 205 4 14 (.array .int) 2 := ⟨RX4, TX4, 15, tyX4, rfl, by decide, uwX4, tyX4_ok, nmX4, w1_86, rfl, Or.inr (Or.inr rfl)⟩
theorem w1_128 : Cond.fieldLink RX3 11 "SofaRailway$History" "slots" "[LSofaRailway$Layout;" ∈ AL := AL_in (T1 (List.mem_of_getElem? (i := 128) rfl)) rfl
theorem fX3_11 : FL RX3 11 3 0 (.array (.object "SofaRailway$Layout")) 1 := ⟨RX3, TX3, 3, tyX3, rfl, by decide, uwX3, tyX3_ok, nmX3, w1_128, rfl, Or.inr (Or.inl ⟨rfl, rfl, rfl⟩)⟩
theorem w1_129 : Cond.fieldLink RX3 17 "SofaRailway$History" "next" "I" ∈ AL := AL_in (T1 (List.mem_of_getElem? (i := 129) rfl)) rfl
theorem fX3_17 : FL RX3 17 3 1 .int 0 := ⟨RX3, TX3, 3, tyX3, rfl, by decide, uwX3, tyX3_ok, nmX3, w1_129, rfl, Or.inl ⟨rfl, rfl⟩⟩
theorem w1_130 : Cond.fieldLink RX3 21 "SofaRailway$History" "count" "I" ∈ AL := AL_in (T1 (List.mem_of_getElem? (i := 130) rfl)) rfl
theorem fX3_21 : FL RX3 21 3 2 .int 0 := ⟨RX3, TX3, 3, tyX3, rfl, by decide, uwX3, tyX3_ok, nmX3, w1_130, rfl, Or.inl ⟨rfl, rfl⟩⟩
theorem w1_131 : Cond.fieldLink RX8 328 "SofaRailway$History" "count" "I" ∈ AL := AL_in (T1 (List.mem_of_getElem? (i := 131) rfl)) rfl
theorem fX8_328 : FL RX8 328 3 2 .int 0 := ⟨RX3, TX3, 3, tyX3, rfl, by decide, uwX3, tyX3_ok, nmX3, w1_131, rfl, Or.inl ⟨rfl, rfl⟩⟩
theorem w1_145 : Cond.fieldLink RX6 9 "SofaRailway$Routes" "byNearest" "[I" ∈ AL := AL_in (T1 (List.mem_of_getElem? (i := 145) rfl)) rfl
theorem fX6_9 : FL RX6 9 6 0 (.array .int) 1 := ⟨RX6, TX6, 3, tyX6, rfl, by decide, uwX6, tyX6_ok, nmX6, w1_145, rfl, Or.inr (Or.inl ⟨rfl, rfl, rfl⟩)⟩
theorem w1_146 : Cond.fieldLink RX7 49 "SofaRailway$Routes" "byNearest" "[I" ∈ AL := AL_in (T1 (List.mem_of_getElem? (i := 146) rfl)) rfl
theorem fX7_49 : FL RX7 49 6 0 (.array .int) 2 := ⟨RX6, TX6, 3, tyX6, rfl, by decide, uwX6, tyX6_ok, nmX6, w1_146, rfl, Or.inr (Or.inr rfl)⟩
theorem w1_147 : Cond.fieldLink RX8 142 "SofaRailway$Routes" "byNearest" "[I" ∈ AL := AL_in (T1 (List.mem_of_getElem? (i := 147) rfl)) rfl
theorem fX8_142 : FL RX8 142 6 0 (.array .int) 2 := ⟨RX6, TX6, 3, tyX6, rfl, by decide, uwX6, tyX6_ok, nmX6, w1_147, rfl, Or.inr (Or.inr rfl)⟩
theorem w1_148 : Cond.fieldLink RX6 15 "SofaRailway$Routes" "byRounds" "[I" ∈ AL := AL_in (T1 (List.mem_of_getElem? (i := 148) rfl)) rfl
theorem fX6_15 : FL RX6 15 6 1 (.array .int) 1 := ⟨RX6, TX6, 3, tyX6, rfl, by decide, uwX6, tyX6_ok, nmX6, w1_148, rfl, Or.inr (Or.inl ⟨rfl, rfl, rfl⟩)⟩
theorem w1_149 : Cond.fieldLink RX8 148 "SofaRailway$Routes" "byRounds" "[I" ∈ AL := AL_in (T1 (List.mem_of_getElem? (i := 149) rfl)) rfl
theorem fX8_148 : FL RX8 148 6 1 (.array .int) 2 := ⟨RX6, TX6, 3, tyX6, rfl, by decide, uwX6, tyX6_ok, nmX6, w1_149, rfl, Or.inr (Or.inr rfl)⟩
theorem w1_150 : Cond.fieldLink RX6 18 "SofaRailway$Routes" "groups" "[I" ∈ AL := AL_in (T1 (List.mem_of_getElem? (i := 150) rfl)) rfl
theorem fX6_18 : FL RX6 18 6 2 (.array .int) 1 := ⟨RX6, TX6, 3, tyX6, rfl, by decide, uwX6, tyX6_ok, nmX6, w1_150, rfl, Or.inr (Or.inl ⟨rfl, rfl, rfl⟩)⟩
theorem w1_166 : Cond.fieldLink RX7 12 "SofaRailway$Traffic" "routes" "LSofaRailway$Routes;" ∈ AL := AL_in (T1 (List.mem_of_getElem? (i := 166) rfl)) rfl
theorem fX7_12 : FL RX7 12 7 0 (.object "SofaRailway$Routes") 1 := ⟨RX7, TX7, 3, tyX7, rfl, by decide, uwX7, tyX7_ok, nmX7, w1_166, rfl, Or.inr (Or.inl ⟨rfl, rfl, rfl⟩)⟩
theorem w1_167 : Cond.fieldLink RX7 18 "SofaRailway$Traffic" "blockers" "[I" ∈ AL := AL_in (T1 (List.mem_of_getElem? (i := 167) rfl)) rfl
theorem fX7_18 : FL RX7 18 7 1 (.array .int) 1 := ⟨RX7, TX7, 3, tyX7, rfl, by decide, uwX7, tyX7_ok, nmX7, w1_167, rfl, Or.inr (Or.inl ⟨rfl, rfl, rfl⟩)⟩
theorem w1_168 : Cond.fieldLink RX7 22 "SofaRailway$Traffic" "table" "[I" ∈ AL := AL_in (T1 (List.mem_of_getElem? (i := 168) rfl)) rfl
theorem fX7_22 : FL RX7 22 7 2 (.array .int) 1 := ⟨RX7, TX7, 3, tyX7, rfl, by decide, uwX7, tyX7_ok, nmX7, w1_168, rfl, Or.inr (Or.inl ⟨rfl, rfl, rfl⟩)⟩
theorem w1_184 : Cond.fieldLink RX2 9 "SofaRailway$CommandReader" "text" "[C" ∈ AL := AL_in (T1 (List.mem_of_getElem? (i := 184) rfl)) rfl
theorem fX2_9 : FL RX2 9 2 0 (.array .char) 1 := ⟨RX2, TX2, 7, tyX2, rfl, by decide, uwX2, tyX2_ok, nmX2, w1_184, rfl, Or.inr (Or.inl ⟨rfl, rfl, rfl⟩)⟩
theorem w1_185 : Cond.fieldLink RX2 15 "SofaRailway$CommandReader" "size" "I" ∈ AL := AL_in (T1 (List.mem_of_getElem? (i := 185) rfl)) rfl
theorem fX2_15 : FL RX2 15 2 1 .int 0 := ⟨RX2, TX2, 7, tyX2, rfl, by decide, uwX2, tyX2_ok, nmX2, w1_185, rfl, Or.inl ⟨rfl, rfl⟩⟩
theorem w1_186 : Cond.fieldLink RX8 289 "SofaRailway$CommandReader" "size" "I" ∈ AL := AL_in (T1 (List.mem_of_getElem? (i := 186) rfl)) rfl
theorem fX8_289 : FL RX8 289 2 1 .int 0 := ⟨RX2, TX2, 7, tyX2, rfl, by decide, uwX2, tyX2_ok, nmX2, w1_186, rfl, Or.inl ⟨rfl, rfl⟩⟩
theorem w1_187 : Cond.fieldLink RX2 19 "SofaRailway$CommandReader" "position" "I" ∈ AL := AL_in (T1 (List.mem_of_getElem? (i := 187) rfl)) rfl
theorem fX2_19 : FL RX2 19 2 2 .int 0 := ⟨RX2, TX2, 7, tyX2, rfl, by decide, uwX2, tyX2_ok, nmX2, w1_187, rfl, Or.inl ⟨rfl, rfl⟩⟩
theorem w1_188 : Cond.fieldLink RX2 22 "SofaRailway$CommandReader" "ended" "Z" ∈ AL := AL_in (T1 (List.mem_of_getElem? (i := 188) rfl)) rfl
theorem fX2_22 : FL RX2 22 2 3 .boolean 0 := ⟨RX2, TX2, 7, tyX2, rfl, by decide, uwX2, tyX2_ok, nmX2, w1_188, rfl, Or.inl ⟨rfl, rfl⟩⟩
theorem w1_189 : Cond.fieldLink RX2 32 "SofaRailway$CommandReader" "command" "LSofaRailway$Command;" ∈ AL := AL_in (T1 (List.mem_of_getElem? (i := 189) rfl)) rfl
theorem fX2_32 : FL RX2 32 2 4 (.object "SofaRailway$Command") 0 := ⟨RX2, TX2, 7, tyX2, rfl, by decide, uwX2, tyX2_ok, nmX2, w1_189, rfl, Or.inl ⟨rfl, rfl⟩⟩
theorem w1_190 : Cond.fieldLink RX8 306 "SofaRailway$CommandReader" "command" "LSofaRailway$Command;" ∈ AL := AL_in (T1 (List.mem_of_getElem? (i := 190) rfl)) rfl
theorem fX8_306 : FL RX8 306 2 4 (.object "SofaRailway$Command") 0 := ⟨RX2, TX2, 7, tyX2, rfl, by decide, uwX2, tyX2_ok, nmX2, w1_190, rfl, Or.inl ⟨rfl, rfl⟩⟩
theorem w1_191 : Cond.fieldLink RX2 35 "SofaRailway$CommandReader" "first" "I" ∈ AL := AL_in (T1 (List.mem_of_getElem? (i := 191) rfl)) rfl
theorem fX2_35 : FL RX2 35 2 5 .int 0 := ⟨RX2, TX2, 7, tyX2, rfl, by decide, uwX2, tyX2_ok, nmX2, w1_191, rfl, Or.inl ⟨rfl, rfl⟩⟩
theorem w1_192 : Cond.fieldLink RX8 310 "SofaRailway$CommandReader" "first" "I" ∈ AL := AL_in (T1 (List.mem_of_getElem? (i := 192) rfl)) rfl
theorem fX8_310 : FL RX8 310 2 5 .int 0 := ⟨RX2, TX2, 7, tyX2, rfl, by decide, uwX2, tyX2_ok, nmX2, w1_192, rfl, Or.inl ⟨rfl, rfl⟩⟩
theorem w1_193 : Cond.fieldLink RX2 38 "SofaRailway$CommandReader" "second" "I" ∈ AL := AL_in (T1 (List.mem_of_getElem? (i := 193) rfl)) rfl
theorem fX2_38 : FL RX2 38 2 6 .int 0 := ⟨RX2, TX2, 7, tyX2, rfl, by decide, uwX2, tyX2_ok, nmX2, w1_193, rfl, Or.inl ⟨rfl, rfl⟩⟩
theorem w1_194 : Cond.fieldLink RX8 313 "SofaRailway$CommandReader" "second" "I" ∈ AL := AL_in (T1 (List.mem_of_getElem? (i := 194) rfl)) rfl
theorem fX8_313 : FL RX8 313 2 6 .int 0 := ⟨RX2, TX2, 7, tyX2, rfl, by decide, uwX2, tyX2_ok, nmX2, w1_194, rfl, Or.inl ⟨rfl, rfl⟩⟩
theorem w1_217 : Cond.fieldLink RX5 9 "SofaRailway$Output" "signs" "[C" ∈ AL := AL_in (T1 (List.mem_of_getElem? (i := 217) rfl)) rfl
theorem fX5_9 : FL RX5 9 5 0 (.array .char) 1 := ⟨RX5, TX5, 2, tyX5, rfl, by decide, uwX5, tyX5_ok, nmX5, w1_217, rfl, Or.inr (Or.inl ⟨rfl, rfl, rfl⟩)⟩
theorem w1_218 : Cond.fieldLink RX8 272 "SofaRailway$Output" "signs" "[C" ∈ AL := AL_in (T1 (List.mem_of_getElem? (i := 218) rfl)) rfl
theorem fX8_272 : FL RX8 272 5 0 (.array .char) 2 := ⟨RX5, TX5, 2, tyX5, rfl, by decide, uwX5, tyX5_ok, nmX5, w1_218, rfl, Or.inr (Or.inr rfl)⟩
theorem w1_219 : Cond.fieldLink RX5 15 "SofaRailway$Output" "size" "I" ∈ AL := AL_in (T1 (List.mem_of_getElem? (i := 219) rfl)) rfl
theorem fX5_15 : FL RX5 15 5 1 .int 0 := ⟨RX5, TX5, 2, tyX5, rfl, by decide, uwX5, tyX5_ok, nmX5, w1_219, rfl, Or.inl ⟨rfl, rfl⟩⟩
theorem w1_220 : Cond.fieldLink RX8 264 "SofaRailway$Output" "size" "I" ∈ AL := AL_in (T1 (List.mem_of_getElem? (i := 220) rfl)) rfl
theorem fX8_264 : FL RX8 264 5 1 .int 0 := ⟨RX5, TX5, 2, tyX5, rfl, by decide, uwX5, tyX5_ok, nmX5, w1_220, rfl, Or.inl ⟨rfl, rfl⟩⟩
theorem w1_226 : Cond.fieldLink RX8 12 "SofaRailway" "now" "LSofaRailway$Layout;" ∈ AL := AL_in (T1 (List.mem_of_getElem? (i := 226) rfl)) rfl
theorem fX8_12 : FL RX8 12 8 0 (.object "SofaRailway$Layout") 1 := ⟨RX8, TX8, 11, tyX8, rfl, by decide, uwX8, tyX8_ok, nmX8, w1_226, rfl, Or.inr (Or.inl ⟨rfl, rfl, rfl⟩)⟩
theorem w1_227 : Cond.fieldLink RX8 16 "SofaRailway" "saved" "LSofaRailway$Layout;" ∈ AL := AL_in (T1 (List.mem_of_getElem? (i := 227) rfl)) rfl
theorem fX8_16 : FL RX8 16 8 1 (.object "SofaRailway$Layout") 1 := ⟨RX8, TX8, 11, tyX8, rfl, by decide, uwX8, tyX8_ok, nmX8, w1_227, rfl, Or.inr (Or.inl ⟨rfl, rfl, rfl⟩)⟩
theorem w1_228 : Cond.fieldLink RX8 19 "SofaRailway" "forecast" "LSofaRailway$Layout;" ∈ AL := AL_in (T1 (List.mem_of_getElem? (i := 228) rfl)) rfl
theorem fX8_19 : FL RX8 19 8 2 (.object "SofaRailway$Layout") 1 := ⟨RX8, TX8, 11, tyX8, rfl, by decide, uwX8, tyX8_ok, nmX8, w1_228, rfl, Or.inr (Or.inl ⟨rfl, rfl, rfl⟩)⟩
theorem w1_229 : Cond.fieldLink RX8 25 "SofaRailway" "history" "LSofaRailway$History;" ∈ AL := AL_in (T1 (List.mem_of_getElem? (i := 229) rfl)) rfl
theorem fX8_25 : FL RX8 25 8 3 (.object "SofaRailway$History") 1 := ⟨RX8, TX8, 11, tyX8, rfl, by decide, uwX8, tyX8_ok, nmX8, w1_229, rfl, Or.inr (Or.inl ⟨rfl, rfl, rfl⟩)⟩
theorem w1_230 : Cond.fieldLink RX8 32 "SofaRailway" "routes" "LSofaRailway$Routes;" ∈ AL := AL_in (T1 (List.mem_of_getElem? (i := 230) rfl)) rfl
theorem fX8_32 : FL RX8 32 8 4 (.object "SofaRailway$Routes") 1 := ⟨RX8, TX8, 11, tyX8, rfl, by decide, uwX8, tyX8_ok, nmX8, w1_230, rfl, Or.inr (Or.inl ⟨rfl, rfl, rfl⟩)⟩
theorem w1_231 : Cond.fieldLink RX8 39 "SofaRailway" "traffic" "LSofaRailway$Traffic;" ∈ AL := AL_in (T1 (List.mem_of_getElem? (i := 231) rfl)) rfl
theorem fX8_39 : FL RX8 39 8 5 (.object "SofaRailway$Traffic") 1 := ⟨RX8, TX8, 11, tyX8, rfl, by decide, uwX8, tyX8_ok, nmX8, w1_231, rfl, Or.inr (Or.inl ⟨rfl, rfl, rfl⟩)⟩
theorem w1_232 : Cond.fieldLink RX8 46 "SofaRailway" "reader" "LSofaRailway$CommandReader;" ∈ AL := AL_in (T1 (List.mem_of_getElem? (i := 232) rfl)) rfl
theorem fX8_46 : FL RX8 46 8 6 (.object "SofaRailway$CommandReader") 1 := ⟨RX8, TX8, 11, tyX8, rfl, by decide, uwX8, tyX8_ok, nmX8, w1_232, rfl, Or.inr (Or.inl ⟨rfl, rfl, rfl⟩)⟩
theorem w1_233 : Cond.fieldLink RX8 53 "SofaRailway" "output" "LSofaRailway$Output;" ∈ AL := AL_in (T1 (List.mem_of_getElem? (i := 233) rfl)) rfl
theorem fX8_53 : FL RX8 53 8 7 (.object "SofaRailway$Output") 1 := ⟨RX8, TX8, 11, tyX8, rfl, by decide, uwX8, tyX8_ok, nmX8, w1_233, rfl, Or.inr (Or.inl ⟨rfl, rfl, rfl⟩)⟩
theorem w1_234 : Cond.fieldLink RX8 57 "SofaRailway" "hasSaved" "Z" ∈ AL := AL_in (T1 (List.mem_of_getElem? (i := 234) rfl)) rfl
theorem fX8_57 : FL RX8 57 8 8 .boolean 0 := ⟨RX8, TX8, 11, tyX8, rfl, by decide, uwX8, tyX8_ok, nmX8, w1_234, rfl, Or.inl ⟨rfl, rfl⟩⟩
theorem w1_235 : Cond.fieldLink RX8 61 "SofaRailway" "keptErrorPosition" "I" ∈ AL := AL_in (T1 (List.mem_of_getElem? (i := 235) rfl)) rfl
theorem fX8_61 : FL RX8 61 8 9 .int 0 := ⟨RX8, TX8, 11, tyX8, rfl, by decide, uwX8, tyX8_ok, nmX8, w1_235, rfl, Or.inl ⟨rfl, rfl⟩⟩
theorem w1_236 : Cond.fieldLink RX8 65 "SofaRailway" "keptFailedCommand" "I" ∈ AL := AL_in (T1 (List.mem_of_getElem? (i := 236) rfl)) rfl
theorem fX8_65 : FL RX8 65 8 10 .int 0 := ⟨RX8, TX8, 11, tyX8, rfl, by decide, uwX8, tyX8_ok, nmX8, w1_236, rfl, Or.inl ⟨rfl, rfl⟩⟩
theorem w5_204 : Cond.fieldLink RX9 47 "SofaRailwayModel" "thrown" "I" ∈ AL := AL_in (T5 (List.mem_of_getElem? (i := 204) rfl)) rfl
theorem fX9_47 : FL RX9 47 9 0 .int 0 := ⟨RX9, TX9, 22, tyX9, rfl, by decide, uwX9, tyX9_ok, nmX9, w5_204, rfl, Or.inl ⟨rfl, rfl⟩⟩
theorem w5_205 : Cond.fieldLink RX9 7 "SofaRailwayModel" "s" "[I" ∈ AL := AL_in (T5 (List.mem_of_getElem? (i := 205) rfl)) rfl
theorem fX9_7 : FL RX9 7 9 1 (.array .int) 1 := ⟨RX9, TX9, 22, tyX9, rfl, by decide, uwX9, tyX9_ok, nmX9, w5_205, rfl, Or.inr (Or.inl ⟨rfl, rfl, rfl⟩)⟩
theorem w5_206 : Cond.fieldLink RX9 13 "SofaRailwayModel" "frame" "[I" ∈ AL := AL_in (T5 (List.mem_of_getElem? (i := 206) rfl)) rfl
theorem fX9_13 : FL RX9 13 9 2 (.array .int) 1 := ⟨RX9, TX9, 22, tyX9, rfl, by decide, uwX9, tyX9_ok, nmX9, w5_206, rfl, Or.inr (Or.inl ⟨rfl, rfl, rfl⟩)⟩
theorem w5_207 : Cond.fieldLink RX9 16 "SofaRailwayModel" "saved" "[I" ∈ AL := AL_in (T5 (List.mem_of_getElem? (i := 207) rfl)) rfl
theorem fX9_16 : FL RX9 16 9 3 (.array .int) 1 := ⟨RX9, TX9, 22, tyX9, rfl, by decide, uwX9, tyX9_ok, nmX9, w5_207, rfl, Or.inr (Or.inl ⟨rfl, rfl, rfl⟩)⟩
theorem w5_208 : Cond.fieldLink RX9 19 "SofaRailwayModel" "history" "[I" ∈ AL := AL_in (T5 (List.mem_of_getElem? (i := 208) rfl)) rfl
theorem fX9_19 : FL RX9 19 9 4 (.array .int) 1 := ⟨RX9, TX9, 22, tyX9, rfl, by decide, uwX9, tyX9_ok, nmX9, w5_208, rfl, Or.inr (Or.inl ⟨rfl, rfl, rfl⟩)⟩
theorem w5_209 : Cond.fieldLink RX9 22 "SofaRailwayModel" "thought" "[I" ∈ AL := AL_in (T5 (List.mem_of_getElem? (i := 209) rfl)) rfl
theorem fX9_22 : FL RX9 22 9 5 (.array .int) 1 := ⟨RX9, TX9, 22, tyX9, rfl, by decide, uwX9, tyX9_ok, nmX9, w5_209, rfl, Or.inr (Or.inl ⟨rfl, rfl, rfl⟩)⟩
theorem w5_210 : Cond.fieldLink RX9 50 "SofaRailwayModel" "kept" "I" ∈ AL := AL_in (T5 (List.mem_of_getElem? (i := 210) rfl)) rfl
theorem fX9_50 : FL RX9 50 9 6 .int 0 := ⟨RX9, TX9, 22, tyX9, rfl, by decide, uwX9, tyX9_ok, nmX9, w5_210, rfl, Or.inl ⟨rfl, rfl⟩⟩
theorem w5_211 : Cond.fieldLink RX9 275 "SofaRailwayModel" "hasSaved" "Z" ∈ AL := AL_in (T5 (List.mem_of_getElem? (i := 211) rfl)) rfl
theorem fX9_275 : FL RX9 275 9 7 .boolean 0 := ⟨RX9, TX9, 22, tyX9, rfl, by decide, uwX9, tyX9_ok, nmX9, w5_211, rfl, Or.inl ⟨rfl, rfl⟩⟩
theorem w5_212 : Cond.fieldLink RX9 25 "SofaRailwayModel" "text" "[I" ∈ AL := AL_in (T5 (List.mem_of_getElem? (i := 212) rfl)) rfl
theorem fX9_25 : FL RX9 25 9 8 (.array .int) 1 := ⟨RX9, TX9, 22, tyX9, rfl, by decide, uwX9, tyX9_ok, nmX9, w5_212, rfl, Or.inr (Or.inl ⟨rfl, rfl, rfl⟩)⟩
theorem w5_213 : Cond.fieldLink RX9 28 "SofaRailwayModel" "told" "[I" ∈ AL := AL_in (T5 (List.mem_of_getElem? (i := 213) rfl)) rfl
theorem fX9_28 : FL RX9 28 9 9 (.array .int) 1 := ⟨RX9, TX9, 22, tyX9, rfl, by decide, uwX9, tyX9_ok, nmX9, w5_213, rfl, Or.inr (Or.inl ⟨rfl, rfl, rfl⟩)⟩
theorem w5_214 : Cond.fieldLink RX9 31 "SofaRailwayModel" "out" "[I" ∈ AL := AL_in (T5 (List.mem_of_getElem? (i := 214) rfl)) rfl
theorem fX9_31 : FL RX9 31 9 10 (.array .int) 1 := ⟨RX9, TX9, 22, tyX9, rfl, by decide, uwX9, tyX9_ok, nmX9, w5_214, rfl, Or.inr (Or.inl ⟨rfl, rfl, rfl⟩)⟩
theorem w5_215 : Cond.fieldLink RX9 34 "SofaRailwayModel" "far" "[I" ∈ AL := AL_in (T5 (List.mem_of_getElem? (i := 215) rfl)) rfl
theorem fX9_34 : FL RX9 34 9 11 (.array .int) 1 := ⟨RX9, TX9, 22, tyX9, rfl, by decide, uwX9, tyX9_ok, nmX9, w5_215, rfl, Or.inr (Or.inl ⟨rfl, rfl, rfl⟩)⟩
theorem w5_216 : Cond.fieldLink RX9 37 "SofaRailwayModel" "mark" "[I" ∈ AL := AL_in (T5 (List.mem_of_getElem? (i := 216) rfl)) rfl
theorem fX9_37 : FL RX9 37 9 12 (.array .int) 1 := ⟨RX9, TX9, 22, tyX9, rfl, by decide, uwX9, tyX9_ok, nmX9, w5_216, rfl, Or.inr (Or.inl ⟨rfl, rfl, rfl⟩)⟩
theorem w5_217 : Cond.fieldLink RX9 199 "SofaRailwayModel" "fed" "I" ∈ AL := AL_in (T5 (List.mem_of_getElem? (i := 217) rfl)) rfl
theorem fX9_199 : FL RX9 199 9 13 .int 0 := ⟨RX9, TX9, 22, tyX9, rfl, by decide, uwX9, tyX9_ok, nmX9, w5_217, rfl, Or.inl ⟨rfl, rfl⟩⟩
theorem w5_218 : Cond.fieldLink RX9 190 "SofaRailwayModel" "outLength" "I" ∈ AL := AL_in (T5 (List.mem_of_getElem? (i := 218) rfl)) rfl
theorem fX9_190 : FL RX9 190 9 14 .int 0 := ⟨RX9, TX9, 22, tyX9, rfl, by decide, uwX9, tyX9_ok, nmX9, w5_218, rfl, Or.inl ⟨rfl, rfl⟩⟩
theorem w5_219 : Cond.fieldLink RX9 40 "SofaRailwayModel" "faultAt" "I" ∈ AL := AL_in (T5 (List.mem_of_getElem? (i := 219) rfl)) rfl
theorem fX9_40 : FL RX9 40 9 15 .int 0 := ⟨RX9, TX9, 22, tyX9, rfl, by decide, uwX9, tyX9_ok, nmX9, w5_219, rfl, Or.inl ⟨rfl, rfl⟩⟩
theorem w5_220 : Cond.fieldLink RX9 44 "SofaRailwayModel" "failedAt" "I" ∈ AL := AL_in (T5 (List.mem_of_getElem? (i := 220) rfl)) rfl
theorem fX9_44 : FL RX9 44 9 16 .int 0 := ⟨RX9, TX9, 22, tyX9, rfl, by decide, uwX9, tyX9_ok, nmX9, w5_220, rfl, Or.inl ⟨rfl, rfl⟩⟩
theorem w5_221 : Cond.fieldLink RX9 53 "SofaRailwayModel" "answer" "I" ∈ AL := AL_in (T5 (List.mem_of_getElem? (i := 221) rfl)) rfl
theorem fX9_53 : FL RX9 53 9 17 .int 0 := ⟨RX9, TX9, 22, tyX9, rfl, by decide, uwX9, tyX9_ok, nmX9, w5_221, rfl, Or.inl ⟨rfl, rfl⟩⟩
theorem w5_222 : Cond.fieldLink RX9 202 "SofaRailwayModel" "spot" "I" ∈ AL := AL_in (T5 (List.mem_of_getElem? (i := 222) rfl)) rfl
theorem fX9_202 : FL RX9 202 9 18 .int 0 := ⟨RX9, TX9, 22, tyX9, rfl, by decide, uwX9, tyX9_ok, nmX9, w5_222, rfl, Or.inl ⟨rfl, rfl⟩⟩
theorem w5_223 : Cond.fieldLink RX9 205 "SofaRailwayModel" "end" "I" ∈ AL := AL_in (T5 (List.mem_of_getElem? (i := 223) rfl)) rfl
theorem fX9_205 : FL RX9 205 9 19 .int 0 := ⟨RX9, TX9, 22, tyX9, rfl, by decide, uwX9, tyX9_ok, nmX9, w5_223, rfl, Or.inl ⟨rfl, rfl⟩⟩
theorem w5_224 : Cond.fieldLink RX9 224 "SofaRailwayModel" "commands" "I" ∈ AL := AL_in (T5 (List.mem_of_getElem? (i := 224) rfl)) rfl
theorem fX9_224 : FL RX9 224 9 20 .int 0 := ⟨RX9, TX9, 22, tyX9, rfl, by decide, uwX9, tyX9_ok, nmX9, w5_224, rfl, Or.inl ⟨rfl, rfl⟩⟩
theorem w5_225 : Cond.fieldLink RX9 213 "SofaRailwayModel" "isWrong" "Z" ∈ AL := AL_in (T5 (List.mem_of_getElem? (i := 225) rfl)) rfl
theorem fX9_213 : FL RX9 213 9 21 .boolean 0 := ⟨RX9, TX9, 22, tyX9, rfl, by decide, uwX9, tyX9_ok, nmX9, w5_225, rfl, Or.inl ⟨rfl, rfl⟩⟩
theorem w1_29 : Cond.classLink RL 8 RX8 ∈ AL := AL_in (T1 (List.mem_of_getElem? (i := 29) rfl)) rfl
theorem w1_30 : Cond.instantiable RX8 11 ∈ AL := AL_in (T1 (List.mem_of_getElem? (i := 30) rfl)) rfl
theorem nL_8 : NL RL 8 8 11 [.null, .null, .null, .null, .null, .null, .null, .null, .int 0, .int 0, .int 0] := ⟨RX8, TX8, tyX8, rfl, uwX8, tyX8_ok, w1_29, w1_30, w1_1, rfl⟩
theorem w1_37 : Cond.classLink RX8 9 RX4 ∈ AL := AL_in (T1 (List.mem_of_getElem? (i := 37) rfl)) rfl
theorem w1_38 : Cond.instantiable RX4 15 ∈ AL := AL_in (T1 (List.mem_of_getElem? (i := 38) rfl)) rfl
theorem nX8_9 : NL RX8 9 4 15 [.int 0, .int 0, .int 0, .int 0, .int 0, .int 0, .int 0, .null, .null, .null, .null, .null, .null, .null, .null] := ⟨RX4, TX4, tyX4, rfl, uwX4, tyX4_ok, w1_37, w1_38, w1_2, rfl⟩
theorem w1_119 : Cond.classLink RX8 22 RX3 ∈ AL := AL_in (T1 (List.mem_of_getElem? (i := 119) rfl)) rfl
theorem w1_120 : Cond.instantiable RX3 3 ∈ AL := AL_in (T1 (List.mem_of_getElem? (i := 120) rfl)) rfl
theorem nX8_22 : NL RX8 22 3 3 [.null, .int 0, .int 0] := ⟨RX3, TX3, tyX3, rfl, uwX3, tyX3_ok, w1_119, w1_120, w1_3, rfl⟩
theorem w1_125 : Cond.classLink RX3 9 RX4 ∈ AL := AL_in (T1 (List.mem_of_getElem? (i := 125) rfl)) rfl
theorem nX3_9 : NL RX3 9 4 15 [.int 0, .int 0, .int 0, .int 0, .int 0, .int 0, .int 0, .null, .null, .null, .null, .null, .null, .null, .null] := ⟨RX4, TX4, tyX4, rfl, uwX4, tyX4_ok, w1_125, w1_38, w1_2, rfl⟩
theorem w1_139 : Cond.classLink RX8 29 RX6 ∈ AL := AL_in (T1 (List.mem_of_getElem? (i := 139) rfl)) rfl
theorem w1_140 : Cond.instantiable RX6 3 ∈ AL := AL_in (T1 (List.mem_of_getElem? (i := 140) rfl)) rfl
theorem nX8_29 : NL RX8 29 6 3 [.null, .null, .null] := ⟨RX6, TX6, tyX6, rfl, uwX6, tyX6_ok, w1_139, w1_140, w1_4, rfl⟩
theorem w1_158 : Cond.classLink RX8 36 RX7 ∈ AL := AL_in (T1 (List.mem_of_getElem? (i := 158) rfl)) rfl
theorem w1_159 : Cond.instantiable RX7 3 ∈ AL := AL_in (T1 (List.mem_of_getElem? (i := 159) rfl)) rfl
theorem nX8_36 : NL RX8 36 7 3 [.null, .null, .null] := ⟨RX7, TX7, tyX7, rfl, uwX7, tyX7_ok, w1_158, w1_159, w1_5, rfl⟩
theorem w1_164 : Cond.classLink RX7 9 RX6 ∈ AL := AL_in (T1 (List.mem_of_getElem? (i := 164) rfl)) rfl
theorem nX7_9 : NL RX7 9 6 3 [.null, .null, .null] := ⟨RX6, TX6, tyX6, rfl, uwX6, tyX6_ok, w1_164, w1_140, w1_4, rfl⟩
theorem w1_176 : Cond.classLink RX8 43 RX2 ∈ AL := AL_in (T1 (List.mem_of_getElem? (i := 176) rfl)) rfl
theorem w1_177 : Cond.instantiable RX2 7 ∈ AL := AL_in (T1 (List.mem_of_getElem? (i := 177) rfl)) rfl
theorem nX8_43 : NL RX8 43 2 7 [.null, .int 0, .int 0, .int 0, .null, .int 0, .int 0] := ⟨RX2, TX2, tyX2, rfl, uwX2, tyX2_ok, w1_176, w1_177, w1_6, rfl⟩
theorem w1_211 : Cond.classLink RX8 50 RX5 ∈ AL := AL_in (T1 (List.mem_of_getElem? (i := 211) rfl)) rfl
theorem w1_212 : Cond.instantiable RX5 2 ∈ AL := AL_in (T1 (List.mem_of_getElem? (i := 212) rfl)) rfl
theorem nX8_50 : NL RX8 50 5 2 [.null, .int 0] := ⟨RX5, TX5, tyX5, rfl, uwX5, tyX5_ok, w1_211, w1_212, w1_9, rfl⟩
theorem w5_198 : Cond.classLink RL 163 RX9 ∈ AL := AL_in (T5 (List.mem_of_getElem? (i := 198) rfl)) rfl
theorem w5_199 : Cond.instantiable RX9 22 ∈ AL := AL_in (T5 (List.mem_of_getElem? (i := 199) rfl)) rfl
theorem nL_163 : NL RL 163 9 22 [.int 0, .null, .null, .null, .null, .null, .int 0, .int 0, .null, .null, .null, .null, .null, .int 0, .int 0, .int 0, .int 0, .int 0, .int 0, .int 0, .int 0, .int 0] := ⟨RX9, TX9, tyX9, rfl, uwX9, tyX9_ok, w5_198, w5_199, w1_10, rfl⟩
theorem w1_118 : Cond.arrayClass .int ∈ AL := AL_in (T1 (List.mem_of_getElem? (i := 118) rfl)) rfl
theorem ac_int : Cond.arrayClass .int ∈ AL := w1_118
theorem w1_182 : Cond.fieldLink RX2 26 "SofaRailway$Command" "BLOCK" "LSofaRailway$Command;" ∈ AL := AL_in (T1 (List.mem_of_getElem? (i := 182) rfl)) rfl
theorem gX2_26 : Cond.fieldLink RX2 26 "SofaRailway$Command" "BLOCK" "LSofaRailway$Command;" ∈ AL := w1_182
theorem w1_210 : Cond.arrayClass .char ∈ AL := AL_in (T1 (List.mem_of_getElem? (i := 210) rfl)) rfl
theorem ac_char : Cond.arrayClass .char ∈ AL := w1_210
theorem w3_13 : Cond.arrayClass .byte ∈ AL := AL_in (T3 (List.mem_of_getElem? (i := 13) rfl)) rfl
theorem ac_byte : Cond.arrayClass .byte ∈ AL := w3_13
theorem w3_136 : Cond.constant RJ6 265 (1431655765) ∈ AL := AL_in (T3 (List.mem_of_getElem? (i := 136) rfl)) rfl
theorem kcJ6_265 : Cond.constant RJ6 265 (1431655765) ∈ AL := w3_136
theorem w3_137 : Cond.constant RJ6 266 (858993459) ∈ AL := AL_in (T3 (List.mem_of_getElem? (i := 137) rfl)) rfl
theorem kcJ6_266 : Cond.constant RJ6 266 (858993459) ∈ AL := w3_137
theorem w3_138 : Cond.constant RJ6 267 (252645135) ∈ AL := AL_in (T3 (List.mem_of_getElem? (i := 138) rfl)) rfl
theorem kcJ6_267 : Cond.constant RJ6 267 (252645135) ∈ AL := w3_138
theorem w5_81 : Cond.fieldLink RJ0 38 "java/lang/String" "COMPACT_STRINGS" "Z" ∈ AL := AL_in (T5 (List.mem_of_getElem? (i := 81) rfl)) rfl
theorem gJ0_38 : Cond.fieldLink RJ0 38 "java/lang/String" "COMPACT_STRINGS" "Z" ∈ AL := w5_81
theorem w5_97 : Cond.fieldLink RJ0 1053 "jdk/internal/util/Preconditions" "SIOOBE_FORMATTER" "Ljava/util/function/BiFunction;" ∈ AL := AL_in (T5 (List.mem_of_getElem? (i := 97) rfl)) rfl
theorem gJ0_1053 : Cond.fieldLink RJ0 1053 "jdk/internal/util/Preconditions" "SIOOBE_FORMATTER" "Ljava/util/function/BiFunction;" ∈ AL := w5_97
theorem w5_115 : Cond.fieldLink RJ2 44 "java/lang/StringUTF16" "$assertionsDisabled" "Z" ∈ AL := AL_in (T5 (List.mem_of_getElem? (i := 115) rfl)) rfl
theorem gJ2_44 : Cond.fieldLink RJ2 44 "java/lang/StringUTF16" "$assertionsDisabled" "Z" ∈ AL := w5_115
theorem w5_117 : Cond.fieldLink RJ2 59 "java/lang/StringUTF16" "HI_BYTE_SHIFT" "I" ∈ AL := AL_in (T5 (List.mem_of_getElem? (i := 117) rfl)) rfl
theorem gJ2_59 : Cond.fieldLink RJ2 59 "java/lang/StringUTF16" "HI_BYTE_SHIFT" "I" ∈ AL := w5_117
theorem w5_119 : Cond.fieldLink RJ2 63 "java/lang/StringUTF16" "LO_BYTE_SHIFT" "I" ∈ AL := AL_in (T5 (List.mem_of_getElem? (i := 119) rfl)) rfl
theorem gJ2_63 : Cond.fieldLink RJ2 63 "java/lang/StringUTF16" "LO_BYTE_SHIFT" "I" ∈ AL := w5_119
theorem w5_147 : Cond.fieldLink RX8 365 "SofaRailway$1" "$SwitchMap$SofaRailway$Command" "[I" ∈ AL := AL_in (T5 (List.mem_of_getElem? (i := 147) rfl)) rfl
theorem gX8_365 : Cond.fieldLink RX8 365 "SofaRailway$1" "$SwitchMap$SofaRailway$Command" "[I" ∈ AL := w5_147
theorem w7_228 : Cond.arrayClass .long ∈ AL := AL_in (T7 (List.mem_of_getElem? (i := 228) rfl)) rfl
theorem ac_long : Cond.arrayClass .long ∈ AL := w7_228
theorem w7_229 : Cond.arrayClass .double ∈ AL := AL_in (T7 (List.mem_of_getElem? (i := 229) rfl)) rfl
theorem ac_double : Cond.arrayClass .double ∈ AL := w7_229
theorem w8_10 : Cond.fieldLink RX2 52 "SofaRailway$Command" "form" "Ljava/lang/String;" ∈ AL := AL_in (T8 (List.mem_of_getElem? (i := 10) rfl)) rfl
theorem gX2_52 : Cond.fieldLink RX2 52 "SofaRailway$Command" "form" "Ljava/lang/String;" ∈ AL := w8_10
theorem w8_11 : Cond.fieldLink RJ0 9 "java/lang/String" "value" "[B" ∈ AL := AL_in (T8 (List.mem_of_getElem? (i := 11) rfl)) rfl
theorem gJ0_9 : Cond.fieldLink RJ0 9 "java/lang/String" "value" "[B" ∈ AL := w8_11
theorem w8_12 : Cond.fieldLink RJ0 15 "java/lang/String" "coder" "B" ∈ AL := AL_in (T8 (List.mem_of_getElem? (i := 12) rfl)) rfl
theorem gJ0_15 : Cond.fieldLink RJ0 15 "java/lang/String" "coder" "B" ∈ AL := w8_12
theorem w8_13 : Cond.fieldLink RJx29ce0 7 "java/lang/Enum" "ordinal" "I" ∈ AL := AL_in (T8 (List.mem_of_getElem? (i := 13) rfl)) rfl
theorem gJx29ce0_7 : Cond.fieldLink RJx29ce0 7 "java/lang/Enum" "ordinal" "I" ∈ AL := w8_13
theorem clL_8 : Cond.classLink RL 8 "SofaRailway" ∈ AL := w1_29
theorem clX8_9 : Cond.classLink RX8 9 "SofaRailway$Layout" ∈ AL := w1_37
theorem clX8_22 : Cond.classLink RX8 22 "SofaRailway$History" ∈ AL := w1_119
theorem clX3_9 : Cond.classLink RX3 9 "SofaRailway$Layout" ∈ AL := w1_125
theorem clX8_29 : Cond.classLink RX8 29 "SofaRailway$Routes" ∈ AL := w1_139
theorem clX8_36 : Cond.classLink RX8 36 "SofaRailway$Traffic" ∈ AL := w1_158
theorem clX7_9 : Cond.classLink RX7 9 "SofaRailway$Routes" ∈ AL := w1_164
theorem clX8_43 : Cond.classLink RX8 43 "SofaRailway$CommandReader" ∈ AL := w1_176
theorem clX8_50 : Cond.classLink RX8 50 "SofaRailway$Output" ∈ AL := w1_211
theorem w2_163 : Cond.classLink RL 13 "java/lang/IllegalArgumentException" ∈ AL := AL_in (T2 (List.mem_of_getElem? (i := 163) rfl)) rfl
theorem clL_13 : Cond.classLink RL 13 "java/lang/IllegalArgumentException" ∈ AL := w2_163
theorem w2_164 : Cond.classLink RL 15 "java/lang/IllegalStateException" ∈ AL := AL_in (T2 (List.mem_of_getElem? (i := 164) rfl)) rfl
theorem clL_15 : Cond.classLink RL 15 "java/lang/IllegalStateException" ∈ AL := w2_164
theorem w2_182 : Cond.classLink RX8 267 "java/lang/IndexOutOfBoundsException" ∈ AL := AL_in (T2 (List.mem_of_getElem? (i := 182) rfl)) rfl
theorem clX8_267 : Cond.classLink RX8 267 "java/lang/IndexOutOfBoundsException" ∈ AL := w2_182
theorem w3_14 : Cond.classLink RX8 294 "java/lang/IllegalArgumentException" ∈ AL := AL_in (T3 (List.mem_of_getElem? (i := 14) rfl)) rfl
theorem clX8_294 : Cond.classLink RX8 294 "java/lang/IllegalArgumentException" ∈ AL := w3_14
theorem w3_30 : Cond.classLink RX8 284 "java/lang/IllegalStateException" ∈ AL := AL_in (T3 (List.mem_of_getElem? (i := 30) rfl)) rfl
theorem clX8_284 : Cond.classLink RX8 284 "java/lang/IllegalStateException" ∈ AL := w3_30
theorem w3_46 : Cond.classLink RX8 323 "java/lang/UnsupportedOperationException" ∈ AL := AL_in (T3 (List.mem_of_getElem? (i := 46) rfl)) rfl
theorem clX8_323 : Cond.classLink RX8 323 "java/lang/UnsupportedOperationException" ∈ AL := w3_46
theorem w3_62 : Cond.classLink RX8 229 "java/util/NoSuchElementException" ∈ AL := AL_in (T3 (List.mem_of_getElem? (i := 62) rfl)) rfl
theorem clX8_229 : Cond.classLink RX8 229 "java/util/NoSuchElementException" ∈ AL := w3_62
theorem w3_95 : Cond.classLink RL 24 "java/lang/IndexOutOfBoundsException" ∈ AL := AL_in (T3 (List.mem_of_getElem? (i := 95) rfl)) rfl
theorem clL_24 : Cond.classLink RL 24 "java/lang/IndexOutOfBoundsException" ∈ AL := w3_95
theorem w3_142 : Cond.classLink RL 29 "java/util/NoSuchElementException" ∈ AL := AL_in (T3 (List.mem_of_getElem? (i := 142) rfl)) rfl
theorem clL_29 : Cond.classLink RL 29 "java/util/NoSuchElementException" ∈ AL := w3_142
theorem w3_154 : Cond.classLink RL 34 "java/lang/UnsupportedOperationException" ∈ AL := AL_in (T3 (List.mem_of_getElem? (i := 154) rfl)) rfl
theorem clL_34 : Cond.classLink RL 34 "java/lang/UnsupportedOperationException" ∈ AL := w3_154
theorem w4_223 : Cond.classLink RL 130 "java/lang/ArithmeticException" ∈ AL := AL_in (T4 (List.mem_of_getElem? (i := 223) rfl)) rfl
theorem clL_130 : Cond.classLink RL 130 "java/lang/ArithmeticException" ∈ AL := w4_223
theorem w5_1 : Cond.classLink RX8 242 "java/lang/ArithmeticException" ∈ AL := AL_in (T5 (List.mem_of_getElem? (i := 1) rfl)) rfl
theorem clX8_242 : Cond.classLink RX8 242 "java/lang/ArithmeticException" ∈ AL := w5_1
theorem clL_163 : Cond.classLink RL 163 "SofaRailwayModel" ∈ AL := w5_198
end JLINKS
end
