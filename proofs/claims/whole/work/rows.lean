section
-- ===== PART A: goes FIRST, ahead of the names: the tables' words, and 'selects' of the private methods out of them =====
/-- a private method of a class that the tables say can be made, by its rows of tables_1 -/
def lw_okq (q : MethodName × Nat) : Prop := (q.1.cls ≠ "java/lang/invoke/MethodHandle" ∧ q.1.cls ≠ "java/lang/invoke/VarHandle") ∧ Cond.instantiable q.1.cls q.2 ∈ tables_1 ∧ Cond.privateMethod q.1 ∈ tables_1 ∧ Cond.instanceMethod q.1 ∈ tables_1
theorem lw_p0 : lw_okq (⟨"SofaRailway$Routes", "unite", "(III)V"⟩, 3) := ⟨⟨by decide +kernel, by decide +kernel⟩, List.mem_of_getElem? (i := 140) (by decide +kernel), List.mem_of_getElem? (i := 292) (by decide +kernel), List.mem_of_getElem? (i := 293) (by decide +kernel)⟩
theorem lw_p1 : lw_okq (⟨"SofaRailway$Routes", "nearestOpen", "(II)I"⟩, 3) := ⟨⟨by decide +kernel, by decide +kernel⟩, List.mem_of_getElem? (i := 140) (by decide +kernel), List.mem_of_getElem? (i := 321) (by decide +kernel), List.mem_of_getElem? (i := 322) (by decide +kernel)⟩
theorem lw_p2 : lw_okq (⟨"SofaRailway$Traffic", "leadsBack", "(II)Z"⟩, 3) := ⟨⟨by decide +kernel, by decide +kernel⟩, List.mem_of_getElem? (i := 159) (by decide +kernel), List.mem_of_getElem? (i := 329) (by decide +kernel), List.mem_of_getElem? (i := 330) (by decide +kernel)⟩
theorem lw_p3 : lw_okq (⟨"SofaRailway$Routes", "shortenFrom", "(LSofaRailway$Layout;I)Z"⟩, 3) := ⟨⟨by decide +kernel, by decide +kernel⟩, List.mem_of_getElem? (i := 140) (by decide +kernel), List.mem_of_getElem? (i := 382) (by decide +kernel), List.mem_of_getElem? (i := 383) (by decide +kernel)⟩
theorem lw_p4 : lw_okq (⟨"SofaRailway", "changed", "(I)I"⟩, 11) := ⟨⟨by decide +kernel, by decide +kernel⟩, List.mem_of_getElem? (i := 30) (by decide +kernel), List.mem_of_getElem? (i := 419) (by decide +kernel), List.mem_of_getElem? (i := 420) (by decide +kernel)⟩
theorem lw_p5 : lw_okq (⟨"java/lang/Throwable", "fillInStackTrace", "(I)Ljava/lang/Throwable;"⟩, 6) := ⟨⟨by decide +kernel, by decide +kernel⟩, List.mem_of_getElem? (i := 465) (by decide +kernel), List.mem_of_getElem? (i := 463) (by decide +kernel), List.mem_of_getElem? (i := 464) (by decide +kernel)⟩
theorem lw_p6 : lw_okq (⟨"SofaRailway$Layout", "countLinks", "()I"⟩, 15) := ⟨⟨by decide +kernel, by decide +kernel⟩, List.mem_of_getElem? (i := 38) (by decide +kernel), List.mem_of_getElem? (i := 610) (by decide +kernel), List.mem_of_getElem? (i := 611) (by decide +kernel)⟩
theorem lw_p7 : lw_okq (⟨"SofaRailway", "needBlock", "(I)V"⟩, 11) := ⟨⟨by decide +kernel, by decide +kernel⟩, List.mem_of_getElem? (i := 30) (by decide +kernel), List.mem_of_getElem? (i := 662) (by decide +kernel), List.mem_of_getElem? (i := 663) (by decide +kernel)⟩
theorem lw_p8 : lw_okq (⟨"SofaRailway", "needTrain", "(I)V"⟩, 11) := ⟨⟨by decide +kernel, by decide +kernel⟩, List.mem_of_getElem? (i := 30) (by decide +kernel), List.mem_of_getElem? (i := 748) (by decide +kernel), List.mem_of_getElem? (i := 749) (by decide +kernel)⟩
theorem lw_p9 : lw_okq (⟨"SofaRailway$Layout", "countHolds", "()I"⟩, 15) := ⟨⟨by decide +kernel, by decide +kernel⟩, List.mem_of_getElem? (i := 38) (by decide +kernel), List.mem_of_getElem? (i := 817) (by decide +kernel), List.mem_of_getElem? (i := 818) (by decide +kernel)⟩
theorem lw_p10 : lw_okq (⟨"SofaRailway$Traffic", "consider", "(LSofaRailway$Layout;I)V"⟩, 3) := ⟨⟨by decide +kernel, by decide +kernel⟩, List.mem_of_getElem? (i := 159) (by decide +kernel), List.mem_of_getElem? (i := 916) (by decide +kernel), List.mem_of_getElem? (i := 917) (by decide +kernel)⟩
theorem lw_p11 : lw_okq (⟨"SofaRailway$CommandReader", "match", "(Ljava/lang/String;I)I"⟩, 7) := ⟨⟨by decide +kernel, by decide +kernel⟩, List.mem_of_getElem? (i := 177) (by decide +kernel), List.mem_of_getElem? (i := 1030) (by decide +kernel), List.mem_of_getElem? (i := 1031) (by decide +kernel)⟩
theorem lw_p12 : lw_okq (⟨"SofaRailway$CommandReader", "isDigit", "(I)Z"⟩, 7) := ⟨⟨by decide +kernel, by decide +kernel⟩, List.mem_of_getElem? (i := 177) (by decide +kernel), List.mem_of_getElem? (i := 1082) (by decide +kernel), List.mem_of_getElem? (i := 1083) (by decide +kernel)⟩
theorem lw_p13 : lw_okq (⟨"SofaRailway$CommandReader", "putNumber", "(III)V"⟩, 7) := ⟨⟨by decide +kernel, by decide +kernel⟩, List.mem_of_getElem? (i := 177) (by decide +kernel), List.mem_of_getElem? (i := 1086) (by decide +kernel), List.mem_of_getElem? (i := 1087) (by decide +kernel)⟩
theorem lw_p14 : lw_okq (⟨"SofaRailway$CommandReader", "closeCommand", "(I)Z"⟩, 7) := ⟨⟨by decide +kernel, by decide +kernel⟩, List.mem_of_getElem? (i := 177) (by decide +kernel), List.mem_of_getElem? (i := 1090) (by decide +kernel), List.mem_of_getElem? (i := 1091) (by decide +kernel)⟩
theorem lw_p15 : lw_okq (⟨"SofaRailway", "perform", "(LSofaRailway$Command;II)I"⟩, 11) := ⟨⟨by decide +kernel, by decide +kernel⟩, List.mem_of_getElem? (i := 30) (by decide +kernel), List.mem_of_getElem? (i := 1104) (by decide +kernel), List.mem_of_getElem? (i := 1105) (by decide +kernel)⟩
def lw_privs_1 : List (MethodName × Nat) := [(⟨"SofaRailway$Routes", "unite", "(III)V"⟩, 3), (⟨"SofaRailway$Routes", "nearestOpen", "(II)I"⟩, 3), (⟨"SofaRailway$Traffic", "leadsBack", "(II)Z"⟩, 3), (⟨"SofaRailway$Routes", "shortenFrom", "(LSofaRailway$Layout;I)Z"⟩, 3), (⟨"SofaRailway", "changed", "(I)I"⟩, 11), (⟨"java/lang/Throwable", "fillInStackTrace", "(I)Ljava/lang/Throwable;"⟩, 6), (⟨"SofaRailway$Layout", "countLinks", "()I"⟩, 15), (⟨"SofaRailway", "needBlock", "(I)V"⟩, 11), (⟨"SofaRailway", "needTrain", "(I)V"⟩, 11), (⟨"SofaRailway$Layout", "countHolds", "()I"⟩, 15), (⟨"SofaRailway$Traffic", "consider", "(LSofaRailway$Layout;I)V"⟩, 3), (⟨"SofaRailway$CommandReader", "match", "(Ljava/lang/String;I)I"⟩, 7), (⟨"SofaRailway$CommandReader", "isDigit", "(I)Z"⟩, 7), (⟨"SofaRailway$CommandReader", "putNumber", "(III)V"⟩, 7), (⟨"SofaRailway$CommandReader", "closeCommand", "(I)Z"⟩, 7), (⟨"SofaRailway", "perform", "(LSofaRailway$Command;II)I"⟩, 11)]
theorem lw_r1 : ∀ q ∈ lw_privs_1, lw_okq q := List.forall_mem_cons.mpr ⟨lw_p0, List.forall_mem_cons.mpr ⟨lw_p1, List.forall_mem_cons.mpr ⟨lw_p2, List.forall_mem_cons.mpr ⟨lw_p3, List.forall_mem_cons.mpr ⟨lw_p4, List.forall_mem_cons.mpr ⟨lw_p5, List.forall_mem_cons.mpr ⟨lw_p6, List.forall_mem_cons.mpr ⟨lw_p7, List.forall_mem_cons.mpr ⟨lw_p8, List.forall_mem_cons.mpr ⟨lw_p9, List.forall_mem_cons.mpr ⟨lw_p10, List.forall_mem_cons.mpr ⟨lw_p11, List.forall_mem_cons.mpr ⟨lw_p12, List.forall_mem_cons.mpr ⟨lw_p13, List.forall_mem_cons.mpr ⟨lw_p14, List.forall_mem_cons.mpr ⟨lw_p15, fun _ h => absurd h List.not_mem_nil⟩⟩⟩⟩⟩⟩⟩⟩⟩⟩⟩⟩⟩⟩⟩⟩
theorem lw_p16 : lw_okq (⟨"SofaRailwayModel", "remembers", "()V"⟩, 22) := ⟨⟨by decide +kernel, by decide +kernel⟩, List.mem_of_getElem? (i := 1159) (by decide +kernel), List.mem_of_getElem? (i := 1240) (by decide +kernel), List.mem_of_getElem? (i := 1241) (by decide +kernel)⟩
theorem lw_p17 : lw_okq (⟨"SofaRailwayModel", "adds", "(II)I"⟩, 22) := ⟨⟨by decide +kernel, by decide +kernel⟩, List.mem_of_getElem? (i := 1159) (by decide +kernel), List.mem_of_getElem? (i := 1244) (by decide +kernel), List.mem_of_getElem? (i := 1245) (by decide +kernel)⟩
theorem lw_p18 : lw_okq (⟨"SofaRailwayModel", "done", "(I)I"⟩, 22) := ⟨⟨by decide +kernel, by decide +kernel⟩, List.mem_of_getElem? (i := 1159) (by decide +kernel), List.mem_of_getElem? (i := 1251) (by decide +kernel), List.mem_of_getElem? (i := 1252) (by decide +kernel)⟩
theorem lw_p19 : lw_okq (⟨"SofaRailwayModel", "ends", "(I)I"⟩, 22) := ⟨⟨by decide +kernel, by decide +kernel⟩, List.mem_of_getElem? (i := 1159) (by decide +kernel), List.mem_of_getElem? (i := 1255) (by decide +kernel), List.mem_of_getElem? (i := 1256) (by decide +kernel)⟩
theorem lw_p20 : lw_okq (⟨"SofaRailwayModel", "changed", "(I)I"⟩, 22) := ⟨⟨by decide +kernel, by decide +kernel⟩, List.mem_of_getElem? (i := 1159) (by decide +kernel), List.mem_of_getElem? (i := 1259) (by decide +kernel), List.mem_of_getElem? (i := 1260) (by decide +kernel)⟩
theorem lw_p21 : lw_okq (⟨"SofaRailwayModel", "fails", "(I)I"⟩, 22) := ⟨⟨by decide +kernel, by decide +kernel⟩, List.mem_of_getElem? (i := 1159) (by decide +kernel), List.mem_of_getElem? (i := 1263) (by decide +kernel), List.mem_of_getElem? (i := 1264) (by decide +kernel)⟩
theorem lw_p22 : lw_okq (⟨"SofaRailwayModel", "joins", "(II)I"⟩, 22) := ⟨⟨by decide +kernel, by decide +kernel⟩, List.mem_of_getElem? (i := 1159) (by decide +kernel), List.mem_of_getElem? (i := 1275) (by decide +kernel), List.mem_of_getElem? (i := 1276) (by decide +kernel)⟩
theorem lw_p23 : lw_okq (⟨"SofaRailwayModel", "isBlock", "(I)Z"⟩, 22) := ⟨⟨by decide +kernel, by decide +kernel⟩, List.mem_of_getElem? (i := 1159) (by decide +kernel), List.mem_of_getElem? (i := 1279) (by decide +kernel), List.mem_of_getElem? (i := 1280) (by decide +kernel)⟩
theorem lw_p24 : lw_okq (⟨"SofaRailwayModel", "linked", "(II)Z"⟩, 22) := ⟨⟨by decide +kernel, by decide +kernel⟩, List.mem_of_getElem? (i := 1159) (by decide +kernel), List.mem_of_getElem? (i := 1283) (by decide +kernel), List.mem_of_getElem? (i := 1284) (by decide +kernel)⟩
theorem lw_p25 : lw_okq (⟨"SofaRailwayModel", "links", "()I"⟩, 22) := ⟨⟨by decide +kernel, by decide +kernel⟩, List.mem_of_getElem? (i := 1159) (by decide +kernel), List.mem_of_getElem? (i := 1287) (by decide +kernel), List.mem_of_getElem? (i := 1288) (by decide +kernel)⟩
theorem lw_p26 : lw_okq (⟨"SofaRailwayModel", "parts", "(II)I"⟩, 22) := ⟨⟨by decide +kernel, by decide +kernel⟩, List.mem_of_getElem? (i := 1159) (by decide +kernel), List.mem_of_getElem? (i := 1295) (by decide +kernel), List.mem_of_getElem? (i := 1296) (by decide +kernel)⟩
theorem lw_p27 : lw_okq (⟨"SofaRailwayModel", "seats", "(I)I"⟩, 22) := ⟨⟨by decide +kernel, by decide +kernel⟩, List.mem_of_getElem? (i := 1159) (by decide +kernel), List.mem_of_getElem? (i := 1303) (by decide +kernel), List.mem_of_getElem? (i := 1304) (by decide +kernel)⟩
theorem lw_p28 : lw_okq (⟨"SofaRailwayModel", "block", "(II)I"⟩, 22) := ⟨⟨by decide +kernel, by decide +kernel⟩, List.mem_of_getElem? (i := 1159) (by decide +kernel), List.mem_of_getElem? (i := 1307) (by decide +kernel), List.mem_of_getElem? (i := 1308) (by decide +kernel)⟩
theorem lw_p29 : lw_okq (⟨"SofaRailwayModel", "inside", "(I)I"⟩, 22) := ⟨⟨by decide +kernel, by decide +kernel⟩, List.mem_of_getElem? (i := 1159) (by decide +kernel), List.mem_of_getElem? (i := 1311) (by decide +kernel), List.mem_of_getElem? (i := 1312) (by decide +kernel)⟩
theorem lw_p30 : lw_okq (⟨"SofaRailwayModel", "train", "(II)I"⟩, 22) := ⟨⟨by decide +kernel, by decide +kernel⟩, List.mem_of_getElem? (i := 1159) (by decide +kernel), List.mem_of_getElem? (i := 1315) (by decide +kernel), List.mem_of_getElem? (i := 1316) (by decide +kernel)⟩
theorem lw_p31 : lw_okq (⟨"SofaRailwayModel", "cats", "()I"⟩, 22) := ⟨⟨by decide +kernel, by decide +kernel⟩, List.mem_of_getElem? (i := 1159) (by decide +kernel), List.mem_of_getElem? (i := 1319) (by decide +kernel), List.mem_of_getElem? (i := 1320) (by decide +kernel)⟩
def lw_privs_2 : List (MethodName × Nat) := [(⟨"SofaRailwayModel", "remembers", "()V"⟩, 22), (⟨"SofaRailwayModel", "adds", "(II)I"⟩, 22), (⟨"SofaRailwayModel", "done", "(I)I"⟩, 22), (⟨"SofaRailwayModel", "ends", "(I)I"⟩, 22), (⟨"SofaRailwayModel", "changed", "(I)I"⟩, 22), (⟨"SofaRailwayModel", "fails", "(I)I"⟩, 22), (⟨"SofaRailwayModel", "joins", "(II)I"⟩, 22), (⟨"SofaRailwayModel", "isBlock", "(I)Z"⟩, 22), (⟨"SofaRailwayModel", "linked", "(II)Z"⟩, 22), (⟨"SofaRailwayModel", "links", "()I"⟩, 22), (⟨"SofaRailwayModel", "parts", "(II)I"⟩, 22), (⟨"SofaRailwayModel", "seats", "(I)I"⟩, 22), (⟨"SofaRailwayModel", "block", "(II)I"⟩, 22), (⟨"SofaRailwayModel", "inside", "(I)I"⟩, 22), (⟨"SofaRailwayModel", "train", "(II)I"⟩, 22), (⟨"SofaRailwayModel", "cats", "()I"⟩, 22)]
theorem lw_r2 : ∀ q ∈ lw_privs_2, lw_okq q := List.forall_mem_cons.mpr ⟨lw_p16, List.forall_mem_cons.mpr ⟨lw_p17, List.forall_mem_cons.mpr ⟨lw_p18, List.forall_mem_cons.mpr ⟨lw_p19, List.forall_mem_cons.mpr ⟨lw_p20, List.forall_mem_cons.mpr ⟨lw_p21, List.forall_mem_cons.mpr ⟨lw_p22, List.forall_mem_cons.mpr ⟨lw_p23, List.forall_mem_cons.mpr ⟨lw_p24, List.forall_mem_cons.mpr ⟨lw_p25, List.forall_mem_cons.mpr ⟨lw_p26, List.forall_mem_cons.mpr ⟨lw_p27, List.forall_mem_cons.mpr ⟨lw_p28, List.forall_mem_cons.mpr ⟨lw_p29, List.forall_mem_cons.mpr ⟨lw_p30, List.forall_mem_cons.mpr ⟨lw_p31, fun _ h => absurd h List.not_mem_nil⟩⟩⟩⟩⟩⟩⟩⟩⟩⟩⟩⟩⟩⟩⟩⟩
theorem lw_p32 : lw_okq (⟨"SofaRailwayModel", "shoos", "(I)I"⟩, 22) := ⟨⟨by decide +kernel, by decide +kernel⟩, List.mem_of_getElem? (i := 1159) (by decide +kernel), List.mem_of_getElem? (i := 1327) (by decide +kernel), List.mem_of_getElem? (i := 1328) (by decide +kernel)⟩
theorem lw_p33 : lw_okq (⟨"SofaRailwayModel", "askedBlock", "(II)I"⟩, 22) := ⟨⟨by decide +kernel, by decide +kernel⟩, List.mem_of_getElem? (i := 1159) (by decide +kernel), List.mem_of_getElem? (i := 1339) (by decide +kernel), List.mem_of_getElem? (i := 1340) (by decide +kernel)⟩
theorem lw_p34 : lw_okq (⟨"SofaRailwayModel", "holder", "(I)I"⟩, 22) := ⟨⟨by decide +kernel, by decide +kernel⟩, List.mem_of_getElem? (i := 1159) (by decide +kernel), List.mem_of_getElem? (i := 1367) (by decide +kernel), List.mem_of_getElem? (i := 1368) (by decide +kernel)⟩
theorem lw_p35 : lw_okq (⟨"SofaRailwayModel", "sign", "(I)I"⟩, 22) := ⟨⟨by decide +kernel, by decide +kernel⟩, List.mem_of_getElem? (i := 1159) (by decide +kernel), List.mem_of_getElem? (i := 1375) (by decide +kernel), List.mem_of_getElem? (i := 1376) (by decide +kernel)⟩
theorem lw_p36 : lw_okq (⟨"SofaRailwayModel", "ways", "(I)V"⟩, 22) := ⟨⟨by decide +kernel, by decide +kernel⟩, List.mem_of_getElem? (i := 1159) (by decide +kernel), List.mem_of_getElem? (i := 1383) (by decide +kernel), List.mem_of_getElem? (i := 1384) (by decide +kernel)⟩
theorem lw_p37 : lw_okq (⟨"SofaRailwayModel", "isTrain", "(I)Z"⟩, 22) := ⟨⟨by decide +kernel, by decide +kernel⟩, List.mem_of_getElem? (i := 1159) (by decide +kernel), List.mem_of_getElem? (i := 1396) (by decide +kernel), List.mem_of_getElem? (i := 1397) (by decide +kernel)⟩
theorem lw_p38 : lw_okq (⟨"SofaRailwayModel", "next", "(I)I"⟩, 22) := ⟨⟨by decide +kernel, by decide +kernel⟩, List.mem_of_getElem? (i := 1159) (by decide +kernel), List.mem_of_getElem? (i := 1400) (by decide +kernel), List.mem_of_getElem? (i := 1401) (by decide +kernel)⟩
theorem lw_p39 : lw_okq (⟨"SofaRailwayModel", "goalOf", "(I)I"⟩, 22) := ⟨⟨by decide +kernel, by decide +kernel⟩, List.mem_of_getElem? (i := 1159) (by decide +kernel), List.mem_of_getElem? (i := 1404) (by decide +kernel), List.mem_of_getElem? (i := 1405) (by decide +kernel)⟩
theorem lw_p40 : lw_okq (⟨"SofaRailwayModel", "starts", "(II)I"⟩, 22) := ⟨⟨by decide +kernel, by decide +kernel⟩, List.mem_of_getElem? (i := 1159) (by decide +kernel), List.mem_of_getElem? (i := 1425) (by decide +kernel), List.mem_of_getElem? (i := 1426) (by decide +kernel)⟩
theorem lw_p41 : lw_okq (⟨"SofaRailwayModel", "sets", "(III)V"⟩, 22) := ⟨⟨by decide +kernel, by decide +kernel⟩, List.mem_of_getElem? (i := 1159) (by decide +kernel), List.mem_of_getElem? (i := 1429) (by decide +kernel), List.mem_of_getElem? (i := 1430) (by decide +kernel)⟩
theorem lw_p42 : lw_okq (⟨"SofaRailwayModel", "aims", "(II)I"⟩, 22) := ⟨⟨by decide +kernel, by decide +kernel⟩, List.mem_of_getElem? (i := 1159) (by decide +kernel), List.mem_of_getElem? (i := 1437) (by decide +kernel), List.mem_of_getElem? (i := 1438) (by decide +kernel)⟩
theorem lw_p43 : lw_okq (⟨"SofaRailwayModel", "forgets", "(I)I"⟩, 22) := ⟨⟨by decide +kernel, by decide +kernel⟩, List.mem_of_getElem? (i := 1159) (by decide +kernel), List.mem_of_getElem? (i := 1445) (by decide +kernel), List.mem_of_getElem? (i := 1446) (by decide +kernel)⟩
theorem lw_p44 : lw_okq (⟨"SofaRailwayModel", "holds", "(II)I"⟩, 22) := ⟨⟨by decide +kernel, by decide +kernel⟩, List.mem_of_getElem? (i := 1159) (by decide +kernel), List.mem_of_getElem? (i := 1453) (by decide +kernel), List.mem_of_getElem? (i := 1454) (by decide +kernel)⟩
theorem lw_p45 : lw_okq (⟨"SofaRailwayModel", "held", "(I)I"⟩, 22) := ⟨⟨by decide +kernel, by decide +kernel⟩, List.mem_of_getElem? (i := 1159) (by decide +kernel), List.mem_of_getElem? (i := 1457) (by decide +kernel), List.mem_of_getElem? (i := 1458) (by decide +kernel)⟩
theorem lw_p46 : lw_okq (⟨"SofaRailwayModel", "frees", "(I)I"⟩, 22) := ⟨⟨by decide +kernel, by decide +kernel⟩, List.mem_of_getElem? (i := 1159) (by decide +kernel), List.mem_of_getElem? (i := 1465) (by decide +kernel), List.mem_of_getElem? (i := 1466) (by decide +kernel)⟩
theorem lw_p47 : lw_okq (⟨"SofaRailwayModel", "rescues", "(I)I"⟩, 22) := ⟨⟨by decide +kernel, by decide +kernel⟩, List.mem_of_getElem? (i := 1159) (by decide +kernel), List.mem_of_getElem? (i := 1473) (by decide +kernel), List.mem_of_getElem? (i := 1474) (by decide +kernel)⟩
def lw_privs_3 : List (MethodName × Nat) := [(⟨"SofaRailwayModel", "shoos", "(I)I"⟩, 22), (⟨"SofaRailwayModel", "askedBlock", "(II)I"⟩, 22), (⟨"SofaRailwayModel", "holder", "(I)I"⟩, 22), (⟨"SofaRailwayModel", "sign", "(I)I"⟩, 22), (⟨"SofaRailwayModel", "ways", "(I)V"⟩, 22), (⟨"SofaRailwayModel", "isTrain", "(I)Z"⟩, 22), (⟨"SofaRailwayModel", "next", "(I)I"⟩, 22), (⟨"SofaRailwayModel", "goalOf", "(I)I"⟩, 22), (⟨"SofaRailwayModel", "starts", "(II)I"⟩, 22), (⟨"SofaRailwayModel", "sets", "(III)V"⟩, 22), (⟨"SofaRailwayModel", "aims", "(II)I"⟩, 22), (⟨"SofaRailwayModel", "forgets", "(I)I"⟩, 22), (⟨"SofaRailwayModel", "holds", "(II)I"⟩, 22), (⟨"SofaRailwayModel", "held", "(I)I"⟩, 22), (⟨"SofaRailwayModel", "frees", "(I)I"⟩, 22), (⟨"SofaRailwayModel", "rescues", "(I)I"⟩, 22)]
theorem lw_r3 : ∀ q ∈ lw_privs_3, lw_okq q := List.forall_mem_cons.mpr ⟨lw_p32, List.forall_mem_cons.mpr ⟨lw_p33, List.forall_mem_cons.mpr ⟨lw_p34, List.forall_mem_cons.mpr ⟨lw_p35, List.forall_mem_cons.mpr ⟨lw_p36, List.forall_mem_cons.mpr ⟨lw_p37, List.forall_mem_cons.mpr ⟨lw_p38, List.forall_mem_cons.mpr ⟨lw_p39, List.forall_mem_cons.mpr ⟨lw_p40, List.forall_mem_cons.mpr ⟨lw_p41, List.forall_mem_cons.mpr ⟨lw_p42, List.forall_mem_cons.mpr ⟨lw_p43, List.forall_mem_cons.mpr ⟨lw_p44, List.forall_mem_cons.mpr ⟨lw_p45, List.forall_mem_cons.mpr ⟨lw_p46, List.forall_mem_cons.mpr ⟨lw_p47, fun _ h => absurd h List.not_mem_nil⟩⟩⟩⟩⟩⟩⟩⟩⟩⟩⟩⟩⟩⟩⟩⟩
theorem lw_p48 : lw_okq (⟨"SofaRailwayModel", "asked", "(II)I"⟩, 22) := ⟨⟨by decide +kernel, by decide +kernel⟩, List.mem_of_getElem? (i := 1159) (by decide +kernel), List.mem_of_getElem? (i := 1485) (by decide +kernel), List.mem_of_getElem? (i := 1486) (by decide +kernel)⟩
theorem lw_p49 : lw_okq (⟨"SofaRailwayModel", "ranked", "(I)I"⟩, 22) := ⟨⟨by decide +kernel, by decide +kernel⟩, List.mem_of_getElem? (i := 1159) (by decide +kernel), List.mem_of_getElem? (i := 1513) (by decide +kernel), List.mem_of_getElem? (i := 1514) (by decide +kernel)⟩
theorem lw_p50 : lw_okq (⟨"SofaRailwayModel", "blocker", "(I)I"⟩, 22) := ⟨⟨by decide +kernel, by decide +kernel⟩, List.mem_of_getElem? (i := 1159) (by decide +kernel), List.mem_of_getElem? (i := 1521) (by decide +kernel), List.mem_of_getElem? (i := 1522) (by decide +kernel)⟩
theorem lw_p51 : lw_okq (⟨"SofaRailwayModel", "passes", "(I)I"⟩, 22) := ⟨⟨by decide +kernel, by decide +kernel⟩, List.mem_of_getElem? (i := 1159) (by decide +kernel), List.mem_of_getElem? (i := 1538) (by decide +kernel), List.mem_of_getElem? (i := 1539) (by decide +kernel)⟩
theorem lw_p52 : lw_okq (⟨"SofaRailwayModel", "oneTick", "()I"⟩, 22) := ⟨⟨by decide +kernel, by decide +kernel⟩, List.mem_of_getElem? (i := 1159) (by decide +kernel), List.mem_of_getElem? (i := 1542) (by decide +kernel), List.mem_of_getElem? (i := 1543) (by decide +kernel)⟩
theorem lw_p53 : lw_okq (⟨"SofaRailwayModel", "acts", "(I)Z"⟩, 22) := ⟨⟨by decide +kernel, by decide +kernel⟩, List.mem_of_getElem? (i := 1159) (by decide +kernel), List.mem_of_getElem? (i := 1546) (by decide +kernel), List.mem_of_getElem? (i := 1547) (by decide +kernel)⟩
theorem lw_p54 : lw_okq (⟨"SofaRailwayModel", "writes", "(I)V"⟩, 22) := ⟨⟨by decide +kernel, by decide +kernel⟩, List.mem_of_getElem? (i := 1159) (by decide +kernel), List.mem_of_getElem? (i := 1574) (by decide +kernel), List.mem_of_getElem? (i := 1575) (by decide +kernel)⟩
theorem lw_p55 : lw_okq (⟨"SofaRailwayModel", "writesNumber", "(I)V"⟩, 22) := ⟨⟨by decide +kernel, by decide +kernel⟩, List.mem_of_getElem? (i := 1159) (by decide +kernel), List.mem_of_getElem? (i := 1578) (by decide +kernel), List.mem_of_getElem? (i := 1579) (by decide +kernel)⟩
theorem lw_p56 : lw_okq (⟨"SofaRailwayModel", "readsOne", "()V"⟩, 22) := ⟨⟨by decide +kernel, by decide +kernel⟩, List.mem_of_getElem? (i := 1159) (by decide +kernel), List.mem_of_getElem? (i := 1602) (by decide +kernel), List.mem_of_getElem? (i := 1603) (by decide +kernel)⟩
theorem lw_p57 : lw_okq (⟨"SofaRailwayModel", "here", "(I)I"⟩, 22) := ⟨⟨by decide +kernel, by decide +kernel⟩, List.mem_of_getElem? (i := 1159) (by decide +kernel), List.mem_of_getElem? (i := 1606) (by decide +kernel), List.mem_of_getElem? (i := 1607) (by decide +kernel)⟩
theorem lw_p58 : lw_okq (⟨"SofaRailwayModel", "one", "(ILjava/lang/String;I)V"⟩, 22) := ⟨⟨by decide +kernel, by decide +kernel⟩, List.mem_of_getElem? (i := 1159) (by decide +kernel), List.mem_of_getElem? (i := 1611) (by decide +kernel), List.mem_of_getElem? (i := 1612) (by decide +kernel)⟩
theorem lw_p59 : lw_okq (⟨"SofaRailwayModel", "says", "(Ljava/lang/String;)V"⟩, 22) := ⟨⟨by decide +kernel, by decide +kernel⟩, List.mem_of_getElem? (i := 1159) (by decide +kernel), List.mem_of_getElem? (i := 1615) (by decide +kernel), List.mem_of_getElem? (i := 1616) (by decide +kernel)⟩
theorem lw_p60 : lw_okq (⟨"SofaRailwayModel", "number", "(II)V"⟩, 22) := ⟨⟨by decide +kernel, by decide +kernel⟩, List.mem_of_getElem? (i := 1159) (by decide +kernel), List.mem_of_getElem? (i := 1621) (by decide +kernel), List.mem_of_getElem? (i := 1622) (by decide +kernel)⟩
theorem lw_p61 : lw_okq (⟨"SofaRailwayModel", "two", "(ILjava/lang/String;ILjava/lang/String;I)V"⟩, 22) := ⟨⟨by decide +kernel, by decide +kernel⟩, List.mem_of_getElem? (i := 1159) (by decide +kernel), List.mem_of_getElem? (i := 1629) (by decide +kernel), List.mem_of_getElem? (i := 1630) (by decide +kernel)⟩
theorem lw_p62 : lw_okq (⟨"SofaRailwayModel", "does", "(I)I"⟩, 22) := ⟨⟨by decide +kernel, by decide +kernel⟩, List.mem_of_getElem? (i := 1159) (by decide +kernel), List.mem_of_getElem? (i := 1641) (by decide +kernel), List.mem_of_getElem? (i := 1642) (by decide +kernel)⟩
def lw_privs_4 : List (MethodName × Nat) := [(⟨"SofaRailwayModel", "asked", "(II)I"⟩, 22), (⟨"SofaRailwayModel", "ranked", "(I)I"⟩, 22), (⟨"SofaRailwayModel", "blocker", "(I)I"⟩, 22), (⟨"SofaRailwayModel", "passes", "(I)I"⟩, 22), (⟨"SofaRailwayModel", "oneTick", "()I"⟩, 22), (⟨"SofaRailwayModel", "acts", "(I)Z"⟩, 22), (⟨"SofaRailwayModel", "writes", "(I)V"⟩, 22), (⟨"SofaRailwayModel", "writesNumber", "(I)V"⟩, 22), (⟨"SofaRailwayModel", "readsOne", "()V"⟩, 22), (⟨"SofaRailwayModel", "here", "(I)I"⟩, 22), (⟨"SofaRailwayModel", "one", "(ILjava/lang/String;I)V"⟩, 22), (⟨"SofaRailwayModel", "says", "(Ljava/lang/String;)V"⟩, 22), (⟨"SofaRailwayModel", "number", "(II)V"⟩, 22), (⟨"SofaRailwayModel", "two", "(ILjava/lang/String;ILjava/lang/String;I)V"⟩, 22), (⟨"SofaRailwayModel", "does", "(I)I"⟩, 22)]
theorem lw_r4 : ∀ q ∈ lw_privs_4, lw_okq q := List.forall_mem_cons.mpr ⟨lw_p48, List.forall_mem_cons.mpr ⟨lw_p49, List.forall_mem_cons.mpr ⟨lw_p50, List.forall_mem_cons.mpr ⟨lw_p51, List.forall_mem_cons.mpr ⟨lw_p52, List.forall_mem_cons.mpr ⟨lw_p53, List.forall_mem_cons.mpr ⟨lw_p54, List.forall_mem_cons.mpr ⟨lw_p55, List.forall_mem_cons.mpr ⟨lw_p56, List.forall_mem_cons.mpr ⟨lw_p57, List.forall_mem_cons.mpr ⟨lw_p58, List.forall_mem_cons.mpr ⟨lw_p59, List.forall_mem_cons.mpr ⟨lw_p60, List.forall_mem_cons.mpr ⟨lw_p61, List.forall_mem_cons.mpr ⟨lw_p62, fun _ h => absurd h List.not_mem_nil⟩⟩⟩⟩⟩⟩⟩⟩⟩⟩⟩⟩⟩⟩⟩
def lw_privs : List (MethodName × Nat) := lw_privs_1 ++ (lw_privs_2 ++ (lw_privs_3 ++ (lw_privs_4)))
def lw_tbl : List Cond := k2_sels lw_privs ++ tables_1
theorem lw_privs_ok : ∀ q ∈ lw_privs, lw_okq q := by
  show ∀ q ∈ lw_privs_1 ++ (lw_privs_2 ++ (lw_privs_3 ++ (lw_privs_4))), lw_okq q
  exact List.forall_mem_append.mpr ⟨lw_r1, List.forall_mem_append.mpr ⟨lw_r2, List.forall_mem_append.mpr ⟨lw_r3, lw_r4⟩⟩⟩
/-- the streams that the claim lets the run draw from -/
abbrev lw_cs : List Choice := [Jvm.Choice.named "NaN.bits"]
theorem lw_bits : nanBits ∈ lw_cs := by first | decide | exact List.mem_cons_self | simp [lw_cs, nanBits]

/-! ===== BEGIN words of one list among another's, by their places ===== -/
theorem goodIn_r {big : List Cond} (ws : List Cond) (ps : List Nat) (hp : ws = ps.filterMap (fun i => big[i]?)) (h : ws.all goodWord = true) : GoodIn big ws := by
  intro w hw
  have h1 := List.all_eq_true.mp h w hw
  rw [hp] at hw
  obtain ⟨i, -, hi⟩ := List.mem_filterMap.mp hw
  have hm : w ∈ big := by first | exact List.mem_of_getElem? hi | exact List.getElem?_mem hi
  exact ⟨hm, good_of_word h1⟩
theorem goodIn_app {big a b : List Cond} (ha : GoodIn big a) (hb : GoodIn big b) : GoodIn big (a ++ b) := fun w h => (List.mem_append.mp h).elim (ha w) (hb w)
theorem goodIn_ca {big a b : List Cond} {c : Cond} (ha : GoodIn big (c :: a)) (hb : GoodIn big b) : GoodIn big (c :: (a ++ b)) := fun w h => (List.mem_cons.mp h).elim (fun e => ha w (List.mem_cons.mpr (Or.inl e))) (fun h => (List.mem_append.mp h).elim (fun h => ha w (List.mem_cons.mpr (Or.inr h))) (hb w))
theorem goodIn_sub {big ws : List Cond} (hm : ∀ w ∈ ws, w ∈ big) (h : ws.all goodWord = true) : GoodIn big ws := fun w hw => ⟨hm w hw, good_of_word (List.all_eq_true.mp h w hw)⟩
/-! ===== END ===== -/

/-! ===== BEGIN exceptions that leave a method, and their catching by the caller (launches without stack traces) ===== -/
section VXA
/-! The laws vx_back, vx_callV, vx_callS, vx_callSW, vx_throw0, vx_throwS follow proofs of the library, with one case more: JvmDerived/Free/Laws.lean (Back.of_free), Shelf42/LK1.lean (callV, callS), Shelf/KitTraced.lean (throwNew0V, throwNewS). -/
/-- where a method has thrown q: the class by its name, the cell, what was written, the world -/
def vx_T (XC : String → State → State → Prop) (st : State) (q : Addr) (t : State) (mc ms : Nat) (free : Addr → Prop) : Prop :=
  ∃ (E : String) (ce : Cell) (L : List Loc), XC E st t ∧ t.heap[q]? = some ce ∧ ce.vm = .none ∧ st.vm.findClass E = some ce.cls ∧ st.WarmedH t.vm ∧ st.sameButNew ({ t with vm := st.vm } : State) L mc ms ∧ ∀ z ∈ L, free z.base
def vx_Q (Qc : Array Value → State → Outcome → State → Prop) (XC : String → State → State → Prop) (mc ms : Nat) (free : Addr → Prop) : Array Value → State → Outcome → State → Prop := fun a st o t =>
  (Qc a st o t ∧ ∃ L, FrameEnd st o t L mc ms ∧ ∀ q ∈ L, free q.base) ∨ ∃ q, o = .threw q ∧ vx_T XC st q t mc ms free
/-- a callee that returns or throws -/
def vx_Met (l : Launch) (y : MethodName) (ws : List Cond) (rm : Room) (Pc : Array Value → State → Prop) (Qc : Array Value → State → Outcome → State → Prop) (XC : String → State → State → Prop) (mc ms : Nat) (free : Addr → Prop) : Prop :=
  MetFree l y (headSpec ws rm) Pc (fun _ _ _ _ _ => True) (vx_Q Qc XC mc ms free)
def vx_Post (XC : String → State → State → Prop) (mc ms : Nat) (free : Addr → Prop) : Pt → Array Value → Addr → Pt → Prop := fun A a q B =>
  ∃ (g : JFrame) (mk : MethodId) (t : State) (L : List Loc) (E : String) (ce : Cell), B.U.heap = t.heap ∧ B.U.vm = t.vm ∧ XC E (A.U.calling g mk a) t ∧ t.heap[q]? = some ce ∧ ce.vm = .none ∧ A.U.vm.findClass E = some ce.cls ∧ B.locs = A.locs ++ L ∧ (∀ z ∈ L, free z.base) ∧ B.cells = A.cells + mc ∧ B.slots = A.slots + ms
def vx_Back (l : Launch) (R : Room) (p : Program) (e : Env) (below : List Frame) (s : State) (sargs : Array Value) (y : MethodName) (len W9 : Nat)
    (Pre : Pt → Array Value → Prop) (Post : Pt → Array Value → Option Value → Pt → Prop) (PostX : Pt → Array Value → Addr → Pt → Prop) : Prop :=
  ∀ (m : MethodId) (meth : Method) (c : Code) (A : Pt) (g : JFrame) (ig : Instr) (mk : MethodId) (a : Array Value),
    Stand p l e R s m sargs below meth c A.U A.locs A.cells A.slots → g.method = m → g.locals.size = c.maxLocals → decode c.code g.pc = .ok (ig, len) →
    2 * g.monitorRoom + (g.stack.map fun v => v.category).sum ≤ W9 → A.U.methodNamed? y = some mk → Pre A a →
    (∃ (v : Option Value) (B : Pt), Stand p l e R s m sargs below meth c B.U B.locs B.cells B.slots ∧ Post A a v B ∧
      Steps p.tables e below (doInvoke e (A.U.setTop g) [] mk a).1 (B.U.setTop { g with pc := g.pc + len, stack := v.toList ++ g.stack })) ∨
    (∃ (q : Addr) (B : Pt), Stand p l e R s m sargs below meth c B.U B.locs B.cells B.slots ∧ PostX A a q B ∧
      Steps p.tables e below (doInvoke e (A.U.setTop g) [] mk a).1 ((B.U.setTop g).pushFrame (.throwing q)))
section Payer
variable {l : Launch} {R : Room} {p : Program} {e : Env} {below : List Frame} {s : State} {sargs : Array Value} {y : MethodName} {len W9 : Nat}
theorem vx_back {ws : List Cond} {rm : Room} {Pc : Array Value → State → Prop} {Qc : Array Value → State → Outcome → State → Prop} {XC : String → State → State → Prop} {mc ms : Nat} {free : Addr → Prop} {bytes : ByteArray} {maxL : Nat} {ret : Option FieldType}
    (hM : vx_Met l y ws rm Pc Qc XC mc ms free) (hblind : FrameBlind Pc) (hrc : rm.cells = mc) (hrs : rm.slots = ms)
    (hframes : rm.frames + 1 ≤ R.frames) (hlocals : W9 + (maxL + 11) + rm.locals ≤ R.locals)
    (hws : ∀ w ∈ ws, ∀ a' U, s.WarmedH U.vm → w.before a' U = true) (hcode : Cond.code y bytes maxL ret ∈ ws) (hinit : ∀ a' U, s.WarmedH U.vm → (Cond.initialized y.cls).before a' U = true) :
    vx_Back l R p e below s sargs y len W9 (PreOf R mc ms Pc) (PostOf Qc mc ms free) (vx_Post XC mc ms free) := by
  intro m meth c A g ig mk a X hg hsize hdg hW hn hp
  have h1 : (headSpec ws rm).pre.before a A.U = true := atoms_intro fun w hw => hws w hw _ _ X.warmed
  have h2 : (Cond.code y bytes maxL ret).before a A.U = true := hws _ hcode _ _ X.warmed
  have h3 : (Cond.initialized y.cls).before a A.U = true := hinit _ _ X.warmed
  have h4 : A.cells + (headSpec ws rm).room.cells ≤ R.cells := by rw [show (headSpec ws rm).room.cells = mc from hrc]; exact hp.1
  have h5 : A.slots + (headSpec ws rm).room.slots ≤ R.slots := by rw [show (headSpec ws rm).room.slots = ms from hrs]; exact hp.2.1
  have hPc : Pc a (A.U.calling g mk a) := hblind _ _ _ _ hp.2.2
  obtain ⟨U, Ls, c0, s0⟩ := A
  dsimp only [Pt.U, Pt.locs, Pt.cells, Pt.slots] at h1 h2 h3 h4 h5 X hn hPc ⊢
  obtain ⟨methY, cY, hmY, hcY, -, hlY, -, -, -, -⟩ := Cond.code_spec hn h2
  obtain ⟨kY, hkY, -⟩ := className_of_methodNamed hn
  have hinitY : kY.init = .initialized := Cond.initialized_spec (findClass_of_methodNamed hn) hkY h3
  have h : At U g.method c below := by rw [hg]; exact X.here
  have hlocals9 : W9 + (maxL + 11) + (headSpec ws rm).room.locals ≤ R.locals := hlocals
  have happ : (headSpec ws rm).appliesLoose y e.platform (U.calling g mk a) = true :=
    Spec.appliesLoose_calling (g := g) h hdg hn hkY hinitY
      (X.room_calling (g := g) (R' := (headSpec ws rm).room) hsize hmY hcY hframes (by rw [hlY]; omega) h4 h5) h1
  obtain ⟨mid, hmid⟩ := h.above
  have hfr : (U.setTop g).frames = (.java g :: mid) ++ below := by rw [State.frames_setTop' g h.top, hmid]; rfl
  obtain ⟨o, s₂, hsteps, -, hend, hq⟩ := Steps.callFree hM p X.admits X.cas X.clock (acts := []) hfr happ hPc trivial
  have hq' : vx_Q Qc XC mc ms free a (U.calling g mk a) o s₂ := hq
  rw [State.frames_setTop' g h.top] at hend
  obtain ⟨g₀, hg0⟩ := Option.isSome_iff_exists.mp h.top
  obtain ⟨r, hr⟩ := State.topJava?_eq_some.mp hg0
  have hr' : (({ U with heap := s₂.heap, slotsUsed := s₂.slotsUsed } : State).setVm s₂.vm).frames = .java g₀ :: r := hr
  rcases hq' with ⟨hqc, L, hfe, hL⟩ | ⟨q, rfl, E, ce, L, hx, hce, hcv, hcl, hW₂, hsm, hL⟩
  · obtain ⟨⟨v, rfl⟩, hW₂, e2, q2, q3, q4, q5, q6⟩ := id hfe
    have e3 : s₂ = ({ (U.calling g mk a).setFrames s₂.frames with heap := s₂.heap, slotsUsed := s₂.slotsUsed } : State).setVm s₂.vm := by
      have : s₂ = ({ s₂ with vm := (U.calling g mk a).vm } : State).setVm s₂.vm := rfl
      rw [e2] at this
      exact this
    obtain ⟨c₂, i₂, len₂, hc₂, hd₂, hf₂⟩ := hend
    have hW' : U.WarmedH s₂.vm := hW₂
    have hcc : c₂ = c := by
      have h1 : s₂.code? g.method = U.code? g.method := by
        rw [State.code?_eq, State.code?_eq, hW'.alike.method?]
      exact Option.some.inj (hc₂.symm.trans (h1.trans h.code))
    subst hcc
    have hlen : len₂ = len := by rw [hdg] at hd₂; cases hd₂; rfl
    subst hlen
    have hs₂ : s₂ = (({ U with heap := s₂.heap, slotsUsed := s₂.slotsUsed } : State).setVm s₂.vm).setTop { g with pc := g.pc + len₂, stack := v.toList ++ g.stack } := by
      refine e3.trans ?_
      rw [hf₂, State.calling_eq h.top, State.setFrames_setFrames, State.setTop_of_frames _ hr', hr]
      rfl
    have hsame : U.sameButNew ({ U with heap := s₂.heap, slotsUsed := s₂.slotsUsed } : State) L mc ms := by
      refine ⟨?_, q2, q3, q4, q5, q6⟩
      obtain ⟨t, ht, -⟩ := State.frames_cons hr
      show ({ U with heap := s₂.heap, slotsUsed := s₂.slotsUsed } : State) = { U.setFrames U.frames with heap := s₂.heap, slotsUsed := s₂.slotsUsed }
      rw [State.setFrames_self ht]
    subst hg
    refine Or.inl ⟨v, ⟨(({ U with heap := s₂.heap, slotsUsed := s₂.slotsUsed } : State).setVm s₂.vm), Ls ++ L, c0 + mc, s0 + ms⟩,
      ⟨X.admits, X.cas, X.clock, X.frames, X.room, X.hears, X.method, X.code, (X.here.setHeapUsed s₂.heap s₂.slotsUsed).setVm hW'.alike, X.tail, State.WarmedH.trans X.warmed hW', X.limits, X.bytes, X.same.trans (hsame.setVm s.vm)⟩,
      ⟨g, mk, s₂, L, rfl, rfl, hqc, rfl, hL, rfl, rfl⟩, ?_⟩
    show Steps p.tables e below _ ((({ U with heap := s₂.heap, slotsUsed := s₂.slotsUsed } : State).setVm s₂.vm).setTop { g with pc := g.pc + len₂, stack := v.toList ++ g.stack })
    rw [← hs₂]
    exact hsteps
  · obtain ⟨e2, q2, q3, q4, q5, q6⟩ := id hsm
    have e3 : s₂ = ({ (U.calling g mk a).setFrames s₂.frames with heap := s₂.heap, slotsUsed := s₂.slotsUsed } : State).setVm s₂.vm := by
      have : s₂ = ({ s₂ with vm := (U.calling g mk a).vm } : State).setVm s₂.vm := rfl
      rw [e2] at this
      exact this
    have hf₂ : s₂.frames = .throwing q :: .java g :: U.frames.tail := hend
    have hW' : U.WarmedH s₂.vm := hW₂
    have hs₂ : s₂ = ((({ U with heap := s₂.heap, slotsUsed := s₂.slotsUsed } : State).setVm s₂.vm).setTop g).pushFrame (.throwing q) := by
      refine e3.trans ?_
      rw [hf₂, State.calling_eq h.top, State.setFrames_setFrames, State.pushFrame, State.frames_setTop _ hr', State.setTop_of_frames _ hr', State.setFrames_setFrames, hr]
      rfl
    have hsame : U.sameButNew ({ U with heap := s₂.heap, slotsUsed := s₂.slotsUsed } : State) L mc ms := by
      refine ⟨?_, q2, q3, q4, q5, q6⟩
      obtain ⟨t, ht, -⟩ := State.frames_cons hr
      show ({ U with heap := s₂.heap, slotsUsed := s₂.slotsUsed } : State) = { U.setFrames U.frames with heap := s₂.heap, slotsUsed := s₂.slotsUsed }
      rw [State.setFrames_self ht]
    subst hg
    refine Or.inr ⟨q, ⟨(({ U with heap := s₂.heap, slotsUsed := s₂.slotsUsed } : State).setVm s₂.vm), Ls ++ L, c0 + mc, s0 + ms⟩,
      ⟨X.admits, X.cas, X.clock, X.frames, X.room, X.hears, X.method, X.code, (X.here.setHeapUsed s₂.heap s₂.slotsUsed).setVm hW'.alike, X.tail, State.WarmedH.trans X.warmed hW', X.limits, X.bytes, X.same.trans (hsame.setVm s.vm)⟩,
      ⟨g, mk, s₂, L, E, ce, rfl, rfl, hx, hce, hcv, hcl, rfl, hL, rfl, rfl⟩, ?_⟩
    show Steps p.tables e below _ (((({ U with heap := s₂.heap, slotsUsed := s₂.slotsUsed } : State).setVm s₂.vm).setTop g).pushFrame (.throwing q))
    rw [← hs₂]
    exact hsteps
end Payer
section Calls
variable {p : Program} {l : Launch} {e : Env} {R : Room} {s : State} {m : MethodId} {args : Array Value} {below : List Frame} {meth : Method} {c : Code} {T : State} {locs : List Loc} {cells slots : Nat}
theorem vx_callV (X : Stand p l e R s m args below meth c T locs cells slots) (hexec : p.tables.exec = Jvm.exec) {own C : String} {index : Nat} {y : MethodName} {bytes : ByteArray} {maxL : Nat} {ret : Option FieldType}
    (hown : s.vm.findClass own = some m.cls) (hlink : (Cond.methodLink own index y).before args s = true) (hinst : (Cond.instanceMethod y).before args s = true) (hsel : (Cond.selects C y y).before args s = true)
    (hcode : (Cond.code y bytes maxL ret).before args s = true) (hy : y.cls ≠ "java/lang/invoke/MethodHandle" ∧ y.cls ≠ "java/lang/invoke/VarHandle")
    {W9 : Nat} {Pre : Pt → Array Value → Prop} {Post : Pt → Array Value → Option Value → Pt → Prop} {PostX : Pt → Array Value → Addr → Pt → Prop} (hK : vx_Back l R p e below s args y 3 W9 Pre Post PostX)
    {b : Addr} {cellB : Cell} (hcell : T.heap[b]? = some cellB) (hobj : cellB.vm.isStatics = false) (hcls : s.vm.findClass C = some cellB.cls)
    {g : JFrame} (hg : g.method = m) (hsize : g.locals.size = c.maxLocals) {argsL rest : List Value} (hlen : ∀ sig, parseMethodDescriptor y.desc = some sig → argsL.length = sig.parameters.length)
    (hstack : g.stack = argsL.reverse ++ .ref b :: rest) (hW : 2 * g.monitorRoom + (rest.map fun v => v.category).sum ≤ W9) (hdg : decode c.code g.pc = .ok (.invokevirtual index, 3))
    (hpre : ∀ vm₁, s.WarmedH vm₁ → Pre ⟨T.setVm vm₁, locs, cells, slots⟩ (Value.ref b :: argsL).toArray) :
    (∃ (v : Option Value) (vm₁ : Vm) (B : Pt), s.WarmedH vm₁ ∧ Stand p l e R s m args below meth c B.U B.locs B.cells B.slots ∧ Post ⟨T.setVm vm₁, locs, cells, slots⟩ (Value.ref b :: argsL).toArray v B ∧
      ∀ target, Steps p.tables e below (B.U.setTop { g with pc := g.pc + 3, stack := v.toList ++ rest }) target → Steps p.tables e below (T.setTop g) target) ∨
    (∃ (q : Addr) (vm₁ : Vm) (B : Pt), s.WarmedH vm₁ ∧ Stand p l e R s m args below meth c B.U B.locs B.cells B.slots ∧ PostX ⟨T.setVm vm₁, locs, cells, slots⟩ (Value.ref b :: argsL).toArray q B ∧
      Steps p.tables e below (T.setTop g) ((B.U.setTop { g with stack := rest }).pushFrame (.throwing q))) := by
  obtain ⟨mk, methM, hnamed, hmethM, hstM, habM⟩ := Cond.instanceMethod_spec hinst
  obtain ⟨methM', cM, hmethM', -, -, -, -, -, -, hsigM⟩ := Cond.code_spec hnamed hcode
  cases hmethM.symm.trans hmethM'
  obtain ⟨c2, r2, m2, q1, q2, q3, q4, kP, hkP, hkPi⟩ := Cond.selects_spec hsel
  cases hcls.symm.trans q1
  cases (State.methodFound?_of_named hnamed hy).symm.trans q2
  cases hnamed.symm.trans q3
  have hselP : selectMethod e.platform s.vm cellB.cls mk = .method mk := by rw [Launch.admits_selectMethod X.admits]; exact q4
  obtain ⟨vm₁, X₁, hstep₁⟩ := X.invokevirtual hexec hown hlink hnamed hmethM hstM hkP hkPi hy (a := b) (cell := cellB) hcell
    (fun z h => by rw [h] at hobj; cases hobj) hselP hmethM habM hkP hkPi (g := g) hg (argsL := argsL) (rest := rest) (hlen _ hsigM) hstack hdg
  rcases hK m meth c ⟨T.setVm vm₁, locs, cells, slots⟩ { g with stack := rest } (.invokevirtual index) mk (Value.ref b :: argsL).toArray X₁ hg hsize hdg hW (X₁.named hnamed) (hpre vm₁ X₁.warmed) with ⟨v, B, X', hpost, hsteps⟩ | ⟨q, B, X', hpost, hsteps⟩
  · exact Or.inl ⟨v, vm₁, B, X₁.warmed, X', hpost, fun target h => hstep₁ _ fun acts => by rw [doInvoke_state]; exact hsteps.trans h⟩
  · exact Or.inr ⟨q, vm₁, B, X₁.warmed, X', hpost, hstep₁ _ fun acts => by rw [doInvoke_state]; exact hsteps⟩
theorem vx_callS (X : Stand p l e R s m args below meth c T locs cells slots) (hexec : p.tables.exec = Jvm.exec) {own : String} {index : Nat} {y : MethodName} {bytes : ByteArray} {maxL : Nat} {ret : Option FieldType}
    (hown : s.vm.findClass own = some m.cls) (hlink : (Cond.methodLink own index y).before args s = true) (hstat : (Cond.static y).before args s = true) (hinit : (Cond.initialized y.cls).before args s = true)
    (hcode : (Cond.code y bytes maxL ret).before args s = true) (hy : y.cls ≠ "java/lang/invoke/MethodHandle" ∧ y.cls ≠ "java/lang/invoke/VarHandle")
    {W9 : Nat} {Pre : Pt → Array Value → Prop} {Post : Pt → Array Value → Option Value → Pt → Prop} {PostX : Pt → Array Value → Addr → Pt → Prop} (hK : vx_Back l R p e below s args y 3 W9 Pre Post PostX)
    {g : JFrame} (hg : g.method = m) (hsize : g.locals.size = c.maxLocals) {argsL rest : List Value} (hlen : ∀ sig, parseMethodDescriptor y.desc = some sig → argsL.length = sig.parameters.length)
    (hstack : g.stack = argsL.reverse ++ rest) (hW : 2 * g.monitorRoom + (rest.map fun v => v.category).sum ≤ W9) (hdg : decode c.code g.pc = .ok (.invokestatic index, 3))
    (hpre : ∀ vm₁, s.WarmedH vm₁ → Pre ⟨T.setVm vm₁, locs, cells, slots⟩ argsL.toArray) :
    (∃ (v : Option Value) (vm₁ : Vm) (B : Pt), s.WarmedH vm₁ ∧ Stand p l e R s m args below meth c B.U B.locs B.cells B.slots ∧ Post ⟨T.setVm vm₁, locs, cells, slots⟩ argsL.toArray v B ∧
      ∀ target, Steps p.tables e below (B.U.setTop { g with pc := g.pc + 3, stack := v.toList ++ rest }) target → Steps p.tables e below (T.setTop g) target) ∨
    (∃ (q : Addr) (vm₁ : Vm) (B : Pt), s.WarmedH vm₁ ∧ Stand p l e R s m args below meth c B.U B.locs B.cells B.slots ∧ PostX ⟨T.setVm vm₁, locs, cells, slots⟩ argsL.toArray q B ∧
      Steps p.tables e below (T.setTop g) ((B.U.setTop { g with stack := rest }).pushFrame (.throwing q))) := by
  obtain ⟨mk, hnamed⟩ := Cond.code_named hcode
  obtain ⟨methM, cM, hmethM, -, -, -, -, -, -, hsigM⟩ := Cond.code_spec hnamed hcode
  have hstatic : methM.isStatic = true := Cond.static_spec hnamed hmethM hstat
  obtain ⟨kP, hkP, -⟩ := className_of_methodNamed hnamed
  have hinitP : kP.init = .initialized := Cond.initialized_spec (findClass_of_methodNamed hnamed) hkP hinit
  obtain ⟨vm₁, X₁, hstep₁⟩ := X.invokestatic hexec hown hlink hnamed hmethM hstatic hkP hinitP hy (g := g) hg (argsL := argsL) (rest := rest) (hlen _ hsigM) hstack hdg
  rcases hK m meth c ⟨T.setVm vm₁, locs, cells, slots⟩ { g with stack := rest } (.invokestatic index) mk argsL.toArray X₁ hg hsize hdg hW (X₁.named hnamed) (hpre vm₁ X₁.warmed) with ⟨v, B, X', hpost, hsteps⟩ | ⟨q, B, X', hpost, hsteps⟩
  · exact Or.inl ⟨v, vm₁, B, X₁.warmed, X', hpost, fun target h => hstep₁ _ fun acts => by rw [doInvoke_state]; exact hsteps.trans h⟩
  · exact Or.inr ⟨q, vm₁, B, X₁.warmed, X', hpost, hstep₁ _ fun acts => by rw [doInvoke_state]; exact hsteps⟩
end Calls
theorem vx_cls {s : State} {T : State} {vm₁ : Vm} {E : String} {k : ClassId} (hW : s.WarmedH vm₁) (h : (T.setVm vm₁).vm.findClass E = some k) : s.vm.findClass E = some k := by
  have h1 : vm₁.findClass E = some k := h
  rw [hW.alike.findClass] at h1
  exact h1
/-- the method's frame g, with q thrown over it -/
def vx_W (p : Program) (l : Launch) (e : Env) (R : Room) (s : State) (m : MethodId) (args : Array Value) (below : List Frame) (meth : Method) (c : Code) (H : Heap) (locs : List Loc) (cells slots : Nat) (Q : State → Prop) (g : JFrame) (q : Addr) : Prop :=
  ∀ T : State, T.heap = H → Stand p l e R s m args below meth c T locs cells slots → ∃ t, Steps p.tables e below ((T.setTop g).pushFrame (.throwing q)) t ∧ Q t
def vx_Run (p : Program) (l : Launch) (e : Env) (R : Room) (s : State) (m : MethodId) (args : Array Value) (below : List Frame) (meth : Method) (c : Code) (H : Heap) (locs : List Loc) (cells slots mc ms : Nat) (g : JFrame) (rest : List Value) (Qa : State → Outcome → State → Prop) (XC : String → State → State → Prop) (free : Addr → Prop) : Prop :=
  ∀ T : State, T.heap = H → Stand p l e R s m args below meth c T locs cells slots →
    (∃ (v : Option Value) (st₀ t T' : State) (L : List Loc), st₀.heap = H ∧ Stand p l e R s m args below meth c T' (locs ++ L) (cells + mc) (slots + ms) ∧ (∀ q ∈ L, free q.base) ∧ T'.heap = t.heap ∧ T'.vm = t.vm ∧ Qa st₀ (.returned v) t ∧
      Goes p e below T g T' { g with pc := g.pc + 3, stack := v.toList ++ rest }) ∨
    (∃ (q : Addr) (st₀ t T' : State) (L : List Loc) (E : String) (ce : Cell), st₀.heap = H ∧ Stand p l e R s m args below meth c T' (locs ++ L) (cells + mc) (slots + ms) ∧ (∀ z ∈ L, free z.base) ∧ T'.heap = t.heap ∧ T'.vm = t.vm ∧ XC E st₀ t ∧ t.heap[q]? = some ce ∧ ce.vm = .none ∧ s.vm.findClass E = some ce.cls ∧
      Steps p.tables e below (T.setTop g) ((T'.setTop { g with stack := rest }).pushFrame (.throwing q)))
def vx_X {S : Type} (px : S → Prop) (B : String → S → State → Prop) (A : Nat → Prop) : String → State → State → Prop := fun E st t => ∃ u : S, px u ∧ B E u t ∧ va_F A st t
section Runs
variable {p : Program} {l : Launch} {e : Env} {R : Room} {s : State} {m : MethodId} {args : Array Value} {below : List Frame} {meth : Method} {c : Code} {H : Heap} {locs : List Loc} {cells slots : Nat}
variable {y : MethodName} {bytes cc : ByteArray} {maxL nL mc ms n index : Nat} {ret : Option FieldType} {ws : List Cond} {rm : Room} {Pc : Array Value → State → Prop} {Qc : Array Value → State → Outcome → State → Prop} {XC : String → State → State → Prop} {free : Addr → Prop} {Ts : List Cond} {own C : String} {b : Addr} {As rest : List Value} {g : JFrame}
theorem vx_callBack (cb : CallB R s args own index y bytes maxL ret ws rm mc ms n) (hM : vx_Met l y ws rm Pc Qc XC mc ms free) (hbl : FrameBlind Pc) : vx_Back l R p e below s args y 3 8 (PreOf R mc ms Pc) (PostOf Qc mc ms free) (vx_Post XC mc ms free) := by
  obtain ⟨hrc, hrs, hfr, hlo, hws, hcw, -, hini, -⟩ := cb
  exact vx_back (bytes := bytes) (maxL := maxL) (ret := ret) hM hbl hrc hrs hfr hlo hws hcw (fun a' U hW => word_at hW (Or.inl (by first | rfl | simp [Cond.onTables, Cond.keeps, Cond.steady])) hini)
theorem vx_runV (S : CallFix p m c cc nL s args Ts own) (hM : vx_Met l y ws rm Pc Qc XC mc ms free) (cw : CallW R s args own C index y bytes maxL ret ws rm mc ms n) (hp : PreV s H C b Pc As)
    (hg : g.method = m) (hn : As.length = n) (hsize : g.locals.size = nL) (hstack : g.stack = As.reverse ++ .ref b :: rest) (hW : 2 * g.monitorRoom + (rest.map fun v => v.category).sum ≤ 8) (hdg : decode cc g.pc = .ok (.invokevirtual index, 3)) (hf : cells + mc ≤ R.cells ∧ slots + ms ≤ R.slots) :
    vx_Run p l e R s m args below meth c H locs cells slots mc ms g rest (Qc (Value.ref b :: As).toArray) XC free := by
  have hK : vx_Back l R p e below s args y 3 8 (PreOf R mc ms Pc) (PostOf Qc mc ms free) (vx_Post XC mc ms free) := vx_callBack cw.1 hM hp.1
  obtain ⟨⟨-, -, -, -, -, -, hcode, -, hy, hlen, hl⟩, hin, hse⟩ := cw
  obtain ⟨hx, hb, hml, ho, -⟩ := S
  obtain ⟨-, ⟨cellB, hcB, hoB, hclB⟩, hPc⟩ := hp
  intro T hT X
  rcases vx_callV X hx (C := C) (bytes := bytes) (maxL := maxL) (ret := ret) ho hl hin hse hcode hy hK (by rw [hT]; exact hcB) hoB hclB hg (hsize.trans hml.symm) (argsL := As) (rest := rest) (fun sig h => hn.trans (hlen sig h)) hstack hW (by rw [hb]; exact hdg)
    (fun vm₁ hW₁ => ⟨hf.1, hf.2, hPc (T.setVm vm₁) hT hW₁⟩) with ⟨v, vm₁, ⟨U', l2, c2, s2⟩, hW₁, X', ⟨g', mk, t, L, e1, e2, hq, h1, hL, h2, h3⟩, st⟩ | ⟨q, vm₁, ⟨U', l2, c2, s2⟩, hW₁, X', ⟨g', mk, t, L, E, ce, e1, e2, hq, hce, hcv, hcl, h1, hL, h2, h3⟩, st⟩
  · dsimp only [Pt.U, Pt.locs, Pt.cells, Pt.slots] at X' e1 e2 h1 h2 h3 st
    subst h1; subst h2; subst h3
    exact Or.inl ⟨v, (T.setVm vm₁).calling g' mk (Value.ref b :: As).toArray, t, U', L, hT, X', hL, e1, e2, hq, st⟩
  · dsimp only [Pt.U, Pt.locs, Pt.cells, Pt.slots] at X' e1 e2 h1 h2 h3 st hcl
    subst h1; subst h2; subst h3
    exact Or.inr ⟨q, (T.setVm vm₁).calling g' mk (Value.ref b :: As).toArray, t, U', L, E, ce, hT, X', hL, e1, e2, hq, hce, hcv, vx_cls hW₁ hcl, st⟩
theorem vx_runS (S : CallFix p m c cc nL s args Ts own) (hM : vx_Met l y ws rm Pc Qc XC mc ms free) (cw : CallB R s args own index y bytes maxL ret ws rm mc ms n ∧ (Cond.static y).before args s = true) (hp : PreS s H Pc As)
    (hg : g.method = m) (hn : As.length = n) (hsize : g.locals.size = nL) (hstack : g.stack = As.reverse ++ rest) (hW : 2 * g.monitorRoom + (rest.map fun v => v.category).sum ≤ 8) (hdg : decode cc g.pc = .ok (.invokestatic index, 3)) (hf : cells + mc ≤ R.cells ∧ slots + ms ≤ R.slots) :
    vx_Run p l e R s m args below meth c H locs cells slots mc ms g rest (Qc As.toArray) XC free := by
  have hK : vx_Back l R p e below s args y 3 8 (PreOf R mc ms Pc) (PostOf Qc mc ms free) (vx_Post XC mc ms free) := vx_callBack cw.1 hM hp.1
  obtain ⟨⟨-, -, -, -, -, -, hcode, hini, hy, hlen, hl⟩, hstt⟩ := cw
  obtain ⟨hx, hb, hml, ho, -⟩ := S
  intro T hT X
  rcases vx_callS X hx (bytes := bytes) (maxL := maxL) (ret := ret) ho hl hstt hini hcode hy hK hg (hsize.trans hml.symm) (argsL := As) (rest := rest) (fun sig h => hn.trans (hlen sig h)) hstack hW (by rw [hb]; exact hdg)
    (fun vm₁ hW₁ => ⟨hf.1, hf.2, hp.2 (T.setVm vm₁) hT hW₁⟩) with ⟨v, vm₁, ⟨U', l2, c2, s2⟩, hW₁, X', ⟨g', mk, t, L, e1, e2, hq, h1, hL, h2, h3⟩, st⟩ | ⟨q, vm₁, ⟨U', l2, c2, s2⟩, hW₁, X', ⟨g', mk, t, L, E, ce, e1, e2, hq, hce, hcv, hcl, h1, hL, h2, h3⟩, st⟩
  · dsimp only [Pt.U, Pt.locs, Pt.cells, Pt.slots] at X' e1 e2 h1 h2 h3 st
    subst h1; subst h2; subst h3
    exact Or.inl ⟨v, (T.setVm vm₁).calling g' mk As.toArray, t, U', L, hT, X', hL, e1, e2, hq, st⟩
  · dsimp only [Pt.U, Pt.locs, Pt.cells, Pt.slots] at X' e1 e2 h1 h2 h3 st hcl
    subst h1; subst h2; subst h3
    exact Or.inr ⟨q, (T.setVm vm₁).calling g' mk As.toArray, t, U', L, E, ce, hT, X', hL, e1, e2, hq, hce, hcv, vx_cls hW₁ hcl, st⟩
end Runs
section Rows
variable {p : Program} {l : Launch} {e : Env} {R : Room} {s : State} {m : MethodId} {args : Array Value} {below : List Frame} {meth : Method} {c : Code} {H : Heap} {locs : List Loc} {cells slots : Nat} {Q : State → Prop}
variable {mc ms : Nat} {free : Addr → Prop} {A0 A1 : Nat → Prop} {H0 : Heap} {a : Array Value} {pc : Nat} {ls : Array Slot} {st0 rest : List Value}
theorem vx_keep {st₀ t T' : State} {L : List Loc} (h0 : st₀.heap = H) (e1 : T'.heap = t.heap) (hS : va_S A0 H0 H locs) (hA : ∀ q, q < H.size → A1 q → A0 q) (hf : ∀ q, free q → A0 q) (hL : ∀ q ∈ L, free q.base) (hF : va_F A1 st₀ t) :
    H.size ≤ T'.heap.size ∧ (∀ q : Nat, q < H.size → ¬ A1 q → T'.heap[q]? = H[q]?) ∧ va_S A0 H0 T'.heap (locs ++ L) := by
  obtain ⟨hz, hk⟩ := hF
  rw [h0] at hz hk
  exact ⟨by rw [e1]; exact hz, fun q h1 h2 => by rw [e1]; exact hk q h1 h2,
    ⟨Nat.le_trans hS.1 (by rw [e1]; exact hz), fun q h1 h2 => by rw [e1, hk q (Nat.lt_of_lt_of_le h1 hS.1) (fun z => h2 (hA q (Nat.lt_of_lt_of_le h1 hS.1) z))]; exact hS.2.1 q h1 h2, fun q hq => by
      rcases List.mem_append.mp hq with h | h
      · exact hS.2.2 q h
      · exact hf _ (hL q h)⟩⟩
theorem vx_calli {S SX : Type} {post : Int32 → S → Prop} {px : SX → Prop} {B : S → State → Prop} {BX : String → SX → State → Prop} {AX : Nat → Prop} (hr : vx_Run p l e R s m args below meth c H locs cells slots mc ms (F0 m pc ls st0) rest (va_Qi post B A1 a) (vx_X px BX AX) free) (hS : va_S A0 H0 H locs) (hA : ∀ q, q < H.size → A1 q → A0 q) (hf : ∀ q, free q → A0 q) (hAX : ∀ q, q < H.size → AX q → A0 q)
    (kx : ∀ (E : String) (ce : Cell) (q9 : Addr) (u : SX) (t : State) (H1 : Heap) (locs1 : List Loc), t.heap = H1 → s.vm.Alike t.vm → px u → BX E u t → H.size ≤ H1.size → (∀ q : Nat, q < H.size → ¬ AX q → H1[q]? = H[q]?) → va_S A0 H0 H1 locs1 → H1[q9]? = some ce → ce.vm = .none → s.vm.findClass E = some ce.cls → vx_W p l e R s m args below meth c H1 locs1 (cells + mc) (slots + ms) Q (F0 m pc ls rest) q9)
    (kk : ∀ (r : Int32) (u : S) (t : State) (H1 : Heap) (locs1 : List Loc), t.heap = H1 → s.vm.Alike t.vm → post r u → B u t → H.size ≤ H1.size → (∀ q : Nat, q < H.size → ¬ A1 q → H1[q]? = H[q]?) → va_S A0 H0 H1 locs1 → W p l e R s m args below meth c H1 locs1 (cells + mc) (slots + ms) Q (F0 m (pc + 3) ls (.int r :: rest))) : W p l e R s m args below meth c H locs cells slots Q (F0 m pc ls st0) := by
  intro T hT X
  rcases hr T hT X with ⟨v, st₀, t, T', L, h0, X', hL, e1, e2, ⟨⟨r, u, hv, hp, hb⟩, hF⟩, st⟩ | ⟨q, st₀, t, T', L, E, ce, h0, X', hL, e1, e2, ⟨u, hp, hb, hF⟩, hce, hcv, hcl, st⟩
  · cases hv
    obtain ⟨k1, k2, k3⟩ := vx_keep h0 e1 hS hA hf hL hF
    obtain ⟨t2, a1, b1⟩ := kk r u t T'.heap (locs ++ L) e1.symm (by rw [← e2]; exact X'.warmed.alike) hp hb k1 k2 k3 T' rfl X'
    exact ⟨t2, st t2 a1, b1⟩
  · obtain ⟨k1, k2, k3⟩ := vx_keep h0 e1 hS hAX hf hL hF
    obtain ⟨t2, a1, b1⟩ := kx E ce q u t T'.heap (locs ++ L) e1.symm (by rw [← e2]; exact X'.warmed.alike) hp hb k1 k2 k3 (by rw [e1]; exact hce) hcv hcl T' rfl X'
    exact ⟨t2, st.trans a1, b1⟩
theorem vx_calll {S SX : Type} {post : Int64 → S → Prop} {px : SX → Prop} {B : S → State → Prop} {BX : String → SX → State → Prop} {AX : Nat → Prop} (hr : vx_Run p l e R s m args below meth c H locs cells slots mc ms (F0 m pc ls st0) rest (va_Ql post B A1 a) (vx_X px BX AX) free) (hS : va_S A0 H0 H locs) (hA : ∀ q, q < H.size → A1 q → A0 q) (hf : ∀ q, free q → A0 q) (hAX : ∀ q, q < H.size → AX q → A0 q)
    (kx : ∀ (E : String) (ce : Cell) (q9 : Addr) (u : SX) (t : State) (H1 : Heap) (locs1 : List Loc), t.heap = H1 → s.vm.Alike t.vm → px u → BX E u t → H.size ≤ H1.size → (∀ q : Nat, q < H.size → ¬ AX q → H1[q]? = H[q]?) → va_S A0 H0 H1 locs1 → H1[q9]? = some ce → ce.vm = .none → s.vm.findClass E = some ce.cls → vx_W p l e R s m args below meth c H1 locs1 (cells + mc) (slots + ms) Q (F0 m pc ls rest) q9)
    (kk : ∀ (r : Int64) (u : S) (t : State) (H1 : Heap) (locs1 : List Loc), t.heap = H1 → s.vm.Alike t.vm → post r u → B u t → H.size ≤ H1.size → (∀ q : Nat, q < H.size → ¬ A1 q → H1[q]? = H[q]?) → va_S A0 H0 H1 locs1 → W p l e R s m args below meth c H1 locs1 (cells + mc) (slots + ms) Q (F0 m (pc + 3) ls (.long r :: rest))) : W p l e R s m args below meth c H locs cells slots Q (F0 m pc ls st0) := by
  intro T hT X
  rcases hr T hT X with ⟨v, st₀, t, T', L, h0, X', hL, e1, e2, ⟨⟨r, u, hv, hp, hb⟩, hF⟩, st⟩ | ⟨q, st₀, t, T', L, E, ce, h0, X', hL, e1, e2, ⟨u, hp, hb, hF⟩, hce, hcv, hcl, st⟩
  · cases hv
    obtain ⟨k1, k2, k3⟩ := vx_keep h0 e1 hS hA hf hL hF
    obtain ⟨t2, a1, b1⟩ := kk r u t T'.heap (locs ++ L) e1.symm (by rw [← e2]; exact X'.warmed.alike) hp hb k1 k2 k3 T' rfl X'
    exact ⟨t2, st t2 a1, b1⟩
  · obtain ⟨k1, k2, k3⟩ := vx_keep h0 e1 hS hAX hf hL hF
    obtain ⟨t2, a1, b1⟩ := kx E ce q u t T'.heap (locs ++ L) e1.symm (by rw [← e2]; exact X'.warmed.alike) hp hb k1 k2 k3 (by rw [e1]; exact hce) hcv hcl T' rfl X'
    exact ⟨t2, st.trans a1, b1⟩
theorem vx_callf {S SX : Type} {post : UInt32 → S → Prop} {px : SX → Prop} {B : S → State → Prop} {BX : String → SX → State → Prop} {AX : Nat → Prop} (hr : vx_Run p l e R s m args below meth c H locs cells slots mc ms (F0 m pc ls st0) rest (va_Qf post B A1 a) (vx_X px BX AX) free) (hS : va_S A0 H0 H locs) (hA : ∀ q, q < H.size → A1 q → A0 q) (hf : ∀ q, free q → A0 q) (hAX : ∀ q, q < H.size → AX q → A0 q)
    (kx : ∀ (E : String) (ce : Cell) (q9 : Addr) (u : SX) (t : State) (H1 : Heap) (locs1 : List Loc), t.heap = H1 → s.vm.Alike t.vm → px u → BX E u t → H.size ≤ H1.size → (∀ q : Nat, q < H.size → ¬ AX q → H1[q]? = H[q]?) → va_S A0 H0 H1 locs1 → H1[q9]? = some ce → ce.vm = .none → s.vm.findClass E = some ce.cls → vx_W p l e R s m args below meth c H1 locs1 (cells + mc) (slots + ms) Q (F0 m pc ls rest) q9)
    (kk : ∀ (r : UInt32) (u : S) (t : State) (H1 : Heap) (locs1 : List Loc), t.heap = H1 → s.vm.Alike t.vm → post r u → B u t → H.size ≤ H1.size → (∀ q : Nat, q < H.size → ¬ A1 q → H1[q]? = H[q]?) → va_S A0 H0 H1 locs1 → W p l e R s m args below meth c H1 locs1 (cells + mc) (slots + ms) Q (F0 m (pc + 3) ls (.float r :: rest))) : W p l e R s m args below meth c H locs cells slots Q (F0 m pc ls st0) := by
  intro T hT X
  rcases hr T hT X with ⟨v, st₀, t, T', L, h0, X', hL, e1, e2, ⟨⟨r, u, hv, hp, hb⟩, hF⟩, st⟩ | ⟨q, st₀, t, T', L, E, ce, h0, X', hL, e1, e2, ⟨u, hp, hb, hF⟩, hce, hcv, hcl, st⟩
  · cases hv
    obtain ⟨k1, k2, k3⟩ := vx_keep h0 e1 hS hA hf hL hF
    obtain ⟨t2, a1, b1⟩ := kk r u t T'.heap (locs ++ L) e1.symm (by rw [← e2]; exact X'.warmed.alike) hp hb k1 k2 k3 T' rfl X'
    exact ⟨t2, st t2 a1, b1⟩
  · obtain ⟨k1, k2, k3⟩ := vx_keep h0 e1 hS hAX hf hL hF
    obtain ⟨t2, a1, b1⟩ := kx E ce q u t T'.heap (locs ++ L) e1.symm (by rw [← e2]; exact X'.warmed.alike) hp hb k1 k2 k3 (by rw [e1]; exact hce) hcv hcl T' rfl X'
    exact ⟨t2, st.trans a1, b1⟩
theorem vx_calld {S SX : Type} {post : UInt64 → S → Prop} {px : SX → Prop} {B : S → State → Prop} {BX : String → SX → State → Prop} {AX : Nat → Prop} (hr : vx_Run p l e R s m args below meth c H locs cells slots mc ms (F0 m pc ls st0) rest (va_Qd post B A1 a) (vx_X px BX AX) free) (hS : va_S A0 H0 H locs) (hA : ∀ q, q < H.size → A1 q → A0 q) (hf : ∀ q, free q → A0 q) (hAX : ∀ q, q < H.size → AX q → A0 q)
    (kx : ∀ (E : String) (ce : Cell) (q9 : Addr) (u : SX) (t : State) (H1 : Heap) (locs1 : List Loc), t.heap = H1 → s.vm.Alike t.vm → px u → BX E u t → H.size ≤ H1.size → (∀ q : Nat, q < H.size → ¬ AX q → H1[q]? = H[q]?) → va_S A0 H0 H1 locs1 → H1[q9]? = some ce → ce.vm = .none → s.vm.findClass E = some ce.cls → vx_W p l e R s m args below meth c H1 locs1 (cells + mc) (slots + ms) Q (F0 m pc ls rest) q9)
    (kk : ∀ (r : UInt64) (u : S) (t : State) (H1 : Heap) (locs1 : List Loc), t.heap = H1 → s.vm.Alike t.vm → post r u → B u t → H.size ≤ H1.size → (∀ q : Nat, q < H.size → ¬ A1 q → H1[q]? = H[q]?) → va_S A0 H0 H1 locs1 → W p l e R s m args below meth c H1 locs1 (cells + mc) (slots + ms) Q (F0 m (pc + 3) ls (.double r :: rest))) : W p l e R s m args below meth c H locs cells slots Q (F0 m pc ls st0) := by
  intro T hT X
  rcases hr T hT X with ⟨v, st₀, t, T', L, h0, X', hL, e1, e2, ⟨⟨r, u, hv, hp, hb⟩, hF⟩, st⟩ | ⟨q, st₀, t, T', L, E, ce, h0, X', hL, e1, e2, ⟨u, hp, hb, hF⟩, hce, hcv, hcl, st⟩
  · cases hv
    obtain ⟨k1, k2, k3⟩ := vx_keep h0 e1 hS hA hf hL hF
    obtain ⟨t2, a1, b1⟩ := kk r u t T'.heap (locs ++ L) e1.symm (by rw [← e2]; exact X'.warmed.alike) hp hb k1 k2 k3 T' rfl X'
    exact ⟨t2, st t2 a1, b1⟩
  · obtain ⟨k1, k2, k3⟩ := vx_keep h0 e1 hS hAX hf hL hF
    obtain ⟨t2, a1, b1⟩ := kx E ce q u t T'.heap (locs ++ L) e1.symm (by rw [← e2]; exact X'.warmed.alike) hp hb k1 k2 k3 (by rw [e1]; exact hce) hcv hcl T' rfl X'
    exact ⟨t2, st.trans a1, b1⟩
theorem vx_callv {S SX : Type} {post : S → Prop} {px : SX → Prop} {B : S → State → Prop} {BX : String → SX → State → Prop} {AX : Nat → Prop} (hr : vx_Run p l e R s m args below meth c H locs cells slots mc ms (F0 m pc ls st0) rest (va_Qv post B A1 a) (vx_X px BX AX) free) (hS : va_S A0 H0 H locs) (hA : ∀ q, q < H.size → A1 q → A0 q) (hf : ∀ q, free q → A0 q) (hAX : ∀ q, q < H.size → AX q → A0 q)
    (kx : ∀ (E : String) (ce : Cell) (q9 : Addr) (u : SX) (t : State) (H1 : Heap) (locs1 : List Loc), t.heap = H1 → s.vm.Alike t.vm → px u → BX E u t → H.size ≤ H1.size → (∀ q : Nat, q < H.size → ¬ AX q → H1[q]? = H[q]?) → va_S A0 H0 H1 locs1 → H1[q9]? = some ce → ce.vm = .none → s.vm.findClass E = some ce.cls → vx_W p l e R s m args below meth c H1 locs1 (cells + mc) (slots + ms) Q (F0 m pc ls rest) q9)
    (kk : ∀ (u : S) (t : State) (H1 : Heap) (locs1 : List Loc), t.heap = H1 → s.vm.Alike t.vm → post u → B u t → H.size ≤ H1.size → (∀ q : Nat, q < H.size → ¬ A1 q → H1[q]? = H[q]?) → va_S A0 H0 H1 locs1 → W p l e R s m args below meth c H1 locs1 (cells + mc) (slots + ms) Q (F0 m (pc + 3) ls (rest))) : W p l e R s m args below meth c H locs cells slots Q (F0 m pc ls st0) := by
  intro T hT X
  rcases hr T hT X with ⟨v, st₀, t, T', L, h0, X', hL, e1, e2, ⟨⟨u, hv, hp, hb⟩, hF⟩, st⟩ | ⟨q, st₀, t, T', L, E, ce, h0, X', hL, e1, e2, ⟨u, hp, hb, hF⟩, hce, hcv, hcl, st⟩
  · cases hv
    obtain ⟨k1, k2, k3⟩ := vx_keep h0 e1 hS hA hf hL hF
    obtain ⟨t2, a1, b1⟩ := kk u t T'.heap (locs ++ L) e1.symm (by rw [← e2]; exact X'.warmed.alike) hp hb k1 k2 k3 T' rfl X'
    exact ⟨t2, st t2 a1, b1⟩
  · obtain ⟨k1, k2, k3⟩ := vx_keep h0 e1 hS hAX hf hL hF
    obtain ⟨t2, a1, b1⟩ := kx E ce q u t T'.heap (locs ++ L) e1.symm (by rw [← e2]; exact X'.warmed.alike) hp hb k1 k2 k3 (by rw [e1]; exact hce) hcv hcl T' rfl X'
    exact ⟨t2, st.trans a1, b1⟩
/-- caught by the row x of this method's table; the rows ahead don't take it -/
theorem vx_catch {own name : String} {E : String} {ce : Cell} {q : Addr} (hown : s.vm.findClass own = some m.cls) (pre : List ExceptionTableEntry) (x : ExceptionTableEntry) (suf : List ExceptionTableEntry) (hsplit : c.exceptionTable.toList = pre ++ x :: suf)
    (hpass : ∀ z ∈ pre, covers z pc = false ∨ (z.catchType ≠ 0 ∧ ∃ nm : String, (Cond.classLink own z.catchType nm).before args s = true ∧ va_Nc E nm s)) (hx : covers x pc = true) (h0 : x.catchType ≠ 0)
    (hlink : (Cond.classLink own x.catchType name).before args s = true) (hcast : (Cond.castable E name).before args s = true) (hcell : H[q]? = some ce) (hv : ce.vm = .none) (hcl : s.vm.findClass E = some ce.cls)
    (kk : W p l e R s m args below meth c H locs cells slots Q (F0 m x.handlerPc ls [.ref q])) : vx_W p l e R s m args below meth c H locs cells slots Q (F0 m pc ls rest) q := by
  intro T hT X
  have hpl : e.platform.magicAccessors = ({} : Platform).magicAccessors := by rw [X.admits.platform]
  obtain ⟨c3, c4, hc3, hc4, hasg⟩ := Cond.castable_spec hcast
  cases Option.some.inj (hc3.symm.trans hcl)
  obtain ⟨c5, hc5, hcl5⟩ := Cond.classLink_spec hown hlink e.platform hpl
  cases Option.some.inj (hc4.symm.trans hc5)
  obtain ⟨vm', X', st⟩ := X.thenCaughtThrough q (g := F0 m pc ls rest) rfl (Steps.refl _) (by rw [hT]; exact hcell) (by rw [hv]; rfl) (by obtain ⟨k9, h9, -⟩ := Vm.findClass_spec hcl; exact ⟨k9, h9⟩) pre x suf hsplit
    (fun z hz => by
      rcases hpass z hz with h | ⟨hz0, nm, hl1, hn1⟩
      · exact Or.inl h
      · obtain ⟨c6, hc6, hcl6⟩ := Cond.classLink_spec hown hl1 e.platform hpl
        obtain ⟨a8, b8, h1, h2, h3⟩ := hn1
        cases Option.some.inj (h1.symm.trans hcl)
        cases Option.some.inj (h2.symm.trans hc6)
        exact Or.inr ⟨hz0, _, hcl6, h3⟩) hx (Or.inr ⟨h0, c4, hcl5, hasg⟩)
  obtain ⟨t, a1, b1⟩ := kk (T.setVm vm') hT X'
  exact ⟨t, st.trans a1, b1⟩
end Rows
section Ends
variable {p : Program} {l : Launch} {e : Env} {R : Room} {s : State} {m : MethodId} {args : Array Value} {below : List Frame} {meth : Method} {c : Code} {H : Heap} {locs : List Loc} {cells slots : Nat} {Q : State → Prop}
variable {mc ms : Nat} {free : Addr → Prop} {A0 A1 : Nat → Prop} {H0 : Heap} {a : Array Value} {ls : Array Slot} {st0 rest : List Value}
variable {Qc : Array Value → State → Outcome → State → Prop} {XC : String → State → State → Prop}
/-- what a body that may throw owes at its end -/
def vx_MQ (below : List Frame) (Qc : Array Value → State → Outcome → State → Prop) (XC : String → State → State → Prop) (a : Array Value) (s : State) (mc ms : Nat) (free : Addr → Prop) : State → Prop := fun t =>
  ∃ o, t.status = .running ∧ Ended t below o ∧ vx_Q Qc XC mc ms free a s o t
theorem vx_ret {g : JFrame} {mc ms : Nat} (k : W p l e R s m args below meth c H locs cells slots (MQ below Qc args s mc ms free) g) : W p l e R s m args below meth c H locs cells slots (vx_MQ below Qc XC args s mc ms free) g := by
  intro T hT X
  obtain ⟨t, a1, o, b1, b2, b3, b4⟩ := k T hT X
  exact ⟨t, a1, o, b1, b2, Or.inl ⟨b3, b4⟩⟩
/-- not caught here: it goes on to the caller -/
theorem vx_widen {g : JFrame} {q : Addr} {k n : Nat} (h1 : cells ≤ k) (h2 : slots ≤ n) (kk : vx_W p l e R s m args below meth c H locs k n Q g q) : vx_W p l e R s m args below meth c H locs cells slots Q g q := fun T hT X => kk T hT (stand_widen X h1 h2)
theorem vx_out {pc : Nat} {E : String} {ce : Cell} {q : Addr} {mc ms : Nat} (hout : ∀ x ∈ c.exceptionTable.toList, covers x pc = false) (hlocks : meth.locks = false) (hcell : H[q]? = some ce) (hv : ce.vm = .none) (hcl : s.vm.findClass E = some ce.cls)
    (hx : ∀ t : State, t.heap = H → s.vm.Alike t.vm → XC E s t) (hf : ∀ z ∈ locs, free z.base) (hc : cells ≤ mc) (hs : slots ≤ ms) :
    vx_W p l e R s m args below meth c H locs cells slots (vx_MQ below Qc XC args s mc ms free) (F0 m pc ls rest) q := by
  intro T hT X
  obtain ⟨st1, hrun, hend, hW, hsm⟩ := X.leaveThrown q (g := F0 m pc ls rest) rfl rfl rfl hout hlocks
  have hcell9 : (T.setFrames (.throwing q :: below)).heap[q]? = some ce := by
    show T.heap[q]? = some ce
    rw [hT]; exact hcell
  exact ⟨_, st1, .threw q, hrun, hend, Or.inr ⟨q, rfl, E, ce, locs, hx _ hT hW.alike, hcell9, hv, hcl, hW, hsm.mono hc hs, hf⟩⟩
theorem vx_frame {U : State} {k n : Nat} (h : s.sameButNew ({ U with vm := s.vm } : State) locs k n) : s.heap.size ≤ U.heap.size ∧ ∀ q : Nat, q < s.heap.size → (∀ z ∈ locs, z.base ≠ q) → U.heap[q]? = s.heap[q]? := by
  obtain ⟨-, h2, -, -, -, h6⟩ := h
  refine ⟨h2, fun q hq hz => ?_⟩
  obtain ⟨c9, e1, e2, e3, e4⟩ := h6 q _ (Array.getElem?_eq_getElem hq)
  have hs : c9.slots = (s.heap[q]).slots := Array.ext_getElem? fun i => e4 i fun hm => hz _ hm rfl
  have h9 : c9 = s.heap[q] := by
    rw [hs] at e2
    exact e2
  have e5 : U.heap[q]? = some c9 := e1
  rw [e5, h9, Array.getElem?_eq_getElem hq]
/-- the words of a throw but the four that speak of the heap -/
def vx_no (w : Cond) : Bool := decide (w ≠ .isRef (.static Bundle.tN "UNASSIGNED_STACK" Bundle.steD)) && decide (w ≠ .isRef (.static Bundle.tN "SUPPRESSED_SENTINEL" Bundle.listD)) && decide (w ≠ .laysStatic Bundle.tN "UNASSIGNED_STACK" Bundle.steD) && decide (w ≠ .laysStatic Bundle.tN "SUPPRESSED_SENTINEL" Bundle.listD)
def vx_at0 (own : String) (ic : Nat) (X : String) (names : List String) : List Cond := (Bundle.ownAtoms0 own ic X names).filter vx_no
def vx_atS (own : String) (ic : Nat) (X : String) (names : List String) : List Cond := (Bundle.ownAtoms own ic X names).filter vx_no
/-- a word that the tables alone decide, or a good one -/
def vx_ot (w : Cond) : Bool := w.onTables || goodWord w
theorem vx_ot_at {args a' : Array Value} {s U : State} {w : Cond} (hW : s.WarmedH U.vm) (hvm : s.vm = U.vm) (hg : vx_ot w = true) (h : w.before args s = true) : w.before a' U = true := by
  simp only [vx_ot, Bool.or_eq_true] at hg
  rcases hg with hg | hg
  · exact va_tabs hg hvm h
  · exact word_at hW (good_of_word hg) h
/-- a list's words: the good ones out of the method's own list, the others by premises of their own -/
theorem vx_hat {args : Array Value} {s : State} {L B : List Cond} (h1 : ∀ w ∈ L.filter goodWord, w.before args s = true) (h2 : ∀ w ∈ L.filter (fun w => !goodWord w), w ∈ B) (h3 : ∀ w ∈ B, w.before args s = true) : ∀ w ∈ L, w.before args s = true := by
  intro w hw
  by_cases g : goodWord w = true
  · exact h1 w (List.mem_filter.mpr ⟨hw, g⟩)
  · refine h3 w (h2 w (List.mem_filter.mpr ⟨hw, ?_⟩))
    show (!goodWord w) = true
    cases hgw : goodWord w
    · rfl
    · exact absurd hgw g
theorem vx_c {args : Array Value} {s : State} {w : Cond} {B : List Cond} (h : w.before args s = true) (t : ∀ w ∈ B, w.before args s = true) : ∀ w' ∈ w :: B, w'.before args s = true := fun w' h' => (List.mem_cons.mp h').elim (fun e => by rw [e]; exact h) (t w')
theorem vx_n {args : Array Value} {s : State} : ∀ w ∈ ([] : List Cond), w.before args s = true := fun _ h => nomatch h
theorem vx_own {args : Array Value} {s : State} {L : List Cond} (h1 : ∀ w ∈ L.filter vx_no, w.before args s = true)
    (hU : (Cond.isRef (.static Bundle.tN "UNASSIGNED_STACK" Bundle.steD)).before args s = true) (hN : (Cond.isRef (.static Bundle.tN "SUPPRESSED_SENTINEL" Bundle.listD)).before args s = true)
    (lU : (Cond.laysStatic Bundle.tN "UNASSIGNED_STACK" Bundle.steD).before args s = true) (lN : (Cond.laysStatic Bundle.tN "SUPPRESSED_SENTINEL" Bundle.listD).before args s = true) : ∀ w ∈ L, w.before args s = true := by
  intro w hw
  by_cases e1 : w = .isRef (.static Bundle.tN "UNASSIGNED_STACK" Bundle.steD)
  · rw [e1]; exact hU
  · by_cases e2 : w = .isRef (.static Bundle.tN "SUPPRESSED_SENTINEL" Bundle.listD)
    · rw [e2]; exact hN
    · by_cases e3 : w = .laysStatic Bundle.tN "UNASSIGNED_STACK" Bundle.steD
      · rw [e3]; exact lU
      · by_cases e4 : w = .laysStatic Bundle.tN "SUPPRESSED_SENTINEL" Bundle.listD
        · rw [e4]; exact lN
        · exact h1 w (List.mem_filter.mpr ⟨hw, by unfold vx_no; rw [decide_eq_true e1, decide_eq_true e2, decide_eq_true e3, decide_eq_true e4]; rfl⟩)
/-- where a static field lies, its class's statics cell in H -/
def vx_L (C n d : String) (A : Nat → Prop) (U : State) (H : Heap) : Prop := ∃ (c : ClassId) (k : Class) (i : Nat) (f : Field) (a : Nat) (cell : Cell), U.vm.findClass C = some c ∧ U.fieldFound? C n d = some (c, k, i, f) ∧ f.isStatic = true ∧ k.statics = some a ∧ H[a]? = some cell ∧ cell.vm.isStatics = true ∧ cell.cls = c ∧ f.slot < cell.slots.size ∧ k.staticTypes[f.slot]? = some f.type ∧ ¬ A a
theorem vx_L.moved {C n d : String} {A : Nat → Prop} {u U : State} {H : Heap} (hvm : u.vm.Alike U.vm) (h : vx_L C n d A u H) : vx_L C n d A U H := by
  obtain ⟨c, k, i, f, a, cell, h1, h2, h3, h4, h5, h6, h7, h8, h9, h10⟩ := h
  obtain ⟨k', hi', he⟩ := State.fieldFound?_setVm hvm h2
  exact ⟨c, k', i, f, a, cell, by rw [hvm.findClass]; exact h1, hi', h3, by rw [he]; exact h4, h5, h6, h7, h8, by rw [he]; exact h9, h10⟩
theorem vx_L.kept {C n d : String} {A : Nat → Prop} {U : State} {H H1 : Heap} (h : vx_L C n d A U H) (hq : ∀ a : Nat, a < H.size → ¬ A a → H1[a]? = H[a]?) : vx_L C n d A U H1 := by
  obtain ⟨c, k, i, f, a, cell, h1, h2, h3, h4, h5, h6, h7, h8, h9, h10⟩ := h
  exact ⟨c, k, i, f, a, cell, h1, h2, h3, h4, by rw [hq a (Array.getElem?_eq_some_iff.mp h5).1 h10]; exact h5, h6, h7, h8, h9, h10⟩
theorem vx_L.narrow {C n d : String} {A B : Nat → Prop} {U : State} {H : Heap} (h : vx_L C n d A U H) (hAB : ∀ q, B q → A q) : vx_L C n d B U H := by
  obtain ⟨c, k, i, f, a, cell, h1, h2, h3, h4, h5, h6, h7, h8, h9, h10⟩ := h
  exact ⟨c, k, i, f, a, cell, h1, h2, h3, h4, h5, h6, h7, h8, h9, fun z => h10 (hAB _ z)⟩
theorem vx_L.word {C n d : String} {A : Nat → Prop} {s : State} {args : Array Value} (h : vx_L C n d A s s.heap) : (Cond.laysStatic C n d).before args s = true := by
  obtain ⟨c, k, i, f, a, cell, h1, h2, h3, h4, h5, h6, h7, h8, h9, -⟩ := h
  show (Cond.laysStatic C n d).holds args s none s [] = true
  exact Cond.laysStatic_of h1 h2 h3 h4 h5 h6 h7 h8 h9
/-- .. and what it holds: null or some reference -/
def vx_Zq (C n d : String) (A : Nat → Prop) (U : State) (H : Heap) : Prop := va_Zq C n d A U H ∧ vx_L C n d A U H
theorem vx_Zq.moved {C n d : String} {A : Nat → Prop} {u U : State} {H : Heap} (hvm : u.vm.Alike U.vm) (h : vx_Zq C n d A u H) : vx_Zq C n d A U H := ⟨va_Zq.moved hvm h.1, vx_L.moved hvm h.2⟩
theorem vx_Zq.kept {C n d : String} {A : Nat → Prop} {U : State} {H H1 : Heap} (h : vx_Zq C n d A U H) (hq : ∀ a : Nat, a < H.size → ¬ A a → H1[a]? = H[a]?) : vx_Zq C n d A U H1 := ⟨va_Zq.kept h.1 hq, vx_L.kept h.2 hq⟩
theorem vx_Zq.narrow {C n d : String} {A B : Nat → Prop} {U : State} {H : Heap} (h : vx_Zq C n d A U H) (hAB : ∀ q, B q → A q) : vx_Zq C n d B U H := ⟨va_Zq.narrow h.1 hAB, vx_L.narrow h.2 hAB⟩
theorem vx_Zqof {args : Array Value} {s : State} {C n d : String} {A : Nat → Prop} (hl : (Cond.laysStatic C n d).before args s = true) (hini : (Cond.initialized C).before args s = true) (h : (Cond.isRef (.static C n d)).before args s = true) (hA : ∀ a : Nat, a < s.heap.size → ¬ A a) : vx_Zq C n d A s s.heap := by
  refine ⟨va_Zqof hl hini h hA, ?_⟩
  obtain ⟨c, k, i, f, a, cell, h1, h2, h3, h4, h5, h6, h7, h8, h9⟩ := Cond.laysStatic_spec hl
  exact ⟨c, k, i, f, a, cell, h1, h2, h3, h4, h5, h6, h7, h8, h9, hA a (Array.getElem?_eq_some_iff.mp h5).1⟩
theorem vx_isRef {C n d : String} {v : Value} {A : Nat → Prop} {s : State} {args : Array Value} (h : va_Z C n d v A s s.heap) (hv : v.isRef = true) : (Cond.isRef (.static C n d)).before args s = true := by
  obtain ⟨cf, kf, fi, f, a, cell, h1, h2, h3, h4, h5, h6, h7, -⟩ := h
  have he : (Term.static C n d).eval args s none [] s = some v := by
    simp [Term.eval, State.fieldNamed?, h1, h2, h4, h5, h6, h7]
  simp only [Cond.before, Cond.holds, Cond.value, he]
  cases v <;> simp_all [Value.isRef]
theorem vx_isRefq {C n d : String} {A : Nat → Prop} {s : State} {args : Array Value} (h : va_Zq C n d A s s.heap) : (Cond.isRef (.static C n d)).before args s = true := by
  rcases h with h | ⟨t, h⟩
  · exact vx_isRef h rfl
  · exact vx_isRef h rfl
/-- the same frame, seen from here: as if the method were called anew in this heap -/
theorem vx_rebase {T : State} (X : Stand p l e R s m args below meth c T locs cells slots) {R' : Room} (hf : R'.frames ≤ R.frames) (hl : R'.locals ≤ R.locals) (hc : cells + R'.cells ≤ R.cells) (hs : slots + R'.slots ≤ R.slots) :
    Stand p l e R' ((T.setVm s.vm).setFrames (.invoking m args :: below)) m args below meth c T [] 0 0 := by
  have htop : (T.setVm s.vm).topJava?.isSome := X.here.top
  have hF : ((T.setVm s.vm).setFrames (.invoking m args :: below)).frames = .invoking m args :: below := State.frames_setFrames _ (State.cur_lt_of_top htop)
  obtain ⟨g₀, hg0⟩ := Option.isSome_iff_exists.mp htop
  obtain ⟨r, hr⟩ := State.topJava?_eq_some.mp hg0
  have hl9 : e.platform.stackLimits (T.setVm s.vm).me = e.platform.stackLimits s.me := X.limits
  have hb9 : (T.setVm s.vm).me.stackBytes = s.me.stackBytes := X.bytes
  refine ⟨X.admits, X.cas, X.clock, hF, ?_, X.hears, X.method, X.code, X.here, X.tail, X.warmed, ?_, ?_, ?_⟩
  · have h := X.room
    have hU : ((T.setVm s.vm).setFrames (.invoking m args :: below)).localsInUse = s.localsInUse := by
      rw [State.localsInUse_invoking hF (meth := meth) (c := c) X.method X.code, State.localsInUse_invoking X.frames X.method X.code]
    simp only [State.hasRoom, Bool.and_eq_true, decide_eq_true_eq] at h ⊢
    obtain ⟨⟨⟨⟨h1, h2, h3, h4, h5, h6⟩, h7⟩, h8⟩, h9⟩ := h
    rw [X.frames, List.length_cons] at h2 h3
    have q1 := X.heapSize
    have q2 := X.used
    simp only [hF, hU, List.length_cons, State.stackLimits_setFrames, State.stackBytes_setFrames, hl9, hb9]
    refine ⟨⟨⟨⟨by omega, by omega, by omega, by omega, by omega, h6⟩, ?_⟩, ?_⟩, X.book⟩
    · show T.heap.size + R'.cells ≤ e.platform.maxCells
      omega
    · show T.slotsUsed + R'.slots ≤ e.platform.maxSlots
      omega
  · rw [State.stackLimits_setFrames]; rfl
  · rw [State.stackBytes_setFrames]; rfl
  · refine ⟨?_, Nat.le_refl _, Nat.le_refl _, ?_, ?_, fun a c9 h9 => ⟨c9, h9, rfl, rfl, fun _ _ => rfl⟩⟩
    · obtain ⟨t, ht, -⟩ := State.frames_cons hr
      show T.setVm s.vm = { ((T.setVm s.vm).setFrames (.invoking m args :: below)).setFrames (T.setVm s.vm).frames with heap := T.heap, slotsUsed := T.slotsUsed }
      rw [State.setFrames_setFrames, State.setFrames_self ht]
      rfl
    · show T.slotsUsed = T.slotsUsed + ((T.heap.toList.drop T.heap.size).map (·.slots.size)).sum
      rw [List.drop_eq_nil_of_le (Nat.le_of_eq Array.length_toList)]
      rfl
    · show ((T.heap.toList.drop T.heap.size).map (·.slots.size)).sum ≤ 0
      rw [List.drop_eq_nil_of_le (Nat.le_of_eq Array.length_toList)]
      exact Nat.le_refl _
/-- 'throw new E()': new; dup; invokespecial; athrow -/
theorem vx_throw0 {cc : ByteArray} {pc : Nat} (hexec : p.tables.exec = Jvm.exec) (hb : c.code = cc) (hl : l.stackTraces = false) {own cls : String} {names : List String} {ik ic mc ms : Nat} {A : Nat → Prop}
    (hown : s.vm.findClass own = some m.cls) (hcls : Bundle.fit cls = true) (hnames : ∀ n ∈ names, Bundle.fit n = true)
    (hk : (Cond.classLink own ik cls).before args s = true) (hini : (Cond.initialized cls).before args s = true) (hat : ∀ w ∈ vx_at0 own ic cls names, w.before args s = true)
    (hgood : ∀ w ∈ Cond.classLink own ik cls :: Cond.initialized cls :: vx_at0 own ic cls names, vx_ot w = true)
    (hU : vx_Zq Bundle.tN "UNASSIGNED_STACK" Bundle.steD A s s.heap) (hN : vx_Zq Bundle.tN "SUPPRESSED_SENTINEL" Bundle.listD A s s.heap) (hS : va_S A s.heap H locs) (hsize : ls.size = c.maxLocals)
    (d0 : decode cc pc = .ok (.new ik, 3)) (d3 : decode cc (pc + 3) = .ok (.dup, 1)) (d4 : decode cc (pc + 4) = .ok (.invokespecial ic, 3)) (d7 : decode cc (pc + 7) = .ok (.athrow, 1))
    (hout : ∀ x ∈ c.exceptionTable.toList, covers x (pc + 7) = false)
    (hRframes : names.length + 3 < R.frames) (hRlocals : (rest.map fun v => v.category).sum + (13 * (names.length + 1) + 42) ≤ R.locals) (hRcells : cells + 1 ≤ R.cells) (hRslots : slots + 6 ≤ R.slots) (hlocks : meth.locks = false)
    (hx : ∀ t : State, s.vm.Alike t.vm → H.size ≤ t.heap.size → (∀ q : Nat, q < H.size → t.heap[q]? = H[q]?) → XC cls s t)
    (hf : ∀ z ∈ locs, free z.base) (hc : cells + 1 ≤ mc) (hs : slots + 6 ≤ ms) :
    W p l e R s m args below meth c H locs cells slots (vx_MQ below Qc XC args s mc ms free) (F0 m pc ls rest) := by
  intro T hT X
  have htr : e.platform.stackTraces = false := (show e.platform.stackTraces = l.stackTraces by rw [X.admits.platform]).trans hl
  have Y := vx_rebase X (R' := { frames := R.frames, locals := R.locals, cells := 1, slots := 6 }) (Nat.le_refl _) (Nat.le_refl _) hRcells hRslots
  obtain ⟨s', hA⟩ : ∃ z, z = (T.setVm s.vm).setFrames (.invoking m args :: below) := ⟨_, rfl⟩
  rw [← hA] at Y
  have hvm : s'.vm = s.vm := by rw [hA]; rfl
  have hhp : s'.heap = H := by rw [hA]; exact hT
  have hW0 : s.WarmedH s'.vm := by rw [hvm]; exact State.WarmedH.refl s
  have hat' : ∀ w ∈ vx_at0 own ic cls names, w.before args s' = true := fun w hw => vx_ot_at hW0 hvm.symm (hgood w (List.mem_cons_of_mem _ (List.mem_cons_of_mem _ hw))) (hat w hw)
  have hk' : (Cond.classLink own ik cls).before args s' = true := vx_ot_at hW0 hvm.symm (hgood _ List.mem_cons_self) hk
  have hini' : (Cond.initialized cls).before args s' = true := vx_ot_at hW0 hvm.symm (hgood _ (List.mem_cons_of_mem _ List.mem_cons_self)) hini
  have hU' : vx_Zq Bundle.tN "UNASSIGNED_STACK" Bundle.steD A s' s'.heap := by rw [hhp]; exact vx_Zq.moved hW0.alike (hU.kept hS.2.1)
  have hN' : vx_Zq Bundle.tN "SUPPRESSED_SENTINEL" Bundle.listD A s' s'.heap := by rw [hhp]; exact vx_Zq.moved hW0.alike (hN.kept hS.2.1)
  have h : ∀ w ∈ Bundle.ownAtoms0 own ic cls names, w.before args s' = true := vx_own hat' (vx_isRefq hU'.1) (vx_isRefq hN'.1) hU'.2.word hN'.2.word
  have hown' : s'.vm.findClass own = some m.cls := by rw [hvm]; exact hown
  have hins : (Cond.instantiable cls 6).before args s' = true := h _ (by simp [Bundle.ownAtoms0])
  obtain ⟨vm₁, cX, kX, hfX, hkX, -, -, X₁, st1⟩ := Y.newCold hexec (own := own) (C := cls) (index := ik) (n := 6) hown' hk' hins hini'
    (g := F0 m pc ls rest) rfl (by rw [hb]; exact d0) (Nat.le_refl _) (Nat.le_refl _)
  generalize hT1 : (T.setVm vm₁).pushCell { cls := cX, slots := kX.instanceTypes.map defaultValue, vm := .none } = T1 at X₁ st1
  have hcat : (Value.ref T.heap.size).category = 1 := rfl
  have hcellA : T1.heap[T.heap.size]? = some (freshCell cX kX) := by rw [← hT1]; exact State.heap_pushCell_size _ _
  have d3' : decode c.code (pc + 3) = .ok (.dup, 1) := by rw [hb]; exact d3
  obtain ⟨U, hsteps, hrun, hend, hW, hsame, ce, hce, hO⟩ := X₁.ctorThrow0 hexec htr (own := own) (cls := cls) (names := names) (ic := ic) hown' hcls hnames h (fun x hx => nomatch hx) hfX hkX hcellA (by rw [hhp, hT]; exact Nat.le_refl _)
    (g := { method := m, pc := pc + 4, locals := ls, stack := .ref T.heap.size :: .ref T.heap.size :: rest, locked := none }) rfl hsize rfl rfl (rest := rest) rfl
    (by rw [hb]; exact d4) (by rw [hb]; exact d7) hout hRframes (by simp only [List.map_cons, List.sum_cons, hcat]; omega) hlocks
  obtain ⟨f1, f2⟩ := vx_frame hsame
  rw [hhp] at f1 f2
  have hWs : s.WarmedH U.vm := State.WarmedH.trans hW0 hW
  have hcl : s.vm.findClass cls = some ce.cls := by
    have h9 := hO.cls
    rw [hvm] at h9
    exact h9
  have hall : s.sameButNew ({ U with vm := s.vm } : State) locs mc ms := by
    subst hA
    obtain ⟨e1, e2⟩ := hsame
    rw [State.setFrames_setFrames] at e1
    have h2 : (T.setVm s.vm).sameButNew ({ U with vm := s.vm } : State) [] (0 + 1) (0 + 6) := ⟨e1, e2⟩
    have h3 := X.same.trans h2
    rw [List.append_nil] at h3
    exact h3.mono hc hs
  refine ⟨U, ?_, .threw T.heap.size, hrun, hend, Or.inr ⟨T.heap.size, rfl, cls, ce, locs, hx U hWs.alike f1 (fun q hq => f2 q hq (fun z hz => nomatch hz)), hce, hO.vm, hcl, hWs, hall, hf⟩⟩
  refine st1 _ ?_
  show Steps p.tables e below (T1.setTop { method := m, pc := pc + 3, locals := ls, stack := .ref T.heap.size :: rest, locked := none }) _
  jvm_step X₁.here [X₁.here.top, hexec, d3', Value.category]
  exact hsteps
/-- 'throw new E("text")': new; dup; ldc; invokespecial; athrow -/
theorem vx_throwS {cc : ByteArray} {pc : Nat} (hexec : p.tables.exec = Jvm.exec) (hb : c.code = cc) (hl : l.stackTraces = false) {own cls text : String} {names : List String} {ik is ic mc ms sa : Nat} {A : Nat → Prop}
    (hown : s.vm.findClass own = some m.cls) (hcls : Bundle.fit cls = true) (hnames : ∀ n ∈ names, Bundle.fit n = true)
    (hk : (Cond.classLink own ik cls).before args s = true) (hini : (Cond.initialized cls).before args s = true) (hstr : vk_R own is text sa s) (hat : ∀ w ∈ vx_atS own ic cls names, w.before args s = true)
    (hgood : ∀ w ∈ Cond.classLink own ik cls :: Cond.initialized cls :: vx_atS own ic cls names, vx_ot w = true)
    (hU : vx_Zq Bundle.tN "UNASSIGNED_STACK" Bundle.steD A s s.heap) (hN : vx_Zq Bundle.tN "SUPPRESSED_SENTINEL" Bundle.listD A s s.heap) (hS : va_S A s.heap H locs) (hsize : ls.size = c.maxLocals)
    (d0 : decode cc pc = .ok (.new ik, 3)) (d3 : decode cc (pc + 3) = .ok (.dup, 1)) (d4 : decode cc (pc + 4) = .ok (.ldc is, 2)) (d6 : decode cc (pc + 6) = .ok (.invokespecial ic, 3)) (d9 : decode cc (pc + 9) = .ok (.athrow, 1))
    (hout : ∀ x ∈ c.exceptionTable.toList, covers x (pc + 9) = false)
    (hRframes : names.length + 3 < R.frames) (hRlocals : (rest.map fun v => v.category).sum + (13 * (names.length + 1) + 43) ≤ R.locals) (hRcells : cells + 1 ≤ R.cells) (hRslots : slots + 6 ≤ R.slots) (hlocks : meth.locks = false)
    (hx : ∀ t : State, s.vm.Alike t.vm → H.size ≤ t.heap.size → (∀ q : Nat, q < H.size → t.heap[q]? = H[q]?) → XC cls s t)
    (hf : ∀ z ∈ locs, free z.base) (hc : cells + 1 ≤ mc) (hs : slots + 6 ≤ ms) :
    W p l e R s m args below meth c H locs cells slots (vx_MQ below Qc XC args s mc ms free) (F0 m pc ls rest) := by
  intro T hT X
  have htr : e.platform.stackTraces = false := (show e.platform.stackTraces = l.stackTraces by rw [X.admits.platform]).trans hl
  have Y := vx_rebase X (R' := { frames := R.frames, locals := R.locals, cells := 1, slots := 6 }) (Nat.le_refl _) (Nat.le_refl _) hRcells hRslots
  obtain ⟨s', hA⟩ : ∃ z, z = (T.setVm s.vm).setFrames (.invoking m args :: below) := ⟨_, rfl⟩
  rw [← hA] at Y
  have hvm : s'.vm = s.vm := by rw [hA]; rfl
  have hhp : s'.heap = H := by rw [hA]; exact hT
  have hW0 : s.WarmedH s'.vm := by rw [hvm]; exact State.WarmedH.refl s
  have hat' : ∀ w ∈ vx_atS own ic cls names, w.before args s' = true := fun w hw => vx_ot_at hW0 hvm.symm (hgood w (List.mem_cons_of_mem _ (List.mem_cons_of_mem _ hw))) (hat w hw)
  have hk' : (Cond.classLink own ik cls).before args s' = true := vx_ot_at hW0 hvm.symm (hgood _ List.mem_cons_self) hk
  have hini' : (Cond.initialized cls).before args s' = true := vx_ot_at hW0 hvm.symm (hgood _ (List.mem_cons_of_mem _ List.mem_cons_self)) hini
  have hU' : vx_Zq Bundle.tN "UNASSIGNED_STACK" Bundle.steD A s' s'.heap := by rw [hhp]; exact vx_Zq.moved hW0.alike (hU.kept hS.2.1)
  have hN' : vx_Zq Bundle.tN "SUPPRESSED_SENTINEL" Bundle.listD A s' s'.heap := by rw [hhp]; exact vx_Zq.moved hW0.alike (hN.kept hS.2.1)
  have h : ∀ w ∈ Bundle.ownAtoms own ic cls names, w.before args s' = true := vx_own hat' (vx_isRefq hU'.1) (vx_isRefq hN'.1) hU'.2.word hN'.2.word
  have hown' : s'.vm.findClass own = some m.cls := by rw [hvm]; exact hown
  have hins : (Cond.instantiable cls 6).before args s' = true := h _ (by simp [Bundle.ownAtoms])
  obtain ⟨vm₁, cX, kX, hfX, hkX, -, -, X₁, st1⟩ := Y.newCold hexec (own := own) (C := cls) (index := ik) (n := 6) hown' hk' hins hini'
    (g := F0 m pc ls rest) rfl (by rw [hb]; exact d0) (Nat.le_refl _) (Nat.le_refl _)
  generalize hT1 : (T.setVm vm₁).pushCell { cls := cX, slots := kX.instanceTypes.map defaultValue, vm := .none } = T1 at X₁ st1
  have hcat : (Value.ref T.heap.size).category = 1 := rfl
  have hcellA : T1.heap[T.heap.size]? = some (freshCell cX kX) := by rw [← hT1]; exact State.heap_pushCell_size _ _
  have d3' : decode c.code (pc + 3) = .ok (.dup, 1) := by rw [hb]; exact d3
  have d4' : decode c.code (pc + 4) = .ok (.ldc is, 2) := by rw [hb]; exact d4
  have hstr' : vk_R own is text sa s' := vk_R.warm hW0 hstr
  obtain ⟨U, hsteps, hrun, hend, hW, hsame, ce, hce, hO⟩ := X₁.ctorThrowS hexec htr (own := own) (cls := cls) (names := names) (ic := ic) hown' hcls hnames h (fun x hx => nomatch hx) hfX hkX hcellA (by rw [hhp, hT]; exact Nat.le_refl _) (msg := .ref sa) rfl
    (g := { method := m, pc := pc + 6, locals := ls, stack := .ref sa :: .ref T.heap.size :: .ref T.heap.size :: rest, locked := none }) rfl hsize rfl rfl (rest := rest) rfl
    (by rw [hb]; exact d6) (by rw [hb]; exact d9) hout hRframes (by simp only [List.map_cons, List.sum_cons, hcat]; omega) hlocks
  obtain ⟨f1, f2⟩ := vx_frame hsame
  rw [hhp] at f1 f2
  have hWs : s.WarmedH U.vm := State.WarmedH.trans hW0 hW
  have hcl : s.vm.findClass cls = some ce.cls := by
    have h9 := hO.cls
    rw [hvm] at h9
    exact h9
  have hall : s.sameButNew ({ U with vm := s.vm } : State) locs mc ms := by
    subst hA
    obtain ⟨e1, e2⟩ := hsame
    rw [State.setFrames_setFrames] at e1
    have h2 : (T.setVm s.vm).sameButNew ({ U with vm := s.vm } : State) [] (0 + 1) (0 + 6) := ⟨e1, e2⟩
    have h3 := X.same.trans h2
    rw [List.append_nil] at h3
    exact h3.mono hc hs
  refine ⟨U, ?_, .threw T.heap.size, hrun, hend, Or.inr ⟨T.heap.size, rfl, cls, ce, locs, hx U hWs.alike f1 (fun q hq => f2 q hq (fun z hz => nomatch hz)), hce, hO.vm, hcl, hWs, hall, hf⟩⟩
  refine st1 _ ?_
  show Steps p.tables e below (T1.setTop { method := m, pc := pc + 3, locals := ls, stack := .ref T.heap.size :: rest, locked := none }) _
  jvm_step X₁.here [X₁.here.top, hexec, d3', Value.category]
  exact X₁.ldcString hexec (own := own) (text := text) (index := is) (a := sa) hown' hstr'.1 hstr'.2
    (g := { method := m, pc := pc + 4, locals := ls, stack := .ref T.heap.size :: .ref T.heap.size :: rest, locked := none }) rfl d4' _ hsteps
/-- 'throw new E("text")', the text by a wide index -/
theorem vx_throwSW {cc : ByteArray} {pc : Nat} (hexec : p.tables.exec = Jvm.exec) (hb : c.code = cc) (hl : l.stackTraces = false) {own cls text : String} {names : List String} {ik is ic mc ms sa : Nat} {A : Nat → Prop}
    (hown : s.vm.findClass own = some m.cls) (hcls : Bundle.fit cls = true) (hnames : ∀ n ∈ names, Bundle.fit n = true)
    (hk : (Cond.classLink own ik cls).before args s = true) (hini : (Cond.initialized cls).before args s = true) (hstr : vk_R own is text sa s) (hat : ∀ w ∈ vx_atS own ic cls names, w.before args s = true)
    (hgood : ∀ w ∈ Cond.classLink own ik cls :: Cond.initialized cls :: vx_atS own ic cls names, vx_ot w = true)
    (hU : vx_Zq Bundle.tN "UNASSIGNED_STACK" Bundle.steD A s s.heap) (hN : vx_Zq Bundle.tN "SUPPRESSED_SENTINEL" Bundle.listD A s s.heap) (hS : va_S A s.heap H locs) (hsize : ls.size = c.maxLocals)
    (d0 : decode cc pc = .ok (.new ik, 3)) (d3 : decode cc (pc + 3) = .ok (.dup, 1)) (d4 : decode cc (pc + 4) = .ok (.ldc_w is, 3)) (d7 : decode cc (pc + 7) = .ok (.invokespecial ic, 3)) (d10 : decode cc (pc + 10) = .ok (.athrow, 1))
    (hout : ∀ x ∈ c.exceptionTable.toList, covers x (pc + 10) = false)
    (hRframes : names.length + 3 < R.frames) (hRlocals : (rest.map fun v => v.category).sum + (13 * (names.length + 1) + 43) ≤ R.locals) (hRcells : cells + 1 ≤ R.cells) (hRslots : slots + 6 ≤ R.slots) (hlocks : meth.locks = false)
    (hx : ∀ t : State, s.vm.Alike t.vm → H.size ≤ t.heap.size → (∀ q : Nat, q < H.size → t.heap[q]? = H[q]?) → XC cls s t)
    (hf : ∀ z ∈ locs, free z.base) (hc : cells + 1 ≤ mc) (hs : slots + 6 ≤ ms) :
    W p l e R s m args below meth c H locs cells slots (vx_MQ below Qc XC args s mc ms free) (F0 m pc ls rest) := by
  intro T hT X
  have htr : e.platform.stackTraces = false := (show e.platform.stackTraces = l.stackTraces by rw [X.admits.platform]).trans hl
  have Y := vx_rebase X (R' := { frames := R.frames, locals := R.locals, cells := 1, slots := 6 }) (Nat.le_refl _) (Nat.le_refl _) hRcells hRslots
  obtain ⟨s', hA⟩ : ∃ z, z = (T.setVm s.vm).setFrames (.invoking m args :: below) := ⟨_, rfl⟩
  rw [← hA] at Y
  have hvm : s'.vm = s.vm := by rw [hA]; rfl
  have hhp : s'.heap = H := by rw [hA]; exact hT
  have hW0 : s.WarmedH s'.vm := by rw [hvm]; exact State.WarmedH.refl s
  have hat' : ∀ w ∈ vx_atS own ic cls names, w.before args s' = true := fun w hw => vx_ot_at hW0 hvm.symm (hgood w (List.mem_cons_of_mem _ (List.mem_cons_of_mem _ hw))) (hat w hw)
  have hk' : (Cond.classLink own ik cls).before args s' = true := vx_ot_at hW0 hvm.symm (hgood _ List.mem_cons_self) hk
  have hini' : (Cond.initialized cls).before args s' = true := vx_ot_at hW0 hvm.symm (hgood _ (List.mem_cons_of_mem _ List.mem_cons_self)) hini
  have hU' : vx_Zq Bundle.tN "UNASSIGNED_STACK" Bundle.steD A s' s'.heap := by rw [hhp]; exact vx_Zq.moved hW0.alike (hU.kept hS.2.1)
  have hN' : vx_Zq Bundle.tN "SUPPRESSED_SENTINEL" Bundle.listD A s' s'.heap := by rw [hhp]; exact vx_Zq.moved hW0.alike (hN.kept hS.2.1)
  have h : ∀ w ∈ Bundle.ownAtoms own ic cls names, w.before args s' = true := vx_own hat' (vx_isRefq hU'.1) (vx_isRefq hN'.1) hU'.2.word hN'.2.word
  have hown' : s'.vm.findClass own = some m.cls := by rw [hvm]; exact hown
  have hins : (Cond.instantiable cls 6).before args s' = true := h _ (by simp [Bundle.ownAtoms])
  obtain ⟨vm₁, cX, kX, hfX, hkX, -, -, X₁, st1⟩ := Y.newCold hexec (own := own) (C := cls) (index := ik) (n := 6) hown' hk' hins hini'
    (g := F0 m pc ls rest) rfl (by rw [hb]; exact d0) (Nat.le_refl _) (Nat.le_refl _)
  generalize hT1 : (T.setVm vm₁).pushCell { cls := cX, slots := kX.instanceTypes.map defaultValue, vm := .none } = T1 at X₁ st1
  have hcat : (Value.ref T.heap.size).category = 1 := rfl
  have hcellA : T1.heap[T.heap.size]? = some (freshCell cX kX) := by rw [← hT1]; exact State.heap_pushCell_size _ _
  have d3' : decode c.code (pc + 3) = .ok (.dup, 1) := by rw [hb]; exact d3
  have d4' : decode c.code (pc + 4) = .ok (.ldc_w is, 3) := by rw [hb]; exact d4
  have hstr' : vk_R own is text sa s' := vk_R.warm hW0 hstr
  obtain ⟨U, hsteps, hrun, hend, hW, hsame, ce, hce, hO⟩ := X₁.ctorThrowS hexec htr (own := own) (cls := cls) (names := names) (ic := ic) hown' hcls hnames h (fun x hx => nomatch hx) hfX hkX hcellA (by rw [hhp, hT]; exact Nat.le_refl _) (msg := .ref sa) rfl
    (g := { method := m, pc := pc + 7, locals := ls, stack := .ref sa :: .ref T.heap.size :: .ref T.heap.size :: rest, locked := none }) rfl hsize rfl rfl (rest := rest) rfl
    (by rw [hb]; exact d7) (by rw [hb]; exact d10) hout hRframes (by simp only [List.map_cons, List.sum_cons, hcat]; omega) hlocks
  obtain ⟨f1, f2⟩ := vx_frame hsame
  rw [hhp] at f1 f2
  have hWs : s.WarmedH U.vm := State.WarmedH.trans hW0 hW
  have hcl : s.vm.findClass cls = some ce.cls := by
    have h9 := hO.cls
    rw [hvm] at h9
    exact h9
  have hall : s.sameButNew ({ U with vm := s.vm } : State) locs mc ms := by
    subst hA
    obtain ⟨e1, e2⟩ := hsame
    rw [State.setFrames_setFrames] at e1
    have h2 : (T.setVm s.vm).sameButNew ({ U with vm := s.vm } : State) [] (0 + 1) (0 + 6) := ⟨e1, e2⟩
    have h3 := X.same.trans h2
    rw [List.append_nil] at h3
    exact h3.mono hc hs
  refine ⟨U, ?_, .threw T.heap.size, hrun, hend, Or.inr ⟨T.heap.size, rfl, cls, ce, locs, hx U hWs.alike f1 (fun q hq => f2 q hq (fun z hz => nomatch hz)), hce, hO.vm, hcl, hWs, hall, hf⟩⟩
  refine st1 _ ?_
  show Steps p.tables e below (T1.setTop { method := m, pc := pc + 3, locals := ls, stack := .ref T.heap.size :: rest, locked := none }) _
  jvm_step X₁.here [X₁.here.top, hexec, d3', Value.category]
  exact X₁.ldcStringW hexec (own := own) (text := text) (index := is) (a := sa) hown' hstr'.1 hstr'.2
    (g := { method := m, pc := pc + 4, locals := ls, stack := .ref T.heap.size :: .ref T.heap.size :: rest, locked := none }) rfl d4' _ hsteps
end Ends
section Bodies
variable {l : Launch}
theorem vx_ofW {y : MethodName} {ws ws' : List Cond} {rm : Room} {Pc : Array Value → State → Prop} {Qc : Array Value → State → Outcome → State → Prop} {XC : String → State → State → Prop} {mc ms : Nat} {free : Addr → Prop} {cc : ByteArray} {maxL : Nat} {ret : Option FieldType}
    (hy : plainName y.cls = true) (hw : ws = Cond.code y cc maxL ret :: ws')
    (body : ∀ p e s m args below meth c s₁, BodyLoose p l y (headSpec ws rm) cc maxL ret e s m args below meth c s₁ → c.maxLocals = maxL → (∀ x ∈ c.exceptionTable.toList, False) → Pc args s →
      W p l e (headSpec ws rm).room s m args below meth c s.heap [] 0 0 (vx_MQ below Qc XC args s mc ms free) (entryFrame m args maxL)) : vx_Met l y ws rm Pc Qc XC mc ms free := by
  refine MetFree.of_bodyS (code := cc) (maxLocals := maxL) (ret := ret) hy ?_ ?_
  · intro args s m h hn
    obtain ⟨meth, c, h1, h2, h3, h4, h5, h6, -, -⟩ := Cond.code_spec hn (atoms_spec (ws := ws) h _ (by rw [hw]; exact List.mem_cons_self))
    exact ⟨meth, c, h1, h2, h3, h4, h5, h6⟩
  · intro p e s m args below meth c s₁ B hml hP _
    have hh0 : s₁.heap = s.heap := by rw [B.state]; rfl
    have ht : ∀ x ∈ c.exceptionTable.toList, False := by
      obtain ⟨meth9, c9, h1, h2, -, -, -, -, h7, -⟩ := Cond.code_spec B.named (atoms_spec (ws := ws) B.pre _ (by rw [hw]; exact List.mem_cons_self))
      cases Option.some.inj (h1.symm.trans B.method)
      cases Option.some.inj (h2.symm.trans (Stand.of_body B).code)
      intro x hx
      rw [Array.isEmpty_iff.mp h7] at hx
      cases hx
    obtain ⟨t, a1, o, b1, b2, b3⟩ := body p e s m args below meth c s₁ B hml ht hP s₁ hh0 (Stand.of_body B)
    exact ⟨t, o, a1, b1, b2, b3⟩
/-- the table of a body with handlers -/
theorem vx_table {p : Program} {x y : MethodName} {S : Spec} {cc bytes : ByteArray} {maxL maxL' : Nat} {ret ret' : Option FieldType} {e : Env} {s s₁ : State} {m : MethodId} {args : Array Value} {below : List Frame} {meth : Method} {c : Code} {hh : List (Nat × Nat × Nat × Nat)}
    (B : BodyLoose p l y S cc maxL ret e s m args below meth c s₁) (h : (Cond.codeWith y bytes maxL' ret' hh).before args s = true) : c.exceptionTable.toList = tableOf hh := by
  obtain ⟨m9, meth9, c9, hn9, h1, h2, -, -, h6, -⟩ := Cond.codeWith_spec h
  cases Option.some.inj (hn9.symm.trans B.named)
  cases Option.some.inj (h1.symm.trans B.method)
  cases Option.some.inj (h2.symm.trans (Stand.of_body B).code)
  rw [← h6, table_eq]
end Bodies
end VXA
/-! ===== END ===== -/
/-! ===== BEGIN a static call of a method with an exception table ===== -/
section VXS
variable {p : Program} {l : Launch} {e : Env} {R : Room} {s : State} {m : MethodId} {args : Array Value} {below : List Frame} {meth : Method} {c : Code} {T : State} {H : Heap} {locs : List Loc} {cells slots : Nat}
abbrev vx_CSW (R : Room) (s : State) (args : Array Value) (own : String) (index : Nat) (y : MethodName) (bytes : ByteArray) (maxL : Nat) (ret : Option FieldType) (hh : List (Nat × Nat × Nat × Nat)) (ws : List Cond) (rm : Room) (mc ms n : Nat) : Prop :=
  (rm.cells = mc ∧ rm.slots = ms ∧ rm.frames + 1 ≤ R.frames ∧ 8 + (maxL + 11) + rm.locals ≤ R.locals ∧ (∀ w ∈ ws, ∀ (a' : Array Value) (U : State), s.WarmedH U.vm → w.before a' U = true) ∧ Cond.codeWith y bytes maxL ret hh ∈ ws) ∧
  (Cond.codeWith y bytes maxL ret hh).before args s = true ∧ (Cond.initialized y.cls).before args s = true ∧ (y.cls ≠ "java/lang/invoke/MethodHandle" ∧ y.cls ≠ "java/lang/invoke/VarHandle") ∧
  (∀ sig, parseMethodDescriptor y.desc = some sig → n = sig.parameters.length) ∧ (Cond.methodLink own index y).before args s = true ∧ (Cond.static y).before args s = true
theorem vx_cwSW {own : String} {index maxL mc ms : Nat} {y : MethodName} {bytes : ByteArray} {ret : Option FieldType} {hh : List (Nat × Nat × Nat × Nat)} {Ts ws ws' : List Cond} {rm : Room} (n : Nat) (ht : ∀ w ∈ Ts, w.before args s = true) (hT : GoodIn Ts (va_wsS own index y ws)) (hw : ws = Cond.codeWith y bytes maxL ret hh :: ws') (hrc : rm.cells = mc) (hrs : rm.slots = ms)
    (hd : y.cls ≠ "java/lang/invoke/MethodHandle" ∧ y.cls ≠ "java/lang/invoke/VarHandle" ∧ (parseMethodDescriptor y.desc).map (fun d => d.parameters.length) = some n) (hR : rm.frames + 1 ≤ R.frames ∧ 8 + (maxL + 11) + rm.locals ≤ R.locals) :
    vx_CSW R s args own index y bytes maxL ret hh ws rm mc ms n := by
  have ok : ∀ w ∈ va_wsS own index y ws, w.before args s = true := fun w h => ht w (hT w h).1
  have hG : GoodIn Ts ws := fun w h => hT w (by unfold va_wsS; exact List.mem_append_right _ h)
  have hc : Cond.codeWith y bytes maxL ret hh ∈ ws := by rw [hw]; exact List.mem_cons_self
  refine ⟨⟨hrc, hrs, hR.1, hR.2, pay_in ht hG, hc⟩, ht _ (hG _ hc).1, ok _ (by simp [va_wsS]), ⟨hd.1, hd.2.1⟩, fun sig h => ?_, ok _ (by simp [va_wsS]), ok _ (by simp [va_wsS])⟩
  have h2 := hd.2.2
  rw [h] at h2
  exact (Option.some.inj h2).symm
theorem vx_callSW (X : Stand p l e R s m args below meth c T locs cells slots) (hexec : p.tables.exec = Jvm.exec) {own : String} {index : Nat} {y : MethodName} {bytes : ByteArray} {maxL : Nat} {ret : Option FieldType} {hh : List (Nat × Nat × Nat × Nat)}
    (hown : s.vm.findClass own = some m.cls) (hlink : (Cond.methodLink own index y).before args s = true) (hstat : (Cond.static y).before args s = true) (hinit : (Cond.initialized y.cls).before args s = true)
    (hcode : (Cond.codeWith y bytes maxL ret hh).before args s = true) (hy : y.cls ≠ "java/lang/invoke/MethodHandle" ∧ y.cls ≠ "java/lang/invoke/VarHandle")
    {W9 : Nat} {Pre : Pt → Array Value → Prop} {Post : Pt → Array Value → Option Value → Pt → Prop} (hK : Back l R p e below s args y 3 W9 Pre Post)
    {g : JFrame} (hg : g.method = m) (hsize : g.locals.size = c.maxLocals) {argsL rest : List Value} (hlen : ∀ sig, parseMethodDescriptor y.desc = some sig → argsL.length = sig.parameters.length)
    (hstack : g.stack = argsL.reverse ++ rest) (hW : 2 * g.monitorRoom + (rest.map fun v => v.category).sum ≤ W9) (hdg : decode c.code g.pc = .ok (.invokestatic index, 3))
    (hpre : ∀ vm₁, s.WarmedH vm₁ → Pre ⟨T.setVm vm₁, locs, cells, slots⟩ argsL.toArray) :
    ∃ (v : Option Value) (vm₁ : Vm) (B : Pt), s.WarmedH vm₁ ∧ Stand p l e R s m args below meth c B.U B.locs B.cells B.slots ∧ Post ⟨T.setVm vm₁, locs, cells, slots⟩ argsL.toArray v B ∧
      ∀ target, Steps p.tables e below (B.U.setTop { g with pc := g.pc + 3, stack := v.toList ++ rest }) target → Steps p.tables e below (T.setTop g) target := by
  obtain ⟨mk, methM, cM, hnamed, hmethM, -, -, -, -, -, -, hsigM⟩ := Cond.codeWith_spec hcode
  have hstatic : methM.isStatic = true := Cond.static_spec hnamed hmethM hstat
  obtain ⟨kP, hkP, -⟩ := className_of_methodNamed hnamed
  have hinitP : kP.init = .initialized := Cond.initialized_spec (findClass_of_methodNamed hnamed) hkP hinit
  obtain ⟨vm₁, X₁, hstep₁⟩ := X.invokestatic hexec hown hlink hnamed hmethM hstatic hkP hinitP hy (g := g) hg (argsL := argsL) (rest := rest) (hlen _ hsigM) hstack hdg
  obtain ⟨v, B, X', hpost, hsteps⟩ := hK m meth c ⟨T.setVm vm₁, locs, cells, slots⟩ { g with stack := rest } (.invokestatic index) mk argsL.toArray X₁ hg hsize hdg hW (X₁.named hnamed) (hpre vm₁ X₁.warmed)
  exact ⟨v, vm₁, B, X₁.warmed, X', hpost, fun target h => hstep₁ _ fun acts => by rw [doInvoke_state]; exact hsteps.trans h⟩
theorem vx_runSW {y : MethodName} {bytes cc : ByteArray} {maxL nL mc ms n index : Nat} {ret : Option FieldType} {hh : List (Nat × Nat × Nat × Nat)} {ws : List Cond} {rm : Room} {Pc : Array Value → State → Prop} {Qc : Array Value → State → Outcome → State → Prop} {free : Addr → Prop} {Ts : List Cond} {own : String} {As rest : List Value} {g : JFrame}
    (S : CallFix p m c cc nL s args Ts own) (hM : Met l y ws rm Pc Qc mc ms free) (cw : vx_CSW R s args own index y bytes maxL ret hh ws rm mc ms n) (hp : PreS s H Pc As)
    (hg : g.method = m) (hn : As.length = n) (hsize : g.locals.size = nL) (hstack : g.stack = As.reverse ++ rest) (hW : 2 * g.monitorRoom + (rest.map fun v => v.category).sum ≤ 8) (hdg : decode cc g.pc = .ok (.invokestatic index, 3)) (hf : cells + mc ≤ R.cells ∧ slots + ms ≤ R.slots) :
    va_Run p l e R s m args below meth c H locs cells slots mc ms g rest (Qc As.toArray) (free) := by
  obtain ⟨⟨hrc, hrs, hfr, hlo, hws, hcw⟩, hcode, hini, hy, hlen, hl, hstt⟩ := cw
  have hK : Back l R p e below s args y 3 8 (PreOf R mc ms Pc) (PostOf Qc mc ms free) := va_backW (hh := hh) (bytes := bytes) (maxL := maxL) (ret := ret) hM hp.1 hrc hrs hfr hlo hws hcw (fun a' U hW => word_at hW (Or.inl (by first | rfl | simp [Cond.onTables, Cond.keeps, Cond.steady])) hini)
  obtain ⟨hx, hb, hml, ho, -⟩ := S
  intro T hT X
  obtain ⟨v, vm₁, ⟨U', l2, c2, s2⟩, hW₁, X', ⟨g', mk, t, L, e1, e2, hq, h1, hL, h2, h3⟩, st⟩ := vx_callSW X hx (hh := hh) (bytes := bytes) (maxL := maxL) (ret := ret) ho hl hstt hini hcode hy hK hg (hsize.trans hml.symm) (argsL := As) (rest := rest) (fun sig h => hn.trans (hlen sig h)) hstack hW (by rw [hb]; exact hdg)
    (fun vm₁ hW₁ => ⟨hf.1, hf.2, hp.2 (T.setVm vm₁) hT hW₁⟩)
  dsimp only [Pt.U, Pt.locs, Pt.cells, Pt.slots] at X' e1 e2 h1 h2 h3 st
  subst h1; subst h2; subst h3
  exact ⟨v, (T.setVm vm₁).calling g' mk As.toArray, t, U', L, hT, X', hL, e1, e2, hq, st⟩
/-- not caught here, past rows that name other classes: it goes on to the caller -/
theorem vx_outP {p : Program} {l : Launch} {e : Env} {R : Room} {s : State} {m : MethodId} {args : Array Value} {below : List Frame} {meth : Method} {c : Code} {H : Heap} {locs : List Loc} {cells slots : Nat} {free : Addr → Prop} {ls : Array Slot} {rest : List Value} {Qc : Array Value → State → Outcome → State → Prop} {XC : String → State → State → Prop}
    {pc : Nat} {own E : String} {ce : Cell} {q : Addr} {mc ms : Nat} (hown : s.vm.findClass own = some m.cls) (hlocks : meth.locks = false)
    (hpass : ∀ z ∈ c.exceptionTable.toList, covers z pc = false ∨ (z.catchType ≠ 0 ∧ ∃ nm : String, (Cond.classLink own z.catchType nm).before args s = true ∧ va_Nc E nm s)) (hcell : H[q]? = some ce) (hv : ce.vm = .none) (hcl : s.vm.findClass E = some ce.cls)
    (hx : ∀ t : State, t.heap = H → s.vm.Alike t.vm → XC E s t) (hf : ∀ z ∈ locs, free z.base) (hc : cells ≤ mc) (hs : slots ≤ ms) :
    vx_W p l e R s m args below meth c H locs cells slots (vx_MQ below Qc XC args s mc ms free) (F0 m pc ls rest) q := by
  intro T hT X
  have hpl : e.platform.magicAccessors = ({} : Platform).magicAccessors := by rw [X.admits.platform]
  obtain ⟨vm', hW', X', st⟩ := X.outThrough hlocks q (g := F0 m pc ls rest) rfl rfl rfl (cell := ce) (by rw [hT]; exact hcell) (by rw [hv]; rfl)
    (by obtain ⟨k9, h9, -⟩ := Vm.findClass_spec hcl; exact ⟨k9, h9⟩) (fun z hz => by
      rcases hpass z hz with h | ⟨hz0, nm, hl1, hn1⟩
      · exact Or.inl h
      · obtain ⟨c6, hc6, hcl6⟩ := Cond.classLink_spec hown hl1 e.platform hpl
        obtain ⟨a8, b8, h1, h2, h3⟩ := hn1
        cases Option.some.inj (h1.symm.trans hcl)
        cases Option.some.inj (h2.symm.trans hc6)
        exact Or.inr ⟨hz0, _, hcl6, h3⟩)
  obtain ⟨g₀, hfr⟩ := X'.frames_eq
  have hcell9 : ((T.setVm vm').setFrames (.throwing q :: below)).heap[q]? = some ce := by
    show T.heap[q]? = some ce
    rw [hT]; exact hcell
  have hend : Ended ((T.setVm vm').setFrames (.throwing q :: below)) below (.threw q) := State.frames_setFrames _ (State.cur_lt_of_frames hfr)
  refine ⟨(T.setVm vm').setFrames (.throwing q :: below), ?_, .threw q, X'.here.running, hend, Or.inr ⟨q, rfl, E, ce, locs, hx _ hT (X'.ends _).1.alike, hcell9, hv, hcl, (X'.ends _).1, (X'.ends _).2.mono hc hs, hf⟩⟩
  rw [X.pushThrowing_eq]
  exact st
/-- a thing of a world lies in the heap -/
theorem vx_lt {D : va_G} {cl : List vw_C} {ws : va_W} {H1 : Heap} (h : va_P D cl ws H1) {k : Nat} {q : Nat × va_E} (hk : ws[k]? = some q) : q.1 < H1.size := (h k q hk).lt
end VXS
/-! ===== END ===== -/
/-! ===== BEGIN methods with a table of their own: called by a name, returning or throwing ===== -/
section VXH
/-! vx_backW, vx_callVX, vx_callSX, vx_callVW, vx_runVW, vx_runVX, vx_runSX, vx_ofWH follow the same proofs as their sisters above (Free/Laws.lean, Shelf42/LK1.lean); vx_outP calls Shelf42/NT130.lean (outThrough). -/
section
variable {l : Launch} {R : Room} {p : Program} {e : Env} {below : List Frame} {s : State} {sargs : Array Value} {y : MethodName} {len W9 : Nat}
theorem vx_backW {ws : List Cond} {rm : Room} {Pc : Array Value → State → Prop} {Qc : Array Value → State → Outcome → State → Prop} {XC : String → State → State → Prop} {mc ms : Nat} {free : Addr → Prop} {bytes : ByteArray} {maxL : Nat} {ret : Option FieldType} {hh : List (Nat × Nat × Nat × Nat)}
    (hM : vx_Met l y ws rm Pc Qc XC mc ms free) (hblind : FrameBlind Pc) (hrc : rm.cells = mc) (hrs : rm.slots = ms)
    (hframes : rm.frames + 1 ≤ R.frames) (hlocals : W9 + (maxL + 11) + rm.locals ≤ R.locals)
    (hws : ∀ w ∈ ws, ∀ a' U, s.WarmedH U.vm → w.before a' U = true) (hcode : Cond.codeWith y bytes maxL ret hh ∈ ws) (hinit : ∀ a' U, s.WarmedH U.vm → (Cond.initialized y.cls).before a' U = true) :
    vx_Back l R p e below s sargs y len W9 (PreOf R mc ms Pc) (PostOf Qc mc ms free) (vx_Post XC mc ms free) := by
  intro m meth c A g ig mk a X hg hsize hdg hW hn hp
  have h1 : (headSpec ws rm).pre.before a A.U = true := atoms_intro fun w hw => hws w hw _ _ X.warmed
  have h2 : (Cond.codeWith y bytes maxL ret hh).before a A.U = true := hws _ hcode _ _ X.warmed
  have h3 : (Cond.initialized y.cls).before a A.U = true := hinit _ _ X.warmed
  have h4 : A.cells + (headSpec ws rm).room.cells ≤ R.cells := by rw [show (headSpec ws rm).room.cells = mc from hrc]; exact hp.1
  have h5 : A.slots + (headSpec ws rm).room.slots ≤ R.slots := by rw [show (headSpec ws rm).room.slots = ms from hrs]; exact hp.2.1
  have hPc : Pc a (A.U.calling g mk a) := hblind _ _ _ _ hp.2.2
  obtain ⟨U, Ls, c0, s0⟩ := A
  dsimp only [Pt.U, Pt.locs, Pt.cells, Pt.slots] at h1 h2 h3 h4 h5 X hn hPc ⊢
  obtain ⟨m9, methY, cY, hn9, hmY, hcY, -, hlY, -⟩ := Cond.codeWith_spec h2
  cases Option.some.inj (hn9.symm.trans hn)
  obtain ⟨kY, hkY, -⟩ := className_of_methodNamed hn
  have hinitY : kY.init = .initialized := Cond.initialized_spec (findClass_of_methodNamed hn) hkY h3
  have h : At U g.method c below := by rw [hg]; exact X.here
  have hlocals9 : W9 + (maxL + 11) + (headSpec ws rm).room.locals ≤ R.locals := hlocals
  have happ : (headSpec ws rm).appliesLoose y e.platform (U.calling g mk a) = true :=
    Spec.appliesLoose_calling (g := g) h hdg hn hkY hinitY
      (X.room_calling (g := g) (R' := (headSpec ws rm).room) hsize hmY hcY hframes (by rw [hlY]; omega) h4 h5) h1
  obtain ⟨mid, hmid⟩ := h.above
  have hfr : (U.setTop g).frames = (.java g :: mid) ++ below := by rw [State.frames_setTop' g h.top, hmid]; rfl
  obtain ⟨o, s₂, hsteps, -, hend, hq⟩ := Steps.callFree hM p X.admits X.cas X.clock (acts := []) hfr happ hPc trivial
  have hq' : vx_Q Qc XC mc ms free a (U.calling g mk a) o s₂ := hq
  rw [State.frames_setTop' g h.top] at hend
  obtain ⟨g₀, hg0⟩ := Option.isSome_iff_exists.mp h.top
  obtain ⟨r, hr⟩ := State.topJava?_eq_some.mp hg0
  have hr' : (({ U with heap := s₂.heap, slotsUsed := s₂.slotsUsed } : State).setVm s₂.vm).frames = .java g₀ :: r := hr
  rcases hq' with ⟨hqc, L, hfe, hL⟩ | ⟨q, rfl, E, ce, L, hx, hce, hcv, hcl, hW₂, hsm, hL⟩
  · obtain ⟨⟨v, rfl⟩, hW₂, e2, q2, q3, q4, q5, q6⟩ := id hfe
    have e3 : s₂ = ({ (U.calling g mk a).setFrames s₂.frames with heap := s₂.heap, slotsUsed := s₂.slotsUsed } : State).setVm s₂.vm := by
      have : s₂ = ({ s₂ with vm := (U.calling g mk a).vm } : State).setVm s₂.vm := rfl
      rw [e2] at this
      exact this
    obtain ⟨c₂, i₂, len₂, hc₂, hd₂, hf₂⟩ := hend
    have hW' : U.WarmedH s₂.vm := hW₂
    have hcc : c₂ = c := by
      have h1 : s₂.code? g.method = U.code? g.method := by
        rw [State.code?_eq, State.code?_eq, hW'.alike.method?]
      exact Option.some.inj (hc₂.symm.trans (h1.trans h.code))
    subst hcc
    have hlen : len₂ = len := by rw [hdg] at hd₂; cases hd₂; rfl
    subst hlen
    have hs₂ : s₂ = (({ U with heap := s₂.heap, slotsUsed := s₂.slotsUsed } : State).setVm s₂.vm).setTop { g with pc := g.pc + len₂, stack := v.toList ++ g.stack } := by
      refine e3.trans ?_
      rw [hf₂, State.calling_eq h.top, State.setFrames_setFrames, State.setTop_of_frames _ hr', hr]
      rfl
    have hsame : U.sameButNew ({ U with heap := s₂.heap, slotsUsed := s₂.slotsUsed } : State) L mc ms := by
      refine ⟨?_, q2, q3, q4, q5, q6⟩
      obtain ⟨t, ht, -⟩ := State.frames_cons hr
      show ({ U with heap := s₂.heap, slotsUsed := s₂.slotsUsed } : State) = { U.setFrames U.frames with heap := s₂.heap, slotsUsed := s₂.slotsUsed }
      rw [State.setFrames_self ht]
    subst hg
    refine Or.inl ⟨v, ⟨(({ U with heap := s₂.heap, slotsUsed := s₂.slotsUsed } : State).setVm s₂.vm), Ls ++ L, c0 + mc, s0 + ms⟩,
      ⟨X.admits, X.cas, X.clock, X.frames, X.room, X.hears, X.method, X.code, (X.here.setHeapUsed s₂.heap s₂.slotsUsed).setVm hW'.alike, X.tail, State.WarmedH.trans X.warmed hW', X.limits, X.bytes, X.same.trans (hsame.setVm s.vm)⟩,
      ⟨g, mk, s₂, L, rfl, rfl, hqc, rfl, hL, rfl, rfl⟩, ?_⟩
    show Steps p.tables e below _ ((({ U with heap := s₂.heap, slotsUsed := s₂.slotsUsed } : State).setVm s₂.vm).setTop { g with pc := g.pc + len₂, stack := v.toList ++ g.stack })
    rw [← hs₂]
    exact hsteps
  · obtain ⟨e2, q2, q3, q4, q5, q6⟩ := id hsm
    have e3 : s₂ = ({ (U.calling g mk a).setFrames s₂.frames with heap := s₂.heap, slotsUsed := s₂.slotsUsed } : State).setVm s₂.vm := by
      have : s₂ = ({ s₂ with vm := (U.calling g mk a).vm } : State).setVm s₂.vm := rfl
      rw [e2] at this
      exact this
    have hf₂ : s₂.frames = .throwing q :: .java g :: U.frames.tail := hend
    have hW' : U.WarmedH s₂.vm := hW₂
    have hs₂ : s₂ = ((({ U with heap := s₂.heap, slotsUsed := s₂.slotsUsed } : State).setVm s₂.vm).setTop g).pushFrame (.throwing q) := by
      refine e3.trans ?_
      rw [hf₂, State.calling_eq h.top, State.setFrames_setFrames, State.pushFrame, State.frames_setTop _ hr', State.setTop_of_frames _ hr', State.setFrames_setFrames, hr]
      rfl
    have hsame : U.sameButNew ({ U with heap := s₂.heap, slotsUsed := s₂.slotsUsed } : State) L mc ms := by
      refine ⟨?_, q2, q3, q4, q5, q6⟩
      obtain ⟨t, ht, -⟩ := State.frames_cons hr
      show ({ U with heap := s₂.heap, slotsUsed := s₂.slotsUsed } : State) = { U.setFrames U.frames with heap := s₂.heap, slotsUsed := s₂.slotsUsed }
      rw [State.setFrames_self ht]
    subst hg
    refine Or.inr ⟨q, ⟨(({ U with heap := s₂.heap, slotsUsed := s₂.slotsUsed } : State).setVm s₂.vm), Ls ++ L, c0 + mc, s0 + ms⟩,
      ⟨X.admits, X.cas, X.clock, X.frames, X.room, X.hears, X.method, X.code, (X.here.setHeapUsed s₂.heap s₂.slotsUsed).setVm hW'.alike, X.tail, State.WarmedH.trans X.warmed hW', X.limits, X.bytes, X.same.trans (hsame.setVm s.vm)⟩,
      ⟨g, mk, s₂, L, E, ce, rfl, rfl, hx, hce, hcv, hcl, rfl, hL, rfl, rfl⟩, ?_⟩
    show Steps p.tables e below _ (((({ U with heap := s₂.heap, slotsUsed := s₂.slotsUsed } : State).setVm s₂.vm).setTop g).pushFrame (.throwing q))
    rw [← hs₂]
    exact hsteps
end
variable {p : Program} {l : Launch} {e : Env} {R : Room} {s : State} {m : MethodId} {args : Array Value} {below : List Frame} {meth : Method} {c : Code} {T : State} {H : Heap} {locs : List Loc} {cells slots : Nat}
theorem vx_callVX (X : Stand p l e R s m args below meth c T locs cells slots) (hexec : p.tables.exec = Jvm.exec) {own C : String} {index : Nat} {y : MethodName} {bytes : ByteArray} {maxL : Nat} {ret : Option FieldType} {hh : List (Nat × Nat × Nat × Nat)}
    (hown : s.vm.findClass own = some m.cls) (hlink : (Cond.methodLink own index y).before args s = true) (hinst : (Cond.instanceMethod y).before args s = true) (hsel : (Cond.selects C y y).before args s = true)
    (hcode : (Cond.codeWith y bytes maxL ret hh).before args s = true) (hy : y.cls ≠ "java/lang/invoke/MethodHandle" ∧ y.cls ≠ "java/lang/invoke/VarHandle")
    {W9 : Nat} {Pre : Pt → Array Value → Prop} {Post : Pt → Array Value → Option Value → Pt → Prop} {PostX : Pt → Array Value → Addr → Pt → Prop} (hK : vx_Back l R p e below s args y 3 W9 Pre Post PostX)
    {b : Addr} {cellB : Cell} (hcell : T.heap[b]? = some cellB) (hobj : cellB.vm.isStatics = false) (hcls : s.vm.findClass C = some cellB.cls)
    {g : JFrame} (hg : g.method = m) (hsize : g.locals.size = c.maxLocals) {argsL rest : List Value} (hlen : ∀ sig, parseMethodDescriptor y.desc = some sig → argsL.length = sig.parameters.length)
    (hstack : g.stack = argsL.reverse ++ .ref b :: rest) (hW : 2 * g.monitorRoom + (rest.map fun v => v.category).sum ≤ W9) (hdg : decode c.code g.pc = .ok (.invokevirtual index, 3))
    (hpre : ∀ vm₁, s.WarmedH vm₁ → Pre ⟨T.setVm vm₁, locs, cells, slots⟩ (Value.ref b :: argsL).toArray) :
    (∃ (v : Option Value) (vm₁ : Vm) (B : Pt), s.WarmedH vm₁ ∧ Stand p l e R s m args below meth c B.U B.locs B.cells B.slots ∧ Post ⟨T.setVm vm₁, locs, cells, slots⟩ (Value.ref b :: argsL).toArray v B ∧
      ∀ target, Steps p.tables e below (B.U.setTop { g with pc := g.pc + 3, stack := v.toList ++ rest }) target → Steps p.tables e below (T.setTop g) target) ∨
    (∃ (q : Addr) (vm₁ : Vm) (B : Pt), s.WarmedH vm₁ ∧ Stand p l e R s m args below meth c B.U B.locs B.cells B.slots ∧ PostX ⟨T.setVm vm₁, locs, cells, slots⟩ (Value.ref b :: argsL).toArray q B ∧
      Steps p.tables e below (T.setTop g) ((B.U.setTop { g with stack := rest }).pushFrame (.throwing q))) := by
  obtain ⟨mk, methM, hnamed, hmethM, hstM, habM⟩ := Cond.instanceMethod_spec hinst
  obtain ⟨m8, methM', cM, hn8, hmethM', -, -, -, -, -, -, hsigM⟩ := Cond.codeWith_spec hcode
  cases Option.some.inj (hn8.symm.trans hnamed)
  cases hmethM.symm.trans hmethM'
  obtain ⟨c2, r2, m2, q1, q2, q3, q4, kP, hkP, hkPi⟩ := Cond.selects_spec hsel
  cases hcls.symm.trans q1
  cases (State.methodFound?_of_named hnamed hy).symm.trans q2
  cases hnamed.symm.trans q3
  have hselP : selectMethod e.platform s.vm cellB.cls mk = .method mk := by rw [Launch.admits_selectMethod X.admits]; exact q4
  obtain ⟨vm₁, X₁, hstep₁⟩ := X.invokevirtual hexec hown hlink hnamed hmethM hstM hkP hkPi hy (a := b) (cell := cellB) hcell
    (fun z h => by rw [h] at hobj; cases hobj) hselP hmethM habM hkP hkPi (g := g) hg (argsL := argsL) (rest := rest) (hlen _ hsigM) hstack hdg
  rcases hK m meth c ⟨T.setVm vm₁, locs, cells, slots⟩ { g with stack := rest } (.invokevirtual index) mk (Value.ref b :: argsL).toArray X₁ hg hsize hdg hW (X₁.named hnamed) (hpre vm₁ X₁.warmed) with ⟨v, B, X', hpost, hsteps⟩ | ⟨q, B, X', hpost, hsteps⟩
  · exact Or.inl ⟨v, vm₁, B, X₁.warmed, X', hpost, fun target h => hstep₁ _ fun acts => by rw [doInvoke_state]; exact hsteps.trans h⟩
  · exact Or.inr ⟨q, vm₁, B, X₁.warmed, X', hpost, hstep₁ _ fun acts => by rw [doInvoke_state]; exact hsteps⟩
theorem vx_callSX (X : Stand p l e R s m args below meth c T locs cells slots) (hexec : p.tables.exec = Jvm.exec) {own : String} {index : Nat} {y : MethodName} {bytes : ByteArray} {maxL : Nat} {ret : Option FieldType} {hh : List (Nat × Nat × Nat × Nat)}
    (hown : s.vm.findClass own = some m.cls) (hlink : (Cond.methodLink own index y).before args s = true) (hstat : (Cond.static y).before args s = true) (hinit : (Cond.initialized y.cls).before args s = true)
    (hcode : (Cond.codeWith y bytes maxL ret hh).before args s = true) (hy : y.cls ≠ "java/lang/invoke/MethodHandle" ∧ y.cls ≠ "java/lang/invoke/VarHandle")
    {W9 : Nat} {Pre : Pt → Array Value → Prop} {Post : Pt → Array Value → Option Value → Pt → Prop} {PostX : Pt → Array Value → Addr → Pt → Prop} (hK : vx_Back l R p e below s args y 3 W9 Pre Post PostX)
    {g : JFrame} (hg : g.method = m) (hsize : g.locals.size = c.maxLocals) {argsL rest : List Value} (hlen : ∀ sig, parseMethodDescriptor y.desc = some sig → argsL.length = sig.parameters.length)
    (hstack : g.stack = argsL.reverse ++ rest) (hW : 2 * g.monitorRoom + (rest.map fun v => v.category).sum ≤ W9) (hdg : decode c.code g.pc = .ok (.invokestatic index, 3))
    (hpre : ∀ vm₁, s.WarmedH vm₁ → Pre ⟨T.setVm vm₁, locs, cells, slots⟩ argsL.toArray) :
    (∃ (v : Option Value) (vm₁ : Vm) (B : Pt), s.WarmedH vm₁ ∧ Stand p l e R s m args below meth c B.U B.locs B.cells B.slots ∧ Post ⟨T.setVm vm₁, locs, cells, slots⟩ argsL.toArray v B ∧
      ∀ target, Steps p.tables e below (B.U.setTop { g with pc := g.pc + 3, stack := v.toList ++ rest }) target → Steps p.tables e below (T.setTop g) target) ∨
    (∃ (q : Addr) (vm₁ : Vm) (B : Pt), s.WarmedH vm₁ ∧ Stand p l e R s m args below meth c B.U B.locs B.cells B.slots ∧ PostX ⟨T.setVm vm₁, locs, cells, slots⟩ argsL.toArray q B ∧
      Steps p.tables e below (T.setTop g) ((B.U.setTop { g with stack := rest }).pushFrame (.throwing q))) := by
  obtain ⟨mk, methM, cM, hnamed, hmethM, -, -, -, -, -, -, hsigM⟩ := Cond.codeWith_spec hcode
  have hstatic : methM.isStatic = true := Cond.static_spec hnamed hmethM hstat
  obtain ⟨kP, hkP, -⟩ := className_of_methodNamed hnamed
  have hinitP : kP.init = .initialized := Cond.initialized_spec (findClass_of_methodNamed hnamed) hkP hinit
  obtain ⟨vm₁, X₁, hstep₁⟩ := X.invokestatic hexec hown hlink hnamed hmethM hstatic hkP hinitP hy (g := g) hg (argsL := argsL) (rest := rest) (hlen _ hsigM) hstack hdg
  rcases hK m meth c ⟨T.setVm vm₁, locs, cells, slots⟩ { g with stack := rest } (.invokestatic index) mk argsL.toArray X₁ hg hsize hdg hW (X₁.named hnamed) (hpre vm₁ X₁.warmed) with ⟨v, B, X', hpost, hsteps⟩ | ⟨q, B, X', hpost, hsteps⟩
  · exact Or.inl ⟨v, vm₁, B, X₁.warmed, X', hpost, fun target h => hstep₁ _ fun acts => by rw [doInvoke_state]; exact hsteps.trans h⟩
  · exact Or.inr ⟨q, vm₁, B, X₁.warmed, X', hpost, hstep₁ _ fun acts => by rw [doInvoke_state]; exact hsteps⟩
theorem vx_callVW (X : Stand p l e R s m args below meth c T locs cells slots) (hexec : p.tables.exec = Jvm.exec) {own C : String} {index : Nat} {y : MethodName} {bytes : ByteArray} {maxL : Nat} {ret : Option FieldType} {hh : List (Nat × Nat × Nat × Nat)}
    (hown : s.vm.findClass own = some m.cls) (hlink : (Cond.methodLink own index y).before args s = true) (hinst : (Cond.instanceMethod y).before args s = true) (hsel : (Cond.selects C y y).before args s = true)
    (hcode : (Cond.codeWith y bytes maxL ret hh).before args s = true) (hy : y.cls ≠ "java/lang/invoke/MethodHandle" ∧ y.cls ≠ "java/lang/invoke/VarHandle")
    {W9 : Nat} {Pre : Pt → Array Value → Prop} {Post : Pt → Array Value → Option Value → Pt → Prop} (hK : Back l R p e below s args y 3 W9 Pre Post)
    {b : Addr} {cellB : Cell} (hcell : T.heap[b]? = some cellB) (hobj : cellB.vm.isStatics = false) (hcls : s.vm.findClass C = some cellB.cls)
    {g : JFrame} (hg : g.method = m) (hsize : g.locals.size = c.maxLocals) {argsL rest : List Value} (hlen : ∀ sig, parseMethodDescriptor y.desc = some sig → argsL.length = sig.parameters.length)
    (hstack : g.stack = argsL.reverse ++ .ref b :: rest) (hW : 2 * g.monitorRoom + (rest.map fun v => v.category).sum ≤ W9) (hdg : decode c.code g.pc = .ok (.invokevirtual index, 3))
    (hpre : ∀ vm₁, s.WarmedH vm₁ → Pre ⟨T.setVm vm₁, locs, cells, slots⟩ (Value.ref b :: argsL).toArray) :
    ∃ (v : Option Value) (vm₁ : Vm) (B : Pt), s.WarmedH vm₁ ∧ Stand p l e R s m args below meth c B.U B.locs B.cells B.slots ∧ Post ⟨T.setVm vm₁, locs, cells, slots⟩ (Value.ref b :: argsL).toArray v B ∧
      ∀ target, Steps p.tables e below (B.U.setTop { g with pc := g.pc + 3, stack := v.toList ++ rest }) target → Steps p.tables e below (T.setTop g) target := by
  obtain ⟨mk, methM, hnamed, hmethM, hstM, habM⟩ := Cond.instanceMethod_spec hinst
  obtain ⟨m8, methM', cM, hn8, hmethM', -, -, -, -, -, -, hsigM⟩ := Cond.codeWith_spec hcode
  cases Option.some.inj (hn8.symm.trans hnamed)
  cases hmethM.symm.trans hmethM'
  obtain ⟨c2, r2, m2, q1, q2, q3, q4, kP, hkP, hkPi⟩ := Cond.selects_spec hsel
  cases hcls.symm.trans q1
  cases (State.methodFound?_of_named hnamed hy).symm.trans q2
  cases hnamed.symm.trans q3
  have hselP : selectMethod e.platform s.vm cellB.cls mk = .method mk := by rw [Launch.admits_selectMethod X.admits]; exact q4
  obtain ⟨vm₁, X₁, hstep₁⟩ := X.invokevirtual hexec hown hlink hnamed hmethM hstM hkP hkPi hy (a := b) (cell := cellB) hcell
    (fun z h => by rw [h] at hobj; cases hobj) hselP hmethM habM hkP hkPi (g := g) hg (argsL := argsL) (rest := rest) (hlen _ hsigM) hstack hdg
  obtain ⟨v, B, X', hpost, hsteps⟩ := hK m meth c ⟨T.setVm vm₁, locs, cells, slots⟩ { g with stack := rest } (.invokevirtual index) mk (Value.ref b :: argsL).toArray X₁ hg hsize hdg hW (X₁.named hnamed) (hpre vm₁ X₁.warmed)
  exact ⟨v, vm₁, B, X₁.warmed, X', hpost, fun target h => hstep₁ _ fun acts => by rw [doInvoke_state]; exact hsteps.trans h⟩
abbrev vx_CVW (R : Room) (s : State) (args : Array Value) (own C : String) (index : Nat) (y : MethodName) (bytes : ByteArray) (maxL : Nat) (ret : Option FieldType) (hh : List (Nat × Nat × Nat × Nat)) (ws : List Cond) (rm : Room) (mc ms n : Nat) : Prop :=
  (rm.cells = mc ∧ rm.slots = ms ∧ rm.frames + 1 ≤ R.frames ∧ 8 + (maxL + 11) + rm.locals ≤ R.locals ∧ (∀ w ∈ ws, ∀ (a' : Array Value) (U : State), s.WarmedH U.vm → w.before a' U = true) ∧ Cond.codeWith y bytes maxL ret hh ∈ ws) ∧
  (Cond.codeWith y bytes maxL ret hh).before args s = true ∧ (Cond.initialized y.cls).before args s = true ∧ (y.cls ≠ "java/lang/invoke/MethodHandle" ∧ y.cls ≠ "java/lang/invoke/VarHandle") ∧
  (∀ sig, parseMethodDescriptor y.desc = some sig → n = sig.parameters.length) ∧ (Cond.methodLink own index y).before args s = true ∧ (Cond.instanceMethod y).before args s = true ∧ (Cond.selects C y y).before args s = true
theorem vx_cwVW {own C : String} {index maxL mc ms : Nat} {y : MethodName} {bytes : ByteArray} {ret : Option FieldType} {hh : List (Nat × Nat × Nat × Nat)} {Ts ws ws' : List Cond} {rm : Room} (n : Nat) (ht : ∀ w ∈ Ts, w.before args s = true) (hT : GoodIn Ts (wsV own index C y ws)) (hw : ws = Cond.codeWith y bytes maxL ret hh :: ws') (hrc : rm.cells = mc) (hrs : rm.slots = ms)
    (hd : y.cls = C ∧ y.cls ≠ "java/lang/invoke/MethodHandle" ∧ y.cls ≠ "java/lang/invoke/VarHandle" ∧ (parseMethodDescriptor y.desc).map (fun d => d.parameters.length) = some n) (hR : rm.frames + 1 ≤ R.frames ∧ 8 + (maxL + 11) + rm.locals ≤ R.locals) :
    vx_CVW R s args own C index y bytes maxL ret hh ws rm mc ms n := by
  obtain ⟨hC, hd⟩ := hd
  subst hC
  have ok : ∀ w ∈ wsV own index y.cls y ws, w.before args s = true := fun w h => ht w (hT w h).1
  have hG : GoodIn Ts ws := fun w h => hT w (by unfold wsV; exact List.mem_append_right _ h)
  have hc : Cond.codeWith y bytes maxL ret hh ∈ ws := by rw [hw]; exact List.mem_cons_self
  refine ⟨⟨hrc, hrs, hR.1, hR.2, pay_in ht hG, hc⟩, ht _ (hG _ hc).1, ok _ (by simp [wsV]), ⟨hd.1, hd.2.1⟩, fun sig h => ?_, ok _ (by simp [wsV]), ok _ (by simp [wsV]), ok _ (by simp [wsV])⟩
  have h2 := hd.2.2
  rw [h] at h2
  exact (Option.some.inj h2).symm
theorem vx_runVW {y : MethodName} {bytes cc : ByteArray} {maxL nL mc ms n index : Nat} {ret : Option FieldType} {hh : List (Nat × Nat × Nat × Nat)} {ws : List Cond} {rm : Room} {Pc : Array Value → State → Prop} {Qc : Array Value → State → Outcome → State → Prop} {free : Addr → Prop} {Ts : List Cond} {own C : String} {b : Addr} {As rest : List Value} {g : JFrame}
    (S : CallFix p m c cc nL s args Ts own) (hM : Met l y ws rm Pc Qc mc ms free) (cw : vx_CVW R s args own C index y bytes maxL ret hh ws rm mc ms n) (hp : PreV s H C b Pc As)
    (hg : g.method = m) (hn : As.length = n) (hsize : g.locals.size = nL) (hstack : g.stack = As.reverse ++ .ref b :: rest) (hW : 2 * g.monitorRoom + (rest.map fun v => v.category).sum ≤ 8) (hdg : decode cc g.pc = .ok (.invokevirtual index, 3)) (hf : cells + mc ≤ R.cells ∧ slots + ms ≤ R.slots) :
    va_Run p l e R s m args below meth c H locs cells slots mc ms g rest (Qc (Value.ref b :: As).toArray) free := by
  obtain ⟨⟨hrc, hrs, hfr, hlo, hws, hcw⟩, hcode, hini, hy, hlen, hl, hin, hse⟩ := cw
  have hK : Back l R p e below s args y 3 8 (PreOf R mc ms Pc) (PostOf Qc mc ms free) := va_backW (hh := hh) (bytes := bytes) (maxL := maxL) (ret := ret) hM hp.1 hrc hrs hfr hlo hws hcw (fun a' U hW => word_at hW (Or.inl (by first | rfl | simp [Cond.onTables, Cond.keeps, Cond.steady])) hini)
  obtain ⟨hx, hb, hml, ho, -⟩ := S
  obtain ⟨-, ⟨cellB, hcB, hoB, hclB⟩, hPc⟩ := hp
  intro T hT X
  obtain ⟨v, vm₁, ⟨U', l2, c2, s2⟩, hW₁, X', ⟨g', mk, t, L, e1, e2, hq, h1, hL, h2, h3⟩, st⟩ := vx_callVW X hx (C := C) (hh := hh) (bytes := bytes) (maxL := maxL) (ret := ret) ho hl hin hse hcode hy hK (by rw [hT]; exact hcB) hoB hclB hg (hsize.trans hml.symm) (argsL := As) (rest := rest) (fun sig h => hn.trans (hlen sig h)) hstack hW (by rw [hb]; exact hdg)
    (fun vm₁ hW₁ => ⟨hf.1, hf.2, hPc (T.setVm vm₁) hT hW₁⟩)
  dsimp only [Pt.U, Pt.locs, Pt.cells, Pt.slots] at X' e1 e2 h1 h2 h3 st
  subst h1; subst h2; subst h3
  exact ⟨v, (T.setVm vm₁).calling g' mk (Value.ref b :: As).toArray, t, U', L, hT, X', hL, e1, e2, hq, st⟩
section
variable {y : MethodName} {bytes cc : ByteArray} {maxL nL mc ms n index : Nat} {ret : Option FieldType} {ws : List Cond} {rm : Room} {Pc : Array Value → State → Prop} {Qc : Array Value → State → Outcome → State → Prop} {XC : String → State → State → Prop} {free : Addr → Prop} {Ts : List Cond} {own C : String} {b : Addr} {As rest : List Value} {g : JFrame}
theorem vx_runVX {hh : List (Nat × Nat × Nat × Nat)} (S : CallFix p m c cc nL s args Ts own) (hM : vx_Met l y ws rm Pc Qc XC mc ms free) (cw : vx_CVW R s args own C index y bytes maxL ret hh ws rm mc ms n) (hp : PreV s H C b Pc As)
    (hg : g.method = m) (hn : As.length = n) (hsize : g.locals.size = nL) (hstack : g.stack = As.reverse ++ .ref b :: rest) (hW : 2 * g.monitorRoom + (rest.map fun v => v.category).sum ≤ 8) (hdg : decode cc g.pc = .ok (.invokevirtual index, 3)) (hf : cells + mc ≤ R.cells ∧ slots + ms ≤ R.slots) :
    vx_Run p l e R s m args below meth c H locs cells slots mc ms g rest (Qc (Value.ref b :: As).toArray) XC free := by
  obtain ⟨⟨hrc, hrs, hfr, hlo, hws, hcw⟩, hcode, hini, hy, hlen, hl, hin, hse⟩ := cw
  have hK : vx_Back l R p e below s args y 3 8 (PreOf R mc ms Pc) (PostOf Qc mc ms free) (vx_Post XC mc ms free) := vx_backW (hh := hh) (bytes := bytes) (maxL := maxL) (ret := ret) hM hp.1 hrc hrs hfr hlo hws hcw (fun a' U hW => word_at hW (Or.inl (by first | rfl | simp [Cond.onTables, Cond.keeps, Cond.steady])) hini)
  obtain ⟨hx, hb, hml, ho, -⟩ := S
  obtain ⟨-, ⟨cellB, hcB, hoB, hclB⟩, hPc⟩ := hp
  intro T hT X
  rcases vx_callVX X hx (C := C) (hh := hh) (bytes := bytes) (maxL := maxL) (ret := ret) ho hl hin hse hcode hy hK (by rw [hT]; exact hcB) hoB hclB hg (hsize.trans hml.symm) (argsL := As) (rest := rest) (fun sig h => hn.trans (hlen sig h)) hstack hW (by rw [hb]; exact hdg)
    (fun vm₁ hW₁ => ⟨hf.1, hf.2, hPc (T.setVm vm₁) hT hW₁⟩) with ⟨v, vm₁, ⟨U', l2, c2, s2⟩, hW₁, X', ⟨g', mk, t, L, e1, e2, hq, h1, hL, h2, h3⟩, st⟩ | ⟨q, vm₁, ⟨U', l2, c2, s2⟩, hW₁, X', ⟨g', mk, t, L, E, ce, e1, e2, hq, hce, hcv, hcl, h1, hL, h2, h3⟩, st⟩
  · dsimp only [Pt.U, Pt.locs, Pt.cells, Pt.slots] at X' e1 e2 h1 h2 h3 st
    subst h1; subst h2; subst h3
    exact Or.inl ⟨v, (T.setVm vm₁).calling g' mk (Value.ref b :: As).toArray, t, U', L, hT, X', hL, e1, e2, hq, st⟩
  · dsimp only [Pt.U, Pt.locs, Pt.cells, Pt.slots] at X' e1 e2 h1 h2 h3 st hcl
    subst h1; subst h2; subst h3
    exact Or.inr ⟨q, (T.setVm vm₁).calling g' mk (Value.ref b :: As).toArray, t, U', L, E, ce, hT, X', hL, e1, e2, hq, hce, hcv, vx_cls hW₁ hcl, st⟩
theorem vx_runSX {hh : List (Nat × Nat × Nat × Nat)} (S : CallFix p m c cc nL s args Ts own) (hM : vx_Met l y ws rm Pc Qc XC mc ms free) (cw : vx_CSW R s args own index y bytes maxL ret hh ws rm mc ms n) (hp : PreS s H Pc As)
    (hg : g.method = m) (hn : As.length = n) (hsize : g.locals.size = nL) (hstack : g.stack = As.reverse ++ rest) (hW : 2 * g.monitorRoom + (rest.map fun v => v.category).sum ≤ 8) (hdg : decode cc g.pc = .ok (.invokestatic index, 3)) (hf : cells + mc ≤ R.cells ∧ slots + ms ≤ R.slots) :
    vx_Run p l e R s m args below meth c H locs cells slots mc ms g rest (Qc As.toArray) XC free := by
  obtain ⟨⟨hrc, hrs, hfr, hlo, hws, hcw⟩, hcode, hini, hy, hlen, hl, hstt⟩ := cw
  have hK : vx_Back l R p e below s args y 3 8 (PreOf R mc ms Pc) (PostOf Qc mc ms free) (vx_Post XC mc ms free) := vx_backW (hh := hh) (bytes := bytes) (maxL := maxL) (ret := ret) hM hp.1 hrc hrs hfr hlo hws hcw (fun a' U hW => word_at hW (Or.inl (by first | rfl | simp [Cond.onTables, Cond.keeps, Cond.steady])) hini)
  obtain ⟨hx, hb, hml, ho, -⟩ := S
  intro T hT X
  rcases vx_callSX X hx (hh := hh) (bytes := bytes) (maxL := maxL) (ret := ret) ho hl hstt hini hcode hy hK hg (hsize.trans hml.symm) (argsL := As) (rest := rest) (fun sig h => hn.trans (hlen sig h)) hstack hW (by rw [hb]; exact hdg)
    (fun vm₁ hW₁ => ⟨hf.1, hf.2, hp.2 (T.setVm vm₁) hT hW₁⟩) with ⟨v, vm₁, ⟨U', l2, c2, s2⟩, hW₁, X', ⟨g', mk, t, L, e1, e2, hq, h1, hL, h2, h3⟩, st⟩ | ⟨q, vm₁, ⟨U', l2, c2, s2⟩, hW₁, X', ⟨g', mk, t, L, E, ce, e1, e2, hq, hce, hcv, hcl, h1, hL, h2, h3⟩, st⟩
  · dsimp only [Pt.U, Pt.locs, Pt.cells, Pt.slots] at X' e1 e2 h1 h2 h3 st
    subst h1; subst h2; subst h3
    exact Or.inl ⟨v, (T.setVm vm₁).calling g' mk As.toArray, t, U', L, hT, X', hL, e1, e2, hq, st⟩
  · dsimp only [Pt.U, Pt.locs, Pt.cells, Pt.slots] at X' e1 e2 h1 h2 h3 st hcl
    subst h1; subst h2; subst h3
    exact Or.inr ⟨q, (T.setVm vm₁).calling g' mk As.toArray, t, U', L, E, ce, hT, X', hL, e1, e2, hq, hce, hcv, vx_cls hW₁ hcl, st⟩
end
end VXH
theorem vx_ofWH {l : Launch} {y : MethodName} {ws ws' : List Cond} {rm : Room} {Pc : Array Value → State → Prop} {Qc : Array Value → State → Outcome → State → Prop} {XC : String → State → State → Prop} {mc ms : Nat} {free : Addr → Prop} {cc : ByteArray} {maxL : Nat} {ret : Option FieldType} {hh : List (Nat × Nat × Nat × Nat)}
    (hy : plainName y.cls = true) (hw : ws = Cond.codeWith y cc maxL ret hh :: ws')
    (body : ∀ p e s m args below meth c s₁, BodyLoose p l y (headSpec ws rm) cc maxL ret e s m args below meth c s₁ → c.maxLocals = maxL → Pc args s →
      W p l e (headSpec ws rm).room s m args below meth c s.heap [] 0 0 (vx_MQ below Qc XC args s mc ms free) (entryFrame m args maxL)) : vx_Met l y ws rm Pc Qc XC mc ms free := by
  refine MetFree.of_bodyS (code := cc) (maxLocals := maxL) (ret := ret) hy ?_ ?_
  · intro args s m h hn
    obtain ⟨m9, meth, c, hn9, h1, h2, h3, h4, -, h5, h6, -⟩ := Cond.codeWith_spec (atoms_spec (ws := ws) h _ (by rw [hw]; exact List.mem_cons_self))
    cases hn.symm.trans hn9
    exact ⟨meth, c, h1, h2, h3, h4, h5, h6⟩
  · intro p e s m args below meth c s₁ B hml hP _
    have hh0 : s₁.heap = s.heap := by rw [B.state]; rfl
    obtain ⟨t, a1, o, b1, b2, b3⟩ := body p e s m args below meth c s₁ B hml hP s₁ hh0 (Stand.of_body B)
    exact ⟨t, o, a1, b1, b2, b3⟩
/-! ===== END ===== -/

/-! ===== BEGIN printed: names, fields, word lists, decode rows ===== -/
def RX0 : String := "SofaRailway$1"
def TX0 : u_T := fun k => match k with
  | _ => ("", "", "", false)
def tyX0 : Nat → FieldType := fun k => match k with
  | _ => .int
abbrev wsX00 : List Cond := u_ws RX0 TX0 0
theorem nmX0 : ∀ a, a < 0 → ∀ b, b < 0 → a ≠ b → (TX0 a).2.1 ≠ (TX0 b).2.1 := by decide +kernel
theorem tyX0_ok : ∀ k, k < 0 → parseFieldDescriptor (TX0 k).2.2.1 = some (tyX0 k) := by decide +kernel
def RX1 : String := "SofaRailway$Command"
def TX1 : u_T := fun k => match k with
  | _ => ("", "", "", false)
def tyX1 : Nat → FieldType := fun k => match k with
  | _ => .int
abbrev wsX10 : List Cond := u_ws RX1 TX1 0
theorem nmX1 : ∀ a, a < 0 → ∀ b, b < 0 → a ≠ b → (TX1 a).2.1 ≠ (TX1 b).2.1 := by decide +kernel
theorem tyX1_ok : ∀ k, k < 0 → parseFieldDescriptor (TX1 k).2.2.1 = some (tyX1 k) := by decide +kernel
def RX2 : String := "SofaRailway$CommandReader"
def TX2 : u_T := fun k => match k with
  | 0 => ("SofaRailway$CommandReader", "text", "[C", true)
  | 1 => ("SofaRailway$CommandReader", "size", "I", false)
  | 2 => ("SofaRailway$CommandReader", "position", "I", false)
  | 3 => ("SofaRailway$CommandReader", "ended", "Z", false)
  | 4 => ("SofaRailway$CommandReader", "command", "LSofaRailway$Command;", false)
  | 5 => ("SofaRailway$CommandReader", "first", "I", false)
  | _ => ("SofaRailway$CommandReader", "second", "I", false)
def tyX2 : Nat → FieldType := fun k => match k with
  | 0 => .array .char
  | 1 => .int
  | 2 => .int
  | 3 => .boolean
  | 4 => .object "SofaRailway$Command"
  | 5 => .int
  | _ => .int
abbrev wsX20 : List Cond := u_ws RX2 TX2 7
theorem nmX2 : ∀ a, a < 7 → ∀ b, b < 7 → a ≠ b → (TX2 a).2.1 ≠ (TX2 b).2.1 := by decide +kernel
theorem tyX2_ok : ∀ k, k < 7 → parseFieldDescriptor (TX2 k).2.2.1 = some (tyX2 k) := by decide +kernel
abbrev cX2_init : ByteArray := prog_4_method_1_code
def yX2_init : MethodName := ⟨RX2, "<init>", "()V"⟩
abbrev cX2_append : ByteArray := prog_4_method_2_code
def yX2_append : MethodName := ⟨RX2, "append", "(C)Z"⟩
abbrev cX2_clear : ByteArray := prog_4_method_3_code
def yX2_clear : MethodName := ⟨RX2, "clear", "()V"⟩
abbrev cX2_rewind : ByteArray := prog_4_method_4_code
def yX2_rewind : MethodName := ⟨RX2, "rewind", "()V"⟩
abbrev cX2_findError : ByteArray := prog_4_method_5_code
def yX2_findError : MethodName := ⟨RX2, "findError", "()I"⟩
abbrev cX2_readCommand : ByteArray := prog_4_method_6_code
def yX2_readCommand : MethodName := ⟨RX2, "readCommand", "()Z"⟩
abbrev cX2_closeCommand : ByteArray := prog_4_method_7_code
def yX2_closeCommand : MethodName := ⟨RX2, "closeCommand", "(I)Z"⟩
abbrev cX2_match : ByteArray := prog_4_method_8_code
def yX2_match : MethodName := ⟨RX2, "match", "(Ljava/lang/String;I)I"⟩
abbrev cX2_putNumber : ByteArray := prog_4_method_9_code
def yX2_putNumber : MethodName := ⟨RX2, "putNumber", "(III)V"⟩
abbrev cX2_isDigit : ByteArray := prog_4_method_10_code
def yX2_isDigit : MethodName := ⟨RX2, "isDigit", "(I)Z"⟩
def RX3 : String := "SofaRailway$History"
def TX3 : u_T := fun k => match k with
  | 0 => ("SofaRailway$History", "slots", "[LSofaRailway$Layout;", true)
  | 1 => ("SofaRailway$History", "next", "I", false)
  | _ => ("SofaRailway$History", "count", "I", false)
def tyX3 : Nat → FieldType := fun k => match k with
  | 0 => .array (.object "SofaRailway$Layout")
  | 1 => .int
  | _ => .int
abbrev wsX30 : List Cond := u_ws RX3 TX3 3
theorem nmX3 : ∀ a, a < 3 → ∀ b, b < 3 → a ≠ b → (TX3 a).2.1 ≠ (TX3 b).2.1 := by decide +kernel
theorem tyX3_ok : ∀ k, k < 3 → parseFieldDescriptor (TX3 k).2.2.1 = some (tyX3 k) := by decide +kernel
abbrev cX3_init : ByteArray := prog_5_method_1_code
def yX3_init : MethodName := ⟨RX3, "<init>", "()V"⟩
abbrev cX3_keep : ByteArray := prog_5_method_2_code
def yX3_keep : MethodName := ⟨RX3, "keep", "(LSofaRailway$Layout;)V"⟩
abbrev cX3_confirm : ByteArray := prog_5_method_3_code
def yX3_confirm : MethodName := ⟨RX3, "confirm", "()V"⟩
abbrev cX3_revert : ByteArray := prog_5_method_4_code
def yX3_revert : MethodName := ⟨RX3, "revert", "(LSofaRailway$Layout;)V"⟩
abbrev cX3_stepBack : ByteArray := prog_5_method_5_code
def yX3_stepBack : MethodName := ⟨RX3, "stepBack", "(LSofaRailway$Layout;)I"⟩
abbrev cX3_forget : ByteArray := prog_5_method_6_code
def yX3_forget : MethodName := ⟨RX3, "forget", "()V"⟩
def RX4 : String := "SofaRailway$Layout"
def TX4 : u_T := fun k => match k with
  | 0 => ("SofaRailway$Layout", "blocks", "I", false)
  | 1 => ("SofaRailway$Layout", "trains", "I", false)
  | 2 => ("SofaRailway$Layout", "ticks", "I", false)
  | 3 => ("SofaRailway$Layout", "arrivals", "I", false)
  | 4 => ("SofaRailway$Layout", "cushions", "I", false)
  | 5 => ("SofaRailway$Layout", "cats", "I", false)
  | 6 => ("SofaRailway$Layout", "derailed", "I", false)
  | 7 => ("SofaRailway$Layout", "lengths", "[I", true)
  | 8 => ("SofaRailway$Layout", "links", "[I", true)
  | 9 => ("SofaRailway$Layout", "places", "[I", true)
  | 10 => ("SofaRailway$Layout", "priorities", "[I", true)
  | 11 => ("SofaRailway$Layout", "remaining", "[I", true)
  | 12 => ("SofaRailway$Layout", "goals", "[I", true)
  | 13 => ("SofaRailway$Layout", "holds", "[I", true)
  | _ => ("SofaRailway$Layout", "waits", "[I", true)
def tyX4 : Nat → FieldType := fun k => match k with
  | 0 => .int
  | 1 => .int
  | 2 => .int
  | 3 => .int
  | 4 => .int
  | 5 => .int
  | 6 => .int
  | 7 => .array .int
  | 8 => .array .int
  | 9 => .array .int
  | 10 => .array .int
  | 11 => .array .int
  | 12 => .array .int
  | 13 => .array .int
  | _ => .array .int
abbrev wsX40 : List Cond := u_ws RX4 TX4 15
theorem nmX4 : ∀ a, a < 15 → ∀ b, b < 15 → a ≠ b → (TX4 a).2.1 ≠ (TX4 b).2.1 := by decide +kernel
theorem tyX4_ok : ∀ k, k < 15 → parseFieldDescriptor (TX4 k).2.2.1 = some (tyX4 k) := by decide +kernel
abbrev cX4_init : ByteArray := prog_6_method_1_code
def yX4_init : MethodName := ⟨RX4, "<init>", "()V"⟩
abbrev cX4_copyFrom : ByteArray := prog_6_method_2_code
def yX4_copyFrom : MethodName := ⟨RX4, "copyFrom", "(LSofaRailway$Layout;)V"⟩
abbrev cX4_isBlock : ByteArray := prog_6_method_3_code
def yX4_isBlock : MethodName := ⟨RX4, "isBlock", "(I)Z"⟩
abbrev cX4_isTrain : ByteArray := prog_6_method_4_code
def yX4_isTrain : MethodName := ⟨RX4, "isTrain", "(I)Z"⟩
abbrev cX4_isJoined : ByteArray := prog_6_method_5_code
def yX4_isJoined : MethodName := ⟨RX4, "isJoined", "(II)Z"⟩
abbrev cX4_trainAt : ByteArray := prog_6_method_6_code
def yX4_trainAt : MethodName := ⟨RX4, "trainAt", "(I)I"⟩
abbrev cX4_holderOf : ByteArray := prog_6_method_7_code
def yX4_holderOf : MethodName := ⟨RX4, "holderOf", "(I)I"⟩
abbrev cX4_signalOf : ByteArray := prog_6_method_8_code
def yX4_signalOf : MethodName := ⟨RX4, "signalOf", "(I)C"⟩
abbrev cX4_trainAtRank : ByteArray := prog_6_method_9_code
def yX4_trainAtRank : MethodName := ⟨RX4, "trainAtRank", "(I)I"⟩
abbrev cX4_allWaits : ByteArray := prog_6_method_10_code
def yX4_allWaits : MethodName := ⟨RX4, "allWaits", "()I"⟩
abbrev cX4_placeBlock : ByteArray := prog_6_method_11_code
def yX4_placeBlock : MethodName := ⟨RX4, "placeBlock", "(IZ)I"⟩
abbrev cX4_join : ByteArray := prog_6_method_12_code
def yX4_join : MethodName := ⟨RX4, "join", "(II)I"⟩
abbrev cX4_separate : ByteArray := prog_6_method_13_code
def yX4_separate : MethodName := ⟨RX4, "separate", "(II)I"⟩
abbrev cX4_seatCat : ByteArray := prog_6_method_14_code
def yX4_seatCat : MethodName := ⟨RX4, "seatCat", "(I)I"⟩
abbrev cX4_liftCat : ByteArray := prog_6_method_15_code
def yX4_liftCat : MethodName := ⟨RX4, "liftCat", "(I)I"⟩
abbrev cX4_placeTrain : ByteArray := prog_6_method_16_code
def yX4_placeTrain : MethodName := ⟨RX4, "placeTrain", "(II)I"⟩
abbrev cX4_dropGoal : ByteArray := prog_6_method_17_code
def yX4_dropGoal : MethodName := ⟨RX4, "dropGoal", "(I)I"⟩
abbrev cX4_hold : ByteArray := prog_6_method_18_code
def yX4_hold : MethodName := ⟨RX4, "hold", "(II)I"⟩
abbrev cX4_release : ByteArray := prog_6_method_19_code
def yX4_release : MethodName := ⟨RX4, "release", "(I)I"⟩
abbrev cX4_rerail : ByteArray := prog_6_method_20_code
def yX4_rerail : MethodName := ⟨RX4, "rerail", "(I)I"⟩
abbrev cX4_letsIn : ByteArray := prog_6_method_21_code
def yX4_letsIn : MethodName := ⟨RX4, "letsIn", "(II)Z"⟩
abbrev cX4_moveTrain : ByteArray := prog_6_method_22_code
def yX4_moveTrain : MethodName := ⟨RX4, "moveTrain", "(II)V"⟩
abbrev cX4_countLinks : ByteArray := prog_6_method_23_code
def yX4_countLinks : MethodName := ⟨RX4, "countLinks", "()I"⟩
abbrev cX4_countHolds : ByteArray := prog_6_method_24_code
def yX4_countHolds : MethodName := ⟨RX4, "countHolds", "()I"⟩
def RX5 : String := "SofaRailway$Output"
def TX5 : u_T := fun k => match k with
  | 0 => ("SofaRailway$Output", "signs", "[C", true)
  | _ => ("SofaRailway$Output", "size", "I", false)
def tyX5 : Nat → FieldType := fun k => match k with
  | 0 => .array .char
  | _ => .int
abbrev wsX50 : List Cond := u_ws RX5 TX5 2
theorem nmX5 : ∀ a, a < 2 → ∀ b, b < 2 → a ≠ b → (TX5 a).2.1 ≠ (TX5 b).2.1 := by decide +kernel
theorem tyX5_ok : ∀ k, k < 2 → parseFieldDescriptor (TX5 k).2.2.1 = some (tyX5 k) := by decide +kernel
abbrev cX5_init : ByteArray := prog_7_method_1_code
def yX5_init : MethodName := ⟨RX5, "<init>", "()V"⟩
abbrev cX5_clear : ByteArray := prog_7_method_2_code
def yX5_clear : MethodName := ⟨RX5, "clear", "()V"⟩
abbrev cX5_put : ByteArray := prog_7_method_3_code
def yX5_put : MethodName := ⟨RX5, "put", "(C)V"⟩
abbrev cX5_putMarked : ByteArray := prog_7_method_4_code
def yX5_putMarked : MethodName := ⟨RX5, "putMarked", "(CI)V"⟩
def RX6 : String := "SofaRailway$Routes"
def TX6 : u_T := fun k => match k with
  | 0 => ("SofaRailway$Routes", "byNearest", "[I", true)
  | 1 => ("SofaRailway$Routes", "byRounds", "[I", true)
  | _ => ("SofaRailway$Routes", "groups", "[I", true)
def tyX6 : Nat → FieldType := fun k => match k with
  | 0 => .array .int
  | 1 => .array .int
  | _ => .array .int
abbrev wsX60 : List Cond := u_ws RX6 TX6 3
theorem nmX6 : ∀ a, a < 3 → ∀ b, b < 3 → a ≠ b → (TX6 a).2.1 ≠ (TX6 b).2.1 := by decide +kernel
theorem tyX6_ok : ∀ k, k < 3 → parseFieldDescriptor (TX6 k).2.2.1 = some (tyX6 k) := by decide +kernel
abbrev cX6_init : ByteArray := prog_8_method_1_code
def yX6_init : MethodName := ⟨RX6, "<init>", "()V"⟩
abbrev cX6_measureByNearest : ByteArray := prog_8_method_2_code
def yX6_measureByNearest : MethodName := ⟨RX6, "measureByNearest", "(LSofaRailway$Layout;I)V"⟩
abbrev cX6_nearestOpen : ByteArray := prog_8_method_3_code
def yX6_nearestOpen : MethodName := ⟨RX6, "nearestOpen", "(II)I"⟩
abbrev cX6_measureByRounds : ByteArray := prog_8_method_4_code
def yX6_measureByRounds : MethodName := ⟨RX6, "measureByRounds", "(LSofaRailway$Layout;I)V"⟩
abbrev cX6_shortenFrom : ByteArray := prog_8_method_5_code
def yX6_shortenFrom : MethodName := ⟨RX6, "shortenFrom", "(LSofaRailway$Layout;I)Z"⟩
abbrev cX6_distancesAgree : ByteArray := prog_8_method_6_code
def yX6_distancesAgree : MethodName := ⟨RX6, "distancesAgree", "(LSofaRailway$Layout;)Z"⟩
abbrev cX6_nextFor : ByteArray := prog_8_method_7_code
def yX6_nextFor : MethodName := ⟨RX6, "nextFor", "(LSofaRailway$Layout;I)I"⟩
abbrev cX6_cushionNear : ByteArray := prog_8_method_8_code
def yX6_cushionNear : MethodName := ⟨RX6, "cushionNear", "(LSofaRailway$Layout;I)I"⟩
abbrev cX6_partsByWalks : ByteArray := prog_8_method_9_code
def yX6_partsByWalks : MethodName := ⟨RX6, "partsByWalks", "(LSofaRailway$Layout;)I"⟩
abbrev cX6_walk : ByteArray := prog_8_method_10_code
def yX6_walk : MethodName := ⟨RX6, "walk", "(LSofaRailway$Layout;III)I"⟩
abbrev cX6_partsByUnions : ByteArray := prog_8_method_11_code
def yX6_partsByUnions : MethodName := ⟨RX6, "partsByUnions", "(LSofaRailway$Layout;)I"⟩
abbrev cX6_unite : ByteArray := prog_8_method_12_code
def yX6_unite : MethodName := ⟨RX6, "unite", "(III)V"⟩
def RX7 : String := "SofaRailway$Traffic"
def TX7 : u_T := fun k => match k with
  | 0 => ("SofaRailway$Traffic", "routes", "LSofaRailway$Routes;", true)
  | 1 => ("SofaRailway$Traffic", "blockers", "[I", true)
  | _ => ("SofaRailway$Traffic", "table", "[I", true)
def tyX7 : Nat → FieldType := fun k => match k with
  | 0 => .object "SofaRailway$Routes"
  | 1 => .array .int
  | _ => .array .int
abbrev wsX70 : List Cond := u_ws RX7 TX7 3
theorem nmX7 : ∀ a, a < 3 → ∀ b, b < 3 → a ≠ b → (TX7 a).2.1 ≠ (TX7 b).2.1 := by decide +kernel
theorem tyX7_ok : ∀ k, k < 3 → parseFieldDescriptor (TX7 k).2.2.1 = some (tyX7 k) := by decide +kernel
abbrev cX7_init : ByteArray := prog_9_method_1_code
def yX7_init : MethodName := ⟨RX7, "<init>", "()V"⟩
abbrev cX7_aim : ByteArray := prog_9_method_2_code
def yX7_aim : MethodName := ⟨RX7, "aim", "(LSofaRailway$Layout;II)I"⟩
abbrev cX7_letPass : ByteArray := prog_9_method_3_code
def yX7_letPass : MethodName := ⟨RX7, "letPass", "(LSofaRailway$Layout;I)I"⟩
abbrev cX7_consider : ByteArray := prog_9_method_4_code
def yX7_consider : MethodName := ⟨RX7, "consider", "(LSofaRailway$Layout;I)V"⟩
abbrev cX7_ticksToGoal : ByteArray := prog_9_method_5_code
def yX7_ticksToGoal : MethodName := ⟨RX7, "ticksToGoal", "(LSofaRailway$Layout;I)I"⟩
abbrev cX7_blockerOf : ByteArray := prog_9_method_6_code
def yX7_blockerOf : MethodName := ⟨RX7, "blockerOf", "(LSofaRailway$Layout;I)I"⟩
abbrev cX7_stuckByFollowing : ByteArray := prog_9_method_7_code
def yX7_stuckByFollowing : MethodName := ⟨RX7, "stuckByFollowing", "(LSofaRailway$Layout;)I"⟩
abbrev cX7_leadsBack : ByteArray := prog_9_method_8_code
def yX7_leadsBack : MethodName := ⟨RX7, "leadsBack", "(II)Z"⟩
abbrev cX7_stuckByTable : ByteArray := prog_9_method_9_code
def yX7_stuckByTable : MethodName := ⟨RX7, "stuckByTable", "(LSofaRailway$Layout;)I"⟩
def RX8 : String := "SofaRailway"
def TX8 : u_T := fun k => match k with
  | 0 => ("SofaRailway", "now", "LSofaRailway$Layout;", true)
  | 1 => ("SofaRailway", "saved", "LSofaRailway$Layout;", true)
  | 2 => ("SofaRailway", "forecast", "LSofaRailway$Layout;", true)
  | 3 => ("SofaRailway", "history", "LSofaRailway$History;", true)
  | 4 => ("SofaRailway", "routes", "LSofaRailway$Routes;", true)
  | 5 => ("SofaRailway", "traffic", "LSofaRailway$Traffic;", true)
  | 6 => ("SofaRailway", "reader", "LSofaRailway$CommandReader;", true)
  | 7 => ("SofaRailway", "output", "LSofaRailway$Output;", true)
  | 8 => ("SofaRailway", "hasSaved", "Z", false)
  | 9 => ("SofaRailway", "keptErrorPosition", "I", false)
  | _ => ("SofaRailway", "keptFailedCommand", "I", false)
def tyX8 : Nat → FieldType := fun k => match k with
  | 0 => .object "SofaRailway$Layout"
  | 1 => .object "SofaRailway$Layout"
  | 2 => .object "SofaRailway$Layout"
  | 3 => .object "SofaRailway$History"
  | 4 => .object "SofaRailway$Routes"
  | 5 => .object "SofaRailway$Traffic"
  | 6 => .object "SofaRailway$CommandReader"
  | 7 => .object "SofaRailway$Output"
  | 8 => .boolean
  | 9 => .int
  | _ => .int
abbrev wsX80 : List Cond := u_ws RX8 TX8 11
theorem nmX8 : ∀ a, a < 11 → ∀ b, b < 11 → a ≠ b → (TX8 a).2.1 ≠ (TX8 b).2.1 := by decide +kernel
theorem tyX8_ok : ∀ k, k < 11 → parseFieldDescriptor (TX8 k).2.2.1 = some (tyX8 k) := by decide +kernel
abbrev cX8_init : ByteArray := prog_1_method_1_code
def yX8_init : MethodName := ⟨RX8, "<init>", "()V"⟩
abbrev cX8_addBlock : ByteArray := prog_1_method_2_code
def yX8_addBlock : MethodName := ⟨RX8, "addBlock", "(I)I"⟩
abbrev cX8_addCushion : ByteArray := prog_1_method_3_code
def yX8_addCushion : MethodName := ⟨RX8, "addCushion", "(I)I"⟩
abbrev cX8_link : ByteArray := prog_1_method_4_code
def yX8_link : MethodName := ⟨RX8, "link", "(II)I"⟩
abbrev cX8_unlink : ByteArray := prog_1_method_5_code
def yX8_unlink : MethodName := ⟨RX8, "unlink", "(II)I"⟩
abbrev cX8_putCat : ByteArray := prog_1_method_6_code
def yX8_putCat : MethodName := ⟨RX8, "putCat", "(I)I"⟩
abbrev cX8_removeCat : ByteArray := prog_1_method_7_code
def yX8_removeCat : MethodName := ⟨RX8, "removeCat", "(I)I"⟩
abbrev cX8_blockCount : ByteArray := prog_1_method_8_code
def yX8_blockCount : MethodName := ⟨RX8, "blockCount", "()I"⟩
abbrev cX8_length : ByteArray := prog_1_method_9_code
def yX8_length : MethodName := ⟨RX8, "length", "(I)I"⟩
abbrev cX8_isCushion : ByteArray := prog_1_method_10_code
def yX8_isCushion : MethodName := ⟨RX8, "isCushion", "(I)Z"⟩
abbrev cX8_hasCat : ByteArray := prog_1_method_11_code
def yX8_hasCat : MethodName := ⟨RX8, "hasCat", "(I)Z"⟩
abbrev cX8_areLinked : ByteArray := prog_1_method_12_code
def yX8_areLinked : MethodName := ⟨RX8, "areLinked", "(II)Z"⟩
abbrev cX8_degree : ByteArray := prog_1_method_13_code
def yX8_degree : MethodName := ⟨RX8, "degree", "(I)I"⟩
abbrev cX8_trainIn : ByteArray := prog_1_method_14_code
def yX8_trainIn : MethodName := ⟨RX8, "trainIn", "(I)I"⟩
abbrev cX8_reservedBy : ByteArray := prog_1_method_15_code
def yX8_reservedBy : MethodName := ⟨RX8, "reservedBy", "(I)I"⟩
abbrev cX8_signal : ByteArray := prog_1_method_16_code
def yX8_signal : MethodName := ⟨RX8, "signal", "(I)C"⟩
abbrev cX8_distance : ByteArray := prog_1_method_17_code
def yX8_distance : MethodName := ⟨RX8, "distance", "(II)I"⟩
abbrev cX8_distanceByRounds : ByteArray := prog_1_method_18_code
def yX8_distanceByRounds : MethodName := ⟨RX8, "distanceByRounds", "(II)I"⟩
abbrev cX8_nextBlock : ByteArray := prog_1_method_19_code
def yX8_nextBlock : MethodName := ⟨RX8, "nextBlock", "(I)I"⟩
abbrev cX8_partCount : ByteArray := prog_1_method_20_code
def yX8_partCount : MethodName := ⟨RX8, "partCount", "()I"⟩
abbrev cX8_partCountByUnions : ByteArray := prog_1_method_21_code
def yX8_partCountByUnions : MethodName := ⟨RX8, "partCountByUnions", "()I"⟩
abbrev cX8_nearestCushion : ByteArray := prog_1_method_22_code
def yX8_nearestCushion : MethodName := ⟨RX8, "nearestCushion", "(I)I"⟩
abbrev cX8_addTrain : ByteArray := prog_1_method_23_code
def yX8_addTrain : MethodName := ⟨RX8, "addTrain", "(II)I"⟩
abbrev cX8_setGoal : ByteArray := prog_1_method_24_code
def yX8_setGoal : MethodName := ⟨RX8, "setGoal", "(II)I"⟩
abbrev cX8_clearGoal : ByteArray := prog_1_method_25_code
def yX8_clearGoal : MethodName := ⟨RX8, "clearGoal", "(I)I"⟩
abbrev cX8_reserve : ByteArray := prog_1_method_26_code
def yX8_reserve : MethodName := ⟨RX8, "reserve", "(II)I"⟩
abbrev cX8_cancelReservation : ByteArray := prog_1_method_27_code
def yX8_cancelReservation : MethodName := ⟨RX8, "cancelReservation", "(I)I"⟩
abbrev cX8_rescue : ByteArray := prog_1_method_28_code
def yX8_rescue : MethodName := ⟨RX8, "rescue", "(I)I"⟩
abbrev cX8_trainCount : ByteArray := prog_1_method_29_code
def yX8_trainCount : MethodName := ⟨RX8, "trainCount", "()I"⟩
abbrev cX8_blockOf : ByteArray := prog_1_method_30_code
def yX8_blockOf : MethodName := ⟨RX8, "blockOf", "(I)I"⟩
abbrev cX8_priority : ByteArray := prog_1_method_31_code
def yX8_priority : MethodName := ⟨RX8, "priority", "(I)I"⟩
abbrev cX8_remainingTicks : ByteArray := prog_1_method_32_code
def yX8_remainingTicks : MethodName := ⟨RX8, "remainingTicks", "(I)I"⟩
abbrev cX8_goal : ByteArray := prog_1_method_33_code
def yX8_goal : MethodName := ⟨RX8, "goal", "(I)I"⟩
abbrev cX8_isDerailed : ByteArray := prog_1_method_34_code
def yX8_isDerailed : MethodName := ⟨RX8, "isDerailed", "(I)Z"⟩
abbrev cX8_waits : ByteArray := prog_1_method_35_code
def yX8_waits : MethodName := ⟨RX8, "waits", "(I)I"⟩
abbrev cX8_trainByPriority : ByteArray := prog_1_method_36_code
def yX8_trainByPriority : MethodName := ⟨RX8, "trainByPriority", "(I)I"⟩
abbrev cX8_blockedBy : ByteArray := prog_1_method_37_code
def yX8_blockedBy : MethodName := ⟨RX8, "blockedBy", "(I)I"⟩
abbrev cX8_deadlocked : ByteArray := prog_1_method_38_code
def yX8_deadlocked : MethodName := ⟨RX8, "deadlocked", "()I"⟩
abbrev cX8_deadlockedByTable : ByteArray := prog_1_method_39_code
def yX8_deadlockedByTable : MethodName := ⟨RX8, "deadlockedByTable", "()I"⟩
abbrev cX8_passTicks : ByteArray := prog_1_method_40_code
def yX8_passTicks : MethodName := ⟨RX8, "passTicks", "(I)I"⟩
abbrev cX8_ticks : ByteArray := prog_1_method_41_code
def yX8_ticks : MethodName := ⟨RX8, "ticks", "()I"⟩
abbrev cX8_arrivals : ByteArray := prog_1_method_42_code
def yX8_arrivals : MethodName := ⟨RX8, "arrivals", "()I"⟩
abbrev cX8_ticksUntilArrival : ByteArray := prog_1_method_43_code
def yX8_ticksUntilArrival : MethodName := ⟨RX8, "ticksUntilArrival", "(I)I"⟩
abbrev cX8_meanWaits : ByteArray := prog_1_method_44_code
def yX8_meanWaits : MethodName := ⟨RX8, "meanWaits", "()D"⟩
abbrev cX8_occupiedFraction : ByteArray := prog_1_method_45_code
def yX8_occupiedFraction : MethodName := ⟨RX8, "occupiedFraction", "()F"⟩
abbrev cX8_writeTrain : ByteArray := prog_1_method_46_code
def yX8_writeTrain : MethodName := ⟨RX8, "writeTrain", "(I)I"⟩
abbrev cX8_writeSignals : ByteArray := prog_1_method_47_code
def yX8_writeSignals : MethodName := ⟨RX8, "writeSignals", "()I"⟩
abbrev cX8_outputCharacter : ByteArray := prog_1_method_48_code
def yX8_outputCharacter : MethodName := ⟨RX8, "outputCharacter", "(I)C"⟩
abbrev cX8_isConsistent : ByteArray := prog_1_method_49_code
def yX8_isConsistent : MethodName := ⟨RX8, "isConsistent", "()Z"⟩
abbrev cX8_feed : ByteArray := prog_1_method_50_code
def yX8_feed : MethodName := ⟨RX8, "feed", "(C)I"⟩
abbrev cX8_execute : ByteArray := prog_1_method_51_code
def yX8_execute : MethodName := ⟨RX8, "execute", "()I"⟩
abbrev cX8_errorPosition : ByteArray := prog_1_method_52_code
def yX8_errorPosition : MethodName := ⟨RX8, "errorPosition", "()I"⟩
abbrev cX8_failedCommand : ByteArray := prog_1_method_53_code
def yX8_failedCommand : MethodName := ⟨RX8, "failedCommand", "()I"⟩
abbrev cX8_undo : ByteArray := prog_1_method_54_code
def yX8_undo : MethodName := ⟨RX8, "undo", "()I"⟩
abbrev cX8_undoCount : ByteArray := prog_1_method_55_code
def yX8_undoCount : MethodName := ⟨RX8, "undoCount", "()I"⟩
abbrev cX8_save : ByteArray := prog_1_method_56_code
def yX8_save : MethodName := ⟨RX8, "save", "()I"⟩
abbrev cX8_restore : ByteArray := prog_1_method_57_code
def yX8_restore : MethodName := ⟨RX8, "restore", "()I"⟩
abbrev cX8_needBlock : ByteArray := prog_1_method_58_code
def yX8_needBlock : MethodName := ⟨RX8, "needBlock", "(I)V"⟩
abbrev cX8_needTrain : ByteArray := prog_1_method_59_code
def yX8_needTrain : MethodName := ⟨RX8, "needTrain", "(I)V"⟩
abbrev cX8_has : ByteArray := prog_1_method_60_code
def yX8_has : MethodName := ⟨RX8, "has", "(II)Z"⟩
abbrev cX8_found : ByteArray := prog_1_method_61_code
def yX8_found : MethodName := ⟨RX8, "found", "(I)I"⟩
abbrev cX8_changed : ByteArray := prog_1_method_62_code
def yX8_changed : MethodName := ⟨RX8, "changed", "(I)I"⟩
abbrev cX8_perform : ByteArray := prog_1_method_63_code
def yX8_perform : MethodName := ⟨RX8, "perform", "(LSofaRailway$Command;II)I"⟩
def RX9 : String := "SofaRailwayModel"
def TX9 : u_T := fun k => match k with
  | 0 => ("SofaRailwayModel", "thrown", "I", false)
  | 1 => ("SofaRailwayModel", "s", "[I", true)
  | 2 => ("SofaRailwayModel", "frame", "[I", true)
  | 3 => ("SofaRailwayModel", "saved", "[I", true)
  | 4 => ("SofaRailwayModel", "history", "[I", true)
  | 5 => ("SofaRailwayModel", "thought", "[I", true)
  | 6 => ("SofaRailwayModel", "kept", "I", false)
  | 7 => ("SofaRailwayModel", "hasSaved", "Z", false)
  | 8 => ("SofaRailwayModel", "text", "[I", true)
  | 9 => ("SofaRailwayModel", "told", "[I", true)
  | 10 => ("SofaRailwayModel", "out", "[I", true)
  | 11 => ("SofaRailwayModel", "far", "[I", true)
  | 12 => ("SofaRailwayModel", "mark", "[I", true)
  | 13 => ("SofaRailwayModel", "fed", "I", false)
  | 14 => ("SofaRailwayModel", "outLength", "I", false)
  | 15 => ("SofaRailwayModel", "faultAt", "I", false)
  | 16 => ("SofaRailwayModel", "failedAt", "I", false)
  | 17 => ("SofaRailwayModel", "answer", "I", false)
  | 18 => ("SofaRailwayModel", "spot", "I", false)
  | 19 => ("SofaRailwayModel", "end", "I", false)
  | 20 => ("SofaRailwayModel", "commands", "I", false)
  | _ => ("SofaRailwayModel", "isWrong", "Z", false)
def tyX9 : Nat → FieldType := fun k => match k with
  | 0 => .int
  | 1 => .array .int
  | 2 => .array .int
  | 3 => .array .int
  | 4 => .array .int
  | 5 => .array .int
  | 6 => .int
  | 7 => .boolean
  | 8 => .array .int
  | 9 => .array .int
  | 10 => .array .int
  | 11 => .array .int
  | 12 => .array .int
  | 13 => .int
  | 14 => .int
  | 15 => .int
  | 16 => .int
  | 17 => .int
  | 18 => .int
  | 19 => .int
  | 20 => .int
  | _ => .boolean
abbrev wsX90 : List Cond := u_ws RX9 TX9 22
theorem nmX9 : ∀ a, a < 22 → ∀ b, b < 22 → a ≠ b → (TX9 a).2.1 ≠ (TX9 b).2.1 := by decide +kernel
theorem tyX9_ok : ∀ k, k < 22 → parseFieldDescriptor (TX9 k).2.2.1 = some (tyX9 k) := by decide +kernel
abbrev cX9_init : ByteArray := prog_11_method_1_code
def yX9_init : MethodName := ⟨RX9, "<init>", "()V"⟩
abbrev cX9_thrown : ByteArray := prog_11_method_2_code
def yX9_thrown : MethodName := ⟨RX9, "thrown", "()I"⟩
abbrev cX9_fails : ByteArray := prog_11_method_3_code
def yX9_fails : MethodName := ⟨RX9, "fails", "(I)I"⟩
abbrev cX9_in : ByteArray := prog_11_method_4_code
def yX9_in : MethodName := ⟨RX9, "in", "(III)Z"⟩
abbrev cX9_remembers : ByteArray := prog_11_method_5_code
def yX9_remembers : MethodName := ⟨RX9, "remembers", "()V"⟩
abbrev cX9_changed : ByteArray := prog_11_method_6_code
def yX9_changed : MethodName := ⟨RX9, "changed", "(I)I"⟩
abbrev cX9_done : ByteArray := prog_11_method_7_code
def yX9_done : MethodName := ⟨RX9, "done", "(I)I"⟩
abbrev cX9_ends : ByteArray := prog_11_method_8_code
def yX9_ends : MethodName := ⟨RX9, "ends", "(I)I"⟩
abbrev cX9_isBlock : ByteArray := prog_11_method_9_code
def yX9_isBlock : MethodName := ⟨RX9, "isBlock", "(I)Z"⟩
abbrev cX9_isTrain : ByteArray := prog_11_method_10_code
def yX9_isTrain : MethodName := ⟨RX9, "isTrain", "(I)Z"⟩
abbrev cX9_block : ByteArray := prog_11_method_11_code
def yX9_block : MethodName := ⟨RX9, "block", "(II)I"⟩
abbrev cX9_train : ByteArray := prog_11_method_12_code
def yX9_train : MethodName := ⟨RX9, "train", "(II)I"⟩
abbrev cX9_sets : ByteArray := prog_11_method_13_code
def yX9_sets : MethodName := ⟨RX9, "sets", "(III)V"⟩
abbrev cX9_linked : ByteArray := prog_11_method_14_code
def yX9_linked : MethodName := ⟨RX9, "linked", "(II)Z"⟩
abbrev cX9_links : ByteArray := prog_11_method_15_code
def yX9_links : MethodName := ⟨RX9, "links", "()I"⟩
abbrev cX9_cats : ByteArray := prog_11_method_16_code
def yX9_cats : MethodName := ⟨RX9, "cats", "()I"⟩
abbrev cX9_inside : ByteArray := prog_11_method_17_code
def yX9_inside : MethodName := ⟨RX9, "inside", "(I)I"⟩
abbrev cX9_holder : ByteArray := prog_11_method_18_code
def yX9_holder : MethodName := ⟨RX9, "holder", "(I)I"⟩
abbrev cX9_held : ByteArray := prog_11_method_19_code
def yX9_held : MethodName := ⟨RX9, "held", "(I)I"⟩
abbrev cX9_goalOf : ByteArray := prog_11_method_20_code
def yX9_goalOf : MethodName := ⟨RX9, "goalOf", "(I)I"⟩
abbrev cX9_ways : ByteArray := prog_11_method_21_code
def yX9_ways : MethodName := ⟨RX9, "ways", "(I)V"⟩
abbrev cX9_next : ByteArray := prog_11_method_22_code
def yX9_next : MethodName := ⟨RX9, "next", "(I)I"⟩
abbrev cX9_adds : ByteArray := prog_11_method_23_code
def yX9_adds : MethodName := ⟨RX9, "adds", "(II)I"⟩
abbrev cX9_joins : ByteArray := prog_11_method_24_code
def yX9_joins : MethodName := ⟨RX9, "joins", "(II)I"⟩
abbrev cX9_parts : ByteArray := prog_11_method_25_code
def yX9_parts : MethodName := ⟨RX9, "parts", "(II)I"⟩
abbrev cX9_seats : ByteArray := prog_11_method_26_code
def yX9_seats : MethodName := ⟨RX9, "seats", "(I)I"⟩
abbrev cX9_shoos : ByteArray := prog_11_method_27_code
def yX9_shoos : MethodName := ⟨RX9, "shoos", "(I)I"⟩
abbrev cX9_starts : ByteArray := prog_11_method_28_code
def yX9_starts : MethodName := ⟨RX9, "starts", "(II)I"⟩
abbrev cX9_aims : ByteArray := prog_11_method_29_code
def yX9_aims : MethodName := ⟨RX9, "aims", "(II)I"⟩
abbrev cX9_forgets : ByteArray := prog_11_method_30_code
def yX9_forgets : MethodName := ⟨RX9, "forgets", "(I)I"⟩
abbrev cX9_holds : ByteArray := prog_11_method_31_code
def yX9_holds : MethodName := ⟨RX9, "holds", "(II)I"⟩
abbrev cX9_frees : ByteArray := prog_11_method_32_code
def yX9_frees : MethodName := ⟨RX9, "frees", "(I)I"⟩
abbrev cX9_rescues : ByteArray := prog_11_method_33_code
def yX9_rescues : MethodName := ⟨RX9, "rescues", "(I)I"⟩
abbrev cX9_ranked : ByteArray := prog_11_method_34_code
def yX9_ranked : MethodName := ⟨RX9, "ranked", "(I)I"⟩
abbrev cX9_acts : ByteArray := prog_11_method_35_code
def yX9_acts : MethodName := ⟨RX9, "acts", "(I)Z"⟩
abbrev cX9_oneTick : ByteArray := prog_11_method_36_code
def yX9_oneTick : MethodName := ⟨RX9, "oneTick", "()I"⟩
abbrev cX9_passes : ByteArray := prog_11_method_37_code
def yX9_passes : MethodName := ⟨RX9, "passes", "(I)I"⟩
abbrev cX9_addBlock : ByteArray := prog_11_method_38_code
def yX9_addBlock : MethodName := ⟨RX9, "addBlock", "(I)I"⟩
abbrev cX9_addCushion : ByteArray := prog_11_method_39_code
def yX9_addCushion : MethodName := ⟨RX9, "addCushion", "(I)I"⟩
abbrev cX9_link : ByteArray := prog_11_method_40_code
def yX9_link : MethodName := ⟨RX9, "link", "(II)I"⟩
abbrev cX9_unlink : ByteArray := prog_11_method_41_code
def yX9_unlink : MethodName := ⟨RX9, "unlink", "(II)I"⟩
abbrev cX9_putCat : ByteArray := prog_11_method_42_code
def yX9_putCat : MethodName := ⟨RX9, "putCat", "(I)I"⟩
abbrev cX9_removeCat : ByteArray := prog_11_method_43_code
def yX9_removeCat : MethodName := ⟨RX9, "removeCat", "(I)I"⟩
abbrev cX9_blockCount : ByteArray := prog_11_method_44_code
def yX9_blockCount : MethodName := ⟨RX9, "blockCount", "()I"⟩
abbrev cX9_askedBlock : ByteArray := prog_11_method_45_code
def yX9_askedBlock : MethodName := ⟨RX9, "askedBlock", "(II)I"⟩
abbrev cX9_length : ByteArray := prog_11_method_46_code
def yX9_length : MethodName := ⟨RX9, "length", "(I)I"⟩
abbrev cX9_isCushion : ByteArray := prog_11_method_47_code
def yX9_isCushion : MethodName := ⟨RX9, "isCushion", "(I)Z"⟩
abbrev cX9_hasCat : ByteArray := prog_11_method_48_code
def yX9_hasCat : MethodName := ⟨RX9, "hasCat", "(I)Z"⟩
abbrev cX9_areLinked : ByteArray := prog_11_method_49_code
def yX9_areLinked : MethodName := ⟨RX9, "areLinked", "(II)Z"⟩
abbrev cX9_degree : ByteArray := prog_11_method_50_code
def yX9_degree : MethodName := ⟨RX9, "degree", "(I)I"⟩
abbrev cX9_trainIn : ByteArray := prog_11_method_51_code
def yX9_trainIn : MethodName := ⟨RX9, "trainIn", "(I)I"⟩
abbrev cX9_reservedBy : ByteArray := prog_11_method_52_code
def yX9_reservedBy : MethodName := ⟨RX9, "reservedBy", "(I)I"⟩
abbrev cX9_sign : ByteArray := prog_11_method_53_code
def yX9_sign : MethodName := ⟨RX9, "sign", "(I)I"⟩
abbrev cX9_signal : ByteArray := prog_11_method_54_code
def yX9_signal : MethodName := ⟨RX9, "signal", "(I)C"⟩
abbrev cX9_distance : ByteArray := prog_11_method_55_code
def yX9_distance : MethodName := ⟨RX9, "distance", "(II)I"⟩
abbrev cX9_distanceByRounds : ByteArray := prog_11_method_56_code
def yX9_distanceByRounds : MethodName := ⟨RX9, "distanceByRounds", "(II)I"⟩
abbrev cX9_nextBlock : ByteArray := prog_11_method_57_code
def yX9_nextBlock : MethodName := ⟨RX9, "nextBlock", "(I)I"⟩
abbrev cX9_partCount : ByteArray := prog_11_method_58_code
def yX9_partCount : MethodName := ⟨RX9, "partCount", "()I"⟩
abbrev cX9_partCountByUnions : ByteArray := prog_11_method_59_code
def yX9_partCountByUnions : MethodName := ⟨RX9, "partCountByUnions", "()I"⟩
abbrev cX9_nearestCushion : ByteArray := prog_11_method_60_code
def yX9_nearestCushion : MethodName := ⟨RX9, "nearestCushion", "(I)I"⟩
abbrev cX9_addTrain : ByteArray := prog_11_method_61_code
def yX9_addTrain : MethodName := ⟨RX9, "addTrain", "(II)I"⟩
abbrev cX9_setGoal : ByteArray := prog_11_method_62_code
def yX9_setGoal : MethodName := ⟨RX9, "setGoal", "(II)I"⟩
abbrev cX9_clearGoal : ByteArray := prog_11_method_63_code
def yX9_clearGoal : MethodName := ⟨RX9, "clearGoal", "(I)I"⟩
abbrev cX9_reserve : ByteArray := prog_11_method_64_code
def yX9_reserve : MethodName := ⟨RX9, "reserve", "(II)I"⟩
abbrev cX9_cancelReservation : ByteArray := prog_11_method_65_code
def yX9_cancelReservation : MethodName := ⟨RX9, "cancelReservation", "(I)I"⟩
abbrev cX9_rescue : ByteArray := prog_11_method_66_code
def yX9_rescue : MethodName := ⟨RX9, "rescue", "(I)I"⟩
abbrev cX9_trainCount : ByteArray := prog_11_method_67_code
def yX9_trainCount : MethodName := ⟨RX9, "trainCount", "()I"⟩
abbrev cX9_asked : ByteArray := prog_11_method_68_code
def yX9_asked : MethodName := ⟨RX9, "asked", "(II)I"⟩
abbrev cX9_blockOf : ByteArray := prog_11_method_69_code
def yX9_blockOf : MethodName := ⟨RX9, "blockOf", "(I)I"⟩
abbrev cX9_priority : ByteArray := prog_11_method_70_code
def yX9_priority : MethodName := ⟨RX9, "priority", "(I)I"⟩
abbrev cX9_remainingTicks : ByteArray := prog_11_method_71_code
def yX9_remainingTicks : MethodName := ⟨RX9, "remainingTicks", "(I)I"⟩
abbrev cX9_goal : ByteArray := prog_11_method_72_code
def yX9_goal : MethodName := ⟨RX9, "goal", "(I)I"⟩
abbrev cX9_isDerailed : ByteArray := prog_11_method_73_code
def yX9_isDerailed : MethodName := ⟨RX9, "isDerailed", "(I)Z"⟩
abbrev cX9_waits : ByteArray := prog_11_method_74_code
def yX9_waits : MethodName := ⟨RX9, "waits", "(I)I"⟩
abbrev cX9_trainByPriority : ByteArray := prog_11_method_75_code
def yX9_trainByPriority : MethodName := ⟨RX9, "trainByPriority", "(I)I"⟩
abbrev cX9_blocker : ByteArray := prog_11_method_76_code
def yX9_blocker : MethodName := ⟨RX9, "blocker", "(I)I"⟩
abbrev cX9_blockedBy : ByteArray := prog_11_method_77_code
def yX9_blockedBy : MethodName := ⟨RX9, "blockedBy", "(I)I"⟩
abbrev cX9_deadlocked : ByteArray := prog_11_method_78_code
def yX9_deadlocked : MethodName := ⟨RX9, "deadlocked", "()I"⟩
abbrev cX9_deadlockedByTable : ByteArray := prog_11_method_79_code
def yX9_deadlockedByTable : MethodName := ⟨RX9, "deadlockedByTable", "()I"⟩
abbrev cX9_passTicks : ByteArray := prog_11_method_80_code
def yX9_passTicks : MethodName := ⟨RX9, "passTicks", "(I)I"⟩
abbrev cX9_ticks : ByteArray := prog_11_method_81_code
def yX9_ticks : MethodName := ⟨RX9, "ticks", "()I"⟩
abbrev cX9_arrivals : ByteArray := prog_11_method_82_code
def yX9_arrivals : MethodName := ⟨RX9, "arrivals", "()I"⟩
abbrev cX9_ticksUntilArrival : ByteArray := prog_11_method_83_code
def yX9_ticksUntilArrival : MethodName := ⟨RX9, "ticksUntilArrival", "(I)I"⟩
abbrev cX9_meanWaits : ByteArray := prog_11_method_84_code
def yX9_meanWaits : MethodName := ⟨RX9, "meanWaits", "()D"⟩
abbrev cX9_occupiedFraction : ByteArray := prog_11_method_85_code
def yX9_occupiedFraction : MethodName := ⟨RX9, "occupiedFraction", "()F"⟩
abbrev cX9_writes : ByteArray := prog_11_method_86_code
def yX9_writes : MethodName := ⟨RX9, "writes", "(I)V"⟩
abbrev cX9_writesNumber : ByteArray := prog_11_method_87_code
def yX9_writesNumber : MethodName := ⟨RX9, "writesNumber", "(I)V"⟩
abbrev cX9_writeTrain : ByteArray := prog_11_method_88_code
def yX9_writeTrain : MethodName := ⟨RX9, "writeTrain", "(I)I"⟩
abbrev cX9_writeSignals : ByteArray := prog_11_method_89_code
def yX9_writeSignals : MethodName := ⟨RX9, "writeSignals", "()I"⟩
abbrev cX9_outputCharacter : ByteArray := prog_11_method_90_code
def yX9_outputCharacter : MethodName := ⟨RX9, "outputCharacter", "(I)C"⟩
abbrev cX9_isConsistent : ByteArray := prog_11_method_91_code
def yX9_isConsistent : MethodName := ⟨RX9, "isConsistent", "()Z"⟩
abbrev cX9_feed : ByteArray := prog_11_method_92_code
def yX9_feed : MethodName := ⟨RX9, "feed", "(C)I"⟩
abbrev cX9_here : ByteArray := prog_11_method_93_code
def yX9_here : MethodName := ⟨RX9, "here", "(I)I"⟩
abbrev cX9_says : ByteArray := prog_11_method_94_code
def yX9_says : MethodName := ⟨RX9, "says", "(Ljava/lang/String;)V"⟩
abbrev cX9_number : ByteArray := prog_11_method_95_code
def yX9_number : MethodName := ⟨RX9, "number", "(II)V"⟩
abbrev cX9_one : ByteArray := prog_11_method_96_code
def yX9_one : MethodName := ⟨RX9, "one", "(ILjava/lang/String;I)V"⟩
abbrev cX9_two : ByteArray := prog_11_method_97_code
def yX9_two : MethodName := ⟨RX9, "two", "(ILjava/lang/String;ILjava/lang/String;I)V"⟩
abbrev cX9_readsOne : ByteArray := prog_11_method_98_code
def yX9_readsOne : MethodName := ⟨RX9, "readsOne", "()V"⟩
abbrev cX9_does : ByteArray := prog_11_method_99_code
def yX9_does : MethodName := ⟨RX9, "does", "(I)I"⟩
abbrev cX9_execute : ByteArray := prog_11_method_100_code
def yX9_execute : MethodName := ⟨RX9, "execute", "()I"⟩
abbrev cX9_errorPosition : ByteArray := prog_11_method_101_code
def yX9_errorPosition : MethodName := ⟨RX9, "errorPosition", "()I"⟩
abbrev cX9_failedCommand : ByteArray := prog_11_method_102_code
def yX9_failedCommand : MethodName := ⟨RX9, "failedCommand", "()I"⟩
abbrev cX9_undo : ByteArray := prog_11_method_103_code
def yX9_undo : MethodName := ⟨RX9, "undo", "()I"⟩
abbrev cX9_undoCount : ByteArray := prog_11_method_104_code
def yX9_undoCount : MethodName := ⟨RX9, "undoCount", "()I"⟩
abbrev cX9_save : ByteArray := prog_11_method_105_code
def yX9_save : MethodName := ⟨RX9, "save", "()I"⟩
abbrev cX9_restore : ByteArray := prog_11_method_106_code
def yX9_restore : MethodName := ⟨RX9, "restore", "()I"⟩
def RJx145de : String := "java/io/Serializable"
def TJx145de : u_T := fun k => match k with
  | _ => ("", "", "", false)
def tyJx145de : Nat → FieldType := fun k => match k with
  | _ => .int
abbrev wsJx145de0 : List Cond := u_ws RJx145de TJx145de 0
theorem nmJx145de : ∀ a, a < 0 → ∀ b, b < 0 → a ≠ b → (TJx145de a).2.1 ≠ (TJx145de b).2.1 := by decide +kernel
theorem tyJx145de_ok : ∀ k, k < 0 → parseFieldDescriptor (TJx145de k).2.2.1 = some (tyJx145de k) := by decide +kernel
def RJx00060 : String := "java/lang/ArrayIndexOutOfBoundsException"
def TJx00060 : u_T := fun k => match k with
  | 0 => ("java/lang/Throwable", "backtrace", "Ljava/lang/Object;", false)
  | 1 => ("java/lang/Throwable", "detailMessage", "Ljava/lang/String;", false)
  | 2 => ("java/lang/Throwable", "cause", "Ljava/lang/Throwable;", false)
  | 3 => ("java/lang/Throwable", "stackTrace", "[Ljava/lang/StackTraceElement;", false)
  | 4 => ("java/lang/Throwable", "depth", "I", false)
  | _ => ("java/lang/Throwable", "suppressedExceptions", "Ljava/util/List;", false)
def tyJx00060 : Nat → FieldType := fun k => match k with
  | 0 => .object "java/lang/Object"
  | 1 => .object "java/lang/String"
  | 2 => .object "java/lang/Throwable"
  | 3 => .array (.object "java/lang/StackTraceElement")
  | 4 => .int
  | _ => .object "java/util/List"
abbrev wsJx000600 : List Cond := u_ws RJx00060 TJx00060 6
theorem nmJx00060 : ∀ a, a < 6 → ∀ b, b < 6 → a ≠ b → (TJx00060 a).2.1 ≠ (TJx00060 b).2.1 := by decide +kernel
theorem tyJx00060_ok : ∀ k, k < 6 → parseFieldDescriptor (TJx00060 k).2.2.1 = some (tyJx00060 k) := by decide +kernel
abbrev cJx00060_init_a7421 : ByteArray := prog_14_method_2_code
def yJx00060_init_a7421 : MethodName := ⟨RJx00060, "<init>", "(Ljava/lang/String;)V"⟩
def RJx9f9b0 : String := "java/lang/CharSequence"
def TJx9f9b0 : u_T := fun k => match k with
  | _ => ("", "", "", false)
def tyJx9f9b0 : Nat → FieldType := fun k => match k with
  | _ => .int
abbrev wsJx9f9b00 : List Cond := u_ws RJx9f9b0 TJx9f9b0 0
theorem nmJx9f9b0 : ∀ a, a < 0 → ∀ b, b < 0 → a ≠ b → (TJx9f9b0 a).2.1 ≠ (TJx9f9b0 b).2.1 := by decide +kernel
theorem tyJx9f9b0_ok : ∀ k, k < 0 → parseFieldDescriptor (TJx9f9b0 k).2.2.1 = some (tyJx9f9b0 k) := by decide +kernel
def RJxb160c : String := "java/lang/Comparable"
def TJxb160c : u_T := fun k => match k with
  | _ => ("", "", "", false)
def tyJxb160c : Nat → FieldType := fun k => match k with
  | _ => .int
abbrev wsJxb160c0 : List Cond := u_ws RJxb160c TJxb160c 0
theorem nmJxb160c : ∀ a, a < 0 → ∀ b, b < 0 → a ≠ b → (TJxb160c a).2.1 ≠ (TJxb160c b).2.1 := by decide +kernel
theorem tyJxb160c_ok : ∀ k, k < 0 → parseFieldDescriptor (TJxb160c k).2.2.1 = some (tyJxb160c k) := by decide +kernel
def RJx29ce0 : String := "java/lang/Enum"
def TJx29ce0 : u_T := fun k => match k with
  | _ => ("", "", "", false)
def tyJx29ce0 : Nat → FieldType := fun k => match k with
  | _ => .int
abbrev wsJx29ce00 : List Cond := u_ws RJx29ce0 TJx29ce0 0
theorem nmJx29ce0 : ∀ a, a < 0 → ∀ b, b < 0 → a ≠ b → (TJx29ce0 a).2.1 ≠ (TJx29ce0 b).2.1 := by decide +kernel
theorem tyJx29ce0_ok : ∀ k, k < 0 → parseFieldDescriptor (TJx29ce0 k).2.2.1 = some (tyJx29ce0 k) := by decide +kernel
abbrev cJx29ce0_ordinal_8abf5 : ByteArray := prog_17_method_2_code
def yJx29ce0_ordinal_8abf5 : MethodName := ⟨RJx29ce0, "ordinal", "()I"⟩
def RJ6 : String := "java/lang/Integer"
def TJ6 : u_T := fun k => match k with
  | _ => ("", "", "", false)
def tyJ6 : Nat → FieldType := fun k => match k with
  | _ => .int
abbrev wsJ60 : List Cond := u_ws RJ6 TJ6 0
theorem nmJ6 : ∀ a, a < 0 → ∀ b, b < 0 → a ≠ b → (TJ6 a).2.1 ≠ (TJ6 b).2.1 := by decide +kernel
theorem tyJ6_ok : ∀ k, k < 0 → parseFieldDescriptor (TJ6 k).2.2.1 = some (tyJ6 k) := by decide +kernel
abbrev cJ6_bitCount_0f7a4 : ByteArray := prog_22_method_49_code
def yJ6_bitCount_0f7a4 : MethodName := ⟨RJ6, "bitCount", "(I)I"⟩
def RJ9 : String := "java/lang/Math"
def TJ9 : u_T := fun k => match k with
  | _ => ("", "", "", false)
def tyJ9 : Nat → FieldType := fun k => match k with
  | _ => .int
abbrev wsJ90 : List Cond := u_ws RJ9 TJ9 0
theorem nmJ9 : ∀ a, a < 0 → ∀ b, b < 0 → a ≠ b → (TJ9 a).2.1 ≠ (TJ9 b).2.1 := by decide +kernel
theorem tyJ9_ok : ∀ k, k < 0 → parseFieldDescriptor (TJ9 k).2.2.1 = some (tyJ9 k) := by decide +kernel
abbrev cJ9_max_7cf53 : ByteArray := prog_23_method_65_code
def yJ9_max_7cf53 : MethodName := ⟨RJ9, "max", "(II)I"⟩
abbrev cJ9_min_7cf53 : ByteArray := prog_23_method_69_code
def yJ9_min_7cf53 : MethodName := ⟨RJ9, "min", "(II)I"⟩
def RJ0 : String := "java/lang/String"
def TJ0 : u_T := fun k => match k with
  | 0 => ("java/lang/String", "value", "[B", true)
  | _ => ("java/lang/String", "coder", "B", true)
def tyJ0 : Nat → FieldType := fun k => match k with
  | 0 => .array .byte
  | _ => .byte
abbrev wsJ00 : List Cond := u_ws RJ0 TJ0 2
theorem nmJ0 : ∀ a, a < 2 → ∀ b, b < 2 → a ≠ b → (TJ0 a).2.1 ≠ (TJ0 b).2.1 := by decide +kernel
theorem tyJ0_ok : ∀ k, k < 2 → parseFieldDescriptor (TJ0 k).2.2.1 = some (tyJ0 k) := by decide +kernel
abbrev cJ0_length_8abf5 : ByteArray := prog_25_method_54_code
def yJ0_length_8abf5 : MethodName := ⟨RJ0, "length", "()I"⟩
abbrev cJ0_charAt_5068e : ByteArray := prog_25_method_56_code
def yJ0_charAt_5068e : MethodName := ⟨RJ0, "charAt", "(I)C"⟩
abbrev cJ0_coder_7d493 : ByteArray := prog_25_method_152_code
def yJ0_coder_7d493 : MethodName := ⟨RJ0, "coder", "()B"⟩
abbrev cJ0_isLatin1_aae02 : ByteArray := prog_25_method_154_code
def yJ0_isLatin1_aae02 : MethodName := ⟨RJ0, "isLatin1", "()Z"⟩
abbrev cJ0_checkIndex_df160 : ByteArray := prog_25_method_155_code
def yJ0_checkIndex_df160 : MethodName := ⟨RJ0, "checkIndex", "(II)V"⟩
def RJ1 : String := "java/lang/StringLatin1"
def TJ1 : u_T := fun k => match k with
  | _ => ("", "", "", false)
def tyJ1 : Nat → FieldType := fun k => match k with
  | _ => .int
abbrev wsJ10 : List Cond := u_ws RJ1 TJ1 0
theorem nmJ1 : ∀ a, a < 0 → ∀ b, b < 0 → a ≠ b → (TJ1 a).2.1 ≠ (TJ1 b).2.1 := by decide +kernel
theorem tyJ1_ok : ∀ k, k < 0 → parseFieldDescriptor (TJ1 k).2.2.1 = some (tyJ1 k) := by decide +kernel
abbrev cJ1_charAt_3b067 : ByteArray := prog_26_method_2_code
def yJ1_charAt_3b067 : MethodName := ⟨RJ1, "charAt", "([BI)C"⟩
def RJ2 : String := "java/lang/StringUTF16"
def TJ2 : u_T := fun k => match k with
  | _ => ("", "", "", false)
def tyJ2 : Nat → FieldType := fun k => match k with
  | _ => .int
abbrev wsJ20 : List Cond := u_ws RJ2 TJ2 0
theorem nmJ2 : ∀ a, a < 0 → ∀ b, b < 0 → a ≠ b → (TJ2 a).2.1 ≠ (TJ2 b).2.1 := by decide +kernel
theorem tyJ2_ok : ∀ k, k < 0 → parseFieldDescriptor (TJ2 k).2.2.1 = some (tyJ2 k) := by decide +kernel
abbrev cJ2_getChar_3b067 : ByteArray := prog_27_method_5_code
def yJ2_getChar_3b067 : MethodName := ⟨RJ2, "getChar", "([BI)C"⟩
abbrev cJ2_length_9d52b : ByteArray := prog_27_method_6_code
def yJ2_length_9d52b : MethodName := ⟨RJ2, "length", "([B)I"⟩
abbrev cJ2_charAt_3b067 : ByteArray := prog_27_method_83_code
def yJ2_charAt_3b067 : MethodName := ⟨RJ2, "charAt", "([BI)C"⟩
abbrev cJ2_checkIndex_2214a : ByteArray := prog_27_method_91_code
def yJ2_checkIndex_2214a : MethodName := ⟨RJ2, "checkIndex", "(I[B)V"⟩
def RJ10 : String := "java/lang/System"
def TJ10 : u_T := fun k => match k with
  | _ => ("", "", "", false)
def tyJ10 : Nat → FieldType := fun k => match k with
  | _ => .int
abbrev wsJ100 : List Cond := u_ws RJ10 TJ10 0
theorem nmJ10 : ∀ a, a < 0 → ∀ b, b < 0 → a ≠ b → (TJ10 a).2.1 ≠ (TJ10 b).2.1 := by decide +kernel
theorem tyJ10_ok : ∀ k, k < 0 → parseFieldDescriptor (TJ10 k).2.2.1 = some (tyJ10 k) := by decide +kernel
def RJxfd54e : String := "java/lang/constant/Constable"
def TJxfd54e : u_T := fun k => match k with
  | _ => ("", "", "", false)
def tyJxfd54e : Nat → FieldType := fun k => match k with
  | _ => .int
abbrev wsJxfd54e0 : List Cond := u_ws RJxfd54e TJxfd54e 0
theorem nmJxfd54e : ∀ a, a < 0 → ∀ b, b < 0 → a ≠ b → (TJxfd54e a).2.1 ≠ (TJxfd54e b).2.1 := by decide +kernel
theorem tyJxfd54e_ok : ∀ k, k < 0 → parseFieldDescriptor (TJxfd54e k).2.2.1 = some (tyJxfd54e k) := by decide +kernel
def RJx3cf43 : String := "java/lang/constant/ConstantDesc"
def TJx3cf43 : u_T := fun k => match k with
  | _ => ("", "", "", false)
def tyJx3cf43 : Nat → FieldType := fun k => match k with
  | _ => .int
abbrev wsJx3cf430 : List Cond := u_ws RJx3cf43 TJx3cf43 0
theorem nmJx3cf43 : ∀ a, a < 0 → ∀ b, b < 0 → a ≠ b → (TJx3cf43 a).2.1 ≠ (TJx3cf43 b).2.1 := by decide +kernel
theorem tyJx3cf43_ok : ∀ k, k < 0 → parseFieldDescriptor (TJx3cf43 k).2.2.1 = some (tyJx3cf43 k) := by decide +kernel
def RJ3 : String := "jdk/internal/util/Preconditions"
def TJ3 : u_T := fun k => match k with
  | _ => ("", "", "", false)
def tyJ3 : Nat → FieldType := fun k => match k with
  | _ => .int
abbrev wsJ30 : List Cond := u_ws RJ3 TJ3 0
theorem nmJ3 : ∀ a, a < 0 → ∀ b, b < 0 → a ≠ b → (TJ3 a).2.1 ≠ (TJ3 b).2.1 := by decide +kernel
theorem tyJ3_ok : ∀ k, k < 0 → parseFieldDescriptor (TJ3 k).2.2.1 = some (tyJ3 k) := by decide +kernel
abbrev cJ3_checkIndex_8e157 : ByteArray := prog_34_method_11_code
def yJ3_checkIndex_8e157 : MethodName := ⟨RJ3, "checkIndex", "(IILjava/util/function/BiFunction;)I"⟩
def RL : String := "SofaRailwayLaw"
abbrev cL_addBlock : ByteArray := method_3_code
def yL_addBlock : MethodName := ⟨RL, "addBlock", "(LSofaRailway;I[J)I"⟩
abbrev cL_addCushion : ByteArray := method_4_code
def yL_addCushion : MethodName := ⟨RL, "addCushion", "(LSofaRailway;I[J)I"⟩
abbrev cL_link : ByteArray := method_5_code
def yL_link : MethodName := ⟨RL, "link", "(LSofaRailway;II[J)I"⟩
abbrev cL_unlink : ByteArray := method_6_code
def yL_unlink : MethodName := ⟨RL, "unlink", "(LSofaRailway;II[J)I"⟩
abbrev cL_putCat : ByteArray := method_7_code
def yL_putCat : MethodName := ⟨RL, "putCat", "(LSofaRailway;I[J)I"⟩
abbrev cL_removeCat : ByteArray := method_8_code
def yL_removeCat : MethodName := ⟨RL, "removeCat", "(LSofaRailway;I[J)I"⟩
abbrev cL_length : ByteArray := method_9_code
def yL_length : MethodName := ⟨RL, "length", "(LSofaRailway;I[J)I"⟩
abbrev cL_isCushion : ByteArray := method_10_code
def yL_isCushion : MethodName := ⟨RL, "isCushion", "(LSofaRailway;I[J)I"⟩
abbrev cL_hasCat : ByteArray := method_11_code
def yL_hasCat : MethodName := ⟨RL, "hasCat", "(LSofaRailway;I[J)I"⟩
abbrev cL_areLinked : ByteArray := method_12_code
def yL_areLinked : MethodName := ⟨RL, "areLinked", "(LSofaRailway;II[J)I"⟩
abbrev cL_degree : ByteArray := method_13_code
def yL_degree : MethodName := ⟨RL, "degree", "(LSofaRailway;I[J)I"⟩
abbrev cL_trainIn : ByteArray := method_14_code
def yL_trainIn : MethodName := ⟨RL, "trainIn", "(LSofaRailway;I[J)I"⟩
abbrev cL_reservedBy : ByteArray := method_15_code
def yL_reservedBy : MethodName := ⟨RL, "reservedBy", "(LSofaRailway;I[J)I"⟩
abbrev cL_signal : ByteArray := method_16_code
def yL_signal : MethodName := ⟨RL, "signal", "(LSofaRailway;I[J)I"⟩
abbrev cL_distance : ByteArray := method_17_code
def yL_distance : MethodName := ⟨RL, "distance", "(LSofaRailway;II[J)I"⟩
abbrev cL_distanceByRounds : ByteArray := method_18_code
def yL_distanceByRounds : MethodName := ⟨RL, "distanceByRounds", "(LSofaRailway;II[J)I"⟩
abbrev cL_nextBlock : ByteArray := method_19_code
def yL_nextBlock : MethodName := ⟨RL, "nextBlock", "(LSofaRailway;I[J)I"⟩
abbrev cL_nearestCushion : ByteArray := method_20_code
def yL_nearestCushion : MethodName := ⟨RL, "nearestCushion", "(LSofaRailway;I[J)I"⟩
abbrev cL_addTrain : ByteArray := method_21_code
def yL_addTrain : MethodName := ⟨RL, "addTrain", "(LSofaRailway;II[J)I"⟩
abbrev cL_setGoal : ByteArray := method_22_code
def yL_setGoal : MethodName := ⟨RL, "setGoal", "(LSofaRailway;II[J)I"⟩
abbrev cL_clearGoal : ByteArray := method_23_code
def yL_clearGoal : MethodName := ⟨RL, "clearGoal", "(LSofaRailway;I[J)I"⟩
abbrev cL_reserve : ByteArray := method_24_code
def yL_reserve : MethodName := ⟨RL, "reserve", "(LSofaRailway;II[J)I"⟩
abbrev cL_cancelReservation : ByteArray := method_25_code
def yL_cancelReservation : MethodName := ⟨RL, "cancelReservation", "(LSofaRailway;I[J)I"⟩
abbrev cL_rescue : ByteArray := method_26_code
def yL_rescue : MethodName := ⟨RL, "rescue", "(LSofaRailway;I[J)I"⟩
abbrev cL_blockOf : ByteArray := method_27_code
def yL_blockOf : MethodName := ⟨RL, "blockOf", "(LSofaRailway;I[J)I"⟩
abbrev cL_priority : ByteArray := method_28_code
def yL_priority : MethodName := ⟨RL, "priority", "(LSofaRailway;I[J)I"⟩
abbrev cL_remainingTicks : ByteArray := method_29_code
def yL_remainingTicks : MethodName := ⟨RL, "remainingTicks", "(LSofaRailway;I[J)I"⟩
abbrev cL_goal : ByteArray := method_30_code
def yL_goal : MethodName := ⟨RL, "goal", "(LSofaRailway;I[J)I"⟩
abbrev cL_isDerailed : ByteArray := method_31_code
def yL_isDerailed : MethodName := ⟨RL, "isDerailed", "(LSofaRailway;I[J)I"⟩
abbrev cL_waits : ByteArray := method_32_code
def yL_waits : MethodName := ⟨RL, "waits", "(LSofaRailway;I[J)I"⟩
abbrev cL_trainByPriority : ByteArray := method_33_code
def yL_trainByPriority : MethodName := ⟨RL, "trainByPriority", "(LSofaRailway;I[J)I"⟩
abbrev cL_blockedBy : ByteArray := method_34_code
def yL_blockedBy : MethodName := ⟨RL, "blockedBy", "(LSofaRailway;I[J)I"⟩
abbrev cL_passTicks : ByteArray := method_35_code
def yL_passTicks : MethodName := ⟨RL, "passTicks", "(LSofaRailway;I[J)I"⟩
abbrev cL_ticksUntilArrival : ByteArray := method_36_code
def yL_ticksUntilArrival : MethodName := ⟨RL, "ticksUntilArrival", "(LSofaRailway;I[J)I"⟩
abbrev cL_meanWaits : ByteArray := method_37_code
def yL_meanWaits : MethodName := ⟨RL, "meanWaits", "(LSofaRailway;[D)I"⟩
abbrev cL_occupiedFraction : ByteArray := method_38_code
def yL_occupiedFraction : MethodName := ⟨RL, "occupiedFraction", "(LSofaRailway;[D)I"⟩
abbrev cL_writeTrain : ByteArray := method_39_code
def yL_writeTrain : MethodName := ⟨RL, "writeTrain", "(LSofaRailway;I[J)I"⟩
abbrev cL_outputCharacter : ByteArray := method_40_code
def yL_outputCharacter : MethodName := ⟨RL, "outputCharacter", "(LSofaRailway;I[J)I"⟩
abbrev cL_feed : ByteArray := method_41_code
def yL_feed : MethodName := ⟨RL, "feed", "(LSofaRailway;C[J)I"⟩
abbrev cL_execute : ByteArray := method_42_code
def yL_execute : MethodName := ⟨RL, "execute", "(LSofaRailway;[J)I"⟩
abbrev cL_errorPosition : ByteArray := method_43_code
def yL_errorPosition : MethodName := ⟨RL, "errorPosition", "(LSofaRailway;[J)I"⟩
abbrev cL_failedCommand : ByteArray := method_44_code
def yL_failedCommand : MethodName := ⟨RL, "failedCommand", "(LSofaRailway;[J)I"⟩
abbrev cL_undo : ByteArray := method_45_code
def yL_undo : MethodName := ⟨RL, "undo", "(LSofaRailway;[J)I"⟩
abbrev cL_restore : ByteArray := method_46_code
def yL_restore : MethodName := ⟨RL, "restore", "(LSofaRailway;[J)I"⟩
abbrev cL_law : ByteArray := code
def yL_law : MethodName := ⟨RL, "law", "([I)Z"⟩
abbrev vwCl : List vw_C := [(RJ0, TJ0, 2), (RJx00060, TJx00060, 6), (RX2, TX2, 7), (RX3, TX3, 3), (RX4, TX4, 15), (RX5, TX5, 2), (RX6, TX6, 3), (RX7, TX7, 3), (RX8, TX8, 11), (RX9, TX9, 22)]
/-! ===== END printed: names ===== -/
end
section
/-! THE LOGIC. A judgement J over a world of cells that bear numbers (refs below 100 are the old heap's constants, the others are the cells that the run makes, in the order of their making); it hides the machine. One rule an instruction; MC is a method's contract. -/
section JLOGIC
def AL : List Cond := lw_tbl.filter goodWord
theorem AL_in {w : Cond} (h : w ∈ lw_tbl) (g : goodWord w = true) : w ∈ AL := List.mem_filter.mpr ⟨h, g⟩
theorem AL_tbl {w : Cond} (h : w ∈ AL) : w ∈ lw_tbl := (List.mem_filter.mp h).1
theorem AL_good {w : Cond} (h : w ∈ AL) : goodWord w = true := (List.mem_filter.mp h).2
theorem AL_goodIn {ws : List Cond} (h : ∀ w ∈ ws, w ∈ AL) : GoodIn AL ws := fun w hw => ⟨h w hw, good_of_word (AL_good (h w hw))⟩
abbrev Ce : Type := (Nat × vp_A) ⊕ (Nat × List Value)
abbrev Wd : Type := (Nat → Ce) × Nat × Bool
abbrev MI : Type := MethodName × ByteArray × Nat × Option FieldType × List (Nat × Nat × Nat × Nat)
abbrev Po : Type := (Option Value ⊕ String) → Wd → Prop
def adr (sa : Nat → Nat) (z r : Nat) : Nat := if r < 100 then sa r else z + (r - 100)
def mv (sa : Nat → Nat) (z : Nat) : Value → Value
  | .ref r => .ref (adr sa z r)
  | .int x => .int x
  | .long x => .long x
  | .float x => .float x
  | .double x => .double x
  | .null => .null
  | .retAddr x => .retAddr x
theorem mv_cat (sa : Nat → Nat) (z : Nat) (v : Value) : (mv sa z v).category = v.category := by cases v <;> rfl
theorem mv_cats (sa : Nat → Nat) (z : Nat) (st : List Value) : ((st.map (mv sa z)).map fun v => v.category).sum = (st.map fun v => v.category).sum := by
  rw [List.map_map]
  congr 1
  apply List.map_congr_left
  intro v _
  exact mv_cat sa z v
def trA (sa : Nat → Nat) (z : Nat) : vp_A → vp_A
  | (n, .inl f) => (n, .inl f)
  | (n, .inr (.inl f)) => (n, .inr (.inl f))
  | (n, .inr (.inr (.inl f))) => (n, .inr (.inr (.inl f)))
  | (n, .inr (.inr (.inr (.inl f)))) => (n, .inr (.inr (.inr (.inl f))))
  | (n, .inr (.inr (.inr (.inr f)))) => (n, .inr (.inr (.inr (.inr fun j => (f j).map (adr sa z)))))
def tr (sa : Nat → Nat) (z : Nat) (dA : Nat → ClassId) : Ce → va_E
  | .inl (t, a) => .inl (dA t, trA sa z a)
  | .inr (c, fs) => .inr (c, fs.map (mv sa z))
def dead : Ce := .inr (9999, [])
def eT : Nat → FieldType
  | 0 => .int
  | 1 => .char
  | 2 => .long
  | 3 => .double
  | _ => .object RX4
def tyL (dA : Nat → ClassId) : List (ClassId × FieldType) := [(dA 0, .int), (dA 1, .char), (dA 2, .long), (dA 3, .double), (dA 4, .object RX4)]
/-- the world w, of cells from z on, lies in the heap H; the third component says that the heap's end is the world's -/
def Rel (D : va_G) (dA : Nat → ClassId) (sa : Nat → Nat) (z : Nat) (w : Wd) (H : Heap) : Prop :=
  (w.2.2 = true → H.size = z + w.2.1) ∧ ∀ a : Nat, w.1 a = dead ∨ (100 ≤ a ∧ a < 100 + w.2.1 ∧ va_at D vwCl (adr sa z a, tr sa z dA (w.1 a)) H)
theorem adr_ge {sa : Nat → Nat} {z a : Nat} (h : 100 ≤ a) : adr sa z a = z + (a - 100) := by
  unfold adr
  rw [if_neg (by omega)]
theorem Rel.at {D : va_G} {dA : Nat → ClassId} {sa : Nat → Nat} {z : Nat} {w : Wd} {H : Heap} (h : Rel D dA sa z w H) {a : Nat} {x : Ce} (hx : w.1 a = x) (hd : x ≠ dead) : 100 ≤ a ∧ a < 100 + w.2.1 ∧ va_at D vwCl (adr sa z a, tr sa z dA x) H := by
  rcases h.2 a with e | e
  · exact absurd (hx.symm.trans e) hd
  · rw [hx] at e; exact e
theorem adr_inj {sa : Nat → Nat} {z a b : Nat} (ha : 100 ≤ a) (hb : 100 ≤ b) (h : adr sa z a = adr sa z b) : a = b := by
  rw [adr_ge ha, adr_ge hb] at h
  omega
def upW (w : Wd) (a : Nat) (x : Ce) : Wd := (fun b => if b = a then x else w.1 b, w.2)
/-- a cell that is there is written -/
theorem Rel.set {D : va_G} {dA : Nat → ClassId} {sa : Nat → Nat} {z : Nat} {w : Wd} {H H1 : Heap} (h : Rel D dA sa z w H) {a : Nat} {x x' : Ce} (hx : w.1 a = x) (hd : x ≠ dead) (hz : H1.size = H.size) (ho : ∀ q : Nat, q ≠ adr sa z a → H1[q]? = H[q]?) (he : va_at D vwCl (adr sa z a, tr sa z dA x') H1) : Rel D dA sa z (upW w a x') H1 := by
  obtain ⟨g1, g2, g3⟩ := Rel.at h hx hd
  obtain ⟨h2, h3⟩ := h
  refine ⟨fun e => by rw [hz]; exact h2 e, fun b => ?_⟩
  by_cases hb : b = a
  · subst hb
    refine Or.inr ⟨g1, g2, ?_⟩
    show va_at D vwCl (_, tr sa z dA (if b = b then x' else w.1 b)) H1
    rw [if_pos rfl]
    exact he
  · show (if b = a then x' else w.1 b) = dead ∨ _
    rw [if_neg hb]
    rcases h3 b with e | ⟨e1, e2, e3⟩
    · exact Or.inl e
    · refine Or.inr ⟨e1, e2, ?_⟩
      show va_at D vwCl (_, tr sa z dA (if b = a then x' else w.1 b)) H1
      rw [if_neg hb]
      exact e3.kept (ho _ (fun q => hb (adr_inj e1 g1 q)))
def nwW (w : Wd) (x : Ce) : Wd := (fun b => if b = 100 + w.2.1 then x else w.1 b, w.2.1 + 1, true)
/-- a cell is made -/
theorem Rel.new {D : va_G} {dA : Nat → ClassId} {sa : Nat → Nat} {z : Nat} {w : Wd} {H H1 : Heap} (h : Rel D dA sa z w H) (hf : w.2.2 = true) {x : Ce} (hz : H1.size = H.size + 1) (ho : ∀ q : Nat, q < H.size → H1[q]? = H[q]?) (he : va_at D vwCl (H.size, tr sa z dA x) H1) : Rel D dA sa z (nwW w x) H1 := by
  obtain ⟨E, n, f⟩ := w
  obtain ⟨h2, h3⟩ := h
  have h2 : H.size = z + n := h2 hf
  refine ⟨fun _ => by show H1.size = z + (n + 1); omega, fun b => ?_⟩
  by_cases hb : b = 100 + n
  · subst hb
    refine Or.inr ⟨by omega, by show _ < 100 + (n + 1); omega, ?_⟩
    show va_at D vwCl (_, tr sa z dA (if 100 + n = 100 + n then x else E _)) H1
    rw [if_pos rfl, adr_ge (by omega), show z + (100 + n - 100) = H.size by omega]
    exact he
  · show (if b = 100 + n then x else E b) = dead ∨ _
    rw [if_neg hb]
    rcases h3 b with e | ⟨e1, e2, e3⟩
    · exact Or.inl e
    · have e2 : b < 100 + n := e2
      refine Or.inr ⟨e1, by show b < 100 + (n + 1); omega, ?_⟩
      show va_at D vwCl (_, tr sa z dA (if b = 100 + n then x else E b)) H1
      rw [if_neg hb]
      exact e3.kept (ho _ e3.lt)
def stW (w : Wd) : Wd := (w.1, w.2.1, false)
/-- the heap grew, by things that have no number -/
theorem Rel.grown {D : va_G} {dA : Nat → ClassId} {sa : Nat → Nat} {z : Nat} {w : Wd} {H H1 : Heap} (h : Rel D dA sa z w H) (ho : ∀ q : Nat, q < H.size → H1[q]? = H[q]?) : Rel D dA sa z (stW w) H1 := by
  obtain ⟨h2, h3⟩ := h
  refine ⟨fun e => (by cases e), fun b => ?_⟩
  rcases h3 b with e | ⟨e1, e2, e3⟩
  · exact Or.inl e
  · exact Or.inr ⟨e1, e2, e3.kept (ho _ e3.lt)⟩
/-! the old heap's constants: a number below 100 each. 0: COMMANDS; 1: the switch map; 10 + j: the j-th command; 20 + i: the i-th text (nine forms, then the model's words); 50 + i: its bytes; 2: the formatter, if there is one -/
def txS (i : Nat) : List Int32 := ([[98, 108, 111, 99, 107, 32, 49], [99, 117, 115, 104, 105, 111, 110, 32, 49], [108, 105, 110, 107, 32, 50, 45, 50], [116, 114, 97, 105, 110, 32, 50, 42, 49], [103, 111, 97, 108, 32, 49, 62, 50], [99, 97, 116, 32, 50], [104, 111, 108, 100, 32, 49, 64, 50], [114, 101, 115, 99, 117, 101, 32, 49], [116, 105, 99, 107, 32, 50], [98, 108, 111, 99, 107, 32], [99, 97, 116, 32], [99, 117, 115, 104, 105, 111, 110, 32], [108, 105, 110, 107, 32], [45], [116, 105, 99, 107, 32], [116, 114, 97, 105, 110, 32], [42], [103, 111, 97, 108, 32], [62], [104, 111, 108, 100, 32], [64], [114, 101, 115, 99, 117, 101, 32]] : List (List Int32)).getD i []
def nTx : Nat := 22
def SFZ : List (String × String × String × Value) := [("SofaRailway", "COMMANDS", "[LSofaRailway$Command;", .ref 0), ("SofaRailway$1", "$SwitchMap$SofaRailway$Command", "[I", .ref 1), ("SofaRailway$Command", "BLOCK", "LSofaRailway$Command;", .ref 10), ("java/lang/String", "COMPACT_STRINGS", "Z", .int 1)]
def SFT : List (FieldType × Nat × Nat × (Nat → Value)) := [(.object "SofaRailway$Command", 0, 9, fun j => .ref (10 + j)), (.int, 1, 9, fun j => .int (nI (j + 1)))] ++ (List.range nTx).map (fun i => (.byte, 50 + i, (txS i).length, fun j => .int ((txS i).getD j 0)))
def SFO : List (String × Nat) := (List.range 9).map (fun j => ("SofaRailway$Command", 10 + j)) ++ (List.range nTx).map (fun i => ("java/lang/String", 20 + i))
def SFF : List (String × String × String × Value × Nat) := (List.range 9).map (fun j => ("java/lang/Enum", "ordinal", "I", .int (nI j), 10 + j)) ++ ((List.range 9).map (fun j => ("SofaRailway$Command", "form", "Ljava/lang/String;", .ref (20 + j), 10 + j)) ++ ((List.range nTx).map (fun i => ("java/lang/String", "coder", "B", .int 0, 20 + i)) ++ (List.range nTx).map (fun i => ("java/lang/String", "value", "[B", .ref (50 + i), 20 + i))))
def SFR : List (String × Nat × String × Nat) := [("SofaRailwayModel", 239, "block ", 29), ("SofaRailwayModel", 241, "cat ", 30), ("SofaRailwayModel", 243, "cushion ", 31), ("SofaRailwayModel", 245, "link ", 32), ("SofaRailwayModel", 247, "-", 33), ("SofaRailwayModel", 253, "tick ", 34), ("SofaRailwayModel", 255, "train ", 35), ("SofaRailwayModel", 257, "*", 36), ("SofaRailwayModel", 259, "goal ", 37), ("SofaRailwayModel", 261, ">", 38), ("SofaRailwayModel", 263, "hold ", 39), ("SofaRailwayModel", 265, "@", 40), ("SofaRailwayModel", 267, "rescue ", 41)]
def SFX : List (String × Nat × String) := [("SofaRailway", 354, "there is no such block or train"), ("SofaRailway", 356, "this argument is not allowed"), ("SofaRailway", 358, "the railway is not in the state for this"), ("SofaRailway", 360, "the block does not allow this"), ("SofaRailway", 352, "there is none"), ("SofaRailway", 345, "there is no such block"), ("SofaRailway", 350, "there is no such train"), ("SofaRailway", 231, "the train has no goal"), ("SofaRailway", 244, "there are no trains"), ("SofaRailway", 251, "there are no blocks"), ("SofaRailway", 269, "there is no such character"), ("SofaRailway", 286, "the input buffer is full"), ("SofaRailway", 296, "the text is malformed"), ("SofaRailway", 325, "a command failed"), ("SofaRailway", 331, "there is nothing to undo"), ("SofaRailway", 336, "nothing was saved")]
def SFM : List (String × Nat × MethodName × String) := [("SofaRailway", 11, ⟨"SofaRailway$Layout", "<init>", "()V"⟩, "SofaRailway"), ("SofaRailway$History", 24, ⟨"SofaRailway$Layout", "<init>", "()V"⟩, "SofaRailway"), ("SofaRailway", 31, ⟨"SofaRailway$Routes", "<init>", "()V"⟩, "SofaRailway"), ("SofaRailway", 38, ⟨"SofaRailway$Traffic", "<init>", "()V"⟩, "SofaRailway"), ("SofaRailway$Traffic", 11, ⟨"SofaRailway$Routes", "<init>", "()V"⟩, "SofaRailway"), ("SofaRailway", 45, ⟨"SofaRailway$CommandReader", "<init>", "()V"⟩, "SofaRailway"), ("SofaRailway", 52, ⟨"SofaRailway$Output", "<init>", "()V"⟩, "SofaRailway"), ("SofaRailway$Routes", 37, ⟨"SofaRailway", "has", "(II)Z"⟩, "SofaRailway"), ("SofaRailway$Layout", 64, ⟨"SofaRailway", "has", "(II)Z"⟩, "SofaRailway"), ("SofaRailway$Traffic", 38, ⟨"SofaRailway", "has", "(II)Z"⟩, "SofaRailway")]
def SFG : List (String × Nat × String × String × String × String) := [("SofaRailway$CommandReader", 48, "SofaRailway", "COMMANDS", "[LSofaRailway$Command;", "SofaRailway")]
def SFC : List (String × String) := [("java/lang/IndexOutOfBoundsException", "java/lang/IllegalArgumentException"), ("java/lang/IllegalStateException", "java/lang/IllegalArgumentException"), ("java/lang/UnsupportedOperationException", "java/lang/IllegalArgumentException"), ("java/util/NoSuchElementException", "java/lang/IllegalArgumentException"), ("java/lang/ArrayIndexOutOfBoundsException", "java/lang/IllegalArgumentException"), ("java/lang/ArithmeticException", "java/lang/IllegalArgumentException"), ("java/lang/IndexOutOfBoundsException", "java/lang/IllegalStateException"), ("java/lang/IllegalArgumentException", "java/lang/IllegalStateException"), ("java/lang/UnsupportedOperationException", "java/lang/IllegalStateException"), ("java/util/NoSuchElementException", "java/lang/IllegalStateException"), ("java/lang/ArrayIndexOutOfBoundsException", "java/lang/IllegalStateException"), ("java/lang/ArithmeticException", "java/lang/IllegalStateException"), ("java/lang/IllegalArgumentException", "java/lang/IndexOutOfBoundsException"), ("java/lang/IllegalStateException", "java/lang/IndexOutOfBoundsException"), ("java/lang/UnsupportedOperationException", "java/lang/IndexOutOfBoundsException"), ("java/util/NoSuchElementException", "java/lang/IndexOutOfBoundsException"), ("java/lang/ArithmeticException", "java/lang/IndexOutOfBoundsException"), ("java/lang/IndexOutOfBoundsException", "java/util/NoSuchElementException"), ("java/lang/IllegalArgumentException", "java/util/NoSuchElementException"), ("java/lang/IllegalStateException", "java/util/NoSuchElementException"), ("java/lang/UnsupportedOperationException", "java/util/NoSuchElementException"), ("java/lang/ArrayIndexOutOfBoundsException", "java/util/NoSuchElementException"), ("java/lang/ArithmeticException", "java/util/NoSuchElementException"), ("java/lang/IndexOutOfBoundsException", "java/lang/UnsupportedOperationException"), ("java/lang/IllegalArgumentException", "java/lang/UnsupportedOperationException"), ("java/lang/IllegalStateException", "java/lang/UnsupportedOperationException"), ("java/util/NoSuchElementException", "java/lang/UnsupportedOperationException"), ("java/lang/ArrayIndexOutOfBoundsException", "java/lang/UnsupportedOperationException"), ("java/lang/ArithmeticException", "java/lang/UnsupportedOperationException"), ("java/lang/IndexOutOfBoundsException", "java/lang/ArithmeticException"), ("java/lang/IllegalArgumentException", "java/lang/ArithmeticException"), ("java/lang/IllegalStateException", "java/lang/ArithmeticException"), ("java/lang/UnsupportedOperationException", "java/lang/ArithmeticException"), ("java/util/NoSuchElementException", "java/lang/ArithmeticException"), ("java/lang/ArrayIndexOutOfBoundsException", "java/lang/ArithmeticException")]
def isDC : Cond → Bool
  | .declares _ => true
  | .castable _ _ => true
  | _ => false
theorem isDC_cases {w : Cond} (h : isDC w = true) : (∃ x, w = .declares x) ∨ ∃ a b, w = .castable a b := by
  cases w <;> first | exact Or.inl ⟨_, rfl⟩ | exact Or.inr ⟨_, _, rfl⟩ | cases h
def OL : List Cond := lw_tbl.filter isDC
theorem OL_in {w : Cond} (h : w ∈ lw_tbl) (g : isDC w = true) : w ∈ OL := List.mem_filter.mpr ⟨h, g⟩
abbrev jPre : String := "jdk/internal/util/Preconditions"
abbrev jFmt : String := "Ljava/util/function/BiFunction;"
def SF (sa : Nat → Nat) (A : Nat → Prop) (U : State) (H : Heap) : Prop :=
  (∀ q ∈ SFZ, va_Z q.1 q.2.1 q.2.2.1 (mv sa 0 q.2.2.2) A U H) ∧
  (∀ q ∈ SFT, va_T q.1 (sa q.2.1) q.2.2.1 (fun j => mv sa 0 (q.2.2.2 j)) A U H) ∧
  (∀ q ∈ SFO, va_O q.1 (sa q.2) A U H) ∧
  (∀ q ∈ SFF, va_OF q.1 q.2.1 q.2.2.1 (mv sa 0 q.2.2.2.1) (sa q.2.2.2.2) A U H) ∧
  (∀ q ∈ SFR, vk_R q.1 q.2.1 q.2.2.1 (sa q.2.2.2) U) ∧
  (∀ q ∈ SFX, ∃ a, vk_R q.1 q.2.1 q.2.2 a U) ∧
  (∀ q ∈ SFM, va_Nw (.methodLinkNest q.1 q.2.1 q.2.2.1 q.2.2.2) U) ∧
  (∀ q ∈ SFG, va_Nw (.fieldLinkNest q.1 q.2.1 q.2.2.1 q.2.2.2.1 q.2.2.2.2.1 q.2.2.2.2.2) U) ∧
  (∀ q ∈ SFC, va_Nc q.1 q.2 U) ∧
  (va_Z jPre "SIOOBE_FORMATTER" jFmt .null A U H ∨ va_Z jPre "SIOOBE_FORMATTER" jFmt (.ref (sa 2)) A U H) ∧
  vx_Zq Bundle.tN "UNASSIGNED_STACK" Bundle.steD A U H ∧ vx_Zq Bundle.tN "SUPPRESSED_SENTINEL" Bundle.listD A U H ∧ va_AO RX4 U ∧ ∀ w ∈ OL, va_Nw w U
theorem SF.warm {sa : Nat → Nat} {A : Nat → Prop} {s U : State} {H : Heap} (hW : s.WarmedH U.vm) (h : SF sa A s H) : SF sa A U H := by
  obtain ⟨h1, h2, h3, h4, h5, h6, h7, h8, h9, h10, h11, h12, h13, h14⟩ := h
  refine ⟨fun q hq => va_Z.moved hW.alike (h1 q hq), fun q hq => va_T.moved hW.alike (h2 q hq), fun q hq => va_O.moved hW.alike (h3 q hq), fun q hq => va_OF.moved hW.alike (h4 q hq), fun q hq => vk_R.warm hW (h5 q hq), fun q hq => ?_, fun q hq => va_Nw.warmM hW (h7 q hq), fun q hq => va_Nw.warmF hW (h8 q hq), fun q hq => va_Nc.moved hW.alike (h9 q hq), ?_, vx_Zq.moved hW.alike h11, vx_Zq.moved hW.alike h12, va_AO.moved hW.alike h13, fun w hw => ?_⟩
  · obtain ⟨a, ha⟩ := h6 q hq
    exact ⟨a, vk_R.warm hW ha⟩
  · rcases h10 with h | h
    · exact Or.inl (va_Z.moved hW.alike h)
    · exact Or.inr (va_Z.moved hW.alike h)
  · have h := h14 w hw
    rcases isDC_cases ((List.mem_filter.mp hw).2) with ⟨x, rfl⟩ | ⟨a, b, rfl⟩
    · exact va_tabs rfl (rfl : (s.setVm U.vm).vm = U.vm) (show (Cond.declares x).before #[] (s.setVm U.vm) = true by rw [Cond.declares_setVm hW.alike]; exact h)
    · exact va_tabs rfl (rfl : (s.setVm U.vm).vm = U.vm) (show (Cond.castable a b).before #[] (s.setVm U.vm) = true by rw [Cond.castable_setVm hW.alike]; exact h)
theorem SF.vm {sa : Nat → Nat} {A : Nat → Prop} {u U : State} {H : Heap} (hv : u.vm = U.vm) (h : SF sa A u H) : SF sa A U H := by
  have hW : u.WarmedH U.vm := by rw [← hv]; exact State.WarmedH.refl u
  exact SF.warm hW h
theorem SF.kept {sa : Nat → Nat} {A : Nat → Prop} {U : State} {H H1 : Heap} (h : SF sa A U H) (hq : ∀ a : Nat, a < H.size → ¬ A a → H1[a]? = H[a]?) : SF sa A U H1 := by
  obtain ⟨h1, h2, h3, h4, h5, h6, h7, h8, h9, h10, h11, h12, h13, h14⟩ := h
  refine ⟨fun q h => (h1 q h).kept hq, fun q h => (h2 q h).kept hq, fun q h => (h3 q h).kept hq, fun q h => (h4 q h).kept hq, h5, h6, h7, h8, h9, ?_, h11.kept hq, h12.kept hq, h13, h14⟩
  rcases h10 with h | h
  · exact Or.inl (h.kept hq)
  · exact Or.inr (h.kept hq)
abbrev Az (z : Nat) : Nat → Prop := fun q => z ≤ q
/-- what a frame of the method mi stands on -/
def Cx (d : Nat) (mi : MI) (p : Program) (l : Launch) (R : Room) (s : State) (m : MethodId) (args : Array Value) (meth : Method) (c : Code) (z : Nat) (sa : Nat → Nat) (D : va_G) (dA : Nat → ClassId) : Prop :=
  (p.tables.exec = Jvm.exec ∧ c.code = mi.2.1 ∧ c.maxLocals = mi.2.2.1 ∧ s.vm.findClass mi.1.cls = some m.cls ∧ ∀ w ∈ AL, w.before args s = true) ∧
  meth.sig.returnType = mi.2.2.2.1 ∧ meth.locks = false ∧ meth.name = mi.1.name ∧ c.exceptionTable.toList = tableOf mi.2.2.2.2 ∧ l.stackTraces = false ∧
  (d ≤ R.frames ∧ 64 * d ≤ R.locals) ∧ va_K D vwCl (tyL dA) s ∧ SF sa (Az z) s s.heap ∧ z ≤ s.heap.size
def retI (rt : Option FieldType) (i : Instr) (v : Option Value) : Prop :=
  (i = .return_ ∧ v = none ∧ rt = none) ∨ (i = .ireturn ∧ ∃ (x : Int32) (ty : FieldType), v = some (.int x) ∧ rt = some ty ∧ narrow ty (.int x) = .int x) ∨
  (i = .dreturn ∧ ∃ x : UInt64, v = some (.double x) ∧ rt = some .double) ∨ (i = .freturn ∧ ∃ x : UInt32, v = some (.float x) ∧ rt = some .float)
abbrev jRTE : String := "java/lang/RuntimeException"
abbrev jEXC : String := "java/lang/Exception"
/-- the words of a throw of E, whose constructor (its bytes, its link's number k) calls RuntimeException's -/
def jAt (own : String) (ic : Nat) (E : String) (k : Nat) (bytes : ByteArray) : List Cond :=
  Bundle.throwableAtoms ++ (Bundle.throwableSAtoms ++ (Bundle.passSAtoms E jRTE k bytes ++ (Bundle.chainSAtoms jRTE [jEXC] ++
  [.methodLink own ic (Bundle.initS E), .instantiable E 6, .castable E E, .selects E Bundle.tFill0 Bundle.tFill0, .selects E Bundle.tFill Bundle.tFill,
   .lays E Bundle.tN "cause" "Ljava/lang/Throwable;", .lays E Bundle.tN "stackTrace" Bundle.steD, .lays E Bundle.tN "suppressedExceptions" Bundle.listD, .lays E Bundle.tN "detailMessage" "Ljava/lang/String;",
   .isRef (.static Bundle.tN "UNASSIGNED_STACK" Bundle.steD), .isRef (.static Bundle.tN "SUPPRESSED_SENTINEL" Bundle.listD),
   .fieldLink Bundle.tN 198 Bundle.tN "backtrace" "Ljava/lang/Object;", .lays Bundle.tN Bundle.tN "backtrace" "Ljava/lang/Object;", .lays E Bundle.tN "backtrace" "Ljava/lang/Object;"])))
/-- the bytecode of 'throw new E("text")', at pc, with its words -/
def ThrI (mi : MI) (pc : Nat) (E : String) : Prop :=
  ∃ (ik is ic ld k : Nat) (bytes : ByteArray) (text : String), (mi.1.cls, is, text) ∈ SFX ∧ decode mi.2.1 pc = .ok (.new ik, 3) ∧ decode mi.2.1 (pc + 3) = .ok (.dup, 1) ∧ ((ld = 2 ∧ decode mi.2.1 (pc + 4) = .ok (.ldc is, 2)) ∨ (ld = 3 ∧ decode mi.2.1 (pc + 4) = .ok (.ldc_w is, 3))) ∧
    decode mi.2.1 (pc + 4 + ld) = .ok (.invokespecial ic, 3) ∧ decode mi.2.1 (pc + 4 + ld + 3) = .ok (.athrow, 1) ∧ Cond.classLink mi.1.cls ik E ∈ AL ∧ Cond.initialized E ∈ AL ∧ Bundle.fit E = true ∧
    (decode bytes 0 = .ok (.aload_n 0, 1) ∧ decode bytes 1 = .ok (.aload_n 1, 1) ∧ decode bytes 2 = .ok (.invokespecial k, 3) ∧ decode bytes 5 = .ok (.return_, 1)) ∧
    (∀ w ∈ (jAt mi.1.cls ic E k bytes).filter vx_no, w ∈ lw_tbl ∧ (goodWord w || isDC w) = true) ∧ mi.2.2.2.2 = []
/-- the locals -/
def lrel (sa : Nat → Nat) (z : Nat) (nL : Nat) (lc : List (Option Value)) (ls : Array Slot) : Prop := ls.size = nL ∧ lv_wf ls ∧ ∀ (i : Nat) (v : Value), lc[i]? = some (some v) → ls[i]? = some (.val (mv sa z v))
/-- what the judgement's post asks of an end by return -/
def HR (mi : MI) (p : Program) (l : Launch) (e : Env) (R : Room) (s : State) (m : MethodId) (args : Array Value) (below : List Frame) (meth : Method) (c : Code) (z : Nat) (sa : Nat → Nat) (D : va_G) (dA : Nat → ClassId) (Q : Po) (Z : State → Prop) (mc ms : Nat) : Prop :=
  ∀ (v : Option Value) (w : Wd) (H : Heap) (locs : List Loc) (pc : Nat) (ls : Array Slot) (i : Instr), Q (.inl v) w → Rel D dA sa z w H → va_S (Az z) s.heap H locs → retI mi.2.2.2.1 i v → decode c.code pc = .ok (i, 1) → W p l e R s m args below meth c H locs mc ms Z (F0 m pc ls (v.toList.map (mv sa z)))
/-- .. by an exception that came from a call -/
def HX (mi : MI) (p : Program) (l : Launch) (e : Env) (R : Room) (s : State) (m : MethodId) (args : Array Value) (below : List Frame) (meth : Method) (c : Code) (z : Nat) (sa : Nat → Nat) (D : va_G) (dA : Nat → ClassId) (Q : Po) (Z : State → Prop) (mc ms : Nat) : Prop :=
  ∀ (E : String) (w : Wd) (H : Heap) (locs : List Loc) (pc : Nat) (ls : Array Slot) (rest : List Value) (q : Addr) (ce : Cell), Q (.inr E) w → Rel D dA sa z w H → va_S (Az z) s.heap H locs → (∀ x ∈ tableOf mi.2.2.2.2, covers x pc = false) → H[q]? = some ce → ce.vm = .none → s.vm.findClass E = some ce.cls → vx_W p l e R s m args below meth c H locs mc ms Z (F0 m pc ls rest) q
/-- .. by a throw statement -/
def HT (mi : MI) (p : Program) (l : Launch) (e : Env) (R : Room) (s : State) (m : MethodId) (args : Array Value) (below : List Frame) (meth : Method) (c : Code) (z : Nat) (sa : Nat → Nat) (D : va_G) (dA : Nat → ClassId) (Q : Po) (Z : State → Prop) (mc ms : Nat) : Prop :=
  ∀ (E : String) (w : Wd) (H : Heap) (locs : List Loc) (cells slots pc : Nat) (ls : Array Slot), Q (.inr E) (stW w) → Rel D dA sa z w H → va_S (Az z) s.heap H locs → ls.size = mi.2.2.1 → ThrI mi pc E → cells + 1 ≤ mc → slots + 6 ≤ ms → W p l e R s m args below meth c H locs cells slots Z (F0 m pc ls [])
/-- THE JUDGEMENT: the frame of mi at pc, with the locals lc and the stack st, in the world w, with room for kb cells of sb slots (and d frames), comes to an end that Q allows -/
def J (d : Nat) (mi : MI) (pc : Nat) (lc : List (Option Value)) (st : List Value) (w : Wd) (kb sb : Nat) (Q : Po) : Prop :=
  ∀ (p : Program) (l : Launch) (e : Env) (R : Room) (s : State) (m : MethodId) (args : Array Value) (below : List Frame) (meth : Method) (c : Code) (z : Nat) (sa : Nat → Nat) (D : va_G) (dA : Nat → ClassId) (Z : State → Prop) (mc ms : Nat),
    Cx d mi p l R s m args meth c z sa D dA → HR mi p l e R s m args below meth c z sa D dA Q Z mc ms → HX mi p l e R s m args below meth c z sa D dA Q Z mc ms → HT mi p l e R s m args below meth c z sa D dA Q Z mc ms → mc ≤ R.cells → ms ≤ R.slots →
    ∀ (H : Heap) (locs : List Loc) (cells slots : Nat) (ls : Array Slot), Rel D dA sa z w H → va_S (Az z) s.heap H locs → lrel sa z mi.2.2.1 lc ls → cells + kb ≤ mc → slots + sb ≤ ms →
    W p l e R s m args below meth c H locs cells slots Z (F0 m pc ls (st.map (mv sa z)))
/-- .. with an exception of the class E in flight -/
def JX (d : Nat) (mi : MI) (pc : Nat) (lc : List (Option Value)) (w : Wd) (kb sb : Nat) (Q : Po) (E : String) : Prop :=
  ∀ (p : Program) (l : Launch) (e : Env) (R : Room) (s : State) (m : MethodId) (args : Array Value) (below : List Frame) (meth : Method) (c : Code) (z : Nat) (sa : Nat → Nat) (D : va_G) (dA : Nat → ClassId) (Z : State → Prop) (mc ms : Nat),
    Cx d mi p l R s m args meth c z sa D dA → HR mi p l e R s m args below meth c z sa D dA Q Z mc ms → HX mi p l e R s m args below meth c z sa D dA Q Z mc ms → HT mi p l e R s m args below meth c z sa D dA Q Z mc ms → mc ≤ R.cells → ms ≤ R.slots →
    ∀ (H : Heap) (locs : List Loc) (cells slots : Nat) (ls : Array Slot) (rest : List Value) (q : Addr) (ce : Cell), Rel D dA sa z w H → va_S (Az z) s.heap H locs → lrel sa z mi.2.2.1 lc ls → cells + kb ≤ mc → slots + sb ≤ ms → H[q]? = some ce → ce.vm = .none → s.vm.findClass E = some ce.cls →
    vx_W p l e R s m args below meth c H locs cells slots Z (F0 m pc ls rest) q
/-! stack, locals, arithmetic -/
section
variable {d : Nat} {mi : MI} {pc : Nat} {lc : List (Option Value)} {st : List Value} {w : Wd} {kb sb : Nat} {Q : Po}
theorem J_iconst {n : Int} {v : Int32} (hd : decode mi.2.1 pc = .ok (.iconst n, 1)) (hv : Int32.ofInt n = v) (k : J d mi (pc + 1) lc (.int v :: st) w kb sb Q) : J d mi pc lc (st) w kb sb Q := by
  intro p l e R s m args below meth c z sa D dA Z mc ms C h1 h2 h3 h4 h5 H locs cells slots ls hR hS hl h6 h7
  exact lv_iconst C.1.1 C.1.2.1 hd hv (k p l e R s m args below meth c z sa D dA Z mc ms C h1 h2 h3 h4 h5 H locs cells slots ls hR hS hl h6 h7)
theorem J_bipush {n : Int} {v : Int32} (hd : decode mi.2.1 pc = .ok (.bipush n, 2)) (hv : (Int8.ofInt n).toInt32 = v) (k : J d mi (pc + 2) lc (.int v :: st) w kb sb Q) : J d mi pc lc (st) w kb sb Q := by
  intro p l e R s m args below meth c z sa D dA Z mc ms C h1 h2 h3 h4 h5 H locs cells slots ls hR hS hl h6 h7
  exact lv_bipush C.1.1 C.1.2.1 hd hv (k p l e R s m args below meth c z sa D dA Z mc ms C h1 h2 h3 h4 h5 H locs cells slots ls hR hS hl h6 h7)
theorem J_sipush {n : Int} {v : Int32} (hd : decode mi.2.1 pc = .ok (.sipush n, 3)) (hv : (Int16.ofInt n).toInt32 = v) (k : J d mi (pc + 3) lc (.int v :: st) w kb sb Q) : J d mi pc lc (st) w kb sb Q := by
  intro p l e R s m args below meth c z sa D dA Z mc ms C h1 h2 h3 h4 h5 H locs cells slots ls hR hS hl h6 h7
  exact lv_sipush C.1.1 C.1.2.1 hd hv (k p l e R s m args below meth c z sa D dA Z mc ms C h1 h2 h3 h4 h5 H locs cells slots ls hR hS hl h6 h7)
theorem J_lconst {n : Fin 2} {v : Int64} (hd : decode mi.2.1 pc = .ok (.lconst n, 1)) (hv : Int64.ofNat (n : Nat) = v) (k : J d mi (pc + 1) lc (.long v :: st) w kb sb Q) : J d mi pc lc (st) w kb sb Q := by
  intro p l e R s m args below meth c z sa D dA Z mc ms C h1 h2 h3 h4 h5 H locs cells slots ls hR hS hl h6 h7
  exact lv_lconst C.1.1 C.1.2.1 hd hv (k p l e R s m args below meth c z sa D dA Z mc ms C h1 h2 h3 h4 h5 H locs cells slots ls hR hS hl h6 h7)
theorem J_iadd {x y : Int32} (hd : decode mi.2.1 pc = .ok (.iadd, 1)) (k : J d mi (pc + 1) lc (.int (x + y) :: st) w kb sb Q) : J d mi pc lc (.int y :: .int x :: st) w kb sb Q := by
  intro p l e R s m args below meth c z sa D dA Z mc ms C h1 h2 h3 h4 h5 H locs cells slots ls hR hS hl h6 h7
  exact lv_iadd C.1.1 C.1.2.1 hd (k p l e R s m args below meth c z sa D dA Z mc ms C h1 h2 h3 h4 h5 H locs cells slots ls hR hS hl h6 h7)
theorem J_isub {x y : Int32} (hd : decode mi.2.1 pc = .ok (.isub, 1)) (k : J d mi (pc + 1) lc (.int (x - y) :: st) w kb sb Q) : J d mi pc lc (.int y :: .int x :: st) w kb sb Q := by
  intro p l e R s m args below meth c z sa D dA Z mc ms C h1 h2 h3 h4 h5 H locs cells slots ls hR hS hl h6 h7
  exact lv_isub C.1.1 C.1.2.1 hd (k p l e R s m args below meth c z sa D dA Z mc ms C h1 h2 h3 h4 h5 H locs cells slots ls hR hS hl h6 h7)
theorem J_imul {x y : Int32} (hd : decode mi.2.1 pc = .ok (.imul, 1)) (k : J d mi (pc + 1) lc (.int (x * y) :: st) w kb sb Q) : J d mi pc lc (.int y :: .int x :: st) w kb sb Q := by
  intro p l e R s m args below meth c z sa D dA Z mc ms C h1 h2 h3 h4 h5 H locs cells slots ls hR hS hl h6 h7
  exact lv_imul C.1.1 C.1.2.1 hd (k p l e R s m args below meth c z sa D dA Z mc ms C h1 h2 h3 h4 h5 H locs cells slots ls hR hS hl h6 h7)
theorem J_iand {x y : Int32} (hd : decode mi.2.1 pc = .ok (.iand, 1)) (k : J d mi (pc + 1) lc (.int (x &&& y) :: st) w kb sb Q) : J d mi pc lc (.int y :: .int x :: st) w kb sb Q := by
  intro p l e R s m args below meth c z sa D dA Z mc ms C h1 h2 h3 h4 h5 H locs cells slots ls hR hS hl h6 h7
  exact lv_iand C.1.1 C.1.2.1 hd (k p l e R s m args below meth c z sa D dA Z mc ms C h1 h2 h3 h4 h5 H locs cells slots ls hR hS hl h6 h7)
theorem J_ior {x y : Int32} (hd : decode mi.2.1 pc = .ok (.ior, 1)) (k : J d mi (pc + 1) lc (.int (x ||| y) :: st) w kb sb Q) : J d mi pc lc (.int y :: .int x :: st) w kb sb Q := by
  intro p l e R s m args below meth c z sa D dA Z mc ms C h1 h2 h3 h4 h5 H locs cells slots ls hR hS hl h6 h7
  exact lv_ior C.1.1 C.1.2.1 hd (k p l e R s m args below meth c z sa D dA Z mc ms C h1 h2 h3 h4 h5 H locs cells slots ls hR hS hl h6 h7)
theorem J_ixor {x y : Int32} (hd : decode mi.2.1 pc = .ok (.ixor, 1)) (k : J d mi (pc + 1) lc (.int (x ^^^ y) :: st) w kb sb Q) : J d mi pc lc (.int y :: .int x :: st) w kb sb Q := by
  intro p l e R s m args below meth c z sa D dA Z mc ms C h1 h2 h3 h4 h5 H locs cells slots ls hR hS hl h6 h7
  exact lv_ixor C.1.1 C.1.2.1 hd (k p l e R s m args below meth c z sa D dA Z mc ms C h1 h2 h3 h4 h5 H locs cells slots ls hR hS hl h6 h7)
theorem J_ishl {x y : Int32} (hd : decode mi.2.1 pc = .ok (.ishl, 1)) (k : J d mi (pc + 1) lc (.int (x <<< (y &&& 31)) :: st) w kb sb Q) : J d mi pc lc (.int y :: .int x :: st) w kb sb Q := by
  intro p l e R s m args below meth c z sa D dA Z mc ms C h1 h2 h3 h4 h5 H locs cells slots ls hR hS hl h6 h7
  exact lv_ishl C.1.1 C.1.2.1 hd (k p l e R s m args below meth c z sa D dA Z mc ms C h1 h2 h3 h4 h5 H locs cells slots ls hR hS hl h6 h7)
theorem J_ishr {x y : Int32} (hd : decode mi.2.1 pc = .ok (.ishr, 1)) (k : J d mi (pc + 1) lc (.int (x >>> (y &&& 31)) :: st) w kb sb Q) : J d mi pc lc (.int y :: .int x :: st) w kb sb Q := by
  intro p l e R s m args below meth c z sa D dA Z mc ms C h1 h2 h3 h4 h5 H locs cells slots ls hR hS hl h6 h7
  exact lv_ishr C.1.1 C.1.2.1 hd (k p l e R s m args below meth c z sa D dA Z mc ms C h1 h2 h3 h4 h5 H locs cells slots ls hR hS hl h6 h7)
theorem J_iushr {x y v : Int32} (hd : decode mi.2.1 pc = .ok (.iushr, 1)) (hv : (x.toUInt32 >>> (y.toUInt32 &&& Int32.toUInt32 31)).toInt32 = v) (k : J d mi (pc + 1) lc (.int v :: st) w kb sb Q) : J d mi pc lc (.int y :: .int x :: st) w kb sb Q := by
  intro p l e R s m args below meth c z sa D dA Z mc ms C h1 h2 h3 h4 h5 H locs cells slots ls hR hS hl h6 h7
  exact lv_iushr C.1.1 C.1.2.1 hd hv (k p l e R s m args below meth c z sa D dA Z mc ms C h1 h2 h3 h4 h5 H locs cells slots ls hR hS hl h6 h7)
theorem J_idiv {x y : Int32} (hd : decode mi.2.1 pc = .ok (.idiv, 1)) (hne : ¬ y = 0) (k : J d mi (pc + 1) lc (.int (x / y) :: st) w kb sb Q) : J d mi pc lc (.int y :: .int x :: st) w kb sb Q := by
  intro p l e R s m args below meth c z sa D dA Z mc ms C h1 h2 h3 h4 h5 H locs cells slots ls hR hS hl h6 h7
  exact lv_idiv C.1.1 C.1.2.1 hd hne (k p l e R s m args below meth c z sa D dA Z mc ms C h1 h2 h3 h4 h5 H locs cells slots ls hR hS hl h6 h7)
theorem J_irem {x y : Int32} (hd : decode mi.2.1 pc = .ok (.irem, 1)) (hne : ¬ y = 0) (k : J d mi (pc + 1) lc (.int (x - x / y * y) :: st) w kb sb Q) : J d mi pc lc (.int y :: .int x :: st) w kb sb Q := by
  intro p l e R s m args below meth c z sa D dA Z mc ms C h1 h2 h3 h4 h5 H locs cells slots ls hR hS hl h6 h7
  exact lv_irem C.1.1 C.1.2.1 hd hne (k p l e R s m args below meth c z sa D dA Z mc ms C h1 h2 h3 h4 h5 H locs cells slots ls hR hS hl h6 h7)
theorem J_i2l {x : Int32} {v : Int64} (hd : decode mi.2.1 pc = .ok (.i2l, 1)) (hv : x.toInt64 = v) (k : J d mi (pc + 1) lc (.long v :: st) w kb sb Q) : J d mi pc lc (.int x :: st) w kb sb Q := by
  intro p l e R s m args below meth c z sa D dA Z mc ms C h1 h2 h3 h4 h5 H locs cells slots ls hR hS hl h6 h7
  exact lv_i2l C.1.1 C.1.2.1 hd hv (k p l e R s m args below meth c z sa D dA Z mc ms C h1 h2 h3 h4 h5 H locs cells slots ls hR hS hl h6 h7)
theorem J_i2c {x v : Int32} (hd : decode mi.2.1 pc = .ok (.i2c, 1)) (hv : (x.toUInt32 % 65536).toInt32 = v) (k : J d mi (pc + 1) lc (.int v :: st) w kb sb Q) : J d mi pc lc (.int x :: st) w kb sb Q := by
  intro p l e R s m args below meth c z sa D dA Z mc ms C h1 h2 h3 h4 h5 H locs cells slots ls hR hS hl h6 h7
  exact lv_i2c C.1.1 C.1.2.1 hd hv (k p l e R s m args below meth c z sa D dA Z mc ms C h1 h2 h3 h4 h5 H locs cells slots ls hR hS hl h6 h7)
theorem J_i2d {x : Int32} (hd : decode mi.2.1 pc = .ok (.i2d, 1)) (k : J d mi (pc + 1) lc (.double (FP.i2d x) :: st) w kb sb Q) : J d mi pc lc (.int x :: st) w kb sb Q := by
  intro p l e R s m args below meth c z sa D dA Z mc ms C h1 h2 h3 h4 h5 H locs cells slots ls hR hS hl h6 h7
  exact lv_i2d C.1.1 C.1.2.1 hd (k p l e R s m args below meth c z sa D dA Z mc ms C h1 h2 h3 h4 h5 H locs cells slots ls hR hS hl h6 h7)
theorem J_i2f {x : Int32} (hd : decode mi.2.1 pc = .ok (.i2f, 1)) (k : J d mi (pc + 1) lc (.float (FP.i2f x) :: st) w kb sb Q) : J d mi pc lc (.int x :: st) w kb sb Q := by
  intro p l e R s m args below meth c z sa D dA Z mc ms C h1 h2 h3 h4 h5 H locs cells slots ls hR hS hl h6 h7
  exact lv_i2f C.1.1 C.1.2.1 hd (k p l e R s m args below meth c z sa D dA Z mc ms C h1 h2 h3 h4 h5 H locs cells slots ls hR hS hl h6 h7)
theorem J_ddiv {x y : UInt64} (hd : decode mi.2.1 pc = .ok (.ddiv, 1)) (hne : vf_n64 (FP.ddiv x y)) (k : J d mi (pc + 1) lc (.double (FP.ddiv x y) :: st) w kb sb Q) : J d mi pc lc (.double y :: .double x :: st) w kb sb Q := by
  intro p l e R s m args below meth c z sa D dA Z mc ms C h1 h2 h3 h4 h5 H locs cells slots ls hR hS hl h6 h7
  exact lv_ddiv C.1.1 C.1.2.1 hd hne (k p l e R s m args below meth c z sa D dA Z mc ms C h1 h2 h3 h4 h5 H locs cells slots ls hR hS hl h6 h7)
theorem J_fdiv {x y : UInt32} (hd : decode mi.2.1 pc = .ok (.fdiv, 1)) (hne : vf_n32 (FP.fdiv x y)) (k : J d mi (pc + 1) lc (.float (FP.fdiv x y) :: st) w kb sb Q) : J d mi pc lc (.float y :: .float x :: st) w kb sb Q := by
  intro p l e R s m args below meth c z sa D dA Z mc ms C h1 h2 h3 h4 h5 H locs cells slots ls hR hS hl h6 h7
  exact lv_fdiv C.1.1 C.1.2.1 hd hne (k p l e R s m args below meth c z sa D dA Z mc ms C h1 h2 h3 h4 h5 H locs cells slots ls hR hS hl h6 h7)
theorem J_f2d {x : UInt32} (hd : decode mi.2.1 pc = .ok (.f2d, 1)) (hne : vf_n64 (FP.f2d x)) (k : J d mi (pc + 1) lc (.double (FP.f2d x) :: st) w kb sb Q) : J d mi pc lc (.float x :: st) w kb sb Q := by
  intro p l e R s m args below meth c z sa D dA Z mc ms C h1 h2 h3 h4 h5 H locs cells slots ls hR hS hl h6 h7
  exact lv_f2d C.1.1 C.1.2.1 hd hne (k p l e R s m args below meth c z sa D dA Z mc ms C h1 h2 h3 h4 h5 H locs cells slots ls hR hS hl h6 h7)
theorem J_dcmp {x y : UInt64} {op : CmpOp} (hd : decode mi.2.1 pc = .ok (.dcmp op, 1)) (k : J d mi (pc + 1) lc (.int (Op.cmpValue (FP.dcmp x y) op) :: st) w kb sb Q) : J d mi pc lc (.double y :: .double x :: st) w kb sb Q := by
  intro p l e R s m args below meth c z sa D dA Z mc ms C h1 h2 h3 h4 h5 H locs cells slots ls hR hS hl h6 h7
  exact lv_dcmp C.1.1 C.1.2.1 hd (k p l e R s m args below meth c z sa D dA Z mc ms C h1 h2 h3 h4 h5 H locs cells slots ls hR hS hl h6 h7)
theorem J_fcmp {x y : UInt32} {op : CmpOp} (hd : decode mi.2.1 pc = .ok (.fcmp op, 1)) (k : J d mi (pc + 1) lc (.int (Op.cmpValue (FP.fcmp x y) op) :: st) w kb sb Q) : J d mi pc lc (.float y :: .float x :: st) w kb sb Q := by
  intro p l e R s m args below meth c z sa D dA Z mc ms C h1 h2 h3 h4 h5 H locs cells slots ls hR hS hl h6 h7
  exact lv_fcmp C.1.1 C.1.2.1 hd (k p l e R s m args below meth c z sa D dA Z mc ms C h1 h2 h3 h4 h5 H locs cells slots ls hR hS hl h6 h7)
theorem J_lcmp {x y : Int64} (hd : decode mi.2.1 pc = .ok (.lcmp, 1)) (k : J d mi (pc + 1) lc (.int (lg_cmp x y) :: st) w kb sb Q) : J d mi pc lc (.long y :: .long x :: st) w kb sb Q := by
  intro p l e R s m args below meth c z sa D dA Z mc ms C h1 h2 h3 h4 h5 H locs cells slots ls hR hS hl h6 h7
  exact W.lcmp C.1.1 C.1.2.1 hd (k p l e R s m args below meth c z sa D dA Z mc ms C h1 h2 h3 h4 h5 H locs cells slots ls hR hS hl h6 h7)
theorem J_dup {va : Value} (hd : decode mi.2.1 pc = .ok (.dup, 1)) (hva : va.category = 1) (k : J d mi (pc + 1) lc (va :: va :: st) w kb sb Q) : J d mi pc lc (va :: st) w kb sb Q := by
  intro p l e R s m args below meth c z sa D dA Z mc ms C h1 h2 h3 h4 h5 H locs cells slots ls hR hS hl h6 h7
  exact lv_dup C.1.1 C.1.2.1 hd ((mv_cat sa z va).trans hva) (k p l e R s m args below meth c z sa D dA Z mc ms C h1 h2 h3 h4 h5 H locs cells slots ls hR hS hl h6 h7)
theorem J_pop {va : Value} (hd : decode mi.2.1 pc = .ok (.pop, 1)) (hva : va.category = 1) (k : J d mi (pc + 1) lc (st) w kb sb Q) : J d mi pc lc (va :: st) w kb sb Q := by
  intro p l e R s m args below meth c z sa D dA Z mc ms C h1 h2 h3 h4 h5 H locs cells slots ls hR hS hl h6 h7
  exact lv_pop C.1.1 C.1.2.1 hd ((mv_cat sa z va).trans hva) (k p l e R s m args below meth c z sa D dA Z mc ms C h1 h2 h3 h4 h5 H locs cells slots ls hR hS hl h6 h7)
theorem J_dup_x1 {va vb : Value} (hd : decode mi.2.1 pc = .ok (.dup_x1, 1)) (hva : va.category = 1) (hvb : vb.category = 1) (k : J d mi (pc + 1) lc (va :: vb :: va :: st) w kb sb Q) : J d mi pc lc (va :: vb :: st) w kb sb Q := by
  intro p l e R s m args below meth c z sa D dA Z mc ms C h1 h2 h3 h4 h5 H locs cells slots ls hR hS hl h6 h7
  exact lv_dup_x1 C.1.1 C.1.2.1 hd ((mv_cat sa z va).trans hva) ((mv_cat sa z vb).trans hvb) (k p l e R s m args below meth c z sa D dA Z mc ms C h1 h2 h3 h4 h5 H locs cells slots ls hR hS hl h6 h7)
theorem J_dup2 {va vb : Value} (hd : decode mi.2.1 pc = .ok (.dup2, 1)) (hva : va.category = 1) (hvb : vb.category = 1) (k : J d mi (pc + 1) lc (va :: vb :: va :: vb :: st) w kb sb Q) : J d mi pc lc (va :: vb :: st) w kb sb Q := by
  intro p l e R s m args below meth c z sa D dA Z mc ms C h1 h2 h3 h4 h5 H locs cells slots ls hR hS hl h6 h7
  exact lv_dup2_11 C.1.1 C.1.2.1 hd ((mv_cat sa z va).trans hva) ((mv_cat sa z vb).trans hvb) (k p l e R s m args below meth c z sa D dA Z mc ms C h1 h2 h3 h4 h5 H locs cells slots ls hR hS hl h6 h7)
theorem J_iload_n {n : Fin 4} {i : Nat} {x : Int32} (hd : decode mi.2.1 pc = .ok (.iload_n n, 1)) (hi : (n : Nat) = i) (hv : lc[i]? = some (some (.int x))) (k : J d mi (pc + 1) lc (.int x :: st) w kb sb Q) : J d mi pc lc st w kb sb Q := by
  intro p l e R s m args below meth c z sa D dA Z mc ms C h1 h2 h3 h4 h5 H locs cells slots ls hR hS hl h6 h7
  exact lv_iload_n C.1.1 C.1.2.1 hd hi (hl.2.2 i _ hv) (k p l e R s m args below meth c z sa D dA Z mc ms C h1 h2 h3 h4 h5 H locs cells slots ls hR hS hl h6 h7)
theorem J_iload {i : Nat} {x : Int32} (hd : decode mi.2.1 pc = .ok (.iload i, 2)) (hv : lc[i]? = some (some (.int x))) (k : J d mi (pc + 2) lc (.int x :: st) w kb sb Q) : J d mi pc lc st w kb sb Q := by
  intro p l e R s m args below meth c z sa D dA Z mc ms C h1 h2 h3 h4 h5 H locs cells slots ls hR hS hl h6 h7
  exact lv_iload C.1.1 C.1.2.1 hd (hl.2.2 i _ hv) (k p l e R s m args below meth c z sa D dA Z mc ms C h1 h2 h3 h4 h5 H locs cells slots ls hR hS hl h6 h7)
theorem J_lload_n {n : Fin 4} {i : Nat} {x : Int64} (hd : decode mi.2.1 pc = .ok (.lload_n n, 1)) (hi : (n : Nat) = i) (hv : lc[i]? = some (some (.long x))) (k : J d mi (pc + 1) lc (.long x :: st) w kb sb Q) : J d mi pc lc st w kb sb Q := by
  intro p l e R s m args below meth c z sa D dA Z mc ms C h1 h2 h3 h4 h5 H locs cells slots ls hR hS hl h6 h7
  exact lv_lload_n C.1.1 C.1.2.1 hd hi (hl.2.2 i _ hv) (k p l e R s m args below meth c z sa D dA Z mc ms C h1 h2 h3 h4 h5 H locs cells slots ls hR hS hl h6 h7)
theorem J_lload {i : Nat} {x : Int64} (hd : decode mi.2.1 pc = .ok (.lload i, 2)) (hv : lc[i]? = some (some (.long x))) (k : J d mi (pc + 2) lc (.long x :: st) w kb sb Q) : J d mi pc lc st w kb sb Q := by
  intro p l e R s m args below meth c z sa D dA Z mc ms C h1 h2 h3 h4 h5 H locs cells slots ls hR hS hl h6 h7
  exact lv_lload C.1.1 C.1.2.1 hd (hl.2.2 i _ hv) (k p l e R s m args below meth c z sa D dA Z mc ms C h1 h2 h3 h4 h5 H locs cells slots ls hR hS hl h6 h7)
theorem J_dload_n {n : Fin 4} {i : Nat} {x : UInt64} (hd : decode mi.2.1 pc = .ok (.dload_n n, 1)) (hi : (n : Nat) = i) (hv : lc[i]? = some (some (.double x))) (k : J d mi (pc + 1) lc (.double x :: st) w kb sb Q) : J d mi pc lc st w kb sb Q := by
  intro p l e R s m args below meth c z sa D dA Z mc ms C h1 h2 h3 h4 h5 H locs cells slots ls hR hS hl h6 h7
  exact lv_dload_n C.1.1 C.1.2.1 hd hi (hl.2.2 i _ hv) (k p l e R s m args below meth c z sa D dA Z mc ms C h1 h2 h3 h4 h5 H locs cells slots ls hR hS hl h6 h7)
theorem J_dload {i : Nat} {x : UInt64} (hd : decode mi.2.1 pc = .ok (.dload i, 2)) (hv : lc[i]? = some (some (.double x))) (k : J d mi (pc + 2) lc (.double x :: st) w kb sb Q) : J d mi pc lc st w kb sb Q := by
  intro p l e R s m args below meth c z sa D dA Z mc ms C h1 h2 h3 h4 h5 H locs cells slots ls hR hS hl h6 h7
  exact lv_dload C.1.1 C.1.2.1 hd (hl.2.2 i _ hv) (k p l e R s m args below meth c z sa D dA Z mc ms C h1 h2 h3 h4 h5 H locs cells slots ls hR hS hl h6 h7)
theorem J_fload {i : Nat} {x : UInt32} (hd : decode mi.2.1 pc = .ok (.fload i, 2)) (hv : lc[i]? = some (some (.float x))) (k : J d mi (pc + 2) lc (.float x :: st) w kb sb Q) : J d mi pc lc st w kb sb Q := by
  intro p l e R s m args below meth c z sa D dA Z mc ms C h1 h2 h3 h4 h5 H locs cells slots ls hR hS hl h6 h7
  exact lv_fload C.1.1 C.1.2.1 hd (hl.2.2 i _ hv) (k p l e R s m args below meth c z sa D dA Z mc ms C h1 h2 h3 h4 h5 H locs cells slots ls hR hS hl h6 h7)
theorem J_aload_n {n : Fin 4} {i : Nat} {x : Nat} (hd : decode mi.2.1 pc = .ok (.aload_n n, 1)) (hi : (n : Nat) = i) (hv : lc[i]? = some (some (.ref x))) (k : J d mi (pc + 1) lc (.ref x :: st) w kb sb Q) : J d mi pc lc st w kb sb Q := by
  intro p l e R s m args below meth c z sa D dA Z mc ms C h1 h2 h3 h4 h5 H locs cells slots ls hR hS hl h6 h7
  exact lv_aload_n C.1.1 C.1.2.1 hd hi (hl.2.2 i _ hv) (k p l e R s m args below meth c z sa D dA Z mc ms C h1 h2 h3 h4 h5 H locs cells slots ls hR hS hl h6 h7)
theorem J_aload {i : Nat} {x : Nat} (hd : decode mi.2.1 pc = .ok (.aload i, 2)) (hv : lc[i]? = some (some (.ref x))) (k : J d mi (pc + 2) lc (.ref x :: st) w kb sb Q) : J d mi pc lc st w kb sb Q := by
  intro p l e R s m args below meth c z sa D dA Z mc ms C h1 h2 h3 h4 h5 H locs cells slots ls hR hS hl h6 h7
  exact lv_aload C.1.1 C.1.2.1 hd (hl.2.2 i _ hv) (k p l e R s m args below meth c z sa D dA Z mc ms C h1 h2 h3 h4 h5 H locs cells slots ls hR hS hl h6 h7)
def okst (lc : List (Option Value)) : Nat → Bool
  | 0 => true
  | j + 1 => match lc[j]? with
    | some (some v) => !(v.category == 2)
    | _ => true
def lcL (sa : Nat → Nat) (z : Nat) (lc : List (Option Value)) : List (Nat × Value) := (List.range lc.length).filterMap (fun i => (lc[i]?.join).map (fun v => (i, mv sa z v)))
theorem lcL_mem {sa : Nat → Nat} {z : Nat} {lc : List (Option Value)} {i : Nat} {v : Value} (h : lc[i]? = some (some v)) : (i, mv sa z v) ∈ lcL sa z lc := by
  unfold lcL
  refine List.mem_filterMap.mpr ⟨i, List.mem_range.mpr (List.getElem?_eq_some_iff.mp h).1, ?_⟩
  rw [h]
  rfl
theorem lrel.has {sa : Nat → Nat} {z nL : Nat} {lc : List (Option Value)} {ls : Array Slot} (h : lrel sa z nL lc ls) : lv_has ls nL (lcL sa z lc) := by
  refine ⟨h.1, h.2.1, fun q hq => ?_⟩
  obtain ⟨i, -, hi⟩ := List.mem_filterMap.mp hq
  cases hc : lc[i]? with
  | none => rw [hc] at hi; cases hi
  | some o =>
    cases o with
    | none => rw [hc] at hi; cases hi
    | some v =>
      rw [hc] at hi
      cases hi
      exact h.2.2 i v hc
theorem lrel.store {sa : Nat → Nat} {z nL : Nat} {lc : List (Option Value)} {ls' : Array Slot} {i : Nat} {x : Value} {L : List (Nat × Value)} (hL : ∀ q ∈ lcL sa z lc, q ∈ L) (hok : okst lc i = true) (h : lv_has ls' nL ((i, mv sa z x) :: L.filter (fun q => !(q.1 == i) && !(q.1 + 1 == i && q.2.category == 2)))) : lrel sa z nL (lc.set i (some x)) ls' := by
  refine ⟨h.1, h.2.1, fun j v hj => ?_⟩
  by_cases e : j = i
  · subst e
    by_cases hl : j < lc.length
    · rw [List.getElem?_set_self hl] at hj
      cases hj
      exact h.2.2 (j, mv sa z x) List.mem_cons_self
    · rw [List.getElem?_eq_none (by rw [List.length_set]; omega)] at hj
      cases hj
  · rw [List.getElem?_set_ne (Ne.symm e)] at hj
    refine h.2.2 (j, mv sa z v) (List.mem_cons_of_mem _ (List.mem_filter.mpr ⟨hL _ (lcL_mem hj), ?_⟩))
    have e1 : (j == i) = false := by simpa using e
    simp only [e1, Bool.not_false, Bool.true_and, mv_cat]
    cases i with
    | zero => simp
    | succ n =>
      by_cases e2 : j = n
      · subst e2
        simp only [okst, hj] at hok
        simpa using hok
      · have e3 : (j + 1 == n + 1) = false := by simpa using e2
        rw [e3]; rfl
theorem lrel.store2 {sa : Nat → Nat} {z nL : Nat} {lc : List (Option Value)} {ls' : Array Slot} {i : Nat} {x : Value} {L : List (Nat × Value)} (hL : ∀ q ∈ lcL sa z lc, q ∈ L) (hok : okst lc i = true) (h : lv_has ls' nL ((i, mv sa z x) :: L.filter (fun q => !(q.1 == i) && (!(q.1 == i + 1) && !(q.1 + 1 == i && q.2.category == 2))))) : lrel sa z nL ((lc.set i (some x)).set (i + 1) none) ls' := by
  refine ⟨h.1, h.2.1, fun j v hj => ?_⟩
  by_cases e0 : j = i + 1
  · subst e0
    by_cases hl : i + 1 < lc.length
    · rw [List.getElem?_set_self (by rw [List.length_set]; exact hl)] at hj
      cases hj
    · rw [List.getElem?_eq_none (by rw [List.length_set, List.length_set]; omega)] at hj
      cases hj
  · rw [List.getElem?_set_ne (Ne.symm e0)] at hj
    by_cases e : j = i
    · subst e
      by_cases hl : j < lc.length
      · rw [List.getElem?_set_self hl] at hj
        cases hj
        exact h.2.2 (j, mv sa z x) List.mem_cons_self
      · rw [List.getElem?_eq_none (by rw [List.length_set]; omega)] at hj
        cases hj
    · rw [List.getElem?_set_ne (Ne.symm e)] at hj
      refine h.2.2 (j, mv sa z v) (List.mem_cons_of_mem _ (List.mem_filter.mpr ⟨hL _ (lcL_mem hj), ?_⟩))
      have e1 : (j == i) = false := by simpa using e
      have e2 : (j == i + 1) = false := by simpa using e0
      simp only [e1, e2, Bool.not_false, Bool.true_and, mv_cat]
      cases i with
      | zero => simp
      | succ n =>
        by_cases e3 : j = n
        · subst e3
          simp only [okst, hj] at hok
          simpa using hok
        · have e4 : (j + 1 == n + 1) = false := by simpa using e3
          rw [e4]; rfl
theorem J_istore_n {n : Fin 4} {i : Nat} {x : Int32} (hd : decode mi.2.1 pc = .ok (.istore_n n, 1)) (hi : (n : Nat) = i) (hn : i < mi.2.2.1) (hok : okst lc i = true) (k : J d mi (pc + 1) (lc.set i (some (.int x))) st w kb sb Q) : J d mi pc lc (.int x :: st) w kb sb Q := by
  intro p l e R s m args below meth c z sa D dA Z mc ms C h1 h2 h3 h4 h5 H locs cells slots ls hR hS hl h6 h7
  exact lv_istore_n C.1.1 C.1.2.1 hd hi hl.has hn rfl (fun ls' h' => k p l e R s m args below meth c z sa D dA Z mc ms C h1 h2 h3 h4 h5 H locs cells slots ls' hR hS (lrel.store (x := .int x) (fun _ h => h) hok h') h6 h7)
theorem J_istore {i : Nat} {x : Int32} (hd : decode mi.2.1 pc = .ok (.istore i, 2)) (hn : i < mi.2.2.1) (hok : okst lc i = true) (k : J d mi (pc + 2) (lc.set i (some (.int x))) st w kb sb Q) : J d mi pc lc (.int x :: st) w kb sb Q := by
  intro p l e R s m args below meth c z sa D dA Z mc ms C h1 h2 h3 h4 h5 H locs cells slots ls hR hS hl h6 h7
  exact lv_istore C.1.1 C.1.2.1 hd hl.has hn rfl (fun ls' h' => k p l e R s m args below meth c z sa D dA Z mc ms C h1 h2 h3 h4 h5 H locs cells slots ls' hR hS (lrel.store (x := .int x) (fun _ h => h) hok h') h6 h7)
theorem J_astore_n {n : Fin 4} {i : Nat} {x : Nat} (hd : decode mi.2.1 pc = .ok (.astore_n n, 1)) (hi : (n : Nat) = i) (hn : i < mi.2.2.1) (hok : okst lc i = true) (k : J d mi (pc + 1) (lc.set i (some (.ref x))) st w kb sb Q) : J d mi pc lc (.ref x :: st) w kb sb Q := by
  intro p l e R s m args below meth c z sa D dA Z mc ms C h1 h2 h3 h4 h5 H locs cells slots ls hR hS hl h6 h7
  exact lv_astore_n C.1.1 C.1.2.1 hd hi hl.has hn rfl (fun ls' h' => k p l e R s m args below meth c z sa D dA Z mc ms C h1 h2 h3 h4 h5 H locs cells slots ls' hR hS (lrel.store (x := .ref x) (fun _ h => h) hok h') h6 h7)
theorem J_astore {i : Nat} {x : Nat} (hd : decode mi.2.1 pc = .ok (.astore i, 2)) (hn : i < mi.2.2.1) (hok : okst lc i = true) (k : J d mi (pc + 2) (lc.set i (some (.ref x))) st w kb sb Q) : J d mi pc lc (.ref x :: st) w kb sb Q := by
  intro p l e R s m args below meth c z sa D dA Z mc ms C h1 h2 h3 h4 h5 H locs cells slots ls hR hS hl h6 h7
  exact lv_astore C.1.1 C.1.2.1 hd hl.has hn rfl (fun ls' h' => k p l e R s m args below meth c z sa D dA Z mc ms C h1 h2 h3 h4 h5 H locs cells slots ls' hR hS (lrel.store (x := .ref x) (fun _ h => h) hok h') h6 h7)
theorem J_fstore {i : Nat} {x : UInt32} (hd : decode mi.2.1 pc = .ok (.fstore i, 2)) (hn : i < mi.2.2.1) (hok : okst lc i = true) (k : J d mi (pc + 2) (lc.set i (some (.float x))) st w kb sb Q) : J d mi pc lc (.float x :: st) w kb sb Q := by
  intro p l e R s m args below meth c z sa D dA Z mc ms C h1 h2 h3 h4 h5 H locs cells slots ls hR hS hl h6 h7
  exact lv_fstore C.1.1 C.1.2.1 hd hl.has hn rfl (fun ls' h' => k p l e R s m args below meth c z sa D dA Z mc ms C h1 h2 h3 h4 h5 H locs cells slots ls' hR hS (lrel.store (x := .float x) (fun _ h => h) hok h') h6 h7)
theorem J_dstore {i : Nat} {x : UInt64} (hd : decode mi.2.1 pc = .ok (.dstore i, 2)) (hn : i + 1 < mi.2.2.1) (hok : okst lc i = true) (k : J d mi (pc + 2) ((lc.set i (some (.double x))).set (i + 1) none) st w kb sb Q) : J d mi pc lc (.double x :: st) w kb sb Q := by
  intro p l e R s m args below meth c z sa D dA Z mc ms C h1 h2 h3 h4 h5 H locs cells slots ls hR hS hl h6 h7
  exact lv_dstore C.1.1 C.1.2.1 hd hl.has hn rfl (fun ls' h' => k p l e R s m args below meth c z sa D dA Z mc ms C h1 h2 h3 h4 h5 H locs cells slots ls' hR hS (lrel.store2 (x := .double x) (fun _ h => h) hok h') h6 h7)
theorem J_iinc {i : Nat} {n : Int} {x v : Int32} (hd : decode mi.2.1 pc = .ok (.iinc i n, 3)) (hv : lc[i]? = some (some (.int x))) (he : x + Int32.ofInt n = v) (hn : i < mi.2.2.1) (hok : okst lc i = true) (k : J d mi (pc + 3) (lc.set i (some (.int v))) st w kb sb Q) : J d mi pc lc st w kb sb Q := by
  intro p l e R s m args below meth c z sa D dA Z mc ms C h1 h2 h3 h4 h5 H locs cells slots ls hR hS hl h6 h7
  have hh : lv_has ls mi.2.2.1 ((i, .int x) :: lcL sa z lc) := ⟨hl.1, hl.2.1, fun q hq => by
    rcases List.mem_cons.mp hq with rfl | hq
    · exact hl.2.2 i _ hv
    · exact hl.has.2.2 q hq⟩
  exact lv_iinc C.1.1 C.1.2.1 hd hh (k := 0) rfl he hn rfl (fun ls' h' => k p l e R s m args below meth c z sa D dA Z mc ms C h1 h2 h3 h4 h5 H locs cells slots ls' hR hS (lrel.store (x := .int v) (fun _ h => List.mem_cons_of_mem _ h) hok h') h6 h7)
theorem J_if_eq {x : Int32} {off : Int} {tgt : Nat} (hd : decode mi.2.1 pc = .ok (.ifCond .eq off, 3)) (ht : (pc : Int) + off = (tgt : Int)) (kt : x = 0 → J d mi tgt lc st w kb sb Q) (kf : ¬ x = 0 → J d mi (pc + 3) lc st w kb sb Q) : J d mi pc lc (.int x :: st) w kb sb Q := by
  intro p l e R s m args below meth c z sa D dA Z mc ms C h1 h2 h3 h4 h5 H locs cells slots ls hR hS hl h6 h7
  exact lv_if_eq C.1.1 C.1.2.1 hd ht (fun q => kt q p l e R s m args below meth c z sa D dA Z mc ms C h1 h2 h3 h4 h5 H locs cells slots ls hR hS hl h6 h7) (fun q => kf q p l e R s m args below meth c z sa D dA Z mc ms C h1 h2 h3 h4 h5 H locs cells slots ls hR hS hl h6 h7)
theorem J_if_ne {x : Int32} {off : Int} {tgt : Nat} (hd : decode mi.2.1 pc = .ok (.ifCond .ne off, 3)) (ht : (pc : Int) + off = (tgt : Int)) (kt : ¬ x = 0 → J d mi tgt lc st w kb sb Q) (kf : x = 0 → J d mi (pc + 3) lc st w kb sb Q) : J d mi pc lc (.int x :: st) w kb sb Q := by
  intro p l e R s m args below meth c z sa D dA Z mc ms C h1 h2 h3 h4 h5 H locs cells slots ls hR hS hl h6 h7
  exact lv_if_ne C.1.1 C.1.2.1 hd ht (fun q => kt q p l e R s m args below meth c z sa D dA Z mc ms C h1 h2 h3 h4 h5 H locs cells slots ls hR hS hl h6 h7) (fun q => kf q p l e R s m args below meth c z sa D dA Z mc ms C h1 h2 h3 h4 h5 H locs cells slots ls hR hS hl h6 h7)
theorem J_if_lt {x : Int32} {off : Int} {tgt : Nat} (hd : decode mi.2.1 pc = .ok (.ifCond .lt off, 3)) (ht : (pc : Int) + off = (tgt : Int)) (kt : x < 0 → J d mi tgt lc st w kb sb Q) (kf : ¬ x < 0 → J d mi (pc + 3) lc st w kb sb Q) : J d mi pc lc (.int x :: st) w kb sb Q := by
  intro p l e R s m args below meth c z sa D dA Z mc ms C h1 h2 h3 h4 h5 H locs cells slots ls hR hS hl h6 h7
  exact lv_if_lt C.1.1 C.1.2.1 hd ht (fun q => kt q p l e R s m args below meth c z sa D dA Z mc ms C h1 h2 h3 h4 h5 H locs cells slots ls hR hS hl h6 h7) (fun q => kf q p l e R s m args below meth c z sa D dA Z mc ms C h1 h2 h3 h4 h5 H locs cells slots ls hR hS hl h6 h7)
theorem J_if_ge {x : Int32} {off : Int} {tgt : Nat} (hd : decode mi.2.1 pc = .ok (.ifCond .ge off, 3)) (ht : (pc : Int) + off = (tgt : Int)) (kt : 0 ≤ x → J d mi tgt lc st w kb sb Q) (kf : ¬ 0 ≤ x → J d mi (pc + 3) lc st w kb sb Q) : J d mi pc lc (.int x :: st) w kb sb Q := by
  intro p l e R s m args below meth c z sa D dA Z mc ms C h1 h2 h3 h4 h5 H locs cells slots ls hR hS hl h6 h7
  exact lv_if_ge C.1.1 C.1.2.1 hd ht (fun q => kt q p l e R s m args below meth c z sa D dA Z mc ms C h1 h2 h3 h4 h5 H locs cells slots ls hR hS hl h6 h7) (fun q => kf q p l e R s m args below meth c z sa D dA Z mc ms C h1 h2 h3 h4 h5 H locs cells slots ls hR hS hl h6 h7)
theorem J_if_gt {x : Int32} {off : Int} {tgt : Nat} (hd : decode mi.2.1 pc = .ok (.ifCond .gt off, 3)) (ht : (pc : Int) + off = (tgt : Int)) (kt : 0 < x → J d mi tgt lc st w kb sb Q) (kf : ¬ 0 < x → J d mi (pc + 3) lc st w kb sb Q) : J d mi pc lc (.int x :: st) w kb sb Q := by
  intro p l e R s m args below meth c z sa D dA Z mc ms C h1 h2 h3 h4 h5 H locs cells slots ls hR hS hl h6 h7
  exact lv_if_gt C.1.1 C.1.2.1 hd ht (fun q => kt q p l e R s m args below meth c z sa D dA Z mc ms C h1 h2 h3 h4 h5 H locs cells slots ls hR hS hl h6 h7) (fun q => kf q p l e R s m args below meth c z sa D dA Z mc ms C h1 h2 h3 h4 h5 H locs cells slots ls hR hS hl h6 h7)
theorem J_if_le {x : Int32} {off : Int} {tgt : Nat} (hd : decode mi.2.1 pc = .ok (.ifCond .le off, 3)) (ht : (pc : Int) + off = (tgt : Int)) (kt : x ≤ 0 → J d mi tgt lc st w kb sb Q) (kf : ¬ x ≤ 0 → J d mi (pc + 3) lc st w kb sb Q) : J d mi pc lc (.int x :: st) w kb sb Q := by
  intro p l e R s m args below meth c z sa D dA Z mc ms C h1 h2 h3 h4 h5 H locs cells slots ls hR hS hl h6 h7
  exact lv_if_le C.1.1 C.1.2.1 hd ht (fun q => kt q p l e R s m args below meth c z sa D dA Z mc ms C h1 h2 h3 h4 h5 H locs cells slots ls hR hS hl h6 h7) (fun q => kf q p l e R s m args below meth c z sa D dA Z mc ms C h1 h2 h3 h4 h5 H locs cells slots ls hR hS hl h6 h7)
theorem J_icmp_eq {x y : Int32} {off : Int} {tgt : Nat} (hd : decode mi.2.1 pc = .ok (.if_icmp .eq off, 3)) (ht : (pc : Int) + off = (tgt : Int)) (kt : x = y → J d mi tgt lc st w kb sb Q) (kf : ¬ x = y → J d mi (pc + 3) lc st w kb sb Q) : J d mi pc lc (.int y :: .int x :: st) w kb sb Q := by
  intro p l e R s m args below meth c z sa D dA Z mc ms C h1 h2 h3 h4 h5 H locs cells slots ls hR hS hl h6 h7
  exact lv_icmp_eq C.1.1 C.1.2.1 hd ht (fun q => kt q p l e R s m args below meth c z sa D dA Z mc ms C h1 h2 h3 h4 h5 H locs cells slots ls hR hS hl h6 h7) (fun q => kf q p l e R s m args below meth c z sa D dA Z mc ms C h1 h2 h3 h4 h5 H locs cells slots ls hR hS hl h6 h7)
theorem J_icmp_ne {x y : Int32} {off : Int} {tgt : Nat} (hd : decode mi.2.1 pc = .ok (.if_icmp .ne off, 3)) (ht : (pc : Int) + off = (tgt : Int)) (kt : ¬ x = y → J d mi tgt lc st w kb sb Q) (kf : x = y → J d mi (pc + 3) lc st w kb sb Q) : J d mi pc lc (.int y :: .int x :: st) w kb sb Q := by
  intro p l e R s m args below meth c z sa D dA Z mc ms C h1 h2 h3 h4 h5 H locs cells slots ls hR hS hl h6 h7
  exact lv_icmp_ne C.1.1 C.1.2.1 hd ht (fun q => kt q p l e R s m args below meth c z sa D dA Z mc ms C h1 h2 h3 h4 h5 H locs cells slots ls hR hS hl h6 h7) (fun q => kf q p l e R s m args below meth c z sa D dA Z mc ms C h1 h2 h3 h4 h5 H locs cells slots ls hR hS hl h6 h7)
theorem J_icmp_lt {x y : Int32} {off : Int} {tgt : Nat} (hd : decode mi.2.1 pc = .ok (.if_icmp .lt off, 3)) (ht : (pc : Int) + off = (tgt : Int)) (kt : x < y → J d mi tgt lc st w kb sb Q) (kf : ¬ x < y → J d mi (pc + 3) lc st w kb sb Q) : J d mi pc lc (.int y :: .int x :: st) w kb sb Q := by
  intro p l e R s m args below meth c z sa D dA Z mc ms C h1 h2 h3 h4 h5 H locs cells slots ls hR hS hl h6 h7
  exact lv_icmp_lt C.1.1 C.1.2.1 hd ht (fun q => kt q p l e R s m args below meth c z sa D dA Z mc ms C h1 h2 h3 h4 h5 H locs cells slots ls hR hS hl h6 h7) (fun q => kf q p l e R s m args below meth c z sa D dA Z mc ms C h1 h2 h3 h4 h5 H locs cells slots ls hR hS hl h6 h7)
theorem J_icmp_ge {x y : Int32} {off : Int} {tgt : Nat} (hd : decode mi.2.1 pc = .ok (.if_icmp .ge off, 3)) (ht : (pc : Int) + off = (tgt : Int)) (kt : y ≤ x → J d mi tgt lc st w kb sb Q) (kf : ¬ y ≤ x → J d mi (pc + 3) lc st w kb sb Q) : J d mi pc lc (.int y :: .int x :: st) w kb sb Q := by
  intro p l e R s m args below meth c z sa D dA Z mc ms C h1 h2 h3 h4 h5 H locs cells slots ls hR hS hl h6 h7
  exact lv_icmp_ge C.1.1 C.1.2.1 hd ht (fun q => kt q p l e R s m args below meth c z sa D dA Z mc ms C h1 h2 h3 h4 h5 H locs cells slots ls hR hS hl h6 h7) (fun q => kf q p l e R s m args below meth c z sa D dA Z mc ms C h1 h2 h3 h4 h5 H locs cells slots ls hR hS hl h6 h7)
theorem J_icmp_gt {x y : Int32} {off : Int} {tgt : Nat} (hd : decode mi.2.1 pc = .ok (.if_icmp .gt off, 3)) (ht : (pc : Int) + off = (tgt : Int)) (kt : y < x → J d mi tgt lc st w kb sb Q) (kf : ¬ y < x → J d mi (pc + 3) lc st w kb sb Q) : J d mi pc lc (.int y :: .int x :: st) w kb sb Q := by
  intro p l e R s m args below meth c z sa D dA Z mc ms C h1 h2 h3 h4 h5 H locs cells slots ls hR hS hl h6 h7
  exact lv_icmp_gt C.1.1 C.1.2.1 hd ht (fun q => kt q p l e R s m args below meth c z sa D dA Z mc ms C h1 h2 h3 h4 h5 H locs cells slots ls hR hS hl h6 h7) (fun q => kf q p l e R s m args below meth c z sa D dA Z mc ms C h1 h2 h3 h4 h5 H locs cells slots ls hR hS hl h6 h7)
theorem J_icmp_le {x y : Int32} {off : Int} {tgt : Nat} (hd : decode mi.2.1 pc = .ok (.if_icmp .le off, 3)) (ht : (pc : Int) + off = (tgt : Int)) (kt : x ≤ y → J d mi tgt lc st w kb sb Q) (kf : ¬ x ≤ y → J d mi (pc + 3) lc st w kb sb Q) : J d mi pc lc (.int y :: .int x :: st) w kb sb Q := by
  intro p l e R s m args below meth c z sa D dA Z mc ms C h1 h2 h3 h4 h5 H locs cells slots ls hR hS hl h6 h7
  exact lv_icmp_le C.1.1 C.1.2.1 hd ht (fun q => kt q p l e R s m args below meth c z sa D dA Z mc ms C h1 h2 h3 h4 h5 H locs cells slots ls hR hS hl h6 h7) (fun q => kf q p l e R s m args below meth c z sa D dA Z mc ms C h1 h2 h3 h4 h5 H locs cells slots ls hR hS hl h6 h7)
theorem J_goto {off : Int} {tgt : Nat} (hd : decode mi.2.1 pc = .ok (.goto off, 3)) (ht : (pc : Int) + off = (tgt : Int)) (k : J d mi tgt lc st w kb sb Q) : J d mi pc lc st w kb sb Q := by
  intro p l e R s m args below meth c z sa D dA Z mc ms C h1 h2 h3 h4 h5 H locs cells slots ls hR hS hl h6 h7
  exact lv_goto C.1.1 C.1.2.1 hd ht (k p l e R s m args below meth c z sa D dA Z mc ms C h1 h2 h3 h4 h5 H locs cells slots ls hR hS hl h6 h7)
theorem J_tableIn {dflt lo hi : Int} {offs : Array Int} {len : Nat} {x : Int32} {off : Int} {tgt : Nat} (hd : decode mi.2.1 pc = .ok (.tableswitch dflt lo hi offs, len)) (g1 : ¬ x.toInt < lo) (g2 : ¬ hi < x.toInt) (ho : offs[(x.toInt - lo).toNat]? = some off) (ht : (pc : Int) + off = (tgt : Int)) (k : J d mi tgt lc st w kb sb Q) : J d mi pc lc (.int x :: st) w kb sb Q := by
  intro p l e R s m args below meth c z sa D dA Z mc ms C h1 h2 h3 h4 h5 H locs cells slots ls hR hS hl h6 h7
  exact lv_tableIn C.1.1 C.1.2.1 hd g1 g2 ho ht (k p l e R s m args below meth c z sa D dA Z mc ms C h1 h2 h3 h4 h5 H locs cells slots ls hR hS hl h6 h7)
theorem J_tableOut {dflt lo hi : Int} {offs : Array Int} {len : Nat} {x : Int32} {tgt : Nat} (hd : decode mi.2.1 pc = .ok (.tableswitch dflt lo hi offs, len)) (g : x.toInt < lo ∨ hi < x.toInt) (ht : (pc : Int) + dflt = (tgt : Int)) (k : J d mi tgt lc st w kb sb Q) : J d mi pc lc (.int x :: st) w kb sb Q := by
  intro p l e R s m args below meth c z sa D dA Z mc ms C h1 h2 h3 h4 h5 H locs cells slots ls hR hS hl h6 h7
  exact lv_tableOut C.1.1 C.1.2.1 hd g ht (k p l e R s m args below meth c z sa D dA Z mc ms C h1 h2 h3 h4 h5 H locs cells slots ls hR hS hl h6 h7)
theorem J.widen {kb' sb' : Nat} (h1 : kb' ≤ kb) (h2 : sb' ≤ sb) (k : J d mi pc lc st w kb' sb' Q) : J d mi pc lc st w kb sb Q := by
  intro p l e R s m args below meth c z sa D dA Z mc ms C g1 g2 h3 h4 h5 H locs cells slots ls hR hS hl h6 h7
  exact k p l e R s m args below meth c z sa D dA Z mc ms C g1 g2 h3 h4 h5 H locs cells slots ls hR hS hl (by omega) (by omega)
theorem J_ret {v : Option Value} {i : Instr} (hd : decode mi.2.1 pc = .ok (i, 1)) (hv : retI mi.2.2.2.1 i v) (hq : Q (.inl v) w) : J d mi pc lc v.toList w kb sb Q := by
  intro p l e R s m args below meth c z sa D dA Z mc ms C h1 h2 h3 h4 h5 H locs cells slots ls hR hS hl h6 h7
  exact W.widen (by omega) (by omega) (h1 v w H locs pc ls i hq hR hS hv (by rw [C.1.2.1]; exact hd))
theorem J_return (hd : decode mi.2.1 pc = .ok (.return_, 1)) (hr : mi.2.2.2.1 = none) (hq : Q (.inl none) w) : J d mi pc lc [] w kb sb Q := J_ret (v := none) hd (Or.inl ⟨rfl, rfl, hr⟩) hq
theorem J_ireturn {x : Int32} {ty : FieldType} (hd : decode mi.2.1 pc = .ok (.ireturn, 1)) (hr : mi.2.2.2.1 = some ty) (hn : narrow ty (.int x) = .int x) (hq : Q (.inl (some (.int x))) w) : J d mi pc lc [.int x] w kb sb Q := J_ret (v := some (.int x)) hd (Or.inr (Or.inl ⟨rfl, x, ty, rfl, hr, hn⟩)) hq
theorem J_dreturn {x : UInt64} (hd : decode mi.2.1 pc = .ok (.dreturn, 1)) (hr : mi.2.2.2.1 = some .double) (hq : Q (.inl (some (.double x))) w) : J d mi pc lc [.double x] w kb sb Q := J_ret (v := some (.double x)) hd (Or.inr (Or.inr (Or.inl ⟨rfl, x, rfl, hr⟩))) hq
theorem J_freturn {x : UInt32} (hd : decode mi.2.1 pc = .ok (.freturn, 1)) (hr : mi.2.2.2.1 = some .float) (hq : Q (.inl (some (.float x))) w) : J d mi pc lc [.float x] w kb sb Q := J_ret (v := some (.float x)) hd (Or.inr (Or.inr (Or.inr ⟨rfl, x, rfl, hr⟩))) hq
theorem J_throw {E : String} (ht : ThrI mi pc E) (hk : 1 ≤ kb) (hs : 6 ≤ sb) (hq : Q (.inr E) (stW w)) : J d mi pc lc [] w kb sb Q := by
  intro p l e R s m args below meth c z sa D dA Z mc ms C h1 h2 h3 h4 h5 H locs cells slots ls hR hS hl h6 h7
  exact h3 E w H locs cells slots pc ls hq hR hS hl.1 ht (by omega) (by omega)
theorem JX_out {E : String} (hc : ∀ x ∈ tableOf mi.2.2.2.2, covers x pc = false) (hq : Q (.inr E) w) : JX d mi pc lc w kb sb Q E := by
  intro p l e R s m args below meth c z sa D dA Z mc ms C h1 h2 h3 h4 h5 H locs cells slots ls rest q ce hR hS hl h6 h7 g1 g2 g3
  exact vx_widen (by omega) (by omega) (h2 E w H locs pc ls rest q ce hq hR hS hc g1 g2 g3)
end
end JLOGIC
end
section
/-! fields, arrays, things that are made, calls -/
section JHEAP
variable {d : Nat} {mi : MI} {pc : Nat} {lc : List (Option Value)} {st : List Value} {w : Wd} {kb sb : Nat} {Q : Po}
theorem Cx.hts {d : Nat} {mi : MI} {p : Program} {l : Launch} {R : Room} {s : State} {m : MethodId} {args : Array Value} {meth : Method} {c : Code} {z : Nat} {sa : Nat → Nat} {D : va_G} {dA : Nat → ClassId} (C : Cx d mi p l R s m args meth c z sa D dA) : ∀ w ∈ AL, w.before args s = true := C.1.2.2.2.2
theorem Cx.own {d : Nat} {mi : MI} {p : Program} {l : Launch} {R : Room} {s : State} {m : MethodId} {args : Array Value} {meth : Method} {c : Code} {z : Nat} {sa : Nat → Nat} {D : va_G} {dA : Nat → ClassId} (C : Cx d mi p l R s m args meth c z sa D dA) : s.vm.findClass mi.1.cls = some m.cls := C.1.2.2.2.1
theorem Cx.hK {d : Nat} {mi : MI} {p : Program} {l : Launch} {R : Room} {s : State} {m : MethodId} {args : Array Value} {meth : Method} {c : Code} {z : Nat} {sa : Nat → Nat} {D : va_G} {dA : Nat → ClassId} (C : Cx d mi p l R s m args meth c z sa D dA) : va_K D vwCl (tyL dA) s := C.2.2.2.2.2.2.2.1
theorem Cx.hF {d : Nat} {mi : MI} {p : Program} {l : Launch} {R : Room} {s : State} {m : MethodId} {args : Array Value} {meth : Method} {c : Code} {z : Nat} {sa : Nat → Nat} {D : va_G} {dA : Nat → ClassId} (C : Cx d mi p l R s m args meth c z sa D dA) : SF sa (Az z) s s.heap := C.2.2.2.2.2.2.2.2.1
theorem Cx.hz {d : Nat} {mi : MI} {p : Program} {l : Launch} {R : Room} {s : State} {m : MethodId} {args : Array Value} {meth : Method} {c : Code} {z : Nat} {sa : Nat → Nat} {D : va_G} {dA : Nat → ClassId} (C : Cx d mi p l R s m args meth c z sa D dA) : z ≤ s.heap.size := C.2.2.2.2.2.2.2.2.2
theorem Cx.room {d : Nat} {mi : MI} {p : Program} {l : Launch} {R : Room} {s : State} {m : MethodId} {args : Array Value} {meth : Method} {c : Code} {z : Nat} {sa : Nat → Nat} {D : va_G} {dA : Nat → ClassId} (C : Cx d mi p l R s m args meth c z sa D dA) : d ≤ R.frames ∧ 64 * d ≤ R.locals := C.2.2.2.2.2.2.1
/-- the field k of the objects ci, of the type ty, as the entry idx of the class own names it -/
def FL (own : String) (idx ci k : Nat) (ty : FieldType) (fin : Bool) : Prop :=
  ∃ (C : String) (T : u_T) (N : Nat) (tys : Nat → FieldType), vwCl[ci]? = some (C, T, N) ∧ k < N ∧ (∀ w ∈ u_ws C T N, w ∈ AL) ∧ (∀ j, j < N → parseFieldDescriptor (T j).2.2.1 = some (tys j)) ∧ (∀ a, a < N → ∀ b, b < N → a ≠ b → (T a).2.1 ≠ (T b).2.1) ∧
    Cond.fieldLink own idx (T k).1 (T k).2.1 (T k).2.2.1 ∈ AL ∧ tys k = ty ∧ (T k).2.2.2 = fin ∧ (fin = true → (T k).1 = own)
theorem FL.ne_dead {own : String} {idx ci k : Nat} {ty : FieldType} {fin : Bool} (h : FL own idx ci k ty fin) (fs : List Value) : (Sum.inr (ci, fs) : Ce) ≠ dead := by
  obtain ⟨C, T, N, tys, hc, -⟩ := h
  intro e
  unfold dead at e
  injection e with e
  injection e with e1 e2
  subst e1
  rw [show vwCl[9999]? = none from rfl] at hc
  cases hc
theorem J_getfield {idx ci k : Nat} {ty : FieldType} {fin : Bool} {a : Nat} {fs : List Value} {v : Value} (hd : decode mi.2.1 pc = .ok (.getfield idx, 3)) (hL : FL mi.1.cls idx ci k ty fin) (ha : w.1 a = .inr (ci, fs)) (hv : fs[k]? = some v) (kk : J d mi (pc + 3) lc (v :: st) w kb sb Q) : J d mi pc lc (.ref a :: st) w kb sb Q := by
  intro p l e R s m args below meth c z sa D dA Z mc ms C h1 h2 h3 h4 h5 H locs cells slots ls hR hS hl h6 h7
  obtain ⟨g1, g2, g3⟩ := hR.at ha (hL.ne_dead fs)
  obtain ⟨CC, T, N, tys, hc, hk, hws, -, -, hlk, -, -, -⟩ := hL
  exact va_get (D := D) (cl := vwCl) (tys := tyL dA) (ws := [(adr sa z a, tr sa z dA (.inr (ci, fs)))]) C.1.1 C.1.2.1 C.hts hws C.own C.hK (fun k q hq => by
    cases k with
    | zero => cases hq; exact g3
    | succ k => cases hq) 0 rfl hc k hk (C.hts _ hlk) (fun _ h => h) (v := mv sa z v) (by simp [hv]) hd (kk p l e R s m args below meth c z sa D dA Z mc ms C h1 h2 h3 h4 h5 H locs cells slots ls hR hS hl h6 h7)
theorem mv_defv {sa : Nat → Nat} {z : Nat} (ty : FieldType) : mv sa z (defaultValue ty) = defaultValue ty := by cases ty <;> rfl
theorem J_putG {idx ci k : Nat} {ty : FieldType} {fin : Bool} {a : Nat} {fs : List Value} {v : Value} (hd : decode mi.2.1 pc = .ok (.putfield idx, 3)) (hL : FL mi.1.cls idx ci k ty fin) (hini : fin = true → mi.1.name = "<init>") (ha : w.1 a = .inr (ci, fs)) (hlen : k < fs.length) (hn : ∀ sa z, narrow ty (mv sa z v) = mv sa z v) (hfit : ∀ sa z, fits ty (mv sa z v) = true) (kk : J d mi (pc + 3) lc st (upW w a (.inr (ci, fs.set k v))) kb sb Q) : J d mi pc lc (v :: .ref a :: st) w kb sb Q := by
  intro p l e R s m args below meth c z sa D dA Z mc ms C h1 h2 h3 h4 h5 H locs cells slots ls hR hS hl h6 h7
  have hnd := hL.ne_dead fs
  obtain ⟨g1, g2, g3⟩ := hR.at ha hnd
  obtain ⟨CC, T, N, tys, hc, hk, hws, htys, hnm, hlk, hty, hfin, hdec⟩ := hL
  have hap := va_apart (own := mi.1.cls) C.hts hws tys htys hnm C.hK hc
  obtain ⟨r, q0, cell, q1, q2, q3, q4⟩ := g3
  have hr : r = (CC, T, N) := Option.some.inj (q0.symm.trans hc)
  subst hr
  obtain ⟨hSl, hfc, kC, hkC, hkind⟩ := C.hK.1 ci _ hc
  obtain ⟨cf, kf, fi, f, hi, hsl⟩ := hSl k hk
  have hlays := u_lays C.hts hws hk
  obtain ⟨hst, hcast, hity⟩ := u_facts hfc hkC hlays hi
  obtain ⟨n1, n2⟩ := u_fits (v := mv sa z v) hfc hkC hkind hlays hi (htys k hk) (by rw [hty]; exact hn sa z) (by rw [hty]; exact hfit sa z)
  have hfl : hasFlag f.accessFlags Acc.final = false ∨ (m.cls = cf ∧ meth.name = "<init>") := by
    cases hfb : fin with
    | false =>
      refine Or.inl ?_
      have hlay := C.hts _ (hws _ (u_in_lay hk))
      unfold u_lay at hlay
      rw [if_neg (by rw [hfin, hfb]; decide)] at hlay
      exact (u_store (v := mv sa z v) hfc hkC hkind hlay hi (htys k hk) (by rw [hty]; exact hn sa z) (by rw [hty]; exact hfit sa z)).1
    | true =>
      refine Or.inr ⟨?_, by rw [C.2.2.2.1]; exact hini hfb⟩
      have hlay := C.hts _ (hws _ (u_in_lay hk))
      unfold u_lay at hlay
      rw [if_pos (by rw [hfin, hfb])] at hlay
      obtain ⟨_, _, c', _, _, _, -, -, hf', -, -, -, hown2, -⟩ := Cond.laysFinal_spec hlay
      have e1 : c' = cf := by have := hi.symm.trans hf'; simp at this; exact this.1.symm
      rw [hdec hfb] at hown2
      rw [← e1]
      exact Option.some.inj (C.own.symm.trans hown2)
  have hlt : f.slot < cell.slots.size := by
    rw [hsl]
    exact k2_hasslot (q4 k hk)
  refine W.of (H' := H.setIfInBounds (adr sa z a) (cell.setSlot f.slot (mv sa z v))) (locs' := locs ++ [⟨adr sa z a, f.slot⟩]) (cells' := cells) (slots' := slots) (g2 := F0 m (pc + 3) ls (st.map (mv sa z))) (fun T0 hT X => ?_) ?_
  · subst hT
    obtain ⟨vm', X', stp⟩ := X.putfield C.1.1 C.own (C.hts _ hlk) hi hst hfl q1 (by rw [q3]; exact fun h => by cases h) hlt n1 (by rw [q2, q3]; exact n2) (g := F0 m pc ls ((v :: .ref a :: st).map (mv sa z))) rfl rfl (by rw [C.1.2.1]; exact hd)
    exact ⟨_, rfl, X', stp⟩
  · have ha' : adr sa z a < H.size := (Array.getElem?_eq_some_iff.mp q1).1
    have o1 : ∀ q : Nat, q ≠ adr sa z a → (H.setIfInBounds (adr sa z a) (cell.setSlot f.slot (mv sa z v)))[q]? = H[q]? := fun q hq => by simp [Array.getElem?_setIfInBounds, Ne.symm hq]
    have e1 : (H.setIfInBounds (adr sa z a) (cell.setSlot f.slot (mv sa z v)))[adr sa z a]? = some (cell.setSlot f.slot (mv sa z v)) := by simp [Array.getElem?_setIfInBounds, ha']
    refine kk p l e R s m args below meth c z sa D dA Z mc ms C h1 h2 h3 h4 h5 _ _ cells slots ls (hR.set ha hnd (by simp) o1 ?_) (hS.put (by simp) o1 (by show z ≤ _; rw [adr_ge g1]; omega)) hl h6 h7
    show va_at D vwCl (_, .inr (ci, (fs.set k v).map (mv sa z))) _
    refine ⟨_, hc, ?_⟩
    rw [List.map_set]
    rw [hsl] at e1 ⊢
    exact t_OB.to (V := updV (vp_V (fs.map (mv sa z))) k (mv sa z v)) ⟨_, e1, q2, q3, t_set q4 hap hk _⟩ (fun j _ => vp_updV_set (by rw [List.length_map]; exact hlen) _ j)
theorem inl_nd (x : Nat × vp_A) : (Sum.inl x : Ce) ≠ dead := by
  unfold dead
  exact fun e => by cases e
def ov : Option Nat → Value
  | none => .null
  | some r => .ref r
theorem ov_mv (sa : Nat → Nat) (z : Nat) (o : Option Nat) : va_rf (o.map (adr sa z)) = mv sa z (ov o) := by cases o <;> rfl
theorem one_P {D : va_G} {q : Nat × va_E} {H : Heap} (h : va_at D vwCl q H) : va_P D vwCl [q] H := fun k x hx => by
  cases k with
  | zero => cases hx; exact h
  | succ k => cases hx
theorem J_iaload {a n : Nat} {f : Nat → Int32} {i : Int32} (hd : decode mi.2.1 pc = .ok (.iaload, 1)) (ha : w.1 a = .inl (0, n, .inl f)) (hi : vp_in i n) (kk : J d mi (pc + 1) lc (.int (f i.toNatClampNeg) :: st) w kb sb Q) : J d mi pc lc (.int i :: .ref a :: st) w kb sb Q := by
  intro p l e R s m args below meth c z sa D dA Z mc ms C h1 h2 h3 h4 h5 H locs cells slots ls hR hS hl h6 h7
  obtain ⟨g1, g2, g3⟩ := hR.at ha (inl_nd _)
  exact va_iald (tys := tyL dA) C.1.1 C.1.2.1 C.hK (one_P g3) 0 0 (cA := dA 0) (n := n) (f := f) rfl rfl hi hd (kk p l e R s m args below meth c z sa D dA Z mc ms C h1 h2 h3 h4 h5 H locs cells slots ls hR hS hl h6 h7)
theorem J_caload {a n : Nat} {f : Nat → Int32} {i : Int32} (hd : decode mi.2.1 pc = .ok (.caload, 1)) (ha : w.1 a = .inl (1, n, .inl f)) (hi : vp_in i n) (kk : J d mi (pc + 1) lc (.int (f i.toNatClampNeg) :: st) w kb sb Q) : J d mi pc lc (.int i :: .ref a :: st) w kb sb Q := by
  intro p l e R s m args below meth c z sa D dA Z mc ms C h1 h2 h3 h4 h5 H locs cells slots ls hR hS hl h6 h7
  obtain ⟨g1, g2, g3⟩ := hR.at ha (inl_nd _)
  exact va_cald (tys := tyL dA) C.1.1 C.1.2.1 C.hK (one_P g3) 0 1 (cA := dA 1) (n := n) (f := f) rfl rfl hi hd (kk p l e R s m args below meth c z sa D dA Z mc ms C h1 h2 h3 h4 h5 H locs cells slots ls hR hS hl h6 h7)
theorem J_laload {a n : Nat} {f : Nat → Int64} {i : Int32} (hd : decode mi.2.1 pc = .ok (.laload, 1)) (ha : w.1 a = .inl (2, n, .inr (.inl f))) (hi : vp_in i n) (kk : J d mi (pc + 1) lc (.long (f i.toNatClampNeg) :: st) w kb sb Q) : J d mi pc lc (.int i :: .ref a :: st) w kb sb Q := by
  intro p l e R s m args below meth c z sa D dA Z mc ms C h1 h2 h3 h4 h5 H locs cells slots ls hR hS hl h6 h7
  obtain ⟨g1, g2, g3⟩ := hR.at ha (inl_nd _)
  exact va_lald (tys := tyL dA) C.1.1 C.1.2.1 C.hK (one_P g3) 0 2 (cA := dA 2) (n := n) (f := f) rfl rfl hi hd (kk p l e R s m args below meth c z sa D dA Z mc ms C h1 h2 h3 h4 h5 H locs cells slots ls hR hS hl h6 h7)
theorem J_daload {a n : Nat} {f : Nat → UInt64} {i : Int32} (hd : decode mi.2.1 pc = .ok (.daload, 1)) (ha : w.1 a = .inl (3, n, .inr (.inr (.inr (.inl f))))) (hi : vp_in i n) (kk : J d mi (pc + 1) lc (.double (f i.toNatClampNeg) :: st) w kb sb Q) : J d mi pc lc (.int i :: .ref a :: st) w kb sb Q := by
  intro p l e R s m args below meth c z sa D dA Z mc ms C h1 h2 h3 h4 h5 H locs cells slots ls hR hS hl h6 h7
  obtain ⟨g1, g2, g3⟩ := hR.at ha (inl_nd _)
  exact va_dald (tys := tyL dA) C.1.1 C.1.2.1 C.hK (one_P g3) 0 3 (cA := dA 3) (n := n) (f := f) rfl rfl hi hd (kk p l e R s m args below meth c z sa D dA Z mc ms C h1 h2 h3 h4 h5 H locs cells slots ls hR hS hl h6 h7)
theorem J_aaload {a n : Nat} {f : Nat → Option Nat} {i : Int32} (hd : decode mi.2.1 pc = .ok (.aaload, 1)) (ha : w.1 a = .inl (4, n, .inr (.inr (.inr (.inr f))))) (hi : vp_in i n) (kk : J d mi (pc + 1) lc (ov (f i.toNatClampNeg) :: st) w kb sb Q) : J d mi pc lc (.int i :: .ref a :: st) w kb sb Q := by
  intro p l e R s m args below meth c z sa D dA Z mc ms C h1 h2 h3 h4 h5 H locs cells slots ls hR hS hl h6 h7
  obtain ⟨g1, g2, g3⟩ := hR.at ha (inl_nd _)
  refine va_aldq (tys := tyL dA) C.1.1 C.1.2.1 C.hK (one_P g3) 0 4 (cA := dA 4) (C := RX4) (n := n) (f := fun j => (f j).map (adr sa z)) rfl rfl hi hd ?_
  have h := kk p l e R s m args below meth c z sa D dA Z mc ms C h1 h2 h3 h4 h5 H locs cells slots ls hR hS hl h6 h7
  rw [List.map_cons, ← ov_mv] at h
  exact h
theorem J_alen {a t n : Nat} {x : (Nat → Int32) ⊕ (Nat → Int64) ⊕ (Nat → UInt32) ⊕ (Nat → UInt64) ⊕ (Nat → Option Nat)} {v : Int32} (hd : decode mi.2.1 pc = .ok (.arraylength, 1)) (ha : w.1 a = .inl (t, n, x)) (ht : t < 5) (hv : Int32.ofNat n = v) (kk : J d mi (pc + 1) lc (.int v :: st) w kb sb Q) : J d mi pc lc (.ref a :: st) w kb sb Q := by
  intro p l e R s m args below meth c z sa D dA Z mc ms C h1 h2 h3 h4 h5 H locs cells slots ls hR hS hl h6 h7
  obtain ⟨g1, g2, g3⟩ := hR.at ha (inl_nd _)
  obtain ⟨ty, hty⟩ : ∃ ty, (tyL dA)[t]? = some (dA t, ty) := by
    match t, ht with
    | 0, _ => exact ⟨_, rfl⟩
    | 1, _ => exact ⟨_, rfl⟩
    | 2, _ => exact ⟨_, rfl⟩
    | 3, _ => exact ⟨_, rfl⟩
    | 4, _ => exact ⟨_, rfl⟩
  refine va_alen (tys := tyL dA) C.1.1 C.1.2.1 C.hK (one_P g3) 0 t (cA := dA t) (x := trA sa z (n, x)) rfl hty ?_ hd (kk p l e R s m args below meth c z sa D dA Z mc ms C h1 h2 h3 h4 h5 H locs cells slots ls hR hS hl h6 h7)
  rw [← hv]
  rcases x with f | f | f | f | f <;> rfl
theorem J_iastore {a n : Nat} {f : Nat → Int32} {i : Int32} {x : Int32} (hd : decode mi.2.1 pc = .ok (.iastore, 1)) (ha : w.1 a = .inl (0, n, .inl f)) (hi : vp_in i n) (kk : J d mi (pc + 1) lc st (upW w a (.inl (0, n, .inl (upd f i.toNatClampNeg x)))) kb sb Q) : J d mi pc lc (.int x :: .int i :: .ref a :: st) w kb sb Q := by
  intro p l e R s m args below meth c z sa D dA Z mc ms C h1 h2 h3 h4 h5 H locs cells slots ls hR hS hl h6 h7
  obtain ⟨g1, g2, g3⟩ := hR.at ha (inl_nd _)
  have g4 : H[adr sa z a]? = some (vp_cell (dA 0) (n, .inl f)) := g3
  refine W.iast C.1.1 C.1.2.1 g4 ((C.hK.2 0 _ rfl).1 n (fun j => .int (f j))) (fun q => by cases q) (by show ¬ (i < 0 ∨ (arrV _ _ _).slots.size ≤ _); rw [arrV_size]; exact hi) rfl rfl hd fun H1 e1 zq oq => ?_
  refine kk p l e R s m args below meth c z sa D dA Z mc ms C h1 h2 h3 h4 h5 H1 _ cells slots ls (hR.set ha (inl_nd _) zq oq ?_) (hS.put zq oq (by show z ≤ _; rw [adr_ge g1]; omega)) hl h6 h7
  show H1[adr sa z a]? = some (vp_cell (dA 0) (n, .inl (upd f i.toNatClampNeg x)))
  rw [e1]
  rw [vp_cell_i, vp_cell_i, arrV_store]
  congr 2
  funext q
  by_cases hq : q = i.toNatClampNeg
  · subst hq
    simp [updV, upd, vp_nar]
    try rfl
  · simp [updV, upd, hq]
theorem J_castore {a n : Nat} {f : Nat → Int32} {i : Int32} {x : Int32} (hd : decode mi.2.1 pc = .ok (.castore, 1)) (ha : w.1 a = .inl (1, n, .inl f)) (hi : vp_in i n) (kk : J d mi (pc + 1) lc st (upW w a (.inl (1, n, .inl (upd f i.toNatClampNeg (vp_nar .char x))))) kb sb Q) : J d mi pc lc (.int x :: .int i :: .ref a :: st) w kb sb Q := by
  intro p l e R s m args below meth c z sa D dA Z mc ms C h1 h2 h3 h4 h5 H locs cells slots ls hR hS hl h6 h7
  obtain ⟨g1, g2, g3⟩ := hR.at ha (inl_nd _)
  have g4 : H[adr sa z a]? = some (vp_cell (dA 1) (n, .inl f)) := g3
  refine W.cast C.1.1 C.1.2.1 g4 ((C.hK.2 1 _ rfl).1 n (fun j => .int (f j))) (fun q => by cases q) (by show ¬ (i < 0 ∨ (arrV _ _ _).slots.size ≤ _); rw [arrV_size]; exact hi) rfl rfl hd fun H1 e1 zq oq => ?_
  refine kk p l e R s m args below meth c z sa D dA Z mc ms C h1 h2 h3 h4 h5 H1 _ cells slots ls (hR.set ha (inl_nd _) zq oq ?_) (hS.put zq oq (by show z ≤ _; rw [adr_ge g1]; omega)) hl h6 h7
  show H1[adr sa z a]? = some (vp_cell (dA 1) (n, .inl (upd f i.toNatClampNeg (vp_nar .char x))))
  rw [e1]
  rw [vp_cell_i, vp_cell_i, arrV_store]
  congr 2
  funext q
  by_cases hq : q = i.toNatClampNeg
  · subst hq
    simp [updV, upd, vp_nar]
    try rfl
  · simp [updV, upd, hq]
theorem J_lastore {a n : Nat} {f : Nat → Int64} {i : Int32} {x : Int64} (hd : decode mi.2.1 pc = .ok (.lastore, 1)) (ha : w.1 a = .inl (2, n, .inr (.inl f))) (hi : vp_in i n) (kk : J d mi (pc + 1) lc st (upW w a (.inl (2, n, .inr (.inl (vp_updL f i.toNatClampNeg x))))) kb sb Q) : J d mi pc lc (.long x :: .int i :: .ref a :: st) w kb sb Q := by
  intro p l e R s m args below meth c z sa D dA Z mc ms C h1 h2 h3 h4 h5 H locs cells slots ls hR hS hl h6 h7
  obtain ⟨g1, g2, g3⟩ := hR.at ha (inl_nd _)
  have g4 : H[adr sa z a]? = some (vp_cell (dA 2) (n, .inr (.inl f))) := g3
  refine W.last C.1.1 C.1.2.1 g4 ((C.hK.2 2 _ rfl).1 n (fun j => .long (f j))) (fun q => by cases q) (by show ¬ (i < 0 ∨ (arrV _ _ _).slots.size ≤ _); rw [arrV_size]; exact hi) rfl rfl hd fun H1 e1 zq oq => ?_
  refine kk p l e R s m args below meth c z sa D dA Z mc ms C h1 h2 h3 h4 h5 H1 _ cells slots ls (hR.set ha (inl_nd _) zq oq ?_) (hS.put zq oq (by show z ≤ _; rw [adr_ge g1]; omega)) hl h6 h7
  show H1[adr sa z a]? = some (vp_cell (dA 2) (n, .inr (.inl (vp_updL f i.toNatClampNeg x))))
  rw [e1]
  rw [vp_cell_l, vp_cell_l, arrV_store]
  congr 2
  funext q
  by_cases hq : q = i.toNatClampNeg
  · subst hq
    simp [updV, vp_updL, vp_nar]
    try rfl
  · simp [updV, vp_updL, hq]
theorem J_dastore {a n : Nat} {f : Nat → UInt64} {i : Int32} {x : UInt64} (hd : decode mi.2.1 pc = .ok (.dastore, 1)) (ha : w.1 a = .inl (3, n, .inr (.inr (.inr (.inl f))))) (hi : vp_in i n) (kk : J d mi (pc + 1) lc st (upW w a (.inl (3, n, .inr (.inr (.inr (.inl (vf_upd f i.toNatClampNeg x))))))) kb sb Q) : J d mi pc lc (.double x :: .int i :: .ref a :: st) w kb sb Q := by
  intro p l e R s m args below meth c z sa D dA Z mc ms C h1 h2 h3 h4 h5 H locs cells slots ls hR hS hl h6 h7
  obtain ⟨g1, g2, g3⟩ := hR.at ha (inl_nd _)
  have g4 : H[adr sa z a]? = some (vp_cell (dA 3) (n, .inr (.inr (.inr (.inl f))))) := g3
  refine W.dast C.1.1 C.1.2.1 g4 ((C.hK.2 3 _ rfl).1 n (fun j => .double (f j))) (fun q => by cases q) (by show ¬ (i < 0 ∨ (arrV _ _ _).slots.size ≤ _); rw [arrV_size]; exact hi) rfl rfl hd fun H1 e1 zq oq => ?_
  refine kk p l e R s m args below meth c z sa D dA Z mc ms C h1 h2 h3 h4 h5 H1 _ cells slots ls (hR.set ha (inl_nd _) zq oq ?_) (hS.put zq oq (by show z ≤ _; rw [adr_ge g1]; omega)) hl h6 h7
  show H1[adr sa z a]? = some (vp_cell (dA 3) (n, .inr (.inr (.inr (.inl (vf_upd f i.toNatClampNeg x))))))
  rw [e1]
  rw [vp_cell_d, vp_cell_d, arrV_store]
  congr 2
  funext q
  by_cases hq : q = i.toNatClampNeg
  · subst hq
    simp [updV, vf_upd, vp_nar]
    try rfl
  · simp [updV, vf_upd, hq]
theorem J_aastore {a b n ci : Nat} {f : Nat → Option Nat} {fs : List Value} {i : Int32} (hd : decode mi.2.1 pc = .ok (.aastore, 1)) (ha : w.1 a = .inl (4, n, .inr (.inr (.inr (.inr f))))) (hb : w.1 b = .inr (ci, fs)) (hci : ci = 4) (hi : vp_in i n) (kk : J d mi (pc + 1) lc st (upW w a (.inl (4, n, .inr (.inr (.inr (.inr (va_up f i.toNatClampNeg (some b)))))))) kb sb Q) : J d mi pc lc (.ref b :: .int i :: .ref a :: st) w kb sb Q := by
  intro p l e R s m args below meth c z sa D dA Z mc ms C h1 h2 h3 h4 h5 H locs cells slots ls hR hS hl h6 h7
  subst hci
  obtain ⟨g1, g2, g3⟩ := hR.at ha (inl_nd _)
  obtain ⟨f1, f2, f3⟩ := hR.at hb (by unfold dead; exact fun e => by cases e)
  have g4 : H[adr sa z a]? = some (vp_cell (dA 4) (n, .inr (.inr (.inr (.inr fun j => (f j).map (adr sa z)))))) := g3
  have hlt : i.toNatClampNeg < n := Nat.not_le.mp fun q => hi (Or.inr q)
  have h0 : ¬ i < 0 := fun q => hi (Or.inl q)
  obtain ⟨r', hr', cellV, k1, k2, k3, -⟩ := f3
  have hcl : vwCl[4]? = some (RX4, TX4, 15) := rfl
  have hcls := (C.hK.1 4 _ hcl).2
  obtain ⟨kA, comp, m1, m2, m3, -⟩ := (C.hK.2 4 _ rfl).2
  have hcomp : comp = D.1 4 := Option.some.inj (m3.symm.trans hcls.1)
  subst hcomp
  obtain ⟨kC, hkC, -⟩ := hcls.2
  refine W.aast C.1.1 C.1.2.1 g4 (fun q h => by cases h) (fun h => by cases h) m1 m2 rfl hkC ⟨h0, by show _ < (arrV _ _ _).slots.size; rw [arrV_size]; exact hlt⟩ k1 (fun q h => by rw [k3] at h; cases h) (by rw [k2]; exact hkC) (by rw [k2]; exact va_assign hcls) rfl rfl hd fun H1 e1 zq oq => ?_
  refine kk p l e R s m args below meth c z sa D dA Z mc ms C h1 h2 h3 h4 h5 H1 _ cells slots ls (hR.set ha (inl_nd _) zq oq ?_) (hS.put zq oq (by show z ≤ _; rw [adr_ge g1]; omega)) hl h6 h7
  show H1[adr sa z a]? = some (vp_cell (dA 4) (n, .inr (.inr (.inr (.inr fun j => (va_up f i.toNatClampNeg (some b) j).map (adr sa z))))))
  rw [e1]
  rw [vp_cell_q, vp_cell_q, arrV_store]
  congr 2
  funext q
  by_cases hq : q = i.toNatClampNeg
  · subst hq
    simp [updV, va_up, va_rf]
  · simp [updV, va_up, hq]
/-- the objects ci can be made: their class by the entry idx, their fields' defaults -/
def NL (own : String) (idx ci N : Nat) (fs : List Value) : Prop :=
  ∃ (C : String) (T : u_T) (tys : Nat → FieldType), vwCl[ci]? = some (C, T, N) ∧ (∀ w ∈ u_ws C T N, w ∈ AL) ∧ (∀ j, j < N → parseFieldDescriptor (T j).2.2.1 = some (tys j)) ∧ Cond.classLink own idx C ∈ AL ∧ Cond.instantiable C N ∈ AL ∧ Cond.initialized C ∈ AL ∧ fs = (List.range N).map (fun j => defaultValue (tys j))
theorem J_new {idx ci N : Nat} {fs : List Value} (hd : decode mi.2.1 pc = .ok (.new idx, 3)) (hL : NL mi.1.cls idx ci N fs) (hf : w.2.2 = true) (kk : J d mi (pc + 3) lc (.ref (100 + w.2.1) :: st) (nwW w (.inr (ci, fs))) kb sb Q) : J d mi pc lc st w (kb + 1) (sb + N) Q := by
  intro p l e R s m args below meth c z sa D dA Z mc ms C h1 h2 h3 h4 h5 H locs cells slots ls hR hS hl h6 h7
  obtain ⟨CC, T, tys, hc, hws, htys, w1, w2, w3, hfs⟩ := hL
  have hKn := C.hK.1 ci _ hc
  refine W.newcK C.1.1 C.1.2.1 C.own (C.hts _ w1) (C.hts _ w2) (C.hts _ w3) rfl hd (by omega) (by omega) hKn.2.1 rfl fun H1 kC hkC e1 z1 o1 => ?_
  have hadr : adr sa z (100 + w.2.1) = H.size := by rw [adr_ge (by omega), hR.1 hf]; omega
  have hs : va_S (Az z) s.heap H1 locs := ⟨Nat.le_trans hS.1 (by omega), fun x a1 a2 => (o1 x (Nat.lt_of_lt_of_le a1 hS.1)).trans (hS.2.1 x a1 a2), hS.2.2⟩
  have hmap : fs.map (mv sa z) = fs := by
    rw [hfs, List.map_map]
    exact List.map_congr_left fun j _ => mv_defv _
  have k := kk p l e R s m args below meth c z sa D dA Z mc ms C h1 h2 h3 h4 h5 H1 locs (cells + 1) (slots + N) ls (hR.new hf z1 o1 (x := .inr (ci, fs)) ⟨_, hc, (u_born tys C.hts hws hKn hkC e1 htys).to (fun j hj => ?_)⟩) hs hl (by omega) (by omega)
  · show W p l e R s m args below meth c H1 locs (cells + 1) (slots + N) Z (F0 m (pc + 3) ls (.ref H.size :: st.map (mv sa z)))
    rw [← hadr]
    exact k
  · show _ = vp_V (fs.map (mv sa z)) j
    rw [hmap, hfs]
    simp [vp_V, List.getD_eq_getElem?_getD, hj]
theorem J_newa_int {x : Int32} {N : Nat} (hd : decode mi.2.1 pc = .ok (.newarray .int, 2)) (hw : Cond.arrayClass (newarray.typeOf .int) ∈ AL) (hx : ¬ x < 0) (hN : x.toNatClampNeg = N) (hB : N * 8 ≤ 536870912) (hf : w.2.2 = true) (kk : J d mi (pc + 2) lc (.ref (100 + w.2.1) :: st) (nwW w (.inl (0, N, .inl fun _ => 0))) kb sb Q) : J d mi pc lc (.int x :: st) w (kb + 1) (sb + N) Q := by
  intro p l e R s m args below meth c z sa D dA Z mc ms C h1 h2 h3 h4 h5 H locs cells slots ls hR hS hl h6 h7
  refine va_newaK (atype := .int) C.1.1 C.1.2.1 (C.hts _ hw) rfl hd rfl hx hN (by show N * 4 ≤ _; omega) (by omega) (by omega) rfl fun H1 cA e1 z1 o1 hA hcA => ?_
  have hcA' : cA = dA 0 := Option.some.inj (hcA.symm.trans (C.hK.2 0 _ rfl).2)
  subst hcA'
  have hadr : adr sa z (100 + w.2.1) = H.size := by rw [adr_ge (by omega), hR.1 hf]; omega
  have hs : va_S (Az z) s.heap H1 locs := ⟨Nat.le_trans hS.1 (by omega), fun x a1 a2 => (o1 x (Nat.lt_of_lt_of_le a1 hS.1)).trans (hS.2.1 x a1 a2), hS.2.2⟩
  have k := kk p l e R s m args below meth c z sa D dA Z mc ms C h1 h2 h3 h4 h5 H1 locs (cells + 1) (slots + N) ls (hR.new hf z1 o1 (x := .inl (0, N, .inl fun _ => 0)) e1) hs hl (by omega) (by omega)
  show W p l e R s m args below meth c H1 locs (cells + 1) (slots + N) Z (F0 m (pc + 2) ls (.ref H.size :: st.map (mv sa z)))
  rw [← hadr]
  exact k
theorem J_newa_char {x : Int32} {N : Nat} (hd : decode mi.2.1 pc = .ok (.newarray .char, 2)) (hw : Cond.arrayClass (newarray.typeOf .char) ∈ AL) (hx : ¬ x < 0) (hN : x.toNatClampNeg = N) (hB : N * 8 ≤ 536870912) (hf : w.2.2 = true) (kk : J d mi (pc + 2) lc (.ref (100 + w.2.1) :: st) (nwW w (.inl (1, N, .inl fun _ => 0))) kb sb Q) : J d mi pc lc (.int x :: st) w (kb + 1) (sb + N) Q := by
  intro p l e R s m args below meth c z sa D dA Z mc ms C h1 h2 h3 h4 h5 H locs cells slots ls hR hS hl h6 h7
  refine va_newaK (atype := .char) C.1.1 C.1.2.1 (C.hts _ hw) rfl hd rfl hx hN (by show N * 2 ≤ _; omega) (by omega) (by omega) rfl fun H1 cA e1 z1 o1 hA hcA => ?_
  have hcA' : cA = dA 1 := Option.some.inj (hcA.symm.trans (C.hK.2 1 _ rfl).2)
  subst hcA'
  have hadr : adr sa z (100 + w.2.1) = H.size := by rw [adr_ge (by omega), hR.1 hf]; omega
  have hs : va_S (Az z) s.heap H1 locs := ⟨Nat.le_trans hS.1 (by omega), fun x a1 a2 => (o1 x (Nat.lt_of_lt_of_le a1 hS.1)).trans (hS.2.1 x a1 a2), hS.2.2⟩
  have k := kk p l e R s m args below meth c z sa D dA Z mc ms C h1 h2 h3 h4 h5 H1 locs (cells + 1) (slots + N) ls (hR.new hf z1 o1 (x := .inl (1, N, .inl fun _ => 0)) e1) hs hl (by omega) (by omega)
  show W p l e R s m args below meth c H1 locs (cells + 1) (slots + N) Z (F0 m (pc + 2) ls (.ref H.size :: st.map (mv sa z)))
  rw [← hadr]
  exact k
theorem J_newa_long {x : Int32} {N : Nat} (hd : decode mi.2.1 pc = .ok (.newarray .long, 2)) (hw : Cond.arrayClass (newarray.typeOf .long) ∈ AL) (hx : ¬ x < 0) (hN : x.toNatClampNeg = N) (hB : N * 8 ≤ 536870912) (hf : w.2.2 = true) (kk : J d mi (pc + 2) lc (.ref (100 + w.2.1) :: st) (nwW w (.inl (2, N, .inr (.inl fun _ => 0)))) kb sb Q) : J d mi pc lc (.int x :: st) w (kb + 1) (sb + N) Q := by
  intro p l e R s m args below meth c z sa D dA Z mc ms C h1 h2 h3 h4 h5 H locs cells slots ls hR hS hl h6 h7
  refine va_newaK (atype := .long) C.1.1 C.1.2.1 (C.hts _ hw) rfl hd rfl hx hN (by show N * 8 ≤ _; omega) (by omega) (by omega) rfl fun H1 cA e1 z1 o1 hA hcA => ?_
  have hcA' : cA = dA 2 := Option.some.inj (hcA.symm.trans (C.hK.2 2 _ rfl).2)
  subst hcA'
  have hadr : adr sa z (100 + w.2.1) = H.size := by rw [adr_ge (by omega), hR.1 hf]; omega
  have hs : va_S (Az z) s.heap H1 locs := ⟨Nat.le_trans hS.1 (by omega), fun x a1 a2 => (o1 x (Nat.lt_of_lt_of_le a1 hS.1)).trans (hS.2.1 x a1 a2), hS.2.2⟩
  have k := kk p l e R s m args below meth c z sa D dA Z mc ms C h1 h2 h3 h4 h5 H1 locs (cells + 1) (slots + N) ls (hR.new hf z1 o1 (x := .inl (2, N, .inr (.inl fun _ => 0))) e1) hs hl (by omega) (by omega)
  show W p l e R s m args below meth c H1 locs (cells + 1) (slots + N) Z (F0 m (pc + 2) ls (.ref H.size :: st.map (mv sa z)))
  rw [← hadr]
  exact k
theorem J_newa_double {x : Int32} {N : Nat} (hd : decode mi.2.1 pc = .ok (.newarray .double, 2)) (hw : Cond.arrayClass (newarray.typeOf .double) ∈ AL) (hx : ¬ x < 0) (hN : x.toNatClampNeg = N) (hB : N * 8 ≤ 536870912) (hf : w.2.2 = true) (kk : J d mi (pc + 2) lc (.ref (100 + w.2.1) :: st) (nwW w (.inl (3, N, .inr (.inr (.inr (.inl fun _ => 0)))))) kb sb Q) : J d mi pc lc (.int x :: st) w (kb + 1) (sb + N) Q := by
  intro p l e R s m args below meth c z sa D dA Z mc ms C h1 h2 h3 h4 h5 H locs cells slots ls hR hS hl h6 h7
  refine va_newaK (atype := .double) C.1.1 C.1.2.1 (C.hts _ hw) rfl hd rfl hx hN (by show N * 8 ≤ _; omega) (by omega) (by omega) rfl fun H1 cA e1 z1 o1 hA hcA => ?_
  have hcA' : cA = dA 3 := Option.some.inj (hcA.symm.trans (C.hK.2 3 _ rfl).2)
  subst hcA'
  have hadr : adr sa z (100 + w.2.1) = H.size := by rw [adr_ge (by omega), hR.1 hf]; omega
  have hs : va_S (Az z) s.heap H1 locs := ⟨Nat.le_trans hS.1 (by omega), fun x a1 a2 => (o1 x (Nat.lt_of_lt_of_le a1 hS.1)).trans (hS.2.1 x a1 a2), hS.2.2⟩
  have k := kk p l e R s m args below meth c z sa D dA Z mc ms C h1 h2 h3 h4 h5 H1 locs (cells + 1) (slots + N) ls (hR.new hf z1 o1 (x := .inl (3, N, .inr (.inr (.inr (.inl fun _ => 0))))) e1) hs hl (by omega) (by omega)
  show W p l e R s m args below meth c H1 locs (cells + 1) (slots + N) Z (F0 m (pc + 2) ls (.ref H.size :: st.map (mv sa z)))
  rw [← hadr]
  exact k
theorem J_anew {idx : Nat} {x : Int32} {N : Nat} (hd : decode mi.2.1 pc = .ok (.anewarray idx, 3)) (hw : Cond.classLink mi.1.cls idx RX4 ∈ AL) (hx : ¬ x < 0) (hN : x.toNatClampNeg = N) (hB : N * 4 ≤ 536870912) (hf : w.2.2 = true) (kk : J d mi (pc + 3) lc (.ref (100 + w.2.1) :: st) (nwW w (.inl (4, N, .inr (.inr (.inr (.inr fun _ => none)))))) kb sb Q) : J d mi pc lc (.int x :: st) w (kb + 1) (sb + N) Q := by
  intro p l e R s m args below meth c z sa D dA Z mc ms C h1 h2 h3 h4 h5 H locs cells slots ls hR hS hl h6 h7
  subst hN
  have hao : va_AO RX4 s := C.hF.2.2.2.2.2.2.2.2.2.2.2.2.1
  refine W.anew C.1.1 C.1.2.1 C.own (C.hts _ hw) (va_AO.use hao) rfl hd rfl hx hB (by omega) (by omega) fun cA kA comp f1 f2 f3 f4 => ?_
  have hcA' : cA = dA 4 := by
    obtain ⟨kA', comp', m1, m2, m3, m4⟩ := (C.hK.2 4 _ rfl).2
    exact Option.some.inj (f1.symm.trans m4)
  subst hcA'
  have hadr : adr sa z (100 + w.2.1) = H.size := by rw [adr_ge (by omega), hR.1 hf]; omega
  have z1 : (H.push { cls := dA 4, slots := Array.replicate x.toNatClampNeg Value.null, vm := .none }).size = H.size + 1 := by simp
  have o1 : ∀ q : Nat, q < H.size → (H.push { cls := dA 4, slots := Array.replicate x.toNatClampNeg Value.null, vm := .none })[q]? = H[q]? := fun q hq => by
    rw [Array.getElem?_push, if_neg (Nat.ne_of_lt hq)]
  have e1 : (H.push { cls := dA 4, slots := Array.replicate x.toNatClampNeg Value.null, vm := .none })[H.size]? = some (vp_cell (dA 4) (x.toNatClampNeg, .inr (.inr (.inr (.inr fun _ => none))))) := by
    rw [vp_cell_q, show (fun j : Nat => va_rf ((fun _ => none : Nat → Option Nat) j)) = fun _ => Value.null from rfl, ← arrV_new]
    simp
  have hs : va_S (Az z) s.heap (H.push { cls := dA 4, slots := Array.replicate x.toNatClampNeg Value.null, vm := .none }) locs := ⟨Nat.le_trans hS.1 (by omega), fun x a1 a2 => (o1 x (Nat.lt_of_lt_of_le a1 hS.1)).trans (hS.2.1 x a1 a2), hS.2.2⟩
  have k := kk p l e R s m args below meth c z sa D dA Z mc ms C h1 h2 h3 h4 h5 _ locs (cells + 1) (slots + x.toNatClampNeg) ls (hR.new hf z1 o1 (x := .inl (4, x.toNatClampNeg, .inr (.inr (.inr (.inr fun _ => none))))) e1) hs hl (by omega) (by omega)
  show W p l e R s m args below meth c _ locs (cells + 1) (slots + x.toNatClampNeg) Z (F0 m (pc + 3) ls (.ref H.size :: st.map (mv sa z)))
  rw [← hadr]
  exact k
end JHEAP
end
section
/-! A THROW STATEMENT, whatever the number of the link by which the constructor calls RuntimeException's (follows ctorThrowS of JvmDerived/BundleOwnThrow.lean, and vx_throwS of the names) -/
section JTHROW
/-- the chain of the constructors: E's own, then RuntimeException's and Exception's -/
theorem jchain {args : Array Value} {s : State} {pl : Platform} (hpl : pl.magicAccessors = ({} : Platform).magicAccessors) {top : MethodId} (htop : s.methodNamed? (Bundle.initS Bundle.tN) = some top) {E : String} {k : Nat} {bytes : ByteArray} (hE : Bundle.fit E = true)
    (hb : decode bytes 0 = .ok (.aload_n 0, 1) ∧ decode bytes 1 = .ok (.aload_n 1, 1) ∧ decode bytes 2 = .ok (.invokespecial k, 3) ∧ decode bytes 5 = .ok (.return_, 1))
    (h1 : ∀ c ∈ Bundle.passSAtoms E jRTE k bytes, c.before args s = true) (h2 : ∀ c ∈ Bundle.chainSAtoms jRTE [jEXC], c.before args s = true) :
    ∃ (P1 : PassC) (Ps : List PassC), Ps.length = 2 ∧ P1.LinksS pl s ∧ (∀ P, P ∈ Ps → P.LinksS pl s) ∧ s.methodNamed? (Bundle.initS E) = some P1.m ∧
        P1.sup = firstOf top (Ps.map (·.toPassT)) ∧ PassesOn top (Ps.map (·.toPassT)) := by
  obtain ⟨P, L, hm, hs⟩ := PassC.ofS_atoms (args := args) (s := s) hpl (X := E) (Y := jRTE) (Bundle.fit_spec hE).1 (by decide) hb.1 hb.2.1 hb.2.2.1 hb.2.2.2 h1
  obtain ⟨P', Ps, hlen, L', hL, hm', hsup, hpass⟩ := Bundle.chainS (args := args) hpl htop [jEXC] jRTE (by decide) (fun n hn => by rw [List.mem_singleton.mp hn]; decide) h2
  refine ⟨P, P' :: Ps, by simp [hlen], L, fun Q hQ => ?_, hm, Option.some.inj (hs.symm.trans hm'), hsup, hpass⟩
  rcases List.mem_cons.mp hQ with rfl | hQ
  · exact L'
  · exact hL Q hQ
set_option maxHeartbeats 4000000 in
theorem jctor {p : Program} {l : Launch} {e : Env} {R : Room} {s : State} {m₀ : MethodId} {args : Array Value} {below : List Frame} {meth : Method} {c : Code} {W : State} {cells slots : Nat} (X : Stand p l e R s m₀ args below meth c W [] cells slots) (hexec : p.tables.exec = Jvm.exec) (htr : e.platform.stackTraces = false) {own cls : String} {ic k : Nat} {bytes : ByteArray}
    (hown : s.vm.findClass own = some m₀.cls) (hcls : Bundle.fit cls = true) (hb : decode bytes 0 = .ok (.aload_n 0, 1) ∧ decode bytes 1 = .ok (.aload_n 1, 1) ∧ decode bytes 2 = .ok (.invokespecial k, 3) ∧ decode bytes 5 = .ok (.return_, 1))
    (h : ∀ a ∈ jAt own ic cls k bytes, a.before args s = true)
    {a : Addr} {cX : ClassId} {kX : Class} (hfoundX : s.vm.findClass cls = some cX) (hkX : s.vm.classes[cX]? = some kX) (hcell : W.heap[a]? = some (freshCell cX kX)) (hnew : s.heap.size ≤ a)
    {msg : Value} (hmsg : msg.isRef = true)
    {g : JFrame} (hg : g.method = m₀) (hsize : g.locals.size = c.maxLocals) (hlocked : g.locked = none) (hentered : g.entered = []) {rest : List Value} (hstack : g.stack = msg :: .ref a :: .ref a :: rest)
    (hd6 : decode c.code g.pc = .ok (.invokespecial ic, 3)) (hd9 : decode c.code (g.pc + 3) = .ok (.athrow, 1)) (hout : ∀ x ∈ c.exceptionTable.toList, covers x (g.pc + 3) = false)
    (hRframes : 5 < R.frames) (hRlocals : 2 * g.monitorRoom + ((Value.ref a :: rest).map fun v => v.category).sum + 81 ≤ R.locals) (hlocks : meth.locks = false) :
    ∃ U : State, Steps p.tables e below (W.setTop g) U ∧ U.status = .running ∧ Ended U below (.threw a) ∧ s.WarmedH U.vm ∧ s.sameButNew ({ U with vm := s.vm } : State) [] cells slots ∧
      ∃ ce : Cell, U.heap[a]? = some ce ∧ ce.vm = .none ∧ s.vm.findClass cls = some ce.cls := by
  have howns : e.platform.frameOwnsMonitors = true := by rw [X.admits.platform]
  have hfin : e.platform.finalization = false := by rw [X.admits.platform]
  have hpl : e.platform.magicAccessors = ({} : Platform).magicAccessors := by rw [X.admits.platform]
  have a' : ∀ x, x ∈ jAt own ic cls k bytes → x.holds args s none s [] = true := fun x hx => h x hx
  obtain ⟨T, Z0, L, -, Y⟩ := ThrowableC.of_atoms (args := args) howns hfin hpl (fun x hx => h x (by simp [jAt, hx]))
  obtain ⟨Z, M, LZ, LM, hnZ⟩ := Init0T.ofS_atoms (args := args) hpl L Y (fun x hx => h x (by simp [jAt, hx]))
  obtain ⟨P1, Ps, hlen, L1, hL, hP1m, hlink1, hlink⟩ := jchain (args := args) hpl hnZ hcls hb (fun x hx => h x (by simp [jAt, hx])) (fun x hx => h x (by simp [jAt, hx]))
  have hfound : s.vm.findClass cls = some P1.m.cls := findClass_of_methodNamed hP1m
  cases Option.some.inj (hfoundX.symm.trans hfound)
  obtain ⟨c1, kX', hc1, hk, hord, -, -, hn6⟩ := Cond.instantiable_spec (a' (.instantiable cls 6) (by simp [jAt]))
  cases Option.some.inj (hc1.symm.trans hfound)
  cases Option.some.inj (hkX.symm.trans hk)
  have hsel0 : selectMethod e.platform s.vm P1.m.cls T.fill0 = .method T.fill0 := by
    obtain ⟨c2, r2, m2, q1, q2, q3, q4, -⟩ := Cond.selects_spec (a' (.selects cls Bundle.tFill0 Bundle.tFill0) (by simp [jAt]))
    cases Option.some.inj (q1.symm.trans hfound)
    cases Option.some.inj (q2.symm.trans (State.methodFound?_of_named Y.fill0 (by decide)))
    cases Option.some.inj (q3.symm.trans Y.fill0)
    rw [Launch.admits_selectMethod X.admits]
    exact q4
  have hselF : selectMethod e.platform s.vm P1.m.cls T.fill = .method T.fill := by
    obtain ⟨c2, r2, m2, q1, q2, q3, q4, -⟩ := Cond.selects_spec (a' (.selects cls Bundle.tFill Bundle.tFill) (by simp [jAt]))
    cases Option.some.inj (q1.symm.trans hfound)
    cases Option.some.inj (q2.symm.trans (State.methodFound?_of_named Y.fill (by decide)))
    cases Option.some.inj (q3.symm.trans Y.fill)
    rw [Launch.admits_selectMethod X.admits]
    exact q4
  obtain ⟨cellS0, hcS0, hiss⟩ := Y.statics
  obtain ⟨u0, hu0⟩ := Cond.staticRefV Y.unassigned L.unassignedStatic L.statics hcS0 hiss (a' (.isRef (.static Bundle.tN "UNASSIGNED_STACK" Bundle.steD)) (by simp [jAt]))
  obtain ⟨sen, hsen⟩ := Cond.staticRefV Y.sentinel L.sentinelStatic L.statics hcS0 hiss (a' (.isRef (.static Bundle.tN "SUPPRESSED_SENTINEL" Bundle.listD)) (by simp [jAt]))
  obtain ⟨ci198, i198, fB, hk198, hg198, ha198, hsB, -, hnB, htB, hffB⟩ := Cond.ownField (t := .object "java/lang/Object") Y.found L.cls (by decide +kernel) (a' (.fieldLink Bundle.tN 198 Bundle.tN "backtrace" "Ljava/lang/Object;") (by simp [jAt])) (a' (.lays Bundle.tN Bundle.tN "backtrace" "Ljava/lang/Object;") (by simp [jAt])) e.platform hpl
  obtain ⟨cellS, hcS', heS, -, hkeep⟩ := X.same.2.2.2.2.2 T.aS cellS0 hcS0
  have hcellS : W.heap[T.aS]? = some cellS := hcS'
  have hknownS : cellS.vm ≠ .unknown := by
    rw [heS]; intro hu
    rw [show cellS0.vm = .unknown from hu] at hiss
    cases hiss
  have hneS : T.aS ≠ a := Nat.ne_of_lt (Nat.lt_of_lt_of_le (Array.getElem?_eq_some_iff.mp hcS0).1 hnew)
  obtain ⟨iM, hffM⟩ := Y.msg
  obtain ⟨tyC, dC, hdC, hdnC⟩ := Cond.laysAt hfound hk Y.cause (a' (.lays cls Bundle.tN "cause" "Ljava/lang/Throwable;") (by simp [jAt]))
  obtain ⟨tyS, dS, hdS, hdnS⟩ := Cond.laysAt hfound hk Y.stack (a' (.lays cls Bundle.tN "stackTrace" Bundle.steD) (by simp [jAt]))
  obtain ⟨tyP, dP, hdP, hdnP⟩ := Cond.laysAt hfound hk Y.supp (a' (.lays cls Bundle.tN "suppressedExceptions" Bundle.listD) (by simp [jAt]))
  obtain ⟨tyM, dM, hdM, hdnM⟩ := Cond.laysAt hfound hk hffM (a' (.lays cls Bundle.tN "detailMessage" "Ljava/lang/String;") (by simp [jAt]))
  obtain ⟨tyB, dB, hdB, hdnB⟩ := Cond.laysAt hfound hk hffB (a' (.lays cls Bundle.tN "backtrace" "Ljava/lang/Object;") (by simp [jAt]))
  have bC := Cond.laysApart hdB hdC hdnB hdnC (by rw [hnB, Y.causeName]; decide)
  have bS := Cond.laysApart hdB hdS hdnB hdnS (by rw [hnB, Y.stackName]; decide)
  have bP := Cond.laysApart hdB hdP hdnB hdnP (by rw [hnB, Y.suppName]; decide)
  have hskip : SkipFacts T e.platform s (fun u => u) u0 ((preparedCellV T.toThrowableT (freshCell P1.m.cls kX) a u0 sen).withEntry W.cur) :=
    ⟨{ ci198 := ci198, i198 := i198, fBack := fB }, ⟨hk198, hg198, ha198, hsB⟩, by
      have := fresh_default (c := P1.m.cls) tyB
      rw [htB] at this
      simpa [preparedCellV, Cell.setSlot, Cell.withEntry, Array.getElem?_setIfInBounds, bC, bS, bP, bC.symm, bS.symm, bP.symm, defaultValue] using this, fun _ _ => rfl⟩
  obtain ⟨tm, methC, cdC, kC, vm₁, hnC, -, -, -, -, -, -, -, hW₁, st1⟩ := Steps.initColdS (tb := p.tables) (e := e) (below := below) (s := s) (U := W) X.here hexec X.warmed hpl hown (t := Bundle.initS cls) rfl rfl (Bundle.fit_spec hcls).2
    (a' (.methodLink own ic (Bundle.initS cls)) (by simp [jAt])) (h (.instanceMethod (Bundle.initS cls)) (by simp [jAt, Bundle.passSAtoms])) (bytes := bytes) (maxL := 2) (h (.code (Bundle.initS cls) bytes 2 none) (by simp [jAt, Bundle.passSAtoms]))
    (f := g) hg (a := a) (msg := msg) (rest := .ref a :: rest) hstack hd6
  cases Option.some.inj (hnC.symm.trans hP1m)
  have X₁ := X.noted hW₁
  obtain ⟨vm₂, X₂, st2⟩ := X₁.ctorMessageOffV hexec (g := { g with stack := .ref a :: rest }) hg hsize T L Z LZ M LM (P1 :: Ps)
    (fun P hP => by rcases List.mem_cons.mp hP with rfl | hP; exact L1; exact hL P hP) ⟨hlink1, hlink⟩ (u0 := u0) (sen := sen) (self := a) hmsg (cell := freshCell P1.m.cls kX) (cellS := cellS)
    hcell (fun _ => by simp) (by simp) rfl rfl hsel0 hselF hcellS hneS hknownS (by rw [hkeep _ (fun q => by cases q)]; exact hu0) (by rw [hkeep _ (fun q => by cases q)]; exact hsen)
    (Takes.of_laid hk hord tyC (by rw [Y.causeType]; rfl)) (Takes.of_laid hk hord tyS (by rw [Y.stackType]; exact fits_refV_array _ u0)) (Takes.of_laid hk hord tyP (by rw [Y.suppType]; exact fits_refV_object _ sen))
    (Takes.of_laid hk hord tyM (by rw [Y.msgType]; exact fits_refV_object _ ⟨msg, hmsg⟩)) Y.objLocals hskip htr [] hd6
    (by simp only [List.length_cons, hlen]; omega) (by simp only [List.length_cons, hlen]; exact hRlocals)
  obtain ⟨hwalk, hrun, hended, hWU, hsame⟩ := X₂.athrowLeaves hexec (g := { g with stack := .ref a :: rest, pc := g.pc + 3 }) hg hlocked hentered hout (a := a) (rest := rest) rfl hd9
  have hlt : a < ((W.setVm vm₁).setVm vm₂).heap.size := (Array.getElem?_eq_some_iff.mp hcell).1
  have hU := heapAt_setCell_self (s := (W.setVm vm₁).setVm vm₂) (plainBareV T.toThrowableT (freshCell P1.m.cls kX) a u0 sen msg) hlt
  refine ⟨_, st1 _ (fun acts => ?_), hrun, hended, hWU, hsame.weaken (fun y hy hlt' => ?_) (Nat.le_refl _) (Nat.le_refl _), _, hU, rfl, hfound⟩
  · rw [doInvoke_state]
    exact st2 _ hwalk
  · rcases List.mem_append.mp hy with h1 | h1
    · exact h1
    · exfalso
      have hb9 : y.base = a := by
        simp only [List.mem_cons, List.not_mem_nil, or_false] at h1
        rcases h1 with rfl | rfl | rfl | rfl | rfl <;> rfl
      rw [hb9] at hlt'
      exact Nat.not_lt.mpr hnew hlt'
set_option maxHeartbeats 4000000 in
/-- the throw statement, from its first instruction to the method's end -/
theorem jthrow {p : Program} {l : Launch} {e : Env} {R : Room} {s : State} {m : MethodId} {args : Array Value} {below : List Frame} {meth : Method} {c : Code} {H : Heap} {locs : List Loc} {cells slots : Nat} {Qc : Array Value → State → Outcome → State → Prop} {XC : String → State → State → Prop} {free : Addr → Prop} {ls : Array Slot}
    {mi : MI} {pc mc ms : Nat} {cls : String} {A : Nat → Prop} {sa : Nat → Nat} (hexec : p.tables.exec = Jvm.exec) (hb : c.code = mi.2.1) (hl : l.stackTraces = false)
    (hown : s.vm.findClass mi.1.cls = some m.cls) (hts : ∀ w ∈ AL, w.before args s = true) (hF : SF sa A s s.heap) (hS : va_S A s.heap H locs) (hsize : ls.size = c.maxLocals) (hTI : ThrI mi pc cls) (htab : c.exceptionTable.toList = [])
    (hRframes : 5 < R.frames) (hRlocals : 84 ≤ R.locals) (hRcells : cells + 1 ≤ R.cells) (hRslots : slots + 6 ≤ R.slots) (hlocks : meth.locks = false)
    (hx : ∀ t : State, s.vm.Alike t.vm → H.size ≤ t.heap.size → (∀ q : Nat, q < H.size → t.heap[q]? = H[q]?) → XC cls s t)
    (hf : ∀ z ∈ locs, free z.base) (hc : cells + 1 ≤ mc) (hs : slots + 6 ≤ ms) :
    W p l e R s m args below meth c H locs cells slots (vx_MQ below Qc XC args s mc ms free) (F0 m pc ls []) := by
  intro T hT X
  obtain ⟨ik, is, ic, ld, k, bytes, text, hmem, d0, d3, d4, d6, d9, hk, hini, hcls, hby, hws, -⟩ := hTI
  obtain ⟨-, -, -, -, -, hmsgs, -, -, -, -, hU, hN, -, hol⟩ := hF
  obtain ⟨sta, hstr⟩ := hmsgs _ hmem
  have htr : e.platform.stackTraces = false := (show e.platform.stackTraces = l.stackTraces by rw [X.admits.platform]).trans hl
  have Y := vx_rebase X (R' := { frames := R.frames, locals := R.locals, cells := 1, slots := 6 }) (Nat.le_refl _) (Nat.le_refl _) hRcells hRslots
  obtain ⟨s', hA⟩ : ∃ z, z = (T.setVm s.vm).setFrames (.invoking m args :: below) := ⟨_, rfl⟩
  rw [← hA] at Y
  have hvm : s'.vm = s.vm := by rw [hA]; rfl
  have hhp : s'.heap = H := by rw [hA]; exact hT
  have hW0 : s.WarmedH s'.vm := by rw [hvm]; exact State.WarmedH.refl s
  have good' : ∀ w : Cond, (goodWord w || isDC w) = true → w ∈ lw_tbl → w.before args s' = true := fun w hg hw => by
    by_cases hgw : goodWord w = true
    · exact word_at hW0 (good_of_word hgw) (hts _ (AL_in hw hgw))
    · have hdc : isDC w = true := by
        cases hq : goodWord w with
        | true => exact absurd hq hgw
        | false => rw [hq] at hg; simpa using hg
      have h1 := hol w (OL_in hw hdc)
      rcases isDC_cases hdc with ⟨x, rfl⟩ | ⟨a, b, rfl⟩
      · exact va_tabs rfl hvm.symm h1
      · exact va_tabs rfl hvm.symm h1
  have hat' : ∀ w ∈ (jAt mi.1.cls ic cls k bytes).filter vx_no, w.before args s' = true := fun w hw => good' w (hws w hw).2 (hws w hw).1
  have hk' : (Cond.classLink mi.1.cls ik cls).before args s' = true := word_at hW0 (good_of_word (AL_good hk)) (hts _ hk)
  have hini' : (Cond.initialized cls).before args s' = true := word_at hW0 (good_of_word (AL_good hini)) (hts _ hini)
  have hU' : vx_Zq Bundle.tN "UNASSIGNED_STACK" Bundle.steD A s' s'.heap := by rw [hhp]; exact vx_Zq.moved hW0.alike (hU.kept hS.2.1)
  have hN' : vx_Zq Bundle.tN "SUPPRESSED_SENTINEL" Bundle.listD A s' s'.heap := by rw [hhp]; exact vx_Zq.moved hW0.alike (hN.kept hS.2.1)
  have h : ∀ w ∈ jAt mi.1.cls ic cls k bytes, w.before args s' = true := vx_own hat' (vx_isRefq hU'.1) (vx_isRefq hN'.1) hU'.2.word hN'.2.word
  have hown' : s'.vm.findClass mi.1.cls = some m.cls := by rw [hvm]; exact hown
  have hins : (Cond.instantiable cls 6).before args s' = true := h _ (by simp [jAt])
  obtain ⟨vm₁, cX, kX, hfX, hkX, -, -, X₁, st1⟩ := Y.newCold hexec (own := mi.1.cls) (C := cls) (index := ik) (n := 6) hown' hk' hins hini'
    (g := F0 m pc ls []) rfl (by rw [hb]; exact d0) (Nat.le_refl _) (Nat.le_refl _)
  generalize hT1 : (T.setVm vm₁).pushCell { cls := cX, slots := kX.instanceTypes.map defaultValue, vm := .none } = T1 at X₁ st1
  have hcat : (Value.ref T.heap.size).category = 1 := rfl
  have hcellA : T1.heap[T.heap.size]? = some (freshCell cX kX) := by rw [← hT1]; exact State.heap_pushCell_size _ _
  have d3' : decode c.code (pc + 3) = .ok (.dup, 1) := by rw [hb]; exact d3
  have hstr' : vk_R mi.1.cls is text sta s' := vk_R.warm hW0 hstr
  obtain ⟨U, hsteps, hrun, hend, hW, hsame, ce, hce, hcv, hcc⟩ := jctor X₁ hexec htr (own := mi.1.cls) (cls := cls) (ic := ic) hown' hcls hby h hfX hkX hcellA (by rw [hhp, hT]; exact Nat.le_refl _) (msg := .ref sta) rfl
    (g := { method := m, pc := pc + 4 + ld, locals := ls, stack := .ref sta :: .ref T.heap.size :: .ref T.heap.size :: [], locked := none }) rfl hsize rfl rfl (rest := []) rfl
    (by rw [hb]; exact d6) (by rw [hb]; exact d9) (by rw [htab]; exact fun x hx => by cases hx) hRframes (by show 2 * 0 + (1 + 0) + 81 ≤ R.locals; omega) hlocks
  obtain ⟨f1, f2⟩ := vx_frame hsame
  rw [hhp] at f1 f2
  have hWs : s.WarmedH U.vm := State.WarmedH.trans hW0 hW
  have hcl : s.vm.findClass cls = some ce.cls := by
    rw [hvm] at hcc
    exact hcc
  have hall : s.sameButNew ({ U with vm := s.vm } : State) locs mc ms := by
    subst hA
    obtain ⟨e1, e2⟩ := hsame
    rw [State.setFrames_setFrames] at e1
    have h2 : (T.setVm s.vm).sameButNew ({ U with vm := s.vm } : State) [] (0 + 1) (0 + 6) := ⟨e1, e2⟩
    have h3 := X.same.trans h2
    rw [List.append_nil] at h3
    exact h3.mono hc hs
  refine ⟨U, ?_, .threw T.heap.size, hrun, hend, Or.inr ⟨T.heap.size, rfl, cls, ce, locs, hx U hWs.alike f1 (fun q hq => f2 q hq (fun z hz => nomatch hz)), hce, hcv, hcl, hWs, hall, hf⟩⟩
  refine st1 _ ?_
  show Steps p.tables e below (T1.setTop { method := m, pc := pc + 3, locals := ls, stack := .ref T.heap.size :: [], locked := none }) _
  jvm_step X₁.here [X₁.here.top, hexec, d3', Value.category]
  rcases d4 with ⟨rfl, d4⟩ | ⟨rfl, d4⟩
  · exact X₁.ldcString hexec (own := mi.1.cls) (text := text) (index := is) (a := sta) hown' hstr'.1 hstr'.2
      (g := { method := m, pc := pc + 4, locals := ls, stack := .ref T.heap.size :: .ref T.heap.size :: [], locked := none }) rfl (by rw [hb]; exact d4) _ hsteps
  · exact X₁.ldcStringW hexec (own := mi.1.cls) (text := text) (index := is) (a := sta) hown' hstr'.1 hstr'.2
      (g := { method := m, pc := pc + 4, locals := ls, stack := .ref T.heap.size :: .ref T.heap.size :: [], locked := none }) rfl (by rw [hb]; exact d4) _ hsteps
end JTHROW
end
section
/-! CONTRACTS: a method's (MC), its proof out of the judgement, its use at a call -/
section JCALLS
def headC (mi : MI) : Cond := match mi.2.2.2.2 with
  | [] => .code mi.1 mi.2.1 mi.2.2.1 mi.2.2.2.1
  | hh => .codeWith mi.1 mi.2.1 mi.2.2.1 mi.2.2.2.1 hh
def PcM (av : List Value) (w : Wd) (z : Nat) (sa : Nat → Nat) (D : va_G) (dA : Nat → ClassId) : Array Value → State → Prop := fun a U => a = (av.map (mv sa z)).toArray ∧ Rel D dA sa z w U.heap ∧ va_K D vwCl (tyL dA) U ∧ SF sa (Az z) U U.heap ∧ z ≤ U.heap.size
def QcM (Q : Po) (z : Nat) (sa : Nat → Nat) (D : va_G) (dA : Nat → ClassId) : Array Value → State → Outcome → State → Prop := fun _ st o t => ∃ (v : Option Value) (w : Wd), o = .returned (v.map (mv sa z)) ∧ Q (.inl v) w ∧ Rel D dA sa z w t.heap ∧ va_F (Az z) st t
def XcM (Q : Po) (z : Nat) (sa : Nat → Nat) (D : va_G) (dA : Nat → ClassId) : String → State → State → Prop := fun E st t => ∃ w : Wd, Q (.inr E) w ∧ Rel D dA sa z w t.heap ∧ va_F (Az z) st t
def rmM (d kb sb : Nat) : Room := { frames := d, cells := kb, slots := sb, locals := 64 * d }
/-- the method mi, called with av in the world w, with d frames and room for kb cells of sb slots, comes to an end that Q allows -/
def MC (d : Nat) (mi : MI) (kb sb : Nat) (av : List Value) (w : Wd) (Q : Po) : Prop :=
  ∀ (l : Launch), l.stackTraces = false → ∀ (z : Nat) (sa : Nat → Nat) (D : va_G) (dA : Nat → ClassId), vx_Met l mi.1 (headC mi :: AL) (rmM d kb sb) (PcM av w z sa D dA) (QcM Q z sa D dA) (XcM Q z sa D dA) kb sb (Az z)
theorem PcM_blind (av : List Value) (w : Wd) (z : Nat) (sa : Nat → Nat) (D : va_G) (dA : Nat → ClassId) : FrameBlind (PcM av w z sa D dA) := fun a U g mk q => by
  obtain ⟨q1, q2, q3, q4, q5⟩ := q
  exact ⟨q1, q2, va_K.moved (u := U) (U := U.calling g mk a) (Vm.Alike.refl U.vm) q3, SF.vm (u := U) (U := U.calling g mk a) rfl q4, q5⟩
theorem lv_args_at (vs : List Value) (hc : ∀ v ∈ vs, v.category = 1) : ∀ (i k : Nat) (v : Value), vs[k]? = some v → (i + k, v) ∈ lv_args i vs := by
  induction vs with
  | nil => intro i k v h; simp at h
  | cons a l ih =>
    intro i k v h
    have ha : ¬ a.category = 2 := by rw [hc a List.mem_cons_self]; decide
    unfold lv_args
    rw [if_neg ha]
    cases k with
    | zero =>
      cases h
      exact List.mem_cons_self
    | succ k =>
      have := ih (fun v hv => hc v (List.mem_cons_of_mem _ hv)) (i + 1) k v (by simpa using h)
      rw [show i + (k + 1) = i + 1 + k by omega]
      exact List.mem_cons_of_mem _ this
theorem lg_sl_len (vs : List Value) (hc : ∀ v ∈ vs, v.category = 1) : (lg_sl vs).length = vs.length := by
  induction vs with
  | nil => rfl
  | cons a l ih =>
    have ha : ¬ a.category = 2 := by rw [hc a List.mem_cons_self]; decide
    have e : lg_sl (a :: l) = Slot.val a :: lg_sl l := by
      unfold lg_sl
      rw [List.flatMap_cons, if_neg ha]
      rfl
    rw [e, List.length_cons, List.length_cons, ih (fun v hv => hc v (List.mem_cons_of_mem _ hv))]
def lc0 (av : List Value) (n : Nat) : List (Option Value) := av.map some ++ List.replicate (n - av.length) none
theorem lc0_rel {sa : Nat → Nat} {z nL : Nat} {av : List Value} (hc : ∀ v ∈ av, v.category = 1) (hl : av.length ≤ nL) : lrel sa z nL (lc0 av nL) ((lg_sl (av.map (mv sa z)) ++ List.replicate (nL - (lg_sl (av.map (mv sa z))).length) Slot.unset).toArray) := by
  have hc' : ∀ v ∈ av.map (mv sa z), v.category = 1 := fun v hv => by
    obtain ⟨u, hu, rfl⟩ := List.mem_map.mp hv
    rw [mv_cat]
    exact hc u hu
  have h := lv_entry (av.map (mv sa z)) (n := nL) (by rw [lg_sl_len _ hc', List.length_map]; exact hl)
  refine ⟨h.1, h.2.1, fun i v hv => ?_⟩
  unfold lc0 at hv
  by_cases hi : i < av.length
  · rw [List.getElem?_append_left (by rw [List.length_map]; exact hi), List.getElem?_map] at hv
    cases ha : av[i]? with
    | none => rw [ha] at hv; cases hv
    | some u =>
      rw [ha] at hv
      have e : u = v := Option.some.inj (Option.some.inj hv)
      subst e
      have := lv_args_at (av.map (mv sa z)) hc' 0 i (mv sa z u) (by rw [List.getElem?_map, ha]; rfl)
      rw [Nat.zero_add] at this
      exact h.2.2 _ this
  · rw [List.getElem?_append_right (by rw [List.length_map]; omega), List.getElem?_replicate] at hv
    split at hv <;> cases hv
theorem covers_nil {pc : Nat} : ∀ x ∈ tableOf [], covers x pc = false := fun x h => by cases h
/-- the ends of a body -/
theorem J_ends {d : Nat} {mi : MI} {kb sb : Nat} {Q : Po} {p : Program} {l : Launch} {e : Env} {s : State} {m : MethodId} {args : Array Value} {below : List Frame} {meth : Method} {c : Code} {z : Nat} {sa : Nat → Nat} {D : va_G} {dA : Nat → ClassId} {R : Room} (C : Cx d mi p l R s m args meth c z sa D dA) (hd : 6 ≤ d ∨ ∀ E w, ¬ Q (.inr E) w) (hc1 : kb ≤ R.cells) (hc2 : sb ≤ R.slots) :
    HR mi p l e R s m args below meth c z sa D dA Q (vx_MQ below (QcM Q z sa D dA) (XcM Q z sa D dA) args s kb sb (Az z)) kb sb ∧ HX mi p l e R s m args below meth c z sa D dA Q (vx_MQ below (QcM Q z sa D dA) (XcM Q z sa D dA) args s kb sb (Az z)) kb sb ∧ HT mi p l e R s m args below meth c z sa D dA Q (vx_MQ below (QcM Q z sa D dA) (XcM Q z sa D dA) args s kb sb (Az z)) kb sb := by
  have hlocks : meth.locks = false := C.2.2.1
  refine ⟨fun v w H locs pc ls i hq hR hS hret hdec => ?_, fun E w H locs pc ls rest q ce hq hR hS hcov hce hcv hcl => ?_, fun E w H locs cells slots pc ls hq hR hS hls hT hk hs => ?_⟩
  · refine vx_ret ?_
    have qc : ∀ t : State, t.heap = H → s.WarmedH t.vm → QcM Q z sa D dA args s (.returned (v.map (mv sa z))) t := fun t ht _ => ⟨v, w, rfl, hq, by rw [ht]; exact hR, hS.F ht⟩
    rcases hret with ⟨rfl, rfl, hr⟩ | ⟨rfl, x, ty, rfl, hr, hn⟩ | ⟨rfl, x, rfl, hr⟩ | ⟨rfl, x, rfl, hr⟩
    · exact W.vret C.1.1 rfl (C.2.1.trans hr) qc hS.2.2 hdec hlocks
    · exact W.zret C.1.1 rfl (C.2.1.trans hr) hn qc hS.2.2 hdec hlocks
    · exact W.dret C.1.1 rfl (C.2.1.trans hr) qc hS.2.2 hdec hlocks
    · exact W.fret C.1.1 rfl (C.2.1.trans hr) qc hS.2.2 hdec hlocks
  · exact vx_out (by rw [C.2.2.2.2.1]; exact hcov) hlocks hce hcv hcl (fun t ht _ => ⟨w, hq, by rw [ht]; exact hR, hS.F ht⟩) hS.2.2 (Nat.le_refl _) (Nat.le_refl _)
  · rcases hd with hd | hd
    · have hroom := C.room
      refine jthrow (mi := mi) (A := Az z) C.1.1 C.1.2.1 C.2.2.2.2.2.1 C.own C.hts C.hF hS (by rw [hls, C.1.2.2.1]) hT ?_ (by omega) (by omega) (by omega) (by omega) hlocks (fun t ha hsz hkp => ⟨stW w, hq, hR.grown hkp, ⟨Nat.le_trans hS.1 hsz, fun q g1 g2 => (hkp q (Nat.lt_of_lt_of_le g1 hS.1)).trans (hS.2.1 q g1 g2)⟩⟩) hS.2.2 hk hs
      rw [C.2.2.2.2.1]
      obtain ⟨ik, is, ic, ld, k, bytes, text, -, -, -, -, -, -, -, -, -, -, -, hh⟩ := hT
      rw [hh]
      rfl
    · exact absurd hq (hd _ _)
/-- a contract out of the judgement at the body's start -/
theorem MC_of {d : Nat} {mi : MI} {kb sb : Nat} {av : List Value} {w : Wd} {Q : Po} (hy : plainName mi.1.cls = true) (hh : mi.2.2.2.2 = []) (hcat : ∀ v ∈ av, v.category = 1) (hlen : av.length ≤ mi.2.2.1) (hd : 6 ≤ d ∨ ∀ E w, ¬ Q (.inr E) w) (h : J d mi 0 (lc0 av mi.2.2.1) [] w kb sb Q) : MC d mi kb sb av w Q := by
  intro l hl z sa D dA
  refine vx_ofW (cc := mi.2.1) (maxL := mi.2.2.1) (ret := mi.2.2.2.1) hy (by unfold headC; rw [hh]) ?_
  intro p e s m args below meth c s₁ B hml htab hv
  obtain ⟨rfl, hR, hK, hF, hz⟩ := hv
  have hts := atoms_spec (ws := headC mi :: AL) B.pre
  have C : Cx d mi p l (rmM d kb sb) s m (av.map (mv sa z)).toArray meth c z sa D dA := by
    refine ⟨⟨B.exec, B.bytes, hml, findClass_of_methodNamed B.named, fun w h => hts w (List.mem_cons_of_mem _ h)⟩, B.returns, B.notSynchronized, (name_of_methodNamed B.named B.method).1, ?_, hl, ⟨Nat.le_refl _, Nat.le_refl _⟩, hK, hF, hz⟩
    rw [hh]
    exact List.eq_nil_iff_forall_not_mem.mpr htab
  obtain ⟨k1, k2, k3⟩ := J_ends (e := e) (below := below) (Q := Q) (kb := kb) (sb := sb) C hd (Nat.le_refl _) (Nat.le_refl _)
  rw [lg_entry_eq]
  exact h p l e (rmM d kb sb) s m _ below meth c z sa D dA _ kb sb C k1 k2 k3 (Nat.le_refl _) (Nat.le_refl _) s.heap [] 0 0 _ hR va_S.rf (lc0_rel hcat hlen) (by omega) (by omega)
/-- .. of a method with handlers -/
theorem MC_ofH {d : Nat} {mi : MI} {kb sb : Nat} {av : List Value} {w : Wd} {Q : Po} (hy : plainName mi.1.cls = true) (hh : headC mi = .codeWith mi.1 mi.2.1 mi.2.2.1 mi.2.2.2.1 mi.2.2.2.2) (hcat : ∀ v ∈ av, v.category = 1) (hlen : av.length ≤ mi.2.2.1) (hd : ∀ E w, ¬ Q (.inr E) w) (h : J d mi 0 (lc0 av mi.2.2.1) [] w kb sb Q) : MC d mi kb sb av w Q := by
  intro l hl z sa D dA
  refine vx_ofWH (cc := mi.2.1) (maxL := mi.2.2.1) (ret := mi.2.2.2.1) (hh := mi.2.2.2.2) hy (by rw [hh]) ?_
  intro p e s m args below meth c s₁ B hml hv
  obtain ⟨rfl, hR, hK, hF, hz⟩ := hv
  have hts := atoms_spec (ws := headC mi :: AL) B.pre
  have C : Cx d mi p l (rmM d kb sb) s m (av.map (mv sa z)).toArray meth c z sa D dA := by
    refine ⟨⟨B.exec, B.bytes, hml, findClass_of_methodNamed B.named, fun w h => hts w (List.mem_cons_of_mem _ h)⟩, B.returns, B.notSynchronized, (name_of_methodNamed B.named B.method).1, ?_, hl, ⟨Nat.le_refl _, Nat.le_refl _⟩, hK, hF, hz⟩
    exact vx_table (x := mi.1) (y := mi.1) B (by rw [← hh]; exact hts _ List.mem_cons_self)
  obtain ⟨k1, k2, k3⟩ := J_ends (e := e) (below := below) (Q := Q) (kb := kb) (sb := sb) C (Or.inr hd) (Nat.le_refl _) (Nat.le_refl _)
  rw [lg_entry_eq]
  exact h p l e (rmM d kb sb) s m _ below meth c z sa D dA _ kb sb C k1 k2 k3 (Nat.le_refl _) (Nat.le_refl _) s.heap [] 0 0 _ hR va_S.rf (lc0_rel hcat hlen) (by omega) (by omega)
theorem Met_of_vx {l : Launch} {y : MethodName} {ws : List Cond} {rm : Room} {Pc : Array Value → State → Prop} {Qc : Array Value → State → Outcome → State → Prop} {XC : String → State → State → Prop} {mc ms : Nat} {free : Addr → Prop} (h : vx_Met l y ws rm Pc Qc XC mc ms free) (hx : ∀ E st t, ¬ XC E st t) : Met l y ws rm Pc Qc mc ms free := by
  intro p e h1 h2 h3 s m args below h4 h5 h6 h7
  obtain ⟨n, o, a, b, c, q⟩ := h p e h1 h2 h3 s m args below h4 h5 h6 h7
  refine ⟨n, o, a, b, c, ?_⟩
  rcases q with q | ⟨q, _, E, ce, L, hX, _⟩
  · exact q
  · exact absurd hX (hx _ _ _)

section
variable {d : Nat} {mi : MI} {pc : Nat} {lc : List (Option Value)} {st : List Value} {w : Wd} {kb sb : Nat} {Q : Po}
/-- the method y as it is called: its words -/
def YL (y : MI) (n : Nat) : Prop := headC y = .code y.1 y.2.1 y.2.2.1 y.2.2.2.1 ∧ headC y ∈ AL ∧ Cond.initialized y.1.cls ∈ AL ∧ (y.1.cls ≠ "java/lang/invoke/MethodHandle" ∧ y.1.cls ≠ "java/lang/invoke/VarHandle" ∧ (parseMethodDescriptor y.1.desc).map (fun d => d.parameters.length) = some n) ∧ y.2.2.1 ≤ 40
/-- who is called: a cell of the world, or a constant -/
def Rc (w : Wd) (a : Nat) (CC : String) : Prop := (∃ (ci : Nat) (fs : List Value) (T : u_T) (N : Nat), vwCl[ci]? = some (CC, T, N) ∧ w.1 a = .inr (ci, fs)) ∨ (CC, a) ∈ SFO
theorem SFO_lt {q : String × Nat} (h : q ∈ SFO) : q.2 < 100 := by
  unfold SFO at h
  rcases List.mem_append.mp h with h | h
  · obtain ⟨j, hj, rfl⟩ := List.mem_map.mp h
    have := List.mem_range.mp hj
    show 10 + j < 100
    omega
  · obtain ⟨j, hj, rfl⟩ := List.mem_map.mp h
    have h9 : j < nTx := List.mem_range.mp hj
    have : nTx = 22 := rfl
    show 20 + j < 100
    omega
theorem adr_lt {sa : Nat → Nat} {z a : Nat} (h : a < 100) : adr sa z a = sa a := by
  unfold adr
  rw [if_pos h]
theorem Rc.cell {a : Nat} {CC : String} (h : Rc w a CC) {z : Nat} {sa : Nat → Nat} {D : va_G} {dA : Nat → ClassId} {s : State} {H : Heap} {locs : List Loc} (hR : Rel D dA sa z w H) (hK : va_K D vwCl (tyL dA) s) (hF : SF sa (Az z) s s.heap) (hS : va_S (Az z) s.heap H locs) : ∃ cellB : Cell, H[adr sa z a]? = some cellB ∧ cellB.vm.isStatics = false ∧ s.vm.findClass CC = some cellB.cls := by
  rcases h with ⟨ci, fs, T, N, hc, ha⟩ | h
  · have hnd : (Sum.inr (ci, fs) : Ce) ≠ dead := by
      intro e
      unfold dead at e
      injection e with e
      injection e with e1 e2
      subst e1
      rw [show vwCl[9999]? = none from rfl] at hc
      cases hc
    obtain ⟨g1, g2, g3⟩ := hR.at ha hnd
    obtain ⟨q', k1, cell, k2, k3, k4, -⟩ := g3
    exact ⟨cell, k2, by rw [k4]; rfl, by rw [k3]; exact (hK.1 ci _ hc).2.1⟩
  · have hO := (hF.2.2.1 _ h).kept hS.2.1
    obtain ⟨cell, k1, k2, k3, -⟩ := hO
    exact ⟨cell, by rw [adr_lt (SFO_lt h)]; exact k1, k2, k3⟩
/-- what is the callee's at its start -/
theorem Pre_of {av : List Value} {z : Nat} {sa : Nat → Nat} {D : va_G} {dA : Nat → ClassId} {s : State} {H : Heap} {locs : List Loc} (hR : Rel D dA sa z w H) (hK : va_K D vwCl (tyL dA) s) (hF : SF sa (Az z) s s.heap) (hS : va_S (Az z) s.heap H locs) (hz : z ≤ s.heap.size) : ∀ U : State, U.heap = H → s.WarmedH U.vm → PcM av w z sa D dA (av.map (mv sa z)).toArray U := fun U hU hW => by
  refine ⟨rfl, by rw [hU]; exact hR, va_K.moved hW.alike hK, ?_, by rw [hU]; exact Nat.le_trans hz hS.1⟩
  rw [hU]
  exact (hF.kept hS.2.1).warm hW
theorem opt_map {sa : Nat → Nat} {z : Nat} (v : Option Value) (st : List Value) : (v.map (mv sa z)).toList ++ st.map (mv sa z) = (v.toList ++ st).map (mv sa z) := by cases v <;> rfl
/-- behind a call that returns or throws -/
theorem J_run {d' kb' sb' : Nat} {st0 av : List Value} {y : MI} {QY : Po} {p : Program} {l : Launch} {e : Env} {R : Room} {s : State} {m : MethodId} {args : Array Value} {below : List Frame} {meth : Method} {c : Code} {z : Nat} {sa : Nat → Nat} {D : va_G} {dA : Nat → ClassId} {Z : State → Prop} {mc ms : Nat} (C : Cx d mi p l R s m args meth c z sa D dA) (h1 : HR mi p l e R s m args below meth c z sa D dA Q Z mc ms) (h2 : HX mi p l e R s m args below meth c z sa D dA Q Z mc ms) (h3 : HT mi p l e R s m args below meth c z sa D dA Q Z mc ms) (h4 : mc ≤ R.cells) (h5 : ms ≤ R.slots)
    {H : Heap} {locs : List Loc} {cells slots : Nat} {ls : Array Slot} (hS : va_S (Az z) s.heap H locs) (hl : lrel sa z mi.2.2.1 lc ls) (h6 : cells + (kb + kb') ≤ mc) (h7 : slots + (sb + sb') ≤ ms)
    (hr : vx_Run p l e R s m args below meth c H locs cells slots kb' sb' (F0 m pc ls st0) (st.map (mv sa z)) (QcM QY z sa D dA (av.map (mv sa z)).toArray) (XcM QY z sa D dA) (Az z))
    (kk : ∀ (v : Option Value) (w' : Wd), QY (.inl v) w' → J d mi (pc + 3) lc (v.toList ++ st) w' kb sb Q) (kx : ∀ (E : String) (w' : Wd), QY (.inr E) w' → JX d mi pc lc w' kb sb Q E) : W p l e R s m args below meth c H locs cells slots Z (F0 m pc ls st0) := by
  intro T hT X
  rcases hr T hT X with ⟨v, st₀, t, T', L, h0, X', hL, e1, e2, ⟨v0, w', hv, hq, hR', hF⟩, stp⟩ | ⟨q, st₀, t, T', L, E, ce, h0, X', hL, e1, e2, ⟨w', hq, hR', hF⟩, hce, hcv, hcl, stp⟩
  · cases hv
    obtain ⟨g1, g2, g3⟩ := vx_keep (A1 := Az z) h0 e1 hS (fun _ _ h => h) (fun _ h => h) hL hF
    have k := kk v0 w' hq p l e R s m args below meth c z sa D dA Z mc ms C h1 h2 h3 h4 h5 T'.heap (locs ++ L) (cells + kb') (slots + sb') ls (by rw [e1]; exact hR') g3 hl (by omega) (by omega)
    rw [← opt_map] at k
    obtain ⟨t2, a1, b1⟩ := k T' rfl X'
    exact ⟨t2, stp t2 a1, b1⟩
  · obtain ⟨g1, g2, g3⟩ := vx_keep (A1 := Az z) h0 e1 hS (fun _ _ h => h) (fun _ h => h) hL hF
    obtain ⟨t2, a1, b1⟩ := kx E w' hq p l e R s m args below meth c z sa D dA Z mc ms C h1 h2 h3 h4 h5 T'.heap (locs ++ L) (cells + kb') (slots + sb') ls (st.map (mv sa z)) q ce (by rw [e1]; exact hR') g3 hl (by omega) (by omega) (by rw [e1]; exact hce) hcv hcl T' rfl X'
    exact ⟨t2, stp.trans a1, b1⟩
/-- behind a call that returns -/
theorem J_runN {d' kb' sb' : Nat} {st0 av : List Value} {y : MI} {QY : Po} {p : Program} {l : Launch} {e : Env} {R : Room} {s : State} {m : MethodId} {args : Array Value} {below : List Frame} {meth : Method} {c : Code} {z : Nat} {sa : Nat → Nat} {D : va_G} {dA : Nat → ClassId} {Z : State → Prop} {mc ms : Nat} (C : Cx d mi p l R s m args meth c z sa D dA) (h1 : HR mi p l e R s m args below meth c z sa D dA Q Z mc ms) (h2 : HX mi p l e R s m args below meth c z sa D dA Q Z mc ms) (h3 : HT mi p l e R s m args below meth c z sa D dA Q Z mc ms) (h4 : mc ≤ R.cells) (h5 : ms ≤ R.slots)
    {H : Heap} {locs : List Loc} {cells slots : Nat} {ls : Array Slot} (hS : va_S (Az z) s.heap H locs) (hl : lrel sa z mi.2.2.1 lc ls) (h6 : cells + (kb + kb') ≤ mc) (h7 : slots + (sb + sb') ≤ ms)
    (hr : va_Run p l e R s m args below meth c H locs cells slots kb' sb' (F0 m pc ls st0) (st.map (mv sa z)) (QcM QY z sa D dA (av.map (mv sa z)).toArray) (Az z))
    (kk : ∀ (v : Option Value) (w' : Wd), QY (.inl v) w' → J d mi (pc + 3) lc (v.toList ++ st) w' kb sb Q) : W p l e R s m args below meth c H locs cells slots Z (F0 m pc ls st0) := by
  intro T hT X
  obtain ⟨v, st₀, t, T', L, h0, X', hL, e1, e2, ⟨v0, w', hv, hq, hR', hF⟩, stp⟩ := hr T hT X
  cases hv
  obtain ⟨g1, g2, g3⟩ := vx_keep (A1 := Az z) h0 e1 hS (fun _ _ h => h) (fun _ h => h) hL hF
  have k := kk v0 w' hq p l e R s m args below meth c z sa D dA Z mc ms C h1 h2 h3 h4 h5 T'.heap (locs ++ L) (cells + kb') (slots + sb') ls (by rw [e1]; exact hR') g3 hl (by omega) (by omega)
  rw [← opt_map] at k
  obtain ⟨t2, a1, b1⟩ := k T' rfl X'
  exact ⟨t2, stp t2 a1, b1⟩
theorem ws_in {y : MI} (hh : headC y ∈ AL) : ∀ w ∈ headC y :: AL, w ∈ AL := fun w h => (List.mem_cons.mp h).elim (fun e => e ▸ hh) (fun h => h)
theorem J_callV {idx n d' kb' sb' : Nat} {y : MI} {a : Nat} {As st0 : List Value} {QY : Po} (hd : decode mi.2.1 pc = .ok (.invokevirtual idx, 3)) (hY : YL y n) (hL : Cond.methodLink mi.1.cls idx y.1 ∈ AL ∧ Cond.instanceMethod y.1 ∈ AL ∧ Cond.selects y.1.cls y.1 y.1 ∈ AL) (hrec : Rc w a y.1.cls)
    (hM : MC d' y kb' sb' (.ref a :: As) w QY) (hn : As.length = n) (hst : st0 = As.reverse ++ .ref a :: st) (hcat : (st.map fun v => v.category).sum ≤ 8) (hdd : d' + 1 ≤ d)
    (kk : ∀ (v : Option Value) (w' : Wd), QY (.inl v) w' → J d mi (pc + 3) lc (v.toList ++ st) w' kb sb Q) (kx : ∀ (E : String) (w' : Wd), QY (.inr E) w' → JX d mi pc lc w' kb sb Q E) : J d mi pc lc st0 w (kb + kb') (sb + sb') Q := by
  intro p l e R s m args below meth c z sa D dA Z mc ms C h1 h2 h3 h4 h5 H locs cells slots ls hR hS hl h6 h7
  obtain ⟨y1, y2, y3, y4, y5⟩ := hY
  have hroom := C.room
  have hws : ∀ w ∈ wsV mi.1.cls idx y.1.cls y.1 (headC y :: AL), w ∈ AL := fun w h => by
    rcases List.mem_append.mp h with h | h
    · simp only [List.mem_cons, List.not_mem_nil, or_false] at h
      rcases h with rfl | rfl | rfl | rfl
      · exact hL.1
      · exact hL.2.1
      · exact hL.2.2
      · exact y3
    · exact ws_in y2 w h
  refine J_run (y := y) (d' := d') (av := .ref a :: As) C h1 h2 h3 h4 h5 hS hl h6 h7 (vx_runV (As := As.map (mv sa z)) (b := adr sa z a) C.1 (hM l C.2.2.2.2.2.1 z sa D dA) (cwV n C.hts (AL_goodIn hws) (by rw [y1]) rfl rfl ⟨rfl, y4.1, y4.2.1, y4.2.2⟩ ⟨by show d' + 1 ≤ R.frames; omega, by show 8 + (y.2.2.1 + 11) + 64 * d' ≤ R.locals; omega⟩) ⟨PcM_blind _ _ _ _ _ _, hrec.cell hR C.hK C.hF hS, fun U hU hW => Pre_of hR C.hK C.hF hS C.hz U hU hW⟩ rfl (by rw [List.length_map]; exact hn) hl.1 (by rw [hst]; simp [mv]) (lv_room (by rw [mv_cats]; exact hcat)) hd ⟨by omega, by omega⟩) kk kx
theorem J_callS {idx n d' kb' sb' : Nat} {y : MI} {As st0 : List Value} {QY : Po} (hd : decode mi.2.1 pc = .ok (.invokestatic idx, 3)) (hY : YL y n) (hL : Cond.methodLink mi.1.cls idx y.1 ∈ AL ∧ Cond.static y.1 ∈ AL)
    (hM : MC d' y kb' sb' As w QY) (hn : As.length = n) (hst : st0 = As.reverse ++ st) (hcat : (st.map fun v => v.category).sum ≤ 8) (hdd : d' + 1 ≤ d)
    (kk : ∀ (v : Option Value) (w' : Wd), QY (.inl v) w' → J d mi (pc + 3) lc (v.toList ++ st) w' kb sb Q) (kx : ∀ (E : String) (w' : Wd), QY (.inr E) w' → JX d mi pc lc w' kb sb Q E) : J d mi pc lc st0 w (kb + kb') (sb + sb') Q := by
  intro p l e R s m args below meth c z sa D dA Z mc ms C h1 h2 h3 h4 h5 H locs cells slots ls hR hS hl h6 h7
  obtain ⟨y1, y2, y3, y4, y5⟩ := hY
  have hroom := C.room
  have hws : ∀ w ∈ va_wsS mi.1.cls idx y.1 (headC y :: AL), w ∈ AL := fun w h => by
    rcases List.mem_append.mp h with h | h
    · simp only [List.mem_cons, List.not_mem_nil, or_false] at h
      rcases h with rfl | rfl | rfl
      · exact hL.1
      · exact hL.2
      · exact y3
    · exact ws_in y2 w h
  refine J_run (y := y) (d' := d') (av := As) C h1 h2 h3 h4 h5 hS hl h6 h7 (vx_runS (As := As.map (mv sa z)) C.1 (hM l C.2.2.2.2.2.1 z sa D dA) (va_cwS n C.hts (AL_goodIn hws) (by rw [y1]) rfl rfl ⟨y4.1, y4.2.1, y4.2.2⟩ ⟨by show d' + 1 ≤ R.frames; omega, by show 8 + (y.2.2.1 + 11) + 64 * d' ≤ R.locals; omega⟩) ⟨PcM_blind _ _ _ _ _ _, fun U hU hW => Pre_of hR C.hK C.hF hS C.hz U hU hW⟩ rfl (by rw [List.length_map]; exact hn) hl.1 (by rw [hst]; simp) (lv_room (by rw [mv_cats]; exact hcat)) hd ⟨by omega, by omega⟩) kk kx
theorem J_callSH {idx n d' kb' sb' : Nat} {y : MI} {As st0 : List Value} {QY : Po} (hd : decode mi.2.1 pc = .ok (.invokestatic idx, 3)) (hh : headC y = .codeWith y.1 y.2.1 y.2.2.1 y.2.2.2.1 y.2.2.2.2) (hY : headC y ∈ AL ∧ Cond.initialized y.1.cls ∈ AL ∧ (y.1.cls ≠ "java/lang/invoke/MethodHandle" ∧ y.1.cls ≠ "java/lang/invoke/VarHandle" ∧ (parseMethodDescriptor y.1.desc).map (fun d => d.parameters.length) = some n) ∧ y.2.2.1 ≤ 40) (hL : Cond.methodLink mi.1.cls idx y.1 ∈ AL ∧ Cond.static y.1 ∈ AL)
    (hM : MC d' y kb' sb' As w QY) (hn : As.length = n) (hst : st0 = As.reverse ++ st) (hcat : (st.map fun v => v.category).sum ≤ 8) (hdd : d' + 1 ≤ d)
    (kk : ∀ (v : Option Value) (w' : Wd), QY (.inl v) w' → J d mi (pc + 3) lc (v.toList ++ st) w' kb sb Q) (kx : ∀ (E : String) (w' : Wd), QY (.inr E) w' → JX d mi pc lc w' kb sb Q E) : J d mi pc lc st0 w (kb + kb') (sb + sb') Q := by
  intro p l e R s m args below meth c z sa D dA Z mc ms C h1 h2 h3 h4 h5 H locs cells slots ls hR hS hl h6 h7
  obtain ⟨y2, y3, y4, y5⟩ := hY
  have hroom := C.room
  have hws : ∀ w ∈ va_wsS mi.1.cls idx y.1 (headC y :: AL), w ∈ AL := fun w h => by
    rcases List.mem_append.mp h with h | h
    · simp only [List.mem_cons, List.not_mem_nil, or_false] at h
      rcases h with rfl | rfl | rfl
      · exact hL.1
      · exact hL.2
      · exact y3
    · exact ws_in y2 w h
  refine J_run (y := y) (d' := d') (av := As) C h1 h2 h3 h4 h5 hS hl h6 h7 (vx_runSX (hh := y.2.2.2.2) (As := As.map (mv sa z)) C.1 (hM l C.2.2.2.2.2.1 z sa D dA) (vx_cwSW n C.hts (AL_goodIn hws) (by rw [hh]) rfl rfl ⟨y4.1, y4.2.1, y4.2.2⟩ ⟨by show d' + 1 ≤ R.frames; omega, by show 8 + (y.2.2.1 + 11) + 64 * d' ≤ R.locals; omega⟩) ⟨PcM_blind _ _ _ _ _ _, fun U hU hW => Pre_of hR C.hK C.hF hS C.hz U hU hW⟩ rfl (by rw [List.length_map]; exact hn) hl.1 (by rw [hst]; simp) (lv_room (by rw [mv_cats]; exact hcat)) hd ⟨by omega, by omega⟩) kk kx
theorem no_X {QY : Po} (h : ∀ E w, ¬ QY (.inr E) w) (z : Nat) (sa : Nat → Nat) (D : va_G) (dA : Nat → ClassId) : ∀ E st t, ¬ XcM QY z sa D dA E st t := fun E st t ⟨w, hq, _⟩ => h E w hq
/-- a private method of a nest mate -/
theorem J_callSN {idx n d' kb' sb' : Nat} {y : MI} {As st0 : List Value} {QY : Po} {host : String} (hd : decode mi.2.1 pc = .ok (.invokestatic idx, 3)) (hY : YL y n) (hL : (mi.1.cls, idx, y.1, host) ∈ SFM ∧ Cond.static y.1 ∈ AL)
    (hM : MC d' y kb' sb' As w QY) (hno : ∀ E w, ¬ QY (.inr E) w) (hn : As.length = n) (hst : st0 = As.reverse ++ st) (hcat : (st.map fun v => v.category).sum ≤ 8) (hdd : d' + 1 ≤ d)
    (kk : ∀ (v : Option Value) (w' : Wd), QY (.inl v) w' → J d mi (pc + 3) lc (v.toList ++ st) w' kb sb Q) : J d mi pc lc st0 w (kb + kb') (sb + sb') Q := by
  intro p l e R s m args below meth c z sa D dA Z mc ms C h1 h2 h3 h4 h5 H locs cells slots ls hR hS hl h6 h7
  obtain ⟨y1, y2, y3, y4, y5⟩ := hY
  have hroom := C.room
  refine J_runN (y := y) (d' := d') (av := As) C h1 h2 h3 h4 h5 hS hl h6 h7 (va_runSN (host := host) (As := As.map (mv sa z)) C.1 (Met_of_vx (hM l C.2.2.2.2.2.1 z sa D dA) (no_X hno z sa D dA)) ⟨va_cnB n C.hts (AL_goodIn (ws_in y2)) (by rw [y1]) rfl rfl (C.hF.2.2.2.2.2.2.1 _ hL.1) (C.hts _ y3) ⟨y4.1, y4.2.1, y4.2.2⟩ ⟨by show d' + 1 ≤ R.frames; omega, by show 8 + (y.2.2.1 + 11) + 64 * d' ≤ R.locals; omega⟩, C.hts _ hL.2, trivial⟩ ⟨PcM_blind _ _ _ _ _ _, fun U hU hW => Pre_of hR C.hK C.hF hS C.hz U hU hW⟩ rfl (by rw [List.length_map]; exact hn) hl.1 (by rw [hst]; simp) (lv_room (by rw [mv_cats]; exact hcat)) hd ⟨by omega, by omega⟩) kk
/-- a constructor -/
theorem J_callI {idx n d' kb' sb' : Nat} {y : MI} {a : Nat} {As st0 : List Value} {QY : Po} (hd : decode mi.2.1 pc = .ok (.invokespecial idx, 3)) (hY : YL y n) (hr : y.2.2.2.1 = none) (hy : y.1.name = "<init>") (hL : Cond.methodLink mi.1.cls idx y.1 ∈ AL ∧ Cond.instanceMethod y.1 ∈ AL)
    (hM : MC d' y kb' sb' (.ref a :: As) w QY) (hno : ∀ E w, ¬ QY (.inr E) w) (hn : As.length = n) (hst : st0 = As.reverse ++ .ref a :: st) (hcat : (st.map fun v => v.category).sum ≤ 8) (hdd : d' + 1 ≤ d)
    (kk : ∀ (v : Option Value) (w' : Wd), QY (.inl v) w' → J d mi (pc + 3) lc (v.toList ++ st) w' kb sb Q) : J d mi pc lc st0 w (kb + kb') (sb + sb') Q := by
  intro p l e R s m args below meth c z sa D dA Z mc ms C h1 h2 h3 h4 h5 H locs cells slots ls hR hS hl h6 h7
  obtain ⟨y1, y2, y3, y4, y5⟩ := hY
  have hroom := C.room
  refine J_runN (y := y) (d' := d') (av := .ref a :: As) C h1 h2 h3 h4 h5 hS hl h6 h7 (va_runI (b := adr sa z a) (As := As.map (mv sa z)) C.1 (Met_of_vx (hM l C.2.2.2.2.2.1 z sa D dA) (no_X hno z sa D dA)) (cwI n C.hts (AL_goodIn (ws_in y2)) (by rw [y1, hr]) rfl rfl (C.hts _ y3) (C.hts _ hL.1) (C.hts _ hL.2) hy ⟨y4.1, y4.2.1, y4.2.2⟩ ⟨by show d' + 1 ≤ R.frames; omega, by show 8 + (y.2.2.1 + 11) + 64 * d' ≤ R.locals; omega⟩) ⟨PcM_blind _ _ _ _ _ _, fun U hU hW => Pre_of hR C.hK C.hF hS C.hz U hU hW⟩ rfl (by rw [List.length_map]; exact hn) hl.1 (by rw [hst]; simp [mv]) (lv_room (by rw [mv_cats]; exact hcat)) hd ⟨by omega, by omega⟩) kk
/-- a nest mate's private constructor -/
theorem J_callIN {idx n d' kb' sb' : Nat} {y : MI} {a : Nat} {As st0 : List Value} {QY : Po} {host : String} (hd : decode mi.2.1 pc = .ok (.invokespecial idx, 3)) (hY : YL y n) (hr : y.2.2.2.1 = none) (hy : y.1.name = "<init>") (hL : (mi.1.cls, idx, y.1, host) ∈ SFM ∧ Cond.instanceMethod y.1 ∈ AL)
    (hM : MC d' y kb' sb' (.ref a :: As) w QY) (hno : ∀ E w, ¬ QY (.inr E) w) (hn : As.length = n) (hst : st0 = As.reverse ++ .ref a :: st) (hcat : (st.map fun v => v.category).sum ≤ 8) (hdd : d' + 1 ≤ d)
    (kk : ∀ (v : Option Value) (w' : Wd), QY (.inl v) w' → J d mi (pc + 3) lc (v.toList ++ st) w' kb sb Q) : J d mi pc lc st0 w (kb + kb') (sb + sb') Q := by
  intro p l e R s m args below meth c z sa D dA Z mc ms C h1 h2 h3 h4 h5 H locs cells slots ls hR hS hl h6 h7
  obtain ⟨y1, y2, y3, y4, y5⟩ := hY
  have hroom := C.room
  refine J_runN (y := y) (d' := d') (av := .ref a :: As) C h1 h2 h3 h4 h5 hS hl h6 h7 (va_runIN (host := host) (b := adr sa z a) (As := As.map (mv sa z)) C.1 (Met_of_vx (hM l C.2.2.2.2.2.1 z sa D dA) (no_X hno z sa D dA)) ⟨va_cnB n C.hts (AL_goodIn (ws_in y2)) (by rw [y1, hr]) rfl rfl (C.hF.2.2.2.2.2.2.1 _ hL.1) (C.hts _ y3) ⟨y4.1, y4.2.1, y4.2.2⟩ ⟨by show d' + 1 ≤ R.frames; omega, by show 8 + (y.2.2.1 + 11) + 64 * d' ≤ R.locals; omega⟩, hy, C.hts _ hL.2⟩ ⟨PcM_blind _ _ _ _ _ _, fun U hU hW => Pre_of hR C.hK C.hF hS C.hz U hU hW⟩ rfl (by rw [List.length_map]; exact hn) hl.1 (by rw [hst]; simp [mv]) (lv_room (by rw [mv_cats]; exact hcat)) hd ⟨by omega, by omega⟩) kk
/-- an inherited method of a superclass that isn't the class's own: Enum.ordinal -/
theorem J_callU {idx n d' kb' sb' : Nat} {y : MI} {x : MethodName} {CC : String} {a : Nat} {As st0 : List Value} {QY : Po} (hd : decode mi.2.1 pc = .ok (.invokevirtual idx, 3)) (hY : YL y n) (hyx : y.1 = ⟨y.1.cls, x.name, x.desc⟩) (hL : Cond.methodLink mi.1.cls idx x ∈ AL ∧ Cond.sameMethod x.cls y.1.cls x.name x.desc ∈ AL ∧ Cond.selects CC x y.1 ∈ AL ∧ Cond.instanceMethod y.1 ∈ AL) (hrec : Rc w a CC)
    (hM : MC d' y kb' sb' (.ref a :: As) w QY) (hno : ∀ E w, ¬ QY (.inr E) w) (hn : As.length = n) (hst : st0 = As.reverse ++ .ref a :: st) (hcat : (st.map fun v => v.category).sum ≤ 8) (hdd : d' + 1 ≤ d)
    (kk : ∀ (v : Option Value) (w' : Wd), QY (.inl v) w' → J d mi (pc + 3) lc (v.toList ++ st) w' kb sb Q) : J d mi pc lc st0 w (kb + kb') (sb + sb') Q := by
  intro p l e R s m args below meth c z sa D dA Z mc ms C h1 h2 h3 h4 h5 H locs cells slots ls hR hS hl h6 h7
  obtain ⟨y1, y2, y3, y4, y5⟩ := hY
  have hroom := C.room
  have hws : ∀ w ∈ va_wsU mi.1.cls idx CC y.1.cls x y.1 (headC y :: AL), w ∈ AL := fun w h => by
    rcases List.mem_append.mp h with h | h
    · simp only [List.mem_cons, List.not_mem_nil, or_false] at h
      rcases h with rfl | rfl | rfl | rfl | rfl
      · exact hL.1
      · exact hL.2.1
      · exact hL.2.2.1
      · exact hL.2.2.2
      · exact y3
    · exact ws_in y2 w h
  have hdx : (parseMethodDescriptor x.desc).map (fun d => d.parameters.length) = some n := by
    have := y4.2.2
    rw [hyx] at this
    exact this
  refine J_runN (y := y) (d' := d') (av := .ref a :: As) C h1 h2 h3 h4 h5 hS hl h6 h7 (va_runU (x := x) (owner := y.1.cls) (b := adr sa z a) (As := As.map (mv sa z)) C.1 (Met_of_vx (hM l C.2.2.2.2.2.1 z sa D dA) (no_X hno z sa D dA)) (va_cwU n C.hts (AL_goodIn hws) (by rw [y1]) rfl rfl hyx ⟨y4.1, y4.2.1, hdx⟩ ⟨by show d' + 1 ≤ R.frames; omega, by show 8 + (y.2.2.1 + 11) + 64 * d' ≤ R.locals; omega⟩) ⟨PcM_blind _ _ _ _ _ _, hrec.cell hR C.hK C.hF hS, fun U hU hW => Pre_of hR C.hK C.hF hS C.hz U hU hW⟩ rfl (by rw [List.length_map]; exact hn) hl.1 (by rw [hst]; simp [mv]) (lv_room (by rw [mv_cats]; exact hcat)) hd ⟨by omega, by omega⟩) kk
theorem J_objInit {idx : Nat} {a : Nat} (hd : decode mi.2.1 pc = .ok (.invokespecial idx, 3)) (hL : Cond.methodLink mi.1.cls idx Lib.objectInit ∈ AL ∧ Cond.instanceMethod Lib.objectInit ∈ AL ∧ Cond.code Lib.objectInit ⟨#[0xb1]⟩ 1 none ∈ AL) (hcat : (st.map fun v => v.category).sum ≤ 8) (hdd : 1 ≤ d) (kk : J d mi (pc + 3) lc st w kb sb Q) : J d mi pc lc (.ref a :: st) w kb sb Q := by
  intro p l e R s m args below meth c z sa D dA Z mc ms C h1 h2 h3 h4 h5 H locs cells slots ls hR hS hl h6 h7
  have hroom := C.room
  exact W.objInit C.1.1 C.1.2.1 C.own (C.hts _ hL.1) (C.hts _ hL.2.1) (C.hts _ hL.2.2) rfl (by rw [C.1.2.2.1]; exact hl.1) (a := adr sa z a) (rest := st.map (mv sa z)) rfl hd (by omega) (by rw [mv_cats]; show 2 * 0 + _ + 12 ≤ _; omega) (kk p l e R s m args below meth c z sa D dA Z mc ms C h1 h2 h3 h4 h5 H locs cells slots ls hR hS hl h6 h7)
end
end JCALLS
end
section
/-! constants of the old heap, texts, copies of rows, what is caught -/
section JSTAT
variable {d : Nat} {mi : MI} {pc : Nat} {lc : List (Option Value)} {st : List Value} {w : Wd} {kb sb : Nat} {Q : Po}
/-- a value that is no cell of the world -/
def sv : Value → Bool
  | .ref r => decide (r < 100)
  | _ => true
theorem sv_mv {sa : Nat → Nat} {z : Nat} {v : Value} (h : sv v = true) : mv sa z v = mv sa 0 v := by
  cases v with
  | ref r =>
    have hr : r < 100 := by simpa [sv] using h
    show Value.ref (adr sa z r) = Value.ref (adr sa 0 r)
    rw [adr_lt hr, adr_lt hr]
  | _ => rfl
theorem J_getstatic {idx : Nat} {CC n ds : String} {v : Value} (hd : decode mi.2.1 pc = .ok (.getstatic idx, 3)) (hm : (CC, n, ds, v) ∈ SFZ) (hv : sv v = true) (hL : Cond.fieldLink mi.1.cls idx CC n ds ∈ AL) (k : J d mi (pc + 3) lc (v :: st) w kb sb Q) : J d mi pc lc st w kb sb Q := by
  intro p l e R s m args below meth c z sa D dA Z mc ms C h1 h2 h3 h4 h5 H locs cells slots ls hR hS hl h6 h7
  have k1 := k p l e R s m args below meth c z sa D dA Z mc ms C h1 h2 h3 h4 h5 H locs cells slots ls hR hS hl h6 h7
  rw [List.map_cons, sv_mv hv] at k1
  exact va_gets C.1.1 C.1.2.1 (C.hF.1 _ hm) hS C.own (C.hts _ hL) (fun _ h => h) hd k1
theorem J_getstaticN {idx : Nat} {CC n ds host : String} {v : Value} (hd : decode mi.2.1 pc = .ok (.getstatic idx, 3)) (hm : (CC, n, ds, v) ∈ SFZ) (hv : sv v = true) (hL : (mi.1.cls, idx, CC, n, ds, host) ∈ SFG) (k : J d mi (pc + 3) lc (v :: st) w kb sb Q) : J d mi pc lc st w kb sb Q := by
  intro p l e R s m args below meth c z sa D dA Z mc ms C h1 h2 h3 h4 h5 H locs cells slots ls hR hS hl h6 h7
  have k1 := k p l e R s m args below meth c z sa D dA Z mc ms C h1 h2 h3 h4 h5 H locs cells slots ls hR hS hl h6 h7
  rw [List.map_cons, sv_mv hv] at k1
  exact va_getsN C.1.1 C.1.2.1 (C.hF.1 _ hm) hS C.own (va_Nw.use rfl (C.hF.2.2.2.2.2.2.2.1 _ hL)) (fun _ h => h) hd k1
theorem J_getsQ {idx : Nat} (hd : decode mi.2.1 pc = .ok (.getstatic idx, 3)) (hL : Cond.fieldLink mi.1.cls idx jPre "SIOOBE_FORMATTER" jFmt ∈ AL) (k : ∀ v : Value, v.category = 1 → J d mi (pc + 3) lc (v :: st) w kb sb Q) : J d mi pc lc st w kb sb Q := by
  intro p l e R s m args below meth c z sa D dA Z mc ms C h1 h2 h3 h4 h5 H locs cells slots ls hR hS hl h6 h7
  rcases C.hF.2.2.2.2.2.2.2.2.2.1 with h | h
  · exact va_gets C.1.1 C.1.2.1 h hS C.own (C.hts _ hL) (fun _ h => h) hd (k .null rfl p l e R s m args below meth c z sa D dA Z mc ms C h1 h2 h3 h4 h5 H locs cells slots ls hR hS hl h6 h7)
  · exact va_gets C.1.1 C.1.2.1 h hS C.own (C.hts _ hL) (fun _ h => h) hd (k (.ref 2) rfl p l e R s m args below meth c z sa D dA Z mc ms C h1 h2 h3 h4 h5 H locs cells slots ls hR hS hl h6 h7)
theorem J_sgetf {idx id : Nat} {o n ds : String} {v : Value} (hd : decode mi.2.1 pc = .ok (.getfield idx, 3)) (hm : (o, n, ds, v, id) ∈ SFF) (hv : sv v = true) (hi : id < 100) (hL : Cond.fieldLink mi.1.cls idx o n ds ∈ AL) (k : J d mi (pc + 3) lc (v :: st) w kb sb Q) : J d mi pc lc (.ref id :: st) w kb sb Q := by
  intro p l e R s m args below meth c z sa D dA Z mc ms C h1 h2 h3 h4 h5 H locs cells slots ls hR hS hl h6 h7
  have k1 := k p l e R s m args below meth c z sa D dA Z mc ms C h1 h2 h3 h4 h5 H locs cells slots ls hR hS hl h6 h7
  rw [List.map_cons, sv_mv hv] at k1
  rw [List.map_cons, show mv sa z (.ref id) = .ref (sa id) by show Value.ref (adr sa z id) = _; rw [adr_lt hi]]
  exact vk_getf C.1.1 C.1.2.1 (C.hF.2.2.2.1 _ hm) hS C.own (C.hts _ hL) (fun _ h => h) hd k1
theorem J_salen {id N : Nat} {ty : FieldType} {f : Nat → Value} {v : Int32} (hd : decode mi.2.1 pc = .ok (.arraylength, 1)) (hm : (ty, id, N, f) ∈ SFT) (hi : id < 100) (hv : Int32.ofNat N = v) (k : J d mi (pc + 1) lc (.int v :: st) w kb sb Q) : J d mi pc lc (.ref id :: st) w kb sb Q := by
  intro p l e R s m args below meth c z sa D dA Z mc ms C h1 h2 h3 h4 h5 H locs cells slots ls hR hS hl h6 h7
  rw [List.map_cons, show mv sa z (.ref id) = .ref (sa id) by show Value.ref (adr sa z id) = _; rw [adr_lt hi]]
  exact va_tlen C.1.1 C.1.2.1 (C.hF.2.1 _ hm) hS hv hd (k p l e R s m args below meth c z sa D dA Z mc ms C h1 h2 h3 h4 h5 H locs cells slots ls hR hS hl h6 h7)
theorem J_siald {id N : Nat} {f : Nat → Value} {i : Int32} {v : Value} (hd : decode mi.2.1 pc = .ok (.iaload, 1)) (hm : (.int, id, N, f) ∈ SFT) (hi : id < 100) (hin : vp_in i N) (hv : f i.toNatClampNeg = v) (hs : sv v = true) (k : J d mi (pc + 1) lc (v :: st) w kb sb Q) : J d mi pc lc (.int i :: .ref id :: st) w kb sb Q := by
  intro p l e R s m args below meth c z sa D dA Z mc ms C h1 h2 h3 h4 h5 H locs cells slots ls hR hS hl h6 h7
  have k1 := k p l e R s m args below meth c z sa D dA Z mc ms C h1 h2 h3 h4 h5 H locs cells slots ls hR hS hl h6 h7
  rw [List.map_cons, sv_mv hs] at k1
  rw [List.map_cons, List.map_cons, show mv sa z (.ref id) = .ref (sa id) by show Value.ref (adr sa z id) = _; rw [adr_lt hi]]
  exact va_ti C.1.1 C.1.2.1 (C.hF.2.1 _ hm) hS hin (by rw [← hv]) hd k1
theorem J_sbald {id N : Nat} {f : Nat → Value} {i : Int32} {v : Value} (hd : decode mi.2.1 pc = .ok (.baload, 1)) (hm : (.byte, id, N, f) ∈ SFT) (hi : id < 100) (hin : vp_in i N) (hv : f i.toNatClampNeg = v) (hs : sv v = true) (k : J d mi (pc + 1) lc (v :: st) w kb sb Q) : J d mi pc lc (.int i :: .ref id :: st) w kb sb Q := by
  intro p l e R s m args below meth c z sa D dA Z mc ms C h1 h2 h3 h4 h5 H locs cells slots ls hR hS hl h6 h7
  have k1 := k p l e R s m args below meth c z sa D dA Z mc ms C h1 h2 h3 h4 h5 H locs cells slots ls hR hS hl h6 h7
  rw [List.map_cons, sv_mv hs] at k1
  rw [List.map_cons, List.map_cons, show mv sa z (.ref id) = .ref (sa id) by show Value.ref (adr sa z id) = _; rw [adr_lt hi]]
  exact va_tb C.1.1 C.1.2.1 (C.hF.2.1 _ hm) hS hin (by rw [← hv]) hd k1
theorem J_saald {id N : Nat} {EE : String} {f : Nat → Value} {i : Int32} {v : Value} (hd : decode mi.2.1 pc = .ok (.aaload, 1)) (hm : (.object EE, id, N, f) ∈ SFT) (hi : id < 100) (hin : vp_in i N) (hv : f i.toNatClampNeg = v) (hs : sv v = true) (k : J d mi (pc + 1) lc (v :: st) w kb sb Q) : J d mi pc lc (.int i :: .ref id :: st) w kb sb Q := by
  intro p l e R s m args below meth c z sa D dA Z mc ms C h1 h2 h3 h4 h5 H locs cells slots ls hR hS hl h6 h7
  have k1 := k p l e R s m args below meth c z sa D dA Z mc ms C h1 h2 h3 h4 h5 H locs cells slots ls hR hS hl h6 h7
  rw [List.map_cons, sv_mv hs] at k1
  rw [List.map_cons, List.map_cons, show mv sa z (.ref id) = .ref (sa id) by show Value.ref (adr sa z id) = _; rw [adr_lt hi]]
  exact vb_tq C.1.1 C.1.2.1 (C.hF.2.1 _ hm) hS hin (by rw [← hv]) hd k1
theorem J_ldcS {idx id : Nat} {tx : String} (hd : decode mi.2.1 pc = .ok (.ldc idx, 2)) (hm : (mi.1.cls, idx, tx, id) ∈ SFR) (hi : id < 100) (k : J d mi (pc + 2) lc (.ref id :: st) w kb sb Q) : J d mi pc lc st w kb sb Q := by
  intro p l e R s m args below meth c z sa D dA Z mc ms C h1 h2 h3 h4 h5 H locs cells slots ls hR hS hl h6 h7
  have k1 := k p l e R s m args below meth c z sa D dA Z mc ms C h1 h2 h3 h4 h5 H locs cells slots ls hR hS hl h6 h7
  rw [List.map_cons, show mv sa z (.ref id) = .ref (sa id) by show Value.ref (adr sa z id) = _; rw [adr_lt hi]] at k1
  exact va_ldcS C.1.1 C.1.2.1 C.own (C.hF.2.2.2.2.1 _ hm) hd k1
theorem J_ldcwS {idx id : Nat} {tx : String} (hd : decode mi.2.1 pc = .ok (.ldc_w idx, 3)) (hm : (mi.1.cls, idx, tx, id) ∈ SFR) (hi : id < 100) (k : J d mi (pc + 3) lc (.ref id :: st) w kb sb Q) : J d mi pc lc st w kb sb Q := by
  intro p l e R s m args below meth c z sa D dA Z mc ms C h1 h2 h3 h4 h5 H locs cells slots ls hR hS hl h6 h7
  have k1 := k p l e R s m args below meth c z sa D dA Z mc ms C h1 h2 h3 h4 h5 H locs cells slots ls hR hS hl h6 h7
  rw [List.map_cons, show mv sa z (.ref id) = .ref (sa id) by show Value.ref (adr sa z id) = _; rw [adr_lt hi]] at k1
  intro T hT X
  obtain ⟨t, a1, b1⟩ := k1 T hT X
  exact ⟨t, X.ldcStringW C.1.1 C.own (text := tx) (a := sa id) (C.hF.2.2.2.2.1 _ hm).1 (C.hF.2.2.2.2.1 _ hm).2 (g := F0 m pc ls (st.map (mv sa z))) rfl (by rw [C.1.2.1]; exact hd) t a1, b1⟩
theorem J_ldcw {idx : Nat} {v : Int32} (hd : decode mi.2.1 pc = .ok (.ldc_w idx, 3)) (hL : Cond.constant mi.1.cls idx v ∈ AL) (k : J d mi (pc + 3) lc (.int v :: st) w kb sb Q) : J d mi pc lc st w kb sb Q := by
  intro p l e R s m args below meth c z sa D dA Z mc ms C h1 h2 h3 h4 h5 H locs cells slots ls hR hS hl h6 h7
  exact lv_ldcw C.1.1 C.1.2.1 C.own (C.hts _ hL) hd (k p l e R s m args below meth c z sa D dA Z mc ms C h1 h2 h3 h4 h5 H locs cells slots ls hR hS hl h6 h7)
theorem J_dconst0 (hd : decode mi.2.1 pc = .ok (.dconst 0, 1)) (k : J d mi (pc + 1) lc (.double (FP.i2d 0) :: st) w kb sb Q) : J d mi pc lc st w kb sb Q := by
  intro p l e R s m args below meth c z sa D dA Z mc ms C h1 h2 h3 h4 h5 H locs cells slots ls hR hS hl h6 h7
  exact lv_dconst0 C.1.1 C.1.2.1 hd (k p l e R s m args below meth c z sa D dA Z mc ms C h1 h2 h3 h4 h5 H locs cells slots ls hR hS hl h6 h7)
theorem J_fconst0 (hd : decode mi.2.1 pc = .ok (.fconst 0, 1)) (k : J d mi (pc + 1) lc (.float (FP.i2f 0) :: st) w kb sb Q) : J d mi pc lc st w kb sb Q := by
  intro p l e R s m args below meth c z sa D dA Z mc ms C h1 h2 h3 h4 h5 H locs cells slots ls hR hS hl h6 h7
  exact lv_fconst0 C.1.1 C.1.2.1 hd (k p l e R s m args below meth c z sa D dA Z mc ms C h1 h2 h3 h4 h5 H locs cells slots ls hR hS hl h6 h7)
/-- an exception is caught by the row k of the table, and put away into the local i -/
theorem JX_catch {E name : String} {x : ExceptionTableEntry} {pre suf : List ExceptionTableEntry} {i : Nat} {n : Fin 4} (hsplit : tableOf mi.2.2.2.2 = pre ++ x :: suf) (hpass : ∀ y ∈ pre, covers y pc = false ∨ (y.catchType ≠ 0 ∧ ∃ nm : String, Cond.classLink mi.1.cls y.catchType nm ∈ AL ∧ (E, nm) ∈ SFC)) (hx : covers x pc = true) (h0 : x.catchType ≠ 0) (hlink : Cond.classLink mi.1.cls x.catchType name ∈ AL) (hcast : Cond.castable E name ∈ OL)
    (hst : (decode mi.2.1 x.handlerPc = .ok (.astore_n n, 1) ∧ (n : Nat) = i ∧ ∃ j, j = 1 ∧ J d mi (x.handlerPc + j) (lc.set i none) [] w kb sb Q) ∨ (decode mi.2.1 x.handlerPc = .ok (.astore i, 2) ∧ J d mi (x.handlerPc + 2) (lc.set i none) [] w kb sb Q)) (hi : i < mi.2.2.1) (hok : okst lc i = true) : JX d mi pc lc w kb sb Q E := by
  intro p l e R s m args below meth c z sa D dA Z mc ms C h1 h2 h3 h4 h5 H locs cells slots ls rest q ce hR hS hl h6 h7 g1 g2 g3
  refine vx_catch C.own pre x suf (by rw [C.2.2.2.2.1]; exact hsplit) (fun y hy => ?_) hx h0 (C.hts _ hlink) (va_Nw.use (by rfl) (C.hF.2.2.2.2.2.2.2.2.2.2.2.2.2 _ hcast)) g1 g2 g3 ?_
  · rcases hpass y hy with h | ⟨ha, nm, hb, hc⟩
    · exact Or.inl h
    · exact Or.inr ⟨ha, nm, C.hts _ hb, C.hF.2.2.2.2.2.2.2.2.1 _ hc⟩
  · have key : ∀ ls' : Array Slot, lv_has ls' mi.2.2.1 ((i, .ref q) :: (lcL sa z lc).filter (fun q => !(q.1 == i) && !(q.1 + 1 == i && q.2.category == 2))) → lrel sa z mi.2.2.1 (lc.set i none) ls' := fun ls' h' => by
      refine ⟨h'.1, h'.2.1, fun j v hj => ?_⟩
      by_cases e : j = i
      · subst e
        by_cases hlt : j < lc.length
        · rw [List.getElem?_set_self hlt] at hj
          cases hj
        · rw [List.getElem?_eq_none (by rw [List.length_set]; omega)] at hj
          cases hj
      · rw [List.getElem?_set_ne (Ne.symm e)] at hj
        refine h'.2.2 (j, mv sa z v) (List.mem_cons_of_mem _ (List.mem_filter.mpr ⟨lcL_mem hj, ?_⟩))
        have e1 : (j == i) = false := by simpa using e
        simp only [e1, Bool.not_false, Bool.true_and, mv_cat]
        cases i with
        | zero => simp
        | succ n =>
          by_cases e2 : j = n
          · subst e2
            simp only [okst, hj] at hok
            simpa using hok
          · have e3 : (j + 1 == n + 1) = false := by simpa using e2
            rw [e3]; rfl
    rcases hst with ⟨hd, hn, j, rfl, k⟩ | ⟨hd, k⟩
    · exact lv_astore_n C.1.1 C.1.2.1 hd hn hl.has hi rfl (fun ls' h' => k p l e R s m args below meth c z sa D dA Z mc ms C h1 h2 h3 h4 h5 H locs cells slots ls' hR hS (key ls' h') h6 h7)
    · exact lv_astore C.1.1 C.1.2.1 hd hl.has hi rfl (fun ls' h' => k p l e R s m args below meth c z sa D dA Z mc ms C h1 h2 h3 h4 h5 H locs cells slots ls' hR hS (key ls' h') h6 h7)
/-- System.arraycopy of a row of ints onto another one -/
theorem J_copyi {idx a b n0 n1 : Nat} {f g : Nat → Int32} {sp dp n : Int32} (hd : decode mi.2.1 pc = .ok (.invokestatic idx, 3)) (hL : Cond.methodLink mi.1.cls idx arraycopyName ∈ AL ∧ Cond.native arraycopyName ∈ AL ∧ Cond.static arraycopyName ∈ AL ∧ Cond.initialized "java/lang/System" ∈ AL) (ha : w.1 a = .inl (0, n0, .inl f)) (hb : w.1 b = .inl (0, n1, .inl g)) (g1 : ¬ sp < 0) (g2 : ¬ dp < 0) (g3 : ¬ n < 0) (g4 : sp.toNatClampNeg + n.toNatClampNeg ≤ n0) (g5 : dp.toNatClampNeg + n.toNatClampNeg ≤ n1) (hcat : (st.map fun v => v.category).sum ≤ 8) (hdd : 2 ≤ d)
    (kk : J d mi (pc + 3) lc st (upW w b (.inl (0, n1, .inl (va_cpy f g sp.toNatClampNeg dp.toNatClampNeg n.toNatClampNeg)))) kb sb Q) : J d mi pc lc (.int n :: .int dp :: .ref b :: .int sp :: .ref a :: st) w kb sb Q := by
  intro p l e R s m args below meth c z sa D dA Z mc ms C h1 h2 h3 h4 h5 H locs cells slots ls hR hS hl h6 h7
  obtain ⟨a1, a2, a3⟩ := hR.at ha (inl_nd _)
  obtain ⟨b1, b2, b3⟩ := hR.at hb (inl_nd _)
  have hroom := C.room
  have hc0 : H[adr sa z a]? = some (vp_cell (dA 0) (n0, .inl f)) := a3
  have hc1 : H[adr sa z b]? = some (vp_cell (dA 0) (n1, .inl g)) := b3
  have nn : ∀ x : Int32, ¬ x < 0 → x.toInt = (x.toNatClampNeg : Int) := by
    intro x hx
    have hx0 : (0 : Int) ≤ x.toInt := by
      have := Int32.not_lt.mp hx
      simpa using Int32.le_iff_toInt_le.mp this
    show x.toInt = ((x.toInt.toNat : Nat) : Int)
    omega
  obtain ⟨-, k0, hk0, cm0, hkk0⟩ := (C.hK.2 0 _ rfl).1 n0 (fun j => .int (f j))
  obtain ⟨-, k1, hk1, cm1, hkk1⟩ := (C.hK.2 0 _ rfl).1 n1 (fun j => .int (g j))
  intro T hT X
  obtain ⟨vm', X', step⟩ := X.arraycopy C.1.1 C.own (C.hts _ hL.1) (C.hts _ hL.2.1) (C.hts _ hL.2.2.1) (C.hts _ hL.2.2.2) (src := adr sa z a) (dst := adr sa z b) (cs := vp_cell (dA 0) (n0, .inl f)) (cd := vp_cell (dA 0) (n1, .inl g)) (srcPos := sp) (destPos := dp) (n := n) (by rw [hT]; exact hc0) (by rw [hT]; exact hc1)
    (fun _ h => by cases h) (fun _ h => by cases h) (fun h => by cases h) (fun h => by cases h) hk0 hk1 hkk0 hkk1 (by rfl) g1 g2 g3
    (by rw [nn sp g1, nn n g3]; show ¬ _ > ((arrV (dA 0) n0 (fun j => .int (f j))).slots.size : Int); rw [arrV_size]; omega)
    (by rw [nn dp g2, nn n g3]; show ¬ _ > ((arrV (dA 0) n1 (fun j => .int (g j))).slots.size : Int); rw [arrV_size]; omega)
    (fun vm₁ _ i hi => by
      have e : (vp_cell (dA 0) (n0, .inl f)).slots.getD (sp.toNatClampNeg + i) .null = .int (f (sp.toNatClampNeg + i)) := by
        show (arrV (dA 0) n0 (fun j => .int (f j))).slots.getD _ _ = _
        rw [Array.getD_eq_getD_getElem?, arrV_read _ _ (by omega)]
        rfl
      refine ⟨?_, ?_⟩
      · rw [e]
        rfl
      · rw [e]
        exact trivial)
    (g := F0 m pc ls ((.int n :: .int dp :: .ref b :: .int sp :: .ref a :: st).map (mv sa z))) rfl (by rw [C.1.2.2.1]; exact hl.1) (rest := st.map (mv sa z)) rfl (by rw [C.1.2.1]; exact hd) (by omega) (by
      have := mv_cats sa z st
      have h9 : nativeFrameWords "java/lang/System" "arraycopy" 5 + 11 ≤ 100 := by decide +kernel
      rw [mv_cats]
      show 2 * 0 + _ + _ ≤ _
      omega)
  have e1 : copied (vp_cell (dA 0) (n0, .inl f)) (vp_cell (dA 0) (n1, .inl g)) sp dp n = vp_cell (dA 0) (n1, .inl (va_cpy f g sp.toNatClampNeg dp.toNatClampNeg n.toNatClampNeg)) := va_copied (fun z => .int z) (dA 0) (dA 0) f g g4
  rw [e1] at X' step
  have hl9 : adr sa z b < H.size := (Array.getElem?_eq_some_iff.mp hc1).1
  have hheap : ((T.setVm vm').setCell (adr sa z b) (vp_cell (dA 0) (n1, .inl (va_cpy f g sp.toNatClampNeg dp.toNatClampNeg n.toNatClampNeg)))).heap = H.setIfInBounds (adr sa z b) (vp_cell (dA 0) (n1, .inl (va_cpy f g sp.toNatClampNeg dp.toNatClampNeg n.toNatClampNeg))) := by rw [← hT]; rfl
  have oq : ∀ q : Nat, q ≠ adr sa z b → (H.setIfInBounds (adr sa z b) (vp_cell (dA 0) (n1, .inl (va_cpy f g sp.toNatClampNeg dp.toNatClampNeg n.toNatClampNeg))))[q]? = H[q]? := fun q hq => by simp [Array.getElem?_setIfInBounds, Ne.symm hq]
  have hzb : z ≤ adr sa z b := by rw [adr_ge b1]; omega
  have hS1 : ∀ L : List Loc, (∀ q ∈ L, q.base = adr sa z b) → va_S (Az z) s.heap (H.setIfInBounds (adr sa z b) (vp_cell (dA 0) (n1, .inl (va_cpy f g sp.toNatClampNeg dp.toNatClampNeg n.toNatClampNeg)))) (locs ++ L) := by
    intro L hL9
    refine ⟨by simp; exact hS.1, fun q q1 q2 => ?_, fun q hq => ?_⟩
    · rw [oq q (fun e => q2 (by rw [e]; exact hzb))]
      exact hS.2.1 q q1 q2
    · rcases List.mem_append.mp hq with h | h
      · exact hS.2.2 q h
      · rw [hL9 q h]
        exact hzb
  obtain ⟨t, t1, t2⟩ := kk p l e R s m args below meth c z sa D dA Z mc ms C h1 h2 h3 h4 h5 _ _ cells slots ls (hR.set hb (inl_nd _) (by simp) oq (show va_at D vwCl (adr sa z b, tr sa z dA (.inl (0, n1, .inl (va_cpy f g sp.toNatClampNeg dp.toNatClampNeg n.toNatClampNeg)))) _ from (show (H.setIfInBounds (adr sa z b) _)[adr sa z b]? = some _ by simp [Array.getElem?_setIfInBounds, hl9]; rfl))) (hS1 _ (fun q hq => by obtain ⟨y, -, hy⟩ := List.mem_map.mp hq; rw [← hy])) hl h6 h7 _ hheap X'
  exact ⟨t, step t t1, t2⟩
end JSTAT
end
