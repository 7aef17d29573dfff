section
-- ===== PART A: goes FIRST, ahead of the names: the tables' words, and 'selects' of the private methods out of them =====
/-- a private method of a class that the tables say can be made, by its rows of tables_1 -/
def lw_okq (q : MethodName × Nat) : Prop := (q.1.cls ≠ "java/lang/invoke/MethodHandle" ∧ q.1.cls ≠ "java/lang/invoke/VarHandle") ∧ Cond.instantiable q.1.cls q.2 ∈ tables_1 ∧ Cond.privateMethod q.1 ∈ tables_1 ∧ Cond.instanceMethod q.1 ∈ tables_1
theorem lw_p0 : lw_okq (⟨"java/lang/Throwable", "fillInStackTrace", "(I)Ljava/lang/Throwable;"⟩, 6) := ⟨⟨by decide +kernel, by decide +kernel⟩, List.mem_of_getElem? (i := 384) (by decide +kernel), List.mem_of_getElem? (i := 382) (by decide +kernel), List.mem_of_getElem? (i := 383) (by decide +kernel)⟩
theorem lw_p1 : lw_okq (⟨"ForkWatch", "putBytes", "(I)V"⟩, 4) := ⟨⟨by decide +kernel, by decide +kernel⟩, List.mem_of_getElem? (i := 27) (by decide +kernel), List.mem_of_getElem? (i := 413) (by decide +kernel), List.mem_of_getElem? (i := 414) (by decide +kernel)⟩
theorem lw_p2 : lw_okq (⟨"ForkWatch", "takeBuffer", "(I)V"⟩, 4) := ⟨⟨by decide +kernel, by decide +kernel⟩, List.mem_of_getElem? (i := 27) (by decide +kernel), List.mem_of_getElem? (i := 425) (by decide +kernel), List.mem_of_getElem? (i := 426) (by decide +kernel)⟩
theorem lw_p3 : lw_okq (⟨"ForkWatch", "doStep", "(LForkWatch$Step;)I"⟩, 4) := ⟨⟨by decide +kernel, by decide +kernel⟩, List.mem_of_getElem? (i := 27) (by decide +kernel), List.mem_of_getElem? (i := 637) (by decide +kernel), List.mem_of_getElem? (i := 638) (by decide +kernel)⟩
theorem lw_p4 : lw_okq (⟨"ForkWatch", "requireClient", "(I)V"⟩, 4) := ⟨⟨by decide +kernel, by decide +kernel⟩, List.mem_of_getElem? (i := 27) (by decide +kernel), List.mem_of_getElem? (i := 891) (by decide +kernel), List.mem_of_getElem? (i := 892) (by decide +kernel)⟩
theorem lw_p5 : lw_okq (⟨"ForkWatch", "requireBranch", "(I)V"⟩, 4) := ⟨⟨by decide +kernel, by decide +kernel⟩, List.mem_of_getElem? (i := 27) (by decide +kernel), List.mem_of_getElem? (i := 946) (by decide +kernel), List.mem_of_getElem? (i := 947) (by decide +kernel)⟩
theorem lw_p6 : lw_okq (⟨"ForkWatch", "requirePost", "(I)V"⟩, 4) := ⟨⟨by decide +kernel, by decide +kernel⟩, List.mem_of_getElem? (i := 27) (by decide +kernel), List.mem_of_getElem? (i := 1079) (by decide +kernel), List.mem_of_getElem? (i := 1080) (by decide +kernel)⟩
theorem lw_p7 : lw_okq (⟨"ForkWatchModel", "isClient", "(I)Z"⟩, 40) := ⟨⟨by decide +kernel, by decide +kernel⟩, List.mem_of_getElem? (i := 1091) (by decide +kernel), List.mem_of_getElem? (i := 1227) (by decide +kernel), List.mem_of_getElem? (i := 1228) (by decide +kernel)⟩
theorem lw_p8 : lw_okq (⟨"ForkWatchModel", "isBlock", "(I)Z"⟩, 40) := ⟨⟨by decide +kernel, by decide +kernel⟩, List.mem_of_getElem? (i := 1091) (by decide +kernel), List.mem_of_getElem? (i := 1234) (by decide +kernel), List.mem_of_getElem? (i := 1235) (by decide +kernel)⟩
theorem lw_p9 : lw_okq (⟨"ForkWatchModel", "refuse", "(I)I"⟩, 40) := ⟨⟨by decide +kernel, by decide +kernel⟩, List.mem_of_getElem? (i := 1091) (by decide +kernel), List.mem_of_getElem? (i := 1238) (by decide +kernel), List.mem_of_getElem? (i := 1239) (by decide +kernel)⟩
theorem lw_p10 : lw_okq (⟨"ForkWatchModel", "operates", "(IIII)Z"⟩, 40) := ⟨⟨by decide +kernel, by decide +kernel⟩, List.mem_of_getElem? (i := 1091) (by decide +kernel), List.mem_of_getElem? (i := 1243) (by decide +kernel), List.mem_of_getElem? (i := 1244) (by decide +kernel)⟩
theorem lw_p11 : lw_okq (⟨"ForkWatchModel", "finds", "(I)I"⟩, 40) := ⟨⟨by decide +kernel, by decide +kernel⟩, List.mem_of_getElem? (i := 1091) (by decide +kernel), List.mem_of_getElem? (i := 1247) (by decide +kernel), List.mem_of_getElem? (i := 1248) (by decide +kernel)⟩
theorem lw_p12 : lw_okq (⟨"ForkWatchModel", "hashOf", "(II)I"⟩, 40) := ⟨⟨by decide +kernel, by decide +kernel⟩, List.mem_of_getElem? (i := 1091) (by decide +kernel), List.mem_of_getElem? (i := 1251) (by decide +kernel), List.mem_of_getElem? (i := 1252) (by decide +kernel)⟩
theorem lw_p13 : lw_okq (⟨"ForkWatchModel", "ownHash", "(I)I"⟩, 40) := ⟨⟨by decide +kernel, by decide +kernel⟩, List.mem_of_getElem? (i := 1091) (by decide +kernel), List.mem_of_getElem? (i := 1258) (by decide +kernel), List.mem_of_getElem? (i := 1259) (by decide +kernel)⟩
theorem lw_p14 : lw_okq (⟨"ForkWatchModel", "hashIn", "(II)I"⟩, 40) := ⟨⟨by decide +kernel, by decide +kernel⟩, List.mem_of_getElem? (i := 1091) (by decide +kernel), List.mem_of_getElem? (i := 1262) (by decide +kernel), List.mem_of_getElem? (i := 1263) (by decide +kernel)⟩
theorem lw_p15 : lw_okq (⟨"ForkWatchModel", "computed", "(II)I"⟩, 40) := ⟨⟨by decide +kernel, by decide +kernel⟩, List.mem_of_getElem? (i := 1091) (by decide +kernel), List.mem_of_getElem? (i := 1266) (by decide +kernel), List.mem_of_getElem? (i := 1267) (by decide +kernel)⟩
def lw_privs_1 : List (MethodName × Nat) := [(⟨"java/lang/Throwable", "fillInStackTrace", "(I)Ljava/lang/Throwable;"⟩, 6), (⟨"ForkWatch", "putBytes", "(I)V"⟩, 4), (⟨"ForkWatch", "takeBuffer", "(I)V"⟩, 4), (⟨"ForkWatch", "doStep", "(LForkWatch$Step;)I"⟩, 4), (⟨"ForkWatch", "requireClient", "(I)V"⟩, 4), (⟨"ForkWatch", "requireBranch", "(I)V"⟩, 4), (⟨"ForkWatch", "requirePost", "(I)V"⟩, 4), (⟨"ForkWatchModel", "isClient", "(I)Z"⟩, 40), (⟨"ForkWatchModel", "isBlock", "(I)Z"⟩, 40), (⟨"ForkWatchModel", "refuse", "(I)I"⟩, 40), (⟨"ForkWatchModel", "operates", "(IIII)Z"⟩, 40), (⟨"ForkWatchModel", "finds", "(I)I"⟩, 40), (⟨"ForkWatchModel", "hashOf", "(II)I"⟩, 40), (⟨"ForkWatchModel", "ownHash", "(I)I"⟩, 40), (⟨"ForkWatchModel", "hashIn", "(II)I"⟩, 40), (⟨"ForkWatchModel", "computed", "(II)I"⟩, 40)]
theorem lw_r1 : ∀ q ∈ lw_privs_1, lw_okq q := List.forall_mem_cons.mpr ⟨lw_p0, List.forall_mem_cons.mpr ⟨lw_p1, List.forall_mem_cons.mpr ⟨lw_p2, List.forall_mem_cons.mpr ⟨lw_p3, List.forall_mem_cons.mpr ⟨lw_p4, List.forall_mem_cons.mpr ⟨lw_p5, List.forall_mem_cons.mpr ⟨lw_p6, List.forall_mem_cons.mpr ⟨lw_p7, List.forall_mem_cons.mpr ⟨lw_p8, List.forall_mem_cons.mpr ⟨lw_p9, List.forall_mem_cons.mpr ⟨lw_p10, List.forall_mem_cons.mpr ⟨lw_p11, List.forall_mem_cons.mpr ⟨lw_p12, List.forall_mem_cons.mpr ⟨lw_p13, List.forall_mem_cons.mpr ⟨lw_p14, List.forall_mem_cons.mpr ⟨lw_p15, fun _ h => absurd h List.not_mem_nil⟩⟩⟩⟩⟩⟩⟩⟩⟩⟩⟩⟩⟩⟩⟩⟩
theorem lw_p16 : lw_okq (⟨"ForkWatchModel", "suspects", "(II)V"⟩, 40) := ⟨⟨by decide +kernel, by decide +kernel⟩, List.mem_of_getElem? (i := 1091) (by decide +kernel), List.mem_of_getElem? (i := 1279) (by decide +kernel), List.mem_of_getElem? (i := 1280) (by decide +kernel)⟩
theorem lw_p17 : lw_okq (⟨"ForkWatchModel", "blames", "(IIIIII)V"⟩, 40) := ⟨⟨by decide +kernel, by decide +kernel⟩, List.mem_of_getElem? (i := 1091) (by decide +kernel), List.mem_of_getElem? (i := 1283) (by decide +kernel), List.mem_of_getElem? (i := 1284) (by decide +kernel)⟩
theorem lw_p18 : lw_okq (⟨"ForkWatchModel", "append", "(IIIIII)V"⟩, 40) := ⟨⟨by decide +kernel, by decide +kernel⟩, List.mem_of_getElem? (i := 1091) (by decide +kernel), List.mem_of_getElem? (i := 1287) (by decide +kernel), List.mem_of_getElem? (i := 1288) (by decide +kernel)⟩
theorem lw_p19 : lw_okq (⟨"ForkWatchModel", "takes", "(II)V"⟩, 40) := ⟨⟨by decide +kernel, by decide +kernel⟩, List.mem_of_getElem? (i := 1091) (by decide +kernel), List.mem_of_getElem? (i := 1291) (by decide +kernel), List.mem_of_getElem? (i := 1292) (by decide +kernel)⟩
theorem lw_p20 : lw_okq (⟨"ForkWatchModel", "putsPost", "(I)V"⟩, 40) := ⟨⟨by decide +kernel, by decide +kernel⟩, List.mem_of_getElem? (i := 1091) (by decide +kernel), List.mem_of_getElem? (i := 1295) (by decide +kernel), List.mem_of_getElem? (i := 1296) (by decide +kernel)⟩
theorem lw_p21 : lw_okq (⟨"ForkWatchModel", "valueIn", "(II)I"⟩, 40) := ⟨⟨by decide +kernel, by decide +kernel⟩, List.mem_of_getElem? (i := 1091) (by decide +kernel), List.mem_of_getElem? (i := 1304) (by decide +kernel), List.mem_of_getElem? (i := 1305) (by decide +kernel)⟩
theorem lw_p22 : lw_okq (⟨"ForkWatchModel", "areForked", "(II)Z"⟩, 40) := ⟨⟨by decide +kernel, by decide +kernel⟩, List.mem_of_getElem? (i := 1091) (by decide +kernel), List.mem_of_getElem? (i := 1312) (by decide +kernel), List.mem_of_getElem? (i := 1313) (by decide +kernel)⟩
theorem lw_p23 : lw_okq (⟨"ForkWatchModel", "lowerOf", "(II)I"⟩, 40) := ⟨⟨by decide +kernel, by decide +kernel⟩, List.mem_of_getElem? (i := 1091) (by decide +kernel), List.mem_of_getElem? (i := 1316) (by decide +kernel), List.mem_of_getElem? (i := 1317) (by decide +kernel)⟩
theorem lw_p24 : lw_okq (⟨"ForkWatchModel", "seenByAll", "(I)I"⟩, 40) := ⟨⟨by decide +kernel, by decide +kernel⟩, List.mem_of_getElem? (i := 1091) (by decide +kernel), List.mem_of_getElem? (i := 1336) (by decide +kernel), List.mem_of_getElem? (i := 1337) (by decide +kernel)⟩
theorem lw_p25 : lw_okq (⟨"ForkWatchModel", "copies", "(III)V"⟩, 40) := ⟨⟨by decide +kernel, by decide +kernel⟩, List.mem_of_getElem? (i := 1091) (by decide +kernel), List.mem_of_getElem? (i := 1343) (by decide +kernel), List.mem_of_getElem? (i := 1344) (by decide +kernel)⟩
theorem lw_p26 : lw_okq (⟨"ForkWatchModel", "isBranch", "(I)Z"⟩, 40) := ⟨⟨by decide +kernel, by decide +kernel⟩, List.mem_of_getElem? (i := 1091) (by decide +kernel), List.mem_of_getElem? (i := 1351) (by decide +kernel), List.mem_of_getElem? (i := 1352) (by decide +kernel)⟩
theorem lw_p27 : lw_okq (⟨"ForkWatchModel", "isEntry", "(II)Z"⟩, 40) := ⟨⟨by decide +kernel, by decide +kernel⟩, List.mem_of_getElem? (i := 1091) (by decide +kernel), List.mem_of_getElem? (i := 1363) (by decide +kernel), List.mem_of_getElem? (i := 1364) (by decide +kernel)⟩
theorem lw_p28 : lw_okq (⟨"ForkWatchModel", "common", "(II)I"⟩, 40) := ⟨⟨by decide +kernel, by decide +kernel⟩, List.mem_of_getElem? (i := 1091) (by decide +kernel), List.mem_of_getElem? (i := 1371) (by decide +kernel), List.mem_of_getElem? (i := 1372) (by decide +kernel)⟩
theorem lw_p29 : lw_okq (⟨"ForkWatchModel", "conflictsOf", "(II)I"⟩, 40) := ⟨⟨by decide +kernel, by decide +kernel⟩, List.mem_of_getElem? (i := 1091) (by decide +kernel), List.mem_of_getElem? (i := 1375) (by decide +kernel), List.mem_of_getElem? (i := 1376) (by decide +kernel)⟩
theorem lw_p30 : lw_okq (⟨"ForkWatchModel", "touched", "(IIZ)I"⟩, 40) := ⟨⟨by decide +kernel, by decide +kernel⟩, List.mem_of_getElem? (i := 1091) (by decide +kernel), List.mem_of_getElem? (i := 1379) (by decide +kernel), List.mem_of_getElem? (i := 1380) (by decide +kernel)⟩
theorem lw_p31 : lw_okq (⟨"ForkWatchModel", "comesOver", "(IZII)V"⟩, 40) := ⟨⟨by decide +kernel, by decide +kernel⟩, List.mem_of_getElem? (i := 1091) (by decide +kernel), List.mem_of_getElem? (i := 1383) (by decide +kernel), List.mem_of_getElem? (i := 1384) (by decide +kernel)⟩
def lw_privs_2 : List (MethodName × Nat) := [(⟨"ForkWatchModel", "suspects", "(II)V"⟩, 40), (⟨"ForkWatchModel", "blames", "(IIIIII)V"⟩, 40), (⟨"ForkWatchModel", "append", "(IIIIII)V"⟩, 40), (⟨"ForkWatchModel", "takes", "(II)V"⟩, 40), (⟨"ForkWatchModel", "putsPost", "(I)V"⟩, 40), (⟨"ForkWatchModel", "valueIn", "(II)I"⟩, 40), (⟨"ForkWatchModel", "areForked", "(II)Z"⟩, 40), (⟨"ForkWatchModel", "lowerOf", "(II)I"⟩, 40), (⟨"ForkWatchModel", "seenByAll", "(I)I"⟩, 40), (⟨"ForkWatchModel", "copies", "(III)V"⟩, 40), (⟨"ForkWatchModel", "isBranch", "(I)Z"⟩, 40), (⟨"ForkWatchModel", "isEntry", "(II)Z"⟩, 40), (⟨"ForkWatchModel", "common", "(II)I"⟩, 40), (⟨"ForkWatchModel", "conflictsOf", "(II)I"⟩, 40), (⟨"ForkWatchModel", "touched", "(IIZ)I"⟩, 40), (⟨"ForkWatchModel", "comesOver", "(IZII)V"⟩, 40)]
theorem lw_r2 : ∀ q ∈ lw_privs_2, lw_okq q := List.forall_mem_cons.mpr ⟨lw_p16, List.forall_mem_cons.mpr ⟨lw_p17, List.forall_mem_cons.mpr ⟨lw_p18, List.forall_mem_cons.mpr ⟨lw_p19, List.forall_mem_cons.mpr ⟨lw_p20, List.forall_mem_cons.mpr ⟨lw_p21, List.forall_mem_cons.mpr ⟨lw_p22, List.forall_mem_cons.mpr ⟨lw_p23, List.forall_mem_cons.mpr ⟨lw_p24, List.forall_mem_cons.mpr ⟨lw_p25, List.forall_mem_cons.mpr ⟨lw_p26, List.forall_mem_cons.mpr ⟨lw_p27, List.forall_mem_cons.mpr ⟨lw_p28, List.forall_mem_cons.mpr ⟨lw_p29, List.forall_mem_cons.mpr ⟨lw_p30, List.forall_mem_cons.mpr ⟨lw_p31, fun _ h => absurd h List.not_mem_nil⟩⟩⟩⟩⟩⟩⟩⟩⟩⟩⟩⟩⟩⟩⟩⟩
theorem lw_p32 : lw_okq (⟨"ForkWatchModel", "goesWith", "(I)Z"⟩, 40) := ⟨⟨by decide +kernel, by decide +kernel⟩, List.mem_of_getElem? (i := 1091) (by decide +kernel), List.mem_of_getElem? (i := 1387) (by decide +kernel), List.mem_of_getElem? (i := 1388) (by decide +kernel)⟩
theorem lw_p33 : lw_okq (⟨"ForkWatchModel", "puts", "(I)V"⟩, 40) := ⟨⟨by decide +kernel, by decide +kernel⟩, List.mem_of_getElem? (i := 1091) (by decide +kernel), List.mem_of_getElem? (i := 1395) (by decide +kernel), List.mem_of_getElem? (i := 1396) (by decide +kernel)⟩
theorem lw_p34 : lw_okq (⟨"ForkWatchModel", "told", "(I)I"⟩, 40) := ⟨⟨by decide +kernel, by decide +kernel⟩, List.mem_of_getElem? (i := 1091) (by decide +kernel), List.mem_of_getElem? (i := 1403) (by decide +kernel), List.mem_of_getElem? (i := 1404) (by decide +kernel)⟩
theorem lw_p35 : lw_okq (⟨"ForkWatchModel", "opensText", "(I)V"⟩, 40) := ⟨⟨by decide +kernel, by decide +kernel⟩, List.mem_of_getElem? (i := 1091) (by decide +kernel), List.mem_of_getElem? (i := 1419) (by decide +kernel), List.mem_of_getElem? (i := 1420) (by decide +kernel)⟩
theorem lw_p36 : lw_okq (⟨"ForkWatchModel", "readService", "()Z"⟩, 40) := ⟨⟨by decide +kernel, by decide +kernel⟩, List.mem_of_getElem? (i := 1091) (by decide +kernel), List.mem_of_getElem? (i := 1423) (by decide +kernel), List.mem_of_getElem? (i := 1424) (by decide +kernel)⟩
theorem lw_p37 : lw_okq (⟨"ForkWatchModel", "takesWord", "(J)Z"⟩, 40) := ⟨⟨by decide +kernel, by decide +kernel⟩, List.mem_of_getElem? (i := 1091) (by decide +kernel), List.mem_of_getElem? (i := 1428) (by decide +kernel), List.mem_of_getElem? (i := 1429) (by decide +kernel)⟩
theorem lw_p38 : lw_okq (⟨"ForkWatchModel", "readWord", "()Z"⟩, 40) := ⟨⟨by decide +kernel, by decide +kernel⟩, List.mem_of_getElem? (i := 1091) (by decide +kernel), List.mem_of_getElem? (i := 1432) (by decide +kernel), List.mem_of_getElem? (i := 1433) (by decide +kernel)⟩
theorem lw_p39 : lw_okq (⟨"ForkWatchModel", "peek", "()I"⟩, 40) := ⟨⟨by decide +kernel, by decide +kernel⟩, List.mem_of_getElem? (i := 1091) (by decide +kernel), List.mem_of_getElem? (i := 1436) (by decide +kernel), List.mem_of_getElem? (i := 1437) (by decide +kernel)⟩
theorem lw_p40 : lw_okq (⟨"ForkWatchModel", "byteAt", "(I)I"⟩, 40) := ⟨⟨by decide +kernel, by decide +kernel⟩, List.mem_of_getElem? (i := 1091) (by decide +kernel), List.mem_of_getElem? (i := 1440) (by decide +kernel), List.mem_of_getElem? (i := 1441) (by decide +kernel)⟩
theorem lw_p41 : lw_okq (⟨"ForkWatchModel", "fails", "(II)Z"⟩, 40) := ⟨⟨by decide +kernel, by decide +kernel⟩, List.mem_of_getElem? (i := 1091) (by decide +kernel), List.mem_of_getElem? (i := 1447) (by decide +kernel), List.mem_of_getElem? (i := 1448) (by decide +kernel)⟩
theorem lw_p42 : lw_okq (⟨"ForkWatchModel", "readNumber", "(II)Z"⟩, 40) := ⟨⟨by decide +kernel, by decide +kernel⟩, List.mem_of_getElem? (i := 1091) (by decide +kernel), List.mem_of_getElem? (i := 1453) (by decide +kernel), List.mem_of_getElem? (i := 1454) (by decide +kernel)⟩
theorem lw_p43 : lw_okq (⟨"ForkWatchModel", "readSemicolon", "()Z"⟩, 40) := ⟨⟨by decide +kernel, by decide +kernel⟩, List.mem_of_getElem? (i := 1091) (by decide +kernel), List.mem_of_getElem? (i := 1462) (by decide +kernel), List.mem_of_getElem? (i := 1463) (by decide +kernel)⟩
theorem lw_p44 : lw_okq (⟨"ForkWatchModel", "startAnew", "()V"⟩, 40) := ⟨⟨by decide +kernel, by decide +kernel⟩, List.mem_of_getElem? (i := 1091) (by decide +kernel), List.mem_of_getElem? (i := 1466) (by decide +kernel), List.mem_of_getElem? (i := 1467) (by decide +kernel)⟩
theorem lw_p45 : lw_okq (⟨"ForkWatchModel", "readScript", "()Z"⟩, 40) := ⟨⟨by decide +kernel, by decide +kernel⟩, List.mem_of_getElem? (i := 1091) (by decide +kernel), List.mem_of_getElem? (i := 1474) (by decide +kernel), List.mem_of_getElem? (i := 1475) (by decide +kernel)⟩
theorem lw_p46 : lw_okq (⟨"ForkWatchModel", "readStep", "()Z"⟩, 40) := ⟨⟨by decide +kernel, by decide +kernel⟩, List.mem_of_getElem? (i := 1091) (by decide +kernel), List.mem_of_getElem? (i := 1478) (by decide +kernel), List.mem_of_getElem? (i := 1479) (by decide +kernel)⟩
theorem lw_p47 : lw_okq (⟨"ForkWatchModel", "readOperation", "()Z"⟩, 40) := ⟨⟨by decide +kernel, by decide +kernel⟩, List.mem_of_getElem? (i := 1091) (by decide +kernel), List.mem_of_getElem? (i := 1482) (by decide +kernel), List.mem_of_getElem? (i := 1483) (by decide +kernel)⟩
def lw_privs_3 : List (MethodName × Nat) := [(⟨"ForkWatchModel", "goesWith", "(I)Z"⟩, 40), (⟨"ForkWatchModel", "puts", "(I)V"⟩, 40), (⟨"ForkWatchModel", "told", "(I)I"⟩, 40), (⟨"ForkWatchModel", "opensText", "(I)V"⟩, 40), (⟨"ForkWatchModel", "readService", "()Z"⟩, 40), (⟨"ForkWatchModel", "takesWord", "(J)Z"⟩, 40), (⟨"ForkWatchModel", "readWord", "()Z"⟩, 40), (⟨"ForkWatchModel", "peek", "()I"⟩, 40), (⟨"ForkWatchModel", "byteAt", "(I)I"⟩, 40), (⟨"ForkWatchModel", "fails", "(II)Z"⟩, 40), (⟨"ForkWatchModel", "readNumber", "(II)Z"⟩, 40), (⟨"ForkWatchModel", "readSemicolon", "()Z"⟩, 40), (⟨"ForkWatchModel", "startAnew", "()V"⟩, 40), (⟨"ForkWatchModel", "readScript", "()Z"⟩, 40), (⟨"ForkWatchModel", "readStep", "()Z"⟩, 40), (⟨"ForkWatchModel", "readOperation", "()Z"⟩, 40)]
theorem lw_r3 : ∀ q ∈ lw_privs_3, lw_okq q := List.forall_mem_cons.mpr ⟨lw_p32, List.forall_mem_cons.mpr ⟨lw_p33, List.forall_mem_cons.mpr ⟨lw_p34, List.forall_mem_cons.mpr ⟨lw_p35, List.forall_mem_cons.mpr ⟨lw_p36, List.forall_mem_cons.mpr ⟨lw_p37, List.forall_mem_cons.mpr ⟨lw_p38, List.forall_mem_cons.mpr ⟨lw_p39, List.forall_mem_cons.mpr ⟨lw_p40, List.forall_mem_cons.mpr ⟨lw_p41, List.forall_mem_cons.mpr ⟨lw_p42, List.forall_mem_cons.mpr ⟨lw_p43, List.forall_mem_cons.mpr ⟨lw_p44, List.forall_mem_cons.mpr ⟨lw_p45, List.forall_mem_cons.mpr ⟨lw_p46, List.forall_mem_cons.mpr ⟨lw_p47, fun _ h => absurd h List.not_mem_nil⟩⟩⟩⟩⟩⟩⟩⟩⟩⟩⟩⟩⟩⟩⟩⟩
theorem lw_p48 : lw_okq (⟨"ForkWatchModel", "isTooMany", "(I)Z"⟩, 40) := ⟨⟨by decide +kernel, by decide +kernel⟩, List.mem_of_getElem? (i := 1091) (by decide +kernel), List.mem_of_getElem? (i := 1486) (by decide +kernel), List.mem_of_getElem? (i := 1487) (by decide +kernel)⟩
theorem lw_p49 : lw_okq (⟨"ForkWatchModel", "readInto", "(III)Z"⟩, 40) := ⟨⟨by decide +kernel, by decide +kernel⟩, List.mem_of_getElem? (i := 1091) (by decide +kernel), List.mem_of_getElem? (i := 1492) (by decide +kernel), List.mem_of_getElem? (i := 1493) (by decide +kernel)⟩
theorem lw_p50 : lw_okq (⟨"ForkWatchModel", "stepOf", "(J)I"⟩, 40) := ⟨⟨by decide +kernel, by decide +kernel⟩, List.mem_of_getElem? (i := 1091) (by decide +kernel), List.mem_of_getElem? (i := 1496) (by decide +kernel), List.mem_of_getElem? (i := 1497) (by decide +kernel)⟩
theorem lw_p51 : lw_okq (⟨"ForkWatchModel", "readRest", "(I)Z"⟩, 40) := ⟨⟨by decide +kernel, by decide +kernel⟩, List.mem_of_getElem? (i := 1091) (by decide +kernel), List.mem_of_getElem? (i := 1507) (by decide +kernel), List.mem_of_getElem? (i := 1508) (by decide +kernel)⟩
theorem lw_p52 : lw_okq (⟨"ForkWatchModel", "readFork", "()Z"⟩, 40) := ⟨⟨by decide +kernel, by decide +kernel⟩, List.mem_of_getElem? (i := 1091) (by decide +kernel), List.mem_of_getElem? (i := 1511) (by decide +kernel), List.mem_of_getElem? (i := 1512) (by decide +kernel)⟩
theorem lw_p53 : lw_okq (⟨"ForkWatchModel", "readClient", "(I)Z"⟩, 40) := ⟨⟨by decide +kernel, by decide +kernel⟩, List.mem_of_getElem? (i := 1091) (by decide +kernel), List.mem_of_getElem? (i := 1515) (by decide +kernel), List.mem_of_getElem? (i := 1516) (by decide +kernel)⟩
theorem lw_p54 : lw_okq (⟨"ForkWatchModel", "readBranch", "(I)Z"⟩, 40) := ⟨⟨by decide +kernel, by decide +kernel⟩, List.mem_of_getElem? (i := 1091) (by decide +kernel), List.mem_of_getElem? (i := 1519) (by decide +kernel), List.mem_of_getElem? (i := 1520) (by decide +kernel)⟩
theorem lw_p55 : lw_okq (⟨"ForkWatchModel", "doesStep", "(I)I"⟩, 40) := ⟨⟨by decide +kernel, by decide +kernel⟩, List.mem_of_getElem? (i := 1091) (by decide +kernel), List.mem_of_getElem? (i := 1523) (by decide +kernel), List.mem_of_getElem? (i := 1524) (by decide +kernel)⟩
theorem lw_p56 : lw_okq (⟨"ForkWatchModel", "number", "(II)I"⟩, 40) := ⟨⟨by decide +kernel, by decide +kernel⟩, List.mem_of_getElem? (i := 1091) (by decide +kernel), List.mem_of_getElem? (i := 1595) (by decide +kernel), List.mem_of_getElem? (i := 1596) (by decide +kernel)⟩
def lw_privs_4 : List (MethodName × Nat) := [(⟨"ForkWatchModel", "isTooMany", "(I)Z"⟩, 40), (⟨"ForkWatchModel", "readInto", "(III)Z"⟩, 40), (⟨"ForkWatchModel", "stepOf", "(J)I"⟩, 40), (⟨"ForkWatchModel", "readRest", "(I)Z"⟩, 40), (⟨"ForkWatchModel", "readFork", "()Z"⟩, 40), (⟨"ForkWatchModel", "readClient", "(I)Z"⟩, 40), (⟨"ForkWatchModel", "readBranch", "(I)Z"⟩, 40), (⟨"ForkWatchModel", "doesStep", "(I)I"⟩, 40), (⟨"ForkWatchModel", "number", "(II)I"⟩, 40)]
theorem lw_r4 : ∀ q ∈ lw_privs_4, lw_okq q := List.forall_mem_cons.mpr ⟨lw_p48, List.forall_mem_cons.mpr ⟨lw_p49, List.forall_mem_cons.mpr ⟨lw_p50, List.forall_mem_cons.mpr ⟨lw_p51, List.forall_mem_cons.mpr ⟨lw_p52, List.forall_mem_cons.mpr ⟨lw_p53, List.forall_mem_cons.mpr ⟨lw_p54, List.forall_mem_cons.mpr ⟨lw_p55, List.forall_mem_cons.mpr ⟨lw_p56, fun _ h => absurd h List.not_mem_nil⟩⟩⟩⟩⟩⟩⟩⟩⟩
def lw_privs : List (MethodName × Nat) := lw_privs_1 ++ (lw_privs_2 ++ (lw_privs_3 ++ (lw_privs_4)))
def lw_tbl : List Cond := k2_sels lw_privs ++ tables_1
theorem lw_privs_ok : ∀ q ∈ lw_privs, lw_okq q := by
  show ∀ q ∈ lw_privs_1 ++ (lw_privs_2 ++ (lw_privs_3 ++ (lw_privs_4))), lw_okq q
  exact List.forall_mem_append.mpr ⟨lw_r1, List.forall_mem_append.mpr ⟨lw_r2, List.forall_mem_append.mpr ⟨lw_r3, lw_r4⟩⟩⟩
end
section
/-! ===== BEGIN words of one list among another's, by their places ===== -/
theorem goodIn_r {big : List Cond} (ws : List Cond) (ps : List Nat) (hp : ws = ps.filterMap (fun i => big[i]?)) (h : ws.all goodWord = true) : GoodIn big ws := by
  intro w hw
  have h1 := List.all_eq_true.mp h w hw
  rw [hp] at hw
  obtain ⟨i, -, hi⟩ := List.mem_filterMap.mp hw
  have hm : w ∈ big := by first | exact List.mem_of_getElem? hi | exact List.getElem?_mem hi
  exact ⟨hm, good_of_word h1⟩
theorem goodIn_app {big a b : List Cond} (ha : GoodIn big a) (hb : GoodIn big b) : GoodIn big (a ++ b) := fun w h => (List.mem_append.mp h).elim (ha w) (hb w)
theorem goodIn_ca {big a b : List Cond} {c : Cond} (ha : GoodIn big (c :: a)) (hb : GoodIn big b) : GoodIn big (c :: (a ++ b)) := fun w h => (List.mem_cons.mp h).elim (fun e => ha w (List.mem_cons.mpr (Or.inl e))) (fun h => (List.mem_append.mp h).elim (fun h => ha w (List.mem_cons.mpr (Or.inr h))) (hb w))
theorem goodIn_sub {big ws : List Cond} (hm : ∀ w ∈ ws, w ∈ big) (h : ws.all goodWord = true) : GoodIn big ws := fun w hw => ⟨hm w hw, good_of_word (List.all_eq_true.mp h w hw)⟩
/-! ===== END ===== -/

/-! ===== BEGIN exceptions that leave a method, and their catching by the caller (launches without stack traces) ===== -/
section VXA
/-! The laws vx_back, vx_callV, vx_callS, vx_callSW, vx_throw0, vx_throwS follow proofs of the library, with one case more: JvmDerived/Free/Laws.lean (Back.of_free), Shelf42/LK1.lean (callV, callS), Shelf/KitTraced.lean (throwNew0V, throwNewS). -/
/-- where a method has thrown q: the class by its name, the cell, what was written, the world -/
def vx_T (XC : String → State → State → Prop) (st : State) (q : Addr) (t : State) (mc ms : Nat) (free : Addr → Prop) : Prop :=
  ∃ (E : String) (ce : Cell) (L : List Loc), XC E st t ∧ t.heap[q]? = some ce ∧ ce.vm = .none ∧ st.vm.findClass E = some ce.cls ∧ st.WarmedH t.vm ∧ st.sameButNew ({ t with vm := st.vm } : State) L mc ms ∧ ∀ z ∈ L, free z.base
def vx_Q (Qc : Array Value → State → Outcome → State → Prop) (XC : String → State → State → Prop) (mc ms : Nat) (free : Addr → Prop) : Array Value → State → Outcome → State → Prop := fun a st o t =>
  (Qc a st o t ∧ ∃ L, FrameEnd st o t L mc ms ∧ ∀ q ∈ L, free q.base) ∨ ∃ q, o = .threw q ∧ vx_T XC st q t mc ms free
/-- a callee that returns or throws -/
def vx_Met (l : Launch) (y : MethodName) (ws : List Cond) (rm : Room) (Pc : Array Value → State → Prop) (Qc : Array Value → State → Outcome → State → Prop) (XC : String → State → State → Prop) (mc ms : Nat) (free : Addr → Prop) : Prop :=
  MetFree l y (headSpec ws rm) Pc (fun _ _ _ _ _ => True) (vx_Q Qc XC mc ms free)
def vx_Post (XC : String → State → State → Prop) (mc ms : Nat) (free : Addr → Prop) : Pt → Array Value → Addr → Pt → Prop := fun A a q B =>
  ∃ (g : JFrame) (mk : MethodId) (t : State) (L : List Loc) (E : String) (ce : Cell), B.U.heap = t.heap ∧ B.U.vm = t.vm ∧ XC E (A.U.calling g mk a) t ∧ t.heap[q]? = some ce ∧ ce.vm = .none ∧ A.U.vm.findClass E = some ce.cls ∧ B.locs = A.locs ++ L ∧ (∀ z ∈ L, free z.base) ∧ B.cells = A.cells + mc ∧ B.slots = A.slots + ms
def vx_Back (l : Launch) (R : Room) (p : Program) (e : Env) (below : List Frame) (s : State) (sargs : Array Value) (y : MethodName) (len W9 : Nat)
    (Pre : Pt → Array Value → Prop) (Post : Pt → Array Value → Option Value → Pt → Prop) (PostX : Pt → Array Value → Addr → Pt → Prop) : Prop :=
  ∀ (m : MethodId) (meth : Method) (c : Code) (A : Pt) (g : JFrame) (ig : Instr) (mk : MethodId) (a : Array Value),
    Stand p l e R s m sargs below meth c A.U A.locs A.cells A.slots → g.method = m → g.locals.size = c.maxLocals → decode c.code g.pc = .ok (ig, len) →
    2 * g.monitorRoom + (g.stack.map fun v => v.category).sum ≤ W9 → A.U.methodNamed? y = some mk → Pre A a →
    (∃ (v : Option Value) (B : Pt), Stand p l e R s m sargs below meth c B.U B.locs B.cells B.slots ∧ Post A a v B ∧
      Steps p.tables e below (doInvoke e (A.U.setTop g) [] mk a).1 (B.U.setTop { g with pc := g.pc + len, stack := v.toList ++ g.stack })) ∨
    (∃ (q : Addr) (B : Pt), Stand p l e R s m sargs below meth c B.U B.locs B.cells B.slots ∧ PostX A a q B ∧
      Steps p.tables e below (doInvoke e (A.U.setTop g) [] mk a).1 ((B.U.setTop g).pushFrame (.throwing q)))
section Payer
variable {l : Launch} {R : Room} {p : Program} {e : Env} {below : List Frame} {s : State} {sargs : Array Value} {y : MethodName} {len W9 : Nat}
theorem vx_back {ws : List Cond} {rm : Room} {Pc : Array Value → State → Prop} {Qc : Array Value → State → Outcome → State → Prop} {XC : String → State → State → Prop} {mc ms : Nat} {free : Addr → Prop} {bytes : ByteArray} {maxL : Nat} {ret : Option FieldType}
    (hM : vx_Met l y ws rm Pc Qc XC mc ms free) (hblind : FrameBlind Pc) (hrc : rm.cells = mc) (hrs : rm.slots = ms)
    (hframes : rm.frames + 1 ≤ R.frames) (hlocals : W9 + (maxL + 11) + rm.locals ≤ R.locals)
    (hws : ∀ w ∈ ws, ∀ a' U, s.WarmedH U.vm → w.before a' U = true) (hcode : Cond.code y bytes maxL ret ∈ ws) (hinit : ∀ a' U, s.WarmedH U.vm → (Cond.initialized y.cls).before a' U = true) :
    vx_Back l R p e below s sargs y len W9 (PreOf R mc ms Pc) (PostOf Qc mc ms free) (vx_Post XC mc ms free) := by
  intro m meth c A g ig mk a X hg hsize hdg hW hn hp
  have h1 : (headSpec ws rm).pre.before a A.U = true := atoms_intro fun w hw => hws w hw _ _ X.warmed
  have h2 : (Cond.code y bytes maxL ret).before a A.U = true := hws _ hcode _ _ X.warmed
  have h3 : (Cond.initialized y.cls).before a A.U = true := hinit _ _ X.warmed
  have h4 : A.cells + (headSpec ws rm).room.cells ≤ R.cells := by rw [show (headSpec ws rm).room.cells = mc from hrc]; exact hp.1
  have h5 : A.slots + (headSpec ws rm).room.slots ≤ R.slots := by rw [show (headSpec ws rm).room.slots = ms from hrs]; exact hp.2.1
  have hPc : Pc a (A.U.calling g mk a) := hblind _ _ _ _ hp.2.2
  obtain ⟨U, Ls, c0, s0⟩ := A
  dsimp only [Pt.U, Pt.locs, Pt.cells, Pt.slots] at h1 h2 h3 h4 h5 X hn hPc ⊢
  obtain ⟨methY, cY, hmY, hcY, -, hlY, -, -, -, -⟩ := Cond.code_spec hn h2
  obtain ⟨kY, hkY, -⟩ := className_of_methodNamed hn
  have hinitY : kY.init = .initialized := Cond.initialized_spec (findClass_of_methodNamed hn) hkY h3
  have h : At U g.method c below := by rw [hg]; exact X.here
  have hlocals9 : W9 + (maxL + 11) + (headSpec ws rm).room.locals ≤ R.locals := hlocals
  have happ : (headSpec ws rm).appliesLoose y e.platform (U.calling g mk a) = true :=
    Spec.appliesLoose_calling (g := g) h hdg hn hkY hinitY
      (X.room_calling (g := g) (R' := (headSpec ws rm).room) hsize hmY hcY hframes (by rw [hlY]; omega) h4 h5) h1
  obtain ⟨mid, hmid⟩ := h.above
  have hfr : (U.setTop g).frames = (.java g :: mid) ++ below := by rw [State.frames_setTop' g h.top, hmid]; rfl
  obtain ⟨o, s₂, hsteps, -, hend, hq⟩ := Steps.callFree hM p X.admits X.cas X.clock (acts := []) hfr happ hPc trivial
  have hq' : vx_Q Qc XC mc ms free a (U.calling g mk a) o s₂ := hq
  rw [State.frames_setTop' g h.top] at hend
  obtain ⟨g₀, hg0⟩ := Option.isSome_iff_exists.mp h.top
  obtain ⟨r, hr⟩ := State.topJava?_eq_some.mp hg0
  have hr' : (({ U with heap := s₂.heap, slotsUsed := s₂.slotsUsed } : State).setVm s₂.vm).frames = .java g₀ :: r := hr
  rcases hq' with ⟨hqc, L, hfe, hL⟩ | ⟨q, rfl, E, ce, L, hx, hce, hcv, hcl, hW₂, hsm, hL⟩
  · obtain ⟨⟨v, rfl⟩, hW₂, e2, q2, q3, q4, q5, q6⟩ := id hfe
    have e3 : s₂ = ({ (U.calling g mk a).setFrames s₂.frames with heap := s₂.heap, slotsUsed := s₂.slotsUsed } : State).setVm s₂.vm := by
      have : s₂ = ({ s₂ with vm := (U.calling g mk a).vm } : State).setVm s₂.vm := rfl
      rw [e2] at this
      exact this
    obtain ⟨c₂, i₂, len₂, hc₂, hd₂, hf₂⟩ := hend
    have hW' : U.WarmedH s₂.vm := hW₂
    have hcc : c₂ = c := by
      have h1 : s₂.code? g.method = U.code? g.method := by
        rw [State.code?_eq, State.code?_eq, hW'.alike.method?]
      exact Option.some.inj (hc₂.symm.trans (h1.trans h.code))
    subst hcc
    have hlen : len₂ = len := by rw [hdg] at hd₂; cases hd₂; rfl
    subst hlen
    have hs₂ : s₂ = (({ U with heap := s₂.heap, slotsUsed := s₂.slotsUsed } : State).setVm s₂.vm).setTop { g with pc := g.pc + len₂, stack := v.toList ++ g.stack } := by
      refine e3.trans ?_
      rw [hf₂, State.calling_eq h.top, State.setFrames_setFrames, State.setTop_of_frames _ hr', hr]
      rfl
    have hsame : U.sameButNew ({ U with heap := s₂.heap, slotsUsed := s₂.slotsUsed } : State) L mc ms := by
      refine ⟨?_, q2, q3, q4, q5, q6⟩
      obtain ⟨t, ht, -⟩ := State.frames_cons hr
      show ({ U with heap := s₂.heap, slotsUsed := s₂.slotsUsed } : State) = { U.setFrames U.frames with heap := s₂.heap, slotsUsed := s₂.slotsUsed }
      rw [State.setFrames_self ht]
    subst hg
    refine Or.inl ⟨v, ⟨(({ U with heap := s₂.heap, slotsUsed := s₂.slotsUsed } : State).setVm s₂.vm), Ls ++ L, c0 + mc, s0 + ms⟩,
      ⟨X.admits, X.cas, X.clock, X.frames, X.room, X.hears, X.method, X.code, (X.here.setHeapUsed s₂.heap s₂.slotsUsed).setVm hW'.alike, X.tail, State.WarmedH.trans X.warmed hW', X.limits, X.bytes, X.same.trans (hsame.setVm s.vm)⟩,
      ⟨g, mk, s₂, L, rfl, rfl, hqc, rfl, hL, rfl, rfl⟩, ?_⟩
    show Steps p.tables e below _ ((({ U with heap := s₂.heap, slotsUsed := s₂.slotsUsed } : State).setVm s₂.vm).setTop { g with pc := g.pc + len₂, stack := v.toList ++ g.stack })
    rw [← hs₂]
    exact hsteps
  · obtain ⟨e2, q2, q3, q4, q5, q6⟩ := id hsm
    have e3 : s₂ = ({ (U.calling g mk a).setFrames s₂.frames with heap := s₂.heap, slotsUsed := s₂.slotsUsed } : State).setVm s₂.vm := by
      have : s₂ = ({ s₂ with vm := (U.calling g mk a).vm } : State).setVm s₂.vm := rfl
      rw [e2] at this
      exact this
    have hf₂ : s₂.frames = .throwing q :: .java g :: U.frames.tail := hend
    have hW' : U.WarmedH s₂.vm := hW₂
    have hs₂ : s₂ = ((({ U with heap := s₂.heap, slotsUsed := s₂.slotsUsed } : State).setVm s₂.vm).setTop g).pushFrame (.throwing q) := by
      refine e3.trans ?_
      rw [hf₂, State.calling_eq h.top, State.setFrames_setFrames, State.pushFrame, State.frames_setTop _ hr', State.setTop_of_frames _ hr', State.setFrames_setFrames, hr]
      rfl
    have hsame : U.sameButNew ({ U with heap := s₂.heap, slotsUsed := s₂.slotsUsed } : State) L mc ms := by
      refine ⟨?_, q2, q3, q4, q5, q6⟩
      obtain ⟨t, ht, -⟩ := State.frames_cons hr
      show ({ U with heap := s₂.heap, slotsUsed := s₂.slotsUsed } : State) = { U.setFrames U.frames with heap := s₂.heap, slotsUsed := s₂.slotsUsed }
      rw [State.setFrames_self ht]
    subst hg
    refine Or.inr ⟨q, ⟨(({ U with heap := s₂.heap, slotsUsed := s₂.slotsUsed } : State).setVm s₂.vm), Ls ++ L, c0 + mc, s0 + ms⟩,
      ⟨X.admits, X.cas, X.clock, X.frames, X.room, X.hears, X.method, X.code, (X.here.setHeapUsed s₂.heap s₂.slotsUsed).setVm hW'.alike, X.tail, State.WarmedH.trans X.warmed hW', X.limits, X.bytes, X.same.trans (hsame.setVm s.vm)⟩,
      ⟨g, mk, s₂, L, E, ce, rfl, rfl, hx, hce, hcv, hcl, rfl, hL, rfl, rfl⟩, ?_⟩
    show Steps p.tables e below _ (((({ U with heap := s₂.heap, slotsUsed := s₂.slotsUsed } : State).setVm s₂.vm).setTop g).pushFrame (.throwing q))
    rw [← hs₂]
    exact hsteps
end Payer
section Calls
variable {p : Program} {l : Launch} {e : Env} {R : Room} {s : State} {m : MethodId} {args : Array Value} {below : List Frame} {meth : Method} {c : Code} {T : State} {locs : List Loc} {cells slots : Nat}
theorem vx_callV (X : Stand p l e R s m args below meth c T locs cells slots) (hexec : p.tables.exec = Jvm.exec) {own C : String} {index : Nat} {y : MethodName} {bytes : ByteArray} {maxL : Nat} {ret : Option FieldType}
    (hown : s.vm.findClass own = some m.cls) (hlink : (Cond.methodLink own index y).before args s = true) (hinst : (Cond.instanceMethod y).before args s = true) (hsel : (Cond.selects C y y).before args s = true)
    (hcode : (Cond.code y bytes maxL ret).before args s = true) (hy : y.cls ≠ "java/lang/invoke/MethodHandle" ∧ y.cls ≠ "java/lang/invoke/VarHandle")
    {W9 : Nat} {Pre : Pt → Array Value → Prop} {Post : Pt → Array Value → Option Value → Pt → Prop} {PostX : Pt → Array Value → Addr → Pt → Prop} (hK : vx_Back l R p e below s args y 3 W9 Pre Post PostX)
    {b : Addr} {cellB : Cell} (hcell : T.heap[b]? = some cellB) (hobj : cellB.vm.isStatics = false) (hcls : s.vm.findClass C = some cellB.cls)
    {g : JFrame} (hg : g.method = m) (hsize : g.locals.size = c.maxLocals) {argsL rest : List Value} (hlen : ∀ sig, parseMethodDescriptor y.desc = some sig → argsL.length = sig.parameters.length)
    (hstack : g.stack = argsL.reverse ++ .ref b :: rest) (hW : 2 * g.monitorRoom + (rest.map fun v => v.category).sum ≤ W9) (hdg : decode c.code g.pc = .ok (.invokevirtual index, 3))
    (hpre : ∀ vm₁, s.WarmedH vm₁ → Pre ⟨T.setVm vm₁, locs, cells, slots⟩ (Value.ref b :: argsL).toArray) :
    (∃ (v : Option Value) (vm₁ : Vm) (B : Pt), s.WarmedH vm₁ ∧ Stand p l e R s m args below meth c B.U B.locs B.cells B.slots ∧ Post ⟨T.setVm vm₁, locs, cells, slots⟩ (Value.ref b :: argsL).toArray v B ∧
      ∀ target, Steps p.tables e below (B.U.setTop { g with pc := g.pc + 3, stack := v.toList ++ rest }) target → Steps p.tables e below (T.setTop g) target) ∨
    (∃ (q : Addr) (vm₁ : Vm) (B : Pt), s.WarmedH vm₁ ∧ Stand p l e R s m args below meth c B.U B.locs B.cells B.slots ∧ PostX ⟨T.setVm vm₁, locs, cells, slots⟩ (Value.ref b :: argsL).toArray q B ∧
      Steps p.tables e below (T.setTop g) ((B.U.setTop { g with stack := rest }).pushFrame (.throwing q))) := by
  obtain ⟨mk, methM, hnamed, hmethM, hstM, habM⟩ := Cond.instanceMethod_spec hinst
  obtain ⟨methM', cM, hmethM', -, -, -, -, -, -, hsigM⟩ := Cond.code_spec hnamed hcode
  cases hmethM.symm.trans hmethM'
  obtain ⟨c2, r2, m2, q1, q2, q3, q4, kP, hkP, hkPi⟩ := Cond.selects_spec hsel
  cases hcls.symm.trans q1
  cases (State.methodFound?_of_named hnamed hy).symm.trans q2
  cases hnamed.symm.trans q3
  have hselP : selectMethod e.platform s.vm cellB.cls mk = .method mk := by rw [Launch.admits_selectMethod X.admits]; exact q4
  obtain ⟨vm₁, X₁, hstep₁⟩ := X.invokevirtual hexec hown hlink hnamed hmethM hstM hkP hkPi hy (a := b) (cell := cellB) hcell
    (fun z h => by rw [h] at hobj; cases hobj) hselP hmethM habM hkP hkPi (g := g) hg (argsL := argsL) (rest := rest) (hlen _ hsigM) hstack hdg
  rcases hK m meth c ⟨T.setVm vm₁, locs, cells, slots⟩ { g with stack := rest } (.invokevirtual index) mk (Value.ref b :: argsL).toArray X₁ hg hsize hdg hW (X₁.named hnamed) (hpre vm₁ X₁.warmed) with ⟨v, B, X', hpost, hsteps⟩ | ⟨q, B, X', hpost, hsteps⟩
  · exact Or.inl ⟨v, vm₁, B, X₁.warmed, X', hpost, fun target h => hstep₁ _ fun acts => by rw [doInvoke_state]; exact hsteps.trans h⟩
  · exact Or.inr ⟨q, vm₁, B, X₁.warmed, X', hpost, hstep₁ _ fun acts => by rw [doInvoke_state]; exact hsteps⟩
theorem vx_callS (X : Stand p l e R s m args below meth c T locs cells slots) (hexec : p.tables.exec = Jvm.exec) {own : String} {index : Nat} {y : MethodName} {bytes : ByteArray} {maxL : Nat} {ret : Option FieldType}
    (hown : s.vm.findClass own = some m.cls) (hlink : (Cond.methodLink own index y).before args s = true) (hstat : (Cond.static y).before args s = true) (hinit : (Cond.initialized y.cls).before args s = true)
    (hcode : (Cond.code y bytes maxL ret).before args s = true) (hy : y.cls ≠ "java/lang/invoke/MethodHandle" ∧ y.cls ≠ "java/lang/invoke/VarHandle")
    {W9 : Nat} {Pre : Pt → Array Value → Prop} {Post : Pt → Array Value → Option Value → Pt → Prop} {PostX : Pt → Array Value → Addr → Pt → Prop} (hK : vx_Back l R p e below s args y 3 W9 Pre Post PostX)
    {g : JFrame} (hg : g.method = m) (hsize : g.locals.size = c.maxLocals) {argsL rest : List Value} (hlen : ∀ sig, parseMethodDescriptor y.desc = some sig → argsL.length = sig.parameters.length)
    (hstack : g.stack = argsL.reverse ++ rest) (hW : 2 * g.monitorRoom + (rest.map fun v => v.category).sum ≤ W9) (hdg : decode c.code g.pc = .ok (.invokestatic index, 3))
    (hpre : ∀ vm₁, s.WarmedH vm₁ → Pre ⟨T.setVm vm₁, locs, cells, slots⟩ argsL.toArray) :
    (∃ (v : Option Value) (vm₁ : Vm) (B : Pt), s.WarmedH vm₁ ∧ Stand p l e R s m args below meth c B.U B.locs B.cells B.slots ∧ Post ⟨T.setVm vm₁, locs, cells, slots⟩ argsL.toArray v B ∧
      ∀ target, Steps p.tables e below (B.U.setTop { g with pc := g.pc + 3, stack := v.toList ++ rest }) target → Steps p.tables e below (T.setTop g) target) ∨
    (∃ (q : Addr) (vm₁ : Vm) (B : Pt), s.WarmedH vm₁ ∧ Stand p l e R s m args below meth c B.U B.locs B.cells B.slots ∧ PostX ⟨T.setVm vm₁, locs, cells, slots⟩ argsL.toArray q B ∧
      Steps p.tables e below (T.setTop g) ((B.U.setTop { g with stack := rest }).pushFrame (.throwing q))) := by
  obtain ⟨mk, hnamed⟩ := Cond.code_named hcode
  obtain ⟨methM, cM, hmethM, -, -, -, -, -, -, hsigM⟩ := Cond.code_spec hnamed hcode
  have hstatic : methM.isStatic = true := Cond.static_spec hnamed hmethM hstat
  obtain ⟨kP, hkP, -⟩ := className_of_methodNamed hnamed
  have hinitP : kP.init = .initialized := Cond.initialized_spec (findClass_of_methodNamed hnamed) hkP hinit
  obtain ⟨vm₁, X₁, hstep₁⟩ := X.invokestatic hexec hown hlink hnamed hmethM hstatic hkP hinitP hy (g := g) hg (argsL := argsL) (rest := rest) (hlen _ hsigM) hstack hdg
  rcases hK m meth c ⟨T.setVm vm₁, locs, cells, slots⟩ { g with stack := rest } (.invokestatic index) mk argsL.toArray X₁ hg hsize hdg hW (X₁.named hnamed) (hpre vm₁ X₁.warmed) with ⟨v, B, X', hpost, hsteps⟩ | ⟨q, B, X', hpost, hsteps⟩
  · exact Or.inl ⟨v, vm₁, B, X₁.warmed, X', hpost, fun target h => hstep₁ _ fun acts => by rw [doInvoke_state]; exact hsteps.trans h⟩
  · exact Or.inr ⟨q, vm₁, B, X₁.warmed, X', hpost, hstep₁ _ fun acts => by rw [doInvoke_state]; exact hsteps⟩
end Calls
theorem vx_cls {s : State} {T : State} {vm₁ : Vm} {E : String} {k : ClassId} (hW : s.WarmedH vm₁) (h : (T.setVm vm₁).vm.findClass E = some k) : s.vm.findClass E = some k := by
  have h1 : vm₁.findClass E = some k := h
  rw [hW.alike.findClass] at h1
  exact h1
/-- the method's frame g, with q thrown over it -/
def vx_W (p : Program) (l : Launch) (e : Env) (R : Room) (s : State) (m : MethodId) (args : Array Value) (below : List Frame) (meth : Method) (c : Code) (H : Heap) (locs : List Loc) (cells slots : Nat) (Q : State → Prop) (g : JFrame) (q : Addr) : Prop :=
  ∀ T : State, T.heap = H → Stand p l e R s m args below meth c T locs cells slots → ∃ t, Steps p.tables e below ((T.setTop g).pushFrame (.throwing q)) t ∧ Q t
def vx_Run (p : Program) (l : Launch) (e : Env) (R : Room) (s : State) (m : MethodId) (args : Array Value) (below : List Frame) (meth : Method) (c : Code) (H : Heap) (locs : List Loc) (cells slots mc ms : Nat) (g : JFrame) (rest : List Value) (Qa : State → Outcome → State → Prop) (XC : String → State → State → Prop) (free : Addr → Prop) : Prop :=
  ∀ T : State, T.heap = H → Stand p l e R s m args below meth c T locs cells slots →
    (∃ (v : Option Value) (st₀ t T' : State) (L : List Loc), st₀.heap = H ∧ Stand p l e R s m args below meth c T' (locs ++ L) (cells + mc) (slots + ms) ∧ (∀ q ∈ L, free q.base) ∧ T'.heap = t.heap ∧ T'.vm = t.vm ∧ Qa st₀ (.returned v) t ∧
      Goes p e below T g T' { g with pc := g.pc + 3, stack := v.toList ++ rest }) ∨
    (∃ (q : Addr) (st₀ t T' : State) (L : List Loc) (E : String) (ce : Cell), st₀.heap = H ∧ Stand p l e R s m args below meth c T' (locs ++ L) (cells + mc) (slots + ms) ∧ (∀ z ∈ L, free z.base) ∧ T'.heap = t.heap ∧ T'.vm = t.vm ∧ XC E st₀ t ∧ t.heap[q]? = some ce ∧ ce.vm = .none ∧ s.vm.findClass E = some ce.cls ∧
      Steps p.tables e below (T.setTop g) ((T'.setTop { g with stack := rest }).pushFrame (.throwing q)))
def vx_X {S : Type} (px : S → Prop) (B : String → S → State → Prop) (A : Nat → Prop) : String → State → State → Prop := fun E st t => ∃ u : S, px u ∧ B E u t ∧ va_F A st t
section Runs
variable {p : Program} {l : Launch} {e : Env} {R : Room} {s : State} {m : MethodId} {args : Array Value} {below : List Frame} {meth : Method} {c : Code} {H : Heap} {locs : List Loc} {cells slots : Nat}
variable {y : MethodName} {bytes cc : ByteArray} {maxL nL mc ms n index : Nat} {ret : Option FieldType} {ws : List Cond} {rm : Room} {Pc : Array Value → State → Prop} {Qc : Array Value → State → Outcome → State → Prop} {XC : String → State → State → Prop} {free : Addr → Prop} {Ts : List Cond} {own C : String} {b : Addr} {As rest : List Value} {g : JFrame}
theorem vx_callBack (cb : CallB R s args own index y bytes maxL ret ws rm mc ms n) (hM : vx_Met l y ws rm Pc Qc XC mc ms free) (hbl : FrameBlind Pc) : vx_Back l R p e below s args y 3 8 (PreOf R mc ms Pc) (PostOf Qc mc ms free) (vx_Post XC mc ms free) := by
  obtain ⟨hrc, hrs, hfr, hlo, hws, hcw, -, hini, -⟩ := cb
  exact vx_back (bytes := bytes) (maxL := maxL) (ret := ret) hM hbl hrc hrs hfr hlo hws hcw (fun a' U hW => word_at hW (Or.inl (by first | rfl | simp [Cond.onTables, Cond.keeps, Cond.steady])) hini)
theorem vx_runV (S : CallFix p m c cc nL s args Ts own) (hM : vx_Met l y ws rm Pc Qc XC mc ms free) (cw : CallW R s args own C index y bytes maxL ret ws rm mc ms n) (hp : PreV s H C b Pc As)
    (hg : g.method = m) (hn : As.length = n) (hsize : g.locals.size = nL) (hstack : g.stack = As.reverse ++ .ref b :: rest) (hW : 2 * g.monitorRoom + (rest.map fun v => v.category).sum ≤ 8) (hdg : decode cc g.pc = .ok (.invokevirtual index, 3)) (hf : cells + mc ≤ R.cells ∧ slots + ms ≤ R.slots) :
    vx_Run p l e R s m args below meth c H locs cells slots mc ms g rest (Qc (Value.ref b :: As).toArray) XC free := by
  have hK : vx_Back l R p e below s args y 3 8 (PreOf R mc ms Pc) (PostOf Qc mc ms free) (vx_Post XC mc ms free) := vx_callBack cw.1 hM hp.1
  obtain ⟨⟨-, -, -, -, -, -, hcode, -, hy, hlen, hl⟩, hin, hse⟩ := cw
  obtain ⟨hx, hb, hml, ho, -⟩ := S
  obtain ⟨-, ⟨cellB, hcB, hoB, hclB⟩, hPc⟩ := hp
  intro T hT X
  rcases vx_callV X hx (C := C) (bytes := bytes) (maxL := maxL) (ret := ret) ho hl hin hse hcode hy hK (by rw [hT]; exact hcB) hoB hclB hg (hsize.trans hml.symm) (argsL := As) (rest := rest) (fun sig h => hn.trans (hlen sig h)) hstack hW (by rw [hb]; exact hdg)
    (fun vm₁ hW₁ => ⟨hf.1, hf.2, hPc (T.setVm vm₁) hT hW₁⟩) with ⟨v, vm₁, ⟨U', l2, c2, s2⟩, hW₁, X', ⟨g', mk, t, L, e1, e2, hq, h1, hL, h2, h3⟩, st⟩ | ⟨q, vm₁, ⟨U', l2, c2, s2⟩, hW₁, X', ⟨g', mk, t, L, E, ce, e1, e2, hq, hce, hcv, hcl, h1, hL, h2, h3⟩, st⟩
  · dsimp only [Pt.U, Pt.locs, Pt.cells, Pt.slots] at X' e1 e2 h1 h2 h3 st
    subst h1; subst h2; subst h3
    exact Or.inl ⟨v, (T.setVm vm₁).calling g' mk (Value.ref b :: As).toArray, t, U', L, hT, X', hL, e1, e2, hq, st⟩
  · dsimp only [Pt.U, Pt.locs, Pt.cells, Pt.slots] at X' e1 e2 h1 h2 h3 st hcl
    subst h1; subst h2; subst h3
    exact Or.inr ⟨q, (T.setVm vm₁).calling g' mk (Value.ref b :: As).toArray, t, U', L, E, ce, hT, X', hL, e1, e2, hq, hce, hcv, vx_cls hW₁ hcl, st⟩
theorem vx_runS (S : CallFix p m c cc nL s args Ts own) (hM : vx_Met l y ws rm Pc Qc XC mc ms free) (cw : CallB R s args own index y bytes maxL ret ws rm mc ms n ∧ (Cond.static y).before args s = true) (hp : PreS s H Pc As)
    (hg : g.method = m) (hn : As.length = n) (hsize : g.locals.size = nL) (hstack : g.stack = As.reverse ++ rest) (hW : 2 * g.monitorRoom + (rest.map fun v => v.category).sum ≤ 8) (hdg : decode cc g.pc = .ok (.invokestatic index, 3)) (hf : cells + mc ≤ R.cells ∧ slots + ms ≤ R.slots) :
    vx_Run p l e R s m args below meth c H locs cells slots mc ms g rest (Qc As.toArray) XC free := by
  have hK : vx_Back l R p e below s args y 3 8 (PreOf R mc ms Pc) (PostOf Qc mc ms free) (vx_Post XC mc ms free) := vx_callBack cw.1 hM hp.1
  obtain ⟨⟨-, -, -, -, -, -, hcode, hini, hy, hlen, hl⟩, hstt⟩ := cw
  obtain ⟨hx, hb, hml, ho, -⟩ := S
  intro T hT X
  rcases vx_callS X hx (bytes := bytes) (maxL := maxL) (ret := ret) ho hl hstt hini hcode hy hK hg (hsize.trans hml.symm) (argsL := As) (rest := rest) (fun sig h => hn.trans (hlen sig h)) hstack hW (by rw [hb]; exact hdg)
    (fun vm₁ hW₁ => ⟨hf.1, hf.2, hp.2 (T.setVm vm₁) hT hW₁⟩) with ⟨v, vm₁, ⟨U', l2, c2, s2⟩, hW₁, X', ⟨g', mk, t, L, e1, e2, hq, h1, hL, h2, h3⟩, st⟩ | ⟨q, vm₁, ⟨U', l2, c2, s2⟩, hW₁, X', ⟨g', mk, t, L, E, ce, e1, e2, hq, hce, hcv, hcl, h1, hL, h2, h3⟩, st⟩
  · dsimp only [Pt.U, Pt.locs, Pt.cells, Pt.slots] at X' e1 e2 h1 h2 h3 st
    subst h1; subst h2; subst h3
    exact Or.inl ⟨v, (T.setVm vm₁).calling g' mk As.toArray, t, U', L, hT, X', hL, e1, e2, hq, st⟩
  · dsimp only [Pt.U, Pt.locs, Pt.cells, Pt.slots] at X' e1 e2 h1 h2 h3 st hcl
    subst h1; subst h2; subst h3
    exact Or.inr ⟨q, (T.setVm vm₁).calling g' mk As.toArray, t, U', L, E, ce, hT, X', hL, e1, e2, hq, hce, hcv, vx_cls hW₁ hcl, st⟩
end Runs
section Rows
variable {p : Program} {l : Launch} {e : Env} {R : Room} {s : State} {m : MethodId} {args : Array Value} {below : List Frame} {meth : Method} {c : Code} {H : Heap} {locs : List Loc} {cells slots : Nat} {Q : State → Prop}
variable {mc ms : Nat} {free : Addr → Prop} {A0 A1 : Nat → Prop} {H0 : Heap} {a : Array Value} {pc : Nat} {ls : Array Slot} {st0 rest : List Value}
theorem vx_keep {st₀ t T' : State} {L : List Loc} (h0 : st₀.heap = H) (e1 : T'.heap = t.heap) (hS : va_S A0 H0 H locs) (hA : ∀ q, q < H.size → A1 q → A0 q) (hf : ∀ q, free q → A0 q) (hL : ∀ q ∈ L, free q.base) (hF : va_F A1 st₀ t) :
    H.size ≤ T'.heap.size ∧ (∀ q : Nat, q < H.size → ¬ A1 q → T'.heap[q]? = H[q]?) ∧ va_S A0 H0 T'.heap (locs ++ L) := by
  obtain ⟨hz, hk⟩ := hF
  rw [h0] at hz hk
  exact ⟨by rw [e1]; exact hz, fun q h1 h2 => by rw [e1]; exact hk q h1 h2,
    ⟨Nat.le_trans hS.1 (by rw [e1]; exact hz), fun q h1 h2 => by rw [e1, hk q (Nat.lt_of_lt_of_le h1 hS.1) (fun z => h2 (hA q (Nat.lt_of_lt_of_le h1 hS.1) z))]; exact hS.2.1 q h1 h2, fun q hq => by
      rcases List.mem_append.mp hq with h | h
      · exact hS.2.2 q h
      · exact hf _ (hL q h)⟩⟩
theorem vx_calli {S SX : Type} {post : Int32 → S → Prop} {px : SX → Prop} {B : S → State → Prop} {BX : String → SX → State → Prop} {AX : Nat → Prop} (hr : vx_Run p l e R s m args below meth c H locs cells slots mc ms (F0 m pc ls st0) rest (va_Qi post B A1 a) (vx_X px BX AX) free) (hS : va_S A0 H0 H locs) (hA : ∀ q, q < H.size → A1 q → A0 q) (hf : ∀ q, free q → A0 q) (hAX : ∀ q, q < H.size → AX q → A0 q)
    (kx : ∀ (E : String) (ce : Cell) (q9 : Addr) (u : SX) (t : State) (H1 : Heap) (locs1 : List Loc), t.heap = H1 → s.vm.Alike t.vm → px u → BX E u t → H.size ≤ H1.size → (∀ q : Nat, q < H.size → ¬ AX q → H1[q]? = H[q]?) → va_S A0 H0 H1 locs1 → H1[q9]? = some ce → ce.vm = .none → s.vm.findClass E = some ce.cls → vx_W p l e R s m args below meth c H1 locs1 (cells + mc) (slots + ms) Q (F0 m pc ls rest) q9)
    (kk : ∀ (r : Int32) (u : S) (t : State) (H1 : Heap) (locs1 : List Loc), t.heap = H1 → s.vm.Alike t.vm → post r u → B u t → H.size ≤ H1.size → (∀ q : Nat, q < H.size → ¬ A1 q → H1[q]? = H[q]?) → va_S A0 H0 H1 locs1 → W p l e R s m args below meth c H1 locs1 (cells + mc) (slots + ms) Q (F0 m (pc + 3) ls (.int r :: rest))) : W p l e R s m args below meth c H locs cells slots Q (F0 m pc ls st0) := by
  intro T hT X
  rcases hr T hT X with ⟨v, st₀, t, T', L, h0, X', hL, e1, e2, ⟨⟨r, u, hv, hp, hb⟩, hF⟩, st⟩ | ⟨q, st₀, t, T', L, E, ce, h0, X', hL, e1, e2, ⟨u, hp, hb, hF⟩, hce, hcv, hcl, st⟩
  · cases hv
    obtain ⟨k1, k2, k3⟩ := vx_keep h0 e1 hS hA hf hL hF
    obtain ⟨t2, a1, b1⟩ := kk r u t T'.heap (locs ++ L) e1.symm (by rw [← e2]; exact X'.warmed.alike) hp hb k1 k2 k3 T' rfl X'
    exact ⟨t2, st t2 a1, b1⟩
  · obtain ⟨k1, k2, k3⟩ := vx_keep h0 e1 hS hAX hf hL hF
    obtain ⟨t2, a1, b1⟩ := kx E ce q u t T'.heap (locs ++ L) e1.symm (by rw [← e2]; exact X'.warmed.alike) hp hb k1 k2 k3 (by rw [e1]; exact hce) hcv hcl T' rfl X'
    exact ⟨t2, st.trans a1, b1⟩
theorem vx_calll {S SX : Type} {post : Int64 → S → Prop} {px : SX → Prop} {B : S → State → Prop} {BX : String → SX → State → Prop} {AX : Nat → Prop} (hr : vx_Run p l e R s m args below meth c H locs cells slots mc ms (F0 m pc ls st0) rest (va_Ql post B A1 a) (vx_X px BX AX) free) (hS : va_S A0 H0 H locs) (hA : ∀ q, q < H.size → A1 q → A0 q) (hf : ∀ q, free q → A0 q) (hAX : ∀ q, q < H.size → AX q → A0 q)
    (kx : ∀ (E : String) (ce : Cell) (q9 : Addr) (u : SX) (t : State) (H1 : Heap) (locs1 : List Loc), t.heap = H1 → s.vm.Alike t.vm → px u → BX E u t → H.size ≤ H1.size → (∀ q : Nat, q < H.size → ¬ AX q → H1[q]? = H[q]?) → va_S A0 H0 H1 locs1 → H1[q9]? = some ce → ce.vm = .none → s.vm.findClass E = some ce.cls → vx_W p l e R s m args below meth c H1 locs1 (cells + mc) (slots + ms) Q (F0 m pc ls rest) q9)
    (kk : ∀ (r : Int64) (u : S) (t : State) (H1 : Heap) (locs1 : List Loc), t.heap = H1 → s.vm.Alike t.vm → post r u → B u t → H.size ≤ H1.size → (∀ q : Nat, q < H.size → ¬ A1 q → H1[q]? = H[q]?) → va_S A0 H0 H1 locs1 → W p l e R s m args below meth c H1 locs1 (cells + mc) (slots + ms) Q (F0 m (pc + 3) ls (.long r :: rest))) : W p l e R s m args below meth c H locs cells slots Q (F0 m pc ls st0) := by
  intro T hT X
  rcases hr T hT X with ⟨v, st₀, t, T', L, h0, X', hL, e1, e2, ⟨⟨r, u, hv, hp, hb⟩, hF⟩, st⟩ | ⟨q, st₀, t, T', L, E, ce, h0, X', hL, e1, e2, ⟨u, hp, hb, hF⟩, hce, hcv, hcl, st⟩
  · cases hv
    obtain ⟨k1, k2, k3⟩ := vx_keep h0 e1 hS hA hf hL hF
    obtain ⟨t2, a1, b1⟩ := kk r u t T'.heap (locs ++ L) e1.symm (by rw [← e2]; exact X'.warmed.alike) hp hb k1 k2 k3 T' rfl X'
    exact ⟨t2, st t2 a1, b1⟩
  · obtain ⟨k1, k2, k3⟩ := vx_keep h0 e1 hS hAX hf hL hF
    obtain ⟨t2, a1, b1⟩ := kx E ce q u t T'.heap (locs ++ L) e1.symm (by rw [← e2]; exact X'.warmed.alike) hp hb k1 k2 k3 (by rw [e1]; exact hce) hcv hcl T' rfl X'
    exact ⟨t2, st.trans a1, b1⟩
theorem vx_callf {S SX : Type} {post : UInt32 → S → Prop} {px : SX → Prop} {B : S → State → Prop} {BX : String → SX → State → Prop} {AX : Nat → Prop} (hr : vx_Run p l e R s m args below meth c H locs cells slots mc ms (F0 m pc ls st0) rest (va_Qf post B A1 a) (vx_X px BX AX) free) (hS : va_S A0 H0 H locs) (hA : ∀ q, q < H.size → A1 q → A0 q) (hf : ∀ q, free q → A0 q) (hAX : ∀ q, q < H.size → AX q → A0 q)
    (kx : ∀ (E : String) (ce : Cell) (q9 : Addr) (u : SX) (t : State) (H1 : Heap) (locs1 : List Loc), t.heap = H1 → s.vm.Alike t.vm → px u → BX E u t → H.size ≤ H1.size → (∀ q : Nat, q < H.size → ¬ AX q → H1[q]? = H[q]?) → va_S A0 H0 H1 locs1 → H1[q9]? = some ce → ce.vm = .none → s.vm.findClass E = some ce.cls → vx_W p l e R s m args below meth c H1 locs1 (cells + mc) (slots + ms) Q (F0 m pc ls rest) q9)
    (kk : ∀ (r : UInt32) (u : S) (t : State) (H1 : Heap) (locs1 : List Loc), t.heap = H1 → s.vm.Alike t.vm → post r u → B u t → H.size ≤ H1.size → (∀ q : Nat, q < H.size → ¬ A1 q → H1[q]? = H[q]?) → va_S A0 H0 H1 locs1 → W p l e R s m args below meth c H1 locs1 (cells + mc) (slots + ms) Q (F0 m (pc + 3) ls (.float r :: rest))) : W p l e R s m args below meth c H locs cells slots Q (F0 m pc ls st0) := by
  intro T hT X
  rcases hr T hT X with ⟨v, st₀, t, T', L, h0, X', hL, e1, e2, ⟨⟨r, u, hv, hp, hb⟩, hF⟩, st⟩ | ⟨q, st₀, t, T', L, E, ce, h0, X', hL, e1, e2, ⟨u, hp, hb, hF⟩, hce, hcv, hcl, st⟩
  · cases hv
    obtain ⟨k1, k2, k3⟩ := vx_keep h0 e1 hS hA hf hL hF
    obtain ⟨t2, a1, b1⟩ := kk r u t T'.heap (locs ++ L) e1.symm (by rw [← e2]; exact X'.warmed.alike) hp hb k1 k2 k3 T' rfl X'
    exact ⟨t2, st t2 a1, b1⟩
  · obtain ⟨k1, k2, k3⟩ := vx_keep h0 e1 hS hAX hf hL hF
    obtain ⟨t2, a1, b1⟩ := kx E ce q u t T'.heap (locs ++ L) e1.symm (by rw [← e2]; exact X'.warmed.alike) hp hb k1 k2 k3 (by rw [e1]; exact hce) hcv hcl T' rfl X'
    exact ⟨t2, st.trans a1, b1⟩
theorem vx_calld {S SX : Type} {post : UInt64 → S → Prop} {px : SX → Prop} {B : S → State → Prop} {BX : String → SX → State → Prop} {AX : Nat → Prop} (hr : vx_Run p l e R s m args below meth c H locs cells slots mc ms (F0 m pc ls st0) rest (va_Qd post B A1 a) (vx_X px BX AX) free) (hS : va_S A0 H0 H locs) (hA : ∀ q, q < H.size → A1 q → A0 q) (hf : ∀ q, free q → A0 q) (hAX : ∀ q, q < H.size → AX q → A0 q)
    (kx : ∀ (E : String) (ce : Cell) (q9 : Addr) (u : SX) (t : State) (H1 : Heap) (locs1 : List Loc), t.heap = H1 → s.vm.Alike t.vm → px u → BX E u t → H.size ≤ H1.size → (∀ q : Nat, q < H.size → ¬ AX q → H1[q]? = H[q]?) → va_S A0 H0 H1 locs1 → H1[q9]? = some ce → ce.vm = .none → s.vm.findClass E = some ce.cls → vx_W p l e R s m args below meth c H1 locs1 (cells + mc) (slots + ms) Q (F0 m pc ls rest) q9)
    (kk : ∀ (r : UInt64) (u : S) (t : State) (H1 : Heap) (locs1 : List Loc), t.heap = H1 → s.vm.Alike t.vm → post r u → B u t → H.size ≤ H1.size → (∀ q : Nat, q < H.size → ¬ A1 q → H1[q]? = H[q]?) → va_S A0 H0 H1 locs1 → W p l e R s m args below meth c H1 locs1 (cells + mc) (slots + ms) Q (F0 m (pc + 3) ls (.double r :: rest))) : W p l e R s m args below meth c H locs cells slots Q (F0 m pc ls st0) := by
  intro T hT X
  rcases hr T hT X with ⟨v, st₀, t, T', L, h0, X', hL, e1, e2, ⟨⟨r, u, hv, hp, hb⟩, hF⟩, st⟩ | ⟨q, st₀, t, T', L, E, ce, h0, X', hL, e1, e2, ⟨u, hp, hb, hF⟩, hce, hcv, hcl, st⟩
  · cases hv
    obtain ⟨k1, k2, k3⟩ := vx_keep h0 e1 hS hA hf hL hF
    obtain ⟨t2, a1, b1⟩ := kk r u t T'.heap (locs ++ L) e1.symm (by rw [← e2]; exact X'.warmed.alike) hp hb k1 k2 k3 T' rfl X'
    exact ⟨t2, st t2 a1, b1⟩
  · obtain ⟨k1, k2, k3⟩ := vx_keep h0 e1 hS hAX hf hL hF
    obtain ⟨t2, a1, b1⟩ := kx E ce q u t T'.heap (locs ++ L) e1.symm (by rw [← e2]; exact X'.warmed.alike) hp hb k1 k2 k3 (by rw [e1]; exact hce) hcv hcl T' rfl X'
    exact ⟨t2, st.trans a1, b1⟩
theorem vx_callv {S SX : Type} {post : S → Prop} {px : SX → Prop} {B : S → State → Prop} {BX : String → SX → State → Prop} {AX : Nat → Prop} (hr : vx_Run p l e R s m args below meth c H locs cells slots mc ms (F0 m pc ls st0) rest (va_Qv post B A1 a) (vx_X px BX AX) free) (hS : va_S A0 H0 H locs) (hA : ∀ q, q < H.size → A1 q → A0 q) (hf : ∀ q, free q → A0 q) (hAX : ∀ q, q < H.size → AX q → A0 q)
    (kx : ∀ (E : String) (ce : Cell) (q9 : Addr) (u : SX) (t : State) (H1 : Heap) (locs1 : List Loc), t.heap = H1 → s.vm.Alike t.vm → px u → BX E u t → H.size ≤ H1.size → (∀ q : Nat, q < H.size → ¬ AX q → H1[q]? = H[q]?) → va_S A0 H0 H1 locs1 → H1[q9]? = some ce → ce.vm = .none → s.vm.findClass E = some ce.cls → vx_W p l e R s m args below meth c H1 locs1 (cells + mc) (slots + ms) Q (F0 m pc ls rest) q9)
    (kk : ∀ (u : S) (t : State) (H1 : Heap) (locs1 : List Loc), t.heap = H1 → s.vm.Alike t.vm → post u → B u t → H.size ≤ H1.size → (∀ q : Nat, q < H.size → ¬ A1 q → H1[q]? = H[q]?) → va_S A0 H0 H1 locs1 → W p l e R s m args below meth c H1 locs1 (cells + mc) (slots + ms) Q (F0 m (pc + 3) ls (rest))) : W p l e R s m args below meth c H locs cells slots Q (F0 m pc ls st0) := by
  intro T hT X
  rcases hr T hT X with ⟨v, st₀, t, T', L, h0, X', hL, e1, e2, ⟨⟨u, hv, hp, hb⟩, hF⟩, st⟩ | ⟨q, st₀, t, T', L, E, ce, h0, X', hL, e1, e2, ⟨u, hp, hb, hF⟩, hce, hcv, hcl, st⟩
  · cases hv
    obtain ⟨k1, k2, k3⟩ := vx_keep h0 e1 hS hA hf hL hF
    obtain ⟨t2, a1, b1⟩ := kk u t T'.heap (locs ++ L) e1.symm (by rw [← e2]; exact X'.warmed.alike) hp hb k1 k2 k3 T' rfl X'
    exact ⟨t2, st t2 a1, b1⟩
  · obtain ⟨k1, k2, k3⟩ := vx_keep h0 e1 hS hAX hf hL hF
    obtain ⟨t2, a1, b1⟩ := kx E ce q u t T'.heap (locs ++ L) e1.symm (by rw [← e2]; exact X'.warmed.alike) hp hb k1 k2 k3 (by rw [e1]; exact hce) hcv hcl T' rfl X'
    exact ⟨t2, st.trans a1, b1⟩
/-- caught by the row x of this method's table; the rows ahead don't take it -/
theorem vx_catch {own name : String} {E : String} {ce : Cell} {q : Addr} (hown : s.vm.findClass own = some m.cls) (pre : List ExceptionTableEntry) (x : ExceptionTableEntry) (suf : List ExceptionTableEntry) (hsplit : c.exceptionTable.toList = pre ++ x :: suf)
    (hpass : ∀ z ∈ pre, covers z pc = false ∨ (z.catchType ≠ 0 ∧ ∃ nm : String, (Cond.classLink own z.catchType nm).before args s = true ∧ va_Nc E nm s)) (hx : covers x pc = true) (h0 : x.catchType ≠ 0)
    (hlink : (Cond.classLink own x.catchType name).before args s = true) (hcast : (Cond.castable E name).before args s = true) (hcell : H[q]? = some ce) (hv : ce.vm = .none) (hcl : s.vm.findClass E = some ce.cls)
    (kk : W p l e R s m args below meth c H locs cells slots Q (F0 m x.handlerPc ls [.ref q])) : vx_W p l e R s m args below meth c H locs cells slots Q (F0 m pc ls rest) q := by
  intro T hT X
  have hpl : e.platform.magicAccessors = ({} : Platform).magicAccessors := by rw [X.admits.platform]
  obtain ⟨c3, c4, hc3, hc4, hasg⟩ := Cond.castable_spec hcast
  cases Option.some.inj (hc3.symm.trans hcl)
  obtain ⟨c5, hc5, hcl5⟩ := Cond.classLink_spec hown hlink e.platform hpl
  cases Option.some.inj (hc4.symm.trans hc5)
  obtain ⟨vm', X', st⟩ := X.thenCaughtThrough q (g := F0 m pc ls rest) rfl (Steps.refl _) (by rw [hT]; exact hcell) (by rw [hv]; rfl) (by obtain ⟨k9, h9, -⟩ := Vm.findClass_spec hcl; exact ⟨k9, h9⟩) pre x suf hsplit
    (fun z hz => by
      rcases hpass z hz with h | ⟨hz0, nm, hl1, hn1⟩
      · exact Or.inl h
      · obtain ⟨c6, hc6, hcl6⟩ := Cond.classLink_spec hown hl1 e.platform hpl
        obtain ⟨a8, b8, h1, h2, h3⟩ := hn1
        cases Option.some.inj (h1.symm.trans hcl)
        cases Option.some.inj (h2.symm.trans hc6)
        exact Or.inr ⟨hz0, _, hcl6, h3⟩) hx (Or.inr ⟨h0, c4, hcl5, hasg⟩)
  obtain ⟨t, a1, b1⟩ := kk (T.setVm vm') hT X'
  exact ⟨t, st.trans a1, b1⟩
end Rows
section Ends
variable {p : Program} {l : Launch} {e : Env} {R : Room} {s : State} {m : MethodId} {args : Array Value} {below : List Frame} {meth : Method} {c : Code} {H : Heap} {locs : List Loc} {cells slots : Nat} {Q : State → Prop}
variable {mc ms : Nat} {free : Addr → Prop} {A0 A1 : Nat → Prop} {H0 : Heap} {a : Array Value} {ls : Array Slot} {st0 rest : List Value}
variable {Qc : Array Value → State → Outcome → State → Prop} {XC : String → State → State → Prop}
/-- what a body that may throw owes at its end -/
def vx_MQ (below : List Frame) (Qc : Array Value → State → Outcome → State → Prop) (XC : String → State → State → Prop) (a : Array Value) (s : State) (mc ms : Nat) (free : Addr → Prop) : State → Prop := fun t =>
  ∃ o, t.status = .running ∧ Ended t below o ∧ vx_Q Qc XC mc ms free a s o t
theorem vx_ret {g : JFrame} {mc ms : Nat} (k : W p l e R s m args below meth c H locs cells slots (MQ below Qc args s mc ms free) g) : W p l e R s m args below meth c H locs cells slots (vx_MQ below Qc XC args s mc ms free) g := by
  intro T hT X
  obtain ⟨t, a1, o, b1, b2, b3, b4⟩ := k T hT X
  exact ⟨t, a1, o, b1, b2, Or.inl ⟨b3, b4⟩⟩
/-- not caught here: it goes on to the caller -/
theorem vx_widen {g : JFrame} {q : Addr} {k n : Nat} (h1 : cells ≤ k) (h2 : slots ≤ n) (kk : vx_W p l e R s m args below meth c H locs k n Q g q) : vx_W p l e R s m args below meth c H locs cells slots Q g q := fun T hT X => kk T hT (stand_widen X h1 h2)
theorem vx_out {pc : Nat} {E : String} {ce : Cell} {q : Addr} {mc ms : Nat} (hout : ∀ x ∈ c.exceptionTable.toList, covers x pc = false) (hlocks : meth.locks = false) (hcell : H[q]? = some ce) (hv : ce.vm = .none) (hcl : s.vm.findClass E = some ce.cls)
    (hx : ∀ t : State, t.heap = H → s.vm.Alike t.vm → XC E s t) (hf : ∀ z ∈ locs, free z.base) (hc : cells ≤ mc) (hs : slots ≤ ms) :
    vx_W p l e R s m args below meth c H locs cells slots (vx_MQ below Qc XC args s mc ms free) (F0 m pc ls rest) q := by
  intro T hT X
  obtain ⟨st1, hrun, hend, hW, hsm⟩ := X.leaveThrown q (g := F0 m pc ls rest) rfl rfl rfl hout hlocks
  have hcell9 : (T.setFrames (.throwing q :: below)).heap[q]? = some ce := by
    show T.heap[q]? = some ce
    rw [hT]; exact hcell
  exact ⟨_, st1, .threw q, hrun, hend, Or.inr ⟨q, rfl, E, ce, locs, hx _ hT hW.alike, hcell9, hv, hcl, hW, hsm.mono hc hs, hf⟩⟩
theorem vx_frame {U : State} {k n : Nat} (h : s.sameButNew ({ U with vm := s.vm } : State) locs k n) : s.heap.size ≤ U.heap.size ∧ ∀ q : Nat, q < s.heap.size → (∀ z ∈ locs, z.base ≠ q) → U.heap[q]? = s.heap[q]? := by
  obtain ⟨-, h2, -, -, -, h6⟩ := h
  refine ⟨h2, fun q hq hz => ?_⟩
  obtain ⟨c9, e1, e2, e3, e4⟩ := h6 q _ (Array.getElem?_eq_getElem hq)
  have hs : c9.slots = (s.heap[q]).slots := Array.ext_getElem? fun i => e4 i fun hm => hz _ hm rfl
  have h9 : c9 = s.heap[q] := by
    rw [hs] at e2
    exact e2
  have e5 : U.heap[q]? = some c9 := e1
  rw [e5, h9, Array.getElem?_eq_getElem hq]
/-- the words of a throw but the four that speak of the heap -/
def vx_no (w : Cond) : Bool := decide (w ≠ .isRef (.static Bundle.tN "UNASSIGNED_STACK" Bundle.steD)) && decide (w ≠ .isRef (.static Bundle.tN "SUPPRESSED_SENTINEL" Bundle.listD)) && decide (w ≠ .laysStatic Bundle.tN "UNASSIGNED_STACK" Bundle.steD) && decide (w ≠ .laysStatic Bundle.tN "SUPPRESSED_SENTINEL" Bundle.listD)
def vx_at0 (own : String) (ic : Nat) (X : String) (names : List String) : List Cond := (Bundle.ownAtoms0 own ic X names).filter vx_no
def vx_atS (own : String) (ic : Nat) (X : String) (names : List String) : List Cond := (Bundle.ownAtoms own ic X names).filter vx_no
/-- a word that the tables alone decide, or a good one -/
def vx_ot (w : Cond) : Bool := w.onTables || goodWord w
theorem vx_ot_at {args a' : Array Value} {s U : State} {w : Cond} (hW : s.WarmedH U.vm) (hvm : s.vm = U.vm) (hg : vx_ot w = true) (h : w.before args s = true) : w.before a' U = true := by
  simp only [vx_ot, Bool.or_eq_true] at hg
  rcases hg with hg | hg
  · exact va_tabs hg hvm h
  · exact word_at hW (good_of_word hg) h
/-- a list's words: the good ones out of the method's own list, the others by premises of their own -/
theorem vx_hat {args : Array Value} {s : State} {L B : List Cond} (h1 : ∀ w ∈ L.filter goodWord, w.before args s = true) (h2 : ∀ w ∈ L.filter (fun w => !goodWord w), w ∈ B) (h3 : ∀ w ∈ B, w.before args s = true) : ∀ w ∈ L, w.before args s = true := by
  intro w hw
  by_cases g : goodWord w = true
  · exact h1 w (List.mem_filter.mpr ⟨hw, g⟩)
  · refine h3 w (h2 w (List.mem_filter.mpr ⟨hw, ?_⟩))
    show (!goodWord w) = true
    cases hgw : goodWord w
    · rfl
    · exact absurd hgw g
theorem vx_c {args : Array Value} {s : State} {w : Cond} {B : List Cond} (h : w.before args s = true) (t : ∀ w ∈ B, w.before args s = true) : ∀ w' ∈ w :: B, w'.before args s = true := fun w' h' => (List.mem_cons.mp h').elim (fun e => by rw [e]; exact h) (t w')
theorem vx_n {args : Array Value} {s : State} : ∀ w ∈ ([] : List Cond), w.before args s = true := fun _ h => nomatch h
theorem vx_own {args : Array Value} {s : State} {L : List Cond} (h1 : ∀ w ∈ L.filter vx_no, w.before args s = true)
    (hU : (Cond.isRef (.static Bundle.tN "UNASSIGNED_STACK" Bundle.steD)).before args s = true) (hN : (Cond.isRef (.static Bundle.tN "SUPPRESSED_SENTINEL" Bundle.listD)).before args s = true)
    (lU : (Cond.laysStatic Bundle.tN "UNASSIGNED_STACK" Bundle.steD).before args s = true) (lN : (Cond.laysStatic Bundle.tN "SUPPRESSED_SENTINEL" Bundle.listD).before args s = true) : ∀ w ∈ L, w.before args s = true := by
  intro w hw
  by_cases e1 : w = .isRef (.static Bundle.tN "UNASSIGNED_STACK" Bundle.steD)
  · rw [e1]; exact hU
  · by_cases e2 : w = .isRef (.static Bundle.tN "SUPPRESSED_SENTINEL" Bundle.listD)
    · rw [e2]; exact hN
    · by_cases e3 : w = .laysStatic Bundle.tN "UNASSIGNED_STACK" Bundle.steD
      · rw [e3]; exact lU
      · by_cases e4 : w = .laysStatic Bundle.tN "SUPPRESSED_SENTINEL" Bundle.listD
        · rw [e4]; exact lN
        · exact h1 w (List.mem_filter.mpr ⟨hw, by unfold vx_no; rw [decide_eq_true e1, decide_eq_true e2, decide_eq_true e3, decide_eq_true e4]; rfl⟩)
/-- where a static field lies, its class's statics cell in H -/
def vx_L (C n d : String) (A : Nat → Prop) (U : State) (H : Heap) : Prop := ∃ (c : ClassId) (k : Class) (i : Nat) (f : Field) (a : Nat) (cell : Cell), U.vm.findClass C = some c ∧ U.fieldFound? C n d = some (c, k, i, f) ∧ f.isStatic = true ∧ k.statics = some a ∧ H[a]? = some cell ∧ cell.vm.isStatics = true ∧ cell.cls = c ∧ f.slot < cell.slots.size ∧ k.staticTypes[f.slot]? = some f.type ∧ ¬ A a
theorem vx_L.moved {C n d : String} {A : Nat → Prop} {u U : State} {H : Heap} (hvm : u.vm.Alike U.vm) (h : vx_L C n d A u H) : vx_L C n d A U H := by
  obtain ⟨c, k, i, f, a, cell, h1, h2, h3, h4, h5, h6, h7, h8, h9, h10⟩ := h
  obtain ⟨k', hi', he⟩ := State.fieldFound?_setVm hvm h2
  exact ⟨c, k', i, f, a, cell, by rw [hvm.findClass]; exact h1, hi', h3, by rw [he]; exact h4, h5, h6, h7, h8, by rw [he]; exact h9, h10⟩
theorem vx_L.kept {C n d : String} {A : Nat → Prop} {U : State} {H H1 : Heap} (h : vx_L C n d A U H) (hq : ∀ a : Nat, a < H.size → ¬ A a → H1[a]? = H[a]?) : vx_L C n d A U H1 := by
  obtain ⟨c, k, i, f, a, cell, h1, h2, h3, h4, h5, h6, h7, h8, h9, h10⟩ := h
  exact ⟨c, k, i, f, a, cell, h1, h2, h3, h4, by rw [hq a (Array.getElem?_eq_some_iff.mp h5).1 h10]; exact h5, h6, h7, h8, h9, h10⟩
theorem vx_L.narrow {C n d : String} {A B : Nat → Prop} {U : State} {H : Heap} (h : vx_L C n d A U H) (hAB : ∀ q, B q → A q) : vx_L C n d B U H := by
  obtain ⟨c, k, i, f, a, cell, h1, h2, h3, h4, h5, h6, h7, h8, h9, h10⟩ := h
  exact ⟨c, k, i, f, a, cell, h1, h2, h3, h4, h5, h6, h7, h8, h9, fun z => h10 (hAB _ z)⟩
theorem vx_L.word {C n d : String} {A : Nat → Prop} {s : State} {args : Array Value} (h : vx_L C n d A s s.heap) : (Cond.laysStatic C n d).before args s = true := by
  obtain ⟨c, k, i, f, a, cell, h1, h2, h3, h4, h5, h6, h7, h8, h9, -⟩ := h
  show (Cond.laysStatic C n d).holds args s none s [] = true
  exact Cond.laysStatic_of h1 h2 h3 h4 h5 h6 h7 h8 h9
/-- .. and what it holds: null or some reference -/
def vx_Zq (C n d : String) (A : Nat → Prop) (U : State) (H : Heap) : Prop := va_Zq C n d A U H ∧ vx_L C n d A U H
theorem vx_Zq.moved {C n d : String} {A : Nat → Prop} {u U : State} {H : Heap} (hvm : u.vm.Alike U.vm) (h : vx_Zq C n d A u H) : vx_Zq C n d A U H := ⟨va_Zq.moved hvm h.1, vx_L.moved hvm h.2⟩
theorem vx_Zq.kept {C n d : String} {A : Nat → Prop} {U : State} {H H1 : Heap} (h : vx_Zq C n d A U H) (hq : ∀ a : Nat, a < H.size → ¬ A a → H1[a]? = H[a]?) : vx_Zq C n d A U H1 := ⟨va_Zq.kept h.1 hq, vx_L.kept h.2 hq⟩
theorem vx_Zq.narrow {C n d : String} {A B : Nat → Prop} {U : State} {H : Heap} (h : vx_Zq C n d A U H) (hAB : ∀ q, B q → A q) : vx_Zq C n d B U H := ⟨va_Zq.narrow h.1 hAB, vx_L.narrow h.2 hAB⟩
theorem vx_Zqof {args : Array Value} {s : State} {C n d : String} {A : Nat → Prop} (hl : (Cond.laysStatic C n d).before args s = true) (hini : (Cond.initialized C).before args s = true) (h : (Cond.isRef (.static C n d)).before args s = true) (hA : ∀ a : Nat, a < s.heap.size → ¬ A a) : vx_Zq C n d A s s.heap := by
  refine ⟨va_Zqof hl hini h hA, ?_⟩
  obtain ⟨c, k, i, f, a, cell, h1, h2, h3, h4, h5, h6, h7, h8, h9⟩ := Cond.laysStatic_spec hl
  exact ⟨c, k, i, f, a, cell, h1, h2, h3, h4, h5, h6, h7, h8, h9, hA a (Array.getElem?_eq_some_iff.mp h5).1⟩
theorem vx_isRef {C n d : String} {v : Value} {A : Nat → Prop} {s : State} {args : Array Value} (h : va_Z C n d v A s s.heap) (hv : v.isRef = true) : (Cond.isRef (.static C n d)).before args s = true := by
  obtain ⟨cf, kf, fi, f, a, cell, h1, h2, h3, h4, h5, h6, h7, -⟩ := h
  have he : (Term.static C n d).eval args s none [] s = some v := by
    simp [Term.eval, State.fieldNamed?, h1, h2, h4, h5, h6, h7]
  simp only [Cond.before, Cond.holds, Cond.value, he]
  cases v <;> simp_all [Value.isRef]
theorem vx_isRefq {C n d : String} {A : Nat → Prop} {s : State} {args : Array Value} (h : va_Zq C n d A s s.heap) : (Cond.isRef (.static C n d)).before args s = true := by
  rcases h with h | ⟨t, h⟩
  · exact vx_isRef h rfl
  · exact vx_isRef h rfl
/-- the same frame, seen from here: as if the method were called anew in this heap -/
theorem vx_rebase {T : State} (X : Stand p l e R s m args below meth c T locs cells slots) {R' : Room} (hf : R'.frames ≤ R.frames) (hl : R'.locals ≤ R.locals) (hc : cells + R'.cells ≤ R.cells) (hs : slots + R'.slots ≤ R.slots) :
    Stand p l e R' ((T.setVm s.vm).setFrames (.invoking m args :: below)) m args below meth c T [] 0 0 := by
  have htop : (T.setVm s.vm).topJava?.isSome := X.here.top
  have hF : ((T.setVm s.vm).setFrames (.invoking m args :: below)).frames = .invoking m args :: below := State.frames_setFrames _ (State.cur_lt_of_top htop)
  obtain ⟨g₀, hg0⟩ := Option.isSome_iff_exists.mp htop
  obtain ⟨r, hr⟩ := State.topJava?_eq_some.mp hg0
  have hl9 : e.platform.stackLimits (T.setVm s.vm).me = e.platform.stackLimits s.me := X.limits
  have hb9 : (T.setVm s.vm).me.stackBytes = s.me.stackBytes := X.bytes
  refine ⟨X.admits, X.cas, X.clock, hF, ?_, X.hears, X.method, X.code, X.here, X.tail, X.warmed, ?_, ?_, ?_⟩
  · have h := X.room
    have hU : ((T.setVm s.vm).setFrames (.invoking m args :: below)).localsInUse = s.localsInUse := by
      rw [State.localsInUse_invoking hF (meth := meth) (c := c) X.method X.code, State.localsInUse_invoking X.frames X.method X.code]
    simp only [State.hasRoom, Bool.and_eq_true, decide_eq_true_eq] at h ⊢
    obtain ⟨⟨⟨⟨h1, h2, h3, h4, h5, h6⟩, h7⟩, h8⟩, h9⟩ := h
    rw [X.frames, List.length_cons] at h2 h3
    have q1 := X.heapSize
    have q2 := X.used
    simp only [hF, hU, List.length_cons, State.stackLimits_setFrames, State.stackBytes_setFrames, hl9, hb9]
    refine ⟨⟨⟨⟨by omega, by omega, by omega, by omega, by omega, h6⟩, ?_⟩, ?_⟩, X.book⟩
    · show T.heap.size + R'.cells ≤ e.platform.maxCells
      omega
    · show T.slotsUsed + R'.slots ≤ e.platform.maxSlots
      omega
  · rw [State.stackLimits_setFrames]; rfl
  · rw [State.stackBytes_setFrames]; rfl
  · refine ⟨?_, Nat.le_refl _, Nat.le_refl _, ?_, ?_, fun a c9 h9 => ⟨c9, h9, rfl, rfl, fun _ _ => rfl⟩⟩
    · obtain ⟨t, ht, -⟩ := State.frames_cons hr
      show T.setVm s.vm = { ((T.setVm s.vm).setFrames (.invoking m args :: below)).setFrames (T.setVm s.vm).frames with heap := T.heap, slotsUsed := T.slotsUsed }
      rw [State.setFrames_setFrames, State.setFrames_self ht]
      rfl
    · show T.slotsUsed = T.slotsUsed + ((T.heap.toList.drop T.heap.size).map (·.slots.size)).sum
      rw [List.drop_eq_nil_of_le (Nat.le_of_eq Array.length_toList)]
      rfl
    · show ((T.heap.toList.drop T.heap.size).map (·.slots.size)).sum ≤ 0
      rw [List.drop_eq_nil_of_le (Nat.le_of_eq Array.length_toList)]
      exact Nat.le_refl _
/-- 'throw new E()': new; dup; invokespecial; athrow -/
theorem vx_throw0 {cc : ByteArray} {pc : Nat} (hexec : p.tables.exec = Jvm.exec) (hb : c.code = cc) (hl : l.stackTraces = false) {own cls : String} {names : List String} {ik ic mc ms : Nat} {A : Nat → Prop}
    (hown : s.vm.findClass own = some m.cls) (hcls : Bundle.fit cls = true) (hnames : ∀ n ∈ names, Bundle.fit n = true)
    (hk : (Cond.classLink own ik cls).before args s = true) (hini : (Cond.initialized cls).before args s = true) (hat : ∀ w ∈ vx_at0 own ic cls names, w.before args s = true)
    (hgood : ∀ w ∈ Cond.classLink own ik cls :: Cond.initialized cls :: vx_at0 own ic cls names, vx_ot w = true)
    (hU : vx_Zq Bundle.tN "UNASSIGNED_STACK" Bundle.steD A s s.heap) (hN : vx_Zq Bundle.tN "SUPPRESSED_SENTINEL" Bundle.listD A s s.heap) (hS : va_S A s.heap H locs) (hsize : ls.size = c.maxLocals)
    (d0 : decode cc pc = .ok (.new ik, 3)) (d3 : decode cc (pc + 3) = .ok (.dup, 1)) (d4 : decode cc (pc + 4) = .ok (.invokespecial ic, 3)) (d7 : decode cc (pc + 7) = .ok (.athrow, 1))
    (hout : ∀ x ∈ c.exceptionTable.toList, covers x (pc + 7) = false)
    (hRframes : names.length + 3 < R.frames) (hRlocals : (rest.map fun v => v.category).sum + (13 * (names.length + 1) + 42) ≤ R.locals) (hRcells : cells + 1 ≤ R.cells) (hRslots : slots + 6 ≤ R.slots) (hlocks : meth.locks = false)
    (hx : ∀ t : State, s.vm.Alike t.vm → H.size ≤ t.heap.size → (∀ q : Nat, q < H.size → t.heap[q]? = H[q]?) → XC cls s t)
    (hf : ∀ z ∈ locs, free z.base) (hc : cells + 1 ≤ mc) (hs : slots + 6 ≤ ms) :
    W p l e R s m args below meth c H locs cells slots (vx_MQ below Qc XC args s mc ms free) (F0 m pc ls rest) := by
  intro T hT X
  have htr : e.platform.stackTraces = false := (show e.platform.stackTraces = l.stackTraces by rw [X.admits.platform]).trans hl
  have Y := vx_rebase X (R' := { frames := R.frames, locals := R.locals, cells := 1, slots := 6 }) (Nat.le_refl _) (Nat.le_refl _) hRcells hRslots
  obtain ⟨s', hA⟩ : ∃ z, z = (T.setVm s.vm).setFrames (.invoking m args :: below) := ⟨_, rfl⟩
  rw [← hA] at Y
  have hvm : s'.vm = s.vm := by rw [hA]; rfl
  have hhp : s'.heap = H := by rw [hA]; exact hT
  have hW0 : s.WarmedH s'.vm := by rw [hvm]; exact State.WarmedH.refl s
  have hat' : ∀ w ∈ vx_at0 own ic cls names, w.before args s' = true := fun w hw => vx_ot_at hW0 hvm.symm (hgood w (List.mem_cons_of_mem _ (List.mem_cons_of_mem _ hw))) (hat w hw)
  have hk' : (Cond.classLink own ik cls).before args s' = true := vx_ot_at hW0 hvm.symm (hgood _ List.mem_cons_self) hk
  have hini' : (Cond.initialized cls).before args s' = true := vx_ot_at hW0 hvm.symm (hgood _ (List.mem_cons_of_mem _ List.mem_cons_self)) hini
  have hU' : vx_Zq Bundle.tN "UNASSIGNED_STACK" Bundle.steD A s' s'.heap := by rw [hhp]; exact vx_Zq.moved hW0.alike (hU.kept hS.2.1)
  have hN' : vx_Zq Bundle.tN "SUPPRESSED_SENTINEL" Bundle.listD A s' s'.heap := by rw [hhp]; exact vx_Zq.moved hW0.alike (hN.kept hS.2.1)
  have h : ∀ w ∈ Bundle.ownAtoms0 own ic cls names, w.before args s' = true := vx_own hat' (vx_isRefq hU'.1) (vx_isRefq hN'.1) hU'.2.word hN'.2.word
  have hown' : s'.vm.findClass own = some m.cls := by rw [hvm]; exact hown
  have hins : (Cond.instantiable cls 6).before args s' = true := h _ (by simp [Bundle.ownAtoms0])
  obtain ⟨vm₁, cX, kX, hfX, hkX, -, -, X₁, st1⟩ := Y.newCold hexec (own := own) (C := cls) (index := ik) (n := 6) hown' hk' hins hini'
    (g := F0 m pc ls rest) rfl (by rw [hb]; exact d0) (Nat.le_refl _) (Nat.le_refl _)
  generalize hT1 : (T.setVm vm₁).pushCell { cls := cX, slots := kX.instanceTypes.map defaultValue, vm := .none } = T1 at X₁ st1
  have hcat : (Value.ref T.heap.size).category = 1 := rfl
  have hcellA : T1.heap[T.heap.size]? = some (freshCell cX kX) := by rw [← hT1]; exact State.heap_pushCell_size _ _
  have d3' : decode c.code (pc + 3) = .ok (.dup, 1) := by rw [hb]; exact d3
  obtain ⟨U, hsteps, hrun, hend, hW, hsame, ce, hce, hO⟩ := X₁.ctorThrow0 hexec htr (own := own) (cls := cls) (names := names) (ic := ic) hown' hcls hnames h (fun x hx => nomatch hx) hfX hkX hcellA (by rw [hhp, hT]; exact Nat.le_refl _)
    (g := { method := m, pc := pc + 4, locals := ls, stack := .ref T.heap.size :: .ref T.heap.size :: rest, locked := none }) rfl hsize rfl rfl (rest := rest) rfl
    (by rw [hb]; exact d4) (by rw [hb]; exact d7) hout hRframes (by simp only [List.map_cons, List.sum_cons, hcat]; omega) hlocks
  obtain ⟨f1, f2⟩ := vx_frame hsame
  rw [hhp] at f1 f2
  have hWs : s.WarmedH U.vm := State.WarmedH.trans hW0 hW
  have hcl : s.vm.findClass cls = some ce.cls := by
    have h9 := hO.cls
    rw [hvm] at h9
    exact h9
  have hall : s.sameButNew ({ U with vm := s.vm } : State) locs mc ms := by
    subst hA
    obtain ⟨e1, e2⟩ := hsame
    rw [State.setFrames_setFrames] at e1
    have h2 : (T.setVm s.vm).sameButNew ({ U with vm := s.vm } : State) [] (0 + 1) (0 + 6) := ⟨e1, e2⟩
    have h3 := X.same.trans h2
    rw [List.append_nil] at h3
    exact h3.mono hc hs
  refine ⟨U, ?_, .threw T.heap.size, hrun, hend, Or.inr ⟨T.heap.size, rfl, cls, ce, locs, hx U hWs.alike f1 (fun q hq => f2 q hq (fun z hz => nomatch hz)), hce, hO.vm, hcl, hWs, hall, hf⟩⟩
  refine st1 _ ?_
  show Steps p.tables e below (T1.setTop { method := m, pc := pc + 3, locals := ls, stack := .ref T.heap.size :: rest, locked := none }) _
  jvm_step X₁.here [X₁.here.top, hexec, d3', Value.category]
  exact hsteps
/-- 'throw new E("text")': new; dup; ldc; invokespecial; athrow -/
theorem vx_throwS {cc : ByteArray} {pc : Nat} (hexec : p.tables.exec = Jvm.exec) (hb : c.code = cc) (hl : l.stackTraces = false) {own cls text : String} {names : List String} {ik is ic mc ms sa : Nat} {A : Nat → Prop}
    (hown : s.vm.findClass own = some m.cls) (hcls : Bundle.fit cls = true) (hnames : ∀ n ∈ names, Bundle.fit n = true)
    (hk : (Cond.classLink own ik cls).before args s = true) (hini : (Cond.initialized cls).before args s = true) (hstr : vk_R own is text sa s) (hat : ∀ w ∈ vx_atS own ic cls names, w.before args s = true)
    (hgood : ∀ w ∈ Cond.classLink own ik cls :: Cond.initialized cls :: vx_atS own ic cls names, vx_ot w = true)
    (hU : vx_Zq Bundle.tN "UNASSIGNED_STACK" Bundle.steD A s s.heap) (hN : vx_Zq Bundle.tN "SUPPRESSED_SENTINEL" Bundle.listD A s s.heap) (hS : va_S A s.heap H locs) (hsize : ls.size = c.maxLocals)
    (d0 : decode cc pc = .ok (.new ik, 3)) (d3 : decode cc (pc + 3) = .ok (.dup, 1)) (d4 : decode cc (pc + 4) = .ok (.ldc is, 2)) (d6 : decode cc (pc + 6) = .ok (.invokespecial ic, 3)) (d9 : decode cc (pc + 9) = .ok (.athrow, 1))
    (hout : ∀ x ∈ c.exceptionTable.toList, covers x (pc + 9) = false)
    (hRframes : names.length + 3 < R.frames) (hRlocals : (rest.map fun v => v.category).sum + (13 * (names.length + 1) + 43) ≤ R.locals) (hRcells : cells + 1 ≤ R.cells) (hRslots : slots + 6 ≤ R.slots) (hlocks : meth.locks = false)
    (hx : ∀ t : State, s.vm.Alike t.vm → H.size ≤ t.heap.size → (∀ q : Nat, q < H.size → t.heap[q]? = H[q]?) → XC cls s t)
    (hf : ∀ z ∈ locs, free z.base) (hc : cells + 1 ≤ mc) (hs : slots + 6 ≤ ms) :
    W p l e R s m args below meth c H locs cells slots (vx_MQ below Qc XC args s mc ms free) (F0 m pc ls rest) := by
  intro T hT X
  have htr : e.platform.stackTraces = false := (show e.platform.stackTraces = l.stackTraces by rw [X.admits.platform]).trans hl
  have Y := vx_rebase X (R' := { frames := R.frames, locals := R.locals, cells := 1, slots := 6 }) (Nat.le_refl _) (Nat.le_refl _) hRcells hRslots
  obtain ⟨s', hA⟩ : ∃ z, z = (T.setVm s.vm).setFrames (.invoking m args :: below) := ⟨_, rfl⟩
  rw [← hA] at Y
  have hvm : s'.vm = s.vm := by rw [hA]; rfl
  have hhp : s'.heap = H := by rw [hA]; exact hT
  have hW0 : s.WarmedH s'.vm := by rw [hvm]; exact State.WarmedH.refl s
  have hat' : ∀ w ∈ vx_atS own ic cls names, w.before args s' = true := fun w hw => vx_ot_at hW0 hvm.symm (hgood w (List.mem_cons_of_mem _ (List.mem_cons_of_mem _ hw))) (hat w hw)
  have hk' : (Cond.classLink own ik cls).before args s' = true := vx_ot_at hW0 hvm.symm (hgood _ List.mem_cons_self) hk
  have hini' : (Cond.initialized cls).before args s' = true := vx_ot_at hW0 hvm.symm (hgood _ (List.mem_cons_of_mem _ List.mem_cons_self)) hini
  have hU' : vx_Zq Bundle.tN "UNASSIGNED_STACK" Bundle.steD A s' s'.heap := by rw [hhp]; exact vx_Zq.moved hW0.alike (hU.kept hS.2.1)
  have hN' : vx_Zq Bundle.tN "SUPPRESSED_SENTINEL" Bundle.listD A s' s'.heap := by rw [hhp]; exact vx_Zq.moved hW0.alike (hN.kept hS.2.1)
  have h : ∀ w ∈ Bundle.ownAtoms own ic cls names, w.before args s' = true := vx_own hat' (vx_isRefq hU'.1) (vx_isRefq hN'.1) hU'.2.word hN'.2.word
  have hown' : s'.vm.findClass own = some m.cls := by rw [hvm]; exact hown
  have hins : (Cond.instantiable cls 6).before args s' = true := h _ (by simp [Bundle.ownAtoms])
  obtain ⟨vm₁, cX, kX, hfX, hkX, -, -, X₁, st1⟩ := Y.newCold hexec (own := own) (C := cls) (index := ik) (n := 6) hown' hk' hins hini'
    (g := F0 m pc ls rest) rfl (by rw [hb]; exact d0) (Nat.le_refl _) (Nat.le_refl _)
  generalize hT1 : (T.setVm vm₁).pushCell { cls := cX, slots := kX.instanceTypes.map defaultValue, vm := .none } = T1 at X₁ st1
  have hcat : (Value.ref T.heap.size).category = 1 := rfl
  have hcellA : T1.heap[T.heap.size]? = some (freshCell cX kX) := by rw [← hT1]; exact State.heap_pushCell_size _ _
  have d3' : decode c.code (pc + 3) = .ok (.dup, 1) := by rw [hb]; exact d3
  have d4' : decode c.code (pc + 4) = .ok (.ldc is, 2) := by rw [hb]; exact d4
  have hstr' : vk_R own is text sa s' := vk_R.warm hW0 hstr
  obtain ⟨U, hsteps, hrun, hend, hW, hsame, ce, hce, hO⟩ := X₁.ctorThrowS hexec htr (own := own) (cls := cls) (names := names) (ic := ic) hown' hcls hnames h (fun x hx => nomatch hx) hfX hkX hcellA (by rw [hhp, hT]; exact Nat.le_refl _) (msg := .ref sa) rfl
    (g := { method := m, pc := pc + 6, locals := ls, stack := .ref sa :: .ref T.heap.size :: .ref T.heap.size :: rest, locked := none }) rfl hsize rfl rfl (rest := rest) rfl
    (by rw [hb]; exact d6) (by rw [hb]; exact d9) hout hRframes (by simp only [List.map_cons, List.sum_cons, hcat]; omega) hlocks
  obtain ⟨f1, f2⟩ := vx_frame hsame
  rw [hhp] at f1 f2
  have hWs : s.WarmedH U.vm := State.WarmedH.trans hW0 hW
  have hcl : s.vm.findClass cls = some ce.cls := by
    have h9 := hO.cls
    rw [hvm] at h9
    exact h9
  have hall : s.sameButNew ({ U with vm := s.vm } : State) locs mc ms := by
    subst hA
    obtain ⟨e1, e2⟩ := hsame
    rw [State.setFrames_setFrames] at e1
    have h2 : (T.setVm s.vm).sameButNew ({ U with vm := s.vm } : State) [] (0 + 1) (0 + 6) := ⟨e1, e2⟩
    have h3 := X.same.trans h2
    rw [List.append_nil] at h3
    exact h3.mono hc hs
  refine ⟨U, ?_, .threw T.heap.size, hrun, hend, Or.inr ⟨T.heap.size, rfl, cls, ce, locs, hx U hWs.alike f1 (fun q hq => f2 q hq (fun z hz => nomatch hz)), hce, hO.vm, hcl, hWs, hall, hf⟩⟩
  refine st1 _ ?_
  show Steps p.tables e below (T1.setTop { method := m, pc := pc + 3, locals := ls, stack := .ref T.heap.size :: rest, locked := none }) _
  jvm_step X₁.here [X₁.here.top, hexec, d3', Value.category]
  exact X₁.ldcString hexec (own := own) (text := text) (index := is) (a := sa) hown' hstr'.1 hstr'.2
    (g := { method := m, pc := pc + 4, locals := ls, stack := .ref T.heap.size :: .ref T.heap.size :: rest, locked := none }) rfl d4' _ hsteps
/-- 'throw new E("text")', the text by a wide index -/
theorem vx_throwSW {cc : ByteArray} {pc : Nat} (hexec : p.tables.exec = Jvm.exec) (hb : c.code = cc) (hl : l.stackTraces = false) {own cls text : String} {names : List String} {ik is ic mc ms sa : Nat} {A : Nat → Prop}
    (hown : s.vm.findClass own = some m.cls) (hcls : Bundle.fit cls = true) (hnames : ∀ n ∈ names, Bundle.fit n = true)
    (hk : (Cond.classLink own ik cls).before args s = true) (hini : (Cond.initialized cls).before args s = true) (hstr : vk_R own is text sa s) (hat : ∀ w ∈ vx_atS own ic cls names, w.before args s = true)
    (hgood : ∀ w ∈ Cond.classLink own ik cls :: Cond.initialized cls :: vx_atS own ic cls names, vx_ot w = true)
    (hU : vx_Zq Bundle.tN "UNASSIGNED_STACK" Bundle.steD A s s.heap) (hN : vx_Zq Bundle.tN "SUPPRESSED_SENTINEL" Bundle.listD A s s.heap) (hS : va_S A s.heap H locs) (hsize : ls.size = c.maxLocals)
    (d0 : decode cc pc = .ok (.new ik, 3)) (d3 : decode cc (pc + 3) = .ok (.dup, 1)) (d4 : decode cc (pc + 4) = .ok (.ldc_w is, 3)) (d7 : decode cc (pc + 7) = .ok (.invokespecial ic, 3)) (d10 : decode cc (pc + 10) = .ok (.athrow, 1))
    (hout : ∀ x ∈ c.exceptionTable.toList, covers x (pc + 10) = false)
    (hRframes : names.length + 3 < R.frames) (hRlocals : (rest.map fun v => v.category).sum + (13 * (names.length + 1) + 43) ≤ R.locals) (hRcells : cells + 1 ≤ R.cells) (hRslots : slots + 6 ≤ R.slots) (hlocks : meth.locks = false)
    (hx : ∀ t : State, s.vm.Alike t.vm → H.size ≤ t.heap.size → (∀ q : Nat, q < H.size → t.heap[q]? = H[q]?) → XC cls s t)
    (hf : ∀ z ∈ locs, free z.base) (hc : cells + 1 ≤ mc) (hs : slots + 6 ≤ ms) :
    W p l e R s m args below meth c H locs cells slots (vx_MQ below Qc XC args s mc ms free) (F0 m pc ls rest) := by
  intro T hT X
  have htr : e.platform.stackTraces = false := (show e.platform.stackTraces = l.stackTraces by rw [X.admits.platform]).trans hl
  have Y := vx_rebase X (R' := { frames := R.frames, locals := R.locals, cells := 1, slots := 6 }) (Nat.le_refl _) (Nat.le_refl _) hRcells hRslots
  obtain ⟨s', hA⟩ : ∃ z, z = (T.setVm s.vm).setFrames (.invoking m args :: below) := ⟨_, rfl⟩
  rw [← hA] at Y
  have hvm : s'.vm = s.vm := by rw [hA]; rfl
  have hhp : s'.heap = H := by rw [hA]; exact hT
  have hW0 : s.WarmedH s'.vm := by rw [hvm]; exact State.WarmedH.refl s
  have hat' : ∀ w ∈ vx_atS own ic cls names, w.before args s' = true := fun w hw => vx_ot_at hW0 hvm.symm (hgood w (List.mem_cons_of_mem _ (List.mem_cons_of_mem _ hw))) (hat w hw)
  have hk' : (Cond.classLink own ik cls).before args s' = true := vx_ot_at hW0 hvm.symm (hgood _ List.mem_cons_self) hk
  have hini' : (Cond.initialized cls).before args s' = true := vx_ot_at hW0 hvm.symm (hgood _ (List.mem_cons_of_mem _ List.mem_cons_self)) hini
  have hU' : vx_Zq Bundle.tN "UNASSIGNED_STACK" Bundle.steD A s' s'.heap := by rw [hhp]; exact vx_Zq.moved hW0.alike (hU.kept hS.2.1)
  have hN' : vx_Zq Bundle.tN "SUPPRESSED_SENTINEL" Bundle.listD A s' s'.heap := by rw [hhp]; exact vx_Zq.moved hW0.alike (hN.kept hS.2.1)
  have h : ∀ w ∈ Bundle.ownAtoms own ic cls names, w.before args s' = true := vx_own hat' (vx_isRefq hU'.1) (vx_isRefq hN'.1) hU'.2.word hN'.2.word
  have hown' : s'.vm.findClass own = some m.cls := by rw [hvm]; exact hown
  have hins : (Cond.instantiable cls 6).before args s' = true := h _ (by simp [Bundle.ownAtoms])
  obtain ⟨vm₁, cX, kX, hfX, hkX, -, -, X₁, st1⟩ := Y.newCold hexec (own := own) (C := cls) (index := ik) (n := 6) hown' hk' hins hini'
    (g := F0 m pc ls rest) rfl (by rw [hb]; exact d0) (Nat.le_refl _) (Nat.le_refl _)
  generalize hT1 : (T.setVm vm₁).pushCell { cls := cX, slots := kX.instanceTypes.map defaultValue, vm := .none } = T1 at X₁ st1
  have hcat : (Value.ref T.heap.size).category = 1 := rfl
  have hcellA : T1.heap[T.heap.size]? = some (freshCell cX kX) := by rw [← hT1]; exact State.heap_pushCell_size _ _
  have d3' : decode c.code (pc + 3) = .ok (.dup, 1) := by rw [hb]; exact d3
  have d4' : decode c.code (pc + 4) = .ok (.ldc_w is, 3) := by rw [hb]; exact d4
  have hstr' : vk_R own is text sa s' := vk_R.warm hW0 hstr
  obtain ⟨U, hsteps, hrun, hend, hW, hsame, ce, hce, hO⟩ := X₁.ctorThrowS hexec htr (own := own) (cls := cls) (names := names) (ic := ic) hown' hcls hnames h (fun x hx => nomatch hx) hfX hkX hcellA (by rw [hhp, hT]; exact Nat.le_refl _) (msg := .ref sa) rfl
    (g := { method := m, pc := pc + 7, locals := ls, stack := .ref sa :: .ref T.heap.size :: .ref T.heap.size :: rest, locked := none }) rfl hsize rfl rfl (rest := rest) rfl
    (by rw [hb]; exact d7) (by rw [hb]; exact d10) hout hRframes (by simp only [List.map_cons, List.sum_cons, hcat]; omega) hlocks
  obtain ⟨f1, f2⟩ := vx_frame hsame
  rw [hhp] at f1 f2
  have hWs : s.WarmedH U.vm := State.WarmedH.trans hW0 hW
  have hcl : s.vm.findClass cls = some ce.cls := by
    have h9 := hO.cls
    rw [hvm] at h9
    exact h9
  have hall : s.sameButNew ({ U with vm := s.vm } : State) locs mc ms := by
    subst hA
    obtain ⟨e1, e2⟩ := hsame
    rw [State.setFrames_setFrames] at e1
    have h2 : (T.setVm s.vm).sameButNew ({ U with vm := s.vm } : State) [] (0 + 1) (0 + 6) := ⟨e1, e2⟩
    have h3 := X.same.trans h2
    rw [List.append_nil] at h3
    exact h3.mono hc hs
  refine ⟨U, ?_, .threw T.heap.size, hrun, hend, Or.inr ⟨T.heap.size, rfl, cls, ce, locs, hx U hWs.alike f1 (fun q hq => f2 q hq (fun z hz => nomatch hz)), hce, hO.vm, hcl, hWs, hall, hf⟩⟩
  refine st1 _ ?_
  show Steps p.tables e below (T1.setTop { method := m, pc := pc + 3, locals := ls, stack := .ref T.heap.size :: rest, locked := none }) _
  jvm_step X₁.here [X₁.here.top, hexec, d3', Value.category]
  exact X₁.ldcStringW hexec (own := own) (text := text) (index := is) (a := sa) hown' hstr'.1 hstr'.2
    (g := { method := m, pc := pc + 4, locals := ls, stack := .ref T.heap.size :: .ref T.heap.size :: rest, locked := none }) rfl d4' _ hsteps
end Ends
section Bodies
variable {l : Launch}
theorem vx_ofW {y : MethodName} {ws ws' : List Cond} {rm : Room} {Pc : Array Value → State → Prop} {Qc : Array Value → State → Outcome → State → Prop} {XC : String → State → State → Prop} {mc ms : Nat} {free : Addr → Prop} {cc : ByteArray} {maxL : Nat} {ret : Option FieldType}
    (hy : plainName y.cls = true) (hw : ws = Cond.code y cc maxL ret :: ws')
    (body : ∀ p e s m args below meth c s₁, BodyLoose p l y (headSpec ws rm) cc maxL ret e s m args below meth c s₁ → c.maxLocals = maxL → (∀ x ∈ c.exceptionTable.toList, False) → Pc args s →
      W p l e (headSpec ws rm).room s m args below meth c s.heap [] 0 0 (vx_MQ below Qc XC args s mc ms free) (entryFrame m args maxL)) : vx_Met l y ws rm Pc Qc XC mc ms free := by
  refine MetFree.of_bodyS (code := cc) (maxLocals := maxL) (ret := ret) hy ?_ ?_
  · intro args s m h hn
    obtain ⟨meth, c, h1, h2, h3, h4, h5, h6, -, -⟩ := Cond.code_spec hn (atoms_spec (ws := ws) h _ (by rw [hw]; exact List.mem_cons_self))
    exact ⟨meth, c, h1, h2, h3, h4, h5, h6⟩
  · intro p e s m args below meth c s₁ B hml hP _
    have hh0 : s₁.heap = s.heap := by rw [B.state]; rfl
    have ht : ∀ x ∈ c.exceptionTable.toList, False := by
      obtain ⟨meth9, c9, h1, h2, -, -, -, -, h7, -⟩ := Cond.code_spec B.named (atoms_spec (ws := ws) B.pre _ (by rw [hw]; exact List.mem_cons_self))
      cases Option.some.inj (h1.symm.trans B.method)
      cases Option.some.inj (h2.symm.trans (Stand.of_body B).code)
      intro x hx
      rw [Array.isEmpty_iff.mp h7] at hx
      cases hx
    obtain ⟨t, a1, o, b1, b2, b3⟩ := body p e s m args below meth c s₁ B hml ht hP s₁ hh0 (Stand.of_body B)
    exact ⟨t, o, a1, b1, b2, b3⟩
/-- the table of a body with handlers -/
theorem vx_table {p : Program} {x y : MethodName} {S : Spec} {cc bytes : ByteArray} {maxL maxL' : Nat} {ret ret' : Option FieldType} {e : Env} {s s₁ : State} {m : MethodId} {args : Array Value} {below : List Frame} {meth : Method} {c : Code} {hh : List (Nat × Nat × Nat × Nat)}
    (B : BodyLoose p l y S cc maxL ret e s m args below meth c s₁) (h : (Cond.codeWith y bytes maxL' ret' hh).before args s = true) : c.exceptionTable.toList = tableOf hh := by
  obtain ⟨m9, meth9, c9, hn9, h1, h2, -, -, h6, -⟩ := Cond.codeWith_spec h
  cases Option.some.inj (hn9.symm.trans B.named)
  cases Option.some.inj (h1.symm.trans B.method)
  cases Option.some.inj (h2.symm.trans (Stand.of_body B).code)
  rw [← h6, table_eq]
end Bodies
end VXA
/-! ===== END ===== -/
/-! ===== BEGIN a static call of a method with an exception table ===== -/
section VXS
variable {p : Program} {l : Launch} {e : Env} {R : Room} {s : State} {m : MethodId} {args : Array Value} {below : List Frame} {meth : Method} {c : Code} {T : State} {H : Heap} {locs : List Loc} {cells slots : Nat}
abbrev vx_CSW (R : Room) (s : State) (args : Array Value) (own : String) (index : Nat) (y : MethodName) (bytes : ByteArray) (maxL : Nat) (ret : Option FieldType) (hh : List (Nat × Nat × Nat × Nat)) (ws : List Cond) (rm : Room) (mc ms n : Nat) : Prop :=
  (rm.cells = mc ∧ rm.slots = ms ∧ rm.frames + 1 ≤ R.frames ∧ 8 + (maxL + 11) + rm.locals ≤ R.locals ∧ (∀ w ∈ ws, ∀ (a' : Array Value) (U : State), s.WarmedH U.vm → w.before a' U = true) ∧ Cond.codeWith y bytes maxL ret hh ∈ ws) ∧
  (Cond.codeWith y bytes maxL ret hh).before args s = true ∧ (Cond.initialized y.cls).before args s = true ∧ (y.cls ≠ "java/lang/invoke/MethodHandle" ∧ y.cls ≠ "java/lang/invoke/VarHandle") ∧
  (∀ sig, parseMethodDescriptor y.desc = some sig → n = sig.parameters.length) ∧ (Cond.methodLink own index y).before args s = true ∧ (Cond.static y).before args s = true
theorem vx_cwSW {own : String} {index maxL mc ms : Nat} {y : MethodName} {bytes : ByteArray} {ret : Option FieldType} {hh : List (Nat × Nat × Nat × Nat)} {Ts ws ws' : List Cond} {rm : Room} (n : Nat) (ht : ∀ w ∈ Ts, w.before args s = true) (hT : GoodIn Ts (va_wsS own index y ws)) (hw : ws = Cond.codeWith y bytes maxL ret hh :: ws') (hrc : rm.cells = mc) (hrs : rm.slots = ms)
    (hd : y.cls ≠ "java/lang/invoke/MethodHandle" ∧ y.cls ≠ "java/lang/invoke/VarHandle" ∧ (parseMethodDescriptor y.desc).map (fun d => d.parameters.length) = some n) (hR : rm.frames + 1 ≤ R.frames ∧ 8 + (maxL + 11) + rm.locals ≤ R.locals) :
    vx_CSW R s args own index y bytes maxL ret hh ws rm mc ms n := by
  have ok : ∀ w ∈ va_wsS own index y ws, w.before args s = true := fun w h => ht w (hT w h).1
  have hG : GoodIn Ts ws := fun w h => hT w (by unfold va_wsS; exact List.mem_append_right _ h)
  have hc : Cond.codeWith y bytes maxL ret hh ∈ ws := by rw [hw]; exact List.mem_cons_self
  refine ⟨⟨hrc, hrs, hR.1, hR.2, pay_in ht hG, hc⟩, ht _ (hG _ hc).1, ok _ (by simp [va_wsS]), ⟨hd.1, hd.2.1⟩, fun sig h => ?_, ok _ (by simp [va_wsS]), ok _ (by simp [va_wsS])⟩
  have h2 := hd.2.2
  rw [h] at h2
  exact (Option.some.inj h2).symm
theorem vx_callSW (X : Stand p l e R s m args below meth c T locs cells slots) (hexec : p.tables.exec = Jvm.exec) {own : String} {index : Nat} {y : MethodName} {bytes : ByteArray} {maxL : Nat} {ret : Option FieldType} {hh : List (Nat × Nat × Nat × Nat)}
    (hown : s.vm.findClass own = some m.cls) (hlink : (Cond.methodLink own index y).before args s = true) (hstat : (Cond.static y).before args s = true) (hinit : (Cond.initialized y.cls).before args s = true)
    (hcode : (Cond.codeWith y bytes maxL ret hh).before args s = true) (hy : y.cls ≠ "java/lang/invoke/MethodHandle" ∧ y.cls ≠ "java/lang/invoke/VarHandle")
    {W9 : Nat} {Pre : Pt → Array Value → Prop} {Post : Pt → Array Value → Option Value → Pt → Prop} (hK : Back l R p e below s args y 3 W9 Pre Post)
    {g : JFrame} (hg : g.method = m) (hsize : g.locals.size = c.maxLocals) {argsL rest : List Value} (hlen : ∀ sig, parseMethodDescriptor y.desc = some sig → argsL.length = sig.parameters.length)
    (hstack : g.stack = argsL.reverse ++ rest) (hW : 2 * g.monitorRoom + (rest.map fun v => v.category).sum ≤ W9) (hdg : decode c.code g.pc = .ok (.invokestatic index, 3))
    (hpre : ∀ vm₁, s.WarmedH vm₁ → Pre ⟨T.setVm vm₁, locs, cells, slots⟩ argsL.toArray) :
    ∃ (v : Option Value) (vm₁ : Vm) (B : Pt), s.WarmedH vm₁ ∧ Stand p l e R s m args below meth c B.U B.locs B.cells B.slots ∧ Post ⟨T.setVm vm₁, locs, cells, slots⟩ argsL.toArray v B ∧
      ∀ target, Steps p.tables e below (B.U.setTop { g with pc := g.pc + 3, stack := v.toList ++ rest }) target → Steps p.tables e below (T.setTop g) target := by
  obtain ⟨mk, methM, cM, hnamed, hmethM, -, -, -, -, -, -, hsigM⟩ := Cond.codeWith_spec hcode
  have hstatic : methM.isStatic = true := Cond.static_spec hnamed hmethM hstat
  obtain ⟨kP, hkP, -⟩ := className_of_methodNamed hnamed
  have hinitP : kP.init = .initialized := Cond.initialized_spec (findClass_of_methodNamed hnamed) hkP hinit
  obtain ⟨vm₁, X₁, hstep₁⟩ := X.invokestatic hexec hown hlink hnamed hmethM hstatic hkP hinitP hy (g := g) hg (argsL := argsL) (rest := rest) (hlen _ hsigM) hstack hdg
  obtain ⟨v, B, X', hpost, hsteps⟩ := hK m meth c ⟨T.setVm vm₁, locs, cells, slots⟩ { g with stack := rest } (.invokestatic index) mk argsL.toArray X₁ hg hsize hdg hW (X₁.named hnamed) (hpre vm₁ X₁.warmed)
  exact ⟨v, vm₁, B, X₁.warmed, X', hpost, fun target h => hstep₁ _ fun acts => by rw [doInvoke_state]; exact hsteps.trans h⟩
theorem vx_runSW {y : MethodName} {bytes cc : ByteArray} {maxL nL mc ms n index : Nat} {ret : Option FieldType} {hh : List (Nat × Nat × Nat × Nat)} {ws : List Cond} {rm : Room} {Pc : Array Value → State → Prop} {Qc : Array Value → State → Outcome → State → Prop} {free : Addr → Prop} {Ts : List Cond} {own : String} {As rest : List Value} {g : JFrame}
    (S : CallFix p m c cc nL s args Ts own) (hM : Met l y ws rm Pc Qc mc ms free) (cw : vx_CSW R s args own index y bytes maxL ret hh ws rm mc ms n) (hp : PreS s H Pc As)
    (hg : g.method = m) (hn : As.length = n) (hsize : g.locals.size = nL) (hstack : g.stack = As.reverse ++ rest) (hW : 2 * g.monitorRoom + (rest.map fun v => v.category).sum ≤ 8) (hdg : decode cc g.pc = .ok (.invokestatic index, 3)) (hf : cells + mc ≤ R.cells ∧ slots + ms ≤ R.slots) :
    va_Run p l e R s m args below meth c H locs cells slots mc ms g rest (Qc As.toArray) (free) := by
  obtain ⟨⟨hrc, hrs, hfr, hlo, hws, hcw⟩, hcode, hini, hy, hlen, hl, hstt⟩ := cw
  have hK : Back l R p e below s args y 3 8 (PreOf R mc ms Pc) (PostOf Qc mc ms free) := va_backW (hh := hh) (bytes := bytes) (maxL := maxL) (ret := ret) hM hp.1 hrc hrs hfr hlo hws hcw (fun a' U hW => word_at hW (Or.inl (by first | rfl | simp [Cond.onTables, Cond.keeps, Cond.steady])) hini)
  obtain ⟨hx, hb, hml, ho, -⟩ := S
  intro T hT X
  obtain ⟨v, vm₁, ⟨U', l2, c2, s2⟩, hW₁, X', ⟨g', mk, t, L, e1, e2, hq, h1, hL, h2, h3⟩, st⟩ := vx_callSW X hx (hh := hh) (bytes := bytes) (maxL := maxL) (ret := ret) ho hl hstt hini hcode hy hK hg (hsize.trans hml.symm) (argsL := As) (rest := rest) (fun sig h => hn.trans (hlen sig h)) hstack hW (by rw [hb]; exact hdg)
    (fun vm₁ hW₁ => ⟨hf.1, hf.2, hp.2 (T.setVm vm₁) hT hW₁⟩)
  dsimp only [Pt.U, Pt.locs, Pt.cells, Pt.slots] at X' e1 e2 h1 h2 h3 st
  subst h1; subst h2; subst h3
  exact ⟨v, (T.setVm vm₁).calling g' mk As.toArray, t, U', L, hT, X', hL, e1, e2, hq, st⟩
/-- not caught here, past rows that name other classes: it goes on to the caller -/
theorem vx_outP {p : Program} {l : Launch} {e : Env} {R : Room} {s : State} {m : MethodId} {args : Array Value} {below : List Frame} {meth : Method} {c : Code} {H : Heap} {locs : List Loc} {cells slots : Nat} {free : Addr → Prop} {ls : Array Slot} {rest : List Value} {Qc : Array Value → State → Outcome → State → Prop} {XC : String → State → State → Prop}
    {pc : Nat} {own E : String} {ce : Cell} {q : Addr} {mc ms : Nat} (hown : s.vm.findClass own = some m.cls) (hlocks : meth.locks = false)
    (hpass : ∀ z ∈ c.exceptionTable.toList, covers z pc = false ∨ (z.catchType ≠ 0 ∧ ∃ nm : String, (Cond.classLink own z.catchType nm).before args s = true ∧ va_Nc E nm s)) (hcell : H[q]? = some ce) (hv : ce.vm = .none) (hcl : s.vm.findClass E = some ce.cls)
    (hx : ∀ t : State, t.heap = H → s.vm.Alike t.vm → XC E s t) (hf : ∀ z ∈ locs, free z.base) (hc : cells ≤ mc) (hs : slots ≤ ms) :
    vx_W p l e R s m args below meth c H locs cells slots (vx_MQ below Qc XC args s mc ms free) (F0 m pc ls rest) q := by
  intro T hT X
  have hpl : e.platform.magicAccessors = ({} : Platform).magicAccessors := by rw [X.admits.platform]
  obtain ⟨vm', hW', X', st⟩ := X.outThrough hlocks q (g := F0 m pc ls rest) rfl rfl rfl (cell := ce) (by rw [hT]; exact hcell) (by rw [hv]; rfl)
    (by obtain ⟨k9, h9, -⟩ := Vm.findClass_spec hcl; exact ⟨k9, h9⟩) (fun z hz => by
      rcases hpass z hz with h | ⟨hz0, nm, hl1, hn1⟩
      · exact Or.inl h
      · obtain ⟨c6, hc6, hcl6⟩ := Cond.classLink_spec hown hl1 e.platform hpl
        obtain ⟨a8, b8, h1, h2, h3⟩ := hn1
        cases Option.some.inj (h1.symm.trans hcl)
        cases Option.some.inj (h2.symm.trans hc6)
        exact Or.inr ⟨hz0, _, hcl6, h3⟩)
  obtain ⟨g₀, hfr⟩ := X'.frames_eq
  have hcell9 : ((T.setVm vm').setFrames (.throwing q :: below)).heap[q]? = some ce := by
    show T.heap[q]? = some ce
    rw [hT]; exact hcell
  have hend : Ended ((T.setVm vm').setFrames (.throwing q :: below)) below (.threw q) := State.frames_setFrames _ (State.cur_lt_of_frames hfr)
  refine ⟨(T.setVm vm').setFrames (.throwing q :: below), ?_, .threw q, X'.here.running, hend, Or.inr ⟨q, rfl, E, ce, locs, hx _ hT (X'.ends _).1.alike, hcell9, hv, hcl, (X'.ends _).1, (X'.ends _).2.mono hc hs, hf⟩⟩
  rw [X.pushThrowing_eq]
  exact st
/-- a thing of a world lies in the heap -/
theorem vx_lt {D : va_G} {cl : List vw_C} {ws : va_W} {H1 : Heap} (h : va_P D cl ws H1) {k : Nat} {q : Nat × va_E} (hk : ws[k]? = some q) : q.1 < H1.size := (h k q hk).lt
end VXS
/-! ===== END ===== -/
/-! ===== BEGIN methods with a table of their own: called by a name, returning or throwing ===== -/
section VXH
/-! vx_backW, vx_callVX, vx_callSX, vx_callVW, vx_runVW, vx_runVX, vx_runSX, vx_ofWH follow the same proofs as their sisters above (Free/Laws.lean, Shelf42/LK1.lean); vx_outP calls Shelf42/NT130.lean (outThrough). -/
section
variable {l : Launch} {R : Room} {p : Program} {e : Env} {below : List Frame} {s : State} {sargs : Array Value} {y : MethodName} {len W9 : Nat}
theorem vx_backW {ws : List Cond} {rm : Room} {Pc : Array Value → State → Prop} {Qc : Array Value → State → Outcome → State → Prop} {XC : String → State → State → Prop} {mc ms : Nat} {free : Addr → Prop} {bytes : ByteArray} {maxL : Nat} {ret : Option FieldType} {hh : List (Nat × Nat × Nat × Nat)}
    (hM : vx_Met l y ws rm Pc Qc XC mc ms free) (hblind : FrameBlind Pc) (hrc : rm.cells = mc) (hrs : rm.slots = ms)
    (hframes : rm.frames + 1 ≤ R.frames) (hlocals : W9 + (maxL + 11) + rm.locals ≤ R.locals)
    (hws : ∀ w ∈ ws, ∀ a' U, s.WarmedH U.vm → w.before a' U = true) (hcode : Cond.codeWith y bytes maxL ret hh ∈ ws) (hinit : ∀ a' U, s.WarmedH U.vm → (Cond.initialized y.cls).before a' U = true) :
    vx_Back l R p e below s sargs y len W9 (PreOf R mc ms Pc) (PostOf Qc mc ms free) (vx_Post XC mc ms free) := by
  intro m meth c A g ig mk a X hg hsize hdg hW hn hp
  have h1 : (headSpec ws rm).pre.before a A.U = true := atoms_intro fun w hw => hws w hw _ _ X.warmed
  have h2 : (Cond.codeWith y bytes maxL ret hh).before a A.U = true := hws _ hcode _ _ X.warmed
  have h3 : (Cond.initialized y.cls).before a A.U = true := hinit _ _ X.warmed
  have h4 : A.cells + (headSpec ws rm).room.cells ≤ R.cells := by rw [show (headSpec ws rm).room.cells = mc from hrc]; exact hp.1
  have h5 : A.slots + (headSpec ws rm).room.slots ≤ R.slots := by rw [show (headSpec ws rm).room.slots = ms from hrs]; exact hp.2.1
  have hPc : Pc a (A.U.calling g mk a) := hblind _ _ _ _ hp.2.2
  obtain ⟨U, Ls, c0, s0⟩ := A
  dsimp only [Pt.U, Pt.locs, Pt.cells, Pt.slots] at h1 h2 h3 h4 h5 X hn hPc ⊢
  obtain ⟨m9, methY, cY, hn9, hmY, hcY, -, hlY, -⟩ := Cond.codeWith_spec h2
  cases Option.some.inj (hn9.symm.trans hn)
  obtain ⟨kY, hkY, -⟩ := className_of_methodNamed hn
  have hinitY : kY.init = .initialized := Cond.initialized_spec (findClass_of_methodNamed hn) hkY h3
  have h : At U g.method c below := by rw [hg]; exact X.here
  have hlocals9 : W9 + (maxL + 11) + (headSpec ws rm).room.locals ≤ R.locals := hlocals
  have happ : (headSpec ws rm).appliesLoose y e.platform (U.calling g mk a) = true :=
    Spec.appliesLoose_calling (g := g) h hdg hn hkY hinitY
      (X.room_calling (g := g) (R' := (headSpec ws rm).room) hsize hmY hcY hframes (by rw [hlY]; omega) h4 h5) h1
  obtain ⟨mid, hmid⟩ := h.above
  have hfr : (U.setTop g).frames = (.java g :: mid) ++ below := by rw [State.frames_setTop' g h.top, hmid]; rfl
  obtain ⟨o, s₂, hsteps, -, hend, hq⟩ := Steps.callFree hM p X.admits X.cas X.clock (acts := []) hfr happ hPc trivial
  have hq' : vx_Q Qc XC mc ms free a (U.calling g mk a) o s₂ := hq
  rw [State.frames_setTop' g h.top] at hend
  obtain ⟨g₀, hg0⟩ := Option.isSome_iff_exists.mp h.top
  obtain ⟨r, hr⟩ := State.topJava?_eq_some.mp hg0
  have hr' : (({ U with heap := s₂.heap, slotsUsed := s₂.slotsUsed } : State).setVm s₂.vm).frames = .java g₀ :: r := hr
  rcases hq' with ⟨hqc, L, hfe, hL⟩ | ⟨q, rfl, E, ce, L, hx, hce, hcv, hcl, hW₂, hsm, hL⟩
  · obtain ⟨⟨v, rfl⟩, hW₂, e2, q2, q3, q4, q5, q6⟩ := id hfe
    have e3 : s₂ = ({ (U.calling g mk a).setFrames s₂.frames with heap := s₂.heap, slotsUsed := s₂.slotsUsed } : State).setVm s₂.vm := by
      have : s₂ = ({ s₂ with vm := (U.calling g mk a).vm } : State).setVm s₂.vm := rfl
      rw [e2] at this
      exact this
    obtain ⟨c₂, i₂, len₂, hc₂, hd₂, hf₂⟩ := hend
    have hW' : U.WarmedH s₂.vm := hW₂
    have hcc : c₂ = c := by
      have h1 : s₂.code? g.method = U.code? g.method := by
        rw [State.code?_eq, State.code?_eq, hW'.alike.method?]
      exact Option.some.inj (hc₂.symm.trans (h1.trans h.code))
    subst hcc
    have hlen : len₂ = len := by rw [hdg] at hd₂; cases hd₂; rfl
    subst hlen
    have hs₂ : s₂ = (({ U with heap := s₂.heap, slotsUsed := s₂.slotsUsed } : State).setVm s₂.vm).setTop { g with pc := g.pc + len₂, stack := v.toList ++ g.stack } := by
      refine e3.trans ?_
      rw [hf₂, State.calling_eq h.top, State.setFrames_setFrames, State.setTop_of_frames _ hr', hr]
      rfl
    have hsame : U.sameButNew ({ U with heap := s₂.heap, slotsUsed := s₂.slotsUsed } : State) L mc ms := by
      refine ⟨?_, q2, q3, q4, q5, q6⟩
      obtain ⟨t, ht, -⟩ := State.frames_cons hr
      show ({ U with heap := s₂.heap, slotsUsed := s₂.slotsUsed } : State) = { U.setFrames U.frames with heap := s₂.heap, slotsUsed := s₂.slotsUsed }
      rw [State.setFrames_self ht]
    subst hg
    refine Or.inl ⟨v, ⟨(({ U with heap := s₂.heap, slotsUsed := s₂.slotsUsed } : State).setVm s₂.vm), Ls ++ L, c0 + mc, s0 + ms⟩,
      ⟨X.admits, X.cas, X.clock, X.frames, X.room, X.hears, X.method, X.code, (X.here.setHeapUsed s₂.heap s₂.slotsUsed).setVm hW'.alike, X.tail, State.WarmedH.trans X.warmed hW', X.limits, X.bytes, X.same.trans (hsame.setVm s.vm)⟩,
      ⟨g, mk, s₂, L, rfl, rfl, hqc, rfl, hL, rfl, rfl⟩, ?_⟩
    show Steps p.tables e below _ ((({ U with heap := s₂.heap, slotsUsed := s₂.slotsUsed } : State).setVm s₂.vm).setTop { g with pc := g.pc + len₂, stack := v.toList ++ g.stack })
    rw [← hs₂]
    exact hsteps
  · obtain ⟨e2, q2, q3, q4, q5, q6⟩ := id hsm
    have e3 : s₂ = ({ (U.calling g mk a).setFrames s₂.frames with heap := s₂.heap, slotsUsed := s₂.slotsUsed } : State).setVm s₂.vm := by
      have : s₂ = ({ s₂ with vm := (U.calling g mk a).vm } : State).setVm s₂.vm := rfl
      rw [e2] at this
      exact this
    have hf₂ : s₂.frames = .throwing q :: .java g :: U.frames.tail := hend
    have hW' : U.WarmedH s₂.vm := hW₂
    have hs₂ : s₂ = ((({ U with heap := s₂.heap, slotsUsed := s₂.slotsUsed } : State).setVm s₂.vm).setTop g).pushFrame (.throwing q) := by
      refine e3.trans ?_
      rw [hf₂, State.calling_eq h.top, State.setFrames_setFrames, State.pushFrame, State.frames_setTop _ hr', State.setTop_of_frames _ hr', State.setFrames_setFrames, hr]
      rfl
    have hsame : U.sameButNew ({ U with heap := s₂.heap, slotsUsed := s₂.slotsUsed } : State) L mc ms := by
      refine ⟨?_, q2, q3, q4, q5, q6⟩
      obtain ⟨t, ht, -⟩ := State.frames_cons hr
      show ({ U with heap := s₂.heap, slotsUsed := s₂.slotsUsed } : State) = { U.setFrames U.frames with heap := s₂.heap, slotsUsed := s₂.slotsUsed }
      rw [State.setFrames_self ht]
    subst hg
    refine Or.inr ⟨q, ⟨(({ U with heap := s₂.heap, slotsUsed := s₂.slotsUsed } : State).setVm s₂.vm), Ls ++ L, c0 + mc, s0 + ms⟩,
      ⟨X.admits, X.cas, X.clock, X.frames, X.room, X.hears, X.method, X.code, (X.here.setHeapUsed s₂.heap s₂.slotsUsed).setVm hW'.alike, X.tail, State.WarmedH.trans X.warmed hW', X.limits, X.bytes, X.same.trans (hsame.setVm s.vm)⟩,
      ⟨g, mk, s₂, L, E, ce, rfl, rfl, hx, hce, hcv, hcl, rfl, hL, rfl, rfl⟩, ?_⟩
    show Steps p.tables e below _ (((({ U with heap := s₂.heap, slotsUsed := s₂.slotsUsed } : State).setVm s₂.vm).setTop g).pushFrame (.throwing q))
    rw [← hs₂]
    exact hsteps
end
variable {p : Program} {l : Launch} {e : Env} {R : Room} {s : State} {m : MethodId} {args : Array Value} {below : List Frame} {meth : Method} {c : Code} {T : State} {H : Heap} {locs : List Loc} {cells slots : Nat}
theorem vx_callVX (X : Stand p l e R s m args below meth c T locs cells slots) (hexec : p.tables.exec = Jvm.exec) {own C : String} {index : Nat} {y : MethodName} {bytes : ByteArray} {maxL : Nat} {ret : Option FieldType} {hh : List (Nat × Nat × Nat × Nat)}
    (hown : s.vm.findClass own = some m.cls) (hlink : (Cond.methodLink own index y).before args s = true) (hinst : (Cond.instanceMethod y).before args s = true) (hsel : (Cond.selects C y y).before args s = true)
    (hcode : (Cond.codeWith y bytes maxL ret hh).before args s = true) (hy : y.cls ≠ "java/lang/invoke/MethodHandle" ∧ y.cls ≠ "java/lang/invoke/VarHandle")
    {W9 : Nat} {Pre : Pt → Array Value → Prop} {Post : Pt → Array Value → Option Value → Pt → Prop} {PostX : Pt → Array Value → Addr → Pt → Prop} (hK : vx_Back l R p e below s args y 3 W9 Pre Post PostX)
    {b : Addr} {cellB : Cell} (hcell : T.heap[b]? = some cellB) (hobj : cellB.vm.isStatics = false) (hcls : s.vm.findClass C = some cellB.cls)
    {g : JFrame} (hg : g.method = m) (hsize : g.locals.size = c.maxLocals) {argsL rest : List Value} (hlen : ∀ sig, parseMethodDescriptor y.desc = some sig → argsL.length = sig.parameters.length)
    (hstack : g.stack = argsL.reverse ++ .ref b :: rest) (hW : 2 * g.monitorRoom + (rest.map fun v => v.category).sum ≤ W9) (hdg : decode c.code g.pc = .ok (.invokevirtual index, 3))
    (hpre : ∀ vm₁, s.WarmedH vm₁ → Pre ⟨T.setVm vm₁, locs, cells, slots⟩ (Value.ref b :: argsL).toArray) :
    (∃ (v : Option Value) (vm₁ : Vm) (B : Pt), s.WarmedH vm₁ ∧ Stand p l e R s m args below meth c B.U B.locs B.cells B.slots ∧ Post ⟨T.setVm vm₁, locs, cells, slots⟩ (Value.ref b :: argsL).toArray v B ∧
      ∀ target, Steps p.tables e below (B.U.setTop { g with pc := g.pc + 3, stack := v.toList ++ rest }) target → Steps p.tables e below (T.setTop g) target) ∨
    (∃ (q : Addr) (vm₁ : Vm) (B : Pt), s.WarmedH vm₁ ∧ Stand p l e R s m args below meth c B.U B.locs B.cells B.slots ∧ PostX ⟨T.setVm vm₁, locs, cells, slots⟩ (Value.ref b :: argsL).toArray q B ∧
      Steps p.tables e below (T.setTop g) ((B.U.setTop { g with stack := rest }).pushFrame (.throwing q))) := by
  obtain ⟨mk, methM, hnamed, hmethM, hstM, habM⟩ := Cond.instanceMethod_spec hinst
  obtain ⟨m8, methM', cM, hn8, hmethM', -, -, -, -, -, -, hsigM⟩ := Cond.codeWith_spec hcode
  cases Option.some.inj (hn8.symm.trans hnamed)
  cases hmethM.symm.trans hmethM'
  obtain ⟨c2, r2, m2, q1, q2, q3, q4, kP, hkP, hkPi⟩ := Cond.selects_spec hsel
  cases hcls.symm.trans q1
  cases (State.methodFound?_of_named hnamed hy).symm.trans q2
  cases hnamed.symm.trans q3
  have hselP : selectMethod e.platform s.vm cellB.cls mk = .method mk := by rw [Launch.admits_selectMethod X.admits]; exact q4
  obtain ⟨vm₁, X₁, hstep₁⟩ := X.invokevirtual hexec hown hlink hnamed hmethM hstM hkP hkPi hy (a := b) (cell := cellB) hcell
    (fun z h => by rw [h] at hobj; cases hobj) hselP hmethM habM hkP hkPi (g := g) hg (argsL := argsL) (rest := rest) (hlen _ hsigM) hstack hdg
  rcases hK m meth c ⟨T.setVm vm₁, locs, cells, slots⟩ { g with stack := rest } (.invokevirtual index) mk (Value.ref b :: argsL).toArray X₁ hg hsize hdg hW (X₁.named hnamed) (hpre vm₁ X₁.warmed) with ⟨v, B, X', hpost, hsteps⟩ | ⟨q, B, X', hpost, hsteps⟩
  · exact Or.inl ⟨v, vm₁, B, X₁.warmed, X', hpost, fun target h => hstep₁ _ fun acts => by rw [doInvoke_state]; exact hsteps.trans h⟩
  · exact Or.inr ⟨q, vm₁, B, X₁.warmed, X', hpost, hstep₁ _ fun acts => by rw [doInvoke_state]; exact hsteps⟩
theorem vx_callSX (X : Stand p l e R s m args below meth c T locs cells slots) (hexec : p.tables.exec = Jvm.exec) {own : String} {index : Nat} {y : MethodName} {bytes : ByteArray} {maxL : Nat} {ret : Option FieldType} {hh : List (Nat × Nat × Nat × Nat)}
    (hown : s.vm.findClass own = some m.cls) (hlink : (Cond.methodLink own index y).before args s = true) (hstat : (Cond.static y).before args s = true) (hinit : (Cond.initialized y.cls).before args s = true)
    (hcode : (Cond.codeWith y bytes maxL ret hh).before args s = true) (hy : y.cls ≠ "java/lang/invoke/MethodHandle" ∧ y.cls ≠ "java/lang/invoke/VarHandle")
    {W9 : Nat} {Pre : Pt → Array Value → Prop} {Post : Pt → Array Value → Option Value → Pt → Prop} {PostX : Pt → Array Value → Addr → Pt → Prop} (hK : vx_Back l R p e below s args y 3 W9 Pre Post PostX)
    {g : JFrame} (hg : g.method = m) (hsize : g.locals.size = c.maxLocals) {argsL rest : List Value} (hlen : ∀ sig, parseMethodDescriptor y.desc = some sig → argsL.length = sig.parameters.length)
    (hstack : g.stack = argsL.reverse ++ rest) (hW : 2 * g.monitorRoom + (rest.map fun v => v.category).sum ≤ W9) (hdg : decode c.code g.pc = .ok (.invokestatic index, 3))
    (hpre : ∀ vm₁, s.WarmedH vm₁ → Pre ⟨T.setVm vm₁, locs, cells, slots⟩ argsL.toArray) :
    (∃ (v : Option Value) (vm₁ : Vm) (B : Pt), s.WarmedH vm₁ ∧ Stand p l e R s m args below meth c B.U B.locs B.cells B.slots ∧ Post ⟨T.setVm vm₁, locs, cells, slots⟩ argsL.toArray v B ∧
      ∀ target, Steps p.tables e below (B.U.setTop { g with pc := g.pc + 3, stack := v.toList ++ rest }) target → Steps p.tables e below (T.setTop g) target) ∨
    (∃ (q : Addr) (vm₁ : Vm) (B : Pt), s.WarmedH vm₁ ∧ Stand p l e R s m args below meth c B.U B.locs B.cells B.slots ∧ PostX ⟨T.setVm vm₁, locs, cells, slots⟩ argsL.toArray q B ∧
      Steps p.tables e below (T.setTop g) ((B.U.setTop { g with stack := rest }).pushFrame (.throwing q))) := by
  obtain ⟨mk, methM, cM, hnamed, hmethM, -, -, -, -, -, -, hsigM⟩ := Cond.codeWith_spec hcode
  have hstatic : methM.isStatic = true := Cond.static_spec hnamed hmethM hstat
  obtain ⟨kP, hkP, -⟩ := className_of_methodNamed hnamed
  have hinitP : kP.init = .initialized := Cond.initialized_spec (findClass_of_methodNamed hnamed) hkP hinit
  obtain ⟨vm₁, X₁, hstep₁⟩ := X.invokestatic hexec hown hlink hnamed hmethM hstatic hkP hinitP hy (g := g) hg (argsL := argsL) (rest := rest) (hlen _ hsigM) hstack hdg
  rcases hK m meth c ⟨T.setVm vm₁, locs, cells, slots⟩ { g with stack := rest } (.invokestatic index) mk argsL.toArray X₁ hg hsize hdg hW (X₁.named hnamed) (hpre vm₁ X₁.warmed) with ⟨v, B, X', hpost, hsteps⟩ | ⟨q, B, X', hpost, hsteps⟩
  · exact Or.inl ⟨v, vm₁, B, X₁.warmed, X', hpost, fun target h => hstep₁ _ fun acts => by rw [doInvoke_state]; exact hsteps.trans h⟩
  · exact Or.inr ⟨q, vm₁, B, X₁.warmed, X', hpost, hstep₁ _ fun acts => by rw [doInvoke_state]; exact hsteps⟩
theorem vx_callVW (X : Stand p l e R s m args below meth c T locs cells slots) (hexec : p.tables.exec = Jvm.exec) {own C : String} {index : Nat} {y : MethodName} {bytes : ByteArray} {maxL : Nat} {ret : Option FieldType} {hh : List (Nat × Nat × Nat × Nat)}
    (hown : s.vm.findClass own = some m.cls) (hlink : (Cond.methodLink own index y).before args s = true) (hinst : (Cond.instanceMethod y).before args s = true) (hsel : (Cond.selects C y y).before args s = true)
    (hcode : (Cond.codeWith y bytes maxL ret hh).before args s = true) (hy : y.cls ≠ "java/lang/invoke/MethodHandle" ∧ y.cls ≠ "java/lang/invoke/VarHandle")
    {W9 : Nat} {Pre : Pt → Array Value → Prop} {Post : Pt → Array Value → Option Value → Pt → Prop} (hK : Back l R p e below s args y 3 W9 Pre Post)
    {b : Addr} {cellB : Cell} (hcell : T.heap[b]? = some cellB) (hobj : cellB.vm.isStatics = false) (hcls : s.vm.findClass C = some cellB.cls)
    {g : JFrame} (hg : g.method = m) (hsize : g.locals.size = c.maxLocals) {argsL rest : List Value} (hlen : ∀ sig, parseMethodDescriptor y.desc = some sig → argsL.length = sig.parameters.length)
    (hstack : g.stack = argsL.reverse ++ .ref b :: rest) (hW : 2 * g.monitorRoom + (rest.map fun v => v.category).sum ≤ W9) (hdg : decode c.code g.pc = .ok (.invokevirtual index, 3))
    (hpre : ∀ vm₁, s.WarmedH vm₁ → Pre ⟨T.setVm vm₁, locs, cells, slots⟩ (Value.ref b :: argsL).toArray) :
    ∃ (v : Option Value) (vm₁ : Vm) (B : Pt), s.WarmedH vm₁ ∧ Stand p l e R s m args below meth c B.U B.locs B.cells B.slots ∧ Post ⟨T.setVm vm₁, locs, cells, slots⟩ (Value.ref b :: argsL).toArray v B ∧
      ∀ target, Steps p.tables e below (B.U.setTop { g with pc := g.pc + 3, stack := v.toList ++ rest }) target → Steps p.tables e below (T.setTop g) target := by
  obtain ⟨mk, methM, hnamed, hmethM, hstM, habM⟩ := Cond.instanceMethod_spec hinst
  obtain ⟨m8, methM', cM, hn8, hmethM', -, -, -, -, -, -, hsigM⟩ := Cond.codeWith_spec hcode
  cases Option.some.inj (hn8.symm.trans hnamed)
  cases hmethM.symm.trans hmethM'
  obtain ⟨c2, r2, m2, q1, q2, q3, q4, kP, hkP, hkPi⟩ := Cond.selects_spec hsel
  cases hcls.symm.trans q1
  cases (State.methodFound?_of_named hnamed hy).symm.trans q2
  cases hnamed.symm.trans q3
  have hselP : selectMethod e.platform s.vm cellB.cls mk = .method mk := by rw [Launch.admits_selectMethod X.admits]; exact q4
  obtain ⟨vm₁, X₁, hstep₁⟩ := X.invokevirtual hexec hown hlink hnamed hmethM hstM hkP hkPi hy (a := b) (cell := cellB) hcell
    (fun z h => by rw [h] at hobj; cases hobj) hselP hmethM habM hkP hkPi (g := g) hg (argsL := argsL) (rest := rest) (hlen _ hsigM) hstack hdg
  obtain ⟨v, B, X', hpost, hsteps⟩ := hK m meth c ⟨T.setVm vm₁, locs, cells, slots⟩ { g with stack := rest } (.invokevirtual index) mk (Value.ref b :: argsL).toArray X₁ hg hsize hdg hW (X₁.named hnamed) (hpre vm₁ X₁.warmed)
  exact ⟨v, vm₁, B, X₁.warmed, X', hpost, fun target h => hstep₁ _ fun acts => by rw [doInvoke_state]; exact hsteps.trans h⟩
abbrev vx_CVW (R : Room) (s : State) (args : Array Value) (own C : String) (index : Nat) (y : MethodName) (bytes : ByteArray) (maxL : Nat) (ret : Option FieldType) (hh : List (Nat × Nat × Nat × Nat)) (ws : List Cond) (rm : Room) (mc ms n : Nat) : Prop :=
  (rm.cells = mc ∧ rm.slots = ms ∧ rm.frames + 1 ≤ R.frames ∧ 8 + (maxL + 11) + rm.locals ≤ R.locals ∧ (∀ w ∈ ws, ∀ (a' : Array Value) (U : State), s.WarmedH U.vm → w.before a' U = true) ∧ Cond.codeWith y bytes maxL ret hh ∈ ws) ∧
  (Cond.codeWith y bytes maxL ret hh).before args s = true ∧ (Cond.initialized y.cls).before args s = true ∧ (y.cls ≠ "java/lang/invoke/MethodHandle" ∧ y.cls ≠ "java/lang/invoke/VarHandle") ∧
  (∀ sig, parseMethodDescriptor y.desc = some sig → n = sig.parameters.length) ∧ (Cond.methodLink own index y).before args s = true ∧ (Cond.instanceMethod y).before args s = true ∧ (Cond.selects C y y).before args s = true
theorem vx_cwVW {own C : String} {index maxL mc ms : Nat} {y : MethodName} {bytes : ByteArray} {ret : Option FieldType} {hh : List (Nat × Nat × Nat × Nat)} {Ts ws ws' : List Cond} {rm : Room} (n : Nat) (ht : ∀ w ∈ Ts, w.before args s = true) (hT : GoodIn Ts (wsV own index C y ws)) (hw : ws = Cond.codeWith y bytes maxL ret hh :: ws') (hrc : rm.cells = mc) (hrs : rm.slots = ms)
    (hd : y.cls = C ∧ y.cls ≠ "java/lang/invoke/MethodHandle" ∧ y.cls ≠ "java/lang/invoke/VarHandle" ∧ (parseMethodDescriptor y.desc).map (fun d => d.parameters.length) = some n) (hR : rm.frames + 1 ≤ R.frames ∧ 8 + (maxL + 11) + rm.locals ≤ R.locals) :
    vx_CVW R s args own C index y bytes maxL ret hh ws rm mc ms n := by
  obtain ⟨hC, hd⟩ := hd
  subst hC
  have ok : ∀ w ∈ wsV own index y.cls y ws, w.before args s = true := fun w h => ht w (hT w h).1
  have hG : GoodIn Ts ws := fun w h => hT w (by unfold wsV; exact List.mem_append_right _ h)
  have hc : Cond.codeWith y bytes maxL ret hh ∈ ws := by rw [hw]; exact List.mem_cons_self
  refine ⟨⟨hrc, hrs, hR.1, hR.2, pay_in ht hG, hc⟩, ht _ (hG _ hc).1, ok _ (by simp [wsV]), ⟨hd.1, hd.2.1⟩, fun sig h => ?_, ok _ (by simp [wsV]), ok _ (by simp [wsV]), ok _ (by simp [wsV])⟩
  have h2 := hd.2.2
  rw [h] at h2
  exact (Option.some.inj h2).symm
theorem vx_runVW {y : MethodName} {bytes cc : ByteArray} {maxL nL mc ms n index : Nat} {ret : Option FieldType} {hh : List (Nat × Nat × Nat × Nat)} {ws : List Cond} {rm : Room} {Pc : Array Value → State → Prop} {Qc : Array Value → State → Outcome → State → Prop} {free : Addr → Prop} {Ts : List Cond} {own C : String} {b : Addr} {As rest : List Value} {g : JFrame}
    (S : CallFix p m c cc nL s args Ts own) (hM : Met l y ws rm Pc Qc mc ms free) (cw : vx_CVW R s args own C index y bytes maxL ret hh ws rm mc ms n) (hp : PreV s H C b Pc As)
    (hg : g.method = m) (hn : As.length = n) (hsize : g.locals.size = nL) (hstack : g.stack = As.reverse ++ .ref b :: rest) (hW : 2 * g.monitorRoom + (rest.map fun v => v.category).sum ≤ 8) (hdg : decode cc g.pc = .ok (.invokevirtual index, 3)) (hf : cells + mc ≤ R.cells ∧ slots + ms ≤ R.slots) :
    va_Run p l e R s m args below meth c H locs cells slots mc ms g rest (Qc (Value.ref b :: As).toArray) free := by
  obtain ⟨⟨hrc, hrs, hfr, hlo, hws, hcw⟩, hcode, hini, hy, hlen, hl, hin, hse⟩ := cw
  have hK : Back l R p e below s args y 3 8 (PreOf R mc ms Pc) (PostOf Qc mc ms free) := va_backW (hh := hh) (bytes := bytes) (maxL := maxL) (ret := ret) hM hp.1 hrc hrs hfr hlo hws hcw (fun a' U hW => word_at hW (Or.inl (by first | rfl | simp [Cond.onTables, Cond.keeps, Cond.steady])) hini)
  obtain ⟨hx, hb, hml, ho, -⟩ := S
  obtain ⟨-, ⟨cellB, hcB, hoB, hclB⟩, hPc⟩ := hp
  intro T hT X
  obtain ⟨v, vm₁, ⟨U', l2, c2, s2⟩, hW₁, X', ⟨g', mk, t, L, e1, e2, hq, h1, hL, h2, h3⟩, st⟩ := vx_callVW X hx (C := C) (hh := hh) (bytes := bytes) (maxL := maxL) (ret := ret) ho hl hin hse hcode hy hK (by rw [hT]; exact hcB) hoB hclB hg (hsize.trans hml.symm) (argsL := As) (rest := rest) (fun sig h => hn.trans (hlen sig h)) hstack hW (by rw [hb]; exact hdg)
    (fun vm₁ hW₁ => ⟨hf.1, hf.2, hPc (T.setVm vm₁) hT hW₁⟩)
  dsimp only [Pt.U, Pt.locs, Pt.cells, Pt.slots] at X' e1 e2 h1 h2 h3 st
  subst h1; subst h2; subst h3
  exact ⟨v, (T.setVm vm₁).calling g' mk (Value.ref b :: As).toArray, t, U', L, hT, X', hL, e1, e2, hq, st⟩
section
variable {y : MethodName} {bytes cc : ByteArray} {maxL nL mc ms n index : Nat} {ret : Option FieldType} {ws : List Cond} {rm : Room} {Pc : Array Value → State → Prop} {Qc : Array Value → State → Outcome → State → Prop} {XC : String → State → State → Prop} {free : Addr → Prop} {Ts : List Cond} {own C : String} {b : Addr} {As rest : List Value} {g : JFrame}
theorem vx_runVX {hh : List (Nat × Nat × Nat × Nat)} (S : CallFix p m c cc nL s args Ts own) (hM : vx_Met l y ws rm Pc Qc XC mc ms free) (cw : vx_CVW R s args own C index y bytes maxL ret hh ws rm mc ms n) (hp : PreV s H C b Pc As)
    (hg : g.method = m) (hn : As.length = n) (hsize : g.locals.size = nL) (hstack : g.stack = As.reverse ++ .ref b :: rest) (hW : 2 * g.monitorRoom + (rest.map fun v => v.category).sum ≤ 8) (hdg : decode cc g.pc = .ok (.invokevirtual index, 3)) (hf : cells + mc ≤ R.cells ∧ slots + ms ≤ R.slots) :
    vx_Run p l e R s m args below meth c H locs cells slots mc ms g rest (Qc (Value.ref b :: As).toArray) XC free := by
  obtain ⟨⟨hrc, hrs, hfr, hlo, hws, hcw⟩, hcode, hini, hy, hlen, hl, hin, hse⟩ := cw
  have hK : vx_Back l R p e below s args y 3 8 (PreOf R mc ms Pc) (PostOf Qc mc ms free) (vx_Post XC mc ms free) := vx_backW (hh := hh) (bytes := bytes) (maxL := maxL) (ret := ret) hM hp.1 hrc hrs hfr hlo hws hcw (fun a' U hW => word_at hW (Or.inl (by first | rfl | simp [Cond.onTables, Cond.keeps, Cond.steady])) hini)
  obtain ⟨hx, hb, hml, ho, -⟩ := S
  obtain ⟨-, ⟨cellB, hcB, hoB, hclB⟩, hPc⟩ := hp
  intro T hT X
  rcases vx_callVX X hx (C := C) (hh := hh) (bytes := bytes) (maxL := maxL) (ret := ret) ho hl hin hse hcode hy hK (by rw [hT]; exact hcB) hoB hclB hg (hsize.trans hml.symm) (argsL := As) (rest := rest) (fun sig h => hn.trans (hlen sig h)) hstack hW (by rw [hb]; exact hdg)
    (fun vm₁ hW₁ => ⟨hf.1, hf.2, hPc (T.setVm vm₁) hT hW₁⟩) with ⟨v, vm₁, ⟨U', l2, c2, s2⟩, hW₁, X', ⟨g', mk, t, L, e1, e2, hq, h1, hL, h2, h3⟩, st⟩ | ⟨q, vm₁, ⟨U', l2, c2, s2⟩, hW₁, X', ⟨g', mk, t, L, E, ce, e1, e2, hq, hce, hcv, hcl, h1, hL, h2, h3⟩, st⟩
  · dsimp only [Pt.U, Pt.locs, Pt.cells, Pt.slots] at X' e1 e2 h1 h2 h3 st
    subst h1; subst h2; subst h3
    exact Or.inl ⟨v, (T.setVm vm₁).calling g' mk (Value.ref b :: As).toArray, t, U', L, hT, X', hL, e1, e2, hq, st⟩
  · dsimp only [Pt.U, Pt.locs, Pt.cells, Pt.slots] at X' e1 e2 h1 h2 h3 st hcl
    subst h1; subst h2; subst h3
    exact Or.inr ⟨q, (T.setVm vm₁).calling g' mk (Value.ref b :: As).toArray, t, U', L, E, ce, hT, X', hL, e1, e2, hq, hce, hcv, vx_cls hW₁ hcl, st⟩
theorem vx_runSX {hh : List (Nat × Nat × Nat × Nat)} (S : CallFix p m c cc nL s args Ts own) (hM : vx_Met l y ws rm Pc Qc XC mc ms free) (cw : vx_CSW R s args own index y bytes maxL ret hh ws rm mc ms n) (hp : PreS s H Pc As)
    (hg : g.method = m) (hn : As.length = n) (hsize : g.locals.size = nL) (hstack : g.stack = As.reverse ++ rest) (hW : 2 * g.monitorRoom + (rest.map fun v => v.category).sum ≤ 8) (hdg : decode cc g.pc = .ok (.invokestatic index, 3)) (hf : cells + mc ≤ R.cells ∧ slots + ms ≤ R.slots) :
    vx_Run p l e R s m args below meth c H locs cells slots mc ms g rest (Qc As.toArray) XC free := by
  obtain ⟨⟨hrc, hrs, hfr, hlo, hws, hcw⟩, hcode, hini, hy, hlen, hl, hstt⟩ := cw
  have hK : vx_Back l R p e below s args y 3 8 (PreOf R mc ms Pc) (PostOf Qc mc ms free) (vx_Post XC mc ms free) := vx_backW (hh := hh) (bytes := bytes) (maxL := maxL) (ret := ret) hM hp.1 hrc hrs hfr hlo hws hcw (fun a' U hW => word_at hW (Or.inl (by first | rfl | simp [Cond.onTables, Cond.keeps, Cond.steady])) hini)
  obtain ⟨hx, hb, hml, ho, -⟩ := S
  intro T hT X
  rcases vx_callSX X hx (hh := hh) (bytes := bytes) (maxL := maxL) (ret := ret) ho hl hstt hini hcode hy hK hg (hsize.trans hml.symm) (argsL := As) (rest := rest) (fun sig h => hn.trans (hlen sig h)) hstack hW (by rw [hb]; exact hdg)
    (fun vm₁ hW₁ => ⟨hf.1, hf.2, hp.2 (T.setVm vm₁) hT hW₁⟩) with ⟨v, vm₁, ⟨U', l2, c2, s2⟩, hW₁, X', ⟨g', mk, t, L, e1, e2, hq, h1, hL, h2, h3⟩, st⟩ | ⟨q, vm₁, ⟨U', l2, c2, s2⟩, hW₁, X', ⟨g', mk, t, L, E, ce, e1, e2, hq, hce, hcv, hcl, h1, hL, h2, h3⟩, st⟩
  · dsimp only [Pt.U, Pt.locs, Pt.cells, Pt.slots] at X' e1 e2 h1 h2 h3 st
    subst h1; subst h2; subst h3
    exact Or.inl ⟨v, (T.setVm vm₁).calling g' mk As.toArray, t, U', L, hT, X', hL, e1, e2, hq, st⟩
  · dsimp only [Pt.U, Pt.locs, Pt.cells, Pt.slots] at X' e1 e2 h1 h2 h3 st hcl
    subst h1; subst h2; subst h3
    exact Or.inr ⟨q, (T.setVm vm₁).calling g' mk As.toArray, t, U', L, E, ce, hT, X', hL, e1, e2, hq, hce, hcv, vx_cls hW₁ hcl, st⟩
end
end VXH
theorem vx_ofWH {l : Launch} {y : MethodName} {ws ws' : List Cond} {rm : Room} {Pc : Array Value → State → Prop} {Qc : Array Value → State → Outcome → State → Prop} {XC : String → State → State → Prop} {mc ms : Nat} {free : Addr → Prop} {cc : ByteArray} {maxL : Nat} {ret : Option FieldType} {hh : List (Nat × Nat × Nat × Nat)}
    (hy : plainName y.cls = true) (hw : ws = Cond.codeWith y cc maxL ret hh :: ws')
    (body : ∀ p e s m args below meth c s₁, BodyLoose p l y (headSpec ws rm) cc maxL ret e s m args below meth c s₁ → c.maxLocals = maxL → Pc args s →
      W p l e (headSpec ws rm).room s m args below meth c s.heap [] 0 0 (vx_MQ below Qc XC args s mc ms free) (entryFrame m args maxL)) : vx_Met l y ws rm Pc Qc XC mc ms free := by
  refine MetFree.of_bodyS (code := cc) (maxLocals := maxL) (ret := ret) hy ?_ ?_
  · intro args s m h hn
    obtain ⟨m9, meth, c, hn9, h1, h2, h3, h4, -, h5, h6, -⟩ := Cond.codeWith_spec (atoms_spec (ws := ws) h _ (by rw [hw]; exact List.mem_cons_self))
    cases hn.symm.trans hn9
    exact ⟨meth, c, h1, h2, h3, h4, h5, h6⟩
  · intro p e s m args below meth c s₁ B hml hP _
    have hh0 : s₁.heap = s.heap := by rw [B.state]; rfl
    obtain ⟨t, a1, o, b1, b2, b3⟩ := body p e s m args below meth c s₁ B hml hP s₁ hh0 (Stand.of_body B)
    exact ⟨t, o, a1, b1, b2, b3⟩
/-! ===== END ===== -/
end
section
def RX0 : String := "ForkWatch$1"
def TX0 : u_T := fun k => match k with
  | _ => ("", "", "", false)
def tyX0 : Nat → FieldType := fun k => match k with
  | _ => .int
theorem nmX0 : ∀ a, a < 0 → ∀ b, b < 0 → a ≠ b → (TX0 a).2.1 ≠ (TX0 b).2.1 := by decide +kernel
theorem tyX0_ok : ∀ k, k < 0 → parseFieldDescriptor (TX0 k).2.2.1 = some (tyX0 k) := by decide +kernel
def RX1 : String := "ForkWatch$Branch"
def TX1 : u_T := fun k => match k with
  | 0 => ("ForkWatch$Branch", "kinds", "[I", true)
  | 1 => ("ForkWatch$Branch", "authors", "[I", true)
  | 2 => ("ForkWatch$Branch", "targets", "[I", true)
  | 3 => ("ForkWatch$Branch", "values", "[I", true)
  | 4 => ("ForkWatch$Branch", "links", "[I", true)
  | 5 => ("ForkWatch$Branch", "hashes", "[I", true)
  | _ => ("ForkWatch$Branch", "size", "I", false)
def tyX1 : Nat → FieldType := fun k => match k with
  | 0 => .array .int
  | 1 => .array .int
  | 2 => .array .int
  | 3 => .array .int
  | 4 => .array .int
  | 5 => .array .int
  | _ => .int
theorem nmX1 : ∀ a, a < 7 → ∀ b, b < 7 → a ≠ b → (TX1 a).2.1 ≠ (TX1 b).2.1 := by decide +kernel
theorem tyX1_ok : ∀ k, k < 7 → parseFieldDescriptor (TX1 k).2.2.1 = some (tyX1 k) := by decide +kernel
abbrev cX1_init : ByteArray := prog_3_method_1_code
def yX1_init : MethodName := ⟨RX1, "<init>", "()V"⟩
abbrev cX1_copyFrom : ByteArray := prog_3_method_2_code
def yX1_copyFrom : MethodName := ⟨RX1, "copyFrom", "(LForkWatch$Branch;)V"⟩
abbrev cX1_isFull : ByteArray := prog_3_method_3_code
def yX1_isFull : MethodName := ⟨RX1, "isFull", "()Z"⟩
abbrev cX1_hasEntry : ByteArray := prog_3_method_4_code
def yX1_hasEntry : MethodName := ⟨RX1, "hasEntry", "(I)Z"⟩
abbrev cX1_lastHash : ByteArray := prog_3_method_5_code
def yX1_lastHash : MethodName := ⟨RX1, "lastHash", "()I"⟩
abbrev cX1_append : ByteArray := prog_3_method_6_code
def yX1_append : MethodName := ⟨RX1, "append", "(IIIII)V"⟩
abbrev cX1_appendMerge : ByteArray := prog_3_method_7_code
def yX1_appendMerge : MethodName := ⟨RX1, "appendMerge", "(I)V"⟩
abbrev cX1_appendOwn : ByteArray := prog_3_method_8_code
def yX1_appendOwn : MethodName := ⟨RX1, "appendOwn", "(LForkWatch$Branch;I)V"⟩
abbrev cX1_computedHash : ByteArray := prog_3_method_9_code
def yX1_computedHash : MethodName := ⟨RX1, "computedHash", "(I)I"⟩
abbrev cX1_firstUnsound : ByteArray := prog_3_method_10_code
def yX1_firstUnsound : MethodName := ⟨RX1, "firstUnsound", "(I)I"⟩
abbrev cX1_lastValue : ByteArray := prog_3_method_11_code
def yX1_lastValue : MethodName := ⟨RX1, "lastValue", "(I)I"⟩
abbrev cX1_partOf : ByteArray := prog_3_method_12_code
def yX1_partOf : MethodName := ⟨RX1, "partOf", "(II)I"⟩
abbrev cX1_sharedWith : ByteArray := prog_3_method_13_code
def yX1_sharedWith : MethodName := ⟨RX1, "sharedWith", "(LForkWatch$Branch;)I"⟩
abbrev cX1_blocksOf : ByteArray := prog_3_method_14_code
def yX1_blocksOf : MethodName := ⟨RX1, "blocksOf", "(II)I"⟩
abbrev cX1_conflictsWith : ByteArray := prog_3_method_15_code
def yX1_conflictsWith : MethodName := ⟨RX1, "conflictsWith", "(LForkWatch$Branch;)I"⟩
def RX2 : String := "ForkWatch$Client"
def TX2 : u_T := fun k => match k with
  | 0 => ("ForkWatch$Client", "hashes", "[I", true)
  | 1 => ("ForkWatch$Client", "counts", "[I", true)
  | 2 => ("ForkWatch$Client", "position", "I", false)
  | 3 => ("ForkWatch$Client", "seen", "I", false)
  | 4 => ("ForkWatch$Client", "operations", "I", false)
  | _ => ("ForkWatch$Client", "suspicious", "Z", false)
def tyX2 : Nat → FieldType := fun k => match k with
  | 0 => .array .int
  | 1 => .array .int
  | 2 => .int
  | 3 => .int
  | 4 => .int
  | _ => .boolean
theorem nmX2 : ∀ a, a < 6 → ∀ b, b < 6 → a ≠ b → (TX2 a).2.1 ≠ (TX2 b).2.1 := by decide +kernel
theorem tyX2_ok : ∀ k, k < 6 → parseFieldDescriptor (TX2 k).2.2.1 = some (tyX2 k) := by decide +kernel
abbrev cX2_init : ByteArray := prog_4_method_1_code
def yX2_init : MethodName := ⟨RX2, "<init>", "()V"⟩
abbrev cX2_begin : ByteArray := prog_4_method_2_code
def yX2_begin : MethodName := ⟨RX2, "begin", "()V"⟩
abbrev cX2_lastHash : ByteArray := prog_4_method_3_code
def yX2_lastHash : MethodName := ⟨RX2, "lastHash", "()I"⟩
abbrev cX2_takeHistory : ByteArray := prog_4_method_4_code
def yX2_takeHistory : MethodName := ⟨RX2, "takeHistory", "(LForkWatch$Branch;)V"⟩
abbrev cX2_fits : ByteArray := prog_4_method_5_code
def yX2_fits : MethodName := ⟨RX2, "fits", "(LForkWatch$Branch;)Z"⟩
abbrev cX2_isForkedFrom : ByteArray := prog_4_method_6_code
def yX2_isForkedFrom : MethodName := ⟨RX2, "isForkedFrom", "(LForkWatch$Client;)Z"⟩
abbrev cX2_firstDifferenceTo : ByteArray := prog_4_method_7_code
def yX2_firstDifferenceTo : MethodName := ⟨RX2, "firstDifferenceTo", "(LForkWatch$Client;)I"⟩
abbrev cX2_orderTo : ByteArray := prog_4_method_8_code
def yX2_orderTo : MethodName := ⟨RX2, "orderTo", "(LForkWatch$Client;)I"⟩
def RX3 : String := "ForkWatch$Kind"
def TX3 : u_T := fun k => match k with
  | _ => ("", "", "", false)
def tyX3 : Nat → FieldType := fun k => match k with
  | _ => .int
theorem nmX3 : ∀ a, a < 0 → ∀ b, b < 0 → a ≠ b → (TX3 a).2.1 ≠ (TX3 b).2.1 := by decide +kernel
theorem tyX3_ok : ∀ k, k < 0 → parseFieldDescriptor (TX3 k).2.2.1 = some (tyX3 k) := by decide +kernel
def RX4 : String := "ForkWatch$Ledger"
def TX4 : u_T := fun k => match k with
  | 0 => ("ForkWatch$Ledger", "limit", "I", true)
  | 1 => ("ForkWatch$Ledger", "width", "I", true)
  | 2 => ("ForkWatch$Ledger", "cells", "[I", true)
  | _ => ("ForkWatch$Ledger", "rows", "I", false)
def tyX4 : Nat → FieldType := fun k => match k with
  | 0 => .int
  | 1 => .int
  | 2 => .array .int
  | _ => .int
theorem nmX4 : ∀ a, a < 4 → ∀ b, b < 4 → a ≠ b → (TX4 a).2.1 ≠ (TX4 b).2.1 := by decide +kernel
theorem tyX4_ok : ∀ k, k < 4 → parseFieldDescriptor (TX4 k).2.2.1 = some (tyX4 k) := by decide +kernel
abbrev cX4_init : ByteArray := prog_6_method_1_code
def yX4_init : MethodName := ⟨RX4, "<init>", "(II)V"⟩
abbrev cX4_hasRow : ByteArray := prog_6_method_2_code
def yX4_hasRow : MethodName := ⟨RX4, "hasRow", "(I)Z"⟩
abbrev cX4_addRow : ByteArray := prog_6_method_3_code
def yX4_addRow : MethodName := ⟨RX4, "addRow", "()I"⟩
abbrev cX4_partOf : ByteArray := prog_6_method_4_code
def yX4_partOf : MethodName := ⟨RX4, "partOf", "(II)I"⟩
abbrev cX4_setPart : ByteArray := prog_6_method_5_code
def yX4_setPart : MethodName := ⟨RX4, "setPart", "(III)V"⟩
def RX5 : String := "ForkWatch$Parser"
def TX5 : u_T := fun k => match k with
  | 0 => ("ForkWatch$Parser", "tokens", "LForkWatch$Tokens;", true)
  | 1 => ("ForkWatch$Parser", "steps", "[LForkWatch$Step;", true)
  | 2 => ("ForkWatch$Parser", "current", "I", false)
  | 3 => ("ForkWatch$Parser", "stepCount", "I", false)
  | 4 => ("ForkWatch$Parser", "clientCount", "I", false)
  | 5 => ("ForkWatch$Parser", "blockCount", "I", false)
  | 6 => ("ForkWatch$Parser", "interval", "I", false)
  | 7 => ("ForkWatch$Parser", "failCode", "I", false)
  | _ => ("ForkWatch$Parser", "failPosition", "I", false)
def tyX5 : Nat → FieldType := fun k => match k with
  | 0 => .object "ForkWatch$Tokens"
  | 1 => .array (.object "ForkWatch$Step")
  | 2 => .int
  | 3 => .int
  | 4 => .int
  | 5 => .int
  | 6 => .int
  | 7 => .int
  | _ => .int
theorem nmX5 : ∀ a, a < 9 → ∀ b, b < 9 → a ≠ b → (TX5 a).2.1 ≠ (TX5 b).2.1 := by decide +kernel
theorem tyX5_ok : ∀ k, k < 9 → parseFieldDescriptor (TX5 k).2.2.1 = some (tyX5 k) := by decide +kernel
abbrev cX5_init : ByteArray := prog_7_method_1_code
def yX5_init : MethodName := ⟨RX5, "<init>", "()V"⟩
abbrev cX5_begin : ByteArray := prog_7_method_2_code
def yX5_begin : MethodName := ⟨RX5, "begin", "(I)V"⟩
abbrev cX5_hasFailed : ByteArray := prog_7_method_3_code
def yX5_hasFailed : MethodName := ⟨RX5, "hasFailed", "()Z"⟩
abbrev cX5_fail : ByteArray := prog_7_method_4_code
def yX5_fail : MethodName := ⟨RX5, "fail", "(I)V"⟩
abbrev cX5_parseService : ByteArray := prog_7_method_5_code
def yX5_parseService : MethodName := ⟨RX5, "parseService", "(I)V"⟩
abbrev cX5_parseScript : ByteArray := prog_7_method_6_code
def yX5_parseScript : MethodName := ⟨RX5, "parseScript", "(III)V"⟩
abbrev cX5_checkFirstToken : ByteArray := prog_7_method_7_code
def yX5_checkFirstToken : MethodName := ⟨RX5, "checkFirstToken", "()V"⟩
abbrev cX5_parseStep : ByteArray := prog_7_method_8_code
def yX5_parseStep : MethodName := ⟨RX5, "parseStep", "(LForkWatch$Step;)V"⟩
abbrev cX5_takeOperands : ByteArray := prog_7_method_9_code
def yX5_takeOperands : MethodName := ⟨RX5, "takeOperands", "(LForkWatch$Step;I)V"⟩
abbrev cX5_greatest : ByteArray := prog_7_method_10_code
def yX5_greatest : MethodName := ⟨RX5, "greatest", "(C)I"⟩
abbrev cX5_takeRestOfSet : ByteArray := prog_7_method_11_code
def yX5_takeRestOfSet : MethodName := ⟨RX5, "takeRestOfSet", "(I)I"⟩
abbrev cX5_takeNumber : ByteArray := prog_7_method_12_code
def yX5_takeNumber : MethodName := ⟨RX5, "takeNumber", "(II)I"⟩
abbrev cX5_checkNumber : ByteArray := prog_7_method_13_code
def yX5_checkNumber : MethodName := ⟨RX5, "checkNumber", "(II)V"⟩
abbrev cX5_takeKind : ByteArray := prog_7_method_14_code
def yX5_takeKind : MethodName := ⟨RX5, "takeKind", "(LForkWatch$Kind;)V"⟩
abbrev cX5_takeToken : ByteArray := prog_7_method_15_code
def yX5_takeToken : MethodName := ⟨RX5, "takeToken", "()V"⟩
abbrev cX5_kindHere : ByteArray := prog_7_method_16_code
def yX5_kindHere : MethodName := ⟨RX5, "kindHere", "()LForkWatch$Kind;"⟩
def RX6 : String := "ForkWatch$Service"
def TX6 : u_T := fun k => match k with
  | 0 => ("ForkWatch$Service", "branches", "[LForkWatch$Branch;", true)
  | 1 => ("ForkWatch$Service", "clients", "[LForkWatch$Client;", true)
  | 2 => ("ForkWatch$Service", "blames", "LForkWatch$Ledger;", true)
  | 3 => ("ForkWatch$Service", "board", "LForkWatch$Ledger;", true)
  | 4 => ("ForkWatch$Service", "clientCount", "I", false)
  | 5 => ("ForkWatch$Service", "blockCount", "I", false)
  | 6 => ("ForkWatch$Service", "branchCount", "I", false)
  | 7 => ("ForkWatch$Service", "interval", "I", false)
  | _ => ("ForkWatch$Service", "lastSeal", "I", false)
def tyX6 : Nat → FieldType := fun k => match k with
  | 0 => .array (.object "ForkWatch$Branch")
  | 1 => .array (.object "ForkWatch$Client")
  | 2 => .object "ForkWatch$Ledger"
  | 3 => .object "ForkWatch$Ledger"
  | 4 => .int
  | 5 => .int
  | 6 => .int
  | 7 => .int
  | _ => .int
theorem nmX6 : ∀ a, a < 9 → ∀ b, b < 9 → a ≠ b → (TX6 a).2.1 ≠ (TX6 b).2.1 := by decide +kernel
theorem tyX6_ok : ∀ k, k < 9 → parseFieldDescriptor (TX6 k).2.2.1 = some (tyX6 k) := by decide +kernel
abbrev cX6_init : ByteArray := prog_8_method_1_code
def yX6_init : MethodName := ⟨RX6, "<init>", "()V"⟩
abbrev cX6_begin : ByteArray := prog_8_method_2_code
def yX6_begin : MethodName := ⟨RX6, "begin", "(III)V"⟩
abbrev cX6_hasClient : ByteArray := prog_8_method_3_code
def yX6_hasClient : MethodName := ⟨RX6, "hasClient", "(I)Z"⟩
abbrev cX6_hasBlock : ByteArray := prog_8_method_4_code
def yX6_hasBlock : MethodName := ⟨RX6, "hasBlock", "(I)Z"⟩
abbrev cX6_hasBranch : ByteArray := prog_8_method_5_code
def yX6_hasBranch : MethodName := ⟨RX6, "hasBranch", "(I)Z"⟩
abbrev cX6_doWrite : ByteArray := prog_8_method_6_code
def yX6_doWrite : MethodName := ⟨RX6, "doWrite", "(III)I"⟩
abbrev cX6_doRead : ByteArray := prog_8_method_7_code
def yX6_doRead : MethodName := ⟨RX6, "doRead", "(II)I"⟩
abbrev cX6_operate : ByteArray := prog_8_method_8_code
def yX6_operate : MethodName := ⟨RX6, "operate", "(IIII)Z"⟩
abbrev cX6_caseFor : ByteArray := prog_8_method_9_code
def yX6_caseFor : MethodName := ⟨RX6, "caseFor", "(I)I"⟩
abbrev cX6_firstRefutedBy : ByteArray := prog_8_method_10_code
def yX6_firstRefutedBy : MethodName := ⟨RX6, "firstRefutedBy", "(LForkWatch$Branch;)I"⟩
abbrev cX6_blameService : ByteArray := prog_8_method_11_code
def yX6_blameService : MethodName := ⟨RX6, "blameService", "(II)V"⟩
abbrev cX6_addBlame : ByteArray := prog_8_method_12_code
def yX6_addBlame : MethodName := ⟨RX6, "addBlame", "(IIIIII)V"⟩
abbrev cX6_addPost : ByteArray := prog_8_method_13_code
def yX6_addPost : MethodName := ⟨RX6, "addPost", "(I)V"⟩
abbrev cX6_doExchange : ByteArray := prog_8_method_14_code
def yX6_doExchange : MethodName := ⟨RX6, "doExchange", "(II)I"⟩
abbrev cX6_doPost : ByteArray := prog_8_method_15_code
def yX6_doPost : MethodName := ⟨RX6, "doPost", "(I)I"⟩
abbrev cX6_doFork : ByteArray := prog_8_method_16_code
def yX6_doFork : MethodName := ⟨RX6, "doFork", "(I)I"⟩
abbrev cX6_branchSeenBy : ByteArray := prog_8_method_17_code
def yX6_branchSeenBy : MethodName := ⟨RX6, "branchSeenBy", "(I)I"⟩
abbrev cX6_doMove : ByteArray := prog_8_method_18_code
def yX6_doMove : MethodName := ⟨RX6, "doMove", "(II)I"⟩
abbrev cX6_doRewind : ByteArray := prog_8_method_19_code
def yX6_doRewind : MethodName := ⟨RX6, "doRewind", "(II)I"⟩
abbrev cX6_doCorrupt : ByteArray := prog_8_method_20_code
def yX6_doCorrupt : MethodName := ⟨RX6, "doCorrupt", "(III)I"⟩
abbrev cX6_doHeal : ByteArray := prog_8_method_21_code
def yX6_doHeal : MethodName := ⟨RX6, "doHeal", "(II)I"⟩
abbrev cX6_bringOver : ByteArray := prog_8_method_22_code
def yX6_bringOver : MethodName := ⟨RX6, "bringOver", "(LForkWatch$Client;ZII)V"⟩
def RX7 : String := "ForkWatch$Step"
def TX7 : u_T := fun k => match k with
  | 0 => ("ForkWatch$Step", "numbers", "[I", true)
  | _ => ("ForkWatch$Step", "kind", "LForkWatch$Kind;", false)
def tyX7 : Nat → FieldType := fun k => match k with
  | 0 => .array .int
  | _ => .object "ForkWatch$Kind"
theorem nmX7 : ∀ a, a < 2 → ∀ b, b < 2 → a ≠ b → (TX7 a).2.1 ≠ (TX7 b).2.1 := by decide +kernel
theorem tyX7_ok : ∀ k, k < 2 → parseFieldDescriptor (TX7 k).2.2.1 = some (tyX7 k) := by decide +kernel
abbrev cX7_init : ByteArray := prog_9_method_1_code
def yX7_init : MethodName := ⟨RX7, "<init>", "()V"⟩
def RX8 : String := "ForkWatch$Tokens"
def TX8 : u_T := fun k => match k with
  | 0 => ("ForkWatch$Tokens", "text", "[B", true)
  | 1 => ("ForkWatch$Tokens", "kinds", "[LForkWatch$Kind;", true)
  | 2 => ("ForkWatch$Tokens", "starts", "[I", true)
  | 3 => ("ForkWatch$Tokens", "numbers", "[I", true)
  | _ => ("ForkWatch$Tokens", "count", "I", false)
def tyX8 : Nat → FieldType := fun k => match k with
  | 0 => .array .byte
  | 1 => .array (.object "ForkWatch$Kind")
  | 2 => .array .int
  | 3 => .array .int
  | _ => .int
theorem nmX8 : ∀ a, a < 5 → ∀ b, b < 5 → a ≠ b → (TX8 a).2.1 ≠ (TX8 b).2.1 := by decide +kernel
theorem tyX8_ok : ∀ k, k < 5 → parseFieldDescriptor (TX8 k).2.2.1 = some (tyX8 k) := by decide +kernel
abbrev cX8_init : ByteArray := prog_10_method_1_code
def yX8_init : MethodName := ⟨RX8, "<init>", "()V"⟩
abbrev cX8_scan : ByteArray := prog_10_method_2_code
def yX8_scan : MethodName := ⟨RX8, "scan", "(I)V"⟩
abbrev cX8_endOfRun : ByteArray := prog_10_method_3_code
def yX8_endOfRun : MethodName := ⟨RX8, "endOfRun", "(II)I"⟩
abbrev cX8_kindOf : ByteArray := prog_10_method_4_code
def yX8_kindOf : MethodName := ⟨RX8, "kindOf", "(II)LForkWatch$Kind;"⟩
abbrev cX8_isSpelled : ByteArray := prog_10_method_5_code
def yX8_isSpelled : MethodName := ⟨RX8, "isSpelled", "(Ljava/lang/String;II)Z"⟩
abbrev cX8_addToken : ByteArray := prog_10_method_6_code
def yX8_addToken : MethodName := ⟨RX8, "addToken", "(LForkWatch$Kind;II)V"⟩
abbrev cX8_numberAt : ByteArray := prog_10_method_7_code
def yX8_numberAt : MethodName := ⟨RX8, "numberAt", "(II)I"⟩
abbrev cX8_isBlank : ByteArray := prog_10_method_8_code
def yX8_isBlank : MethodName := ⟨RX8, "isBlank", "(B)Z"⟩
abbrev cX8_isLetter : ByteArray := prog_10_method_9_code
def yX8_isLetter : MethodName := ⟨RX8, "isLetter", "(B)Z"⟩
abbrev cX8_isDigit : ByteArray := prog_10_method_10_code
def yX8_isDigit : MethodName := ⟨RX8, "isDigit", "(B)Z"⟩
def RX9 : String := "ForkWatch"
def TX9 : u_T := fun k => match k with
  | 0 => ("ForkWatch", "parser", "LForkWatch$Parser;", true)
  | 1 => ("ForkWatch", "service", "LForkWatch$Service;", true)
  | 2 => ("ForkWatch", "fed", "I", false)
  | _ => ("ForkWatch", "refusedSteps", "I", false)
def tyX9 : Nat → FieldType := fun k => match k with
  | 0 => .object "ForkWatch$Parser"
  | 1 => .object "ForkWatch$Service"
  | 2 => .int
  | _ => .int
theorem nmX9 : ∀ a, a < 4 → ∀ b, b < 4 → a ≠ b → (TX9 a).2.1 ≠ (TX9 b).2.1 := by decide +kernel
theorem tyX9_ok : ∀ k, k < 4 → parseFieldDescriptor (TX9 k).2.2.1 = some (tyX9 k) := by decide +kernel
abbrev cX9_init : ByteArray := prog_1_method_1_code
def yX9_init : MethodName := ⟨RX9, "<init>", "()V"⟩
abbrev cX9_feed : ByteArray := prog_1_method_2_code
def yX9_feed : MethodName := ⟨RX9, "feed", "(IIIII)I"⟩
abbrev cX9_putBytes : ByteArray := prog_1_method_3_code
def yX9_putBytes : MethodName := ⟨RX9, "putBytes", "(I)V"⟩
abbrev cX9_load : ByteArray := prog_1_method_4_code
def yX9_load : MethodName := ⟨RX9, "load", "(I)I"⟩
abbrev cX9_run : ByteArray := prog_1_method_5_code
def yX9_run : MethodName := ⟨RX9, "run", "(I)I"⟩
abbrev cX9_takeBuffer : ByteArray := prog_1_method_6_code
def yX9_takeBuffer : MethodName := ⟨RX9, "takeBuffer", "(I)V"⟩
abbrev cX9_doStep : ByteArray := prog_1_method_7_code
def yX9_doStep : MethodName := ⟨RX9, "doStep", "(LForkWatch$Step;)I"⟩
abbrev cX9_errorCode : ByteArray := prog_1_method_8_code
def yX9_errorCode : MethodName := ⟨RX9, "errorCode", "()I"⟩
abbrev cX9_errorPosition : ByteArray := prog_1_method_9_code
def yX9_errorPosition : MethodName := ⟨RX9, "errorPosition", "()I"⟩
abbrev cX9_refused : ByteArray := prog_1_method_10_code
def yX9_refused : MethodName := ⟨RX9, "refused", "()I"⟩
abbrev cX9_write : ByteArray := prog_1_method_11_code
def yX9_write : MethodName := ⟨RX9, "write", "(III)I"⟩
abbrev cX9_read : ByteArray := prog_1_method_12_code
def yX9_read : MethodName := ⟨RX9, "read", "(II)I"⟩
abbrev cX9_exchange : ByteArray := prog_1_method_13_code
def yX9_exchange : MethodName := ⟨RX9, "exchange", "(II)I"⟩
abbrev cX9_post : ByteArray := prog_1_method_14_code
def yX9_post : MethodName := ⟨RX9, "post", "(I)I"⟩
abbrev cX9_calm : ByteArray := prog_1_method_15_code
def yX9_calm : MethodName := ⟨RX9, "calm", "(I)Z"⟩
abbrev cX9_adopt : ByteArray := prog_1_method_16_code
def yX9_adopt : MethodName := ⟨RX9, "adopt", "(I)I"⟩
abbrev cX9_fork : ByteArray := prog_1_method_17_code
def yX9_fork : MethodName := ⟨RX9, "fork", "(I)I"⟩
abbrev cX9_move : ByteArray := prog_1_method_18_code
def yX9_move : MethodName := ⟨RX9, "move", "(II)I"⟩
abbrev cX9_rewind : ByteArray := prog_1_method_19_code
def yX9_rewind : MethodName := ⟨RX9, "rewind", "(II)I"⟩
abbrev cX9_corrupt : ByteArray := prog_1_method_20_code
def yX9_corrupt : MethodName := ⟨RX9, "corrupt", "(III)I"⟩
abbrev cX9_heal : ByteArray := prog_1_method_21_code
def yX9_heal : MethodName := ⟨RX9, "heal", "(II)I"⟩
abbrev cX9_clients : ByteArray := prog_1_method_22_code
def yX9_clients : MethodName := ⟨RX9, "clients", "()I"⟩
abbrev cX9_blocks : ByteArray := prog_1_method_23_code
def yX9_blocks : MethodName := ⟨RX9, "blocks", "()I"⟩
abbrev cX9_branches : ByteArray := prog_1_method_24_code
def yX9_branches : MethodName := ⟨RX9, "branches", "()I"⟩
abbrev cX9_length : ByteArray := prog_1_method_25_code
def yX9_length : MethodName := ⟨RX9, "length", "(I)I"⟩
abbrev cX9_entry : ByteArray := prog_1_method_26_code
def yX9_entry : MethodName := ⟨RX9, "entry", "(III)I"⟩
abbrev cX9_value : ByteArray := prog_1_method_27_code
def yX9_value : MethodName := ⟨RX9, "value", "(II)I"⟩
abbrev cX9_branchOf : ByteArray := prog_1_method_28_code
def yX9_branchOf : MethodName := ⟨RX9, "branchOf", "(I)I"⟩
abbrev cX9_commonLength : ByteArray := prog_1_method_29_code
def yX9_commonLength : MethodName := ⟨RX9, "commonLength", "(II)I"⟩
abbrev cX9_conflicts : ByteArray := prog_1_method_30_code
def yX9_conflicts : MethodName := ⟨RX9, "conflicts", "(II)I"⟩
abbrev cX9_receipt : ByteArray := prog_1_method_31_code
def yX9_receipt : MethodName := ⟨RX9, "receipt", "(II)I"⟩
abbrev cX9_isSigned : ByteArray := prog_1_method_32_code
def yX9_isSigned : MethodName := ⟨RX9, "isSigned", "(IIII)Z"⟩
abbrev cX9_hashAt : ByteArray := prog_1_method_33_code
def yX9_hashAt : MethodName := ⟨RX9, "hashAt", "(II)I"⟩
abbrev cX9_vector : ByteArray := prog_1_method_34_code
def yX9_vector : MethodName := ⟨RX9, "vector", "(II)I"⟩
abbrev cX9_order : ByteArray := prog_1_method_35_code
def yX9_order : MethodName := ⟨RX9, "order", "(II)I"⟩
abbrev cX9_isSuspicious : ByteArray := prog_1_method_36_code
def yX9_isSuspicious : MethodName := ⟨RX9, "isSuspicious", "(I)Z"⟩
abbrev cX9_wouldFind : ByteArray := prog_1_method_37_code
def yX9_wouldFind : MethodName := ⟨RX9, "wouldFind", "(I)I"⟩
abbrev cX9_forkedPairs : ByteArray := prog_1_method_38_code
def yX9_forkedPairs : MethodName := ⟨RX9, "forkedPairs", "()I"⟩
abbrev cX9_seenBy : ByteArray := prog_1_method_39_code
def yX9_seenBy : MethodName := ⟨RX9, "seenBy", "(I)I"⟩
abbrev cX9_blames : ByteArray := prog_1_method_40_code
def yX9_blames : MethodName := ⟨RX9, "blames", "()I"⟩
abbrev cX9_blame : ByteArray := prog_1_method_41_code
def yX9_blame : MethodName := ⟨RX9, "blame", "(II)I"⟩
abbrev cX9_posts : ByteArray := prog_1_method_42_code
def yX9_posts : MethodName := ⟨RX9, "posts", "()I"⟩
abbrev cX9_boardPost : ByteArray := prog_1_method_43_code
def yX9_boardPost : MethodName := ⟨RX9, "boardPost", "(II)I"⟩
abbrev cX9_checkPost : ByteArray := prog_1_method_44_code
def yX9_checkPost : MethodName := ⟨RX9, "checkPost", "(II)I"⟩
abbrev cX9_requireClient : ByteArray := prog_1_method_45_code
def yX9_requireClient : MethodName := ⟨RX9, "requireClient", "(I)V"⟩
abbrev cX9_requireBranch : ByteArray := prog_1_method_46_code
def yX9_requireBranch : MethodName := ⟨RX9, "requireBranch", "(I)V"⟩
abbrev cX9_requirePost : ByteArray := prog_1_method_47_code
def yX9_requirePost : MethodName := ⟨RX9, "requirePost", "(I)V"⟩
abbrev cX9_requirePart : ByteArray := prog_1_method_48_code
def yX9_requirePart : MethodName := ⟨RX9, "requirePart", "(II)V"⟩
abbrev cX9_answerOf : ByteArray := prog_1_method_49_code
def yX9_answerOf : MethodName := ⟨RX9, "answerOf", "(I)I"⟩
abbrev cX9_signatureOf : ByteArray := prog_1_method_50_code
def yX9_signatureOf : MethodName := ⟨RX9, "signatureOf", "(III)I"⟩
abbrev cX9_firstDifference : ByteArray := prog_1_method_51_code
def yX9_firstDifference : MethodName := ⟨RX9, "firstDifference", "([I[II)I"⟩
def RX10 : String := "ForkWatchModel"
def TX10 : u_T := fun k => match k with
  | 0 => ("ForkWatchModel", "thrown", "I", false)
  | 1 => ("ForkWatchModel", "clients", "I", false)
  | 2 => ("ForkWatchModel", "blocks", "I", false)
  | 3 => ("ForkWatchModel", "interval", "I", false)
  | 4 => ("ForkWatchModel", "branches", "I", false)
  | 5 => ("ForkWatchModel", "refused", "I", false)
  | 6 => ("ForkWatchModel", "lengths", "[I", true)
  | 7 => ("ForkWatchModel", "kind", "[I", true)
  | 8 => ("ForkWatchModel", "author", "[I", true)
  | 9 => ("ForkWatchModel", "block", "[I", true)
  | 10 => ("ForkWatchModel", "value", "[I", true)
  | 11 => ("ForkWatchModel", "link", "[I", true)
  | 12 => ("ForkWatchModel", "hash", "[I", true)
  | 13 => ("ForkWatchModel", "sees", "[I", true)
  | 14 => ("ForkWatchModel", "position", "[I", true)
  | 15 => ("ForkWatchModel", "done", "[I", true)
  | 16 => ("ForkWatchModel", "vector", "[I", true)
  | 17 => ("ForkWatchModel", "history", "[I", true)
  | 18 => ("ForkWatchModel", "suspicious", "[Z", true)
  | 19 => ("ForkWatchModel", "post", "[I", true)
  | 20 => ("ForkWatchModel", "blame", "[I", true)
  | 21 => ("ForkWatchModel", "posts", "I", false)
  | 22 => ("ForkWatchModel", "blames", "I", false)
  | 23 => ("ForkWatchModel", "lastSeal", "I", false)
  | 24 => ("ForkWatchModel", "foundAt", "I", false)
  | 25 => ("ForkWatchModel", "buffer", "[I", true)
  | 26 => ("ForkWatchModel", "buffered", "I", false)
  | 27 => ("ForkWatchModel", "textAt", "I", false)
  | 28 => ("ForkWatchModel", "end", "I", false)
  | 29 => ("ForkWatchModel", "lastEnd", "I", false)
  | 30 => ("ForkWatchModel", "tokenAt", "I", false)
  | 31 => ("ForkWatchModel", "number", "I", false)
  | 32 => ("ForkWatchModel", "code", "I", false)
  | 33 => ("ForkWatchModel", "codeAt", "I", false)
  | 34 => ("ForkWatchModel", "word", "J", false)
  | 35 => ("ForkWatchModel", "newClients", "I", false)
  | 36 => ("ForkWatchModel", "newBlocks", "I", false)
  | 37 => ("ForkWatchModel", "newInterval", "I", false)
  | 38 => ("ForkWatchModel", "step", "[I", true)
  | _ => ("ForkWatchModel", "steps", "I", false)
def tyX10 : Nat → FieldType := fun k => match k with
  | 0 => .int
  | 1 => .int
  | 2 => .int
  | 3 => .int
  | 4 => .int
  | 5 => .int
  | 6 => .array .int
  | 7 => .array .int
  | 8 => .array .int
  | 9 => .array .int
  | 10 => .array .int
  | 11 => .array .int
  | 12 => .array .int
  | 13 => .array .int
  | 14 => .array .int
  | 15 => .array .int
  | 16 => .array .int
  | 17 => .array .int
  | 18 => .array .boolean
  | 19 => .array .int
  | 20 => .array .int
  | 21 => .int
  | 22 => .int
  | 23 => .int
  | 24 => .int
  | 25 => .array .int
  | 26 => .int
  | 27 => .int
  | 28 => .int
  | 29 => .int
  | 30 => .int
  | 31 => .int
  | 32 => .int
  | 33 => .int
  | 34 => .long
  | 35 => .int
  | 36 => .int
  | 37 => .int
  | 38 => .array .int
  | _ => .int
theorem nmX10 : ∀ a, a < 40 → ∀ b, b < 40 → a ≠ b → (TX10 a).2.1 ≠ (TX10 b).2.1 := by decide +kernel
theorem tyX10_ok : ∀ k, k < 40 → parseFieldDescriptor (TX10 k).2.2.1 = some (tyX10 k) := by decide +kernel
abbrev cX10_init : ByteArray := prog_12_method_1_code
def yX10_init : MethodName := ⟨RX10, "<init>", "()V"⟩
abbrev cX10_thrown : ByteArray := prog_12_method_2_code
def yX10_thrown : MethodName := ⟨RX10, "thrown", "()I"⟩
abbrev cX10_refuse : ByteArray := prog_12_method_3_code
def yX10_refuse : MethodName := ⟨RX10, "refuse", "(I)I"⟩
abbrev cX10_told : ByteArray := prog_12_method_4_code
def yX10_told : MethodName := ⟨RX10, "told", "(I)I"⟩
abbrev cX10_in : ByteArray := prog_12_method_5_code
def yX10_in : MethodName := ⟨RX10, "in", "(III)Z"⟩
abbrev cX10_has : ByteArray := prog_12_method_6_code
def yX10_has : MethodName := ⟨RX10, "has", "(II)Z"⟩
abbrev cX10_isClient : ByteArray := prog_12_method_7_code
def yX10_isClient : MethodName := ⟨RX10, "isClient", "(I)Z"⟩
abbrev cX10_isBlock : ByteArray := prog_12_method_8_code
def yX10_isBlock : MethodName := ⟨RX10, "isBlock", "(I)Z"⟩
abbrev cX10_isBranch : ByteArray := prog_12_method_9_code
def yX10_isBranch : MethodName := ⟨RX10, "isBranch", "(I)Z"⟩
abbrev cX10_isEntry : ByteArray := prog_12_method_10_code
def yX10_isEntry : MethodName := ⟨RX10, "isEntry", "(II)Z"⟩
abbrev cX10_at : ByteArray := prog_12_method_11_code
def yX10_at : MethodName := ⟨RX10, "at", "(II)I"⟩
abbrev cX10_hashOf : ByteArray := prog_12_method_12_code
def yX10_hashOf : MethodName := ⟨RX10, "hashOf", "(II)I"⟩
abbrev cX10_hashIn : ByteArray := prog_12_method_13_code
def yX10_hashIn : MethodName := ⟨RX10, "hashIn", "(II)I"⟩
abbrev cX10_ownHash : ByteArray := prog_12_method_14_code
def yX10_ownHash : MethodName := ⟨RX10, "ownHash", "(I)I"⟩
abbrev cX10_rest : ByteArray := prog_12_method_15_code
def yX10_rest : MethodName := ⟨RX10, "rest", "(J)I"⟩
abbrev cX10_computed : ByteArray := prog_12_method_16_code
def yX10_computed : MethodName := ⟨RX10, "computed", "(II)I"⟩
abbrev cX10_signature : ByteArray := prog_12_method_17_code
def yX10_signature : MethodName := ⟨RX10, "signature", "(III)I"⟩
abbrev cX10_append : ByteArray := prog_12_method_18_code
def yX10_append : MethodName := ⟨RX10, "append", "(IIIIII)V"⟩
abbrev cX10_takes : ByteArray := prog_12_method_19_code
def yX10_takes : MethodName := ⟨RX10, "takes", "(II)V"⟩
abbrev cX10_startAnew : ByteArray := prog_12_method_20_code
def yX10_startAnew : MethodName := ⟨RX10, "startAnew", "()V"⟩
abbrev cX10_blames : ByteArray := prog_12_method_21_code
def yX10_blames : MethodName := ⟨RX10, "blames", "(IIIIII)V"⟩
abbrev cX10_putsPost : ByteArray := prog_12_method_22_code
def yX10_putsPost : MethodName := ⟨RX10, "putsPost", "(I)V"⟩
abbrev cX10_finds : ByteArray := prog_12_method_23_code
def yX10_finds : MethodName := ⟨RX10, "finds", "(I)I"⟩
abbrev cX10_suspects : ByteArray := prog_12_method_24_code
def yX10_suspects : MethodName := ⟨RX10, "suspects", "(II)V"⟩
abbrev cX10_operates : ByteArray := prog_12_method_25_code
def yX10_operates : MethodName := ⟨RX10, "operates", "(IIII)Z"⟩
abbrev cX10_valueIn : ByteArray := prog_12_method_26_code
def yX10_valueIn : MethodName := ⟨RX10, "valueIn", "(II)I"⟩
abbrev cX10_write : ByteArray := prog_12_method_27_code
def yX10_write : MethodName := ⟨RX10, "write", "(III)I"⟩
abbrev cX10_read : ByteArray := prog_12_method_28_code
def yX10_read : MethodName := ⟨RX10, "read", "(II)I"⟩
abbrev cX10_lowerOf : ByteArray := prog_12_method_29_code
def yX10_lowerOf : MethodName := ⟨RX10, "lowerOf", "(II)I"⟩
abbrev cX10_areForked : ByteArray := prog_12_method_30_code
def yX10_areForked : MethodName := ⟨RX10, "areForked", "(II)Z"⟩
abbrev cX10_exchange : ByteArray := prog_12_method_31_code
def yX10_exchange : MethodName := ⟨RX10, "exchange", "(II)I"⟩
abbrev cX10_post : ByteArray := prog_12_method_32_code
def yX10_post : MethodName := ⟨RX10, "post", "(I)I"⟩
abbrev cX10_calm : ByteArray := prog_12_method_33_code
def yX10_calm : MethodName := ⟨RX10, "calm", "(I)Z"⟩
abbrev cX10_adopt : ByteArray := prog_12_method_34_code
def yX10_adopt : MethodName := ⟨RX10, "adopt", "(I)I"⟩
abbrev cX10_copies : ByteArray := prog_12_method_35_code
def yX10_copies : MethodName := ⟨RX10, "copies", "(III)V"⟩
abbrev cX10_seenByAll : ByteArray := prog_12_method_36_code
def yX10_seenByAll : MethodName := ⟨RX10, "seenByAll", "(I)I"⟩
abbrev cX10_fork : ByteArray := prog_12_method_37_code
def yX10_fork : MethodName := ⟨RX10, "fork", "(I)I"⟩
abbrev cX10_move : ByteArray := prog_12_method_38_code
def yX10_move : MethodName := ⟨RX10, "move", "(II)I"⟩
abbrev cX10_rewind : ByteArray := prog_12_method_39_code
def yX10_rewind : MethodName := ⟨RX10, "rewind", "(II)I"⟩
abbrev cX10_corrupt : ByteArray := prog_12_method_40_code
def yX10_corrupt : MethodName := ⟨RX10, "corrupt", "(III)I"⟩
abbrev cX10_common : ByteArray := prog_12_method_41_code
def yX10_common : MethodName := ⟨RX10, "common", "(II)I"⟩
abbrev cX10_touched : ByteArray := prog_12_method_42_code
def yX10_touched : MethodName := ⟨RX10, "touched", "(IIZ)I"⟩
abbrev cX10_conflictsOf : ByteArray := prog_12_method_43_code
def yX10_conflictsOf : MethodName := ⟨RX10, "conflictsOf", "(II)I"⟩
abbrev cX10_goesWith : ByteArray := prog_12_method_44_code
def yX10_goesWith : MethodName := ⟨RX10, "goesWith", "(I)Z"⟩
abbrev cX10_heal : ByteArray := prog_12_method_45_code
def yX10_heal : MethodName := ⟨RX10, "heal", "(II)I"⟩
abbrev cX10_comesOver : ByteArray := prog_12_method_46_code
def yX10_comesOver : MethodName := ⟨RX10, "comesOver", "(IZII)V"⟩
abbrev cX10_feed : ByteArray := prog_12_method_47_code
def yX10_feed : MethodName := ⟨RX10, "feed", "(IIIII)I"⟩
abbrev cX10_puts : ByteArray := prog_12_method_48_code
def yX10_puts : MethodName := ⟨RX10, "puts", "(I)V"⟩
abbrev cX10_errorCode : ByteArray := prog_12_method_49_code
def yX10_errorCode : MethodName := ⟨RX10, "errorCode", "()I"⟩
abbrev cX10_errorPosition : ByteArray := prog_12_method_50_code
def yX10_errorPosition : MethodName := ⟨RX10, "errorPosition", "()I"⟩
abbrev cX10_refused : ByteArray := prog_12_method_51_code
def yX10_refused : MethodName := ⟨RX10, "refused", "()I"⟩
abbrev cX10_byteAt : ByteArray := prog_12_method_52_code
def yX10_byteAt : MethodName := ⟨RX10, "byteAt", "(I)I"⟩
abbrev cX10_isLetter : ByteArray := prog_12_method_53_code
def yX10_isLetter : MethodName := ⟨RX10, "isLetter", "(I)Z"⟩
abbrev cX10_isDigit : ByteArray := prog_12_method_54_code
def yX10_isDigit : MethodName := ⟨RX10, "isDigit", "(I)Z"⟩
abbrev cX10_peek : ByteArray := prog_12_method_55_code
def yX10_peek : MethodName := ⟨RX10, "peek", "()I"⟩
abbrev cX10_fails : ByteArray := prog_12_method_56_code
def yX10_fails : MethodName := ⟨RX10, "fails", "(II)Z"⟩
abbrev cX10_readWord : ByteArray := prog_12_method_57_code
def yX10_readWord : MethodName := ⟨RX10, "readWord", "()Z"⟩
abbrev cX10_takesWord : ByteArray := prog_12_method_58_code
def yX10_takesWord : MethodName := ⟨RX10, "takesWord", "(J)Z"⟩
abbrev cX10_readNumber : ByteArray := prog_12_method_59_code
def yX10_readNumber : MethodName := ⟨RX10, "readNumber", "(II)Z"⟩
abbrev cX10_readSemicolon : ByteArray := prog_12_method_60_code
def yX10_readSemicolon : MethodName := ⟨RX10, "readSemicolon", "()Z"⟩
abbrev cX10_readService : ByteArray := prog_12_method_61_code
def yX10_readService : MethodName := ⟨RX10, "readService", "()Z"⟩
abbrev cX10_opensText : ByteArray := prog_12_method_62_code
def yX10_opensText : MethodName := ⟨RX10, "opensText", "(I)V"⟩
abbrev cX10_load : ByteArray := prog_12_method_63_code
def yX10_load : MethodName := ⟨RX10, "load", "(I)I"⟩
abbrev cX10_readInto : ByteArray := prog_12_method_64_code
def yX10_readInto : MethodName := ⟨RX10, "readInto", "(III)Z"⟩
abbrev cX10_readClient : ByteArray := prog_12_method_65_code
def yX10_readClient : MethodName := ⟨RX10, "readClient", "(I)Z"⟩
abbrev cX10_readBranch : ByteArray := prog_12_method_66_code
def yX10_readBranch : MethodName := ⟨RX10, "readBranch", "(I)Z"⟩
abbrev cX10_isTooMany : ByteArray := prog_12_method_67_code
def yX10_isTooMany : MethodName := ⟨RX10, "isTooMany", "(I)Z"⟩
abbrev cX10_readOperation : ByteArray := prog_12_method_68_code
def yX10_readOperation : MethodName := ⟨RX10, "readOperation", "()Z"⟩
abbrev cX10_readFork : ByteArray := prog_12_method_69_code
def yX10_readFork : MethodName := ⟨RX10, "readFork", "()Z"⟩
abbrev cX10_stepOf : ByteArray := prog_12_method_70_code
def yX10_stepOf : MethodName := ⟨RX10, "stepOf", "(J)I"⟩
abbrev cX10_readRest : ByteArray := prog_12_method_71_code
def yX10_readRest : MethodName := ⟨RX10, "readRest", "(I)Z"⟩
abbrev cX10_readStep : ByteArray := prog_12_method_72_code
def yX10_readStep : MethodName := ⟨RX10, "readStep", "()Z"⟩
abbrev cX10_readScript : ByteArray := prog_12_method_73_code
def yX10_readScript : MethodName := ⟨RX10, "readScript", "()Z"⟩
abbrev cX10_doesStep : ByteArray := prog_12_method_74_code
def yX10_doesStep : MethodName := ⟨RX10, "doesStep", "(I)I"⟩
abbrev cX10_run : ByteArray := prog_12_method_75_code
def yX10_run : MethodName := ⟨RX10, "run", "(I)I"⟩
abbrev cX10_clients : ByteArray := prog_12_method_76_code
def yX10_clients : MethodName := ⟨RX10, "clients", "()I"⟩
abbrev cX10_blocks : ByteArray := prog_12_method_77_code
def yX10_blocks : MethodName := ⟨RX10, "blocks", "()I"⟩
abbrev cX10_branches : ByteArray := prog_12_method_78_code
def yX10_branches : MethodName := ⟨RX10, "branches", "()I"⟩
abbrev cX10_length : ByteArray := prog_12_method_79_code
def yX10_length : MethodName := ⟨RX10, "length", "(I)I"⟩
abbrev cX10_entry : ByteArray := prog_12_method_80_code
def yX10_entry : MethodName := ⟨RX10, "entry", "(III)I"⟩
abbrev cX10_value : ByteArray := prog_12_method_81_code
def yX10_value : MethodName := ⟨RX10, "value", "(II)I"⟩
abbrev cX10_branchOf : ByteArray := prog_12_method_82_code
def yX10_branchOf : MethodName := ⟨RX10, "branchOf", "(I)I"⟩
abbrev cX10_commonLength : ByteArray := prog_12_method_83_code
def yX10_commonLength : MethodName := ⟨RX10, "commonLength", "(II)I"⟩
abbrev cX10_conflicts : ByteArray := prog_12_method_84_code
def yX10_conflicts : MethodName := ⟨RX10, "conflicts", "(II)I"⟩
abbrev cX10_receipt : ByteArray := prog_12_method_85_code
def yX10_receipt : MethodName := ⟨RX10, "receipt", "(II)I"⟩
abbrev cX10_isSigned : ByteArray := prog_12_method_86_code
def yX10_isSigned : MethodName := ⟨RX10, "isSigned", "(IIII)Z"⟩
abbrev cX10_hashAt : ByteArray := prog_12_method_87_code
def yX10_hashAt : MethodName := ⟨RX10, "hashAt", "(II)I"⟩
abbrev cX10_number : ByteArray := prog_12_method_88_code
def yX10_number : MethodName := ⟨RX10, "number", "(II)I"⟩
abbrev cX10_vector : ByteArray := prog_12_method_89_code
def yX10_vector : MethodName := ⟨RX10, "vector", "(II)I"⟩
abbrev cX10_order : ByteArray := prog_12_method_90_code
def yX10_order : MethodName := ⟨RX10, "order", "(II)I"⟩
abbrev cX10_isSuspicious : ByteArray := prog_12_method_91_code
def yX10_isSuspicious : MethodName := ⟨RX10, "isSuspicious", "(I)Z"⟩
abbrev cX10_wouldFind : ByteArray := prog_12_method_92_code
def yX10_wouldFind : MethodName := ⟨RX10, "wouldFind", "(I)I"⟩
abbrev cX10_forkedPairs : ByteArray := prog_12_method_93_code
def yX10_forkedPairs : MethodName := ⟨RX10, "forkedPairs", "()I"⟩
abbrev cX10_seenBy : ByteArray := prog_12_method_94_code
def yX10_seenBy : MethodName := ⟨RX10, "seenBy", "(I)I"⟩
abbrev cX10_blames_ : ByteArray := prog_12_method_95_code
def yX10_blames_ : MethodName := ⟨RX10, "blames", "()I"⟩
abbrev cX10_blame : ByteArray := prog_12_method_96_code
def yX10_blame : MethodName := ⟨RX10, "blame", "(II)I"⟩
abbrev cX10_posts : ByteArray := prog_12_method_97_code
def yX10_posts : MethodName := ⟨RX10, "posts", "()I"⟩
abbrev cX10_boardPost : ByteArray := prog_12_method_98_code
def yX10_boardPost : MethodName := ⟨RX10, "boardPost", "(II)I"⟩
abbrev cX10_checkPost : ByteArray := prog_12_method_99_code
def yX10_checkPost : MethodName := ⟨RX10, "checkPost", "(II)I"⟩
def RJx145de : String := "java/io/Serializable"
def TJx145de : u_T := fun k => match k with
  | _ => ("", "", "", false)
def tyJx145de : Nat → FieldType := fun k => match k with
  | _ => .int
theorem nmJx145de : ∀ a, a < 0 → ∀ b, b < 0 → a ≠ b → (TJx145de a).2.1 ≠ (TJx145de b).2.1 := by decide +kernel
theorem tyJx145de_ok : ∀ k, k < 0 → parseFieldDescriptor (TJx145de k).2.2.1 = some (tyJx145de k) := by decide +kernel
def RJx9f9b0 : String := "java/lang/CharSequence"
def TJx9f9b0 : u_T := fun k => match k with
  | _ => ("", "", "", false)
def tyJx9f9b0 : Nat → FieldType := fun k => match k with
  | _ => .int
theorem nmJx9f9b0 : ∀ a, a < 0 → ∀ b, b < 0 → a ≠ b → (TJx9f9b0 a).2.1 ≠ (TJx9f9b0 b).2.1 := by decide +kernel
theorem tyJx9f9b0_ok : ∀ k, k < 0 → parseFieldDescriptor (TJx9f9b0 k).2.2.1 = some (tyJx9f9b0 k) := by decide +kernel
def RJxb160c : String := "java/lang/Comparable"
def TJxb160c : u_T := fun k => match k with
  | _ => ("", "", "", false)
def tyJxb160c : Nat → FieldType := fun k => match k with
  | _ => .int
theorem nmJxb160c : ∀ a, a < 0 → ∀ b, b < 0 → a ≠ b → (TJxb160c a).2.1 ≠ (TJxb160c b).2.1 := by decide +kernel
theorem tyJxb160c_ok : ∀ k, k < 0 → parseFieldDescriptor (TJxb160c k).2.2.1 = some (tyJxb160c k) := by decide +kernel
def RJx29ce0 : String := "java/lang/Enum"
def TJx29ce0 : u_T := fun k => match k with
  | _ => ("", "", "", false)
def tyJx29ce0 : Nat → FieldType := fun k => match k with
  | _ => .int
theorem nmJx29ce0 : ∀ a, a < 0 → ∀ b, b < 0 → a ≠ b → (TJx29ce0 a).2.1 ≠ (TJx29ce0 b).2.1 := by decide +kernel
theorem tyJx29ce0_ok : ∀ k, k < 0 → parseFieldDescriptor (TJx29ce0 k).2.2.1 = some (tyJx29ce0 k) := by decide +kernel
abbrev cJx29ce0_ordinal_8abf5 : ByteArray := prog_16_method_2_code
def yJx29ce0_ordinal_8abf5 : MethodName := ⟨RJx29ce0, "ordinal", "()I"⟩
def RJ9 : String := "java/lang/Math"
def TJ9 : u_T := fun k => match k with
  | _ => ("", "", "", false)
def tyJ9 : Nat → FieldType := fun k => match k with
  | _ => .int
theorem nmJ9 : ∀ a, a < 0 → ∀ b, b < 0 → a ≠ b → (TJ9 a).2.1 ≠ (TJ9 b).2.1 := by decide +kernel
theorem tyJ9_ok : ∀ k, k < 0 → parseFieldDescriptor (TJ9 k).2.2.1 = some (tyJ9 k) := by decide +kernel
abbrev cJ9_max_7cf53 : ByteArray := prog_20_method_65_code
def yJ9_max_7cf53 : MethodName := ⟨RJ9, "max", "(II)I"⟩
abbrev cJ9_min_7cf53 : ByteArray := prog_20_method_69_code
def yJ9_min_7cf53 : MethodName := ⟨RJ9, "min", "(II)I"⟩
def RJ0 : String := "java/lang/String"
def TJ0 : u_T := fun k => match k with
  | _ => ("", "", "", false)
def tyJ0 : Nat → FieldType := fun k => match k with
  | _ => .int
theorem nmJ0 : ∀ a, a < 0 → ∀ b, b < 0 → a ≠ b → (TJ0 a).2.1 ≠ (TJ0 b).2.1 := by decide +kernel
theorem tyJ0_ok : ∀ k, k < 0 → parseFieldDescriptor (TJ0 k).2.2.1 = some (tyJ0 k) := by decide +kernel
abbrev cJ0_length_8abf5 : ByteArray := prog_22_method_54_code
def yJ0_length_8abf5 : MethodName := ⟨RJ0, "length", "()I"⟩
abbrev cJ0_charAt_5068e : ByteArray := prog_22_method_56_code
def yJ0_charAt_5068e : MethodName := ⟨RJ0, "charAt", "(I)C"⟩
abbrev cJ0_coder_7d493 : ByteArray := prog_22_method_152_code
def yJ0_coder_7d493 : MethodName := ⟨RJ0, "coder", "()B"⟩
abbrev cJ0_isLatin1_aae02 : ByteArray := prog_22_method_154_code
def yJ0_isLatin1_aae02 : MethodName := ⟨RJ0, "isLatin1", "()Z"⟩
abbrev cJ0_checkIndex_df160 : ByteArray := prog_22_method_155_code
def yJ0_checkIndex_df160 : MethodName := ⟨RJ0, "checkIndex", "(II)V"⟩
def RJ1 : String := "java/lang/StringLatin1"
def TJ1 : u_T := fun k => match k with
  | _ => ("", "", "", false)
def tyJ1 : Nat → FieldType := fun k => match k with
  | _ => .int
theorem nmJ1 : ∀ a, a < 0 → ∀ b, b < 0 → a ≠ b → (TJ1 a).2.1 ≠ (TJ1 b).2.1 := by decide +kernel
theorem tyJ1_ok : ∀ k, k < 0 → parseFieldDescriptor (TJ1 k).2.2.1 = some (tyJ1 k) := by decide +kernel
abbrev cJ1_charAt_3b067 : ByteArray := prog_23_method_2_code
def yJ1_charAt_3b067 : MethodName := ⟨RJ1, "charAt", "([BI)C"⟩
def RJ2 : String := "java/lang/StringUTF16"
def TJ2 : u_T := fun k => match k with
  | _ => ("", "", "", false)
def tyJ2 : Nat → FieldType := fun k => match k with
  | _ => .int
theorem nmJ2 : ∀ a, a < 0 → ∀ b, b < 0 → a ≠ b → (TJ2 a).2.1 ≠ (TJ2 b).2.1 := by decide +kernel
theorem tyJ2_ok : ∀ k, k < 0 → parseFieldDescriptor (TJ2 k).2.2.1 = some (tyJ2 k) := by decide +kernel
abbrev cJ2_getChar_3b067 : ByteArray := prog_24_method_5_code
def yJ2_getChar_3b067 : MethodName := ⟨RJ2, "getChar", "([BI)C"⟩
abbrev cJ2_length_9d52b : ByteArray := prog_24_method_6_code
def yJ2_length_9d52b : MethodName := ⟨RJ2, "length", "([B)I"⟩
abbrev cJ2_charAt_3b067 : ByteArray := prog_24_method_83_code
def yJ2_charAt_3b067 : MethodName := ⟨RJ2, "charAt", "([BI)C"⟩
abbrev cJ2_checkIndex_2214a : ByteArray := prog_24_method_91_code
def yJ2_checkIndex_2214a : MethodName := ⟨RJ2, "checkIndex", "(I[B)V"⟩
def RJ10 : String := "java/lang/System"
def TJ10 : u_T := fun k => match k with
  | _ => ("", "", "", false)
def tyJ10 : Nat → FieldType := fun k => match k with
  | _ => .int
theorem nmJ10 : ∀ a, a < 0 → ∀ b, b < 0 → a ≠ b → (TJ10 a).2.1 ≠ (TJ10 b).2.1 := by decide +kernel
theorem tyJ10_ok : ∀ k, k < 0 → parseFieldDescriptor (TJ10 k).2.2.1 = some (tyJ10 k) := by decide +kernel
def RJxfd54e : String := "java/lang/constant/Constable"
def TJxfd54e : u_T := fun k => match k with
  | _ => ("", "", "", false)
def tyJxfd54e : Nat → FieldType := fun k => match k with
  | _ => .int
theorem nmJxfd54e : ∀ a, a < 0 → ∀ b, b < 0 → a ≠ b → (TJxfd54e a).2.1 ≠ (TJxfd54e b).2.1 := by decide +kernel
theorem tyJxfd54e_ok : ∀ k, k < 0 → parseFieldDescriptor (TJxfd54e k).2.2.1 = some (tyJxfd54e k) := by decide +kernel
def RJx3cf43 : String := "java/lang/constant/ConstantDesc"
def TJx3cf43 : u_T := fun k => match k with
  | _ => ("", "", "", false)
def tyJx3cf43 : Nat → FieldType := fun k => match k with
  | _ => .int
theorem nmJx3cf43 : ∀ a, a < 0 → ∀ b, b < 0 → a ≠ b → (TJx3cf43 a).2.1 ≠ (TJx3cf43 b).2.1 := by decide +kernel
theorem tyJx3cf43_ok : ∀ k, k < 0 → parseFieldDescriptor (TJx3cf43 k).2.2.1 = some (tyJx3cf43 k) := by decide +kernel
def RJ7 : String := "java/util/Arrays"
def TJ7 : u_T := fun k => match k with
  | _ => ("", "", "", false)
def tyJ7 : Nat → FieldType := fun k => match k with
  | _ => .int
theorem nmJ7 : ∀ a, a < 0 → ∀ b, b < 0 → a ≠ b → (TJ7 a).2.1 ≠ (TJ7 b).2.1 := by decide +kernel
theorem tyJ7_ok : ∀ k, k < 0 → parseFieldDescriptor (TJ7 k).2.2.1 = some (tyJ7 k) := by decide +kernel
abbrev cJ7_fill_53178 : ByteArray := prog_29_method_103_code
def yJ7_fill_53178 : MethodName := ⟨RJ7, "fill", "([II)V"⟩
def RJ3 : String := "jdk/internal/util/Preconditions"
def TJ3 : u_T := fun k => match k with
  | _ => ("", "", "", false)
def tyJ3 : Nat → FieldType := fun k => match k with
  | _ => .int
theorem nmJ3 : ∀ a, a < 0 → ∀ b, b < 0 → a ≠ b → (TJ3 a).2.1 ≠ (TJ3 b).2.1 := by decide +kernel
theorem tyJ3_ok : ∀ k, k < 0 → parseFieldDescriptor (TJ3 k).2.2.1 = some (tyJ3 k) := by decide +kernel
abbrev cJ3_checkIndex_8e157 : ByteArray := prog_31_method_11_code
def yJ3_checkIndex_8e157 : MethodName := ⟨RJ3, "checkIndex", "(IILjava/util/function/BiFunction;)I"⟩
def RL : String := "ForkWatchLaw"
abbrev cL_feed : ByteArray := method_3_code
def yL_feed : MethodName := ⟨RL, "feed", "(LForkWatch;IIIII[J)I"⟩
abbrev cL_load : ByteArray := method_4_code
def yL_load : MethodName := ⟨RL, "load", "(LForkWatch;I[J)I"⟩
abbrev cL_run : ByteArray := method_5_code
def yL_run : MethodName := ⟨RL, "run", "(LForkWatch;I[J)I"⟩
abbrev cL_write : ByteArray := method_6_code
def yL_write : MethodName := ⟨RL, "write", "(LForkWatch;III[J)I"⟩
abbrev cL_read : ByteArray := method_7_code
def yL_read : MethodName := ⟨RL, "read", "(LForkWatch;II[J)I"⟩
abbrev cL_exchange : ByteArray := method_8_code
def yL_exchange : MethodName := ⟨RL, "exchange", "(LForkWatch;II[J)I"⟩
abbrev cL_post : ByteArray := method_9_code
def yL_post : MethodName := ⟨RL, "post", "(LForkWatch;I[J)I"⟩
abbrev cL_calm : ByteArray := method_10_code
def yL_calm : MethodName := ⟨RL, "calm", "(LForkWatch;I[J)I"⟩
abbrev cL_adopt : ByteArray := method_11_code
def yL_adopt : MethodName := ⟨RL, "adopt", "(LForkWatch;I[J)I"⟩
abbrev cL_fork : ByteArray := method_12_code
def yL_fork : MethodName := ⟨RL, "fork", "(LForkWatch;I[J)I"⟩
abbrev cL_move : ByteArray := method_13_code
def yL_move : MethodName := ⟨RL, "move", "(LForkWatch;II[J)I"⟩
abbrev cL_rewind : ByteArray := method_14_code
def yL_rewind : MethodName := ⟨RL, "rewind", "(LForkWatch;II[J)I"⟩
abbrev cL_corrupt : ByteArray := method_15_code
def yL_corrupt : MethodName := ⟨RL, "corrupt", "(LForkWatch;III[J)I"⟩
abbrev cL_heal : ByteArray := method_16_code
def yL_heal : MethodName := ⟨RL, "heal", "(LForkWatch;II[J)I"⟩
abbrev cL_length : ByteArray := method_17_code
def yL_length : MethodName := ⟨RL, "length", "(LForkWatch;I[J)I"⟩
abbrev cL_entry : ByteArray := method_18_code
def yL_entry : MethodName := ⟨RL, "entry", "(LForkWatch;III[J)I"⟩
abbrev cL_value : ByteArray := method_19_code
def yL_value : MethodName := ⟨RL, "value", "(LForkWatch;II[J)I"⟩
abbrev cL_branchOf : ByteArray := method_20_code
def yL_branchOf : MethodName := ⟨RL, "branchOf", "(LForkWatch;I[J)I"⟩
abbrev cL_commonLength : ByteArray := method_21_code
def yL_commonLength : MethodName := ⟨RL, "commonLength", "(LForkWatch;II[J)I"⟩
abbrev cL_conflicts : ByteArray := method_22_code
def yL_conflicts : MethodName := ⟨RL, "conflicts", "(LForkWatch;II[J)I"⟩
abbrev cL_receipt : ByteArray := method_23_code
def yL_receipt : MethodName := ⟨RL, "receipt", "(LForkWatch;II[J)I"⟩
abbrev cL_hashAt : ByteArray := method_24_code
def yL_hashAt : MethodName := ⟨RL, "hashAt", "(LForkWatch;II[J)I"⟩
abbrev cL_vector : ByteArray := method_25_code
def yL_vector : MethodName := ⟨RL, "vector", "(LForkWatch;II[J)I"⟩
abbrev cL_order : ByteArray := method_26_code
def yL_order : MethodName := ⟨RL, "order", "(LForkWatch;II[J)I"⟩
abbrev cL_isSuspicious : ByteArray := method_27_code
def yL_isSuspicious : MethodName := ⟨RL, "isSuspicious", "(LForkWatch;I[J)I"⟩
abbrev cL_wouldFind : ByteArray := method_28_code
def yL_wouldFind : MethodName := ⟨RL, "wouldFind", "(LForkWatch;I[J)I"⟩
abbrev cL_seenBy : ByteArray := method_29_code
def yL_seenBy : MethodName := ⟨RL, "seenBy", "(LForkWatch;I[J)I"⟩
abbrev cL_blame : ByteArray := method_30_code
def yL_blame : MethodName := ⟨RL, "blame", "(LForkWatch;II[J)I"⟩
abbrev cL_boardPost : ByteArray := method_31_code
def yL_boardPost : MethodName := ⟨RL, "boardPost", "(LForkWatch;II[J)I"⟩
abbrev cL_checkPost : ByteArray := method_32_code
def yL_checkPost : MethodName := ⟨RL, "checkPost", "(LForkWatch;II[J)I"⟩
abbrev cL_law : ByteArray := code
def yL_law : MethodName := ⟨RL, "law", "([I)Z"⟩
abbrev vwCl : List vw_C := [(RX1, TX1, 7), (RX2, TX2, 6), (RX4, TX4, 4), (RX5, TX5, 9), (RX6, TX6, 9), (RX7, TX7, 2), (RX8, TX8, 5), (RX9, TX9, 4), (RX10, TX10, 40)]
end
section
theorem dX10_init_0 : decode cX10_init 0 = .ok (.aload_n 0, 1) := by decide +kernel
theorem dX10_init_1 : decode cX10_init 1 = .ok (.invokespecial 1, 3) := by decide +kernel
theorem dX10_init_4 : decode cX10_init 4 = .ok (.aload_n 0, 1) := by decide +kernel
theorem dX10_init_5 : decode cX10_init 5 = .ok (.bipush 8, 2) := by decide +kernel
theorem dX10_init_7 : decode cX10_init 7 = .ok (.newarray .int, 2) := by decide +kernel
theorem dX10_init_9 : decode cX10_init 9 = .ok (.putfield 7, 3) := by decide +kernel
theorem dX10_init_12 : decode cX10_init 12 = .ok (.aload_n 0, 1) := by decide +kernel
theorem dX10_init_13 : decode cX10_init 13 = .ok (.sipush 1600, 3) := by decide +kernel
theorem dX10_init_16 : decode cX10_init 16 = .ok (.newarray .int, 2) := by decide +kernel
theorem dX10_init_18 : decode cX10_init 18 = .ok (.putfield 13, 3) := by decide +kernel
theorem dX10_init_21 : decode cX10_init 21 = .ok (.aload_n 0, 1) := by decide +kernel
theorem dX10_init_22 : decode cX10_init 22 = .ok (.sipush 1600, 3) := by decide +kernel
theorem dX10_init_25 : decode cX10_init 25 = .ok (.newarray .int, 2) := by decide +kernel
theorem dX10_init_27 : decode cX10_init 27 = .ok (.putfield 16, 3) := by decide +kernel
theorem dX10_init_30 : decode cX10_init 30 = .ok (.aload_n 0, 1) := by decide +kernel
theorem dX10_init_31 : decode cX10_init 31 = .ok (.sipush 1600, 3) := by decide +kernel
theorem dX10_init_34 : decode cX10_init 34 = .ok (.newarray .int, 2) := by decide +kernel
theorem dX10_init_36 : decode cX10_init 36 = .ok (.putfield 19, 3) := by decide +kernel
theorem dX10_init_39 : decode cX10_init 39 = .ok (.aload_n 0, 1) := by decide +kernel
theorem dX10_init_40 : decode cX10_init 40 = .ok (.sipush 1600, 3) := by decide +kernel
theorem dX10_init_43 : decode cX10_init 43 = .ok (.newarray .int, 2) := by decide +kernel
theorem dX10_init_45 : decode cX10_init 45 = .ok (.putfield 22, 3) := by decide +kernel
theorem dX10_init_48 : decode cX10_init 48 = .ok (.aload_n 0, 1) := by decide +kernel
theorem dX10_init_49 : decode cX10_init 49 = .ok (.sipush 1600, 3) := by decide +kernel
theorem dX10_init_52 : decode cX10_init 52 = .ok (.newarray .int, 2) := by decide +kernel
theorem dX10_init_54 : decode cX10_init 54 = .ok (.putfield 25, 3) := by decide +kernel
theorem dX10_init_57 : decode cX10_init 57 = .ok (.aload_n 0, 1) := by decide +kernel
theorem dX10_init_58 : decode cX10_init 58 = .ok (.sipush 1600, 3) := by decide +kernel
theorem dX10_init_61 : decode cX10_init 61 = .ok (.newarray .int, 2) := by decide +kernel
theorem dX10_init_63 : decode cX10_init 63 = .ok (.putfield 28, 3) := by decide +kernel
theorem dX10_init_66 : decode cX10_init 66 = .ok (.aload_n 0, 1) := by decide +kernel
theorem dX10_init_67 : decode cX10_init 67 = .ok (.bipush 6, 2) := by decide +kernel
theorem dX10_init_69 : decode cX10_init 69 = .ok (.newarray .int, 2) := by decide +kernel
theorem dX10_init_71 : decode cX10_init 71 = .ok (.putfield 31, 3) := by decide +kernel
theorem dX10_init_74 : decode cX10_init 74 = .ok (.aload_n 0, 1) := by decide +kernel
theorem dX10_init_75 : decode cX10_init 75 = .ok (.bipush 6, 2) := by decide +kernel
theorem dX10_init_77 : decode cX10_init 77 = .ok (.newarray .int, 2) := by decide +kernel
theorem dX10_init_79 : decode cX10_init 79 = .ok (.putfield 34, 3) := by decide +kernel
theorem dX10_init_82 : decode cX10_init 82 = .ok (.aload_n 0, 1) := by decide +kernel
theorem dX10_init_83 : decode cX10_init 83 = .ok (.bipush 6, 2) := by decide +kernel
theorem dX10_init_85 : decode cX10_init 85 = .ok (.newarray .int, 2) := by decide +kernel
theorem dX10_init_87 : decode cX10_init 87 = .ok (.putfield 37, 3) := by decide +kernel
theorem dX10_init_90 : decode cX10_init 90 = .ok (.aload_n 0, 1) := by decide +kernel
theorem dX10_init_91 : decode cX10_init 91 = .ok (.bipush 36, 2) := by decide +kernel
theorem dX10_init_93 : decode cX10_init 93 = .ok (.newarray .int, 2) := by decide +kernel
theorem dX10_init_95 : decode cX10_init 95 = .ok (.putfield 40, 3) := by decide +kernel
theorem dX10_init_98 : decode cX10_init 98 = .ok (.aload_n 0, 1) := by decide +kernel
theorem dX10_init_99 : decode cX10_init 99 = .ok (.sipush 1206, 3) := by decide +kernel
theorem dX10_init_102 : decode cX10_init 102 = .ok (.newarray .int, 2) := by decide +kernel
theorem dX10_init_104 : decode cX10_init 104 = .ok (.putfield 43, 3) := by decide +kernel
theorem dX10_init_107 : decode cX10_init 107 = .ok (.aload_n 0, 1) := by decide +kernel
theorem dX10_init_108 : decode cX10_init 108 = .ok (.bipush 6, 2) := by decide +kernel
theorem dX10_init_110 : decode cX10_init 110 = .ok (.newarray .boolean, 2) := by decide +kernel
theorem dX10_init_112 : decode cX10_init 112 = .ok (.putfield 46, 3) := by decide +kernel
theorem dX10_init_115 : decode cX10_init 115 = .ok (.aload_n 0, 1) := by decide +kernel
theorem dX10_init_116 : decode cX10_init 116 = .ok (.sipush 160, 3) := by decide +kernel
theorem dX10_init_119 : decode cX10_init 119 = .ok (.newarray .int, 2) := by decide +kernel
theorem dX10_init_121 : decode cX10_init 121 = .ok (.putfield 50, 3) := by decide +kernel
theorem dX10_init_124 : decode cX10_init 124 = .ok (.aload_n 0, 1) := by decide +kernel
theorem dX10_init_125 : decode cX10_init 125 = .ok (.sipush 360, 3) := by decide +kernel
theorem dX10_init_128 : decode cX10_init 128 = .ok (.newarray .int, 2) := by decide +kernel
theorem dX10_init_130 : decode cX10_init 130 = .ok (.putfield 53, 3) := by decide +kernel
theorem dX10_init_133 : decode cX10_init 133 = .ok (.aload_n 0, 1) := by decide +kernel
theorem dX10_init_134 : decode cX10_init 134 = .ok (.sipush 900, 3) := by decide +kernel
theorem dX10_init_137 : decode cX10_init 137 = .ok (.newarray .int, 2) := by decide +kernel
theorem dX10_init_139 : decode cX10_init 139 = .ok (.putfield 56, 3) := by decide +kernel
theorem dX10_init_142 : decode cX10_init 142 = .ok (.aload_n 0, 1) := by decide +kernel
theorem dX10_init_143 : decode cX10_init 143 = .ok (.iconst (-1), 1) := by decide +kernel
theorem dX10_init_144 : decode cX10_init 144 = .ok (.putfield 59, 3) := by decide +kernel
theorem dX10_init_147 : decode cX10_init 147 = .ok (.aload_n 0, 1) := by decide +kernel
theorem dX10_init_148 : decode cX10_init 148 = .ok (.sipush 240, 3) := by decide +kernel
theorem dX10_init_151 : decode cX10_init 151 = .ok (.newarray .int, 2) := by decide +kernel
theorem dX10_init_153 : decode cX10_init 153 = .ok (.putfield 63, 3) := by decide +kernel
theorem dX10_init_156 : decode cX10_init 156 = .ok (.return_, 1) := by decide +kernel
theorem dX10_thrown_0 : decode cX10_thrown 0 = .ok (.aload_n 0, 1) := by decide +kernel
theorem dX10_thrown_1 : decode cX10_thrown 1 = .ok (.getfield 66, 3) := by decide +kernel
theorem dX10_thrown_4 : decode cX10_thrown 4 = .ok (.ireturn, 1) := by decide +kernel
theorem dX10_refuse_0 : decode cX10_refuse 0 = .ok (.aload_n 0, 1) := by decide +kernel
theorem dX10_refuse_1 : decode cX10_refuse 1 = .ok (.iload_n 1, 1) := by decide +kernel
theorem dX10_refuse_2 : decode cX10_refuse 2 = .ok (.putfield 66, 3) := by decide +kernel
theorem dX10_refuse_5 : decode cX10_refuse 5 = .ok (.iconst 0, 1) := by decide +kernel
theorem dX10_refuse_6 : decode cX10_refuse 6 = .ok (.ireturn, 1) := by decide +kernel
theorem dX10_told_0 : decode cX10_told 0 = .ok (.aload_n 0, 1) := by decide +kernel
theorem dX10_told_1 : decode cX10_told 1 = .ok (.iconst 0, 1) := by decide +kernel
theorem dX10_told_2 : decode cX10_told 2 = .ok (.putfield 66, 3) := by decide +kernel
theorem dX10_told_5 : decode cX10_told 5 = .ok (.iload_n 1, 1) := by decide +kernel
theorem dX10_told_6 : decode cX10_told 6 = .ok (.ireturn, 1) := by decide +kernel
theorem dX10_in_0 : decode cX10_in 0 = .ok (.iload_n 0, 1) := by decide +kernel
theorem dX10_in_1 : decode cX10_in 1 = .ok (.iload_n 1, 1) := by decide +kernel
theorem dX10_in_2 : decode cX10_in 2 = .ok (.if_icmp .lt 12, 3) := by decide +kernel
theorem dX10_in_5 : decode cX10_in 5 = .ok (.iload_n 0, 1) := by decide +kernel
theorem dX10_in_6 : decode cX10_in 6 = .ok (.iload_n 2, 1) := by decide +kernel
theorem dX10_in_7 : decode cX10_in 7 = .ok (.if_icmp .gt 7, 3) := by decide +kernel
theorem dX10_in_10 : decode cX10_in 10 = .ok (.iconst 1, 1) := by decide +kernel
theorem dX10_in_11 : decode cX10_in 11 = .ok (.goto 4, 3) := by decide +kernel
theorem dX10_in_14 : decode cX10_in 14 = .ok (.iconst 0, 1) := by decide +kernel
theorem dX10_in_15 : decode cX10_in 15 = .ok (.ireturn, 1) := by decide +kernel
theorem dX10_has_0 : decode cX10_has 0 = .ok (.iload_n 0, 1) := by decide +kernel
theorem dX10_has_1 : decode cX10_has 1 = .ok (.iload_n 1, 1) := by decide +kernel
theorem dX10_has_2 : decode cX10_has 2 = .ok (.ishr, 1) := by decide +kernel
theorem dX10_has_3 : decode cX10_has 3 = .ok (.iconst 1, 1) := by decide +kernel
theorem dX10_has_4 : decode cX10_has 4 = .ok (.iand, 1) := by decide +kernel
theorem dX10_has_5 : decode cX10_has 5 = .ok (.iconst 1, 1) := by decide +kernel
theorem dX10_has_6 : decode cX10_has 6 = .ok (.if_icmp .ne 7, 3) := by decide +kernel
theorem dX10_has_9 : decode cX10_has 9 = .ok (.iconst 1, 1) := by decide +kernel
theorem dX10_has_10 : decode cX10_has 10 = .ok (.goto 4, 3) := by decide +kernel
theorem dX10_has_13 : decode cX10_has 13 = .ok (.iconst 0, 1) := by decide +kernel
theorem dX10_has_14 : decode cX10_has 14 = .ok (.ireturn, 1) := by decide +kernel
theorem dX10_isClient_0 : decode cX10_isClient 0 = .ok (.iload_n 1, 1) := by decide +kernel
theorem dX10_isClient_1 : decode cX10_isClient 1 = .ok (.iconst 0, 1) := by decide +kernel
theorem dX10_isClient_2 : decode cX10_isClient 2 = .ok (.aload_n 0, 1) := by decide +kernel
theorem dX10_isClient_3 : decode cX10_isClient 3 = .ok (.getfield 69, 3) := by decide +kernel
theorem dX10_isClient_6 : decode cX10_isClient 6 = .ok (.iconst 1, 1) := by decide +kernel
theorem dX10_isClient_7 : decode cX10_isClient 7 = .ok (.isub, 1) := by decide +kernel
theorem dX10_isClient_8 : decode cX10_isClient 8 = .ok (.invokestatic 72, 3) := by decide +kernel
theorem dX10_isClient_11 : decode cX10_isClient 11 = .ok (.ireturn, 1) := by decide +kernel
theorem dX10_isBlock_0 : decode cX10_isBlock 0 = .ok (.iload_n 1, 1) := by decide +kernel
theorem dX10_isBlock_1 : decode cX10_isBlock 1 = .ok (.iconst 0, 1) := by decide +kernel
theorem dX10_isBlock_2 : decode cX10_isBlock 2 = .ok (.aload_n 0, 1) := by decide +kernel
theorem dX10_isBlock_3 : decode cX10_isBlock 3 = .ok (.getfield 76, 3) := by decide +kernel
theorem dX10_isBlock_6 : decode cX10_isBlock 6 = .ok (.iconst 1, 1) := by decide +kernel
theorem dX10_isBlock_7 : decode cX10_isBlock 7 = .ok (.isub, 1) := by decide +kernel
theorem dX10_isBlock_8 : decode cX10_isBlock 8 = .ok (.invokestatic 72, 3) := by decide +kernel
theorem dX10_isBlock_11 : decode cX10_isBlock 11 = .ok (.ireturn, 1) := by decide +kernel
theorem dX10_isBranch_0 : decode cX10_isBranch 0 = .ok (.iload_n 1, 1) := by decide +kernel
theorem dX10_isBranch_1 : decode cX10_isBranch 1 = .ok (.iconst 0, 1) := by decide +kernel
theorem dX10_isBranch_2 : decode cX10_isBranch 2 = .ok (.aload_n 0, 1) := by decide +kernel
theorem dX10_isBranch_3 : decode cX10_isBranch 3 = .ok (.getfield 79, 3) := by decide +kernel
theorem dX10_isBranch_6 : decode cX10_isBranch 6 = .ok (.iconst 1, 1) := by decide +kernel
theorem dX10_isBranch_7 : decode cX10_isBranch 7 = .ok (.isub, 1) := by decide +kernel
theorem dX10_isBranch_8 : decode cX10_isBranch 8 = .ok (.invokestatic 72, 3) := by decide +kernel
theorem dX10_isBranch_11 : decode cX10_isBranch 11 = .ok (.ireturn, 1) := by decide +kernel
theorem dX10_isEntry_0 : decode cX10_isEntry 0 = .ok (.aload_n 0, 1) := by decide +kernel
theorem dX10_isEntry_1 : decode cX10_isEntry 1 = .ok (.iload_n 1, 1) := by decide +kernel
theorem dX10_isEntry_2 : decode cX10_isEntry 2 = .ok (.invokevirtual 82, 3) := by decide +kernel
theorem dX10_isEntry_5 : decode cX10_isEntry 5 = .ok (.ifCond .eq 21, 3) := by decide +kernel
theorem dX10_isEntry_8 : decode cX10_isEntry 8 = .ok (.iload_n 2, 1) := by decide +kernel
theorem dX10_isEntry_9 : decode cX10_isEntry 9 = .ok (.iconst 1, 1) := by decide +kernel
theorem dX10_isEntry_10 : decode cX10_isEntry 10 = .ok (.aload_n 0, 1) := by decide +kernel
theorem dX10_isEntry_11 : decode cX10_isEntry 11 = .ok (.getfield 7, 3) := by decide +kernel
theorem dX10_isEntry_14 : decode cX10_isEntry 14 = .ok (.iload_n 1, 1) := by decide +kernel
theorem dX10_isEntry_15 : decode cX10_isEntry 15 = .ok (.iaload, 1) := by decide +kernel
theorem dX10_isEntry_16 : decode cX10_isEntry 16 = .ok (.invokestatic 72, 3) := by decide +kernel
theorem dX10_isEntry_19 : decode cX10_isEntry 19 = .ok (.ifCond .eq 7, 3) := by decide +kernel
theorem dX10_isEntry_22 : decode cX10_isEntry 22 = .ok (.iconst 1, 1) := by decide +kernel
theorem dX10_isEntry_23 : decode cX10_isEntry 23 = .ok (.goto 4, 3) := by decide +kernel
theorem dX10_isEntry_26 : decode cX10_isEntry 26 = .ok (.iconst 0, 1) := by decide +kernel
theorem dX10_isEntry_27 : decode cX10_isEntry 27 = .ok (.ireturn, 1) := by decide +kernel
theorem dX10_at_0 : decode cX10_at 0 = .ok (.sipush 200, 3) := by decide +kernel
theorem dX10_at_3 : decode cX10_at 3 = .ok (.iload_n 0, 1) := by decide +kernel
theorem dX10_at_4 : decode cX10_at 4 = .ok (.imul, 1) := by decide +kernel
theorem dX10_at_5 : decode cX10_at 5 = .ok (.iload_n 1, 1) := by decide +kernel
theorem dX10_at_6 : decode cX10_at 6 = .ok (.iadd, 1) := by decide +kernel
theorem dX10_at_7 : decode cX10_at 7 = .ok (.iconst 1, 1) := by decide +kernel
theorem dX10_at_8 : decode cX10_at 8 = .ok (.isub, 1) := by decide +kernel
theorem dX10_at_9 : decode cX10_at 9 = .ok (.ireturn, 1) := by decide +kernel
theorem dX10_hashOf_0 : decode cX10_hashOf 0 = .ok (.iload_n 2, 1) := by decide +kernel
theorem dX10_hashOf_1 : decode cX10_hashOf 1 = .ok (.ifCond .ne 7, 3) := by decide +kernel
theorem dX10_hashOf_4 : decode cX10_hashOf 4 = .ok (.iconst 1, 1) := by decide +kernel
theorem dX10_hashOf_5 : decode cX10_hashOf 5 = .ok (.goto 13, 3) := by decide +kernel
theorem dX10_hashOf_8 : decode cX10_hashOf 8 = .ok (.aload_n 0, 1) := by decide +kernel
theorem dX10_hashOf_9 : decode cX10_hashOf 9 = .ok (.getfield 28, 3) := by decide +kernel
theorem dX10_hashOf_12 : decode cX10_hashOf 12 = .ok (.iload_n 1, 1) := by decide +kernel
theorem dX10_hashOf_13 : decode cX10_hashOf 13 = .ok (.iload_n 2, 1) := by decide +kernel
theorem dX10_hashOf_14 : decode cX10_hashOf 14 = .ok (.invokestatic 86, 3) := by decide +kernel
theorem dX10_hashOf_17 : decode cX10_hashOf 17 = .ok (.iaload, 1) := by decide +kernel
theorem dX10_hashOf_18 : decode cX10_hashOf 18 = .ok (.ireturn, 1) := by decide +kernel
theorem dX10_hashIn_0 : decode cX10_hashIn 0 = .ok (.aload_n 0, 1) := by decide +kernel
theorem dX10_hashIn_1 : decode cX10_hashIn 1 = .ok (.getfield 43, 3) := by decide +kernel
theorem dX10_hashIn_4 : decode cX10_hashIn 4 = .ok (.sipush 201, 3) := by decide +kernel
theorem dX10_hashIn_7 : decode cX10_hashIn 7 = .ok (.iload_n 1, 1) := by decide +kernel
theorem dX10_hashIn_8 : decode cX10_hashIn 8 = .ok (.imul, 1) := by decide +kernel
theorem dX10_hashIn_9 : decode cX10_hashIn 9 = .ok (.iload_n 2, 1) := by decide +kernel
theorem dX10_hashIn_10 : decode cX10_hashIn 10 = .ok (.iadd, 1) := by decide +kernel
theorem dX10_hashIn_11 : decode cX10_hashIn 11 = .ok (.iaload, 1) := by decide +kernel
theorem dX10_hashIn_12 : decode cX10_hashIn 12 = .ok (.ireturn, 1) := by decide +kernel
theorem dX10_ownHash_0 : decode cX10_ownHash 0 = .ok (.aload_n 0, 1) := by decide +kernel
theorem dX10_ownHash_1 : decode cX10_ownHash 1 = .ok (.iload_n 1, 1) := by decide +kernel
theorem dX10_ownHash_2 : decode cX10_ownHash 2 = .ok (.aload_n 0, 1) := by decide +kernel
theorem dX10_ownHash_3 : decode cX10_ownHash 3 = .ok (.getfield 34, 3) := by decide +kernel
theorem dX10_ownHash_6 : decode cX10_ownHash 6 = .ok (.iload_n 1, 1) := by decide +kernel
theorem dX10_ownHash_7 : decode cX10_ownHash 7 = .ok (.iaload, 1) := by decide +kernel
theorem dX10_ownHash_8 : decode cX10_ownHash 8 = .ok (.invokevirtual 90, 3) := by decide +kernel
theorem dX10_ownHash_11 : decode cX10_ownHash 11 = .ok (.ireturn, 1) := by decide +kernel
theorem dX10_rest_0 : decode cX10_rest 0 = .ok (.lload_n 0, 1) := by decide +kernel
theorem dX10_rest_1 : decode cX10_rest 1 = .ok (.ldc2_w 93, 3) := by decide +kernel
theorem dX10_rest_4 : decode cX10_rest 4 = .ok (.lrem, 1) := by decide +kernel
theorem dX10_rest_5 : decode cX10_rest 5 = .ok (.l2i, 1) := by decide +kernel
theorem dX10_rest_6 : decode cX10_rest 6 = .ok (.ireturn, 1) := by decide +kernel
theorem dX10_computed_0 : decode cX10_computed 0 = .ok (.iload_n 1, 1) := by decide +kernel
theorem dX10_computed_1 : decode cX10_computed 1 = .ok (.iload_n 2, 1) := by decide +kernel
theorem dX10_computed_2 : decode cX10_computed 2 = .ok (.invokestatic 86, 3) := by decide +kernel
theorem dX10_computed_5 : decode cX10_computed 5 = .ok (.istore_n 3, 1) := by decide +kernel
theorem dX10_computed_6 : decode cX10_computed 6 = .ok (.aload_n 0, 1) := by decide +kernel
theorem dX10_computed_7 : decode cX10_computed 7 = .ok (.iload_n 1, 1) := by decide +kernel
theorem dX10_computed_8 : decode cX10_computed 8 = .ok (.iload_n 2, 1) := by decide +kernel
theorem dX10_computed_9 : decode cX10_computed 9 = .ok (.iconst 1, 1) := by decide +kernel
theorem dX10_computed_10 : decode cX10_computed 10 = .ok (.isub, 1) := by decide +kernel
theorem dX10_computed_11 : decode cX10_computed 11 = .ok (.invokevirtual 95, 3) := by decide +kernel
theorem dX10_computed_14 : decode cX10_computed 14 = .ok (.i2l, 1) := by decide +kernel
theorem dX10_computed_15 : decode cX10_computed 15 = .ok (.ldc2_w 98, 3) := by decide +kernel
theorem dX10_computed_18 : decode cX10_computed 18 = .ok (.lmul, 1) := by decide +kernel
theorem dX10_computed_19 : decode cX10_computed 19 = .ok (.iload_n 2, 1) := by decide +kernel
theorem dX10_computed_20 : decode cX10_computed 20 = .ok (.i2l, 1) := by decide +kernel
theorem dX10_computed_21 : decode cX10_computed 21 = .ok (.ladd, 1) := by decide +kernel
theorem dX10_computed_22 : decode cX10_computed 22 = .ok (.lstore 4, 2) := by decide +kernel
theorem dX10_computed_24 : decode cX10_computed 24 = .ok (.aload_n 0, 1) := by decide +kernel
theorem dX10_computed_25 : decode cX10_computed 25 = .ok (.getfield 13, 3) := by decide +kernel
theorem dX10_computed_28 : decode cX10_computed 28 = .ok (.iload_n 3, 1) := by decide +kernel
theorem dX10_computed_29 : decode cX10_computed 29 = .ok (.iaload, 1) := by decide +kernel
theorem dX10_computed_30 : decode cX10_computed 30 = .ok (.iconst 2, 1) := by decide +kernel
theorem dX10_computed_31 : decode cX10_computed 31 = .ok (.if_icmp .ne 21, 3) := by decide +kernel
theorem dX10_computed_34 : decode cX10_computed 34 = .ok (.lload 4, 2) := by decide +kernel
theorem dX10_computed_36 : decode cX10_computed 36 = .ok (.aload_n 0, 1) := by decide +kernel
theorem dX10_computed_37 : decode cX10_computed 37 = .ok (.getfield 25, 3) := by decide +kernel
theorem dX10_computed_40 : decode cX10_computed 40 = .ok (.iload_n 3, 1) := by decide +kernel
theorem dX10_computed_41 : decode cX10_computed 41 = .ok (.iaload, 1) := by decide +kernel
theorem dX10_computed_42 : decode cX10_computed 42 = .ok (.i2l, 1) := by decide +kernel
theorem dX10_computed_43 : decode cX10_computed 43 = .ok (.ldc2_w 100, 3) := by decide +kernel
theorem dX10_computed_46 : decode cX10_computed 46 = .ok (.lmul, 1) := by decide +kernel
theorem dX10_computed_47 : decode cX10_computed 47 = .ok (.ladd, 1) := by decide +kernel
theorem dX10_computed_48 : decode cX10_computed 48 = .ok (.invokestatic 102, 3) := by decide +kernel
theorem dX10_computed_51 : decode cX10_computed 51 = .ok (.ireturn, 1) := by decide +kernel
theorem dX10_computed_52 : decode cX10_computed 52 = .ok (.lload 4, 2) := by decide +kernel
theorem dX10_computed_54 : decode cX10_computed 54 = .ok (.aload_n 0, 1) := by decide +kernel
theorem dX10_computed_55 : decode cX10_computed 55 = .ok (.getfield 16, 3) := by decide +kernel
theorem dX10_computed_58 : decode cX10_computed 58 = .ok (.iload_n 3, 1) := by decide +kernel
theorem dX10_computed_59 : decode cX10_computed 59 = .ok (.iaload, 1) := by decide +kernel
theorem dX10_computed_60 : decode cX10_computed 60 = .ok (.i2l, 1) := by decide +kernel
theorem dX10_computed_61 : decode cX10_computed 61 = .ok (.ldc2_w 106, 3) := by decide +kernel
theorem dX10_computed_64 : decode cX10_computed 64 = .ok (.lmul, 1) := by decide +kernel
theorem dX10_computed_65 : decode cX10_computed 65 = .ok (.ladd, 1) := by decide +kernel
theorem dX10_computed_66 : decode cX10_computed 66 = .ok (.aload_n 0, 1) := by decide +kernel
theorem dX10_computed_67 : decode cX10_computed 67 = .ok (.getfield 19, 3) := by decide +kernel
theorem dX10_computed_70 : decode cX10_computed 70 = .ok (.iload_n 3, 1) := by decide +kernel
theorem dX10_computed_71 : decode cX10_computed 71 = .ok (.iaload, 1) := by decide +kernel
theorem dX10_computed_72 : decode cX10_computed 72 = .ok (.i2l, 1) := by decide +kernel
theorem dX10_computed_73 : decode cX10_computed 73 = .ok (.ldc2_w 108, 3) := by decide +kernel
theorem dX10_computed_76 : decode cX10_computed 76 = .ok (.lmul, 1) := by decide +kernel
theorem dX10_computed_77 : decode cX10_computed 77 = .ok (.ladd, 1) := by decide +kernel
theorem dX10_computed_78 : decode cX10_computed 78 = .ok (.lstore 6, 2) := by decide +kernel
theorem dX10_computed_80 : decode cX10_computed 80 = .ok (.aload_n 0, 1) := by decide +kernel
theorem dX10_computed_81 : decode cX10_computed 81 = .ok (.getfield 13, 3) := by decide +kernel
theorem dX10_computed_84 : decode cX10_computed 84 = .ok (.iload_n 3, 1) := by decide +kernel
theorem dX10_computed_85 : decode cX10_computed 85 = .ok (.iaload, 1) := by decide +kernel
theorem dX10_computed_86 : decode cX10_computed 86 = .ok (.iconst 1, 1) := by decide +kernel
theorem dX10_computed_87 : decode cX10_computed 87 = .ok (.if_icmp .ne 22, 3) := by decide +kernel
theorem dX10_computed_90 : decode cX10_computed 90 = .ok (.lload 6, 2) := by decide +kernel
theorem dX10_computed_92 : decode cX10_computed 92 = .ok (.aload_n 0, 1) := by decide +kernel
theorem dX10_computed_93 : decode cX10_computed 93 = .ok (.getfield 22, 3) := by decide +kernel
theorem dX10_computed_96 : decode cX10_computed 96 = .ok (.iload_n 3, 1) := by decide +kernel
theorem dX10_computed_97 : decode cX10_computed 97 = .ok (.iaload, 1) := by decide +kernel
theorem dX10_computed_98 : decode cX10_computed 98 = .ok (.i2l, 1) := by decide +kernel
theorem dX10_computed_99 : decode cX10_computed 99 = .ok (.lconst 1, 1) := by decide +kernel
theorem dX10_computed_100 : decode cX10_computed 100 = .ok (.ladd, 1) := by decide +kernel
theorem dX10_computed_101 : decode cX10_computed 101 = .ok (.ldc2_w 110, 3) := by decide +kernel
theorem dX10_computed_104 : decode cX10_computed 104 = .ok (.lmul, 1) := by decide +kernel
theorem dX10_computed_105 : decode cX10_computed 105 = .ok (.ladd, 1) := by decide +kernel
theorem dX10_computed_106 : decode cX10_computed 106 = .ok (.goto 5, 3) := by decide +kernel
theorem dX10_computed_109 : decode cX10_computed 109 = .ok (.lload 6, 2) := by decide +kernel
theorem dX10_computed_111 : decode cX10_computed 111 = .ok (.invokestatic 102, 3) := by decide +kernel
theorem dX10_computed_114 : decode cX10_computed 114 = .ok (.ireturn, 1) := by decide +kernel
theorem dX10_signature_0 : decode cX10_signature 0 = .ok (.iload_n 2, 1) := by decide +kernel
theorem dX10_signature_1 : decode cX10_signature 1 = .ok (.i2l, 1) := by decide +kernel
theorem dX10_signature_2 : decode cX10_signature 2 = .ok (.ldc2_w 112, 3) := by decide +kernel
theorem dX10_signature_5 : decode cX10_signature 5 = .ok (.lmul, 1) := by decide +kernel
theorem dX10_signature_6 : decode cX10_signature 6 = .ok (.iload_n 1, 1) := by decide +kernel
theorem dX10_signature_7 : decode cX10_signature 7 = .ok (.i2l, 1) := by decide +kernel
theorem dX10_signature_8 : decode cX10_signature 8 = .ok (.ldc2_w 114, 3) := by decide +kernel
theorem dX10_signature_11 : decode cX10_signature 11 = .ok (.lmul, 1) := by decide +kernel
theorem dX10_signature_12 : decode cX10_signature 12 = .ok (.ladd, 1) := by decide +kernel
theorem dX10_signature_13 : decode cX10_signature 13 = .ok (.iload_n 0, 1) := by decide +kernel
theorem dX10_signature_14 : decode cX10_signature 14 = .ok (.i2l, 1) := by decide +kernel
theorem dX10_signature_15 : decode cX10_signature 15 = .ok (.ldc2_w 116, 3) := by decide +kernel
theorem dX10_signature_18 : decode cX10_signature 18 = .ok (.lmul, 1) := by decide +kernel
theorem dX10_signature_19 : decode cX10_signature 19 = .ok (.ladd, 1) := by decide +kernel
theorem dX10_signature_20 : decode cX10_signature 20 = .ok (.ldc2_w 118, 3) := by decide +kernel
theorem dX10_signature_23 : decode cX10_signature 23 = .ok (.ladd, 1) := by decide +kernel
theorem dX10_signature_24 : decode cX10_signature 24 = .ok (.invokestatic 102, 3) := by decide +kernel
theorem dX10_signature_27 : decode cX10_signature 27 = .ok (.ireturn, 1) := by decide +kernel
theorem dX10_append_0 : decode cX10_append 0 = .ok (.aload_n 0, 1) := by decide +kernel
theorem dX10_append_1 : decode cX10_append 1 = .ok (.getfield 7, 3) := by decide +kernel
theorem dX10_append_4 : decode cX10_append 4 = .ok (.iload_n 1, 1) := by decide +kernel
theorem dX10_append_5 : decode cX10_append 5 = .ok (.aload_n 0, 1) := by decide +kernel
theorem dX10_append_6 : decode cX10_append 6 = .ok (.getfield 7, 3) := by decide +kernel
theorem dX10_append_9 : decode cX10_append 9 = .ok (.iload_n 1, 1) := by decide +kernel
theorem dX10_append_10 : decode cX10_append 10 = .ok (.iaload, 1) := by decide +kernel
theorem dX10_append_11 : decode cX10_append 11 = .ok (.iconst 1, 1) := by decide +kernel
theorem dX10_append_12 : decode cX10_append 12 = .ok (.iadd, 1) := by decide +kernel
theorem dX10_append_13 : decode cX10_append 13 = .ok (.iastore, 1) := by decide +kernel
theorem dX10_append_14 : decode cX10_append 14 = .ok (.iload_n 1, 1) := by decide +kernel
theorem dX10_append_15 : decode cX10_append 15 = .ok (.aload_n 0, 1) := by decide +kernel
theorem dX10_append_16 : decode cX10_append 16 = .ok (.getfield 7, 3) := by decide +kernel
theorem dX10_append_19 : decode cX10_append 19 = .ok (.iload_n 1, 1) := by decide +kernel
theorem dX10_append_20 : decode cX10_append 20 = .ok (.iaload, 1) := by decide +kernel
theorem dX10_append_21 : decode cX10_append 21 = .ok (.invokestatic 86, 3) := by decide +kernel
theorem dX10_append_24 : decode cX10_append 24 = .ok (.istore 7, 2) := by decide +kernel
theorem dX10_append_26 : decode cX10_append 26 = .ok (.aload_n 0, 1) := by decide +kernel
theorem dX10_append_27 : decode cX10_append 27 = .ok (.getfield 13, 3) := by decide +kernel
theorem dX10_append_30 : decode cX10_append 30 = .ok (.iload 7, 2) := by decide +kernel
theorem dX10_append_32 : decode cX10_append 32 = .ok (.iload_n 2, 1) := by decide +kernel
theorem dX10_append_33 : decode cX10_append 33 = .ok (.iastore, 1) := by decide +kernel
theorem dX10_append_34 : decode cX10_append 34 = .ok (.aload_n 0, 1) := by decide +kernel
theorem dX10_append_35 : decode cX10_append 35 = .ok (.getfield 16, 3) := by decide +kernel
theorem dX10_append_38 : decode cX10_append 38 = .ok (.iload 7, 2) := by decide +kernel
theorem dX10_append_40 : decode cX10_append 40 = .ok (.iload_n 3, 1) := by decide +kernel
theorem dX10_append_41 : decode cX10_append 41 = .ok (.iastore, 1) := by decide +kernel
theorem dX10_append_42 : decode cX10_append 42 = .ok (.aload_n 0, 1) := by decide +kernel
theorem dX10_append_43 : decode cX10_append 43 = .ok (.getfield 19, 3) := by decide +kernel
theorem dX10_append_46 : decode cX10_append 46 = .ok (.iload 7, 2) := by decide +kernel
theorem dX10_append_48 : decode cX10_append 48 = .ok (.iload 4, 2) := by decide +kernel
theorem dX10_append_50 : decode cX10_append 50 = .ok (.iastore, 1) := by decide +kernel
theorem dX10_append_51 : decode cX10_append 51 = .ok (.aload_n 0, 1) := by decide +kernel
theorem dX10_append_52 : decode cX10_append 52 = .ok (.getfield 22, 3) := by decide +kernel
theorem dX10_append_55 : decode cX10_append 55 = .ok (.iload 7, 2) := by decide +kernel
theorem dX10_append_57 : decode cX10_append 57 = .ok (.iload 5, 2) := by decide +kernel
theorem dX10_append_59 : decode cX10_append 59 = .ok (.iastore, 1) := by decide +kernel
theorem dX10_append_60 : decode cX10_append 60 = .ok (.aload_n 0, 1) := by decide +kernel
theorem dX10_append_61 : decode cX10_append 61 = .ok (.getfield 25, 3) := by decide +kernel
theorem dX10_append_64 : decode cX10_append 64 = .ok (.iload 7, 2) := by decide +kernel
theorem dX10_append_66 : decode cX10_append 66 = .ok (.iload 6, 2) := by decide +kernel
theorem dX10_append_68 : decode cX10_append 68 = .ok (.iastore, 1) := by decide +kernel
theorem dX10_append_69 : decode cX10_append 69 = .ok (.aload_n 0, 1) := by decide +kernel
theorem dX10_append_70 : decode cX10_append 70 = .ok (.getfield 28, 3) := by decide +kernel
theorem dX10_append_73 : decode cX10_append 73 = .ok (.iload 7, 2) := by decide +kernel
theorem dX10_append_75 : decode cX10_append 75 = .ok (.aload_n 0, 1) := by decide +kernel
theorem dX10_append_76 : decode cX10_append 76 = .ok (.iload_n 1, 1) := by decide +kernel
theorem dX10_append_77 : decode cX10_append 77 = .ok (.aload_n 0, 1) := by decide +kernel
theorem dX10_append_78 : decode cX10_append 78 = .ok (.getfield 7, 3) := by decide +kernel
theorem dX10_append_81 : decode cX10_append 81 = .ok (.iload_n 1, 1) := by decide +kernel
theorem dX10_append_82 : decode cX10_append 82 = .ok (.iaload, 1) := by decide +kernel
theorem dX10_append_83 : decode cX10_append 83 = .ok (.invokevirtual 120, 3) := by decide +kernel
theorem dX10_append_86 : decode cX10_append 86 = .ok (.iastore, 1) := by decide +kernel
theorem dX10_append_87 : decode cX10_append 87 = .ok (.return_, 1) := by decide +kernel
theorem dX10_takes_0 : decode cX10_takes 0 = .ok (.aload_n 0, 1) := by decide +kernel
theorem dX10_takes_1 : decode cX10_takes 1 = .ok (.getfield 34, 3) := by decide +kernel
theorem dX10_takes_4 : decode cX10_takes 4 = .ok (.iload_n 1, 1) := by decide +kernel
theorem dX10_takes_5 : decode cX10_takes 5 = .ok (.aload_n 0, 1) := by decide +kernel
theorem dX10_takes_6 : decode cX10_takes 6 = .ok (.getfield 7, 3) := by decide +kernel
theorem dX10_takes_9 : decode cX10_takes 9 = .ok (.iload_n 2, 1) := by decide +kernel
theorem dX10_takes_10 : decode cX10_takes 10 = .ok (.iaload, 1) := by decide +kernel
theorem dX10_takes_11 : decode cX10_takes 11 = .ok (.iastore, 1) := by decide +kernel
theorem dX10_takes_12 : decode cX10_takes 12 = .ok (.iconst 0, 1) := by decide +kernel
theorem dX10_takes_13 : decode cX10_takes 13 = .ok (.istore_n 3, 1) := by decide +kernel
theorem dX10_takes_14 : decode cX10_takes 14 = .ok (.iload_n 3, 1) := by decide +kernel
theorem dX10_takes_15 : decode cX10_takes 15 = .ok (.bipush 6, 2) := by decide +kernel
theorem dX10_takes_17 : decode cX10_takes 17 = .ok (.if_icmp .ge 21, 3) := by decide +kernel
theorem dX10_takes_20 : decode cX10_takes 20 = .ok (.aload_n 0, 1) := by decide +kernel
theorem dX10_takes_21 : decode cX10_takes 21 = .ok (.getfield 40, 3) := by decide +kernel
theorem dX10_takes_24 : decode cX10_takes 24 = .ok (.bipush 6, 2) := by decide +kernel
theorem dX10_takes_26 : decode cX10_takes 26 = .ok (.iload_n 1, 1) := by decide +kernel
theorem dX10_takes_27 : decode cX10_takes 27 = .ok (.imul, 1) := by decide +kernel
theorem dX10_takes_28 : decode cX10_takes 28 = .ok (.iload_n 3, 1) := by decide +kernel
theorem dX10_takes_29 : decode cX10_takes 29 = .ok (.iadd, 1) := by decide +kernel
theorem dX10_takes_30 : decode cX10_takes 30 = .ok (.iconst 0, 1) := by decide +kernel
theorem dX10_takes_31 : decode cX10_takes 31 = .ok (.iastore, 1) := by decide +kernel
theorem dX10_takes_32 : decode cX10_takes 32 = .ok (.iinc 3 1, 3) := by decide +kernel
theorem dX10_takes_35 : decode cX10_takes 35 = .ok (.goto (-21), 3) := by decide +kernel
theorem dX10_takes_38 : decode cX10_takes 38 = .ok (.iconst 0, 1) := by decide +kernel
theorem dX10_takes_39 : decode cX10_takes 39 = .ok (.istore_n 3, 1) := by decide +kernel
theorem dX10_takes_40 : decode cX10_takes 40 = .ok (.iload_n 3, 1) := by decide +kernel
theorem dX10_takes_41 : decode cX10_takes 41 = .ok (.aload_n 0, 1) := by decide +kernel
theorem dX10_takes_42 : decode cX10_takes 42 = .ok (.getfield 7, 3) := by decide +kernel
theorem dX10_takes_45 : decode cX10_takes 45 = .ok (.iload_n 2, 1) := by decide +kernel
theorem dX10_takes_46 : decode cX10_takes 46 = .ok (.iaload, 1) := by decide +kernel
theorem dX10_takes_47 : decode cX10_takes 47 = .ok (.if_icmp .gt 27, 3) := by decide +kernel
theorem dX10_takes_50 : decode cX10_takes 50 = .ok (.aload_n 0, 1) := by decide +kernel
theorem dX10_takes_51 : decode cX10_takes 51 = .ok (.getfield 43, 3) := by decide +kernel
theorem dX10_takes_54 : decode cX10_takes 54 = .ok (.sipush 201, 3) := by decide +kernel
theorem dX10_takes_57 : decode cX10_takes 57 = .ok (.iload_n 1, 1) := by decide +kernel
theorem dX10_takes_58 : decode cX10_takes 58 = .ok (.imul, 1) := by decide +kernel
theorem dX10_takes_59 : decode cX10_takes 59 = .ok (.iload_n 3, 1) := by decide +kernel
theorem dX10_takes_60 : decode cX10_takes 60 = .ok (.iadd, 1) := by decide +kernel
theorem dX10_takes_61 : decode cX10_takes 61 = .ok (.aload_n 0, 1) := by decide +kernel
theorem dX10_takes_62 : decode cX10_takes 62 = .ok (.iload_n 2, 1) := by decide +kernel
theorem dX10_takes_63 : decode cX10_takes 63 = .ok (.iload_n 3, 1) := by decide +kernel
theorem dX10_takes_64 : decode cX10_takes 64 = .ok (.invokevirtual 95, 3) := by decide +kernel
theorem dX10_takes_67 : decode cX10_takes 67 = .ok (.iastore, 1) := by decide +kernel
theorem dX10_takes_68 : decode cX10_takes 68 = .ok (.iinc 3 1, 3) := by decide +kernel
theorem dX10_takes_71 : decode cX10_takes 71 = .ok (.goto (-31), 3) := by decide +kernel
theorem dX10_takes_74 : decode cX10_takes 74 = .ok (.iconst 1, 1) := by decide +kernel
theorem dX10_takes_75 : decode cX10_takes 75 = .ok (.istore_n 3, 1) := by decide +kernel
theorem dX10_takes_76 : decode cX10_takes 76 = .ok (.iload_n 3, 1) := by decide +kernel
theorem dX10_takes_77 : decode cX10_takes 77 = .ok (.aload_n 0, 1) := by decide +kernel
theorem dX10_takes_78 : decode cX10_takes 78 = .ok (.getfield 7, 3) := by decide +kernel
theorem dX10_takes_81 : decode cX10_takes 81 = .ok (.iload_n 2, 1) := by decide +kernel
theorem dX10_takes_82 : decode cX10_takes 82 = .ok (.iaload, 1) := by decide +kernel
theorem dX10_takes_83 : decode cX10_takes 83 = .ok (.if_icmp .gt 53, 3) := by decide +kernel
theorem dX10_takes_86 : decode cX10_takes 86 = .ok (.aload_n 0, 1) := by decide +kernel
theorem dX10_takes_87 : decode cX10_takes 87 = .ok (.getfield 16, 3) := by decide +kernel
theorem dX10_takes_90 : decode cX10_takes 90 = .ok (.iload_n 2, 1) := by decide +kernel
theorem dX10_takes_91 : decode cX10_takes 91 = .ok (.iload_n 3, 1) := by decide +kernel
theorem dX10_takes_92 : decode cX10_takes 92 = .ok (.invokestatic 86, 3) := by decide +kernel
theorem dX10_takes_95 : decode cX10_takes 95 = .ok (.iaload, 1) := by decide +kernel
theorem dX10_takes_96 : decode cX10_takes 96 = .ok (.istore 4, 2) := by decide +kernel
theorem dX10_takes_98 : decode cX10_takes 98 = .ok (.iload 4, 2) := by decide +kernel
theorem dX10_takes_100 : decode cX10_takes 100 = .ok (.iconst (-1), 1) := by decide +kernel
theorem dX10_takes_101 : decode cX10_takes 101 = .ok (.if_icmp .eq 29, 3) := by decide +kernel
theorem dX10_takes_104 : decode cX10_takes 104 = .ok (.aload_n 0, 1) := by decide +kernel
theorem dX10_takes_105 : decode cX10_takes 105 = .ok (.getfield 40, 3) := by decide +kernel
theorem dX10_takes_108 : decode cX10_takes 108 = .ok (.bipush 6, 2) := by decide +kernel
theorem dX10_takes_110 : decode cX10_takes 110 = .ok (.iload_n 1, 1) := by decide +kernel
theorem dX10_takes_111 : decode cX10_takes 111 = .ok (.imul, 1) := by decide +kernel
theorem dX10_takes_112 : decode cX10_takes 112 = .ok (.iload 4, 2) := by decide +kernel
theorem dX10_takes_114 : decode cX10_takes 114 = .ok (.iadd, 1) := by decide +kernel
theorem dX10_takes_115 : decode cX10_takes 115 = .ok (.aload_n 0, 1) := by decide +kernel
theorem dX10_takes_116 : decode cX10_takes 116 = .ok (.getfield 40, 3) := by decide +kernel
theorem dX10_takes_119 : decode cX10_takes 119 = .ok (.bipush 6, 2) := by decide +kernel
theorem dX10_takes_121 : decode cX10_takes 121 = .ok (.iload_n 1, 1) := by decide +kernel
theorem dX10_takes_122 : decode cX10_takes 122 = .ok (.imul, 1) := by decide +kernel
theorem dX10_takes_123 : decode cX10_takes 123 = .ok (.iload 4, 2) := by decide +kernel
theorem dX10_takes_125 : decode cX10_takes 125 = .ok (.iadd, 1) := by decide +kernel
theorem dX10_takes_126 : decode cX10_takes 126 = .ok (.iaload, 1) := by decide +kernel
theorem dX10_takes_127 : decode cX10_takes 127 = .ok (.iconst 1, 1) := by decide +kernel
theorem dX10_takes_128 : decode cX10_takes 128 = .ok (.iadd, 1) := by decide +kernel
theorem dX10_takes_129 : decode cX10_takes 129 = .ok (.iastore, 1) := by decide +kernel
theorem dX10_takes_130 : decode cX10_takes 130 = .ok (.iinc 3 1, 3) := by decide +kernel
theorem dX10_takes_133 : decode cX10_takes 133 = .ok (.goto (-57), 3) := by decide +kernel
theorem dX10_takes_136 : decode cX10_takes 136 = .ok (.return_, 1) := by decide +kernel
theorem dX10_startAnew_0 : decode cX10_startAnew 0 = .ok (.aload_n 0, 1) := by decide +kernel
theorem dX10_startAnew_1 : decode cX10_startAnew 1 = .ok (.iconst 1, 1) := by decide +kernel
theorem dX10_startAnew_2 : decode cX10_startAnew 2 = .ok (.putfield 79, 3) := by decide +kernel
theorem dX10_startAnew_5 : decode cX10_startAnew 5 = .ok (.aload_n 0, 1) := by decide +kernel
theorem dX10_startAnew_6 : decode cX10_startAnew 6 = .ok (.iconst 0, 1) := by decide +kernel
theorem dX10_startAnew_7 : decode cX10_startAnew 7 = .ok (.putfield 123, 3) := by decide +kernel
theorem dX10_startAnew_10 : decode cX10_startAnew 10 = .ok (.aload_n 0, 1) := by decide +kernel
theorem dX10_startAnew_11 : decode cX10_startAnew 11 = .ok (.getfield 7, 3) := by decide +kernel
theorem dX10_startAnew_14 : decode cX10_startAnew 14 = .ok (.iconst 0, 1) := by decide +kernel
theorem dX10_startAnew_15 : decode cX10_startAnew 15 = .ok (.iconst 0, 1) := by decide +kernel
theorem dX10_startAnew_16 : decode cX10_startAnew 16 = .ok (.iastore, 1) := by decide +kernel
theorem dX10_startAnew_17 : decode cX10_startAnew 17 = .ok (.aload_n 0, 1) := by decide +kernel
theorem dX10_startAnew_18 : decode cX10_startAnew 18 = .ok (.iconst 0, 1) := by decide +kernel
theorem dX10_startAnew_19 : decode cX10_startAnew 19 = .ok (.putfield 126, 3) := by decide +kernel
theorem dX10_startAnew_22 : decode cX10_startAnew 22 = .ok (.aload_n 0, 1) := by decide +kernel
theorem dX10_startAnew_23 : decode cX10_startAnew 23 = .ok (.iconst 0, 1) := by decide +kernel
theorem dX10_startAnew_24 : decode cX10_startAnew 24 = .ok (.putfield 129, 3) := by decide +kernel
theorem dX10_startAnew_27 : decode cX10_startAnew 27 = .ok (.aload_n 0, 1) := by decide +kernel
theorem dX10_startAnew_28 : decode cX10_startAnew 28 = .ok (.iconst 1, 1) := by decide +kernel
theorem dX10_startAnew_29 : decode cX10_startAnew 29 = .ok (.putfield 132, 3) := by decide +kernel
theorem dX10_startAnew_32 : decode cX10_startAnew 32 = .ok (.iconst 0, 1) := by decide +kernel
theorem dX10_startAnew_33 : decode cX10_startAnew 33 = .ok (.istore_n 1, 1) := by decide +kernel
theorem dX10_startAnew_34 : decode cX10_startAnew 34 = .ok (.iload_n 1, 1) := by decide +kernel
theorem dX10_startAnew_35 : decode cX10_startAnew 35 = .ok (.bipush 6, 2) := by decide +kernel
theorem dX10_startAnew_37 : decode cX10_startAnew 37 = .ok (.if_icmp .ge 36, 3) := by decide +kernel
theorem dX10_startAnew_40 : decode cX10_startAnew 40 = .ok (.aload_n 0, 1) := by decide +kernel
theorem dX10_startAnew_41 : decode cX10_startAnew 41 = .ok (.getfield 31, 3) := by decide +kernel
theorem dX10_startAnew_44 : decode cX10_startAnew 44 = .ok (.iload_n 1, 1) := by decide +kernel
theorem dX10_startAnew_45 : decode cX10_startAnew 45 = .ok (.iconst 0, 1) := by decide +kernel
theorem dX10_startAnew_46 : decode cX10_startAnew 46 = .ok (.iastore, 1) := by decide +kernel
theorem dX10_startAnew_47 : decode cX10_startAnew 47 = .ok (.aload_n 0, 1) := by decide +kernel
theorem dX10_startAnew_48 : decode cX10_startAnew 48 = .ok (.getfield 37, 3) := by decide +kernel
theorem dX10_startAnew_51 : decode cX10_startAnew 51 = .ok (.iload_n 1, 1) := by decide +kernel
theorem dX10_startAnew_52 : decode cX10_startAnew 52 = .ok (.iconst 0, 1) := by decide +kernel
theorem dX10_startAnew_53 : decode cX10_startAnew 53 = .ok (.iastore, 1) := by decide +kernel
theorem dX10_startAnew_54 : decode cX10_startAnew 54 = .ok (.aload_n 0, 1) := by decide +kernel
theorem dX10_startAnew_55 : decode cX10_startAnew 55 = .ok (.getfield 46, 3) := by decide +kernel
theorem dX10_startAnew_58 : decode cX10_startAnew 58 = .ok (.iload_n 1, 1) := by decide +kernel
theorem dX10_startAnew_59 : decode cX10_startAnew 59 = .ok (.iconst 0, 1) := by decide +kernel
theorem dX10_startAnew_60 : decode cX10_startAnew 60 = .ok (.bastore, 1) := by decide +kernel
theorem dX10_startAnew_61 : decode cX10_startAnew 61 = .ok (.aload_n 0, 1) := by decide +kernel
theorem dX10_startAnew_62 : decode cX10_startAnew 62 = .ok (.iload_n 1, 1) := by decide +kernel
theorem dX10_startAnew_63 : decode cX10_startAnew 63 = .ok (.iconst 0, 1) := by decide +kernel
theorem dX10_startAnew_64 : decode cX10_startAnew 64 = .ok (.invokevirtual 135, 3) := by decide +kernel
theorem dX10_startAnew_67 : decode cX10_startAnew 67 = .ok (.iinc 1 1, 3) := by decide +kernel
theorem dX10_startAnew_70 : decode cX10_startAnew 70 = .ok (.goto (-36), 3) := by decide +kernel
theorem dX10_startAnew_73 : decode cX10_startAnew 73 = .ok (.return_, 1) := by decide +kernel
theorem dX10_blames_0 : decode cX10_blames 0 = .ok (.aload_n 0, 1) := by decide +kernel
theorem dX10_blames_1 : decode cX10_blames 1 = .ok (.getfield 129, 3) := by decide +kernel
theorem dX10_blames_4 : decode cX10_blames 4 = .ok (.bipush 60, 2) := by decide +kernel
theorem dX10_blames_6 : decode cX10_blames 6 = .ok (.if_icmp .ne 48, 3) := by decide +kernel
theorem dX10_blames_9 : decode cX10_blames 9 = .ok (.bipush 6, 2) := by decide +kernel
theorem dX10_blames_11 : decode cX10_blames 11 = .ok (.istore 7, 2) := by decide +kernel
theorem dX10_blames_13 : decode cX10_blames 13 = .ok (.iload 7, 2) := by decide +kernel
theorem dX10_blames_15 : decode cX10_blames 15 = .ok (.sipush 360, 3) := by decide +kernel
theorem dX10_blames_18 : decode cX10_blames 18 = .ok (.if_icmp .ge 26, 3) := by decide +kernel
theorem dX10_blames_21 : decode cX10_blames 21 = .ok (.aload_n 0, 1) := by decide +kernel
theorem dX10_blames_22 : decode cX10_blames 22 = .ok (.getfield 53, 3) := by decide +kernel
theorem dX10_blames_25 : decode cX10_blames 25 = .ok (.iload 7, 2) := by decide +kernel
theorem dX10_blames_27 : decode cX10_blames 27 = .ok (.bipush 6, 2) := by decide +kernel
theorem dX10_blames_29 : decode cX10_blames 29 = .ok (.isub, 1) := by decide +kernel
theorem dX10_blames_30 : decode cX10_blames 30 = .ok (.aload_n 0, 1) := by decide +kernel
theorem dX10_blames_31 : decode cX10_blames 31 = .ok (.getfield 53, 3) := by decide +kernel
theorem dX10_blames_34 : decode cX10_blames 34 = .ok (.iload 7, 2) := by decide +kernel
theorem dX10_blames_36 : decode cX10_blames 36 = .ok (.iaload, 1) := by decide +kernel
theorem dX10_blames_37 : decode cX10_blames 37 = .ok (.iastore, 1) := by decide +kernel
theorem dX10_blames_38 : decode cX10_blames 38 = .ok (.iinc 7 1, 3) := by decide +kernel
theorem dX10_blames_41 : decode cX10_blames 41 = .ok (.goto (-28), 3) := by decide +kernel
theorem dX10_blames_44 : decode cX10_blames 44 = .ok (.aload_n 0, 1) := by decide +kernel
theorem dX10_blames_45 : decode cX10_blames 45 = .ok (.aload_n 0, 1) := by decide +kernel
theorem dX10_blames_46 : decode cX10_blames 46 = .ok (.getfield 129, 3) := by decide +kernel
theorem dX10_blames_49 : decode cX10_blames 49 = .ok (.iconst 1, 1) := by decide +kernel
theorem dX10_blames_50 : decode cX10_blames 50 = .ok (.isub, 1) := by decide +kernel
theorem dX10_blames_51 : decode cX10_blames 51 = .ok (.putfield 129, 3) := by decide +kernel
theorem dX10_blames_54 : decode cX10_blames 54 = .ok (.bipush 6, 2) := by decide +kernel
theorem dX10_blames_56 : decode cX10_blames 56 = .ok (.aload_n 0, 1) := by decide +kernel
theorem dX10_blames_57 : decode cX10_blames 57 = .ok (.getfield 129, 3) := by decide +kernel
theorem dX10_blames_60 : decode cX10_blames 60 = .ok (.imul, 1) := by decide +kernel
theorem dX10_blames_61 : decode cX10_blames 61 = .ok (.istore 7, 2) := by decide +kernel
theorem dX10_blames_63 : decode cX10_blames 63 = .ok (.aload_n 0, 1) := by decide +kernel
theorem dX10_blames_64 : decode cX10_blames 64 = .ok (.getfield 53, 3) := by decide +kernel
theorem dX10_blames_67 : decode cX10_blames 67 = .ok (.iload 7, 2) := by decide +kernel
theorem dX10_blames_69 : decode cX10_blames 69 = .ok (.iload_n 1, 1) := by decide +kernel
theorem dX10_blames_70 : decode cX10_blames 70 = .ok (.iastore, 1) := by decide +kernel
theorem dX10_blames_71 : decode cX10_blames 71 = .ok (.aload_n 0, 1) := by decide +kernel
theorem dX10_blames_72 : decode cX10_blames 72 = .ok (.getfield 53, 3) := by decide +kernel
theorem dX10_blames_75 : decode cX10_blames 75 = .ok (.iload 7, 2) := by decide +kernel
theorem dX10_blames_77 : decode cX10_blames 77 = .ok (.iconst 1, 1) := by decide +kernel
theorem dX10_blames_78 : decode cX10_blames 78 = .ok (.iadd, 1) := by decide +kernel
theorem dX10_blames_79 : decode cX10_blames 79 = .ok (.iload_n 2, 1) := by decide +kernel
theorem dX10_blames_80 : decode cX10_blames 80 = .ok (.iastore, 1) := by decide +kernel
theorem dX10_blames_81 : decode cX10_blames 81 = .ok (.aload_n 0, 1) := by decide +kernel
theorem dX10_blames_82 : decode cX10_blames 82 = .ok (.getfield 53, 3) := by decide +kernel
theorem dX10_blames_85 : decode cX10_blames 85 = .ok (.iload 7, 2) := by decide +kernel
theorem dX10_blames_87 : decode cX10_blames 87 = .ok (.iconst 2, 1) := by decide +kernel
theorem dX10_blames_88 : decode cX10_blames 88 = .ok (.iadd, 1) := by decide +kernel
theorem dX10_blames_89 : decode cX10_blames 89 = .ok (.iload_n 3, 1) := by decide +kernel
theorem dX10_blames_90 : decode cX10_blames 90 = .ok (.iastore, 1) := by decide +kernel
theorem dX10_blames_91 : decode cX10_blames 91 = .ok (.aload_n 0, 1) := by decide +kernel
theorem dX10_blames_92 : decode cX10_blames 92 = .ok (.getfield 53, 3) := by decide +kernel
theorem dX10_blames_95 : decode cX10_blames 95 = .ok (.iload 7, 2) := by decide +kernel
theorem dX10_blames_97 : decode cX10_blames 97 = .ok (.iconst 3, 1) := by decide +kernel
theorem dX10_blames_98 : decode cX10_blames 98 = .ok (.iadd, 1) := by decide +kernel
theorem dX10_blames_99 : decode cX10_blames 99 = .ok (.iload 4, 2) := by decide +kernel
theorem dX10_blames_101 : decode cX10_blames 101 = .ok (.iastore, 1) := by decide +kernel
theorem dX10_blames_102 : decode cX10_blames 102 = .ok (.aload_n 0, 1) := by decide +kernel
theorem dX10_blames_103 : decode cX10_blames 103 = .ok (.getfield 53, 3) := by decide +kernel
theorem dX10_blames_106 : decode cX10_blames 106 = .ok (.iload 7, 2) := by decide +kernel
theorem dX10_blames_108 : decode cX10_blames 108 = .ok (.iconst 4, 1) := by decide +kernel
theorem dX10_blames_109 : decode cX10_blames 109 = .ok (.iadd, 1) := by decide +kernel
theorem dX10_blames_110 : decode cX10_blames 110 = .ok (.iload 5, 2) := by decide +kernel
theorem dX10_blames_112 : decode cX10_blames 112 = .ok (.iastore, 1) := by decide +kernel
theorem dX10_blames_113 : decode cX10_blames 113 = .ok (.aload_n 0, 1) := by decide +kernel
theorem dX10_blames_114 : decode cX10_blames 114 = .ok (.getfield 53, 3) := by decide +kernel
theorem dX10_blames_117 : decode cX10_blames 117 = .ok (.iload 7, 2) := by decide +kernel
theorem dX10_blames_119 : decode cX10_blames 119 = .ok (.iconst 5, 1) := by decide +kernel
theorem dX10_blames_120 : decode cX10_blames 120 = .ok (.iadd, 1) := by decide +kernel
theorem dX10_blames_121 : decode cX10_blames 121 = .ok (.iload 6, 2) := by decide +kernel
theorem dX10_blames_123 : decode cX10_blames 123 = .ok (.iastore, 1) := by decide +kernel
theorem dX10_blames_124 : decode cX10_blames 124 = .ok (.aload_n 0, 1) := by decide +kernel
theorem dX10_blames_125 : decode cX10_blames 125 = .ok (.aload_n 0, 1) := by decide +kernel
theorem dX10_blames_126 : decode cX10_blames 126 = .ok (.getfield 129, 3) := by decide +kernel
theorem dX10_blames_129 : decode cX10_blames 129 = .ok (.iconst 1, 1) := by decide +kernel
theorem dX10_blames_130 : decode cX10_blames 130 = .ok (.iadd, 1) := by decide +kernel
theorem dX10_blames_131 : decode cX10_blames 131 = .ok (.putfield 129, 3) := by decide +kernel
theorem dX10_blames_134 : decode cX10_blames 134 = .ok (.return_, 1) := by decide +kernel
theorem dX10_putsPost_0 : decode cX10_putsPost 0 = .ok (.aload_n 0, 1) := by decide +kernel
theorem dX10_putsPost_1 : decode cX10_putsPost 1 = .ok (.getfield 126, 3) := by decide +kernel
theorem dX10_putsPost_4 : decode cX10_putsPost 4 = .ok (.bipush 40, 2) := by decide +kernel
theorem dX10_putsPost_6 : decode cX10_putsPost 6 = .ok (.if_icmp .ne 42, 3) := by decide +kernel
theorem dX10_putsPost_9 : decode cX10_putsPost 9 = .ok (.iconst 4, 1) := by decide +kernel
theorem dX10_putsPost_10 : decode cX10_putsPost 10 = .ok (.istore_n 2, 1) := by decide +kernel
theorem dX10_putsPost_11 : decode cX10_putsPost 11 = .ok (.iload_n 2, 1) := by decide +kernel
theorem dX10_putsPost_12 : decode cX10_putsPost 12 = .ok (.sipush 160, 3) := by decide +kernel
theorem dX10_putsPost_15 : decode cX10_putsPost 15 = .ok (.if_icmp .ge 23, 3) := by decide +kernel
theorem dX10_putsPost_18 : decode cX10_putsPost 18 = .ok (.aload_n 0, 1) := by decide +kernel
theorem dX10_putsPost_19 : decode cX10_putsPost 19 = .ok (.getfield 50, 3) := by decide +kernel
theorem dX10_putsPost_22 : decode cX10_putsPost 22 = .ok (.iload_n 2, 1) := by decide +kernel
theorem dX10_putsPost_23 : decode cX10_putsPost 23 = .ok (.iconst 4, 1) := by decide +kernel
theorem dX10_putsPost_24 : decode cX10_putsPost 24 = .ok (.isub, 1) := by decide +kernel
theorem dX10_putsPost_25 : decode cX10_putsPost 25 = .ok (.aload_n 0, 1) := by decide +kernel
theorem dX10_putsPost_26 : decode cX10_putsPost 26 = .ok (.getfield 50, 3) := by decide +kernel
theorem dX10_putsPost_29 : decode cX10_putsPost 29 = .ok (.iload_n 2, 1) := by decide +kernel
theorem dX10_putsPost_30 : decode cX10_putsPost 30 = .ok (.iaload, 1) := by decide +kernel
theorem dX10_putsPost_31 : decode cX10_putsPost 31 = .ok (.iastore, 1) := by decide +kernel
theorem dX10_putsPost_32 : decode cX10_putsPost 32 = .ok (.iinc 2 1, 3) := by decide +kernel
theorem dX10_putsPost_35 : decode cX10_putsPost 35 = .ok (.goto (-24), 3) := by decide +kernel
theorem dX10_putsPost_38 : decode cX10_putsPost 38 = .ok (.aload_n 0, 1) := by decide +kernel
theorem dX10_putsPost_39 : decode cX10_putsPost 39 = .ok (.aload_n 0, 1) := by decide +kernel
theorem dX10_putsPost_40 : decode cX10_putsPost 40 = .ok (.getfield 126, 3) := by decide +kernel
theorem dX10_putsPost_43 : decode cX10_putsPost 43 = .ok (.iconst 1, 1) := by decide +kernel
theorem dX10_putsPost_44 : decode cX10_putsPost 44 = .ok (.isub, 1) := by decide +kernel
theorem dX10_putsPost_45 : decode cX10_putsPost 45 = .ok (.putfield 126, 3) := by decide +kernel
theorem dX10_putsPost_48 : decode cX10_putsPost 48 = .ok (.aload_n 0, 1) := by decide +kernel
theorem dX10_putsPost_49 : decode cX10_putsPost 49 = .ok (.aload_n 0, 1) := by decide +kernel
theorem dX10_putsPost_50 : decode cX10_putsPost 50 = .ok (.getfield 132, 3) := by decide +kernel
theorem dX10_putsPost_53 : decode cX10_putsPost 53 = .ok (.i2l, 1) := by decide +kernel
theorem dX10_putsPost_54 : decode cX10_putsPost 54 = .ok (.ldc2_w 98, 3) := by decide +kernel
theorem dX10_putsPost_57 : decode cX10_putsPost 57 = .ok (.lmul, 1) := by decide +kernel
theorem dX10_putsPost_58 : decode cX10_putsPost 58 = .ok (.aload_n 0, 1) := by decide +kernel
theorem dX10_putsPost_59 : decode cX10_putsPost 59 = .ok (.iload_n 1, 1) := by decide +kernel
theorem dX10_putsPost_60 : decode cX10_putsPost 60 = .ok (.invokevirtual 139, 3) := by decide +kernel
theorem dX10_putsPost_63 : decode cX10_putsPost 63 = .ok (.i2l, 1) := by decide +kernel
theorem dX10_putsPost_64 : decode cX10_putsPost 64 = .ok (.ldc2_w 106, 3) := by decide +kernel
theorem dX10_putsPost_67 : decode cX10_putsPost 67 = .ok (.lmul, 1) := by decide +kernel
theorem dX10_putsPost_68 : decode cX10_putsPost 68 = .ok (.ladd, 1) := by decide +kernel
theorem dX10_putsPost_69 : decode cX10_putsPost 69 = .ok (.aload_n 0, 1) := by decide +kernel
theorem dX10_putsPost_70 : decode cX10_putsPost 70 = .ok (.getfield 34, 3) := by decide +kernel
theorem dX10_putsPost_73 : decode cX10_putsPost 73 = .ok (.iload_n 1, 1) := by decide +kernel
theorem dX10_putsPost_74 : decode cX10_putsPost 74 = .ok (.iaload, 1) := by decide +kernel
theorem dX10_putsPost_75 : decode cX10_putsPost 75 = .ok (.i2l, 1) := by decide +kernel
theorem dX10_putsPost_76 : decode cX10_putsPost 76 = .ok (.ldc2_w 114, 3) := by decide +kernel
theorem dX10_putsPost_79 : decode cX10_putsPost 79 = .ok (.lmul, 1) := by decide +kernel
theorem dX10_putsPost_80 : decode cX10_putsPost 80 = .ok (.ladd, 1) := by decide +kernel
theorem dX10_putsPost_81 : decode cX10_putsPost 81 = .ok (.iload_n 1, 1) := by decide +kernel
theorem dX10_putsPost_82 : decode cX10_putsPost 82 = .ok (.i2l, 1) := by decide +kernel
theorem dX10_putsPost_83 : decode cX10_putsPost 83 = .ok (.ladd, 1) := by decide +kernel
theorem dX10_putsPost_84 : decode cX10_putsPost 84 = .ok (.invokestatic 102, 3) := by decide +kernel
theorem dX10_putsPost_87 : decode cX10_putsPost 87 = .ok (.putfield 132, 3) := by decide +kernel
theorem dX10_putsPost_90 : decode cX10_putsPost 90 = .ok (.iconst 4, 1) := by decide +kernel
theorem dX10_putsPost_91 : decode cX10_putsPost 91 = .ok (.aload_n 0, 1) := by decide +kernel
theorem dX10_putsPost_92 : decode cX10_putsPost 92 = .ok (.getfield 126, 3) := by decide +kernel
theorem dX10_putsPost_95 : decode cX10_putsPost 95 = .ok (.imul, 1) := by decide +kernel
theorem dX10_putsPost_96 : decode cX10_putsPost 96 = .ok (.istore_n 2, 1) := by decide +kernel
theorem dX10_putsPost_97 : decode cX10_putsPost 97 = .ok (.aload_n 0, 1) := by decide +kernel
theorem dX10_putsPost_98 : decode cX10_putsPost 98 = .ok (.getfield 50, 3) := by decide +kernel
theorem dX10_putsPost_101 : decode cX10_putsPost 101 = .ok (.iload_n 2, 1) := by decide +kernel
theorem dX10_putsPost_102 : decode cX10_putsPost 102 = .ok (.iload_n 1, 1) := by decide +kernel
theorem dX10_putsPost_103 : decode cX10_putsPost 103 = .ok (.iastore, 1) := by decide +kernel
theorem dX10_putsPost_104 : decode cX10_putsPost 104 = .ok (.aload_n 0, 1) := by decide +kernel
theorem dX10_putsPost_105 : decode cX10_putsPost 105 = .ok (.getfield 50, 3) := by decide +kernel
theorem dX10_putsPost_108 : decode cX10_putsPost 108 = .ok (.iload_n 2, 1) := by decide +kernel
theorem dX10_putsPost_109 : decode cX10_putsPost 109 = .ok (.iconst 1, 1) := by decide +kernel
theorem dX10_putsPost_110 : decode cX10_putsPost 110 = .ok (.iadd, 1) := by decide +kernel
theorem dX10_putsPost_111 : decode cX10_putsPost 111 = .ok (.aload_n 0, 1) := by decide +kernel
theorem dX10_putsPost_112 : decode cX10_putsPost 112 = .ok (.getfield 34, 3) := by decide +kernel
theorem dX10_putsPost_115 : decode cX10_putsPost 115 = .ok (.iload_n 1, 1) := by decide +kernel
theorem dX10_putsPost_116 : decode cX10_putsPost 116 = .ok (.iaload, 1) := by decide +kernel
theorem dX10_putsPost_117 : decode cX10_putsPost 117 = .ok (.iastore, 1) := by decide +kernel
theorem dX10_putsPost_118 : decode cX10_putsPost 118 = .ok (.aload_n 0, 1) := by decide +kernel
theorem dX10_putsPost_119 : decode cX10_putsPost 119 = .ok (.getfield 50, 3) := by decide +kernel
theorem dX10_putsPost_122 : decode cX10_putsPost 122 = .ok (.iload_n 2, 1) := by decide +kernel
theorem dX10_putsPost_123 : decode cX10_putsPost 123 = .ok (.iconst 2, 1) := by decide +kernel
theorem dX10_putsPost_124 : decode cX10_putsPost 124 = .ok (.iadd, 1) := by decide +kernel
theorem dX10_putsPost_125 : decode cX10_putsPost 125 = .ok (.aload_n 0, 1) := by decide +kernel
theorem dX10_putsPost_126 : decode cX10_putsPost 126 = .ok (.iload_n 1, 1) := by decide +kernel
theorem dX10_putsPost_127 : decode cX10_putsPost 127 = .ok (.invokevirtual 139, 3) := by decide +kernel
theorem dX10_putsPost_130 : decode cX10_putsPost 130 = .ok (.iastore, 1) := by decide +kernel
theorem dX10_putsPost_131 : decode cX10_putsPost 131 = .ok (.aload_n 0, 1) := by decide +kernel
theorem dX10_putsPost_132 : decode cX10_putsPost 132 = .ok (.getfield 50, 3) := by decide +kernel
theorem dX10_putsPost_135 : decode cX10_putsPost 135 = .ok (.iload_n 2, 1) := by decide +kernel
theorem dX10_putsPost_136 : decode cX10_putsPost 136 = .ok (.iconst 3, 1) := by decide +kernel
theorem dX10_putsPost_137 : decode cX10_putsPost 137 = .ok (.iadd, 1) := by decide +kernel
theorem dX10_putsPost_138 : decode cX10_putsPost 138 = .ok (.aload_n 0, 1) := by decide +kernel
theorem dX10_putsPost_139 : decode cX10_putsPost 139 = .ok (.getfield 132, 3) := by decide +kernel
theorem dX10_putsPost_142 : decode cX10_putsPost 142 = .ok (.iastore, 1) := by decide +kernel
theorem dX10_putsPost_143 : decode cX10_putsPost 143 = .ok (.aload_n 0, 1) := by decide +kernel
theorem dX10_putsPost_144 : decode cX10_putsPost 144 = .ok (.aload_n 0, 1) := by decide +kernel
theorem dX10_putsPost_145 : decode cX10_putsPost 145 = .ok (.getfield 126, 3) := by decide +kernel
theorem dX10_putsPost_148 : decode cX10_putsPost 148 = .ok (.iconst 1, 1) := by decide +kernel
theorem dX10_putsPost_149 : decode cX10_putsPost 149 = .ok (.iadd, 1) := by decide +kernel
theorem dX10_putsPost_150 : decode cX10_putsPost 150 = .ok (.putfield 126, 3) := by decide +kernel
theorem dX10_putsPost_153 : decode cX10_putsPost 153 = .ok (.return_, 1) := by decide +kernel
theorem dX10_finds_0 : decode cX10_finds 0 = .ok (.aload_n 0, 1) := by decide +kernel
theorem dX10_finds_1 : decode cX10_finds 1 = .ok (.getfield 31, 3) := by decide +kernel
theorem dX10_finds_4 : decode cX10_finds 4 = .ok (.iload_n 1, 1) := by decide +kernel
theorem dX10_finds_5 : decode cX10_finds 5 = .ok (.iaload, 1) := by decide +kernel
theorem dX10_finds_6 : decode cX10_finds 6 = .ok (.istore_n 2, 1) := by decide +kernel
theorem dX10_finds_7 : decode cX10_finds 7 = .ok (.aload_n 0, 1) := by decide +kernel
theorem dX10_finds_8 : decode cX10_finds 8 = .ok (.getfield 34, 3) := by decide +kernel
theorem dX10_finds_11 : decode cX10_finds 11 = .ok (.iload_n 1, 1) := by decide +kernel
theorem dX10_finds_12 : decode cX10_finds 12 = .ok (.iaload, 1) := by decide +kernel
theorem dX10_finds_13 : decode cX10_finds 13 = .ok (.istore_n 3, 1) := by decide +kernel
theorem dX10_finds_14 : decode cX10_finds 14 = .ok (.aload_n 0, 1) := by decide +kernel
theorem dX10_finds_15 : decode cX10_finds 15 = .ok (.iload_n 3, 1) := by decide +kernel
theorem dX10_finds_16 : decode cX10_finds 16 = .ok (.putfield 143, 3) := by decide +kernel
theorem dX10_finds_19 : decode cX10_finds 19 = .ok (.aload_n 0, 1) := by decide +kernel
theorem dX10_finds_20 : decode cX10_finds 20 = .ok (.getfield 7, 3) := by decide +kernel
theorem dX10_finds_23 : decode cX10_finds 23 = .ok (.iload_n 2, 1) := by decide +kernel
theorem dX10_finds_24 : decode cX10_finds 24 = .ok (.iaload, 1) := by decide +kernel
theorem dX10_finds_25 : decode cX10_finds 25 = .ok (.iload_n 3, 1) := by decide +kernel
theorem dX10_finds_26 : decode cX10_finds 26 = .ok (.if_icmp .ge 5, 3) := by decide +kernel
theorem dX10_finds_29 : decode cX10_finds 29 = .ok (.iconst 1, 1) := by decide +kernel
theorem dX10_finds_30 : decode cX10_finds 30 = .ok (.ireturn, 1) := by decide +kernel
theorem dX10_finds_31 : decode cX10_finds 31 = .ok (.aload_n 0, 1) := by decide +kernel
theorem dX10_finds_32 : decode cX10_finds 32 = .ok (.iload_n 2, 1) := by decide +kernel
theorem dX10_finds_33 : decode cX10_finds 33 = .ok (.iload_n 3, 1) := by decide +kernel
theorem dX10_finds_34 : decode cX10_finds 34 = .ok (.invokevirtual 95, 3) := by decide +kernel
theorem dX10_finds_37 : decode cX10_finds 37 = .ok (.aload_n 0, 1) := by decide +kernel
theorem dX10_finds_38 : decode cX10_finds 38 = .ok (.iload_n 1, 1) := by decide +kernel
theorem dX10_finds_39 : decode cX10_finds 39 = .ok (.invokevirtual 139, 3) := by decide +kernel
theorem dX10_finds_42 : decode cX10_finds 42 = .ok (.if_icmp .eq 44, 3) := by decide +kernel
theorem dX10_finds_45 : decode cX10_finds 45 = .ok (.aload_n 0, 1) := by decide +kernel
theorem dX10_finds_46 : decode cX10_finds 46 = .ok (.iconst 0, 1) := by decide +kernel
theorem dX10_finds_47 : decode cX10_finds 47 = .ok (.putfield 143, 3) := by decide +kernel
theorem dX10_finds_50 : decode cX10_finds 50 = .ok (.aload_n 0, 1) := by decide +kernel
theorem dX10_finds_51 : decode cX10_finds 51 = .ok (.iload_n 2, 1) := by decide +kernel
theorem dX10_finds_52 : decode cX10_finds 52 = .ok (.aload_n 0, 1) := by decide +kernel
theorem dX10_finds_53 : decode cX10_finds 53 = .ok (.getfield 143, 3) := by decide +kernel
theorem dX10_finds_56 : decode cX10_finds 56 = .ok (.invokevirtual 95, 3) := by decide +kernel
theorem dX10_finds_59 : decode cX10_finds 59 = .ok (.aload_n 0, 1) := by decide +kernel
theorem dX10_finds_60 : decode cX10_finds 60 = .ok (.iload_n 1, 1) := by decide +kernel
theorem dX10_finds_61 : decode cX10_finds 61 = .ok (.aload_n 0, 1) := by decide +kernel
theorem dX10_finds_62 : decode cX10_finds 62 = .ok (.getfield 143, 3) := by decide +kernel
theorem dX10_finds_65 : decode cX10_finds 65 = .ok (.invokevirtual 90, 3) := by decide +kernel
theorem dX10_finds_68 : decode cX10_finds 68 = .ok (.if_icmp .ne 16, 3) := by decide +kernel
theorem dX10_finds_71 : decode cX10_finds 71 = .ok (.aload_n 0, 1) := by decide +kernel
theorem dX10_finds_72 : decode cX10_finds 72 = .ok (.aload_n 0, 1) := by decide +kernel
theorem dX10_finds_73 : decode cX10_finds 73 = .ok (.getfield 143, 3) := by decide +kernel
theorem dX10_finds_76 : decode cX10_finds 76 = .ok (.iconst 1, 1) := by decide +kernel
theorem dX10_finds_77 : decode cX10_finds 77 = .ok (.iadd, 1) := by decide +kernel
theorem dX10_finds_78 : decode cX10_finds 78 = .ok (.putfield 143, 3) := by decide +kernel
theorem dX10_finds_81 : decode cX10_finds 81 = .ok (.goto (-31), 3) := by decide +kernel
theorem dX10_finds_84 : decode cX10_finds 84 = .ok (.iconst 2, 1) := by decide +kernel
theorem dX10_finds_85 : decode cX10_finds 85 = .ok (.ireturn, 1) := by decide +kernel
theorem dX10_finds_86 : decode cX10_finds 86 = .ok (.iload_n 3, 1) := by decide +kernel
theorem dX10_finds_87 : decode cX10_finds 87 = .ok (.iconst 1, 1) := by decide +kernel
theorem dX10_finds_88 : decode cX10_finds 88 = .ok (.iadd, 1) := by decide +kernel
theorem dX10_finds_89 : decode cX10_finds 89 = .ok (.istore 4, 2) := by decide +kernel
theorem dX10_finds_91 : decode cX10_finds 91 = .ok (.iload 4, 2) := by decide +kernel
theorem dX10_finds_93 : decode cX10_finds 93 = .ok (.aload_n 0, 1) := by decide +kernel
theorem dX10_finds_94 : decode cX10_finds 94 = .ok (.getfield 7, 3) := by decide +kernel
theorem dX10_finds_97 : decode cX10_finds 97 = .ok (.iload_n 2, 1) := by decide +kernel
theorem dX10_finds_98 : decode cX10_finds 98 = .ok (.iaload, 1) := by decide +kernel
theorem dX10_finds_99 : decode cX10_finds 99 = .ok (.if_icmp .gt 34, 3) := by decide +kernel
theorem dX10_finds_102 : decode cX10_finds 102 = .ok (.aload_n 0, 1) := by decide +kernel
theorem dX10_finds_103 : decode cX10_finds 103 = .ok (.iload_n 2, 1) := by decide +kernel
theorem dX10_finds_104 : decode cX10_finds 104 = .ok (.iload 4, 2) := by decide +kernel
theorem dX10_finds_106 : decode cX10_finds 106 = .ok (.invokevirtual 120, 3) := by decide +kernel
theorem dX10_finds_109 : decode cX10_finds 109 = .ok (.aload_n 0, 1) := by decide +kernel
theorem dX10_finds_110 : decode cX10_finds 110 = .ok (.iload_n 2, 1) := by decide +kernel
theorem dX10_finds_111 : decode cX10_finds 111 = .ok (.iload 4, 2) := by decide +kernel
theorem dX10_finds_113 : decode cX10_finds 113 = .ok (.invokevirtual 95, 3) := by decide +kernel
theorem dX10_finds_116 : decode cX10_finds 116 = .ok (.if_icmp .eq 11, 3) := by decide +kernel
theorem dX10_finds_119 : decode cX10_finds 119 = .ok (.aload_n 0, 1) := by decide +kernel
theorem dX10_finds_120 : decode cX10_finds 120 = .ok (.iload 4, 2) := by decide +kernel
theorem dX10_finds_122 : decode cX10_finds 122 = .ok (.putfield 143, 3) := by decide +kernel
theorem dX10_finds_125 : decode cX10_finds 125 = .ok (.iconst 3, 1) := by decide +kernel
theorem dX10_finds_126 : decode cX10_finds 126 = .ok (.ireturn, 1) := by decide +kernel
theorem dX10_finds_127 : decode cX10_finds 127 = .ok (.iinc 4 1, 3) := by decide +kernel
theorem dX10_finds_130 : decode cX10_finds 130 = .ok (.goto (-39), 3) := by decide +kernel
theorem dX10_finds_133 : decode cX10_finds 133 = .ok (.iconst 0, 1) := by decide +kernel
theorem dX10_finds_134 : decode cX10_finds 134 = .ok (.istore 4, 2) := by decide +kernel
theorem dX10_finds_136 : decode cX10_finds 136 = .ok (.iload 4, 2) := by decide +kernel
theorem dX10_finds_138 : decode cX10_finds 138 = .ok (.aload_n 0, 1) := by decide +kernel
theorem dX10_finds_139 : decode cX10_finds 139 = .ok (.getfield 126, 3) := by decide +kernel
theorem dX10_finds_142 : decode cX10_finds 142 = .ok (.if_icmp .ge 62, 3) := by decide +kernel
theorem dX10_finds_145 : decode cX10_finds 145 = .ok (.aload_n 0, 1) := by decide +kernel
theorem dX10_finds_146 : decode cX10_finds 146 = .ok (.getfield 50, 3) := by decide +kernel
theorem dX10_finds_149 : decode cX10_finds 149 = .ok (.iconst 4, 1) := by decide +kernel
theorem dX10_finds_150 : decode cX10_finds 150 = .ok (.iload 4, 2) := by decide +kernel
theorem dX10_finds_152 : decode cX10_finds 152 = .ok (.imul, 1) := by decide +kernel
theorem dX10_finds_153 : decode cX10_finds 153 = .ok (.iconst 1, 1) := by decide +kernel
theorem dX10_finds_154 : decode cX10_finds 154 = .ok (.iadd, 1) := by decide +kernel
theorem dX10_finds_155 : decode cX10_finds 155 = .ok (.iaload, 1) := by decide +kernel
theorem dX10_finds_156 : decode cX10_finds 156 = .ok (.istore 5, 2) := by decide +kernel
theorem dX10_finds_158 : decode cX10_finds 158 = .ok (.iload 5, 2) := by decide +kernel
theorem dX10_finds_160 : decode cX10_finds 160 = .ok (.aload_n 0, 1) := by decide +kernel
theorem dX10_finds_161 : decode cX10_finds 161 = .ok (.getfield 7, 3) := by decide +kernel
theorem dX10_finds_164 : decode cX10_finds 164 = .ok (.iload_n 2, 1) := by decide +kernel
theorem dX10_finds_165 : decode cX10_finds 165 = .ok (.iaload, 1) := by decide +kernel
theorem dX10_finds_166 : decode cX10_finds 166 = .ok (.if_icmp .gt 32, 3) := by decide +kernel
theorem dX10_finds_169 : decode cX10_finds 169 = .ok (.aload_n 0, 1) := by decide +kernel
theorem dX10_finds_170 : decode cX10_finds 170 = .ok (.getfield 50, 3) := by decide +kernel
theorem dX10_finds_173 : decode cX10_finds 173 = .ok (.iconst 4, 1) := by decide +kernel
theorem dX10_finds_174 : decode cX10_finds 174 = .ok (.iload 4, 2) := by decide +kernel
theorem dX10_finds_176 : decode cX10_finds 176 = .ok (.imul, 1) := by decide +kernel
theorem dX10_finds_177 : decode cX10_finds 177 = .ok (.iconst 2, 1) := by decide +kernel
theorem dX10_finds_178 : decode cX10_finds 178 = .ok (.iadd, 1) := by decide +kernel
theorem dX10_finds_179 : decode cX10_finds 179 = .ok (.iaload, 1) := by decide +kernel
theorem dX10_finds_180 : decode cX10_finds 180 = .ok (.aload_n 0, 1) := by decide +kernel
theorem dX10_finds_181 : decode cX10_finds 181 = .ok (.iload_n 2, 1) := by decide +kernel
theorem dX10_finds_182 : decode cX10_finds 182 = .ok (.iload 5, 2) := by decide +kernel
theorem dX10_finds_184 : decode cX10_finds 184 = .ok (.invokevirtual 95, 3) := by decide +kernel
theorem dX10_finds_187 : decode cX10_finds 187 = .ok (.if_icmp .eq 11, 3) := by decide +kernel
theorem dX10_finds_190 : decode cX10_finds 190 = .ok (.aload_n 0, 1) := by decide +kernel
theorem dX10_finds_191 : decode cX10_finds 191 = .ok (.iload 4, 2) := by decide +kernel
theorem dX10_finds_193 : decode cX10_finds 193 = .ok (.putfield 143, 3) := by decide +kernel
theorem dX10_finds_196 : decode cX10_finds 196 = .ok (.iconst 4, 1) := by decide +kernel
theorem dX10_finds_197 : decode cX10_finds 197 = .ok (.ireturn, 1) := by decide +kernel
theorem dX10_finds_198 : decode cX10_finds 198 = .ok (.iinc 4 1, 3) := by decide +kernel
theorem dX10_finds_201 : decode cX10_finds 201 = .ok (.goto (-65), 3) := by decide +kernel
theorem dX10_finds_204 : decode cX10_finds 204 = .ok (.iconst 0, 1) := by decide +kernel
theorem dX10_finds_205 : decode cX10_finds 205 = .ok (.ireturn, 1) := by decide +kernel
theorem dX10_suspects_0 : decode cX10_suspects 0 = .ok (.aload_n 0, 1) := by decide +kernel
theorem dX10_suspects_1 : decode cX10_suspects 1 = .ok (.getfield 31, 3) := by decide +kernel
theorem dX10_suspects_4 : decode cX10_suspects 4 = .ok (.iload_n 1, 1) := by decide +kernel
theorem dX10_suspects_5 : decode cX10_suspects 5 = .ok (.iaload, 1) := by decide +kernel
theorem dX10_suspects_6 : decode cX10_suspects 6 = .ok (.istore_n 3, 1) := by decide +kernel
theorem dX10_suspects_7 : decode cX10_suspects 7 = .ok (.aload_n 0, 1) := by decide +kernel
theorem dX10_suspects_8 : decode cX10_suspects 8 = .ok (.getfield 143, 3) := by decide +kernel
theorem dX10_suspects_11 : decode cX10_suspects 11 = .ok (.istore 4, 2) := by decide +kernel
theorem dX10_suspects_13 : decode cX10_suspects 13 = .ok (.iload_n 2, 1) := by decide +kernel
theorem dX10_suspects_14 : decode cX10_suspects 14 = .ok (.tableswitch 108 1 3 #[26, 56, 82], 26) := by decide +kernel
theorem dX10_suspects_40 : decode cX10_suspects 40 = .ok (.aload_n 0, 1) := by decide +kernel
theorem dX10_suspects_41 : decode cX10_suspects 41 = .ok (.iconst 1, 1) := by decide +kernel
theorem dX10_suspects_42 : decode cX10_suspects 42 = .ok (.iload_n 1, 1) := by decide +kernel
theorem dX10_suspects_43 : decode cX10_suspects 43 = .ok (.iconst (-1), 1) := by decide +kernel
theorem dX10_suspects_44 : decode cX10_suspects 44 = .ok (.iload 4, 2) := by decide +kernel
theorem dX10_suspects_46 : decode cX10_suspects 46 = .ok (.aload_n 0, 1) := by decide +kernel
theorem dX10_suspects_47 : decode cX10_suspects 47 = .ok (.iload_n 1, 1) := by decide +kernel
theorem dX10_suspects_48 : decode cX10_suspects 48 = .ok (.iload 4, 2) := by decide +kernel
theorem dX10_suspects_50 : decode cX10_suspects 50 = .ok (.invokevirtual 90, 3) := by decide +kernel
theorem dX10_suspects_53 : decode cX10_suspects 53 = .ok (.aload_n 0, 1) := by decide +kernel
theorem dX10_suspects_54 : decode cX10_suspects 54 = .ok (.iload_n 3, 1) := by decide +kernel
theorem dX10_suspects_55 : decode cX10_suspects 55 = .ok (.aload_n 0, 1) := by decide +kernel
theorem dX10_suspects_56 : decode cX10_suspects 56 = .ok (.getfield 7, 3) := by decide +kernel
theorem dX10_suspects_59 : decode cX10_suspects 59 = .ok (.iload_n 3, 1) := by decide +kernel
theorem dX10_suspects_60 : decode cX10_suspects 60 = .ok (.iaload, 1) := by decide +kernel
theorem dX10_suspects_61 : decode cX10_suspects 61 = .ok (.invokevirtual 95, 3) := by decide +kernel
theorem dX10_suspects_64 : decode cX10_suspects 64 = .ok (.invokevirtual 146, 3) := by decide +kernel
theorem dX10_suspects_67 : decode cX10_suspects 67 = .ok (.goto 108, 3) := by decide +kernel
theorem dX10_suspects_70 : decode cX10_suspects 70 = .ok (.aload_n 0, 1) := by decide +kernel
theorem dX10_suspects_71 : decode cX10_suspects 71 = .ok (.iconst 2, 1) := by decide +kernel
theorem dX10_suspects_72 : decode cX10_suspects 72 = .ok (.iload_n 1, 1) := by decide +kernel
theorem dX10_suspects_73 : decode cX10_suspects 73 = .ok (.iconst (-1), 1) := by decide +kernel
theorem dX10_suspects_74 : decode cX10_suspects 74 = .ok (.iload 4, 2) := by decide +kernel
theorem dX10_suspects_76 : decode cX10_suspects 76 = .ok (.aload_n 0, 1) := by decide +kernel
theorem dX10_suspects_77 : decode cX10_suspects 77 = .ok (.iload_n 1, 1) := by decide +kernel
theorem dX10_suspects_78 : decode cX10_suspects 78 = .ok (.iload 4, 2) := by decide +kernel
theorem dX10_suspects_80 : decode cX10_suspects 80 = .ok (.invokevirtual 90, 3) := by decide +kernel
theorem dX10_suspects_83 : decode cX10_suspects 83 = .ok (.aload_n 0, 1) := by decide +kernel
theorem dX10_suspects_84 : decode cX10_suspects 84 = .ok (.iload_n 3, 1) := by decide +kernel
theorem dX10_suspects_85 : decode cX10_suspects 85 = .ok (.iload 4, 2) := by decide +kernel
theorem dX10_suspects_87 : decode cX10_suspects 87 = .ok (.invokevirtual 95, 3) := by decide +kernel
theorem dX10_suspects_90 : decode cX10_suspects 90 = .ok (.invokevirtual 146, 3) := by decide +kernel
theorem dX10_suspects_93 : decode cX10_suspects 93 = .ok (.goto 82, 3) := by decide +kernel
theorem dX10_suspects_96 : decode cX10_suspects 96 = .ok (.aload_n 0, 1) := by decide +kernel
theorem dX10_suspects_97 : decode cX10_suspects 97 = .ok (.iconst 3, 1) := by decide +kernel
theorem dX10_suspects_98 : decode cX10_suspects 98 = .ok (.iload_n 1, 1) := by decide +kernel
theorem dX10_suspects_99 : decode cX10_suspects 99 = .ok (.iconst (-1), 1) := by decide +kernel
theorem dX10_suspects_100 : decode cX10_suspects 100 = .ok (.iload 4, 2) := by decide +kernel
theorem dX10_suspects_102 : decode cX10_suspects 102 = .ok (.aload_n 0, 1) := by decide +kernel
theorem dX10_suspects_103 : decode cX10_suspects 103 = .ok (.iload_n 3, 1) := by decide +kernel
theorem dX10_suspects_104 : decode cX10_suspects 104 = .ok (.iload 4, 2) := by decide +kernel
theorem dX10_suspects_106 : decode cX10_suspects 106 = .ok (.invokevirtual 120, 3) := by decide +kernel
theorem dX10_suspects_109 : decode cX10_suspects 109 = .ok (.aload_n 0, 1) := by decide +kernel
theorem dX10_suspects_110 : decode cX10_suspects 110 = .ok (.iload_n 3, 1) := by decide +kernel
theorem dX10_suspects_111 : decode cX10_suspects 111 = .ok (.iload 4, 2) := by decide +kernel
theorem dX10_suspects_113 : decode cX10_suspects 113 = .ok (.invokevirtual 95, 3) := by decide +kernel
theorem dX10_suspects_116 : decode cX10_suspects 116 = .ok (.invokevirtual 146, 3) := by decide +kernel
theorem dX10_suspects_119 : decode cX10_suspects 119 = .ok (.goto 56, 3) := by decide +kernel
theorem dX10_suspects_122 : decode cX10_suspects 122 = .ok (.aload_n 0, 1) := by decide +kernel
theorem dX10_suspects_123 : decode cX10_suspects 123 = .ok (.iconst 2, 1) := by decide +kernel
theorem dX10_suspects_124 : decode cX10_suspects 124 = .ok (.iload_n 1, 1) := by decide +kernel
theorem dX10_suspects_125 : decode cX10_suspects 125 = .ok (.aload_n 0, 1) := by decide +kernel
theorem dX10_suspects_126 : decode cX10_suspects 126 = .ok (.getfield 50, 3) := by decide +kernel
theorem dX10_suspects_129 : decode cX10_suspects 129 = .ok (.iconst 4, 1) := by decide +kernel
theorem dX10_suspects_130 : decode cX10_suspects 130 = .ok (.iload 4, 2) := by decide +kernel
theorem dX10_suspects_132 : decode cX10_suspects 132 = .ok (.imul, 1) := by decide +kernel
theorem dX10_suspects_133 : decode cX10_suspects 133 = .ok (.iaload, 1) := by decide +kernel
theorem dX10_suspects_134 : decode cX10_suspects 134 = .ok (.aload_n 0, 1) := by decide +kernel
theorem dX10_suspects_135 : decode cX10_suspects 135 = .ok (.getfield 50, 3) := by decide +kernel
theorem dX10_suspects_138 : decode cX10_suspects 138 = .ok (.iconst 4, 1) := by decide +kernel
theorem dX10_suspects_139 : decode cX10_suspects 139 = .ok (.iload 4, 2) := by decide +kernel
theorem dX10_suspects_141 : decode cX10_suspects 141 = .ok (.imul, 1) := by decide +kernel
theorem dX10_suspects_142 : decode cX10_suspects 142 = .ok (.iconst 1, 1) := by decide +kernel
theorem dX10_suspects_143 : decode cX10_suspects 143 = .ok (.iadd, 1) := by decide +kernel
theorem dX10_suspects_144 : decode cX10_suspects 144 = .ok (.iaload, 1) := by decide +kernel
theorem dX10_suspects_145 : decode cX10_suspects 145 = .ok (.aload_n 0, 1) := by decide +kernel
theorem dX10_suspects_146 : decode cX10_suspects 146 = .ok (.iload_n 3, 1) := by decide +kernel
theorem dX10_suspects_147 : decode cX10_suspects 147 = .ok (.aload_n 0, 1) := by decide +kernel
theorem dX10_suspects_148 : decode cX10_suspects 148 = .ok (.getfield 50, 3) := by decide +kernel
theorem dX10_suspects_151 : decode cX10_suspects 151 = .ok (.iconst 4, 1) := by decide +kernel
theorem dX10_suspects_152 : decode cX10_suspects 152 = .ok (.iload 4, 2) := by decide +kernel
theorem dX10_suspects_154 : decode cX10_suspects 154 = .ok (.imul, 1) := by decide +kernel
theorem dX10_suspects_155 : decode cX10_suspects 155 = .ok (.iconst 1, 1) := by decide +kernel
theorem dX10_suspects_156 : decode cX10_suspects 156 = .ok (.iadd, 1) := by decide +kernel
theorem dX10_suspects_157 : decode cX10_suspects 157 = .ok (.iaload, 1) := by decide +kernel
theorem dX10_suspects_158 : decode cX10_suspects 158 = .ok (.invokevirtual 95, 3) := by decide +kernel
theorem dX10_suspects_161 : decode cX10_suspects 161 = .ok (.aload_n 0, 1) := by decide +kernel
theorem dX10_suspects_162 : decode cX10_suspects 162 = .ok (.getfield 50, 3) := by decide +kernel
theorem dX10_suspects_165 : decode cX10_suspects 165 = .ok (.iconst 4, 1) := by decide +kernel
theorem dX10_suspects_166 : decode cX10_suspects 166 = .ok (.iload 4, 2) := by decide +kernel
theorem dX10_suspects_168 : decode cX10_suspects 168 = .ok (.imul, 1) := by decide +kernel
theorem dX10_suspects_169 : decode cX10_suspects 169 = .ok (.iconst 2, 1) := by decide +kernel
theorem dX10_suspects_170 : decode cX10_suspects 170 = .ok (.iadd, 1) := by decide +kernel
theorem dX10_suspects_171 : decode cX10_suspects 171 = .ok (.iaload, 1) := by decide +kernel
theorem dX10_suspects_172 : decode cX10_suspects 172 = .ok (.invokevirtual 146, 3) := by decide +kernel
theorem dX10_suspects_175 : decode cX10_suspects 175 = .ok (.aload_n 0, 1) := by decide +kernel
theorem dX10_suspects_176 : decode cX10_suspects 176 = .ok (.getfield 46, 3) := by decide +kernel
theorem dX10_suspects_179 : decode cX10_suspects 179 = .ok (.iload_n 1, 1) := by decide +kernel
theorem dX10_suspects_180 : decode cX10_suspects 180 = .ok (.iconst 1, 1) := by decide +kernel
theorem dX10_suspects_181 : decode cX10_suspects 181 = .ok (.bastore, 1) := by decide +kernel
theorem dX10_suspects_182 : decode cX10_suspects 182 = .ok (.return_, 1) := by decide +kernel
theorem dX10_operates_0 : decode cX10_operates 0 = .ok (.aload_n 0, 1) := by decide +kernel
theorem dX10_operates_1 : decode cX10_operates 1 = .ok (.getfield 46, 3) := by decide +kernel
theorem dX10_operates_4 : decode cX10_operates 4 = .ok (.iload_n 1, 1) := by decide +kernel
theorem dX10_operates_5 : decode cX10_operates 5 = .ok (.baload, 1) := by decide +kernel
theorem dX10_operates_6 : decode cX10_operates 6 = .ok (.ifCond .eq 5, 3) := by decide +kernel
theorem dX10_operates_9 : decode cX10_operates 9 = .ok (.iconst 0, 1) := by decide +kernel
theorem dX10_operates_10 : decode cX10_operates 10 = .ok (.ireturn, 1) := by decide +kernel
theorem dX10_operates_11 : decode cX10_operates 11 = .ok (.aload_n 0, 1) := by decide +kernel
theorem dX10_operates_12 : decode cX10_operates 12 = .ok (.iload_n 1, 1) := by decide +kernel
theorem dX10_operates_13 : decode cX10_operates 13 = .ok (.invokevirtual 149, 3) := by decide +kernel
theorem dX10_operates_16 : decode cX10_operates 16 = .ok (.istore 5, 2) := by decide +kernel
theorem dX10_operates_18 : decode cX10_operates 18 = .ok (.iload 5, 2) := by decide +kernel
theorem dX10_operates_20 : decode cX10_operates 20 = .ok (.ifCond .le 12, 3) := by decide +kernel
theorem dX10_operates_23 : decode cX10_operates 23 = .ok (.aload_n 0, 1) := by decide +kernel
theorem dX10_operates_24 : decode cX10_operates 24 = .ok (.iload_n 1, 1) := by decide +kernel
theorem dX10_operates_25 : decode cX10_operates 25 = .ok (.iload 5, 2) := by decide +kernel
theorem dX10_operates_27 : decode cX10_operates 27 = .ok (.invokevirtual 152, 3) := by decide +kernel
theorem dX10_operates_30 : decode cX10_operates 30 = .ok (.iconst 0, 1) := by decide +kernel
theorem dX10_operates_31 : decode cX10_operates 31 = .ok (.ireturn, 1) := by decide +kernel
theorem dX10_operates_32 : decode cX10_operates 32 = .ok (.aload_n 0, 1) := by decide +kernel
theorem dX10_operates_33 : decode cX10_operates 33 = .ok (.getfield 31, 3) := by decide +kernel
theorem dX10_operates_36 : decode cX10_operates 36 = .ok (.iload_n 1, 1) := by decide +kernel
theorem dX10_operates_37 : decode cX10_operates 37 = .ok (.iaload, 1) := by decide +kernel
theorem dX10_operates_38 : decode cX10_operates 38 = .ok (.istore 6, 2) := by decide +kernel
theorem dX10_operates_40 : decode cX10_operates 40 = .ok (.aload_n 0, 1) := by decide +kernel
theorem dX10_operates_41 : decode cX10_operates 41 = .ok (.getfield 7, 3) := by decide +kernel
theorem dX10_operates_44 : decode cX10_operates 44 = .ok (.iload 6, 2) := by decide +kernel
theorem dX10_operates_46 : decode cX10_operates 46 = .ok (.iaload, 1) := by decide +kernel
theorem dX10_operates_47 : decode cX10_operates 47 = .ok (.sipush 200, 3) := by decide +kernel
theorem dX10_operates_50 : decode cX10_operates 50 = .ok (.if_icmp .ne 5, 3) := by decide +kernel
theorem dX10_operates_53 : decode cX10_operates 53 = .ok (.iconst 0, 1) := by decide +kernel
theorem dX10_operates_54 : decode cX10_operates 54 = .ok (.ireturn, 1) := by decide +kernel
theorem dX10_operates_55 : decode cX10_operates 55 = .ok (.aload_n 0, 1) := by decide +kernel
theorem dX10_operates_56 : decode cX10_operates 56 = .ok (.iload 6, 2) := by decide +kernel
theorem dX10_operates_58 : decode cX10_operates 58 = .ok (.iload_n 2, 1) := by decide +kernel
theorem dX10_operates_59 : decode cX10_operates 59 = .ok (.iload_n 1, 1) := by decide +kernel
theorem dX10_operates_60 : decode cX10_operates 60 = .ok (.iload_n 3, 1) := by decide +kernel
theorem dX10_operates_61 : decode cX10_operates 61 = .ok (.iload 4, 2) := by decide +kernel
theorem dX10_operates_63 : decode cX10_operates 63 = .ok (.iconst 0, 1) := by decide +kernel
theorem dX10_operates_64 : decode cX10_operates 64 = .ok (.invokevirtual 155, 3) := by decide +kernel
theorem dX10_operates_67 : decode cX10_operates 67 = .ok (.aload_n 0, 1) := by decide +kernel
theorem dX10_operates_68 : decode cX10_operates 68 = .ok (.iload_n 1, 1) := by decide +kernel
theorem dX10_operates_69 : decode cX10_operates 69 = .ok (.iload 6, 2) := by decide +kernel
theorem dX10_operates_71 : decode cX10_operates 71 = .ok (.invokevirtual 135, 3) := by decide +kernel
theorem dX10_operates_74 : decode cX10_operates 74 = .ok (.aload_n 0, 1) := by decide +kernel
theorem dX10_operates_75 : decode cX10_operates 75 = .ok (.getfield 37, 3) := by decide +kernel
theorem dX10_operates_78 : decode cX10_operates 78 = .ok (.iload_n 1, 1) := by decide +kernel
theorem dX10_operates_79 : decode cX10_operates 79 = .ok (.aload_n 0, 1) := by decide +kernel
theorem dX10_operates_80 : decode cX10_operates 80 = .ok (.getfield 37, 3) := by decide +kernel
theorem dX10_operates_83 : decode cX10_operates 83 = .ok (.iload_n 1, 1) := by decide +kernel
theorem dX10_operates_84 : decode cX10_operates 84 = .ok (.iaload, 1) := by decide +kernel
theorem dX10_operates_85 : decode cX10_operates 85 = .ok (.iconst 1, 1) := by decide +kernel
theorem dX10_operates_86 : decode cX10_operates 86 = .ok (.iadd, 1) := by decide +kernel
theorem dX10_operates_87 : decode cX10_operates 87 = .ok (.iastore, 1) := by decide +kernel
theorem dX10_operates_88 : decode cX10_operates 88 = .ok (.aload_n 0, 1) := by decide +kernel
theorem dX10_operates_89 : decode cX10_operates 89 = .ok (.getfield 37, 3) := by decide +kernel
theorem dX10_operates_92 : decode cX10_operates 92 = .ok (.iload_n 1, 1) := by decide +kernel
theorem dX10_operates_93 : decode cX10_operates 93 = .ok (.iaload, 1) := by decide +kernel
theorem dX10_operates_94 : decode cX10_operates 94 = .ok (.aload_n 0, 1) := by decide +kernel
theorem dX10_operates_95 : decode cX10_operates 95 = .ok (.getfield 158, 3) := by decide +kernel
theorem dX10_operates_98 : decode cX10_operates 98 = .ok (.irem, 1) := by decide +kernel
theorem dX10_operates_99 : decode cX10_operates 99 = .ok (.ifCond .ne 8, 3) := by decide +kernel
theorem dX10_operates_102 : decode cX10_operates 102 = .ok (.aload_n 0, 1) := by decide +kernel
theorem dX10_operates_103 : decode cX10_operates 103 = .ok (.iload_n 1, 1) := by decide +kernel
theorem dX10_operates_104 : decode cX10_operates 104 = .ok (.invokevirtual 161, 3) := by decide +kernel
theorem dX10_operates_107 : decode cX10_operates 107 = .ok (.iconst 1, 1) := by decide +kernel
theorem dX10_operates_108 : decode cX10_operates 108 = .ok (.ireturn, 1) := by decide +kernel
theorem dX10_valueIn_0 : decode cX10_valueIn 0 = .ok (.aload_n 0, 1) := by decide +kernel
theorem dX10_valueIn_1 : decode cX10_valueIn 1 = .ok (.getfield 7, 3) := by decide +kernel
theorem dX10_valueIn_4 : decode cX10_valueIn 4 = .ok (.iload_n 1, 1) := by decide +kernel
theorem dX10_valueIn_5 : decode cX10_valueIn 5 = .ok (.iaload, 1) := by decide +kernel
theorem dX10_valueIn_6 : decode cX10_valueIn 6 = .ok (.istore_n 3, 1) := by decide +kernel
theorem dX10_valueIn_7 : decode cX10_valueIn 7 = .ok (.iload_n 3, 1) := by decide +kernel
theorem dX10_valueIn_8 : decode cX10_valueIn 8 = .ok (.ifCond .le 46, 3) := by decide +kernel
theorem dX10_valueIn_11 : decode cX10_valueIn 11 = .ok (.iload_n 1, 1) := by decide +kernel
theorem dX10_valueIn_12 : decode cX10_valueIn 12 = .ok (.iload_n 3, 1) := by decide +kernel
theorem dX10_valueIn_13 : decode cX10_valueIn 13 = .ok (.invokestatic 86, 3) := by decide +kernel
theorem dX10_valueIn_16 : decode cX10_valueIn 16 = .ok (.istore 4, 2) := by decide +kernel
theorem dX10_valueIn_18 : decode cX10_valueIn 18 = .ok (.aload_n 0, 1) := by decide +kernel
theorem dX10_valueIn_19 : decode cX10_valueIn 19 = .ok (.getfield 13, 3) := by decide +kernel
theorem dX10_valueIn_22 : decode cX10_valueIn 22 = .ok (.iload 4, 2) := by decide +kernel
theorem dX10_valueIn_24 : decode cX10_valueIn 24 = .ok (.iaload, 1) := by decide +kernel
theorem dX10_valueIn_25 : decode cX10_valueIn 25 = .ok (.iconst 1, 1) := by decide +kernel
theorem dX10_valueIn_26 : decode cX10_valueIn 26 = .ok (.if_icmp .ne 22, 3) := by decide +kernel
theorem dX10_valueIn_29 : decode cX10_valueIn 29 = .ok (.aload_n 0, 1) := by decide +kernel
theorem dX10_valueIn_30 : decode cX10_valueIn 30 = .ok (.getfield 19, 3) := by decide +kernel
theorem dX10_valueIn_33 : decode cX10_valueIn 33 = .ok (.iload 4, 2) := by decide +kernel
theorem dX10_valueIn_35 : decode cX10_valueIn 35 = .ok (.iaload, 1) := by decide +kernel
theorem dX10_valueIn_36 : decode cX10_valueIn 36 = .ok (.iload_n 2, 1) := by decide +kernel
theorem dX10_valueIn_37 : decode cX10_valueIn 37 = .ok (.if_icmp .ne 11, 3) := by decide +kernel
theorem dX10_valueIn_40 : decode cX10_valueIn 40 = .ok (.aload_n 0, 1) := by decide +kernel
theorem dX10_valueIn_41 : decode cX10_valueIn 41 = .ok (.getfield 22, 3) := by decide +kernel
theorem dX10_valueIn_44 : decode cX10_valueIn 44 = .ok (.iload 4, 2) := by decide +kernel
theorem dX10_valueIn_46 : decode cX10_valueIn 46 = .ok (.iaload, 1) := by decide +kernel
theorem dX10_valueIn_47 : decode cX10_valueIn 47 = .ok (.ireturn, 1) := by decide +kernel
theorem dX10_valueIn_48 : decode cX10_valueIn 48 = .ok (.iinc 3 (-1), 3) := by decide +kernel
theorem dX10_valueIn_51 : decode cX10_valueIn 51 = .ok (.goto (-44), 3) := by decide +kernel
theorem dX10_valueIn_54 : decode cX10_valueIn 54 = .ok (.iconst 0, 1) := by decide +kernel
theorem dX10_valueIn_55 : decode cX10_valueIn 55 = .ok (.ireturn, 1) := by decide +kernel
theorem dX10_write_0 : decode cX10_write 0 = .ok (.aload_n 0, 1) := by decide +kernel
theorem dX10_write_1 : decode cX10_write 1 = .ok (.iconst 0, 1) := by decide +kernel
theorem dX10_write_2 : decode cX10_write 2 = .ok (.putfield 66, 3) := by decide +kernel
theorem dX10_write_5 : decode cX10_write 5 = .ok (.aload_n 0, 1) := by decide +kernel
theorem dX10_write_6 : decode cX10_write 6 = .ok (.iload_n 1, 1) := by decide +kernel
theorem dX10_write_7 : decode cX10_write 7 = .ok (.invokevirtual 165, 3) := by decide +kernel
theorem dX10_write_10 : decode cX10_write 10 = .ok (.ifCond .eq 11, 3) := by decide +kernel
theorem dX10_write_13 : decode cX10_write 13 = .ok (.aload_n 0, 1) := by decide +kernel
theorem dX10_write_14 : decode cX10_write 14 = .ok (.iload_n 2, 1) := by decide +kernel
theorem dX10_write_15 : decode cX10_write 15 = .ok (.invokevirtual 168, 3) := by decide +kernel
theorem dX10_write_18 : decode cX10_write 18 = .ok (.ifCond .ne 9, 3) := by decide +kernel
theorem dX10_write_21 : decode cX10_write 21 = .ok (.aload_n 0, 1) := by decide +kernel
theorem dX10_write_22 : decode cX10_write 22 = .ok (.iconst 1, 1) := by decide +kernel
theorem dX10_write_23 : decode cX10_write 23 = .ok (.invokevirtual 171, 3) := by decide +kernel
theorem dX10_write_26 : decode cX10_write 26 = .ok (.ireturn, 1) := by decide +kernel
theorem dX10_write_27 : decode cX10_write 27 = .ok (.iload_n 3, 1) := by decide +kernel
theorem dX10_write_28 : decode cX10_write 28 = .ok (.iconst 0, 1) := by decide +kernel
theorem dX10_write_29 : decode cX10_write 29 = .ok (.ldc 174, 2) := by decide +kernel
theorem dX10_write_31 : decode cX10_write 31 = .ok (.invokestatic 72, 3) := by decide +kernel
theorem dX10_write_34 : decode cX10_write 34 = .ok (.ifCond .ne 9, 3) := by decide +kernel
theorem dX10_write_37 : decode cX10_write 37 = .ok (.aload_n 0, 1) := by decide +kernel
theorem dX10_write_38 : decode cX10_write 38 = .ok (.iconst 2, 1) := by decide +kernel
theorem dX10_write_39 : decode cX10_write 39 = .ok (.invokevirtual 171, 3) := by decide +kernel
theorem dX10_write_42 : decode cX10_write 42 = .ok (.ireturn, 1) := by decide +kernel
theorem dX10_write_43 : decode cX10_write 43 = .ok (.aload_n 0, 1) := by decide +kernel
theorem dX10_write_44 : decode cX10_write 44 = .ok (.iload_n 1, 1) := by decide +kernel
theorem dX10_write_45 : decode cX10_write 45 = .ok (.iconst 1, 1) := by decide +kernel
theorem dX10_write_46 : decode cX10_write 46 = .ok (.iload_n 2, 1) := by decide +kernel
theorem dX10_write_47 : decode cX10_write 47 = .ok (.iload_n 3, 1) := by decide +kernel
theorem dX10_write_48 : decode cX10_write 48 = .ok (.invokevirtual 175, 3) := by decide +kernel
theorem dX10_write_51 : decode cX10_write 51 = .ok (.ifCond .ne 9, 3) := by decide +kernel
theorem dX10_write_54 : decode cX10_write 54 = .ok (.aload_n 0, 1) := by decide +kernel
theorem dX10_write_55 : decode cX10_write 55 = .ok (.iconst 3, 1) := by decide +kernel
theorem dX10_write_56 : decode cX10_write 56 = .ok (.invokevirtual 171, 3) := by decide +kernel
theorem dX10_write_59 : decode cX10_write 59 = .ok (.ireturn, 1) := by decide +kernel
theorem dX10_write_60 : decode cX10_write 60 = .ok (.aload_n 0, 1) := by decide +kernel
theorem dX10_write_61 : decode cX10_write 61 = .ok (.getfield 34, 3) := by decide +kernel
theorem dX10_write_64 : decode cX10_write 64 = .ok (.iload_n 1, 1) := by decide +kernel
theorem dX10_write_65 : decode cX10_write 65 = .ok (.iaload, 1) := by decide +kernel
theorem dX10_write_66 : decode cX10_write 66 = .ok (.ireturn, 1) := by decide +kernel
theorem dX10_read_0 : decode cX10_read 0 = .ok (.aload_n 0, 1) := by decide +kernel
theorem dX10_read_1 : decode cX10_read 1 = .ok (.iconst 0, 1) := by decide +kernel
theorem dX10_read_2 : decode cX10_read 2 = .ok (.putfield 66, 3) := by decide +kernel
theorem dX10_read_5 : decode cX10_read 5 = .ok (.aload_n 0, 1) := by decide +kernel
theorem dX10_read_6 : decode cX10_read 6 = .ok (.iload_n 1, 1) := by decide +kernel
theorem dX10_read_7 : decode cX10_read 7 = .ok (.invokevirtual 165, 3) := by decide +kernel
theorem dX10_read_10 : decode cX10_read 10 = .ok (.ifCond .eq 11, 3) := by decide +kernel
theorem dX10_read_13 : decode cX10_read 13 = .ok (.aload_n 0, 1) := by decide +kernel
theorem dX10_read_14 : decode cX10_read 14 = .ok (.iload_n 2, 1) := by decide +kernel
theorem dX10_read_15 : decode cX10_read 15 = .ok (.invokevirtual 168, 3) := by decide +kernel
theorem dX10_read_18 : decode cX10_read 18 = .ok (.ifCond .ne 9, 3) := by decide +kernel
theorem dX10_read_21 : decode cX10_read 21 = .ok (.aload_n 0, 1) := by decide +kernel
theorem dX10_read_22 : decode cX10_read 22 = .ok (.iconst 1, 1) := by decide +kernel
theorem dX10_read_23 : decode cX10_read 23 = .ok (.invokevirtual 171, 3) := by decide +kernel
theorem dX10_read_26 : decode cX10_read 26 = .ok (.ireturn, 1) := by decide +kernel
theorem dX10_read_27 : decode cX10_read 27 = .ok (.aload_n 0, 1) := by decide +kernel
theorem dX10_read_28 : decode cX10_read 28 = .ok (.iload_n 1, 1) := by decide +kernel
theorem dX10_read_29 : decode cX10_read 29 = .ok (.iconst 0, 1) := by decide +kernel
theorem dX10_read_30 : decode cX10_read 30 = .ok (.iload_n 2, 1) := by decide +kernel
theorem dX10_read_31 : decode cX10_read 31 = .ok (.iconst 0, 1) := by decide +kernel
theorem dX10_read_32 : decode cX10_read 32 = .ok (.invokevirtual 175, 3) := by decide +kernel
theorem dX10_read_35 : decode cX10_read 35 = .ok (.ifCond .ne 9, 3) := by decide +kernel
theorem dX10_read_38 : decode cX10_read 38 = .ok (.aload_n 0, 1) := by decide +kernel
theorem dX10_read_39 : decode cX10_read 39 = .ok (.iconst 2, 1) := by decide +kernel
theorem dX10_read_40 : decode cX10_read 40 = .ok (.invokevirtual 171, 3) := by decide +kernel
theorem dX10_read_43 : decode cX10_read 43 = .ok (.ireturn, 1) := by decide +kernel
theorem dX10_read_44 : decode cX10_read 44 = .ok (.aload_n 0, 1) := by decide +kernel
theorem dX10_read_45 : decode cX10_read 45 = .ok (.aload_n 0, 1) := by decide +kernel
theorem dX10_read_46 : decode cX10_read 46 = .ok (.getfield 31, 3) := by decide +kernel
theorem dX10_read_49 : decode cX10_read 49 = .ok (.iload_n 1, 1) := by decide +kernel
theorem dX10_read_50 : decode cX10_read 50 = .ok (.iaload, 1) := by decide +kernel
theorem dX10_read_51 : decode cX10_read 51 = .ok (.iload_n 2, 1) := by decide +kernel
theorem dX10_read_52 : decode cX10_read 52 = .ok (.invokevirtual 179, 3) := by decide +kernel
theorem dX10_read_55 : decode cX10_read 55 = .ok (.ireturn, 1) := by decide +kernel
theorem dX10_lowerOf_0 : decode cX10_lowerOf 0 = .ok (.aload_n 0, 1) := by decide +kernel
theorem dX10_lowerOf_1 : decode cX10_lowerOf 1 = .ok (.getfield 34, 3) := by decide +kernel
theorem dX10_lowerOf_4 : decode cX10_lowerOf 4 = .ok (.iload_n 1, 1) := by decide +kernel
theorem dX10_lowerOf_5 : decode cX10_lowerOf 5 = .ok (.iaload, 1) := by decide +kernel
theorem dX10_lowerOf_6 : decode cX10_lowerOf 6 = .ok (.aload_n 0, 1) := by decide +kernel
theorem dX10_lowerOf_7 : decode cX10_lowerOf 7 = .ok (.getfield 34, 3) := by decide +kernel
theorem dX10_lowerOf_10 : decode cX10_lowerOf 10 = .ok (.iload_n 2, 1) := by decide +kernel
theorem dX10_lowerOf_11 : decode cX10_lowerOf 11 = .ok (.iaload, 1) := by decide +kernel
theorem dX10_lowerOf_12 : decode cX10_lowerOf 12 = .ok (.if_icmp .ge 12, 3) := by decide +kernel
theorem dX10_lowerOf_15 : decode cX10_lowerOf 15 = .ok (.aload_n 0, 1) := by decide +kernel
theorem dX10_lowerOf_16 : decode cX10_lowerOf 16 = .ok (.getfield 34, 3) := by decide +kernel
theorem dX10_lowerOf_19 : decode cX10_lowerOf 19 = .ok (.iload_n 1, 1) := by decide +kernel
theorem dX10_lowerOf_20 : decode cX10_lowerOf 20 = .ok (.iaload, 1) := by decide +kernel
theorem dX10_lowerOf_21 : decode cX10_lowerOf 21 = .ok (.goto 9, 3) := by decide +kernel
theorem dX10_lowerOf_24 : decode cX10_lowerOf 24 = .ok (.aload_n 0, 1) := by decide +kernel
theorem dX10_lowerOf_25 : decode cX10_lowerOf 25 = .ok (.getfield 34, 3) := by decide +kernel
theorem dX10_lowerOf_28 : decode cX10_lowerOf 28 = .ok (.iload_n 2, 1) := by decide +kernel
theorem dX10_lowerOf_29 : decode cX10_lowerOf 29 = .ok (.iaload, 1) := by decide +kernel
theorem dX10_lowerOf_30 : decode cX10_lowerOf 30 = .ok (.ireturn, 1) := by decide +kernel
theorem dX10_areForked_0 : decode cX10_areForked 0 = .ok (.aload_n 0, 1) := by decide +kernel
theorem dX10_areForked_1 : decode cX10_areForked 1 = .ok (.iload_n 1, 1) := by decide +kernel
theorem dX10_areForked_2 : decode cX10_areForked 2 = .ok (.iload_n 2, 1) := by decide +kernel
theorem dX10_areForked_3 : decode cX10_areForked 3 = .ok (.invokevirtual 182, 3) := by decide +kernel
theorem dX10_areForked_6 : decode cX10_areForked 6 = .ok (.istore_n 3, 1) := by decide +kernel
theorem dX10_areForked_7 : decode cX10_areForked 7 = .ok (.aload_n 0, 1) := by decide +kernel
theorem dX10_areForked_8 : decode cX10_areForked 8 = .ok (.iload_n 1, 1) := by decide +kernel
theorem dX10_areForked_9 : decode cX10_areForked 9 = .ok (.iload_n 3, 1) := by decide +kernel
theorem dX10_areForked_10 : decode cX10_areForked 10 = .ok (.invokevirtual 90, 3) := by decide +kernel
theorem dX10_areForked_13 : decode cX10_areForked 13 = .ok (.aload_n 0, 1) := by decide +kernel
theorem dX10_areForked_14 : decode cX10_areForked 14 = .ok (.iload_n 2, 1) := by decide +kernel
theorem dX10_areForked_15 : decode cX10_areForked 15 = .ok (.iload_n 3, 1) := by decide +kernel
theorem dX10_areForked_16 : decode cX10_areForked 16 = .ok (.invokevirtual 90, 3) := by decide +kernel
theorem dX10_areForked_19 : decode cX10_areForked 19 = .ok (.if_icmp .eq 7, 3) := by decide +kernel
theorem dX10_areForked_22 : decode cX10_areForked 22 = .ok (.iconst 1, 1) := by decide +kernel
theorem dX10_areForked_23 : decode cX10_areForked 23 = .ok (.goto 4, 3) := by decide +kernel
theorem dX10_areForked_26 : decode cX10_areForked 26 = .ok (.iconst 0, 1) := by decide +kernel
theorem dX10_areForked_27 : decode cX10_areForked 27 = .ok (.ireturn, 1) := by decide +kernel
theorem dX10_exchange_0 : decode cX10_exchange 0 = .ok (.aload_n 0, 1) := by decide +kernel
theorem dX10_exchange_1 : decode cX10_exchange 1 = .ok (.iconst 0, 1) := by decide +kernel
theorem dX10_exchange_2 : decode cX10_exchange 2 = .ok (.putfield 66, 3) := by decide +kernel
theorem dX10_exchange_5 : decode cX10_exchange 5 = .ok (.aload_n 0, 1) := by decide +kernel
theorem dX10_exchange_6 : decode cX10_exchange 6 = .ok (.iload_n 1, 1) := by decide +kernel
theorem dX10_exchange_7 : decode cX10_exchange 7 = .ok (.invokevirtual 165, 3) := by decide +kernel
theorem dX10_exchange_10 : decode cX10_exchange 10 = .ok (.ifCond .eq 16, 3) := by decide +kernel
theorem dX10_exchange_13 : decode cX10_exchange 13 = .ok (.aload_n 0, 1) := by decide +kernel
theorem dX10_exchange_14 : decode cX10_exchange 14 = .ok (.iload_n 2, 1) := by decide +kernel
theorem dX10_exchange_15 : decode cX10_exchange 15 = .ok (.invokevirtual 165, 3) := by decide +kernel
theorem dX10_exchange_18 : decode cX10_exchange 18 = .ok (.ifCond .eq 8, 3) := by decide +kernel
theorem dX10_exchange_21 : decode cX10_exchange 21 = .ok (.iload_n 1, 1) := by decide +kernel
theorem dX10_exchange_22 : decode cX10_exchange 22 = .ok (.iload_n 2, 1) := by decide +kernel
theorem dX10_exchange_23 : decode cX10_exchange 23 = .ok (.if_icmp .ne 9, 3) := by decide +kernel
theorem dX10_exchange_26 : decode cX10_exchange 26 = .ok (.aload_n 0, 1) := by decide +kernel
theorem dX10_exchange_27 : decode cX10_exchange 27 = .ok (.iconst 1, 1) := by decide +kernel
theorem dX10_exchange_28 : decode cX10_exchange 28 = .ok (.invokevirtual 171, 3) := by decide +kernel
theorem dX10_exchange_31 : decode cX10_exchange 31 = .ok (.ireturn, 1) := by decide +kernel
theorem dX10_exchange_32 : decode cX10_exchange 32 = .ok (.aload_n 0, 1) := by decide +kernel
theorem dX10_exchange_33 : decode cX10_exchange 33 = .ok (.iload_n 1, 1) := by decide +kernel
theorem dX10_exchange_34 : decode cX10_exchange 34 = .ok (.iload_n 2, 1) := by decide +kernel
theorem dX10_exchange_35 : decode cX10_exchange 35 = .ok (.invokevirtual 185, 3) := by decide +kernel
theorem dX10_exchange_38 : decode cX10_exchange 38 = .ok (.ifCond .eq 63, 3) := by decide +kernel
theorem dX10_exchange_41 : decode cX10_exchange 41 = .ok (.iconst 0, 1) := by decide +kernel
theorem dX10_exchange_42 : decode cX10_exchange 42 = .ok (.istore_n 3, 1) := by decide +kernel
theorem dX10_exchange_43 : decode cX10_exchange 43 = .ok (.aload_n 0, 1) := by decide +kernel
theorem dX10_exchange_44 : decode cX10_exchange 44 = .ok (.iload_n 1, 1) := by decide +kernel
theorem dX10_exchange_45 : decode cX10_exchange 45 = .ok (.iload_n 3, 1) := by decide +kernel
theorem dX10_exchange_46 : decode cX10_exchange 46 = .ok (.invokevirtual 90, 3) := by decide +kernel
theorem dX10_exchange_49 : decode cX10_exchange 49 = .ok (.aload_n 0, 1) := by decide +kernel
theorem dX10_exchange_50 : decode cX10_exchange 50 = .ok (.iload_n 2, 1) := by decide +kernel
theorem dX10_exchange_51 : decode cX10_exchange 51 = .ok (.iload_n 3, 1) := by decide +kernel
theorem dX10_exchange_52 : decode cX10_exchange 52 = .ok (.invokevirtual 90, 3) := by decide +kernel
theorem dX10_exchange_55 : decode cX10_exchange 55 = .ok (.if_icmp .ne 10, 3) := by decide +kernel
theorem dX10_exchange_58 : decode cX10_exchange 58 = .ok (.iload_n 3, 1) := by decide +kernel
theorem dX10_exchange_59 : decode cX10_exchange 59 = .ok (.iconst 1, 1) := by decide +kernel
theorem dX10_exchange_60 : decode cX10_exchange 60 = .ok (.iadd, 1) := by decide +kernel
theorem dX10_exchange_61 : decode cX10_exchange 61 = .ok (.istore_n 3, 1) := by decide +kernel
theorem dX10_exchange_62 : decode cX10_exchange 62 = .ok (.goto (-19), 3) := by decide +kernel
theorem dX10_exchange_65 : decode cX10_exchange 65 = .ok (.aload_n 0, 1) := by decide +kernel
theorem dX10_exchange_66 : decode cX10_exchange 66 = .ok (.iconst 2, 1) := by decide +kernel
theorem dX10_exchange_67 : decode cX10_exchange 67 = .ok (.iload_n 1, 1) := by decide +kernel
theorem dX10_exchange_68 : decode cX10_exchange 68 = .ok (.iload_n 2, 1) := by decide +kernel
theorem dX10_exchange_69 : decode cX10_exchange 69 = .ok (.iload_n 3, 1) := by decide +kernel
theorem dX10_exchange_70 : decode cX10_exchange 70 = .ok (.aload_n 0, 1) := by decide +kernel
theorem dX10_exchange_71 : decode cX10_exchange 71 = .ok (.iload_n 1, 1) := by decide +kernel
theorem dX10_exchange_72 : decode cX10_exchange 72 = .ok (.iload_n 3, 1) := by decide +kernel
theorem dX10_exchange_73 : decode cX10_exchange 73 = .ok (.invokevirtual 90, 3) := by decide +kernel
theorem dX10_exchange_76 : decode cX10_exchange 76 = .ok (.aload_n 0, 1) := by decide +kernel
theorem dX10_exchange_77 : decode cX10_exchange 77 = .ok (.iload_n 2, 1) := by decide +kernel
theorem dX10_exchange_78 : decode cX10_exchange 78 = .ok (.iload_n 3, 1) := by decide +kernel
theorem dX10_exchange_79 : decode cX10_exchange 79 = .ok (.invokevirtual 90, 3) := by decide +kernel
theorem dX10_exchange_82 : decode cX10_exchange 82 = .ok (.invokevirtual 146, 3) := by decide +kernel
theorem dX10_exchange_85 : decode cX10_exchange 85 = .ok (.aload_n 0, 1) := by decide +kernel
theorem dX10_exchange_86 : decode cX10_exchange 86 = .ok (.getfield 46, 3) := by decide +kernel
theorem dX10_exchange_89 : decode cX10_exchange 89 = .ok (.iload_n 1, 1) := by decide +kernel
theorem dX10_exchange_90 : decode cX10_exchange 90 = .ok (.iconst 1, 1) := by decide +kernel
theorem dX10_exchange_91 : decode cX10_exchange 91 = .ok (.bastore, 1) := by decide +kernel
theorem dX10_exchange_92 : decode cX10_exchange 92 = .ok (.aload_n 0, 1) := by decide +kernel
theorem dX10_exchange_93 : decode cX10_exchange 93 = .ok (.getfield 46, 3) := by decide +kernel
theorem dX10_exchange_96 : decode cX10_exchange 96 = .ok (.iload_n 2, 1) := by decide +kernel
theorem dX10_exchange_97 : decode cX10_exchange 97 = .ok (.iconst 1, 1) := by decide +kernel
theorem dX10_exchange_98 : decode cX10_exchange 98 = .ok (.bastore, 1) := by decide +kernel
theorem dX10_exchange_99 : decode cX10_exchange 99 = .ok (.iconst 3, 1) := by decide +kernel
theorem dX10_exchange_100 : decode cX10_exchange 100 = .ok (.ireturn, 1) := by decide +kernel
theorem dX10_exchange_101 : decode cX10_exchange 101 = .ok (.aload_n 0, 1) := by decide +kernel
theorem dX10_exchange_102 : decode cX10_exchange 102 = .ok (.getfield 34, 3) := by decide +kernel
theorem dX10_exchange_105 : decode cX10_exchange 105 = .ok (.iload_n 1, 1) := by decide +kernel
theorem dX10_exchange_106 : decode cX10_exchange 106 = .ok (.iaload, 1) := by decide +kernel
theorem dX10_exchange_107 : decode cX10_exchange 107 = .ok (.aload_n 0, 1) := by decide +kernel
theorem dX10_exchange_108 : decode cX10_exchange 108 = .ok (.getfield 34, 3) := by decide +kernel
theorem dX10_exchange_111 : decode cX10_exchange 111 = .ok (.iload_n 2, 1) := by decide +kernel
theorem dX10_exchange_112 : decode cX10_exchange 112 = .ok (.iaload, 1) := by decide +kernel
theorem dX10_exchange_113 : decode cX10_exchange 113 = .ok (.if_icmp .ne 5, 3) := by decide +kernel
theorem dX10_exchange_116 : decode cX10_exchange 116 = .ok (.iconst 0, 1) := by decide +kernel
theorem dX10_exchange_117 : decode cX10_exchange 117 = .ok (.ireturn, 1) := by decide +kernel
theorem dX10_exchange_118 : decode cX10_exchange 118 = .ok (.aload_n 0, 1) := by decide +kernel
theorem dX10_exchange_119 : decode cX10_exchange 119 = .ok (.getfield 34, 3) := by decide +kernel
theorem dX10_exchange_122 : decode cX10_exchange 122 = .ok (.iload_n 1, 1) := by decide +kernel
theorem dX10_exchange_123 : decode cX10_exchange 123 = .ok (.iaload, 1) := by decide +kernel
theorem dX10_exchange_124 : decode cX10_exchange 124 = .ok (.aload_n 0, 1) := by decide +kernel
theorem dX10_exchange_125 : decode cX10_exchange 125 = .ok (.getfield 34, 3) := by decide +kernel
theorem dX10_exchange_128 : decode cX10_exchange 128 = .ok (.iload_n 2, 1) := by decide +kernel
theorem dX10_exchange_129 : decode cX10_exchange 129 = .ok (.iaload, 1) := by decide +kernel
theorem dX10_exchange_130 : decode cX10_exchange 130 = .ok (.if_icmp .ge 7, 3) := by decide +kernel
theorem dX10_exchange_133 : decode cX10_exchange 133 = .ok (.iconst 1, 1) := by decide +kernel
theorem dX10_exchange_134 : decode cX10_exchange 134 = .ok (.goto 4, 3) := by decide +kernel
theorem dX10_exchange_137 : decode cX10_exchange 137 = .ok (.iconst 2, 1) := by decide +kernel
theorem dX10_exchange_138 : decode cX10_exchange 138 = .ok (.ireturn, 1) := by decide +kernel
theorem dX10_post_0 : decode cX10_post 0 = .ok (.aload_n 0, 1) := by decide +kernel
theorem dX10_post_1 : decode cX10_post 1 = .ok (.iconst 0, 1) := by decide +kernel
theorem dX10_post_2 : decode cX10_post 2 = .ok (.putfield 66, 3) := by decide +kernel
theorem dX10_post_5 : decode cX10_post 5 = .ok (.aload_n 0, 1) := by decide +kernel
theorem dX10_post_6 : decode cX10_post 6 = .ok (.iload_n 1, 1) := by decide +kernel
theorem dX10_post_7 : decode cX10_post 7 = .ok (.invokevirtual 165, 3) := by decide +kernel
theorem dX10_post_10 : decode cX10_post 10 = .ok (.ifCond .ne 9, 3) := by decide +kernel
theorem dX10_post_13 : decode cX10_post 13 = .ok (.aload_n 0, 1) := by decide +kernel
theorem dX10_post_14 : decode cX10_post 14 = .ok (.iconst 1, 1) := by decide +kernel
theorem dX10_post_15 : decode cX10_post 15 = .ok (.invokevirtual 171, 3) := by decide +kernel
theorem dX10_post_18 : decode cX10_post 18 = .ok (.ireturn, 1) := by decide +kernel
theorem dX10_post_19 : decode cX10_post 19 = .ok (.aload_n 0, 1) := by decide +kernel
theorem dX10_post_20 : decode cX10_post 20 = .ok (.iload_n 1, 1) := by decide +kernel
theorem dX10_post_21 : decode cX10_post 21 = .ok (.invokevirtual 161, 3) := by decide +kernel
theorem dX10_post_24 : decode cX10_post 24 = .ok (.aload_n 0, 1) := by decide +kernel
theorem dX10_post_25 : decode cX10_post 25 = .ok (.getfield 126, 3) := by decide +kernel
theorem dX10_post_28 : decode cX10_post 28 = .ok (.ireturn, 1) := by decide +kernel
theorem dX10_calm_0 : decode cX10_calm 0 = .ok (.aload_n 0, 1) := by decide +kernel
theorem dX10_calm_1 : decode cX10_calm 1 = .ok (.aload_n 0, 1) := by decide +kernel
theorem dX10_calm_2 : decode cX10_calm 2 = .ok (.iload_n 1, 1) := by decide +kernel
theorem dX10_calm_3 : decode cX10_calm 3 = .ok (.invokevirtual 165, 3) := by decide +kernel
theorem dX10_calm_6 : decode cX10_calm 6 = .ok (.ifCond .eq 7, 3) := by decide +kernel
theorem dX10_calm_9 : decode cX10_calm 9 = .ok (.iconst 0, 1) := by decide +kernel
theorem dX10_calm_10 : decode cX10_calm 10 = .ok (.goto 4, 3) := by decide +kernel
theorem dX10_calm_13 : decode cX10_calm 13 = .ok (.iconst 1, 1) := by decide +kernel
theorem dX10_calm_14 : decode cX10_calm 14 = .ok (.putfield 66, 3) := by decide +kernel
theorem dX10_calm_17 : decode cX10_calm 17 = .ok (.aload_n 0, 1) := by decide +kernel
theorem dX10_calm_18 : decode cX10_calm 18 = .ok (.getfield 66, 3) := by decide +kernel
theorem dX10_calm_21 : decode cX10_calm 21 = .ok (.ifCond .le 5, 3) := by decide +kernel
theorem dX10_calm_24 : decode cX10_calm 24 = .ok (.iconst 0, 1) := by decide +kernel
theorem dX10_calm_25 : decode cX10_calm 25 = .ok (.ireturn, 1) := by decide +kernel
theorem dX10_calm_26 : decode cX10_calm 26 = .ok (.aload_n 0, 1) := by decide +kernel
theorem dX10_calm_27 : decode cX10_calm 27 = .ok (.getfield 46, 3) := by decide +kernel
theorem dX10_calm_30 : decode cX10_calm 30 = .ok (.iload_n 1, 1) := by decide +kernel
theorem dX10_calm_31 : decode cX10_calm 31 = .ok (.baload, 1) := by decide +kernel
theorem dX10_calm_32 : decode cX10_calm 32 = .ok (.istore_n 2, 1) := by decide +kernel
theorem dX10_calm_33 : decode cX10_calm 33 = .ok (.aload_n 0, 1) := by decide +kernel
theorem dX10_calm_34 : decode cX10_calm 34 = .ok (.getfield 46, 3) := by decide +kernel
theorem dX10_calm_37 : decode cX10_calm 37 = .ok (.iload_n 1, 1) := by decide +kernel
theorem dX10_calm_38 : decode cX10_calm 38 = .ok (.iconst 0, 1) := by decide +kernel
theorem dX10_calm_39 : decode cX10_calm 39 = .ok (.bastore, 1) := by decide +kernel
theorem dX10_calm_40 : decode cX10_calm 40 = .ok (.iload_n 2, 1) := by decide +kernel
theorem dX10_calm_41 : decode cX10_calm 41 = .ok (.ireturn, 1) := by decide +kernel
theorem dX10_adopt_0 : decode cX10_adopt 0 = .ok (.aload_n 0, 1) := by decide +kernel
theorem dX10_adopt_1 : decode cX10_adopt 1 = .ok (.iconst 0, 1) := by decide +kernel
theorem dX10_adopt_2 : decode cX10_adopt 2 = .ok (.putfield 66, 3) := by decide +kernel
theorem dX10_adopt_5 : decode cX10_adopt 5 = .ok (.aload_n 0, 1) := by decide +kernel
theorem dX10_adopt_6 : decode cX10_adopt 6 = .ok (.iload_n 1, 1) := by decide +kernel
theorem dX10_adopt_7 : decode cX10_adopt 7 = .ok (.invokevirtual 165, 3) := by decide +kernel
theorem dX10_adopt_10 : decode cX10_adopt 10 = .ok (.ifCond .ne 9, 3) := by decide +kernel
theorem dX10_adopt_13 : decode cX10_adopt 13 = .ok (.aload_n 0, 1) := by decide +kernel
theorem dX10_adopt_14 : decode cX10_adopt 14 = .ok (.iconst 1, 1) := by decide +kernel
theorem dX10_adopt_15 : decode cX10_adopt 15 = .ok (.invokevirtual 171, 3) := by decide +kernel
theorem dX10_adopt_18 : decode cX10_adopt 18 = .ok (.ireturn, 1) := by decide +kernel
theorem dX10_adopt_19 : decode cX10_adopt 19 = .ok (.aload_n 0, 1) := by decide +kernel
theorem dX10_adopt_20 : decode cX10_adopt 20 = .ok (.iload_n 1, 1) := by decide +kernel
theorem dX10_adopt_21 : decode cX10_adopt 21 = .ok (.aload_n 0, 1) := by decide +kernel
theorem dX10_adopt_22 : decode cX10_adopt 22 = .ok (.getfield 31, 3) := by decide +kernel
theorem dX10_adopt_25 : decode cX10_adopt 25 = .ok (.iload_n 1, 1) := by decide +kernel
theorem dX10_adopt_26 : decode cX10_adopt 26 = .ok (.iaload, 1) := by decide +kernel
theorem dX10_adopt_27 : decode cX10_adopt 27 = .ok (.invokevirtual 135, 3) := by decide +kernel
theorem dX10_adopt_30 : decode cX10_adopt 30 = .ok (.aload_n 0, 1) := by decide +kernel
theorem dX10_adopt_31 : decode cX10_adopt 31 = .ok (.getfield 46, 3) := by decide +kernel
theorem dX10_adopt_34 : decode cX10_adopt 34 = .ok (.iload_n 1, 1) := by decide +kernel
theorem dX10_adopt_35 : decode cX10_adopt 35 = .ok (.iconst 0, 1) := by decide +kernel
theorem dX10_adopt_36 : decode cX10_adopt 36 = .ok (.bastore, 1) := by decide +kernel
theorem dX10_adopt_37 : decode cX10_adopt 37 = .ok (.aload_n 0, 1) := by decide +kernel
theorem dX10_adopt_38 : decode cX10_adopt 38 = .ok (.getfield 34, 3) := by decide +kernel
theorem dX10_adopt_41 : decode cX10_adopt 41 = .ok (.iload_n 1, 1) := by decide +kernel
theorem dX10_adopt_42 : decode cX10_adopt 42 = .ok (.iaload, 1) := by decide +kernel
theorem dX10_adopt_43 : decode cX10_adopt 43 = .ok (.ireturn, 1) := by decide +kernel
theorem dX10_copies_0 : decode cX10_copies 0 = .ok (.iconst 1, 1) := by decide +kernel
theorem dX10_copies_1 : decode cX10_copies 1 = .ok (.istore 4, 2) := by decide +kernel
theorem dX10_copies_3 : decode cX10_copies 3 = .ok (.iload 4, 2) := by decide +kernel
theorem dX10_copies_5 : decode cX10_copies 5 = .ok (.iload_n 3, 1) := by decide +kernel
theorem dX10_copies_6 : decode cX10_copies 6 = .ok (.if_icmp .gt 109, 3) := by decide +kernel
theorem dX10_copies_9 : decode cX10_copies 9 = .ok (.iload_n 1, 1) := by decide +kernel
theorem dX10_copies_10 : decode cX10_copies 10 = .ok (.iload 4, 2) := by decide +kernel
theorem dX10_copies_12 : decode cX10_copies 12 = .ok (.invokestatic 86, 3) := by decide +kernel
theorem dX10_copies_15 : decode cX10_copies 15 = .ok (.istore 5, 2) := by decide +kernel
theorem dX10_copies_17 : decode cX10_copies 17 = .ok (.iload_n 2, 1) := by decide +kernel
theorem dX10_copies_18 : decode cX10_copies 18 = .ok (.iload 4, 2) := by decide +kernel
theorem dX10_copies_20 : decode cX10_copies 20 = .ok (.invokestatic 86, 3) := by decide +kernel
theorem dX10_copies_23 : decode cX10_copies 23 = .ok (.istore 6, 2) := by decide +kernel
theorem dX10_copies_25 : decode cX10_copies 25 = .ok (.aload_n 0, 1) := by decide +kernel
theorem dX10_copies_26 : decode cX10_copies 26 = .ok (.getfield 13, 3) := by decide +kernel
theorem dX10_copies_29 : decode cX10_copies 29 = .ok (.iload 6, 2) := by decide +kernel
theorem dX10_copies_31 : decode cX10_copies 31 = .ok (.aload_n 0, 1) := by decide +kernel
theorem dX10_copies_32 : decode cX10_copies 32 = .ok (.getfield 13, 3) := by decide +kernel
theorem dX10_copies_35 : decode cX10_copies 35 = .ok (.iload 5, 2) := by decide +kernel
theorem dX10_copies_37 : decode cX10_copies 37 = .ok (.iaload, 1) := by decide +kernel
theorem dX10_copies_38 : decode cX10_copies 38 = .ok (.iastore, 1) := by decide +kernel
theorem dX10_copies_39 : decode cX10_copies 39 = .ok (.aload_n 0, 1) := by decide +kernel
theorem dX10_copies_40 : decode cX10_copies 40 = .ok (.getfield 16, 3) := by decide +kernel
theorem dX10_copies_43 : decode cX10_copies 43 = .ok (.iload 6, 2) := by decide +kernel
theorem dX10_copies_45 : decode cX10_copies 45 = .ok (.aload_n 0, 1) := by decide +kernel
theorem dX10_copies_46 : decode cX10_copies 46 = .ok (.getfield 16, 3) := by decide +kernel
theorem dX10_copies_49 : decode cX10_copies 49 = .ok (.iload 5, 2) := by decide +kernel
theorem dX10_copies_51 : decode cX10_copies 51 = .ok (.iaload, 1) := by decide +kernel
theorem dX10_copies_52 : decode cX10_copies 52 = .ok (.iastore, 1) := by decide +kernel
theorem dX10_copies_53 : decode cX10_copies 53 = .ok (.aload_n 0, 1) := by decide +kernel
theorem dX10_copies_54 : decode cX10_copies 54 = .ok (.getfield 19, 3) := by decide +kernel
theorem dX10_copies_57 : decode cX10_copies 57 = .ok (.iload 6, 2) := by decide +kernel
theorem dX10_copies_59 : decode cX10_copies 59 = .ok (.aload_n 0, 1) := by decide +kernel
theorem dX10_copies_60 : decode cX10_copies 60 = .ok (.getfield 19, 3) := by decide +kernel
theorem dX10_copies_63 : decode cX10_copies 63 = .ok (.iload 5, 2) := by decide +kernel
theorem dX10_copies_65 : decode cX10_copies 65 = .ok (.iaload, 1) := by decide +kernel
theorem dX10_copies_66 : decode cX10_copies 66 = .ok (.iastore, 1) := by decide +kernel
theorem dX10_copies_67 : decode cX10_copies 67 = .ok (.aload_n 0, 1) := by decide +kernel
theorem dX10_copies_68 : decode cX10_copies 68 = .ok (.getfield 22, 3) := by decide +kernel
theorem dX10_copies_71 : decode cX10_copies 71 = .ok (.iload 6, 2) := by decide +kernel
theorem dX10_copies_73 : decode cX10_copies 73 = .ok (.aload_n 0, 1) := by decide +kernel
theorem dX10_copies_74 : decode cX10_copies 74 = .ok (.getfield 22, 3) := by decide +kernel
theorem dX10_copies_77 : decode cX10_copies 77 = .ok (.iload 5, 2) := by decide +kernel
theorem dX10_copies_79 : decode cX10_copies 79 = .ok (.iaload, 1) := by decide +kernel
theorem dX10_copies_80 : decode cX10_copies 80 = .ok (.iastore, 1) := by decide +kernel
theorem dX10_copies_81 : decode cX10_copies 81 = .ok (.aload_n 0, 1) := by decide +kernel
theorem dX10_copies_82 : decode cX10_copies 82 = .ok (.getfield 25, 3) := by decide +kernel
theorem dX10_copies_85 : decode cX10_copies 85 = .ok (.iload 6, 2) := by decide +kernel
theorem dX10_copies_87 : decode cX10_copies 87 = .ok (.aload_n 0, 1) := by decide +kernel
theorem dX10_copies_88 : decode cX10_copies 88 = .ok (.getfield 25, 3) := by decide +kernel
theorem dX10_copies_91 : decode cX10_copies 91 = .ok (.iload 5, 2) := by decide +kernel
theorem dX10_copies_93 : decode cX10_copies 93 = .ok (.iaload, 1) := by decide +kernel
theorem dX10_copies_94 : decode cX10_copies 94 = .ok (.iastore, 1) := by decide +kernel
theorem dX10_copies_95 : decode cX10_copies 95 = .ok (.aload_n 0, 1) := by decide +kernel
theorem dX10_copies_96 : decode cX10_copies 96 = .ok (.getfield 28, 3) := by decide +kernel
theorem dX10_copies_99 : decode cX10_copies 99 = .ok (.iload 6, 2) := by decide +kernel
theorem dX10_copies_101 : decode cX10_copies 101 = .ok (.aload_n 0, 1) := by decide +kernel
theorem dX10_copies_102 : decode cX10_copies 102 = .ok (.getfield 28, 3) := by decide +kernel
theorem dX10_copies_105 : decode cX10_copies 105 = .ok (.iload 5, 2) := by decide +kernel
theorem dX10_copies_107 : decode cX10_copies 107 = .ok (.iaload, 1) := by decide +kernel
theorem dX10_copies_108 : decode cX10_copies 108 = .ok (.iastore, 1) := by decide +kernel
theorem dX10_copies_109 : decode cX10_copies 109 = .ok (.iinc 4 1, 3) := by decide +kernel
theorem dX10_copies_112 : decode cX10_copies 112 = .ok (.goto (-109), 3) := by decide +kernel
theorem dX10_copies_115 : decode cX10_copies 115 = .ok (.aload_n 0, 1) := by decide +kernel
theorem dX10_copies_116 : decode cX10_copies 116 = .ok (.getfield 7, 3) := by decide +kernel
theorem dX10_copies_119 : decode cX10_copies 119 = .ok (.iload_n 2, 1) := by decide +kernel
theorem dX10_copies_120 : decode cX10_copies 120 = .ok (.iload_n 3, 1) := by decide +kernel
theorem dX10_copies_121 : decode cX10_copies 121 = .ok (.iastore, 1) := by decide +kernel
theorem dX10_copies_122 : decode cX10_copies 122 = .ok (.return_, 1) := by decide +kernel
theorem dX10_seenByAll_0 : decode cX10_seenByAll 0 = .ok (.iconst (-1), 1) := by decide +kernel
theorem dX10_seenByAll_1 : decode cX10_seenByAll 1 = .ok (.istore_n 2, 1) := by decide +kernel
theorem dX10_seenByAll_2 : decode cX10_seenByAll 2 = .ok (.iconst 0, 1) := by decide +kernel
theorem dX10_seenByAll_3 : decode cX10_seenByAll 3 = .ok (.istore_n 3, 1) := by decide +kernel
theorem dX10_seenByAll_4 : decode cX10_seenByAll 4 = .ok (.iload_n 3, 1) := by decide +kernel
theorem dX10_seenByAll_5 : decode cX10_seenByAll 5 = .ok (.aload_n 0, 1) := by decide +kernel
theorem dX10_seenByAll_6 : decode cX10_seenByAll 6 = .ok (.getfield 69, 3) := by decide +kernel
theorem dX10_seenByAll_9 : decode cX10_seenByAll 9 = .ok (.if_icmp .ge 44, 3) := by decide +kernel
theorem dX10_seenByAll_12 : decode cX10_seenByAll 12 = .ok (.iload_n 1, 1) := by decide +kernel
theorem dX10_seenByAll_13 : decode cX10_seenByAll 13 = .ok (.iload_n 3, 1) := by decide +kernel
theorem dX10_seenByAll_14 : decode cX10_seenByAll 14 = .ok (.invokestatic 189, 3) := by decide +kernel
theorem dX10_seenByAll_17 : decode cX10_seenByAll 17 = .ok (.ifCond .ne 6, 3) := by decide +kernel
theorem dX10_seenByAll_20 : decode cX10_seenByAll 20 = .ok (.goto 27, 3) := by decide +kernel
theorem dX10_seenByAll_23 : decode cX10_seenByAll 23 = .ok (.iload_n 2, 1) := by decide +kernel
theorem dX10_seenByAll_24 : decode cX10_seenByAll 24 = .ok (.iconst (-1), 1) := by decide +kernel
theorem dX10_seenByAll_25 : decode cX10_seenByAll 25 = .ok (.if_icmp .eq 15, 3) := by decide +kernel
theorem dX10_seenByAll_28 : decode cX10_seenByAll 28 = .ok (.aload_n 0, 1) := by decide +kernel
theorem dX10_seenByAll_29 : decode cX10_seenByAll 29 = .ok (.getfield 31, 3) := by decide +kernel
theorem dX10_seenByAll_32 : decode cX10_seenByAll 32 = .ok (.iload_n 3, 1) := by decide +kernel
theorem dX10_seenByAll_33 : decode cX10_seenByAll 33 = .ok (.iaload, 1) := by decide +kernel
theorem dX10_seenByAll_34 : decode cX10_seenByAll 34 = .ok (.iload_n 2, 1) := by decide +kernel
theorem dX10_seenByAll_35 : decode cX10_seenByAll 35 = .ok (.if_icmp .eq 5, 3) := by decide +kernel
theorem dX10_seenByAll_38 : decode cX10_seenByAll 38 = .ok (.iconst (-1), 1) := by decide +kernel
theorem dX10_seenByAll_39 : decode cX10_seenByAll 39 = .ok (.ireturn, 1) := by decide +kernel
theorem dX10_seenByAll_40 : decode cX10_seenByAll 40 = .ok (.aload_n 0, 1) := by decide +kernel
theorem dX10_seenByAll_41 : decode cX10_seenByAll 41 = .ok (.getfield 31, 3) := by decide +kernel
theorem dX10_seenByAll_44 : decode cX10_seenByAll 44 = .ok (.iload_n 3, 1) := by decide +kernel
theorem dX10_seenByAll_45 : decode cX10_seenByAll 45 = .ok (.iaload, 1) := by decide +kernel
theorem dX10_seenByAll_46 : decode cX10_seenByAll 46 = .ok (.istore_n 2, 1) := by decide +kernel
theorem dX10_seenByAll_47 : decode cX10_seenByAll 47 = .ok (.iinc 3 1, 3) := by decide +kernel
theorem dX10_seenByAll_50 : decode cX10_seenByAll 50 = .ok (.goto (-46), 3) := by decide +kernel
theorem dX10_seenByAll_53 : decode cX10_seenByAll 53 = .ok (.iload_n 2, 1) := by decide +kernel
theorem dX10_seenByAll_54 : decode cX10_seenByAll 54 = .ok (.ireturn, 1) := by decide +kernel
theorem dX10_fork_0 : decode cX10_fork 0 = .ok (.aload_n 0, 1) := by decide +kernel
theorem dX10_fork_1 : decode cX10_fork 1 = .ok (.iconst 0, 1) := by decide +kernel
theorem dX10_fork_2 : decode cX10_fork 2 = .ok (.putfield 66, 3) := by decide +kernel
theorem dX10_fork_5 : decode cX10_fork 5 = .ok (.iload_n 1, 1) := by decide +kernel
theorem dX10_fork_6 : decode cX10_fork 6 = .ok (.iconst 1, 1) := by decide +kernel
theorem dX10_fork_7 : decode cX10_fork 7 = .ok (.if_icmp .lt 13, 3) := by decide +kernel
theorem dX10_fork_10 : decode cX10_fork 10 = .ok (.iload_n 1, 1) := by decide +kernel
theorem dX10_fork_11 : decode cX10_fork 11 = .ok (.iconst 1, 1) := by decide +kernel
theorem dX10_fork_12 : decode cX10_fork 12 = .ok (.aload_n 0, 1) := by decide +kernel
theorem dX10_fork_13 : decode cX10_fork 13 = .ok (.getfield 69, 3) := by decide +kernel
theorem dX10_fork_16 : decode cX10_fork 16 = .ok (.ishl, 1) := by decide +kernel
theorem dX10_fork_17 : decode cX10_fork 17 = .ok (.if_icmp .lt 9, 3) := by decide +kernel
theorem dX10_fork_20 : decode cX10_fork 20 = .ok (.aload_n 0, 1) := by decide +kernel
theorem dX10_fork_21 : decode cX10_fork 21 = .ok (.iconst 1, 1) := by decide +kernel
theorem dX10_fork_22 : decode cX10_fork 22 = .ok (.invokevirtual 171, 3) := by decide +kernel
theorem dX10_fork_25 : decode cX10_fork 25 = .ok (.ireturn, 1) := by decide +kernel
theorem dX10_fork_26 : decode cX10_fork 26 = .ok (.aload_n 0, 1) := by decide +kernel
theorem dX10_fork_27 : decode cX10_fork 27 = .ok (.iload_n 1, 1) := by decide +kernel
theorem dX10_fork_28 : decode cX10_fork 28 = .ok (.invokevirtual 192, 3) := by decide +kernel
theorem dX10_fork_31 : decode cX10_fork 31 = .ok (.istore_n 2, 1) := by decide +kernel
theorem dX10_fork_32 : decode cX10_fork 32 = .ok (.iload_n 2, 1) := by decide +kernel
theorem dX10_fork_33 : decode cX10_fork 33 = .ok (.iconst (-1), 1) := by decide +kernel
theorem dX10_fork_34 : decode cX10_fork 34 = .ok (.if_icmp .eq 12, 3) := by decide +kernel
theorem dX10_fork_37 : decode cX10_fork 37 = .ok (.aload_n 0, 1) := by decide +kernel
theorem dX10_fork_38 : decode cX10_fork 38 = .ok (.getfield 79, 3) := by decide +kernel
theorem dX10_fork_41 : decode cX10_fork 41 = .ok (.bipush 8, 2) := by decide +kernel
theorem dX10_fork_43 : decode cX10_fork 43 = .ok (.if_icmp .ne 9, 3) := by decide +kernel
theorem dX10_fork_46 : decode cX10_fork 46 = .ok (.aload_n 0, 1) := by decide +kernel
theorem dX10_fork_47 : decode cX10_fork 47 = .ok (.iconst 2, 1) := by decide +kernel
theorem dX10_fork_48 : decode cX10_fork 48 = .ok (.invokevirtual 171, 3) := by decide +kernel
theorem dX10_fork_51 : decode cX10_fork 51 = .ok (.ireturn, 1) := by decide +kernel
theorem dX10_fork_52 : decode cX10_fork 52 = .ok (.aload_n 0, 1) := by decide +kernel
theorem dX10_fork_53 : decode cX10_fork 53 = .ok (.iload_n 2, 1) := by decide +kernel
theorem dX10_fork_54 : decode cX10_fork 54 = .ok (.aload_n 0, 1) := by decide +kernel
theorem dX10_fork_55 : decode cX10_fork 55 = .ok (.getfield 79, 3) := by decide +kernel
theorem dX10_fork_58 : decode cX10_fork 58 = .ok (.aload_n 0, 1) := by decide +kernel
theorem dX10_fork_59 : decode cX10_fork 59 = .ok (.getfield 7, 3) := by decide +kernel
theorem dX10_fork_62 : decode cX10_fork 62 = .ok (.iload_n 2, 1) := by decide +kernel
theorem dX10_fork_63 : decode cX10_fork 63 = .ok (.iaload, 1) := by decide +kernel
theorem dX10_fork_64 : decode cX10_fork 64 = .ok (.invokevirtual 195, 3) := by decide +kernel
theorem dX10_fork_67 : decode cX10_fork 67 = .ok (.iconst 0, 1) := by decide +kernel
theorem dX10_fork_68 : decode cX10_fork 68 = .ok (.istore_n 3, 1) := by decide +kernel
theorem dX10_fork_69 : decode cX10_fork 69 = .ok (.iload_n 3, 1) := by decide +kernel
theorem dX10_fork_70 : decode cX10_fork 70 = .ok (.aload_n 0, 1) := by decide +kernel
theorem dX10_fork_71 : decode cX10_fork 71 = .ok (.getfield 69, 3) := by decide +kernel
theorem dX10_fork_74 : decode cX10_fork 74 = .ok (.if_icmp .ge 36, 3) := by decide +kernel
theorem dX10_fork_77 : decode cX10_fork 77 = .ok (.aload_n 0, 1) := by decide +kernel
theorem dX10_fork_78 : decode cX10_fork 78 = .ok (.getfield 31, 3) := by decide +kernel
theorem dX10_fork_81 : decode cX10_fork 81 = .ok (.iload_n 3, 1) := by decide +kernel
theorem dX10_fork_82 : decode cX10_fork 82 = .ok (.iload_n 1, 1) := by decide +kernel
theorem dX10_fork_83 : decode cX10_fork 83 = .ok (.iload_n 3, 1) := by decide +kernel
theorem dX10_fork_84 : decode cX10_fork 84 = .ok (.invokestatic 189, 3) := by decide +kernel
theorem dX10_fork_87 : decode cX10_fork 87 = .ok (.ifCond .eq 10, 3) := by decide +kernel
theorem dX10_fork_90 : decode cX10_fork 90 = .ok (.aload_n 0, 1) := by decide +kernel
theorem dX10_fork_91 : decode cX10_fork 91 = .ok (.getfield 79, 3) := by decide +kernel
theorem dX10_fork_94 : decode cX10_fork 94 = .ok (.goto 9, 3) := by decide +kernel
theorem dX10_fork_97 : decode cX10_fork 97 = .ok (.aload_n 0, 1) := by decide +kernel
theorem dX10_fork_98 : decode cX10_fork 98 = .ok (.getfield 31, 3) := by decide +kernel
theorem dX10_fork_101 : decode cX10_fork 101 = .ok (.iload_n 3, 1) := by decide +kernel
theorem dX10_fork_102 : decode cX10_fork 102 = .ok (.iaload, 1) := by decide +kernel
theorem dX10_fork_103 : decode cX10_fork 103 = .ok (.iastore, 1) := by decide +kernel
theorem dX10_fork_104 : decode cX10_fork 104 = .ok (.iinc 3 1, 3) := by decide +kernel
theorem dX10_fork_107 : decode cX10_fork 107 = .ok (.goto (-38), 3) := by decide +kernel
theorem dX10_fork_110 : decode cX10_fork 110 = .ok (.aload_n 0, 1) := by decide +kernel
theorem dX10_fork_111 : decode cX10_fork 111 = .ok (.aload_n 0, 1) := by decide +kernel
theorem dX10_fork_112 : decode cX10_fork 112 = .ok (.getfield 79, 3) := by decide +kernel
theorem dX10_fork_115 : decode cX10_fork 115 = .ok (.iconst 1, 1) := by decide +kernel
theorem dX10_fork_116 : decode cX10_fork 116 = .ok (.iadd, 1) := by decide +kernel
theorem dX10_fork_117 : decode cX10_fork 117 = .ok (.putfield 79, 3) := by decide +kernel
theorem dX10_fork_120 : decode cX10_fork 120 = .ok (.aload_n 0, 1) := by decide +kernel
theorem dX10_fork_121 : decode cX10_fork 121 = .ok (.getfield 79, 3) := by decide +kernel
theorem dX10_fork_124 : decode cX10_fork 124 = .ok (.iconst 1, 1) := by decide +kernel
theorem dX10_fork_125 : decode cX10_fork 125 = .ok (.isub, 1) := by decide +kernel
theorem dX10_fork_126 : decode cX10_fork 126 = .ok (.ireturn, 1) := by decide +kernel
theorem dX10_move_0 : decode cX10_move 0 = .ok (.aload_n 0, 1) := by decide +kernel
theorem dX10_move_1 : decode cX10_move 1 = .ok (.iconst 0, 1) := by decide +kernel
theorem dX10_move_2 : decode cX10_move 2 = .ok (.putfield 66, 3) := by decide +kernel
theorem dX10_move_5 : decode cX10_move 5 = .ok (.aload_n 0, 1) := by decide +kernel
theorem dX10_move_6 : decode cX10_move 6 = .ok (.iload_n 1, 1) := by decide +kernel
theorem dX10_move_7 : decode cX10_move 7 = .ok (.invokevirtual 165, 3) := by decide +kernel
theorem dX10_move_10 : decode cX10_move 10 = .ok (.ifCond .eq 11, 3) := by decide +kernel
theorem dX10_move_13 : decode cX10_move 13 = .ok (.aload_n 0, 1) := by decide +kernel
theorem dX10_move_14 : decode cX10_move 14 = .ok (.iload_n 2, 1) := by decide +kernel
theorem dX10_move_15 : decode cX10_move 15 = .ok (.invokevirtual 82, 3) := by decide +kernel
theorem dX10_move_18 : decode cX10_move 18 = .ok (.ifCond .ne 9, 3) := by decide +kernel
theorem dX10_move_21 : decode cX10_move 21 = .ok (.aload_n 0, 1) := by decide +kernel
theorem dX10_move_22 : decode cX10_move 22 = .ok (.iconst 1, 1) := by decide +kernel
theorem dX10_move_23 : decode cX10_move 23 = .ok (.invokevirtual 171, 3) := by decide +kernel
theorem dX10_move_26 : decode cX10_move 26 = .ok (.ireturn, 1) := by decide +kernel
theorem dX10_move_27 : decode cX10_move 27 = .ok (.aload_n 0, 1) := by decide +kernel
theorem dX10_move_28 : decode cX10_move 28 = .ok (.getfield 31, 3) := by decide +kernel
theorem dX10_move_31 : decode cX10_move 31 = .ok (.iload_n 1, 1) := by decide +kernel
theorem dX10_move_32 : decode cX10_move 32 = .ok (.iaload, 1) := by decide +kernel
theorem dX10_move_33 : decode cX10_move 33 = .ok (.istore_n 3, 1) := by decide +kernel
theorem dX10_move_34 : decode cX10_move 34 = .ok (.aload_n 0, 1) := by decide +kernel
theorem dX10_move_35 : decode cX10_move 35 = .ok (.getfield 31, 3) := by decide +kernel
theorem dX10_move_38 : decode cX10_move 38 = .ok (.iload_n 1, 1) := by decide +kernel
theorem dX10_move_39 : decode cX10_move 39 = .ok (.iload_n 2, 1) := by decide +kernel
theorem dX10_move_40 : decode cX10_move 40 = .ok (.iastore, 1) := by decide +kernel
theorem dX10_move_41 : decode cX10_move 41 = .ok (.iload_n 3, 1) := by decide +kernel
theorem dX10_move_42 : decode cX10_move 42 = .ok (.ireturn, 1) := by decide +kernel
theorem dX10_rewind_0 : decode cX10_rewind 0 = .ok (.aload_n 0, 1) := by decide +kernel
theorem dX10_rewind_1 : decode cX10_rewind 1 = .ok (.iconst 0, 1) := by decide +kernel
theorem dX10_rewind_2 : decode cX10_rewind 2 = .ok (.putfield 66, 3) := by decide +kernel
theorem dX10_rewind_5 : decode cX10_rewind 5 = .ok (.aload_n 0, 1) := by decide +kernel
theorem dX10_rewind_6 : decode cX10_rewind 6 = .ok (.iload_n 1, 1) := by decide +kernel
theorem dX10_rewind_7 : decode cX10_rewind 7 = .ok (.invokevirtual 82, 3) := by decide +kernel
theorem dX10_rewind_10 : decode cX10_rewind 10 = .ok (.ifCond .ne 9, 3) := by decide +kernel
theorem dX10_rewind_13 : decode cX10_rewind 13 = .ok (.aload_n 0, 1) := by decide +kernel
theorem dX10_rewind_14 : decode cX10_rewind 14 = .ok (.iconst 1, 1) := by decide +kernel
theorem dX10_rewind_15 : decode cX10_rewind 15 = .ok (.invokevirtual 171, 3) := by decide +kernel
theorem dX10_rewind_18 : decode cX10_rewind 18 = .ok (.ireturn, 1) := by decide +kernel
theorem dX10_rewind_19 : decode cX10_rewind 19 = .ok (.iload_n 2, 1) := by decide +kernel
theorem dX10_rewind_20 : decode cX10_rewind 20 = .ok (.iconst 1, 1) := by decide +kernel
theorem dX10_rewind_21 : decode cX10_rewind 21 = .ok (.aload_n 0, 1) := by decide +kernel
theorem dX10_rewind_22 : decode cX10_rewind 22 = .ok (.getfield 7, 3) := by decide +kernel
theorem dX10_rewind_25 : decode cX10_rewind 25 = .ok (.iload_n 1, 1) := by decide +kernel
theorem dX10_rewind_26 : decode cX10_rewind 26 = .ok (.iaload, 1) := by decide +kernel
theorem dX10_rewind_27 : decode cX10_rewind 27 = .ok (.invokestatic 72, 3) := by decide +kernel
theorem dX10_rewind_30 : decode cX10_rewind 30 = .ok (.ifCond .ne 9, 3) := by decide +kernel
theorem dX10_rewind_33 : decode cX10_rewind 33 = .ok (.aload_n 0, 1) := by decide +kernel
theorem dX10_rewind_34 : decode cX10_rewind 34 = .ok (.iconst 2, 1) := by decide +kernel
theorem dX10_rewind_35 : decode cX10_rewind 35 = .ok (.invokevirtual 171, 3) := by decide +kernel
theorem dX10_rewind_38 : decode cX10_rewind 38 = .ok (.ireturn, 1) := by decide +kernel
theorem dX10_rewind_39 : decode cX10_rewind 39 = .ok (.aload_n 0, 1) := by decide +kernel
theorem dX10_rewind_40 : decode cX10_rewind 40 = .ok (.getfield 7, 3) := by decide +kernel
theorem dX10_rewind_43 : decode cX10_rewind 43 = .ok (.iload_n 1, 1) := by decide +kernel
theorem dX10_rewind_44 : decode cX10_rewind 44 = .ok (.aload_n 0, 1) := by decide +kernel
theorem dX10_rewind_45 : decode cX10_rewind 45 = .ok (.getfield 7, 3) := by decide +kernel
theorem dX10_rewind_48 : decode cX10_rewind 48 = .ok (.iload_n 1, 1) := by decide +kernel
theorem dX10_rewind_49 : decode cX10_rewind 49 = .ok (.iaload, 1) := by decide +kernel
theorem dX10_rewind_50 : decode cX10_rewind 50 = .ok (.iload_n 2, 1) := by decide +kernel
theorem dX10_rewind_51 : decode cX10_rewind 51 = .ok (.isub, 1) := by decide +kernel
theorem dX10_rewind_52 : decode cX10_rewind 52 = .ok (.iastore, 1) := by decide +kernel
theorem dX10_rewind_53 : decode cX10_rewind 53 = .ok (.aload_n 0, 1) := by decide +kernel
theorem dX10_rewind_54 : decode cX10_rewind 54 = .ok (.getfield 7, 3) := by decide +kernel
theorem dX10_rewind_57 : decode cX10_rewind 57 = .ok (.iload_n 1, 1) := by decide +kernel
theorem dX10_rewind_58 : decode cX10_rewind 58 = .ok (.iaload, 1) := by decide +kernel
theorem dX10_rewind_59 : decode cX10_rewind 59 = .ok (.ireturn, 1) := by decide +kernel
theorem dX10_corrupt_0 : decode cX10_corrupt 0 = .ok (.aload_n 0, 1) := by decide +kernel
theorem dX10_corrupt_1 : decode cX10_corrupt 1 = .ok (.iconst 0, 1) := by decide +kernel
theorem dX10_corrupt_2 : decode cX10_corrupt 2 = .ok (.putfield 66, 3) := by decide +kernel
theorem dX10_corrupt_5 : decode cX10_corrupt 5 = .ok (.aload_n 0, 1) := by decide +kernel
theorem dX10_corrupt_6 : decode cX10_corrupt 6 = .ok (.iload_n 1, 1) := by decide +kernel
theorem dX10_corrupt_7 : decode cX10_corrupt 7 = .ok (.iload_n 2, 1) := by decide +kernel
theorem dX10_corrupt_8 : decode cX10_corrupt 8 = .ok (.invokevirtual 199, 3) := by decide +kernel
theorem dX10_corrupt_11 : decode cX10_corrupt 11 = .ok (.ifCond .ne 9, 3) := by decide +kernel
theorem dX10_corrupt_14 : decode cX10_corrupt 14 = .ok (.aload_n 0, 1) := by decide +kernel
theorem dX10_corrupt_15 : decode cX10_corrupt 15 = .ok (.iconst 1, 1) := by decide +kernel
theorem dX10_corrupt_16 : decode cX10_corrupt 16 = .ok (.invokevirtual 171, 3) := by decide +kernel
theorem dX10_corrupt_19 : decode cX10_corrupt 19 = .ok (.ireturn, 1) := by decide +kernel
theorem dX10_corrupt_20 : decode cX10_corrupt 20 = .ok (.iload_n 3, 1) := by decide +kernel
theorem dX10_corrupt_21 : decode cX10_corrupt 21 = .ok (.iconst 0, 1) := by decide +kernel
theorem dX10_corrupt_22 : decode cX10_corrupt 22 = .ok (.ldc 174, 2) := by decide +kernel
theorem dX10_corrupt_24 : decode cX10_corrupt 24 = .ok (.invokestatic 72, 3) := by decide +kernel
theorem dX10_corrupt_27 : decode cX10_corrupt 27 = .ok (.ifCond .ne 9, 3) := by decide +kernel
theorem dX10_corrupt_30 : decode cX10_corrupt 30 = .ok (.aload_n 0, 1) := by decide +kernel
theorem dX10_corrupt_31 : decode cX10_corrupt 31 = .ok (.iconst 2, 1) := by decide +kernel
theorem dX10_corrupt_32 : decode cX10_corrupt 32 = .ok (.invokevirtual 171, 3) := by decide +kernel
theorem dX10_corrupt_35 : decode cX10_corrupt 35 = .ok (.ireturn, 1) := by decide +kernel
theorem dX10_corrupt_36 : decode cX10_corrupt 36 = .ok (.iload_n 1, 1) := by decide +kernel
theorem dX10_corrupt_37 : decode cX10_corrupt 37 = .ok (.iload_n 2, 1) := by decide +kernel
theorem dX10_corrupt_38 : decode cX10_corrupt 38 = .ok (.invokestatic 86, 3) := by decide +kernel
theorem dX10_corrupt_41 : decode cX10_corrupt 41 = .ok (.istore 4, 2) := by decide +kernel
theorem dX10_corrupt_43 : decode cX10_corrupt 43 = .ok (.aload_n 0, 1) := by decide +kernel
theorem dX10_corrupt_44 : decode cX10_corrupt 44 = .ok (.getfield 13, 3) := by decide +kernel
theorem dX10_corrupt_47 : decode cX10_corrupt 47 = .ok (.iload 4, 2) := by decide +kernel
theorem dX10_corrupt_49 : decode cX10_corrupt 49 = .ok (.iaload, 1) := by decide +kernel
theorem dX10_corrupt_50 : decode cX10_corrupt 50 = .ok (.iconst 1, 1) := by decide +kernel
theorem dX10_corrupt_51 : decode cX10_corrupt 51 = .ok (.if_icmp .eq 9, 3) := by decide +kernel
theorem dX10_corrupt_54 : decode cX10_corrupt 54 = .ok (.aload_n 0, 1) := by decide +kernel
theorem dX10_corrupt_55 : decode cX10_corrupt 55 = .ok (.iconst 3, 1) := by decide +kernel
theorem dX10_corrupt_56 : decode cX10_corrupt 56 = .ok (.invokevirtual 171, 3) := by decide +kernel
theorem dX10_corrupt_59 : decode cX10_corrupt 59 = .ok (.ireturn, 1) := by decide +kernel
theorem dX10_corrupt_60 : decode cX10_corrupt 60 = .ok (.aload_n 0, 1) := by decide +kernel
theorem dX10_corrupt_61 : decode cX10_corrupt 61 = .ok (.getfield 22, 3) := by decide +kernel
theorem dX10_corrupt_64 : decode cX10_corrupt 64 = .ok (.iload 4, 2) := by decide +kernel
theorem dX10_corrupt_66 : decode cX10_corrupt 66 = .ok (.iaload, 1) := by decide +kernel
theorem dX10_corrupt_67 : decode cX10_corrupt 67 = .ok (.istore 5, 2) := by decide +kernel
theorem dX10_corrupt_69 : decode cX10_corrupt 69 = .ok (.aload_n 0, 1) := by decide +kernel
theorem dX10_corrupt_70 : decode cX10_corrupt 70 = .ok (.getfield 22, 3) := by decide +kernel
theorem dX10_corrupt_73 : decode cX10_corrupt 73 = .ok (.iload 4, 2) := by decide +kernel
theorem dX10_corrupt_75 : decode cX10_corrupt 75 = .ok (.iload_n 3, 1) := by decide +kernel
theorem dX10_corrupt_76 : decode cX10_corrupt 76 = .ok (.iastore, 1) := by decide +kernel
theorem dX10_corrupt_77 : decode cX10_corrupt 77 = .ok (.iload 5, 2) := by decide +kernel
theorem dX10_corrupt_79 : decode cX10_corrupt 79 = .ok (.ireturn, 1) := by decide +kernel
theorem dX10_common_0 : decode cX10_common 0 = .ok (.iconst 0, 1) := by decide +kernel
theorem dX10_common_1 : decode cX10_common 1 = .ok (.istore_n 3, 1) := by decide +kernel
theorem dX10_common_2 : decode cX10_common 2 = .ok (.iload_n 3, 1) := by decide +kernel
theorem dX10_common_3 : decode cX10_common 3 = .ok (.aload_n 0, 1) := by decide +kernel
theorem dX10_common_4 : decode cX10_common 4 = .ok (.getfield 7, 3) := by decide +kernel
theorem dX10_common_7 : decode cX10_common 7 = .ok (.iload_n 1, 1) := by decide +kernel
theorem dX10_common_8 : decode cX10_common 8 = .ok (.iaload, 1) := by decide +kernel
theorem dX10_common_9 : decode cX10_common 9 = .ok (.if_icmp .ge 39, 3) := by decide +kernel
theorem dX10_common_12 : decode cX10_common 12 = .ok (.iload_n 3, 1) := by decide +kernel
theorem dX10_common_13 : decode cX10_common 13 = .ok (.aload_n 0, 1) := by decide +kernel
theorem dX10_common_14 : decode cX10_common 14 = .ok (.getfield 7, 3) := by decide +kernel
theorem dX10_common_17 : decode cX10_common 17 = .ok (.iload_n 2, 1) := by decide +kernel
theorem dX10_common_18 : decode cX10_common 18 = .ok (.iaload, 1) := by decide +kernel
theorem dX10_common_19 : decode cX10_common 19 = .ok (.if_icmp .ge 29, 3) := by decide +kernel
theorem dX10_common_22 : decode cX10_common 22 = .ok (.aload_n 0, 1) := by decide +kernel
theorem dX10_common_23 : decode cX10_common 23 = .ok (.iload_n 1, 1) := by decide +kernel
theorem dX10_common_24 : decode cX10_common 24 = .ok (.iload_n 3, 1) := by decide +kernel
theorem dX10_common_25 : decode cX10_common 25 = .ok (.iconst 1, 1) := by decide +kernel
theorem dX10_common_26 : decode cX10_common 26 = .ok (.iadd, 1) := by decide +kernel
theorem dX10_common_27 : decode cX10_common 27 = .ok (.invokevirtual 95, 3) := by decide +kernel
theorem dX10_common_30 : decode cX10_common 30 = .ok (.aload_n 0, 1) := by decide +kernel
theorem dX10_common_31 : decode cX10_common 31 = .ok (.iload_n 2, 1) := by decide +kernel
theorem dX10_common_32 : decode cX10_common 32 = .ok (.iload_n 3, 1) := by decide +kernel
theorem dX10_common_33 : decode cX10_common 33 = .ok (.iconst 1, 1) := by decide +kernel
theorem dX10_common_34 : decode cX10_common 34 = .ok (.iadd, 1) := by decide +kernel
theorem dX10_common_35 : decode cX10_common 35 = .ok (.invokevirtual 95, 3) := by decide +kernel
theorem dX10_common_38 : decode cX10_common 38 = .ok (.if_icmp .ne 10, 3) := by decide +kernel
theorem dX10_common_41 : decode cX10_common 41 = .ok (.iload_n 3, 1) := by decide +kernel
theorem dX10_common_42 : decode cX10_common 42 = .ok (.iconst 1, 1) := by decide +kernel
theorem dX10_common_43 : decode cX10_common 43 = .ok (.iadd, 1) := by decide +kernel
theorem dX10_common_44 : decode cX10_common 44 = .ok (.istore_n 3, 1) := by decide +kernel
theorem dX10_common_45 : decode cX10_common 45 = .ok (.goto (-43), 3) := by decide +kernel
theorem dX10_common_48 : decode cX10_common 48 = .ok (.iload_n 3, 1) := by decide +kernel
theorem dX10_common_49 : decode cX10_common 49 = .ok (.ireturn, 1) := by decide +kernel
theorem dX10_touched_0 : decode cX10_touched 0 = .ok (.iconst 0, 1) := by decide +kernel
theorem dX10_touched_1 : decode cX10_touched 1 = .ok (.istore 4, 2) := by decide +kernel
theorem dX10_touched_3 : decode cX10_touched 3 = .ok (.iload_n 2, 1) := by decide +kernel
theorem dX10_touched_4 : decode cX10_touched 4 = .ok (.iconst 1, 1) := by decide +kernel
theorem dX10_touched_5 : decode cX10_touched 5 = .ok (.iadd, 1) := by decide +kernel
theorem dX10_touched_6 : decode cX10_touched 6 = .ok (.istore 5, 2) := by decide +kernel
theorem dX10_touched_8 : decode cX10_touched 8 = .ok (.iload 5, 2) := by decide +kernel
theorem dX10_touched_10 : decode cX10_touched 10 = .ok (.aload_n 0, 1) := by decide +kernel
theorem dX10_touched_11 : decode cX10_touched 11 = .ok (.getfield 7, 3) := by decide +kernel
theorem dX10_touched_14 : decode cX10_touched 14 = .ok (.iload_n 1, 1) := by decide +kernel
theorem dX10_touched_15 : decode cX10_touched 15 = .ok (.iaload, 1) := by decide +kernel
theorem dX10_touched_16 : decode cX10_touched 16 = .ok (.if_icmp .gt 73, 3) := by decide +kernel
theorem dX10_touched_19 : decode cX10_touched 19 = .ok (.iload_n 1, 1) := by decide +kernel
theorem dX10_touched_20 : decode cX10_touched 20 = .ok (.iload 5, 2) := by decide +kernel
theorem dX10_touched_22 : decode cX10_touched 22 = .ok (.invokestatic 86, 3) := by decide +kernel
theorem dX10_touched_25 : decode cX10_touched 25 = .ok (.istore 6, 2) := by decide +kernel
theorem dX10_touched_27 : decode cX10_touched 27 = .ok (.aload_n 0, 1) := by decide +kernel
theorem dX10_touched_28 : decode cX10_touched 28 = .ok (.getfield 13, 3) := by decide +kernel
theorem dX10_touched_31 : decode cX10_touched 31 = .ok (.iload 6, 2) := by decide +kernel
theorem dX10_touched_33 : decode cX10_touched 33 = .ok (.iaload, 1) := by decide +kernel
theorem dX10_touched_34 : decode cX10_touched 34 = .ok (.iconst 1, 1) := by decide +kernel
theorem dX10_touched_35 : decode cX10_touched 35 = .ok (.if_icmp .eq 17, 3) := by decide +kernel
theorem dX10_touched_38 : decode cX10_touched 38 = .ok (.aload_n 0, 1) := by decide +kernel
theorem dX10_touched_39 : decode cX10_touched 39 = .ok (.getfield 13, 3) := by decide +kernel
theorem dX10_touched_42 : decode cX10_touched 42 = .ok (.iload 6, 2) := by decide +kernel
theorem dX10_touched_44 : decode cX10_touched 44 = .ok (.iaload, 1) := by decide +kernel
theorem dX10_touched_45 : decode cX10_touched 45 = .ok (.ifCond .ne 11, 3) := by decide +kernel
theorem dX10_touched_48 : decode cX10_touched 48 = .ok (.iload_n 3, 1) := by decide +kernel
theorem dX10_touched_49 : decode cX10_touched 49 = .ok (.ifCond .ne 7, 3) := by decide +kernel
theorem dX10_touched_52 : decode cX10_touched 52 = .ok (.iconst 1, 1) := by decide +kernel
theorem dX10_touched_53 : decode cX10_touched 53 = .ok (.goto 4, 3) := by decide +kernel
theorem dX10_touched_56 : decode cX10_touched 56 = .ok (.iconst 0, 1) := by decide +kernel
theorem dX10_touched_57 : decode cX10_touched 57 = .ok (.istore 7, 2) := by decide +kernel
theorem dX10_touched_59 : decode cX10_touched 59 = .ok (.iload 7, 2) := by decide +kernel
theorem dX10_touched_61 : decode cX10_touched 61 = .ok (.ifCond .eq 18, 3) := by decide +kernel
theorem dX10_touched_64 : decode cX10_touched 64 = .ok (.iload 4, 2) := by decide +kernel
theorem dX10_touched_66 : decode cX10_touched 66 = .ok (.iconst 1, 1) := by decide +kernel
theorem dX10_touched_67 : decode cX10_touched 67 = .ok (.aload_n 0, 1) := by decide +kernel
theorem dX10_touched_68 : decode cX10_touched 68 = .ok (.getfield 19, 3) := by decide +kernel
theorem dX10_touched_71 : decode cX10_touched 71 = .ok (.iload 6, 2) := by decide +kernel
theorem dX10_touched_73 : decode cX10_touched 73 = .ok (.iaload, 1) := by decide +kernel
theorem dX10_touched_74 : decode cX10_touched 74 = .ok (.ishl, 1) := by decide +kernel
theorem dX10_touched_75 : decode cX10_touched 75 = .ok (.ior, 1) := by decide +kernel
theorem dX10_touched_76 : decode cX10_touched 76 = .ok (.goto 5, 3) := by decide +kernel
theorem dX10_touched_79 : decode cX10_touched 79 = .ok (.iload 4, 2) := by decide +kernel
theorem dX10_touched_81 : decode cX10_touched 81 = .ok (.istore 4, 2) := by decide +kernel
theorem dX10_touched_83 : decode cX10_touched 83 = .ok (.iinc 5 1, 3) := by decide +kernel
theorem dX10_touched_86 : decode cX10_touched 86 = .ok (.goto (-78), 3) := by decide +kernel
theorem dX10_touched_89 : decode cX10_touched 89 = .ok (.iload 4, 2) := by decide +kernel
theorem dX10_touched_91 : decode cX10_touched 91 = .ok (.ireturn, 1) := by decide +kernel
theorem dX10_conflictsOf_0 : decode cX10_conflictsOf 0 = .ok (.aload_n 0, 1) := by decide +kernel
theorem dX10_conflictsOf_1 : decode cX10_conflictsOf 1 = .ok (.iload_n 1, 1) := by decide +kernel
theorem dX10_conflictsOf_2 : decode cX10_conflictsOf 2 = .ok (.iload_n 2, 1) := by decide +kernel
theorem dX10_conflictsOf_3 : decode cX10_conflictsOf 3 = .ok (.invokevirtual 202, 3) := by decide +kernel
theorem dX10_conflictsOf_6 : decode cX10_conflictsOf 6 = .ok (.istore_n 3, 1) := by decide +kernel
theorem dX10_conflictsOf_7 : decode cX10_conflictsOf 7 = .ok (.aload_n 0, 1) := by decide +kernel
theorem dX10_conflictsOf_8 : decode cX10_conflictsOf 8 = .ok (.iload_n 1, 1) := by decide +kernel
theorem dX10_conflictsOf_9 : decode cX10_conflictsOf 9 = .ok (.iload_n 3, 1) := by decide +kernel
theorem dX10_conflictsOf_10 : decode cX10_conflictsOf 10 = .ok (.iconst 1, 1) := by decide +kernel
theorem dX10_conflictsOf_11 : decode cX10_conflictsOf 11 = .ok (.invokevirtual 205, 3) := by decide +kernel
theorem dX10_conflictsOf_14 : decode cX10_conflictsOf 14 = .ok (.aload_n 0, 1) := by decide +kernel
theorem dX10_conflictsOf_15 : decode cX10_conflictsOf 15 = .ok (.iload_n 2, 1) := by decide +kernel
theorem dX10_conflictsOf_16 : decode cX10_conflictsOf 16 = .ok (.iload_n 3, 1) := by decide +kernel
theorem dX10_conflictsOf_17 : decode cX10_conflictsOf 17 = .ok (.iconst 0, 1) := by decide +kernel
theorem dX10_conflictsOf_18 : decode cX10_conflictsOf 18 = .ok (.invokevirtual 205, 3) := by decide +kernel
theorem dX10_conflictsOf_21 : decode cX10_conflictsOf 21 = .ok (.iand, 1) := by decide +kernel
theorem dX10_conflictsOf_22 : decode cX10_conflictsOf 22 = .ok (.aload_n 0, 1) := by decide +kernel
theorem dX10_conflictsOf_23 : decode cX10_conflictsOf 23 = .ok (.iload_n 2, 1) := by decide +kernel
theorem dX10_conflictsOf_24 : decode cX10_conflictsOf 24 = .ok (.iload_n 3, 1) := by decide +kernel
theorem dX10_conflictsOf_25 : decode cX10_conflictsOf 25 = .ok (.iconst 1, 1) := by decide +kernel
theorem dX10_conflictsOf_26 : decode cX10_conflictsOf 26 = .ok (.invokevirtual 205, 3) := by decide +kernel
theorem dX10_conflictsOf_29 : decode cX10_conflictsOf 29 = .ok (.aload_n 0, 1) := by decide +kernel
theorem dX10_conflictsOf_30 : decode cX10_conflictsOf 30 = .ok (.iload_n 1, 1) := by decide +kernel
theorem dX10_conflictsOf_31 : decode cX10_conflictsOf 31 = .ok (.iload_n 3, 1) := by decide +kernel
theorem dX10_conflictsOf_32 : decode cX10_conflictsOf 32 = .ok (.iconst 0, 1) := by decide +kernel
theorem dX10_conflictsOf_33 : decode cX10_conflictsOf 33 = .ok (.invokevirtual 205, 3) := by decide +kernel
theorem dX10_conflictsOf_36 : decode cX10_conflictsOf 36 = .ok (.iand, 1) := by decide +kernel
theorem dX10_conflictsOf_37 : decode cX10_conflictsOf 37 = .ok (.ior, 1) := by decide +kernel
theorem dX10_conflictsOf_38 : decode cX10_conflictsOf 38 = .ok (.ireturn, 1) := by decide +kernel
theorem dX10_goesWith_0 : decode cX10_goesWith 0 = .ok (.aload_n 0, 1) := by decide +kernel
theorem dX10_goesWith_1 : decode cX10_goesWith 1 = .ok (.getfield 31, 3) := by decide +kernel
theorem dX10_goesWith_4 : decode cX10_goesWith 4 = .ok (.iload_n 1, 1) := by decide +kernel
theorem dX10_goesWith_5 : decode cX10_goesWith 5 = .ok (.iaload, 1) := by decide +kernel
theorem dX10_goesWith_6 : decode cX10_goesWith 6 = .ok (.istore_n 2, 1) := by decide +kernel
theorem dX10_goesWith_7 : decode cX10_goesWith 7 = .ok (.aload_n 0, 1) := by decide +kernel
theorem dX10_goesWith_8 : decode cX10_goesWith 8 = .ok (.getfield 34, 3) := by decide +kernel
theorem dX10_goesWith_11 : decode cX10_goesWith 11 = .ok (.iload_n 1, 1) := by decide +kernel
theorem dX10_goesWith_12 : decode cX10_goesWith 12 = .ok (.iaload, 1) := by decide +kernel
theorem dX10_goesWith_13 : decode cX10_goesWith 13 = .ok (.istore_n 3, 1) := by decide +kernel
theorem dX10_goesWith_14 : decode cX10_goesWith 14 = .ok (.aload_n 0, 1) := by decide +kernel
theorem dX10_goesWith_15 : decode cX10_goesWith 15 = .ok (.getfield 7, 3) := by decide +kernel
theorem dX10_goesWith_18 : decode cX10_goesWith 18 = .ok (.iload_n 2, 1) := by decide +kernel
theorem dX10_goesWith_19 : decode cX10_goesWith 19 = .ok (.iaload, 1) := by decide +kernel
theorem dX10_goesWith_20 : decode cX10_goesWith 20 = .ok (.iload_n 3, 1) := by decide +kernel
theorem dX10_goesWith_21 : decode cX10_goesWith 21 = .ok (.if_icmp .lt 21, 3) := by decide +kernel
theorem dX10_goesWith_24 : decode cX10_goesWith 24 = .ok (.aload_n 0, 1) := by decide +kernel
theorem dX10_goesWith_25 : decode cX10_goesWith 25 = .ok (.iload_n 2, 1) := by decide +kernel
theorem dX10_goesWith_26 : decode cX10_goesWith 26 = .ok (.iload_n 3, 1) := by decide +kernel
theorem dX10_goesWith_27 : decode cX10_goesWith 27 = .ok (.invokevirtual 95, 3) := by decide +kernel
theorem dX10_goesWith_30 : decode cX10_goesWith 30 = .ok (.aload_n 0, 1) := by decide +kernel
theorem dX10_goesWith_31 : decode cX10_goesWith 31 = .ok (.iload_n 1, 1) := by decide +kernel
theorem dX10_goesWith_32 : decode cX10_goesWith 32 = .ok (.invokevirtual 139, 3) := by decide +kernel
theorem dX10_goesWith_35 : decode cX10_goesWith 35 = .ok (.if_icmp .ne 7, 3) := by decide +kernel
theorem dX10_goesWith_38 : decode cX10_goesWith 38 = .ok (.iconst 1, 1) := by decide +kernel
theorem dX10_goesWith_39 : decode cX10_goesWith 39 = .ok (.goto 4, 3) := by decide +kernel
theorem dX10_goesWith_42 : decode cX10_goesWith 42 = .ok (.iconst 0, 1) := by decide +kernel
theorem dX10_goesWith_43 : decode cX10_goesWith 43 = .ok (.ireturn, 1) := by decide +kernel
theorem dX10_heal_0 : decode cX10_heal 0 = .ok (.aload_n 0, 1) := by decide +kernel
theorem dX10_heal_1 : decode cX10_heal 1 = .ok (.iconst 0, 1) := by decide +kernel
theorem dX10_heal_2 : decode cX10_heal 2 = .ok (.putfield 66, 3) := by decide +kernel
theorem dX10_heal_5 : decode cX10_heal 5 = .ok (.aload_n 0, 1) := by decide +kernel
theorem dX10_heal_6 : decode cX10_heal 6 = .ok (.iload_n 1, 1) := by decide +kernel
theorem dX10_heal_7 : decode cX10_heal 7 = .ok (.invokevirtual 82, 3) := by decide +kernel
theorem dX10_heal_10 : decode cX10_heal 10 = .ok (.ifCond .eq 16, 3) := by decide +kernel
theorem dX10_heal_13 : decode cX10_heal 13 = .ok (.aload_n 0, 1) := by decide +kernel
theorem dX10_heal_14 : decode cX10_heal 14 = .ok (.iload_n 2, 1) := by decide +kernel
theorem dX10_heal_15 : decode cX10_heal 15 = .ok (.invokevirtual 82, 3) := by decide +kernel
theorem dX10_heal_18 : decode cX10_heal 18 = .ok (.ifCond .eq 8, 3) := by decide +kernel
theorem dX10_heal_21 : decode cX10_heal 21 = .ok (.iload_n 1, 1) := by decide +kernel
theorem dX10_heal_22 : decode cX10_heal 22 = .ok (.iload_n 2, 1) := by decide +kernel
theorem dX10_heal_23 : decode cX10_heal 23 = .ok (.if_icmp .ne 9, 3) := by decide +kernel
theorem dX10_heal_26 : decode cX10_heal 26 = .ok (.aload_n 0, 1) := by decide +kernel
theorem dX10_heal_27 : decode cX10_heal 27 = .ok (.iconst 1, 1) := by decide +kernel
theorem dX10_heal_28 : decode cX10_heal 28 = .ok (.invokevirtual 171, 3) := by decide +kernel
theorem dX10_heal_31 : decode cX10_heal 31 = .ok (.ireturn, 1) := by decide +kernel
theorem dX10_heal_32 : decode cX10_heal 32 = .ok (.aload_n 0, 1) := by decide +kernel
theorem dX10_heal_33 : decode cX10_heal 33 = .ok (.iload_n 1, 1) := by decide +kernel
theorem dX10_heal_34 : decode cX10_heal 34 = .ok (.iload_n 2, 1) := by decide +kernel
theorem dX10_heal_35 : decode cX10_heal 35 = .ok (.invokevirtual 202, 3) := by decide +kernel
theorem dX10_heal_38 : decode cX10_heal 38 = .ok (.istore_n 3, 1) := by decide +kernel
theorem dX10_heal_39 : decode cX10_heal 39 = .ok (.aload_n 0, 1) := by decide +kernel
theorem dX10_heal_40 : decode cX10_heal 40 = .ok (.getfield 7, 3) := by decide +kernel
theorem dX10_heal_43 : decode cX10_heal 43 = .ok (.iload_n 1, 1) := by decide +kernel
theorem dX10_heal_44 : decode cX10_heal 44 = .ok (.iaload, 1) := by decide +kernel
theorem dX10_heal_45 : decode cX10_heal 45 = .ok (.iconst 1, 1) := by decide +kernel
theorem dX10_heal_46 : decode cX10_heal 46 = .ok (.iadd, 1) := by decide +kernel
theorem dX10_heal_47 : decode cX10_heal 47 = .ok (.aload_n 0, 1) := by decide +kernel
theorem dX10_heal_48 : decode cX10_heal 48 = .ok (.getfield 7, 3) := by decide +kernel
theorem dX10_heal_51 : decode cX10_heal 51 = .ok (.iload_n 2, 1) := by decide +kernel
theorem dX10_heal_52 : decode cX10_heal 52 = .ok (.iaload, 1) := by decide +kernel
theorem dX10_heal_53 : decode cX10_heal 53 = .ok (.iadd, 1) := by decide +kernel
theorem dX10_heal_54 : decode cX10_heal 54 = .ok (.iload_n 3, 1) := by decide +kernel
theorem dX10_heal_55 : decode cX10_heal 55 = .ok (.isub, 1) := by decide +kernel
theorem dX10_heal_56 : decode cX10_heal 56 = .ok (.istore 4, 2) := by decide +kernel
theorem dX10_heal_58 : decode cX10_heal 58 = .ok (.aload_n 0, 1) := by decide +kernel
theorem dX10_heal_59 : decode cX10_heal 59 = .ok (.iload_n 1, 1) := by decide +kernel
theorem dX10_heal_60 : decode cX10_heal 60 = .ok (.iload_n 2, 1) := by decide +kernel
theorem dX10_heal_61 : decode cX10_heal 61 = .ok (.invokevirtual 209, 3) := by decide +kernel
theorem dX10_heal_64 : decode cX10_heal 64 = .ok (.ifCond .ne 20, 3) := by decide +kernel
theorem dX10_heal_67 : decode cX10_heal 67 = .ok (.aload_n 0, 1) := by decide +kernel
theorem dX10_heal_68 : decode cX10_heal 68 = .ok (.getfield 79, 3) := by decide +kernel
theorem dX10_heal_71 : decode cX10_heal 71 = .ok (.bipush 8, 2) := by decide +kernel
theorem dX10_heal_73 : decode cX10_heal 73 = .ok (.if_icmp .eq 11, 3) := by decide +kernel
theorem dX10_heal_76 : decode cX10_heal 76 = .ok (.iload 4, 2) := by decide +kernel
theorem dX10_heal_78 : decode cX10_heal 78 = .ok (.sipush 200, 3) := by decide +kernel
theorem dX10_heal_81 : decode cX10_heal 81 = .ok (.if_icmp .le 9, 3) := by decide +kernel
theorem dX10_heal_84 : decode cX10_heal 84 = .ok (.aload_n 0, 1) := by decide +kernel
theorem dX10_heal_85 : decode cX10_heal 85 = .ok (.iconst 2, 1) := by decide +kernel
theorem dX10_heal_86 : decode cX10_heal 86 = .ok (.invokevirtual 171, 3) := by decide +kernel
theorem dX10_heal_89 : decode cX10_heal 89 = .ok (.ireturn, 1) := by decide +kernel
theorem dX10_heal_90 : decode cX10_heal 90 = .ok (.aload_n 0, 1) := by decide +kernel
theorem dX10_heal_91 : decode cX10_heal 91 = .ok (.getfield 79, 3) := by decide +kernel
theorem dX10_heal_94 : decode cX10_heal 94 = .ok (.istore 5, 2) := by decide +kernel
theorem dX10_heal_96 : decode cX10_heal 96 = .ok (.aload_n 0, 1) := by decide +kernel
theorem dX10_heal_97 : decode cX10_heal 97 = .ok (.iload_n 1, 1) := by decide +kernel
theorem dX10_heal_98 : decode cX10_heal 98 = .ok (.iload 5, 2) := by decide +kernel
theorem dX10_heal_100 : decode cX10_heal 100 = .ok (.aload_n 0, 1) := by decide +kernel
theorem dX10_heal_101 : decode cX10_heal 101 = .ok (.getfield 7, 3) := by decide +kernel
theorem dX10_heal_104 : decode cX10_heal 104 = .ok (.iload_n 1, 1) := by decide +kernel
theorem dX10_heal_105 : decode cX10_heal 105 = .ok (.iaload, 1) := by decide +kernel
theorem dX10_heal_106 : decode cX10_heal 106 = .ok (.invokevirtual 195, 3) := by decide +kernel
theorem dX10_heal_109 : decode cX10_heal 109 = .ok (.aload_n 0, 1) := by decide +kernel
theorem dX10_heal_110 : decode cX10_heal 110 = .ok (.iload 5, 2) := by decide +kernel
theorem dX10_heal_112 : decode cX10_heal 112 = .ok (.iconst 2, 1) := by decide +kernel
theorem dX10_heal_113 : decode cX10_heal 113 = .ok (.iconst (-1), 1) := by decide +kernel
theorem dX10_heal_114 : decode cX10_heal 114 = .ok (.iconst (-1), 1) := by decide +kernel
theorem dX10_heal_115 : decode cX10_heal 115 = .ok (.iconst 0, 1) := by decide +kernel
theorem dX10_heal_116 : decode cX10_heal 116 = .ok (.aload_n 0, 1) := by decide +kernel
theorem dX10_heal_117 : decode cX10_heal 117 = .ok (.iload_n 2, 1) := by decide +kernel
theorem dX10_heal_118 : decode cX10_heal 118 = .ok (.aload_n 0, 1) := by decide +kernel
theorem dX10_heal_119 : decode cX10_heal 119 = .ok (.getfield 7, 3) := by decide +kernel
theorem dX10_heal_122 : decode cX10_heal 122 = .ok (.iload_n 2, 1) := by decide +kernel
theorem dX10_heal_123 : decode cX10_heal 123 = .ok (.iaload, 1) := by decide +kernel
theorem dX10_heal_124 : decode cX10_heal 124 = .ok (.invokevirtual 95, 3) := by decide +kernel
theorem dX10_heal_127 : decode cX10_heal 127 = .ok (.invokevirtual 155, 3) := by decide +kernel
theorem dX10_heal_130 : decode cX10_heal 130 = .ok (.iload_n 3, 1) := by decide +kernel
theorem dX10_heal_131 : decode cX10_heal 131 = .ok (.iconst 1, 1) := by decide +kernel
theorem dX10_heal_132 : decode cX10_heal 132 = .ok (.iadd, 1) := by decide +kernel
theorem dX10_heal_133 : decode cX10_heal 133 = .ok (.istore 6, 2) := by decide +kernel
theorem dX10_heal_135 : decode cX10_heal 135 = .ok (.iload 6, 2) := by decide +kernel
theorem dX10_heal_137 : decode cX10_heal 137 = .ok (.aload_n 0, 1) := by decide +kernel
theorem dX10_heal_138 : decode cX10_heal 138 = .ok (.getfield 7, 3) := by decide +kernel
theorem dX10_heal_141 : decode cX10_heal 141 = .ok (.iload_n 2, 1) := by decide +kernel
theorem dX10_heal_142 : decode cX10_heal 142 = .ok (.iaload, 1) := by decide +kernel
theorem dX10_heal_143 : decode cX10_heal 143 = .ok (.if_icmp .gt 58, 3) := by decide +kernel
theorem dX10_heal_146 : decode cX10_heal 146 = .ok (.iload_n 2, 1) := by decide +kernel
theorem dX10_heal_147 : decode cX10_heal 147 = .ok (.iload 6, 2) := by decide +kernel
theorem dX10_heal_149 : decode cX10_heal 149 = .ok (.invokestatic 86, 3) := by decide +kernel
theorem dX10_heal_152 : decode cX10_heal 152 = .ok (.istore 7, 2) := by decide +kernel
theorem dX10_heal_154 : decode cX10_heal 154 = .ok (.aload_n 0, 1) := by decide +kernel
theorem dX10_heal_155 : decode cX10_heal 155 = .ok (.iload 5, 2) := by decide +kernel
theorem dX10_heal_157 : decode cX10_heal 157 = .ok (.aload_n 0, 1) := by decide +kernel
theorem dX10_heal_158 : decode cX10_heal 158 = .ok (.getfield 13, 3) := by decide +kernel
theorem dX10_heal_161 : decode cX10_heal 161 = .ok (.iload 7, 2) := by decide +kernel
theorem dX10_heal_163 : decode cX10_heal 163 = .ok (.iaload, 1) := by decide +kernel
theorem dX10_heal_164 : decode cX10_heal 164 = .ok (.aload_n 0, 1) := by decide +kernel
theorem dX10_heal_165 : decode cX10_heal 165 = .ok (.getfield 16, 3) := by decide +kernel
theorem dX10_heal_168 : decode cX10_heal 168 = .ok (.iload 7, 2) := by decide +kernel
theorem dX10_heal_170 : decode cX10_heal 170 = .ok (.iaload, 1) := by decide +kernel
theorem dX10_heal_171 : decode cX10_heal 171 = .ok (.aload_n 0, 1) := by decide +kernel
theorem dX10_heal_172 : decode cX10_heal 172 = .ok (.getfield 19, 3) := by decide +kernel
theorem dX10_heal_175 : decode cX10_heal 175 = .ok (.iload 7, 2) := by decide +kernel
theorem dX10_heal_177 : decode cX10_heal 177 = .ok (.iaload, 1) := by decide +kernel
theorem dX10_heal_178 : decode cX10_heal 178 = .ok (.aload_n 0, 1) := by decide +kernel
theorem dX10_heal_179 : decode cX10_heal 179 = .ok (.getfield 22, 3) := by decide +kernel
theorem dX10_heal_182 : decode cX10_heal 182 = .ok (.iload 7, 2) := by decide +kernel
theorem dX10_heal_184 : decode cX10_heal 184 = .ok (.iaload, 1) := by decide +kernel
theorem dX10_heal_185 : decode cX10_heal 185 = .ok (.aload_n 0, 1) := by decide +kernel
theorem dX10_heal_186 : decode cX10_heal 186 = .ok (.getfield 25, 3) := by decide +kernel
theorem dX10_heal_189 : decode cX10_heal 189 = .ok (.iload 7, 2) := by decide +kernel
theorem dX10_heal_191 : decode cX10_heal 191 = .ok (.iaload, 1) := by decide +kernel
theorem dX10_heal_192 : decode cX10_heal 192 = .ok (.invokevirtual 155, 3) := by decide +kernel
theorem dX10_heal_195 : decode cX10_heal 195 = .ok (.iinc 6 1, 3) := by decide +kernel
theorem dX10_heal_198 : decode cX10_heal 198 = .ok (.goto (-63), 3) := by decide +kernel
theorem dX10_heal_201 : decode cX10_heal 201 = .ok (.aload_n 0, 1) := by decide +kernel
theorem dX10_heal_202 : decode cX10_heal 202 = .ok (.aload_n 0, 1) := by decide +kernel
theorem dX10_heal_203 : decode cX10_heal 203 = .ok (.getfield 79, 3) := by decide +kernel
theorem dX10_heal_206 : decode cX10_heal 206 = .ok (.iconst 1, 1) := by decide +kernel
theorem dX10_heal_207 : decode cX10_heal 207 = .ok (.iadd, 1) := by decide +kernel
theorem dX10_heal_208 : decode cX10_heal 208 = .ok (.putfield 79, 3) := by decide +kernel
theorem dX10_heal_211 : decode cX10_heal 211 = .ok (.iconst 0, 1) := by decide +kernel
theorem dX10_heal_212 : decode cX10_heal 212 = .ok (.istore 6, 2) := by decide +kernel
theorem dX10_heal_214 : decode cX10_heal 214 = .ok (.iload 6, 2) := by decide +kernel
theorem dX10_heal_216 : decode cX10_heal 216 = .ok (.aload_n 0, 1) := by decide +kernel
theorem dX10_heal_217 : decode cX10_heal 217 = .ok (.getfield 69, 3) := by decide +kernel
theorem dX10_heal_220 : decode cX10_heal 220 = .ok (.if_icmp .ge 56, 3) := by decide +kernel
theorem dX10_heal_223 : decode cX10_heal 223 = .ok (.aload_n 0, 1) := by decide +kernel
theorem dX10_heal_224 : decode cX10_heal 224 = .ok (.getfield 31, 3) := by decide +kernel
theorem dX10_heal_227 : decode cX10_heal 227 = .ok (.iload 6, 2) := by decide +kernel
theorem dX10_heal_229 : decode cX10_heal 229 = .ok (.iaload, 1) := by decide +kernel
theorem dX10_heal_230 : decode cX10_heal 230 = .ok (.iload_n 1, 1) := by decide +kernel
theorem dX10_heal_231 : decode cX10_heal 231 = .ok (.if_icmp .eq 14, 3) := by decide +kernel
theorem dX10_heal_234 : decode cX10_heal 234 = .ok (.aload_n 0, 1) := by decide +kernel
theorem dX10_heal_235 : decode cX10_heal 235 = .ok (.getfield 31, 3) := by decide +kernel
theorem dX10_heal_238 : decode cX10_heal 238 = .ok (.iload 6, 2) := by decide +kernel
theorem dX10_heal_240 : decode cX10_heal 240 = .ok (.iaload, 1) := by decide +kernel
theorem dX10_heal_241 : decode cX10_heal 241 = .ok (.iload_n 2, 1) := by decide +kernel
theorem dX10_heal_242 : decode cX10_heal 242 = .ok (.if_icmp .ne 28, 3) := by decide +kernel
theorem dX10_heal_245 : decode cX10_heal 245 = .ok (.aload_n 0, 1) := by decide +kernel
theorem dX10_heal_246 : decode cX10_heal 246 = .ok (.iload 6, 2) := by decide +kernel
theorem dX10_heal_248 : decode cX10_heal 248 = .ok (.aload_n 0, 1) := by decide +kernel
theorem dX10_heal_249 : decode cX10_heal 249 = .ok (.getfield 31, 3) := by decide +kernel
theorem dX10_heal_252 : decode cX10_heal 252 = .ok (.iload 6, 2) := by decide +kernel
theorem dX10_heal_254 : decode cX10_heal 254 = .ok (.iaload, 1) := by decide +kernel
theorem dX10_heal_255 : decode cX10_heal 255 = .ok (.iload_n 2, 1) := by decide +kernel
theorem dX10_heal_256 : decode cX10_heal 256 = .ok (.if_icmp .ne 7, 3) := by decide +kernel
theorem dX10_heal_259 : decode cX10_heal 259 = .ok (.iconst 1, 1) := by decide +kernel
theorem dX10_heal_260 : decode cX10_heal 260 = .ok (.goto 4, 3) := by decide +kernel
theorem dX10_heal_263 : decode cX10_heal 263 = .ok (.iconst 0, 1) := by decide +kernel
theorem dX10_heal_264 : decode cX10_heal 264 = .ok (.iload_n 3, 1) := by decide +kernel
theorem dX10_heal_265 : decode cX10_heal 265 = .ok (.iload 5, 2) := by decide +kernel
theorem dX10_heal_267 : decode cX10_heal 267 = .ok (.invokevirtual 212, 3) := by decide +kernel
theorem dX10_heal_270 : decode cX10_heal 270 = .ok (.iinc 6 1, 3) := by decide +kernel
theorem dX10_heal_273 : decode cX10_heal 273 = .ok (.goto (-59), 3) := by decide +kernel
theorem dX10_heal_276 : decode cX10_heal 276 = .ok (.iload 5, 2) := by decide +kernel
theorem dX10_heal_278 : decode cX10_heal 278 = .ok (.ireturn, 1) := by decide +kernel
theorem dX10_comesOver_0 : decode cX10_comesOver 0 = .ok (.aload_n 0, 1) := by decide +kernel
theorem dX10_comesOver_1 : decode cX10_comesOver 1 = .ok (.iload_n 1, 1) := by decide +kernel
theorem dX10_comesOver_2 : decode cX10_comesOver 2 = .ok (.invokevirtual 216, 3) := by decide +kernel
theorem dX10_comesOver_5 : decode cX10_comesOver 5 = .ok (.ifCond .eq 31, 3) := by decide +kernel
theorem dX10_comesOver_8 : decode cX10_comesOver 8 = .ok (.aload_n 0, 1) := by decide +kernel
theorem dX10_comesOver_9 : decode cX10_comesOver 9 = .ok (.getfield 46, 3) := by decide +kernel
theorem dX10_comesOver_12 : decode cX10_comesOver 12 = .ok (.iload_n 1, 1) := by decide +kernel
theorem dX10_comesOver_13 : decode cX10_comesOver 13 = .ok (.iconst 0, 1) := by decide +kernel
theorem dX10_comesOver_14 : decode cX10_comesOver 14 = .ok (.bastore, 1) := by decide +kernel
theorem dX10_comesOver_15 : decode cX10_comesOver 15 = .ok (.iload_n 2, 1) := by decide +kernel
theorem dX10_comesOver_16 : decode cX10_comesOver 16 = .ok (.ifCond .eq 20, 3) := by decide +kernel
theorem dX10_comesOver_19 : decode cX10_comesOver 19 = .ok (.aload_n 0, 1) := by decide +kernel
theorem dX10_comesOver_20 : decode cX10_comesOver 20 = .ok (.getfield 34, 3) := by decide +kernel
theorem dX10_comesOver_23 : decode cX10_comesOver 23 = .ok (.iload_n 1, 1) := by decide +kernel
theorem dX10_comesOver_24 : decode cX10_comesOver 24 = .ok (.iaload, 1) := by decide +kernel
theorem dX10_comesOver_25 : decode cX10_comesOver 25 = .ok (.iload_n 3, 1) := by decide +kernel
theorem dX10_comesOver_26 : decode cX10_comesOver 26 = .ok (.if_icmp .le 10, 3) := by decide +kernel
theorem dX10_comesOver_29 : decode cX10_comesOver 29 = .ok (.aload_n 0, 1) := by decide +kernel
theorem dX10_comesOver_30 : decode cX10_comesOver 30 = .ok (.iload_n 1, 1) := by decide +kernel
theorem dX10_comesOver_31 : decode cX10_comesOver 31 = .ok (.iload 4, 2) := by decide +kernel
theorem dX10_comesOver_33 : decode cX10_comesOver 33 = .ok (.invokevirtual 135, 3) := by decide +kernel
theorem dX10_comesOver_36 : decode cX10_comesOver 36 = .ok (.aload_n 0, 1) := by decide +kernel
theorem dX10_comesOver_37 : decode cX10_comesOver 37 = .ok (.getfield 31, 3) := by decide +kernel
theorem dX10_comesOver_40 : decode cX10_comesOver 40 = .ok (.iload_n 1, 1) := by decide +kernel
theorem dX10_comesOver_41 : decode cX10_comesOver 41 = .ok (.iload 4, 2) := by decide +kernel
theorem dX10_comesOver_43 : decode cX10_comesOver 43 = .ok (.iastore, 1) := by decide +kernel
theorem dX10_comesOver_44 : decode cX10_comesOver 44 = .ok (.return_, 1) := by decide +kernel
theorem dX10_feed_0 : decode cX10_feed 0 = .ok (.aload_n 0, 1) := by decide +kernel
theorem dX10_feed_1 : decode cX10_feed 1 = .ok (.iconst 0, 1) := by decide +kernel
theorem dX10_feed_2 : decode cX10_feed 2 = .ok (.putfield 66, 3) := by decide +kernel
theorem dX10_feed_5 : decode cX10_feed 5 = .ok (.aload_n 0, 1) := by decide +kernel
theorem dX10_feed_6 : decode cX10_feed 6 = .ok (.getfield 219, 3) := by decide +kernel
theorem dX10_feed_9 : decode cX10_feed 9 = .ok (.bipush 20, 2) := by decide +kernel
theorem dX10_feed_11 : decode cX10_feed 11 = .ok (.iadd, 1) := by decide +kernel
theorem dX10_feed_12 : decode cX10_feed 12 = .ok (.sipush 900, 3) := by decide +kernel
theorem dX10_feed_15 : decode cX10_feed 15 = .ok (.if_icmp .le 9, 3) := by decide +kernel
theorem dX10_feed_18 : decode cX10_feed 18 = .ok (.aload_n 0, 1) := by decide +kernel
theorem dX10_feed_19 : decode cX10_feed 19 = .ok (.iconst 1, 1) := by decide +kernel
theorem dX10_feed_20 : decode cX10_feed 20 = .ok (.invokevirtual 171, 3) := by decide +kernel
theorem dX10_feed_23 : decode cX10_feed 23 = .ok (.ireturn, 1) := by decide +kernel
theorem dX10_feed_24 : decode cX10_feed 24 = .ok (.aload_n 0, 1) := by decide +kernel
theorem dX10_feed_25 : decode cX10_feed 25 = .ok (.iload_n 1, 1) := by decide +kernel
theorem dX10_feed_26 : decode cX10_feed 26 = .ok (.invokevirtual 222, 3) := by decide +kernel
theorem dX10_feed_29 : decode cX10_feed 29 = .ok (.aload_n 0, 1) := by decide +kernel
theorem dX10_feed_30 : decode cX10_feed 30 = .ok (.iload_n 2, 1) := by decide +kernel
theorem dX10_feed_31 : decode cX10_feed 31 = .ok (.invokevirtual 222, 3) := by decide +kernel
theorem dX10_feed_34 : decode cX10_feed 34 = .ok (.aload_n 0, 1) := by decide +kernel
theorem dX10_feed_35 : decode cX10_feed 35 = .ok (.iload_n 3, 1) := by decide +kernel
theorem dX10_feed_36 : decode cX10_feed 36 = .ok (.invokevirtual 222, 3) := by decide +kernel
theorem dX10_feed_39 : decode cX10_feed 39 = .ok (.aload_n 0, 1) := by decide +kernel
theorem dX10_feed_40 : decode cX10_feed 40 = .ok (.iload 4, 2) := by decide +kernel
theorem dX10_feed_42 : decode cX10_feed 42 = .ok (.invokevirtual 222, 3) := by decide +kernel
theorem dX10_feed_45 : decode cX10_feed 45 = .ok (.aload_n 0, 1) := by decide +kernel
theorem dX10_feed_46 : decode cX10_feed 46 = .ok (.iload 5, 2) := by decide +kernel
theorem dX10_feed_48 : decode cX10_feed 48 = .ok (.invokevirtual 222, 3) := by decide +kernel
theorem dX10_feed_51 : decode cX10_feed 51 = .ok (.aload_n 0, 1) := by decide +kernel
theorem dX10_feed_52 : decode cX10_feed 52 = .ok (.getfield 219, 3) := by decide +kernel
theorem dX10_feed_55 : decode cX10_feed 55 = .ok (.ireturn, 1) := by decide +kernel
theorem dX10_puts_0 : decode cX10_puts 0 = .ok (.bipush 24, 2) := by decide +kernel
theorem dX10_puts_2 : decode cX10_puts 2 = .ok (.istore_n 2, 1) := by decide +kernel
theorem dX10_puts_3 : decode cX10_puts 3 = .ok (.iload_n 2, 1) := by decide +kernel
theorem dX10_puts_4 : decode cX10_puts 4 = .ok (.ifCond .lt 37, 3) := by decide +kernel
theorem dX10_puts_7 : decode cX10_puts 7 = .ok (.aload_n 0, 1) := by decide +kernel
theorem dX10_puts_8 : decode cX10_puts 8 = .ok (.getfield 56, 3) := by decide +kernel
theorem dX10_puts_11 : decode cX10_puts 11 = .ok (.aload_n 0, 1) := by decide +kernel
theorem dX10_puts_12 : decode cX10_puts 12 = .ok (.getfield 219, 3) := by decide +kernel
theorem dX10_puts_15 : decode cX10_puts 15 = .ok (.iload_n 1, 1) := by decide +kernel
theorem dX10_puts_16 : decode cX10_puts 16 = .ok (.iload_n 2, 1) := by decide +kernel
theorem dX10_puts_17 : decode cX10_puts 17 = .ok (.ishr, 1) := by decide +kernel
theorem dX10_puts_18 : decode cX10_puts 18 = .ok (.sipush 255, 3) := by decide +kernel
theorem dX10_puts_21 : decode cX10_puts 21 = .ok (.iand, 1) := by decide +kernel
theorem dX10_puts_22 : decode cX10_puts 22 = .ok (.iastore, 1) := by decide +kernel
theorem dX10_puts_23 : decode cX10_puts 23 = .ok (.aload_n 0, 1) := by decide +kernel
theorem dX10_puts_24 : decode cX10_puts 24 = .ok (.aload_n 0, 1) := by decide +kernel
theorem dX10_puts_25 : decode cX10_puts 25 = .ok (.getfield 219, 3) := by decide +kernel
theorem dX10_puts_28 : decode cX10_puts 28 = .ok (.iconst 1, 1) := by decide +kernel
theorem dX10_puts_29 : decode cX10_puts 29 = .ok (.iadd, 1) := by decide +kernel
theorem dX10_puts_30 : decode cX10_puts 30 = .ok (.putfield 219, 3) := by decide +kernel
theorem dX10_puts_33 : decode cX10_puts 33 = .ok (.iload_n 2, 1) := by decide +kernel
theorem dX10_puts_34 : decode cX10_puts 34 = .ok (.bipush 8, 2) := by decide +kernel
theorem dX10_puts_36 : decode cX10_puts 36 = .ok (.isub, 1) := by decide +kernel
theorem dX10_puts_37 : decode cX10_puts 37 = .ok (.istore_n 2, 1) := by decide +kernel
theorem dX10_puts_38 : decode cX10_puts 38 = .ok (.goto (-35), 3) := by decide +kernel
theorem dX10_puts_41 : decode cX10_puts 41 = .ok (.return_, 1) := by decide +kernel
theorem dX10_errorCode_0 : decode cX10_errorCode 0 = .ok (.aload_n 0, 1) := by decide +kernel
theorem dX10_errorCode_1 : decode cX10_errorCode 1 = .ok (.aload_n 0, 1) := by decide +kernel
theorem dX10_errorCode_2 : decode cX10_errorCode 2 = .ok (.getfield 225, 3) := by decide +kernel
theorem dX10_errorCode_5 : decode cX10_errorCode 5 = .ok (.invokevirtual 228, 3) := by decide +kernel
theorem dX10_errorCode_8 : decode cX10_errorCode 8 = .ok (.ireturn, 1) := by decide +kernel
theorem dX10_errorPosition_0 : decode cX10_errorPosition 0 = .ok (.aload_n 0, 1) := by decide +kernel
theorem dX10_errorPosition_1 : decode cX10_errorPosition 1 = .ok (.aload_n 0, 1) := by decide +kernel
theorem dX10_errorPosition_2 : decode cX10_errorPosition 2 = .ok (.getfield 59, 3) := by decide +kernel
theorem dX10_errorPosition_5 : decode cX10_errorPosition 5 = .ok (.invokevirtual 228, 3) := by decide +kernel
theorem dX10_errorPosition_8 : decode cX10_errorPosition 8 = .ok (.ireturn, 1) := by decide +kernel
theorem dX10_refused_0 : decode cX10_refused 0 = .ok (.aload_n 0, 1) := by decide +kernel
theorem dX10_refused_1 : decode cX10_refused 1 = .ok (.aload_n 0, 1) := by decide +kernel
theorem dX10_refused_2 : decode cX10_refused 2 = .ok (.getfield 123, 3) := by decide +kernel
theorem dX10_refused_5 : decode cX10_refused 5 = .ok (.invokevirtual 228, 3) := by decide +kernel
theorem dX10_refused_8 : decode cX10_refused 8 = .ok (.ireturn, 1) := by decide +kernel
theorem dX10_byteAt_0 : decode cX10_byteAt 0 = .ok (.iload_n 1, 1) := by decide +kernel
theorem dX10_byteAt_1 : decode cX10_byteAt 1 = .ok (.aload_n 0, 1) := by decide +kernel
theorem dX10_byteAt_2 : decode cX10_byteAt 2 = .ok (.getfield 231, 3) := by decide +kernel
theorem dX10_byteAt_5 : decode cX10_byteAt 5 = .ok (.if_icmp .ge 12, 3) := by decide +kernel
theorem dX10_byteAt_8 : decode cX10_byteAt 8 = .ok (.aload_n 0, 1) := by decide +kernel
theorem dX10_byteAt_9 : decode cX10_byteAt 9 = .ok (.getfield 56, 3) := by decide +kernel
theorem dX10_byteAt_12 : decode cX10_byteAt 12 = .ok (.iload_n 1, 1) := by decide +kernel
theorem dX10_byteAt_13 : decode cX10_byteAt 13 = .ok (.iaload, 1) := by decide +kernel
theorem dX10_byteAt_14 : decode cX10_byteAt 14 = .ok (.goto 4, 3) := by decide +kernel
theorem dX10_byteAt_17 : decode cX10_byteAt 17 = .ok (.iconst (-1), 1) := by decide +kernel
theorem dX10_byteAt_18 : decode cX10_byteAt 18 = .ok (.ireturn, 1) := by decide +kernel
theorem dX10_isLetter_0 : decode cX10_isLetter 0 = .ok (.iload_n 0, 1) := by decide +kernel
theorem dX10_isLetter_1 : decode cX10_isLetter 1 = .ok (.bipush 97, 2) := by decide +kernel
theorem dX10_isLetter_3 : decode cX10_isLetter 3 = .ok (.bipush 122, 2) := by decide +kernel
theorem dX10_isLetter_5 : decode cX10_isLetter 5 = .ok (.invokestatic 72, 3) := by decide +kernel
theorem dX10_isLetter_8 : decode cX10_isLetter 8 = .ok (.ireturn, 1) := by decide +kernel
theorem dX10_isDigit_0 : decode cX10_isDigit 0 = .ok (.iload_n 0, 1) := by decide +kernel
theorem dX10_isDigit_1 : decode cX10_isDigit 1 = .ok (.bipush 48, 2) := by decide +kernel
theorem dX10_isDigit_3 : decode cX10_isDigit 3 = .ok (.bipush 57, 2) := by decide +kernel
theorem dX10_isDigit_5 : decode cX10_isDigit 5 = .ok (.invokestatic 72, 3) := by decide +kernel
theorem dX10_isDigit_8 : decode cX10_isDigit 8 = .ok (.ireturn, 1) := by decide +kernel
theorem dX10_peek_0 : decode cX10_peek 0 = .ok (.aload_n 0, 1) := by decide +kernel
theorem dX10_peek_1 : decode cX10_peek 1 = .ok (.aload_n 0, 1) := by decide +kernel
theorem dX10_peek_2 : decode cX10_peek 2 = .ok (.getfield 234, 3) := by decide +kernel
theorem dX10_peek_5 : decode cX10_peek 5 = .ok (.invokevirtual 237, 3) := by decide +kernel
theorem dX10_peek_8 : decode cX10_peek 8 = .ok (.bipush 32, 2) := by decide +kernel
theorem dX10_peek_10 : decode cX10_peek 10 = .ok (.if_icmp .eq 16, 3) := by decide +kernel
theorem dX10_peek_13 : decode cX10_peek 13 = .ok (.aload_n 0, 1) := by decide +kernel
theorem dX10_peek_14 : decode cX10_peek 14 = .ok (.aload_n 0, 1) := by decide +kernel
theorem dX10_peek_15 : decode cX10_peek 15 = .ok (.getfield 234, 3) := by decide +kernel
theorem dX10_peek_18 : decode cX10_peek 18 = .ok (.invokevirtual 237, 3) := by decide +kernel
theorem dX10_peek_21 : decode cX10_peek 21 = .ok (.bipush 10, 2) := by decide +kernel
theorem dX10_peek_23 : decode cX10_peek 23 = .ok (.if_icmp .ne 16, 3) := by decide +kernel
theorem dX10_peek_26 : decode cX10_peek 26 = .ok (.aload_n 0, 1) := by decide +kernel
theorem dX10_peek_27 : decode cX10_peek 27 = .ok (.aload_n 0, 1) := by decide +kernel
theorem dX10_peek_28 : decode cX10_peek 28 = .ok (.getfield 234, 3) := by decide +kernel
theorem dX10_peek_31 : decode cX10_peek 31 = .ok (.iconst 1, 1) := by decide +kernel
theorem dX10_peek_32 : decode cX10_peek 32 = .ok (.iadd, 1) := by decide +kernel
theorem dX10_peek_33 : decode cX10_peek 33 = .ok (.putfield 234, 3) := by decide +kernel
theorem dX10_peek_36 : decode cX10_peek 36 = .ok (.goto (-36), 3) := by decide +kernel
theorem dX10_peek_39 : decode cX10_peek 39 = .ok (.aload_n 0, 1) := by decide +kernel
theorem dX10_peek_40 : decode cX10_peek 40 = .ok (.aload_n 0, 1) := by decide +kernel
theorem dX10_peek_41 : decode cX10_peek 41 = .ok (.getfield 234, 3) := by decide +kernel
theorem dX10_peek_44 : decode cX10_peek 44 = .ok (.putfield 240, 3) := by decide +kernel
theorem dX10_peek_47 : decode cX10_peek 47 = .ok (.aload_n 0, 1) := by decide +kernel
theorem dX10_peek_48 : decode cX10_peek 48 = .ok (.aload_n 0, 1) := by decide +kernel
theorem dX10_peek_49 : decode cX10_peek 49 = .ok (.getfield 234, 3) := by decide +kernel
theorem dX10_peek_52 : decode cX10_peek 52 = .ok (.invokevirtual 237, 3) := by decide +kernel
theorem dX10_peek_55 : decode cX10_peek 55 = .ok (.ireturn, 1) := by decide +kernel
theorem dX10_fails_0 : decode cX10_fails 0 = .ok (.aload_n 0, 1) := by decide +kernel
theorem dX10_fails_1 : decode cX10_fails 1 = .ok (.iload_n 1, 1) := by decide +kernel
theorem dX10_fails_2 : decode cX10_fails 2 = .ok (.putfield 225, 3) := by decide +kernel
theorem dX10_fails_5 : decode cX10_fails 5 = .ok (.aload_n 0, 1) := by decide +kernel
theorem dX10_fails_6 : decode cX10_fails 6 = .ok (.iload_n 2, 1) := by decide +kernel
theorem dX10_fails_7 : decode cX10_fails 7 = .ok (.putfield 59, 3) := by decide +kernel
theorem dX10_fails_10 : decode cX10_fails 10 = .ok (.iconst 0, 1) := by decide +kernel
theorem dX10_fails_11 : decode cX10_fails 11 = .ok (.ireturn, 1) := by decide +kernel
theorem dX10_readWord_0 : decode cX10_readWord 0 = .ok (.aload_n 0, 1) := by decide +kernel
theorem dX10_readWord_1 : decode cX10_readWord 1 = .ok (.invokevirtual 243, 3) := by decide +kernel
theorem dX10_readWord_4 : decode cX10_readWord 4 = .ok (.invokestatic 247, 3) := by decide +kernel
theorem dX10_readWord_7 : decode cX10_readWord 7 = .ok (.ifCond .eq 14, 3) := by decide +kernel
theorem dX10_readWord_10 : decode cX10_readWord 10 = .ok (.aload_n 0, 1) := by decide +kernel
theorem dX10_readWord_11 : decode cX10_readWord 11 = .ok (.getfield 240, 3) := by decide +kernel
theorem dX10_readWord_14 : decode cX10_readWord 14 = .ok (.aload_n 0, 1) := by decide +kernel
theorem dX10_readWord_15 : decode cX10_readWord 15 = .ok (.getfield 250, 3) := by decide +kernel
theorem dX10_readWord_18 : decode cX10_readWord 18 = .ok (.if_icmp .ne 13, 3) := by decide +kernel
theorem dX10_readWord_21 : decode cX10_readWord 21 = .ok (.aload_n 0, 1) := by decide +kernel
theorem dX10_readWord_22 : decode cX10_readWord 22 = .ok (.iconst 1, 1) := by decide +kernel
theorem dX10_readWord_23 : decode cX10_readWord 23 = .ok (.aload_n 0, 1) := by decide +kernel
theorem dX10_readWord_24 : decode cX10_readWord 24 = .ok (.getfield 240, 3) := by decide +kernel
theorem dX10_readWord_27 : decode cX10_readWord 27 = .ok (.invokevirtual 253, 3) := by decide +kernel
theorem dX10_readWord_30 : decode cX10_readWord 30 = .ok (.ireturn, 1) := by decide +kernel
theorem dX10_readWord_31 : decode cX10_readWord 31 = .ok (.aload_n 0, 1) := by decide +kernel
theorem dX10_readWord_32 : decode cX10_readWord 32 = .ok (.lconst 0, 1) := by decide +kernel
theorem dX10_readWord_33 : decode cX10_readWord 33 = .ok (.putfield 256, 3) := by decide +kernel
theorem dX10_readWord_36 : decode cX10_readWord 36 = .ok (.iconst 0, 1) := by decide +kernel
theorem dX10_readWord_37 : decode cX10_readWord 37 = .ok (.istore_n 1, 1) := by decide +kernel
theorem dX10_readWord_38 : decode cX10_readWord 38 = .ok (.aload_n 0, 1) := by decide +kernel
theorem dX10_readWord_39 : decode cX10_readWord 39 = .ok (.aload_n 0, 1) := by decide +kernel
theorem dX10_readWord_40 : decode cX10_readWord 40 = .ok (.getfield 240, 3) := by decide +kernel
theorem dX10_readWord_43 : decode cX10_readWord 43 = .ok (.iload_n 1, 1) := by decide +kernel
theorem dX10_readWord_44 : decode cX10_readWord 44 = .ok (.iadd, 1) := by decide +kernel
theorem dX10_readWord_45 : decode cX10_readWord 45 = .ok (.invokevirtual 237, 3) := by decide +kernel
theorem dX10_readWord_48 : decode cX10_readWord 48 = .ok (.invokestatic 247, 3) := by decide +kernel
theorem dX10_readWord_51 : decode cX10_readWord 51 = .ok (.ifCond .eq 48, 3) := by decide +kernel
theorem dX10_readWord_54 : decode cX10_readWord 54 = .ok (.aload_n 0, 1) := by decide +kernel
theorem dX10_readWord_55 : decode cX10_readWord 55 = .ok (.iload_n 1, 1) := by decide +kernel
theorem dX10_readWord_56 : decode cX10_readWord 56 = .ok (.bipush 8, 2) := by decide +kernel
theorem dX10_readWord_58 : decode cX10_readWord 58 = .ok (.if_icmp .ge 30, 3) := by decide +kernel
theorem dX10_readWord_61 : decode cX10_readWord 61 = .ok (.ldc2_w 260, 3) := by decide +kernel
theorem dX10_readWord_64 : decode cX10_readWord 64 = .ok (.aload_n 0, 1) := by decide +kernel
theorem dX10_readWord_65 : decode cX10_readWord 65 = .ok (.getfield 256, 3) := by decide +kernel
theorem dX10_readWord_68 : decode cX10_readWord 68 = .ok (.lmul, 1) := by decide +kernel
theorem dX10_readWord_69 : decode cX10_readWord 69 = .ok (.aload_n 0, 1) := by decide +kernel
theorem dX10_readWord_70 : decode cX10_readWord 70 = .ok (.aload_n 0, 1) := by decide +kernel
theorem dX10_readWord_71 : decode cX10_readWord 71 = .ok (.getfield 240, 3) := by decide +kernel
theorem dX10_readWord_74 : decode cX10_readWord 74 = .ok (.iload_n 1, 1) := by decide +kernel
theorem dX10_readWord_75 : decode cX10_readWord 75 = .ok (.iadd, 1) := by decide +kernel
theorem dX10_readWord_76 : decode cX10_readWord 76 = .ok (.invokevirtual 237, 3) := by decide +kernel
theorem dX10_readWord_79 : decode cX10_readWord 79 = .ok (.i2l, 1) := by decide +kernel
theorem dX10_readWord_80 : decode cX10_readWord 80 = .ok (.ladd, 1) := by decide +kernel
theorem dX10_readWord_81 : decode cX10_readWord 81 = .ok (.ldc2_w 262, 3) := by decide +kernel
theorem dX10_readWord_84 : decode cX10_readWord 84 = .ok (.lsub, 1) := by decide +kernel
theorem dX10_readWord_85 : decode cX10_readWord 85 = .ok (.goto 4, 3) := by decide +kernel
theorem dX10_readWord_88 : decode cX10_readWord 88 = .ok (.lconst 0, 1) := by decide +kernel
theorem dX10_readWord_89 : decode cX10_readWord 89 = .ok (.putfield 256, 3) := by decide +kernel
theorem dX10_readWord_92 : decode cX10_readWord 92 = .ok (.iload_n 1, 1) := by decide +kernel
theorem dX10_readWord_93 : decode cX10_readWord 93 = .ok (.iconst 1, 1) := by decide +kernel
theorem dX10_readWord_94 : decode cX10_readWord 94 = .ok (.iadd, 1) := by decide +kernel
theorem dX10_readWord_95 : decode cX10_readWord 95 = .ok (.istore_n 1, 1) := by decide +kernel
theorem dX10_readWord_96 : decode cX10_readWord 96 = .ok (.goto (-58), 3) := by decide +kernel
theorem dX10_readWord_99 : decode cX10_readWord 99 = .ok (.aload_n 0, 1) := by decide +kernel
theorem dX10_readWord_100 : decode cX10_readWord 100 = .ok (.aload_n 0, 1) := by decide +kernel
theorem dX10_readWord_101 : decode cX10_readWord 101 = .ok (.getfield 240, 3) := by decide +kernel
theorem dX10_readWord_104 : decode cX10_readWord 104 = .ok (.iload_n 1, 1) := by decide +kernel
theorem dX10_readWord_105 : decode cX10_readWord 105 = .ok (.iadd, 1) := by decide +kernel
theorem dX10_readWord_106 : decode cX10_readWord 106 = .ok (.putfield 234, 3) := by decide +kernel
theorem dX10_readWord_109 : decode cX10_readWord 109 = .ok (.aload_n 0, 1) := by decide +kernel
theorem dX10_readWord_110 : decode cX10_readWord 110 = .ok (.aload_n 0, 1) := by decide +kernel
theorem dX10_readWord_111 : decode cX10_readWord 111 = .ok (.getfield 234, 3) := by decide +kernel
theorem dX10_readWord_114 : decode cX10_readWord 114 = .ok (.putfield 250, 3) := by decide +kernel
theorem dX10_readWord_117 : decode cX10_readWord 117 = .ok (.iconst 1, 1) := by decide +kernel
theorem dX10_readWord_118 : decode cX10_readWord 118 = .ok (.ireturn, 1) := by decide +kernel
theorem dX10_takesWord_0 : decode cX10_takesWord 0 = .ok (.aload_n 0, 1) := by decide +kernel
theorem dX10_takesWord_1 : decode cX10_takesWord 1 = .ok (.invokevirtual 264, 3) := by decide +kernel
theorem dX10_takesWord_4 : decode cX10_takesWord 4 = .ok (.ifCond .eq 28, 3) := by decide +kernel
theorem dX10_takesWord_7 : decode cX10_takesWord 7 = .ok (.aload_n 0, 1) := by decide +kernel
theorem dX10_takesWord_8 : decode cX10_takesWord 8 = .ok (.getfield 256, 3) := by decide +kernel
theorem dX10_takesWord_11 : decode cX10_takesWord 11 = .ok (.lload_n 1, 1) := by decide +kernel
theorem dX10_takesWord_12 : decode cX10_takesWord 12 = .ok (.lcmp, 1) := by decide +kernel
theorem dX10_takesWord_13 : decode cX10_takesWord 13 = .ok (.ifCond .eq 15, 3) := by decide +kernel
theorem dX10_takesWord_16 : decode cX10_takesWord 16 = .ok (.aload_n 0, 1) := by decide +kernel
theorem dX10_takesWord_17 : decode cX10_takesWord 17 = .ok (.iconst 1, 1) := by decide +kernel
theorem dX10_takesWord_18 : decode cX10_takesWord 18 = .ok (.aload_n 0, 1) := by decide +kernel
theorem dX10_takesWord_19 : decode cX10_takesWord 19 = .ok (.getfield 240, 3) := by decide +kernel
theorem dX10_takesWord_22 : decode cX10_takesWord 22 = .ok (.invokevirtual 253, 3) := by decide +kernel
theorem dX10_takesWord_25 : decode cX10_takesWord 25 = .ok (.ifCond .eq 7, 3) := by decide +kernel
theorem dX10_takesWord_28 : decode cX10_takesWord 28 = .ok (.iconst 1, 1) := by decide +kernel
theorem dX10_takesWord_29 : decode cX10_takesWord 29 = .ok (.goto 4, 3) := by decide +kernel
theorem dX10_takesWord_32 : decode cX10_takesWord 32 = .ok (.iconst 0, 1) := by decide +kernel
theorem dX10_takesWord_33 : decode cX10_takesWord 33 = .ok (.ireturn, 1) := by decide +kernel
theorem dX10_readNumber_0 : decode cX10_readNumber 0 = .ok (.aload_n 0, 1) := by decide +kernel
theorem dX10_readNumber_1 : decode cX10_readNumber 1 = .ok (.invokevirtual 243, 3) := by decide +kernel
theorem dX10_readNumber_4 : decode cX10_readNumber 4 = .ok (.invokestatic 268, 3) := by decide +kernel
theorem dX10_readNumber_7 : decode cX10_readNumber 7 = .ok (.ifCond .eq 14, 3) := by decide +kernel
theorem dX10_readNumber_10 : decode cX10_readNumber 10 = .ok (.aload_n 0, 1) := by decide +kernel
theorem dX10_readNumber_11 : decode cX10_readNumber 11 = .ok (.getfield 240, 3) := by decide +kernel
theorem dX10_readNumber_14 : decode cX10_readNumber 14 = .ok (.aload_n 0, 1) := by decide +kernel
theorem dX10_readNumber_15 : decode cX10_readNumber 15 = .ok (.getfield 250, 3) := by decide +kernel
theorem dX10_readNumber_18 : decode cX10_readNumber 18 = .ok (.if_icmp .ne 13, 3) := by decide +kernel
theorem dX10_readNumber_21 : decode cX10_readNumber 21 = .ok (.aload_n 0, 1) := by decide +kernel
theorem dX10_readNumber_22 : decode cX10_readNumber 22 = .ok (.iconst 1, 1) := by decide +kernel
theorem dX10_readNumber_23 : decode cX10_readNumber 23 = .ok (.aload_n 0, 1) := by decide +kernel
theorem dX10_readNumber_24 : decode cX10_readNumber 24 = .ok (.getfield 240, 3) := by decide +kernel
theorem dX10_readNumber_27 : decode cX10_readNumber 27 = .ok (.invokevirtual 253, 3) := by decide +kernel
theorem dX10_readNumber_30 : decode cX10_readNumber 30 = .ok (.ireturn, 1) := by decide +kernel
theorem dX10_readNumber_31 : decode cX10_readNumber 31 = .ok (.aload_n 0, 1) := by decide +kernel
theorem dX10_readNumber_32 : decode cX10_readNumber 32 = .ok (.iconst 0, 1) := by decide +kernel
theorem dX10_readNumber_33 : decode cX10_readNumber 33 = .ok (.putfield 271, 3) := by decide +kernel
theorem dX10_readNumber_36 : decode cX10_readNumber 36 = .ok (.iconst 0, 1) := by decide +kernel
theorem dX10_readNumber_37 : decode cX10_readNumber 37 = .ok (.istore_n 3, 1) := by decide +kernel
theorem dX10_readNumber_38 : decode cX10_readNumber 38 = .ok (.aload_n 0, 1) := by decide +kernel
theorem dX10_readNumber_39 : decode cX10_readNumber 39 = .ok (.aload_n 0, 1) := by decide +kernel
theorem dX10_readNumber_40 : decode cX10_readNumber 40 = .ok (.getfield 240, 3) := by decide +kernel
theorem dX10_readNumber_43 : decode cX10_readNumber 43 = .ok (.iload_n 3, 1) := by decide +kernel
theorem dX10_readNumber_44 : decode cX10_readNumber 44 = .ok (.iadd, 1) := by decide +kernel
theorem dX10_readNumber_45 : decode cX10_readNumber 45 = .ok (.invokevirtual 237, 3) := by decide +kernel
theorem dX10_readNumber_48 : decode cX10_readNumber 48 = .ok (.invokestatic 268, 3) := by decide +kernel
theorem dX10_readNumber_51 : decode cX10_readNumber 51 = .ok (.ifCond .eq 48, 3) := by decide +kernel
theorem dX10_readNumber_54 : decode cX10_readNumber 54 = .ok (.aload_n 0, 1) := by decide +kernel
theorem dX10_readNumber_55 : decode cX10_readNumber 55 = .ok (.iload_n 3, 1) := by decide +kernel
theorem dX10_readNumber_56 : decode cX10_readNumber 56 = .ok (.bipush 6, 2) := by decide +kernel
theorem dX10_readNumber_58 : decode cX10_readNumber 58 = .ok (.if_icmp .ge 27, 3) := by decide +kernel
theorem dX10_readNumber_61 : decode cX10_readNumber 61 = .ok (.bipush 10, 2) := by decide +kernel
theorem dX10_readNumber_63 : decode cX10_readNumber 63 = .ok (.aload_n 0, 1) := by decide +kernel
theorem dX10_readNumber_64 : decode cX10_readNumber 64 = .ok (.getfield 271, 3) := by decide +kernel
theorem dX10_readNumber_67 : decode cX10_readNumber 67 = .ok (.imul, 1) := by decide +kernel
theorem dX10_readNumber_68 : decode cX10_readNumber 68 = .ok (.aload_n 0, 1) := by decide +kernel
theorem dX10_readNumber_69 : decode cX10_readNumber 69 = .ok (.aload_n 0, 1) := by decide +kernel
theorem dX10_readNumber_70 : decode cX10_readNumber 70 = .ok (.getfield 240, 3) := by decide +kernel
theorem dX10_readNumber_73 : decode cX10_readNumber 73 = .ok (.iload_n 3, 1) := by decide +kernel
theorem dX10_readNumber_74 : decode cX10_readNumber 74 = .ok (.iadd, 1) := by decide +kernel
theorem dX10_readNumber_75 : decode cX10_readNumber 75 = .ok (.invokevirtual 237, 3) := by decide +kernel
theorem dX10_readNumber_78 : decode cX10_readNumber 78 = .ok (.iadd, 1) := by decide +kernel
theorem dX10_readNumber_79 : decode cX10_readNumber 79 = .ok (.bipush 48, 2) := by decide +kernel
theorem dX10_readNumber_81 : decode cX10_readNumber 81 = .ok (.isub, 1) := by decide +kernel
theorem dX10_readNumber_82 : decode cX10_readNumber 82 = .ok (.goto 7, 3) := by decide +kernel
theorem dX10_readNumber_85 : decode cX10_readNumber 85 = .ok (.aload_n 0, 1) := by decide +kernel
theorem dX10_readNumber_86 : decode cX10_readNumber 86 = .ok (.getfield 271, 3) := by decide +kernel
theorem dX10_readNumber_89 : decode cX10_readNumber 89 = .ok (.putfield 271, 3) := by decide +kernel
theorem dX10_readNumber_92 : decode cX10_readNumber 92 = .ok (.iload_n 3, 1) := by decide +kernel
theorem dX10_readNumber_93 : decode cX10_readNumber 93 = .ok (.iconst 1, 1) := by decide +kernel
theorem dX10_readNumber_94 : decode cX10_readNumber 94 = .ok (.iadd, 1) := by decide +kernel
theorem dX10_readNumber_95 : decode cX10_readNumber 95 = .ok (.istore_n 3, 1) := by decide +kernel
theorem dX10_readNumber_96 : decode cX10_readNumber 96 = .ok (.goto (-58), 3) := by decide +kernel
theorem dX10_readNumber_99 : decode cX10_readNumber 99 = .ok (.iload_n 3, 1) := by decide +kernel
theorem dX10_readNumber_100 : decode cX10_readNumber 100 = .ok (.bipush 6, 2) := by decide +kernel
theorem dX10_readNumber_102 : decode cX10_readNumber 102 = .ok (.if_icmp .le 13, 3) := by decide +kernel
theorem dX10_readNumber_105 : decode cX10_readNumber 105 = .ok (.aload_n 0, 1) := by decide +kernel
theorem dX10_readNumber_106 : decode cX10_readNumber 106 = .ok (.iconst 1, 1) := by decide +kernel
theorem dX10_readNumber_107 : decode cX10_readNumber 107 = .ok (.aload_n 0, 1) := by decide +kernel
theorem dX10_readNumber_108 : decode cX10_readNumber 108 = .ok (.getfield 240, 3) := by decide +kernel
theorem dX10_readNumber_111 : decode cX10_readNumber 111 = .ok (.invokevirtual 253, 3) := by decide +kernel
theorem dX10_readNumber_114 : decode cX10_readNumber 114 = .ok (.ireturn, 1) := by decide +kernel
theorem dX10_readNumber_115 : decode cX10_readNumber 115 = .ok (.aload_n 0, 1) := by decide +kernel
theorem dX10_readNumber_116 : decode cX10_readNumber 116 = .ok (.getfield 271, 3) := by decide +kernel
theorem dX10_readNumber_119 : decode cX10_readNumber 119 = .ok (.iload_n 1, 1) := by decide +kernel
theorem dX10_readNumber_120 : decode cX10_readNumber 120 = .ok (.iload_n 2, 1) := by decide +kernel
theorem dX10_readNumber_121 : decode cX10_readNumber 121 = .ok (.invokestatic 72, 3) := by decide +kernel
theorem dX10_readNumber_124 : decode cX10_readNumber 124 = .ok (.ifCond .ne 13, 3) := by decide +kernel
theorem dX10_readNumber_127 : decode cX10_readNumber 127 = .ok (.aload_n 0, 1) := by decide +kernel
theorem dX10_readNumber_128 : decode cX10_readNumber 128 = .ok (.iconst 2, 1) := by decide +kernel
theorem dX10_readNumber_129 : decode cX10_readNumber 129 = .ok (.aload_n 0, 1) := by decide +kernel
theorem dX10_readNumber_130 : decode cX10_readNumber 130 = .ok (.getfield 240, 3) := by decide +kernel
theorem dX10_readNumber_133 : decode cX10_readNumber 133 = .ok (.invokevirtual 253, 3) := by decide +kernel
theorem dX10_readNumber_136 : decode cX10_readNumber 136 = .ok (.ireturn, 1) := by decide +kernel
theorem dX10_readNumber_137 : decode cX10_readNumber 137 = .ok (.aload_n 0, 1) := by decide +kernel
theorem dX10_readNumber_138 : decode cX10_readNumber 138 = .ok (.aload_n 0, 1) := by decide +kernel
theorem dX10_readNumber_139 : decode cX10_readNumber 139 = .ok (.getfield 240, 3) := by decide +kernel
theorem dX10_readNumber_142 : decode cX10_readNumber 142 = .ok (.iload_n 3, 1) := by decide +kernel
theorem dX10_readNumber_143 : decode cX10_readNumber 143 = .ok (.iadd, 1) := by decide +kernel
theorem dX10_readNumber_144 : decode cX10_readNumber 144 = .ok (.putfield 234, 3) := by decide +kernel
theorem dX10_readNumber_147 : decode cX10_readNumber 147 = .ok (.aload_n 0, 1) := by decide +kernel
theorem dX10_readNumber_148 : decode cX10_readNumber 148 = .ok (.aload_n 0, 1) := by decide +kernel
theorem dX10_readNumber_149 : decode cX10_readNumber 149 = .ok (.getfield 234, 3) := by decide +kernel
theorem dX10_readNumber_152 : decode cX10_readNumber 152 = .ok (.putfield 250, 3) := by decide +kernel
theorem dX10_readNumber_155 : decode cX10_readNumber 155 = .ok (.iconst 1, 1) := by decide +kernel
theorem dX10_readNumber_156 : decode cX10_readNumber 156 = .ok (.ireturn, 1) := by decide +kernel
theorem dX10_readSemicolon_0 : decode cX10_readSemicolon 0 = .ok (.aload_n 0, 1) := by decide +kernel
theorem dX10_readSemicolon_1 : decode cX10_readSemicolon 1 = .ok (.invokevirtual 243, 3) := by decide +kernel
theorem dX10_readSemicolon_4 : decode cX10_readSemicolon 4 = .ok (.bipush 59, 2) := by decide +kernel
theorem dX10_readSemicolon_6 : decode cX10_readSemicolon 6 = .ok (.if_icmp .eq 13, 3) := by decide +kernel
theorem dX10_readSemicolon_9 : decode cX10_readSemicolon 9 = .ok (.aload_n 0, 1) := by decide +kernel
theorem dX10_readSemicolon_10 : decode cX10_readSemicolon 10 = .ok (.iconst 1, 1) := by decide +kernel
theorem dX10_readSemicolon_11 : decode cX10_readSemicolon 11 = .ok (.aload_n 0, 1) := by decide +kernel
theorem dX10_readSemicolon_12 : decode cX10_readSemicolon 12 = .ok (.getfield 240, 3) := by decide +kernel
theorem dX10_readSemicolon_15 : decode cX10_readSemicolon 15 = .ok (.invokevirtual 253, 3) := by decide +kernel
theorem dX10_readSemicolon_18 : decode cX10_readSemicolon 18 = .ok (.ireturn, 1) := by decide +kernel
theorem dX10_readSemicolon_19 : decode cX10_readSemicolon 19 = .ok (.aload_n 0, 1) := by decide +kernel
theorem dX10_readSemicolon_20 : decode cX10_readSemicolon 20 = .ok (.aload_n 0, 1) := by decide +kernel
theorem dX10_readSemicolon_21 : decode cX10_readSemicolon 21 = .ok (.getfield 240, 3) := by decide +kernel
theorem dX10_readSemicolon_24 : decode cX10_readSemicolon 24 = .ok (.iconst 1, 1) := by decide +kernel
theorem dX10_readSemicolon_25 : decode cX10_readSemicolon 25 = .ok (.iadd, 1) := by decide +kernel
theorem dX10_readSemicolon_26 : decode cX10_readSemicolon 26 = .ok (.putfield 234, 3) := by decide +kernel
theorem dX10_readSemicolon_29 : decode cX10_readSemicolon 29 = .ok (.aload_n 0, 1) := by decide +kernel
theorem dX10_readSemicolon_30 : decode cX10_readSemicolon 30 = .ok (.iconst (-1), 1) := by decide +kernel
theorem dX10_readSemicolon_31 : decode cX10_readSemicolon 31 = .ok (.putfield 250, 3) := by decide +kernel
theorem dX10_readSemicolon_34 : decode cX10_readSemicolon 34 = .ok (.iconst 1, 1) := by decide +kernel
theorem dX10_readSemicolon_35 : decode cX10_readSemicolon 35 = .ok (.ireturn, 1) := by decide +kernel
theorem dX10_readService_0 : decode cX10_readService 0 = .ok (.aload_n 0, 1) := by decide +kernel
theorem dX10_readService_1 : decode cX10_readService 1 = .ok (.ldc2_w 274, 3) := by decide +kernel
theorem dX10_readService_4 : decode cX10_readService 4 = .ok (.invokevirtual 276, 3) := by decide +kernel
theorem dX10_readService_7 : decode cX10_readService 7 = .ok (.ifCond .eq 13, 3) := by decide +kernel
theorem dX10_readService_10 : decode cX10_readService 10 = .ok (.aload_n 0, 1) := by decide +kernel
theorem dX10_readService_11 : decode cX10_readService 11 = .ok (.iconst 2, 1) := by decide +kernel
theorem dX10_readService_12 : decode cX10_readService 12 = .ok (.bipush 6, 2) := by decide +kernel
theorem dX10_readService_14 : decode cX10_readService 14 = .ok (.invokevirtual 280, 3) := by decide +kernel
theorem dX10_readService_17 : decode cX10_readService 17 = .ok (.ifCond .ne 5, 3) := by decide +kernel
theorem dX10_readService_20 : decode cX10_readService 20 = .ok (.iconst 0, 1) := by decide +kernel
theorem dX10_readService_21 : decode cX10_readService 21 = .ok (.ireturn, 1) := by decide +kernel
theorem dX10_readService_22 : decode cX10_readService 22 = .ok (.aload_n 0, 1) := by decide +kernel
theorem dX10_readService_23 : decode cX10_readService 23 = .ok (.aload_n 0, 1) := by decide +kernel
theorem dX10_readService_24 : decode cX10_readService 24 = .ok (.getfield 271, 3) := by decide +kernel
theorem dX10_readService_27 : decode cX10_readService 27 = .ok (.putfield 283, 3) := by decide +kernel
theorem dX10_readService_30 : decode cX10_readService 30 = .ok (.aload_n 0, 1) := by decide +kernel
theorem dX10_readService_31 : decode cX10_readService 31 = .ok (.ldc2_w 286, 3) := by decide +kernel
theorem dX10_readService_34 : decode cX10_readService 34 = .ok (.invokevirtual 276, 3) := by decide +kernel
theorem dX10_readService_37 : decode cX10_readService 37 = .ok (.ifCond .eq 13, 3) := by decide +kernel
theorem dX10_readService_40 : decode cX10_readService 40 = .ok (.aload_n 0, 1) := by decide +kernel
theorem dX10_readService_41 : decode cX10_readService 41 = .ok (.iconst 1, 1) := by decide +kernel
theorem dX10_readService_42 : decode cX10_readService 42 = .ok (.bipush 16, 2) := by decide +kernel
theorem dX10_readService_44 : decode cX10_readService 44 = .ok (.invokevirtual 280, 3) := by decide +kernel
theorem dX10_readService_47 : decode cX10_readService 47 = .ok (.ifCond .ne 5, 3) := by decide +kernel
theorem dX10_readService_50 : decode cX10_readService 50 = .ok (.iconst 0, 1) := by decide +kernel
theorem dX10_readService_51 : decode cX10_readService 51 = .ok (.ireturn, 1) := by decide +kernel
theorem dX10_readService_52 : decode cX10_readService 52 = .ok (.aload_n 0, 1) := by decide +kernel
theorem dX10_readService_53 : decode cX10_readService 53 = .ok (.aload_n 0, 1) := by decide +kernel
theorem dX10_readService_54 : decode cX10_readService 54 = .ok (.getfield 271, 3) := by decide +kernel
theorem dX10_readService_57 : decode cX10_readService 57 = .ok (.putfield 288, 3) := by decide +kernel
theorem dX10_readService_60 : decode cX10_readService 60 = .ok (.aload_n 0, 1) := by decide +kernel
theorem dX10_readService_61 : decode cX10_readService 61 = .ok (.ldc2_w 291, 3) := by decide +kernel
theorem dX10_readService_64 : decode cX10_readService 64 = .ok (.invokevirtual 276, 3) := by decide +kernel
theorem dX10_readService_67 : decode cX10_readService 67 = .ok (.ifCond .eq 13, 3) := by decide +kernel
theorem dX10_readService_70 : decode cX10_readService 70 = .ok (.aload_n 0, 1) := by decide +kernel
theorem dX10_readService_71 : decode cX10_readService 71 = .ok (.iconst 1, 1) := by decide +kernel
theorem dX10_readService_72 : decode cX10_readService 72 = .ok (.bipush 50, 2) := by decide +kernel
theorem dX10_readService_74 : decode cX10_readService 74 = .ok (.invokevirtual 280, 3) := by decide +kernel
theorem dX10_readService_77 : decode cX10_readService 77 = .ok (.ifCond .ne 5, 3) := by decide +kernel
theorem dX10_readService_80 : decode cX10_readService 80 = .ok (.iconst 0, 1) := by decide +kernel
theorem dX10_readService_81 : decode cX10_readService 81 = .ok (.ireturn, 1) := by decide +kernel
theorem dX10_readService_82 : decode cX10_readService 82 = .ok (.aload_n 0, 1) := by decide +kernel
theorem dX10_readService_83 : decode cX10_readService 83 = .ok (.aload_n 0, 1) := by decide +kernel
theorem dX10_readService_84 : decode cX10_readService 84 = .ok (.getfield 271, 3) := by decide +kernel
theorem dX10_readService_87 : decode cX10_readService 87 = .ok (.putfield 293, 3) := by decide +kernel
theorem dX10_readService_90 : decode cX10_readService 90 = .ok (.aload_n 0, 1) := by decide +kernel
theorem dX10_readService_91 : decode cX10_readService 91 = .ok (.invokevirtual 296, 3) := by decide +kernel
theorem dX10_readService_94 : decode cX10_readService 94 = .ok (.ifCond .eq 27, 3) := by decide +kernel
theorem dX10_readService_97 : decode cX10_readService 97 = .ok (.aload_n 0, 1) := by decide +kernel
theorem dX10_readService_98 : decode cX10_readService 98 = .ok (.invokevirtual 243, 3) := by decide +kernel
theorem dX10_readService_101 : decode cX10_readService 101 = .ok (.iconst (-1), 1) := by decide +kernel
theorem dX10_readService_102 : decode cX10_readService 102 = .ok (.if_icmp .eq 15, 3) := by decide +kernel
theorem dX10_readService_105 : decode cX10_readService 105 = .ok (.aload_n 0, 1) := by decide +kernel
theorem dX10_readService_106 : decode cX10_readService 106 = .ok (.iconst 1, 1) := by decide +kernel
theorem dX10_readService_107 : decode cX10_readService 107 = .ok (.aload_n 0, 1) := by decide +kernel
theorem dX10_readService_108 : decode cX10_readService 108 = .ok (.getfield 240, 3) := by decide +kernel
theorem dX10_readService_111 : decode cX10_readService 111 = .ok (.invokevirtual 253, 3) := by decide +kernel
theorem dX10_readService_114 : decode cX10_readService 114 = .ok (.ifCond .eq 7, 3) := by decide +kernel
theorem dX10_readService_117 : decode cX10_readService 117 = .ok (.iconst 1, 1) := by decide +kernel
theorem dX10_readService_118 : decode cX10_readService 118 = .ok (.goto 4, 3) := by decide +kernel
theorem dX10_readService_121 : decode cX10_readService 121 = .ok (.iconst 0, 1) := by decide +kernel
theorem dX10_readService_122 : decode cX10_readService 122 = .ok (.ireturn, 1) := by decide +kernel
theorem dX10_opensText_0 : decode cX10_opensText 0 = .ok (.aload_n 0, 1) := by decide +kernel
theorem dX10_opensText_1 : decode cX10_opensText 1 = .ok (.iload_n 1, 1) := by decide +kernel
theorem dX10_opensText_2 : decode cX10_opensText 2 = .ok (.putfield 231, 3) := by decide +kernel
theorem dX10_opensText_5 : decode cX10_opensText 5 = .ok (.aload_n 0, 1) := by decide +kernel
theorem dX10_opensText_6 : decode cX10_opensText 6 = .ok (.iconst 0, 1) := by decide +kernel
theorem dX10_opensText_7 : decode cX10_opensText 7 = .ok (.putfield 234, 3) := by decide +kernel
theorem dX10_opensText_10 : decode cX10_opensText 10 = .ok (.aload_n 0, 1) := by decide +kernel
theorem dX10_opensText_11 : decode cX10_opensText 11 = .ok (.iconst (-1), 1) := by decide +kernel
theorem dX10_opensText_12 : decode cX10_opensText 12 = .ok (.putfield 250, 3) := by decide +kernel
theorem dX10_opensText_15 : decode cX10_opensText 15 = .ok (.aload_n 0, 1) := by decide +kernel
theorem dX10_opensText_16 : decode cX10_opensText 16 = .ok (.iconst 0, 1) := by decide +kernel
theorem dX10_opensText_17 : decode cX10_opensText 17 = .ok (.putfield 225, 3) := by decide +kernel
theorem dX10_opensText_20 : decode cX10_opensText 20 = .ok (.aload_n 0, 1) := by decide +kernel
theorem dX10_opensText_21 : decode cX10_opensText 21 = .ok (.iconst (-1), 1) := by decide +kernel
theorem dX10_opensText_22 : decode cX10_opensText 22 = .ok (.putfield 59, 3) := by decide +kernel
theorem dX10_opensText_25 : decode cX10_opensText 25 = .ok (.aload_n 0, 1) := by decide +kernel
theorem dX10_opensText_26 : decode cX10_opensText 26 = .ok (.iconst 0, 1) := by decide +kernel
theorem dX10_opensText_27 : decode cX10_opensText 27 = .ok (.putfield 219, 3) := by decide +kernel
theorem dX10_opensText_30 : decode cX10_opensText 30 = .ok (.return_, 1) := by decide +kernel
theorem dX10_load_0 : decode cX10_load 0 = .ok (.aload_n 0, 1) := by decide +kernel
theorem dX10_load_1 : decode cX10_load 1 = .ok (.iconst 0, 1) := by decide +kernel
theorem dX10_load_2 : decode cX10_load 2 = .ok (.putfield 66, 3) := by decide +kernel
theorem dX10_load_5 : decode cX10_load 5 = .ok (.iload_n 1, 1) := by decide +kernel
theorem dX10_load_6 : decode cX10_load 6 = .ok (.iconst 0, 1) := by decide +kernel
theorem dX10_load_7 : decode cX10_load 7 = .ok (.aload_n 0, 1) := by decide +kernel
theorem dX10_load_8 : decode cX10_load 8 = .ok (.getfield 219, 3) := by decide +kernel
theorem dX10_load_11 : decode cX10_load 11 = .ok (.invokestatic 72, 3) := by decide +kernel
theorem dX10_load_14 : decode cX10_load 14 = .ok (.ifCond .ne 9, 3) := by decide +kernel
theorem dX10_load_17 : decode cX10_load 17 = .ok (.aload_n 0, 1) := by decide +kernel
theorem dX10_load_18 : decode cX10_load 18 = .ok (.iconst 1, 1) := by decide +kernel
theorem dX10_load_19 : decode cX10_load 19 = .ok (.invokevirtual 171, 3) := by decide +kernel
theorem dX10_load_22 : decode cX10_load 22 = .ok (.ireturn, 1) := by decide +kernel
theorem dX10_load_23 : decode cX10_load 23 = .ok (.aload_n 0, 1) := by decide +kernel
theorem dX10_load_24 : decode cX10_load 24 = .ok (.iload_n 1, 1) := by decide +kernel
theorem dX10_load_25 : decode cX10_load 25 = .ok (.invokevirtual 299, 3) := by decide +kernel
theorem dX10_load_28 : decode cX10_load 28 = .ok (.aload_n 0, 1) := by decide +kernel
theorem dX10_load_29 : decode cX10_load 29 = .ok (.invokevirtual 302, 3) := by decide +kernel
theorem dX10_load_32 : decode cX10_load 32 = .ok (.ifCond .ne 9, 3) := by decide +kernel
theorem dX10_load_35 : decode cX10_load 35 = .ok (.aload_n 0, 1) := by decide +kernel
theorem dX10_load_36 : decode cX10_load 36 = .ok (.iconst 2, 1) := by decide +kernel
theorem dX10_load_37 : decode cX10_load 37 = .ok (.invokevirtual 171, 3) := by decide +kernel
theorem dX10_load_40 : decode cX10_load 40 = .ok (.ireturn, 1) := by decide +kernel
theorem dX10_load_41 : decode cX10_load 41 = .ok (.aload_n 0, 1) := by decide +kernel
theorem dX10_load_42 : decode cX10_load 42 = .ok (.aload_n 0, 1) := by decide +kernel
theorem dX10_load_43 : decode cX10_load 43 = .ok (.getfield 283, 3) := by decide +kernel
theorem dX10_load_46 : decode cX10_load 46 = .ok (.putfield 69, 3) := by decide +kernel
theorem dX10_load_49 : decode cX10_load 49 = .ok (.aload_n 0, 1) := by decide +kernel
theorem dX10_load_50 : decode cX10_load 50 = .ok (.aload_n 0, 1) := by decide +kernel
theorem dX10_load_51 : decode cX10_load 51 = .ok (.getfield 288, 3) := by decide +kernel
theorem dX10_load_54 : decode cX10_load 54 = .ok (.putfield 76, 3) := by decide +kernel
theorem dX10_load_57 : decode cX10_load 57 = .ok (.aload_n 0, 1) := by decide +kernel
theorem dX10_load_58 : decode cX10_load 58 = .ok (.aload_n 0, 1) := by decide +kernel
theorem dX10_load_59 : decode cX10_load 59 = .ok (.getfield 293, 3) := by decide +kernel
theorem dX10_load_62 : decode cX10_load 62 = .ok (.putfield 158, 3) := by decide +kernel
theorem dX10_load_65 : decode cX10_load 65 = .ok (.aload_n 0, 1) := by decide +kernel
theorem dX10_load_66 : decode cX10_load 66 = .ok (.invokevirtual 305, 3) := by decide +kernel
theorem dX10_load_69 : decode cX10_load 69 = .ok (.aload_n 0, 1) := by decide +kernel
theorem dX10_load_70 : decode cX10_load 70 = .ok (.getfield 69, 3) := by decide +kernel
theorem dX10_load_73 : decode cX10_load 73 = .ok (.ireturn, 1) := by decide +kernel
theorem dX10_readInto_0 : decode cX10_readInto 0 = .ok (.aload_n 0, 1) := by decide +kernel
theorem dX10_readInto_1 : decode cX10_readInto 1 = .ok (.iload_n 2, 1) := by decide +kernel
theorem dX10_readInto_2 : decode cX10_readInto 2 = .ok (.iload_n 3, 1) := by decide +kernel
theorem dX10_readInto_3 : decode cX10_readInto 3 = .ok (.invokevirtual 280, 3) := by decide +kernel
theorem dX10_readInto_6 : decode cX10_readInto 6 = .ok (.ifCond .ne 5, 3) := by decide +kernel
theorem dX10_readInto_9 : decode cX10_readInto 9 = .ok (.iconst 0, 1) := by decide +kernel
theorem dX10_readInto_10 : decode cX10_readInto 10 = .ok (.ireturn, 1) := by decide +kernel
theorem dX10_readInto_11 : decode cX10_readInto 11 = .ok (.aload_n 0, 1) := by decide +kernel
theorem dX10_readInto_12 : decode cX10_readInto 12 = .ok (.getfield 63, 3) := by decide +kernel
theorem dX10_readInto_15 : decode cX10_readInto 15 = .ok (.iconst 4, 1) := by decide +kernel
theorem dX10_readInto_16 : decode cX10_readInto 16 = .ok (.aload_n 0, 1) := by decide +kernel
theorem dX10_readInto_17 : decode cX10_readInto 17 = .ok (.getfield 308, 3) := by decide +kernel
theorem dX10_readInto_20 : decode cX10_readInto 20 = .ok (.imul, 1) := by decide +kernel
theorem dX10_readInto_21 : decode cX10_readInto 21 = .ok (.iload_n 1, 1) := by decide +kernel
theorem dX10_readInto_22 : decode cX10_readInto 22 = .ok (.iadd, 1) := by decide +kernel
theorem dX10_readInto_23 : decode cX10_readInto 23 = .ok (.aload_n 0, 1) := by decide +kernel
theorem dX10_readInto_24 : decode cX10_readInto 24 = .ok (.getfield 271, 3) := by decide +kernel
theorem dX10_readInto_27 : decode cX10_readInto 27 = .ok (.iastore, 1) := by decide +kernel
theorem dX10_readInto_28 : decode cX10_readInto 28 = .ok (.iconst 1, 1) := by decide +kernel
theorem dX10_readInto_29 : decode cX10_readInto 29 = .ok (.ireturn, 1) := by decide +kernel
theorem dX10_readClient_0 : decode cX10_readClient 0 = .ok (.aload_n 0, 1) := by decide +kernel
theorem dX10_readClient_1 : decode cX10_readClient 1 = .ok (.iload_n 1, 1) := by decide +kernel
theorem dX10_readClient_2 : decode cX10_readClient 2 = .ok (.iconst 0, 1) := by decide +kernel
theorem dX10_readClient_3 : decode cX10_readClient 3 = .ok (.aload_n 0, 1) := by decide +kernel
theorem dX10_readClient_4 : decode cX10_readClient 4 = .ok (.getfield 69, 3) := by decide +kernel
theorem dX10_readClient_7 : decode cX10_readClient 7 = .ok (.iconst 1, 1) := by decide +kernel
theorem dX10_readClient_8 : decode cX10_readClient 8 = .ok (.isub, 1) := by decide +kernel
theorem dX10_readClient_9 : decode cX10_readClient 9 = .ok (.invokevirtual 311, 3) := by decide +kernel
theorem dX10_readClient_12 : decode cX10_readClient 12 = .ok (.ireturn, 1) := by decide +kernel
theorem dX10_readBranch_0 : decode cX10_readBranch 0 = .ok (.aload_n 0, 1) := by decide +kernel
theorem dX10_readBranch_1 : decode cX10_readBranch 1 = .ok (.iload_n 1, 1) := by decide +kernel
theorem dX10_readBranch_2 : decode cX10_readBranch 2 = .ok (.iconst 0, 1) := by decide +kernel
theorem dX10_readBranch_3 : decode cX10_readBranch 3 = .ok (.bipush 7, 2) := by decide +kernel
theorem dX10_readBranch_5 : decode cX10_readBranch 5 = .ok (.invokevirtual 311, 3) := by decide +kernel
theorem dX10_readBranch_8 : decode cX10_readBranch 8 = .ok (.ireturn, 1) := by decide +kernel
theorem dX10_isTooMany_0 : decode cX10_isTooMany 0 = .ok (.aload_n 0, 1) := by decide +kernel
theorem dX10_isTooMany_1 : decode cX10_isTooMany 1 = .ok (.getfield 308, 3) := by decide +kernel
theorem dX10_isTooMany_4 : decode cX10_isTooMany 4 = .ok (.bipush 60, 2) := by decide +kernel
theorem dX10_isTooMany_6 : decode cX10_isTooMany 6 = .ok (.if_icmp .ne 16, 3) := by decide +kernel
theorem dX10_isTooMany_9 : decode cX10_isTooMany 9 = .ok (.aload_n 0, 1) := by decide +kernel
theorem dX10_isTooMany_10 : decode cX10_isTooMany 10 = .ok (.iconst 3, 1) := by decide +kernel
theorem dX10_isTooMany_11 : decode cX10_isTooMany 11 = .ok (.iload_n 1, 1) := by decide +kernel
theorem dX10_isTooMany_12 : decode cX10_isTooMany 12 = .ok (.invokevirtual 253, 3) := by decide +kernel
theorem dX10_isTooMany_15 : decode cX10_isTooMany 15 = .ok (.ifCond .ne 7, 3) := by decide +kernel
theorem dX10_isTooMany_18 : decode cX10_isTooMany 18 = .ok (.iconst 1, 1) := by decide +kernel
theorem dX10_isTooMany_19 : decode cX10_isTooMany 19 = .ok (.goto 4, 3) := by decide +kernel
theorem dX10_isTooMany_22 : decode cX10_isTooMany 22 = .ok (.iconst 0, 1) := by decide +kernel
theorem dX10_isTooMany_23 : decode cX10_isTooMany 23 = .ok (.ireturn, 1) := by decide +kernel
theorem dX10_readOperation_0 : decode cX10_readOperation 0 = .ok (.aload_n 0, 1) := by decide +kernel
theorem dX10_readOperation_1 : decode cX10_readOperation 1 = .ok (.getfield 234, 3) := by decide +kernel
theorem dX10_readOperation_4 : decode cX10_readOperation 4 = .ok (.istore_n 1, 1) := by decide +kernel
theorem dX10_readOperation_5 : decode cX10_readOperation 5 = .ok (.aload_n 0, 1) := by decide +kernel
theorem dX10_readOperation_6 : decode cX10_readOperation 6 = .ok (.iconst 0, 1) := by decide +kernel
theorem dX10_readOperation_7 : decode cX10_readOperation 7 = .ok (.aload_n 0, 1) := by decide +kernel
theorem dX10_readOperation_8 : decode cX10_readOperation 8 = .ok (.getfield 69, 3) := by decide +kernel
theorem dX10_readOperation_11 : decode cX10_readOperation 11 = .ok (.iconst 1, 1) := by decide +kernel
theorem dX10_readOperation_12 : decode cX10_readOperation 12 = .ok (.isub, 1) := by decide +kernel
theorem dX10_readOperation_13 : decode cX10_readOperation 13 = .ok (.invokevirtual 280, 3) := by decide +kernel
theorem dX10_readOperation_16 : decode cX10_readOperation 16 = .ok (.ifCond .eq 11, 3) := by decide +kernel
theorem dX10_readOperation_19 : decode cX10_readOperation 19 = .ok (.aload_n 0, 1) := by decide +kernel
theorem dX10_readOperation_20 : decode cX10_readOperation 20 = .ok (.iload_n 1, 1) := by decide +kernel
theorem dX10_readOperation_21 : decode cX10_readOperation 21 = .ok (.invokevirtual 314, 3) := by decide +kernel
theorem dX10_readOperation_24 : decode cX10_readOperation 24 = .ok (.ifCond .eq 5, 3) := by decide +kernel
theorem dX10_readOperation_27 : decode cX10_readOperation 27 = .ok (.iconst 0, 1) := by decide +kernel
theorem dX10_readOperation_28 : decode cX10_readOperation 28 = .ok (.ireturn, 1) := by decide +kernel
theorem dX10_readOperation_29 : decode cX10_readOperation 29 = .ok (.aload_n 0, 1) := by decide +kernel
theorem dX10_readOperation_30 : decode cX10_readOperation 30 = .ok (.getfield 63, 3) := by decide +kernel
theorem dX10_readOperation_33 : decode cX10_readOperation 33 = .ok (.iconst 4, 1) := by decide +kernel
theorem dX10_readOperation_34 : decode cX10_readOperation 34 = .ok (.aload_n 0, 1) := by decide +kernel
theorem dX10_readOperation_35 : decode cX10_readOperation 35 = .ok (.getfield 308, 3) := by decide +kernel
theorem dX10_readOperation_38 : decode cX10_readOperation 38 = .ok (.imul, 1) := by decide +kernel
theorem dX10_readOperation_39 : decode cX10_readOperation 39 = .ok (.iconst 1, 1) := by decide +kernel
theorem dX10_readOperation_40 : decode cX10_readOperation 40 = .ok (.iadd, 1) := by decide +kernel
theorem dX10_readOperation_41 : decode cX10_readOperation 41 = .ok (.aload_n 0, 1) := by decide +kernel
theorem dX10_readOperation_42 : decode cX10_readOperation 42 = .ok (.getfield 271, 3) := by decide +kernel
theorem dX10_readOperation_45 : decode cX10_readOperation 45 = .ok (.iastore, 1) := by decide +kernel
theorem dX10_readOperation_46 : decode cX10_readOperation 46 = .ok (.aload_n 0, 1) := by decide +kernel
theorem dX10_readOperation_47 : decode cX10_readOperation 47 = .ok (.invokevirtual 264, 3) := by decide +kernel
theorem dX10_readOperation_50 : decode cX10_readOperation 50 = .ok (.ifCond .ne 5, 3) := by decide +kernel
theorem dX10_readOperation_53 : decode cX10_readOperation 53 = .ok (.iconst 0, 1) := by decide +kernel
theorem dX10_readOperation_54 : decode cX10_readOperation 54 = .ok (.ireturn, 1) := by decide +kernel
theorem dX10_readOperation_55 : decode cX10_readOperation 55 = .ok (.aload_n 0, 1) := by decide +kernel
theorem dX10_readOperation_56 : decode cX10_readOperation 56 = .ok (.getfield 256, 3) := by decide +kernel
theorem dX10_readOperation_59 : decode cX10_readOperation 59 = .ok (.ldc2_w 317, 3) := by decide +kernel
theorem dX10_readOperation_62 : decode cX10_readOperation 62 = .ok (.lcmp, 1) := by decide +kernel
theorem dX10_readOperation_63 : decode cX10_readOperation 63 = .ok (.ifCond .eq 24, 3) := by decide +kernel
theorem dX10_readOperation_66 : decode cX10_readOperation 66 = .ok (.aload_n 0, 1) := by decide +kernel
theorem dX10_readOperation_67 : decode cX10_readOperation 67 = .ok (.getfield 256, 3) := by decide +kernel
theorem dX10_readOperation_70 : decode cX10_readOperation 70 = .ok (.ldc2_w 319, 3) := by decide +kernel
theorem dX10_readOperation_73 : decode cX10_readOperation 73 = .ok (.lcmp, 1) := by decide +kernel
theorem dX10_readOperation_74 : decode cX10_readOperation 74 = .ok (.ifCond .eq 13, 3) := by decide +kernel
theorem dX10_readOperation_77 : decode cX10_readOperation 77 = .ok (.aload_n 0, 1) := by decide +kernel
theorem dX10_readOperation_78 : decode cX10_readOperation 78 = .ok (.iconst 1, 1) := by decide +kernel
theorem dX10_readOperation_79 : decode cX10_readOperation 79 = .ok (.aload_n 0, 1) := by decide +kernel
theorem dX10_readOperation_80 : decode cX10_readOperation 80 = .ok (.getfield 240, 3) := by decide +kernel
theorem dX10_readOperation_83 : decode cX10_readOperation 83 = .ok (.invokevirtual 253, 3) := by decide +kernel
theorem dX10_readOperation_86 : decode cX10_readOperation 86 = .ok (.ireturn, 1) := by decide +kernel
theorem dX10_readOperation_87 : decode cX10_readOperation 87 = .ok (.aload_n 0, 1) := by decide +kernel
theorem dX10_readOperation_88 : decode cX10_readOperation 88 = .ok (.getfield 256, 3) := by decide +kernel
theorem dX10_readOperation_91 : decode cX10_readOperation 91 = .ok (.ldc2_w 317, 3) := by decide +kernel
theorem dX10_readOperation_94 : decode cX10_readOperation 94 = .ok (.lcmp, 1) := by decide +kernel
theorem dX10_readOperation_95 : decode cX10_readOperation 95 = .ok (.ifCond .ne 7, 3) := by decide +kernel
theorem dX10_readOperation_98 : decode cX10_readOperation 98 = .ok (.iconst 1, 1) := by decide +kernel
theorem dX10_readOperation_99 : decode cX10_readOperation 99 = .ok (.goto 4, 3) := by decide +kernel
theorem dX10_readOperation_102 : decode cX10_readOperation 102 = .ok (.iconst 0, 1) := by decide +kernel
theorem dX10_readOperation_103 : decode cX10_readOperation 103 = .ok (.istore_n 2, 1) := by decide +kernel
theorem dX10_readOperation_104 : decode cX10_readOperation 104 = .ok (.aload_n 0, 1) := by decide +kernel
theorem dX10_readOperation_105 : decode cX10_readOperation 105 = .ok (.getfield 63, 3) := by decide +kernel
theorem dX10_readOperation_108 : decode cX10_readOperation 108 = .ok (.iconst 4, 1) := by decide +kernel
theorem dX10_readOperation_109 : decode cX10_readOperation 109 = .ok (.aload_n 0, 1) := by decide +kernel
theorem dX10_readOperation_110 : decode cX10_readOperation 110 = .ok (.getfield 308, 3) := by decide +kernel
theorem dX10_readOperation_113 : decode cX10_readOperation 113 = .ok (.imul, 1) := by decide +kernel
theorem dX10_readOperation_114 : decode cX10_readOperation 114 = .ok (.iload_n 2, 1) := by decide +kernel
theorem dX10_readOperation_115 : decode cX10_readOperation 115 = .ok (.ifCond .eq 7, 3) := by decide +kernel
theorem dX10_readOperation_118 : decode cX10_readOperation 118 = .ok (.iconst 0, 1) := by decide +kernel
theorem dX10_readOperation_119 : decode cX10_readOperation 119 = .ok (.goto 4, 3) := by decide +kernel
theorem dX10_readOperation_122 : decode cX10_readOperation 122 = .ok (.iconst 1, 1) := by decide +kernel
theorem dX10_readOperation_123 : decode cX10_readOperation 123 = .ok (.iastore, 1) := by decide +kernel
theorem dX10_readOperation_124 : decode cX10_readOperation 124 = .ok (.aload_n 0, 1) := by decide +kernel
theorem dX10_readOperation_125 : decode cX10_readOperation 125 = .ok (.iconst 2, 1) := by decide +kernel
theorem dX10_readOperation_126 : decode cX10_readOperation 126 = .ok (.iconst 0, 1) := by decide +kernel
theorem dX10_readOperation_127 : decode cX10_readOperation 127 = .ok (.aload_n 0, 1) := by decide +kernel
theorem dX10_readOperation_128 : decode cX10_readOperation 128 = .ok (.getfield 76, 3) := by decide +kernel
theorem dX10_readOperation_131 : decode cX10_readOperation 131 = .ok (.iconst 1, 1) := by decide +kernel
theorem dX10_readOperation_132 : decode cX10_readOperation 132 = .ok (.isub, 1) := by decide +kernel
theorem dX10_readOperation_133 : decode cX10_readOperation 133 = .ok (.invokevirtual 311, 3) := by decide +kernel
theorem dX10_readOperation_136 : decode cX10_readOperation 136 = .ok (.ifCond .eq 22, 3) := by decide +kernel
theorem dX10_readOperation_139 : decode cX10_readOperation 139 = .ok (.iload_n 2, 1) := by decide +kernel
theorem dX10_readOperation_140 : decode cX10_readOperation 140 = .ok (.ifCond .eq 14, 3) := by decide +kernel
theorem dX10_readOperation_143 : decode cX10_readOperation 143 = .ok (.aload_n 0, 1) := by decide +kernel
theorem dX10_readOperation_144 : decode cX10_readOperation 144 = .ok (.iconst 3, 1) := by decide +kernel
theorem dX10_readOperation_145 : decode cX10_readOperation 145 = .ok (.iconst 0, 1) := by decide +kernel
theorem dX10_readOperation_146 : decode cX10_readOperation 146 = .ok (.ldc 174, 2) := by decide +kernel
theorem dX10_readOperation_148 : decode cX10_readOperation 148 = .ok (.invokevirtual 311, 3) := by decide +kernel
theorem dX10_readOperation_151 : decode cX10_readOperation 151 = .ok (.ifCond .eq 7, 3) := by decide +kernel
theorem dX10_readOperation_154 : decode cX10_readOperation 154 = .ok (.iconst 1, 1) := by decide +kernel
theorem dX10_readOperation_155 : decode cX10_readOperation 155 = .ok (.goto 4, 3) := by decide +kernel
theorem dX10_readOperation_158 : decode cX10_readOperation 158 = .ok (.iconst 0, 1) := by decide +kernel
theorem dX10_readOperation_159 : decode cX10_readOperation 159 = .ok (.ireturn, 1) := by decide +kernel
theorem dX10_readFork_0 : decode cX10_readFork 0 = .ok (.iconst 0, 1) := by decide +kernel
theorem dX10_readFork_1 : decode cX10_readFork 1 = .ok (.istore_n 1, 1) := by decide +kernel
theorem dX10_readFork_2 : decode cX10_readFork 2 = .ok (.aload_n 0, 1) := by decide +kernel
theorem dX10_readFork_3 : decode cX10_readFork 3 = .ok (.iconst 1, 1) := by decide +kernel
theorem dX10_readFork_4 : decode cX10_readFork 4 = .ok (.invokevirtual 321, 3) := by decide +kernel
theorem dX10_readFork_7 : decode cX10_readFork 7 = .ok (.ifCond .ne 5, 3) := by decide +kernel
theorem dX10_readFork_10 : decode cX10_readFork 10 = .ok (.iconst 0, 1) := by decide +kernel
theorem dX10_readFork_11 : decode cX10_readFork 11 = .ok (.ireturn, 1) := by decide +kernel
theorem dX10_readFork_12 : decode cX10_readFork 12 = .ok (.iload_n 1, 1) := by decide +kernel
theorem dX10_readFork_13 : decode cX10_readFork 13 = .ok (.iconst 1, 1) := by decide +kernel
theorem dX10_readFork_14 : decode cX10_readFork 14 = .ok (.aload_n 0, 1) := by decide +kernel
theorem dX10_readFork_15 : decode cX10_readFork 15 = .ok (.getfield 271, 3) := by decide +kernel
theorem dX10_readFork_18 : decode cX10_readFork 18 = .ok (.ishl, 1) := by decide +kernel
theorem dX10_readFork_19 : decode cX10_readFork 19 = .ok (.ior, 1) := by decide +kernel
theorem dX10_readFork_20 : decode cX10_readFork 20 = .ok (.istore_n 1, 1) := by decide +kernel
theorem dX10_readFork_21 : decode cX10_readFork 21 = .ok (.aload_n 0, 1) := by decide +kernel
theorem dX10_readFork_22 : decode cX10_readFork 22 = .ok (.invokevirtual 243, 3) := by decide +kernel
theorem dX10_readFork_25 : decode cX10_readFork 25 = .ok (.invokestatic 268, 3) := by decide +kernel
theorem dX10_readFork_28 : decode cX10_readFork 28 = .ok (.ifCond .ne (-26), 3) := by decide +kernel
theorem dX10_readFork_31 : decode cX10_readFork 31 = .ok (.aload_n 0, 1) := by decide +kernel
theorem dX10_readFork_32 : decode cX10_readFork 32 = .ok (.getfield 63, 3) := by decide +kernel
theorem dX10_readFork_35 : decode cX10_readFork 35 = .ok (.iconst 4, 1) := by decide +kernel
theorem dX10_readFork_36 : decode cX10_readFork 36 = .ok (.aload_n 0, 1) := by decide +kernel
theorem dX10_readFork_37 : decode cX10_readFork 37 = .ok (.getfield 308, 3) := by decide +kernel
theorem dX10_readFork_40 : decode cX10_readFork 40 = .ok (.imul, 1) := by decide +kernel
theorem dX10_readFork_41 : decode cX10_readFork 41 = .ok (.iconst 1, 1) := by decide +kernel
theorem dX10_readFork_42 : decode cX10_readFork 42 = .ok (.iadd, 1) := by decide +kernel
theorem dX10_readFork_43 : decode cX10_readFork 43 = .ok (.iload_n 1, 1) := by decide +kernel
theorem dX10_readFork_44 : decode cX10_readFork 44 = .ok (.iastore, 1) := by decide +kernel
theorem dX10_readFork_45 : decode cX10_readFork 45 = .ok (.iconst 1, 1) := by decide +kernel
theorem dX10_readFork_46 : decode cX10_readFork 46 = .ok (.ireturn, 1) := by decide +kernel
theorem dX10_stepOf_0 : decode cX10_stepOf 0 = .ok (.lload_n 1, 1) := by decide +kernel
theorem dX10_stepOf_1 : decode cX10_stepOf 1 = .ok (.ldc2_w 324, 3) := by decide +kernel
theorem dX10_stepOf_4 : decode cX10_stepOf 4 = .ok (.lcmp, 1) := by decide +kernel
theorem dX10_stepOf_5 : decode cX10_stepOf 5 = .ok (.ifCond .ne 5, 3) := by decide +kernel
theorem dX10_stepOf_8 : decode cX10_stepOf 8 = .ok (.iconst 2, 1) := by decide +kernel
theorem dX10_stepOf_9 : decode cX10_stepOf 9 = .ok (.ireturn, 1) := by decide +kernel
theorem dX10_stepOf_10 : decode cX10_stepOf 10 = .ok (.lload_n 1, 1) := by decide +kernel
theorem dX10_stepOf_11 : decode cX10_stepOf 11 = .ok (.ldc2_w 326, 3) := by decide +kernel
theorem dX10_stepOf_14 : decode cX10_stepOf 14 = .ok (.lcmp, 1) := by decide +kernel
theorem dX10_stepOf_15 : decode cX10_stepOf 15 = .ok (.ifCond .ne 5, 3) := by decide +kernel
theorem dX10_stepOf_18 : decode cX10_stepOf 18 = .ok (.iconst 3, 1) := by decide +kernel
theorem dX10_stepOf_19 : decode cX10_stepOf 19 = .ok (.ireturn, 1) := by decide +kernel
theorem dX10_stepOf_20 : decode cX10_stepOf 20 = .ok (.lload_n 1, 1) := by decide +kernel
theorem dX10_stepOf_21 : decode cX10_stepOf 21 = .ok (.ldc2_w 328, 3) := by decide +kernel
theorem dX10_stepOf_24 : decode cX10_stepOf 24 = .ok (.lcmp, 1) := by decide +kernel
theorem dX10_stepOf_25 : decode cX10_stepOf 25 = .ok (.ifCond .ne 5, 3) := by decide +kernel
theorem dX10_stepOf_28 : decode cX10_stepOf 28 = .ok (.iconst 4, 1) := by decide +kernel
theorem dX10_stepOf_29 : decode cX10_stepOf 29 = .ok (.ireturn, 1) := by decide +kernel
theorem dX10_stepOf_30 : decode cX10_stepOf 30 = .ok (.lload_n 1, 1) := by decide +kernel
theorem dX10_stepOf_31 : decode cX10_stepOf 31 = .ok (.ldc2_w 330, 3) := by decide +kernel
theorem dX10_stepOf_34 : decode cX10_stepOf 34 = .ok (.lcmp, 1) := by decide +kernel
theorem dX10_stepOf_35 : decode cX10_stepOf 35 = .ok (.ifCond .ne 5, 3) := by decide +kernel
theorem dX10_stepOf_38 : decode cX10_stepOf 38 = .ok (.iconst 5, 1) := by decide +kernel
theorem dX10_stepOf_39 : decode cX10_stepOf 39 = .ok (.ireturn, 1) := by decide +kernel
theorem dX10_stepOf_40 : decode cX10_stepOf 40 = .ok (.lload_n 1, 1) := by decide +kernel
theorem dX10_stepOf_41 : decode cX10_stepOf 41 = .ok (.ldc2_w 332, 3) := by decide +kernel
theorem dX10_stepOf_44 : decode cX10_stepOf 44 = .ok (.lcmp, 1) := by decide +kernel
theorem dX10_stepOf_45 : decode cX10_stepOf 45 = .ok (.ifCond .ne 6, 3) := by decide +kernel
theorem dX10_stepOf_48 : decode cX10_stepOf 48 = .ok (.bipush 6, 2) := by decide +kernel
theorem dX10_stepOf_50 : decode cX10_stepOf 50 = .ok (.ireturn, 1) := by decide +kernel
theorem dX10_stepOf_51 : decode cX10_stepOf 51 = .ok (.lload_n 1, 1) := by decide +kernel
theorem dX10_stepOf_52 : decode cX10_stepOf 52 = .ok (.ldc2_w 334, 3) := by decide +kernel
theorem dX10_stepOf_55 : decode cX10_stepOf 55 = .ok (.lcmp, 1) := by decide +kernel
theorem dX10_stepOf_56 : decode cX10_stepOf 56 = .ok (.ifCond .ne 6, 3) := by decide +kernel
theorem dX10_stepOf_59 : decode cX10_stepOf 59 = .ok (.bipush 7, 2) := by decide +kernel
theorem dX10_stepOf_61 : decode cX10_stepOf 61 = .ok (.ireturn, 1) := by decide +kernel
theorem dX10_stepOf_62 : decode cX10_stepOf 62 = .ok (.lload_n 1, 1) := by decide +kernel
theorem dX10_stepOf_63 : decode cX10_stepOf 63 = .ok (.ldc2_w 336, 3) := by decide +kernel
theorem dX10_stepOf_66 : decode cX10_stepOf 66 = .ok (.lcmp, 1) := by decide +kernel
theorem dX10_stepOf_67 : decode cX10_stepOf 67 = .ok (.ifCond .ne 8, 3) := by decide +kernel
theorem dX10_stepOf_70 : decode cX10_stepOf 70 = .ok (.bipush 8, 2) := by decide +kernel
theorem dX10_stepOf_72 : decode cX10_stepOf 72 = .ok (.goto 4, 3) := by decide +kernel
theorem dX10_stepOf_75 : decode cX10_stepOf 75 = .ok (.iconst (-1), 1) := by decide +kernel
theorem dX10_stepOf_76 : decode cX10_stepOf 76 = .ok (.ireturn, 1) := by decide +kernel
theorem dX10_readRest_0 : decode cX10_readRest 0 = .ok (.iload_n 1, 1) := by decide +kernel
theorem dX10_readRest_1 : decode cX10_readRest 1 = .ok (.tableswitch 157 2 7 #[39, 44, 66, 92, 129, 151], 39) := by decide +kernel
theorem dX10_readRest_40 : decode cX10_readRest 40 = .ok (.aload_n 0, 1) := by decide +kernel
theorem dX10_readRest_41 : decode cX10_readRest 41 = .ok (.invokevirtual 338, 3) := by decide +kernel
theorem dX10_readRest_44 : decode cX10_readRest 44 = .ok (.ireturn, 1) := by decide +kernel
theorem dX10_readRest_45 : decode cX10_readRest 45 = .ok (.aload_n 0, 1) := by decide +kernel
theorem dX10_readRest_46 : decode cX10_readRest 46 = .ok (.iconst 1, 1) := by decide +kernel
theorem dX10_readRest_47 : decode cX10_readRest 47 = .ok (.invokevirtual 321, 3) := by decide +kernel
theorem dX10_readRest_50 : decode cX10_readRest 50 = .ok (.ifCond .eq 15, 3) := by decide +kernel
theorem dX10_readRest_53 : decode cX10_readRest 53 = .ok (.aload_n 0, 1) := by decide +kernel
theorem dX10_readRest_54 : decode cX10_readRest 54 = .ok (.iconst 2, 1) := by decide +kernel
theorem dX10_readRest_55 : decode cX10_readRest 55 = .ok (.invokevirtual 341, 3) := by decide +kernel
theorem dX10_readRest_58 : decode cX10_readRest 58 = .ok (.ifCond .eq 7, 3) := by decide +kernel
theorem dX10_readRest_61 : decode cX10_readRest 61 = .ok (.iconst 1, 1) := by decide +kernel
theorem dX10_readRest_62 : decode cX10_readRest 62 = .ok (.goto 4, 3) := by decide +kernel
theorem dX10_readRest_65 : decode cX10_readRest 65 = .ok (.iconst 0, 1) := by decide +kernel
theorem dX10_readRest_66 : decode cX10_readRest 66 = .ok (.ireturn, 1) := by decide +kernel
theorem dX10_readRest_67 : decode cX10_readRest 67 = .ok (.aload_n 0, 1) := by decide +kernel
theorem dX10_readRest_68 : decode cX10_readRest 68 = .ok (.iconst 1, 1) := by decide +kernel
theorem dX10_readRest_69 : decode cX10_readRest 69 = .ok (.invokevirtual 341, 3) := by decide +kernel
theorem dX10_readRest_72 : decode cX10_readRest 72 = .ok (.ifCond .eq 19, 3) := by decide +kernel
theorem dX10_readRest_75 : decode cX10_readRest 75 = .ok (.aload_n 0, 1) := by decide +kernel
theorem dX10_readRest_76 : decode cX10_readRest 76 = .ok (.iconst 2, 1) := by decide +kernel
theorem dX10_readRest_77 : decode cX10_readRest 77 = .ok (.iconst 1, 1) := by decide +kernel
theorem dX10_readRest_78 : decode cX10_readRest 78 = .ok (.sipush 200, 3) := by decide +kernel
theorem dX10_readRest_81 : decode cX10_readRest 81 = .ok (.invokevirtual 311, 3) := by decide +kernel
theorem dX10_readRest_84 : decode cX10_readRest 84 = .ok (.ifCond .eq 7, 3) := by decide +kernel
theorem dX10_readRest_87 : decode cX10_readRest 87 = .ok (.iconst 1, 1) := by decide +kernel
theorem dX10_readRest_88 : decode cX10_readRest 88 = .ok (.goto 4, 3) := by decide +kernel
theorem dX10_readRest_91 : decode cX10_readRest 91 = .ok (.iconst 0, 1) := by decide +kernel
theorem dX10_readRest_92 : decode cX10_readRest 92 = .ok (.ireturn, 1) := by decide +kernel
theorem dX10_readRest_93 : decode cX10_readRest 93 = .ok (.aload_n 0, 1) := by decide +kernel
theorem dX10_readRest_94 : decode cX10_readRest 94 = .ok (.iconst 1, 1) := by decide +kernel
theorem dX10_readRest_95 : decode cX10_readRest 95 = .ok (.invokevirtual 341, 3) := by decide +kernel
theorem dX10_readRest_98 : decode cX10_readRest 98 = .ok (.ifCond .eq 30, 3) := by decide +kernel
theorem dX10_readRest_101 : decode cX10_readRest 101 = .ok (.aload_n 0, 1) := by decide +kernel
theorem dX10_readRest_102 : decode cX10_readRest 102 = .ok (.iconst 2, 1) := by decide +kernel
theorem dX10_readRest_103 : decode cX10_readRest 103 = .ok (.iconst 1, 1) := by decide +kernel
theorem dX10_readRest_104 : decode cX10_readRest 104 = .ok (.sipush 200, 3) := by decide +kernel
theorem dX10_readRest_107 : decode cX10_readRest 107 = .ok (.invokevirtual 311, 3) := by decide +kernel
theorem dX10_readRest_110 : decode cX10_readRest 110 = .ok (.ifCond .eq 18, 3) := by decide +kernel
theorem dX10_readRest_113 : decode cX10_readRest 113 = .ok (.aload_n 0, 1) := by decide +kernel
theorem dX10_readRest_114 : decode cX10_readRest 114 = .ok (.iconst 3, 1) := by decide +kernel
theorem dX10_readRest_115 : decode cX10_readRest 115 = .ok (.iconst 0, 1) := by decide +kernel
theorem dX10_readRest_116 : decode cX10_readRest 116 = .ok (.ldc 174, 2) := by decide +kernel
theorem dX10_readRest_118 : decode cX10_readRest 118 = .ok (.invokevirtual 311, 3) := by decide +kernel
theorem dX10_readRest_121 : decode cX10_readRest 121 = .ok (.ifCond .eq 7, 3) := by decide +kernel
theorem dX10_readRest_124 : decode cX10_readRest 124 = .ok (.iconst 1, 1) := by decide +kernel
theorem dX10_readRest_125 : decode cX10_readRest 125 = .ok (.goto 4, 3) := by decide +kernel
theorem dX10_readRest_128 : decode cX10_readRest 128 = .ok (.iconst 0, 1) := by decide +kernel
theorem dX10_readRest_129 : decode cX10_readRest 129 = .ok (.ireturn, 1) := by decide +kernel
theorem dX10_readRest_130 : decode cX10_readRest 130 = .ok (.aload_n 0, 1) := by decide +kernel
theorem dX10_readRest_131 : decode cX10_readRest 131 = .ok (.iconst 1, 1) := by decide +kernel
theorem dX10_readRest_132 : decode cX10_readRest 132 = .ok (.invokevirtual 321, 3) := by decide +kernel
theorem dX10_readRest_135 : decode cX10_readRest 135 = .ok (.ifCond .eq 15, 3) := by decide +kernel
theorem dX10_readRest_138 : decode cX10_readRest 138 = .ok (.aload_n 0, 1) := by decide +kernel
theorem dX10_readRest_139 : decode cX10_readRest 139 = .ok (.iconst 2, 1) := by decide +kernel
theorem dX10_readRest_140 : decode cX10_readRest 140 = .ok (.invokevirtual 321, 3) := by decide +kernel
theorem dX10_readRest_143 : decode cX10_readRest 143 = .ok (.ifCond .eq 7, 3) := by decide +kernel
theorem dX10_readRest_146 : decode cX10_readRest 146 = .ok (.iconst 1, 1) := by decide +kernel
theorem dX10_readRest_147 : decode cX10_readRest 147 = .ok (.goto 4, 3) := by decide +kernel
theorem dX10_readRest_150 : decode cX10_readRest 150 = .ok (.iconst 0, 1) := by decide +kernel
theorem dX10_readRest_151 : decode cX10_readRest 151 = .ok (.ireturn, 1) := by decide +kernel
theorem dX10_readRest_152 : decode cX10_readRest 152 = .ok (.aload_n 0, 1) := by decide +kernel
theorem dX10_readRest_153 : decode cX10_readRest 153 = .ok (.iconst 1, 1) := by decide +kernel
theorem dX10_readRest_154 : decode cX10_readRest 154 = .ok (.invokevirtual 321, 3) := by decide +kernel
theorem dX10_readRest_157 : decode cX10_readRest 157 = .ok (.ireturn, 1) := by decide +kernel
theorem dX10_readRest_158 : decode cX10_readRest 158 = .ok (.aload_n 0, 1) := by decide +kernel
theorem dX10_readRest_159 : decode cX10_readRest 159 = .ok (.iconst 1, 1) := by decide +kernel
theorem dX10_readRest_160 : decode cX10_readRest 160 = .ok (.invokevirtual 341, 3) := by decide +kernel
theorem dX10_readRest_163 : decode cX10_readRest 163 = .ok (.ifCond .eq 15, 3) := by decide +kernel
theorem dX10_readRest_166 : decode cX10_readRest 166 = .ok (.aload_n 0, 1) := by decide +kernel
theorem dX10_readRest_167 : decode cX10_readRest 167 = .ok (.iconst 2, 1) := by decide +kernel
theorem dX10_readRest_168 : decode cX10_readRest 168 = .ok (.invokevirtual 341, 3) := by decide +kernel
theorem dX10_readRest_171 : decode cX10_readRest 171 = .ok (.ifCond .eq 7, 3) := by decide +kernel
theorem dX10_readRest_174 : decode cX10_readRest 174 = .ok (.iconst 1, 1) := by decide +kernel
theorem dX10_readRest_175 : decode cX10_readRest 175 = .ok (.goto 4, 3) := by decide +kernel
theorem dX10_readRest_178 : decode cX10_readRest 178 = .ok (.iconst 0, 1) := by decide +kernel
theorem dX10_readRest_179 : decode cX10_readRest 179 = .ok (.ireturn, 1) := by decide +kernel
theorem dX10_readStep_0 : decode cX10_readStep 0 = .ok (.aload_n 0, 1) := by decide +kernel
theorem dX10_readStep_1 : decode cX10_readStep 1 = .ok (.invokevirtual 243, 3) := by decide +kernel
theorem dX10_readStep_4 : decode cX10_readStep 4 = .ok (.invokestatic 268, 3) := by decide +kernel
theorem dX10_readStep_7 : decode cX10_readStep 7 = .ok (.ifCond .eq 23, 3) := by decide +kernel
theorem dX10_readStep_10 : decode cX10_readStep 10 = .ok (.aload_n 0, 1) := by decide +kernel
theorem dX10_readStep_11 : decode cX10_readStep 11 = .ok (.invokevirtual 344, 3) := by decide +kernel
theorem dX10_readStep_14 : decode cX10_readStep 14 = .ok (.ifCond .eq 14, 3) := by decide +kernel
theorem dX10_readStep_17 : decode cX10_readStep 17 = .ok (.aload_n 0, 1) := by decide +kernel
theorem dX10_readStep_18 : decode cX10_readStep 18 = .ok (.invokevirtual 296, 3) := by decide +kernel
theorem dX10_readStep_21 : decode cX10_readStep 21 = .ok (.ifCond .eq 7, 3) := by decide +kernel
theorem dX10_readStep_24 : decode cX10_readStep 24 = .ok (.iconst 1, 1) := by decide +kernel
theorem dX10_readStep_25 : decode cX10_readStep 25 = .ok (.goto 4, 3) := by decide +kernel
theorem dX10_readStep_28 : decode cX10_readStep 28 = .ok (.iconst 0, 1) := by decide +kernel
theorem dX10_readStep_29 : decode cX10_readStep 29 = .ok (.ireturn, 1) := by decide +kernel
theorem dX10_readStep_30 : decode cX10_readStep 30 = .ok (.aload_n 0, 1) := by decide +kernel
theorem dX10_readStep_31 : decode cX10_readStep 31 = .ok (.invokevirtual 264, 3) := by decide +kernel
theorem dX10_readStep_34 : decode cX10_readStep 34 = .ok (.ifCond .ne 5, 3) := by decide +kernel
theorem dX10_readStep_37 : decode cX10_readStep 37 = .ok (.iconst 0, 1) := by decide +kernel
theorem dX10_readStep_38 : decode cX10_readStep 38 = .ok (.ireturn, 1) := by decide +kernel
theorem dX10_readStep_39 : decode cX10_readStep 39 = .ok (.aload_n 0, 1) := by decide +kernel
theorem dX10_readStep_40 : decode cX10_readStep 40 = .ok (.aload_n 0, 1) := by decide +kernel
theorem dX10_readStep_41 : decode cX10_readStep 41 = .ok (.getfield 256, 3) := by decide +kernel
theorem dX10_readStep_44 : decode cX10_readStep 44 = .ok (.invokevirtual 347, 3) := by decide +kernel
theorem dX10_readStep_47 : decode cX10_readStep 47 = .ok (.istore_n 1, 1) := by decide +kernel
theorem dX10_readStep_48 : decode cX10_readStep 48 = .ok (.iload_n 1, 1) := by decide +kernel
theorem dX10_readStep_49 : decode cX10_readStep 49 = .ok (.iconst (-1), 1) := by decide +kernel
theorem dX10_readStep_50 : decode cX10_readStep 50 = .ok (.if_icmp .ne 13, 3) := by decide +kernel
theorem dX10_readStep_53 : decode cX10_readStep 53 = .ok (.aload_n 0, 1) := by decide +kernel
theorem dX10_readStep_54 : decode cX10_readStep 54 = .ok (.iconst 1, 1) := by decide +kernel
theorem dX10_readStep_55 : decode cX10_readStep 55 = .ok (.aload_n 0, 1) := by decide +kernel
theorem dX10_readStep_56 : decode cX10_readStep 56 = .ok (.getfield 240, 3) := by decide +kernel
theorem dX10_readStep_59 : decode cX10_readStep 59 = .ok (.invokevirtual 253, 3) := by decide +kernel
theorem dX10_readStep_62 : decode cX10_readStep 62 = .ok (.ireturn, 1) := by decide +kernel
theorem dX10_readStep_63 : decode cX10_readStep 63 = .ok (.aload_n 0, 1) := by decide +kernel
theorem dX10_readStep_64 : decode cX10_readStep 64 = .ok (.aload_n 0, 1) := by decide +kernel
theorem dX10_readStep_65 : decode cX10_readStep 65 = .ok (.getfield 240, 3) := by decide +kernel
theorem dX10_readStep_68 : decode cX10_readStep 68 = .ok (.invokevirtual 314, 3) := by decide +kernel
theorem dX10_readStep_71 : decode cX10_readStep 71 = .ok (.ifCond .eq 5, 3) := by decide +kernel
theorem dX10_readStep_74 : decode cX10_readStep 74 = .ok (.iconst 0, 1) := by decide +kernel
theorem dX10_readStep_75 : decode cX10_readStep 75 = .ok (.ireturn, 1) := by decide +kernel
theorem dX10_readStep_76 : decode cX10_readStep 76 = .ok (.aload_n 0, 1) := by decide +kernel
theorem dX10_readStep_77 : decode cX10_readStep 77 = .ok (.getfield 63, 3) := by decide +kernel
theorem dX10_readStep_80 : decode cX10_readStep 80 = .ok (.iconst 4, 1) := by decide +kernel
theorem dX10_readStep_81 : decode cX10_readStep 81 = .ok (.aload_n 0, 1) := by decide +kernel
theorem dX10_readStep_82 : decode cX10_readStep 82 = .ok (.getfield 308, 3) := by decide +kernel
theorem dX10_readStep_85 : decode cX10_readStep 85 = .ok (.imul, 1) := by decide +kernel
theorem dX10_readStep_86 : decode cX10_readStep 86 = .ok (.iload_n 1, 1) := by decide +kernel
theorem dX10_readStep_87 : decode cX10_readStep 87 = .ok (.iastore, 1) := by decide +kernel
theorem dX10_readStep_88 : decode cX10_readStep 88 = .ok (.aload_n 0, 1) := by decide +kernel
theorem dX10_readStep_89 : decode cX10_readStep 89 = .ok (.iload_n 1, 1) := by decide +kernel
theorem dX10_readStep_90 : decode cX10_readStep 90 = .ok (.invokevirtual 350, 3) := by decide +kernel
theorem dX10_readStep_93 : decode cX10_readStep 93 = .ok (.ifCond .eq 14, 3) := by decide +kernel
theorem dX10_readStep_96 : decode cX10_readStep 96 = .ok (.aload_n 0, 1) := by decide +kernel
theorem dX10_readStep_97 : decode cX10_readStep 97 = .ok (.invokevirtual 296, 3) := by decide +kernel
theorem dX10_readStep_100 : decode cX10_readStep 100 = .ok (.ifCond .eq 7, 3) := by decide +kernel
theorem dX10_readStep_103 : decode cX10_readStep 103 = .ok (.iconst 1, 1) := by decide +kernel
theorem dX10_readStep_104 : decode cX10_readStep 104 = .ok (.goto 4, 3) := by decide +kernel
theorem dX10_readStep_107 : decode cX10_readStep 107 = .ok (.iconst 0, 1) := by decide +kernel
theorem dX10_readStep_108 : decode cX10_readStep 108 = .ok (.ireturn, 1) := by decide +kernel
theorem dX10_readScript_0 : decode cX10_readScript 0 = .ok (.aload_n 0, 1) := by decide +kernel
theorem dX10_readScript_1 : decode cX10_readScript 1 = .ok (.iconst 0, 1) := by decide +kernel
theorem dX10_readScript_2 : decode cX10_readScript 2 = .ok (.putfield 308, 3) := by decide +kernel
theorem dX10_readScript_5 : decode cX10_readScript 5 = .ok (.aload_n 0, 1) := by decide +kernel
theorem dX10_readScript_6 : decode cX10_readScript 6 = .ok (.invokevirtual 243, 3) := by decide +kernel
theorem dX10_readScript_9 : decode cX10_readScript 9 = .ok (.iconst (-1), 1) := by decide +kernel
theorem dX10_readScript_10 : decode cX10_readScript 10 = .ok (.if_icmp .eq 25, 3) := by decide +kernel
theorem dX10_readScript_13 : decode cX10_readScript 13 = .ok (.aload_n 0, 1) := by decide +kernel
theorem dX10_readScript_14 : decode cX10_readScript 14 = .ok (.invokevirtual 353, 3) := by decide +kernel
theorem dX10_readScript_17 : decode cX10_readScript 17 = .ok (.ifCond .ne 5, 3) := by decide +kernel
theorem dX10_readScript_20 : decode cX10_readScript 20 = .ok (.iconst 0, 1) := by decide +kernel
theorem dX10_readScript_21 : decode cX10_readScript 21 = .ok (.ireturn, 1) := by decide +kernel
theorem dX10_readScript_22 : decode cX10_readScript 22 = .ok (.aload_n 0, 1) := by decide +kernel
theorem dX10_readScript_23 : decode cX10_readScript 23 = .ok (.aload_n 0, 1) := by decide +kernel
theorem dX10_readScript_24 : decode cX10_readScript 24 = .ok (.getfield 308, 3) := by decide +kernel
theorem dX10_readScript_27 : decode cX10_readScript 27 = .ok (.iconst 1, 1) := by decide +kernel
theorem dX10_readScript_28 : decode cX10_readScript 28 = .ok (.iadd, 1) := by decide +kernel
theorem dX10_readScript_29 : decode cX10_readScript 29 = .ok (.putfield 308, 3) := by decide +kernel
theorem dX10_readScript_32 : decode cX10_readScript 32 = .ok (.goto (-27), 3) := by decide +kernel
theorem dX10_readScript_35 : decode cX10_readScript 35 = .ok (.iconst 1, 1) := by decide +kernel
theorem dX10_readScript_36 : decode cX10_readScript 36 = .ok (.ireturn, 1) := by decide +kernel
theorem dX10_doesStep_0 : decode cX10_doesStep 0 = .ok (.aload_n 0, 1) := by decide +kernel
theorem dX10_doesStep_1 : decode cX10_doesStep 1 = .ok (.getfield 63, 3) := by decide +kernel
theorem dX10_doesStep_4 : decode cX10_doesStep 4 = .ok (.iconst 4, 1) := by decide +kernel
theorem dX10_doesStep_5 : decode cX10_doesStep 5 = .ok (.iload_n 1, 1) := by decide +kernel
theorem dX10_doesStep_6 : decode cX10_doesStep 6 = .ok (.imul, 1) := by decide +kernel
theorem dX10_doesStep_7 : decode cX10_doesStep 7 = .ok (.iconst 1, 1) := by decide +kernel
theorem dX10_doesStep_8 : decode cX10_doesStep 8 = .ok (.iadd, 1) := by decide +kernel
theorem dX10_doesStep_9 : decode cX10_doesStep 9 = .ok (.iaload, 1) := by decide +kernel
theorem dX10_doesStep_10 : decode cX10_doesStep 10 = .ok (.istore_n 2, 1) := by decide +kernel
theorem dX10_doesStep_11 : decode cX10_doesStep 11 = .ok (.aload_n 0, 1) := by decide +kernel
theorem dX10_doesStep_12 : decode cX10_doesStep 12 = .ok (.getfield 63, 3) := by decide +kernel
theorem dX10_doesStep_15 : decode cX10_doesStep 15 = .ok (.iconst 4, 1) := by decide +kernel
theorem dX10_doesStep_16 : decode cX10_doesStep 16 = .ok (.iload_n 1, 1) := by decide +kernel
theorem dX10_doesStep_17 : decode cX10_doesStep 17 = .ok (.imul, 1) := by decide +kernel
theorem dX10_doesStep_18 : decode cX10_doesStep 18 = .ok (.iconst 2, 1) := by decide +kernel
theorem dX10_doesStep_19 : decode cX10_doesStep 19 = .ok (.iadd, 1) := by decide +kernel
theorem dX10_doesStep_20 : decode cX10_doesStep 20 = .ok (.iaload, 1) := by decide +kernel
theorem dX10_doesStep_21 : decode cX10_doesStep 21 = .ok (.istore_n 3, 1) := by decide +kernel
theorem dX10_doesStep_22 : decode cX10_doesStep 22 = .ok (.aload_n 0, 1) := by decide +kernel
theorem dX10_doesStep_23 : decode cX10_doesStep 23 = .ok (.getfield 63, 3) := by decide +kernel
theorem dX10_doesStep_26 : decode cX10_doesStep 26 = .ok (.iconst 4, 1) := by decide +kernel
theorem dX10_doesStep_27 : decode cX10_doesStep 27 = .ok (.iload_n 1, 1) := by decide +kernel
theorem dX10_doesStep_28 : decode cX10_doesStep 28 = .ok (.imul, 1) := by decide +kernel
theorem dX10_doesStep_29 : decode cX10_doesStep 29 = .ok (.iconst 3, 1) := by decide +kernel
theorem dX10_doesStep_30 : decode cX10_doesStep 30 = .ok (.iadd, 1) := by decide +kernel
theorem dX10_doesStep_31 : decode cX10_doesStep 31 = .ok (.iaload, 1) := by decide +kernel
theorem dX10_doesStep_32 : decode cX10_doesStep 32 = .ok (.istore 4, 2) := by decide +kernel
theorem dX10_doesStep_34 : decode cX10_doesStep 34 = .ok (.aload_n 0, 1) := by decide +kernel
theorem dX10_doesStep_35 : decode cX10_doesStep 35 = .ok (.getfield 63, 3) := by decide +kernel
theorem dX10_doesStep_38 : decode cX10_doesStep 38 = .ok (.iconst 4, 1) := by decide +kernel
theorem dX10_doesStep_39 : decode cX10_doesStep 39 = .ok (.iload_n 1, 1) := by decide +kernel
theorem dX10_doesStep_40 : decode cX10_doesStep 40 = .ok (.imul, 1) := by decide +kernel
theorem dX10_doesStep_41 : decode cX10_doesStep 41 = .ok (.iaload, 1) := by decide +kernel
theorem dX10_doesStep_42 : decode cX10_doesStep 42 = .ok (.tableswitch 104 0 7 #[46, 55, 62, 68, 75, 82, 91, 98], 46) := by decide +kernel
theorem dX10_doesStep_88 : decode cX10_doesStep 88 = .ok (.aload_n 0, 1) := by decide +kernel
theorem dX10_doesStep_89 : decode cX10_doesStep 89 = .ok (.iload_n 2, 1) := by decide +kernel
theorem dX10_doesStep_90 : decode cX10_doesStep 90 = .ok (.iload_n 3, 1) := by decide +kernel
theorem dX10_doesStep_91 : decode cX10_doesStep 91 = .ok (.iload 4, 2) := by decide +kernel
theorem dX10_doesStep_93 : decode cX10_doesStep 93 = .ok (.invokevirtual 356, 3) := by decide +kernel
theorem dX10_doesStep_96 : decode cX10_doesStep 96 = .ok (.ireturn, 1) := by decide +kernel
theorem dX10_doesStep_97 : decode cX10_doesStep 97 = .ok (.aload_n 0, 1) := by decide +kernel
theorem dX10_doesStep_98 : decode cX10_doesStep 98 = .ok (.iload_n 2, 1) := by decide +kernel
theorem dX10_doesStep_99 : decode cX10_doesStep 99 = .ok (.iload_n 3, 1) := by decide +kernel
theorem dX10_doesStep_100 : decode cX10_doesStep 100 = .ok (.invokevirtual 360, 3) := by decide +kernel
theorem dX10_doesStep_103 : decode cX10_doesStep 103 = .ok (.ireturn, 1) := by decide +kernel
theorem dX10_doesStep_104 : decode cX10_doesStep 104 = .ok (.aload_n 0, 1) := by decide +kernel
theorem dX10_doesStep_105 : decode cX10_doesStep 105 = .ok (.iload_n 2, 1) := by decide +kernel
theorem dX10_doesStep_106 : decode cX10_doesStep 106 = .ok (.invokevirtual 363, 3) := by decide +kernel
theorem dX10_doesStep_109 : decode cX10_doesStep 109 = .ok (.ireturn, 1) := by decide +kernel
theorem dX10_doesStep_110 : decode cX10_doesStep 110 = .ok (.aload_n 0, 1) := by decide +kernel
theorem dX10_doesStep_111 : decode cX10_doesStep 111 = .ok (.iload_n 2, 1) := by decide +kernel
theorem dX10_doesStep_112 : decode cX10_doesStep 112 = .ok (.iload_n 3, 1) := by decide +kernel
theorem dX10_doesStep_113 : decode cX10_doesStep 113 = .ok (.invokevirtual 366, 3) := by decide +kernel
theorem dX10_doesStep_116 : decode cX10_doesStep 116 = .ok (.ireturn, 1) := by decide +kernel
theorem dX10_doesStep_117 : decode cX10_doesStep 117 = .ok (.aload_n 0, 1) := by decide +kernel
theorem dX10_doesStep_118 : decode cX10_doesStep 118 = .ok (.iload_n 2, 1) := by decide +kernel
theorem dX10_doesStep_119 : decode cX10_doesStep 119 = .ok (.iload_n 3, 1) := by decide +kernel
theorem dX10_doesStep_120 : decode cX10_doesStep 120 = .ok (.invokevirtual 369, 3) := by decide +kernel
theorem dX10_doesStep_123 : decode cX10_doesStep 123 = .ok (.ireturn, 1) := by decide +kernel
theorem dX10_doesStep_124 : decode cX10_doesStep 124 = .ok (.aload_n 0, 1) := by decide +kernel
theorem dX10_doesStep_125 : decode cX10_doesStep 125 = .ok (.iload_n 2, 1) := by decide +kernel
theorem dX10_doesStep_126 : decode cX10_doesStep 126 = .ok (.iload_n 3, 1) := by decide +kernel
theorem dX10_doesStep_127 : decode cX10_doesStep 127 = .ok (.iload 4, 2) := by decide +kernel
theorem dX10_doesStep_129 : decode cX10_doesStep 129 = .ok (.invokevirtual 372, 3) := by decide +kernel
theorem dX10_doesStep_132 : decode cX10_doesStep 132 = .ok (.ireturn, 1) := by decide +kernel
theorem dX10_doesStep_133 : decode cX10_doesStep 133 = .ok (.aload_n 0, 1) := by decide +kernel
theorem dX10_doesStep_134 : decode cX10_doesStep 134 = .ok (.iload_n 2, 1) := by decide +kernel
theorem dX10_doesStep_135 : decode cX10_doesStep 135 = .ok (.iload_n 3, 1) := by decide +kernel
theorem dX10_doesStep_136 : decode cX10_doesStep 136 = .ok (.invokevirtual 375, 3) := by decide +kernel
theorem dX10_doesStep_139 : decode cX10_doesStep 139 = .ok (.ireturn, 1) := by decide +kernel
theorem dX10_doesStep_140 : decode cX10_doesStep 140 = .ok (.aload_n 0, 1) := by decide +kernel
theorem dX10_doesStep_141 : decode cX10_doesStep 141 = .ok (.iload_n 2, 1) := by decide +kernel
theorem dX10_doesStep_142 : decode cX10_doesStep 142 = .ok (.invokevirtual 378, 3) := by decide +kernel
theorem dX10_doesStep_145 : decode cX10_doesStep 145 = .ok (.ireturn, 1) := by decide +kernel
theorem dX10_doesStep_146 : decode cX10_doesStep 146 = .ok (.aload_n 0, 1) := by decide +kernel
theorem dX10_doesStep_147 : decode cX10_doesStep 147 = .ok (.iload_n 2, 1) := by decide +kernel
theorem dX10_doesStep_148 : decode cX10_doesStep 148 = .ok (.iload_n 3, 1) := by decide +kernel
theorem dX10_doesStep_149 : decode cX10_doesStep 149 = .ok (.invokevirtual 380, 3) := by decide +kernel
theorem dX10_doesStep_152 : decode cX10_doesStep 152 = .ok (.ireturn, 1) := by decide +kernel
theorem dX10_run_0 : decode cX10_run 0 = .ok (.aload_n 0, 1) := by decide +kernel
theorem dX10_run_1 : decode cX10_run 1 = .ok (.iconst 0, 1) := by decide +kernel
theorem dX10_run_2 : decode cX10_run 2 = .ok (.putfield 66, 3) := by decide +kernel
theorem dX10_run_5 : decode cX10_run 5 = .ok (.iload_n 1, 1) := by decide +kernel
theorem dX10_run_6 : decode cX10_run 6 = .ok (.iconst 0, 1) := by decide +kernel
theorem dX10_run_7 : decode cX10_run 7 = .ok (.aload_n 0, 1) := by decide +kernel
theorem dX10_run_8 : decode cX10_run 8 = .ok (.getfield 219, 3) := by decide +kernel
theorem dX10_run_11 : decode cX10_run 11 = .ok (.invokestatic 72, 3) := by decide +kernel
theorem dX10_run_14 : decode cX10_run 14 = .ok (.ifCond .ne 9, 3) := by decide +kernel
theorem dX10_run_17 : decode cX10_run 17 = .ok (.aload_n 0, 1) := by decide +kernel
theorem dX10_run_18 : decode cX10_run 18 = .ok (.iconst 1, 1) := by decide +kernel
theorem dX10_run_19 : decode cX10_run 19 = .ok (.invokevirtual 171, 3) := by decide +kernel
theorem dX10_run_22 : decode cX10_run 22 = .ok (.ireturn, 1) := by decide +kernel
theorem dX10_run_23 : decode cX10_run 23 = .ok (.aload_n 0, 1) := by decide +kernel
theorem dX10_run_24 : decode cX10_run 24 = .ok (.getfield 69, 3) := by decide +kernel
theorem dX10_run_27 : decode cX10_run 27 = .ok (.ifCond .ne 14, 3) := by decide +kernel
theorem dX10_run_30 : decode cX10_run 30 = .ok (.aload_n 0, 1) := by decide +kernel
theorem dX10_run_31 : decode cX10_run 31 = .ok (.iconst 0, 1) := by decide +kernel
theorem dX10_run_32 : decode cX10_run 32 = .ok (.putfield 219, 3) := by decide +kernel
theorem dX10_run_35 : decode cX10_run 35 = .ok (.aload_n 0, 1) := by decide +kernel
theorem dX10_run_36 : decode cX10_run 36 = .ok (.iconst 2, 1) := by decide +kernel
theorem dX10_run_37 : decode cX10_run 37 = .ok (.invokevirtual 171, 3) := by decide +kernel
theorem dX10_run_40 : decode cX10_run 40 = .ok (.ireturn, 1) := by decide +kernel
theorem dX10_run_41 : decode cX10_run 41 = .ok (.aload_n 0, 1) := by decide +kernel
theorem dX10_run_42 : decode cX10_run 42 = .ok (.iload_n 1, 1) := by decide +kernel
theorem dX10_run_43 : decode cX10_run 43 = .ok (.invokevirtual 299, 3) := by decide +kernel
theorem dX10_run_46 : decode cX10_run 46 = .ok (.aload_n 0, 1) := by decide +kernel
theorem dX10_run_47 : decode cX10_run 47 = .ok (.invokevirtual 383, 3) := by decide +kernel
theorem dX10_run_50 : decode cX10_run 50 = .ok (.ifCond .ne 9, 3) := by decide +kernel
theorem dX10_run_53 : decode cX10_run 53 = .ok (.aload_n 0, 1) := by decide +kernel
theorem dX10_run_54 : decode cX10_run 54 = .ok (.iconst 2, 1) := by decide +kernel
theorem dX10_run_55 : decode cX10_run 55 = .ok (.invokevirtual 171, 3) := by decide +kernel
theorem dX10_run_58 : decode cX10_run 58 = .ok (.ireturn, 1) := by decide +kernel
theorem dX10_run_59 : decode cX10_run 59 = .ok (.aload_n 0, 1) := by decide +kernel
theorem dX10_run_60 : decode cX10_run 60 = .ok (.iconst 0, 1) := by decide +kernel
theorem dX10_run_61 : decode cX10_run 61 = .ok (.putfield 123, 3) := by decide +kernel
theorem dX10_run_64 : decode cX10_run 64 = .ok (.iconst 0, 1) := by decide +kernel
theorem dX10_run_65 : decode cX10_run 65 = .ok (.istore_n 2, 1) := by decide +kernel
theorem dX10_run_66 : decode cX10_run 66 = .ok (.iload_n 2, 1) := by decide +kernel
theorem dX10_run_67 : decode cX10_run 67 = .ok (.aload_n 0, 1) := by decide +kernel
theorem dX10_run_68 : decode cX10_run 68 = .ok (.getfield 308, 3) := by decide +kernel
theorem dX10_run_71 : decode cX10_run 71 = .ok (.if_icmp .ge 39, 3) := by decide +kernel
theorem dX10_run_74 : decode cX10_run 74 = .ok (.aload_n 0, 1) := by decide +kernel
theorem dX10_run_75 : decode cX10_run 75 = .ok (.iload_n 2, 1) := by decide +kernel
theorem dX10_run_76 : decode cX10_run 76 = .ok (.invokevirtual 386, 3) := by decide +kernel
theorem dX10_run_79 : decode cX10_run 79 = .ok (.istore_n 3, 1) := by decide +kernel
theorem dX10_run_80 : decode cX10_run 80 = .ok (.aload_n 0, 1) := by decide +kernel
theorem dX10_run_81 : decode cX10_run 81 = .ok (.aload_n 0, 1) := by decide +kernel
theorem dX10_run_82 : decode cX10_run 82 = .ok (.getfield 66, 3) := by decide +kernel
theorem dX10_run_85 : decode cX10_run 85 = .ok (.ifCond .le 12, 3) := by decide +kernel
theorem dX10_run_88 : decode cX10_run 88 = .ok (.aload_n 0, 1) := by decide +kernel
theorem dX10_run_89 : decode cX10_run 89 = .ok (.getfield 123, 3) := by decide +kernel
theorem dX10_run_92 : decode cX10_run 92 = .ok (.iconst 1, 1) := by decide +kernel
theorem dX10_run_93 : decode cX10_run 93 = .ok (.iadd, 1) := by decide +kernel
theorem dX10_run_94 : decode cX10_run 94 = .ok (.goto 7, 3) := by decide +kernel
theorem dX10_run_97 : decode cX10_run 97 = .ok (.aload_n 0, 1) := by decide +kernel
theorem dX10_run_98 : decode cX10_run 98 = .ok (.getfield 123, 3) := by decide +kernel
theorem dX10_run_101 : decode cX10_run 101 = .ok (.putfield 123, 3) := by decide +kernel
theorem dX10_run_104 : decode cX10_run 104 = .ok (.iinc 2 1, 3) := by decide +kernel
theorem dX10_run_107 : decode cX10_run 107 = .ok (.goto (-41), 3) := by decide +kernel
theorem dX10_run_110 : decode cX10_run 110 = .ok (.aload_n 0, 1) := by decide +kernel
theorem dX10_run_111 : decode cX10_run 111 = .ok (.iconst 0, 1) := by decide +kernel
theorem dX10_run_112 : decode cX10_run 112 = .ok (.putfield 66, 3) := by decide +kernel
theorem dX10_run_115 : decode cX10_run 115 = .ok (.aload_n 0, 1) := by decide +kernel
theorem dX10_run_116 : decode cX10_run 116 = .ok (.getfield 308, 3) := by decide +kernel
theorem dX10_run_119 : decode cX10_run 119 = .ok (.aload_n 0, 1) := by decide +kernel
theorem dX10_run_120 : decode cX10_run 120 = .ok (.getfield 123, 3) := by decide +kernel
theorem dX10_run_123 : decode cX10_run 123 = .ok (.isub, 1) := by decide +kernel
theorem dX10_run_124 : decode cX10_run 124 = .ok (.ireturn, 1) := by decide +kernel
theorem dX10_clients_0 : decode cX10_clients 0 = .ok (.aload_n 0, 1) := by decide +kernel
theorem dX10_clients_1 : decode cX10_clients 1 = .ok (.aload_n 0, 1) := by decide +kernel
theorem dX10_clients_2 : decode cX10_clients 2 = .ok (.getfield 69, 3) := by decide +kernel
theorem dX10_clients_5 : decode cX10_clients 5 = .ok (.invokevirtual 228, 3) := by decide +kernel
theorem dX10_clients_8 : decode cX10_clients 8 = .ok (.ireturn, 1) := by decide +kernel
theorem dX10_blocks_0 : decode cX10_blocks 0 = .ok (.aload_n 0, 1) := by decide +kernel
theorem dX10_blocks_1 : decode cX10_blocks 1 = .ok (.aload_n 0, 1) := by decide +kernel
theorem dX10_blocks_2 : decode cX10_blocks 2 = .ok (.getfield 76, 3) := by decide +kernel
theorem dX10_blocks_5 : decode cX10_blocks 5 = .ok (.invokevirtual 228, 3) := by decide +kernel
theorem dX10_blocks_8 : decode cX10_blocks 8 = .ok (.ireturn, 1) := by decide +kernel
theorem dX10_branches_0 : decode cX10_branches 0 = .ok (.aload_n 0, 1) := by decide +kernel
theorem dX10_branches_1 : decode cX10_branches 1 = .ok (.aload_n 0, 1) := by decide +kernel
theorem dX10_branches_2 : decode cX10_branches 2 = .ok (.getfield 79, 3) := by decide +kernel
theorem dX10_branches_5 : decode cX10_branches 5 = .ok (.invokevirtual 228, 3) := by decide +kernel
theorem dX10_branches_8 : decode cX10_branches 8 = .ok (.ireturn, 1) := by decide +kernel
theorem dX10_length_0 : decode cX10_length 0 = .ok (.aload_n 0, 1) := by decide +kernel
theorem dX10_length_1 : decode cX10_length 1 = .ok (.iconst 0, 1) := by decide +kernel
theorem dX10_length_2 : decode cX10_length 2 = .ok (.putfield 66, 3) := by decide +kernel
theorem dX10_length_5 : decode cX10_length 5 = .ok (.aload_n 0, 1) := by decide +kernel
theorem dX10_length_6 : decode cX10_length 6 = .ok (.iload_n 1, 1) := by decide +kernel
theorem dX10_length_7 : decode cX10_length 7 = .ok (.invokevirtual 82, 3) := by decide +kernel
theorem dX10_length_10 : decode cX10_length 10 = .ok (.ifCond .ne 9, 3) := by decide +kernel
theorem dX10_length_13 : decode cX10_length 13 = .ok (.aload_n 0, 1) := by decide +kernel
theorem dX10_length_14 : decode cX10_length 14 = .ok (.iconst 1, 1) := by decide +kernel
theorem dX10_length_15 : decode cX10_length 15 = .ok (.invokevirtual 171, 3) := by decide +kernel
theorem dX10_length_18 : decode cX10_length 18 = .ok (.ireturn, 1) := by decide +kernel
theorem dX10_length_19 : decode cX10_length 19 = .ok (.aload_n 0, 1) := by decide +kernel
theorem dX10_length_20 : decode cX10_length 20 = .ok (.getfield 7, 3) := by decide +kernel
theorem dX10_length_23 : decode cX10_length 23 = .ok (.iload_n 1, 1) := by decide +kernel
theorem dX10_length_24 : decode cX10_length 24 = .ok (.iaload, 1) := by decide +kernel
theorem dX10_length_25 : decode cX10_length 25 = .ok (.ireturn, 1) := by decide +kernel
theorem dX10_entry_0 : decode cX10_entry 0 = .ok (.aload_n 0, 1) := by decide +kernel
theorem dX10_entry_1 : decode cX10_entry 1 = .ok (.iconst 0, 1) := by decide +kernel
theorem dX10_entry_2 : decode cX10_entry 2 = .ok (.putfield 66, 3) := by decide +kernel
theorem dX10_entry_5 : decode cX10_entry 5 = .ok (.aload_n 0, 1) := by decide +kernel
theorem dX10_entry_6 : decode cX10_entry 6 = .ok (.iload_n 1, 1) := by decide +kernel
theorem dX10_entry_7 : decode cX10_entry 7 = .ok (.iload_n 2, 1) := by decide +kernel
theorem dX10_entry_8 : decode cX10_entry 8 = .ok (.invokevirtual 199, 3) := by decide +kernel
theorem dX10_entry_11 : decode cX10_entry 11 = .ok (.ifCond .ne 9, 3) := by decide +kernel
theorem dX10_entry_14 : decode cX10_entry 14 = .ok (.aload_n 0, 1) := by decide +kernel
theorem dX10_entry_15 : decode cX10_entry 15 = .ok (.iconst 1, 1) := by decide +kernel
theorem dX10_entry_16 : decode cX10_entry 16 = .ok (.invokevirtual 171, 3) := by decide +kernel
theorem dX10_entry_19 : decode cX10_entry 19 = .ok (.ireturn, 1) := by decide +kernel
theorem dX10_entry_20 : decode cX10_entry 20 = .ok (.iload_n 1, 1) := by decide +kernel
theorem dX10_entry_21 : decode cX10_entry 21 = .ok (.iload_n 2, 1) := by decide +kernel
theorem dX10_entry_22 : decode cX10_entry 22 = .ok (.invokestatic 86, 3) := by decide +kernel
theorem dX10_entry_25 : decode cX10_entry 25 = .ok (.istore 4, 2) := by decide +kernel
theorem dX10_entry_27 : decode cX10_entry 27 = .ok (.iload_n 3, 1) := by decide +kernel
theorem dX10_entry_28 : decode cX10_entry 28 = .ok (.tableswitch 114 0 6 #[44, 52, 60, 68, 76, 84, 92], 44) := by decide +kernel
theorem dX10_entry_72 : decode cX10_entry 72 = .ok (.aload_n 0, 1) := by decide +kernel
theorem dX10_entry_73 : decode cX10_entry 73 = .ok (.getfield 13, 3) := by decide +kernel
theorem dX10_entry_76 : decode cX10_entry 76 = .ok (.iload 4, 2) := by decide +kernel
theorem dX10_entry_78 : decode cX10_entry 78 = .ok (.iaload, 1) := by decide +kernel
theorem dX10_entry_79 : decode cX10_entry 79 = .ok (.ireturn, 1) := by decide +kernel
theorem dX10_entry_80 : decode cX10_entry 80 = .ok (.aload_n 0, 1) := by decide +kernel
theorem dX10_entry_81 : decode cX10_entry 81 = .ok (.getfield 16, 3) := by decide +kernel
theorem dX10_entry_84 : decode cX10_entry 84 = .ok (.iload 4, 2) := by decide +kernel
theorem dX10_entry_86 : decode cX10_entry 86 = .ok (.iaload, 1) := by decide +kernel
theorem dX10_entry_87 : decode cX10_entry 87 = .ok (.ireturn, 1) := by decide +kernel
theorem dX10_entry_88 : decode cX10_entry 88 = .ok (.aload_n 0, 1) := by decide +kernel
theorem dX10_entry_89 : decode cX10_entry 89 = .ok (.getfield 19, 3) := by decide +kernel
theorem dX10_entry_92 : decode cX10_entry 92 = .ok (.iload 4, 2) := by decide +kernel
theorem dX10_entry_94 : decode cX10_entry 94 = .ok (.iaload, 1) := by decide +kernel
theorem dX10_entry_95 : decode cX10_entry 95 = .ok (.ireturn, 1) := by decide +kernel
theorem dX10_entry_96 : decode cX10_entry 96 = .ok (.aload_n 0, 1) := by decide +kernel
theorem dX10_entry_97 : decode cX10_entry 97 = .ok (.getfield 22, 3) := by decide +kernel
theorem dX10_entry_100 : decode cX10_entry 100 = .ok (.iload 4, 2) := by decide +kernel
theorem dX10_entry_102 : decode cX10_entry 102 = .ok (.iaload, 1) := by decide +kernel
theorem dX10_entry_103 : decode cX10_entry 103 = .ok (.ireturn, 1) := by decide +kernel
theorem dX10_entry_104 : decode cX10_entry 104 = .ok (.aload_n 0, 1) := by decide +kernel
theorem dX10_entry_105 : decode cX10_entry 105 = .ok (.getfield 28, 3) := by decide +kernel
theorem dX10_entry_108 : decode cX10_entry 108 = .ok (.iload 4, 2) := by decide +kernel
theorem dX10_entry_110 : decode cX10_entry 110 = .ok (.iaload, 1) := by decide +kernel
theorem dX10_entry_111 : decode cX10_entry 111 = .ok (.ireturn, 1) := by decide +kernel
theorem dX10_entry_112 : decode cX10_entry 112 = .ok (.aload_n 0, 1) := by decide +kernel
theorem dX10_entry_113 : decode cX10_entry 113 = .ok (.getfield 25, 3) := by decide +kernel
theorem dX10_entry_116 : decode cX10_entry 116 = .ok (.iload 4, 2) := by decide +kernel
theorem dX10_entry_118 : decode cX10_entry 118 = .ok (.iaload, 1) := by decide +kernel
theorem dX10_entry_119 : decode cX10_entry 119 = .ok (.ireturn, 1) := by decide +kernel
theorem dX10_entry_120 : decode cX10_entry 120 = .ok (.aload_n 0, 1) := by decide +kernel
theorem dX10_entry_121 : decode cX10_entry 121 = .ok (.iload_n 1, 1) := by decide +kernel
theorem dX10_entry_122 : decode cX10_entry 122 = .ok (.iload_n 2, 1) := by decide +kernel
theorem dX10_entry_123 : decode cX10_entry 123 = .ok (.invokevirtual 120, 3) := by decide +kernel
theorem dX10_entry_126 : decode cX10_entry 126 = .ok (.aload_n 0, 1) := by decide +kernel
theorem dX10_entry_127 : decode cX10_entry 127 = .ok (.getfield 28, 3) := by decide +kernel
theorem dX10_entry_130 : decode cX10_entry 130 = .ok (.iload 4, 2) := by decide +kernel
theorem dX10_entry_132 : decode cX10_entry 132 = .ok (.iaload, 1) := by decide +kernel
theorem dX10_entry_133 : decode cX10_entry 133 = .ok (.if_icmp .ne 7, 3) := by decide +kernel
theorem dX10_entry_136 : decode cX10_entry 136 = .ok (.iconst 1, 1) := by decide +kernel
theorem dX10_entry_137 : decode cX10_entry 137 = .ok (.goto 4, 3) := by decide +kernel
theorem dX10_entry_140 : decode cX10_entry 140 = .ok (.iconst 0, 1) := by decide +kernel
theorem dX10_entry_141 : decode cX10_entry 141 = .ok (.ireturn, 1) := by decide +kernel
theorem dX10_entry_142 : decode cX10_entry 142 = .ok (.aload_n 0, 1) := by decide +kernel
theorem dX10_entry_143 : decode cX10_entry 143 = .ok (.iconst 2, 1) := by decide +kernel
theorem dX10_entry_144 : decode cX10_entry 144 = .ok (.invokevirtual 171, 3) := by decide +kernel
theorem dX10_entry_147 : decode cX10_entry 147 = .ok (.ireturn, 1) := by decide +kernel
theorem dX10_value_0 : decode cX10_value 0 = .ok (.aload_n 0, 1) := by decide +kernel
theorem dX10_value_1 : decode cX10_value 1 = .ok (.iconst 0, 1) := by decide +kernel
theorem dX10_value_2 : decode cX10_value 2 = .ok (.putfield 66, 3) := by decide +kernel
theorem dX10_value_5 : decode cX10_value 5 = .ok (.aload_n 0, 1) := by decide +kernel
theorem dX10_value_6 : decode cX10_value 6 = .ok (.iload_n 1, 1) := by decide +kernel
theorem dX10_value_7 : decode cX10_value 7 = .ok (.invokevirtual 82, 3) := by decide +kernel
theorem dX10_value_10 : decode cX10_value 10 = .ok (.ifCond .eq 11, 3) := by decide +kernel
theorem dX10_value_13 : decode cX10_value 13 = .ok (.aload_n 0, 1) := by decide +kernel
theorem dX10_value_14 : decode cX10_value 14 = .ok (.iload_n 2, 1) := by decide +kernel
theorem dX10_value_15 : decode cX10_value 15 = .ok (.invokevirtual 168, 3) := by decide +kernel
theorem dX10_value_18 : decode cX10_value 18 = .ok (.ifCond .ne 9, 3) := by decide +kernel
theorem dX10_value_21 : decode cX10_value 21 = .ok (.aload_n 0, 1) := by decide +kernel
theorem dX10_value_22 : decode cX10_value 22 = .ok (.iconst 1, 1) := by decide +kernel
theorem dX10_value_23 : decode cX10_value 23 = .ok (.invokevirtual 171, 3) := by decide +kernel
theorem dX10_value_26 : decode cX10_value 26 = .ok (.ireturn, 1) := by decide +kernel
theorem dX10_value_27 : decode cX10_value 27 = .ok (.aload_n 0, 1) := by decide +kernel
theorem dX10_value_28 : decode cX10_value 28 = .ok (.iload_n 1, 1) := by decide +kernel
theorem dX10_value_29 : decode cX10_value 29 = .ok (.iload_n 2, 1) := by decide +kernel
theorem dX10_value_30 : decode cX10_value 30 = .ok (.invokevirtual 179, 3) := by decide +kernel
theorem dX10_value_33 : decode cX10_value 33 = .ok (.ireturn, 1) := by decide +kernel
theorem dX10_branchOf_0 : decode cX10_branchOf 0 = .ok (.aload_n 0, 1) := by decide +kernel
theorem dX10_branchOf_1 : decode cX10_branchOf 1 = .ok (.iconst 0, 1) := by decide +kernel
theorem dX10_branchOf_2 : decode cX10_branchOf 2 = .ok (.putfield 66, 3) := by decide +kernel
theorem dX10_branchOf_5 : decode cX10_branchOf 5 = .ok (.aload_n 0, 1) := by decide +kernel
theorem dX10_branchOf_6 : decode cX10_branchOf 6 = .ok (.iload_n 1, 1) := by decide +kernel
theorem dX10_branchOf_7 : decode cX10_branchOf 7 = .ok (.invokevirtual 165, 3) := by decide +kernel
theorem dX10_branchOf_10 : decode cX10_branchOf 10 = .ok (.ifCond .ne 9, 3) := by decide +kernel
theorem dX10_branchOf_13 : decode cX10_branchOf 13 = .ok (.aload_n 0, 1) := by decide +kernel
theorem dX10_branchOf_14 : decode cX10_branchOf 14 = .ok (.iconst 1, 1) := by decide +kernel
theorem dX10_branchOf_15 : decode cX10_branchOf 15 = .ok (.invokevirtual 171, 3) := by decide +kernel
theorem dX10_branchOf_18 : decode cX10_branchOf 18 = .ok (.ireturn, 1) := by decide +kernel
theorem dX10_branchOf_19 : decode cX10_branchOf 19 = .ok (.aload_n 0, 1) := by decide +kernel
theorem dX10_branchOf_20 : decode cX10_branchOf 20 = .ok (.getfield 31, 3) := by decide +kernel
theorem dX10_branchOf_23 : decode cX10_branchOf 23 = .ok (.iload_n 1, 1) := by decide +kernel
theorem dX10_branchOf_24 : decode cX10_branchOf 24 = .ok (.iaload, 1) := by decide +kernel
theorem dX10_branchOf_25 : decode cX10_branchOf 25 = .ok (.ireturn, 1) := by decide +kernel
theorem dX10_commonLength_0 : decode cX10_commonLength 0 = .ok (.aload_n 0, 1) := by decide +kernel
theorem dX10_commonLength_1 : decode cX10_commonLength 1 = .ok (.iconst 0, 1) := by decide +kernel
theorem dX10_commonLength_2 : decode cX10_commonLength 2 = .ok (.putfield 66, 3) := by decide +kernel
theorem dX10_commonLength_5 : decode cX10_commonLength 5 = .ok (.aload_n 0, 1) := by decide +kernel
theorem dX10_commonLength_6 : decode cX10_commonLength 6 = .ok (.iload_n 1, 1) := by decide +kernel
theorem dX10_commonLength_7 : decode cX10_commonLength 7 = .ok (.invokevirtual 82, 3) := by decide +kernel
theorem dX10_commonLength_10 : decode cX10_commonLength 10 = .ok (.ifCond .eq 11, 3) := by decide +kernel
theorem dX10_commonLength_13 : decode cX10_commonLength 13 = .ok (.aload_n 0, 1) := by decide +kernel
theorem dX10_commonLength_14 : decode cX10_commonLength 14 = .ok (.iload_n 2, 1) := by decide +kernel
theorem dX10_commonLength_15 : decode cX10_commonLength 15 = .ok (.invokevirtual 82, 3) := by decide +kernel
theorem dX10_commonLength_18 : decode cX10_commonLength 18 = .ok (.ifCond .ne 9, 3) := by decide +kernel
theorem dX10_commonLength_21 : decode cX10_commonLength 21 = .ok (.aload_n 0, 1) := by decide +kernel
theorem dX10_commonLength_22 : decode cX10_commonLength 22 = .ok (.iconst 1, 1) := by decide +kernel
theorem dX10_commonLength_23 : decode cX10_commonLength 23 = .ok (.invokevirtual 171, 3) := by decide +kernel
theorem dX10_commonLength_26 : decode cX10_commonLength 26 = .ok (.ireturn, 1) := by decide +kernel
theorem dX10_commonLength_27 : decode cX10_commonLength 27 = .ok (.aload_n 0, 1) := by decide +kernel
theorem dX10_commonLength_28 : decode cX10_commonLength 28 = .ok (.iload_n 1, 1) := by decide +kernel
theorem dX10_commonLength_29 : decode cX10_commonLength 29 = .ok (.iload_n 2, 1) := by decide +kernel
theorem dX10_commonLength_30 : decode cX10_commonLength 30 = .ok (.invokevirtual 202, 3) := by decide +kernel
theorem dX10_commonLength_33 : decode cX10_commonLength 33 = .ok (.ireturn, 1) := by decide +kernel
theorem dX10_conflicts_0 : decode cX10_conflicts 0 = .ok (.aload_n 0, 1) := by decide +kernel
theorem dX10_conflicts_1 : decode cX10_conflicts 1 = .ok (.iconst 0, 1) := by decide +kernel
theorem dX10_conflicts_2 : decode cX10_conflicts 2 = .ok (.putfield 66, 3) := by decide +kernel
theorem dX10_conflicts_5 : decode cX10_conflicts 5 = .ok (.aload_n 0, 1) := by decide +kernel
theorem dX10_conflicts_6 : decode cX10_conflicts 6 = .ok (.iload_n 1, 1) := by decide +kernel
theorem dX10_conflicts_7 : decode cX10_conflicts 7 = .ok (.invokevirtual 82, 3) := by decide +kernel
theorem dX10_conflicts_10 : decode cX10_conflicts 10 = .ok (.ifCond .eq 11, 3) := by decide +kernel
theorem dX10_conflicts_13 : decode cX10_conflicts 13 = .ok (.aload_n 0, 1) := by decide +kernel
theorem dX10_conflicts_14 : decode cX10_conflicts 14 = .ok (.iload_n 2, 1) := by decide +kernel
theorem dX10_conflicts_15 : decode cX10_conflicts 15 = .ok (.invokevirtual 82, 3) := by decide +kernel
theorem dX10_conflicts_18 : decode cX10_conflicts 18 = .ok (.ifCond .ne 9, 3) := by decide +kernel
theorem dX10_conflicts_21 : decode cX10_conflicts 21 = .ok (.aload_n 0, 1) := by decide +kernel
theorem dX10_conflicts_22 : decode cX10_conflicts 22 = .ok (.iconst 1, 1) := by decide +kernel
theorem dX10_conflicts_23 : decode cX10_conflicts 23 = .ok (.invokevirtual 171, 3) := by decide +kernel
theorem dX10_conflicts_26 : decode cX10_conflicts 26 = .ok (.ireturn, 1) := by decide +kernel
theorem dX10_conflicts_27 : decode cX10_conflicts 27 = .ok (.aload_n 0, 1) := by decide +kernel
theorem dX10_conflicts_28 : decode cX10_conflicts 28 = .ok (.iload_n 1, 1) := by decide +kernel
theorem dX10_conflicts_29 : decode cX10_conflicts 29 = .ok (.iload_n 2, 1) := by decide +kernel
theorem dX10_conflicts_30 : decode cX10_conflicts 30 = .ok (.invokevirtual 209, 3) := by decide +kernel
theorem dX10_conflicts_33 : decode cX10_conflicts 33 = .ok (.ireturn, 1) := by decide +kernel
theorem dX10_receipt_0 : decode cX10_receipt 0 = .ok (.aload_n 0, 1) := by decide +kernel
theorem dX10_receipt_1 : decode cX10_receipt 1 = .ok (.iconst 0, 1) := by decide +kernel
theorem dX10_receipt_2 : decode cX10_receipt 2 = .ok (.putfield 66, 3) := by decide +kernel
theorem dX10_receipt_5 : decode cX10_receipt 5 = .ok (.aload_n 0, 1) := by decide +kernel
theorem dX10_receipt_6 : decode cX10_receipt 6 = .ok (.iload_n 1, 1) := by decide +kernel
theorem dX10_receipt_7 : decode cX10_receipt 7 = .ok (.invokevirtual 165, 3) := by decide +kernel
theorem dX10_receipt_10 : decode cX10_receipt 10 = .ok (.ifCond .ne 9, 3) := by decide +kernel
theorem dX10_receipt_13 : decode cX10_receipt 13 = .ok (.aload_n 0, 1) := by decide +kernel
theorem dX10_receipt_14 : decode cX10_receipt 14 = .ok (.iconst 1, 1) := by decide +kernel
theorem dX10_receipt_15 : decode cX10_receipt 15 = .ok (.invokevirtual 171, 3) := by decide +kernel
theorem dX10_receipt_18 : decode cX10_receipt 18 = .ok (.ireturn, 1) := by decide +kernel
theorem dX10_receipt_19 : decode cX10_receipt 19 = .ok (.iload_n 2, 1) := by decide +kernel
theorem dX10_receipt_20 : decode cX10_receipt 20 = .ok (.tableswitch 57 0 2 #[28, 35, 41], 28) := by decide +kernel
theorem dX10_receipt_48 : decode cX10_receipt 48 = .ok (.aload_n 0, 1) := by decide +kernel
theorem dX10_receipt_49 : decode cX10_receipt 49 = .ok (.getfield 34, 3) := by decide +kernel
theorem dX10_receipt_52 : decode cX10_receipt 52 = .ok (.iload_n 1, 1) := by decide +kernel
theorem dX10_receipt_53 : decode cX10_receipt 53 = .ok (.iaload, 1) := by decide +kernel
theorem dX10_receipt_54 : decode cX10_receipt 54 = .ok (.ireturn, 1) := by decide +kernel
theorem dX10_receipt_55 : decode cX10_receipt 55 = .ok (.aload_n 0, 1) := by decide +kernel
theorem dX10_receipt_56 : decode cX10_receipt 56 = .ok (.iload_n 1, 1) := by decide +kernel
theorem dX10_receipt_57 : decode cX10_receipt 57 = .ok (.invokevirtual 139, 3) := by decide +kernel
theorem dX10_receipt_60 : decode cX10_receipt 60 = .ok (.ireturn, 1) := by decide +kernel
theorem dX10_receipt_61 : decode cX10_receipt 61 = .ok (.iload_n 1, 1) := by decide +kernel
theorem dX10_receipt_62 : decode cX10_receipt 62 = .ok (.aload_n 0, 1) := by decide +kernel
theorem dX10_receipt_63 : decode cX10_receipt 63 = .ok (.getfield 34, 3) := by decide +kernel
theorem dX10_receipt_66 : decode cX10_receipt 66 = .ok (.iload_n 1, 1) := by decide +kernel
theorem dX10_receipt_67 : decode cX10_receipt 67 = .ok (.iaload, 1) := by decide +kernel
theorem dX10_receipt_68 : decode cX10_receipt 68 = .ok (.aload_n 0, 1) := by decide +kernel
theorem dX10_receipt_69 : decode cX10_receipt 69 = .ok (.iload_n 1, 1) := by decide +kernel
theorem dX10_receipt_70 : decode cX10_receipt 70 = .ok (.invokevirtual 139, 3) := by decide +kernel
theorem dX10_receipt_73 : decode cX10_receipt 73 = .ok (.invokestatic 389, 3) := by decide +kernel
theorem dX10_receipt_76 : decode cX10_receipt 76 = .ok (.ireturn, 1) := by decide +kernel
theorem dX10_receipt_77 : decode cX10_receipt 77 = .ok (.aload_n 0, 1) := by decide +kernel
theorem dX10_receipt_78 : decode cX10_receipt 78 = .ok (.iconst 2, 1) := by decide +kernel
theorem dX10_receipt_79 : decode cX10_receipt 79 = .ok (.invokevirtual 171, 3) := by decide +kernel
theorem dX10_receipt_82 : decode cX10_receipt 82 = .ok (.ireturn, 1) := by decide +kernel
theorem dX10_isSigned_0 : decode cX10_isSigned 0 = .ok (.aload_n 0, 1) := by decide +kernel
theorem dX10_isSigned_1 : decode cX10_isSigned 1 = .ok (.iconst 0, 1) := by decide +kernel
theorem dX10_isSigned_2 : decode cX10_isSigned 2 = .ok (.putfield 66, 3) := by decide +kernel
theorem dX10_isSigned_5 : decode cX10_isSigned 5 = .ok (.aload_n 0, 1) := by decide +kernel
theorem dX10_isSigned_6 : decode cX10_isSigned 6 = .ok (.iload_n 1, 1) := by decide +kernel
theorem dX10_isSigned_7 : decode cX10_isSigned 7 = .ok (.invokevirtual 165, 3) := by decide +kernel
theorem dX10_isSigned_10 : decode cX10_isSigned 10 = .ok (.ifCond .eq 25, 3) := by decide +kernel
theorem dX10_isSigned_13 : decode cX10_isSigned 13 = .ok (.iload_n 2, 1) := by decide +kernel
theorem dX10_isSigned_14 : decode cX10_isSigned 14 = .ok (.iconst 0, 1) := by decide +kernel
theorem dX10_isSigned_15 : decode cX10_isSigned 15 = .ok (.sipush 200, 3) := by decide +kernel
theorem dX10_isSigned_18 : decode cX10_isSigned 18 = .ok (.invokestatic 72, 3) := by decide +kernel
theorem dX10_isSigned_21 : decode cX10_isSigned 21 = .ok (.ifCond .eq 14, 3) := by decide +kernel
theorem dX10_isSigned_24 : decode cX10_isSigned 24 = .ok (.iload_n 3, 1) := by decide +kernel
theorem dX10_isSigned_25 : decode cX10_isSigned 25 = .ok (.iconst 0, 1) := by decide +kernel
theorem dX10_isSigned_26 : decode cX10_isSigned 26 = .ok (.ldc_w 392, 3) := by decide +kernel
theorem dX10_isSigned_29 : decode cX10_isSigned 29 = .ok (.invokestatic 72, 3) := by decide +kernel
theorem dX10_isSigned_32 : decode cX10_isSigned 32 = .ok (.ifCond .ne 5, 3) := by decide +kernel
theorem dX10_isSigned_35 : decode cX10_isSigned 35 = .ok (.iconst 0, 1) := by decide +kernel
theorem dX10_isSigned_36 : decode cX10_isSigned 36 = .ok (.ireturn, 1) := by decide +kernel
theorem dX10_isSigned_37 : decode cX10_isSigned 37 = .ok (.iload_n 1, 1) := by decide +kernel
theorem dX10_isSigned_38 : decode cX10_isSigned 38 = .ok (.iload_n 2, 1) := by decide +kernel
theorem dX10_isSigned_39 : decode cX10_isSigned 39 = .ok (.iload_n 3, 1) := by decide +kernel
theorem dX10_isSigned_40 : decode cX10_isSigned 40 = .ok (.invokestatic 389, 3) := by decide +kernel
theorem dX10_isSigned_43 : decode cX10_isSigned 43 = .ok (.iload 4, 2) := by decide +kernel
theorem dX10_isSigned_45 : decode cX10_isSigned 45 = .ok (.if_icmp .ne 7, 3) := by decide +kernel
theorem dX10_isSigned_48 : decode cX10_isSigned 48 = .ok (.iconst 1, 1) := by decide +kernel
theorem dX10_isSigned_49 : decode cX10_isSigned 49 = .ok (.goto 4, 3) := by decide +kernel
theorem dX10_isSigned_52 : decode cX10_isSigned 52 = .ok (.iconst 0, 1) := by decide +kernel
theorem dX10_isSigned_53 : decode cX10_isSigned 53 = .ok (.ireturn, 1) := by decide +kernel
theorem dX10_hashAt_0 : decode cX10_hashAt 0 = .ok (.aload_n 0, 1) := by decide +kernel
theorem dX10_hashAt_1 : decode cX10_hashAt 1 = .ok (.iconst 0, 1) := by decide +kernel
theorem dX10_hashAt_2 : decode cX10_hashAt 2 = .ok (.putfield 66, 3) := by decide +kernel
theorem dX10_hashAt_5 : decode cX10_hashAt 5 = .ok (.aload_n 0, 1) := by decide +kernel
theorem dX10_hashAt_6 : decode cX10_hashAt 6 = .ok (.iload_n 1, 1) := by decide +kernel
theorem dX10_hashAt_7 : decode cX10_hashAt 7 = .ok (.invokevirtual 165, 3) := by decide +kernel
theorem dX10_hashAt_10 : decode cX10_hashAt 10 = .ok (.ifCond .eq 17, 3) := by decide +kernel
theorem dX10_hashAt_13 : decode cX10_hashAt 13 = .ok (.iload_n 2, 1) := by decide +kernel
theorem dX10_hashAt_14 : decode cX10_hashAt 14 = .ok (.iconst 0, 1) := by decide +kernel
theorem dX10_hashAt_15 : decode cX10_hashAt 15 = .ok (.aload_n 0, 1) := by decide +kernel
theorem dX10_hashAt_16 : decode cX10_hashAt 16 = .ok (.getfield 34, 3) := by decide +kernel
theorem dX10_hashAt_19 : decode cX10_hashAt 19 = .ok (.iload_n 1, 1) := by decide +kernel
theorem dX10_hashAt_20 : decode cX10_hashAt 20 = .ok (.iaload, 1) := by decide +kernel
theorem dX10_hashAt_21 : decode cX10_hashAt 21 = .ok (.invokestatic 72, 3) := by decide +kernel
theorem dX10_hashAt_24 : decode cX10_hashAt 24 = .ok (.ifCond .ne 9, 3) := by decide +kernel
theorem dX10_hashAt_27 : decode cX10_hashAt 27 = .ok (.aload_n 0, 1) := by decide +kernel
theorem dX10_hashAt_28 : decode cX10_hashAt 28 = .ok (.iconst 1, 1) := by decide +kernel
theorem dX10_hashAt_29 : decode cX10_hashAt 29 = .ok (.invokevirtual 171, 3) := by decide +kernel
theorem dX10_hashAt_32 : decode cX10_hashAt 32 = .ok (.ireturn, 1) := by decide +kernel
theorem dX10_hashAt_33 : decode cX10_hashAt 33 = .ok (.aload_n 0, 1) := by decide +kernel
theorem dX10_hashAt_34 : decode cX10_hashAt 34 = .ok (.iload_n 1, 1) := by decide +kernel
theorem dX10_hashAt_35 : decode cX10_hashAt 35 = .ok (.iload_n 2, 1) := by decide +kernel
theorem dX10_hashAt_36 : decode cX10_hashAt 36 = .ok (.invokevirtual 90, 3) := by decide +kernel
theorem dX10_hashAt_39 : decode cX10_hashAt 39 = .ok (.ireturn, 1) := by decide +kernel
theorem dX10_number_0 : decode cX10_number 0 = .ok (.aload_n 0, 1) := by decide +kernel
theorem dX10_number_1 : decode cX10_number 1 = .ok (.getfield 40, 3) := by decide +kernel
theorem dX10_number_4 : decode cX10_number 4 = .ok (.bipush 6, 2) := by decide +kernel
theorem dX10_number_6 : decode cX10_number 6 = .ok (.iload_n 1, 1) := by decide +kernel
theorem dX10_number_7 : decode cX10_number 7 = .ok (.imul, 1) := by decide +kernel
theorem dX10_number_8 : decode cX10_number 8 = .ok (.iload_n 2, 1) := by decide +kernel
theorem dX10_number_9 : decode cX10_number 9 = .ok (.iadd, 1) := by decide +kernel
theorem dX10_number_10 : decode cX10_number 10 = .ok (.iaload, 1) := by decide +kernel
theorem dX10_number_11 : decode cX10_number 11 = .ok (.ireturn, 1) := by decide +kernel
theorem dX10_vector_0 : decode cX10_vector 0 = .ok (.aload_n 0, 1) := by decide +kernel
theorem dX10_vector_1 : decode cX10_vector 1 = .ok (.iconst 0, 1) := by decide +kernel
theorem dX10_vector_2 : decode cX10_vector 2 = .ok (.putfield 66, 3) := by decide +kernel
theorem dX10_vector_5 : decode cX10_vector 5 = .ok (.aload_n 0, 1) := by decide +kernel
theorem dX10_vector_6 : decode cX10_vector 6 = .ok (.iload_n 1, 1) := by decide +kernel
theorem dX10_vector_7 : decode cX10_vector 7 = .ok (.invokevirtual 165, 3) := by decide +kernel
theorem dX10_vector_10 : decode cX10_vector 10 = .ok (.ifCond .eq 11, 3) := by decide +kernel
theorem dX10_vector_13 : decode cX10_vector 13 = .ok (.aload_n 0, 1) := by decide +kernel
theorem dX10_vector_14 : decode cX10_vector 14 = .ok (.iload_n 2, 1) := by decide +kernel
theorem dX10_vector_15 : decode cX10_vector 15 = .ok (.invokevirtual 165, 3) := by decide +kernel
theorem dX10_vector_18 : decode cX10_vector 18 = .ok (.ifCond .ne 9, 3) := by decide +kernel
theorem dX10_vector_21 : decode cX10_vector 21 = .ok (.aload_n 0, 1) := by decide +kernel
theorem dX10_vector_22 : decode cX10_vector 22 = .ok (.iconst 1, 1) := by decide +kernel
theorem dX10_vector_23 : decode cX10_vector 23 = .ok (.invokevirtual 171, 3) := by decide +kernel
theorem dX10_vector_26 : decode cX10_vector 26 = .ok (.ireturn, 1) := by decide +kernel
theorem dX10_vector_27 : decode cX10_vector 27 = .ok (.aload_n 0, 1) := by decide +kernel
theorem dX10_vector_28 : decode cX10_vector 28 = .ok (.iload_n 1, 1) := by decide +kernel
theorem dX10_vector_29 : decode cX10_vector 29 = .ok (.iload_n 2, 1) := by decide +kernel
theorem dX10_vector_30 : decode cX10_vector 30 = .ok (.invokevirtual 393, 3) := by decide +kernel
theorem dX10_vector_33 : decode cX10_vector 33 = .ok (.ireturn, 1) := by decide +kernel
theorem dX10_order_0 : decode cX10_order 0 = .ok (.aload_n 0, 1) := by decide +kernel
theorem dX10_order_1 : decode cX10_order 1 = .ok (.iconst 0, 1) := by decide +kernel
theorem dX10_order_2 : decode cX10_order 2 = .ok (.putfield 66, 3) := by decide +kernel
theorem dX10_order_5 : decode cX10_order 5 = .ok (.aload_n 0, 1) := by decide +kernel
theorem dX10_order_6 : decode cX10_order 6 = .ok (.iload_n 1, 1) := by decide +kernel
theorem dX10_order_7 : decode cX10_order 7 = .ok (.invokevirtual 165, 3) := by decide +kernel
theorem dX10_order_10 : decode cX10_order 10 = .ok (.ifCond .eq 11, 3) := by decide +kernel
theorem dX10_order_13 : decode cX10_order 13 = .ok (.aload_n 0, 1) := by decide +kernel
theorem dX10_order_14 : decode cX10_order 14 = .ok (.iload_n 2, 1) := by decide +kernel
theorem dX10_order_15 : decode cX10_order 15 = .ok (.invokevirtual 165, 3) := by decide +kernel
theorem dX10_order_18 : decode cX10_order 18 = .ok (.ifCond .ne 9, 3) := by decide +kernel
theorem dX10_order_21 : decode cX10_order 21 = .ok (.aload_n 0, 1) := by decide +kernel
theorem dX10_order_22 : decode cX10_order 22 = .ok (.iconst 1, 1) := by decide +kernel
theorem dX10_order_23 : decode cX10_order 23 = .ok (.invokevirtual 171, 3) := by decide +kernel
theorem dX10_order_26 : decode cX10_order 26 = .ok (.ireturn, 1) := by decide +kernel
theorem dX10_order_27 : decode cX10_order 27 = .ok (.iconst 0, 1) := by decide +kernel
theorem dX10_order_28 : decode cX10_order 28 = .ok (.istore_n 3, 1) := by decide +kernel
theorem dX10_order_29 : decode cX10_order 29 = .ok (.iconst 0, 1) := by decide +kernel
theorem dX10_order_30 : decode cX10_order 30 = .ok (.istore 4, 2) := by decide +kernel
theorem dX10_order_32 : decode cX10_order 32 = .ok (.iconst 0, 1) := by decide +kernel
theorem dX10_order_33 : decode cX10_order 33 = .ok (.istore 5, 2) := by decide +kernel
theorem dX10_order_35 : decode cX10_order 35 = .ok (.iload 5, 2) := by decide +kernel
theorem dX10_order_37 : decode cX10_order 37 = .ok (.aload_n 0, 1) := by decide +kernel
theorem dX10_order_38 : decode cX10_order 38 = .ok (.getfield 69, 3) := by decide +kernel
theorem dX10_order_41 : decode cX10_order 41 = .ok (.if_icmp .ge 65, 3) := by decide +kernel
theorem dX10_order_44 : decode cX10_order 44 = .ok (.iload_n 3, 1) := by decide +kernel
theorem dX10_order_45 : decode cX10_order 45 = .ok (.ifCond .ne 20, 3) := by decide +kernel
theorem dX10_order_48 : decode cX10_order 48 = .ok (.aload_n 0, 1) := by decide +kernel
theorem dX10_order_49 : decode cX10_order 49 = .ok (.iload_n 1, 1) := by decide +kernel
theorem dX10_order_50 : decode cX10_order 50 = .ok (.iload 5, 2) := by decide +kernel
theorem dX10_order_52 : decode cX10_order 52 = .ok (.invokevirtual 393, 3) := by decide +kernel
theorem dX10_order_55 : decode cX10_order 55 = .ok (.aload_n 0, 1) := by decide +kernel
theorem dX10_order_56 : decode cX10_order 56 = .ok (.iload_n 2, 1) := by decide +kernel
theorem dX10_order_57 : decode cX10_order 57 = .ok (.iload 5, 2) := by decide +kernel
theorem dX10_order_59 : decode cX10_order 59 = .ok (.invokevirtual 393, 3) := by decide +kernel
theorem dX10_order_62 : decode cX10_order 62 = .ok (.if_icmp .le 7, 3) := by decide +kernel
theorem dX10_order_65 : decode cX10_order 65 = .ok (.iconst 1, 1) := by decide +kernel
theorem dX10_order_66 : decode cX10_order 66 = .ok (.goto 4, 3) := by decide +kernel
theorem dX10_order_69 : decode cX10_order 69 = .ok (.iconst 0, 1) := by decide +kernel
theorem dX10_order_70 : decode cX10_order 70 = .ok (.istore_n 3, 1) := by decide +kernel
theorem dX10_order_71 : decode cX10_order 71 = .ok (.iload 4, 2) := by decide +kernel
theorem dX10_order_73 : decode cX10_order 73 = .ok (.ifCond .ne 20, 3) := by decide +kernel
theorem dX10_order_76 : decode cX10_order 76 = .ok (.aload_n 0, 1) := by decide +kernel
theorem dX10_order_77 : decode cX10_order 77 = .ok (.iload_n 2, 1) := by decide +kernel
theorem dX10_order_78 : decode cX10_order 78 = .ok (.iload 5, 2) := by decide +kernel
theorem dX10_order_80 : decode cX10_order 80 = .ok (.invokevirtual 393, 3) := by decide +kernel
theorem dX10_order_83 : decode cX10_order 83 = .ok (.aload_n 0, 1) := by decide +kernel
theorem dX10_order_84 : decode cX10_order 84 = .ok (.iload_n 1, 1) := by decide +kernel
theorem dX10_order_85 : decode cX10_order 85 = .ok (.iload 5, 2) := by decide +kernel
theorem dX10_order_87 : decode cX10_order 87 = .ok (.invokevirtual 393, 3) := by decide +kernel
theorem dX10_order_90 : decode cX10_order 90 = .ok (.if_icmp .le 7, 3) := by decide +kernel
theorem dX10_order_93 : decode cX10_order 93 = .ok (.iconst 1, 1) := by decide +kernel
theorem dX10_order_94 : decode cX10_order 94 = .ok (.goto 4, 3) := by decide +kernel
theorem dX10_order_97 : decode cX10_order 97 = .ok (.iconst 0, 1) := by decide +kernel
theorem dX10_order_98 : decode cX10_order 98 = .ok (.istore 4, 2) := by decide +kernel
theorem dX10_order_100 : decode cX10_order 100 = .ok (.iinc 5 1, 3) := by decide +kernel
theorem dX10_order_103 : decode cX10_order 103 = .ok (.goto (-68), 3) := by decide +kernel
theorem dX10_order_106 : decode cX10_order 106 = .ok (.iload_n 3, 1) := by decide +kernel
theorem dX10_order_107 : decode cX10_order 107 = .ok (.ifCond .eq 14, 3) := by decide +kernel
theorem dX10_order_110 : decode cX10_order 110 = .ok (.iload 4, 2) := by decide +kernel
theorem dX10_order_112 : decode cX10_order 112 = .ok (.ifCond .eq 7, 3) := by decide +kernel
theorem dX10_order_115 : decode cX10_order 115 = .ok (.iconst 3, 1) := by decide +kernel
theorem dX10_order_116 : decode cX10_order 116 = .ok (.goto 4, 3) := by decide +kernel
theorem dX10_order_119 : decode cX10_order 119 = .ok (.iconst 2, 1) := by decide +kernel
theorem dX10_order_120 : decode cX10_order 120 = .ok (.ireturn, 1) := by decide +kernel
theorem dX10_order_121 : decode cX10_order 121 = .ok (.iload 4, 2) := by decide +kernel
theorem dX10_order_123 : decode cX10_order 123 = .ok (.ifCond .eq 7, 3) := by decide +kernel
theorem dX10_order_126 : decode cX10_order 126 = .ok (.iconst 1, 1) := by decide +kernel
theorem dX10_order_127 : decode cX10_order 127 = .ok (.goto 4, 3) := by decide +kernel
theorem dX10_order_130 : decode cX10_order 130 = .ok (.iconst 0, 1) := by decide +kernel
theorem dX10_order_131 : decode cX10_order 131 = .ok (.ireturn, 1) := by decide +kernel
theorem dX10_isSuspicious_0 : decode cX10_isSuspicious 0 = .ok (.aload_n 0, 1) := by decide +kernel
theorem dX10_isSuspicious_1 : decode cX10_isSuspicious 1 = .ok (.aload_n 0, 1) := by decide +kernel
theorem dX10_isSuspicious_2 : decode cX10_isSuspicious 2 = .ok (.iload_n 1, 1) := by decide +kernel
theorem dX10_isSuspicious_3 : decode cX10_isSuspicious 3 = .ok (.invokevirtual 165, 3) := by decide +kernel
theorem dX10_isSuspicious_6 : decode cX10_isSuspicious 6 = .ok (.ifCond .eq 7, 3) := by decide +kernel
theorem dX10_isSuspicious_9 : decode cX10_isSuspicious 9 = .ok (.iconst 0, 1) := by decide +kernel
theorem dX10_isSuspicious_10 : decode cX10_isSuspicious 10 = .ok (.goto 4, 3) := by decide +kernel
theorem dX10_isSuspicious_13 : decode cX10_isSuspicious 13 = .ok (.iconst 1, 1) := by decide +kernel
theorem dX10_isSuspicious_14 : decode cX10_isSuspicious 14 = .ok (.putfield 66, 3) := by decide +kernel
theorem dX10_isSuspicious_17 : decode cX10_isSuspicious 17 = .ok (.aload_n 0, 1) := by decide +kernel
theorem dX10_isSuspicious_18 : decode cX10_isSuspicious 18 = .ok (.getfield 66, 3) := by decide +kernel
theorem dX10_isSuspicious_21 : decode cX10_isSuspicious 21 = .ok (.ifCond .ne 16, 3) := by decide +kernel
theorem dX10_isSuspicious_24 : decode cX10_isSuspicious 24 = .ok (.aload_n 0, 1) := by decide +kernel
theorem dX10_isSuspicious_25 : decode cX10_isSuspicious 25 = .ok (.getfield 46, 3) := by decide +kernel
theorem dX10_isSuspicious_28 : decode cX10_isSuspicious 28 = .ok (.iload_n 1, 1) := by decide +kernel
theorem dX10_isSuspicious_29 : decode cX10_isSuspicious 29 = .ok (.baload, 1) := by decide +kernel
theorem dX10_isSuspicious_30 : decode cX10_isSuspicious 30 = .ok (.ifCond .eq 7, 3) := by decide +kernel
theorem dX10_isSuspicious_33 : decode cX10_isSuspicious 33 = .ok (.iconst 1, 1) := by decide +kernel
theorem dX10_isSuspicious_34 : decode cX10_isSuspicious 34 = .ok (.goto 4, 3) := by decide +kernel
theorem dX10_isSuspicious_37 : decode cX10_isSuspicious 37 = .ok (.iconst 0, 1) := by decide +kernel
theorem dX10_isSuspicious_38 : decode cX10_isSuspicious 38 = .ok (.ireturn, 1) := by decide +kernel
theorem dX10_wouldFind_0 : decode cX10_wouldFind 0 = .ok (.aload_n 0, 1) := by decide +kernel
theorem dX10_wouldFind_1 : decode cX10_wouldFind 1 = .ok (.iconst 0, 1) := by decide +kernel
theorem dX10_wouldFind_2 : decode cX10_wouldFind 2 = .ok (.putfield 66, 3) := by decide +kernel
theorem dX10_wouldFind_5 : decode cX10_wouldFind 5 = .ok (.aload_n 0, 1) := by decide +kernel
theorem dX10_wouldFind_6 : decode cX10_wouldFind 6 = .ok (.iload_n 1, 1) := by decide +kernel
theorem dX10_wouldFind_7 : decode cX10_wouldFind 7 = .ok (.invokevirtual 165, 3) := by decide +kernel
theorem dX10_wouldFind_10 : decode cX10_wouldFind 10 = .ok (.ifCond .ne 9, 3) := by decide +kernel
theorem dX10_wouldFind_13 : decode cX10_wouldFind 13 = .ok (.aload_n 0, 1) := by decide +kernel
theorem dX10_wouldFind_14 : decode cX10_wouldFind 14 = .ok (.iconst 1, 1) := by decide +kernel
theorem dX10_wouldFind_15 : decode cX10_wouldFind 15 = .ok (.invokevirtual 171, 3) := by decide +kernel
theorem dX10_wouldFind_18 : decode cX10_wouldFind 18 = .ok (.ireturn, 1) := by decide +kernel
theorem dX10_wouldFind_19 : decode cX10_wouldFind 19 = .ok (.aload_n 0, 1) := by decide +kernel
theorem dX10_wouldFind_20 : decode cX10_wouldFind 20 = .ok (.iload_n 1, 1) := by decide +kernel
theorem dX10_wouldFind_21 : decode cX10_wouldFind 21 = .ok (.invokevirtual 149, 3) := by decide +kernel
theorem dX10_wouldFind_24 : decode cX10_wouldFind 24 = .ok (.ireturn, 1) := by decide +kernel
theorem dX10_forkedPairs_0 : decode cX10_forkedPairs 0 = .ok (.aload_n 0, 1) := by decide +kernel
theorem dX10_forkedPairs_1 : decode cX10_forkedPairs 1 = .ok (.iconst 0, 1) := by decide +kernel
theorem dX10_forkedPairs_2 : decode cX10_forkedPairs 2 = .ok (.putfield 66, 3) := by decide +kernel
theorem dX10_forkedPairs_5 : decode cX10_forkedPairs 5 = .ok (.iconst 0, 1) := by decide +kernel
theorem dX10_forkedPairs_6 : decode cX10_forkedPairs 6 = .ok (.istore_n 1, 1) := by decide +kernel
theorem dX10_forkedPairs_7 : decode cX10_forkedPairs 7 = .ok (.iconst 0, 1) := by decide +kernel
theorem dX10_forkedPairs_8 : decode cX10_forkedPairs 8 = .ok (.istore_n 2, 1) := by decide +kernel
theorem dX10_forkedPairs_9 : decode cX10_forkedPairs 9 = .ok (.iload_n 2, 1) := by decide +kernel
theorem dX10_forkedPairs_10 : decode cX10_forkedPairs 10 = .ok (.aload_n 0, 1) := by decide +kernel
theorem dX10_forkedPairs_11 : decode cX10_forkedPairs 11 = .ok (.getfield 69, 3) := by decide +kernel
theorem dX10_forkedPairs_14 : decode cX10_forkedPairs 14 = .ok (.if_icmp .ge 39, 3) := by decide +kernel
theorem dX10_forkedPairs_17 : decode cX10_forkedPairs 17 = .ok (.iconst 0, 1) := by decide +kernel
theorem dX10_forkedPairs_18 : decode cX10_forkedPairs 18 = .ok (.istore_n 3, 1) := by decide +kernel
theorem dX10_forkedPairs_19 : decode cX10_forkedPairs 19 = .ok (.iload_n 3, 1) := by decide +kernel
theorem dX10_forkedPairs_20 : decode cX10_forkedPairs 20 = .ok (.iload_n 2, 1) := by decide +kernel
theorem dX10_forkedPairs_21 : decode cX10_forkedPairs 21 = .ok (.if_icmp .ge 26, 3) := by decide +kernel
theorem dX10_forkedPairs_24 : decode cX10_forkedPairs 24 = .ok (.aload_n 0, 1) := by decide +kernel
theorem dX10_forkedPairs_25 : decode cX10_forkedPairs 25 = .ok (.iload_n 2, 1) := by decide +kernel
theorem dX10_forkedPairs_26 : decode cX10_forkedPairs 26 = .ok (.iload_n 3, 1) := by decide +kernel
theorem dX10_forkedPairs_27 : decode cX10_forkedPairs 27 = .ok (.invokevirtual 185, 3) := by decide +kernel
theorem dX10_forkedPairs_30 : decode cX10_forkedPairs 30 = .ok (.ifCond .eq 9, 3) := by decide +kernel
theorem dX10_forkedPairs_33 : decode cX10_forkedPairs 33 = .ok (.iload_n 1, 1) := by decide +kernel
theorem dX10_forkedPairs_34 : decode cX10_forkedPairs 34 = .ok (.iconst 1, 1) := by decide +kernel
theorem dX10_forkedPairs_35 : decode cX10_forkedPairs 35 = .ok (.iadd, 1) := by decide +kernel
theorem dX10_forkedPairs_36 : decode cX10_forkedPairs 36 = .ok (.goto 4, 3) := by decide +kernel
theorem dX10_forkedPairs_39 : decode cX10_forkedPairs 39 = .ok (.iload_n 1, 1) := by decide +kernel
theorem dX10_forkedPairs_40 : decode cX10_forkedPairs 40 = .ok (.istore_n 1, 1) := by decide +kernel
theorem dX10_forkedPairs_41 : decode cX10_forkedPairs 41 = .ok (.iinc 3 1, 3) := by decide +kernel
theorem dX10_forkedPairs_44 : decode cX10_forkedPairs 44 = .ok (.goto (-25), 3) := by decide +kernel
theorem dX10_forkedPairs_47 : decode cX10_forkedPairs 47 = .ok (.iinc 2 1, 3) := by decide +kernel
theorem dX10_forkedPairs_50 : decode cX10_forkedPairs 50 = .ok (.goto (-41), 3) := by decide +kernel
theorem dX10_forkedPairs_53 : decode cX10_forkedPairs 53 = .ok (.iload_n 1, 1) := by decide +kernel
theorem dX10_forkedPairs_54 : decode cX10_forkedPairs 54 = .ok (.ireturn, 1) := by decide +kernel
theorem dX10_seenBy_0 : decode cX10_seenBy 0 = .ok (.aload_n 0, 1) := by decide +kernel
theorem dX10_seenBy_1 : decode cX10_seenBy 1 = .ok (.iconst 0, 1) := by decide +kernel
theorem dX10_seenBy_2 : decode cX10_seenBy 2 = .ok (.putfield 66, 3) := by decide +kernel
theorem dX10_seenBy_5 : decode cX10_seenBy 5 = .ok (.aload_n 0, 1) := by decide +kernel
theorem dX10_seenBy_6 : decode cX10_seenBy 6 = .ok (.iload_n 1, 1) := by decide +kernel
theorem dX10_seenBy_7 : decode cX10_seenBy 7 = .ok (.invokevirtual 165, 3) := by decide +kernel
theorem dX10_seenBy_10 : decode cX10_seenBy 10 = .ok (.ifCond .ne 9, 3) := by decide +kernel
theorem dX10_seenBy_13 : decode cX10_seenBy 13 = .ok (.aload_n 0, 1) := by decide +kernel
theorem dX10_seenBy_14 : decode cX10_seenBy 14 = .ok (.iconst 1, 1) := by decide +kernel
theorem dX10_seenBy_15 : decode cX10_seenBy 15 = .ok (.invokevirtual 171, 3) := by decide +kernel
theorem dX10_seenBy_18 : decode cX10_seenBy 18 = .ok (.ireturn, 1) := by decide +kernel
theorem dX10_seenBy_19 : decode cX10_seenBy 19 = .ok (.iconst 0, 1) := by decide +kernel
theorem dX10_seenBy_20 : decode cX10_seenBy 20 = .ok (.istore_n 2, 1) := by decide +kernel
theorem dX10_seenBy_21 : decode cX10_seenBy 21 = .ok (.iconst 0, 1) := by decide +kernel
theorem dX10_seenBy_22 : decode cX10_seenBy 22 = .ok (.istore_n 3, 1) := by decide +kernel
theorem dX10_seenBy_23 : decode cX10_seenBy 23 = .ok (.iload_n 3, 1) := by decide +kernel
theorem dX10_seenBy_24 : decode cX10_seenBy 24 = .ok (.aload_n 0, 1) := by decide +kernel
theorem dX10_seenBy_25 : decode cX10_seenBy 25 = .ok (.getfield 69, 3) := by decide +kernel
theorem dX10_seenBy_28 : decode cX10_seenBy 28 = .ok (.if_icmp .ge 60, 3) := by decide +kernel
theorem dX10_seenBy_31 : decode cX10_seenBy 31 = .ok (.iload_n 3, 1) := by decide +kernel
theorem dX10_seenBy_32 : decode cX10_seenBy 32 = .ok (.iload_n 1, 1) := by decide +kernel
theorem dX10_seenBy_33 : decode cX10_seenBy 33 = .ok (.if_icmp .eq 31, 3) := by decide +kernel
theorem dX10_seenBy_36 : decode cX10_seenBy 36 = .ok (.aload_n 0, 1) := by decide +kernel
theorem dX10_seenBy_37 : decode cX10_seenBy 37 = .ok (.iload_n 3, 1) := by decide +kernel
theorem dX10_seenBy_38 : decode cX10_seenBy 38 = .ok (.iload_n 1, 1) := by decide +kernel
theorem dX10_seenBy_39 : decode cX10_seenBy 39 = .ok (.invokevirtual 393, 3) := by decide +kernel
theorem dX10_seenBy_42 : decode cX10_seenBy 42 = .ok (.aload_n 0, 1) := by decide +kernel
theorem dX10_seenBy_43 : decode cX10_seenBy 43 = .ok (.iload_n 1, 1) := by decide +kernel
theorem dX10_seenBy_44 : decode cX10_seenBy 44 = .ok (.iload_n 1, 1) := by decide +kernel
theorem dX10_seenBy_45 : decode cX10_seenBy 45 = .ok (.invokevirtual 393, 3) := by decide +kernel
theorem dX10_seenBy_48 : decode cX10_seenBy 48 = .ok (.if_icmp .lt 16, 3) := by decide +kernel
theorem dX10_seenBy_51 : decode cX10_seenBy 51 = .ok (.aload_n 0, 1) := by decide +kernel
theorem dX10_seenBy_52 : decode cX10_seenBy 52 = .ok (.iload_n 3, 1) := by decide +kernel
theorem dX10_seenBy_53 : decode cX10_seenBy 53 = .ok (.iload_n 1, 1) := by decide +kernel
theorem dX10_seenBy_54 : decode cX10_seenBy 54 = .ok (.invokevirtual 185, 3) := by decide +kernel
theorem dX10_seenBy_57 : decode cX10_seenBy 57 = .ok (.ifCond .ne 7, 3) := by decide +kernel
theorem dX10_seenBy_60 : decode cX10_seenBy 60 = .ok (.iconst 1, 1) := by decide +kernel
theorem dX10_seenBy_61 : decode cX10_seenBy 61 = .ok (.goto 4, 3) := by decide +kernel
theorem dX10_seenBy_64 : decode cX10_seenBy 64 = .ok (.iconst 0, 1) := by decide +kernel
theorem dX10_seenBy_65 : decode cX10_seenBy 65 = .ok (.istore 4, 2) := by decide +kernel
theorem dX10_seenBy_67 : decode cX10_seenBy 67 = .ok (.iload 4, 2) := by decide +kernel
theorem dX10_seenBy_69 : decode cX10_seenBy 69 = .ok (.ifCond .eq 11, 3) := by decide +kernel
theorem dX10_seenBy_72 : decode cX10_seenBy 72 = .ok (.iload_n 2, 1) := by decide +kernel
theorem dX10_seenBy_73 : decode cX10_seenBy 73 = .ok (.iconst 1, 1) := by decide +kernel
theorem dX10_seenBy_74 : decode cX10_seenBy 74 = .ok (.iload_n 3, 1) := by decide +kernel
theorem dX10_seenBy_75 : decode cX10_seenBy 75 = .ok (.ishl, 1) := by decide +kernel
theorem dX10_seenBy_76 : decode cX10_seenBy 76 = .ok (.ior, 1) := by decide +kernel
theorem dX10_seenBy_77 : decode cX10_seenBy 77 = .ok (.goto 4, 3) := by decide +kernel
theorem dX10_seenBy_80 : decode cX10_seenBy 80 = .ok (.iload_n 2, 1) := by decide +kernel
theorem dX10_seenBy_81 : decode cX10_seenBy 81 = .ok (.istore_n 2, 1) := by decide +kernel
theorem dX10_seenBy_82 : decode cX10_seenBy 82 = .ok (.iinc 3 1, 3) := by decide +kernel
theorem dX10_seenBy_85 : decode cX10_seenBy 85 = .ok (.goto (-62), 3) := by decide +kernel
theorem dX10_seenBy_88 : decode cX10_seenBy 88 = .ok (.iload_n 2, 1) := by decide +kernel
theorem dX10_seenBy_89 : decode cX10_seenBy 89 = .ok (.ireturn, 1) := by decide +kernel
theorem dX10_blames__0 : decode cX10_blames_ 0 = .ok (.aload_n 0, 1) := by decide +kernel
theorem dX10_blames__1 : decode cX10_blames_ 1 = .ok (.aload_n 0, 1) := by decide +kernel
theorem dX10_blames__2 : decode cX10_blames_ 2 = .ok (.getfield 129, 3) := by decide +kernel
theorem dX10_blames__5 : decode cX10_blames_ 5 = .ok (.invokevirtual 228, 3) := by decide +kernel
theorem dX10_blames__8 : decode cX10_blames_ 8 = .ok (.ireturn, 1) := by decide +kernel
theorem dX10_blame_0 : decode cX10_blame 0 = .ok (.aload_n 0, 1) := by decide +kernel
theorem dX10_blame_1 : decode cX10_blame 1 = .ok (.iconst 0, 1) := by decide +kernel
theorem dX10_blame_2 : decode cX10_blame 2 = .ok (.putfield 66, 3) := by decide +kernel
theorem dX10_blame_5 : decode cX10_blame 5 = .ok (.iload_n 1, 1) := by decide +kernel
theorem dX10_blame_6 : decode cX10_blame 6 = .ok (.iconst 0, 1) := by decide +kernel
theorem dX10_blame_7 : decode cX10_blame 7 = .ok (.aload_n 0, 1) := by decide +kernel
theorem dX10_blame_8 : decode cX10_blame 8 = .ok (.getfield 129, 3) := by decide +kernel
theorem dX10_blame_11 : decode cX10_blame 11 = .ok (.iconst 1, 1) := by decide +kernel
theorem dX10_blame_12 : decode cX10_blame 12 = .ok (.isub, 1) := by decide +kernel
theorem dX10_blame_13 : decode cX10_blame 13 = .ok (.invokestatic 72, 3) := by decide +kernel
theorem dX10_blame_16 : decode cX10_blame 16 = .ok (.ifCond .ne 9, 3) := by decide +kernel
theorem dX10_blame_19 : decode cX10_blame 19 = .ok (.aload_n 0, 1) := by decide +kernel
theorem dX10_blame_20 : decode cX10_blame 20 = .ok (.iconst 1, 1) := by decide +kernel
theorem dX10_blame_21 : decode cX10_blame 21 = .ok (.invokevirtual 171, 3) := by decide +kernel
theorem dX10_blame_24 : decode cX10_blame 24 = .ok (.ireturn, 1) := by decide +kernel
theorem dX10_blame_25 : decode cX10_blame 25 = .ok (.iload_n 2, 1) := by decide +kernel
theorem dX10_blame_26 : decode cX10_blame 26 = .ok (.iconst 0, 1) := by decide +kernel
theorem dX10_blame_27 : decode cX10_blame 27 = .ok (.iconst 5, 1) := by decide +kernel
theorem dX10_blame_28 : decode cX10_blame 28 = .ok (.invokestatic 72, 3) := by decide +kernel
theorem dX10_blame_31 : decode cX10_blame 31 = .ok (.ifCond .ne 9, 3) := by decide +kernel
theorem dX10_blame_34 : decode cX10_blame 34 = .ok (.aload_n 0, 1) := by decide +kernel
theorem dX10_blame_35 : decode cX10_blame 35 = .ok (.iconst 2, 1) := by decide +kernel
theorem dX10_blame_36 : decode cX10_blame 36 = .ok (.invokevirtual 171, 3) := by decide +kernel
theorem dX10_blame_39 : decode cX10_blame 39 = .ok (.ireturn, 1) := by decide +kernel
theorem dX10_blame_40 : decode cX10_blame 40 = .ok (.aload_n 0, 1) := by decide +kernel
theorem dX10_blame_41 : decode cX10_blame 41 = .ok (.getfield 53, 3) := by decide +kernel
theorem dX10_blame_44 : decode cX10_blame 44 = .ok (.bipush 6, 2) := by decide +kernel
theorem dX10_blame_46 : decode cX10_blame 46 = .ok (.iload_n 1, 1) := by decide +kernel
theorem dX10_blame_47 : decode cX10_blame 47 = .ok (.imul, 1) := by decide +kernel
theorem dX10_blame_48 : decode cX10_blame 48 = .ok (.iload_n 2, 1) := by decide +kernel
theorem dX10_blame_49 : decode cX10_blame 49 = .ok (.iadd, 1) := by decide +kernel
theorem dX10_blame_50 : decode cX10_blame 50 = .ok (.iaload, 1) := by decide +kernel
theorem dX10_blame_51 : decode cX10_blame 51 = .ok (.ireturn, 1) := by decide +kernel
theorem dX10_posts_0 : decode cX10_posts 0 = .ok (.aload_n 0, 1) := by decide +kernel
theorem dX10_posts_1 : decode cX10_posts 1 = .ok (.aload_n 0, 1) := by decide +kernel
theorem dX10_posts_2 : decode cX10_posts 2 = .ok (.getfield 126, 3) := by decide +kernel
theorem dX10_posts_5 : decode cX10_posts 5 = .ok (.invokevirtual 228, 3) := by decide +kernel
theorem dX10_posts_8 : decode cX10_posts 8 = .ok (.ireturn, 1) := by decide +kernel
theorem dX10_boardPost_0 : decode cX10_boardPost 0 = .ok (.aload_n 0, 1) := by decide +kernel
theorem dX10_boardPost_1 : decode cX10_boardPost 1 = .ok (.iconst 0, 1) := by decide +kernel
theorem dX10_boardPost_2 : decode cX10_boardPost 2 = .ok (.putfield 66, 3) := by decide +kernel
theorem dX10_boardPost_5 : decode cX10_boardPost 5 = .ok (.iload_n 1, 1) := by decide +kernel
theorem dX10_boardPost_6 : decode cX10_boardPost 6 = .ok (.iconst 0, 1) := by decide +kernel
theorem dX10_boardPost_7 : decode cX10_boardPost 7 = .ok (.aload_n 0, 1) := by decide +kernel
theorem dX10_boardPost_8 : decode cX10_boardPost 8 = .ok (.getfield 126, 3) := by decide +kernel
theorem dX10_boardPost_11 : decode cX10_boardPost 11 = .ok (.iconst 1, 1) := by decide +kernel
theorem dX10_boardPost_12 : decode cX10_boardPost 12 = .ok (.isub, 1) := by decide +kernel
theorem dX10_boardPost_13 : decode cX10_boardPost 13 = .ok (.invokestatic 72, 3) := by decide +kernel
theorem dX10_boardPost_16 : decode cX10_boardPost 16 = .ok (.ifCond .ne 9, 3) := by decide +kernel
theorem dX10_boardPost_19 : decode cX10_boardPost 19 = .ok (.aload_n 0, 1) := by decide +kernel
theorem dX10_boardPost_20 : decode cX10_boardPost 20 = .ok (.iconst 1, 1) := by decide +kernel
theorem dX10_boardPost_21 : decode cX10_boardPost 21 = .ok (.invokevirtual 171, 3) := by decide +kernel
theorem dX10_boardPost_24 : decode cX10_boardPost 24 = .ok (.ireturn, 1) := by decide +kernel
theorem dX10_boardPost_25 : decode cX10_boardPost 25 = .ok (.iload_n 2, 1) := by decide +kernel
theorem dX10_boardPost_26 : decode cX10_boardPost 26 = .ok (.iconst 0, 1) := by decide +kernel
theorem dX10_boardPost_27 : decode cX10_boardPost 27 = .ok (.iconst 3, 1) := by decide +kernel
theorem dX10_boardPost_28 : decode cX10_boardPost 28 = .ok (.invokestatic 72, 3) := by decide +kernel
theorem dX10_boardPost_31 : decode cX10_boardPost 31 = .ok (.ifCond .ne 9, 3) := by decide +kernel
theorem dX10_boardPost_34 : decode cX10_boardPost 34 = .ok (.aload_n 0, 1) := by decide +kernel
theorem dX10_boardPost_35 : decode cX10_boardPost 35 = .ok (.iconst 2, 1) := by decide +kernel
theorem dX10_boardPost_36 : decode cX10_boardPost 36 = .ok (.invokevirtual 171, 3) := by decide +kernel
theorem dX10_boardPost_39 : decode cX10_boardPost 39 = .ok (.ireturn, 1) := by decide +kernel
theorem dX10_boardPost_40 : decode cX10_boardPost 40 = .ok (.aload_n 0, 1) := by decide +kernel
theorem dX10_boardPost_41 : decode cX10_boardPost 41 = .ok (.getfield 50, 3) := by decide +kernel
theorem dX10_boardPost_44 : decode cX10_boardPost 44 = .ok (.iconst 4, 1) := by decide +kernel
theorem dX10_boardPost_45 : decode cX10_boardPost 45 = .ok (.iload_n 1, 1) := by decide +kernel
theorem dX10_boardPost_46 : decode cX10_boardPost 46 = .ok (.imul, 1) := by decide +kernel
theorem dX10_boardPost_47 : decode cX10_boardPost 47 = .ok (.iload_n 2, 1) := by decide +kernel
theorem dX10_boardPost_48 : decode cX10_boardPost 48 = .ok (.iadd, 1) := by decide +kernel
theorem dX10_boardPost_49 : decode cX10_boardPost 49 = .ok (.iaload, 1) := by decide +kernel
theorem dX10_boardPost_50 : decode cX10_boardPost 50 = .ok (.ireturn, 1) := by decide +kernel
theorem dX10_checkPost_0 : decode cX10_checkPost 0 = .ok (.aload_n 0, 1) := by decide +kernel
theorem dX10_checkPost_1 : decode cX10_checkPost 1 = .ok (.iconst 0, 1) := by decide +kernel
theorem dX10_checkPost_2 : decode cX10_checkPost 2 = .ok (.putfield 66, 3) := by decide +kernel
theorem dX10_checkPost_5 : decode cX10_checkPost 5 = .ok (.aload_n 0, 1) := by decide +kernel
theorem dX10_checkPost_6 : decode cX10_checkPost 6 = .ok (.iload_n 1, 1) := by decide +kernel
theorem dX10_checkPost_7 : decode cX10_checkPost 7 = .ok (.invokevirtual 165, 3) := by decide +kernel
theorem dX10_checkPost_10 : decode cX10_checkPost 10 = .ok (.ifCond .eq 17, 3) := by decide +kernel
theorem dX10_checkPost_13 : decode cX10_checkPost 13 = .ok (.iload_n 2, 1) := by decide +kernel
theorem dX10_checkPost_14 : decode cX10_checkPost 14 = .ok (.iconst 0, 1) := by decide +kernel
theorem dX10_checkPost_15 : decode cX10_checkPost 15 = .ok (.aload_n 0, 1) := by decide +kernel
theorem dX10_checkPost_16 : decode cX10_checkPost 16 = .ok (.getfield 126, 3) := by decide +kernel
theorem dX10_checkPost_19 : decode cX10_checkPost 19 = .ok (.iconst 1, 1) := by decide +kernel
theorem dX10_checkPost_20 : decode cX10_checkPost 20 = .ok (.isub, 1) := by decide +kernel
theorem dX10_checkPost_21 : decode cX10_checkPost 21 = .ok (.invokestatic 72, 3) := by decide +kernel
theorem dX10_checkPost_24 : decode cX10_checkPost 24 = .ok (.ifCond .ne 9, 3) := by decide +kernel
theorem dX10_checkPost_27 : decode cX10_checkPost 27 = .ok (.aload_n 0, 1) := by decide +kernel
theorem dX10_checkPost_28 : decode cX10_checkPost 28 = .ok (.iconst 1, 1) := by decide +kernel
theorem dX10_checkPost_29 : decode cX10_checkPost 29 = .ok (.invokevirtual 171, 3) := by decide +kernel
theorem dX10_checkPost_32 : decode cX10_checkPost 32 = .ok (.ireturn, 1) := by decide +kernel
theorem dX10_checkPost_33 : decode cX10_checkPost 33 = .ok (.aload_n 0, 1) := by decide +kernel
theorem dX10_checkPost_34 : decode cX10_checkPost 34 = .ok (.getfield 50, 3) := by decide +kernel
theorem dX10_checkPost_37 : decode cX10_checkPost 37 = .ok (.iconst 4, 1) := by decide +kernel
theorem dX10_checkPost_38 : decode cX10_checkPost 38 = .ok (.iload_n 2, 1) := by decide +kernel
theorem dX10_checkPost_39 : decode cX10_checkPost 39 = .ok (.imul, 1) := by decide +kernel
theorem dX10_checkPost_40 : decode cX10_checkPost 40 = .ok (.iconst 1, 1) := by decide +kernel
theorem dX10_checkPost_41 : decode cX10_checkPost 41 = .ok (.iadd, 1) := by decide +kernel
theorem dX10_checkPost_42 : decode cX10_checkPost 42 = .ok (.iaload, 1) := by decide +kernel
theorem dX10_checkPost_43 : decode cX10_checkPost 43 = .ok (.istore_n 3, 1) := by decide +kernel
theorem dX10_checkPost_44 : decode cX10_checkPost 44 = .ok (.aload_n 0, 1) := by decide +kernel
theorem dX10_checkPost_45 : decode cX10_checkPost 45 = .ok (.getfield 34, 3) := by decide +kernel
theorem dX10_checkPost_48 : decode cX10_checkPost 48 = .ok (.iload_n 1, 1) := by decide +kernel
theorem dX10_checkPost_49 : decode cX10_checkPost 49 = .ok (.iaload, 1) := by decide +kernel
theorem dX10_checkPost_50 : decode cX10_checkPost 50 = .ok (.iload_n 3, 1) := by decide +kernel
theorem dX10_checkPost_51 : decode cX10_checkPost 51 = .ok (.if_icmp .ge 5, 3) := by decide +kernel
theorem dX10_checkPost_54 : decode cX10_checkPost 54 = .ok (.iconst 2, 1) := by decide +kernel
theorem dX10_checkPost_55 : decode cX10_checkPost 55 = .ok (.ireturn, 1) := by decide +kernel
theorem dX10_checkPost_56 : decode cX10_checkPost 56 = .ok (.aload_n 0, 1) := by decide +kernel
theorem dX10_checkPost_57 : decode cX10_checkPost 57 = .ok (.iload_n 1, 1) := by decide +kernel
theorem dX10_checkPost_58 : decode cX10_checkPost 58 = .ok (.iload_n 3, 1) := by decide +kernel
theorem dX10_checkPost_59 : decode cX10_checkPost 59 = .ok (.invokevirtual 90, 3) := by decide +kernel
theorem dX10_checkPost_62 : decode cX10_checkPost 62 = .ok (.aload_n 0, 1) := by decide +kernel
theorem dX10_checkPost_63 : decode cX10_checkPost 63 = .ok (.getfield 50, 3) := by decide +kernel
theorem dX10_checkPost_66 : decode cX10_checkPost 66 = .ok (.iconst 4, 1) := by decide +kernel
theorem dX10_checkPost_67 : decode cX10_checkPost 67 = .ok (.iload_n 2, 1) := by decide +kernel
theorem dX10_checkPost_68 : decode cX10_checkPost 68 = .ok (.imul, 1) := by decide +kernel
theorem dX10_checkPost_69 : decode cX10_checkPost 69 = .ok (.iconst 2, 1) := by decide +kernel
theorem dX10_checkPost_70 : decode cX10_checkPost 70 = .ok (.iadd, 1) := by decide +kernel
theorem dX10_checkPost_71 : decode cX10_checkPost 71 = .ok (.iaload, 1) := by decide +kernel
theorem dX10_checkPost_72 : decode cX10_checkPost 72 = .ok (.if_icmp .ne 7, 3) := by decide +kernel
theorem dX10_checkPost_75 : decode cX10_checkPost 75 = .ok (.iconst 0, 1) := by decide +kernel
theorem dX10_checkPost_76 : decode cX10_checkPost 76 = .ok (.goto 4, 3) := by decide +kernel
theorem dX10_checkPost_79 : decode cX10_checkPost 79 = .ok (.iconst 1, 1) := by decide +kernel
theorem dX10_checkPost_80 : decode cX10_checkPost 80 = .ok (.ireturn, 1) := by decide +kernel
end
section
theorem dX1_init_0 : decode cX1_init 0 = .ok (.aload_n 0, 1) := by decide +kernel
theorem dX1_init_1 : decode cX1_init 1 = .ok (.invokespecial 3, 3) := by decide +kernel
theorem dX1_init_4 : decode cX1_init 4 = .ok (.aload_n 0, 1) := by decide +kernel
theorem dX1_init_5 : decode cX1_init 5 = .ok (.sipush 201, 3) := by decide +kernel
theorem dX1_init_8 : decode cX1_init 8 = .ok (.newarray .int, 2) := by decide +kernel
theorem dX1_init_10 : decode cX1_init 10 = .ok (.putfield 9, 3) := by decide +kernel
theorem dX1_init_13 : decode cX1_init 13 = .ok (.aload_n 0, 1) := by decide +kernel
theorem dX1_init_14 : decode cX1_init 14 = .ok (.sipush 201, 3) := by decide +kernel
theorem dX1_init_17 : decode cX1_init 17 = .ok (.newarray .int, 2) := by decide +kernel
theorem dX1_init_19 : decode cX1_init 19 = .ok (.putfield 15, 3) := by decide +kernel
theorem dX1_init_22 : decode cX1_init 22 = .ok (.aload_n 0, 1) := by decide +kernel
theorem dX1_init_23 : decode cX1_init 23 = .ok (.sipush 201, 3) := by decide +kernel
theorem dX1_init_26 : decode cX1_init 26 = .ok (.newarray .int, 2) := by decide +kernel
theorem dX1_init_28 : decode cX1_init 28 = .ok (.putfield 18, 3) := by decide +kernel
theorem dX1_init_31 : decode cX1_init 31 = .ok (.aload_n 0, 1) := by decide +kernel
theorem dX1_init_32 : decode cX1_init 32 = .ok (.sipush 201, 3) := by decide +kernel
theorem dX1_init_35 : decode cX1_init 35 = .ok (.newarray .int, 2) := by decide +kernel
theorem dX1_init_37 : decode cX1_init 37 = .ok (.putfield 21, 3) := by decide +kernel
theorem dX1_init_40 : decode cX1_init 40 = .ok (.aload_n 0, 1) := by decide +kernel
theorem dX1_init_41 : decode cX1_init 41 = .ok (.sipush 201, 3) := by decide +kernel
theorem dX1_init_44 : decode cX1_init 44 = .ok (.newarray .int, 2) := by decide +kernel
theorem dX1_init_46 : decode cX1_init 46 = .ok (.putfield 24, 3) := by decide +kernel
theorem dX1_init_49 : decode cX1_init 49 = .ok (.aload_n 0, 1) := by decide +kernel
theorem dX1_init_50 : decode cX1_init 50 = .ok (.sipush 201, 3) := by decide +kernel
theorem dX1_init_53 : decode cX1_init 53 = .ok (.newarray .int, 2) := by decide +kernel
theorem dX1_init_55 : decode cX1_init 55 = .ok (.putfield 27, 3) := by decide +kernel
theorem dX1_init_58 : decode cX1_init 58 = .ok (.aload_n 0, 1) := by decide +kernel
theorem dX1_init_59 : decode cX1_init 59 = .ok (.getfield 27, 3) := by decide +kernel
theorem dX1_init_62 : decode cX1_init 62 = .ok (.iconst 0, 1) := by decide +kernel
theorem dX1_init_63 : decode cX1_init 63 = .ok (.iconst 1, 1) := by decide +kernel
theorem dX1_init_64 : decode cX1_init 64 = .ok (.iastore, 1) := by decide +kernel
theorem dX1_init_65 : decode cX1_init 65 = .ok (.return_, 1) := by decide +kernel
theorem dX1_copyFrom_0 : decode cX1_copyFrom 0 = .ok (.aload_n 1, 1) := by decide +kernel
theorem dX1_copyFrom_1 : decode cX1_copyFrom 1 = .ok (.getfield 30, 3) := by decide +kernel
theorem dX1_copyFrom_4 : decode cX1_copyFrom 4 = .ok (.iconst 1, 1) := by decide +kernel
theorem dX1_copyFrom_5 : decode cX1_copyFrom 5 = .ok (.iadd, 1) := by decide +kernel
theorem dX1_copyFrom_6 : decode cX1_copyFrom 6 = .ok (.istore_n 2, 1) := by decide +kernel
theorem dX1_copyFrom_7 : decode cX1_copyFrom 7 = .ok (.aload_n 1, 1) := by decide +kernel
theorem dX1_copyFrom_8 : decode cX1_copyFrom 8 = .ok (.getfield 9, 3) := by decide +kernel
theorem dX1_copyFrom_11 : decode cX1_copyFrom 11 = .ok (.iconst 0, 1) := by decide +kernel
theorem dX1_copyFrom_12 : decode cX1_copyFrom 12 = .ok (.aload_n 0, 1) := by decide +kernel
theorem dX1_copyFrom_13 : decode cX1_copyFrom 13 = .ok (.getfield 9, 3) := by decide +kernel
theorem dX1_copyFrom_16 : decode cX1_copyFrom 16 = .ok (.iconst 0, 1) := by decide +kernel
theorem dX1_copyFrom_17 : decode cX1_copyFrom 17 = .ok (.iload_n 2, 1) := by decide +kernel
theorem dX1_copyFrom_18 : decode cX1_copyFrom 18 = .ok (.invokestatic 34, 3) := by decide +kernel
theorem dX1_copyFrom_21 : decode cX1_copyFrom 21 = .ok (.aload_n 1, 1) := by decide +kernel
theorem dX1_copyFrom_22 : decode cX1_copyFrom 22 = .ok (.getfield 15, 3) := by decide +kernel
theorem dX1_copyFrom_25 : decode cX1_copyFrom 25 = .ok (.iconst 0, 1) := by decide +kernel
theorem dX1_copyFrom_26 : decode cX1_copyFrom 26 = .ok (.aload_n 0, 1) := by decide +kernel
theorem dX1_copyFrom_27 : decode cX1_copyFrom 27 = .ok (.getfield 15, 3) := by decide +kernel
theorem dX1_copyFrom_30 : decode cX1_copyFrom 30 = .ok (.iconst 0, 1) := by decide +kernel
theorem dX1_copyFrom_31 : decode cX1_copyFrom 31 = .ok (.iload_n 2, 1) := by decide +kernel
theorem dX1_copyFrom_32 : decode cX1_copyFrom 32 = .ok (.invokestatic 34, 3) := by decide +kernel
theorem dX1_copyFrom_35 : decode cX1_copyFrom 35 = .ok (.aload_n 1, 1) := by decide +kernel
theorem dX1_copyFrom_36 : decode cX1_copyFrom 36 = .ok (.getfield 18, 3) := by decide +kernel
theorem dX1_copyFrom_39 : decode cX1_copyFrom 39 = .ok (.iconst 0, 1) := by decide +kernel
theorem dX1_copyFrom_40 : decode cX1_copyFrom 40 = .ok (.aload_n 0, 1) := by decide +kernel
theorem dX1_copyFrom_41 : decode cX1_copyFrom 41 = .ok (.getfield 18, 3) := by decide +kernel
theorem dX1_copyFrom_44 : decode cX1_copyFrom 44 = .ok (.iconst 0, 1) := by decide +kernel
theorem dX1_copyFrom_45 : decode cX1_copyFrom 45 = .ok (.iload_n 2, 1) := by decide +kernel
theorem dX1_copyFrom_46 : decode cX1_copyFrom 46 = .ok (.invokestatic 34, 3) := by decide +kernel
theorem dX1_copyFrom_49 : decode cX1_copyFrom 49 = .ok (.aload_n 1, 1) := by decide +kernel
theorem dX1_copyFrom_50 : decode cX1_copyFrom 50 = .ok (.getfield 21, 3) := by decide +kernel
theorem dX1_copyFrom_53 : decode cX1_copyFrom 53 = .ok (.iconst 0, 1) := by decide +kernel
theorem dX1_copyFrom_54 : decode cX1_copyFrom 54 = .ok (.aload_n 0, 1) := by decide +kernel
theorem dX1_copyFrom_55 : decode cX1_copyFrom 55 = .ok (.getfield 21, 3) := by decide +kernel
theorem dX1_copyFrom_58 : decode cX1_copyFrom 58 = .ok (.iconst 0, 1) := by decide +kernel
theorem dX1_copyFrom_59 : decode cX1_copyFrom 59 = .ok (.iload_n 2, 1) := by decide +kernel
theorem dX1_copyFrom_60 : decode cX1_copyFrom 60 = .ok (.invokestatic 34, 3) := by decide +kernel
theorem dX1_copyFrom_63 : decode cX1_copyFrom 63 = .ok (.aload_n 1, 1) := by decide +kernel
theorem dX1_copyFrom_64 : decode cX1_copyFrom 64 = .ok (.getfield 24, 3) := by decide +kernel
theorem dX1_copyFrom_67 : decode cX1_copyFrom 67 = .ok (.iconst 0, 1) := by decide +kernel
theorem dX1_copyFrom_68 : decode cX1_copyFrom 68 = .ok (.aload_n 0, 1) := by decide +kernel
theorem dX1_copyFrom_69 : decode cX1_copyFrom 69 = .ok (.getfield 24, 3) := by decide +kernel
theorem dX1_copyFrom_72 : decode cX1_copyFrom 72 = .ok (.iconst 0, 1) := by decide +kernel
theorem dX1_copyFrom_73 : decode cX1_copyFrom 73 = .ok (.iload_n 2, 1) := by decide +kernel
theorem dX1_copyFrom_74 : decode cX1_copyFrom 74 = .ok (.invokestatic 34, 3) := by decide +kernel
theorem dX1_copyFrom_77 : decode cX1_copyFrom 77 = .ok (.aload_n 1, 1) := by decide +kernel
theorem dX1_copyFrom_78 : decode cX1_copyFrom 78 = .ok (.getfield 27, 3) := by decide +kernel
theorem dX1_copyFrom_81 : decode cX1_copyFrom 81 = .ok (.iconst 0, 1) := by decide +kernel
theorem dX1_copyFrom_82 : decode cX1_copyFrom 82 = .ok (.aload_n 0, 1) := by decide +kernel
theorem dX1_copyFrom_83 : decode cX1_copyFrom 83 = .ok (.getfield 27, 3) := by decide +kernel
theorem dX1_copyFrom_86 : decode cX1_copyFrom 86 = .ok (.iconst 0, 1) := by decide +kernel
theorem dX1_copyFrom_87 : decode cX1_copyFrom 87 = .ok (.iload_n 2, 1) := by decide +kernel
theorem dX1_copyFrom_88 : decode cX1_copyFrom 88 = .ok (.invokestatic 34, 3) := by decide +kernel
theorem dX1_copyFrom_91 : decode cX1_copyFrom 91 = .ok (.aload_n 0, 1) := by decide +kernel
theorem dX1_copyFrom_92 : decode cX1_copyFrom 92 = .ok (.aload_n 1, 1) := by decide +kernel
theorem dX1_copyFrom_93 : decode cX1_copyFrom 93 = .ok (.getfield 30, 3) := by decide +kernel
theorem dX1_copyFrom_96 : decode cX1_copyFrom 96 = .ok (.putfield 30, 3) := by decide +kernel
theorem dX1_copyFrom_99 : decode cX1_copyFrom 99 = .ok (.return_, 1) := by decide +kernel
theorem dX1_isFull_0 : decode cX1_isFull 0 = .ok (.aload_n 0, 1) := by decide +kernel
theorem dX1_isFull_1 : decode cX1_isFull 1 = .ok (.getfield 30, 3) := by decide +kernel
theorem dX1_isFull_4 : decode cX1_isFull 4 = .ok (.sipush 200, 3) := by decide +kernel
theorem dX1_isFull_7 : decode cX1_isFull 7 = .ok (.if_icmp .lt 7, 3) := by decide +kernel
theorem dX1_isFull_10 : decode cX1_isFull 10 = .ok (.iconst 1, 1) := by decide +kernel
theorem dX1_isFull_11 : decode cX1_isFull 11 = .ok (.goto 4, 3) := by decide +kernel
theorem dX1_isFull_14 : decode cX1_isFull 14 = .ok (.iconst 0, 1) := by decide +kernel
theorem dX1_isFull_15 : decode cX1_isFull 15 = .ok (.ireturn, 1) := by decide +kernel
theorem dX1_hasEntry_0 : decode cX1_hasEntry 0 = .ok (.iload_n 1, 1) := by decide +kernel
theorem dX1_hasEntry_1 : decode cX1_hasEntry 1 = .ok (.iconst 1, 1) := by decide +kernel
theorem dX1_hasEntry_2 : decode cX1_hasEntry 2 = .ok (.if_icmp .lt 15, 3) := by decide +kernel
theorem dX1_hasEntry_5 : decode cX1_hasEntry 5 = .ok (.iload_n 1, 1) := by decide +kernel
theorem dX1_hasEntry_6 : decode cX1_hasEntry 6 = .ok (.aload_n 0, 1) := by decide +kernel
theorem dX1_hasEntry_7 : decode cX1_hasEntry 7 = .ok (.getfield 30, 3) := by decide +kernel
theorem dX1_hasEntry_10 : decode cX1_hasEntry 10 = .ok (.if_icmp .gt 7, 3) := by decide +kernel
theorem dX1_hasEntry_13 : decode cX1_hasEntry 13 = .ok (.iconst 1, 1) := by decide +kernel
theorem dX1_hasEntry_14 : decode cX1_hasEntry 14 = .ok (.goto 4, 3) := by decide +kernel
theorem dX1_hasEntry_17 : decode cX1_hasEntry 17 = .ok (.iconst 0, 1) := by decide +kernel
theorem dX1_hasEntry_18 : decode cX1_hasEntry 18 = .ok (.ireturn, 1) := by decide +kernel
theorem dX1_lastHash_0 : decode cX1_lastHash 0 = .ok (.aload_n 0, 1) := by decide +kernel
theorem dX1_lastHash_1 : decode cX1_lastHash 1 = .ok (.getfield 27, 3) := by decide +kernel
theorem dX1_lastHash_4 : decode cX1_lastHash 4 = .ok (.aload_n 0, 1) := by decide +kernel
theorem dX1_lastHash_5 : decode cX1_lastHash 5 = .ok (.getfield 30, 3) := by decide +kernel
theorem dX1_lastHash_8 : decode cX1_lastHash 8 = .ok (.iaload, 1) := by decide +kernel
theorem dX1_lastHash_9 : decode cX1_lastHash 9 = .ok (.ireturn, 1) := by decide +kernel
theorem dX1_append_0 : decode cX1_append 0 = .ok (.aload_n 0, 1) := by decide +kernel
theorem dX1_append_1 : decode cX1_append 1 = .ok (.invokevirtual 40, 3) := by decide +kernel
theorem dX1_append_4 : decode cX1_append 4 = .ok (.ifCond .eq 4, 3) := by decide +kernel
theorem dX1_append_7 : decode cX1_append 7 = .ok (.return_, 1) := by decide +kernel
theorem dX1_append_8 : decode cX1_append 8 = .ok (.aload_n 0, 1) := by decide +kernel
theorem dX1_append_9 : decode cX1_append 9 = .ok (.dup, 1) := by decide +kernel
theorem dX1_append_10 : decode cX1_append 10 = .ok (.getfield 30, 3) := by decide +kernel
theorem dX1_append_13 : decode cX1_append 13 = .ok (.iconst 1, 1) := by decide +kernel
theorem dX1_append_14 : decode cX1_append 14 = .ok (.iadd, 1) := by decide +kernel
theorem dX1_append_15 : decode cX1_append 15 = .ok (.putfield 30, 3) := by decide +kernel
theorem dX1_append_18 : decode cX1_append 18 = .ok (.aload_n 0, 1) := by decide +kernel
theorem dX1_append_19 : decode cX1_append 19 = .ok (.getfield 9, 3) := by decide +kernel
theorem dX1_append_22 : decode cX1_append 22 = .ok (.aload_n 0, 1) := by decide +kernel
theorem dX1_append_23 : decode cX1_append 23 = .ok (.getfield 30, 3) := by decide +kernel
theorem dX1_append_26 : decode cX1_append 26 = .ok (.iload_n 1, 1) := by decide +kernel
theorem dX1_append_27 : decode cX1_append 27 = .ok (.iastore, 1) := by decide +kernel
theorem dX1_append_28 : decode cX1_append 28 = .ok (.aload_n 0, 1) := by decide +kernel
theorem dX1_append_29 : decode cX1_append 29 = .ok (.getfield 15, 3) := by decide +kernel
theorem dX1_append_32 : decode cX1_append 32 = .ok (.aload_n 0, 1) := by decide +kernel
theorem dX1_append_33 : decode cX1_append 33 = .ok (.getfield 30, 3) := by decide +kernel
theorem dX1_append_36 : decode cX1_append 36 = .ok (.iload_n 2, 1) := by decide +kernel
theorem dX1_append_37 : decode cX1_append 37 = .ok (.iastore, 1) := by decide +kernel
theorem dX1_append_38 : decode cX1_append 38 = .ok (.aload_n 0, 1) := by decide +kernel
theorem dX1_append_39 : decode cX1_append 39 = .ok (.getfield 18, 3) := by decide +kernel
theorem dX1_append_42 : decode cX1_append 42 = .ok (.aload_n 0, 1) := by decide +kernel
theorem dX1_append_43 : decode cX1_append 43 = .ok (.getfield 30, 3) := by decide +kernel
theorem dX1_append_46 : decode cX1_append 46 = .ok (.iload_n 3, 1) := by decide +kernel
theorem dX1_append_47 : decode cX1_append 47 = .ok (.iastore, 1) := by decide +kernel
theorem dX1_append_48 : decode cX1_append 48 = .ok (.aload_n 0, 1) := by decide +kernel
theorem dX1_append_49 : decode cX1_append 49 = .ok (.getfield 21, 3) := by decide +kernel
theorem dX1_append_52 : decode cX1_append 52 = .ok (.aload_n 0, 1) := by decide +kernel
theorem dX1_append_53 : decode cX1_append 53 = .ok (.getfield 30, 3) := by decide +kernel
theorem dX1_append_56 : decode cX1_append 56 = .ok (.iload 4, 2) := by decide +kernel
theorem dX1_append_58 : decode cX1_append 58 = .ok (.iastore, 1) := by decide +kernel
theorem dX1_append_59 : decode cX1_append 59 = .ok (.aload_n 0, 1) := by decide +kernel
theorem dX1_append_60 : decode cX1_append 60 = .ok (.getfield 24, 3) := by decide +kernel
theorem dX1_append_63 : decode cX1_append 63 = .ok (.aload_n 0, 1) := by decide +kernel
theorem dX1_append_64 : decode cX1_append 64 = .ok (.getfield 30, 3) := by decide +kernel
theorem dX1_append_67 : decode cX1_append 67 = .ok (.iload 5, 2) := by decide +kernel
theorem dX1_append_69 : decode cX1_append 69 = .ok (.iastore, 1) := by decide +kernel
theorem dX1_append_70 : decode cX1_append 70 = .ok (.aload_n 0, 1) := by decide +kernel
theorem dX1_append_71 : decode cX1_append 71 = .ok (.getfield 27, 3) := by decide +kernel
theorem dX1_append_74 : decode cX1_append 74 = .ok (.aload_n 0, 1) := by decide +kernel
theorem dX1_append_75 : decode cX1_append 75 = .ok (.getfield 30, 3) := by decide +kernel
theorem dX1_append_78 : decode cX1_append 78 = .ok (.aload_n 0, 1) := by decide +kernel
theorem dX1_append_79 : decode cX1_append 79 = .ok (.aload_n 0, 1) := by decide +kernel
theorem dX1_append_80 : decode cX1_append 80 = .ok (.getfield 30, 3) := by decide +kernel
theorem dX1_append_83 : decode cX1_append 83 = .ok (.invokevirtual 44, 3) := by decide +kernel
theorem dX1_append_86 : decode cX1_append 86 = .ok (.iastore, 1) := by decide +kernel
theorem dX1_append_87 : decode cX1_append 87 = .ok (.return_, 1) := by decide +kernel
theorem dX1_appendMerge_0 : decode cX1_appendMerge 0 = .ok (.aload_n 0, 1) := by decide +kernel
theorem dX1_appendMerge_1 : decode cX1_appendMerge 1 = .ok (.iconst 2, 1) := by decide +kernel
theorem dX1_appendMerge_2 : decode cX1_appendMerge 2 = .ok (.iconst (-1), 1) := by decide +kernel
theorem dX1_appendMerge_3 : decode cX1_appendMerge 3 = .ok (.iconst (-1), 1) := by decide +kernel
theorem dX1_appendMerge_4 : decode cX1_appendMerge 4 = .ok (.iconst 0, 1) := by decide +kernel
theorem dX1_appendMerge_5 : decode cX1_appendMerge 5 = .ok (.iload_n 1, 1) := by decide +kernel
theorem dX1_appendMerge_6 : decode cX1_appendMerge 6 = .ok (.invokevirtual 48, 3) := by decide +kernel
theorem dX1_appendMerge_9 : decode cX1_appendMerge 9 = .ok (.return_, 1) := by decide +kernel
theorem dX1_appendOwn_0 : decode cX1_appendOwn 0 = .ok (.iload_n 2, 1) := by decide +kernel
theorem dX1_appendOwn_1 : decode cX1_appendOwn 1 = .ok (.iconst 1, 1) := by decide +kernel
theorem dX1_appendOwn_2 : decode cX1_appendOwn 2 = .ok (.iadd, 1) := by decide +kernel
theorem dX1_appendOwn_3 : decode cX1_appendOwn 3 = .ok (.istore_n 3, 1) := by decide +kernel
theorem dX1_appendOwn_4 : decode cX1_appendOwn 4 = .ok (.iload_n 3, 1) := by decide +kernel
theorem dX1_appendOwn_5 : decode cX1_appendOwn 5 = .ok (.aload_n 1, 1) := by decide +kernel
theorem dX1_appendOwn_6 : decode cX1_appendOwn 6 = .ok (.getfield 30, 3) := by decide +kernel
theorem dX1_appendOwn_9 : decode cX1_appendOwn 9 = .ok (.if_icmp .gt 43, 3) := by decide +kernel
theorem dX1_appendOwn_12 : decode cX1_appendOwn 12 = .ok (.aload_n 0, 1) := by decide +kernel
theorem dX1_appendOwn_13 : decode cX1_appendOwn 13 = .ok (.aload_n 1, 1) := by decide +kernel
theorem dX1_appendOwn_14 : decode cX1_appendOwn 14 = .ok (.getfield 9, 3) := by decide +kernel
theorem dX1_appendOwn_17 : decode cX1_appendOwn 17 = .ok (.iload_n 3, 1) := by decide +kernel
theorem dX1_appendOwn_18 : decode cX1_appendOwn 18 = .ok (.iaload, 1) := by decide +kernel
theorem dX1_appendOwn_19 : decode cX1_appendOwn 19 = .ok (.aload_n 1, 1) := by decide +kernel
theorem dX1_appendOwn_20 : decode cX1_appendOwn 20 = .ok (.getfield 15, 3) := by decide +kernel
theorem dX1_appendOwn_23 : decode cX1_appendOwn 23 = .ok (.iload_n 3, 1) := by decide +kernel
theorem dX1_appendOwn_24 : decode cX1_appendOwn 24 = .ok (.iaload, 1) := by decide +kernel
theorem dX1_appendOwn_25 : decode cX1_appendOwn 25 = .ok (.aload_n 1, 1) := by decide +kernel
theorem dX1_appendOwn_26 : decode cX1_appendOwn 26 = .ok (.getfield 18, 3) := by decide +kernel
theorem dX1_appendOwn_29 : decode cX1_appendOwn 29 = .ok (.iload_n 3, 1) := by decide +kernel
theorem dX1_appendOwn_30 : decode cX1_appendOwn 30 = .ok (.iaload, 1) := by decide +kernel
theorem dX1_appendOwn_31 : decode cX1_appendOwn 31 = .ok (.aload_n 1, 1) := by decide +kernel
theorem dX1_appendOwn_32 : decode cX1_appendOwn 32 = .ok (.getfield 21, 3) := by decide +kernel
theorem dX1_appendOwn_35 : decode cX1_appendOwn 35 = .ok (.iload_n 3, 1) := by decide +kernel
theorem dX1_appendOwn_36 : decode cX1_appendOwn 36 = .ok (.iaload, 1) := by decide +kernel
theorem dX1_appendOwn_37 : decode cX1_appendOwn 37 = .ok (.aload_n 1, 1) := by decide +kernel
theorem dX1_appendOwn_38 : decode cX1_appendOwn 38 = .ok (.getfield 24, 3) := by decide +kernel
theorem dX1_appendOwn_41 : decode cX1_appendOwn 41 = .ok (.iload_n 3, 1) := by decide +kernel
theorem dX1_appendOwn_42 : decode cX1_appendOwn 42 = .ok (.iaload, 1) := by decide +kernel
theorem dX1_appendOwn_43 : decode cX1_appendOwn 43 = .ok (.invokevirtual 48, 3) := by decide +kernel
theorem dX1_appendOwn_46 : decode cX1_appendOwn 46 = .ok (.iinc 3 1, 3) := by decide +kernel
theorem dX1_appendOwn_49 : decode cX1_appendOwn 49 = .ok (.goto (-45), 3) := by decide +kernel
theorem dX1_appendOwn_52 : decode cX1_appendOwn 52 = .ok (.return_, 1) := by decide +kernel
theorem dX1_computedHash_0 : decode cX1_computedHash 0 = .ok (.iload_n 1, 1) := by decide +kernel
theorem dX1_computedHash_1 : decode cX1_computedHash 1 = .ok (.iconst 1, 1) := by decide +kernel
theorem dX1_computedHash_2 : decode cX1_computedHash 2 = .ok (.if_icmp .lt 11, 3) := by decide +kernel
theorem dX1_computedHash_5 : decode cX1_computedHash 5 = .ok (.iload_n 1, 1) := by decide +kernel
theorem dX1_computedHash_6 : decode cX1_computedHash 6 = .ok (.aload_n 0, 1) := by decide +kernel
theorem dX1_computedHash_7 : decode cX1_computedHash 7 = .ok (.getfield 30, 3) := by decide +kernel
theorem dX1_computedHash_10 : decode cX1_computedHash 10 = .ok (.if_icmp .le 5, 3) := by decide +kernel
theorem dX1_computedHash_13 : decode cX1_computedHash 13 = .ok (.iconst 1, 1) := by decide +kernel
theorem dX1_computedHash_14 : decode cX1_computedHash 14 = .ok (.ireturn, 1) := by decide +kernel
theorem dX1_computedHash_15 : decode cX1_computedHash 15 = .ok (.aload_n 0, 1) := by decide +kernel
theorem dX1_computedHash_16 : decode cX1_computedHash 16 = .ok (.getfield 27, 3) := by decide +kernel
theorem dX1_computedHash_19 : decode cX1_computedHash 19 = .ok (.iload_n 1, 1) := by decide +kernel
theorem dX1_computedHash_20 : decode cX1_computedHash 20 = .ok (.iconst 1, 1) := by decide +kernel
theorem dX1_computedHash_21 : decode cX1_computedHash 21 = .ok (.isub, 1) := by decide +kernel
theorem dX1_computedHash_22 : decode cX1_computedHash 22 = .ok (.iaload, 1) := by decide +kernel
theorem dX1_computedHash_23 : decode cX1_computedHash 23 = .ok (.i2l, 1) := by decide +kernel
theorem dX1_computedHash_24 : decode cX1_computedHash 24 = .ok (.ldc2_w 52, 3) := by decide +kernel
theorem dX1_computedHash_27 : decode cX1_computedHash 27 = .ok (.lmul, 1) := by decide +kernel
theorem dX1_computedHash_28 : decode cX1_computedHash 28 = .ok (.iload_n 1, 1) := by decide +kernel
theorem dX1_computedHash_29 : decode cX1_computedHash 29 = .ok (.i2l, 1) := by decide +kernel
theorem dX1_computedHash_30 : decode cX1_computedHash 30 = .ok (.ladd, 1) := by decide +kernel
theorem dX1_computedHash_31 : decode cX1_computedHash 31 = .ok (.lstore_n 2, 1) := by decide +kernel
theorem dX1_computedHash_32 : decode cX1_computedHash 32 = .ok (.aload_n 0, 1) := by decide +kernel
theorem dX1_computedHash_33 : decode cX1_computedHash 33 = .ok (.getfield 9, 3) := by decide +kernel
theorem dX1_computedHash_36 : decode cX1_computedHash 36 = .ok (.iload_n 1, 1) := by decide +kernel
theorem dX1_computedHash_37 : decode cX1_computedHash 37 = .ok (.iaload, 1) := by decide +kernel
theorem dX1_computedHash_38 : decode cX1_computedHash 38 = .ok (.iconst 2, 1) := by decide +kernel
theorem dX1_computedHash_39 : decode cX1_computedHash 39 = .ok (.if_icmp .ne 20, 3) := by decide +kernel
theorem dX1_computedHash_42 : decode cX1_computedHash 42 = .ok (.lload_n 2, 1) := by decide +kernel
theorem dX1_computedHash_43 : decode cX1_computedHash 43 = .ok (.aload_n 0, 1) := by decide +kernel
theorem dX1_computedHash_44 : decode cX1_computedHash 44 = .ok (.getfield 24, 3) := by decide +kernel
theorem dX1_computedHash_47 : decode cX1_computedHash 47 = .ok (.iload_n 1, 1) := by decide +kernel
theorem dX1_computedHash_48 : decode cX1_computedHash 48 = .ok (.iaload, 1) := by decide +kernel
theorem dX1_computedHash_49 : decode cX1_computedHash 49 = .ok (.i2l, 1) := by decide +kernel
theorem dX1_computedHash_50 : decode cX1_computedHash 50 = .ok (.ldc2_w 54, 3) := by decide +kernel
theorem dX1_computedHash_53 : decode cX1_computedHash 53 = .ok (.lmul, 1) := by decide +kernel
theorem dX1_computedHash_54 : decode cX1_computedHash 54 = .ok (.ladd, 1) := by decide +kernel
theorem dX1_computedHash_55 : decode cX1_computedHash 55 = .ok (.lstore_n 2, 1) := by decide +kernel
theorem dX1_computedHash_56 : decode cX1_computedHash 56 = .ok (.goto 29, 3) := by decide +kernel
theorem dX1_computedHash_59 : decode cX1_computedHash 59 = .ok (.lload_n 2, 1) := by decide +kernel
theorem dX1_computedHash_60 : decode cX1_computedHash 60 = .ok (.aload_n 0, 1) := by decide +kernel
theorem dX1_computedHash_61 : decode cX1_computedHash 61 = .ok (.getfield 15, 3) := by decide +kernel
theorem dX1_computedHash_64 : decode cX1_computedHash 64 = .ok (.iload_n 1, 1) := by decide +kernel
theorem dX1_computedHash_65 : decode cX1_computedHash 65 = .ok (.iaload, 1) := by decide +kernel
theorem dX1_computedHash_66 : decode cX1_computedHash 66 = .ok (.i2l, 1) := by decide +kernel
theorem dX1_computedHash_67 : decode cX1_computedHash 67 = .ok (.ldc2_w 56, 3) := by decide +kernel
theorem dX1_computedHash_70 : decode cX1_computedHash 70 = .ok (.lmul, 1) := by decide +kernel
theorem dX1_computedHash_71 : decode cX1_computedHash 71 = .ok (.aload_n 0, 1) := by decide +kernel
theorem dX1_computedHash_72 : decode cX1_computedHash 72 = .ok (.getfield 18, 3) := by decide +kernel
theorem dX1_computedHash_75 : decode cX1_computedHash 75 = .ok (.iload_n 1, 1) := by decide +kernel
theorem dX1_computedHash_76 : decode cX1_computedHash 76 = .ok (.iaload, 1) := by decide +kernel
theorem dX1_computedHash_77 : decode cX1_computedHash 77 = .ok (.i2l, 1) := by decide +kernel
theorem dX1_computedHash_78 : decode cX1_computedHash 78 = .ok (.ldc2_w 58, 3) := by decide +kernel
theorem dX1_computedHash_81 : decode cX1_computedHash 81 = .ok (.lmul, 1) := by decide +kernel
theorem dX1_computedHash_82 : decode cX1_computedHash 82 = .ok (.ladd, 1) := by decide +kernel
theorem dX1_computedHash_83 : decode cX1_computedHash 83 = .ok (.ladd, 1) := by decide +kernel
theorem dX1_computedHash_84 : decode cX1_computedHash 84 = .ok (.lstore_n 2, 1) := by decide +kernel
theorem dX1_computedHash_85 : decode cX1_computedHash 85 = .ok (.aload_n 0, 1) := by decide +kernel
theorem dX1_computedHash_86 : decode cX1_computedHash 86 = .ok (.getfield 9, 3) := by decide +kernel
theorem dX1_computedHash_89 : decode cX1_computedHash 89 = .ok (.iload_n 1, 1) := by decide +kernel
theorem dX1_computedHash_90 : decode cX1_computedHash 90 = .ok (.iaload, 1) := by decide +kernel
theorem dX1_computedHash_91 : decode cX1_computedHash 91 = .ok (.iconst 1, 1) := by decide +kernel
theorem dX1_computedHash_92 : decode cX1_computedHash 92 = .ok (.if_icmp .ne 19, 3) := by decide +kernel
theorem dX1_computedHash_95 : decode cX1_computedHash 95 = .ok (.lload_n 2, 1) := by decide +kernel
theorem dX1_computedHash_96 : decode cX1_computedHash 96 = .ok (.aload_n 0, 1) := by decide +kernel
theorem dX1_computedHash_97 : decode cX1_computedHash 97 = .ok (.getfield 21, 3) := by decide +kernel
theorem dX1_computedHash_100 : decode cX1_computedHash 100 = .ok (.iload_n 1, 1) := by decide +kernel
theorem dX1_computedHash_101 : decode cX1_computedHash 101 = .ok (.iaload, 1) := by decide +kernel
theorem dX1_computedHash_102 : decode cX1_computedHash 102 = .ok (.iconst 1, 1) := by decide +kernel
theorem dX1_computedHash_103 : decode cX1_computedHash 103 = .ok (.iadd, 1) := by decide +kernel
theorem dX1_computedHash_104 : decode cX1_computedHash 104 = .ok (.i2l, 1) := by decide +kernel
theorem dX1_computedHash_105 : decode cX1_computedHash 105 = .ok (.ldc2_w 60, 3) := by decide +kernel
theorem dX1_computedHash_108 : decode cX1_computedHash 108 = .ok (.lmul, 1) := by decide +kernel
theorem dX1_computedHash_109 : decode cX1_computedHash 109 = .ok (.ladd, 1) := by decide +kernel
theorem dX1_computedHash_110 : decode cX1_computedHash 110 = .ok (.lstore_n 2, 1) := by decide +kernel
theorem dX1_computedHash_111 : decode cX1_computedHash 111 = .ok (.lload_n 2, 1) := by decide +kernel
theorem dX1_computedHash_112 : decode cX1_computedHash 112 = .ok (.ldc2_w 62, 3) := by decide +kernel
theorem dX1_computedHash_115 : decode cX1_computedHash 115 = .ok (.lrem, 1) := by decide +kernel
theorem dX1_computedHash_116 : decode cX1_computedHash 116 = .ok (.l2i, 1) := by decide +kernel
theorem dX1_computedHash_117 : decode cX1_computedHash 117 = .ok (.ireturn, 1) := by decide +kernel
theorem dX1_firstUnsound_0 : decode cX1_firstUnsound 0 = .ok (.iload_n 1, 1) := by decide +kernel
theorem dX1_firstUnsound_1 : decode cX1_firstUnsound 1 = .ok (.iconst 1, 1) := by decide +kernel
theorem dX1_firstUnsound_2 : decode cX1_firstUnsound 2 = .ok (.iadd, 1) := by decide +kernel
theorem dX1_firstUnsound_3 : decode cX1_firstUnsound 3 = .ok (.istore_n 2, 1) := by decide +kernel
theorem dX1_firstUnsound_4 : decode cX1_firstUnsound 4 = .ok (.iload_n 2, 1) := by decide +kernel
theorem dX1_firstUnsound_5 : decode cX1_firstUnsound 5 = .ok (.aload_n 0, 1) := by decide +kernel
theorem dX1_firstUnsound_6 : decode cX1_firstUnsound 6 = .ok (.getfield 30, 3) := by decide +kernel
theorem dX1_firstUnsound_9 : decode cX1_firstUnsound 9 = .ok (.if_icmp .gt 25, 3) := by decide +kernel
theorem dX1_firstUnsound_12 : decode cX1_firstUnsound 12 = .ok (.aload_n 0, 1) := by decide +kernel
theorem dX1_firstUnsound_13 : decode cX1_firstUnsound 13 = .ok (.getfield 27, 3) := by decide +kernel
theorem dX1_firstUnsound_16 : decode cX1_firstUnsound 16 = .ok (.iload_n 2, 1) := by decide +kernel
theorem dX1_firstUnsound_17 : decode cX1_firstUnsound 17 = .ok (.iaload, 1) := by decide +kernel
theorem dX1_firstUnsound_18 : decode cX1_firstUnsound 18 = .ok (.aload_n 0, 1) := by decide +kernel
theorem dX1_firstUnsound_19 : decode cX1_firstUnsound 19 = .ok (.iload_n 2, 1) := by decide +kernel
theorem dX1_firstUnsound_20 : decode cX1_firstUnsound 20 = .ok (.invokevirtual 44, 3) := by decide +kernel
theorem dX1_firstUnsound_23 : decode cX1_firstUnsound 23 = .ok (.if_icmp .eq 5, 3) := by decide +kernel
theorem dX1_firstUnsound_26 : decode cX1_firstUnsound 26 = .ok (.iload_n 2, 1) := by decide +kernel
theorem dX1_firstUnsound_27 : decode cX1_firstUnsound 27 = .ok (.ireturn, 1) := by decide +kernel
theorem dX1_firstUnsound_28 : decode cX1_firstUnsound 28 = .ok (.iinc 2 1, 3) := by decide +kernel
theorem dX1_firstUnsound_31 : decode cX1_firstUnsound 31 = .ok (.goto (-27), 3) := by decide +kernel
theorem dX1_firstUnsound_34 : decode cX1_firstUnsound 34 = .ok (.aload_n 0, 1) := by decide +kernel
theorem dX1_firstUnsound_35 : decode cX1_firstUnsound 35 = .ok (.getfield 30, 3) := by decide +kernel
theorem dX1_firstUnsound_38 : decode cX1_firstUnsound 38 = .ok (.iconst 1, 1) := by decide +kernel
theorem dX1_firstUnsound_39 : decode cX1_firstUnsound 39 = .ok (.iadd, 1) := by decide +kernel
theorem dX1_firstUnsound_40 : decode cX1_firstUnsound 40 = .ok (.ireturn, 1) := by decide +kernel
theorem dX1_lastValue_0 : decode cX1_lastValue 0 = .ok (.aload_n 0, 1) := by decide +kernel
theorem dX1_lastValue_1 : decode cX1_lastValue 1 = .ok (.getfield 30, 3) := by decide +kernel
theorem dX1_lastValue_4 : decode cX1_lastValue 4 = .ok (.istore_n 2, 1) := by decide +kernel
theorem dX1_lastValue_5 : decode cX1_lastValue 5 = .ok (.iload_n 2, 1) := by decide +kernel
theorem dX1_lastValue_6 : decode cX1_lastValue 6 = .ok (.iconst 1, 1) := by decide +kernel
theorem dX1_lastValue_7 : decode cX1_lastValue 7 = .ok (.if_icmp .lt 36, 3) := by decide +kernel
theorem dX1_lastValue_10 : decode cX1_lastValue 10 = .ok (.aload_n 0, 1) := by decide +kernel
theorem dX1_lastValue_11 : decode cX1_lastValue 11 = .ok (.getfield 9, 3) := by decide +kernel
theorem dX1_lastValue_14 : decode cX1_lastValue 14 = .ok (.iload_n 2, 1) := by decide +kernel
theorem dX1_lastValue_15 : decode cX1_lastValue 15 = .ok (.iaload, 1) := by decide +kernel
theorem dX1_lastValue_16 : decode cX1_lastValue 16 = .ok (.iconst 1, 1) := by decide +kernel
theorem dX1_lastValue_17 : decode cX1_lastValue 17 = .ok (.if_icmp .ne 20, 3) := by decide +kernel
theorem dX1_lastValue_20 : decode cX1_lastValue 20 = .ok (.aload_n 0, 1) := by decide +kernel
theorem dX1_lastValue_21 : decode cX1_lastValue 21 = .ok (.getfield 18, 3) := by decide +kernel
theorem dX1_lastValue_24 : decode cX1_lastValue 24 = .ok (.iload_n 2, 1) := by decide +kernel
theorem dX1_lastValue_25 : decode cX1_lastValue 25 = .ok (.iaload, 1) := by decide +kernel
theorem dX1_lastValue_26 : decode cX1_lastValue 26 = .ok (.iload_n 1, 1) := by decide +kernel
theorem dX1_lastValue_27 : decode cX1_lastValue 27 = .ok (.if_icmp .ne 10, 3) := by decide +kernel
theorem dX1_lastValue_30 : decode cX1_lastValue 30 = .ok (.aload_n 0, 1) := by decide +kernel
theorem dX1_lastValue_31 : decode cX1_lastValue 31 = .ok (.getfield 21, 3) := by decide +kernel
theorem dX1_lastValue_34 : decode cX1_lastValue 34 = .ok (.iload_n 2, 1) := by decide +kernel
theorem dX1_lastValue_35 : decode cX1_lastValue 35 = .ok (.iaload, 1) := by decide +kernel
theorem dX1_lastValue_36 : decode cX1_lastValue 36 = .ok (.ireturn, 1) := by decide +kernel
theorem dX1_lastValue_37 : decode cX1_lastValue 37 = .ok (.iinc 2 (-1), 3) := by decide +kernel
theorem dX1_lastValue_40 : decode cX1_lastValue 40 = .ok (.goto (-35), 3) := by decide +kernel
theorem dX1_lastValue_43 : decode cX1_lastValue 43 = .ok (.iconst 0, 1) := by decide +kernel
theorem dX1_lastValue_44 : decode cX1_lastValue 44 = .ok (.ireturn, 1) := by decide +kernel
theorem dX1_partOf_0 : decode cX1_partOf 0 = .ok (.aload_n 0, 1) := by decide +kernel
theorem dX1_partOf_1 : decode cX1_partOf 1 = .ok (.iload_n 1, 1) := by decide +kernel
theorem dX1_partOf_2 : decode cX1_partOf 2 = .ok (.invokevirtual 64, 3) := by decide +kernel
theorem dX1_partOf_5 : decode cX1_partOf 5 = .ok (.ifCond .ne 5, 3) := by decide +kernel
theorem dX1_partOf_8 : decode cX1_partOf 8 = .ok (.iconst 0, 1) := by decide +kernel
theorem dX1_partOf_9 : decode cX1_partOf 9 = .ok (.ireturn, 1) := by decide +kernel
theorem dX1_partOf_10 : decode cX1_partOf 10 = .ok (.iload_n 2, 1) := by decide +kernel
theorem dX1_partOf_11 : decode cX1_partOf 11 = .ok (.tableswitch 79 0 5 #[37, 44, 51, 58, 65, 72], 37) := by decide +kernel
theorem dX1_partOf_48 : decode cX1_partOf 48 = .ok (.aload_n 0, 1) := by decide +kernel
theorem dX1_partOf_49 : decode cX1_partOf 49 = .ok (.getfield 9, 3) := by decide +kernel
theorem dX1_partOf_52 : decode cX1_partOf 52 = .ok (.iload_n 1, 1) := by decide +kernel
theorem dX1_partOf_53 : decode cX1_partOf 53 = .ok (.iaload, 1) := by decide +kernel
theorem dX1_partOf_54 : decode cX1_partOf 54 = .ok (.ireturn, 1) := by decide +kernel
theorem dX1_partOf_55 : decode cX1_partOf 55 = .ok (.aload_n 0, 1) := by decide +kernel
theorem dX1_partOf_56 : decode cX1_partOf 56 = .ok (.getfield 15, 3) := by decide +kernel
theorem dX1_partOf_59 : decode cX1_partOf 59 = .ok (.iload_n 1, 1) := by decide +kernel
theorem dX1_partOf_60 : decode cX1_partOf 60 = .ok (.iaload, 1) := by decide +kernel
theorem dX1_partOf_61 : decode cX1_partOf 61 = .ok (.ireturn, 1) := by decide +kernel
theorem dX1_partOf_62 : decode cX1_partOf 62 = .ok (.aload_n 0, 1) := by decide +kernel
theorem dX1_partOf_63 : decode cX1_partOf 63 = .ok (.getfield 18, 3) := by decide +kernel
theorem dX1_partOf_66 : decode cX1_partOf 66 = .ok (.iload_n 1, 1) := by decide +kernel
theorem dX1_partOf_67 : decode cX1_partOf 67 = .ok (.iaload, 1) := by decide +kernel
theorem dX1_partOf_68 : decode cX1_partOf 68 = .ok (.ireturn, 1) := by decide +kernel
theorem dX1_partOf_69 : decode cX1_partOf 69 = .ok (.aload_n 0, 1) := by decide +kernel
theorem dX1_partOf_70 : decode cX1_partOf 70 = .ok (.getfield 21, 3) := by decide +kernel
theorem dX1_partOf_73 : decode cX1_partOf 73 = .ok (.iload_n 1, 1) := by decide +kernel
theorem dX1_partOf_74 : decode cX1_partOf 74 = .ok (.iaload, 1) := by decide +kernel
theorem dX1_partOf_75 : decode cX1_partOf 75 = .ok (.ireturn, 1) := by decide +kernel
theorem dX1_partOf_76 : decode cX1_partOf 76 = .ok (.aload_n 0, 1) := by decide +kernel
theorem dX1_partOf_77 : decode cX1_partOf 77 = .ok (.getfield 27, 3) := by decide +kernel
theorem dX1_partOf_80 : decode cX1_partOf 80 = .ok (.iload_n 1, 1) := by decide +kernel
theorem dX1_partOf_81 : decode cX1_partOf 81 = .ok (.iaload, 1) := by decide +kernel
theorem dX1_partOf_82 : decode cX1_partOf 82 = .ok (.ireturn, 1) := by decide +kernel
theorem dX1_partOf_83 : decode cX1_partOf 83 = .ok (.aload_n 0, 1) := by decide +kernel
theorem dX1_partOf_84 : decode cX1_partOf 84 = .ok (.getfield 24, 3) := by decide +kernel
theorem dX1_partOf_87 : decode cX1_partOf 87 = .ok (.iload_n 1, 1) := by decide +kernel
theorem dX1_partOf_88 : decode cX1_partOf 88 = .ok (.iaload, 1) := by decide +kernel
theorem dX1_partOf_89 : decode cX1_partOf 89 = .ok (.ireturn, 1) := by decide +kernel
theorem dX1_partOf_90 : decode cX1_partOf 90 = .ok (.aload_n 0, 1) := by decide +kernel
theorem dX1_partOf_91 : decode cX1_partOf 91 = .ok (.getfield 27, 3) := by decide +kernel
theorem dX1_partOf_94 : decode cX1_partOf 94 = .ok (.iload_n 1, 1) := by decide +kernel
theorem dX1_partOf_95 : decode cX1_partOf 95 = .ok (.iaload, 1) := by decide +kernel
theorem dX1_partOf_96 : decode cX1_partOf 96 = .ok (.aload_n 0, 1) := by decide +kernel
theorem dX1_partOf_97 : decode cX1_partOf 97 = .ok (.iload_n 1, 1) := by decide +kernel
theorem dX1_partOf_98 : decode cX1_partOf 98 = .ok (.invokevirtual 44, 3) := by decide +kernel
theorem dX1_partOf_101 : decode cX1_partOf 101 = .ok (.if_icmp .ne 7, 3) := by decide +kernel
theorem dX1_partOf_104 : decode cX1_partOf 104 = .ok (.iconst 1, 1) := by decide +kernel
theorem dX1_partOf_105 : decode cX1_partOf 105 = .ok (.goto 4, 3) := by decide +kernel
theorem dX1_partOf_108 : decode cX1_partOf 108 = .ok (.iconst 0, 1) := by decide +kernel
theorem dX1_partOf_109 : decode cX1_partOf 109 = .ok (.ireturn, 1) := by decide +kernel
theorem dX1_sharedWith_0 : decode cX1_sharedWith 0 = .ok (.aload_n 0, 1) := by decide +kernel
theorem dX1_sharedWith_1 : decode cX1_sharedWith 1 = .ok (.getfield 27, 3) := by decide +kernel
theorem dX1_sharedWith_4 : decode cX1_sharedWith 4 = .ok (.aload_n 1, 1) := by decide +kernel
theorem dX1_sharedWith_5 : decode cX1_sharedWith 5 = .ok (.getfield 27, 3) := by decide +kernel
theorem dX1_sharedWith_8 : decode cX1_sharedWith 8 = .ok (.aload_n 0, 1) := by decide +kernel
theorem dX1_sharedWith_9 : decode cX1_sharedWith 9 = .ok (.getfield 30, 3) := by decide +kernel
theorem dX1_sharedWith_12 : decode cX1_sharedWith 12 = .ok (.aload_n 1, 1) := by decide +kernel
theorem dX1_sharedWith_13 : decode cX1_sharedWith 13 = .ok (.getfield 30, 3) := by decide +kernel
theorem dX1_sharedWith_16 : decode cX1_sharedWith 16 = .ok (.invokestatic 68, 3) := by decide +kernel
theorem dX1_sharedWith_19 : decode cX1_sharedWith 19 = .ok (.invokestatic 74, 3) := by decide +kernel
theorem dX1_sharedWith_22 : decode cX1_sharedWith 22 = .ok (.iconst 1, 1) := by decide +kernel
theorem dX1_sharedWith_23 : decode cX1_sharedWith 23 = .ok (.isub, 1) := by decide +kernel
theorem dX1_sharedWith_24 : decode cX1_sharedWith 24 = .ok (.ireturn, 1) := by decide +kernel
theorem dX1_blocksOf_0 : decode cX1_blocksOf 0 = .ok (.iconst 0, 1) := by decide +kernel
theorem dX1_blocksOf_1 : decode cX1_blocksOf 1 = .ok (.istore_n 3, 1) := by decide +kernel
theorem dX1_blocksOf_2 : decode cX1_blocksOf 2 = .ok (.iload_n 2, 1) := by decide +kernel
theorem dX1_blocksOf_3 : decode cX1_blocksOf 3 = .ok (.iconst 1, 1) := by decide +kernel
theorem dX1_blocksOf_4 : decode cX1_blocksOf 4 = .ok (.iadd, 1) := by decide +kernel
theorem dX1_blocksOf_5 : decode cX1_blocksOf 5 = .ok (.istore 4, 2) := by decide +kernel
theorem dX1_blocksOf_7 : decode cX1_blocksOf 7 = .ok (.iload 4, 2) := by decide +kernel
theorem dX1_blocksOf_9 : decode cX1_blocksOf 9 = .ok (.aload_n 0, 1) := by decide +kernel
theorem dX1_blocksOf_10 : decode cX1_blocksOf 10 = .ok (.getfield 30, 3) := by decide +kernel
theorem dX1_blocksOf_13 : decode cX1_blocksOf 13 = .ok (.if_icmp .gt 32, 3) := by decide +kernel
theorem dX1_blocksOf_16 : decode cX1_blocksOf 16 = .ok (.aload_n 0, 1) := by decide +kernel
theorem dX1_blocksOf_17 : decode cX1_blocksOf 17 = .ok (.getfield 9, 3) := by decide +kernel
theorem dX1_blocksOf_20 : decode cX1_blocksOf 20 = .ok (.iload 4, 2) := by decide +kernel
theorem dX1_blocksOf_22 : decode cX1_blocksOf 22 = .ok (.iaload, 1) := by decide +kernel
theorem dX1_blocksOf_23 : decode cX1_blocksOf 23 = .ok (.iload_n 1, 1) := by decide +kernel
theorem dX1_blocksOf_24 : decode cX1_blocksOf 24 = .ok (.if_icmp .ne 15, 3) := by decide +kernel
theorem dX1_blocksOf_27 : decode cX1_blocksOf 27 = .ok (.iload_n 3, 1) := by decide +kernel
theorem dX1_blocksOf_28 : decode cX1_blocksOf 28 = .ok (.iconst 1, 1) := by decide +kernel
theorem dX1_blocksOf_29 : decode cX1_blocksOf 29 = .ok (.aload_n 0, 1) := by decide +kernel
theorem dX1_blocksOf_30 : decode cX1_blocksOf 30 = .ok (.getfield 18, 3) := by decide +kernel
theorem dX1_blocksOf_33 : decode cX1_blocksOf 33 = .ok (.iload 4, 2) := by decide +kernel
theorem dX1_blocksOf_35 : decode cX1_blocksOf 35 = .ok (.iaload, 1) := by decide +kernel
theorem dX1_blocksOf_36 : decode cX1_blocksOf 36 = .ok (.ishl, 1) := by decide +kernel
theorem dX1_blocksOf_37 : decode cX1_blocksOf 37 = .ok (.ior, 1) := by decide +kernel
theorem dX1_blocksOf_38 : decode cX1_blocksOf 38 = .ok (.istore_n 3, 1) := by decide +kernel
theorem dX1_blocksOf_39 : decode cX1_blocksOf 39 = .ok (.iinc 4 1, 3) := by decide +kernel
theorem dX1_blocksOf_42 : decode cX1_blocksOf 42 = .ok (.goto (-35), 3) := by decide +kernel
theorem dX1_blocksOf_45 : decode cX1_blocksOf 45 = .ok (.iload_n 3, 1) := by decide +kernel
theorem dX1_blocksOf_46 : decode cX1_blocksOf 46 = .ok (.ireturn, 1) := by decide +kernel
theorem dX1_conflictsWith_0 : decode cX1_conflictsWith 0 = .ok (.aload_n 0, 1) := by decide +kernel
theorem dX1_conflictsWith_1 : decode cX1_conflictsWith 1 = .ok (.aload_n 1, 1) := by decide +kernel
theorem dX1_conflictsWith_2 : decode cX1_conflictsWith 2 = .ok (.invokevirtual 78, 3) := by decide +kernel
theorem dX1_conflictsWith_5 : decode cX1_conflictsWith 5 = .ok (.istore_n 2, 1) := by decide +kernel
theorem dX1_conflictsWith_6 : decode cX1_conflictsWith 6 = .ok (.aload_n 0, 1) := by decide +kernel
theorem dX1_conflictsWith_7 : decode cX1_conflictsWith 7 = .ok (.iconst 1, 1) := by decide +kernel
theorem dX1_conflictsWith_8 : decode cX1_conflictsWith 8 = .ok (.iload_n 2, 1) := by decide +kernel
theorem dX1_conflictsWith_9 : decode cX1_conflictsWith 9 = .ok (.invokevirtual 82, 3) := by decide +kernel
theorem dX1_conflictsWith_12 : decode cX1_conflictsWith 12 = .ok (.istore_n 3, 1) := by decide +kernel
theorem dX1_conflictsWith_13 : decode cX1_conflictsWith 13 = .ok (.aload_n 1, 1) := by decide +kernel
theorem dX1_conflictsWith_14 : decode cX1_conflictsWith 14 = .ok (.iconst 1, 1) := by decide +kernel
theorem dX1_conflictsWith_15 : decode cX1_conflictsWith 15 = .ok (.iload_n 2, 1) := by decide +kernel
theorem dX1_conflictsWith_16 : decode cX1_conflictsWith 16 = .ok (.invokevirtual 82, 3) := by decide +kernel
theorem dX1_conflictsWith_19 : decode cX1_conflictsWith 19 = .ok (.istore 4, 2) := by decide +kernel
theorem dX1_conflictsWith_21 : decode cX1_conflictsWith 21 = .ok (.iload_n 3, 1) := by decide +kernel
theorem dX1_conflictsWith_22 : decode cX1_conflictsWith 22 = .ok (.aload_n 0, 1) := by decide +kernel
theorem dX1_conflictsWith_23 : decode cX1_conflictsWith 23 = .ok (.iconst 0, 1) := by decide +kernel
theorem dX1_conflictsWith_24 : decode cX1_conflictsWith 24 = .ok (.iload_n 2, 1) := by decide +kernel
theorem dX1_conflictsWith_25 : decode cX1_conflictsWith 25 = .ok (.invokevirtual 82, 3) := by decide +kernel
theorem dX1_conflictsWith_28 : decode cX1_conflictsWith 28 = .ok (.ior, 1) := by decide +kernel
theorem dX1_conflictsWith_29 : decode cX1_conflictsWith 29 = .ok (.istore 5, 2) := by decide +kernel
theorem dX1_conflictsWith_31 : decode cX1_conflictsWith 31 = .ok (.iload 4, 2) := by decide +kernel
theorem dX1_conflictsWith_33 : decode cX1_conflictsWith 33 = .ok (.aload_n 1, 1) := by decide +kernel
theorem dX1_conflictsWith_34 : decode cX1_conflictsWith 34 = .ok (.iconst 0, 1) := by decide +kernel
theorem dX1_conflictsWith_35 : decode cX1_conflictsWith 35 = .ok (.iload_n 2, 1) := by decide +kernel
theorem dX1_conflictsWith_36 : decode cX1_conflictsWith 36 = .ok (.invokevirtual 82, 3) := by decide +kernel
theorem dX1_conflictsWith_39 : decode cX1_conflictsWith 39 = .ok (.ior, 1) := by decide +kernel
theorem dX1_conflictsWith_40 : decode cX1_conflictsWith 40 = .ok (.istore 6, 2) := by decide +kernel
theorem dX1_conflictsWith_42 : decode cX1_conflictsWith 42 = .ok (.iload_n 3, 1) := by decide +kernel
theorem dX1_conflictsWith_43 : decode cX1_conflictsWith 43 = .ok (.iload 6, 2) := by decide +kernel
theorem dX1_conflictsWith_45 : decode cX1_conflictsWith 45 = .ok (.iand, 1) := by decide +kernel
theorem dX1_conflictsWith_46 : decode cX1_conflictsWith 46 = .ok (.iload 4, 2) := by decide +kernel
theorem dX1_conflictsWith_48 : decode cX1_conflictsWith 48 = .ok (.iload 5, 2) := by decide +kernel
theorem dX1_conflictsWith_50 : decode cX1_conflictsWith 50 = .ok (.iand, 1) := by decide +kernel
theorem dX1_conflictsWith_51 : decode cX1_conflictsWith 51 = .ok (.ior, 1) := by decide +kernel
theorem dX1_conflictsWith_52 : decode cX1_conflictsWith 52 = .ok (.ireturn, 1) := by decide +kernel
theorem dX2_init_0 : decode cX2_init 0 = .ok (.aload_n 0, 1) := by decide +kernel
theorem dX2_init_1 : decode cX2_init 1 = .ok (.invokespecial 3, 3) := by decide +kernel
theorem dX2_init_4 : decode cX2_init 4 = .ok (.aload_n 0, 1) := by decide +kernel
theorem dX2_init_5 : decode cX2_init 5 = .ok (.sipush 201, 3) := by decide +kernel
theorem dX2_init_8 : decode cX2_init 8 = .ok (.newarray .int, 2) := by decide +kernel
theorem dX2_init_10 : decode cX2_init 10 = .ok (.putfield 9, 3) := by decide +kernel
theorem dX2_init_13 : decode cX2_init 13 = .ok (.aload_n 0, 1) := by decide +kernel
theorem dX2_init_14 : decode cX2_init 14 = .ok (.bipush 6, 2) := by decide +kernel
theorem dX2_init_16 : decode cX2_init 16 = .ok (.newarray .int, 2) := by decide +kernel
theorem dX2_init_18 : decode cX2_init 18 = .ok (.putfield 15, 3) := by decide +kernel
theorem dX2_init_21 : decode cX2_init 21 = .ok (.return_, 1) := by decide +kernel
theorem dX2_begin_0 : decode cX2_begin 0 = .ok (.aload_n 0, 1) := by decide +kernel
theorem dX2_begin_1 : decode cX2_begin 1 = .ok (.getfield 9, 3) := by decide +kernel
theorem dX2_begin_4 : decode cX2_begin 4 = .ok (.iconst 0, 1) := by decide +kernel
theorem dX2_begin_5 : decode cX2_begin 5 = .ok (.iconst 1, 1) := by decide +kernel
theorem dX2_begin_6 : decode cX2_begin 6 = .ok (.iastore, 1) := by decide +kernel
theorem dX2_begin_7 : decode cX2_begin 7 = .ok (.aload_n 0, 1) := by decide +kernel
theorem dX2_begin_8 : decode cX2_begin 8 = .ok (.getfield 15, 3) := by decide +kernel
theorem dX2_begin_11 : decode cX2_begin 11 = .ok (.iconst 0, 1) := by decide +kernel
theorem dX2_begin_12 : decode cX2_begin 12 = .ok (.invokestatic 18, 3) := by decide +kernel
theorem dX2_begin_15 : decode cX2_begin 15 = .ok (.aload_n 0, 1) := by decide +kernel
theorem dX2_begin_16 : decode cX2_begin 16 = .ok (.iconst 0, 1) := by decide +kernel
theorem dX2_begin_17 : decode cX2_begin 17 = .ok (.putfield 24, 3) := by decide +kernel
theorem dX2_begin_20 : decode cX2_begin 20 = .ok (.aload_n 0, 1) := by decide +kernel
theorem dX2_begin_21 : decode cX2_begin 21 = .ok (.iconst 0, 1) := by decide +kernel
theorem dX2_begin_22 : decode cX2_begin 22 = .ok (.putfield 28, 3) := by decide +kernel
theorem dX2_begin_25 : decode cX2_begin 25 = .ok (.aload_n 0, 1) := by decide +kernel
theorem dX2_begin_26 : decode cX2_begin 26 = .ok (.iconst 0, 1) := by decide +kernel
theorem dX2_begin_27 : decode cX2_begin 27 = .ok (.putfield 31, 3) := by decide +kernel
theorem dX2_begin_30 : decode cX2_begin 30 = .ok (.aload_n 0, 1) := by decide +kernel
theorem dX2_begin_31 : decode cX2_begin 31 = .ok (.iconst 0, 1) := by decide +kernel
theorem dX2_begin_32 : decode cX2_begin 32 = .ok (.putfield 34, 3) := by decide +kernel
theorem dX2_begin_35 : decode cX2_begin 35 = .ok (.return_, 1) := by decide +kernel
theorem dX2_lastHash_0 : decode cX2_lastHash 0 = .ok (.aload_n 0, 1) := by decide +kernel
theorem dX2_lastHash_1 : decode cX2_lastHash 1 = .ok (.getfield 9, 3) := by decide +kernel
theorem dX2_lastHash_4 : decode cX2_lastHash 4 = .ok (.aload_n 0, 1) := by decide +kernel
theorem dX2_lastHash_5 : decode cX2_lastHash 5 = .ok (.getfield 24, 3) := by decide +kernel
theorem dX2_lastHash_8 : decode cX2_lastHash 8 = .ok (.iaload, 1) := by decide +kernel
theorem dX2_lastHash_9 : decode cX2_lastHash 9 = .ok (.ireturn, 1) := by decide +kernel
theorem dX2_takeHistory_0 : decode cX2_takeHistory 0 = .ok (.aload_n 0, 1) := by decide +kernel
theorem dX2_takeHistory_1 : decode cX2_takeHistory 1 = .ok (.aload_n 1, 1) := by decide +kernel
theorem dX2_takeHistory_2 : decode cX2_takeHistory 2 = .ok (.getfield 38, 3) := by decide +kernel
theorem dX2_takeHistory_5 : decode cX2_takeHistory 5 = .ok (.putfield 24, 3) := by decide +kernel
theorem dX2_takeHistory_8 : decode cX2_takeHistory 8 = .ok (.aload_n 1, 1) := by decide +kernel
theorem dX2_takeHistory_9 : decode cX2_takeHistory 9 = .ok (.getfield 43, 3) := by decide +kernel
theorem dX2_takeHistory_12 : decode cX2_takeHistory 12 = .ok (.iconst 0, 1) := by decide +kernel
theorem dX2_takeHistory_13 : decode cX2_takeHistory 13 = .ok (.aload_n 0, 1) := by decide +kernel
theorem dX2_takeHistory_14 : decode cX2_takeHistory 14 = .ok (.getfield 9, 3) := by decide +kernel
theorem dX2_takeHistory_17 : decode cX2_takeHistory 17 = .ok (.iconst 0, 1) := by decide +kernel
theorem dX2_takeHistory_18 : decode cX2_takeHistory 18 = .ok (.aload_n 0, 1) := by decide +kernel
theorem dX2_takeHistory_19 : decode cX2_takeHistory 19 = .ok (.getfield 24, 3) := by decide +kernel
theorem dX2_takeHistory_22 : decode cX2_takeHistory 22 = .ok (.iconst 1, 1) := by decide +kernel
theorem dX2_takeHistory_23 : decode cX2_takeHistory 23 = .ok (.iadd, 1) := by decide +kernel
theorem dX2_takeHistory_24 : decode cX2_takeHistory 24 = .ok (.invokestatic 44, 3) := by decide +kernel
theorem dX2_takeHistory_27 : decode cX2_takeHistory 27 = .ok (.aload_n 0, 1) := by decide +kernel
theorem dX2_takeHistory_28 : decode cX2_takeHistory 28 = .ok (.getfield 15, 3) := by decide +kernel
theorem dX2_takeHistory_31 : decode cX2_takeHistory 31 = .ok (.iconst 0, 1) := by decide +kernel
theorem dX2_takeHistory_32 : decode cX2_takeHistory 32 = .ok (.invokestatic 18, 3) := by decide +kernel
theorem dX2_takeHistory_35 : decode cX2_takeHistory 35 = .ok (.iconst 1, 1) := by decide +kernel
theorem dX2_takeHistory_36 : decode cX2_takeHistory 36 = .ok (.istore_n 2, 1) := by decide +kernel
theorem dX2_takeHistory_37 : decode cX2_takeHistory 37 = .ok (.iload_n 2, 1) := by decide +kernel
theorem dX2_takeHistory_38 : decode cX2_takeHistory 38 = .ok (.aload_n 0, 1) := by decide +kernel
theorem dX2_takeHistory_39 : decode cX2_takeHistory 39 = .ok (.getfield 24, 3) := by decide +kernel
theorem dX2_takeHistory_42 : decode cX2_takeHistory 42 = .ok (.if_icmp .gt 36, 3) := by decide +kernel
theorem dX2_takeHistory_45 : decode cX2_takeHistory 45 = .ok (.aload_n 1, 1) := by decide +kernel
theorem dX2_takeHistory_46 : decode cX2_takeHistory 46 = .ok (.getfield 50, 3) := by decide +kernel
theorem dX2_takeHistory_49 : decode cX2_takeHistory 49 = .ok (.iload_n 2, 1) := by decide +kernel
theorem dX2_takeHistory_50 : decode cX2_takeHistory 50 = .ok (.iaload, 1) := by decide +kernel
theorem dX2_takeHistory_51 : decode cX2_takeHistory 51 = .ok (.istore_n 3, 1) := by decide +kernel
theorem dX2_takeHistory_52 : decode cX2_takeHistory 52 = .ok (.iload_n 3, 1) := by decide +kernel
theorem dX2_takeHistory_53 : decode cX2_takeHistory 53 = .ok (.ifCond .lt 19, 3) := by decide +kernel
theorem dX2_takeHistory_56 : decode cX2_takeHistory 56 = .ok (.iload_n 3, 1) := by decide +kernel
theorem dX2_takeHistory_57 : decode cX2_takeHistory 57 = .ok (.bipush 6, 2) := by decide +kernel
theorem dX2_takeHistory_59 : decode cX2_takeHistory 59 = .ok (.if_icmp .ge 13, 3) := by decide +kernel
theorem dX2_takeHistory_62 : decode cX2_takeHistory 62 = .ok (.aload_n 0, 1) := by decide +kernel
theorem dX2_takeHistory_63 : decode cX2_takeHistory 63 = .ok (.getfield 15, 3) := by decide +kernel
theorem dX2_takeHistory_66 : decode cX2_takeHistory 66 = .ok (.iload_n 3, 1) := by decide +kernel
theorem dX2_takeHistory_67 : decode cX2_takeHistory 67 = .ok (.dup2, 1) := by decide +kernel
theorem dX2_takeHistory_68 : decode cX2_takeHistory 68 = .ok (.iaload, 1) := by decide +kernel
theorem dX2_takeHistory_69 : decode cX2_takeHistory 69 = .ok (.iconst 1, 1) := by decide +kernel
theorem dX2_takeHistory_70 : decode cX2_takeHistory 70 = .ok (.iadd, 1) := by decide +kernel
theorem dX2_takeHistory_71 : decode cX2_takeHistory 71 = .ok (.iastore, 1) := by decide +kernel
theorem dX2_takeHistory_72 : decode cX2_takeHistory 72 = .ok (.iinc 2 1, 3) := by decide +kernel
theorem dX2_takeHistory_75 : decode cX2_takeHistory 75 = .ok (.goto (-38), 3) := by decide +kernel
theorem dX2_takeHistory_78 : decode cX2_takeHistory 78 = .ok (.return_, 1) := by decide +kernel
theorem dX2_fits_0 : decode cX2_fits 0 = .ok (.aload_n 0, 1) := by decide +kernel
theorem dX2_fits_1 : decode cX2_fits 1 = .ok (.getfield 24, 3) := by decide +kernel
theorem dX2_fits_4 : decode cX2_fits 4 = .ok (.aload_n 1, 1) := by decide +kernel
theorem dX2_fits_5 : decode cX2_fits 5 = .ok (.getfield 38, 3) := by decide +kernel
theorem dX2_fits_8 : decode cX2_fits 8 = .ok (.if_icmp .gt 28, 3) := by decide +kernel
theorem dX2_fits_11 : decode cX2_fits 11 = .ok (.aload_n 1, 1) := by decide +kernel
theorem dX2_fits_12 : decode cX2_fits 12 = .ok (.getfield 43, 3) := by decide +kernel
theorem dX2_fits_15 : decode cX2_fits 15 = .ok (.aload_n 0, 1) := by decide +kernel
theorem dX2_fits_16 : decode cX2_fits 16 = .ok (.getfield 24, 3) := by decide +kernel
theorem dX2_fits_19 : decode cX2_fits 19 = .ok (.iaload, 1) := by decide +kernel
theorem dX2_fits_20 : decode cX2_fits 20 = .ok (.aload_n 0, 1) := by decide +kernel
theorem dX2_fits_21 : decode cX2_fits 21 = .ok (.getfield 9, 3) := by decide +kernel
theorem dX2_fits_24 : decode cX2_fits 24 = .ok (.aload_n 0, 1) := by decide +kernel
theorem dX2_fits_25 : decode cX2_fits 25 = .ok (.getfield 24, 3) := by decide +kernel
theorem dX2_fits_28 : decode cX2_fits 28 = .ok (.iaload, 1) := by decide +kernel
theorem dX2_fits_29 : decode cX2_fits 29 = .ok (.if_icmp .ne 7, 3) := by decide +kernel
theorem dX2_fits_32 : decode cX2_fits 32 = .ok (.iconst 1, 1) := by decide +kernel
theorem dX2_fits_33 : decode cX2_fits 33 = .ok (.goto 4, 3) := by decide +kernel
theorem dX2_fits_36 : decode cX2_fits 36 = .ok (.iconst 0, 1) := by decide +kernel
theorem dX2_fits_37 : decode cX2_fits 37 = .ok (.ireturn, 1) := by decide +kernel
theorem dX2_isForkedFrom_0 : decode cX2_isForkedFrom 0 = .ok (.aload_n 0, 1) := by decide +kernel
theorem dX2_isForkedFrom_1 : decode cX2_isForkedFrom 1 = .ok (.getfield 24, 3) := by decide +kernel
theorem dX2_isForkedFrom_4 : decode cX2_isForkedFrom 4 = .ok (.aload_n 1, 1) := by decide +kernel
theorem dX2_isForkedFrom_5 : decode cX2_isForkedFrom 5 = .ok (.getfield 24, 3) := by decide +kernel
theorem dX2_isForkedFrom_8 : decode cX2_isForkedFrom 8 = .ok (.invokestatic 53, 3) := by decide +kernel
theorem dX2_isForkedFrom_11 : decode cX2_isForkedFrom 11 = .ok (.istore_n 2, 1) := by decide +kernel
theorem dX2_isForkedFrom_12 : decode cX2_isForkedFrom 12 = .ok (.aload_n 0, 1) := by decide +kernel
theorem dX2_isForkedFrom_13 : decode cX2_isForkedFrom 13 = .ok (.getfield 9, 3) := by decide +kernel
theorem dX2_isForkedFrom_16 : decode cX2_isForkedFrom 16 = .ok (.iload_n 2, 1) := by decide +kernel
theorem dX2_isForkedFrom_17 : decode cX2_isForkedFrom 17 = .ok (.iaload, 1) := by decide +kernel
theorem dX2_isForkedFrom_18 : decode cX2_isForkedFrom 18 = .ok (.aload_n 1, 1) := by decide +kernel
theorem dX2_isForkedFrom_19 : decode cX2_isForkedFrom 19 = .ok (.getfield 9, 3) := by decide +kernel
theorem dX2_isForkedFrom_22 : decode cX2_isForkedFrom 22 = .ok (.iload_n 2, 1) := by decide +kernel
theorem dX2_isForkedFrom_23 : decode cX2_isForkedFrom 23 = .ok (.iaload, 1) := by decide +kernel
theorem dX2_isForkedFrom_24 : decode cX2_isForkedFrom 24 = .ok (.if_icmp .eq 7, 3) := by decide +kernel
theorem dX2_isForkedFrom_27 : decode cX2_isForkedFrom 27 = .ok (.iconst 1, 1) := by decide +kernel
theorem dX2_isForkedFrom_28 : decode cX2_isForkedFrom 28 = .ok (.goto 4, 3) := by decide +kernel
theorem dX2_isForkedFrom_31 : decode cX2_isForkedFrom 31 = .ok (.iconst 0, 1) := by decide +kernel
theorem dX2_isForkedFrom_32 : decode cX2_isForkedFrom 32 = .ok (.ireturn, 1) := by decide +kernel
theorem dX2_firstDifferenceTo_0 : decode cX2_firstDifferenceTo 0 = .ok (.aload_n 0, 1) := by decide +kernel
theorem dX2_firstDifferenceTo_1 : decode cX2_firstDifferenceTo 1 = .ok (.getfield 9, 3) := by decide +kernel
theorem dX2_firstDifferenceTo_4 : decode cX2_firstDifferenceTo 4 = .ok (.aload_n 1, 1) := by decide +kernel
theorem dX2_firstDifferenceTo_5 : decode cX2_firstDifferenceTo 5 = .ok (.getfield 9, 3) := by decide +kernel
theorem dX2_firstDifferenceTo_8 : decode cX2_firstDifferenceTo 8 = .ok (.aload_n 0, 1) := by decide +kernel
theorem dX2_firstDifferenceTo_9 : decode cX2_firstDifferenceTo 9 = .ok (.getfield 24, 3) := by decide +kernel
theorem dX2_firstDifferenceTo_12 : decode cX2_firstDifferenceTo 12 = .ok (.aload_n 1, 1) := by decide +kernel
theorem dX2_firstDifferenceTo_13 : decode cX2_firstDifferenceTo 13 = .ok (.getfield 24, 3) := by decide +kernel
theorem dX2_firstDifferenceTo_16 : decode cX2_firstDifferenceTo 16 = .ok (.invokestatic 53, 3) := by decide +kernel
theorem dX2_firstDifferenceTo_19 : decode cX2_firstDifferenceTo 19 = .ok (.invokestatic 59, 3) := by decide +kernel
theorem dX2_firstDifferenceTo_22 : decode cX2_firstDifferenceTo 22 = .ok (.ireturn, 1) := by decide +kernel
theorem dX2_orderTo_0 : decode cX2_orderTo 0 = .ok (.iconst 0, 1) := by decide +kernel
theorem dX2_orderTo_1 : decode cX2_orderTo 1 = .ok (.istore_n 2, 1) := by decide +kernel
theorem dX2_orderTo_2 : decode cX2_orderTo 2 = .ok (.iconst 0, 1) := by decide +kernel
theorem dX2_orderTo_3 : decode cX2_orderTo 3 = .ok (.istore_n 3, 1) := by decide +kernel
theorem dX2_orderTo_4 : decode cX2_orderTo 4 = .ok (.iconst 0, 1) := by decide +kernel
theorem dX2_orderTo_5 : decode cX2_orderTo 5 = .ok (.istore 4, 2) := by decide +kernel
theorem dX2_orderTo_7 : decode cX2_orderTo 7 = .ok (.iload 4, 2) := by decide +kernel
theorem dX2_orderTo_9 : decode cX2_orderTo 9 = .ok (.bipush 6, 2) := by decide +kernel
theorem dX2_orderTo_11 : decode cX2_orderTo 11 = .ok (.if_icmp .ge 63, 3) := by decide +kernel
theorem dX2_orderTo_14 : decode cX2_orderTo 14 = .ok (.iload_n 2, 1) := by decide +kernel
theorem dX2_orderTo_15 : decode cX2_orderTo 15 = .ok (.ifCond .ne 20, 3) := by decide +kernel
theorem dX2_orderTo_18 : decode cX2_orderTo 18 = .ok (.aload_n 0, 1) := by decide +kernel
theorem dX2_orderTo_19 : decode cX2_orderTo 19 = .ok (.getfield 15, 3) := by decide +kernel
theorem dX2_orderTo_22 : decode cX2_orderTo 22 = .ok (.iload 4, 2) := by decide +kernel
theorem dX2_orderTo_24 : decode cX2_orderTo 24 = .ok (.iaload, 1) := by decide +kernel
theorem dX2_orderTo_25 : decode cX2_orderTo 25 = .ok (.aload_n 1, 1) := by decide +kernel
theorem dX2_orderTo_26 : decode cX2_orderTo 26 = .ok (.getfield 15, 3) := by decide +kernel
theorem dX2_orderTo_29 : decode cX2_orderTo 29 = .ok (.iload 4, 2) := by decide +kernel
theorem dX2_orderTo_31 : decode cX2_orderTo 31 = .ok (.iaload, 1) := by decide +kernel
theorem dX2_orderTo_32 : decode cX2_orderTo 32 = .ok (.if_icmp .le 7, 3) := by decide +kernel
theorem dX2_orderTo_35 : decode cX2_orderTo 35 = .ok (.iconst 1, 1) := by decide +kernel
theorem dX2_orderTo_36 : decode cX2_orderTo 36 = .ok (.goto 4, 3) := by decide +kernel
theorem dX2_orderTo_39 : decode cX2_orderTo 39 = .ok (.iconst 0, 1) := by decide +kernel
theorem dX2_orderTo_40 : decode cX2_orderTo 40 = .ok (.istore_n 2, 1) := by decide +kernel
theorem dX2_orderTo_41 : decode cX2_orderTo 41 = .ok (.iload_n 3, 1) := by decide +kernel
theorem dX2_orderTo_42 : decode cX2_orderTo 42 = .ok (.ifCond .ne 20, 3) := by decide +kernel
theorem dX2_orderTo_45 : decode cX2_orderTo 45 = .ok (.aload_n 0, 1) := by decide +kernel
theorem dX2_orderTo_46 : decode cX2_orderTo 46 = .ok (.getfield 15, 3) := by decide +kernel
theorem dX2_orderTo_49 : decode cX2_orderTo 49 = .ok (.iload 4, 2) := by decide +kernel
theorem dX2_orderTo_51 : decode cX2_orderTo 51 = .ok (.iaload, 1) := by decide +kernel
theorem dX2_orderTo_52 : decode cX2_orderTo 52 = .ok (.aload_n 1, 1) := by decide +kernel
theorem dX2_orderTo_53 : decode cX2_orderTo 53 = .ok (.getfield 15, 3) := by decide +kernel
theorem dX2_orderTo_56 : decode cX2_orderTo 56 = .ok (.iload 4, 2) := by decide +kernel
theorem dX2_orderTo_58 : decode cX2_orderTo 58 = .ok (.iaload, 1) := by decide +kernel
theorem dX2_orderTo_59 : decode cX2_orderTo 59 = .ok (.if_icmp .ge 7, 3) := by decide +kernel
theorem dX2_orderTo_62 : decode cX2_orderTo 62 = .ok (.iconst 1, 1) := by decide +kernel
theorem dX2_orderTo_63 : decode cX2_orderTo 63 = .ok (.goto 4, 3) := by decide +kernel
theorem dX2_orderTo_66 : decode cX2_orderTo 66 = .ok (.iconst 0, 1) := by decide +kernel
theorem dX2_orderTo_67 : decode cX2_orderTo 67 = .ok (.istore_n 3, 1) := by decide +kernel
theorem dX2_orderTo_68 : decode cX2_orderTo 68 = .ok (.iinc 4 1, 3) := by decide +kernel
theorem dX2_orderTo_71 : decode cX2_orderTo 71 = .ok (.goto (-64), 3) := by decide +kernel
theorem dX2_orderTo_74 : decode cX2_orderTo 74 = .ok (.iload_n 2, 1) := by decide +kernel
theorem dX2_orderTo_75 : decode cX2_orderTo 75 = .ok (.ifCond .eq 13, 3) := by decide +kernel
theorem dX2_orderTo_78 : decode cX2_orderTo 78 = .ok (.iload_n 3, 1) := by decide +kernel
theorem dX2_orderTo_79 : decode cX2_orderTo 79 = .ok (.ifCond .eq 7, 3) := by decide +kernel
theorem dX2_orderTo_82 : decode cX2_orderTo 82 = .ok (.iconst 3, 1) := by decide +kernel
theorem dX2_orderTo_83 : decode cX2_orderTo 83 = .ok (.goto 4, 3) := by decide +kernel
theorem dX2_orderTo_86 : decode cX2_orderTo 86 = .ok (.iconst 2, 1) := by decide +kernel
theorem dX2_orderTo_87 : decode cX2_orderTo 87 = .ok (.ireturn, 1) := by decide +kernel
theorem dX2_orderTo_88 : decode cX2_orderTo 88 = .ok (.iload_n 3, 1) := by decide +kernel
theorem dX2_orderTo_89 : decode cX2_orderTo 89 = .ok (.ifCond .eq 7, 3) := by decide +kernel
theorem dX2_orderTo_92 : decode cX2_orderTo 92 = .ok (.iconst 1, 1) := by decide +kernel
theorem dX2_orderTo_93 : decode cX2_orderTo 93 = .ok (.goto 4, 3) := by decide +kernel
theorem dX2_orderTo_96 : decode cX2_orderTo 96 = .ok (.iconst 0, 1) := by decide +kernel
theorem dX2_orderTo_97 : decode cX2_orderTo 97 = .ok (.ireturn, 1) := by decide +kernel
theorem dX4_init_0 : decode cX4_init 0 = .ok (.aload_n 0, 1) := by decide +kernel
theorem dX4_init_1 : decode cX4_init 1 = .ok (.invokespecial 1, 3) := by decide +kernel
theorem dX4_init_4 : decode cX4_init 4 = .ok (.aload_n 0, 1) := by decide +kernel
theorem dX4_init_5 : decode cX4_init 5 = .ok (.iload_n 1, 1) := by decide +kernel
theorem dX4_init_6 : decode cX4_init 6 = .ok (.iconst 1, 1) := by decide +kernel
theorem dX4_init_7 : decode cX4_init 7 = .ok (.invokestatic 7, 3) := by decide +kernel
theorem dX4_init_10 : decode cX4_init 10 = .ok (.putfield 13, 3) := by decide +kernel
theorem dX4_init_13 : decode cX4_init 13 = .ok (.aload_n 0, 1) := by decide +kernel
theorem dX4_init_14 : decode cX4_init 14 = .ok (.iload_n 2, 1) := by decide +kernel
theorem dX4_init_15 : decode cX4_init 15 = .ok (.iconst 1, 1) := by decide +kernel
theorem dX4_init_16 : decode cX4_init 16 = .ok (.invokestatic 7, 3) := by decide +kernel
theorem dX4_init_19 : decode cX4_init 19 = .ok (.putfield 19, 3) := by decide +kernel
theorem dX4_init_22 : decode cX4_init 22 = .ok (.aload_n 0, 1) := by decide +kernel
theorem dX4_init_23 : decode cX4_init 23 = .ok (.aload_n 0, 1) := by decide +kernel
theorem dX4_init_24 : decode cX4_init 24 = .ok (.getfield 13, 3) := by decide +kernel
theorem dX4_init_27 : decode cX4_init 27 = .ok (.aload_n 0, 1) := by decide +kernel
theorem dX4_init_28 : decode cX4_init 28 = .ok (.getfield 19, 3) := by decide +kernel
theorem dX4_init_31 : decode cX4_init 31 = .ok (.imul, 1) := by decide +kernel
theorem dX4_init_32 : decode cX4_init 32 = .ok (.newarray .int, 2) := by decide +kernel
theorem dX4_init_34 : decode cX4_init 34 = .ok (.putfield 22, 3) := by decide +kernel
theorem dX4_init_37 : decode cX4_init 37 = .ok (.return_, 1) := by decide +kernel
theorem dX4_hasRow_0 : decode cX4_hasRow 0 = .ok (.iload_n 1, 1) := by decide +kernel
theorem dX4_hasRow_1 : decode cX4_hasRow 1 = .ok (.ifCond .lt 15, 3) := by decide +kernel
theorem dX4_hasRow_4 : decode cX4_hasRow 4 = .ok (.iload_n 1, 1) := by decide +kernel
theorem dX4_hasRow_5 : decode cX4_hasRow 5 = .ok (.aload_n 0, 1) := by decide +kernel
theorem dX4_hasRow_6 : decode cX4_hasRow 6 = .ok (.getfield 26, 3) := by decide +kernel
theorem dX4_hasRow_9 : decode cX4_hasRow 9 = .ok (.if_icmp .ge 7, 3) := by decide +kernel
theorem dX4_hasRow_12 : decode cX4_hasRow 12 = .ok (.iconst 1, 1) := by decide +kernel
theorem dX4_hasRow_13 : decode cX4_hasRow 13 = .ok (.goto 4, 3) := by decide +kernel
theorem dX4_hasRow_16 : decode cX4_hasRow 16 = .ok (.iconst 0, 1) := by decide +kernel
theorem dX4_hasRow_17 : decode cX4_hasRow 17 = .ok (.ireturn, 1) := by decide +kernel
theorem dX4_addRow_0 : decode cX4_addRow 0 = .ok (.aload_n 0, 1) := by decide +kernel
theorem dX4_addRow_1 : decode cX4_addRow 1 = .ok (.getfield 26, 3) := by decide +kernel
theorem dX4_addRow_4 : decode cX4_addRow 4 = .ok (.aload_n 0, 1) := by decide +kernel
theorem dX4_addRow_5 : decode cX4_addRow 5 = .ok (.getfield 13, 3) := by decide +kernel
theorem dX4_addRow_8 : decode cX4_addRow 8 = .ok (.if_icmp .lt 40, 3) := by decide +kernel
theorem dX4_addRow_11 : decode cX4_addRow 11 = .ok (.aload_n 0, 1) := by decide +kernel
theorem dX4_addRow_12 : decode cX4_addRow 12 = .ok (.getfield 22, 3) := by decide +kernel
theorem dX4_addRow_15 : decode cX4_addRow 15 = .ok (.aload_n 0, 1) := by decide +kernel
theorem dX4_addRow_16 : decode cX4_addRow 16 = .ok (.getfield 19, 3) := by decide +kernel
theorem dX4_addRow_19 : decode cX4_addRow 19 = .ok (.aload_n 0, 1) := by decide +kernel
theorem dX4_addRow_20 : decode cX4_addRow 20 = .ok (.getfield 22, 3) := by decide +kernel
theorem dX4_addRow_23 : decode cX4_addRow 23 = .ok (.iconst 0, 1) := by decide +kernel
theorem dX4_addRow_24 : decode cX4_addRow 24 = .ok (.aload_n 0, 1) := by decide +kernel
theorem dX4_addRow_25 : decode cX4_addRow 25 = .ok (.getfield 13, 3) := by decide +kernel
theorem dX4_addRow_28 : decode cX4_addRow 28 = .ok (.iconst 1, 1) := by decide +kernel
theorem dX4_addRow_29 : decode cX4_addRow 29 = .ok (.isub, 1) := by decide +kernel
theorem dX4_addRow_30 : decode cX4_addRow 30 = .ok (.aload_n 0, 1) := by decide +kernel
theorem dX4_addRow_31 : decode cX4_addRow 31 = .ok (.getfield 19, 3) := by decide +kernel
theorem dX4_addRow_34 : decode cX4_addRow 34 = .ok (.imul, 1) := by decide +kernel
theorem dX4_addRow_35 : decode cX4_addRow 35 = .ok (.invokestatic 29, 3) := by decide +kernel
theorem dX4_addRow_38 : decode cX4_addRow 38 = .ok (.aload_n 0, 1) := by decide +kernel
theorem dX4_addRow_39 : decode cX4_addRow 39 = .ok (.aload_n 0, 1) := by decide +kernel
theorem dX4_addRow_40 : decode cX4_addRow 40 = .ok (.getfield 13, 3) := by decide +kernel
theorem dX4_addRow_43 : decode cX4_addRow 43 = .ok (.iconst 1, 1) := by decide +kernel
theorem dX4_addRow_44 : decode cX4_addRow 44 = .ok (.isub, 1) := by decide +kernel
theorem dX4_addRow_45 : decode cX4_addRow 45 = .ok (.putfield 26, 3) := by decide +kernel
theorem dX4_addRow_48 : decode cX4_addRow 48 = .ok (.aload_n 0, 1) := by decide +kernel
theorem dX4_addRow_49 : decode cX4_addRow 49 = .ok (.dup, 1) := by decide +kernel
theorem dX4_addRow_50 : decode cX4_addRow 50 = .ok (.getfield 26, 3) := by decide +kernel
theorem dX4_addRow_53 : decode cX4_addRow 53 = .ok (.iconst 1, 1) := by decide +kernel
theorem dX4_addRow_54 : decode cX4_addRow 54 = .ok (.iadd, 1) := by decide +kernel
theorem dX4_addRow_55 : decode cX4_addRow 55 = .ok (.putfield 26, 3) := by decide +kernel
theorem dX4_addRow_58 : decode cX4_addRow 58 = .ok (.aload_n 0, 1) := by decide +kernel
theorem dX4_addRow_59 : decode cX4_addRow 59 = .ok (.getfield 26, 3) := by decide +kernel
theorem dX4_addRow_62 : decode cX4_addRow 62 = .ok (.iconst 1, 1) := by decide +kernel
theorem dX4_addRow_63 : decode cX4_addRow 63 = .ok (.isub, 1) := by decide +kernel
theorem dX4_addRow_64 : decode cX4_addRow 64 = .ok (.ireturn, 1) := by decide +kernel
theorem dX4_partOf_0 : decode cX4_partOf 0 = .ok (.iload_n 1, 1) := by decide +kernel
theorem dX4_partOf_1 : decode cX4_partOf 1 = .ok (.aload_n 0, 1) := by decide +kernel
theorem dX4_partOf_2 : decode cX4_partOf 2 = .ok (.getfield 19, 3) := by decide +kernel
theorem dX4_partOf_5 : decode cX4_partOf 5 = .ok (.imul, 1) := by decide +kernel
theorem dX4_partOf_6 : decode cX4_partOf 6 = .ok (.iload_n 2, 1) := by decide +kernel
theorem dX4_partOf_7 : decode cX4_partOf 7 = .ok (.iadd, 1) := by decide +kernel
theorem dX4_partOf_8 : decode cX4_partOf 8 = .ok (.istore_n 3, 1) := by decide +kernel
theorem dX4_partOf_9 : decode cX4_partOf 9 = .ok (.iload_n 3, 1) := by decide +kernel
theorem dX4_partOf_10 : decode cX4_partOf 10 = .ok (.ifCond .lt 21, 3) := by decide +kernel
theorem dX4_partOf_13 : decode cX4_partOf 13 = .ok (.iload_n 3, 1) := by decide +kernel
theorem dX4_partOf_14 : decode cX4_partOf 14 = .ok (.aload_n 0, 1) := by decide +kernel
theorem dX4_partOf_15 : decode cX4_partOf 15 = .ok (.getfield 22, 3) := by decide +kernel
theorem dX4_partOf_18 : decode cX4_partOf 18 = .ok (.arraylength, 1) := by decide +kernel
theorem dX4_partOf_19 : decode cX4_partOf 19 = .ok (.if_icmp .ge 12, 3) := by decide +kernel
theorem dX4_partOf_22 : decode cX4_partOf 22 = .ok (.aload_n 0, 1) := by decide +kernel
theorem dX4_partOf_23 : decode cX4_partOf 23 = .ok (.getfield 22, 3) := by decide +kernel
theorem dX4_partOf_26 : decode cX4_partOf 26 = .ok (.iload_n 3, 1) := by decide +kernel
theorem dX4_partOf_27 : decode cX4_partOf 27 = .ok (.iaload, 1) := by decide +kernel
theorem dX4_partOf_28 : decode cX4_partOf 28 = .ok (.goto 4, 3) := by decide +kernel
theorem dX4_partOf_31 : decode cX4_partOf 31 = .ok (.iconst 0, 1) := by decide +kernel
theorem dX4_partOf_32 : decode cX4_partOf 32 = .ok (.ireturn, 1) := by decide +kernel
theorem dX4_setPart_0 : decode cX4_setPart 0 = .ok (.iload_n 1, 1) := by decide +kernel
theorem dX4_setPart_1 : decode cX4_setPart 1 = .ok (.aload_n 0, 1) := by decide +kernel
theorem dX4_setPart_2 : decode cX4_setPart 2 = .ok (.getfield 19, 3) := by decide +kernel
theorem dX4_setPart_5 : decode cX4_setPart 5 = .ok (.imul, 1) := by decide +kernel
theorem dX4_setPart_6 : decode cX4_setPart 6 = .ok (.iload_n 2, 1) := by decide +kernel
theorem dX4_setPart_7 : decode cX4_setPart 7 = .ok (.iadd, 1) := by decide +kernel
theorem dX4_setPart_8 : decode cX4_setPart 8 = .ok (.istore 4, 2) := by decide +kernel
theorem dX4_setPart_10 : decode cX4_setPart 10 = .ok (.iload 4, 2) := by decide +kernel
theorem dX4_setPart_12 : decode cX4_setPart 12 = .ok (.ifCond .lt 21, 3) := by decide +kernel
theorem dX4_setPart_15 : decode cX4_setPart 15 = .ok (.iload 4, 2) := by decide +kernel
theorem dX4_setPart_17 : decode cX4_setPart 17 = .ok (.aload_n 0, 1) := by decide +kernel
theorem dX4_setPart_18 : decode cX4_setPart 18 = .ok (.getfield 22, 3) := by decide +kernel
theorem dX4_setPart_21 : decode cX4_setPart 21 = .ok (.arraylength, 1) := by decide +kernel
theorem dX4_setPart_22 : decode cX4_setPart 22 = .ok (.if_icmp .ge 11, 3) := by decide +kernel
theorem dX4_setPart_25 : decode cX4_setPart 25 = .ok (.aload_n 0, 1) := by decide +kernel
theorem dX4_setPart_26 : decode cX4_setPart 26 = .ok (.getfield 22, 3) := by decide +kernel
theorem dX4_setPart_29 : decode cX4_setPart 29 = .ok (.iload 4, 2) := by decide +kernel
theorem dX4_setPart_31 : decode cX4_setPart 31 = .ok (.iload_n 3, 1) := by decide +kernel
theorem dX4_setPart_32 : decode cX4_setPart 32 = .ok (.iastore, 1) := by decide +kernel
theorem dX4_setPart_33 : decode cX4_setPart 33 = .ok (.return_, 1) := by decide +kernel
theorem dX5_init_0 : decode cX5_init 0 = .ok (.aload_n 0, 1) := by decide +kernel
theorem dX5_init_1 : decode cX5_init 1 = .ok (.invokespecial 3, 3) := by decide +kernel
theorem dX5_init_4 : decode cX5_init 4 = .ok (.aload_n 0, 1) := by decide +kernel
theorem dX5_init_5 : decode cX5_init 5 = .ok (.new 9, 3) := by decide +kernel
theorem dX5_init_8 : decode cX5_init 8 = .ok (.dup, 1) := by decide +kernel
theorem dX5_init_9 : decode cX5_init 9 = .ok (.invokespecial 11, 3) := by decide +kernel
theorem dX5_init_12 : decode cX5_init 12 = .ok (.putfield 12, 3) := by decide +kernel
theorem dX5_init_15 : decode cX5_init 15 = .ok (.aload_n 0, 1) := by decide +kernel
theorem dX5_init_16 : decode cX5_init 16 = .ok (.bipush 60, 2) := by decide +kernel
theorem dX5_init_18 : decode cX5_init 18 = .ok (.anewarray 18, 3) := by decide +kernel
theorem dX5_init_21 : decode cX5_init 21 = .ok (.putfield 20, 3) := by decide +kernel
theorem dX5_init_24 : decode cX5_init 24 = .ok (.aload_n 0, 1) := by decide +kernel
theorem dX5_init_25 : decode cX5_init 25 = .ok (.iconst (-1), 1) := by decide +kernel
theorem dX5_init_26 : decode cX5_init 26 = .ok (.putfield 24, 3) := by decide +kernel
theorem dX5_init_29 : decode cX5_init 29 = .ok (.iconst 0, 1) := by decide +kernel
theorem dX5_init_30 : decode cX5_init 30 = .ok (.istore_n 1, 1) := by decide +kernel
theorem dX5_init_31 : decode cX5_init 31 = .ok (.iload_n 1, 1) := by decide +kernel
theorem dX5_init_32 : decode cX5_init 32 = .ok (.bipush 60, 2) := by decide +kernel
theorem dX5_init_34 : decode cX5_init 34 = .ok (.if_icmp .ge 22, 3) := by decide +kernel
theorem dX5_init_37 : decode cX5_init 37 = .ok (.aload_n 0, 1) := by decide +kernel
theorem dX5_init_38 : decode cX5_init 38 = .ok (.getfield 20, 3) := by decide +kernel
theorem dX5_init_41 : decode cX5_init 41 = .ok (.iload_n 1, 1) := by decide +kernel
theorem dX5_init_42 : decode cX5_init 42 = .ok (.new 18, 3) := by decide +kernel
theorem dX5_init_45 : decode cX5_init 45 = .ok (.dup, 1) := by decide +kernel
theorem dX5_init_46 : decode cX5_init 46 = .ok (.invokespecial 28, 3) := by decide +kernel
theorem dX5_init_49 : decode cX5_init 49 = .ok (.aastore, 1) := by decide +kernel
theorem dX5_init_50 : decode cX5_init 50 = .ok (.iinc 1 1, 3) := by decide +kernel
theorem dX5_init_53 : decode cX5_init 53 = .ok (.goto (-22), 3) := by decide +kernel
theorem dX5_init_56 : decode cX5_init 56 = .ok (.return_, 1) := by decide +kernel
theorem dX5_begin_0 : decode cX5_begin 0 = .ok (.aload_n 0, 1) := by decide +kernel
theorem dX5_begin_1 : decode cX5_begin 1 = .ok (.iconst 0, 1) := by decide +kernel
theorem dX5_begin_2 : decode cX5_begin 2 = .ok (.putfield 29, 3) := by decide +kernel
theorem dX5_begin_5 : decode cX5_begin 5 = .ok (.aload_n 0, 1) := by decide +kernel
theorem dX5_begin_6 : decode cX5_begin 6 = .ok (.iconst (-1), 1) := by decide +kernel
theorem dX5_begin_7 : decode cX5_begin 7 = .ok (.putfield 24, 3) := by decide +kernel
theorem dX5_begin_10 : decode cX5_begin 10 = .ok (.aload_n 0, 1) := by decide +kernel
theorem dX5_begin_11 : decode cX5_begin 11 = .ok (.iconst 0, 1) := by decide +kernel
theorem dX5_begin_12 : decode cX5_begin 12 = .ok (.putfield 32, 3) := by decide +kernel
theorem dX5_begin_15 : decode cX5_begin 15 = .ok (.aload_n 0, 1) := by decide +kernel
theorem dX5_begin_16 : decode cX5_begin 16 = .ok (.iconst 0, 1) := by decide +kernel
theorem dX5_begin_17 : decode cX5_begin 17 = .ok (.putfield 35, 3) := by decide +kernel
theorem dX5_begin_20 : decode cX5_begin 20 = .ok (.aload_n 0, 1) := by decide +kernel
theorem dX5_begin_21 : decode cX5_begin 21 = .ok (.getfield 12, 3) := by decide +kernel
theorem dX5_begin_24 : decode cX5_begin 24 = .ok (.iload_n 1, 1) := by decide +kernel
theorem dX5_begin_25 : decode cX5_begin 25 = .ok (.invokevirtual 38, 3) := by decide +kernel
theorem dX5_begin_28 : decode cX5_begin 28 = .ok (.return_, 1) := by decide +kernel
theorem dX5_hasFailed_0 : decode cX5_hasFailed 0 = .ok (.aload_n 0, 1) := by decide +kernel
theorem dX5_hasFailed_1 : decode cX5_hasFailed 1 = .ok (.getfield 29, 3) := by decide +kernel
theorem dX5_hasFailed_4 : decode cX5_hasFailed 4 = .ok (.ifCond .eq 7, 3) := by decide +kernel
theorem dX5_hasFailed_7 : decode cX5_hasFailed 7 = .ok (.iconst 1, 1) := by decide +kernel
theorem dX5_hasFailed_8 : decode cX5_hasFailed 8 = .ok (.goto 4, 3) := by decide +kernel
theorem dX5_hasFailed_11 : decode cX5_hasFailed 11 = .ok (.iconst 0, 1) := by decide +kernel
theorem dX5_hasFailed_12 : decode cX5_hasFailed 12 = .ok (.ireturn, 1) := by decide +kernel
theorem dX5_fail_0 : decode cX5_fail 0 = .ok (.aload_n 0, 1) := by decide +kernel
theorem dX5_fail_1 : decode cX5_fail 1 = .ok (.getfield 29, 3) := by decide +kernel
theorem dX5_fail_4 : decode cX5_fail 4 = .ok (.ifCond .ne 24, 3) := by decide +kernel
theorem dX5_fail_7 : decode cX5_fail 7 = .ok (.aload_n 0, 1) := by decide +kernel
theorem dX5_fail_8 : decode cX5_fail 8 = .ok (.iload_n 1, 1) := by decide +kernel
theorem dX5_fail_9 : decode cX5_fail 9 = .ok (.putfield 29, 3) := by decide +kernel
theorem dX5_fail_12 : decode cX5_fail 12 = .ok (.aload_n 0, 1) := by decide +kernel
theorem dX5_fail_13 : decode cX5_fail 13 = .ok (.aload_n 0, 1) := by decide +kernel
theorem dX5_fail_14 : decode cX5_fail 14 = .ok (.getfield 12, 3) := by decide +kernel
theorem dX5_fail_17 : decode cX5_fail 17 = .ok (.getfield 42, 3) := by decide +kernel
theorem dX5_fail_20 : decode cX5_fail 20 = .ok (.aload_n 0, 1) := by decide +kernel
theorem dX5_fail_21 : decode cX5_fail 21 = .ok (.getfield 35, 3) := by decide +kernel
theorem dX5_fail_24 : decode cX5_fail 24 = .ok (.iaload, 1) := by decide +kernel
theorem dX5_fail_25 : decode cX5_fail 25 = .ok (.putfield 24, 3) := by decide +kernel
theorem dX5_fail_28 : decode cX5_fail 28 = .ok (.return_, 1) := by decide +kernel
theorem dX5_parseService_0 : decode cX5_parseService 0 = .ok (.aload_n 0, 1) := by decide +kernel
theorem dX5_parseService_1 : decode cX5_parseService 1 = .ok (.iload_n 1, 1) := by decide +kernel
theorem dX5_parseService_2 : decode cX5_parseService 2 = .ok (.invokevirtual 46, 3) := by decide +kernel
theorem dX5_parseService_5 : decode cX5_parseService 5 = .ok (.aload_n 0, 1) := by decide +kernel
theorem dX5_parseService_6 : decode cX5_parseService 6 = .ok (.getstatic 49, 3) := by decide +kernel
theorem dX5_parseService_9 : decode cX5_parseService 9 = .ok (.invokevirtual 55, 3) := by decide +kernel
theorem dX5_parseService_12 : decode cX5_parseService 12 = .ok (.aload_n 0, 1) := by decide +kernel
theorem dX5_parseService_13 : decode cX5_parseService 13 = .ok (.aload_n 0, 1) := by decide +kernel
theorem dX5_parseService_14 : decode cX5_parseService 14 = .ok (.iconst 2, 1) := by decide +kernel
theorem dX5_parseService_15 : decode cX5_parseService 15 = .ok (.bipush 6, 2) := by decide +kernel
theorem dX5_parseService_17 : decode cX5_parseService 17 = .ok (.invokevirtual 59, 3) := by decide +kernel
theorem dX5_parseService_20 : decode cX5_parseService 20 = .ok (.putfield 63, 3) := by decide +kernel
theorem dX5_parseService_23 : decode cX5_parseService 23 = .ok (.aload_n 0, 1) := by decide +kernel
theorem dX5_parseService_24 : decode cX5_parseService 24 = .ok (.getstatic 66, 3) := by decide +kernel
theorem dX5_parseService_27 : decode cX5_parseService 27 = .ok (.invokevirtual 55, 3) := by decide +kernel
theorem dX5_parseService_30 : decode cX5_parseService 30 = .ok (.aload_n 0, 1) := by decide +kernel
theorem dX5_parseService_31 : decode cX5_parseService 31 = .ok (.aload_n 0, 1) := by decide +kernel
theorem dX5_parseService_32 : decode cX5_parseService 32 = .ok (.iconst 1, 1) := by decide +kernel
theorem dX5_parseService_33 : decode cX5_parseService 33 = .ok (.bipush 16, 2) := by decide +kernel
theorem dX5_parseService_35 : decode cX5_parseService 35 = .ok (.invokevirtual 59, 3) := by decide +kernel
theorem dX5_parseService_38 : decode cX5_parseService 38 = .ok (.putfield 69, 3) := by decide +kernel
theorem dX5_parseService_41 : decode cX5_parseService 41 = .ok (.aload_n 0, 1) := by decide +kernel
theorem dX5_parseService_42 : decode cX5_parseService 42 = .ok (.getstatic 72, 3) := by decide +kernel
theorem dX5_parseService_45 : decode cX5_parseService 45 = .ok (.invokevirtual 55, 3) := by decide +kernel
theorem dX5_parseService_48 : decode cX5_parseService 48 = .ok (.aload_n 0, 1) := by decide +kernel
theorem dX5_parseService_49 : decode cX5_parseService 49 = .ok (.aload_n 0, 1) := by decide +kernel
theorem dX5_parseService_50 : decode cX5_parseService 50 = .ok (.iconst 1, 1) := by decide +kernel
theorem dX5_parseService_51 : decode cX5_parseService 51 = .ok (.bipush 50, 2) := by decide +kernel
theorem dX5_parseService_53 : decode cX5_parseService 53 = .ok (.invokevirtual 59, 3) := by decide +kernel
theorem dX5_parseService_56 : decode cX5_parseService 56 = .ok (.putfield 75, 3) := by decide +kernel
theorem dX5_parseService_59 : decode cX5_parseService 59 = .ok (.aload_n 0, 1) := by decide +kernel
theorem dX5_parseService_60 : decode cX5_parseService 60 = .ok (.getstatic 78, 3) := by decide +kernel
theorem dX5_parseService_63 : decode cX5_parseService 63 = .ok (.invokevirtual 55, 3) := by decide +kernel
theorem dX5_parseService_66 : decode cX5_parseService 66 = .ok (.aload_n 0, 1) := by decide +kernel
theorem dX5_parseService_67 : decode cX5_parseService 67 = .ok (.getstatic 81, 3) := by decide +kernel
theorem dX5_parseService_70 : decode cX5_parseService 70 = .ok (.invokevirtual 55, 3) := by decide +kernel
theorem dX5_parseService_73 : decode cX5_parseService 73 = .ok (.return_, 1) := by decide +kernel
theorem dX5_parseScript_0 : decode cX5_parseScript 0 = .ok (.aload_n 0, 1) := by decide +kernel
theorem dX5_parseScript_1 : decode cX5_parseScript 1 = .ok (.iload_n 1, 1) := by decide +kernel
theorem dX5_parseScript_2 : decode cX5_parseScript 2 = .ok (.invokevirtual 46, 3) := by decide +kernel
theorem dX5_parseScript_5 : decode cX5_parseScript 5 = .ok (.aload_n 0, 1) := by decide +kernel
theorem dX5_parseScript_6 : decode cX5_parseScript 6 = .ok (.iload_n 2, 1) := by decide +kernel
theorem dX5_parseScript_7 : decode cX5_parseScript 7 = .ok (.putfield 63, 3) := by decide +kernel
theorem dX5_parseScript_10 : decode cX5_parseScript 10 = .ok (.aload_n 0, 1) := by decide +kernel
theorem dX5_parseScript_11 : decode cX5_parseScript 11 = .ok (.iload_n 3, 1) := by decide +kernel
theorem dX5_parseScript_12 : decode cX5_parseScript 12 = .ok (.putfield 69, 3) := by decide +kernel
theorem dX5_parseScript_15 : decode cX5_parseScript 15 = .ok (.iconst 0, 1) := by decide +kernel
theorem dX5_parseScript_16 : decode cX5_parseScript 16 = .ok (.istore 4, 2) := by decide +kernel
theorem dX5_parseScript_18 : decode cX5_parseScript 18 = .ok (.iload 4, 2) := by decide +kernel
theorem dX5_parseScript_20 : decode cX5_parseScript 20 = .ok (.bipush 60, 2) := by decide +kernel
theorem dX5_parseScript_22 : decode cX5_parseScript 22 = .ok (.if_icmp .gt 64, 3) := by decide +kernel
theorem dX5_parseScript_25 : decode cX5_parseScript 25 = .ok (.aload_n 0, 1) := by decide +kernel
theorem dX5_parseScript_26 : decode cX5_parseScript 26 = .ok (.invokevirtual 84, 3) := by decide +kernel
theorem dX5_parseScript_29 : decode cX5_parseScript 29 = .ok (.ifCond .ne 57, 3) := by decide +kernel
theorem dX5_parseScript_32 : decode cX5_parseScript 32 = .ok (.aload_n 0, 1) := by decide +kernel
theorem dX5_parseScript_33 : decode cX5_parseScript 33 = .ok (.invokevirtual 88, 3) := by decide +kernel
theorem dX5_parseScript_36 : decode cX5_parseScript 36 = .ok (.getstatic 81, 3) := by decide +kernel
theorem dX5_parseScript_39 : decode cX5_parseScript 39 = .ok (.if_acmp .eq 47, 3) := by decide +kernel
theorem dX5_parseScript_42 : decode cX5_parseScript 42 = .ok (.aload_n 0, 1) := by decide +kernel
theorem dX5_parseScript_43 : decode cX5_parseScript 43 = .ok (.invokevirtual 92, 3) := by decide +kernel
theorem dX5_parseScript_46 : decode cX5_parseScript 46 = .ok (.iload 4, 2) := by decide +kernel
theorem dX5_parseScript_48 : decode cX5_parseScript 48 = .ok (.bipush 60, 2) := by decide +kernel
theorem dX5_parseScript_50 : decode cX5_parseScript 50 = .ok (.if_icmp .lt 11, 3) := by decide +kernel
theorem dX5_parseScript_53 : decode cX5_parseScript 53 = .ok (.aload_n 0, 1) := by decide +kernel
theorem dX5_parseScript_54 : decode cX5_parseScript 54 = .ok (.iconst 3, 1) := by decide +kernel
theorem dX5_parseScript_55 : decode cX5_parseScript 55 = .ok (.invokevirtual 95, 3) := by decide +kernel
theorem dX5_parseScript_58 : decode cX5_parseScript 58 = .ok (.goto 22, 3) := by decide +kernel
theorem dX5_parseScript_61 : decode cX5_parseScript 61 = .ok (.aload_n 0, 1) := by decide +kernel
theorem dX5_parseScript_62 : decode cX5_parseScript 62 = .ok (.aload_n 0, 1) := by decide +kernel
theorem dX5_parseScript_63 : decode cX5_parseScript 63 = .ok (.getfield 20, 3) := by decide +kernel
theorem dX5_parseScript_66 : decode cX5_parseScript 66 = .ok (.iload 4, 2) := by decide +kernel
theorem dX5_parseScript_68 : decode cX5_parseScript 68 = .ok (.aaload, 1) := by decide +kernel
theorem dX5_parseScript_69 : decode cX5_parseScript 69 = .ok (.invokevirtual 98, 3) := by decide +kernel
theorem dX5_parseScript_72 : decode cX5_parseScript 72 = .ok (.aload_n 0, 1) := by decide +kernel
theorem dX5_parseScript_73 : decode cX5_parseScript 73 = .ok (.iload 4, 2) := by decide +kernel
theorem dX5_parseScript_75 : decode cX5_parseScript 75 = .ok (.iconst 1, 1) := by decide +kernel
theorem dX5_parseScript_76 : decode cX5_parseScript 76 = .ok (.iadd, 1) := by decide +kernel
theorem dX5_parseScript_77 : decode cX5_parseScript 77 = .ok (.putfield 32, 3) := by decide +kernel
theorem dX5_parseScript_80 : decode cX5_parseScript 80 = .ok (.iinc 4 1, 3) := by decide +kernel
theorem dX5_parseScript_83 : decode cX5_parseScript 83 = .ok (.goto (-65), 3) := by decide +kernel
theorem dX5_parseScript_86 : decode cX5_parseScript 86 = .ok (.return_, 1) := by decide +kernel
theorem dX5_checkFirstToken_0 : decode cX5_checkFirstToken 0 = .ok (.aload_n 0, 1) := by decide +kernel
theorem dX5_checkFirstToken_1 : decode cX5_checkFirstToken 1 = .ok (.invokevirtual 88, 3) := by decide +kernel
theorem dX5_checkFirstToken_4 : decode cX5_checkFirstToken 4 = .ok (.getstatic 102, 3) := by decide +kernel
theorem dX5_checkFirstToken_7 : decode cX5_checkFirstToken 7 = .ok (.if_acmp .ne 17, 3) := by decide +kernel
theorem dX5_checkFirstToken_10 : decode cX5_checkFirstToken 10 = .ok (.aload_n 0, 1) := by decide +kernel
theorem dX5_checkFirstToken_11 : decode cX5_checkFirstToken 11 = .ok (.iconst 0, 1) := by decide +kernel
theorem dX5_checkFirstToken_12 : decode cX5_checkFirstToken 12 = .ok (.aload_n 0, 1) := by decide +kernel
theorem dX5_checkFirstToken_13 : decode cX5_checkFirstToken 13 = .ok (.getfield 63, 3) := by decide +kernel
theorem dX5_checkFirstToken_16 : decode cX5_checkFirstToken 16 = .ok (.iconst 1, 1) := by decide +kernel
theorem dX5_checkFirstToken_17 : decode cX5_checkFirstToken 17 = .ok (.isub, 1) := by decide +kernel
theorem dX5_checkFirstToken_18 : decode cX5_checkFirstToken 18 = .ok (.invokevirtual 105, 3) := by decide +kernel
theorem dX5_checkFirstToken_21 : decode cX5_checkFirstToken 21 = .ok (.goto 18, 3) := by decide +kernel
theorem dX5_checkFirstToken_24 : decode cX5_checkFirstToken 24 = .ok (.aload_n 0, 1) := by decide +kernel
theorem dX5_checkFirstToken_25 : decode cX5_checkFirstToken 25 = .ok (.invokevirtual 88, 3) := by decide +kernel
theorem dX5_checkFirstToken_28 : decode cX5_checkFirstToken 28 = .ok (.getfield 109, 3) := by decide +kernel
theorem dX5_checkFirstToken_31 : decode cX5_checkFirstToken 31 = .ok (.ifCond .ne 8, 3) := by decide +kernel
theorem dX5_checkFirstToken_34 : decode cX5_checkFirstToken 34 = .ok (.aload_n 0, 1) := by decide +kernel
theorem dX5_checkFirstToken_35 : decode cX5_checkFirstToken 35 = .ok (.iconst 1, 1) := by decide +kernel
theorem dX5_checkFirstToken_36 : decode cX5_checkFirstToken 36 = .ok (.invokevirtual 95, 3) := by decide +kernel
theorem dX5_checkFirstToken_39 : decode cX5_checkFirstToken 39 = .ok (.return_, 1) := by decide +kernel
theorem dX5_parseStep_0 : decode cX5_parseStep 0 = .ok (.aload_n 0, 1) := by decide +kernel
theorem dX5_parseStep_1 : decode cX5_parseStep 1 = .ok (.invokevirtual 88, 3) := by decide +kernel
theorem dX5_parseStep_4 : decode cX5_parseStep 4 = .ok (.getstatic 102, 3) := by decide +kernel
theorem dX5_parseStep_7 : decode cX5_parseStep 7 = .ok (.if_acmp .ne 60, 3) := by decide +kernel
theorem dX5_parseStep_10 : decode cX5_parseStep 10 = .ok (.aload_n 1, 1) := by decide +kernel
theorem dX5_parseStep_11 : decode cX5_parseStep 11 = .ok (.getfield 113, 3) := by decide +kernel
theorem dX5_parseStep_14 : decode cX5_parseStep 14 = .ok (.iconst 0, 1) := by decide +kernel
theorem dX5_parseStep_15 : decode cX5_parseStep 15 = .ok (.aload_n 0, 1) := by decide +kernel
theorem dX5_parseStep_16 : decode cX5_parseStep 16 = .ok (.iconst 0, 1) := by decide +kernel
theorem dX5_parseStep_17 : decode cX5_parseStep 17 = .ok (.aload_n 0, 1) := by decide +kernel
theorem dX5_parseStep_18 : decode cX5_parseStep 18 = .ok (.getfield 63, 3) := by decide +kernel
theorem dX5_parseStep_21 : decode cX5_parseStep 21 = .ok (.iconst 1, 1) := by decide +kernel
theorem dX5_parseStep_22 : decode cX5_parseStep 22 = .ok (.isub, 1) := by decide +kernel
theorem dX5_parseStep_23 : decode cX5_parseStep 23 = .ok (.invokevirtual 59, 3) := by decide +kernel
theorem dX5_parseStep_26 : decode cX5_parseStep 26 = .ok (.iastore, 1) := by decide +kernel
theorem dX5_parseStep_27 : decode cX5_parseStep 27 = .ok (.aload_n 1, 1) := by decide +kernel
theorem dX5_parseStep_28 : decode cX5_parseStep 28 = .ok (.aload_n 0, 1) := by decide +kernel
theorem dX5_parseStep_29 : decode cX5_parseStep 29 = .ok (.invokevirtual 88, 3) := by decide +kernel
theorem dX5_parseStep_32 : decode cX5_parseStep 32 = .ok (.putfield 116, 3) := by decide +kernel
theorem dX5_parseStep_35 : decode cX5_parseStep 35 = .ok (.aload_n 0, 1) := by decide +kernel
theorem dX5_parseStep_36 : decode cX5_parseStep 36 = .ok (.aload_n 1, 1) := by decide +kernel
theorem dX5_parseStep_37 : decode cX5_parseStep 37 = .ok (.getfield 116, 3) := by decide +kernel
theorem dX5_parseStep_40 : decode cX5_parseStep 40 = .ok (.getstatic 119, 3) := by decide +kernel
theorem dX5_parseStep_43 : decode cX5_parseStep 43 = .ok (.if_acmp .ne 9, 3) := by decide +kernel
theorem dX5_parseStep_46 : decode cX5_parseStep 46 = .ok (.getstatic 119, 3) := by decide +kernel
theorem dX5_parseStep_49 : decode cX5_parseStep 49 = .ok (.goto 6, 3) := by decide +kernel
theorem dX5_parseStep_52 : decode cX5_parseStep 52 = .ok (.getstatic 122, 3) := by decide +kernel
theorem dX5_parseStep_55 : decode cX5_parseStep 55 = .ok (.invokevirtual 55, 3) := by decide +kernel
theorem dX5_parseStep_58 : decode cX5_parseStep 58 = .ok (.aload_n 0, 1) := by decide +kernel
theorem dX5_parseStep_59 : decode cX5_parseStep 59 = .ok (.aload_n 1, 1) := by decide +kernel
theorem dX5_parseStep_60 : decode cX5_parseStep 60 = .ok (.iconst 1, 1) := by decide +kernel
theorem dX5_parseStep_61 : decode cX5_parseStep 61 = .ok (.invokevirtual 125, 3) := by decide +kernel
theorem dX5_parseStep_64 : decode cX5_parseStep 64 = .ok (.goto 21, 3) := by decide +kernel
theorem dX5_parseStep_67 : decode cX5_parseStep 67 = .ok (.aload_n 1, 1) := by decide +kernel
theorem dX5_parseStep_68 : decode cX5_parseStep 68 = .ok (.aload_n 0, 1) := by decide +kernel
theorem dX5_parseStep_69 : decode cX5_parseStep 69 = .ok (.invokevirtual 88, 3) := by decide +kernel
theorem dX5_parseStep_72 : decode cX5_parseStep 72 = .ok (.putfield 116, 3) := by decide +kernel
theorem dX5_parseStep_75 : decode cX5_parseStep 75 = .ok (.aload_n 0, 1) := by decide +kernel
theorem dX5_parseStep_76 : decode cX5_parseStep 76 = .ok (.invokevirtual 129, 3) := by decide +kernel
theorem dX5_parseStep_79 : decode cX5_parseStep 79 = .ok (.aload_n 0, 1) := by decide +kernel
theorem dX5_parseStep_80 : decode cX5_parseStep 80 = .ok (.aload_n 1, 1) := by decide +kernel
theorem dX5_parseStep_81 : decode cX5_parseStep 81 = .ok (.iconst 0, 1) := by decide +kernel
theorem dX5_parseStep_82 : decode cX5_parseStep 82 = .ok (.invokevirtual 125, 3) := by decide +kernel
theorem dX5_parseStep_85 : decode cX5_parseStep 85 = .ok (.aload_n 1, 1) := by decide +kernel
theorem dX5_parseStep_86 : decode cX5_parseStep 86 = .ok (.getfield 116, 3) := by decide +kernel
theorem dX5_parseStep_89 : decode cX5_parseStep 89 = .ok (.getstatic 132, 3) := by decide +kernel
theorem dX5_parseStep_92 : decode cX5_parseStep 92 = .ok (.if_acmp .ne 21, 3) := by decide +kernel
theorem dX5_parseStep_95 : decode cX5_parseStep 95 = .ok (.aload_n 1, 1) := by decide +kernel
theorem dX5_parseStep_96 : decode cX5_parseStep 96 = .ok (.getfield 113, 3) := by decide +kernel
theorem dX5_parseStep_99 : decode cX5_parseStep 99 = .ok (.iconst 0, 1) := by decide +kernel
theorem dX5_parseStep_100 : decode cX5_parseStep 100 = .ok (.aload_n 0, 1) := by decide +kernel
theorem dX5_parseStep_101 : decode cX5_parseStep 101 = .ok (.iconst 1, 1) := by decide +kernel
theorem dX5_parseStep_102 : decode cX5_parseStep 102 = .ok (.aload_n 1, 1) := by decide +kernel
theorem dX5_parseStep_103 : decode cX5_parseStep 103 = .ok (.getfield 113, 3) := by decide +kernel
theorem dX5_parseStep_106 : decode cX5_parseStep 106 = .ok (.iconst 0, 1) := by decide +kernel
theorem dX5_parseStep_107 : decode cX5_parseStep 107 = .ok (.iaload, 1) := by decide +kernel
theorem dX5_parseStep_108 : decode cX5_parseStep 108 = .ok (.ishl, 1) := by decide +kernel
theorem dX5_parseStep_109 : decode cX5_parseStep 109 = .ok (.invokevirtual 135, 3) := by decide +kernel
theorem dX5_parseStep_112 : decode cX5_parseStep 112 = .ok (.iastore, 1) := by decide +kernel
theorem dX5_parseStep_113 : decode cX5_parseStep 113 = .ok (.aload_n 0, 1) := by decide +kernel
theorem dX5_parseStep_114 : decode cX5_parseStep 114 = .ok (.getstatic 78, 3) := by decide +kernel
theorem dX5_parseStep_117 : decode cX5_parseStep 117 = .ok (.invokevirtual 55, 3) := by decide +kernel
theorem dX5_parseStep_120 : decode cX5_parseStep 120 = .ok (.return_, 1) := by decide +kernel
theorem dX5_takeOperands_0 : decode cX5_takeOperands 0 = .ok (.aload_n 1, 1) := by decide +kernel
theorem dX5_takeOperands_1 : decode cX5_takeOperands 1 = .ok (.getfield 116, 3) := by decide +kernel
theorem dX5_takeOperands_4 : decode cX5_takeOperands 4 = .ok (.getfield 139, 3) := by decide +kernel
theorem dX5_takeOperands_7 : decode cX5_takeOperands 7 = .ok (.astore_n 3, 1) := by decide +kernel
theorem dX5_takeOperands_8 : decode cX5_takeOperands 8 = .ok (.iload_n 2, 1) := by decide +kernel
theorem dX5_takeOperands_9 : decode cX5_takeOperands 9 = .ok (.istore 4, 2) := by decide +kernel
theorem dX5_takeOperands_11 : decode cX5_takeOperands 11 = .ok (.iload 4, 2) := by decide +kernel
theorem dX5_takeOperands_13 : decode cX5_takeOperands 13 = .ok (.aload_n 3, 1) := by decide +kernel
theorem dX5_takeOperands_14 : decode cX5_takeOperands 14 = .ok (.invokevirtual 143, 3) := by decide +kernel
theorem dX5_takeOperands_17 : decode cX5_takeOperands 17 = .ok (.if_icmp .ge 52, 3) := by decide +kernel
theorem dX5_takeOperands_20 : decode cX5_takeOperands 20 = .ok (.iload 4, 2) := by decide +kernel
theorem dX5_takeOperands_22 : decode cX5_takeOperands 22 = .ok (.iconst 3, 1) := by decide +kernel
theorem dX5_takeOperands_23 : decode cX5_takeOperands 23 = .ok (.if_icmp .ge 46, 3) := by decide +kernel
theorem dX5_takeOperands_26 : decode cX5_takeOperands 26 = .ok (.aload_n 3, 1) := by decide +kernel
theorem dX5_takeOperands_27 : decode cX5_takeOperands 27 = .ok (.iload 4, 2) := by decide +kernel
theorem dX5_takeOperands_29 : decode cX5_takeOperands 29 = .ok (.invokevirtual 149, 3) := by decide +kernel
theorem dX5_takeOperands_32 : decode cX5_takeOperands 32 = .ok (.istore 5, 2) := by decide +kernel
theorem dX5_takeOperands_34 : decode cX5_takeOperands 34 = .ok (.aload_n 1, 1) := by decide +kernel
theorem dX5_takeOperands_35 : decode cX5_takeOperands 35 = .ok (.getfield 113, 3) := by decide +kernel
theorem dX5_takeOperands_38 : decode cX5_takeOperands 38 = .ok (.iload 4, 2) := by decide +kernel
theorem dX5_takeOperands_40 : decode cX5_takeOperands 40 = .ok (.aload_n 0, 1) := by decide +kernel
theorem dX5_takeOperands_41 : decode cX5_takeOperands 41 = .ok (.iload 5, 2) := by decide +kernel
theorem dX5_takeOperands_43 : decode cX5_takeOperands 43 = .ok (.bipush 110, 2) := by decide +kernel
theorem dX5_takeOperands_45 : decode cX5_takeOperands 45 = .ok (.if_icmp .ne 7, 3) := by decide +kernel
theorem dX5_takeOperands_48 : decode cX5_takeOperands 48 = .ok (.iconst 1, 1) := by decide +kernel
theorem dX5_takeOperands_49 : decode cX5_takeOperands 49 = .ok (.goto 4, 3) := by decide +kernel
theorem dX5_takeOperands_52 : decode cX5_takeOperands 52 = .ok (.iconst 0, 1) := by decide +kernel
theorem dX5_takeOperands_53 : decode cX5_takeOperands 53 = .ok (.aload_n 0, 1) := by decide +kernel
theorem dX5_takeOperands_54 : decode cX5_takeOperands 54 = .ok (.iload 5, 2) := by decide +kernel
theorem dX5_takeOperands_56 : decode cX5_takeOperands 56 = .ok (.invokevirtual 153, 3) := by decide +kernel
theorem dX5_takeOperands_59 : decode cX5_takeOperands 59 = .ok (.invokevirtual 59, 3) := by decide +kernel
theorem dX5_takeOperands_62 : decode cX5_takeOperands 62 = .ok (.iastore, 1) := by decide +kernel
theorem dX5_takeOperands_63 : decode cX5_takeOperands 63 = .ok (.iinc 4 1, 3) := by decide +kernel
theorem dX5_takeOperands_66 : decode cX5_takeOperands 66 = .ok (.goto (-55), 3) := by decide +kernel
theorem dX5_takeOperands_69 : decode cX5_takeOperands 69 = .ok (.return_, 1) := by decide +kernel
theorem dX5_greatest_0 : decode cX5_greatest 0 = .ok (.iload_n 1, 1) := by decide +kernel
theorem dX5_greatest_1 : decode cX5_greatest 1 = .ok (.lookupswitch 63 #[(98, 60), (99, 43), (107, 50), (118, 57)], 43) := by decide +kernel
theorem dX5_greatest_44 : decode cX5_greatest 44 = .ok (.aload_n 0, 1) := by decide +kernel
theorem dX5_greatest_45 : decode cX5_greatest 45 = .ok (.getfield 63, 3) := by decide +kernel
theorem dX5_greatest_48 : decode cX5_greatest 48 = .ok (.iconst 1, 1) := by decide +kernel
theorem dX5_greatest_49 : decode cX5_greatest 49 = .ok (.isub, 1) := by decide +kernel
theorem dX5_greatest_50 : decode cX5_greatest 50 = .ok (.ireturn, 1) := by decide +kernel
theorem dX5_greatest_51 : decode cX5_greatest 51 = .ok (.aload_n 0, 1) := by decide +kernel
theorem dX5_greatest_52 : decode cX5_greatest 52 = .ok (.getfield 69, 3) := by decide +kernel
theorem dX5_greatest_55 : decode cX5_greatest 55 = .ok (.iconst 1, 1) := by decide +kernel
theorem dX5_greatest_56 : decode cX5_greatest 56 = .ok (.isub, 1) := by decide +kernel
theorem dX5_greatest_57 : decode cX5_greatest 57 = .ok (.ireturn, 1) := by decide +kernel
theorem dX5_greatest_58 : decode cX5_greatest 58 = .ok (.ldc 157, 2) := by decide +kernel
theorem dX5_greatest_60 : decode cX5_greatest 60 = .ok (.ireturn, 1) := by decide +kernel
theorem dX5_greatest_61 : decode cX5_greatest 61 = .ok (.bipush 7, 2) := by decide +kernel
theorem dX5_greatest_63 : decode cX5_greatest 63 = .ok (.ireturn, 1) := by decide +kernel
theorem dX5_greatest_64 : decode cX5_greatest 64 = .ok (.sipush 200, 3) := by decide +kernel
theorem dX5_greatest_67 : decode cX5_greatest 67 = .ok (.ireturn, 1) := by decide +kernel
theorem dX5_takeRestOfSet_0 : decode cX5_takeRestOfSet 0 = .ok (.iload_n 1, 1) := by decide +kernel
theorem dX5_takeRestOfSet_1 : decode cX5_takeRestOfSet 1 = .ok (.istore_n 2, 1) := by decide +kernel
theorem dX5_takeRestOfSet_2 : decode cX5_takeRestOfSet 2 = .ok (.iconst 0, 1) := by decide +kernel
theorem dX5_takeRestOfSet_3 : decode cX5_takeRestOfSet 3 = .ok (.istore_n 3, 1) := by decide +kernel
theorem dX5_takeRestOfSet_4 : decode cX5_takeRestOfSet 4 = .ok (.iload_n 3, 1) := by decide +kernel
theorem dX5_takeRestOfSet_5 : decode cX5_takeRestOfSet 5 = .ok (.sipush 900, 3) := by decide +kernel
theorem dX5_takeRestOfSet_8 : decode cX5_takeRestOfSet 8 = .ok (.if_icmp .ge 42, 3) := by decide +kernel
theorem dX5_takeRestOfSet_11 : decode cX5_takeRestOfSet 11 = .ok (.aload_n 0, 1) := by decide +kernel
theorem dX5_takeRestOfSet_12 : decode cX5_takeRestOfSet 12 = .ok (.invokevirtual 84, 3) := by decide +kernel
theorem dX5_takeRestOfSet_15 : decode cX5_takeRestOfSet 15 = .ok (.ifCond .ne 35, 3) := by decide +kernel
theorem dX5_takeRestOfSet_18 : decode cX5_takeRestOfSet 18 = .ok (.aload_n 0, 1) := by decide +kernel
theorem dX5_takeRestOfSet_19 : decode cX5_takeRestOfSet 19 = .ok (.invokevirtual 88, 3) := by decide +kernel
theorem dX5_takeRestOfSet_22 : decode cX5_takeRestOfSet 22 = .ok (.getstatic 102, 3) := by decide +kernel
theorem dX5_takeRestOfSet_25 : decode cX5_takeRestOfSet 25 = .ok (.if_acmp .ne 25, 3) := by decide +kernel
theorem dX5_takeRestOfSet_28 : decode cX5_takeRestOfSet 28 = .ok (.iload_n 2, 1) := by decide +kernel
theorem dX5_takeRestOfSet_29 : decode cX5_takeRestOfSet 29 = .ok (.iconst 1, 1) := by decide +kernel
theorem dX5_takeRestOfSet_30 : decode cX5_takeRestOfSet 30 = .ok (.aload_n 0, 1) := by decide +kernel
theorem dX5_takeRestOfSet_31 : decode cX5_takeRestOfSet 31 = .ok (.iconst 0, 1) := by decide +kernel
theorem dX5_takeRestOfSet_32 : decode cX5_takeRestOfSet 32 = .ok (.aload_n 0, 1) := by decide +kernel
theorem dX5_takeRestOfSet_33 : decode cX5_takeRestOfSet 33 = .ok (.getfield 63, 3) := by decide +kernel
theorem dX5_takeRestOfSet_36 : decode cX5_takeRestOfSet 36 = .ok (.iconst 1, 1) := by decide +kernel
theorem dX5_takeRestOfSet_37 : decode cX5_takeRestOfSet 37 = .ok (.isub, 1) := by decide +kernel
theorem dX5_takeRestOfSet_38 : decode cX5_takeRestOfSet 38 = .ok (.invokevirtual 59, 3) := by decide +kernel
theorem dX5_takeRestOfSet_41 : decode cX5_takeRestOfSet 41 = .ok (.ishl, 1) := by decide +kernel
theorem dX5_takeRestOfSet_42 : decode cX5_takeRestOfSet 42 = .ok (.ior, 1) := by decide +kernel
theorem dX5_takeRestOfSet_43 : decode cX5_takeRestOfSet 43 = .ok (.istore_n 2, 1) := by decide +kernel
theorem dX5_takeRestOfSet_44 : decode cX5_takeRestOfSet 44 = .ok (.iinc 3 1, 3) := by decide +kernel
theorem dX5_takeRestOfSet_47 : decode cX5_takeRestOfSet 47 = .ok (.goto (-43), 3) := by decide +kernel
theorem dX5_takeRestOfSet_50 : decode cX5_takeRestOfSet 50 = .ok (.iload_n 2, 1) := by decide +kernel
theorem dX5_takeRestOfSet_51 : decode cX5_takeRestOfSet 51 = .ok (.ireturn, 1) := by decide +kernel
theorem dX5_takeNumber_0 : decode cX5_takeNumber 0 = .ok (.aload_n 0, 1) := by decide +kernel
theorem dX5_takeNumber_1 : decode cX5_takeNumber 1 = .ok (.getfield 12, 3) := by decide +kernel
theorem dX5_takeNumber_4 : decode cX5_takeNumber 4 = .ok (.getfield 158, 3) := by decide +kernel
theorem dX5_takeNumber_7 : decode cX5_takeNumber 7 = .ok (.aload_n 0, 1) := by decide +kernel
theorem dX5_takeNumber_8 : decode cX5_takeNumber 8 = .ok (.getfield 35, 3) := by decide +kernel
theorem dX5_takeNumber_11 : decode cX5_takeNumber 11 = .ok (.iaload, 1) := by decide +kernel
theorem dX5_takeNumber_12 : decode cX5_takeNumber 12 = .ok (.istore_n 3, 1) := by decide +kernel
theorem dX5_takeNumber_13 : decode cX5_takeNumber 13 = .ok (.aload_n 0, 1) := by decide +kernel
theorem dX5_takeNumber_14 : decode cX5_takeNumber 14 = .ok (.iload_n 1, 1) := by decide +kernel
theorem dX5_takeNumber_15 : decode cX5_takeNumber 15 = .ok (.iload_n 2, 1) := by decide +kernel
theorem dX5_takeNumber_16 : decode cX5_takeNumber 16 = .ok (.invokevirtual 105, 3) := by decide +kernel
theorem dX5_takeNumber_19 : decode cX5_takeNumber 19 = .ok (.aload_n 0, 1) := by decide +kernel
theorem dX5_takeNumber_20 : decode cX5_takeNumber 20 = .ok (.invokevirtual 129, 3) := by decide +kernel
theorem dX5_takeNumber_23 : decode cX5_takeNumber 23 = .ok (.iload_n 3, 1) := by decide +kernel
theorem dX5_takeNumber_24 : decode cX5_takeNumber 24 = .ok (.ireturn, 1) := by decide +kernel
theorem dX5_checkNumber_0 : decode cX5_checkNumber 0 = .ok (.aload_n 0, 1) := by decide +kernel
theorem dX5_checkNumber_1 : decode cX5_checkNumber 1 = .ok (.getfield 12, 3) := by decide +kernel
theorem dX5_checkNumber_4 : decode cX5_checkNumber 4 = .ok (.getfield 158, 3) := by decide +kernel
theorem dX5_checkNumber_7 : decode cX5_checkNumber 7 = .ok (.aload_n 0, 1) := by decide +kernel
theorem dX5_checkNumber_8 : decode cX5_checkNumber 8 = .ok (.getfield 35, 3) := by decide +kernel
theorem dX5_checkNumber_11 : decode cX5_checkNumber 11 = .ok (.iaload, 1) := by decide +kernel
theorem dX5_checkNumber_12 : decode cX5_checkNumber 12 = .ok (.istore_n 3, 1) := by decide +kernel
theorem dX5_checkNumber_13 : decode cX5_checkNumber 13 = .ok (.aload_n 0, 1) := by decide +kernel
theorem dX5_checkNumber_14 : decode cX5_checkNumber 14 = .ok (.invokevirtual 88, 3) := by decide +kernel
theorem dX5_checkNumber_17 : decode cX5_checkNumber 17 = .ok (.getstatic 102, 3) := by decide +kernel
theorem dX5_checkNumber_20 : decode cX5_checkNumber 20 = .ok (.if_acmp .eq 11, 3) := by decide +kernel
theorem dX5_checkNumber_23 : decode cX5_checkNumber 23 = .ok (.aload_n 0, 1) := by decide +kernel
theorem dX5_checkNumber_24 : decode cX5_checkNumber 24 = .ok (.iconst 1, 1) := by decide +kernel
theorem dX5_checkNumber_25 : decode cX5_checkNumber 25 = .ok (.invokevirtual 95, 3) := by decide +kernel
theorem dX5_checkNumber_28 : decode cX5_checkNumber 28 = .ok (.goto 18, 3) := by decide +kernel
theorem dX5_checkNumber_31 : decode cX5_checkNumber 31 = .ok (.iload_n 3, 1) := by decide +kernel
theorem dX5_checkNumber_32 : decode cX5_checkNumber 32 = .ok (.iload_n 1, 1) := by decide +kernel
theorem dX5_checkNumber_33 : decode cX5_checkNumber 33 = .ok (.if_icmp .lt 8, 3) := by decide +kernel
theorem dX5_checkNumber_36 : decode cX5_checkNumber 36 = .ok (.iload_n 3, 1) := by decide +kernel
theorem dX5_checkNumber_37 : decode cX5_checkNumber 37 = .ok (.iload_n 2, 1) := by decide +kernel
theorem dX5_checkNumber_38 : decode cX5_checkNumber 38 = .ok (.if_icmp .le 8, 3) := by decide +kernel
theorem dX5_checkNumber_41 : decode cX5_checkNumber 41 = .ok (.aload_n 0, 1) := by decide +kernel
theorem dX5_checkNumber_42 : decode cX5_checkNumber 42 = .ok (.iconst 2, 1) := by decide +kernel
theorem dX5_checkNumber_43 : decode cX5_checkNumber 43 = .ok (.invokevirtual 95, 3) := by decide +kernel
theorem dX5_checkNumber_46 : decode cX5_checkNumber 46 = .ok (.return_, 1) := by decide +kernel
theorem dX5_takeKind_0 : decode cX5_takeKind 0 = .ok (.aload_n 0, 1) := by decide +kernel
theorem dX5_takeKind_1 : decode cX5_takeKind 1 = .ok (.invokevirtual 88, 3) := by decide +kernel
theorem dX5_takeKind_4 : decode cX5_takeKind 4 = .ok (.aload_n 1, 1) := by decide +kernel
theorem dX5_takeKind_5 : decode cX5_takeKind 5 = .ok (.if_acmp .eq 8, 3) := by decide +kernel
theorem dX5_takeKind_8 : decode cX5_takeKind 8 = .ok (.aload_n 0, 1) := by decide +kernel
theorem dX5_takeKind_9 : decode cX5_takeKind 9 = .ok (.iconst 1, 1) := by decide +kernel
theorem dX5_takeKind_10 : decode cX5_takeKind 10 = .ok (.invokevirtual 95, 3) := by decide +kernel
theorem dX5_takeKind_13 : decode cX5_takeKind 13 = .ok (.aload_n 0, 1) := by decide +kernel
theorem dX5_takeKind_14 : decode cX5_takeKind 14 = .ok (.invokevirtual 129, 3) := by decide +kernel
theorem dX5_takeKind_17 : decode cX5_takeKind 17 = .ok (.return_, 1) := by decide +kernel
theorem dX5_takeToken_0 : decode cX5_takeToken 0 = .ok (.aload_n 0, 1) := by decide +kernel
theorem dX5_takeToken_1 : decode cX5_takeToken 1 = .ok (.invokevirtual 84, 3) := by decide +kernel
theorem dX5_takeToken_4 : decode cX5_takeToken 4 = .ok (.ifCond .ne 29, 3) := by decide +kernel
theorem dX5_takeToken_7 : decode cX5_takeToken 7 = .ok (.aload_n 0, 1) := by decide +kernel
theorem dX5_takeToken_8 : decode cX5_takeToken 8 = .ok (.getfield 35, 3) := by decide +kernel
theorem dX5_takeToken_11 : decode cX5_takeToken 11 = .ok (.aload_n 0, 1) := by decide +kernel
theorem dX5_takeToken_12 : decode cX5_takeToken 12 = .ok (.getfield 12, 3) := by decide +kernel
theorem dX5_takeToken_15 : decode cX5_takeToken 15 = .ok (.getfield 159, 3) := by decide +kernel
theorem dX5_takeToken_18 : decode cX5_takeToken 18 = .ok (.iconst 1, 1) := by decide +kernel
theorem dX5_takeToken_19 : decode cX5_takeToken 19 = .ok (.isub, 1) := by decide +kernel
theorem dX5_takeToken_20 : decode cX5_takeToken 20 = .ok (.if_icmp .ge 13, 3) := by decide +kernel
theorem dX5_takeToken_23 : decode cX5_takeToken 23 = .ok (.aload_n 0, 1) := by decide +kernel
theorem dX5_takeToken_24 : decode cX5_takeToken 24 = .ok (.dup, 1) := by decide +kernel
theorem dX5_takeToken_25 : decode cX5_takeToken 25 = .ok (.getfield 35, 3) := by decide +kernel
theorem dX5_takeToken_28 : decode cX5_takeToken 28 = .ok (.iconst 1, 1) := by decide +kernel
theorem dX5_takeToken_29 : decode cX5_takeToken 29 = .ok (.iadd, 1) := by decide +kernel
theorem dX5_takeToken_30 : decode cX5_takeToken 30 = .ok (.putfield 35, 3) := by decide +kernel
theorem dX5_takeToken_33 : decode cX5_takeToken 33 = .ok (.return_, 1) := by decide +kernel
theorem dX5_kindHere_0 : decode cX5_kindHere 0 = .ok (.aload_n 0, 1) := by decide +kernel
theorem dX5_kindHere_1 : decode cX5_kindHere 1 = .ok (.getfield 12, 3) := by decide +kernel
theorem dX5_kindHere_4 : decode cX5_kindHere 4 = .ok (.getfield 162, 3) := by decide +kernel
theorem dX5_kindHere_7 : decode cX5_kindHere 7 = .ok (.aload_n 0, 1) := by decide +kernel
theorem dX5_kindHere_8 : decode cX5_kindHere 8 = .ok (.getfield 35, 3) := by decide +kernel
theorem dX5_kindHere_11 : decode cX5_kindHere 11 = .ok (.aaload, 1) := by decide +kernel
theorem dX5_kindHere_12 : decode cX5_kindHere 12 = .ok (.astore_n 1, 1) := by decide +kernel
theorem dX5_kindHere_13 : decode cX5_kindHere 13 = .ok (.aload_n 1, 1) := by decide +kernel
theorem dX5_kindHere_14 : decode cX5_kindHere 14 = .ok (.ifnonnull 9, 3) := by decide +kernel
theorem dX5_kindHere_17 : decode cX5_kindHere 17 = .ok (.getstatic 166, 3) := by decide +kernel
theorem dX5_kindHere_20 : decode cX5_kindHere 20 = .ok (.goto 4, 3) := by decide +kernel
theorem dX5_kindHere_23 : decode cX5_kindHere 23 = .ok (.aload_n 1, 1) := by decide +kernel
theorem dX5_kindHere_24 : decode cX5_kindHere 24 = .ok (.areturn, 1) := by decide +kernel
theorem dX6_init_0 : decode cX6_init 0 = .ok (.aload_n 0, 1) := by decide +kernel
theorem dX6_init_1 : decode cX6_init 1 = .ok (.invokespecial 3, 3) := by decide +kernel
theorem dX6_init_4 : decode cX6_init 4 = .ok (.aload_n 0, 1) := by decide +kernel
theorem dX6_init_5 : decode cX6_init 5 = .ok (.bipush 8, 2) := by decide +kernel
theorem dX6_init_7 : decode cX6_init 7 = .ok (.anewarray 9, 3) := by decide +kernel
theorem dX6_init_10 : decode cX6_init 10 = .ok (.putfield 11, 3) := by decide +kernel
theorem dX6_init_13 : decode cX6_init 13 = .ok (.aload_n 0, 1) := by decide +kernel
theorem dX6_init_14 : decode cX6_init 14 = .ok (.bipush 6, 2) := by decide +kernel
theorem dX6_init_16 : decode cX6_init 16 = .ok (.anewarray 17, 3) := by decide +kernel
theorem dX6_init_19 : decode cX6_init 19 = .ok (.putfield 19, 3) := by decide +kernel
theorem dX6_init_22 : decode cX6_init 22 = .ok (.aload_n 0, 1) := by decide +kernel
theorem dX6_init_23 : decode cX6_init 23 = .ok (.new 23, 3) := by decide +kernel
theorem dX6_init_26 : decode cX6_init 26 = .ok (.dup, 1) := by decide +kernel
theorem dX6_init_27 : decode cX6_init 27 = .ok (.bipush 60, 2) := by decide +kernel
theorem dX6_init_29 : decode cX6_init 29 = .ok (.bipush 6, 2) := by decide +kernel
theorem dX6_init_31 : decode cX6_init 31 = .ok (.invokespecial 25, 3) := by decide +kernel
theorem dX6_init_34 : decode cX6_init 34 = .ok (.putfield 28, 3) := by decide +kernel
theorem dX6_init_37 : decode cX6_init 37 = .ok (.aload_n 0, 1) := by decide +kernel
theorem dX6_init_38 : decode cX6_init 38 = .ok (.new 23, 3) := by decide +kernel
theorem dX6_init_41 : decode cX6_init 41 = .ok (.dup, 1) := by decide +kernel
theorem dX6_init_42 : decode cX6_init 42 = .ok (.bipush 40, 2) := by decide +kernel
theorem dX6_init_44 : decode cX6_init 44 = .ok (.iconst 4, 1) := by decide +kernel
theorem dX6_init_45 : decode cX6_init 45 = .ok (.invokespecial 25, 3) := by decide +kernel
theorem dX6_init_48 : decode cX6_init 48 = .ok (.putfield 32, 3) := by decide +kernel
theorem dX6_init_51 : decode cX6_init 51 = .ok (.aload_n 0, 1) := by decide +kernel
theorem dX6_init_52 : decode cX6_init 52 = .ok (.iconst 1, 1) := by decide +kernel
theorem dX6_init_53 : decode cX6_init 53 = .ok (.putfield 35, 3) := by decide +kernel
theorem dX6_init_56 : decode cX6_init 56 = .ok (.aload_n 0, 1) := by decide +kernel
theorem dX6_init_57 : decode cX6_init 57 = .ok (.iconst 1, 1) := by decide +kernel
theorem dX6_init_58 : decode cX6_init 58 = .ok (.putfield 39, 3) := by decide +kernel
theorem dX6_init_61 : decode cX6_init 61 = .ok (.iconst 0, 1) := by decide +kernel
theorem dX6_init_62 : decode cX6_init 62 = .ok (.istore_n 1, 1) := by decide +kernel
theorem dX6_init_63 : decode cX6_init 63 = .ok (.iload_n 1, 1) := by decide +kernel
theorem dX6_init_64 : decode cX6_init 64 = .ok (.bipush 8, 2) := by decide +kernel
theorem dX6_init_66 : decode cX6_init 66 = .ok (.if_icmp .ge 22, 3) := by decide +kernel
theorem dX6_init_69 : decode cX6_init 69 = .ok (.aload_n 0, 1) := by decide +kernel
theorem dX6_init_70 : decode cX6_init 70 = .ok (.getfield 11, 3) := by decide +kernel
theorem dX6_init_73 : decode cX6_init 73 = .ok (.iload_n 1, 1) := by decide +kernel
theorem dX6_init_74 : decode cX6_init 74 = .ok (.new 9, 3) := by decide +kernel
theorem dX6_init_77 : decode cX6_init 77 = .ok (.dup, 1) := by decide +kernel
theorem dX6_init_78 : decode cX6_init 78 = .ok (.invokespecial 42, 3) := by decide +kernel
theorem dX6_init_81 : decode cX6_init 81 = .ok (.aastore, 1) := by decide +kernel
theorem dX6_init_82 : decode cX6_init 82 = .ok (.iinc 1 1, 3) := by decide +kernel
theorem dX6_init_85 : decode cX6_init 85 = .ok (.goto (-22), 3) := by decide +kernel
theorem dX6_init_88 : decode cX6_init 88 = .ok (.iconst 0, 1) := by decide +kernel
theorem dX6_init_89 : decode cX6_init 89 = .ok (.istore_n 1, 1) := by decide +kernel
theorem dX6_init_90 : decode cX6_init 90 = .ok (.iload_n 1, 1) := by decide +kernel
theorem dX6_init_91 : decode cX6_init 91 = .ok (.bipush 6, 2) := by decide +kernel
theorem dX6_init_93 : decode cX6_init 93 = .ok (.if_icmp .ge 22, 3) := by decide +kernel
theorem dX6_init_96 : decode cX6_init 96 = .ok (.aload_n 0, 1) := by decide +kernel
theorem dX6_init_97 : decode cX6_init 97 = .ok (.getfield 19, 3) := by decide +kernel
theorem dX6_init_100 : decode cX6_init 100 = .ok (.iload_n 1, 1) := by decide +kernel
theorem dX6_init_101 : decode cX6_init 101 = .ok (.new 17, 3) := by decide +kernel
theorem dX6_init_104 : decode cX6_init 104 = .ok (.dup, 1) := by decide +kernel
theorem dX6_init_105 : decode cX6_init 105 = .ok (.invokespecial 43, 3) := by decide +kernel
theorem dX6_init_108 : decode cX6_init 108 = .ok (.aastore, 1) := by decide +kernel
theorem dX6_init_109 : decode cX6_init 109 = .ok (.iinc 1 1, 3) := by decide +kernel
theorem dX6_init_112 : decode cX6_init 112 = .ok (.goto (-22), 3) := by decide +kernel
theorem dX6_init_115 : decode cX6_init 115 = .ok (.return_, 1) := by decide +kernel
theorem dX6_begin_0 : decode cX6_begin 0 = .ok (.aload_n 0, 1) := by decide +kernel
theorem dX6_begin_1 : decode cX6_begin 1 = .ok (.iload_n 1, 1) := by decide +kernel
theorem dX6_begin_2 : decode cX6_begin 2 = .ok (.putfield 44, 3) := by decide +kernel
theorem dX6_begin_5 : decode cX6_begin 5 = .ok (.aload_n 0, 1) := by decide +kernel
theorem dX6_begin_6 : decode cX6_begin 6 = .ok (.iload_n 2, 1) := by decide +kernel
theorem dX6_begin_7 : decode cX6_begin 7 = .ok (.putfield 47, 3) := by decide +kernel
theorem dX6_begin_10 : decode cX6_begin 10 = .ok (.aload_n 0, 1) := by decide +kernel
theorem dX6_begin_11 : decode cX6_begin 11 = .ok (.iload_n 3, 1) := by decide +kernel
theorem dX6_begin_12 : decode cX6_begin 12 = .ok (.putfield 35, 3) := by decide +kernel
theorem dX6_begin_15 : decode cX6_begin 15 = .ok (.aload_n 0, 1) := by decide +kernel
theorem dX6_begin_16 : decode cX6_begin 16 = .ok (.iconst 1, 1) := by decide +kernel
theorem dX6_begin_17 : decode cX6_begin 17 = .ok (.putfield 50, 3) := by decide +kernel
theorem dX6_begin_20 : decode cX6_begin 20 = .ok (.aload_n 0, 1) := by decide +kernel
theorem dX6_begin_21 : decode cX6_begin 21 = .ok (.getfield 11, 3) := by decide +kernel
theorem dX6_begin_24 : decode cX6_begin 24 = .ok (.iconst 0, 1) := by decide +kernel
theorem dX6_begin_25 : decode cX6_begin 25 = .ok (.aaload, 1) := by decide +kernel
theorem dX6_begin_26 : decode cX6_begin 26 = .ok (.iconst 0, 1) := by decide +kernel
theorem dX6_begin_27 : decode cX6_begin 27 = .ok (.putfield 53, 3) := by decide +kernel
theorem dX6_begin_30 : decode cX6_begin 30 = .ok (.iconst 0, 1) := by decide +kernel
theorem dX6_begin_31 : decode cX6_begin 31 = .ok (.istore 4, 2) := by decide +kernel
theorem dX6_begin_33 : decode cX6_begin 33 = .ok (.iload 4, 2) := by decide +kernel
theorem dX6_begin_35 : decode cX6_begin 35 = .ok (.bipush 6, 2) := by decide +kernel
theorem dX6_begin_37 : decode cX6_begin 37 = .ok (.if_icmp .ge 19, 3) := by decide +kernel
theorem dX6_begin_40 : decode cX6_begin 40 = .ok (.aload_n 0, 1) := by decide +kernel
theorem dX6_begin_41 : decode cX6_begin 41 = .ok (.getfield 19, 3) := by decide +kernel
theorem dX6_begin_44 : decode cX6_begin 44 = .ok (.iload 4, 2) := by decide +kernel
theorem dX6_begin_46 : decode cX6_begin 46 = .ok (.aaload, 1) := by decide +kernel
theorem dX6_begin_47 : decode cX6_begin 47 = .ok (.invokevirtual 56, 3) := by decide +kernel
theorem dX6_begin_50 : decode cX6_begin 50 = .ok (.iinc 4 1, 3) := by decide +kernel
theorem dX6_begin_53 : decode cX6_begin 53 = .ok (.goto (-20), 3) := by decide +kernel
theorem dX6_begin_56 : decode cX6_begin 56 = .ok (.aload_n 0, 1) := by decide +kernel
theorem dX6_begin_57 : decode cX6_begin 57 = .ok (.getfield 28, 3) := by decide +kernel
theorem dX6_begin_60 : decode cX6_begin 60 = .ok (.iconst 0, 1) := by decide +kernel
theorem dX6_begin_61 : decode cX6_begin 61 = .ok (.putfield 59, 3) := by decide +kernel
theorem dX6_begin_64 : decode cX6_begin 64 = .ok (.aload_n 0, 1) := by decide +kernel
theorem dX6_begin_65 : decode cX6_begin 65 = .ok (.getfield 32, 3) := by decide +kernel
theorem dX6_begin_68 : decode cX6_begin 68 = .ok (.iconst 0, 1) := by decide +kernel
theorem dX6_begin_69 : decode cX6_begin 69 = .ok (.putfield 59, 3) := by decide +kernel
theorem dX6_begin_72 : decode cX6_begin 72 = .ok (.aload_n 0, 1) := by decide +kernel
theorem dX6_begin_73 : decode cX6_begin 73 = .ok (.iconst 1, 1) := by decide +kernel
theorem dX6_begin_74 : decode cX6_begin 74 = .ok (.putfield 39, 3) := by decide +kernel
theorem dX6_begin_77 : decode cX6_begin 77 = .ok (.return_, 1) := by decide +kernel
theorem dX6_hasClient_0 : decode cX6_hasClient 0 = .ok (.iload_n 1, 1) := by decide +kernel
theorem dX6_hasClient_1 : decode cX6_hasClient 1 = .ok (.ifCond .lt 15, 3) := by decide +kernel
theorem dX6_hasClient_4 : decode cX6_hasClient 4 = .ok (.iload_n 1, 1) := by decide +kernel
theorem dX6_hasClient_5 : decode cX6_hasClient 5 = .ok (.aload_n 0, 1) := by decide +kernel
theorem dX6_hasClient_6 : decode cX6_hasClient 6 = .ok (.getfield 44, 3) := by decide +kernel
theorem dX6_hasClient_9 : decode cX6_hasClient 9 = .ok (.if_icmp .ge 7, 3) := by decide +kernel
theorem dX6_hasClient_12 : decode cX6_hasClient 12 = .ok (.iconst 1, 1) := by decide +kernel
theorem dX6_hasClient_13 : decode cX6_hasClient 13 = .ok (.goto 4, 3) := by decide +kernel
theorem dX6_hasClient_16 : decode cX6_hasClient 16 = .ok (.iconst 0, 1) := by decide +kernel
theorem dX6_hasClient_17 : decode cX6_hasClient 17 = .ok (.ireturn, 1) := by decide +kernel
theorem dX6_hasBlock_0 : decode cX6_hasBlock 0 = .ok (.iload_n 1, 1) := by decide +kernel
theorem dX6_hasBlock_1 : decode cX6_hasBlock 1 = .ok (.ifCond .lt 15, 3) := by decide +kernel
theorem dX6_hasBlock_4 : decode cX6_hasBlock 4 = .ok (.iload_n 1, 1) := by decide +kernel
theorem dX6_hasBlock_5 : decode cX6_hasBlock 5 = .ok (.aload_n 0, 1) := by decide +kernel
theorem dX6_hasBlock_6 : decode cX6_hasBlock 6 = .ok (.getfield 47, 3) := by decide +kernel
theorem dX6_hasBlock_9 : decode cX6_hasBlock 9 = .ok (.if_icmp .ge 7, 3) := by decide +kernel
theorem dX6_hasBlock_12 : decode cX6_hasBlock 12 = .ok (.iconst 1, 1) := by decide +kernel
theorem dX6_hasBlock_13 : decode cX6_hasBlock 13 = .ok (.goto 4, 3) := by decide +kernel
theorem dX6_hasBlock_16 : decode cX6_hasBlock 16 = .ok (.iconst 0, 1) := by decide +kernel
theorem dX6_hasBlock_17 : decode cX6_hasBlock 17 = .ok (.ireturn, 1) := by decide +kernel
theorem dX6_hasBranch_0 : decode cX6_hasBranch 0 = .ok (.iload_n 1, 1) := by decide +kernel
theorem dX6_hasBranch_1 : decode cX6_hasBranch 1 = .ok (.ifCond .lt 15, 3) := by decide +kernel
theorem dX6_hasBranch_4 : decode cX6_hasBranch 4 = .ok (.iload_n 1, 1) := by decide +kernel
theorem dX6_hasBranch_5 : decode cX6_hasBranch 5 = .ok (.aload_n 0, 1) := by decide +kernel
theorem dX6_hasBranch_6 : decode cX6_hasBranch 6 = .ok (.getfield 50, 3) := by decide +kernel
theorem dX6_hasBranch_9 : decode cX6_hasBranch 9 = .ok (.if_icmp .ge 7, 3) := by decide +kernel
theorem dX6_hasBranch_12 : decode cX6_hasBranch 12 = .ok (.iconst 1, 1) := by decide +kernel
theorem dX6_hasBranch_13 : decode cX6_hasBranch 13 = .ok (.goto 4, 3) := by decide +kernel
theorem dX6_hasBranch_16 : decode cX6_hasBranch 16 = .ok (.iconst 0, 1) := by decide +kernel
theorem dX6_hasBranch_17 : decode cX6_hasBranch 17 = .ok (.ireturn, 1) := by decide +kernel
theorem dX6_doWrite_0 : decode cX6_doWrite 0 = .ok (.aload_n 0, 1) := by decide +kernel
theorem dX6_doWrite_1 : decode cX6_doWrite 1 = .ok (.iload_n 1, 1) := by decide +kernel
theorem dX6_doWrite_2 : decode cX6_doWrite 2 = .ok (.invokevirtual 62, 3) := by decide +kernel
theorem dX6_doWrite_5 : decode cX6_doWrite 5 = .ok (.ifCond .eq 11, 3) := by decide +kernel
theorem dX6_doWrite_8 : decode cX6_doWrite 8 = .ok (.aload_n 0, 1) := by decide +kernel
theorem dX6_doWrite_9 : decode cX6_doWrite 9 = .ok (.iload_n 2, 1) := by decide +kernel
theorem dX6_doWrite_10 : decode cX6_doWrite 10 = .ok (.invokevirtual 66, 3) := by decide +kernel
theorem dX6_doWrite_13 : decode cX6_doWrite 13 = .ok (.ifCond .ne 5, 3) := by decide +kernel
theorem dX6_doWrite_16 : decode cX6_doWrite 16 = .ok (.iconst (-1), 1) := by decide +kernel
theorem dX6_doWrite_17 : decode cX6_doWrite 17 = .ok (.ireturn, 1) := by decide +kernel
theorem dX6_doWrite_18 : decode cX6_doWrite 18 = .ok (.iload_n 3, 1) := by decide +kernel
theorem dX6_doWrite_19 : decode cX6_doWrite 19 = .ok (.ifCond .lt 9, 3) := by decide +kernel
theorem dX6_doWrite_22 : decode cX6_doWrite 22 = .ok (.iload_n 3, 1) := by decide +kernel
theorem dX6_doWrite_23 : decode cX6_doWrite 23 = .ok (.ldc 69, 2) := by decide +kernel
theorem dX6_doWrite_25 : decode cX6_doWrite 25 = .ok (.if_icmp .le 6, 3) := by decide +kernel
theorem dX6_doWrite_28 : decode cX6_doWrite 28 = .ok (.bipush (-2), 2) := by decide +kernel
theorem dX6_doWrite_30 : decode cX6_doWrite 30 = .ok (.ireturn, 1) := by decide +kernel
theorem dX6_doWrite_31 : decode cX6_doWrite 31 = .ok (.aload_n 0, 1) := by decide +kernel
theorem dX6_doWrite_32 : decode cX6_doWrite 32 = .ok (.iconst 1, 1) := by decide +kernel
theorem dX6_doWrite_33 : decode cX6_doWrite 33 = .ok (.iload_n 1, 1) := by decide +kernel
theorem dX6_doWrite_34 : decode cX6_doWrite 34 = .ok (.iload_n 2, 1) := by decide +kernel
theorem dX6_doWrite_35 : decode cX6_doWrite 35 = .ok (.iload_n 3, 1) := by decide +kernel
theorem dX6_doWrite_36 : decode cX6_doWrite 36 = .ok (.invokevirtual 70, 3) := by decide +kernel
theorem dX6_doWrite_39 : decode cX6_doWrite 39 = .ok (.ifCond .eq 15, 3) := by decide +kernel
theorem dX6_doWrite_42 : decode cX6_doWrite 42 = .ok (.aload_n 0, 1) := by decide +kernel
theorem dX6_doWrite_43 : decode cX6_doWrite 43 = .ok (.getfield 19, 3) := by decide +kernel
theorem dX6_doWrite_46 : decode cX6_doWrite 46 = .ok (.iload_n 1, 1) := by decide +kernel
theorem dX6_doWrite_47 : decode cX6_doWrite 47 = .ok (.aaload, 1) := by decide +kernel
theorem dX6_doWrite_48 : decode cX6_doWrite 48 = .ok (.getfield 74, 3) := by decide +kernel
theorem dX6_doWrite_51 : decode cX6_doWrite 51 = .ok (.goto 5, 3) := by decide +kernel
theorem dX6_doWrite_54 : decode cX6_doWrite 54 = .ok (.bipush (-3), 2) := by decide +kernel
theorem dX6_doWrite_56 : decode cX6_doWrite 56 = .ok (.ireturn, 1) := by decide +kernel
theorem dX6_doRead_0 : decode cX6_doRead 0 = .ok (.aload_n 0, 1) := by decide +kernel
theorem dX6_doRead_1 : decode cX6_doRead 1 = .ok (.iload_n 1, 1) := by decide +kernel
theorem dX6_doRead_2 : decode cX6_doRead 2 = .ok (.invokevirtual 62, 3) := by decide +kernel
theorem dX6_doRead_5 : decode cX6_doRead 5 = .ok (.ifCond .eq 11, 3) := by decide +kernel
theorem dX6_doRead_8 : decode cX6_doRead 8 = .ok (.aload_n 0, 1) := by decide +kernel
theorem dX6_doRead_9 : decode cX6_doRead 9 = .ok (.iload_n 2, 1) := by decide +kernel
theorem dX6_doRead_10 : decode cX6_doRead 10 = .ok (.invokevirtual 66, 3) := by decide +kernel
theorem dX6_doRead_13 : decode cX6_doRead 13 = .ok (.ifCond .ne 5, 3) := by decide +kernel
theorem dX6_doRead_16 : decode cX6_doRead 16 = .ok (.iconst (-1), 1) := by decide +kernel
theorem dX6_doRead_17 : decode cX6_doRead 17 = .ok (.ireturn, 1) := by decide +kernel
theorem dX6_doRead_18 : decode cX6_doRead 18 = .ok (.aload_n 0, 1) := by decide +kernel
theorem dX6_doRead_19 : decode cX6_doRead 19 = .ok (.iconst 0, 1) := by decide +kernel
theorem dX6_doRead_20 : decode cX6_doRead 20 = .ok (.iload_n 1, 1) := by decide +kernel
theorem dX6_doRead_21 : decode cX6_doRead 21 = .ok (.iload_n 2, 1) := by decide +kernel
theorem dX6_doRead_22 : decode cX6_doRead 22 = .ok (.iconst 0, 1) := by decide +kernel
theorem dX6_doRead_23 : decode cX6_doRead 23 = .ok (.invokevirtual 70, 3) := by decide +kernel
theorem dX6_doRead_26 : decode cX6_doRead 26 = .ok (.ifCond .eq 24, 3) := by decide +kernel
theorem dX6_doRead_29 : decode cX6_doRead 29 = .ok (.aload_n 0, 1) := by decide +kernel
theorem dX6_doRead_30 : decode cX6_doRead 30 = .ok (.getfield 11, 3) := by decide +kernel
theorem dX6_doRead_33 : decode cX6_doRead 33 = .ok (.aload_n 0, 1) := by decide +kernel
theorem dX6_doRead_34 : decode cX6_doRead 34 = .ok (.getfield 19, 3) := by decide +kernel
theorem dX6_doRead_37 : decode cX6_doRead 37 = .ok (.iload_n 1, 1) := by decide +kernel
theorem dX6_doRead_38 : decode cX6_doRead 38 = .ok (.aaload, 1) := by decide +kernel
theorem dX6_doRead_39 : decode cX6_doRead 39 = .ok (.getfield 77, 3) := by decide +kernel
theorem dX6_doRead_42 : decode cX6_doRead 42 = .ok (.aaload, 1) := by decide +kernel
theorem dX6_doRead_43 : decode cX6_doRead 43 = .ok (.iload_n 2, 1) := by decide +kernel
theorem dX6_doRead_44 : decode cX6_doRead 44 = .ok (.invokevirtual 80, 3) := by decide +kernel
theorem dX6_doRead_47 : decode cX6_doRead 47 = .ok (.goto 5, 3) := by decide +kernel
theorem dX6_doRead_50 : decode cX6_doRead 50 = .ok (.bipush (-3), 2) := by decide +kernel
theorem dX6_doRead_52 : decode cX6_doRead 52 = .ok (.ireturn, 1) := by decide +kernel
theorem dX6_operate_0 : decode cX6_operate 0 = .ok (.aload_n 0, 1) := by decide +kernel
theorem dX6_operate_1 : decode cX6_operate 1 = .ok (.getfield 19, 3) := by decide +kernel
theorem dX6_operate_4 : decode cX6_operate 4 = .ok (.iload_n 2, 1) := by decide +kernel
theorem dX6_operate_5 : decode cX6_operate 5 = .ok (.aaload, 1) := by decide +kernel
theorem dX6_operate_6 : decode cX6_operate 6 = .ok (.astore 5, 2) := by decide +kernel
theorem dX6_operate_8 : decode cX6_operate 8 = .ok (.aload 5, 2) := by decide +kernel
theorem dX6_operate_10 : decode cX6_operate 10 = .ok (.getfield 84, 3) := by decide +kernel
theorem dX6_operate_13 : decode cX6_operate 13 = .ok (.ifCond .eq 5, 3) := by decide +kernel
theorem dX6_operate_16 : decode cX6_operate 16 = .ok (.iconst 0, 1) := by decide +kernel
theorem dX6_operate_17 : decode cX6_operate 17 = .ok (.ireturn, 1) := by decide +kernel
theorem dX6_operate_18 : decode cX6_operate 18 = .ok (.aload_n 0, 1) := by decide +kernel
theorem dX6_operate_19 : decode cX6_operate 19 = .ok (.iload_n 2, 1) := by decide +kernel
theorem dX6_operate_20 : decode cX6_operate 20 = .ok (.invokevirtual 88, 3) := by decide +kernel
theorem dX6_operate_23 : decode cX6_operate 23 = .ok (.istore 6, 2) := by decide +kernel
theorem dX6_operate_25 : decode cX6_operate 25 = .ok (.iload 6, 2) := by decide +kernel
theorem dX6_operate_27 : decode cX6_operate 27 = .ok (.ifCond .eq 18, 3) := by decide +kernel
theorem dX6_operate_30 : decode cX6_operate 30 = .ok (.aload_n 0, 1) := by decide +kernel
theorem dX6_operate_31 : decode cX6_operate 31 = .ok (.iload_n 2, 1) := by decide +kernel
theorem dX6_operate_32 : decode cX6_operate 32 = .ok (.iload 6, 2) := by decide +kernel
theorem dX6_operate_34 : decode cX6_operate 34 = .ok (.invokevirtual 91, 3) := by decide +kernel
theorem dX6_operate_37 : decode cX6_operate 37 = .ok (.aload 5, 2) := by decide +kernel
theorem dX6_operate_39 : decode cX6_operate 39 = .ok (.iconst 1, 1) := by decide +kernel
theorem dX6_operate_40 : decode cX6_operate 40 = .ok (.putfield 84, 3) := by decide +kernel
theorem dX6_operate_43 : decode cX6_operate 43 = .ok (.iconst 0, 1) := by decide +kernel
theorem dX6_operate_44 : decode cX6_operate 44 = .ok (.ireturn, 1) := by decide +kernel
theorem dX6_operate_45 : decode cX6_operate 45 = .ok (.aload_n 0, 1) := by decide +kernel
theorem dX6_operate_46 : decode cX6_operate 46 = .ok (.getfield 11, 3) := by decide +kernel
theorem dX6_operate_49 : decode cX6_operate 49 = .ok (.aload 5, 2) := by decide +kernel
theorem dX6_operate_51 : decode cX6_operate 51 = .ok (.getfield 77, 3) := by decide +kernel
theorem dX6_operate_54 : decode cX6_operate 54 = .ok (.aaload, 1) := by decide +kernel
theorem dX6_operate_55 : decode cX6_operate 55 = .ok (.astore 7, 2) := by decide +kernel
theorem dX6_operate_57 : decode cX6_operate 57 = .ok (.aload 7, 2) := by decide +kernel
theorem dX6_operate_59 : decode cX6_operate 59 = .ok (.invokevirtual 94, 3) := by decide +kernel
theorem dX6_operate_62 : decode cX6_operate 62 = .ok (.ifCond .eq 5, 3) := by decide +kernel
theorem dX6_operate_65 : decode cX6_operate 65 = .ok (.iconst 0, 1) := by decide +kernel
theorem dX6_operate_66 : decode cX6_operate 66 = .ok (.ireturn, 1) := by decide +kernel
theorem dX6_operate_67 : decode cX6_operate 67 = .ok (.aload 7, 2) := by decide +kernel
theorem dX6_operate_69 : decode cX6_operate 69 = .ok (.iload_n 1, 1) := by decide +kernel
theorem dX6_operate_70 : decode cX6_operate 70 = .ok (.iload_n 2, 1) := by decide +kernel
theorem dX6_operate_71 : decode cX6_operate 71 = .ok (.iload_n 3, 1) := by decide +kernel
theorem dX6_operate_72 : decode cX6_operate 72 = .ok (.iload 4, 2) := by decide +kernel
theorem dX6_operate_74 : decode cX6_operate 74 = .ok (.iconst 0, 1) := by decide +kernel
theorem dX6_operate_75 : decode cX6_operate 75 = .ok (.invokevirtual 98, 3) := by decide +kernel
theorem dX6_operate_78 : decode cX6_operate 78 = .ok (.aload 5, 2) := by decide +kernel
theorem dX6_operate_80 : decode cX6_operate 80 = .ok (.aload 7, 2) := by decide +kernel
theorem dX6_operate_82 : decode cX6_operate 82 = .ok (.invokevirtual 102, 3) := by decide +kernel
theorem dX6_operate_85 : decode cX6_operate 85 = .ok (.aload 5, 2) := by decide +kernel
theorem dX6_operate_87 : decode cX6_operate 87 = .ok (.dup, 1) := by decide +kernel
theorem dX6_operate_88 : decode cX6_operate 88 = .ok (.getfield 106, 3) := by decide +kernel
theorem dX6_operate_91 : decode cX6_operate 91 = .ok (.iconst 1, 1) := by decide +kernel
theorem dX6_operate_92 : decode cX6_operate 92 = .ok (.iadd, 1) := by decide +kernel
theorem dX6_operate_93 : decode cX6_operate 93 = .ok (.putfield 106, 3) := by decide +kernel
theorem dX6_operate_96 : decode cX6_operate 96 = .ok (.aload_n 0, 1) := by decide +kernel
theorem dX6_operate_97 : decode cX6_operate 97 = .ok (.getfield 35, 3) := by decide +kernel
theorem dX6_operate_100 : decode cX6_operate 100 = .ok (.ifCond .le 21, 3) := by decide +kernel
theorem dX6_operate_103 : decode cX6_operate 103 = .ok (.aload 5, 2) := by decide +kernel
theorem dX6_operate_105 : decode cX6_operate 105 = .ok (.getfield 106, 3) := by decide +kernel
theorem dX6_operate_108 : decode cX6_operate 108 = .ok (.aload_n 0, 1) := by decide +kernel
theorem dX6_operate_109 : decode cX6_operate 109 = .ok (.getfield 35, 3) := by decide +kernel
theorem dX6_operate_112 : decode cX6_operate 112 = .ok (.irem, 1) := by decide +kernel
theorem dX6_operate_113 : decode cX6_operate 113 = .ok (.ifCond .ne 8, 3) := by decide +kernel
theorem dX6_operate_116 : decode cX6_operate 116 = .ok (.aload_n 0, 1) := by decide +kernel
theorem dX6_operate_117 : decode cX6_operate 117 = .ok (.iload_n 2, 1) := by decide +kernel
theorem dX6_operate_118 : decode cX6_operate 118 = .ok (.invokevirtual 109, 3) := by decide +kernel
theorem dX6_operate_121 : decode cX6_operate 121 = .ok (.iconst 1, 1) := by decide +kernel
theorem dX6_operate_122 : decode cX6_operate 122 = .ok (.ireturn, 1) := by decide +kernel
theorem dX6_caseFor_0 : decode cX6_caseFor 0 = .ok (.aload_n 0, 1) := by decide +kernel
theorem dX6_caseFor_1 : decode cX6_caseFor 1 = .ok (.getfield 19, 3) := by decide +kernel
theorem dX6_caseFor_4 : decode cX6_caseFor 4 = .ok (.iload_n 1, 1) := by decide +kernel
theorem dX6_caseFor_5 : decode cX6_caseFor 5 = .ok (.aaload, 1) := by decide +kernel
theorem dX6_caseFor_6 : decode cX6_caseFor 6 = .ok (.astore_n 2, 1) := by decide +kernel
theorem dX6_caseFor_7 : decode cX6_caseFor 7 = .ok (.aload_n 0, 1) := by decide +kernel
theorem dX6_caseFor_8 : decode cX6_caseFor 8 = .ok (.getfield 11, 3) := by decide +kernel
theorem dX6_caseFor_11 : decode cX6_caseFor 11 = .ok (.aload_n 2, 1) := by decide +kernel
theorem dX6_caseFor_12 : decode cX6_caseFor 12 = .ok (.getfield 77, 3) := by decide +kernel
theorem dX6_caseFor_15 : decode cX6_caseFor 15 = .ok (.aaload, 1) := by decide +kernel
theorem dX6_caseFor_16 : decode cX6_caseFor 16 = .ok (.astore_n 3, 1) := by decide +kernel
theorem dX6_caseFor_17 : decode cX6_caseFor 17 = .ok (.aload_n 3, 1) := by decide +kernel
theorem dX6_caseFor_18 : decode cX6_caseFor 18 = .ok (.getfield 53, 3) := by decide +kernel
theorem dX6_caseFor_21 : decode cX6_caseFor 21 = .ok (.aload_n 2, 1) := by decide +kernel
theorem dX6_caseFor_22 : decode cX6_caseFor 22 = .ok (.getfield 74, 3) := by decide +kernel
theorem dX6_caseFor_25 : decode cX6_caseFor 25 = .ok (.if_icmp .ge 5, 3) := by decide +kernel
theorem dX6_caseFor_28 : decode cX6_caseFor 28 = .ok (.iconst 1, 1) := by decide +kernel
theorem dX6_caseFor_29 : decode cX6_caseFor 29 = .ok (.ireturn, 1) := by decide +kernel
theorem dX6_caseFor_30 : decode cX6_caseFor 30 = .ok (.aload_n 2, 1) := by decide +kernel
theorem dX6_caseFor_31 : decode cX6_caseFor 31 = .ok (.aload_n 3, 1) := by decide +kernel
theorem dX6_caseFor_32 : decode cX6_caseFor 32 = .ok (.invokevirtual 113, 3) := by decide +kernel
theorem dX6_caseFor_35 : decode cX6_caseFor 35 = .ok (.ifCond .ne 5, 3) := by decide +kernel
theorem dX6_caseFor_38 : decode cX6_caseFor 38 = .ok (.iconst 2, 1) := by decide +kernel
theorem dX6_caseFor_39 : decode cX6_caseFor 39 = .ok (.ireturn, 1) := by decide +kernel
theorem dX6_caseFor_40 : decode cX6_caseFor 40 = .ok (.aload_n 3, 1) := by decide +kernel
theorem dX6_caseFor_41 : decode cX6_caseFor 41 = .ok (.aload_n 2, 1) := by decide +kernel
theorem dX6_caseFor_42 : decode cX6_caseFor 42 = .ok (.getfield 74, 3) := by decide +kernel
theorem dX6_caseFor_45 : decode cX6_caseFor 45 = .ok (.invokevirtual 117, 3) := by decide +kernel
theorem dX6_caseFor_48 : decode cX6_caseFor 48 = .ok (.aload_n 3, 1) := by decide +kernel
theorem dX6_caseFor_49 : decode cX6_caseFor 49 = .ok (.getfield 53, 3) := by decide +kernel
theorem dX6_caseFor_52 : decode cX6_caseFor 52 = .ok (.if_icmp .gt 5, 3) := by decide +kernel
theorem dX6_caseFor_55 : decode cX6_caseFor 55 = .ok (.iconst 3, 1) := by decide +kernel
theorem dX6_caseFor_56 : decode cX6_caseFor 56 = .ok (.ireturn, 1) := by decide +kernel
theorem dX6_caseFor_57 : decode cX6_caseFor 57 = .ok (.aload_n 0, 1) := by decide +kernel
theorem dX6_caseFor_58 : decode cX6_caseFor 58 = .ok (.aload_n 3, 1) := by decide +kernel
theorem dX6_caseFor_59 : decode cX6_caseFor 59 = .ok (.invokevirtual 120, 3) := by decide +kernel
theorem dX6_caseFor_62 : decode cX6_caseFor 62 = .ok (.aload_n 0, 1) := by decide +kernel
theorem dX6_caseFor_63 : decode cX6_caseFor 63 = .ok (.getfield 32, 3) := by decide +kernel
theorem dX6_caseFor_66 : decode cX6_caseFor 66 = .ok (.getfield 59, 3) := by decide +kernel
theorem dX6_caseFor_69 : decode cX6_caseFor 69 = .ok (.if_icmp .ge 7, 3) := by decide +kernel
theorem dX6_caseFor_72 : decode cX6_caseFor 72 = .ok (.iconst 4, 1) := by decide +kernel
theorem dX6_caseFor_73 : decode cX6_caseFor 73 = .ok (.goto 4, 3) := by decide +kernel
theorem dX6_caseFor_76 : decode cX6_caseFor 76 = .ok (.iconst 0, 1) := by decide +kernel
theorem dX6_caseFor_77 : decode cX6_caseFor 77 = .ok (.ireturn, 1) := by decide +kernel
theorem dX6_firstRefutedBy_0 : decode cX6_firstRefutedBy 0 = .ok (.iconst 0, 1) := by decide +kernel
theorem dX6_firstRefutedBy_1 : decode cX6_firstRefutedBy 1 = .ok (.istore_n 2, 1) := by decide +kernel
theorem dX6_firstRefutedBy_2 : decode cX6_firstRefutedBy 2 = .ok (.iload_n 2, 1) := by decide +kernel
theorem dX6_firstRefutedBy_3 : decode cX6_firstRefutedBy 3 = .ok (.aload_n 0, 1) := by decide +kernel
theorem dX6_firstRefutedBy_4 : decode cX6_firstRefutedBy 4 = .ok (.getfield 32, 3) := by decide +kernel
theorem dX6_firstRefutedBy_7 : decode cX6_firstRefutedBy 7 = .ok (.getfield 59, 3) := by decide +kernel
theorem dX6_firstRefutedBy_10 : decode cX6_firstRefutedBy 10 = .ok (.if_icmp .ge 47, 3) := by decide +kernel
theorem dX6_firstRefutedBy_13 : decode cX6_firstRefutedBy 13 = .ok (.aload_n 0, 1) := by decide +kernel
theorem dX6_firstRefutedBy_14 : decode cX6_firstRefutedBy 14 = .ok (.getfield 32, 3) := by decide +kernel
theorem dX6_firstRefutedBy_17 : decode cX6_firstRefutedBy 17 = .ok (.iload_n 2, 1) := by decide +kernel
theorem dX6_firstRefutedBy_18 : decode cX6_firstRefutedBy 18 = .ok (.iconst 1, 1) := by decide +kernel
theorem dX6_firstRefutedBy_19 : decode cX6_firstRefutedBy 19 = .ok (.invokevirtual 124, 3) := by decide +kernel
theorem dX6_firstRefutedBy_22 : decode cX6_firstRefutedBy 22 = .ok (.istore_n 3, 1) := by decide +kernel
theorem dX6_firstRefutedBy_23 : decode cX6_firstRefutedBy 23 = .ok (.iload_n 3, 1) := by decide +kernel
theorem dX6_firstRefutedBy_24 : decode cX6_firstRefutedBy 24 = .ok (.aload_n 1, 1) := by decide +kernel
theorem dX6_firstRefutedBy_25 : decode cX6_firstRefutedBy 25 = .ok (.getfield 53, 3) := by decide +kernel
theorem dX6_firstRefutedBy_28 : decode cX6_firstRefutedBy 28 = .ok (.if_icmp .gt 23, 3) := by decide +kernel
theorem dX6_firstRefutedBy_31 : decode cX6_firstRefutedBy 31 = .ok (.aload_n 1, 1) := by decide +kernel
theorem dX6_firstRefutedBy_32 : decode cX6_firstRefutedBy 32 = .ok (.getfield 128, 3) := by decide +kernel
theorem dX6_firstRefutedBy_35 : decode cX6_firstRefutedBy 35 = .ok (.iload_n 3, 1) := by decide +kernel
theorem dX6_firstRefutedBy_36 : decode cX6_firstRefutedBy 36 = .ok (.iaload, 1) := by decide +kernel
theorem dX6_firstRefutedBy_37 : decode cX6_firstRefutedBy 37 = .ok (.aload_n 0, 1) := by decide +kernel
theorem dX6_firstRefutedBy_38 : decode cX6_firstRefutedBy 38 = .ok (.getfield 32, 3) := by decide +kernel
theorem dX6_firstRefutedBy_41 : decode cX6_firstRefutedBy 41 = .ok (.iload_n 2, 1) := by decide +kernel
theorem dX6_firstRefutedBy_42 : decode cX6_firstRefutedBy 42 = .ok (.iconst 2, 1) := by decide +kernel
theorem dX6_firstRefutedBy_43 : decode cX6_firstRefutedBy 43 = .ok (.invokevirtual 124, 3) := by decide +kernel
theorem dX6_firstRefutedBy_46 : decode cX6_firstRefutedBy 46 = .ok (.if_icmp .eq 5, 3) := by decide +kernel
theorem dX6_firstRefutedBy_49 : decode cX6_firstRefutedBy 49 = .ok (.iload_n 2, 1) := by decide +kernel
theorem dX6_firstRefutedBy_50 : decode cX6_firstRefutedBy 50 = .ok (.ireturn, 1) := by decide +kernel
theorem dX6_firstRefutedBy_51 : decode cX6_firstRefutedBy 51 = .ok (.iinc 2 1, 3) := by decide +kernel
theorem dX6_firstRefutedBy_54 : decode cX6_firstRefutedBy 54 = .ok (.goto (-52), 3) := by decide +kernel
theorem dX6_firstRefutedBy_57 : decode cX6_firstRefutedBy 57 = .ok (.aload_n 0, 1) := by decide +kernel
theorem dX6_firstRefutedBy_58 : decode cX6_firstRefutedBy 58 = .ok (.getfield 32, 3) := by decide +kernel
theorem dX6_firstRefutedBy_61 : decode cX6_firstRefutedBy 61 = .ok (.getfield 59, 3) := by decide +kernel
theorem dX6_firstRefutedBy_64 : decode cX6_firstRefutedBy 64 = .ok (.ireturn, 1) := by decide +kernel
theorem dX6_blameService_0 : decode cX6_blameService 0 = .ok (.aload_n 0, 1) := by decide +kernel
theorem dX6_blameService_1 : decode cX6_blameService 1 = .ok (.getfield 19, 3) := by decide +kernel
theorem dX6_blameService_4 : decode cX6_blameService 4 = .ok (.iload_n 1, 1) := by decide +kernel
theorem dX6_blameService_5 : decode cX6_blameService 5 = .ok (.aaload, 1) := by decide +kernel
theorem dX6_blameService_6 : decode cX6_blameService 6 = .ok (.astore_n 3, 1) := by decide +kernel
theorem dX6_blameService_7 : decode cX6_blameService 7 = .ok (.aload_n 0, 1) := by decide +kernel
theorem dX6_blameService_8 : decode cX6_blameService 8 = .ok (.getfield 11, 3) := by decide +kernel
theorem dX6_blameService_11 : decode cX6_blameService 11 = .ok (.aload_n 3, 1) := by decide +kernel
theorem dX6_blameService_12 : decode cX6_blameService 12 = .ok (.getfield 77, 3) := by decide +kernel
theorem dX6_blameService_15 : decode cX6_blameService 15 = .ok (.aaload, 1) := by decide +kernel
theorem dX6_blameService_16 : decode cX6_blameService 16 = .ok (.astore 4, 2) := by decide +kernel
theorem dX6_blameService_18 : decode cX6_blameService 18 = .ok (.iload_n 2, 1) := by decide +kernel
theorem dX6_blameService_19 : decode cX6_blameService 19 = .ok (.iconst 1, 1) := by decide +kernel
theorem dX6_blameService_20 : decode cX6_blameService 20 = .ok (.if_icmp .ne 26, 3) := by decide +kernel
theorem dX6_blameService_23 : decode cX6_blameService 23 = .ok (.aload_n 0, 1) := by decide +kernel
theorem dX6_blameService_24 : decode cX6_blameService 24 = .ok (.iconst 1, 1) := by decide +kernel
theorem dX6_blameService_25 : decode cX6_blameService 25 = .ok (.iload_n 1, 1) := by decide +kernel
theorem dX6_blameService_26 : decode cX6_blameService 26 = .ok (.iconst (-1), 1) := by decide +kernel
theorem dX6_blameService_27 : decode cX6_blameService 27 = .ok (.aload_n 3, 1) := by decide +kernel
theorem dX6_blameService_28 : decode cX6_blameService 28 = .ok (.getfield 74, 3) := by decide +kernel
theorem dX6_blameService_31 : decode cX6_blameService 31 = .ok (.aload_n 3, 1) := by decide +kernel
theorem dX6_blameService_32 : decode cX6_blameService 32 = .ok (.invokevirtual 132, 3) := by decide +kernel
theorem dX6_blameService_35 : decode cX6_blameService 35 = .ok (.aload 4, 2) := by decide +kernel
theorem dX6_blameService_37 : decode cX6_blameService 37 = .ok (.invokevirtual 136, 3) := by decide +kernel
theorem dX6_blameService_40 : decode cX6_blameService 40 = .ok (.invokevirtual 137, 3) := by decide +kernel
theorem dX6_blameService_43 : decode cX6_blameService 43 = .ok (.goto 179, 3) := by decide +kernel
theorem dX6_blameService_46 : decode cX6_blameService 46 = .ok (.iload_n 2, 1) := by decide +kernel
theorem dX6_blameService_47 : decode cX6_blameService 47 = .ok (.iconst 2, 1) := by decide +kernel
theorem dX6_blameService_48 : decode cX6_blameService 48 = .ok (.if_icmp .ne 55, 3) := by decide +kernel
theorem dX6_blameService_51 : decode cX6_blameService 51 = .ok (.aload_n 3, 1) := by decide +kernel
theorem dX6_blameService_52 : decode cX6_blameService 52 = .ok (.getfield 141, 3) := by decide +kernel
theorem dX6_blameService_55 : decode cX6_blameService 55 = .ok (.aload 4, 2) := by decide +kernel
theorem dX6_blameService_57 : decode cX6_blameService 57 = .ok (.getfield 128, 3) := by decide +kernel
theorem dX6_blameService_60 : decode cX6_blameService 60 = .ok (.aload_n 3, 1) := by decide +kernel
theorem dX6_blameService_61 : decode cX6_blameService 61 = .ok (.getfield 74, 3) := by decide +kernel
theorem dX6_blameService_64 : decode cX6_blameService 64 = .ok (.invokestatic 142, 3) := by decide +kernel
theorem dX6_blameService_67 : decode cX6_blameService 67 = .ok (.aload_n 3, 1) := by decide +kernel
theorem dX6_blameService_68 : decode cX6_blameService 68 = .ok (.getfield 74, 3) := by decide +kernel
theorem dX6_blameService_71 : decode cX6_blameService 71 = .ok (.invokestatic 146, 3) := by decide +kernel
theorem dX6_blameService_74 : decode cX6_blameService 74 = .ok (.istore 5, 2) := by decide +kernel
theorem dX6_blameService_76 : decode cX6_blameService 76 = .ok (.aload_n 0, 1) := by decide +kernel
theorem dX6_blameService_77 : decode cX6_blameService 77 = .ok (.iconst 2, 1) := by decide +kernel
theorem dX6_blameService_78 : decode cX6_blameService 78 = .ok (.iload_n 1, 1) := by decide +kernel
theorem dX6_blameService_79 : decode cX6_blameService 79 = .ok (.iconst (-1), 1) := by decide +kernel
theorem dX6_blameService_80 : decode cX6_blameService 80 = .ok (.iload 5, 2) := by decide +kernel
theorem dX6_blameService_82 : decode cX6_blameService 82 = .ok (.aload_n 3, 1) := by decide +kernel
theorem dX6_blameService_83 : decode cX6_blameService 83 = .ok (.getfield 141, 3) := by decide +kernel
theorem dX6_blameService_86 : decode cX6_blameService 86 = .ok (.iload 5, 2) := by decide +kernel
theorem dX6_blameService_88 : decode cX6_blameService 88 = .ok (.iaload, 1) := by decide +kernel
theorem dX6_blameService_89 : decode cX6_blameService 89 = .ok (.aload 4, 2) := by decide +kernel
theorem dX6_blameService_91 : decode cX6_blameService 91 = .ok (.getfield 128, 3) := by decide +kernel
theorem dX6_blameService_94 : decode cX6_blameService 94 = .ok (.iload 5, 2) := by decide +kernel
theorem dX6_blameService_96 : decode cX6_blameService 96 = .ok (.iaload, 1) := by decide +kernel
theorem dX6_blameService_97 : decode cX6_blameService 97 = .ok (.invokevirtual 137, 3) := by decide +kernel
theorem dX6_blameService_100 : decode cX6_blameService 100 = .ok (.goto 122, 3) := by decide +kernel
theorem dX6_blameService_103 : decode cX6_blameService 103 = .ok (.iload_n 2, 1) := by decide +kernel
theorem dX6_blameService_104 : decode cX6_blameService 104 = .ok (.iconst 3, 1) := by decide +kernel
theorem dX6_blameService_105 : decode cX6_blameService 105 = .ok (.if_icmp .ne 49, 3) := by decide +kernel
theorem dX6_blameService_108 : decode cX6_blameService 108 = .ok (.aload 4, 2) := by decide +kernel
theorem dX6_blameService_110 : decode cX6_blameService 110 = .ok (.aload_n 3, 1) := by decide +kernel
theorem dX6_blameService_111 : decode cX6_blameService 111 = .ok (.getfield 74, 3) := by decide +kernel
theorem dX6_blameService_114 : decode cX6_blameService 114 = .ok (.invokevirtual 117, 3) := by decide +kernel
theorem dX6_blameService_117 : decode cX6_blameService 117 = .ok (.aload 4, 2) := by decide +kernel
theorem dX6_blameService_119 : decode cX6_blameService 119 = .ok (.getfield 53, 3) := by decide +kernel
theorem dX6_blameService_122 : decode cX6_blameService 122 = .ok (.invokestatic 146, 3) := by decide +kernel
theorem dX6_blameService_125 : decode cX6_blameService 125 = .ok (.istore 5, 2) := by decide +kernel
theorem dX6_blameService_127 : decode cX6_blameService 127 = .ok (.aload_n 0, 1) := by decide +kernel
theorem dX6_blameService_128 : decode cX6_blameService 128 = .ok (.iconst 3, 1) := by decide +kernel
theorem dX6_blameService_129 : decode cX6_blameService 129 = .ok (.iload_n 1, 1) := by decide +kernel
theorem dX6_blameService_130 : decode cX6_blameService 130 = .ok (.iconst (-1), 1) := by decide +kernel
theorem dX6_blameService_131 : decode cX6_blameService 131 = .ok (.iload 5, 2) := by decide +kernel
theorem dX6_blameService_133 : decode cX6_blameService 133 = .ok (.aload 4, 2) := by decide +kernel
theorem dX6_blameService_135 : decode cX6_blameService 135 = .ok (.iload 5, 2) := by decide +kernel
theorem dX6_blameService_137 : decode cX6_blameService 137 = .ok (.invokevirtual 151, 3) := by decide +kernel
theorem dX6_blameService_140 : decode cX6_blameService 140 = .ok (.aload 4, 2) := by decide +kernel
theorem dX6_blameService_142 : decode cX6_blameService 142 = .ok (.getfield 128, 3) := by decide +kernel
theorem dX6_blameService_145 : decode cX6_blameService 145 = .ok (.iload 5, 2) := by decide +kernel
theorem dX6_blameService_147 : decode cX6_blameService 147 = .ok (.iaload, 1) := by decide +kernel
theorem dX6_blameService_148 : decode cX6_blameService 148 = .ok (.invokevirtual 137, 3) := by decide +kernel
theorem dX6_blameService_151 : decode cX6_blameService 151 = .ok (.goto 71, 3) := by decide +kernel
theorem dX6_blameService_154 : decode cX6_blameService 154 = .ok (.aload_n 0, 1) := by decide +kernel
theorem dX6_blameService_155 : decode cX6_blameService 155 = .ok (.aload 4, 2) := by decide +kernel
theorem dX6_blameService_157 : decode cX6_blameService 157 = .ok (.invokevirtual 120, 3) := by decide +kernel
theorem dX6_blameService_160 : decode cX6_blameService 160 = .ok (.istore 5, 2) := by decide +kernel
theorem dX6_blameService_162 : decode cX6_blameService 162 = .ok (.aload_n 0, 1) := by decide +kernel
theorem dX6_blameService_163 : decode cX6_blameService 163 = .ok (.getfield 32, 3) := by decide +kernel
theorem dX6_blameService_166 : decode cX6_blameService 166 = .ok (.iload 5, 2) := by decide +kernel
theorem dX6_blameService_168 : decode cX6_blameService 168 = .ok (.iconst 1, 1) := by decide +kernel
theorem dX6_blameService_169 : decode cX6_blameService 169 = .ok (.invokevirtual 124, 3) := by decide +kernel
theorem dX6_blameService_172 : decode cX6_blameService 172 = .ok (.aload 4, 2) := by decide +kernel
theorem dX6_blameService_174 : decode cX6_blameService 174 = .ok (.getfield 53, 3) := by decide +kernel
theorem dX6_blameService_177 : decode cX6_blameService 177 = .ok (.invokestatic 146, 3) := by decide +kernel
theorem dX6_blameService_180 : decode cX6_blameService 180 = .ok (.istore 6, 2) := by decide +kernel
theorem dX6_blameService_182 : decode cX6_blameService 182 = .ok (.aload_n 0, 1) := by decide +kernel
theorem dX6_blameService_183 : decode cX6_blameService 183 = .ok (.getfield 32, 3) := by decide +kernel
theorem dX6_blameService_186 : decode cX6_blameService 186 = .ok (.iload 5, 2) := by decide +kernel
theorem dX6_blameService_188 : decode cX6_blameService 188 = .ok (.iconst 0, 1) := by decide +kernel
theorem dX6_blameService_189 : decode cX6_blameService 189 = .ok (.invokevirtual 124, 3) := by decide +kernel
theorem dX6_blameService_192 : decode cX6_blameService 192 = .ok (.istore 7, 2) := by decide +kernel
theorem dX6_blameService_194 : decode cX6_blameService 194 = .ok (.aload_n 0, 1) := by decide +kernel
theorem dX6_blameService_195 : decode cX6_blameService 195 = .ok (.iconst 2, 1) := by decide +kernel
theorem dX6_blameService_196 : decode cX6_blameService 196 = .ok (.iload_n 1, 1) := by decide +kernel
theorem dX6_blameService_197 : decode cX6_blameService 197 = .ok (.iload 7, 2) := by decide +kernel
theorem dX6_blameService_199 : decode cX6_blameService 199 = .ok (.iload 6, 2) := by decide +kernel
theorem dX6_blameService_201 : decode cX6_blameService 201 = .ok (.aload 4, 2) := by decide +kernel
theorem dX6_blameService_203 : decode cX6_blameService 203 = .ok (.getfield 128, 3) := by decide +kernel
theorem dX6_blameService_206 : decode cX6_blameService 206 = .ok (.iload 6, 2) := by decide +kernel
theorem dX6_blameService_208 : decode cX6_blameService 208 = .ok (.iaload, 1) := by decide +kernel
theorem dX6_blameService_209 : decode cX6_blameService 209 = .ok (.aload_n 0, 1) := by decide +kernel
theorem dX6_blameService_210 : decode cX6_blameService 210 = .ok (.getfield 32, 3) := by decide +kernel
theorem dX6_blameService_213 : decode cX6_blameService 213 = .ok (.iload 5, 2) := by decide +kernel
theorem dX6_blameService_215 : decode cX6_blameService 215 = .ok (.iconst 2, 1) := by decide +kernel
theorem dX6_blameService_216 : decode cX6_blameService 216 = .ok (.invokevirtual 124, 3) := by decide +kernel
theorem dX6_blameService_219 : decode cX6_blameService 219 = .ok (.invokevirtual 137, 3) := by decide +kernel
theorem dX6_blameService_222 : decode cX6_blameService 222 = .ok (.return_, 1) := by decide +kernel
theorem dX6_addBlame_0 : decode cX6_addBlame 0 = .ok (.aload_n 0, 1) := by decide +kernel
theorem dX6_addBlame_1 : decode cX6_addBlame 1 = .ok (.getfield 28, 3) := by decide +kernel
theorem dX6_addBlame_4 : decode cX6_addBlame 4 = .ok (.invokevirtual 154, 3) := by decide +kernel
theorem dX6_addBlame_7 : decode cX6_addBlame 7 = .ok (.istore 7, 2) := by decide +kernel
theorem dX6_addBlame_9 : decode cX6_addBlame 9 = .ok (.aload_n 0, 1) := by decide +kernel
theorem dX6_addBlame_10 : decode cX6_addBlame 10 = .ok (.getfield 28, 3) := by decide +kernel
theorem dX6_addBlame_13 : decode cX6_addBlame 13 = .ok (.iload 7, 2) := by decide +kernel
theorem dX6_addBlame_15 : decode cX6_addBlame 15 = .ok (.iconst 0, 1) := by decide +kernel
theorem dX6_addBlame_16 : decode cX6_addBlame 16 = .ok (.iload_n 1, 1) := by decide +kernel
theorem dX6_addBlame_17 : decode cX6_addBlame 17 = .ok (.invokevirtual 157, 3) := by decide +kernel
theorem dX6_addBlame_20 : decode cX6_addBlame 20 = .ok (.aload_n 0, 1) := by decide +kernel
theorem dX6_addBlame_21 : decode cX6_addBlame 21 = .ok (.getfield 28, 3) := by decide +kernel
theorem dX6_addBlame_24 : decode cX6_addBlame 24 = .ok (.iload 7, 2) := by decide +kernel
theorem dX6_addBlame_26 : decode cX6_addBlame 26 = .ok (.iconst 1, 1) := by decide +kernel
theorem dX6_addBlame_27 : decode cX6_addBlame 27 = .ok (.iload_n 2, 1) := by decide +kernel
theorem dX6_addBlame_28 : decode cX6_addBlame 28 = .ok (.invokevirtual 157, 3) := by decide +kernel
theorem dX6_addBlame_31 : decode cX6_addBlame 31 = .ok (.aload_n 0, 1) := by decide +kernel
theorem dX6_addBlame_32 : decode cX6_addBlame 32 = .ok (.getfield 28, 3) := by decide +kernel
theorem dX6_addBlame_35 : decode cX6_addBlame 35 = .ok (.iload 7, 2) := by decide +kernel
theorem dX6_addBlame_37 : decode cX6_addBlame 37 = .ok (.iconst 2, 1) := by decide +kernel
theorem dX6_addBlame_38 : decode cX6_addBlame 38 = .ok (.iload_n 3, 1) := by decide +kernel
theorem dX6_addBlame_39 : decode cX6_addBlame 39 = .ok (.invokevirtual 157, 3) := by decide +kernel
theorem dX6_addBlame_42 : decode cX6_addBlame 42 = .ok (.aload_n 0, 1) := by decide +kernel
theorem dX6_addBlame_43 : decode cX6_addBlame 43 = .ok (.getfield 28, 3) := by decide +kernel
theorem dX6_addBlame_46 : decode cX6_addBlame 46 = .ok (.iload 7, 2) := by decide +kernel
theorem dX6_addBlame_48 : decode cX6_addBlame 48 = .ok (.iconst 3, 1) := by decide +kernel
theorem dX6_addBlame_49 : decode cX6_addBlame 49 = .ok (.iload 4, 2) := by decide +kernel
theorem dX6_addBlame_51 : decode cX6_addBlame 51 = .ok (.invokevirtual 157, 3) := by decide +kernel
theorem dX6_addBlame_54 : decode cX6_addBlame 54 = .ok (.aload_n 0, 1) := by decide +kernel
theorem dX6_addBlame_55 : decode cX6_addBlame 55 = .ok (.getfield 28, 3) := by decide +kernel
theorem dX6_addBlame_58 : decode cX6_addBlame 58 = .ok (.iload 7, 2) := by decide +kernel
theorem dX6_addBlame_60 : decode cX6_addBlame 60 = .ok (.iconst 4, 1) := by decide +kernel
theorem dX6_addBlame_61 : decode cX6_addBlame 61 = .ok (.iload 5, 2) := by decide +kernel
theorem dX6_addBlame_63 : decode cX6_addBlame 63 = .ok (.invokevirtual 157, 3) := by decide +kernel
theorem dX6_addBlame_66 : decode cX6_addBlame 66 = .ok (.aload_n 0, 1) := by decide +kernel
theorem dX6_addBlame_67 : decode cX6_addBlame 67 = .ok (.getfield 28, 3) := by decide +kernel
theorem dX6_addBlame_70 : decode cX6_addBlame 70 = .ok (.iload 7, 2) := by decide +kernel
theorem dX6_addBlame_72 : decode cX6_addBlame 72 = .ok (.iconst 5, 1) := by decide +kernel
theorem dX6_addBlame_73 : decode cX6_addBlame 73 = .ok (.iload 6, 2) := by decide +kernel
theorem dX6_addBlame_75 : decode cX6_addBlame 75 = .ok (.invokevirtual 157, 3) := by decide +kernel
theorem dX6_addBlame_78 : decode cX6_addBlame 78 = .ok (.return_, 1) := by decide +kernel
theorem dX6_addPost_0 : decode cX6_addPost 0 = .ok (.aload_n 0, 1) := by decide +kernel
theorem dX6_addPost_1 : decode cX6_addPost 1 = .ok (.getfield 19, 3) := by decide +kernel
theorem dX6_addPost_4 : decode cX6_addPost 4 = .ok (.iload_n 1, 1) := by decide +kernel
theorem dX6_addPost_5 : decode cX6_addPost 5 = .ok (.aaload, 1) := by decide +kernel
theorem dX6_addPost_6 : decode cX6_addPost 6 = .ok (.astore_n 2, 1) := by decide +kernel
theorem dX6_addPost_7 : decode cX6_addPost 7 = .ok (.aload_n 2, 1) := by decide +kernel
theorem dX6_addPost_8 : decode cX6_addPost 8 = .ok (.invokevirtual 132, 3) := by decide +kernel
theorem dX6_addPost_11 : decode cX6_addPost 11 = .ok (.istore_n 3, 1) := by decide +kernel
theorem dX6_addPost_12 : decode cX6_addPost 12 = .ok (.aload_n 0, 1) := by decide +kernel
theorem dX6_addPost_13 : decode cX6_addPost 13 = .ok (.getfield 39, 3) := by decide +kernel
theorem dX6_addPost_16 : decode cX6_addPost 16 = .ok (.i2l, 1) := by decide +kernel
theorem dX6_addPost_17 : decode cX6_addPost 17 = .ok (.ldc2_w 161, 3) := by decide +kernel
theorem dX6_addPost_20 : decode cX6_addPost 20 = .ok (.lmul, 1) := by decide +kernel
theorem dX6_addPost_21 : decode cX6_addPost 21 = .ok (.iload_n 3, 1) := by decide +kernel
theorem dX6_addPost_22 : decode cX6_addPost 22 = .ok (.i2l, 1) := by decide +kernel
theorem dX6_addPost_23 : decode cX6_addPost 23 = .ok (.ldc2_w 163, 3) := by decide +kernel
theorem dX6_addPost_26 : decode cX6_addPost 26 = .ok (.lmul, 1) := by decide +kernel
theorem dX6_addPost_27 : decode cX6_addPost 27 = .ok (.ladd, 1) := by decide +kernel
theorem dX6_addPost_28 : decode cX6_addPost 28 = .ok (.aload_n 2, 1) := by decide +kernel
theorem dX6_addPost_29 : decode cX6_addPost 29 = .ok (.getfield 74, 3) := by decide +kernel
theorem dX6_addPost_32 : decode cX6_addPost 32 = .ok (.i2l, 1) := by decide +kernel
theorem dX6_addPost_33 : decode cX6_addPost 33 = .ok (.ldc2_w 165, 3) := by decide +kernel
theorem dX6_addPost_36 : decode cX6_addPost 36 = .ok (.lmul, 1) := by decide +kernel
theorem dX6_addPost_37 : decode cX6_addPost 37 = .ok (.ladd, 1) := by decide +kernel
theorem dX6_addPost_38 : decode cX6_addPost 38 = .ok (.iload_n 1, 1) := by decide +kernel
theorem dX6_addPost_39 : decode cX6_addPost 39 = .ok (.i2l, 1) := by decide +kernel
theorem dX6_addPost_40 : decode cX6_addPost 40 = .ok (.ladd, 1) := by decide +kernel
theorem dX6_addPost_41 : decode cX6_addPost 41 = .ok (.lstore 4, 2) := by decide +kernel
theorem dX6_addPost_43 : decode cX6_addPost 43 = .ok (.aload_n 0, 1) := by decide +kernel
theorem dX6_addPost_44 : decode cX6_addPost 44 = .ok (.lload 4, 2) := by decide +kernel
theorem dX6_addPost_46 : decode cX6_addPost 46 = .ok (.ldc2_w 167, 3) := by decide +kernel
theorem dX6_addPost_49 : decode cX6_addPost 49 = .ok (.lrem, 1) := by decide +kernel
theorem dX6_addPost_50 : decode cX6_addPost 50 = .ok (.l2i, 1) := by decide +kernel
theorem dX6_addPost_51 : decode cX6_addPost 51 = .ok (.putfield 39, 3) := by decide +kernel
theorem dX6_addPost_54 : decode cX6_addPost 54 = .ok (.aload_n 0, 1) := by decide +kernel
theorem dX6_addPost_55 : decode cX6_addPost 55 = .ok (.getfield 32, 3) := by decide +kernel
theorem dX6_addPost_58 : decode cX6_addPost 58 = .ok (.invokevirtual 154, 3) := by decide +kernel
theorem dX6_addPost_61 : decode cX6_addPost 61 = .ok (.istore 6, 2) := by decide +kernel
theorem dX6_addPost_63 : decode cX6_addPost 63 = .ok (.aload_n 0, 1) := by decide +kernel
theorem dX6_addPost_64 : decode cX6_addPost 64 = .ok (.getfield 32, 3) := by decide +kernel
theorem dX6_addPost_67 : decode cX6_addPost 67 = .ok (.iload 6, 2) := by decide +kernel
theorem dX6_addPost_69 : decode cX6_addPost 69 = .ok (.iconst 0, 1) := by decide +kernel
theorem dX6_addPost_70 : decode cX6_addPost 70 = .ok (.iload_n 1, 1) := by decide +kernel
theorem dX6_addPost_71 : decode cX6_addPost 71 = .ok (.invokevirtual 157, 3) := by decide +kernel
theorem dX6_addPost_74 : decode cX6_addPost 74 = .ok (.aload_n 0, 1) := by decide +kernel
theorem dX6_addPost_75 : decode cX6_addPost 75 = .ok (.getfield 32, 3) := by decide +kernel
theorem dX6_addPost_78 : decode cX6_addPost 78 = .ok (.iload 6, 2) := by decide +kernel
theorem dX6_addPost_80 : decode cX6_addPost 80 = .ok (.iconst 1, 1) := by decide +kernel
theorem dX6_addPost_81 : decode cX6_addPost 81 = .ok (.aload_n 2, 1) := by decide +kernel
theorem dX6_addPost_82 : decode cX6_addPost 82 = .ok (.getfield 74, 3) := by decide +kernel
theorem dX6_addPost_85 : decode cX6_addPost 85 = .ok (.invokevirtual 157, 3) := by decide +kernel
theorem dX6_addPost_88 : decode cX6_addPost 88 = .ok (.aload_n 0, 1) := by decide +kernel
theorem dX6_addPost_89 : decode cX6_addPost 89 = .ok (.getfield 32, 3) := by decide +kernel
theorem dX6_addPost_92 : decode cX6_addPost 92 = .ok (.iload 6, 2) := by decide +kernel
theorem dX6_addPost_94 : decode cX6_addPost 94 = .ok (.iconst 2, 1) := by decide +kernel
theorem dX6_addPost_95 : decode cX6_addPost 95 = .ok (.iload_n 3, 1) := by decide +kernel
theorem dX6_addPost_96 : decode cX6_addPost 96 = .ok (.invokevirtual 157, 3) := by decide +kernel
theorem dX6_addPost_99 : decode cX6_addPost 99 = .ok (.aload_n 0, 1) := by decide +kernel
theorem dX6_addPost_100 : decode cX6_addPost 100 = .ok (.getfield 32, 3) := by decide +kernel
theorem dX6_addPost_103 : decode cX6_addPost 103 = .ok (.iload 6, 2) := by decide +kernel
theorem dX6_addPost_105 : decode cX6_addPost 105 = .ok (.iconst 3, 1) := by decide +kernel
theorem dX6_addPost_106 : decode cX6_addPost 106 = .ok (.aload_n 0, 1) := by decide +kernel
theorem dX6_addPost_107 : decode cX6_addPost 107 = .ok (.getfield 39, 3) := by decide +kernel
theorem dX6_addPost_110 : decode cX6_addPost 110 = .ok (.invokevirtual 157, 3) := by decide +kernel
theorem dX6_addPost_113 : decode cX6_addPost 113 = .ok (.return_, 1) := by decide +kernel
theorem dX6_doExchange_0 : decode cX6_doExchange 0 = .ok (.aload_n 0, 1) := by decide +kernel
theorem dX6_doExchange_1 : decode cX6_doExchange 1 = .ok (.iload_n 1, 1) := by decide +kernel
theorem dX6_doExchange_2 : decode cX6_doExchange 2 = .ok (.invokevirtual 62, 3) := by decide +kernel
theorem dX6_doExchange_5 : decode cX6_doExchange 5 = .ok (.ifCond .eq 16, 3) := by decide +kernel
theorem dX6_doExchange_8 : decode cX6_doExchange 8 = .ok (.aload_n 0, 1) := by decide +kernel
theorem dX6_doExchange_9 : decode cX6_doExchange 9 = .ok (.iload_n 2, 1) := by decide +kernel
theorem dX6_doExchange_10 : decode cX6_doExchange 10 = .ok (.invokevirtual 62, 3) := by decide +kernel
theorem dX6_doExchange_13 : decode cX6_doExchange 13 = .ok (.ifCond .eq 8, 3) := by decide +kernel
theorem dX6_doExchange_16 : decode cX6_doExchange 16 = .ok (.iload_n 1, 1) := by decide +kernel
theorem dX6_doExchange_17 : decode cX6_doExchange 17 = .ok (.iload_n 2, 1) := by decide +kernel
theorem dX6_doExchange_18 : decode cX6_doExchange 18 = .ok (.if_icmp .ne 5, 3) := by decide +kernel
theorem dX6_doExchange_21 : decode cX6_doExchange 21 = .ok (.iconst (-1), 1) := by decide +kernel
theorem dX6_doExchange_22 : decode cX6_doExchange 22 = .ok (.ireturn, 1) := by decide +kernel
theorem dX6_doExchange_23 : decode cX6_doExchange 23 = .ok (.aload_n 0, 1) := by decide +kernel
theorem dX6_doExchange_24 : decode cX6_doExchange 24 = .ok (.getfield 19, 3) := by decide +kernel
theorem dX6_doExchange_27 : decode cX6_doExchange 27 = .ok (.iload_n 1, 1) := by decide +kernel
theorem dX6_doExchange_28 : decode cX6_doExchange 28 = .ok (.aaload, 1) := by decide +kernel
theorem dX6_doExchange_29 : decode cX6_doExchange 29 = .ok (.astore_n 3, 1) := by decide +kernel
theorem dX6_doExchange_30 : decode cX6_doExchange 30 = .ok (.aload_n 0, 1) := by decide +kernel
theorem dX6_doExchange_31 : decode cX6_doExchange 31 = .ok (.getfield 19, 3) := by decide +kernel
theorem dX6_doExchange_34 : decode cX6_doExchange 34 = .ok (.iload_n 2, 1) := by decide +kernel
theorem dX6_doExchange_35 : decode cX6_doExchange 35 = .ok (.aaload, 1) := by decide +kernel
theorem dX6_doExchange_36 : decode cX6_doExchange 36 = .ok (.astore 4, 2) := by decide +kernel
theorem dX6_doExchange_38 : decode cX6_doExchange 38 = .ok (.aload_n 3, 1) := by decide +kernel
theorem dX6_doExchange_39 : decode cX6_doExchange 39 = .ok (.aload 4, 2) := by decide +kernel
theorem dX6_doExchange_41 : decode cX6_doExchange 41 = .ok (.invokevirtual 169, 3) := by decide +kernel
theorem dX6_doExchange_44 : decode cX6_doExchange 44 = .ok (.ifCond .eq 55, 3) := by decide +kernel
theorem dX6_doExchange_47 : decode cX6_doExchange 47 = .ok (.aload_n 3, 1) := by decide +kernel
theorem dX6_doExchange_48 : decode cX6_doExchange 48 = .ok (.aload 4, 2) := by decide +kernel
theorem dX6_doExchange_50 : decode cX6_doExchange 50 = .ok (.invokevirtual 173, 3) := by decide +kernel
theorem dX6_doExchange_53 : decode cX6_doExchange 53 = .ok (.aload_n 3, 1) := by decide +kernel
theorem dX6_doExchange_54 : decode cX6_doExchange 54 = .ok (.getfield 74, 3) := by decide +kernel
theorem dX6_doExchange_57 : decode cX6_doExchange 57 = .ok (.invokestatic 146, 3) := by decide +kernel
theorem dX6_doExchange_60 : decode cX6_doExchange 60 = .ok (.istore 5, 2) := by decide +kernel
theorem dX6_doExchange_62 : decode cX6_doExchange 62 = .ok (.aload_n 0, 1) := by decide +kernel
theorem dX6_doExchange_63 : decode cX6_doExchange 63 = .ok (.iconst 2, 1) := by decide +kernel
theorem dX6_doExchange_64 : decode cX6_doExchange 64 = .ok (.iload_n 1, 1) := by decide +kernel
theorem dX6_doExchange_65 : decode cX6_doExchange 65 = .ok (.iload_n 2, 1) := by decide +kernel
theorem dX6_doExchange_66 : decode cX6_doExchange 66 = .ok (.iload 5, 2) := by decide +kernel
theorem dX6_doExchange_68 : decode cX6_doExchange 68 = .ok (.aload_n 3, 1) := by decide +kernel
theorem dX6_doExchange_69 : decode cX6_doExchange 69 = .ok (.getfield 141, 3) := by decide +kernel
theorem dX6_doExchange_72 : decode cX6_doExchange 72 = .ok (.iload 5, 2) := by decide +kernel
theorem dX6_doExchange_74 : decode cX6_doExchange 74 = .ok (.iaload, 1) := by decide +kernel
theorem dX6_doExchange_75 : decode cX6_doExchange 75 = .ok (.aload 4, 2) := by decide +kernel
theorem dX6_doExchange_77 : decode cX6_doExchange 77 = .ok (.getfield 141, 3) := by decide +kernel
theorem dX6_doExchange_80 : decode cX6_doExchange 80 = .ok (.iload 5, 2) := by decide +kernel
theorem dX6_doExchange_82 : decode cX6_doExchange 82 = .ok (.iaload, 1) := by decide +kernel
theorem dX6_doExchange_83 : decode cX6_doExchange 83 = .ok (.invokevirtual 137, 3) := by decide +kernel
theorem dX6_doExchange_86 : decode cX6_doExchange 86 = .ok (.aload_n 3, 1) := by decide +kernel
theorem dX6_doExchange_87 : decode cX6_doExchange 87 = .ok (.iconst 1, 1) := by decide +kernel
theorem dX6_doExchange_88 : decode cX6_doExchange 88 = .ok (.putfield 84, 3) := by decide +kernel
theorem dX6_doExchange_91 : decode cX6_doExchange 91 = .ok (.aload 4, 2) := by decide +kernel
theorem dX6_doExchange_93 : decode cX6_doExchange 93 = .ok (.iconst 1, 1) := by decide +kernel
theorem dX6_doExchange_94 : decode cX6_doExchange 94 = .ok (.putfield 84, 3) := by decide +kernel
theorem dX6_doExchange_97 : decode cX6_doExchange 97 = .ok (.iconst 3, 1) := by decide +kernel
theorem dX6_doExchange_98 : decode cX6_doExchange 98 = .ok (.ireturn, 1) := by decide +kernel
theorem dX6_doExchange_99 : decode cX6_doExchange 99 = .ok (.aload_n 3, 1) := by decide +kernel
theorem dX6_doExchange_100 : decode cX6_doExchange 100 = .ok (.getfield 74, 3) := by decide +kernel
theorem dX6_doExchange_103 : decode cX6_doExchange 103 = .ok (.aload 4, 2) := by decide +kernel
theorem dX6_doExchange_105 : decode cX6_doExchange 105 = .ok (.getfield 74, 3) := by decide +kernel
theorem dX6_doExchange_108 : decode cX6_doExchange 108 = .ok (.if_icmp .ne 5, 3) := by decide +kernel
theorem dX6_doExchange_111 : decode cX6_doExchange 111 = .ok (.iconst 0, 1) := by decide +kernel
theorem dX6_doExchange_112 : decode cX6_doExchange 112 = .ok (.ireturn, 1) := by decide +kernel
theorem dX6_doExchange_113 : decode cX6_doExchange 113 = .ok (.aload_n 3, 1) := by decide +kernel
theorem dX6_doExchange_114 : decode cX6_doExchange 114 = .ok (.getfield 74, 3) := by decide +kernel
theorem dX6_doExchange_117 : decode cX6_doExchange 117 = .ok (.aload 4, 2) := by decide +kernel
theorem dX6_doExchange_119 : decode cX6_doExchange 119 = .ok (.getfield 74, 3) := by decide +kernel
theorem dX6_doExchange_122 : decode cX6_doExchange 122 = .ok (.if_icmp .ge 7, 3) := by decide +kernel
theorem dX6_doExchange_125 : decode cX6_doExchange 125 = .ok (.iconst 1, 1) := by decide +kernel
theorem dX6_doExchange_126 : decode cX6_doExchange 126 = .ok (.goto 4, 3) := by decide +kernel
theorem dX6_doExchange_129 : decode cX6_doExchange 129 = .ok (.iconst 2, 1) := by decide +kernel
theorem dX6_doExchange_130 : decode cX6_doExchange 130 = .ok (.ireturn, 1) := by decide +kernel
theorem dX6_doPost_0 : decode cX6_doPost 0 = .ok (.aload_n 0, 1) := by decide +kernel
theorem dX6_doPost_1 : decode cX6_doPost 1 = .ok (.iload_n 1, 1) := by decide +kernel
theorem dX6_doPost_2 : decode cX6_doPost 2 = .ok (.invokevirtual 62, 3) := by decide +kernel
theorem dX6_doPost_5 : decode cX6_doPost 5 = .ok (.ifCond .ne 5, 3) := by decide +kernel
theorem dX6_doPost_8 : decode cX6_doPost 8 = .ok (.iconst (-1), 1) := by decide +kernel
theorem dX6_doPost_9 : decode cX6_doPost 9 = .ok (.ireturn, 1) := by decide +kernel
theorem dX6_doPost_10 : decode cX6_doPost 10 = .ok (.aload_n 0, 1) := by decide +kernel
theorem dX6_doPost_11 : decode cX6_doPost 11 = .ok (.iload_n 1, 1) := by decide +kernel
theorem dX6_doPost_12 : decode cX6_doPost 12 = .ok (.invokevirtual 109, 3) := by decide +kernel
theorem dX6_doPost_15 : decode cX6_doPost 15 = .ok (.aload_n 0, 1) := by decide +kernel
theorem dX6_doPost_16 : decode cX6_doPost 16 = .ok (.getfield 32, 3) := by decide +kernel
theorem dX6_doPost_19 : decode cX6_doPost 19 = .ok (.getfield 59, 3) := by decide +kernel
theorem dX6_doPost_22 : decode cX6_doPost 22 = .ok (.ireturn, 1) := by decide +kernel
theorem dX6_doFork_0 : decode cX6_doFork 0 = .ok (.iload_n 1, 1) := by decide +kernel
theorem dX6_doFork_1 : decode cX6_doFork 1 = .ok (.ifCond .eq 12, 3) := by decide +kernel
theorem dX6_doFork_4 : decode cX6_doFork 4 = .ok (.iload_n 1, 1) := by decide +kernel
theorem dX6_doFork_5 : decode cX6_doFork 5 = .ok (.aload_n 0, 1) := by decide +kernel
theorem dX6_doFork_6 : decode cX6_doFork 6 = .ok (.getfield 44, 3) := by decide +kernel
theorem dX6_doFork_9 : decode cX6_doFork 9 = .ok (.iushr, 1) := by decide +kernel
theorem dX6_doFork_10 : decode cX6_doFork 10 = .ok (.ifCond .eq 6, 3) := by decide +kernel
theorem dX6_doFork_13 : decode cX6_doFork 13 = .ok (.bipush (-2), 2) := by decide +kernel
theorem dX6_doFork_15 : decode cX6_doFork 15 = .ok (.ireturn, 1) := by decide +kernel
theorem dX6_doFork_16 : decode cX6_doFork 16 = .ok (.aload_n 0, 1) := by decide +kernel
theorem dX6_doFork_17 : decode cX6_doFork 17 = .ok (.iload_n 1, 1) := by decide +kernel
theorem dX6_doFork_18 : decode cX6_doFork 18 = .ok (.invokevirtual 177, 3) := by decide +kernel
theorem dX6_doFork_21 : decode cX6_doFork 21 = .ok (.istore_n 2, 1) := by decide +kernel
theorem dX6_doFork_22 : decode cX6_doFork 22 = .ok (.iload_n 2, 1) := by decide +kernel
theorem dX6_doFork_23 : decode cX6_doFork 23 = .ok (.ifCond .lt 12, 3) := by decide +kernel
theorem dX6_doFork_26 : decode cX6_doFork 26 = .ok (.aload_n 0, 1) := by decide +kernel
theorem dX6_doFork_27 : decode cX6_doFork 27 = .ok (.getfield 50, 3) := by decide +kernel
theorem dX6_doFork_30 : decode cX6_doFork 30 = .ok (.bipush 8, 2) := by decide +kernel
theorem dX6_doFork_32 : decode cX6_doFork 32 = .ok (.if_icmp .lt 6, 3) := by decide +kernel
theorem dX6_doFork_35 : decode cX6_doFork 35 = .ok (.bipush (-3), 2) := by decide +kernel
theorem dX6_doFork_37 : decode cX6_doFork 37 = .ok (.ireturn, 1) := by decide +kernel
theorem dX6_doFork_38 : decode cX6_doFork 38 = .ok (.aload_n 0, 1) := by decide +kernel
theorem dX6_doFork_39 : decode cX6_doFork 39 = .ok (.getfield 50, 3) := by decide +kernel
theorem dX6_doFork_42 : decode cX6_doFork 42 = .ok (.istore_n 3, 1) := by decide +kernel
theorem dX6_doFork_43 : decode cX6_doFork 43 = .ok (.aload_n 0, 1) := by decide +kernel
theorem dX6_doFork_44 : decode cX6_doFork 44 = .ok (.dup, 1) := by decide +kernel
theorem dX6_doFork_45 : decode cX6_doFork 45 = .ok (.getfield 50, 3) := by decide +kernel
theorem dX6_doFork_48 : decode cX6_doFork 48 = .ok (.iconst 1, 1) := by decide +kernel
theorem dX6_doFork_49 : decode cX6_doFork 49 = .ok (.iadd, 1) := by decide +kernel
theorem dX6_doFork_50 : decode cX6_doFork 50 = .ok (.putfield 50, 3) := by decide +kernel
theorem dX6_doFork_53 : decode cX6_doFork 53 = .ok (.aload_n 0, 1) := by decide +kernel
theorem dX6_doFork_54 : decode cX6_doFork 54 = .ok (.getfield 11, 3) := by decide +kernel
theorem dX6_doFork_57 : decode cX6_doFork 57 = .ok (.iload_n 3, 1) := by decide +kernel
theorem dX6_doFork_58 : decode cX6_doFork 58 = .ok (.aaload, 1) := by decide +kernel
theorem dX6_doFork_59 : decode cX6_doFork 59 = .ok (.aload_n 0, 1) := by decide +kernel
theorem dX6_doFork_60 : decode cX6_doFork 60 = .ok (.getfield 11, 3) := by decide +kernel
theorem dX6_doFork_63 : decode cX6_doFork 63 = .ok (.iload_n 2, 1) := by decide +kernel
theorem dX6_doFork_64 : decode cX6_doFork 64 = .ok (.aaload, 1) := by decide +kernel
theorem dX6_doFork_65 : decode cX6_doFork 65 = .ok (.invokevirtual 180, 3) := by decide +kernel
theorem dX6_doFork_68 : decode cX6_doFork 68 = .ok (.iconst 0, 1) := by decide +kernel
theorem dX6_doFork_69 : decode cX6_doFork 69 = .ok (.istore 4, 2) := by decide +kernel
theorem dX6_doFork_71 : decode cX6_doFork 71 = .ok (.iload 4, 2) := by decide +kernel
theorem dX6_doFork_73 : decode cX6_doFork 73 = .ok (.aload_n 0, 1) := by decide +kernel
theorem dX6_doFork_74 : decode cX6_doFork 74 = .ok (.getfield 44, 3) := by decide +kernel
theorem dX6_doFork_77 : decode cX6_doFork 77 = .ok (.if_icmp .ge 29, 3) := by decide +kernel
theorem dX6_doFork_80 : decode cX6_doFork 80 = .ok (.iload_n 1, 1) := by decide +kernel
theorem dX6_doFork_81 : decode cX6_doFork 81 = .ok (.iload 4, 2) := by decide +kernel
theorem dX6_doFork_83 : decode cX6_doFork 83 = .ok (.ishr, 1) := by decide +kernel
theorem dX6_doFork_84 : decode cX6_doFork 84 = .ok (.iconst 1, 1) := by decide +kernel
theorem dX6_doFork_85 : decode cX6_doFork 85 = .ok (.iand, 1) := by decide +kernel
theorem dX6_doFork_86 : decode cX6_doFork 86 = .ok (.ifCond .eq 14, 3) := by decide +kernel
theorem dX6_doFork_89 : decode cX6_doFork 89 = .ok (.aload_n 0, 1) := by decide +kernel
theorem dX6_doFork_90 : decode cX6_doFork 90 = .ok (.getfield 19, 3) := by decide +kernel
theorem dX6_doFork_93 : decode cX6_doFork 93 = .ok (.iload 4, 2) := by decide +kernel
theorem dX6_doFork_95 : decode cX6_doFork 95 = .ok (.aaload, 1) := by decide +kernel
theorem dX6_doFork_96 : decode cX6_doFork 96 = .ok (.iload_n 3, 1) := by decide +kernel
theorem dX6_doFork_97 : decode cX6_doFork 97 = .ok (.putfield 77, 3) := by decide +kernel
theorem dX6_doFork_100 : decode cX6_doFork 100 = .ok (.iinc 4 1, 3) := by decide +kernel
theorem dX6_doFork_103 : decode cX6_doFork 103 = .ok (.goto (-32), 3) := by decide +kernel
theorem dX6_doFork_106 : decode cX6_doFork 106 = .ok (.iload_n 3, 1) := by decide +kernel
theorem dX6_doFork_107 : decode cX6_doFork 107 = .ok (.ireturn, 1) := by decide +kernel
theorem dX6_branchSeenBy_0 : decode cX6_branchSeenBy 0 = .ok (.iconst (-1), 1) := by decide +kernel
theorem dX6_branchSeenBy_1 : decode cX6_branchSeenBy 1 = .ok (.istore_n 2, 1) := by decide +kernel
theorem dX6_branchSeenBy_2 : decode cX6_branchSeenBy 2 = .ok (.iconst 0, 1) := by decide +kernel
theorem dX6_branchSeenBy_3 : decode cX6_branchSeenBy 3 = .ok (.istore_n 3, 1) := by decide +kernel
theorem dX6_branchSeenBy_4 : decode cX6_branchSeenBy 4 = .ok (.iload_n 3, 1) := by decide +kernel
theorem dX6_branchSeenBy_5 : decode cX6_branchSeenBy 5 = .ok (.aload_n 0, 1) := by decide +kernel
theorem dX6_branchSeenBy_6 : decode cX6_branchSeenBy 6 = .ok (.getfield 44, 3) := by decide +kernel
theorem dX6_branchSeenBy_9 : decode cX6_branchSeenBy 9 = .ok (.if_icmp .ge 46, 3) := by decide +kernel
theorem dX6_branchSeenBy_12 : decode cX6_branchSeenBy 12 = .ok (.iload_n 1, 1) := by decide +kernel
theorem dX6_branchSeenBy_13 : decode cX6_branchSeenBy 13 = .ok (.iload_n 3, 1) := by decide +kernel
theorem dX6_branchSeenBy_14 : decode cX6_branchSeenBy 14 = .ok (.ishr, 1) := by decide +kernel
theorem dX6_branchSeenBy_15 : decode cX6_branchSeenBy 15 = .ok (.iconst 1, 1) := by decide +kernel
theorem dX6_branchSeenBy_16 : decode cX6_branchSeenBy 16 = .ok (.iand, 1) := by decide +kernel
theorem dX6_branchSeenBy_17 : decode cX6_branchSeenBy 17 = .ok (.ifCond .eq 32, 3) := by decide +kernel
theorem dX6_branchSeenBy_20 : decode cX6_branchSeenBy 20 = .ok (.iload_n 2, 1) := by decide +kernel
theorem dX6_branchSeenBy_21 : decode cX6_branchSeenBy 21 = .ok (.ifCond .lt 18, 3) := by decide +kernel
theorem dX6_branchSeenBy_24 : decode cX6_branchSeenBy 24 = .ok (.iload_n 2, 1) := by decide +kernel
theorem dX6_branchSeenBy_25 : decode cX6_branchSeenBy 25 = .ok (.aload_n 0, 1) := by decide +kernel
theorem dX6_branchSeenBy_26 : decode cX6_branchSeenBy 26 = .ok (.getfield 19, 3) := by decide +kernel
theorem dX6_branchSeenBy_29 : decode cX6_branchSeenBy 29 = .ok (.iload_n 3, 1) := by decide +kernel
theorem dX6_branchSeenBy_30 : decode cX6_branchSeenBy 30 = .ok (.aaload, 1) := by decide +kernel
theorem dX6_branchSeenBy_31 : decode cX6_branchSeenBy 31 = .ok (.getfield 77, 3) := by decide +kernel
theorem dX6_branchSeenBy_34 : decode cX6_branchSeenBy 34 = .ok (.if_icmp .eq 5, 3) := by decide +kernel
theorem dX6_branchSeenBy_37 : decode cX6_branchSeenBy 37 = .ok (.iconst (-1), 1) := by decide +kernel
theorem dX6_branchSeenBy_38 : decode cX6_branchSeenBy 38 = .ok (.ireturn, 1) := by decide +kernel
theorem dX6_branchSeenBy_39 : decode cX6_branchSeenBy 39 = .ok (.aload_n 0, 1) := by decide +kernel
theorem dX6_branchSeenBy_40 : decode cX6_branchSeenBy 40 = .ok (.getfield 19, 3) := by decide +kernel
theorem dX6_branchSeenBy_43 : decode cX6_branchSeenBy 43 = .ok (.iload_n 3, 1) := by decide +kernel
theorem dX6_branchSeenBy_44 : decode cX6_branchSeenBy 44 = .ok (.aaload, 1) := by decide +kernel
theorem dX6_branchSeenBy_45 : decode cX6_branchSeenBy 45 = .ok (.getfield 77, 3) := by decide +kernel
theorem dX6_branchSeenBy_48 : decode cX6_branchSeenBy 48 = .ok (.istore_n 2, 1) := by decide +kernel
theorem dX6_branchSeenBy_49 : decode cX6_branchSeenBy 49 = .ok (.iinc 3 1, 3) := by decide +kernel
theorem dX6_branchSeenBy_52 : decode cX6_branchSeenBy 52 = .ok (.goto (-48), 3) := by decide +kernel
theorem dX6_branchSeenBy_55 : decode cX6_branchSeenBy 55 = .ok (.iload_n 2, 1) := by decide +kernel
theorem dX6_branchSeenBy_56 : decode cX6_branchSeenBy 56 = .ok (.ireturn, 1) := by decide +kernel
theorem dX6_doMove_0 : decode cX6_doMove 0 = .ok (.aload_n 0, 1) := by decide +kernel
theorem dX6_doMove_1 : decode cX6_doMove 1 = .ok (.iload_n 1, 1) := by decide +kernel
theorem dX6_doMove_2 : decode cX6_doMove 2 = .ok (.invokevirtual 62, 3) := by decide +kernel
theorem dX6_doMove_5 : decode cX6_doMove 5 = .ok (.ifCond .eq 11, 3) := by decide +kernel
theorem dX6_doMove_8 : decode cX6_doMove 8 = .ok (.aload_n 0, 1) := by decide +kernel
theorem dX6_doMove_9 : decode cX6_doMove 9 = .ok (.iload_n 2, 1) := by decide +kernel
theorem dX6_doMove_10 : decode cX6_doMove 10 = .ok (.invokevirtual 183, 3) := by decide +kernel
theorem dX6_doMove_13 : decode cX6_doMove 13 = .ok (.ifCond .ne 5, 3) := by decide +kernel
theorem dX6_doMove_16 : decode cX6_doMove 16 = .ok (.iconst (-1), 1) := by decide +kernel
theorem dX6_doMove_17 : decode cX6_doMove 17 = .ok (.ireturn, 1) := by decide +kernel
theorem dX6_doMove_18 : decode cX6_doMove 18 = .ok (.aload_n 0, 1) := by decide +kernel
theorem dX6_doMove_19 : decode cX6_doMove 19 = .ok (.getfield 19, 3) := by decide +kernel
theorem dX6_doMove_22 : decode cX6_doMove 22 = .ok (.iload_n 1, 1) := by decide +kernel
theorem dX6_doMove_23 : decode cX6_doMove 23 = .ok (.aaload, 1) := by decide +kernel
theorem dX6_doMove_24 : decode cX6_doMove 24 = .ok (.getfield 77, 3) := by decide +kernel
theorem dX6_doMove_27 : decode cX6_doMove 27 = .ok (.istore_n 3, 1) := by decide +kernel
theorem dX6_doMove_28 : decode cX6_doMove 28 = .ok (.aload_n 0, 1) := by decide +kernel
theorem dX6_doMove_29 : decode cX6_doMove 29 = .ok (.getfield 19, 3) := by decide +kernel
theorem dX6_doMove_32 : decode cX6_doMove 32 = .ok (.iload_n 1, 1) := by decide +kernel
theorem dX6_doMove_33 : decode cX6_doMove 33 = .ok (.aaload, 1) := by decide +kernel
theorem dX6_doMove_34 : decode cX6_doMove 34 = .ok (.iload_n 2, 1) := by decide +kernel
theorem dX6_doMove_35 : decode cX6_doMove 35 = .ok (.putfield 77, 3) := by decide +kernel
theorem dX6_doMove_38 : decode cX6_doMove 38 = .ok (.iload_n 3, 1) := by decide +kernel
theorem dX6_doMove_39 : decode cX6_doMove 39 = .ok (.ireturn, 1) := by decide +kernel
theorem dX6_doRewind_0 : decode cX6_doRewind 0 = .ok (.aload_n 0, 1) := by decide +kernel
theorem dX6_doRewind_1 : decode cX6_doRewind 1 = .ok (.iload_n 1, 1) := by decide +kernel
theorem dX6_doRewind_2 : decode cX6_doRewind 2 = .ok (.invokevirtual 183, 3) := by decide +kernel
theorem dX6_doRewind_5 : decode cX6_doRewind 5 = .ok (.ifCond .ne 5, 3) := by decide +kernel
theorem dX6_doRewind_8 : decode cX6_doRewind 8 = .ok (.iconst (-1), 1) := by decide +kernel
theorem dX6_doRewind_9 : decode cX6_doRewind 9 = .ok (.ireturn, 1) := by decide +kernel
theorem dX6_doRewind_10 : decode cX6_doRewind 10 = .ok (.iload_n 2, 1) := by decide +kernel
theorem dX6_doRewind_11 : decode cX6_doRewind 11 = .ok (.iconst 1, 1) := by decide +kernel
theorem dX6_doRewind_12 : decode cX6_doRewind 12 = .ok (.if_icmp .lt 16, 3) := by decide +kernel
theorem dX6_doRewind_15 : decode cX6_doRewind 15 = .ok (.iload_n 2, 1) := by decide +kernel
theorem dX6_doRewind_16 : decode cX6_doRewind 16 = .ok (.aload_n 0, 1) := by decide +kernel
theorem dX6_doRewind_17 : decode cX6_doRewind 17 = .ok (.getfield 11, 3) := by decide +kernel
theorem dX6_doRewind_20 : decode cX6_doRewind 20 = .ok (.iload_n 1, 1) := by decide +kernel
theorem dX6_doRewind_21 : decode cX6_doRewind 21 = .ok (.aaload, 1) := by decide +kernel
theorem dX6_doRewind_22 : decode cX6_doRewind 22 = .ok (.getfield 53, 3) := by decide +kernel
theorem dX6_doRewind_25 : decode cX6_doRewind 25 = .ok (.if_icmp .le 6, 3) := by decide +kernel
theorem dX6_doRewind_28 : decode cX6_doRewind 28 = .ok (.bipush (-2), 2) := by decide +kernel
theorem dX6_doRewind_30 : decode cX6_doRewind 30 = .ok (.ireturn, 1) := by decide +kernel
theorem dX6_doRewind_31 : decode cX6_doRewind 31 = .ok (.aload_n 0, 1) := by decide +kernel
theorem dX6_doRewind_32 : decode cX6_doRewind 32 = .ok (.getfield 11, 3) := by decide +kernel
theorem dX6_doRewind_35 : decode cX6_doRewind 35 = .ok (.iload_n 1, 1) := by decide +kernel
theorem dX6_doRewind_36 : decode cX6_doRewind 36 = .ok (.aaload, 1) := by decide +kernel
theorem dX6_doRewind_37 : decode cX6_doRewind 37 = .ok (.dup, 1) := by decide +kernel
theorem dX6_doRewind_38 : decode cX6_doRewind 38 = .ok (.getfield 53, 3) := by decide +kernel
theorem dX6_doRewind_41 : decode cX6_doRewind 41 = .ok (.iload_n 2, 1) := by decide +kernel
theorem dX6_doRewind_42 : decode cX6_doRewind 42 = .ok (.isub, 1) := by decide +kernel
theorem dX6_doRewind_43 : decode cX6_doRewind 43 = .ok (.putfield 53, 3) := by decide +kernel
theorem dX6_doRewind_46 : decode cX6_doRewind 46 = .ok (.aload_n 0, 1) := by decide +kernel
theorem dX6_doRewind_47 : decode cX6_doRewind 47 = .ok (.getfield 11, 3) := by decide +kernel
theorem dX6_doRewind_50 : decode cX6_doRewind 50 = .ok (.iload_n 1, 1) := by decide +kernel
theorem dX6_doRewind_51 : decode cX6_doRewind 51 = .ok (.aaload, 1) := by decide +kernel
theorem dX6_doRewind_52 : decode cX6_doRewind 52 = .ok (.getfield 53, 3) := by decide +kernel
theorem dX6_doRewind_55 : decode cX6_doRewind 55 = .ok (.ireturn, 1) := by decide +kernel
theorem dX6_doCorrupt_0 : decode cX6_doCorrupt 0 = .ok (.aload_n 0, 1) := by decide +kernel
theorem dX6_doCorrupt_1 : decode cX6_doCorrupt 1 = .ok (.iload_n 1, 1) := by decide +kernel
theorem dX6_doCorrupt_2 : decode cX6_doCorrupt 2 = .ok (.invokevirtual 183, 3) := by decide +kernel
theorem dX6_doCorrupt_5 : decode cX6_doCorrupt 5 = .ok (.ifCond .eq 16, 3) := by decide +kernel
theorem dX6_doCorrupt_8 : decode cX6_doCorrupt 8 = .ok (.aload_n 0, 1) := by decide +kernel
theorem dX6_doCorrupt_9 : decode cX6_doCorrupt 9 = .ok (.getfield 11, 3) := by decide +kernel
theorem dX6_doCorrupt_12 : decode cX6_doCorrupt 12 = .ok (.iload_n 1, 1) := by decide +kernel
theorem dX6_doCorrupt_13 : decode cX6_doCorrupt 13 = .ok (.aaload, 1) := by decide +kernel
theorem dX6_doCorrupt_14 : decode cX6_doCorrupt 14 = .ok (.iload_n 2, 1) := by decide +kernel
theorem dX6_doCorrupt_15 : decode cX6_doCorrupt 15 = .ok (.invokevirtual 186, 3) := by decide +kernel
theorem dX6_doCorrupt_18 : decode cX6_doCorrupt 18 = .ok (.ifCond .ne 5, 3) := by decide +kernel
theorem dX6_doCorrupt_21 : decode cX6_doCorrupt 21 = .ok (.iconst (-1), 1) := by decide +kernel
theorem dX6_doCorrupt_22 : decode cX6_doCorrupt 22 = .ok (.ireturn, 1) := by decide +kernel
theorem dX6_doCorrupt_23 : decode cX6_doCorrupt 23 = .ok (.iload_n 3, 1) := by decide +kernel
theorem dX6_doCorrupt_24 : decode cX6_doCorrupt 24 = .ok (.ifCond .lt 9, 3) := by decide +kernel
theorem dX6_doCorrupt_27 : decode cX6_doCorrupt 27 = .ok (.iload_n 3, 1) := by decide +kernel
theorem dX6_doCorrupt_28 : decode cX6_doCorrupt 28 = .ok (.ldc 69, 2) := by decide +kernel
theorem dX6_doCorrupt_30 : decode cX6_doCorrupt 30 = .ok (.if_icmp .le 6, 3) := by decide +kernel
theorem dX6_doCorrupt_33 : decode cX6_doCorrupt 33 = .ok (.bipush (-2), 2) := by decide +kernel
theorem dX6_doCorrupt_35 : decode cX6_doCorrupt 35 = .ok (.ireturn, 1) := by decide +kernel
theorem dX6_doCorrupt_36 : decode cX6_doCorrupt 36 = .ok (.aload_n 0, 1) := by decide +kernel
theorem dX6_doCorrupt_37 : decode cX6_doCorrupt 37 = .ok (.getfield 11, 3) := by decide +kernel
theorem dX6_doCorrupt_40 : decode cX6_doCorrupt 40 = .ok (.iload_n 1, 1) := by decide +kernel
theorem dX6_doCorrupt_41 : decode cX6_doCorrupt 41 = .ok (.aaload, 1) := by decide +kernel
theorem dX6_doCorrupt_42 : decode cX6_doCorrupt 42 = .ok (.astore 4, 2) := by decide +kernel
theorem dX6_doCorrupt_44 : decode cX6_doCorrupt 44 = .ok (.aload 4, 2) := by decide +kernel
theorem dX6_doCorrupt_46 : decode cX6_doCorrupt 46 = .ok (.getfield 189, 3) := by decide +kernel
theorem dX6_doCorrupt_49 : decode cX6_doCorrupt 49 = .ok (.iload_n 2, 1) := by decide +kernel
theorem dX6_doCorrupt_50 : decode cX6_doCorrupt 50 = .ok (.iaload, 1) := by decide +kernel
theorem dX6_doCorrupt_51 : decode cX6_doCorrupt 51 = .ok (.iconst 1, 1) := by decide +kernel
theorem dX6_doCorrupt_52 : decode cX6_doCorrupt 52 = .ok (.if_icmp .eq 6, 3) := by decide +kernel
theorem dX6_doCorrupt_55 : decode cX6_doCorrupt 55 = .ok (.bipush (-3), 2) := by decide +kernel
theorem dX6_doCorrupt_57 : decode cX6_doCorrupt 57 = .ok (.ireturn, 1) := by decide +kernel
theorem dX6_doCorrupt_58 : decode cX6_doCorrupt 58 = .ok (.aload 4, 2) := by decide +kernel
theorem dX6_doCorrupt_60 : decode cX6_doCorrupt 60 = .ok (.getfield 192, 3) := by decide +kernel
theorem dX6_doCorrupt_63 : decode cX6_doCorrupt 63 = .ok (.iload_n 2, 1) := by decide +kernel
theorem dX6_doCorrupt_64 : decode cX6_doCorrupt 64 = .ok (.iaload, 1) := by decide +kernel
theorem dX6_doCorrupt_65 : decode cX6_doCorrupt 65 = .ok (.istore 5, 2) := by decide +kernel
theorem dX6_doCorrupt_67 : decode cX6_doCorrupt 67 = .ok (.aload 4, 2) := by decide +kernel
theorem dX6_doCorrupt_69 : decode cX6_doCorrupt 69 = .ok (.getfield 192, 3) := by decide +kernel
theorem dX6_doCorrupt_72 : decode cX6_doCorrupt 72 = .ok (.iload_n 2, 1) := by decide +kernel
theorem dX6_doCorrupt_73 : decode cX6_doCorrupt 73 = .ok (.iload_n 3, 1) := by decide +kernel
theorem dX6_doCorrupt_74 : decode cX6_doCorrupt 74 = .ok (.iastore, 1) := by decide +kernel
theorem dX6_doCorrupt_75 : decode cX6_doCorrupt 75 = .ok (.iload 5, 2) := by decide +kernel
theorem dX6_doCorrupt_77 : decode cX6_doCorrupt 77 = .ok (.ireturn, 1) := by decide +kernel
theorem dX6_doHeal_0 : decode cX6_doHeal 0 = .ok (.aload_n 0, 1) := by decide +kernel
theorem dX6_doHeal_1 : decode cX6_doHeal 1 = .ok (.iload_n 1, 1) := by decide +kernel
theorem dX6_doHeal_2 : decode cX6_doHeal 2 = .ok (.invokevirtual 183, 3) := by decide +kernel
theorem dX6_doHeal_5 : decode cX6_doHeal 5 = .ok (.ifCond .eq 16, 3) := by decide +kernel
theorem dX6_doHeal_8 : decode cX6_doHeal 8 = .ok (.aload_n 0, 1) := by decide +kernel
theorem dX6_doHeal_9 : decode cX6_doHeal 9 = .ok (.iload_n 2, 1) := by decide +kernel
theorem dX6_doHeal_10 : decode cX6_doHeal 10 = .ok (.invokevirtual 183, 3) := by decide +kernel
theorem dX6_doHeal_13 : decode cX6_doHeal 13 = .ok (.ifCond .eq 8, 3) := by decide +kernel
theorem dX6_doHeal_16 : decode cX6_doHeal 16 = .ok (.iload_n 1, 1) := by decide +kernel
theorem dX6_doHeal_17 : decode cX6_doHeal 17 = .ok (.iload_n 2, 1) := by decide +kernel
theorem dX6_doHeal_18 : decode cX6_doHeal 18 = .ok (.if_icmp .ne 5, 3) := by decide +kernel
theorem dX6_doHeal_21 : decode cX6_doHeal 21 = .ok (.iconst (-1), 1) := by decide +kernel
theorem dX6_doHeal_22 : decode cX6_doHeal 22 = .ok (.ireturn, 1) := by decide +kernel
theorem dX6_doHeal_23 : decode cX6_doHeal 23 = .ok (.aload_n 0, 1) := by decide +kernel
theorem dX6_doHeal_24 : decode cX6_doHeal 24 = .ok (.getfield 11, 3) := by decide +kernel
theorem dX6_doHeal_27 : decode cX6_doHeal 27 = .ok (.iload_n 1, 1) := by decide +kernel
theorem dX6_doHeal_28 : decode cX6_doHeal 28 = .ok (.aaload, 1) := by decide +kernel
theorem dX6_doHeal_29 : decode cX6_doHeal 29 = .ok (.aload_n 0, 1) := by decide +kernel
theorem dX6_doHeal_30 : decode cX6_doHeal 30 = .ok (.getfield 11, 3) := by decide +kernel
theorem dX6_doHeal_33 : decode cX6_doHeal 33 = .ok (.iload_n 2, 1) := by decide +kernel
theorem dX6_doHeal_34 : decode cX6_doHeal 34 = .ok (.aaload, 1) := by decide +kernel
theorem dX6_doHeal_35 : decode cX6_doHeal 35 = .ok (.invokevirtual 195, 3) := by decide +kernel
theorem dX6_doHeal_38 : decode cX6_doHeal 38 = .ok (.istore_n 3, 1) := by decide +kernel
theorem dX6_doHeal_39 : decode cX6_doHeal 39 = .ok (.aload_n 0, 1) := by decide +kernel
theorem dX6_doHeal_40 : decode cX6_doHeal 40 = .ok (.getfield 11, 3) := by decide +kernel
theorem dX6_doHeal_43 : decode cX6_doHeal 43 = .ok (.iload_n 1, 1) := by decide +kernel
theorem dX6_doHeal_44 : decode cX6_doHeal 44 = .ok (.aaload, 1) := by decide +kernel
theorem dX6_doHeal_45 : decode cX6_doHeal 45 = .ok (.getfield 53, 3) := by decide +kernel
theorem dX6_doHeal_48 : decode cX6_doHeal 48 = .ok (.iconst 1, 1) := by decide +kernel
theorem dX6_doHeal_49 : decode cX6_doHeal 49 = .ok (.iadd, 1) := by decide +kernel
theorem dX6_doHeal_50 : decode cX6_doHeal 50 = .ok (.aload_n 0, 1) := by decide +kernel
theorem dX6_doHeal_51 : decode cX6_doHeal 51 = .ok (.getfield 11, 3) := by decide +kernel
theorem dX6_doHeal_54 : decode cX6_doHeal 54 = .ok (.iload_n 2, 1) := by decide +kernel
theorem dX6_doHeal_55 : decode cX6_doHeal 55 = .ok (.aaload, 1) := by decide +kernel
theorem dX6_doHeal_56 : decode cX6_doHeal 56 = .ok (.getfield 53, 3) := by decide +kernel
theorem dX6_doHeal_59 : decode cX6_doHeal 59 = .ok (.iadd, 1) := by decide +kernel
theorem dX6_doHeal_60 : decode cX6_doHeal 60 = .ok (.iload_n 3, 1) := by decide +kernel
theorem dX6_doHeal_61 : decode cX6_doHeal 61 = .ok (.isub, 1) := by decide +kernel
theorem dX6_doHeal_62 : decode cX6_doHeal 62 = .ok (.istore 4, 2) := by decide +kernel
theorem dX6_doHeal_64 : decode cX6_doHeal 64 = .ok (.aload_n 0, 1) := by decide +kernel
theorem dX6_doHeal_65 : decode cX6_doHeal 65 = .ok (.getfield 11, 3) := by decide +kernel
theorem dX6_doHeal_68 : decode cX6_doHeal 68 = .ok (.iload_n 1, 1) := by decide +kernel
theorem dX6_doHeal_69 : decode cX6_doHeal 69 = .ok (.aaload, 1) := by decide +kernel
theorem dX6_doHeal_70 : decode cX6_doHeal 70 = .ok (.aload_n 0, 1) := by decide +kernel
theorem dX6_doHeal_71 : decode cX6_doHeal 71 = .ok (.getfield 11, 3) := by decide +kernel
theorem dX6_doHeal_74 : decode cX6_doHeal 74 = .ok (.iload_n 2, 1) := by decide +kernel
theorem dX6_doHeal_75 : decode cX6_doHeal 75 = .ok (.aaload, 1) := by decide +kernel
theorem dX6_doHeal_76 : decode cX6_doHeal 76 = .ok (.invokevirtual 198, 3) := by decide +kernel
theorem dX6_doHeal_79 : decode cX6_doHeal 79 = .ok (.ifCond .ne 20, 3) := by decide +kernel
theorem dX6_doHeal_82 : decode cX6_doHeal 82 = .ok (.aload_n 0, 1) := by decide +kernel
theorem dX6_doHeal_83 : decode cX6_doHeal 83 = .ok (.getfield 50, 3) := by decide +kernel
theorem dX6_doHeal_86 : decode cX6_doHeal 86 = .ok (.bipush 8, 2) := by decide +kernel
theorem dX6_doHeal_88 : decode cX6_doHeal 88 = .ok (.if_icmp .ge 11, 3) := by decide +kernel
theorem dX6_doHeal_91 : decode cX6_doHeal 91 = .ok (.iload 4, 2) := by decide +kernel
theorem dX6_doHeal_93 : decode cX6_doHeal 93 = .ok (.sipush 200, 3) := by decide +kernel
theorem dX6_doHeal_96 : decode cX6_doHeal 96 = .ok (.if_icmp .le 6, 3) := by decide +kernel
theorem dX6_doHeal_99 : decode cX6_doHeal 99 = .ok (.bipush (-3), 2) := by decide +kernel
theorem dX6_doHeal_101 : decode cX6_doHeal 101 = .ok (.ireturn, 1) := by decide +kernel
theorem dX6_doHeal_102 : decode cX6_doHeal 102 = .ok (.aload_n 0, 1) := by decide +kernel
theorem dX6_doHeal_103 : decode cX6_doHeal 103 = .ok (.getfield 50, 3) := by decide +kernel
theorem dX6_doHeal_106 : decode cX6_doHeal 106 = .ok (.istore 5, 2) := by decide +kernel
theorem dX6_doHeal_108 : decode cX6_doHeal 108 = .ok (.aload_n 0, 1) := by decide +kernel
theorem dX6_doHeal_109 : decode cX6_doHeal 109 = .ok (.dup, 1) := by decide +kernel
theorem dX6_doHeal_110 : decode cX6_doHeal 110 = .ok (.getfield 50, 3) := by decide +kernel
theorem dX6_doHeal_113 : decode cX6_doHeal 113 = .ok (.iconst 1, 1) := by decide +kernel
theorem dX6_doHeal_114 : decode cX6_doHeal 114 = .ok (.iadd, 1) := by decide +kernel
theorem dX6_doHeal_115 : decode cX6_doHeal 115 = .ok (.putfield 50, 3) := by decide +kernel
theorem dX6_doHeal_118 : decode cX6_doHeal 118 = .ok (.aload_n 0, 1) := by decide +kernel
theorem dX6_doHeal_119 : decode cX6_doHeal 119 = .ok (.getfield 11, 3) := by decide +kernel
theorem dX6_doHeal_122 : decode cX6_doHeal 122 = .ok (.iload 5, 2) := by decide +kernel
theorem dX6_doHeal_124 : decode cX6_doHeal 124 = .ok (.aaload, 1) := by decide +kernel
theorem dX6_doHeal_125 : decode cX6_doHeal 125 = .ok (.aload_n 0, 1) := by decide +kernel
theorem dX6_doHeal_126 : decode cX6_doHeal 126 = .ok (.getfield 11, 3) := by decide +kernel
theorem dX6_doHeal_129 : decode cX6_doHeal 129 = .ok (.iload_n 1, 1) := by decide +kernel
theorem dX6_doHeal_130 : decode cX6_doHeal 130 = .ok (.aaload, 1) := by decide +kernel
theorem dX6_doHeal_131 : decode cX6_doHeal 131 = .ok (.invokevirtual 180, 3) := by decide +kernel
theorem dX6_doHeal_134 : decode cX6_doHeal 134 = .ok (.aload_n 0, 1) := by decide +kernel
theorem dX6_doHeal_135 : decode cX6_doHeal 135 = .ok (.getfield 11, 3) := by decide +kernel
theorem dX6_doHeal_138 : decode cX6_doHeal 138 = .ok (.iload 5, 2) := by decide +kernel
theorem dX6_doHeal_140 : decode cX6_doHeal 140 = .ok (.aaload, 1) := by decide +kernel
theorem dX6_doHeal_141 : decode cX6_doHeal 141 = .ok (.aload_n 0, 1) := by decide +kernel
theorem dX6_doHeal_142 : decode cX6_doHeal 142 = .ok (.getfield 11, 3) := by decide +kernel
theorem dX6_doHeal_145 : decode cX6_doHeal 145 = .ok (.iload_n 2, 1) := by decide +kernel
theorem dX6_doHeal_146 : decode cX6_doHeal 146 = .ok (.aaload, 1) := by decide +kernel
theorem dX6_doHeal_147 : decode cX6_doHeal 147 = .ok (.invokevirtual 136, 3) := by decide +kernel
theorem dX6_doHeal_150 : decode cX6_doHeal 150 = .ok (.invokevirtual 201, 3) := by decide +kernel
theorem dX6_doHeal_153 : decode cX6_doHeal 153 = .ok (.aload_n 0, 1) := by decide +kernel
theorem dX6_doHeal_154 : decode cX6_doHeal 154 = .ok (.getfield 11, 3) := by decide +kernel
theorem dX6_doHeal_157 : decode cX6_doHeal 157 = .ok (.iload 5, 2) := by decide +kernel
theorem dX6_doHeal_159 : decode cX6_doHeal 159 = .ok (.aaload, 1) := by decide +kernel
theorem dX6_doHeal_160 : decode cX6_doHeal 160 = .ok (.aload_n 0, 1) := by decide +kernel
theorem dX6_doHeal_161 : decode cX6_doHeal 161 = .ok (.getfield 11, 3) := by decide +kernel
theorem dX6_doHeal_164 : decode cX6_doHeal 164 = .ok (.iload_n 2, 1) := by decide +kernel
theorem dX6_doHeal_165 : decode cX6_doHeal 165 = .ok (.aaload, 1) := by decide +kernel
theorem dX6_doHeal_166 : decode cX6_doHeal 166 = .ok (.iload_n 3, 1) := by decide +kernel
theorem dX6_doHeal_167 : decode cX6_doHeal 167 = .ok (.invokevirtual 204, 3) := by decide +kernel
theorem dX6_doHeal_170 : decode cX6_doHeal 170 = .ok (.iconst 0, 1) := by decide +kernel
theorem dX6_doHeal_171 : decode cX6_doHeal 171 = .ok (.istore 6, 2) := by decide +kernel
theorem dX6_doHeal_173 : decode cX6_doHeal 173 = .ok (.iload 6, 2) := by decide +kernel
theorem dX6_doHeal_175 : decode cX6_doHeal 175 = .ok (.aload_n 0, 1) := by decide +kernel
theorem dX6_doHeal_176 : decode cX6_doHeal 176 = .ok (.getfield 44, 3) := by decide +kernel
theorem dX6_doHeal_179 : decode cX6_doHeal 179 = .ok (.if_icmp .ge 70, 3) := by decide +kernel
theorem dX6_doHeal_182 : decode cX6_doHeal 182 = .ok (.aload_n 0, 1) := by decide +kernel
theorem dX6_doHeal_183 : decode cX6_doHeal 183 = .ok (.getfield 19, 3) := by decide +kernel
theorem dX6_doHeal_186 : decode cX6_doHeal 186 = .ok (.iload 6, 2) := by decide +kernel
theorem dX6_doHeal_188 : decode cX6_doHeal 188 = .ok (.aaload, 1) := by decide +kernel
theorem dX6_doHeal_189 : decode cX6_doHeal 189 = .ok (.getfield 77, 3) := by decide +kernel
theorem dX6_doHeal_192 : decode cX6_doHeal 192 = .ok (.iload_n 1, 1) := by decide +kernel
theorem dX6_doHeal_193 : decode cX6_doHeal 193 = .ok (.if_icmp .eq 17, 3) := by decide +kernel
theorem dX6_doHeal_196 : decode cX6_doHeal 196 = .ok (.aload_n 0, 1) := by decide +kernel
theorem dX6_doHeal_197 : decode cX6_doHeal 197 = .ok (.getfield 19, 3) := by decide +kernel
theorem dX6_doHeal_200 : decode cX6_doHeal 200 = .ok (.iload 6, 2) := by decide +kernel
theorem dX6_doHeal_202 : decode cX6_doHeal 202 = .ok (.aaload, 1) := by decide +kernel
theorem dX6_doHeal_203 : decode cX6_doHeal 203 = .ok (.getfield 77, 3) := by decide +kernel
theorem dX6_doHeal_206 : decode cX6_doHeal 206 = .ok (.iload_n 2, 1) := by decide +kernel
theorem dX6_doHeal_207 : decode cX6_doHeal 207 = .ok (.if_icmp .ne 36, 3) := by decide +kernel
theorem dX6_doHeal_210 : decode cX6_doHeal 210 = .ok (.aload_n 0, 1) := by decide +kernel
theorem dX6_doHeal_211 : decode cX6_doHeal 211 = .ok (.aload_n 0, 1) := by decide +kernel
theorem dX6_doHeal_212 : decode cX6_doHeal 212 = .ok (.getfield 19, 3) := by decide +kernel
theorem dX6_doHeal_215 : decode cX6_doHeal 215 = .ok (.iload 6, 2) := by decide +kernel
theorem dX6_doHeal_217 : decode cX6_doHeal 217 = .ok (.aaload, 1) := by decide +kernel
theorem dX6_doHeal_218 : decode cX6_doHeal 218 = .ok (.aload_n 0, 1) := by decide +kernel
theorem dX6_doHeal_219 : decode cX6_doHeal 219 = .ok (.getfield 19, 3) := by decide +kernel
theorem dX6_doHeal_222 : decode cX6_doHeal 222 = .ok (.iload 6, 2) := by decide +kernel
theorem dX6_doHeal_224 : decode cX6_doHeal 224 = .ok (.aaload, 1) := by decide +kernel
theorem dX6_doHeal_225 : decode cX6_doHeal 225 = .ok (.getfield 77, 3) := by decide +kernel
theorem dX6_doHeal_228 : decode cX6_doHeal 228 = .ok (.iload_n 2, 1) := by decide +kernel
theorem dX6_doHeal_229 : decode cX6_doHeal 229 = .ok (.if_icmp .ne 7, 3) := by decide +kernel
theorem dX6_doHeal_232 : decode cX6_doHeal 232 = .ok (.iconst 1, 1) := by decide +kernel
theorem dX6_doHeal_233 : decode cX6_doHeal 233 = .ok (.goto 4, 3) := by decide +kernel
theorem dX6_doHeal_236 : decode cX6_doHeal 236 = .ok (.iconst 0, 1) := by decide +kernel
theorem dX6_doHeal_237 : decode cX6_doHeal 237 = .ok (.iload_n 3, 1) := by decide +kernel
theorem dX6_doHeal_238 : decode cX6_doHeal 238 = .ok (.iload 5, 2) := by decide +kernel
theorem dX6_doHeal_240 : decode cX6_doHeal 240 = .ok (.invokevirtual 208, 3) := by decide +kernel
theorem dX6_doHeal_243 : decode cX6_doHeal 243 = .ok (.iinc 6 1, 3) := by decide +kernel
theorem dX6_doHeal_246 : decode cX6_doHeal 246 = .ok (.goto (-73), 3) := by decide +kernel
theorem dX6_doHeal_249 : decode cX6_doHeal 249 = .ok (.iload 5, 2) := by decide +kernel
theorem dX6_doHeal_251 : decode cX6_doHeal 251 = .ok (.ireturn, 1) := by decide +kernel
theorem dX6_bringOver_0 : decode cX6_bringOver 0 = .ok (.aload_n 1, 1) := by decide +kernel
theorem dX6_bringOver_1 : decode cX6_bringOver 1 = .ok (.aload_n 0, 1) := by decide +kernel
theorem dX6_bringOver_2 : decode cX6_bringOver 2 = .ok (.getfield 11, 3) := by decide +kernel
theorem dX6_bringOver_5 : decode cX6_bringOver 5 = .ok (.aload_n 1, 1) := by decide +kernel
theorem dX6_bringOver_6 : decode cX6_bringOver 6 = .ok (.getfield 77, 3) := by decide +kernel
theorem dX6_bringOver_9 : decode cX6_bringOver 9 = .ok (.aaload, 1) := by decide +kernel
theorem dX6_bringOver_10 : decode cX6_bringOver 10 = .ok (.invokevirtual 113, 3) := by decide +kernel
theorem dX6_bringOver_13 : decode cX6_bringOver 13 = .ok (.ifCond .eq 31, 3) := by decide +kernel
theorem dX6_bringOver_16 : decode cX6_bringOver 16 = .ok (.aload_n 1, 1) := by decide +kernel
theorem dX6_bringOver_17 : decode cX6_bringOver 17 = .ok (.iconst 0, 1) := by decide +kernel
theorem dX6_bringOver_18 : decode cX6_bringOver 18 = .ok (.putfield 84, 3) := by decide +kernel
theorem dX6_bringOver_21 : decode cX6_bringOver 21 = .ok (.iload_n 2, 1) := by decide +kernel
theorem dX6_bringOver_22 : decode cX6_bringOver 22 = .ok (.ifCond .eq 22, 3) := by decide +kernel
theorem dX6_bringOver_25 : decode cX6_bringOver 25 = .ok (.aload_n 1, 1) := by decide +kernel
theorem dX6_bringOver_26 : decode cX6_bringOver 26 = .ok (.getfield 74, 3) := by decide +kernel
theorem dX6_bringOver_29 : decode cX6_bringOver 29 = .ok (.iload_n 3, 1) := by decide +kernel
theorem dX6_bringOver_30 : decode cX6_bringOver 30 = .ok (.if_icmp .le 14, 3) := by decide +kernel
theorem dX6_bringOver_33 : decode cX6_bringOver 33 = .ok (.aload_n 1, 1) := by decide +kernel
theorem dX6_bringOver_34 : decode cX6_bringOver 34 = .ok (.aload_n 0, 1) := by decide +kernel
theorem dX6_bringOver_35 : decode cX6_bringOver 35 = .ok (.getfield 11, 3) := by decide +kernel
theorem dX6_bringOver_38 : decode cX6_bringOver 38 = .ok (.iload 4, 2) := by decide +kernel
theorem dX6_bringOver_40 : decode cX6_bringOver 40 = .ok (.aaload, 1) := by decide +kernel
theorem dX6_bringOver_41 : decode cX6_bringOver 41 = .ok (.invokevirtual 102, 3) := by decide +kernel
theorem dX6_bringOver_44 : decode cX6_bringOver 44 = .ok (.aload_n 1, 1) := by decide +kernel
theorem dX6_bringOver_45 : decode cX6_bringOver 45 = .ok (.iload 4, 2) := by decide +kernel
theorem dX6_bringOver_47 : decode cX6_bringOver 47 = .ok (.putfield 77, 3) := by decide +kernel
theorem dX6_bringOver_50 : decode cX6_bringOver 50 = .ok (.return_, 1) := by decide +kernel
theorem dX7_init_0 : decode cX7_init 0 = .ok (.aload_n 0, 1) := by decide +kernel
theorem dX7_init_1 : decode cX7_init 1 = .ok (.invokespecial 3, 3) := by decide +kernel
theorem dX7_init_4 : decode cX7_init 4 = .ok (.aload_n 0, 1) := by decide +kernel
theorem dX7_init_5 : decode cX7_init 5 = .ok (.iconst 3, 1) := by decide +kernel
theorem dX7_init_6 : decode cX7_init 6 = .ok (.newarray .int, 2) := by decide +kernel
theorem dX7_init_8 : decode cX7_init 8 = .ok (.putfield 9, 3) := by decide +kernel
theorem dX7_init_11 : decode cX7_init 11 = .ok (.aload_n 0, 1) := by decide +kernel
theorem dX7_init_12 : decode cX7_init 12 = .ok (.getstatic 15, 3) := by decide +kernel
theorem dX7_init_15 : decode cX7_init 15 = .ok (.putfield 21, 3) := by decide +kernel
theorem dX7_init_18 : decode cX7_init 18 = .ok (.return_, 1) := by decide +kernel
theorem dX8_init_0 : decode cX8_init 0 = .ok (.aload_n 0, 1) := by decide +kernel
theorem dX8_init_1 : decode cX8_init 1 = .ok (.invokespecial 3, 3) := by decide +kernel
theorem dX8_init_4 : decode cX8_init 4 = .ok (.aload_n 0, 1) := by decide +kernel
theorem dX8_init_5 : decode cX8_init 5 = .ok (.sipush 900, 3) := by decide +kernel
theorem dX8_init_8 : decode cX8_init 8 = .ok (.newarray .byte, 2) := by decide +kernel
theorem dX8_init_10 : decode cX8_init 10 = .ok (.putfield 9, 3) := by decide +kernel
theorem dX8_init_13 : decode cX8_init 13 = .ok (.aload_n 0, 1) := by decide +kernel
theorem dX8_init_14 : decode cX8_init 14 = .ok (.sipush 901, 3) := by decide +kernel
theorem dX8_init_17 : decode cX8_init 17 = .ok (.anewarray 15, 3) := by decide +kernel
theorem dX8_init_20 : decode cX8_init 20 = .ok (.putfield 17, 3) := by decide +kernel
theorem dX8_init_23 : decode cX8_init 23 = .ok (.aload_n 0, 1) := by decide +kernel
theorem dX8_init_24 : decode cX8_init 24 = .ok (.sipush 901, 3) := by decide +kernel
theorem dX8_init_27 : decode cX8_init 27 = .ok (.newarray .int, 2) := by decide +kernel
theorem dX8_init_29 : decode cX8_init 29 = .ok (.putfield 21, 3) := by decide +kernel
theorem dX8_init_32 : decode cX8_init 32 = .ok (.aload_n 0, 1) := by decide +kernel
theorem dX8_init_33 : decode cX8_init 33 = .ok (.sipush 901, 3) := by decide +kernel
theorem dX8_init_36 : decode cX8_init 36 = .ok (.newarray .int, 2) := by decide +kernel
theorem dX8_init_38 : decode cX8_init 38 = .ok (.putfield 25, 3) := by decide +kernel
theorem dX8_init_41 : decode cX8_init 41 = .ok (.return_, 1) := by decide +kernel
theorem dX8_scan_0 : decode cX8_scan 0 = .ok (.iconst 0, 1) := by decide +kernel
theorem dX8_scan_1 : decode cX8_scan 1 = .ok (.iload_n 1, 1) := by decide +kernel
theorem dX8_scan_2 : decode cX8_scan 2 = .ok (.sipush 900, 3) := by decide +kernel
theorem dX8_scan_5 : decode cX8_scan 5 = .ok (.invokestatic 28, 3) := by decide +kernel
theorem dX8_scan_8 : decode cX8_scan 8 = .ok (.invokestatic 34, 3) := by decide +kernel
theorem dX8_scan_11 : decode cX8_scan 11 = .ok (.istore_n 2, 1) := by decide +kernel
theorem dX8_scan_12 : decode cX8_scan 12 = .ok (.iconst (-1), 1) := by decide +kernel
theorem dX8_scan_13 : decode cX8_scan 13 = .ok (.istore_n 3, 1) := by decide +kernel
theorem dX8_scan_14 : decode cX8_scan 14 = .ok (.aload_n 0, 1) := by decide +kernel
theorem dX8_scan_15 : decode cX8_scan 15 = .ok (.iconst 0, 1) := by decide +kernel
theorem dX8_scan_16 : decode cX8_scan 16 = .ok (.putfield 37, 3) := by decide +kernel
theorem dX8_scan_19 : decode cX8_scan 19 = .ok (.iconst 0, 1) := by decide +kernel
theorem dX8_scan_20 : decode cX8_scan 20 = .ok (.istore 4, 2) := by decide +kernel
theorem dX8_scan_22 : decode cX8_scan 22 = .ok (.iconst 0, 1) := by decide +kernel
theorem dX8_scan_23 : decode cX8_scan 23 = .ok (.istore 5, 2) := by decide +kernel
theorem dX8_scan_25 : decode cX8_scan 25 = .ok (.iload 4, 2) := by decide +kernel
theorem dX8_scan_27 : decode cX8_scan 27 = .ok (.iload_n 2, 1) := by decide +kernel
theorem dX8_scan_28 : decode cX8_scan 28 = .ok (.if_icmp .ge 120, 3) := by decide +kernel
theorem dX8_scan_31 : decode cX8_scan 31 = .ok (.iload 4, 2) := by decide +kernel
theorem dX8_scan_33 : decode cX8_scan 33 = .ok (.iconst 1, 1) := by decide +kernel
theorem dX8_scan_34 : decode cX8_scan 34 = .ok (.iadd, 1) := by decide +kernel
theorem dX8_scan_35 : decode cX8_scan 35 = .ok (.aload_n 0, 1) := by decide +kernel
theorem dX8_scan_36 : decode cX8_scan 36 = .ok (.iload 4, 2) := by decide +kernel
theorem dX8_scan_38 : decode cX8_scan 38 = .ok (.iload_n 2, 1) := by decide +kernel
theorem dX8_scan_39 : decode cX8_scan 39 = .ok (.invokevirtual 41, 3) := by decide +kernel
theorem dX8_scan_42 : decode cX8_scan 42 = .ok (.invokestatic 34, 3) := by decide +kernel
theorem dX8_scan_45 : decode cX8_scan 45 = .ok (.istore 5, 2) := by decide +kernel
theorem dX8_scan_47 : decode cX8_scan 47 = .ok (.aload_n 0, 1) := by decide +kernel
theorem dX8_scan_48 : decode cX8_scan 48 = .ok (.getfield 9, 3) := by decide +kernel
theorem dX8_scan_51 : decode cX8_scan 51 = .ok (.iload 4, 2) := by decide +kernel
theorem dX8_scan_53 : decode cX8_scan 53 = .ok (.baload, 1) := by decide +kernel
theorem dX8_scan_54 : decode cX8_scan 54 = .ok (.invokestatic 44, 3) := by decide +kernel
theorem dX8_scan_57 : decode cX8_scan 57 = .ok (.ifCond .eq 6, 3) := by decide +kernel
theorem dX8_scan_60 : decode cX8_scan 60 = .ok (.goto 81, 3) := by decide +kernel
theorem dX8_scan_63 : decode cX8_scan 63 = .ok (.aload_n 0, 1) := by decide +kernel
theorem dX8_scan_64 : decode cX8_scan 64 = .ok (.getfield 9, 3) := by decide +kernel
theorem dX8_scan_67 : decode cX8_scan 67 = .ok (.iload 4, 2) := by decide +kernel
theorem dX8_scan_69 : decode cX8_scan 69 = .ok (.baload, 1) := by decide +kernel
theorem dX8_scan_70 : decode cX8_scan 70 = .ok (.invokestatic 48, 3) := by decide +kernel
theorem dX8_scan_73 : decode cX8_scan 73 = .ok (.ifCond .ne 16, 3) := by decide +kernel
theorem dX8_scan_76 : decode cX8_scan 76 = .ok (.aload_n 0, 1) := by decide +kernel
theorem dX8_scan_77 : decode cX8_scan 77 = .ok (.getfield 9, 3) := by decide +kernel
theorem dX8_scan_80 : decode cX8_scan 80 = .ok (.iload 4, 2) := by decide +kernel
theorem dX8_scan_82 : decode cX8_scan 82 = .ok (.baload, 1) := by decide +kernel
theorem dX8_scan_83 : decode cX8_scan 83 = .ok (.invokestatic 51, 3) := by decide +kernel
theorem dX8_scan_86 : decode cX8_scan 86 = .ok (.ifCond .eq 7, 3) := by decide +kernel
theorem dX8_scan_89 : decode cX8_scan 89 = .ok (.iconst 1, 1) := by decide +kernel
theorem dX8_scan_90 : decode cX8_scan 90 = .ok (.goto 4, 3) := by decide +kernel
theorem dX8_scan_93 : decode cX8_scan 93 = .ok (.iconst 0, 1) := by decide +kernel
theorem dX8_scan_94 : decode cX8_scan 94 = .ok (.istore 6, 2) := by decide +kernel
theorem dX8_scan_96 : decode cX8_scan 96 = .ok (.aload_n 0, 1) := by decide +kernel
theorem dX8_scan_97 : decode cX8_scan 97 = .ok (.iload 6, 2) := by decide +kernel
theorem dX8_scan_99 : decode cX8_scan 99 = .ok (.ifCond .eq 15, 3) := by decide +kernel
theorem dX8_scan_102 : decode cX8_scan 102 = .ok (.iload 4, 2) := by decide +kernel
theorem dX8_scan_104 : decode cX8_scan 104 = .ok (.iload_n 3, 1) := by decide +kernel
theorem dX8_scan_105 : decode cX8_scan 105 = .ok (.if_icmp .ne 9, 3) := by decide +kernel
theorem dX8_scan_108 : decode cX8_scan 108 = .ok (.getstatic 54, 3) := by decide +kernel
theorem dX8_scan_111 : decode cX8_scan 111 = .ok (.goto 11, 3) := by decide +kernel
theorem dX8_scan_114 : decode cX8_scan 114 = .ok (.aload_n 0, 1) := by decide +kernel
theorem dX8_scan_115 : decode cX8_scan 115 = .ok (.iload 4, 2) := by decide +kernel
theorem dX8_scan_117 : decode cX8_scan 117 = .ok (.iload 5, 2) := by decide +kernel
theorem dX8_scan_119 : decode cX8_scan 119 = .ok (.invokevirtual 58, 3) := by decide +kernel
theorem dX8_scan_122 : decode cX8_scan 122 = .ok (.iload 4, 2) := by decide +kernel
theorem dX8_scan_124 : decode cX8_scan 124 = .ok (.iload 5, 2) := by decide +kernel
theorem dX8_scan_126 : decode cX8_scan 126 = .ok (.invokevirtual 62, 3) := by decide +kernel
theorem dX8_scan_129 : decode cX8_scan 129 = .ok (.iload 6, 2) := by decide +kernel
theorem dX8_scan_131 : decode cX8_scan 131 = .ok (.ifCond .eq 8, 3) := by decide +kernel
theorem dX8_scan_134 : decode cX8_scan 134 = .ok (.iload 5, 2) := by decide +kernel
theorem dX8_scan_136 : decode cX8_scan 136 = .ok (.goto 4, 3) := by decide +kernel
theorem dX8_scan_139 : decode cX8_scan 139 = .ok (.iconst (-1), 1) := by decide +kernel
theorem dX8_scan_140 : decode cX8_scan 140 = .ok (.istore_n 3, 1) := by decide +kernel
theorem dX8_scan_141 : decode cX8_scan 141 = .ok (.iload 5, 2) := by decide +kernel
theorem dX8_scan_143 : decode cX8_scan 143 = .ok (.istore 4, 2) := by decide +kernel
theorem dX8_scan_145 : decode cX8_scan 145 = .ok (.goto (-120), 3) := by decide +kernel
theorem dX8_scan_148 : decode cX8_scan 148 = .ok (.aload_n 0, 1) := by decide +kernel
theorem dX8_scan_149 : decode cX8_scan 149 = .ok (.getstatic 66, 3) := by decide +kernel
theorem dX8_scan_152 : decode cX8_scan 152 = .ok (.iload_n 2, 1) := by decide +kernel
theorem dX8_scan_153 : decode cX8_scan 153 = .ok (.iload_n 2, 1) := by decide +kernel
theorem dX8_scan_154 : decode cX8_scan 154 = .ok (.invokevirtual 62, 3) := by decide +kernel
theorem dX8_scan_157 : decode cX8_scan 157 = .ok (.return_, 1) := by decide +kernel
theorem dX8_endOfRun_0 : decode cX8_endOfRun 0 = .ok (.iload_n 1, 1) := by decide +kernel
theorem dX8_endOfRun_1 : decode cX8_endOfRun 1 = .ok (.istore_n 3, 1) := by decide +kernel
theorem dX8_endOfRun_2 : decode cX8_endOfRun 2 = .ok (.iload_n 3, 1) := by decide +kernel
theorem dX8_endOfRun_3 : decode cX8_endOfRun 3 = .ok (.iload_n 2, 1) := by decide +kernel
theorem dX8_endOfRun_4 : decode cX8_endOfRun 4 = .ok (.if_icmp .ge 21, 3) := by decide +kernel
theorem dX8_endOfRun_7 : decode cX8_endOfRun 7 = .ok (.aload_n 0, 1) := by decide +kernel
theorem dX8_endOfRun_8 : decode cX8_endOfRun 8 = .ok (.getfield 9, 3) := by decide +kernel
theorem dX8_endOfRun_11 : decode cX8_endOfRun 11 = .ok (.iload_n 3, 1) := by decide +kernel
theorem dX8_endOfRun_12 : decode cX8_endOfRun 12 = .ok (.baload, 1) := by decide +kernel
theorem dX8_endOfRun_13 : decode cX8_endOfRun 13 = .ok (.invokestatic 48, 3) := by decide +kernel
theorem dX8_endOfRun_16 : decode cX8_endOfRun 16 = .ok (.ifCond .eq 9, 3) := by decide +kernel
theorem dX8_endOfRun_19 : decode cX8_endOfRun 19 = .ok (.iinc 3 1, 3) := by decide +kernel
theorem dX8_endOfRun_22 : decode cX8_endOfRun 22 = .ok (.goto (-20), 3) := by decide +kernel
theorem dX8_endOfRun_25 : decode cX8_endOfRun 25 = .ok (.iload_n 3, 1) := by decide +kernel
theorem dX8_endOfRun_26 : decode cX8_endOfRun 26 = .ok (.iload_n 1, 1) := by decide +kernel
theorem dX8_endOfRun_27 : decode cX8_endOfRun 27 = .ok (.if_icmp .le 5, 3) := by decide +kernel
theorem dX8_endOfRun_30 : decode cX8_endOfRun 30 = .ok (.iload_n 3, 1) := by decide +kernel
theorem dX8_endOfRun_31 : decode cX8_endOfRun 31 = .ok (.ireturn, 1) := by decide +kernel
theorem dX8_endOfRun_32 : decode cX8_endOfRun 32 = .ok (.iload_n 3, 1) := by decide +kernel
theorem dX8_endOfRun_33 : decode cX8_endOfRun 33 = .ok (.iload_n 2, 1) := by decide +kernel
theorem dX8_endOfRun_34 : decode cX8_endOfRun 34 = .ok (.if_icmp .ge 21, 3) := by decide +kernel
theorem dX8_endOfRun_37 : decode cX8_endOfRun 37 = .ok (.aload_n 0, 1) := by decide +kernel
theorem dX8_endOfRun_38 : decode cX8_endOfRun 38 = .ok (.getfield 9, 3) := by decide +kernel
theorem dX8_endOfRun_41 : decode cX8_endOfRun 41 = .ok (.iload_n 3, 1) := by decide +kernel
theorem dX8_endOfRun_42 : decode cX8_endOfRun 42 = .ok (.baload, 1) := by decide +kernel
theorem dX8_endOfRun_43 : decode cX8_endOfRun 43 = .ok (.invokestatic 51, 3) := by decide +kernel
theorem dX8_endOfRun_46 : decode cX8_endOfRun 46 = .ok (.ifCond .eq 9, 3) := by decide +kernel
theorem dX8_endOfRun_49 : decode cX8_endOfRun 49 = .ok (.iinc 3 1, 3) := by decide +kernel
theorem dX8_endOfRun_52 : decode cX8_endOfRun 52 = .ok (.goto (-20), 3) := by decide +kernel
theorem dX8_endOfRun_55 : decode cX8_endOfRun 55 = .ok (.iload_n 3, 1) := by decide +kernel
theorem dX8_endOfRun_56 : decode cX8_endOfRun 56 = .ok (.ireturn, 1) := by decide +kernel
theorem dX8_kindOf_0 : decode cX8_kindOf 0 = .ok (.aload_n 0, 1) := by decide +kernel
theorem dX8_kindOf_1 : decode cX8_kindOf 1 = .ok (.getfield 9, 3) := by decide +kernel
theorem dX8_kindOf_4 : decode cX8_kindOf 4 = .ok (.iload_n 1, 1) := by decide +kernel
theorem dX8_kindOf_5 : decode cX8_kindOf 5 = .ok (.baload, 1) := by decide +kernel
theorem dX8_kindOf_6 : decode cX8_kindOf 6 = .ok (.invokestatic 51, 3) := by decide +kernel
theorem dX8_kindOf_9 : decode cX8_kindOf 9 = .ok (.ifCond .eq 21, 3) := by decide +kernel
theorem dX8_kindOf_12 : decode cX8_kindOf 12 = .ok (.iload_n 2, 1) := by decide +kernel
theorem dX8_kindOf_13 : decode cX8_kindOf 13 = .ok (.iload_n 1, 1) := by decide +kernel
theorem dX8_kindOf_14 : decode cX8_kindOf 14 = .ok (.isub, 1) := by decide +kernel
theorem dX8_kindOf_15 : decode cX8_kindOf 15 = .ok (.bipush 6, 2) := by decide +kernel
theorem dX8_kindOf_17 : decode cX8_kindOf 17 = .ok (.if_icmp .le 9, 3) := by decide +kernel
theorem dX8_kindOf_20 : decode cX8_kindOf 20 = .ok (.getstatic 54, 3) := by decide +kernel
theorem dX8_kindOf_23 : decode cX8_kindOf 23 = .ok (.goto 6, 3) := by decide +kernel
theorem dX8_kindOf_26 : decode cX8_kindOf 26 = .ok (.getstatic 69, 3) := by decide +kernel
theorem dX8_kindOf_29 : decode cX8_kindOf 29 = .ok (.areturn, 1) := by decide +kernel
theorem dX8_kindOf_30 : decode cX8_kindOf 30 = .ok (.getstatic 72, 3) := by decide +kernel
theorem dX8_kindOf_33 : decode cX8_kindOf 33 = .ok (.astore_n 3, 1) := by decide +kernel
theorem dX8_kindOf_34 : decode cX8_kindOf 34 = .ok (.aload_n 3, 1) := by decide +kernel
theorem dX8_kindOf_35 : decode cX8_kindOf 35 = .ok (.arraylength, 1) := by decide +kernel
theorem dX8_kindOf_36 : decode cX8_kindOf 36 = .ok (.istore 4, 2) := by decide +kernel
theorem dX8_kindOf_38 : decode cX8_kindOf 38 = .ok (.iconst 0, 1) := by decide +kernel
theorem dX8_kindOf_39 : decode cX8_kindOf 39 = .ok (.istore 5, 2) := by decide +kernel
theorem dX8_kindOf_41 : decode cX8_kindOf 41 = .ok (.iload 5, 2) := by decide +kernel
theorem dX8_kindOf_43 : decode cX8_kindOf 43 = .ok (.iload 4, 2) := by decide +kernel
theorem dX8_kindOf_45 : decode cX8_kindOf 45 = .ok (.if_icmp .ge 32, 3) := by decide +kernel
theorem dX8_kindOf_48 : decode cX8_kindOf 48 = .ok (.aload_n 3, 1) := by decide +kernel
theorem dX8_kindOf_49 : decode cX8_kindOf 49 = .ok (.iload 5, 2) := by decide +kernel
theorem dX8_kindOf_51 : decode cX8_kindOf 51 = .ok (.aaload, 1) := by decide +kernel
theorem dX8_kindOf_52 : decode cX8_kindOf 52 = .ok (.astore 6, 2) := by decide +kernel
theorem dX8_kindOf_54 : decode cX8_kindOf 54 = .ok (.aload_n 0, 1) := by decide +kernel
theorem dX8_kindOf_55 : decode cX8_kindOf 55 = .ok (.aload 6, 2) := by decide +kernel
theorem dX8_kindOf_57 : decode cX8_kindOf 57 = .ok (.getfield 75, 3) := by decide +kernel
theorem dX8_kindOf_60 : decode cX8_kindOf 60 = .ok (.iload_n 1, 1) := by decide +kernel
theorem dX8_kindOf_61 : decode cX8_kindOf 61 = .ok (.iload_n 2, 1) := by decide +kernel
theorem dX8_kindOf_62 : decode cX8_kindOf 62 = .ok (.invokevirtual 79, 3) := by decide +kernel
theorem dX8_kindOf_65 : decode cX8_kindOf 65 = .ok (.ifCond .eq 6, 3) := by decide +kernel
theorem dX8_kindOf_68 : decode cX8_kindOf 68 = .ok (.aload 6, 2) := by decide +kernel
theorem dX8_kindOf_70 : decode cX8_kindOf 70 = .ok (.areturn, 1) := by decide +kernel
theorem dX8_kindOf_71 : decode cX8_kindOf 71 = .ok (.iinc 5 1, 3) := by decide +kernel
theorem dX8_kindOf_74 : decode cX8_kindOf 74 = .ok (.goto (-33), 3) := by decide +kernel
theorem dX8_kindOf_77 : decode cX8_kindOf 77 = .ok (.getstatic 54, 3) := by decide +kernel
theorem dX8_kindOf_80 : decode cX8_kindOf 80 = .ok (.areturn, 1) := by decide +kernel
theorem dX8_isSpelled_0 : decode cX8_isSpelled 0 = .ok (.aload_n 1, 1) := by decide +kernel
theorem dX8_isSpelled_1 : decode cX8_isSpelled 1 = .ok (.invokevirtual 83, 3) := by decide +kernel
theorem dX8_isSpelled_4 : decode cX8_isSpelled 4 = .ok (.iload_n 3, 1) := by decide +kernel
theorem dX8_isSpelled_5 : decode cX8_isSpelled 5 = .ok (.iload_n 2, 1) := by decide +kernel
theorem dX8_isSpelled_6 : decode cX8_isSpelled 6 = .ok (.isub, 1) := by decide +kernel
theorem dX8_isSpelled_7 : decode cX8_isSpelled 7 = .ok (.if_icmp .eq 5, 3) := by decide +kernel
theorem dX8_isSpelled_10 : decode cX8_isSpelled 10 = .ok (.iconst 0, 1) := by decide +kernel
theorem dX8_isSpelled_11 : decode cX8_isSpelled 11 = .ok (.ireturn, 1) := by decide +kernel
theorem dX8_isSpelled_12 : decode cX8_isSpelled 12 = .ok (.iload_n 2, 1) := by decide +kernel
theorem dX8_isSpelled_13 : decode cX8_isSpelled 13 = .ok (.istore 4, 2) := by decide +kernel
theorem dX8_isSpelled_15 : decode cX8_isSpelled 15 = .ok (.iload 4, 2) := by decide +kernel
theorem dX8_isSpelled_17 : decode cX8_isSpelled 17 = .ok (.iload_n 3, 1) := by decide +kernel
theorem dX8_isSpelled_18 : decode cX8_isSpelled 18 = .ok (.if_icmp .ge 29, 3) := by decide +kernel
theorem dX8_isSpelled_21 : decode cX8_isSpelled 21 = .ok (.aload_n 0, 1) := by decide +kernel
theorem dX8_isSpelled_22 : decode cX8_isSpelled 22 = .ok (.getfield 9, 3) := by decide +kernel
theorem dX8_isSpelled_25 : decode cX8_isSpelled 25 = .ok (.iload 4, 2) := by decide +kernel
theorem dX8_isSpelled_27 : decode cX8_isSpelled 27 = .ok (.baload, 1) := by decide +kernel
theorem dX8_isSpelled_28 : decode cX8_isSpelled 28 = .ok (.aload_n 1, 1) := by decide +kernel
theorem dX8_isSpelled_29 : decode cX8_isSpelled 29 = .ok (.iload 4, 2) := by decide +kernel
theorem dX8_isSpelled_31 : decode cX8_isSpelled 31 = .ok (.iload_n 2, 1) := by decide +kernel
theorem dX8_isSpelled_32 : decode cX8_isSpelled 32 = .ok (.isub, 1) := by decide +kernel
theorem dX8_isSpelled_33 : decode cX8_isSpelled 33 = .ok (.invokevirtual 89, 3) := by decide +kernel
theorem dX8_isSpelled_36 : decode cX8_isSpelled 36 = .ok (.if_icmp .eq 5, 3) := by decide +kernel
theorem dX8_isSpelled_39 : decode cX8_isSpelled 39 = .ok (.iconst 0, 1) := by decide +kernel
theorem dX8_isSpelled_40 : decode cX8_isSpelled 40 = .ok (.ireturn, 1) := by decide +kernel
theorem dX8_isSpelled_41 : decode cX8_isSpelled 41 = .ok (.iinc 4 1, 3) := by decide +kernel
theorem dX8_isSpelled_44 : decode cX8_isSpelled 44 = .ok (.goto (-29), 3) := by decide +kernel
theorem dX8_isSpelled_47 : decode cX8_isSpelled 47 = .ok (.iconst 1, 1) := by decide +kernel
theorem dX8_isSpelled_48 : decode cX8_isSpelled 48 = .ok (.ireturn, 1) := by decide +kernel
theorem dX8_addToken_0 : decode cX8_addToken 0 = .ok (.aload_n 0, 1) := by decide +kernel
theorem dX8_addToken_1 : decode cX8_addToken 1 = .ok (.getfield 37, 3) := by decide +kernel
theorem dX8_addToken_4 : decode cX8_addToken 4 = .ok (.sipush 900, 3) := by decide +kernel
theorem dX8_addToken_7 : decode cX8_addToken 7 = .ok (.if_icmp .le 4, 3) := by decide +kernel
theorem dX8_addToken_10 : decode cX8_addToken 10 = .ok (.return_, 1) := by decide +kernel
theorem dX8_addToken_11 : decode cX8_addToken 11 = .ok (.aload_n 0, 1) := by decide +kernel
theorem dX8_addToken_12 : decode cX8_addToken 12 = .ok (.getfield 17, 3) := by decide +kernel
theorem dX8_addToken_15 : decode cX8_addToken 15 = .ok (.aload_n 0, 1) := by decide +kernel
theorem dX8_addToken_16 : decode cX8_addToken 16 = .ok (.getfield 37, 3) := by decide +kernel
theorem dX8_addToken_19 : decode cX8_addToken 19 = .ok (.aload_n 1, 1) := by decide +kernel
theorem dX8_addToken_20 : decode cX8_addToken 20 = .ok (.aastore, 1) := by decide +kernel
theorem dX8_addToken_21 : decode cX8_addToken 21 = .ok (.aload_n 0, 1) := by decide +kernel
theorem dX8_addToken_22 : decode cX8_addToken 22 = .ok (.getfield 21, 3) := by decide +kernel
theorem dX8_addToken_25 : decode cX8_addToken 25 = .ok (.aload_n 0, 1) := by decide +kernel
theorem dX8_addToken_26 : decode cX8_addToken 26 = .ok (.getfield 37, 3) := by decide +kernel
theorem dX8_addToken_29 : decode cX8_addToken 29 = .ok (.iload_n 2, 1) := by decide +kernel
theorem dX8_addToken_30 : decode cX8_addToken 30 = .ok (.iastore, 1) := by decide +kernel
theorem dX8_addToken_31 : decode cX8_addToken 31 = .ok (.aload_n 0, 1) := by decide +kernel
theorem dX8_addToken_32 : decode cX8_addToken 32 = .ok (.getfield 25, 3) := by decide +kernel
theorem dX8_addToken_35 : decode cX8_addToken 35 = .ok (.aload_n 0, 1) := by decide +kernel
theorem dX8_addToken_36 : decode cX8_addToken 36 = .ok (.getfield 37, 3) := by decide +kernel
theorem dX8_addToken_39 : decode cX8_addToken 39 = .ok (.aload_n 1, 1) := by decide +kernel
theorem dX8_addToken_40 : decode cX8_addToken 40 = .ok (.getstatic 69, 3) := by decide +kernel
theorem dX8_addToken_43 : decode cX8_addToken 43 = .ok (.if_acmp .ne 12, 3) := by decide +kernel
theorem dX8_addToken_46 : decode cX8_addToken 46 = .ok (.aload_n 0, 1) := by decide +kernel
theorem dX8_addToken_47 : decode cX8_addToken 47 = .ok (.iload_n 2, 1) := by decide +kernel
theorem dX8_addToken_48 : decode cX8_addToken 48 = .ok (.iload_n 3, 1) := by decide +kernel
theorem dX8_addToken_49 : decode cX8_addToken 49 = .ok (.invokevirtual 93, 3) := by decide +kernel
theorem dX8_addToken_52 : decode cX8_addToken 52 = .ok (.goto 4, 3) := by decide +kernel
theorem dX8_addToken_55 : decode cX8_addToken 55 = .ok (.iconst 0, 1) := by decide +kernel
theorem dX8_addToken_56 : decode cX8_addToken 56 = .ok (.iastore, 1) := by decide +kernel
theorem dX8_addToken_57 : decode cX8_addToken 57 = .ok (.aload_n 0, 1) := by decide +kernel
theorem dX8_addToken_58 : decode cX8_addToken 58 = .ok (.dup, 1) := by decide +kernel
theorem dX8_addToken_59 : decode cX8_addToken 59 = .ok (.getfield 37, 3) := by decide +kernel
theorem dX8_addToken_62 : decode cX8_addToken 62 = .ok (.iconst 1, 1) := by decide +kernel
theorem dX8_addToken_63 : decode cX8_addToken 63 = .ok (.iadd, 1) := by decide +kernel
theorem dX8_addToken_64 : decode cX8_addToken 64 = .ok (.putfield 37, 3) := by decide +kernel
theorem dX8_addToken_67 : decode cX8_addToken 67 = .ok (.return_, 1) := by decide +kernel
theorem dX8_numberAt_0 : decode cX8_numberAt 0 = .ok (.iconst 0, 1) := by decide +kernel
theorem dX8_numberAt_1 : decode cX8_numberAt 1 = .ok (.istore_n 3, 1) := by decide +kernel
theorem dX8_numberAt_2 : decode cX8_numberAt 2 = .ok (.iload_n 1, 1) := by decide +kernel
theorem dX8_numberAt_3 : decode cX8_numberAt 3 = .ok (.istore 4, 2) := by decide +kernel
theorem dX8_numberAt_5 : decode cX8_numberAt 5 = .ok (.iload 4, 2) := by decide +kernel
theorem dX8_numberAt_7 : decode cX8_numberAt 7 = .ok (.iload_n 2, 1) := by decide +kernel
theorem dX8_numberAt_8 : decode cX8_numberAt 8 = .ok (.if_icmp .ge 25, 3) := by decide +kernel
theorem dX8_numberAt_11 : decode cX8_numberAt 11 = .ok (.iload_n 3, 1) := by decide +kernel
theorem dX8_numberAt_12 : decode cX8_numberAt 12 = .ok (.bipush 10, 2) := by decide +kernel
theorem dX8_numberAt_14 : decode cX8_numberAt 14 = .ok (.imul, 1) := by decide +kernel
theorem dX8_numberAt_15 : decode cX8_numberAt 15 = .ok (.aload_n 0, 1) := by decide +kernel
theorem dX8_numberAt_16 : decode cX8_numberAt 16 = .ok (.getfield 9, 3) := by decide +kernel
theorem dX8_numberAt_19 : decode cX8_numberAt 19 = .ok (.iload 4, 2) := by decide +kernel
theorem dX8_numberAt_21 : decode cX8_numberAt 21 = .ok (.baload, 1) := by decide +kernel
theorem dX8_numberAt_22 : decode cX8_numberAt 22 = .ok (.bipush 48, 2) := by decide +kernel
theorem dX8_numberAt_24 : decode cX8_numberAt 24 = .ok (.isub, 1) := by decide +kernel
theorem dX8_numberAt_25 : decode cX8_numberAt 25 = .ok (.iadd, 1) := by decide +kernel
theorem dX8_numberAt_26 : decode cX8_numberAt 26 = .ok (.istore_n 3, 1) := by decide +kernel
theorem dX8_numberAt_27 : decode cX8_numberAt 27 = .ok (.iinc 4 1, 3) := by decide +kernel
theorem dX8_numberAt_30 : decode cX8_numberAt 30 = .ok (.goto (-25), 3) := by decide +kernel
theorem dX8_numberAt_33 : decode cX8_numberAt 33 = .ok (.iload_n 3, 1) := by decide +kernel
theorem dX8_numberAt_34 : decode cX8_numberAt 34 = .ok (.ireturn, 1) := by decide +kernel
theorem dX8_isBlank_0 : decode cX8_isBlank 0 = .ok (.iload_n 0, 1) := by decide +kernel
theorem dX8_isBlank_1 : decode cX8_isBlank 1 = .ok (.bipush 32, 2) := by decide +kernel
theorem dX8_isBlank_3 : decode cX8_isBlank 3 = .ok (.if_icmp .eq 9, 3) := by decide +kernel
theorem dX8_isBlank_6 : decode cX8_isBlank 6 = .ok (.iload_n 0, 1) := by decide +kernel
theorem dX8_isBlank_7 : decode cX8_isBlank 7 = .ok (.bipush 10, 2) := by decide +kernel
theorem dX8_isBlank_9 : decode cX8_isBlank 9 = .ok (.if_icmp .ne 7, 3) := by decide +kernel
theorem dX8_isBlank_12 : decode cX8_isBlank 12 = .ok (.iconst 1, 1) := by decide +kernel
theorem dX8_isBlank_13 : decode cX8_isBlank 13 = .ok (.goto 4, 3) := by decide +kernel
theorem dX8_isBlank_16 : decode cX8_isBlank 16 = .ok (.iconst 0, 1) := by decide +kernel
theorem dX8_isBlank_17 : decode cX8_isBlank 17 = .ok (.ireturn, 1) := by decide +kernel
theorem dX8_isLetter_0 : decode cX8_isLetter 0 = .ok (.iload_n 0, 1) := by decide +kernel
theorem dX8_isLetter_1 : decode cX8_isLetter 1 = .ok (.bipush 97, 2) := by decide +kernel
theorem dX8_isLetter_3 : decode cX8_isLetter 3 = .ok (.if_icmp .lt 13, 3) := by decide +kernel
theorem dX8_isLetter_6 : decode cX8_isLetter 6 = .ok (.iload_n 0, 1) := by decide +kernel
theorem dX8_isLetter_7 : decode cX8_isLetter 7 = .ok (.bipush 122, 2) := by decide +kernel
theorem dX8_isLetter_9 : decode cX8_isLetter 9 = .ok (.if_icmp .gt 7, 3) := by decide +kernel
theorem dX8_isLetter_12 : decode cX8_isLetter 12 = .ok (.iconst 1, 1) := by decide +kernel
theorem dX8_isLetter_13 : decode cX8_isLetter 13 = .ok (.goto 4, 3) := by decide +kernel
theorem dX8_isLetter_16 : decode cX8_isLetter 16 = .ok (.iconst 0, 1) := by decide +kernel
theorem dX8_isLetter_17 : decode cX8_isLetter 17 = .ok (.ireturn, 1) := by decide +kernel
theorem dX8_isDigit_0 : decode cX8_isDigit 0 = .ok (.iload_n 0, 1) := by decide +kernel
theorem dX8_isDigit_1 : decode cX8_isDigit 1 = .ok (.bipush 48, 2) := by decide +kernel
theorem dX8_isDigit_3 : decode cX8_isDigit 3 = .ok (.if_icmp .lt 13, 3) := by decide +kernel
theorem dX8_isDigit_6 : decode cX8_isDigit 6 = .ok (.iload_n 0, 1) := by decide +kernel
theorem dX8_isDigit_7 : decode cX8_isDigit 7 = .ok (.bipush 57, 2) := by decide +kernel
theorem dX8_isDigit_9 : decode cX8_isDigit 9 = .ok (.if_icmp .gt 7, 3) := by decide +kernel
theorem dX8_isDigit_12 : decode cX8_isDigit 12 = .ok (.iconst 1, 1) := by decide +kernel
theorem dX8_isDigit_13 : decode cX8_isDigit 13 = .ok (.goto 4, 3) := by decide +kernel
theorem dX8_isDigit_16 : decode cX8_isDigit 16 = .ok (.iconst 0, 1) := by decide +kernel
theorem dX8_isDigit_17 : decode cX8_isDigit 17 = .ok (.ireturn, 1) := by decide +kernel
theorem dX9_init_0 : decode cX9_init 0 = .ok (.aload_n 0, 1) := by decide +kernel
theorem dX9_init_1 : decode cX9_init 1 = .ok (.invokespecial 1, 3) := by decide +kernel
theorem dX9_init_4 : decode cX9_init 4 = .ok (.aload_n 0, 1) := by decide +kernel
theorem dX9_init_5 : decode cX9_init 5 = .ok (.new 7, 3) := by decide +kernel
theorem dX9_init_8 : decode cX9_init 8 = .ok (.dup, 1) := by decide +kernel
theorem dX9_init_9 : decode cX9_init 9 = .ok (.invokespecial 9, 3) := by decide +kernel
theorem dX9_init_12 : decode cX9_init 12 = .ok (.putfield 10, 3) := by decide +kernel
theorem dX9_init_15 : decode cX9_init 15 = .ok (.aload_n 0, 1) := by decide +kernel
theorem dX9_init_16 : decode cX9_init 16 = .ok (.new 16, 3) := by decide +kernel
theorem dX9_init_19 : decode cX9_init 19 = .ok (.dup, 1) := by decide +kernel
theorem dX9_init_20 : decode cX9_init 20 = .ok (.invokespecial 18, 3) := by decide +kernel
theorem dX9_init_23 : decode cX9_init 23 = .ok (.putfield 19, 3) := by decide +kernel
theorem dX9_init_26 : decode cX9_init 26 = .ok (.return_, 1) := by decide +kernel
theorem dX9_feed_0 : decode cX9_feed 0 = .ok (.aload_n 0, 1) := by decide +kernel
theorem dX9_feed_1 : decode cX9_feed 1 = .ok (.getfield 23, 3) := by decide +kernel
theorem dX9_feed_4 : decode cX9_feed 4 = .ok (.sipush 880, 3) := by decide +kernel
theorem dX9_feed_7 : decode cX9_feed 7 = .ok (.if_icmp .le 13, 3) := by decide +kernel
theorem dX9_feed_10 : decode cX9_feed 10 = .ok (.new 27, 3) := by decide +kernel
theorem dX9_feed_13 : decode cX9_feed 13 = .ok (.dup, 1) := by decide +kernel
theorem dX9_feed_14 : decode cX9_feed 14 = .ok (.ldc 29, 2) := by decide +kernel
theorem dX9_feed_16 : decode cX9_feed 16 = .ok (.invokespecial 31, 3) := by decide +kernel
theorem dX9_feed_19 : decode cX9_feed 19 = .ok (.athrow, 1) := by decide +kernel
theorem dX9_feed_20 : decode cX9_feed 20 = .ok (.aload_n 0, 1) := by decide +kernel
theorem dX9_feed_21 : decode cX9_feed 21 = .ok (.iload_n 1, 1) := by decide +kernel
theorem dX9_feed_22 : decode cX9_feed 22 = .ok (.invokevirtual 34, 3) := by decide +kernel
theorem dX9_feed_25 : decode cX9_feed 25 = .ok (.aload_n 0, 1) := by decide +kernel
theorem dX9_feed_26 : decode cX9_feed 26 = .ok (.iload_n 2, 1) := by decide +kernel
theorem dX9_feed_27 : decode cX9_feed 27 = .ok (.invokevirtual 34, 3) := by decide +kernel
theorem dX9_feed_30 : decode cX9_feed 30 = .ok (.aload_n 0, 1) := by decide +kernel
theorem dX9_feed_31 : decode cX9_feed 31 = .ok (.iload_n 3, 1) := by decide +kernel
theorem dX9_feed_32 : decode cX9_feed 32 = .ok (.invokevirtual 34, 3) := by decide +kernel
theorem dX9_feed_35 : decode cX9_feed 35 = .ok (.aload_n 0, 1) := by decide +kernel
theorem dX9_feed_36 : decode cX9_feed 36 = .ok (.iload 4, 2) := by decide +kernel
theorem dX9_feed_38 : decode cX9_feed 38 = .ok (.invokevirtual 34, 3) := by decide +kernel
theorem dX9_feed_41 : decode cX9_feed 41 = .ok (.aload_n 0, 1) := by decide +kernel
theorem dX9_feed_42 : decode cX9_feed 42 = .ok (.iload 5, 2) := by decide +kernel
theorem dX9_feed_44 : decode cX9_feed 44 = .ok (.invokevirtual 34, 3) := by decide +kernel
theorem dX9_feed_47 : decode cX9_feed 47 = .ok (.aload_n 0, 1) := by decide +kernel
theorem dX9_feed_48 : decode cX9_feed 48 = .ok (.getfield 23, 3) := by decide +kernel
theorem dX9_feed_51 : decode cX9_feed 51 = .ok (.ireturn, 1) := by decide +kernel
theorem dX9_putBytes_0 : decode cX9_putBytes 0 = .ok (.bipush 24, 2) := by decide +kernel
theorem dX9_putBytes_2 : decode cX9_putBytes 2 = .ok (.istore_n 2, 1) := by decide +kernel
theorem dX9_putBytes_3 : decode cX9_putBytes 3 = .ok (.iload_n 2, 1) := by decide +kernel
theorem dX9_putBytes_4 : decode cX9_putBytes 4 = .ok (.ifCond .lt 48, 3) := by decide +kernel
theorem dX9_putBytes_7 : decode cX9_putBytes 7 = .ok (.aload_n 0, 1) := by decide +kernel
theorem dX9_putBytes_8 : decode cX9_putBytes 8 = .ok (.getfield 23, 3) := by decide +kernel
theorem dX9_putBytes_11 : decode cX9_putBytes 11 = .ok (.sipush 900, 3) := by decide +kernel
theorem dX9_putBytes_14 : decode cX9_putBytes 14 = .ok (.if_icmp .ge 38, 3) := by decide +kernel
theorem dX9_putBytes_17 : decode cX9_putBytes 17 = .ok (.aload_n 0, 1) := by decide +kernel
theorem dX9_putBytes_18 : decode cX9_putBytes 18 = .ok (.getfield 10, 3) := by decide +kernel
theorem dX9_putBytes_21 : decode cX9_putBytes 21 = .ok (.getfield 38, 3) := by decide +kernel
theorem dX9_putBytes_24 : decode cX9_putBytes 24 = .ok (.getfield 42, 3) := by decide +kernel
theorem dX9_putBytes_27 : decode cX9_putBytes 27 = .ok (.aload_n 0, 1) := by decide +kernel
theorem dX9_putBytes_28 : decode cX9_putBytes 28 = .ok (.getfield 23, 3) := by decide +kernel
theorem dX9_putBytes_31 : decode cX9_putBytes 31 = .ok (.iload_n 1, 1) := by decide +kernel
theorem dX9_putBytes_32 : decode cX9_putBytes 32 = .ok (.iload_n 2, 1) := by decide +kernel
theorem dX9_putBytes_33 : decode cX9_putBytes 33 = .ok (.iushr, 1) := by decide +kernel
theorem dX9_putBytes_34 : decode cX9_putBytes 34 = .ok (.i2b, 1) := by decide +kernel
theorem dX9_putBytes_35 : decode cX9_putBytes 35 = .ok (.bastore, 1) := by decide +kernel
theorem dX9_putBytes_36 : decode cX9_putBytes 36 = .ok (.aload_n 0, 1) := by decide +kernel
theorem dX9_putBytes_37 : decode cX9_putBytes 37 = .ok (.dup, 1) := by decide +kernel
theorem dX9_putBytes_38 : decode cX9_putBytes 38 = .ok (.getfield 23, 3) := by decide +kernel
theorem dX9_putBytes_41 : decode cX9_putBytes 41 = .ok (.iconst 1, 1) := by decide +kernel
theorem dX9_putBytes_42 : decode cX9_putBytes 42 = .ok (.iadd, 1) := by decide +kernel
theorem dX9_putBytes_43 : decode cX9_putBytes 43 = .ok (.putfield 23, 3) := by decide +kernel
theorem dX9_putBytes_46 : decode cX9_putBytes 46 = .ok (.iinc 2 (-8), 3) := by decide +kernel
theorem dX9_putBytes_49 : decode cX9_putBytes 49 = .ok (.goto (-46), 3) := by decide +kernel
theorem dX9_putBytes_52 : decode cX9_putBytes 52 = .ok (.return_, 1) := by decide +kernel
theorem dX9_load_0 : decode cX9_load 0 = .ok (.aload_n 0, 1) := by decide +kernel
theorem dX9_load_1 : decode cX9_load 1 = .ok (.iload_n 1, 1) := by decide +kernel
theorem dX9_load_2 : decode cX9_load 2 = .ok (.invokevirtual 48, 3) := by decide +kernel
theorem dX9_load_5 : decode cX9_load 5 = .ok (.aload_n 0, 1) := by decide +kernel
theorem dX9_load_6 : decode cX9_load 6 = .ok (.getfield 10, 3) := by decide +kernel
theorem dX9_load_9 : decode cX9_load 9 = .ok (.iload_n 1, 1) := by decide +kernel
theorem dX9_load_10 : decode cX9_load 10 = .ok (.invokevirtual 51, 3) := by decide +kernel
theorem dX9_load_13 : decode cX9_load 13 = .ok (.aload_n 0, 1) := by decide +kernel
theorem dX9_load_14 : decode cX9_load 14 = .ok (.getfield 10, 3) := by decide +kernel
theorem dX9_load_17 : decode cX9_load 17 = .ok (.invokevirtual 54, 3) := by decide +kernel
theorem dX9_load_20 : decode cX9_load 20 = .ok (.ifCond .eq 13, 3) := by decide +kernel
theorem dX9_load_23 : decode cX9_load 23 = .ok (.new 27, 3) := by decide +kernel
theorem dX9_load_26 : decode cX9_load 26 = .ok (.dup, 1) := by decide +kernel
theorem dX9_load_27 : decode cX9_load 27 = .ok (.ldc 58, 2) := by decide +kernel
theorem dX9_load_29 : decode cX9_load 29 = .ok (.invokespecial 31, 3) := by decide +kernel
theorem dX9_load_32 : decode cX9_load 32 = .ok (.athrow, 1) := by decide +kernel
theorem dX9_load_33 : decode cX9_load 33 = .ok (.aload_n 0, 1) := by decide +kernel
theorem dX9_load_34 : decode cX9_load 34 = .ok (.getfield 19, 3) := by decide +kernel
theorem dX9_load_37 : decode cX9_load 37 = .ok (.aload_n 0, 1) := by decide +kernel
theorem dX9_load_38 : decode cX9_load 38 = .ok (.getfield 10, 3) := by decide +kernel
theorem dX9_load_41 : decode cX9_load 41 = .ok (.getfield 60, 3) := by decide +kernel
theorem dX9_load_44 : decode cX9_load 44 = .ok (.aload_n 0, 1) := by decide +kernel
theorem dX9_load_45 : decode cX9_load 45 = .ok (.getfield 10, 3) := by decide +kernel
theorem dX9_load_48 : decode cX9_load 48 = .ok (.getfield 63, 3) := by decide +kernel
theorem dX9_load_51 : decode cX9_load 51 = .ok (.aload_n 0, 1) := by decide +kernel
theorem dX9_load_52 : decode cX9_load 52 = .ok (.getfield 10, 3) := by decide +kernel
theorem dX9_load_55 : decode cX9_load 55 = .ok (.getfield 66, 3) := by decide +kernel
theorem dX9_load_58 : decode cX9_load 58 = .ok (.invokevirtual 69, 3) := by decide +kernel
theorem dX9_load_61 : decode cX9_load 61 = .ok (.aload_n 0, 1) := by decide +kernel
theorem dX9_load_62 : decode cX9_load 62 = .ok (.iconst 0, 1) := by decide +kernel
theorem dX9_load_63 : decode cX9_load 63 = .ok (.putfield 73, 3) := by decide +kernel
theorem dX9_load_66 : decode cX9_load 66 = .ok (.aload_n 0, 1) := by decide +kernel
theorem dX9_load_67 : decode cX9_load 67 = .ok (.getfield 19, 3) := by decide +kernel
theorem dX9_load_70 : decode cX9_load 70 = .ok (.getfield 76, 3) := by decide +kernel
theorem dX9_load_73 : decode cX9_load 73 = .ok (.ireturn, 1) := by decide +kernel
theorem dX9_run_0 : decode cX9_run 0 = .ok (.aload_n 0, 1) := by decide +kernel
theorem dX9_run_1 : decode cX9_run 1 = .ok (.iload_n 1, 1) := by decide +kernel
theorem dX9_run_2 : decode cX9_run 2 = .ok (.invokevirtual 48, 3) := by decide +kernel
theorem dX9_run_5 : decode cX9_run 5 = .ok (.aload_n 0, 1) := by decide +kernel
theorem dX9_run_6 : decode cX9_run 6 = .ok (.getfield 19, 3) := by decide +kernel
theorem dX9_run_9 : decode cX9_run 9 = .ok (.getfield 76, 3) := by decide +kernel
theorem dX9_run_12 : decode cX9_run 12 = .ok (.ifCond .ne 13, 3) := by decide +kernel
theorem dX9_run_15 : decode cX9_run 15 = .ok (.new 27, 3) := by decide +kernel
theorem dX9_run_18 : decode cX9_run 18 = .ok (.dup, 1) := by decide +kernel
theorem dX9_run_19 : decode cX9_run 19 = .ok (.ldc 77, 2) := by decide +kernel
theorem dX9_run_21 : decode cX9_run 21 = .ok (.invokespecial 31, 3) := by decide +kernel
theorem dX9_run_24 : decode cX9_run 24 = .ok (.athrow, 1) := by decide +kernel
theorem dX9_run_25 : decode cX9_run 25 = .ok (.aload_n 0, 1) := by decide +kernel
theorem dX9_run_26 : decode cX9_run 26 = .ok (.getfield 10, 3) := by decide +kernel
theorem dX9_run_29 : decode cX9_run 29 = .ok (.iload_n 1, 1) := by decide +kernel
theorem dX9_run_30 : decode cX9_run 30 = .ok (.aload_n 0, 1) := by decide +kernel
theorem dX9_run_31 : decode cX9_run 31 = .ok (.getfield 19, 3) := by decide +kernel
theorem dX9_run_34 : decode cX9_run 34 = .ok (.getfield 76, 3) := by decide +kernel
theorem dX9_run_37 : decode cX9_run 37 = .ok (.aload_n 0, 1) := by decide +kernel
theorem dX9_run_38 : decode cX9_run 38 = .ok (.getfield 19, 3) := by decide +kernel
theorem dX9_run_41 : decode cX9_run 41 = .ok (.getfield 79, 3) := by decide +kernel
theorem dX9_run_44 : decode cX9_run 44 = .ok (.invokevirtual 80, 3) := by decide +kernel
theorem dX9_run_47 : decode cX9_run 47 = .ok (.aload_n 0, 1) := by decide +kernel
theorem dX9_run_48 : decode cX9_run 48 = .ok (.getfield 10, 3) := by decide +kernel
theorem dX9_run_51 : decode cX9_run 51 = .ok (.invokevirtual 54, 3) := by decide +kernel
theorem dX9_run_54 : decode cX9_run 54 = .ok (.ifCond .eq 13, 3) := by decide +kernel
theorem dX9_run_57 : decode cX9_run 57 = .ok (.new 27, 3) := by decide +kernel
theorem dX9_run_60 : decode cX9_run 60 = .ok (.dup, 1) := by decide +kernel
theorem dX9_run_61 : decode cX9_run 61 = .ok (.ldc 83, 2) := by decide +kernel
theorem dX9_run_63 : decode cX9_run 63 = .ok (.invokespecial 31, 3) := by decide +kernel
theorem dX9_run_66 : decode cX9_run 66 = .ok (.athrow, 1) := by decide +kernel
theorem dX9_run_67 : decode cX9_run 67 = .ok (.iconst 0, 1) := by decide +kernel
theorem dX9_run_68 : decode cX9_run 68 = .ok (.istore_n 2, 1) := by decide +kernel
theorem dX9_run_69 : decode cX9_run 69 = .ok (.iconst 0, 1) := by decide +kernel
theorem dX9_run_70 : decode cX9_run 70 = .ok (.istore_n 3, 1) := by decide +kernel
theorem dX9_run_71 : decode cX9_run 71 = .ok (.iload_n 3, 1) := by decide +kernel
theorem dX9_run_72 : decode cX9_run 72 = .ok (.aload_n 0, 1) := by decide +kernel
theorem dX9_run_73 : decode cX9_run 73 = .ok (.getfield 10, 3) := by decide +kernel
theorem dX9_run_76 : decode cX9_run 76 = .ok (.getfield 85, 3) := by decide +kernel
theorem dX9_run_79 : decode cX9_run 79 = .ok (.if_icmp .ge 28, 3) := by decide +kernel
theorem dX9_run_82 : decode cX9_run 82 = .ok (.aload_n 0, 1) := by decide +kernel
theorem dX9_run_83 : decode cX9_run 83 = .ok (.aload_n 0, 1) := by decide +kernel
theorem dX9_run_84 : decode cX9_run 84 = .ok (.getfield 10, 3) := by decide +kernel
theorem dX9_run_87 : decode cX9_run 87 = .ok (.getfield 88, 3) := by decide +kernel
theorem dX9_run_90 : decode cX9_run 90 = .ok (.iload_n 3, 1) := by decide +kernel
theorem dX9_run_91 : decode cX9_run 91 = .ok (.aaload, 1) := by decide +kernel
theorem dX9_run_92 : decode cX9_run 92 = .ok (.invokevirtual 92, 3) := by decide +kernel
theorem dX9_run_95 : decode cX9_run 95 = .ok (.ifCond .lt 6, 3) := by decide +kernel
theorem dX9_run_98 : decode cX9_run 98 = .ok (.iinc 2 1, 3) := by decide +kernel
theorem dX9_run_101 : decode cX9_run 101 = .ok (.iinc 3 1, 3) := by decide +kernel
theorem dX9_run_104 : decode cX9_run 104 = .ok (.goto (-33), 3) := by decide +kernel
theorem dX9_run_107 : decode cX9_run 107 = .ok (.aload_n 0, 1) := by decide +kernel
theorem dX9_run_108 : decode cX9_run 108 = .ok (.aload_n 0, 1) := by decide +kernel
theorem dX9_run_109 : decode cX9_run 109 = .ok (.getfield 10, 3) := by decide +kernel
theorem dX9_run_112 : decode cX9_run 112 = .ok (.getfield 85, 3) := by decide +kernel
theorem dX9_run_115 : decode cX9_run 115 = .ok (.iload_n 2, 1) := by decide +kernel
theorem dX9_run_116 : decode cX9_run 116 = .ok (.isub, 1) := by decide +kernel
theorem dX9_run_117 : decode cX9_run 117 = .ok (.putfield 73, 3) := by decide +kernel
theorem dX9_run_120 : decode cX9_run 120 = .ok (.iload_n 2, 1) := by decide +kernel
theorem dX9_run_121 : decode cX9_run 121 = .ok (.ireturn, 1) := by decide +kernel
theorem dX9_takeBuffer_0 : decode cX9_takeBuffer 0 = .ok (.iload_n 1, 1) := by decide +kernel
theorem dX9_takeBuffer_1 : decode cX9_takeBuffer 1 = .ok (.ifCond .lt 11, 3) := by decide +kernel
theorem dX9_takeBuffer_4 : decode cX9_takeBuffer 4 = .ok (.iload_n 1, 1) := by decide +kernel
theorem dX9_takeBuffer_5 : decode cX9_takeBuffer 5 = .ok (.aload_n 0, 1) := by decide +kernel
theorem dX9_takeBuffer_6 : decode cX9_takeBuffer 6 = .ok (.getfield 23, 3) := by decide +kernel
theorem dX9_takeBuffer_9 : decode cX9_takeBuffer 9 = .ok (.if_icmp .le 13, 3) := by decide +kernel
theorem dX9_takeBuffer_12 : decode cX9_takeBuffer 12 = .ok (.new 96, 3) := by decide +kernel
theorem dX9_takeBuffer_15 : decode cX9_takeBuffer 15 = .ok (.dup, 1) := by decide +kernel
theorem dX9_takeBuffer_16 : decode cX9_takeBuffer 16 = .ok (.ldc 98, 2) := by decide +kernel
theorem dX9_takeBuffer_18 : decode cX9_takeBuffer 18 = .ok (.invokespecial 100, 3) := by decide +kernel
theorem dX9_takeBuffer_21 : decode cX9_takeBuffer 21 = .ok (.athrow, 1) := by decide +kernel
theorem dX9_takeBuffer_22 : decode cX9_takeBuffer 22 = .ok (.aload_n 0, 1) := by decide +kernel
theorem dX9_takeBuffer_23 : decode cX9_takeBuffer 23 = .ok (.iconst 0, 1) := by decide +kernel
theorem dX9_takeBuffer_24 : decode cX9_takeBuffer 24 = .ok (.putfield 23, 3) := by decide +kernel
theorem dX9_takeBuffer_27 : decode cX9_takeBuffer 27 = .ok (.return_, 1) := by decide +kernel
theorem dX9_doStep_0 : decode cX9_doStep 0 = .ok (.aload_n 1, 1) := by decide +kernel
theorem dX9_doStep_1 : decode cX9_doStep 1 = .ok (.getfield 101, 3) := by decide +kernel
theorem dX9_doStep_4 : decode cX9_doStep 4 = .ok (.iconst 0, 1) := by decide +kernel
theorem dX9_doStep_5 : decode cX9_doStep 5 = .ok (.iaload, 1) := by decide +kernel
theorem dX9_doStep_6 : decode cX9_doStep 6 = .ok (.istore_n 2, 1) := by decide +kernel
theorem dX9_doStep_7 : decode cX9_doStep 7 = .ok (.aload_n 1, 1) := by decide +kernel
theorem dX9_doStep_8 : decode cX9_doStep 8 = .ok (.getfield 101, 3) := by decide +kernel
theorem dX9_doStep_11 : decode cX9_doStep 11 = .ok (.iconst 1, 1) := by decide +kernel
theorem dX9_doStep_12 : decode cX9_doStep 12 = .ok (.iaload, 1) := by decide +kernel
theorem dX9_doStep_13 : decode cX9_doStep 13 = .ok (.istore_n 3, 1) := by decide +kernel
theorem dX9_doStep_14 : decode cX9_doStep 14 = .ok (.aload_n 1, 1) := by decide +kernel
theorem dX9_doStep_15 : decode cX9_doStep 15 = .ok (.getfield 101, 3) := by decide +kernel
theorem dX9_doStep_18 : decode cX9_doStep 18 = .ok (.iconst 2, 1) := by decide +kernel
theorem dX9_doStep_19 : decode cX9_doStep 19 = .ok (.iaload, 1) := by decide +kernel
theorem dX9_doStep_20 : decode cX9_doStep 20 = .ok (.istore 4, 2) := by decide +kernel
theorem dX9_doStep_22 : decode cX9_doStep 22 = .ok (.getstatic 107, 3) := by decide +kernel
theorem dX9_doStep_25 : decode cX9_doStep 25 = .ok (.aload_n 1, 1) := by decide +kernel
theorem dX9_doStep_26 : decode cX9_doStep 26 = .ok (.getfield 112, 3) := by decide +kernel
theorem dX9_doStep_29 : decode cX9_doStep 29 = .ok (.invokevirtual 116, 3) := by decide +kernel
theorem dX9_doStep_32 : decode cX9_doStep 32 = .ok (.iaload, 1) := by decide +kernel
theorem dX9_doStep_33 : decode cX9_doStep 33 = .ok (.tableswitch 143 1 9 #[51, 63, 73, 82, 92, 102, 114, 124, 133], 51) := by decide +kernel
theorem dX9_doStep_84 : decode cX9_doStep 84 = .ok (.aload_n 0, 1) := by decide +kernel
theorem dX9_doStep_85 : decode cX9_doStep 85 = .ok (.getfield 19, 3) := by decide +kernel
theorem dX9_doStep_88 : decode cX9_doStep 88 = .ok (.iload_n 2, 1) := by decide +kernel
theorem dX9_doStep_89 : decode cX9_doStep 89 = .ok (.iload_n 3, 1) := by decide +kernel
theorem dX9_doStep_90 : decode cX9_doStep 90 = .ok (.iload 4, 2) := by decide +kernel
theorem dX9_doStep_92 : decode cX9_doStep 92 = .ok (.invokevirtual 122, 3) := by decide +kernel
theorem dX9_doStep_95 : decode cX9_doStep 95 = .ok (.ireturn, 1) := by decide +kernel
theorem dX9_doStep_96 : decode cX9_doStep 96 = .ok (.aload_n 0, 1) := by decide +kernel
theorem dX9_doStep_97 : decode cX9_doStep 97 = .ok (.getfield 19, 3) := by decide +kernel
theorem dX9_doStep_100 : decode cX9_doStep 100 = .ok (.iload_n 2, 1) := by decide +kernel
theorem dX9_doStep_101 : decode cX9_doStep 101 = .ok (.iload_n 3, 1) := by decide +kernel
theorem dX9_doStep_102 : decode cX9_doStep 102 = .ok (.invokevirtual 126, 3) := by decide +kernel
theorem dX9_doStep_105 : decode cX9_doStep 105 = .ok (.ireturn, 1) := by decide +kernel
theorem dX9_doStep_106 : decode cX9_doStep 106 = .ok (.aload_n 0, 1) := by decide +kernel
theorem dX9_doStep_107 : decode cX9_doStep 107 = .ok (.getfield 19, 3) := by decide +kernel
theorem dX9_doStep_110 : decode cX9_doStep 110 = .ok (.iload_n 2, 1) := by decide +kernel
theorem dX9_doStep_111 : decode cX9_doStep 111 = .ok (.invokevirtual 130, 3) := by decide +kernel
theorem dX9_doStep_114 : decode cX9_doStep 114 = .ok (.ireturn, 1) := by decide +kernel
theorem dX9_doStep_115 : decode cX9_doStep 115 = .ok (.aload_n 0, 1) := by decide +kernel
theorem dX9_doStep_116 : decode cX9_doStep 116 = .ok (.getfield 19, 3) := by decide +kernel
theorem dX9_doStep_119 : decode cX9_doStep 119 = .ok (.iload_n 2, 1) := by decide +kernel
theorem dX9_doStep_120 : decode cX9_doStep 120 = .ok (.iload_n 3, 1) := by decide +kernel
theorem dX9_doStep_121 : decode cX9_doStep 121 = .ok (.invokevirtual 134, 3) := by decide +kernel
theorem dX9_doStep_124 : decode cX9_doStep 124 = .ok (.ireturn, 1) := by decide +kernel
theorem dX9_doStep_125 : decode cX9_doStep 125 = .ok (.aload_n 0, 1) := by decide +kernel
theorem dX9_doStep_126 : decode cX9_doStep 126 = .ok (.getfield 19, 3) := by decide +kernel
theorem dX9_doStep_129 : decode cX9_doStep 129 = .ok (.iload_n 2, 1) := by decide +kernel
theorem dX9_doStep_130 : decode cX9_doStep 130 = .ok (.iload_n 3, 1) := by decide +kernel
theorem dX9_doStep_131 : decode cX9_doStep 131 = .ok (.invokevirtual 137, 3) := by decide +kernel
theorem dX9_doStep_134 : decode cX9_doStep 134 = .ok (.ireturn, 1) := by decide +kernel
theorem dX9_doStep_135 : decode cX9_doStep 135 = .ok (.aload_n 0, 1) := by decide +kernel
theorem dX9_doStep_136 : decode cX9_doStep 136 = .ok (.getfield 19, 3) := by decide +kernel
theorem dX9_doStep_139 : decode cX9_doStep 139 = .ok (.iload_n 2, 1) := by decide +kernel
theorem dX9_doStep_140 : decode cX9_doStep 140 = .ok (.iload_n 3, 1) := by decide +kernel
theorem dX9_doStep_141 : decode cX9_doStep 141 = .ok (.iload 4, 2) := by decide +kernel
theorem dX9_doStep_143 : decode cX9_doStep 143 = .ok (.invokevirtual 140, 3) := by decide +kernel
theorem dX9_doStep_146 : decode cX9_doStep 146 = .ok (.ireturn, 1) := by decide +kernel
theorem dX9_doStep_147 : decode cX9_doStep 147 = .ok (.aload_n 0, 1) := by decide +kernel
theorem dX9_doStep_148 : decode cX9_doStep 148 = .ok (.getfield 19, 3) := by decide +kernel
theorem dX9_doStep_151 : decode cX9_doStep 151 = .ok (.iload_n 2, 1) := by decide +kernel
theorem dX9_doStep_152 : decode cX9_doStep 152 = .ok (.iload_n 3, 1) := by decide +kernel
theorem dX9_doStep_153 : decode cX9_doStep 153 = .ok (.invokevirtual 143, 3) := by decide +kernel
theorem dX9_doStep_156 : decode cX9_doStep 156 = .ok (.ireturn, 1) := by decide +kernel
theorem dX9_doStep_157 : decode cX9_doStep 157 = .ok (.aload_n 0, 1) := by decide +kernel
theorem dX9_doStep_158 : decode cX9_doStep 158 = .ok (.getfield 19, 3) := by decide +kernel
theorem dX9_doStep_161 : decode cX9_doStep 161 = .ok (.iload_n 2, 1) := by decide +kernel
theorem dX9_doStep_162 : decode cX9_doStep 162 = .ok (.invokevirtual 146, 3) := by decide +kernel
theorem dX9_doStep_165 : decode cX9_doStep 165 = .ok (.ireturn, 1) := by decide +kernel
theorem dX9_doStep_166 : decode cX9_doStep 166 = .ok (.aload_n 0, 1) := by decide +kernel
theorem dX9_doStep_167 : decode cX9_doStep 167 = .ok (.getfield 19, 3) := by decide +kernel
theorem dX9_doStep_170 : decode cX9_doStep 170 = .ok (.iload_n 2, 1) := by decide +kernel
theorem dX9_doStep_171 : decode cX9_doStep 171 = .ok (.iload_n 3, 1) := by decide +kernel
theorem dX9_doStep_172 : decode cX9_doStep 172 = .ok (.invokevirtual 149, 3) := by decide +kernel
theorem dX9_doStep_175 : decode cX9_doStep 175 = .ok (.ireturn, 1) := by decide +kernel
theorem dX9_doStep_176 : decode cX9_doStep 176 = .ok (.bipush (-2), 2) := by decide +kernel
theorem dX9_doStep_178 : decode cX9_doStep 178 = .ok (.ireturn, 1) := by decide +kernel
theorem dX9_errorCode_0 : decode cX9_errorCode 0 = .ok (.aload_n 0, 1) := by decide +kernel
theorem dX9_errorCode_1 : decode cX9_errorCode 1 = .ok (.getfield 10, 3) := by decide +kernel
theorem dX9_errorCode_4 : decode cX9_errorCode 4 = .ok (.getfield 152, 3) := by decide +kernel
theorem dX9_errorCode_7 : decode cX9_errorCode 7 = .ok (.ireturn, 1) := by decide +kernel
theorem dX9_errorPosition_0 : decode cX9_errorPosition 0 = .ok (.aload_n 0, 1) := by decide +kernel
theorem dX9_errorPosition_1 : decode cX9_errorPosition 1 = .ok (.getfield 10, 3) := by decide +kernel
theorem dX9_errorPosition_4 : decode cX9_errorPosition 4 = .ok (.getfield 155, 3) := by decide +kernel
theorem dX9_errorPosition_7 : decode cX9_errorPosition 7 = .ok (.ireturn, 1) := by decide +kernel
theorem dX9_refused_0 : decode cX9_refused 0 = .ok (.aload_n 0, 1) := by decide +kernel
theorem dX9_refused_1 : decode cX9_refused 1 = .ok (.getfield 73, 3) := by decide +kernel
theorem dX9_refused_4 : decode cX9_refused 4 = .ok (.ireturn, 1) := by decide +kernel
theorem dX9_write_0 : decode cX9_write 0 = .ok (.aload_n 0, 1) := by decide +kernel
theorem dX9_write_1 : decode cX9_write 1 = .ok (.getfield 19, 3) := by decide +kernel
theorem dX9_write_4 : decode cX9_write 4 = .ok (.iload_n 1, 1) := by decide +kernel
theorem dX9_write_5 : decode cX9_write 5 = .ok (.iload_n 2, 1) := by decide +kernel
theorem dX9_write_6 : decode cX9_write 6 = .ok (.iload_n 3, 1) := by decide +kernel
theorem dX9_write_7 : decode cX9_write 7 = .ok (.invokevirtual 122, 3) := by decide +kernel
theorem dX9_write_10 : decode cX9_write 10 = .ok (.invokestatic 158, 3) := by decide +kernel
theorem dX9_write_13 : decode cX9_write 13 = .ok (.ireturn, 1) := by decide +kernel
theorem dX9_read_0 : decode cX9_read 0 = .ok (.aload_n 0, 1) := by decide +kernel
theorem dX9_read_1 : decode cX9_read 1 = .ok (.getfield 19, 3) := by decide +kernel
theorem dX9_read_4 : decode cX9_read 4 = .ok (.iload_n 1, 1) := by decide +kernel
theorem dX9_read_5 : decode cX9_read 5 = .ok (.iload_n 2, 1) := by decide +kernel
theorem dX9_read_6 : decode cX9_read 6 = .ok (.invokevirtual 126, 3) := by decide +kernel
theorem dX9_read_9 : decode cX9_read 9 = .ok (.invokestatic 158, 3) := by decide +kernel
theorem dX9_read_12 : decode cX9_read 12 = .ok (.ireturn, 1) := by decide +kernel
theorem dX9_exchange_0 : decode cX9_exchange 0 = .ok (.aload_n 0, 1) := by decide +kernel
theorem dX9_exchange_1 : decode cX9_exchange 1 = .ok (.getfield 19, 3) := by decide +kernel
theorem dX9_exchange_4 : decode cX9_exchange 4 = .ok (.iload_n 1, 1) := by decide +kernel
theorem dX9_exchange_5 : decode cX9_exchange 5 = .ok (.iload_n 2, 1) := by decide +kernel
theorem dX9_exchange_6 : decode cX9_exchange 6 = .ok (.invokevirtual 143, 3) := by decide +kernel
theorem dX9_exchange_9 : decode cX9_exchange 9 = .ok (.invokestatic 158, 3) := by decide +kernel
theorem dX9_exchange_12 : decode cX9_exchange 12 = .ok (.ireturn, 1) := by decide +kernel
theorem dX9_post_0 : decode cX9_post 0 = .ok (.aload_n 0, 1) := by decide +kernel
theorem dX9_post_1 : decode cX9_post 1 = .ok (.getfield 19, 3) := by decide +kernel
theorem dX9_post_4 : decode cX9_post 4 = .ok (.iload_n 1, 1) := by decide +kernel
theorem dX9_post_5 : decode cX9_post 5 = .ok (.invokevirtual 146, 3) := by decide +kernel
theorem dX9_post_8 : decode cX9_post 8 = .ok (.invokestatic 158, 3) := by decide +kernel
theorem dX9_post_11 : decode cX9_post 11 = .ok (.ireturn, 1) := by decide +kernel
theorem dX9_calm_0 : decode cX9_calm 0 = .ok (.aload_n 0, 1) := by decide +kernel
theorem dX9_calm_1 : decode cX9_calm 1 = .ok (.iload_n 1, 1) := by decide +kernel
theorem dX9_calm_2 : decode cX9_calm 2 = .ok (.invokevirtual 161, 3) := by decide +kernel
theorem dX9_calm_5 : decode cX9_calm 5 = .ok (.aload_n 0, 1) := by decide +kernel
theorem dX9_calm_6 : decode cX9_calm 6 = .ok (.getfield 19, 3) := by decide +kernel
theorem dX9_calm_9 : decode cX9_calm 9 = .ok (.getfield 164, 3) := by decide +kernel
theorem dX9_calm_12 : decode cX9_calm 12 = .ok (.iload_n 1, 1) := by decide +kernel
theorem dX9_calm_13 : decode cX9_calm 13 = .ok (.aaload, 1) := by decide +kernel
theorem dX9_calm_14 : decode cX9_calm 14 = .ok (.getfield 168, 3) := by decide +kernel
theorem dX9_calm_17 : decode cX9_calm 17 = .ok (.istore_n 2, 1) := by decide +kernel
theorem dX9_calm_18 : decode cX9_calm 18 = .ok (.aload_n 0, 1) := by decide +kernel
theorem dX9_calm_19 : decode cX9_calm 19 = .ok (.getfield 19, 3) := by decide +kernel
theorem dX9_calm_22 : decode cX9_calm 22 = .ok (.getfield 164, 3) := by decide +kernel
theorem dX9_calm_25 : decode cX9_calm 25 = .ok (.iload_n 1, 1) := by decide +kernel
theorem dX9_calm_26 : decode cX9_calm 26 = .ok (.aaload, 1) := by decide +kernel
theorem dX9_calm_27 : decode cX9_calm 27 = .ok (.iconst 0, 1) := by decide +kernel
theorem dX9_calm_28 : decode cX9_calm 28 = .ok (.putfield 168, 3) := by decide +kernel
theorem dX9_calm_31 : decode cX9_calm 31 = .ok (.iload_n 2, 1) := by decide +kernel
theorem dX9_calm_32 : decode cX9_calm 32 = .ok (.ireturn, 1) := by decide +kernel
theorem dX9_adopt_0 : decode cX9_adopt 0 = .ok (.aload_n 0, 1) := by decide +kernel
theorem dX9_adopt_1 : decode cX9_adopt 1 = .ok (.iload_n 1, 1) := by decide +kernel
theorem dX9_adopt_2 : decode cX9_adopt 2 = .ok (.invokevirtual 161, 3) := by decide +kernel
theorem dX9_adopt_5 : decode cX9_adopt 5 = .ok (.aload_n 0, 1) := by decide +kernel
theorem dX9_adopt_6 : decode cX9_adopt 6 = .ok (.getfield 19, 3) := by decide +kernel
theorem dX9_adopt_9 : decode cX9_adopt 9 = .ok (.getfield 164, 3) := by decide +kernel
theorem dX9_adopt_12 : decode cX9_adopt 12 = .ok (.iload_n 1, 1) := by decide +kernel
theorem dX9_adopt_13 : decode cX9_adopt 13 = .ok (.aaload, 1) := by decide +kernel
theorem dX9_adopt_14 : decode cX9_adopt 14 = .ok (.astore_n 2, 1) := by decide +kernel
theorem dX9_adopt_15 : decode cX9_adopt 15 = .ok (.aload_n 2, 1) := by decide +kernel
theorem dX9_adopt_16 : decode cX9_adopt 16 = .ok (.aload_n 0, 1) := by decide +kernel
theorem dX9_adopt_17 : decode cX9_adopt 17 = .ok (.getfield 19, 3) := by decide +kernel
theorem dX9_adopt_20 : decode cX9_adopt 20 = .ok (.getfield 174, 3) := by decide +kernel
theorem dX9_adopt_23 : decode cX9_adopt 23 = .ok (.aload_n 2, 1) := by decide +kernel
theorem dX9_adopt_24 : decode cX9_adopt 24 = .ok (.getfield 178, 3) := by decide +kernel
theorem dX9_adopt_27 : decode cX9_adopt 27 = .ok (.aaload, 1) := by decide +kernel
theorem dX9_adopt_28 : decode cX9_adopt 28 = .ok (.invokevirtual 181, 3) := by decide +kernel
theorem dX9_adopt_31 : decode cX9_adopt 31 = .ok (.aload_n 2, 1) := by decide +kernel
theorem dX9_adopt_32 : decode cX9_adopt 32 = .ok (.iconst 0, 1) := by decide +kernel
theorem dX9_adopt_33 : decode cX9_adopt 33 = .ok (.putfield 168, 3) := by decide +kernel
theorem dX9_adopt_36 : decode cX9_adopt 36 = .ok (.aload_n 2, 1) := by decide +kernel
theorem dX9_adopt_37 : decode cX9_adopt 37 = .ok (.getfield 185, 3) := by decide +kernel
theorem dX9_adopt_40 : decode cX9_adopt 40 = .ok (.ireturn, 1) := by decide +kernel
theorem dX9_fork_0 : decode cX9_fork 0 = .ok (.aload_n 0, 1) := by decide +kernel
theorem dX9_fork_1 : decode cX9_fork 1 = .ok (.getfield 19, 3) := by decide +kernel
theorem dX9_fork_4 : decode cX9_fork 4 = .ok (.iload_n 1, 1) := by decide +kernel
theorem dX9_fork_5 : decode cX9_fork 5 = .ok (.invokevirtual 130, 3) := by decide +kernel
theorem dX9_fork_8 : decode cX9_fork 8 = .ok (.invokestatic 158, 3) := by decide +kernel
theorem dX9_fork_11 : decode cX9_fork 11 = .ok (.ireturn, 1) := by decide +kernel
theorem dX9_move_0 : decode cX9_move 0 = .ok (.aload_n 0, 1) := by decide +kernel
theorem dX9_move_1 : decode cX9_move 1 = .ok (.getfield 19, 3) := by decide +kernel
theorem dX9_move_4 : decode cX9_move 4 = .ok (.iload_n 1, 1) := by decide +kernel
theorem dX9_move_5 : decode cX9_move 5 = .ok (.iload_n 2, 1) := by decide +kernel
theorem dX9_move_6 : decode cX9_move 6 = .ok (.invokevirtual 134, 3) := by decide +kernel
theorem dX9_move_9 : decode cX9_move 9 = .ok (.invokestatic 158, 3) := by decide +kernel
theorem dX9_move_12 : decode cX9_move 12 = .ok (.ireturn, 1) := by decide +kernel
theorem dX9_rewind_0 : decode cX9_rewind 0 = .ok (.aload_n 0, 1) := by decide +kernel
theorem dX9_rewind_1 : decode cX9_rewind 1 = .ok (.getfield 19, 3) := by decide +kernel
theorem dX9_rewind_4 : decode cX9_rewind 4 = .ok (.iload_n 1, 1) := by decide +kernel
theorem dX9_rewind_5 : decode cX9_rewind 5 = .ok (.iload_n 2, 1) := by decide +kernel
theorem dX9_rewind_6 : decode cX9_rewind 6 = .ok (.invokevirtual 137, 3) := by decide +kernel
theorem dX9_rewind_9 : decode cX9_rewind 9 = .ok (.invokestatic 158, 3) := by decide +kernel
theorem dX9_rewind_12 : decode cX9_rewind 12 = .ok (.ireturn, 1) := by decide +kernel
theorem dX9_corrupt_0 : decode cX9_corrupt 0 = .ok (.aload_n 0, 1) := by decide +kernel
theorem dX9_corrupt_1 : decode cX9_corrupt 1 = .ok (.getfield 19, 3) := by decide +kernel
theorem dX9_corrupt_4 : decode cX9_corrupt 4 = .ok (.iload_n 1, 1) := by decide +kernel
theorem dX9_corrupt_5 : decode cX9_corrupt 5 = .ok (.iload_n 2, 1) := by decide +kernel
theorem dX9_corrupt_6 : decode cX9_corrupt 6 = .ok (.iload_n 3, 1) := by decide +kernel
theorem dX9_corrupt_7 : decode cX9_corrupt 7 = .ok (.invokevirtual 140, 3) := by decide +kernel
theorem dX9_corrupt_10 : decode cX9_corrupt 10 = .ok (.invokestatic 158, 3) := by decide +kernel
theorem dX9_corrupt_13 : decode cX9_corrupt 13 = .ok (.ireturn, 1) := by decide +kernel
theorem dX9_heal_0 : decode cX9_heal 0 = .ok (.aload_n 0, 1) := by decide +kernel
theorem dX9_heal_1 : decode cX9_heal 1 = .ok (.getfield 19, 3) := by decide +kernel
theorem dX9_heal_4 : decode cX9_heal 4 = .ok (.iload_n 1, 1) := by decide +kernel
theorem dX9_heal_5 : decode cX9_heal 5 = .ok (.iload_n 2, 1) := by decide +kernel
theorem dX9_heal_6 : decode cX9_heal 6 = .ok (.invokevirtual 149, 3) := by decide +kernel
theorem dX9_heal_9 : decode cX9_heal 9 = .ok (.invokestatic 158, 3) := by decide +kernel
theorem dX9_heal_12 : decode cX9_heal 12 = .ok (.ireturn, 1) := by decide +kernel
theorem dX9_clients_0 : decode cX9_clients 0 = .ok (.aload_n 0, 1) := by decide +kernel
theorem dX9_clients_1 : decode cX9_clients 1 = .ok (.getfield 19, 3) := by decide +kernel
theorem dX9_clients_4 : decode cX9_clients 4 = .ok (.getfield 76, 3) := by decide +kernel
theorem dX9_clients_7 : decode cX9_clients 7 = .ok (.ireturn, 1) := by decide +kernel
theorem dX9_blocks_0 : decode cX9_blocks 0 = .ok (.aload_n 0, 1) := by decide +kernel
theorem dX9_blocks_1 : decode cX9_blocks 1 = .ok (.getfield 19, 3) := by decide +kernel
theorem dX9_blocks_4 : decode cX9_blocks 4 = .ok (.getfield 79, 3) := by decide +kernel
theorem dX9_blocks_7 : decode cX9_blocks 7 = .ok (.ireturn, 1) := by decide +kernel
theorem dX9_branches_0 : decode cX9_branches 0 = .ok (.aload_n 0, 1) := by decide +kernel
theorem dX9_branches_1 : decode cX9_branches 1 = .ok (.getfield 19, 3) := by decide +kernel
theorem dX9_branches_4 : decode cX9_branches 4 = .ok (.getfield 188, 3) := by decide +kernel
theorem dX9_branches_7 : decode cX9_branches 7 = .ok (.ireturn, 1) := by decide +kernel
theorem dX9_length_0 : decode cX9_length 0 = .ok (.aload_n 0, 1) := by decide +kernel
theorem dX9_length_1 : decode cX9_length 1 = .ok (.iload_n 1, 1) := by decide +kernel
theorem dX9_length_2 : decode cX9_length 2 = .ok (.invokevirtual 191, 3) := by decide +kernel
theorem dX9_length_5 : decode cX9_length 5 = .ok (.aload_n 0, 1) := by decide +kernel
theorem dX9_length_6 : decode cX9_length 6 = .ok (.getfield 19, 3) := by decide +kernel
theorem dX9_length_9 : decode cX9_length 9 = .ok (.getfield 174, 3) := by decide +kernel
theorem dX9_length_12 : decode cX9_length 12 = .ok (.iload_n 1, 1) := by decide +kernel
theorem dX9_length_13 : decode cX9_length 13 = .ok (.aaload, 1) := by decide +kernel
theorem dX9_length_14 : decode cX9_length 14 = .ok (.getfield 194, 3) := by decide +kernel
theorem dX9_length_17 : decode cX9_length 17 = .ok (.ireturn, 1) := by decide +kernel
theorem dX9_entry_0 : decode cX9_entry 0 = .ok (.aload_n 0, 1) := by decide +kernel
theorem dX9_entry_1 : decode cX9_entry 1 = .ok (.iload_n 1, 1) := by decide +kernel
theorem dX9_entry_2 : decode cX9_entry 2 = .ok (.invokevirtual 191, 3) := by decide +kernel
theorem dX9_entry_5 : decode cX9_entry 5 = .ok (.aload_n 0, 1) := by decide +kernel
theorem dX9_entry_6 : decode cX9_entry 6 = .ok (.getfield 19, 3) := by decide +kernel
theorem dX9_entry_9 : decode cX9_entry 9 = .ok (.getfield 174, 3) := by decide +kernel
theorem dX9_entry_12 : decode cX9_entry 12 = .ok (.iload_n 1, 1) := by decide +kernel
theorem dX9_entry_13 : decode cX9_entry 13 = .ok (.aaload, 1) := by decide +kernel
theorem dX9_entry_14 : decode cX9_entry 14 = .ok (.iload_n 2, 1) := by decide +kernel
theorem dX9_entry_15 : decode cX9_entry 15 = .ok (.invokevirtual 199, 3) := by decide +kernel
theorem dX9_entry_18 : decode cX9_entry 18 = .ok (.ifCond .ne 13, 3) := by decide +kernel
theorem dX9_entry_21 : decode cX9_entry 21 = .ok (.new 203, 3) := by decide +kernel
theorem dX9_entry_24 : decode cX9_entry 24 = .ok (.dup, 1) := by decide +kernel
theorem dX9_entry_25 : decode cX9_entry 25 = .ok (.ldc 205, 2) := by decide +kernel
theorem dX9_entry_27 : decode cX9_entry 27 = .ok (.invokespecial 207, 3) := by decide +kernel
theorem dX9_entry_30 : decode cX9_entry 30 = .ok (.athrow, 1) := by decide +kernel
theorem dX9_entry_31 : decode cX9_entry 31 = .ok (.iload_n 3, 1) := by decide +kernel
theorem dX9_entry_32 : decode cX9_entry 32 = .ok (.bipush 7, 2) := by decide +kernel
theorem dX9_entry_34 : decode cX9_entry 34 = .ok (.invokestatic 208, 3) := by decide +kernel
theorem dX9_entry_37 : decode cX9_entry 37 = .ok (.aload_n 0, 1) := by decide +kernel
theorem dX9_entry_38 : decode cX9_entry 38 = .ok (.getfield 19, 3) := by decide +kernel
theorem dX9_entry_41 : decode cX9_entry 41 = .ok (.getfield 174, 3) := by decide +kernel
theorem dX9_entry_44 : decode cX9_entry 44 = .ok (.iload_n 1, 1) := by decide +kernel
theorem dX9_entry_45 : decode cX9_entry 45 = .ok (.aaload, 1) := by decide +kernel
theorem dX9_entry_46 : decode cX9_entry 46 = .ok (.iload_n 2, 1) := by decide +kernel
theorem dX9_entry_47 : decode cX9_entry 47 = .ok (.iload_n 3, 1) := by decide +kernel
theorem dX9_entry_48 : decode cX9_entry 48 = .ok (.invokevirtual 212, 3) := by decide +kernel
theorem dX9_entry_51 : decode cX9_entry 51 = .ok (.ireturn, 1) := by decide +kernel
theorem dX9_value_0 : decode cX9_value 0 = .ok (.aload_n 0, 1) := by decide +kernel
theorem dX9_value_1 : decode cX9_value 1 = .ok (.iload_n 1, 1) := by decide +kernel
theorem dX9_value_2 : decode cX9_value 2 = .ok (.invokevirtual 191, 3) := by decide +kernel
theorem dX9_value_5 : decode cX9_value 5 = .ok (.aload_n 0, 1) := by decide +kernel
theorem dX9_value_6 : decode cX9_value 6 = .ok (.getfield 19, 3) := by decide +kernel
theorem dX9_value_9 : decode cX9_value 9 = .ok (.iload_n 2, 1) := by decide +kernel
theorem dX9_value_10 : decode cX9_value 10 = .ok (.invokevirtual 215, 3) := by decide +kernel
theorem dX9_value_13 : decode cX9_value 13 = .ok (.ifCond .ne 13, 3) := by decide +kernel
theorem dX9_value_16 : decode cX9_value 16 = .ok (.new 203, 3) := by decide +kernel
theorem dX9_value_19 : decode cX9_value 19 = .ok (.dup, 1) := by decide +kernel
theorem dX9_value_20 : decode cX9_value 20 = .ok (.ldc 218, 2) := by decide +kernel
theorem dX9_value_22 : decode cX9_value 22 = .ok (.invokespecial 207, 3) := by decide +kernel
theorem dX9_value_25 : decode cX9_value 25 = .ok (.athrow, 1) := by decide +kernel
theorem dX9_value_26 : decode cX9_value 26 = .ok (.aload_n 0, 1) := by decide +kernel
theorem dX9_value_27 : decode cX9_value 27 = .ok (.getfield 19, 3) := by decide +kernel
theorem dX9_value_30 : decode cX9_value 30 = .ok (.getfield 174, 3) := by decide +kernel
theorem dX9_value_33 : decode cX9_value 33 = .ok (.iload_n 1, 1) := by decide +kernel
theorem dX9_value_34 : decode cX9_value 34 = .ok (.aaload, 1) := by decide +kernel
theorem dX9_value_35 : decode cX9_value 35 = .ok (.iload_n 2, 1) := by decide +kernel
theorem dX9_value_36 : decode cX9_value 36 = .ok (.invokevirtual 220, 3) := by decide +kernel
theorem dX9_value_39 : decode cX9_value 39 = .ok (.ireturn, 1) := by decide +kernel
theorem dX9_branchOf_0 : decode cX9_branchOf 0 = .ok (.aload_n 0, 1) := by decide +kernel
theorem dX9_branchOf_1 : decode cX9_branchOf 1 = .ok (.iload_n 1, 1) := by decide +kernel
theorem dX9_branchOf_2 : decode cX9_branchOf 2 = .ok (.invokevirtual 161, 3) := by decide +kernel
theorem dX9_branchOf_5 : decode cX9_branchOf 5 = .ok (.aload_n 0, 1) := by decide +kernel
theorem dX9_branchOf_6 : decode cX9_branchOf 6 = .ok (.getfield 19, 3) := by decide +kernel
theorem dX9_branchOf_9 : decode cX9_branchOf 9 = .ok (.getfield 164, 3) := by decide +kernel
theorem dX9_branchOf_12 : decode cX9_branchOf 12 = .ok (.iload_n 1, 1) := by decide +kernel
theorem dX9_branchOf_13 : decode cX9_branchOf 13 = .ok (.aaload, 1) := by decide +kernel
theorem dX9_branchOf_14 : decode cX9_branchOf 14 = .ok (.getfield 178, 3) := by decide +kernel
theorem dX9_branchOf_17 : decode cX9_branchOf 17 = .ok (.ireturn, 1) := by decide +kernel
theorem dX9_commonLength_0 : decode cX9_commonLength 0 = .ok (.aload_n 0, 1) := by decide +kernel
theorem dX9_commonLength_1 : decode cX9_commonLength 1 = .ok (.iload_n 1, 1) := by decide +kernel
theorem dX9_commonLength_2 : decode cX9_commonLength 2 = .ok (.invokevirtual 191, 3) := by decide +kernel
theorem dX9_commonLength_5 : decode cX9_commonLength 5 = .ok (.aload_n 0, 1) := by decide +kernel
theorem dX9_commonLength_6 : decode cX9_commonLength 6 = .ok (.iload_n 2, 1) := by decide +kernel
theorem dX9_commonLength_7 : decode cX9_commonLength 7 = .ok (.invokevirtual 191, 3) := by decide +kernel
theorem dX9_commonLength_10 : decode cX9_commonLength 10 = .ok (.aload_n 0, 1) := by decide +kernel
theorem dX9_commonLength_11 : decode cX9_commonLength 11 = .ok (.getfield 19, 3) := by decide +kernel
theorem dX9_commonLength_14 : decode cX9_commonLength 14 = .ok (.getfield 174, 3) := by decide +kernel
theorem dX9_commonLength_17 : decode cX9_commonLength 17 = .ok (.iload_n 1, 1) := by decide +kernel
theorem dX9_commonLength_18 : decode cX9_commonLength 18 = .ok (.aaload, 1) := by decide +kernel
theorem dX9_commonLength_19 : decode cX9_commonLength 19 = .ok (.aload_n 0, 1) := by decide +kernel
theorem dX9_commonLength_20 : decode cX9_commonLength 20 = .ok (.getfield 19, 3) := by decide +kernel
theorem dX9_commonLength_23 : decode cX9_commonLength 23 = .ok (.getfield 174, 3) := by decide +kernel
theorem dX9_commonLength_26 : decode cX9_commonLength 26 = .ok (.iload_n 2, 1) := by decide +kernel
theorem dX9_commonLength_27 : decode cX9_commonLength 27 = .ok (.aaload, 1) := by decide +kernel
theorem dX9_commonLength_28 : decode cX9_commonLength 28 = .ok (.invokevirtual 223, 3) := by decide +kernel
theorem dX9_commonLength_31 : decode cX9_commonLength 31 = .ok (.ireturn, 1) := by decide +kernel
theorem dX9_conflicts_0 : decode cX9_conflicts 0 = .ok (.aload_n 0, 1) := by decide +kernel
theorem dX9_conflicts_1 : decode cX9_conflicts 1 = .ok (.iload_n 1, 1) := by decide +kernel
theorem dX9_conflicts_2 : decode cX9_conflicts 2 = .ok (.invokevirtual 191, 3) := by decide +kernel
theorem dX9_conflicts_5 : decode cX9_conflicts 5 = .ok (.aload_n 0, 1) := by decide +kernel
theorem dX9_conflicts_6 : decode cX9_conflicts 6 = .ok (.iload_n 2, 1) := by decide +kernel
theorem dX9_conflicts_7 : decode cX9_conflicts 7 = .ok (.invokevirtual 191, 3) := by decide +kernel
theorem dX9_conflicts_10 : decode cX9_conflicts 10 = .ok (.aload_n 0, 1) := by decide +kernel
theorem dX9_conflicts_11 : decode cX9_conflicts 11 = .ok (.getfield 19, 3) := by decide +kernel
theorem dX9_conflicts_14 : decode cX9_conflicts 14 = .ok (.getfield 174, 3) := by decide +kernel
theorem dX9_conflicts_17 : decode cX9_conflicts 17 = .ok (.iload_n 1, 1) := by decide +kernel
theorem dX9_conflicts_18 : decode cX9_conflicts 18 = .ok (.aaload, 1) := by decide +kernel
theorem dX9_conflicts_19 : decode cX9_conflicts 19 = .ok (.aload_n 0, 1) := by decide +kernel
theorem dX9_conflicts_20 : decode cX9_conflicts 20 = .ok (.getfield 19, 3) := by decide +kernel
theorem dX9_conflicts_23 : decode cX9_conflicts 23 = .ok (.getfield 174, 3) := by decide +kernel
theorem dX9_conflicts_26 : decode cX9_conflicts 26 = .ok (.iload_n 2, 1) := by decide +kernel
theorem dX9_conflicts_27 : decode cX9_conflicts 27 = .ok (.aaload, 1) := by decide +kernel
theorem dX9_conflicts_28 : decode cX9_conflicts 28 = .ok (.invokevirtual 227, 3) := by decide +kernel
theorem dX9_conflicts_31 : decode cX9_conflicts 31 = .ok (.ireturn, 1) := by decide +kernel
theorem dX9_receipt_0 : decode cX9_receipt 0 = .ok (.aload_n 0, 1) := by decide +kernel
theorem dX9_receipt_1 : decode cX9_receipt 1 = .ok (.iload_n 1, 1) := by decide +kernel
theorem dX9_receipt_2 : decode cX9_receipt 2 = .ok (.invokevirtual 161, 3) := by decide +kernel
theorem dX9_receipt_5 : decode cX9_receipt 5 = .ok (.iload_n 2, 1) := by decide +kernel
theorem dX9_receipt_6 : decode cX9_receipt 6 = .ok (.iconst 3, 1) := by decide +kernel
theorem dX9_receipt_7 : decode cX9_receipt 7 = .ok (.invokestatic 208, 3) := by decide +kernel
theorem dX9_receipt_10 : decode cX9_receipt 10 = .ok (.aload_n 0, 1) := by decide +kernel
theorem dX9_receipt_11 : decode cX9_receipt 11 = .ok (.getfield 19, 3) := by decide +kernel
theorem dX9_receipt_14 : decode cX9_receipt 14 = .ok (.getfield 164, 3) := by decide +kernel
theorem dX9_receipt_17 : decode cX9_receipt 17 = .ok (.iload_n 1, 1) := by decide +kernel
theorem dX9_receipt_18 : decode cX9_receipt 18 = .ok (.aaload, 1) := by decide +kernel
theorem dX9_receipt_19 : decode cX9_receipt 19 = .ok (.astore_n 3, 1) := by decide +kernel
theorem dX9_receipt_20 : decode cX9_receipt 20 = .ok (.iload_n 2, 1) := by decide +kernel
theorem dX9_receipt_21 : decode cX9_receipt 21 = .ok (.ifCond .ne 8, 3) := by decide +kernel
theorem dX9_receipt_24 : decode cX9_receipt 24 = .ok (.aload_n 3, 1) := by decide +kernel
theorem dX9_receipt_25 : decode cX9_receipt 25 = .ok (.getfield 185, 3) := by decide +kernel
theorem dX9_receipt_28 : decode cX9_receipt 28 = .ok (.ireturn, 1) := by decide +kernel
theorem dX9_receipt_29 : decode cX9_receipt 29 = .ok (.iload_n 2, 1) := by decide +kernel
theorem dX9_receipt_30 : decode cX9_receipt 30 = .ok (.iconst 1, 1) := by decide +kernel
theorem dX9_receipt_31 : decode cX9_receipt 31 = .ok (.if_icmp .ne 10, 3) := by decide +kernel
theorem dX9_receipt_34 : decode cX9_receipt 34 = .ok (.aload_n 3, 1) := by decide +kernel
theorem dX9_receipt_35 : decode cX9_receipt 35 = .ok (.invokevirtual 230, 3) := by decide +kernel
theorem dX9_receipt_38 : decode cX9_receipt 38 = .ok (.goto 15, 3) := by decide +kernel
theorem dX9_receipt_41 : decode cX9_receipt 41 = .ok (.iload_n 1, 1) := by decide +kernel
theorem dX9_receipt_42 : decode cX9_receipt 42 = .ok (.aload_n 3, 1) := by decide +kernel
theorem dX9_receipt_43 : decode cX9_receipt 43 = .ok (.getfield 185, 3) := by decide +kernel
theorem dX9_receipt_46 : decode cX9_receipt 46 = .ok (.aload_n 3, 1) := by decide +kernel
theorem dX9_receipt_47 : decode cX9_receipt 47 = .ok (.invokevirtual 230, 3) := by decide +kernel
theorem dX9_receipt_50 : decode cX9_receipt 50 = .ok (.invokestatic 233, 3) := by decide +kernel
theorem dX9_receipt_53 : decode cX9_receipt 53 = .ok (.ireturn, 1) := by decide +kernel
theorem dX9_isSigned_0 : decode cX9_isSigned 0 = .ok (.aload_n 0, 1) := by decide +kernel
theorem dX9_isSigned_1 : decode cX9_isSigned 1 = .ok (.getfield 19, 3) := by decide +kernel
theorem dX9_isSigned_4 : decode cX9_isSigned 4 = .ok (.iload_n 1, 1) := by decide +kernel
theorem dX9_isSigned_5 : decode cX9_isSigned 5 = .ok (.invokevirtual 236, 3) := by decide +kernel
theorem dX9_isSigned_8 : decode cX9_isSigned 8 = .ok (.ifCond .eq 31, 3) := by decide +kernel
theorem dX9_isSigned_11 : decode cX9_isSigned 11 = .ok (.iload_n 2, 1) := by decide +kernel
theorem dX9_isSigned_12 : decode cX9_isSigned 12 = .ok (.ifCond .lt 27, 3) := by decide +kernel
theorem dX9_isSigned_15 : decode cX9_isSigned 15 = .ok (.iload_n 2, 1) := by decide +kernel
theorem dX9_isSigned_16 : decode cX9_isSigned 16 = .ok (.sipush 200, 3) := by decide +kernel
theorem dX9_isSigned_19 : decode cX9_isSigned 19 = .ok (.if_icmp .gt 20, 3) := by decide +kernel
theorem dX9_isSigned_22 : decode cX9_isSigned 22 = .ok (.iload_n 3, 1) := by decide +kernel
theorem dX9_isSigned_23 : decode cX9_isSigned 23 = .ok (.ifCond .lt 16, 3) := by decide +kernel
theorem dX9_isSigned_26 : decode cX9_isSigned 26 = .ok (.iload_n 3, 1) := by decide +kernel
theorem dX9_isSigned_27 : decode cX9_isSigned 27 = .ok (.i2l, 1) := by decide +kernel
theorem dX9_isSigned_28 : decode cX9_isSigned 28 = .ok (.ldc2_w 239, 3) := by decide +kernel
theorem dX9_isSigned_31 : decode cX9_isSigned 31 = .ok (.lcmp, 1) := by decide +kernel
theorem dX9_isSigned_32 : decode cX9_isSigned 32 = .ok (.ifCond .ge 7, 3) := by decide +kernel
theorem dX9_isSigned_35 : decode cX9_isSigned 35 = .ok (.iconst 1, 1) := by decide +kernel
theorem dX9_isSigned_36 : decode cX9_isSigned 36 = .ok (.goto 4, 3) := by decide +kernel
theorem dX9_isSigned_39 : decode cX9_isSigned 39 = .ok (.iconst 0, 1) := by decide +kernel
theorem dX9_isSigned_40 : decode cX9_isSigned 40 = .ok (.istore 5, 2) := by decide +kernel
theorem dX9_isSigned_42 : decode cX9_isSigned 42 = .ok (.iload 5, 2) := by decide +kernel
theorem dX9_isSigned_44 : decode cX9_isSigned 44 = .ok (.ifCond .eq 18, 3) := by decide +kernel
theorem dX9_isSigned_47 : decode cX9_isSigned 47 = .ok (.iload 4, 2) := by decide +kernel
theorem dX9_isSigned_49 : decode cX9_isSigned 49 = .ok (.iload_n 1, 1) := by decide +kernel
theorem dX9_isSigned_50 : decode cX9_isSigned 50 = .ok (.iload_n 2, 1) := by decide +kernel
theorem dX9_isSigned_51 : decode cX9_isSigned 51 = .ok (.iload_n 3, 1) := by decide +kernel
theorem dX9_isSigned_52 : decode cX9_isSigned 52 = .ok (.invokestatic 233, 3) := by decide +kernel
theorem dX9_isSigned_55 : decode cX9_isSigned 55 = .ok (.if_icmp .ne 7, 3) := by decide +kernel
theorem dX9_isSigned_58 : decode cX9_isSigned 58 = .ok (.iconst 1, 1) := by decide +kernel
theorem dX9_isSigned_59 : decode cX9_isSigned 59 = .ok (.goto 4, 3) := by decide +kernel
theorem dX9_isSigned_62 : decode cX9_isSigned 62 = .ok (.iconst 0, 1) := by decide +kernel
theorem dX9_isSigned_63 : decode cX9_isSigned 63 = .ok (.ireturn, 1) := by decide +kernel
theorem dX9_hashAt_0 : decode cX9_hashAt 0 = .ok (.aload_n 0, 1) := by decide +kernel
theorem dX9_hashAt_1 : decode cX9_hashAt 1 = .ok (.iload_n 1, 1) := by decide +kernel
theorem dX9_hashAt_2 : decode cX9_hashAt 2 = .ok (.invokevirtual 161, 3) := by decide +kernel
theorem dX9_hashAt_5 : decode cX9_hashAt 5 = .ok (.iload_n 2, 1) := by decide +kernel
theorem dX9_hashAt_6 : decode cX9_hashAt 6 = .ok (.ifCond .lt 19, 3) := by decide +kernel
theorem dX9_hashAt_9 : decode cX9_hashAt 9 = .ok (.iload_n 2, 1) := by decide +kernel
theorem dX9_hashAt_10 : decode cX9_hashAt 10 = .ok (.aload_n 0, 1) := by decide +kernel
theorem dX9_hashAt_11 : decode cX9_hashAt 11 = .ok (.getfield 19, 3) := by decide +kernel
theorem dX9_hashAt_14 : decode cX9_hashAt 14 = .ok (.getfield 164, 3) := by decide +kernel
theorem dX9_hashAt_17 : decode cX9_hashAt 17 = .ok (.iload_n 1, 1) := by decide +kernel
theorem dX9_hashAt_18 : decode cX9_hashAt 18 = .ok (.aaload, 1) := by decide +kernel
theorem dX9_hashAt_19 : decode cX9_hashAt 19 = .ok (.getfield 185, 3) := by decide +kernel
theorem dX9_hashAt_22 : decode cX9_hashAt 22 = .ok (.if_icmp .le 13, 3) := by decide +kernel
theorem dX9_hashAt_25 : decode cX9_hashAt 25 = .ok (.new 203, 3) := by decide +kernel
theorem dX9_hashAt_28 : decode cX9_hashAt 28 = .ok (.dup, 1) := by decide +kernel
theorem dX9_hashAt_29 : decode cX9_hashAt 29 = .ok (.ldc 241, 2) := by decide +kernel
theorem dX9_hashAt_31 : decode cX9_hashAt 31 = .ok (.invokespecial 207, 3) := by decide +kernel
theorem dX9_hashAt_34 : decode cX9_hashAt 34 = .ok (.athrow, 1) := by decide +kernel
theorem dX9_hashAt_35 : decode cX9_hashAt 35 = .ok (.aload_n 0, 1) := by decide +kernel
theorem dX9_hashAt_36 : decode cX9_hashAt 36 = .ok (.getfield 19, 3) := by decide +kernel
theorem dX9_hashAt_39 : decode cX9_hashAt 39 = .ok (.getfield 164, 3) := by decide +kernel
theorem dX9_hashAt_42 : decode cX9_hashAt 42 = .ok (.iload_n 1, 1) := by decide +kernel
theorem dX9_hashAt_43 : decode cX9_hashAt 43 = .ok (.aaload, 1) := by decide +kernel
theorem dX9_hashAt_44 : decode cX9_hashAt 44 = .ok (.getfield 243, 3) := by decide +kernel
theorem dX9_hashAt_47 : decode cX9_hashAt 47 = .ok (.iload_n 2, 1) := by decide +kernel
theorem dX9_hashAt_48 : decode cX9_hashAt 48 = .ok (.iaload, 1) := by decide +kernel
theorem dX9_hashAt_49 : decode cX9_hashAt 49 = .ok (.ireturn, 1) := by decide +kernel
theorem dX9_vector_0 : decode cX9_vector 0 = .ok (.aload_n 0, 1) := by decide +kernel
theorem dX9_vector_1 : decode cX9_vector 1 = .ok (.iload_n 1, 1) := by decide +kernel
theorem dX9_vector_2 : decode cX9_vector 2 = .ok (.invokevirtual 161, 3) := by decide +kernel
theorem dX9_vector_5 : decode cX9_vector 5 = .ok (.aload_n 0, 1) := by decide +kernel
theorem dX9_vector_6 : decode cX9_vector 6 = .ok (.iload_n 2, 1) := by decide +kernel
theorem dX9_vector_7 : decode cX9_vector 7 = .ok (.invokevirtual 161, 3) := by decide +kernel
theorem dX9_vector_10 : decode cX9_vector 10 = .ok (.aload_n 0, 1) := by decide +kernel
theorem dX9_vector_11 : decode cX9_vector 11 = .ok (.getfield 19, 3) := by decide +kernel
theorem dX9_vector_14 : decode cX9_vector 14 = .ok (.getfield 164, 3) := by decide +kernel
theorem dX9_vector_17 : decode cX9_vector 17 = .ok (.iload_n 1, 1) := by decide +kernel
theorem dX9_vector_18 : decode cX9_vector 18 = .ok (.aaload, 1) := by decide +kernel
theorem dX9_vector_19 : decode cX9_vector 19 = .ok (.getfield 246, 3) := by decide +kernel
theorem dX9_vector_22 : decode cX9_vector 22 = .ok (.iload_n 2, 1) := by decide +kernel
theorem dX9_vector_23 : decode cX9_vector 23 = .ok (.iaload, 1) := by decide +kernel
theorem dX9_vector_24 : decode cX9_vector 24 = .ok (.ireturn, 1) := by decide +kernel
theorem dX9_order_0 : decode cX9_order 0 = .ok (.aload_n 0, 1) := by decide +kernel
theorem dX9_order_1 : decode cX9_order 1 = .ok (.iload_n 1, 1) := by decide +kernel
theorem dX9_order_2 : decode cX9_order 2 = .ok (.invokevirtual 161, 3) := by decide +kernel
theorem dX9_order_5 : decode cX9_order 5 = .ok (.aload_n 0, 1) := by decide +kernel
theorem dX9_order_6 : decode cX9_order 6 = .ok (.iload_n 2, 1) := by decide +kernel
theorem dX9_order_7 : decode cX9_order 7 = .ok (.invokevirtual 161, 3) := by decide +kernel
theorem dX9_order_10 : decode cX9_order 10 = .ok (.aload_n 0, 1) := by decide +kernel
theorem dX9_order_11 : decode cX9_order 11 = .ok (.getfield 19, 3) := by decide +kernel
theorem dX9_order_14 : decode cX9_order 14 = .ok (.getfield 164, 3) := by decide +kernel
theorem dX9_order_17 : decode cX9_order 17 = .ok (.iload_n 1, 1) := by decide +kernel
theorem dX9_order_18 : decode cX9_order 18 = .ok (.aaload, 1) := by decide +kernel
theorem dX9_order_19 : decode cX9_order 19 = .ok (.aload_n 0, 1) := by decide +kernel
theorem dX9_order_20 : decode cX9_order 20 = .ok (.getfield 19, 3) := by decide +kernel
theorem dX9_order_23 : decode cX9_order 23 = .ok (.getfield 164, 3) := by decide +kernel
theorem dX9_order_26 : decode cX9_order 26 = .ok (.iload_n 2, 1) := by decide +kernel
theorem dX9_order_27 : decode cX9_order 27 = .ok (.aaload, 1) := by decide +kernel
theorem dX9_order_28 : decode cX9_order 28 = .ok (.invokevirtual 249, 3) := by decide +kernel
theorem dX9_order_31 : decode cX9_order 31 = .ok (.ireturn, 1) := by decide +kernel
theorem dX9_isSuspicious_0 : decode cX9_isSuspicious 0 = .ok (.aload_n 0, 1) := by decide +kernel
theorem dX9_isSuspicious_1 : decode cX9_isSuspicious 1 = .ok (.iload_n 1, 1) := by decide +kernel
theorem dX9_isSuspicious_2 : decode cX9_isSuspicious 2 = .ok (.invokevirtual 161, 3) := by decide +kernel
theorem dX9_isSuspicious_5 : decode cX9_isSuspicious 5 = .ok (.aload_n 0, 1) := by decide +kernel
theorem dX9_isSuspicious_6 : decode cX9_isSuspicious 6 = .ok (.getfield 19, 3) := by decide +kernel
theorem dX9_isSuspicious_9 : decode cX9_isSuspicious 9 = .ok (.getfield 164, 3) := by decide +kernel
theorem dX9_isSuspicious_12 : decode cX9_isSuspicious 12 = .ok (.iload_n 1, 1) := by decide +kernel
theorem dX9_isSuspicious_13 : decode cX9_isSuspicious 13 = .ok (.aaload, 1) := by decide +kernel
theorem dX9_isSuspicious_14 : decode cX9_isSuspicious 14 = .ok (.getfield 168, 3) := by decide +kernel
theorem dX9_isSuspicious_17 : decode cX9_isSuspicious 17 = .ok (.ireturn, 1) := by decide +kernel
theorem dX9_wouldFind_0 : decode cX9_wouldFind 0 = .ok (.aload_n 0, 1) := by decide +kernel
theorem dX9_wouldFind_1 : decode cX9_wouldFind 1 = .ok (.iload_n 1, 1) := by decide +kernel
theorem dX9_wouldFind_2 : decode cX9_wouldFind 2 = .ok (.invokevirtual 161, 3) := by decide +kernel
theorem dX9_wouldFind_5 : decode cX9_wouldFind 5 = .ok (.aload_n 0, 1) := by decide +kernel
theorem dX9_wouldFind_6 : decode cX9_wouldFind 6 = .ok (.getfield 19, 3) := by decide +kernel
theorem dX9_wouldFind_9 : decode cX9_wouldFind 9 = .ok (.iload_n 1, 1) := by decide +kernel
theorem dX9_wouldFind_10 : decode cX9_wouldFind 10 = .ok (.invokevirtual 253, 3) := by decide +kernel
theorem dX9_wouldFind_13 : decode cX9_wouldFind 13 = .ok (.ireturn, 1) := by decide +kernel
theorem dX9_forkedPairs_0 : decode cX9_forkedPairs 0 = .ok (.iconst 0, 1) := by decide +kernel
theorem dX9_forkedPairs_1 : decode cX9_forkedPairs 1 = .ok (.istore_n 1, 1) := by decide +kernel
theorem dX9_forkedPairs_2 : decode cX9_forkedPairs 2 = .ok (.iconst 0, 1) := by decide +kernel
theorem dX9_forkedPairs_3 : decode cX9_forkedPairs 3 = .ok (.istore_n 2, 1) := by decide +kernel
theorem dX9_forkedPairs_4 : decode cX9_forkedPairs 4 = .ok (.iload_n 2, 1) := by decide +kernel
theorem dX9_forkedPairs_5 : decode cX9_forkedPairs 5 = .ok (.aload_n 0, 1) := by decide +kernel
theorem dX9_forkedPairs_6 : decode cX9_forkedPairs 6 = .ok (.getfield 19, 3) := by decide +kernel
theorem dX9_forkedPairs_9 : decode cX9_forkedPairs 9 = .ok (.getfield 76, 3) := by decide +kernel
theorem dX9_forkedPairs_12 : decode cX9_forkedPairs 12 = .ok (.if_icmp .ge 57, 3) := by decide +kernel
theorem dX9_forkedPairs_15 : decode cX9_forkedPairs 15 = .ok (.iload_n 2, 1) := by decide +kernel
theorem dX9_forkedPairs_16 : decode cX9_forkedPairs 16 = .ok (.iconst 1, 1) := by decide +kernel
theorem dX9_forkedPairs_17 : decode cX9_forkedPairs 17 = .ok (.iadd, 1) := by decide +kernel
theorem dX9_forkedPairs_18 : decode cX9_forkedPairs 18 = .ok (.istore_n 3, 1) := by decide +kernel
theorem dX9_forkedPairs_19 : decode cX9_forkedPairs 19 = .ok (.iload_n 3, 1) := by decide +kernel
theorem dX9_forkedPairs_20 : decode cX9_forkedPairs 20 = .ok (.aload_n 0, 1) := by decide +kernel
theorem dX9_forkedPairs_21 : decode cX9_forkedPairs 21 = .ok (.getfield 19, 3) := by decide +kernel
theorem dX9_forkedPairs_24 : decode cX9_forkedPairs 24 = .ok (.getfield 76, 3) := by decide +kernel
theorem dX9_forkedPairs_27 : decode cX9_forkedPairs 27 = .ok (.if_icmp .ge 36, 3) := by decide +kernel
theorem dX9_forkedPairs_30 : decode cX9_forkedPairs 30 = .ok (.aload_n 0, 1) := by decide +kernel
theorem dX9_forkedPairs_31 : decode cX9_forkedPairs 31 = .ok (.getfield 19, 3) := by decide +kernel
theorem dX9_forkedPairs_34 : decode cX9_forkedPairs 34 = .ok (.getfield 164, 3) := by decide +kernel
theorem dX9_forkedPairs_37 : decode cX9_forkedPairs 37 = .ok (.iload_n 2, 1) := by decide +kernel
theorem dX9_forkedPairs_38 : decode cX9_forkedPairs 38 = .ok (.aaload, 1) := by decide +kernel
theorem dX9_forkedPairs_39 : decode cX9_forkedPairs 39 = .ok (.aload_n 0, 1) := by decide +kernel
theorem dX9_forkedPairs_40 : decode cX9_forkedPairs 40 = .ok (.getfield 19, 3) := by decide +kernel
theorem dX9_forkedPairs_43 : decode cX9_forkedPairs 43 = .ok (.getfield 164, 3) := by decide +kernel
theorem dX9_forkedPairs_46 : decode cX9_forkedPairs 46 = .ok (.iload_n 3, 1) := by decide +kernel
theorem dX9_forkedPairs_47 : decode cX9_forkedPairs 47 = .ok (.aaload, 1) := by decide +kernel
theorem dX9_forkedPairs_48 : decode cX9_forkedPairs 48 = .ok (.invokevirtual 256, 3) := by decide +kernel
theorem dX9_forkedPairs_51 : decode cX9_forkedPairs 51 = .ok (.ifCond .eq 6, 3) := by decide +kernel
theorem dX9_forkedPairs_54 : decode cX9_forkedPairs 54 = .ok (.iinc 1 1, 3) := by decide +kernel
theorem dX9_forkedPairs_57 : decode cX9_forkedPairs 57 = .ok (.iinc 3 1, 3) := by decide +kernel
theorem dX9_forkedPairs_60 : decode cX9_forkedPairs 60 = .ok (.goto (-41), 3) := by decide +kernel
theorem dX9_forkedPairs_63 : decode cX9_forkedPairs 63 = .ok (.iinc 2 1, 3) := by decide +kernel
theorem dX9_forkedPairs_66 : decode cX9_forkedPairs 66 = .ok (.goto (-62), 3) := by decide +kernel
theorem dX9_forkedPairs_69 : decode cX9_forkedPairs 69 = .ok (.iload_n 1, 1) := by decide +kernel
theorem dX9_forkedPairs_70 : decode cX9_forkedPairs 70 = .ok (.ireturn, 1) := by decide +kernel
theorem dX9_seenBy_0 : decode cX9_seenBy 0 = .ok (.aload_n 0, 1) := by decide +kernel
theorem dX9_seenBy_1 : decode cX9_seenBy 1 = .ok (.iload_n 1, 1) := by decide +kernel
theorem dX9_seenBy_2 : decode cX9_seenBy 2 = .ok (.invokevirtual 161, 3) := by decide +kernel
theorem dX9_seenBy_5 : decode cX9_seenBy 5 = .ok (.aload_n 0, 1) := by decide +kernel
theorem dX9_seenBy_6 : decode cX9_seenBy 6 = .ok (.getfield 19, 3) := by decide +kernel
theorem dX9_seenBy_9 : decode cX9_seenBy 9 = .ok (.getfield 164, 3) := by decide +kernel
theorem dX9_seenBy_12 : decode cX9_seenBy 12 = .ok (.iload_n 1, 1) := by decide +kernel
theorem dX9_seenBy_13 : decode cX9_seenBy 13 = .ok (.aaload, 1) := by decide +kernel
theorem dX9_seenBy_14 : decode cX9_seenBy 14 = .ok (.astore_n 2, 1) := by decide +kernel
theorem dX9_seenBy_15 : decode cX9_seenBy 15 = .ok (.iconst 0, 1) := by decide +kernel
theorem dX9_seenBy_16 : decode cX9_seenBy 16 = .ok (.istore_n 3, 1) := by decide +kernel
theorem dX9_seenBy_17 : decode cX9_seenBy 17 = .ok (.iconst 0, 1) := by decide +kernel
theorem dX9_seenBy_18 : decode cX9_seenBy 18 = .ok (.istore 4, 2) := by decide +kernel
theorem dX9_seenBy_20 : decode cX9_seenBy 20 = .ok (.iload 4, 2) := by decide +kernel
theorem dX9_seenBy_22 : decode cX9_seenBy 22 = .ok (.aload_n 0, 1) := by decide +kernel
theorem dX9_seenBy_23 : decode cX9_seenBy 23 = .ok (.getfield 19, 3) := by decide +kernel
theorem dX9_seenBy_26 : decode cX9_seenBy 26 = .ok (.getfield 76, 3) := by decide +kernel
theorem dX9_seenBy_29 : decode cX9_seenBy 29 = .ok (.if_icmp .ge 59, 3) := by decide +kernel
theorem dX9_seenBy_32 : decode cX9_seenBy 32 = .ok (.aload_n 0, 1) := by decide +kernel
theorem dX9_seenBy_33 : decode cX9_seenBy 33 = .ok (.getfield 19, 3) := by decide +kernel
theorem dX9_seenBy_36 : decode cX9_seenBy 36 = .ok (.getfield 164, 3) := by decide +kernel
theorem dX9_seenBy_39 : decode cX9_seenBy 39 = .ok (.iload 4, 2) := by decide +kernel
theorem dX9_seenBy_41 : decode cX9_seenBy 41 = .ok (.aaload, 1) := by decide +kernel
theorem dX9_seenBy_42 : decode cX9_seenBy 42 = .ok (.astore 5, 2) := by decide +kernel
theorem dX9_seenBy_44 : decode cX9_seenBy 44 = .ok (.iload 4, 2) := by decide +kernel
theorem dX9_seenBy_46 : decode cX9_seenBy 46 = .ok (.iload_n 1, 1) := by decide +kernel
theorem dX9_seenBy_47 : decode cX9_seenBy 47 = .ok (.if_icmp .eq 35, 3) := by decide +kernel
theorem dX9_seenBy_50 : decode cX9_seenBy 50 = .ok (.aload 5, 2) := by decide +kernel
theorem dX9_seenBy_52 : decode cX9_seenBy 52 = .ok (.getfield 246, 3) := by decide +kernel
theorem dX9_seenBy_55 : decode cX9_seenBy 55 = .ok (.iload_n 1, 1) := by decide +kernel
theorem dX9_seenBy_56 : decode cX9_seenBy 56 = .ok (.iaload, 1) := by decide +kernel
theorem dX9_seenBy_57 : decode cX9_seenBy 57 = .ok (.aload_n 2, 1) := by decide +kernel
theorem dX9_seenBy_58 : decode cX9_seenBy 58 = .ok (.getfield 246, 3) := by decide +kernel
theorem dX9_seenBy_61 : decode cX9_seenBy 61 = .ok (.iload_n 1, 1) := by decide +kernel
theorem dX9_seenBy_62 : decode cX9_seenBy 62 = .ok (.iaload, 1) := by decide +kernel
theorem dX9_seenBy_63 : decode cX9_seenBy 63 = .ok (.if_icmp .lt 19, 3) := by decide +kernel
theorem dX9_seenBy_66 : decode cX9_seenBy 66 = .ok (.aload 5, 2) := by decide +kernel
theorem dX9_seenBy_68 : decode cX9_seenBy 68 = .ok (.aload_n 2, 1) := by decide +kernel
theorem dX9_seenBy_69 : decode cX9_seenBy 69 = .ok (.invokevirtual 256, 3) := by decide +kernel
theorem dX9_seenBy_72 : decode cX9_seenBy 72 = .ok (.ifCond .ne 10, 3) := by decide +kernel
theorem dX9_seenBy_75 : decode cX9_seenBy 75 = .ok (.iload_n 3, 1) := by decide +kernel
theorem dX9_seenBy_76 : decode cX9_seenBy 76 = .ok (.iconst 1, 1) := by decide +kernel
theorem dX9_seenBy_77 : decode cX9_seenBy 77 = .ok (.iload 4, 2) := by decide +kernel
theorem dX9_seenBy_79 : decode cX9_seenBy 79 = .ok (.ishl, 1) := by decide +kernel
theorem dX9_seenBy_80 : decode cX9_seenBy 80 = .ok (.ior, 1) := by decide +kernel
theorem dX9_seenBy_81 : decode cX9_seenBy 81 = .ok (.istore_n 3, 1) := by decide +kernel
theorem dX9_seenBy_82 : decode cX9_seenBy 82 = .ok (.iinc 4 1, 3) := by decide +kernel
theorem dX9_seenBy_85 : decode cX9_seenBy 85 = .ok (.goto (-65), 3) := by decide +kernel
theorem dX9_seenBy_88 : decode cX9_seenBy 88 = .ok (.iload_n 3, 1) := by decide +kernel
theorem dX9_seenBy_89 : decode cX9_seenBy 89 = .ok (.ireturn, 1) := by decide +kernel
theorem dX9_blames_0 : decode cX9_blames 0 = .ok (.aload_n 0, 1) := by decide +kernel
theorem dX9_blames_1 : decode cX9_blames 1 = .ok (.getfield 19, 3) := by decide +kernel
theorem dX9_blames_4 : decode cX9_blames 4 = .ok (.getfield 260, 3) := by decide +kernel
theorem dX9_blames_7 : decode cX9_blames 7 = .ok (.getfield 264, 3) := by decide +kernel
theorem dX9_blames_10 : decode cX9_blames 10 = .ok (.ireturn, 1) := by decide +kernel
theorem dX9_blame_0 : decode cX9_blame 0 = .ok (.aload_n 0, 1) := by decide +kernel
theorem dX9_blame_1 : decode cX9_blame 1 = .ok (.getfield 19, 3) := by decide +kernel
theorem dX9_blame_4 : decode cX9_blame 4 = .ok (.getfield 260, 3) := by decide +kernel
theorem dX9_blame_7 : decode cX9_blame 7 = .ok (.iload_n 1, 1) := by decide +kernel
theorem dX9_blame_8 : decode cX9_blame 8 = .ok (.invokevirtual 269, 3) := by decide +kernel
theorem dX9_blame_11 : decode cX9_blame 11 = .ok (.ifCond .ne 14, 3) := by decide +kernel
theorem dX9_blame_14 : decode cX9_blame 14 = .ok (.new 203, 3) := by decide +kernel
theorem dX9_blame_17 : decode cX9_blame 17 = .ok (.dup, 1) := by decide +kernel
theorem dX9_blame_18 : decode cX9_blame 18 = .ok (.ldc_w 272, 3) := by decide +kernel
theorem dX9_blame_21 : decode cX9_blame 21 = .ok (.invokespecial 207, 3) := by decide +kernel
theorem dX9_blame_24 : decode cX9_blame 24 = .ok (.athrow, 1) := by decide +kernel
theorem dX9_blame_25 : decode cX9_blame 25 = .ok (.iload_n 2, 1) := by decide +kernel
theorem dX9_blame_26 : decode cX9_blame 26 = .ok (.bipush 6, 2) := by decide +kernel
theorem dX9_blame_28 : decode cX9_blame 28 = .ok (.invokestatic 208, 3) := by decide +kernel
theorem dX9_blame_31 : decode cX9_blame 31 = .ok (.aload_n 0, 1) := by decide +kernel
theorem dX9_blame_32 : decode cX9_blame 32 = .ok (.getfield 19, 3) := by decide +kernel
theorem dX9_blame_35 : decode cX9_blame 35 = .ok (.getfield 260, 3) := by decide +kernel
theorem dX9_blame_38 : decode cX9_blame 38 = .ok (.iload_n 1, 1) := by decide +kernel
theorem dX9_blame_39 : decode cX9_blame 39 = .ok (.iload_n 2, 1) := by decide +kernel
theorem dX9_blame_40 : decode cX9_blame 40 = .ok (.invokevirtual 274, 3) := by decide +kernel
theorem dX9_blame_43 : decode cX9_blame 43 = .ok (.ireturn, 1) := by decide +kernel
theorem dX9_posts_0 : decode cX9_posts 0 = .ok (.aload_n 0, 1) := by decide +kernel
theorem dX9_posts_1 : decode cX9_posts 1 = .ok (.getfield 19, 3) := by decide +kernel
theorem dX9_posts_4 : decode cX9_posts 4 = .ok (.getfield 275, 3) := by decide +kernel
theorem dX9_posts_7 : decode cX9_posts 7 = .ok (.getfield 264, 3) := by decide +kernel
theorem dX9_posts_10 : decode cX9_posts 10 = .ok (.ireturn, 1) := by decide +kernel
theorem dX9_boardPost_0 : decode cX9_boardPost 0 = .ok (.aload_n 0, 1) := by decide +kernel
theorem dX9_boardPost_1 : decode cX9_boardPost 1 = .ok (.iload_n 1, 1) := by decide +kernel
theorem dX9_boardPost_2 : decode cX9_boardPost 2 = .ok (.invokevirtual 278, 3) := by decide +kernel
theorem dX9_boardPost_5 : decode cX9_boardPost 5 = .ok (.iload_n 2, 1) := by decide +kernel
theorem dX9_boardPost_6 : decode cX9_boardPost 6 = .ok (.iconst 4, 1) := by decide +kernel
theorem dX9_boardPost_7 : decode cX9_boardPost 7 = .ok (.invokestatic 208, 3) := by decide +kernel
theorem dX9_boardPost_10 : decode cX9_boardPost 10 = .ok (.aload_n 0, 1) := by decide +kernel
theorem dX9_boardPost_11 : decode cX9_boardPost 11 = .ok (.getfield 19, 3) := by decide +kernel
theorem dX9_boardPost_14 : decode cX9_boardPost 14 = .ok (.getfield 275, 3) := by decide +kernel
theorem dX9_boardPost_17 : decode cX9_boardPost 17 = .ok (.iload_n 1, 1) := by decide +kernel
theorem dX9_boardPost_18 : decode cX9_boardPost 18 = .ok (.iload_n 2, 1) := by decide +kernel
theorem dX9_boardPost_19 : decode cX9_boardPost 19 = .ok (.invokevirtual 274, 3) := by decide +kernel
theorem dX9_boardPost_22 : decode cX9_boardPost 22 = .ok (.ireturn, 1) := by decide +kernel
theorem dX9_checkPost_0 : decode cX9_checkPost 0 = .ok (.aload_n 0, 1) := by decide +kernel
theorem dX9_checkPost_1 : decode cX9_checkPost 1 = .ok (.iload_n 1, 1) := by decide +kernel
theorem dX9_checkPost_2 : decode cX9_checkPost 2 = .ok (.invokevirtual 161, 3) := by decide +kernel
theorem dX9_checkPost_5 : decode cX9_checkPost 5 = .ok (.aload_n 0, 1) := by decide +kernel
theorem dX9_checkPost_6 : decode cX9_checkPost 6 = .ok (.iload_n 2, 1) := by decide +kernel
theorem dX9_checkPost_7 : decode cX9_checkPost 7 = .ok (.invokevirtual 278, 3) := by decide +kernel
theorem dX9_checkPost_10 : decode cX9_checkPost 10 = .ok (.aload_n 0, 1) := by decide +kernel
theorem dX9_checkPost_11 : decode cX9_checkPost 11 = .ok (.getfield 19, 3) := by decide +kernel
theorem dX9_checkPost_14 : decode cX9_checkPost 14 = .ok (.getfield 164, 3) := by decide +kernel
theorem dX9_checkPost_17 : decode cX9_checkPost 17 = .ok (.iload_n 1, 1) := by decide +kernel
theorem dX9_checkPost_18 : decode cX9_checkPost 18 = .ok (.aaload, 1) := by decide +kernel
theorem dX9_checkPost_19 : decode cX9_checkPost 19 = .ok (.astore_n 3, 1) := by decide +kernel
theorem dX9_checkPost_20 : decode cX9_checkPost 20 = .ok (.aload_n 0, 1) := by decide +kernel
theorem dX9_checkPost_21 : decode cX9_checkPost 21 = .ok (.getfield 19, 3) := by decide +kernel
theorem dX9_checkPost_24 : decode cX9_checkPost 24 = .ok (.getfield 275, 3) := by decide +kernel
theorem dX9_checkPost_27 : decode cX9_checkPost 27 = .ok (.iload_n 2, 1) := by decide +kernel
theorem dX9_checkPost_28 : decode cX9_checkPost 28 = .ok (.iconst 1, 1) := by decide +kernel
theorem dX9_checkPost_29 : decode cX9_checkPost 29 = .ok (.invokevirtual 274, 3) := by decide +kernel
theorem dX9_checkPost_32 : decode cX9_checkPost 32 = .ok (.istore 4, 2) := by decide +kernel
theorem dX9_checkPost_34 : decode cX9_checkPost 34 = .ok (.aload_n 3, 1) := by decide +kernel
theorem dX9_checkPost_35 : decode cX9_checkPost 35 = .ok (.getfield 185, 3) := by decide +kernel
theorem dX9_checkPost_38 : decode cX9_checkPost 38 = .ok (.iload 4, 2) := by decide +kernel
theorem dX9_checkPost_40 : decode cX9_checkPost 40 = .ok (.if_icmp .ge 5, 3) := by decide +kernel
theorem dX9_checkPost_43 : decode cX9_checkPost 43 = .ok (.iconst 2, 1) := by decide +kernel
theorem dX9_checkPost_44 : decode cX9_checkPost 44 = .ok (.ireturn, 1) := by decide +kernel
theorem dX9_checkPost_45 : decode cX9_checkPost 45 = .ok (.aload_n 3, 1) := by decide +kernel
theorem dX9_checkPost_46 : decode cX9_checkPost 46 = .ok (.getfield 243, 3) := by decide +kernel
theorem dX9_checkPost_49 : decode cX9_checkPost 49 = .ok (.iload 4, 2) := by decide +kernel
theorem dX9_checkPost_51 : decode cX9_checkPost 51 = .ok (.iaload, 1) := by decide +kernel
theorem dX9_checkPost_52 : decode cX9_checkPost 52 = .ok (.aload_n 0, 1) := by decide +kernel
theorem dX9_checkPost_53 : decode cX9_checkPost 53 = .ok (.getfield 19, 3) := by decide +kernel
theorem dX9_checkPost_56 : decode cX9_checkPost 56 = .ok (.getfield 275, 3) := by decide +kernel
theorem dX9_checkPost_59 : decode cX9_checkPost 59 = .ok (.iload_n 2, 1) := by decide +kernel
theorem dX9_checkPost_60 : decode cX9_checkPost 60 = .ok (.iconst 2, 1) := by decide +kernel
theorem dX9_checkPost_61 : decode cX9_checkPost 61 = .ok (.invokevirtual 274, 3) := by decide +kernel
theorem dX9_checkPost_64 : decode cX9_checkPost 64 = .ok (.if_icmp .ne 7, 3) := by decide +kernel
theorem dX9_checkPost_67 : decode cX9_checkPost 67 = .ok (.iconst 0, 1) := by decide +kernel
theorem dX9_checkPost_68 : decode cX9_checkPost 68 = .ok (.goto 4, 3) := by decide +kernel
theorem dX9_checkPost_71 : decode cX9_checkPost 71 = .ok (.iconst 1, 1) := by decide +kernel
theorem dX9_checkPost_72 : decode cX9_checkPost 72 = .ok (.ireturn, 1) := by decide +kernel
theorem dX9_requireClient_0 : decode cX9_requireClient 0 = .ok (.aload_n 0, 1) := by decide +kernel
theorem dX9_requireClient_1 : decode cX9_requireClient 1 = .ok (.getfield 19, 3) := by decide +kernel
theorem dX9_requireClient_4 : decode cX9_requireClient 4 = .ok (.iload_n 1, 1) := by decide +kernel
theorem dX9_requireClient_5 : decode cX9_requireClient 5 = .ok (.invokevirtual 236, 3) := by decide +kernel
theorem dX9_requireClient_8 : decode cX9_requireClient 8 = .ok (.ifCond .ne 14, 3) := by decide +kernel
theorem dX9_requireClient_11 : decode cX9_requireClient 11 = .ok (.new 203, 3) := by decide +kernel
theorem dX9_requireClient_14 : decode cX9_requireClient 14 = .ok (.dup, 1) := by decide +kernel
theorem dX9_requireClient_15 : decode cX9_requireClient 15 = .ok (.ldc_w 281, 3) := by decide +kernel
theorem dX9_requireClient_18 : decode cX9_requireClient 18 = .ok (.invokespecial 207, 3) := by decide +kernel
theorem dX9_requireClient_21 : decode cX9_requireClient 21 = .ok (.athrow, 1) := by decide +kernel
theorem dX9_requireClient_22 : decode cX9_requireClient 22 = .ok (.return_, 1) := by decide +kernel
theorem dX9_requireBranch_0 : decode cX9_requireBranch 0 = .ok (.aload_n 0, 1) := by decide +kernel
theorem dX9_requireBranch_1 : decode cX9_requireBranch 1 = .ok (.getfield 19, 3) := by decide +kernel
theorem dX9_requireBranch_4 : decode cX9_requireBranch 4 = .ok (.iload_n 1, 1) := by decide +kernel
theorem dX9_requireBranch_5 : decode cX9_requireBranch 5 = .ok (.invokevirtual 283, 3) := by decide +kernel
theorem dX9_requireBranch_8 : decode cX9_requireBranch 8 = .ok (.ifCond .ne 14, 3) := by decide +kernel
theorem dX9_requireBranch_11 : decode cX9_requireBranch 11 = .ok (.new 203, 3) := by decide +kernel
theorem dX9_requireBranch_14 : decode cX9_requireBranch 14 = .ok (.dup, 1) := by decide +kernel
theorem dX9_requireBranch_15 : decode cX9_requireBranch 15 = .ok (.ldc_w 286, 3) := by decide +kernel
theorem dX9_requireBranch_18 : decode cX9_requireBranch 18 = .ok (.invokespecial 207, 3) := by decide +kernel
theorem dX9_requireBranch_21 : decode cX9_requireBranch 21 = .ok (.athrow, 1) := by decide +kernel
theorem dX9_requireBranch_22 : decode cX9_requireBranch 22 = .ok (.return_, 1) := by decide +kernel
theorem dX9_requirePost_0 : decode cX9_requirePost 0 = .ok (.aload_n 0, 1) := by decide +kernel
theorem dX9_requirePost_1 : decode cX9_requirePost 1 = .ok (.getfield 19, 3) := by decide +kernel
theorem dX9_requirePost_4 : decode cX9_requirePost 4 = .ok (.getfield 275, 3) := by decide +kernel
theorem dX9_requirePost_7 : decode cX9_requirePost 7 = .ok (.iload_n 1, 1) := by decide +kernel
theorem dX9_requirePost_8 : decode cX9_requirePost 8 = .ok (.invokevirtual 269, 3) := by decide +kernel
theorem dX9_requirePost_11 : decode cX9_requirePost 11 = .ok (.ifCond .ne 14, 3) := by decide +kernel
theorem dX9_requirePost_14 : decode cX9_requirePost 14 = .ok (.new 203, 3) := by decide +kernel
theorem dX9_requirePost_17 : decode cX9_requirePost 17 = .ok (.dup, 1) := by decide +kernel
theorem dX9_requirePost_18 : decode cX9_requirePost 18 = .ok (.ldc_w 288, 3) := by decide +kernel
theorem dX9_requirePost_21 : decode cX9_requirePost 21 = .ok (.invokespecial 207, 3) := by decide +kernel
theorem dX9_requirePost_24 : decode cX9_requirePost 24 = .ok (.athrow, 1) := by decide +kernel
theorem dX9_requirePost_25 : decode cX9_requirePost 25 = .ok (.return_, 1) := by decide +kernel
theorem dX9_requirePart_0 : decode cX9_requirePart 0 = .ok (.iload_n 0, 1) := by decide +kernel
theorem dX9_requirePart_1 : decode cX9_requirePart 1 = .ok (.ifCond .lt 8, 3) := by decide +kernel
theorem dX9_requirePart_4 : decode cX9_requirePart 4 = .ok (.iload_n 0, 1) := by decide +kernel
theorem dX9_requirePart_5 : decode cX9_requirePart 5 = .ok (.iload_n 1, 1) := by decide +kernel
theorem dX9_requirePart_6 : decode cX9_requirePart 6 = .ok (.if_icmp .lt 14, 3) := by decide +kernel
theorem dX9_requirePart_9 : decode cX9_requirePart 9 = .ok (.new 96, 3) := by decide +kernel
theorem dX9_requirePart_12 : decode cX9_requirePart 12 = .ok (.dup, 1) := by decide +kernel
theorem dX9_requirePart_13 : decode cX9_requirePart 13 = .ok (.ldc_w 290, 3) := by decide +kernel
theorem dX9_requirePart_16 : decode cX9_requirePart 16 = .ok (.invokespecial 100, 3) := by decide +kernel
theorem dX9_requirePart_19 : decode cX9_requirePart 19 = .ok (.athrow, 1) := by decide +kernel
theorem dX9_requirePart_20 : decode cX9_requirePart 20 = .ok (.return_, 1) := by decide +kernel
theorem dX9_answerOf_0 : decode cX9_answerOf 0 = .ok (.iload_n 0, 1) := by decide +kernel
theorem dX9_answerOf_1 : decode cX9_answerOf 1 = .ok (.iconst (-1), 1) := by decide +kernel
theorem dX9_answerOf_2 : decode cX9_answerOf 2 = .ok (.if_icmp .ne 14, 3) := by decide +kernel
theorem dX9_answerOf_5 : decode cX9_answerOf 5 = .ok (.new 203, 3) := by decide +kernel
theorem dX9_answerOf_8 : decode cX9_answerOf 8 = .ok (.dup, 1) := by decide +kernel
theorem dX9_answerOf_9 : decode cX9_answerOf 9 = .ok (.ldc_w 292, 3) := by decide +kernel
theorem dX9_answerOf_12 : decode cX9_answerOf 12 = .ok (.invokespecial 207, 3) := by decide +kernel
theorem dX9_answerOf_15 : decode cX9_answerOf 15 = .ok (.athrow, 1) := by decide +kernel
theorem dX9_answerOf_16 : decode cX9_answerOf 16 = .ok (.iload_n 0, 1) := by decide +kernel
theorem dX9_answerOf_17 : decode cX9_answerOf 17 = .ok (.bipush (-2), 2) := by decide +kernel
theorem dX9_answerOf_19 : decode cX9_answerOf 19 = .ok (.if_icmp .ne 14, 3) := by decide +kernel
theorem dX9_answerOf_22 : decode cX9_answerOf 22 = .ok (.new 96, 3) := by decide +kernel
theorem dX9_answerOf_25 : decode cX9_answerOf 25 = .ok (.dup, 1) := by decide +kernel
theorem dX9_answerOf_26 : decode cX9_answerOf 26 = .ok (.ldc_w 294, 3) := by decide +kernel
theorem dX9_answerOf_29 : decode cX9_answerOf 29 = .ok (.invokespecial 100, 3) := by decide +kernel
theorem dX9_answerOf_32 : decode cX9_answerOf 32 = .ok (.athrow, 1) := by decide +kernel
theorem dX9_answerOf_33 : decode cX9_answerOf 33 = .ok (.iload_n 0, 1) := by decide +kernel
theorem dX9_answerOf_34 : decode cX9_answerOf 34 = .ok (.bipush (-3), 2) := by decide +kernel
theorem dX9_answerOf_36 : decode cX9_answerOf 36 = .ok (.if_icmp .ne 14, 3) := by decide +kernel
theorem dX9_answerOf_39 : decode cX9_answerOf 39 = .ok (.new 27, 3) := by decide +kernel
theorem dX9_answerOf_42 : decode cX9_answerOf 42 = .ok (.dup, 1) := by decide +kernel
theorem dX9_answerOf_43 : decode cX9_answerOf 43 = .ok (.ldc_w 296, 3) := by decide +kernel
theorem dX9_answerOf_46 : decode cX9_answerOf 46 = .ok (.invokespecial 31, 3) := by decide +kernel
theorem dX9_answerOf_49 : decode cX9_answerOf 49 = .ok (.athrow, 1) := by decide +kernel
theorem dX9_answerOf_50 : decode cX9_answerOf 50 = .ok (.iload_n 0, 1) := by decide +kernel
theorem dX9_answerOf_51 : decode cX9_answerOf 51 = .ok (.ireturn, 1) := by decide +kernel
theorem dX9_signatureOf_0 : decode cX9_signatureOf 0 = .ok (.iload_n 2, 1) := by decide +kernel
theorem dX9_signatureOf_1 : decode cX9_signatureOf 1 = .ok (.i2l, 1) := by decide +kernel
theorem dX9_signatureOf_2 : decode cX9_signatureOf 2 = .ok (.ldc2_w 298, 3) := by decide +kernel
theorem dX9_signatureOf_5 : decode cX9_signatureOf 5 = .ok (.lmul, 1) := by decide +kernel
theorem dX9_signatureOf_6 : decode cX9_signatureOf 6 = .ok (.iload_n 1, 1) := by decide +kernel
theorem dX9_signatureOf_7 : decode cX9_signatureOf 7 = .ok (.i2l, 1) := by decide +kernel
theorem dX9_signatureOf_8 : decode cX9_signatureOf 8 = .ok (.ldc2_w 300, 3) := by decide +kernel
theorem dX9_signatureOf_11 : decode cX9_signatureOf 11 = .ok (.lmul, 1) := by decide +kernel
theorem dX9_signatureOf_12 : decode cX9_signatureOf 12 = .ok (.ladd, 1) := by decide +kernel
theorem dX9_signatureOf_13 : decode cX9_signatureOf 13 = .ok (.iload_n 0, 1) := by decide +kernel
theorem dX9_signatureOf_14 : decode cX9_signatureOf 14 = .ok (.i2l, 1) := by decide +kernel
theorem dX9_signatureOf_15 : decode cX9_signatureOf 15 = .ok (.ldc2_w 302, 3) := by decide +kernel
theorem dX9_signatureOf_18 : decode cX9_signatureOf 18 = .ok (.lmul, 1) := by decide +kernel
theorem dX9_signatureOf_19 : decode cX9_signatureOf 19 = .ok (.ladd, 1) := by decide +kernel
theorem dX9_signatureOf_20 : decode cX9_signatureOf 20 = .ok (.ldc2_w 304, 3) := by decide +kernel
theorem dX9_signatureOf_23 : decode cX9_signatureOf 23 = .ok (.ladd, 1) := by decide +kernel
theorem dX9_signatureOf_24 : decode cX9_signatureOf 24 = .ok (.ldc2_w 239, 3) := by decide +kernel
theorem dX9_signatureOf_27 : decode cX9_signatureOf 27 = .ok (.lrem, 1) := by decide +kernel
theorem dX9_signatureOf_28 : decode cX9_signatureOf 28 = .ok (.l2i, 1) := by decide +kernel
theorem dX9_signatureOf_29 : decode cX9_signatureOf 29 = .ok (.ireturn, 1) := by decide +kernel
theorem dX9_firstDifference_0 : decode cX9_firstDifference 0 = .ok (.iconst 0, 1) := by decide +kernel
theorem dX9_firstDifference_1 : decode cX9_firstDifference 1 = .ok (.istore_n 3, 1) := by decide +kernel
theorem dX9_firstDifference_2 : decode cX9_firstDifference 2 = .ok (.iload_n 3, 1) := by decide +kernel
theorem dX9_firstDifference_3 : decode cX9_firstDifference 3 = .ok (.iload_n 2, 1) := by decide +kernel
theorem dX9_firstDifference_4 : decode cX9_firstDifference 4 = .ok (.if_icmp .gt 27, 3) := by decide +kernel
theorem dX9_firstDifference_7 : decode cX9_firstDifference 7 = .ok (.iload_n 3, 1) := by decide +kernel
theorem dX9_firstDifference_8 : decode cX9_firstDifference 8 = .ok (.sipush 200, 3) := by decide +kernel
theorem dX9_firstDifference_11 : decode cX9_firstDifference 11 = .ok (.if_icmp .gt 20, 3) := by decide +kernel
theorem dX9_firstDifference_14 : decode cX9_firstDifference 14 = .ok (.aload_n 0, 1) := by decide +kernel
theorem dX9_firstDifference_15 : decode cX9_firstDifference 15 = .ok (.iload_n 3, 1) := by decide +kernel
theorem dX9_firstDifference_16 : decode cX9_firstDifference 16 = .ok (.iaload, 1) := by decide +kernel
theorem dX9_firstDifference_17 : decode cX9_firstDifference 17 = .ok (.aload_n 1, 1) := by decide +kernel
theorem dX9_firstDifference_18 : decode cX9_firstDifference 18 = .ok (.iload_n 3, 1) := by decide +kernel
theorem dX9_firstDifference_19 : decode cX9_firstDifference 19 = .ok (.iaload, 1) := by decide +kernel
theorem dX9_firstDifference_20 : decode cX9_firstDifference 20 = .ok (.if_icmp .eq 5, 3) := by decide +kernel
theorem dX9_firstDifference_23 : decode cX9_firstDifference 23 = .ok (.iload_n 3, 1) := by decide +kernel
theorem dX9_firstDifference_24 : decode cX9_firstDifference 24 = .ok (.ireturn, 1) := by decide +kernel
theorem dX9_firstDifference_25 : decode cX9_firstDifference 25 = .ok (.iinc 3 1, 3) := by decide +kernel
theorem dX9_firstDifference_28 : decode cX9_firstDifference 28 = .ok (.goto (-26), 3) := by decide +kernel
theorem dX9_firstDifference_31 : decode cX9_firstDifference 31 = .ok (.iload_n 2, 1) := by decide +kernel
theorem dX9_firstDifference_32 : decode cX9_firstDifference 32 = .ok (.iconst 1, 1) := by decide +kernel
theorem dX9_firstDifference_33 : decode cX9_firstDifference 33 = .ok (.iadd, 1) := by decide +kernel
theorem dX9_firstDifference_34 : decode cX9_firstDifference 34 = .ok (.ireturn, 1) := by decide +kernel
theorem dJx29ce0_ordinal_8abf5_0 : decode cJx29ce0_ordinal_8abf5 0 = .ok (.aload_n 0, 1) := by decide +kernel
theorem dJx29ce0_ordinal_8abf5_1 : decode cJx29ce0_ordinal_8abf5 1 = .ok (.getfield 7, 3) := by decide +kernel
theorem dJx29ce0_ordinal_8abf5_4 : decode cJx29ce0_ordinal_8abf5 4 = .ok (.ireturn, 1) := by decide +kernel
theorem dJ9_max_7cf53_0 : decode cJ9_max_7cf53 0 = .ok (.iload_n 0, 1) := by decide +kernel
theorem dJ9_max_7cf53_1 : decode cJ9_max_7cf53 1 = .ok (.iload_n 1, 1) := by decide +kernel
theorem dJ9_max_7cf53_2 : decode cJ9_max_7cf53 2 = .ok (.if_icmp .lt 7, 3) := by decide +kernel
theorem dJ9_max_7cf53_5 : decode cJ9_max_7cf53 5 = .ok (.iload_n 0, 1) := by decide +kernel
theorem dJ9_max_7cf53_6 : decode cJ9_max_7cf53 6 = .ok (.goto 4, 3) := by decide +kernel
theorem dJ9_max_7cf53_9 : decode cJ9_max_7cf53 9 = .ok (.iload_n 1, 1) := by decide +kernel
theorem dJ9_max_7cf53_10 : decode cJ9_max_7cf53 10 = .ok (.ireturn, 1) := by decide +kernel
theorem dJ9_min_7cf53_0 : decode cJ9_min_7cf53 0 = .ok (.iload_n 0, 1) := by decide +kernel
theorem dJ9_min_7cf53_1 : decode cJ9_min_7cf53 1 = .ok (.iload_n 1, 1) := by decide +kernel
theorem dJ9_min_7cf53_2 : decode cJ9_min_7cf53 2 = .ok (.if_icmp .gt 7, 3) := by decide +kernel
theorem dJ9_min_7cf53_5 : decode cJ9_min_7cf53 5 = .ok (.iload_n 0, 1) := by decide +kernel
theorem dJ9_min_7cf53_6 : decode cJ9_min_7cf53 6 = .ok (.goto 4, 3) := by decide +kernel
theorem dJ9_min_7cf53_9 : decode cJ9_min_7cf53 9 = .ok (.iload_n 1, 1) := by decide +kernel
theorem dJ9_min_7cf53_10 : decode cJ9_min_7cf53 10 = .ok (.ireturn, 1) := by decide +kernel
theorem dJ0_length_8abf5_0 : decode cJ0_length_8abf5 0 = .ok (.aload_n 0, 1) := by decide +kernel
theorem dJ0_length_8abf5_1 : decode cJ0_length_8abf5 1 = .ok (.getfield 9, 3) := by decide +kernel
theorem dJ0_length_8abf5_4 : decode cJ0_length_8abf5 4 = .ok (.arraylength, 1) := by decide +kernel
theorem dJ0_length_8abf5_5 : decode cJ0_length_8abf5 5 = .ok (.aload_n 0, 1) := by decide +kernel
theorem dJ0_length_8abf5_6 : decode cJ0_length_8abf5 6 = .ok (.invokevirtual 335, 3) := by decide +kernel
theorem dJ0_length_8abf5_9 : decode cJ0_length_8abf5 9 = .ok (.ishr, 1) := by decide +kernel
theorem dJ0_length_8abf5_10 : decode cJ0_length_8abf5 10 = .ok (.ireturn, 1) := by decide +kernel
theorem dJ0_charAt_5068e_0 : decode cJ0_charAt_5068e 0 = .ok (.aload_n 0, 1) := by decide +kernel
theorem dJ0_charAt_5068e_1 : decode cJ0_charAt_5068e 1 = .ok (.invokevirtual 492, 3) := by decide +kernel
theorem dJ0_charAt_5068e_4 : decode cJ0_charAt_5068e 4 = .ok (.ifCond .eq 12, 3) := by decide +kernel
theorem dJ0_charAt_5068e_7 : decode cJ0_charAt_5068e 7 = .ok (.aload_n 0, 1) := by decide +kernel
theorem dJ0_charAt_5068e_8 : decode cJ0_charAt_5068e 8 = .ok (.getfield 9, 3) := by decide +kernel
theorem dJ0_charAt_5068e_11 : decode cJ0_charAt_5068e 11 = .ok (.iload_n 1, 1) := by decide +kernel
theorem dJ0_charAt_5068e_12 : decode cJ0_charAt_5068e 12 = .ok (.invokestatic 495, 3) := by decide +kernel
theorem dJ0_charAt_5068e_15 : decode cJ0_charAt_5068e 15 = .ok (.ireturn, 1) := by decide +kernel
theorem dJ0_charAt_5068e_16 : decode cJ0_charAt_5068e 16 = .ok (.aload_n 0, 1) := by decide +kernel
theorem dJ0_charAt_5068e_17 : decode cJ0_charAt_5068e 17 = .ok (.getfield 9, 3) := by decide +kernel
theorem dJ0_charAt_5068e_20 : decode cJ0_charAt_5068e 20 = .ok (.iload_n 1, 1) := by decide +kernel
theorem dJ0_charAt_5068e_21 : decode cJ0_charAt_5068e 21 = .ok (.invokestatic 498, 3) := by decide +kernel
theorem dJ0_charAt_5068e_24 : decode cJ0_charAt_5068e 24 = .ok (.ireturn, 1) := by decide +kernel
theorem dJ0_coder_7d493_0 : decode cJ0_coder_7d493 0 = .ok (.getstatic 38, 3) := by decide +kernel
theorem dJ0_coder_7d493_3 : decode cJ0_coder_7d493 3 = .ok (.ifCond .eq 10, 3) := by decide +kernel
theorem dJ0_coder_7d493_6 : decode cJ0_coder_7d493 6 = .ok (.aload_n 0, 1) := by decide +kernel
theorem dJ0_coder_7d493_7 : decode cJ0_coder_7d493 7 = .ok (.getfield 15, 3) := by decide +kernel
theorem dJ0_coder_7d493_10 : decode cJ0_coder_7d493 10 = .ok (.goto 4, 3) := by decide +kernel
theorem dJ0_coder_7d493_13 : decode cJ0_coder_7d493 13 = .ok (.iconst 1, 1) := by decide +kernel
theorem dJ0_coder_7d493_14 : decode cJ0_coder_7d493 14 = .ok (.ireturn, 1) := by decide +kernel
theorem dJ0_isLatin1_aae02_0 : decode cJ0_isLatin1_aae02 0 = .ok (.getstatic 38, 3) := by decide +kernel
theorem dJ0_isLatin1_aae02_3 : decode cJ0_isLatin1_aae02 3 = .ok (.ifCond .eq 14, 3) := by decide +kernel
theorem dJ0_isLatin1_aae02_6 : decode cJ0_isLatin1_aae02 6 = .ok (.aload_n 0, 1) := by decide +kernel
theorem dJ0_isLatin1_aae02_7 : decode cJ0_isLatin1_aae02 7 = .ok (.getfield 15, 3) := by decide +kernel
theorem dJ0_isLatin1_aae02_10 : decode cJ0_isLatin1_aae02 10 = .ok (.ifCond .ne 7, 3) := by decide +kernel
theorem dJ0_isLatin1_aae02_13 : decode cJ0_isLatin1_aae02 13 = .ok (.iconst 1, 1) := by decide +kernel
theorem dJ0_isLatin1_aae02_14 : decode cJ0_isLatin1_aae02 14 = .ok (.goto 4, 3) := by decide +kernel
theorem dJ0_isLatin1_aae02_17 : decode cJ0_isLatin1_aae02 17 = .ok (.iconst 0, 1) := by decide +kernel
theorem dJ0_isLatin1_aae02_18 : decode cJ0_isLatin1_aae02 18 = .ok (.ireturn, 1) := by decide +kernel
theorem dJ0_checkIndex_df160_0 : decode cJ0_checkIndex_df160 0 = .ok (.iload_n 0, 1) := by decide +kernel
theorem dJ0_checkIndex_df160_1 : decode cJ0_checkIndex_df160 1 = .ok (.iload_n 1, 1) := by decide +kernel
theorem dJ0_checkIndex_df160_2 : decode cJ0_checkIndex_df160 2 = .ok (.getstatic 1053, 3) := by decide +kernel
theorem dJ0_checkIndex_df160_5 : decode cJ0_checkIndex_df160 5 = .ok (.invokestatic 1059, 3) := by decide +kernel
theorem dJ0_checkIndex_df160_8 : decode cJ0_checkIndex_df160 8 = .ok (.pop, 1) := by decide +kernel
theorem dJ0_checkIndex_df160_9 : decode cJ0_checkIndex_df160 9 = .ok (.return_, 1) := by decide +kernel
theorem dJ1_charAt_3b067_0 : decode cJ1_charAt_3b067 0 = .ok (.iload_n 1, 1) := by decide +kernel
theorem dJ1_charAt_3b067_1 : decode cJ1_charAt_3b067 1 = .ok (.aload_n 0, 1) := by decide +kernel
theorem dJ1_charAt_3b067_2 : decode cJ1_charAt_3b067 2 = .ok (.arraylength, 1) := by decide +kernel
theorem dJ1_charAt_3b067_3 : decode cJ1_charAt_3b067 3 = .ok (.invokestatic 9, 3) := by decide +kernel
theorem dJ1_charAt_3b067_6 : decode cJ1_charAt_3b067 6 = .ok (.aload_n 0, 1) := by decide +kernel
theorem dJ1_charAt_3b067_7 : decode cJ1_charAt_3b067 7 = .ok (.iload_n 1, 1) := by decide +kernel
theorem dJ1_charAt_3b067_8 : decode cJ1_charAt_3b067 8 = .ok (.baload, 1) := by decide +kernel
theorem dJ1_charAt_3b067_9 : decode cJ1_charAt_3b067 9 = .ok (.sipush 255, 3) := by decide +kernel
theorem dJ1_charAt_3b067_12 : decode cJ1_charAt_3b067 12 = .ok (.iand, 1) := by decide +kernel
theorem dJ1_charAt_3b067_13 : decode cJ1_charAt_3b067 13 = .ok (.i2c, 1) := by decide +kernel
theorem dJ1_charAt_3b067_14 : decode cJ1_charAt_3b067 14 = .ok (.ireturn, 1) := by decide +kernel
theorem dJ2_getChar_3b067_0 : decode cJ2_getChar_3b067 0 = .ok (.getstatic 44, 3) := by decide +kernel
theorem dJ2_getChar_3b067_3 : decode cJ2_getChar_3b067 3 = .ok (.ifCond .ne 25, 3) := by decide +kernel
theorem dJ2_getChar_3b067_6 : decode cJ2_getChar_3b067 6 = .ok (.iload_n 1, 1) := by decide +kernel
theorem dJ2_getChar_3b067_7 : decode cJ2_getChar_3b067 7 = .ok (.ifCond .lt 11, 3) := by decide +kernel
theorem dJ2_getChar_3b067_10 : decode cJ2_getChar_3b067 10 = .ok (.iload_n 1, 1) := by decide +kernel
theorem dJ2_getChar_3b067_11 : decode cJ2_getChar_3b067 11 = .ok (.aload_n 0, 1) := by decide +kernel
theorem dJ2_getChar_3b067_12 : decode cJ2_getChar_3b067 12 = .ok (.invokestatic 48, 3) := by decide +kernel
theorem dJ2_getChar_3b067_15 : decode cJ2_getChar_3b067 15 = .ok (.if_icmp .lt 13, 3) := by decide +kernel
theorem dJ2_getChar_3b067_18 : decode cJ2_getChar_3b067 18 = .ok (.new 52, 3) := by decide +kernel
theorem dJ2_getChar_3b067_21 : decode cJ2_getChar_3b067 21 = .ok (.dup, 1) := by decide +kernel
theorem dJ2_getChar_3b067_22 : decode cJ2_getChar_3b067 22 = .ok (.ldc 54, 2) := by decide +kernel
theorem dJ2_getChar_3b067_24 : decode cJ2_getChar_3b067 24 = .ok (.invokespecial 56, 3) := by decide +kernel
theorem dJ2_getChar_3b067_27 : decode cJ2_getChar_3b067 27 = .ok (.athrow, 1) := by decide +kernel
theorem dJ2_getChar_3b067_28 : decode cJ2_getChar_3b067 28 = .ok (.iload_n 1, 1) := by decide +kernel
theorem dJ2_getChar_3b067_29 : decode cJ2_getChar_3b067 29 = .ok (.iconst 1, 1) := by decide +kernel
theorem dJ2_getChar_3b067_30 : decode cJ2_getChar_3b067 30 = .ok (.ishl, 1) := by decide +kernel
theorem dJ2_getChar_3b067_31 : decode cJ2_getChar_3b067 31 = .ok (.istore_n 1, 1) := by decide +kernel
theorem dJ2_getChar_3b067_32 : decode cJ2_getChar_3b067 32 = .ok (.aload_n 0, 1) := by decide +kernel
theorem dJ2_getChar_3b067_33 : decode cJ2_getChar_3b067 33 = .ok (.iload_n 1, 1) := by decide +kernel
theorem dJ2_getChar_3b067_34 : decode cJ2_getChar_3b067 34 = .ok (.iinc 1 1, 3) := by decide +kernel
theorem dJ2_getChar_3b067_37 : decode cJ2_getChar_3b067 37 = .ok (.baload, 1) := by decide +kernel
theorem dJ2_getChar_3b067_38 : decode cJ2_getChar_3b067 38 = .ok (.sipush 255, 3) := by decide +kernel
theorem dJ2_getChar_3b067_41 : decode cJ2_getChar_3b067 41 = .ok (.iand, 1) := by decide +kernel
theorem dJ2_getChar_3b067_42 : decode cJ2_getChar_3b067 42 = .ok (.getstatic 59, 3) := by decide +kernel
theorem dJ2_getChar_3b067_45 : decode cJ2_getChar_3b067 45 = .ok (.ishl, 1) := by decide +kernel
theorem dJ2_getChar_3b067_46 : decode cJ2_getChar_3b067 46 = .ok (.aload_n 0, 1) := by decide +kernel
theorem dJ2_getChar_3b067_47 : decode cJ2_getChar_3b067 47 = .ok (.iload_n 1, 1) := by decide +kernel
theorem dJ2_getChar_3b067_48 : decode cJ2_getChar_3b067 48 = .ok (.baload, 1) := by decide +kernel
theorem dJ2_getChar_3b067_49 : decode cJ2_getChar_3b067 49 = .ok (.sipush 255, 3) := by decide +kernel
theorem dJ2_getChar_3b067_52 : decode cJ2_getChar_3b067 52 = .ok (.iand, 1) := by decide +kernel
theorem dJ2_getChar_3b067_53 : decode cJ2_getChar_3b067 53 = .ok (.getstatic 63, 3) := by decide +kernel
theorem dJ2_getChar_3b067_56 : decode cJ2_getChar_3b067 56 = .ok (.ishl, 1) := by decide +kernel
theorem dJ2_getChar_3b067_57 : decode cJ2_getChar_3b067 57 = .ok (.ior, 1) := by decide +kernel
theorem dJ2_getChar_3b067_58 : decode cJ2_getChar_3b067 58 = .ok (.i2c, 1) := by decide +kernel
theorem dJ2_getChar_3b067_59 : decode cJ2_getChar_3b067 59 = .ok (.ireturn, 1) := by decide +kernel
theorem dJ2_length_9d52b_0 : decode cJ2_length_9d52b 0 = .ok (.aload_n 0, 1) := by decide +kernel
theorem dJ2_length_9d52b_1 : decode cJ2_length_9d52b 1 = .ok (.arraylength, 1) := by decide +kernel
theorem dJ2_length_9d52b_2 : decode cJ2_length_9d52b 2 = .ok (.iconst 1, 1) := by decide +kernel
theorem dJ2_length_9d52b_3 : decode cJ2_length_9d52b 3 = .ok (.ishr, 1) := by decide +kernel
theorem dJ2_length_9d52b_4 : decode cJ2_length_9d52b 4 = .ok (.ireturn, 1) := by decide +kernel
theorem dJ2_charAt_3b067_0 : decode cJ2_charAt_3b067 0 = .ok (.iload_n 1, 1) := by decide +kernel
theorem dJ2_charAt_3b067_1 : decode cJ2_charAt_3b067 1 = .ok (.aload_n 0, 1) := by decide +kernel
theorem dJ2_charAt_3b067_2 : decode cJ2_charAt_3b067 2 = .ok (.invokestatic 67, 3) := by decide +kernel
theorem dJ2_charAt_3b067_5 : decode cJ2_charAt_3b067 5 = .ok (.aload_n 0, 1) := by decide +kernel
theorem dJ2_charAt_3b067_6 : decode cJ2_charAt_3b067 6 = .ok (.iload_n 1, 1) := by decide +kernel
theorem dJ2_charAt_3b067_7 : decode cJ2_charAt_3b067 7 = .ok (.invokestatic 71, 3) := by decide +kernel
theorem dJ2_charAt_3b067_10 : decode cJ2_charAt_3b067 10 = .ok (.ireturn, 1) := by decide +kernel
theorem dJ2_checkIndex_2214a_0 : decode cJ2_checkIndex_2214a 0 = .ok (.iload_n 0, 1) := by decide +kernel
theorem dJ2_checkIndex_2214a_1 : decode cJ2_checkIndex_2214a 1 = .ok (.aload_n 1, 1) := by decide +kernel
theorem dJ2_checkIndex_2214a_2 : decode cJ2_checkIndex_2214a 2 = .ok (.invokestatic 48, 3) := by decide +kernel
theorem dJ2_checkIndex_2214a_5 : decode cJ2_checkIndex_2214a 5 = .ok (.invokestatic 414, 3) := by decide +kernel
theorem dJ2_checkIndex_2214a_8 : decode cJ2_checkIndex_2214a 8 = .ok (.return_, 1) := by decide +kernel
theorem dJ7_fill_53178_0 : decode cJ7_fill_53178 0 = .ok (.iconst 0, 1) := by decide +kernel
theorem dJ7_fill_53178_1 : decode cJ7_fill_53178 1 = .ok (.istore_n 2, 1) := by decide +kernel
theorem dJ7_fill_53178_2 : decode cJ7_fill_53178 2 = .ok (.aload_n 0, 1) := by decide +kernel
theorem dJ7_fill_53178_3 : decode cJ7_fill_53178 3 = .ok (.arraylength, 1) := by decide +kernel
theorem dJ7_fill_53178_4 : decode cJ7_fill_53178 4 = .ok (.istore_n 3, 1) := by decide +kernel
theorem dJ7_fill_53178_5 : decode cJ7_fill_53178 5 = .ok (.iload_n 2, 1) := by decide +kernel
theorem dJ7_fill_53178_6 : decode cJ7_fill_53178 6 = .ok (.iload_n 3, 1) := by decide +kernel
theorem dJ7_fill_53178_7 : decode cJ7_fill_53178 7 = .ok (.if_icmp .ge 13, 3) := by decide +kernel
theorem dJ7_fill_53178_10 : decode cJ7_fill_53178 10 = .ok (.aload_n 0, 1) := by decide +kernel
theorem dJ7_fill_53178_11 : decode cJ7_fill_53178 11 = .ok (.iload_n 2, 1) := by decide +kernel
theorem dJ7_fill_53178_12 : decode cJ7_fill_53178 12 = .ok (.iload_n 1, 1) := by decide +kernel
theorem dJ7_fill_53178_13 : decode cJ7_fill_53178 13 = .ok (.iastore, 1) := by decide +kernel
theorem dJ7_fill_53178_14 : decode cJ7_fill_53178 14 = .ok (.iinc 2 1, 3) := by decide +kernel
theorem dJ7_fill_53178_17 : decode cJ7_fill_53178 17 = .ok (.goto (-12), 3) := by decide +kernel
theorem dJ7_fill_53178_20 : decode cJ7_fill_53178 20 = .ok (.return_, 1) := by decide +kernel
theorem dJ3_checkIndex_8e157_0 : decode cJ3_checkIndex_8e157 0 = .ok (.iload_n 0, 1) := by decide +kernel
theorem dJ3_checkIndex_8e157_1 : decode cJ3_checkIndex_8e157 1 = .ok (.ifCond .lt 8, 3) := by decide +kernel
theorem dJ3_checkIndex_8e157_4 : decode cJ3_checkIndex_8e157 4 = .ok (.iload_n 0, 1) := by decide +kernel
theorem dJ3_checkIndex_8e157_5 : decode cJ3_checkIndex_8e157 5 = .ok (.iload_n 1, 1) := by decide +kernel
theorem dJ3_checkIndex_8e157_6 : decode cJ3_checkIndex_8e157 6 = .ok (.if_icmp .lt 10, 3) := by decide +kernel
theorem dJ3_checkIndex_8e157_9 : decode cJ3_checkIndex_8e157 9 = .ok (.aload_n 2, 1) := by decide +kernel
theorem dJ3_checkIndex_8e157_10 : decode cJ3_checkIndex_8e157 10 = .ok (.iload_n 0, 1) := by decide +kernel
theorem dJ3_checkIndex_8e157_11 : decode cJ3_checkIndex_8e157 11 = .ok (.iload_n 1, 1) := by decide +kernel
theorem dJ3_checkIndex_8e157_12 : decode cJ3_checkIndex_8e157 12 = .ok (.invokestatic 95, 3) := by decide +kernel
theorem dJ3_checkIndex_8e157_15 : decode cJ3_checkIndex_8e157 15 = .ok (.athrow, 1) := by decide +kernel
theorem dJ3_checkIndex_8e157_16 : decode cJ3_checkIndex_8e157 16 = .ok (.iload_n 0, 1) := by decide +kernel
theorem dJ3_checkIndex_8e157_17 : decode cJ3_checkIndex_8e157 17 = .ok (.ireturn, 1) := by decide +kernel
end
section
/-! MY LAYER: all cells of class, reference and law in one world, by number; a goal GG that speaks of numbers alone -/
abbrev St : Type := (Nat → Nat → Int32) × (Nat → Nat → Option Nat) × (Nat → Nat → Int64)
abbrev Lay : Type := va_G × (Nat → Nat) × (Nat → Nat) × (Nat → ClassId) × (State → Heap → Prop)
def u2 {α : Type} (f : Nat → Nat → α) (k j : Nat) (x : α) : Nat → Nat → α := fun a b => if a = k then if b = j then x else f a b else f a b
def uv (σ : St) (k j : Nat) (x : Int32) : St := (u2 σ.1 k j x, σ.2.1, σ.2.2)
def uq (σ : St) (k j : Nat) (x : Option Nat) : St := (σ.1, u2 σ.2.1 k j x, σ.2.2)
def ul (σ : St) (k j : Nat) (x : Int64) : St := (σ.1, σ.2.1, u2 σ.2.2 k j x)
def ur (σ : St) (k : Nat) (f : Nat → Int32) : St := (fun a => if a = k then f else σ.1 a, σ.2.1, σ.2.2)
abbrev qA (f : Nat → Option Nat) : (Nat → Int32) ⊕ (Nat → Int64) ⊕ (Nat → UInt32) ⊕ (Nat → UInt64) ⊕ (Nat → Option Nat) := .inr (.inr (.inr (.inr f)))
def NC : Nat := 228
def ct0 (g : Lay) (v : Nat → Int32) (q : Nat → Option Nat) (w : Nat → Int64) : Nat → va_E
  | 0 => .inr (7, [.ref (g.2.1 1), .ref (g.2.1 8), .int (v 2), .int (v 3)])
  | 1 => .inr (3, [.ref (g.2.1 2), .ref (g.2.1 7), .int (v 2), .int (v 3), .int (v 4), .int (v 5), .int (v 6), .int (v 7), .int (v 8)])
  | 2 => .inr (6, [.ref (g.2.1 3), .ref (g.2.1 4), .ref (g.2.1 5), .ref (g.2.1 6), .int (v 4)])
  | 3 => .inl (g.2.2.2.1 1, 900, .inl (v))
  | 4 => .inl (g.2.2.2.1 4, 901, qA (fun j => (q j).map g.2.2.1))
  | 5 => .inl (g.2.2.2.1 0, 901, .inl (v))
  | 6 => .inl (g.2.2.2.1 0, 901, .inl (v))
  | 7 => .inl (g.2.2.2.1 7, 60, qA (fun j => some (g.2.1 (108 + 2 * j))))
  | 8 => .inr (4, [.ref (g.2.1 9), .ref (g.2.1 10), .ref (g.2.1 11), .ref (g.2.1 13), .int (v 4), .int (v 5), .int (v 6), .int (v 7), .int (v 8)])
  | 9 => .inl (g.2.2.2.1 5, 8, qA (fun j => some (g.2.1 (34 + 7 * j))))
  | 10 => .inl (g.2.2.2.1 6, 6, qA (fun j => some (g.2.1 (90 + 3 * j))))
  | 11 => .inr (2, [.int 60, .int 6, .ref (g.2.1 12), .int (v 3)])
  | 12 => .inl (g.2.2.2.1 0, 360, .inl (v))
  | 13 => .inr (2, [.int 40, .int 4, .ref (g.2.1 14), .int (v 3)])
  | 14 => .inl (g.2.2.2.1 0, 160, .inl (v))
  | 15 => .inr (8, [.int (v 0), .int (v 1), .int (v 2), .int (v 3), .int (v 4), .int (v 5), .ref (g.2.1 16), .ref (g.2.1 17), .ref (g.2.1 18), .ref (g.2.1 19), .ref (g.2.1 20), .ref (g.2.1 21), .ref (g.2.1 22), .ref (g.2.1 23), .ref (g.2.1 24), .ref (g.2.1 25), .ref (g.2.1 26), .ref (g.2.1 27), .ref (g.2.1 28), .ref (g.2.1 29), .ref (g.2.1 30), .int (v 21), .int (v 22), .int (v 23), .int (v 24), .ref (g.2.1 31), .int (v 26), .int (v 27), .int (v 28), .int (v 29), .int (v 30), .int (v 31), .int (v 32), .int (v 33), .long (w 34), .int (v 35), .int (v 36), .int (v 37), .ref (g.2.1 32), .int (v 39)])
  | 16 => .inl (g.2.2.2.1 0, 8, .inl (v))
  | 17 => .inl (g.2.2.2.1 0, 1600, .inl (v))
  | 18 => .inl (g.2.2.2.1 0, 1600, .inl (v))
  | 19 => .inl (g.2.2.2.1 0, 1600, .inl (v))
  | 20 => .inl (g.2.2.2.1 0, 1600, .inl (v))
  | 21 => .inl (g.2.2.2.1 0, 1600, .inl (v))
  | 22 => .inl (g.2.2.2.1 0, 1600, .inl (v))
  | 23 => .inl (g.2.2.2.1 0, 6, .inl (v))
  | 24 => .inl (g.2.2.2.1 0, 6, .inl (v))
  | 25 => .inl (g.2.2.2.1 0, 6, .inl (v))
  | 26 => .inl (g.2.2.2.1 0, 36, .inl (v))
  | 27 => .inl (g.2.2.2.1 0, 1206, .inl (v))
  | 28 => .inl (g.2.2.2.1 2, 6, .inl (v))
  | 29 => .inl (g.2.2.2.1 0, 160, .inl (v))
  | 30 => .inl (g.2.2.2.1 0, 360, .inl (v))
  | 31 => .inl (g.2.2.2.1 0, 900, .inl (v))
  | 32 => .inl (g.2.2.2.1 0, 240, .inl (v))
  | _ => .inl (g.2.2.2.1 3, 1, .inr (.inl (w)))
def ctk (g : Lay) (k : Nat) (v : Nat → Int32) (q : Nat → Option Nat) (w : Nat → Int64) : va_E :=
  if k < 34 then ct0 g v q w k
  else if k < 90 then (if (k - 34) % 7 = 0 then .inr (0, [.ref (g.2.1 (k + 1)), .ref (g.2.1 (k + 2)), .ref (g.2.1 (k + 3)), .ref (g.2.1 (k + 4)), .ref (g.2.1 (k + 5)), .ref (g.2.1 (k + 6)), .int (v 6)]) else .inl (g.2.2.2.1 0, 201, .inl v))
  else if k < 108 then (if (k - 90) % 3 = 0 then .inr (1, [.ref (g.2.1 (k + 1)), .ref (g.2.1 (k + 2)), .int (v 2), .int (v 3), .int (v 4), .int (v 5)]) else if (k - 90) % 3 = 1 then .inl (g.2.2.2.1 0, 201, .inl v) else .inl (g.2.2.2.1 0, 6, .inl v))
  else if (k - 108) % 2 = 0 then .inr (5, [.ref (g.2.1 (k + 1)), va_re g.2.2.1 (q 1)]) else .inl (g.2.2.2.1 0, 3, .inl v)
def ct (g : Lay) (σ : St) (k : Nat) : va_E := ctk g k (σ.1 k) (σ.2.1 k) (σ.2.2 k)
def wl (g : Lay) (σ : St) : va_W := (List.range NC).map (fun k => (g.2.1 k, ct g σ k))
def tyG (g : Lay) : List (ClassId × FieldType) := [(g.2.2.2.1 0, .int), (g.2.2.2.1 1, .byte), (g.2.2.2.1 2, .boolean), (g.2.2.2.1 3, .long), (g.2.2.2.1 4, .object "ForkWatch$Kind"), (g.2.2.2.1 5, .object "ForkWatch$Branch"), (g.2.2.2.1 6, .object "ForkWatch$Client"), (g.2.2.2.1 7, .object "ForkWatch$Step")]
theorem ct_0 (g : Lay) (σ : St) : ct g σ 0 = .inr (7, [.ref (g.2.1 1), .ref (g.2.1 8), .int (σ.1 0 2), .int (σ.1 0 3)]) := rfl
theorem ct_1 (g : Lay) (σ : St) : ct g σ 1 = .inr (3, [.ref (g.2.1 2), .ref (g.2.1 7), .int (σ.1 1 2), .int (σ.1 1 3), .int (σ.1 1 4), .int (σ.1 1 5), .int (σ.1 1 6), .int (σ.1 1 7), .int (σ.1 1 8)]) := rfl
theorem ct_2 (g : Lay) (σ : St) : ct g σ 2 = .inr (6, [.ref (g.2.1 3), .ref (g.2.1 4), .ref (g.2.1 5), .ref (g.2.1 6), .int (σ.1 2 4)]) := rfl
theorem ct_3 (g : Lay) (σ : St) : ct g σ 3 = .inl (g.2.2.2.1 1, 900, .inl (σ.1 3)) := rfl
theorem ct_4 (g : Lay) (σ : St) : ct g σ 4 = .inl (g.2.2.2.1 4, 901, qA (fun j => (σ.2.1 4 j).map g.2.2.1)) := rfl
theorem ct_5 (g : Lay) (σ : St) : ct g σ 5 = .inl (g.2.2.2.1 0, 901, .inl (σ.1 5)) := rfl
theorem ct_6 (g : Lay) (σ : St) : ct g σ 6 = .inl (g.2.2.2.1 0, 901, .inl (σ.1 6)) := rfl
theorem ct_7 (g : Lay) (σ : St) : ct g σ 7 = .inl (g.2.2.2.1 7, 60, qA (fun j => some (g.2.1 (108 + 2 * j)))) := rfl
theorem ct_8 (g : Lay) (σ : St) : ct g σ 8 = .inr (4, [.ref (g.2.1 9), .ref (g.2.1 10), .ref (g.2.1 11), .ref (g.2.1 13), .int (σ.1 8 4), .int (σ.1 8 5), .int (σ.1 8 6), .int (σ.1 8 7), .int (σ.1 8 8)]) := rfl
theorem ct_9 (g : Lay) (σ : St) : ct g σ 9 = .inl (g.2.2.2.1 5, 8, qA (fun j => some (g.2.1 (34 + 7 * j)))) := rfl
theorem ct_10 (g : Lay) (σ : St) : ct g σ 10 = .inl (g.2.2.2.1 6, 6, qA (fun j => some (g.2.1 (90 + 3 * j)))) := rfl
theorem ct_11 (g : Lay) (σ : St) : ct g σ 11 = .inr (2, [.int 60, .int 6, .ref (g.2.1 12), .int (σ.1 11 3)]) := rfl
theorem ct_12 (g : Lay) (σ : St) : ct g σ 12 = .inl (g.2.2.2.1 0, 360, .inl (σ.1 12)) := rfl
theorem ct_13 (g : Lay) (σ : St) : ct g σ 13 = .inr (2, [.int 40, .int 4, .ref (g.2.1 14), .int (σ.1 13 3)]) := rfl
theorem ct_14 (g : Lay) (σ : St) : ct g σ 14 = .inl (g.2.2.2.1 0, 160, .inl (σ.1 14)) := rfl
theorem ct_15 (g : Lay) (σ : St) : ct g σ 15 = .inr (8, [.int (σ.1 15 0), .int (σ.1 15 1), .int (σ.1 15 2), .int (σ.1 15 3), .int (σ.1 15 4), .int (σ.1 15 5), .ref (g.2.1 16), .ref (g.2.1 17), .ref (g.2.1 18), .ref (g.2.1 19), .ref (g.2.1 20), .ref (g.2.1 21), .ref (g.2.1 22), .ref (g.2.1 23), .ref (g.2.1 24), .ref (g.2.1 25), .ref (g.2.1 26), .ref (g.2.1 27), .ref (g.2.1 28), .ref (g.2.1 29), .ref (g.2.1 30), .int (σ.1 15 21), .int (σ.1 15 22), .int (σ.1 15 23), .int (σ.1 15 24), .ref (g.2.1 31), .int (σ.1 15 26), .int (σ.1 15 27), .int (σ.1 15 28), .int (σ.1 15 29), .int (σ.1 15 30), .int (σ.1 15 31), .int (σ.1 15 32), .int (σ.1 15 33), .long (σ.2.2 15 34), .int (σ.1 15 35), .int (σ.1 15 36), .int (σ.1 15 37), .ref (g.2.1 32), .int (σ.1 15 39)]) := rfl
theorem ct_16 (g : Lay) (σ : St) : ct g σ 16 = .inl (g.2.2.2.1 0, 8, .inl (σ.1 16)) := rfl
theorem ct_17 (g : Lay) (σ : St) : ct g σ 17 = .inl (g.2.2.2.1 0, 1600, .inl (σ.1 17)) := rfl
theorem ct_18 (g : Lay) (σ : St) : ct g σ 18 = .inl (g.2.2.2.1 0, 1600, .inl (σ.1 18)) := rfl
theorem ct_19 (g : Lay) (σ : St) : ct g σ 19 = .inl (g.2.2.2.1 0, 1600, .inl (σ.1 19)) := rfl
theorem ct_20 (g : Lay) (σ : St) : ct g σ 20 = .inl (g.2.2.2.1 0, 1600, .inl (σ.1 20)) := rfl
theorem ct_21 (g : Lay) (σ : St) : ct g σ 21 = .inl (g.2.2.2.1 0, 1600, .inl (σ.1 21)) := rfl
theorem ct_22 (g : Lay) (σ : St) : ct g σ 22 = .inl (g.2.2.2.1 0, 1600, .inl (σ.1 22)) := rfl
theorem ct_23 (g : Lay) (σ : St) : ct g σ 23 = .inl (g.2.2.2.1 0, 6, .inl (σ.1 23)) := rfl
theorem ct_24 (g : Lay) (σ : St) : ct g σ 24 = .inl (g.2.2.2.1 0, 6, .inl (σ.1 24)) := rfl
theorem ct_25 (g : Lay) (σ : St) : ct g σ 25 = .inl (g.2.2.2.1 0, 6, .inl (σ.1 25)) := rfl
theorem ct_26 (g : Lay) (σ : St) : ct g σ 26 = .inl (g.2.2.2.1 0, 36, .inl (σ.1 26)) := rfl
theorem ct_27 (g : Lay) (σ : St) : ct g σ 27 = .inl (g.2.2.2.1 0, 1206, .inl (σ.1 27)) := rfl
theorem ct_28 (g : Lay) (σ : St) : ct g σ 28 = .inl (g.2.2.2.1 2, 6, .inl (σ.1 28)) := rfl
theorem ct_29 (g : Lay) (σ : St) : ct g σ 29 = .inl (g.2.2.2.1 0, 160, .inl (σ.1 29)) := rfl
theorem ct_30 (g : Lay) (σ : St) : ct g σ 30 = .inl (g.2.2.2.1 0, 360, .inl (σ.1 30)) := rfl
theorem ct_31 (g : Lay) (σ : St) : ct g σ 31 = .inl (g.2.2.2.1 0, 900, .inl (σ.1 31)) := rfl
theorem ct_32 (g : Lay) (σ : St) : ct g σ 32 = .inl (g.2.2.2.1 0, 240, .inl (σ.1 32)) := rfl
theorem ct_33 (g : Lay) (σ : St) : ct g σ 33 = .inl (g.2.2.2.1 3, 1, .inr (.inl (σ.2.2 33))) := rfl
theorem ct_br (g : Lay) (σ : St) {b : Nat} (hb : b < 8) : ct g σ (34 + 7 * b) = .inr (0, [.ref (g.2.1 (34 + 7 * b + 1)), .ref (g.2.1 (34 + 7 * b + 2)), .ref (g.2.1 (34 + 7 * b + 3)), .ref (g.2.1 (34 + 7 * b + 4)), .ref (g.2.1 (34 + 7 * b + 5)), .ref (g.2.1 (34 + 7 * b + 6)), .int (σ.1 (34 + 7 * b) 6)]) := by
  unfold ct ctk
  rw [if_neg (by omega), if_pos (by omega), if_pos (by omega)]
theorem ct_ba (g : Lay) (σ : St) {b j : Nat} (hb : b < 8) (h1 : 1 ≤ j) (h2 : j ≤ 6) : ct g σ (34 + 7 * b + j) = .inl (g.2.2.2.1 0, 201, .inl (σ.1 (34 + 7 * b + j))) := by
  unfold ct ctk
  rw [if_neg (by omega), if_pos (by omega), if_neg (by omega)]
theorem ct_cl (g : Lay) (σ : St) {c : Nat} (hc : c < 6) : ct g σ (90 + 3 * c) = .inr (1, [.ref (g.2.1 (90 + 3 * c + 1)), .ref (g.2.1 (90 + 3 * c + 2)), .int (σ.1 (90 + 3 * c) 2), .int (σ.1 (90 + 3 * c) 3), .int (σ.1 (90 + 3 * c) 4), .int (σ.1 (90 + 3 * c) 5)]) := by
  unfold ct ctk
  rw [if_neg (by omega), if_neg (by omega), if_pos (by omega), if_pos (by omega)]
theorem ct_ch (g : Lay) (σ : St) {c : Nat} (hc : c < 6) : ct g σ (90 + 3 * c + 1) = .inl (g.2.2.2.1 0, 201, .inl (σ.1 (90 + 3 * c + 1))) := by
  unfold ct ctk
  rw [if_neg (by omega), if_neg (by omega), if_pos (by omega), if_neg (by omega), if_pos (by omega)]
theorem ct_cc (g : Lay) (σ : St) {c : Nat} (hc : c < 6) : ct g σ (90 + 3 * c + 2) = .inl (g.2.2.2.1 0, 6, .inl (σ.1 (90 + 3 * c + 2))) := by
  unfold ct ctk
  rw [if_neg (by omega), if_neg (by omega), if_pos (by omega), if_neg (by omega), if_neg (by omega)]
theorem ct_sp (g : Lay) (σ : St) {i : Nat} (hi : i < 60) : ct g σ (108 + 2 * i) = .inr (5, [.ref (g.2.1 (108 + 2 * i + 1)), va_re g.2.2.1 (σ.2.1 (108 + 2 * i) 1)]) := by
  unfold ct ctk
  rw [if_neg (by omega), if_neg (by omega), if_neg (by omega), if_pos (by omega)]
theorem ct_sn (g : Lay) (σ : St) {i : Nat} (hi : i < 60) : ct g σ (108 + 2 * i + 1) = .inl (g.2.2.2.1 0, 3, .inl (σ.1 (108 + 2 * i + 1))) := by
  unfold ct ctk
  rw [if_neg (by omega), if_neg (by omega), if_neg (by omega), if_neg (by omega)]
theorem wl_get (g : Lay) (σ : St) {k : Nat} (hk : k < NC) : (wl g σ)[k]? = some (g.2.1 k, ct g σ k) := by
  simp [wl, hk]
theorem wl_set (g : Lay) (σ σ' : St) {k : Nat} (hk : k < NC) (h : ∀ j, j ≠ k → ct g σ' j = ct g σ j) : (wl g σ).set k (g.2.1 k, ct g σ' k) = wl g σ' := by
  apply List.ext_getElem?
  intro i
  by_cases hi : i = k
  · subst hi
    rw [wl_get g σ' hk, List.getElem?_set_self (by simp [wl]; exact hk)]
  · rw [List.getElem?_set_ne (Ne.symm hi)]
    by_cases hN : i < NC
    · rw [wl_get g σ hN, wl_get g σ' hN, h i hi]
    · rw [List.getElem?_eq_none (by simp [wl]; omega), List.getElem?_eq_none (by simp [wl]; omega)]
theorem u2_ne {α : Type} (f : Nat → Nat → α) (k j : Nat) (x : α) {i : Nat} (h : i ≠ k) : u2 f k j x i = f i := by
  funext b
  simp [u2, h]
theorem ct_uv (g : Lay) (σ : St) (k j : Nat) (x : Int32) {i : Nat} (h : i ≠ k) : ct g (uv σ k j x) i = ct g σ i := by
  simp [ct, uv, u2_ne _ _ _ _ h]
theorem ct_uq (g : Lay) (σ : St) (k j : Nat) (x : Option Nat) {i : Nat} (h : i ≠ k) : ct g (uq σ k j x) i = ct g σ i := by
  simp [ct, uq, u2_ne _ _ _ _ h]
theorem ct_ul (g : Lay) (σ : St) (k j : Nat) (x : Int64) {i : Nat} (h : i ≠ k) : ct g (ul σ k j x) i = ct g σ i := by
  simp [ct, ul, u2_ne _ _ _ _ h]
theorem ct_ur (g : Lay) (σ : St) (k : Nat) (f : Nat → Int32) {i : Nat} (h : i ≠ k) : ct g (ur σ k f) i = ct g σ i := by
  simp [ct, ur, h]
theorem uv_row (σ : St) (k j : Nat) (x : Int32) : (uv σ k j x).1 k = fun b => if b = j then x else σ.1 k b := by
  funext b
  simp [uv, u2]
theorem ul_row (σ : St) (k j : Nat) (x : Int64) : (ul σ k j x).2.2 k = fun b => if b = j then x else σ.2.2 k b := by
  funext b
  simp [ul, u2]
theorem uq_row (σ : St) (k j : Nat) (x : Option Nat) : (uq σ k j x).2.1 k = fun b => if b = j then x else σ.2.1 k b := by
  funext b
  simp [uq, u2]
theorem ur_row (σ : St) (k : Nat) (f : Nat → Int32) : (ur σ k f).1 k = f := by simp [ur]
/-- what stays true of the cells below z0 whatever is done above, and of tables that are warmer -/
def XOk (z0 : Nat) (X : State → Heap → Prop) : Prop := (∀ (s U : State) (H : Heap), s.WarmedH U.vm → X s H → X U H) ∧ ∀ (U : State) (H H1 : Heap), X U H → (∀ a : Nat, a < H.size → ¬ z0 ≤ a → H1[a]? = H[a]?) → X U H1
def WT (U : State) : Prop := ∀ w ∈ lw_tbl, goodWord w = true → ∀ a : Array Value, w.before a U = true
def WIn (w : Cond) : Prop := w ∈ lw_tbl ∧ goodWord w = true
def WK (g : Lay) (z0 : Nat) (U : State) : Prop := va_K g.1 vwCl (tyG g) U ∧ (∀ i j, i < NC → j < NC → g.2.1 i = g.2.1 j → i = j) ∧ (∀ k, k < NC → z0 ≤ g.2.1 k) ∧ WT U ∧ XOk z0 g.2.2.2.2
def WU (g : Lay) (z0 : Nat) (σ : St) (U : State) : Prop := va_P g.1 vwCl (wl g σ) U.heap ∧ WK g z0 U ∧ z0 ≤ U.heap.size ∧ g.2.2.2.2 U U.heap
theorem WT.moved {s U : State} (hW : s.WarmedH U.vm) (h : WT s) : WT U := fun w hw hg a => word_at (args := a) hW (good_of_word hg) (h w hw hg a)
theorem WK.moved {g : Lay} {z0 : Nat} {s U : State} (hW : s.WarmedH U.vm) (h : WK g z0 s) : WK g z0 U := ⟨va_K.moved hW.alike h.1, h.2.1, h.2.2.1, h.2.2.2.1.moved hW, h.2.2.2.2⟩
theorem wl_D {g : Lay} {z0 : Nat} {U : State} (h : WK g z0 U) (σ : St) : va_D (fun q => z0 ≤ q) (wl g σ) := by
  have key : ∀ (k : Nat) (q : Nat × va_E), (wl g σ)[k]? = some q → k < NC ∧ q = (g.2.1 k, ct g σ k) := by
    intro k q hq
    have hk : k < NC := by
      have := (List.getElem?_eq_some_iff.mp hq).1
      simpa [wl] using this
    rw [wl_get g σ hk] at hq
    exact ⟨hk, (Option.some.inj hq).symm⟩
  refine ⟨fun i j p q hi hj hpq => ?_, fun k q hk => ?_⟩
  · obtain ⟨h1, rfl⟩ := key i p hi
    obtain ⟨h2, rfl⟩ := key j q hj
    exact h.2.1 i j h1 h2 hpq
  · obtain ⟨h1, rfl⟩ := key k q hk
    exact h.2.2.1 k h1
abbrev Ctx : Type := Program × Launch × Env × Room × State × MethodId × Array Value × List Frame × Method × Code
abbrev Ctx.pr (x : Ctx) : Program := x.1
abbrev Ctx.la (x : Ctx) : Launch := x.2.1
abbrev Ctx.en (x : Ctx) : Env := x.2.2.1
abbrev Ctx.ro (x : Ctx) : Room := x.2.2.2.1
abbrev Ctx.s (x : Ctx) : State := x.2.2.2.2.1
abbrev Ctx.m (x : Ctx) : MethodId := x.2.2.2.2.2.1
abbrev Ctx.ar (x : Ctx) : Array Value := x.2.2.2.2.2.2.1
abbrev Ctx.be (x : Ctx) : List Frame := x.2.2.2.2.2.2.2.1
abbrev Ctx.me (x : Ctx) : Method := x.2.2.2.2.2.2.2.2.1
abbrev Ctx.co (x : Ctx) : Code := x.2.2.2.2.2.2.2.2.2
/-- what a method's body knows: the machine, its code, its class, the tables, its room (h calls deep) -/
def Cx (x : Ctx) (own : String) (cc : ByteArray) (nL : Nat) (ret : Option FieldType) (h : Nat) (g : Lay) (z0 : Nat) : Prop :=
  x.pr.tables.exec = Jvm.exec ∧ x.co.code = cc ∧ x.co.maxLocals = nL ∧ x.s.vm.findClass own = some x.m.cls ∧ x.me.locks = false ∧ x.me.sig.returnType = ret ∧ (h ≤ x.ro.frames ∧ 40 * h ≤ x.ro.locals) ∧ WK g z0 x.s ∧ z0 ≤ x.s.heap.size ∧ g.2.2.2.2 x.s x.s.heap
/-- the goal: with the cells as σ says, at pc, with these locals and this stack, the method comes to Q -/
def GG (x : Ctx) (g : Lay) (z0 nL n1 n2 : Nat) (Q : State → Prop) (σ : St) (pc : Nat) (lv : List (Nat × Value)) (st : List Value) : Prop :=
  ∀ (H : Heap) (locs : List Loc) (ls : Array Slot), va_P g.1 vwCl (wl g σ) H → va_S (fun q => z0 ≤ q) x.s.heap H locs → lv_has ls nL lv → W x.1 x.2.1 x.2.2.1 x.2.2.2.1 x.2.2.2.2.1 x.2.2.2.2.2.1 x.2.2.2.2.2.2.1 x.2.2.2.2.2.2.2.1 x.2.2.2.2.2.2.2.2.1 x.2.2.2.2.2.2.2.2.2 H locs n1 n2 Q (F0 x.2.2.2.2.2.1 pc ls st)
def rmH (h : Nat) : Room := { frames := h, cells := 0, slots := 0, locals := 40 * h }
abbrev Bw (g : Lay) : St → State → Prop := fun σ t => va_P g.1 vwCl (wl g σ) t.heap
/-- contracts: an int, nothing, a constant of the enum -/
def CTi (l : Launch) (y : MethodName) (cc : ByteArray) (nL : Nat) (ret : Option FieldType) (h : Nat) (g : Lay) (z0 : Nat) (av : List Value) (σ : St) (post : Int32 → St → Prop) : Prop :=
  Met l y [.code y cc nL ret] (rmH h) (va_Pc av (WU g z0 σ)) (va_Qi post (Bw g) (fun q => z0 ≤ q)) 0 0 (fun q => z0 ≤ q)
def CTv (l : Launch) (y : MethodName) (cc : ByteArray) (nL : Nat) (h : Nat) (g : Lay) (z0 : Nat) (av : List Value) (σ : St) (post : St → Prop) : Prop :=
  Met l y [.code y cc nL none] (rmH h) (va_Pc av (WU g z0 σ)) (va_Qv post (Bw g) (fun q => z0 ≤ q)) 0 0 (fun q => z0 ≤ q)
def CTe (l : Launch) (y : MethodName) (cc : ByteArray) (nL : Nat) (ret : Option FieldType) (h : Nat) (g : Lay) (z0 : Nat) (av : List Value) (σ : St) (post : Option Nat → St → Prop) : Prop :=
  Met l y [.code y cc nL ret] (rmH h) (va_Pc av (WU g z0 σ)) (va_Qe g.2.2.1 post (Bw g) (fun q => z0 ≤ q)) 0 0 (fun q => z0 ≤ q)
def Qi (x : Ctx) (g : Lay) (z0 : Nat) (post : Int32 → St → Prop) : State → Prop := MQ x.2.2.2.2.2.2.2.1 (va_Qi post (Bw g) (fun q => z0 ≤ q)) x.2.2.2.2.2.2.1 x.2.2.2.2.1 0 0 (fun q => z0 ≤ q)
def Qv (x : Ctx) (g : Lay) (z0 : Nat) (post : St → Prop) : State → Prop := MQ x.2.2.2.2.2.2.2.1 (va_Qv post (Bw g) (fun q => z0 ≤ q)) x.2.2.2.2.2.2.1 x.2.2.2.2.1 0 0 (fun q => z0 ≤ q)
def Qe (x : Ctx) (g : Lay) (z0 : Nat) (post : Option Nat → St → Prop) : State → Prop := MQ x.2.2.2.2.2.2.2.1 (va_Qe g.2.2.1 post (Bw g) (fun q => z0 ≤ q)) x.2.2.2.2.2.2.1 x.2.2.2.2.1 0 0 (fun q => z0 ≤ q)
section START
variable {l : Launch} {y : MethodName} {cc : ByteArray} {nL : Nat} {ret : Option FieldType} {h : Nat} {g : Lay} {z0 : Nat} {av : List Value} {σ : St}
theorem start_W {Qc : Array Value → State → Outcome → State → Prop} (hy : plainName y.cls = true) (hn : (lg_sl av).length ≤ nL)
    (body : ∀ x : Ctx, x.2.1 = l → x.2.2.2.2.2.2.1 = av.toArray → Cx x y.cls cc nL ret h g z0 → GG x g z0 nL 0 0 (MQ x.2.2.2.2.2.2.2.1 Qc x.2.2.2.2.2.2.1 x.2.2.2.2.1 0 0 (fun q => z0 ≤ q)) σ 0 (lv_args 0 av) []) :
    Met l y [.code y cc nL ret] (rmH h) (va_Pc av (WU g z0 σ)) Qc 0 0 (fun q => z0 ≤ q) := by
  refine Met.ofW (cc := cc) (maxL := nL) (ret := ret) hy rfl ?_
  intro p e s m args below meth c s₁ B hml hv
  obtain ⟨rfl, hP, hK, hz, hX⟩ := hv
  have hown : s.vm.findClass y.cls = some m.cls := findClass_of_methodNamed B.named
  have hl := lv_entry av (n := nL) hn
  rw [lg_entry_eq]
  exact body (p, l, e, rmH h, s, m, av.toArray, below, meth, c) rfl rfl ⟨B.exec, B.bytes, hml, hown, B.notSynchronized, B.returns, ⟨Nat.le_refl _, Nat.le_refl _⟩, hK, hz, hX⟩ s.heap [] _ hP va_S.rf hl
theorem CTi.of {post : Int32 → St → Prop} (hy : plainName y.cls = true) (hn : (lg_sl av).length ≤ nL) (body : ∀ x : Ctx, x.2.1 = l → x.2.2.2.2.2.2.1 = av.toArray → Cx x y.cls cc nL ret h g z0 → GG x g z0 nL 0 0 (Qi x g z0 post) σ 0 (lv_args 0 av) []) : CTi l y cc nL ret h g z0 av σ post := start_W hy hn body
theorem CTv.of {post : St → Prop} (hy : plainName y.cls = true) (hn : (lg_sl av).length ≤ nL) (body : ∀ x : Ctx, x.2.1 = l → x.2.2.2.2.2.2.1 = av.toArray → Cx x y.cls cc nL none h g z0 → GG x g z0 nL 0 0 (Qv x g z0 post) σ 0 (lv_args 0 av) []) : CTv l y cc nL h g z0 av σ post := start_W hy hn body
theorem CTe.of {post : Option Nat → St → Prop} (hy : plainName y.cls = true) (hn : (lg_sl av).length ≤ nL) (body : ∀ x : Ctx, x.2.1 = l → x.2.2.2.2.2.2.1 = av.toArray → Cx x y.cls cc nL ret h g z0 → GG x g z0 nL 0 0 (Qe x g z0 post) σ 0 (lv_args 0 av) []) : CTe l y cc nL ret h g z0 av σ post := start_W hy hn body
end START
section ROWS
variable {x : Ctx} {g : Lay} {z0 nL n1 n2 h : Nat} {Q : State → Prop} {σ : St} {pc : Nat} {lv lv' : List (Nat × Value)} {st : List Value} {own : String} {cc : ByteArray} {ret : Option FieldType}
theorem gg_lv (k : GG x g z0 nL n1 n2 Q σ pc lv' st) (ks : List Nat) (hl : lv_pick lv ks = lv') : GG x g z0 nL n1 n2 Q σ pc lv st := fun H locs ls hP hS h => k H locs ls hP hS (lv_sub h ks hl)
theorem gg_topi {a b : Int32} (e : a = b) (k : GG x g z0 nL n1 n2 Q σ pc lv (.int b :: st)) : GG x g z0 nL n1 n2 Q σ pc lv (.int a :: st) := e ▸ k
theorem gg_topl {a b : Int64} (e : a = b) (k : GG x g z0 nL n1 n2 Q σ pc lv (.long b :: st)) : GG x g z0 nL n1 n2 Q σ pc lv (.long a :: st) := e ▸ k
theorem gg_st {σ' : St} (e : σ = σ') (k : GG x g z0 nL n1 n2 Q σ' pc lv st) : GG x g z0 nL n1 n2 Q σ pc lv st := e ▸ k
theorem gg_nmi {a : Int32} (k : ∀ b : Int32, b = a → GG x g z0 nL n1 n2 Q σ pc lv (.int b :: st)) : GG x g z0 nL n1 n2 Q σ pc lv (.int a :: st) := k a rfl
theorem gg_nml {a : Int64} (k : ∀ b : Int64, b = a → GG x g z0 nL n1 n2 Q σ pc lv (.long b :: st)) : GG x g z0 nL n1 n2 Q σ pc lv (.long a :: st) := k a rfl
theorem wWIn {w : Cond} (hC : Cx x own cc nL ret h g z0) (hw : WIn w) : w.before x.2.2.2.2.2.2.1 x.2.2.2.2.1 = true := hC.2.2.2.2.2.2.2.1.2.2.2.1 w hw.1 hw.2 _
theorem g_iconst {pc' : Nat} {n : Int} {v : Int32} (hC : Cx x own cc nL ret h g z0) (hd : decode cc pc = .ok (.iconst n, 1)) (hp : pc + 1 = pc') (hv : Int32.ofInt n = v) (k : GG x g z0 nL n1 n2 Q σ pc' lv (.int v :: st)) : GG x g z0 nL n1 n2 Q σ pc lv (st) := fun H locs ls hP hS hl => lv_iconst hC.1 hC.2.1 hd hv (hp ▸ k H locs ls hP hS hl)
theorem g_bipush {pc' : Nat} {n : Int} {v : Int32} (hC : Cx x own cc nL ret h g z0) (hd : decode cc pc = .ok (.bipush n, 2)) (hp : pc + 2 = pc') (hv : (Int8.ofInt n).toInt32 = v) (k : GG x g z0 nL n1 n2 Q σ pc' lv (.int v :: st)) : GG x g z0 nL n1 n2 Q σ pc lv (st) := fun H locs ls hP hS hl => lv_bipush hC.1 hC.2.1 hd hv (hp ▸ k H locs ls hP hS hl)
theorem g_sipush {pc' : Nat} {n : Int} {v : Int32} (hC : Cx x own cc nL ret h g z0) (hd : decode cc pc = .ok (.sipush n, 3)) (hp : pc + 3 = pc') (hv : (Int16.ofInt n).toInt32 = v) (k : GG x g z0 nL n1 n2 Q σ pc' lv (.int v :: st)) : GG x g z0 nL n1 n2 Q σ pc lv (st) := fun H locs ls hP hS hl => lv_sipush hC.1 hC.2.1 hd hv (hp ▸ k H locs ls hP hS hl)
theorem g_lconst {pc' : Nat} {n : Fin 2} {v : Int64} (hC : Cx x own cc nL ret h g z0) (hd : decode cc pc = .ok (.lconst n, 1)) (hp : pc + 1 = pc') (hv : Int64.ofNat (n : Nat) = v) (k : GG x g z0 nL n1 n2 Q σ pc' lv (.long v :: st)) : GG x g z0 nL n1 n2 Q σ pc lv (st) := fun H locs ls hP hS hl => lv_lconst hC.1 hC.2.1 hd hv (hp ▸ k H locs ls hP hS hl)
theorem g_iload_n {pc' : Nat} {k : Fin 4} {i j : Nat} {v : Int32} (hC : Cx x own cc nL ret h g z0) (hd : decode cc pc = .ok (.iload_n k, 1)) (hp : pc + 1 = pc') (hi : (k : Nat) = i) (hj : lv[j]? = some (i, .int v)) (k : GG x g z0 nL n1 n2 Q σ pc' lv (.int v :: st)) : GG x g z0 nL n1 n2 Q σ pc lv st := fun H locs ls hP hS hl => lv_iload_n hC.1 hC.2.1 hd hi (lv_at hl j hj) (hp ▸ k H locs ls hP hS hl)
theorem g_iload {pc' : Nat} {i j : Nat} {v : Int32} (hC : Cx x own cc nL ret h g z0) (hd : decode cc pc = .ok (.iload i, 2)) (hp : pc + 2 = pc') (hj : lv[j]? = some (i, .int v)) (k : GG x g z0 nL n1 n2 Q σ pc' lv (.int v :: st)) : GG x g z0 nL n1 n2 Q σ pc lv st := fun H locs ls hP hS hl => lv_iload hC.1 hC.2.1 hd (lv_at hl j hj) (hp ▸ k H locs ls hP hS hl)
theorem g_istore_n {pc' : Nat} {k : Fin 4} {i : Nat} {v : Int32} (hC : Cx x own cc nL ret h g z0) (hd : decode cc pc = .ok (.istore_n k, 1)) (hp : pc + 1 = pc') (hi : (k : Nat) = i) (hn : i < nL) (hl : (i, Value.int v) :: lv.filter (fun q => !(q.1 == i) && !(q.1 + 1 == i && q.2.category == 2)) = lv') (k : GG x g z0 nL n1 n2 Q σ pc' lv' st) : GG x g z0 nL n1 n2 Q σ pc lv (.int v :: st) := fun H locs ls hP hS hl0 => lv_istore_n hC.1 hC.2.1 hd hi hl0 hn hl (fun ls' hl' => hp ▸ k H locs ls' hP hS hl')
theorem g_istore {pc' : Nat} {i : Nat} {v : Int32} (hC : Cx x own cc nL ret h g z0) (hd : decode cc pc = .ok (.istore i, 2)) (hp : pc + 2 = pc') (hn : i < nL) (hl : (i, Value.int v) :: lv.filter (fun q => !(q.1 == i) && !(q.1 + 1 == i && q.2.category == 2)) = lv') (k : GG x g z0 nL n1 n2 Q σ pc' lv' st) : GG x g z0 nL n1 n2 Q σ pc lv (.int v :: st) := fun H locs ls hP hS hl0 => lv_istore hC.1 hC.2.1 hd hl0 hn hl (fun ls' hl' => hp ▸ k H locs ls' hP hS hl')
theorem g_lload_n {pc' : Nat} {k : Fin 4} {i j : Nat} {v : Int64} (hC : Cx x own cc nL ret h g z0) (hd : decode cc pc = .ok (.lload_n k, 1)) (hp : pc + 1 = pc') (hi : (k : Nat) = i) (hj : lv[j]? = some (i, .long v)) (k : GG x g z0 nL n1 n2 Q σ pc' lv (.long v :: st)) : GG x g z0 nL n1 n2 Q σ pc lv st := fun H locs ls hP hS hl => lv_lload_n hC.1 hC.2.1 hd hi (lv_at hl j hj) (hp ▸ k H locs ls hP hS hl)
theorem g_lload {pc' : Nat} {i j : Nat} {v : Int64} (hC : Cx x own cc nL ret h g z0) (hd : decode cc pc = .ok (.lload i, 2)) (hp : pc + 2 = pc') (hj : lv[j]? = some (i, .long v)) (k : GG x g z0 nL n1 n2 Q σ pc' lv (.long v :: st)) : GG x g z0 nL n1 n2 Q σ pc lv st := fun H locs ls hP hS hl => lv_lload hC.1 hC.2.1 hd (lv_at hl j hj) (hp ▸ k H locs ls hP hS hl)
theorem g_lstore_n {pc' : Nat} {k : Fin 4} {i : Nat} {v : Int64} (hC : Cx x own cc nL ret h g z0) (hd : decode cc pc = .ok (.lstore_n k, 1)) (hp : pc + 1 = pc') (hi : (k : Nat) = i) (hn : i + 1 < nL) (hl : (i, Value.long v) :: lv.filter (fun q => !(q.1 == i) && (!(q.1 == i + 1) && !(q.1 + 1 == i && q.2.category == 2))) = lv') (k : GG x g z0 nL n1 n2 Q σ pc' lv' st) : GG x g z0 nL n1 n2 Q σ pc lv (.long v :: st) := fun H locs ls hP hS hl0 => lv_lstore_n hC.1 hC.2.1 hd hi hl0 hn hl (fun ls' hl' => hp ▸ k H locs ls' hP hS hl')
theorem g_lstore {pc' : Nat} {i : Nat} {v : Int64} (hC : Cx x own cc nL ret h g z0) (hd : decode cc pc = .ok (.lstore i, 2)) (hp : pc + 2 = pc') (hn : i + 1 < nL) (hl : (i, Value.long v) :: lv.filter (fun q => !(q.1 == i) && (!(q.1 == i + 1) && !(q.1 + 1 == i && q.2.category == 2))) = lv') (k : GG x g z0 nL n1 n2 Q σ pc' lv' st) : GG x g z0 nL n1 n2 Q σ pc lv (.long v :: st) := fun H locs ls hP hS hl0 => lv_lstore hC.1 hC.2.1 hd hl0 hn hl (fun ls' hl' => hp ▸ k H locs ls' hP hS hl')
theorem g_aload_n {pc' : Nat} {k : Fin 4} {i j : Nat} {v : Nat} (hC : Cx x own cc nL ret h g z0) (hd : decode cc pc = .ok (.aload_n k, 1)) (hp : pc + 1 = pc') (hi : (k : Nat) = i) (hj : lv[j]? = some (i, .ref v)) (k : GG x g z0 nL n1 n2 Q σ pc' lv (.ref v :: st)) : GG x g z0 nL n1 n2 Q σ pc lv st := fun H locs ls hP hS hl => lv_aload_n hC.1 hC.2.1 hd hi (lv_at hl j hj) (hp ▸ k H locs ls hP hS hl)
theorem g_aload {pc' : Nat} {i j : Nat} {v : Nat} (hC : Cx x own cc nL ret h g z0) (hd : decode cc pc = .ok (.aload i, 2)) (hp : pc + 2 = pc') (hj : lv[j]? = some (i, .ref v)) (k : GG x g z0 nL n1 n2 Q σ pc' lv (.ref v :: st)) : GG x g z0 nL n1 n2 Q σ pc lv st := fun H locs ls hP hS hl => lv_aload hC.1 hC.2.1 hd (lv_at hl j hj) (hp ▸ k H locs ls hP hS hl)
theorem g_astore_n {pc' : Nat} {k : Fin 4} {i : Nat} {v : Nat} (hC : Cx x own cc nL ret h g z0) (hd : decode cc pc = .ok (.astore_n k, 1)) (hp : pc + 1 = pc') (hi : (k : Nat) = i) (hn : i < nL) (hl : (i, Value.ref v) :: lv.filter (fun q => !(q.1 == i) && !(q.1 + 1 == i && q.2.category == 2)) = lv') (k : GG x g z0 nL n1 n2 Q σ pc' lv' st) : GG x g z0 nL n1 n2 Q σ pc lv (.ref v :: st) := fun H locs ls hP hS hl0 => lv_astore_n hC.1 hC.2.1 hd hi hl0 hn hl (fun ls' hl' => hp ▸ k H locs ls' hP hS hl')
theorem g_astore {pc' : Nat} {i : Nat} {v : Nat} (hC : Cx x own cc nL ret h g z0) (hd : decode cc pc = .ok (.astore i, 2)) (hp : pc + 2 = pc') (hn : i < nL) (hl : (i, Value.ref v) :: lv.filter (fun q => !(q.1 == i) && !(q.1 + 1 == i && q.2.category == 2)) = lv') (k : GG x g z0 nL n1 n2 Q σ pc' lv' st) : GG x g z0 nL n1 n2 Q σ pc lv (.ref v :: st) := fun H locs ls hP hS hl0 => lv_astore hC.1 hC.2.1 hd hl0 hn hl (fun ls' hl' => hp ▸ k H locs ls' hP hS hl')
theorem g_iinc {pc' : Nat} {i j : Nat} {n : Int} {v u : Int32} (hC : Cx x own cc nL ret h g z0) (hd : decode cc pc = .ok (.iinc i n, 3)) (hp : pc + 3 = pc') (hj : lv[j]? = some (i, .int v)) (hv : v + Int32.ofInt n = u) (hn : i < nL) (hl : (i, Value.int u) :: lv.filter (fun q => !(q.1 == i) && !(q.1 + 1 == i && q.2.category == 2)) = lv') (k : GG x g z0 nL n1 n2 Q σ pc' lv' st) : GG x g z0 nL n1 n2 Q σ pc lv st := fun H locs ls hP hS hl0 => lv_iinc hC.1 hC.2.1 hd hl0 hj hv hn hl (fun ls' hl' => hp ▸ k H locs ls' hP hS hl')
theorem g_iadd {pc' : Nat} {a b : Int32} (hC : Cx x own cc nL ret h g z0) (hd : decode cc pc = .ok (.iadd, 1)) (hp : pc + 1 = pc')  (k : GG x g z0 nL n1 n2 Q σ pc' lv (.int (a + b) :: st)) : GG x g z0 nL n1 n2 Q σ pc lv (.int b :: .int a :: st) := fun H locs ls hP hS hl => lv_iadd hC.1 hC.2.1 hd  (hp ▸ k H locs ls hP hS hl)
theorem g_isub {pc' : Nat} {a b : Int32} (hC : Cx x own cc nL ret h g z0) (hd : decode cc pc = .ok (.isub, 1)) (hp : pc + 1 = pc')  (k : GG x g z0 nL n1 n2 Q σ pc' lv (.int (a - b) :: st)) : GG x g z0 nL n1 n2 Q σ pc lv (.int b :: .int a :: st) := fun H locs ls hP hS hl => lv_isub hC.1 hC.2.1 hd  (hp ▸ k H locs ls hP hS hl)
theorem g_imul {pc' : Nat} {a b : Int32} (hC : Cx x own cc nL ret h g z0) (hd : decode cc pc = .ok (.imul, 1)) (hp : pc + 1 = pc')  (k : GG x g z0 nL n1 n2 Q σ pc' lv (.int (a * b) :: st)) : GG x g z0 nL n1 n2 Q σ pc lv (.int b :: .int a :: st) := fun H locs ls hP hS hl => lv_imul hC.1 hC.2.1 hd  (hp ▸ k H locs ls hP hS hl)
theorem g_iand {pc' : Nat} {a b : Int32} (hC : Cx x own cc nL ret h g z0) (hd : decode cc pc = .ok (.iand, 1)) (hp : pc + 1 = pc')  (k : GG x g z0 nL n1 n2 Q σ pc' lv (.int (a &&& b) :: st)) : GG x g z0 nL n1 n2 Q σ pc lv (.int b :: .int a :: st) := fun H locs ls hP hS hl => lv_iand hC.1 hC.2.1 hd  (hp ▸ k H locs ls hP hS hl)
theorem g_ior {pc' : Nat} {a b : Int32} (hC : Cx x own cc nL ret h g z0) (hd : decode cc pc = .ok (.ior, 1)) (hp : pc + 1 = pc')  (k : GG x g z0 nL n1 n2 Q σ pc' lv (.int (a ||| b) :: st)) : GG x g z0 nL n1 n2 Q σ pc lv (.int b :: .int a :: st) := fun H locs ls hP hS hl => lv_ior hC.1 hC.2.1 hd  (hp ▸ k H locs ls hP hS hl)
theorem g_ixor {pc' : Nat} {a b : Int32} (hC : Cx x own cc nL ret h g z0) (hd : decode cc pc = .ok (.ixor, 1)) (hp : pc + 1 = pc')  (k : GG x g z0 nL n1 n2 Q σ pc' lv (.int (a ^^^ b) :: st)) : GG x g z0 nL n1 n2 Q σ pc lv (.int b :: .int a :: st) := fun H locs ls hP hS hl => lv_ixor hC.1 hC.2.1 hd  (hp ▸ k H locs ls hP hS hl)
theorem g_irem {pc' : Nat} {a b : Int32} (hC : Cx x own cc nL ret h g z0) (hd : decode cc pc = .ok (.irem, 1)) (hp : pc + 1 = pc') (hne : ¬ b = 0) (k : GG x g z0 nL n1 n2 Q σ pc' lv (.int (a - a / b * b) :: st)) : GG x g z0 nL n1 n2 Q σ pc lv (.int b :: .int a :: st) := fun H locs ls hP hS hl => lv_irem hC.1 hC.2.1 hd hne (hp ▸ k H locs ls hP hS hl)
theorem g_idiv {pc' : Nat} {a b : Int32} (hC : Cx x own cc nL ret h g z0) (hd : decode cc pc = .ok (.idiv, 1)) (hp : pc + 1 = pc') (hne : ¬ b = 0) (k : GG x g z0 nL n1 n2 Q σ pc' lv (.int (a / b) :: st)) : GG x g z0 nL n1 n2 Q σ pc lv (.int b :: .int a :: st) := fun H locs ls hP hS hl => lv_idiv hC.1 hC.2.1 hd hne (hp ▸ k H locs ls hP hS hl)
theorem g_ladd {pc' : Nat} {a b : Int64} (hC : Cx x own cc nL ret h g z0) (hd : decode cc pc = .ok (.ladd, 1)) (hp : pc + 1 = pc')  (k : GG x g z0 nL n1 n2 Q σ pc' lv (.long (a + b) :: st)) : GG x g z0 nL n1 n2 Q σ pc lv (.long b :: .long a :: st) := fun H locs ls hP hS hl => lv_ladd hC.1 hC.2.1 hd  (hp ▸ k H locs ls hP hS hl)
theorem g_lsub {pc' : Nat} {a b : Int64} (hC : Cx x own cc nL ret h g z0) (hd : decode cc pc = .ok (.lsub, 1)) (hp : pc + 1 = pc')  (k : GG x g z0 nL n1 n2 Q σ pc' lv (.long (a - b) :: st)) : GG x g z0 nL n1 n2 Q σ pc lv (.long b :: .long a :: st) := fun H locs ls hP hS hl => lv_lsub hC.1 hC.2.1 hd  (hp ▸ k H locs ls hP hS hl)
theorem g_lmul {pc' : Nat} {a b : Int64} (hC : Cx x own cc nL ret h g z0) (hd : decode cc pc = .ok (.lmul, 1)) (hp : pc + 1 = pc')  (k : GG x g z0 nL n1 n2 Q σ pc' lv (.long (a * b) :: st)) : GG x g z0 nL n1 n2 Q σ pc lv (.long b :: .long a :: st) := fun H locs ls hP hS hl => lv_lmul hC.1 hC.2.1 hd  (hp ▸ k H locs ls hP hS hl)
theorem g_lrem {pc' : Nat} {a b : Int64} (hC : Cx x own cc nL ret h g z0) (hd : decode cc pc = .ok (.lrem, 1)) (hp : pc + 1 = pc') (hne : ¬ b = 0) (k : GG x g z0 nL n1 n2 Q σ pc' lv (.long (a - a / b * b) :: st)) : GG x g z0 nL n1 n2 Q σ pc lv (.long b :: .long a :: st) := fun H locs ls hP hS hl => lv_lrem hC.1 hC.2.1 hd hne (hp ▸ k H locs ls hP hS hl)
theorem g_ishl {pc' : Nat} {a b : Int32} (hC : Cx x own cc nL ret h g z0) (hd : decode cc pc = .ok (.ishl, 1)) (hp : pc + 1 = pc')  (k : GG x g z0 nL n1 n2 Q σ pc' lv (.int (a <<< (b &&& 31)) :: st)) : GG x g z0 nL n1 n2 Q σ pc lv (.int b :: .int a :: st) := fun H locs ls hP hS hl => lv_ishl hC.1 hC.2.1 hd  (hp ▸ k H locs ls hP hS hl)
theorem g_ishr {pc' : Nat} {a b : Int32} (hC : Cx x own cc nL ret h g z0) (hd : decode cc pc = .ok (.ishr, 1)) (hp : pc + 1 = pc')  (k : GG x g z0 nL n1 n2 Q σ pc' lv (.int (a >>> (b &&& 31)) :: st)) : GG x g z0 nL n1 n2 Q σ pc lv (.int b :: .int a :: st) := fun H locs ls hP hS hl => lv_ishr hC.1 hC.2.1 hd  (hp ▸ k H locs ls hP hS hl)
theorem g_iushr {pc' : Nat} {a b : Int32} (hC : Cx x own cc nL ret h g z0) (hd : decode cc pc = .ok (.iushr, 1)) (hp : pc + 1 = pc')  (k : GG x g z0 nL n1 n2 Q σ pc' lv (.int (a.toUInt32 >>> (b.toUInt32 &&& Int32.toUInt32 31)).toInt32 :: st)) : GG x g z0 nL n1 n2 Q σ pc lv (.int b :: .int a :: st) := fun H locs ls hP hS hl => lv_iushr hC.1 hC.2.1 hd rfl (hp ▸ k H locs ls hP hS hl)
theorem g_i2l {pc' : Nat} {a : Int32} (hC : Cx x own cc nL ret h g z0) (hd : decode cc pc = .ok (.i2l, 1)) (hp : pc + 1 = pc')  (k : GG x g z0 nL n1 n2 Q σ pc' lv (.long a.toInt64 :: st)) : GG x g z0 nL n1 n2 Q σ pc lv (.int a :: st) := fun H locs ls hP hS hl => lv_i2l hC.1 hC.2.1 hd rfl (hp ▸ k H locs ls hP hS hl)
theorem g_l2i {pc' : Nat} {a : Int64} (hC : Cx x own cc nL ret h g z0) (hd : decode cc pc = .ok (.l2i, 1)) (hp : pc + 1 = pc')  (k : GG x g z0 nL n1 n2 Q σ pc' lv (.int a.toInt32 :: st)) : GG x g z0 nL n1 n2 Q σ pc lv (.long a :: st) := fun H locs ls hP hS hl => lv_l2i hC.1 hC.2.1 hd rfl (hp ▸ k H locs ls hP hS hl)
theorem g_i2b {pc' : Nat} {a : Int32} (hC : Cx x own cc nL ret h g z0) (hd : decode cc pc = .ok (.i2b, 1)) (hp : pc + 1 = pc')  (k : GG x g z0 nL n1 n2 Q σ pc' lv (.int a.toInt8.toInt32 :: st)) : GG x g z0 nL n1 n2 Q σ pc lv (.int a :: st) := fun H locs ls hP hS hl => lv_i2b hC.1 hC.2.1 hd rfl (hp ▸ k H locs ls hP hS hl)
theorem g_dup {pc' : Nat} {va : Value} (hC : Cx x own cc nL ret h g z0) (hd : decode cc pc = .ok (.dup, 1)) (hp : pc + 1 = pc') (hva : va.category = 1) (k : GG x g z0 nL n1 n2 Q σ pc' lv (va :: va :: st)) : GG x g z0 nL n1 n2 Q σ pc lv (va :: st) := fun H locs ls hP hS hl => lv_dup hC.1 hC.2.1 hd hva (hp ▸ k H locs ls hP hS hl)
theorem g_pop {pc' : Nat} {va : Value} (hC : Cx x own cc nL ret h g z0) (hd : decode cc pc = .ok (.pop, 1)) (hp : pc + 1 = pc') (hva : va.category = 1) (k : GG x g z0 nL n1 n2 Q σ pc' lv (st)) : GG x g z0 nL n1 n2 Q σ pc lv (va :: st) := fun H locs ls hP hS hl => lv_pop hC.1 hC.2.1 hd hva (hp ▸ k H locs ls hP hS hl)
theorem n_iadd {pc' : Nat} {a b : Nat} (hC : Cx x own cc nL ret h g z0) (hd : decode cc pc = .ok (.iadd, 1)) (hp : pc + 1 = pc')  (k : GG x g z0 nL n1 n2 Q σ pc' lv (.int (nI (a + b)) :: st)) : GG x g z0 nL n1 n2 Q σ pc lv (.int (nI b) :: .int (nI a) :: st) := g_iadd hC hd hp (gg_topi (nI_add a b) k)
theorem n_isub {pc' : Nat} {a b : Nat} (hC : Cx x own cc nL ret h g z0) (hd : decode cc pc = .ok (.isub, 1)) (hp : pc + 1 = pc') (hb : b ≤ a) (k : GG x g z0 nL n1 n2 Q σ pc' lv (.int (nI (a - b)) :: st)) : GG x g z0 nL n1 n2 Q σ pc lv (.int (nI b) :: .int (nI a) :: st) := g_isub hC hd hp (gg_topi (pk_sub hb) k)
theorem n_imul {pc' : Nat} {a b : Nat} (hC : Cx x own cc nL ret h g z0) (hd : decode cc pc = .ok (.imul, 1)) (hp : pc + 1 = pc')  (k : GG x g z0 nL n1 n2 Q σ pc' lv (.int (nI (a * b)) :: st)) : GG x g z0 nL n1 n2 Q σ pc lv (.int (nI b) :: .int (nI a) :: st) := g_imul hC hd hp (gg_topi (pk_mul a b) k)
theorem g_icmp_eq {pc' tgt : Nat} {off : Int} {a b : Int32} (hC : Cx x own cc nL ret h g z0) (hd : decode cc pc = .ok (.if_icmp .eq off, 3)) (ht : (pc : Int) + off = (tgt : Int)) (hp : pc + 3 = pc') (kt : a = b → GG x g z0 nL n1 n2 Q σ tgt lv st) (kf : ¬ a = b → GG x g z0 nL n1 n2 Q σ pc' lv st) : GG x g z0 nL n1 n2 Q σ pc lv (.int b :: .int a :: st) := fun H locs ls hP hS hl => lv_icmp_eq hC.1 hC.2.1 hd ht (fun q => kt q H locs ls hP hS hl) (fun q => hp ▸ kf q H locs ls hP hS hl)
theorem g_if_eq {pc' tgt : Nat} {off : Int} {a : Int32} (hC : Cx x own cc nL ret h g z0) (hd : decode cc pc = .ok (.ifCond .eq off, 3)) (ht : (pc : Int) + off = (tgt : Int)) (hp : pc + 3 = pc') (kt : a = 0 → GG x g z0 nL n1 n2 Q σ tgt lv st) (kf : ¬ a = 0 → GG x g z0 nL n1 n2 Q σ pc' lv st) : GG x g z0 nL n1 n2 Q σ pc lv (.int a :: st) := fun H locs ls hP hS hl => lv_if_eq hC.1 hC.2.1 hd ht (fun q => kt q H locs ls hP hS hl) (fun q => hp ▸ kf q H locs ls hP hS hl)
theorem g_icmp_ne {pc' tgt : Nat} {off : Int} {a b : Int32} (hC : Cx x own cc nL ret h g z0) (hd : decode cc pc = .ok (.if_icmp .ne off, 3)) (ht : (pc : Int) + off = (tgt : Int)) (hp : pc + 3 = pc') (kt : ¬ a = b → GG x g z0 nL n1 n2 Q σ tgt lv st) (kf : a = b → GG x g z0 nL n1 n2 Q σ pc' lv st) : GG x g z0 nL n1 n2 Q σ pc lv (.int b :: .int a :: st) := fun H locs ls hP hS hl => lv_icmp_ne hC.1 hC.2.1 hd ht (fun q => kt q H locs ls hP hS hl) (fun q => hp ▸ kf q H locs ls hP hS hl)
theorem g_if_ne {pc' tgt : Nat} {off : Int} {a : Int32} (hC : Cx x own cc nL ret h g z0) (hd : decode cc pc = .ok (.ifCond .ne off, 3)) (ht : (pc : Int) + off = (tgt : Int)) (hp : pc + 3 = pc') (kt : ¬ a = 0 → GG x g z0 nL n1 n2 Q σ tgt lv st) (kf : a = 0 → GG x g z0 nL n1 n2 Q σ pc' lv st) : GG x g z0 nL n1 n2 Q σ pc lv (.int a :: st) := fun H locs ls hP hS hl => lv_if_ne hC.1 hC.2.1 hd ht (fun q => kt q H locs ls hP hS hl) (fun q => hp ▸ kf q H locs ls hP hS hl)
theorem g_icmp_lt {pc' tgt : Nat} {off : Int} {a b : Int32} (hC : Cx x own cc nL ret h g z0) (hd : decode cc pc = .ok (.if_icmp .lt off, 3)) (ht : (pc : Int) + off = (tgt : Int)) (hp : pc + 3 = pc') (kt : a < b → GG x g z0 nL n1 n2 Q σ tgt lv st) (kf : ¬ a < b → GG x g z0 nL n1 n2 Q σ pc' lv st) : GG x g z0 nL n1 n2 Q σ pc lv (.int b :: .int a :: st) := fun H locs ls hP hS hl => lv_icmp_lt hC.1 hC.2.1 hd ht (fun q => kt q H locs ls hP hS hl) (fun q => hp ▸ kf q H locs ls hP hS hl)
theorem g_if_lt {pc' tgt : Nat} {off : Int} {a : Int32} (hC : Cx x own cc nL ret h g z0) (hd : decode cc pc = .ok (.ifCond .lt off, 3)) (ht : (pc : Int) + off = (tgt : Int)) (hp : pc + 3 = pc') (kt : a < 0 → GG x g z0 nL n1 n2 Q σ tgt lv st) (kf : ¬ a < 0 → GG x g z0 nL n1 n2 Q σ pc' lv st) : GG x g z0 nL n1 n2 Q σ pc lv (.int a :: st) := fun H locs ls hP hS hl => lv_if_lt hC.1 hC.2.1 hd ht (fun q => kt q H locs ls hP hS hl) (fun q => hp ▸ kf q H locs ls hP hS hl)
theorem g_icmp_ge {pc' tgt : Nat} {off : Int} {a b : Int32} (hC : Cx x own cc nL ret h g z0) (hd : decode cc pc = .ok (.if_icmp .ge off, 3)) (ht : (pc : Int) + off = (tgt : Int)) (hp : pc + 3 = pc') (kt : b ≤ a → GG x g z0 nL n1 n2 Q σ tgt lv st) (kf : ¬ b ≤ a → GG x g z0 nL n1 n2 Q σ pc' lv st) : GG x g z0 nL n1 n2 Q σ pc lv (.int b :: .int a :: st) := fun H locs ls hP hS hl => lv_icmp_ge hC.1 hC.2.1 hd ht (fun q => kt q H locs ls hP hS hl) (fun q => hp ▸ kf q H locs ls hP hS hl)
theorem g_if_ge {pc' tgt : Nat} {off : Int} {a : Int32} (hC : Cx x own cc nL ret h g z0) (hd : decode cc pc = .ok (.ifCond .ge off, 3)) (ht : (pc : Int) + off = (tgt : Int)) (hp : pc + 3 = pc') (kt : 0 ≤ a → GG x g z0 nL n1 n2 Q σ tgt lv st) (kf : ¬ 0 ≤ a → GG x g z0 nL n1 n2 Q σ pc' lv st) : GG x g z0 nL n1 n2 Q σ pc lv (.int a :: st) := fun H locs ls hP hS hl => lv_if_ge hC.1 hC.2.1 hd ht (fun q => kt q H locs ls hP hS hl) (fun q => hp ▸ kf q H locs ls hP hS hl)
theorem g_icmp_gt {pc' tgt : Nat} {off : Int} {a b : Int32} (hC : Cx x own cc nL ret h g z0) (hd : decode cc pc = .ok (.if_icmp .gt off, 3)) (ht : (pc : Int) + off = (tgt : Int)) (hp : pc + 3 = pc') (kt : b < a → GG x g z0 nL n1 n2 Q σ tgt lv st) (kf : ¬ b < a → GG x g z0 nL n1 n2 Q σ pc' lv st) : GG x g z0 nL n1 n2 Q σ pc lv (.int b :: .int a :: st) := fun H locs ls hP hS hl => lv_icmp_gt hC.1 hC.2.1 hd ht (fun q => kt q H locs ls hP hS hl) (fun q => hp ▸ kf q H locs ls hP hS hl)
theorem g_if_gt {pc' tgt : Nat} {off : Int} {a : Int32} (hC : Cx x own cc nL ret h g z0) (hd : decode cc pc = .ok (.ifCond .gt off, 3)) (ht : (pc : Int) + off = (tgt : Int)) (hp : pc + 3 = pc') (kt : 0 < a → GG x g z0 nL n1 n2 Q σ tgt lv st) (kf : ¬ 0 < a → GG x g z0 nL n1 n2 Q σ pc' lv st) : GG x g z0 nL n1 n2 Q σ pc lv (.int a :: st) := fun H locs ls hP hS hl => lv_if_gt hC.1 hC.2.1 hd ht (fun q => kt q H locs ls hP hS hl) (fun q => hp ▸ kf q H locs ls hP hS hl)
theorem g_icmp_le {pc' tgt : Nat} {off : Int} {a b : Int32} (hC : Cx x own cc nL ret h g z0) (hd : decode cc pc = .ok (.if_icmp .le off, 3)) (ht : (pc : Int) + off = (tgt : Int)) (hp : pc + 3 = pc') (kt : a ≤ b → GG x g z0 nL n1 n2 Q σ tgt lv st) (kf : ¬ a ≤ b → GG x g z0 nL n1 n2 Q σ pc' lv st) : GG x g z0 nL n1 n2 Q σ pc lv (.int b :: .int a :: st) := fun H locs ls hP hS hl => lv_icmp_le hC.1 hC.2.1 hd ht (fun q => kt q H locs ls hP hS hl) (fun q => hp ▸ kf q H locs ls hP hS hl)
theorem g_if_le {pc' tgt : Nat} {off : Int} {a : Int32} (hC : Cx x own cc nL ret h g z0) (hd : decode cc pc = .ok (.ifCond .le off, 3)) (ht : (pc : Int) + off = (tgt : Int)) (hp : pc + 3 = pc') (kt : a ≤ 0 → GG x g z0 nL n1 n2 Q σ tgt lv st) (kf : ¬ a ≤ 0 → GG x g z0 nL n1 n2 Q σ pc' lv st) : GG x g z0 nL n1 n2 Q σ pc lv (.int a :: st) := fun H locs ls hP hS hl => lv_if_le hC.1 hC.2.1 hd ht (fun q => kt q H locs ls hP hS hl) (fun q => hp ▸ kf q H locs ls hP hS hl)
theorem n_icmp_eq {pc' tgt : Nat} {off : Int} {a b : Nat} (hC : Cx x own cc nL ret h g z0) (hd : decode cc pc = .ok (.if_icmp .eq off, 3)) (ht : (pc : Int) + off = (tgt : Int)) (hp : pc + 3 = pc') (ha : a < 2 ^ 31) (hb : b < 2 ^ 31) (kt : a = b → GG x g z0 nL n1 n2 Q σ tgt lv st) (kf : a ≠ b → GG x g z0 nL n1 n2 Q σ pc' lv st) : GG x g z0 nL n1 n2 Q σ pc lv (.int (nI b) :: .int (nI a) :: st) := g_icmp_eq hC hd ht hp (fun q => kt ((nI_eq ha hb).mp q)) (fun q => kf ( (fun e => q ((nI_eq ha hb).mpr e))))
theorem n_icmp_ne {pc' tgt : Nat} {off : Int} {a b : Nat} (hC : Cx x own cc nL ret h g z0) (hd : decode cc pc = .ok (.if_icmp .ne off, 3)) (ht : (pc : Int) + off = (tgt : Int)) (hp : pc + 3 = pc') (ha : a < 2 ^ 31) (hb : b < 2 ^ 31) (kt : a ≠ b → GG x g z0 nL n1 n2 Q σ tgt lv st) (kf : a = b → GG x g z0 nL n1 n2 Q σ pc' lv st) : GG x g z0 nL n1 n2 Q σ pc lv (.int (nI b) :: .int (nI a) :: st) := g_icmp_ne hC hd ht hp (fun q => kt (fun e => q (congrArg nI e))) (fun q => kf ((nI_eq ha hb).mp q))
theorem n_icmp_lt {pc' tgt : Nat} {off : Int} {a b : Nat} (hC : Cx x own cc nL ret h g z0) (hd : decode cc pc = .ok (.if_icmp .lt off, 3)) (ht : (pc : Int) + off = (tgt : Int)) (hp : pc + 3 = pc') (ha : a < 2 ^ 31) (hb : b < 2 ^ 31) (kt : a < b → GG x g z0 nL n1 n2 Q σ tgt lv st) (kf : b ≤ a → GG x g z0 nL n1 n2 Q σ pc' lv st) : GG x g z0 nL n1 n2 Q σ pc lv (.int (nI b) :: .int (nI a) :: st) := g_icmp_lt hC hd ht hp (fun q => kt ((nI_ltI ha hb).mp q)) (fun q => kf (Nat.not_lt.mp (fun e => q ((nI_ltI ha hb).mpr e))))
theorem n_icmp_ge {pc' tgt : Nat} {off : Int} {a b : Nat} (hC : Cx x own cc nL ret h g z0) (hd : decode cc pc = .ok (.if_icmp .ge off, 3)) (ht : (pc : Int) + off = (tgt : Int)) (hp : pc + 3 = pc') (ha : a < 2 ^ 31) (hb : b < 2 ^ 31) (kt : b ≤ a → GG x g z0 nL n1 n2 Q σ tgt lv st) (kf : a < b → GG x g z0 nL n1 n2 Q σ pc' lv st) : GG x g z0 nL n1 n2 Q σ pc lv (.int (nI b) :: .int (nI a) :: st) := g_icmp_ge hC hd ht hp (fun q => kt ((nI_leI hb ha).mp q)) (fun q => kf (Nat.not_le.mp (fun e => q ((nI_leI hb ha).mpr e))))
theorem n_icmp_gt {pc' tgt : Nat} {off : Int} {a b : Nat} (hC : Cx x own cc nL ret h g z0) (hd : decode cc pc = .ok (.if_icmp .gt off, 3)) (ht : (pc : Int) + off = (tgt : Int)) (hp : pc + 3 = pc') (ha : a < 2 ^ 31) (hb : b < 2 ^ 31) (kt : b < a → GG x g z0 nL n1 n2 Q σ tgt lv st) (kf : a ≤ b → GG x g z0 nL n1 n2 Q σ pc' lv st) : GG x g z0 nL n1 n2 Q σ pc lv (.int (nI b) :: .int (nI a) :: st) := g_icmp_gt hC hd ht hp (fun q => kt ((nI_ltI hb ha).mp q)) (fun q => kf (Nat.not_lt.mp (fun e => q ((nI_ltI hb ha).mpr e))))
theorem n_icmp_le {pc' tgt : Nat} {off : Int} {a b : Nat} (hC : Cx x own cc nL ret h g z0) (hd : decode cc pc = .ok (.if_icmp .le off, 3)) (ht : (pc : Int) + off = (tgt : Int)) (hp : pc + 3 = pc') (ha : a < 2 ^ 31) (hb : b < 2 ^ 31) (kt : a ≤ b → GG x g z0 nL n1 n2 Q σ tgt lv st) (kf : b < a → GG x g z0 nL n1 n2 Q σ pc' lv st) : GG x g z0 nL n1 n2 Q σ pc lv (.int (nI b) :: .int (nI a) :: st) := g_icmp_le hC hd ht hp (fun q => kt ((nI_leI ha hb).mp q)) (fun q => kf (Nat.not_le.mp (fun e => q ((nI_leI ha hb).mpr e))))
theorem nI_z {a : Nat} (ha : a < 2 ^ 31) : (nI a = 0 ↔ a = 0) ∧ (nI a < 0 ↔ False) ∧ (0 ≤ nI a ↔ True) ∧ (0 < nI a ↔ a ≠ 0) ∧ (nI a ≤ 0 ↔ a = 0) := by
  have e0 : (0 : Int32) = nI 0 := nI_0.symm
  have h0 : (0 : Nat) < 2 ^ 31 := by decide
  refine ⟨?_, ?_, ?_, ?_, ?_⟩
  · rw [e0, nI_eq ha h0]
  · rw [e0, nI_ltI ha h0]; exact ⟨fun e => absurd e (Nat.not_lt_zero _), False.elim⟩
  · rw [e0, nI_leI h0 ha]; exact ⟨fun _ => trivial, fun _ => Nat.zero_le _⟩
  · rw [e0, nI_ltI h0 ha]; omega
  · rw [e0, nI_leI ha h0]; omega
theorem n_if_eq {pc' tgt : Nat} {off : Int} {a : Nat} (hC : Cx x own cc nL ret h g z0) (hd : decode cc pc = .ok (.ifCond .eq off, 3)) (ht : (pc : Int) + off = (tgt : Int)) (hp : pc + 3 = pc') (ha : a < 2 ^ 31) (kt : a = 0 → GG x g z0 nL n1 n2 Q σ tgt lv st) (kf : a ≠ 0 → GG x g z0 nL n1 n2 Q σ pc' lv st) : GG x g z0 nL n1 n2 Q σ pc lv (.int (nI a) :: st) := g_if_eq hC hd ht hp (fun q => kt ((nI_z ha).1.mp q)) (fun q => kf (fun e => q ((nI_z ha).1.mpr e)))
theorem n_if_ne {pc' tgt : Nat} {off : Int} {a : Nat} (hC : Cx x own cc nL ret h g z0) (hd : decode cc pc = .ok (.ifCond .ne off, 3)) (ht : (pc : Int) + off = (tgt : Int)) (hp : pc + 3 = pc') (ha : a < 2 ^ 31) (kt : a ≠ 0 → GG x g z0 nL n1 n2 Q σ tgt lv st) (kf : a = 0 → GG x g z0 nL n1 n2 Q σ pc' lv st) : GG x g z0 nL n1 n2 Q σ pc lv (.int (nI a) :: st) := g_if_ne hC hd ht hp (fun q => kt (fun e => q ((nI_z ha).1.mpr e))) (fun q => kf ((nI_z ha).1.mp q))
theorem n_if_lt {pc' tgt : Nat} {off : Int} {a : Nat} (hC : Cx x own cc nL ret h g z0) (hd : decode cc pc = .ok (.ifCond .lt off, 3)) (ht : (pc : Int) + off = (tgt : Int)) (hp : pc + 3 = pc') (ha : a < 2 ^ 31) (kt : False → GG x g z0 nL n1 n2 Q σ tgt lv st) (kf : True → GG x g z0 nL n1 n2 Q σ pc' lv st) : GG x g z0 nL n1 n2 Q σ pc lv (.int (nI a) :: st) := g_if_lt hC hd ht hp (fun q => kt ((nI_z ha).2.1.mp q)) (fun q => kf (trivial))
theorem n_if_ge {pc' tgt : Nat} {off : Int} {a : Nat} (hC : Cx x own cc nL ret h g z0) (hd : decode cc pc = .ok (.ifCond .ge off, 3)) (ht : (pc : Int) + off = (tgt : Int)) (hp : pc + 3 = pc') (ha : a < 2 ^ 31) (kt : True → GG x g z0 nL n1 n2 Q σ tgt lv st) (kf : False → GG x g z0 nL n1 n2 Q σ pc' lv st) : GG x g z0 nL n1 n2 Q σ pc lv (.int (nI a) :: st) := g_if_ge hC hd ht hp (fun q => kt ((nI_z ha).2.2.1.mp q)) (fun q => kf (q ((nI_z ha).2.2.1.mpr trivial)))
theorem n_if_gt {pc' tgt : Nat} {off : Int} {a : Nat} (hC : Cx x own cc nL ret h g z0) (hd : decode cc pc = .ok (.ifCond .gt off, 3)) (ht : (pc : Int) + off = (tgt : Int)) (hp : pc + 3 = pc') (ha : a < 2 ^ 31) (kt : a ≠ 0 → GG x g z0 nL n1 n2 Q σ tgt lv st) (kf : a = 0 → GG x g z0 nL n1 n2 Q σ pc' lv st) : GG x g z0 nL n1 n2 Q σ pc lv (.int (nI a) :: st) := g_if_gt hC hd ht hp (fun q => kt ((nI_z ha).2.2.2.1.mp q)) (fun q => kf (Classical.byContradiction fun e => q ((nI_z ha).2.2.2.1.mpr e)))
theorem n_if_le {pc' tgt : Nat} {off : Int} {a : Nat} (hC : Cx x own cc nL ret h g z0) (hd : decode cc pc = .ok (.ifCond .le off, 3)) (ht : (pc : Int) + off = (tgt : Int)) (hp : pc + 3 = pc') (ha : a < 2 ^ 31) (kt : a = 0 → GG x g z0 nL n1 n2 Q σ tgt lv st) (kf : a ≠ 0 → GG x g z0 nL n1 n2 Q σ pc' lv st) : GG x g z0 nL n1 n2 Q σ pc lv (.int (nI a) :: st) := g_if_le hC hd ht hp (fun q => kt ((nI_z ha).2.2.2.2.mp q)) (fun q => kf (fun e => q ((nI_z ha).2.2.2.2.mpr e)))
noncomputable def bI (p : Prop) : Int32 := @ite _ p (Classical.propDecidable p) 1 0
theorem bI_t {p : Prop} (h : p) : bI p = 1 := if_pos h
theorem bI_f {p : Prop} (h : ¬ p) : bI p = 0 := if_neg h
theorem bI_0 {p : Prop} : bI p = 0 ↔ ¬ p := by
  by_cases h : p
  · rw [bI_t h]; exact ⟨fun e => absurd e (by decide), fun e => absurd h e⟩
  · rw [bI_f h]; exact ⟨fun _ => h, fun _ => rfl⟩
theorem bI_nar (p : Prop) : narrow .boolean (.int (bI p)) = .int (bI p) := by
  by_cases h : p
  · rw [bI_t h]; rfl
  · rw [bI_f h]; rfl
theorem bI_fit (p : Prop) : fits .boolean (.int (bI p)) = true := by
  by_cases h : p
  · rw [bI_t h]; rfl
  · rw [bI_f h]; rfl
theorem bI_c {p q : Prop} (h : p ↔ q) : bI p = bI q := by
  by_cases hp : p
  · rw [bI_t hp, bI_t (h.mp hp)]
  · rw [bI_f hp, bI_f (fun z => hp (h.mpr z))]
theorem b_if_eq {pc' tgt : Nat} {off : Int} {p : Prop} (hC : Cx x own cc nL ret h g z0) (hd : decode cc pc = .ok (.ifCond .eq off, 3)) (ht : (pc : Int) + off = (tgt : Int)) (hp : pc + 3 = pc') (kt : ¬ p → GG x g z0 nL n1 n2 Q σ tgt lv st) (kf : p → GG x g z0 nL n1 n2 Q σ pc' lv st) : GG x g z0 nL n1 n2 Q σ pc lv (.int (bI p) :: st) := g_if_eq hC hd ht hp (fun q => kt (bI_0.mp q)) (fun q => kf (Classical.byContradiction fun z => q (bI_0.mpr z)))
theorem b_if_ne {pc' tgt : Nat} {off : Int} {p : Prop} (hC : Cx x own cc nL ret h g z0) (hd : decode cc pc = .ok (.ifCond .ne off, 3)) (ht : (pc : Int) + off = (tgt : Int)) (hp : pc + 3 = pc') (kt : p → GG x g z0 nL n1 n2 Q σ tgt lv st) (kf : ¬ p → GG x g z0 nL n1 n2 Q σ pc' lv st) : GG x g z0 nL n1 n2 Q σ pc lv (.int (bI p) :: st) := g_if_ne hC hd ht hp (fun q => kt (Classical.byContradiction fun z => q (bI_0.mpr z))) (fun q => kf (bI_0.mp q))
theorem g_goto {tgt : Nat} {off : Int} (hC : Cx x own cc nL ret h g z0) (hd : decode cc pc = .ok (.goto off, 3)) (ht : (pc : Int) + off = (tgt : Int)) (k : GG x g z0 nL n1 n2 Q σ tgt lv st) : GG x g z0 nL n1 n2 Q σ pc lv st := fun H locs ls hP hS hl => lv_goto hC.1 hC.2.1 hd ht (k H locs ls hP hS hl)
theorem g_ldc {pc' idx : Nat} {v : Int32} (hC : Cx x own cc nL ret h g z0) (hw : WIn (.constant own idx v)) (hd : decode cc pc = .ok (.ldc idx, 2)) (hp : pc + 2 = pc') (k : GG x g z0 nL n1 n2 Q σ pc' lv (.int v :: st)) : GG x g z0 nL n1 n2 Q σ pc lv st := fun H locs ls hP hS hl => lv_ldc hC.1 hC.2.1 hC.2.2.2.1 (wWIn hC hw) hd (hp ▸ k H locs ls hP hS hl)
theorem g_ldc2 {pc' idx : Nat} {v : Int64} (hC : Cx x own cc nL ret h g z0) (hw : WIn (.constantLong own idx v)) (hd : decode cc pc = .ok (.ldc2_w idx, 3)) (hp : pc + 3 = pc') (k : GG x g z0 nL n1 n2 Q σ pc' lv (.long v :: st)) : GG x g z0 nL n1 n2 Q σ pc lv st := fun H locs ls hP hS hl => lv_ldc2 hC.1 hC.2.1 hC.2.2.2.1 (wWIn hC hw) hd (hp ▸ k H locs ls hP hS hl)
theorem g_get {C : String} {T : u_T} {N ci idx k j pc' : Nat} {fs : List Value} {v : Value} (hC : Cx x own cc nL ret h g z0) (hlay : ∀ w ∈ u_ws C T N, WIn w) (hc : vwCl[ci]? = some (C, T, N)) (hw : WIn (.fieldLink own idx (T j).1 (T j).2.1 (T j).2.2.1)) (hk : k < NC) (he : ct g σ k = .inr (ci, fs)) (hj : j < N) (hv : fs[j]? = some v) (hd : decode cc pc = .ok (.getfield idx, 3)) (hp : pc + 3 = pc') (kk : GG x g z0 nL n1 n2 Q σ pc' lv (v :: st)) : GG x g z0 nL n1 n2 Q σ pc lv (.ref (g.2.1 k) :: st) := fun H locs ls hP hS hl =>
  va_get hC.1 hC.2.1 (Ts := u_ws C T N) (fun w hw => wWIn hC (hlay w hw)) (fun w hw => hw) hC.2.2.2.1 hC.2.2.2.2.2.2.2.1.1 hP k (by rw [wl_get g σ hk, he]) hc j hj (wWIn hC hw) (fun _ h9 => h9) hv hd (hp ▸ kk H locs ls hP hS hl)
theorem g_put {σ' : St} {C : String} {T : u_T} {N ci idx k j pc' : Nat} {fs : List Value} {v : Value} {ty : FieldType} {ty0 : Nat → FieldType} (hC : Cx x own cc nL ret h g z0) (hlay : ∀ w ∈ u_ws C T N, WIn w) (hc : vwCl[ci]? = some (C, T, N)) (hty : ∀ k, k < N → parseFieldDescriptor (T k).2.2.1 = some (ty0 k)) (hnm : ∀ a, a < N → ∀ b, b < N → a ≠ b → (T a).2.1 ≠ (T b).2.1) (hw : WIn (.fieldLink own idx (T j).1 (T j).2.1 (T j).2.2.1)) (hk : k < NC) (he : ct g σ k = .inr (ci, fs)) (he' : ct g σ' k = .inr (ci, fs.set j v)) (ho : ∀ i, i ≠ k → ct g σ' i = ct g σ i) (hj : j < N) (hfin : (T j).2.2.2 = false) (hdd : parseFieldDescriptor (T j).2.2.1 = some ty) (hnn : narrow ty v = v) (hfit : fits ty v = true) (hl : j < fs.length) (hd : decode cc pc = .ok (.putfield idx, 3)) (hp : pc + 3 = pc') (kk : GG x g z0 nL n1 n2 Q σ' pc' lv st) : GG x g z0 nL n1 n2 Q σ pc lv (v :: .ref (g.2.1 k) :: st) := fun H locs ls hP hS hl0 =>
  va_put hC.1 hC.2.1 (Ts := u_ws C T N) (fun w hw => wWIn hC (hlay w hw)) (fun w hw => hw) ty0 hty hnm hC.2.2.2.1 hC.2.2.2.2.2.2.2.1.1 hP (wl_D hC.2.2.2.2.2.2.2.1 σ) hS k (by rw [wl_get g σ hk, he]) hc j hj (wWIn hC hw) (fun _ h9 => h9) hfin hdd hnn hfit hl hd (fun H1 locs1 hP1 hD1 hS1 => hp ▸ kk H1 locs1 ls (by rw [← he', wl_set g σ σ' hk ho] at hP1; exact hP1) hS1 hl0)
theorem cl_nI {i n : Nat} (hi : i < n) (hn : n < 2 ^ 31) : (nI i).toNatClampNeg = i := nI_clamp (Nat.lt_trans hi hn)
theorem a_ld {k n i pc' : Nat} (hC : Cx x own cc nL ret h g z0) (hk : k < NC) (he : ct g σ k = .inl (g.2.2.2.1 0, n, .inl (σ.1 k))) (hi : i < n) (hn : n < 2 ^ 31) (hd : decode cc pc = .ok (.iaload, 1)) (hp : pc + 1 = pc') (kk : GG x g z0 nL n1 n2 Q σ pc' lv (.int (σ.1 k i) :: st)) : GG x g z0 nL n1 n2 Q σ pc lv (.int (nI i) :: .ref (g.2.1 k) :: st) := fun H locs ls hP hS hl =>
  va_iald hC.1 hC.2.1 hC.2.2.2.2.2.2.2.1.1 hP k 0 (by rw [wl_get g σ hk, he]) rfl (vp_in_nI hi hn) hd (by rw [cl_nI hi hn]; exact hp ▸ kk H locs ls hP hS hl)
theorem a_ldb {k n i pc' : Nat} (hC : Cx x own cc nL ret h g z0) (hk : k < NC) (he : ct g σ k = .inl (g.2.2.2.1 1, n, .inl (σ.1 k))) (hi : i < n) (hn : n < 2 ^ 31) (hd : decode cc pc = .ok (.baload, 1)) (hp : pc + 1 = pc') (kk : GG x g z0 nL n1 n2 Q σ pc' lv (.int (σ.1 k i) :: st)) : GG x g z0 nL n1 n2 Q σ pc lv (.int (nI i) :: .ref (g.2.1 k) :: st) := fun H locs ls hP hS hl =>
  va_bald hC.1 hC.2.1 hC.2.2.2.2.2.2.2.1.1 hP k 1 (by rw [wl_get g σ hk, he]) rfl (vp_in_nI hi hn) hd (by rw [cl_nI hi hn]; exact hp ▸ kk H locs ls hP hS hl)
theorem a_ldz {k n i pc' : Nat} (hC : Cx x own cc nL ret h g z0) (hk : k < NC) (he : ct g σ k = .inl (g.2.2.2.1 2, n, .inl (σ.1 k))) (hi : i < n) (hn : n < 2 ^ 31) (hd : decode cc pc = .ok (.baload, 1)) (hp : pc + 1 = pc') (kk : GG x g z0 nL n1 n2 Q σ pc' lv (.int (σ.1 k i) :: st)) : GG x g z0 nL n1 n2 Q σ pc lv (.int (nI i) :: .ref (g.2.1 k) :: st) := fun H locs ls hP hS hl =>
  va_zald hC.1 hC.2.1 hC.2.2.2.2.2.2.2.1.1 hP k 2 (by rw [wl_get g σ hk, he]) rfl (vp_in_nI hi hn) hd (by rw [cl_nI hi hn]; exact hp ▸ kk H locs ls hP hS hl)
theorem ct_st {k n i t : Nat} {v : Int32} (σ : St) (he : ∀ σ : St, ct g σ k = .inl (g.2.2.2.1 t, n, .inl (σ.1 k))) : (.inl (g.2.2.2.1 t, n, .inl (upd (σ.1 k) i v)) : va_E) = ct g (uv σ k i v) k := by
  rw [he (uv σ k i v), uv_row]
  rfl
theorem a_st {k n i pc' : Nat} {v : Int32} (hC : Cx x own cc nL ret h g z0) (hk : k < NC) (he : ∀ σ : St, ct g σ k = .inl (g.2.2.2.1 0, n, .inl (σ.1 k))) (hi : i < n) (hn : n < 2 ^ 31) (hd : decode cc pc = .ok (.iastore, 1)) (hp : pc + 1 = pc') (kk : GG x g z0 nL n1 n2 Q (uv σ k i v) pc' lv st) : GG x g z0 nL n1 n2 Q σ pc lv (.int v :: .int (nI i) :: .ref (g.2.1 k) :: st) := fun H locs ls hP hS hl =>
  va_iast hC.1 hC.2.1 hC.2.2.2.2.2.2.2.1.1 hP (wl_D hC.2.2.2.2.2.2.2.1 σ) hS k 0 (by rw [wl_get g σ hk, he σ]) rfl (vp_in_nI hi hn) hd (fun H1 locs1 hP1 hD1 hS1 => hp ▸ kk H1 locs1 ls (by rw [cl_nI hi hn, ct_st σ he, wl_set g σ _ hk (fun j hj => ct_uv g σ k i v hj)] at hP1; exact hP1) hS1 hl)
end ROWS
end
section
theorem win_at {w : Cond} (i : Nat) (h : lw_tbl[i]? = some w) (hg : goodWord w = true) : WIn w := ⟨List.mem_of_getElem? h, hg⟩
theorem win_r (ws : List Cond) (ps : List Nat) (hp : ws = ps.filterMap (fun i => lw_tbl[i]?)) (h : ws.all goodWord = true) : ∀ w ∈ ws, WIn w := by
  intro w hw
  have h1 := List.all_eq_true.mp h w hw
  rw [hp] at hw
  obtain ⟨i, -, hi⟩ := List.mem_filterMap.mp hw
  exact ⟨List.mem_of_getElem? hi, h1⟩
def CalS (y : MethodName) (cc : ByteArray) (nL : Nat) (ret : Option FieldType) (n : Nat) : Prop := WIn (.static y) ∧ WIn (.initialized y.cls) ∧ WIn (.code y cc nL ret) ∧ (y.cls ≠ "java/lang/invoke/MethodHandle" ∧ y.cls ≠ "java/lang/invoke/VarHandle" ∧ (parseMethodDescriptor y.desc).map (fun d => d.parameters.length) = some n) ∧ nL ≤ 21
def CalV (y : MethodName) (cc : ByteArray) (nL : Nat) (ret : Option FieldType) (n : Nat) : Prop := WIn (.instanceMethod y) ∧ WIn (.selects y.cls y y) ∧ WIn (.initialized y.cls) ∧ WIn (.code y cc nL ret) ∧ (y.cls ≠ "java/lang/invoke/MethodHandle" ∧ y.cls ≠ "java/lang/invoke/VarHandle" ∧ (parseMethodDescriptor y.desc).map (fun d => d.parameters.length) = some n) ∧ nL ≤ 21
theorem wM_L_110 : WIn (.methodLink RL 110 yX9_init) := win_at 85 (by decide +kernel) (by decide +kernel)
theorem wM_X9_9 : WIn (.methodLink RX9 9 yX5_init) := win_at 93 (by decide +kernel) (by decide +kernel)
theorem wF_X8_9 : WIn (.fieldLink RX8 9 "ForkWatch$Tokens" "text" "[B") := win_at 105 (by decide +kernel) (by decide +kernel)
theorem wF_X9_42 : WIn (.fieldLink RX9 42 "ForkWatch$Tokens" "text" "[B") := win_at 106 (by decide +kernel) (by decide +kernel)
theorem wF_X8_17 : WIn (.fieldLink RX8 17 "ForkWatch$Tokens" "kinds" "[LForkWatch$Kind;") := win_at 107 (by decide +kernel) (by decide +kernel)
theorem wF_X5_162 : WIn (.fieldLink RX5 162 "ForkWatch$Tokens" "kinds" "[LForkWatch$Kind;") := win_at 108 (by decide +kernel) (by decide +kernel)
theorem wF_X8_21 : WIn (.fieldLink RX8 21 "ForkWatch$Tokens" "starts" "[I") := win_at 109 (by decide +kernel) (by decide +kernel)
theorem wF_X5_42 : WIn (.fieldLink RX5 42 "ForkWatch$Tokens" "starts" "[I") := win_at 110 (by decide +kernel) (by decide +kernel)
theorem wF_X8_25 : WIn (.fieldLink RX8 25 "ForkWatch$Tokens" "numbers" "[I") := win_at 111 (by decide +kernel) (by decide +kernel)
theorem wF_X5_158 : WIn (.fieldLink RX5 158 "ForkWatch$Tokens" "numbers" "[I") := win_at 112 (by decide +kernel) (by decide +kernel)
theorem wF_X8_37 : WIn (.fieldLink RX8 37 "ForkWatch$Tokens" "count" "I") := win_at 113 (by decide +kernel) (by decide +kernel)
theorem wF_X5_159 : WIn (.fieldLink RX5 159 "ForkWatch$Tokens" "count" "I") := win_at 114 (by decide +kernel) (by decide +kernel)
theorem wF_X7_15 : WIn (.fieldLink RX7 15 "ForkWatch$Kind" "END" "LForkWatch$Kind;") := win_at 135 (by decide +kernel) (by decide +kernel)
theorem wF_X7_9 : WIn (.fieldLink RX7 9 "ForkWatch$Step" "numbers" "[I") := win_at 137 (by decide +kernel) (by decide +kernel)
theorem wF_X9_101 : WIn (.fieldLink RX9 101 "ForkWatch$Step" "numbers" "[I") := win_at 138 (by decide +kernel) (by decide +kernel)
theorem wF_X5_113 : WIn (.fieldLink RX5 113 "ForkWatch$Step" "numbers" "[I") := win_at 139 (by decide +kernel) (by decide +kernel)
theorem wF_X7_21 : WIn (.fieldLink RX7 21 "ForkWatch$Step" "kind" "LForkWatch$Kind;") := win_at 140 (by decide +kernel) (by decide +kernel)
theorem wF_X9_112 : WIn (.fieldLink RX9 112 "ForkWatch$Step" "kind" "LForkWatch$Kind;") := win_at 141 (by decide +kernel) (by decide +kernel)
theorem wF_X5_116 : WIn (.fieldLink RX5 116 "ForkWatch$Step" "kind" "LForkWatch$Kind;") := win_at 142 (by decide +kernel) (by decide +kernel)
theorem wF_X5_12 : WIn (.fieldLink RX5 12 "ForkWatch$Parser" "tokens" "LForkWatch$Tokens;") := win_at 148 (by decide +kernel) (by decide +kernel)
theorem wF_X9_38 : WIn (.fieldLink RX9 38 "ForkWatch$Parser" "tokens" "LForkWatch$Tokens;") := win_at 149 (by decide +kernel) (by decide +kernel)
theorem wF_X5_20 : WIn (.fieldLink RX5 20 "ForkWatch$Parser" "steps" "[LForkWatch$Step;") := win_at 150 (by decide +kernel) (by decide +kernel)
theorem wF_X9_88 : WIn (.fieldLink RX9 88 "ForkWatch$Parser" "steps" "[LForkWatch$Step;") := win_at 151 (by decide +kernel) (by decide +kernel)
theorem wF_X5_35 : WIn (.fieldLink RX5 35 "ForkWatch$Parser" "current" "I") := win_at 152 (by decide +kernel) (by decide +kernel)
theorem wF_X5_32 : WIn (.fieldLink RX5 32 "ForkWatch$Parser" "stepCount" "I") := win_at 153 (by decide +kernel) (by decide +kernel)
theorem wF_X9_85 : WIn (.fieldLink RX9 85 "ForkWatch$Parser" "stepCount" "I") := win_at 154 (by decide +kernel) (by decide +kernel)
theorem wF_X9_60 : WIn (.fieldLink RX9 60 "ForkWatch$Parser" "clientCount" "I") := win_at 155 (by decide +kernel) (by decide +kernel)
theorem wF_X5_63 : WIn (.fieldLink RX5 63 "ForkWatch$Parser" "clientCount" "I") := win_at 156 (by decide +kernel) (by decide +kernel)
theorem wF_X9_63 : WIn (.fieldLink RX9 63 "ForkWatch$Parser" "blockCount" "I") := win_at 157 (by decide +kernel) (by decide +kernel)
theorem wF_X5_69 : WIn (.fieldLink RX5 69 "ForkWatch$Parser" "blockCount" "I") := win_at 158 (by decide +kernel) (by decide +kernel)
theorem wF_X9_66 : WIn (.fieldLink RX9 66 "ForkWatch$Parser" "interval" "I") := win_at 159 (by decide +kernel) (by decide +kernel)
theorem wF_X5_75 : WIn (.fieldLink RX5 75 "ForkWatch$Parser" "interval" "I") := win_at 160 (by decide +kernel) (by decide +kernel)
theorem wF_X5_29 : WIn (.fieldLink RX5 29 "ForkWatch$Parser" "failCode" "I") := win_at 161 (by decide +kernel) (by decide +kernel)
theorem wF_X9_152 : WIn (.fieldLink RX9 152 "ForkWatch$Parser" "failCode" "I") := win_at 162 (by decide +kernel) (by decide +kernel)
theorem wF_X5_24 : WIn (.fieldLink RX5 24 "ForkWatch$Parser" "failPosition" "I") := win_at 163 (by decide +kernel) (by decide +kernel)
theorem wF_X9_155 : WIn (.fieldLink RX9 155 "ForkWatch$Parser" "failPosition" "I") := win_at 164 (by decide +kernel) (by decide +kernel)
theorem wM_X9_18 : WIn (.methodLink RX9 18 yX6_init) := win_at 186 (by decide +kernel) (by decide +kernel)
theorem wM_X6_25 : WIn (.methodLink RX6 25 yX4_init) := win_at 196 (by decide +kernel) (by decide +kernel)
theorem wM_X4_7 : WIn (.methodLink RX4 7 Lib.Math.max.name) := win_at 200 (by decide +kernel) (by decide +kernel)
theorem wF_X4_13 : WIn (.fieldLink RX4 13 "ForkWatch$Ledger" "limit" "I") := win_at 203 (by decide +kernel) (by decide +kernel)
theorem wF_X4_19 : WIn (.fieldLink RX4 19 "ForkWatch$Ledger" "width" "I") := win_at 204 (by decide +kernel) (by decide +kernel)
theorem wF_X4_22 : WIn (.fieldLink RX4 22 "ForkWatch$Ledger" "cells" "[I") := win_at 205 (by decide +kernel) (by decide +kernel)
theorem wF_X4_26 : WIn (.fieldLink RX4 26 "ForkWatch$Ledger" "rows" "I") := win_at 206 (by decide +kernel) (by decide +kernel)
theorem wF_X6_59 : WIn (.fieldLink RX6 59 "ForkWatch$Ledger" "rows" "I") := win_at 207 (by decide +kernel) (by decide +kernel)
theorem wF_X9_264 : WIn (.fieldLink RX9 264 "ForkWatch$Ledger" "rows" "I") := win_at 208 (by decide +kernel) (by decide +kernel)
theorem wM_X6_42 : WIn (.methodLink RX6 42 yX1_init) := win_at 219 (by decide +kernel) (by decide +kernel)
theorem wF_X1_9 : WIn (.fieldLink RX1 9 "ForkWatch$Branch" "kinds" "[I") := win_at 223 (by decide +kernel) (by decide +kernel)
theorem wF_X6_189 : WIn (.fieldLink RX6 189 "ForkWatch$Branch" "kinds" "[I") := win_at 224 (by decide +kernel) (by decide +kernel)
theorem wF_X1_15 : WIn (.fieldLink RX1 15 "ForkWatch$Branch" "authors" "[I") := win_at 225 (by decide +kernel) (by decide +kernel)
theorem wF_X2_50 : WIn (.fieldLink RX2 50 "ForkWatch$Branch" "authors" "[I") := win_at 226 (by decide +kernel) (by decide +kernel)
theorem wF_X1_18 : WIn (.fieldLink RX1 18 "ForkWatch$Branch" "targets" "[I") := win_at 227 (by decide +kernel) (by decide +kernel)
theorem wF_X1_21 : WIn (.fieldLink RX1 21 "ForkWatch$Branch" "values" "[I") := win_at 228 (by decide +kernel) (by decide +kernel)
theorem wF_X6_192 : WIn (.fieldLink RX6 192 "ForkWatch$Branch" "values" "[I") := win_at 229 (by decide +kernel) (by decide +kernel)
theorem wF_X1_24 : WIn (.fieldLink RX1 24 "ForkWatch$Branch" "links" "[I") := win_at 230 (by decide +kernel) (by decide +kernel)
theorem wF_X1_27 : WIn (.fieldLink RX1 27 "ForkWatch$Branch" "hashes" "[I") := win_at 231 (by decide +kernel) (by decide +kernel)
theorem wF_X2_43 : WIn (.fieldLink RX2 43 "ForkWatch$Branch" "hashes" "[I") := win_at 232 (by decide +kernel) (by decide +kernel)
theorem wF_X6_128 : WIn (.fieldLink RX6 128 "ForkWatch$Branch" "hashes" "[I") := win_at 233 (by decide +kernel) (by decide +kernel)
theorem wF_X1_30 : WIn (.fieldLink RX1 30 "ForkWatch$Branch" "size" "I") := win_at 234 (by decide +kernel) (by decide +kernel)
theorem wF_X6_53 : WIn (.fieldLink RX6 53 "ForkWatch$Branch" "size" "I") := win_at 235 (by decide +kernel) (by decide +kernel)
theorem wF_X2_38 : WIn (.fieldLink RX2 38 "ForkWatch$Branch" "size" "I") := win_at 236 (by decide +kernel) (by decide +kernel)
theorem wF_X9_194 : WIn (.fieldLink RX9 194 "ForkWatch$Branch" "size" "I") := win_at 237 (by decide +kernel) (by decide +kernel)
theorem wF_X2_9 : WIn (.fieldLink RX2 9 "ForkWatch$Client" "hashes" "[I") := win_at 258 (by decide +kernel) (by decide +kernel)
theorem wF_X6_141 : WIn (.fieldLink RX6 141 "ForkWatch$Client" "hashes" "[I") := win_at 259 (by decide +kernel) (by decide +kernel)
theorem wF_X9_243 : WIn (.fieldLink RX9 243 "ForkWatch$Client" "hashes" "[I") := win_at 260 (by decide +kernel) (by decide +kernel)
theorem wF_X2_15 : WIn (.fieldLink RX2 15 "ForkWatch$Client" "counts" "[I") := win_at 261 (by decide +kernel) (by decide +kernel)
theorem wF_X9_246 : WIn (.fieldLink RX9 246 "ForkWatch$Client" "counts" "[I") := win_at 262 (by decide +kernel) (by decide +kernel)
theorem wF_X2_24 : WIn (.fieldLink RX2 24 "ForkWatch$Client" "position" "I") := win_at 263 (by decide +kernel) (by decide +kernel)
theorem wF_X6_74 : WIn (.fieldLink RX6 74 "ForkWatch$Client" "position" "I") := win_at 264 (by decide +kernel) (by decide +kernel)
theorem wF_X9_185 : WIn (.fieldLink RX9 185 "ForkWatch$Client" "position" "I") := win_at 265 (by decide +kernel) (by decide +kernel)
theorem wF_X2_28 : WIn (.fieldLink RX2 28 "ForkWatch$Client" "seen" "I") := win_at 266 (by decide +kernel) (by decide +kernel)
theorem wF_X6_77 : WIn (.fieldLink RX6 77 "ForkWatch$Client" "seen" "I") := win_at 267 (by decide +kernel) (by decide +kernel)
theorem wF_X9_178 : WIn (.fieldLink RX9 178 "ForkWatch$Client" "seen" "I") := win_at 268 (by decide +kernel) (by decide +kernel)
theorem wF_X2_31 : WIn (.fieldLink RX2 31 "ForkWatch$Client" "operations" "I") := win_at 269 (by decide +kernel) (by decide +kernel)
theorem wF_X6_106 : WIn (.fieldLink RX6 106 "ForkWatch$Client" "operations" "I") := win_at 270 (by decide +kernel) (by decide +kernel)
theorem wF_X2_34 : WIn (.fieldLink RX2 34 "ForkWatch$Client" "suspicious" "Z") := win_at 271 (by decide +kernel) (by decide +kernel)
theorem wF_X6_84 : WIn (.fieldLink RX6 84 "ForkWatch$Client" "suspicious" "Z") := win_at 272 (by decide +kernel) (by decide +kernel)
theorem wF_X9_168 : WIn (.fieldLink RX9 168 "ForkWatch$Client" "suspicious" "Z") := win_at 273 (by decide +kernel) (by decide +kernel)
theorem wF_X6_11 : WIn (.fieldLink RX6 11 "ForkWatch$Service" "branches" "[LForkWatch$Branch;") := win_at 287 (by decide +kernel) (by decide +kernel)
theorem wF_X9_174 : WIn (.fieldLink RX9 174 "ForkWatch$Service" "branches" "[LForkWatch$Branch;") := win_at 288 (by decide +kernel) (by decide +kernel)
theorem wF_X6_19 : WIn (.fieldLink RX6 19 "ForkWatch$Service" "clients" "[LForkWatch$Client;") := win_at 289 (by decide +kernel) (by decide +kernel)
theorem wF_X9_164 : WIn (.fieldLink RX9 164 "ForkWatch$Service" "clients" "[LForkWatch$Client;") := win_at 290 (by decide +kernel) (by decide +kernel)
theorem wF_X6_28 : WIn (.fieldLink RX6 28 "ForkWatch$Service" "blames" "LForkWatch$Ledger;") := win_at 291 (by decide +kernel) (by decide +kernel)
theorem wF_X9_260 : WIn (.fieldLink RX9 260 "ForkWatch$Service" "blames" "LForkWatch$Ledger;") := win_at 292 (by decide +kernel) (by decide +kernel)
theorem wF_X6_32 : WIn (.fieldLink RX6 32 "ForkWatch$Service" "board" "LForkWatch$Ledger;") := win_at 293 (by decide +kernel) (by decide +kernel)
theorem wF_X9_275 : WIn (.fieldLink RX9 275 "ForkWatch$Service" "board" "LForkWatch$Ledger;") := win_at 294 (by decide +kernel) (by decide +kernel)
theorem wF_X6_44 : WIn (.fieldLink RX6 44 "ForkWatch$Service" "clientCount" "I") := win_at 295 (by decide +kernel) (by decide +kernel)
theorem wF_X9_76 : WIn (.fieldLink RX9 76 "ForkWatch$Service" "clientCount" "I") := win_at 296 (by decide +kernel) (by decide +kernel)
theorem wF_X6_47 : WIn (.fieldLink RX6 47 "ForkWatch$Service" "blockCount" "I") := win_at 297 (by decide +kernel) (by decide +kernel)
theorem wF_X9_79 : WIn (.fieldLink RX9 79 "ForkWatch$Service" "blockCount" "I") := win_at 298 (by decide +kernel) (by decide +kernel)
theorem wF_X6_50 : WIn (.fieldLink RX6 50 "ForkWatch$Service" "branchCount" "I") := win_at 299 (by decide +kernel) (by decide +kernel)
theorem wF_X9_188 : WIn (.fieldLink RX9 188 "ForkWatch$Service" "branchCount" "I") := win_at 300 (by decide +kernel) (by decide +kernel)
theorem wF_X6_35 : WIn (.fieldLink RX6 35 "ForkWatch$Service" "interval" "I") := win_at 301 (by decide +kernel) (by decide +kernel)
theorem wF_X6_39 : WIn (.fieldLink RX6 39 "ForkWatch$Service" "lastSeal" "I") := win_at 302 (by decide +kernel) (by decide +kernel)
theorem wF_X9_10 : WIn (.fieldLink RX9 10 "ForkWatch" "parser" "LForkWatch$Parser;") := win_at 322 (by decide +kernel) (by decide +kernel)
theorem wF_X9_19 : WIn (.fieldLink RX9 19 "ForkWatch" "service" "LForkWatch$Service;") := win_at 323 (by decide +kernel) (by decide +kernel)
theorem wF_X9_23 : WIn (.fieldLink RX9 23 "ForkWatch" "fed" "I") := win_at 324 (by decide +kernel) (by decide +kernel)
theorem wF_X9_73 : WIn (.fieldLink RX9 73 "ForkWatch" "refusedSteps" "I") := win_at 325 (by decide +kernel) (by decide +kernel)
theorem wM_L_131 : WIn (.methodLink RL 131 yX9_errorCode) := win_at 335 (by decide +kernel) (by decide +kernel)
theorem wM_L_135 : WIn (.methodLink RL 135 yX9_errorPosition) := win_at 339 (by decide +kernel) (by decide +kernel)
theorem wM_L_139 : WIn (.methodLink RL 139 yX9_refused) := win_at 343 (by decide +kernel) (by decide +kernel)
theorem wM_L_178 : WIn (.methodLink RL 178 yX9_clients) := win_at 347 (by decide +kernel) (by decide +kernel)
theorem wM_L_182 : WIn (.methodLink RL 182 yX9_blocks) := win_at 351 (by decide +kernel) (by decide +kernel)
theorem wM_L_186 : WIn (.methodLink RL 186 yX9_branches) := win_at 355 (by decide +kernel) (by decide +kernel)
theorem wM_L_211 : WIn (.methodLink RL 211 yX9_isSigned) := win_at 359 (by decide +kernel) (by decide +kernel)
theorem wM_X9_236 : WIn (.methodLink RX9 236 yX6_hasClient) := win_at 363 (by decide +kernel) (by decide +kernel)
theorem wC_X9_239 : WIn (.constantLong RX9 239 (2147483647)) := win_at 367 (by decide +kernel) (by decide +kernel)
theorem wM_X9_233 : WIn (.methodLink RX9 233 yX9_signatureOf) := win_at 368 (by decide +kernel) (by decide +kernel)
theorem wC_X9_298 : WIn (.constantLong RX9 298 (31)) := win_at 371 (by decide +kernel) (by decide +kernel)
theorem wC_X9_300 : WIn (.constantLong RX9 300 (17)) := win_at 372 (by decide +kernel) (by decide +kernel)
theorem wC_X9_302 : WIn (.constantLong RX9 302 (13)) := win_at 373 (by decide +kernel) (by decide +kernel)
theorem wC_X9_304 : WIn (.constantLong RX9 304 (12345)) := win_at 374 (by decide +kernel) (by decide +kernel)
theorem wM_L_231 : WIn (.methodLink RL 231 yX9_forkedPairs) := win_at 375 (by decide +kernel) (by decide +kernel)
theorem wM_X9_256 : WIn (.methodLink RX9 256 yX2_isForkedFrom) := win_at 379 (by decide +kernel) (by decide +kernel)
theorem wM_X2_53 : WIn (.methodLink RX2 53 Lib.Math.min.name) := win_at 383 (by decide +kernel) (by decide +kernel)
theorem wM_L_238 : WIn (.methodLink RL 238 yX9_blames) := win_at 386 (by decide +kernel) (by decide +kernel)
theorem wM_L_245 : WIn (.methodLink RL 245 yX9_posts) := win_at 390 (by decide +kernel) (by decide +kernel)
theorem wM_L_114 : WIn (.methodLink RL 114 yL_feed) := win_at 394 (by decide +kernel) (by decide +kernel)
theorem wM_L_7 : WIn (.methodLink RL 7 yX9_feed) := win_at 398 (by decide +kernel) (by decide +kernel)
theorem wM_X9_34 : WIn (.methodLink RX9 34 yX9_putBytes) := win_at 469 (by decide +kernel) (by decide +kernel)
theorem wM_L_124 : WIn (.methodLink RL 124 yL_load) := win_at 473 (by decide +kernel) (by decide +kernel)
theorem wM_L_15 : WIn (.methodLink RL 15 yX9_load) := win_at 477 (by decide +kernel) (by decide +kernel)
theorem wM_X9_48 : WIn (.methodLink RX9 48 yX9_takeBuffer) := win_at 481 (by decide +kernel) (by decide +kernel)
theorem wM_X9_51 : WIn (.methodLink RX9 51 yX5_parseService) := win_at 501 (by decide +kernel) (by decide +kernel)
theorem wM_X5_46 : WIn (.methodLink RX5 46 yX5_begin) := win_at 505 (by decide +kernel) (by decide +kernel)
theorem wM_X5_38 : WIn (.methodLink RX5 38 yX8_scan) := win_at 509 (by decide +kernel) (by decide +kernel)
theorem wM_X8_28 : WIn (.methodLink RX8 28 Lib.Math.min.name) := win_at 513 (by decide +kernel) (by decide +kernel)
theorem wM_X8_34 : WIn (.methodLink RX8 34 Lib.Math.max.name) := win_at 514 (by decide +kernel) (by decide +kernel)
theorem wM_X8_41 : WIn (.methodLink RX8 41 yX8_endOfRun) := win_at 515 (by decide +kernel) (by decide +kernel)
theorem wM_X8_48 : WIn (.methodLink RX8 48 yX8_isLetter) := win_at 519 (by decide +kernel) (by decide +kernel)
theorem wM_X8_51 : WIn (.methodLink RX8 51 yX8_isDigit) := win_at 522 (by decide +kernel) (by decide +kernel)
theorem wM_X8_44 : WIn (.methodLink RX8 44 yX8_isBlank) := win_at 525 (by decide +kernel) (by decide +kernel)
theorem wF_X8_54 : WIn (.fieldLink RX8 54 "ForkWatch$Kind" "WRONG" "LForkWatch$Kind;") := win_at 528 (by decide +kernel) (by decide +kernel)
theorem wM_X8_58 : WIn (.methodLink RX8 58 yX8_kindOf) := win_at 530 (by decide +kernel) (by decide +kernel)
theorem wF_X8_69 : WIn (.fieldLink RX8 69 "ForkWatch$Kind" "NUMBER" "LForkWatch$Kind;") := win_at 534 (by decide +kernel) (by decide +kernel)
theorem wM_X8_79 : WIn (.methodLink RX8 79 yX8_isSpelled) := win_at 538 (by decide +kernel) (by decide +kernel)
theorem wM_X8_62 : WIn (.methodLink RX8 62 yX8_addToken) := win_at 590 (by decide +kernel) (by decide +kernel)
theorem wM_X8_93 : WIn (.methodLink RX8 93 yX8_numberAt) := win_at 594 (by decide +kernel) (by decide +kernel)
theorem wF_X8_66 : WIn (.fieldLink RX8 66 "ForkWatch$Kind" "END" "LForkWatch$Kind;") := win_at 598 (by decide +kernel) (by decide +kernel)
theorem wF_X5_49 : WIn (.fieldLink RX5 49 "ForkWatch$Kind" "CLIENTS" "LForkWatch$Kind;") := win_at 599 (by decide +kernel) (by decide +kernel)
theorem wM_X5_55 : WIn (.methodLink RX5 55 yX5_takeKind) := win_at 601 (by decide +kernel) (by decide +kernel)
theorem wM_X5_88 : WIn (.methodLink RX5 88 yX5_kindHere) := win_at 605 (by decide +kernel) (by decide +kernel)
theorem wF_X5_166 : WIn (.fieldLink RX5 166 "ForkWatch$Kind" "WRONG" "LForkWatch$Kind;") := win_at 609 (by decide +kernel) (by decide +kernel)
theorem wM_X5_95 : WIn (.methodLink RX5 95 yX5_fail) := win_at 610 (by decide +kernel) (by decide +kernel)
theorem wM_X5_129 : WIn (.methodLink RX5 129 yX5_takeToken) := win_at 614 (by decide +kernel) (by decide +kernel)
theorem wM_X5_84 : WIn (.methodLink RX5 84 yX5_hasFailed) := win_at 618 (by decide +kernel) (by decide +kernel)
theorem wM_X5_59 : WIn (.methodLink RX5 59 yX5_takeNumber) := win_at 622 (by decide +kernel) (by decide +kernel)
theorem wM_X5_105 : WIn (.methodLink RX5 105 yX5_checkNumber) := win_at 626 (by decide +kernel) (by decide +kernel)
theorem wF_X5_102 : WIn (.fieldLink RX5 102 "ForkWatch$Kind" "NUMBER" "LForkWatch$Kind;") := win_at 630 (by decide +kernel) (by decide +kernel)
theorem wF_X5_66 : WIn (.fieldLink RX5 66 "ForkWatch$Kind" "BLOCKS" "LForkWatch$Kind;") := win_at 631 (by decide +kernel) (by decide +kernel)
theorem wF_X5_72 : WIn (.fieldLink RX5 72 "ForkWatch$Kind" "WITNESS" "LForkWatch$Kind;") := win_at 633 (by decide +kernel) (by decide +kernel)
theorem wF_X5_78 : WIn (.fieldLink RX5 78 "ForkWatch$Kind" "SEMICOLON" "LForkWatch$Kind;") := win_at 635 (by decide +kernel) (by decide +kernel)
theorem wF_X5_81 : WIn (.fieldLink RX5 81 "ForkWatch$Kind" "END" "LForkWatch$Kind;") := win_at 637 (by decide +kernel) (by decide +kernel)
theorem wM_X9_54 : WIn (.methodLink RX9 54 yX5_hasFailed) := win_at 638 (by decide +kernel) (by decide +kernel)
theorem wM_X9_69 : WIn (.methodLink RX9 69 yX6_begin) := win_at 640 (by decide +kernel) (by decide +kernel)
theorem wM_X6_56 : WIn (.methodLink RX6 56 yX2_begin) := win_at 644 (by decide +kernel) (by decide +kernel)
theorem wM_L_128 : WIn (.methodLink RL 128 yL_run) := win_at 651 (by decide +kernel) (by decide +kernel)
theorem wM_L_21 : WIn (.methodLink RL 21 yX9_run) := win_at 654 (by decide +kernel) (by decide +kernel)
theorem wM_X9_80 : WIn (.methodLink RX9 80 yX5_parseScript) := win_at 659 (by decide +kernel) (by decide +kernel)
theorem wM_X5_92 : WIn (.methodLink RX5 92 yX5_checkFirstToken) := win_at 663 (by decide +kernel) (by decide +kernel)
theorem wM_X5_98 : WIn (.methodLink RX5 98 yX5_parseStep) := win_at 667 (by decide +kernel) (by decide +kernel)
theorem wF_X5_119 : WIn (.fieldLink RX5 119 "ForkWatch$Kind" "READS" "LForkWatch$Kind;") := win_at 671 (by decide +kernel) (by decide +kernel)
theorem wF_X5_122 : WIn (.fieldLink RX5 122 "ForkWatch$Kind" "WRITES" "LForkWatch$Kind;") := win_at 673 (by decide +kernel) (by decide +kernel)
theorem wM_X5_125 : WIn (.methodLink RX5 125 yX5_takeOperands) := win_at 675 (by decide +kernel) (by decide +kernel)
theorem wM_X5_153 : WIn (.methodLink RX5 153 yX5_greatest) := win_at 681 (by decide +kernel) (by decide +kernel)
theorem wC_X5_157 : WIn (.constant RX5 157 (999999)) := win_at 685 (by decide +kernel) (by decide +kernel)
theorem wF_X5_132 : WIn (.fieldLink RX5 132 "ForkWatch$Kind" "FORK" "LForkWatch$Kind;") := win_at 686 (by decide +kernel) (by decide +kernel)
theorem wM_X5_135 : WIn (.methodLink RX5 135 yX5_takeRestOfSet) := win_at 688 (by decide +kernel) (by decide +kernel)
theorem wM_X9_92 : WIn (.methodLink RX9 92 yX9_doStep) := win_at 693 (by decide +kernel) (by decide +kernel)
theorem wF_X9_107 : WIn (.fieldLink RX9 107 "ForkWatch$1" "$SwitchMap$ForkWatch$Kind" "[I") := win_at 697 (by decide +kernel) (by decide +kernel)
theorem wM_X9_122 : WIn (.methodLink RX9 122 yX6_doWrite) := win_at 705 (by decide +kernel) (by decide +kernel)
theorem wM_X6_62 : WIn (.methodLink RX6 62 yX6_hasClient) := win_at 709 (by decide +kernel) (by decide +kernel)
theorem wM_X6_66 : WIn (.methodLink RX6 66 yX6_hasBlock) := win_at 710 (by decide +kernel) (by decide +kernel)
theorem wC_X6_69 : WIn (.constant RX6 69 (999999)) := win_at 714 (by decide +kernel) (by decide +kernel)
theorem wM_X6_70 : WIn (.methodLink RX6 70 yX6_operate) := win_at 715 (by decide +kernel) (by decide +kernel)
theorem wM_X6_88 : WIn (.methodLink RX6 88 yX6_caseFor) := win_at 719 (by decide +kernel) (by decide +kernel)
theorem wM_X6_113 : WIn (.methodLink RX6 113 yX2_fits) := win_at 723 (by decide +kernel) (by decide +kernel)
theorem wM_X6_117 : WIn (.methodLink RX6 117 yX1_firstUnsound) := win_at 727 (by decide +kernel) (by decide +kernel)
theorem wM_X1_44 : WIn (.methodLink RX1 44 yX1_computedHash) := win_at 731 (by decide +kernel) (by decide +kernel)
theorem wC_X1_52 : WIn (.constantLong RX1 52 (1000003)) := win_at 735 (by decide +kernel) (by decide +kernel)
theorem wC_X1_54 : WIn (.constantLong RX1 54 (1299709)) := win_at 736 (by decide +kernel) (by decide +kernel)
theorem wC_X1_56 : WIn (.constantLong RX1 56 (7919)) := win_at 737 (by decide +kernel) (by decide +kernel)
theorem wC_X1_58 : WIn (.constantLong RX1 58 (104729)) := win_at 738 (by decide +kernel) (by decide +kernel)
theorem wC_X1_60 : WIn (.constantLong RX1 60 (15485863)) := win_at 739 (by decide +kernel) (by decide +kernel)
theorem wC_X1_62 : WIn (.constantLong RX1 62 (2147483647)) := win_at 740 (by decide +kernel) (by decide +kernel)
theorem wM_X6_120 : WIn (.methodLink RX6 120 yX6_firstRefutedBy) := win_at 741 (by decide +kernel) (by decide +kernel)
theorem wM_X6_124 : WIn (.methodLink RX6 124 yX4_partOf) := win_at 745 (by decide +kernel) (by decide +kernel)
theorem wM_X6_91 : WIn (.methodLink RX6 91 yX6_blameService) := win_at 749 (by decide +kernel) (by decide +kernel)
theorem wM_X6_132 : WIn (.methodLink RX6 132 yX2_lastHash) := win_at 753 (by decide +kernel) (by decide +kernel)
theorem wM_X6_136 : WIn (.methodLink RX6 136 yX1_lastHash) := win_at 757 (by decide +kernel) (by decide +kernel)
theorem wM_X6_137 : WIn (.methodLink RX6 137 yX6_addBlame) := win_at 761 (by decide +kernel) (by decide +kernel)
theorem wM_X6_154 : WIn (.methodLink RX6 154 yX4_addRow) := win_at 765 (by decide +kernel) (by decide +kernel)
theorem wM_X4_29 : WIn (.methodLink RX4 29 arraycopyName) := win_at 769 (by decide +kernel) (by decide +kernel)
theorem wM_X6_157 : WIn (.methodLink RX6 157 yX4_setPart) := win_at 772 (by decide +kernel) (by decide +kernel)
theorem wM_X6_146 : WIn (.methodLink RX6 146 Lib.Math.min.name) := win_at 779 (by decide +kernel) (by decide +kernel)
theorem wM_X6_151 : WIn (.methodLink RX6 151 yX1_computedHash) := win_at 780 (by decide +kernel) (by decide +kernel)
theorem wM_X6_94 : WIn (.methodLink RX6 94 yX1_isFull) := win_at 781 (by decide +kernel) (by decide +kernel)
theorem wM_X6_98 : WIn (.methodLink RX6 98 yX1_append) := win_at 785 (by decide +kernel) (by decide +kernel)
theorem wM_X1_40 : WIn (.methodLink RX1 40 yX1_isFull) := win_at 789 (by decide +kernel) (by decide +kernel)
theorem wM_X6_102 : WIn (.methodLink RX6 102 yX2_takeHistory) := win_at 790 (by decide +kernel) (by decide +kernel)
theorem wM_X2_44 : WIn (.methodLink RX2 44 arraycopyName) := win_at 794 (by decide +kernel) (by decide +kernel)
theorem wM_X6_109 : WIn (.methodLink RX6 109 yX6_addPost) := win_at 795 (by decide +kernel) (by decide +kernel)
theorem wC_X6_161 : WIn (.constantLong RX6 161 (1000003)) := win_at 799 (by decide +kernel) (by decide +kernel)
theorem wC_X6_163 : WIn (.constantLong RX6 163 (7919)) := win_at 800 (by decide +kernel) (by decide +kernel)
theorem wC_X6_165 : WIn (.constantLong RX6 165 (17)) := win_at 801 (by decide +kernel) (by decide +kernel)
theorem wC_X6_167 : WIn (.constantLong RX6 167 (2147483647)) := win_at 802 (by decide +kernel) (by decide +kernel)
theorem wM_X9_126 : WIn (.methodLink RX9 126 yX6_doRead) := win_at 803 (by decide +kernel) (by decide +kernel)
theorem wM_X6_80 : WIn (.methodLink RX6 80 yX1_lastValue) := win_at 807 (by decide +kernel) (by decide +kernel)
theorem wM_X9_130 : WIn (.methodLink RX9 130 yX6_doFork) := win_at 811 (by decide +kernel) (by decide +kernel)
theorem wM_X6_177 : WIn (.methodLink RX6 177 yX6_branchSeenBy) := win_at 815 (by decide +kernel) (by decide +kernel)
theorem wM_X6_180 : WIn (.methodLink RX6 180 yX1_copyFrom) := win_at 819 (by decide +kernel) (by decide +kernel)
theorem wM_X1_34 : WIn (.methodLink RX1 34 arraycopyName) := win_at 823 (by decide +kernel) (by decide +kernel)
theorem wM_X9_134 : WIn (.methodLink RX9 134 yX6_doMove) := win_at 824 (by decide +kernel) (by decide +kernel)
theorem wM_X6_183 : WIn (.methodLink RX6 183 yX6_hasBranch) := win_at 828 (by decide +kernel) (by decide +kernel)
theorem wM_X9_137 : WIn (.methodLink RX9 137 yX6_doRewind) := win_at 832 (by decide +kernel) (by decide +kernel)
theorem wM_X9_140 : WIn (.methodLink RX9 140 yX6_doCorrupt) := win_at 836 (by decide +kernel) (by decide +kernel)
theorem wM_X6_186 : WIn (.methodLink RX6 186 yX1_hasEntry) := win_at 840 (by decide +kernel) (by decide +kernel)
theorem wM_X9_143 : WIn (.methodLink RX9 143 yX6_doExchange) := win_at 844 (by decide +kernel) (by decide +kernel)
theorem wM_X6_169 : WIn (.methodLink RX6 169 yX2_isForkedFrom) := win_at 848 (by decide +kernel) (by decide +kernel)
theorem wM_X6_173 : WIn (.methodLink RX6 173 yX2_firstDifferenceTo) := win_at 849 (by decide +kernel) (by decide +kernel)
theorem wM_X9_146 : WIn (.methodLink RX9 146 yX6_doPost) := win_at 854 (by decide +kernel) (by decide +kernel)
theorem wM_X9_149 : WIn (.methodLink RX9 149 yX6_doHeal) := win_at 858 (by decide +kernel) (by decide +kernel)
theorem wM_X6_195 : WIn (.methodLink RX6 195 yX1_sharedWith) := win_at 862 (by decide +kernel) (by decide +kernel)
theorem wM_X1_68 : WIn (.methodLink RX1 68 Lib.Math.min.name) := win_at 866 (by decide +kernel) (by decide +kernel)
theorem wM_X6_198 : WIn (.methodLink RX6 198 yX1_conflictsWith) := win_at 868 (by decide +kernel) (by decide +kernel)
theorem wM_X1_78 : WIn (.methodLink RX1 78 yX1_sharedWith) := win_at 872 (by decide +kernel) (by decide +kernel)
theorem wM_X1_82 : WIn (.methodLink RX1 82 yX1_blocksOf) := win_at 873 (by decide +kernel) (by decide +kernel)
theorem wM_X6_201 : WIn (.methodLink RX6 201 yX1_appendMerge) := win_at 877 (by decide +kernel) (by decide +kernel)
theorem wM_X1_48 : WIn (.methodLink RX1 48 yX1_append) := win_at 881 (by decide +kernel) (by decide +kernel)
theorem wM_X6_204 : WIn (.methodLink RX6 204 yX1_appendOwn) := win_at 882 (by decide +kernel) (by decide +kernel)
theorem wM_X6_208 : WIn (.methodLink RX6 208 yX6_bringOver) := win_at 886 (by decide +kernel) (by decide +kernel)
theorem wM_L_143 : WIn (.methodLink RL 143 yL_write) := win_at 890 (by decide +kernel) (by decide +kernel)
theorem wM_L_24 : WIn (.methodLink RL 24 yX9_write) := win_at 894 (by decide +kernel) (by decide +kernel)
theorem wM_X9_158 : WIn (.methodLink RX9 158 yX9_answerOf) := win_at 898 (by decide +kernel) (by decide +kernel)
theorem wM_L_147 : WIn (.methodLink RL 147 yL_read) := win_at 919 (by decide +kernel) (by decide +kernel)
theorem wM_L_30 : WIn (.methodLink RL 30 yX9_read) := win_at 922 (by decide +kernel) (by decide +kernel)
theorem wM_L_151 : WIn (.methodLink RL 151 yL_exchange) := win_at 926 (by decide +kernel) (by decide +kernel)
theorem wM_L_34 : WIn (.methodLink RL 34 yX9_exchange) := win_at 929 (by decide +kernel) (by decide +kernel)
theorem wM_L_154 : WIn (.methodLink RL 154 yL_post) := win_at 933 (by decide +kernel) (by decide +kernel)
theorem wM_L_37 : WIn (.methodLink RL 37 yX9_post) := win_at 936 (by decide +kernel) (by decide +kernel)
theorem wM_L_157 : WIn (.methodLink RL 157 yL_calm) := win_at 940 (by decide +kernel) (by decide +kernel)
theorem wM_L_40 : WIn (.methodLink RL 40 yX9_calm) := win_at 943 (by decide +kernel) (by decide +kernel)
theorem wM_X9_161 : WIn (.methodLink RX9 161 yX9_requireClient) := win_at 947 (by decide +kernel) (by decide +kernel)
theorem wM_L_160 : WIn (.methodLink RL 160 yL_adopt) := win_at 952 (by decide +kernel) (by decide +kernel)
theorem wM_L_44 : WIn (.methodLink RL 44 yX9_adopt) := win_at 955 (by decide +kernel) (by decide +kernel)
theorem wM_X9_181 : WIn (.methodLink RX9 181 yX2_takeHistory) := win_at 959 (by decide +kernel) (by decide +kernel)
theorem wM_L_163 : WIn (.methodLink RL 163 yL_fork) := win_at 960 (by decide +kernel) (by decide +kernel)
theorem wM_L_47 : WIn (.methodLink RL 47 yX9_fork) := win_at 963 (by decide +kernel) (by decide +kernel)
theorem wM_L_166 : WIn (.methodLink RL 166 yL_move) := win_at 967 (by decide +kernel) (by decide +kernel)
theorem wM_L_50 : WIn (.methodLink RL 50 yX9_move) := win_at 970 (by decide +kernel) (by decide +kernel)
theorem wM_L_169 : WIn (.methodLink RL 169 yL_rewind) := win_at 974 (by decide +kernel) (by decide +kernel)
theorem wM_L_53 : WIn (.methodLink RL 53 yX9_rewind) := win_at 977 (by decide +kernel) (by decide +kernel)
theorem wM_L_172 : WIn (.methodLink RL 172 yL_corrupt) := win_at 981 (by decide +kernel) (by decide +kernel)
theorem wM_L_56 : WIn (.methodLink RL 56 yX9_corrupt) := win_at 984 (by decide +kernel) (by decide +kernel)
theorem wM_L_175 : WIn (.methodLink RL 175 yL_heal) := win_at 988 (by decide +kernel) (by decide +kernel)
theorem wM_L_59 : WIn (.methodLink RL 59 yX9_heal) := win_at 991 (by decide +kernel) (by decide +kernel)
theorem wM_L_190 : WIn (.methodLink RL 190 yL_length) := win_at 995 (by decide +kernel) (by decide +kernel)
theorem wM_L_62 : WIn (.methodLink RL 62 yX9_length) := win_at 998 (by decide +kernel) (by decide +kernel)
theorem wM_X9_191 : WIn (.methodLink RX9 191 yX9_requireBranch) := win_at 1002 (by decide +kernel) (by decide +kernel)
theorem wM_X9_283 : WIn (.methodLink RX9 283 yX6_hasBranch) := win_at 1006 (by decide +kernel) (by decide +kernel)
theorem wM_L_193 : WIn (.methodLink RL 193 yL_entry) := win_at 1008 (by decide +kernel) (by decide +kernel)
theorem wM_L_65 : WIn (.methodLink RL 65 yX9_entry) := win_at 1011 (by decide +kernel) (by decide +kernel)
theorem wM_X9_199 : WIn (.methodLink RX9 199 yX1_hasEntry) := win_at 1015 (by decide +kernel) (by decide +kernel)
theorem wM_X9_208 : WIn (.methodLink RX9 208 yX9_requirePart) := win_at 1017 (by decide +kernel) (by decide +kernel)
theorem wM_X9_212 : WIn (.methodLink RX9 212 yX1_partOf) := win_at 1021 (by decide +kernel) (by decide +kernel)
theorem wM_X1_64 : WIn (.methodLink RX1 64 yX1_hasEntry) := win_at 1025 (by decide +kernel) (by decide +kernel)
theorem wM_L_196 : WIn (.methodLink RL 196 yL_value) := win_at 1026 (by decide +kernel) (by decide +kernel)
theorem wM_L_68 : WIn (.methodLink RL 68 yX9_value) := win_at 1029 (by decide +kernel) (by decide +kernel)
theorem wM_X9_215 : WIn (.methodLink RX9 215 yX6_hasBlock) := win_at 1033 (by decide +kernel) (by decide +kernel)
theorem wM_X9_220 : WIn (.methodLink RX9 220 yX1_lastValue) := win_at 1035 (by decide +kernel) (by decide +kernel)
theorem wM_L_199 : WIn (.methodLink RL 199 yL_branchOf) := win_at 1036 (by decide +kernel) (by decide +kernel)
theorem wM_L_71 : WIn (.methodLink RL 71 yX9_branchOf) := win_at 1039 (by decide +kernel) (by decide +kernel)
theorem wM_L_202 : WIn (.methodLink RL 202 yL_commonLength) := win_at 1043 (by decide +kernel) (by decide +kernel)
theorem wM_L_74 : WIn (.methodLink RL 74 yX9_commonLength) := win_at 1046 (by decide +kernel) (by decide +kernel)
theorem wM_X9_223 : WIn (.methodLink RX9 223 yX1_sharedWith) := win_at 1050 (by decide +kernel) (by decide +kernel)
theorem wM_L_205 : WIn (.methodLink RL 205 yL_conflicts) := win_at 1051 (by decide +kernel) (by decide +kernel)
theorem wM_L_77 : WIn (.methodLink RL 77 yX9_conflicts) := win_at 1054 (by decide +kernel) (by decide +kernel)
theorem wM_X9_227 : WIn (.methodLink RX9 227 yX1_conflictsWith) := win_at 1058 (by decide +kernel) (by decide +kernel)
theorem wM_L_208 : WIn (.methodLink RL 208 yL_receipt) := win_at 1059 (by decide +kernel) (by decide +kernel)
theorem wM_L_80 : WIn (.methodLink RL 80 yX9_receipt) := win_at 1062 (by decide +kernel) (by decide +kernel)
theorem wM_X9_230 : WIn (.methodLink RX9 230 yX2_lastHash) := win_at 1066 (by decide +kernel) (by decide +kernel)
theorem wM_L_216 : WIn (.methodLink RL 216 yL_hashAt) := win_at 1067 (by decide +kernel) (by decide +kernel)
theorem wM_L_83 : WIn (.methodLink RL 83 yX9_hashAt) := win_at 1070 (by decide +kernel) (by decide +kernel)
theorem wM_L_219 : WIn (.methodLink RL 219 yL_vector) := win_at 1075 (by decide +kernel) (by decide +kernel)
theorem wM_L_86 : WIn (.methodLink RL 86 yX9_vector) := win_at 1078 (by decide +kernel) (by decide +kernel)
theorem wM_L_222 : WIn (.methodLink RL 222 yL_order) := win_at 1082 (by decide +kernel) (by decide +kernel)
theorem wM_L_89 : WIn (.methodLink RL 89 yX9_order) := win_at 1085 (by decide +kernel) (by decide +kernel)
theorem wM_X9_249 : WIn (.methodLink RX9 249 yX2_orderTo) := win_at 1089 (by decide +kernel) (by decide +kernel)
theorem wM_L_225 : WIn (.methodLink RL 225 yL_isSuspicious) := win_at 1093 (by decide +kernel) (by decide +kernel)
theorem wM_L_92 : WIn (.methodLink RL 92 yX9_isSuspicious) := win_at 1096 (by decide +kernel) (by decide +kernel)
theorem wM_L_228 : WIn (.methodLink RL 228 yL_wouldFind) := win_at 1100 (by decide +kernel) (by decide +kernel)
theorem wM_L_95 : WIn (.methodLink RL 95 yX9_wouldFind) := win_at 1103 (by decide +kernel) (by decide +kernel)
theorem wM_X9_253 : WIn (.methodLink RX9 253 yX6_caseFor) := win_at 1107 (by decide +kernel) (by decide +kernel)
theorem wM_L_235 : WIn (.methodLink RL 235 yL_seenBy) := win_at 1108 (by decide +kernel) (by decide +kernel)
theorem wM_L_98 : WIn (.methodLink RL 98 yX9_seenBy) := win_at 1111 (by decide +kernel) (by decide +kernel)
theorem wM_L_242 : WIn (.methodLink RL 242 yL_blame) := win_at 1115 (by decide +kernel) (by decide +kernel)
theorem wM_L_101 : WIn (.methodLink RL 101 yX9_blame) := win_at 1118 (by decide +kernel) (by decide +kernel)
theorem wM_X9_269 : WIn (.methodLink RX9 269 yX4_hasRow) := win_at 1122 (by decide +kernel) (by decide +kernel)
theorem wM_X9_274 : WIn (.methodLink RX9 274 yX4_partOf) := win_at 1127 (by decide +kernel) (by decide +kernel)
theorem wM_L_249 : WIn (.methodLink RL 249 yL_boardPost) := win_at 1128 (by decide +kernel) (by decide +kernel)
theorem wM_L_104 : WIn (.methodLink RL 104 yX9_boardPost) := win_at 1131 (by decide +kernel) (by decide +kernel)
theorem wM_X9_278 : WIn (.methodLink RX9 278 yX9_requirePost) := win_at 1135 (by decide +kernel) (by decide +kernel)
theorem wM_L_252 : WIn (.methodLink RL 252 yL_checkPost) := win_at 1140 (by decide +kernel) (by decide +kernel)
theorem wM_L_107 : WIn (.methodLink RL 107 yX9_checkPost) := win_at 1143 (by decide +kernel) (by decide +kernel)
theorem wM_L_113 : WIn (.methodLink RL 113 yX10_init) := win_at 1149 (by decide +kernel) (by decide +kernel)
theorem wF_X10_66 : WIn (.fieldLink RX10 66 "ForkWatchModel" "thrown" "I") := win_at 1153 (by decide +kernel) (by decide +kernel)
theorem wF_X10_69 : WIn (.fieldLink RX10 69 "ForkWatchModel" "clients" "I") := win_at 1154 (by decide +kernel) (by decide +kernel)
theorem wF_X10_76 : WIn (.fieldLink RX10 76 "ForkWatchModel" "blocks" "I") := win_at 1155 (by decide +kernel) (by decide +kernel)
theorem wF_X10_158 : WIn (.fieldLink RX10 158 "ForkWatchModel" "interval" "I") := win_at 1156 (by decide +kernel) (by decide +kernel)
theorem wF_X10_79 : WIn (.fieldLink RX10 79 "ForkWatchModel" "branches" "I") := win_at 1157 (by decide +kernel) (by decide +kernel)
theorem wF_X10_123 : WIn (.fieldLink RX10 123 "ForkWatchModel" "refused" "I") := win_at 1158 (by decide +kernel) (by decide +kernel)
theorem wF_X10_7 : WIn (.fieldLink RX10 7 "ForkWatchModel" "lengths" "[I") := win_at 1159 (by decide +kernel) (by decide +kernel)
theorem wF_X10_13 : WIn (.fieldLink RX10 13 "ForkWatchModel" "kind" "[I") := win_at 1160 (by decide +kernel) (by decide +kernel)
theorem wF_X10_16 : WIn (.fieldLink RX10 16 "ForkWatchModel" "author" "[I") := win_at 1161 (by decide +kernel) (by decide +kernel)
theorem wF_X10_19 : WIn (.fieldLink RX10 19 "ForkWatchModel" "block" "[I") := win_at 1162 (by decide +kernel) (by decide +kernel)
theorem wF_X10_22 : WIn (.fieldLink RX10 22 "ForkWatchModel" "value" "[I") := win_at 1163 (by decide +kernel) (by decide +kernel)
theorem wF_X10_25 : WIn (.fieldLink RX10 25 "ForkWatchModel" "link" "[I") := win_at 1164 (by decide +kernel) (by decide +kernel)
theorem wF_X10_28 : WIn (.fieldLink RX10 28 "ForkWatchModel" "hash" "[I") := win_at 1165 (by decide +kernel) (by decide +kernel)
theorem wF_X10_31 : WIn (.fieldLink RX10 31 "ForkWatchModel" "sees" "[I") := win_at 1166 (by decide +kernel) (by decide +kernel)
theorem wF_X10_34 : WIn (.fieldLink RX10 34 "ForkWatchModel" "position" "[I") := win_at 1167 (by decide +kernel) (by decide +kernel)
theorem wF_X10_37 : WIn (.fieldLink RX10 37 "ForkWatchModel" "done" "[I") := win_at 1168 (by decide +kernel) (by decide +kernel)
theorem wF_X10_40 : WIn (.fieldLink RX10 40 "ForkWatchModel" "vector" "[I") := win_at 1169 (by decide +kernel) (by decide +kernel)
theorem wF_X10_43 : WIn (.fieldLink RX10 43 "ForkWatchModel" "history" "[I") := win_at 1170 (by decide +kernel) (by decide +kernel)
theorem wF_X10_46 : WIn (.fieldLink RX10 46 "ForkWatchModel" "suspicious" "[Z") := win_at 1171 (by decide +kernel) (by decide +kernel)
theorem wF_X10_50 : WIn (.fieldLink RX10 50 "ForkWatchModel" "post" "[I") := win_at 1172 (by decide +kernel) (by decide +kernel)
theorem wF_X10_53 : WIn (.fieldLink RX10 53 "ForkWatchModel" "blame" "[I") := win_at 1173 (by decide +kernel) (by decide +kernel)
theorem wF_X10_126 : WIn (.fieldLink RX10 126 "ForkWatchModel" "posts" "I") := win_at 1174 (by decide +kernel) (by decide +kernel)
theorem wF_X10_129 : WIn (.fieldLink RX10 129 "ForkWatchModel" "blames" "I") := win_at 1175 (by decide +kernel) (by decide +kernel)
theorem wF_X10_132 : WIn (.fieldLink RX10 132 "ForkWatchModel" "lastSeal" "I") := win_at 1176 (by decide +kernel) (by decide +kernel)
theorem wF_X10_143 : WIn (.fieldLink RX10 143 "ForkWatchModel" "foundAt" "I") := win_at 1177 (by decide +kernel) (by decide +kernel)
theorem wF_X10_56 : WIn (.fieldLink RX10 56 "ForkWatchModel" "buffer" "[I") := win_at 1178 (by decide +kernel) (by decide +kernel)
theorem wF_X10_219 : WIn (.fieldLink RX10 219 "ForkWatchModel" "buffered" "I") := win_at 1179 (by decide +kernel) (by decide +kernel)
theorem wF_X10_234 : WIn (.fieldLink RX10 234 "ForkWatchModel" "textAt" "I") := win_at 1180 (by decide +kernel) (by decide +kernel)
theorem wF_X10_231 : WIn (.fieldLink RX10 231 "ForkWatchModel" "end" "I") := win_at 1181 (by decide +kernel) (by decide +kernel)
theorem wF_X10_250 : WIn (.fieldLink RX10 250 "ForkWatchModel" "lastEnd" "I") := win_at 1182 (by decide +kernel) (by decide +kernel)
theorem wF_X10_240 : WIn (.fieldLink RX10 240 "ForkWatchModel" "tokenAt" "I") := win_at 1183 (by decide +kernel) (by decide +kernel)
theorem wF_X10_271 : WIn (.fieldLink RX10 271 "ForkWatchModel" "number" "I") := win_at 1184 (by decide +kernel) (by decide +kernel)
theorem wF_X10_225 : WIn (.fieldLink RX10 225 "ForkWatchModel" "code" "I") := win_at 1185 (by decide +kernel) (by decide +kernel)
theorem wF_X10_59 : WIn (.fieldLink RX10 59 "ForkWatchModel" "codeAt" "I") := win_at 1186 (by decide +kernel) (by decide +kernel)
theorem wF_X10_256 : WIn (.fieldLink RX10 256 "ForkWatchModel" "word" "J") := win_at 1187 (by decide +kernel) (by decide +kernel)
theorem wF_X10_283 : WIn (.fieldLink RX10 283 "ForkWatchModel" "newClients" "I") := win_at 1188 (by decide +kernel) (by decide +kernel)
theorem wF_X10_288 : WIn (.fieldLink RX10 288 "ForkWatchModel" "newBlocks" "I") := win_at 1189 (by decide +kernel) (by decide +kernel)
theorem wF_X10_293 : WIn (.fieldLink RX10 293 "ForkWatchModel" "newInterval" "I") := win_at 1190 (by decide +kernel) (by decide +kernel)
theorem wF_X10_63 : WIn (.fieldLink RX10 63 "ForkWatchModel" "step" "[I") := win_at 1191 (by decide +kernel) (by decide +kernel)
theorem wF_X10_308 : WIn (.fieldLink RX10 308 "ForkWatchModel" "steps" "I") := win_at 1192 (by decide +kernel) (by decide +kernel)
theorem wM_L_120 : WIn (.methodLink RL 120 yX10_thrown) := win_at 1275 (by decide +kernel) (by decide +kernel)
theorem wM_L_146 : WIn (.methodLink RL 146 yX10_write) := win_at 1279 (by decide +kernel) (by decide +kernel)
theorem wM_X10_165 : WIn (.methodLink RX10 165 yX10_isClient) := win_at 1283 (by decide +kernel) (by decide +kernel)
theorem wM_X10_72 : WIn (.methodLink RX10 72 yX10_in) := win_at 1287 (by decide +kernel) (by decide +kernel)
theorem wM_X10_168 : WIn (.methodLink RX10 168 yX10_isBlock) := win_at 1290 (by decide +kernel) (by decide +kernel)
theorem wM_X10_171 : WIn (.methodLink RX10 171 yX10_refuse) := win_at 1294 (by decide +kernel) (by decide +kernel)
theorem wC_X10_174 : WIn (.constant RX10 174 (999999)) := win_at 1298 (by decide +kernel) (by decide +kernel)
theorem wM_X10_175 : WIn (.methodLink RX10 175 yX10_operates) := win_at 1299 (by decide +kernel) (by decide +kernel)
theorem wM_X10_149 : WIn (.methodLink RX10 149 yX10_finds) := win_at 1303 (by decide +kernel) (by decide +kernel)
theorem wM_X10_95 : WIn (.methodLink RX10 95 yX10_hashOf) := win_at 1307 (by decide +kernel) (by decide +kernel)
theorem wM_X10_86 : WIn (.methodLink RX10 86 yX10_at) := win_at 1311 (by decide +kernel) (by decide +kernel)
theorem wM_X10_139 : WIn (.methodLink RX10 139 yX10_ownHash) := win_at 1314 (by decide +kernel) (by decide +kernel)
theorem wM_X10_90 : WIn (.methodLink RX10 90 yX10_hashIn) := win_at 1318 (by decide +kernel) (by decide +kernel)
theorem wM_X10_120 : WIn (.methodLink RX10 120 yX10_computed) := win_at 1322 (by decide +kernel) (by decide +kernel)
theorem wC_X10_98 : WIn (.constantLong RX10 98 (1000003)) := win_at 1326 (by decide +kernel) (by decide +kernel)
theorem wC_X10_100 : WIn (.constantLong RX10 100 (1299709)) := win_at 1327 (by decide +kernel) (by decide +kernel)
theorem wM_X10_102 : WIn (.methodLink RX10 102 yX10_rest) := win_at 1328 (by decide +kernel) (by decide +kernel)
theorem wC_X10_93 : WIn (.constantLong RX10 93 (2147483647)) := win_at 1331 (by decide +kernel) (by decide +kernel)
theorem wC_X10_106 : WIn (.constantLong RX10 106 (7919)) := win_at 1332 (by decide +kernel) (by decide +kernel)
theorem wC_X10_108 : WIn (.constantLong RX10 108 (104729)) := win_at 1333 (by decide +kernel) (by decide +kernel)
theorem wC_X10_110 : WIn (.constantLong RX10 110 (15485863)) := win_at 1334 (by decide +kernel) (by decide +kernel)
theorem wM_X10_152 : WIn (.methodLink RX10 152 yX10_suspects) := win_at 1335 (by decide +kernel) (by decide +kernel)
theorem wM_X10_146 : WIn (.methodLink RX10 146 yX10_blames) := win_at 1339 (by decide +kernel) (by decide +kernel)
theorem wM_X10_155 : WIn (.methodLink RX10 155 yX10_append) := win_at 1343 (by decide +kernel) (by decide +kernel)
theorem wM_X10_135 : WIn (.methodLink RX10 135 yX10_takes) := win_at 1347 (by decide +kernel) (by decide +kernel)
theorem wM_X10_161 : WIn (.methodLink RX10 161 yX10_putsPost) := win_at 1351 (by decide +kernel) (by decide +kernel)
theorem wC_X10_114 : WIn (.constantLong RX10 114 (17)) := win_at 1355 (by decide +kernel) (by decide +kernel)
theorem wM_L_150 : WIn (.methodLink RL 150 yX10_read) := win_at 1356 (by decide +kernel) (by decide +kernel)
theorem wM_X10_179 : WIn (.methodLink RX10 179 yX10_valueIn) := win_at 1360 (by decide +kernel) (by decide +kernel)
theorem wM_L_153 : WIn (.methodLink RL 153 yX10_exchange) := win_at 1364 (by decide +kernel) (by decide +kernel)
theorem wM_X10_185 : WIn (.methodLink RX10 185 yX10_areForked) := win_at 1368 (by decide +kernel) (by decide +kernel)
theorem wM_X10_182 : WIn (.methodLink RX10 182 yX10_lowerOf) := win_at 1372 (by decide +kernel) (by decide +kernel)
theorem wM_L_156 : WIn (.methodLink RL 156 yX10_post) := win_at 1376 (by decide +kernel) (by decide +kernel)
theorem wM_L_159 : WIn (.methodLink RL 159 yX10_calm) := win_at 1380 (by decide +kernel) (by decide +kernel)
theorem wM_L_162 : WIn (.methodLink RL 162 yX10_adopt) := win_at 1384 (by decide +kernel) (by decide +kernel)
theorem wM_L_165 : WIn (.methodLink RL 165 yX10_fork) := win_at 1388 (by decide +kernel) (by decide +kernel)
theorem wM_X10_192 : WIn (.methodLink RX10 192 yX10_seenByAll) := win_at 1392 (by decide +kernel) (by decide +kernel)
theorem wM_X10_189 : WIn (.methodLink RX10 189 yX10_has) := win_at 1396 (by decide +kernel) (by decide +kernel)
theorem wM_X10_195 : WIn (.methodLink RX10 195 yX10_copies) := win_at 1399 (by decide +kernel) (by decide +kernel)
theorem wM_L_168 : WIn (.methodLink RL 168 yX10_move) := win_at 1403 (by decide +kernel) (by decide +kernel)
theorem wM_X10_82 : WIn (.methodLink RX10 82 yX10_isBranch) := win_at 1407 (by decide +kernel) (by decide +kernel)
theorem wM_L_171 : WIn (.methodLink RL 171 yX10_rewind) := win_at 1411 (by decide +kernel) (by decide +kernel)
theorem wM_L_174 : WIn (.methodLink RL 174 yX10_corrupt) := win_at 1415 (by decide +kernel) (by decide +kernel)
theorem wM_X10_199 : WIn (.methodLink RX10 199 yX10_isEntry) := win_at 1419 (by decide +kernel) (by decide +kernel)
theorem wM_L_177 : WIn (.methodLink RL 177 yX10_heal) := win_at 1423 (by decide +kernel) (by decide +kernel)
theorem wM_X10_202 : WIn (.methodLink RX10 202 yX10_common) := win_at 1427 (by decide +kernel) (by decide +kernel)
theorem wM_X10_209 : WIn (.methodLink RX10 209 yX10_conflictsOf) := win_at 1431 (by decide +kernel) (by decide +kernel)
theorem wM_X10_205 : WIn (.methodLink RX10 205 yX10_touched) := win_at 1435 (by decide +kernel) (by decide +kernel)
theorem wM_X10_212 : WIn (.methodLink RX10 212 yX10_comesOver) := win_at 1439 (by decide +kernel) (by decide +kernel)
theorem wM_X10_216 : WIn (.methodLink RX10 216 yX10_goesWith) := win_at 1443 (by decide +kernel) (by decide +kernel)
theorem wM_L_119 : WIn (.methodLink RL 119 yX10_feed) := win_at 1447 (by decide +kernel) (by decide +kernel)
theorem wM_X10_222 : WIn (.methodLink RX10 222 yX10_puts) := win_at 1451 (by decide +kernel) (by decide +kernel)
theorem wM_L_134 : WIn (.methodLink RL 134 yX10_errorCode) := win_at 1455 (by decide +kernel) (by decide +kernel)
theorem wM_X10_228 : WIn (.methodLink RX10 228 yX10_told) := win_at 1459 (by decide +kernel) (by decide +kernel)
theorem wM_L_138 : WIn (.methodLink RL 138 yX10_errorPosition) := win_at 1463 (by decide +kernel) (by decide +kernel)
theorem wM_L_142 : WIn (.methodLink RL 142 yX10_refused) := win_at 1467 (by decide +kernel) (by decide +kernel)
theorem wM_L_127 : WIn (.methodLink RL 127 yX10_load) := win_at 1471 (by decide +kernel) (by decide +kernel)
theorem wM_X10_299 : WIn (.methodLink RX10 299 yX10_opensText) := win_at 1475 (by decide +kernel) (by decide +kernel)
theorem wM_X10_302 : WIn (.methodLink RX10 302 yX10_readService) := win_at 1479 (by decide +kernel) (by decide +kernel)
theorem wC_X10_274 : WIn (.constantLong RX10 274 (3633494675)) := win_at 1483 (by decide +kernel) (by decide +kernel)
theorem wM_X10_276 : WIn (.methodLink RX10 276 yX10_takesWord) := win_at 1484 (by decide +kernel) (by decide +kernel)
theorem wM_X10_264 : WIn (.methodLink RX10 264 yX10_readWord) := win_at 1488 (by decide +kernel) (by decide +kernel)
theorem wM_X10_243 : WIn (.methodLink RX10 243 yX10_peek) := win_at 1492 (by decide +kernel) (by decide +kernel)
theorem wM_X10_237 : WIn (.methodLink RX10 237 yX10_byteAt) := win_at 1496 (by decide +kernel) (by decide +kernel)
theorem wM_X10_247 : WIn (.methodLink RX10 247 yX10_isLetter) := win_at 1500 (by decide +kernel) (by decide +kernel)
theorem wM_X10_253 : WIn (.methodLink RX10 253 yX10_fails) := win_at 1503 (by decide +kernel) (by decide +kernel)
theorem wC_X10_260 : WIn (.constantLong RX10 260 (32)) := win_at 1507 (by decide +kernel) (by decide +kernel)
theorem wC_X10_262 : WIn (.constantLong RX10 262 (96)) := win_at 1508 (by decide +kernel) (by decide +kernel)
theorem wM_X10_280 : WIn (.methodLink RX10 280 yX10_readNumber) := win_at 1509 (by decide +kernel) (by decide +kernel)
theorem wM_X10_268 : WIn (.methodLink RX10 268 yX10_isDigit) := win_at 1513 (by decide +kernel) (by decide +kernel)
theorem wC_X10_286 : WIn (.constantLong RX10 286 (80186739)) := win_at 1516 (by decide +kernel) (by decide +kernel)
theorem wC_X10_291 : WIn (.constantLong RX10 291 (25019487859)) := win_at 1517 (by decide +kernel) (by decide +kernel)
theorem wM_X10_296 : WIn (.methodLink RX10 296 yX10_readSemicolon) := win_at 1518 (by decide +kernel) (by decide +kernel)
theorem wM_X10_305 : WIn (.methodLink RX10 305 yX10_startAnew) := win_at 1522 (by decide +kernel) (by decide +kernel)
theorem wM_L_130 : WIn (.methodLink RL 130 yX10_run) := win_at 1526 (by decide +kernel) (by decide +kernel)
theorem wM_X10_383 : WIn (.methodLink RX10 383 yX10_readScript) := win_at 1530 (by decide +kernel) (by decide +kernel)
theorem wM_X10_353 : WIn (.methodLink RX10 353 yX10_readStep) := win_at 1534 (by decide +kernel) (by decide +kernel)
theorem wM_X10_344 : WIn (.methodLink RX10 344 yX10_readOperation) := win_at 1538 (by decide +kernel) (by decide +kernel)
theorem wM_X10_314 : WIn (.methodLink RX10 314 yX10_isTooMany) := win_at 1542 (by decide +kernel) (by decide +kernel)
theorem wC_X10_317 : WIn (.constantLong RX10 317 (790941875)) := win_at 1546 (by decide +kernel) (by decide +kernel)
theorem wC_X10_319 : WIn (.constantLong RX10 319 (19039379)) := win_at 1547 (by decide +kernel) (by decide +kernel)
theorem wM_X10_311 : WIn (.methodLink RX10 311 yX10_readInto) := win_at 1548 (by decide +kernel) (by decide +kernel)
theorem wM_X10_347 : WIn (.methodLink RX10 347 yX10_stepOf) := win_at 1552 (by decide +kernel) (by decide +kernel)
theorem wC_X10_324 : WIn (.constantLong RX10 324 (212555)) := win_at 1556 (by decide +kernel) (by decide +kernel)
theorem wC_X10_326 : WIn (.constantLong RX10 326 (442053)) := win_at 1557 (by decide +kernel) (by decide +kernel)
theorem wC_X10_328 : WIn (.constantLong RX10 328 (609985988)) := win_at 1558 (by decide +kernel) (by decide +kernel)
theorem wC_X10_330 : WIn (.constantLong RX10 330 (3744028180)) := win_at 1559 (by decide +kernel) (by decide +kernel)
theorem wC_X10_332 : WIn (.constantLong RX10 332 (197677594853)) := win_at 1560 (by decide +kernel) (by decide +kernel)
theorem wC_X10_334 : WIn (.constantLong RX10 334 (540276)) := win_at 1561 (by decide +kernel) (by decide +kernel)
theorem wC_X10_336 : WIn (.constantLong RX10 336 (267308)) := win_at 1562 (by decide +kernel) (by decide +kernel)
theorem wM_X10_350 : WIn (.methodLink RX10 350 yX10_readRest) := win_at 1563 (by decide +kernel) (by decide +kernel)
theorem wM_X10_338 : WIn (.methodLink RX10 338 yX10_readFork) := win_at 1567 (by decide +kernel) (by decide +kernel)
theorem wM_X10_321 : WIn (.methodLink RX10 321 yX10_readClient) := win_at 1571 (by decide +kernel) (by decide +kernel)
theorem wM_X10_341 : WIn (.methodLink RX10 341 yX10_readBranch) := win_at 1575 (by decide +kernel) (by decide +kernel)
theorem wM_X10_386 : WIn (.methodLink RX10 386 yX10_doesStep) := win_at 1579 (by decide +kernel) (by decide +kernel)
theorem wM_X10_356 : WIn (.methodLink RX10 356 yX10_write) := win_at 1583 (by decide +kernel) (by decide +kernel)
theorem wM_X10_360 : WIn (.methodLink RX10 360 yX10_read) := win_at 1584 (by decide +kernel) (by decide +kernel)
theorem wM_X10_363 : WIn (.methodLink RX10 363 yX10_fork) := win_at 1585 (by decide +kernel) (by decide +kernel)
theorem wM_X10_366 : WIn (.methodLink RX10 366 yX10_move) := win_at 1586 (by decide +kernel) (by decide +kernel)
theorem wM_X10_369 : WIn (.methodLink RX10 369 yX10_rewind) := win_at 1587 (by decide +kernel) (by decide +kernel)
theorem wM_X10_372 : WIn (.methodLink RX10 372 yX10_corrupt) := win_at 1588 (by decide +kernel) (by decide +kernel)
theorem wM_X10_375 : WIn (.methodLink RX10 375 yX10_exchange) := win_at 1589 (by decide +kernel) (by decide +kernel)
theorem wM_X10_378 : WIn (.methodLink RX10 378 yX10_post) := win_at 1590 (by decide +kernel) (by decide +kernel)
theorem wM_X10_380 : WIn (.methodLink RX10 380 yX10_heal) := win_at 1591 (by decide +kernel) (by decide +kernel)
theorem wM_L_181 : WIn (.methodLink RL 181 yX10_clients) := win_at 1592 (by decide +kernel) (by decide +kernel)
theorem wM_L_185 : WIn (.methodLink RL 185 yX10_blocks) := win_at 1596 (by decide +kernel) (by decide +kernel)
theorem wM_L_189 : WIn (.methodLink RL 189 yX10_branches) := win_at 1600 (by decide +kernel) (by decide +kernel)
theorem wM_L_192 : WIn (.methodLink RL 192 yX10_length) := win_at 1604 (by decide +kernel) (by decide +kernel)
theorem wM_L_195 : WIn (.methodLink RL 195 yX10_entry) := win_at 1608 (by decide +kernel) (by decide +kernel)
theorem wM_L_198 : WIn (.methodLink RL 198 yX10_value) := win_at 1612 (by decide +kernel) (by decide +kernel)
theorem wM_L_201 : WIn (.methodLink RL 201 yX10_branchOf) := win_at 1616 (by decide +kernel) (by decide +kernel)
theorem wM_L_204 : WIn (.methodLink RL 204 yX10_commonLength) := win_at 1620 (by decide +kernel) (by decide +kernel)
theorem wM_L_207 : WIn (.methodLink RL 207 yX10_conflicts) := win_at 1624 (by decide +kernel) (by decide +kernel)
theorem wM_L_210 : WIn (.methodLink RL 210 yX10_receipt) := win_at 1628 (by decide +kernel) (by decide +kernel)
theorem wM_X10_389 : WIn (.methodLink RX10 389 yX10_signature) := win_at 1632 (by decide +kernel) (by decide +kernel)
theorem wC_X10_112 : WIn (.constantLong RX10 112 (31)) := win_at 1635 (by decide +kernel) (by decide +kernel)
theorem wC_X10_116 : WIn (.constantLong RX10 116 (13)) := win_at 1636 (by decide +kernel) (by decide +kernel)
theorem wC_X10_118 : WIn (.constantLong RX10 118 (12345)) := win_at 1637 (by decide +kernel) (by decide +kernel)
theorem wM_L_215 : WIn (.methodLink RL 215 yX10_isSigned) := win_at 1638 (by decide +kernel) (by decide +kernel)
theorem wC_X10_392 : WIn (.constant RX10 392 (2147483646)) := win_at 1642 (by decide +kernel) (by decide +kernel)
theorem wM_L_218 : WIn (.methodLink RL 218 yX10_hashAt) := win_at 1643 (by decide +kernel) (by decide +kernel)
theorem wM_L_221 : WIn (.methodLink RL 221 yX10_vector) := win_at 1647 (by decide +kernel) (by decide +kernel)
theorem wM_X10_393 : WIn (.methodLink RX10 393 yX10_number) := win_at 1651 (by decide +kernel) (by decide +kernel)
theorem wM_L_224 : WIn (.methodLink RL 224 yX10_order) := win_at 1655 (by decide +kernel) (by decide +kernel)
theorem wM_L_227 : WIn (.methodLink RL 227 yX10_isSuspicious) := win_at 1659 (by decide +kernel) (by decide +kernel)
theorem wM_L_230 : WIn (.methodLink RL 230 yX10_wouldFind) := win_at 1663 (by decide +kernel) (by decide +kernel)
theorem wM_L_234 : WIn (.methodLink RL 234 yX10_forkedPairs) := win_at 1667 (by decide +kernel) (by decide +kernel)
theorem wM_L_237 : WIn (.methodLink RL 237 yX10_seenBy) := win_at 1671 (by decide +kernel) (by decide +kernel)
theorem wM_L_241 : WIn (.methodLink RL 241 yX10_blames_) := win_at 1675 (by decide +kernel) (by decide +kernel)
theorem wM_L_244 : WIn (.methodLink RL 244 yX10_blame) := win_at 1679 (by decide +kernel) (by decide +kernel)
theorem wM_L_248 : WIn (.methodLink RL 248 yX10_posts) := win_at 1683 (by decide +kernel) (by decide +kernel)
theorem wM_L_251 : WIn (.methodLink RL 251 yX10_boardPost) := win_at 1687 (by decide +kernel) (by decide +kernel)
theorem wM_L_254 : WIn (.methodLink RL 254 yX10_checkPost) := win_at 1691 (by decide +kernel) (by decide +kernel)
theorem wF_X8_75 : WIn (.fieldLink RX8 75 "ForkWatch$Kind" "spelling" "Ljava/lang/String;") := win_at 1712 (by decide +kernel) (by decide +kernel)
theorem wF_X5_109 : WIn (.fieldLink RX5 109 "ForkWatch$Kind" "opensStep" "Z") := win_at 1715 (by decide +kernel) (by decide +kernel)
theorem wF_X5_139 : WIn (.fieldLink RX5 139 "ForkWatch$Kind" "operands" "Ljava/lang/String;") := win_at 1716 (by decide +kernel) (by decide +kernel)
theorem lay_X1 : ∀ w ∈ u_ws RX1 TX1 7, WIn w := win_r _ [238, 240, 242, 244, 246, 248, 250] (by decide +kernel) (by decide +kernel)
theorem lay_X2 : ∀ w ∈ u_ws RX2 TX2 6, WIn w := win_r _ [274, 276, 278, 280, 282, 284] (by decide +kernel) (by decide +kernel)
theorem lay_X4 : ∀ w ∈ u_ws RX4 TX4 4, WIn w := win_r _ [209, 211, 213, 215] (by decide +kernel) (by decide +kernel)
theorem lay_X5 : ∀ w ∈ u_ws RX5 TX5 9, WIn w := win_r _ [165, 167, 169, 171, 173, 175, 177, 179, 181] (by decide +kernel) (by decide +kernel)
theorem lay_X6 : ∀ w ∈ u_ws RX6 TX6 9, WIn w := win_r _ [303, 305, 307, 309, 311, 313, 315, 317, 319] (by decide +kernel) (by decide +kernel)
theorem lay_X7 : ∀ w ∈ u_ws RX7 TX7 2, WIn w := win_r _ [143, 145] (by decide +kernel) (by decide +kernel)
theorem lay_X8 : ∀ w ∈ u_ws RX8 TX8 5, WIn w := win_r _ [115, 117, 119, 121, 123] (by decide +kernel) (by decide +kernel)
theorem lay_X9 : ∀ w ∈ u_ws RX9 TX9 4, WIn w := win_r _ [326, 328, 330, 332] (by decide +kernel) (by decide +kernel)
theorem lay_X10 : ∀ w ∈ u_ws RX10 TX10 40, WIn w := win_r _ [1193, 1195, 1197, 1199, 1201, 1203, 1205, 1207, 1209, 1211, 1213, 1215, 1217, 1219, 1221, 1223, 1225, 1227, 1229, 1231, 1233, 1235, 1237, 1239, 1241, 1243, 1245, 1247, 1249, 1251, 1253, 1255, 1257, 1259, 1261, 1263, 1265, 1267, 1269, 1271] (by decide +kernel) (by decide +kernel)
theorem w_init_X10 : WIn (.initialized RX10) := win_at 69 (by decide +kernel) (by decide +kernel)
theorem w_init_X1 : WIn (.initialized RX1) := win_at 67 (by decide +kernel) (by decide +kernel)
theorem w_init_X2 : WIn (.initialized RX2) := win_at 68 (by decide +kernel) (by decide +kernel)
theorem w_init_X4 : WIn (.initialized RX4) := win_at 65 (by decide +kernel) (by decide +kernel)
theorem w_init_X5 : WIn (.initialized RX5) := win_at 59 (by decide +kernel) (by decide +kernel)
theorem w_init_X6 : WIn (.initialized RX6) := win_at 64 (by decide +kernel) (by decide +kernel)
theorem w_init_X8 : WIn (.initialized RX8) := win_at 60 (by decide +kernel) (by decide +kernel)
theorem w_init_X9 : WIn (.initialized RX9) := win_at 58 (by decide +kernel) (by decide +kernel)
theorem k_X9_errorCode : CalV yX9_errorCode cX9_errorCode 1 (some .int) 0 := ⟨win_at 336 (by decide +kernel) (by decide +kernel), win_at 337 (by decide +kernel) (by decide +kernel), w_init_X9, win_at 338 (by decide +kernel) (by decide +kernel), ⟨by decide, by decide, by decide +kernel⟩, by decide⟩
theorem k_X9_errorPosition : CalV yX9_errorPosition cX9_errorPosition 1 (some .int) 0 := ⟨win_at 340 (by decide +kernel) (by decide +kernel), win_at 341 (by decide +kernel) (by decide +kernel), w_init_X9, win_at 342 (by decide +kernel) (by decide +kernel), ⟨by decide, by decide, by decide +kernel⟩, by decide⟩
theorem k_X9_refused : CalV yX9_refused cX9_refused 1 (some .int) 0 := ⟨win_at 344 (by decide +kernel) (by decide +kernel), win_at 345 (by decide +kernel) (by decide +kernel), w_init_X9, win_at 346 (by decide +kernel) (by decide +kernel), ⟨by decide, by decide, by decide +kernel⟩, by decide⟩
theorem k_X9_clients : CalV yX9_clients cX9_clients 1 (some .int) 0 := ⟨win_at 348 (by decide +kernel) (by decide +kernel), win_at 349 (by decide +kernel) (by decide +kernel), w_init_X9, win_at 350 (by decide +kernel) (by decide +kernel), ⟨by decide, by decide, by decide +kernel⟩, by decide⟩
theorem k_X9_blocks : CalV yX9_blocks cX9_blocks 1 (some .int) 0 := ⟨win_at 352 (by decide +kernel) (by decide +kernel), win_at 353 (by decide +kernel) (by decide +kernel), w_init_X9, win_at 354 (by decide +kernel) (by decide +kernel), ⟨by decide, by decide, by decide +kernel⟩, by decide⟩
theorem k_X9_branches : CalV yX9_branches cX9_branches 1 (some .int) 0 := ⟨win_at 356 (by decide +kernel) (by decide +kernel), win_at 357 (by decide +kernel) (by decide +kernel), w_init_X9, win_at 358 (by decide +kernel) (by decide +kernel), ⟨by decide, by decide, by decide +kernel⟩, by decide⟩
theorem k_X9_isSigned : CalV yX9_isSigned cX9_isSigned 6 (some .boolean) 4 := ⟨win_at 360 (by decide +kernel) (by decide +kernel), win_at 361 (by decide +kernel) (by decide +kernel), w_init_X9, win_at 362 (by decide +kernel) (by decide +kernel), ⟨by decide, by decide, by decide +kernel⟩, by decide⟩
theorem k_X6_hasClient : CalV yX6_hasClient cX6_hasClient 2 (some .boolean) 1 := ⟨win_at 364 (by decide +kernel) (by decide +kernel), win_at 365 (by decide +kernel) (by decide +kernel), w_init_X6, win_at 366 (by decide +kernel) (by decide +kernel), ⟨by decide, by decide, by decide +kernel⟩, by decide⟩
theorem k_X9_signatureOf : CalS yX9_signatureOf cX9_signatureOf 3 (some .int) 3 := ⟨win_at 369 (by decide +kernel) (by decide +kernel), w_init_X9, win_at 370 (by decide +kernel) (by decide +kernel), ⟨by decide, by decide, by decide +kernel⟩, by decide⟩
theorem k_X9_forkedPairs : CalV yX9_forkedPairs cX9_forkedPairs 4 (some .int) 0 := ⟨win_at 376 (by decide +kernel) (by decide +kernel), win_at 377 (by decide +kernel) (by decide +kernel), w_init_X9, win_at 378 (by decide +kernel) (by decide +kernel), ⟨by decide, by decide, by decide +kernel⟩, by decide⟩
theorem k_X2_isForkedFrom : CalV yX2_isForkedFrom cX2_isForkedFrom 3 (some .boolean) 1 := ⟨win_at 380 (by decide +kernel) (by decide +kernel), win_at 381 (by decide +kernel) (by decide +kernel), w_init_X2, win_at 382 (by decide +kernel) (by decide +kernel), ⟨by decide, by decide, by decide +kernel⟩, by decide⟩
theorem k_X9_blames : CalV yX9_blames cX9_blames 1 (some .int) 0 := ⟨win_at 387 (by decide +kernel) (by decide +kernel), win_at 388 (by decide +kernel) (by decide +kernel), w_init_X9, win_at 389 (by decide +kernel) (by decide +kernel), ⟨by decide, by decide, by decide +kernel⟩, by decide⟩
theorem k_X9_posts : CalV yX9_posts cX9_posts 1 (some .int) 0 := ⟨win_at 391 (by decide +kernel) (by decide +kernel), win_at 392 (by decide +kernel) (by decide +kernel), w_init_X9, win_at 393 (by decide +kernel) (by decide +kernel), ⟨by decide, by decide, by decide +kernel⟩, by decide⟩
theorem k_X9_feed : CalV yX9_feed cX9_feed 6 (some .int) 5 := ⟨win_at 399 (by decide +kernel) (by decide +kernel), win_at 400 (by decide +kernel) (by decide +kernel), w_init_X9, win_at 401 (by decide +kernel) (by decide +kernel), ⟨by decide, by decide, by decide +kernel⟩, by decide⟩
theorem k_X9_putBytes : CalV yX9_putBytes cX9_putBytes 3 none 1 := ⟨win_at 471 (by decide +kernel) (by decide +kernel), win_at 1 (by decide +kernel) (by decide +kernel), w_init_X9, win_at 472 (by decide +kernel) (by decide +kernel), ⟨by decide, by decide, by decide +kernel⟩, by decide⟩
theorem k_X9_load : CalV yX9_load cX9_load 2 (some .int) 1 := ⟨win_at 478 (by decide +kernel) (by decide +kernel), win_at 479 (by decide +kernel) (by decide +kernel), w_init_X9, win_at 480 (by decide +kernel) (by decide +kernel), ⟨by decide, by decide, by decide +kernel⟩, by decide⟩
theorem k_X9_takeBuffer : CalV yX9_takeBuffer cX9_takeBuffer 2 none 1 := ⟨win_at 483 (by decide +kernel) (by decide +kernel), win_at 2 (by decide +kernel) (by decide +kernel), w_init_X9, win_at 484 (by decide +kernel) (by decide +kernel), ⟨by decide, by decide, by decide +kernel⟩, by decide⟩
theorem k_X5_parseService : CalV yX5_parseService cX5_parseService 2 none 1 := ⟨win_at 502 (by decide +kernel) (by decide +kernel), win_at 503 (by decide +kernel) (by decide +kernel), w_init_X5, win_at 504 (by decide +kernel) (by decide +kernel), ⟨by decide, by decide, by decide +kernel⟩, by decide⟩
theorem k_X5_begin : CalV yX5_begin cX5_begin 2 none 1 := ⟨win_at 506 (by decide +kernel) (by decide +kernel), win_at 507 (by decide +kernel) (by decide +kernel), w_init_X5, win_at 508 (by decide +kernel) (by decide +kernel), ⟨by decide, by decide, by decide +kernel⟩, by decide⟩
theorem k_X8_scan : CalV yX8_scan cX8_scan 7 none 1 := ⟨win_at 510 (by decide +kernel) (by decide +kernel), win_at 511 (by decide +kernel) (by decide +kernel), w_init_X8, win_at 512 (by decide +kernel) (by decide +kernel), ⟨by decide, by decide, by decide +kernel⟩, by decide⟩
theorem k_X8_endOfRun : CalV yX8_endOfRun cX8_endOfRun 4 (some .int) 2 := ⟨win_at 516 (by decide +kernel) (by decide +kernel), win_at 517 (by decide +kernel) (by decide +kernel), w_init_X8, win_at 518 (by decide +kernel) (by decide +kernel), ⟨by decide, by decide, by decide +kernel⟩, by decide⟩
theorem k_X8_isLetter : CalS yX8_isLetter cX8_isLetter 1 (some .boolean) 1 := ⟨win_at 520 (by decide +kernel) (by decide +kernel), w_init_X8, win_at 521 (by decide +kernel) (by decide +kernel), ⟨by decide, by decide, by decide +kernel⟩, by decide⟩
theorem k_X8_isDigit : CalS yX8_isDigit cX8_isDigit 1 (some .boolean) 1 := ⟨win_at 523 (by decide +kernel) (by decide +kernel), w_init_X8, win_at 524 (by decide +kernel) (by decide +kernel), ⟨by decide, by decide, by decide +kernel⟩, by decide⟩
theorem k_X8_isBlank : CalS yX8_isBlank cX8_isBlank 1 (some .boolean) 1 := ⟨win_at 526 (by decide +kernel) (by decide +kernel), w_init_X8, win_at 527 (by decide +kernel) (by decide +kernel), ⟨by decide, by decide, by decide +kernel⟩, by decide⟩
theorem k_X8_kindOf : CalV yX8_kindOf cX8_kindOf 7 (some (.object "ForkWatch$Kind")) 2 := ⟨win_at 531 (by decide +kernel) (by decide +kernel), win_at 532 (by decide +kernel) (by decide +kernel), w_init_X8, win_at 533 (by decide +kernel) (by decide +kernel), ⟨by decide, by decide, by decide +kernel⟩, by decide⟩
theorem k_X8_isSpelled : CalV yX8_isSpelled cX8_isSpelled 5 (some .boolean) 3 := ⟨win_at 539 (by decide +kernel) (by decide +kernel), win_at 540 (by decide +kernel) (by decide +kernel), w_init_X8, win_at 541 (by decide +kernel) (by decide +kernel), ⟨by decide, by decide, by decide +kernel⟩, by decide⟩
theorem k_X8_addToken : CalV yX8_addToken cX8_addToken 4 none 3 := ⟨win_at 591 (by decide +kernel) (by decide +kernel), win_at 592 (by decide +kernel) (by decide +kernel), w_init_X8, win_at 593 (by decide +kernel) (by decide +kernel), ⟨by decide, by decide, by decide +kernel⟩, by decide⟩
theorem k_X8_numberAt : CalV yX8_numberAt cX8_numberAt 5 (some .int) 2 := ⟨win_at 595 (by decide +kernel) (by decide +kernel), win_at 596 (by decide +kernel) (by decide +kernel), w_init_X8, win_at 597 (by decide +kernel) (by decide +kernel), ⟨by decide, by decide, by decide +kernel⟩, by decide⟩
theorem k_X5_takeKind : CalV yX5_takeKind cX5_takeKind 2 none 1 := ⟨win_at 602 (by decide +kernel) (by decide +kernel), win_at 603 (by decide +kernel) (by decide +kernel), w_init_X5, win_at 604 (by decide +kernel) (by decide +kernel), ⟨by decide, by decide, by decide +kernel⟩, by decide⟩
theorem k_X5_kindHere : CalV yX5_kindHere cX5_kindHere 2 (some (.object "ForkWatch$Kind")) 0 := ⟨win_at 606 (by decide +kernel) (by decide +kernel), win_at 607 (by decide +kernel) (by decide +kernel), w_init_X5, win_at 608 (by decide +kernel) (by decide +kernel), ⟨by decide, by decide, by decide +kernel⟩, by decide⟩
theorem k_X5_fail : CalV yX5_fail cX5_fail 2 none 1 := ⟨win_at 611 (by decide +kernel) (by decide +kernel), win_at 612 (by decide +kernel) (by decide +kernel), w_init_X5, win_at 613 (by decide +kernel) (by decide +kernel), ⟨by decide, by decide, by decide +kernel⟩, by decide⟩
theorem k_X5_takeToken : CalV yX5_takeToken cX5_takeToken 1 none 0 := ⟨win_at 615 (by decide +kernel) (by decide +kernel), win_at 616 (by decide +kernel) (by decide +kernel), w_init_X5, win_at 617 (by decide +kernel) (by decide +kernel), ⟨by decide, by decide, by decide +kernel⟩, by decide⟩
theorem k_X5_hasFailed : CalV yX5_hasFailed cX5_hasFailed 1 (some .boolean) 0 := ⟨win_at 619 (by decide +kernel) (by decide +kernel), win_at 620 (by decide +kernel) (by decide +kernel), w_init_X5, win_at 621 (by decide +kernel) (by decide +kernel), ⟨by decide, by decide, by decide +kernel⟩, by decide⟩
theorem k_X5_takeNumber : CalV yX5_takeNumber cX5_takeNumber 4 (some .int) 2 := ⟨win_at 623 (by decide +kernel) (by decide +kernel), win_at 624 (by decide +kernel) (by decide +kernel), w_init_X5, win_at 625 (by decide +kernel) (by decide +kernel), ⟨by decide, by decide, by decide +kernel⟩, by decide⟩
theorem k_X5_checkNumber : CalV yX5_checkNumber cX5_checkNumber 4 none 2 := ⟨win_at 627 (by decide +kernel) (by decide +kernel), win_at 628 (by decide +kernel) (by decide +kernel), w_init_X5, win_at 629 (by decide +kernel) (by decide +kernel), ⟨by decide, by decide, by decide +kernel⟩, by decide⟩
theorem k_X6_begin : CalV yX6_begin cX6_begin 5 none 3 := ⟨win_at 641 (by decide +kernel) (by decide +kernel), win_at 642 (by decide +kernel) (by decide +kernel), w_init_X6, win_at 643 (by decide +kernel) (by decide +kernel), ⟨by decide, by decide, by decide +kernel⟩, by decide⟩
theorem k_X2_begin : CalV yX2_begin cX2_begin 1 none 0 := ⟨win_at 645 (by decide +kernel) (by decide +kernel), win_at 646 (by decide +kernel) (by decide +kernel), w_init_X2, win_at 647 (by decide +kernel) (by decide +kernel), ⟨by decide, by decide, by decide +kernel⟩, by decide⟩
theorem k_X9_run : CalV yX9_run cX9_run 4 (some .int) 1 := ⟨win_at 655 (by decide +kernel) (by decide +kernel), win_at 656 (by decide +kernel) (by decide +kernel), w_init_X9, win_at 657 (by decide +kernel) (by decide +kernel), ⟨by decide, by decide, by decide +kernel⟩, by decide⟩
theorem k_X5_parseScript : CalV yX5_parseScript cX5_parseScript 5 none 3 := ⟨win_at 660 (by decide +kernel) (by decide +kernel), win_at 661 (by decide +kernel) (by decide +kernel), w_init_X5, win_at 662 (by decide +kernel) (by decide +kernel), ⟨by decide, by decide, by decide +kernel⟩, by decide⟩
theorem k_X5_checkFirstToken : CalV yX5_checkFirstToken cX5_checkFirstToken 1 none 0 := ⟨win_at 664 (by decide +kernel) (by decide +kernel), win_at 665 (by decide +kernel) (by decide +kernel), w_init_X5, win_at 666 (by decide +kernel) (by decide +kernel), ⟨by decide, by decide, by decide +kernel⟩, by decide⟩
theorem k_X5_parseStep : CalV yX5_parseStep cX5_parseStep 2 none 1 := ⟨win_at 668 (by decide +kernel) (by decide +kernel), win_at 669 (by decide +kernel) (by decide +kernel), w_init_X5, win_at 670 (by decide +kernel) (by decide +kernel), ⟨by decide, by decide, by decide +kernel⟩, by decide⟩
theorem k_X5_takeOperands : CalV yX5_takeOperands cX5_takeOperands 6 none 2 := ⟨win_at 676 (by decide +kernel) (by decide +kernel), win_at 677 (by decide +kernel) (by decide +kernel), w_init_X5, win_at 678 (by decide +kernel) (by decide +kernel), ⟨by decide, by decide, by decide +kernel⟩, by decide⟩
theorem k_X5_greatest : CalV yX5_greatest cX5_greatest 2 (some .int) 1 := ⟨win_at 682 (by decide +kernel) (by decide +kernel), win_at 683 (by decide +kernel) (by decide +kernel), w_init_X5, win_at 684 (by decide +kernel) (by decide +kernel), ⟨by decide, by decide, by decide +kernel⟩, by decide⟩
theorem k_X5_takeRestOfSet : CalV yX5_takeRestOfSet cX5_takeRestOfSet 4 (some .int) 1 := ⟨win_at 689 (by decide +kernel) (by decide +kernel), win_at 690 (by decide +kernel) (by decide +kernel), w_init_X5, win_at 691 (by decide +kernel) (by decide +kernel), ⟨by decide, by decide, by decide +kernel⟩, by decide⟩
theorem k_X9_doStep : CalV yX9_doStep cX9_doStep 5 (some .int) 1 := ⟨win_at 695 (by decide +kernel) (by decide +kernel), win_at 3 (by decide +kernel) (by decide +kernel), w_init_X9, win_at 696 (by decide +kernel) (by decide +kernel), ⟨by decide, by decide, by decide +kernel⟩, by decide⟩
theorem k_X6_doWrite : CalV yX6_doWrite cX6_doWrite 4 (some .int) 3 := ⟨win_at 706 (by decide +kernel) (by decide +kernel), win_at 707 (by decide +kernel) (by decide +kernel), w_init_X6, win_at 708 (by decide +kernel) (by decide +kernel), ⟨by decide, by decide, by decide +kernel⟩, by decide⟩
theorem k_X6_hasBlock : CalV yX6_hasBlock cX6_hasBlock 2 (some .boolean) 1 := ⟨win_at 711 (by decide +kernel) (by decide +kernel), win_at 712 (by decide +kernel) (by decide +kernel), w_init_X6, win_at 713 (by decide +kernel) (by decide +kernel), ⟨by decide, by decide, by decide +kernel⟩, by decide⟩
theorem k_X6_operate : CalV yX6_operate cX6_operate 8 (some .boolean) 4 := ⟨win_at 716 (by decide +kernel) (by decide +kernel), win_at 717 (by decide +kernel) (by decide +kernel), w_init_X6, win_at 718 (by decide +kernel) (by decide +kernel), ⟨by decide, by decide, by decide +kernel⟩, by decide⟩
theorem k_X6_caseFor : CalV yX6_caseFor cX6_caseFor 4 (some .int) 1 := ⟨win_at 720 (by decide +kernel) (by decide +kernel), win_at 721 (by decide +kernel) (by decide +kernel), w_init_X6, win_at 722 (by decide +kernel) (by decide +kernel), ⟨by decide, by decide, by decide +kernel⟩, by decide⟩
theorem k_X2_fits : CalV yX2_fits cX2_fits 2 (some .boolean) 1 := ⟨win_at 724 (by decide +kernel) (by decide +kernel), win_at 725 (by decide +kernel) (by decide +kernel), w_init_X2, win_at 726 (by decide +kernel) (by decide +kernel), ⟨by decide, by decide, by decide +kernel⟩, by decide⟩
theorem k_X1_firstUnsound : CalV yX1_firstUnsound cX1_firstUnsound 3 (some .int) 1 := ⟨win_at 728 (by decide +kernel) (by decide +kernel), win_at 729 (by decide +kernel) (by decide +kernel), w_init_X1, win_at 730 (by decide +kernel) (by decide +kernel), ⟨by decide, by decide, by decide +kernel⟩, by decide⟩
theorem k_X1_computedHash : CalV yX1_computedHash cX1_computedHash 4 (some .int) 1 := ⟨win_at 732 (by decide +kernel) (by decide +kernel), win_at 733 (by decide +kernel) (by decide +kernel), w_init_X1, win_at 734 (by decide +kernel) (by decide +kernel), ⟨by decide, by decide, by decide +kernel⟩, by decide⟩
theorem k_X6_firstRefutedBy : CalV yX6_firstRefutedBy cX6_firstRefutedBy 4 (some .int) 1 := ⟨win_at 742 (by decide +kernel) (by decide +kernel), win_at 743 (by decide +kernel) (by decide +kernel), w_init_X6, win_at 744 (by decide +kernel) (by decide +kernel), ⟨by decide, by decide, by decide +kernel⟩, by decide⟩
theorem k_X4_partOf : CalV yX4_partOf cX4_partOf 4 (some .int) 2 := ⟨win_at 746 (by decide +kernel) (by decide +kernel), win_at 747 (by decide +kernel) (by decide +kernel), w_init_X4, win_at 748 (by decide +kernel) (by decide +kernel), ⟨by decide, by decide, by decide +kernel⟩, by decide⟩
theorem k_X6_blameService : CalV yX6_blameService cX6_blameService 8 none 2 := ⟨win_at 750 (by decide +kernel) (by decide +kernel), win_at 751 (by decide +kernel) (by decide +kernel), w_init_X6, win_at 752 (by decide +kernel) (by decide +kernel), ⟨by decide, by decide, by decide +kernel⟩, by decide⟩
theorem k_X2_lastHash : CalV yX2_lastHash cX2_lastHash 1 (some .int) 0 := ⟨win_at 754 (by decide +kernel) (by decide +kernel), win_at 755 (by decide +kernel) (by decide +kernel), w_init_X2, win_at 756 (by decide +kernel) (by decide +kernel), ⟨by decide, by decide, by decide +kernel⟩, by decide⟩
theorem k_X1_lastHash : CalV yX1_lastHash cX1_lastHash 1 (some .int) 0 := ⟨win_at 758 (by decide +kernel) (by decide +kernel), win_at 759 (by decide +kernel) (by decide +kernel), w_init_X1, win_at 760 (by decide +kernel) (by decide +kernel), ⟨by decide, by decide, by decide +kernel⟩, by decide⟩
theorem k_X6_addBlame : CalV yX6_addBlame cX6_addBlame 8 none 6 := ⟨win_at 762 (by decide +kernel) (by decide +kernel), win_at 763 (by decide +kernel) (by decide +kernel), w_init_X6, win_at 764 (by decide +kernel) (by decide +kernel), ⟨by decide, by decide, by decide +kernel⟩, by decide⟩
theorem k_X4_addRow : CalV yX4_addRow cX4_addRow 1 (some .int) 0 := ⟨win_at 766 (by decide +kernel) (by decide +kernel), win_at 767 (by decide +kernel) (by decide +kernel), w_init_X4, win_at 768 (by decide +kernel) (by decide +kernel), ⟨by decide, by decide, by decide +kernel⟩, by decide⟩
theorem k_X4_setPart : CalV yX4_setPart cX4_setPart 5 none 3 := ⟨win_at 773 (by decide +kernel) (by decide +kernel), win_at 774 (by decide +kernel) (by decide +kernel), w_init_X4, win_at 775 (by decide +kernel) (by decide +kernel), ⟨by decide, by decide, by decide +kernel⟩, by decide⟩
theorem k_X9_firstDifference : CalS yX9_firstDifference cX9_firstDifference 4 (some .int) 3 := ⟨win_at 777 (by decide +kernel) (by decide +kernel), w_init_X9, win_at 778 (by decide +kernel) (by decide +kernel), ⟨by decide, by decide, by decide +kernel⟩, by decide⟩
theorem k_X1_isFull : CalV yX1_isFull cX1_isFull 1 (some .boolean) 0 := ⟨win_at 782 (by decide +kernel) (by decide +kernel), win_at 783 (by decide +kernel) (by decide +kernel), w_init_X1, win_at 784 (by decide +kernel) (by decide +kernel), ⟨by decide, by decide, by decide +kernel⟩, by decide⟩
theorem k_X1_append : CalV yX1_append cX1_append 6 none 5 := ⟨win_at 786 (by decide +kernel) (by decide +kernel), win_at 787 (by decide +kernel) (by decide +kernel), w_init_X1, win_at 788 (by decide +kernel) (by decide +kernel), ⟨by decide, by decide, by decide +kernel⟩, by decide⟩
theorem k_X2_takeHistory : CalV yX2_takeHistory cX2_takeHistory 4 none 1 := ⟨win_at 791 (by decide +kernel) (by decide +kernel), win_at 792 (by decide +kernel) (by decide +kernel), w_init_X2, win_at 793 (by decide +kernel) (by decide +kernel), ⟨by decide, by decide, by decide +kernel⟩, by decide⟩
theorem k_X6_addPost : CalV yX6_addPost cX6_addPost 7 none 1 := ⟨win_at 796 (by decide +kernel) (by decide +kernel), win_at 797 (by decide +kernel) (by decide +kernel), w_init_X6, win_at 798 (by decide +kernel) (by decide +kernel), ⟨by decide, by decide, by decide +kernel⟩, by decide⟩
theorem k_X6_doRead : CalV yX6_doRead cX6_doRead 3 (some .int) 2 := ⟨win_at 804 (by decide +kernel) (by decide +kernel), win_at 805 (by decide +kernel) (by decide +kernel), w_init_X6, win_at 806 (by decide +kernel) (by decide +kernel), ⟨by decide, by decide, by decide +kernel⟩, by decide⟩
theorem k_X1_lastValue : CalV yX1_lastValue cX1_lastValue 3 (some .int) 1 := ⟨win_at 808 (by decide +kernel) (by decide +kernel), win_at 809 (by decide +kernel) (by decide +kernel), w_init_X1, win_at 810 (by decide +kernel) (by decide +kernel), ⟨by decide, by decide, by decide +kernel⟩, by decide⟩
theorem k_X6_doFork : CalV yX6_doFork cX6_doFork 5 (some .int) 1 := ⟨win_at 812 (by decide +kernel) (by decide +kernel), win_at 813 (by decide +kernel) (by decide +kernel), w_init_X6, win_at 814 (by decide +kernel) (by decide +kernel), ⟨by decide, by decide, by decide +kernel⟩, by decide⟩
theorem k_X6_branchSeenBy : CalV yX6_branchSeenBy cX6_branchSeenBy 4 (some .int) 1 := ⟨win_at 816 (by decide +kernel) (by decide +kernel), win_at 817 (by decide +kernel) (by decide +kernel), w_init_X6, win_at 818 (by decide +kernel) (by decide +kernel), ⟨by decide, by decide, by decide +kernel⟩, by decide⟩
theorem k_X1_copyFrom : CalV yX1_copyFrom cX1_copyFrom 3 none 1 := ⟨win_at 820 (by decide +kernel) (by decide +kernel), win_at 821 (by decide +kernel) (by decide +kernel), w_init_X1, win_at 822 (by decide +kernel) (by decide +kernel), ⟨by decide, by decide, by decide +kernel⟩, by decide⟩
theorem k_X6_doMove : CalV yX6_doMove cX6_doMove 4 (some .int) 2 := ⟨win_at 825 (by decide +kernel) (by decide +kernel), win_at 826 (by decide +kernel) (by decide +kernel), w_init_X6, win_at 827 (by decide +kernel) (by decide +kernel), ⟨by decide, by decide, by decide +kernel⟩, by decide⟩
theorem k_X6_hasBranch : CalV yX6_hasBranch cX6_hasBranch 2 (some .boolean) 1 := ⟨win_at 829 (by decide +kernel) (by decide +kernel), win_at 830 (by decide +kernel) (by decide +kernel), w_init_X6, win_at 831 (by decide +kernel) (by decide +kernel), ⟨by decide, by decide, by decide +kernel⟩, by decide⟩
theorem k_X6_doRewind : CalV yX6_doRewind cX6_doRewind 3 (some .int) 2 := ⟨win_at 833 (by decide +kernel) (by decide +kernel), win_at 834 (by decide +kernel) (by decide +kernel), w_init_X6, win_at 835 (by decide +kernel) (by decide +kernel), ⟨by decide, by decide, by decide +kernel⟩, by decide⟩
theorem k_X6_doCorrupt : CalV yX6_doCorrupt cX6_doCorrupt 6 (some .int) 3 := ⟨win_at 837 (by decide +kernel) (by decide +kernel), win_at 838 (by decide +kernel) (by decide +kernel), w_init_X6, win_at 839 (by decide +kernel) (by decide +kernel), ⟨by decide, by decide, by decide +kernel⟩, by decide⟩
theorem k_X1_hasEntry : CalV yX1_hasEntry cX1_hasEntry 2 (some .boolean) 1 := ⟨win_at 841 (by decide +kernel) (by decide +kernel), win_at 842 (by decide +kernel) (by decide +kernel), w_init_X1, win_at 843 (by decide +kernel) (by decide +kernel), ⟨by decide, by decide, by decide +kernel⟩, by decide⟩
theorem k_X6_doExchange : CalV yX6_doExchange cX6_doExchange 6 (some .int) 2 := ⟨win_at 845 (by decide +kernel) (by decide +kernel), win_at 846 (by decide +kernel) (by decide +kernel), w_init_X6, win_at 847 (by decide +kernel) (by decide +kernel), ⟨by decide, by decide, by decide +kernel⟩, by decide⟩
theorem k_X2_firstDifferenceTo : CalV yX2_firstDifferenceTo cX2_firstDifferenceTo 2 (some .int) 1 := ⟨win_at 850 (by decide +kernel) (by decide +kernel), win_at 851 (by decide +kernel) (by decide +kernel), w_init_X2, win_at 852 (by decide +kernel) (by decide +kernel), ⟨by decide, by decide, by decide +kernel⟩, by decide⟩
theorem k_X6_doPost : CalV yX6_doPost cX6_doPost 2 (some .int) 1 := ⟨win_at 855 (by decide +kernel) (by decide +kernel), win_at 856 (by decide +kernel) (by decide +kernel), w_init_X6, win_at 857 (by decide +kernel) (by decide +kernel), ⟨by decide, by decide, by decide +kernel⟩, by decide⟩
theorem k_X6_doHeal : CalV yX6_doHeal cX6_doHeal 7 (some .int) 2 := ⟨win_at 859 (by decide +kernel) (by decide +kernel), win_at 860 (by decide +kernel) (by decide +kernel), w_init_X6, win_at 861 (by decide +kernel) (by decide +kernel), ⟨by decide, by decide, by decide +kernel⟩, by decide⟩
theorem k_X1_sharedWith : CalV yX1_sharedWith cX1_sharedWith 2 (some .int) 1 := ⟨win_at 863 (by decide +kernel) (by decide +kernel), win_at 864 (by decide +kernel) (by decide +kernel), w_init_X1, win_at 865 (by decide +kernel) (by decide +kernel), ⟨by decide, by decide, by decide +kernel⟩, by decide⟩
theorem k_X1_conflictsWith : CalV yX1_conflictsWith cX1_conflictsWith 7 (some .int) 1 := ⟨win_at 869 (by decide +kernel) (by decide +kernel), win_at 870 (by decide +kernel) (by decide +kernel), w_init_X1, win_at 871 (by decide +kernel) (by decide +kernel), ⟨by decide, by decide, by decide +kernel⟩, by decide⟩
theorem k_X1_blocksOf : CalV yX1_blocksOf cX1_blocksOf 5 (some .int) 2 := ⟨win_at 874 (by decide +kernel) (by decide +kernel), win_at 875 (by decide +kernel) (by decide +kernel), w_init_X1, win_at 876 (by decide +kernel) (by decide +kernel), ⟨by decide, by decide, by decide +kernel⟩, by decide⟩
theorem k_X1_appendMerge : CalV yX1_appendMerge cX1_appendMerge 2 none 1 := ⟨win_at 878 (by decide +kernel) (by decide +kernel), win_at 879 (by decide +kernel) (by decide +kernel), w_init_X1, win_at 880 (by decide +kernel) (by decide +kernel), ⟨by decide, by decide, by decide +kernel⟩, by decide⟩
theorem k_X1_appendOwn : CalV yX1_appendOwn cX1_appendOwn 4 none 2 := ⟨win_at 883 (by decide +kernel) (by decide +kernel), win_at 884 (by decide +kernel) (by decide +kernel), w_init_X1, win_at 885 (by decide +kernel) (by decide +kernel), ⟨by decide, by decide, by decide +kernel⟩, by decide⟩
theorem k_X6_bringOver : CalV yX6_bringOver cX6_bringOver 5 none 4 := ⟨win_at 887 (by decide +kernel) (by decide +kernel), win_at 888 (by decide +kernel) (by decide +kernel), w_init_X6, win_at 889 (by decide +kernel) (by decide +kernel), ⟨by decide, by decide, by decide +kernel⟩, by decide⟩
theorem k_X9_write : CalV yX9_write cX9_write 4 (some .int) 3 := ⟨win_at 895 (by decide +kernel) (by decide +kernel), win_at 896 (by decide +kernel) (by decide +kernel), w_init_X9, win_at 897 (by decide +kernel) (by decide +kernel), ⟨by decide, by decide, by decide +kernel⟩, by decide⟩
theorem k_X9_answerOf : CalS yX9_answerOf cX9_answerOf 1 (some .int) 1 := ⟨win_at 899 (by decide +kernel) (by decide +kernel), w_init_X9, win_at 900 (by decide +kernel) (by decide +kernel), ⟨by decide, by decide, by decide +kernel⟩, by decide⟩
theorem k_X9_read : CalV yX9_read cX9_read 3 (some .int) 2 := ⟨win_at 923 (by decide +kernel) (by decide +kernel), win_at 924 (by decide +kernel) (by decide +kernel), w_init_X9, win_at 925 (by decide +kernel) (by decide +kernel), ⟨by decide, by decide, by decide +kernel⟩, by decide⟩
theorem k_X9_exchange : CalV yX9_exchange cX9_exchange 3 (some .int) 2 := ⟨win_at 930 (by decide +kernel) (by decide +kernel), win_at 931 (by decide +kernel) (by decide +kernel), w_init_X9, win_at 932 (by decide +kernel) (by decide +kernel), ⟨by decide, by decide, by decide +kernel⟩, by decide⟩
theorem k_X9_post : CalV yX9_post cX9_post 2 (some .int) 1 := ⟨win_at 937 (by decide +kernel) (by decide +kernel), win_at 938 (by decide +kernel) (by decide +kernel), w_init_X9, win_at 939 (by decide +kernel) (by decide +kernel), ⟨by decide, by decide, by decide +kernel⟩, by decide⟩
theorem k_X9_calm : CalV yX9_calm cX9_calm 3 (some .boolean) 1 := ⟨win_at 944 (by decide +kernel) (by decide +kernel), win_at 945 (by decide +kernel) (by decide +kernel), w_init_X9, win_at 946 (by decide +kernel) (by decide +kernel), ⟨by decide, by decide, by decide +kernel⟩, by decide⟩
theorem k_X9_requireClient : CalV yX9_requireClient cX9_requireClient 2 none 1 := ⟨win_at 949 (by decide +kernel) (by decide +kernel), win_at 4 (by decide +kernel) (by decide +kernel), w_init_X9, win_at 950 (by decide +kernel) (by decide +kernel), ⟨by decide, by decide, by decide +kernel⟩, by decide⟩
theorem k_X9_adopt : CalV yX9_adopt cX9_adopt 3 (some .int) 1 := ⟨win_at 956 (by decide +kernel) (by decide +kernel), win_at 957 (by decide +kernel) (by decide +kernel), w_init_X9, win_at 958 (by decide +kernel) (by decide +kernel), ⟨by decide, by decide, by decide +kernel⟩, by decide⟩
theorem k_X9_fork : CalV yX9_fork cX9_fork 2 (some .int) 1 := ⟨win_at 964 (by decide +kernel) (by decide +kernel), win_at 965 (by decide +kernel) (by decide +kernel), w_init_X9, win_at 966 (by decide +kernel) (by decide +kernel), ⟨by decide, by decide, by decide +kernel⟩, by decide⟩
theorem k_X9_move : CalV yX9_move cX9_move 3 (some .int) 2 := ⟨win_at 971 (by decide +kernel) (by decide +kernel), win_at 972 (by decide +kernel) (by decide +kernel), w_init_X9, win_at 973 (by decide +kernel) (by decide +kernel), ⟨by decide, by decide, by decide +kernel⟩, by decide⟩
theorem k_X9_rewind : CalV yX9_rewind cX9_rewind 3 (some .int) 2 := ⟨win_at 978 (by decide +kernel) (by decide +kernel), win_at 979 (by decide +kernel) (by decide +kernel), w_init_X9, win_at 980 (by decide +kernel) (by decide +kernel), ⟨by decide, by decide, by decide +kernel⟩, by decide⟩
theorem k_X9_corrupt : CalV yX9_corrupt cX9_corrupt 4 (some .int) 3 := ⟨win_at 985 (by decide +kernel) (by decide +kernel), win_at 986 (by decide +kernel) (by decide +kernel), w_init_X9, win_at 987 (by decide +kernel) (by decide +kernel), ⟨by decide, by decide, by decide +kernel⟩, by decide⟩
theorem k_X9_heal : CalV yX9_heal cX9_heal 3 (some .int) 2 := ⟨win_at 992 (by decide +kernel) (by decide +kernel), win_at 993 (by decide +kernel) (by decide +kernel), w_init_X9, win_at 994 (by decide +kernel) (by decide +kernel), ⟨by decide, by decide, by decide +kernel⟩, by decide⟩
theorem k_X9_length : CalV yX9_length cX9_length 2 (some .int) 1 := ⟨win_at 999 (by decide +kernel) (by decide +kernel), win_at 1000 (by decide +kernel) (by decide +kernel), w_init_X9, win_at 1001 (by decide +kernel) (by decide +kernel), ⟨by decide, by decide, by decide +kernel⟩, by decide⟩
theorem k_X9_requireBranch : CalV yX9_requireBranch cX9_requireBranch 2 none 1 := ⟨win_at 1004 (by decide +kernel) (by decide +kernel), win_at 5 (by decide +kernel) (by decide +kernel), w_init_X9, win_at 1005 (by decide +kernel) (by decide +kernel), ⟨by decide, by decide, by decide +kernel⟩, by decide⟩
theorem k_X9_entry : CalV yX9_entry cX9_entry 4 (some .int) 3 := ⟨win_at 1012 (by decide +kernel) (by decide +kernel), win_at 1013 (by decide +kernel) (by decide +kernel), w_init_X9, win_at 1014 (by decide +kernel) (by decide +kernel), ⟨by decide, by decide, by decide +kernel⟩, by decide⟩
theorem k_X9_requirePart : CalS yX9_requirePart cX9_requirePart 2 none 2 := ⟨win_at 1018 (by decide +kernel) (by decide +kernel), w_init_X9, win_at 1019 (by decide +kernel) (by decide +kernel), ⟨by decide, by decide, by decide +kernel⟩, by decide⟩
theorem k_X1_partOf : CalV yX1_partOf cX1_partOf 3 (some .int) 2 := ⟨win_at 1022 (by decide +kernel) (by decide +kernel), win_at 1023 (by decide +kernel) (by decide +kernel), w_init_X1, win_at 1024 (by decide +kernel) (by decide +kernel), ⟨by decide, by decide, by decide +kernel⟩, by decide⟩
theorem k_X9_value : CalV yX9_value cX9_value 3 (some .int) 2 := ⟨win_at 1030 (by decide +kernel) (by decide +kernel), win_at 1031 (by decide +kernel) (by decide +kernel), w_init_X9, win_at 1032 (by decide +kernel) (by decide +kernel), ⟨by decide, by decide, by decide +kernel⟩, by decide⟩
theorem k_X9_branchOf : CalV yX9_branchOf cX9_branchOf 2 (some .int) 1 := ⟨win_at 1040 (by decide +kernel) (by decide +kernel), win_at 1041 (by decide +kernel) (by decide +kernel), w_init_X9, win_at 1042 (by decide +kernel) (by decide +kernel), ⟨by decide, by decide, by decide +kernel⟩, by decide⟩
theorem k_X9_commonLength : CalV yX9_commonLength cX9_commonLength 3 (some .int) 2 := ⟨win_at 1047 (by decide +kernel) (by decide +kernel), win_at 1048 (by decide +kernel) (by decide +kernel), w_init_X9, win_at 1049 (by decide +kernel) (by decide +kernel), ⟨by decide, by decide, by decide +kernel⟩, by decide⟩
theorem k_X9_conflicts : CalV yX9_conflicts cX9_conflicts 3 (some .int) 2 := ⟨win_at 1055 (by decide +kernel) (by decide +kernel), win_at 1056 (by decide +kernel) (by decide +kernel), w_init_X9, win_at 1057 (by decide +kernel) (by decide +kernel), ⟨by decide, by decide, by decide +kernel⟩, by decide⟩
theorem k_X9_receipt : CalV yX9_receipt cX9_receipt 4 (some .int) 2 := ⟨win_at 1063 (by decide +kernel) (by decide +kernel), win_at 1064 (by decide +kernel) (by decide +kernel), w_init_X9, win_at 1065 (by decide +kernel) (by decide +kernel), ⟨by decide, by decide, by decide +kernel⟩, by decide⟩
theorem k_X9_hashAt : CalV yX9_hashAt cX9_hashAt 3 (some .int) 2 := ⟨win_at 1071 (by decide +kernel) (by decide +kernel), win_at 1072 (by decide +kernel) (by decide +kernel), w_init_X9, win_at 1073 (by decide +kernel) (by decide +kernel), ⟨by decide, by decide, by decide +kernel⟩, by decide⟩
theorem k_X9_vector : CalV yX9_vector cX9_vector 3 (some .int) 2 := ⟨win_at 1079 (by decide +kernel) (by decide +kernel), win_at 1080 (by decide +kernel) (by decide +kernel), w_init_X9, win_at 1081 (by decide +kernel) (by decide +kernel), ⟨by decide, by decide, by decide +kernel⟩, by decide⟩
theorem k_X9_order : CalV yX9_order cX9_order 3 (some .int) 2 := ⟨win_at 1086 (by decide +kernel) (by decide +kernel), win_at 1087 (by decide +kernel) (by decide +kernel), w_init_X9, win_at 1088 (by decide +kernel) (by decide +kernel), ⟨by decide, by decide, by decide +kernel⟩, by decide⟩
theorem k_X2_orderTo : CalV yX2_orderTo cX2_orderTo 5 (some .int) 1 := ⟨win_at 1090 (by decide +kernel) (by decide +kernel), win_at 1091 (by decide +kernel) (by decide +kernel), w_init_X2, win_at 1092 (by decide +kernel) (by decide +kernel), ⟨by decide, by decide, by decide +kernel⟩, by decide⟩
theorem k_X9_isSuspicious : CalV yX9_isSuspicious cX9_isSuspicious 2 (some .boolean) 1 := ⟨win_at 1097 (by decide +kernel) (by decide +kernel), win_at 1098 (by decide +kernel) (by decide +kernel), w_init_X9, win_at 1099 (by decide +kernel) (by decide +kernel), ⟨by decide, by decide, by decide +kernel⟩, by decide⟩
theorem k_X9_wouldFind : CalV yX9_wouldFind cX9_wouldFind 2 (some .int) 1 := ⟨win_at 1104 (by decide +kernel) (by decide +kernel), win_at 1105 (by decide +kernel) (by decide +kernel), w_init_X9, win_at 1106 (by decide +kernel) (by decide +kernel), ⟨by decide, by decide, by decide +kernel⟩, by decide⟩
theorem k_X9_seenBy : CalV yX9_seenBy cX9_seenBy 6 (some .int) 1 := ⟨win_at 1112 (by decide +kernel) (by decide +kernel), win_at 1113 (by decide +kernel) (by decide +kernel), w_init_X9, win_at 1114 (by decide +kernel) (by decide +kernel), ⟨by decide, by decide, by decide +kernel⟩, by decide⟩
theorem k_X9_blame : CalV yX9_blame cX9_blame 3 (some .int) 2 := ⟨win_at 1119 (by decide +kernel) (by decide +kernel), win_at 1120 (by decide +kernel) (by decide +kernel), w_init_X9, win_at 1121 (by decide +kernel) (by decide +kernel), ⟨by decide, by decide, by decide +kernel⟩, by decide⟩
theorem k_X4_hasRow : CalV yX4_hasRow cX4_hasRow 2 (some .boolean) 1 := ⟨win_at 1123 (by decide +kernel) (by decide +kernel), win_at 1124 (by decide +kernel) (by decide +kernel), w_init_X4, win_at 1125 (by decide +kernel) (by decide +kernel), ⟨by decide, by decide, by decide +kernel⟩, by decide⟩
theorem k_X9_boardPost : CalV yX9_boardPost cX9_boardPost 3 (some .int) 2 := ⟨win_at 1132 (by decide +kernel) (by decide +kernel), win_at 1133 (by decide +kernel) (by decide +kernel), w_init_X9, win_at 1134 (by decide +kernel) (by decide +kernel), ⟨by decide, by decide, by decide +kernel⟩, by decide⟩
theorem k_X9_requirePost : CalV yX9_requirePost cX9_requirePost 2 none 1 := ⟨win_at 1137 (by decide +kernel) (by decide +kernel), win_at 6 (by decide +kernel) (by decide +kernel), w_init_X9, win_at 1138 (by decide +kernel) (by decide +kernel), ⟨by decide, by decide, by decide +kernel⟩, by decide⟩
theorem k_X9_checkPost : CalV yX9_checkPost cX9_checkPost 5 (some .int) 2 := ⟨win_at 1144 (by decide +kernel) (by decide +kernel), win_at 1145 (by decide +kernel) (by decide +kernel), w_init_X9, win_at 1146 (by decide +kernel) (by decide +kernel), ⟨by decide, by decide, by decide +kernel⟩, by decide⟩
theorem k_X10_thrown : CalV yX10_thrown cX10_thrown 1 (some .int) 0 := ⟨win_at 1276 (by decide +kernel) (by decide +kernel), win_at 1277 (by decide +kernel) (by decide +kernel), w_init_X10, win_at 1278 (by decide +kernel) (by decide +kernel), ⟨by decide, by decide, by decide +kernel⟩, by decide⟩
theorem k_X10_write : CalV yX10_write cX10_write 4 (some .int) 3 := ⟨win_at 1280 (by decide +kernel) (by decide +kernel), win_at 1281 (by decide +kernel) (by decide +kernel), w_init_X10, win_at 1282 (by decide +kernel) (by decide +kernel), ⟨by decide, by decide, by decide +kernel⟩, by decide⟩
theorem k_X10_isClient : CalV yX10_isClient cX10_isClient 2 (some .boolean) 1 := ⟨win_at 1285 (by decide +kernel) (by decide +kernel), win_at 7 (by decide +kernel) (by decide +kernel), w_init_X10, win_at 1286 (by decide +kernel) (by decide +kernel), ⟨by decide, by decide, by decide +kernel⟩, by decide⟩
theorem k_X10_in : CalS yX10_in cX10_in 3 (some .boolean) 3 := ⟨win_at 1288 (by decide +kernel) (by decide +kernel), w_init_X10, win_at 1289 (by decide +kernel) (by decide +kernel), ⟨by decide, by decide, by decide +kernel⟩, by decide⟩
theorem k_X10_isBlock : CalV yX10_isBlock cX10_isBlock 2 (some .boolean) 1 := ⟨win_at 1292 (by decide +kernel) (by decide +kernel), win_at 8 (by decide +kernel) (by decide +kernel), w_init_X10, win_at 1293 (by decide +kernel) (by decide +kernel), ⟨by decide, by decide, by decide +kernel⟩, by decide⟩
theorem k_X10_refuse : CalV yX10_refuse cX10_refuse 2 (some .int) 1 := ⟨win_at 1296 (by decide +kernel) (by decide +kernel), win_at 9 (by decide +kernel) (by decide +kernel), w_init_X10, win_at 1297 (by decide +kernel) (by decide +kernel), ⟨by decide, by decide, by decide +kernel⟩, by decide⟩
theorem k_X10_operates : CalV yX10_operates cX10_operates 7 (some .boolean) 4 := ⟨win_at 1301 (by decide +kernel) (by decide +kernel), win_at 10 (by decide +kernel) (by decide +kernel), w_init_X10, win_at 1302 (by decide +kernel) (by decide +kernel), ⟨by decide, by decide, by decide +kernel⟩, by decide⟩
theorem k_X10_finds : CalV yX10_finds cX10_finds 6 (some .int) 1 := ⟨win_at 1305 (by decide +kernel) (by decide +kernel), win_at 11 (by decide +kernel) (by decide +kernel), w_init_X10, win_at 1306 (by decide +kernel) (by decide +kernel), ⟨by decide, by decide, by decide +kernel⟩, by decide⟩
theorem k_X10_hashOf : CalV yX10_hashOf cX10_hashOf 3 (some .int) 2 := ⟨win_at 1309 (by decide +kernel) (by decide +kernel), win_at 12 (by decide +kernel) (by decide +kernel), w_init_X10, win_at 1310 (by decide +kernel) (by decide +kernel), ⟨by decide, by decide, by decide +kernel⟩, by decide⟩
theorem k_X10_at : CalS yX10_at cX10_at 2 (some .int) 2 := ⟨win_at 1312 (by decide +kernel) (by decide +kernel), w_init_X10, win_at 1313 (by decide +kernel) (by decide +kernel), ⟨by decide, by decide, by decide +kernel⟩, by decide⟩
theorem k_X10_ownHash : CalV yX10_ownHash cX10_ownHash 2 (some .int) 1 := ⟨win_at 1316 (by decide +kernel) (by decide +kernel), win_at 13 (by decide +kernel) (by decide +kernel), w_init_X10, win_at 1317 (by decide +kernel) (by decide +kernel), ⟨by decide, by decide, by decide +kernel⟩, by decide⟩
theorem k_X10_hashIn : CalV yX10_hashIn cX10_hashIn 3 (some .int) 2 := ⟨win_at 1320 (by decide +kernel) (by decide +kernel), win_at 14 (by decide +kernel) (by decide +kernel), w_init_X10, win_at 1321 (by decide +kernel) (by decide +kernel), ⟨by decide, by decide, by decide +kernel⟩, by decide⟩
theorem k_X10_computed : CalV yX10_computed cX10_computed 8 (some .int) 2 := ⟨win_at 1324 (by decide +kernel) (by decide +kernel), win_at 15 (by decide +kernel) (by decide +kernel), w_init_X10, win_at 1325 (by decide +kernel) (by decide +kernel), ⟨by decide, by decide, by decide +kernel⟩, by decide⟩
theorem k_X10_rest : CalS yX10_rest cX10_rest 2 (some .int) 1 := ⟨win_at 1329 (by decide +kernel) (by decide +kernel), w_init_X10, win_at 1330 (by decide +kernel) (by decide +kernel), ⟨by decide, by decide, by decide +kernel⟩, by decide⟩
theorem k_X10_suspects : CalV yX10_suspects cX10_suspects 5 none 2 := ⟨win_at 1337 (by decide +kernel) (by decide +kernel), win_at 16 (by decide +kernel) (by decide +kernel), w_init_X10, win_at 1338 (by decide +kernel) (by decide +kernel), ⟨by decide, by decide, by decide +kernel⟩, by decide⟩
theorem k_X10_blames : CalV yX10_blames cX10_blames 8 none 6 := ⟨win_at 1341 (by decide +kernel) (by decide +kernel), win_at 17 (by decide +kernel) (by decide +kernel), w_init_X10, win_at 1342 (by decide +kernel) (by decide +kernel), ⟨by decide, by decide, by decide +kernel⟩, by decide⟩
theorem k_X10_append : CalV yX10_append cX10_append 8 none 6 := ⟨win_at 1345 (by decide +kernel) (by decide +kernel), win_at 18 (by decide +kernel) (by decide +kernel), w_init_X10, win_at 1346 (by decide +kernel) (by decide +kernel), ⟨by decide, by decide, by decide +kernel⟩, by decide⟩
theorem k_X10_takes : CalV yX10_takes cX10_takes 5 none 2 := ⟨win_at 1349 (by decide +kernel) (by decide +kernel), win_at 19 (by decide +kernel) (by decide +kernel), w_init_X10, win_at 1350 (by decide +kernel) (by decide +kernel), ⟨by decide, by decide, by decide +kernel⟩, by decide⟩
theorem k_X10_putsPost : CalV yX10_putsPost cX10_putsPost 3 none 1 := ⟨win_at 1353 (by decide +kernel) (by decide +kernel), win_at 20 (by decide +kernel) (by decide +kernel), w_init_X10, win_at 1354 (by decide +kernel) (by decide +kernel), ⟨by decide, by decide, by decide +kernel⟩, by decide⟩
theorem k_X10_read : CalV yX10_read cX10_read 3 (some .int) 2 := ⟨win_at 1357 (by decide +kernel) (by decide +kernel), win_at 1358 (by decide +kernel) (by decide +kernel), w_init_X10, win_at 1359 (by decide +kernel) (by decide +kernel), ⟨by decide, by decide, by decide +kernel⟩, by decide⟩
theorem k_X10_valueIn : CalV yX10_valueIn cX10_valueIn 5 (some .int) 2 := ⟨win_at 1362 (by decide +kernel) (by decide +kernel), win_at 21 (by decide +kernel) (by decide +kernel), w_init_X10, win_at 1363 (by decide +kernel) (by decide +kernel), ⟨by decide, by decide, by decide +kernel⟩, by decide⟩
theorem k_X10_exchange : CalV yX10_exchange cX10_exchange 4 (some .int) 2 := ⟨win_at 1365 (by decide +kernel) (by decide +kernel), win_at 1366 (by decide +kernel) (by decide +kernel), w_init_X10, win_at 1367 (by decide +kernel) (by decide +kernel), ⟨by decide, by decide, by decide +kernel⟩, by decide⟩
theorem k_X10_areForked : CalV yX10_areForked cX10_areForked 4 (some .boolean) 2 := ⟨win_at 1370 (by decide +kernel) (by decide +kernel), win_at 22 (by decide +kernel) (by decide +kernel), w_init_X10, win_at 1371 (by decide +kernel) (by decide +kernel), ⟨by decide, by decide, by decide +kernel⟩, by decide⟩
theorem k_X10_lowerOf : CalV yX10_lowerOf cX10_lowerOf 3 (some .int) 2 := ⟨win_at 1374 (by decide +kernel) (by decide +kernel), win_at 23 (by decide +kernel) (by decide +kernel), w_init_X10, win_at 1375 (by decide +kernel) (by decide +kernel), ⟨by decide, by decide, by decide +kernel⟩, by decide⟩
theorem k_X10_post : CalV yX10_post cX10_post 2 (some .int) 1 := ⟨win_at 1377 (by decide +kernel) (by decide +kernel), win_at 1378 (by decide +kernel) (by decide +kernel), w_init_X10, win_at 1379 (by decide +kernel) (by decide +kernel), ⟨by decide, by decide, by decide +kernel⟩, by decide⟩
theorem k_X10_calm : CalV yX10_calm cX10_calm 3 (some .boolean) 1 := ⟨win_at 1381 (by decide +kernel) (by decide +kernel), win_at 1382 (by decide +kernel) (by decide +kernel), w_init_X10, win_at 1383 (by decide +kernel) (by decide +kernel), ⟨by decide, by decide, by decide +kernel⟩, by decide⟩
theorem k_X10_adopt : CalV yX10_adopt cX10_adopt 2 (some .int) 1 := ⟨win_at 1385 (by decide +kernel) (by decide +kernel), win_at 1386 (by decide +kernel) (by decide +kernel), w_init_X10, win_at 1387 (by decide +kernel) (by decide +kernel), ⟨by decide, by decide, by decide +kernel⟩, by decide⟩
theorem k_X10_fork : CalV yX10_fork cX10_fork 4 (some .int) 1 := ⟨win_at 1389 (by decide +kernel) (by decide +kernel), win_at 1390 (by decide +kernel) (by decide +kernel), w_init_X10, win_at 1391 (by decide +kernel) (by decide +kernel), ⟨by decide, by decide, by decide +kernel⟩, by decide⟩
theorem k_X10_seenByAll : CalV yX10_seenByAll cX10_seenByAll 4 (some .int) 1 := ⟨win_at 1394 (by decide +kernel) (by decide +kernel), win_at 24 (by decide +kernel) (by decide +kernel), w_init_X10, win_at 1395 (by decide +kernel) (by decide +kernel), ⟨by decide, by decide, by decide +kernel⟩, by decide⟩
theorem k_X10_has : CalS yX10_has cX10_has 2 (some .boolean) 2 := ⟨win_at 1397 (by decide +kernel) (by decide +kernel), w_init_X10, win_at 1398 (by decide +kernel) (by decide +kernel), ⟨by decide, by decide, by decide +kernel⟩, by decide⟩
theorem k_X10_copies : CalV yX10_copies cX10_copies 7 none 3 := ⟨win_at 1401 (by decide +kernel) (by decide +kernel), win_at 25 (by decide +kernel) (by decide +kernel), w_init_X10, win_at 1402 (by decide +kernel) (by decide +kernel), ⟨by decide, by decide, by decide +kernel⟩, by decide⟩
theorem k_X10_move : CalV yX10_move cX10_move 4 (some .int) 2 := ⟨win_at 1404 (by decide +kernel) (by decide +kernel), win_at 1405 (by decide +kernel) (by decide +kernel), w_init_X10, win_at 1406 (by decide +kernel) (by decide +kernel), ⟨by decide, by decide, by decide +kernel⟩, by decide⟩
theorem k_X10_isBranch : CalV yX10_isBranch cX10_isBranch 2 (some .boolean) 1 := ⟨win_at 1409 (by decide +kernel) (by decide +kernel), win_at 26 (by decide +kernel) (by decide +kernel), w_init_X10, win_at 1410 (by decide +kernel) (by decide +kernel), ⟨by decide, by decide, by decide +kernel⟩, by decide⟩
theorem k_X10_rewind : CalV yX10_rewind cX10_rewind 3 (some .int) 2 := ⟨win_at 1412 (by decide +kernel) (by decide +kernel), win_at 1413 (by decide +kernel) (by decide +kernel), w_init_X10, win_at 1414 (by decide +kernel) (by decide +kernel), ⟨by decide, by decide, by decide +kernel⟩, by decide⟩
theorem k_X10_corrupt : CalV yX10_corrupt cX10_corrupt 6 (some .int) 3 := ⟨win_at 1416 (by decide +kernel) (by decide +kernel), win_at 1417 (by decide +kernel) (by decide +kernel), w_init_X10, win_at 1418 (by decide +kernel) (by decide +kernel), ⟨by decide, by decide, by decide +kernel⟩, by decide⟩
theorem k_X10_isEntry : CalV yX10_isEntry cX10_isEntry 3 (some .boolean) 2 := ⟨win_at 1421 (by decide +kernel) (by decide +kernel), win_at 27 (by decide +kernel) (by decide +kernel), w_init_X10, win_at 1422 (by decide +kernel) (by decide +kernel), ⟨by decide, by decide, by decide +kernel⟩, by decide⟩
theorem k_X10_heal : CalV yX10_heal cX10_heal 8 (some .int) 2 := ⟨win_at 1424 (by decide +kernel) (by decide +kernel), win_at 1425 (by decide +kernel) (by decide +kernel), w_init_X10, win_at 1426 (by decide +kernel) (by decide +kernel), ⟨by decide, by decide, by decide +kernel⟩, by decide⟩
theorem k_X10_common : CalV yX10_common cX10_common 4 (some .int) 2 := ⟨win_at 1429 (by decide +kernel) (by decide +kernel), win_at 28 (by decide +kernel) (by decide +kernel), w_init_X10, win_at 1430 (by decide +kernel) (by decide +kernel), ⟨by decide, by decide, by decide +kernel⟩, by decide⟩
theorem k_X10_conflictsOf : CalV yX10_conflictsOf cX10_conflictsOf 4 (some .int) 2 := ⟨win_at 1433 (by decide +kernel) (by decide +kernel), win_at 29 (by decide +kernel) (by decide +kernel), w_init_X10, win_at 1434 (by decide +kernel) (by decide +kernel), ⟨by decide, by decide, by decide +kernel⟩, by decide⟩
theorem k_X10_touched : CalV yX10_touched cX10_touched 8 (some .int) 3 := ⟨win_at 1437 (by decide +kernel) (by decide +kernel), win_at 30 (by decide +kernel) (by decide +kernel), w_init_X10, win_at 1438 (by decide +kernel) (by decide +kernel), ⟨by decide, by decide, by decide +kernel⟩, by decide⟩
theorem k_X10_comesOver : CalV yX10_comesOver cX10_comesOver 5 none 4 := ⟨win_at 1441 (by decide +kernel) (by decide +kernel), win_at 31 (by decide +kernel) (by decide +kernel), w_init_X10, win_at 1442 (by decide +kernel) (by decide +kernel), ⟨by decide, by decide, by decide +kernel⟩, by decide⟩
theorem k_X10_goesWith : CalV yX10_goesWith cX10_goesWith 4 (some .boolean) 1 := ⟨win_at 1445 (by decide +kernel) (by decide +kernel), win_at 32 (by decide +kernel) (by decide +kernel), w_init_X10, win_at 1446 (by decide +kernel) (by decide +kernel), ⟨by decide, by decide, by decide +kernel⟩, by decide⟩
theorem k_X10_feed : CalV yX10_feed cX10_feed 6 (some .int) 5 := ⟨win_at 1448 (by decide +kernel) (by decide +kernel), win_at 1449 (by decide +kernel) (by decide +kernel), w_init_X10, win_at 1450 (by decide +kernel) (by decide +kernel), ⟨by decide, by decide, by decide +kernel⟩, by decide⟩
theorem k_X10_puts : CalV yX10_puts cX10_puts 3 none 1 := ⟨win_at 1453 (by decide +kernel) (by decide +kernel), win_at 33 (by decide +kernel) (by decide +kernel), w_init_X10, win_at 1454 (by decide +kernel) (by decide +kernel), ⟨by decide, by decide, by decide +kernel⟩, by decide⟩
theorem k_X10_errorCode : CalV yX10_errorCode cX10_errorCode 1 (some .int) 0 := ⟨win_at 1456 (by decide +kernel) (by decide +kernel), win_at 1457 (by decide +kernel) (by decide +kernel), w_init_X10, win_at 1458 (by decide +kernel) (by decide +kernel), ⟨by decide, by decide, by decide +kernel⟩, by decide⟩
theorem k_X10_told : CalV yX10_told cX10_told 2 (some .int) 1 := ⟨win_at 1461 (by decide +kernel) (by decide +kernel), win_at 34 (by decide +kernel) (by decide +kernel), w_init_X10, win_at 1462 (by decide +kernel) (by decide +kernel), ⟨by decide, by decide, by decide +kernel⟩, by decide⟩
theorem k_X10_errorPosition : CalV yX10_errorPosition cX10_errorPosition 1 (some .int) 0 := ⟨win_at 1464 (by decide +kernel) (by decide +kernel), win_at 1465 (by decide +kernel) (by decide +kernel), w_init_X10, win_at 1466 (by decide +kernel) (by decide +kernel), ⟨by decide, by decide, by decide +kernel⟩, by decide⟩
theorem k_X10_refused : CalV yX10_refused cX10_refused 1 (some .int) 0 := ⟨win_at 1468 (by decide +kernel) (by decide +kernel), win_at 1469 (by decide +kernel) (by decide +kernel), w_init_X10, win_at 1470 (by decide +kernel) (by decide +kernel), ⟨by decide, by decide, by decide +kernel⟩, by decide⟩
theorem k_X10_load : CalV yX10_load cX10_load 2 (some .int) 1 := ⟨win_at 1472 (by decide +kernel) (by decide +kernel), win_at 1473 (by decide +kernel) (by decide +kernel), w_init_X10, win_at 1474 (by decide +kernel) (by decide +kernel), ⟨by decide, by decide, by decide +kernel⟩, by decide⟩
theorem k_X10_opensText : CalV yX10_opensText cX10_opensText 2 none 1 := ⟨win_at 1477 (by decide +kernel) (by decide +kernel), win_at 35 (by decide +kernel) (by decide +kernel), w_init_X10, win_at 1478 (by decide +kernel) (by decide +kernel), ⟨by decide, by decide, by decide +kernel⟩, by decide⟩
theorem k_X10_readService : CalV yX10_readService cX10_readService 1 (some .boolean) 0 := ⟨win_at 1481 (by decide +kernel) (by decide +kernel), win_at 36 (by decide +kernel) (by decide +kernel), w_init_X10, win_at 1482 (by decide +kernel) (by decide +kernel), ⟨by decide, by decide, by decide +kernel⟩, by decide⟩
theorem k_X10_takesWord : CalV yX10_takesWord cX10_takesWord 3 (some .boolean) 1 := ⟨win_at 1486 (by decide +kernel) (by decide +kernel), win_at 37 (by decide +kernel) (by decide +kernel), w_init_X10, win_at 1487 (by decide +kernel) (by decide +kernel), ⟨by decide, by decide, by decide +kernel⟩, by decide⟩
theorem k_X10_readWord : CalV yX10_readWord cX10_readWord 2 (some .boolean) 0 := ⟨win_at 1490 (by decide +kernel) (by decide +kernel), win_at 38 (by decide +kernel) (by decide +kernel), w_init_X10, win_at 1491 (by decide +kernel) (by decide +kernel), ⟨by decide, by decide, by decide +kernel⟩, by decide⟩
theorem k_X10_peek : CalV yX10_peek cX10_peek 1 (some .int) 0 := ⟨win_at 1494 (by decide +kernel) (by decide +kernel), win_at 39 (by decide +kernel) (by decide +kernel), w_init_X10, win_at 1495 (by decide +kernel) (by decide +kernel), ⟨by decide, by decide, by decide +kernel⟩, by decide⟩
theorem k_X10_byteAt : CalV yX10_byteAt cX10_byteAt 2 (some .int) 1 := ⟨win_at 1498 (by decide +kernel) (by decide +kernel), win_at 40 (by decide +kernel) (by decide +kernel), w_init_X10, win_at 1499 (by decide +kernel) (by decide +kernel), ⟨by decide, by decide, by decide +kernel⟩, by decide⟩
theorem k_X10_isLetter : CalS yX10_isLetter cX10_isLetter 1 (some .boolean) 1 := ⟨win_at 1501 (by decide +kernel) (by decide +kernel), w_init_X10, win_at 1502 (by decide +kernel) (by decide +kernel), ⟨by decide, by decide, by decide +kernel⟩, by decide⟩
theorem k_X10_fails : CalV yX10_fails cX10_fails 3 (some .boolean) 2 := ⟨win_at 1505 (by decide +kernel) (by decide +kernel), win_at 41 (by decide +kernel) (by decide +kernel), w_init_X10, win_at 1506 (by decide +kernel) (by decide +kernel), ⟨by decide, by decide, by decide +kernel⟩, by decide⟩
theorem k_X10_readNumber : CalV yX10_readNumber cX10_readNumber 4 (some .boolean) 2 := ⟨win_at 1511 (by decide +kernel) (by decide +kernel), win_at 42 (by decide +kernel) (by decide +kernel), w_init_X10, win_at 1512 (by decide +kernel) (by decide +kernel), ⟨by decide, by decide, by decide +kernel⟩, by decide⟩
theorem k_X10_isDigit : CalS yX10_isDigit cX10_isDigit 1 (some .boolean) 1 := ⟨win_at 1514 (by decide +kernel) (by decide +kernel), w_init_X10, win_at 1515 (by decide +kernel) (by decide +kernel), ⟨by decide, by decide, by decide +kernel⟩, by decide⟩
theorem k_X10_readSemicolon : CalV yX10_readSemicolon cX10_readSemicolon 1 (some .boolean) 0 := ⟨win_at 1520 (by decide +kernel) (by decide +kernel), win_at 43 (by decide +kernel) (by decide +kernel), w_init_X10, win_at 1521 (by decide +kernel) (by decide +kernel), ⟨by decide, by decide, by decide +kernel⟩, by decide⟩
theorem k_X10_startAnew : CalV yX10_startAnew cX10_startAnew 2 none 0 := ⟨win_at 1524 (by decide +kernel) (by decide +kernel), win_at 44 (by decide +kernel) (by decide +kernel), w_init_X10, win_at 1525 (by decide +kernel) (by decide +kernel), ⟨by decide, by decide, by decide +kernel⟩, by decide⟩
theorem k_X10_run : CalV yX10_run cX10_run 4 (some .int) 1 := ⟨win_at 1527 (by decide +kernel) (by decide +kernel), win_at 1528 (by decide +kernel) (by decide +kernel), w_init_X10, win_at 1529 (by decide +kernel) (by decide +kernel), ⟨by decide, by decide, by decide +kernel⟩, by decide⟩
theorem k_X10_readScript : CalV yX10_readScript cX10_readScript 1 (some .boolean) 0 := ⟨win_at 1532 (by decide +kernel) (by decide +kernel), win_at 45 (by decide +kernel) (by decide +kernel), w_init_X10, win_at 1533 (by decide +kernel) (by decide +kernel), ⟨by decide, by decide, by decide +kernel⟩, by decide⟩
theorem k_X10_readStep : CalV yX10_readStep cX10_readStep 2 (some .boolean) 0 := ⟨win_at 1536 (by decide +kernel) (by decide +kernel), win_at 46 (by decide +kernel) (by decide +kernel), w_init_X10, win_at 1537 (by decide +kernel) (by decide +kernel), ⟨by decide, by decide, by decide +kernel⟩, by decide⟩
theorem k_X10_readOperation : CalV yX10_readOperation cX10_readOperation 3 (some .boolean) 0 := ⟨win_at 1540 (by decide +kernel) (by decide +kernel), win_at 47 (by decide +kernel) (by decide +kernel), w_init_X10, win_at 1541 (by decide +kernel) (by decide +kernel), ⟨by decide, by decide, by decide +kernel⟩, by decide⟩
theorem k_X10_isTooMany : CalV yX10_isTooMany cX10_isTooMany 2 (some .boolean) 1 := ⟨win_at 1544 (by decide +kernel) (by decide +kernel), win_at 48 (by decide +kernel) (by decide +kernel), w_init_X10, win_at 1545 (by decide +kernel) (by decide +kernel), ⟨by decide, by decide, by decide +kernel⟩, by decide⟩
theorem k_X10_readInto : CalV yX10_readInto cX10_readInto 4 (some .boolean) 3 := ⟨win_at 1550 (by decide +kernel) (by decide +kernel), win_at 49 (by decide +kernel) (by decide +kernel), w_init_X10, win_at 1551 (by decide +kernel) (by decide +kernel), ⟨by decide, by decide, by decide +kernel⟩, by decide⟩
theorem k_X10_stepOf : CalV yX10_stepOf cX10_stepOf 3 (some .int) 1 := ⟨win_at 1554 (by decide +kernel) (by decide +kernel), win_at 50 (by decide +kernel) (by decide +kernel), w_init_X10, win_at 1555 (by decide +kernel) (by decide +kernel), ⟨by decide, by decide, by decide +kernel⟩, by decide⟩
theorem k_X10_readRest : CalV yX10_readRest cX10_readRest 2 (some .boolean) 1 := ⟨win_at 1565 (by decide +kernel) (by decide +kernel), win_at 51 (by decide +kernel) (by decide +kernel), w_init_X10, win_at 1566 (by decide +kernel) (by decide +kernel), ⟨by decide, by decide, by decide +kernel⟩, by decide⟩
theorem k_X10_readFork : CalV yX10_readFork cX10_readFork 2 (some .boolean) 0 := ⟨win_at 1569 (by decide +kernel) (by decide +kernel), win_at 52 (by decide +kernel) (by decide +kernel), w_init_X10, win_at 1570 (by decide +kernel) (by decide +kernel), ⟨by decide, by decide, by decide +kernel⟩, by decide⟩
theorem k_X10_readClient : CalV yX10_readClient cX10_readClient 2 (some .boolean) 1 := ⟨win_at 1573 (by decide +kernel) (by decide +kernel), win_at 53 (by decide +kernel) (by decide +kernel), w_init_X10, win_at 1574 (by decide +kernel) (by decide +kernel), ⟨by decide, by decide, by decide +kernel⟩, by decide⟩
theorem k_X10_readBranch : CalV yX10_readBranch cX10_readBranch 2 (some .boolean) 1 := ⟨win_at 1577 (by decide +kernel) (by decide +kernel), win_at 54 (by decide +kernel) (by decide +kernel), w_init_X10, win_at 1578 (by decide +kernel) (by decide +kernel), ⟨by decide, by decide, by decide +kernel⟩, by decide⟩
theorem k_X10_doesStep : CalV yX10_doesStep cX10_doesStep 5 (some .int) 1 := ⟨win_at 1581 (by decide +kernel) (by decide +kernel), win_at 55 (by decide +kernel) (by decide +kernel), w_init_X10, win_at 1582 (by decide +kernel) (by decide +kernel), ⟨by decide, by decide, by decide +kernel⟩, by decide⟩
theorem k_X10_clients : CalV yX10_clients cX10_clients 1 (some .int) 0 := ⟨win_at 1593 (by decide +kernel) (by decide +kernel), win_at 1594 (by decide +kernel) (by decide +kernel), w_init_X10, win_at 1595 (by decide +kernel) (by decide +kernel), ⟨by decide, by decide, by decide +kernel⟩, by decide⟩
theorem k_X10_blocks : CalV yX10_blocks cX10_blocks 1 (some .int) 0 := ⟨win_at 1597 (by decide +kernel) (by decide +kernel), win_at 1598 (by decide +kernel) (by decide +kernel), w_init_X10, win_at 1599 (by decide +kernel) (by decide +kernel), ⟨by decide, by decide, by decide +kernel⟩, by decide⟩
theorem k_X10_branches : CalV yX10_branches cX10_branches 1 (some .int) 0 := ⟨win_at 1601 (by decide +kernel) (by decide +kernel), win_at 1602 (by decide +kernel) (by decide +kernel), w_init_X10, win_at 1603 (by decide +kernel) (by decide +kernel), ⟨by decide, by decide, by decide +kernel⟩, by decide⟩
theorem k_X10_length : CalV yX10_length cX10_length 2 (some .int) 1 := ⟨win_at 1605 (by decide +kernel) (by decide +kernel), win_at 1606 (by decide +kernel) (by decide +kernel), w_init_X10, win_at 1607 (by decide +kernel) (by decide +kernel), ⟨by decide, by decide, by decide +kernel⟩, by decide⟩
theorem k_X10_entry : CalV yX10_entry cX10_entry 5 (some .int) 3 := ⟨win_at 1609 (by decide +kernel) (by decide +kernel), win_at 1610 (by decide +kernel) (by decide +kernel), w_init_X10, win_at 1611 (by decide +kernel) (by decide +kernel), ⟨by decide, by decide, by decide +kernel⟩, by decide⟩
theorem k_X10_value : CalV yX10_value cX10_value 3 (some .int) 2 := ⟨win_at 1613 (by decide +kernel) (by decide +kernel), win_at 1614 (by decide +kernel) (by decide +kernel), w_init_X10, win_at 1615 (by decide +kernel) (by decide +kernel), ⟨by decide, by decide, by decide +kernel⟩, by decide⟩
theorem k_X10_branchOf : CalV yX10_branchOf cX10_branchOf 2 (some .int) 1 := ⟨win_at 1617 (by decide +kernel) (by decide +kernel), win_at 1618 (by decide +kernel) (by decide +kernel), w_init_X10, win_at 1619 (by decide +kernel) (by decide +kernel), ⟨by decide, by decide, by decide +kernel⟩, by decide⟩
theorem k_X10_commonLength : CalV yX10_commonLength cX10_commonLength 3 (some .int) 2 := ⟨win_at 1621 (by decide +kernel) (by decide +kernel), win_at 1622 (by decide +kernel) (by decide +kernel), w_init_X10, win_at 1623 (by decide +kernel) (by decide +kernel), ⟨by decide, by decide, by decide +kernel⟩, by decide⟩
theorem k_X10_conflicts : CalV yX10_conflicts cX10_conflicts 3 (some .int) 2 := ⟨win_at 1625 (by decide +kernel) (by decide +kernel), win_at 1626 (by decide +kernel) (by decide +kernel), w_init_X10, win_at 1627 (by decide +kernel) (by decide +kernel), ⟨by decide, by decide, by decide +kernel⟩, by decide⟩
theorem k_X10_receipt : CalV yX10_receipt cX10_receipt 3 (some .int) 2 := ⟨win_at 1629 (by decide +kernel) (by decide +kernel), win_at 1630 (by decide +kernel) (by decide +kernel), w_init_X10, win_at 1631 (by decide +kernel) (by decide +kernel), ⟨by decide, by decide, by decide +kernel⟩, by decide⟩
theorem k_X10_signature : CalS yX10_signature cX10_signature 3 (some .int) 3 := ⟨win_at 1633 (by decide +kernel) (by decide +kernel), w_init_X10, win_at 1634 (by decide +kernel) (by decide +kernel), ⟨by decide, by decide, by decide +kernel⟩, by decide⟩
theorem k_X10_isSigned : CalV yX10_isSigned cX10_isSigned 5 (some .boolean) 4 := ⟨win_at 1639 (by decide +kernel) (by decide +kernel), win_at 1640 (by decide +kernel) (by decide +kernel), w_init_X10, win_at 1641 (by decide +kernel) (by decide +kernel), ⟨by decide, by decide, by decide +kernel⟩, by decide⟩
theorem k_X10_hashAt : CalV yX10_hashAt cX10_hashAt 3 (some .int) 2 := ⟨win_at 1644 (by decide +kernel) (by decide +kernel), win_at 1645 (by decide +kernel) (by decide +kernel), w_init_X10, win_at 1646 (by decide +kernel) (by decide +kernel), ⟨by decide, by decide, by decide +kernel⟩, by decide⟩
theorem k_X10_vector : CalV yX10_vector cX10_vector 3 (some .int) 2 := ⟨win_at 1648 (by decide +kernel) (by decide +kernel), win_at 1649 (by decide +kernel) (by decide +kernel), w_init_X10, win_at 1650 (by decide +kernel) (by decide +kernel), ⟨by decide, by decide, by decide +kernel⟩, by decide⟩
theorem k_X10_number : CalV yX10_number cX10_number 3 (some .int) 2 := ⟨win_at 1653 (by decide +kernel) (by decide +kernel), win_at 56 (by decide +kernel) (by decide +kernel), w_init_X10, win_at 1654 (by decide +kernel) (by decide +kernel), ⟨by decide, by decide, by decide +kernel⟩, by decide⟩
theorem k_X10_order : CalV yX10_order cX10_order 6 (some .int) 2 := ⟨win_at 1656 (by decide +kernel) (by decide +kernel), win_at 1657 (by decide +kernel) (by decide +kernel), w_init_X10, win_at 1658 (by decide +kernel) (by decide +kernel), ⟨by decide, by decide, by decide +kernel⟩, by decide⟩
theorem k_X10_isSuspicious : CalV yX10_isSuspicious cX10_isSuspicious 2 (some .boolean) 1 := ⟨win_at 1660 (by decide +kernel) (by decide +kernel), win_at 1661 (by decide +kernel) (by decide +kernel), w_init_X10, win_at 1662 (by decide +kernel) (by decide +kernel), ⟨by decide, by decide, by decide +kernel⟩, by decide⟩
theorem k_X10_wouldFind : CalV yX10_wouldFind cX10_wouldFind 2 (some .int) 1 := ⟨win_at 1664 (by decide +kernel) (by decide +kernel), win_at 1665 (by decide +kernel) (by decide +kernel), w_init_X10, win_at 1666 (by decide +kernel) (by decide +kernel), ⟨by decide, by decide, by decide +kernel⟩, by decide⟩
theorem k_X10_forkedPairs : CalV yX10_forkedPairs cX10_forkedPairs 4 (some .int) 0 := ⟨win_at 1668 (by decide +kernel) (by decide +kernel), win_at 1669 (by decide +kernel) (by decide +kernel), w_init_X10, win_at 1670 (by decide +kernel) (by decide +kernel), ⟨by decide, by decide, by decide +kernel⟩, by decide⟩
theorem k_X10_seenBy : CalV yX10_seenBy cX10_seenBy 5 (some .int) 1 := ⟨win_at 1672 (by decide +kernel) (by decide +kernel), win_at 1673 (by decide +kernel) (by decide +kernel), w_init_X10, win_at 1674 (by decide +kernel) (by decide +kernel), ⟨by decide, by decide, by decide +kernel⟩, by decide⟩
theorem k_X10_blames_ : CalV yX10_blames_ cX10_blames_ 1 (some .int) 0 := ⟨win_at 1676 (by decide +kernel) (by decide +kernel), win_at 1677 (by decide +kernel) (by decide +kernel), w_init_X10, win_at 1678 (by decide +kernel) (by decide +kernel), ⟨by decide, by decide, by decide +kernel⟩, by decide⟩
theorem k_X10_blame : CalV yX10_blame cX10_blame 3 (some .int) 2 := ⟨win_at 1680 (by decide +kernel) (by decide +kernel), win_at 1681 (by decide +kernel) (by decide +kernel), w_init_X10, win_at 1682 (by decide +kernel) (by decide +kernel), ⟨by decide, by decide, by decide +kernel⟩, by decide⟩
theorem k_X10_posts : CalV yX10_posts cX10_posts 1 (some .int) 0 := ⟨win_at 1684 (by decide +kernel) (by decide +kernel), win_at 1685 (by decide +kernel) (by decide +kernel), w_init_X10, win_at 1686 (by decide +kernel) (by decide +kernel), ⟨by decide, by decide, by decide +kernel⟩, by decide⟩
theorem k_X10_boardPost : CalV yX10_boardPost cX10_boardPost 3 (some .int) 2 := ⟨win_at 1688 (by decide +kernel) (by decide +kernel), win_at 1689 (by decide +kernel) (by decide +kernel), w_init_X10, win_at 1690 (by decide +kernel) (by decide +kernel), ⟨by decide, by decide, by decide +kernel⟩, by decide⟩
theorem k_X10_checkPost : CalV yX10_checkPost cX10_checkPost 4 (some .int) 2 := ⟨win_at 1692 (by decide +kernel) (by decide +kernel), win_at 1693 (by decide +kernel) (by decide +kernel), w_init_X10, win_at 1694 (by decide +kernel) (by decide +kernel), ⟨by decide, by decide, by decide +kernel⟩, by decide⟩
end
